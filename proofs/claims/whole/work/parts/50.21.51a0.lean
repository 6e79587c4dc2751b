theorem rs_RX13_928 : mx_res RX13 928 = some (1, 532, 4) := by decide +kernel
theorem rs_RX13_1061 : mx_res RX13 1061 = some (1, 570, 2) := by decide +kernel
theorem rs_RX13_1093 : mx_res RX13 1093 = some (1, 576, 1) := by decide +kernel
theorem rs_RX13_1122 : mx_res RX13 1122 = some (1, 589, 2) := by decide +kernel
theorem rs_RX13_1125 : mx_res RX13 1125 = some (1, 588, 1) := by decide +kernel
theorem mt_X13_call : mx_mt 591 = some (yX13_call, cX13_call, 12, none) := rfl
theorem dX13_call_0 : decode cX13_call 0 = .ok (.aload_n 0, 1) := by decide +kernel
theorem dX13_call_1 : decode cX13_call 1 = .ok (.getfield 294, 3) := by decide +kernel
theorem dX13_call_4 : decode cX13_call 4 = .ok (.aload_n 0, 1) := by decide +kernel
theorem dX13_call_5 : decode cX13_call 5 = .ok (.getfield 1058, 3) := by decide +kernel
theorem dX13_call_8 : decode cX13_call 8 = .ok (.iconst 1, 1) := by decide +kernel
theorem dX13_call_9 : decode cX13_call 9 = .ok (.isub, 1) := by decide +kernel
theorem dX13_call_10 : decode cX13_call 10 = .ok (.iaload, 1) := by decide +kernel
theorem dX13_call_11 : decode cX13_call 11 = .ok (.bipush 8, 2) := by decide +kernel
theorem dX13_call_13 : decode cX13_call 13 = .ok (.isub, 1) := by decide +kernel
theorem dX13_call_14 : decode cX13_call 14 = .ok (.istore_n 3, 1) := by decide +kernel
theorem dX13_call_15 : decode cX13_call 15 = .ok (.sipush 6000, 3) := by decide +kernel
theorem dX13_call_18 : decode cX13_call 18 = .ok (.iload_n 3, 1) := by decide +kernel
theorem dX13_call_19 : decode cX13_call 19 = .ok (.imul, 1) := by decide +kernel
theorem dX13_call_20 : decode cX13_call 20 = .ok (.aload_n 0, 1) := by decide +kernel
theorem dX13_call_21 : decode cX13_call 21 = .ok (.getfield 215, 3) := by decide +kernel
theorem dX13_call_24 : decode cX13_call 24 = .ok (.sipush 256, 3) := by decide +kernel
theorem dX13_call_27 : decode cX13_call 27 = .ok (.iload_n 3, 1) := by decide +kernel
theorem dX13_call_28 : decode cX13_call 28 = .ok (.imul, 1) := by decide +kernel
theorem dX13_call_29 : decode cX13_call 29 = .ok (.aload_n 0, 1) := by decide +kernel
theorem dX13_call_30 : decode cX13_call 30 = .ok (.iload_n 2, 1) := by decide +kernel
theorem dX13_call_31 : decode cX13_call 31 = .ok (.iconst 2, 1) := by decide +kernel
theorem dX13_call_32 : decode cX13_call 32 = .ok (.invokevirtual 1122, 3) := by decide +kernel
theorem dX13_call_35 : decode cX13_call 35 = .ok (.iadd, 1) := by decide +kernel
theorem dX13_call_36 : decode cX13_call 36 = .ok (.iaload, 1) := by decide +kernel
theorem dX13_call_37 : decode cX13_call 37 = .ok (.iadd, 1) := by decide +kernel
theorem dX13_call_38 : decode cX13_call 38 = .ok (.istore 4, 2) := by decide +kernel
theorem dX13_call_40 : decode cX13_call 40 = .ok (.aload_n 0, 1) := by decide +kernel
theorem dX13_call_41 : decode cX13_call 41 = .ok (.getfield 209, 3) := by decide +kernel
theorem dX13_call_44 : decode cX13_call 44 = .ok (.iload 4, 2) := by decide +kernel
theorem dX13_call_46 : decode cX13_call 46 = .ok (.iconst 2, 1) := by decide +kernel
theorem dX13_call_47 : decode cX13_call 47 = .ok (.iadd, 1) := by decide +kernel
theorem dX13_call_48 : decode cX13_call 48 = .ok (.aload_n 0, 1) := by decide +kernel
theorem dX13_call_49 : decode cX13_call 49 = .ok (.getfield 209, 3) := by decide +kernel
theorem dX13_call_52 : decode cX13_call 52 = .ok (.iload 4, 2) := by decide +kernel
theorem dX13_call_54 : decode cX13_call 54 = .ok (.iconst 1, 1) := by decide +kernel
theorem dX13_call_55 : decode cX13_call 55 = .ok (.iadd, 1) := by decide +kernel
theorem dX13_call_56 : decode cX13_call 56 = .ok (.iaload, 1) := by decide +kernel
theorem dX13_call_57 : decode cX13_call 57 = .ok (.invokestatic 785, 3) := by decide +kernel
theorem dX13_call_60 : decode cX13_call 60 = .ok (.iload_n 1, 1) := by decide +kernel
theorem dX13_call_61 : decode cX13_call 61 = .ok (.sipush 182, 3) := by decide +kernel
theorem dX13_call_64 : decode cX13_call 64 = .ok (.if_icmp .ne 7, 3) := by decide +kernel
theorem dX13_call_67 : decode cX13_call 67 = .ok (.iconst 1, 1) := by decide +kernel
theorem dX13_call_68 : decode cX13_call 68 = .ok (.goto 4, 3) := by decide +kernel
theorem dX13_call_71 : decode cX13_call 71 = .ok (.iconst 0, 1) := by decide +kernel
theorem dX13_call_72 : decode cX13_call 72 = .ok (.iadd, 1) := by decide +kernel
theorem dX13_call_73 : decode cX13_call 73 = .ok (.istore 5, 2) := by decide +kernel
theorem dX13_call_75 : decode cX13_call 75 = .ok (.aload_n 0, 1) := by decide +kernel
theorem dX13_call_76 : decode cX13_call 76 = .ok (.getfield 1058, 3) := by decide +kernel
theorem dX13_call_79 : decode cX13_call 79 = .ok (.iconst 1, 1) := by decide +kernel
theorem dX13_call_80 : decode cX13_call 80 = .ok (.isub, 1) := by decide +kernel
theorem dX13_call_81 : decode cX13_call 81 = .ok (.istore 6, 2) := by decide +kernel
theorem dX13_call_83 : decode cX13_call 83 = .ok (.bipush 60, 2) := by decide +kernel
theorem dX13_call_85 : decode cX13_call 85 = .ok (.iload 6, 2) := by decide +kernel
theorem dX13_call_87 : decode cX13_call 87 = .ok (.imul, 1) := by decide +kernel
theorem dX13_call_88 : decode cX13_call 88 = .ok (.bipush 30, 2) := by decide +kernel
theorem dX13_call_90 : decode cX13_call 90 = .ok (.iadd, 1) := by decide +kernel
theorem dX13_call_91 : decode cX13_call 91 = .ok (.aload_n 0, 1) := by decide +kernel
theorem dX13_call_92 : decode cX13_call 92 = .ok (.getfield 303, 3) := by decide +kernel
theorem dX13_call_95 : decode cX13_call 95 = .ok (.iload 6, 2) := by decide +kernel
theorem dX13_call_97 : decode cX13_call 97 = .ok (.iaload, 1) := by decide +kernel
theorem dX13_call_98 : decode cX13_call 98 = .ok (.iadd, 1) := by decide +kernel
theorem dX13_call_99 : decode cX13_call 99 = .ok (.iload 5, 2) := by decide +kernel
theorem dX13_call_101 : decode cX13_call 101 = .ok (.isub, 1) := by decide +kernel
theorem dX13_call_102 : decode cX13_call 102 = .ok (.istore 7, 2) := by decide +kernel
theorem dX13_call_104 : decode cX13_call 104 = .ok (.aload_n 0, 1) := by decide +kernel
theorem dX13_call_105 : decode cX13_call 105 = .ok (.aload_n 0, 1) := by decide +kernel
theorem dX13_call_106 : decode cX13_call 106 = .ok (.iload_n 2, 1) := by decide +kernel
theorem dX13_call_107 : decode cX13_call 107 = .ok (.iconst 0, 1) := by decide +kernel
theorem dX13_call_108 : decode cX13_call 108 = .ok (.invokevirtual 1122, 3) := by decide +kernel
theorem dX13_call_111 : decode cX13_call 111 = .ok (.invokevirtual 1125, 3) := by decide +kernel
theorem dX13_call_114 : decode cX13_call 114 = .ok (.istore 8, 2) := by decide +kernel
theorem dX13_call_116 : decode cX13_call 116 = .ok (.iload_n 1, 1) := by decide +kernel
theorem dX13_call_117 : decode cX13_call 117 = .ok (.sipush 182, 3) := by decide +kernel
theorem dX13_call_120 : decode cX13_call 120 = .ok (.if_icmp .ne 48, 3) := by decide +kernel
theorem dX13_call_123 : decode cX13_call 123 = .ok (.aload_n 0, 1) := by decide +kernel
theorem dX13_call_124 : decode cX13_call 124 = .ok (.getfield 306, 3) := by decide +kernel
theorem dX13_call_127 : decode cX13_call 127 = .ok (.iload 7, 2) := by decide +kernel
theorem dX13_call_129 : decode cX13_call 129 = .ok (.iaload, 1) := by decide +kernel
theorem dX13_call_130 : decode cX13_call 130 = .ok (.istore 9, 2) := by decide +kernel
theorem dX13_call_132 : decode cX13_call 132 = .ok (.iload 9, 2) := by decide +kernel
theorem dX13_call_134 : decode cX13_call 134 = .ok (.ifCond .ne 9, 3) := by decide +kernel
theorem dX13_call_137 : decode cX13_call 137 = .ok (.aload_n 0, 1) := by decide +kernel
theorem dX13_call_138 : decode cX13_call 138 = .ok (.iconst 2, 1) := by decide +kernel
theorem dX13_call_139 : decode cX13_call 139 = .ok (.invokevirtual 1093, 3) := by decide +kernel
theorem dX13_call_142 : decode cX13_call 142 = .ok (.return_, 1) := by decide +kernel
theorem dX13_call_143 : decode cX13_call 143 = .ok (.aload_n 0, 1) := by decide +kernel
theorem dX13_call_144 : decode cX13_call 144 = .ok (.getfield 279, 3) := by decide +kernel
theorem dX13_call_147 : decode cX13_call 147 = .ok (.iload 9, 2) := by decide +kernel
theorem dX13_call_149 : decode cX13_call 149 = .ok (.iaload, 1) := by decide +kernel
theorem dX13_call_150 : decode cX13_call 150 = .ok (.bipush 99, 2) := by decide +kernel
theorem dX13_call_152 : decode cX13_call 152 = .ok (.if_icmp .lt 7, 3) := by decide +kernel
theorem dX13_call_155 : decode cX13_call 155 = .ok (.iconst 0, 1) := by decide +kernel
theorem dX13_call_156 : decode cX13_call 156 = .ok (.goto 10, 3) := by decide +kernel
theorem dX13_call_159 : decode cX13_call 159 = .ok (.aload_n 0, 1) := by decide +kernel
theorem dX13_call_160 : decode cX13_call 160 = .ok (.getfield 279, 3) := by decide +kernel
theorem dX13_call_163 : decode cX13_call 163 = .ok (.iload 9, 2) := by decide +kernel
theorem dX13_call_165 : decode cX13_call 165 = .ok (.iaload, 1) := by decide +kernel
theorem dX13_call_166 : decode cX13_call 166 = .ok (.istore 8, 2) := by decide +kernel
theorem dX13_call_168 : decode cX13_call 168 = .ok (.aload_n 0, 1) := by decide +kernel
theorem dX13_call_169 : decode cX13_call 169 = .ok (.iload 8, 2) := by decide +kernel
theorem dX13_call_171 : decode cX13_call 171 = .ok (.iload_n 3, 1) := by decide +kernel
theorem dX13_call_172 : decode cX13_call 172 = .ok (.aload_n 0, 1) := by decide +kernel
theorem dX13_call_173 : decode cX13_call 173 = .ok (.iload_n 2, 1) := by decide +kernel
theorem dX13_call_174 : decode cX13_call 174 = .ok (.iconst 1, 1) := by decide +kernel
theorem dX13_call_175 : decode cX13_call 175 = .ok (.invokevirtual 1122, 3) := by decide +kernel
theorem dX13_call_178 : decode cX13_call 178 = .ok (.iconst 1, 1) := by decide +kernel
theorem dX13_call_179 : decode cX13_call 179 = .ok (.invokevirtual 928, 3) := by decide +kernel
theorem dX13_call_182 : decode cX13_call 182 = .ok (.istore 9, 2) := by decide +kernel
theorem dX13_call_184 : decode cX13_call 184 = .ok (.aload_n 0, 1) := by decide +kernel
theorem dX13_call_185 : decode cX13_call 185 = .ok (.getfield 898, 3) := by decide +kernel
theorem dX13_call_188 : decode cX13_call 188 = .ok (.istore 10, 2) := by decide +kernel
theorem dX13_call_190 : decode cX13_call 190 = .ok (.aload_n 0, 1) := by decide +kernel
theorem dX13_call_191 : decode cX13_call 191 = .ok (.getfield 1058, 3) := by decide +kernel
theorem dX13_call_194 : decode cX13_call 194 = .ok (.bipush 60, 2) := by decide +kernel
theorem dX13_call_196 : decode cX13_call 196 = .ok (.if_icmp .ne 9, 3) := by decide +kernel
theorem dX13_call_199 : decode cX13_call 199 = .ok (.aload_n 0, 1) := by decide +kernel
theorem dX13_call_200 : decode cX13_call 200 = .ok (.iconst 5, 1) := by decide +kernel
theorem dX13_call_201 : decode cX13_call 201 = .ok (.putfield 858, 3) := by decide +kernel
theorem dX13_call_204 : decode cX13_call 204 = .ok (.return_, 1) := by decide +kernel
theorem dX13_call_205 : decode cX13_call 205 = .ok (.aload_n 0, 1) := by decide +kernel
theorem dX13_call_206 : decode cX13_call 206 = .ok (.getfield 303, 3) := by decide +kernel
theorem dX13_call_209 : decode cX13_call 209 = .ok (.iload 6, 2) := by decide +kernel
theorem dX13_call_211 : decode cX13_call 211 = .ok (.dup2, 1) := by decide +kernel
theorem dX13_call_212 : decode cX13_call 212 = .ok (.iaload, 1) := by decide +kernel
theorem dX13_call_213 : decode cX13_call 213 = .ok (.iload 5, 2) := by decide +kernel
theorem dX13_call_215 : decode cX13_call 215 = .ok (.isub, 1) := by decide +kernel
theorem dX13_call_216 : decode cX13_call 216 = .ok (.iastore, 1) := by decide +kernel
theorem dX13_call_217 : decode cX13_call 217 = .ok (.aload_n 0, 1) := by decide +kernel
theorem dX13_call_218 : decode cX13_call 218 = .ok (.iload 9, 2) := by decide +kernel
theorem dX13_call_220 : decode cX13_call 220 = .ok (.iload 10, 2) := by decide +kernel
theorem dX13_call_222 : decode cX13_call 222 = .ok (.invokevirtual 1061, 3) := by decide +kernel
theorem dX13_call_225 : decode cX13_call 225 = .ok (.iconst 0, 1) := by decide +kernel
theorem dX13_call_226 : decode cX13_call 226 = .ok (.istore 11, 2) := by decide +kernel
theorem dX13_call_228 : decode cX13_call 228 = .ok (.iload 11, 2) := by decide +kernel
theorem dX13_call_230 : decode cX13_call 230 = .ok (.iload 5, 2) := by decide +kernel
theorem dX13_call_232 : decode cX13_call 232 = .ok (.if_icmp .ge 36, 3) := by decide +kernel
theorem dX13_call_235 : decode cX13_call 235 = .ok (.aload_n 0, 1) := by decide +kernel
theorem dX13_call_236 : decode cX13_call 236 = .ok (.getfield 306, 3) := by decide +kernel
theorem dX13_call_239 : decode cX13_call 239 = .ok (.bipush 60, 2) := by decide +kernel
theorem dX13_call_241 : decode cX13_call 241 = .ok (.aload_n 0, 1) := by decide +kernel
theorem dX13_call_242 : decode cX13_call 242 = .ok (.getfield 1058, 3) := by decide +kernel
theorem dX13_call_245 : decode cX13_call 245 = .ok (.iconst 1, 1) := by decide +kernel
theorem dX13_call_246 : decode cX13_call 246 = .ok (.isub, 1) := by decide +kernel
theorem dX13_call_247 : decode cX13_call 247 = .ok (.imul, 1) := by decide +kernel
theorem dX13_call_248 : decode cX13_call 248 = .ok (.iload 11, 2) := by decide +kernel
theorem dX13_call_250 : decode cX13_call 250 = .ok (.iadd, 1) := by decide +kernel
theorem dX13_call_251 : decode cX13_call 251 = .ok (.aload_n 0, 1) := by decide +kernel
theorem dX13_call_252 : decode cX13_call 252 = .ok (.getfield 306, 3) := by decide +kernel
theorem dX13_call_255 : decode cX13_call 255 = .ok (.iload 7, 2) := by decide +kernel
theorem dX13_call_257 : decode cX13_call 257 = .ok (.iload 11, 2) := by decide +kernel
theorem dX13_call_259 : decode cX13_call 259 = .ok (.iadd, 1) := by decide +kernel
theorem dX13_call_260 : decode cX13_call 260 = .ok (.iaload, 1) := by decide +kernel
theorem dX13_call_261 : decode cX13_call 261 = .ok (.iastore, 1) := by decide +kernel
theorem dX13_call_262 : decode cX13_call 262 = .ok (.iinc 11 1, 3) := by decide +kernel
theorem dX13_call_265 : decode cX13_call 265 = .ok (.goto (-37), 3) := by decide +kernel
theorem dX13_call_268 : decode cX13_call 268 = .ok (.return_, 1) := by decide +kernel
theorem mt_X13_cell : mx_mt 581 = some (yX13_cell, cX13_cell, 2, (some .int)) := rfl
theorem dX13_cell_0 : decode cX13_cell 0 = .ok (.aload_n 0, 1) := by decide +kernel
theorem dX13_cell_1 : decode cX13_cell 1 = .ok (.getfield 306, 3) := by decide +kernel
theorem dX13_cell_4 : decode cX13_cell 4 = .ok (.bipush 60, 2) := by decide +kernel
theorem dX13_cell_6 : decode cX13_cell 6 = .ok (.aload_n 0, 1) := by decide +kernel
theorem dX13_cell_7 : decode cX13_cell 7 = .ok (.getfield 1058, 3) := by decide +kernel
theorem dX13_cell_10 : decode cX13_cell 10 = .ok (.iconst 1, 1) := by decide +kernel
theorem dX13_cell_11 : decode cX13_cell 11 = .ok (.isub, 1) := by decide +kernel
theorem dX13_cell_12 : decode cX13_cell 12 = .ok (.imul, 1) := by decide +kernel
theorem dX13_cell_13 : decode cX13_cell 13 = .ok (.iload_n 1, 1) := by decide +kernel
theorem dX13_cell_14 : decode cX13_cell 14 = .ok (.iadd, 1) := by decide +kernel
theorem dX13_cell_15 : decode cX13_cell 15 = .ok (.iaload, 1) := by decide +kernel
theorem dX13_cell_16 : decode cX13_cell 16 = .ok (.ireturn, 1) := by decide +kernel
theorem mt_X13_storesIn : mx_mt 587 = some (yX13_storesIn, cX13_storesIn, 3, (some .boolean)) := rfl
theorem dX13_storesIn_0 : decode cX13_storesIn 0 = .ok (.aload_n 0, 1) := by decide +kernel
theorem dX13_storesIn_1 : decode cX13_storesIn 1 = .ok (.iload_n 1, 1) := by decide +kernel
theorem dX13_storesIn_2 : decode cX13_storesIn 2 = .ok (.iload_n 2, 1) := by decide +kernel
theorem dX13_storesIn_3 : decode cX13_storesIn 3 = .ok (.invokevirtual 1069, 3) := by decide +kernel
theorem dX13_storesIn_6 : decode cX13_storesIn 6 = .ok (.ireturn, 1) := by decide +kernel
theorem rs_RX13_1119 : mx_res RX13 1119 = some (1, 587, 2) := by decide +kernel
theorem mt_X13_element : mx_mt 586 = some (yX13_element, cX13_element, 5, none) := rfl
theorem dX13_element_0 : decode cX13_element 0 = .ok (.iload_n 1, 1) := by decide +kernel
theorem dX13_element_1 : decode cX13_element 1 = .ok (.bipush 50, 2) := by decide +kernel
theorem dX13_element_3 : decode cX13_element 3 = .ok (.if_icmp .le 10, 3) := by decide +kernel
theorem dX13_element_6 : decode cX13_element 6 = .ok (.aload_n 0, 1) := by decide +kernel
theorem dX13_element_7 : decode cX13_element 7 = .ok (.invokevirtual 1087, 3) := by decide +kernel
theorem dX13_element_10 : decode cX13_element 10 = .ok (.goto 4, 3) := by decide +kernel
theorem dX13_element_13 : decode cX13_element 13 = .ok (.iconst 0, 1) := by decide +kernel
theorem dX13_element_14 : decode cX13_element 14 = .ok (.istore_n 2, 1) := by decide +kernel
theorem dX13_element_15 : decode cX13_element 15 = .ok (.aload_n 0, 1) := by decide +kernel
theorem dX13_element_16 : decode cX13_element 16 = .ok (.invokevirtual 1087, 3) := by decide +kernel
theorem dX13_element_19 : decode cX13_element 19 = .ok (.istore_n 3, 1) := by decide +kernel
theorem dX13_element_20 : decode cX13_element 20 = .ok (.aload_n 0, 1) := by decide +kernel
theorem dX13_element_21 : decode cX13_element 21 = .ok (.invokevirtual 1087, 3) := by decide +kernel
theorem dX13_element_24 : decode cX13_element 24 = .ok (.istore 4, 2) := by decide +kernel
theorem dX13_element_26 : decode cX13_element 26 = .ok (.iload 4, 2) := by decide +kernel
theorem dX13_element_28 : decode cX13_element 28 = .ok (.ifCond .ne 11, 3) := by decide +kernel
theorem dX13_element_31 : decode cX13_element 31 = .ok (.aload_n 0, 1) := by decide +kernel
theorem dX13_element_32 : decode cX13_element 32 = .ok (.iconst 2, 1) := by decide +kernel
theorem dX13_element_33 : decode cX13_element 33 = .ok (.invokevirtual 1093, 3) := by decide +kernel
theorem dX13_element_36 : decode cX13_element 36 = .ok (.goto 110, 3) := by decide +kernel
theorem dX13_element_39 : decode cX13_element 39 = .ok (.iload_n 3, 1) := by decide +kernel
theorem dX13_element_40 : decode cX13_element 40 = .ok (.ifCond .lt 14, 3) := by decide +kernel
theorem dX13_element_43 : decode cX13_element 43 = .ok (.iload_n 3, 1) := by decide +kernel
theorem dX13_element_44 : decode cX13_element 44 = .ok (.aload_n 0, 1) := by decide +kernel
theorem dX13_element_45 : decode cX13_element 45 = .ok (.getfield 285, 3) := by decide +kernel
theorem dX13_element_48 : decode cX13_element 48 = .ok (.iload 4, 2) := by decide +kernel
theorem dX13_element_50 : decode cX13_element 50 = .ok (.iaload, 1) := by decide +kernel
theorem dX13_element_51 : decode cX13_element 51 = .ok (.if_icmp .lt 11, 3) := by decide +kernel
theorem dX13_element_54 : decode cX13_element 54 = .ok (.aload_n 0, 1) := by decide +kernel
theorem dX13_element_55 : decode cX13_element 55 = .ok (.iconst 3, 1) := by decide +kernel
theorem dX13_element_56 : decode cX13_element 56 = .ok (.invokevirtual 1093, 3) := by decide +kernel
theorem dX13_element_59 : decode cX13_element 59 = .ok (.goto 87, 3) := by decide +kernel
theorem dX13_element_62 : decode cX13_element 62 = .ok (.iload_n 1, 1) := by decide +kernel
theorem dX13_element_63 : decode cX13_element 63 = .ok (.bipush 83, 2) := by decide +kernel
theorem dX13_element_65 : decode cX13_element 65 = .ok (.if_icmp .ne 34, 3) := by decide +kernel
theorem dX13_element_68 : decode cX13_element 68 = .ok (.iload_n 2, 1) := by decide +kernel
theorem dX13_element_69 : decode cX13_element 69 = .ok (.ifCond .eq 30, 3) := by decide +kernel
theorem dX13_element_72 : decode cX13_element 72 = .ok (.aload_n 0, 1) := by decide +kernel
theorem dX13_element_73 : decode cX13_element 73 = .ok (.iload_n 2, 1) := by decide +kernel
theorem dX13_element_74 : decode cX13_element 74 = .ok (.aload_n 0, 1) := by decide +kernel
theorem dX13_element_75 : decode cX13_element 75 = .ok (.getfield 279, 3) := by decide +kernel
theorem dX13_element_78 : decode cX13_element 78 = .ok (.iload 4, 2) := by decide +kernel
theorem dX13_element_80 : decode cX13_element 80 = .ok (.iaload, 1) := by decide +kernel
theorem dX13_element_81 : decode cX13_element 81 = .ok (.bipush 100, 2) := by decide +kernel
theorem dX13_element_83 : decode cX13_element 83 = .ok (.isub, 1) := by decide +kernel
theorem dX13_element_84 : decode cX13_element 84 = .ok (.invokevirtual 1119, 3) := by decide +kernel
theorem dX13_element_87 : decode cX13_element 87 = .ok (.ifCond .ne 12, 3) := by decide +kernel
theorem dX13_element_90 : decode cX13_element 90 = .ok (.aload_n 0, 1) := by decide +kernel
theorem dX13_element_91 : decode cX13_element 91 = .ok (.bipush 7, 2) := by decide +kernel
theorem dX13_element_93 : decode cX13_element 93 = .ok (.invokevirtual 1093, 3) := by decide +kernel
theorem dX13_element_96 : decode cX13_element 96 = .ok (.goto 50, 3) := by decide +kernel
theorem dX13_element_99 : decode cX13_element 99 = .ok (.iload_n 1, 1) := by decide +kernel
theorem dX13_element_100 : decode cX13_element 100 = .ok (.bipush 50, 2) := by decide +kernel
theorem dX13_element_102 : decode cX13_element 102 = .ok (.if_icmp .le 21, 3) := by decide +kernel
theorem dX13_element_105 : decode cX13_element 105 = .ok (.aload_n 0, 1) := by decide +kernel
theorem dX13_element_106 : decode cX13_element 106 = .ok (.getfield 288, 3) := by decide +kernel
theorem dX13_element_109 : decode cX13_element 109 = .ok (.aload_n 0, 1) := by decide +kernel
theorem dX13_element_110 : decode cX13_element 110 = .ok (.getfield 282, 3) := by decide +kernel
theorem dX13_element_113 : decode cX13_element 113 = .ok (.iload 4, 2) := by decide +kernel
theorem dX13_element_115 : decode cX13_element 115 = .ok (.iaload, 1) := by decide +kernel
theorem dX13_element_116 : decode cX13_element 116 = .ok (.iload_n 3, 1) := by decide +kernel
theorem dX13_element_117 : decode cX13_element 117 = .ok (.iadd, 1) := by decide +kernel
theorem dX13_element_118 : decode cX13_element 118 = .ok (.iload_n 2, 1) := by decide +kernel
theorem dX13_element_119 : decode cX13_element 119 = .ok (.iastore, 1) := by decide +kernel
theorem dX13_element_120 : decode cX13_element 120 = .ok (.goto 21, 3) := by decide +kernel
theorem dX13_element_123 : decode cX13_element 123 = .ok (.aload_n 0, 1) := by decide +kernel
theorem dX13_element_124 : decode cX13_element 124 = .ok (.aload_n 0, 1) := by decide +kernel
theorem dX13_element_125 : decode cX13_element 125 = .ok (.getfield 288, 3) := by decide +kernel
theorem dX13_element_128 : decode cX13_element 128 = .ok (.aload_n 0, 1) := by decide +kernel
theorem dX13_element_129 : decode cX13_element 129 = .ok (.getfield 282, 3) := by decide +kernel
theorem dX13_element_132 : decode cX13_element 132 = .ok (.iload 4, 2) := by decide +kernel
theorem dX13_element_134 : decode cX13_element 134 = .ok (.iaload, 1) := by decide +kernel
theorem dX13_element_135 : decode cX13_element 135 = .ok (.iload_n 3, 1) := by decide +kernel
theorem dX13_element_136 : decode cX13_element 136 = .ok (.iadd, 1) := by decide +kernel
theorem dX13_element_137 : decode cX13_element 137 = .ok (.iaload, 1) := by decide +kernel
theorem dX13_element_138 : decode cX13_element 138 = .ok (.invokevirtual 1072, 3) := by decide +kernel
theorem dX13_element_141 : decode cX13_element 141 = .ok (.aload_n 0, 1) := by decide +kernel
theorem dX13_element_142 : decode cX13_element 142 = .ok (.iconst 1, 1) := by decide +kernel
theorem dX13_element_143 : decode cX13_element 143 = .ok (.invokevirtual 1116, 3) := by decide +kernel
theorem dX13_element_146 : decode cX13_element 146 = .ok (.return_, 1) := by decide +kernel
theorem mt_X13_fieldsOf : mx_mt 573 = some (yX13_fieldsOf, cX13_fieldsOf, 4, (some .int)) := rfl
theorem dX13_fieldsOf_0 : decode cX13_fieldsOf 0 = .ok (.iconst 0, 1) := by decide +kernel
theorem dX13_fieldsOf_1 : decode cX13_fieldsOf 1 = .ok (.istore_n 2, 1) := by decide +kernel
theorem dX13_fieldsOf_2 : decode cX13_fieldsOf 2 = .ok (.iload_n 1, 1) := by decide +kernel
theorem dX13_fieldsOf_3 : decode cX13_fieldsOf 3 = .ok (.istore_n 3, 1) := by decide +kernel
theorem dX13_fieldsOf_4 : decode cX13_fieldsOf 4 = .ok (.iload_n 3, 1) := by decide +kernel
theorem dX13_fieldsOf_5 : decode cX13_fieldsOf 5 = .ok (.iconst (-1), 1) := by decide +kernel
theorem dX13_fieldsOf_6 : decode cX13_fieldsOf 6 = .ok (.if_icmp .eq 34, 3) := by decide +kernel
theorem dX13_fieldsOf_9 : decode cX13_fieldsOf 9 = .ok (.iload_n 2, 1) := by decide +kernel
theorem dX13_fieldsOf_10 : decode cX13_fieldsOf 10 = .ok (.iload_n 3, 1) := by decide +kernel
theorem dX13_fieldsOf_11 : decode cX13_fieldsOf 11 = .ok (.bipush 8, 2) := by decide +kernel
theorem dX13_fieldsOf_13 : decode cX13_fieldsOf 13 = .ok (.if_icmp .ge 7, 3) := by decide +kernel
theorem dX13_fieldsOf_16 : decode cX13_fieldsOf 16 = .ok (.iconst 0, 1) := by decide +kernel
theorem dX13_fieldsOf_17 : decode cX13_fieldsOf 17 = .ok (.goto 12, 3) := by decide +kernel
theorem dX13_fieldsOf_20 : decode cX13_fieldsOf 20 = .ok (.aload_n 0, 1) := by decide +kernel
theorem dX13_fieldsOf_21 : decode cX13_fieldsOf 21 = .ok (.getfield 227, 3) := by decide +kernel
theorem dX13_fieldsOf_24 : decode cX13_fieldsOf 24 = .ok (.iload_n 3, 1) := by decide +kernel
theorem dX13_fieldsOf_25 : decode cX13_fieldsOf 25 = .ok (.bipush 8, 2) := by decide +kernel
theorem dX13_fieldsOf_27 : decode cX13_fieldsOf 27 = .ok (.isub, 1) := by decide +kernel
theorem dX13_fieldsOf_28 : decode cX13_fieldsOf 28 = .ok (.iaload, 1) := by decide +kernel
theorem dX13_fieldsOf_29 : decode cX13_fieldsOf 29 = .ok (.iadd, 1) := by decide +kernel
theorem dX13_fieldsOf_30 : decode cX13_fieldsOf 30 = .ok (.istore_n 2, 1) := by decide +kernel
theorem dX13_fieldsOf_31 : decode cX13_fieldsOf 31 = .ok (.aload_n 0, 1) := by decide +kernel
theorem dX13_fieldsOf_32 : decode cX13_fieldsOf 32 = .ok (.iload_n 3, 1) := by decide +kernel
theorem dX13_fieldsOf_33 : decode cX13_fieldsOf 33 = .ok (.invokevirtual 873, 3) := by decide +kernel
theorem dX13_fieldsOf_36 : decode cX13_fieldsOf 36 = .ok (.istore_n 3, 1) := by decide +kernel
theorem dX13_fieldsOf_37 : decode cX13_fieldsOf 37 = .ok (.goto (-33), 3) := by decide +kernel
theorem dX13_fieldsOf_40 : decode cX13_fieldsOf 40 = .ok (.iload_n 2, 1) := by decide +kernel
theorem dX13_fieldsOf_41 : decode cX13_fieldsOf 41 = .ok (.ireturn, 1) := by decide +kernel
theorem rs_RX13_1128 : mx_res RX13 1128 = some (1, 573, 1) := by decide +kernel
theorem mt_X13_fieldOf : mx_mt 590 = some (yX13_fieldOf, cX13_fieldOf, 8, none) := rfl
theorem dX13_fieldOf_0 : decode cX13_fieldOf 0 = .ok (.iload_n 1, 1) := by decide +kernel
theorem dX13_fieldOf_1 : decode cX13_fieldOf 1 = .ok (.sipush 181, 3) := by decide +kernel
theorem dX13_fieldOf_4 : decode cX13_fieldOf 4 = .ok (.if_icmp .ne 10, 3) := by decide +kernel
theorem dX13_fieldOf_7 : decode cX13_fieldOf 7 = .ok (.aload_n 0, 1) := by decide +kernel
theorem dX13_fieldOf_8 : decode cX13_fieldOf 8 = .ok (.invokevirtual 1087, 3) := by decide +kernel
theorem dX13_fieldOf_11 : decode cX13_fieldOf 11 = .ok (.goto 4, 3) := by decide +kernel
theorem dX13_fieldOf_14 : decode cX13_fieldOf 14 = .ok (.iconst 0, 1) := by decide +kernel
theorem dX13_fieldOf_15 : decode cX13_fieldOf 15 = .ok (.istore 4, 2) := by decide +kernel
theorem dX13_fieldOf_17 : decode cX13_fieldOf 17 = .ok (.aload_n 0, 1) := by decide +kernel
theorem dX13_fieldOf_18 : decode cX13_fieldOf 18 = .ok (.invokevirtual 1087, 3) := by decide +kernel
theorem dX13_fieldOf_21 : decode cX13_fieldOf 21 = .ok (.istore 5, 2) := by decide +kernel
theorem dX13_fieldOf_23 : decode cX13_fieldOf 23 = .ok (.iload 5, 2) := by decide +kernel
theorem dX13_fieldOf_25 : decode cX13_fieldOf 25 = .ok (.ifCond .ne 9, 3) := by decide +kernel
theorem dX13_fieldOf_28 : decode cX13_fieldOf 28 = .ok (.aload_n 0, 1) := by decide +kernel
theorem dX13_fieldOf_29 : decode cX13_fieldOf 29 = .ok (.iconst 2, 1) := by decide +kernel
theorem dX13_fieldOf_30 : decode cX13_fieldOf 30 = .ok (.invokevirtual 1093, 3) := by decide +kernel
theorem dX13_fieldOf_33 : decode cX13_fieldOf 33 = .ok (.return_, 1) := by decide +kernel
theorem dX13_fieldOf_34 : decode cX13_fieldOf 34 = .ok (.iload_n 1, 1) := by decide +kernel
theorem dX13_fieldOf_35 : decode cX13_fieldOf 35 = .ok (.sipush 190, 3) := by decide +kernel
theorem dX13_fieldOf_38 : decode cX13_fieldOf 38 = .ok (.if_icmp .ne 17, 3) := by decide +kernel
theorem dX13_fieldOf_41 : decode cX13_fieldOf 41 = .ok (.aload_n 0, 1) := by decide +kernel
theorem dX13_fieldOf_42 : decode cX13_fieldOf 42 = .ok (.aload_n 0, 1) := by decide +kernel
theorem dX13_fieldOf_43 : decode cX13_fieldOf 43 = .ok (.getfield 285, 3) := by decide +kernel
theorem dX13_fieldOf_46 : decode cX13_fieldOf 46 = .ok (.iload 5, 2) := by decide +kernel
theorem dX13_fieldOf_48 : decode cX13_fieldOf 48 = .ok (.iaload, 1) := by decide +kernel
theorem dX13_fieldOf_49 : decode cX13_fieldOf 49 = .ok (.invokevirtual 1072, 3) := by decide +kernel
theorem dX13_fieldOf_52 : decode cX13_fieldOf 52 = .ok (.goto 95, 3) := by decide +kernel
theorem dX13_fieldOf_55 : decode cX13_fieldOf 55 = .ok (.aload_n 0, 1) := by decide +kernel
theorem dX13_fieldOf_56 : decode cX13_fieldOf 56 = .ok (.aload_n 0, 1) := by decide +kernel
theorem dX13_fieldOf_57 : decode cX13_fieldOf 57 = .ok (.aload_n 0, 1) := by decide +kernel
theorem dX13_fieldOf_58 : decode cX13_fieldOf 58 = .ok (.iload_n 2, 1) := by decide +kernel
theorem dX13_fieldOf_59 : decode cX13_fieldOf 59 = .ok (.iconst 0, 1) := by decide +kernel
theorem dX13_fieldOf_60 : decode cX13_fieldOf 60 = .ok (.invokevirtual 1122, 3) := by decide +kernel
theorem dX13_fieldOf_63 : decode cX13_fieldOf 63 = .ok (.invokevirtual 1125, 3) := by decide +kernel
theorem dX13_fieldOf_66 : decode cX13_fieldOf 66 = .ok (.aload_n 0, 1) := by decide +kernel
theorem dX13_fieldOf_67 : decode cX13_fieldOf 67 = .ok (.getfield 294, 3) := by decide +kernel
theorem dX13_fieldOf_70 : decode cX13_fieldOf 70 = .ok (.aload_n 0, 1) := by decide +kernel
theorem dX13_fieldOf_71 : decode cX13_fieldOf 71 = .ok (.getfield 1058, 3) := by decide +kernel
theorem dX13_fieldOf_74 : decode cX13_fieldOf 74 = .ok (.iconst 1, 1) := by decide +kernel
theorem dX13_fieldOf_75 : decode cX13_fieldOf 75 = .ok (.isub, 1) := by decide +kernel
theorem dX13_fieldOf_76 : decode cX13_fieldOf 76 = .ok (.iaload, 1) := by decide +kernel
theorem dX13_fieldOf_77 : decode cX13_fieldOf 77 = .ok (.bipush 8, 2) := by decide +kernel
theorem dX13_fieldOf_79 : decode cX13_fieldOf 79 = .ok (.isub, 1) := by decide +kernel
theorem dX13_fieldOf_80 : decode cX13_fieldOf 80 = .ok (.aload_n 0, 1) := by decide +kernel
theorem dX13_fieldOf_81 : decode cX13_fieldOf 81 = .ok (.iload_n 2, 1) := by decide +kernel
theorem dX13_fieldOf_82 : decode cX13_fieldOf 82 = .ok (.iconst 1, 1) := by decide +kernel
theorem dX13_fieldOf_83 : decode cX13_fieldOf 83 = .ok (.invokevirtual 1122, 3) := by decide +kernel
theorem dX13_fieldOf_86 : decode cX13_fieldOf 86 = .ok (.iconst 0, 1) := by decide +kernel
theorem dX13_fieldOf_87 : decode cX13_fieldOf 87 = .ok (.invokevirtual 928, 3) := by decide +kernel
theorem dX13_fieldOf_90 : decode cX13_fieldOf 90 = .ok (.istore 6, 2) := by decide +kernel
theorem dX13_fieldOf_92 : decode cX13_fieldOf 92 = .ok (.aload_n 0, 1) := by decide +kernel
theorem dX13_fieldOf_93 : decode cX13_fieldOf 93 = .ok (.getfield 282, 3) := by decide +kernel
theorem dX13_fieldOf_96 : decode cX13_fieldOf 96 = .ok (.iload 5, 2) := by decide +kernel
theorem dX13_fieldOf_98 : decode cX13_fieldOf 98 = .ok (.iaload, 1) := by decide +kernel
theorem dX13_fieldOf_99 : decode cX13_fieldOf 99 = .ok (.aload_n 0, 1) := by decide +kernel
theorem dX13_fieldOf_100 : decode cX13_fieldOf 100 = .ok (.aload_n 0, 1) := by decide +kernel
theorem dX13_fieldOf_101 : decode cX13_fieldOf 101 = .ok (.iload 6, 2) := by decide +kernel
theorem dX13_fieldOf_103 : decode cX13_fieldOf 103 = .ok (.invokevirtual 873, 3) := by decide +kernel
theorem dX13_fieldOf_106 : decode cX13_fieldOf 106 = .ok (.invokevirtual 1128, 3) := by decide +kernel
theorem dX13_fieldOf_109 : decode cX13_fieldOf 109 = .ok (.iadd, 1) := by decide +kernel
theorem dX13_fieldOf_110 : decode cX13_fieldOf 110 = .ok (.aload_n 0, 1) := by decide +kernel
theorem dX13_fieldOf_111 : decode cX13_fieldOf 111 = .ok (.getfield 898, 3) := by decide +kernel
theorem dX13_fieldOf_114 : decode cX13_fieldOf 114 = .ok (.iadd, 1) := by decide +kernel
theorem dX13_fieldOf_115 : decode cX13_fieldOf 115 = .ok (.istore 7, 2) := by decide +kernel
theorem dX13_fieldOf_117 : decode cX13_fieldOf 117 = .ok (.iload_n 1, 1) := by decide +kernel
theorem dX13_fieldOf_118 : decode cX13_fieldOf 118 = .ok (.sipush 180, 3) := by decide +kernel
theorem dX13_fieldOf_121 : decode cX13_fieldOf 121 = .ok (.if_icmp .ne 17, 3) := by decide +kernel
theorem dX13_fieldOf_124 : decode cX13_fieldOf 124 = .ok (.aload_n 0, 1) := by decide +kernel
theorem dX13_fieldOf_125 : decode cX13_fieldOf 125 = .ok (.aload_n 0, 1) := by decide +kernel
theorem dX13_fieldOf_126 : decode cX13_fieldOf 126 = .ok (.getfield 288, 3) := by decide +kernel
theorem dX13_fieldOf_129 : decode cX13_fieldOf 129 = .ok (.iload 7, 2) := by decide +kernel
theorem dX13_fieldOf_131 : decode cX13_fieldOf 131 = .ok (.iaload, 1) := by decide +kernel
theorem dX13_fieldOf_132 : decode cX13_fieldOf 132 = .ok (.invokevirtual 1072, 3) := by decide +kernel
theorem dX13_fieldOf_135 : decode cX13_fieldOf 135 = .ok (.goto 12, 3) := by decide +kernel
theorem dX13_fieldOf_138 : decode cX13_fieldOf 138 = .ok (.aload_n 0, 1) := by decide +kernel
theorem dX13_fieldOf_139 : decode cX13_fieldOf 139 = .ok (.getfield 288, 3) := by decide +kernel
theorem dX13_fieldOf_142 : decode cX13_fieldOf 142 = .ok (.iload 7, 2) := by decide +kernel
theorem dX13_fieldOf_144 : decode cX13_fieldOf 144 = .ok (.iload 4, 2) := by decide +kernel
theorem dX13_fieldOf_146 : decode cX13_fieldOf 146 = .ok (.iastore, 1) := by decide +kernel
theorem dX13_fieldOf_147 : decode cX13_fieldOf 147 = .ok (.aload_n 0, 1) := by decide +kernel
theorem dX13_fieldOf_148 : decode cX13_fieldOf 148 = .ok (.iload_n 3, 1) := by decide +kernel
theorem dX13_fieldOf_149 : decode cX13_fieldOf 149 = .ok (.invokevirtual 1116, 3) := by decide +kernel
theorem dX13_fieldOf_152 : decode cX13_fieldOf 152 = .ok (.return_, 1) := by decide +kernel
theorem mt_X13_fresh_ : mx_mt 594 = some (yX13_fresh_, cX13_fresh_, 6, none) := rfl
theorem dX13_fresh__0 : decode cX13_fresh_ 0 = .ok (.iload_n 1, 1) := by decide +kernel
theorem dX13_fresh__1 : decode cX13_fresh_ 1 = .ok (.sipush 187, 3) := by decide +kernel
theorem dX13_fresh__4 : decode cX13_fresh_ 4 = .ok (.if_icmp .ne 7, 3) := by decide +kernel
theorem dX13_fresh__7 : decode cX13_fresh_ 7 = .ok (.iconst 0, 1) := by decide +kernel
theorem dX13_fresh__8 : decode cX13_fresh_ 8 = .ok (.goto 7, 3) := by decide +kernel
theorem dX13_fresh__11 : decode cX13_fresh_ 11 = .ok (.aload_n 0, 1) := by decide +kernel
theorem dX13_fresh__12 : decode cX13_fresh_ 12 = .ok (.invokevirtual 1087, 3) := by decide +kernel
theorem dX13_fresh__15 : decode cX13_fresh_ 15 = .ok (.istore_n 3, 1) := by decide +kernel
theorem dX13_fresh__16 : decode cX13_fresh_ 16 = .ok (.iload_n 3, 1) := by decide +kernel
theorem dX13_fresh__17 : decode cX13_fresh_ 17 = .ok (.ifCond .ge 10, 3) := by decide +kernel
theorem dX13_fresh__20 : decode cX13_fresh_ 20 = .ok (.aload_n 0, 1) := by decide +kernel
theorem dX13_fresh__21 : decode cX13_fresh_ 21 = .ok (.bipush 6, 2) := by decide +kernel
theorem dX13_fresh__23 : decode cX13_fresh_ 23 = .ok (.invokevirtual 1093, 3) := by decide +kernel
theorem dX13_fresh__26 : decode cX13_fresh_ 26 = .ok (.return_, 1) := by decide +kernel
theorem dX13_fresh__27 : decode cX13_fresh_ 27 = .ok (.iload_n 1, 1) := by decide +kernel
theorem dX13_fresh__28 : decode cX13_fresh_ 28 = .ok (.sipush 188, 3) := by decide +kernel
theorem dX13_fresh__31 : decode cX13_fresh_ 31 = .ok (.if_icmp .ne 7, 3) := by decide +kernel
theorem dX13_fresh__34 : decode cX13_fresh_ 34 = .ok (.iconst 0, 1) := by decide +kernel
theorem dX13_fresh__35 : decode cX13_fresh_ 35 = .ok (.goto 8, 3) := by decide +kernel
theorem dX13_fresh__38 : decode cX13_fresh_ 38 = .ok (.aload_n 0, 1) := by decide +kernel
theorem dX13_fresh__39 : decode cX13_fresh_ 39 = .ok (.iload_n 2, 1) := by decide +kernel
theorem dX13_fresh__40 : decode cX13_fresh_ 40 = .ok (.invokevirtual 1125, 3) := by decide +kernel
theorem dX13_fresh__43 : decode cX13_fresh_ 43 = .ok (.istore 4, 2) := by decide +kernel
theorem dX13_fresh__45 : decode cX13_fresh_ 45 = .ok (.iload_n 1, 1) := by decide +kernel
theorem dX13_fresh__46 : decode cX13_fresh_ 46 = .ok (.sipush 187, 3) := by decide +kernel
theorem dX13_fresh__49 : decode cX13_fresh_ 49 = .ok (.if_icmp .ne 18, 3) := by decide +kernel
theorem dX13_fresh__52 : decode cX13_fresh_ 52 = .ok (.aload_n 0, 1) := by decide +kernel
theorem dX13_fresh__53 : decode cX13_fresh_ 53 = .ok (.iload 4, 2) := by decide +kernel
theorem dX13_fresh__55 : decode cX13_fresh_ 55 = .ok (.aload_n 0, 1) := by decide +kernel
theorem dX13_fresh__56 : decode cX13_fresh_ 56 = .ok (.iload 4, 2) := by decide +kernel
theorem dX13_fresh__58 : decode cX13_fresh_ 58 = .ok (.invokevirtual 1128, 3) := by decide +kernel
theorem dX13_fresh__61 : decode cX13_fresh_ 61 = .ok (.invokevirtual 1064, 3) := by decide +kernel
theorem dX13_fresh__64 : decode cX13_fresh_ 64 = .ok (.goto 25, 3) := by decide +kernel
theorem dX13_fresh__67 : decode cX13_fresh_ 67 = .ok (.aload_n 0, 1) := by decide +kernel
theorem dX13_fresh__68 : decode cX13_fresh_ 68 = .ok (.iload_n 1, 1) := by decide +kernel
theorem dX13_fresh__69 : decode cX13_fresh_ 69 = .ok (.sipush 188, 3) := by decide +kernel
theorem dX13_fresh__72 : decode cX13_fresh_ 72 = .ok (.if_icmp .ne 8, 3) := by decide +kernel
theorem dX13_fresh__75 : decode cX13_fresh_ 75 = .ok (.bipush 99, 2) := by decide +kernel
theorem dX13_fresh__77 : decode cX13_fresh_ 77 = .ok (.goto 8, 3) := by decide +kernel
theorem dX13_fresh__80 : decode cX13_fresh_ 80 = .ok (.bipush 100, 2) := by decide +kernel
theorem dX13_fresh__82 : decode cX13_fresh_ 82 = .ok (.iload 4, 2) := by decide +kernel
theorem dX13_fresh__84 : decode cX13_fresh_ 84 = .ok (.iadd, 1) := by decide +kernel
theorem dX13_fresh__85 : decode cX13_fresh_ 85 = .ok (.iload_n 3, 1) := by decide +kernel
theorem dX13_fresh__86 : decode cX13_fresh_ 86 = .ok (.invokevirtual 1064, 3) := by decide +kernel
theorem dX13_fresh__89 : decode cX13_fresh_ 89 = .ok (.istore 5, 2) := by decide +kernel
theorem dX13_fresh__91 : decode cX13_fresh_ 91 = .ok (.iload 5, 2) := by decide +kernel
theorem dX13_fresh__93 : decode cX13_fresh_ 93 = .ok (.ifCond .ne 4, 3) := by decide +kernel
theorem dX13_fresh__96 : decode cX13_fresh_ 96 = .ok (.return_, 1) := by decide +kernel
theorem dX13_fresh__97 : decode cX13_fresh_ 97 = .ok (.aload_n 0, 1) := by decide +kernel
theorem dX13_fresh__98 : decode cX13_fresh_ 98 = .ok (.iload 5, 2) := by decide +kernel
theorem dX13_fresh__100 : decode cX13_fresh_ 100 = .ok (.invokevirtual 1072, 3) := by decide +kernel
theorem dX13_fresh__103 : decode cX13_fresh_ 103 = .ok (.aload_n 0, 1) := by decide +kernel
theorem dX13_fresh__104 : decode cX13_fresh_ 104 = .ok (.iconst 2, 1) := by decide +kernel
theorem dX13_fresh__105 : decode cX13_fresh_ 105 = .ok (.invokevirtual 1116, 3) := by decide +kernel
theorem dX13_fresh__108 : decode cX13_fresh_ 108 = .ok (.return_, 1) := by decide +kernel
theorem mt_X13_intOf : mx_mt 583 = some (yX13_intOf, cX13_intOf, 4, (some .int)) := rfl
theorem dX13_intOf_0 : decode cX13_intOf 0 = .ok (.aload_n 0, 1) := by decide +kernel
theorem dX13_intOf_1 : decode cX13_intOf 1 = .ok (.getfield 294, 3) := by decide +kernel
theorem dX13_intOf_4 : decode cX13_intOf 4 = .ok (.aload_n 0, 1) := by decide +kernel
theorem dX13_intOf_5 : decode cX13_intOf 5 = .ok (.getfield 1058, 3) := by decide +kernel
theorem dX13_intOf_8 : decode cX13_intOf 8 = .ok (.iconst 1, 1) := by decide +kernel
theorem dX13_intOf_9 : decode cX13_intOf 9 = .ok (.isub, 1) := by decide +kernel
theorem dX13_intOf_10 : decode cX13_intOf 10 = .ok (.iaload, 1) := by decide +kernel
theorem dX13_intOf_11 : decode cX13_intOf 11 = .ok (.bipush 8, 2) := by decide +kernel
theorem dX13_intOf_13 : decode cX13_intOf 13 = .ok (.isub, 1) := by decide +kernel
theorem dX13_intOf_14 : decode cX13_intOf 14 = .ok (.istore_n 2, 1) := by decide +kernel
theorem dX13_intOf_15 : decode cX13_intOf 15 = .ok (.aload_n 0, 1) := by decide +kernel
theorem dX13_intOf_16 : decode cX13_intOf 16 = .ok (.getfield 215, 3) := by decide +kernel
theorem dX13_intOf_19 : decode cX13_intOf 19 = .ok (.sipush 256, 3) := by decide +kernel
theorem dX13_intOf_22 : decode cX13_intOf 22 = .ok (.iload_n 2, 1) := by decide +kernel
theorem dX13_intOf_23 : decode cX13_intOf 23 = .ok (.imul, 1) := by decide +kernel
theorem dX13_intOf_24 : decode cX13_intOf 24 = .ok (.iload_n 1, 1) := by decide +kernel
theorem dX13_intOf_25 : decode cX13_intOf 25 = .ok (.iadd, 1) := by decide +kernel
theorem dX13_intOf_26 : decode cX13_intOf 26 = .ok (.iaload, 1) := by decide +kernel
theorem dX13_intOf_27 : decode cX13_intOf 27 = .ok (.iconst 1, 1) := by decide +kernel
theorem dX13_intOf_28 : decode cX13_intOf 28 = .ok (.iadd, 1) := by decide +kernel
theorem dX13_intOf_29 : decode cX13_intOf 29 = .ok (.istore_n 3, 1) := by decide +kernel
theorem dX13_intOf_30 : decode cX13_intOf 30 = .ok (.aload_n 0, 1) := by decide +kernel
theorem dX13_intOf_31 : decode cX13_intOf 31 = .ok (.iload_n 2, 1) := by decide +kernel
theorem dX13_intOf_32 : decode cX13_intOf 32 = .ok (.iload_n 3, 1) := by decide +kernel
theorem dX13_intOf_33 : decode cX13_intOf 33 = .ok (.invokevirtual 864, 3) := by decide +kernel
theorem dX13_intOf_36 : decode cX13_intOf 36 = .ok (.bipush 24, 2) := by decide +kernel
theorem dX13_intOf_38 : decode cX13_intOf 38 = .ok (.ishl, 1) := by decide +kernel
theorem dX13_intOf_39 : decode cX13_intOf 39 = .ok (.aload_n 0, 1) := by decide +kernel
theorem dX13_intOf_40 : decode cX13_intOf 40 = .ok (.iload_n 2, 1) := by decide +kernel
theorem dX13_intOf_41 : decode cX13_intOf 41 = .ok (.iload_n 3, 1) := by decide +kernel
theorem dX13_intOf_42 : decode cX13_intOf 42 = .ok (.iconst 1, 1) := by decide +kernel
theorem dX13_intOf_43 : decode cX13_intOf 43 = .ok (.iadd, 1) := by decide +kernel
theorem dX13_intOf_44 : decode cX13_intOf 44 = .ok (.invokevirtual 864, 3) := by decide +kernel
theorem dX13_intOf_47 : decode cX13_intOf 47 = .ok (.bipush 16, 2) := by decide +kernel
theorem dX13_intOf_49 : decode cX13_intOf 49 = .ok (.ishl, 1) := by decide +kernel
theorem dX13_intOf_50 : decode cX13_intOf 50 = .ok (.ior, 1) := by decide +kernel
theorem dX13_intOf_51 : decode cX13_intOf 51 = .ok (.aload_n 0, 1) := by decide +kernel
theorem dX13_intOf_52 : decode cX13_intOf 52 = .ok (.iload_n 2, 1) := by decide +kernel
theorem dX13_intOf_53 : decode cX13_intOf 53 = .ok (.iload_n 3, 1) := by decide +kernel
theorem dX13_intOf_54 : decode cX13_intOf 54 = .ok (.iconst 2, 1) := by decide +kernel
theorem dX13_intOf_55 : decode cX13_intOf 55 = .ok (.iadd, 1) := by decide +kernel
theorem dX13_intOf_56 : decode cX13_intOf 56 = .ok (.invokevirtual 864, 3) := by decide +kernel
theorem dX13_intOf_59 : decode cX13_intOf 59 = .ok (.bipush 8, 2) := by decide +kernel
theorem dX13_intOf_61 : decode cX13_intOf 61 = .ok (.ishl, 1) := by decide +kernel
theorem dX13_intOf_62 : decode cX13_intOf 62 = .ok (.ior, 1) := by decide +kernel
theorem dX13_intOf_63 : decode cX13_intOf 63 = .ok (.aload_n 0, 1) := by decide +kernel
theorem dX13_intOf_64 : decode cX13_intOf 64 = .ok (.iload_n 2, 1) := by decide +kernel
theorem dX13_intOf_65 : decode cX13_intOf 65 = .ok (.iload_n 3, 1) := by decide +kernel
theorem dX13_intOf_66 : decode cX13_intOf 66 = .ok (.iconst 3, 1) := by decide +kernel
theorem dX13_intOf_67 : decode cX13_intOf 67 = .ok (.iadd, 1) := by decide +kernel
theorem dX13_intOf_68 : decode cX13_intOf 68 = .ok (.invokevirtual 864, 3) := by decide +kernel
theorem dX13_intOf_71 : decode cX13_intOf 71 = .ok (.ior, 1) := by decide +kernel
theorem dX13_intOf_72 : decode cX13_intOf 72 = .ok (.ireturn, 1) := by decide +kernel
theorem mt_X13_is : mx_mt 595 = some (yX13_is, cX13_is, 5, (some .boolean)) := rfl
theorem dX13_is_0 : decode cX13_is 0 = .ok (.aload_n 0, 1) := by decide +kernel
theorem dX13_is_1 : decode cX13_is 1 = .ok (.invokevirtual 1087, 3) := by decide +kernel
theorem dX13_is_4 : decode cX13_is 4 = .ok (.istore_n 3, 1) := by decide +kernel
theorem dX13_is_5 : decode cX13_is 5 = .ok (.iload_n 3, 1) := by decide +kernel
theorem dX13_is_6 : decode cX13_is 6 = .ok (.ifCond .eq 20, 3) := by decide +kernel
theorem dX13_is_9 : decode cX13_is 9 = .ok (.aload_n 0, 1) := by decide +kernel
theorem dX13_is_10 : decode cX13_is 10 = .ok (.iload_n 3, 1) := by decide +kernel
theorem dX13_is_11 : decode cX13_is 11 = .ok (.aload_n 0, 1) := by decide +kernel
theorem dX13_is_12 : decode cX13_is 12 = .ok (.iload_n 2, 1) := by decide +kernel
theorem dX13_is_13 : decode cX13_is 13 = .ok (.invokevirtual 1125, 3) := by decide +kernel
theorem dX13_is_16 : decode cX13_is 16 = .ok (.invokevirtual 1069, 3) := by decide +kernel
theorem dX13_is_19 : decode cX13_is 19 = .ok (.ifCond .eq 7, 3) := by decide +kernel
theorem dX13_is_22 : decode cX13_is 22 = .ok (.iconst 1, 1) := by decide +kernel
theorem dX13_is_23 : decode cX13_is 23 = .ok (.goto 4, 3) := by decide +kernel
theorem dX13_is_26 : decode cX13_is 26 = .ok (.iconst 0, 1) := by decide +kernel
theorem dX13_is_27 : decode cX13_is 27 = .ok (.istore 4, 2) := by decide +kernel
theorem dX13_is_29 : decode cX13_is 29 = .ok (.iload_n 1, 1) := by decide +kernel
theorem dX13_is_30 : decode cX13_is 30 = .ok (.sipush 193, 3) := by decide +kernel
theorem dX13_is_33 : decode cX13_is 33 = .ok (.if_icmp .ne 19, 3) := by decide +kernel
theorem dX13_is_36 : decode cX13_is 36 = .ok (.aload_n 0, 1) := by decide +kernel
theorem dX13_is_37 : decode cX13_is 37 = .ok (.iload 4, 2) := by decide +kernel
theorem dX13_is_39 : decode cX13_is 39 = .ok (.ifCond .eq 7, 3) := by decide +kernel
theorem dX13_is_42 : decode cX13_is 42 = .ok (.iconst 1, 1) := by decide +kernel
theorem dX13_is_43 : decode cX13_is 43 = .ok (.goto 4, 3) := by decide +kernel
theorem dX13_is_46 : decode cX13_is 46 = .ok (.iconst 0, 1) := by decide +kernel
theorem dX13_is_47 : decode cX13_is 47 = .ok (.invokevirtual 1072, 3) := by decide +kernel
theorem dX13_is_50 : decode cX13_is 50 = .ok (.iconst 1, 1) := by decide +kernel
theorem dX13_is_51 : decode cX13_is 51 = .ok (.ireturn, 1) := by decide +kernel
theorem dX13_is_52 : decode cX13_is 52 = .ok (.iload_n 3, 1) := by decide +kernel
theorem dX13_is_53 : decode cX13_is 53 = .ok (.ifCond .eq 15, 3) := by decide +kernel
theorem dX13_is_56 : decode cX13_is 56 = .ok (.iload 4, 2) := by decide +kernel
theorem dX13_is_58 : decode cX13_is 58 = .ok (.ifCond .ne 10, 3) := by decide +kernel
theorem dX13_is_61 : decode cX13_is 61 = .ok (.aload_n 0, 1) := by decide +kernel
theorem dX13_is_62 : decode cX13_is 62 = .ok (.iconst 5, 1) := by decide +kernel
theorem dX13_is_63 : decode cX13_is 63 = .ok (.invokevirtual 1093, 3) := by decide +kernel
theorem dX13_is_66 : decode cX13_is 66 = .ok (.iconst 0, 1) := by decide +kernel
theorem dX13_is_67 : decode cX13_is 67 = .ok (.ireturn, 1) := by decide +kernel
theorem dX13_is_68 : decode cX13_is 68 = .ok (.aload_n 0, 1) := by decide +kernel
theorem dX13_is_69 : decode cX13_is 69 = .ok (.iload_n 3, 1) := by decide +kernel
theorem dX13_is_70 : decode cX13_is 70 = .ok (.invokevirtual 1072, 3) := by decide +kernel
theorem dX13_is_73 : decode cX13_is 73 = .ok (.iconst 1, 1) := by decide +kernel
theorem dX13_is_74 : decode cX13_is 74 = .ok (.ireturn, 1) := by decide +kernel
