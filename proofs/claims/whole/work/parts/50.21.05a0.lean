theorem rs_RX10_68 : mx_res RX10 68 = some (1, 275, 1) := by decide +kernel
theorem rs_RX10_90 : mx_res RX10 90 = some (1, 288, 1) := by decide +kernel
theorem rs_RX10_101 : mx_res RX10 101 = some (1, 279, 2) := by decide +kernel
theorem rs_RX10_105 : mx_res RX10 105 = some (1, 280, 0) := by decide +kernel
theorem rs_RX10_108 : mx_res RX10 108 = some (1, 285, 0) := by decide +kernel
theorem rs_RX10_111 : mx_res RX10 111 = some (1, 278, 0) := by decide +kernel
theorem rs_RX10_114 : mx_res RX10 114 = some (1, 276, 2) := by decide +kernel
theorem rs_RX10_127 : mx_res RX10 127 = some (1, 139, 2) := by decide +kernel
theorem rs_RX10_184 : mx_res RX10 184 = some (1, 289, 2) := by decide +kernel
theorem rs_RX10_187 : mx_res RX10 187 = some (1, 269, 0) := by decide +kernel
theorem rs_RX10_191 : mx_res RX10 191 = some (1, 290, 2) := by decide +kernel
theorem rs_RX10_194 : mx_res RX10 194 = some (1, 291, 1) := by decide +kernel
theorem rs_RX10_197 : mx_res RX10 197 = some (1, 299, 1) := by decide +kernel
theorem rs_RX10_200 : mx_res RX10 200 = some (1, 297, 1) := by decide +kernel
theorem rs_RX10_203 : mx_res RX10 203 = some (1, 294, 0) := by decide +kernel
theorem rs_RX10_206 : mx_res RX10 206 = some (1, 292, 0) := by decide +kernel
theorem rs_RX10_209 : mx_res RX10 209 = some (1, 303, 2) := by decide +kernel
theorem rs_RX10_212 : mx_res RX10 212 = some (1, 298, 1) := by decide +kernel
theorem rs_RX10_242 : mx_res RX10 242 = some (2, 135, 1) := by decide +kernel
theorem rs_RX10_245 : mx_res RX10 245 = some (2, 138, 1) := by decide +kernel
theorem rs_RX10_248 : mx_res RX10 248 = some (1, 300, 2) := by decide +kernel
theorem rs_RX10_251 : mx_res RX10 251 = some (1, 87, 1) := by decide +kernel
theorem rs_RX10_254 : mx_res RX10 254 = some (1, 304, 6) := by decide +kernel
theorem rs_RX10_258 : mx_res RX10 258 = some (1, 32, 1) := by decide +kernel
theorem rs_RX10_261 : mx_res RX10 261 = some (1, 74, 2) := by decide +kernel
theorem rs_RX10_262 : mx_res RX10 262 = some (1, 33, 1) := by decide +kernel
theorem rs_RX10_265 : mx_res RX10 265 = some (1, 302, 2) := by decide +kernel
theorem rs_RX10_268 : mx_res RX10 268 = some (1, 301, 1) := by decide +kernel
theorem rs_RX10_277 : mx_res RX10 277 = some (2, 134, 1) := by decide +kernel
theorem rs_RX10_280 : mx_res RX10 280 = some (0, 9, 11) := by decide +kernel
theorem rs_RX10_283 : mx_res RX10 283 = some (1, 89, 2) := by decide +kernel
theorem rs_RX10_286 : mx_res RX10 286 = some (1, 88, 1) := by decide +kernel
theorem rs_RX10_289 : mx_res RX10 289 = some (1, 195, 2) := by decide +kernel
theorem rs_RX10_290 : mx_res RX10 290 = some (1, 86, 1) := by decide +kernel
theorem rs_RX10_293 : mx_res RX10 293 = some (1, 305, 3) := by decide +kernel
theorem mt_X10_readValue : mx_mt 275 = some (yX10_readValue, cX10_readValue, 6, none) := rfl
theorem dX10_readBehindPoint_0 : decode cX10_readBehindPoint 0 = .ok (.aload_n 0, 1) := by decide +kernel
theorem dX10_readBehindPoint_1 : decode cX10_readBehindPoint 1 = .ok (.getfield 31, 3) := by decide +kernel
theorem dX10_readBehindPoint_4 : decode cX10_readBehindPoint 4 = .ok (.getfield 72, 3) := by decide +kernel
theorem dX10_readBehindPoint_7 : decode cX10_readBehindPoint 7 = .ok (.iconst 1, 1) := by decide +kernel
theorem dX10_readBehindPoint_8 : decode cX10_readBehindPoint 8 = .ok (.iadd, 1) := by decide +kernel
theorem dX10_readBehindPoint_9 : decode cX10_readBehindPoint 9 = .ok (.istore_n 3, 1) := by decide +kernel
theorem dX10_readBehindPoint_10 : decode cX10_readBehindPoint 10 = .ok (.aload_n 0, 1) := by decide +kernel
theorem dX10_readBehindPoint_11 : decode cX10_readBehindPoint 11 = .ok (.getfield 31, 3) := by decide +kernel
theorem dX10_readBehindPoint_14 : decode cX10_readBehindPoint 14 = .ok (.iload_n 3, 1) := by decide +kernel
theorem dX10_readBehindPoint_15 : decode cX10_readBehindPoint 15 = .ok (.invokevirtual 227, 3) := by decide +kernel
theorem dX10_readBehindPoint_18 : decode cX10_readBehindPoint 18 = .ok (.istore 4, 2) := by decide +kernel
theorem dX10_readBehindPoint_20 : decode cX10_readBehindPoint 20 = .ok (.aload_n 0, 1) := by decide +kernel
theorem dX10_readBehindPoint_21 : decode cX10_readBehindPoint 21 = .ok (.getfield 31, 3) := by decide +kernel
theorem dX10_readBehindPoint_24 : decode cX10_readBehindPoint 24 = .ok (.iload_n 3, 1) := by decide +kernel
theorem dX10_readBehindPoint_25 : decode cX10_readBehindPoint 25 = .ok (.iconst 1, 1) := by decide +kernel
theorem dX10_readBehindPoint_26 : decode cX10_readBehindPoint 26 = .ok (.iadd, 1) := by decide +kernel
theorem dX10_readBehindPoint_27 : decode cX10_readBehindPoint 27 = .ok (.invokevirtual 224, 3) := by decide +kernel
theorem dX10_readBehindPoint_30 : decode cX10_readBehindPoint 30 = .ok (.bipush 40, 2) := by decide +kernel
theorem dX10_readBehindPoint_32 : decode cX10_readBehindPoint 32 = .ok (.if_icmp .ne 7, 3) := by decide +kernel
theorem dX10_readBehindPoint_35 : decode cX10_readBehindPoint 35 = .ok (.iconst 1, 1) := by decide +kernel
theorem dX10_readBehindPoint_36 : decode cX10_readBehindPoint 36 = .ok (.goto 4, 3) := by decide +kernel
theorem dX10_readBehindPoint_39 : decode cX10_readBehindPoint 39 = .ok (.iconst 0, 1) := by decide +kernel
theorem dX10_readBehindPoint_40 : decode cX10_readBehindPoint 40 = .ok (.istore 5, 2) := by decide +kernel
theorem dX10_readBehindPoint_42 : decode cX10_readBehindPoint 42 = .ok (.aload_n 0, 1) := by decide +kernel
theorem dX10_readBehindPoint_43 : decode cX10_readBehindPoint 43 = .ok (.getfield 75, 3) := by decide +kernel
theorem dX10_readBehindPoint_46 : decode cX10_readBehindPoint 46 = .ok (.invokestatic 242, 3) := by decide +kernel
theorem dX10_readBehindPoint_49 : decode cX10_readBehindPoint 49 = .ok (.istore 6, 2) := by decide +kernel
theorem dX10_readBehindPoint_51 : decode cX10_readBehindPoint 51 = .ok (.aload_n 0, 1) := by decide +kernel
theorem dX10_readBehindPoint_52 : decode cX10_readBehindPoint 52 = .ok (.iload 6, 2) := by decide +kernel
theorem dX10_readBehindPoint_54 : decode cX10_readBehindPoint 54 = .ok (.ifCond .ne 13, 3) := by decide +kernel
theorem dX10_readBehindPoint_57 : decode cX10_readBehindPoint 57 = .ok (.aload_n 0, 1) := by decide +kernel
theorem dX10_readBehindPoint_58 : decode cX10_readBehindPoint 58 = .ok (.getfield 75, 3) := by decide +kernel
theorem dX10_readBehindPoint_61 : decode cX10_readBehindPoint 61 = .ok (.invokestatic 277, 3) := by decide +kernel
theorem dX10_readBehindPoint_64 : decode cX10_readBehindPoint 64 = .ok (.ifCond .eq 7, 3) := by decide +kernel
theorem dX10_readBehindPoint_67 : decode cX10_readBehindPoint 67 = .ok (.iconst 1, 1) := by decide +kernel
theorem dX10_readBehindPoint_68 : decode cX10_readBehindPoint 68 = .ok (.goto 4, 3) := by decide +kernel
theorem dX10_readBehindPoint_71 : decode cX10_readBehindPoint 71 = .ok (.iconst 0, 1) := by decide +kernel
theorem dX10_readBehindPoint_72 : decode cX10_readBehindPoint 72 = .ok (.iload_n 3, 1) := by decide +kernel
theorem dX10_readBehindPoint_73 : decode cX10_readBehindPoint 73 = .ok (.iconst 1, 1) := by decide +kernel
theorem dX10_readBehindPoint_74 : decode cX10_readBehindPoint 74 = .ok (.isub, 1) := by decide +kernel
theorem dX10_readBehindPoint_75 : decode cX10_readBehindPoint 75 = .ok (.invokevirtual 80, 3) := by decide +kernel
theorem dX10_readBehindPoint_78 : decode cX10_readBehindPoint 78 = .ok (.iload 5, 2) := by decide +kernel
theorem dX10_readBehindPoint_80 : decode cX10_readBehindPoint 80 = .ok (.ifCond .eq 19, 3) := by decide +kernel
theorem dX10_readBehindPoint_83 : decode cX10_readBehindPoint 83 = .ok (.aload_n 0, 1) := by decide +kernel
theorem dX10_readBehindPoint_84 : decode cX10_readBehindPoint 84 = .ok (.getfield 35, 3) := by decide +kernel
theorem dX10_readBehindPoint_87 : decode cX10_readBehindPoint 87 = .ok (.aload_n 0, 1) := by decide +kernel
theorem dX10_readBehindPoint_88 : decode cX10_readBehindPoint 88 = .ok (.getfield 75, 3) := by decide +kernel
theorem dX10_readBehindPoint_91 : decode cX10_readBehindPoint 91 = .ok (.iload 4, 2) := by decide +kernel
theorem dX10_readBehindPoint_93 : decode cX10_readBehindPoint 93 = .ok (.invokevirtual 271, 3) := by decide +kernel
theorem dX10_readBehindPoint_96 : decode cX10_readBehindPoint 96 = .ok (.goto 16, 3) := by decide +kernel
theorem dX10_readBehindPoint_99 : decode cX10_readBehindPoint 99 = .ok (.aload_n 0, 1) := by decide +kernel
theorem dX10_readBehindPoint_100 : decode cX10_readBehindPoint 100 = .ok (.getfield 35, 3) := by decide +kernel
theorem dX10_readBehindPoint_103 : decode cX10_readBehindPoint 103 = .ok (.aload_n 0, 1) := by decide +kernel
theorem dX10_readBehindPoint_104 : decode cX10_readBehindPoint 104 = .ok (.getfield 75, 3) := by decide +kernel
theorem dX10_readBehindPoint_107 : decode cX10_readBehindPoint 107 = .ok (.iload 4, 2) := by decide +kernel
theorem dX10_readBehindPoint_109 : decode cX10_readBehindPoint 109 = .ok (.invokevirtual 261, 3) := by decide +kernel
theorem dX10_readBehindPoint_112 : decode cX10_readBehindPoint 112 = .ok (.istore 7, 2) := by decide +kernel
theorem dX10_readBehindPoint_114 : decode cX10_readBehindPoint 114 = .ok (.iload 6, 2) := by decide +kernel
theorem dX10_readBehindPoint_116 : decode cX10_readBehindPoint 116 = .ok (.ifCond .eq 18, 3) := by decide +kernel
theorem dX10_readBehindPoint_119 : decode cX10_readBehindPoint 119 = .ok (.iload 5, 2) := by decide +kernel
theorem dX10_readBehindPoint_121 : decode cX10_readBehindPoint 121 = .ok (.ifCond .ne 19, 3) := by decide +kernel
theorem dX10_readBehindPoint_124 : decode cX10_readBehindPoint 124 = .ok (.iload 4, 2) := by decide +kernel
theorem dX10_readBehindPoint_126 : decode cX10_readBehindPoint 126 = .ok (.bipush 8, 2) := by decide +kernel
theorem dX10_readBehindPoint_128 : decode cX10_readBehindPoint 128 = .ok (.if_icmp .eq 21, 3) := by decide +kernel
theorem dX10_readBehindPoint_131 : decode cX10_readBehindPoint 131 = .ok (.goto 9, 3) := by decide +kernel
theorem dX10_readBehindPoint_134 : decode cX10_readBehindPoint 134 = .ok (.iload 7, 2) := by decide +kernel
theorem dX10_readBehindPoint_136 : decode cX10_readBehindPoint 136 = .ok (.iconst (-1), 1) := by decide +kernel
theorem dX10_readBehindPoint_137 : decode cX10_readBehindPoint 137 = .ok (.if_icmp .ne 12, 3) := by decide +kernel
theorem dX10_readBehindPoint_140 : decode cX10_readBehindPoint 140 = .ok (.aload_n 0, 1) := by decide +kernel
theorem dX10_readBehindPoint_141 : decode cX10_readBehindPoint 141 = .ok (.getfield 31, 3) := by decide +kernel
theorem dX10_readBehindPoint_144 : decode cX10_readBehindPoint 144 = .ok (.iconst 5, 1) := by decide +kernel
theorem dX10_readBehindPoint_145 : decode cX10_readBehindPoint 145 = .ok (.iload_n 3, 1) := by decide +kernel
theorem dX10_readBehindPoint_146 : decode cX10_readBehindPoint 146 = .ok (.invokevirtual 165, 3) := by decide +kernel
theorem dX10_readBehindPoint_149 : decode cX10_readBehindPoint 149 = .ok (.aload_n 0, 1) := by decide +kernel
theorem dX10_readBehindPoint_150 : decode cX10_readBehindPoint 150 = .ok (.getfield 31, 3) := by decide +kernel
theorem dX10_readBehindPoint_153 : decode cX10_readBehindPoint 153 = .ok (.iload_n 3, 1) := by decide +kernel
theorem dX10_readBehindPoint_154 : decode cX10_readBehindPoint 154 = .ok (.iconst 1, 1) := by decide +kernel
theorem dX10_readBehindPoint_155 : decode cX10_readBehindPoint 155 = .ok (.iadd, 1) := by decide +kernel
theorem dX10_readBehindPoint_156 : decode cX10_readBehindPoint 156 = .ok (.putfield 72, 3) := by decide +kernel
theorem dX10_readBehindPoint_159 : decode cX10_readBehindPoint 159 = .ok (.iload 5, 2) := by decide +kernel
theorem dX10_readBehindPoint_161 : decode cX10_readBehindPoint 161 = .ok (.ifCond .eq 20, 3) := by decide +kernel
theorem dX10_readBehindPoint_164 : decode cX10_readBehindPoint 164 = .ok (.aload_n 0, 1) := by decide +kernel
theorem dX10_readBehindPoint_165 : decode cX10_readBehindPoint 165 = .ok (.aload_n 0, 1) := by decide +kernel
theorem dX10_readBehindPoint_166 : decode cX10_readBehindPoint 166 = .ok (.getfield 75, 3) := by decide +kernel
theorem dX10_readBehindPoint_169 : decode cX10_readBehindPoint 169 = .ok (.iload 7, 2) := by decide +kernel
theorem dX10_readBehindPoint_171 : decode cX10_readBehindPoint 171 = .ok (.iload_n 3, 1) := by decide +kernel
theorem dX10_readBehindPoint_172 : decode cX10_readBehindPoint 172 = .ok (.iconst 1, 1) := by decide +kernel
theorem dX10_readBehindPoint_173 : decode cX10_readBehindPoint 173 = .ok (.iload_n 1, 1) := by decide +kernel
theorem dX10_readBehindPoint_174 : decode cX10_readBehindPoint 174 = .ok (.iload_n 2, 1) := by decide +kernel
theorem dX10_readBehindPoint_175 : decode cX10_readBehindPoint 175 = .ok (.invokevirtual 254, 3) := by decide +kernel
theorem dX10_readBehindPoint_178 : decode cX10_readBehindPoint 178 = .ok (.goto 46, 3) := by decide +kernel
theorem dX10_readBehindPoint_181 : decode cX10_readBehindPoint 181 = .ok (.iload 6, 2) := by decide +kernel
theorem dX10_readBehindPoint_183 : decode cX10_readBehindPoint 183 = .ok (.ifCond .eq 31, 3) := by decide +kernel
theorem dX10_readBehindPoint_186 : decode cX10_readBehindPoint 186 = .ok (.aload_n 0, 1) := by decide +kernel
theorem dX10_readBehindPoint_187 : decode cX10_readBehindPoint 187 = .ok (.getfield 46, 3) := by decide +kernel
theorem dX10_readBehindPoint_190 : decode cX10_readBehindPoint 190 = .ok (.sipush 190, 3) := by decide +kernel
theorem dX10_readBehindPoint_193 : decode cX10_readBehindPoint 193 = .ok (.invokevirtual 162, 3) := by decide +kernel
theorem dX10_readBehindPoint_196 : decode cX10_readBehindPoint 196 = .ok (.aload_n 0, 1) := by decide +kernel
theorem dX10_readBehindPoint_197 : decode cX10_readBehindPoint 197 = .ok (.getfield 46, 3) := by decide +kernel
theorem dX10_readBehindPoint_200 : decode cX10_readBehindPoint 200 = .ok (.iconst 1, 1) := by decide +kernel
theorem dX10_readBehindPoint_201 : decode cX10_readBehindPoint 201 = .ok (.invokevirtual 118, 3) := by decide +kernel
theorem dX10_readBehindPoint_204 : decode cX10_readBehindPoint 204 = .ok (.aload_n 0, 1) := by decide +kernel
theorem dX10_readBehindPoint_205 : decode cX10_readBehindPoint 205 = .ok (.sipush 301, 3) := by decide +kernel
theorem dX10_readBehindPoint_208 : decode cX10_readBehindPoint 208 = .ok (.invokevirtual 233, 3) := by decide +kernel
theorem dX10_readBehindPoint_211 : decode cX10_readBehindPoint 211 = .ok (.goto 13, 3) := by decide +kernel
theorem dX10_readBehindPoint_214 : decode cX10_readBehindPoint 214 = .ok (.aload_n 0, 1) := by decide +kernel
theorem dX10_readBehindPoint_215 : decode cX10_readBehindPoint 215 = .ok (.aload_n 0, 1) := by decide +kernel
theorem dX10_readBehindPoint_216 : decode cX10_readBehindPoint 216 = .ok (.getfield 75, 3) := by decide +kernel
theorem dX10_readBehindPoint_219 : decode cX10_readBehindPoint 219 = .ok (.iload 7, 2) := by decide +kernel
theorem dX10_readBehindPoint_221 : decode cX10_readBehindPoint 221 = .ok (.invokevirtual 265, 3) := by decide +kernel
theorem dX10_readBehindPoint_224 : decode cX10_readBehindPoint 224 = .ok (.return_, 1) := by decide +kernel
theorem dX10_readCall_0 : decode cX10_readCall 0 = .ok (.iconst 0, 1) := by decide +kernel
theorem dX10_readCall_1 : decode cX10_readCall 1 = .ok (.istore 7, 2) := by decide +kernel
theorem dX10_readCall_3 : decode cX10_readCall 3 = .ok (.iconst 1, 1) := by decide +kernel
theorem dX10_readCall_4 : decode cX10_readCall 4 = .ok (.istore 8, 2) := by decide +kernel
theorem dX10_readCall_6 : decode cX10_readCall 6 = .ok (.aload_n 0, 1) := by decide +kernel
theorem dX10_readCall_7 : decode cX10_readCall 7 = .ok (.getfield 31, 3) := by decide +kernel
theorem dX10_readCall_10 : decode cX10_readCall 10 = .ok (.dup, 1) := by decide +kernel
theorem dX10_readCall_11 : decode cX10_readCall 11 = .ok (.getfield 72, 3) := by decide +kernel
theorem dX10_readCall_14 : decode cX10_readCall 14 = .ok (.iconst 1, 1) := by decide +kernel
theorem dX10_readCall_15 : decode cX10_readCall 15 = .ok (.iadd, 1) := by decide +kernel
theorem dX10_readCall_16 : decode cX10_readCall 16 = .ok (.putfield 72, 3) := by decide +kernel
theorem dX10_readCall_19 : decode cX10_readCall 19 = .ok (.iconst 0, 1) := by decide +kernel
theorem dX10_readCall_20 : decode cX10_readCall 20 = .ok (.istore 9, 2) := by decide +kernel
theorem dX10_readCall_22 : decode cX10_readCall 22 = .ok (.iload 9, 2) := by decide +kernel
theorem dX10_readCall_24 : decode cX10_readCall 24 = .ok (.sipush 3000, 3) := by decide +kernel
theorem dX10_readCall_27 : decode cX10_readCall 27 = .ok (.if_icmp .ge 101, 3) := by decide +kernel
theorem dX10_readCall_30 : decode cX10_readCall 30 = .ok (.aload_n 0, 1) := by decide +kernel
theorem dX10_readCall_31 : decode cX10_readCall 31 = .ok (.getfield 31, 3) := by decide +kernel
theorem dX10_readCall_34 : decode cX10_readCall 34 = .ok (.getfield 280, 3) := by decide +kernel
theorem dX10_readCall_37 : decode cX10_readCall 37 = .ok (.ifCond .ne 91, 3) := by decide +kernel
theorem dX10_readCall_40 : decode cX10_readCall 40 = .ok (.aload_n 0, 1) := by decide +kernel
theorem dX10_readCall_41 : decode cX10_readCall 41 = .ok (.getfield 31, 3) := by decide +kernel
theorem dX10_readCall_44 : decode cX10_readCall 44 = .ok (.invokevirtual 93, 3) := by decide +kernel
theorem dX10_readCall_47 : decode cX10_readCall 47 = .ok (.bipush 41, 2) := by decide +kernel
theorem dX10_readCall_49 : decode cX10_readCall 49 = .ok (.if_icmp .eq 79, 3) := by decide +kernel
theorem dX10_readCall_52 : decode cX10_readCall 52 = .ok (.aload_n 0, 1) := by decide +kernel
theorem dX10_readCall_53 : decode cX10_readCall 53 = .ok (.iload 6, 2) := by decide +kernel
theorem dX10_readCall_55 : decode cX10_readCall 55 = .ok (.invokevirtual 68, 3) := by decide +kernel
theorem dX10_readCall_58 : decode cX10_readCall 58 = .ok (.iload 8, 2) := by decide +kernel
theorem dX10_readCall_60 : decode cX10_readCall 60 = .ok (.ifCond .eq 31, 3) := by decide +kernel
theorem dX10_readCall_63 : decode cX10_readCall 63 = .ok (.aload_n 0, 1) := by decide +kernel
theorem dX10_readCall_64 : decode cX10_readCall 64 = .ok (.getfield 45, 3) := by decide +kernel
theorem dX10_readCall_67 : decode cX10_readCall 67 = .ok (.aload_n 0, 1) := by decide +kernel
theorem dX10_readCall_68 : decode cX10_readCall 68 = .ok (.getfield 75, 3) := by decide +kernel
theorem dX10_readCall_71 : decode cX10_readCall 71 = .ok (.aload_n 0, 1) := by decide +kernel
theorem dX10_readCall_72 : decode cX10_readCall 72 = .ok (.getfield 35, 3) := by decide +kernel
theorem dX10_readCall_75 : decode cX10_readCall 75 = .ok (.iload_n 2, 1) := by decide +kernel
theorem dX10_readCall_76 : decode cX10_readCall 76 = .ok (.iload 7, 2) := by decide +kernel
theorem dX10_readCall_78 : decode cX10_readCall 78 = .ok (.invokevirtual 283, 3) := by decide +kernel
theorem dX10_readCall_81 : decode cX10_readCall 81 = .ok (.invokevirtual 127, 3) := by decide +kernel
theorem dX10_readCall_84 : decode cX10_readCall 84 = .ok (.ifCond .eq 7, 3) := by decide +kernel
theorem dX10_readCall_87 : decode cX10_readCall 87 = .ok (.iconst 1, 1) := by decide +kernel
theorem dX10_readCall_88 : decode cX10_readCall 88 = .ok (.goto 4, 3) := by decide +kernel
theorem dX10_readCall_91 : decode cX10_readCall 91 = .ok (.iconst 0, 1) := by decide +kernel
theorem dX10_readCall_92 : decode cX10_readCall 92 = .ok (.istore 8, 2) := by decide +kernel
theorem dX10_readCall_94 : decode cX10_readCall 94 = .ok (.iinc 7 1, 3) := by decide +kernel
theorem dX10_readCall_97 : decode cX10_readCall 97 = .ok (.aload_n 0, 1) := by decide +kernel
theorem dX10_readCall_98 : decode cX10_readCall 98 = .ok (.getfield 31, 3) := by decide +kernel
theorem dX10_readCall_101 : decode cX10_readCall 101 = .ok (.invokevirtual 93, 3) := by decide +kernel
theorem dX10_readCall_104 : decode cX10_readCall 104 = .ok (.bipush 47, 2) := by decide +kernel
theorem dX10_readCall_106 : decode cX10_readCall 106 = .ok (.if_icmp .ne 16, 3) := by decide +kernel
theorem dX10_readCall_109 : decode cX10_readCall 109 = .ok (.aload_n 0, 1) := by decide +kernel
theorem dX10_readCall_110 : decode cX10_readCall 110 = .ok (.getfield 31, 3) := by decide +kernel
theorem dX10_readCall_113 : decode cX10_readCall 113 = .ok (.dup, 1) := by decide +kernel
theorem dX10_readCall_114 : decode cX10_readCall 114 = .ok (.getfield 72, 3) := by decide +kernel
theorem dX10_readCall_117 : decode cX10_readCall 117 = .ok (.iconst 1, 1) := by decide +kernel
theorem dX10_readCall_118 : decode cX10_readCall 118 = .ok (.iadd, 1) := by decide +kernel
theorem dX10_readCall_119 : decode cX10_readCall 119 = .ok (.putfield 72, 3) := by decide +kernel
theorem dX10_readCall_122 : decode cX10_readCall 122 = .ok (.iinc 9 1, 3) := by decide +kernel
theorem dX10_readCall_125 : decode cX10_readCall 125 = .ok (.goto (-103), 3) := by decide +kernel
theorem dX10_readCall_128 : decode cX10_readCall 128 = .ok (.aload_n 0, 1) := by decide +kernel
theorem dX10_readCall_129 : decode cX10_readCall 129 = .ok (.getfield 31, 3) := by decide +kernel
theorem dX10_readCall_132 : decode cX10_readCall 132 = .ok (.dup, 1) := by decide +kernel
theorem dX10_readCall_133 : decode cX10_readCall 133 = .ok (.getfield 72, 3) := by decide +kernel
theorem dX10_readCall_136 : decode cX10_readCall 136 = .ok (.iconst 1, 1) := by decide +kernel
theorem dX10_readCall_137 : decode cX10_readCall 137 = .ok (.iadd, 1) := by decide +kernel
theorem dX10_readCall_138 : decode cX10_readCall 138 = .ok (.putfield 72, 3) := by decide +kernel
theorem dX10_readCall_141 : decode cX10_readCall 141 = .ok (.aload_n 0, 1) := by decide +kernel
theorem dX10_readCall_142 : decode cX10_readCall 142 = .ok (.getfield 31, 3) := by decide +kernel
theorem dX10_readCall_145 : decode cX10_readCall 145 = .ok (.getfield 280, 3) := by decide +kernel
theorem dX10_readCall_148 : decode cX10_readCall 148 = .ok (.ifCond .eq 4, 3) := by decide +kernel
theorem dX10_readCall_151 : decode cX10_readCall 151 = .ok (.return_, 1) := by decide +kernel
theorem dX10_readCall_152 : decode cX10_readCall 152 = .ok (.aload_n 0, 1) := by decide +kernel
theorem dX10_readCall_153 : decode cX10_readCall 153 = .ok (.getfield 35, 3) := by decide +kernel
theorem dX10_readCall_156 : decode cX10_readCall 156 = .ok (.iload_n 2, 1) := by decide +kernel
theorem dX10_readCall_157 : decode cX10_readCall 157 = .ok (.invokevirtual 251, 3) := by decide +kernel
theorem dX10_readCall_160 : decode cX10_readCall 160 = .ok (.istore 9, 2) := by decide +kernel
theorem dX10_readCall_162 : decode cX10_readCall 162 = .ok (.iload 9, 2) := by decide +kernel
theorem dX10_readCall_164 : decode cX10_readCall 164 = .ok (.ifCond .eq 17, 3) := by decide +kernel
theorem dX10_readCall_167 : decode cX10_readCall 167 = .ok (.iload 4, 2) := by decide +kernel
theorem dX10_readCall_169 : decode cX10_readCall 169 = .ok (.iconst 1, 1) := by decide +kernel
theorem dX10_readCall_170 : decode cX10_readCall 170 = .ok (.if_icmp .ne 7, 3) := by decide +kernel
theorem dX10_readCall_173 : decode cX10_readCall 173 = .ok (.iconst 1, 1) := by decide +kernel
theorem dX10_readCall_174 : decode cX10_readCall 174 = .ok (.goto 18, 3) := by decide +kernel
theorem dX10_readCall_177 : decode cX10_readCall 177 = .ok (.iconst 0, 1) := by decide +kernel
theorem dX10_readCall_178 : decode cX10_readCall 178 = .ok (.goto 14, 3) := by decide +kernel
theorem dX10_readCall_181 : decode cX10_readCall 181 = .ok (.iload 4, 2) := by decide +kernel
theorem dX10_readCall_183 : decode cX10_readCall 183 = .ok (.iconst 2, 1) := by decide +kernel
theorem dX10_readCall_184 : decode cX10_readCall 184 = .ok (.if_icmp .ne 7, 3) := by decide +kernel
theorem dX10_readCall_187 : decode cX10_readCall 187 = .ok (.iconst 1, 1) := by decide +kernel
theorem dX10_readCall_188 : decode cX10_readCall 188 = .ok (.goto 4, 3) := by decide +kernel
theorem dX10_readCall_191 : decode cX10_readCall 191 = .ok (.iconst 0, 1) := by decide +kernel
theorem dX10_readCall_192 : decode cX10_readCall 192 = .ok (.istore 10, 2) := by decide +kernel
theorem dX10_readCall_194 : decode cX10_readCall 194 = .ok (.aload_n 0, 1) := by decide +kernel
theorem dX10_readCall_195 : decode cX10_readCall 195 = .ok (.iload 8, 2) := by decide +kernel
theorem dX10_readCall_197 : decode cX10_readCall 197 = .ok (.ifCond .eq 25, 3) := by decide +kernel
theorem dX10_readCall_200 : decode cX10_readCall 200 = .ok (.iload 10, 2) := by decide +kernel
theorem dX10_readCall_202 : decode cX10_readCall 202 = .ok (.ifCond .ne 20, 3) := by decide +kernel
theorem dX10_readCall_205 : decode cX10_readCall 205 = .ok (.iload 7, 2) := by decide +kernel
theorem dX10_readCall_207 : decode cX10_readCall 207 = .ok (.aload_n 0, 1) := by decide +kernel
theorem dX10_readCall_208 : decode cX10_readCall 208 = .ok (.getfield 35, 3) := by decide +kernel
theorem dX10_readCall_211 : decode cX10_readCall 211 = .ok (.iload_n 2, 1) := by decide +kernel
theorem dX10_readCall_212 : decode cX10_readCall 212 = .ok (.invokevirtual 286, 3) := by decide +kernel
theorem dX10_readCall_215 : decode cX10_readCall 215 = .ok (.if_icmp .ne 7, 3) := by decide +kernel
theorem dX10_readCall_218 : decode cX10_readCall 218 = .ok (.iconst 1, 1) := by decide +kernel
theorem dX10_readCall_219 : decode cX10_readCall 219 = .ok (.goto 4, 3) := by decide +kernel
theorem dX10_readCall_222 : decode cX10_readCall 222 = .ok (.iconst 0, 1) := by decide +kernel
theorem dX10_readCall_223 : decode cX10_readCall 223 = .ok (.iload_n 3, 1) := by decide +kernel
theorem dX10_readCall_224 : decode cX10_readCall 224 = .ok (.invokevirtual 80, 3) := by decide +kernel
theorem dX10_readCall_227 : decode cX10_readCall 227 = .ok (.aload_n 0, 1) := by decide +kernel
theorem dX10_readCall_228 : decode cX10_readCall 228 = .ok (.getfield 46, 3) := by decide +kernel
theorem dX10_readCall_231 : decode cX10_readCall 231 = .ok (.iload 9, 2) := by decide +kernel
theorem dX10_readCall_233 : decode cX10_readCall 233 = .ok (.ifCond .eq 9, 3) := by decide +kernel
theorem dX10_readCall_236 : decode cX10_readCall 236 = .ok (.sipush 184, 3) := by decide +kernel
theorem dX10_readCall_239 : decode cX10_readCall 239 = .ok (.goto 6, 3) := by decide +kernel
theorem dX10_readCall_242 : decode cX10_readCall 242 = .ok (.sipush 182, 3) := by decide +kernel
theorem dX10_readCall_245 : decode cX10_readCall 245 = .ok (.aload_n 0, 1) := by decide +kernel
theorem dX10_readCall_246 : decode cX10_readCall 246 = .ok (.getfield 50, 3) := by decide +kernel
theorem dX10_readCall_249 : decode cX10_readCall 249 = .ok (.iload_n 1, 1) := by decide +kernel
theorem dX10_readCall_250 : decode cX10_readCall 250 = .ok (.iload_n 2, 1) := by decide +kernel
theorem dX10_readCall_251 : decode cX10_readCall 251 = .ok (.invokevirtual 289, 3) := by decide +kernel
theorem dX10_readCall_254 : decode cX10_readCall 254 = .ok (.invokevirtual 179, 3) := by decide +kernel
theorem dX10_readCall_257 : decode cX10_readCall 257 = .ok (.aload_n 0, 1) := by decide +kernel
theorem dX10_readCall_258 : decode cX10_readCall 258 = .ok (.getfield 46, 3) := by decide +kernel
theorem dX10_readCall_261 : decode cX10_readCall 261 = .ok (.iload 9, 2) := by decide +kernel
theorem dX10_readCall_263 : decode cX10_readCall 263 = .ok (.ifCond .eq 8, 3) := by decide +kernel
theorem dX10_readCall_266 : decode cX10_readCall 266 = .ok (.iload 7, 2) := by decide +kernel
theorem dX10_readCall_268 : decode cX10_readCall 268 = .ok (.goto 7, 3) := by decide +kernel
theorem dX10_readCall_271 : decode cX10_readCall 271 = .ok (.iload 7, 2) := by decide +kernel
theorem dX10_readCall_273 : decode cX10_readCall 273 = .ok (.iconst 1, 1) := by decide +kernel
theorem dX10_readCall_274 : decode cX10_readCall 274 = .ok (.iadd, 1) := by decide +kernel
theorem dX10_readCall_275 : decode cX10_readCall 275 = .ok (.invokevirtual 118, 3) := by decide +kernel
theorem dX10_readCall_278 : decode cX10_readCall 278 = .ok (.aload_n 0, 1) := by decide +kernel
theorem dX10_readCall_279 : decode cX10_readCall 279 = .ok (.aload_n 0, 1) := by decide +kernel
theorem dX10_readCall_280 : decode cX10_readCall 280 = .ok (.getfield 35, 3) := by decide +kernel
theorem dX10_readCall_283 : decode cX10_readCall 283 = .ok (.iload_n 2, 1) := by decide +kernel
theorem dX10_readCall_284 : decode cX10_readCall 284 = .ok (.invokevirtual 290, 3) := by decide +kernel
theorem dX10_readCall_287 : decode cX10_readCall 287 = .ok (.iload_n 3, 1) := by decide +kernel
theorem dX10_readCall_288 : decode cX10_readCall 288 = .ok (.iload 5, 2) := by decide +kernel
theorem dX10_readCall_290 : decode cX10_readCall 290 = .ok (.invokevirtual 293, 3) := by decide +kernel
theorem dX10_readCall_293 : decode cX10_readCall 293 = .ok (.return_, 1) := by decide +kernel
theorem dX10_readChoice_0 : decode cX10_readChoice 0 = .ok (.aload_n 0, 1) := by decide +kernel
theorem dX10_readChoice_1 : decode cX10_readChoice 1 = .ok (.getfield 31, 3) := by decide +kernel
theorem dX10_readChoice_4 : decode cX10_readChoice 4 = .ok (.getfield 72, 3) := by decide +kernel
theorem dX10_readChoice_7 : decode cX10_readChoice 7 = .ok (.istore_n 3, 1) := by decide +kernel
theorem dX10_readChoice_8 : decode cX10_readChoice 8 = .ok (.aload_n 0, 1) := by decide +kernel
theorem dX10_readChoice_9 : decode cX10_readChoice 9 = .ok (.aload_n 0, 1) := by decide +kernel
theorem dX10_readChoice_10 : decode cX10_readChoice 10 = .ok (.getfield 75, 3) := by decide +kernel
theorem dX10_readChoice_13 : decode cX10_readChoice 13 = .ok (.sipush 302, 3) := by decide +kernel
theorem dX10_readChoice_16 : decode cX10_readChoice 16 = .ok (.if_icmp .ne 7, 3) := by decide +kernel
theorem dX10_readChoice_19 : decode cX10_readChoice 19 = .ok (.iconst 1, 1) := by decide +kernel
theorem dX10_readChoice_20 : decode cX10_readChoice 20 = .ok (.goto 4, 3) := by decide +kernel
theorem dX10_readChoice_23 : decode cX10_readChoice 23 = .ok (.iconst 0, 1) := by decide +kernel
theorem dX10_readChoice_24 : decode cX10_readChoice 24 = .ok (.iload_n 1, 1) := by decide +kernel
theorem dX10_readChoice_25 : decode cX10_readChoice 25 = .ok (.invokevirtual 80, 3) := by decide +kernel
theorem dX10_readChoice_28 : decode cX10_readChoice 28 = .ok (.aload_n 0, 1) := by decide +kernel
theorem dX10_readChoice_29 : decode cX10_readChoice 29 = .ok (.getfield 46, 3) := by decide +kernel
theorem dX10_readChoice_32 : decode cX10_readChoice 32 = .ok (.sipush 153, 3) := by decide +kernel
theorem dX10_readChoice_35 : decode cX10_readChoice 35 = .ok (.iconst 1, 1) := by decide +kernel
theorem dX10_readChoice_36 : decode cX10_readChoice 36 = .ok (.invokevirtual 86, 3) := by decide +kernel
theorem dX10_readChoice_39 : decode cX10_readChoice 39 = .ok (.istore 4, 2) := by decide +kernel
theorem dX10_readChoice_41 : decode cX10_readChoice 41 = .ok (.aload_n 0, 1) := by decide +kernel
theorem dX10_readChoice_42 : decode cX10_readChoice 42 = .ok (.getfield 31, 3) := by decide +kernel
theorem dX10_readChoice_45 : decode cX10_readChoice 45 = .ok (.dup, 1) := by decide +kernel
theorem dX10_readChoice_46 : decode cX10_readChoice 46 = .ok (.getfield 72, 3) := by decide +kernel
theorem dX10_readChoice_49 : decode cX10_readChoice 49 = .ok (.iconst 1, 1) := by decide +kernel
theorem dX10_readChoice_50 : decode cX10_readChoice 50 = .ok (.iadd, 1) := by decide +kernel
theorem dX10_readChoice_51 : decode cX10_readChoice 51 = .ok (.putfield 72, 3) := by decide +kernel
theorem dX10_readChoice_54 : decode cX10_readChoice 54 = .ok (.aload_n 0, 1) := by decide +kernel
theorem dX10_readChoice_55 : decode cX10_readChoice 55 = .ok (.iload_n 2, 1) := by decide +kernel
theorem dX10_readChoice_56 : decode cX10_readChoice 56 = .ok (.iconst 1, 1) := by decide +kernel
theorem dX10_readChoice_57 : decode cX10_readChoice 57 = .ok (.iadd, 1) := by decide +kernel
theorem dX10_readChoice_58 : decode cX10_readChoice 58 = .ok (.invokevirtual 68, 3) := by decide +kernel
theorem dX10_readChoice_61 : decode cX10_readChoice 61 = .ok (.aload_n 0, 1) := by decide +kernel
theorem dX10_readChoice_62 : decode cX10_readChoice 62 = .ok (.getfield 75, 3) := by decide +kernel
theorem dX10_readChoice_65 : decode cX10_readChoice 65 = .ok (.istore 5, 2) := by decide +kernel
theorem dX10_readChoice_67 : decode cX10_readChoice 67 = .ok (.aload_n 0, 1) := by decide +kernel
theorem dX10_readChoice_68 : decode cX10_readChoice 68 = .ok (.getfield 46, 3) := by decide +kernel
theorem dX10_readChoice_71 : decode cX10_readChoice 71 = .ok (.sipush 167, 3) := by decide +kernel
theorem dX10_readChoice_74 : decode cX10_readChoice 74 = .ok (.iconst 0, 1) := by decide +kernel
theorem dX10_readChoice_75 : decode cX10_readChoice 75 = .ok (.invokevirtual 86, 3) := by decide +kernel
theorem dX10_readChoice_78 : decode cX10_readChoice 78 = .ok (.istore 6, 2) := by decide +kernel
theorem dX10_readChoice_80 : decode cX10_readChoice 80 = .ok (.aload_n 0, 1) := by decide +kernel
theorem dX10_readChoice_81 : decode cX10_readChoice 81 = .ok (.getfield 46, 3) := by decide +kernel
theorem dX10_readChoice_84 : decode cX10_readChoice 84 = .ok (.iconst 1, 1) := by decide +kernel
theorem dX10_readChoice_85 : decode cX10_readChoice 85 = .ok (.invokevirtual 118, 3) := by decide +kernel
theorem dX10_readChoice_88 : decode cX10_readChoice 88 = .ok (.aload_n 0, 1) := by decide +kernel
theorem dX10_readChoice_89 : decode cX10_readChoice 89 = .ok (.getfield 46, 3) := by decide +kernel
theorem dX10_readChoice_92 : decode cX10_readChoice 92 = .ok (.iload 4, 2) := by decide +kernel
theorem dX10_readChoice_94 : decode cX10_readChoice 94 = .ok (.invokevirtual 121, 3) := by decide +kernel
theorem dX10_readChoice_97 : decode cX10_readChoice 97 = .ok (.aload_n 0, 1) := by decide +kernel
theorem dX10_readChoice_98 : decode cX10_readChoice 98 = .ok (.getfield 31, 3) := by decide +kernel
theorem dX10_readChoice_101 : decode cX10_readChoice 101 = .ok (.dup, 1) := by decide +kernel
theorem dX10_readChoice_102 : decode cX10_readChoice 102 = .ok (.getfield 72, 3) := by decide +kernel
theorem dX10_readChoice_105 : decode cX10_readChoice 105 = .ok (.iconst 1, 1) := by decide +kernel
theorem dX10_readChoice_106 : decode cX10_readChoice 106 = .ok (.iadd, 1) := by decide +kernel
theorem dX10_readChoice_107 : decode cX10_readChoice 107 = .ok (.putfield 72, 3) := by decide +kernel
theorem dX10_readChoice_110 : decode cX10_readChoice 110 = .ok (.aload_n 0, 1) := by decide +kernel
theorem dX10_readChoice_111 : decode cX10_readChoice 111 = .ok (.iload_n 2, 1) := by decide +kernel
theorem dX10_readChoice_112 : decode cX10_readChoice 112 = .ok (.iconst 1, 1) := by decide +kernel
theorem dX10_readChoice_113 : decode cX10_readChoice 113 = .ok (.iadd, 1) := by decide +kernel
theorem dX10_readChoice_114 : decode cX10_readChoice 114 = .ok (.invokevirtual 68, 3) := by decide +kernel
theorem dX10_readChoice_117 : decode cX10_readChoice 117 = .ok (.aload_n 0, 1) := by decide +kernel
theorem dX10_readChoice_118 : decode cX10_readChoice 118 = .ok (.aload_n 0, 1) := by decide +kernel
theorem dX10_readChoice_119 : decode cX10_readChoice 119 = .ok (.iload 5, 2) := by decide +kernel
theorem dX10_readChoice_121 : decode cX10_readChoice 121 = .ok (.aload_n 0, 1) := by decide +kernel
theorem dX10_readChoice_122 : decode cX10_readChoice 122 = .ok (.getfield 75, 3) := by decide +kernel
theorem dX10_readChoice_125 : decode cX10_readChoice 125 = .ok (.invokevirtual 124, 3) := by decide +kernel
theorem dX10_readChoice_128 : decode cX10_readChoice 128 = .ok (.iload_n 3, 1) := by decide +kernel
theorem dX10_readChoice_129 : decode cX10_readChoice 129 = .ok (.invokevirtual 80, 3) := by decide +kernel
theorem dX10_readChoice_132 : decode cX10_readChoice 132 = .ok (.aload_n 0, 1) := by decide +kernel
theorem dX10_readChoice_133 : decode cX10_readChoice 133 = .ok (.aload_n 0, 1) := by decide +kernel
theorem dX10_readChoice_134 : decode cX10_readChoice 134 = .ok (.getfield 45, 3) := by decide +kernel
theorem dX10_readChoice_137 : decode cX10_readChoice 137 = .ok (.iload 5, 2) := by decide +kernel
theorem dX10_readChoice_139 : decode cX10_readChoice 139 = .ok (.aload_n 0, 1) := by decide +kernel
theorem dX10_readChoice_140 : decode cX10_readChoice 140 = .ok (.getfield 75, 3) := by decide +kernel
theorem dX10_readChoice_143 : decode cX10_readChoice 143 = .ok (.invokevirtual 127, 3) := by decide +kernel
theorem dX10_readChoice_146 : decode cX10_readChoice 146 = .ok (.ifCond .eq 10, 3) := by decide +kernel
theorem dX10_readChoice_149 : decode cX10_readChoice 149 = .ok (.aload_n 0, 1) := by decide +kernel
theorem dX10_readChoice_150 : decode cX10_readChoice 150 = .ok (.getfield 75, 3) := by decide +kernel
theorem dX10_readChoice_153 : decode cX10_readChoice 153 = .ok (.goto 5, 3) := by decide +kernel
theorem dX10_readChoice_156 : decode cX10_readChoice 156 = .ok (.iload 5, 2) := by decide +kernel
theorem dX10_readChoice_158 : decode cX10_readChoice 158 = .ok (.putfield 75, 3) := by decide +kernel
theorem dX10_readChoice_161 : decode cX10_readChoice 161 = .ok (.aload_n 0, 1) := by decide +kernel
theorem dX10_readChoice_162 : decode cX10_readChoice 162 = .ok (.getfield 46, 3) := by decide +kernel
theorem dX10_readChoice_165 : decode cX10_readChoice 165 = .ok (.iconst 1, 1) := by decide +kernel
theorem dX10_readChoice_166 : decode cX10_readChoice 166 = .ok (.invokevirtual 118, 3) := by decide +kernel
theorem dX10_readChoice_169 : decode cX10_readChoice 169 = .ok (.aload_n 0, 1) := by decide +kernel
theorem dX10_readChoice_170 : decode cX10_readChoice 170 = .ok (.getfield 46, 3) := by decide +kernel
theorem dX10_readChoice_173 : decode cX10_readChoice 173 = .ok (.aload_n 0, 1) := by decide +kernel
theorem dX10_readChoice_174 : decode cX10_readChoice 174 = .ok (.getfield 75, 3) := by decide +kernel
theorem dX10_readChoice_177 : decode cX10_readChoice 177 = .ok (.invokevirtual 130, 3) := by decide +kernel
theorem dX10_readChoice_180 : decode cX10_readChoice 180 = .ok (.aload_n 0, 1) := by decide +kernel
theorem dX10_readChoice_181 : decode cX10_readChoice 181 = .ok (.getfield 46, 3) := by decide +kernel
theorem dX10_readChoice_184 : decode cX10_readChoice 184 = .ok (.iload 6, 2) := by decide +kernel
theorem dX10_readChoice_186 : decode cX10_readChoice 186 = .ok (.invokevirtual 121, 3) := by decide +kernel
theorem dX10_readChoice_189 : decode cX10_readChoice 189 = .ok (.aload_n 0, 1) := by decide +kernel
theorem dX10_readChoice_190 : decode cX10_readChoice 190 = .ok (.iconst 0, 1) := by decide +kernel
theorem dX10_readChoice_191 : decode cX10_readChoice 191 = .ok (.putfield 133, 3) := by decide +kernel
theorem dX10_readChoice_194 : decode cX10_readChoice 194 = .ok (.return_, 1) := by decide +kernel
theorem dX10_readElement_0 : decode cX10_readElement 0 = .ok (.aload_n 0, 1) := by decide +kernel
theorem dX10_readElement_1 : decode cX10_readElement 1 = .ok (.getfield 31, 3) := by decide +kernel
theorem dX10_readElement_4 : decode cX10_readElement 4 = .ok (.getfield 72, 3) := by decide +kernel
theorem dX10_readElement_7 : decode cX10_readElement 7 = .ok (.istore_n 2, 1) := by decide +kernel
theorem dX10_readElement_8 : decode cX10_readElement 8 = .ok (.aload_n 0, 1) := by decide +kernel
theorem dX10_readElement_9 : decode cX10_readElement 9 = .ok (.getfield 75, 3) := by decide +kernel
theorem dX10_readElement_12 : decode cX10_readElement 12 = .ok (.istore_n 3, 1) := by decide +kernel
theorem dX10_readElement_13 : decode cX10_readElement 13 = .ok (.aload_n 0, 1) := by decide +kernel
theorem dX10_readElement_14 : decode cX10_readElement 14 = .ok (.getfield 31, 3) := by decide +kernel
theorem dX10_readElement_17 : decode cX10_readElement 17 = .ok (.dup, 1) := by decide +kernel
theorem dX10_readElement_18 : decode cX10_readElement 18 = .ok (.getfield 72, 3) := by decide +kernel
theorem dX10_readElement_21 : decode cX10_readElement 21 = .ok (.iconst 1, 1) := by decide +kernel
theorem dX10_readElement_22 : decode cX10_readElement 22 = .ok (.iadd, 1) := by decide +kernel
theorem dX10_readElement_23 : decode cX10_readElement 23 = .ok (.putfield 72, 3) := by decide +kernel
theorem dX10_readElement_26 : decode cX10_readElement 26 = .ok (.aload_n 0, 1) := by decide +kernel
theorem dX10_readElement_27 : decode cX10_readElement 27 = .ok (.iload_n 1, 1) := by decide +kernel
theorem dX10_readElement_28 : decode cX10_readElement 28 = .ok (.invokevirtual 68, 3) := by decide +kernel
theorem dX10_readElement_31 : decode cX10_readElement 31 = .ok (.aload_n 0, 1) := by decide +kernel
theorem dX10_readElement_32 : decode cX10_readElement 32 = .ok (.getfield 31, 3) := by decide +kernel
theorem dX10_readElement_35 : decode cX10_readElement 35 = .ok (.dup, 1) := by decide +kernel
theorem dX10_readElement_36 : decode cX10_readElement 36 = .ok (.getfield 72, 3) := by decide +kernel
theorem dX10_readElement_39 : decode cX10_readElement 39 = .ok (.iconst 1, 1) := by decide +kernel
theorem dX10_readElement_40 : decode cX10_readElement 40 = .ok (.iadd, 1) := by decide +kernel
theorem dX10_readElement_41 : decode cX10_readElement 41 = .ok (.putfield 72, 3) := by decide +kernel
theorem dX10_readElement_44 : decode cX10_readElement 44 = .ok (.aload_n 0, 1) := by decide +kernel
theorem dX10_readElement_45 : decode cX10_readElement 45 = .ok (.iload_n 3, 1) := by decide +kernel
theorem dX10_readElement_46 : decode cX10_readElement 46 = .ok (.invokestatic 242, 3) := by decide +kernel
theorem dX10_readElement_49 : decode cX10_readElement 49 = .ok (.ifCond .eq 17, 3) := by decide +kernel
theorem dX10_readElement_52 : decode cX10_readElement 52 = .ok (.aload_n 0, 1) := by decide +kernel
theorem dX10_readElement_53 : decode cX10_readElement 53 = .ok (.getfield 75, 3) := by decide +kernel
theorem dX10_readElement_56 : decode cX10_readElement 56 = .ok (.sipush 301, 3) := by decide +kernel
theorem dX10_readElement_59 : decode cX10_readElement 59 = .ok (.if_icmp .ne 7, 3) := by decide +kernel
theorem dX10_readElement_62 : decode cX10_readElement 62 = .ok (.iconst 1, 1) := by decide +kernel
theorem dX10_readElement_63 : decode cX10_readElement 63 = .ok (.goto 4, 3) := by decide +kernel
theorem dX10_readElement_66 : decode cX10_readElement 66 = .ok (.iconst 0, 1) := by decide +kernel
theorem dX10_readElement_67 : decode cX10_readElement 67 = .ok (.iload_n 2, 1) := by decide +kernel
theorem dX10_readElement_68 : decode cX10_readElement 68 = .ok (.invokevirtual 80, 3) := by decide +kernel
theorem dX10_readElement_71 : decode cX10_readElement 71 = .ok (.aload_n 0, 1) := by decide +kernel
theorem dX10_readElement_72 : decode cX10_readElement 72 = .ok (.iload_n 3, 1) := by decide +kernel
theorem dX10_readElement_73 : decode cX10_readElement 73 = .ok (.invokestatic 245, 3) := by decide +kernel
theorem dX10_readElement_76 : decode cX10_readElement 76 = .ok (.putfield 75, 3) := by decide +kernel
theorem dX10_readElement_79 : decode cX10_readElement 79 = .ok (.aload_n 0, 1) := by decide +kernel
theorem dX10_readElement_80 : decode cX10_readElement 80 = .ok (.iconst 4, 1) := by decide +kernel
theorem dX10_readElement_81 : decode cX10_readElement 81 = .ok (.putfield 133, 3) := by decide +kernel
theorem dX10_readElement_84 : decode cX10_readElement 84 = .ok (.return_, 1) := by decide +kernel
theorem dX10_readNamed_0 : decode cX10_readNamed 0 = .ok (.aload_n 0, 1) := by decide +kernel
theorem dX10_readNamed_1 : decode cX10_readNamed 1 = .ok (.getfield 31, 3) := by decide +kernel
theorem dX10_readNamed_4 : decode cX10_readNamed 4 = .ok (.getfield 72, 3) := by decide +kernel
theorem dX10_readNamed_7 : decode cX10_readNamed 7 = .ok (.istore_n 2, 1) := by decide +kernel
theorem dX10_readNamed_8 : decode cX10_readNamed 8 = .ok (.aload_n 0, 1) := by decide +kernel
theorem dX10_readNamed_9 : decode cX10_readNamed 9 = .ok (.getfield 31, 3) := by decide +kernel
theorem dX10_readNamed_12 : decode cX10_readNamed 12 = .ok (.iload_n 2, 1) := by decide +kernel
theorem dX10_readNamed_13 : decode cX10_readNamed 13 = .ok (.invokevirtual 227, 3) := by decide +kernel
theorem dX10_readNamed_16 : decode cX10_readNamed 16 = .ok (.istore_n 3, 1) := by decide +kernel
theorem dX10_readNamed_17 : decode cX10_readNamed 17 = .ok (.aload_n 0, 1) := by decide +kernel
theorem dX10_readNamed_18 : decode cX10_readNamed 18 = .ok (.getfield 31, 3) := by decide +kernel
theorem dX10_readNamed_21 : decode cX10_readNamed 21 = .ok (.dup, 1) := by decide +kernel
theorem dX10_readNamed_22 : decode cX10_readNamed 22 = .ok (.getfield 72, 3) := by decide +kernel
theorem dX10_readNamed_25 : decode cX10_readNamed 25 = .ok (.iconst 1, 1) := by decide +kernel
theorem dX10_readNamed_26 : decode cX10_readNamed 26 = .ok (.iadd, 1) := by decide +kernel
theorem dX10_readNamed_27 : decode cX10_readNamed 27 = .ok (.putfield 72, 3) := by decide +kernel
theorem dX10_readNamed_30 : decode cX10_readNamed 30 = .ok (.aload_n 0, 1) := by decide +kernel
theorem dX10_readNamed_31 : decode cX10_readNamed 31 = .ok (.getfield 31, 3) := by decide +kernel
theorem dX10_readNamed_34 : decode cX10_readNamed 34 = .ok (.invokevirtual 93, 3) := by decide +kernel
theorem dX10_readNamed_37 : decode cX10_readNamed 37 = .ok (.bipush 40, 2) := by decide +kernel
theorem dX10_readNamed_39 : decode cX10_readNamed 39 = .ok (.if_icmp .ne 52, 3) := by decide +kernel
theorem dX10_readNamed_42 : decode cX10_readNamed 42 = .ok (.aload_n 0, 1) := by decide +kernel
theorem dX10_readNamed_43 : decode cX10_readNamed 43 = .ok (.aload_n 0, 1) := by decide +kernel
theorem dX10_readNamed_44 : decode cX10_readNamed 44 = .ok (.getfield 54, 3) := by decide +kernel
theorem dX10_readNamed_47 : decode cX10_readNamed 47 = .ok (.iload_n 2, 1) := by decide +kernel
theorem dX10_readNamed_48 : decode cX10_readNamed 48 = .ok (.invokevirtual 248, 3) := by decide +kernel
theorem dX10_readNamed_51 : decode cX10_readNamed 51 = .ok (.istore 4, 2) := by decide +kernel
theorem dX10_readNamed_53 : decode cX10_readNamed 53 = .ok (.iload 4, 2) := by decide +kernel
theorem dX10_readNamed_55 : decode cX10_readNamed 55 = .ok (.iconst (-1), 1) := by decide +kernel
theorem dX10_readNamed_56 : decode cX10_readNamed 56 = .ok (.if_icmp .eq 20, 3) := by decide +kernel
theorem dX10_readNamed_59 : decode cX10_readNamed 59 = .ok (.aload_n 0, 1) := by decide +kernel
theorem dX10_readNamed_60 : decode cX10_readNamed 60 = .ok (.getfield 35, 3) := by decide +kernel
theorem dX10_readNamed_63 : decode cX10_readNamed 63 = .ok (.iload 4, 2) := by decide +kernel
theorem dX10_readNamed_65 : decode cX10_readNamed 65 = .ok (.invokevirtual 251, 3) := by decide +kernel
theorem dX10_readNamed_68 : decode cX10_readNamed 68 = .ok (.ifCond .ne 8, 3) := by decide +kernel
theorem dX10_readNamed_71 : decode cX10_readNamed 71 = .ok (.aload_n 0, 1) := by decide +kernel
theorem dX10_readNamed_72 : decode cX10_readNamed 72 = .ok (.iload_n 2, 1) := by decide +kernel
theorem dX10_readNamed_73 : decode cX10_readNamed 73 = .ok (.invokevirtual 236, 3) := by decide +kernel
theorem dX10_readNamed_76 : decode cX10_readNamed 76 = .ok (.aload_n 0, 1) := by decide +kernel
theorem dX10_readNamed_77 : decode cX10_readNamed 77 = .ok (.aload_n 0, 1) := by decide +kernel
theorem dX10_readNamed_78 : decode cX10_readNamed 78 = .ok (.getfield 54, 3) := by decide +kernel
theorem dX10_readNamed_81 : decode cX10_readNamed 81 = .ok (.iload 4, 2) := by decide +kernel
theorem dX10_readNamed_83 : decode cX10_readNamed 83 = .ok (.iload_n 2, 1) := by decide +kernel
theorem dX10_readNamed_84 : decode cX10_readNamed 84 = .ok (.iconst 0, 1) := by decide +kernel
theorem dX10_readNamed_85 : decode cX10_readNamed 85 = .ok (.iload_n 2, 1) := by decide +kernel
theorem dX10_readNamed_86 : decode cX10_readNamed 86 = .ok (.iload_n 1, 1) := by decide +kernel
theorem dX10_readNamed_87 : decode cX10_readNamed 87 = .ok (.invokevirtual 254, 3) := by decide +kernel
theorem dX10_readNamed_90 : decode cX10_readNamed 90 = .ok (.return_, 1) := by decide +kernel
theorem dX10_readNamed_91 : decode cX10_readNamed 91 = .ok (.aload_n 0, 1) := by decide +kernel
theorem dX10_readNamed_92 : decode cX10_readNamed 92 = .ok (.getfield 46, 3) := by decide +kernel
theorem dX10_readNamed_95 : decode cX10_readNamed 95 = .ok (.iload_n 3, 1) := by decide +kernel
theorem dX10_readNamed_96 : decode cX10_readNamed 96 = .ok (.invokevirtual 258, 3) := by decide +kernel
theorem dX10_readNamed_99 : decode cX10_readNamed 99 = .ok (.istore 4, 2) := by decide +kernel
theorem dX10_readNamed_101 : decode cX10_readNamed 101 = .ok (.iload 4, 2) := by decide +kernel
theorem dX10_readNamed_103 : decode cX10_readNamed 103 = .ok (.iconst (-1), 1) := by decide +kernel
theorem dX10_readNamed_104 : decode cX10_readNamed 104 = .ok (.if_icmp .ne 18, 3) := by decide +kernel
theorem dX10_readNamed_107 : decode cX10_readNamed 107 = .ok (.aload_n 0, 1) := by decide +kernel
theorem dX10_readNamed_108 : decode cX10_readNamed 108 = .ok (.getfield 35, 3) := by decide +kernel
theorem dX10_readNamed_111 : decode cX10_readNamed 111 = .ok (.aload_n 0, 1) := by decide +kernel
theorem dX10_readNamed_112 : decode cX10_readNamed 112 = .ok (.getfield 54, 3) := by decide +kernel
theorem dX10_readNamed_115 : decode cX10_readNamed 115 = .ok (.iload_n 3, 1) := by decide +kernel
theorem dX10_readNamed_116 : decode cX10_readNamed 116 = .ok (.invokevirtual 261, 3) := by decide +kernel
theorem dX10_readNamed_119 : decode cX10_readNamed 119 = .ok (.goto 4, 3) := by decide +kernel
theorem dX10_readNamed_122 : decode cX10_readNamed 122 = .ok (.iconst (-1), 1) := by decide +kernel
theorem dX10_readNamed_123 : decode cX10_readNamed 123 = .ok (.istore 5, 2) := by decide +kernel
theorem dX10_readNamed_125 : decode cX10_readNamed 125 = .ok (.iload 4, 2) := by decide +kernel
theorem dX10_readNamed_127 : decode cX10_readNamed 127 = .ok (.iconst (-1), 1) := by decide +kernel
theorem dX10_readNamed_128 : decode cX10_readNamed 128 = .ok (.if_icmp .eq 30, 3) := by decide +kernel
theorem dX10_readNamed_131 : decode cX10_readNamed 131 = .ok (.aload_n 0, 1) := by decide +kernel
theorem dX10_readNamed_132 : decode cX10_readNamed 132 = .ok (.iconst 2, 1) := by decide +kernel
theorem dX10_readNamed_133 : decode cX10_readNamed 133 = .ok (.putfield 133, 3) := by decide +kernel
theorem dX10_readNamed_136 : decode cX10_readNamed 136 = .ok (.aload_n 0, 1) := by decide +kernel
theorem dX10_readNamed_137 : decode cX10_readNamed 137 = .ok (.iload 4, 2) := by decide +kernel
theorem dX10_readNamed_139 : decode cX10_readNamed 139 = .ok (.putfield 215, 3) := by decide +kernel
theorem dX10_readNamed_142 : decode cX10_readNamed 142 = .ok (.aload_n 0, 1) := by decide +kernel
theorem dX10_readNamed_143 : decode cX10_readNamed 143 = .ok (.aload_n 0, 1) := by decide +kernel
theorem dX10_readNamed_144 : decode cX10_readNamed 144 = .ok (.getfield 46, 3) := by decide +kernel
theorem dX10_readNamed_147 : decode cX10_readNamed 147 = .ok (.iload 4, 2) := by decide +kernel
theorem dX10_readNamed_149 : decode cX10_readNamed 149 = .ok (.invokevirtual 262, 3) := by decide +kernel
theorem dX10_readNamed_152 : decode cX10_readNamed 152 = .ok (.putfield 75, 3) := by decide +kernel
theorem dX10_readNamed_155 : decode cX10_readNamed 155 = .ok (.goto 80, 3) := by decide +kernel
theorem dX10_readNamed_158 : decode cX10_readNamed 158 = .ok (.iload 5, 2) := by decide +kernel
theorem dX10_readNamed_160 : decode cX10_readNamed 160 = .ok (.iconst (-1), 1) := by decide +kernel
theorem dX10_readNamed_161 : decode cX10_readNamed 161 = .ok (.if_icmp .eq 21, 3) := by decide +kernel
theorem dX10_readNamed_164 : decode cX10_readNamed 164 = .ok (.aload_n 0, 1) := by decide +kernel
theorem dX10_readNamed_165 : decode cX10_readNamed 165 = .ok (.iload_n 2, 1) := by decide +kernel
theorem dX10_readNamed_166 : decode cX10_readNamed 166 = .ok (.invokevirtual 236, 3) := by decide +kernel
theorem dX10_readNamed_169 : decode cX10_readNamed 169 = .ok (.aload_n 0, 1) := by decide +kernel
theorem dX10_readNamed_170 : decode cX10_readNamed 170 = .ok (.aload_n 0, 1) := by decide +kernel
theorem dX10_readNamed_171 : decode cX10_readNamed 171 = .ok (.getfield 54, 3) := by decide +kernel
theorem dX10_readNamed_174 : decode cX10_readNamed 174 = .ok (.iload 5, 2) := by decide +kernel
theorem dX10_readNamed_176 : decode cX10_readNamed 176 = .ok (.invokevirtual 265, 3) := by decide +kernel
theorem dX10_readNamed_179 : decode cX10_readNamed 179 = .ok (.goto 56, 3) := by decide +kernel
theorem dX10_readNamed_182 : decode cX10_readNamed 182 = .ok (.aload_n 0, 1) := by decide +kernel
theorem dX10_readNamed_183 : decode cX10_readNamed 183 = .ok (.iload_n 2, 1) := by decide +kernel
theorem dX10_readNamed_184 : decode cX10_readNamed 184 = .ok (.iconst 1, 1) := by decide +kernel
theorem dX10_readNamed_185 : decode cX10_readNamed 185 = .ok (.iadd, 1) := by decide +kernel
theorem dX10_readNamed_186 : decode cX10_readNamed 186 = .ok (.invokevirtual 268, 3) := by decide +kernel
theorem dX10_readNamed_189 : decode cX10_readNamed 189 = .ok (.ifCond .eq 37, 3) := by decide +kernel
theorem dX10_readNamed_192 : decode cX10_readNamed 192 = .ok (.aload_n 0, 1) := by decide +kernel
theorem dX10_readNamed_193 : decode cX10_readNamed 193 = .ok (.iload_n 2, 1) := by decide +kernel
theorem dX10_readNamed_194 : decode cX10_readNamed 194 = .ok (.iload_n 2, 1) := by decide +kernel
theorem dX10_readNamed_195 : decode cX10_readNamed 195 = .ok (.iconst 3, 1) := by decide +kernel
theorem dX10_readNamed_196 : decode cX10_readNamed 196 = .ok (.iadd, 1) := by decide +kernel
theorem dX10_readNamed_197 : decode cX10_readNamed 197 = .ok (.invokevirtual 168, 3) := by decide +kernel
theorem dX10_readNamed_200 : decode cX10_readNamed 200 = .ok (.istore 6, 2) := by decide +kernel
theorem dX10_readNamed_202 : decode cX10_readNamed 202 = .ok (.aload_n 0, 1) := by decide +kernel
theorem dX10_readNamed_203 : decode cX10_readNamed 203 = .ok (.iload 6, 2) := by decide +kernel
theorem dX10_readNamed_205 : decode cX10_readNamed 205 = .ok (.aload_n 0, 1) := by decide +kernel
theorem dX10_readNamed_206 : decode cX10_readNamed 206 = .ok (.iload 6, 2) := by decide +kernel
theorem dX10_readNamed_208 : decode cX10_readNamed 208 = .ok (.iload_n 2, 1) := by decide +kernel
theorem dX10_readNamed_209 : decode cX10_readNamed 209 = .ok (.iconst 2, 1) := by decide +kernel
theorem dX10_readNamed_210 : decode cX10_readNamed 210 = .ok (.iadd, 1) := by decide +kernel
theorem dX10_readNamed_211 : decode cX10_readNamed 211 = .ok (.invokevirtual 248, 3) := by decide +kernel
theorem dX10_readNamed_214 : decode cX10_readNamed 214 = .ok (.iload_n 2, 1) := by decide +kernel
theorem dX10_readNamed_215 : decode cX10_readNamed 215 = .ok (.iconst 2, 1) := by decide +kernel
theorem dX10_readNamed_216 : decode cX10_readNamed 216 = .ok (.iadd, 1) := by decide +kernel
theorem dX10_readNamed_217 : decode cX10_readNamed 217 = .ok (.iconst 2, 1) := by decide +kernel
theorem dX10_readNamed_218 : decode cX10_readNamed 218 = .ok (.iload_n 2, 1) := by decide +kernel
theorem dX10_readNamed_219 : decode cX10_readNamed 219 = .ok (.iload_n 1, 1) := by decide +kernel
theorem dX10_readNamed_220 : decode cX10_readNamed 220 = .ok (.invokevirtual 254, 3) := by decide +kernel
theorem dX10_readNamed_223 : decode cX10_readNamed 223 = .ok (.goto 12, 3) := by decide +kernel
theorem dX10_readNamed_226 : decode cX10_readNamed 226 = .ok (.aload_n 0, 1) := by decide +kernel
theorem dX10_readNamed_227 : decode cX10_readNamed 227 = .ok (.getfield 31, 3) := by decide +kernel
theorem dX10_readNamed_230 : decode cX10_readNamed 230 = .ok (.iconst 5, 1) := by decide +kernel
theorem dX10_readNamed_231 : decode cX10_readNamed 231 = .ok (.iload_n 2, 1) := by decide +kernel
theorem dX10_readNamed_232 : decode cX10_readNamed 232 = .ok (.invokevirtual 165, 3) := by decide +kernel
theorem dX10_readNamed_235 : decode cX10_readNamed 235 = .ok (.return_, 1) := by decide +kernel
theorem dX10_readNew_0 : decode cX10_readNew 0 = .ok (.aload_n 0, 1) := by decide +kernel
theorem dX10_readNew_1 : decode cX10_readNew 1 = .ok (.getfield 31, 3) := by decide +kernel
theorem dX10_readNew_4 : decode cX10_readNew 4 = .ok (.getfield 72, 3) := by decide +kernel
theorem dX10_readNew_7 : decode cX10_readNew 7 = .ok (.iconst 1, 1) := by decide +kernel
theorem dX10_readNew_8 : decode cX10_readNew 8 = .ok (.iadd, 1) := by decide +kernel
theorem dX10_readNew_9 : decode cX10_readNew 9 = .ok (.istore_n 2, 1) := by decide +kernel
theorem dX10_readNew_10 : decode cX10_readNew 10 = .ok (.aload_n 0, 1) := by decide +kernel
theorem dX10_readNew_11 : decode cX10_readNew 11 = .ok (.getfield 31, 3) := by decide +kernel
theorem dX10_readNew_14 : decode cX10_readNew 14 = .ok (.iload_n 2, 1) := by decide +kernel
theorem dX10_readNew_15 : decode cX10_readNew 15 = .ok (.invokevirtual 224, 3) := by decide +kernel
theorem dX10_readNew_18 : decode cX10_readNew 18 = .ok (.bipush 20, 2) := by decide +kernel
theorem dX10_readNew_20 : decode cX10_readNew 20 = .ok (.if_icmp .ne 7, 3) := by decide +kernel
theorem dX10_readNew_23 : decode cX10_readNew 23 = .ok (.iconst 1, 1) := by decide +kernel
theorem dX10_readNew_24 : decode cX10_readNew 24 = .ok (.goto 4, 3) := by decide +kernel
theorem dX10_readNew_27 : decode cX10_readNew 27 = .ok (.iconst 0, 1) := by decide +kernel
theorem dX10_readNew_28 : decode cX10_readNew 28 = .ok (.istore_n 3, 1) := by decide +kernel
theorem dX10_readNew_29 : decode cX10_readNew 29 = .ok (.iload_n 3, 1) := by decide +kernel
theorem dX10_readNew_30 : decode cX10_readNew 30 = .ok (.ifCond .eq 7, 3) := by decide +kernel
theorem dX10_readNew_33 : decode cX10_readNew 33 = .ok (.iconst 0, 1) := by decide +kernel
theorem dX10_readNew_34 : decode cX10_readNew 34 = .ok (.goto 9, 3) := by decide +kernel
theorem dX10_readNew_37 : decode cX10_readNew 37 = .ok (.aload_n 0, 1) := by decide +kernel
theorem dX10_readNew_38 : decode cX10_readNew 38 = .ok (.iload_n 2, 1) := by decide +kernel
theorem dX10_readNew_39 : decode cX10_readNew 39 = .ok (.iload_n 2, 1) := by decide +kernel
theorem dX10_readNew_40 : decode cX10_readNew 40 = .ok (.invokevirtual 168, 3) := by decide +kernel
theorem dX10_readNew_43 : decode cX10_readNew 43 = .ok (.istore 4, 2) := by decide +kernel
theorem dX10_readNew_45 : decode cX10_readNew 45 = .ok (.iload 4, 2) := by decide +kernel
theorem dX10_readNew_47 : decode cX10_readNew 47 = .ok (.iconst (-1), 1) := by decide +kernel
theorem dX10_readNew_48 : decode cX10_readNew 48 = .ok (.if_icmp .ne 4, 3) := by decide +kernel
theorem dX10_readNew_51 : decode cX10_readNew 51 = .ok (.return_, 1) := by decide +kernel
theorem dX10_readNew_52 : decode cX10_readNew 52 = .ok (.aload_n 0, 1) := by decide +kernel
theorem dX10_readNew_53 : decode cX10_readNew 53 = .ok (.getfield 31, 3) := by decide +kernel
theorem dX10_readNew_56 : decode cX10_readNew 56 = .ok (.iload_n 2, 1) := by decide +kernel
theorem dX10_readNew_57 : decode cX10_readNew 57 = .ok (.iconst 1, 1) := by decide +kernel
theorem dX10_readNew_58 : decode cX10_readNew 58 = .ok (.iadd, 1) := by decide +kernel
theorem dX10_readNew_59 : decode cX10_readNew 59 = .ok (.invokevirtual 224, 3) := by decide +kernel
theorem dX10_readNew_62 : decode cX10_readNew 62 = .ok (.bipush 40, 2) := by decide +kernel
theorem dX10_readNew_64 : decode cX10_readNew 64 = .ok (.if_icmp .ne 39, 3) := by decide +kernel
theorem dX10_readNew_67 : decode cX10_readNew 67 = .ok (.aload_n 0, 1) := by decide +kernel
theorem dX10_readNew_68 : decode cX10_readNew 68 = .ok (.getfield 31, 3) := by decide +kernel
theorem dX10_readNew_71 : decode cX10_readNew 71 = .ok (.iload_n 2, 1) := by decide +kernel
theorem dX10_readNew_72 : decode cX10_readNew 72 = .ok (.iconst 3, 1) := by decide +kernel
theorem dX10_readNew_73 : decode cX10_readNew 73 = .ok (.iadd, 1) := by decide +kernel
theorem dX10_readNew_74 : decode cX10_readNew 74 = .ok (.putfield 72, 3) := by decide +kernel
theorem dX10_readNew_77 : decode cX10_readNew 77 = .ok (.aload_n 0, 1) := by decide +kernel
theorem dX10_readNew_78 : decode cX10_readNew 78 = .ok (.getfield 46, 3) := by decide +kernel
theorem dX10_readNew_81 : decode cX10_readNew 81 = .ok (.sipush 187, 3) := by decide +kernel
theorem dX10_readNew_84 : decode cX10_readNew 84 = .ok (.aload_n 0, 1) := by decide +kernel
theorem dX10_readNew_85 : decode cX10_readNew 85 = .ok (.getfield 50, 3) := by decide +kernel
theorem dX10_readNew_88 : decode cX10_readNew 88 = .ok (.iload 4, 2) := by decide +kernel
theorem dX10_readNew_90 : decode cX10_readNew 90 = .ok (.invokevirtual 174, 3) := by decide +kernel
theorem dX10_readNew_93 : decode cX10_readNew 93 = .ok (.invokevirtual 179, 3) := by decide +kernel
theorem dX10_readNew_96 : decode cX10_readNew 96 = .ok (.aload_n 0, 1) := by decide +kernel
theorem dX10_readNew_97 : decode cX10_readNew 97 = .ok (.iload 4, 2) := by decide +kernel
theorem dX10_readNew_99 : decode cX10_readNew 99 = .ok (.invokevirtual 233, 3) := by decide +kernel
theorem dX10_readNew_102 : decode cX10_readNew 102 = .ok (.return_, 1) := by decide +kernel
theorem dX10_readNew_103 : decode cX10_readNew 103 = .ok (.aload_n 0, 1) := by decide +kernel
theorem dX10_readNew_104 : decode cX10_readNew 104 = .ok (.getfield 31, 3) := by decide +kernel
theorem dX10_readNew_107 : decode cX10_readNew 107 = .ok (.iload_n 2, 1) := by decide +kernel
theorem dX10_readNew_108 : decode cX10_readNew 108 = .ok (.iconst 2, 1) := by decide +kernel
theorem dX10_readNew_109 : decode cX10_readNew 109 = .ok (.iadd, 1) := by decide +kernel
theorem dX10_readNew_110 : decode cX10_readNew 110 = .ok (.putfield 72, 3) := by decide +kernel
theorem dX10_readNew_113 : decode cX10_readNew 113 = .ok (.aload_n 0, 1) := by decide +kernel
theorem dX10_readNew_114 : decode cX10_readNew 114 = .ok (.iload_n 1, 1) := by decide +kernel
theorem dX10_readNew_115 : decode cX10_readNew 115 = .ok (.invokevirtual 68, 3) := by decide +kernel
theorem dX10_readNew_118 : decode cX10_readNew 118 = .ok (.aload_n 0, 1) := by decide +kernel
theorem dX10_readNew_119 : decode cX10_readNew 119 = .ok (.getfield 31, 3) := by decide +kernel
theorem dX10_readNew_122 : decode cX10_readNew 122 = .ok (.dup, 1) := by decide +kernel
theorem dX10_readNew_123 : decode cX10_readNew 123 = .ok (.getfield 72, 3) := by decide +kernel
theorem dX10_readNew_126 : decode cX10_readNew 126 = .ok (.iconst 1, 1) := by decide +kernel
theorem dX10_readNew_127 : decode cX10_readNew 127 = .ok (.iadd, 1) := by decide +kernel
theorem dX10_readNew_128 : decode cX10_readNew 128 = .ok (.putfield 72, 3) := by decide +kernel
theorem dX10_readNew_131 : decode cX10_readNew 131 = .ok (.aload_n 0, 1) := by decide +kernel
theorem dX10_readNew_132 : decode cX10_readNew 132 = .ok (.aload_n 0, 1) := by decide +kernel
theorem dX10_readNew_133 : decode cX10_readNew 133 = .ok (.getfield 75, 3) := by decide +kernel
theorem dX10_readNew_136 : decode cX10_readNew 136 = .ok (.sipush 301, 3) := by decide +kernel
theorem dX10_readNew_139 : decode cX10_readNew 139 = .ok (.if_icmp .ne 7, 3) := by decide +kernel
theorem dX10_readNew_142 : decode cX10_readNew 142 = .ok (.iconst 1, 1) := by decide +kernel
theorem dX10_readNew_143 : decode cX10_readNew 143 = .ok (.goto 4, 3) := by decide +kernel
theorem dX10_readNew_146 : decode cX10_readNew 146 = .ok (.iconst 0, 1) := by decide +kernel
theorem dX10_readNew_147 : decode cX10_readNew 147 = .ok (.iload_n 2, 1) := by decide +kernel
theorem dX10_readNew_148 : decode cX10_readNew 148 = .ok (.iconst 1, 1) := by decide +kernel
theorem dX10_readNew_149 : decode cX10_readNew 149 = .ok (.iadd, 1) := by decide +kernel
theorem dX10_readNew_150 : decode cX10_readNew 150 = .ok (.invokevirtual 80, 3) := by decide +kernel
theorem dX10_readNew_153 : decode cX10_readNew 153 = .ok (.aload_n 0, 1) := by decide +kernel
theorem dX10_readNew_154 : decode cX10_readNew 154 = .ok (.getfield 46, 3) := by decide +kernel
theorem dX10_readNew_157 : decode cX10_readNew 157 = .ok (.iload_n 3, 1) := by decide +kernel
theorem dX10_readNew_158 : decode cX10_readNew 158 = .ok (.ifCond .eq 9, 3) := by decide +kernel
theorem dX10_readNew_161 : decode cX10_readNew 161 = .ok (.sipush 188, 3) := by decide +kernel
theorem dX10_readNew_164 : decode cX10_readNew 164 = .ok (.goto 6, 3) := by decide +kernel
theorem dX10_readNew_167 : decode cX10_readNew 167 = .ok (.sipush 189, 3) := by decide +kernel
theorem dX10_readNew_170 : decode cX10_readNew 170 = .ok (.iload_n 3, 1) := by decide +kernel
theorem dX10_readNew_171 : decode cX10_readNew 171 = .ok (.ifCond .eq 8, 3) := by decide +kernel
theorem dX10_readNew_174 : decode cX10_readNew 174 = .ok (.bipush 10, 2) := by decide +kernel
theorem dX10_readNew_176 : decode cX10_readNew 176 = .ok (.goto 12, 3) := by decide +kernel
theorem dX10_readNew_179 : decode cX10_readNew 179 = .ok (.aload_n 0, 1) := by decide +kernel
theorem dX10_readNew_180 : decode cX10_readNew 180 = .ok (.getfield 50, 3) := by decide +kernel
theorem dX10_readNew_183 : decode cX10_readNew 183 = .ok (.iload 4, 2) := by decide +kernel
theorem dX10_readNew_185 : decode cX10_readNew 185 = .ok (.invokevirtual 174, 3) := by decide +kernel
theorem dX10_readNew_188 : decode cX10_readNew 188 = .ok (.invokevirtual 179, 3) := by decide +kernel
theorem dX10_readNew_191 : decode cX10_readNew 191 = .ok (.aload_n 0, 1) := by decide +kernel
theorem dX10_readNew_192 : decode cX10_readNew 192 = .ok (.getfield 46, 3) := by decide +kernel
theorem dX10_readNew_195 : decode cX10_readNew 195 = .ok (.iconst 1, 1) := by decide +kernel
theorem dX10_readNew_196 : decode cX10_readNew 196 = .ok (.invokevirtual 118, 3) := by decide +kernel
theorem dX10_readNew_199 : decode cX10_readNew 199 = .ok (.aload_n 0, 1) := by decide +kernel
theorem dX10_readNew_200 : decode cX10_readNew 200 = .ok (.iload_n 3, 1) := by decide +kernel
theorem dX10_readNew_201 : decode cX10_readNew 201 = .ok (.ifCond .eq 9, 3) := by decide +kernel
theorem dX10_readNew_204 : decode cX10_readNew 204 = .ok (.sipush 200, 3) := by decide +kernel
theorem dX10_readNew_207 : decode cX10_readNew 207 = .ok (.goto 8, 3) := by decide +kernel
theorem dX10_readNew_210 : decode cX10_readNew 210 = .ok (.bipush 100, 2) := by decide +kernel
theorem dX10_readNew_212 : decode cX10_readNew 212 = .ok (.iload 4, 2) := by decide +kernel
theorem dX10_readNew_214 : decode cX10_readNew 214 = .ok (.iadd, 1) := by decide +kernel
theorem dX10_readNew_215 : decode cX10_readNew 215 = .ok (.invokevirtual 233, 3) := by decide +kernel
theorem dX10_readNew_218 : decode cX10_readNew 218 = .ok (.return_, 1) := by decide +kernel
theorem dX10_readPrimary_0 : decode cX10_readPrimary 0 = .ok (.aload_n 0, 1) := by decide +kernel
theorem dX10_readPrimary_1 : decode cX10_readPrimary 1 = .ok (.getfield 31, 3) := by decide +kernel
theorem dX10_readPrimary_4 : decode cX10_readPrimary 4 = .ok (.getfield 72, 3) := by decide +kernel
theorem dX10_readPrimary_7 : decode cX10_readPrimary 7 = .ok (.istore_n 2, 1) := by decide +kernel
theorem dX10_readPrimary_8 : decode cX10_readPrimary 8 = .ok (.aload_n 0, 1) := by decide +kernel
theorem dX10_readPrimary_9 : decode cX10_readPrimary 9 = .ok (.getfield 31, 3) := by decide +kernel
theorem dX10_readPrimary_12 : decode cX10_readPrimary 12 = .ok (.invokevirtual 93, 3) := by decide +kernel
theorem dX10_readPrimary_15 : decode cX10_readPrimary 15 = .ok (.lookupswitch 88 #[(2, 33), (21, 80), (40, 41)], 33) := by decide +kernel
theorem dX10_readPrimary_48 : decode cX10_readPrimary 48 = .ok (.aload_n 0, 1) := by decide +kernel
theorem dX10_readPrimary_49 : decode cX10_readPrimary 49 = .ok (.iload_n 1, 1) := by decide +kernel
theorem dX10_readPrimary_50 : decode cX10_readPrimary 50 = .ok (.invokevirtual 197, 3) := by decide +kernel
theorem dX10_readPrimary_53 : decode cX10_readPrimary 53 = .ok (.goto 54, 3) := by decide +kernel
theorem dX10_readPrimary_56 : decode cX10_readPrimary 56 = .ok (.aload_n 0, 1) := by decide +kernel
theorem dX10_readPrimary_57 : decode cX10_readPrimary 57 = .ok (.getfield 31, 3) := by decide +kernel
theorem dX10_readPrimary_60 : decode cX10_readPrimary 60 = .ok (.dup, 1) := by decide +kernel
theorem dX10_readPrimary_61 : decode cX10_readPrimary 61 = .ok (.getfield 72, 3) := by decide +kernel
theorem dX10_readPrimary_64 : decode cX10_readPrimary 64 = .ok (.iconst 1, 1) := by decide +kernel
theorem dX10_readPrimary_65 : decode cX10_readPrimary 65 = .ok (.iadd, 1) := by decide +kernel
theorem dX10_readPrimary_66 : decode cX10_readPrimary 66 = .ok (.putfield 72, 3) := by decide +kernel
theorem dX10_readPrimary_69 : decode cX10_readPrimary 69 = .ok (.aload_n 0, 1) := by decide +kernel
theorem dX10_readPrimary_70 : decode cX10_readPrimary 70 = .ok (.iload_n 1, 1) := by decide +kernel
theorem dX10_readPrimary_71 : decode cX10_readPrimary 71 = .ok (.invokevirtual 68, 3) := by decide +kernel
theorem dX10_readPrimary_74 : decode cX10_readPrimary 74 = .ok (.aload_n 0, 1) := by decide +kernel
theorem dX10_readPrimary_75 : decode cX10_readPrimary 75 = .ok (.getfield 31, 3) := by decide +kernel
theorem dX10_readPrimary_78 : decode cX10_readPrimary 78 = .ok (.dup, 1) := by decide +kernel
theorem dX10_readPrimary_79 : decode cX10_readPrimary 79 = .ok (.getfield 72, 3) := by decide +kernel
theorem dX10_readPrimary_82 : decode cX10_readPrimary 82 = .ok (.iconst 1, 1) := by decide +kernel
theorem dX10_readPrimary_83 : decode cX10_readPrimary 83 = .ok (.iadd, 1) := by decide +kernel
theorem dX10_readPrimary_84 : decode cX10_readPrimary 84 = .ok (.putfield 72, 3) := by decide +kernel
theorem dX10_readPrimary_87 : decode cX10_readPrimary 87 = .ok (.aload_n 0, 1) := by decide +kernel
theorem dX10_readPrimary_88 : decode cX10_readPrimary 88 = .ok (.iconst 0, 1) := by decide +kernel
theorem dX10_readPrimary_89 : decode cX10_readPrimary 89 = .ok (.putfield 133, 3) := by decide +kernel
theorem dX10_readPrimary_92 : decode cX10_readPrimary 92 = .ok (.goto 15, 3) := by decide +kernel
theorem dX10_readPrimary_95 : decode cX10_readPrimary 95 = .ok (.aload_n 0, 1) := by decide +kernel
theorem dX10_readPrimary_96 : decode cX10_readPrimary 96 = .ok (.iload_n 1, 1) := by decide +kernel
theorem dX10_readPrimary_97 : decode cX10_readPrimary 97 = .ok (.invokevirtual 200, 3) := by decide +kernel
theorem dX10_readPrimary_100 : decode cX10_readPrimary 100 = .ok (.goto 7, 3) := by decide +kernel
theorem dX10_readPrimary_103 : decode cX10_readPrimary 103 = .ok (.aload_n 0, 1) := by decide +kernel
theorem dX10_readPrimary_104 : decode cX10_readPrimary 104 = .ok (.invokevirtual 203, 3) := by decide +kernel
theorem dX10_readPrimary_107 : decode cX10_readPrimary 107 = .ok (.aload_n 0, 1) := by decide +kernel
theorem dX10_readPrimary_108 : decode cX10_readPrimary 108 = .ok (.getfield 31, 3) := by decide +kernel
theorem dX10_readPrimary_111 : decode cX10_readPrimary 111 = .ok (.invokevirtual 93, 3) := by decide +kernel
theorem dX10_readPrimary_114 : decode cX10_readPrimary 114 = .ok (.istore_n 3, 1) := by decide +kernel
theorem dX10_readPrimary_115 : decode cX10_readPrimary 115 = .ok (.iconst 0, 1) := by decide +kernel
theorem dX10_readPrimary_116 : decode cX10_readPrimary 116 = .ok (.istore 4, 2) := by decide +kernel
theorem dX10_readPrimary_118 : decode cX10_readPrimary 118 = .ok (.iload 4, 2) := by decide +kernel
theorem dX10_readPrimary_120 : decode cX10_readPrimary 120 = .ok (.sipush 3000, 3) := by decide +kernel
theorem dX10_readPrimary_123 : decode cX10_readPrimary 123 = .ok (.if_icmp .ge 53, 3) := by decide +kernel
theorem dX10_readPrimary_126 : decode cX10_readPrimary 126 = .ok (.iload_n 3, 1) := by decide +kernel
theorem dX10_readPrimary_127 : decode cX10_readPrimary 127 = .ok (.bipush 48, 2) := by decide +kernel
theorem dX10_readPrimary_129 : decode cX10_readPrimary 129 = .ok (.if_icmp .eq 9, 3) := by decide +kernel
theorem dX10_readPrimary_132 : decode cX10_readPrimary 132 = .ok (.iload_n 3, 1) := by decide +kernel
theorem dX10_readPrimary_133 : decode cX10_readPrimary 133 = .ok (.bipush 44, 2) := by decide +kernel
theorem dX10_readPrimary_135 : decode cX10_readPrimary 135 = .ok (.if_icmp .ne 41, 3) := by decide +kernel
theorem dX10_readPrimary_138 : decode cX10_readPrimary 138 = .ok (.aload_n 0, 1) := by decide +kernel
theorem dX10_readPrimary_139 : decode cX10_readPrimary 139 = .ok (.invokevirtual 206, 3) := by decide +kernel
theorem dX10_readPrimary_142 : decode cX10_readPrimary 142 = .ok (.iload_n 3, 1) := by decide +kernel
theorem dX10_readPrimary_143 : decode cX10_readPrimary 143 = .ok (.bipush 48, 2) := by decide +kernel
theorem dX10_readPrimary_145 : decode cX10_readPrimary 145 = .ok (.if_icmp .ne 12, 3) := by decide +kernel
theorem dX10_readPrimary_148 : decode cX10_readPrimary 148 = .ok (.aload_n 0, 1) := by decide +kernel
theorem dX10_readPrimary_149 : decode cX10_readPrimary 149 = .ok (.iload_n 2, 1) := by decide +kernel
theorem dX10_readPrimary_150 : decode cX10_readPrimary 150 = .ok (.iload_n 1, 1) := by decide +kernel
theorem dX10_readPrimary_151 : decode cX10_readPrimary 151 = .ok (.invokevirtual 209, 3) := by decide +kernel
theorem dX10_readPrimary_154 : decode cX10_readPrimary 154 = .ok (.goto 8, 3) := by decide +kernel
theorem dX10_readPrimary_157 : decode cX10_readPrimary 157 = .ok (.aload_n 0, 1) := by decide +kernel
theorem dX10_readPrimary_158 : decode cX10_readPrimary 158 = .ok (.iload_n 1, 1) := by decide +kernel
theorem dX10_readPrimary_159 : decode cX10_readPrimary 159 = .ok (.invokevirtual 212, 3) := by decide +kernel
theorem dX10_readPrimary_162 : decode cX10_readPrimary 162 = .ok (.aload_n 0, 1) := by decide +kernel
theorem dX10_readPrimary_163 : decode cX10_readPrimary 163 = .ok (.getfield 31, 3) := by decide +kernel
theorem dX10_readPrimary_166 : decode cX10_readPrimary 166 = .ok (.invokevirtual 93, 3) := by decide +kernel
theorem dX10_readPrimary_169 : decode cX10_readPrimary 169 = .ok (.istore_n 3, 1) := by decide +kernel
theorem dX10_readPrimary_170 : decode cX10_readPrimary 170 = .ok (.iinc 4 1, 3) := by decide +kernel
theorem dX10_readPrimary_173 : decode cX10_readPrimary 173 = .ok (.goto (-55), 3) := by decide +kernel
theorem dX10_readPrimary_176 : decode cX10_readPrimary 176 = .ok (.iload_n 3, 1) := by decide +kernel
theorem dX10_readPrimary_177 : decode cX10_readPrimary 177 = .ok (.bipush 51, 2) := by decide +kernel
theorem dX10_readPrimary_179 : decode cX10_readPrimary 179 = .ok (.if_icmp .eq 7, 3) := by decide +kernel
theorem dX10_readPrimary_182 : decode cX10_readPrimary 182 = .ok (.aload_n 0, 1) := by decide +kernel
theorem dX10_readPrimary_183 : decode cX10_readPrimary 183 = .ok (.invokevirtual 206, 3) := by decide +kernel
theorem dX10_readPrimary_186 : decode cX10_readPrimary 186 = .ok (.return_, 1) := by decide +kernel
theorem dX10_readUnary_0 : decode cX10_readUnary 0 = .ok (.iload_n 1, 1) := by decide +kernel
theorem dX10_readUnary_1 : decode cX10_readUnary 1 = .ok (.bipush 42, 2) := by decide +kernel
theorem dX10_readUnary_3 : decode cX10_readUnary 3 = .ok (.if_icmp .le 4, 3) := by decide +kernel
theorem dX10_readUnary_6 : decode cX10_readUnary 6 = .ok (.return_, 1) := by decide +kernel
theorem dX10_readUnary_7 : decode cX10_readUnary 7 = .ok (.aload_n 0, 1) := by decide +kernel
theorem dX10_readUnary_8 : decode cX10_readUnary 8 = .ok (.getfield 31, 3) := by decide +kernel
theorem dX10_readUnary_11 : decode cX10_readUnary 11 = .ok (.getfield 72, 3) := by decide +kernel
theorem dX10_readUnary_14 : decode cX10_readUnary 14 = .ok (.istore_n 2, 1) := by decide +kernel
theorem dX10_readUnary_15 : decode cX10_readUnary 15 = .ok (.aload_n 0, 1) := by decide +kernel
theorem dX10_readUnary_16 : decode cX10_readUnary 16 = .ok (.getfield 31, 3) := by decide +kernel
theorem dX10_readUnary_19 : decode cX10_readUnary 19 = .ok (.invokevirtual 93, 3) := by decide +kernel
theorem dX10_readUnary_22 : decode cX10_readUnary 22 = .ok (.istore_n 3, 1) := by decide +kernel
theorem dX10_readUnary_23 : decode cX10_readUnary 23 = .ok (.iload_n 3, 1) := by decide +kernel
theorem dX10_readUnary_24 : decode cX10_readUnary 24 = .ok (.bipush 62, 2) := by decide +kernel
theorem dX10_readUnary_26 : decode cX10_readUnary 26 = .ok (.if_icmp .eq 15, 3) := by decide +kernel
theorem dX10_readUnary_29 : decode cX10_readUnary 29 = .ok (.iload_n 3, 1) := by decide +kernel
theorem dX10_readUnary_30 : decode cX10_readUnary 30 = .ok (.bipush 72, 2) := by decide +kernel
theorem dX10_readUnary_32 : decode cX10_readUnary 32 = .ok (.if_icmp .eq 9, 3) := by decide +kernel
theorem dX10_readUnary_35 : decode cX10_readUnary 35 = .ok (.iload_n 3, 1) := by decide +kernel
theorem dX10_readUnary_36 : decode cX10_readUnary 36 = .ok (.bipush 71, 2) := by decide +kernel
theorem dX10_readUnary_38 : decode cX10_readUnary 38 = .ok (.if_icmp .ne 32, 3) := by decide +kernel
theorem dX10_readUnary_41 : decode cX10_readUnary 41 = .ok (.aload_n 0, 1) := by decide +kernel
theorem dX10_readUnary_42 : decode cX10_readUnary 42 = .ok (.getfield 31, 3) := by decide +kernel
theorem dX10_readUnary_45 : decode cX10_readUnary 45 = .ok (.dup, 1) := by decide +kernel
theorem dX10_readUnary_46 : decode cX10_readUnary 46 = .ok (.getfield 72, 3) := by decide +kernel
theorem dX10_readUnary_49 : decode cX10_readUnary 49 = .ok (.iconst 1, 1) := by decide +kernel
theorem dX10_readUnary_50 : decode cX10_readUnary 50 = .ok (.iadd, 1) := by decide +kernel
theorem dX10_readUnary_51 : decode cX10_readUnary 51 = .ok (.putfield 72, 3) := by decide +kernel
theorem dX10_readUnary_54 : decode cX10_readUnary 54 = .ok (.aload_n 0, 1) := by decide +kernel
theorem dX10_readUnary_55 : decode cX10_readUnary 55 = .ok (.iload_n 1, 1) := by decide +kernel
theorem dX10_readUnary_56 : decode cX10_readUnary 56 = .ok (.iconst 1, 1) := by decide +kernel
theorem dX10_readUnary_57 : decode cX10_readUnary 57 = .ok (.iadd, 1) := by decide +kernel
theorem dX10_readUnary_58 : decode cX10_readUnary 58 = .ok (.invokevirtual 90, 3) := by decide +kernel
theorem dX10_readUnary_61 : decode cX10_readUnary 61 = .ok (.aload_n 0, 1) := by decide +kernel
theorem dX10_readUnary_62 : decode cX10_readUnary 62 = .ok (.iload_n 3, 1) := by decide +kernel
theorem dX10_readUnary_63 : decode cX10_readUnary 63 = .ok (.iload_n 2, 1) := by decide +kernel
theorem dX10_readUnary_64 : decode cX10_readUnary 64 = .ok (.invokevirtual 184, 3) := by decide +kernel
theorem dX10_readUnary_67 : decode cX10_readUnary 67 = .ok (.goto 49, 3) := by decide +kernel
theorem dX10_readUnary_70 : decode cX10_readUnary 70 = .ok (.aload_n 0, 1) := by decide +kernel
theorem dX10_readUnary_71 : decode cX10_readUnary 71 = .ok (.getfield 31, 3) := by decide +kernel
theorem dX10_readUnary_74 : decode cX10_readUnary 74 = .ok (.invokevirtual 187, 3) := by decide +kernel
theorem dX10_readUnary_77 : decode cX10_readUnary 77 = .ok (.ifCond .eq 34, 3) := by decide +kernel
theorem dX10_readUnary_80 : decode cX10_readUnary 80 = .ok (.aload_n 0, 1) := by decide +kernel
theorem dX10_readUnary_81 : decode cX10_readUnary 81 = .ok (.iload_n 2, 1) := by decide +kernel
theorem dX10_readUnary_82 : decode cX10_readUnary 82 = .ok (.iconst 1, 1) := by decide +kernel
theorem dX10_readUnary_83 : decode cX10_readUnary 83 = .ok (.iadd, 1) := by decide +kernel
theorem dX10_readUnary_84 : decode cX10_readUnary 84 = .ok (.iload_n 2, 1) := by decide +kernel
theorem dX10_readUnary_85 : decode cX10_readUnary 85 = .ok (.iconst 3, 1) := by decide +kernel
theorem dX10_readUnary_86 : decode cX10_readUnary 86 = .ok (.iadd, 1) := by decide +kernel
theorem dX10_readUnary_87 : decode cX10_readUnary 87 = .ok (.invokevirtual 168, 3) := by decide +kernel
theorem dX10_readUnary_90 : decode cX10_readUnary 90 = .ok (.istore 4, 2) := by decide +kernel
theorem dX10_readUnary_92 : decode cX10_readUnary 92 = .ok (.aload_n 0, 1) := by decide +kernel
theorem dX10_readUnary_93 : decode cX10_readUnary 93 = .ok (.iload_n 1, 1) := by decide +kernel
theorem dX10_readUnary_94 : decode cX10_readUnary 94 = .ok (.iconst 1, 1) := by decide +kernel
theorem dX10_readUnary_95 : decode cX10_readUnary 95 = .ok (.iadd, 1) := by decide +kernel
theorem dX10_readUnary_96 : decode cX10_readUnary 96 = .ok (.invokevirtual 90, 3) := by decide +kernel
theorem dX10_readUnary_99 : decode cX10_readUnary 99 = .ok (.aload_n 0, 1) := by decide +kernel
theorem dX10_readUnary_100 : decode cX10_readUnary 100 = .ok (.iload 4, 2) := by decide +kernel
theorem dX10_readUnary_102 : decode cX10_readUnary 102 = .ok (.iload_n 2, 1) := by decide +kernel
theorem dX10_readUnary_103 : decode cX10_readUnary 103 = .ok (.iconst 1, 1) := by decide +kernel
theorem dX10_readUnary_104 : decode cX10_readUnary 104 = .ok (.iadd, 1) := by decide +kernel
theorem dX10_readUnary_105 : decode cX10_readUnary 105 = .ok (.invokevirtual 191, 3) := by decide +kernel
theorem dX10_readUnary_108 : decode cX10_readUnary 108 = .ok (.goto 8, 3) := by decide +kernel
theorem dX10_readUnary_111 : decode cX10_readUnary 111 = .ok (.aload_n 0, 1) := by decide +kernel
theorem dX10_readUnary_112 : decode cX10_readUnary 112 = .ok (.iload_n 1, 1) := by decide +kernel
theorem dX10_readUnary_113 : decode cX10_readUnary 113 = .ok (.invokevirtual 194, 3) := by decide +kernel
theorem dX10_readUnary_116 : decode cX10_readUnary 116 = .ok (.aload_n 0, 1) := by decide +kernel
theorem dX10_readUnary_117 : decode cX10_readUnary 117 = .ok (.iload_n 2, 1) := by decide +kernel
theorem dX10_readUnary_118 : decode cX10_readUnary 118 = .ok (.putfield 146, 3) := by decide +kernel
theorem dX10_readUnary_121 : decode cX10_readUnary 121 = .ok (.return_, 1) := by decide +kernel
theorem dX10_readValue_0 : decode cX10_readValue 0 = .ok (.iload_n 1, 1) := by decide +kernel
theorem dX10_readValue_1 : decode cX10_readValue 1 = .ok (.bipush 42, 2) := by decide +kernel
theorem dX10_readValue_3 : decode cX10_readValue 3 = .ok (.if_icmp .le 4, 3) := by decide +kernel
theorem dX10_readValue_6 : decode cX10_readValue 6 = .ok (.return_, 1) := by decide +kernel
theorem dX10_readValue_7 : decode cX10_readValue 7 = .ok (.aload_n 0, 1) := by decide +kernel
theorem dX10_readValue_8 : decode cX10_readValue 8 = .ok (.getfield 31, 3) := by decide +kernel
theorem dX10_readValue_11 : decode cX10_readValue 11 = .ok (.getfield 72, 3) := by decide +kernel
theorem dX10_readValue_14 : decode cX10_readValue 14 = .ok (.istore_n 2, 1) := by decide +kernel
theorem dX10_readValue_15 : decode cX10_readValue 15 = .ok (.aload_n 0, 1) := by decide +kernel
theorem dX10_readValue_16 : decode cX10_readValue 16 = .ok (.getfield 65, 3) := by decide +kernel
theorem dX10_readValue_19 : decode cX10_readValue 19 = .ok (.istore_n 3, 1) := by decide +kernel
theorem dX10_readValue_20 : decode cX10_readValue 20 = .ok (.aload_n 0, 1) := by decide +kernel
theorem dX10_readValue_21 : decode cX10_readValue 21 = .ok (.iload_n 1, 1) := by decide +kernel
theorem dX10_readValue_22 : decode cX10_readValue 22 = .ok (.iconst 1, 1) := by decide +kernel
theorem dX10_readValue_23 : decode cX10_readValue 23 = .ok (.iadd, 1) := by decide +kernel
theorem dX10_readValue_24 : decode cX10_readValue 24 = .ok (.invokevirtual 90, 3) := by decide +kernel
theorem dX10_readValue_27 : decode cX10_readValue 27 = .ok (.iconst 0, 1) := by decide +kernel
theorem dX10_readValue_28 : decode cX10_readValue 28 = .ok (.istore 4, 2) := by decide +kernel
theorem dX10_readValue_30 : decode cX10_readValue 30 = .ok (.iload 4, 2) := by decide +kernel
theorem dX10_readValue_32 : decode cX10_readValue 32 = .ok (.sipush 3000, 3) := by decide +kernel
theorem dX10_readValue_35 : decode cX10_readValue 35 = .ok (.if_icmp .ge 91, 3) := by decide +kernel
theorem dX10_readValue_38 : decode cX10_readValue 38 = .ok (.aload_n 0, 1) := by decide +kernel
theorem dX10_readValue_39 : decode cX10_readValue 39 = .ok (.getfield 31, 3) := by decide +kernel
theorem dX10_readValue_42 : decode cX10_readValue 42 = .ok (.invokevirtual 93, 3) := by decide +kernel
theorem dX10_readValue_45 : decode cX10_readValue 45 = .ok (.invokestatic 97, 3) := by decide +kernel
theorem dX10_readValue_48 : decode cX10_readValue 48 = .ok (.ifCond .le 78, 3) := by decide +kernel
theorem dX10_readValue_51 : decode cX10_readValue 51 = .ok (.iconst 0, 1) := by decide +kernel
theorem dX10_readValue_52 : decode cX10_readValue 52 = .ok (.istore 5, 2) := by decide +kernel
theorem dX10_readValue_54 : decode cX10_readValue 54 = .ok (.iload 5, 2) := by decide +kernel
theorem dX10_readValue_56 : decode cX10_readValue 56 = .ok (.sipush 420, 3) := by decide +kernel
theorem dX10_readValue_59 : decode cX10_readValue 59 = .ok (.if_icmp .ge 31, 3) := by decide +kernel
theorem dX10_readValue_62 : decode cX10_readValue 62 = .ok (.aload_n 0, 1) := by decide +kernel
theorem dX10_readValue_63 : decode cX10_readValue 63 = .ok (.iload_n 3, 1) := by decide +kernel
theorem dX10_readValue_64 : decode cX10_readValue 64 = .ok (.aload_n 0, 1) := by decide +kernel
theorem dX10_readValue_65 : decode cX10_readValue 65 = .ok (.getfield 31, 3) := by decide +kernel
theorem dX10_readValue_68 : decode cX10_readValue 68 = .ok (.invokevirtual 93, 3) := by decide +kernel
theorem dX10_readValue_71 : decode cX10_readValue 71 = .ok (.invokestatic 97, 3) := by decide +kernel
theorem dX10_readValue_74 : decode cX10_readValue 74 = .ok (.invokevirtual 101, 3) := by decide +kernel
theorem dX10_readValue_77 : decode cX10_readValue 77 = .ok (.ifCond .eq 13, 3) := by decide +kernel
theorem dX10_readValue_80 : decode cX10_readValue 80 = .ok (.aload_n 0, 1) := by decide +kernel
theorem dX10_readValue_81 : decode cX10_readValue 81 = .ok (.invokevirtual 105, 3) := by decide +kernel
theorem dX10_readValue_84 : decode cX10_readValue 84 = .ok (.iinc 5 1, 3) := by decide +kernel
theorem dX10_readValue_87 : decode cX10_readValue 87 = .ok (.goto (-33), 3) := by decide +kernel
theorem dX10_readValue_90 : decode cX10_readValue 90 = .ok (.aload_n 0, 1) := by decide +kernel
theorem dX10_readValue_91 : decode cX10_readValue 91 = .ok (.getfield 31, 3) := by decide +kernel
theorem dX10_readValue_94 : decode cX10_readValue 94 = .ok (.invokevirtual 93, 3) := by decide +kernel
theorem dX10_readValue_97 : decode cX10_readValue 97 = .ok (.bipush 19, 2) := by decide +kernel
theorem dX10_readValue_99 : decode cX10_readValue 99 = .ok (.if_icmp .ne 10, 3) := by decide +kernel
theorem dX10_readValue_102 : decode cX10_readValue 102 = .ok (.aload_n 0, 1) := by decide +kernel
theorem dX10_readValue_103 : decode cX10_readValue 103 = .ok (.invokevirtual 108, 3) := by decide +kernel
theorem dX10_readValue_106 : decode cX10_readValue 106 = .ok (.goto 14, 3) := by decide +kernel
theorem dX10_readValue_109 : decode cX10_readValue 109 = .ok (.aload_n 0, 1) := by decide +kernel
theorem dX10_readValue_110 : decode cX10_readValue 110 = .ok (.invokevirtual 111, 3) := by decide +kernel
theorem dX10_readValue_113 : decode cX10_readValue 113 = .ok (.aload_n 0, 1) := by decide +kernel
theorem dX10_readValue_114 : decode cX10_readValue 114 = .ok (.iload_n 1, 1) := by decide +kernel
theorem dX10_readValue_115 : decode cX10_readValue 115 = .ok (.iconst 1, 1) := by decide +kernel
theorem dX10_readValue_116 : decode cX10_readValue 116 = .ok (.iadd, 1) := by decide +kernel
theorem dX10_readValue_117 : decode cX10_readValue 117 = .ok (.invokevirtual 90, 3) := by decide +kernel
theorem dX10_readValue_120 : decode cX10_readValue 120 = .ok (.iinc 4 1, 3) := by decide +kernel
theorem dX10_readValue_123 : decode cX10_readValue 123 = .ok (.goto (-93), 3) := by decide +kernel
theorem dX10_readValue_126 : decode cX10_readValue 126 = .ok (.iconst 0, 1) := by decide +kernel
theorem dX10_readValue_127 : decode cX10_readValue 127 = .ok (.istore 4, 2) := by decide +kernel
theorem dX10_readValue_129 : decode cX10_readValue 129 = .ok (.iload 4, 2) := by decide +kernel
theorem dX10_readValue_131 : decode cX10_readValue 131 = .ok (.sipush 420, 3) := by decide +kernel
theorem dX10_readValue_134 : decode cX10_readValue 134 = .ok (.if_icmp .ge 22, 3) := by decide +kernel
theorem dX10_readValue_137 : decode cX10_readValue 137 = .ok (.aload_n 0, 1) := by decide +kernel
theorem dX10_readValue_138 : decode cX10_readValue 138 = .ok (.iload_n 3, 1) := by decide +kernel
theorem dX10_readValue_139 : decode cX10_readValue 139 = .ok (.iconst 1, 1) := by decide +kernel
theorem dX10_readValue_140 : decode cX10_readValue 140 = .ok (.invokevirtual 101, 3) := by decide +kernel
theorem dX10_readValue_143 : decode cX10_readValue 143 = .ok (.ifCond .eq 13, 3) := by decide +kernel
theorem dX10_readValue_146 : decode cX10_readValue 146 = .ok (.aload_n 0, 1) := by decide +kernel
theorem dX10_readValue_147 : decode cX10_readValue 147 = .ok (.invokevirtual 105, 3) := by decide +kernel
theorem dX10_readValue_150 : decode cX10_readValue 150 = .ok (.iinc 4 1, 3) := by decide +kernel
theorem dX10_readValue_153 : decode cX10_readValue 153 = .ok (.goto (-24), 3) := by decide +kernel
theorem dX10_readValue_156 : decode cX10_readValue 156 = .ok (.aload_n 0, 1) := by decide +kernel
theorem dX10_readValue_157 : decode cX10_readValue 157 = .ok (.getfield 31, 3) := by decide +kernel
theorem dX10_readValue_160 : decode cX10_readValue 160 = .ok (.invokevirtual 93, 3) := by decide +kernel
theorem dX10_readValue_163 : decode cX10_readValue 163 = .ok (.bipush 49, 2) := by decide +kernel
theorem dX10_readValue_165 : decode cX10_readValue 165 = .ok (.if_icmp .ne 9, 3) := by decide +kernel
theorem dX10_readValue_168 : decode cX10_readValue 168 = .ok (.aload_n 0, 1) := by decide +kernel
theorem dX10_readValue_169 : decode cX10_readValue 169 = .ok (.iload_n 2, 1) := by decide +kernel
theorem dX10_readValue_170 : decode cX10_readValue 170 = .ok (.iload_n 1, 1) := by decide +kernel
theorem dX10_readValue_171 : decode cX10_readValue 171 = .ok (.invokevirtual 114, 3) := by decide +kernel
theorem dX10_readValue_174 : decode cX10_readValue 174 = .ok (.return_, 1) := by decide +kernel
theorem mt_X10_readChoice : mx_mt 276 = some (yX10_readChoice, cX10_readChoice, 7, none) := rfl
theorem mt_X10_readUnary : mx_mt 288 = some (yX10_readUnary, cX10_readUnary, 5, none) := rfl
theorem mt_X10_readPrimary : mx_mt 291 = some (yX10_readPrimary, cX10_readPrimary, 5, none) := rfl
theorem mt_X10_readNew : mx_mt 297 = some (yX10_readNew, cX10_readNew, 5, none) := rfl
theorem mt_X10_readElement : mx_mt 298 = some (yX10_readElement, cX10_readElement, 4, none) := rfl
theorem mt_X10_readNamed : mx_mt 299 = some (yX10_readNamed, cX10_readNamed, 7, none) := rfl
theorem mt_X10_readBehindPoint : mx_mt 303 = some (yX10_readBehindPoint, cX10_readBehindPoint, 8, none) := rfl
theorem mt_X10_readCall : mx_mt 304 = some (yX10_readCall, cX10_readCall, 11, none) := rfl
