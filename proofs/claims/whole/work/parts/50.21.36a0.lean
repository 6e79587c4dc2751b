theorem mt_X13_assign : mx_mt 470 = some (yX13_assign, cX13_assign, 4, none) := rfl
theorem dX13_assign_0 : decode cX13_assign 0 = .ok (.aload_n 0, 1) := by decide +kernel
theorem dX13_assign_1 : decode cX13_assign 1 = .ok (.getfield 28, 3) := by decide +kernel
theorem dX13_assign_4 : decode cX13_assign 4 = .ok (.iload_n 1, 1) := by decide +kernel
theorem dX13_assign_5 : decode cX13_assign 5 = .ok (.iaload, 1) := by decide +kernel
theorem dX13_assign_6 : decode cX13_assign 6 = .ok (.lookupswitch 193 #[(25, 26), (30, 128)], 26) := by decide +kernel
theorem dX13_assign_32 : decode cX13_assign 32 = .ok (.aload_n 0, 1) := by decide +kernel
theorem dX13_assign_33 : decode cX13_assign 33 = .ok (.getfield 52, 3) := by decide +kernel
theorem dX13_assign_36 : decode cX13_assign 36 = .ok (.iload_n 1, 1) := by decide +kernel
theorem dX13_assign_37 : decode cX13_assign 37 = .ok (.iaload, 1) := by decide +kernel
theorem dX13_assign_38 : decode cX13_assign 38 = .ok (.iconst (-1), 1) := by decide +kernel
theorem dX13_assign_39 : decode cX13_assign 39 = .ok (.if_icmp .ne 50, 3) := by decide +kernel
theorem dX13_assign_42 : decode cX13_assign 42 = .ok (.aload_n 0, 1) := by decide +kernel
theorem dX13_assign_43 : decode cX13_assign 43 = .ok (.iload_n 2, 1) := by decide +kernel
theorem dX13_assign_44 : decode cX13_assign 44 = .ok (.invokevirtual 667, 3) := by decide +kernel
theorem dX13_assign_47 : decode cX13_assign 47 = .ok (.aload_n 0, 1) := by decide +kernel
theorem dX13_assign_48 : decode cX13_assign 48 = .ok (.aload_n 0, 1) := by decide +kernel
theorem dX13_assign_49 : decode cX13_assign 49 = .ok (.getfield 49, 3) := by decide +kernel
theorem dX13_assign_52 : decode cX13_assign 52 = .ok (.iload_n 1, 1) := by decide +kernel
theorem dX13_assign_53 : decode cX13_assign 53 = .ok (.iaload, 1) := by decide +kernel
theorem dX13_assign_54 : decode cX13_assign 54 = .ok (.iconst 1, 1) := by decide +kernel
theorem dX13_assign_55 : decode cX13_assign 55 = .ok (.if_icmp .gt 8, 3) := by decide +kernel
theorem dX13_assign_58 : decode cX13_assign 58 = .ok (.bipush 54, 2) := by decide +kernel
theorem dX13_assign_60 : decode cX13_assign 60 = .ok (.goto 5, 3) := by decide +kernel
theorem dX13_assign_63 : decode cX13_assign 63 = .ok (.bipush 58, 2) := by decide +kernel
theorem dX13_assign_65 : decode cX13_assign 65 = .ok (.invokevirtual 646, 3) := by decide +kernel
theorem dX13_assign_68 : decode cX13_assign 68 = .ok (.aload_n 0, 1) := by decide +kernel
theorem dX13_assign_69 : decode cX13_assign 69 = .ok (.aload_n 0, 1) := by decide +kernel
theorem dX13_assign_70 : decode cX13_assign 70 = .ok (.getfield 55, 3) := by decide +kernel
theorem dX13_assign_73 : decode cX13_assign 73 = .ok (.iload_n 1, 1) := by decide +kernel
theorem dX13_assign_74 : decode cX13_assign 74 = .ok (.iaload, 1) := by decide +kernel
theorem dX13_assign_75 : decode cX13_assign 75 = .ok (.invokevirtual 646, 3) := by decide +kernel
theorem dX13_assign_78 : decode cX13_assign 78 = .ok (.aload_n 0, 1) := by decide +kernel
theorem dX13_assign_79 : decode cX13_assign 79 = .ok (.dup, 1) := by decide +kernel
theorem dX13_assign_80 : decode cX13_assign 80 = .ok (.getfield 629, 3) := by decide +kernel
theorem dX13_assign_83 : decode cX13_assign 83 = .ok (.iconst 1, 1) := by decide +kernel
theorem dX13_assign_84 : decode cX13_assign 84 = .ok (.isub, 1) := by decide +kernel
theorem dX13_assign_85 : decode cX13_assign 85 = .ok (.putfield 629, 3) := by decide +kernel
theorem dX13_assign_88 : decode cX13_assign 88 = .ok (.return_, 1) := by decide +kernel
theorem dX13_assign_89 : decode cX13_assign 89 = .ok (.aload_n 0, 1) := by decide +kernel
theorem dX13_assign_90 : decode cX13_assign 90 = .ok (.invokevirtual 697, 3) := by decide +kernel
theorem dX13_assign_93 : decode cX13_assign 93 = .ok (.aload_n 0, 1) := by decide +kernel
theorem dX13_assign_94 : decode cX13_assign 94 = .ok (.iload_n 2, 1) := by decide +kernel
theorem dX13_assign_95 : decode cX13_assign 95 = .ok (.invokevirtual 667, 3) := by decide +kernel
theorem dX13_assign_98 : decode cX13_assign 98 = .ok (.aload_n 0, 1) := by decide +kernel
theorem dX13_assign_99 : decode cX13_assign 99 = .ok (.sipush 181, 3) := by decide +kernel
theorem dX13_assign_102 : decode cX13_assign 102 = .ok (.invokevirtual 646, 3) := by decide +kernel
theorem dX13_assign_105 : decode cX13_assign 105 = .ok (.aload_n 0, 1) := by decide +kernel
theorem dX13_assign_106 : decode cX13_assign 106 = .ok (.aload_n 0, 1) := by decide +kernel
theorem dX13_assign_107 : decode cX13_assign 107 = .ok (.aload_n 0, 1) := by decide +kernel
theorem dX13_assign_108 : decode cX13_assign 108 = .ok (.getfield 519, 3) := by decide +kernel
theorem dX13_assign_111 : decode cX13_assign 111 = .ok (.aload_n 0, 1) := by decide +kernel
theorem dX13_assign_112 : decode cX13_assign 112 = .ok (.getfield 52, 3) := by decide +kernel
theorem dX13_assign_115 : decode cX13_assign 115 = .ok (.iload_n 1, 1) := by decide +kernel
theorem dX13_assign_116 : decode cX13_assign 116 = .ok (.iaload, 1) := by decide +kernel
theorem dX13_assign_117 : decode cX13_assign 117 = .ok (.invokevirtual 700, 3) := by decide +kernel
theorem dX13_assign_120 : decode cX13_assign 120 = .ok (.invokevirtual 646, 3) := by decide +kernel
theorem dX13_assign_123 : decode cX13_assign 123 = .ok (.aload_n 0, 1) := by decide +kernel
theorem dX13_assign_124 : decode cX13_assign 124 = .ok (.dup, 1) := by decide +kernel
theorem dX13_assign_125 : decode cX13_assign 125 = .ok (.getfield 629, 3) := by decide +kernel
theorem dX13_assign_128 : decode cX13_assign 128 = .ok (.iconst 2, 1) := by decide +kernel
theorem dX13_assign_129 : decode cX13_assign 129 = .ok (.isub, 1) := by decide +kernel
theorem dX13_assign_130 : decode cX13_assign 130 = .ok (.putfield 629, 3) := by decide +kernel
theorem dX13_assign_133 : decode cX13_assign 133 = .ok (.return_, 1) := by decide +kernel
theorem dX13_assign_134 : decode cX13_assign 134 = .ok (.aload_n 0, 1) := by decide +kernel
theorem dX13_assign_135 : decode cX13_assign 135 = .ok (.aload_n 0, 1) := by decide +kernel
theorem dX13_assign_136 : decode cX13_assign 136 = .ok (.getfield 37, 3) := by decide +kernel
theorem dX13_assign_139 : decode cX13_assign 139 = .ok (.iload_n 1, 1) := by decide +kernel
theorem dX13_assign_140 : decode cX13_assign 140 = .ok (.iaload, 1) := by decide +kernel
theorem dX13_assign_141 : decode cX13_assign 141 = .ok (.invokevirtual 667, 3) := by decide +kernel
theorem dX13_assign_144 : decode cX13_assign 144 = .ok (.aload_n 0, 1) := by decide +kernel
theorem dX13_assign_145 : decode cX13_assign 145 = .ok (.getfield 49, 3) := by decide +kernel
theorem dX13_assign_148 : decode cX13_assign 148 = .ok (.aload_n 0, 1) := by decide +kernel
theorem dX13_assign_149 : decode cX13_assign 149 = .ok (.getfield 37, 3) := by decide +kernel
theorem dX13_assign_152 : decode cX13_assign 152 = .ok (.iload_n 1, 1) := by decide +kernel
theorem dX13_assign_153 : decode cX13_assign 153 = .ok (.iaload, 1) := by decide +kernel
theorem dX13_assign_154 : decode cX13_assign 154 = .ok (.iaload, 1) := by decide +kernel
theorem dX13_assign_155 : decode cX13_assign 155 = .ok (.bipush 8, 2) := by decide +kernel
theorem dX13_assign_157 : decode cX13_assign 157 = .ok (.isub, 1) := by decide +kernel
theorem dX13_assign_158 : decode cX13_assign 158 = .ok (.iconst 2, 1) := by decide +kernel
theorem dX13_assign_159 : decode cX13_assign 159 = .ok (.idiv, 1) := by decide +kernel
theorem dX13_assign_160 : decode cX13_assign 160 = .ok (.istore_n 3, 1) := by decide +kernel
theorem dX13_assign_161 : decode cX13_assign 161 = .ok (.aload_n 0, 1) := by decide +kernel
theorem dX13_assign_162 : decode cX13_assign 162 = .ok (.iload_n 2, 1) := by decide +kernel
theorem dX13_assign_163 : decode cX13_assign 163 = .ok (.invokevirtual 667, 3) := by decide +kernel
theorem dX13_assign_166 : decode cX13_assign 166 = .ok (.aload_n 0, 1) := by decide +kernel
theorem dX13_assign_167 : decode cX13_assign 167 = .ok (.sipush 181, 3) := by decide +kernel
theorem dX13_assign_170 : decode cX13_assign 170 = .ok (.invokevirtual 646, 3) := by decide +kernel
theorem dX13_assign_173 : decode cX13_assign 173 = .ok (.aload_n 0, 1) := by decide +kernel
theorem dX13_assign_174 : decode cX13_assign 174 = .ok (.aload_n 0, 1) := by decide +kernel
theorem dX13_assign_175 : decode cX13_assign 175 = .ok (.iload_n 3, 1) := by decide +kernel
theorem dX13_assign_176 : decode cX13_assign 176 = .ok (.aload_n 0, 1) := by decide +kernel
theorem dX13_assign_177 : decode cX13_assign 177 = .ok (.getfield 52, 3) := by decide +kernel
theorem dX13_assign_180 : decode cX13_assign 180 = .ok (.iload_n 1, 1) := by decide +kernel
theorem dX13_assign_181 : decode cX13_assign 181 = .ok (.iaload, 1) := by decide +kernel
theorem dX13_assign_182 : decode cX13_assign 182 = .ok (.invokevirtual 700, 3) := by decide +kernel
theorem dX13_assign_185 : decode cX13_assign 185 = .ok (.invokevirtual 646, 3) := by decide +kernel
theorem dX13_assign_188 : decode cX13_assign 188 = .ok (.aload_n 0, 1) := by decide +kernel
theorem dX13_assign_189 : decode cX13_assign 189 = .ok (.dup, 1) := by decide +kernel
theorem dX13_assign_190 : decode cX13_assign 190 = .ok (.getfield 629, 3) := by decide +kernel
theorem dX13_assign_193 : decode cX13_assign 193 = .ok (.iconst 2, 1) := by decide +kernel
theorem dX13_assign_194 : decode cX13_assign 194 = .ok (.isub, 1) := by decide +kernel
theorem dX13_assign_195 : decode cX13_assign 195 = .ok (.putfield 629, 3) := by decide +kernel
theorem dX13_assign_198 : decode cX13_assign 198 = .ok (.return_, 1) := by decide +kernel
theorem dX13_assign_199 : decode cX13_assign 199 = .ok (.aload_n 0, 1) := by decide +kernel
theorem dX13_assign_200 : decode cX13_assign 200 = .ok (.aload_n 0, 1) := by decide +kernel
theorem dX13_assign_201 : decode cX13_assign 201 = .ok (.getfield 37, 3) := by decide +kernel
theorem dX13_assign_204 : decode cX13_assign 204 = .ok (.iload_n 1, 1) := by decide +kernel
theorem dX13_assign_205 : decode cX13_assign 205 = .ok (.iaload, 1) := by decide +kernel
theorem dX13_assign_206 : decode cX13_assign 206 = .ok (.invokevirtual 667, 3) := by decide +kernel
theorem dX13_assign_209 : decode cX13_assign 209 = .ok (.aload_n 0, 1) := by decide +kernel
theorem dX13_assign_210 : decode cX13_assign 210 = .ok (.aload_n 0, 1) := by decide +kernel
theorem dX13_assign_211 : decode cX13_assign 211 = .ok (.getfield 40, 3) := by decide +kernel
theorem dX13_assign_214 : decode cX13_assign 214 = .ok (.iload_n 1, 1) := by decide +kernel
theorem dX13_assign_215 : decode cX13_assign 215 = .ok (.iaload, 1) := by decide +kernel
theorem dX13_assign_216 : decode cX13_assign 216 = .ok (.invokevirtual 667, 3) := by decide +kernel
theorem dX13_assign_219 : decode cX13_assign 219 = .ok (.aload_n 0, 1) := by decide +kernel
theorem dX13_assign_220 : decode cX13_assign 220 = .ok (.iload_n 2, 1) := by decide +kernel
theorem dX13_assign_221 : decode cX13_assign 221 = .ok (.invokevirtual 667, 3) := by decide +kernel
theorem dX13_assign_224 : decode cX13_assign 224 = .ok (.aload_n 0, 1) := by decide +kernel
theorem dX13_assign_225 : decode cX13_assign 225 = .ok (.aload_n 0, 1) := by decide +kernel
theorem dX13_assign_226 : decode cX13_assign 226 = .ok (.getfield 49, 3) := by decide +kernel
theorem dX13_assign_229 : decode cX13_assign 229 = .ok (.iload_n 1, 1) := by decide +kernel
theorem dX13_assign_230 : decode cX13_assign 230 = .ok (.iaload, 1) := by decide +kernel
theorem dX13_assign_231 : decode cX13_assign 231 = .ok (.ifCond .ne 8, 3) := by decide +kernel
theorem dX13_assign_234 : decode cX13_assign 234 = .ok (.bipush 79, 2) := by decide +kernel
theorem dX13_assign_236 : decode cX13_assign 236 = .ok (.goto 5, 3) := by decide +kernel
theorem dX13_assign_239 : decode cX13_assign 239 = .ok (.bipush 83, 2) := by decide +kernel
theorem dX13_assign_241 : decode cX13_assign 241 = .ok (.invokevirtual 646, 3) := by decide +kernel
theorem dX13_assign_244 : decode cX13_assign 244 = .ok (.aload_n 0, 1) := by decide +kernel
theorem dX13_assign_245 : decode cX13_assign 245 = .ok (.dup, 1) := by decide +kernel
theorem dX13_assign_246 : decode cX13_assign 246 = .ok (.getfield 629, 3) := by decide +kernel
theorem dX13_assign_249 : decode cX13_assign 249 = .ok (.iconst 3, 1) := by decide +kernel
theorem dX13_assign_250 : decode cX13_assign 250 = .ok (.isub, 1) := by decide +kernel
theorem dX13_assign_251 : decode cX13_assign 251 = .ok (.putfield 629, 3) := by decide +kernel
theorem dX13_assign_254 : decode cX13_assign 254 = .ok (.return_, 1) := by decide +kernel
theorem mt_X13_store : mx_mt 466 = some (yX13_store, cX13_store, 3, none) := rfl
theorem dX13_store_0 : decode cX13_store 0 = .ok (.aload_n 0, 1) := by decide +kernel
theorem dX13_store_1 : decode cX13_store 1 = .ok (.iload_n 1, 1) := by decide +kernel
theorem dX13_store_2 : decode cX13_store 2 = .ok (.iconst 1, 1) := by decide +kernel
theorem dX13_store_3 : decode cX13_store 3 = .ok (.if_icmp .gt 8, 3) := by decide +kernel
theorem dX13_store_6 : decode cX13_store 6 = .ok (.bipush 54, 2) := by decide +kernel
theorem dX13_store_8 : decode cX13_store 8 = .ok (.goto 5, 3) := by decide +kernel
theorem dX13_store_11 : decode cX13_store 11 = .ok (.bipush 58, 2) := by decide +kernel
theorem dX13_store_13 : decode cX13_store 13 = .ok (.invokevirtual 646, 3) := by decide +kernel
theorem dX13_store_16 : decode cX13_store 16 = .ok (.aload_n 0, 1) := by decide +kernel
theorem dX13_store_17 : decode cX13_store 17 = .ok (.aload_n 0, 1) := by decide +kernel
theorem dX13_store_18 : decode cX13_store 18 = .ok (.iload_n 2, 1) := by decide +kernel
theorem dX13_store_19 : decode cX13_store 19 = .ok (.invokevirtual 582, 3) := by decide +kernel
theorem dX13_store_22 : decode cX13_store 22 = .ok (.invokevirtual 646, 3) := by decide +kernel
theorem dX13_store_25 : decode cX13_store 25 = .ok (.aload_n 0, 1) := by decide +kernel
theorem dX13_store_26 : decode cX13_store 26 = .ok (.dup, 1) := by decide +kernel
theorem dX13_store_27 : decode cX13_store 27 = .ok (.getfield 629, 3) := by decide +kernel
theorem dX13_store_30 : decode cX13_store 30 = .ok (.iconst 1, 1) := by decide +kernel
theorem dX13_store_31 : decode cX13_store 31 = .ok (.isub, 1) := by decide +kernel
theorem dX13_store_32 : decode cX13_store 32 = .ok (.putfield 629, 3) := by decide +kernel
theorem dX13_store_35 : decode cX13_store 35 = .ok (.return_, 1) := by decide +kernel
