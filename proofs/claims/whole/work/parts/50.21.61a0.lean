theorem rs_RX13_973 : mx_res RX13 973 = some (1, 553, 2) := by decide +kernel
theorem rs_RX13_984 : mx_res RX13 984 = some (1, 555, 1) := by decide +kernel
theorem rs_RX13_987 : mx_res RX13 987 = some (1, 545, 1) := by decide +kernel
theorem rs_RX13_989 : mx_res RX13 989 = some (1, 556, 1) := by decide +kernel
theorem rs_RX13_992 : mx_res RX13 992 = some (1, 557, 2) := by decide +kernel
theorem mt_X13_methodFits : mx_mt 554 = some (yX13_methodFits, cX13_methodFits, 8, (some .boolean)) := rfl
theorem dX13_methodFits_0 : decode cX13_methodFits 0 = .ok (.aload_n 0, 1) := by decide +kernel
theorem dX13_methodFits_1 : decode cX13_methodFits 1 = .ok (.iload_n 1, 1) := by decide +kernel
theorem dX13_methodFits_2 : decode cX13_methodFits 2 = .ok (.iload_n 2, 1) := by decide +kernel
theorem dX13_methodFits_3 : decode cX13_methodFits 3 = .ok (.invokevirtual 973, 3) := by decide +kernel
theorem dX13_methodFits_6 : decode cX13_methodFits 6 = .ok (.iconst 0, 1) := by decide +kernel
theorem dX13_methodFits_7 : decode cX13_methodFits 7 = .ok (.istore_n 3, 1) := by decide +kernel
theorem dX13_methodFits_8 : decode cX13_methodFits 8 = .ok (.iload_n 3, 1) := by decide +kernel
theorem dX13_methodFits_9 : decode cX13_methodFits 9 = .ok (.sipush 1500, 3) := by decide +kernel
theorem dX13_methodFits_12 : decode cX13_methodFits 12 = .ok (.if_icmp .gt 16, 3) := by decide +kernel
theorem dX13_methodFits_15 : decode cX13_methodFits 15 = .ok (.aload_n 0, 1) := by decide +kernel
theorem dX13_methodFits_16 : decode cX13_methodFits 16 = .ok (.getfield 267, 3) := by decide +kernel
theorem dX13_methodFits_19 : decode cX13_methodFits 19 = .ok (.iload_n 3, 1) := by decide +kernel
theorem dX13_methodFits_20 : decode cX13_methodFits 20 = .ok (.iconst 0, 1) := by decide +kernel
theorem dX13_methodFits_21 : decode cX13_methodFits 21 = .ok (.bastore, 1) := by decide +kernel
theorem dX13_methodFits_22 : decode cX13_methodFits 22 = .ok (.iinc 3 1, 3) := by decide +kernel
theorem dX13_methodFits_25 : decode cX13_methodFits 25 = .ok (.goto (-17), 3) := by decide +kernel
theorem dX13_methodFits_28 : decode cX13_methodFits 28 = .ok (.iconst 0, 1) := by decide +kernel
theorem dX13_methodFits_29 : decode cX13_methodFits 29 = .ok (.istore_n 3, 1) := by decide +kernel
theorem dX13_methodFits_30 : decode cX13_methodFits 30 = .ok (.iload_n 3, 1) := by decide +kernel
theorem dX13_methodFits_31 : decode cX13_methodFits 31 = .ok (.aload_n 0, 1) := by decide +kernel
theorem dX13_methodFits_32 : decode cX13_methodFits 32 = .ok (.getfield 970, 3) := by decide +kernel
theorem dX13_methodFits_35 : decode cX13_methodFits 35 = .ok (.if_icmp .ge 60, 3) := by decide +kernel
theorem dX13_methodFits_38 : decode cX13_methodFits 38 = .ok (.aload_n 0, 1) := by decide +kernel
theorem dX13_methodFits_39 : decode cX13_methodFits 39 = .ok (.iload_n 3, 1) := by decide +kernel
theorem dX13_methodFits_40 : decode cX13_methodFits 40 = .ok (.invokevirtual 938, 3) := by decide +kernel
theorem dX13_methodFits_43 : decode cX13_methodFits 43 = .ok (.invokestatic 975, 3) := by decide +kernel
theorem dX13_methodFits_46 : decode cX13_methodFits 46 = .ok (.istore 4, 2) := by decide +kernel
theorem dX13_methodFits_48 : decode cX13_methodFits 48 = .ok (.iload 4, 2) := by decide +kernel
theorem dX13_methodFits_50 : decode cX13_methodFits 50 = .ok (.ifCond .eq 14, 3) := by decide +kernel
theorem dX13_methodFits_53 : decode cX13_methodFits 53 = .ok (.iload_n 3, 1) := by decide +kernel
theorem dX13_methodFits_54 : decode cX13_methodFits 54 = .ok (.iload 4, 2) := by decide +kernel
theorem dX13_methodFits_56 : decode cX13_methodFits 56 = .ok (.iadd, 1) := by decide +kernel
theorem dX13_methodFits_57 : decode cX13_methodFits 57 = .ok (.aload_n 0, 1) := by decide +kernel
theorem dX13_methodFits_58 : decode cX13_methodFits 58 = .ok (.getfield 970, 3) := by decide +kernel
theorem dX13_methodFits_61 : decode cX13_methodFits 61 = .ok (.if_icmp .le 13, 3) := by decide +kernel
theorem dX13_methodFits_64 : decode cX13_methodFits 64 = .ok (.aload_n 0, 1) := by decide +kernel
theorem dX13_methodFits_65 : decode cX13_methodFits 65 = .ok (.bipush 6, 2) := by decide +kernel
theorem dX13_methodFits_67 : decode cX13_methodFits 67 = .ok (.iload_n 1, 1) := by decide +kernel
theorem dX13_methodFits_68 : decode cX13_methodFits 68 = .ok (.iload_n 2, 1) := by decide +kernel
theorem dX13_methodFits_69 : decode cX13_methodFits 69 = .ok (.iload_n 3, 1) := by decide +kernel
theorem dX13_methodFits_70 : decode cX13_methodFits 70 = .ok (.invokevirtual 922, 3) := by decide +kernel
theorem dX13_methodFits_73 : decode cX13_methodFits 73 = .ok (.ireturn, 1) := by decide +kernel
theorem dX13_methodFits_74 : decode cX13_methodFits 74 = .ok (.aload_n 0, 1) := by decide +kernel
theorem dX13_methodFits_75 : decode cX13_methodFits 75 = .ok (.getfield 267, 3) := by decide +kernel
theorem dX13_methodFits_78 : decode cX13_methodFits 78 = .ok (.iload_n 3, 1) := by decide +kernel
theorem dX13_methodFits_79 : decode cX13_methodFits 79 = .ok (.iconst 1, 1) := by decide +kernel
theorem dX13_methodFits_80 : decode cX13_methodFits 80 = .ok (.bastore, 1) := by decide +kernel
theorem dX13_methodFits_81 : decode cX13_methodFits 81 = .ok (.iload_n 3, 1) := by decide +kernel
theorem dX13_methodFits_82 : decode cX13_methodFits 82 = .ok (.aload_n 0, 1) := by decide +kernel
theorem dX13_methodFits_83 : decode cX13_methodFits 83 = .ok (.iload_n 3, 1) := by decide +kernel
theorem dX13_methodFits_84 : decode cX13_methodFits 84 = .ok (.invokevirtual 938, 3) := by decide +kernel
theorem dX13_methodFits_87 : decode cX13_methodFits 87 = .ok (.invokestatic 975, 3) := by decide +kernel
theorem dX13_methodFits_90 : decode cX13_methodFits 90 = .ok (.iadd, 1) := by decide +kernel
theorem dX13_methodFits_91 : decode cX13_methodFits 91 = .ok (.istore_n 3, 1) := by decide +kernel
theorem dX13_methodFits_92 : decode cX13_methodFits 92 = .ok (.goto (-62), 3) := by decide +kernel
theorem dX13_methodFits_95 : decode cX13_methodFits 95 = .ok (.iconst 0, 1) := by decide +kernel
theorem dX13_methodFits_96 : decode cX13_methodFits 96 = .ok (.istore_n 3, 1) := by decide +kernel
theorem dX13_methodFits_97 : decode cX13_methodFits 97 = .ok (.iload_n 3, 1) := by decide +kernel
theorem dX13_methodFits_98 : decode cX13_methodFits 98 = .ok (.aload_n 0, 1) := by decide +kernel
theorem dX13_methodFits_99 : decode cX13_methodFits 99 = .ok (.getfield 970, 3) := by decide +kernel
theorem dX13_methodFits_102 : decode cX13_methodFits 102 = .ok (.if_icmp .ge 72, 3) := by decide +kernel
theorem dX13_methodFits_105 : decode cX13_methodFits 105 = .ok (.aload_n 0, 1) := by decide +kernel
theorem dX13_methodFits_106 : decode cX13_methodFits 106 = .ok (.iload_n 3, 1) := by decide +kernel
theorem dX13_methodFits_107 : decode cX13_methodFits 107 = .ok (.invokevirtual 938, 3) := by decide +kernel
theorem dX13_methodFits_110 : decode cX13_methodFits 110 = .ok (.invokestatic 978, 3) := by decide +kernel
theorem dX13_methodFits_113 : decode cX13_methodFits 113 = .ok (.ifCond .ne 6, 3) := by decide +kernel
theorem dX13_methodFits_116 : decode cX13_methodFits 116 = .ok (.goto 44, 3) := by decide +kernel
theorem dX13_methodFits_119 : decode cX13_methodFits 119 = .ok (.aload_n 0, 1) := by decide +kernel
theorem dX13_methodFits_120 : decode cX13_methodFits 120 = .ok (.iload_n 3, 1) := by decide +kernel
theorem dX13_methodFits_121 : decode cX13_methodFits 121 = .ok (.invokevirtual 981, 3) := by decide +kernel
theorem dX13_methodFits_124 : decode cX13_methodFits 124 = .ok (.istore 4, 2) := by decide +kernel
theorem dX13_methodFits_126 : decode cX13_methodFits 126 = .ok (.iload 4, 2) := by decide +kernel
theorem dX13_methodFits_128 : decode cX13_methodFits 128 = .ok (.ifCond .lt 22, 3) := by decide +kernel
theorem dX13_methodFits_131 : decode cX13_methodFits 131 = .ok (.iload 4, 2) := by decide +kernel
theorem dX13_methodFits_133 : decode cX13_methodFits 133 = .ok (.aload_n 0, 1) := by decide +kernel
theorem dX13_methodFits_134 : decode cX13_methodFits 134 = .ok (.getfield 970, 3) := by decide +kernel
theorem dX13_methodFits_137 : decode cX13_methodFits 137 = .ok (.if_icmp .ge 13, 3) := by decide +kernel
theorem dX13_methodFits_140 : decode cX13_methodFits 140 = .ok (.aload_n 0, 1) := by decide +kernel
theorem dX13_methodFits_141 : decode cX13_methodFits 141 = .ok (.getfield 267, 3) := by decide +kernel
theorem dX13_methodFits_144 : decode cX13_methodFits 144 = .ok (.iload 4, 2) := by decide +kernel
theorem dX13_methodFits_146 : decode cX13_methodFits 146 = .ok (.baload, 1) := by decide +kernel
theorem dX13_methodFits_147 : decode cX13_methodFits 147 = .ok (.ifCond .ne 13, 3) := by decide +kernel
theorem dX13_methodFits_150 : decode cX13_methodFits 150 = .ok (.aload_n 0, 1) := by decide +kernel
theorem dX13_methodFits_151 : decode cX13_methodFits 151 = .ok (.bipush 7, 2) := by decide +kernel
theorem dX13_methodFits_153 : decode cX13_methodFits 153 = .ok (.iload_n 1, 1) := by decide +kernel
theorem dX13_methodFits_154 : decode cX13_methodFits 154 = .ok (.iload_n 2, 1) := by decide +kernel
theorem dX13_methodFits_155 : decode cX13_methodFits 155 = .ok (.iload_n 3, 1) := by decide +kernel
theorem dX13_methodFits_156 : decode cX13_methodFits 156 = .ok (.invokevirtual 922, 3) := by decide +kernel
theorem dX13_methodFits_159 : decode cX13_methodFits 159 = .ok (.ireturn, 1) := by decide +kernel
theorem dX13_methodFits_160 : decode cX13_methodFits 160 = .ok (.iload_n 3, 1) := by decide +kernel
theorem dX13_methodFits_161 : decode cX13_methodFits 161 = .ok (.aload_n 0, 1) := by decide +kernel
theorem dX13_methodFits_162 : decode cX13_methodFits 162 = .ok (.iload_n 3, 1) := by decide +kernel
theorem dX13_methodFits_163 : decode cX13_methodFits 163 = .ok (.invokevirtual 938, 3) := by decide +kernel
theorem dX13_methodFits_166 : decode cX13_methodFits 166 = .ok (.invokestatic 975, 3) := by decide +kernel
theorem dX13_methodFits_169 : decode cX13_methodFits 169 = .ok (.iadd, 1) := by decide +kernel
theorem dX13_methodFits_170 : decode cX13_methodFits 170 = .ok (.istore_n 3, 1) := by decide +kernel
theorem dX13_methodFits_171 : decode cX13_methodFits 171 = .ok (.goto (-74), 3) := by decide +kernel
theorem dX13_methodFits_174 : decode cX13_methodFits 174 = .ok (.aload_n 0, 1) := by decide +kernel
theorem dX13_methodFits_175 : decode cX13_methodFits 175 = .ok (.getfield 239, 3) := by decide +kernel
theorem dX13_methodFits_178 : decode cX13_methodFits 178 = .ok (.bipush 12, 2) := by decide +kernel
theorem dX13_methodFits_180 : decode cX13_methodFits 180 = .ok (.aload_n 0, 1) := by decide +kernel
theorem dX13_methodFits_181 : decode cX13_methodFits 181 = .ok (.getfield 932, 3) := by decide +kernel
theorem dX13_methodFits_184 : decode cX13_methodFits 184 = .ok (.imul, 1) := by decide +kernel
theorem dX13_methodFits_185 : decode cX13_methodFits 185 = .ok (.iload_n 2, 1) := by decide +kernel
theorem dX13_methodFits_186 : decode cX13_methodFits 186 = .ok (.iadd, 1) := by decide +kernel
theorem dX13_methodFits_187 : decode cX13_methodFits 187 = .ok (.iaload, 1) := by decide +kernel
theorem dX13_methodFits_188 : decode cX13_methodFits 188 = .ok (.istore_n 3, 1) := by decide +kernel
theorem dX13_methodFits_189 : decode cX13_methodFits 189 = .ok (.iconst 0, 1) := by decide +kernel
theorem dX13_methodFits_190 : decode cX13_methodFits 190 = .ok (.istore 4, 2) := by decide +kernel
theorem dX13_methodFits_192 : decode cX13_methodFits 192 = .ok (.iload 4, 2) := by decide +kernel
theorem dX13_methodFits_194 : decode cX13_methodFits 194 = .ok (.aload_n 0, 1) := by decide +kernel
theorem dX13_methodFits_195 : decode cX13_methodFits 195 = .ok (.aload_n 0, 1) := by decide +kernel
theorem dX13_methodFits_196 : decode cX13_methodFits 196 = .ok (.getfield 932, 3) := by decide +kernel
theorem dX13_methodFits_199 : decode cX13_methodFits 199 = .ok (.iload_n 3, 1) := by decide +kernel
theorem dX13_methodFits_200 : decode cX13_methodFits 200 = .ok (.invokevirtual 864, 3) := by decide +kernel
theorem dX13_methodFits_203 : decode cX13_methodFits 203 = .ok (.if_icmp .ge 36, 3) := by decide +kernel
theorem dX13_methodFits_206 : decode cX13_methodFits 206 = .ok (.aload_n 0, 1) := by decide +kernel
theorem dX13_methodFits_207 : decode cX13_methodFits 207 = .ok (.iload_n 3, 1) := by decide +kernel
theorem dX13_methodFits_208 : decode cX13_methodFits 208 = .ok (.iconst 1, 1) := by decide +kernel
theorem dX13_methodFits_209 : decode cX13_methodFits 209 = .ok (.iadd, 1) := by decide +kernel
theorem dX13_methodFits_210 : decode cX13_methodFits 210 = .ok (.bipush 7, 2) := by decide +kernel
theorem dX13_methodFits_212 : decode cX13_methodFits 212 = .ok (.iload 4, 2) := by decide +kernel
theorem dX13_methodFits_214 : decode cX13_methodFits 214 = .ok (.imul, 1) := by decide +kernel
theorem dX13_methodFits_215 : decode cX13_methodFits 215 = .ok (.iadd, 1) := by decide +kernel
theorem dX13_methodFits_216 : decode cX13_methodFits 216 = .ok (.invokevirtual 984, 3) := by decide +kernel
theorem dX13_methodFits_219 : decode cX13_methodFits 219 = .ok (.ifCond .ne 14, 3) := by decide +kernel
theorem dX13_methodFits_222 : decode cX13_methodFits 222 = .ok (.aload_n 0, 1) := by decide +kernel
theorem dX13_methodFits_223 : decode cX13_methodFits 223 = .ok (.bipush 8, 2) := by decide +kernel
theorem dX13_methodFits_225 : decode cX13_methodFits 225 = .ok (.iload_n 1, 1) := by decide +kernel
theorem dX13_methodFits_226 : decode cX13_methodFits 226 = .ok (.iload_n 2, 1) := by decide +kernel
theorem dX13_methodFits_227 : decode cX13_methodFits 227 = .ok (.iload 4, 2) := by decide +kernel
theorem dX13_methodFits_229 : decode cX13_methodFits 229 = .ok (.invokevirtual 922, 3) := by decide +kernel
theorem dX13_methodFits_232 : decode cX13_methodFits 232 = .ok (.ireturn, 1) := by decide +kernel
theorem dX13_methodFits_233 : decode cX13_methodFits 233 = .ok (.iinc 4 1, 3) := by decide +kernel
theorem dX13_methodFits_236 : decode cX13_methodFits 236 = .ok (.goto (-44), 3) := by decide +kernel
theorem dX13_methodFits_239 : decode cX13_methodFits 239 = .ok (.iconst (-1), 1) := by decide +kernel
theorem dX13_methodFits_240 : decode cX13_methodFits 240 = .ok (.istore 4, 2) := by decide +kernel
theorem dX13_methodFits_242 : decode cX13_methodFits 242 = .ok (.iconst 0, 1) := by decide +kernel
theorem dX13_methodFits_243 : decode cX13_methodFits 243 = .ok (.istore 5, 2) := by decide +kernel
theorem dX13_methodFits_245 : decode cX13_methodFits 245 = .ok (.iload 5, 2) := by decide +kernel
theorem dX13_methodFits_247 : decode cX13_methodFits 247 = .ok (.aload_n 0, 1) := by decide +kernel
theorem dX13_methodFits_248 : decode cX13_methodFits 248 = .ok (.invokevirtual 946, 3) := by decide +kernel
theorem dX13_methodFits_251 : decode cX13_methodFits 251 = .ok (.if_icmp .ge 75, 3) := by decide +kernel
theorem dX13_methodFits_254 : decode cX13_methodFits 254 = .ok (.aload_n 0, 1) := by decide +kernel
theorem dX13_methodFits_255 : decode cX13_methodFits 255 = .ok (.iload 5, 2) := by decide +kernel
theorem dX13_methodFits_257 : decode cX13_methodFits 257 = .ok (.invokevirtual 987, 3) := by decide +kernel
theorem dX13_methodFits_260 : decode cX13_methodFits 260 = .ok (.istore 6, 2) := by decide +kernel
theorem dX13_methodFits_262 : decode cX13_methodFits 262 = .ok (.aload_n 0, 1) := by decide +kernel
theorem dX13_methodFits_263 : decode cX13_methodFits 263 = .ok (.iload 6, 2) := by decide +kernel
theorem dX13_methodFits_265 : decode cX13_methodFits 265 = .ok (.invokevirtual 949, 3) := by decide +kernel
theorem dX13_methodFits_268 : decode cX13_methodFits 268 = .ok (.istore 7, 2) := by decide +kernel
theorem dX13_methodFits_270 : decode cX13_methodFits 270 = .ok (.iload 7, 2) := by decide +kernel
theorem dX13_methodFits_272 : decode cX13_methodFits 272 = .ok (.iload 4, 2) := by decide +kernel
theorem dX13_methodFits_274 : decode cX13_methodFits 274 = .ok (.if_icmp .le 31, 3) := by decide +kernel
theorem dX13_methodFits_277 : decode cX13_methodFits 277 = .ok (.iload 7, 2) := by decide +kernel
theorem dX13_methodFits_279 : decode cX13_methodFits 279 = .ok (.aload_n 0, 1) := by decide +kernel
theorem dX13_methodFits_280 : decode cX13_methodFits 280 = .ok (.getfield 970, 3) := by decide +kernel
theorem dX13_methodFits_283 : decode cX13_methodFits 283 = .ok (.if_icmp .ge 22, 3) := by decide +kernel
theorem dX13_methodFits_286 : decode cX13_methodFits 286 = .ok (.aload_n 0, 1) := by decide +kernel
theorem dX13_methodFits_287 : decode cX13_methodFits 287 = .ok (.getfield 267, 3) := by decide +kernel
theorem dX13_methodFits_290 : decode cX13_methodFits 290 = .ok (.iload 7, 2) := by decide +kernel
theorem dX13_methodFits_292 : decode cX13_methodFits 292 = .ok (.baload, 1) := by decide +kernel
theorem dX13_methodFits_293 : decode cX13_methodFits 293 = .ok (.ifCond .eq 12, 3) := by decide +kernel
theorem dX13_methodFits_296 : decode cX13_methodFits 296 = .ok (.aload_n 0, 1) := by decide +kernel
theorem dX13_methodFits_297 : decode cX13_methodFits 297 = .ok (.iload 6, 2) := by decide +kernel
theorem dX13_methodFits_299 : decode cX13_methodFits 299 = .ok (.invokevirtual 989, 3) := by decide +kernel
theorem dX13_methodFits_302 : decode cX13_methodFits 302 = .ok (.ifCond .ne 14, 3) := by decide +kernel
theorem dX13_methodFits_305 : decode cX13_methodFits 305 = .ok (.aload_n 0, 1) := by decide +kernel
theorem dX13_methodFits_306 : decode cX13_methodFits 306 = .ok (.bipush 9, 2) := by decide +kernel
theorem dX13_methodFits_308 : decode cX13_methodFits 308 = .ok (.iload_n 1, 1) := by decide +kernel
theorem dX13_methodFits_309 : decode cX13_methodFits 309 = .ok (.iload_n 2, 1) := by decide +kernel
theorem dX13_methodFits_310 : decode cX13_methodFits 310 = .ok (.iload 5, 2) := by decide +kernel
theorem dX13_methodFits_312 : decode cX13_methodFits 312 = .ok (.invokevirtual 922, 3) := by decide +kernel
theorem dX13_methodFits_315 : decode cX13_methodFits 315 = .ok (.ireturn, 1) := by decide +kernel
theorem dX13_methodFits_316 : decode cX13_methodFits 316 = .ok (.iload 7, 2) := by decide +kernel
theorem dX13_methodFits_318 : decode cX13_methodFits 318 = .ok (.istore 4, 2) := by decide +kernel
theorem dX13_methodFits_320 : decode cX13_methodFits 320 = .ok (.iinc 5 1, 3) := by decide +kernel
theorem dX13_methodFits_323 : decode cX13_methodFits 323 = .ok (.goto (-78), 3) := by decide +kernel
theorem dX13_methodFits_326 : decode cX13_methodFits 326 = .ok (.aload_n 0, 1) := by decide +kernel
theorem dX13_methodFits_327 : decode cX13_methodFits 327 = .ok (.iload_n 1, 1) := by decide +kernel
theorem dX13_methodFits_328 : decode cX13_methodFits 328 = .ok (.iload_n 2, 1) := by decide +kernel
theorem dX13_methodFits_329 : decode cX13_methodFits 329 = .ok (.invokevirtual 992, 3) := by decide +kernel
theorem dX13_methodFits_332 : decode cX13_methodFits 332 = .ok (.ireturn, 1) := by decide +kernel
theorem rs_RX13_904 : mx_res RX13 904 = some (1, 539, 1) := by decide +kernel
theorem rs_RX13_907 : mx_res RX13 907 = some (1, 554, 2) := by decide +kernel
theorem mt_X13_verify : mx_mt 536 = some (yX13_verify, cX13_verify, 4, (some .int)) := rfl
theorem dX13_verify_0 : decode cX13_verify 0 = .ok (.aload_n 0, 1) := by decide +kernel
theorem dX13_verify_1 : decode cX13_verify 1 = .ok (.iconst 0, 1) := by decide +kernel
theorem dX13_verify_2 : decode cX13_verify 2 = .ok (.putfield 855, 3) := by decide +kernel
theorem dX13_verify_5 : decode cX13_verify 5 = .ok (.aload_n 0, 1) := by decide +kernel
theorem dX13_verify_6 : decode cX13_verify 6 = .ok (.iconst 0, 1) := by decide +kernel
theorem dX13_verify_7 : decode cX13_verify 7 = .ok (.putfield 901, 3) := by decide +kernel
theorem dX13_verify_10 : decode cX13_verify 10 = .ok (.aload_n 0, 1) := by decide +kernel
theorem dX13_verify_11 : decode cX13_verify 11 = .ok (.iconst 0, 1) := by decide +kernel
theorem dX13_verify_12 : decode cX13_verify 12 = .ok (.putfield 876, 3) := by decide +kernel
theorem dX13_verify_15 : decode cX13_verify 15 = .ok (.iconst 1, 1) := by decide +kernel
theorem dX13_verify_16 : decode cX13_verify 16 = .ok (.istore_n 1, 1) := by decide +kernel
theorem dX13_verify_17 : decode cX13_verify 17 = .ok (.bipush 8, 2) := by decide +kernel
theorem dX13_verify_19 : decode cX13_verify 19 = .ok (.istore_n 2, 1) := by decide +kernel
theorem dX13_verify_20 : decode cX13_verify 20 = .ok (.iload_n 2, 1) := by decide +kernel
theorem dX13_verify_21 : decode cX13_verify 21 = .ok (.bipush 8, 2) := by decide +kernel
theorem dX13_verify_23 : decode cX13_verify 23 = .ok (.aload_n 0, 1) := by decide +kernel
theorem dX13_verify_24 : decode cX13_verify 24 = .ok (.getfield 833, 3) := by decide +kernel
theorem dX13_verify_27 : decode cX13_verify 27 = .ok (.iadd, 1) := by decide +kernel
theorem dX13_verify_28 : decode cX13_verify 28 = .ok (.if_icmp .ge 19, 3) := by decide +kernel
theorem dX13_verify_31 : decode cX13_verify 31 = .ok (.iload_n 1, 1) := by decide +kernel
theorem dX13_verify_32 : decode cX13_verify 32 = .ok (.ifCond .eq 15, 3) := by decide +kernel
theorem dX13_verify_35 : decode cX13_verify 35 = .ok (.aload_n 0, 1) := by decide +kernel
theorem dX13_verify_36 : decode cX13_verify 36 = .ok (.iload_n 2, 1) := by decide +kernel
theorem dX13_verify_37 : decode cX13_verify 37 = .ok (.invokevirtual 904, 3) := by decide +kernel
theorem dX13_verify_40 : decode cX13_verify 40 = .ok (.istore_n 1, 1) := by decide +kernel
theorem dX13_verify_41 : decode cX13_verify 41 = .ok (.iinc 2 1, 3) := by decide +kernel
theorem dX13_verify_44 : decode cX13_verify 44 = .ok (.goto (-24), 3) := by decide +kernel
theorem dX13_verify_47 : decode cX13_verify 47 = .ok (.bipush 8, 2) := by decide +kernel
theorem dX13_verify_49 : decode cX13_verify 49 = .ok (.istore_n 2, 1) := by decide +kernel
theorem dX13_verify_50 : decode cX13_verify 50 = .ok (.iload_n 2, 1) := by decide +kernel
theorem dX13_verify_51 : decode cX13_verify 51 = .ok (.bipush 8, 2) := by decide +kernel
theorem dX13_verify_53 : decode cX13_verify 53 = .ok (.aload_n 0, 1) := by decide +kernel
theorem dX13_verify_54 : decode cX13_verify 54 = .ok (.getfield 833, 3) := by decide +kernel
theorem dX13_verify_57 : decode cX13_verify 57 = .ok (.iadd, 1) := by decide +kernel
theorem dX13_verify_58 : decode cX13_verify 58 = .ok (.if_icmp .ge 45, 3) := by decide +kernel
theorem dX13_verify_61 : decode cX13_verify 61 = .ok (.iload_n 1, 1) := by decide +kernel
theorem dX13_verify_62 : decode cX13_verify 62 = .ok (.ifCond .eq 41, 3) := by decide +kernel
theorem dX13_verify_65 : decode cX13_verify 65 = .ok (.iconst 0, 1) := by decide +kernel
theorem dX13_verify_66 : decode cX13_verify 66 = .ok (.istore_n 3, 1) := by decide +kernel
theorem dX13_verify_67 : decode cX13_verify 67 = .ok (.iload_n 3, 1) := by decide +kernel
theorem dX13_verify_68 : decode cX13_verify 68 = .ok (.aload_n 0, 1) := by decide +kernel
theorem dX13_verify_69 : decode cX13_verify 69 = .ok (.getfield 233, 3) := by decide +kernel
theorem dX13_verify_72 : decode cX13_verify 72 = .ok (.iload_n 2, 1) := by decide +kernel
theorem dX13_verify_73 : decode cX13_verify 73 = .ok (.bipush 8, 2) := by decide +kernel
theorem dX13_verify_75 : decode cX13_verify 75 = .ok (.isub, 1) := by decide +kernel
theorem dX13_verify_76 : decode cX13_verify 76 = .ok (.iaload, 1) := by decide +kernel
theorem dX13_verify_77 : decode cX13_verify 77 = .ok (.if_icmp .ge 20, 3) := by decide +kernel
theorem dX13_verify_80 : decode cX13_verify 80 = .ok (.iload_n 1, 1) := by decide +kernel
theorem dX13_verify_81 : decode cX13_verify 81 = .ok (.ifCond .eq 16, 3) := by decide +kernel
theorem dX13_verify_84 : decode cX13_verify 84 = .ok (.aload_n 0, 1) := by decide +kernel
theorem dX13_verify_85 : decode cX13_verify 85 = .ok (.iload_n 2, 1) := by decide +kernel
theorem dX13_verify_86 : decode cX13_verify 86 = .ok (.iload_n 3, 1) := by decide +kernel
theorem dX13_verify_87 : decode cX13_verify 87 = .ok (.invokevirtual 907, 3) := by decide +kernel
theorem dX13_verify_90 : decode cX13_verify 90 = .ok (.istore_n 1, 1) := by decide +kernel
theorem dX13_verify_91 : decode cX13_verify 91 = .ok (.iinc 3 1, 3) := by decide +kernel
theorem dX13_verify_94 : decode cX13_verify 94 = .ok (.goto (-27), 3) := by decide +kernel
theorem dX13_verify_97 : decode cX13_verify 97 = .ok (.iinc 2 1, 3) := by decide +kernel
theorem dX13_verify_100 : decode cX13_verify 100 = .ok (.goto (-50), 3) := by decide +kernel
theorem dX13_verify_103 : decode cX13_verify 103 = .ok (.aload_n 0, 1) := by decide +kernel
theorem dX13_verify_104 : decode cX13_verify 104 = .ok (.iload_n 1, 1) := by decide +kernel
theorem dX13_verify_105 : decode cX13_verify 105 = .ok (.putfield 855, 3) := by decide +kernel
theorem dX13_verify_108 : decode cX13_verify 108 = .ok (.aload_n 0, 1) := by decide +kernel
theorem dX13_verify_109 : decode cX13_verify 109 = .ok (.getfield 901, 3) := by decide +kernel
theorem dX13_verify_112 : decode cX13_verify 112 = .ok (.ireturn, 1) := by decide +kernel
theorem mt_X13_where : mx_mt 537 = some (yX13_where, cX13_where, 2, (some .int)) := rfl
theorem dX13_where_0 : decode cX13_where 0 = .ok (.iload_n 1, 1) := by decide +kernel
theorem dX13_where_1 : decode cX13_where 1 = .ok (.ifCond .ne 10, 3) := by decide +kernel
theorem dX13_where_4 : decode cX13_where 4 = .ok (.aload_n 0, 1) := by decide +kernel
theorem dX13_where_5 : decode cX13_where 5 = .ok (.getfield 257, 3) := by decide +kernel
theorem dX13_where_8 : decode cX13_where 8 = .ok (.goto 28, 3) := by decide +kernel
theorem dX13_where_11 : decode cX13_where 11 = .ok (.iload_n 1, 1) := by decide +kernel
theorem dX13_where_12 : decode cX13_where 12 = .ok (.iconst 1, 1) := by decide +kernel
theorem dX13_where_13 : decode cX13_where 13 = .ok (.if_icmp .ne 10, 3) := by decide +kernel
theorem dX13_where_16 : decode cX13_where 16 = .ok (.aload_n 0, 1) := by decide +kernel
theorem dX13_where_17 : decode cX13_where 17 = .ok (.getfield 261, 3) := by decide +kernel
theorem dX13_where_20 : decode cX13_where 20 = .ok (.goto 16, 3) := by decide +kernel
theorem dX13_where_23 : decode cX13_where 23 = .ok (.iload_n 1, 1) := by decide +kernel
theorem dX13_where_24 : decode cX13_where 24 = .ok (.iconst 2, 1) := by decide +kernel
theorem dX13_where_25 : decode cX13_where 25 = .ok (.if_icmp .ne 10, 3) := by decide +kernel
theorem dX13_where_28 : decode cX13_where 28 = .ok (.aload_n 0, 1) := by decide +kernel
theorem dX13_where_29 : decode cX13_where 29 = .ok (.getfield 264, 3) := by decide +kernel
theorem dX13_where_32 : decode cX13_where 32 = .ok (.goto 4, 3) := by decide +kernel
theorem dX13_where_35 : decode cX13_where 35 = .ok (.iconst (-1), 1) := by decide +kernel
theorem dX13_where_36 : decode cX13_where 36 = .ok (.ireturn, 1) := by decide +kernel
