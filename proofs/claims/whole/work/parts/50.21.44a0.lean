theorem rs_RX13_345 : mx_res RX13 345 = some (2, 384, 1) := by decide +kernel
theorem rs_RX13_349 : mx_res RX13 349 = some (2, 385, 1) := by decide +kernel
theorem rs_RX13_352 : mx_res RX13 352 = some (12, 2, 0) := by decide +kernel
theorem rs_RX13_358 : mx_res RX13 358 = some (1, 388, 4) := by decide +kernel
theorem rs_RX13_362 : mx_res RX13 362 = some (8, 3000000000, 0) := by decide +kernel
theorem rs_RX13_364 : mx_res RX13 364 = some (8, 10, 0) := by decide +kernel
theorem rs_RX13_366 : mx_res RX13 366 = some (8, 48, 0) := by decide +kernel
theorem rs_RX13_368 : mx_res RX13 368 = some (8, 2147483647, 0) := by decide +kernel
theorem rs_RX13_370 : mx_res RX13 370 = some (1, 389, 1) := by decide +kernel
theorem mt_X13_tokenize : mx_mt 390 = some (yX13_tokenize, cX13_tokenize, 7, none) := rfl
theorem dX13_tokenize_0 : decode cX13_tokenize 0 = .ok (.aload_n 0, 1) := by decide +kernel
theorem dX13_tokenize_1 : decode cX13_tokenize 1 = .ok (.iconst 0, 1) := by decide +kernel
theorem dX13_tokenize_2 : decode cX13_tokenize 2 = .ok (.putfield 338, 3) := by decide +kernel
theorem dX13_tokenize_5 : decode cX13_tokenize 5 = .ok (.iconst 0, 1) := by decide +kernel
theorem dX13_tokenize_6 : decode cX13_tokenize 6 = .ok (.istore_n 1, 1) := by decide +kernel
theorem dX13_tokenize_7 : decode cX13_tokenize 7 = .ok (.iload_n 1, 1) := by decide +kernel
theorem dX13_tokenize_8 : decode cX13_tokenize 8 = .ok (.aload_n 0, 1) := by decide +kernel
theorem dX13_tokenize_9 : decode cX13_tokenize 9 = .ok (.getfield 325, 3) := by decide +kernel
theorem dX13_tokenize_12 : decode cX13_tokenize 12 = .ok (.if_icmp .ge 421, 3) := by decide +kernel
theorem dX13_tokenize_15 : decode cX13_tokenize 15 = .ok (.aload_n 0, 1) := by decide +kernel
theorem dX13_tokenize_16 : decode cX13_tokenize 16 = .ok (.getfield 13, 3) := by decide +kernel
theorem dX13_tokenize_19 : decode cX13_tokenize 19 = .ok (.iload_n 1, 1) := by decide +kernel
theorem dX13_tokenize_20 : decode cX13_tokenize 20 = .ok (.iaload, 1) := by decide +kernel
theorem dX13_tokenize_21 : decode cX13_tokenize 21 = .ok (.istore_n 2, 1) := by decide +kernel
theorem dX13_tokenize_22 : decode cX13_tokenize 22 = .ok (.iload_n 2, 1) := by decide +kernel
theorem dX13_tokenize_23 : decode cX13_tokenize 23 = .ok (.bipush 32, 2) := by decide +kernel
theorem dX13_tokenize_25 : decode cX13_tokenize 25 = .ok (.if_icmp .eq 9, 3) := by decide +kernel
theorem dX13_tokenize_28 : decode cX13_tokenize 28 = .ok (.iload_n 2, 1) := by decide +kernel
theorem dX13_tokenize_29 : decode cX13_tokenize 29 = .ok (.bipush 10, 2) := by decide +kernel
theorem dX13_tokenize_31 : decode cX13_tokenize 31 = .ok (.if_icmp .ne 9, 3) := by decide +kernel
theorem dX13_tokenize_34 : decode cX13_tokenize 34 = .ok (.iinc 1 1, 3) := by decide +kernel
theorem dX13_tokenize_37 : decode cX13_tokenize 37 = .ok (.goto (-30), 3) := by decide +kernel
theorem dX13_tokenize_40 : decode cX13_tokenize 40 = .ok (.iload_n 2, 1) := by decide +kernel
theorem dX13_tokenize_41 : decode cX13_tokenize 41 = .ok (.bipush 47, 2) := by decide +kernel
theorem dX13_tokenize_43 : decode cX13_tokenize 43 = .ok (.if_icmp .ne 40, 3) := by decide +kernel
theorem dX13_tokenize_46 : decode cX13_tokenize 46 = .ok (.aload_n 0, 1) := by decide +kernel
theorem dX13_tokenize_47 : decode cX13_tokenize 47 = .ok (.iload_n 1, 1) := by decide +kernel
theorem dX13_tokenize_48 : decode cX13_tokenize 48 = .ok (.iconst 1, 1) := by decide +kernel
theorem dX13_tokenize_49 : decode cX13_tokenize 49 = .ok (.iadd, 1) := by decide +kernel
theorem dX13_tokenize_50 : decode cX13_tokenize 50 = .ok (.invokevirtual 341, 3) := by decide +kernel
theorem dX13_tokenize_53 : decode cX13_tokenize 53 = .ok (.bipush 47, 2) := by decide +kernel
theorem dX13_tokenize_55 : decode cX13_tokenize 55 = .ok (.if_icmp .ne 28, 3) := by decide +kernel
theorem dX13_tokenize_58 : decode cX13_tokenize 58 = .ok (.iload_n 1, 1) := by decide +kernel
theorem dX13_tokenize_59 : decode cX13_tokenize 59 = .ok (.aload_n 0, 1) := by decide +kernel
theorem dX13_tokenize_60 : decode cX13_tokenize 60 = .ok (.getfield 325, 3) := by decide +kernel
theorem dX13_tokenize_63 : decode cX13_tokenize 63 = .ok (.if_icmp .ge (-56), 3) := by decide +kernel
theorem dX13_tokenize_66 : decode cX13_tokenize 66 = .ok (.aload_n 0, 1) := by decide +kernel
theorem dX13_tokenize_67 : decode cX13_tokenize 67 = .ok (.getfield 13, 3) := by decide +kernel
theorem dX13_tokenize_70 : decode cX13_tokenize 70 = .ok (.iload_n 1, 1) := by decide +kernel
theorem dX13_tokenize_71 : decode cX13_tokenize 71 = .ok (.iaload, 1) := by decide +kernel
theorem dX13_tokenize_72 : decode cX13_tokenize 72 = .ok (.bipush 10, 2) := by decide +kernel
theorem dX13_tokenize_74 : decode cX13_tokenize 74 = .ok (.if_icmp .eq (-67), 3) := by decide +kernel
theorem dX13_tokenize_77 : decode cX13_tokenize 77 = .ok (.iinc 1 1, 3) := by decide +kernel
theorem dX13_tokenize_80 : decode cX13_tokenize 80 = .ok (.goto (-22), 3) := by decide +kernel
theorem dX13_tokenize_83 : decode cX13_tokenize 83 = .ok (.iconst 0, 1) := by decide +kernel
theorem dX13_tokenize_84 : decode cX13_tokenize 84 = .ok (.istore_n 3, 1) := by decide +kernel
theorem dX13_tokenize_85 : decode cX13_tokenize 85 = .ok (.iload_n 2, 1) := by decide +kernel
theorem dX13_tokenize_86 : decode cX13_tokenize 86 = .ok (.invokestatic 345, 3) := by decide +kernel
theorem dX13_tokenize_89 : decode cX13_tokenize 89 = .ok (.ifCond .eq 90, 3) := by decide +kernel
theorem dX13_tokenize_92 : decode cX13_tokenize 92 = .ok (.aload_n 0, 1) := by decide +kernel
theorem dX13_tokenize_93 : decode cX13_tokenize 93 = .ok (.iload_n 1, 1) := by decide +kernel
theorem dX13_tokenize_94 : decode cX13_tokenize 94 = .ok (.iload_n 3, 1) := by decide +kernel
theorem dX13_tokenize_95 : decode cX13_tokenize 95 = .ok (.iadd, 1) := by decide +kernel
theorem dX13_tokenize_96 : decode cX13_tokenize 96 = .ok (.invokevirtual 341, 3) := by decide +kernel
theorem dX13_tokenize_99 : decode cX13_tokenize 99 = .ok (.invokestatic 345, 3) := by decide +kernel
theorem dX13_tokenize_102 : decode cX13_tokenize 102 = .ok (.ifCond .ne 28, 3) := by decide +kernel
theorem dX13_tokenize_105 : decode cX13_tokenize 105 = .ok (.aload_n 0, 1) := by decide +kernel
theorem dX13_tokenize_106 : decode cX13_tokenize 106 = .ok (.iload_n 1, 1) := by decide +kernel
theorem dX13_tokenize_107 : decode cX13_tokenize 107 = .ok (.iload_n 3, 1) := by decide +kernel
theorem dX13_tokenize_108 : decode cX13_tokenize 108 = .ok (.iadd, 1) := by decide +kernel
theorem dX13_tokenize_109 : decode cX13_tokenize 109 = .ok (.invokevirtual 341, 3) := by decide +kernel
theorem dX13_tokenize_112 : decode cX13_tokenize 112 = .ok (.invokestatic 349, 3) := by decide +kernel
theorem dX13_tokenize_115 : decode cX13_tokenize 115 = .ok (.ifCond .ne 15, 3) := by decide +kernel
theorem dX13_tokenize_118 : decode cX13_tokenize 118 = .ok (.aload_n 0, 1) := by decide +kernel
theorem dX13_tokenize_119 : decode cX13_tokenize 119 = .ok (.iload_n 1, 1) := by decide +kernel
theorem dX13_tokenize_120 : decode cX13_tokenize 120 = .ok (.iload_n 3, 1) := by decide +kernel
theorem dX13_tokenize_121 : decode cX13_tokenize 121 = .ok (.iadd, 1) := by decide +kernel
theorem dX13_tokenize_122 : decode cX13_tokenize 122 = .ok (.invokevirtual 341, 3) := by decide +kernel
theorem dX13_tokenize_125 : decode cX13_tokenize 125 = .ok (.bipush 95, 2) := by decide +kernel
theorem dX13_tokenize_127 : decode cX13_tokenize 127 = .ok (.if_icmp .ne 9, 3) := by decide +kernel
theorem dX13_tokenize_130 : decode cX13_tokenize 130 = .ok (.iinc 3 1, 3) := by decide +kernel
theorem dX13_tokenize_133 : decode cX13_tokenize 133 = .ok (.goto (-41), 3) := by decide +kernel
theorem dX13_tokenize_136 : decode cX13_tokenize 136 = .ok (.aload_n 0, 1) := by decide +kernel
theorem dX13_tokenize_137 : decode cX13_tokenize 137 = .ok (.ldc_w 352, 3) := by decide +kernel
theorem dX13_tokenize_140 : decode cX13_tokenize 140 = .ok (.iload_n 1, 1) := by decide +kernel
theorem dX13_tokenize_141 : decode cX13_tokenize 141 = .ok (.iload_n 3, 1) := by decide +kernel
theorem dX13_tokenize_142 : decode cX13_tokenize 142 = .ok (.invokevirtual 354, 3) := by decide +kernel
theorem dX13_tokenize_145 : decode cX13_tokenize 145 = .ok (.istore 4, 2) := by decide +kernel
theorem dX13_tokenize_147 : decode cX13_tokenize 147 = .ok (.aload_n 0, 1) := by decide +kernel
theorem dX13_tokenize_148 : decode cX13_tokenize 148 = .ok (.iload 4, 2) := by decide +kernel
theorem dX13_tokenize_150 : decode cX13_tokenize 150 = .ok (.ifCond .lt 7, 3) := by decide +kernel
theorem dX13_tokenize_153 : decode cX13_tokenize 153 = .ok (.iconst 3, 1) := by decide +kernel
theorem dX13_tokenize_154 : decode cX13_tokenize 154 = .ok (.goto 15, 3) := by decide +kernel
theorem dX13_tokenize_157 : decode cX13_tokenize 157 = .ok (.iload_n 3, 1) := by decide +kernel
theorem dX13_tokenize_158 : decode cX13_tokenize 158 = .ok (.bipush 12, 2) := by decide +kernel
theorem dX13_tokenize_160 : decode cX13_tokenize 160 = .ok (.if_icmp .gt 7, 3) := by decide +kernel
theorem dX13_tokenize_163 : decode cX13_tokenize 163 = .ok (.iconst 1, 1) := by decide +kernel
theorem dX13_tokenize_164 : decode cX13_tokenize 164 = .ok (.goto 5, 3) := by decide +kernel
theorem dX13_tokenize_167 : decode cX13_tokenize 167 = .ok (.bipush 6, 2) := by decide +kernel
theorem dX13_tokenize_169 : decode cX13_tokenize 169 = .ok (.iload_n 1, 1) := by decide +kernel
theorem dX13_tokenize_170 : decode cX13_tokenize 170 = .ok (.iload_n 3, 1) := by decide +kernel
theorem dX13_tokenize_171 : decode cX13_tokenize 171 = .ok (.iload 4, 2) := by decide +kernel
theorem dX13_tokenize_173 : decode cX13_tokenize 173 = .ok (.invokevirtual 358, 3) := by decide +kernel
theorem dX13_tokenize_176 : decode cX13_tokenize 176 = .ok (.goto 202, 3) := by decide +kernel
theorem dX13_tokenize_179 : decode cX13_tokenize 179 = .ok (.iload_n 2, 1) := by decide +kernel
theorem dX13_tokenize_180 : decode cX13_tokenize 180 = .ok (.invokestatic 349, 3) := by decide +kernel
theorem dX13_tokenize_183 : decode cX13_tokenize 183 = .ok (.ifCond .eq 135, 3) := by decide +kernel
theorem dX13_tokenize_186 : decode cX13_tokenize 186 = .ok (.lconst 0, 1) := by decide +kernel
theorem dX13_tokenize_187 : decode cX13_tokenize 187 = .ok (.lstore 4, 2) := by decide +kernel
theorem dX13_tokenize_189 : decode cX13_tokenize 189 = .ok (.aload_n 0, 1) := by decide +kernel
theorem dX13_tokenize_190 : decode cX13_tokenize 190 = .ok (.iload_n 1, 1) := by decide +kernel
theorem dX13_tokenize_191 : decode cX13_tokenize 191 = .ok (.iload_n 3, 1) := by decide +kernel
theorem dX13_tokenize_192 : decode cX13_tokenize 192 = .ok (.iadd, 1) := by decide +kernel
theorem dX13_tokenize_193 : decode cX13_tokenize 193 = .ok (.invokevirtual 341, 3) := by decide +kernel
theorem dX13_tokenize_196 : decode cX13_tokenize 196 = .ok (.invokestatic 349, 3) := by decide +kernel
theorem dX13_tokenize_199 : decode cX13_tokenize 199 = .ok (.ifCond .eq 44, 3) := by decide +kernel
theorem dX13_tokenize_202 : decode cX13_tokenize 202 = .ok (.lload 4, 2) := by decide +kernel
theorem dX13_tokenize_204 : decode cX13_tokenize 204 = .ok (.ldc2_w 362, 3) := by decide +kernel
theorem dX13_tokenize_207 : decode cX13_tokenize 207 = .ok (.lcmp, 1) := by decide +kernel
theorem dX13_tokenize_208 : decode cX13_tokenize 208 = .ok (.ifCond .le 8, 3) := by decide +kernel
theorem dX13_tokenize_211 : decode cX13_tokenize 211 = .ok (.lload 4, 2) := by decide +kernel
theorem dX13_tokenize_213 : decode cX13_tokenize 213 = .ok (.goto 22, 3) := by decide +kernel
theorem dX13_tokenize_216 : decode cX13_tokenize 216 = .ok (.ldc2_w 364, 3) := by decide +kernel
theorem dX13_tokenize_219 : decode cX13_tokenize 219 = .ok (.lload 4, 2) := by decide +kernel
theorem dX13_tokenize_221 : decode cX13_tokenize 221 = .ok (.lmul, 1) := by decide +kernel
theorem dX13_tokenize_222 : decode cX13_tokenize 222 = .ok (.aload_n 0, 1) := by decide +kernel
theorem dX13_tokenize_223 : decode cX13_tokenize 223 = .ok (.iload_n 1, 1) := by decide +kernel
theorem dX13_tokenize_224 : decode cX13_tokenize 224 = .ok (.iload_n 3, 1) := by decide +kernel
theorem dX13_tokenize_225 : decode cX13_tokenize 225 = .ok (.iadd, 1) := by decide +kernel
theorem dX13_tokenize_226 : decode cX13_tokenize 226 = .ok (.invokevirtual 341, 3) := by decide +kernel
theorem dX13_tokenize_229 : decode cX13_tokenize 229 = .ok (.i2l, 1) := by decide +kernel
theorem dX13_tokenize_230 : decode cX13_tokenize 230 = .ok (.ladd, 1) := by decide +kernel
theorem dX13_tokenize_231 : decode cX13_tokenize 231 = .ok (.ldc2_w 366, 3) := by decide +kernel
theorem dX13_tokenize_234 : decode cX13_tokenize 234 = .ok (.lsub, 1) := by decide +kernel
theorem dX13_tokenize_235 : decode cX13_tokenize 235 = .ok (.lstore 4, 2) := by decide +kernel
theorem dX13_tokenize_237 : decode cX13_tokenize 237 = .ok (.iinc 3 1, 3) := by decide +kernel
theorem dX13_tokenize_240 : decode cX13_tokenize 240 = .ok (.goto (-51), 3) := by decide +kernel
theorem dX13_tokenize_243 : decode cX13_tokenize 243 = .ok (.lload 4, 2) := by decide +kernel
theorem dX13_tokenize_245 : decode cX13_tokenize 245 = .ok (.ldc2_w 368, 3) := by decide +kernel
theorem dX13_tokenize_248 : decode cX13_tokenize 248 = .ok (.lcmp, 1) := by decide +kernel
theorem dX13_tokenize_249 : decode cX13_tokenize 249 = .ok (.ifCond .gt 43, 3) := by decide +kernel
theorem dX13_tokenize_252 : decode cX13_tokenize 252 = .ok (.iload_n 3, 1) := by decide +kernel
theorem dX13_tokenize_253 : decode cX13_tokenize 253 = .ok (.iconst 1, 1) := by decide +kernel
theorem dX13_tokenize_254 : decode cX13_tokenize 254 = .ok (.if_icmp .eq 9, 3) := by decide +kernel
theorem dX13_tokenize_257 : decode cX13_tokenize 257 = .ok (.iload_n 2, 1) := by decide +kernel
theorem dX13_tokenize_258 : decode cX13_tokenize 258 = .ok (.bipush 48, 2) := by decide +kernel
theorem dX13_tokenize_260 : decode cX13_tokenize 260 = .ok (.if_icmp .eq 32, 3) := by decide +kernel
theorem dX13_tokenize_263 : decode cX13_tokenize 263 = .ok (.aload_n 0, 1) := by decide +kernel
theorem dX13_tokenize_264 : decode cX13_tokenize 264 = .ok (.iload_n 1, 1) := by decide +kernel
theorem dX13_tokenize_265 : decode cX13_tokenize 265 = .ok (.iload_n 3, 1) := by decide +kernel
theorem dX13_tokenize_266 : decode cX13_tokenize 266 = .ok (.iadd, 1) := by decide +kernel
theorem dX13_tokenize_267 : decode cX13_tokenize 267 = .ok (.invokevirtual 341, 3) := by decide +kernel
theorem dX13_tokenize_270 : decode cX13_tokenize 270 = .ok (.invokestatic 345, 3) := by decide +kernel
theorem dX13_tokenize_273 : decode cX13_tokenize 273 = .ok (.ifCond .ne 19, 3) := by decide +kernel
theorem dX13_tokenize_276 : decode cX13_tokenize 276 = .ok (.aload_n 0, 1) := by decide +kernel
theorem dX13_tokenize_277 : decode cX13_tokenize 277 = .ok (.iload_n 1, 1) := by decide +kernel
theorem dX13_tokenize_278 : decode cX13_tokenize 278 = .ok (.iload_n 3, 1) := by decide +kernel
theorem dX13_tokenize_279 : decode cX13_tokenize 279 = .ok (.iadd, 1) := by decide +kernel
theorem dX13_tokenize_280 : decode cX13_tokenize 280 = .ok (.invokevirtual 341, 3) := by decide +kernel
theorem dX13_tokenize_283 : decode cX13_tokenize 283 = .ok (.bipush 95, 2) := by decide +kernel
theorem dX13_tokenize_285 : decode cX13_tokenize 285 = .ok (.if_icmp .eq 7, 3) := by decide +kernel
theorem dX13_tokenize_288 : decode cX13_tokenize 288 = .ok (.iconst 1, 1) := by decide +kernel
theorem dX13_tokenize_289 : decode cX13_tokenize 289 = .ok (.goto 4, 3) := by decide +kernel
theorem dX13_tokenize_292 : decode cX13_tokenize 292 = .ok (.iconst 0, 1) := by decide +kernel
theorem dX13_tokenize_293 : decode cX13_tokenize 293 = .ok (.istore 6, 2) := by decide +kernel
theorem dX13_tokenize_295 : decode cX13_tokenize 295 = .ok (.aload_n 0, 1) := by decide +kernel
theorem dX13_tokenize_296 : decode cX13_tokenize 296 = .ok (.iload 6, 2) := by decide +kernel
theorem dX13_tokenize_298 : decode cX13_tokenize 298 = .ok (.ifCond .eq 7, 3) := by decide +kernel
theorem dX13_tokenize_301 : decode cX13_tokenize 301 = .ok (.iconst 2, 1) := by decide +kernel
theorem dX13_tokenize_302 : decode cX13_tokenize 302 = .ok (.goto 5, 3) := by decide +kernel
theorem dX13_tokenize_305 : decode cX13_tokenize 305 = .ok (.bipush 6, 2) := by decide +kernel
theorem dX13_tokenize_307 : decode cX13_tokenize 307 = .ok (.iload_n 1, 1) := by decide +kernel
theorem dX13_tokenize_308 : decode cX13_tokenize 308 = .ok (.iload_n 3, 1) := by decide +kernel
theorem dX13_tokenize_309 : decode cX13_tokenize 309 = .ok (.lload 4, 2) := by decide +kernel
theorem dX13_tokenize_311 : decode cX13_tokenize 311 = .ok (.l2i, 1) := by decide +kernel
theorem dX13_tokenize_312 : decode cX13_tokenize 312 = .ok (.invokevirtual 358, 3) := by decide +kernel
theorem dX13_tokenize_315 : decode cX13_tokenize 315 = .ok (.goto 63, 3) := by decide +kernel
theorem dX13_tokenize_318 : decode cX13_tokenize 318 = .ok (.aload_n 0, 1) := by decide +kernel
theorem dX13_tokenize_319 : decode cX13_tokenize 319 = .ok (.iload_n 1, 1) := by decide +kernel
theorem dX13_tokenize_320 : decode cX13_tokenize 320 = .ok (.invokevirtual 370, 3) := by decide +kernel
theorem dX13_tokenize_323 : decode cX13_tokenize 323 = .ok (.istore_n 3, 1) := by decide +kernel
theorem dX13_tokenize_324 : decode cX13_tokenize 324 = .ok (.iconst 0, 1) := by decide +kernel
theorem dX13_tokenize_325 : decode cX13_tokenize 325 = .ok (.istore 4, 2) := by decide +kernel
theorem dX13_tokenize_327 : decode cX13_tokenize 327 = .ok (.iconst 0, 1) := by decide +kernel
theorem dX13_tokenize_328 : decode cX13_tokenize 328 = .ok (.istore 5, 2) := by decide +kernel
theorem dX13_tokenize_330 : decode cX13_tokenize 330 = .ok (.iload 5, 2) := by decide +kernel
theorem dX13_tokenize_332 : decode cX13_tokenize 332 = .ok (.iload_n 3, 1) := by decide +kernel
theorem dX13_tokenize_333 : decode cX13_tokenize 333 = .ok (.if_icmp .ge 27, 3) := by decide +kernel
theorem dX13_tokenize_336 : decode cX13_tokenize 336 = .ok (.sipush 128, 3) := by decide +kernel
theorem dX13_tokenize_339 : decode cX13_tokenize 339 = .ok (.iload 4, 2) := by decide +kernel
theorem dX13_tokenize_341 : decode cX13_tokenize 341 = .ok (.imul, 1) := by decide +kernel
theorem dX13_tokenize_342 : decode cX13_tokenize 342 = .ok (.aload_n 0, 1) := by decide +kernel
theorem dX13_tokenize_343 : decode cX13_tokenize 343 = .ok (.getfield 13, 3) := by decide +kernel
theorem dX13_tokenize_346 : decode cX13_tokenize 346 = .ok (.iload_n 1, 1) := by decide +kernel
theorem dX13_tokenize_347 : decode cX13_tokenize 347 = .ok (.iload 5, 2) := by decide +kernel
theorem dX13_tokenize_349 : decode cX13_tokenize 349 = .ok (.iadd, 1) := by decide +kernel
theorem dX13_tokenize_350 : decode cX13_tokenize 350 = .ok (.iaload, 1) := by decide +kernel
theorem dX13_tokenize_351 : decode cX13_tokenize 351 = .ok (.iadd, 1) := by decide +kernel
theorem dX13_tokenize_352 : decode cX13_tokenize 352 = .ok (.istore 4, 2) := by decide +kernel
theorem dX13_tokenize_354 : decode cX13_tokenize 354 = .ok (.iinc 5 1, 3) := by decide +kernel
theorem dX13_tokenize_357 : decode cX13_tokenize 357 = .ok (.goto (-27), 3) := by decide +kernel
theorem dX13_tokenize_360 : decode cX13_tokenize 360 = .ok (.aload_n 0, 1) := by decide +kernel
theorem dX13_tokenize_361 : decode cX13_tokenize 361 = .ok (.iload_n 3, 1) := by decide +kernel
theorem dX13_tokenize_362 : decode cX13_tokenize 362 = .ok (.ifCond .le 7, 3) := by decide +kernel
theorem dX13_tokenize_365 : decode cX13_tokenize 365 = .ok (.iconst 4, 1) := by decide +kernel
theorem dX13_tokenize_366 : decode cX13_tokenize 366 = .ok (.goto 5, 3) := by decide +kernel
theorem dX13_tokenize_369 : decode cX13_tokenize 369 = .ok (.bipush 6, 2) := by decide +kernel
theorem dX13_tokenize_371 : decode cX13_tokenize 371 = .ok (.iload_n 1, 1) := by decide +kernel
theorem dX13_tokenize_372 : decode cX13_tokenize 372 = .ok (.iload_n 3, 1) := by decide +kernel
theorem dX13_tokenize_373 : decode cX13_tokenize 373 = .ok (.iload 4, 2) := by decide +kernel
theorem dX13_tokenize_375 : decode cX13_tokenize 375 = .ok (.invokevirtual 358, 3) := by decide +kernel
theorem dX13_tokenize_378 : decode cX13_tokenize 378 = .ok (.aload_n 0, 1) := by decide +kernel
theorem dX13_tokenize_379 : decode cX13_tokenize 379 = .ok (.getfield 16, 3) := by decide +kernel
theorem dX13_tokenize_382 : decode cX13_tokenize 382 = .ok (.aload_n 0, 1) := by decide +kernel
theorem dX13_tokenize_383 : decode cX13_tokenize 383 = .ok (.getfield 338, 3) := by decide +kernel
theorem dX13_tokenize_386 : decode cX13_tokenize 386 = .ok (.iconst 1, 1) := by decide +kernel
theorem dX13_tokenize_387 : decode cX13_tokenize 387 = .ok (.isub, 1) := by decide +kernel
theorem dX13_tokenize_388 : decode cX13_tokenize 388 = .ok (.iaload, 1) := by decide +kernel
theorem dX13_tokenize_389 : decode cX13_tokenize 389 = .ok (.bipush 6, 2) := by decide +kernel
theorem dX13_tokenize_391 : decode cX13_tokenize 391 = .ok (.if_icmp .ne 35, 3) := by decide +kernel
theorem dX13_tokenize_394 : decode cX13_tokenize 394 = .ok (.aload_n 0, 1) := by decide +kernel
theorem dX13_tokenize_395 : decode cX13_tokenize 395 = .ok (.getfield 338, 3) := by decide +kernel
theorem dX13_tokenize_398 : decode cX13_tokenize 398 = .ok (.istore 4, 2) := by decide +kernel
theorem dX13_tokenize_400 : decode cX13_tokenize 400 = .ok (.iload 4, 2) := by decide +kernel
theorem dX13_tokenize_402 : decode cX13_tokenize 402 = .ok (.aload_n 0, 1) := by decide +kernel
theorem dX13_tokenize_403 : decode cX13_tokenize 403 = .ok (.getfield 338, 3) := by decide +kernel
theorem dX13_tokenize_406 : decode cX13_tokenize 406 = .ok (.iconst 4, 1) := by decide +kernel
theorem dX13_tokenize_407 : decode cX13_tokenize 407 = .ok (.iadd, 1) := by decide +kernel
theorem dX13_tokenize_408 : decode cX13_tokenize 408 = .ok (.if_icmp .ge 17, 3) := by decide +kernel
theorem dX13_tokenize_411 : decode cX13_tokenize 411 = .ok (.aload_n 0, 1) := by decide +kernel
theorem dX13_tokenize_412 : decode cX13_tokenize 412 = .ok (.getfield 16, 3) := by decide +kernel
theorem dX13_tokenize_415 : decode cX13_tokenize 415 = .ok (.iload 4, 2) := by decide +kernel
theorem dX13_tokenize_417 : decode cX13_tokenize 417 = .ok (.iconst 5, 1) := by decide +kernel
theorem dX13_tokenize_418 : decode cX13_tokenize 418 = .ok (.iastore, 1) := by decide +kernel
theorem dX13_tokenize_419 : decode cX13_tokenize 419 = .ok (.iinc 4 1, 3) := by decide +kernel
theorem dX13_tokenize_422 : decode cX13_tokenize 422 = .ok (.goto (-22), 3) := by decide +kernel
theorem dX13_tokenize_425 : decode cX13_tokenize 425 = .ok (.return_, 1) := by decide +kernel
theorem dX13_tokenize_426 : decode cX13_tokenize 426 = .ok (.iload_n 1, 1) := by decide +kernel
theorem dX13_tokenize_427 : decode cX13_tokenize 427 = .ok (.iload_n 3, 1) := by decide +kernel
theorem dX13_tokenize_428 : decode cX13_tokenize 428 = .ok (.iadd, 1) := by decide +kernel
theorem dX13_tokenize_429 : decode cX13_tokenize 429 = .ok (.istore_n 1, 1) := by decide +kernel
theorem dX13_tokenize_430 : decode cX13_tokenize 430 = .ok (.goto (-423), 3) := by decide +kernel
theorem dX13_tokenize_433 : decode cX13_tokenize 433 = .ok (.aload_n 0, 1) := by decide +kernel
theorem dX13_tokenize_434 : decode cX13_tokenize 434 = .ok (.iconst 5, 1) := by decide +kernel
theorem dX13_tokenize_435 : decode cX13_tokenize 435 = .ok (.aload_n 0, 1) := by decide +kernel
theorem dX13_tokenize_436 : decode cX13_tokenize 436 = .ok (.getfield 325, 3) := by decide +kernel
theorem dX13_tokenize_439 : decode cX13_tokenize 439 = .ok (.iconst 0, 1) := by decide +kernel
theorem dX13_tokenize_440 : decode cX13_tokenize 440 = .ok (.iconst 0, 1) := by decide +kernel
theorem dX13_tokenize_441 : decode cX13_tokenize 441 = .ok (.invokevirtual 358, 3) := by decide +kernel
theorem dX13_tokenize_444 : decode cX13_tokenize 444 = .ok (.aload_n 0, 1) := by decide +kernel
theorem dX13_tokenize_445 : decode cX13_tokenize 445 = .ok (.getfield 338, 3) := by decide +kernel
theorem dX13_tokenize_448 : decode cX13_tokenize 448 = .ok (.istore_n 2, 1) := by decide +kernel
theorem dX13_tokenize_449 : decode cX13_tokenize 449 = .ok (.iload_n 2, 1) := by decide +kernel
theorem dX13_tokenize_450 : decode cX13_tokenize 450 = .ok (.aload_n 0, 1) := by decide +kernel
theorem dX13_tokenize_451 : decode cX13_tokenize 451 = .ok (.getfield 338, 3) := by decide +kernel
theorem dX13_tokenize_454 : decode cX13_tokenize 454 = .ok (.iconst 4, 1) := by decide +kernel
theorem dX13_tokenize_455 : decode cX13_tokenize 455 = .ok (.iadd, 1) := by decide +kernel
theorem dX13_tokenize_456 : decode cX13_tokenize 456 = .ok (.if_icmp .ge 16, 3) := by decide +kernel
theorem dX13_tokenize_459 : decode cX13_tokenize 459 = .ok (.aload_n 0, 1) := by decide +kernel
theorem dX13_tokenize_460 : decode cX13_tokenize 460 = .ok (.getfield 16, 3) := by decide +kernel
theorem dX13_tokenize_463 : decode cX13_tokenize 463 = .ok (.iload_n 2, 1) := by decide +kernel
theorem dX13_tokenize_464 : decode cX13_tokenize 464 = .ok (.iconst 5, 1) := by decide +kernel
theorem dX13_tokenize_465 : decode cX13_tokenize 465 = .ok (.iastore, 1) := by decide +kernel
theorem dX13_tokenize_466 : decode cX13_tokenize 466 = .ok (.iinc 2 1, 3) := by decide +kernel
theorem dX13_tokenize_469 : decode cX13_tokenize 469 = .ok (.goto (-20), 3) := by decide +kernel
theorem dX13_tokenize_472 : decode cX13_tokenize 472 = .ok (.return_, 1) := by decide +kernel
theorem rs_RX13_9 : mx_res RX13 9 = some (0, 13, 0) := by decide +kernel
theorem rs_RX13_194 : mx_res RX13 194 = some (0, 13, 91) := by decide +kernel
theorem rs_RX13_197 : mx_res RX13 197 = some (0, 13, 92) := by decide +kernel
theorem rs_RX13_312 : mx_res RX13 312 = some (0, 13, 1) := by decide +kernel
theorem rs_RX13_746 : mx_res RX13 746 = some (1, 390, 0) := by decide +kernel
theorem rs_RX13_749 : mx_res RX13 749 = some (1, 401, 0) := by decide +kernel
theorem rs_RX13_752 : mx_res RX13 752 = some (1, 426, 0) := by decide +kernel
theorem rs_RX13_755 : mx_res RX13 755 = some (1, 432, 0) := by decide +kernel
theorem rs_RX13_758 : mx_res RX13 758 = some (1, 484, 1) := by decide +kernel
theorem rs_RX13_761 : mx_res RX13 761 = some (0, 13, 93) := by decide +kernel
theorem ft_13_1 : mx_fty 13 1 = some (.int, false, "ClassMillModel") := by decide +kernel
theorem ft_13_3 : mx_fty 13 3 = some (.int, false, "ClassMillModel") := by decide +kernel
theorem ft_13_93 : mx_fty 13 93 = some (.int, false, "ClassMillModel") := by decide +kernel
theorem mt_X13_compile : mx_mt 486 = some (yX13_compile, cX13_compile, 4, (some .int)) := rfl
theorem dX13_compile_0 : decode cX13_compile 0 = .ok (.aload_n 0, 1) := by decide +kernel
theorem dX13_compile_1 : decode cX13_compile 1 = .ok (.getfield 312, 3) := by decide +kernel
theorem dX13_compile_4 : decode cX13_compile 4 = .ok (.istore_n 1, 1) := by decide +kernel
theorem dX13_compile_5 : decode cX13_compile 5 = .ok (.aload_n 0, 1) := by decide +kernel
theorem dX13_compile_6 : decode cX13_compile 6 = .ok (.iconst 0, 1) := by decide +kernel
theorem dX13_compile_7 : decode cX13_compile 7 = .ok (.putfield 312, 3) := by decide +kernel
theorem dX13_compile_10 : decode cX13_compile 10 = .ok (.aload_n 0, 1) := by decide +kernel
theorem dX13_compile_11 : decode cX13_compile 11 = .ok (.iconst 0, 1) := by decide +kernel
theorem dX13_compile_12 : decode cX13_compile 12 = .ok (.putfield 319, 3) := by decide +kernel
theorem dX13_compile_15 : decode cX13_compile 15 = .ok (.aload_n 0, 1) := by decide +kernel
theorem dX13_compile_16 : decode cX13_compile 16 = .ok (.iconst (-1), 1) := by decide +kernel
theorem dX13_compile_17 : decode cX13_compile 17 = .ok (.putfield 322, 3) := by decide +kernel
theorem dX13_compile_20 : decode cX13_compile 20 = .ok (.iload_n 1, 1) := by decide +kernel
theorem dX13_compile_21 : decode cX13_compile 21 = .ok (.sipush 3000, 3) := by decide +kernel
theorem dX13_compile_24 : decode cX13_compile 24 = .ok (.if_icmp .le 17, 3) := by decide +kernel
theorem dX13_compile_27 : decode cX13_compile 27 = .ok (.aload_n 0, 1) := by decide +kernel
theorem dX13_compile_28 : decode cX13_compile 28 = .ok (.iconst 1, 1) := by decide +kernel
theorem dX13_compile_29 : decode cX13_compile 29 = .ok (.putfield 319, 3) := by decide +kernel
theorem dX13_compile_32 : decode cX13_compile 32 = .ok (.aload_n 0, 1) := by decide +kernel
theorem dX13_compile_33 : decode cX13_compile 33 = .ok (.sipush 3000, 3) := by decide +kernel
theorem dX13_compile_36 : decode cX13_compile 36 = .ok (.putfield 322, 3) := by decide +kernel
theorem dX13_compile_39 : decode cX13_compile 39 = .ok (.iconst (-1), 1) := by decide +kernel
theorem dX13_compile_40 : decode cX13_compile 40 = .ok (.ireturn, 1) := by decide +kernel
theorem dX13_compile_41 : decode cX13_compile 41 = .ok (.iconst 0, 1) := by decide +kernel
theorem dX13_compile_42 : decode cX13_compile 42 = .ok (.istore_n 2, 1) := by decide +kernel
theorem dX13_compile_43 : decode cX13_compile 43 = .ok (.iload_n 2, 1) := by decide +kernel
theorem dX13_compile_44 : decode cX13_compile 44 = .ok (.iload_n 1, 1) := by decide +kernel
theorem dX13_compile_45 : decode cX13_compile 45 = .ok (.if_icmp .ge 21, 3) := by decide +kernel
theorem dX13_compile_48 : decode cX13_compile 48 = .ok (.aload_n 0, 1) := by decide +kernel
theorem dX13_compile_49 : decode cX13_compile 49 = .ok (.getfield 13, 3) := by decide +kernel
theorem dX13_compile_52 : decode cX13_compile 52 = .ok (.iload_n 2, 1) := by decide +kernel
theorem dX13_compile_53 : decode cX13_compile 53 = .ok (.aload_n 0, 1) := by decide +kernel
theorem dX13_compile_54 : decode cX13_compile 54 = .ok (.getfield 9, 3) := by decide +kernel
theorem dX13_compile_57 : decode cX13_compile 57 = .ok (.iload_n 2, 1) := by decide +kernel
theorem dX13_compile_58 : decode cX13_compile 58 = .ok (.iaload, 1) := by decide +kernel
theorem dX13_compile_59 : decode cX13_compile 59 = .ok (.iastore, 1) := by decide +kernel
theorem dX13_compile_60 : decode cX13_compile 60 = .ok (.iinc 2 1, 3) := by decide +kernel
theorem dX13_compile_63 : decode cX13_compile 63 = .ok (.goto (-20), 3) := by decide +kernel
theorem dX13_compile_66 : decode cX13_compile 66 = .ok (.aload_n 0, 1) := by decide +kernel
theorem dX13_compile_67 : decode cX13_compile 67 = .ok (.iload_n 1, 1) := by decide +kernel
theorem dX13_compile_68 : decode cX13_compile 68 = .ok (.putfield 325, 3) := by decide +kernel
theorem dX13_compile_71 : decode cX13_compile 71 = .ok (.aload_n 0, 1) := by decide +kernel
theorem dX13_compile_72 : decode cX13_compile 72 = .ok (.invokevirtual 746, 3) := by decide +kernel
theorem dX13_compile_75 : decode cX13_compile 75 = .ok (.aload_n 0, 1) := by decide +kernel
theorem dX13_compile_76 : decode cX13_compile 76 = .ok (.getfield 319, 3) := by decide +kernel
theorem dX13_compile_79 : decode cX13_compile 79 = .ok (.ifCond .ne 7, 3) := by decide +kernel
theorem dX13_compile_82 : decode cX13_compile 82 = .ok (.aload_n 0, 1) := by decide +kernel
theorem dX13_compile_83 : decode cX13_compile 83 = .ok (.invokevirtual 749, 3) := by decide +kernel
theorem dX13_compile_86 : decode cX13_compile 86 = .ok (.aload_n 0, 1) := by decide +kernel
theorem dX13_compile_87 : decode cX13_compile 87 = .ok (.getfield 319, 3) := by decide +kernel
theorem dX13_compile_90 : decode cX13_compile 90 = .ok (.ifCond .ne 7, 3) := by decide +kernel
theorem dX13_compile_93 : decode cX13_compile 93 = .ok (.aload_n 0, 1) := by decide +kernel
theorem dX13_compile_94 : decode cX13_compile 94 = .ok (.invokevirtual 752, 3) := by decide +kernel
theorem dX13_compile_97 : decode cX13_compile 97 = .ok (.aload_n 0, 1) := by decide +kernel
theorem dX13_compile_98 : decode cX13_compile 98 = .ok (.getfield 319, 3) := by decide +kernel
theorem dX13_compile_101 : decode cX13_compile 101 = .ok (.ifCond .ne 7, 3) := by decide +kernel
theorem dX13_compile_104 : decode cX13_compile 104 = .ok (.aload_n 0, 1) := by decide +kernel
theorem dX13_compile_105 : decode cX13_compile 105 = .ok (.invokevirtual 755, 3) := by decide +kernel
theorem dX13_compile_108 : decode cX13_compile 108 = .ok (.iconst 0, 1) := by decide +kernel
theorem dX13_compile_109 : decode cX13_compile 109 = .ok (.istore_n 2, 1) := by decide +kernel
theorem dX13_compile_110 : decode cX13_compile 110 = .ok (.iload_n 2, 1) := by decide +kernel
theorem dX13_compile_111 : decode cX13_compile 111 = .ok (.aload_n 0, 1) := by decide +kernel
theorem dX13_compile_112 : decode cX13_compile 112 = .ok (.getfield 409, 3) := by decide +kernel
theorem dX13_compile_115 : decode cX13_compile 115 = .ok (.if_icmp .ge 21, 3) := by decide +kernel
theorem dX13_compile_118 : decode cX13_compile 118 = .ok (.aload_n 0, 1) := by decide +kernel
theorem dX13_compile_119 : decode cX13_compile 119 = .ok (.getfield 319, 3) := by decide +kernel
theorem dX13_compile_122 : decode cX13_compile 122 = .ok (.ifCond .ne 14, 3) := by decide +kernel
theorem dX13_compile_125 : decode cX13_compile 125 = .ok (.aload_n 0, 1) := by decide +kernel
theorem dX13_compile_126 : decode cX13_compile 126 = .ok (.iload_n 2, 1) := by decide +kernel
theorem dX13_compile_127 : decode cX13_compile 127 = .ok (.invokevirtual 758, 3) := by decide +kernel
theorem dX13_compile_130 : decode cX13_compile 130 = .ok (.iinc 2 1, 3) := by decide +kernel
theorem dX13_compile_133 : decode cX13_compile 133 = .ok (.goto (-23), 3) := by decide +kernel
theorem dX13_compile_136 : decode cX13_compile 136 = .ok (.aload_n 0, 1) := by decide +kernel
theorem dX13_compile_137 : decode cX13_compile 137 = .ok (.getfield 319, 3) := by decide +kernel
theorem dX13_compile_140 : decode cX13_compile 140 = .ok (.ifCond .eq 5, 3) := by decide +kernel
theorem dX13_compile_143 : decode cX13_compile 143 = .ok (.iconst (-1), 1) := by decide +kernel
theorem dX13_compile_144 : decode cX13_compile 144 = .ok (.ireturn, 1) := by decide +kernel
theorem dX13_compile_145 : decode cX13_compile 145 = .ok (.iconst 0, 1) := by decide +kernel
theorem dX13_compile_146 : decode cX13_compile 146 = .ok (.istore_n 2, 1) := by decide +kernel
theorem dX13_compile_147 : decode cX13_compile 147 = .ok (.iload_n 2, 1) := by decide +kernel
theorem dX13_compile_148 : decode cX13_compile 148 = .ok (.aload_n 0, 1) := by decide +kernel
theorem dX13_compile_149 : decode cX13_compile 149 = .ok (.getfield 409, 3) := by decide +kernel
theorem dX13_compile_152 : decode cX13_compile 152 = .ok (.if_icmp .ge 63, 3) := by decide +kernel
theorem dX13_compile_155 : decode cX13_compile 155 = .ok (.aload_n 0, 1) := by decide +kernel
theorem dX13_compile_156 : decode cX13_compile 156 = .ok (.getfield 197, 3) := by decide +kernel
theorem dX13_compile_159 : decode cX13_compile 159 = .ok (.iload_n 2, 1) := by decide +kernel
theorem dX13_compile_160 : decode cX13_compile 160 = .ok (.aload_n 0, 1) := by decide +kernel
theorem dX13_compile_161 : decode cX13_compile 161 = .ok (.getfield 203, 3) := by decide +kernel
theorem dX13_compile_164 : decode cX13_compile 164 = .ok (.iload_n 2, 1) := by decide +kernel
theorem dX13_compile_165 : decode cX13_compile 165 = .ok (.iaload, 1) := by decide +kernel
theorem dX13_compile_166 : decode cX13_compile 166 = .ok (.iastore, 1) := by decide +kernel
theorem dX13_compile_167 : decode cX13_compile 167 = .ok (.iconst 0, 1) := by decide +kernel
theorem dX13_compile_168 : decode cX13_compile 168 = .ok (.istore_n 3, 1) := by decide +kernel
theorem dX13_compile_169 : decode cX13_compile 169 = .ok (.iload_n 3, 1) := by decide +kernel
theorem dX13_compile_170 : decode cX13_compile 170 = .ok (.aload_n 0, 1) := by decide +kernel
theorem dX13_compile_171 : decode cX13_compile 171 = .ok (.getfield 203, 3) := by decide +kernel
theorem dX13_compile_174 : decode cX13_compile 174 = .ok (.iload_n 2, 1) := by decide +kernel
theorem dX13_compile_175 : decode cX13_compile 175 = .ok (.iaload, 1) := by decide +kernel
theorem dX13_compile_176 : decode cX13_compile 176 = .ok (.if_icmp .ge 33, 3) := by decide +kernel
theorem dX13_compile_179 : decode cX13_compile 179 = .ok (.aload_n 0, 1) := by decide +kernel
theorem dX13_compile_180 : decode cX13_compile 180 = .ok (.getfield 194, 3) := by decide +kernel
theorem dX13_compile_183 : decode cX13_compile 183 = .ok (.sipush 6000, 3) := by decide +kernel
theorem dX13_compile_186 : decode cX13_compile 186 = .ok (.iload_n 2, 1) := by decide +kernel
theorem dX13_compile_187 : decode cX13_compile 187 = .ok (.imul, 1) := by decide +kernel
theorem dX13_compile_188 : decode cX13_compile 188 = .ok (.iload_n 3, 1) := by decide +kernel
theorem dX13_compile_189 : decode cX13_compile 189 = .ok (.iadd, 1) := by decide +kernel
theorem dX13_compile_190 : decode cX13_compile 190 = .ok (.aload_n 0, 1) := by decide +kernel
theorem dX13_compile_191 : decode cX13_compile 191 = .ok (.getfield 200, 3) := by decide +kernel
theorem dX13_compile_194 : decode cX13_compile 194 = .ok (.sipush 6000, 3) := by decide +kernel
theorem dX13_compile_197 : decode cX13_compile 197 = .ok (.iload_n 2, 1) := by decide +kernel
theorem dX13_compile_198 : decode cX13_compile 198 = .ok (.imul, 1) := by decide +kernel
theorem dX13_compile_199 : decode cX13_compile 199 = .ok (.iload_n 3, 1) := by decide +kernel
theorem dX13_compile_200 : decode cX13_compile 200 = .ok (.iadd, 1) := by decide +kernel
theorem dX13_compile_201 : decode cX13_compile 201 = .ok (.iaload, 1) := by decide +kernel
theorem dX13_compile_202 : decode cX13_compile 202 = .ok (.iastore, 1) := by decide +kernel
theorem dX13_compile_203 : decode cX13_compile 203 = .ok (.iinc 3 1, 3) := by decide +kernel
theorem dX13_compile_206 : decode cX13_compile 206 = .ok (.goto (-37), 3) := by decide +kernel
theorem dX13_compile_209 : decode cX13_compile 209 = .ok (.iinc 2 1, 3) := by decide +kernel
theorem dX13_compile_212 : decode cX13_compile 212 = .ok (.goto (-65), 3) := by decide +kernel
theorem dX13_compile_215 : decode cX13_compile 215 = .ok (.aload_n 0, 1) := by decide +kernel
theorem dX13_compile_216 : decode cX13_compile 216 = .ok (.aload_n 0, 1) := by decide +kernel
theorem dX13_compile_217 : decode cX13_compile 217 = .ok (.getfield 409, 3) := by decide +kernel
theorem dX13_compile_220 : decode cX13_compile 220 = .ok (.putfield 761, 3) := by decide +kernel
theorem dX13_compile_223 : decode cX13_compile 223 = .ok (.aload_n 0, 1) := by decide +kernel
theorem dX13_compile_224 : decode cX13_compile 224 = .ok (.getfield 409, 3) := by decide +kernel
theorem dX13_compile_227 : decode cX13_compile 227 = .ok (.ireturn, 1) := by decide +kernel
theorem mt_X13_end : mx_mt 382 = some (yX13_end, cX13_end, 2, (some .boolean)) := rfl
theorem dX13_end_0 : decode cX13_end 0 = .ok (.iload_n 1, 1) := by decide +kernel
theorem dX13_end_1 : decode cX13_end 1 = .ok (.ifCond .lt 11, 3) := by decide +kernel
theorem dX13_end_4 : decode cX13_end 4 = .ok (.iload_n 1, 1) := by decide +kernel
theorem dX13_end_5 : decode cX13_end 5 = .ok (.aload_n 0, 1) := by decide +kernel
theorem dX13_end_6 : decode cX13_end 6 = .ok (.getfield 312, 3) := by decide +kernel
theorem dX13_end_9 : decode cX13_end 9 = .ok (.if_icmp .le 5, 3) := by decide +kernel
theorem dX13_end_12 : decode cX13_end 12 = .ok (.iconst 0, 1) := by decide +kernel
theorem dX13_end_13 : decode cX13_end 13 = .ok (.ireturn, 1) := by decide +kernel
theorem dX13_end_14 : decode cX13_end 14 = .ok (.aload_n 0, 1) := by decide +kernel
theorem dX13_end_15 : decode cX13_end 15 = .ok (.iload_n 1, 1) := by decide +kernel
theorem dX13_end_16 : decode cX13_end 16 = .ok (.putfield 312, 3) := by decide +kernel
theorem dX13_end_19 : decode cX13_end 19 = .ok (.iconst 1, 1) := by decide +kernel
theorem dX13_end_20 : decode cX13_end 20 = .ok (.ireturn, 1) := by decide +kernel
theorem mt_X13_fault : mx_mt 487 = some (yX13_fault, cX13_fault, 2, (some .int)) := rfl
theorem dX13_fault_0 : decode cX13_fault 0 = .ok (.iload_n 1, 1) := by decide +kernel
theorem dX13_fault_1 : decode cX13_fault 1 = .ok (.ifCond .ne 10, 3) := by decide +kernel
theorem dX13_fault_4 : decode cX13_fault 4 = .ok (.aload_n 0, 1) := by decide +kernel
theorem dX13_fault_5 : decode cX13_fault 5 = .ok (.getfield 319, 3) := by decide +kernel
theorem dX13_fault_8 : decode cX13_fault 8 = .ok (.goto 23, 3) := by decide +kernel
theorem dX13_fault_11 : decode cX13_fault 11 = .ok (.iload_n 1, 1) := by decide +kernel
theorem dX13_fault_12 : decode cX13_fault 12 = .ok (.iconst 1, 1) := by decide +kernel
theorem dX13_fault_13 : decode cX13_fault 13 = .ok (.if_icmp .ne 17, 3) := by decide +kernel
theorem dX13_fault_16 : decode cX13_fault 16 = .ok (.aload_n 0, 1) := by decide +kernel
theorem dX13_fault_17 : decode cX13_fault 17 = .ok (.getfield 319, 3) := by decide +kernel
theorem dX13_fault_20 : decode cX13_fault 20 = .ok (.ifCond .le 10, 3) := by decide +kernel
theorem dX13_fault_23 : decode cX13_fault 23 = .ok (.aload_n 0, 1) := by decide +kernel
theorem dX13_fault_24 : decode cX13_fault 24 = .ok (.getfield 322, 3) := by decide +kernel
theorem dX13_fault_27 : decode cX13_fault 27 = .ok (.goto 4, 3) := by decide +kernel
theorem dX13_fault_30 : decode cX13_fault 30 = .ok (.iconst (-1), 1) := by decide +kernel
theorem dX13_fault_31 : decode cX13_fault 31 = .ok (.ireturn, 1) := by decide +kernel
theorem mt_X13_lay : mx_mt 380 = some (yX13_lay, cX13_lay, 3, none) := rfl
theorem dX13_lay_0 : decode cX13_lay 0 = .ok (.bipush 24, 2) := by decide +kernel
theorem dX13_lay_2 : decode cX13_lay 2 = .ok (.istore_n 2, 1) := by decide +kernel
theorem dX13_lay_3 : decode cX13_lay 3 = .ok (.iload_n 2, 1) := by decide +kernel
theorem dX13_lay_4 : decode cX13_lay 4 = .ok (.ifCond .lt 35, 3) := by decide +kernel
theorem dX13_lay_7 : decode cX13_lay 7 = .ok (.aload_n 0, 1) := by decide +kernel
theorem dX13_lay_8 : decode cX13_lay 8 = .ok (.getfield 9, 3) := by decide +kernel
theorem dX13_lay_11 : decode cX13_lay 11 = .ok (.aload_n 0, 1) := by decide +kernel
theorem dX13_lay_12 : decode cX13_lay 12 = .ok (.getfield 312, 3) := by decide +kernel
theorem dX13_lay_15 : decode cX13_lay 15 = .ok (.iload_n 1, 1) := by decide +kernel
theorem dX13_lay_16 : decode cX13_lay 16 = .ok (.iload_n 2, 1) := by decide +kernel
theorem dX13_lay_17 : decode cX13_lay 17 = .ok (.ishr, 1) := by decide +kernel
theorem dX13_lay_18 : decode cX13_lay 18 = .ok (.sipush 255, 3) := by decide +kernel
theorem dX13_lay_21 : decode cX13_lay 21 = .ok (.iand, 1) := by decide +kernel
theorem dX13_lay_22 : decode cX13_lay 22 = .ok (.iastore, 1) := by decide +kernel
theorem dX13_lay_23 : decode cX13_lay 23 = .ok (.aload_n 0, 1) := by decide +kernel
theorem dX13_lay_24 : decode cX13_lay 24 = .ok (.dup, 1) := by decide +kernel
theorem dX13_lay_25 : decode cX13_lay 25 = .ok (.getfield 312, 3) := by decide +kernel
theorem dX13_lay_28 : decode cX13_lay 28 = .ok (.iconst 1, 1) := by decide +kernel
theorem dX13_lay_29 : decode cX13_lay 29 = .ok (.iadd, 1) := by decide +kernel
theorem dX13_lay_30 : decode cX13_lay 30 = .ok (.putfield 312, 3) := by decide +kernel
theorem dX13_lay_33 : decode cX13_lay 33 = .ok (.iinc 2 (-8), 3) := by decide +kernel
theorem dX13_lay_36 : decode cX13_lay 36 = .ok (.goto (-33), 3) := by decide +kernel
theorem dX13_lay_39 : decode cX13_lay 39 = .ok (.return_, 1) := by decide +kernel
theorem rs_RX13_315 : mx_res RX13 315 = some (1, 380, 1) := by decide +kernel
theorem mt_X13_feed : mx_mt 381 = some (yX13_feed, cX13_feed, 6, (some .int)) := rfl
theorem dX13_feed_0 : decode cX13_feed 0 = .ok (.aload_n 0, 1) := by decide +kernel
theorem dX13_feed_1 : decode cX13_feed 1 = .ok (.getfield 312, 3) := by decide +kernel
theorem dX13_feed_4 : decode cX13_feed 4 = .ok (.bipush 20, 2) := by decide +kernel
theorem dX13_feed_6 : decode cX13_feed 6 = .ok (.iadd, 1) := by decide +kernel
theorem dX13_feed_7 : decode cX13_feed 7 = .ok (.sipush 6000, 3) := by decide +kernel
theorem dX13_feed_10 : decode cX13_feed 10 = .ok (.if_icmp .le 5, 3) := by decide +kernel
theorem dX13_feed_13 : decode cX13_feed 13 = .ok (.iconst (-1), 1) := by decide +kernel
theorem dX13_feed_14 : decode cX13_feed 14 = .ok (.ireturn, 1) := by decide +kernel
theorem dX13_feed_15 : decode cX13_feed 15 = .ok (.aload_n 0, 1) := by decide +kernel
theorem dX13_feed_16 : decode cX13_feed 16 = .ok (.iload_n 1, 1) := by decide +kernel
theorem dX13_feed_17 : decode cX13_feed 17 = .ok (.invokevirtual 315, 3) := by decide +kernel
theorem dX13_feed_20 : decode cX13_feed 20 = .ok (.aload_n 0, 1) := by decide +kernel
theorem dX13_feed_21 : decode cX13_feed 21 = .ok (.iload_n 2, 1) := by decide +kernel
theorem dX13_feed_22 : decode cX13_feed 22 = .ok (.invokevirtual 315, 3) := by decide +kernel
theorem dX13_feed_25 : decode cX13_feed 25 = .ok (.aload_n 0, 1) := by decide +kernel
theorem dX13_feed_26 : decode cX13_feed 26 = .ok (.iload_n 3, 1) := by decide +kernel
theorem dX13_feed_27 : decode cX13_feed 27 = .ok (.invokevirtual 315, 3) := by decide +kernel
theorem dX13_feed_30 : decode cX13_feed 30 = .ok (.aload_n 0, 1) := by decide +kernel
theorem dX13_feed_31 : decode cX13_feed 31 = .ok (.iload 4, 2) := by decide +kernel
theorem dX13_feed_33 : decode cX13_feed 33 = .ok (.invokevirtual 315, 3) := by decide +kernel
theorem dX13_feed_36 : decode cX13_feed 36 = .ok (.aload_n 0, 1) := by decide +kernel
theorem dX13_feed_37 : decode cX13_feed 37 = .ok (.iload 5, 2) := by decide +kernel
theorem dX13_feed_39 : decode cX13_feed 39 = .ok (.invokevirtual 315, 3) := by decide +kernel
theorem dX13_feed_42 : decode cX13_feed 42 = .ok (.aload_n 0, 1) := by decide +kernel
theorem dX13_feed_43 : decode cX13_feed 43 = .ok (.getfield 312, 3) := by decide +kernel
theorem dX13_feed_46 : decode cX13_feed 46 = .ok (.ireturn, 1) := by decide +kernel
theorem mt_X13_image : mx_mt 488 = some (yX13_image, cX13_image, 3, (some .int)) := rfl
theorem dX13_image_0 : decode cX13_image 0 = .ok (.iload_n 1, 1) := by decide +kernel
theorem dX13_image_1 : decode cX13_image 1 = .ok (.ifCond .lt 26, 3) := by decide +kernel
theorem dX13_image_4 : decode cX13_image 4 = .ok (.iload_n 1, 1) := by decide +kernel
theorem dX13_image_5 : decode cX13_image 5 = .ok (.aload_n 0, 1) := by decide +kernel
theorem dX13_image_6 : decode cX13_image 6 = .ok (.getfield 761, 3) := by decide +kernel
theorem dX13_image_9 : decode cX13_image 9 = .ok (.if_icmp .ge 18, 3) := by decide +kernel
theorem dX13_image_12 : decode cX13_image 12 = .ok (.iload_n 2, 1) := by decide +kernel
theorem dX13_image_13 : decode cX13_image 13 = .ok (.iconst (-1), 1) := by decide +kernel
theorem dX13_image_14 : decode cX13_image 14 = .ok (.if_icmp .lt 13, 3) := by decide +kernel
theorem dX13_image_17 : decode cX13_image 17 = .ok (.iload_n 2, 1) := by decide +kernel
theorem dX13_image_18 : decode cX13_image 18 = .ok (.aload_n 0, 1) := by decide +kernel
theorem dX13_image_19 : decode cX13_image 19 = .ok (.getfield 197, 3) := by decide +kernel
theorem dX13_image_22 : decode cX13_image 22 = .ok (.iload_n 1, 1) := by decide +kernel
theorem dX13_image_23 : decode cX13_image 23 = .ok (.iaload, 1) := by decide +kernel
theorem dX13_image_24 : decode cX13_image 24 = .ok (.if_icmp .lt 5, 3) := by decide +kernel
theorem dX13_image_27 : decode cX13_image 27 = .ok (.iconst (-1), 1) := by decide +kernel
theorem dX13_image_28 : decode cX13_image 28 = .ok (.ireturn, 1) := by decide +kernel
theorem dX13_image_29 : decode cX13_image 29 = .ok (.iload_n 2, 1) := by decide +kernel
theorem dX13_image_30 : decode cX13_image 30 = .ok (.iconst (-1), 1) := by decide +kernel
theorem dX13_image_31 : decode cX13_image 31 = .ok (.if_icmp .ne 12, 3) := by decide +kernel
theorem dX13_image_34 : decode cX13_image 34 = .ok (.aload_n 0, 1) := by decide +kernel
theorem dX13_image_35 : decode cX13_image 35 = .ok (.getfield 197, 3) := by decide +kernel
theorem dX13_image_38 : decode cX13_image 38 = .ok (.iload_n 1, 1) := by decide +kernel
theorem dX13_image_39 : decode cX13_image 39 = .ok (.iaload, 1) := by decide +kernel
theorem dX13_image_40 : decode cX13_image 40 = .ok (.goto 15, 3) := by decide +kernel
theorem dX13_image_43 : decode cX13_image 43 = .ok (.aload_n 0, 1) := by decide +kernel
theorem dX13_image_44 : decode cX13_image 44 = .ok (.getfield 194, 3) := by decide +kernel
theorem dX13_image_47 : decode cX13_image 47 = .ok (.sipush 6000, 3) := by decide +kernel
theorem dX13_image_50 : decode cX13_image 50 = .ok (.iload_n 1, 1) := by decide +kernel
theorem dX13_image_51 : decode cX13_image 51 = .ok (.imul, 1) := by decide +kernel
theorem dX13_image_52 : decode cX13_image 52 = .ok (.iload_n 2, 1) := by decide +kernel
theorem dX13_image_53 : decode cX13_image 53 = .ok (.iadd, 1) := by decide +kernel
theorem dX13_image_54 : decode cX13_image 54 = .ok (.iaload, 1) := by decide +kernel
theorem dX13_image_55 : decode cX13_image 55 = .ok (.ireturn, 1) := by decide +kernel
