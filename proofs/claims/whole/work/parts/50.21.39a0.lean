theorem rs_RX13_203 : mx_res RX13 203 = some (0, 13, 95) := by decide +kernel
theorem rs_RX13_740 : mx_res RX13 740 = some (1, 482, 1) := by decide +kernel
theorem rs_RX13_743 : mx_res RX13 743 = some (1, 485, 2) := by decide +kernel
theorem mt_X13_makeClass : mx_mt 484 = some (yX13_makeClass, cX13_makeClass, 5, none) := rfl
theorem dX13_makeClass_0 : decode cX13_makeClass 0 = .ok (.aload_n 0, 1) := by decide +kernel
theorem dX13_makeClass_1 : decode cX13_makeClass 1 = .ok (.iconst 0, 1) := by decide +kernel
theorem dX13_makeClass_2 : decode cX13_makeClass 2 = .ok (.putfield 602, 3) := by decide +kernel
theorem dX13_makeClass_5 : decode cX13_makeClass 5 = .ok (.aload_n 0, 1) := by decide +kernel
theorem dX13_makeClass_6 : decode cX13_makeClass 6 = .ok (.iconst 0, 1) := by decide +kernel
theorem dX13_makeClass_7 : decode cX13_makeClass 7 = .ok (.putfield 605, 3) := by decide +kernel
theorem dX13_makeClass_10 : decode cX13_makeClass 10 = .ok (.aload_n 0, 1) := by decide +kernel
theorem dX13_makeClass_11 : decode cX13_makeClass 11 = .ok (.iconst 0, 1) := by decide +kernel
theorem dX13_makeClass_12 : decode cX13_makeClass 12 = .ok (.putfield 590, 3) := by decide +kernel
theorem dX13_makeClass_15 : decode cX13_makeClass 15 = .ok (.aload_n 0, 1) := by decide +kernel
theorem dX13_makeClass_16 : decode cX13_makeClass 16 = .ok (.iconst 0, 1) := by decide +kernel
theorem dX13_makeClass_17 : decode cX13_makeClass 17 = .ok (.putfield 728, 3) := by decide +kernel
theorem dX13_makeClass_20 : decode cX13_makeClass 20 = .ok (.aload_n 0, 1) := by decide +kernel
theorem dX13_makeClass_21 : decode cX13_makeClass 21 = .ok (.bipush 8, 2) := by decide +kernel
theorem dX13_makeClass_23 : decode cX13_makeClass 23 = .ok (.iload_n 1, 1) := by decide +kernel
theorem dX13_makeClass_24 : decode cX13_makeClass 24 = .ok (.iadd, 1) := by decide +kernel
theorem dX13_makeClass_25 : decode cX13_makeClass 25 = .ok (.putfield 519, 3) := by decide +kernel
theorem dX13_makeClass_28 : decode cX13_makeClass 28 = .ok (.aload_n 0, 1) := by decide +kernel
theorem dX13_makeClass_29 : decode cX13_makeClass 29 = .ok (.aload_n 0, 1) := by decide +kernel
theorem dX13_makeClass_30 : decode cX13_makeClass 30 = .ok (.bipush 8, 2) := by decide +kernel
theorem dX13_makeClass_32 : decode cX13_makeClass 32 = .ok (.iconst 2, 1) := by decide +kernel
theorem dX13_makeClass_33 : decode cX13_makeClass 33 = .ok (.aload_n 0, 1) := by decide +kernel
theorem dX13_makeClass_34 : decode cX13_makeClass 34 = .ok (.getfield 519, 3) := by decide +kernel
theorem dX13_makeClass_37 : decode cX13_makeClass 37 = .ok (.imul, 1) := by decide +kernel
theorem dX13_makeClass_38 : decode cX13_makeClass 38 = .ok (.iadd, 1) := by decide +kernel
theorem dX13_makeClass_39 : decode cX13_makeClass 39 = .ok (.invokevirtual 618, 3) := by decide +kernel
theorem dX13_makeClass_42 : decode cX13_makeClass 42 = .ok (.invokevirtual 731, 3) := by decide +kernel
theorem dX13_makeClass_45 : decode cX13_makeClass 45 = .ok (.aload_n 0, 1) := by decide +kernel
theorem dX13_makeClass_46 : decode cX13_makeClass 46 = .ok (.aload_n 0, 1) := by decide +kernel
theorem dX13_makeClass_47 : decode cX13_makeClass 47 = .ok (.bipush 8, 2) := by decide +kernel
theorem dX13_makeClass_49 : decode cX13_makeClass 49 = .ok (.iconst 2, 1) := by decide +kernel
theorem dX13_makeClass_50 : decode cX13_makeClass 50 = .ok (.aload_n 0, 1) := by decide +kernel
theorem dX13_makeClass_51 : decode cX13_makeClass 51 = .ok (.aload_n 0, 1) := by decide +kernel
theorem dX13_makeClass_52 : decode cX13_makeClass 52 = .ok (.getfield 519, 3) := by decide +kernel
theorem dX13_makeClass_55 : decode cX13_makeClass 55 = .ok (.invokevirtual 482, 3) := by decide +kernel
theorem dX13_makeClass_58 : decode cX13_makeClass 58 = .ok (.imul, 1) := by decide +kernel
theorem dX13_makeClass_59 : decode cX13_makeClass 59 = .ok (.iadd, 1) := by decide +kernel
theorem dX13_makeClass_60 : decode cX13_makeClass 60 = .ok (.invokevirtual 618, 3) := by decide +kernel
theorem dX13_makeClass_63 : decode cX13_makeClass 63 = .ok (.invokevirtual 731, 3) := by decide +kernel
theorem dX13_makeClass_66 : decode cX13_makeClass 66 = .ok (.iconst 0, 1) := by decide +kernel
theorem dX13_makeClass_67 : decode cX13_makeClass 67 = .ok (.istore_n 2, 1) := by decide +kernel
theorem dX13_makeClass_68 : decode cX13_makeClass 68 = .ok (.iload_n 2, 1) := by decide +kernel
theorem dX13_makeClass_69 : decode cX13_makeClass 69 = .ok (.iconst 2, 1) := by decide +kernel
theorem dX13_makeClass_70 : decode cX13_makeClass 70 = .ok (.if_icmp .ge 182, 3) := by decide +kernel
theorem dX13_makeClass_73 : decode cX13_makeClass 73 = .ok (.iconst 0, 1) := by decide +kernel
theorem dX13_makeClass_74 : decode cX13_makeClass 74 = .ok (.istore_n 3, 1) := by decide +kernel
theorem dX13_makeClass_75 : decode cX13_makeClass 75 = .ok (.iconst 0, 1) := by decide +kernel
theorem dX13_makeClass_76 : decode cX13_makeClass 76 = .ok (.istore 4, 2) := by decide +kernel
theorem dX13_makeClass_78 : decode cX13_makeClass 78 = .ok (.iload 4, 2) := by decide +kernel
theorem dX13_makeClass_80 : decode cX13_makeClass 80 = .ok (.aload_n 0, 1) := by decide +kernel
theorem dX13_makeClass_81 : decode cX13_makeClass 81 = .ok (.getfield 412, 3) := by decide +kernel
theorem dX13_makeClass_84 : decode cX13_makeClass 84 = .ok (.if_icmp .ge 51, 3) := by decide +kernel
theorem dX13_makeClass_87 : decode cX13_makeClass 87 = .ok (.aload_n 0, 1) := by decide +kernel
theorem dX13_makeClass_88 : decode cX13_makeClass 88 = .ok (.getfield 71, 3) := by decide +kernel
theorem dX13_makeClass_91 : decode cX13_makeClass 91 = .ok (.iload 4, 2) := by decide +kernel
theorem dX13_makeClass_93 : decode cX13_makeClass 93 = .ok (.iaload, 1) := by decide +kernel
theorem dX13_makeClass_94 : decode cX13_makeClass 94 = .ok (.iload_n 1, 1) := by decide +kernel
theorem dX13_makeClass_95 : decode cX13_makeClass 95 = .ok (.if_icmp .ne 34, 3) := by decide +kernel
theorem dX13_makeClass_98 : decode cX13_makeClass 98 = .ok (.aload_n 0, 1) := by decide +kernel
theorem dX13_makeClass_99 : decode cX13_makeClass 99 = .ok (.getfield 74, 3) := by decide +kernel
theorem dX13_makeClass_102 : decode cX13_makeClass 102 = .ok (.iload 4, 2) := by decide +kernel
theorem dX13_makeClass_104 : decode cX13_makeClass 104 = .ok (.iaload, 1) := by decide +kernel
theorem dX13_makeClass_105 : decode cX13_makeClass 105 = .ok (.ifCond .le 7, 3) := by decide +kernel
theorem dX13_makeClass_108 : decode cX13_makeClass 108 = .ok (.iconst 1, 1) := by decide +kernel
theorem dX13_makeClass_109 : decode cX13_makeClass 109 = .ok (.goto 4, 3) := by decide +kernel
theorem dX13_makeClass_112 : decode cX13_makeClass 112 = .ok (.iconst 0, 1) := by decide +kernel
theorem dX13_makeClass_113 : decode cX13_makeClass 113 = .ok (.iload_n 2, 1) := by decide +kernel
theorem dX13_makeClass_114 : decode cX13_makeClass 114 = .ok (.iconst 1, 1) := by decide +kernel
theorem dX13_makeClass_115 : decode cX13_makeClass 115 = .ok (.if_icmp .ne 7, 3) := by decide +kernel
theorem dX13_makeClass_118 : decode cX13_makeClass 118 = .ok (.iconst 1, 1) := by decide +kernel
theorem dX13_makeClass_119 : decode cX13_makeClass 119 = .ok (.goto 4, 3) := by decide +kernel
theorem dX13_makeClass_122 : decode cX13_makeClass 122 = .ok (.iconst 0, 1) := by decide +kernel
theorem dX13_makeClass_123 : decode cX13_makeClass 123 = .ok (.if_icmp .ne 6, 3) := by decide +kernel
theorem dX13_makeClass_126 : decode cX13_makeClass 126 = .ok (.iinc 3 1, 3) := by decide +kernel
theorem dX13_makeClass_129 : decode cX13_makeClass 129 = .ok (.iinc 4 1, 3) := by decide +kernel
theorem dX13_makeClass_132 : decode cX13_makeClass 132 = .ok (.goto (-54), 3) := by decide +kernel
theorem dX13_makeClass_135 : decode cX13_makeClass 135 = .ok (.aload_n 0, 1) := by decide +kernel
theorem dX13_makeClass_136 : decode cX13_makeClass 136 = .ok (.iload_n 3, 1) := by decide +kernel
theorem dX13_makeClass_137 : decode cX13_makeClass 137 = .ok (.invokevirtual 731, 3) := by decide +kernel
theorem dX13_makeClass_140 : decode cX13_makeClass 140 = .ok (.iconst 0, 1) := by decide +kernel
theorem dX13_makeClass_141 : decode cX13_makeClass 141 = .ok (.istore 4, 2) := by decide +kernel
theorem dX13_makeClass_143 : decode cX13_makeClass 143 = .ok (.iload 4, 2) := by decide +kernel
theorem dX13_makeClass_145 : decode cX13_makeClass 145 = .ok (.aload_n 0, 1) := by decide +kernel
theorem dX13_makeClass_146 : decode cX13_makeClass 146 = .ok (.getfield 412, 3) := by decide +kernel
theorem dX13_makeClass_149 : decode cX13_makeClass 149 = .ok (.if_icmp .ge 97, 3) := by decide +kernel
theorem dX13_makeClass_152 : decode cX13_makeClass 152 = .ok (.aload_n 0, 1) := by decide +kernel
theorem dX13_makeClass_153 : decode cX13_makeClass 153 = .ok (.getfield 319, 3) := by decide +kernel
theorem dX13_makeClass_156 : decode cX13_makeClass 156 = .ok (.ifCond .ne 90, 3) := by decide +kernel
theorem dX13_makeClass_159 : decode cX13_makeClass 159 = .ok (.aload_n 0, 1) := by decide +kernel
theorem dX13_makeClass_160 : decode cX13_makeClass 160 = .ok (.getfield 71, 3) := by decide +kernel
theorem dX13_makeClass_163 : decode cX13_makeClass 163 = .ok (.iload 4, 2) := by decide +kernel
theorem dX13_makeClass_165 : decode cX13_makeClass 165 = .ok (.iaload, 1) := by decide +kernel
theorem dX13_makeClass_166 : decode cX13_makeClass 166 = .ok (.iload_n 1, 1) := by decide +kernel
theorem dX13_makeClass_167 : decode cX13_makeClass 167 = .ok (.if_icmp .ne 73, 3) := by decide +kernel
theorem dX13_makeClass_170 : decode cX13_makeClass 170 = .ok (.aload_n 0, 1) := by decide +kernel
theorem dX13_makeClass_171 : decode cX13_makeClass 171 = .ok (.getfield 74, 3) := by decide +kernel
theorem dX13_makeClass_174 : decode cX13_makeClass 174 = .ok (.iload 4, 2) := by decide +kernel
theorem dX13_makeClass_176 : decode cX13_makeClass 176 = .ok (.iaload, 1) := by decide +kernel
theorem dX13_makeClass_177 : decode cX13_makeClass 177 = .ok (.ifCond .le 7, 3) := by decide +kernel
theorem dX13_makeClass_180 : decode cX13_makeClass 180 = .ok (.iconst 1, 1) := by decide +kernel
theorem dX13_makeClass_181 : decode cX13_makeClass 181 = .ok (.goto 4, 3) := by decide +kernel
theorem dX13_makeClass_184 : decode cX13_makeClass 184 = .ok (.iconst 0, 1) := by decide +kernel
theorem dX13_makeClass_185 : decode cX13_makeClass 185 = .ok (.iload_n 2, 1) := by decide +kernel
theorem dX13_makeClass_186 : decode cX13_makeClass 186 = .ok (.iconst 1, 1) := by decide +kernel
theorem dX13_makeClass_187 : decode cX13_makeClass 187 = .ok (.if_icmp .ne 7, 3) := by decide +kernel
theorem dX13_makeClass_190 : decode cX13_makeClass 190 = .ok (.iconst 1, 1) := by decide +kernel
theorem dX13_makeClass_191 : decode cX13_makeClass 191 = .ok (.goto 4, 3) := by decide +kernel
theorem dX13_makeClass_194 : decode cX13_makeClass 194 = .ok (.iconst 0, 1) := by decide +kernel
theorem dX13_makeClass_195 : decode cX13_makeClass 195 = .ok (.if_icmp .eq 6, 3) := by decide +kernel
theorem dX13_makeClass_198 : decode cX13_makeClass 198 = .ok (.goto 42, 3) := by decide +kernel
theorem dX13_makeClass_201 : decode cX13_makeClass 201 = .ok (.iload_n 2, 1) := by decide +kernel
theorem dX13_makeClass_202 : decode cX13_makeClass 202 = .ok (.iconst 1, 1) := by decide +kernel
theorem dX13_makeClass_203 : decode cX13_makeClass 203 = .ok (.if_icmp .ne 12, 3) := by decide +kernel
theorem dX13_makeClass_206 : decode cX13_makeClass 206 = .ok (.aload_n 0, 1) := by decide +kernel
theorem dX13_makeClass_207 : decode cX13_makeClass 207 = .ok (.iload 4, 2) := by decide +kernel
theorem dX13_makeClass_209 : decode cX13_makeClass 209 = .ok (.invokevirtual 740, 3) := by decide +kernel
theorem dX13_makeClass_212 : decode cX13_makeClass 212 = .ok (.goto 28, 3) := by decide +kernel
theorem dX13_makeClass_215 : decode cX13_makeClass 215 = .ok (.aload_n 0, 1) := by decide +kernel
theorem dX13_makeClass_216 : decode cX13_makeClass 216 = .ok (.aload_n 0, 1) := by decide +kernel
theorem dX13_makeClass_217 : decode cX13_makeClass 217 = .ok (.aload_n 0, 1) := by decide +kernel
theorem dX13_makeClass_218 : decode cX13_makeClass 218 = .ok (.getfield 86, 3) := by decide +kernel
theorem dX13_makeClass_221 : decode cX13_makeClass 221 = .ok (.iload 4, 2) := by decide +kernel
theorem dX13_makeClass_223 : decode cX13_makeClass 223 = .ok (.iaload, 1) := by decide +kernel
theorem dX13_makeClass_224 : decode cX13_makeClass 224 = .ok (.invokevirtual 621, 3) := by decide +kernel
theorem dX13_makeClass_227 : decode cX13_makeClass 227 = .ok (.invokevirtual 731, 3) := by decide +kernel
theorem dX13_makeClass_230 : decode cX13_makeClass 230 = .ok (.aload_n 0, 1) := by decide +kernel
theorem dX13_makeClass_231 : decode cX13_makeClass 231 = .ok (.aload_n 0, 1) := by decide +kernel
theorem dX13_makeClass_232 : decode cX13_makeClass 232 = .ok (.iload 4, 2) := by decide +kernel
theorem dX13_makeClass_234 : decode cX13_makeClass 234 = .ok (.invokevirtual 624, 3) := by decide +kernel
theorem dX13_makeClass_237 : decode cX13_makeClass 237 = .ok (.invokevirtual 731, 3) := by decide +kernel
theorem dX13_makeClass_240 : decode cX13_makeClass 240 = .ok (.iinc 4 1, 3) := by decide +kernel
theorem dX13_makeClass_243 : decode cX13_makeClass 243 = .ok (.goto (-100), 3) := by decide +kernel
theorem dX13_makeClass_246 : decode cX13_makeClass 246 = .ok (.iinc 2 1, 3) := by decide +kernel
theorem dX13_makeClass_249 : decode cX13_makeClass 249 = .ok (.goto (-181), 3) := by decide +kernel
theorem dX13_makeClass_252 : decode cX13_makeClass 252 = .ok (.iconst 3, 1) := by decide +kernel
theorem dX13_makeClass_253 : decode cX13_makeClass 253 = .ok (.aload_n 0, 1) := by decide +kernel
theorem dX13_makeClass_254 : decode cX13_makeClass 254 = .ok (.getfield 728, 3) := by decide +kernel
theorem dX13_makeClass_257 : decode cX13_makeClass 257 = .ok (.iadd, 1) := by decide +kernel
theorem dX13_makeClass_258 : decode cX13_makeClass 258 = .ok (.istore_n 2, 1) := by decide +kernel
theorem dX13_makeClass_259 : decode cX13_makeClass 259 = .ok (.iconst 1, 1) := by decide +kernel
theorem dX13_makeClass_260 : decode cX13_makeClass 260 = .ok (.istore_n 3, 1) := by decide +kernel
theorem dX13_makeClass_261 : decode cX13_makeClass 261 = .ok (.iload_n 3, 1) := by decide +kernel
theorem dX13_makeClass_262 : decode cX13_makeClass 262 = .ok (.aload_n 0, 1) := by decide +kernel
theorem dX13_makeClass_263 : decode cX13_makeClass 263 = .ok (.getfield 602, 3) := by decide +kernel
theorem dX13_makeClass_266 : decode cX13_makeClass 266 = .ok (.if_icmp .gt 62, 3) := by decide +kernel
theorem dX13_makeClass_269 : decode cX13_makeClass 269 = .ok (.iload_n 2, 1) := by decide +kernel
theorem dX13_makeClass_270 : decode cX13_makeClass 270 = .ok (.aload_n 0, 1) := by decide +kernel
theorem dX13_makeClass_271 : decode cX13_makeClass 271 = .ok (.getfield 128, 3) := by decide +kernel
theorem dX13_makeClass_274 : decode cX13_makeClass 274 = .ok (.iload_n 3, 1) := by decide +kernel
theorem dX13_makeClass_275 : decode cX13_makeClass 275 = .ok (.iaload, 1) := by decide +kernel
theorem dX13_makeClass_276 : decode cX13_makeClass 276 = .ok (.iconst 1, 1) := by decide +kernel
theorem dX13_makeClass_277 : decode cX13_makeClass 277 = .ok (.if_icmp .ne 14, 3) := by decide +kernel
theorem dX13_makeClass_280 : decode cX13_makeClass 280 = .ok (.iconst 2, 1) := by decide +kernel
theorem dX13_makeClass_281 : decode cX13_makeClass 281 = .ok (.aload_n 0, 1) := by decide +kernel
theorem dX13_makeClass_282 : decode cX13_makeClass 282 = .ok (.getfield 134, 3) := by decide +kernel
theorem dX13_makeClass_285 : decode cX13_makeClass 285 = .ok (.iload_n 3, 1) := by decide +kernel
theorem dX13_makeClass_286 : decode cX13_makeClass 286 = .ok (.iaload, 1) := by decide +kernel
theorem dX13_makeClass_287 : decode cX13_makeClass 287 = .ok (.iadd, 1) := by decide +kernel
theorem dX13_makeClass_288 : decode cX13_makeClass 288 = .ok (.goto 32, 3) := by decide +kernel
theorem dX13_makeClass_291 : decode cX13_makeClass 291 = .ok (.aload_n 0, 1) := by decide +kernel
theorem dX13_makeClass_292 : decode cX13_makeClass 292 = .ok (.getfield 128, 3) := by decide +kernel
theorem dX13_makeClass_295 : decode cX13_makeClass 295 = .ok (.iload_n 3, 1) := by decide +kernel
theorem dX13_makeClass_296 : decode cX13_makeClass 296 = .ok (.iaload, 1) := by decide +kernel
theorem dX13_makeClass_297 : decode cX13_makeClass 297 = .ok (.iconst 2, 1) := by decide +kernel
theorem dX13_makeClass_298 : decode cX13_makeClass 298 = .ok (.if_icmp .ne 7, 3) := by decide +kernel
theorem dX13_makeClass_301 : decode cX13_makeClass 301 = .ok (.iconst 5, 1) := by decide +kernel
theorem dX13_makeClass_302 : decode cX13_makeClass 302 = .ok (.goto 18, 3) := by decide +kernel
theorem dX13_makeClass_305 : decode cX13_makeClass 305 = .ok (.aload_n 0, 1) := by decide +kernel
theorem dX13_makeClass_306 : decode cX13_makeClass 306 = .ok (.getfield 128, 3) := by decide +kernel
theorem dX13_makeClass_309 : decode cX13_makeClass 309 = .ok (.iload_n 3, 1) := by decide +kernel
theorem dX13_makeClass_310 : decode cX13_makeClass 310 = .ok (.iaload, 1) := by decide +kernel
theorem dX13_makeClass_311 : decode cX13_makeClass 311 = .ok (.iconst 3, 1) := by decide +kernel
theorem dX13_makeClass_312 : decode cX13_makeClass 312 = .ok (.if_icmp .ne 7, 3) := by decide +kernel
theorem dX13_makeClass_315 : decode cX13_makeClass 315 = .ok (.iconst 2, 1) := by decide +kernel
theorem dX13_makeClass_316 : decode cX13_makeClass 316 = .ok (.goto 4, 3) := by decide +kernel
theorem dX13_makeClass_319 : decode cX13_makeClass 319 = .ok (.iconst 4, 1) := by decide +kernel
theorem dX13_makeClass_320 : decode cX13_makeClass 320 = .ok (.iadd, 1) := by decide +kernel
theorem dX13_makeClass_321 : decode cX13_makeClass 321 = .ok (.istore_n 2, 1) := by decide +kernel
theorem dX13_makeClass_322 : decode cX13_makeClass 322 = .ok (.iinc 3 1, 3) := by decide +kernel
theorem dX13_makeClass_325 : decode cX13_makeClass 325 = .ok (.goto (-64), 3) := by decide +kernel
theorem dX13_makeClass_328 : decode cX13_makeClass 328 = .ok (.aload_n 0, 1) := by decide +kernel
theorem dX13_makeClass_329 : decode cX13_makeClass 329 = .ok (.getfield 319, 3) := by decide +kernel
theorem dX13_makeClass_332 : decode cX13_makeClass 332 = .ok (.ifCond .ne 32, 3) := by decide +kernel
theorem dX13_makeClass_335 : decode cX13_makeClass 335 = .ok (.aload_n 0, 1) := by decide +kernel
theorem dX13_makeClass_336 : decode cX13_makeClass 336 = .ok (.getfield 602, 3) := by decide +kernel
theorem dX13_makeClass_339 : decode cX13_makeClass 339 = .ok (.sipush 200, 3) := by decide +kernel
theorem dX13_makeClass_342 : decode cX13_makeClass 342 = .ok (.if_icmp .gt 10, 3) := by decide +kernel
theorem dX13_makeClass_345 : decode cX13_makeClass 345 = .ok (.iload_n 2, 1) := by decide +kernel
theorem dX13_makeClass_346 : decode cX13_makeClass 346 = .ok (.sipush 6000, 3) := by decide +kernel
theorem dX13_makeClass_349 : decode cX13_makeClass 349 = .ok (.if_icmp .le 15, 3) := by decide +kernel
theorem dX13_makeClass_352 : decode cX13_makeClass 352 = .ok (.aload_n 0, 1) := by decide +kernel
theorem dX13_makeClass_353 : decode cX13_makeClass 353 = .ok (.bipush 11, 2) := by decide +kernel
theorem dX13_makeClass_355 : decode cX13_makeClass 355 = .ok (.aload_n 0, 1) := by decide +kernel
theorem dX13_makeClass_356 : decode cX13_makeClass 356 = .ok (.getfield 62, 3) := by decide +kernel
theorem dX13_makeClass_359 : decode cX13_makeClass 359 = .ok (.iload_n 1, 1) := by decide +kernel
theorem dX13_makeClass_360 : decode cX13_makeClass 360 = .ok (.iaload, 1) := by decide +kernel
theorem dX13_makeClass_361 : decode cX13_makeClass 361 = .ok (.invokevirtual 379, 3) := by decide +kernel
theorem dX13_makeClass_364 : decode cX13_makeClass 364 = .ok (.aload_n 0, 1) := by decide +kernel
theorem dX13_makeClass_365 : decode cX13_makeClass 365 = .ok (.getfield 319, 3) := by decide +kernel
theorem dX13_makeClass_368 : decode cX13_makeClass 368 = .ok (.ifCond .eq 4, 3) := by decide +kernel
theorem dX13_makeClass_371 : decode cX13_makeClass 371 = .ok (.return_, 1) := by decide +kernel
theorem dX13_makeClass_372 : decode cX13_makeClass 372 = .ok (.sipush 6000, 3) := by decide +kernel
theorem dX13_makeClass_375 : decode cX13_makeClass 375 = .ok (.iload_n 1, 1) := by decide +kernel
theorem dX13_makeClass_376 : decode cX13_makeClass 376 = .ok (.imul, 1) := by decide +kernel
theorem dX13_makeClass_377 : decode cX13_makeClass 377 = .ok (.istore_n 3, 1) := by decide +kernel
theorem dX13_makeClass_378 : decode cX13_makeClass 378 = .ok (.aload_n 0, 1) := by decide +kernel
theorem dX13_makeClass_379 : decode cX13_makeClass 379 = .ok (.getfield 200, 3) := by decide +kernel
theorem dX13_makeClass_382 : decode cX13_makeClass 382 = .ok (.iload_n 3, 1) := by decide +kernel
theorem dX13_makeClass_383 : decode cX13_makeClass 383 = .ok (.bipush 74, 2) := by decide +kernel
theorem dX13_makeClass_385 : decode cX13_makeClass 385 = .ok (.iastore, 1) := by decide +kernel
theorem dX13_makeClass_386 : decode cX13_makeClass 386 = .ok (.aload_n 0, 1) := by decide +kernel
theorem dX13_makeClass_387 : decode cX13_makeClass 387 = .ok (.getfield 200, 3) := by decide +kernel
theorem dX13_makeClass_390 : decode cX13_makeClass 390 = .ok (.iload_n 3, 1) := by decide +kernel
theorem dX13_makeClass_391 : decode cX13_makeClass 391 = .ok (.iconst 1, 1) := by decide +kernel
theorem dX13_makeClass_392 : decode cX13_makeClass 392 = .ok (.iadd, 1) := by decide +kernel
theorem dX13_makeClass_393 : decode cX13_makeClass 393 = .ok (.bipush 77, 2) := by decide +kernel
theorem dX13_makeClass_395 : decode cX13_makeClass 395 = .ok (.iastore, 1) := by decide +kernel
theorem dX13_makeClass_396 : decode cX13_makeClass 396 = .ok (.aload_n 0, 1) := by decide +kernel
theorem dX13_makeClass_397 : decode cX13_makeClass 397 = .ok (.getfield 200, 3) := by decide +kernel
theorem dX13_makeClass_400 : decode cX13_makeClass 400 = .ok (.iload_n 3, 1) := by decide +kernel
theorem dX13_makeClass_401 : decode cX13_makeClass 401 = .ok (.iconst 2, 1) := by decide +kernel
theorem dX13_makeClass_402 : decode cX13_makeClass 402 = .ok (.iadd, 1) := by decide +kernel
theorem dX13_makeClass_403 : decode cX13_makeClass 403 = .ok (.aload_n 0, 1) := by decide +kernel
theorem dX13_makeClass_404 : decode cX13_makeClass 404 = .ok (.getfield 602, 3) := by decide +kernel
theorem dX13_makeClass_407 : decode cX13_makeClass 407 = .ok (.iastore, 1) := by decide +kernel
theorem dX13_makeClass_408 : decode cX13_makeClass 408 = .ok (.iinc 3 3, 3) := by decide +kernel
theorem dX13_makeClass_411 : decode cX13_makeClass 411 = .ok (.iconst 1, 1) := by decide +kernel
theorem dX13_makeClass_412 : decode cX13_makeClass 412 = .ok (.istore 4, 2) := by decide +kernel
theorem dX13_makeClass_414 : decode cX13_makeClass 414 = .ok (.iload 4, 2) := by decide +kernel
theorem dX13_makeClass_416 : decode cX13_makeClass 416 = .ok (.aload_n 0, 1) := by decide +kernel
theorem dX13_makeClass_417 : decode cX13_makeClass 417 = .ok (.getfield 602, 3) := by decide +kernel
theorem dX13_makeClass_420 : decode cX13_makeClass 420 = .ok (.if_icmp .gt 17, 3) := by decide +kernel
theorem dX13_makeClass_423 : decode cX13_makeClass 423 = .ok (.aload_n 0, 1) := by decide +kernel
theorem dX13_makeClass_424 : decode cX13_makeClass 424 = .ok (.iload 4, 2) := by decide +kernel
theorem dX13_makeClass_426 : decode cX13_makeClass 426 = .ok (.iload_n 3, 1) := by decide +kernel
theorem dX13_makeClass_427 : decode cX13_makeClass 427 = .ok (.invokevirtual 743, 3) := by decide +kernel
theorem dX13_makeClass_430 : decode cX13_makeClass 430 = .ok (.istore_n 3, 1) := by decide +kernel
theorem dX13_makeClass_431 : decode cX13_makeClass 431 = .ok (.iinc 4 1, 3) := by decide +kernel
theorem dX13_makeClass_434 : decode cX13_makeClass 434 = .ok (.goto (-20), 3) := by decide +kernel
theorem dX13_makeClass_437 : decode cX13_makeClass 437 = .ok (.iconst 0, 1) := by decide +kernel
theorem dX13_makeClass_438 : decode cX13_makeClass 438 = .ok (.istore 4, 2) := by decide +kernel
theorem dX13_makeClass_440 : decode cX13_makeClass 440 = .ok (.iload 4, 2) := by decide +kernel
theorem dX13_makeClass_442 : decode cX13_makeClass 442 = .ok (.aload_n 0, 1) := by decide +kernel
theorem dX13_makeClass_443 : decode cX13_makeClass 443 = .ok (.getfield 728, 3) := by decide +kernel
theorem dX13_makeClass_446 : decode cX13_makeClass 446 = .ok (.if_icmp .ge 25, 3) := by decide +kernel
theorem dX13_makeClass_449 : decode cX13_makeClass 449 = .ok (.aload_n 0, 1) := by decide +kernel
theorem dX13_makeClass_450 : decode cX13_makeClass 450 = .ok (.getfield 200, 3) := by decide +kernel
theorem dX13_makeClass_453 : decode cX13_makeClass 453 = .ok (.iload_n 3, 1) := by decide +kernel
theorem dX13_makeClass_454 : decode cX13_makeClass 454 = .ok (.iload 4, 2) := by decide +kernel
theorem dX13_makeClass_456 : decode cX13_makeClass 456 = .ok (.iadd, 1) := by decide +kernel
theorem dX13_makeClass_457 : decode cX13_makeClass 457 = .ok (.aload_n 0, 1) := by decide +kernel
theorem dX13_makeClass_458 : decode cX13_makeClass 458 = .ok (.getfield 206, 3) := by decide +kernel
theorem dX13_makeClass_461 : decode cX13_makeClass 461 = .ok (.iload 4, 2) := by decide +kernel
theorem dX13_makeClass_463 : decode cX13_makeClass 463 = .ok (.iaload, 1) := by decide +kernel
theorem dX13_makeClass_464 : decode cX13_makeClass 464 = .ok (.iastore, 1) := by decide +kernel
theorem dX13_makeClass_465 : decode cX13_makeClass 465 = .ok (.iinc 4 1, 3) := by decide +kernel
theorem dX13_makeClass_468 : decode cX13_makeClass 468 = .ok (.goto (-28), 3) := by decide +kernel
theorem dX13_makeClass_471 : decode cX13_makeClass 471 = .ok (.aload_n 0, 1) := by decide +kernel
theorem dX13_makeClass_472 : decode cX13_makeClass 472 = .ok (.getfield 203, 3) := by decide +kernel
theorem dX13_makeClass_475 : decode cX13_makeClass 475 = .ok (.iload_n 1, 1) := by decide +kernel
theorem dX13_makeClass_476 : decode cX13_makeClass 476 = .ok (.iload_n 2, 1) := by decide +kernel
theorem dX13_makeClass_477 : decode cX13_makeClass 477 = .ok (.iastore, 1) := by decide +kernel
theorem dX13_makeClass_478 : decode cX13_makeClass 478 = .ok (.return_, 1) := by decide +kernel
theorem mt_X13_isSign : mx_mt 393 = some (yX13_isSign, cX13_isSign, 3, (some .boolean)) := rfl
theorem dX13_isSign_0 : decode cX13_isSign 0 = .ok (.aload_n 0, 1) := by decide +kernel
theorem dX13_isSign_1 : decode cX13_isSign 1 = .ok (.getfield 16, 3) := by decide +kernel
theorem dX13_isSign_4 : decode cX13_isSign 4 = .ok (.iload_n 1, 1) := by decide +kernel
theorem dX13_isSign_5 : decode cX13_isSign 5 = .ok (.iaload, 1) := by decide +kernel
theorem dX13_isSign_6 : decode cX13_isSign 6 = .ok (.iconst 4, 1) := by decide +kernel
theorem dX13_isSign_7 : decode cX13_isSign 7 = .ok (.if_icmp .ne 17, 3) := by decide +kernel
theorem dX13_isSign_10 : decode cX13_isSign 10 = .ok (.aload_n 0, 1) := by decide +kernel
theorem dX13_isSign_11 : decode cX13_isSign 11 = .ok (.getfield 25, 3) := by decide +kernel
theorem dX13_isSign_14 : decode cX13_isSign 14 = .ok (.iload_n 1, 1) := by decide +kernel
theorem dX13_isSign_15 : decode cX13_isSign 15 = .ok (.iaload, 1) := by decide +kernel
theorem dX13_isSign_16 : decode cX13_isSign 16 = .ok (.iload_n 2, 1) := by decide +kernel
theorem dX13_isSign_17 : decode cX13_isSign 17 = .ok (.if_icmp .ne 7, 3) := by decide +kernel
theorem dX13_isSign_20 : decode cX13_isSign 20 = .ok (.iconst 1, 1) := by decide +kernel
theorem dX13_isSign_21 : decode cX13_isSign 21 = .ok (.goto 4, 3) := by decide +kernel
theorem dX13_isSign_24 : decode cX13_isSign 24 = .ok (.iconst 0, 1) := by decide +kernel
theorem dX13_isSign_25 : decode cX13_isSign 25 = .ok (.ireturn, 1) := by decide +kernel
theorem rs_RX13_373 : mx_res RX13 373 = some (0, 13, 22) := by decide +kernel
theorem ft_13_22 : mx_fty 13 22 = some (.int, false, "ClassMillModel") := by decide +kernel
theorem mt_X13_add : mx_mt 391 = some (yX13_add, cX13_add, 4, (some .int)) := rfl
theorem dX13_add_0 : decode cX13_add 0 = .ok (.aload_n 0, 1) := by decide +kernel
theorem dX13_add_1 : decode cX13_add 1 = .ok (.getfield 28, 3) := by decide +kernel
theorem dX13_add_4 : decode cX13_add 4 = .ok (.aload_n 0, 1) := by decide +kernel
theorem dX13_add_5 : decode cX13_add 5 = .ok (.getfield 373, 3) := by decide +kernel
theorem dX13_add_8 : decode cX13_add 8 = .ok (.iload_n 1, 1) := by decide +kernel
theorem dX13_add_9 : decode cX13_add 9 = .ok (.iastore, 1) := by decide +kernel
theorem dX13_add_10 : decode cX13_add 10 = .ok (.aload_n 0, 1) := by decide +kernel
theorem dX13_add_11 : decode cX13_add 11 = .ok (.getfield 31, 3) := by decide +kernel
theorem dX13_add_14 : decode cX13_add 14 = .ok (.aload_n 0, 1) := by decide +kernel
theorem dX13_add_15 : decode cX13_add 15 = .ok (.getfield 373, 3) := by decide +kernel
theorem dX13_add_18 : decode cX13_add 18 = .ok (.iload_n 2, 1) := by decide +kernel
theorem dX13_add_19 : decode cX13_add 19 = .ok (.iastore, 1) := by decide +kernel
theorem dX13_add_20 : decode cX13_add 20 = .ok (.aload_n 0, 1) := by decide +kernel
theorem dX13_add_21 : decode cX13_add 21 = .ok (.getfield 34, 3) := by decide +kernel
theorem dX13_add_24 : decode cX13_add 24 = .ok (.aload_n 0, 1) := by decide +kernel
theorem dX13_add_25 : decode cX13_add 25 = .ok (.getfield 373, 3) := by decide +kernel
theorem dX13_add_28 : decode cX13_add 28 = .ok (.iload_n 3, 1) := by decide +kernel
theorem dX13_add_29 : decode cX13_add 29 = .ok (.iastore, 1) := by decide +kernel
theorem dX13_add_30 : decode cX13_add 30 = .ok (.aload_n 0, 1) := by decide +kernel
theorem dX13_add_31 : decode cX13_add 31 = .ok (.getfield 37, 3) := by decide +kernel
theorem dX13_add_34 : decode cX13_add 34 = .ok (.aload_n 0, 1) := by decide +kernel
theorem dX13_add_35 : decode cX13_add 35 = .ok (.getfield 373, 3) := by decide +kernel
theorem dX13_add_38 : decode cX13_add 38 = .ok (.iconst (-1), 1) := by decide +kernel
theorem dX13_add_39 : decode cX13_add 39 = .ok (.iastore, 1) := by decide +kernel
theorem dX13_add_40 : decode cX13_add 40 = .ok (.aload_n 0, 1) := by decide +kernel
theorem dX13_add_41 : decode cX13_add 41 = .ok (.getfield 40, 3) := by decide +kernel
theorem dX13_add_44 : decode cX13_add 44 = .ok (.aload_n 0, 1) := by decide +kernel
theorem dX13_add_45 : decode cX13_add 45 = .ok (.getfield 373, 3) := by decide +kernel
theorem dX13_add_48 : decode cX13_add 48 = .ok (.iconst (-1), 1) := by decide +kernel
theorem dX13_add_49 : decode cX13_add 49 = .ok (.iastore, 1) := by decide +kernel
theorem dX13_add_50 : decode cX13_add 50 = .ok (.aload_n 0, 1) := by decide +kernel
theorem dX13_add_51 : decode cX13_add 51 = .ok (.getfield 43, 3) := by decide +kernel
theorem dX13_add_54 : decode cX13_add 54 = .ok (.aload_n 0, 1) := by decide +kernel
theorem dX13_add_55 : decode cX13_add 55 = .ok (.getfield 373, 3) := by decide +kernel
theorem dX13_add_58 : decode cX13_add 58 = .ok (.iconst (-1), 1) := by decide +kernel
theorem dX13_add_59 : decode cX13_add 59 = .ok (.iastore, 1) := by decide +kernel
theorem dX13_add_60 : decode cX13_add 60 = .ok (.aload_n 0, 1) := by decide +kernel
theorem dX13_add_61 : decode cX13_add 61 = .ok (.getfield 46, 3) := by decide +kernel
theorem dX13_add_64 : decode cX13_add 64 = .ok (.aload_n 0, 1) := by decide +kernel
theorem dX13_add_65 : decode cX13_add 65 = .ok (.getfield 373, 3) := by decide +kernel
theorem dX13_add_68 : decode cX13_add 68 = .ok (.iconst (-1), 1) := by decide +kernel
theorem dX13_add_69 : decode cX13_add 69 = .ok (.iastore, 1) := by decide +kernel
theorem dX13_add_70 : decode cX13_add 70 = .ok (.aload_n 0, 1) := by decide +kernel
theorem dX13_add_71 : decode cX13_add 71 = .ok (.getfield 49, 3) := by decide +kernel
theorem dX13_add_74 : decode cX13_add 74 = .ok (.aload_n 0, 1) := by decide +kernel
theorem dX13_add_75 : decode cX13_add 75 = .ok (.getfield 373, 3) := by decide +kernel
theorem dX13_add_78 : decode cX13_add 78 = .ok (.iconst 0, 1) := by decide +kernel
theorem dX13_add_79 : decode cX13_add 79 = .ok (.iastore, 1) := by decide +kernel
theorem dX13_add_80 : decode cX13_add 80 = .ok (.aload_n 0, 1) := by decide +kernel
theorem dX13_add_81 : decode cX13_add 81 = .ok (.getfield 52, 3) := by decide +kernel
theorem dX13_add_84 : decode cX13_add 84 = .ok (.aload_n 0, 1) := by decide +kernel
theorem dX13_add_85 : decode cX13_add 85 = .ok (.getfield 373, 3) := by decide +kernel
theorem dX13_add_88 : decode cX13_add 88 = .ok (.iconst 0, 1) := by decide +kernel
theorem dX13_add_89 : decode cX13_add 89 = .ok (.iastore, 1) := by decide +kernel
theorem dX13_add_90 : decode cX13_add 90 = .ok (.aload_n 0, 1) := by decide +kernel
theorem dX13_add_91 : decode cX13_add 91 = .ok (.getfield 55, 3) := by decide +kernel
theorem dX13_add_94 : decode cX13_add 94 = .ok (.aload_n 0, 1) := by decide +kernel
theorem dX13_add_95 : decode cX13_add 95 = .ok (.getfield 373, 3) := by decide +kernel
theorem dX13_add_98 : decode cX13_add 98 = .ok (.iconst 0, 1) := by decide +kernel
theorem dX13_add_99 : decode cX13_add 99 = .ok (.iastore, 1) := by decide +kernel
theorem dX13_add_100 : decode cX13_add 100 = .ok (.aload_n 0, 1) := by decide +kernel
theorem dX13_add_101 : decode cX13_add 101 = .ok (.getfield 58, 3) := by decide +kernel
theorem dX13_add_104 : decode cX13_add 104 = .ok (.aload_n 0, 1) := by decide +kernel
theorem dX13_add_105 : decode cX13_add 105 = .ok (.getfield 373, 3) := by decide +kernel
theorem dX13_add_108 : decode cX13_add 108 = .ok (.iconst 0, 1) := by decide +kernel
theorem dX13_add_109 : decode cX13_add 109 = .ok (.bastore, 1) := by decide +kernel
theorem dX13_add_110 : decode cX13_add 110 = .ok (.aload_n 0, 1) := by decide +kernel
theorem dX13_add_111 : decode cX13_add 111 = .ok (.dup, 1) := by decide +kernel
theorem dX13_add_112 : decode cX13_add 112 = .ok (.getfield 373, 3) := by decide +kernel
theorem dX13_add_115 : decode cX13_add 115 = .ok (.iconst 1, 1) := by decide +kernel
theorem dX13_add_116 : decode cX13_add 116 = .ok (.iadd, 1) := by decide +kernel
theorem dX13_add_117 : decode cX13_add 117 = .ok (.putfield 373, 3) := by decide +kernel
theorem dX13_add_120 : decode cX13_add 120 = .ok (.aload_n 0, 1) := by decide +kernel
theorem dX13_add_121 : decode cX13_add 121 = .ok (.getfield 373, 3) := by decide +kernel
theorem dX13_add_124 : decode cX13_add 124 = .ok (.iconst 1, 1) := by decide +kernel
theorem dX13_add_125 : decode cX13_add 125 = .ok (.isub, 1) := by decide +kernel
theorem dX13_add_126 : decode cX13_add 126 = .ok (.ireturn, 1) := by decide +kernel
theorem rs_RX13_376 : mx_res RX13 376 = some (0, 13, 23) := by decide +kernel
theorem mt_X13_misplaced : mx_mt 395 = some (yX13_misplaced, cX13_misplaced, 1, none) := rfl
theorem dX13_misplaced_0 : decode cX13_misplaced 0 = .ok (.aload_n 0, 1) := by decide +kernel
theorem dX13_misplaced_1 : decode cX13_misplaced 1 = .ok (.aload_n 0, 1) := by decide +kernel
theorem dX13_misplaced_2 : decode cX13_misplaced 2 = .ok (.getfield 16, 3) := by decide +kernel
theorem dX13_misplaced_5 : decode cX13_misplaced 5 = .ok (.aload_n 0, 1) := by decide +kernel
theorem dX13_misplaced_6 : decode cX13_misplaced 6 = .ok (.getfield 376, 3) := by decide +kernel
theorem dX13_misplaced_9 : decode cX13_misplaced 9 = .ok (.iaload, 1) := by decide +kernel
theorem dX13_misplaced_10 : decode cX13_misplaced 10 = .ok (.bipush 6, 2) := by decide +kernel
theorem dX13_misplaced_12 : decode cX13_misplaced 12 = .ok (.if_icmp .ne 7, 3) := by decide +kernel
theorem dX13_misplaced_15 : decode cX13_misplaced 15 = .ok (.iconst 1, 1) := by decide +kernel
theorem dX13_misplaced_16 : decode cX13_misplaced 16 = .ok (.goto 4, 3) := by decide +kernel
theorem dX13_misplaced_19 : decode cX13_misplaced 19 = .ok (.iconst 2, 1) := by decide +kernel
theorem dX13_misplaced_20 : decode cX13_misplaced 20 = .ok (.aload_n 0, 1) := by decide +kernel
theorem dX13_misplaced_21 : decode cX13_misplaced 21 = .ok (.getfield 376, 3) := by decide +kernel
theorem dX13_misplaced_24 : decode cX13_misplaced 24 = .ok (.invokevirtual 379, 3) := by decide +kernel
theorem dX13_misplaced_27 : decode cX13_misplaced 27 = .ok (.return_, 1) := by decide +kernel
theorem rs_RX13_383 : mx_res RX13 383 = some (1, 393, 2) := by decide +kernel
theorem rs_RX13_387 : mx_res RX13 387 = some (1, 395, 0) := by decide +kernel
theorem ft_13_23 : mx_fty 13 23 = some (.int, false, "ClassMillModel") := by decide +kernel
theorem mt_X13_sign_ : mx_mt 396 = some (yX13_sign_, cX13_sign_, 2, none) := rfl
theorem dX13_sign__0 : decode cX13_sign_ 0 = .ok (.aload_n 0, 1) := by decide +kernel
theorem dX13_sign__1 : decode cX13_sign_ 1 = .ok (.getfield 319, 3) := by decide +kernel
theorem dX13_sign__4 : decode cX13_sign_ 4 = .ok (.ifCond .eq 4, 3) := by decide +kernel
theorem dX13_sign__7 : decode cX13_sign_ 7 = .ok (.return_, 1) := by decide +kernel
theorem dX13_sign__8 : decode cX13_sign_ 8 = .ok (.aload_n 0, 1) := by decide +kernel
theorem dX13_sign__9 : decode cX13_sign_ 9 = .ok (.aload_n 0, 1) := by decide +kernel
theorem dX13_sign__10 : decode cX13_sign_ 10 = .ok (.getfield 376, 3) := by decide +kernel
theorem dX13_sign__13 : decode cX13_sign_ 13 = .ok (.iload_n 1, 1) := by decide +kernel
theorem dX13_sign__14 : decode cX13_sign_ 14 = .ok (.invokevirtual 383, 3) := by decide +kernel
theorem dX13_sign__17 : decode cX13_sign_ 17 = .ok (.ifCond .eq 16, 3) := by decide +kernel
theorem dX13_sign__20 : decode cX13_sign_ 20 = .ok (.aload_n 0, 1) := by decide +kernel
theorem dX13_sign__21 : decode cX13_sign_ 21 = .ok (.dup, 1) := by decide +kernel
theorem dX13_sign__22 : decode cX13_sign_ 22 = .ok (.getfield 376, 3) := by decide +kernel
theorem dX13_sign__25 : decode cX13_sign_ 25 = .ok (.iconst 1, 1) := by decide +kernel
theorem dX13_sign__26 : decode cX13_sign_ 26 = .ok (.iadd, 1) := by decide +kernel
theorem dX13_sign__27 : decode cX13_sign_ 27 = .ok (.putfield 376, 3) := by decide +kernel
theorem dX13_sign__30 : decode cX13_sign_ 30 = .ok (.goto 7, 3) := by decide +kernel
theorem dX13_sign__33 : decode cX13_sign_ 33 = .ok (.aload_n 0, 1) := by decide +kernel
theorem dX13_sign__34 : decode cX13_sign_ 34 = .ok (.invokevirtual 387, 3) := by decide +kernel
theorem dX13_sign__37 : decode cX13_sign_ 37 = .ok (.return_, 1) := by decide +kernel
theorem mt_X13_isDeep : mx_mt 399 = some (yX13_isDeep, cX13_isDeep, 2, (some .boolean)) := rfl
theorem dX13_isDeep_0 : decode cX13_isDeep 0 = .ok (.aload_n 0, 1) := by decide +kernel
theorem dX13_isDeep_1 : decode cX13_isDeep 1 = .ok (.getfield 319, 3) := by decide +kernel
theorem dX13_isDeep_4 : decode cX13_isDeep 4 = .ok (.ifCond .eq 5, 3) := by decide +kernel
theorem dX13_isDeep_7 : decode cX13_isDeep 7 = .ok (.iconst 1, 1) := by decide +kernel
theorem dX13_isDeep_8 : decode cX13_isDeep 8 = .ok (.ireturn, 1) := by decide +kernel
theorem dX13_isDeep_9 : decode cX13_isDeep 9 = .ok (.iload_n 1, 1) := by decide +kernel
theorem dX13_isDeep_10 : decode cX13_isDeep 10 = .ok (.bipush 40, 2) := by decide +kernel
theorem dX13_isDeep_12 : decode cX13_isDeep 12 = .ok (.if_icmp .ge 5, 3) := by decide +kernel
theorem dX13_isDeep_15 : decode cX13_isDeep 15 = .ok (.iconst 0, 1) := by decide +kernel
theorem dX13_isDeep_16 : decode cX13_isDeep 16 = .ok (.ireturn, 1) := by decide +kernel
theorem dX13_isDeep_17 : decode cX13_isDeep 17 = .ok (.aload_n 0, 1) := by decide +kernel
theorem dX13_isDeep_18 : decode cX13_isDeep 18 = .ok (.aload_n 0, 1) := by decide +kernel
theorem dX13_isDeep_19 : decode cX13_isDeep 19 = .ok (.getfield 16, 3) := by decide +kernel
theorem dX13_isDeep_22 : decode cX13_isDeep 22 = .ok (.aload_n 0, 1) := by decide +kernel
theorem dX13_isDeep_23 : decode cX13_isDeep 23 = .ok (.getfield 376, 3) := by decide +kernel
theorem dX13_isDeep_26 : decode cX13_isDeep 26 = .ok (.iaload, 1) := by decide +kernel
theorem dX13_isDeep_27 : decode cX13_isDeep 27 = .ok (.bipush 6, 2) := by decide +kernel
theorem dX13_isDeep_29 : decode cX13_isDeep 29 = .ok (.if_icmp .ne 7, 3) := by decide +kernel
theorem dX13_isDeep_32 : decode cX13_isDeep 32 = .ok (.iconst 1, 1) := by decide +kernel
theorem dX13_isDeep_33 : decode cX13_isDeep 33 = .ok (.goto 4, 3) := by decide +kernel
theorem dX13_isDeep_36 : decode cX13_isDeep 36 = .ok (.iconst 3, 1) := by decide +kernel
theorem dX13_isDeep_37 : decode cX13_isDeep 37 = .ok (.aload_n 0, 1) := by decide +kernel
theorem dX13_isDeep_38 : decode cX13_isDeep 38 = .ok (.getfield 376, 3) := by decide +kernel
theorem dX13_isDeep_41 : decode cX13_isDeep 41 = .ok (.invokevirtual 379, 3) := by decide +kernel
theorem dX13_isDeep_44 : decode cX13_isDeep 44 = .ok (.iconst 1, 1) := by decide +kernel
theorem dX13_isDeep_45 : decode cX13_isDeep 45 = .ok (.ireturn, 1) := by decide +kernel
theorem mt_X13_name : mx_mt 398 = some (yX13_name, cX13_name, 1, (some .int)) := rfl
theorem dX13_name_0 : decode cX13_name 0 = .ok (.aload_n 0, 1) := by decide +kernel
theorem dX13_name_1 : decode cX13_name 1 = .ok (.getfield 319, 3) := by decide +kernel
theorem dX13_name_4 : decode cX13_name 4 = .ok (.ifCond .eq 5, 3) := by decide +kernel
theorem dX13_name_7 : decode cX13_name 7 = .ok (.iconst 0, 1) := by decide +kernel
theorem dX13_name_8 : decode cX13_name 8 = .ok (.ireturn, 1) := by decide +kernel
theorem dX13_name_9 : decode cX13_name 9 = .ok (.aload_n 0, 1) := by decide +kernel
theorem dX13_name_10 : decode cX13_name 10 = .ok (.getfield 16, 3) := by decide +kernel
theorem dX13_name_13 : decode cX13_name 13 = .ok (.aload_n 0, 1) := by decide +kernel
theorem dX13_name_14 : decode cX13_name 14 = .ok (.getfield 376, 3) := by decide +kernel
theorem dX13_name_17 : decode cX13_name 17 = .ok (.iaload, 1) := by decide +kernel
theorem dX13_name_18 : decode cX13_name 18 = .ok (.iconst 1, 1) := by decide +kernel
theorem dX13_name_19 : decode cX13_name 19 = .ok (.if_icmp .eq 9, 3) := by decide +kernel
theorem dX13_name_22 : decode cX13_name 22 = .ok (.aload_n 0, 1) := by decide +kernel
theorem dX13_name_23 : decode cX13_name 23 = .ok (.invokevirtual 387, 3) := by decide +kernel
theorem dX13_name_26 : decode cX13_name 26 = .ok (.iconst 0, 1) := by decide +kernel
theorem dX13_name_27 : decode cX13_name 27 = .ok (.ireturn, 1) := by decide +kernel
theorem dX13_name_28 : decode cX13_name 28 = .ok (.aload_n 0, 1) := by decide +kernel
theorem dX13_name_29 : decode cX13_name 29 = .ok (.dup, 1) := by decide +kernel
theorem dX13_name_30 : decode cX13_name 30 = .ok (.getfield 376, 3) := by decide +kernel
theorem dX13_name_33 : decode cX13_name 33 = .ok (.iconst 1, 1) := by decide +kernel
theorem dX13_name_34 : decode cX13_name 34 = .ok (.iadd, 1) := by decide +kernel
theorem dX13_name_35 : decode cX13_name 35 = .ok (.putfield 376, 3) := by decide +kernel
theorem dX13_name_38 : decode cX13_name 38 = .ok (.aload_n 0, 1) := by decide +kernel
theorem dX13_name_39 : decode cX13_name 39 = .ok (.getfield 376, 3) := by decide +kernel
theorem dX13_name_42 : decode cX13_name 42 = .ok (.iconst 1, 1) := by decide +kernel
theorem dX13_name_43 : decode cX13_name 43 = .ok (.isub, 1) := by decide +kernel
theorem dX13_name_44 : decode cX13_name 44 = .ok (.ireturn, 1) := by decide +kernel
theorem mt_X13_isCast : mx_mt 410 = some (yX13_isCast, cX13_isCast, 2, (some .boolean)) := rfl
theorem dX13_isCast_0 : decode cX13_isCast 0 = .ok (.aload_n 0, 1) := by decide +kernel
theorem dX13_isCast_1 : decode cX13_isCast 1 = .ok (.aload_n 0, 1) := by decide +kernel
theorem dX13_isCast_2 : decode cX13_isCast 2 = .ok (.getfield 376, 3) := by decide +kernel
theorem dX13_isCast_5 : decode cX13_isCast 5 = .ok (.bipush 40, 2) := by decide +kernel
theorem dX13_isCast_7 : decode cX13_isCast 7 = .ok (.invokevirtual 383, 3) := by decide +kernel
theorem dX13_isCast_10 : decode cX13_isCast 10 = .ok (.ifCond .eq 33, 3) := by decide +kernel
theorem dX13_isCast_13 : decode cX13_isCast 13 = .ok (.aload_n 0, 1) := by decide +kernel
theorem dX13_isCast_14 : decode cX13_isCast 14 = .ok (.getfield 16, 3) := by decide +kernel
theorem dX13_isCast_17 : decode cX13_isCast 17 = .ok (.aload_n 0, 1) := by decide +kernel
theorem dX13_isCast_18 : decode cX13_isCast 18 = .ok (.getfield 376, 3) := by decide +kernel
theorem dX13_isCast_21 : decode cX13_isCast 21 = .ok (.iconst 1, 1) := by decide +kernel
theorem dX13_isCast_22 : decode cX13_isCast 22 = .ok (.iadd, 1) := by decide +kernel
theorem dX13_isCast_23 : decode cX13_isCast 23 = .ok (.iaload, 1) := by decide +kernel
theorem dX13_isCast_24 : decode cX13_isCast 24 = .ok (.iconst 1, 1) := by decide +kernel
theorem dX13_isCast_25 : decode cX13_isCast 25 = .ok (.if_icmp .ne 18, 3) := by decide +kernel
theorem dX13_isCast_28 : decode cX13_isCast 28 = .ok (.aload_n 0, 1) := by decide +kernel
theorem dX13_isCast_29 : decode cX13_isCast 29 = .ok (.aload_n 0, 1) := by decide +kernel
theorem dX13_isCast_30 : decode cX13_isCast 30 = .ok (.getfield 376, 3) := by decide +kernel
theorem dX13_isCast_33 : decode cX13_isCast 33 = .ok (.iconst 2, 1) := by decide +kernel
theorem dX13_isCast_34 : decode cX13_isCast 34 = .ok (.iadd, 1) := by decide +kernel
theorem dX13_isCast_35 : decode cX13_isCast 35 = .ok (.bipush 41, 2) := by decide +kernel
theorem dX13_isCast_37 : decode cX13_isCast 37 = .ok (.invokevirtual 383, 3) := by decide +kernel
theorem dX13_isCast_40 : decode cX13_isCast 40 = .ok (.ifCond .ne 5, 3) := by decide +kernel
theorem dX13_isCast_43 : decode cX13_isCast 43 = .ok (.iconst 0, 1) := by decide +kernel
theorem dX13_isCast_44 : decode cX13_isCast 44 = .ok (.ireturn, 1) := by decide +kernel
theorem dX13_isCast_45 : decode cX13_isCast 45 = .ok (.aload_n 0, 1) := by decide +kernel
theorem dX13_isCast_46 : decode cX13_isCast 46 = .ok (.getfield 376, 3) := by decide +kernel
theorem dX13_isCast_49 : decode cX13_isCast 49 = .ok (.iconst 3, 1) := by decide +kernel
theorem dX13_isCast_50 : decode cX13_isCast 50 = .ok (.iadd, 1) := by decide +kernel
theorem dX13_isCast_51 : decode cX13_isCast 51 = .ok (.istore_n 1, 1) := by decide +kernel
theorem dX13_isCast_52 : decode cX13_isCast 52 = .ok (.aload_n 0, 1) := by decide +kernel
theorem dX13_isCast_53 : decode cX13_isCast 53 = .ok (.getfield 16, 3) := by decide +kernel
theorem dX13_isCast_56 : decode cX13_isCast 56 = .ok (.iload_n 1, 1) := by decide +kernel
theorem dX13_isCast_57 : decode cX13_isCast 57 = .ok (.iaload, 1) := by decide +kernel
theorem dX13_isCast_58 : decode cX13_isCast 58 = .ok (.iconst 1, 1) := by decide +kernel
theorem dX13_isCast_59 : decode cX13_isCast 59 = .ok (.if_icmp .eq 13, 3) := by decide +kernel
theorem dX13_isCast_62 : decode cX13_isCast 62 = .ok (.aload_n 0, 1) := by decide +kernel
theorem dX13_isCast_63 : decode cX13_isCast 63 = .ok (.getfield 16, 3) := by decide +kernel
theorem dX13_isCast_66 : decode cX13_isCast 66 = .ok (.iload_n 1, 1) := by decide +kernel
theorem dX13_isCast_67 : decode cX13_isCast 67 = .ok (.iaload, 1) := by decide +kernel
theorem dX13_isCast_68 : decode cX13_isCast 68 = .ok (.iconst 2, 1) := by decide +kernel
theorem dX13_isCast_69 : decode cX13_isCast 69 = .ok (.if_icmp .ne 5, 3) := by decide +kernel
theorem dX13_isCast_72 : decode cX13_isCast 72 = .ok (.iconst 1, 1) := by decide +kernel
theorem dX13_isCast_73 : decode cX13_isCast 73 = .ok (.ireturn, 1) := by decide +kernel
theorem dX13_isCast_74 : decode cX13_isCast 74 = .ok (.aload_n 0, 1) := by decide +kernel
theorem dX13_isCast_75 : decode cX13_isCast 75 = .ok (.iload_n 1, 1) := by decide +kernel
theorem dX13_isCast_76 : decode cX13_isCast 76 = .ok (.bipush 40, 2) := by decide +kernel
theorem dX13_isCast_78 : decode cX13_isCast 78 = .ok (.invokevirtual 383, 3) := by decide +kernel
theorem dX13_isCast_81 : decode cX13_isCast 81 = .ok (.ifCond .ne 73, 3) := by decide +kernel
theorem dX13_isCast_84 : decode cX13_isCast 84 = .ok (.aload_n 0, 1) := by decide +kernel
theorem dX13_isCast_85 : decode cX13_isCast 85 = .ok (.iload_n 1, 1) := by decide +kernel
theorem dX13_isCast_86 : decode cX13_isCast 86 = .ok (.bipush 33, 2) := by decide +kernel
theorem dX13_isCast_88 : decode cX13_isCast 88 = .ok (.invokevirtual 383, 3) := by decide +kernel
theorem dX13_isCast_91 : decode cX13_isCast 91 = .ok (.ifCond .ne 63, 3) := by decide +kernel
theorem dX13_isCast_94 : decode cX13_isCast 94 = .ok (.aload_n 0, 1) := by decide +kernel
theorem dX13_isCast_95 : decode cX13_isCast 95 = .ok (.iload_n 1, 1) := by decide +kernel
theorem dX13_isCast_96 : decode cX13_isCast 96 = .ok (.bipush 126, 2) := by decide +kernel
theorem dX13_isCast_98 : decode cX13_isCast 98 = .ok (.invokevirtual 383, 3) := by decide +kernel
theorem dX13_isCast_101 : decode cX13_isCast 101 = .ok (.ifCond .ne 53, 3) := by decide +kernel
theorem dX13_isCast_104 : decode cX13_isCast 104 = .ok (.aload_n 0, 1) := by decide +kernel
theorem dX13_isCast_105 : decode cX13_isCast 105 = .ok (.iload_n 1, 1) := by decide +kernel
theorem dX13_isCast_106 : decode cX13_isCast 106 = .ok (.bipush 16, 2) := by decide +kernel
theorem dX13_isCast_108 : decode cX13_isCast 108 = .ok (.invokevirtual 390, 3) := by decide +kernel
theorem dX13_isCast_111 : decode cX13_isCast 111 = .ok (.ifCond .ne 43, 3) := by decide +kernel
theorem dX13_isCast_114 : decode cX13_isCast 114 = .ok (.aload_n 0, 1) := by decide +kernel
theorem dX13_isCast_115 : decode cX13_isCast 115 = .ok (.iload_n 1, 1) := by decide +kernel
theorem dX13_isCast_116 : decode cX13_isCast 116 = .ok (.bipush 11, 2) := by decide +kernel
theorem dX13_isCast_118 : decode cX13_isCast 118 = .ok (.invokevirtual 390, 3) := by decide +kernel
theorem dX13_isCast_121 : decode cX13_isCast 121 = .ok (.ifCond .ne 33, 3) := by decide +kernel
theorem dX13_isCast_124 : decode cX13_isCast 124 = .ok (.aload_n 0, 1) := by decide +kernel
theorem dX13_isCast_125 : decode cX13_isCast 125 = .ok (.iload_n 1, 1) := by decide +kernel
theorem dX13_isCast_126 : decode cX13_isCast 126 = .ok (.bipush 12, 2) := by decide +kernel
theorem dX13_isCast_128 : decode cX13_isCast 128 = .ok (.invokevirtual 390, 3) := by decide +kernel
theorem dX13_isCast_131 : decode cX13_isCast 131 = .ok (.ifCond .ne 23, 3) := by decide +kernel
theorem dX13_isCast_134 : decode cX13_isCast 134 = .ok (.aload_n 0, 1) := by decide +kernel
theorem dX13_isCast_135 : decode cX13_isCast 135 = .ok (.iload_n 1, 1) := by decide +kernel
theorem dX13_isCast_136 : decode cX13_isCast 136 = .ok (.bipush 18, 2) := by decide +kernel
theorem dX13_isCast_138 : decode cX13_isCast 138 = .ok (.invokevirtual 390, 3) := by decide +kernel
theorem dX13_isCast_141 : decode cX13_isCast 141 = .ok (.ifCond .ne 13, 3) := by decide +kernel
theorem dX13_isCast_144 : decode cX13_isCast 144 = .ok (.aload_n 0, 1) := by decide +kernel
theorem dX13_isCast_145 : decode cX13_isCast 145 = .ok (.iload_n 1, 1) := by decide +kernel
theorem dX13_isCast_146 : decode cX13_isCast 146 = .ok (.bipush 7, 2) := by decide +kernel
theorem dX13_isCast_148 : decode cX13_isCast 148 = .ok (.invokevirtual 390, 3) := by decide +kernel
theorem dX13_isCast_151 : decode cX13_isCast 151 = .ok (.ifCond .eq 7, 3) := by decide +kernel
theorem dX13_isCast_154 : decode cX13_isCast 154 = .ok (.iconst 1, 1) := by decide +kernel
theorem dX13_isCast_155 : decode cX13_isCast 155 = .ok (.goto 4, 3) := by decide +kernel
theorem dX13_isCast_158 : decode cX13_isCast 158 = .ok (.iconst 0, 1) := by decide +kernel
theorem dX13_isCast_159 : decode cX13_isCast 159 = .ok (.ireturn, 1) := by decide +kernel
