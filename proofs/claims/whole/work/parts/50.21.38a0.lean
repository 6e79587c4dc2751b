theorem rs_RX13_734 : mx_res RX13 734 = some (1, 481, 1) := by decide +kernel
theorem rs_RX13_737 : mx_res RX13 737 = some (1, 483, 1) := by decide +kernel
theorem mt_X13_makeMethod : mx_mt 482 = some (yX13_makeMethod, cX13_makeMethod, 9, none) := rfl
theorem dX13_makeMethod_0 : decode cX13_makeMethod 0 = .ok (.aload_n 0, 1) := by decide +kernel
theorem dX13_makeMethod_1 : decode cX13_makeMethod 1 = .ok (.iload_n 1, 1) := by decide +kernel
theorem dX13_makeMethod_2 : decode cX13_makeMethod 2 = .ok (.putfield 516, 3) := by decide +kernel
theorem dX13_makeMethod_5 : decode cX13_makeMethod 5 = .ok (.aload_n 0, 1) := by decide +kernel
theorem dX13_makeMethod_6 : decode cX13_makeMethod 6 = .ok (.aload_n 0, 1) := by decide +kernel
theorem dX13_makeMethod_7 : decode cX13_makeMethod 7 = .ok (.getfield 74, 3) := by decide +kernel
theorem dX13_makeMethod_10 : decode cX13_makeMethod 10 = .ok (.iload_n 1, 1) := by decide +kernel
theorem dX13_makeMethod_11 : decode cX13_makeMethod 11 = .ok (.iaload, 1) := by decide +kernel
theorem dX13_makeMethod_12 : decode cX13_makeMethod 12 = .ok (.iconst 2, 1) := by decide +kernel
theorem dX13_makeMethod_13 : decode cX13_makeMethod 13 = .ok (.if_icmp .ne 7, 3) := by decide +kernel
theorem dX13_makeMethod_16 : decode cX13_makeMethod 16 = .ok (.iconst 1, 1) := by decide +kernel
theorem dX13_makeMethod_17 : decode cX13_makeMethod 17 = .ok (.goto 4, 3) := by decide +kernel
theorem dX13_makeMethod_20 : decode cX13_makeMethod 20 = .ok (.iconst 0, 1) := by decide +kernel
theorem dX13_makeMethod_21 : decode cX13_makeMethod 21 = .ok (.putfield 510, 3) := by decide +kernel
theorem dX13_makeMethod_24 : decode cX13_makeMethod 24 = .ok (.aload_n 0, 1) := by decide +kernel
theorem dX13_makeMethod_25 : decode cX13_makeMethod 25 = .ok (.iconst 0, 1) := by decide +kernel
theorem dX13_makeMethod_26 : decode cX13_makeMethod 26 = .ok (.putfield 513, 3) := by decide +kernel
theorem dX13_makeMethod_29 : decode cX13_makeMethod 29 = .ok (.aload_n 0, 1) := by decide +kernel
theorem dX13_makeMethod_30 : decode cX13_makeMethod 30 = .ok (.iconst 0, 1) := by decide +kernel
theorem dX13_makeMethod_31 : decode cX13_makeMethod 31 = .ok (.putfield 661, 3) := by decide +kernel
theorem dX13_makeMethod_34 : decode cX13_makeMethod 34 = .ok (.aload_n 0, 1) := by decide +kernel
theorem dX13_makeMethod_35 : decode cX13_makeMethod 35 = .ok (.iconst 0, 1) := by decide +kernel
theorem dX13_makeMethod_36 : decode cX13_makeMethod 36 = .ok (.putfield 522, 3) := by decide +kernel
theorem dX13_makeMethod_39 : decode cX13_makeMethod 39 = .ok (.aload_n 0, 1) := by decide +kernel
theorem dX13_makeMethod_40 : decode cX13_makeMethod 40 = .ok (.iconst 0, 1) := by decide +kernel
theorem dX13_makeMethod_41 : decode cX13_makeMethod 41 = .ok (.putfield 525, 3) := by decide +kernel
theorem dX13_makeMethod_44 : decode cX13_makeMethod 44 = .ok (.aload_n 0, 1) := by decide +kernel
theorem dX13_makeMethod_45 : decode cX13_makeMethod 45 = .ok (.iconst 0, 1) := by decide +kernel
theorem dX13_makeMethod_46 : decode cX13_makeMethod 46 = .ok (.putfield 627, 3) := by decide +kernel
theorem dX13_makeMethod_49 : decode cX13_makeMethod 49 = .ok (.aload_n 0, 1) := by decide +kernel
theorem dX13_makeMethod_50 : decode cX13_makeMethod 50 = .ok (.iconst 0, 1) := by decide +kernel
theorem dX13_makeMethod_51 : decode cX13_makeMethod 51 = .ok (.putfield 629, 3) := by decide +kernel
theorem dX13_makeMethod_54 : decode cX13_makeMethod 54 = .ok (.aload_n 0, 1) := by decide +kernel
theorem dX13_makeMethod_55 : decode cX13_makeMethod 55 = .ok (.iconst 0, 1) := by decide +kernel
theorem dX13_makeMethod_56 : decode cX13_makeMethod 56 = .ok (.putfield 632, 3) := by decide +kernel
theorem dX13_makeMethod_59 : decode cX13_makeMethod 59 = .ok (.aload_n 0, 1) := by decide +kernel
theorem dX13_makeMethod_60 : decode cX13_makeMethod 60 = .ok (.iconst 0, 1) := by decide +kernel
theorem dX13_makeMethod_61 : decode cX13_makeMethod 61 = .ok (.putfield 652, 3) := by decide +kernel
theorem dX13_makeMethod_64 : decode cX13_makeMethod 64 = .ok (.aload_n 0, 1) := by decide +kernel
theorem dX13_makeMethod_65 : decode cX13_makeMethod 65 = .ok (.iconst 0, 1) := by decide +kernel
theorem dX13_makeMethod_66 : decode cX13_makeMethod 66 = .ok (.putfield 655, 3) := by decide +kernel
theorem dX13_makeMethod_69 : decode cX13_makeMethod 69 = .ok (.aload_n 0, 1) := by decide +kernel
theorem dX13_makeMethod_70 : decode cX13_makeMethod 70 = .ok (.iconst 0, 1) := by decide +kernel
theorem dX13_makeMethod_71 : decode cX13_makeMethod 71 = .ok (.putfield 694, 3) := by decide +kernel
theorem dX13_makeMethod_74 : decode cX13_makeMethod 74 = .ok (.aload_n 0, 1) := by decide +kernel
theorem dX13_makeMethod_75 : decode cX13_makeMethod 75 = .ok (.iconst 0, 1) := by decide +kernel
theorem dX13_makeMethod_76 : decode cX13_makeMethod 76 = .ok (.putfield 643, 3) := by decide +kernel
theorem dX13_makeMethod_79 : decode cX13_makeMethod 79 = .ok (.iconst 0, 1) := by decide +kernel
theorem dX13_makeMethod_80 : decode cX13_makeMethod 80 = .ok (.istore_n 2, 1) := by decide +kernel
theorem dX13_makeMethod_81 : decode cX13_makeMethod 81 = .ok (.iload_n 2, 1) := by decide +kernel
theorem dX13_makeMethod_82 : decode cX13_makeMethod 82 = .ok (.aload_n 0, 1) := by decide +kernel
theorem dX13_makeMethod_83 : decode cX13_makeMethod 83 = .ok (.getfield 95, 3) := by decide +kernel
theorem dX13_makeMethod_86 : decode cX13_makeMethod 86 = .ok (.iload_n 1, 1) := by decide +kernel
theorem dX13_makeMethod_87 : decode cX13_makeMethod 87 = .ok (.iaload, 1) := by decide +kernel
theorem dX13_makeMethod_88 : decode cX13_makeMethod 88 = .ok (.if_icmp .ge 39, 3) := by decide +kernel
theorem dX13_makeMethod_91 : decode cX13_makeMethod 91 = .ok (.aload_n 0, 1) := by decide +kernel
theorem dX13_makeMethod_92 : decode cX13_makeMethod 92 = .ok (.aload_n 0, 1) := by decide +kernel
theorem dX13_makeMethod_93 : decode cX13_makeMethod 93 = .ok (.getfield 110, 3) := by decide +kernel
theorem dX13_makeMethod_96 : decode cX13_makeMethod 96 = .ok (.aload_n 0, 1) := by decide +kernel
theorem dX13_makeMethod_97 : decode cX13_makeMethod 97 = .ok (.getfield 92, 3) := by decide +kernel
theorem dX13_makeMethod_100 : decode cX13_makeMethod 100 = .ok (.iload_n 1, 1) := by decide +kernel
theorem dX13_makeMethod_101 : decode cX13_makeMethod 101 = .ok (.iaload, 1) := by decide +kernel
theorem dX13_makeMethod_102 : decode cX13_makeMethod 102 = .ok (.iload_n 2, 1) := by decide +kernel
theorem dX13_makeMethod_103 : decode cX13_makeMethod 103 = .ok (.iadd, 1) := by decide +kernel
theorem dX13_makeMethod_104 : decode cX13_makeMethod 104 = .ok (.iaload, 1) := by decide +kernel
theorem dX13_makeMethod_105 : decode cX13_makeMethod 105 = .ok (.aload_n 0, 1) := by decide +kernel
theorem dX13_makeMethod_106 : decode cX13_makeMethod 106 = .ok (.getfield 113, 3) := by decide +kernel
theorem dX13_makeMethod_109 : decode cX13_makeMethod 109 = .ok (.aload_n 0, 1) := by decide +kernel
theorem dX13_makeMethod_110 : decode cX13_makeMethod 110 = .ok (.getfield 92, 3) := by decide +kernel
theorem dX13_makeMethod_113 : decode cX13_makeMethod 113 = .ok (.iload_n 1, 1) := by decide +kernel
theorem dX13_makeMethod_114 : decode cX13_makeMethod 114 = .ok (.iaload, 1) := by decide +kernel
theorem dX13_makeMethod_115 : decode cX13_makeMethod 115 = .ok (.iload_n 2, 1) := by decide +kernel
theorem dX13_makeMethod_116 : decode cX13_makeMethod 116 = .ok (.iadd, 1) := by decide +kernel
theorem dX13_makeMethod_117 : decode cX13_makeMethod 117 = .ok (.iaload, 1) := by decide +kernel
theorem dX13_makeMethod_118 : decode cX13_makeMethod 118 = .ok (.invokevirtual 673, 3) := by decide +kernel
theorem dX13_makeMethod_121 : decode cX13_makeMethod 121 = .ok (.iinc 2 1, 3) := by decide +kernel
theorem dX13_makeMethod_124 : decode cX13_makeMethod 124 = .ok (.goto (-43), 3) := by decide +kernel
theorem dX13_makeMethod_127 : decode cX13_makeMethod 127 = .ok (.aload_n 0, 1) := by decide +kernel
theorem dX13_makeMethod_128 : decode cX13_makeMethod 128 = .ok (.aload_n 0, 1) := by decide +kernel
theorem dX13_makeMethod_129 : decode cX13_makeMethod 129 = .ok (.getfield 86, 3) := by decide +kernel
theorem dX13_makeMethod_132 : decode cX13_makeMethod 132 = .ok (.iload_n 1, 1) := by decide +kernel
theorem dX13_makeMethod_133 : decode cX13_makeMethod 133 = .ok (.iaload, 1) := by decide +kernel
theorem dX13_makeMethod_134 : decode cX13_makeMethod 134 = .ok (.invokevirtual 621, 3) := by decide +kernel
theorem dX13_makeMethod_137 : decode cX13_makeMethod 137 = .ok (.istore_n 2, 1) := by decide +kernel
theorem dX13_makeMethod_138 : decode cX13_makeMethod 138 = .ok (.aload_n 0, 1) := by decide +kernel
theorem dX13_makeMethod_139 : decode cX13_makeMethod 139 = .ok (.iload_n 1, 1) := by decide +kernel
theorem dX13_makeMethod_140 : decode cX13_makeMethod 140 = .ok (.invokevirtual 624, 3) := by decide +kernel
theorem dX13_makeMethod_143 : decode cX13_makeMethod 143 = .ok (.istore_n 3, 1) := by decide +kernel
theorem dX13_makeMethod_144 : decode cX13_makeMethod 144 = .ok (.aload_n 0, 1) := by decide +kernel
theorem dX13_makeMethod_145 : decode cX13_makeMethod 145 = .ok (.aload_n 0, 1) := by decide +kernel
theorem dX13_makeMethod_146 : decode cX13_makeMethod 146 = .ok (.getfield 98, 3) := by decide +kernel
theorem dX13_makeMethod_149 : decode cX13_makeMethod 149 = .ok (.iload_n 1, 1) := by decide +kernel
theorem dX13_makeMethod_150 : decode cX13_makeMethod 150 = .ok (.iaload, 1) := by decide +kernel
theorem dX13_makeMethod_151 : decode cX13_makeMethod 151 = .ok (.invokevirtual 664, 3) := by decide +kernel
theorem dX13_makeMethod_154 : decode cX13_makeMethod 154 = .ok (.ifCond .eq 10, 3) := by decide +kernel
theorem dX13_makeMethod_157 : decode cX13_makeMethod 157 = .ok (.aload_n 0, 1) := by decide +kernel
theorem dX13_makeMethod_158 : decode cX13_makeMethod 158 = .ok (.sipush 177, 3) := by decide +kernel
theorem dX13_makeMethod_161 : decode cX13_makeMethod 161 = .ok (.invokevirtual 646, 3) := by decide +kernel
theorem dX13_makeMethod_164 : decode cX13_makeMethod 164 = .ok (.aload_n 0, 1) := by decide +kernel
theorem dX13_makeMethod_165 : decode cX13_makeMethod 165 = .ok (.getfield 661, 3) := by decide +kernel
theorem dX13_makeMethod_168 : decode cX13_makeMethod 168 = .ok (.aload_n 0, 1) := by decide +kernel
theorem dX13_makeMethod_169 : decode cX13_makeMethod 169 = .ok (.getfield 510, 3) := by decide +kernel
theorem dX13_makeMethod_172 : decode cX13_makeMethod 172 = .ok (.ifCond .eq 7, 3) := by decide +kernel
theorem dX13_makeMethod_175 : decode cX13_makeMethod 175 = .ok (.iconst 0, 1) := by decide +kernel
theorem dX13_makeMethod_176 : decode cX13_makeMethod 176 = .ok (.goto 4, 3) := by decide +kernel
theorem dX13_makeMethod_179 : decode cX13_makeMethod 179 = .ok (.iconst 1, 1) := by decide +kernel
theorem dX13_makeMethod_180 : decode cX13_makeMethod 180 = .ok (.iadd, 1) := by decide +kernel
theorem dX13_makeMethod_181 : decode cX13_makeMethod 181 = .ok (.istore 4, 2) := by decide +kernel
theorem dX13_makeMethod_183 : decode cX13_makeMethod 183 = .ok (.iload 4, 2) := by decide +kernel
theorem dX13_makeMethod_185 : decode cX13_makeMethod 185 = .ok (.bipush 30, 2) := by decide +kernel
theorem dX13_makeMethod_187 : decode cX13_makeMethod 187 = .ok (.if_icmp .gt 40, 3) := by decide +kernel
theorem dX13_makeMethod_190 : decode cX13_makeMethod 190 = .ok (.aload_n 0, 1) := by decide +kernel
theorem dX13_makeMethod_191 : decode cX13_makeMethod 191 = .ok (.getfield 632, 3) := by decide +kernel
theorem dX13_makeMethod_194 : decode cX13_makeMethod 194 = .ok (.bipush 20, 2) := by decide +kernel
theorem dX13_makeMethod_196 : decode cX13_makeMethod 196 = .ok (.if_icmp .gt 31, 3) := by decide +kernel
theorem dX13_makeMethod_199 : decode cX13_makeMethod 199 = .ok (.aload_n 0, 1) := by decide +kernel
theorem dX13_makeMethod_200 : decode cX13_makeMethod 200 = .ok (.getfield 627, 3) := by decide +kernel
theorem dX13_makeMethod_203 : decode cX13_makeMethod 203 = .ok (.sipush 1500, 3) := by decide +kernel
theorem dX13_makeMethod_206 : decode cX13_makeMethod 206 = .ok (.if_icmp .gt 21, 3) := by decide +kernel
theorem dX13_makeMethod_209 : decode cX13_makeMethod 209 = .ok (.aload_n 0, 1) := by decide +kernel
theorem dX13_makeMethod_210 : decode cX13_makeMethod 210 = .ok (.getfield 694, 3) := by decide +kernel
theorem dX13_makeMethod_213 : decode cX13_makeMethod 213 = .ok (.bipush 20, 2) := by decide +kernel
theorem dX13_makeMethod_215 : decode cX13_makeMethod 215 = .ok (.if_icmp .gt 12, 3) := by decide +kernel
theorem dX13_makeMethod_218 : decode cX13_makeMethod 218 = .ok (.aload_n 0, 1) := by decide +kernel
theorem dX13_makeMethod_219 : decode cX13_makeMethod 219 = .ok (.getfield 652, 3) := by decide +kernel
theorem dX13_makeMethod_222 : decode cX13_makeMethod 222 = .ok (.bipush 100, 2) := by decide +kernel
theorem dX13_makeMethod_224 : decode cX13_makeMethod 224 = .ok (.if_icmp .le 15, 3) := by decide +kernel
theorem dX13_makeMethod_227 : decode cX13_makeMethod 227 = .ok (.aload_n 0, 1) := by decide +kernel
theorem dX13_makeMethod_228 : decode cX13_makeMethod 228 = .ok (.bipush 11, 2) := by decide +kernel
theorem dX13_makeMethod_230 : decode cX13_makeMethod 230 = .ok (.aload_n 0, 1) := by decide +kernel
theorem dX13_makeMethod_231 : decode cX13_makeMethod 231 = .ok (.getfield 86, 3) := by decide +kernel
theorem dX13_makeMethod_234 : decode cX13_makeMethod 234 = .ok (.iload_n 1, 1) := by decide +kernel
theorem dX13_makeMethod_235 : decode cX13_makeMethod 235 = .ok (.iaload, 1) := by decide +kernel
theorem dX13_makeMethod_236 : decode cX13_makeMethod 236 = .ok (.invokevirtual 379, 3) := by decide +kernel
theorem dX13_makeMethod_239 : decode cX13_makeMethod 239 = .ok (.aload_n 0, 1) := by decide +kernel
theorem dX13_makeMethod_240 : decode cX13_makeMethod 240 = .ok (.getfield 319, 3) := by decide +kernel
theorem dX13_makeMethod_243 : decode cX13_makeMethod 243 = .ok (.ifCond .eq 4, 3) := by decide +kernel
theorem dX13_makeMethod_246 : decode cX13_makeMethod 246 = .ok (.return_, 1) := by decide +kernel
theorem dX13_makeMethod_247 : decode cX13_makeMethod 247 = .ok (.aload_n 0, 1) := by decide +kernel
theorem dX13_makeMethod_248 : decode cX13_makeMethod 248 = .ok (.aload_n 0, 1) := by decide +kernel
theorem dX13_makeMethod_249 : decode cX13_makeMethod 249 = .ok (.getfield 510, 3) := by decide +kernel
theorem dX13_makeMethod_252 : decode cX13_makeMethod 252 = .ok (.ifCond .eq 7, 3) := by decide +kernel
theorem dX13_makeMethod_255 : decode cX13_makeMethod 255 = .ok (.iconst 1, 1) := by decide +kernel
theorem dX13_makeMethod_256 : decode cX13_makeMethod 256 = .ok (.goto 4, 3) := by decide +kernel
theorem dX13_makeMethod_259 : decode cX13_makeMethod 259 = .ok (.iconst 0, 1) := by decide +kernel
theorem dX13_makeMethod_260 : decode cX13_makeMethod 260 = .ok (.invokevirtual 731, 3) := by decide +kernel
theorem dX13_makeMethod_263 : decode cX13_makeMethod 263 = .ok (.aload_n 0, 1) := by decide +kernel
theorem dX13_makeMethod_264 : decode cX13_makeMethod 264 = .ok (.iload_n 2, 1) := by decide +kernel
theorem dX13_makeMethod_265 : decode cX13_makeMethod 265 = .ok (.invokevirtual 731, 3) := by decide +kernel
theorem dX13_makeMethod_268 : decode cX13_makeMethod 268 = .ok (.aload_n 0, 1) := by decide +kernel
theorem dX13_makeMethod_269 : decode cX13_makeMethod 269 = .ok (.iload_n 3, 1) := by decide +kernel
theorem dX13_makeMethod_270 : decode cX13_makeMethod 270 = .ok (.invokevirtual 731, 3) := by decide +kernel
theorem dX13_makeMethod_273 : decode cX13_makeMethod 273 = .ok (.aload_n 0, 1) := by decide +kernel
theorem dX13_makeMethod_274 : decode cX13_makeMethod 274 = .ok (.aload_n 0, 1) := by decide +kernel
theorem dX13_makeMethod_275 : decode cX13_makeMethod 275 = .ok (.getfield 632, 3) := by decide +kernel
theorem dX13_makeMethod_278 : decode cX13_makeMethod 278 = .ok (.invokevirtual 731, 3) := by decide +kernel
theorem dX13_makeMethod_281 : decode cX13_makeMethod 281 = .ok (.aload_n 0, 1) := by decide +kernel
theorem dX13_makeMethod_282 : decode cX13_makeMethod 282 = .ok (.iload 4, 2) := by decide +kernel
theorem dX13_makeMethod_284 : decode cX13_makeMethod 284 = .ok (.invokevirtual 731, 3) := by decide +kernel
theorem dX13_makeMethod_287 : decode cX13_makeMethod 287 = .ok (.aload_n 0, 1) := by decide +kernel
theorem dX13_makeMethod_288 : decode cX13_makeMethod 288 = .ok (.aload_n 0, 1) := by decide +kernel
theorem dX13_makeMethod_289 : decode cX13_makeMethod 289 = .ok (.getfield 627, 3) := by decide +kernel
theorem dX13_makeMethod_292 : decode cX13_makeMethod 292 = .ok (.invokevirtual 734, 3) := by decide +kernel
theorem dX13_makeMethod_295 : decode cX13_makeMethod 295 = .ok (.iconst 0, 1) := by decide +kernel
theorem dX13_makeMethod_296 : decode cX13_makeMethod 296 = .ok (.istore 5, 2) := by decide +kernel
theorem dX13_makeMethod_298 : decode cX13_makeMethod 298 = .ok (.iload 5, 2) := by decide +kernel
theorem dX13_makeMethod_300 : decode cX13_makeMethod 300 = .ok (.aload_n 0, 1) := by decide +kernel
theorem dX13_makeMethod_301 : decode cX13_makeMethod 301 = .ok (.getfield 627, 3) := by decide +kernel
theorem dX13_makeMethod_304 : decode cX13_makeMethod 304 = .ok (.if_icmp .ge 20, 3) := by decide +kernel
theorem dX13_makeMethod_307 : decode cX13_makeMethod 307 = .ok (.aload_n 0, 1) := by decide +kernel
theorem dX13_makeMethod_308 : decode cX13_makeMethod 308 = .ok (.aload_n 0, 1) := by decide +kernel
theorem dX13_makeMethod_309 : decode cX13_makeMethod 309 = .ok (.getfield 147, 3) := by decide +kernel
theorem dX13_makeMethod_312 : decode cX13_makeMethod 312 = .ok (.iload 5, 2) := by decide +kernel
theorem dX13_makeMethod_314 : decode cX13_makeMethod 314 = .ok (.iaload, 1) := by decide +kernel
theorem dX13_makeMethod_315 : decode cX13_makeMethod 315 = .ok (.invokevirtual 731, 3) := by decide +kernel
theorem dX13_makeMethod_318 : decode cX13_makeMethod 318 = .ok (.iinc 5 1, 3) := by decide +kernel
theorem dX13_makeMethod_321 : decode cX13_makeMethod 321 = .ok (.goto (-23), 3) := by decide +kernel
theorem dX13_makeMethod_324 : decode cX13_makeMethod 324 = .ok (.aload_n 0, 1) := by decide +kernel
theorem dX13_makeMethod_325 : decode cX13_makeMethod 325 = .ok (.aload_n 0, 1) := by decide +kernel
theorem dX13_makeMethod_326 : decode cX13_makeMethod 326 = .ok (.getfield 694, 3) := by decide +kernel
theorem dX13_makeMethod_329 : decode cX13_makeMethod 329 = .ok (.invokevirtual 731, 3) := by decide +kernel
theorem dX13_makeMethod_332 : decode cX13_makeMethod 332 = .ok (.iconst 0, 1) := by decide +kernel
theorem dX13_makeMethod_333 : decode cX13_makeMethod 333 = .ok (.istore 5, 2) := by decide +kernel
theorem dX13_makeMethod_335 : decode cX13_makeMethod 335 = .ok (.iload 5, 2) := by decide +kernel
theorem dX13_makeMethod_337 : decode cX13_makeMethod 337 = .ok (.aload_n 0, 1) := by decide +kernel
theorem dX13_makeMethod_338 : decode cX13_makeMethod 338 = .ok (.getfield 694, 3) := by decide +kernel
theorem dX13_makeMethod_341 : decode cX13_makeMethod 341 = .ok (.if_icmp .ge 57, 3) := by decide +kernel
theorem dX13_makeMethod_344 : decode cX13_makeMethod 344 = .ok (.aload_n 0, 1) := by decide +kernel
theorem dX13_makeMethod_345 : decode cX13_makeMethod 345 = .ok (.aload_n 0, 1) := by decide +kernel
theorem dX13_makeMethod_346 : decode cX13_makeMethod 346 = .ok (.getfield 169, 3) := by decide +kernel
theorem dX13_makeMethod_349 : decode cX13_makeMethod 349 = .ok (.iload 5, 2) := by decide +kernel
theorem dX13_makeMethod_351 : decode cX13_makeMethod 351 = .ok (.iaload, 1) := by decide +kernel
theorem dX13_makeMethod_352 : decode cX13_makeMethod 352 = .ok (.invokevirtual 734, 3) := by decide +kernel
theorem dX13_makeMethod_355 : decode cX13_makeMethod 355 = .ok (.aload_n 0, 1) := by decide +kernel
theorem dX13_makeMethod_356 : decode cX13_makeMethod 356 = .ok (.aload_n 0, 1) := by decide +kernel
theorem dX13_makeMethod_357 : decode cX13_makeMethod 357 = .ok (.getfield 172, 3) := by decide +kernel
theorem dX13_makeMethod_360 : decode cX13_makeMethod 360 = .ok (.iload 5, 2) := by decide +kernel
theorem dX13_makeMethod_362 : decode cX13_makeMethod 362 = .ok (.iaload, 1) := by decide +kernel
theorem dX13_makeMethod_363 : decode cX13_makeMethod 363 = .ok (.invokevirtual 734, 3) := by decide +kernel
theorem dX13_makeMethod_366 : decode cX13_makeMethod 366 = .ok (.aload_n 0, 1) := by decide +kernel
theorem dX13_makeMethod_367 : decode cX13_makeMethod 367 = .ok (.aload_n 0, 1) := by decide +kernel
theorem dX13_makeMethod_368 : decode cX13_makeMethod 368 = .ok (.getfield 175, 3) := by decide +kernel
theorem dX13_makeMethod_371 : decode cX13_makeMethod 371 = .ok (.iload 5, 2) := by decide +kernel
theorem dX13_makeMethod_373 : decode cX13_makeMethod 373 = .ok (.iaload, 1) := by decide +kernel
theorem dX13_makeMethod_374 : decode cX13_makeMethod 374 = .ok (.invokevirtual 734, 3) := by decide +kernel
theorem dX13_makeMethod_377 : decode cX13_makeMethod 377 = .ok (.aload_n 0, 1) := by decide +kernel
theorem dX13_makeMethod_378 : decode cX13_makeMethod 378 = .ok (.aload_n 0, 1) := by decide +kernel
theorem dX13_makeMethod_379 : decode cX13_makeMethod 379 = .ok (.aload_n 0, 1) := by decide +kernel
theorem dX13_makeMethod_380 : decode cX13_makeMethod 380 = .ok (.getfield 178, 3) := by decide +kernel
theorem dX13_makeMethod_383 : decode cX13_makeMethod 383 = .ok (.iload 5, 2) := by decide +kernel
theorem dX13_makeMethod_385 : decode cX13_makeMethod 385 = .ok (.iaload, 1) := by decide +kernel
theorem dX13_makeMethod_386 : decode cX13_makeMethod 386 = .ok (.invokevirtual 618, 3) := by decide +kernel
theorem dX13_makeMethod_389 : decode cX13_makeMethod 389 = .ok (.invokevirtual 731, 3) := by decide +kernel
theorem dX13_makeMethod_392 : decode cX13_makeMethod 392 = .ok (.iinc 5 1, 3) := by decide +kernel
theorem dX13_makeMethod_395 : decode cX13_makeMethod 395 = .ok (.goto (-60), 3) := by decide +kernel
theorem dX13_makeMethod_398 : decode cX13_makeMethod 398 = .ok (.aload_n 0, 1) := by decide +kernel
theorem dX13_makeMethod_399 : decode cX13_makeMethod 399 = .ok (.aload_n 0, 1) := by decide +kernel
theorem dX13_makeMethod_400 : decode cX13_makeMethod 400 = .ok (.getfield 652, 3) := by decide +kernel
theorem dX13_makeMethod_403 : decode cX13_makeMethod 403 = .ok (.invokevirtual 731, 3) := by decide +kernel
theorem dX13_makeMethod_406 : decode cX13_makeMethod 406 = .ok (.iconst (-1), 1) := by decide +kernel
theorem dX13_makeMethod_407 : decode cX13_makeMethod 407 = .ok (.istore 5, 2) := by decide +kernel
theorem dX13_makeMethod_409 : decode cX13_makeMethod 409 = .ok (.iconst 0, 1) := by decide +kernel
theorem dX13_makeMethod_410 : decode cX13_makeMethod 410 = .ok (.istore 6, 2) := by decide +kernel
theorem dX13_makeMethod_412 : decode cX13_makeMethod 412 = .ok (.iload 6, 2) := by decide +kernel
theorem dX13_makeMethod_414 : decode cX13_makeMethod 414 = .ok (.aload_n 0, 1) := by decide +kernel
theorem dX13_makeMethod_415 : decode cX13_makeMethod 415 = .ok (.getfield 652, 3) := by decide +kernel
theorem dX13_makeMethod_418 : decode cX13_makeMethod 418 = .ok (.if_icmp .ge 194, 3) := by decide +kernel
theorem dX13_makeMethod_421 : decode cX13_makeMethod 421 = .ok (.iconst (-1), 1) := by decide +kernel
theorem dX13_makeMethod_422 : decode cX13_makeMethod 422 = .ok (.istore 7, 2) := by decide +kernel
theorem dX13_makeMethod_424 : decode cX13_makeMethod 424 = .ok (.iconst 0, 1) := by decide +kernel
theorem dX13_makeMethod_425 : decode cX13_makeMethod 425 = .ok (.istore 8, 2) := by decide +kernel
theorem dX13_makeMethod_427 : decode cX13_makeMethod 427 = .ok (.iload 8, 2) := by decide +kernel
theorem dX13_makeMethod_429 : decode cX13_makeMethod 429 = .ok (.aload_n 0, 1) := by decide +kernel
theorem dX13_makeMethod_430 : decode cX13_makeMethod 430 = .ok (.getfield 652, 3) := by decide +kernel
theorem dX13_makeMethod_433 : decode cX13_makeMethod 433 = .ok (.if_icmp .ge 48, 3) := by decide +kernel
theorem dX13_makeMethod_436 : decode cX13_makeMethod 436 = .ok (.aload_n 0, 1) := by decide +kernel
theorem dX13_makeMethod_437 : decode cX13_makeMethod 437 = .ok (.getfield 153, 3) := by decide +kernel
theorem dX13_makeMethod_440 : decode cX13_makeMethod 440 = .ok (.iload 8, 2) := by decide +kernel
theorem dX13_makeMethod_442 : decode cX13_makeMethod 442 = .ok (.iaload, 1) := by decide +kernel
theorem dX13_makeMethod_443 : decode cX13_makeMethod 443 = .ok (.iload 5, 2) := by decide +kernel
theorem dX13_makeMethod_445 : decode cX13_makeMethod 445 = .ok (.if_icmp .le 30, 3) := by decide +kernel
theorem dX13_makeMethod_448 : decode cX13_makeMethod 448 = .ok (.iload 7, 2) := by decide +kernel
theorem dX13_makeMethod_450 : decode cX13_makeMethod 450 = .ok (.iconst (-1), 1) := by decide +kernel
theorem dX13_makeMethod_451 : decode cX13_makeMethod 451 = .ok (.if_icmp .eq 20, 3) := by decide +kernel
theorem dX13_makeMethod_454 : decode cX13_makeMethod 454 = .ok (.aload_n 0, 1) := by decide +kernel
theorem dX13_makeMethod_455 : decode cX13_makeMethod 455 = .ok (.getfield 153, 3) := by decide +kernel
theorem dX13_makeMethod_458 : decode cX13_makeMethod 458 = .ok (.iload 8, 2) := by decide +kernel
theorem dX13_makeMethod_460 : decode cX13_makeMethod 460 = .ok (.iaload, 1) := by decide +kernel
theorem dX13_makeMethod_461 : decode cX13_makeMethod 461 = .ok (.aload_n 0, 1) := by decide +kernel
theorem dX13_makeMethod_462 : decode cX13_makeMethod 462 = .ok (.getfield 153, 3) := by decide +kernel
theorem dX13_makeMethod_465 : decode cX13_makeMethod 465 = .ok (.iload 7, 2) := by decide +kernel
theorem dX13_makeMethod_467 : decode cX13_makeMethod 467 = .ok (.iaload, 1) := by decide +kernel
theorem dX13_makeMethod_468 : decode cX13_makeMethod 468 = .ok (.if_icmp .ge 7, 3) := by decide +kernel
theorem dX13_makeMethod_471 : decode cX13_makeMethod 471 = .ok (.iload 8, 2) := by decide +kernel
theorem dX13_makeMethod_473 : decode cX13_makeMethod 473 = .ok (.istore 7, 2) := by decide +kernel
theorem dX13_makeMethod_475 : decode cX13_makeMethod 475 = .ok (.iinc 8 1, 3) := by decide +kernel
theorem dX13_makeMethod_478 : decode cX13_makeMethod 478 = .ok (.goto (-51), 3) := by decide +kernel
theorem dX13_makeMethod_481 : decode cX13_makeMethod 481 = .ok (.aload_n 0, 1) := by decide +kernel
theorem dX13_makeMethod_482 : decode cX13_makeMethod 482 = .ok (.getfield 153, 3) := by decide +kernel
theorem dX13_makeMethod_485 : decode cX13_makeMethod 485 = .ok (.iload 7, 2) := by decide +kernel
theorem dX13_makeMethod_487 : decode cX13_makeMethod 487 = .ok (.iaload, 1) := by decide +kernel
theorem dX13_makeMethod_488 : decode cX13_makeMethod 488 = .ok (.istore 5, 2) := by decide +kernel
theorem dX13_makeMethod_490 : decode cX13_makeMethod 490 = .ok (.aload_n 0, 1) := by decide +kernel
theorem dX13_makeMethod_491 : decode cX13_makeMethod 491 = .ok (.iload 5, 2) := by decide +kernel
theorem dX13_makeMethod_493 : decode cX13_makeMethod 493 = .ok (.invokevirtual 734, 3) := by decide +kernel
theorem dX13_makeMethod_496 : decode cX13_makeMethod 496 = .ok (.aload_n 0, 1) := by decide +kernel
theorem dX13_makeMethod_497 : decode cX13_makeMethod 497 = .ok (.aload_n 0, 1) := by decide +kernel
theorem dX13_makeMethod_498 : decode cX13_makeMethod 498 = .ok (.getfield 159, 3) := by decide +kernel
theorem dX13_makeMethod_501 : decode cX13_makeMethod 501 = .ok (.iload 7, 2) := by decide +kernel
theorem dX13_makeMethod_503 : decode cX13_makeMethod 503 = .ok (.iaload, 1) := by decide +kernel
theorem dX13_makeMethod_504 : decode cX13_makeMethod 504 = .ok (.invokevirtual 731, 3) := by decide +kernel
theorem dX13_makeMethod_507 : decode cX13_makeMethod 507 = .ok (.iconst 0, 1) := by decide +kernel
theorem dX13_makeMethod_508 : decode cX13_makeMethod 508 = .ok (.istore 8, 2) := by decide +kernel
theorem dX13_makeMethod_510 : decode cX13_makeMethod 510 = .ok (.iload 8, 2) := by decide +kernel
theorem dX13_makeMethod_512 : decode cX13_makeMethod 512 = .ok (.aload_n 0, 1) := by decide +kernel
theorem dX13_makeMethod_513 : decode cX13_makeMethod 513 = .ok (.getfield 159, 3) := by decide +kernel
theorem dX13_makeMethod_516 : decode cX13_makeMethod 516 = .ok (.iload 7, 2) := by decide +kernel
theorem dX13_makeMethod_518 : decode cX13_makeMethod 518 = .ok (.iaload, 1) := by decide +kernel
theorem dX13_makeMethod_519 : decode cX13_makeMethod 519 = .ok (.if_icmp .ge 28, 3) := by decide +kernel
theorem dX13_makeMethod_522 : decode cX13_makeMethod 522 = .ok (.aload_n 0, 1) := by decide +kernel
theorem dX13_makeMethod_523 : decode cX13_makeMethod 523 = .ok (.aload_n 0, 1) := by decide +kernel
theorem dX13_makeMethod_524 : decode cX13_makeMethod 524 = .ok (.getfield 166, 3) := by decide +kernel
theorem dX13_makeMethod_527 : decode cX13_makeMethod 527 = .ok (.aload_n 0, 1) := by decide +kernel
theorem dX13_makeMethod_528 : decode cX13_makeMethod 528 = .ok (.getfield 156, 3) := by decide +kernel
theorem dX13_makeMethod_531 : decode cX13_makeMethod 531 = .ok (.iload 7, 2) := by decide +kernel
theorem dX13_makeMethod_533 : decode cX13_makeMethod 533 = .ok (.iaload, 1) := by decide +kernel
theorem dX13_makeMethod_534 : decode cX13_makeMethod 534 = .ok (.iload 8, 2) := by decide +kernel
theorem dX13_makeMethod_536 : decode cX13_makeMethod 536 = .ok (.iadd, 1) := by decide +kernel
theorem dX13_makeMethod_537 : decode cX13_makeMethod 537 = .ok (.iaload, 1) := by decide +kernel
theorem dX13_makeMethod_538 : decode cX13_makeMethod 538 = .ok (.invokevirtual 737, 3) := by decide +kernel
theorem dX13_makeMethod_541 : decode cX13_makeMethod 541 = .ok (.iinc 8 1, 3) := by decide +kernel
theorem dX13_makeMethod_544 : decode cX13_makeMethod 544 = .ok (.goto (-34), 3) := by decide +kernel
theorem dX13_makeMethod_547 : decode cX13_makeMethod 547 = .ok (.aload_n 0, 1) := by decide +kernel
theorem dX13_makeMethod_548 : decode cX13_makeMethod 548 = .ok (.aload_n 0, 1) := by decide +kernel
theorem dX13_makeMethod_549 : decode cX13_makeMethod 549 = .ok (.getfield 162, 3) := by decide +kernel
theorem dX13_makeMethod_552 : decode cX13_makeMethod 552 = .ok (.iload 7, 2) := by decide +kernel
theorem dX13_makeMethod_554 : decode cX13_makeMethod 554 = .ok (.iaload, 1) := by decide +kernel
theorem dX13_makeMethod_555 : decode cX13_makeMethod 555 = .ok (.invokevirtual 731, 3) := by decide +kernel
theorem dX13_makeMethod_558 : decode cX13_makeMethod 558 = .ok (.iconst 0, 1) := by decide +kernel
theorem dX13_makeMethod_559 : decode cX13_makeMethod 559 = .ok (.istore 8, 2) := by decide +kernel
theorem dX13_makeMethod_561 : decode cX13_makeMethod 561 = .ok (.iload 8, 2) := by decide +kernel
theorem dX13_makeMethod_563 : decode cX13_makeMethod 563 = .ok (.aload_n 0, 1) := by decide +kernel
theorem dX13_makeMethod_564 : decode cX13_makeMethod 564 = .ok (.getfield 162, 3) := by decide +kernel
theorem dX13_makeMethod_567 : decode cX13_makeMethod 567 = .ok (.iload 7, 2) := by decide +kernel
theorem dX13_makeMethod_569 : decode cX13_makeMethod 569 = .ok (.iaload, 1) := by decide +kernel
theorem dX13_makeMethod_570 : decode cX13_makeMethod 570 = .ok (.if_icmp .ge 36, 3) := by decide +kernel
theorem dX13_makeMethod_573 : decode cX13_makeMethod 573 = .ok (.aload_n 0, 1) := by decide +kernel
theorem dX13_makeMethod_574 : decode cX13_makeMethod 574 = .ok (.aload_n 0, 1) := by decide +kernel
theorem dX13_makeMethod_575 : decode cX13_makeMethod 575 = .ok (.getfield 166, 3) := by decide +kernel
theorem dX13_makeMethod_578 : decode cX13_makeMethod 578 = .ok (.aload_n 0, 1) := by decide +kernel
theorem dX13_makeMethod_579 : decode cX13_makeMethod 579 = .ok (.getfield 156, 3) := by decide +kernel
theorem dX13_makeMethod_582 : decode cX13_makeMethod 582 = .ok (.iload 7, 2) := by decide +kernel
theorem dX13_makeMethod_584 : decode cX13_makeMethod 584 = .ok (.iaload, 1) := by decide +kernel
theorem dX13_makeMethod_585 : decode cX13_makeMethod 585 = .ok (.aload_n 0, 1) := by decide +kernel
theorem dX13_makeMethod_586 : decode cX13_makeMethod 586 = .ok (.getfield 159, 3) := by decide +kernel
theorem dX13_makeMethod_589 : decode cX13_makeMethod 589 = .ok (.iload 7, 2) := by decide +kernel
theorem dX13_makeMethod_591 : decode cX13_makeMethod 591 = .ok (.iaload, 1) := by decide +kernel
theorem dX13_makeMethod_592 : decode cX13_makeMethod 592 = .ok (.iadd, 1) := by decide +kernel
theorem dX13_makeMethod_593 : decode cX13_makeMethod 593 = .ok (.iload 8, 2) := by decide +kernel
theorem dX13_makeMethod_595 : decode cX13_makeMethod 595 = .ok (.iadd, 1) := by decide +kernel
theorem dX13_makeMethod_596 : decode cX13_makeMethod 596 = .ok (.iaload, 1) := by decide +kernel
theorem dX13_makeMethod_597 : decode cX13_makeMethod 597 = .ok (.invokevirtual 737, 3) := by decide +kernel
theorem dX13_makeMethod_600 : decode cX13_makeMethod 600 = .ok (.iinc 8 1, 3) := by decide +kernel
theorem dX13_makeMethod_603 : decode cX13_makeMethod 603 = .ok (.goto (-42), 3) := by decide +kernel
theorem dX13_makeMethod_606 : decode cX13_makeMethod 606 = .ok (.iinc 6 1, 3) := by decide +kernel
theorem dX13_makeMethod_609 : decode cX13_makeMethod 609 = .ok (.goto (-197), 3) := by decide +kernel
theorem dX13_makeMethod_612 : decode cX13_makeMethod 612 = .ok (.return_, 1) := by decide +kernel
theorem rs_RX13_200 : mx_res RX13 200 = some (0, 13, 94) := by decide +kernel
theorem mt_X13_writeConstant : mx_mt 485 = some (yX13_writeConstant, cX13_writeConstant, 5, (some .int)) := rfl
theorem dX13_writeConstant_0 : decode cX13_writeConstant 0 = .ok (.iload_n 2, 1) := by decide +kernel
theorem dX13_writeConstant_1 : decode cX13_writeConstant 1 = .ok (.istore_n 3, 1) := by decide +kernel
theorem dX13_writeConstant_2 : decode cX13_writeConstant 2 = .ok (.aload_n 0, 1) := by decide +kernel
theorem dX13_writeConstant_3 : decode cX13_writeConstant 3 = .ok (.getfield 200, 3) := by decide +kernel
theorem dX13_writeConstant_6 : decode cX13_writeConstant 6 = .ok (.iload_n 3, 1) := by decide +kernel
theorem dX13_writeConstant_7 : decode cX13_writeConstant 7 = .ok (.aload_n 0, 1) := by decide +kernel
theorem dX13_writeConstant_8 : decode cX13_writeConstant 8 = .ok (.getfield 128, 3) := by decide +kernel
theorem dX13_writeConstant_11 : decode cX13_writeConstant 11 = .ok (.iload_n 1, 1) := by decide +kernel
theorem dX13_writeConstant_12 : decode cX13_writeConstant 12 = .ok (.iaload, 1) := by decide +kernel
theorem dX13_writeConstant_13 : decode cX13_writeConstant 13 = .ok (.iastore, 1) := by decide +kernel
theorem dX13_writeConstant_14 : decode cX13_writeConstant 14 = .ok (.iinc 3 1, 3) := by decide +kernel
theorem dX13_writeConstant_17 : decode cX13_writeConstant 17 = .ok (.aload_n 0, 1) := by decide +kernel
theorem dX13_writeConstant_18 : decode cX13_writeConstant 18 = .ok (.getfield 128, 3) := by decide +kernel
theorem dX13_writeConstant_21 : decode cX13_writeConstant 21 = .ok (.iload_n 1, 1) := by decide +kernel
theorem dX13_writeConstant_22 : decode cX13_writeConstant 22 = .ok (.iaload, 1) := by decide +kernel
theorem dX13_writeConstant_23 : decode cX13_writeConstant 23 = .ok (.tableswitch 156 1 3 #[25, 93, 140], 25) := by decide +kernel
theorem dX13_writeConstant_48 : decode cX13_writeConstant 48 = .ok (.aload_n 0, 1) := by decide +kernel
theorem dX13_writeConstant_49 : decode cX13_writeConstant 49 = .ok (.getfield 200, 3) := by decide +kernel
theorem dX13_writeConstant_52 : decode cX13_writeConstant 52 = .ok (.iload_n 3, 1) := by decide +kernel
theorem dX13_writeConstant_53 : decode cX13_writeConstant 53 = .ok (.aload_n 0, 1) := by decide +kernel
theorem dX13_writeConstant_54 : decode cX13_writeConstant 54 = .ok (.getfield 134, 3) := by decide +kernel
theorem dX13_writeConstant_57 : decode cX13_writeConstant 57 = .ok (.iload_n 1, 1) := by decide +kernel
theorem dX13_writeConstant_58 : decode cX13_writeConstant 58 = .ok (.iaload, 1) := by decide +kernel
theorem dX13_writeConstant_59 : decode cX13_writeConstant 59 = .ok (.iastore, 1) := by decide +kernel
theorem dX13_writeConstant_60 : decode cX13_writeConstant 60 = .ok (.iconst 0, 1) := by decide +kernel
theorem dX13_writeConstant_61 : decode cX13_writeConstant 61 = .ok (.istore 4, 2) := by decide +kernel
theorem dX13_writeConstant_63 : decode cX13_writeConstant 63 = .ok (.iload 4, 2) := by decide +kernel
theorem dX13_writeConstant_65 : decode cX13_writeConstant 65 = .ok (.aload_n 0, 1) := by decide +kernel
theorem dX13_writeConstant_66 : decode cX13_writeConstant 66 = .ok (.getfield 134, 3) := by decide +kernel
theorem dX13_writeConstant_69 : decode cX13_writeConstant 69 = .ok (.iload_n 1, 1) := by decide +kernel
theorem dX13_writeConstant_70 : decode cX13_writeConstant 70 = .ok (.iaload, 1) := by decide +kernel
theorem dX13_writeConstant_71 : decode cX13_writeConstant 71 = .ok (.if_icmp .ge 34, 3) := by decide +kernel
theorem dX13_writeConstant_74 : decode cX13_writeConstant 74 = .ok (.aload_n 0, 1) := by decide +kernel
theorem dX13_writeConstant_75 : decode cX13_writeConstant 75 = .ok (.getfield 200, 3) := by decide +kernel
theorem dX13_writeConstant_78 : decode cX13_writeConstant 78 = .ok (.iload_n 3, 1) := by decide +kernel
theorem dX13_writeConstant_79 : decode cX13_writeConstant 79 = .ok (.iconst 1, 1) := by decide +kernel
theorem dX13_writeConstant_80 : decode cX13_writeConstant 80 = .ok (.iadd, 1) := by decide +kernel
theorem dX13_writeConstant_81 : decode cX13_writeConstant 81 = .ok (.iload 4, 2) := by decide +kernel
theorem dX13_writeConstant_83 : decode cX13_writeConstant 83 = .ok (.iadd, 1) := by decide +kernel
theorem dX13_writeConstant_84 : decode cX13_writeConstant 84 = .ok (.aload_n 0, 1) := by decide +kernel
theorem dX13_writeConstant_85 : decode cX13_writeConstant 85 = .ok (.getfield 141, 3) := by decide +kernel
theorem dX13_writeConstant_88 : decode cX13_writeConstant 88 = .ok (.aload_n 0, 1) := by decide +kernel
theorem dX13_writeConstant_89 : decode cX13_writeConstant 89 = .ok (.getfield 131, 3) := by decide +kernel
theorem dX13_writeConstant_92 : decode cX13_writeConstant 92 = .ok (.iload_n 1, 1) := by decide +kernel
theorem dX13_writeConstant_93 : decode cX13_writeConstant 93 = .ok (.iaload, 1) := by decide +kernel
theorem dX13_writeConstant_94 : decode cX13_writeConstant 94 = .ok (.iload 4, 2) := by decide +kernel
theorem dX13_writeConstant_96 : decode cX13_writeConstant 96 = .ok (.iadd, 1) := by decide +kernel
theorem dX13_writeConstant_97 : decode cX13_writeConstant 97 = .ok (.iaload, 1) := by decide +kernel
theorem dX13_writeConstant_98 : decode cX13_writeConstant 98 = .ok (.iastore, 1) := by decide +kernel
theorem dX13_writeConstant_99 : decode cX13_writeConstant 99 = .ok (.iinc 4 1, 3) := by decide +kernel
theorem dX13_writeConstant_102 : decode cX13_writeConstant 102 = .ok (.goto (-39), 3) := by decide +kernel
theorem dX13_writeConstant_105 : decode cX13_writeConstant 105 = .ok (.iload_n 3, 1) := by decide +kernel
theorem dX13_writeConstant_106 : decode cX13_writeConstant 106 = .ok (.iconst 1, 1) := by decide +kernel
theorem dX13_writeConstant_107 : decode cX13_writeConstant 107 = .ok (.iadd, 1) := by decide +kernel
theorem dX13_writeConstant_108 : decode cX13_writeConstant 108 = .ok (.aload_n 0, 1) := by decide +kernel
theorem dX13_writeConstant_109 : decode cX13_writeConstant 109 = .ok (.getfield 134, 3) := by decide +kernel
theorem dX13_writeConstant_112 : decode cX13_writeConstant 112 = .ok (.iload_n 1, 1) := by decide +kernel
theorem dX13_writeConstant_113 : decode cX13_writeConstant 113 = .ok (.iaload, 1) := by decide +kernel
theorem dX13_writeConstant_114 : decode cX13_writeConstant 114 = .ok (.iadd, 1) := by decide +kernel
theorem dX13_writeConstant_115 : decode cX13_writeConstant 115 = .ok (.ireturn, 1) := by decide +kernel
theorem dX13_writeConstant_116 : decode cX13_writeConstant 116 = .ok (.iconst 0, 1) := by decide +kernel
theorem dX13_writeConstant_117 : decode cX13_writeConstant 117 = .ok (.istore 4, 2) := by decide +kernel
theorem dX13_writeConstant_119 : decode cX13_writeConstant 119 = .ok (.iload 4, 2) := by decide +kernel
theorem dX13_writeConstant_121 : decode cX13_writeConstant 121 = .ok (.iconst 4, 1) := by decide +kernel
theorem dX13_writeConstant_122 : decode cX13_writeConstant 122 = .ok (.if_icmp .ge 37, 3) := by decide +kernel
theorem dX13_writeConstant_125 : decode cX13_writeConstant 125 = .ok (.aload_n 0, 1) := by decide +kernel
theorem dX13_writeConstant_126 : decode cX13_writeConstant 126 = .ok (.getfield 200, 3) := by decide +kernel
theorem dX13_writeConstant_129 : decode cX13_writeConstant 129 = .ok (.iload_n 3, 1) := by decide +kernel
theorem dX13_writeConstant_130 : decode cX13_writeConstant 130 = .ok (.iload 4, 2) := by decide +kernel
theorem dX13_writeConstant_132 : decode cX13_writeConstant 132 = .ok (.iadd, 1) := by decide +kernel
theorem dX13_writeConstant_133 : decode cX13_writeConstant 133 = .ok (.aload_n 0, 1) := by decide +kernel
theorem dX13_writeConstant_134 : decode cX13_writeConstant 134 = .ok (.getfield 131, 3) := by decide +kernel
theorem dX13_writeConstant_137 : decode cX13_writeConstant 137 = .ok (.iload_n 1, 1) := by decide +kernel
theorem dX13_writeConstant_138 : decode cX13_writeConstant 138 = .ok (.iaload, 1) := by decide +kernel
theorem dX13_writeConstant_139 : decode cX13_writeConstant 139 = .ok (.bipush 24, 2) := by decide +kernel
theorem dX13_writeConstant_141 : decode cX13_writeConstant 141 = .ok (.bipush 8, 2) := by decide +kernel
theorem dX13_writeConstant_143 : decode cX13_writeConstant 143 = .ok (.iload 4, 2) := by decide +kernel
theorem dX13_writeConstant_145 : decode cX13_writeConstant 145 = .ok (.imul, 1) := by decide +kernel
theorem dX13_writeConstant_146 : decode cX13_writeConstant 146 = .ok (.isub, 1) := by decide +kernel
theorem dX13_writeConstant_147 : decode cX13_writeConstant 147 = .ok (.ishr, 1) := by decide +kernel
theorem dX13_writeConstant_148 : decode cX13_writeConstant 148 = .ok (.sipush 255, 3) := by decide +kernel
theorem dX13_writeConstant_151 : decode cX13_writeConstant 151 = .ok (.iand, 1) := by decide +kernel
theorem dX13_writeConstant_152 : decode cX13_writeConstant 152 = .ok (.iastore, 1) := by decide +kernel
theorem dX13_writeConstant_153 : decode cX13_writeConstant 153 = .ok (.iinc 4 1, 3) := by decide +kernel
theorem dX13_writeConstant_156 : decode cX13_writeConstant 156 = .ok (.goto (-37), 3) := by decide +kernel
theorem dX13_writeConstant_159 : decode cX13_writeConstant 159 = .ok (.iload_n 3, 1) := by decide +kernel
theorem dX13_writeConstant_160 : decode cX13_writeConstant 160 = .ok (.iconst 4, 1) := by decide +kernel
theorem dX13_writeConstant_161 : decode cX13_writeConstant 161 = .ok (.iadd, 1) := by decide +kernel
theorem dX13_writeConstant_162 : decode cX13_writeConstant 162 = .ok (.ireturn, 1) := by decide +kernel
theorem dX13_writeConstant_163 : decode cX13_writeConstant 163 = .ok (.aload_n 0, 1) := by decide +kernel
theorem dX13_writeConstant_164 : decode cX13_writeConstant 164 = .ok (.getfield 200, 3) := by decide +kernel
theorem dX13_writeConstant_167 : decode cX13_writeConstant 167 = .ok (.iload_n 3, 1) := by decide +kernel
theorem dX13_writeConstant_168 : decode cX13_writeConstant 168 = .ok (.aload_n 0, 1) := by decide +kernel
theorem dX13_writeConstant_169 : decode cX13_writeConstant 169 = .ok (.getfield 131, 3) := by decide +kernel
theorem dX13_writeConstant_172 : decode cX13_writeConstant 172 = .ok (.iload_n 1, 1) := by decide +kernel
theorem dX13_writeConstant_173 : decode cX13_writeConstant 173 = .ok (.iaload, 1) := by decide +kernel
theorem dX13_writeConstant_174 : decode cX13_writeConstant 174 = .ok (.iastore, 1) := by decide +kernel
theorem dX13_writeConstant_175 : decode cX13_writeConstant 175 = .ok (.iload_n 3, 1) := by decide +kernel
theorem dX13_writeConstant_176 : decode cX13_writeConstant 176 = .ok (.iconst 1, 1) := by decide +kernel
theorem dX13_writeConstant_177 : decode cX13_writeConstant 177 = .ok (.iadd, 1) := by decide +kernel
theorem dX13_writeConstant_178 : decode cX13_writeConstant 178 = .ok (.ireturn, 1) := by decide +kernel
theorem dX13_writeConstant_179 : decode cX13_writeConstant 179 = .ok (.aload_n 0, 1) := by decide +kernel
theorem dX13_writeConstant_180 : decode cX13_writeConstant 180 = .ok (.getfield 200, 3) := by decide +kernel
theorem dX13_writeConstant_183 : decode cX13_writeConstant 183 = .ok (.iload_n 3, 1) := by decide +kernel
theorem dX13_writeConstant_184 : decode cX13_writeConstant 184 = .ok (.aload_n 0, 1) := by decide +kernel
theorem dX13_writeConstant_185 : decode cX13_writeConstant 185 = .ok (.getfield 131, 3) := by decide +kernel
theorem dX13_writeConstant_188 : decode cX13_writeConstant 188 = .ok (.iload_n 1, 1) := by decide +kernel
theorem dX13_writeConstant_189 : decode cX13_writeConstant 189 = .ok (.iaload, 1) := by decide +kernel
theorem dX13_writeConstant_190 : decode cX13_writeConstant 190 = .ok (.iastore, 1) := by decide +kernel
theorem dX13_writeConstant_191 : decode cX13_writeConstant 191 = .ok (.aload_n 0, 1) := by decide +kernel
theorem dX13_writeConstant_192 : decode cX13_writeConstant 192 = .ok (.getfield 200, 3) := by decide +kernel
theorem dX13_writeConstant_195 : decode cX13_writeConstant 195 = .ok (.iload_n 3, 1) := by decide +kernel
theorem dX13_writeConstant_196 : decode cX13_writeConstant 196 = .ok (.iconst 1, 1) := by decide +kernel
theorem dX13_writeConstant_197 : decode cX13_writeConstant 197 = .ok (.iadd, 1) := by decide +kernel
theorem dX13_writeConstant_198 : decode cX13_writeConstant 198 = .ok (.aload_n 0, 1) := by decide +kernel
theorem dX13_writeConstant_199 : decode cX13_writeConstant 199 = .ok (.getfield 134, 3) := by decide +kernel
theorem dX13_writeConstant_202 : decode cX13_writeConstant 202 = .ok (.iload_n 1, 1) := by decide +kernel
theorem dX13_writeConstant_203 : decode cX13_writeConstant 203 = .ok (.iaload, 1) := by decide +kernel
theorem dX13_writeConstant_204 : decode cX13_writeConstant 204 = .ok (.iastore, 1) := by decide +kernel
theorem dX13_writeConstant_205 : decode cX13_writeConstant 205 = .ok (.aload_n 0, 1) := by decide +kernel
theorem dX13_writeConstant_206 : decode cX13_writeConstant 206 = .ok (.getfield 200, 3) := by decide +kernel
theorem dX13_writeConstant_209 : decode cX13_writeConstant 209 = .ok (.iload_n 3, 1) := by decide +kernel
theorem dX13_writeConstant_210 : decode cX13_writeConstant 210 = .ok (.iconst 2, 1) := by decide +kernel
theorem dX13_writeConstant_211 : decode cX13_writeConstant 211 = .ok (.iadd, 1) := by decide +kernel
theorem dX13_writeConstant_212 : decode cX13_writeConstant 212 = .ok (.aload_n 0, 1) := by decide +kernel
theorem dX13_writeConstant_213 : decode cX13_writeConstant 213 = .ok (.getfield 137, 3) := by decide +kernel
theorem dX13_writeConstant_216 : decode cX13_writeConstant 216 = .ok (.iload_n 1, 1) := by decide +kernel
theorem dX13_writeConstant_217 : decode cX13_writeConstant 217 = .ok (.iaload, 1) := by decide +kernel
theorem dX13_writeConstant_218 : decode cX13_writeConstant 218 = .ok (.iastore, 1) := by decide +kernel
theorem dX13_writeConstant_219 : decode cX13_writeConstant 219 = .ok (.iload_n 3, 1) := by decide +kernel
theorem dX13_writeConstant_220 : decode cX13_writeConstant 220 = .ok (.iconst 3, 1) := by decide +kernel
theorem dX13_writeConstant_221 : decode cX13_writeConstant 221 = .ok (.iadd, 1) := by decide +kernel
theorem dX13_writeConstant_222 : decode cX13_writeConstant 222 = .ok (.ireturn, 1) := by decide +kernel
