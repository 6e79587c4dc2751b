theorem rs_RX13_415 : mx_res RX13 415 = some (0, 13, 39) := by decide +kernel
theorem ft_13_28 : mx_fty 13 28 = some (.int, false, "ClassMillModel") := by decide +kernel
theorem ft_13_39 : mx_fty 13 39 = some (.int, false, "ClassMillModel") := by decide +kernel
theorem mt_X13_member : mx_mt 402 = some (yX13_member, cX13_member, 5, none) := rfl
theorem dX13_member_0 : decode cX13_member 0 = .ok (.aload_n 0, 1) := by decide +kernel
theorem dX13_member_1 : decode cX13_member 1 = .ok (.aload_n 0, 1) := by decide +kernel
theorem dX13_member_2 : decode cX13_member 2 = .ok (.getfield 376, 3) := by decide +kernel
theorem dX13_member_5 : decode cX13_member 5 = .ok (.bipush 15, 2) := by decide +kernel
theorem dX13_member_7 : decode cX13_member 7 = .ok (.invokevirtual 390, 3) := by decide +kernel
theorem dX13_member_10 : decode cX13_member 10 = .ok (.istore_n 1, 1) := by decide +kernel
theorem dX13_member_11 : decode cX13_member 11 = .ok (.iload_n 1, 1) := by decide +kernel
theorem dX13_member_12 : decode cX13_member 12 = .ok (.ifCond .eq 13, 3) := by decide +kernel
theorem dX13_member_15 : decode cX13_member 15 = .ok (.aload_n 0, 1) := by decide +kernel
theorem dX13_member_16 : decode cX13_member 16 = .ok (.dup, 1) := by decide +kernel
theorem dX13_member_17 : decode cX13_member 17 = .ok (.getfield 376, 3) := by decide +kernel
theorem dX13_member_20 : decode cX13_member 20 = .ok (.iconst 1, 1) := by decide +kernel
theorem dX13_member_21 : decode cX13_member 21 = .ok (.iadd, 1) := by decide +kernel
theorem dX13_member_22 : decode cX13_member 22 = .ok (.putfield 376, 3) := by decide +kernel
theorem dX13_member_25 : decode cX13_member 25 = .ok (.aload_n 0, 1) := by decide +kernel
theorem dX13_member_26 : decode cX13_member 26 = .ok (.aload_n 0, 1) := by decide +kernel
theorem dX13_member_27 : decode cX13_member 27 = .ok (.getfield 376, 3) := by decide +kernel
theorem dX13_member_30 : decode cX13_member 30 = .ok (.bipush 20, 2) := by decide +kernel
theorem dX13_member_32 : decode cX13_member 32 = .ok (.invokevirtual 390, 3) := by decide +kernel
theorem dX13_member_35 : decode cX13_member 35 = .ok (.istore_n 2, 1) := by decide +kernel
theorem dX13_member_36 : decode cX13_member 36 = .ok (.iload_n 2, 1) := by decide +kernel
theorem dX13_member_37 : decode cX13_member 37 = .ok (.ifCond .eq 34, 3) := by decide +kernel
theorem dX13_member_40 : decode cX13_member 40 = .ok (.aload_n 0, 1) := by decide +kernel
theorem dX13_member_41 : decode cX13_member 41 = .ok (.iconst 2, 1) := by decide +kernel
theorem dX13_member_42 : decode cX13_member 42 = .ok (.putfield 400, 3) := by decide +kernel
theorem dX13_member_45 : decode cX13_member 45 = .ok (.aload_n 0, 1) := by decide +kernel
theorem dX13_member_46 : decode cX13_member 46 = .ok (.iconst 0, 1) := by decide +kernel
theorem dX13_member_47 : decode cX13_member 47 = .ok (.putfield 396, 3) := by decide +kernel
theorem dX13_member_50 : decode cX13_member 50 = .ok (.aload_n 0, 1) := by decide +kernel
theorem dX13_member_51 : decode cX13_member 51 = .ok (.aload_n 0, 1) := by decide +kernel
theorem dX13_member_52 : decode cX13_member 52 = .ok (.getfield 376, 3) := by decide +kernel
theorem dX13_member_55 : decode cX13_member 55 = .ok (.putfield 393, 3) := by decide +kernel
theorem dX13_member_58 : decode cX13_member 58 = .ok (.aload_n 0, 1) := by decide +kernel
theorem dX13_member_59 : decode cX13_member 59 = .ok (.dup, 1) := by decide +kernel
theorem dX13_member_60 : decode cX13_member 60 = .ok (.getfield 376, 3) := by decide +kernel
theorem dX13_member_63 : decode cX13_member 63 = .ok (.iconst 1, 1) := by decide +kernel
theorem dX13_member_64 : decode cX13_member 64 = .ok (.iadd, 1) := by decide +kernel
theorem dX13_member_65 : decode cX13_member 65 = .ok (.putfield 376, 3) := by decide +kernel
theorem dX13_member_68 : decode cX13_member 68 = .ok (.goto 7, 3) := by decide +kernel
theorem dX13_member_71 : decode cX13_member 71 = .ok (.aload_n 0, 1) := by decide +kernel
theorem dX13_member_72 : decode cX13_member 72 = .ok (.invokevirtual 424, 3) := by decide +kernel
theorem dX13_member_75 : decode cX13_member 75 = .ok (.aload_n 0, 1) := by decide +kernel
theorem dX13_member_76 : decode cX13_member 76 = .ok (.getfield 412, 3) := by decide +kernel
theorem dX13_member_79 : decode cX13_member 79 = .ok (.istore_n 3, 1) := by decide +kernel
theorem dX13_member_80 : decode cX13_member 80 = .ok (.aload_n 0, 1) := by decide +kernel
theorem dX13_member_81 : decode cX13_member 81 = .ok (.getfield 77, 3) := by decide +kernel
theorem dX13_member_84 : decode cX13_member 84 = .ok (.iload_n 3, 1) := by decide +kernel
theorem dX13_member_85 : decode cX13_member 85 = .ok (.aload_n 0, 1) := by decide +kernel
theorem dX13_member_86 : decode cX13_member 86 = .ok (.getfield 400, 3) := by decide +kernel
theorem dX13_member_89 : decode cX13_member 89 = .ok (.iastore, 1) := by decide +kernel
theorem dX13_member_90 : decode cX13_member 90 = .ok (.aload_n 0, 1) := by decide +kernel
theorem dX13_member_91 : decode cX13_member 91 = .ok (.getfield 80, 3) := by decide +kernel
theorem dX13_member_94 : decode cX13_member 94 = .ok (.iload_n 3, 1) := by decide +kernel
theorem dX13_member_95 : decode cX13_member 95 = .ok (.aload_n 0, 1) := by decide +kernel
theorem dX13_member_96 : decode cX13_member 96 = .ok (.getfield 393, 3) := by decide +kernel
theorem dX13_member_99 : decode cX13_member 99 = .ok (.iastore, 1) := by decide +kernel
theorem dX13_member_100 : decode cX13_member 100 = .ok (.aload_n 0, 1) := by decide +kernel
theorem dX13_member_101 : decode cX13_member 101 = .ok (.getfield 83, 3) := by decide +kernel
theorem dX13_member_104 : decode cX13_member 104 = .ok (.iload_n 3, 1) := by decide +kernel
theorem dX13_member_105 : decode cX13_member 105 = .ok (.aload_n 0, 1) := by decide +kernel
theorem dX13_member_106 : decode cX13_member 106 = .ok (.getfield 396, 3) := by decide +kernel
theorem dX13_member_109 : decode cX13_member 109 = .ok (.bastore, 1) := by decide +kernel
theorem dX13_member_110 : decode cX13_member 110 = .ok (.aload_n 0, 1) := by decide +kernel
theorem dX13_member_111 : decode cX13_member 111 = .ok (.getfield 86, 3) := by decide +kernel
theorem dX13_member_114 : decode cX13_member 114 = .ok (.iload_n 3, 1) := by decide +kernel
theorem dX13_member_115 : decode cX13_member 115 = .ok (.aload_n 0, 1) := by decide +kernel
theorem dX13_member_116 : decode cX13_member 116 = .ok (.invokevirtual 403, 3) := by decide +kernel
theorem dX13_member_119 : decode cX13_member 119 = .ok (.iastore, 1) := by decide +kernel
theorem dX13_member_120 : decode cX13_member 120 = .ok (.aload_n 0, 1) := by decide +kernel
theorem dX13_member_121 : decode cX13_member 121 = .ok (.getfield 71, 3) := by decide +kernel
theorem dX13_member_124 : decode cX13_member 124 = .ok (.iload_n 3, 1) := by decide +kernel
theorem dX13_member_125 : decode cX13_member 125 = .ok (.aload_n 0, 1) := by decide +kernel
theorem dX13_member_126 : decode cX13_member 126 = .ok (.getfield 409, 3) := by decide +kernel
theorem dX13_member_129 : decode cX13_member 129 = .ok (.iconst 1, 1) := by decide +kernel
theorem dX13_member_130 : decode cX13_member 130 = .ok (.isub, 1) := by decide +kernel
theorem dX13_member_131 : decode cX13_member 131 = .ok (.iastore, 1) := by decide +kernel
theorem dX13_member_132 : decode cX13_member 132 = .ok (.aload_n 0, 1) := by decide +kernel
theorem dX13_member_133 : decode cX13_member 133 = .ok (.getfield 92, 3) := by decide +kernel
theorem dX13_member_136 : decode cX13_member 136 = .ok (.iload_n 3, 1) := by decide +kernel
theorem dX13_member_137 : decode cX13_member 137 = .ok (.aload_n 0, 1) := by decide +kernel
theorem dX13_member_138 : decode cX13_member 138 = .ok (.getfield 415, 3) := by decide +kernel
theorem dX13_member_141 : decode cX13_member 141 = .ok (.iastore, 1) := by decide +kernel
theorem dX13_member_142 : decode cX13_member 142 = .ok (.aload_n 0, 1) := by decide +kernel
theorem dX13_member_143 : decode cX13_member 143 = .ok (.getfield 95, 3) := by decide +kernel
theorem dX13_member_146 : decode cX13_member 146 = .ok (.iload_n 3, 1) := by decide +kernel
theorem dX13_member_147 : decode cX13_member 147 = .ok (.iconst 0, 1) := by decide +kernel
theorem dX13_member_148 : decode cX13_member 148 = .ok (.iastore, 1) := by decide +kernel
theorem dX13_member_149 : decode cX13_member 149 = .ok (.aload_n 0, 1) := by decide +kernel
theorem dX13_member_150 : decode cX13_member 150 = .ok (.getfield 98, 3) := by decide +kernel
theorem dX13_member_153 : decode cX13_member 153 = .ok (.iload_n 3, 1) := by decide +kernel
theorem dX13_member_154 : decode cX13_member 154 = .ok (.iconst (-1), 1) := by decide +kernel
theorem dX13_member_155 : decode cX13_member 155 = .ok (.iastore, 1) := by decide +kernel
theorem dX13_member_156 : decode cX13_member 156 = .ok (.aload_n 0, 1) := by decide +kernel
theorem dX13_member_157 : decode cX13_member 157 = .ok (.getfield 74, 3) := by decide +kernel
theorem dX13_member_160 : decode cX13_member 160 = .ok (.iload_n 3, 1) := by decide +kernel
theorem dX13_member_161 : decode cX13_member 161 = .ok (.iload_n 1, 1) := by decide +kernel
theorem dX13_member_162 : decode cX13_member 162 = .ok (.ifCond .eq 7, 3) := by decide +kernel
theorem dX13_member_165 : decode cX13_member 165 = .ok (.iconst 2, 1) := by decide +kernel
theorem dX13_member_166 : decode cX13_member 166 = .ok (.goto 4, 3) := by decide +kernel
theorem dX13_member_169 : decode cX13_member 169 = .ok (.iconst 1, 1) := by decide +kernel
theorem dX13_member_170 : decode cX13_member 170 = .ok (.iastore, 1) := by decide +kernel
theorem dX13_member_171 : decode cX13_member 171 = .ok (.aload_n 0, 1) := by decide +kernel
theorem dX13_member_172 : decode cX13_member 172 = .ok (.getfield 319, 3) := by decide +kernel
theorem dX13_member_175 : decode cX13_member 175 = .ok (.ifCond .eq 4, 3) := by decide +kernel
theorem dX13_member_178 : decode cX13_member 178 = .ok (.return_, 1) := by decide +kernel
theorem dX13_member_179 : decode cX13_member 179 = .ok (.aload_n 0, 1) := by decide +kernel
theorem dX13_member_180 : decode cX13_member 180 = .ok (.dup, 1) := by decide +kernel
theorem dX13_member_181 : decode cX13_member 181 = .ok (.getfield 412, 3) := by decide +kernel
theorem dX13_member_184 : decode cX13_member 184 = .ok (.iconst 1, 1) := by decide +kernel
theorem dX13_member_185 : decode cX13_member 185 = .ok (.iadd, 1) := by decide +kernel
theorem dX13_member_186 : decode cX13_member 186 = .ok (.putfield 412, 3) := by decide +kernel
theorem dX13_member_189 : decode cX13_member 189 = .ok (.iload_n 1, 1) := by decide +kernel
theorem dX13_member_190 : decode cX13_member 190 = .ok (.ifCond .ne 38, 3) := by decide +kernel
theorem dX13_member_193 : decode cX13_member 193 = .ok (.iload_n 2, 1) := by decide +kernel
theorem dX13_member_194 : decode cX13_member 194 = .ok (.ifCond .ne 34, 3) := by decide +kernel
theorem dX13_member_197 : decode cX13_member 197 = .ok (.aload_n 0, 1) := by decide +kernel
theorem dX13_member_198 : decode cX13_member 198 = .ok (.aload_n 0, 1) := by decide +kernel
theorem dX13_member_199 : decode cX13_member 199 = .ok (.getfield 376, 3) := by decide +kernel
theorem dX13_member_202 : decode cX13_member 202 = .ok (.bipush 59, 2) := by decide +kernel
theorem dX13_member_204 : decode cX13_member 204 = .ok (.invokevirtual 383, 3) := by decide +kernel
theorem dX13_member_207 : decode cX13_member 207 = .ok (.ifCond .eq 21, 3) := by decide +kernel
theorem dX13_member_210 : decode cX13_member 210 = .ok (.aload_n 0, 1) := by decide +kernel
theorem dX13_member_211 : decode cX13_member 211 = .ok (.dup, 1) := by decide +kernel
theorem dX13_member_212 : decode cX13_member 212 = .ok (.getfield 376, 3) := by decide +kernel
theorem dX13_member_215 : decode cX13_member 215 = .ok (.iconst 1, 1) := by decide +kernel
theorem dX13_member_216 : decode cX13_member 216 = .ok (.iadd, 1) := by decide +kernel
theorem dX13_member_217 : decode cX13_member 217 = .ok (.putfield 376, 3) := by decide +kernel
theorem dX13_member_220 : decode cX13_member 220 = .ok (.aload_n 0, 1) := by decide +kernel
theorem dX13_member_221 : decode cX13_member 221 = .ok (.getfield 74, 3) := by decide +kernel
theorem dX13_member_224 : decode cX13_member 224 = .ok (.iload_n 3, 1) := by decide +kernel
theorem dX13_member_225 : decode cX13_member 225 = .ok (.iconst 0, 1) := by decide +kernel
theorem dX13_member_226 : decode cX13_member 226 = .ok (.iastore, 1) := by decide +kernel
theorem dX13_member_227 : decode cX13_member 227 = .ok (.return_, 1) := by decide +kernel
theorem dX13_member_228 : decode cX13_member 228 = .ok (.aload_n 0, 1) := by decide +kernel
theorem dX13_member_229 : decode cX13_member 229 = .ok (.bipush 40, 2) := by decide +kernel
theorem dX13_member_231 : decode cX13_member 231 = .ok (.invokevirtual 406, 3) := by decide +kernel
theorem dX13_member_234 : decode cX13_member 234 = .ok (.aload_n 0, 1) := by decide +kernel
theorem dX13_member_235 : decode cX13_member 235 = .ok (.getfield 319, 3) := by decide +kernel
theorem dX13_member_238 : decode cX13_member 238 = .ok (.ifCond .ne 122, 3) := by decide +kernel
theorem dX13_member_241 : decode cX13_member 241 = .ok (.aload_n 0, 1) := by decide +kernel
theorem dX13_member_242 : decode cX13_member 242 = .ok (.aload_n 0, 1) := by decide +kernel
theorem dX13_member_243 : decode cX13_member 243 = .ok (.getfield 376, 3) := by decide +kernel
theorem dX13_member_246 : decode cX13_member 246 = .ok (.bipush 41, 2) := by decide +kernel
theorem dX13_member_248 : decode cX13_member 248 = .ok (.invokevirtual 383, 3) := by decide +kernel
theorem dX13_member_251 : decode cX13_member 251 = .ok (.ifCond .ne 109, 3) := by decide +kernel
theorem dX13_member_254 : decode cX13_member 254 = .ok (.aload_n 0, 1) := by decide +kernel
theorem dX13_member_255 : decode cX13_member 255 = .ok (.getfield 95, 3) := by decide +kernel
theorem dX13_member_258 : decode cX13_member 258 = .ok (.iload_n 3, 1) := by decide +kernel
theorem dX13_member_259 : decode cX13_member 259 = .ok (.iaload, 1) := by decide +kernel
theorem dX13_member_260 : decode cX13_member 260 = .ok (.ifCond .le 9, 3) := by decide +kernel
theorem dX13_member_263 : decode cX13_member 263 = .ok (.aload_n 0, 1) := by decide +kernel
theorem dX13_member_264 : decode cX13_member 264 = .ok (.bipush 44, 2) := by decide +kernel
theorem dX13_member_266 : decode cX13_member 266 = .ok (.invokevirtual 406, 3) := by decide +kernel
theorem dX13_member_269 : decode cX13_member 269 = .ok (.aload_n 0, 1) := by decide +kernel
theorem dX13_member_270 : decode cX13_member 270 = .ok (.invokevirtual 424, 3) := by decide +kernel
theorem dX13_member_273 : decode cX13_member 273 = .ok (.aload_n 0, 1) := by decide +kernel
theorem dX13_member_274 : decode cX13_member 274 = .ok (.invokevirtual 403, 3) := by decide +kernel
theorem dX13_member_277 : decode cX13_member 277 = .ok (.istore 4, 2) := by decide +kernel
theorem dX13_member_279 : decode cX13_member 279 = .ok (.aload_n 0, 1) := by decide +kernel
theorem dX13_member_280 : decode cX13_member 280 = .ok (.getfield 319, 3) := by decide +kernel
theorem dX13_member_283 : decode cX13_member 283 = .ok (.ifCond .eq 4, 3) := by decide +kernel
theorem dX13_member_286 : decode cX13_member 286 = .ok (.return_, 1) := by decide +kernel
theorem dX13_member_287 : decode cX13_member 287 = .ok (.aload_n 0, 1) := by decide +kernel
theorem dX13_member_288 : decode cX13_member 288 = .ok (.getfield 101, 3) := by decide +kernel
theorem dX13_member_291 : decode cX13_member 291 = .ok (.aload_n 0, 1) := by decide +kernel
theorem dX13_member_292 : decode cX13_member 292 = .ok (.getfield 415, 3) := by decide +kernel
theorem dX13_member_295 : decode cX13_member 295 = .ok (.aload_n 0, 1) := by decide +kernel
theorem dX13_member_296 : decode cX13_member 296 = .ok (.getfield 400, 3) := by decide +kernel
theorem dX13_member_299 : decode cX13_member 299 = .ok (.iastore, 1) := by decide +kernel
theorem dX13_member_300 : decode cX13_member 300 = .ok (.aload_n 0, 1) := by decide +kernel
theorem dX13_member_301 : decode cX13_member 301 = .ok (.getfield 104, 3) := by decide +kernel
theorem dX13_member_304 : decode cX13_member 304 = .ok (.aload_n 0, 1) := by decide +kernel
theorem dX13_member_305 : decode cX13_member 305 = .ok (.getfield 415, 3) := by decide +kernel
theorem dX13_member_308 : decode cX13_member 308 = .ok (.aload_n 0, 1) := by decide +kernel
theorem dX13_member_309 : decode cX13_member 309 = .ok (.getfield 393, 3) := by decide +kernel
theorem dX13_member_312 : decode cX13_member 312 = .ok (.iastore, 1) := by decide +kernel
theorem dX13_member_313 : decode cX13_member 313 = .ok (.aload_n 0, 1) := by decide +kernel
theorem dX13_member_314 : decode cX13_member 314 = .ok (.getfield 107, 3) := by decide +kernel
theorem dX13_member_317 : decode cX13_member 317 = .ok (.aload_n 0, 1) := by decide +kernel
theorem dX13_member_318 : decode cX13_member 318 = .ok (.getfield 415, 3) := by decide +kernel
theorem dX13_member_321 : decode cX13_member 321 = .ok (.aload_n 0, 1) := by decide +kernel
theorem dX13_member_322 : decode cX13_member 322 = .ok (.getfield 396, 3) := by decide +kernel
theorem dX13_member_325 : decode cX13_member 325 = .ok (.bastore, 1) := by decide +kernel
theorem dX13_member_326 : decode cX13_member 326 = .ok (.aload_n 0, 1) := by decide +kernel
theorem dX13_member_327 : decode cX13_member 327 = .ok (.getfield 110, 3) := by decide +kernel
theorem dX13_member_330 : decode cX13_member 330 = .ok (.aload_n 0, 1) := by decide +kernel
theorem dX13_member_331 : decode cX13_member 331 = .ok (.getfield 415, 3) := by decide +kernel
theorem dX13_member_334 : decode cX13_member 334 = .ok (.iload 4, 2) := by decide +kernel
theorem dX13_member_336 : decode cX13_member 336 = .ok (.iastore, 1) := by decide +kernel
theorem dX13_member_337 : decode cX13_member 337 = .ok (.aload_n 0, 1) := by decide +kernel
theorem dX13_member_338 : decode cX13_member 338 = .ok (.dup, 1) := by decide +kernel
theorem dX13_member_339 : decode cX13_member 339 = .ok (.getfield 415, 3) := by decide +kernel
theorem dX13_member_342 : decode cX13_member 342 = .ok (.iconst 1, 1) := by decide +kernel
theorem dX13_member_343 : decode cX13_member 343 = .ok (.iadd, 1) := by decide +kernel
theorem dX13_member_344 : decode cX13_member 344 = .ok (.putfield 415, 3) := by decide +kernel
theorem dX13_member_347 : decode cX13_member 347 = .ok (.aload_n 0, 1) := by decide +kernel
theorem dX13_member_348 : decode cX13_member 348 = .ok (.getfield 95, 3) := by decide +kernel
theorem dX13_member_351 : decode cX13_member 351 = .ok (.iload_n 3, 1) := by decide +kernel
theorem dX13_member_352 : decode cX13_member 352 = .ok (.dup2, 1) := by decide +kernel
theorem dX13_member_353 : decode cX13_member 353 = .ok (.iaload, 1) := by decide +kernel
theorem dX13_member_354 : decode cX13_member 354 = .ok (.iconst 1, 1) := by decide +kernel
theorem dX13_member_355 : decode cX13_member 355 = .ok (.iadd, 1) := by decide +kernel
theorem dX13_member_356 : decode cX13_member 356 = .ok (.iastore, 1) := by decide +kernel
theorem dX13_member_357 : decode cX13_member 357 = .ok (.goto (-123), 3) := by decide +kernel
theorem dX13_member_360 : decode cX13_member 360 = .ok (.aload_n 0, 1) := by decide +kernel
theorem dX13_member_361 : decode cX13_member 361 = .ok (.bipush 41, 2) := by decide +kernel
theorem dX13_member_363 : decode cX13_member 363 = .ok (.invokevirtual 406, 3) := by decide +kernel
theorem dX13_member_366 : decode cX13_member 366 = .ok (.aload_n 0, 1) := by decide +kernel
theorem dX13_member_367 : decode cX13_member 367 = .ok (.getfield 98, 3) := by decide +kernel
theorem dX13_member_370 : decode cX13_member 370 = .ok (.iload_n 3, 1) := by decide +kernel
theorem dX13_member_371 : decode cX13_member 371 = .ok (.aload_n 0, 1) := by decide +kernel
theorem dX13_member_372 : decode cX13_member 372 = .ok (.iconst 0, 1) := by decide +kernel
theorem dX13_member_373 : decode cX13_member 373 = .ok (.invokevirtual 427, 3) := by decide +kernel
theorem dX13_member_376 : decode cX13_member 376 = .ok (.iastore, 1) := by decide +kernel
theorem dX13_member_377 : decode cX13_member 377 = .ok (.return_, 1) := by decide +kernel
theorem rs_RX13_421 : mx_res RX13 421 = some (1, 402, 0) := by decide +kernel
theorem ft_13_24 : mx_fty 13 24 = some (.int, false, "ClassMillModel") := by decide +kernel
theorem mt_X13_program : mx_mt 401 = some (yX13_program, cX13_program, 3, none) := rfl
theorem dX13_program_0 : decode cX13_program 0 = .ok (.aload_n 0, 1) := by decide +kernel
theorem dX13_program_1 : decode cX13_program 1 = .ok (.iconst 0, 1) := by decide +kernel
theorem dX13_program_2 : decode cX13_program 2 = .ok (.putfield 409, 3) := by decide +kernel
theorem dX13_program_5 : decode cX13_program 5 = .ok (.aload_n 0, 1) := by decide +kernel
theorem dX13_program_6 : decode cX13_program 6 = .ok (.iconst 0, 1) := by decide +kernel
theorem dX13_program_7 : decode cX13_program 7 = .ok (.putfield 412, 3) := by decide +kernel
theorem dX13_program_10 : decode cX13_program 10 = .ok (.aload_n 0, 1) := by decide +kernel
theorem dX13_program_11 : decode cX13_program 11 = .ok (.iconst 0, 1) := by decide +kernel
theorem dX13_program_12 : decode cX13_program 12 = .ok (.putfield 415, 3) := by decide +kernel
theorem dX13_program_15 : decode cX13_program 15 = .ok (.aload_n 0, 1) := by decide +kernel
theorem dX13_program_16 : decode cX13_program 16 = .ok (.iconst 0, 1) := by decide +kernel
theorem dX13_program_17 : decode cX13_program 17 = .ok (.putfield 373, 3) := by decide +kernel
theorem dX13_program_20 : decode cX13_program 20 = .ok (.aload_n 0, 1) := by decide +kernel
theorem dX13_program_21 : decode cX13_program 21 = .ok (.iconst 0, 1) := by decide +kernel
theorem dX13_program_22 : decode cX13_program 22 = .ok (.putfield 376, 3) := by decide +kernel
theorem dX13_program_25 : decode cX13_program 25 = .ok (.aload_n 0, 1) := by decide +kernel
theorem dX13_program_26 : decode cX13_program 26 = .ok (.iconst 3, 1) := by decide +kernel
theorem dX13_program_27 : decode cX13_program 27 = .ok (.invokevirtual 418, 3) := by decide +kernel
theorem dX13_program_30 : decode cX13_program 30 = .ok (.aload_n 0, 1) := by decide +kernel
theorem dX13_program_31 : decode cX13_program 31 = .ok (.invokevirtual 403, 3) := by decide +kernel
theorem dX13_program_34 : decode cX13_program 34 = .ok (.istore_n 1, 1) := by decide +kernel
theorem dX13_program_35 : decode cX13_program 35 = .ok (.iconst (-1), 1) := by decide +kernel
theorem dX13_program_36 : decode cX13_program 36 = .ok (.istore_n 2, 1) := by decide +kernel
theorem dX13_program_37 : decode cX13_program 37 = .ok (.aload_n 0, 1) := by decide +kernel
theorem dX13_program_38 : decode cX13_program 38 = .ok (.getfield 319, 3) := by decide +kernel
theorem dX13_program_41 : decode cX13_program 41 = .ok (.ifCond .ne 31, 3) := by decide +kernel
theorem dX13_program_44 : decode cX13_program 44 = .ok (.aload_n 0, 1) := by decide +kernel
theorem dX13_program_45 : decode cX13_program 45 = .ok (.aload_n 0, 1) := by decide +kernel
theorem dX13_program_46 : decode cX13_program 46 = .ok (.getfield 376, 3) := by decide +kernel
theorem dX13_program_49 : decode cX13_program 49 = .ok (.bipush 6, 2) := by decide +kernel
theorem dX13_program_51 : decode cX13_program 51 = .ok (.invokevirtual 390, 3) := by decide +kernel
theorem dX13_program_54 : decode cX13_program 54 = .ok (.ifCond .eq 18, 3) := by decide +kernel
theorem dX13_program_57 : decode cX13_program 57 = .ok (.aload_n 0, 1) := by decide +kernel
theorem dX13_program_58 : decode cX13_program 58 = .ok (.dup, 1) := by decide +kernel
theorem dX13_program_59 : decode cX13_program 59 = .ok (.getfield 376, 3) := by decide +kernel
theorem dX13_program_62 : decode cX13_program 62 = .ok (.iconst 1, 1) := by decide +kernel
theorem dX13_program_63 : decode cX13_program 63 = .ok (.iadd, 1) := by decide +kernel
theorem dX13_program_64 : decode cX13_program 64 = .ok (.putfield 376, 3) := by decide +kernel
theorem dX13_program_67 : decode cX13_program 67 = .ok (.aload_n 0, 1) := by decide +kernel
theorem dX13_program_68 : decode cX13_program 68 = .ok (.invokevirtual 403, 3) := by decide +kernel
theorem dX13_program_71 : decode cX13_program 71 = .ok (.istore_n 2, 1) := by decide +kernel
theorem dX13_program_72 : decode cX13_program 72 = .ok (.aload_n 0, 1) := by decide +kernel
theorem dX13_program_73 : decode cX13_program 73 = .ok (.getfield 319, 3) := by decide +kernel
theorem dX13_program_76 : decode cX13_program 76 = .ok (.ifCond .eq 4, 3) := by decide +kernel
theorem dX13_program_79 : decode cX13_program 79 = .ok (.return_, 1) := by decide +kernel
theorem dX13_program_80 : decode cX13_program 80 = .ok (.aload_n 0, 1) := by decide +kernel
theorem dX13_program_81 : decode cX13_program 81 = .ok (.getfield 62, 3) := by decide +kernel
theorem dX13_program_84 : decode cX13_program 84 = .ok (.aload_n 0, 1) := by decide +kernel
theorem dX13_program_85 : decode cX13_program 85 = .ok (.getfield 409, 3) := by decide +kernel
theorem dX13_program_88 : decode cX13_program 88 = .ok (.iload_n 1, 1) := by decide +kernel
theorem dX13_program_89 : decode cX13_program 89 = .ok (.iastore, 1) := by decide +kernel
theorem dX13_program_90 : decode cX13_program 90 = .ok (.aload_n 0, 1) := by decide +kernel
theorem dX13_program_91 : decode cX13_program 91 = .ok (.getfield 65, 3) := by decide +kernel
theorem dX13_program_94 : decode cX13_program 94 = .ok (.aload_n 0, 1) := by decide +kernel
theorem dX13_program_95 : decode cX13_program 95 = .ok (.getfield 409, 3) := by decide +kernel
theorem dX13_program_98 : decode cX13_program 98 = .ok (.iload_n 2, 1) := by decide +kernel
theorem dX13_program_99 : decode cX13_program 99 = .ok (.iastore, 1) := by decide +kernel
theorem dX13_program_100 : decode cX13_program 100 = .ok (.aload_n 0, 1) := by decide +kernel
theorem dX13_program_101 : decode cX13_program 101 = .ok (.dup, 1) := by decide +kernel
theorem dX13_program_102 : decode cX13_program 102 = .ok (.getfield 409, 3) := by decide +kernel
theorem dX13_program_105 : decode cX13_program 105 = .ok (.iconst 1, 1) := by decide +kernel
theorem dX13_program_106 : decode cX13_program 106 = .ok (.iadd, 1) := by decide +kernel
theorem dX13_program_107 : decode cX13_program 107 = .ok (.putfield 409, 3) := by decide +kernel
theorem dX13_program_110 : decode cX13_program 110 = .ok (.aload_n 0, 1) := by decide +kernel
theorem dX13_program_111 : decode cX13_program 111 = .ok (.bipush 123, 2) := by decide +kernel
theorem dX13_program_113 : decode cX13_program 113 = .ok (.invokevirtual 406, 3) := by decide +kernel
theorem dX13_program_116 : decode cX13_program 116 = .ok (.aload_n 0, 1) := by decide +kernel
theorem dX13_program_117 : decode cX13_program 117 = .ok (.getfield 319, 3) := by decide +kernel
theorem dX13_program_120 : decode cX13_program 120 = .ok (.ifCond .ne 23, 3) := by decide +kernel
theorem dX13_program_123 : decode cX13_program 123 = .ok (.aload_n 0, 1) := by decide +kernel
theorem dX13_program_124 : decode cX13_program 124 = .ok (.aload_n 0, 1) := by decide +kernel
theorem dX13_program_125 : decode cX13_program 125 = .ok (.getfield 376, 3) := by decide +kernel
theorem dX13_program_128 : decode cX13_program 128 = .ok (.bipush 125, 2) := by decide +kernel
theorem dX13_program_130 : decode cX13_program 130 = .ok (.invokevirtual 383, 3) := by decide +kernel
theorem dX13_program_133 : decode cX13_program 133 = .ok (.ifCond .ne 10, 3) := by decide +kernel
theorem dX13_program_136 : decode cX13_program 136 = .ok (.aload_n 0, 1) := by decide +kernel
theorem dX13_program_137 : decode cX13_program 137 = .ok (.invokevirtual 421, 3) := by decide +kernel
theorem dX13_program_140 : decode cX13_program 140 = .ok (.goto (-24), 3) := by decide +kernel
theorem dX13_program_143 : decode cX13_program 143 = .ok (.aload_n 0, 1) := by decide +kernel
theorem dX13_program_144 : decode cX13_program 144 = .ok (.bipush 125, 2) := by decide +kernel
theorem dX13_program_146 : decode cX13_program 146 = .ok (.invokevirtual 406, 3) := by decide +kernel
theorem dX13_program_149 : decode cX13_program 149 = .ok (.aload_n 0, 1) := by decide +kernel
theorem dX13_program_150 : decode cX13_program 150 = .ok (.getfield 319, 3) := by decide +kernel
theorem dX13_program_153 : decode cX13_program 153 = .ok (.ifCond .ne 16, 3) := by decide +kernel
theorem dX13_program_156 : decode cX13_program 156 = .ok (.aload_n 0, 1) := by decide +kernel
theorem dX13_program_157 : decode cX13_program 157 = .ok (.getfield 16, 3) := by decide +kernel
theorem dX13_program_160 : decode cX13_program 160 = .ok (.aload_n 0, 1) := by decide +kernel
theorem dX13_program_161 : decode cX13_program 161 = .ok (.getfield 376, 3) := by decide +kernel
theorem dX13_program_164 : decode cX13_program 164 = .ok (.iaload, 1) := by decide +kernel
theorem dX13_program_165 : decode cX13_program 165 = .ok (.iconst 5, 1) := by decide +kernel
theorem dX13_program_166 : decode cX13_program 166 = .ok (.if_icmp .ne (-141), 3) := by decide +kernel
theorem dX13_program_169 : decode cX13_program 169 = .ok (.return_, 1) := by decide +kernel
theorem rs_RX13_325 : mx_res RX13 325 = some (0, 13, 3) := by decide +kernel
theorem mt_X13_at : mx_mt 386 = some (yX13_at, cX13_at, 2, (some .int)) := rfl
theorem dX13_at_0 : decode cX13_at 0 = .ok (.iload_n 1, 1) := by decide +kernel
theorem dX13_at_1 : decode cX13_at 1 = .ok (.aload_n 0, 1) := by decide +kernel
theorem dX13_at_2 : decode cX13_at 2 = .ok (.getfield 325, 3) := by decide +kernel
theorem dX13_at_5 : decode cX13_at 5 = .ok (.if_icmp .ge 12, 3) := by decide +kernel
theorem dX13_at_8 : decode cX13_at 8 = .ok (.aload_n 0, 1) := by decide +kernel
theorem dX13_at_9 : decode cX13_at 9 = .ok (.getfield 13, 3) := by decide +kernel
theorem dX13_at_12 : decode cX13_at 12 = .ok (.iload_n 1, 1) := by decide +kernel
theorem dX13_at_13 : decode cX13_at 13 = .ok (.iaload, 1) := by decide +kernel
theorem dX13_at_14 : decode cX13_at 14 = .ok (.goto 4, 3) := by decide +kernel
theorem dX13_at_17 : decode cX13_at 17 = .ok (.iconst 0, 1) := by decide +kernel
theorem dX13_at_18 : decode cX13_at 18 = .ok (.ireturn, 1) := by decide +kernel
theorem mt_X13_isDigit : mx_mt 385 = some (yX13_isDigit, cX13_isDigit, 1, (some .boolean)) := rfl
theorem dX13_isDigit_0 : decode cX13_isDigit 0 = .ok (.iload_n 0, 1) := by decide +kernel
theorem dX13_isDigit_1 : decode cX13_isDigit 1 = .ok (.bipush 48, 2) := by decide +kernel
theorem dX13_isDigit_3 : decode cX13_isDigit 3 = .ok (.if_icmp .lt 13, 3) := by decide +kernel
theorem dX13_isDigit_6 : decode cX13_isDigit 6 = .ok (.iload_n 0, 1) := by decide +kernel
theorem dX13_isDigit_7 : decode cX13_isDigit 7 = .ok (.bipush 57, 2) := by decide +kernel
theorem dX13_isDigit_9 : decode cX13_isDigit 9 = .ok (.if_icmp .gt 7, 3) := by decide +kernel
theorem dX13_isDigit_12 : decode cX13_isDigit 12 = .ok (.iconst 1, 1) := by decide +kernel
theorem dX13_isDigit_13 : decode cX13_isDigit 13 = .ok (.goto 4, 3) := by decide +kernel
theorem dX13_isDigit_16 : decode cX13_isDigit 16 = .ok (.iconst 0, 1) := by decide +kernel
theorem dX13_isDigit_17 : decode cX13_isDigit 17 = .ok (.ireturn, 1) := by decide +kernel
theorem mt_X13_isLetter : mx_mt 384 = some (yX13_isLetter, cX13_isLetter, 1, (some .boolean)) := rfl
theorem dX13_isLetter_0 : decode cX13_isLetter 0 = .ok (.iload_n 0, 1) := by decide +kernel
theorem dX13_isLetter_1 : decode cX13_isLetter 1 = .ok (.bipush 97, 2) := by decide +kernel
theorem dX13_isLetter_3 : decode cX13_isLetter 3 = .ok (.if_icmp .lt 9, 3) := by decide +kernel
theorem dX13_isLetter_6 : decode cX13_isLetter 6 = .ok (.iload_n 0, 1) := by decide +kernel
theorem dX13_isLetter_7 : decode cX13_isLetter 7 = .ok (.bipush 122, 2) := by decide +kernel
theorem dX13_isLetter_9 : decode cX13_isLetter 9 = .ok (.if_icmp .le 15, 3) := by decide +kernel
theorem dX13_isLetter_12 : decode cX13_isLetter 12 = .ok (.iload_n 0, 1) := by decide +kernel
theorem dX13_isLetter_13 : decode cX13_isLetter 13 = .ok (.bipush 65, 2) := by decide +kernel
theorem dX13_isLetter_15 : decode cX13_isLetter 15 = .ok (.if_icmp .lt 13, 3) := by decide +kernel
theorem dX13_isLetter_18 : decode cX13_isLetter 18 = .ok (.iload_n 0, 1) := by decide +kernel
theorem dX13_isLetter_19 : decode cX13_isLetter 19 = .ok (.bipush 90, 2) := by decide +kernel
theorem dX13_isLetter_21 : decode cX13_isLetter 21 = .ok (.if_icmp .gt 7, 3) := by decide +kernel
theorem dX13_isLetter_24 : decode cX13_isLetter 24 = .ok (.iconst 1, 1) := by decide +kernel
theorem dX13_isLetter_25 : decode cX13_isLetter 25 = .ok (.goto 4, 3) := by decide +kernel
theorem dX13_isLetter_28 : decode cX13_isLetter 28 = .ok (.iconst 0, 1) := by decide +kernel
theorem dX13_isLetter_29 : decode cX13_isLetter 29 = .ok (.ireturn, 1) := by decide +kernel
theorem rs_RX13_341 : mx_res RX13 341 = some (1, 386, 1) := by decide +kernel
theorem mt_X13_signAt : mx_mt 389 = some (yX13_signAt, cX13_signAt, 4, (some .int)) := rfl
theorem dX13_signAt_0 : decode cX13_signAt 0 = .ok (.aload_n 0, 1) := by decide +kernel
theorem dX13_signAt_1 : decode cX13_signAt 1 = .ok (.iload_n 1, 1) := by decide +kernel
theorem dX13_signAt_2 : decode cX13_signAt 2 = .ok (.invokevirtual 341, 3) := by decide +kernel
theorem dX13_signAt_5 : decode cX13_signAt 5 = .ok (.istore_n 2, 1) := by decide +kernel
theorem dX13_signAt_6 : decode cX13_signAt 6 = .ok (.aload_n 0, 1) := by decide +kernel
theorem dX13_signAt_7 : decode cX13_signAt 7 = .ok (.iload_n 1, 1) := by decide +kernel
theorem dX13_signAt_8 : decode cX13_signAt 8 = .ok (.iconst 1, 1) := by decide +kernel
theorem dX13_signAt_9 : decode cX13_signAt 9 = .ok (.iadd, 1) := by decide +kernel
theorem dX13_signAt_10 : decode cX13_signAt 10 = .ok (.invokevirtual 341, 3) := by decide +kernel
theorem dX13_signAt_13 : decode cX13_signAt 13 = .ok (.istore_n 3, 1) := by decide +kernel
theorem dX13_signAt_14 : decode cX13_signAt 14 = .ok (.iload_n 2, 1) := by decide +kernel
theorem dX13_signAt_15 : decode cX13_signAt 15 = .ok (.tableswitch 470 33 126 #[391, 470, 470, 470, 389, 459, 470, 389, 389, 389, 389, 389, 389, 389, 389, 470, 470, 470, 470, 470, 470, 470, 470, 470, 470, 389, 389, 403, 391, 421, 389, 470, 470, 470, 470, 470, 470, 470, 470, 470, 470, 470, 470, 470, 470, 470, 470, 470, 470, 470, 470, 470, 470, 470, 470, 470, 470, 470, 389, 470, 389, 389, 470, 470, 470, 470, 470, 470, 470, 470, 470, 470, 470, 470, 470, 470, 470, 470, 470, 470, 470, 470, 470, 470, 470, 470, 470, 470, 470, 470, 389, 459, 389, 389], 389) := by decide +kernel
theorem dX13_signAt_404 : decode cX13_signAt 404 = .ok (.iconst 1, 1) := by decide +kernel
theorem dX13_signAt_405 : decode cX13_signAt 405 = .ok (.ireturn, 1) := by decide +kernel
theorem dX13_signAt_406 : decode cX13_signAt 406 = .ok (.iload_n 3, 1) := by decide +kernel
theorem dX13_signAt_407 : decode cX13_signAt 407 = .ok (.bipush 61, 2) := by decide +kernel
theorem dX13_signAt_409 : decode cX13_signAt 409 = .ok (.if_icmp .ne 7, 3) := by decide +kernel
theorem dX13_signAt_412 : decode cX13_signAt 412 = .ok (.iconst 2, 1) := by decide +kernel
theorem dX13_signAt_413 : decode cX13_signAt 413 = .ok (.goto 4, 3) := by decide +kernel
theorem dX13_signAt_416 : decode cX13_signAt 416 = .ok (.iconst 1, 1) := by decide +kernel
theorem dX13_signAt_417 : decode cX13_signAt 417 = .ok (.ireturn, 1) := by decide +kernel
theorem dX13_signAt_418 : decode cX13_signAt 418 = .ok (.iload_n 3, 1) := by decide +kernel
theorem dX13_signAt_419 : decode cX13_signAt 419 = .ok (.bipush 61, 2) := by decide +kernel
theorem dX13_signAt_421 : decode cX13_signAt 421 = .ok (.if_icmp .eq 9, 3) := by decide +kernel
theorem dX13_signAt_424 : decode cX13_signAt 424 = .ok (.iload_n 3, 1) := by decide +kernel
theorem dX13_signAt_425 : decode cX13_signAt 425 = .ok (.bipush 60, 2) := by decide +kernel
theorem dX13_signAt_427 : decode cX13_signAt 427 = .ok (.if_icmp .ne 7, 3) := by decide +kernel
theorem dX13_signAt_430 : decode cX13_signAt 430 = .ok (.iconst 2, 1) := by decide +kernel
theorem dX13_signAt_431 : decode cX13_signAt 431 = .ok (.goto 4, 3) := by decide +kernel
theorem dX13_signAt_434 : decode cX13_signAt 434 = .ok (.iconst 1, 1) := by decide +kernel
theorem dX13_signAt_435 : decode cX13_signAt 435 = .ok (.ireturn, 1) := by decide +kernel
theorem dX13_signAt_436 : decode cX13_signAt 436 = .ok (.iload_n 3, 1) := by decide +kernel
theorem dX13_signAt_437 : decode cX13_signAt 437 = .ok (.bipush 62, 2) := by decide +kernel
theorem dX13_signAt_439 : decode cX13_signAt 439 = .ok (.if_icmp .ne 23, 3) := by decide +kernel
theorem dX13_signAt_442 : decode cX13_signAt 442 = .ok (.aload_n 0, 1) := by decide +kernel
theorem dX13_signAt_443 : decode cX13_signAt 443 = .ok (.iload_n 1, 1) := by decide +kernel
theorem dX13_signAt_444 : decode cX13_signAt 444 = .ok (.iconst 2, 1) := by decide +kernel
theorem dX13_signAt_445 : decode cX13_signAt 445 = .ok (.iadd, 1) := by decide +kernel
theorem dX13_signAt_446 : decode cX13_signAt 446 = .ok (.invokevirtual 341, 3) := by decide +kernel
theorem dX13_signAt_449 : decode cX13_signAt 449 = .ok (.bipush 62, 2) := by decide +kernel
theorem dX13_signAt_451 : decode cX13_signAt 451 = .ok (.if_icmp .ne 7, 3) := by decide +kernel
theorem dX13_signAt_454 : decode cX13_signAt 454 = .ok (.iconst 3, 1) := by decide +kernel
theorem dX13_signAt_455 : decode cX13_signAt 455 = .ok (.goto 18, 3) := by decide +kernel
theorem dX13_signAt_458 : decode cX13_signAt 458 = .ok (.iconst 2, 1) := by decide +kernel
theorem dX13_signAt_459 : decode cX13_signAt 459 = .ok (.goto 14, 3) := by decide +kernel
theorem dX13_signAt_462 : decode cX13_signAt 462 = .ok (.iload_n 3, 1) := by decide +kernel
theorem dX13_signAt_463 : decode cX13_signAt 463 = .ok (.bipush 61, 2) := by decide +kernel
theorem dX13_signAt_465 : decode cX13_signAt 465 = .ok (.if_icmp .ne 7, 3) := by decide +kernel
theorem dX13_signAt_468 : decode cX13_signAt 468 = .ok (.iconst 2, 1) := by decide +kernel
theorem dX13_signAt_469 : decode cX13_signAt 469 = .ok (.goto 4, 3) := by decide +kernel
theorem dX13_signAt_472 : decode cX13_signAt 472 = .ok (.iconst 1, 1) := by decide +kernel
theorem dX13_signAt_473 : decode cX13_signAt 473 = .ok (.ireturn, 1) := by decide +kernel
theorem dX13_signAt_474 : decode cX13_signAt 474 = .ok (.iload_n 3, 1) := by decide +kernel
theorem dX13_signAt_475 : decode cX13_signAt 475 = .ok (.iload_n 2, 1) := by decide +kernel
theorem dX13_signAt_476 : decode cX13_signAt 476 = .ok (.if_icmp .ne 7, 3) := by decide +kernel
theorem dX13_signAt_479 : decode cX13_signAt 479 = .ok (.iconst 2, 1) := by decide +kernel
theorem dX13_signAt_480 : decode cX13_signAt 480 = .ok (.goto 4, 3) := by decide +kernel
theorem dX13_signAt_483 : decode cX13_signAt 483 = .ok (.iconst 1, 1) := by decide +kernel
theorem dX13_signAt_484 : decode cX13_signAt 484 = .ok (.ireturn, 1) := by decide +kernel
theorem dX13_signAt_485 : decode cX13_signAt 485 = .ok (.iconst 0, 1) := by decide +kernel
theorem dX13_signAt_486 : decode cX13_signAt 486 = .ok (.ireturn, 1) := by decide +kernel
theorem rs_RX13_338 : mx_res RX13 338 = some (0, 13, 8) := by decide +kernel
theorem ft_13_8 : mx_fty 13 8 = some (.int, false, "ClassMillModel") := by decide +kernel
theorem mt_X13_token : mx_mt 388 = some (yX13_token, cX13_token, 5, none) := rfl
theorem dX13_token_0 : decode cX13_token 0 = .ok (.aload_n 0, 1) := by decide +kernel
theorem dX13_token_1 : decode cX13_token 1 = .ok (.getfield 16, 3) := by decide +kernel
theorem dX13_token_4 : decode cX13_token 4 = .ok (.aload_n 0, 1) := by decide +kernel
theorem dX13_token_5 : decode cX13_token 5 = .ok (.getfield 338, 3) := by decide +kernel
theorem dX13_token_8 : decode cX13_token 8 = .ok (.iload_n 1, 1) := by decide +kernel
theorem dX13_token_9 : decode cX13_token 9 = .ok (.iastore, 1) := by decide +kernel
theorem dX13_token_10 : decode cX13_token 10 = .ok (.aload_n 0, 1) := by decide +kernel
theorem dX13_token_11 : decode cX13_token 11 = .ok (.getfield 19, 3) := by decide +kernel
theorem dX13_token_14 : decode cX13_token 14 = .ok (.aload_n 0, 1) := by decide +kernel
theorem dX13_token_15 : decode cX13_token 15 = .ok (.getfield 338, 3) := by decide +kernel
theorem dX13_token_18 : decode cX13_token 18 = .ok (.iload_n 2, 1) := by decide +kernel
theorem dX13_token_19 : decode cX13_token 19 = .ok (.iastore, 1) := by decide +kernel
theorem dX13_token_20 : decode cX13_token 20 = .ok (.aload_n 0, 1) := by decide +kernel
theorem dX13_token_21 : decode cX13_token 21 = .ok (.getfield 22, 3) := by decide +kernel
theorem dX13_token_24 : decode cX13_token 24 = .ok (.aload_n 0, 1) := by decide +kernel
theorem dX13_token_25 : decode cX13_token 25 = .ok (.getfield 338, 3) := by decide +kernel
theorem dX13_token_28 : decode cX13_token 28 = .ok (.iload_n 3, 1) := by decide +kernel
theorem dX13_token_29 : decode cX13_token 29 = .ok (.iastore, 1) := by decide +kernel
theorem dX13_token_30 : decode cX13_token 30 = .ok (.aload_n 0, 1) := by decide +kernel
theorem dX13_token_31 : decode cX13_token 31 = .ok (.getfield 25, 3) := by decide +kernel
theorem dX13_token_34 : decode cX13_token 34 = .ok (.aload_n 0, 1) := by decide +kernel
theorem dX13_token_35 : decode cX13_token 35 = .ok (.getfield 338, 3) := by decide +kernel
theorem dX13_token_38 : decode cX13_token 38 = .ok (.iload 4, 2) := by decide +kernel
theorem dX13_token_40 : decode cX13_token 40 = .ok (.iastore, 1) := by decide +kernel
theorem dX13_token_41 : decode cX13_token 41 = .ok (.aload_n 0, 1) := by decide +kernel
theorem dX13_token_42 : decode cX13_token 42 = .ok (.dup, 1) := by decide +kernel
theorem dX13_token_43 : decode cX13_token 43 = .ok (.getfield 338, 3) := by decide +kernel
theorem dX13_token_46 : decode cX13_token 46 = .ok (.iconst 1, 1) := by decide +kernel
theorem dX13_token_47 : decode cX13_token 47 = .ok (.iadd, 1) := by decide +kernel
theorem dX13_token_48 : decode cX13_token 48 = .ok (.putfield 338, 3) := by decide +kernel
theorem dX13_token_51 : decode cX13_token 51 = .ok (.return_, 1) := by decide +kernel
