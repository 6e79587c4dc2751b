theorem rs_RX13_122 : mx_res RX13 122 = some (0, 13, 55) := by decide +kernel
theorem rs_RX13_503 : mx_res RX13 503 = some (1, 424, 3) := by decide +kernel
theorem rs_RX13_516 : mx_res RX13 516 = some (0, 13, 51) := by decide +kernel
theorem rs_RX13_522 : mx_res RX13 522 = some (0, 13, 54) := by decide +kernel
theorem rs_RX13_528 : mx_res RX13 528 = some (1, 431, 2) := by decide +kernel
theorem rs_RX13_531 : mx_res RX13 531 = some (1, 433, 1) := by decide +kernel
theorem rs_RX13_549 : mx_res RX13 549 = some (1, 434, 1) := by decide +kernel
theorem ft_13_54 : mx_fty 13 54 = some (.int, false, "ClassMillModel") := by decide +kernel
theorem mt_X13_ruled : mx_mt 433 = some (yX13_ruled, cX13_ruled, 8, (some .boolean)) := rfl
theorem dX13_ruled_0 : decode cX13_ruled 0 = .ok (.aload_n 0, 1) := by decide +kernel
theorem dX13_ruled_1 : decode cX13_ruled 1 = .ok (.getfield 319, 3) := by decide +kernel
theorem dX13_ruled_4 : decode cX13_ruled 4 = .ok (.ifCond .eq 5, 3) := by decide +kernel
theorem dX13_ruled_7 : decode cX13_ruled 7 = .ok (.iconst 1, 1) := by decide +kernel
theorem dX13_ruled_8 : decode cX13_ruled 8 = .ok (.ireturn, 1) := by decide +kernel
theorem dX13_ruled_9 : decode cX13_ruled 9 = .ok (.aload_n 0, 1) := by decide +kernel
theorem dX13_ruled_10 : decode cX13_ruled 10 = .ok (.getfield 513, 3) := by decide +kernel
theorem dX13_ruled_13 : decode cX13_ruled 13 = .ok (.istore_n 2, 1) := by decide +kernel
theorem dX13_ruled_14 : decode cX13_ruled 14 = .ok (.iconst 1, 1) := by decide +kernel
theorem dX13_ruled_15 : decode cX13_ruled 15 = .ok (.istore_n 3, 1) := by decide +kernel
theorem dX13_ruled_16 : decode cX13_ruled 16 = .ok (.aload_n 0, 1) := by decide +kernel
theorem dX13_ruled_17 : decode cX13_ruled 17 = .ok (.getfield 28, 3) := by decide +kernel
theorem dX13_ruled_20 : decode cX13_ruled 20 = .ok (.iload_n 1, 1) := by decide +kernel
theorem dX13_ruled_21 : decode cX13_ruled 21 = .ok (.iaload, 1) := by decide +kernel
theorem dX13_ruled_22 : decode cX13_ruled 22 = .ok (.tableswitch 884 1 11 #[58, 125, 244, 314, 422, 422, 466, 564, 609, 748, 776], 58) := by decide +kernel
theorem dX13_ruled_80 : decode cX13_ruled 80 = .ok (.aload_n 0, 1) := by decide +kernel
theorem dX13_ruled_81 : decode cX13_ruled 81 = .ok (.getfield 37, 3) := by decide +kernel
theorem dX13_ruled_84 : decode cX13_ruled 84 = .ok (.iload_n 1, 1) := by decide +kernel
theorem dX13_ruled_85 : decode cX13_ruled 85 = .ok (.iaload, 1) := by decide +kernel
theorem dX13_ruled_86 : decode cX13_ruled 86 = .ok (.istore 6, 2) := by decide +kernel
theorem dX13_ruled_88 : decode cX13_ruled 88 = .ok (.iload 6, 2) := by decide +kernel
theorem dX13_ruled_90 : decode cX13_ruled 90 = .ok (.iconst (-1), 1) := by decide +kernel
theorem dX13_ruled_91 : decode cX13_ruled 91 = .ok (.if_icmp .eq 49, 3) := by decide +kernel
theorem dX13_ruled_94 : decode cX13_ruled 94 = .ok (.aload_n 0, 1) := by decide +kernel
theorem dX13_ruled_95 : decode cX13_ruled 95 = .ok (.getfield 319, 3) := by decide +kernel
theorem dX13_ruled_98 : decode cX13_ruled 98 = .ok (.ifCond .ne 42, 3) := by decide +kernel
theorem dX13_ruled_101 : decode cX13_ruled 101 = .ok (.iload_n 3, 1) := by decide +kernel
theorem dX13_ruled_102 : decode cX13_ruled 102 = .ok (.ifCond .ne 19, 3) := by decide +kernel
theorem dX13_ruled_105 : decode cX13_ruled 105 = .ok (.aload_n 0, 1) := by decide +kernel
theorem dX13_ruled_106 : decode cX13_ruled 106 = .ok (.bipush 9, 2) := by decide +kernel
theorem dX13_ruled_108 : decode cX13_ruled 108 = .ok (.aload_n 0, 1) := by decide +kernel
theorem dX13_ruled_109 : decode cX13_ruled 109 = .ok (.getfield 34, 3) := by decide +kernel
theorem dX13_ruled_112 : decode cX13_ruled 112 = .ok (.iload 6, 2) := by decide +kernel
theorem dX13_ruled_114 : decode cX13_ruled 114 = .ok (.iaload, 1) := by decide +kernel
theorem dX13_ruled_115 : decode cX13_ruled 115 = .ok (.invokevirtual 379, 3) := by decide +kernel
theorem dX13_ruled_118 : decode cX13_ruled 118 = .ok (.goto 10, 3) := by decide +kernel
theorem dX13_ruled_121 : decode cX13_ruled 121 = .ok (.aload_n 0, 1) := by decide +kernel
theorem dX13_ruled_122 : decode cX13_ruled 122 = .ok (.iload 6, 2) := by decide +kernel
theorem dX13_ruled_124 : decode cX13_ruled 124 = .ok (.invokevirtual 531, 3) := by decide +kernel
theorem dX13_ruled_127 : decode cX13_ruled 127 = .ok (.istore_n 3, 1) := by decide +kernel
theorem dX13_ruled_128 : decode cX13_ruled 128 = .ok (.aload_n 0, 1) := by decide +kernel
theorem dX13_ruled_129 : decode cX13_ruled 129 = .ok (.getfield 46, 3) := by decide +kernel
theorem dX13_ruled_132 : decode cX13_ruled 132 = .ok (.iload 6, 2) := by decide +kernel
theorem dX13_ruled_134 : decode cX13_ruled 134 = .ok (.iaload, 1) := by decide +kernel
theorem dX13_ruled_135 : decode cX13_ruled 135 = .ok (.istore 6, 2) := by decide +kernel
theorem dX13_ruled_137 : decode cX13_ruled 137 = .ok (.goto (-49), 3) := by decide +kernel
theorem dX13_ruled_140 : decode cX13_ruled 140 = .ok (.aload_n 0, 1) := by decide +kernel
theorem dX13_ruled_141 : decode cX13_ruled 141 = .ok (.iload_n 2, 1) := by decide +kernel
theorem dX13_ruled_142 : decode cX13_ruled 142 = .ok (.putfield 513, 3) := by decide +kernel
theorem dX13_ruled_145 : decode cX13_ruled 145 = .ok (.iload_n 3, 1) := by decide +kernel
theorem dX13_ruled_146 : decode cX13_ruled 146 = .ok (.ireturn, 1) := by decide +kernel
theorem dX13_ruled_147 : decode cX13_ruled 147 = .ok (.aload_n 0, 1) := by decide +kernel
theorem dX13_ruled_148 : decode cX13_ruled 148 = .ok (.aload_n 0, 1) := by decide +kernel
theorem dX13_ruled_149 : decode cX13_ruled 149 = .ok (.getfield 52, 3) := by decide +kernel
theorem dX13_ruled_152 : decode cX13_ruled 152 = .ok (.iload_n 1, 1) := by decide +kernel
theorem dX13_ruled_153 : decode cX13_ruled 153 = .ok (.iaload, 1) := by decide +kernel
theorem dX13_ruled_154 : decode cX13_ruled 154 = .ok (.aload_n 0, 1) := by decide +kernel
theorem dX13_ruled_155 : decode cX13_ruled 155 = .ok (.getfield 43, 3) := by decide +kernel
theorem dX13_ruled_158 : decode cX13_ruled 158 = .ok (.iload_n 1, 1) := by decide +kernel
theorem dX13_ruled_159 : decode cX13_ruled 159 = .ok (.iaload, 1) := by decide +kernel
theorem dX13_ruled_160 : decode cX13_ruled 160 = .ok (.iconst 4, 1) := by decide +kernel
theorem dX13_ruled_161 : decode cX13_ruled 161 = .ok (.idiv, 1) := by decide +kernel
theorem dX13_ruled_162 : decode cX13_ruled 162 = .ok (.aload_n 0, 1) := by decide +kernel
theorem dX13_ruled_163 : decode cX13_ruled 163 = .ok (.getfield 43, 3) := by decide +kernel
theorem dX13_ruled_166 : decode cX13_ruled 166 = .ok (.iload_n 1, 1) := by decide +kernel
theorem dX13_ruled_167 : decode cX13_ruled 167 = .ok (.iaload, 1) := by decide +kernel
theorem dX13_ruled_168 : decode cX13_ruled 168 = .ok (.iconst 4, 1) := by decide +kernel
theorem dX13_ruled_169 : decode cX13_ruled 169 = .ok (.irem, 1) := by decide +kernel
theorem dX13_ruled_170 : decode cX13_ruled 170 = .ok (.iconst 2, 1) := by decide +kernel
theorem dX13_ruled_171 : decode cX13_ruled 171 = .ok (.if_icmp .ne 7, 3) := by decide +kernel
theorem dX13_ruled_174 : decode cX13_ruled 174 = .ok (.iconst 1, 1) := by decide +kernel
theorem dX13_ruled_175 : decode cX13_ruled 175 = .ok (.goto 4, 3) := by decide +kernel
theorem dX13_ruled_178 : decode cX13_ruled 178 = .ok (.iconst 0, 1) := by decide +kernel
theorem dX13_ruled_179 : decode cX13_ruled 179 = .ok (.invokevirtual 503, 3) := by decide +kernel
theorem dX13_ruled_182 : decode cX13_ruled 182 = .ok (.istore 5, 2) := by decide +kernel
theorem dX13_ruled_184 : decode cX13_ruled 184 = .ok (.aload_n 0, 1) := by decide +kernel
theorem dX13_ruled_185 : decode cX13_ruled 185 = .ok (.aload_n 0, 1) := by decide +kernel
theorem dX13_ruled_186 : decode cX13_ruled 186 = .ok (.getfield 31, 3) := by decide +kernel
theorem dX13_ruled_189 : decode cX13_ruled 189 = .ok (.iload_n 1, 1) := by decide +kernel
theorem dX13_ruled_190 : decode cX13_ruled 190 = .ok (.iaload, 1) := by decide +kernel
theorem dX13_ruled_191 : decode cX13_ruled 191 = .ok (.invokevirtual 534, 3) := by decide +kernel
theorem dX13_ruled_194 : decode cX13_ruled 194 = .ok (.iconst (-1), 1) := by decide +kernel
theorem dX13_ruled_195 : decode cX13_ruled 195 = .ok (.if_icmp .eq 14, 3) := by decide +kernel
theorem dX13_ruled_198 : decode cX13_ruled 198 = .ok (.aload_n 0, 1) := by decide +kernel
theorem dX13_ruled_199 : decode cX13_ruled 199 = .ok (.iconst 4, 1) := by decide +kernel
theorem dX13_ruled_200 : decode cX13_ruled 200 = .ok (.aload_n 0, 1) := by decide +kernel
theorem dX13_ruled_201 : decode cX13_ruled 201 = .ok (.getfield 31, 3) := by decide +kernel
theorem dX13_ruled_204 : decode cX13_ruled 204 = .ok (.iload_n 1, 1) := by decide +kernel
theorem dX13_ruled_205 : decode cX13_ruled 205 = .ok (.iaload, 1) := by decide +kernel
theorem dX13_ruled_206 : decode cX13_ruled 206 = .ok (.invokevirtual 379, 3) := by decide +kernel
theorem dX13_ruled_209 : decode cX13_ruled 209 = .ok (.aload_n 0, 1) := by decide +kernel
theorem dX13_ruled_210 : decode cX13_ruled 210 = .ok (.aload_n 0, 1) := by decide +kernel
theorem dX13_ruled_211 : decode cX13_ruled 211 = .ok (.getfield 37, 3) := by decide +kernel
theorem dX13_ruled_214 : decode cX13_ruled 214 = .ok (.iload_n 1, 1) := by decide +kernel
theorem dX13_ruled_215 : decode cX13_ruled 215 = .ok (.iaload, 1) := by decide +kernel
theorem dX13_ruled_216 : decode cX13_ruled 216 = .ok (.invokevirtual 537, 3) := by decide +kernel
theorem dX13_ruled_219 : decode cX13_ruled 219 = .ok (.istore 6, 2) := by decide +kernel
theorem dX13_ruled_221 : decode cX13_ruled 221 = .ok (.aload_n 0, 1) := by decide +kernel
theorem dX13_ruled_222 : decode cX13_ruled 222 = .ok (.iload 6, 2) := by decide +kernel
theorem dX13_ruled_224 : decode cX13_ruled 224 = .ok (.iload 5, 2) := by decide +kernel
theorem dX13_ruled_226 : decode cX13_ruled 226 = .ok (.invokevirtual 491, 3) := by decide +kernel
theorem dX13_ruled_229 : decode cX13_ruled 229 = .ok (.ifCond .ne 15, 3) := by decide +kernel
theorem dX13_ruled_232 : decode cX13_ruled 232 = .ok (.aload_n 0, 1) := by decide +kernel
theorem dX13_ruled_233 : decode cX13_ruled 233 = .ok (.bipush 6, 2) := by decide +kernel
theorem dX13_ruled_235 : decode cX13_ruled 235 = .ok (.aload_n 0, 1) := by decide +kernel
theorem dX13_ruled_236 : decode cX13_ruled 236 = .ok (.getfield 55, 3) := by decide +kernel
theorem dX13_ruled_239 : decode cX13_ruled 239 = .ok (.iload_n 1, 1) := by decide +kernel
theorem dX13_ruled_240 : decode cX13_ruled 240 = .ok (.iaload, 1) := by decide +kernel
theorem dX13_ruled_241 : decode cX13_ruled 241 = .ok (.invokevirtual 379, 3) := by decide +kernel
theorem dX13_ruled_244 : decode cX13_ruled 244 = .ok (.aload_n 0, 1) := by decide +kernel
theorem dX13_ruled_245 : decode cX13_ruled 245 = .ok (.getfield 49, 3) := by decide +kernel
theorem dX13_ruled_248 : decode cX13_ruled 248 = .ok (.iload_n 1, 1) := by decide +kernel
theorem dX13_ruled_249 : decode cX13_ruled 249 = .ok (.iload 5, 2) := by decide +kernel
theorem dX13_ruled_251 : decode cX13_ruled 251 = .ok (.iastore, 1) := by decide +kernel
theorem dX13_ruled_252 : decode cX13_ruled 252 = .ok (.aload_n 0, 1) := by decide +kernel
theorem dX13_ruled_253 : decode cX13_ruled 253 = .ok (.aload_n 0, 1) := by decide +kernel
theorem dX13_ruled_254 : decode cX13_ruled 254 = .ok (.getfield 31, 3) := by decide +kernel
theorem dX13_ruled_257 : decode cX13_ruled 257 = .ok (.iload_n 1, 1) := by decide +kernel
theorem dX13_ruled_258 : decode cX13_ruled 258 = .ok (.iaload, 1) := by decide +kernel
theorem dX13_ruled_259 : decode cX13_ruled 259 = .ok (.iload 5, 2) := by decide +kernel
theorem dX13_ruled_261 : decode cX13_ruled 261 = .ok (.invokevirtual 528, 3) := by decide +kernel
theorem dX13_ruled_264 : decode cX13_ruled 264 = .ok (.iconst 1, 1) := by decide +kernel
theorem dX13_ruled_265 : decode cX13_ruled 265 = .ok (.ireturn, 1) := by decide +kernel
theorem dX13_ruled_266 : decode cX13_ruled 266 = .ok (.aload_n 0, 1) := by decide +kernel
theorem dX13_ruled_267 : decode cX13_ruled 267 = .ok (.aload_n 0, 1) := by decide +kernel
theorem dX13_ruled_268 : decode cX13_ruled 268 = .ok (.getfield 37, 3) := by decide +kernel
theorem dX13_ruled_271 : decode cX13_ruled 271 = .ok (.iload_n 1, 1) := by decide +kernel
theorem dX13_ruled_272 : decode cX13_ruled 272 = .ok (.iaload, 1) := by decide +kernel
theorem dX13_ruled_273 : decode cX13_ruled 273 = .ok (.invokevirtual 540, 3) := by decide +kernel
theorem dX13_ruled_276 : decode cX13_ruled 276 = .ok (.aload_n 0, 1) := by decide +kernel
theorem dX13_ruled_277 : decode cX13_ruled 277 = .ok (.aload_n 0, 1) := by decide +kernel
theorem dX13_ruled_278 : decode cX13_ruled 278 = .ok (.getfield 40, 3) := by decide +kernel
theorem dX13_ruled_281 : decode cX13_ruled 281 = .ok (.iload_n 1, 1) := by decide +kernel
theorem dX13_ruled_282 : decode cX13_ruled 282 = .ok (.iaload, 1) := by decide +kernel
theorem dX13_ruled_283 : decode cX13_ruled 283 = .ok (.invokevirtual 531, 3) := by decide +kernel
theorem dX13_ruled_286 : decode cX13_ruled 286 = .ok (.istore_n 3, 1) := by decide +kernel
theorem dX13_ruled_287 : decode cX13_ruled 287 = .ok (.aload_n 0, 1) := by decide +kernel
theorem dX13_ruled_288 : decode cX13_ruled 288 = .ok (.iload_n 2, 1) := by decide +kernel
theorem dX13_ruled_289 : decode cX13_ruled 289 = .ok (.putfield 513, 3) := by decide +kernel
theorem dX13_ruled_292 : decode cX13_ruled 292 = .ok (.aload_n 0, 1) := by decide +kernel
theorem dX13_ruled_293 : decode cX13_ruled 293 = .ok (.getfield 43, 3) := by decide +kernel
theorem dX13_ruled_296 : decode cX13_ruled 296 = .ok (.iload_n 1, 1) := by decide +kernel
theorem dX13_ruled_297 : decode cX13_ruled 297 = .ok (.iaload, 1) := by decide +kernel
theorem dX13_ruled_298 : decode cX13_ruled 298 = .ok (.iconst (-1), 1) := by decide +kernel
theorem dX13_ruled_299 : decode cX13_ruled 299 = .ok (.if_icmp .ne 5, 3) := by decide +kernel
theorem dX13_ruled_302 : decode cX13_ruled 302 = .ok (.iconst 1, 1) := by decide +kernel
theorem dX13_ruled_303 : decode cX13_ruled 303 = .ok (.ireturn, 1) := by decide +kernel
theorem dX13_ruled_304 : decode cX13_ruled 304 = .ok (.aload_n 0, 1) := by decide +kernel
theorem dX13_ruled_305 : decode cX13_ruled 305 = .ok (.aload_n 0, 1) := by decide +kernel
theorem dX13_ruled_306 : decode cX13_ruled 306 = .ok (.getfield 43, 3) := by decide +kernel
theorem dX13_ruled_309 : decode cX13_ruled 309 = .ok (.iload_n 1, 1) := by decide +kernel
theorem dX13_ruled_310 : decode cX13_ruled 310 = .ok (.iaload, 1) := by decide +kernel
theorem dX13_ruled_311 : decode cX13_ruled 311 = .ok (.invokevirtual 531, 3) := by decide +kernel
theorem dX13_ruled_314 : decode cX13_ruled 314 = .ok (.istore 4, 2) := by decide +kernel
theorem dX13_ruled_316 : decode cX13_ruled 316 = .ok (.aload_n 0, 1) := by decide +kernel
theorem dX13_ruled_317 : decode cX13_ruled 317 = .ok (.iload_n 2, 1) := by decide +kernel
theorem dX13_ruled_318 : decode cX13_ruled 318 = .ok (.putfield 513, 3) := by decide +kernel
theorem dX13_ruled_321 : decode cX13_ruled 321 = .ok (.iload_n 3, 1) := by decide +kernel
theorem dX13_ruled_322 : decode cX13_ruled 322 = .ok (.ifCond .ne 8, 3) := by decide +kernel
theorem dX13_ruled_325 : decode cX13_ruled 325 = .ok (.iload 4, 2) := by decide +kernel
theorem dX13_ruled_327 : decode cX13_ruled 327 = .ok (.ifCond .eq 7, 3) := by decide +kernel
theorem dX13_ruled_330 : decode cX13_ruled 330 = .ok (.iconst 1, 1) := by decide +kernel
theorem dX13_ruled_331 : decode cX13_ruled 331 = .ok (.goto 4, 3) := by decide +kernel
theorem dX13_ruled_334 : decode cX13_ruled 334 = .ok (.iconst 0, 1) := by decide +kernel
theorem dX13_ruled_335 : decode cX13_ruled 335 = .ok (.ireturn, 1) := by decide +kernel
theorem dX13_ruled_336 : decode cX13_ruled 336 = .ok (.aload_n 0, 1) := by decide +kernel
theorem dX13_ruled_337 : decode cX13_ruled 337 = .ok (.aload_n 0, 1) := by decide +kernel
theorem dX13_ruled_338 : decode cX13_ruled 338 = .ok (.getfield 37, 3) := by decide +kernel
theorem dX13_ruled_341 : decode cX13_ruled 341 = .ok (.iload_n 1, 1) := by decide +kernel
theorem dX13_ruled_342 : decode cX13_ruled 342 = .ok (.iaload, 1) := by decide +kernel
theorem dX13_ruled_343 : decode cX13_ruled 343 = .ok (.invokevirtual 540, 3) := by decide +kernel
theorem dX13_ruled_346 : decode cX13_ruled 346 = .ok (.aload_n 0, 1) := by decide +kernel
theorem dX13_ruled_347 : decode cX13_ruled 347 = .ok (.dup, 1) := by decide +kernel
theorem dX13_ruled_348 : decode cX13_ruled 348 = .ok (.getfield 522, 3) := by decide +kernel
theorem dX13_ruled_351 : decode cX13_ruled 351 = .ok (.iconst 1, 1) := by decide +kernel
theorem dX13_ruled_352 : decode cX13_ruled 352 = .ok (.iadd, 1) := by decide +kernel
theorem dX13_ruled_353 : decode cX13_ruled 353 = .ok (.putfield 522, 3) := by decide +kernel
theorem dX13_ruled_356 : decode cX13_ruled 356 = .ok (.aload_n 0, 1) := by decide +kernel
theorem dX13_ruled_357 : decode cX13_ruled 357 = .ok (.getfield 122, 3) := by decide +kernel
theorem dX13_ruled_360 : decode cX13_ruled 360 = .ok (.aload_n 0, 1) := by decide +kernel
theorem dX13_ruled_361 : decode cX13_ruled 361 = .ok (.getfield 522, 3) := by decide +kernel
theorem dX13_ruled_364 : decode cX13_ruled 364 = .ok (.iconst 0, 1) := by decide +kernel
theorem dX13_ruled_365 : decode cX13_ruled 365 = .ok (.bastore, 1) := by decide +kernel
theorem dX13_ruled_366 : decode cX13_ruled 366 = .ok (.aload_n 0, 1) := by decide +kernel
theorem dX13_ruled_367 : decode cX13_ruled 367 = .ok (.aload_n 0, 1) := by decide +kernel
theorem dX13_ruled_368 : decode cX13_ruled 368 = .ok (.getfield 40, 3) := by decide +kernel
theorem dX13_ruled_371 : decode cX13_ruled 371 = .ok (.iload_n 1, 1) := by decide +kernel
theorem dX13_ruled_372 : decode cX13_ruled 372 = .ok (.iaload, 1) := by decide +kernel
theorem dX13_ruled_373 : decode cX13_ruled 373 = .ok (.invokevirtual 531, 3) := by decide +kernel
theorem dX13_ruled_376 : decode cX13_ruled 376 = .ok (.pop, 1) := by decide +kernel
theorem dX13_ruled_377 : decode cX13_ruled 377 = .ok (.aload_n 0, 1) := by decide +kernel
theorem dX13_ruled_378 : decode cX13_ruled 378 = .ok (.iload_n 2, 1) := by decide +kernel
theorem dX13_ruled_379 : decode cX13_ruled 379 = .ok (.putfield 513, 3) := by decide +kernel
theorem dX13_ruled_382 : decode cX13_ruled 382 = .ok (.aload_n 0, 1) := by decide +kernel
theorem dX13_ruled_383 : decode cX13_ruled 383 = .ok (.getfield 52, 3) := by decide +kernel
theorem dX13_ruled_386 : decode cX13_ruled 386 = .ok (.iload_n 1, 1) := by decide +kernel
theorem dX13_ruled_387 : decode cX13_ruled 387 = .ok (.iaload, 1) := by decide +kernel
theorem dX13_ruled_388 : decode cX13_ruled 388 = .ok (.ifCond .eq 15, 3) := by decide +kernel
theorem dX13_ruled_391 : decode cX13_ruled 391 = .ok (.aload_n 0, 1) := by decide +kernel
theorem dX13_ruled_392 : decode cX13_ruled 392 = .ok (.getfield 122, 3) := by decide +kernel
theorem dX13_ruled_395 : decode cX13_ruled 395 = .ok (.aload_n 0, 1) := by decide +kernel
theorem dX13_ruled_396 : decode cX13_ruled 396 = .ok (.getfield 522, 3) := by decide +kernel
theorem dX13_ruled_399 : decode cX13_ruled 399 = .ok (.baload, 1) := by decide +kernel
theorem dX13_ruled_400 : decode cX13_ruled 400 = .ok (.ifCond .eq 7, 3) := by decide +kernel
theorem dX13_ruled_403 : decode cX13_ruled 403 = .ok (.iconst 1, 1) := by decide +kernel
theorem dX13_ruled_404 : decode cX13_ruled 404 = .ok (.goto 4, 3) := by decide +kernel
theorem dX13_ruled_407 : decode cX13_ruled 407 = .ok (.iconst 0, 1) := by decide +kernel
theorem dX13_ruled_408 : decode cX13_ruled 408 = .ok (.istore_n 3, 1) := by decide +kernel
theorem dX13_ruled_409 : decode cX13_ruled 409 = .ok (.aload_n 0, 1) := by decide +kernel
theorem dX13_ruled_410 : decode cX13_ruled 410 = .ok (.getfield 55, 3) := by decide +kernel
theorem dX13_ruled_413 : decode cX13_ruled 413 = .ok (.iload_n 1, 1) := by decide +kernel
theorem dX13_ruled_414 : decode cX13_ruled 414 = .ok (.aload_n 0, 1) := by decide +kernel
theorem dX13_ruled_415 : decode cX13_ruled 415 = .ok (.getfield 122, 3) := by decide +kernel
theorem dX13_ruled_418 : decode cX13_ruled 418 = .ok (.aload_n 0, 1) := by decide +kernel
theorem dX13_ruled_419 : decode cX13_ruled 419 = .ok (.getfield 522, 3) := by decide +kernel
theorem dX13_ruled_422 : decode cX13_ruled 422 = .ok (.baload, 1) := by decide +kernel
theorem dX13_ruled_423 : decode cX13_ruled 423 = .ok (.ifCond .eq 7, 3) := by decide +kernel
theorem dX13_ruled_426 : decode cX13_ruled 426 = .ok (.iconst 1, 1) := by decide +kernel
theorem dX13_ruled_427 : decode cX13_ruled 427 = .ok (.goto 4, 3) := by decide +kernel
theorem dX13_ruled_430 : decode cX13_ruled 430 = .ok (.iconst 0, 1) := by decide +kernel
theorem dX13_ruled_431 : decode cX13_ruled 431 = .ok (.iastore, 1) := by decide +kernel
theorem dX13_ruled_432 : decode cX13_ruled 432 = .ok (.aload_n 0, 1) := by decide +kernel
theorem dX13_ruled_433 : decode cX13_ruled 433 = .ok (.dup, 1) := by decide +kernel
theorem dX13_ruled_434 : decode cX13_ruled 434 = .ok (.getfield 522, 3) := by decide +kernel
theorem dX13_ruled_437 : decode cX13_ruled 437 = .ok (.iconst 1, 1) := by decide +kernel
theorem dX13_ruled_438 : decode cX13_ruled 438 = .ok (.isub, 1) := by decide +kernel
theorem dX13_ruled_439 : decode cX13_ruled 439 = .ok (.putfield 522, 3) := by decide +kernel
theorem dX13_ruled_442 : decode cX13_ruled 442 = .ok (.iload_n 3, 1) := by decide +kernel
theorem dX13_ruled_443 : decode cX13_ruled 443 = .ok (.ireturn, 1) := by decide +kernel
theorem dX13_ruled_444 : decode cX13_ruled 444 = .ok (.aload_n 0, 1) := by decide +kernel
theorem dX13_ruled_445 : decode cX13_ruled 445 = .ok (.getfield 522, 3) := by decide +kernel
theorem dX13_ruled_448 : decode cX13_ruled 448 = .ok (.ifCond .ne 18, 3) := by decide +kernel
theorem dX13_ruled_451 : decode cX13_ruled 451 = .ok (.aload_n 0, 1) := by decide +kernel
theorem dX13_ruled_452 : decode cX13_ruled 452 = .ok (.bipush 7, 2) := by decide +kernel
theorem dX13_ruled_454 : decode cX13_ruled 454 = .ok (.aload_n 0, 1) := by decide +kernel
theorem dX13_ruled_455 : decode cX13_ruled 455 = .ok (.getfield 31, 3) := by decide +kernel
theorem dX13_ruled_458 : decode cX13_ruled 458 = .ok (.iload_n 1, 1) := by decide +kernel
theorem dX13_ruled_459 : decode cX13_ruled 459 = .ok (.iaload, 1) := by decide +kernel
theorem dX13_ruled_460 : decode cX13_ruled 460 = .ok (.invokevirtual 379, 3) := by decide +kernel
theorem dX13_ruled_463 : decode cX13_ruled 463 = .ok (.goto 23, 3) := by decide +kernel
theorem dX13_ruled_466 : decode cX13_ruled 466 = .ok (.aload_n 0, 1) := by decide +kernel
theorem dX13_ruled_467 : decode cX13_ruled 467 = .ok (.getfield 28, 3) := by decide +kernel
theorem dX13_ruled_470 : decode cX13_ruled 470 = .ok (.iload_n 1, 1) := by decide +kernel
theorem dX13_ruled_471 : decode cX13_ruled 471 = .ok (.iaload, 1) := by decide +kernel
theorem dX13_ruled_472 : decode cX13_ruled 472 = .ok (.iconst 5, 1) := by decide +kernel
theorem dX13_ruled_473 : decode cX13_ruled 473 = .ok (.if_icmp .ne 13, 3) := by decide +kernel
theorem dX13_ruled_476 : decode cX13_ruled 476 = .ok (.aload_n 0, 1) := by decide +kernel
theorem dX13_ruled_477 : decode cX13_ruled 477 = .ok (.getfield 122, 3) := by decide +kernel
theorem dX13_ruled_480 : decode cX13_ruled 480 = .ok (.aload_n 0, 1) := by decide +kernel
theorem dX13_ruled_481 : decode cX13_ruled 481 = .ok (.getfield 522, 3) := by decide +kernel
theorem dX13_ruled_484 : decode cX13_ruled 484 = .ok (.iconst 1, 1) := by decide +kernel
theorem dX13_ruled_485 : decode cX13_ruled 485 = .ok (.bastore, 1) := by decide +kernel
theorem dX13_ruled_486 : decode cX13_ruled 486 = .ok (.iconst 0, 1) := by decide +kernel
theorem dX13_ruled_487 : decode cX13_ruled 487 = .ok (.ireturn, 1) := by decide +kernel
theorem dX13_ruled_488 : decode cX13_ruled 488 = .ok (.aload_n 0, 1) := by decide +kernel
theorem dX13_ruled_489 : decode cX13_ruled 489 = .ok (.getfield 37, 3) := by decide +kernel
theorem dX13_ruled_492 : decode cX13_ruled 492 = .ok (.iload_n 1, 1) := by decide +kernel
theorem dX13_ruled_493 : decode cX13_ruled 493 = .ok (.iaload, 1) := by decide +kernel
theorem dX13_ruled_494 : decode cX13_ruled 494 = .ok (.iconst (-1), 1) := by decide +kernel
theorem dX13_ruled_495 : decode cX13_ruled 495 = .ok (.if_icmp .ne 7, 3) := by decide +kernel
theorem dX13_ruled_498 : decode cX13_ruled 498 = .ok (.iconst 1, 1) := by decide +kernel
theorem dX13_ruled_499 : decode cX13_ruled 499 = .ok (.goto 4, 3) := by decide +kernel
theorem dX13_ruled_502 : decode cX13_ruled 502 = .ok (.iconst 0, 1) := by decide +kernel
theorem dX13_ruled_503 : decode cX13_ruled 503 = .ok (.aload_n 0, 1) := by decide +kernel
theorem dX13_ruled_504 : decode cX13_ruled 504 = .ok (.getfield 89, 3) := by decide +kernel
theorem dX13_ruled_507 : decode cX13_ruled 507 = .ok (.aload_n 0, 1) := by decide +kernel
theorem dX13_ruled_508 : decode cX13_ruled 508 = .ok (.getfield 516, 3) := by decide +kernel
theorem dX13_ruled_511 : decode cX13_ruled 511 = .ok (.iaload, 1) := by decide +kernel
theorem dX13_ruled_512 : decode cX13_ruled 512 = .ok (.iconst 3, 1) := by decide +kernel
theorem dX13_ruled_513 : decode cX13_ruled 513 = .ok (.if_icmp .eq 7, 3) := by decide +kernel
theorem dX13_ruled_516 : decode cX13_ruled 516 = .ok (.iconst 1, 1) := by decide +kernel
theorem dX13_ruled_517 : decode cX13_ruled 517 = .ok (.goto 4, 3) := by decide +kernel
theorem dX13_ruled_520 : decode cX13_ruled 520 = .ok (.iconst 0, 1) := by decide +kernel
theorem dX13_ruled_521 : decode cX13_ruled 521 = .ok (.if_icmp .ne 15, 3) := by decide +kernel
theorem dX13_ruled_524 : decode cX13_ruled 524 = .ok (.aload_n 0, 1) := by decide +kernel
theorem dX13_ruled_525 : decode cX13_ruled 525 = .ok (.bipush 7, 2) := by decide +kernel
theorem dX13_ruled_527 : decode cX13_ruled 527 = .ok (.aload_n 0, 1) := by decide +kernel
theorem dX13_ruled_528 : decode cX13_ruled 528 = .ok (.getfield 31, 3) := by decide +kernel
theorem dX13_ruled_531 : decode cX13_ruled 531 = .ok (.iload_n 1, 1) := by decide +kernel
theorem dX13_ruled_532 : decode cX13_ruled 532 = .ok (.iaload, 1) := by decide +kernel
theorem dX13_ruled_533 : decode cX13_ruled 533 = .ok (.invokevirtual 379, 3) := by decide +kernel
theorem dX13_ruled_536 : decode cX13_ruled 536 = .ok (.aload_n 0, 1) := by decide +kernel
theorem dX13_ruled_537 : decode cX13_ruled 537 = .ok (.getfield 37, 3) := by decide +kernel
theorem dX13_ruled_540 : decode cX13_ruled 540 = .ok (.iload_n 1, 1) := by decide +kernel
theorem dX13_ruled_541 : decode cX13_ruled 541 = .ok (.iaload, 1) := by decide +kernel
theorem dX13_ruled_542 : decode cX13_ruled 542 = .ok (.iconst (-1), 1) := by decide +kernel
theorem dX13_ruled_543 : decode cX13_ruled 543 = .ok (.if_icmp .eq 41, 3) := by decide +kernel
theorem dX13_ruled_546 : decode cX13_ruled 546 = .ok (.aload_n 0, 1) := by decide +kernel
theorem dX13_ruled_547 : decode cX13_ruled 547 = .ok (.aload_n 0, 1) := by decide +kernel
theorem dX13_ruled_548 : decode cX13_ruled 548 = .ok (.aload_n 0, 1) := by decide +kernel
theorem dX13_ruled_549 : decode cX13_ruled 549 = .ok (.getfield 37, 3) := by decide +kernel
theorem dX13_ruled_552 : decode cX13_ruled 552 = .ok (.iload_n 1, 1) := by decide +kernel
theorem dX13_ruled_553 : decode cX13_ruled 553 = .ok (.iaload, 1) := by decide +kernel
theorem dX13_ruled_554 : decode cX13_ruled 554 = .ok (.invokevirtual 537, 3) := by decide +kernel
theorem dX13_ruled_557 : decode cX13_ruled 557 = .ok (.aload_n 0, 1) := by decide +kernel
theorem dX13_ruled_558 : decode cX13_ruled 558 = .ok (.getfield 89, 3) := by decide +kernel
theorem dX13_ruled_561 : decode cX13_ruled 561 = .ok (.aload_n 0, 1) := by decide +kernel
theorem dX13_ruled_562 : decode cX13_ruled 562 = .ok (.getfield 516, 3) := by decide +kernel
theorem dX13_ruled_565 : decode cX13_ruled 565 = .ok (.iaload, 1) := by decide +kernel
theorem dX13_ruled_566 : decode cX13_ruled 566 = .ok (.invokevirtual 491, 3) := by decide +kernel
theorem dX13_ruled_569 : decode cX13_ruled 569 = .ok (.ifCond .ne 15, 3) := by decide +kernel
theorem dX13_ruled_572 : decode cX13_ruled 572 = .ok (.aload_n 0, 1) := by decide +kernel
theorem dX13_ruled_573 : decode cX13_ruled 573 = .ok (.bipush 6, 2) := by decide +kernel
theorem dX13_ruled_575 : decode cX13_ruled 575 = .ok (.aload_n 0, 1) := by decide +kernel
theorem dX13_ruled_576 : decode cX13_ruled 576 = .ok (.getfield 31, 3) := by decide +kernel
theorem dX13_ruled_579 : decode cX13_ruled 579 = .ok (.iload_n 1, 1) := by decide +kernel
theorem dX13_ruled_580 : decode cX13_ruled 580 = .ok (.iaload, 1) := by decide +kernel
theorem dX13_ruled_581 : decode cX13_ruled 581 = .ok (.invokevirtual 379, 3) := by decide +kernel
theorem dX13_ruled_584 : decode cX13_ruled 584 = .ok (.iconst 0, 1) := by decide +kernel
theorem dX13_ruled_585 : decode cX13_ruled 585 = .ok (.ireturn, 1) := by decide +kernel
theorem dX13_ruled_586 : decode cX13_ruled 586 = .ok (.aload_n 0, 1) := by decide +kernel
theorem dX13_ruled_587 : decode cX13_ruled 587 = .ok (.aload_n 0, 1) := by decide +kernel
theorem dX13_ruled_588 : decode cX13_ruled 588 = .ok (.getfield 37, 3) := by decide +kernel
theorem dX13_ruled_591 : decode cX13_ruled 591 = .ok (.iload_n 1, 1) := by decide +kernel
theorem dX13_ruled_592 : decode cX13_ruled 592 = .ok (.iaload, 1) := by decide +kernel
theorem dX13_ruled_593 : decode cX13_ruled 593 = .ok (.invokevirtual 537, 3) := by decide +kernel
theorem dX13_ruled_596 : decode cX13_ruled 596 = .ok (.istore 5, 2) := by decide +kernel
theorem dX13_ruled_598 : decode cX13_ruled 598 = .ok (.iload 5, 2) := by decide +kernel
theorem dX13_ruled_600 : decode cX13_ruled 600 = .ok (.invokestatic 543, 3) := by decide +kernel
theorem dX13_ruled_603 : decode cX13_ruled 603 = .ok (.ifCond .eq 14, 3) := by decide +kernel
theorem dX13_ruled_606 : decode cX13_ruled 606 = .ok (.aload_n 0, 1) := by decide +kernel
theorem dX13_ruled_607 : decode cX13_ruled 607 = .ok (.iload 5, 2) := by decide +kernel
theorem dX13_ruled_609 : decode cX13_ruled 609 = .ok (.bipush 10, 2) := by decide +kernel
theorem dX13_ruled_611 : decode cX13_ruled 611 = .ok (.invokevirtual 491, 3) := by decide +kernel
theorem dX13_ruled_614 : decode cX13_ruled 614 = .ok (.ifCond .ne 15, 3) := by decide +kernel
theorem dX13_ruled_617 : decode cX13_ruled 617 = .ok (.aload_n 0, 1) := by decide +kernel
theorem dX13_ruled_618 : decode cX13_ruled 618 = .ok (.bipush 6, 2) := by decide +kernel
theorem dX13_ruled_620 : decode cX13_ruled 620 = .ok (.aload_n 0, 1) := by decide +kernel
theorem dX13_ruled_621 : decode cX13_ruled 621 = .ok (.getfield 31, 3) := by decide +kernel
theorem dX13_ruled_624 : decode cX13_ruled 624 = .ok (.iload_n 1, 1) := by decide +kernel
theorem dX13_ruled_625 : decode cX13_ruled 625 = .ok (.iaload, 1) := by decide +kernel
theorem dX13_ruled_626 : decode cX13_ruled 626 = .ok (.invokevirtual 379, 3) := by decide +kernel
theorem dX13_ruled_629 : decode cX13_ruled 629 = .ok (.iconst 0, 1) := by decide +kernel
theorem dX13_ruled_630 : decode cX13_ruled 630 = .ok (.ireturn, 1) := by decide +kernel
theorem dX13_ruled_631 : decode cX13_ruled 631 = .ok (.aload_n 0, 1) := by decide +kernel
theorem dX13_ruled_632 : decode cX13_ruled 632 = .ok (.aload_n 0, 1) := by decide +kernel
theorem dX13_ruled_633 : decode cX13_ruled 633 = .ok (.getfield 37, 3) := by decide +kernel
theorem dX13_ruled_636 : decode cX13_ruled 636 = .ok (.iload_n 1, 1) := by decide +kernel
theorem dX13_ruled_637 : decode cX13_ruled 637 = .ok (.iaload, 1) := by decide +kernel
theorem dX13_ruled_638 : decode cX13_ruled 638 = .ok (.invokevirtual 531, 3) := by decide +kernel
theorem dX13_ruled_641 : decode cX13_ruled 641 = .ok (.istore_n 3, 1) := by decide +kernel
theorem dX13_ruled_642 : decode cX13_ruled 642 = .ok (.aload_n 0, 1) := by decide +kernel
theorem dX13_ruled_643 : decode cX13_ruled 643 = .ok (.iconst 3, 1) := by decide +kernel
theorem dX13_ruled_644 : decode cX13_ruled 644 = .ok (.aload_n 0, 1) := by decide +kernel
theorem dX13_ruled_645 : decode cX13_ruled 645 = .ok (.getfield 31, 3) := by decide +kernel
theorem dX13_ruled_648 : decode cX13_ruled 648 = .ok (.iload_n 1, 1) := by decide +kernel
theorem dX13_ruled_649 : decode cX13_ruled 649 = .ok (.iaload, 1) := by decide +kernel
theorem dX13_ruled_650 : decode cX13_ruled 650 = .ok (.iconst 0, 1) := by decide +kernel
theorem dX13_ruled_651 : decode cX13_ruled 651 = .ok (.invokevirtual 503, 3) := by decide +kernel
theorem dX13_ruled_654 : decode cX13_ruled 654 = .ok (.istore 5, 2) := by decide +kernel
theorem dX13_ruled_656 : decode cX13_ruled 656 = .ok (.aload_n 0, 1) := by decide +kernel
theorem dX13_ruled_657 : decode cX13_ruled 657 = .ok (.iload 5, 2) := by decide +kernel
theorem dX13_ruled_659 : decode cX13_ruled 659 = .ok (.bipush 10, 2) := by decide +kernel
theorem dX13_ruled_661 : decode cX13_ruled 661 = .ok (.invokevirtual 491, 3) := by decide +kernel
theorem dX13_ruled_664 : decode cX13_ruled 664 = .ok (.ifCond .ne 15, 3) := by decide +kernel
theorem dX13_ruled_667 : decode cX13_ruled 667 = .ok (.aload_n 0, 1) := by decide +kernel
theorem dX13_ruled_668 : decode cX13_ruled 668 = .ok (.bipush 6, 2) := by decide +kernel
theorem dX13_ruled_670 : decode cX13_ruled 670 = .ok (.aload_n 0, 1) := by decide +kernel
theorem dX13_ruled_671 : decode cX13_ruled 671 = .ok (.getfield 31, 3) := by decide +kernel
theorem dX13_ruled_674 : decode cX13_ruled 674 = .ok (.iload_n 1, 1) := by decide +kernel
theorem dX13_ruled_675 : decode cX13_ruled 675 = .ok (.iaload, 1) := by decide +kernel
theorem dX13_ruled_676 : decode cX13_ruled 676 = .ok (.invokevirtual 379, 3) := by decide +kernel
theorem dX13_ruled_679 : decode cX13_ruled 679 = .ok (.aload_n 0, 1) := by decide +kernel
theorem dX13_ruled_680 : decode cX13_ruled 680 = .ok (.getfield 319, 3) := by decide +kernel
theorem dX13_ruled_683 : decode cX13_ruled 683 = .ok (.ifCond .ne 28, 3) := by decide +kernel
theorem dX13_ruled_686 : decode cX13_ruled 686 = .ok (.aload_n 0, 1) := by decide +kernel
theorem dX13_ruled_687 : decode cX13_ruled 687 = .ok (.aload_n 0, 1) := by decide +kernel
theorem dX13_ruled_688 : decode cX13_ruled 688 = .ok (.getfield 55, 3) := by decide +kernel
theorem dX13_ruled_691 : decode cX13_ruled 691 = .ok (.iload_n 1, 1) := by decide +kernel
theorem dX13_ruled_692 : decode cX13_ruled 692 = .ok (.iaload, 1) := by decide +kernel
theorem dX13_ruled_693 : decode cX13_ruled 693 = .ok (.invokevirtual 534, 3) := by decide +kernel
theorem dX13_ruled_696 : decode cX13_ruled 696 = .ok (.iconst (-1), 1) := by decide +kernel
theorem dX13_ruled_697 : decode cX13_ruled 697 = .ok (.if_icmp .eq 14, 3) := by decide +kernel
theorem dX13_ruled_700 : decode cX13_ruled 700 = .ok (.aload_n 0, 1) := by decide +kernel
theorem dX13_ruled_701 : decode cX13_ruled 701 = .ok (.iconst 4, 1) := by decide +kernel
theorem dX13_ruled_702 : decode cX13_ruled 702 = .ok (.aload_n 0, 1) := by decide +kernel
theorem dX13_ruled_703 : decode cX13_ruled 703 = .ok (.getfield 55, 3) := by decide +kernel
theorem dX13_ruled_706 : decode cX13_ruled 706 = .ok (.iload_n 1, 1) := by decide +kernel
theorem dX13_ruled_707 : decode cX13_ruled 707 = .ok (.iaload, 1) := by decide +kernel
theorem dX13_ruled_708 : decode cX13_ruled 708 = .ok (.invokevirtual 379, 3) := by decide +kernel
theorem dX13_ruled_711 : decode cX13_ruled 711 = .ok (.aload_n 0, 1) := by decide +kernel
theorem dX13_ruled_712 : decode cX13_ruled 712 = .ok (.getfield 49, 3) := by decide +kernel
theorem dX13_ruled_715 : decode cX13_ruled 715 = .ok (.iload_n 1, 1) := by decide +kernel
theorem dX13_ruled_716 : decode cX13_ruled 716 = .ok (.iload 5, 2) := by decide +kernel
theorem dX13_ruled_718 : decode cX13_ruled 718 = .ok (.iastore, 1) := by decide +kernel
theorem dX13_ruled_719 : decode cX13_ruled 719 = .ok (.aload_n 0, 1) := by decide +kernel
theorem dX13_ruled_720 : decode cX13_ruled 720 = .ok (.getfield 319, 3) := by decide +kernel
theorem dX13_ruled_723 : decode cX13_ruled 723 = .ok (.ifCond .ne 15, 3) := by decide +kernel
theorem dX13_ruled_726 : decode cX13_ruled 726 = .ok (.aload_n 0, 1) := by decide +kernel
theorem dX13_ruled_727 : decode cX13_ruled 727 = .ok (.aload_n 0, 1) := by decide +kernel
theorem dX13_ruled_728 : decode cX13_ruled 728 = .ok (.getfield 55, 3) := by decide +kernel
theorem dX13_ruled_731 : decode cX13_ruled 731 = .ok (.iload_n 1, 1) := by decide +kernel
theorem dX13_ruled_732 : decode cX13_ruled 732 = .ok (.iaload, 1) := by decide +kernel
theorem dX13_ruled_733 : decode cX13_ruled 733 = .ok (.iload 5, 2) := by decide +kernel
theorem dX13_ruled_735 : decode cX13_ruled 735 = .ok (.invokevirtual 528, 3) := by decide +kernel
theorem dX13_ruled_738 : decode cX13_ruled 738 = .ok (.aload_n 0, 1) := by decide +kernel
theorem dX13_ruled_739 : decode cX13_ruled 739 = .ok (.aload_n 0, 1) := by decide +kernel
theorem dX13_ruled_740 : decode cX13_ruled 740 = .ok (.getfield 40, 3) := by decide +kernel
theorem dX13_ruled_743 : decode cX13_ruled 743 = .ok (.iload_n 1, 1) := by decide +kernel
theorem dX13_ruled_744 : decode cX13_ruled 744 = .ok (.iaload, 1) := by decide +kernel
theorem dX13_ruled_745 : decode cX13_ruled 745 = .ok (.invokevirtual 531, 3) := by decide +kernel
theorem dX13_ruled_748 : decode cX13_ruled 748 = .ok (.istore 4, 2) := by decide +kernel
theorem dX13_ruled_750 : decode cX13_ruled 750 = .ok (.aload_n 0, 1) := by decide +kernel
theorem dX13_ruled_751 : decode cX13_ruled 751 = .ok (.iload_n 2, 1) := by decide +kernel
theorem dX13_ruled_752 : decode cX13_ruled 752 = .ok (.putfield 513, 3) := by decide +kernel
theorem dX13_ruled_755 : decode cX13_ruled 755 = .ok (.iload_n 3, 1) := by decide +kernel
theorem dX13_ruled_756 : decode cX13_ruled 756 = .ok (.ifCond .ne 8, 3) := by decide +kernel
theorem dX13_ruled_759 : decode cX13_ruled 759 = .ok (.iload 4, 2) := by decide +kernel
theorem dX13_ruled_761 : decode cX13_ruled 761 = .ok (.ifCond .eq 7, 3) := by decide +kernel
theorem dX13_ruled_764 : decode cX13_ruled 764 = .ok (.iconst 1, 1) := by decide +kernel
theorem dX13_ruled_765 : decode cX13_ruled 765 = .ok (.goto 4, 3) := by decide +kernel
theorem dX13_ruled_768 : decode cX13_ruled 768 = .ok (.iconst 0, 1) := by decide +kernel
theorem dX13_ruled_769 : decode cX13_ruled 769 = .ok (.ireturn, 1) := by decide +kernel
theorem dX13_ruled_770 : decode cX13_ruled 770 = .ok (.aload_n 0, 1) := by decide +kernel
theorem dX13_ruled_771 : decode cX13_ruled 771 = .ok (.aload_n 0, 1) := by decide +kernel
theorem dX13_ruled_772 : decode cX13_ruled 772 = .ok (.getfield 37, 3) := by decide +kernel
theorem dX13_ruled_775 : decode cX13_ruled 775 = .ok (.iload_n 1, 1) := by decide +kernel
theorem dX13_ruled_776 : decode cX13_ruled 776 = .ok (.iaload, 1) := by decide +kernel
theorem dX13_ruled_777 : decode cX13_ruled 777 = .ok (.invokevirtual 537, 3) := by decide +kernel
theorem dX13_ruled_780 : decode cX13_ruled 780 = .ok (.iconst 1, 1) := by decide +kernel
theorem dX13_ruled_781 : decode cX13_ruled 781 = .ok (.if_icmp .le 15, 3) := by decide +kernel
theorem dX13_ruled_784 : decode cX13_ruled 784 = .ok (.aload_n 0, 1) := by decide +kernel
theorem dX13_ruled_785 : decode cX13_ruled 785 = .ok (.bipush 6, 2) := by decide +kernel
theorem dX13_ruled_787 : decode cX13_ruled 787 = .ok (.aload_n 0, 1) := by decide +kernel
theorem dX13_ruled_788 : decode cX13_ruled 788 = .ok (.getfield 31, 3) := by decide +kernel
theorem dX13_ruled_791 : decode cX13_ruled 791 = .ok (.iload_n 1, 1) := by decide +kernel
theorem dX13_ruled_792 : decode cX13_ruled 792 = .ok (.iaload, 1) := by decide +kernel
theorem dX13_ruled_793 : decode cX13_ruled 793 = .ok (.invokevirtual 379, 3) := by decide +kernel
theorem dX13_ruled_796 : decode cX13_ruled 796 = .ok (.iconst 1, 1) := by decide +kernel
theorem dX13_ruled_797 : decode cX13_ruled 797 = .ok (.ireturn, 1) := by decide +kernel
theorem dX13_ruled_798 : decode cX13_ruled 798 = .ok (.aload_n 0, 1) := by decide +kernel
theorem dX13_ruled_799 : decode cX13_ruled 799 = .ok (.getfield 49, 3) := by decide +kernel
theorem dX13_ruled_802 : decode cX13_ruled 802 = .ok (.iload_n 1, 1) := by decide +kernel
theorem dX13_ruled_803 : decode cX13_ruled 803 = .ok (.aload_n 0, 1) := by decide +kernel
theorem dX13_ruled_804 : decode cX13_ruled 804 = .ok (.getfield 58, 3) := by decide +kernel
theorem dX13_ruled_807 : decode cX13_ruled 807 = .ok (.aload_n 0, 1) := by decide +kernel
theorem dX13_ruled_808 : decode cX13_ruled 808 = .ok (.getfield 37, 3) := by decide +kernel
theorem dX13_ruled_811 : decode cX13_ruled 811 = .ok (.iload_n 1, 1) := by decide +kernel
theorem dX13_ruled_812 : decode cX13_ruled 812 = .ok (.iaload, 1) := by decide +kernel
theorem dX13_ruled_813 : decode cX13_ruled 813 = .ok (.baload, 1) := by decide +kernel
theorem dX13_ruled_814 : decode cX13_ruled 814 = .ok (.ifCond .eq 16, 3) := by decide +kernel
theorem dX13_ruled_817 : decode cX13_ruled 817 = .ok (.aload_n 0, 1) := by decide +kernel
theorem dX13_ruled_818 : decode cX13_ruled 818 = .ok (.aload_n 0, 1) := by decide +kernel
theorem dX13_ruled_819 : decode cX13_ruled 819 = .ok (.getfield 37, 3) := by decide +kernel
theorem dX13_ruled_822 : decode cX13_ruled 822 = .ok (.iload_n 1, 1) := by decide +kernel
theorem dX13_ruled_823 : decode cX13_ruled 823 = .ok (.iaload, 1) := by decide +kernel
theorem dX13_ruled_824 : decode cX13_ruled 824 = .ok (.invokevirtual 537, 3) := by decide +kernel
theorem dX13_ruled_827 : decode cX13_ruled 827 = .ok (.goto 13, 3) := by decide +kernel
theorem dX13_ruled_830 : decode cX13_ruled 830 = .ok (.aload_n 0, 1) := by decide +kernel
theorem dX13_ruled_831 : decode cX13_ruled 831 = .ok (.aload_n 0, 1) := by decide +kernel
theorem dX13_ruled_832 : decode cX13_ruled 832 = .ok (.getfield 37, 3) := by decide +kernel
theorem dX13_ruled_835 : decode cX13_ruled 835 = .ok (.iload_n 1, 1) := by decide +kernel
theorem dX13_ruled_836 : decode cX13_ruled 836 = .ok (.iaload, 1) := by decide +kernel
theorem dX13_ruled_837 : decode cX13_ruled 837 = .ok (.invokevirtual 546, 3) := by decide +kernel
theorem dX13_ruled_840 : decode cX13_ruled 840 = .ok (.iastore, 1) := by decide +kernel
theorem dX13_ruled_841 : decode cX13_ruled 841 = .ok (.aload_n 0, 1) := by decide +kernel
theorem dX13_ruled_842 : decode cX13_ruled 842 = .ok (.getfield 58, 3) := by decide +kernel
theorem dX13_ruled_845 : decode cX13_ruled 845 = .ok (.aload_n 0, 1) := by decide +kernel
theorem dX13_ruled_846 : decode cX13_ruled 846 = .ok (.getfield 37, 3) := by decide +kernel
theorem dX13_ruled_849 : decode cX13_ruled 849 = .ok (.iload_n 1, 1) := by decide +kernel
theorem dX13_ruled_850 : decode cX13_ruled 850 = .ok (.iaload, 1) := by decide +kernel
theorem dX13_ruled_851 : decode cX13_ruled 851 = .ok (.baload, 1) := by decide +kernel
theorem dX13_ruled_852 : decode cX13_ruled 852 = .ok (.ifCond .ne 35, 3) := by decide +kernel
theorem dX13_ruled_855 : decode cX13_ruled 855 = .ok (.aload_n 0, 1) := by decide +kernel
theorem dX13_ruled_856 : decode cX13_ruled 856 = .ok (.getfield 28, 3) := by decide +kernel
theorem dX13_ruled_859 : decode cX13_ruled 859 = .ok (.aload_n 0, 1) := by decide +kernel
theorem dX13_ruled_860 : decode cX13_ruled 860 = .ok (.getfield 37, 3) := by decide +kernel
theorem dX13_ruled_863 : decode cX13_ruled 863 = .ok (.iload_n 1, 1) := by decide +kernel
theorem dX13_ruled_864 : decode cX13_ruled 864 = .ok (.iaload, 1) := by decide +kernel
theorem dX13_ruled_865 : decode cX13_ruled 865 = .ok (.iaload, 1) := by decide +kernel
theorem dX13_ruled_866 : decode cX13_ruled 866 = .ok (.bipush 26, 2) := by decide +kernel
theorem dX13_ruled_868 : decode cX13_ruled 868 = .ok (.if_icmp .eq 36, 3) := by decide +kernel
theorem dX13_ruled_871 : decode cX13_ruled 871 = .ok (.aload_n 0, 1) := by decide +kernel
theorem dX13_ruled_872 : decode cX13_ruled 872 = .ok (.getfield 28, 3) := by decide +kernel
theorem dX13_ruled_875 : decode cX13_ruled 875 = .ok (.aload_n 0, 1) := by decide +kernel
theorem dX13_ruled_876 : decode cX13_ruled 876 = .ok (.getfield 37, 3) := by decide +kernel
theorem dX13_ruled_879 : decode cX13_ruled 879 = .ok (.iload_n 1, 1) := by decide +kernel
theorem dX13_ruled_880 : decode cX13_ruled 880 = .ok (.iaload, 1) := by decide +kernel
theorem dX13_ruled_881 : decode cX13_ruled 881 = .ok (.iaload, 1) := by decide +kernel
theorem dX13_ruled_882 : decode cX13_ruled 882 = .ok (.bipush 31, 2) := by decide +kernel
theorem dX13_ruled_884 : decode cX13_ruled 884 = .ok (.if_icmp .eq 20, 3) := by decide +kernel
theorem dX13_ruled_887 : decode cX13_ruled 887 = .ok (.aload_n 0, 1) := by decide +kernel
theorem dX13_ruled_888 : decode cX13_ruled 888 = .ok (.bipush 6, 2) := by decide +kernel
theorem dX13_ruled_890 : decode cX13_ruled 890 = .ok (.aload_n 0, 1) := by decide +kernel
theorem dX13_ruled_891 : decode cX13_ruled 891 = .ok (.getfield 34, 3) := by decide +kernel
theorem dX13_ruled_894 : decode cX13_ruled 894 = .ok (.aload_n 0, 1) := by decide +kernel
theorem dX13_ruled_895 : decode cX13_ruled 895 = .ok (.getfield 37, 3) := by decide +kernel
theorem dX13_ruled_898 : decode cX13_ruled 898 = .ok (.iload_n 1, 1) := by decide +kernel
theorem dX13_ruled_899 : decode cX13_ruled 899 = .ok (.iaload, 1) := by decide +kernel
theorem dX13_ruled_900 : decode cX13_ruled 900 = .ok (.iaload, 1) := by decide +kernel
theorem dX13_ruled_901 : decode cX13_ruled 901 = .ok (.invokevirtual 379, 3) := by decide +kernel
theorem dX13_ruled_904 : decode cX13_ruled 904 = .ok (.iconst 1, 1) := by decide +kernel
theorem dX13_ruled_905 : decode cX13_ruled 905 = .ok (.ireturn, 1) := by decide +kernel
theorem dX13_ruled_906 : decode cX13_ruled 906 = .ok (.aload_n 0, 1) := by decide +kernel
theorem dX13_ruled_907 : decode cX13_ruled 907 = .ok (.aload_n 0, 1) := by decide +kernel
theorem dX13_ruled_908 : decode cX13_ruled 908 = .ok (.getfield 37, 3) := by decide +kernel
theorem dX13_ruled_911 : decode cX13_ruled 911 = .ok (.iload_n 1, 1) := by decide +kernel
theorem dX13_ruled_912 : decode cX13_ruled 912 = .ok (.iaload, 1) := by decide +kernel
theorem dX13_ruled_913 : decode cX13_ruled 913 = .ok (.invokevirtual 537, 3) := by decide +kernel
theorem dX13_ruled_916 : decode cX13_ruled 916 = .ok (.istore 5, 2) := by decide +kernel
theorem dX13_ruled_918 : decode cX13_ruled 918 = .ok (.aload_n 0, 1) := by decide +kernel
theorem dX13_ruled_919 : decode cX13_ruled 919 = .ok (.aload_n 0, 1) := by decide +kernel
theorem dX13_ruled_920 : decode cX13_ruled 920 = .ok (.getfield 40, 3) := by decide +kernel
theorem dX13_ruled_923 : decode cX13_ruled 923 = .ok (.iload_n 1, 1) := by decide +kernel
theorem dX13_ruled_924 : decode cX13_ruled 924 = .ok (.iaload, 1) := by decide +kernel
theorem dX13_ruled_925 : decode cX13_ruled 925 = .ok (.invokevirtual 537, 3) := by decide +kernel
theorem dX13_ruled_928 : decode cX13_ruled 928 = .ok (.istore 7, 2) := by decide +kernel
theorem dX13_ruled_930 : decode cX13_ruled 930 = .ok (.aload_n 0, 1) := by decide +kernel
theorem dX13_ruled_931 : decode cX13_ruled 931 = .ok (.aload_n 0, 1) := by decide +kernel
theorem dX13_ruled_932 : decode cX13_ruled 932 = .ok (.getfield 37, 3) := by decide +kernel
theorem dX13_ruled_935 : decode cX13_ruled 935 = .ok (.iload_n 1, 1) := by decide +kernel
theorem dX13_ruled_936 : decode cX13_ruled 936 = .ok (.iaload, 1) := by decide +kernel
theorem dX13_ruled_937 : decode cX13_ruled 937 = .ok (.invokevirtual 549, 3) := by decide +kernel
theorem dX13_ruled_940 : decode cX13_ruled 940 = .ok (.ifCond .eq 14, 3) := by decide +kernel
theorem dX13_ruled_943 : decode cX13_ruled 943 = .ok (.aload_n 0, 1) := by decide +kernel
theorem dX13_ruled_944 : decode cX13_ruled 944 = .ok (.iload 7, 2) := by decide +kernel
theorem dX13_ruled_946 : decode cX13_ruled 946 = .ok (.iload 5, 2) := by decide +kernel
theorem dX13_ruled_948 : decode cX13_ruled 948 = .ok (.invokevirtual 491, 3) := by decide +kernel
theorem dX13_ruled_951 : decode cX13_ruled 951 = .ok (.ifCond .ne 15, 3) := by decide +kernel
theorem dX13_ruled_954 : decode cX13_ruled 954 = .ok (.aload_n 0, 1) := by decide +kernel
theorem dX13_ruled_955 : decode cX13_ruled 955 = .ok (.bipush 6, 2) := by decide +kernel
theorem dX13_ruled_957 : decode cX13_ruled 957 = .ok (.aload_n 0, 1) := by decide +kernel
theorem dX13_ruled_958 : decode cX13_ruled 958 = .ok (.getfield 31, 3) := by decide +kernel
theorem dX13_ruled_961 : decode cX13_ruled 961 = .ok (.iload_n 1, 1) := by decide +kernel
theorem dX13_ruled_962 : decode cX13_ruled 962 = .ok (.iaload, 1) := by decide +kernel
theorem dX13_ruled_963 : decode cX13_ruled 963 = .ok (.invokevirtual 379, 3) := by decide +kernel
theorem dX13_ruled_966 : decode cX13_ruled 966 = .ok (.iconst 1, 1) := by decide +kernel
theorem dX13_ruled_967 : decode cX13_ruled 967 = .ok (.ireturn, 1) := by decide +kernel
