def RL : String := "ClassMillLaw"
abbrev cL_law : ByteArray := code
theorem dL_law_0 : decode cL_law 0 = .ok (.new 7, 3) := by decide +kernel
theorem dL_law_3 : decode cL_law 3 = .ok (.dup, 1) := by decide +kernel
theorem dL_law_4 : decode cL_law 4 = .ok (.invokespecial 9, 3) := by decide +kernel
theorem dL_law_7 : decode cL_law 7 = .ok (.astore_n 1, 1) := by decide +kernel
theorem dL_law_8 : decode cL_law 8 = .ok (.new 10, 3) := by decide +kernel
theorem dL_law_11 : decode cL_law 11 = .ok (.dup, 1) := by decide +kernel
theorem dL_law_12 : decode cL_law 12 = .ok (.invokespecial 12, 3) := by decide +kernel
theorem dL_law_15 : decode cL_law 15 = .ok (.astore_n 2, 1) := by decide +kernel
theorem dL_law_16 : decode cL_law 16 = .ok (.iconst 0, 1) := by decide +kernel
theorem dL_law_17 : decode cL_law 17 = .ok (.istore_n 3, 1) := by decide +kernel
theorem dL_law_18 : decode cL_law 18 = .ok (.iload_n 3, 1) := by decide +kernel
theorem dL_law_19 : decode cL_law 19 = .ok (.aload_n 0, 1) := by decide +kernel
theorem dL_law_20 : decode cL_law 20 = .ok (.arraylength, 1) := by decide +kernel
theorem dL_law_21 : decode cL_law 21 = .ok (.bipush 6, 2) := by decide +kernel
theorem dL_law_23 : decode cL_law 23 = .ok (.isub, 1) := by decide +kernel
theorem dL_law_24 : decode cL_law 24 = .ok (.if_icmp .gt 510, 3) := by decide +kernel
theorem dL_law_27 : decode cL_law 27 = .ok (.aload_n 0, 1) := by decide +kernel
theorem dL_law_28 : decode cL_law 28 = .ok (.iload_n 3, 1) := by decide +kernel
theorem dL_law_29 : decode cL_law 29 = .ok (.iaload, 1) := by decide +kernel
theorem dL_law_30 : decode cL_law 30 = .ok (.bipush 15, 2) := by decide +kernel
theorem dL_law_32 : decode cL_law 32 = .ok (.iand, 1) := by decide +kernel
theorem dL_law_33 : decode cL_law 33 = .ok (.tableswitch 495 0 15 #[79, 142, 165, 178, 201, 234, 247, 270, 313, 324, 337, 360, 393, 416, 439, 462], 79) := by decide +kernel
theorem dL_law_112 : decode cL_law 112 = .ok (.aload_n 1, 1) := by decide +kernel
theorem dL_law_113 : decode cL_law 113 = .ok (.aload_n 0, 1) := by decide +kernel
theorem dL_law_114 : decode cL_law 114 = .ok (.iload_n 3, 1) := by decide +kernel
theorem dL_law_115 : decode cL_law 115 = .ok (.iconst 1, 1) := by decide +kernel
theorem dL_law_116 : decode cL_law 116 = .ok (.iadd, 1) := by decide +kernel
theorem dL_law_117 : decode cL_law 117 = .ok (.iaload, 1) := by decide +kernel
theorem dL_law_118 : decode cL_law 118 = .ok (.aload_n 0, 1) := by decide +kernel
theorem dL_law_119 : decode cL_law 119 = .ok (.iload_n 3, 1) := by decide +kernel
theorem dL_law_120 : decode cL_law 120 = .ok (.iconst 2, 1) := by decide +kernel
theorem dL_law_121 : decode cL_law 121 = .ok (.iadd, 1) := by decide +kernel
theorem dL_law_122 : decode cL_law 122 = .ok (.iaload, 1) := by decide +kernel
theorem dL_law_123 : decode cL_law 123 = .ok (.aload_n 0, 1) := by decide +kernel
theorem dL_law_124 : decode cL_law 124 = .ok (.iload_n 3, 1) := by decide +kernel
theorem dL_law_125 : decode cL_law 125 = .ok (.iconst 3, 1) := by decide +kernel
theorem dL_law_126 : decode cL_law 126 = .ok (.iadd, 1) := by decide +kernel
theorem dL_law_127 : decode cL_law 127 = .ok (.iaload, 1) := by decide +kernel
theorem dL_law_128 : decode cL_law 128 = .ok (.aload_n 0, 1) := by decide +kernel
theorem dL_law_129 : decode cL_law 129 = .ok (.iload_n 3, 1) := by decide +kernel
theorem dL_law_130 : decode cL_law 130 = .ok (.iconst 4, 1) := by decide +kernel
theorem dL_law_131 : decode cL_law 131 = .ok (.iadd, 1) := by decide +kernel
theorem dL_law_132 : decode cL_law 132 = .ok (.iaload, 1) := by decide +kernel
theorem dL_law_133 : decode cL_law 133 = .ok (.aload_n 0, 1) := by decide +kernel
theorem dL_law_134 : decode cL_law 134 = .ok (.iload_n 3, 1) := by decide +kernel
theorem dL_law_135 : decode cL_law 135 = .ok (.iconst 5, 1) := by decide +kernel
theorem dL_law_136 : decode cL_law 136 = .ok (.iadd, 1) := by decide +kernel
theorem dL_law_137 : decode cL_law 137 = .ok (.iaload, 1) := by decide +kernel
theorem dL_law_138 : decode cL_law 138 = .ok (.invokevirtual 13, 3) := by decide +kernel
theorem dL_law_141 : decode cL_law 141 = .ok (.aload_n 2, 1) := by decide +kernel
theorem dL_law_142 : decode cL_law 142 = .ok (.aload_n 0, 1) := by decide +kernel
theorem dL_law_143 : decode cL_law 143 = .ok (.iload_n 3, 1) := by decide +kernel
theorem dL_law_144 : decode cL_law 144 = .ok (.iconst 1, 1) := by decide +kernel
theorem dL_law_145 : decode cL_law 145 = .ok (.iadd, 1) := by decide +kernel
theorem dL_law_146 : decode cL_law 146 = .ok (.iaload, 1) := by decide +kernel
theorem dL_law_147 : decode cL_law 147 = .ok (.aload_n 0, 1) := by decide +kernel
theorem dL_law_148 : decode cL_law 148 = .ok (.iload_n 3, 1) := by decide +kernel
theorem dL_law_149 : decode cL_law 149 = .ok (.iconst 2, 1) := by decide +kernel
theorem dL_law_150 : decode cL_law 150 = .ok (.iadd, 1) := by decide +kernel
theorem dL_law_151 : decode cL_law 151 = .ok (.iaload, 1) := by decide +kernel
theorem dL_law_152 : decode cL_law 152 = .ok (.aload_n 0, 1) := by decide +kernel
theorem dL_law_153 : decode cL_law 153 = .ok (.iload_n 3, 1) := by decide +kernel
theorem dL_law_154 : decode cL_law 154 = .ok (.iconst 3, 1) := by decide +kernel
theorem dL_law_155 : decode cL_law 155 = .ok (.iadd, 1) := by decide +kernel
theorem dL_law_156 : decode cL_law 156 = .ok (.iaload, 1) := by decide +kernel
theorem dL_law_157 : decode cL_law 157 = .ok (.aload_n 0, 1) := by decide +kernel
theorem dL_law_158 : decode cL_law 158 = .ok (.iload_n 3, 1) := by decide +kernel
theorem dL_law_159 : decode cL_law 159 = .ok (.iconst 4, 1) := by decide +kernel
theorem dL_law_160 : decode cL_law 160 = .ok (.iadd, 1) := by decide +kernel
theorem dL_law_161 : decode cL_law 161 = .ok (.iaload, 1) := by decide +kernel
theorem dL_law_162 : decode cL_law 162 = .ok (.aload_n 0, 1) := by decide +kernel
theorem dL_law_163 : decode cL_law 163 = .ok (.iload_n 3, 1) := by decide +kernel
theorem dL_law_164 : decode cL_law 164 = .ok (.iconst 5, 1) := by decide +kernel
theorem dL_law_165 : decode cL_law 165 = .ok (.iadd, 1) := by decide +kernel
theorem dL_law_166 : decode cL_law 166 = .ok (.iaload, 1) := by decide +kernel
theorem dL_law_167 : decode cL_law 167 = .ok (.invokevirtual 17, 3) := by decide +kernel
theorem dL_law_170 : decode cL_law 170 = .ok (.if_icmp .eq 358, 3) := by decide +kernel
theorem dL_law_175 : decode cL_law 175 = .ok (.aload_n 1, 1) := by decide +kernel
theorem dL_law_176 : decode cL_law 176 = .ok (.aload_n 0, 1) := by decide +kernel
theorem dL_law_177 : decode cL_law 177 = .ok (.iload_n 3, 1) := by decide +kernel
theorem dL_law_178 : decode cL_law 178 = .ok (.iconst 1, 1) := by decide +kernel
theorem dL_law_179 : decode cL_law 179 = .ok (.iadd, 1) := by decide +kernel
theorem dL_law_180 : decode cL_law 180 = .ok (.iaload, 1) := by decide +kernel
theorem dL_law_181 : decode cL_law 181 = .ok (.invokevirtual 18, 3) := by decide +kernel
theorem dL_law_184 : decode cL_law 184 = .ok (.aload_n 2, 1) := by decide +kernel
theorem dL_law_185 : decode cL_law 185 = .ok (.aload_n 0, 1) := by decide +kernel
theorem dL_law_186 : decode cL_law 186 = .ok (.iload_n 3, 1) := by decide +kernel
theorem dL_law_187 : decode cL_law 187 = .ok (.iconst 1, 1) := by decide +kernel
theorem dL_law_188 : decode cL_law 188 = .ok (.iadd, 1) := by decide +kernel
theorem dL_law_189 : decode cL_law 189 = .ok (.iaload, 1) := by decide +kernel
theorem dL_law_190 : decode cL_law 190 = .ok (.invokevirtual 22, 3) := by decide +kernel
theorem dL_law_193 : decode cL_law 193 = .ok (.if_icmp .eq 335, 3) := by decide +kernel
theorem dL_law_198 : decode cL_law 198 = .ok (.aload_n 1, 1) := by decide +kernel
theorem dL_law_199 : decode cL_law 199 = .ok (.invokevirtual 23, 3) := by decide +kernel
theorem dL_law_202 : decode cL_law 202 = .ok (.aload_n 2, 1) := by decide +kernel
theorem dL_law_203 : decode cL_law 203 = .ok (.invokevirtual 27, 3) := by decide +kernel
theorem dL_law_206 : decode cL_law 206 = .ok (.if_icmp .eq 322, 3) := by decide +kernel
theorem dL_law_211 : decode cL_law 211 = .ok (.aload_n 1, 1) := by decide +kernel
theorem dL_law_212 : decode cL_law 212 = .ok (.aload_n 0, 1) := by decide +kernel
theorem dL_law_213 : decode cL_law 213 = .ok (.iload_n 3, 1) := by decide +kernel
theorem dL_law_214 : decode cL_law 214 = .ok (.iconst 1, 1) := by decide +kernel
theorem dL_law_215 : decode cL_law 215 = .ok (.iadd, 1) := by decide +kernel
theorem dL_law_216 : decode cL_law 216 = .ok (.iaload, 1) := by decide +kernel
theorem dL_law_217 : decode cL_law 217 = .ok (.invokevirtual 28, 3) := by decide +kernel
theorem dL_law_220 : decode cL_law 220 = .ok (.aload_n 2, 1) := by decide +kernel
theorem dL_law_221 : decode cL_law 221 = .ok (.aload_n 0, 1) := by decide +kernel
theorem dL_law_222 : decode cL_law 222 = .ok (.iload_n 3, 1) := by decide +kernel
theorem dL_law_223 : decode cL_law 223 = .ok (.iconst 1, 1) := by decide +kernel
theorem dL_law_224 : decode cL_law 224 = .ok (.iadd, 1) := by decide +kernel
theorem dL_law_225 : decode cL_law 225 = .ok (.iaload, 1) := by decide +kernel
theorem dL_law_226 : decode cL_law 226 = .ok (.invokevirtual 32, 3) := by decide +kernel
theorem dL_law_229 : decode cL_law 229 = .ok (.if_icmp .eq 299, 3) := by decide +kernel
theorem dL_law_234 : decode cL_law 234 = .ok (.aload_n 1, 1) := by decide +kernel
theorem dL_law_235 : decode cL_law 235 = .ok (.aload_n 0, 1) := by decide +kernel
theorem dL_law_236 : decode cL_law 236 = .ok (.iload_n 3, 1) := by decide +kernel
theorem dL_law_237 : decode cL_law 237 = .ok (.iconst 1, 1) := by decide +kernel
theorem dL_law_238 : decode cL_law 238 = .ok (.iadd, 1) := by decide +kernel
theorem dL_law_239 : decode cL_law 239 = .ok (.iaload, 1) := by decide +kernel
theorem dL_law_240 : decode cL_law 240 = .ok (.aload_n 0, 1) := by decide +kernel
theorem dL_law_241 : decode cL_law 241 = .ok (.iload_n 3, 1) := by decide +kernel
theorem dL_law_242 : decode cL_law 242 = .ok (.iconst 2, 1) := by decide +kernel
theorem dL_law_243 : decode cL_law 243 = .ok (.iadd, 1) := by decide +kernel
theorem dL_law_244 : decode cL_law 244 = .ok (.iaload, 1) := by decide +kernel
theorem dL_law_245 : decode cL_law 245 = .ok (.invokevirtual 33, 3) := by decide +kernel
theorem dL_law_248 : decode cL_law 248 = .ok (.aload_n 2, 1) := by decide +kernel
theorem dL_law_249 : decode cL_law 249 = .ok (.aload_n 0, 1) := by decide +kernel
theorem dL_law_250 : decode cL_law 250 = .ok (.iload_n 3, 1) := by decide +kernel
theorem dL_law_251 : decode cL_law 251 = .ok (.iconst 1, 1) := by decide +kernel
theorem dL_law_252 : decode cL_law 252 = .ok (.iadd, 1) := by decide +kernel
theorem dL_law_253 : decode cL_law 253 = .ok (.iaload, 1) := by decide +kernel
theorem dL_law_254 : decode cL_law 254 = .ok (.aload_n 0, 1) := by decide +kernel
theorem dL_law_255 : decode cL_law 255 = .ok (.iload_n 3, 1) := by decide +kernel
theorem dL_law_256 : decode cL_law 256 = .ok (.iconst 2, 1) := by decide +kernel
theorem dL_law_257 : decode cL_law 257 = .ok (.iadd, 1) := by decide +kernel
theorem dL_law_258 : decode cL_law 258 = .ok (.iaload, 1) := by decide +kernel
theorem dL_law_259 : decode cL_law 259 = .ok (.invokevirtual 37, 3) := by decide +kernel
theorem dL_law_262 : decode cL_law 262 = .ok (.if_icmp .eq 266, 3) := by decide +kernel
theorem dL_law_267 : decode cL_law 267 = .ok (.aload_n 1, 1) := by decide +kernel
theorem dL_law_268 : decode cL_law 268 = .ok (.invokevirtual 38, 3) := by decide +kernel
theorem dL_law_271 : decode cL_law 271 = .ok (.aload_n 2, 1) := by decide +kernel
theorem dL_law_272 : decode cL_law 272 = .ok (.invokevirtual 41, 3) := by decide +kernel
theorem dL_law_275 : decode cL_law 275 = .ok (.if_icmp .eq 253, 3) := by decide +kernel
theorem dL_law_280 : decode cL_law 280 = .ok (.aload_n 1, 1) := by decide +kernel
theorem dL_law_281 : decode cL_law 281 = .ok (.aload_n 0, 1) := by decide +kernel
theorem dL_law_282 : decode cL_law 282 = .ok (.iload_n 3, 1) := by decide +kernel
theorem dL_law_283 : decode cL_law 283 = .ok (.iconst 1, 1) := by decide +kernel
theorem dL_law_284 : decode cL_law 284 = .ok (.iadd, 1) := by decide +kernel
theorem dL_law_285 : decode cL_law 285 = .ok (.iaload, 1) := by decide +kernel
theorem dL_law_286 : decode cL_law 286 = .ok (.invokevirtual 42, 3) := by decide +kernel
theorem dL_law_289 : decode cL_law 289 = .ok (.aload_n 2, 1) := by decide +kernel
theorem dL_law_290 : decode cL_law 290 = .ok (.aload_n 0, 1) := by decide +kernel
theorem dL_law_291 : decode cL_law 291 = .ok (.iload_n 3, 1) := by decide +kernel
theorem dL_law_292 : decode cL_law 292 = .ok (.iconst 1, 1) := by decide +kernel
theorem dL_law_293 : decode cL_law 293 = .ok (.iadd, 1) := by decide +kernel
theorem dL_law_294 : decode cL_law 294 = .ok (.iaload, 1) := by decide +kernel
theorem dL_law_295 : decode cL_law 295 = .ok (.invokevirtual 45, 3) := by decide +kernel
theorem dL_law_298 : decode cL_law 298 = .ok (.if_icmp .eq 230, 3) := by decide +kernel
theorem dL_law_303 : decode cL_law 303 = .ok (.aload_n 1, 1) := by decide +kernel
theorem dL_law_304 : decode cL_law 304 = .ok (.aload_n 0, 1) := by decide +kernel
theorem dL_law_305 : decode cL_law 305 = .ok (.iload_n 3, 1) := by decide +kernel
theorem dL_law_306 : decode cL_law 306 = .ok (.iconst 1, 1) := by decide +kernel
theorem dL_law_307 : decode cL_law 307 = .ok (.iadd, 1) := by decide +kernel
theorem dL_law_308 : decode cL_law 308 = .ok (.iaload, 1) := by decide +kernel
theorem dL_law_309 : decode cL_law 309 = .ok (.aload_n 0, 1) := by decide +kernel
theorem dL_law_310 : decode cL_law 310 = .ok (.iload_n 3, 1) := by decide +kernel
theorem dL_law_311 : decode cL_law 311 = .ok (.iconst 2, 1) := by decide +kernel
theorem dL_law_312 : decode cL_law 312 = .ok (.iadd, 1) := by decide +kernel
theorem dL_law_313 : decode cL_law 313 = .ok (.iaload, 1) := by decide +kernel
theorem dL_law_314 : decode cL_law 314 = .ok (.aload_n 0, 1) := by decide +kernel
theorem dL_law_315 : decode cL_law 315 = .ok (.iload_n 3, 1) := by decide +kernel
theorem dL_law_316 : decode cL_law 316 = .ok (.iconst 3, 1) := by decide +kernel
theorem dL_law_317 : decode cL_law 317 = .ok (.iadd, 1) := by decide +kernel
theorem dL_law_318 : decode cL_law 318 = .ok (.iaload, 1) := by decide +kernel
theorem dL_law_319 : decode cL_law 319 = .ok (.invokevirtual 46, 3) := by decide +kernel
theorem dL_law_322 : decode cL_law 322 = .ok (.aload_n 2, 1) := by decide +kernel
theorem dL_law_323 : decode cL_law 323 = .ok (.aload_n 0, 1) := by decide +kernel
theorem dL_law_324 : decode cL_law 324 = .ok (.iload_n 3, 1) := by decide +kernel
theorem dL_law_325 : decode cL_law 325 = .ok (.iconst 1, 1) := by decide +kernel
theorem dL_law_326 : decode cL_law 326 = .ok (.iadd, 1) := by decide +kernel
theorem dL_law_327 : decode cL_law 327 = .ok (.iaload, 1) := by decide +kernel
theorem dL_law_328 : decode cL_law 328 = .ok (.aload_n 0, 1) := by decide +kernel
theorem dL_law_329 : decode cL_law 329 = .ok (.iload_n 3, 1) := by decide +kernel
theorem dL_law_330 : decode cL_law 330 = .ok (.iconst 2, 1) := by decide +kernel
theorem dL_law_331 : decode cL_law 331 = .ok (.iadd, 1) := by decide +kernel
theorem dL_law_332 : decode cL_law 332 = .ok (.iaload, 1) := by decide +kernel
theorem dL_law_333 : decode cL_law 333 = .ok (.aload_n 0, 1) := by decide +kernel
theorem dL_law_334 : decode cL_law 334 = .ok (.iload_n 3, 1) := by decide +kernel
theorem dL_law_335 : decode cL_law 335 = .ok (.iconst 3, 1) := by decide +kernel
theorem dL_law_336 : decode cL_law 336 = .ok (.iadd, 1) := by decide +kernel
theorem dL_law_337 : decode cL_law 337 = .ok (.iaload, 1) := by decide +kernel
theorem dL_law_338 : decode cL_law 338 = .ok (.invokevirtual 50, 3) := by decide +kernel
theorem dL_law_341 : decode cL_law 341 = .ok (.if_icmp .eq 187, 3) := by decide +kernel
theorem dL_law_346 : decode cL_law 346 = .ok (.aload_n 1, 1) := by decide +kernel
theorem dL_law_347 : decode cL_law 347 = .ok (.invokevirtual 51, 3) := by decide +kernel
theorem dL_law_350 : decode cL_law 350 = .ok (.aload_n 2, 1) := by decide +kernel
theorem dL_law_351 : decode cL_law 351 = .ok (.invokevirtual 54, 3) := by decide +kernel
theorem dL_law_354 : decode cL_law 354 = .ok (.goto 174, 3) := by decide +kernel
theorem dL_law_357 : decode cL_law 357 = .ok (.aload_n 1, 1) := by decide +kernel
theorem dL_law_358 : decode cL_law 358 = .ok (.invokevirtual 55, 3) := by decide +kernel
theorem dL_law_361 : decode cL_law 361 = .ok (.aload_n 2, 1) := by decide +kernel
theorem dL_law_362 : decode cL_law 362 = .ok (.invokevirtual 58, 3) := by decide +kernel
theorem dL_law_365 : decode cL_law 365 = .ok (.if_icmp .eq 163, 3) := by decide +kernel
theorem dL_law_370 : decode cL_law 370 = .ok (.aload_n 1, 1) := by decide +kernel
theorem dL_law_371 : decode cL_law 371 = .ok (.aload_n 0, 1) := by decide +kernel
theorem dL_law_372 : decode cL_law 372 = .ok (.iload_n 3, 1) := by decide +kernel
theorem dL_law_373 : decode cL_law 373 = .ok (.iconst 1, 1) := by decide +kernel
theorem dL_law_374 : decode cL_law 374 = .ok (.iadd, 1) := by decide +kernel
theorem dL_law_375 : decode cL_law 375 = .ok (.iaload, 1) := by decide +kernel
theorem dL_law_376 : decode cL_law 376 = .ok (.invokevirtual 59, 3) := by decide +kernel
theorem dL_law_379 : decode cL_law 379 = .ok (.aload_n 2, 1) := by decide +kernel
theorem dL_law_380 : decode cL_law 380 = .ok (.aload_n 0, 1) := by decide +kernel
theorem dL_law_381 : decode cL_law 381 = .ok (.iload_n 3, 1) := by decide +kernel
theorem dL_law_382 : decode cL_law 382 = .ok (.iconst 1, 1) := by decide +kernel
theorem dL_law_383 : decode cL_law 383 = .ok (.iadd, 1) := by decide +kernel
theorem dL_law_384 : decode cL_law 384 = .ok (.iaload, 1) := by decide +kernel
theorem dL_law_385 : decode cL_law 385 = .ok (.invokevirtual 62, 3) := by decide +kernel
theorem dL_law_388 : decode cL_law 388 = .ok (.if_icmp .eq 140, 3) := by decide +kernel
theorem dL_law_393 : decode cL_law 393 = .ok (.aload_n 1, 1) := by decide +kernel
theorem dL_law_394 : decode cL_law 394 = .ok (.aload_n 0, 1) := by decide +kernel
theorem dL_law_395 : decode cL_law 395 = .ok (.iload_n 3, 1) := by decide +kernel
theorem dL_law_396 : decode cL_law 396 = .ok (.iconst 1, 1) := by decide +kernel
theorem dL_law_397 : decode cL_law 397 = .ok (.iadd, 1) := by decide +kernel
theorem dL_law_398 : decode cL_law 398 = .ok (.iaload, 1) := by decide +kernel
theorem dL_law_399 : decode cL_law 399 = .ok (.aload_n 0, 1) := by decide +kernel
theorem dL_law_400 : decode cL_law 400 = .ok (.iload_n 3, 1) := by decide +kernel
theorem dL_law_401 : decode cL_law 401 = .ok (.iconst 2, 1) := by decide +kernel
theorem dL_law_402 : decode cL_law 402 = .ok (.iadd, 1) := by decide +kernel
theorem dL_law_403 : decode cL_law 403 = .ok (.iaload, 1) := by decide +kernel
theorem dL_law_404 : decode cL_law 404 = .ok (.invokevirtual 63, 3) := by decide +kernel
theorem dL_law_407 : decode cL_law 407 = .ok (.aload_n 2, 1) := by decide +kernel
theorem dL_law_408 : decode cL_law 408 = .ok (.aload_n 0, 1) := by decide +kernel
theorem dL_law_409 : decode cL_law 409 = .ok (.iload_n 3, 1) := by decide +kernel
theorem dL_law_410 : decode cL_law 410 = .ok (.iconst 1, 1) := by decide +kernel
theorem dL_law_411 : decode cL_law 411 = .ok (.iadd, 1) := by decide +kernel
theorem dL_law_412 : decode cL_law 412 = .ok (.iaload, 1) := by decide +kernel
theorem dL_law_413 : decode cL_law 413 = .ok (.aload_n 0, 1) := by decide +kernel
theorem dL_law_414 : decode cL_law 414 = .ok (.iload_n 3, 1) := by decide +kernel
theorem dL_law_415 : decode cL_law 415 = .ok (.iconst 2, 1) := by decide +kernel
theorem dL_law_416 : decode cL_law 416 = .ok (.iadd, 1) := by decide +kernel
theorem dL_law_417 : decode cL_law 417 = .ok (.iaload, 1) := by decide +kernel
theorem dL_law_418 : decode cL_law 418 = .ok (.invokevirtual 67, 3) := by decide +kernel
theorem dL_law_421 : decode cL_law 421 = .ok (.if_icmp .eq 107, 3) := by decide +kernel
theorem dL_law_426 : decode cL_law 426 = .ok (.aload_n 1, 1) := by decide +kernel
theorem dL_law_427 : decode cL_law 427 = .ok (.aload_n 0, 1) := by decide +kernel
theorem dL_law_428 : decode cL_law 428 = .ok (.iload_n 3, 1) := by decide +kernel
theorem dL_law_429 : decode cL_law 429 = .ok (.iconst 1, 1) := by decide +kernel
theorem dL_law_430 : decode cL_law 430 = .ok (.iadd, 1) := by decide +kernel
theorem dL_law_431 : decode cL_law 431 = .ok (.iaload, 1) := by decide +kernel
theorem dL_law_432 : decode cL_law 432 = .ok (.invokevirtual 68, 3) := by decide +kernel
theorem dL_law_435 : decode cL_law 435 = .ok (.aload_n 2, 1) := by decide +kernel
theorem dL_law_436 : decode cL_law 436 = .ok (.aload_n 0, 1) := by decide +kernel
theorem dL_law_437 : decode cL_law 437 = .ok (.iload_n 3, 1) := by decide +kernel
theorem dL_law_438 : decode cL_law 438 = .ok (.iconst 1, 1) := by decide +kernel
theorem dL_law_439 : decode cL_law 439 = .ok (.iadd, 1) := by decide +kernel
theorem dL_law_440 : decode cL_law 440 = .ok (.iaload, 1) := by decide +kernel
theorem dL_law_441 : decode cL_law 441 = .ok (.invokevirtual 71, 3) := by decide +kernel
theorem dL_law_444 : decode cL_law 444 = .ok (.if_icmp .eq 84, 3) := by decide +kernel
theorem dL_law_449 : decode cL_law 449 = .ok (.aload_n 1, 1) := by decide +kernel
theorem dL_law_450 : decode cL_law 450 = .ok (.aload_n 0, 1) := by decide +kernel
theorem dL_law_451 : decode cL_law 451 = .ok (.iload_n 3, 1) := by decide +kernel
theorem dL_law_452 : decode cL_law 452 = .ok (.iconst 1, 1) := by decide +kernel
theorem dL_law_453 : decode cL_law 453 = .ok (.iadd, 1) := by decide +kernel
theorem dL_law_454 : decode cL_law 454 = .ok (.iaload, 1) := by decide +kernel
theorem dL_law_455 : decode cL_law 455 = .ok (.invokevirtual 72, 3) := by decide +kernel
theorem dL_law_458 : decode cL_law 458 = .ok (.aload_n 2, 1) := by decide +kernel
theorem dL_law_459 : decode cL_law 459 = .ok (.aload_n 0, 1) := by decide +kernel
theorem dL_law_460 : decode cL_law 460 = .ok (.iload_n 3, 1) := by decide +kernel
theorem dL_law_461 : decode cL_law 461 = .ok (.iconst 1, 1) := by decide +kernel
theorem dL_law_462 : decode cL_law 462 = .ok (.iadd, 1) := by decide +kernel
theorem dL_law_463 : decode cL_law 463 = .ok (.iaload, 1) := by decide +kernel
theorem dL_law_464 : decode cL_law 464 = .ok (.invokevirtual 75, 3) := by decide +kernel
theorem dL_law_467 : decode cL_law 467 = .ok (.if_icmp .eq 61, 3) := by decide +kernel
theorem dL_law_472 : decode cL_law 472 = .ok (.aload_n 1, 1) := by decide +kernel
theorem dL_law_473 : decode cL_law 473 = .ok (.aload_n 0, 1) := by decide +kernel
theorem dL_law_474 : decode cL_law 474 = .ok (.iload_n 3, 1) := by decide +kernel
theorem dL_law_475 : decode cL_law 475 = .ok (.iconst 1, 1) := by decide +kernel
theorem dL_law_476 : decode cL_law 476 = .ok (.iadd, 1) := by decide +kernel
theorem dL_law_477 : decode cL_law 477 = .ok (.iaload, 1) := by decide +kernel
theorem dL_law_478 : decode cL_law 478 = .ok (.invokevirtual 76, 3) := by decide +kernel
theorem dL_law_481 : decode cL_law 481 = .ok (.aload_n 2, 1) := by decide +kernel
theorem dL_law_482 : decode cL_law 482 = .ok (.aload_n 0, 1) := by decide +kernel
theorem dL_law_483 : decode cL_law 483 = .ok (.iload_n 3, 1) := by decide +kernel
theorem dL_law_484 : decode cL_law 484 = .ok (.iconst 1, 1) := by decide +kernel
theorem dL_law_485 : decode cL_law 485 = .ok (.iadd, 1) := by decide +kernel
theorem dL_law_486 : decode cL_law 486 = .ok (.iaload, 1) := by decide +kernel
theorem dL_law_487 : decode cL_law 487 = .ok (.invokevirtual 79, 3) := by decide +kernel
theorem dL_law_490 : decode cL_law 490 = .ok (.if_icmp .eq 38, 3) := by decide +kernel
theorem dL_law_495 : decode cL_law 495 = .ok (.aload_n 1, 1) := by decide +kernel
theorem dL_law_496 : decode cL_law 496 = .ok (.aload_n 0, 1) := by decide +kernel
theorem dL_law_497 : decode cL_law 497 = .ok (.iload_n 3, 1) := by decide +kernel
theorem dL_law_498 : decode cL_law 498 = .ok (.iconst 1, 1) := by decide +kernel
theorem dL_law_499 : decode cL_law 499 = .ok (.iadd, 1) := by decide +kernel
theorem dL_law_500 : decode cL_law 500 = .ok (.iaload, 1) := by decide +kernel
theorem dL_law_501 : decode cL_law 501 = .ok (.aload_n 0, 1) := by decide +kernel
theorem dL_law_502 : decode cL_law 502 = .ok (.iload_n 3, 1) := by decide +kernel
theorem dL_law_503 : decode cL_law 503 = .ok (.iconst 2, 1) := by decide +kernel
theorem dL_law_504 : decode cL_law 504 = .ok (.iadd, 1) := by decide +kernel
theorem dL_law_505 : decode cL_law 505 = .ok (.iaload, 1) := by decide +kernel
theorem dL_law_506 : decode cL_law 506 = .ok (.invokevirtual 80, 3) := by decide +kernel
theorem dL_law_509 : decode cL_law 509 = .ok (.aload_n 2, 1) := by decide +kernel
theorem dL_law_510 : decode cL_law 510 = .ok (.aload_n 0, 1) := by decide +kernel
theorem dL_law_511 : decode cL_law 511 = .ok (.iload_n 3, 1) := by decide +kernel
theorem dL_law_512 : decode cL_law 512 = .ok (.iconst 1, 1) := by decide +kernel
theorem dL_law_513 : decode cL_law 513 = .ok (.iadd, 1) := by decide +kernel
theorem dL_law_514 : decode cL_law 514 = .ok (.iaload, 1) := by decide +kernel
theorem dL_law_515 : decode cL_law 515 = .ok (.aload_n 0, 1) := by decide +kernel
theorem dL_law_516 : decode cL_law 516 = .ok (.iload_n 3, 1) := by decide +kernel
theorem dL_law_517 : decode cL_law 517 = .ok (.iconst 2, 1) := by decide +kernel
theorem dL_law_518 : decode cL_law 518 = .ok (.iadd, 1) := by decide +kernel
theorem dL_law_519 : decode cL_law 519 = .ok (.iaload, 1) := by decide +kernel
theorem dL_law_520 : decode cL_law 520 = .ok (.invokevirtual 83, 3) := by decide +kernel
theorem dL_law_523 : decode cL_law 523 = .ok (.if_icmp .eq 5, 3) := by decide +kernel
theorem dL_law_528 : decode cL_law 528 = .ok (.iinc 3 6, 3) := by decide +kernel
theorem dL_law_531 : decode cL_law 531 = .ok (.goto (-513), 3) := by decide +kernel
theorem dL_law_534 : decode cL_law 534 = .ok (.iconst 1, 1) := by decide +kernel
theorem dL_law_535 : decode cL_law 535 = .ok (.ireturn, 1) := by decide +kernel
def VS_lw_p0 : List Cond := [Cond.code yX12_feed cX12_feed 6 (some .int), Cond.methodLink RL 13 yX12_feed, Cond.instanceMethod yX12_feed, Cond.selects RX12 yX12_feed yX12_feed, Cond.initialized RX12, Cond.code yX13_feed cX13_feed 6 (some .int), Cond.methodLink RL 17 yX13_feed, Cond.instanceMethod yX13_feed, Cond.selects RX13 yX13_feed yX13_feed, Cond.initialized RX13, Cond.code yX12_end cX12_end 2 (some .boolean), Cond.methodLink RL 18 yX12_end, Cond.instanceMethod yX12_end, Cond.selects RX12 yX12_end yX12_end, Cond.code yX13_end cX13_end 2 (some .boolean), Cond.methodLink RL 22 yX13_end, Cond.instanceMethod yX13_end, Cond.selects RX13 yX13_end yX13_end, Cond.code yX12_compile cX12_compile 4 (some .int), Cond.methodLink RL 23 yX12_compile, Cond.instanceMethod yX12_compile, Cond.selects RX12 yX12_compile yX12_compile, Cond.code yX13_compile cX13_compile 4 (some .int), Cond.methodLink RL 27 yX13_compile, Cond.instanceMethod yX13_compile, Cond.selects RX13 yX13_compile yX13_compile, Cond.code yX12_fault cX12_fault 2 (some .int), Cond.methodLink RL 28 yX12_fault, Cond.instanceMethod yX12_fault, Cond.selects RX12 yX12_fault yX12_fault, Cond.code yX13_fault cX13_fault 2 (some .int), Cond.methodLink RL 32 yX13_fault, Cond.instanceMethod yX13_fault, Cond.selects RX13 yX13_fault yX13_fault, Cond.code yX12_image cX12_image 4 (some .int), Cond.methodLink RL 33 yX12_image, Cond.instanceMethod yX12_image, Cond.selects RX12 yX12_image yX12_image, Cond.code yX13_image cX13_image 3 (some .int), Cond.methodLink RL 37 yX13_image]
def VS_lw_p1 : List Cond := [Cond.instanceMethod yX13_image, Cond.selects RX13 yX13_image yX13_image, Cond.code yX12_load cX12_load 2 (some .int), Cond.methodLink RL 38 yX12_load, Cond.instanceMethod yX12_load, Cond.selects RX12 yX12_load yX12_load, Cond.code yX13_load cX13_load 2 (some .int), Cond.methodLink RL 41 yX13_load, Cond.instanceMethod yX13_load, Cond.selects RX13 yX13_load yX13_load, Cond.code yX12_keep cX12_keep 4 (some .int), Cond.methodLink RL 42 yX12_keep, Cond.instanceMethod yX12_keep, Cond.selects RX12 yX12_keep yX12_keep, Cond.code yX13_keep cX13_keep 3 (some .int), Cond.methodLink RL 45 yX13_keep, Cond.instanceMethod yX13_keep, Cond.selects RX13 yX13_keep yX13_keep, Cond.code yX12_patch cX12_patch 5 (some .boolean), Cond.methodLink RL 46 yX12_patch, Cond.instanceMethod yX12_patch, Cond.selects RX12 yX12_patch yX12_patch, Cond.code yX13_patch cX13_patch 8 (some .boolean), Cond.methodLink RL 50 yX13_patch, Cond.instanceMethod yX13_patch, Cond.selects RX13 yX13_patch yX13_patch, Cond.code yX12_clear cX12_clear 1 none, Cond.methodLink RL 51 yX12_clear, Cond.instanceMethod yX12_clear, Cond.selects RX12 yX12_clear yX12_clear, Cond.methodLink RL 54 yX13_clear, Cond.instanceMethod yX13_clear, Cond.selects RX13 yX13_clear yX13_clear, Cond.code yX12_verify cX12_verify 2 (some .int), Cond.methodLink RL 55 yX12_verify, Cond.instanceMethod yX12_verify, Cond.selects RX12 yX12_verify yX12_verify, Cond.code yX13_verify cX13_verify 4 (some .int), Cond.methodLink RL 58 yX13_verify, Cond.instanceMethod yX13_verify]
def VS_lw_p2 : List Cond := [Cond.selects RX13 yX13_verify yX13_verify, Cond.code yX12_where cX12_where 2 (some .int), Cond.methodLink RL 59 yX12_where, Cond.instanceMethod yX12_where, Cond.selects RX12 yX12_where yX12_where, Cond.code yX13_where cX13_where 2 (some .int), Cond.methodLink RL 62 yX13_where, Cond.instanceMethod yX13_where, Cond.selects RX13 yX13_where yX13_where, Cond.code yX12_start cX12_start 4 (some .boolean), Cond.methodLink RL 63 yX12_start, Cond.instanceMethod yX12_start, Cond.selects RX12 yX12_start yX12_start, Cond.code yX13_start cX13_start 5 (some .boolean), Cond.methodLink RL 67 yX13_start, Cond.instanceMethod yX13_start, Cond.selects RX13 yX13_start yX13_start, Cond.code yX12_run cX12_run 2 (some .int), Cond.methodLink RL 68 yX12_run, Cond.instanceMethod yX12_run, Cond.selects RX12 yX12_run yX12_run, Cond.code yX13_run cX13_run 3 (some .int), Cond.methodLink RL 71 yX13_run, Cond.instanceMethod yX13_run, Cond.selects RX13 yX13_run yX13_run, Cond.code yX12_look cX12_look 2 (some .int), Cond.methodLink RL 72 yX12_look, Cond.instanceMethod yX12_look, Cond.selects RX12 yX12_look yX12_look, Cond.code yX13_look cX13_look 2 (some .int), Cond.methodLink RL 75 yX13_look, Cond.instanceMethod yX13_look, Cond.selects RX13 yX13_look yX13_look, Cond.code yX12_out cX12_out 2 (some .int), Cond.methodLink RL 76 yX12_out, Cond.instanceMethod yX12_out, Cond.selects RX12 yX12_out yX12_out, Cond.code yX13_out cX13_out 2 (some .int), Cond.methodLink RL 79 yX13_out, Cond.instanceMethod yX13_out]
def VS_lw_p3 : List Cond := [Cond.selects RX13 yX13_out yX13_out, Cond.code yX12_type cX12_type 4 (some .int), Cond.methodLink RL 80 yX12_type, Cond.instanceMethod yX12_type, Cond.selects RX12 yX12_type yX12_type, Cond.code yX13_type_ cX13_type_ 4 (some .int), Cond.methodLink RL 83 yX13_type_, Cond.instanceMethod yX13_type_, Cond.selects RX13 yX13_type_ yX13_type_, Cond.instantiable RX0 13, Cond.instantiable RX1 16, Cond.instantiable RX2 21, Cond.instantiable RX3 14, Cond.instantiable RX4 2, Cond.instantiable RX5 21, Cond.instantiable RX6 8, Cond.instantiable RX7 8, Cond.instantiable RX8 2, Cond.instantiable RX9 13, Cond.instantiable RX10 19, Cond.instantiable RX11 21, Cond.instantiable RX12 11, Cond.instantiable RX13 155, Cond.classLink RL 7 RX12, Cond.methodLink RL 9 yX12_init, Cond.instanceMethod yX12_init, Cond.classLink RL 10 RX13, Cond.methodLink RL 12 yX13_init, Cond.instanceMethod yX13_init]
def VS_lw : List Cond := VS_lw_p0 ++ (VS_lw_p1 ++ (VS_lw_p2 ++ (VS_lw_p3 ++ (VS_k1 ++ (VS_c2 ++ (VS_c1 ++ (VS_c3 ++ (wsX13_clear ++ (wsX00 ++ (wsX10 ++ (wsX20 ++ (wsX30 ++ (wsX40 ++ (wsX50 ++ (wsX60 ++ (wsX70 ++ (wsX80 ++ (wsX90 ++ (wsX100 ++ (wsX110 ++ (wsX120 ++ (wsX130 ++ (wsX12_init ++ (wsX13_init))))))))))))))))))))))))
theorem mw_lw_0 : Cond.code yX12_feed cX12_feed 6 (some .int) ∈ VS_lw := List.mem_append_left _ (List.mem_of_getElem? (i := 0) rfl)
theorem mw_lw_1 : Cond.methodLink RL 13 yX12_feed ∈ VS_lw := List.mem_append_left _ (List.mem_of_getElem? (i := 1) rfl)
theorem mw_lw_2 : Cond.instanceMethod yX12_feed ∈ VS_lw := List.mem_append_left _ (List.mem_of_getElem? (i := 2) rfl)
theorem mw_lw_3 : Cond.selects RX12 yX12_feed yX12_feed ∈ VS_lw := List.mem_append_left _ (List.mem_of_getElem? (i := 3) rfl)
theorem mw_lw_4 : Cond.initialized RX12 ∈ VS_lw := List.mem_append_left _ (List.mem_of_getElem? (i := 4) rfl)
theorem mw_lw_5 : Cond.code yX13_feed cX13_feed 6 (some .int) ∈ VS_lw := List.mem_append_left _ (List.mem_of_getElem? (i := 5) rfl)
theorem mw_lw_6 : Cond.methodLink RL 17 yX13_feed ∈ VS_lw := List.mem_append_left _ (List.mem_of_getElem? (i := 6) rfl)
theorem mw_lw_7 : Cond.instanceMethod yX13_feed ∈ VS_lw := List.mem_append_left _ (List.mem_of_getElem? (i := 7) rfl)
theorem mw_lw_8 : Cond.selects RX13 yX13_feed yX13_feed ∈ VS_lw := List.mem_append_left _ (List.mem_of_getElem? (i := 8) rfl)
theorem mw_lw_9 : Cond.initialized RX13 ∈ VS_lw := List.mem_append_left _ (List.mem_of_getElem? (i := 9) rfl)
theorem mw_lw_10 : Cond.code yX12_end cX12_end 2 (some .boolean) ∈ VS_lw := List.mem_append_left _ (List.mem_of_getElem? (i := 10) rfl)
theorem mw_lw_11 : Cond.methodLink RL 18 yX12_end ∈ VS_lw := List.mem_append_left _ (List.mem_of_getElem? (i := 11) rfl)
theorem mw_lw_12 : Cond.instanceMethod yX12_end ∈ VS_lw := List.mem_append_left _ (List.mem_of_getElem? (i := 12) rfl)
theorem mw_lw_13 : Cond.selects RX12 yX12_end yX12_end ∈ VS_lw := List.mem_append_left _ (List.mem_of_getElem? (i := 13) rfl)
theorem mw_lw_14 : Cond.code yX13_end cX13_end 2 (some .boolean) ∈ VS_lw := List.mem_append_left _ (List.mem_of_getElem? (i := 14) rfl)
theorem mw_lw_15 : Cond.methodLink RL 22 yX13_end ∈ VS_lw := List.mem_append_left _ (List.mem_of_getElem? (i := 15) rfl)
theorem mw_lw_16 : Cond.instanceMethod yX13_end ∈ VS_lw := List.mem_append_left _ (List.mem_of_getElem? (i := 16) rfl)
theorem mw_lw_17 : Cond.selects RX13 yX13_end yX13_end ∈ VS_lw := List.mem_append_left _ (List.mem_of_getElem? (i := 17) rfl)
theorem mw_lw_18 : Cond.code yX12_compile cX12_compile 4 (some .int) ∈ VS_lw := List.mem_append_left _ (List.mem_of_getElem? (i := 18) rfl)
theorem mw_lw_19 : Cond.methodLink RL 23 yX12_compile ∈ VS_lw := List.mem_append_left _ (List.mem_of_getElem? (i := 19) rfl)
theorem mw_lw_20 : Cond.instanceMethod yX12_compile ∈ VS_lw := List.mem_append_left _ (List.mem_of_getElem? (i := 20) rfl)
theorem mw_lw_21 : Cond.selects RX12 yX12_compile yX12_compile ∈ VS_lw := List.mem_append_left _ (List.mem_of_getElem? (i := 21) rfl)
theorem mw_lw_22 : Cond.code yX13_compile cX13_compile 4 (some .int) ∈ VS_lw := List.mem_append_left _ (List.mem_of_getElem? (i := 22) rfl)
theorem mw_lw_23 : Cond.methodLink RL 27 yX13_compile ∈ VS_lw := List.mem_append_left _ (List.mem_of_getElem? (i := 23) rfl)
theorem mw_lw_24 : Cond.instanceMethod yX13_compile ∈ VS_lw := List.mem_append_left _ (List.mem_of_getElem? (i := 24) rfl)
theorem mw_lw_25 : Cond.selects RX13 yX13_compile yX13_compile ∈ VS_lw := List.mem_append_left _ (List.mem_of_getElem? (i := 25) rfl)
theorem mw_lw_26 : Cond.code yX12_fault cX12_fault 2 (some .int) ∈ VS_lw := List.mem_append_left _ (List.mem_of_getElem? (i := 26) rfl)
theorem mw_lw_27 : Cond.methodLink RL 28 yX12_fault ∈ VS_lw := List.mem_append_left _ (List.mem_of_getElem? (i := 27) rfl)
theorem mw_lw_28 : Cond.instanceMethod yX12_fault ∈ VS_lw := List.mem_append_left _ (List.mem_of_getElem? (i := 28) rfl)
theorem mw_lw_29 : Cond.selects RX12 yX12_fault yX12_fault ∈ VS_lw := List.mem_append_left _ (List.mem_of_getElem? (i := 29) rfl)
theorem mw_lw_30 : Cond.code yX13_fault cX13_fault 2 (some .int) ∈ VS_lw := List.mem_append_left _ (List.mem_of_getElem? (i := 30) rfl)
theorem mw_lw_31 : Cond.methodLink RL 32 yX13_fault ∈ VS_lw := List.mem_append_left _ (List.mem_of_getElem? (i := 31) rfl)
theorem mw_lw_32 : Cond.instanceMethod yX13_fault ∈ VS_lw := List.mem_append_left _ (List.mem_of_getElem? (i := 32) rfl)
theorem mw_lw_33 : Cond.selects RX13 yX13_fault yX13_fault ∈ VS_lw := List.mem_append_left _ (List.mem_of_getElem? (i := 33) rfl)
theorem mw_lw_34 : Cond.code yX12_image cX12_image 4 (some .int) ∈ VS_lw := List.mem_append_left _ (List.mem_of_getElem? (i := 34) rfl)
theorem mw_lw_35 : Cond.methodLink RL 33 yX12_image ∈ VS_lw := List.mem_append_left _ (List.mem_of_getElem? (i := 35) rfl)
theorem mw_lw_36 : Cond.instanceMethod yX12_image ∈ VS_lw := List.mem_append_left _ (List.mem_of_getElem? (i := 36) rfl)
theorem mw_lw_37 : Cond.selects RX12 yX12_image yX12_image ∈ VS_lw := List.mem_append_left _ (List.mem_of_getElem? (i := 37) rfl)
theorem mw_lw_38 : Cond.code yX13_image cX13_image 3 (some .int) ∈ VS_lw := List.mem_append_left _ (List.mem_of_getElem? (i := 38) rfl)
theorem mw_lw_39 : Cond.methodLink RL 37 yX13_image ∈ VS_lw := List.mem_append_left _ (List.mem_of_getElem? (i := 39) rfl)
theorem mw_lw_40 : Cond.instanceMethod yX13_image ∈ VS_lw := List.mem_append_right _ (List.mem_append_left _ (List.mem_of_getElem? (i := 0) rfl))
theorem mw_lw_41 : Cond.selects RX13 yX13_image yX13_image ∈ VS_lw := List.mem_append_right _ (List.mem_append_left _ (List.mem_of_getElem? (i := 1) rfl))
theorem mw_lw_42 : Cond.code yX12_load cX12_load 2 (some .int) ∈ VS_lw := List.mem_append_right _ (List.mem_append_left _ (List.mem_of_getElem? (i := 2) rfl))
theorem mw_lw_43 : Cond.methodLink RL 38 yX12_load ∈ VS_lw := List.mem_append_right _ (List.mem_append_left _ (List.mem_of_getElem? (i := 3) rfl))
theorem mw_lw_44 : Cond.instanceMethod yX12_load ∈ VS_lw := List.mem_append_right _ (List.mem_append_left _ (List.mem_of_getElem? (i := 4) rfl))
theorem mw_lw_45 : Cond.selects RX12 yX12_load yX12_load ∈ VS_lw := List.mem_append_right _ (List.mem_append_left _ (List.mem_of_getElem? (i := 5) rfl))
theorem mw_lw_46 : Cond.code yX13_load cX13_load 2 (some .int) ∈ VS_lw := List.mem_append_right _ (List.mem_append_left _ (List.mem_of_getElem? (i := 6) rfl))
theorem mw_lw_47 : Cond.methodLink RL 41 yX13_load ∈ VS_lw := List.mem_append_right _ (List.mem_append_left _ (List.mem_of_getElem? (i := 7) rfl))
theorem mw_lw_48 : Cond.instanceMethod yX13_load ∈ VS_lw := List.mem_append_right _ (List.mem_append_left _ (List.mem_of_getElem? (i := 8) rfl))
theorem mw_lw_49 : Cond.selects RX13 yX13_load yX13_load ∈ VS_lw := List.mem_append_right _ (List.mem_append_left _ (List.mem_of_getElem? (i := 9) rfl))
theorem mw_lw_50 : Cond.code yX12_keep cX12_keep 4 (some .int) ∈ VS_lw := List.mem_append_right _ (List.mem_append_left _ (List.mem_of_getElem? (i := 10) rfl))
theorem mw_lw_51 : Cond.methodLink RL 42 yX12_keep ∈ VS_lw := List.mem_append_right _ (List.mem_append_left _ (List.mem_of_getElem? (i := 11) rfl))
theorem mw_lw_52 : Cond.instanceMethod yX12_keep ∈ VS_lw := List.mem_append_right _ (List.mem_append_left _ (List.mem_of_getElem? (i := 12) rfl))
theorem mw_lw_53 : Cond.selects RX12 yX12_keep yX12_keep ∈ VS_lw := List.mem_append_right _ (List.mem_append_left _ (List.mem_of_getElem? (i := 13) rfl))
theorem mw_lw_54 : Cond.code yX13_keep cX13_keep 3 (some .int) ∈ VS_lw := List.mem_append_right _ (List.mem_append_left _ (List.mem_of_getElem? (i := 14) rfl))
theorem mw_lw_55 : Cond.methodLink RL 45 yX13_keep ∈ VS_lw := List.mem_append_right _ (List.mem_append_left _ (List.mem_of_getElem? (i := 15) rfl))
theorem mw_lw_56 : Cond.instanceMethod yX13_keep ∈ VS_lw := List.mem_append_right _ (List.mem_append_left _ (List.mem_of_getElem? (i := 16) rfl))
theorem mw_lw_57 : Cond.selects RX13 yX13_keep yX13_keep ∈ VS_lw := List.mem_append_right _ (List.mem_append_left _ (List.mem_of_getElem? (i := 17) rfl))
theorem mw_lw_58 : Cond.code yX12_patch cX12_patch 5 (some .boolean) ∈ VS_lw := List.mem_append_right _ (List.mem_append_left _ (List.mem_of_getElem? (i := 18) rfl))
theorem mw_lw_59 : Cond.methodLink RL 46 yX12_patch ∈ VS_lw := List.mem_append_right _ (List.mem_append_left _ (List.mem_of_getElem? (i := 19) rfl))
theorem mw_lw_60 : Cond.instanceMethod yX12_patch ∈ VS_lw := List.mem_append_right _ (List.mem_append_left _ (List.mem_of_getElem? (i := 20) rfl))
theorem mw_lw_61 : Cond.selects RX12 yX12_patch yX12_patch ∈ VS_lw := List.mem_append_right _ (List.mem_append_left _ (List.mem_of_getElem? (i := 21) rfl))
theorem mw_lw_62 : Cond.code yX13_patch cX13_patch 8 (some .boolean) ∈ VS_lw := List.mem_append_right _ (List.mem_append_left _ (List.mem_of_getElem? (i := 22) rfl))
theorem mw_lw_63 : Cond.methodLink RL 50 yX13_patch ∈ VS_lw := List.mem_append_right _ (List.mem_append_left _ (List.mem_of_getElem? (i := 23) rfl))
theorem mw_lw_64 : Cond.instanceMethod yX13_patch ∈ VS_lw := List.mem_append_right _ (List.mem_append_left _ (List.mem_of_getElem? (i := 24) rfl))
theorem mw_lw_65 : Cond.selects RX13 yX13_patch yX13_patch ∈ VS_lw := List.mem_append_right _ (List.mem_append_left _ (List.mem_of_getElem? (i := 25) rfl))
theorem mw_lw_66 : Cond.code yX12_clear cX12_clear 1 none ∈ VS_lw := List.mem_append_right _ (List.mem_append_left _ (List.mem_of_getElem? (i := 26) rfl))
theorem mw_lw_67 : Cond.methodLink RL 51 yX12_clear ∈ VS_lw := List.mem_append_right _ (List.mem_append_left _ (List.mem_of_getElem? (i := 27) rfl))
theorem mw_lw_68 : Cond.instanceMethod yX12_clear ∈ VS_lw := List.mem_append_right _ (List.mem_append_left _ (List.mem_of_getElem? (i := 28) rfl))
theorem mw_lw_69 : Cond.selects RX12 yX12_clear yX12_clear ∈ VS_lw := List.mem_append_right _ (List.mem_append_left _ (List.mem_of_getElem? (i := 29) rfl))
theorem mw_lw_70 : Cond.methodLink RL 54 yX13_clear ∈ VS_lw := List.mem_append_right _ (List.mem_append_left _ (List.mem_of_getElem? (i := 30) rfl))
theorem mw_lw_71 : Cond.instanceMethod yX13_clear ∈ VS_lw := List.mem_append_right _ (List.mem_append_left _ (List.mem_of_getElem? (i := 31) rfl))
theorem mw_lw_72 : Cond.selects RX13 yX13_clear yX13_clear ∈ VS_lw := List.mem_append_right _ (List.mem_append_left _ (List.mem_of_getElem? (i := 32) rfl))
theorem mw_lw_73 : Cond.code yX12_verify cX12_verify 2 (some .int) ∈ VS_lw := List.mem_append_right _ (List.mem_append_left _ (List.mem_of_getElem? (i := 33) rfl))
theorem mw_lw_74 : Cond.methodLink RL 55 yX12_verify ∈ VS_lw := List.mem_append_right _ (List.mem_append_left _ (List.mem_of_getElem? (i := 34) rfl))
theorem mw_lw_75 : Cond.instanceMethod yX12_verify ∈ VS_lw := List.mem_append_right _ (List.mem_append_left _ (List.mem_of_getElem? (i := 35) rfl))
theorem mw_lw_76 : Cond.selects RX12 yX12_verify yX12_verify ∈ VS_lw := List.mem_append_right _ (List.mem_append_left _ (List.mem_of_getElem? (i := 36) rfl))
theorem mw_lw_77 : Cond.code yX13_verify cX13_verify 4 (some .int) ∈ VS_lw := List.mem_append_right _ (List.mem_append_left _ (List.mem_of_getElem? (i := 37) rfl))
theorem mw_lw_78 : Cond.methodLink RL 58 yX13_verify ∈ VS_lw := List.mem_append_right _ (List.mem_append_left _ (List.mem_of_getElem? (i := 38) rfl))
theorem mw_lw_79 : Cond.instanceMethod yX13_verify ∈ VS_lw := List.mem_append_right _ (List.mem_append_left _ (List.mem_of_getElem? (i := 39) rfl))
theorem mw_lw_80 : Cond.selects RX13 yX13_verify yX13_verify ∈ VS_lw := List.mem_append_right _ (List.mem_append_right _ (List.mem_append_left _ (List.mem_of_getElem? (i := 0) rfl)))
theorem mw_lw_81 : Cond.code yX12_where cX12_where 2 (some .int) ∈ VS_lw := List.mem_append_right _ (List.mem_append_right _ (List.mem_append_left _ (List.mem_of_getElem? (i := 1) rfl)))
theorem mw_lw_82 : Cond.methodLink RL 59 yX12_where ∈ VS_lw := List.mem_append_right _ (List.mem_append_right _ (List.mem_append_left _ (List.mem_of_getElem? (i := 2) rfl)))
theorem mw_lw_83 : Cond.instanceMethod yX12_where ∈ VS_lw := List.mem_append_right _ (List.mem_append_right _ (List.mem_append_left _ (List.mem_of_getElem? (i := 3) rfl)))
theorem mw_lw_84 : Cond.selects RX12 yX12_where yX12_where ∈ VS_lw := List.mem_append_right _ (List.mem_append_right _ (List.mem_append_left _ (List.mem_of_getElem? (i := 4) rfl)))
theorem mw_lw_85 : Cond.code yX13_where cX13_where 2 (some .int) ∈ VS_lw := List.mem_append_right _ (List.mem_append_right _ (List.mem_append_left _ (List.mem_of_getElem? (i := 5) rfl)))
theorem mw_lw_86 : Cond.methodLink RL 62 yX13_where ∈ VS_lw := List.mem_append_right _ (List.mem_append_right _ (List.mem_append_left _ (List.mem_of_getElem? (i := 6) rfl)))
theorem mw_lw_87 : Cond.instanceMethod yX13_where ∈ VS_lw := List.mem_append_right _ (List.mem_append_right _ (List.mem_append_left _ (List.mem_of_getElem? (i := 7) rfl)))
theorem mw_lw_88 : Cond.selects RX13 yX13_where yX13_where ∈ VS_lw := List.mem_append_right _ (List.mem_append_right _ (List.mem_append_left _ (List.mem_of_getElem? (i := 8) rfl)))
theorem mw_lw_89 : Cond.code yX12_start cX12_start 4 (some .boolean) ∈ VS_lw := List.mem_append_right _ (List.mem_append_right _ (List.mem_append_left _ (List.mem_of_getElem? (i := 9) rfl)))
theorem mw_lw_90 : Cond.methodLink RL 63 yX12_start ∈ VS_lw := List.mem_append_right _ (List.mem_append_right _ (List.mem_append_left _ (List.mem_of_getElem? (i := 10) rfl)))
theorem mw_lw_91 : Cond.instanceMethod yX12_start ∈ VS_lw := List.mem_append_right _ (List.mem_append_right _ (List.mem_append_left _ (List.mem_of_getElem? (i := 11) rfl)))
theorem mw_lw_92 : Cond.selects RX12 yX12_start yX12_start ∈ VS_lw := List.mem_append_right _ (List.mem_append_right _ (List.mem_append_left _ (List.mem_of_getElem? (i := 12) rfl)))
theorem mw_lw_93 : Cond.code yX13_start cX13_start 5 (some .boolean) ∈ VS_lw := List.mem_append_right _ (List.mem_append_right _ (List.mem_append_left _ (List.mem_of_getElem? (i := 13) rfl)))
theorem mw_lw_94 : Cond.methodLink RL 67 yX13_start ∈ VS_lw := List.mem_append_right _ (List.mem_append_right _ (List.mem_append_left _ (List.mem_of_getElem? (i := 14) rfl)))
theorem mw_lw_95 : Cond.instanceMethod yX13_start ∈ VS_lw := List.mem_append_right _ (List.mem_append_right _ (List.mem_append_left _ (List.mem_of_getElem? (i := 15) rfl)))
theorem mw_lw_96 : Cond.selects RX13 yX13_start yX13_start ∈ VS_lw := List.mem_append_right _ (List.mem_append_right _ (List.mem_append_left _ (List.mem_of_getElem? (i := 16) rfl)))
theorem mw_lw_97 : Cond.code yX12_run cX12_run 2 (some .int) ∈ VS_lw := List.mem_append_right _ (List.mem_append_right _ (List.mem_append_left _ (List.mem_of_getElem? (i := 17) rfl)))
theorem mw_lw_98 : Cond.methodLink RL 68 yX12_run ∈ VS_lw := List.mem_append_right _ (List.mem_append_right _ (List.mem_append_left _ (List.mem_of_getElem? (i := 18) rfl)))
theorem mw_lw_99 : Cond.instanceMethod yX12_run ∈ VS_lw := List.mem_append_right _ (List.mem_append_right _ (List.mem_append_left _ (List.mem_of_getElem? (i := 19) rfl)))
theorem mw_lw_100 : Cond.selects RX12 yX12_run yX12_run ∈ VS_lw := List.mem_append_right _ (List.mem_append_right _ (List.mem_append_left _ (List.mem_of_getElem? (i := 20) rfl)))
theorem mw_lw_101 : Cond.code yX13_run cX13_run 3 (some .int) ∈ VS_lw := List.mem_append_right _ (List.mem_append_right _ (List.mem_append_left _ (List.mem_of_getElem? (i := 21) rfl)))
theorem mw_lw_102 : Cond.methodLink RL 71 yX13_run ∈ VS_lw := List.mem_append_right _ (List.mem_append_right _ (List.mem_append_left _ (List.mem_of_getElem? (i := 22) rfl)))
theorem mw_lw_103 : Cond.instanceMethod yX13_run ∈ VS_lw := List.mem_append_right _ (List.mem_append_right _ (List.mem_append_left _ (List.mem_of_getElem? (i := 23) rfl)))
theorem mw_lw_104 : Cond.selects RX13 yX13_run yX13_run ∈ VS_lw := List.mem_append_right _ (List.mem_append_right _ (List.mem_append_left _ (List.mem_of_getElem? (i := 24) rfl)))
theorem mw_lw_105 : Cond.code yX12_look cX12_look 2 (some .int) ∈ VS_lw := List.mem_append_right _ (List.mem_append_right _ (List.mem_append_left _ (List.mem_of_getElem? (i := 25) rfl)))
theorem mw_lw_106 : Cond.methodLink RL 72 yX12_look ∈ VS_lw := List.mem_append_right _ (List.mem_append_right _ (List.mem_append_left _ (List.mem_of_getElem? (i := 26) rfl)))
theorem mw_lw_107 : Cond.instanceMethod yX12_look ∈ VS_lw := List.mem_append_right _ (List.mem_append_right _ (List.mem_append_left _ (List.mem_of_getElem? (i := 27) rfl)))
theorem mw_lw_108 : Cond.selects RX12 yX12_look yX12_look ∈ VS_lw := List.mem_append_right _ (List.mem_append_right _ (List.mem_append_left _ (List.mem_of_getElem? (i := 28) rfl)))
theorem mw_lw_109 : Cond.code yX13_look cX13_look 2 (some .int) ∈ VS_lw := List.mem_append_right _ (List.mem_append_right _ (List.mem_append_left _ (List.mem_of_getElem? (i := 29) rfl)))
theorem mw_lw_110 : Cond.methodLink RL 75 yX13_look ∈ VS_lw := List.mem_append_right _ (List.mem_append_right _ (List.mem_append_left _ (List.mem_of_getElem? (i := 30) rfl)))
theorem mw_lw_111 : Cond.instanceMethod yX13_look ∈ VS_lw := List.mem_append_right _ (List.mem_append_right _ (List.mem_append_left _ (List.mem_of_getElem? (i := 31) rfl)))
theorem mw_lw_112 : Cond.selects RX13 yX13_look yX13_look ∈ VS_lw := List.mem_append_right _ (List.mem_append_right _ (List.mem_append_left _ (List.mem_of_getElem? (i := 32) rfl)))
theorem mw_lw_113 : Cond.code yX12_out cX12_out 2 (some .int) ∈ VS_lw := List.mem_append_right _ (List.mem_append_right _ (List.mem_append_left _ (List.mem_of_getElem? (i := 33) rfl)))
theorem mw_lw_114 : Cond.methodLink RL 76 yX12_out ∈ VS_lw := List.mem_append_right _ (List.mem_append_right _ (List.mem_append_left _ (List.mem_of_getElem? (i := 34) rfl)))
theorem mw_lw_115 : Cond.instanceMethod yX12_out ∈ VS_lw := List.mem_append_right _ (List.mem_append_right _ (List.mem_append_left _ (List.mem_of_getElem? (i := 35) rfl)))
theorem mw_lw_116 : Cond.selects RX12 yX12_out yX12_out ∈ VS_lw := List.mem_append_right _ (List.mem_append_right _ (List.mem_append_left _ (List.mem_of_getElem? (i := 36) rfl)))
theorem mw_lw_117 : Cond.code yX13_out cX13_out 2 (some .int) ∈ VS_lw := List.mem_append_right _ (List.mem_append_right _ (List.mem_append_left _ (List.mem_of_getElem? (i := 37) rfl)))
theorem mw_lw_118 : Cond.methodLink RL 79 yX13_out ∈ VS_lw := List.mem_append_right _ (List.mem_append_right _ (List.mem_append_left _ (List.mem_of_getElem? (i := 38) rfl)))
theorem mw_lw_119 : Cond.instanceMethod yX13_out ∈ VS_lw := List.mem_append_right _ (List.mem_append_right _ (List.mem_append_left _ (List.mem_of_getElem? (i := 39) rfl)))
theorem mw_lw_120 : Cond.selects RX13 yX13_out yX13_out ∈ VS_lw := List.mem_append_right _ (List.mem_append_right _ (List.mem_append_right _ (List.mem_append_left _ (List.mem_of_getElem? (i := 0) rfl))))
theorem mw_lw_121 : Cond.code yX12_type cX12_type 4 (some .int) ∈ VS_lw := List.mem_append_right _ (List.mem_append_right _ (List.mem_append_right _ (List.mem_append_left _ (List.mem_of_getElem? (i := 1) rfl))))
theorem mw_lw_122 : Cond.methodLink RL 80 yX12_type ∈ VS_lw := List.mem_append_right _ (List.mem_append_right _ (List.mem_append_right _ (List.mem_append_left _ (List.mem_of_getElem? (i := 2) rfl))))
theorem mw_lw_123 : Cond.instanceMethod yX12_type ∈ VS_lw := List.mem_append_right _ (List.mem_append_right _ (List.mem_append_right _ (List.mem_append_left _ (List.mem_of_getElem? (i := 3) rfl))))
theorem mw_lw_124 : Cond.selects RX12 yX12_type yX12_type ∈ VS_lw := List.mem_append_right _ (List.mem_append_right _ (List.mem_append_right _ (List.mem_append_left _ (List.mem_of_getElem? (i := 4) rfl))))
theorem mw_lw_125 : Cond.code yX13_type_ cX13_type_ 4 (some .int) ∈ VS_lw := List.mem_append_right _ (List.mem_append_right _ (List.mem_append_right _ (List.mem_append_left _ (List.mem_of_getElem? (i := 5) rfl))))
theorem mw_lw_126 : Cond.methodLink RL 83 yX13_type_ ∈ VS_lw := List.mem_append_right _ (List.mem_append_right _ (List.mem_append_right _ (List.mem_append_left _ (List.mem_of_getElem? (i := 6) rfl))))
theorem mw_lw_127 : Cond.instanceMethod yX13_type_ ∈ VS_lw := List.mem_append_right _ (List.mem_append_right _ (List.mem_append_right _ (List.mem_append_left _ (List.mem_of_getElem? (i := 7) rfl))))
theorem mw_lw_128 : Cond.selects RX13 yX13_type_ yX13_type_ ∈ VS_lw := List.mem_append_right _ (List.mem_append_right _ (List.mem_append_right _ (List.mem_append_left _ (List.mem_of_getElem? (i := 8) rfl))))
theorem mw_lw_129 : Cond.instantiable RX0 13 ∈ VS_lw := List.mem_append_right _ (List.mem_append_right _ (List.mem_append_right _ (List.mem_append_left _ (List.mem_of_getElem? (i := 9) rfl))))
theorem mw_lw_130 : Cond.instantiable RX1 16 ∈ VS_lw := List.mem_append_right _ (List.mem_append_right _ (List.mem_append_right _ (List.mem_append_left _ (List.mem_of_getElem? (i := 10) rfl))))
theorem mw_lw_131 : Cond.instantiable RX2 21 ∈ VS_lw := List.mem_append_right _ (List.mem_append_right _ (List.mem_append_right _ (List.mem_append_left _ (List.mem_of_getElem? (i := 11) rfl))))
theorem mw_lw_132 : Cond.instantiable RX3 14 ∈ VS_lw := List.mem_append_right _ (List.mem_append_right _ (List.mem_append_right _ (List.mem_append_left _ (List.mem_of_getElem? (i := 12) rfl))))
theorem mw_lw_133 : Cond.instantiable RX4 2 ∈ VS_lw := List.mem_append_right _ (List.mem_append_right _ (List.mem_append_right _ (List.mem_append_left _ (List.mem_of_getElem? (i := 13) rfl))))
theorem mw_lw_134 : Cond.instantiable RX5 21 ∈ VS_lw := List.mem_append_right _ (List.mem_append_right _ (List.mem_append_right _ (List.mem_append_left _ (List.mem_of_getElem? (i := 14) rfl))))
theorem mw_lw_135 : Cond.instantiable RX6 8 ∈ VS_lw := List.mem_append_right _ (List.mem_append_right _ (List.mem_append_right _ (List.mem_append_left _ (List.mem_of_getElem? (i := 15) rfl))))
theorem mw_lw_136 : Cond.instantiable RX7 8 ∈ VS_lw := List.mem_append_right _ (List.mem_append_right _ (List.mem_append_right _ (List.mem_append_left _ (List.mem_of_getElem? (i := 16) rfl))))
theorem mw_lw_137 : Cond.instantiable RX8 2 ∈ VS_lw := List.mem_append_right _ (List.mem_append_right _ (List.mem_append_right _ (List.mem_append_left _ (List.mem_of_getElem? (i := 17) rfl))))
theorem mw_lw_138 : Cond.instantiable RX9 13 ∈ VS_lw := List.mem_append_right _ (List.mem_append_right _ (List.mem_append_right _ (List.mem_append_left _ (List.mem_of_getElem? (i := 18) rfl))))
theorem mw_lw_139 : Cond.instantiable RX10 19 ∈ VS_lw := List.mem_append_right _ (List.mem_append_right _ (List.mem_append_right _ (List.mem_append_left _ (List.mem_of_getElem? (i := 19) rfl))))
theorem mw_lw_140 : Cond.instantiable RX11 21 ∈ VS_lw := List.mem_append_right _ (List.mem_append_right _ (List.mem_append_right _ (List.mem_append_left _ (List.mem_of_getElem? (i := 20) rfl))))
theorem mw_lw_141 : Cond.instantiable RX12 11 ∈ VS_lw := List.mem_append_right _ (List.mem_append_right _ (List.mem_append_right _ (List.mem_append_left _ (List.mem_of_getElem? (i := 21) rfl))))
theorem mw_lw_142 : Cond.instantiable RX13 155 ∈ VS_lw := List.mem_append_right _ (List.mem_append_right _ (List.mem_append_right _ (List.mem_append_left _ (List.mem_of_getElem? (i := 22) rfl))))
theorem mw_lw_143 : Cond.classLink RL 7 RX12 ∈ VS_lw := List.mem_append_right _ (List.mem_append_right _ (List.mem_append_right _ (List.mem_append_left _ (List.mem_of_getElem? (i := 23) rfl))))
theorem mw_lw_144 : Cond.methodLink RL 9 yX12_init ∈ VS_lw := List.mem_append_right _ (List.mem_append_right _ (List.mem_append_right _ (List.mem_append_left _ (List.mem_of_getElem? (i := 24) rfl))))
theorem mw_lw_145 : Cond.instanceMethod yX12_init ∈ VS_lw := List.mem_append_right _ (List.mem_append_right _ (List.mem_append_right _ (List.mem_append_left _ (List.mem_of_getElem? (i := 25) rfl))))
theorem mw_lw_146 : Cond.classLink RL 10 RX13 ∈ VS_lw := List.mem_append_right _ (List.mem_append_right _ (List.mem_append_right _ (List.mem_append_left _ (List.mem_of_getElem? (i := 26) rfl))))
theorem mw_lw_147 : Cond.methodLink RL 12 yX13_init ∈ VS_lw := List.mem_append_right _ (List.mem_append_right _ (List.mem_append_right _ (List.mem_append_left _ (List.mem_of_getElem? (i := 27) rfl))))
theorem mw_lw_148 : Cond.instanceMethod yX13_init ∈ VS_lw := List.mem_append_right _ (List.mem_append_right _ (List.mem_append_right _ (List.mem_append_left _ (List.mem_of_getElem? (i := 28) rfl))))
theorem uV_lw_X0 : ∀ w ∈ u_ws RX0 TX0 13, w ∈ VS_lw := fun w h => List.mem_append_right _ (List.mem_append_right _ (List.mem_append_right _ (List.mem_append_right _ (List.mem_append_right _ (List.mem_append_right _ (List.mem_append_right _ (List.mem_append_right _ (List.mem_append_right _ (List.mem_append_left _ (h))))))))))
theorem uV_lw_X1 : ∀ w ∈ u_ws RX1 TX1 16, w ∈ VS_lw := fun w h => List.mem_append_right _ (List.mem_append_right _ (List.mem_append_right _ (List.mem_append_right _ (List.mem_append_right _ (List.mem_append_right _ (List.mem_append_right _ (List.mem_append_right _ (List.mem_append_right _ (List.mem_append_right _ (List.mem_append_left _ (h)))))))))))
theorem uV_lw_X2 : ∀ w ∈ u_ws RX2 TX2 21, w ∈ VS_lw := fun w h => List.mem_append_right _ (List.mem_append_right _ (List.mem_append_right _ (List.mem_append_right _ (List.mem_append_right _ (List.mem_append_right _ (List.mem_append_right _ (List.mem_append_right _ (List.mem_append_right _ (List.mem_append_right _ (List.mem_append_right _ (List.mem_append_left _ (h))))))))))))
theorem uV_lw_X3 : ∀ w ∈ u_ws RX3 TX3 14, w ∈ VS_lw := fun w h => List.mem_append_right _ (List.mem_append_right _ (List.mem_append_right _ (List.mem_append_right _ (List.mem_append_right _ (List.mem_append_right _ (List.mem_append_right _ (List.mem_append_right _ (List.mem_append_right _ (List.mem_append_right _ (List.mem_append_right _ (List.mem_append_right _ (List.mem_append_left _ (h)))))))))))))
theorem uV_lw_X4 : ∀ w ∈ u_ws RX4 TX4 2, w ∈ VS_lw := fun w h => List.mem_append_right _ (List.mem_append_right _ (List.mem_append_right _ (List.mem_append_right _ (List.mem_append_right _ (List.mem_append_right _ (List.mem_append_right _ (List.mem_append_right _ (List.mem_append_right _ (List.mem_append_right _ (List.mem_append_right _ (List.mem_append_right _ (List.mem_append_right _ (List.mem_append_left _ (h))))))))))))))
theorem uV_lw_X5 : ∀ w ∈ u_ws RX5 TX5 21, w ∈ VS_lw := fun w h => List.mem_append_right _ (List.mem_append_right _ (List.mem_append_right _ (List.mem_append_right _ (List.mem_append_right _ (List.mem_append_right _ (List.mem_append_right _ (List.mem_append_right _ (List.mem_append_right _ (List.mem_append_right _ (List.mem_append_right _ (List.mem_append_right _ (List.mem_append_right _ (List.mem_append_right _ (List.mem_append_left _ (h)))))))))))))))
theorem uV_lw_X6 : ∀ w ∈ u_ws RX6 TX6 8, w ∈ VS_lw := fun w h => List.mem_append_right _ (List.mem_append_right _ (List.mem_append_right _ (List.mem_append_right _ (List.mem_append_right _ (List.mem_append_right _ (List.mem_append_right _ (List.mem_append_right _ (List.mem_append_right _ (List.mem_append_right _ (List.mem_append_right _ (List.mem_append_right _ (List.mem_append_right _ (List.mem_append_right _ (List.mem_append_right _ (List.mem_append_left _ (h))))))))))))))))
theorem uV_lw_X7 : ∀ w ∈ u_ws RX7 TX7 8, w ∈ VS_lw := fun w h => List.mem_append_right _ (List.mem_append_right _ (List.mem_append_right _ (List.mem_append_right _ (List.mem_append_right _ (List.mem_append_right _ (List.mem_append_right _ (List.mem_append_right _ (List.mem_append_right _ (List.mem_append_right _ (List.mem_append_right _ (List.mem_append_right _ (List.mem_append_right _ (List.mem_append_right _ (List.mem_append_right _ (List.mem_append_right _ (List.mem_append_left _ (h)))))))))))))))))
theorem uV_lw_X8 : ∀ w ∈ u_ws RX8 TX8 2, w ∈ VS_lw := fun w h => List.mem_append_right _ (List.mem_append_right _ (List.mem_append_right _ (List.mem_append_right _ (List.mem_append_right _ (List.mem_append_right _ (List.mem_append_right _ (List.mem_append_right _ (List.mem_append_right _ (List.mem_append_right _ (List.mem_append_right _ (List.mem_append_right _ (List.mem_append_right _ (List.mem_append_right _ (List.mem_append_right _ (List.mem_append_right _ (List.mem_append_right _ (List.mem_append_left _ (h))))))))))))))))))
theorem uV_lw_X9 : ∀ w ∈ u_ws RX9 TX9 13, w ∈ VS_lw := fun w h => List.mem_append_right _ (List.mem_append_right _ (List.mem_append_right _ (List.mem_append_right _ (List.mem_append_right _ (List.mem_append_right _ (List.mem_append_right _ (List.mem_append_right _ (List.mem_append_right _ (List.mem_append_right _ (List.mem_append_right _ (List.mem_append_right _ (List.mem_append_right _ (List.mem_append_right _ (List.mem_append_right _ (List.mem_append_right _ (List.mem_append_right _ (List.mem_append_right _ (List.mem_append_left _ (h)))))))))))))))))))
theorem uV_lw_X10 : ∀ w ∈ u_ws RX10 TX10 19, w ∈ VS_lw := fun w h => List.mem_append_right _ (List.mem_append_right _ (List.mem_append_right _ (List.mem_append_right _ (List.mem_append_right _ (List.mem_append_right _ (List.mem_append_right _ (List.mem_append_right _ (List.mem_append_right _ (List.mem_append_right _ (List.mem_append_right _ (List.mem_append_right _ (List.mem_append_right _ (List.mem_append_right _ (List.mem_append_right _ (List.mem_append_right _ (List.mem_append_right _ (List.mem_append_right _ (List.mem_append_right _ (List.mem_append_left _ (h))))))))))))))))))))
theorem uV_lw_X11 : ∀ w ∈ u_ws RX11 TX11 21, w ∈ VS_lw := fun w h => List.mem_append_right _ (List.mem_append_right _ (List.mem_append_right _ (List.mem_append_right _ (List.mem_append_right _ (List.mem_append_right _ (List.mem_append_right _ (List.mem_append_right _ (List.mem_append_right _ (List.mem_append_right _ (List.mem_append_right _ (List.mem_append_right _ (List.mem_append_right _ (List.mem_append_right _ (List.mem_append_right _ (List.mem_append_right _ (List.mem_append_right _ (List.mem_append_right _ (List.mem_append_right _ (List.mem_append_right _ (List.mem_append_left _ (h)))))))))))))))))))))
theorem uV_lw_X12 : ∀ w ∈ u_ws RX12 TX12 11, w ∈ VS_lw := fun w h => List.mem_append_right _ (List.mem_append_right _ (List.mem_append_right _ (List.mem_append_right _ (List.mem_append_right _ (List.mem_append_right _ (List.mem_append_right _ (List.mem_append_right _ (List.mem_append_right _ (List.mem_append_right _ (List.mem_append_right _ (List.mem_append_right _ (List.mem_append_right _ (List.mem_append_right _ (List.mem_append_right _ (List.mem_append_right _ (List.mem_append_right _ (List.mem_append_right _ (List.mem_append_right _ (List.mem_append_right _ (List.mem_append_right _ (List.mem_append_left _ (h))))))))))))))))))))))
theorem uV_lw_X13 : ∀ w ∈ u_ws RX13 TX13 155, w ∈ VS_lw := fun w h => List.mem_append_right _ (List.mem_append_right _ (List.mem_append_right _ (List.mem_append_right _ (List.mem_append_right _ (List.mem_append_right _ (List.mem_append_right _ (List.mem_append_right _ (List.mem_append_right _ (List.mem_append_right _ (List.mem_append_right _ (List.mem_append_right _ (List.mem_append_right _ (List.mem_append_right _ (List.mem_append_right _ (List.mem_append_right _ (List.mem_append_right _ (List.mem_append_right _ (List.mem_append_right _ (List.mem_append_right _ (List.mem_append_right _ (List.mem_append_right _ (List.mem_append_left _ (h)))))))))))))))))))))))
set_option maxRecDepth 100000 in
theorem in_lw_VS_k1 : GoodIn VS_lw VS_k1 := goodIn_sub (fun w h => List.mem_append_right _ (List.mem_append_right _ (List.mem_append_right _ (List.mem_append_right _ (List.mem_append_left _ (h)))))) (by decide +kernel)
set_option maxRecDepth 100000 in
theorem in_lw_VS_c2 : GoodIn VS_lw VS_c2 := goodIn_sub (fun w h => List.mem_append_right _ (List.mem_append_right _ (List.mem_append_right _ (List.mem_append_right _ (List.mem_append_right _ (List.mem_append_left _ (h))))))) (by decide +kernel)
set_option maxRecDepth 100000 in
theorem in_lw_VS_c1 : GoodIn VS_lw VS_c1 := goodIn_sub (fun w h => List.mem_append_right _ (List.mem_append_right _ (List.mem_append_right _ (List.mem_append_right _ (List.mem_append_right _ (List.mem_append_right _ (List.mem_append_left _ (h)))))))) (by decide +kernel)
set_option maxRecDepth 100000 in
theorem in_lw_VS_c3 : GoodIn VS_lw VS_c3 := goodIn_sub (fun w h => List.mem_append_right _ (List.mem_append_right _ (List.mem_append_right _ (List.mem_append_right _ (List.mem_append_right _ (List.mem_append_right _ (List.mem_append_right _ (List.mem_append_left _ (h))))))))) (by decide +kernel)
set_option maxRecDepth 100000 in
theorem in_lw_wsX13_clear : GoodIn VS_lw wsX13_clear := goodIn_sub (fun w h => List.mem_append_right _ (List.mem_append_right _ (List.mem_append_right _ (List.mem_append_right _ (List.mem_append_right _ (List.mem_append_right _ (List.mem_append_right _ (List.mem_append_right _ (List.mem_append_left _ (h)))))))))) (by decide +kernel)
set_option maxRecDepth 100000 in
theorem in_lw_wsX12_init : GoodIn VS_lw wsX12_init := goodIn_sub (fun w h => List.mem_append_right _ (List.mem_append_right _ (List.mem_append_right _ (List.mem_append_right _ (List.mem_append_right _ (List.mem_append_right _ (List.mem_append_right _ (List.mem_append_right _ (List.mem_append_right _ (List.mem_append_right _ (List.mem_append_right _ (List.mem_append_right _ (List.mem_append_right _ (List.mem_append_right _ (List.mem_append_right _ (List.mem_append_right _ (List.mem_append_right _ (List.mem_append_right _ (List.mem_append_right _ (List.mem_append_right _ (List.mem_append_right _ (List.mem_append_right _ (List.mem_append_right _ (List.mem_append_left _ (h))))))))))))))))))))))))) (by decide +kernel)
set_option maxRecDepth 100000 in
theorem in_lw_wsX13_init : GoodIn VS_lw wsX13_init := goodIn_sub (fun w h => List.mem_append_right _ (List.mem_append_right _ (List.mem_append_right _ (List.mem_append_right _ (List.mem_append_right _ (List.mem_append_right _ (List.mem_append_right _ (List.mem_append_right _ (List.mem_append_right _ (List.mem_append_right _ (List.mem_append_right _ (List.mem_append_right _ (List.mem_append_right _ (List.mem_append_right _ (List.mem_append_right _ (List.mem_append_right _ (List.mem_append_right _ (List.mem_append_right _ (List.mem_append_right _ (List.mem_append_right _ (List.mem_append_right _ (List.mem_append_right _ (List.mem_append_right _ (List.mem_append_right _ (h))))))))))))))))))))))))) (by decide +kernel)
theorem gv_lw_0 : GoodIn VS_lw (wsV RL 13 RX12 yX12_feed (.code yX12_feed cX12_feed 6 (some .int) :: VS_k1)) := goodIn_app (vs_in4 mw_lw_1 mw_lw_2 mw_lw_3 mw_lw_4 (by decide +kernel)) (vs_cons mw_lw_0 (by decide +kernel) in_lw_VS_k1)
theorem gv_lw_1 : GoodIn VS_lw (wsV RL 17 RX13 yX13_feed (.code yX13_feed cX13_feed 6 (some .int) :: VS_c2)) := goodIn_app (vs_in4 mw_lw_6 mw_lw_7 mw_lw_8 mw_lw_9 (by decide +kernel)) (vs_cons mw_lw_5 (by decide +kernel) in_lw_VS_c2)
theorem gv_lw_2 : GoodIn VS_lw (wsV RL 18 RX12 yX12_end (.code yX12_end cX12_end 2 (some .boolean) :: VS_k1)) := goodIn_app (vs_in4 mw_lw_11 mw_lw_12 mw_lw_13 mw_lw_4 (by decide +kernel)) (vs_cons mw_lw_10 (by decide +kernel) in_lw_VS_k1)
theorem gv_lw_3 : GoodIn VS_lw (wsV RL 22 RX13 yX13_end (.code yX13_end cX13_end 2 (some .boolean) :: VS_c1)) := goodIn_app (vs_in4 mw_lw_15 mw_lw_16 mw_lw_17 mw_lw_9 (by decide +kernel)) (vs_cons mw_lw_14 (by decide +kernel) in_lw_VS_c1)
theorem gv_lw_4 : GoodIn VS_lw (wsV RL 23 RX12 yX12_compile (.code yX12_compile cX12_compile 4 (some .int) :: VS_k1)) := goodIn_app (vs_in4 mw_lw_19 mw_lw_20 mw_lw_21 mw_lw_4 (by decide +kernel)) (vs_cons mw_lw_18 (by decide +kernel) in_lw_VS_k1)
theorem gv_lw_5 : GoodIn VS_lw (wsV RL 27 RX13 yX13_compile (.code yX13_compile cX13_compile 4 (some .int) :: VS_c3)) := goodIn_app (vs_in4 mw_lw_23 mw_lw_24 mw_lw_25 mw_lw_9 (by decide +kernel)) (vs_cons mw_lw_22 (by decide +kernel) in_lw_VS_c3)
theorem gv_lw_6 : GoodIn VS_lw (wsV RL 28 RX12 yX12_fault (.code yX12_fault cX12_fault 2 (some .int) :: VS_k1)) := goodIn_app (vs_in4 mw_lw_27 mw_lw_28 mw_lw_29 mw_lw_4 (by decide +kernel)) (vs_cons mw_lw_26 (by decide +kernel) in_lw_VS_k1)
theorem gv_lw_7 : GoodIn VS_lw (wsV RL 32 RX13 yX13_fault (.code yX13_fault cX13_fault 2 (some .int) :: VS_c1)) := goodIn_app (vs_in4 mw_lw_31 mw_lw_32 mw_lw_33 mw_lw_9 (by decide +kernel)) (vs_cons mw_lw_30 (by decide +kernel) in_lw_VS_c1)
theorem gv_lw_8 : GoodIn VS_lw (wsV RL 33 RX12 yX12_image (.code yX12_image cX12_image 4 (some .int) :: VS_k1)) := goodIn_app (vs_in4 mw_lw_35 mw_lw_36 mw_lw_37 mw_lw_4 (by decide +kernel)) (vs_cons mw_lw_34 (by decide +kernel) in_lw_VS_k1)
theorem gv_lw_9 : GoodIn VS_lw (wsV RL 37 RX13 yX13_image (.code yX13_image cX13_image 3 (some .int) :: VS_c1)) := goodIn_app (vs_in4 mw_lw_39 mw_lw_40 mw_lw_41 mw_lw_9 (by decide +kernel)) (vs_cons mw_lw_38 (by decide +kernel) in_lw_VS_c1)
theorem gv_lw_10 : GoodIn VS_lw (wsV RL 38 RX12 yX12_load (.code yX12_load cX12_load 2 (some .int) :: VS_k1)) := goodIn_app (vs_in4 mw_lw_43 mw_lw_44 mw_lw_45 mw_lw_4 (by decide +kernel)) (vs_cons mw_lw_42 (by decide +kernel) in_lw_VS_k1)
theorem gv_lw_11 : GoodIn VS_lw (wsV RL 41 RX13 yX13_load (.code yX13_load cX13_load 2 (some .int) :: VS_c3)) := goodIn_app (vs_in4 mw_lw_47 mw_lw_48 mw_lw_49 mw_lw_9 (by decide +kernel)) (vs_cons mw_lw_46 (by decide +kernel) in_lw_VS_c3)
theorem gv_lw_12 : GoodIn VS_lw (wsV RL 42 RX12 yX12_keep (.code yX12_keep cX12_keep 4 (some .int) :: VS_k1)) := goodIn_app (vs_in4 mw_lw_51 mw_lw_52 mw_lw_53 mw_lw_4 (by decide +kernel)) (vs_cons mw_lw_50 (by decide +kernel) in_lw_VS_k1)
theorem gv_lw_13 : GoodIn VS_lw (wsV RL 45 RX13 yX13_keep (.code yX13_keep cX13_keep 3 (some .int) :: VS_c1)) := goodIn_app (vs_in4 mw_lw_55 mw_lw_56 mw_lw_57 mw_lw_9 (by decide +kernel)) (vs_cons mw_lw_54 (by decide +kernel) in_lw_VS_c1)
theorem gv_lw_14 : GoodIn VS_lw (wsV RL 46 RX12 yX12_patch (.code yX12_patch cX12_patch 5 (some .boolean) :: VS_k1)) := goodIn_app (vs_in4 mw_lw_59 mw_lw_60 mw_lw_61 mw_lw_4 (by decide +kernel)) (vs_cons mw_lw_58 (by decide +kernel) in_lw_VS_k1)
theorem gv_lw_15 : GoodIn VS_lw (wsV RL 50 RX13 yX13_patch (.code yX13_patch cX13_patch 8 (some .boolean) :: VS_c1)) := goodIn_app (vs_in4 mw_lw_63 mw_lw_64 mw_lw_65 mw_lw_9 (by decide +kernel)) (vs_cons mw_lw_62 (by decide +kernel) in_lw_VS_c1)
theorem gv_lw_16 : GoodIn VS_lw (wsV RL 51 RX12 yX12_clear (.code yX12_clear cX12_clear 1 none :: VS_k1)) := goodIn_app (vs_in4 mw_lw_67 mw_lw_68 mw_lw_69 mw_lw_4 (by decide +kernel)) (vs_cons mw_lw_66 (by decide +kernel) in_lw_VS_k1)
theorem gv_lw_17 : GoodIn VS_lw (wsV RL 54 RX13 yX13_clear wsX13_clear) := goodIn_app (vs_in4 mw_lw_70 mw_lw_71 mw_lw_72 mw_lw_9 (by decide +kernel)) (in_lw_wsX13_clear)
theorem gv_lw_18 : GoodIn VS_lw (wsV RL 55 RX12 yX12_verify (.code yX12_verify cX12_verify 2 (some .int) :: VS_k1)) := goodIn_app (vs_in4 mw_lw_74 mw_lw_75 mw_lw_76 mw_lw_4 (by decide +kernel)) (vs_cons mw_lw_73 (by decide +kernel) in_lw_VS_k1)
theorem gv_lw_19 : GoodIn VS_lw (wsV RL 58 RX13 yX13_verify (.code yX13_verify cX13_verify 4 (some .int) :: VS_c1)) := goodIn_app (vs_in4 mw_lw_78 mw_lw_79 mw_lw_80 mw_lw_9 (by decide +kernel)) (vs_cons mw_lw_77 (by decide +kernel) in_lw_VS_c1)
theorem gv_lw_20 : GoodIn VS_lw (wsV RL 59 RX12 yX12_where (.code yX12_where cX12_where 2 (some .int) :: VS_k1)) := goodIn_app (vs_in4 mw_lw_82 mw_lw_83 mw_lw_84 mw_lw_4 (by decide +kernel)) (vs_cons mw_lw_81 (by decide +kernel) in_lw_VS_k1)
theorem gv_lw_21 : GoodIn VS_lw (wsV RL 62 RX13 yX13_where (.code yX13_where cX13_where 2 (some .int) :: VS_c1)) := goodIn_app (vs_in4 mw_lw_86 mw_lw_87 mw_lw_88 mw_lw_9 (by decide +kernel)) (vs_cons mw_lw_85 (by decide +kernel) in_lw_VS_c1)
theorem gv_lw_22 : GoodIn VS_lw (wsV RL 63 RX12 yX12_start (.code yX12_start cX12_start 4 (some .boolean) :: VS_k1)) := goodIn_app (vs_in4 mw_lw_90 mw_lw_91 mw_lw_92 mw_lw_4 (by decide +kernel)) (vs_cons mw_lw_89 (by decide +kernel) in_lw_VS_k1)
theorem gv_lw_23 : GoodIn VS_lw (wsV RL 67 RX13 yX13_start (.code yX13_start cX13_start 5 (some .boolean) :: VS_c1)) := goodIn_app (vs_in4 mw_lw_94 mw_lw_95 mw_lw_96 mw_lw_9 (by decide +kernel)) (vs_cons mw_lw_93 (by decide +kernel) in_lw_VS_c1)
theorem gv_lw_24 : GoodIn VS_lw (wsV RL 68 RX12 yX12_run (.code yX12_run cX12_run 2 (some .int) :: VS_k1)) := goodIn_app (vs_in4 mw_lw_98 mw_lw_99 mw_lw_100 mw_lw_4 (by decide +kernel)) (vs_cons mw_lw_97 (by decide +kernel) in_lw_VS_k1)
theorem gv_lw_25 : GoodIn VS_lw (wsV RL 71 RX13 yX13_run (.code yX13_run cX13_run 3 (some .int) :: VS_c1)) := goodIn_app (vs_in4 mw_lw_102 mw_lw_103 mw_lw_104 mw_lw_9 (by decide +kernel)) (vs_cons mw_lw_101 (by decide +kernel) in_lw_VS_c1)
theorem gv_lw_26 : GoodIn VS_lw (wsV RL 72 RX12 yX12_look (.code yX12_look cX12_look 2 (some .int) :: VS_k1)) := goodIn_app (vs_in4 mw_lw_106 mw_lw_107 mw_lw_108 mw_lw_4 (by decide +kernel)) (vs_cons mw_lw_105 (by decide +kernel) in_lw_VS_k1)
theorem gv_lw_27 : GoodIn VS_lw (wsV RL 75 RX13 yX13_look (.code yX13_look cX13_look 2 (some .int) :: VS_c1)) := goodIn_app (vs_in4 mw_lw_110 mw_lw_111 mw_lw_112 mw_lw_9 (by decide +kernel)) (vs_cons mw_lw_109 (by decide +kernel) in_lw_VS_c1)
theorem gv_lw_28 : GoodIn VS_lw (wsV RL 76 RX12 yX12_out (.code yX12_out cX12_out 2 (some .int) :: VS_k1)) := goodIn_app (vs_in4 mw_lw_114 mw_lw_115 mw_lw_116 mw_lw_4 (by decide +kernel)) (vs_cons mw_lw_113 (by decide +kernel) in_lw_VS_k1)
theorem gv_lw_29 : GoodIn VS_lw (wsV RL 79 RX13 yX13_out (.code yX13_out cX13_out 2 (some .int) :: VS_c1)) := goodIn_app (vs_in4 mw_lw_118 mw_lw_119 mw_lw_120 mw_lw_9 (by decide +kernel)) (vs_cons mw_lw_117 (by decide +kernel) in_lw_VS_c1)
theorem gv_lw_30 : GoodIn VS_lw (wsV RL 80 RX12 yX12_type (.code yX12_type cX12_type 4 (some .int) :: VS_k1)) := goodIn_app (vs_in4 mw_lw_122 mw_lw_123 mw_lw_124 mw_lw_4 (by decide +kernel)) (vs_cons mw_lw_121 (by decide +kernel) in_lw_VS_k1)
theorem gv_lw_31 : GoodIn VS_lw (wsV RL 83 RX13 yX13_type_ (.code yX13_type_ cX13_type_ 4 (some .int) :: VS_c2)) := goodIn_app (vs_in4 mw_lw_126 mw_lw_127 mw_lw_128 mw_lw_9 (by decide +kernel)) (vs_cons mw_lw_125 (by decide +kernel) in_lw_VS_c2)
theorem gv_lw_32 : GoodIn VS_lw wsX12_init := in_lw_wsX12_init
theorem gv_lw_33 : GoodIn VS_lw wsX13_init := in_lw_wsX13_init
