theorem rs_RX13_978 : mx_res RX13 978 = some (2, 541, 1) := by decide +kernel
theorem rs_RX13_981 : mx_res RX13 981 = some (1, 543, 1) := by decide +kernel
theorem rs_RX13_1004 : mx_res RX13 1004 = some (1, 551, 1) := by decide +kernel
theorem rs_RX13_1007 : mx_res RX13 1007 = some (1, 552, 1) := by decide +kernel
theorem rs_RX13_1010 : mx_res RX13 1010 = some (1, 558, 1) := by decide +kernel
theorem rs_RX13_1013 : mx_res RX13 1013 = some (1, 561, 1) := by decide +kernel
theorem rs_RX13_1016 : mx_res RX13 1016 = some (1, 567, 1) := by decide +kernel
theorem ft_13_136 : mx_fty 13 136 = some (.int, false, "ClassMillModel") := by decide +kernel
theorem mt_X13_flows : mx_mt 557 = some (yX13_flows, cX13_flows, 10, (some .boolean)) := rfl
theorem dX13_flows_0 : decode cX13_flows 0 = .ok (.iconst 0, 1) := by decide +kernel
theorem dX13_flows_1 : decode cX13_flows 1 = .ok (.istore_n 3, 1) := by decide +kernel
theorem dX13_flows_2 : decode cX13_flows 2 = .ok (.iload_n 3, 1) := by decide +kernel
theorem dX13_flows_3 : decode cX13_flows 3 = .ok (.aload_n 0, 1) := by decide +kernel
theorem dX13_flows_4 : decode cX13_flows 4 = .ok (.getfield 964, 3) := by decide +kernel
theorem dX13_flows_7 : decode cX13_flows 7 = .ok (.if_icmp .ge 16, 3) := by decide +kernel
theorem dX13_flows_10 : decode cX13_flows 10 = .ok (.aload_n 0, 1) := by decide +kernel
theorem dX13_flows_11 : decode cX13_flows 11 = .ok (.getfield 270, 3) := by decide +kernel
theorem dX13_flows_14 : decode cX13_flows 14 = .ok (.iload_n 3, 1) := by decide +kernel
theorem dX13_flows_15 : decode cX13_flows 15 = .ok (.iconst 0, 1) := by decide +kernel
theorem dX13_flows_16 : decode cX13_flows 16 = .ok (.iastore, 1) := by decide +kernel
theorem dX13_flows_17 : decode cX13_flows 17 = .ok (.iinc 3 1, 3) := by decide +kernel
theorem dX13_flows_20 : decode cX13_flows 20 = .ok (.goto (-18), 3) := by decide +kernel
theorem dX13_flows_23 : decode cX13_flows 23 = .ok (.aload_n 0, 1) := by decide +kernel
theorem dX13_flows_24 : decode cX13_flows 24 = .ok (.iconst 0, 1) := by decide +kernel
theorem dX13_flows_25 : decode cX13_flows 25 = .ok (.putfield 961, 3) := by decide +kernel
theorem dX13_flows_28 : decode cX13_flows 28 = .ok (.iconst 0, 1) := by decide +kernel
theorem dX13_flows_29 : decode cX13_flows 29 = .ok (.istore_n 3, 1) := by decide +kernel
theorem dX13_flows_30 : decode cX13_flows 30 = .ok (.aload_n 0, 1) := by decide +kernel
theorem dX13_flows_31 : decode cX13_flows 31 = .ok (.aload_n 0, 1) := by decide +kernel
theorem dX13_flows_32 : decode cX13_flows 32 = .ok (.getfield 932, 3) := by decide +kernel
theorem dX13_flows_35 : decode cX13_flows 35 = .ok (.aload_n 0, 1) := by decide +kernel
theorem dX13_flows_36 : decode cX13_flows 36 = .ok (.getfield 236, 3) := by decide +kernel
theorem dX13_flows_39 : decode cX13_flows 39 = .ok (.bipush 12, 2) := by decide +kernel
theorem dX13_flows_41 : decode cX13_flows 41 = .ok (.aload_n 0, 1) := by decide +kernel
theorem dX13_flows_42 : decode cX13_flows 42 = .ok (.getfield 932, 3) := by decide +kernel
theorem dX13_flows_45 : decode cX13_flows 45 = .ok (.imul, 1) := by decide +kernel
theorem dX13_flows_46 : decode cX13_flows 46 = .ok (.iload_n 2, 1) := by decide +kernel
theorem dX13_flows_47 : decode cX13_flows 47 = .ok (.iadd, 1) := by decide +kernel
theorem dX13_flows_48 : decode cX13_flows 48 = .ok (.iaload, 1) := by decide +kernel
theorem dX13_flows_49 : decode cX13_flows 49 = .ok (.invokevirtual 864, 3) := by decide +kernel
theorem dX13_flows_52 : decode cX13_flows 52 = .ok (.ifCond .ne 16, 3) := by decide +kernel
theorem dX13_flows_55 : decode cX13_flows 55 = .ok (.aload_n 0, 1) := by decide +kernel
theorem dX13_flows_56 : decode cX13_flows 56 = .ok (.getfield 270, 3) := by decide +kernel
theorem dX13_flows_59 : decode cX13_flows 59 = .ok (.iconst 0, 1) := by decide +kernel
theorem dX13_flows_60 : decode cX13_flows 60 = .ok (.iconst 4, 1) := by decide +kernel
theorem dX13_flows_61 : decode cX13_flows 61 = .ok (.iconst 2, 1) := by decide +kernel
theorem dX13_flows_62 : decode cX13_flows 62 = .ok (.iload_n 1, 1) := by decide +kernel
theorem dX13_flows_63 : decode cX13_flows 63 = .ok (.imul, 1) := by decide +kernel
theorem dX13_flows_64 : decode cX13_flows 64 = .ok (.iadd, 1) := by decide +kernel
theorem dX13_flows_65 : decode cX13_flows 65 = .ok (.iastore, 1) := by decide +kernel
theorem dX13_flows_66 : decode cX13_flows 66 = .ok (.iconst 1, 1) := by decide +kernel
theorem dX13_flows_67 : decode cX13_flows 67 = .ok (.istore_n 3, 1) := by decide +kernel
theorem dX13_flows_68 : decode cX13_flows 68 = .ok (.sipush 6000, 3) := by decide +kernel
theorem dX13_flows_71 : decode cX13_flows 71 = .ok (.aload_n 0, 1) := by decide +kernel
theorem dX13_flows_72 : decode cX13_flows 72 = .ok (.getfield 932, 3) := by decide +kernel
theorem dX13_flows_75 : decode cX13_flows 75 = .ok (.imul, 1) := by decide +kernel
theorem dX13_flows_76 : decode cX13_flows 76 = .ok (.aload_n 0, 1) := by decide +kernel
theorem dX13_flows_77 : decode cX13_flows 77 = .ok (.getfield 215, 3) := by decide +kernel
theorem dX13_flows_80 : decode cX13_flows 80 = .ok (.sipush 256, 3) := by decide +kernel
theorem dX13_flows_83 : decode cX13_flows 83 = .ok (.aload_n 0, 1) := by decide +kernel
theorem dX13_flows_84 : decode cX13_flows 84 = .ok (.getfield 932, 3) := by decide +kernel
theorem dX13_flows_87 : decode cX13_flows 87 = .ok (.imul, 1) := by decide +kernel
theorem dX13_flows_88 : decode cX13_flows 88 = .ok (.aload_n 0, 1) := by decide +kernel
theorem dX13_flows_89 : decode cX13_flows 89 = .ok (.aload_n 0, 1) := by decide +kernel
theorem dX13_flows_90 : decode cX13_flows 90 = .ok (.getfield 932, 3) := by decide +kernel
theorem dX13_flows_93 : decode cX13_flows 93 = .ok (.iload_n 2, 1) := by decide +kernel
theorem dX13_flows_94 : decode cX13_flows 94 = .ok (.iconst 1, 1) := by decide +kernel
theorem dX13_flows_95 : decode cX13_flows 95 = .ok (.invokevirtual 910, 3) := by decide +kernel
theorem dX13_flows_98 : decode cX13_flows 98 = .ok (.iadd, 1) := by decide +kernel
theorem dX13_flows_99 : decode cX13_flows 99 = .ok (.iaload, 1) := by decide +kernel
theorem dX13_flows_100 : decode cX13_flows 100 = .ok (.iadd, 1) := by decide +kernel
theorem dX13_flows_101 : decode cX13_flows 101 = .ok (.iconst 3, 1) := by decide +kernel
theorem dX13_flows_102 : decode cX13_flows 102 = .ok (.iadd, 1) := by decide +kernel
theorem dX13_flows_103 : decode cX13_flows 103 = .ok (.istore 4, 2) := by decide +kernel
theorem dX13_flows_105 : decode cX13_flows 105 = .ok (.aload_n 0, 1) := by decide +kernel
theorem dX13_flows_106 : decode cX13_flows 106 = .ok (.getfield 209, 3) := by decide +kernel
theorem dX13_flows_109 : decode cX13_flows 109 = .ok (.iload 4, 2) := by decide +kernel
theorem dX13_flows_111 : decode cX13_flows 111 = .ok (.iaload, 1) := by decide +kernel
theorem dX13_flows_112 : decode cX13_flows 112 = .ok (.bipush 41, 2) := by decide +kernel
theorem dX13_flows_114 : decode cX13_flows 114 = .ok (.if_icmp .eq 27, 3) := by decide +kernel
theorem dX13_flows_117 : decode cX13_flows 117 = .ok (.aload_n 0, 1) := by decide +kernel
theorem dX13_flows_118 : decode cX13_flows 118 = .ok (.getfield 270, 3) := by decide +kernel
theorem dX13_flows_121 : decode cX13_flows 121 = .ok (.iload_n 3, 1) := by decide +kernel
theorem dX13_flows_122 : decode cX13_flows 122 = .ok (.aload_n 0, 1) := by decide +kernel
theorem dX13_flows_123 : decode cX13_flows 123 = .ok (.iload 4, 2) := by decide +kernel
theorem dX13_flows_125 : decode cX13_flows 125 = .ok (.invokevirtual 885, 3) := by decide +kernel
theorem dX13_flows_128 : decode cX13_flows 128 = .ok (.iastore, 1) := by decide +kernel
theorem dX13_flows_129 : decode cX13_flows 129 = .ok (.iinc 3 1, 3) := by decide +kernel
theorem dX13_flows_132 : decode cX13_flows 132 = .ok (.aload_n 0, 1) := by decide +kernel
theorem dX13_flows_133 : decode cX13_flows 133 = .ok (.getfield 879, 3) := by decide +kernel
theorem dX13_flows_136 : decode cX13_flows 136 = .ok (.istore 4, 2) := by decide +kernel
theorem dX13_flows_138 : decode cX13_flows 138 = .ok (.goto (-33), 3) := by decide +kernel
theorem dX13_flows_141 : decode cX13_flows 141 = .ok (.aload_n 0, 1) := by decide +kernel
theorem dX13_flows_142 : decode cX13_flows 142 = .ok (.iload 4, 2) := by decide +kernel
theorem dX13_flows_144 : decode cX13_flows 144 = .ok (.iconst 1, 1) := by decide +kernel
theorem dX13_flows_145 : decode cX13_flows 145 = .ok (.iadd, 1) := by decide +kernel
theorem dX13_flows_146 : decode cX13_flows 146 = .ok (.putfield 998, 3) := by decide +kernel
theorem dX13_flows_149 : decode cX13_flows 149 = .ok (.iconst 1, 1) := by decide +kernel
theorem dX13_flows_150 : decode cX13_flows 150 = .ok (.istore 5, 2) := by decide +kernel
theorem dX13_flows_152 : decode cX13_flows 152 = .ok (.iconst 0, 1) := by decide +kernel
theorem dX13_flows_153 : decode cX13_flows 153 = .ok (.istore 6, 2) := by decide +kernel
theorem dX13_flows_155 : decode cX13_flows 155 = .ok (.iload 6, 2) := by decide +kernel
theorem dX13_flows_157 : decode cX13_flows 157 = .ok (.aload_n 0, 1) := by decide +kernel
theorem dX13_flows_158 : decode cX13_flows 158 = .ok (.getfield 970, 3) := by decide +kernel
theorem dX13_flows_161 : decode cX13_flows 161 = .ok (.if_icmp .ge 266, 3) := by decide +kernel
theorem dX13_flows_164 : decode cX13_flows 164 = .ok (.aload_n 0, 1) := by decide +kernel
theorem dX13_flows_165 : decode cX13_flows 165 = .ok (.iload 6, 2) := by decide +kernel
theorem dX13_flows_167 : decode cX13_flows 167 = .ok (.invokevirtual 995, 3) := by decide +kernel
theorem dX13_flows_170 : decode cX13_flows 170 = .ok (.istore 7, 2) := by decide +kernel
theorem dX13_flows_172 : decode cX13_flows 172 = .ok (.iload 5, 2) := by decide +kernel
theorem dX13_flows_174 : decode cX13_flows 174 = .ok (.ifCond .ne 20, 3) := by decide +kernel
theorem dX13_flows_177 : decode cX13_flows 177 = .ok (.iload 7, 2) := by decide +kernel
theorem dX13_flows_179 : decode cX13_flows 179 = .ok (.iconst (-1), 1) := by decide +kernel
theorem dX13_flows_180 : decode cX13_flows 180 = .ok (.if_icmp .ne 14, 3) := by decide +kernel
theorem dX13_flows_183 : decode cX13_flows 183 = .ok (.aload_n 0, 1) := by decide +kernel
theorem dX13_flows_184 : decode cX13_flows 184 = .ok (.bipush 10, 2) := by decide +kernel
theorem dX13_flows_186 : decode cX13_flows 186 = .ok (.iload_n 1, 1) := by decide +kernel
theorem dX13_flows_187 : decode cX13_flows 187 = .ok (.iload_n 2, 1) := by decide +kernel
theorem dX13_flows_188 : decode cX13_flows 188 = .ok (.iload 6, 2) := by decide +kernel
theorem dX13_flows_190 : decode cX13_flows 190 = .ok (.invokevirtual 922, 3) := by decide +kernel
theorem dX13_flows_193 : decode cX13_flows 193 = .ok (.ireturn, 1) := by decide +kernel
theorem dX13_flows_194 : decode cX13_flows 194 = .ok (.iload 7, 2) := by decide +kernel
theorem dX13_flows_196 : decode cX13_flows 196 = .ok (.iconst (-1), 1) := by decide +kernel
theorem dX13_flows_197 : decode cX13_flows 197 = .ok (.if_icmp .eq 43, 3) := by decide +kernel
theorem dX13_flows_200 : decode cX13_flows 200 = .ok (.iload 5, 2) := by decide +kernel
theorem dX13_flows_202 : decode cX13_flows 202 = .ok (.ifCond .eq 32, 3) := by decide +kernel
theorem dX13_flows_205 : decode cX13_flows 205 = .ok (.aload_n 0, 1) := by decide +kernel
theorem dX13_flows_206 : decode cX13_flows 206 = .ok (.iload 7, 2) := by decide +kernel
theorem dX13_flows_208 : decode cX13_flows 208 = .ok (.invokevirtual 1001, 3) := by decide +kernel
theorem dX13_flows_211 : decode cX13_flows 211 = .ok (.ifCond .eq 12, 3) := by decide +kernel
theorem dX13_flows_214 : decode cX13_flows 214 = .ok (.aload_n 0, 1) := by decide +kernel
theorem dX13_flows_215 : decode cX13_flows 215 = .ok (.iload 7, 2) := by decide +kernel
theorem dX13_flows_217 : decode cX13_flows 217 = .ok (.invokevirtual 1004, 3) := by decide +kernel
theorem dX13_flows_220 : decode cX13_flows 220 = .ok (.ifCond .ne 14, 3) := by decide +kernel
theorem dX13_flows_223 : decode cX13_flows 223 = .ok (.aload_n 0, 1) := by decide +kernel
theorem dX13_flows_224 : decode cX13_flows 224 = .ok (.bipush 12, 2) := by decide +kernel
theorem dX13_flows_226 : decode cX13_flows 226 = .ok (.iload_n 1, 1) := by decide +kernel
theorem dX13_flows_227 : decode cX13_flows 227 = .ok (.iload_n 2, 1) := by decide +kernel
theorem dX13_flows_228 : decode cX13_flows 228 = .ok (.iload 6, 2) := by decide +kernel
theorem dX13_flows_230 : decode cX13_flows 230 = .ok (.invokevirtual 922, 3) := by decide +kernel
theorem dX13_flows_233 : decode cX13_flows 233 = .ok (.ireturn, 1) := by decide +kernel
theorem dX13_flows_234 : decode cX13_flows 234 = .ok (.aload_n 0, 1) := by decide +kernel
theorem dX13_flows_235 : decode cX13_flows 235 = .ok (.iload 7, 2) := by decide +kernel
theorem dX13_flows_237 : decode cX13_flows 237 = .ok (.invokevirtual 1007, 3) := by decide +kernel
theorem dX13_flows_240 : decode cX13_flows 240 = .ok (.aload_n 0, 1) := by decide +kernel
theorem dX13_flows_241 : decode cX13_flows 241 = .ok (.iload 6, 2) := by decide +kernel
theorem dX13_flows_243 : decode cX13_flows 243 = .ok (.invokevirtual 1010, 3) := by decide +kernel
theorem dX13_flows_246 : decode cX13_flows 246 = .ok (.ifCond .ne 14, 3) := by decide +kernel
theorem dX13_flows_249 : decode cX13_flows 249 = .ok (.aload_n 0, 1) := by decide +kernel
theorem dX13_flows_250 : decode cX13_flows 250 = .ok (.bipush 12, 2) := by decide +kernel
theorem dX13_flows_252 : decode cX13_flows 252 = .ok (.iload_n 1, 1) := by decide +kernel
theorem dX13_flows_253 : decode cX13_flows 253 = .ok (.iload_n 2, 1) := by decide +kernel
theorem dX13_flows_254 : decode cX13_flows 254 = .ok (.iload 6, 2) := by decide +kernel
theorem dX13_flows_256 : decode cX13_flows 256 = .ok (.invokevirtual 922, 3) := by decide +kernel
theorem dX13_flows_259 : decode cX13_flows 259 = .ok (.ireturn, 1) := by decide +kernel
theorem dX13_flows_260 : decode cX13_flows 260 = .ok (.aload_n 0, 1) := by decide +kernel
theorem dX13_flows_261 : decode cX13_flows 261 = .ok (.iload 6, 2) := by decide +kernel
theorem dX13_flows_263 : decode cX13_flows 263 = .ok (.invokevirtual 1013, 3) := by decide +kernel
theorem dX13_flows_266 : decode cX13_flows 266 = .ok (.ifCond .ne 14, 3) := by decide +kernel
theorem dX13_flows_269 : decode cX13_flows 269 = .ok (.aload_n 0, 1) := by decide +kernel
theorem dX13_flows_270 : decode cX13_flows 270 = .ok (.bipush 11, 2) := by decide +kernel
theorem dX13_flows_272 : decode cX13_flows 272 = .ok (.iload_n 1, 1) := by decide +kernel
theorem dX13_flows_273 : decode cX13_flows 273 = .ok (.iload_n 2, 1) := by decide +kernel
theorem dX13_flows_274 : decode cX13_flows 274 = .ok (.iload 6, 2) := by decide +kernel
theorem dX13_flows_276 : decode cX13_flows 276 = .ok (.invokevirtual 922, 3) := by decide +kernel
theorem dX13_flows_279 : decode cX13_flows 279 = .ok (.ireturn, 1) := by decide +kernel
theorem dX13_flows_280 : decode cX13_flows 280 = .ok (.aload_n 0, 1) := by decide +kernel
theorem dX13_flows_281 : decode cX13_flows 281 = .ok (.iload 6, 2) := by decide +kernel
theorem dX13_flows_283 : decode cX13_flows 283 = .ok (.invokevirtual 1016, 3) := by decide +kernel
theorem dX13_flows_286 : decode cX13_flows 286 = .ok (.ifCond .ne 14, 3) := by decide +kernel
theorem dX13_flows_289 : decode cX13_flows 289 = .ok (.aload_n 0, 1) := by decide +kernel
theorem dX13_flows_290 : decode cX13_flows 290 = .ok (.bipush 12, 2) := by decide +kernel
theorem dX13_flows_292 : decode cX13_flows 292 = .ok (.iload_n 1, 1) := by decide +kernel
theorem dX13_flows_293 : decode cX13_flows 293 = .ok (.iload_n 2, 1) := by decide +kernel
theorem dX13_flows_294 : decode cX13_flows 294 = .ok (.iload 6, 2) := by decide +kernel
theorem dX13_flows_296 : decode cX13_flows 296 = .ok (.invokevirtual 922, 3) := by decide +kernel
theorem dX13_flows_299 : decode cX13_flows 299 = .ok (.ireturn, 1) := by decide +kernel
theorem dX13_flows_300 : decode cX13_flows 300 = .ok (.aload_n 0, 1) := by decide +kernel
theorem dX13_flows_301 : decode cX13_flows 301 = .ok (.iload 6, 2) := by decide +kernel
theorem dX13_flows_303 : decode cX13_flows 303 = .ok (.invokevirtual 938, 3) := by decide +kernel
theorem dX13_flows_306 : decode cX13_flows 306 = .ok (.istore 8, 2) := by decide +kernel
theorem dX13_flows_308 : decode cX13_flows 308 = .ok (.iload 8, 2) := by decide +kernel
theorem dX13_flows_310 : decode cX13_flows 310 = .ok (.invokestatic 978, 3) := by decide +kernel
theorem dX13_flows_313 : decode cX13_flows 313 = .ok (.ifCond .eq 50, 3) := by decide +kernel
theorem dX13_flows_316 : decode cX13_flows 316 = .ok (.aload_n 0, 1) := by decide +kernel
theorem dX13_flows_317 : decode cX13_flows 317 = .ok (.aload_n 0, 1) := by decide +kernel
theorem dX13_flows_318 : decode cX13_flows 318 = .ok (.iload 6, 2) := by decide +kernel
theorem dX13_flows_320 : decode cX13_flows 320 = .ok (.invokevirtual 981, 3) := by decide +kernel
theorem dX13_flows_323 : decode cX13_flows 323 = .ok (.invokevirtual 995, 3) := by decide +kernel
theorem dX13_flows_326 : decode cX13_flows 326 = .ok (.istore 9, 2) := by decide +kernel
theorem dX13_flows_328 : decode cX13_flows 328 = .ok (.iload 9, 2) := by decide +kernel
theorem dX13_flows_330 : decode cX13_flows 330 = .ok (.iconst (-1), 1) := by decide +kernel
theorem dX13_flows_331 : decode cX13_flows 331 = .ok (.if_icmp .eq 21, 3) := by decide +kernel
theorem dX13_flows_334 : decode cX13_flows 334 = .ok (.aload_n 0, 1) := by decide +kernel
theorem dX13_flows_335 : decode cX13_flows 335 = .ok (.iload 9, 2) := by decide +kernel
theorem dX13_flows_337 : decode cX13_flows 337 = .ok (.invokevirtual 1001, 3) := by decide +kernel
theorem dX13_flows_340 : decode cX13_flows 340 = .ok (.ifCond .eq 12, 3) := by decide +kernel
theorem dX13_flows_343 : decode cX13_flows 343 = .ok (.aload_n 0, 1) := by decide +kernel
theorem dX13_flows_344 : decode cX13_flows 344 = .ok (.iload 9, 2) := by decide +kernel
theorem dX13_flows_346 : decode cX13_flows 346 = .ok (.invokevirtual 1004, 3) := by decide +kernel
theorem dX13_flows_349 : decode cX13_flows 349 = .ok (.ifCond .ne 14, 3) := by decide +kernel
theorem dX13_flows_352 : decode cX13_flows 352 = .ok (.aload_n 0, 1) := by decide +kernel
theorem dX13_flows_353 : decode cX13_flows 353 = .ok (.bipush 12, 2) := by decide +kernel
theorem dX13_flows_355 : decode cX13_flows 355 = .ok (.iload_n 1, 1) := by decide +kernel
theorem dX13_flows_356 : decode cX13_flows 356 = .ok (.iload_n 2, 1) := by decide +kernel
theorem dX13_flows_357 : decode cX13_flows 357 = .ok (.iload 6, 2) := by decide +kernel
theorem dX13_flows_359 : decode cX13_flows 359 = .ok (.invokevirtual 922, 3) := by decide +kernel
theorem dX13_flows_362 : decode cX13_flows 362 = .ok (.ireturn, 1) := by decide +kernel
theorem dX13_flows_363 : decode cX13_flows 363 = .ok (.iload 8, 2) := by decide +kernel
theorem dX13_flows_365 : decode cX13_flows 365 = .ok (.sipush 167, 3) := by decide +kernel
theorem dX13_flows_368 : decode cX13_flows 368 = .ok (.if_icmp .eq 39, 3) := by decide +kernel
theorem dX13_flows_371 : decode cX13_flows 371 = .ok (.iload 8, 2) := by decide +kernel
theorem dX13_flows_373 : decode cX13_flows 373 = .ok (.sipush 172, 3) := by decide +kernel
theorem dX13_flows_376 : decode cX13_flows 376 = .ok (.if_icmp .eq 31, 3) := by decide +kernel
theorem dX13_flows_379 : decode cX13_flows 379 = .ok (.iload 8, 2) := by decide +kernel
theorem dX13_flows_381 : decode cX13_flows 381 = .ok (.sipush 176, 3) := by decide +kernel
theorem dX13_flows_384 : decode cX13_flows 384 = .ok (.if_icmp .eq 23, 3) := by decide +kernel
theorem dX13_flows_387 : decode cX13_flows 387 = .ok (.iload 8, 2) := by decide +kernel
theorem dX13_flows_389 : decode cX13_flows 389 = .ok (.sipush 177, 3) := by decide +kernel
theorem dX13_flows_392 : decode cX13_flows 392 = .ok (.if_icmp .eq 15, 3) := by decide +kernel
theorem dX13_flows_395 : decode cX13_flows 395 = .ok (.iload 8, 2) := by decide +kernel
theorem dX13_flows_397 : decode cX13_flows 397 = .ok (.sipush 191, 3) := by decide +kernel
theorem dX13_flows_400 : decode cX13_flows 400 = .ok (.if_icmp .eq 7, 3) := by decide +kernel
theorem dX13_flows_403 : decode cX13_flows 403 = .ok (.iconst 1, 1) := by decide +kernel
theorem dX13_flows_404 : decode cX13_flows 404 = .ok (.goto 4, 3) := by decide +kernel
theorem dX13_flows_407 : decode cX13_flows 407 = .ok (.iconst 0, 1) := by decide +kernel
theorem dX13_flows_408 : decode cX13_flows 408 = .ok (.istore 5, 2) := by decide +kernel
theorem dX13_flows_410 : decode cX13_flows 410 = .ok (.iload 6, 2) := by decide +kernel
theorem dX13_flows_412 : decode cX13_flows 412 = .ok (.aload_n 0, 1) := by decide +kernel
theorem dX13_flows_413 : decode cX13_flows 413 = .ok (.iload 6, 2) := by decide +kernel
theorem dX13_flows_415 : decode cX13_flows 415 = .ok (.invokevirtual 938, 3) := by decide +kernel
theorem dX13_flows_418 : decode cX13_flows 418 = .ok (.invokestatic 975, 3) := by decide +kernel
theorem dX13_flows_421 : decode cX13_flows 421 = .ok (.iadd, 1) := by decide +kernel
theorem dX13_flows_422 : decode cX13_flows 422 = .ok (.istore 6, 2) := by decide +kernel
theorem dX13_flows_424 : decode cX13_flows 424 = .ok (.goto (-269), 3) := by decide +kernel
theorem dX13_flows_427 : decode cX13_flows 427 = .ok (.iload 5, 2) := by decide +kernel
theorem dX13_flows_429 : decode cX13_flows 429 = .ok (.ifCond .eq 18, 3) := by decide +kernel
theorem dX13_flows_432 : decode cX13_flows 432 = .ok (.aload_n 0, 1) := by decide +kernel
theorem dX13_flows_433 : decode cX13_flows 433 = .ok (.bipush 10, 2) := by decide +kernel
theorem dX13_flows_435 : decode cX13_flows 435 = .ok (.iload_n 1, 1) := by decide +kernel
theorem dX13_flows_436 : decode cX13_flows 436 = .ok (.iload_n 2, 1) := by decide +kernel
theorem dX13_flows_437 : decode cX13_flows 437 = .ok (.aload_n 0, 1) := by decide +kernel
theorem dX13_flows_438 : decode cX13_flows 438 = .ok (.getfield 970, 3) := by decide +kernel
theorem dX13_flows_441 : decode cX13_flows 441 = .ok (.invokevirtual 922, 3) := by decide +kernel
theorem dX13_flows_444 : decode cX13_flows 444 = .ok (.goto 4, 3) := by decide +kernel
theorem dX13_flows_447 : decode cX13_flows 447 = .ok (.iconst 1, 1) := by decide +kernel
theorem dX13_flows_448 : decode cX13_flows 448 = .ok (.ireturn, 1) := by decide +kernel
theorem mt_X13_frameAt : mx_mt 545 = some (yX13_frameAt, cX13_frameAt, 4, (some .int)) := rfl
theorem dX13_frameAt_0 : decode cX13_frameAt 0 = .ok (.aload_n 0, 1) := by decide +kernel
theorem dX13_frameAt_1 : decode cX13_frameAt 1 = .ok (.getfield 242, 3) := by decide +kernel
theorem dX13_frameAt_4 : decode cX13_frameAt 4 = .ok (.bipush 12, 2) := by decide +kernel
theorem dX13_frameAt_6 : decode cX13_frameAt 6 = .ok (.aload_n 0, 1) := by decide +kernel
theorem dX13_frameAt_7 : decode cX13_frameAt 7 = .ok (.getfield 932, 3) := by decide +kernel
theorem dX13_frameAt_10 : decode cX13_frameAt 10 = .ok (.imul, 1) := by decide +kernel
theorem dX13_frameAt_11 : decode cX13_frameAt 11 = .ok (.aload_n 0, 1) := by decide +kernel
theorem dX13_frameAt_12 : decode cX13_frameAt 12 = .ok (.getfield 940, 3) := by decide +kernel
theorem dX13_frameAt_15 : decode cX13_frameAt 15 = .ok (.iadd, 1) := by decide +kernel
theorem dX13_frameAt_16 : decode cX13_frameAt 16 = .ok (.iaload, 1) := by decide +kernel
theorem dX13_frameAt_17 : decode cX13_frameAt 17 = .ok (.iconst 1, 1) := by decide +kernel
theorem dX13_frameAt_18 : decode cX13_frameAt 18 = .ok (.iadd, 1) := by decide +kernel
theorem dX13_frameAt_19 : decode cX13_frameAt 19 = .ok (.istore_n 2, 1) := by decide +kernel
theorem dX13_frameAt_20 : decode cX13_frameAt 20 = .ok (.iconst 0, 1) := by decide +kernel
theorem dX13_frameAt_21 : decode cX13_frameAt 21 = .ok (.istore_n 3, 1) := by decide +kernel
theorem dX13_frameAt_22 : decode cX13_frameAt 22 = .ok (.iload_n 3, 1) := by decide +kernel
theorem dX13_frameAt_23 : decode cX13_frameAt 23 = .ok (.iload_n 1, 1) := by decide +kernel
theorem dX13_frameAt_24 : decode cX13_frameAt 24 = .ok (.if_icmp .ge 21, 3) := by decide +kernel
theorem dX13_frameAt_27 : decode cX13_frameAt 27 = .ok (.aload_n 0, 1) := by decide +kernel
theorem dX13_frameAt_28 : decode cX13_frameAt 28 = .ok (.aload_n 0, 1) := by decide +kernel
theorem dX13_frameAt_29 : decode cX13_frameAt 29 = .ok (.iload_n 2, 1) := by decide +kernel
theorem dX13_frameAt_30 : decode cX13_frameAt 30 = .ok (.iconst 2, 1) := by decide +kernel
theorem dX13_frameAt_31 : decode cX13_frameAt 31 = .ok (.iadd, 1) := by decide +kernel
theorem dX13_frameAt_32 : decode cX13_frameAt 32 = .ok (.invokevirtual 943, 3) := by decide +kernel
theorem dX13_frameAt_35 : decode cX13_frameAt 35 = .ok (.invokevirtual 943, 3) := by decide +kernel
theorem dX13_frameAt_38 : decode cX13_frameAt 38 = .ok (.istore_n 2, 1) := by decide +kernel
theorem dX13_frameAt_39 : decode cX13_frameAt 39 = .ok (.iinc 3 1, 3) := by decide +kernel
theorem dX13_frameAt_42 : decode cX13_frameAt 42 = .ok (.goto (-20), 3) := by decide +kernel
theorem dX13_frameAt_45 : decode cX13_frameAt 45 = .ok (.iload_n 2, 1) := by decide +kernel
theorem dX13_frameAt_46 : decode cX13_frameAt 46 = .ok (.ireturn, 1) := by decide +kernel
theorem mt_X13_frameIsThere : mx_mt 556 = some (yX13_frameIsThere, cX13_frameIsThere, 6, (some .boolean)) := rfl
theorem dX13_frameIsThere_0 : decode cX13_frameIsThere 0 = .ok (.iload_n 1, 1) := by decide +kernel
theorem dX13_frameIsThere_1 : decode cX13_frameIsThere 1 = .ok (.iconst 2, 1) := by decide +kernel
theorem dX13_frameIsThere_2 : decode cX13_frameIsThere 2 = .ok (.iadd, 1) := by decide +kernel
theorem dX13_frameIsThere_3 : decode cX13_frameIsThere 3 = .ok (.istore_n 2, 1) := by decide +kernel
theorem dX13_frameIsThere_4 : decode cX13_frameIsThere 4 = .ok (.iconst 0, 1) := by decide +kernel
theorem dX13_frameIsThere_5 : decode cX13_frameIsThere 5 = .ok (.istore_n 3, 1) := by decide +kernel
theorem dX13_frameIsThere_6 : decode cX13_frameIsThere 6 = .ok (.iload_n 3, 1) := by decide +kernel
theorem dX13_frameIsThere_7 : decode cX13_frameIsThere 7 = .ok (.iconst 2, 1) := by decide +kernel
theorem dX13_frameIsThere_8 : decode cX13_frameIsThere 8 = .ok (.if_icmp .ge 95, 3) := by decide +kernel
theorem dX13_frameIsThere_11 : decode cX13_frameIsThere 11 = .ok (.aload_n 0, 1) := by decide +kernel
theorem dX13_frameIsThere_12 : decode cX13_frameIsThere 12 = .ok (.aload_n 0, 1) := by decide +kernel
theorem dX13_frameIsThere_13 : decode cX13_frameIsThere 13 = .ok (.getfield 932, 3) := by decide +kernel
theorem dX13_frameIsThere_16 : decode cX13_frameIsThere 16 = .ok (.iload_n 2, 1) := by decide +kernel
theorem dX13_frameIsThere_17 : decode cX13_frameIsThere 17 = .ok (.invokevirtual 864, 3) := by decide +kernel
theorem dX13_frameIsThere_20 : decode cX13_frameIsThere 20 = .ok (.istore 4, 2) := by decide +kernel
theorem dX13_frameIsThere_22 : decode cX13_frameIsThere 22 = .ok (.iload 4, 2) := by decide +kernel
theorem dX13_frameIsThere_24 : decode cX13_frameIsThere 24 = .ok (.iload_n 3, 1) := by decide +kernel
theorem dX13_frameIsThere_25 : decode cX13_frameIsThere 25 = .ok (.ifCond .ne 10, 3) := by decide +kernel
theorem dX13_frameIsThere_28 : decode cX13_frameIsThere 28 = .ok (.aload_n 0, 1) := by decide +kernel
theorem dX13_frameIsThere_29 : decode cX13_frameIsThere 29 = .ok (.getfield 964, 3) := by decide +kernel
theorem dX13_frameIsThere_32 : decode cX13_frameIsThere 32 = .ok (.goto 7, 3) := by decide +kernel
theorem dX13_frameIsThere_35 : decode cX13_frameIsThere 35 = .ok (.aload_n 0, 1) := by decide +kernel
theorem dX13_frameIsThere_36 : decode cX13_frameIsThere 36 = .ok (.getfield 967, 3) := by decide +kernel
theorem dX13_frameIsThere_39 : decode cX13_frameIsThere 39 = .ok (.if_icmp .le 5, 3) := by decide +kernel
theorem dX13_frameIsThere_42 : decode cX13_frameIsThere 42 = .ok (.iconst 0, 1) := by decide +kernel
theorem dX13_frameIsThere_43 : decode cX13_frameIsThere 43 = .ok (.ireturn, 1) := by decide +kernel
theorem dX13_frameIsThere_44 : decode cX13_frameIsThere 44 = .ok (.iinc 2 1, 3) := by decide +kernel
theorem dX13_frameIsThere_47 : decode cX13_frameIsThere 47 = .ok (.iconst 0, 1) := by decide +kernel
theorem dX13_frameIsThere_48 : decode cX13_frameIsThere 48 = .ok (.istore 5, 2) := by decide +kernel
theorem dX13_frameIsThere_50 : decode cX13_frameIsThere 50 = .ok (.iload 5, 2) := by decide +kernel
theorem dX13_frameIsThere_52 : decode cX13_frameIsThere 52 = .ok (.iload 4, 2) := by decide +kernel
theorem dX13_frameIsThere_54 : decode cX13_frameIsThere 54 = .ok (.if_icmp .ge 43, 3) := by decide +kernel
theorem dX13_frameIsThere_57 : decode cX13_frameIsThere 57 = .ok (.aload_n 0, 1) := by decide +kernel
theorem dX13_frameIsThere_58 : decode cX13_frameIsThere 58 = .ok (.iload_n 2, 1) := by decide +kernel
theorem dX13_frameIsThere_59 : decode cX13_frameIsThere 59 = .ok (.invokevirtual 955, 3) := by decide +kernel
theorem dX13_frameIsThere_62 : decode cX13_frameIsThere 62 = .ok (.invokestatic 916, 3) := by decide +kernel
theorem dX13_frameIsThere_65 : decode cX13_frameIsThere 65 = .ok (.ifCond .ne 5, 3) := by decide +kernel
theorem dX13_frameIsThere_68 : decode cX13_frameIsThere 68 = .ok (.iconst 0, 1) := by decide +kernel
theorem dX13_frameIsThere_69 : decode cX13_frameIsThere 69 = .ok (.ireturn, 1) := by decide +kernel
theorem dX13_frameIsThere_70 : decode cX13_frameIsThere 70 = .ok (.iload_n 2, 1) := by decide +kernel
theorem dX13_frameIsThere_71 : decode cX13_frameIsThere 71 = .ok (.aload_n 0, 1) := by decide +kernel
theorem dX13_frameIsThere_72 : decode cX13_frameIsThere 72 = .ok (.aload_n 0, 1) := by decide +kernel
theorem dX13_frameIsThere_73 : decode cX13_frameIsThere 73 = .ok (.getfield 932, 3) := by decide +kernel
theorem dX13_frameIsThere_76 : decode cX13_frameIsThere 76 = .ok (.iload_n 2, 1) := by decide +kernel
theorem dX13_frameIsThere_77 : decode cX13_frameIsThere 77 = .ok (.invokevirtual 864, 3) := by decide +kernel
theorem dX13_frameIsThere_80 : decode cX13_frameIsThere 80 = .ok (.iconst 3, 1) := by decide +kernel
theorem dX13_frameIsThere_81 : decode cX13_frameIsThere 81 = .ok (.if_icmp .ne 7, 3) := by decide +kernel
theorem dX13_frameIsThere_84 : decode cX13_frameIsThere 84 = .ok (.iconst 2, 1) := by decide +kernel
theorem dX13_frameIsThere_85 : decode cX13_frameIsThere 85 = .ok (.goto 4, 3) := by decide +kernel
theorem dX13_frameIsThere_88 : decode cX13_frameIsThere 88 = .ok (.iconst 1, 1) := by decide +kernel
theorem dX13_frameIsThere_89 : decode cX13_frameIsThere 89 = .ok (.iadd, 1) := by decide +kernel
theorem dX13_frameIsThere_90 : decode cX13_frameIsThere 90 = .ok (.istore_n 2, 1) := by decide +kernel
theorem dX13_frameIsThere_91 : decode cX13_frameIsThere 91 = .ok (.iinc 5 1, 3) := by decide +kernel
theorem dX13_frameIsThere_94 : decode cX13_frameIsThere 94 = .ok (.goto (-44), 3) := by decide +kernel
theorem dX13_frameIsThere_97 : decode cX13_frameIsThere 97 = .ok (.iinc 3 1, 3) := by decide +kernel
theorem dX13_frameIsThere_100 : decode cX13_frameIsThere 100 = .ok (.goto (-94), 3) := by decide +kernel
theorem dX13_frameIsThere_103 : decode cX13_frameIsThere 103 = .ok (.iconst 1, 1) := by decide +kernel
theorem dX13_frameIsThere_104 : decode cX13_frameIsThere 104 = .ok (.ireturn, 1) := by decide +kernel
theorem mt_X13_handlerFits : mx_mt 555 = some (yX13_handlerFits, cX13_handlerFits, 7, (some .boolean)) := rfl
theorem dX13_handlerFits_0 : decode cX13_handlerFits 0 = .ok (.aload_n 0, 1) := by decide +kernel
theorem dX13_handlerFits_1 : decode cX13_handlerFits 1 = .ok (.iload_n 1, 1) := by decide +kernel
theorem dX13_handlerFits_2 : decode cX13_handlerFits 2 = .ok (.invokevirtual 949, 3) := by decide +kernel
theorem dX13_handlerFits_5 : decode cX13_handlerFits 5 = .ok (.istore_n 2, 1) := by decide +kernel
theorem dX13_handlerFits_6 : decode cX13_handlerFits 6 = .ok (.aload_n 0, 1) := by decide +kernel
theorem dX13_handlerFits_7 : decode cX13_handlerFits 7 = .ok (.iload_n 1, 1) := by decide +kernel
theorem dX13_handlerFits_8 : decode cX13_handlerFits 8 = .ok (.iconst 2, 1) := by decide +kernel
theorem dX13_handlerFits_9 : decode cX13_handlerFits 9 = .ok (.iadd, 1) := by decide +kernel
theorem dX13_handlerFits_10 : decode cX13_handlerFits 10 = .ok (.invokevirtual 949, 3) := by decide +kernel
theorem dX13_handlerFits_13 : decode cX13_handlerFits 13 = .ok (.istore_n 3, 1) := by decide +kernel
theorem dX13_handlerFits_14 : decode cX13_handlerFits 14 = .ok (.aload_n 0, 1) := by decide +kernel
theorem dX13_handlerFits_15 : decode cX13_handlerFits 15 = .ok (.iload_n 1, 1) := by decide +kernel
theorem dX13_handlerFits_16 : decode cX13_handlerFits 16 = .ok (.iconst 4, 1) := by decide +kernel
theorem dX13_handlerFits_17 : decode cX13_handlerFits 17 = .ok (.iadd, 1) := by decide +kernel
theorem dX13_handlerFits_18 : decode cX13_handlerFits 18 = .ok (.invokevirtual 949, 3) := by decide +kernel
theorem dX13_handlerFits_21 : decode cX13_handlerFits 21 = .ok (.istore 4, 2) := by decide +kernel
theorem dX13_handlerFits_23 : decode cX13_handlerFits 23 = .ok (.iload_n 2, 1) := by decide +kernel
theorem dX13_handlerFits_24 : decode cX13_handlerFits 24 = .ok (.aload_n 0, 1) := by decide +kernel
theorem dX13_handlerFits_25 : decode cX13_handlerFits 25 = .ok (.getfield 970, 3) := by decide +kernel
theorem dX13_handlerFits_28 : decode cX13_handlerFits 28 = .ok (.if_icmp .ge 65, 3) := by decide +kernel
theorem dX13_handlerFits_31 : decode cX13_handlerFits 31 = .ok (.aload_n 0, 1) := by decide +kernel
theorem dX13_handlerFits_32 : decode cX13_handlerFits 32 = .ok (.getfield 267, 3) := by decide +kernel
theorem dX13_handlerFits_35 : decode cX13_handlerFits 35 = .ok (.iload_n 2, 1) := by decide +kernel
theorem dX13_handlerFits_36 : decode cX13_handlerFits 36 = .ok (.baload, 1) := by decide +kernel
theorem dX13_handlerFits_37 : decode cX13_handlerFits 37 = .ok (.ifCond .eq 56, 3) := by decide +kernel
theorem dX13_handlerFits_40 : decode cX13_handlerFits 40 = .ok (.iload 4, 2) := by decide +kernel
theorem dX13_handlerFits_42 : decode cX13_handlerFits 42 = .ok (.aload_n 0, 1) := by decide +kernel
theorem dX13_handlerFits_43 : decode cX13_handlerFits 43 = .ok (.getfield 970, 3) := by decide +kernel
theorem dX13_handlerFits_46 : decode cX13_handlerFits 46 = .ok (.if_icmp .ge 47, 3) := by decide +kernel
theorem dX13_handlerFits_49 : decode cX13_handlerFits 49 = .ok (.aload_n 0, 1) := by decide +kernel
theorem dX13_handlerFits_50 : decode cX13_handlerFits 50 = .ok (.getfield 267, 3) := by decide +kernel
theorem dX13_handlerFits_53 : decode cX13_handlerFits 53 = .ok (.iload 4, 2) := by decide +kernel
theorem dX13_handlerFits_55 : decode cX13_handlerFits 55 = .ok (.baload, 1) := by decide +kernel
theorem dX13_handlerFits_56 : decode cX13_handlerFits 56 = .ok (.ifCond .eq 37, 3) := by decide +kernel
theorem dX13_handlerFits_59 : decode cX13_handlerFits 59 = .ok (.iload_n 3, 1) := by decide +kernel
theorem dX13_handlerFits_60 : decode cX13_handlerFits 60 = .ok (.aload_n 0, 1) := by decide +kernel
theorem dX13_handlerFits_61 : decode cX13_handlerFits 61 = .ok (.getfield 970, 3) := by decide +kernel
theorem dX13_handlerFits_64 : decode cX13_handlerFits 64 = .ok (.if_icmp .eq 20, 3) := by decide +kernel
theorem dX13_handlerFits_67 : decode cX13_handlerFits 67 = .ok (.iload_n 3, 1) := by decide +kernel
theorem dX13_handlerFits_68 : decode cX13_handlerFits 68 = .ok (.aload_n 0, 1) := by decide +kernel
theorem dX13_handlerFits_69 : decode cX13_handlerFits 69 = .ok (.getfield 970, 3) := by decide +kernel
theorem dX13_handlerFits_72 : decode cX13_handlerFits 72 = .ok (.if_icmp .ge 21, 3) := by decide +kernel
theorem dX13_handlerFits_75 : decode cX13_handlerFits 75 = .ok (.aload_n 0, 1) := by decide +kernel
theorem dX13_handlerFits_76 : decode cX13_handlerFits 76 = .ok (.getfield 267, 3) := by decide +kernel
theorem dX13_handlerFits_79 : decode cX13_handlerFits 79 = .ok (.iload_n 3, 1) := by decide +kernel
theorem dX13_handlerFits_80 : decode cX13_handlerFits 80 = .ok (.baload, 1) := by decide +kernel
theorem dX13_handlerFits_81 : decode cX13_handlerFits 81 = .ok (.ifCond .eq 12, 3) := by decide +kernel
theorem dX13_handlerFits_84 : decode cX13_handlerFits 84 = .ok (.iload_n 2, 1) := by decide +kernel
theorem dX13_handlerFits_85 : decode cX13_handlerFits 85 = .ok (.iload_n 3, 1) := by decide +kernel
theorem dX13_handlerFits_86 : decode cX13_handlerFits 86 = .ok (.if_icmp .ge 7, 3) := by decide +kernel
theorem dX13_handlerFits_89 : decode cX13_handlerFits 89 = .ok (.iconst 1, 1) := by decide +kernel
theorem dX13_handlerFits_90 : decode cX13_handlerFits 90 = .ok (.goto 4, 3) := by decide +kernel
theorem dX13_handlerFits_93 : decode cX13_handlerFits 93 = .ok (.iconst 0, 1) := by decide +kernel
theorem dX13_handlerFits_94 : decode cX13_handlerFits 94 = .ok (.istore 5, 2) := by decide +kernel
theorem dX13_handlerFits_96 : decode cX13_handlerFits 96 = .ok (.aload_n 0, 1) := by decide +kernel
theorem dX13_handlerFits_97 : decode cX13_handlerFits 97 = .ok (.aload_n 0, 1) := by decide +kernel
theorem dX13_handlerFits_98 : decode cX13_handlerFits 98 = .ok (.getfield 932, 3) := by decide +kernel
theorem dX13_handlerFits_101 : decode cX13_handlerFits 101 = .ok (.aload_n 0, 1) := by decide +kernel
theorem dX13_handlerFits_102 : decode cX13_handlerFits 102 = .ok (.aload_n 0, 1) := by decide +kernel
theorem dX13_handlerFits_103 : decode cX13_handlerFits 103 = .ok (.getfield 932, 3) := by decide +kernel
theorem dX13_handlerFits_106 : decode cX13_handlerFits 106 = .ok (.iload_n 1, 1) := by decide +kernel
theorem dX13_handlerFits_107 : decode cX13_handlerFits 107 = .ok (.bipush 6, 2) := by decide +kernel
theorem dX13_handlerFits_109 : decode cX13_handlerFits 109 = .ok (.iadd, 1) := by decide +kernel
theorem dX13_handlerFits_110 : decode cX13_handlerFits 110 = .ok (.invokevirtual 864, 3) := by decide +kernel
theorem dX13_handlerFits_113 : decode cX13_handlerFits 113 = .ok (.invokevirtual 952, 3) := by decide +kernel
theorem dX13_handlerFits_116 : decode cX13_handlerFits 116 = .ok (.istore 6, 2) := by decide +kernel
theorem dX13_handlerFits_118 : decode cX13_handlerFits 118 = .ok (.iload 5, 2) := by decide +kernel
theorem dX13_handlerFits_120 : decode cX13_handlerFits 120 = .ok (.ifCond .eq 36, 3) := by decide +kernel
theorem dX13_handlerFits_123 : decode cX13_handlerFits 123 = .ok (.aload_n 0, 1) := by decide +kernel
theorem dX13_handlerFits_124 : decode cX13_handlerFits 124 = .ok (.iload 4, 2) := by decide +kernel
theorem dX13_handlerFits_126 : decode cX13_handlerFits 126 = .ok (.invokevirtual 995, 3) := by decide +kernel
theorem dX13_handlerFits_129 : decode cX13_handlerFits 129 = .ok (.iconst (-1), 1) := by decide +kernel
theorem dX13_handlerFits_130 : decode cX13_handlerFits 130 = .ok (.if_icmp .eq 26, 3) := by decide +kernel
theorem dX13_handlerFits_133 : decode cX13_handlerFits 133 = .ok (.iload 6, 2) := by decide +kernel
theorem dX13_handlerFits_135 : decode cX13_handlerFits 135 = .ok (.invokestatic 916, 3) := by decide +kernel
theorem dX13_handlerFits_138 : decode cX13_handlerFits 138 = .ok (.ifCond .eq 18, 3) := by decide +kernel
theorem dX13_handlerFits_141 : decode cX13_handlerFits 141 = .ok (.aload_n 0, 1) := by decide +kernel
theorem dX13_handlerFits_142 : decode cX13_handlerFits 142 = .ok (.iload 6, 2) := by decide +kernel
theorem dX13_handlerFits_144 : decode cX13_handlerFits 144 = .ok (.bipush 6, 2) := by decide +kernel
theorem dX13_handlerFits_146 : decode cX13_handlerFits 146 = .ok (.invokevirtual 958, 3) := by decide +kernel
theorem dX13_handlerFits_149 : decode cX13_handlerFits 149 = .ok (.ifCond .eq 7, 3) := by decide +kernel
theorem dX13_handlerFits_152 : decode cX13_handlerFits 152 = .ok (.iconst 1, 1) := by decide +kernel
theorem dX13_handlerFits_153 : decode cX13_handlerFits 153 = .ok (.goto 4, 3) := by decide +kernel
theorem dX13_handlerFits_156 : decode cX13_handlerFits 156 = .ok (.iconst 0, 1) := by decide +kernel
theorem dX13_handlerFits_157 : decode cX13_handlerFits 157 = .ok (.ireturn, 1) := by decide +kernel
