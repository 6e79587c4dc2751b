theorem rs_RX13_418 : mx_res RX13 418 = some (1, 397, 1) := by decide +kernel
theorem rs_RX13_424 : mx_res RX13 424 = some (1, 400, 0) := by decide +kernel
theorem rs_RX13_427 : mx_res RX13 427 = some (1, 403, 1) := by decide +kernel
theorem rs_RX13_434 : mx_res RX13 434 = some (1, 405, 1) := by decide +kernel
theorem rs_RX13_440 : mx_res RX13 440 = some (1, 404, 0) := by decide +kernel
theorem rs_RX13_447 : mx_res RX13 447 = some (1, 406, 1) := by decide +kernel
theorem mt_X13_block : mx_mt 403 = some (yX13_block, cX13_block, 5, (some .int)) := rfl
theorem dX13_block_0 : decode cX13_block 0 = .ok (.aload_n 0, 1) := by decide +kernel
theorem dX13_block_1 : decode cX13_block 1 = .ok (.iconst 1, 1) := by decide +kernel
theorem dX13_block_2 : decode cX13_block 2 = .ok (.aload_n 0, 1) := by decide +kernel
theorem dX13_block_3 : decode cX13_block 3 = .ok (.getfield 376, 3) := by decide +kernel
theorem dX13_block_6 : decode cX13_block 6 = .ok (.aload_n 0, 1) := by decide +kernel
theorem dX13_block_7 : decode cX13_block 7 = .ok (.getfield 376, 3) := by decide +kernel
theorem dX13_block_10 : decode cX13_block 10 = .ok (.invokevirtual 430, 3) := by decide +kernel
theorem dX13_block_13 : decode cX13_block 13 = .ok (.istore_n 2, 1) := by decide +kernel
theorem dX13_block_14 : decode cX13_block 14 = .ok (.aload_n 0, 1) := by decide +kernel
theorem dX13_block_15 : decode cX13_block 15 = .ok (.bipush 123, 2) := by decide +kernel
theorem dX13_block_17 : decode cX13_block 17 = .ok (.invokevirtual 406, 3) := by decide +kernel
theorem dX13_block_20 : decode cX13_block 20 = .ok (.iconst (-1), 1) := by decide +kernel
theorem dX13_block_21 : decode cX13_block 21 = .ok (.istore_n 3, 1) := by decide +kernel
theorem dX13_block_22 : decode cX13_block 22 = .ok (.aload_n 0, 1) := by decide +kernel
theorem dX13_block_23 : decode cX13_block 23 = .ok (.getfield 319, 3) := by decide +kernel
theorem dX13_block_26 : decode cX13_block 26 = .ok (.ifCond .ne 53, 3) := by decide +kernel
theorem dX13_block_29 : decode cX13_block 29 = .ok (.aload_n 0, 1) := by decide +kernel
theorem dX13_block_30 : decode cX13_block 30 = .ok (.aload_n 0, 1) := by decide +kernel
theorem dX13_block_31 : decode cX13_block 31 = .ok (.getfield 376, 3) := by decide +kernel
theorem dX13_block_34 : decode cX13_block 34 = .ok (.bipush 125, 2) := by decide +kernel
theorem dX13_block_36 : decode cX13_block 36 = .ok (.invokevirtual 383, 3) := by decide +kernel
theorem dX13_block_39 : decode cX13_block 39 = .ok (.ifCond .ne 40, 3) := by decide +kernel
theorem dX13_block_42 : decode cX13_block 42 = .ok (.aload_n 0, 1) := by decide +kernel
theorem dX13_block_43 : decode cX13_block 43 = .ok (.iload_n 1, 1) := by decide +kernel
theorem dX13_block_44 : decode cX13_block 44 = .ok (.invokevirtual 434, 3) := by decide +kernel
theorem dX13_block_47 : decode cX13_block 47 = .ok (.istore 4, 2) := by decide +kernel
theorem dX13_block_49 : decode cX13_block 49 = .ok (.iload_n 3, 1) := by decide +kernel
theorem dX13_block_50 : decode cX13_block 50 = .ok (.iconst (-1), 1) := by decide +kernel
theorem dX13_block_51 : decode cX13_block 51 = .ok (.if_icmp .ne 14, 3) := by decide +kernel
theorem dX13_block_54 : decode cX13_block 54 = .ok (.aload_n 0, 1) := by decide +kernel
theorem dX13_block_55 : decode cX13_block 55 = .ok (.getfield 37, 3) := by decide +kernel
theorem dX13_block_58 : decode cX13_block 58 = .ok (.iload_n 2, 1) := by decide +kernel
theorem dX13_block_59 : decode cX13_block 59 = .ok (.iload 4, 2) := by decide +kernel
theorem dX13_block_61 : decode cX13_block 61 = .ok (.iastore, 1) := by decide +kernel
theorem dX13_block_62 : decode cX13_block 62 = .ok (.goto 11, 3) := by decide +kernel
theorem dX13_block_65 : decode cX13_block 65 = .ok (.aload_n 0, 1) := by decide +kernel
theorem dX13_block_66 : decode cX13_block 66 = .ok (.getfield 46, 3) := by decide +kernel
theorem dX13_block_69 : decode cX13_block 69 = .ok (.iload_n 3, 1) := by decide +kernel
theorem dX13_block_70 : decode cX13_block 70 = .ok (.iload 4, 2) := by decide +kernel
theorem dX13_block_72 : decode cX13_block 72 = .ok (.iastore, 1) := by decide +kernel
theorem dX13_block_73 : decode cX13_block 73 = .ok (.iload 4, 2) := by decide +kernel
theorem dX13_block_75 : decode cX13_block 75 = .ok (.istore_n 3, 1) := by decide +kernel
theorem dX13_block_76 : decode cX13_block 76 = .ok (.goto (-54), 3) := by decide +kernel
theorem dX13_block_79 : decode cX13_block 79 = .ok (.aload_n 0, 1) := by decide +kernel
theorem dX13_block_80 : decode cX13_block 80 = .ok (.bipush 125, 2) := by decide +kernel
theorem dX13_block_82 : decode cX13_block 82 = .ok (.invokevirtual 406, 3) := by decide +kernel
theorem dX13_block_85 : decode cX13_block 85 = .ok (.iload_n 2, 1) := by decide +kernel
theorem dX13_block_86 : decode cX13_block 86 = .ok (.ireturn, 1) := by decide +kernel
theorem dX13_statement_0 : decode cX13_statement 0 = .ok (.aload_n 0, 1) := by decide +kernel
theorem dX13_statement_1 : decode cX13_statement 1 = .ok (.iload_n 1, 1) := by decide +kernel
theorem dX13_statement_2 : decode cX13_statement 2 = .ok (.invokevirtual 437, 3) := by decide +kernel
theorem dX13_statement_5 : decode cX13_statement 5 = .ok (.ifCond .eq 5, 3) := by decide +kernel
theorem dX13_statement_8 : decode cX13_statement 8 = .ok (.iconst (-1), 1) := by decide +kernel
theorem dX13_statement_9 : decode cX13_statement 9 = .ok (.ireturn, 1) := by decide +kernel
theorem dX13_statement_10 : decode cX13_statement 10 = .ok (.aload_n 0, 1) := by decide +kernel
theorem dX13_statement_11 : decode cX13_statement 11 = .ok (.getfield 376, 3) := by decide +kernel
theorem dX13_statement_14 : decode cX13_statement 14 = .ok (.istore_n 2, 1) := by decide +kernel
theorem dX13_statement_15 : decode cX13_statement 15 = .ok (.aload_n 0, 1) := by decide +kernel
theorem dX13_statement_16 : decode cX13_statement 16 = .ok (.aload_n 0, 1) := by decide +kernel
theorem dX13_statement_17 : decode cX13_statement 17 = .ok (.getfield 376, 3) := by decide +kernel
theorem dX13_statement_20 : decode cX13_statement 20 = .ok (.bipush 123, 2) := by decide +kernel
theorem dX13_statement_22 : decode cX13_statement 22 = .ok (.invokevirtual 383, 3) := by decide +kernel
theorem dX13_statement_25 : decode cX13_statement 25 = .ok (.ifCond .eq 11, 3) := by decide +kernel
theorem dX13_statement_28 : decode cX13_statement 28 = .ok (.aload_n 0, 1) := by decide +kernel
theorem dX13_statement_29 : decode cX13_statement 29 = .ok (.iload_n 1, 1) := by decide +kernel
theorem dX13_statement_30 : decode cX13_statement 30 = .ok (.iconst 1, 1) := by decide +kernel
theorem dX13_statement_31 : decode cX13_statement 31 = .ok (.iadd, 1) := by decide +kernel
theorem dX13_statement_32 : decode cX13_statement 32 = .ok (.invokevirtual 427, 3) := by decide +kernel
theorem dX13_statement_35 : decode cX13_statement 35 = .ok (.ireturn, 1) := by decide +kernel
theorem dX13_statement_36 : decode cX13_statement 36 = .ok (.aload_n 0, 1) := by decide +kernel
theorem dX13_statement_37 : decode cX13_statement 37 = .ok (.invokevirtual 440, 3) := by decide +kernel
theorem dX13_statement_40 : decode cX13_statement 40 = .ok (.ifCond .eq 97, 3) := by decide +kernel
theorem dX13_statement_43 : decode cX13_statement 43 = .ok (.aload_n 0, 1) := by decide +kernel
theorem dX13_statement_44 : decode cX13_statement 44 = .ok (.invokevirtual 424, 3) := by decide +kernel
theorem dX13_statement_47 : decode cX13_statement 47 = .ok (.aload_n 0, 1) := by decide +kernel
theorem dX13_statement_48 : decode cX13_statement 48 = .ok (.iconst 2, 1) := by decide +kernel
theorem dX13_statement_49 : decode cX13_statement 49 = .ok (.iconst 0, 1) := by decide +kernel
theorem dX13_statement_50 : decode cX13_statement 50 = .ok (.iload_n 2, 1) := by decide +kernel
theorem dX13_statement_51 : decode cX13_statement 51 = .ok (.invokevirtual 430, 3) := by decide +kernel
theorem dX13_statement_54 : decode cX13_statement 54 = .ok (.istore_n 3, 1) := by decide +kernel
theorem dX13_statement_55 : decode cX13_statement 55 = .ok (.aload_n 0, 1) := by decide +kernel
theorem dX13_statement_56 : decode cX13_statement 56 = .ok (.getfield 43, 3) := by decide +kernel
theorem dX13_statement_59 : decode cX13_statement 59 = .ok (.iload_n 3, 1) := by decide +kernel
theorem dX13_statement_60 : decode cX13_statement 60 = .ok (.iconst 4, 1) := by decide +kernel
theorem dX13_statement_61 : decode cX13_statement 61 = .ok (.aload_n 0, 1) := by decide +kernel
theorem dX13_statement_62 : decode cX13_statement 62 = .ok (.getfield 393, 3) := by decide +kernel
theorem dX13_statement_65 : decode cX13_statement 65 = .ok (.imul, 1) := by decide +kernel
theorem dX13_statement_66 : decode cX13_statement 66 = .ok (.aload_n 0, 1) := by decide +kernel
theorem dX13_statement_67 : decode cX13_statement 67 = .ok (.getfield 396, 3) := by decide +kernel
theorem dX13_statement_70 : decode cX13_statement 70 = .ok (.ifCond .eq 7, 3) := by decide +kernel
theorem dX13_statement_73 : decode cX13_statement 73 = .ok (.iconst 2, 1) := by decide +kernel
theorem dX13_statement_74 : decode cX13_statement 74 = .ok (.goto 4, 3) := by decide +kernel
theorem dX13_statement_77 : decode cX13_statement 77 = .ok (.iconst 0, 1) := by decide +kernel
theorem dX13_statement_78 : decode cX13_statement 78 = .ok (.iadd, 1) := by decide +kernel
theorem dX13_statement_79 : decode cX13_statement 79 = .ok (.iastore, 1) := by decide +kernel
theorem dX13_statement_80 : decode cX13_statement 80 = .ok (.aload_n 0, 1) := by decide +kernel
theorem dX13_statement_81 : decode cX13_statement 81 = .ok (.getfield 52, 3) := by decide +kernel
theorem dX13_statement_84 : decode cX13_statement 84 = .ok (.iload_n 3, 1) := by decide +kernel
theorem dX13_statement_85 : decode cX13_statement 85 = .ok (.aload_n 0, 1) := by decide +kernel
theorem dX13_statement_86 : decode cX13_statement 86 = .ok (.getfield 400, 3) := by decide +kernel
theorem dX13_statement_89 : decode cX13_statement 89 = .ok (.iastore, 1) := by decide +kernel
theorem dX13_statement_90 : decode cX13_statement 90 = .ok (.aload_n 0, 1) := by decide +kernel
theorem dX13_statement_91 : decode cX13_statement 91 = .ok (.getfield 31, 3) := by decide +kernel
theorem dX13_statement_94 : decode cX13_statement 94 = .ok (.iload_n 3, 1) := by decide +kernel
theorem dX13_statement_95 : decode cX13_statement 95 = .ok (.aload_n 0, 1) := by decide +kernel
theorem dX13_statement_96 : decode cX13_statement 96 = .ok (.invokevirtual 403, 3) := by decide +kernel
theorem dX13_statement_99 : decode cX13_statement 99 = .ok (.iastore, 1) := by decide +kernel
theorem dX13_statement_100 : decode cX13_statement 100 = .ok (.aload_n 0, 1) := by decide +kernel
theorem dX13_statement_101 : decode cX13_statement 101 = .ok (.getfield 55, 3) := by decide +kernel
theorem dX13_statement_104 : decode cX13_statement 104 = .ok (.iload_n 3, 1) := by decide +kernel
theorem dX13_statement_105 : decode cX13_statement 105 = .ok (.aload_n 0, 1) := by decide +kernel
theorem dX13_statement_106 : decode cX13_statement 106 = .ok (.getfield 376, 3) := by decide +kernel
theorem dX13_statement_109 : decode cX13_statement 109 = .ok (.iastore, 1) := by decide +kernel
theorem dX13_statement_110 : decode cX13_statement 110 = .ok (.aload_n 0, 1) := by decide +kernel
theorem dX13_statement_111 : decode cX13_statement 111 = .ok (.bipush 61, 2) := by decide +kernel
theorem dX13_statement_113 : decode cX13_statement 113 = .ok (.invokevirtual 406, 3) := by decide +kernel
theorem dX13_statement_116 : decode cX13_statement 116 = .ok (.aload_n 0, 1) := by decide +kernel
theorem dX13_statement_117 : decode cX13_statement 117 = .ok (.getfield 37, 3) := by decide +kernel
theorem dX13_statement_120 : decode cX13_statement 120 = .ok (.iload_n 3, 1) := by decide +kernel
theorem dX13_statement_121 : decode cX13_statement 121 = .ok (.aload_n 0, 1) := by decide +kernel
theorem dX13_statement_122 : decode cX13_statement 122 = .ok (.iload_n 1, 1) := by decide +kernel
theorem dX13_statement_123 : decode cX13_statement 123 = .ok (.iconst 1, 1) := by decide +kernel
theorem dX13_statement_124 : decode cX13_statement 124 = .ok (.iadd, 1) := by decide +kernel
theorem dX13_statement_125 : decode cX13_statement 125 = .ok (.invokevirtual 444, 3) := by decide +kernel
theorem dX13_statement_128 : decode cX13_statement 128 = .ok (.iastore, 1) := by decide +kernel
theorem dX13_statement_129 : decode cX13_statement 129 = .ok (.aload_n 0, 1) := by decide +kernel
theorem dX13_statement_130 : decode cX13_statement 130 = .ok (.bipush 59, 2) := by decide +kernel
theorem dX13_statement_132 : decode cX13_statement 132 = .ok (.invokevirtual 406, 3) := by decide +kernel
theorem dX13_statement_135 : decode cX13_statement 135 = .ok (.iload_n 3, 1) := by decide +kernel
theorem dX13_statement_136 : decode cX13_statement 136 = .ok (.ireturn, 1) := by decide +kernel
theorem dX13_statement_137 : decode cX13_statement 137 = .ok (.aload_n 0, 1) := by decide +kernel
theorem dX13_statement_138 : decode cX13_statement 138 = .ok (.getfield 16, 3) := by decide +kernel
theorem dX13_statement_141 : decode cX13_statement 141 = .ok (.aload_n 0, 1) := by decide +kernel
theorem dX13_statement_142 : decode cX13_statement 142 = .ok (.getfield 376, 3) := by decide +kernel
theorem dX13_statement_145 : decode cX13_statement 145 = .ok (.iaload, 1) := by decide +kernel
theorem dX13_statement_146 : decode cX13_statement 146 = .ok (.iconst 3, 1) := by decide +kernel
theorem dX13_statement_147 : decode cX13_statement 147 = .ok (.if_icmp .eq 9, 3) := by decide +kernel
theorem dX13_statement_150 : decode cX13_statement 150 = .ok (.aload_n 0, 1) := by decide +kernel
theorem dX13_statement_151 : decode cX13_statement 151 = .ok (.iload_n 1, 1) := by decide +kernel
theorem dX13_statement_152 : decode cX13_statement 152 = .ok (.invokevirtual 447, 3) := by decide +kernel
theorem dX13_statement_155 : decode cX13_statement 155 = .ok (.ireturn, 1) := by decide +kernel
theorem dX13_statement_156 : decode cX13_statement 156 = .ok (.aload_n 0, 1) := by decide +kernel
theorem dX13_statement_157 : decode cX13_statement 157 = .ok (.getfield 25, 3) := by decide +kernel
theorem dX13_statement_160 : decode cX13_statement 160 = .ok (.aload_n 0, 1) := by decide +kernel
theorem dX13_statement_161 : decode cX13_statement 161 = .ok (.getfield 376, 3) := by decide +kernel
theorem dX13_statement_164 : decode cX13_statement 164 = .ok (.iaload, 1) := by decide +kernel
theorem dX13_statement_165 : decode cX13_statement 165 = .ok (.tableswitch 590 1 21 #[302, 590, 590, 302, 590, 590, 590, 99, 590, 590, 590, 590, 535, 349, 590, 590, 405, 590, 448, 590, 202], 99) := by decide +kernel
theorem dX13_statement_264 : decode cX13_statement 264 = .ok (.aload_n 0, 1) := by decide +kernel
theorem dX13_statement_265 : decode cX13_statement 265 = .ok (.iconst 3, 1) := by decide +kernel
theorem dX13_statement_266 : decode cX13_statement 266 = .ok (.aload_n 0, 1) := by decide +kernel
theorem dX13_statement_267 : decode cX13_statement 267 = .ok (.getfield 376, 3) := by decide +kernel
theorem dX13_statement_270 : decode cX13_statement 270 = .ok (.iload_n 2, 1) := by decide +kernel
theorem dX13_statement_271 : decode cX13_statement 271 = .ok (.invokevirtual 430, 3) := by decide +kernel
theorem dX13_statement_274 : decode cX13_statement 274 = .ok (.istore_n 3, 1) := by decide +kernel
theorem dX13_statement_275 : decode cX13_statement 275 = .ok (.aload_n 0, 1) := by decide +kernel
theorem dX13_statement_276 : decode cX13_statement 276 = .ok (.dup, 1) := by decide +kernel
theorem dX13_statement_277 : decode cX13_statement 277 = .ok (.getfield 376, 3) := by decide +kernel
theorem dX13_statement_280 : decode cX13_statement 280 = .ok (.iconst 1, 1) := by decide +kernel
theorem dX13_statement_281 : decode cX13_statement 281 = .ok (.iadd, 1) := by decide +kernel
theorem dX13_statement_282 : decode cX13_statement 282 = .ok (.putfield 376, 3) := by decide +kernel
theorem dX13_statement_285 : decode cX13_statement 285 = .ok (.aload_n 0, 1) := by decide +kernel
theorem dX13_statement_286 : decode cX13_statement 286 = .ok (.bipush 40, 2) := by decide +kernel
theorem dX13_statement_288 : decode cX13_statement 288 = .ok (.invokevirtual 406, 3) := by decide +kernel
theorem dX13_statement_291 : decode cX13_statement 291 = .ok (.aload_n 0, 1) := by decide +kernel
theorem dX13_statement_292 : decode cX13_statement 292 = .ok (.getfield 37, 3) := by decide +kernel
theorem dX13_statement_295 : decode cX13_statement 295 = .ok (.iload_n 3, 1) := by decide +kernel
theorem dX13_statement_296 : decode cX13_statement 296 = .ok (.aload_n 0, 1) := by decide +kernel
theorem dX13_statement_297 : decode cX13_statement 297 = .ok (.iload_n 1, 1) := by decide +kernel
theorem dX13_statement_298 : decode cX13_statement 298 = .ok (.iconst 1, 1) := by decide +kernel
theorem dX13_statement_299 : decode cX13_statement 299 = .ok (.iadd, 1) := by decide +kernel
theorem dX13_statement_300 : decode cX13_statement 300 = .ok (.invokevirtual 444, 3) := by decide +kernel
theorem dX13_statement_303 : decode cX13_statement 303 = .ok (.iastore, 1) := by decide +kernel
theorem dX13_statement_304 : decode cX13_statement 304 = .ok (.aload_n 0, 1) := by decide +kernel
theorem dX13_statement_305 : decode cX13_statement 305 = .ok (.bipush 41, 2) := by decide +kernel
theorem dX13_statement_307 : decode cX13_statement 307 = .ok (.invokevirtual 406, 3) := by decide +kernel
theorem dX13_statement_310 : decode cX13_statement 310 = .ok (.aload_n 0, 1) := by decide +kernel
theorem dX13_statement_311 : decode cX13_statement 311 = .ok (.getfield 40, 3) := by decide +kernel
theorem dX13_statement_314 : decode cX13_statement 314 = .ok (.iload_n 3, 1) := by decide +kernel
theorem dX13_statement_315 : decode cX13_statement 315 = .ok (.aload_n 0, 1) := by decide +kernel
theorem dX13_statement_316 : decode cX13_statement 316 = .ok (.iload_n 1, 1) := by decide +kernel
theorem dX13_statement_317 : decode cX13_statement 317 = .ok (.iconst 1, 1) := by decide +kernel
theorem dX13_statement_318 : decode cX13_statement 318 = .ok (.iadd, 1) := by decide +kernel
theorem dX13_statement_319 : decode cX13_statement 319 = .ok (.invokevirtual 434, 3) := by decide +kernel
theorem dX13_statement_322 : decode cX13_statement 322 = .ok (.iastore, 1) := by decide +kernel
theorem dX13_statement_323 : decode cX13_statement 323 = .ok (.aload_n 0, 1) := by decide +kernel
theorem dX13_statement_324 : decode cX13_statement 324 = .ok (.getfield 319, 3) := by decide +kernel
theorem dX13_statement_327 : decode cX13_statement 327 = .ok (.ifCond .ne 38, 3) := by decide +kernel
theorem dX13_statement_330 : decode cX13_statement 330 = .ok (.aload_n 0, 1) := by decide +kernel
theorem dX13_statement_331 : decode cX13_statement 331 = .ok (.aload_n 0, 1) := by decide +kernel
theorem dX13_statement_332 : decode cX13_statement 332 = .ok (.getfield 376, 3) := by decide +kernel
theorem dX13_statement_335 : decode cX13_statement 335 = .ok (.iconst 5, 1) := by decide +kernel
theorem dX13_statement_336 : decode cX13_statement 336 = .ok (.invokevirtual 390, 3) := by decide +kernel
theorem dX13_statement_339 : decode cX13_statement 339 = .ok (.ifCond .eq 26, 3) := by decide +kernel
theorem dX13_statement_342 : decode cX13_statement 342 = .ok (.aload_n 0, 1) := by decide +kernel
theorem dX13_statement_343 : decode cX13_statement 343 = .ok (.dup, 1) := by decide +kernel
theorem dX13_statement_344 : decode cX13_statement 344 = .ok (.getfield 376, 3) := by decide +kernel
theorem dX13_statement_347 : decode cX13_statement 347 = .ok (.iconst 1, 1) := by decide +kernel
theorem dX13_statement_348 : decode cX13_statement 348 = .ok (.iadd, 1) := by decide +kernel
theorem dX13_statement_349 : decode cX13_statement 349 = .ok (.putfield 376, 3) := by decide +kernel
theorem dX13_statement_352 : decode cX13_statement 352 = .ok (.aload_n 0, 1) := by decide +kernel
theorem dX13_statement_353 : decode cX13_statement 353 = .ok (.getfield 43, 3) := by decide +kernel
theorem dX13_statement_356 : decode cX13_statement 356 = .ok (.iload_n 3, 1) := by decide +kernel
theorem dX13_statement_357 : decode cX13_statement 357 = .ok (.aload_n 0, 1) := by decide +kernel
theorem dX13_statement_358 : decode cX13_statement 358 = .ok (.iload_n 1, 1) := by decide +kernel
theorem dX13_statement_359 : decode cX13_statement 359 = .ok (.iconst 1, 1) := by decide +kernel
theorem dX13_statement_360 : decode cX13_statement 360 = .ok (.iadd, 1) := by decide +kernel
theorem dX13_statement_361 : decode cX13_statement 361 = .ok (.invokevirtual 434, 3) := by decide +kernel
theorem dX13_statement_364 : decode cX13_statement 364 = .ok (.iastore, 1) := by decide +kernel
theorem dX13_statement_365 : decode cX13_statement 365 = .ok (.iload_n 3, 1) := by decide +kernel
theorem dX13_statement_366 : decode cX13_statement 366 = .ok (.ireturn, 1) := by decide +kernel
theorem dX13_statement_367 : decode cX13_statement 367 = .ok (.aload_n 0, 1) := by decide +kernel
theorem dX13_statement_368 : decode cX13_statement 368 = .ok (.iconst 4, 1) := by decide +kernel
theorem dX13_statement_369 : decode cX13_statement 369 = .ok (.aload_n 0, 1) := by decide +kernel
theorem dX13_statement_370 : decode cX13_statement 370 = .ok (.getfield 376, 3) := by decide +kernel
theorem dX13_statement_373 : decode cX13_statement 373 = .ok (.iload_n 2, 1) := by decide +kernel
theorem dX13_statement_374 : decode cX13_statement 374 = .ok (.invokevirtual 430, 3) := by decide +kernel
theorem dX13_statement_377 : decode cX13_statement 377 = .ok (.istore_n 3, 1) := by decide +kernel
theorem dX13_statement_378 : decode cX13_statement 378 = .ok (.aload_n 0, 1) := by decide +kernel
theorem dX13_statement_379 : decode cX13_statement 379 = .ok (.dup, 1) := by decide +kernel
theorem dX13_statement_380 : decode cX13_statement 380 = .ok (.getfield 376, 3) := by decide +kernel
theorem dX13_statement_383 : decode cX13_statement 383 = .ok (.iconst 1, 1) := by decide +kernel
theorem dX13_statement_384 : decode cX13_statement 384 = .ok (.iadd, 1) := by decide +kernel
theorem dX13_statement_385 : decode cX13_statement 385 = .ok (.putfield 376, 3) := by decide +kernel
theorem dX13_statement_388 : decode cX13_statement 388 = .ok (.aload_n 0, 1) := by decide +kernel
theorem dX13_statement_389 : decode cX13_statement 389 = .ok (.bipush 40, 2) := by decide +kernel
theorem dX13_statement_391 : decode cX13_statement 391 = .ok (.invokevirtual 406, 3) := by decide +kernel
theorem dX13_statement_394 : decode cX13_statement 394 = .ok (.aload_n 0, 1) := by decide +kernel
theorem dX13_statement_395 : decode cX13_statement 395 = .ok (.getfield 52, 3) := by decide +kernel
theorem dX13_statement_398 : decode cX13_statement 398 = .ok (.iload_n 3, 1) := by decide +kernel
theorem dX13_statement_399 : decode cX13_statement 399 = .ok (.aload_n 0, 1) := by decide +kernel
theorem dX13_statement_400 : decode cX13_statement 400 = .ok (.aload_n 0, 1) := by decide +kernel
theorem dX13_statement_401 : decode cX13_statement 401 = .ok (.getfield 376, 3) := by decide +kernel
theorem dX13_statement_404 : decode cX13_statement 404 = .ok (.bipush 18, 2) := by decide +kernel
theorem dX13_statement_406 : decode cX13_statement 406 = .ok (.invokevirtual 390, 3) := by decide +kernel
theorem dX13_statement_409 : decode cX13_statement 409 = .ok (.ifCond .eq 22, 3) := by decide +kernel
theorem dX13_statement_412 : decode cX13_statement 412 = .ok (.aload_n 0, 1) := by decide +kernel
theorem dX13_statement_413 : decode cX13_statement 413 = .ok (.aload_n 0, 1) := by decide +kernel
theorem dX13_statement_414 : decode cX13_statement 414 = .ok (.getfield 376, 3) := by decide +kernel
theorem dX13_statement_417 : decode cX13_statement 417 = .ok (.iconst 1, 1) := by decide +kernel
theorem dX13_statement_418 : decode cX13_statement 418 = .ok (.iadd, 1) := by decide +kernel
theorem dX13_statement_419 : decode cX13_statement 419 = .ok (.bipush 41, 2) := by decide +kernel
theorem dX13_statement_421 : decode cX13_statement 421 = .ok (.invokevirtual 383, 3) := by decide +kernel
theorem dX13_statement_424 : decode cX13_statement 424 = .ok (.ifCond .eq 7, 3) := by decide +kernel
theorem dX13_statement_427 : decode cX13_statement 427 = .ok (.iconst 1, 1) := by decide +kernel
theorem dX13_statement_428 : decode cX13_statement 428 = .ok (.goto 4, 3) := by decide +kernel
theorem dX13_statement_431 : decode cX13_statement 431 = .ok (.iconst 0, 1) := by decide +kernel
theorem dX13_statement_432 : decode cX13_statement 432 = .ok (.iastore, 1) := by decide +kernel
theorem dX13_statement_433 : decode cX13_statement 433 = .ok (.aload_n 0, 1) := by decide +kernel
theorem dX13_statement_434 : decode cX13_statement 434 = .ok (.getfield 37, 3) := by decide +kernel
theorem dX13_statement_437 : decode cX13_statement 437 = .ok (.iload_n 3, 1) := by decide +kernel
theorem dX13_statement_438 : decode cX13_statement 438 = .ok (.aload_n 0, 1) := by decide +kernel
theorem dX13_statement_439 : decode cX13_statement 439 = .ok (.iload_n 1, 1) := by decide +kernel
theorem dX13_statement_440 : decode cX13_statement 440 = .ok (.iconst 1, 1) := by decide +kernel
theorem dX13_statement_441 : decode cX13_statement 441 = .ok (.iadd, 1) := by decide +kernel
theorem dX13_statement_442 : decode cX13_statement 442 = .ok (.invokevirtual 444, 3) := by decide +kernel
theorem dX13_statement_445 : decode cX13_statement 445 = .ok (.iastore, 1) := by decide +kernel
theorem dX13_statement_446 : decode cX13_statement 446 = .ok (.aload_n 0, 1) := by decide +kernel
theorem dX13_statement_447 : decode cX13_statement 447 = .ok (.bipush 41, 2) := by decide +kernel
theorem dX13_statement_449 : decode cX13_statement 449 = .ok (.invokevirtual 406, 3) := by decide +kernel
theorem dX13_statement_452 : decode cX13_statement 452 = .ok (.aload_n 0, 1) := by decide +kernel
theorem dX13_statement_453 : decode cX13_statement 453 = .ok (.getfield 40, 3) := by decide +kernel
theorem dX13_statement_456 : decode cX13_statement 456 = .ok (.iload_n 3, 1) := by decide +kernel
theorem dX13_statement_457 : decode cX13_statement 457 = .ok (.aload_n 0, 1) := by decide +kernel
theorem dX13_statement_458 : decode cX13_statement 458 = .ok (.iload_n 1, 1) := by decide +kernel
theorem dX13_statement_459 : decode cX13_statement 459 = .ok (.iconst 1, 1) := by decide +kernel
theorem dX13_statement_460 : decode cX13_statement 460 = .ok (.iadd, 1) := by decide +kernel
theorem dX13_statement_461 : decode cX13_statement 461 = .ok (.invokevirtual 434, 3) := by decide +kernel
theorem dX13_statement_464 : decode cX13_statement 464 = .ok (.iastore, 1) := by decide +kernel
theorem dX13_statement_465 : decode cX13_statement 465 = .ok (.iload_n 3, 1) := by decide +kernel
theorem dX13_statement_466 : decode cX13_statement 466 = .ok (.ireturn, 1) := by decide +kernel
theorem dX13_statement_467 : decode cX13_statement 467 = .ok (.aload_n 0, 1) := by decide +kernel
theorem dX13_statement_468 : decode cX13_statement 468 = .ok (.aload_n 0, 1) := by decide +kernel
theorem dX13_statement_469 : decode cX13_statement 469 = .ok (.getfield 25, 3) := by decide +kernel
theorem dX13_statement_472 : decode cX13_statement 472 = .ok (.aload_n 0, 1) := by decide +kernel
theorem dX13_statement_473 : decode cX13_statement 473 = .ok (.getfield 376, 3) := by decide +kernel
theorem dX13_statement_476 : decode cX13_statement 476 = .ok (.iaload, 1) := by decide +kernel
theorem dX13_statement_477 : decode cX13_statement 477 = .ok (.iconst 1, 1) := by decide +kernel
theorem dX13_statement_478 : decode cX13_statement 478 = .ok (.if_icmp .ne 7, 3) := by decide +kernel
theorem dX13_statement_481 : decode cX13_statement 481 = .ok (.iconst 5, 1) := by decide +kernel
theorem dX13_statement_482 : decode cX13_statement 482 = .ok (.goto 5, 3) := by decide +kernel
theorem dX13_statement_485 : decode cX13_statement 485 = .ok (.bipush 6, 2) := by decide +kernel
theorem dX13_statement_487 : decode cX13_statement 487 = .ok (.aload_n 0, 1) := by decide +kernel
theorem dX13_statement_488 : decode cX13_statement 488 = .ok (.getfield 376, 3) := by decide +kernel
theorem dX13_statement_491 : decode cX13_statement 491 = .ok (.iload_n 2, 1) := by decide +kernel
theorem dX13_statement_492 : decode cX13_statement 492 = .ok (.invokevirtual 430, 3) := by decide +kernel
theorem dX13_statement_495 : decode cX13_statement 495 = .ok (.istore_n 3, 1) := by decide +kernel
theorem dX13_statement_496 : decode cX13_statement 496 = .ok (.aload_n 0, 1) := by decide +kernel
theorem dX13_statement_497 : decode cX13_statement 497 = .ok (.dup, 1) := by decide +kernel
theorem dX13_statement_498 : decode cX13_statement 498 = .ok (.getfield 376, 3) := by decide +kernel
theorem dX13_statement_501 : decode cX13_statement 501 = .ok (.iconst 1, 1) := by decide +kernel
theorem dX13_statement_502 : decode cX13_statement 502 = .ok (.iadd, 1) := by decide +kernel
theorem dX13_statement_503 : decode cX13_statement 503 = .ok (.putfield 376, 3) := by decide +kernel
theorem dX13_statement_506 : decode cX13_statement 506 = .ok (.aload_n 0, 1) := by decide +kernel
theorem dX13_statement_507 : decode cX13_statement 507 = .ok (.bipush 59, 2) := by decide +kernel
theorem dX13_statement_509 : decode cX13_statement 509 = .ok (.invokevirtual 406, 3) := by decide +kernel
theorem dX13_statement_512 : decode cX13_statement 512 = .ok (.iload_n 3, 1) := by decide +kernel
theorem dX13_statement_513 : decode cX13_statement 513 = .ok (.ireturn, 1) := by decide +kernel
theorem dX13_statement_514 : decode cX13_statement 514 = .ok (.aload_n 0, 1) := by decide +kernel
theorem dX13_statement_515 : decode cX13_statement 515 = .ok (.bipush 7, 2) := by decide +kernel
theorem dX13_statement_517 : decode cX13_statement 517 = .ok (.aload_n 0, 1) := by decide +kernel
theorem dX13_statement_518 : decode cX13_statement 518 = .ok (.getfield 376, 3) := by decide +kernel
theorem dX13_statement_521 : decode cX13_statement 521 = .ok (.iload_n 2, 1) := by decide +kernel
theorem dX13_statement_522 : decode cX13_statement 522 = .ok (.invokevirtual 430, 3) := by decide +kernel
theorem dX13_statement_525 : decode cX13_statement 525 = .ok (.istore_n 3, 1) := by decide +kernel
theorem dX13_statement_526 : decode cX13_statement 526 = .ok (.aload_n 0, 1) := by decide +kernel
theorem dX13_statement_527 : decode cX13_statement 527 = .ok (.dup, 1) := by decide +kernel
theorem dX13_statement_528 : decode cX13_statement 528 = .ok (.getfield 376, 3) := by decide +kernel
theorem dX13_statement_531 : decode cX13_statement 531 = .ok (.iconst 1, 1) := by decide +kernel
theorem dX13_statement_532 : decode cX13_statement 532 = .ok (.iadd, 1) := by decide +kernel
theorem dX13_statement_533 : decode cX13_statement 533 = .ok (.putfield 376, 3) := by decide +kernel
theorem dX13_statement_536 : decode cX13_statement 536 = .ok (.aload_n 0, 1) := by decide +kernel
theorem dX13_statement_537 : decode cX13_statement 537 = .ok (.aload_n 0, 1) := by decide +kernel
theorem dX13_statement_538 : decode cX13_statement 538 = .ok (.getfield 376, 3) := by decide +kernel
theorem dX13_statement_541 : decode cX13_statement 541 = .ok (.bipush 59, 2) := by decide +kernel
theorem dX13_statement_543 : decode cX13_statement 543 = .ok (.invokevirtual 383, 3) := by decide +kernel
theorem dX13_statement_546 : decode cX13_statement 546 = .ok (.ifCond .ne 16, 3) := by decide +kernel
theorem dX13_statement_549 : decode cX13_statement 549 = .ok (.aload_n 0, 1) := by decide +kernel
theorem dX13_statement_550 : decode cX13_statement 550 = .ok (.getfield 37, 3) := by decide +kernel
theorem dX13_statement_553 : decode cX13_statement 553 = .ok (.iload_n 3, 1) := by decide +kernel
theorem dX13_statement_554 : decode cX13_statement 554 = .ok (.aload_n 0, 1) := by decide +kernel
theorem dX13_statement_555 : decode cX13_statement 555 = .ok (.iload_n 1, 1) := by decide +kernel
theorem dX13_statement_556 : decode cX13_statement 556 = .ok (.iconst 1, 1) := by decide +kernel
theorem dX13_statement_557 : decode cX13_statement 557 = .ok (.iadd, 1) := by decide +kernel
theorem dX13_statement_558 : decode cX13_statement 558 = .ok (.invokevirtual 444, 3) := by decide +kernel
theorem dX13_statement_561 : decode cX13_statement 561 = .ok (.iastore, 1) := by decide +kernel
theorem dX13_statement_562 : decode cX13_statement 562 = .ok (.aload_n 0, 1) := by decide +kernel
theorem dX13_statement_563 : decode cX13_statement 563 = .ok (.bipush 59, 2) := by decide +kernel
theorem dX13_statement_565 : decode cX13_statement 565 = .ok (.invokevirtual 406, 3) := by decide +kernel
theorem dX13_statement_568 : decode cX13_statement 568 = .ok (.iload_n 3, 1) := by decide +kernel
theorem dX13_statement_569 : decode cX13_statement 569 = .ok (.ireturn, 1) := by decide +kernel
theorem dX13_statement_570 : decode cX13_statement 570 = .ok (.aload_n 0, 1) := by decide +kernel
theorem dX13_statement_571 : decode cX13_statement 571 = .ok (.bipush 8, 2) := by decide +kernel
theorem dX13_statement_573 : decode cX13_statement 573 = .ok (.aload_n 0, 1) := by decide +kernel
theorem dX13_statement_574 : decode cX13_statement 574 = .ok (.getfield 376, 3) := by decide +kernel
theorem dX13_statement_577 : decode cX13_statement 577 = .ok (.iload_n 2, 1) := by decide +kernel
theorem dX13_statement_578 : decode cX13_statement 578 = .ok (.invokevirtual 430, 3) := by decide +kernel
theorem dX13_statement_581 : decode cX13_statement 581 = .ok (.istore_n 3, 1) := by decide +kernel
theorem dX13_statement_582 : decode cX13_statement 582 = .ok (.aload_n 0, 1) := by decide +kernel
theorem dX13_statement_583 : decode cX13_statement 583 = .ok (.dup, 1) := by decide +kernel
theorem dX13_statement_584 : decode cX13_statement 584 = .ok (.getfield 376, 3) := by decide +kernel
theorem dX13_statement_587 : decode cX13_statement 587 = .ok (.iconst 1, 1) := by decide +kernel
theorem dX13_statement_588 : decode cX13_statement 588 = .ok (.iadd, 1) := by decide +kernel
theorem dX13_statement_589 : decode cX13_statement 589 = .ok (.putfield 376, 3) := by decide +kernel
theorem dX13_statement_592 : decode cX13_statement 592 = .ok (.aload_n 0, 1) := by decide +kernel
theorem dX13_statement_593 : decode cX13_statement 593 = .ok (.getfield 37, 3) := by decide +kernel
theorem dX13_statement_596 : decode cX13_statement 596 = .ok (.iload_n 3, 1) := by decide +kernel
theorem dX13_statement_597 : decode cX13_statement 597 = .ok (.aload_n 0, 1) := by decide +kernel
theorem dX13_statement_598 : decode cX13_statement 598 = .ok (.iload_n 1, 1) := by decide +kernel
theorem dX13_statement_599 : decode cX13_statement 599 = .ok (.iconst 1, 1) := by decide +kernel
theorem dX13_statement_600 : decode cX13_statement 600 = .ok (.iadd, 1) := by decide +kernel
theorem dX13_statement_601 : decode cX13_statement 601 = .ok (.invokevirtual 444, 3) := by decide +kernel
theorem dX13_statement_604 : decode cX13_statement 604 = .ok (.iastore, 1) := by decide +kernel
theorem dX13_statement_605 : decode cX13_statement 605 = .ok (.aload_n 0, 1) := by decide +kernel
theorem dX13_statement_606 : decode cX13_statement 606 = .ok (.bipush 59, 2) := by decide +kernel
theorem dX13_statement_608 : decode cX13_statement 608 = .ok (.invokevirtual 406, 3) := by decide +kernel
theorem dX13_statement_611 : decode cX13_statement 611 = .ok (.iload_n 3, 1) := by decide +kernel
theorem dX13_statement_612 : decode cX13_statement 612 = .ok (.ireturn, 1) := by decide +kernel
theorem dX13_statement_613 : decode cX13_statement 613 = .ok (.aload_n 0, 1) := by decide +kernel
theorem dX13_statement_614 : decode cX13_statement 614 = .ok (.bipush 9, 2) := by decide +kernel
theorem dX13_statement_616 : decode cX13_statement 616 = .ok (.aload_n 0, 1) := by decide +kernel
theorem dX13_statement_617 : decode cX13_statement 617 = .ok (.getfield 376, 3) := by decide +kernel
theorem dX13_statement_620 : decode cX13_statement 620 = .ok (.iload_n 2, 1) := by decide +kernel
theorem dX13_statement_621 : decode cX13_statement 621 = .ok (.invokevirtual 430, 3) := by decide +kernel
theorem dX13_statement_624 : decode cX13_statement 624 = .ok (.istore_n 3, 1) := by decide +kernel
theorem dX13_statement_625 : decode cX13_statement 625 = .ok (.aload_n 0, 1) := by decide +kernel
theorem dX13_statement_626 : decode cX13_statement 626 = .ok (.dup, 1) := by decide +kernel
theorem dX13_statement_627 : decode cX13_statement 627 = .ok (.getfield 376, 3) := by decide +kernel
theorem dX13_statement_630 : decode cX13_statement 630 = .ok (.iconst 1, 1) := by decide +kernel
theorem dX13_statement_631 : decode cX13_statement 631 = .ok (.iadd, 1) := by decide +kernel
theorem dX13_statement_632 : decode cX13_statement 632 = .ok (.putfield 376, 3) := by decide +kernel
theorem dX13_statement_635 : decode cX13_statement 635 = .ok (.aload_n 0, 1) := by decide +kernel
theorem dX13_statement_636 : decode cX13_statement 636 = .ok (.getfield 37, 3) := by decide +kernel
theorem dX13_statement_639 : decode cX13_statement 639 = .ok (.iload_n 3, 1) := by decide +kernel
theorem dX13_statement_640 : decode cX13_statement 640 = .ok (.aload_n 0, 1) := by decide +kernel
theorem dX13_statement_641 : decode cX13_statement 641 = .ok (.iload_n 1, 1) := by decide +kernel
theorem dX13_statement_642 : decode cX13_statement 642 = .ok (.iconst 1, 1) := by decide +kernel
theorem dX13_statement_643 : decode cX13_statement 643 = .ok (.iadd, 1) := by decide +kernel
theorem dX13_statement_644 : decode cX13_statement 644 = .ok (.invokevirtual 427, 3) := by decide +kernel
theorem dX13_statement_647 : decode cX13_statement 647 = .ok (.iastore, 1) := by decide +kernel
theorem dX13_statement_648 : decode cX13_statement 648 = .ok (.aload_n 0, 1) := by decide +kernel
theorem dX13_statement_649 : decode cX13_statement 649 = .ok (.iconst 2, 1) := by decide +kernel
theorem dX13_statement_650 : decode cX13_statement 650 = .ok (.invokevirtual 418, 3) := by decide +kernel
theorem dX13_statement_653 : decode cX13_statement 653 = .ok (.aload_n 0, 1) := by decide +kernel
theorem dX13_statement_654 : decode cX13_statement 654 = .ok (.bipush 40, 2) := by decide +kernel
theorem dX13_statement_656 : decode cX13_statement 656 = .ok (.invokevirtual 406, 3) := by decide +kernel
theorem dX13_statement_659 : decode cX13_statement 659 = .ok (.aload_n 0, 1) := by decide +kernel
theorem dX13_statement_660 : decode cX13_statement 660 = .ok (.getfield 31, 3) := by decide +kernel
theorem dX13_statement_663 : decode cX13_statement 663 = .ok (.iload_n 3, 1) := by decide +kernel
theorem dX13_statement_664 : decode cX13_statement 664 = .ok (.aload_n 0, 1) := by decide +kernel
theorem dX13_statement_665 : decode cX13_statement 665 = .ok (.invokevirtual 403, 3) := by decide +kernel
theorem dX13_statement_668 : decode cX13_statement 668 = .ok (.iastore, 1) := by decide +kernel
theorem dX13_statement_669 : decode cX13_statement 669 = .ok (.aload_n 0, 1) := by decide +kernel
theorem dX13_statement_670 : decode cX13_statement 670 = .ok (.getfield 55, 3) := by decide +kernel
theorem dX13_statement_673 : decode cX13_statement 673 = .ok (.iload_n 3, 1) := by decide +kernel
theorem dX13_statement_674 : decode cX13_statement 674 = .ok (.aload_n 0, 1) := by decide +kernel
theorem dX13_statement_675 : decode cX13_statement 675 = .ok (.invokevirtual 403, 3) := by decide +kernel
theorem dX13_statement_678 : decode cX13_statement 678 = .ok (.iastore, 1) := by decide +kernel
theorem dX13_statement_679 : decode cX13_statement 679 = .ok (.aload_n 0, 1) := by decide +kernel
theorem dX13_statement_680 : decode cX13_statement 680 = .ok (.bipush 41, 2) := by decide +kernel
theorem dX13_statement_682 : decode cX13_statement 682 = .ok (.invokevirtual 406, 3) := by decide +kernel
theorem dX13_statement_685 : decode cX13_statement 685 = .ok (.aload_n 0, 1) := by decide +kernel
theorem dX13_statement_686 : decode cX13_statement 686 = .ok (.getfield 40, 3) := by decide +kernel
theorem dX13_statement_689 : decode cX13_statement 689 = .ok (.iload_n 3, 1) := by decide +kernel
theorem dX13_statement_690 : decode cX13_statement 690 = .ok (.aload_n 0, 1) := by decide +kernel
theorem dX13_statement_691 : decode cX13_statement 691 = .ok (.iload_n 1, 1) := by decide +kernel
theorem dX13_statement_692 : decode cX13_statement 692 = .ok (.iconst 1, 1) := by decide +kernel
theorem dX13_statement_693 : decode cX13_statement 693 = .ok (.iadd, 1) := by decide +kernel
theorem dX13_statement_694 : decode cX13_statement 694 = .ok (.invokevirtual 427, 3) := by decide +kernel
theorem dX13_statement_697 : decode cX13_statement 697 = .ok (.iastore, 1) := by decide +kernel
theorem dX13_statement_698 : decode cX13_statement 698 = .ok (.iload_n 3, 1) := by decide +kernel
theorem dX13_statement_699 : decode cX13_statement 699 = .ok (.ireturn, 1) := by decide +kernel
theorem dX13_statement_700 : decode cX13_statement 700 = .ok (.aload_n 0, 1) := by decide +kernel
theorem dX13_statement_701 : decode cX13_statement 701 = .ok (.bipush 10, 2) := by decide +kernel
theorem dX13_statement_703 : decode cX13_statement 703 = .ok (.aload_n 0, 1) := by decide +kernel
theorem dX13_statement_704 : decode cX13_statement 704 = .ok (.getfield 376, 3) := by decide +kernel
theorem dX13_statement_707 : decode cX13_statement 707 = .ok (.iload_n 2, 1) := by decide +kernel
theorem dX13_statement_708 : decode cX13_statement 708 = .ok (.invokevirtual 430, 3) := by decide +kernel
theorem dX13_statement_711 : decode cX13_statement 711 = .ok (.istore_n 3, 1) := by decide +kernel
theorem dX13_statement_712 : decode cX13_statement 712 = .ok (.aload_n 0, 1) := by decide +kernel
theorem dX13_statement_713 : decode cX13_statement 713 = .ok (.dup, 1) := by decide +kernel
theorem dX13_statement_714 : decode cX13_statement 714 = .ok (.getfield 376, 3) := by decide +kernel
theorem dX13_statement_717 : decode cX13_statement 717 = .ok (.iconst 1, 1) := by decide +kernel
theorem dX13_statement_718 : decode cX13_statement 718 = .ok (.iadd, 1) := by decide +kernel
theorem dX13_statement_719 : decode cX13_statement 719 = .ok (.putfield 376, 3) := by decide +kernel
theorem dX13_statement_722 : decode cX13_statement 722 = .ok (.aload_n 0, 1) := by decide +kernel
theorem dX13_statement_723 : decode cX13_statement 723 = .ok (.bipush 40, 2) := by decide +kernel
theorem dX13_statement_725 : decode cX13_statement 725 = .ok (.invokevirtual 406, 3) := by decide +kernel
theorem dX13_statement_728 : decode cX13_statement 728 = .ok (.aload_n 0, 1) := by decide +kernel
theorem dX13_statement_729 : decode cX13_statement 729 = .ok (.getfield 37, 3) := by decide +kernel
theorem dX13_statement_732 : decode cX13_statement 732 = .ok (.iload_n 3, 1) := by decide +kernel
theorem dX13_statement_733 : decode cX13_statement 733 = .ok (.aload_n 0, 1) := by decide +kernel
theorem dX13_statement_734 : decode cX13_statement 734 = .ok (.iload_n 1, 1) := by decide +kernel
theorem dX13_statement_735 : decode cX13_statement 735 = .ok (.iconst 1, 1) := by decide +kernel
theorem dX13_statement_736 : decode cX13_statement 736 = .ok (.iadd, 1) := by decide +kernel
theorem dX13_statement_737 : decode cX13_statement 737 = .ok (.invokevirtual 444, 3) := by decide +kernel
theorem dX13_statement_740 : decode cX13_statement 740 = .ok (.iastore, 1) := by decide +kernel
theorem dX13_statement_741 : decode cX13_statement 741 = .ok (.aload_n 0, 1) := by decide +kernel
theorem dX13_statement_742 : decode cX13_statement 742 = .ok (.bipush 41, 2) := by decide +kernel
theorem dX13_statement_744 : decode cX13_statement 744 = .ok (.invokevirtual 406, 3) := by decide +kernel
theorem dX13_statement_747 : decode cX13_statement 747 = .ok (.aload_n 0, 1) := by decide +kernel
theorem dX13_statement_748 : decode cX13_statement 748 = .ok (.bipush 59, 2) := by decide +kernel
theorem dX13_statement_750 : decode cX13_statement 750 = .ok (.invokevirtual 406, 3) := by decide +kernel
theorem dX13_statement_753 : decode cX13_statement 753 = .ok (.iload_n 3, 1) := by decide +kernel
theorem dX13_statement_754 : decode cX13_statement 754 = .ok (.ireturn, 1) := by decide +kernel
theorem dX13_statement_755 : decode cX13_statement 755 = .ok (.aload_n 0, 1) := by decide +kernel
theorem dX13_statement_756 : decode cX13_statement 756 = .ok (.iload_n 1, 1) := by decide +kernel
theorem dX13_statement_757 : decode cX13_statement 757 = .ok (.invokevirtual 447, 3) := by decide +kernel
theorem dX13_statement_760 : decode cX13_statement 760 = .ok (.ireturn, 1) := by decide +kernel
theorem mt_X13_statement : mx_mt 405 = some (yX13_statement, cX13_statement, 4, (some .int)) := rfl
