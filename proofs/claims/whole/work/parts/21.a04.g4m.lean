theorem dX13_classFits_224 : decode cX13_classFits 224 = .ok (.iload 4, 2) := by decide +kernel
theorem dX13_classFits_226 : decode cX13_classFits 226 = .ok (.iconst 1, 1) := by decide +kernel
theorem dX13_classFits_227 : decode cX13_classFits 227 = .ok (.invokevirtual 925, 3) := by decide +kernel
theorem dX13_classFits_230 : decode cX13_classFits 230 = .ok (.iconst 1, 1) := by decide +kernel
theorem dX13_classFits_231 : decode cX13_classFits 231 = .ok (.invokevirtual 928, 3) := by decide +kernel
theorem dX13_classFits_234 : decode cX13_classFits 234 = .ok (.istore 5, 2) := by decide +kernel
theorem dX13_classFits_236 : decode cX13_classFits 236 = .ok (.iload 5, 2) := by decide +kernel
theorem dX13_classFits_238 : decode cX13_classFits 238 = .ok (.iconst (-1), 1) := by decide +kernel
theorem dX13_classFits_239 : decode cX13_classFits 239 = .ok (.if_icmp .ne 6, 3) := by decide +kernel
theorem dX13_classFits_242 : decode cX13_classFits 242 = .ok (.goto 98, 3) := by decide +kernel
theorem dX13_classFits_245 : decode cX13_classFits 245 = .ok (.iload 5, 2) := by decide +kernel
theorem dX13_classFits_247 : decode cX13_classFits 247 = .ok (.bipush 8, 2) := by decide +kernel
theorem dX13_classFits_249 : decode cX13_classFits 249 = .ok (.isub, 1) := by decide +kernel
theorem dX13_classFits_250 : decode cX13_classFits 250 = .ok (.istore 6, 2) := by decide +kernel
theorem dX13_classFits_252 : decode cX13_classFits 252 = .ok (.aload_n 0, 1) := by decide +kernel
theorem dX13_classFits_253 : decode cX13_classFits 253 = .ok (.iload 6, 2) := by decide +kernel
theorem dX13_classFits_255 : decode cX13_classFits 255 = .ok (.aload_n 0, 1) := by decide +kernel
theorem dX13_classFits_256 : decode cX13_classFits 256 = .ok (.iload 6, 2) := by decide +kernel
theorem dX13_classFits_258 : decode cX13_classFits 258 = .ok (.aload_n 0, 1) := by decide +kernel
theorem dX13_classFits_259 : decode cX13_classFits 259 = .ok (.getfield 898, 3) := by decide +kernel
theorem dX13_classFits_262 : decode cX13_classFits 262 = .ok (.iconst 1, 1) := by decide +kernel
theorem dX13_classFits_263 : decode cX13_classFits 263 = .ok (.invokevirtual 910, 3) := by decide +kernel
theorem dX13_classFits_266 : decode cX13_classFits 266 = .ok (.iload_n 2, 1) := by decide +kernel
theorem dX13_classFits_267 : decode cX13_classFits 267 = .ok (.aload_n 0, 1) := by decide +kernel
theorem dX13_classFits_268 : decode cX13_classFits 268 = .ok (.iload_n 2, 1) := by decide +kernel
theorem dX13_classFits_269 : decode cX13_classFits 269 = .ok (.iload 4, 2) := by decide +kernel
theorem dX13_classFits_271 : decode cX13_classFits 271 = .ok (.iconst 1, 1) := by decide +kernel
theorem dX13_classFits_272 : decode cX13_classFits 272 = .ok (.invokevirtual 910, 3) := by decide +kernel
theorem dX13_classFits_275 : decode cX13_classFits 275 = .ok (.invokevirtual 894, 3) := by decide +kernel
theorem dX13_classFits_278 : decode cX13_classFits 278 = .ok (.istore 7, 2) := by decide +kernel
theorem dX13_classFits_280 : decode cX13_classFits 280 = .ok (.iload 7, 2) := by decide +kernel
theorem dX13_classFits_282 : decode cX13_classFits 282 = .ok (.ifCond .eq 49, 3) := by decide +kernel
theorem dX13_classFits_285 : decode cX13_classFits 285 = .ok (.aload_n 0, 1) := by decide +kernel
theorem dX13_classFits_286 : decode cX13_classFits 286 = .ok (.iload 6, 2) := by decide +kernel
theorem dX13_classFits_288 : decode cX13_classFits 288 = .ok (.aload_n 0, 1) := by decide +kernel
theorem dX13_classFits_289 : decode cX13_classFits 289 = .ok (.getfield 236, 3) := by decide +kernel
theorem dX13_classFits_292 : decode cX13_classFits 292 = .ok (.bipush 12, 2) := by decide +kernel
theorem dX13_classFits_294 : decode cX13_classFits 294 = .ok (.iload 6, 2) := by decide +kernel
theorem dX13_classFits_296 : decode cX13_classFits 296 = .ok (.imul, 1) := by decide +kernel
theorem dX13_classFits_297 : decode cX13_classFits 297 = .ok (.aload_n 0, 1) := by decide +kernel
theorem dX13_classFits_298 : decode cX13_classFits 298 = .ok (.getfield 898, 3) := by decide +kernel
theorem dX13_classFits_301 : decode cX13_classFits 301 = .ok (.iadd, 1) := by decide +kernel
theorem dX13_classFits_302 : decode cX13_classFits 302 = .ok (.iaload, 1) := by decide +kernel
theorem dX13_classFits_303 : decode cX13_classFits 303 = .ok (.invokevirtual 864, 3) := by decide +kernel
theorem dX13_classFits_306 : decode cX13_classFits 306 = .ok (.iconst 1, 1) := by decide +kernel
theorem dX13_classFits_307 : decode cX13_classFits 307 = .ok (.if_icmp .eq 24, 3) := by decide +kernel
theorem dX13_classFits_310 : decode cX13_classFits 310 = .ok (.aload_n 0, 1) := by decide +kernel
theorem dX13_classFits_311 : decode cX13_classFits 311 = .ok (.iload_n 2, 1) := by decide +kernel
theorem dX13_classFits_312 : decode cX13_classFits 312 = .ok (.aload_n 0, 1) := by decide +kernel
theorem dX13_classFits_313 : decode cX13_classFits 313 = .ok (.getfield 236, 3) := by decide +kernel
theorem dX13_classFits_316 : decode cX13_classFits 316 = .ok (.bipush 12, 2) := by decide +kernel
theorem dX13_classFits_318 : decode cX13_classFits 318 = .ok (.iload_n 2, 1) := by decide +kernel
theorem dX13_classFits_319 : decode cX13_classFits 319 = .ok (.imul, 1) := by decide +kernel
theorem dX13_classFits_320 : decode cX13_classFits 320 = .ok (.iload 4, 2) := by decide +kernel
theorem dX13_classFits_322 : decode cX13_classFits 322 = .ok (.iadd, 1) := by decide +kernel
theorem dX13_classFits_323 : decode cX13_classFits 323 = .ok (.iaload, 1) := by decide +kernel
theorem dX13_classFits_324 : decode cX13_classFits 324 = .ok (.invokevirtual 864, 3) := by decide +kernel
theorem dX13_classFits_327 : decode cX13_classFits 327 = .ok (.iconst 1, 1) := by decide +kernel
theorem dX13_classFits_328 : decode cX13_classFits 328 = .ok (.if_icmp .ne 12, 3) := by decide +kernel
theorem dX13_classFits_331 : decode cX13_classFits 331 = .ok (.aload_n 0, 1) := by decide +kernel
theorem dX13_classFits_332 : decode cX13_classFits 332 = .ok (.iconst 5, 1) := by decide +kernel
theorem dX13_classFits_333 : decode cX13_classFits 333 = .ok (.iload_n 1, 1) := by decide +kernel
theorem dX13_classFits_334 : decode cX13_classFits 334 = .ok (.iconst (-1), 1) := by decide +kernel
theorem dX13_classFits_335 : decode cX13_classFits 335 = .ok (.iconst (-1), 1) := by decide +kernel
theorem dX13_classFits_336 : decode cX13_classFits 336 = .ok (.invokevirtual 922, 3) := by decide +kernel
theorem dX13_classFits_339 : decode cX13_classFits 339 = .ok (.ireturn, 1) := by decide +kernel
theorem dX13_classFits_340 : decode cX13_classFits 340 = .ok (.iinc 4 1, 3) := by decide +kernel
theorem dX13_classFits_343 : decode cX13_classFits 343 = .ok (.goto (-139), 3) := by decide +kernel
theorem dX13_classFits_346 : decode cX13_classFits 346 = .ok (.iconst 1, 1) := by decide +kernel
theorem dX13_classFits_347 : decode cX13_classFits 347 = .ok (.ireturn, 1) := by decide +kernel
theorem dX13_framed_0 : decode cX13_framed 0 = .ok (.aload_n 0, 1) := by decide +kernel
theorem dX13_framed_1 : decode cX13_framed 1 = .ok (.aload_n 0, 1) := by decide +kernel
theorem dX13_framed_2 : decode cX13_framed 2 = .ok (.getfield 932, 3) := by decide +kernel
theorem dX13_framed_5 : decode cX13_framed 5 = .ok (.iload_n 1, 1) := by decide +kernel
theorem dX13_framed_6 : decode cX13_framed 6 = .ok (.invokevirtual 864, 3) := by decide +kernel
theorem dX13_framed_9 : decode cX13_framed 9 = .ok (.iconst 3, 1) := by decide +kernel
theorem dX13_framed_10 : decode cX13_framed 10 = .ok (.if_icmp .ge 15, 3) := by decide +kernel
theorem dX13_framed_13 : decode cX13_framed 13 = .ok (.aload_n 0, 1) := by decide +kernel
theorem dX13_framed_14 : decode cX13_framed 14 = .ok (.aload_n 0, 1) := by decide +kernel
theorem dX13_framed_15 : decode cX13_framed 15 = .ok (.getfield 932, 3) := by decide +kernel
theorem dX13_framed_18 : decode cX13_framed 18 = .ok (.iload_n 1, 1) := by decide +kernel
theorem dX13_framed_19 : decode cX13_framed 19 = .ok (.invokevirtual 864, 3) := by decide +kernel
theorem dX13_framed_22 : decode cX13_framed 22 = .ok (.goto 22, 3) := by decide +kernel
theorem dX13_framed_25 : decode cX13_framed 25 = .ok (.aload_n 0, 1) := by decide +kernel
theorem dX13_framed_26 : decode cX13_framed 26 = .ok (.aload_n 0, 1) := by decide +kernel
theorem dX13_framed_27 : decode cX13_framed 27 = .ok (.getfield 932, 3) := by decide +kernel
theorem dX13_framed_30 : decode cX13_framed 30 = .ok (.aload_n 0, 1) := by decide +kernel
theorem dX13_framed_31 : decode cX13_framed 31 = .ok (.aload_n 0, 1) := by decide +kernel
theorem dX13_framed_32 : decode cX13_framed 32 = .ok (.getfield 932, 3) := by decide +kernel
theorem dX13_framed_35 : decode cX13_framed 35 = .ok (.iload_n 1, 1) := by decide +kernel
theorem dX13_framed_36 : decode cX13_framed 36 = .ok (.iconst 1, 1) := by decide +kernel
theorem dX13_framed_37 : decode cX13_framed 37 = .ok (.iadd, 1) := by decide +kernel
theorem dX13_framed_38 : decode cX13_framed 38 = .ok (.invokevirtual 864, 3) := by decide +kernel
theorem dX13_framed_41 : decode cX13_framed 41 = .ok (.invokevirtual 952, 3) := by decide +kernel
theorem dX13_framed_44 : decode cX13_framed 44 = .ok (.ireturn, 1) := by decide +kernel
theorem dX13_localsFit_0 : decode cX13_localsFit 0 = .ok (.iload_n 1, 1) := by decide +kernel
theorem dX13_localsFit_1 : decode cX13_localsFit 1 = .ok (.iconst 2, 1) := by decide +kernel
theorem dX13_localsFit_2 : decode cX13_localsFit 2 = .ok (.iadd, 1) := by decide +kernel
theorem dX13_localsFit_3 : decode cX13_localsFit 3 = .ok (.istore_n 2, 1) := by decide +kernel
theorem dX13_localsFit_4 : decode cX13_localsFit 4 = .ok (.aload_n 0, 1) := by decide +kernel
theorem dX13_localsFit_5 : decode cX13_localsFit 5 = .ok (.aload_n 0, 1) := by decide +kernel
theorem dX13_localsFit_6 : decode cX13_localsFit 6 = .ok (.getfield 932, 3) := by decide +kernel
theorem dX13_localsFit_9 : decode cX13_localsFit 9 = .ok (.iload_n 2, 1) := by decide +kernel
theorem dX13_localsFit_10 : decode cX13_localsFit 10 = .ok (.invokevirtual 864, 3) := by decide +kernel
theorem dX13_localsFit_13 : decode cX13_localsFit 13 = .ok (.istore_n 3, 1) := by decide +kernel
theorem dX13_localsFit_14 : decode cX13_localsFit 14 = .ok (.iinc 2 1, 3) := by decide +kernel
theorem dX13_localsFit_17 : decode cX13_localsFit 17 = .ok (.iconst 0, 1) := by decide +kernel
theorem dX13_localsFit_18 : decode cX13_localsFit 18 = .ok (.istore 4, 2) := by decide +kernel
theorem dX13_localsFit_20 : decode cX13_localsFit 20 = .ok (.iload 4, 2) := by decide +kernel
theorem dX13_localsFit_22 : decode cX13_localsFit 22 = .ok (.iload_n 3, 1) := by decide +kernel
theorem dX13_localsFit_23 : decode cX13_localsFit 23 = .ok (.if_icmp .ge 51, 3) := by decide +kernel
theorem dX13_localsFit_26 : decode cX13_localsFit 26 = .ok (.aload_n 0, 1) := by decide +kernel
theorem dX13_localsFit_27 : decode cX13_localsFit 27 = .ok (.aload_n 0, 1) := by decide +kernel
theorem dX13_localsFit_28 : decode cX13_localsFit 28 = .ok (.getfield 270, 3) := by decide +kernel
theorem dX13_localsFit_31 : decode cX13_localsFit 31 = .ok (.iload 4, 2) := by decide +kernel
theorem dX13_localsFit_33 : decode cX13_localsFit 33 = .ok (.iaload, 1) := by decide +kernel
theorem dX13_localsFit_34 : decode cX13_localsFit 34 = .ok (.aload_n 0, 1) := by decide +kernel
theorem dX13_localsFit_35 : decode cX13_localsFit 35 = .ok (.iload_n 2, 1) := by decide +kernel
theorem dX13_localsFit_36 : decode cX13_localsFit 36 = .ok (.invokevirtual 955, 3) := by decide +kernel
theorem dX13_localsFit_39 : decode cX13_localsFit 39 = .ok (.invokevirtual 958, 3) := by decide +kernel
theorem dX13_localsFit_42 : decode cX13_localsFit 42 = .ok (.ifCond .ne 5, 3) := by decide +kernel
theorem dX13_localsFit_45 : decode cX13_localsFit 45 = .ok (.iconst 0, 1) := by decide +kernel
theorem dX13_localsFit_46 : decode cX13_localsFit 46 = .ok (.ireturn, 1) := by decide +kernel
theorem dX13_localsFit_47 : decode cX13_localsFit 47 = .ok (.iload_n 2, 1) := by decide +kernel
theorem dX13_localsFit_48 : decode cX13_localsFit 48 = .ok (.aload_n 0, 1) := by decide +kernel
theorem dX13_localsFit_49 : decode cX13_localsFit 49 = .ok (.aload_n 0, 1) := by decide +kernel
theorem dX13_localsFit_50 : decode cX13_localsFit 50 = .ok (.getfield 932, 3) := by decide +kernel
theorem dX13_localsFit_53 : decode cX13_localsFit 53 = .ok (.iload_n 2, 1) := by decide +kernel
theorem dX13_localsFit_54 : decode cX13_localsFit 54 = .ok (.invokevirtual 864, 3) := by decide +kernel
theorem dX13_localsFit_57 : decode cX13_localsFit 57 = .ok (.iconst 3, 1) := by decide +kernel
theorem dX13_localsFit_58 : decode cX13_localsFit 58 = .ok (.if_icmp .ne 7, 3) := by decide +kernel
theorem dX13_localsFit_61 : decode cX13_localsFit 61 = .ok (.iconst 2, 1) := by decide +kernel
theorem dX13_localsFit_62 : decode cX13_localsFit 62 = .ok (.goto 4, 3) := by decide +kernel
theorem dX13_localsFit_65 : decode cX13_localsFit 65 = .ok (.iconst 1, 1) := by decide +kernel
theorem dX13_localsFit_66 : decode cX13_localsFit 66 = .ok (.iadd, 1) := by decide +kernel
theorem dX13_localsFit_67 : decode cX13_localsFit 67 = .ok (.istore_n 2, 1) := by decide +kernel
theorem dX13_localsFit_68 : decode cX13_localsFit 68 = .ok (.iinc 4 1, 3) := by decide +kernel
theorem dX13_localsFit_71 : decode cX13_localsFit 71 = .ok (.goto (-51), 3) := by decide +kernel
theorem dX13_localsFit_74 : decode cX13_localsFit 74 = .ok (.iconst 1, 1) := by decide +kernel
theorem dX13_localsFit_75 : decode cX13_localsFit 75 = .ok (.ireturn, 1) := by decide +kernel
theorem dX13_stackFits_0 : decode cX13_stackFits 0 = .ok (.aload_n 0, 1) := by decide +kernel
theorem dX13_stackFits_1 : decode cX13_stackFits 1 = .ok (.iload_n 1, 1) := by decide +kernel
theorem dX13_stackFits_2 : decode cX13_stackFits 2 = .ok (.iconst 2, 1) := by decide +kernel
theorem dX13_stackFits_3 : decode cX13_stackFits 3 = .ok (.iadd, 1) := by decide +kernel
theorem dX13_stackFits_4 : decode cX13_stackFits 4 = .ok (.invokevirtual 943, 3) := by decide +kernel
theorem dX13_stackFits_7 : decode cX13_stackFits 7 = .ok (.istore_n 2, 1) := by decide +kernel
theorem dX13_stackFits_8 : decode cX13_stackFits 8 = .ok (.aload_n 0, 1) := by decide +kernel
theorem dX13_stackFits_9 : decode cX13_stackFits 9 = .ok (.aload_n 0, 1) := by decide +kernel
theorem dX13_stackFits_10 : decode cX13_stackFits 10 = .ok (.getfield 932, 3) := by decide +kernel
theorem dX13_stackFits_13 : decode cX13_stackFits 13 = .ok (.iload_n 2, 1) := by decide +kernel
theorem dX13_stackFits_14 : decode cX13_stackFits 14 = .ok (.invokevirtual 864, 3) := by decide +kernel
theorem dX13_stackFits_17 : decode cX13_stackFits 17 = .ok (.istore_n 3, 1) := by decide +kernel
theorem dX13_stackFits_18 : decode cX13_stackFits 18 = .ok (.iinc 2 1, 3) := by decide +kernel
theorem dX13_stackFits_21 : decode cX13_stackFits 21 = .ok (.iload_n 3, 1) := by decide +kernel
theorem dX13_stackFits_22 : decode cX13_stackFits 22 = .ok (.aload_n 0, 1) := by decide +kernel
theorem dX13_stackFits_23 : decode cX13_stackFits 23 = .ok (.getfield 961, 3) := by decide +kernel
theorem dX13_stackFits_26 : decode cX13_stackFits 26 = .ok (.if_icmp .eq 5, 3) := by decide +kernel
theorem dX13_stackFits_29 : decode cX13_stackFits 29 = .ok (.iconst 0, 1) := by decide +kernel
theorem dX13_stackFits_30 : decode cX13_stackFits 30 = .ok (.ireturn, 1) := by decide +kernel
theorem dX13_stackFits_31 : decode cX13_stackFits 31 = .ok (.iconst 0, 1) := by decide +kernel
theorem dX13_stackFits_32 : decode cX13_stackFits 32 = .ok (.istore 4, 2) := by decide +kernel
theorem dX13_stackFits_34 : decode cX13_stackFits 34 = .ok (.iload 4, 2) := by decide +kernel
theorem dX13_stackFits_36 : decode cX13_stackFits 36 = .ok (.iload_n 3, 1) := by decide +kernel
theorem dX13_stackFits_37 : decode cX13_stackFits 37 = .ok (.if_icmp .ge 51, 3) := by decide +kernel
theorem dX13_stackFits_40 : decode cX13_stackFits 40 = .ok (.aload_n 0, 1) := by decide +kernel
theorem dX13_stackFits_41 : decode cX13_stackFits 41 = .ok (.aload_n 0, 1) := by decide +kernel
theorem dX13_stackFits_42 : decode cX13_stackFits 42 = .ok (.getfield 273, 3) := by decide +kernel
theorem dX13_stackFits_45 : decode cX13_stackFits 45 = .ok (.iload 4, 2) := by decide +kernel
theorem dX13_stackFits_47 : decode cX13_stackFits 47 = .ok (.iaload, 1) := by decide +kernel
theorem dX13_stackFits_48 : decode cX13_stackFits 48 = .ok (.aload_n 0, 1) := by decide +kernel
theorem dX13_stackFits_49 : decode cX13_stackFits 49 = .ok (.iload_n 2, 1) := by decide +kernel
theorem dX13_stackFits_50 : decode cX13_stackFits 50 = .ok (.invokevirtual 955, 3) := by decide +kernel
theorem dX13_stackFits_53 : decode cX13_stackFits 53 = .ok (.invokevirtual 958, 3) := by decide +kernel
theorem dX13_stackFits_56 : decode cX13_stackFits 56 = .ok (.ifCond .ne 5, 3) := by decide +kernel
theorem dX13_stackFits_59 : decode cX13_stackFits 59 = .ok (.iconst 0, 1) := by decide +kernel
theorem dX13_stackFits_60 : decode cX13_stackFits 60 = .ok (.ireturn, 1) := by decide +kernel
theorem dX13_stackFits_61 : decode cX13_stackFits 61 = .ok (.iload_n 2, 1) := by decide +kernel
theorem dX13_stackFits_62 : decode cX13_stackFits 62 = .ok (.aload_n 0, 1) := by decide +kernel
theorem dX13_stackFits_63 : decode cX13_stackFits 63 = .ok (.aload_n 0, 1) := by decide +kernel
theorem dX13_stackFits_64 : decode cX13_stackFits 64 = .ok (.getfield 932, 3) := by decide +kernel
theorem dX13_stackFits_67 : decode cX13_stackFits 67 = .ok (.iload_n 2, 1) := by decide +kernel
theorem dX13_stackFits_68 : decode cX13_stackFits 68 = .ok (.invokevirtual 864, 3) := by decide +kernel
theorem dX13_stackFits_71 : decode cX13_stackFits 71 = .ok (.iconst 3, 1) := by decide +kernel
theorem dX13_stackFits_72 : decode cX13_stackFits 72 = .ok (.if_icmp .ne 7, 3) := by decide +kernel
theorem dX13_stackFits_75 : decode cX13_stackFits 75 = .ok (.iconst 2, 1) := by decide +kernel
theorem dX13_stackFits_76 : decode cX13_stackFits 76 = .ok (.goto 4, 3) := by decide +kernel
theorem dX13_stackFits_79 : decode cX13_stackFits 79 = .ok (.iconst 1, 1) := by decide +kernel
theorem dX13_stackFits_80 : decode cX13_stackFits 80 = .ok (.iadd, 1) := by decide +kernel
theorem dX13_stackFits_81 : decode cX13_stackFits 81 = .ok (.istore_n 2, 1) := by decide +kernel
theorem dX13_stackFits_82 : decode cX13_stackFits 82 = .ok (.iinc 4 1, 3) := by decide +kernel
theorem dX13_stackFits_85 : decode cX13_stackFits 85 = .ok (.goto (-51), 3) := by decide +kernel
theorem dX13_stackFits_88 : decode cX13_stackFits 88 = .ok (.iconst 1, 1) := by decide +kernel
theorem dX13_stackFits_89 : decode cX13_stackFits 89 = .ok (.ireturn, 1) := by decide +kernel
theorem dX13_becomes_0 : decode cX13_becomes 0 = .ok (.iload_n 1, 1) := by decide +kernel
theorem dX13_becomes_1 : decode cX13_becomes 1 = .ok (.iconst 2, 1) := by decide +kernel
theorem dX13_becomes_2 : decode cX13_becomes 2 = .ok (.iadd, 1) := by decide +kernel
theorem dX13_becomes_3 : decode cX13_becomes 3 = .ok (.istore_n 2, 1) := by decide +kernel
theorem dX13_becomes_4 : decode cX13_becomes 4 = .ok (.aload_n 0, 1) := by decide +kernel
theorem dX13_becomes_5 : decode cX13_becomes 5 = .ok (.aload_n 0, 1) := by decide +kernel
theorem dX13_becomes_6 : decode cX13_becomes 6 = .ok (.getfield 932, 3) := by decide +kernel
theorem dX13_becomes_9 : decode cX13_becomes 9 = .ok (.iload_n 2, 1) := by decide +kernel
theorem dX13_becomes_10 : decode cX13_becomes 10 = .ok (.invokevirtual 864, 3) := by decide +kernel
theorem dX13_becomes_13 : decode cX13_becomes 13 = .ok (.istore_n 3, 1) := by decide +kernel
theorem dX13_becomes_14 : decode cX13_becomes 14 = .ok (.iinc 2 1, 3) := by decide +kernel
theorem dX13_becomes_17 : decode cX13_becomes 17 = .ok (.iconst 0, 1) := by decide +kernel
theorem dX13_becomes_18 : decode cX13_becomes 18 = .ok (.istore 4, 2) := by decide +kernel
theorem dX13_becomes_20 : decode cX13_becomes 20 = .ok (.iload 4, 2) := by decide +kernel
theorem dX13_becomes_22 : decode cX13_becomes 22 = .ok (.aload_n 0, 1) := by decide +kernel
theorem dX13_becomes_23 : decode cX13_becomes 23 = .ok (.getfield 964, 3) := by decide +kernel
theorem dX13_becomes_26 : decode cX13_becomes 26 = .ok (.if_icmp .ge 59, 3) := by decide +kernel
theorem dX13_becomes_29 : decode cX13_becomes 29 = .ok (.aload_n 0, 1) := by decide +kernel
theorem dX13_becomes_30 : decode cX13_becomes 30 = .ok (.getfield 270, 3) := by decide +kernel
theorem dX13_becomes_33 : decode cX13_becomes 33 = .ok (.iload 4, 2) := by decide +kernel
theorem dX13_becomes_35 : decode cX13_becomes 35 = .ok (.iconst 0, 1) := by decide +kernel
theorem dX13_becomes_36 : decode cX13_becomes 36 = .ok (.iastore, 1) := by decide +kernel
theorem dX13_becomes_37 : decode cX13_becomes 37 = .ok (.iload 4, 2) := by decide +kernel
theorem dX13_becomes_39 : decode cX13_becomes 39 = .ok (.iload_n 3, 1) := by decide +kernel
theorem dX13_becomes_40 : decode cX13_becomes 40 = .ok (.if_icmp .lt 6, 3) := by decide +kernel
theorem dX13_becomes_43 : decode cX13_becomes 43 = .ok (.goto 36, 3) := by decide +kernel
theorem dX13_becomes_46 : decode cX13_becomes 46 = .ok (.aload_n 0, 1) := by decide +kernel
theorem dX13_becomes_47 : decode cX13_becomes 47 = .ok (.getfield 270, 3) := by decide +kernel
theorem dX13_becomes_50 : decode cX13_becomes 50 = .ok (.iload 4, 2) := by decide +kernel
theorem dX13_becomes_52 : decode cX13_becomes 52 = .ok (.aload_n 0, 1) := by decide +kernel
theorem dX13_becomes_53 : decode cX13_becomes 53 = .ok (.iload_n 2, 1) := by decide +kernel
theorem dX13_becomes_54 : decode cX13_becomes 54 = .ok (.invokevirtual 955, 3) := by decide +kernel
theorem dX13_becomes_57 : decode cX13_becomes 57 = .ok (.iastore, 1) := by decide +kernel
theorem dX13_becomes_58 : decode cX13_becomes 58 = .ok (.iload_n 2, 1) := by decide +kernel
theorem dX13_becomes_59 : decode cX13_becomes 59 = .ok (.aload_n 0, 1) := by decide +kernel
theorem dX13_becomes_60 : decode cX13_becomes 60 = .ok (.aload_n 0, 1) := by decide +kernel
theorem dX13_becomes_61 : decode cX13_becomes 61 = .ok (.getfield 932, 3) := by decide +kernel
theorem dX13_becomes_64 : decode cX13_becomes 64 = .ok (.iload_n 2, 1) := by decide +kernel
theorem dX13_becomes_65 : decode cX13_becomes 65 = .ok (.invokevirtual 864, 3) := by decide +kernel
theorem dX13_becomes_68 : decode cX13_becomes 68 = .ok (.iconst 3, 1) := by decide +kernel
theorem dX13_becomes_69 : decode cX13_becomes 69 = .ok (.if_icmp .ne 7, 3) := by decide +kernel
theorem dX13_becomes_72 : decode cX13_becomes 72 = .ok (.iconst 2, 1) := by decide +kernel
theorem dX13_becomes_73 : decode cX13_becomes 73 = .ok (.goto 4, 3) := by decide +kernel
theorem dX13_becomes_76 : decode cX13_becomes 76 = .ok (.iconst 1, 1) := by decide +kernel
theorem dX13_becomes_77 : decode cX13_becomes 77 = .ok (.iadd, 1) := by decide +kernel
theorem dX13_becomes_78 : decode cX13_becomes 78 = .ok (.istore_n 2, 1) := by decide +kernel
theorem dX13_becomes_79 : decode cX13_becomes 79 = .ok (.iinc 4 1, 3) := by decide +kernel
theorem dX13_becomes_82 : decode cX13_becomes 82 = .ok (.goto (-62), 3) := by decide +kernel
theorem dX13_becomes_85 : decode cX13_becomes 85 = .ok (.aload_n 0, 1) := by decide +kernel
theorem dX13_becomes_86 : decode cX13_becomes 86 = .ok (.iload_n 1, 1) := by decide +kernel
theorem dX13_becomes_87 : decode cX13_becomes 87 = .ok (.iconst 2, 1) := by decide +kernel
theorem dX13_becomes_88 : decode cX13_becomes 88 = .ok (.iadd, 1) := by decide +kernel
theorem dX13_becomes_89 : decode cX13_becomes 89 = .ok (.invokevirtual 943, 3) := by decide +kernel
theorem dX13_becomes_92 : decode cX13_becomes 92 = .ok (.istore_n 2, 1) := by decide +kernel
theorem dX13_becomes_93 : decode cX13_becomes 93 = .ok (.aload_n 0, 1) := by decide +kernel
theorem dX13_becomes_94 : decode cX13_becomes 94 = .ok (.aload_n 0, 1) := by decide +kernel
theorem dX13_becomes_95 : decode cX13_becomes 95 = .ok (.getfield 932, 3) := by decide +kernel
theorem dX13_becomes_98 : decode cX13_becomes 98 = .ok (.iload_n 2, 1) := by decide +kernel
theorem dX13_becomes_99 : decode cX13_becomes 99 = .ok (.invokevirtual 864, 3) := by decide +kernel
theorem dX13_becomes_102 : decode cX13_becomes 102 = .ok (.istore_n 3, 1) := by decide +kernel
theorem dX13_becomes_103 : decode cX13_becomes 103 = .ok (.iinc 2 1, 3) := by decide +kernel
theorem dX13_becomes_106 : decode cX13_becomes 106 = .ok (.aload_n 0, 1) := by decide +kernel
theorem dX13_becomes_107 : decode cX13_becomes 107 = .ok (.iload_n 3, 1) := by decide +kernel
theorem dX13_becomes_108 : decode cX13_becomes 108 = .ok (.putfield 961, 3) := by decide +kernel
theorem dX13_becomes_111 : decode cX13_becomes 111 = .ok (.iconst 0, 1) := by decide +kernel
theorem dX13_becomes_112 : decode cX13_becomes 112 = .ok (.istore 4, 2) := by decide +kernel
theorem dX13_becomes_114 : decode cX13_becomes 114 = .ok (.iload 4, 2) := by decide +kernel
theorem dX13_becomes_116 : decode cX13_becomes 116 = .ok (.iload_n 3, 1) := by decide +kernel
theorem dX13_becomes_117 : decode cX13_becomes 117 = .ok (.if_icmp .ge 42, 3) := by decide +kernel
theorem dX13_becomes_120 : decode cX13_becomes 120 = .ok (.aload_n 0, 1) := by decide +kernel
theorem dX13_becomes_121 : decode cX13_becomes 121 = .ok (.getfield 273, 3) := by decide +kernel
theorem dX13_becomes_124 : decode cX13_becomes 124 = .ok (.iload 4, 2) := by decide +kernel
theorem dX13_becomes_126 : decode cX13_becomes 126 = .ok (.aload_n 0, 1) := by decide +kernel
theorem dX13_becomes_127 : decode cX13_becomes 127 = .ok (.iload_n 2, 1) := by decide +kernel
theorem dX13_becomes_128 : decode cX13_becomes 128 = .ok (.invokevirtual 955, 3) := by decide +kernel
theorem dX13_becomes_131 : decode cX13_becomes 131 = .ok (.iastore, 1) := by decide +kernel
theorem dX13_becomes_132 : decode cX13_becomes 132 = .ok (.iload_n 2, 1) := by decide +kernel
theorem dX13_becomes_133 : decode cX13_becomes 133 = .ok (.aload_n 0, 1) := by decide +kernel
theorem dX13_becomes_134 : decode cX13_becomes 134 = .ok (.aload_n 0, 1) := by decide +kernel
theorem dX13_becomes_135 : decode cX13_becomes 135 = .ok (.getfield 932, 3) := by decide +kernel
theorem dX13_becomes_138 : decode cX13_becomes 138 = .ok (.iload_n 2, 1) := by decide +kernel
theorem dX13_becomes_139 : decode cX13_becomes 139 = .ok (.invokevirtual 864, 3) := by decide +kernel
theorem dX13_becomes_142 : decode cX13_becomes 142 = .ok (.iconst 3, 1) := by decide +kernel
theorem dX13_becomes_143 : decode cX13_becomes 143 = .ok (.if_icmp .ne 7, 3) := by decide +kernel
theorem dX13_becomes_146 : decode cX13_becomes 146 = .ok (.iconst 2, 1) := by decide +kernel
theorem dX13_becomes_147 : decode cX13_becomes 147 = .ok (.goto 4, 3) := by decide +kernel
theorem dX13_becomes_150 : decode cX13_becomes 150 = .ok (.iconst 1, 1) := by decide +kernel
theorem dX13_becomes_151 : decode cX13_becomes 151 = .ok (.iadd, 1) := by decide +kernel
theorem dX13_becomes_152 : decode cX13_becomes 152 = .ok (.istore_n 2, 1) := by decide +kernel
theorem dX13_becomes_153 : decode cX13_becomes 153 = .ok (.iinc 4 1, 3) := by decide +kernel
theorem dX13_becomes_156 : decode cX13_becomes 156 = .ok (.goto (-42), 3) := by decide +kernel
theorem dX13_becomes_159 : decode cX13_becomes 159 = .ok (.return_, 1) := by decide +kernel
theorem dX13_methodFits_0 : decode cX13_methodFits 0 = .ok (.aload_n 0, 1) := by decide +kernel
theorem dX13_methodFits_1 : decode cX13_methodFits 1 = .ok (.iload_n 1, 1) := by decide +kernel
theorem dX13_methodFits_2 : decode cX13_methodFits 2 = .ok (.iload_n 2, 1) := by decide +kernel
theorem dX13_methodFits_3 : decode cX13_methodFits 3 = .ok (.invokevirtual 973, 3) := by decide +kernel
theorem dX13_methodFits_6 : decode cX13_methodFits 6 = .ok (.iconst 0, 1) := by decide +kernel
theorem dX13_methodFits_7 : decode cX13_methodFits 7 = .ok (.istore_n 3, 1) := by decide +kernel
theorem dX13_methodFits_8 : decode cX13_methodFits 8 = .ok (.iload_n 3, 1) := by decide +kernel
theorem dX13_methodFits_9 : decode cX13_methodFits 9 = .ok (.sipush 1500, 3) := by decide +kernel
theorem dX13_methodFits_12 : decode cX13_methodFits 12 = .ok (.if_icmp .gt 16, 3) := by decide +kernel
theorem dX13_methodFits_15 : decode cX13_methodFits 15 = .ok (.aload_n 0, 1) := by decide +kernel
theorem dX13_methodFits_16 : decode cX13_methodFits 16 = .ok (.getfield 267, 3) := by decide +kernel
theorem dX13_methodFits_19 : decode cX13_methodFits 19 = .ok (.iload_n 3, 1) := by decide +kernel
theorem dX13_methodFits_20 : decode cX13_methodFits 20 = .ok (.iconst 0, 1) := by decide +kernel
theorem dX13_methodFits_21 : decode cX13_methodFits 21 = .ok (.bastore, 1) := by decide +kernel
theorem dX13_methodFits_22 : decode cX13_methodFits 22 = .ok (.iinc 3 1, 3) := by decide +kernel
theorem dX13_methodFits_25 : decode cX13_methodFits 25 = .ok (.goto (-17), 3) := by decide +kernel
theorem dX13_methodFits_28 : decode cX13_methodFits 28 = .ok (.iconst 0, 1) := by decide +kernel
theorem dX13_methodFits_29 : decode cX13_methodFits 29 = .ok (.istore_n 3, 1) := by decide +kernel
theorem dX13_methodFits_30 : decode cX13_methodFits 30 = .ok (.iload_n 3, 1) := by decide +kernel
theorem dX13_methodFits_31 : decode cX13_methodFits 31 = .ok (.aload_n 0, 1) := by decide +kernel
theorem dX13_methodFits_32 : decode cX13_methodFits 32 = .ok (.getfield 970, 3) := by decide +kernel
theorem dX13_methodFits_35 : decode cX13_methodFits 35 = .ok (.if_icmp .ge 60, 3) := by decide +kernel
theorem dX13_methodFits_38 : decode cX13_methodFits 38 = .ok (.aload_n 0, 1) := by decide +kernel
theorem dX13_methodFits_39 : decode cX13_methodFits 39 = .ok (.iload_n 3, 1) := by decide +kernel
theorem dX13_methodFits_40 : decode cX13_methodFits 40 = .ok (.invokevirtual 938, 3) := by decide +kernel
theorem dX13_methodFits_43 : decode cX13_methodFits 43 = .ok (.invokestatic 975, 3) := by decide +kernel
theorem dX13_methodFits_46 : decode cX13_methodFits 46 = .ok (.istore 4, 2) := by decide +kernel
theorem dX13_methodFits_48 : decode cX13_methodFits 48 = .ok (.iload 4, 2) := by decide +kernel
theorem dX13_methodFits_50 : decode cX13_methodFits 50 = .ok (.ifCond .eq 14, 3) := by decide +kernel
theorem dX13_methodFits_53 : decode cX13_methodFits 53 = .ok (.iload_n 3, 1) := by decide +kernel
theorem dX13_methodFits_54 : decode cX13_methodFits 54 = .ok (.iload 4, 2) := by decide +kernel
theorem dX13_methodFits_56 : decode cX13_methodFits 56 = .ok (.iadd, 1) := by decide +kernel
theorem dX13_methodFits_57 : decode cX13_methodFits 57 = .ok (.aload_n 0, 1) := by decide +kernel
theorem dX13_methodFits_58 : decode cX13_methodFits 58 = .ok (.getfield 970, 3) := by decide +kernel
theorem dX13_methodFits_61 : decode cX13_methodFits 61 = .ok (.if_icmp .le 13, 3) := by decide +kernel
theorem dX13_methodFits_64 : decode cX13_methodFits 64 = .ok (.aload_n 0, 1) := by decide +kernel
theorem dX13_methodFits_65 : decode cX13_methodFits 65 = .ok (.bipush 6, 2) := by decide +kernel
theorem dX13_methodFits_67 : decode cX13_methodFits 67 = .ok (.iload_n 1, 1) := by decide +kernel
theorem dX13_methodFits_68 : decode cX13_methodFits 68 = .ok (.iload_n 2, 1) := by decide +kernel
theorem dX13_methodFits_69 : decode cX13_methodFits 69 = .ok (.iload_n 3, 1) := by decide +kernel
theorem dX13_methodFits_70 : decode cX13_methodFits 70 = .ok (.invokevirtual 922, 3) := by decide +kernel
theorem dX13_methodFits_73 : decode cX13_methodFits 73 = .ok (.ireturn, 1) := by decide +kernel
theorem dX13_methodFits_74 : decode cX13_methodFits 74 = .ok (.aload_n 0, 1) := by decide +kernel
theorem dX13_methodFits_75 : decode cX13_methodFits 75 = .ok (.getfield 267, 3) := by decide +kernel
theorem dX13_methodFits_78 : decode cX13_methodFits 78 = .ok (.iload_n 3, 1) := by decide +kernel
theorem dX13_methodFits_79 : decode cX13_methodFits 79 = .ok (.iconst 1, 1) := by decide +kernel
theorem dX13_methodFits_80 : decode cX13_methodFits 80 = .ok (.bastore, 1) := by decide +kernel
theorem dX13_methodFits_81 : decode cX13_methodFits 81 = .ok (.iload_n 3, 1) := by decide +kernel
theorem dX13_methodFits_82 : decode cX13_methodFits 82 = .ok (.aload_n 0, 1) := by decide +kernel
theorem dX13_methodFits_83 : decode cX13_methodFits 83 = .ok (.iload_n 3, 1) := by decide +kernel
theorem dX13_methodFits_84 : decode cX13_methodFits 84 = .ok (.invokevirtual 938, 3) := by decide +kernel
theorem dX13_methodFits_87 : decode cX13_methodFits 87 = .ok (.invokestatic 975, 3) := by decide +kernel
theorem dX13_methodFits_90 : decode cX13_methodFits 90 = .ok (.iadd, 1) := by decide +kernel
theorem dX13_methodFits_91 : decode cX13_methodFits 91 = .ok (.istore_n 3, 1) := by decide +kernel
theorem dX13_methodFits_92 : decode cX13_methodFits 92 = .ok (.goto (-62), 3) := by decide +kernel
theorem dX13_methodFits_95 : decode cX13_methodFits 95 = .ok (.iconst 0, 1) := by decide +kernel
theorem dX13_methodFits_96 : decode cX13_methodFits 96 = .ok (.istore_n 3, 1) := by decide +kernel
theorem dX13_methodFits_97 : decode cX13_methodFits 97 = .ok (.iload_n 3, 1) := by decide +kernel
theorem dX13_methodFits_98 : decode cX13_methodFits 98 = .ok (.aload_n 0, 1) := by decide +kernel
theorem dX13_methodFits_99 : decode cX13_methodFits 99 = .ok (.getfield 970, 3) := by decide +kernel
theorem dX13_methodFits_102 : decode cX13_methodFits 102 = .ok (.if_icmp .ge 72, 3) := by decide +kernel
theorem dX13_methodFits_105 : decode cX13_methodFits 105 = .ok (.aload_n 0, 1) := by decide +kernel
theorem dX13_methodFits_106 : decode cX13_methodFits 106 = .ok (.iload_n 3, 1) := by decide +kernel
theorem dX13_methodFits_107 : decode cX13_methodFits 107 = .ok (.invokevirtual 938, 3) := by decide +kernel
theorem dX13_methodFits_110 : decode cX13_methodFits 110 = .ok (.invokestatic 978, 3) := by decide +kernel
theorem dX13_methodFits_113 : decode cX13_methodFits 113 = .ok (.ifCond .ne 6, 3) := by decide +kernel
theorem dX13_methodFits_116 : decode cX13_methodFits 116 = .ok (.goto 44, 3) := by decide +kernel
theorem dX13_methodFits_119 : decode cX13_methodFits 119 = .ok (.aload_n 0, 1) := by decide +kernel
theorem dX13_methodFits_120 : decode cX13_methodFits 120 = .ok (.iload_n 3, 1) := by decide +kernel
theorem dX13_methodFits_121 : decode cX13_methodFits 121 = .ok (.invokevirtual 981, 3) := by decide +kernel
theorem dX13_methodFits_124 : decode cX13_methodFits 124 = .ok (.istore 4, 2) := by decide +kernel
theorem dX13_methodFits_126 : decode cX13_methodFits 126 = .ok (.iload 4, 2) := by decide +kernel
theorem dX13_methodFits_128 : decode cX13_methodFits 128 = .ok (.ifCond .lt 22, 3) := by decide +kernel
theorem dX13_methodFits_131 : decode cX13_methodFits 131 = .ok (.iload 4, 2) := by decide +kernel
theorem dX13_methodFits_133 : decode cX13_methodFits 133 = .ok (.aload_n 0, 1) := by decide +kernel
theorem dX13_methodFits_134 : decode cX13_methodFits 134 = .ok (.getfield 970, 3) := by decide +kernel
theorem dX13_methodFits_137 : decode cX13_methodFits 137 = .ok (.if_icmp .ge 13, 3) := by decide +kernel
theorem dX13_methodFits_140 : decode cX13_methodFits 140 = .ok (.aload_n 0, 1) := by decide +kernel
theorem dX13_methodFits_141 : decode cX13_methodFits 141 = .ok (.getfield 267, 3) := by decide +kernel
theorem dX13_methodFits_144 : decode cX13_methodFits 144 = .ok (.iload 4, 2) := by decide +kernel
theorem dX13_methodFits_146 : decode cX13_methodFits 146 = .ok (.baload, 1) := by decide +kernel
theorem dX13_methodFits_147 : decode cX13_methodFits 147 = .ok (.ifCond .ne 13, 3) := by decide +kernel
theorem dX13_methodFits_150 : decode cX13_methodFits 150 = .ok (.aload_n 0, 1) := by decide +kernel
theorem dX13_methodFits_151 : decode cX13_methodFits 151 = .ok (.bipush 7, 2) := by decide +kernel
theorem dX13_methodFits_153 : decode cX13_methodFits 153 = .ok (.iload_n 1, 1) := by decide +kernel
theorem dX13_methodFits_154 : decode cX13_methodFits 154 = .ok (.iload_n 2, 1) := by decide +kernel
theorem dX13_methodFits_155 : decode cX13_methodFits 155 = .ok (.iload_n 3, 1) := by decide +kernel
theorem dX13_methodFits_156 : decode cX13_methodFits 156 = .ok (.invokevirtual 922, 3) := by decide +kernel
theorem dX13_methodFits_159 : decode cX13_methodFits 159 = .ok (.ireturn, 1) := by decide +kernel
theorem dX13_methodFits_160 : decode cX13_methodFits 160 = .ok (.iload_n 3, 1) := by decide +kernel
theorem dX13_methodFits_161 : decode cX13_methodFits 161 = .ok (.aload_n 0, 1) := by decide +kernel
theorem dX13_methodFits_162 : decode cX13_methodFits 162 = .ok (.iload_n 3, 1) := by decide +kernel
theorem dX13_methodFits_163 : decode cX13_methodFits 163 = .ok (.invokevirtual 938, 3) := by decide +kernel
theorem dX13_methodFits_166 : decode cX13_methodFits 166 = .ok (.invokestatic 975, 3) := by decide +kernel
theorem dX13_methodFits_169 : decode cX13_methodFits 169 = .ok (.iadd, 1) := by decide +kernel
theorem dX13_methodFits_170 : decode cX13_methodFits 170 = .ok (.istore_n 3, 1) := by decide +kernel
theorem dX13_methodFits_171 : decode cX13_methodFits 171 = .ok (.goto (-74), 3) := by decide +kernel
theorem dX13_methodFits_174 : decode cX13_methodFits 174 = .ok (.aload_n 0, 1) := by decide +kernel
theorem dX13_methodFits_175 : decode cX13_methodFits 175 = .ok (.getfield 239, 3) := by decide +kernel
theorem dX13_methodFits_178 : decode cX13_methodFits 178 = .ok (.bipush 12, 2) := by decide +kernel
theorem dX13_methodFits_180 : decode cX13_methodFits 180 = .ok (.aload_n 0, 1) := by decide +kernel
theorem dX13_methodFits_181 : decode cX13_methodFits 181 = .ok (.getfield 932, 3) := by decide +kernel
theorem dX13_methodFits_184 : decode cX13_methodFits 184 = .ok (.imul, 1) := by decide +kernel
theorem dX13_methodFits_185 : decode cX13_methodFits 185 = .ok (.iload_n 2, 1) := by decide +kernel
theorem dX13_methodFits_186 : decode cX13_methodFits 186 = .ok (.iadd, 1) := by decide +kernel
theorem dX13_methodFits_187 : decode cX13_methodFits 187 = .ok (.iaload, 1) := by decide +kernel
theorem dX13_methodFits_188 : decode cX13_methodFits 188 = .ok (.istore_n 3, 1) := by decide +kernel
theorem dX13_methodFits_189 : decode cX13_methodFits 189 = .ok (.iconst 0, 1) := by decide +kernel
theorem dX13_methodFits_190 : decode cX13_methodFits 190 = .ok (.istore 4, 2) := by decide +kernel
theorem dX13_methodFits_192 : decode cX13_methodFits 192 = .ok (.iload 4, 2) := by decide +kernel
theorem dX13_methodFits_194 : decode cX13_methodFits 194 = .ok (.aload_n 0, 1) := by decide +kernel
theorem dX13_methodFits_195 : decode cX13_methodFits 195 = .ok (.aload_n 0, 1) := by decide +kernel
theorem dX13_methodFits_196 : decode cX13_methodFits 196 = .ok (.getfield 932, 3) := by decide +kernel
theorem dX13_methodFits_199 : decode cX13_methodFits 199 = .ok (.iload_n 3, 1) := by decide +kernel
theorem dX13_methodFits_200 : decode cX13_methodFits 200 = .ok (.invokevirtual 864, 3) := by decide +kernel
theorem dX13_methodFits_203 : decode cX13_methodFits 203 = .ok (.if_icmp .ge 36, 3) := by decide +kernel
theorem dX13_methodFits_206 : decode cX13_methodFits 206 = .ok (.aload_n 0, 1) := by decide +kernel
theorem dX13_methodFits_207 : decode cX13_methodFits 207 = .ok (.iload_n 3, 1) := by decide +kernel
theorem dX13_methodFits_208 : decode cX13_methodFits 208 = .ok (.iconst 1, 1) := by decide +kernel
theorem dX13_methodFits_209 : decode cX13_methodFits 209 = .ok (.iadd, 1) := by decide +kernel
theorem dX13_methodFits_210 : decode cX13_methodFits 210 = .ok (.bipush 7, 2) := by decide +kernel
theorem dX13_methodFits_212 : decode cX13_methodFits 212 = .ok (.iload 4, 2) := by decide +kernel
theorem dX13_methodFits_214 : decode cX13_methodFits 214 = .ok (.imul, 1) := by decide +kernel
theorem dX13_methodFits_215 : decode cX13_methodFits 215 = .ok (.iadd, 1) := by decide +kernel
theorem dX13_methodFits_216 : decode cX13_methodFits 216 = .ok (.invokevirtual 984, 3) := by decide +kernel
theorem dX13_methodFits_219 : decode cX13_methodFits 219 = .ok (.ifCond .ne 14, 3) := by decide +kernel
theorem dX13_methodFits_222 : decode cX13_methodFits 222 = .ok (.aload_n 0, 1) := by decide +kernel
theorem dX13_methodFits_223 : decode cX13_methodFits 223 = .ok (.bipush 8, 2) := by decide +kernel
theorem dX13_methodFits_225 : decode cX13_methodFits 225 = .ok (.iload_n 1, 1) := by decide +kernel
theorem dX13_methodFits_226 : decode cX13_methodFits 226 = .ok (.iload_n 2, 1) := by decide +kernel
theorem dX13_methodFits_227 : decode cX13_methodFits 227 = .ok (.iload 4, 2) := by decide +kernel
theorem dX13_methodFits_229 : decode cX13_methodFits 229 = .ok (.invokevirtual 922, 3) := by decide +kernel
theorem dX13_methodFits_232 : decode cX13_methodFits 232 = .ok (.ireturn, 1) := by decide +kernel
theorem dX13_methodFits_233 : decode cX13_methodFits 233 = .ok (.iinc 4 1, 3) := by decide +kernel
theorem dX13_methodFits_236 : decode cX13_methodFits 236 = .ok (.goto (-44), 3) := by decide +kernel
theorem dX13_methodFits_239 : decode cX13_methodFits 239 = .ok (.iconst (-1), 1) := by decide +kernel
theorem dX13_methodFits_240 : decode cX13_methodFits 240 = .ok (.istore 4, 2) := by decide +kernel
theorem dX13_methodFits_242 : decode cX13_methodFits 242 = .ok (.iconst 0, 1) := by decide +kernel
theorem dX13_methodFits_243 : decode cX13_methodFits 243 = .ok (.istore 5, 2) := by decide +kernel
theorem dX13_methodFits_245 : decode cX13_methodFits 245 = .ok (.iload 5, 2) := by decide +kernel
theorem dX13_methodFits_247 : decode cX13_methodFits 247 = .ok (.aload_n 0, 1) := by decide +kernel
theorem dX13_methodFits_248 : decode cX13_methodFits 248 = .ok (.invokevirtual 946, 3) := by decide +kernel
theorem dX13_methodFits_251 : decode cX13_methodFits 251 = .ok (.if_icmp .ge 75, 3) := by decide +kernel
theorem dX13_methodFits_254 : decode cX13_methodFits 254 = .ok (.aload_n 0, 1) := by decide +kernel
theorem dX13_methodFits_255 : decode cX13_methodFits 255 = .ok (.iload 5, 2) := by decide +kernel
theorem dX13_methodFits_257 : decode cX13_methodFits 257 = .ok (.invokevirtual 987, 3) := by decide +kernel
theorem dX13_methodFits_260 : decode cX13_methodFits 260 = .ok (.istore 6, 2) := by decide +kernel
theorem dX13_methodFits_262 : decode cX13_methodFits 262 = .ok (.aload_n 0, 1) := by decide +kernel
theorem dX13_methodFits_263 : decode cX13_methodFits 263 = .ok (.iload 6, 2) := by decide +kernel
theorem dX13_methodFits_265 : decode cX13_methodFits 265 = .ok (.invokevirtual 949, 3) := by decide +kernel
theorem dX13_methodFits_268 : decode cX13_methodFits 268 = .ok (.istore 7, 2) := by decide +kernel
theorem dX13_methodFits_270 : decode cX13_methodFits 270 = .ok (.iload 7, 2) := by decide +kernel
theorem dX13_methodFits_272 : decode cX13_methodFits 272 = .ok (.iload 4, 2) := by decide +kernel
theorem dX13_methodFits_274 : decode cX13_methodFits 274 = .ok (.if_icmp .le 31, 3) := by decide +kernel
theorem dX13_methodFits_277 : decode cX13_methodFits 277 = .ok (.iload 7, 2) := by decide +kernel
theorem dX13_methodFits_279 : decode cX13_methodFits 279 = .ok (.aload_n 0, 1) := by decide +kernel
theorem dX13_methodFits_280 : decode cX13_methodFits 280 = .ok (.getfield 970, 3) := by decide +kernel
theorem dX13_methodFits_283 : decode cX13_methodFits 283 = .ok (.if_icmp .ge 22, 3) := by decide +kernel
theorem dX13_methodFits_286 : decode cX13_methodFits 286 = .ok (.aload_n 0, 1) := by decide +kernel
theorem dX13_methodFits_287 : decode cX13_methodFits 287 = .ok (.getfield 267, 3) := by decide +kernel
theorem dX13_methodFits_290 : decode cX13_methodFits 290 = .ok (.iload 7, 2) := by decide +kernel
theorem dX13_methodFits_292 : decode cX13_methodFits 292 = .ok (.baload, 1) := by decide +kernel
theorem dX13_methodFits_293 : decode cX13_methodFits 293 = .ok (.ifCond .eq 12, 3) := by decide +kernel
theorem dX13_methodFits_296 : decode cX13_methodFits 296 = .ok (.aload_n 0, 1) := by decide +kernel
theorem dX13_methodFits_297 : decode cX13_methodFits 297 = .ok (.iload 6, 2) := by decide +kernel
theorem dX13_methodFits_299 : decode cX13_methodFits 299 = .ok (.invokevirtual 989, 3) := by decide +kernel
theorem dX13_methodFits_302 : decode cX13_methodFits 302 = .ok (.ifCond .ne 14, 3) := by decide +kernel
theorem dX13_methodFits_305 : decode cX13_methodFits 305 = .ok (.aload_n 0, 1) := by decide +kernel
theorem dX13_methodFits_306 : decode cX13_methodFits 306 = .ok (.bipush 9, 2) := by decide +kernel
theorem dX13_methodFits_308 : decode cX13_methodFits 308 = .ok (.iload_n 1, 1) := by decide +kernel
theorem dX13_methodFits_309 : decode cX13_methodFits 309 = .ok (.iload_n 2, 1) := by decide +kernel
theorem dX13_methodFits_310 : decode cX13_methodFits 310 = .ok (.iload 5, 2) := by decide +kernel
theorem dX13_methodFits_312 : decode cX13_methodFits 312 = .ok (.invokevirtual 922, 3) := by decide +kernel
theorem dX13_methodFits_315 : decode cX13_methodFits 315 = .ok (.ireturn, 1) := by decide +kernel
theorem dX13_methodFits_316 : decode cX13_methodFits 316 = .ok (.iload 7, 2) := by decide +kernel
theorem dX13_methodFits_318 : decode cX13_methodFits 318 = .ok (.istore 4, 2) := by decide +kernel
theorem dX13_methodFits_320 : decode cX13_methodFits 320 = .ok (.iinc 5 1, 3) := by decide +kernel
theorem dX13_methodFits_323 : decode cX13_methodFits 323 = .ok (.goto (-78), 3) := by decide +kernel
theorem dX13_methodFits_326 : decode cX13_methodFits 326 = .ok (.aload_n 0, 1) := by decide +kernel
theorem dX13_methodFits_327 : decode cX13_methodFits 327 = .ok (.iload_n 1, 1) := by decide +kernel
theorem dX13_methodFits_328 : decode cX13_methodFits 328 = .ok (.iload_n 2, 1) := by decide +kernel
theorem dX13_methodFits_329 : decode cX13_methodFits 329 = .ok (.invokevirtual 992, 3) := by decide +kernel
theorem dX13_methodFits_332 : decode cX13_methodFits 332 = .ok (.ireturn, 1) := by decide +kernel
theorem dX13_handlerFits_0 : decode cX13_handlerFits 0 = .ok (.aload_n 0, 1) := by decide +kernel
theorem dX13_handlerFits_1 : decode cX13_handlerFits 1 = .ok (.iload_n 1, 1) := by decide +kernel
theorem dX13_handlerFits_2 : decode cX13_handlerFits 2 = .ok (.invokevirtual 949, 3) := by decide +kernel
theorem dX13_handlerFits_5 : decode cX13_handlerFits 5 = .ok (.istore_n 2, 1) := by decide +kernel
theorem dX13_handlerFits_6 : decode cX13_handlerFits 6 = .ok (.aload_n 0, 1) := by decide +kernel
theorem dX13_handlerFits_7 : decode cX13_handlerFits 7 = .ok (.iload_n 1, 1) := by decide +kernel
theorem dX13_handlerFits_8 : decode cX13_handlerFits 8 = .ok (.iconst 2, 1) := by decide +kernel
theorem dX13_handlerFits_9 : decode cX13_handlerFits 9 = .ok (.iadd, 1) := by decide +kernel
theorem dX13_handlerFits_10 : decode cX13_handlerFits 10 = .ok (.invokevirtual 949, 3) := by decide +kernel
theorem dX13_handlerFits_13 : decode cX13_handlerFits 13 = .ok (.istore_n 3, 1) := by decide +kernel
theorem dX13_handlerFits_14 : decode cX13_handlerFits 14 = .ok (.aload_n 0, 1) := by decide +kernel
theorem dX13_handlerFits_15 : decode cX13_handlerFits 15 = .ok (.iload_n 1, 1) := by decide +kernel
theorem dX13_handlerFits_16 : decode cX13_handlerFits 16 = .ok (.iconst 4, 1) := by decide +kernel
theorem dX13_handlerFits_17 : decode cX13_handlerFits 17 = .ok (.iadd, 1) := by decide +kernel
theorem dX13_handlerFits_18 : decode cX13_handlerFits 18 = .ok (.invokevirtual 949, 3) := by decide +kernel
theorem dX13_handlerFits_21 : decode cX13_handlerFits 21 = .ok (.istore 4, 2) := by decide +kernel
theorem dX13_handlerFits_23 : decode cX13_handlerFits 23 = .ok (.iload_n 2, 1) := by decide +kernel
theorem dX13_handlerFits_24 : decode cX13_handlerFits 24 = .ok (.aload_n 0, 1) := by decide +kernel
theorem dX13_handlerFits_25 : decode cX13_handlerFits 25 = .ok (.getfield 970, 3) := by decide +kernel
theorem dX13_handlerFits_28 : decode cX13_handlerFits 28 = .ok (.if_icmp .ge 65, 3) := by decide +kernel
theorem dX13_handlerFits_31 : decode cX13_handlerFits 31 = .ok (.aload_n 0, 1) := by decide +kernel
theorem dX13_handlerFits_32 : decode cX13_handlerFits 32 = .ok (.getfield 267, 3) := by decide +kernel
theorem dX13_handlerFits_35 : decode cX13_handlerFits 35 = .ok (.iload_n 2, 1) := by decide +kernel
theorem dX13_handlerFits_36 : decode cX13_handlerFits 36 = .ok (.baload, 1) := by decide +kernel
theorem dX13_handlerFits_37 : decode cX13_handlerFits 37 = .ok (.ifCond .eq 56, 3) := by decide +kernel
theorem dX13_handlerFits_40 : decode cX13_handlerFits 40 = .ok (.iload 4, 2) := by decide +kernel
theorem dX13_handlerFits_42 : decode cX13_handlerFits 42 = .ok (.aload_n 0, 1) := by decide +kernel
theorem dX13_handlerFits_43 : decode cX13_handlerFits 43 = .ok (.getfield 970, 3) := by decide +kernel
theorem dX13_handlerFits_46 : decode cX13_handlerFits 46 = .ok (.if_icmp .ge 47, 3) := by decide +kernel
theorem dX13_handlerFits_49 : decode cX13_handlerFits 49 = .ok (.aload_n 0, 1) := by decide +kernel
theorem dX13_handlerFits_50 : decode cX13_handlerFits 50 = .ok (.getfield 267, 3) := by decide +kernel
theorem dX13_handlerFits_53 : decode cX13_handlerFits 53 = .ok (.iload 4, 2) := by decide +kernel
theorem dX13_handlerFits_55 : decode cX13_handlerFits 55 = .ok (.baload, 1) := by decide +kernel
theorem dX13_handlerFits_56 : decode cX13_handlerFits 56 = .ok (.ifCond .eq 37, 3) := by decide +kernel
theorem dX13_handlerFits_59 : decode cX13_handlerFits 59 = .ok (.iload_n 3, 1) := by decide +kernel
theorem dX13_handlerFits_60 : decode cX13_handlerFits 60 = .ok (.aload_n 0, 1) := by decide +kernel
theorem dX13_handlerFits_61 : decode cX13_handlerFits 61 = .ok (.getfield 970, 3) := by decide +kernel
theorem dX13_handlerFits_64 : decode cX13_handlerFits 64 = .ok (.if_icmp .eq 20, 3) := by decide +kernel
theorem dX13_handlerFits_67 : decode cX13_handlerFits 67 = .ok (.iload_n 3, 1) := by decide +kernel
theorem dX13_handlerFits_68 : decode cX13_handlerFits 68 = .ok (.aload_n 0, 1) := by decide +kernel
theorem dX13_handlerFits_69 : decode cX13_handlerFits 69 = .ok (.getfield 970, 3) := by decide +kernel
theorem dX13_handlerFits_72 : decode cX13_handlerFits 72 = .ok (.if_icmp .ge 21, 3) := by decide +kernel
theorem dX13_handlerFits_75 : decode cX13_handlerFits 75 = .ok (.aload_n 0, 1) := by decide +kernel
theorem dX13_handlerFits_76 : decode cX13_handlerFits 76 = .ok (.getfield 267, 3) := by decide +kernel
theorem dX13_handlerFits_79 : decode cX13_handlerFits 79 = .ok (.iload_n 3, 1) := by decide +kernel
theorem dX13_handlerFits_80 : decode cX13_handlerFits 80 = .ok (.baload, 1) := by decide +kernel
theorem dX13_handlerFits_81 : decode cX13_handlerFits 81 = .ok (.ifCond .eq 12, 3) := by decide +kernel
theorem dX13_handlerFits_84 : decode cX13_handlerFits 84 = .ok (.iload_n 2, 1) := by decide +kernel
theorem dX13_handlerFits_85 : decode cX13_handlerFits 85 = .ok (.iload_n 3, 1) := by decide +kernel
theorem dX13_handlerFits_86 : decode cX13_handlerFits 86 = .ok (.if_icmp .ge 7, 3) := by decide +kernel
theorem dX13_handlerFits_89 : decode cX13_handlerFits 89 = .ok (.iconst 1, 1) := by decide +kernel
theorem dX13_handlerFits_90 : decode cX13_handlerFits 90 = .ok (.goto 4, 3) := by decide +kernel
theorem dX13_handlerFits_93 : decode cX13_handlerFits 93 = .ok (.iconst 0, 1) := by decide +kernel
theorem dX13_handlerFits_94 : decode cX13_handlerFits 94 = .ok (.istore 5, 2) := by decide +kernel
theorem dX13_handlerFits_96 : decode cX13_handlerFits 96 = .ok (.aload_n 0, 1) := by decide +kernel
theorem dX13_handlerFits_97 : decode cX13_handlerFits 97 = .ok (.aload_n 0, 1) := by decide +kernel
theorem dX13_handlerFits_98 : decode cX13_handlerFits 98 = .ok (.getfield 932, 3) := by decide +kernel
theorem dX13_handlerFits_101 : decode cX13_handlerFits 101 = .ok (.aload_n 0, 1) := by decide +kernel
theorem dX13_handlerFits_102 : decode cX13_handlerFits 102 = .ok (.aload_n 0, 1) := by decide +kernel
theorem dX13_handlerFits_103 : decode cX13_handlerFits 103 = .ok (.getfield 932, 3) := by decide +kernel
theorem dX13_handlerFits_106 : decode cX13_handlerFits 106 = .ok (.iload_n 1, 1) := by decide +kernel
theorem dX13_handlerFits_107 : decode cX13_handlerFits 107 = .ok (.bipush 6, 2) := by decide +kernel
theorem dX13_handlerFits_109 : decode cX13_handlerFits 109 = .ok (.iadd, 1) := by decide +kernel
theorem dX13_handlerFits_110 : decode cX13_handlerFits 110 = .ok (.invokevirtual 864, 3) := by decide +kernel
theorem dX13_handlerFits_113 : decode cX13_handlerFits 113 = .ok (.invokevirtual 952, 3) := by decide +kernel
theorem dX13_handlerFits_116 : decode cX13_handlerFits 116 = .ok (.istore 6, 2) := by decide +kernel
theorem dX13_handlerFits_118 : decode cX13_handlerFits 118 = .ok (.iload 5, 2) := by decide +kernel
theorem dX13_handlerFits_120 : decode cX13_handlerFits 120 = .ok (.ifCond .eq 36, 3) := by decide +kernel
theorem dX13_handlerFits_123 : decode cX13_handlerFits 123 = .ok (.aload_n 0, 1) := by decide +kernel
theorem dX13_handlerFits_124 : decode cX13_handlerFits 124 = .ok (.iload 4, 2) := by decide +kernel
theorem dX13_handlerFits_126 : decode cX13_handlerFits 126 = .ok (.invokevirtual 995, 3) := by decide +kernel
theorem dX13_handlerFits_129 : decode cX13_handlerFits 129 = .ok (.iconst (-1), 1) := by decide +kernel
theorem dX13_handlerFits_130 : decode cX13_handlerFits 130 = .ok (.if_icmp .eq 26, 3) := by decide +kernel
theorem dX13_handlerFits_133 : decode cX13_handlerFits 133 = .ok (.iload 6, 2) := by decide +kernel
theorem dX13_handlerFits_135 : decode cX13_handlerFits 135 = .ok (.invokestatic 916, 3) := by decide +kernel
theorem dX13_handlerFits_138 : decode cX13_handlerFits 138 = .ok (.ifCond .eq 18, 3) := by decide +kernel
theorem dX13_handlerFits_141 : decode cX13_handlerFits 141 = .ok (.aload_n 0, 1) := by decide +kernel
theorem dX13_handlerFits_142 : decode cX13_handlerFits 142 = .ok (.iload 6, 2) := by decide +kernel
theorem dX13_handlerFits_144 : decode cX13_handlerFits 144 = .ok (.bipush 6, 2) := by decide +kernel
theorem dX13_handlerFits_146 : decode cX13_handlerFits 146 = .ok (.invokevirtual 958, 3) := by decide +kernel
theorem dX13_handlerFits_149 : decode cX13_handlerFits 149 = .ok (.ifCond .eq 7, 3) := by decide +kernel
theorem dX13_handlerFits_152 : decode cX13_handlerFits 152 = .ok (.iconst 1, 1) := by decide +kernel
theorem dX13_handlerFits_153 : decode cX13_handlerFits 153 = .ok (.goto 4, 3) := by decide +kernel
theorem dX13_handlerFits_156 : decode cX13_handlerFits 156 = .ok (.iconst 0, 1) := by decide +kernel
theorem dX13_handlerFits_157 : decode cX13_handlerFits 157 = .ok (.ireturn, 1) := by decide +kernel
theorem dX13_frameIsThere_0 : decode cX13_frameIsThere 0 = .ok (.iload_n 1, 1) := by decide +kernel
theorem dX13_frameIsThere_1 : decode cX13_frameIsThere 1 = .ok (.iconst 2, 1) := by decide +kernel
theorem dX13_frameIsThere_2 : decode cX13_frameIsThere 2 = .ok (.iadd, 1) := by decide +kernel
theorem dX13_frameIsThere_3 : decode cX13_frameIsThere 3 = .ok (.istore_n 2, 1) := by decide +kernel
theorem dX13_frameIsThere_4 : decode cX13_frameIsThere 4 = .ok (.iconst 0, 1) := by decide +kernel
theorem dX13_frameIsThere_5 : decode cX13_frameIsThere 5 = .ok (.istore_n 3, 1) := by decide +kernel
theorem dX13_frameIsThere_6 : decode cX13_frameIsThere 6 = .ok (.iload_n 3, 1) := by decide +kernel
theorem dX13_frameIsThere_7 : decode cX13_frameIsThere 7 = .ok (.iconst 2, 1) := by decide +kernel
theorem dX13_frameIsThere_8 : decode cX13_frameIsThere 8 = .ok (.if_icmp .ge 95, 3) := by decide +kernel
theorem dX13_frameIsThere_11 : decode cX13_frameIsThere 11 = .ok (.aload_n 0, 1) := by decide +kernel
theorem dX13_frameIsThere_12 : decode cX13_frameIsThere 12 = .ok (.aload_n 0, 1) := by decide +kernel
theorem dX13_frameIsThere_13 : decode cX13_frameIsThere 13 = .ok (.getfield 932, 3) := by decide +kernel
theorem dX13_frameIsThere_16 : decode cX13_frameIsThere 16 = .ok (.iload_n 2, 1) := by decide +kernel
theorem dX13_frameIsThere_17 : decode cX13_frameIsThere 17 = .ok (.invokevirtual 864, 3) := by decide +kernel
theorem dX13_frameIsThere_20 : decode cX13_frameIsThere 20 = .ok (.istore 4, 2) := by decide +kernel
theorem dX13_frameIsThere_22 : decode cX13_frameIsThere 22 = .ok (.iload 4, 2) := by decide +kernel
theorem dX13_frameIsThere_24 : decode cX13_frameIsThere 24 = .ok (.iload_n 3, 1) := by decide +kernel
theorem dX13_frameIsThere_25 : decode cX13_frameIsThere 25 = .ok (.ifCond .ne 10, 3) := by decide +kernel
theorem dX13_frameIsThere_28 : decode cX13_frameIsThere 28 = .ok (.aload_n 0, 1) := by decide +kernel
theorem dX13_frameIsThere_29 : decode cX13_frameIsThere 29 = .ok (.getfield 964, 3) := by decide +kernel
theorem dX13_frameIsThere_32 : decode cX13_frameIsThere 32 = .ok (.goto 7, 3) := by decide +kernel
theorem dX13_frameIsThere_35 : decode cX13_frameIsThere 35 = .ok (.aload_n 0, 1) := by decide +kernel
theorem dX13_frameIsThere_36 : decode cX13_frameIsThere 36 = .ok (.getfield 967, 3) := by decide +kernel
theorem dX13_frameIsThere_39 : decode cX13_frameIsThere 39 = .ok (.if_icmp .le 5, 3) := by decide +kernel
theorem dX13_frameIsThere_42 : decode cX13_frameIsThere 42 = .ok (.iconst 0, 1) := by decide +kernel
theorem dX13_frameIsThere_43 : decode cX13_frameIsThere 43 = .ok (.ireturn, 1) := by decide +kernel
theorem dX13_frameIsThere_44 : decode cX13_frameIsThere 44 = .ok (.iinc 2 1, 3) := by decide +kernel
theorem dX13_frameIsThere_47 : decode cX13_frameIsThere 47 = .ok (.iconst 0, 1) := by decide +kernel
theorem dX13_frameIsThere_48 : decode cX13_frameIsThere 48 = .ok (.istore 5, 2) := by decide +kernel
theorem dX13_frameIsThere_50 : decode cX13_frameIsThere 50 = .ok (.iload 5, 2) := by decide +kernel
theorem dX13_frameIsThere_52 : decode cX13_frameIsThere 52 = .ok (.iload 4, 2) := by decide +kernel
theorem dX13_frameIsThere_54 : decode cX13_frameIsThere 54 = .ok (.if_icmp .ge 43, 3) := by decide +kernel
theorem dX13_frameIsThere_57 : decode cX13_frameIsThere 57 = .ok (.aload_n 0, 1) := by decide +kernel
theorem dX13_frameIsThere_58 : decode cX13_frameIsThere 58 = .ok (.iload_n 2, 1) := by decide +kernel
theorem dX13_frameIsThere_59 : decode cX13_frameIsThere 59 = .ok (.invokevirtual 955, 3) := by decide +kernel
theorem dX13_frameIsThere_62 : decode cX13_frameIsThere 62 = .ok (.invokestatic 916, 3) := by decide +kernel
theorem dX13_frameIsThere_65 : decode cX13_frameIsThere 65 = .ok (.ifCond .ne 5, 3) := by decide +kernel
theorem dX13_frameIsThere_68 : decode cX13_frameIsThere 68 = .ok (.iconst 0, 1) := by decide +kernel
theorem dX13_frameIsThere_69 : decode cX13_frameIsThere 69 = .ok (.ireturn, 1) := by decide +kernel
theorem dX13_frameIsThere_70 : decode cX13_frameIsThere 70 = .ok (.iload_n 2, 1) := by decide +kernel
theorem dX13_frameIsThere_71 : decode cX13_frameIsThere 71 = .ok (.aload_n 0, 1) := by decide +kernel
theorem dX13_frameIsThere_72 : decode cX13_frameIsThere 72 = .ok (.aload_n 0, 1) := by decide +kernel
theorem dX13_frameIsThere_73 : decode cX13_frameIsThere 73 = .ok (.getfield 932, 3) := by decide +kernel
theorem dX13_frameIsThere_76 : decode cX13_frameIsThere 76 = .ok (.iload_n 2, 1) := by decide +kernel
theorem dX13_frameIsThere_77 : decode cX13_frameIsThere 77 = .ok (.invokevirtual 864, 3) := by decide +kernel
theorem dX13_frameIsThere_80 : decode cX13_frameIsThere 80 = .ok (.iconst 3, 1) := by decide +kernel
theorem dX13_frameIsThere_81 : decode cX13_frameIsThere 81 = .ok (.if_icmp .ne 7, 3) := by decide +kernel
theorem dX13_frameIsThere_84 : decode cX13_frameIsThere 84 = .ok (.iconst 2, 1) := by decide +kernel
theorem dX13_frameIsThere_85 : decode cX13_frameIsThere 85 = .ok (.goto 4, 3) := by decide +kernel
theorem dX13_frameIsThere_88 : decode cX13_frameIsThere 88 = .ok (.iconst 1, 1) := by decide +kernel
theorem dX13_frameIsThere_89 : decode cX13_frameIsThere 89 = .ok (.iadd, 1) := by decide +kernel
theorem dX13_frameIsThere_90 : decode cX13_frameIsThere 90 = .ok (.istore_n 2, 1) := by decide +kernel
theorem dX13_frameIsThere_91 : decode cX13_frameIsThere 91 = .ok (.iinc 5 1, 3) := by decide +kernel
theorem dX13_frameIsThere_94 : decode cX13_frameIsThere 94 = .ok (.goto (-44), 3) := by decide +kernel
theorem dX13_frameIsThere_97 : decode cX13_frameIsThere 97 = .ok (.iinc 3 1, 3) := by decide +kernel
theorem dX13_frameIsThere_100 : decode cX13_frameIsThere 100 = .ok (.goto (-94), 3) := by decide +kernel
theorem dX13_frameIsThere_103 : decode cX13_frameIsThere 103 = .ok (.iconst 1, 1) := by decide +kernel
theorem dX13_frameIsThere_104 : decode cX13_frameIsThere 104 = .ok (.ireturn, 1) := by decide +kernel
theorem dX13_flows_0 : decode cX13_flows 0 = .ok (.iconst 0, 1) := by decide +kernel
theorem dX13_flows_1 : decode cX13_flows 1 = .ok (.istore_n 3, 1) := by decide +kernel
theorem dX13_flows_2 : decode cX13_flows 2 = .ok (.iload_n 3, 1) := by decide +kernel
theorem dX13_flows_3 : decode cX13_flows 3 = .ok (.aload_n 0, 1) := by decide +kernel
theorem dX13_flows_4 : decode cX13_flows 4 = .ok (.getfield 964, 3) := by decide +kernel
theorem dX13_flows_7 : decode cX13_flows 7 = .ok (.if_icmp .ge 16, 3) := by decide +kernel
theorem dX13_flows_10 : decode cX13_flows 10 = .ok (.aload_n 0, 1) := by decide +kernel
theorem dX13_flows_11 : decode cX13_flows 11 = .ok (.getfield 270, 3) := by decide +kernel
theorem dX13_flows_14 : decode cX13_flows 14 = .ok (.iload_n 3, 1) := by decide +kernel
theorem dX13_flows_15 : decode cX13_flows 15 = .ok (.iconst 0, 1) := by decide +kernel
theorem dX13_flows_16 : decode cX13_flows 16 = .ok (.iastore, 1) := by decide +kernel
theorem dX13_flows_17 : decode cX13_flows 17 = .ok (.iinc 3 1, 3) := by decide +kernel
theorem dX13_flows_20 : decode cX13_flows 20 = .ok (.goto (-18), 3) := by decide +kernel
theorem dX13_flows_23 : decode cX13_flows 23 = .ok (.aload_n 0, 1) := by decide +kernel
theorem dX13_flows_24 : decode cX13_flows 24 = .ok (.iconst 0, 1) := by decide +kernel
theorem dX13_flows_25 : decode cX13_flows 25 = .ok (.putfield 961, 3) := by decide +kernel
theorem dX13_flows_28 : decode cX13_flows 28 = .ok (.iconst 0, 1) := by decide +kernel
theorem dX13_flows_29 : decode cX13_flows 29 = .ok (.istore_n 3, 1) := by decide +kernel
theorem dX13_flows_30 : decode cX13_flows 30 = .ok (.aload_n 0, 1) := by decide +kernel
theorem dX13_flows_31 : decode cX13_flows 31 = .ok (.aload_n 0, 1) := by decide +kernel
theorem dX13_flows_32 : decode cX13_flows 32 = .ok (.getfield 932, 3) := by decide +kernel
theorem dX13_flows_35 : decode cX13_flows 35 = .ok (.aload_n 0, 1) := by decide +kernel
theorem dX13_flows_36 : decode cX13_flows 36 = .ok (.getfield 236, 3) := by decide +kernel
theorem dX13_flows_39 : decode cX13_flows 39 = .ok (.bipush 12, 2) := by decide +kernel
theorem dX13_flows_41 : decode cX13_flows 41 = .ok (.aload_n 0, 1) := by decide +kernel
theorem dX13_flows_42 : decode cX13_flows 42 = .ok (.getfield 932, 3) := by decide +kernel
theorem dX13_flows_45 : decode cX13_flows 45 = .ok (.imul, 1) := by decide +kernel
theorem dX13_flows_46 : decode cX13_flows 46 = .ok (.iload_n 2, 1) := by decide +kernel
theorem dX13_flows_47 : decode cX13_flows 47 = .ok (.iadd, 1) := by decide +kernel
theorem dX13_flows_48 : decode cX13_flows 48 = .ok (.iaload, 1) := by decide +kernel
theorem dX13_flows_49 : decode cX13_flows 49 = .ok (.invokevirtual 864, 3) := by decide +kernel
theorem dX13_flows_52 : decode cX13_flows 52 = .ok (.ifCond .ne 16, 3) := by decide +kernel
theorem dX13_flows_55 : decode cX13_flows 55 = .ok (.aload_n 0, 1) := by decide +kernel
theorem dX13_flows_56 : decode cX13_flows 56 = .ok (.getfield 270, 3) := by decide +kernel
theorem dX13_flows_59 : decode cX13_flows 59 = .ok (.iconst 0, 1) := by decide +kernel
theorem dX13_flows_60 : decode cX13_flows 60 = .ok (.iconst 4, 1) := by decide +kernel
theorem dX13_flows_61 : decode cX13_flows 61 = .ok (.iconst 2, 1) := by decide +kernel
theorem dX13_flows_62 : decode cX13_flows 62 = .ok (.iload_n 1, 1) := by decide +kernel
theorem dX13_flows_63 : decode cX13_flows 63 = .ok (.imul, 1) := by decide +kernel
theorem dX13_flows_64 : decode cX13_flows 64 = .ok (.iadd, 1) := by decide +kernel
theorem dX13_flows_65 : decode cX13_flows 65 = .ok (.iastore, 1) := by decide +kernel
theorem dX13_flows_66 : decode cX13_flows 66 = .ok (.iconst 1, 1) := by decide +kernel
theorem dX13_flows_67 : decode cX13_flows 67 = .ok (.istore_n 3, 1) := by decide +kernel
theorem dX13_flows_68 : decode cX13_flows 68 = .ok (.sipush 6000, 3) := by decide +kernel
theorem dX13_flows_71 : decode cX13_flows 71 = .ok (.aload_n 0, 1) := by decide +kernel
theorem dX13_flows_72 : decode cX13_flows 72 = .ok (.getfield 932, 3) := by decide +kernel
theorem dX13_flows_75 : decode cX13_flows 75 = .ok (.imul, 1) := by decide +kernel
theorem dX13_flows_76 : decode cX13_flows 76 = .ok (.aload_n 0, 1) := by decide +kernel
theorem dX13_flows_77 : decode cX13_flows 77 = .ok (.getfield 215, 3) := by decide +kernel
theorem dX13_flows_80 : decode cX13_flows 80 = .ok (.sipush 256, 3) := by decide +kernel
theorem dX13_flows_83 : decode cX13_flows 83 = .ok (.aload_n 0, 1) := by decide +kernel
theorem dX13_flows_84 : decode cX13_flows 84 = .ok (.getfield 932, 3) := by decide +kernel
theorem dX13_flows_87 : decode cX13_flows 87 = .ok (.imul, 1) := by decide +kernel
theorem dX13_flows_88 : decode cX13_flows 88 = .ok (.aload_n 0, 1) := by decide +kernel
theorem dX13_flows_89 : decode cX13_flows 89 = .ok (.aload_n 0, 1) := by decide +kernel
theorem dX13_flows_90 : decode cX13_flows 90 = .ok (.getfield 932, 3) := by decide +kernel
theorem dX13_flows_93 : decode cX13_flows 93 = .ok (.iload_n 2, 1) := by decide +kernel
theorem dX13_flows_94 : decode cX13_flows 94 = .ok (.iconst 1, 1) := by decide +kernel
theorem dX13_flows_95 : decode cX13_flows 95 = .ok (.invokevirtual 910, 3) := by decide +kernel
theorem dX13_flows_98 : decode cX13_flows 98 = .ok (.iadd, 1) := by decide +kernel
theorem dX13_flows_99 : decode cX13_flows 99 = .ok (.iaload, 1) := by decide +kernel
theorem dX13_flows_100 : decode cX13_flows 100 = .ok (.iadd, 1) := by decide +kernel
theorem dX13_flows_101 : decode cX13_flows 101 = .ok (.iconst 3, 1) := by decide +kernel
theorem dX13_flows_102 : decode cX13_flows 102 = .ok (.iadd, 1) := by decide +kernel
theorem dX13_flows_103 : decode cX13_flows 103 = .ok (.istore 4, 2) := by decide +kernel
theorem dX13_flows_105 : decode cX13_flows 105 = .ok (.aload_n 0, 1) := by decide +kernel
theorem dX13_flows_106 : decode cX13_flows 106 = .ok (.getfield 209, 3) := by decide +kernel
theorem dX13_flows_109 : decode cX13_flows 109 = .ok (.iload 4, 2) := by decide +kernel
theorem dX13_flows_111 : decode cX13_flows 111 = .ok (.iaload, 1) := by decide +kernel
theorem dX13_flows_112 : decode cX13_flows 112 = .ok (.bipush 41, 2) := by decide +kernel
theorem dX13_flows_114 : decode cX13_flows 114 = .ok (.if_icmp .eq 27, 3) := by decide +kernel
theorem dX13_flows_117 : decode cX13_flows 117 = .ok (.aload_n 0, 1) := by decide +kernel
theorem dX13_flows_118 : decode cX13_flows 118 = .ok (.getfield 270, 3) := by decide +kernel
theorem dX13_flows_121 : decode cX13_flows 121 = .ok (.iload_n 3, 1) := by decide +kernel
theorem dX13_flows_122 : decode cX13_flows 122 = .ok (.aload_n 0, 1) := by decide +kernel
theorem dX13_flows_123 : decode cX13_flows 123 = .ok (.iload 4, 2) := by decide +kernel
theorem dX13_flows_125 : decode cX13_flows 125 = .ok (.invokevirtual 885, 3) := by decide +kernel
theorem dX13_flows_128 : decode cX13_flows 128 = .ok (.iastore, 1) := by decide +kernel
theorem dX13_flows_129 : decode cX13_flows 129 = .ok (.iinc 3 1, 3) := by decide +kernel
theorem dX13_flows_132 : decode cX13_flows 132 = .ok (.aload_n 0, 1) := by decide +kernel
theorem dX13_flows_133 : decode cX13_flows 133 = .ok (.getfield 879, 3) := by decide +kernel
theorem dX13_flows_136 : decode cX13_flows 136 = .ok (.istore 4, 2) := by decide +kernel
theorem dX13_flows_138 : decode cX13_flows 138 = .ok (.goto (-33), 3) := by decide +kernel
theorem dX13_flows_141 : decode cX13_flows 141 = .ok (.aload_n 0, 1) := by decide +kernel
theorem dX13_flows_142 : decode cX13_flows 142 = .ok (.iload 4, 2) := by decide +kernel
theorem dX13_flows_144 : decode cX13_flows 144 = .ok (.iconst 1, 1) := by decide +kernel
theorem dX13_flows_145 : decode cX13_flows 145 = .ok (.iadd, 1) := by decide +kernel
theorem dX13_flows_146 : decode cX13_flows 146 = .ok (.putfield 998, 3) := by decide +kernel
theorem dX13_flows_149 : decode cX13_flows 149 = .ok (.iconst 1, 1) := by decide +kernel
theorem dX13_flows_150 : decode cX13_flows 150 = .ok (.istore 5, 2) := by decide +kernel
theorem dX13_flows_152 : decode cX13_flows 152 = .ok (.iconst 0, 1) := by decide +kernel
theorem dX13_flows_153 : decode cX13_flows 153 = .ok (.istore 6, 2) := by decide +kernel
theorem dX13_flows_155 : decode cX13_flows 155 = .ok (.iload 6, 2) := by decide +kernel
theorem dX13_flows_157 : decode cX13_flows 157 = .ok (.aload_n 0, 1) := by decide +kernel
theorem dX13_flows_158 : decode cX13_flows 158 = .ok (.getfield 970, 3) := by decide +kernel
theorem dX13_flows_161 : decode cX13_flows 161 = .ok (.if_icmp .ge 266, 3) := by decide +kernel
theorem dX13_flows_164 : decode cX13_flows 164 = .ok (.aload_n 0, 1) := by decide +kernel
theorem dX13_flows_165 : decode cX13_flows 165 = .ok (.iload 6, 2) := by decide +kernel
theorem dX13_flows_167 : decode cX13_flows 167 = .ok (.invokevirtual 995, 3) := by decide +kernel
theorem dX13_flows_170 : decode cX13_flows 170 = .ok (.istore 7, 2) := by decide +kernel
theorem dX13_flows_172 : decode cX13_flows 172 = .ok (.iload 5, 2) := by decide +kernel
theorem dX13_flows_174 : decode cX13_flows 174 = .ok (.ifCond .ne 20, 3) := by decide +kernel
theorem dX13_flows_177 : decode cX13_flows 177 = .ok (.iload 7, 2) := by decide +kernel
theorem dX13_flows_179 : decode cX13_flows 179 = .ok (.iconst (-1), 1) := by decide +kernel
theorem dX13_flows_180 : decode cX13_flows 180 = .ok (.if_icmp .ne 14, 3) := by decide +kernel
theorem dX13_flows_183 : decode cX13_flows 183 = .ok (.aload_n 0, 1) := by decide +kernel
theorem dX13_flows_184 : decode cX13_flows 184 = .ok (.bipush 10, 2) := by decide +kernel
theorem dX13_flows_186 : decode cX13_flows 186 = .ok (.iload_n 1, 1) := by decide +kernel
theorem dX13_flows_187 : decode cX13_flows 187 = .ok (.iload_n 2, 1) := by decide +kernel
theorem dX13_flows_188 : decode cX13_flows 188 = .ok (.iload 6, 2) := by decide +kernel
theorem dX13_flows_190 : decode cX13_flows 190 = .ok (.invokevirtual 922, 3) := by decide +kernel
theorem dX13_flows_193 : decode cX13_flows 193 = .ok (.ireturn, 1) := by decide +kernel
theorem dX13_flows_194 : decode cX13_flows 194 = .ok (.iload 7, 2) := by decide +kernel
theorem dX13_flows_196 : decode cX13_flows 196 = .ok (.iconst (-1), 1) := by decide +kernel
theorem dX13_flows_197 : decode cX13_flows 197 = .ok (.if_icmp .eq 43, 3) := by decide +kernel
theorem dX13_flows_200 : decode cX13_flows 200 = .ok (.iload 5, 2) := by decide +kernel
theorem dX13_flows_202 : decode cX13_flows 202 = .ok (.ifCond .eq 32, 3) := by decide +kernel
theorem dX13_flows_205 : decode cX13_flows 205 = .ok (.aload_n 0, 1) := by decide +kernel
theorem dX13_flows_206 : decode cX13_flows 206 = .ok (.iload 7, 2) := by decide +kernel
theorem dX13_flows_208 : decode cX13_flows 208 = .ok (.invokevirtual 1001, 3) := by decide +kernel
theorem dX13_flows_211 : decode cX13_flows 211 = .ok (.ifCond .eq 12, 3) := by decide +kernel
theorem dX13_flows_214 : decode cX13_flows 214 = .ok (.aload_n 0, 1) := by decide +kernel
theorem dX13_flows_215 : decode cX13_flows 215 = .ok (.iload 7, 2) := by decide +kernel
theorem dX13_flows_217 : decode cX13_flows 217 = .ok (.invokevirtual 1004, 3) := by decide +kernel
theorem dX13_flows_220 : decode cX13_flows 220 = .ok (.ifCond .ne 14, 3) := by decide +kernel
theorem dX13_flows_223 : decode cX13_flows 223 = .ok (.aload_n 0, 1) := by decide +kernel
theorem dX13_flows_224 : decode cX13_flows 224 = .ok (.bipush 12, 2) := by decide +kernel
theorem dX13_flows_226 : decode cX13_flows 226 = .ok (.iload_n 1, 1) := by decide +kernel
theorem dX13_flows_227 : decode cX13_flows 227 = .ok (.iload_n 2, 1) := by decide +kernel
theorem dX13_flows_228 : decode cX13_flows 228 = .ok (.iload 6, 2) := by decide +kernel
theorem dX13_flows_230 : decode cX13_flows 230 = .ok (.invokevirtual 922, 3) := by decide +kernel
theorem dX13_flows_233 : decode cX13_flows 233 = .ok (.ireturn, 1) := by decide +kernel
theorem dX13_flows_234 : decode cX13_flows 234 = .ok (.aload_n 0, 1) := by decide +kernel
theorem dX13_flows_235 : decode cX13_flows 235 = .ok (.iload 7, 2) := by decide +kernel
theorem dX13_flows_237 : decode cX13_flows 237 = .ok (.invokevirtual 1007, 3) := by decide +kernel
theorem dX13_flows_240 : decode cX13_flows 240 = .ok (.aload_n 0, 1) := by decide +kernel
theorem dX13_flows_241 : decode cX13_flows 241 = .ok (.iload 6, 2) := by decide +kernel
theorem dX13_flows_243 : decode cX13_flows 243 = .ok (.invokevirtual 1010, 3) := by decide +kernel
theorem dX13_flows_246 : decode cX13_flows 246 = .ok (.ifCond .ne 14, 3) := by decide +kernel
theorem dX13_flows_249 : decode cX13_flows 249 = .ok (.aload_n 0, 1) := by decide +kernel
theorem dX13_flows_250 : decode cX13_flows 250 = .ok (.bipush 12, 2) := by decide +kernel
theorem dX13_flows_252 : decode cX13_flows 252 = .ok (.iload_n 1, 1) := by decide +kernel
theorem dX13_flows_253 : decode cX13_flows 253 = .ok (.iload_n 2, 1) := by decide +kernel
theorem dX13_flows_254 : decode cX13_flows 254 = .ok (.iload 6, 2) := by decide +kernel
theorem dX13_flows_256 : decode cX13_flows 256 = .ok (.invokevirtual 922, 3) := by decide +kernel
theorem dX13_flows_259 : decode cX13_flows 259 = .ok (.ireturn, 1) := by decide +kernel
theorem dX13_flows_260 : decode cX13_flows 260 = .ok (.aload_n 0, 1) := by decide +kernel
theorem dX13_flows_261 : decode cX13_flows 261 = .ok (.iload 6, 2) := by decide +kernel
theorem dX13_flows_263 : decode cX13_flows 263 = .ok (.invokevirtual 1013, 3) := by decide +kernel
theorem dX13_flows_266 : decode cX13_flows 266 = .ok (.ifCond .ne 14, 3) := by decide +kernel
theorem dX13_flows_269 : decode cX13_flows 269 = .ok (.aload_n 0, 1) := by decide +kernel
theorem dX13_flows_270 : decode cX13_flows 270 = .ok (.bipush 11, 2) := by decide +kernel
theorem dX13_flows_272 : decode cX13_flows 272 = .ok (.iload_n 1, 1) := by decide +kernel
theorem dX13_flows_273 : decode cX13_flows 273 = .ok (.iload_n 2, 1) := by decide +kernel
theorem dX13_flows_274 : decode cX13_flows 274 = .ok (.iload 6, 2) := by decide +kernel
theorem dX13_flows_276 : decode cX13_flows 276 = .ok (.invokevirtual 922, 3) := by decide +kernel
theorem dX13_flows_279 : decode cX13_flows 279 = .ok (.ireturn, 1) := by decide +kernel
theorem dX13_flows_280 : decode cX13_flows 280 = .ok (.aload_n 0, 1) := by decide +kernel
theorem dX13_flows_281 : decode cX13_flows 281 = .ok (.iload 6, 2) := by decide +kernel
theorem dX13_flows_283 : decode cX13_flows 283 = .ok (.invokevirtual 1016, 3) := by decide +kernel
theorem dX13_flows_286 : decode cX13_flows 286 = .ok (.ifCond .ne 14, 3) := by decide +kernel
theorem dX13_flows_289 : decode cX13_flows 289 = .ok (.aload_n 0, 1) := by decide +kernel
theorem dX13_flows_290 : decode cX13_flows 290 = .ok (.bipush 12, 2) := by decide +kernel
theorem dX13_flows_292 : decode cX13_flows 292 = .ok (.iload_n 1, 1) := by decide +kernel
theorem dX13_flows_293 : decode cX13_flows 293 = .ok (.iload_n 2, 1) := by decide +kernel
theorem dX13_flows_294 : decode cX13_flows 294 = .ok (.iload 6, 2) := by decide +kernel
theorem dX13_flows_296 : decode cX13_flows 296 = .ok (.invokevirtual 922, 3) := by decide +kernel
theorem dX13_flows_299 : decode cX13_flows 299 = .ok (.ireturn, 1) := by decide +kernel
theorem dX13_flows_300 : decode cX13_flows 300 = .ok (.aload_n 0, 1) := by decide +kernel
theorem dX13_flows_301 : decode cX13_flows 301 = .ok (.iload 6, 2) := by decide +kernel
theorem dX13_flows_303 : decode cX13_flows 303 = .ok (.invokevirtual 938, 3) := by decide +kernel
theorem dX13_flows_306 : decode cX13_flows 306 = .ok (.istore 8, 2) := by decide +kernel
theorem dX13_flows_308 : decode cX13_flows 308 = .ok (.iload 8, 2) := by decide +kernel
theorem dX13_flows_310 : decode cX13_flows 310 = .ok (.invokestatic 978, 3) := by decide +kernel
theorem dX13_flows_313 : decode cX13_flows 313 = .ok (.ifCond .eq 50, 3) := by decide +kernel
theorem dX13_flows_316 : decode cX13_flows 316 = .ok (.aload_n 0, 1) := by decide +kernel
theorem dX13_flows_317 : decode cX13_flows 317 = .ok (.aload_n 0, 1) := by decide +kernel
theorem dX13_flows_318 : decode cX13_flows 318 = .ok (.iload 6, 2) := by decide +kernel
theorem dX13_flows_320 : decode cX13_flows 320 = .ok (.invokevirtual 981, 3) := by decide +kernel
theorem dX13_flows_323 : decode cX13_flows 323 = .ok (.invokevirtual 995, 3) := by decide +kernel
theorem dX13_flows_326 : decode cX13_flows 326 = .ok (.istore 9, 2) := by decide +kernel
theorem dX13_flows_328 : decode cX13_flows 328 = .ok (.iload 9, 2) := by decide +kernel
theorem dX13_flows_330 : decode cX13_flows 330 = .ok (.iconst (-1), 1) := by decide +kernel
theorem dX13_flows_331 : decode cX13_flows 331 = .ok (.if_icmp .eq 21, 3) := by decide +kernel
theorem dX13_flows_334 : decode cX13_flows 334 = .ok (.aload_n 0, 1) := by decide +kernel
theorem dX13_flows_335 : decode cX13_flows 335 = .ok (.iload 9, 2) := by decide +kernel
theorem dX13_flows_337 : decode cX13_flows 337 = .ok (.invokevirtual 1001, 3) := by decide +kernel
theorem dX13_flows_340 : decode cX13_flows 340 = .ok (.ifCond .eq 12, 3) := by decide +kernel
theorem dX13_flows_343 : decode cX13_flows 343 = .ok (.aload_n 0, 1) := by decide +kernel
theorem dX13_flows_344 : decode cX13_flows 344 = .ok (.iload 9, 2) := by decide +kernel
theorem dX13_flows_346 : decode cX13_flows 346 = .ok (.invokevirtual 1004, 3) := by decide +kernel
theorem dX13_flows_349 : decode cX13_flows 349 = .ok (.ifCond .ne 14, 3) := by decide +kernel
theorem dX13_flows_352 : decode cX13_flows 352 = .ok (.aload_n 0, 1) := by decide +kernel
theorem dX13_flows_353 : decode cX13_flows 353 = .ok (.bipush 12, 2) := by decide +kernel
theorem dX13_flows_355 : decode cX13_flows 355 = .ok (.iload_n 1, 1) := by decide +kernel
theorem dX13_flows_356 : decode cX13_flows 356 = .ok (.iload_n 2, 1) := by decide +kernel
theorem dX13_flows_357 : decode cX13_flows 357 = .ok (.iload 6, 2) := by decide +kernel
theorem dX13_flows_359 : decode cX13_flows 359 = .ok (.invokevirtual 922, 3) := by decide +kernel
theorem dX13_flows_362 : decode cX13_flows 362 = .ok (.ireturn, 1) := by decide +kernel
theorem dX13_flows_363 : decode cX13_flows 363 = .ok (.iload 8, 2) := by decide +kernel
theorem dX13_flows_365 : decode cX13_flows 365 = .ok (.sipush 167, 3) := by decide +kernel
theorem dX13_flows_368 : decode cX13_flows 368 = .ok (.if_icmp .eq 39, 3) := by decide +kernel
theorem dX13_flows_371 : decode cX13_flows 371 = .ok (.iload 8, 2) := by decide +kernel
theorem dX13_flows_373 : decode cX13_flows 373 = .ok (.sipush 172, 3) := by decide +kernel
theorem dX13_flows_376 : decode cX13_flows 376 = .ok (.if_icmp .eq 31, 3) := by decide +kernel
theorem dX13_flows_379 : decode cX13_flows 379 = .ok (.iload 8, 2) := by decide +kernel
theorem dX13_flows_381 : decode cX13_flows 381 = .ok (.sipush 176, 3) := by decide +kernel
theorem dX13_flows_384 : decode cX13_flows 384 = .ok (.if_icmp .eq 23, 3) := by decide +kernel
theorem dX13_flows_387 : decode cX13_flows 387 = .ok (.iload 8, 2) := by decide +kernel
theorem dX13_flows_389 : decode cX13_flows 389 = .ok (.sipush 177, 3) := by decide +kernel
theorem dX13_flows_392 : decode cX13_flows 392 = .ok (.if_icmp .eq 15, 3) := by decide +kernel
theorem dX13_flows_395 : decode cX13_flows 395 = .ok (.iload 8, 2) := by decide +kernel
theorem dX13_flows_397 : decode cX13_flows 397 = .ok (.sipush 191, 3) := by decide +kernel
theorem dX13_flows_400 : decode cX13_flows 400 = .ok (.if_icmp .eq 7, 3) := by decide +kernel
theorem dX13_flows_403 : decode cX13_flows 403 = .ok (.iconst 1, 1) := by decide +kernel
theorem dX13_flows_404 : decode cX13_flows 404 = .ok (.goto 4, 3) := by decide +kernel
theorem dX13_flows_407 : decode cX13_flows 407 = .ok (.iconst 0, 1) := by decide +kernel
theorem dX13_flows_408 : decode cX13_flows 408 = .ok (.istore 5, 2) := by decide +kernel
theorem dX13_flows_410 : decode cX13_flows 410 = .ok (.iload 6, 2) := by decide +kernel
theorem dX13_flows_412 : decode cX13_flows 412 = .ok (.aload_n 0, 1) := by decide +kernel
theorem dX13_flows_413 : decode cX13_flows 413 = .ok (.iload 6, 2) := by decide +kernel
theorem dX13_flows_415 : decode cX13_flows 415 = .ok (.invokevirtual 938, 3) := by decide +kernel
theorem dX13_flows_418 : decode cX13_flows 418 = .ok (.invokestatic 975, 3) := by decide +kernel
theorem dX13_flows_421 : decode cX13_flows 421 = .ok (.iadd, 1) := by decide +kernel
theorem dX13_flows_422 : decode cX13_flows 422 = .ok (.istore 6, 2) := by decide +kernel
theorem dX13_flows_424 : decode cX13_flows 424 = .ok (.goto (-269), 3) := by decide +kernel
theorem dX13_flows_427 : decode cX13_flows 427 = .ok (.iload 5, 2) := by decide +kernel
theorem dX13_flows_429 : decode cX13_flows 429 = .ok (.ifCond .eq 18, 3) := by decide +kernel
theorem dX13_flows_432 : decode cX13_flows 432 = .ok (.aload_n 0, 1) := by decide +kernel
theorem dX13_flows_433 : decode cX13_flows 433 = .ok (.bipush 10, 2) := by decide +kernel
theorem dX13_flows_435 : decode cX13_flows 435 = .ok (.iload_n 1, 1) := by decide +kernel
theorem dX13_flows_436 : decode cX13_flows 436 = .ok (.iload_n 2, 1) := by decide +kernel
theorem dX13_flows_437 : decode cX13_flows 437 = .ok (.aload_n 0, 1) := by decide +kernel
theorem dX13_flows_438 : decode cX13_flows 438 = .ok (.getfield 970, 3) := by decide +kernel
theorem dX13_flows_441 : decode cX13_flows 441 = .ok (.invokevirtual 922, 3) := by decide +kernel
theorem dX13_flows_444 : decode cX13_flows 444 = .ok (.goto 4, 3) := by decide +kernel
theorem dX13_flows_447 : decode cX13_flows 447 = .ok (.iconst 1, 1) := by decide +kernel
theorem dX13_flows_448 : decode cX13_flows 448 = .ok (.ireturn, 1) := by decide +kernel
theorem dX13_handled_0 : decode cX13_handled 0 = .ok (.aload_n 0, 1) := by decide +kernel
theorem dX13_handled_1 : decode cX13_handled 1 = .ok (.getfield 239, 3) := by decide +kernel
theorem dX13_handled_4 : decode cX13_handled 4 = .ok (.bipush 12, 2) := by decide +kernel
theorem dX13_handled_6 : decode cX13_handled 6 = .ok (.aload_n 0, 1) := by decide +kernel
theorem dX13_handled_7 : decode cX13_handled 7 = .ok (.getfield 932, 3) := by decide +kernel
theorem dX13_handled_10 : decode cX13_handled 10 = .ok (.imul, 1) := by decide +kernel
theorem dX13_handled_11 : decode cX13_handled 11 = .ok (.aload_n 0, 1) := by decide +kernel
theorem dX13_handled_12 : decode cX13_handled 12 = .ok (.getfield 940, 3) := by decide +kernel
theorem dX13_handled_15 : decode cX13_handled 15 = .ok (.iadd, 1) := by decide +kernel
theorem dX13_handled_16 : decode cX13_handled 16 = .ok (.iaload, 1) := by decide +kernel
theorem dX13_handled_17 : decode cX13_handled 17 = .ok (.istore_n 2, 1) := by decide +kernel
theorem dX13_handled_18 : decode cX13_handled 18 = .ok (.iconst 0, 1) := by decide +kernel
theorem dX13_handled_19 : decode cX13_handled 19 = .ok (.istore_n 3, 1) := by decide +kernel
theorem dX13_handled_20 : decode cX13_handled 20 = .ok (.iload_n 3, 1) := by decide +kernel
theorem dX13_handled_21 : decode cX13_handled 21 = .ok (.aload_n 0, 1) := by decide +kernel
theorem dX13_handled_22 : decode cX13_handled 22 = .ok (.aload_n 0, 1) := by decide +kernel
theorem dX13_handled_23 : decode cX13_handled 23 = .ok (.getfield 932, 3) := by decide +kernel
theorem dX13_handled_26 : decode cX13_handled 26 = .ok (.iload_n 2, 1) := by decide +kernel
theorem dX13_handled_27 : decode cX13_handled 27 = .ok (.invokevirtual 864, 3) := by decide +kernel
theorem dX13_handled_30 : decode cX13_handled 30 = .ok (.if_icmp .ge 131, 3) := by decide +kernel
theorem dX13_handled_33 : decode cX13_handled 33 = .ok (.iload_n 2, 1) := by decide +kernel
theorem dX13_handled_34 : decode cX13_handled 34 = .ok (.iconst 1, 1) := by decide +kernel
theorem dX13_handled_35 : decode cX13_handled 35 = .ok (.iadd, 1) := by decide +kernel
theorem dX13_handled_36 : decode cX13_handled 36 = .ok (.bipush 7, 2) := by decide +kernel
theorem dX13_handled_38 : decode cX13_handled 38 = .ok (.iload_n 3, 1) := by decide +kernel
theorem dX13_handled_39 : decode cX13_handled 39 = .ok (.imul, 1) := by decide +kernel
theorem dX13_handled_40 : decode cX13_handled 40 = .ok (.iadd, 1) := by decide +kernel
theorem dX13_handled_41 : decode cX13_handled 41 = .ok (.istore 4, 2) := by decide +kernel
theorem dX13_handled_43 : decode cX13_handled 43 = .ok (.iload_n 1, 1) := by decide +kernel
theorem dX13_handled_44 : decode cX13_handled 44 = .ok (.aload_n 0, 1) := by decide +kernel
theorem dX13_handled_45 : decode cX13_handled 45 = .ok (.iload 4, 2) := by decide +kernel
theorem dX13_handled_47 : decode cX13_handled 47 = .ok (.invokevirtual 949, 3) := by decide +kernel
theorem dX13_handled_50 : decode cX13_handled 50 = .ok (.if_icmp .lt 105, 3) := by decide +kernel
theorem dX13_handled_53 : decode cX13_handled 53 = .ok (.iload_n 1, 1) := by decide +kernel
theorem dX13_handled_54 : decode cX13_handled 54 = .ok (.aload_n 0, 1) := by decide +kernel
theorem dX13_handled_55 : decode cX13_handled 55 = .ok (.iload 4, 2) := by decide +kernel
theorem dX13_handled_57 : decode cX13_handled 57 = .ok (.iconst 2, 1) := by decide +kernel
theorem dX13_handled_58 : decode cX13_handled 58 = .ok (.iadd, 1) := by decide +kernel
theorem dX13_handled_59 : decode cX13_handled 59 = .ok (.invokevirtual 949, 3) := by decide +kernel
theorem dX13_handled_62 : decode cX13_handled 62 = .ok (.if_icmp .lt 6, 3) := by decide +kernel
theorem dX13_handled_65 : decode cX13_handled 65 = .ok (.goto 90, 3) := by decide +kernel
theorem dX13_handled_68 : decode cX13_handled 68 = .ok (.aload_n 0, 1) := by decide +kernel
theorem dX13_handled_69 : decode cX13_handled 69 = .ok (.aload_n 0, 1) := by decide +kernel
theorem dX13_handled_70 : decode cX13_handled 70 = .ok (.iload 4, 2) := by decide +kernel
theorem dX13_handled_72 : decode cX13_handled 72 = .ok (.iconst 4, 1) := by decide +kernel
theorem dX13_handled_73 : decode cX13_handled 73 = .ok (.iadd, 1) := by decide +kernel
theorem dX13_handled_74 : decode cX13_handled 74 = .ok (.invokevirtual 949, 3) := by decide +kernel
theorem dX13_handled_77 : decode cX13_handled 77 = .ok (.invokevirtual 995, 3) := by decide +kernel
theorem dX13_handled_80 : decode cX13_handled 80 = .ok (.istore 5, 2) := by decide +kernel
theorem dX13_handled_82 : decode cX13_handled 82 = .ok (.aload_n 0, 1) := by decide +kernel
theorem dX13_handled_83 : decode cX13_handled 83 = .ok (.iload 5, 2) := by decide +kernel
theorem dX13_handled_85 : decode cX13_handled 85 = .ok (.invokevirtual 1001, 3) := by decide +kernel
theorem dX13_handled_88 : decode cX13_handled 88 = .ok (.ifCond .ne 5, 3) := by decide +kernel
theorem dX13_handled_91 : decode cX13_handled 91 = .ok (.iconst 0, 1) := by decide +kernel
theorem dX13_handled_92 : decode cX13_handled 92 = .ok (.ireturn, 1) := by decide +kernel
theorem dX13_handled_93 : decode cX13_handled 93 = .ok (.aload_n 0, 1) := by decide +kernel
theorem dX13_handled_94 : decode cX13_handled 94 = .ok (.iload 5, 2) := by decide +kernel
theorem dX13_handled_96 : decode cX13_handled 96 = .ok (.iconst 2, 1) := by decide +kernel
theorem dX13_handled_97 : decode cX13_handled 97 = .ok (.iadd, 1) := by decide +kernel
theorem dX13_handled_98 : decode cX13_handled 98 = .ok (.invokevirtual 943, 3) := by decide +kernel
theorem dX13_handled_101 : decode cX13_handled 101 = .ok (.istore 6, 2) := by decide +kernel
theorem dX13_handled_103 : decode cX13_handled 103 = .ok (.aload_n 0, 1) := by decide +kernel
theorem dX13_handled_104 : decode cX13_handled 104 = .ok (.aload_n 0, 1) := by decide +kernel
theorem dX13_handled_105 : decode cX13_handled 105 = .ok (.getfield 932, 3) := by decide +kernel
theorem dX13_handled_108 : decode cX13_handled 108 = .ok (.iload 6, 2) := by decide +kernel
theorem dX13_handled_110 : decode cX13_handled 110 = .ok (.invokevirtual 864, 3) := by decide +kernel
theorem dX13_handled_113 : decode cX13_handled 113 = .ok (.iconst 1, 1) := by decide +kernel
theorem dX13_handled_114 : decode cX13_handled 114 = .ok (.if_icmp .ne 39, 3) := by decide +kernel
theorem dX13_handled_117 : decode cX13_handled 117 = .ok (.aload_n 0, 1) := by decide +kernel
theorem dX13_handled_118 : decode cX13_handled 118 = .ok (.aload_n 0, 1) := by decide +kernel
theorem dX13_handled_119 : decode cX13_handled 119 = .ok (.aload_n 0, 1) := by decide +kernel
theorem dX13_handled_120 : decode cX13_handled 120 = .ok (.getfield 932, 3) := by decide +kernel
theorem dX13_handled_123 : decode cX13_handled 123 = .ok (.aload_n 0, 1) := by decide +kernel
theorem dX13_handled_124 : decode cX13_handled 124 = .ok (.aload_n 0, 1) := by decide +kernel
theorem dX13_handled_125 : decode cX13_handled 125 = .ok (.getfield 932, 3) := by decide +kernel
theorem dX13_handled_128 : decode cX13_handled 128 = .ok (.iload 4, 2) := by decide +kernel
theorem dX13_handled_130 : decode cX13_handled 130 = .ok (.bipush 6, 2) := by decide +kernel
theorem dX13_handled_132 : decode cX13_handled 132 = .ok (.iadd, 1) := by decide +kernel
theorem dX13_handled_133 : decode cX13_handled 133 = .ok (.invokevirtual 864, 3) := by decide +kernel
theorem dX13_handled_136 : decode cX13_handled 136 = .ok (.invokevirtual 952, 3) := by decide +kernel
theorem dX13_handled_139 : decode cX13_handled 139 = .ok (.aload_n 0, 1) := by decide +kernel
theorem dX13_handled_140 : decode cX13_handled 140 = .ok (.iload 6, 2) := by decide +kernel
theorem dX13_handled_142 : decode cX13_handled 142 = .ok (.iconst 1, 1) := by decide +kernel
theorem dX13_handled_143 : decode cX13_handled 143 = .ok (.iadd, 1) := by decide +kernel
theorem dX13_handled_144 : decode cX13_handled 144 = .ok (.invokevirtual 955, 3) := by decide +kernel
theorem dX13_handled_147 : decode cX13_handled 147 = .ok (.invokevirtual 958, 3) := by decide +kernel
theorem dX13_handled_150 : decode cX13_handled 150 = .ok (.ifCond .ne 5, 3) := by decide +kernel
theorem dX13_handled_153 : decode cX13_handled 153 = .ok (.iconst 0, 1) := by decide +kernel
theorem dX13_handled_154 : decode cX13_handled 154 = .ok (.ireturn, 1) := by decide +kernel
theorem dX13_handled_155 : decode cX13_handled 155 = .ok (.iinc 3 1, 3) := by decide +kernel
theorem dX13_handled_158 : decode cX13_handled 158 = .ok (.goto (-138), 3) := by decide +kernel
theorem dX13_handled_161 : decode cX13_handled 161 = .ok (.iconst 1, 1) := by decide +kernel
theorem dX13_handled_162 : decode cX13_handled 162 = .ok (.ireturn, 1) := by decide +kernel
theorem dX13_right_0 : decode cX13_right 0 = .ok (.aload_n 0, 1) := by decide +kernel
theorem dX13_right_1 : decode cX13_right 1 = .ok (.iload_n 1, 1) := by decide +kernel
theorem dX13_right_2 : decode cX13_right 2 = .ok (.invokevirtual 938, 3) := by decide +kernel
theorem dX13_right_5 : decode cX13_right 5 = .ok (.istore_n 2, 1) := by decide +kernel
theorem dX13_right_6 : decode cX13_right 6 = .ok (.iload_n 2, 1) := by decide +kernel
theorem dX13_right_7 : decode cX13_right 7 = .ok (.invokestatic 975, 3) := by decide +kernel
theorem dX13_right_10 : decode cX13_right 10 = .ok (.iconst 2, 1) := by decide +kernel
theorem dX13_right_11 : decode cX13_right 11 = .ok (.if_icmp .ne 13, 3) := by decide +kernel
theorem dX13_right_14 : decode cX13_right 14 = .ok (.aload_n 0, 1) := by decide +kernel
theorem dX13_right_15 : decode cX13_right 15 = .ok (.iload_n 1, 1) := by decide +kernel
theorem dX13_right_16 : decode cX13_right 16 = .ok (.iconst 1, 1) := by decide +kernel
theorem dX13_right_17 : decode cX13_right 17 = .ok (.iadd, 1) := by decide +kernel
theorem dX13_right_18 : decode cX13_right 18 = .ok (.invokevirtual 938, 3) := by decide +kernel
theorem dX13_right_21 : decode cX13_right 21 = .ok (.goto 4, 3) := by decide +kernel
theorem dX13_right_24 : decode cX13_right 24 = .ok (.iconst 0, 1) := by decide +kernel
theorem dX13_right_25 : decode cX13_right 25 = .ok (.istore_n 3, 1) := by decide +kernel
theorem dX13_right_26 : decode cX13_right 26 = .ok (.iload_n 2, 1) := by decide +kernel
theorem dX13_right_27 : decode cX13_right 27 = .ok (.lookupswitch 338 #[(18, 89), (180, 160), (181, 160), (182, 160), (184, 160), (187, 104), (188, 148), (189, 104), (192, 104), (193, 104)], 89) := by decide +kernel
theorem dX13_right_116 : decode cX13_right 116 = .ok (.aload_n 0, 1) := by decide +kernel
theorem dX13_right_117 : decode cX13_right 117 = .ok (.iload_n 3, 1) := by decide +kernel
theorem dX13_right_118 : decode cX13_right 118 = .ok (.invokevirtual 1019, 3) := by decide +kernel
theorem dX13_right_121 : decode cX13_right 121 = .ok (.iconst 2, 1) := by decide +kernel
theorem dX13_right_122 : decode cX13_right 122 = .ok (.if_icmp .ne 7, 3) := by decide +kernel
theorem dX13_right_125 : decode cX13_right 125 = .ok (.iconst 1, 1) := by decide +kernel
theorem dX13_right_126 : decode cX13_right 126 = .ok (.goto 4, 3) := by decide +kernel
theorem dX13_right_129 : decode cX13_right 129 = .ok (.iconst 0, 1) := by decide +kernel
theorem dX13_right_130 : decode cX13_right 130 = .ok (.ireturn, 1) := by decide +kernel
theorem dX13_right_131 : decode cX13_right 131 = .ok (.aload_n 0, 1) := by decide +kernel
theorem dX13_right_132 : decode cX13_right 132 = .ok (.iload_n 3, 1) := by decide +kernel
theorem dX13_right_133 : decode cX13_right 133 = .ok (.invokevirtual 1019, 3) := by decide +kernel
theorem dX13_right_136 : decode cX13_right 136 = .ok (.iconst 3, 1) := by decide +kernel
theorem dX13_right_137 : decode cX13_right 137 = .ok (.if_icmp .eq 5, 3) := by decide +kernel
theorem dX13_right_140 : decode cX13_right 140 = .ok (.iconst 0, 1) := by decide +kernel
theorem dX13_right_141 : decode cX13_right 141 = .ok (.ireturn, 1) := by decide +kernel
theorem dX13_right_142 : decode cX13_right 142 = .ok (.aload_n 0, 1) := by decide +kernel
theorem dX13_right_143 : decode cX13_right 143 = .ok (.aload_n 0, 1) := by decide +kernel
theorem dX13_right_144 : decode cX13_right 144 = .ok (.getfield 932, 3) := by decide +kernel
theorem dX13_right_147 : decode cX13_right 147 = .ok (.iload_n 3, 1) := by decide +kernel
theorem dX13_right_148 : decode cX13_right 148 = .ok (.invokevirtual 952, 3) := by decide +kernel
theorem dX13_right_151 : decode cX13_right 151 = .ok (.istore 4, 2) := by decide +kernel
theorem dX13_right_153 : decode cX13_right 153 = .ok (.iload 4, 2) := by decide +kernel
theorem dX13_right_155 : decode cX13_right 155 = .ok (.invokestatic 916, 3) := by decide +kernel
theorem dX13_right_158 : decode cX13_right 158 = .ok (.ifCond .eq 15, 3) := by decide +kernel
theorem dX13_right_161 : decode cX13_right 161 = .ok (.iload 4, 2) := by decide +kernel
theorem dX13_right_163 : decode cX13_right 163 = .ok (.invokestatic 888, 3) := by decide +kernel
theorem dX13_right_166 : decode cX13_right 166 = .ok (.ifCond .ne 7, 3) := by decide +kernel
theorem dX13_right_169 : decode cX13_right 169 = .ok (.iconst 1, 1) := by decide +kernel
theorem dX13_right_170 : decode cX13_right 170 = .ok (.goto 4, 3) := by decide +kernel
theorem dX13_right_173 : decode cX13_right 173 = .ok (.iconst 0, 1) := by decide +kernel
theorem dX13_right_174 : decode cX13_right 174 = .ok (.ireturn, 1) := by decide +kernel
theorem dX13_right_175 : decode cX13_right 175 = .ok (.iload_n 3, 1) := by decide +kernel
theorem dX13_right_176 : decode cX13_right 176 = .ok (.bipush 10, 2) := by decide +kernel
theorem dX13_right_178 : decode cX13_right 178 = .ok (.if_icmp .ne 7, 3) := by decide +kernel
theorem dX13_right_181 : decode cX13_right 181 = .ok (.iconst 1, 1) := by decide +kernel
theorem dX13_right_182 : decode cX13_right 182 = .ok (.goto 4, 3) := by decide +kernel
theorem dX13_right_185 : decode cX13_right 185 = .ok (.iconst 0, 1) := by decide +kernel
theorem dX13_right_186 : decode cX13_right 186 = .ok (.ireturn, 1) := by decide +kernel
theorem dX13_right_187 : decode cX13_right 187 = .ok (.aload_n 0, 1) := by decide +kernel
theorem dX13_right_188 : decode cX13_right 188 = .ok (.iload_n 3, 1) := by decide +kernel
theorem dX13_right_189 : decode cX13_right 189 = .ok (.invokevirtual 1019, 3) := by decide +kernel
theorem dX13_right_192 : decode cX13_right 192 = .ok (.iconst 4, 1) := by decide +kernel
theorem dX13_right_193 : decode cX13_right 193 = .ok (.if_icmp .eq 5, 3) := by decide +kernel
theorem dX13_right_196 : decode cX13_right 196 = .ok (.iconst 0, 1) := by decide +kernel
theorem dX13_right_197 : decode cX13_right 197 = .ok (.ireturn, 1) := by decide +kernel
theorem dX13_right_198 : decode cX13_right 198 = .ok (.aload_n 0, 1) := by decide +kernel
theorem dX13_right_199 : decode cX13_right 199 = .ok (.aload_n 0, 1) := by decide +kernel
theorem dX13_right_200 : decode cX13_right 200 = .ok (.getfield 932, 3) := by decide +kernel
theorem dX13_right_203 : decode cX13_right 203 = .ok (.aload_n 0, 1) := by decide +kernel
theorem dX13_right_204 : decode cX13_right 204 = .ok (.iload_n 3, 1) := by decide +kernel
theorem dX13_right_205 : decode cX13_right 205 = .ok (.iconst 0, 1) := by decide +kernel
theorem dX13_right_206 : decode cX13_right 206 = .ok (.invokevirtual 1022, 3) := by decide +kernel
theorem dX13_right_209 : decode cX13_right 209 = .ok (.invokevirtual 952, 3) := by decide +kernel
theorem dX13_right_212 : decode cX13_right 212 = .ok (.istore 5, 2) := by decide +kernel
theorem dX13_right_214 : decode cX13_right 214 = .ok (.iload 5, 2) := by decide +kernel
theorem dX13_right_216 : decode cX13_right 216 = .ok (.invokestatic 888, 3) := by decide +kernel
theorem dX13_right_219 : decode cX13_right 219 = .ok (.ifCond .ne 11, 3) := by decide +kernel
theorem dX13_right_222 : decode cX13_right 222 = .ok (.iload 5, 2) := by decide +kernel
theorem dX13_right_224 : decode cX13_right 224 = .ok (.invokestatic 916, 3) := by decide +kernel
theorem dX13_right_227 : decode cX13_right 227 = .ok (.ifCond .ne 5, 3) := by decide +kernel
theorem dX13_right_230 : decode cX13_right 230 = .ok (.iconst 0, 1) := by decide +kernel
theorem dX13_right_231 : decode cX13_right 231 = .ok (.ireturn, 1) := by decide +kernel
theorem dX13_right_232 : decode cX13_right 232 = .ok (.iload_n 2, 1) := by decide +kernel
theorem dX13_right_233 : decode cX13_right 233 = .ok (.sipush 181, 3) := by decide +kernel
theorem dX13_right_236 : decode cX13_right 236 = .ok (.if_icmp .le 7, 3) := by decide +kernel
theorem dX13_right_239 : decode cX13_right 239 = .ok (.iconst 1, 1) := by decide +kernel
theorem dX13_right_240 : decode cX13_right 240 = .ok (.goto 4, 3) := by decide +kernel
theorem dX13_right_243 : decode cX13_right 243 = .ok (.iconst 0, 1) := by decide +kernel
theorem dX13_right_244 : decode cX13_right 244 = .ok (.istore 6, 2) := by decide +kernel
theorem dX13_right_246 : decode cX13_right 246 = .ok (.aload_n 0, 1) := by decide +kernel
theorem dX13_right_247 : decode cX13_right 247 = .ok (.iload 5, 2) := by decide +kernel
theorem dX13_right_249 : decode cX13_right 249 = .ok (.iconst 4, 1) := by decide +kernel
theorem dX13_right_250 : decode cX13_right 250 = .ok (.isub, 1) := by decide +kernel
theorem dX13_right_251 : decode cX13_right 251 = .ok (.iconst 2, 1) := by decide +kernel
theorem dX13_right_252 : decode cX13_right 252 = .ok (.idiv, 1) := by decide +kernel
theorem dX13_right_253 : decode cX13_right 253 = .ok (.aload_n 0, 1) := by decide +kernel
theorem dX13_right_254 : decode cX13_right 254 = .ok (.getfield 932, 3) := by decide +kernel
theorem dX13_right_257 : decode cX13_right 257 = .ok (.aload_n 0, 1) := by decide +kernel
theorem dX13_right_258 : decode cX13_right 258 = .ok (.iload_n 3, 1) := by decide +kernel
theorem dX13_right_259 : decode cX13_right 259 = .ok (.iconst 1, 1) := by decide +kernel
theorem dX13_right_260 : decode cX13_right 260 = .ok (.invokevirtual 1022, 3) := by decide +kernel
theorem dX13_right_263 : decode cX13_right 263 = .ok (.iload 6, 2) := by decide +kernel
theorem dX13_right_265 : decode cX13_right 265 = .ok (.invokevirtual 928, 3) := by decide +kernel
theorem dX13_right_268 : decode cX13_right 268 = .ok (.istore 7, 2) := by decide +kernel
theorem dX13_right_270 : decode cX13_right 270 = .ok (.iload 7, 2) := by decide +kernel
theorem dX13_right_272 : decode cX13_right 272 = .ok (.iconst (-1), 1) := by decide +kernel
theorem dX13_right_273 : decode cX13_right 273 = .ok (.if_icmp .ne 5, 3) := by decide +kernel
theorem dX13_right_276 : decode cX13_right 276 = .ok (.iconst 0, 1) := by decide +kernel
theorem dX13_right_277 : decode cX13_right 277 = .ok (.ireturn, 1) := by decide +kernel
theorem dX13_right_278 : decode cX13_right 278 = .ok (.iload 7, 2) := by decide +kernel
theorem dX13_right_280 : decode cX13_right 280 = .ok (.bipush 8, 2) := by decide +kernel
theorem dX13_right_282 : decode cX13_right 282 = .ok (.isub, 1) := by decide +kernel
theorem dX13_right_283 : decode cX13_right 283 = .ok (.istore 8, 2) := by decide +kernel
theorem dX13_right_285 : decode cX13_right 285 = .ok (.aload_n 0, 1) := by decide +kernel
theorem dX13_right_286 : decode cX13_right 286 = .ok (.iload 8, 2) := by decide +kernel
theorem dX13_right_288 : decode cX13_right 288 = .ok (.aload_n 0, 1) := by decide +kernel
theorem dX13_right_289 : decode cX13_right 289 = .ok (.iload 8, 2) := by decide +kernel
theorem dX13_right_291 : decode cX13_right 291 = .ok (.aload_n 0, 1) := by decide +kernel
theorem dX13_right_292 : decode cX13_right 292 = .ok (.getfield 898, 3) := by decide +kernel
theorem dX13_right_295 : decode cX13_right 295 = .ok (.iload 6, 2) := by decide +kernel
theorem dX13_right_297 : decode cX13_right 297 = .ok (.invokevirtual 910, 3) := by decide +kernel
theorem dX13_right_300 : decode cX13_right 300 = .ok (.aload_n 0, 1) := by decide +kernel
theorem dX13_right_301 : decode cX13_right 301 = .ok (.getfield 932, 3) := by decide +kernel
theorem dX13_right_304 : decode cX13_right 304 = .ok (.aload_n 0, 1) := by decide +kernel
theorem dX13_right_305 : decode cX13_right 305 = .ok (.iload_n 3, 1) := by decide +kernel
theorem dX13_right_306 : decode cX13_right 306 = .ok (.iconst 2, 1) := by decide +kernel
theorem dX13_right_307 : decode cX13_right 307 = .ok (.invokevirtual 1022, 3) := by decide +kernel
theorem dX13_right_310 : decode cX13_right 310 = .ok (.invokevirtual 894, 3) := by decide +kernel
theorem dX13_right_313 : decode cX13_right 313 = .ok (.ifCond .ne 5, 3) := by decide +kernel
theorem dX13_right_316 : decode cX13_right 316 = .ok (.iconst 0, 1) := by decide +kernel
theorem dX13_right_317 : decode cX13_right 317 = .ok (.ireturn, 1) := by decide +kernel
theorem dX13_right_318 : decode cX13_right 318 = .ok (.iload 6, 2) := by decide +kernel
theorem dX13_right_320 : decode cX13_right 320 = .ok (.ifCond .eq 39, 3) := by decide +kernel
theorem dX13_right_323 : decode cX13_right 323 = .ok (.aload_n 0, 1) := by decide +kernel
theorem dX13_right_324 : decode cX13_right 324 = .ok (.iload 8, 2) := by decide +kernel
theorem dX13_right_326 : decode cX13_right 326 = .ok (.aload_n 0, 1) := by decide +kernel
theorem dX13_right_327 : decode cX13_right 327 = .ok (.getfield 236, 3) := by decide +kernel
theorem dX13_right_330 : decode cX13_right 330 = .ok (.bipush 12, 2) := by decide +kernel
theorem dX13_right_332 : decode cX13_right 332 = .ok (.iload 8, 2) := by decide +kernel
theorem dX13_right_334 : decode cX13_right 334 = .ok (.imul, 1) := by decide +kernel
theorem dX13_right_335 : decode cX13_right 335 = .ok (.aload_n 0, 1) := by decide +kernel
theorem dX13_right_336 : decode cX13_right 336 = .ok (.getfield 898, 3) := by decide +kernel
theorem dX13_right_339 : decode cX13_right 339 = .ok (.iadd, 1) := by decide +kernel
theorem dX13_right_340 : decode cX13_right 340 = .ok (.iaload, 1) := by decide +kernel
theorem dX13_right_341 : decode cX13_right 341 = .ok (.invokevirtual 864, 3) := by decide +kernel
theorem dX13_right_344 : decode cX13_right 344 = .ok (.iload_n 2, 1) := by decide +kernel
theorem dX13_right_345 : decode cX13_right 345 = .ok (.sipush 184, 3) := by decide +kernel
theorem dX13_right_348 : decode cX13_right 348 = .ok (.if_icmp .ne 7, 3) := by decide +kernel
theorem dX13_right_351 : decode cX13_right 351 = .ok (.iconst 1, 1) := by decide +kernel
theorem dX13_right_352 : decode cX13_right 352 = .ok (.goto 4, 3) := by decide +kernel
theorem dX13_right_355 : decode cX13_right 355 = .ok (.iconst 0, 1) := by decide +kernel
theorem dX13_right_356 : decode cX13_right 356 = .ok (.if_icmp .ne 7, 3) := by decide +kernel
theorem dX13_right_359 : decode cX13_right 359 = .ok (.iconst 1, 1) := by decide +kernel
theorem dX13_right_360 : decode cX13_right 360 = .ok (.goto 4, 3) := by decide +kernel
theorem dX13_right_363 : decode cX13_right 363 = .ok (.iconst 0, 1) := by decide +kernel
theorem dX13_right_364 : decode cX13_right 364 = .ok (.ireturn, 1) := by decide +kernel
theorem dX13_right_365 : decode cX13_right 365 = .ok (.iconst 1, 1) := by decide +kernel
theorem dX13_right_366 : decode cX13_right 366 = .ok (.ireturn, 1) := by decide +kernel
theorem dX13_pullFit_0 : decode cX13_pullFit 0 = .ok (.aload_n 0, 1) := by decide +kernel
theorem dX13_pullFit_1 : decode cX13_pullFit 1 = .ok (.invokevirtual 1025, 3) := by decide +kernel
theorem dX13_pullFit_4 : decode cX13_pullFit 4 = .ok (.istore_n 2, 1) := by decide +kernel
theorem dX13_pullFit_5 : decode cX13_pullFit 5 = .ok (.iload_n 2, 1) := by decide +kernel
theorem dX13_pullFit_6 : decode cX13_pullFit 6 = .ok (.iconst (-1), 1) := by decide +kernel
theorem dX13_pullFit_7 : decode cX13_pullFit 7 = .ok (.if_icmp .eq 16, 3) := by decide +kernel
theorem dX13_pullFit_10 : decode cX13_pullFit 10 = .ok (.aload_n 0, 1) := by decide +kernel
theorem dX13_pullFit_11 : decode cX13_pullFit 11 = .ok (.iload_n 2, 1) := by decide +kernel
theorem dX13_pullFit_12 : decode cX13_pullFit 12 = .ok (.iload_n 1, 1) := by decide +kernel
theorem dX13_pullFit_13 : decode cX13_pullFit 13 = .ok (.invokevirtual 958, 3) := by decide +kernel
theorem dX13_pullFit_16 : decode cX13_pullFit 16 = .ok (.ifCond .eq 7, 3) := by decide +kernel
theorem dX13_pullFit_19 : decode cX13_pullFit 19 = .ok (.iconst 1, 1) := by decide +kernel
theorem dX13_pullFit_20 : decode cX13_pullFit 20 = .ok (.goto 4, 3) := by decide +kernel
theorem dX13_pullFit_23 : decode cX13_pullFit 23 = .ok (.iconst 0, 1) := by decide +kernel
theorem dX13_pullFit_24 : decode cX13_pullFit 24 = .ok (.ireturn, 1) := by decide +kernel
theorem dX13_wanted_0 : decode cX13_wanted 0 = .ok (.aload_n 0, 1) := by decide +kernel
theorem dX13_wanted_1 : decode cX13_wanted 1 = .ok (.iload_n 1, 1) := by decide +kernel
theorem dX13_wanted_2 : decode cX13_wanted 2 = .ok (.invokevirtual 938, 3) := by decide +kernel
theorem dX13_wanted_5 : decode cX13_wanted 5 = .ok (.istore_n 2, 1) := by decide +kernel
theorem dX13_wanted_6 : decode cX13_wanted 6 = .ok (.iload_n 2, 1) := by decide +kernel
theorem dX13_wanted_7 : decode cX13_wanted 7 = .ok (.invokestatic 975, 3) := by decide +kernel
theorem dX13_wanted_10 : decode cX13_wanted 10 = .ok (.iconst 1, 1) := by decide +kernel
theorem dX13_wanted_11 : decode cX13_wanted 11 = .ok (.if_icmp .le 13, 3) := by decide +kernel
theorem dX13_wanted_14 : decode cX13_wanted 14 = .ok (.aload_n 0, 1) := by decide +kernel
theorem dX13_wanted_15 : decode cX13_wanted 15 = .ok (.iload_n 1, 1) := by decide +kernel
theorem dX13_wanted_16 : decode cX13_wanted 16 = .ok (.iconst 1, 1) := by decide +kernel
theorem dX13_wanted_17 : decode cX13_wanted 17 = .ok (.iadd, 1) := by decide +kernel
theorem dX13_wanted_18 : decode cX13_wanted 18 = .ok (.invokevirtual 938, 3) := by decide +kernel
theorem dX13_wanted_21 : decode cX13_wanted 21 = .ok (.goto 4, 3) := by decide +kernel
theorem dX13_wanted_24 : decode cX13_wanted 24 = .ok (.iconst 0, 1) := by decide +kernel
theorem dX13_wanted_25 : decode cX13_wanted 25 = .ok (.istore_n 3, 1) := by decide +kernel
theorem dX13_wanted_26 : decode cX13_wanted 26 = .ok (.iload_n 2, 1) := by decide +kernel
theorem dX13_wanted_27 : decode cX13_wanted 27 = .ok (.tableswitch 1615 0 192 #[785, 787, 793, 793, 793, 793, 793, 793, 793, 1615, 1615, 1615, 1615, 1615, 1615, 1615, 793, 1615, 793, 1615, 1615, 799, 1615, 1615, 1615, 831, 1615, 1615, 1615, 1615, 1615, 1615, 1615, 1615, 1615, 1615, 1615, 1615, 1615, 1615, 1615, 1615, 1615, 1615, 1615, 1615, 927, 1615, 1615, 1615, 969, 1615, 1615, 1615, 868, 1615, 1615, 1615, 895, 1615, 1615, 1615, 1615, 1615, 1615, 1615, 1615, 1615, 1615, 1615, 1615, 1615, 1615, 1615, 1615, 1615, 1615, 1615, 1615, 1028, 1615, 1615, 1615, 1062, 1615, 1615, 1615, 1111, 1615, 1125, 1615, 1615, 1615, 1615, 1615, 1615, 1156, 1615, 1615, 1615, 1156, 1615, 1615, 1615, 1156, 1615, 1615, 1615, 1156, 1615, 1615, 1615, 1156, 1615, 1615, 1615, 1178, 1615, 1615, 1615, 1156, 1615, 1156, 1615, 1156, 1615, 1156, 1615, 1156, 1615, 1156, 1615, 1615, 1615, 1615, 1615, 1615, 1615, 1615, 1615, 1615, 1615, 1615, 1615, 1615, 1615, 1615, 1615, 1615, 1615, 1615, 1615, 1615, 1200, 1200, 1615, 1615, 1615, 1615, 1206, 1206, 1206, 1206, 1206, 1206, 1212, 1212, 785, 1615, 1615, 1615, 1615, 1232, 1615, 1615, 1615, 1274, 1337, 1615, 1615, 1357, 1405, 1453, 1615, 1453, 1615, 1200, 1471, 1485, 1507, 1539, 1579, 1586], 785) := by decide +kernel
theorem dX13_wanted_812 : decode cX13_wanted 812 = .ok (.iconst 1, 1) := by decide +kernel
theorem dX13_wanted_813 : decode cX13_wanted 813 = .ok (.ireturn, 1) := by decide +kernel
theorem dX13_wanted_814 : decode cX13_wanted 814 = .ok (.aload_n 0, 1) := by decide +kernel
theorem dX13_wanted_815 : decode cX13_wanted 815 = .ok (.iconst 2, 1) := by decide +kernel
theorem dX13_wanted_816 : decode cX13_wanted 816 = .ok (.invokevirtual 1028, 3) := by decide +kernel
theorem dX13_wanted_819 : decode cX13_wanted 819 = .ok (.ireturn, 1) := by decide +kernel
theorem dX13_wanted_820 : decode cX13_wanted 820 = .ok (.aload_n 0, 1) := by decide +kernel
theorem dX13_wanted_821 : decode cX13_wanted 821 = .ok (.iconst 1, 1) := by decide +kernel
theorem dX13_wanted_822 : decode cX13_wanted 822 = .ok (.invokevirtual 1028, 3) := by decide +kernel
theorem dX13_wanted_825 : decode cX13_wanted 825 = .ok (.ireturn, 1) := by decide +kernel
theorem dX13_wanted_826 : decode cX13_wanted 826 = .ok (.iload_n 3, 1) := by decide +kernel
theorem dX13_wanted_827 : decode cX13_wanted 827 = .ok (.aload_n 0, 1) := by decide +kernel
theorem dX13_wanted_828 : decode cX13_wanted 828 = .ok (.getfield 964, 3) := by decide +kernel
theorem dX13_wanted_831 : decode cX13_wanted 831 = .ok (.if_icmp .ge 25, 3) := by decide +kernel
theorem dX13_wanted_834 : decode cX13_wanted 834 = .ok (.aload_n 0, 1) := by decide +kernel
theorem dX13_wanted_835 : decode cX13_wanted 835 = .ok (.getfield 270, 3) := by decide +kernel
theorem dX13_wanted_838 : decode cX13_wanted 838 = .ok (.iload_n 3, 1) := by decide +kernel
theorem dX13_wanted_839 : decode cX13_wanted 839 = .ok (.iaload, 1) := by decide +kernel
theorem dX13_wanted_840 : decode cX13_wanted 840 = .ok (.iconst 1, 1) := by decide +kernel
theorem dX13_wanted_841 : decode cX13_wanted 841 = .ok (.if_icmp .ne 15, 3) := by decide +kernel
theorem dX13_wanted_844 : decode cX13_wanted 844 = .ok (.aload_n 0, 1) := by decide +kernel
theorem dX13_wanted_845 : decode cX13_wanted 845 = .ok (.iconst 1, 1) := by decide +kernel
theorem dX13_wanted_846 : decode cX13_wanted 846 = .ok (.invokevirtual 1028, 3) := by decide +kernel
theorem dX13_wanted_849 : decode cX13_wanted 849 = .ok (.ifCond .eq 7, 3) := by decide +kernel
theorem dX13_wanted_852 : decode cX13_wanted 852 = .ok (.iconst 1, 1) := by decide +kernel
theorem dX13_wanted_853 : decode cX13_wanted 853 = .ok (.goto 4, 3) := by decide +kernel
theorem dX13_wanted_856 : decode cX13_wanted 856 = .ok (.iconst 0, 1) := by decide +kernel
theorem dX13_wanted_857 : decode cX13_wanted 857 = .ok (.ireturn, 1) := by decide +kernel
theorem dX13_wanted_858 : decode cX13_wanted 858 = .ok (.iload_n 3, 1) := by decide +kernel
theorem dX13_wanted_859 : decode cX13_wanted 859 = .ok (.aload_n 0, 1) := by decide +kernel
theorem dX13_wanted_860 : decode cX13_wanted 860 = .ok (.getfield 964, 3) := by decide +kernel
theorem dX13_wanted_863 : decode cX13_wanted 863 = .ok (.if_icmp .ge 30, 3) := by decide +kernel
theorem dX13_wanted_866 : decode cX13_wanted 866 = .ok (.aload_n 0, 1) := by decide +kernel
theorem dX13_wanted_867 : decode cX13_wanted 867 = .ok (.getfield 270, 3) := by decide +kernel
theorem dX13_wanted_870 : decode cX13_wanted 870 = .ok (.iload_n 3, 1) := by decide +kernel
theorem dX13_wanted_871 : decode cX13_wanted 871 = .ok (.iaload, 1) := by decide +kernel
theorem dX13_wanted_872 : decode cX13_wanted 872 = .ok (.iconst 2, 1) := by decide +kernel
theorem dX13_wanted_873 : decode cX13_wanted 873 = .ok (.if_icmp .lt 20, 3) := by decide +kernel
theorem dX13_wanted_876 : decode cX13_wanted 876 = .ok (.aload_n 0, 1) := by decide +kernel
theorem dX13_wanted_877 : decode cX13_wanted 877 = .ok (.aload_n 0, 1) := by decide +kernel
theorem dX13_wanted_878 : decode cX13_wanted 878 = .ok (.getfield 270, 3) := by decide +kernel
theorem dX13_wanted_881 : decode cX13_wanted 881 = .ok (.iload_n 3, 1) := by decide +kernel
theorem dX13_wanted_882 : decode cX13_wanted 882 = .ok (.iaload, 1) := by decide +kernel
theorem dX13_wanted_883 : decode cX13_wanted 883 = .ok (.invokevirtual 1028, 3) := by decide +kernel
theorem dX13_wanted_886 : decode cX13_wanted 886 = .ok (.ifCond .eq 7, 3) := by decide +kernel
theorem dX13_wanted_889 : decode cX13_wanted 889 = .ok (.iconst 1, 1) := by decide +kernel
theorem dX13_wanted_890 : decode cX13_wanted 890 = .ok (.goto 4, 3) := by decide +kernel
theorem dX13_wanted_893 : decode cX13_wanted 893 = .ok (.iconst 0, 1) := by decide +kernel
theorem dX13_wanted_894 : decode cX13_wanted 894 = .ok (.ireturn, 1) := by decide +kernel
theorem dX13_wanted_895 : decode cX13_wanted 895 = .ok (.iload_n 3, 1) := by decide +kernel
theorem dX13_wanted_896 : decode cX13_wanted 896 = .ok (.aload_n 0, 1) := by decide +kernel
theorem dX13_wanted_897 : decode cX13_wanted 897 = .ok (.getfield 964, 3) := by decide +kernel
theorem dX13_wanted_900 : decode cX13_wanted 900 = .ok (.if_icmp .ge 11, 3) := by decide +kernel
theorem dX13_wanted_903 : decode cX13_wanted 903 = .ok (.aload_n 0, 1) := by decide +kernel
theorem dX13_wanted_904 : decode cX13_wanted 904 = .ok (.invokevirtual 1025, 3) := by decide +kernel
theorem dX13_wanted_907 : decode cX13_wanted 907 = .ok (.iconst 1, 1) := by decide +kernel
theorem dX13_wanted_908 : decode cX13_wanted 908 = .ok (.if_icmp .eq 5, 3) := by decide +kernel
theorem dX13_wanted_911 : decode cX13_wanted 911 = .ok (.iconst 0, 1) := by decide +kernel
theorem dX13_wanted_912 : decode cX13_wanted 912 = .ok (.ireturn, 1) := by decide +kernel
theorem dX13_wanted_913 : decode cX13_wanted 913 = .ok (.aload_n 0, 1) := by decide +kernel
theorem dX13_wanted_914 : decode cX13_wanted 914 = .ok (.getfield 270, 3) := by decide +kernel
theorem dX13_wanted_917 : decode cX13_wanted 917 = .ok (.iload_n 3, 1) := by decide +kernel
theorem dX13_wanted_918 : decode cX13_wanted 918 = .ok (.iconst 1, 1) := by decide +kernel
theorem dX13_wanted_919 : decode cX13_wanted 919 = .ok (.iastore, 1) := by decide +kernel
theorem dX13_wanted_920 : decode cX13_wanted 920 = .ok (.iconst 1, 1) := by decide +kernel
theorem dX13_wanted_921 : decode cX13_wanted 921 = .ok (.ireturn, 1) := by decide +kernel
theorem dX13_wanted_922 : decode cX13_wanted 922 = .ok (.aload_n 0, 1) := by decide +kernel
theorem dX13_wanted_923 : decode cX13_wanted 923 = .ok (.invokevirtual 1025, 3) := by decide +kernel
theorem dX13_wanted_926 : decode cX13_wanted 926 = .ok (.istore 4, 2) := by decide +kernel
theorem dX13_wanted_928 : decode cX13_wanted 928 = .ok (.iload_n 3, 1) := by decide +kernel
theorem dX13_wanted_929 : decode cX13_wanted 929 = .ok (.aload_n 0, 1) := by decide +kernel
theorem dX13_wanted_930 : decode cX13_wanted 930 = .ok (.getfield 964, 3) := by decide +kernel
theorem dX13_wanted_933 : decode cX13_wanted 933 = .ok (.if_icmp .ge 9, 3) := by decide +kernel
theorem dX13_wanted_936 : decode cX13_wanted 936 = .ok (.iload 4, 2) := by decide +kernel
theorem dX13_wanted_938 : decode cX13_wanted 938 = .ok (.iconst 2, 1) := by decide +kernel
theorem dX13_wanted_939 : decode cX13_wanted 939 = .ok (.if_icmp .ge 5, 3) := by decide +kernel
theorem dX13_wanted_942 : decode cX13_wanted 942 = .ok (.iconst 0, 1) := by decide +kernel
theorem dX13_wanted_943 : decode cX13_wanted 943 = .ok (.ireturn, 1) := by decide +kernel
theorem dX13_wanted_944 : decode cX13_wanted 944 = .ok (.aload_n 0, 1) := by decide +kernel
theorem dX13_wanted_945 : decode cX13_wanted 945 = .ok (.getfield 270, 3) := by decide +kernel
theorem dX13_wanted_948 : decode cX13_wanted 948 = .ok (.iload_n 3, 1) := by decide +kernel
theorem dX13_wanted_949 : decode cX13_wanted 949 = .ok (.iload 4, 2) := by decide +kernel
theorem dX13_wanted_951 : decode cX13_wanted 951 = .ok (.iastore, 1) := by decide +kernel
theorem dX13_wanted_952 : decode cX13_wanted 952 = .ok (.iconst 1, 1) := by decide +kernel
theorem dX13_wanted_953 : decode cX13_wanted 953 = .ok (.ireturn, 1) := by decide +kernel
theorem dX13_wanted_954 : decode cX13_wanted 954 = .ok (.aload_n 0, 1) := by decide +kernel
theorem dX13_wanted_955 : decode cX13_wanted 955 = .ok (.iconst 1, 1) := by decide +kernel
theorem dX13_wanted_956 : decode cX13_wanted 956 = .ok (.invokevirtual 1031, 3) := by decide +kernel
theorem dX13_wanted_959 : decode cX13_wanted 959 = .ok (.ifCond .ne 5, 3) := by decide +kernel
theorem dX13_wanted_962 : decode cX13_wanted 962 = .ok (.iconst 0, 1) := by decide +kernel
theorem dX13_wanted_963 : decode cX13_wanted 963 = .ok (.ireturn, 1) := by decide +kernel
theorem dX13_wanted_964 : decode cX13_wanted 964 = .ok (.aload_n 0, 1) := by decide +kernel
theorem dX13_wanted_965 : decode cX13_wanted 965 = .ok (.invokevirtual 1025, 3) := by decide +kernel
theorem dX13_wanted_968 : decode cX13_wanted 968 = .ok (.istore 4, 2) := by decide +kernel
theorem dX13_wanted_970 : decode cX13_wanted 970 = .ok (.iload 4, 2) := by decide +kernel
theorem dX13_wanted_972 : decode cX13_wanted 972 = .ok (.iconst 3, 1) := by decide +kernel
theorem dX13_wanted_973 : decode cX13_wanted 973 = .ok (.if_icmp .eq 9, 3) := by decide +kernel
theorem dX13_wanted_976 : decode cX13_wanted 976 = .ok (.iload 4, 2) := by decide +kernel
theorem dX13_wanted_978 : decode cX13_wanted 978 = .ok (.iconst 2, 1) := by decide +kernel
theorem dX13_wanted_979 : decode cX13_wanted 979 = .ok (.if_icmp .ne 15, 3) := by decide +kernel
theorem dX13_wanted_982 : decode cX13_wanted 982 = .ok (.aload_n 0, 1) := by decide +kernel
theorem dX13_wanted_983 : decode cX13_wanted 983 = .ok (.iconst 1, 1) := by decide +kernel
theorem dX13_wanted_984 : decode cX13_wanted 984 = .ok (.invokevirtual 1028, 3) := by decide +kernel
theorem dX13_wanted_987 : decode cX13_wanted 987 = .ok (.ifCond .eq 7, 3) := by decide +kernel
theorem dX13_wanted_990 : decode cX13_wanted 990 = .ok (.iconst 1, 1) := by decide +kernel
theorem dX13_wanted_991 : decode cX13_wanted 991 = .ok (.goto 4, 3) := by decide +kernel
theorem dX13_wanted_994 : decode cX13_wanted 994 = .ok (.iconst 0, 1) := by decide +kernel
theorem dX13_wanted_995 : decode cX13_wanted 995 = .ok (.ireturn, 1) := by decide +kernel
theorem dX13_wanted_996 : decode cX13_wanted 996 = .ok (.aload_n 0, 1) := by decide +kernel
theorem dX13_wanted_997 : decode cX13_wanted 997 = .ok (.iconst 1, 1) := by decide +kernel
theorem dX13_wanted_998 : decode cX13_wanted 998 = .ok (.invokevirtual 1031, 3) := by decide +kernel
theorem dX13_wanted_1001 : decode cX13_wanted 1001 = .ok (.ifCond .ne 5, 3) := by decide +kernel
theorem dX13_wanted_1004 : decode cX13_wanted 1004 = .ok (.iconst 0, 1) := by decide +kernel
theorem dX13_wanted_1005 : decode cX13_wanted 1005 = .ok (.ireturn, 1) := by decide +kernel
theorem dX13_wanted_1006 : decode cX13_wanted 1006 = .ok (.aload_n 0, 1) := by decide +kernel
theorem dX13_wanted_1007 : decode cX13_wanted 1007 = .ok (.invokevirtual 1025, 3) := by decide +kernel
theorem dX13_wanted_1010 : decode cX13_wanted 1010 = .ok (.istore 4, 2) := by decide +kernel
theorem dX13_wanted_1012 : decode cX13_wanted 1012 = .ok (.iload 4, 2) := by decide +kernel
theorem dX13_wanted_1014 : decode cX13_wanted 1014 = .ok (.iconst 2, 1) := by decide +kernel
theorem dX13_wanted_1015 : decode cX13_wanted 1015 = .ok (.if_icmp .ne 9, 3) := by decide +kernel
theorem dX13_wanted_1018 : decode cX13_wanted 1018 = .ok (.aload_n 0, 1) := by decide +kernel
theorem dX13_wanted_1019 : decode cX13_wanted 1019 = .ok (.iconst 2, 1) := by decide +kernel
theorem dX13_wanted_1020 : decode cX13_wanted 1020 = .ok (.invokevirtual 1028, 3) := by decide +kernel
theorem dX13_wanted_1023 : decode cX13_wanted 1023 = .ok (.ireturn, 1) := by decide +kernel
theorem dX13_wanted_1024 : decode cX13_wanted 1024 = .ok (.iload 4, 2) := by decide +kernel
theorem dX13_wanted_1026 : decode cX13_wanted 1026 = .ok (.iconst 3, 1) := by decide +kernel
theorem dX13_wanted_1027 : decode cX13_wanted 1027 = .ok (.if_icmp .le 26, 3) := by decide +kernel
theorem dX13_wanted_1030 : decode cX13_wanted 1030 = .ok (.iload 4, 2) := by decide +kernel
theorem dX13_wanted_1032 : decode cX13_wanted 1032 = .ok (.invokestatic 888, 3) := by decide +kernel
theorem dX13_wanted_1035 : decode cX13_wanted 1035 = .ok (.ifCond .eq 18, 3) := by decide +kernel
theorem dX13_wanted_1038 : decode cX13_wanted 1038 = .ok (.aload_n 0, 1) := by decide +kernel
theorem dX13_wanted_1039 : decode cX13_wanted 1039 = .ok (.iload 4, 2) := by decide +kernel
theorem dX13_wanted_1041 : decode cX13_wanted 1041 = .ok (.iconst 1, 1) := by decide +kernel
theorem dX13_wanted_1042 : decode cX13_wanted 1042 = .ok (.isub, 1) := by decide +kernel
theorem dX13_wanted_1043 : decode cX13_wanted 1043 = .ok (.invokevirtual 1028, 3) := by decide +kernel
theorem dX13_wanted_1046 : decode cX13_wanted 1046 = .ok (.ifCond .eq 7, 3) := by decide +kernel
theorem dX13_wanted_1049 : decode cX13_wanted 1049 = .ok (.iconst 1, 1) := by decide +kernel
theorem dX13_wanted_1050 : decode cX13_wanted 1050 = .ok (.goto 4, 3) := by decide +kernel
theorem dX13_wanted_1053 : decode cX13_wanted 1053 = .ok (.iconst 0, 1) := by decide +kernel
theorem dX13_wanted_1054 : decode cX13_wanted 1054 = .ok (.ireturn, 1) := by decide +kernel
theorem dX13_wanted_1055 : decode cX13_wanted 1055 = .ok (.aload_n 0, 1) := by decide +kernel
theorem dX13_wanted_1056 : decode cX13_wanted 1056 = .ok (.iconst 2, 1) := by decide +kernel
theorem dX13_wanted_1057 : decode cX13_wanted 1057 = .ok (.invokevirtual 1031, 3) := by decide +kernel
theorem dX13_wanted_1060 : decode cX13_wanted 1060 = .ok (.ifCond .ne 5, 3) := by decide +kernel
theorem dX13_wanted_1063 : decode cX13_wanted 1063 = .ok (.iconst 0, 1) := by decide +kernel
theorem dX13_wanted_1064 : decode cX13_wanted 1064 = .ok (.ireturn, 1) := by decide +kernel
theorem dX13_wanted_1065 : decode cX13_wanted 1065 = .ok (.aload_n 0, 1) := by decide +kernel
theorem dX13_wanted_1066 : decode cX13_wanted 1066 = .ok (.invokevirtual 1025, 3) := by decide +kernel
theorem dX13_wanted_1069 : decode cX13_wanted 1069 = .ok (.istore 4, 2) := by decide +kernel
theorem dX13_wanted_1071 : decode cX13_wanted 1071 = .ok (.iload 4, 2) := by decide +kernel
theorem dX13_wanted_1073 : decode cX13_wanted 1073 = .ok (.iconst 3, 1) := by decide +kernel
theorem dX13_wanted_1074 : decode cX13_wanted 1074 = .ok (.if_icmp .eq 9, 3) := by decide +kernel
theorem dX13_wanted_1077 : decode cX13_wanted 1077 = .ok (.iload 4, 2) := by decide +kernel
theorem dX13_wanted_1079 : decode cX13_wanted 1079 = .ok (.iconst 2, 1) := by decide +kernel
theorem dX13_wanted_1080 : decode cX13_wanted 1080 = .ok (.if_icmp .ne 7, 3) := by decide +kernel
theorem dX13_wanted_1083 : decode cX13_wanted 1083 = .ok (.iconst 1, 1) := by decide +kernel
theorem dX13_wanted_1084 : decode cX13_wanted 1084 = .ok (.goto 4, 3) := by decide +kernel
theorem dX13_wanted_1087 : decode cX13_wanted 1087 = .ok (.iconst 0, 1) := by decide +kernel
theorem dX13_wanted_1088 : decode cX13_wanted 1088 = .ok (.ireturn, 1) := by decide +kernel
theorem dX13_wanted_1089 : decode cX13_wanted 1089 = .ok (.aload_n 0, 1) := by decide +kernel
theorem dX13_wanted_1090 : decode cX13_wanted 1090 = .ok (.invokevirtual 1034, 3) := by decide +kernel
theorem dX13_wanted_1093 : decode cX13_wanted 1093 = .ok (.ifCond .eq 11, 3) := by decide +kernel
theorem dX13_wanted_1096 : decode cX13_wanted 1096 = .ok (.aload_n 0, 1) := by decide +kernel
theorem dX13_wanted_1097 : decode cX13_wanted 1097 = .ok (.iconst 1, 1) := by decide +kernel
theorem dX13_wanted_1098 : decode cX13_wanted 1098 = .ok (.invokevirtual 1031, 3) := by decide +kernel
theorem dX13_wanted_1101 : decode cX13_wanted 1101 = .ok (.ifCond .ne 5, 3) := by decide +kernel
theorem dX13_wanted_1104 : decode cX13_wanted 1104 = .ok (.iconst 0, 1) := by decide +kernel
theorem dX13_wanted_1105 : decode cX13_wanted 1105 = .ok (.ireturn, 1) := by decide +kernel
theorem dX13_wanted_1106 : decode cX13_wanted 1106 = .ok (.aload_n 0, 1) := by decide +kernel
