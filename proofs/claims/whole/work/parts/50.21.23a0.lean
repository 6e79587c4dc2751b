theorem rs_RX11_221 : mx_res RX11 221 = some (1, 310, 2) := by decide +kernel
theorem rs_RX11_224 : mx_res RX11 224 = some (1, 326, 1) := by decide +kernel
theorem rs_RX11_252 : mx_res RX11 252 = some (1, 336, 2) := by decide +kernel
theorem mt_X11_proveFrames : mx_mt 335 = some (yX11_proveFrames, cX11_proveFrames, 5, (some .int)) := rfl
theorem dX11_proveFrames_0 : decode cX11_proveFrames 0 = .ok (.iconst (-1), 1) := by decide +kernel
theorem dX11_proveFrames_1 : decode cX11_proveFrames 1 = .ok (.istore_n 1, 1) := by decide +kernel
theorem dX11_proveFrames_2 : decode cX11_proveFrames 2 = .ok (.iconst 0, 1) := by decide +kernel
theorem dX11_proveFrames_3 : decode cX11_proveFrames 3 = .ok (.istore_n 2, 1) := by decide +kernel
theorem dX11_proveFrames_4 : decode cX11_proveFrames 4 = .ok (.iload_n 2, 1) := by decide +kernel
theorem dX11_proveFrames_5 : decode cX11_proveFrames 5 = .ok (.aload_n 0, 1) := by decide +kernel
theorem dX11_proveFrames_6 : decode cX11_proveFrames 6 = .ok (.bipush 9, 2) := by decide +kernel
theorem dX11_proveFrames_8 : decode cX11_proveFrames 8 = .ok (.invokevirtual 189, 3) := by decide +kernel
theorem dX11_proveFrames_11 : decode cX11_proveFrames 11 = .ok (.if_icmp .ge 133, 3) := by decide +kernel
theorem dX11_proveFrames_14 : decode cX11_proveFrames 14 = .ok (.iload_n 2, 1) := by decide +kernel
theorem dX11_proveFrames_15 : decode cX11_proveFrames 15 = .ok (.bipush 64, 2) := by decide +kernel
theorem dX11_proveFrames_17 : decode cX11_proveFrames 17 = .ok (.imul, 1) := by decide +kernel
theorem dX11_proveFrames_18 : decode cX11_proveFrames 18 = .ok (.istore_n 3, 1) := by decide +kernel
theorem dX11_proveFrames_19 : decode cX11_proveFrames 19 = .ok (.aload_n 0, 1) := by decide +kernel
theorem dX11_proveFrames_20 : decode cX11_proveFrames 20 = .ok (.aload_n 0, 1) := by decide +kernel
theorem dX11_proveFrames_21 : decode cX11_proveFrames 21 = .ok (.getfield 41, 3) := by decide +kernel
theorem dX11_proveFrames_24 : decode cX11_proveFrames 24 = .ok (.iload_n 3, 1) := by decide +kernel
theorem dX11_proveFrames_25 : decode cX11_proveFrames 25 = .ok (.iaload, 1) := by decide +kernel
theorem dX11_proveFrames_26 : decode cX11_proveFrames 26 = .ok (.invokevirtual 224, 3) := by decide +kernel
theorem dX11_proveFrames_29 : decode cX11_proveFrames 29 = .ok (.ifCond .eq 86, 3) := by decide +kernel
theorem dX11_proveFrames_32 : decode cX11_proveFrames 32 = .ok (.aload_n 0, 1) := by decide +kernel
theorem dX11_proveFrames_33 : decode cX11_proveFrames 33 = .ok (.getfield 41, 3) := by decide +kernel
theorem dX11_proveFrames_36 : decode cX11_proveFrames 36 = .ok (.iload_n 3, 1) := by decide +kernel
theorem dX11_proveFrames_37 : decode cX11_proveFrames 37 = .ok (.iaload, 1) := by decide +kernel
theorem dX11_proveFrames_38 : decode cX11_proveFrames 38 = .ok (.iload_n 1, 1) := by decide +kernel
theorem dX11_proveFrames_39 : decode cX11_proveFrames 39 = .ok (.if_icmp .le 76, 3) := by decide +kernel
theorem dX11_proveFrames_42 : decode cX11_proveFrames 42 = .ok (.aload_n 0, 1) := by decide +kernel
theorem dX11_proveFrames_43 : decode cX11_proveFrames 43 = .ok (.getfield 41, 3) := by decide +kernel
theorem dX11_proveFrames_46 : decode cX11_proveFrames 46 = .ok (.iload_n 3, 1) := by decide +kernel
theorem dX11_proveFrames_47 : decode cX11_proveFrames 47 = .ok (.iconst 1, 1) := by decide +kernel
theorem dX11_proveFrames_48 : decode cX11_proveFrames 48 = .ok (.iadd, 1) := by decide +kernel
theorem dX11_proveFrames_49 : decode cX11_proveFrames 49 = .ok (.iaload, 1) := by decide +kernel
theorem dX11_proveFrames_50 : decode cX11_proveFrames 50 = .ok (.aload_n 0, 1) := by decide +kernel
theorem dX11_proveFrames_51 : decode cX11_proveFrames 51 = .ok (.iconst 4, 1) := by decide +kernel
theorem dX11_proveFrames_52 : decode cX11_proveFrames 52 = .ok (.invokevirtual 189, 3) := by decide +kernel
theorem dX11_proveFrames_55 : decode cX11_proveFrames 55 = .ok (.if_icmp .gt 60, 3) := by decide +kernel
theorem dX11_proveFrames_58 : decode cX11_proveFrames 58 = .ok (.aload_n 0, 1) := by decide +kernel
theorem dX11_proveFrames_59 : decode cX11_proveFrames 59 = .ok (.getfield 41, 3) := by decide +kernel
theorem dX11_proveFrames_62 : decode cX11_proveFrames 62 = .ok (.iload_n 3, 1) := by decide +kernel
theorem dX11_proveFrames_63 : decode cX11_proveFrames 63 = .ok (.iconst 2, 1) := by decide +kernel
theorem dX11_proveFrames_64 : decode cX11_proveFrames 64 = .ok (.iadd, 1) := by decide +kernel
theorem dX11_proveFrames_65 : decode cX11_proveFrames 65 = .ok (.iaload, 1) := by decide +kernel
theorem dX11_proveFrames_66 : decode cX11_proveFrames 66 = .ok (.aload_n 0, 1) := by decide +kernel
theorem dX11_proveFrames_67 : decode cX11_proveFrames 67 = .ok (.iconst 3, 1) := by decide +kernel
theorem dX11_proveFrames_68 : decode cX11_proveFrames 68 = .ok (.invokevirtual 189, 3) := by decide +kernel
theorem dX11_proveFrames_71 : decode cX11_proveFrames 71 = .ok (.if_icmp .gt 44, 3) := by decide +kernel
theorem dX11_proveFrames_74 : decode cX11_proveFrames 74 = .ok (.aload_n 0, 1) := by decide +kernel
theorem dX11_proveFrames_75 : decode cX11_proveFrames 75 = .ok (.iload_n 3, 1) := by decide +kernel
theorem dX11_proveFrames_76 : decode cX11_proveFrames 76 = .ok (.iconst 3, 1) := by decide +kernel
theorem dX11_proveFrames_77 : decode cX11_proveFrames 77 = .ok (.iadd, 1) := by decide +kernel
theorem dX11_proveFrames_78 : decode cX11_proveFrames 78 = .ok (.aload_n 0, 1) := by decide +kernel
theorem dX11_proveFrames_79 : decode cX11_proveFrames 79 = .ok (.getfield 41, 3) := by decide +kernel
theorem dX11_proveFrames_82 : decode cX11_proveFrames 82 = .ok (.iload_n 3, 1) := by decide +kernel
theorem dX11_proveFrames_83 : decode cX11_proveFrames 83 = .ok (.iconst 1, 1) := by decide +kernel
theorem dX11_proveFrames_84 : decode cX11_proveFrames 84 = .ok (.iadd, 1) := by decide +kernel
theorem dX11_proveFrames_85 : decode cX11_proveFrames 85 = .ok (.iaload, 1) := by decide +kernel
theorem dX11_proveFrames_86 : decode cX11_proveFrames 86 = .ok (.invokevirtual 252, 3) := by decide +kernel
theorem dX11_proveFrames_89 : decode cX11_proveFrames 89 = .ok (.ifCond .eq 26, 3) := by decide +kernel
theorem dX11_proveFrames_92 : decode cX11_proveFrames 92 = .ok (.aload_n 0, 1) := by decide +kernel
theorem dX11_proveFrames_93 : decode cX11_proveFrames 93 = .ok (.iload_n 3, 1) := by decide +kernel
theorem dX11_proveFrames_94 : decode cX11_proveFrames 94 = .ok (.bipush 33, 2) := by decide +kernel
theorem dX11_proveFrames_96 : decode cX11_proveFrames 96 = .ok (.iadd, 1) := by decide +kernel
theorem dX11_proveFrames_97 : decode cX11_proveFrames 97 = .ok (.aload_n 0, 1) := by decide +kernel
theorem dX11_proveFrames_98 : decode cX11_proveFrames 98 = .ok (.getfield 41, 3) := by decide +kernel
theorem dX11_proveFrames_101 : decode cX11_proveFrames 101 = .ok (.iload_n 3, 1) := by decide +kernel
theorem dX11_proveFrames_102 : decode cX11_proveFrames 102 = .ok (.iconst 2, 1) := by decide +kernel
theorem dX11_proveFrames_103 : decode cX11_proveFrames 103 = .ok (.iadd, 1) := by decide +kernel
theorem dX11_proveFrames_104 : decode cX11_proveFrames 104 = .ok (.iaload, 1) := by decide +kernel
theorem dX11_proveFrames_105 : decode cX11_proveFrames 105 = .ok (.invokevirtual 252, 3) := by decide +kernel
theorem dX11_proveFrames_108 : decode cX11_proveFrames 108 = .ok (.ifCond .eq 7, 3) := by decide +kernel
theorem dX11_proveFrames_111 : decode cX11_proveFrames 111 = .ok (.iconst 1, 1) := by decide +kernel
theorem dX11_proveFrames_112 : decode cX11_proveFrames 112 = .ok (.goto 4, 3) := by decide +kernel
theorem dX11_proveFrames_115 : decode cX11_proveFrames 115 = .ok (.iconst 0, 1) := by decide +kernel
theorem dX11_proveFrames_116 : decode cX11_proveFrames 116 = .ok (.istore 4, 2) := by decide +kernel
theorem dX11_proveFrames_118 : decode cX11_proveFrames 118 = .ok (.iload 4, 2) := by decide +kernel
theorem dX11_proveFrames_120 : decode cX11_proveFrames 120 = .ok (.ifCond .ne 11, 3) := by decide +kernel
theorem dX11_proveFrames_123 : decode cX11_proveFrames 123 = .ok (.aload_n 0, 1) := by decide +kernel
theorem dX11_proveFrames_124 : decode cX11_proveFrames 124 = .ok (.bipush 9, 2) := by decide +kernel
theorem dX11_proveFrames_126 : decode cX11_proveFrames 126 = .ok (.iload_n 2, 1) := by decide +kernel
theorem dX11_proveFrames_127 : decode cX11_proveFrames 127 = .ok (.invokevirtual 221, 3) := by decide +kernel
theorem dX11_proveFrames_130 : decode cX11_proveFrames 130 = .ok (.ireturn, 1) := by decide +kernel
theorem dX11_proveFrames_131 : decode cX11_proveFrames 131 = .ok (.aload_n 0, 1) := by decide +kernel
theorem dX11_proveFrames_132 : decode cX11_proveFrames 132 = .ok (.getfield 41, 3) := by decide +kernel
theorem dX11_proveFrames_135 : decode cX11_proveFrames 135 = .ok (.iload_n 3, 1) := by decide +kernel
theorem dX11_proveFrames_136 : decode cX11_proveFrames 136 = .ok (.iaload, 1) := by decide +kernel
theorem dX11_proveFrames_137 : decode cX11_proveFrames 137 = .ok (.istore_n 1, 1) := by decide +kernel
theorem dX11_proveFrames_138 : decode cX11_proveFrames 138 = .ok (.iinc 2 1, 3) := by decide +kernel
theorem dX11_proveFrames_141 : decode cX11_proveFrames 141 = .ok (.goto (-137), 3) := by decide +kernel
theorem dX11_proveFrames_144 : decode cX11_proveFrames 144 = .ok (.iconst 0, 1) := by decide +kernel
theorem dX11_proveFrames_145 : decode cX11_proveFrames 145 = .ok (.ireturn, 1) := by decide +kernel
theorem mt_X11_frameAt : mx_mt 327 = some (yX11_frameAt, cX11_frameAt, 2, (some .int)) := rfl
theorem dX11_frameAt_0 : decode cX11_frameAt 0 = .ok (.aload_n 0, 1) := by decide +kernel
theorem dX11_frameAt_1 : decode cX11_frameAt 1 = .ok (.iload_n 1, 1) := by decide +kernel
theorem dX11_frameAt_2 : decode cX11_frameAt 2 = .ok (.invokevirtual 224, 3) := by decide +kernel
theorem dX11_frameAt_5 : decode cX11_frameAt 5 = .ok (.ifCond .eq 12, 3) := by decide +kernel
theorem dX11_frameAt_8 : decode cX11_frameAt 8 = .ok (.aload_n 0, 1) := by decide +kernel
theorem dX11_frameAt_9 : decode cX11_frameAt 9 = .ok (.getfield 38, 3) := by decide +kernel
theorem dX11_frameAt_12 : decode cX11_frameAt 12 = .ok (.iload_n 1, 1) := by decide +kernel
theorem dX11_frameAt_13 : decode cX11_frameAt 13 = .ok (.iaload, 1) := by decide +kernel
theorem dX11_frameAt_14 : decode cX11_frameAt 14 = .ok (.goto 4, 3) := by decide +kernel
theorem dX11_frameAt_17 : decode cX11_frameAt 17 = .ok (.iconst (-1), 1) := by decide +kernel
theorem dX11_frameAt_18 : decode cX11_frameAt 18 = .ok (.ireturn, 1) := by decide +kernel
theorem rs_RX11_230 : mx_res RX11 230 = some (1, 104, 1) := by decide +kernel
theorem mt_X11_handler : mx_mt 333 = some (yX11_handler, cX11_handler, 3, (some .int)) := rfl
theorem dX11_handler_0 : decode cX11_handler 0 = .ok (.aload_n 0, 1) := by decide +kernel
theorem dX11_handler_1 : decode cX11_handler 1 = .ok (.getfield 62, 3) := by decide +kernel
theorem dX11_handler_4 : decode cX11_handler 4 = .ok (.aload_n 0, 1) := by decide +kernel
theorem dX11_handler_5 : decode cX11_handler 5 = .ok (.bipush 8, 2) := by decide +kernel
theorem dX11_handler_7 : decode cX11_handler 7 = .ok (.invokevirtual 189, 3) := by decide +kernel
theorem dX11_handler_10 : decode cX11_handler 10 = .ok (.iload_n 1, 1) := by decide +kernel
theorem dX11_handler_11 : decode cX11_handler 11 = .ok (.bipush 7, 2) := by decide +kernel
theorem dX11_handler_13 : decode cX11_handler 13 = .ok (.imul, 1) := by decide +kernel
theorem dX11_handler_14 : decode cX11_handler 14 = .ok (.iadd, 1) := by decide +kernel
theorem dX11_handler_15 : decode cX11_handler 15 = .ok (.iload_n 2, 1) := by decide +kernel
theorem dX11_handler_16 : decode cX11_handler 16 = .ok (.iadd, 1) := by decide +kernel
theorem dX11_handler_17 : decode cX11_handler 17 = .ok (.invokevirtual 230, 3) := by decide +kernel
theorem dX11_handler_20 : decode cX11_handler 20 = .ok (.ireturn, 1) := by decide +kernel
theorem rs_RX11_183 : mx_res RX11 183 = some (1, 103, 1) := by decide +kernel
theorem mt_X11_handlerClass : mx_mt 334 = some (yX11_handlerClass, cX11_handlerClass, 2, (some .int)) := rfl
theorem dX11_handlerClass_0 : decode cX11_handlerClass 0 = .ok (.aload_n 0, 1) := by decide +kernel
theorem dX11_handlerClass_1 : decode cX11_handlerClass 1 = .ok (.getfield 23, 3) := by decide +kernel
theorem dX11_handlerClass_4 : decode cX11_handlerClass 4 = .ok (.aload_n 0, 1) := by decide +kernel
theorem dX11_handlerClass_5 : decode cX11_handlerClass 5 = .ok (.getfield 62, 3) := by decide +kernel
theorem dX11_handlerClass_8 : decode cX11_handlerClass 8 = .ok (.aload_n 0, 1) := by decide +kernel
theorem dX11_handlerClass_9 : decode cX11_handlerClass 9 = .ok (.bipush 8, 2) := by decide +kernel
theorem dX11_handlerClass_11 : decode cX11_handlerClass 11 = .ok (.invokevirtual 189, 3) := by decide +kernel
theorem dX11_handlerClass_14 : decode cX11_handlerClass 14 = .ok (.iload_n 1, 1) := by decide +kernel
theorem dX11_handlerClass_15 : decode cX11_handlerClass 15 = .ok (.bipush 7, 2) := by decide +kernel
theorem dX11_handlerClass_17 : decode cX11_handlerClass 17 = .ok (.imul, 1) := by decide +kernel
theorem dX11_handlerClass_18 : decode cX11_handlerClass 18 = .ok (.iadd, 1) := by decide +kernel
theorem dX11_handlerClass_19 : decode cX11_handlerClass 19 = .ok (.bipush 6, 2) := by decide +kernel
theorem dX11_handlerClass_21 : decode cX11_handlerClass 21 = .ok (.iadd, 1) := by decide +kernel
theorem dX11_handlerClass_22 : decode cX11_handlerClass 22 = .ok (.invokevirtual 183, 3) := by decide +kernel
theorem dX11_handlerClass_25 : decode cX11_handlerClass 25 = .ok (.iaload, 1) := by decide +kernel
theorem dX11_handlerClass_26 : decode cX11_handlerClass 26 = .ok (.ireturn, 1) := by decide +kernel
theorem rs_RX11_239 : mx_res RX11 239 = some (1, 333, 2) := by decide +kernel
theorem rs_RX11_242 : mx_res RX11 242 = some (1, 327, 1) := by decide +kernel
theorem rs_RX11_245 : mx_res RX11 245 = some (1, 334, 1) := by decide +kernel
theorem rs_RX11_248 : mx_res RX11 248 = some (1, 139, 2) := by decide +kernel
theorem mt_X11_proveHandlers : mx_mt 332 = some (yX11_proveHandlers, cX11_proveHandlers, 6, (some .int)) := rfl
theorem dX11_proveHandlers_0 : decode cX11_proveHandlers 0 = .ok (.iconst 0, 1) := by decide +kernel
theorem dX11_proveHandlers_1 : decode cX11_proveHandlers 1 = .ok (.istore_n 1, 1) := by decide +kernel
theorem dX11_proveHandlers_2 : decode cX11_proveHandlers 2 = .ok (.iload_n 1, 1) := by decide +kernel
theorem dX11_proveHandlers_3 : decode cX11_proveHandlers 3 = .ok (.aload_n 0, 1) := by decide +kernel
theorem dX11_proveHandlers_4 : decode cX11_proveHandlers 4 = .ok (.bipush 7, 2) := by decide +kernel
theorem dX11_proveHandlers_6 : decode cX11_proveHandlers 6 = .ok (.invokevirtual 189, 3) := by decide +kernel
theorem dX11_proveHandlers_9 : decode cX11_proveHandlers 9 = .ok (.if_icmp .ge 105, 3) := by decide +kernel
theorem dX11_proveHandlers_12 : decode cX11_proveHandlers 12 = .ok (.aload_n 0, 1) := by decide +kernel
theorem dX11_proveHandlers_13 : decode cX11_proveHandlers 13 = .ok (.iload_n 1, 1) := by decide +kernel
theorem dX11_proveHandlers_14 : decode cX11_proveHandlers 14 = .ok (.iconst 0, 1) := by decide +kernel
theorem dX11_proveHandlers_15 : decode cX11_proveHandlers 15 = .ok (.invokevirtual 239, 3) := by decide +kernel
theorem dX11_proveHandlers_18 : decode cX11_proveHandlers 18 = .ok (.istore_n 2, 1) := by decide +kernel
theorem dX11_proveHandlers_19 : decode cX11_proveHandlers 19 = .ok (.aload_n 0, 1) := by decide +kernel
theorem dX11_proveHandlers_20 : decode cX11_proveHandlers 20 = .ok (.iload_n 1, 1) := by decide +kernel
theorem dX11_proveHandlers_21 : decode cX11_proveHandlers 21 = .ok (.iconst 2, 1) := by decide +kernel
theorem dX11_proveHandlers_22 : decode cX11_proveHandlers 22 = .ok (.invokevirtual 239, 3) := by decide +kernel
theorem dX11_proveHandlers_25 : decode cX11_proveHandlers 25 = .ok (.istore_n 3, 1) := by decide +kernel
theorem dX11_proveHandlers_26 : decode cX11_proveHandlers 26 = .ok (.aload_n 0, 1) := by decide +kernel
theorem dX11_proveHandlers_27 : decode cX11_proveHandlers 27 = .ok (.iload_n 1, 1) := by decide +kernel
theorem dX11_proveHandlers_28 : decode cX11_proveHandlers 28 = .ok (.iconst 4, 1) := by decide +kernel
theorem dX11_proveHandlers_29 : decode cX11_proveHandlers 29 = .ok (.invokevirtual 239, 3) := by decide +kernel
theorem dX11_proveHandlers_32 : decode cX11_proveHandlers 32 = .ok (.istore 4, 2) := by decide +kernel
theorem dX11_proveHandlers_34 : decode cX11_proveHandlers 34 = .ok (.aload_n 0, 1) := by decide +kernel
theorem dX11_proveHandlers_35 : decode cX11_proveHandlers 35 = .ok (.iload_n 2, 1) := by decide +kernel
theorem dX11_proveHandlers_36 : decode cX11_proveHandlers 36 = .ok (.invokevirtual 224, 3) := by decide +kernel
theorem dX11_proveHandlers_39 : decode cX11_proveHandlers 39 = .ok (.ifCond .eq 28, 3) := by decide +kernel
theorem dX11_proveHandlers_42 : decode cX11_proveHandlers 42 = .ok (.aload_n 0, 1) := by decide +kernel
theorem dX11_proveHandlers_43 : decode cX11_proveHandlers 43 = .ok (.iload_n 3, 1) := by decide +kernel
theorem dX11_proveHandlers_44 : decode cX11_proveHandlers 44 = .ok (.invokevirtual 224, 3) := by decide +kernel
theorem dX11_proveHandlers_47 : decode cX11_proveHandlers 47 = .ok (.ifCond .ne 11, 3) := by decide +kernel
theorem dX11_proveHandlers_50 : decode cX11_proveHandlers 50 = .ok (.iload_n 3, 1) := by decide +kernel
theorem dX11_proveHandlers_51 : decode cX11_proveHandlers 51 = .ok (.aload_n 0, 1) := by decide +kernel
theorem dX11_proveHandlers_52 : decode cX11_proveHandlers 52 = .ok (.getfield 209, 3) := by decide +kernel
theorem dX11_proveHandlers_55 : decode cX11_proveHandlers 55 = .ok (.if_icmp .ne 12, 3) := by decide +kernel
theorem dX11_proveHandlers_58 : decode cX11_proveHandlers 58 = .ok (.iload_n 2, 1) := by decide +kernel
theorem dX11_proveHandlers_59 : decode cX11_proveHandlers 59 = .ok (.iload_n 3, 1) := by decide +kernel
theorem dX11_proveHandlers_60 : decode cX11_proveHandlers 60 = .ok (.if_icmp .ge 7, 3) := by decide +kernel
theorem dX11_proveHandlers_63 : decode cX11_proveHandlers 63 = .ok (.iconst 1, 1) := by decide +kernel
theorem dX11_proveHandlers_64 : decode cX11_proveHandlers 64 = .ok (.goto 4, 3) := by decide +kernel
theorem dX11_proveHandlers_67 : decode cX11_proveHandlers 67 = .ok (.iconst 0, 1) := by decide +kernel
theorem dX11_proveHandlers_68 : decode cX11_proveHandlers 68 = .ok (.istore 5, 2) := by decide +kernel
theorem dX11_proveHandlers_70 : decode cX11_proveHandlers 70 = .ok (.iload 5, 2) := by decide +kernel
theorem dX11_proveHandlers_72 : decode cX11_proveHandlers 72 = .ok (.ifCond .eq 28, 3) := by decide +kernel
theorem dX11_proveHandlers_75 : decode cX11_proveHandlers 75 = .ok (.aload_n 0, 1) := by decide +kernel
theorem dX11_proveHandlers_76 : decode cX11_proveHandlers 76 = .ok (.iload 4, 2) := by decide +kernel
theorem dX11_proveHandlers_78 : decode cX11_proveHandlers 78 = .ok (.invokevirtual 242, 3) := by decide +kernel
theorem dX11_proveHandlers_81 : decode cX11_proveHandlers 81 = .ok (.ifCond .lt 19, 3) := by decide +kernel
theorem dX11_proveHandlers_84 : decode cX11_proveHandlers 84 = .ok (.aload_n 0, 1) := by decide +kernel
theorem dX11_proveHandlers_85 : decode cX11_proveHandlers 85 = .ok (.getfield 60, 3) := by decide +kernel
theorem dX11_proveHandlers_88 : decode cX11_proveHandlers 88 = .ok (.aload_n 0, 1) := by decide +kernel
theorem dX11_proveHandlers_89 : decode cX11_proveHandlers 89 = .ok (.iload_n 1, 1) := by decide +kernel
theorem dX11_proveHandlers_90 : decode cX11_proveHandlers 90 = .ok (.invokevirtual 245, 3) := by decide +kernel
theorem dX11_proveHandlers_93 : decode cX11_proveHandlers 93 = .ok (.iconst 1, 1) := by decide +kernel
theorem dX11_proveHandlers_94 : decode cX11_proveHandlers 94 = .ok (.invokevirtual 248, 3) := by decide +kernel
theorem dX11_proveHandlers_97 : decode cX11_proveHandlers 97 = .ok (.ifCond .ne 11, 3) := by decide +kernel
theorem dX11_proveHandlers_100 : decode cX11_proveHandlers 100 = .ok (.aload_n 0, 1) := by decide +kernel
theorem dX11_proveHandlers_101 : decode cX11_proveHandlers 101 = .ok (.bipush 8, 2) := by decide +kernel
theorem dX11_proveHandlers_103 : decode cX11_proveHandlers 103 = .ok (.iload_n 1, 1) := by decide +kernel
theorem dX11_proveHandlers_104 : decode cX11_proveHandlers 104 = .ok (.invokevirtual 221, 3) := by decide +kernel
theorem dX11_proveHandlers_107 : decode cX11_proveHandlers 107 = .ok (.ireturn, 1) := by decide +kernel
theorem dX11_proveHandlers_108 : decode cX11_proveHandlers 108 = .ok (.iinc 1 1, 3) := by decide +kernel
theorem dX11_proveHandlers_111 : decode cX11_proveHandlers 111 = .ok (.goto (-109), 3) := by decide +kernel
theorem dX11_proveHandlers_114 : decode cX11_proveHandlers 114 = .ok (.iconst 0, 1) := by decide +kernel
theorem dX11_proveHandlers_115 : decode cX11_proveHandlers 115 = .ok (.ireturn, 1) := by decide +kernel
theorem mt_X11_codeAt : mx_mt 318 = some (yX11_codeAt, cX11_codeAt, 2, (some .int)) := rfl
theorem dX11_codeAt_0 : decode cX11_codeAt 0 = .ok (.aload_n 0, 1) := by decide +kernel
theorem dX11_codeAt_1 : decode cX11_codeAt 1 = .ok (.getfield 62, 3) := by decide +kernel
theorem dX11_codeAt_4 : decode cX11_codeAt 4 = .ok (.aload_n 0, 1) := by decide +kernel
theorem dX11_codeAt_5 : decode cX11_codeAt 5 = .ok (.bipush 6, 2) := by decide +kernel
theorem dX11_codeAt_7 : decode cX11_codeAt 7 = .ok (.invokevirtual 189, 3) := by decide +kernel
theorem dX11_codeAt_10 : decode cX11_codeAt 10 = .ok (.iload_n 1, 1) := by decide +kernel
theorem dX11_codeAt_11 : decode cX11_codeAt 11 = .ok (.iadd, 1) := by decide +kernel
theorem dX11_codeAt_12 : decode cX11_codeAt 12 = .ok (.invokevirtual 183, 3) := by decide +kernel
theorem dX11_codeAt_15 : decode cX11_codeAt 15 = .ok (.ireturn, 1) := by decide +kernel
theorem rs_RX11_201 : mx_res RX11 201 = some (2, 322, 1) := by decide +kernel
theorem mt_X11_isBare : mx_mt 323 = some (yX11_isBare, cX11_isBare, 1, (some .boolean)) := rfl
theorem dX11_isBare_0 : decode cX11_isBare 0 = .ok (.iload_n 0, 1) := by decide +kernel
theorem dX11_isBare_1 : decode cX11_isBare 1 = .ok (.lookupswitch 117 #[(46, 115), (50, 115), (79, 115), (83, 115), (87, 115), (89, 115), (116, 115), (172, 115), (176, 115), (177, 115), (186, 115), (190, 115), (191, 115)], 115) := by decide +kernel
theorem dX11_isBare_116 : decode cX11_isBare 116 = .ok (.iconst 1, 1) := by decide +kernel
theorem dX11_isBare_117 : decode cX11_isBare 117 = .ok (.ireturn, 1) := by decide +kernel
theorem dX11_isBare_118 : decode cX11_isBare 118 = .ok (.iload_n 0, 1) := by decide +kernel
theorem dX11_isBare_119 : decode cX11_isBare 119 = .ok (.invokestatic 201, 3) := by decide +kernel
theorem dX11_isBare_122 : decode cX11_isBare 122 = .ok (.ireturn, 1) := by decide +kernel
theorem rs_RX11_195 : mx_res RX11 195 = some (2, 323, 1) := by decide +kernel
theorem rs_RX11_198 : mx_res RX11 198 = some (2, 321, 1) := by decide +kernel
theorem mt_X11_widthOf : mx_mt 320 = some (yX11_widthOf, cX11_widthOf, 1, (some .int)) := rfl
theorem dX11_widthOf_0 : decode cX11_widthOf 0 = .ok (.iload_n 0, 1) := by decide +kernel
theorem dX11_widthOf_1 : decode cX11_widthOf 1 = .ok (.bipush 8, 2) := by decide +kernel
theorem dX11_widthOf_3 : decode cX11_widthOf 3 = .ok (.if_icmp .le 10, 3) := by decide +kernel
theorem dX11_widthOf_6 : decode cX11_widthOf 6 = .ok (.iload_n 0, 1) := by decide +kernel
theorem dX11_widthOf_7 : decode cX11_widthOf 7 = .ok (.invokestatic 195, 3) := by decide +kernel
theorem dX11_widthOf_10 : decode cX11_widthOf 10 = .ok (.ifCond .eq 5, 3) := by decide +kernel
theorem dX11_widthOf_13 : decode cX11_widthOf 13 = .ok (.iconst 1, 1) := by decide +kernel
theorem dX11_widthOf_14 : decode cX11_widthOf 14 = .ok (.ireturn, 1) := by decide +kernel
theorem dX11_widthOf_15 : decode cX11_widthOf 15 = .ok (.iload_n 0, 1) := by decide +kernel
theorem dX11_widthOf_16 : decode cX11_widthOf 16 = .ok (.invokestatic 198, 3) := by decide +kernel
theorem dX11_widthOf_19 : decode cX11_widthOf 19 = .ok (.ifCond .eq 5, 3) := by decide +kernel
theorem dX11_widthOf_22 : decode cX11_widthOf 22 = .ok (.iconst 3, 1) := by decide +kernel
theorem dX11_widthOf_23 : decode cX11_widthOf 23 = .ok (.ireturn, 1) := by decide +kernel
theorem dX11_widthOf_24 : decode cX11_widthOf 24 = .ok (.iload_n 0, 1) := by decide +kernel
theorem dX11_widthOf_25 : decode cX11_widthOf 25 = .ok (.lookupswitch 133 #[(16, 131), (18, 131), (21, 131), (25, 131), (54, 131), (58, 131), (180, 131), (181, 131), (182, 131), (184, 131), (187, 131), (188, 131), (189, 131), (192, 131), (193, 131)], 131) := by decide +kernel
theorem dX11_widthOf_156 : decode cX11_widthOf 156 = .ok (.iconst 2, 1) := by decide +kernel
theorem dX11_widthOf_157 : decode cX11_widthOf 157 = .ok (.ireturn, 1) := by decide +kernel
theorem dX11_widthOf_158 : decode cX11_widthOf 158 = .ok (.iconst 0, 1) := by decide +kernel
theorem dX11_widthOf_159 : decode cX11_widthOf 159 = .ok (.ireturn, 1) := by decide +kernel
theorem rs_RX11_192 : mx_res RX11 192 = some (1, 318, 1) := by decide +kernel
theorem rs_RX11_212 : mx_res RX11 212 = some (2, 601, 4) := by decide +kernel
theorem rs_RX11_218 : mx_res RX11 218 = some (2, 320, 1) := by decide +kernel
theorem ft_11_16 : mx_fty 11 16 = some (.int, false, "ClassMill$Verifier") := by decide +kernel
theorem mt_X11_proveInstructions : mx_mt 325 = some (yX11_proveInstructions, cX11_proveInstructions, 3, (some .int)) := rfl
theorem dX11_proveInstructions_0 : decode cX11_proveInstructions 0 = .ok (.aload_n 0, 1) := by decide +kernel
theorem dX11_proveInstructions_1 : decode cX11_proveInstructions 1 = .ok (.aload_n 0, 1) := by decide +kernel
theorem dX11_proveInstructions_2 : decode cX11_proveInstructions 2 = .ok (.iconst 5, 1) := by decide +kernel
theorem dX11_proveInstructions_3 : decode cX11_proveInstructions 3 = .ok (.invokevirtual 189, 3) := by decide +kernel
theorem dX11_proveInstructions_6 : decode cX11_proveInstructions 6 = .ok (.aload_n 0, 1) := by decide +kernel
theorem dX11_proveInstructions_7 : decode cX11_proveInstructions 7 = .ok (.getfield 38, 3) := by decide +kernel
theorem dX11_proveInstructions_10 : decode cX11_proveInstructions 10 = .ok (.arraylength, 1) := by decide +kernel
theorem dX11_proveInstructions_11 : decode cX11_proveInstructions 11 = .ok (.invokestatic 204, 3) := by decide +kernel
theorem dX11_proveInstructions_14 : decode cX11_proveInstructions 14 = .ok (.putfield 209, 3) := by decide +kernel
theorem dX11_proveInstructions_17 : decode cX11_proveInstructions 17 = .ok (.aload_n 0, 1) := by decide +kernel
theorem dX11_proveInstructions_18 : decode cX11_proveInstructions 18 = .ok (.getfield 38, 3) := by decide +kernel
theorem dX11_proveInstructions_21 : decode cX11_proveInstructions 21 = .ok (.iconst 0, 1) := by decide +kernel
theorem dX11_proveInstructions_22 : decode cX11_proveInstructions 22 = .ok (.aload_n 0, 1) := by decide +kernel
theorem dX11_proveInstructions_23 : decode cX11_proveInstructions 23 = .ok (.getfield 209, 3) := by decide +kernel
theorem dX11_proveInstructions_26 : decode cX11_proveInstructions 26 = .ok (.bipush (-2), 2) := by decide +kernel
theorem dX11_proveInstructions_28 : decode cX11_proveInstructions 28 = .ok (.invokestatic 212, 3) := by decide +kernel
theorem dX11_proveInstructions_31 : decode cX11_proveInstructions 31 = .ok (.iconst 0, 1) := by decide +kernel
theorem dX11_proveInstructions_32 : decode cX11_proveInstructions 32 = .ok (.istore_n 1, 1) := by decide +kernel
theorem dX11_proveInstructions_33 : decode cX11_proveInstructions 33 = .ok (.iload_n 1, 1) := by decide +kernel
theorem dX11_proveInstructions_34 : decode cX11_proveInstructions 34 = .ok (.aload_n 0, 1) := by decide +kernel
theorem dX11_proveInstructions_35 : decode cX11_proveInstructions 35 = .ok (.getfield 209, 3) := by decide +kernel
theorem dX11_proveInstructions_38 : decode cX11_proveInstructions 38 = .ok (.if_icmp .ge 48, 3) := by decide +kernel
theorem dX11_proveInstructions_41 : decode cX11_proveInstructions 41 = .ok (.aload_n 0, 1) := by decide +kernel
theorem dX11_proveInstructions_42 : decode cX11_proveInstructions 42 = .ok (.iload_n 1, 1) := by decide +kernel
theorem dX11_proveInstructions_43 : decode cX11_proveInstructions 43 = .ok (.invokevirtual 192, 3) := by decide +kernel
theorem dX11_proveInstructions_46 : decode cX11_proveInstructions 46 = .ok (.invokestatic 218, 3) := by decide +kernel
theorem dX11_proveInstructions_49 : decode cX11_proveInstructions 49 = .ok (.istore_n 2, 1) := by decide +kernel
theorem dX11_proveInstructions_50 : decode cX11_proveInstructions 50 = .ok (.iload_n 2, 1) := by decide +kernel
theorem dX11_proveInstructions_51 : decode cX11_proveInstructions 51 = .ok (.ifCond .eq 13, 3) := by decide +kernel
theorem dX11_proveInstructions_54 : decode cX11_proveInstructions 54 = .ok (.iload_n 1, 1) := by decide +kernel
theorem dX11_proveInstructions_55 : decode cX11_proveInstructions 55 = .ok (.iload_n 2, 1) := by decide +kernel
theorem dX11_proveInstructions_56 : decode cX11_proveInstructions 56 = .ok (.iadd, 1) := by decide +kernel
theorem dX11_proveInstructions_57 : decode cX11_proveInstructions 57 = .ok (.aload_n 0, 1) := by decide +kernel
theorem dX11_proveInstructions_58 : decode cX11_proveInstructions 58 = .ok (.getfield 209, 3) := by decide +kernel
theorem dX11_proveInstructions_61 : decode cX11_proveInstructions 61 = .ok (.if_icmp .le 11, 3) := by decide +kernel
theorem dX11_proveInstructions_64 : decode cX11_proveInstructions 64 = .ok (.aload_n 0, 1) := by decide +kernel
theorem dX11_proveInstructions_65 : decode cX11_proveInstructions 65 = .ok (.bipush 6, 2) := by decide +kernel
theorem dX11_proveInstructions_67 : decode cX11_proveInstructions 67 = .ok (.iload_n 1, 1) := by decide +kernel
theorem dX11_proveInstructions_68 : decode cX11_proveInstructions 68 = .ok (.invokevirtual 221, 3) := by decide +kernel
theorem dX11_proveInstructions_71 : decode cX11_proveInstructions 71 = .ok (.ireturn, 1) := by decide +kernel
theorem dX11_proveInstructions_72 : decode cX11_proveInstructions 72 = .ok (.aload_n 0, 1) := by decide +kernel
theorem dX11_proveInstructions_73 : decode cX11_proveInstructions 73 = .ok (.getfield 38, 3) := by decide +kernel
theorem dX11_proveInstructions_76 : decode cX11_proveInstructions 76 = .ok (.iload_n 1, 1) := by decide +kernel
theorem dX11_proveInstructions_77 : decode cX11_proveInstructions 77 = .ok (.iconst (-1), 1) := by decide +kernel
theorem dX11_proveInstructions_78 : decode cX11_proveInstructions 78 = .ok (.iastore, 1) := by decide +kernel
theorem dX11_proveInstructions_79 : decode cX11_proveInstructions 79 = .ok (.iload_n 1, 1) := by decide +kernel
theorem dX11_proveInstructions_80 : decode cX11_proveInstructions 80 = .ok (.iload_n 2, 1) := by decide +kernel
theorem dX11_proveInstructions_81 : decode cX11_proveInstructions 81 = .ok (.iadd, 1) := by decide +kernel
theorem dX11_proveInstructions_82 : decode cX11_proveInstructions 82 = .ok (.istore_n 1, 1) := by decide +kernel
theorem dX11_proveInstructions_83 : decode cX11_proveInstructions 83 = .ok (.goto (-50), 3) := by decide +kernel
theorem dX11_proveInstructions_86 : decode cX11_proveInstructions 86 = .ok (.iconst 0, 1) := by decide +kernel
theorem dX11_proveInstructions_87 : decode cX11_proveInstructions 87 = .ok (.ireturn, 1) := by decide +kernel
theorem mt_X11_aimOf : mx_mt 319 = some (yX11_aimOf, cX11_aimOf, 2, (some .int)) := rfl
theorem dX11_aimOf_0 : decode cX11_aimOf 0 = .ok (.iload_n 1, 1) := by decide +kernel
theorem dX11_aimOf_1 : decode cX11_aimOf 1 = .ok (.aload_n 0, 1) := by decide +kernel
theorem dX11_aimOf_2 : decode cX11_aimOf 2 = .ok (.iload_n 1, 1) := by decide +kernel
theorem dX11_aimOf_3 : decode cX11_aimOf 3 = .ok (.iconst 1, 1) := by decide +kernel
theorem dX11_aimOf_4 : decode cX11_aimOf 4 = .ok (.iadd, 1) := by decide +kernel
theorem dX11_aimOf_5 : decode cX11_aimOf 5 = .ok (.invokevirtual 192, 3) := by decide +kernel
theorem dX11_aimOf_8 : decode cX11_aimOf 8 = .ok (.bipush 8, 2) := by decide +kernel
theorem dX11_aimOf_10 : decode cX11_aimOf 10 = .ok (.ishl, 1) := by decide +kernel
theorem dX11_aimOf_11 : decode cX11_aimOf 11 = .ok (.aload_n 0, 1) := by decide +kernel
theorem dX11_aimOf_12 : decode cX11_aimOf 12 = .ok (.iload_n 1, 1) := by decide +kernel
theorem dX11_aimOf_13 : decode cX11_aimOf 13 = .ok (.iconst 2, 1) := by decide +kernel
theorem dX11_aimOf_14 : decode cX11_aimOf 14 = .ok (.iadd, 1) := by decide +kernel
theorem dX11_aimOf_15 : decode cX11_aimOf 15 = .ok (.invokevirtual 192, 3) := by decide +kernel
theorem dX11_aimOf_18 : decode cX11_aimOf 18 = .ok (.ior, 1) := by decide +kernel
theorem dX11_aimOf_19 : decode cX11_aimOf 19 = .ok (.i2s, 1) := by decide +kernel
theorem dX11_aimOf_20 : decode cX11_aimOf 20 = .ok (.iadd, 1) := by decide +kernel
theorem dX11_aimOf_21 : decode cX11_aimOf 21 = .ok (.ireturn, 1) := by decide +kernel
theorem rs_RX11_227 : mx_res RX11 227 = some (1, 319, 1) := by decide +kernel
theorem mt_X11_proveJumps : mx_mt 328 = some (yX11_proveJumps, cX11_proveJumps, 2, (some .int)) := rfl
theorem dX11_proveJumps_0 : decode cX11_proveJumps 0 = .ok (.iconst 0, 1) := by decide +kernel
theorem dX11_proveJumps_1 : decode cX11_proveJumps 1 = .ok (.istore_n 1, 1) := by decide +kernel
theorem dX11_proveJumps_2 : decode cX11_proveJumps 2 = .ok (.iload_n 1, 1) := by decide +kernel
theorem dX11_proveJumps_3 : decode cX11_proveJumps 3 = .ok (.aload_n 0, 1) := by decide +kernel
theorem dX11_proveJumps_4 : decode cX11_proveJumps 4 = .ok (.getfield 209, 3) := by decide +kernel
theorem dX11_proveJumps_7 : decode cX11_proveJumps 7 = .ok (.if_icmp .ge 48, 3) := by decide +kernel
theorem dX11_proveJumps_10 : decode cX11_proveJumps 10 = .ok (.aload_n 0, 1) := by decide +kernel
theorem dX11_proveJumps_11 : decode cX11_proveJumps 11 = .ok (.iload_n 1, 1) := by decide +kernel
theorem dX11_proveJumps_12 : decode cX11_proveJumps 12 = .ok (.invokevirtual 224, 3) := by decide +kernel
theorem dX11_proveJumps_15 : decode cX11_proveJumps 15 = .ok (.ifCond .eq 34, 3) := by decide +kernel
theorem dX11_proveJumps_18 : decode cX11_proveJumps 18 = .ok (.aload_n 0, 1) := by decide +kernel
theorem dX11_proveJumps_19 : decode cX11_proveJumps 19 = .ok (.iload_n 1, 1) := by decide +kernel
theorem dX11_proveJumps_20 : decode cX11_proveJumps 20 = .ok (.invokevirtual 192, 3) := by decide +kernel
theorem dX11_proveJumps_23 : decode cX11_proveJumps 23 = .ok (.invokestatic 198, 3) := by decide +kernel
theorem dX11_proveJumps_26 : decode cX11_proveJumps 26 = .ok (.ifCond .eq 23, 3) := by decide +kernel
theorem dX11_proveJumps_29 : decode cX11_proveJumps 29 = .ok (.aload_n 0, 1) := by decide +kernel
theorem dX11_proveJumps_30 : decode cX11_proveJumps 30 = .ok (.aload_n 0, 1) := by decide +kernel
theorem dX11_proveJumps_31 : decode cX11_proveJumps 31 = .ok (.iload_n 1, 1) := by decide +kernel
theorem dX11_proveJumps_32 : decode cX11_proveJumps 32 = .ok (.invokevirtual 227, 3) := by decide +kernel
theorem dX11_proveJumps_35 : decode cX11_proveJumps 35 = .ok (.invokevirtual 224, 3) := by decide +kernel
theorem dX11_proveJumps_38 : decode cX11_proveJumps 38 = .ok (.ifCond .ne 11, 3) := by decide +kernel
theorem dX11_proveJumps_41 : decode cX11_proveJumps 41 = .ok (.aload_n 0, 1) := by decide +kernel
theorem dX11_proveJumps_42 : decode cX11_proveJumps 42 = .ok (.bipush 7, 2) := by decide +kernel
theorem dX11_proveJumps_44 : decode cX11_proveJumps 44 = .ok (.iload_n 1, 1) := by decide +kernel
theorem dX11_proveJumps_45 : decode cX11_proveJumps 45 = .ok (.invokevirtual 221, 3) := by decide +kernel
theorem dX11_proveJumps_48 : decode cX11_proveJumps 48 = .ok (.ireturn, 1) := by decide +kernel
theorem dX11_proveJumps_49 : decode cX11_proveJumps 49 = .ok (.iinc 1 1, 3) := by decide +kernel
theorem dX11_proveJumps_52 : decode cX11_proveJumps 52 = .ok (.goto (-50), 3) := by decide +kernel
theorem dX11_proveJumps_55 : decode cX11_proveJumps 55 = .ok (.iconst 0, 1) := by decide +kernel
theorem dX11_proveJumps_56 : decode cX11_proveJumps 56 = .ok (.ireturn, 1) := by decide +kernel
theorem mt_X11_isLast : mx_mt 324 = some (yX11_isLast, cX11_isLast, 1, (some .boolean)) := rfl
theorem dX11_isLast_0 : decode cX11_isLast 0 = .ok (.iload_n 0, 1) := by decide +kernel
theorem dX11_isLast_1 : decode cX11_isLast 1 = .ok (.sipush 167, 3) := by decide +kernel
theorem dX11_isLast_4 : decode cX11_isLast 4 = .ok (.if_icmp .eq 31, 3) := by decide +kernel
theorem dX11_isLast_7 : decode cX11_isLast 7 = .ok (.iload_n 0, 1) := by decide +kernel
theorem dX11_isLast_8 : decode cX11_isLast 8 = .ok (.sipush 172, 3) := by decide +kernel
theorem dX11_isLast_11 : decode cX11_isLast 11 = .ok (.if_icmp .eq 24, 3) := by decide +kernel
theorem dX11_isLast_14 : decode cX11_isLast 14 = .ok (.iload_n 0, 1) := by decide +kernel
theorem dX11_isLast_15 : decode cX11_isLast 15 = .ok (.sipush 176, 3) := by decide +kernel
theorem dX11_isLast_18 : decode cX11_isLast 18 = .ok (.if_icmp .eq 17, 3) := by decide +kernel
theorem dX11_isLast_21 : decode cX11_isLast 21 = .ok (.iload_n 0, 1) := by decide +kernel
theorem dX11_isLast_22 : decode cX11_isLast 22 = .ok (.sipush 177, 3) := by decide +kernel
theorem dX11_isLast_25 : decode cX11_isLast 25 = .ok (.if_icmp .eq 10, 3) := by decide +kernel
theorem dX11_isLast_28 : decode cX11_isLast 28 = .ok (.iload_n 0, 1) := by decide +kernel
theorem dX11_isLast_29 : decode cX11_isLast 29 = .ok (.sipush 191, 3) := by decide +kernel
theorem dX11_isLast_32 : decode cX11_isLast 32 = .ok (.if_icmp .ne 7, 3) := by decide +kernel
theorem dX11_isLast_35 : decode cX11_isLast 35 = .ok (.iconst 1, 1) := by decide +kernel
theorem dX11_isLast_36 : decode cX11_isLast 36 = .ok (.goto 4, 3) := by decide +kernel
theorem dX11_isLast_39 : decode cX11_isLast 39 = .ok (.iconst 0, 1) := by decide +kernel
theorem dX11_isLast_40 : decode cX11_isLast 40 = .ok (.ireturn, 1) := by decide +kernel
theorem rs_RX11_295 : mx_res RX11 295 = some (0, 11, 19) := by decide +kernel
theorem ft_11_19 : mx_fty 11 19 = some (.boolean, false, "ClassMill$Verifier") := by decide +kernel
theorem mt_X11_pop : mx_mt 347 = some (yX11_pop, cX11_pop, 1, (some .int)) := rfl
theorem dX11_pop_0 : decode cX11_pop 0 = .ok (.aload_n 0, 1) := by decide +kernel
theorem dX11_pop_1 : decode cX11_pop 1 = .ok (.getfield 255, 3) := by decide +kernel
theorem dX11_pop_4 : decode cX11_pop 4 = .ok (.ifCond .ne 12, 3) := by decide +kernel
theorem dX11_pop_7 : decode cX11_pop 7 = .ok (.aload_n 0, 1) := by decide +kernel
theorem dX11_pop_8 : decode cX11_pop 8 = .ok (.iconst 0, 1) := by decide +kernel
theorem dX11_pop_9 : decode cX11_pop 9 = .ok (.putfield 295, 3) := by decide +kernel
theorem dX11_pop_12 : decode cX11_pop 12 = .ok (.sipush 304, 3) := by decide +kernel
theorem dX11_pop_15 : decode cX11_pop 15 = .ok (.ireturn, 1) := by decide +kernel
theorem dX11_pop_16 : decode cX11_pop 16 = .ok (.aload_n 0, 1) := by decide +kernel
theorem dX11_pop_17 : decode cX11_pop 17 = .ok (.dup, 1) := by decide +kernel
theorem dX11_pop_18 : decode cX11_pop 18 = .ok (.getfield 255, 3) := by decide +kernel
theorem dX11_pop_21 : decode cX11_pop 21 = .ok (.iconst 1, 1) := by decide +kernel
theorem dX11_pop_22 : decode cX11_pop 22 = .ok (.isub, 1) := by decide +kernel
theorem dX11_pop_23 : decode cX11_pop 23 = .ok (.putfield 255, 3) := by decide +kernel
theorem dX11_pop_26 : decode cX11_pop 26 = .ok (.aload_n 0, 1) := by decide +kernel
theorem dX11_pop_27 : decode cX11_pop 27 = .ok (.getfield 47, 3) := by decide +kernel
theorem dX11_pop_30 : decode cX11_pop 30 = .ok (.aload_n 0, 1) := by decide +kernel
theorem dX11_pop_31 : decode cX11_pop 31 = .ok (.getfield 255, 3) := by decide +kernel
theorem dX11_pop_34 : decode cX11_pop 34 = .ok (.iaload, 1) := by decide +kernel
theorem dX11_pop_35 : decode cX11_pop 35 = .ok (.ireturn, 1) := by decide +kernel
theorem mt_X11_push : mx_mt 351 = some (yX11_push, cX11_push, 2, none) := rfl
theorem dX11_push_0 : decode cX11_push 0 = .ok (.aload_n 0, 1) := by decide +kernel
theorem dX11_push_1 : decode cX11_push 1 = .ok (.getfield 255, 3) := by decide +kernel
theorem dX11_push_4 : decode cX11_push 4 = .ok (.aload_n 0, 1) := by decide +kernel
theorem dX11_push_5 : decode cX11_push 5 = .ok (.getfield 261, 3) := by decide +kernel
theorem dX11_push_8 : decode cX11_push 8 = .ok (.if_icmp .lt 9, 3) := by decide +kernel
theorem dX11_push_11 : decode cX11_push 11 = .ok (.aload_n 0, 1) := by decide +kernel
theorem dX11_push_12 : decode cX11_push 12 = .ok (.iconst 0, 1) := by decide +kernel
theorem dX11_push_13 : decode cX11_push 13 = .ok (.putfield 295, 3) := by decide +kernel
theorem dX11_push_16 : decode cX11_push 16 = .ok (.return_, 1) := by decide +kernel
theorem dX11_push_17 : decode cX11_push 17 = .ok (.aload_n 0, 1) := by decide +kernel
theorem dX11_push_18 : decode cX11_push 18 = .ok (.getfield 47, 3) := by decide +kernel
theorem dX11_push_21 : decode cX11_push 21 = .ok (.aload_n 0, 1) := by decide +kernel
theorem dX11_push_22 : decode cX11_push 22 = .ok (.getfield 255, 3) := by decide +kernel
theorem dX11_push_25 : decode cX11_push 25 = .ok (.iload_n 1, 1) := by decide +kernel
theorem dX11_push_26 : decode cX11_push 26 = .ok (.iastore, 1) := by decide +kernel
theorem dX11_push_27 : decode cX11_push 27 = .ok (.aload_n 0, 1) := by decide +kernel
theorem dX11_push_28 : decode cX11_push 28 = .ok (.dup, 1) := by decide +kernel
theorem dX11_push_29 : decode cX11_push 29 = .ok (.getfield 255, 3) := by decide +kernel
theorem dX11_push_32 : decode cX11_push 32 = .ok (.iconst 1, 1) := by decide +kernel
theorem dX11_push_33 : decode cX11_push 33 = .ok (.iadd, 1) := by decide +kernel
theorem dX11_push_34 : decode cX11_push 34 = .ok (.putfield 255, 3) := by decide +kernel
theorem dX11_push_37 : decode cX11_push 37 = .ok (.return_, 1) := by decide +kernel
theorem rs_RX11_313 : mx_res RX11 313 = some (1, 347, 0) := by decide +kernel
theorem mt_X11_want : mx_mt 348 = some (yX11_want, cX11_want, 3, none) := rfl
theorem dX11_want_0 : decode cX11_want 0 = .ok (.aload_n 0, 1) := by decide +kernel
theorem dX11_want_1 : decode cX11_want 1 = .ok (.invokevirtual 313, 3) := by decide +kernel
theorem dX11_want_4 : decode cX11_want 4 = .ok (.istore_n 2, 1) := by decide +kernel
theorem dX11_want_5 : decode cX11_want 5 = .ok (.aload_n 0, 1) := by decide +kernel
theorem dX11_want_6 : decode cX11_want 6 = .ok (.aload_n 0, 1) := by decide +kernel
theorem dX11_want_7 : decode cX11_want 7 = .ok (.getfield 295, 3) := by decide +kernel
theorem dX11_want_10 : decode cX11_want 10 = .ok (.ifCond .eq 26, 3) := by decide +kernel
theorem dX11_want_13 : decode cX11_want 13 = .ok (.iload_n 1, 1) := by decide +kernel
theorem dX11_want_14 : decode cX11_want 14 = .ok (.sipush 304, 3) := by decide +kernel
theorem dX11_want_17 : decode cX11_want 17 = .ok (.if_icmp .eq 15, 3) := by decide +kernel
theorem dX11_want_20 : decode cX11_want 20 = .ok (.aload_n 0, 1) := by decide +kernel
theorem dX11_want_21 : decode cX11_want 21 = .ok (.getfield 60, 3) := by decide +kernel
theorem dX11_want_24 : decode cX11_want 24 = .ok (.iload_n 2, 1) := by decide +kernel
theorem dX11_want_25 : decode cX11_want 25 = .ok (.iload_n 1, 1) := by decide +kernel
theorem dX11_want_26 : decode cX11_want 26 = .ok (.invokevirtual 248, 3) := by decide +kernel
theorem dX11_want_29 : decode cX11_want 29 = .ok (.ifCond .eq 7, 3) := by decide +kernel
theorem dX11_want_32 : decode cX11_want 32 = .ok (.iconst 1, 1) := by decide +kernel
theorem dX11_want_33 : decode cX11_want 33 = .ok (.goto 4, 3) := by decide +kernel
theorem dX11_want_36 : decode cX11_want 36 = .ok (.iconst 0, 1) := by decide +kernel
theorem dX11_want_37 : decode cX11_want 37 = .ok (.putfield 295, 3) := by decide +kernel
theorem dX11_want_40 : decode cX11_want 40 = .ok (.return_, 1) := by decide +kernel
theorem rs_RX11_319 : mx_res RX11 319 = some (2, 135, 1) := by decide +kernel
theorem mt_X11_wantArray : mx_mt 350 = some (yX11_wantArray, cX11_wantArray, 5, (some .int)) := rfl
theorem dX11_wantArray_0 : decode cX11_wantArray 0 = .ok (.aload_n 0, 1) := by decide +kernel
theorem dX11_wantArray_1 : decode cX11_wantArray 1 = .ok (.invokevirtual 313, 3) := by decide +kernel
theorem dX11_wantArray_4 : decode cX11_wantArray 4 = .ok (.istore_n 3, 1) := by decide +kernel
theorem dX11_wantArray_5 : decode cX11_wantArray 5 = .ok (.iload_n 3, 1) := by decide +kernel
theorem dX11_wantArray_6 : decode cX11_wantArray 6 = .ok (.sipush 300, 3) := by decide +kernel
theorem dX11_wantArray_9 : decode cX11_wantArray 9 = .ok (.if_icmp .eq 28, 3) := by decide +kernel
theorem dX11_wantArray_12 : decode cX11_wantArray 12 = .ok (.iload_n 3, 1) := by decide +kernel
theorem dX11_wantArray_13 : decode cX11_wantArray 13 = .ok (.sipush 200, 3) := by decide +kernel
theorem dX11_wantArray_16 : decode cX11_wantArray 16 = .ok (.if_icmp .ne 10, 3) := by decide +kernel
theorem dX11_wantArray_19 : decode cX11_wantArray 19 = .ok (.iload_n 1, 1) := by decide +kernel
theorem dX11_wantArray_20 : decode cX11_wantArray 20 = .ok (.ifCond .eq 21, 3) := by decide +kernel
theorem dX11_wantArray_23 : decode cX11_wantArray 23 = .ok (.goto 14, 3) := by decide +kernel
theorem dX11_wantArray_26 : decode cX11_wantArray 26 = .ok (.iload_n 2, 1) := by decide +kernel
theorem dX11_wantArray_27 : decode cX11_wantArray 27 = .ok (.ifCond .eq 14, 3) := by decide +kernel
theorem dX11_wantArray_30 : decode cX11_wantArray 30 = .ok (.iload_n 3, 1) := by decide +kernel
theorem dX11_wantArray_31 : decode cX11_wantArray 31 = .ok (.invokestatic 319, 3) := by decide +kernel
theorem dX11_wantArray_34 : decode cX11_wantArray 34 = .ok (.ifCond .eq 7, 3) := by decide +kernel
theorem dX11_wantArray_37 : decode cX11_wantArray 37 = .ok (.iconst 1, 1) := by decide +kernel
theorem dX11_wantArray_38 : decode cX11_wantArray 38 = .ok (.goto 4, 3) := by decide +kernel
theorem dX11_wantArray_41 : decode cX11_wantArray 41 = .ok (.iconst 0, 1) := by decide +kernel
theorem dX11_wantArray_42 : decode cX11_wantArray 42 = .ok (.istore 4, 2) := by decide +kernel
theorem dX11_wantArray_44 : decode cX11_wantArray 44 = .ok (.aload_n 0, 1) := by decide +kernel
theorem dX11_wantArray_45 : decode cX11_wantArray 45 = .ok (.aload_n 0, 1) := by decide +kernel
theorem dX11_wantArray_46 : decode cX11_wantArray 46 = .ok (.getfield 295, 3) := by decide +kernel
theorem dX11_wantArray_49 : decode cX11_wantArray 49 = .ok (.ifCond .eq 12, 3) := by decide +kernel
theorem dX11_wantArray_52 : decode cX11_wantArray 52 = .ok (.iload 4, 2) := by decide +kernel
theorem dX11_wantArray_54 : decode cX11_wantArray 54 = .ok (.ifCond .eq 7, 3) := by decide +kernel
theorem dX11_wantArray_57 : decode cX11_wantArray 57 = .ok (.iconst 1, 1) := by decide +kernel
theorem dX11_wantArray_58 : decode cX11_wantArray 58 = .ok (.goto 4, 3) := by decide +kernel
theorem dX11_wantArray_61 : decode cX11_wantArray 61 = .ok (.iconst 0, 1) := by decide +kernel
theorem dX11_wantArray_62 : decode cX11_wantArray 62 = .ok (.putfield 295, 3) := by decide +kernel
theorem dX11_wantArray_65 : decode cX11_wantArray 65 = .ok (.iload_n 3, 1) := by decide +kernel
theorem dX11_wantArray_66 : decode cX11_wantArray 66 = .ok (.ireturn, 1) := by decide +kernel
theorem rs_RX11_316 : mx_res RX11 316 = some (2, 136, 1) := by decide +kernel
theorem mt_X11_wantReference : mx_mt 349 = some (yX11_wantReference, cX11_wantReference, 2, (some .int)) := rfl
theorem dX11_wantReference_0 : decode cX11_wantReference 0 = .ok (.aload_n 0, 1) := by decide +kernel
theorem dX11_wantReference_1 : decode cX11_wantReference 1 = .ok (.invokevirtual 313, 3) := by decide +kernel
theorem dX11_wantReference_4 : decode cX11_wantReference 4 = .ok (.istore_n 1, 1) := by decide +kernel
theorem dX11_wantReference_5 : decode cX11_wantReference 5 = .ok (.aload_n 0, 1) := by decide +kernel
theorem dX11_wantReference_6 : decode cX11_wantReference 6 = .ok (.aload_n 0, 1) := by decide +kernel
theorem dX11_wantReference_7 : decode cX11_wantReference 7 = .ok (.getfield 295, 3) := by decide +kernel
theorem dX11_wantReference_10 : decode cX11_wantReference 10 = .ok (.ifCond .eq 14, 3) := by decide +kernel
theorem dX11_wantReference_13 : decode cX11_wantReference 13 = .ok (.iload_n 1, 1) := by decide +kernel
theorem dX11_wantReference_14 : decode cX11_wantReference 14 = .ok (.invokestatic 316, 3) := by decide +kernel
theorem dX11_wantReference_17 : decode cX11_wantReference 17 = .ok (.ifCond .eq 7, 3) := by decide +kernel
theorem dX11_wantReference_20 : decode cX11_wantReference 20 = .ok (.iconst 1, 1) := by decide +kernel
theorem dX11_wantReference_21 : decode cX11_wantReference 21 = .ok (.goto 4, 3) := by decide +kernel
theorem dX11_wantReference_24 : decode cX11_wantReference 24 = .ok (.iconst 0, 1) := by decide +kernel
theorem dX11_wantReference_25 : decode cX11_wantReference 25 = .ok (.putfield 295, 3) := by decide +kernel
theorem dX11_wantReference_28 : decode cX11_wantReference 28 = .ok (.iload_n 1, 1) := by decide +kernel
theorem dX11_wantReference_29 : decode cX11_wantReference 29 = .ok (.ireturn, 1) := by decide +kernel
