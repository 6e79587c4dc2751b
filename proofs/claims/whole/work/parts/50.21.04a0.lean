theorem rs_RX10_224 : mx_res RX10 224 = some (1, 247, 1) := by decide +kernel
theorem rs_RX10_227 : mx_res RX10 227 = some (1, 248, 1) := by decide +kernel
theorem rs_RX10_230 : mx_res RX10 230 = some (1, 295, 1) := by decide +kernel
theorem rs_RX10_236 : mx_res RX10 236 = some (1, 296, 1) := by decide +kernel
theorem mt_X10_readConstant : mx_mt 294 = some (yX10_readConstant, cX10_readConstant, 2, none) := rfl
theorem dX10_readConstant_0 : decode cX10_readConstant 0 = .ok (.aload_n 0, 1) := by decide +kernel
theorem dX10_readConstant_1 : decode cX10_readConstant 1 = .ok (.getfield 31, 3) := by decide +kernel
theorem dX10_readConstant_4 : decode cX10_readConstant 4 = .ok (.getfield 72, 3) := by decide +kernel
theorem dX10_readConstant_7 : decode cX10_readConstant 7 = .ok (.istore_n 1, 1) := by decide +kernel
theorem dX10_readConstant_8 : decode cX10_readConstant 8 = .ok (.aload_n 0, 1) := by decide +kernel
theorem dX10_readConstant_9 : decode cX10_readConstant 9 = .ok (.getfield 31, 3) := by decide +kernel
theorem dX10_readConstant_12 : decode cX10_readConstant 12 = .ok (.dup, 1) := by decide +kernel
theorem dX10_readConstant_13 : decode cX10_readConstant 13 = .ok (.getfield 72, 3) := by decide +kernel
theorem dX10_readConstant_16 : decode cX10_readConstant 16 = .ok (.iconst 1, 1) := by decide +kernel
theorem dX10_readConstant_17 : decode cX10_readConstant 17 = .ok (.iadd, 1) := by decide +kernel
theorem dX10_readConstant_18 : decode cX10_readConstant 18 = .ok (.putfield 72, 3) := by decide +kernel
theorem dX10_readConstant_21 : decode cX10_readConstant 21 = .ok (.aload_n 0, 1) := by decide +kernel
theorem dX10_readConstant_22 : decode cX10_readConstant 22 = .ok (.getfield 31, 3) := by decide +kernel
theorem dX10_readConstant_25 : decode cX10_readConstant 25 = .ok (.iload_n 1, 1) := by decide +kernel
theorem dX10_readConstant_26 : decode cX10_readConstant 26 = .ok (.invokevirtual 224, 3) := by decide +kernel
theorem dX10_readConstant_29 : decode cX10_readConstant 29 = .ok (.lookupswitch 112 #[(3, 43), (17, 76), (22, 94), (28, 58)], 43) := by decide +kernel
theorem dX10_readConstant_72 : decode cX10_readConstant 72 = .ok (.aload_n 0, 1) := by decide +kernel
theorem dX10_readConstant_73 : decode cX10_readConstant 73 = .ok (.aload_n 0, 1) := by decide +kernel
theorem dX10_readConstant_74 : decode cX10_readConstant 74 = .ok (.getfield 31, 3) := by decide +kernel
theorem dX10_readConstant_77 : decode cX10_readConstant 77 = .ok (.iload_n 1, 1) := by decide +kernel
theorem dX10_readConstant_78 : decode cX10_readConstant 78 = .ok (.invokevirtual 227, 3) := by decide +kernel
theorem dX10_readConstant_81 : decode cX10_readConstant 81 = .ok (.invokevirtual 230, 3) := by decide +kernel
theorem dX10_readConstant_84 : decode cX10_readConstant 84 = .ok (.goto 62, 3) := by decide +kernel
theorem dX10_readConstant_87 : decode cX10_readConstant 87 = .ok (.aload_n 0, 1) := by decide +kernel
theorem dX10_readConstant_88 : decode cX10_readConstant 88 = .ok (.getfield 46, 3) := by decide +kernel
theorem dX10_readConstant_91 : decode cX10_readConstant 91 = .ok (.iconst 4, 1) := by decide +kernel
theorem dX10_readConstant_92 : decode cX10_readConstant 92 = .ok (.invokevirtual 162, 3) := by decide +kernel
theorem dX10_readConstant_95 : decode cX10_readConstant 95 = .ok (.aload_n 0, 1) := by decide +kernel
theorem dX10_readConstant_96 : decode cX10_readConstant 96 = .ok (.sipush 302, 3) := by decide +kernel
theorem dX10_readConstant_99 : decode cX10_readConstant 99 = .ok (.invokevirtual 233, 3) := by decide +kernel
theorem dX10_readConstant_102 : decode cX10_readConstant 102 = .ok (.goto 44, 3) := by decide +kernel
theorem dX10_readConstant_105 : decode cX10_readConstant 105 = .ok (.aload_n 0, 1) := by decide +kernel
theorem dX10_readConstant_106 : decode cX10_readConstant 106 = .ok (.getfield 46, 3) := by decide +kernel
theorem dX10_readConstant_109 : decode cX10_readConstant 109 = .ok (.iconst 3, 1) := by decide +kernel
theorem dX10_readConstant_110 : decode cX10_readConstant 110 = .ok (.invokevirtual 162, 3) := by decide +kernel
theorem dX10_readConstant_113 : decode cX10_readConstant 113 = .ok (.aload_n 0, 1) := by decide +kernel
theorem dX10_readConstant_114 : decode cX10_readConstant 114 = .ok (.sipush 302, 3) := by decide +kernel
theorem dX10_readConstant_117 : decode cX10_readConstant 117 = .ok (.invokevirtual 233, 3) := by decide +kernel
theorem dX10_readConstant_120 : decode cX10_readConstant 120 = .ok (.goto 26, 3) := by decide +kernel
theorem dX10_readConstant_123 : decode cX10_readConstant 123 = .ok (.aload_n 0, 1) := by decide +kernel
theorem dX10_readConstant_124 : decode cX10_readConstant 124 = .ok (.getfield 46, 3) := by decide +kernel
theorem dX10_readConstant_127 : decode cX10_readConstant 127 = .ok (.iconst 1, 1) := by decide +kernel
theorem dX10_readConstant_128 : decode cX10_readConstant 128 = .ok (.invokevirtual 162, 3) := by decide +kernel
theorem dX10_readConstant_131 : decode cX10_readConstant 131 = .ok (.aload_n 0, 1) := by decide +kernel
theorem dX10_readConstant_132 : decode cX10_readConstant 132 = .ok (.sipush 300, 3) := by decide +kernel
theorem dX10_readConstant_135 : decode cX10_readConstant 135 = .ok (.invokevirtual 233, 3) := by decide +kernel
theorem dX10_readConstant_138 : decode cX10_readConstant 138 = .ok (.goto 8, 3) := by decide +kernel
theorem dX10_readConstant_141 : decode cX10_readConstant 141 = .ok (.aload_n 0, 1) := by decide +kernel
theorem dX10_readConstant_142 : decode cX10_readConstant 142 = .ok (.iload_n 1, 1) := by decide +kernel
theorem dX10_readConstant_143 : decode cX10_readConstant 143 = .ok (.invokevirtual 236, 3) := by decide +kernel
theorem dX10_readConstant_146 : decode cX10_readConstant 146 = .ok (.return_, 1) := by decide +kernel
theorem mt_X4_elementOf : mx_mt 138 = some (yX4_elementOf, cX4_elementOf, 1, (some .int)) := rfl
theorem dX4_elementOf_0 : decode cX4_elementOf 0 = .ok (.iload_n 0, 1) := by decide +kernel
theorem dX4_elementOf_1 : decode cX4_elementOf 1 = .ok (.sipush 200, 3) := by decide +kernel
theorem dX4_elementOf_4 : decode cX4_elementOf 4 = .ok (.if_icmp .ne 7, 3) := by decide +kernel
theorem dX4_elementOf_7 : decode cX4_elementOf 7 = .ok (.sipush 301, 3) := by decide +kernel
theorem dX4_elementOf_10 : decode cX4_elementOf 10 = .ok (.ireturn, 1) := by decide +kernel
theorem dX4_elementOf_11 : decode cX4_elementOf 11 = .ok (.iload_n 0, 1) := by decide +kernel
theorem dX4_elementOf_12 : decode cX4_elementOf 12 = .ok (.bipush 100, 2) := by decide +kernel
theorem dX4_elementOf_14 : decode cX4_elementOf 14 = .ok (.if_icmp .lt 17, 3) := by decide +kernel
theorem dX4_elementOf_17 : decode cX4_elementOf 17 = .ok (.iload_n 0, 1) := by decide +kernel
theorem dX4_elementOf_18 : decode cX4_elementOf 18 = .ok (.sipush 200, 3) := by decide +kernel
theorem dX4_elementOf_21 : decode cX4_elementOf 21 = .ok (.if_icmp .ge 10, 3) := by decide +kernel
theorem dX4_elementOf_24 : decode cX4_elementOf 24 = .ok (.iload_n 0, 1) := by decide +kernel
theorem dX4_elementOf_25 : decode cX4_elementOf 25 = .ok (.bipush 100, 2) := by decide +kernel
theorem dX4_elementOf_27 : decode cX4_elementOf 27 = .ok (.isub, 1) := by decide +kernel
theorem dX4_elementOf_28 : decode cX4_elementOf 28 = .ok (.goto 6, 3) := by decide +kernel
theorem dX4_elementOf_31 : decode cX4_elementOf 31 = .ok (.sipush 305, 3) := by decide +kernel
theorem dX4_elementOf_34 : decode cX4_elementOf 34 = .ok (.ireturn, 1) := by decide +kernel
theorem mt_X10_isCallBehindPoint : mx_mt 301 = some (yX10_isCallBehindPoint, cX10_isCallBehindPoint, 2, (some .boolean)) := rfl
theorem dX10_isCallBehindPoint_0 : decode cX10_isCallBehindPoint 0 = .ok (.aload_n 0, 1) := by decide +kernel
theorem dX10_isCallBehindPoint_1 : decode cX10_isCallBehindPoint 1 = .ok (.getfield 31, 3) := by decide +kernel
theorem dX10_isCallBehindPoint_4 : decode cX10_isCallBehindPoint 4 = .ok (.iload_n 1, 1) := by decide +kernel
theorem dX10_isCallBehindPoint_5 : decode cX10_isCallBehindPoint 5 = .ok (.invokevirtual 224, 3) := by decide +kernel
theorem dX10_isCallBehindPoint_8 : decode cX10_isCallBehindPoint 8 = .ok (.bipush 48, 2) := by decide +kernel
theorem dX10_isCallBehindPoint_10 : decode cX10_isCallBehindPoint 10 = .ok (.if_icmp .ne 36, 3) := by decide +kernel
theorem dX10_isCallBehindPoint_13 : decode cX10_isCallBehindPoint 13 = .ok (.aload_n 0, 1) := by decide +kernel
theorem dX10_isCallBehindPoint_14 : decode cX10_isCallBehindPoint 14 = .ok (.getfield 31, 3) := by decide +kernel
theorem dX10_isCallBehindPoint_17 : decode cX10_isCallBehindPoint 17 = .ok (.iload_n 1, 1) := by decide +kernel
theorem dX10_isCallBehindPoint_18 : decode cX10_isCallBehindPoint 18 = .ok (.iconst 1, 1) := by decide +kernel
theorem dX10_isCallBehindPoint_19 : decode cX10_isCallBehindPoint 19 = .ok (.iadd, 1) := by decide +kernel
theorem dX10_isCallBehindPoint_20 : decode cX10_isCallBehindPoint 20 = .ok (.invokevirtual 224, 3) := by decide +kernel
theorem dX10_isCallBehindPoint_23 : decode cX10_isCallBehindPoint 23 = .ok (.iconst 2, 1) := by decide +kernel
theorem dX10_isCallBehindPoint_24 : decode cX10_isCallBehindPoint 24 = .ok (.if_icmp .ne 22, 3) := by decide +kernel
theorem dX10_isCallBehindPoint_27 : decode cX10_isCallBehindPoint 27 = .ok (.aload_n 0, 1) := by decide +kernel
theorem dX10_isCallBehindPoint_28 : decode cX10_isCallBehindPoint 28 = .ok (.getfield 31, 3) := by decide +kernel
theorem dX10_isCallBehindPoint_31 : decode cX10_isCallBehindPoint 31 = .ok (.iload_n 1, 1) := by decide +kernel
theorem dX10_isCallBehindPoint_32 : decode cX10_isCallBehindPoint 32 = .ok (.iconst 2, 1) := by decide +kernel
theorem dX10_isCallBehindPoint_33 : decode cX10_isCallBehindPoint 33 = .ok (.iadd, 1) := by decide +kernel
theorem dX10_isCallBehindPoint_34 : decode cX10_isCallBehindPoint 34 = .ok (.invokevirtual 224, 3) := by decide +kernel
theorem dX10_isCallBehindPoint_37 : decode cX10_isCallBehindPoint 37 = .ok (.bipush 40, 2) := by decide +kernel
theorem dX10_isCallBehindPoint_39 : decode cX10_isCallBehindPoint 39 = .ok (.if_icmp .ne 7, 3) := by decide +kernel
theorem dX10_isCallBehindPoint_42 : decode cX10_isCallBehindPoint 42 = .ok (.iconst 1, 1) := by decide +kernel
theorem dX10_isCallBehindPoint_43 : decode cX10_isCallBehindPoint 43 = .ok (.goto 4, 3) := by decide +kernel
theorem dX10_isCallBehindPoint_46 : decode cX10_isCallBehindPoint 46 = .ok (.iconst 0, 1) := by decide +kernel
theorem dX10_isCallBehindPoint_47 : decode cX10_isCallBehindPoint 47 = .ok (.ireturn, 1) := by decide +kernel
theorem rs_RX10_271 : mx_res RX10 271 = some (1, 75, 2) := by decide +kernel
theorem mt_X10_methodNamed : mx_mt 300 = some (yX10_methodNamed, cX10_methodNamed, 4, (some .int)) := rfl
theorem dX10_methodNamed_0 : decode cX10_methodNamed 0 = .ok (.aload_n 0, 1) := by decide +kernel
theorem dX10_methodNamed_1 : decode cX10_methodNamed 1 = .ok (.getfield 35, 3) := by decide +kernel
theorem dX10_methodNamed_4 : decode cX10_methodNamed 4 = .ok (.iload_n 1, 1) := by decide +kernel
theorem dX10_methodNamed_5 : decode cX10_methodNamed 5 = .ok (.aload_n 0, 1) := by decide +kernel
theorem dX10_methodNamed_6 : decode cX10_methodNamed 6 = .ok (.getfield 31, 3) := by decide +kernel
theorem dX10_methodNamed_9 : decode cX10_methodNamed 9 = .ok (.iload_n 2, 1) := by decide +kernel
theorem dX10_methodNamed_10 : decode cX10_methodNamed 10 = .ok (.invokevirtual 227, 3) := by decide +kernel
theorem dX10_methodNamed_13 : decode cX10_methodNamed 13 = .ok (.invokevirtual 271, 3) := by decide +kernel
theorem dX10_methodNamed_16 : decode cX10_methodNamed 16 = .ok (.istore_n 3, 1) := by decide +kernel
theorem dX10_methodNamed_17 : decode cX10_methodNamed 17 = .ok (.iload_n 3, 1) := by decide +kernel
theorem dX10_methodNamed_18 : decode cX10_methodNamed 18 = .ok (.iconst (-1), 1) := by decide +kernel
theorem dX10_methodNamed_19 : decode cX10_methodNamed 19 = .ok (.if_icmp .ne 12, 3) := by decide +kernel
theorem dX10_methodNamed_22 : decode cX10_methodNamed 22 = .ok (.aload_n 0, 1) := by decide +kernel
theorem dX10_methodNamed_23 : decode cX10_methodNamed 23 = .ok (.getfield 31, 3) := by decide +kernel
theorem dX10_methodNamed_26 : decode cX10_methodNamed 26 = .ok (.iconst 5, 1) := by decide +kernel
theorem dX10_methodNamed_27 : decode cX10_methodNamed 27 = .ok (.iload_n 2, 1) := by decide +kernel
theorem dX10_methodNamed_28 : decode cX10_methodNamed 28 = .ok (.invokevirtual 165, 3) := by decide +kernel
theorem dX10_methodNamed_31 : decode cX10_methodNamed 31 = .ok (.iload_n 3, 1) := by decide +kernel
theorem dX10_methodNamed_32 : decode cX10_methodNamed 32 = .ok (.ireturn, 1) := by decide +kernel
theorem rs_RX1_21 : mx_res RX1 21 = some (0, 1, 5) := by decide +kernel
theorem rs_RX1_75 : mx_res RX1 75 = some (14, 0, 0) := by decide +kernel
theorem mt_X1_localOf : mx_mt 32 = some (yX1_localOf, cX1_localOf, 3, (some .int)) := rfl
theorem dX1_localOf_0 : decode cX1_localOf 0 = .ok (.aload_n 0, 1) := by decide +kernel
theorem dX1_localOf_1 : decode cX1_localOf 1 = .ok (.getfield 49, 3) := by decide +kernel
theorem dX1_localOf_4 : decode cX1_localOf 4 = .ok (.aload_n 0, 1) := by decide +kernel
theorem dX1_localOf_5 : decode cX1_localOf 5 = .ok (.getfield 21, 3) := by decide +kernel
theorem dX1_localOf_8 : decode cX1_localOf 8 = .ok (.arraylength, 1) := by decide +kernel
theorem dX1_localOf_9 : decode cX1_localOf 9 = .ok (.invokestatic 75, 3) := by decide +kernel
theorem dX1_localOf_12 : decode cX1_localOf 12 = .ok (.iconst 1, 1) := by decide +kernel
theorem dX1_localOf_13 : decode cX1_localOf 13 = .ok (.isub, 1) := by decide +kernel
theorem dX1_localOf_14 : decode cX1_localOf 14 = .ok (.istore_n 2, 1) := by decide +kernel
theorem dX1_localOf_15 : decode cX1_localOf 15 = .ok (.iload_n 2, 1) := by decide +kernel
theorem dX1_localOf_16 : decode cX1_localOf 16 = .ok (.ifCond .lt 21, 3) := by decide +kernel
theorem dX1_localOf_19 : decode cX1_localOf 19 = .ok (.aload_n 0, 1) := by decide +kernel
theorem dX1_localOf_20 : decode cX1_localOf 20 = .ok (.getfield 21, 3) := by decide +kernel
theorem dX1_localOf_23 : decode cX1_localOf 23 = .ok (.iload_n 2, 1) := by decide +kernel
theorem dX1_localOf_24 : decode cX1_localOf 24 = .ok (.iaload, 1) := by decide +kernel
theorem dX1_localOf_25 : decode cX1_localOf 25 = .ok (.iload_n 1, 1) := by decide +kernel
theorem dX1_localOf_26 : decode cX1_localOf 26 = .ok (.if_icmp .ne 5, 3) := by decide +kernel
theorem dX1_localOf_29 : decode cX1_localOf 29 = .ok (.iload_n 2, 1) := by decide +kernel
theorem dX1_localOf_30 : decode cX1_localOf 30 = .ok (.ireturn, 1) := by decide +kernel
theorem dX1_localOf_31 : decode cX1_localOf 31 = .ok (.iinc 2 (-1), 3) := by decide +kernel
theorem dX1_localOf_34 : decode cX1_localOf 34 = .ok (.goto (-19), 3) := by decide +kernel
theorem dX1_localOf_37 : decode cX1_localOf 37 = .ok (.iconst (-1), 1) := by decide +kernel
theorem dX1_localOf_38 : decode cX1_localOf 38 = .ok (.ireturn, 1) := by decide +kernel
theorem mt_X1_typeOfLocal : mx_mt 33 = some (yX1_typeOfLocal, cX1_typeOfLocal, 2, (some .int)) := rfl
theorem dX1_typeOfLocal_0 : decode cX1_typeOfLocal 0 = .ok (.iload_n 1, 1) := by decide +kernel
theorem dX1_typeOfLocal_1 : decode cX1_typeOfLocal 1 = .ok (.ifCond .lt 21, 3) := by decide +kernel
theorem dX1_typeOfLocal_4 : decode cX1_typeOfLocal 4 = .ok (.iload_n 1, 1) := by decide +kernel
theorem dX1_typeOfLocal_5 : decode cX1_typeOfLocal 5 = .ok (.aload_n 0, 1) := by decide +kernel
theorem dX1_typeOfLocal_6 : decode cX1_typeOfLocal 6 = .ok (.getfield 24, 3) := by decide +kernel
theorem dX1_typeOfLocal_9 : decode cX1_typeOfLocal 9 = .ok (.arraylength, 1) := by decide +kernel
theorem dX1_typeOfLocal_10 : decode cX1_typeOfLocal 10 = .ok (.if_icmp .ge 12, 3) := by decide +kernel
theorem dX1_typeOfLocal_13 : decode cX1_typeOfLocal 13 = .ok (.aload_n 0, 1) := by decide +kernel
theorem dX1_typeOfLocal_14 : decode cX1_typeOfLocal 14 = .ok (.getfield 24, 3) := by decide +kernel
theorem dX1_typeOfLocal_17 : decode cX1_typeOfLocal 17 = .ok (.iload_n 1, 1) := by decide +kernel
theorem dX1_typeOfLocal_18 : decode cX1_typeOfLocal 18 = .ok (.iaload, 1) := by decide +kernel
theorem dX1_typeOfLocal_19 : decode cX1_typeOfLocal 19 = .ok (.goto 6, 3) := by decide +kernel
theorem dX1_typeOfLocal_22 : decode cX1_typeOfLocal 22 = .ok (.sipush 305, 3) := by decide +kernel
theorem dX1_typeOfLocal_25 : decode cX1_typeOfLocal 25 = .ok (.ireturn, 1) := by decide +kernel
theorem rs_RX9_150 : mx_res RX9 150 = some (1, 249, 0) := by decide +kernel
theorem rs_RX9_153 : mx_res RX9 153 = some (1, 247, 1) := by decide +kernel
theorem mt_X9_beginsCast : mx_mt 269 = some (yX9_beginsCast, cX9_beginsCast, 1, (some .boolean)) := rfl
theorem dX9_beginsCast_0 : decode cX9_beginsCast 0 = .ok (.aload_n 0, 1) := by decide +kernel
theorem dX9_beginsCast_1 : decode cX9_beginsCast 1 = .ok (.invokevirtual 150, 3) := by decide +kernel
theorem dX9_beginsCast_4 : decode cX9_beginsCast 4 = .ok (.bipush 40, 2) := by decide +kernel
theorem dX9_beginsCast_6 : decode cX9_beginsCast 6 = .ok (.if_icmp .ne 32, 3) := by decide +kernel
theorem dX9_beginsCast_9 : decode cX9_beginsCast 9 = .ok (.aload_n 0, 1) := by decide +kernel
theorem dX9_beginsCast_10 : decode cX9_beginsCast 10 = .ok (.aload_n 0, 1) := by decide +kernel
theorem dX9_beginsCast_11 : decode cX9_beginsCast 11 = .ok (.getfield 86, 3) := by decide +kernel
theorem dX9_beginsCast_14 : decode cX9_beginsCast 14 = .ok (.iconst 1, 1) := by decide +kernel
theorem dX9_beginsCast_15 : decode cX9_beginsCast 15 = .ok (.iadd, 1) := by decide +kernel
theorem dX9_beginsCast_16 : decode cX9_beginsCast 16 = .ok (.invokevirtual 153, 3) := by decide +kernel
theorem dX9_beginsCast_19 : decode cX9_beginsCast 19 = .ok (.iconst 2, 1) := by decide +kernel
theorem dX9_beginsCast_20 : decode cX9_beginsCast 20 = .ok (.if_icmp .ne 18, 3) := by decide +kernel
theorem dX9_beginsCast_23 : decode cX9_beginsCast 23 = .ok (.aload_n 0, 1) := by decide +kernel
theorem dX9_beginsCast_24 : decode cX9_beginsCast 24 = .ok (.aload_n 0, 1) := by decide +kernel
theorem dX9_beginsCast_25 : decode cX9_beginsCast 25 = .ok (.getfield 86, 3) := by decide +kernel
theorem dX9_beginsCast_28 : decode cX9_beginsCast 28 = .ok (.iconst 2, 1) := by decide +kernel
theorem dX9_beginsCast_29 : decode cX9_beginsCast 29 = .ok (.iadd, 1) := by decide +kernel
theorem dX9_beginsCast_30 : decode cX9_beginsCast 30 = .ok (.invokevirtual 153, 3) := by decide +kernel
theorem dX9_beginsCast_33 : decode cX9_beginsCast 33 = .ok (.bipush 41, 2) := by decide +kernel
theorem dX9_beginsCast_35 : decode cX9_beginsCast 35 = .ok (.if_icmp .eq 5, 3) := by decide +kernel
theorem dX9_beginsCast_38 : decode cX9_beginsCast 38 = .ok (.iconst 0, 1) := by decide +kernel
theorem dX9_beginsCast_39 : decode cX9_beginsCast 39 = .ok (.ireturn, 1) := by decide +kernel
theorem dX9_beginsCast_40 : decode cX9_beginsCast 40 = .ok (.aload_n 0, 1) := by decide +kernel
theorem dX9_beginsCast_41 : decode cX9_beginsCast 41 = .ok (.aload_n 0, 1) := by decide +kernel
theorem dX9_beginsCast_42 : decode cX9_beginsCast 42 = .ok (.getfield 86, 3) := by decide +kernel
theorem dX9_beginsCast_45 : decode cX9_beginsCast 45 = .ok (.iconst 3, 1) := by decide +kernel
theorem dX9_beginsCast_46 : decode cX9_beginsCast 46 = .ok (.iadd, 1) := by decide +kernel
theorem dX9_beginsCast_47 : decode cX9_beginsCast 47 = .ok (.invokevirtual 153, 3) := by decide +kernel
theorem dX9_beginsCast_50 : decode cX9_beginsCast 50 = .ok (.lookupswitch 92 #[(2, 90), (3, 90), (17, 90), (21, 90), (22, 90), (26, 90), (28, 90), (40, 90), (71, 90), (72, 90)], 90) := by decide +kernel
theorem dX9_beginsCast_140 : decode cX9_beginsCast 140 = .ok (.iconst 1, 1) := by decide +kernel
theorem dX9_beginsCast_141 : decode cX9_beginsCast 141 = .ok (.ireturn, 1) := by decide +kernel
theorem dX9_beginsCast_142 : decode cX9_beginsCast 142 = .ok (.iconst 0, 1) := by decide +kernel
theorem dX9_beginsCast_143 : decode cX9_beginsCast 143 = .ok (.ireturn, 1) := by decide +kernel
