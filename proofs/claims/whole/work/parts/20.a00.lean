theorem rs_RX4_11 : mx_res RX4 11 = some (0, 4, 0) := by decide +kernel
theorem rs_RX4_15 : mx_res RX4 15 = some (0, 4, 1) := by decide +kernel
theorem rs_RX4_22 : mx_res RX4 22 = some (2, 600, 2) := by decide +kernel
theorem rs_RX4_28 : mx_res RX4 28 = some (1, 133, 0) := by decide +kernel
theorem rs_RX4_31 : mx_res RX4 31 = some (2, 134, 1) := by decide +kernel
theorem rs_RX4_35 : mx_res RX4 35 = some (1, 139, 2) := by decide +kernel
theorem mt_X4_isClass : mx_mt 134 = some (yX4_isClass, cX4_isClass, 1, (some .boolean)) := rfl
theorem mt_X4_above : mx_mt 131 = some (yX4_above, cX4_above, 2, (some .int)) := rfl
theorem mt_X4_isNumber : mx_mt 137 = some (yX4_isNumber, cX4_isNumber, 1, (some .boolean)) := rfl
theorem mt_X4_isReference : mx_mt 136 = some (yX4_isReference, cX4_isReference, 1, (some .boolean)) := rfl
theorem mt_X4_fits : mx_mt 139 = some (yX4_fits, cX4_fits, 4, (some .boolean)) := rfl
theorem mt_X4_oneFits : mx_mt 140 = some (yX4_oneFits, cX4_oneFits, 3, (some .boolean)) := rfl
theorem mt_X4_isArray : mx_mt 135 = some (yX4_isArray, cX4_isArray, 1, (some .boolean)) := rfl
theorem mt_X4_elementOf : mx_mt 138 = some (yX4_elementOf, cX4_elementOf, 1, (some .int)) := rfl
theorem mt_J7_fill_53178 : mx_mt 600 = some (yJ7_fill_53178, cJ7_fill_53178, 4, none) := rfl
theorem mt_X4_settle : mx_mt 133 = some (yX4_settle, cX4_settle, 4, none) := rfl
theorem mt_X4_forget : mx_mt 130 = some (yX4_forget, cX4_forget, 2, none) := rfl
theorem mt_X4_setAbove : mx_mt 132 = some (yX4_setAbove, cX4_setAbove, 3, none) := rfl
theorem mt_X4_endsAbove : mx_mt 141 = some (yX4_endsAbove, cX4_endsAbove, 4, (some .boolean)) := rfl
theorem dX4_isClass_0 : decode cX4_isClass 0 = .ok (.iload_n 0, 1) := by decide +kernel
theorem dX4_isClass_1 : decode cX4_isClass 1 = .ok (.ifCond .lt 13, 3) := by decide +kernel
theorem dX4_isClass_4 : decode cX4_isClass 4 = .ok (.iload_n 0, 1) := by decide +kernel
theorem dX4_isClass_5 : decode cX4_isClass 5 = .ok (.bipush 16, 2) := by decide +kernel
theorem dX4_isClass_7 : decode cX4_isClass 7 = .ok (.if_icmp .ge 7, 3) := by decide +kernel
theorem dX4_isClass_10 : decode cX4_isClass 10 = .ok (.iconst 1, 1) := by decide +kernel
theorem dX4_isClass_11 : decode cX4_isClass 11 = .ok (.goto 4, 3) := by decide +kernel
theorem dX4_isClass_14 : decode cX4_isClass 14 = .ok (.iconst 0, 1) := by decide +kernel
theorem dX4_isClass_15 : decode cX4_isClass 15 = .ok (.ireturn, 1) := by decide +kernel
theorem dX4_above_0 : decode cX4_above 0 = .ok (.iload_n 1, 1) := by decide +kernel
theorem dX4_above_1 : decode cX4_above 1 = .ok (.invokestatic 31, 3) := by decide +kernel
theorem dX4_above_4 : decode cX4_above 4 = .ok (.ifCond .eq 12, 3) := by decide +kernel
theorem dX4_above_7 : decode cX4_above 7 = .ok (.aload_n 0, 1) := by decide +kernel
theorem dX4_above_8 : decode cX4_above 8 = .ok (.getfield 11, 3) := by decide +kernel
theorem dX4_above_11 : decode cX4_above 11 = .ok (.iload_n 1, 1) := by decide +kernel
theorem dX4_above_12 : decode cX4_above 12 = .ok (.iaload, 1) := by decide +kernel
theorem dX4_above_13 : decode cX4_above 13 = .ok (.goto 4, 3) := by decide +kernel
theorem dX4_above_16 : decode cX4_above 16 = .ok (.iconst (-1), 1) := by decide +kernel
theorem dX4_above_17 : decode cX4_above 17 = .ok (.ireturn, 1) := by decide +kernel
theorem dX4_isNumber_0 : decode cX4_isNumber 0 = .ok (.iload_n 0, 1) := by decide +kernel
theorem dX4_isNumber_1 : decode cX4_isNumber 1 = .ok (.sipush 301, 3) := by decide +kernel
theorem dX4_isNumber_4 : decode cX4_isNumber 4 = .ok (.if_icmp .eq 10, 3) := by decide +kernel
theorem dX4_isNumber_7 : decode cX4_isNumber 7 = .ok (.iload_n 0, 1) := by decide +kernel
theorem dX4_isNumber_8 : decode cX4_isNumber 8 = .ok (.sipush 302, 3) := by decide +kernel
theorem dX4_isNumber_11 : decode cX4_isNumber 11 = .ok (.if_icmp .ne 7, 3) := by decide +kernel
theorem dX4_isNumber_14 : decode cX4_isNumber 14 = .ok (.iconst 1, 1) := by decide +kernel
theorem dX4_isNumber_15 : decode cX4_isNumber 15 = .ok (.goto 4, 3) := by decide +kernel
theorem dX4_isNumber_18 : decode cX4_isNumber 18 = .ok (.iconst 0, 1) := by decide +kernel
theorem dX4_isNumber_19 : decode cX4_isNumber 19 = .ok (.ireturn, 1) := by decide +kernel
theorem dX4_isReference_0 : decode cX4_isReference 0 = .ok (.iload_n 0, 1) := by decide +kernel
theorem dX4_isReference_1 : decode cX4_isReference 1 = .ok (.sipush 300, 3) := by decide +kernel
theorem dX4_isReference_4 : decode cX4_isReference 4 = .ok (.if_icmp .eq 14, 3) := by decide +kernel
theorem dX4_isReference_7 : decode cX4_isReference 7 = .ok (.iload_n 0, 1) := by decide +kernel
theorem dX4_isReference_8 : decode cX4_isReference 8 = .ok (.ifCond .lt 14, 3) := by decide +kernel
theorem dX4_isReference_11 : decode cX4_isReference 11 = .ok (.iload_n 0, 1) := by decide +kernel
theorem dX4_isReference_12 : decode cX4_isReference 12 = .ok (.sipush 200, 3) := by decide +kernel
theorem dX4_isReference_15 : decode cX4_isReference 15 = .ok (.if_icmp .gt 7, 3) := by decide +kernel
theorem dX4_isReference_18 : decode cX4_isReference 18 = .ok (.iconst 1, 1) := by decide +kernel
theorem dX4_isReference_19 : decode cX4_isReference 19 = .ok (.goto 4, 3) := by decide +kernel
theorem dX4_isReference_22 : decode cX4_isReference 22 = .ok (.iconst 0, 1) := by decide +kernel
theorem dX4_isReference_23 : decode cX4_isReference 23 = .ok (.ireturn, 1) := by decide +kernel
theorem dX4_fits_0 : decode cX4_fits 0 = .ok (.iload_n 1, 1) := by decide +kernel
theorem dX4_fits_1 : decode cX4_fits 1 = .ok (.iload_n 2, 1) := by decide +kernel
theorem dX4_fits_2 : decode cX4_fits 2 = .ok (.if_icmp .ne 5, 3) := by decide +kernel
theorem dX4_fits_5 : decode cX4_fits 5 = .ok (.iconst 1, 1) := by decide +kernel
theorem dX4_fits_6 : decode cX4_fits 6 = .ok (.ireturn, 1) := by decide +kernel
theorem dX4_fits_7 : decode cX4_fits 7 = .ok (.iload_n 1, 1) := by decide +kernel
theorem dX4_fits_8 : decode cX4_fits 8 = .ok (.sipush 300, 3) := by decide +kernel
theorem dX4_fits_11 : decode cX4_fits 11 = .ok (.if_icmp .ne 20, 3) := by decide +kernel
theorem dX4_fits_14 : decode cX4_fits 14 = .ok (.iload_n 2, 1) := by decide +kernel
theorem dX4_fits_15 : decode cX4_fits 15 = .ok (.ifCond .lt 14, 3) := by decide +kernel
theorem dX4_fits_18 : decode cX4_fits 18 = .ok (.iload_n 2, 1) := by decide +kernel
theorem dX4_fits_19 : decode cX4_fits 19 = .ok (.sipush 200, 3) := by decide +kernel
theorem dX4_fits_22 : decode cX4_fits 22 = .ok (.if_icmp .gt 7, 3) := by decide +kernel
theorem dX4_fits_25 : decode cX4_fits 25 = .ok (.iconst 1, 1) := by decide +kernel
theorem dX4_fits_26 : decode cX4_fits 26 = .ok (.goto 4, 3) := by decide +kernel
theorem dX4_fits_29 : decode cX4_fits 29 = .ok (.iconst 0, 1) := by decide +kernel
theorem dX4_fits_30 : decode cX4_fits 30 = .ok (.ireturn, 1) := by decide +kernel
theorem dX4_fits_31 : decode cX4_fits 31 = .ok (.iload_n 1, 1) := by decide +kernel
theorem dX4_fits_32 : decode cX4_fits 32 = .ok (.ifCond .lt 39, 3) := by decide +kernel
theorem dX4_fits_35 : decode cX4_fits 35 = .ok (.iload_n 1, 1) := by decide +kernel
theorem dX4_fits_36 : decode cX4_fits 36 = .ok (.bipush 16, 2) := by decide +kernel
theorem dX4_fits_38 : decode cX4_fits 38 = .ok (.if_icmp .ge 33, 3) := by decide +kernel
theorem dX4_fits_41 : decode cX4_fits 41 = .ok (.iload_n 2, 1) := by decide +kernel
theorem dX4_fits_42 : decode cX4_fits 42 = .ok (.ifCond .lt 27, 3) := by decide +kernel
theorem dX4_fits_45 : decode cX4_fits 45 = .ok (.iload_n 2, 1) := by decide +kernel
theorem dX4_fits_46 : decode cX4_fits 46 = .ok (.bipush 16, 2) := by decide +kernel
theorem dX4_fits_48 : decode cX4_fits 48 = .ok (.if_icmp .ge 21, 3) := by decide +kernel
theorem dX4_fits_51 : decode cX4_fits 51 = .ok (.aload_n 0, 1) := by decide +kernel
theorem dX4_fits_52 : decode cX4_fits 52 = .ok (.getfield 15, 3) := by decide +kernel
theorem dX4_fits_55 : decode cX4_fits 55 = .ok (.iload_n 1, 1) := by decide +kernel
theorem dX4_fits_56 : decode cX4_fits 56 = .ok (.bipush 16, 2) := by decide +kernel
theorem dX4_fits_58 : decode cX4_fits 58 = .ok (.imul, 1) := by decide +kernel
theorem dX4_fits_59 : decode cX4_fits 59 = .ok (.iload_n 2, 1) := by decide +kernel
theorem dX4_fits_60 : decode cX4_fits 60 = .ok (.iadd, 1) := by decide +kernel
theorem dX4_fits_61 : decode cX4_fits 61 = .ok (.baload, 1) := by decide +kernel
theorem dX4_fits_62 : decode cX4_fits 62 = .ok (.ifCond .eq 7, 3) := by decide +kernel
theorem dX4_fits_65 : decode cX4_fits 65 = .ok (.iconst 1, 1) := by decide +kernel
theorem dX4_fits_66 : decode cX4_fits 66 = .ok (.goto 4, 3) := by decide +kernel
theorem dX4_fits_69 : decode cX4_fits 69 = .ok (.iconst 0, 1) := by decide +kernel
theorem dX4_fits_70 : decode cX4_fits 70 = .ok (.ireturn, 1) := by decide +kernel
theorem dX4_fits_71 : decode cX4_fits 71 = .ok (.iload_n 2, 1) := by decide +kernel
theorem dX4_fits_72 : decode cX4_fits 72 = .ok (.ifCond .ne 22, 3) := by decide +kernel
theorem dX4_fits_75 : decode cX4_fits 75 = .ok (.iload_n 1, 1) := by decide +kernel
theorem dX4_fits_76 : decode cX4_fits 76 = .ok (.bipush 100, 2) := by decide +kernel
theorem dX4_fits_78 : decode cX4_fits 78 = .ok (.if_icmp .lt 14, 3) := by decide +kernel
theorem dX4_fits_81 : decode cX4_fits 81 = .ok (.iload_n 1, 1) := by decide +kernel
theorem dX4_fits_82 : decode cX4_fits 82 = .ok (.sipush 200, 3) := by decide +kernel
theorem dX4_fits_85 : decode cX4_fits 85 = .ok (.if_icmp .gt 7, 3) := by decide +kernel
theorem dX4_fits_88 : decode cX4_fits 88 = .ok (.iconst 1, 1) := by decide +kernel
theorem dX4_fits_89 : decode cX4_fits 89 = .ok (.goto 4, 3) := by decide +kernel
theorem dX4_fits_92 : decode cX4_fits 92 = .ok (.iconst 0, 1) := by decide +kernel
theorem dX4_fits_93 : decode cX4_fits 93 = .ok (.ireturn, 1) := by decide +kernel
theorem dX4_fits_94 : decode cX4_fits 94 = .ok (.iload_n 1, 1) := by decide +kernel
theorem dX4_fits_95 : decode cX4_fits 95 = .ok (.bipush 100, 2) := by decide +kernel
theorem dX4_fits_97 : decode cX4_fits 97 = .ok (.if_icmp .lt 25, 3) := by decide +kernel
theorem dX4_fits_100 : decode cX4_fits 100 = .ok (.iload_n 1, 1) := by decide +kernel
theorem dX4_fits_101 : decode cX4_fits 101 = .ok (.bipush 116, 2) := by decide +kernel
theorem dX4_fits_103 : decode cX4_fits 103 = .ok (.if_icmp .ge 19, 3) := by decide +kernel
theorem dX4_fits_106 : decode cX4_fits 106 = .ok (.iload_n 2, 1) := by decide +kernel
theorem dX4_fits_107 : decode cX4_fits 107 = .ok (.bipush 100, 2) := by decide +kernel
theorem dX4_fits_109 : decode cX4_fits 109 = .ok (.if_icmp .lt 13, 3) := by decide +kernel
theorem dX4_fits_112 : decode cX4_fits 112 = .ok (.iload_n 2, 1) := by decide +kernel
theorem dX4_fits_113 : decode cX4_fits 113 = .ok (.bipush 116, 2) := by decide +kernel
theorem dX4_fits_115 : decode cX4_fits 115 = .ok (.if_icmp .ge 7, 3) := by decide +kernel
theorem dX4_fits_118 : decode cX4_fits 118 = .ok (.iconst 1, 1) := by decide +kernel
theorem dX4_fits_119 : decode cX4_fits 119 = .ok (.goto 4, 3) := by decide +kernel
theorem dX4_fits_122 : decode cX4_fits 122 = .ok (.iconst 0, 1) := by decide +kernel
theorem dX4_fits_123 : decode cX4_fits 123 = .ok (.istore_n 3, 1) := by decide +kernel
theorem dX4_fits_124 : decode cX4_fits 124 = .ok (.iload_n 3, 1) := by decide +kernel
theorem dX4_fits_125 : decode cX4_fits 125 = .ok (.ifCond .eq 27, 3) := by decide +kernel
theorem dX4_fits_128 : decode cX4_fits 128 = .ok (.aload_n 0, 1) := by decide +kernel
theorem dX4_fits_129 : decode cX4_fits 129 = .ok (.getfield 15, 3) := by decide +kernel
theorem dX4_fits_132 : decode cX4_fits 132 = .ok (.iload_n 1, 1) := by decide +kernel
theorem dX4_fits_133 : decode cX4_fits 133 = .ok (.bipush 100, 2) := by decide +kernel
theorem dX4_fits_135 : decode cX4_fits 135 = .ok (.isub, 1) := by decide +kernel
theorem dX4_fits_136 : decode cX4_fits 136 = .ok (.bipush 16, 2) := by decide +kernel
theorem dX4_fits_138 : decode cX4_fits 138 = .ok (.imul, 1) := by decide +kernel
theorem dX4_fits_139 : decode cX4_fits 139 = .ok (.iload_n 2, 1) := by decide +kernel
theorem dX4_fits_140 : decode cX4_fits 140 = .ok (.iadd, 1) := by decide +kernel
theorem dX4_fits_141 : decode cX4_fits 141 = .ok (.bipush 100, 2) := by decide +kernel
theorem dX4_fits_143 : decode cX4_fits 143 = .ok (.isub, 1) := by decide +kernel
theorem dX4_fits_144 : decode cX4_fits 144 = .ok (.baload, 1) := by decide +kernel
theorem dX4_fits_145 : decode cX4_fits 145 = .ok (.ifCond .eq 7, 3) := by decide +kernel
theorem dX4_fits_148 : decode cX4_fits 148 = .ok (.iconst 1, 1) := by decide +kernel
theorem dX4_fits_149 : decode cX4_fits 149 = .ok (.goto 4, 3) := by decide +kernel
theorem dX4_fits_152 : decode cX4_fits 152 = .ok (.iconst 0, 1) := by decide +kernel
theorem dX4_fits_153 : decode cX4_fits 153 = .ok (.ireturn, 1) := by decide +kernel
theorem dX4_oneFits_0 : decode cX4_oneFits 0 = .ok (.aload_n 0, 1) := by decide +kernel
theorem dX4_oneFits_1 : decode cX4_oneFits 1 = .ok (.iload_n 1, 1) := by decide +kernel
theorem dX4_oneFits_2 : decode cX4_oneFits 2 = .ok (.iload_n 2, 1) := by decide +kernel
theorem dX4_oneFits_3 : decode cX4_oneFits 3 = .ok (.invokevirtual 35, 3) := by decide +kernel
theorem dX4_oneFits_6 : decode cX4_oneFits 6 = .ok (.ifCond .ne 12, 3) := by decide +kernel
theorem dX4_oneFits_9 : decode cX4_oneFits 9 = .ok (.aload_n 0, 1) := by decide +kernel
theorem dX4_oneFits_10 : decode cX4_oneFits 10 = .ok (.iload_n 2, 1) := by decide +kernel
theorem dX4_oneFits_11 : decode cX4_oneFits 11 = .ok (.iload_n 1, 1) := by decide +kernel
theorem dX4_oneFits_12 : decode cX4_oneFits 12 = .ok (.invokevirtual 35, 3) := by decide +kernel
theorem dX4_oneFits_15 : decode cX4_oneFits 15 = .ok (.ifCond .eq 7, 3) := by decide +kernel
theorem dX4_oneFits_18 : decode cX4_oneFits 18 = .ok (.iconst 1, 1) := by decide +kernel
theorem dX4_oneFits_19 : decode cX4_oneFits 19 = .ok (.goto 4, 3) := by decide +kernel
theorem dX4_oneFits_22 : decode cX4_oneFits 22 = .ok (.iconst 0, 1) := by decide +kernel
theorem dX4_oneFits_23 : decode cX4_oneFits 23 = .ok (.ireturn, 1) := by decide +kernel
theorem dX4_isArray_0 : decode cX4_isArray 0 = .ok (.iload_n 0, 1) := by decide +kernel
theorem dX4_isArray_1 : decode cX4_isArray 1 = .ok (.bipush 100, 2) := by decide +kernel
theorem dX4_isArray_3 : decode cX4_isArray 3 = .ok (.if_icmp .lt 14, 3) := by decide +kernel
theorem dX4_isArray_6 : decode cX4_isArray 6 = .ok (.iload_n 0, 1) := by decide +kernel
theorem dX4_isArray_7 : decode cX4_isArray 7 = .ok (.sipush 200, 3) := by decide +kernel
theorem dX4_isArray_10 : decode cX4_isArray 10 = .ok (.if_icmp .gt 7, 3) := by decide +kernel
theorem dX4_isArray_13 : decode cX4_isArray 13 = .ok (.iconst 1, 1) := by decide +kernel
theorem dX4_isArray_14 : decode cX4_isArray 14 = .ok (.goto 4, 3) := by decide +kernel
theorem dX4_isArray_17 : decode cX4_isArray 17 = .ok (.iconst 0, 1) := by decide +kernel
theorem dX4_isArray_18 : decode cX4_isArray 18 = .ok (.ireturn, 1) := by decide +kernel
theorem dX4_elementOf_0 : decode cX4_elementOf 0 = .ok (.iload_n 0, 1) := by decide +kernel
theorem dX4_elementOf_1 : decode cX4_elementOf 1 = .ok (.sipush 200, 3) := by decide +kernel
theorem dX4_elementOf_4 : decode cX4_elementOf 4 = .ok (.if_icmp .ne 7, 3) := by decide +kernel
theorem dX4_elementOf_7 : decode cX4_elementOf 7 = .ok (.sipush 301, 3) := by decide +kernel
theorem dX4_elementOf_10 : decode cX4_elementOf 10 = .ok (.ireturn, 1) := by decide +kernel
theorem dX4_elementOf_11 : decode cX4_elementOf 11 = .ok (.iload_n 0, 1) := by decide +kernel
theorem dX4_elementOf_12 : decode cX4_elementOf 12 = .ok (.bipush 100, 2) := by decide +kernel
theorem dX4_elementOf_14 : decode cX4_elementOf 14 = .ok (.if_icmp .lt 17, 3) := by decide +kernel
theorem dX4_elementOf_17 : decode cX4_elementOf 17 = .ok (.iload_n 0, 1) := by decide +kernel
theorem dX4_elementOf_18 : decode cX4_elementOf 18 = .ok (.sipush 200, 3) := by decide +kernel
theorem dX4_elementOf_21 : decode cX4_elementOf 21 = .ok (.if_icmp .ge 10, 3) := by decide +kernel
theorem dX4_elementOf_24 : decode cX4_elementOf 24 = .ok (.iload_n 0, 1) := by decide +kernel
theorem dX4_elementOf_25 : decode cX4_elementOf 25 = .ok (.bipush 100, 2) := by decide +kernel
theorem dX4_elementOf_27 : decode cX4_elementOf 27 = .ok (.isub, 1) := by decide +kernel
theorem dX4_elementOf_28 : decode cX4_elementOf 28 = .ok (.goto 6, 3) := by decide +kernel
theorem dX4_elementOf_31 : decode cX4_elementOf 31 = .ok (.sipush 305, 3) := by decide +kernel
theorem dX4_elementOf_34 : decode cX4_elementOf 34 = .ok (.ireturn, 1) := by decide +kernel
theorem dX4_settle_0 : decode cX4_settle 0 = .ok (.iconst 0, 1) := by decide +kernel
theorem dX4_settle_1 : decode cX4_settle 1 = .ok (.istore_n 1, 1) := by decide +kernel
theorem dX4_settle_2 : decode cX4_settle 2 = .ok (.iload_n 1, 1) := by decide +kernel
theorem dX4_settle_3 : decode cX4_settle 3 = .ok (.bipush 16, 2) := by decide +kernel
theorem dX4_settle_5 : decode cX4_settle 5 = .ok (.if_icmp .ge 80, 3) := by decide +kernel
theorem dX4_settle_8 : decode cX4_settle 8 = .ok (.iconst 0, 1) := by decide +kernel
theorem dX4_settle_9 : decode cX4_settle 9 = .ok (.istore_n 2, 1) := by decide +kernel
theorem dX4_settle_10 : decode cX4_settle 10 = .ok (.iload_n 2, 1) := by decide +kernel
theorem dX4_settle_11 : decode cX4_settle 11 = .ok (.bipush 16, 2) := by decide +kernel
theorem dX4_settle_13 : decode cX4_settle 13 = .ok (.if_icmp .ge 21, 3) := by decide +kernel
theorem dX4_settle_16 : decode cX4_settle 16 = .ok (.aload_n 0, 1) := by decide +kernel
theorem dX4_settle_17 : decode cX4_settle 17 = .ok (.getfield 15, 3) := by decide +kernel
theorem dX4_settle_20 : decode cX4_settle 20 = .ok (.iload_n 1, 1) := by decide +kernel
theorem dX4_settle_21 : decode cX4_settle 21 = .ok (.bipush 16, 2) := by decide +kernel
theorem dX4_settle_23 : decode cX4_settle 23 = .ok (.imul, 1) := by decide +kernel
theorem dX4_settle_24 : decode cX4_settle 24 = .ok (.iload_n 2, 1) := by decide +kernel
theorem dX4_settle_25 : decode cX4_settle 25 = .ok (.iadd, 1) := by decide +kernel
theorem dX4_settle_26 : decode cX4_settle 26 = .ok (.iconst 0, 1) := by decide +kernel
theorem dX4_settle_27 : decode cX4_settle 27 = .ok (.bastore, 1) := by decide +kernel
theorem dX4_settle_28 : decode cX4_settle 28 = .ok (.iinc 2 1, 3) := by decide +kernel
theorem dX4_settle_31 : decode cX4_settle 31 = .ok (.goto (-21), 3) := by decide +kernel
theorem dX4_settle_34 : decode cX4_settle 34 = .ok (.iload_n 1, 1) := by decide +kernel
theorem dX4_settle_35 : decode cX4_settle 35 = .ok (.istore_n 2, 1) := by decide +kernel
theorem dX4_settle_36 : decode cX4_settle 36 = .ok (.iconst 0, 1) := by decide +kernel
theorem dX4_settle_37 : decode cX4_settle 37 = .ok (.istore_n 3, 1) := by decide +kernel
theorem dX4_settle_38 : decode cX4_settle 38 = .ok (.iload_n 3, 1) := by decide +kernel
theorem dX4_settle_39 : decode cX4_settle 39 = .ok (.bipush 16, 2) := by decide +kernel
theorem dX4_settle_41 : decode cX4_settle 41 = .ok (.if_icmp .ge 38, 3) := by decide +kernel
theorem dX4_settle_44 : decode cX4_settle 44 = .ok (.iload_n 2, 1) := by decide +kernel
theorem dX4_settle_45 : decode cX4_settle 45 = .ok (.ifCond .lt 34, 3) := by decide +kernel
theorem dX4_settle_48 : decode cX4_settle 48 = .ok (.iload_n 2, 1) := by decide +kernel
theorem dX4_settle_49 : decode cX4_settle 49 = .ok (.bipush 16, 2) := by decide +kernel
theorem dX4_settle_51 : decode cX4_settle 51 = .ok (.if_icmp .ge 28, 3) := by decide +kernel
theorem dX4_settle_54 : decode cX4_settle 54 = .ok (.aload_n 0, 1) := by decide +kernel
theorem dX4_settle_55 : decode cX4_settle 55 = .ok (.getfield 15, 3) := by decide +kernel
theorem dX4_settle_58 : decode cX4_settle 58 = .ok (.iload_n 1, 1) := by decide +kernel
theorem dX4_settle_59 : decode cX4_settle 59 = .ok (.bipush 16, 2) := by decide +kernel
theorem dX4_settle_61 : decode cX4_settle 61 = .ok (.imul, 1) := by decide +kernel
theorem dX4_settle_62 : decode cX4_settle 62 = .ok (.iload_n 2, 1) := by decide +kernel
theorem dX4_settle_63 : decode cX4_settle 63 = .ok (.iadd, 1) := by decide +kernel
theorem dX4_settle_64 : decode cX4_settle 64 = .ok (.iconst 1, 1) := by decide +kernel
theorem dX4_settle_65 : decode cX4_settle 65 = .ok (.bastore, 1) := by decide +kernel
theorem dX4_settle_66 : decode cX4_settle 66 = .ok (.aload_n 0, 1) := by decide +kernel
theorem dX4_settle_67 : decode cX4_settle 67 = .ok (.getfield 11, 3) := by decide +kernel
theorem dX4_settle_70 : decode cX4_settle 70 = .ok (.iload_n 2, 1) := by decide +kernel
theorem dX4_settle_71 : decode cX4_settle 71 = .ok (.iaload, 1) := by decide +kernel
theorem dX4_settle_72 : decode cX4_settle 72 = .ok (.istore_n 2, 1) := by decide +kernel
theorem dX4_settle_73 : decode cX4_settle 73 = .ok (.iinc 3 1, 3) := by decide +kernel
theorem dX4_settle_76 : decode cX4_settle 76 = .ok (.goto (-38), 3) := by decide +kernel
theorem dX4_settle_79 : decode cX4_settle 79 = .ok (.iinc 1 1, 3) := by decide +kernel
theorem dX4_settle_82 : decode cX4_settle 82 = .ok (.goto (-80), 3) := by decide +kernel
theorem dX4_settle_85 : decode cX4_settle 85 = .ok (.return_, 1) := by decide +kernel
theorem dX4_forget_0 : decode cX4_forget 0 = .ok (.aload_n 0, 1) := by decide +kernel
theorem dX4_forget_1 : decode cX4_forget 1 = .ok (.getfield 11, 3) := by decide +kernel
theorem dX4_forget_4 : decode cX4_forget 4 = .ok (.iconst (-1), 1) := by decide +kernel
theorem dX4_forget_5 : decode cX4_forget 5 = .ok (.invokestatic 22, 3) := by decide +kernel
theorem dX4_forget_8 : decode cX4_forget 8 = .ok (.iconst 1, 1) := by decide +kernel
theorem dX4_forget_9 : decode cX4_forget 9 = .ok (.istore_n 1, 1) := by decide +kernel
theorem dX4_forget_10 : decode cX4_forget 10 = .ok (.iload_n 1, 1) := by decide +kernel
theorem dX4_forget_11 : decode cX4_forget 11 = .ok (.bipush 8, 2) := by decide +kernel
theorem dX4_forget_13 : decode cX4_forget 13 = .ok (.if_icmp .ge 25, 3) := by decide +kernel
theorem dX4_forget_16 : decode cX4_forget 16 = .ok (.aload_n 0, 1) := by decide +kernel
theorem dX4_forget_17 : decode cX4_forget 17 = .ok (.getfield 11, 3) := by decide +kernel
theorem dX4_forget_20 : decode cX4_forget 20 = .ok (.iload_n 1, 1) := by decide +kernel
theorem dX4_forget_21 : decode cX4_forget 21 = .ok (.iload_n 1, 1) := by decide +kernel
theorem dX4_forget_22 : decode cX4_forget 22 = .ok (.iconst 1, 1) := by decide +kernel
theorem dX4_forget_23 : decode cX4_forget 23 = .ok (.if_icmp .ne 7, 3) := by decide +kernel
theorem dX4_forget_26 : decode cX4_forget 26 = .ok (.iconst 0, 1) := by decide +kernel
theorem dX4_forget_27 : decode cX4_forget 27 = .ok (.goto 4, 3) := by decide +kernel
theorem dX4_forget_30 : decode cX4_forget 30 = .ok (.iconst 1, 1) := by decide +kernel
theorem dX4_forget_31 : decode cX4_forget 31 = .ok (.iastore, 1) := by decide +kernel
theorem dX4_forget_32 : decode cX4_forget 32 = .ok (.iinc 1 1, 3) := by decide +kernel
theorem dX4_forget_35 : decode cX4_forget 35 = .ok (.goto (-25), 3) := by decide +kernel
theorem dX4_forget_38 : decode cX4_forget 38 = .ok (.aload_n 0, 1) := by decide +kernel
theorem dX4_forget_39 : decode cX4_forget 39 = .ok (.invokevirtual 28, 3) := by decide +kernel
theorem dX4_forget_42 : decode cX4_forget 42 = .ok (.return_, 1) := by decide +kernel
theorem dX4_setAbove_0 : decode cX4_setAbove 0 = .ok (.iload_n 1, 1) := by decide +kernel
theorem dX4_setAbove_1 : decode cX4_setAbove 1 = .ok (.invokestatic 31, 3) := by decide +kernel
theorem dX4_setAbove_4 : decode cX4_setAbove 4 = .ok (.ifCond .eq 10, 3) := by decide +kernel
theorem dX4_setAbove_7 : decode cX4_setAbove 7 = .ok (.aload_n 0, 1) := by decide +kernel
theorem dX4_setAbove_8 : decode cX4_setAbove 8 = .ok (.getfield 11, 3) := by decide +kernel
theorem dX4_setAbove_11 : decode cX4_setAbove 11 = .ok (.iload_n 1, 1) := by decide +kernel
theorem dX4_setAbove_12 : decode cX4_setAbove 12 = .ok (.iload_n 2, 1) := by decide +kernel
theorem dX4_setAbove_13 : decode cX4_setAbove 13 = .ok (.iastore, 1) := by decide +kernel
theorem dX4_setAbove_14 : decode cX4_setAbove 14 = .ok (.return_, 1) := by decide +kernel
theorem dX4_endsAbove_0 : decode cX4_endsAbove 0 = .ok (.iload_n 1, 1) := by decide +kernel
theorem dX4_endsAbove_1 : decode cX4_endsAbove 1 = .ok (.istore_n 2, 1) := by decide +kernel
theorem dX4_endsAbove_2 : decode cX4_endsAbove 2 = .ok (.iconst 0, 1) := by decide +kernel
theorem dX4_endsAbove_3 : decode cX4_endsAbove 3 = .ok (.istore_n 3, 1) := by decide +kernel
theorem dX4_endsAbove_4 : decode cX4_endsAbove 4 = .ok (.iload_n 3, 1) := by decide +kernel
theorem dX4_endsAbove_5 : decode cX4_endsAbove 5 = .ok (.bipush 16, 2) := by decide +kernel
theorem dX4_endsAbove_7 : decode cX4_endsAbove 7 = .ok (.if_icmp .gt 26, 3) := by decide +kernel
theorem dX4_endsAbove_10 : decode cX4_endsAbove 10 = .ok (.iload_n 2, 1) := by decide +kernel
theorem dX4_endsAbove_11 : decode cX4_endsAbove 11 = .ok (.ifCond .lt 22, 3) := by decide +kernel
theorem dX4_endsAbove_14 : decode cX4_endsAbove 14 = .ok (.iload_n 2, 1) := by decide +kernel
theorem dX4_endsAbove_15 : decode cX4_endsAbove 15 = .ok (.bipush 16, 2) := by decide +kernel
theorem dX4_endsAbove_17 : decode cX4_endsAbove 17 = .ok (.if_icmp .ge 16, 3) := by decide +kernel
theorem dX4_endsAbove_20 : decode cX4_endsAbove 20 = .ok (.aload_n 0, 1) := by decide +kernel
theorem dX4_endsAbove_21 : decode cX4_endsAbove 21 = .ok (.getfield 11, 3) := by decide +kernel
theorem dX4_endsAbove_24 : decode cX4_endsAbove 24 = .ok (.iload_n 2, 1) := by decide +kernel
theorem dX4_endsAbove_25 : decode cX4_endsAbove 25 = .ok (.iaload, 1) := by decide +kernel
theorem dX4_endsAbove_26 : decode cX4_endsAbove 26 = .ok (.istore_n 2, 1) := by decide +kernel
theorem dX4_endsAbove_27 : decode cX4_endsAbove 27 = .ok (.iinc 3 1, 3) := by decide +kernel
theorem dX4_endsAbove_30 : decode cX4_endsAbove 30 = .ok (.goto (-26), 3) := by decide +kernel
theorem dX4_endsAbove_33 : decode cX4_endsAbove 33 = .ok (.iload_n 2, 1) := by decide +kernel
theorem dX4_endsAbove_34 : decode cX4_endsAbove 34 = .ok (.iconst (-1), 1) := by decide +kernel
theorem dX4_endsAbove_35 : decode cX4_endsAbove 35 = .ok (.if_icmp .ne 7, 3) := by decide +kernel
theorem dX4_endsAbove_38 : decode cX4_endsAbove 38 = .ok (.iconst 1, 1) := by decide +kernel
theorem dX4_endsAbove_39 : decode cX4_endsAbove 39 = .ok (.goto 4, 3) := by decide +kernel
theorem dX4_endsAbove_42 : decode cX4_endsAbove 42 = .ok (.iconst 0, 1) := by decide +kernel
theorem dX4_endsAbove_43 : decode cX4_endsAbove 43 = .ok (.ireturn, 1) := by decide +kernel
