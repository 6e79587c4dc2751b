theorem rs_RJ7_13 : mx_res RJ7 13 = some (2, 599, 3) := by decide +kernel
theorem rs_RJ7_150 : mx_res RJ7 150 = some (6, 0, 0) := by decide +kernel
theorem rs_RJ7_304 : mx_res RJ7 304 = some (14, 0, 0) := by decide +kernel
theorem rs_RJ7_310 : mx_res RJ7 310 = some (18, 0, 0) := by decide +kernel
theorem rs_RJ7_200311 : mx_res RJ7 200311 = some (19, 0, 0) := by decide +kernel
theorem rs_RX2_20 : mx_res RX2 20 = some (0, 2, 3) := by decide +kernel
theorem rs_RX2_78 : mx_res RX2 78 = some (0, 2, 2) := by decide +kernel
theorem rs_RX4_3 : mx_res RX4 3 = some (5, 0, 0) := by decide +kernel
theorem rs_RX4_11 : mx_res RX4 11 = some (0, 4, 0) := by decide +kernel
theorem rs_RX4_15 : mx_res RX4 15 = some (0, 4, 1) := by decide +kernel
theorem rs_RX4_19 : mx_res RX4 19 = some (1, 130, 0) := by decide +kernel
theorem rs_RX4_22 : mx_res RX4 22 = some (2, 600, 2) := by decide +kernel
theorem rs_RX4_28 : mx_res RX4 28 = some (1, 133, 0) := by decide +kernel
theorem rs_RX4_31 : mx_res RX4 31 = some (2, 134, 1) := by decide +kernel
theorem rs_RX4_35 : mx_res RX4 35 = some (1, 139, 2) := by decide +kernel
theorem rs_RX8_1 : mx_res RX8 1 = some (5, 0, 0) := by decide +kernel
theorem rs_RX8_7 : mx_res RX8 7 = some (0, 8, 0) := by decide +kernel
theorem rs_RX8_13 : mx_res RX8 13 = some (0, 8, 1) := by decide +kernel
theorem rs_RX8_19 : mx_res RX8 19 = some (0, 9, 11) := by decide +kernel
theorem rs_RX8_23 : mx_res RX8 23 = some (1, 249, 0) := by decide +kernel
theorem rs_RX8_27 : mx_res RX8 27 = some (1, 224, 0) := by decide +kernel
theorem rs_RX8_30 : mx_res RX8 30 = some (0, 9, 10) := by decide +kernel
theorem rs_RX8_33 : mx_res RX8 33 = some (1, 246, 1) := by decide +kernel
theorem rs_RX8_37 : mx_res RX8 37 = some (1, 221, 1) := by decide +kernel
theorem rs_RX8_40 : mx_res RX8 40 = some (1, 48, 1) := by decide +kernel
theorem rs_RX8_45 : mx_res RX8 45 = some (1, 222, 1) := by decide +kernel
theorem rs_RX8_49 : mx_res RX8 49 = some (1, 225, 0) := by decide +kernel
theorem rs_RX8_52 : mx_res RX8 52 = some (1, 227, 0) := by decide +kernel
theorem rs_RX8_55 : mx_res RX8 55 = some (1, 226, 0) := by decide +kernel
theorem rs_RX8_58 : mx_res RX8 58 = some (1, 228, 1) := by decide +kernel
theorem rs_RX8_61 : mx_res RX8 61 = some (1, 229, 1) := by decide +kernel
theorem rs_RX8_64 : mx_res RX8 64 = some (1, 223, 1) := by decide +kernel
theorem rs_RX8_67 : mx_res RX8 67 = some (1, 231, 1) := by decide +kernel
theorem rs_RX8_70 : mx_res RX8 70 = some (1, 232, 1) := by decide +kernel
theorem rs_RX8_73 : mx_res RX8 73 = some (1, 268, 0) := by decide +kernel
theorem rs_RX8_77 : mx_res RX8 77 = some (1, 230, 1) := by decide +kernel
theorem rs_RX8_80 : mx_res RX8 80 = some (1, 233, 1) := by decide +kernel
theorem rs_RX8_83 : mx_res RX8 83 = some (1, 234, 1) := by decide +kernel
theorem rs_RX8_86 : mx_res RX8 86 = some (1, 236, 1) := by decide +kernel
theorem rs_RX8_89 : mx_res RX8 89 = some (1, 235, 1) := by decide +kernel
theorem rs_RX8_93 : mx_res RX8 93 = some (2, 267, 1) := by decide +kernel
theorem rs_RX8_97 : mx_res RX8 97 = some (1, 269, 0) := by decide +kernel
theorem rs_RX8_100 : mx_res RX8 100 = some (1, 237, 1) := by decide +kernel
theorem rs_RX8_103 : mx_res RX8 103 = some (1, 240, 1) := by decide +kernel
theorem rs_RX8_106 : mx_res RX8 106 = some (1, 239, 1) := by decide +kernel
theorem rs_RX8_109 : mx_res RX8 109 = some (1, 238, 1) := by decide +kernel
theorem rs_RX9_15 : mx_res RX9 15 = some (0, 9, 0) := by decide +kernel
theorem rs_RX9_19 : mx_res RX9 19 = some (0, 9, 1) := by decide +kernel
theorem rs_RX9_41 : mx_res RX9 41 = some (0, 9, 12) := by decide +kernel
theorem rs_RX9_80 : mx_res RX9 80 = some (0, 9, 11) := by decide +kernel
theorem rs_RX9_83 : mx_res RX9 83 = some (0, 9, 3) := by decide +kernel
theorem rs_RX9_86 : mx_res RX9 86 = some (0, 9, 10) := by decide +kernel
theorem rs_RX9_150 : mx_res RX9 150 = some (1, 249, 0) := by decide +kernel
theorem rs_RX9_153 : mx_res RX9 153 = some (1, 247, 1) := by decide +kernel
theorem ft_2_2 : mx_fty 2 2 = some (.int, false, "ClassMill$Heads") := by decide +kernel
theorem ft_4_0 : mx_fty 4 0 = some ((.array .int), true, "ClassMill$Kin") := by decide +kernel
theorem ft_4_1 : mx_fty 4 1 = some ((.array .boolean), true, "ClassMill$Kin") := by decide +kernel
theorem ft_8_0 : mx_fty 8 0 = some ((.object "ClassMill$Text"), true, "ClassMill$Syntax") := by decide +kernel
theorem ft_8_1 : mx_fty 8 1 = some ((.object "ClassMill$Heads"), true, "ClassMill$Syntax") := by decide +kernel
theorem ft_9_10 : mx_fty 9 10 = some (.int, false, "ClassMill$Text") := by decide +kernel
theorem ft_9_11 : mx_fty 9 11 = some (.int, false, "ClassMill$Text") := by decide +kernel
theorem ft_9_12 : mx_fty 9 12 = some (.int, false, "ClassMill$Text") := by decide +kernel
theorem mt_J7_fill_53178 : mx_mt 600 = some (yJ7_fill_53178, cJ7_fill_53178, 4, none) := rfl
theorem mt_X4_settle : mx_mt 133 = some (yX4_settle, cX4_settle, 4, none) := rfl
theorem mt_X4_forget : mx_mt 130 = some (yX4_forget, cX4_forget, 2, none) := rfl
theorem mt_X4_isClass : mx_mt 134 = some (yX4_isClass, cX4_isClass, 1, (some .boolean)) := rfl
theorem mt_X4_above : mx_mt 131 = some (yX4_above, cX4_above, 2, (some .int)) := rfl
theorem mt_X4_isNumber : mx_mt 137 = some (yX4_isNumber, cX4_isNumber, 1, (some .boolean)) := rfl
theorem mt_X4_isReference : mx_mt 136 = some (yX4_isReference, cX4_isReference, 1, (some .boolean)) := rfl
theorem mt_X4_fits : mx_mt 139 = some (yX4_fits, cX4_fits, 4, (some .boolean)) := rfl
theorem mt_X4_oneFits : mx_mt 140 = some (yX4_oneFits, cX4_oneFits, 3, (some .boolean)) := rfl
theorem mt_X9_level : mx_mt 267 = some (yX9_level, cX9_level, 1, (some .int)) := rfl
theorem mt_X9_kind : mx_mt 249 = some (yX9_kind, cX9_kind, 1, (some .int)) := rfl
theorem mt_X9_kindAt : mx_mt 247 = some (yX9_kindAt, cX9_kindAt, 2, (some .int)) := rfl
theorem mt_X4_isArray : mx_mt 135 = some (yX4_isArray, cX4_isArray, 1, (some .boolean)) := rfl
theorem mt_X4_elementOf : mx_mt 138 = some (yX4_elementOf, cX4_elementOf, 1, (some .int)) := rfl
theorem mt_X9_beginsCast : mx_mt 269 = some (yX9_beginsCast, cX9_beginsCast, 1, (some .boolean)) := rfl
theorem mt_X9_beginsVariable : mx_mt 268 = some (yX9_beginsVariable, cX9_beginsVariable, 3, (some .boolean)) := rfl
theorem mt_X4_setAbove : mx_mt 132 = some (yX4_setAbove, cX4_setAbove, 3, none) := rfl
theorem mt_X2_addClass : mx_mt 48 = some (yX2_addClass, cX2_addClass, 2, none) := rfl
theorem mt_X8_accept : mx_mt 222 = some (yX8_accept, cX8_accept, 2, (some .boolean)) := rfl
theorem mt_X9_tellHere : mx_mt 246 = some (yX9_tellHere, cX9_tellHere, 2, none) := rfl
theorem mt_X8_need : mx_mt 221 = some (yX8_need, cX8_need, 2, none) := rfl
theorem mt_X8_binaryAhead : mx_mt 235 = some (yX8_binaryAhead, cX8_binaryAhead, 3, (some .boolean)) := rfl
theorem mt_X8_tooDeep : mx_mt 223 = some (yX8_tooDeep, cX8_tooDeep, 2, (some .boolean)) := rfl
theorem mt_X8_readValue : mx_mt 234 = some (yX8_readValue, cX8_readValue, 4, none) := rfl
theorem mt_X8_readUnary : mx_mt 236 = some (yX8_readUnary, cX8_readUnary, 4, none) := rfl
theorem mt_X8_readPrimary : mx_mt 237 = some (yX8_readPrimary, cX8_readPrimary, 2, none) := rfl
theorem mt_X8_readBehind : mx_mt 238 = some (yX8_readBehind, cX8_readBehind, 4, none) := rfl
theorem mt_X8_readNew : mx_mt 239 = some (yX8_readNew, cX8_readNew, 3, none) := rfl
theorem mt_X8_readArguments : mx_mt 240 = some (yX8_readArguments, cX8_readArguments, 4, none) := rfl
theorem mt_X8_readCondition : mx_mt 231 = some (yX8_readCondition, cX8_readCondition, 2, none) := rfl
theorem mt_X8_readPlain : mx_mt 233 = some (yX8_readPlain, cX8_readPlain, 2, none) := rfl
theorem mt_X8_readType : mx_mt 227 = some (yX8_readType, cX8_readType, 1, none) := rfl
theorem mt_X8_readVariable : mx_mt 230 = some (yX8_readVariable, cX8_readVariable, 2, none) := rfl
theorem mt_X8_readBlock : mx_mt 228 = some (yX8_readBlock, cX8_readBlock, 3, none) := rfl
theorem mt_X8_readStatement : mx_mt 229 = some (yX8_readStatement, cX8_readStatement, 2, none) := rfl
theorem mt_X8_readTry : mx_mt 232 = some (yX8_readTry, cX8_readTry, 2, none) := rfl
theorem mt_X8_readParameters : mx_mt 226 = some (yX8_readParameters, cX8_readParameters, 3, none) := rfl
theorem mt_X8_readMember : mx_mt 225 = some (yX8_readMember, cX8_readMember, 2, none) := rfl
theorem mt_X8_readClass : mx_mt 224 = some (yX8_readClass, cX8_readClass, 2, none) := rfl
theorem mt_X8_readProgram : mx_mt 220 = some (yX8_readProgram, cX8_readProgram, 2, none) := rfl
theorem mt_X4_init : mx_mt 129 = some (yX4_init, cX4_init, 1, none) := rfl
theorem mt_X8_init : mx_mt 219 = some (yX8_init, cX8_init, 3, none) := rfl
theorem mt_J7_copyOf_9075b : mx_mt 602 = some (yJ7_copyOf_9075b, cJ7_copyOf_9075b, 3, (some (.array .byte))) := rfl
theorem mt_J7_rangeCheck_23922 : mx_mt 599 = some (yJ7_rangeCheck_23922, cJ7_rangeCheck_23922, 3, none) := rfl
theorem mt_J7_fill_fda19 : mx_mt 601 = some (yJ7_fill_fda19, cJ7_fill_fda19, 5, none) := rfl
theorem mt_X4_endsAbove : mx_mt 141 = some (yX4_endsAbove, cX4_endsAbove, 4, (some .boolean)) := rfl
theorem dX4_settle_0 : decode cX4_settle 0 = .ok (.iconst 0, 1) := by decide +kernel
theorem dX4_settle_1 : decode cX4_settle 1 = .ok (.istore_n 1, 1) := by decide +kernel
theorem dX4_settle_2 : decode cX4_settle 2 = .ok (.iload_n 1, 1) := by decide +kernel
theorem dX4_settle_3 : decode cX4_settle 3 = .ok (.bipush 16, 2) := by decide +kernel
theorem dX4_settle_5 : decode cX4_settle 5 = .ok (.if_icmp .ge 80, 3) := by decide +kernel
theorem dX4_settle_8 : decode cX4_settle 8 = .ok (.iconst 0, 1) := by decide +kernel
theorem dX4_settle_9 : decode cX4_settle 9 = .ok (.istore_n 2, 1) := by decide +kernel
theorem dX4_settle_10 : decode cX4_settle 10 = .ok (.iload_n 2, 1) := by decide +kernel
theorem dX4_settle_11 : decode cX4_settle 11 = .ok (.bipush 16, 2) := by decide +kernel
theorem dX4_settle_13 : decode cX4_settle 13 = .ok (.if_icmp .ge 21, 3) := by decide +kernel
theorem dX4_settle_16 : decode cX4_settle 16 = .ok (.aload_n 0, 1) := by decide +kernel
theorem dX4_settle_17 : decode cX4_settle 17 = .ok (.getfield 15, 3) := by decide +kernel
theorem dX4_settle_20 : decode cX4_settle 20 = .ok (.iload_n 1, 1) := by decide +kernel
theorem dX4_settle_21 : decode cX4_settle 21 = .ok (.bipush 16, 2) := by decide +kernel
theorem dX4_settle_23 : decode cX4_settle 23 = .ok (.imul, 1) := by decide +kernel
theorem dX4_settle_24 : decode cX4_settle 24 = .ok (.iload_n 2, 1) := by decide +kernel
theorem dX4_settle_25 : decode cX4_settle 25 = .ok (.iadd, 1) := by decide +kernel
theorem dX4_settle_26 : decode cX4_settle 26 = .ok (.iconst 0, 1) := by decide +kernel
theorem dX4_settle_27 : decode cX4_settle 27 = .ok (.bastore, 1) := by decide +kernel
theorem dX4_settle_28 : decode cX4_settle 28 = .ok (.iinc 2 1, 3) := by decide +kernel
theorem dX4_settle_31 : decode cX4_settle 31 = .ok (.goto (-21), 3) := by decide +kernel
theorem dX4_settle_34 : decode cX4_settle 34 = .ok (.iload_n 1, 1) := by decide +kernel
theorem dX4_settle_35 : decode cX4_settle 35 = .ok (.istore_n 2, 1) := by decide +kernel
theorem dX4_settle_36 : decode cX4_settle 36 = .ok (.iconst 0, 1) := by decide +kernel
theorem dX4_settle_37 : decode cX4_settle 37 = .ok (.istore_n 3, 1) := by decide +kernel
theorem dX4_settle_38 : decode cX4_settle 38 = .ok (.iload_n 3, 1) := by decide +kernel
theorem dX4_settle_39 : decode cX4_settle 39 = .ok (.bipush 16, 2) := by decide +kernel
theorem dX4_settle_41 : decode cX4_settle 41 = .ok (.if_icmp .ge 38, 3) := by decide +kernel
theorem dX4_settle_44 : decode cX4_settle 44 = .ok (.iload_n 2, 1) := by decide +kernel
theorem dX4_settle_45 : decode cX4_settle 45 = .ok (.ifCond .lt 34, 3) := by decide +kernel
theorem dX4_settle_48 : decode cX4_settle 48 = .ok (.iload_n 2, 1) := by decide +kernel
theorem dX4_settle_49 : decode cX4_settle 49 = .ok (.bipush 16, 2) := by decide +kernel
theorem dX4_settle_51 : decode cX4_settle 51 = .ok (.if_icmp .ge 28, 3) := by decide +kernel
theorem dX4_settle_54 : decode cX4_settle 54 = .ok (.aload_n 0, 1) := by decide +kernel
theorem dX4_settle_55 : decode cX4_settle 55 = .ok (.getfield 15, 3) := by decide +kernel
theorem dX4_settle_58 : decode cX4_settle 58 = .ok (.iload_n 1, 1) := by decide +kernel
theorem dX4_settle_59 : decode cX4_settle 59 = .ok (.bipush 16, 2) := by decide +kernel
theorem dX4_settle_61 : decode cX4_settle 61 = .ok (.imul, 1) := by decide +kernel
theorem dX4_settle_62 : decode cX4_settle 62 = .ok (.iload_n 2, 1) := by decide +kernel
theorem dX4_settle_63 : decode cX4_settle 63 = .ok (.iadd, 1) := by decide +kernel
theorem dX4_settle_64 : decode cX4_settle 64 = .ok (.iconst 1, 1) := by decide +kernel
theorem dX4_settle_65 : decode cX4_settle 65 = .ok (.bastore, 1) := by decide +kernel
theorem dX4_settle_66 : decode cX4_settle 66 = .ok (.aload_n 0, 1) := by decide +kernel
theorem dX4_settle_67 : decode cX4_settle 67 = .ok (.getfield 11, 3) := by decide +kernel
theorem dX4_settle_70 : decode cX4_settle 70 = .ok (.iload_n 2, 1) := by decide +kernel
theorem dX4_settle_71 : decode cX4_settle 71 = .ok (.iaload, 1) := by decide +kernel
theorem dX4_settle_72 : decode cX4_settle 72 = .ok (.istore_n 2, 1) := by decide +kernel
theorem dX4_settle_73 : decode cX4_settle 73 = .ok (.iinc 3 1, 3) := by decide +kernel
theorem dX4_settle_76 : decode cX4_settle 76 = .ok (.goto (-38), 3) := by decide +kernel
theorem dX4_settle_79 : decode cX4_settle 79 = .ok (.iinc 1 1, 3) := by decide +kernel
theorem dX4_settle_82 : decode cX4_settle 82 = .ok (.goto (-80), 3) := by decide +kernel
theorem dX4_settle_85 : decode cX4_settle 85 = .ok (.return_, 1) := by decide +kernel
theorem dX4_forget_0 : decode cX4_forget 0 = .ok (.aload_n 0, 1) := by decide +kernel
theorem dX4_forget_1 : decode cX4_forget 1 = .ok (.getfield 11, 3) := by decide +kernel
theorem dX4_forget_4 : decode cX4_forget 4 = .ok (.iconst (-1), 1) := by decide +kernel
theorem dX4_forget_5 : decode cX4_forget 5 = .ok (.invokestatic 22, 3) := by decide +kernel
theorem dX4_forget_8 : decode cX4_forget 8 = .ok (.iconst 1, 1) := by decide +kernel
theorem dX4_forget_9 : decode cX4_forget 9 = .ok (.istore_n 1, 1) := by decide +kernel
theorem dX4_forget_10 : decode cX4_forget 10 = .ok (.iload_n 1, 1) := by decide +kernel
theorem dX4_forget_11 : decode cX4_forget 11 = .ok (.bipush 8, 2) := by decide +kernel
theorem dX4_forget_13 : decode cX4_forget 13 = .ok (.if_icmp .ge 25, 3) := by decide +kernel
theorem dX4_forget_16 : decode cX4_forget 16 = .ok (.aload_n 0, 1) := by decide +kernel
theorem dX4_forget_17 : decode cX4_forget 17 = .ok (.getfield 11, 3) := by decide +kernel
theorem dX4_forget_20 : decode cX4_forget 20 = .ok (.iload_n 1, 1) := by decide +kernel
theorem dX4_forget_21 : decode cX4_forget 21 = .ok (.iload_n 1, 1) := by decide +kernel
theorem dX4_forget_22 : decode cX4_forget 22 = .ok (.iconst 1, 1) := by decide +kernel
theorem dX4_forget_23 : decode cX4_forget 23 = .ok (.if_icmp .ne 7, 3) := by decide +kernel
theorem dX4_forget_26 : decode cX4_forget 26 = .ok (.iconst 0, 1) := by decide +kernel
theorem dX4_forget_27 : decode cX4_forget 27 = .ok (.goto 4, 3) := by decide +kernel
theorem dX4_forget_30 : decode cX4_forget 30 = .ok (.iconst 1, 1) := by decide +kernel
theorem dX4_forget_31 : decode cX4_forget 31 = .ok (.iastore, 1) := by decide +kernel
theorem dX4_forget_32 : decode cX4_forget 32 = .ok (.iinc 1 1, 3) := by decide +kernel
theorem dX4_forget_35 : decode cX4_forget 35 = .ok (.goto (-25), 3) := by decide +kernel
theorem dX4_forget_38 : decode cX4_forget 38 = .ok (.aload_n 0, 1) := by decide +kernel
theorem dX4_forget_39 : decode cX4_forget 39 = .ok (.invokevirtual 28, 3) := by decide +kernel
theorem dX4_forget_42 : decode cX4_forget 42 = .ok (.return_, 1) := by decide +kernel
theorem dX4_isClass_0 : decode cX4_isClass 0 = .ok (.iload_n 0, 1) := by decide +kernel
theorem dX4_isClass_1 : decode cX4_isClass 1 = .ok (.ifCond .lt 13, 3) := by decide +kernel
theorem dX4_isClass_4 : decode cX4_isClass 4 = .ok (.iload_n 0, 1) := by decide +kernel
theorem dX4_isClass_5 : decode cX4_isClass 5 = .ok (.bipush 16, 2) := by decide +kernel
theorem dX4_isClass_7 : decode cX4_isClass 7 = .ok (.if_icmp .ge 7, 3) := by decide +kernel
theorem dX4_isClass_10 : decode cX4_isClass 10 = .ok (.iconst 1, 1) := by decide +kernel
theorem dX4_isClass_11 : decode cX4_isClass 11 = .ok (.goto 4, 3) := by decide +kernel
theorem dX4_isClass_14 : decode cX4_isClass 14 = .ok (.iconst 0, 1) := by decide +kernel
theorem dX4_isClass_15 : decode cX4_isClass 15 = .ok (.ireturn, 1) := by decide +kernel
theorem dX4_above_0 : decode cX4_above 0 = .ok (.iload_n 1, 1) := by decide +kernel
theorem dX4_above_1 : decode cX4_above 1 = .ok (.invokestatic 31, 3) := by decide +kernel
theorem dX4_above_4 : decode cX4_above 4 = .ok (.ifCond .eq 12, 3) := by decide +kernel
theorem dX4_above_7 : decode cX4_above 7 = .ok (.aload_n 0, 1) := by decide +kernel
theorem dX4_above_8 : decode cX4_above 8 = .ok (.getfield 11, 3) := by decide +kernel
theorem dX4_above_11 : decode cX4_above 11 = .ok (.iload_n 1, 1) := by decide +kernel
theorem dX4_above_12 : decode cX4_above 12 = .ok (.iaload, 1) := by decide +kernel
theorem dX4_above_13 : decode cX4_above 13 = .ok (.goto 4, 3) := by decide +kernel
theorem dX4_above_16 : decode cX4_above 16 = .ok (.iconst (-1), 1) := by decide +kernel
theorem dX4_above_17 : decode cX4_above 17 = .ok (.ireturn, 1) := by decide +kernel
theorem dX4_isNumber_0 : decode cX4_isNumber 0 = .ok (.iload_n 0, 1) := by decide +kernel
theorem dX4_isNumber_1 : decode cX4_isNumber 1 = .ok (.sipush 301, 3) := by decide +kernel
theorem dX4_isNumber_4 : decode cX4_isNumber 4 = .ok (.if_icmp .eq 10, 3) := by decide +kernel
theorem dX4_isNumber_7 : decode cX4_isNumber 7 = .ok (.iload_n 0, 1) := by decide +kernel
theorem dX4_isNumber_8 : decode cX4_isNumber 8 = .ok (.sipush 302, 3) := by decide +kernel
theorem dX4_isNumber_11 : decode cX4_isNumber 11 = .ok (.if_icmp .ne 7, 3) := by decide +kernel
theorem dX4_isNumber_14 : decode cX4_isNumber 14 = .ok (.iconst 1, 1) := by decide +kernel
theorem dX4_isNumber_15 : decode cX4_isNumber 15 = .ok (.goto 4, 3) := by decide +kernel
theorem dX4_isNumber_18 : decode cX4_isNumber 18 = .ok (.iconst 0, 1) := by decide +kernel
theorem dX4_isNumber_19 : decode cX4_isNumber 19 = .ok (.ireturn, 1) := by decide +kernel
theorem dX4_isReference_0 : decode cX4_isReference 0 = .ok (.iload_n 0, 1) := by decide +kernel
theorem dX4_isReference_1 : decode cX4_isReference 1 = .ok (.sipush 300, 3) := by decide +kernel
theorem dX4_isReference_4 : decode cX4_isReference 4 = .ok (.if_icmp .eq 14, 3) := by decide +kernel
theorem dX4_isReference_7 : decode cX4_isReference 7 = .ok (.iload_n 0, 1) := by decide +kernel
theorem dX4_isReference_8 : decode cX4_isReference 8 = .ok (.ifCond .lt 14, 3) := by decide +kernel
theorem dX4_isReference_11 : decode cX4_isReference 11 = .ok (.iload_n 0, 1) := by decide +kernel
theorem dX4_isReference_12 : decode cX4_isReference 12 = .ok (.sipush 200, 3) := by decide +kernel
theorem dX4_isReference_15 : decode cX4_isReference 15 = .ok (.if_icmp .gt 7, 3) := by decide +kernel
theorem dX4_isReference_18 : decode cX4_isReference 18 = .ok (.iconst 1, 1) := by decide +kernel
theorem dX4_isReference_19 : decode cX4_isReference 19 = .ok (.goto 4, 3) := by decide +kernel
theorem dX4_isReference_22 : decode cX4_isReference 22 = .ok (.iconst 0, 1) := by decide +kernel
theorem dX4_isReference_23 : decode cX4_isReference 23 = .ok (.ireturn, 1) := by decide +kernel
theorem dX4_fits_0 : decode cX4_fits 0 = .ok (.iload_n 1, 1) := by decide +kernel
theorem dX4_fits_1 : decode cX4_fits 1 = .ok (.iload_n 2, 1) := by decide +kernel
theorem dX4_fits_2 : decode cX4_fits 2 = .ok (.if_icmp .ne 5, 3) := by decide +kernel
theorem dX4_fits_5 : decode cX4_fits 5 = .ok (.iconst 1, 1) := by decide +kernel
theorem dX4_fits_6 : decode cX4_fits 6 = .ok (.ireturn, 1) := by decide +kernel
theorem dX4_fits_7 : decode cX4_fits 7 = .ok (.iload_n 1, 1) := by decide +kernel
theorem dX4_fits_8 : decode cX4_fits 8 = .ok (.sipush 300, 3) := by decide +kernel
theorem dX4_fits_11 : decode cX4_fits 11 = .ok (.if_icmp .ne 20, 3) := by decide +kernel
theorem dX4_fits_14 : decode cX4_fits 14 = .ok (.iload_n 2, 1) := by decide +kernel
theorem dX4_fits_15 : decode cX4_fits 15 = .ok (.ifCond .lt 14, 3) := by decide +kernel
theorem dX4_fits_18 : decode cX4_fits 18 = .ok (.iload_n 2, 1) := by decide +kernel
theorem dX4_fits_19 : decode cX4_fits 19 = .ok (.sipush 200, 3) := by decide +kernel
theorem dX4_fits_22 : decode cX4_fits 22 = .ok (.if_icmp .gt 7, 3) := by decide +kernel
theorem dX4_fits_25 : decode cX4_fits 25 = .ok (.iconst 1, 1) := by decide +kernel
theorem dX4_fits_26 : decode cX4_fits 26 = .ok (.goto 4, 3) := by decide +kernel
theorem dX4_fits_29 : decode cX4_fits 29 = .ok (.iconst 0, 1) := by decide +kernel
theorem dX4_fits_30 : decode cX4_fits 30 = .ok (.ireturn, 1) := by decide +kernel
theorem dX4_fits_31 : decode cX4_fits 31 = .ok (.iload_n 1, 1) := by decide +kernel
theorem dX4_fits_32 : decode cX4_fits 32 = .ok (.ifCond .lt 39, 3) := by decide +kernel
theorem dX4_fits_35 : decode cX4_fits 35 = .ok (.iload_n 1, 1) := by decide +kernel
theorem dX4_fits_36 : decode cX4_fits 36 = .ok (.bipush 16, 2) := by decide +kernel
theorem dX4_fits_38 : decode cX4_fits 38 = .ok (.if_icmp .ge 33, 3) := by decide +kernel
theorem dX4_fits_41 : decode cX4_fits 41 = .ok (.iload_n 2, 1) := by decide +kernel
theorem dX4_fits_42 : decode cX4_fits 42 = .ok (.ifCond .lt 27, 3) := by decide +kernel
theorem dX4_fits_45 : decode cX4_fits 45 = .ok (.iload_n 2, 1) := by decide +kernel
theorem dX4_fits_46 : decode cX4_fits 46 = .ok (.bipush 16, 2) := by decide +kernel
theorem dX4_fits_48 : decode cX4_fits 48 = .ok (.if_icmp .ge 21, 3) := by decide +kernel
theorem dX4_fits_51 : decode cX4_fits 51 = .ok (.aload_n 0, 1) := by decide +kernel
theorem dX4_fits_52 : decode cX4_fits 52 = .ok (.getfield 15, 3) := by decide +kernel
theorem dX4_fits_55 : decode cX4_fits 55 = .ok (.iload_n 1, 1) := by decide +kernel
theorem dX4_fits_56 : decode cX4_fits 56 = .ok (.bipush 16, 2) := by decide +kernel
theorem dX4_fits_58 : decode cX4_fits 58 = .ok (.imul, 1) := by decide +kernel
theorem dX4_fits_59 : decode cX4_fits 59 = .ok (.iload_n 2, 1) := by decide +kernel
theorem dX4_fits_60 : decode cX4_fits 60 = .ok (.iadd, 1) := by decide +kernel
theorem dX4_fits_61 : decode cX4_fits 61 = .ok (.baload, 1) := by decide +kernel
theorem dX4_fits_62 : decode cX4_fits 62 = .ok (.ifCond .eq 7, 3) := by decide +kernel
theorem dX4_fits_65 : decode cX4_fits 65 = .ok (.iconst 1, 1) := by decide +kernel
theorem dX4_fits_66 : decode cX4_fits 66 = .ok (.goto 4, 3) := by decide +kernel
theorem dX4_fits_69 : decode cX4_fits 69 = .ok (.iconst 0, 1) := by decide +kernel
theorem dX4_fits_70 : decode cX4_fits 70 = .ok (.ireturn, 1) := by decide +kernel
theorem dX4_fits_71 : decode cX4_fits 71 = .ok (.iload_n 2, 1) := by decide +kernel
theorem dX4_fits_72 : decode cX4_fits 72 = .ok (.ifCond .ne 22, 3) := by decide +kernel
theorem dX4_fits_75 : decode cX4_fits 75 = .ok (.iload_n 1, 1) := by decide +kernel
theorem dX4_fits_76 : decode cX4_fits 76 = .ok (.bipush 100, 2) := by decide +kernel
theorem dX4_fits_78 : decode cX4_fits 78 = .ok (.if_icmp .lt 14, 3) := by decide +kernel
theorem dX4_fits_81 : decode cX4_fits 81 = .ok (.iload_n 1, 1) := by decide +kernel
theorem dX4_fits_82 : decode cX4_fits 82 = .ok (.sipush 200, 3) := by decide +kernel
theorem dX4_fits_85 : decode cX4_fits 85 = .ok (.if_icmp .gt 7, 3) := by decide +kernel
theorem dX4_fits_88 : decode cX4_fits 88 = .ok (.iconst 1, 1) := by decide +kernel
theorem dX4_fits_89 : decode cX4_fits 89 = .ok (.goto 4, 3) := by decide +kernel
theorem dX4_fits_92 : decode cX4_fits 92 = .ok (.iconst 0, 1) := by decide +kernel
theorem dX4_fits_93 : decode cX4_fits 93 = .ok (.ireturn, 1) := by decide +kernel
theorem dX4_fits_94 : decode cX4_fits 94 = .ok (.iload_n 1, 1) := by decide +kernel
theorem dX4_fits_95 : decode cX4_fits 95 = .ok (.bipush 100, 2) := by decide +kernel
theorem dX4_fits_97 : decode cX4_fits 97 = .ok (.if_icmp .lt 25, 3) := by decide +kernel
theorem dX4_fits_100 : decode cX4_fits 100 = .ok (.iload_n 1, 1) := by decide +kernel
theorem dX4_fits_101 : decode cX4_fits 101 = .ok (.bipush 116, 2) := by decide +kernel
theorem dX4_fits_103 : decode cX4_fits 103 = .ok (.if_icmp .ge 19, 3) := by decide +kernel
theorem dX4_fits_106 : decode cX4_fits 106 = .ok (.iload_n 2, 1) := by decide +kernel
theorem dX4_fits_107 : decode cX4_fits 107 = .ok (.bipush 100, 2) := by decide +kernel
theorem dX4_fits_109 : decode cX4_fits 109 = .ok (.if_icmp .lt 13, 3) := by decide +kernel
theorem dX4_fits_112 : decode cX4_fits 112 = .ok (.iload_n 2, 1) := by decide +kernel
theorem dX4_fits_113 : decode cX4_fits 113 = .ok (.bipush 116, 2) := by decide +kernel
theorem dX4_fits_115 : decode cX4_fits 115 = .ok (.if_icmp .ge 7, 3) := by decide +kernel
theorem dX4_fits_118 : decode cX4_fits 118 = .ok (.iconst 1, 1) := by decide +kernel
theorem dX4_fits_119 : decode cX4_fits 119 = .ok (.goto 4, 3) := by decide +kernel
theorem dX4_fits_122 : decode cX4_fits 122 = .ok (.iconst 0, 1) := by decide +kernel
theorem dX4_fits_123 : decode cX4_fits 123 = .ok (.istore_n 3, 1) := by decide +kernel
theorem dX4_fits_124 : decode cX4_fits 124 = .ok (.iload_n 3, 1) := by decide +kernel
theorem dX4_fits_125 : decode cX4_fits 125 = .ok (.ifCond .eq 27, 3) := by decide +kernel
theorem dX4_fits_128 : decode cX4_fits 128 = .ok (.aload_n 0, 1) := by decide +kernel
theorem dX4_fits_129 : decode cX4_fits 129 = .ok (.getfield 15, 3) := by decide +kernel
theorem dX4_fits_132 : decode cX4_fits 132 = .ok (.iload_n 1, 1) := by decide +kernel
theorem dX4_fits_133 : decode cX4_fits 133 = .ok (.bipush 100, 2) := by decide +kernel
theorem dX4_fits_135 : decode cX4_fits 135 = .ok (.isub, 1) := by decide +kernel
theorem dX4_fits_136 : decode cX4_fits 136 = .ok (.bipush 16, 2) := by decide +kernel
theorem dX4_fits_138 : decode cX4_fits 138 = .ok (.imul, 1) := by decide +kernel
theorem dX4_fits_139 : decode cX4_fits 139 = .ok (.iload_n 2, 1) := by decide +kernel
theorem dX4_fits_140 : decode cX4_fits 140 = .ok (.iadd, 1) := by decide +kernel
theorem dX4_fits_141 : decode cX4_fits 141 = .ok (.bipush 100, 2) := by decide +kernel
theorem dX4_fits_143 : decode cX4_fits 143 = .ok (.isub, 1) := by decide +kernel
theorem dX4_fits_144 : decode cX4_fits 144 = .ok (.baload, 1) := by decide +kernel
theorem dX4_fits_145 : decode cX4_fits 145 = .ok (.ifCond .eq 7, 3) := by decide +kernel
theorem dX4_fits_148 : decode cX4_fits 148 = .ok (.iconst 1, 1) := by decide +kernel
theorem dX4_fits_149 : decode cX4_fits 149 = .ok (.goto 4, 3) := by decide +kernel
theorem dX4_fits_152 : decode cX4_fits 152 = .ok (.iconst 0, 1) := by decide +kernel
theorem dX4_fits_153 : decode cX4_fits 153 = .ok (.ireturn, 1) := by decide +kernel
theorem dX4_oneFits_0 : decode cX4_oneFits 0 = .ok (.aload_n 0, 1) := by decide +kernel
theorem dX4_oneFits_1 : decode cX4_oneFits 1 = .ok (.iload_n 1, 1) := by decide +kernel
theorem dX4_oneFits_2 : decode cX4_oneFits 2 = .ok (.iload_n 2, 1) := by decide +kernel
theorem dX4_oneFits_3 : decode cX4_oneFits 3 = .ok (.invokevirtual 35, 3) := by decide +kernel
theorem dX4_oneFits_6 : decode cX4_oneFits 6 = .ok (.ifCond .ne 12, 3) := by decide +kernel
theorem dX4_oneFits_9 : decode cX4_oneFits 9 = .ok (.aload_n 0, 1) := by decide +kernel
theorem dX4_oneFits_10 : decode cX4_oneFits 10 = .ok (.iload_n 2, 1) := by decide +kernel
theorem dX4_oneFits_11 : decode cX4_oneFits 11 = .ok (.iload_n 1, 1) := by decide +kernel
theorem dX4_oneFits_12 : decode cX4_oneFits 12 = .ok (.invokevirtual 35, 3) := by decide +kernel
theorem dX4_oneFits_15 : decode cX4_oneFits 15 = .ok (.ifCond .eq 7, 3) := by decide +kernel
theorem dX4_oneFits_18 : decode cX4_oneFits 18 = .ok (.iconst 1, 1) := by decide +kernel
theorem dX4_oneFits_19 : decode cX4_oneFits 19 = .ok (.goto 4, 3) := by decide +kernel
theorem dX4_oneFits_22 : decode cX4_oneFits 22 = .ok (.iconst 0, 1) := by decide +kernel
theorem dX4_oneFits_23 : decode cX4_oneFits 23 = .ok (.ireturn, 1) := by decide +kernel
theorem dX9_level_0 : decode cX9_level 0 = .ok (.iload_n 0, 1) := by decide +kernel
theorem dX9_level_1 : decode cX9_level 1 = .ok (.tableswitch 248 19 70 #[236, 248, 248, 248, 248, 248, 248, 248, 248, 248, 248, 248, 248, 248, 248, 248, 248, 248, 248, 248, 248, 248, 248, 248, 248, 248, 248, 248, 248, 248, 248, 248, 248, 233, 233, 236, 236, 236, 236, 239, 239, 239, 242, 242, 245, 245, 245, 231, 225, 227, 223, 229], 223) := by decide +kernel
theorem dX9_level_224 : decode cX9_level 224 = .ok (.iconst 1, 1) := by decide +kernel
theorem dX9_level_225 : decode cX9_level 225 = .ok (.ireturn, 1) := by decide +kernel
theorem dX9_level_226 : decode cX9_level 226 = .ok (.iconst 2, 1) := by decide +kernel
theorem dX9_level_227 : decode cX9_level 227 = .ok (.ireturn, 1) := by decide +kernel
theorem dX9_level_228 : decode cX9_level 228 = .ok (.iconst 3, 1) := by decide +kernel
theorem dX9_level_229 : decode cX9_level 229 = .ok (.ireturn, 1) := by decide +kernel
theorem dX9_level_230 : decode cX9_level 230 = .ok (.iconst 4, 1) := by decide +kernel
theorem dX9_level_231 : decode cX9_level 231 = .ok (.ireturn, 1) := by decide +kernel
theorem dX9_level_232 : decode cX9_level 232 = .ok (.iconst 5, 1) := by decide +kernel
theorem dX9_level_233 : decode cX9_level 233 = .ok (.ireturn, 1) := by decide +kernel
theorem dX9_level_234 : decode cX9_level 234 = .ok (.bipush 6, 2) := by decide +kernel
theorem dX9_level_236 : decode cX9_level 236 = .ok (.ireturn, 1) := by decide +kernel
theorem dX9_level_237 : decode cX9_level 237 = .ok (.bipush 7, 2) := by decide +kernel
theorem dX9_level_239 : decode cX9_level 239 = .ok (.ireturn, 1) := by decide +kernel
theorem dX9_level_240 : decode cX9_level 240 = .ok (.bipush 8, 2) := by decide +kernel
theorem dX9_level_242 : decode cX9_level 242 = .ok (.ireturn, 1) := by decide +kernel
theorem dX9_level_243 : decode cX9_level 243 = .ok (.bipush 9, 2) := by decide +kernel
theorem dX9_level_245 : decode cX9_level 245 = .ok (.ireturn, 1) := by decide +kernel
theorem dX9_level_246 : decode cX9_level 246 = .ok (.bipush 10, 2) := by decide +kernel
theorem dX9_level_248 : decode cX9_level 248 = .ok (.ireturn, 1) := by decide +kernel
theorem dX9_level_249 : decode cX9_level 249 = .ok (.iconst 0, 1) := by decide +kernel
theorem dX9_level_250 : decode cX9_level 250 = .ok (.ireturn, 1) := by decide +kernel
theorem dX9_kind_0 : decode cX9_kind 0 = .ok (.aload_n 0, 1) := by decide +kernel
theorem dX9_kind_1 : decode cX9_kind 1 = .ok (.getfield 80, 3) := by decide +kernel
theorem dX9_kind_4 : decode cX9_kind 4 = .ok (.ifCond .ne 33, 3) := by decide +kernel
theorem dX9_kind_7 : decode cX9_kind 7 = .ok (.aload_n 0, 1) := by decide +kernel
theorem dX9_kind_8 : decode cX9_kind 8 = .ok (.getfield 86, 3) := by decide +kernel
theorem dX9_kind_11 : decode cX9_kind 11 = .ok (.ifCond .lt 26, 3) := by decide +kernel
theorem dX9_kind_14 : decode cX9_kind 14 = .ok (.aload_n 0, 1) := by decide +kernel
theorem dX9_kind_15 : decode cX9_kind 15 = .ok (.getfield 86, 3) := by decide +kernel
theorem dX9_kind_18 : decode cX9_kind 18 = .ok (.aload_n 0, 1) := by decide +kernel
theorem dX9_kind_19 : decode cX9_kind 19 = .ok (.getfield 83, 3) := by decide +kernel
theorem dX9_kind_22 : decode cX9_kind 22 = .ok (.if_icmp .ge 15, 3) := by decide +kernel
theorem dX9_kind_25 : decode cX9_kind 25 = .ok (.aload_n 0, 1) := by decide +kernel
theorem dX9_kind_26 : decode cX9_kind 26 = .ok (.getfield 15, 3) := by decide +kernel
theorem dX9_kind_29 : decode cX9_kind 29 = .ok (.aload_n 0, 1) := by decide +kernel
theorem dX9_kind_30 : decode cX9_kind 30 = .ok (.getfield 86, 3) := by decide +kernel
theorem dX9_kind_33 : decode cX9_kind 33 = .ok (.iaload, 1) := by decide +kernel
theorem dX9_kind_34 : decode cX9_kind 34 = .ok (.goto 4, 3) := by decide +kernel
theorem dX9_kind_37 : decode cX9_kind 37 = .ok (.iconst 0, 1) := by decide +kernel
theorem dX9_kind_38 : decode cX9_kind 38 = .ok (.ireturn, 1) := by decide +kernel
theorem dX9_kindAt_0 : decode cX9_kindAt 0 = .ok (.iload_n 1, 1) := by decide +kernel
theorem dX9_kindAt_1 : decode cX9_kindAt 1 = .ok (.ifCond .lt 20, 3) := by decide +kernel
theorem dX9_kindAt_4 : decode cX9_kindAt 4 = .ok (.iload_n 1, 1) := by decide +kernel
theorem dX9_kindAt_5 : decode cX9_kindAt 5 = .ok (.aload_n 0, 1) := by decide +kernel
theorem dX9_kindAt_6 : decode cX9_kindAt 6 = .ok (.getfield 83, 3) := by decide +kernel
theorem dX9_kindAt_9 : decode cX9_kindAt 9 = .ok (.if_icmp .ge 12, 3) := by decide +kernel
theorem dX9_kindAt_12 : decode cX9_kindAt 12 = .ok (.aload_n 0, 1) := by decide +kernel
theorem dX9_kindAt_13 : decode cX9_kindAt 13 = .ok (.getfield 15, 3) := by decide +kernel
theorem dX9_kindAt_16 : decode cX9_kindAt 16 = .ok (.iload_n 1, 1) := by decide +kernel
theorem dX9_kindAt_17 : decode cX9_kindAt 17 = .ok (.iaload, 1) := by decide +kernel
theorem dX9_kindAt_18 : decode cX9_kindAt 18 = .ok (.goto 4, 3) := by decide +kernel
theorem dX9_kindAt_21 : decode cX9_kindAt 21 = .ok (.iconst 0, 1) := by decide +kernel
theorem dX9_kindAt_22 : decode cX9_kindAt 22 = .ok (.ireturn, 1) := by decide +kernel
theorem dX4_isArray_0 : decode cX4_isArray 0 = .ok (.iload_n 0, 1) := by decide +kernel
theorem dX4_isArray_1 : decode cX4_isArray 1 = .ok (.bipush 100, 2) := by decide +kernel
theorem dX4_isArray_3 : decode cX4_isArray 3 = .ok (.if_icmp .lt 14, 3) := by decide +kernel
theorem dX4_isArray_6 : decode cX4_isArray 6 = .ok (.iload_n 0, 1) := by decide +kernel
theorem dX4_isArray_7 : decode cX4_isArray 7 = .ok (.sipush 200, 3) := by decide +kernel
theorem dX4_isArray_10 : decode cX4_isArray 10 = .ok (.if_icmp .gt 7, 3) := by decide +kernel
theorem dX4_isArray_13 : decode cX4_isArray 13 = .ok (.iconst 1, 1) := by decide +kernel
theorem dX4_isArray_14 : decode cX4_isArray 14 = .ok (.goto 4, 3) := by decide +kernel
theorem dX4_isArray_17 : decode cX4_isArray 17 = .ok (.iconst 0, 1) := by decide +kernel
theorem dX4_isArray_18 : decode cX4_isArray 18 = .ok (.ireturn, 1) := by decide +kernel
theorem dX4_elementOf_0 : decode cX4_elementOf 0 = .ok (.iload_n 0, 1) := by decide +kernel
theorem dX4_elementOf_1 : decode cX4_elementOf 1 = .ok (.sipush 200, 3) := by decide +kernel
theorem dX4_elementOf_4 : decode cX4_elementOf 4 = .ok (.if_icmp .ne 7, 3) := by decide +kernel
theorem dX4_elementOf_7 : decode cX4_elementOf 7 = .ok (.sipush 301, 3) := by decide +kernel
theorem dX4_elementOf_10 : decode cX4_elementOf 10 = .ok (.ireturn, 1) := by decide +kernel
theorem dX4_elementOf_11 : decode cX4_elementOf 11 = .ok (.iload_n 0, 1) := by decide +kernel
theorem dX4_elementOf_12 : decode cX4_elementOf 12 = .ok (.bipush 100, 2) := by decide +kernel
theorem dX4_elementOf_14 : decode cX4_elementOf 14 = .ok (.if_icmp .lt 17, 3) := by decide +kernel
theorem dX4_elementOf_17 : decode cX4_elementOf 17 = .ok (.iload_n 0, 1) := by decide +kernel
theorem dX4_elementOf_18 : decode cX4_elementOf 18 = .ok (.sipush 200, 3) := by decide +kernel
theorem dX4_elementOf_21 : decode cX4_elementOf 21 = .ok (.if_icmp .ge 10, 3) := by decide +kernel
theorem dX4_elementOf_24 : decode cX4_elementOf 24 = .ok (.iload_n 0, 1) := by decide +kernel
theorem dX4_elementOf_25 : decode cX4_elementOf 25 = .ok (.bipush 100, 2) := by decide +kernel
theorem dX4_elementOf_27 : decode cX4_elementOf 27 = .ok (.isub, 1) := by decide +kernel
theorem dX4_elementOf_28 : decode cX4_elementOf 28 = .ok (.goto 6, 3) := by decide +kernel
theorem dX4_elementOf_31 : decode cX4_elementOf 31 = .ok (.sipush 305, 3) := by decide +kernel
theorem dX4_elementOf_34 : decode cX4_elementOf 34 = .ok (.ireturn, 1) := by decide +kernel
theorem dX9_beginsCast_0 : decode cX9_beginsCast 0 = .ok (.aload_n 0, 1) := by decide +kernel
theorem dX9_beginsCast_1 : decode cX9_beginsCast 1 = .ok (.invokevirtual 150, 3) := by decide +kernel
theorem dX9_beginsCast_4 : decode cX9_beginsCast 4 = .ok (.bipush 40, 2) := by decide +kernel
theorem dX9_beginsCast_6 : decode cX9_beginsCast 6 = .ok (.if_icmp .ne 32, 3) := by decide +kernel
theorem dX9_beginsCast_9 : decode cX9_beginsCast 9 = .ok (.aload_n 0, 1) := by decide +kernel
theorem dX9_beginsCast_10 : decode cX9_beginsCast 10 = .ok (.aload_n 0, 1) := by decide +kernel
theorem dX9_beginsCast_11 : decode cX9_beginsCast 11 = .ok (.getfield 86, 3) := by decide +kernel
theorem dX9_beginsCast_14 : decode cX9_beginsCast 14 = .ok (.iconst 1, 1) := by decide +kernel
theorem dX9_beginsCast_15 : decode cX9_beginsCast 15 = .ok (.iadd, 1) := by decide +kernel
theorem dX9_beginsCast_16 : decode cX9_beginsCast 16 = .ok (.invokevirtual 153, 3) := by decide +kernel
theorem dX9_beginsCast_19 : decode cX9_beginsCast 19 = .ok (.iconst 2, 1) := by decide +kernel
theorem dX9_beginsCast_20 : decode cX9_beginsCast 20 = .ok (.if_icmp .ne 18, 3) := by decide +kernel
theorem dX9_beginsCast_23 : decode cX9_beginsCast 23 = .ok (.aload_n 0, 1) := by decide +kernel
theorem dX9_beginsCast_24 : decode cX9_beginsCast 24 = .ok (.aload_n 0, 1) := by decide +kernel
theorem dX9_beginsCast_25 : decode cX9_beginsCast 25 = .ok (.getfield 86, 3) := by decide +kernel
theorem dX9_beginsCast_28 : decode cX9_beginsCast 28 = .ok (.iconst 2, 1) := by decide +kernel
theorem dX9_beginsCast_29 : decode cX9_beginsCast 29 = .ok (.iadd, 1) := by decide +kernel
theorem dX9_beginsCast_30 : decode cX9_beginsCast 30 = .ok (.invokevirtual 153, 3) := by decide +kernel
theorem dX9_beginsCast_33 : decode cX9_beginsCast 33 = .ok (.bipush 41, 2) := by decide +kernel
theorem dX9_beginsCast_35 : decode cX9_beginsCast 35 = .ok (.if_icmp .eq 5, 3) := by decide +kernel
theorem dX9_beginsCast_38 : decode cX9_beginsCast 38 = .ok (.iconst 0, 1) := by decide +kernel
theorem dX9_beginsCast_39 : decode cX9_beginsCast 39 = .ok (.ireturn, 1) := by decide +kernel
theorem dX9_beginsCast_40 : decode cX9_beginsCast 40 = .ok (.aload_n 0, 1) := by decide +kernel
theorem dX9_beginsCast_41 : decode cX9_beginsCast 41 = .ok (.aload_n 0, 1) := by decide +kernel
theorem dX9_beginsCast_42 : decode cX9_beginsCast 42 = .ok (.getfield 86, 3) := by decide +kernel
theorem dX9_beginsCast_45 : decode cX9_beginsCast 45 = .ok (.iconst 3, 1) := by decide +kernel
theorem dX9_beginsCast_46 : decode cX9_beginsCast 46 = .ok (.iadd, 1) := by decide +kernel
theorem dX9_beginsCast_47 : decode cX9_beginsCast 47 = .ok (.invokevirtual 153, 3) := by decide +kernel
theorem dX9_beginsCast_50 : decode cX9_beginsCast 50 = .ok (.lookupswitch 92 #[(2, 90), (3, 90), (17, 90), (21, 90), (22, 90), (26, 90), (28, 90), (40, 90), (71, 90), (72, 90)], 90) := by decide +kernel
theorem dX9_beginsCast_140 : decode cX9_beginsCast 140 = .ok (.iconst 1, 1) := by decide +kernel
theorem dX9_beginsCast_141 : decode cX9_beginsCast 141 = .ok (.ireturn, 1) := by decide +kernel
theorem dX9_beginsCast_142 : decode cX9_beginsCast 142 = .ok (.iconst 0, 1) := by decide +kernel
theorem dX9_beginsCast_143 : decode cX9_beginsCast 143 = .ok (.ireturn, 1) := by decide +kernel
theorem dX9_beginsVariable_0 : decode cX9_beginsVariable 0 = .ok (.aload_n 0, 1) := by decide +kernel
theorem dX9_beginsVariable_1 : decode cX9_beginsVariable 1 = .ok (.invokevirtual 150, 3) := by decide +kernel
theorem dX9_beginsVariable_4 : decode cX9_beginsVariable 4 = .ok (.istore_n 1, 1) := by decide +kernel
theorem dX9_beginsVariable_5 : decode cX9_beginsVariable 5 = .ok (.iload_n 1, 1) := by decide +kernel
theorem dX9_beginsVariable_6 : decode cX9_beginsVariable 6 = .ok (.iconst 2, 1) := by decide +kernel
theorem dX9_beginsVariable_7 : decode cX9_beginsVariable 7 = .ok (.if_icmp .eq 21, 3) := by decide +kernel
theorem dX9_beginsVariable_10 : decode cX9_beginsVariable 10 = .ok (.iload_n 1, 1) := by decide +kernel
theorem dX9_beginsVariable_11 : decode cX9_beginsVariable 11 = .ok (.bipush 20, 2) := by decide +kernel
theorem dX9_beginsVariable_13 : decode cX9_beginsVariable 13 = .ok (.if_icmp .eq 9, 3) := by decide +kernel
theorem dX9_beginsVariable_16 : decode cX9_beginsVariable 16 = .ok (.iload_n 1, 1) := by decide +kernel
theorem dX9_beginsVariable_17 : decode cX9_beginsVariable 17 = .ok (.bipush 10, 2) := by decide +kernel
theorem dX9_beginsVariable_19 : decode cX9_beginsVariable 19 = .ok (.if_icmp .ne 7, 3) := by decide +kernel
theorem dX9_beginsVariable_22 : decode cX9_beginsVariable 22 = .ok (.iconst 1, 1) := by decide +kernel
theorem dX9_beginsVariable_23 : decode cX9_beginsVariable 23 = .ok (.goto 4, 3) := by decide +kernel
theorem dX9_beginsVariable_26 : decode cX9_beginsVariable 26 = .ok (.iconst 0, 1) := by decide +kernel
theorem dX9_beginsVariable_27 : decode cX9_beginsVariable 27 = .ok (.ireturn, 1) := by decide +kernel
theorem dX9_beginsVariable_28 : decode cX9_beginsVariable 28 = .ok (.aload_n 0, 1) := by decide +kernel
theorem dX9_beginsVariable_29 : decode cX9_beginsVariable 29 = .ok (.aload_n 0, 1) := by decide +kernel
theorem dX9_beginsVariable_30 : decode cX9_beginsVariable 30 = .ok (.getfield 86, 3) := by decide +kernel
theorem dX9_beginsVariable_33 : decode cX9_beginsVariable 33 = .ok (.iconst 1, 1) := by decide +kernel
theorem dX9_beginsVariable_34 : decode cX9_beginsVariable 34 = .ok (.iadd, 1) := by decide +kernel
theorem dX9_beginsVariable_35 : decode cX9_beginsVariable 35 = .ok (.invokevirtual 153, 3) := by decide +kernel
theorem dX9_beginsVariable_38 : decode cX9_beginsVariable 38 = .ok (.istore_n 2, 1) := by decide +kernel
theorem dX9_beginsVariable_39 : decode cX9_beginsVariable 39 = .ok (.iload_n 2, 1) := by decide +kernel
theorem dX9_beginsVariable_40 : decode cX9_beginsVariable 40 = .ok (.iconst 2, 1) := by decide +kernel
theorem dX9_beginsVariable_41 : decode cX9_beginsVariable 41 = .ok (.if_icmp .eq 24, 3) := by decide +kernel
theorem dX9_beginsVariable_44 : decode cX9_beginsVariable 44 = .ok (.iload_n 2, 1) := by decide +kernel
theorem dX9_beginsVariable_45 : decode cX9_beginsVariable 45 = .ok (.bipush 44, 2) := by decide +kernel
theorem dX9_beginsVariable_47 : decode cX9_beginsVariable 47 = .ok (.if_icmp .ne 22, 3) := by decide +kernel
theorem dX9_beginsVariable_50 : decode cX9_beginsVariable 50 = .ok (.aload_n 0, 1) := by decide +kernel
theorem dX9_beginsVariable_51 : decode cX9_beginsVariable 51 = .ok (.aload_n 0, 1) := by decide +kernel
theorem dX9_beginsVariable_52 : decode cX9_beginsVariable 52 = .ok (.getfield 86, 3) := by decide +kernel
theorem dX9_beginsVariable_55 : decode cX9_beginsVariable 55 = .ok (.iconst 2, 1) := by decide +kernel
theorem dX9_beginsVariable_56 : decode cX9_beginsVariable 56 = .ok (.iadd, 1) := by decide +kernel
theorem dX9_beginsVariable_57 : decode cX9_beginsVariable 57 = .ok (.invokevirtual 153, 3) := by decide +kernel
theorem dX9_beginsVariable_60 : decode cX9_beginsVariable 60 = .ok (.bipush 45, 2) := by decide +kernel
theorem dX9_beginsVariable_62 : decode cX9_beginsVariable 62 = .ok (.if_icmp .ne 7, 3) := by decide +kernel
theorem dX9_beginsVariable_65 : decode cX9_beginsVariable 65 = .ok (.iconst 1, 1) := by decide +kernel
theorem dX9_beginsVariable_66 : decode cX9_beginsVariable 66 = .ok (.goto 4, 3) := by decide +kernel
theorem dX9_beginsVariable_69 : decode cX9_beginsVariable 69 = .ok (.iconst 0, 1) := by decide +kernel
theorem dX9_beginsVariable_70 : decode cX9_beginsVariable 70 = .ok (.ireturn, 1) := by decide +kernel
theorem dX4_setAbove_0 : decode cX4_setAbove 0 = .ok (.iload_n 1, 1) := by decide +kernel
theorem dX4_setAbove_1 : decode cX4_setAbove 1 = .ok (.invokestatic 31, 3) := by decide +kernel
theorem dX4_setAbove_4 : decode cX4_setAbove 4 = .ok (.ifCond .eq 10, 3) := by decide +kernel
theorem dX4_setAbove_7 : decode cX4_setAbove 7 = .ok (.aload_n 0, 1) := by decide +kernel
theorem dX4_setAbove_8 : decode cX4_setAbove 8 = .ok (.getfield 11, 3) := by decide +kernel
theorem dX4_setAbove_11 : decode cX4_setAbove 11 = .ok (.iload_n 1, 1) := by decide +kernel
theorem dX4_setAbove_12 : decode cX4_setAbove 12 = .ok (.iload_n 2, 1) := by decide +kernel
theorem dX4_setAbove_13 : decode cX4_setAbove 13 = .ok (.iastore, 1) := by decide +kernel
theorem dX4_setAbove_14 : decode cX4_setAbove 14 = .ok (.return_, 1) := by decide +kernel
theorem dX2_addClass_0 : decode cX2_addClass 0 = .ok (.aload_n 0, 1) := by decide +kernel
theorem dX2_addClass_1 : decode cX2_addClass 1 = .ok (.getfield 78, 3) := by decide +kernel
theorem dX2_addClass_4 : decode cX2_addClass 4 = .ok (.aload_n 0, 1) := by decide +kernel
theorem dX2_addClass_5 : decode cX2_addClass 5 = .ok (.getfield 20, 3) := by decide +kernel
theorem dX2_addClass_8 : decode cX2_addClass 8 = .ok (.arraylength, 1) := by decide +kernel
theorem dX2_addClass_9 : decode cX2_addClass 9 = .ok (.if_icmp .ge 23, 3) := by decide +kernel
theorem dX2_addClass_12 : decode cX2_addClass 12 = .ok (.aload_n 0, 1) := by decide +kernel
theorem dX2_addClass_13 : decode cX2_addClass 13 = .ok (.getfield 20, 3) := by decide +kernel
theorem dX2_addClass_16 : decode cX2_addClass 16 = .ok (.aload_n 0, 1) := by decide +kernel
theorem dX2_addClass_17 : decode cX2_addClass 17 = .ok (.getfield 78, 3) := by decide +kernel
theorem dX2_addClass_20 : decode cX2_addClass 20 = .ok (.iload_n 1, 1) := by decide +kernel
theorem dX2_addClass_21 : decode cX2_addClass 21 = .ok (.iastore, 1) := by decide +kernel
theorem dX2_addClass_22 : decode cX2_addClass 22 = .ok (.aload_n 0, 1) := by decide +kernel
theorem dX2_addClass_23 : decode cX2_addClass 23 = .ok (.dup, 1) := by decide +kernel
theorem dX2_addClass_24 : decode cX2_addClass 24 = .ok (.getfield 78, 3) := by decide +kernel
theorem dX2_addClass_27 : decode cX2_addClass 27 = .ok (.iconst 1, 1) := by decide +kernel
theorem dX2_addClass_28 : decode cX2_addClass 28 = .ok (.iadd, 1) := by decide +kernel
theorem dX2_addClass_29 : decode cX2_addClass 29 = .ok (.putfield 78, 3) := by decide +kernel
theorem dX2_addClass_32 : decode cX2_addClass 32 = .ok (.return_, 1) := by decide +kernel
theorem dX8_accept_0 : decode cX8_accept 0 = .ok (.aload_n 0, 1) := by decide +kernel
theorem dX8_accept_1 : decode cX8_accept 1 = .ok (.getfield 7, 3) := by decide +kernel
theorem dX8_accept_4 : decode cX8_accept 4 = .ok (.invokevirtual 23, 3) := by decide +kernel
theorem dX8_accept_7 : decode cX8_accept 7 = .ok (.iload_n 1, 1) := by decide +kernel
theorem dX8_accept_8 : decode cX8_accept 8 = .ok (.if_icmp .eq 5, 3) := by decide +kernel
theorem dX8_accept_11 : decode cX8_accept 11 = .ok (.iconst 0, 1) := by decide +kernel
theorem dX8_accept_12 : decode cX8_accept 12 = .ok (.ireturn, 1) := by decide +kernel
theorem dX8_accept_13 : decode cX8_accept 13 = .ok (.aload_n 0, 1) := by decide +kernel
theorem dX8_accept_14 : decode cX8_accept 14 = .ok (.getfield 7, 3) := by decide +kernel
theorem dX8_accept_17 : decode cX8_accept 17 = .ok (.dup, 1) := by decide +kernel
theorem dX8_accept_18 : decode cX8_accept 18 = .ok (.getfield 30, 3) := by decide +kernel
theorem dX8_accept_21 : decode cX8_accept 21 = .ok (.iconst 1, 1) := by decide +kernel
theorem dX8_accept_22 : decode cX8_accept 22 = .ok (.iadd, 1) := by decide +kernel
theorem dX8_accept_23 : decode cX8_accept 23 = .ok (.putfield 30, 3) := by decide +kernel
theorem dX8_accept_26 : decode cX8_accept 26 = .ok (.iconst 1, 1) := by decide +kernel
theorem dX8_accept_27 : decode cX8_accept 27 = .ok (.ireturn, 1) := by decide +kernel
theorem dX9_tellHere_0 : decode cX9_tellHere 0 = .ok (.aload_n 0, 1) := by decide +kernel
theorem dX9_tellHere_1 : decode cX9_tellHere 1 = .ok (.getfield 80, 3) := by decide +kernel
theorem dX9_tellHere_4 : decode cX9_tellHere 4 = .ok (.ifCond .ne 56, 3) := by decide +kernel
theorem dX9_tellHere_7 : decode cX9_tellHere 7 = .ok (.aload_n 0, 1) := by decide +kernel
theorem dX9_tellHere_8 : decode cX9_tellHere 8 = .ok (.getfield 86, 3) := by decide +kernel
theorem dX9_tellHere_11 : decode cX9_tellHere 11 = .ok (.ifCond .lt 49, 3) := by decide +kernel
theorem dX9_tellHere_14 : decode cX9_tellHere 14 = .ok (.aload_n 0, 1) := by decide +kernel
theorem dX9_tellHere_15 : decode cX9_tellHere 15 = .ok (.getfield 86, 3) := by decide +kernel
theorem dX9_tellHere_18 : decode cX9_tellHere 18 = .ok (.aload_n 0, 1) := by decide +kernel
theorem dX9_tellHere_19 : decode cX9_tellHere 19 = .ok (.getfield 83, 3) := by decide +kernel
theorem dX9_tellHere_22 : decode cX9_tellHere 22 = .ok (.if_icmp .ge 38, 3) := by decide +kernel
theorem dX9_tellHere_25 : decode cX9_tellHere 25 = .ok (.aload_n 0, 1) := by decide +kernel
theorem dX9_tellHere_26 : decode cX9_tellHere 26 = .ok (.aload_n 0, 1) := by decide +kernel
theorem dX9_tellHere_27 : decode cX9_tellHere 27 = .ok (.getfield 15, 3) := by decide +kernel
theorem dX9_tellHere_30 : decode cX9_tellHere 30 = .ok (.aload_n 0, 1) := by decide +kernel
theorem dX9_tellHere_31 : decode cX9_tellHere 31 = .ok (.getfield 86, 3) := by decide +kernel
theorem dX9_tellHere_34 : decode cX9_tellHere 34 = .ok (.iaload, 1) := by decide +kernel
theorem dX9_tellHere_35 : decode cX9_tellHere 35 = .ok (.iconst 1, 1) := by decide +kernel
theorem dX9_tellHere_36 : decode cX9_tellHere 36 = .ok (.if_icmp .ne 7, 3) := by decide +kernel
theorem dX9_tellHere_39 : decode cX9_tellHere 39 = .ok (.iconst 1, 1) := by decide +kernel
theorem dX9_tellHere_40 : decode cX9_tellHere 40 = .ok (.goto 4, 3) := by decide +kernel
theorem dX9_tellHere_43 : decode cX9_tellHere 43 = .ok (.iload_n 1, 1) := by decide +kernel
theorem dX9_tellHere_44 : decode cX9_tellHere 44 = .ok (.putfield 80, 3) := by decide +kernel
theorem dX9_tellHere_47 : decode cX9_tellHere 47 = .ok (.aload_n 0, 1) := by decide +kernel
theorem dX9_tellHere_48 : decode cX9_tellHere 48 = .ok (.aload_n 0, 1) := by decide +kernel
theorem dX9_tellHere_49 : decode cX9_tellHere 49 = .ok (.getfield 19, 3) := by decide +kernel
theorem dX9_tellHere_52 : decode cX9_tellHere 52 = .ok (.aload_n 0, 1) := by decide +kernel
theorem dX9_tellHere_53 : decode cX9_tellHere 53 = .ok (.getfield 86, 3) := by decide +kernel
theorem dX9_tellHere_56 : decode cX9_tellHere 56 = .ok (.iaload, 1) := by decide +kernel
theorem dX9_tellHere_57 : decode cX9_tellHere 57 = .ok (.putfield 41, 3) := by decide +kernel
theorem dX9_tellHere_60 : decode cX9_tellHere 60 = .ok (.return_, 1) := by decide +kernel
theorem dX8_need_0 : decode cX8_need 0 = .ok (.aload_n 0, 1) := by decide +kernel
theorem dX8_need_1 : decode cX8_need 1 = .ok (.getfield 7, 3) := by decide +kernel
theorem dX8_need_4 : decode cX8_need 4 = .ok (.invokevirtual 23, 3) := by decide +kernel
theorem dX8_need_7 : decode cX8_need 7 = .ok (.iload_n 1, 1) := by decide +kernel
theorem dX8_need_8 : decode cX8_need 8 = .ok (.if_icmp .ne 19, 3) := by decide +kernel
theorem dX8_need_11 : decode cX8_need 11 = .ok (.aload_n 0, 1) := by decide +kernel
theorem dX8_need_12 : decode cX8_need 12 = .ok (.getfield 7, 3) := by decide +kernel
theorem dX8_need_15 : decode cX8_need 15 = .ok (.dup, 1) := by decide +kernel
theorem dX8_need_16 : decode cX8_need 16 = .ok (.getfield 30, 3) := by decide +kernel
theorem dX8_need_19 : decode cX8_need 19 = .ok (.iconst 1, 1) := by decide +kernel
theorem dX8_need_20 : decode cX8_need 20 = .ok (.iadd, 1) := by decide +kernel
theorem dX8_need_21 : decode cX8_need 21 = .ok (.putfield 30, 3) := by decide +kernel
theorem dX8_need_24 : decode cX8_need 24 = .ok (.goto 11, 3) := by decide +kernel
theorem dX8_need_27 : decode cX8_need 27 = .ok (.aload_n 0, 1) := by decide +kernel
theorem dX8_need_28 : decode cX8_need 28 = .ok (.getfield 7, 3) := by decide +kernel
theorem dX8_need_31 : decode cX8_need 31 = .ok (.iconst 2, 1) := by decide +kernel
theorem dX8_need_32 : decode cX8_need 32 = .ok (.invokevirtual 33, 3) := by decide +kernel
theorem dX8_need_35 : decode cX8_need 35 = .ok (.return_, 1) := by decide +kernel
theorem dX8_binaryAhead_0 : decode cX8_binaryAhead 0 = .ok (.aload_n 0, 1) := by decide +kernel
theorem dX8_binaryAhead_1 : decode cX8_binaryAhead 1 = .ok (.getfield 7, 3) := by decide +kernel
theorem dX8_binaryAhead_4 : decode cX8_binaryAhead 4 = .ok (.invokevirtual 23, 3) := by decide +kernel
theorem dX8_binaryAhead_7 : decode cX8_binaryAhead 7 = .ok (.invokestatic 93, 3) := by decide +kernel
theorem dX8_binaryAhead_10 : decode cX8_binaryAhead 10 = .ok (.istore_n 2, 1) := by decide +kernel
theorem dX8_binaryAhead_11 : decode cX8_binaryAhead 11 = .ok (.iload_n 2, 1) := by decide +kernel
theorem dX8_binaryAhead_12 : decode cX8_binaryAhead 12 = .ok (.ifCond .le 17, 3) := by decide +kernel
theorem dX8_binaryAhead_15 : decode cX8_binaryAhead 15 = .ok (.iload_n 1, 1) := by decide +kernel
theorem dX8_binaryAhead_16 : decode cX8_binaryAhead 16 = .ok (.ifCond .ne 9, 3) := by decide +kernel
theorem dX8_binaryAhead_19 : decode cX8_binaryAhead 19 = .ok (.iload_n 2, 1) := by decide +kernel
theorem dX8_binaryAhead_20 : decode cX8_binaryAhead 20 = .ok (.bipush 7, 2) := by decide +kernel
theorem dX8_binaryAhead_22 : decode cX8_binaryAhead 22 = .ok (.if_icmp .gt 7, 3) := by decide +kernel
theorem dX8_binaryAhead_25 : decode cX8_binaryAhead 25 = .ok (.iconst 1, 1) := by decide +kernel
theorem dX8_binaryAhead_26 : decode cX8_binaryAhead 26 = .ok (.goto 4, 3) := by decide +kernel
theorem dX8_binaryAhead_29 : decode cX8_binaryAhead 29 = .ok (.iconst 0, 1) := by decide +kernel
theorem dX8_binaryAhead_30 : decode cX8_binaryAhead 30 = .ok (.ireturn, 1) := by decide +kernel
theorem dX8_tooDeep_0 : decode cX8_tooDeep 0 = .ok (.iload_n 1, 1) := by decide +kernel
theorem dX8_tooDeep_1 : decode cX8_tooDeep 1 = .ok (.bipush 40, 2) := by decide +kernel
theorem dX8_tooDeep_3 : decode cX8_tooDeep 3 = .ok (.if_icmp .lt 11, 3) := by decide +kernel
theorem dX8_tooDeep_6 : decode cX8_tooDeep 6 = .ok (.aload_n 0, 1) := by decide +kernel
theorem dX8_tooDeep_7 : decode cX8_tooDeep 7 = .ok (.getfield 7, 3) := by decide +kernel
theorem dX8_tooDeep_10 : decode cX8_tooDeep 10 = .ok (.iconst 3, 1) := by decide +kernel
theorem dX8_tooDeep_11 : decode cX8_tooDeep 11 = .ok (.invokevirtual 33, 3) := by decide +kernel
theorem dX8_tooDeep_14 : decode cX8_tooDeep 14 = .ok (.aload_n 0, 1) := by decide +kernel
theorem dX8_tooDeep_15 : decode cX8_tooDeep 15 = .ok (.getfield 7, 3) := by decide +kernel
theorem dX8_tooDeep_18 : decode cX8_tooDeep 18 = .ok (.getfield 19, 3) := by decide +kernel
theorem dX8_tooDeep_21 : decode cX8_tooDeep 21 = .ok (.ifCond .eq 7, 3) := by decide +kernel
theorem dX8_tooDeep_24 : decode cX8_tooDeep 24 = .ok (.iconst 1, 1) := by decide +kernel
theorem dX8_tooDeep_25 : decode cX8_tooDeep 25 = .ok (.goto 4, 3) := by decide +kernel
theorem dX8_tooDeep_28 : decode cX8_tooDeep 28 = .ok (.iconst 0, 1) := by decide +kernel
theorem dX8_tooDeep_29 : decode cX8_tooDeep 29 = .ok (.ireturn, 1) := by decide +kernel
theorem dX8_readArguments_0 : decode cX8_readArguments 0 = .ok (.aload_n 0, 1) := by decide +kernel
theorem dX8_readArguments_1 : decode cX8_readArguments 1 = .ok (.bipush 40, 2) := by decide +kernel
theorem dX8_readArguments_3 : decode cX8_readArguments 3 = .ok (.invokevirtual 45, 3) := by decide +kernel
theorem dX8_readArguments_6 : decode cX8_readArguments 6 = .ok (.ifCond .eq 12, 3) := by decide +kernel
theorem dX8_readArguments_9 : decode cX8_readArguments 9 = .ok (.aload_n 0, 1) := by decide +kernel
theorem dX8_readArguments_10 : decode cX8_readArguments 10 = .ok (.bipush 41, 2) := by decide +kernel
theorem dX8_readArguments_12 : decode cX8_readArguments 12 = .ok (.invokevirtual 45, 3) := by decide +kernel
theorem dX8_readArguments_15 : decode cX8_readArguments 15 = .ok (.ifCond .eq 4, 3) := by decide +kernel
theorem dX8_readArguments_18 : decode cX8_readArguments 18 = .ok (.return_, 1) := by decide +kernel
theorem dX8_readArguments_19 : decode cX8_readArguments 19 = .ok (.iconst 1, 1) := by decide +kernel
theorem dX8_readArguments_20 : decode cX8_readArguments 20 = .ok (.istore_n 2, 1) := by decide +kernel
theorem dX8_readArguments_21 : decode cX8_readArguments 21 = .ok (.iconst 0, 1) := by decide +kernel
theorem dX8_readArguments_22 : decode cX8_readArguments 22 = .ok (.istore_n 3, 1) := by decide +kernel
theorem dX8_readArguments_23 : decode cX8_readArguments 23 = .ok (.iload_n 3, 1) := by decide +kernel
theorem dX8_readArguments_24 : decode cX8_readArguments 24 = .ok (.sipush 3000, 3) := by decide +kernel
theorem dX8_readArguments_27 : decode cX8_readArguments 27 = .ok (.if_icmp .ge 25, 3) := by decide +kernel
theorem dX8_readArguments_30 : decode cX8_readArguments 30 = .ok (.iload_n 2, 1) := by decide +kernel
theorem dX8_readArguments_31 : decode cX8_readArguments 31 = .ok (.ifCond .eq 21, 3) := by decide +kernel
theorem dX8_readArguments_34 : decode cX8_readArguments 34 = .ok (.aload_n 0, 1) := by decide +kernel
theorem dX8_readArguments_35 : decode cX8_readArguments 35 = .ok (.iload_n 1, 1) := by decide +kernel
theorem dX8_readArguments_36 : decode cX8_readArguments 36 = .ok (.invokevirtual 83, 3) := by decide +kernel
theorem dX8_readArguments_39 : decode cX8_readArguments 39 = .ok (.aload_n 0, 1) := by decide +kernel
theorem dX8_readArguments_40 : decode cX8_readArguments 40 = .ok (.bipush 47, 2) := by decide +kernel
theorem dX8_readArguments_42 : decode cX8_readArguments 42 = .ok (.invokevirtual 45, 3) := by decide +kernel
theorem dX8_readArguments_45 : decode cX8_readArguments 45 = .ok (.istore_n 2, 1) := by decide +kernel
theorem dX8_readArguments_46 : decode cX8_readArguments 46 = .ok (.iinc 3 1, 3) := by decide +kernel
theorem dX8_readArguments_49 : decode cX8_readArguments 49 = .ok (.goto (-26), 3) := by decide +kernel
theorem dX8_readArguments_52 : decode cX8_readArguments 52 = .ok (.aload_n 0, 1) := by decide +kernel
theorem dX8_readArguments_53 : decode cX8_readArguments 53 = .ok (.bipush 41, 2) := by decide +kernel
theorem dX8_readArguments_55 : decode cX8_readArguments 55 = .ok (.invokevirtual 37, 3) := by decide +kernel
theorem dX8_readArguments_58 : decode cX8_readArguments 58 = .ok (.return_, 1) := by decide +kernel
theorem dX8_readBehind_0 : decode cX8_readBehind 0 = .ok (.iconst 1, 1) := by decide +kernel
theorem dX8_readBehind_1 : decode cX8_readBehind 1 = .ok (.istore_n 2, 1) := by decide +kernel
theorem dX8_readBehind_2 : decode cX8_readBehind 2 = .ok (.iconst 0, 1) := by decide +kernel
theorem dX8_readBehind_3 : decode cX8_readBehind 3 = .ok (.istore_n 3, 1) := by decide +kernel
theorem dX8_readBehind_4 : decode cX8_readBehind 4 = .ok (.iload_n 3, 1) := by decide +kernel
theorem dX8_readBehind_5 : decode cX8_readBehind 5 = .ok (.sipush 3000, 3) := by decide +kernel
theorem dX8_readBehind_8 : decode cX8_readBehind 8 = .ok (.if_icmp .ge 60, 3) := by decide +kernel
theorem dX8_readBehind_11 : decode cX8_readBehind 11 = .ok (.iload_n 2, 1) := by decide +kernel
theorem dX8_readBehind_12 : decode cX8_readBehind 12 = .ok (.ifCond .eq 56, 3) := by decide +kernel
theorem dX8_readBehind_15 : decode cX8_readBehind 15 = .ok (.aload_n 0, 1) := by decide +kernel
theorem dX8_readBehind_16 : decode cX8_readBehind 16 = .ok (.bipush 48, 2) := by decide +kernel
theorem dX8_readBehind_18 : decode cX8_readBehind 18 = .ok (.invokevirtual 45, 3) := by decide +kernel
theorem dX8_readBehind_21 : decode cX8_readBehind 21 = .ok (.ifCond .eq 16, 3) := by decide +kernel
theorem dX8_readBehind_24 : decode cX8_readBehind 24 = .ok (.aload_n 0, 1) := by decide +kernel
theorem dX8_readBehind_25 : decode cX8_readBehind 25 = .ok (.iconst 2, 1) := by decide +kernel
theorem dX8_readBehind_26 : decode cX8_readBehind 26 = .ok (.invokevirtual 37, 3) := by decide +kernel
theorem dX8_readBehind_29 : decode cX8_readBehind 29 = .ok (.aload_n 0, 1) := by decide +kernel
theorem dX8_readBehind_30 : decode cX8_readBehind 30 = .ok (.iload_n 1, 1) := by decide +kernel
theorem dX8_readBehind_31 : decode cX8_readBehind 31 = .ok (.invokevirtual 103, 3) := by decide +kernel
theorem dX8_readBehind_34 : decode cX8_readBehind 34 = .ok (.goto 28, 3) := by decide +kernel
theorem dX8_readBehind_37 : decode cX8_readBehind 37 = .ok (.aload_n 0, 1) := by decide +kernel
theorem dX8_readBehind_38 : decode cX8_readBehind 38 = .ok (.bipush 44, 2) := by decide +kernel
theorem dX8_readBehind_40 : decode cX8_readBehind 40 = .ok (.invokevirtual 45, 3) := by decide +kernel
theorem dX8_readBehind_43 : decode cX8_readBehind 43 = .ok (.ifCond .eq 17, 3) := by decide +kernel
theorem dX8_readBehind_46 : decode cX8_readBehind 46 = .ok (.aload_n 0, 1) := by decide +kernel
theorem dX8_readBehind_47 : decode cX8_readBehind 47 = .ok (.iload_n 1, 1) := by decide +kernel
theorem dX8_readBehind_48 : decode cX8_readBehind 48 = .ok (.invokevirtual 83, 3) := by decide +kernel
theorem dX8_readBehind_51 : decode cX8_readBehind 51 = .ok (.aload_n 0, 1) := by decide +kernel
theorem dX8_readBehind_52 : decode cX8_readBehind 52 = .ok (.bipush 45, 2) := by decide +kernel
theorem dX8_readBehind_54 : decode cX8_readBehind 54 = .ok (.invokevirtual 37, 3) := by decide +kernel
theorem dX8_readBehind_57 : decode cX8_readBehind 57 = .ok (.goto 5, 3) := by decide +kernel
theorem dX8_readBehind_60 : decode cX8_readBehind 60 = .ok (.iconst 0, 1) := by decide +kernel
theorem dX8_readBehind_61 : decode cX8_readBehind 61 = .ok (.istore_n 2, 1) := by decide +kernel
theorem dX8_readBehind_62 : decode cX8_readBehind 62 = .ok (.iinc 3 1, 3) := by decide +kernel
theorem dX8_readBehind_65 : decode cX8_readBehind 65 = .ok (.goto (-61), 3) := by decide +kernel
theorem dX8_readBehind_68 : decode cX8_readBehind 68 = .ok (.return_, 1) := by decide +kernel
theorem dX8_readNew_0 : decode cX8_readNew 0 = .ok (.aload_n 0, 1) := by decide +kernel
theorem dX8_readNew_1 : decode cX8_readNew 1 = .ok (.getfield 7, 3) := by decide +kernel
theorem dX8_readNew_4 : decode cX8_readNew 4 = .ok (.dup, 1) := by decide +kernel
theorem dX8_readNew_5 : decode cX8_readNew 5 = .ok (.getfield 30, 3) := by decide +kernel
theorem dX8_readNew_8 : decode cX8_readNew 8 = .ok (.iconst 1, 1) := by decide +kernel
theorem dX8_readNew_9 : decode cX8_readNew 9 = .ok (.iadd, 1) := by decide +kernel
theorem dX8_readNew_10 : decode cX8_readNew 10 = .ok (.putfield 30, 3) := by decide +kernel
theorem dX8_readNew_13 : decode cX8_readNew 13 = .ok (.aload_n 0, 1) := by decide +kernel
theorem dX8_readNew_14 : decode cX8_readNew 14 = .ok (.bipush 20, 2) := by decide +kernel
theorem dX8_readNew_16 : decode cX8_readNew 16 = .ok (.invokevirtual 45, 3) := by decide +kernel
theorem dX8_readNew_19 : decode cX8_readNew 19 = .ok (.istore_n 2, 1) := by decide +kernel
theorem dX8_readNew_20 : decode cX8_readNew 20 = .ok (.iload_n 2, 1) := by decide +kernel
theorem dX8_readNew_21 : decode cX8_readNew 21 = .ok (.ifCond .ne 24, 3) := by decide +kernel
theorem dX8_readNew_24 : decode cX8_readNew 24 = .ok (.aload_n 0, 1) := by decide +kernel
theorem dX8_readNew_25 : decode cX8_readNew 25 = .ok (.iconst 2, 1) := by decide +kernel
theorem dX8_readNew_26 : decode cX8_readNew 26 = .ok (.invokevirtual 37, 3) := by decide +kernel
theorem dX8_readNew_29 : decode cX8_readNew 29 = .ok (.aload_n 0, 1) := by decide +kernel
theorem dX8_readNew_30 : decode cX8_readNew 30 = .ok (.bipush 40, 2) := by decide +kernel
theorem dX8_readNew_32 : decode cX8_readNew 32 = .ok (.invokevirtual 45, 3) := by decide +kernel
theorem dX8_readNew_35 : decode cX8_readNew 35 = .ok (.ifCond .eq 10, 3) := by decide +kernel
theorem dX8_readNew_38 : decode cX8_readNew 38 = .ok (.aload_n 0, 1) := by decide +kernel
theorem dX8_readNew_39 : decode cX8_readNew 39 = .ok (.bipush 41, 2) := by decide +kernel
theorem dX8_readNew_41 : decode cX8_readNew 41 = .ok (.invokevirtual 37, 3) := by decide +kernel
theorem dX8_readNew_44 : decode cX8_readNew 44 = .ok (.return_, 1) := by decide +kernel
theorem dX8_readNew_45 : decode cX8_readNew 45 = .ok (.aload_n 0, 1) := by decide +kernel
theorem dX8_readNew_46 : decode cX8_readNew 46 = .ok (.bipush 44, 2) := by decide +kernel
theorem dX8_readNew_48 : decode cX8_readNew 48 = .ok (.invokevirtual 37, 3) := by decide +kernel
theorem dX8_readNew_51 : decode cX8_readNew 51 = .ok (.aload_n 0, 1) := by decide +kernel
theorem dX8_readNew_52 : decode cX8_readNew 52 = .ok (.iload_n 1, 1) := by decide +kernel
theorem dX8_readNew_53 : decode cX8_readNew 53 = .ok (.invokevirtual 83, 3) := by decide +kernel
theorem dX8_readNew_56 : decode cX8_readNew 56 = .ok (.aload_n 0, 1) := by decide +kernel
theorem dX8_readNew_57 : decode cX8_readNew 57 = .ok (.bipush 45, 2) := by decide +kernel
theorem dX8_readNew_59 : decode cX8_readNew 59 = .ok (.invokevirtual 37, 3) := by decide +kernel
theorem dX8_readNew_62 : decode cX8_readNew 62 = .ok (.return_, 1) := by decide +kernel
theorem dX8_readPrimary_0 : decode cX8_readPrimary 0 = .ok (.aload_n 0, 1) := by decide +kernel
theorem dX8_readPrimary_1 : decode cX8_readPrimary 1 = .ok (.getfield 7, 3) := by decide +kernel
theorem dX8_readPrimary_4 : decode cX8_readPrimary 4 = .ok (.invokevirtual 23, 3) := by decide +kernel
theorem dX8_readPrimary_7 : decode cX8_readPrimary 7 = .ok (.lookupswitch 145 #[(2, 89), (3, 73), (17, 73), (21, 137), (22, 73), (26, 73), (28, 73), (40, 110)], 73) := by decide +kernel
theorem dX8_readPrimary_80 : decode cX8_readPrimary 80 = .ok (.aload_n 0, 1) := by decide +kernel
theorem dX8_readPrimary_81 : decode cX8_readPrimary 81 = .ok (.getfield 7, 3) := by decide +kernel
theorem dX8_readPrimary_84 : decode cX8_readPrimary 84 = .ok (.dup, 1) := by decide +kernel
theorem dX8_readPrimary_85 : decode cX8_readPrimary 85 = .ok (.getfield 30, 3) := by decide +kernel
theorem dX8_readPrimary_88 : decode cX8_readPrimary 88 = .ok (.iconst 1, 1) := by decide +kernel
theorem dX8_readPrimary_89 : decode cX8_readPrimary 89 = .ok (.iadd, 1) := by decide +kernel
theorem dX8_readPrimary_90 : decode cX8_readPrimary 90 = .ok (.putfield 30, 3) := by decide +kernel
theorem dX8_readPrimary_93 : decode cX8_readPrimary 93 = .ok (.goto 67, 3) := by decide +kernel
theorem dX8_readPrimary_96 : decode cX8_readPrimary 96 = .ok (.aload_n 0, 1) := by decide +kernel
theorem dX8_readPrimary_97 : decode cX8_readPrimary 97 = .ok (.getfield 7, 3) := by decide +kernel
theorem dX8_readPrimary_100 : decode cX8_readPrimary 100 = .ok (.dup, 1) := by decide +kernel
theorem dX8_readPrimary_101 : decode cX8_readPrimary 101 = .ok (.getfield 30, 3) := by decide +kernel
theorem dX8_readPrimary_104 : decode cX8_readPrimary 104 = .ok (.iconst 1, 1) := by decide +kernel
theorem dX8_readPrimary_105 : decode cX8_readPrimary 105 = .ok (.iadd, 1) := by decide +kernel
theorem dX8_readPrimary_106 : decode cX8_readPrimary 106 = .ok (.putfield 30, 3) := by decide +kernel
theorem dX8_readPrimary_109 : decode cX8_readPrimary 109 = .ok (.aload_n 0, 1) := by decide +kernel
theorem dX8_readPrimary_110 : decode cX8_readPrimary 110 = .ok (.iload_n 1, 1) := by decide +kernel
theorem dX8_readPrimary_111 : decode cX8_readPrimary 111 = .ok (.invokevirtual 103, 3) := by decide +kernel
theorem dX8_readPrimary_114 : decode cX8_readPrimary 114 = .ok (.goto 46, 3) := by decide +kernel
theorem dX8_readPrimary_117 : decode cX8_readPrimary 117 = .ok (.aload_n 0, 1) := by decide +kernel
theorem dX8_readPrimary_118 : decode cX8_readPrimary 118 = .ok (.getfield 7, 3) := by decide +kernel
theorem dX8_readPrimary_121 : decode cX8_readPrimary 121 = .ok (.dup, 1) := by decide +kernel
theorem dX8_readPrimary_122 : decode cX8_readPrimary 122 = .ok (.getfield 30, 3) := by decide +kernel
theorem dX8_readPrimary_125 : decode cX8_readPrimary 125 = .ok (.iconst 1, 1) := by decide +kernel
theorem dX8_readPrimary_126 : decode cX8_readPrimary 126 = .ok (.iadd, 1) := by decide +kernel
theorem dX8_readPrimary_127 : decode cX8_readPrimary 127 = .ok (.putfield 30, 3) := by decide +kernel
theorem dX8_readPrimary_130 : decode cX8_readPrimary 130 = .ok (.aload_n 0, 1) := by decide +kernel
theorem dX8_readPrimary_131 : decode cX8_readPrimary 131 = .ok (.iload_n 1, 1) := by decide +kernel
theorem dX8_readPrimary_132 : decode cX8_readPrimary 132 = .ok (.invokevirtual 83, 3) := by decide +kernel
theorem dX8_readPrimary_135 : decode cX8_readPrimary 135 = .ok (.aload_n 0, 1) := by decide +kernel
theorem dX8_readPrimary_136 : decode cX8_readPrimary 136 = .ok (.bipush 41, 2) := by decide +kernel
theorem dX8_readPrimary_138 : decode cX8_readPrimary 138 = .ok (.invokevirtual 37, 3) := by decide +kernel
theorem dX8_readPrimary_141 : decode cX8_readPrimary 141 = .ok (.goto 19, 3) := by decide +kernel
theorem dX8_readPrimary_144 : decode cX8_readPrimary 144 = .ok (.aload_n 0, 1) := by decide +kernel
theorem dX8_readPrimary_145 : decode cX8_readPrimary 145 = .ok (.iload_n 1, 1) := by decide +kernel
theorem dX8_readPrimary_146 : decode cX8_readPrimary 146 = .ok (.invokevirtual 106, 3) := by decide +kernel
theorem dX8_readPrimary_149 : decode cX8_readPrimary 149 = .ok (.goto 11, 3) := by decide +kernel
theorem dX8_readPrimary_152 : decode cX8_readPrimary 152 = .ok (.aload_n 0, 1) := by decide +kernel
theorem dX8_readPrimary_153 : decode cX8_readPrimary 153 = .ok (.getfield 7, 3) := by decide +kernel
theorem dX8_readPrimary_156 : decode cX8_readPrimary 156 = .ok (.iconst 2, 1) := by decide +kernel
theorem dX8_readPrimary_157 : decode cX8_readPrimary 157 = .ok (.invokevirtual 33, 3) := by decide +kernel
theorem dX8_readPrimary_160 : decode cX8_readPrimary 160 = .ok (.aload_n 0, 1) := by decide +kernel
theorem dX8_readPrimary_161 : decode cX8_readPrimary 161 = .ok (.iload_n 1, 1) := by decide +kernel
theorem dX8_readPrimary_162 : decode cX8_readPrimary 162 = .ok (.invokevirtual 109, 3) := by decide +kernel
theorem dX8_readPrimary_165 : decode cX8_readPrimary 165 = .ok (.return_, 1) := by decide +kernel
theorem dX8_readUnary_0 : decode cX8_readUnary 0 = .ok (.aload_n 0, 1) := by decide +kernel
theorem dX8_readUnary_1 : decode cX8_readUnary 1 = .ok (.getfield 7, 3) := by decide +kernel
theorem dX8_readUnary_4 : decode cX8_readUnary 4 = .ok (.invokevirtual 23, 3) := by decide +kernel
theorem dX8_readUnary_7 : decode cX8_readUnary 7 = .ok (.istore_n 2, 1) := by decide +kernel
theorem dX8_readUnary_8 : decode cX8_readUnary 8 = .ok (.aload_n 0, 1) := by decide +kernel
theorem dX8_readUnary_9 : decode cX8_readUnary 9 = .ok (.getfield 7, 3) := by decide +kernel
theorem dX8_readUnary_12 : decode cX8_readUnary 12 = .ok (.invokevirtual 97, 3) := by decide +kernel
theorem dX8_readUnary_15 : decode cX8_readUnary 15 = .ok (.istore_n 3, 1) := by decide +kernel
theorem dX8_readUnary_16 : decode cX8_readUnary 16 = .ok (.iload_n 3, 1) := by decide +kernel
theorem dX8_readUnary_17 : decode cX8_readUnary 17 = .ok (.ifCond .ne 27, 3) := by decide +kernel
theorem dX8_readUnary_20 : decode cX8_readUnary 20 = .ok (.iload_n 2, 1) := by decide +kernel
theorem dX8_readUnary_21 : decode cX8_readUnary 21 = .ok (.bipush 62, 2) := by decide +kernel
theorem dX8_readUnary_23 : decode cX8_readUnary 23 = .ok (.if_icmp .eq 21, 3) := by decide +kernel
theorem dX8_readUnary_26 : decode cX8_readUnary 26 = .ok (.iload_n 2, 1) := by decide +kernel
theorem dX8_readUnary_27 : decode cX8_readUnary 27 = .ok (.bipush 71, 2) := by decide +kernel
theorem dX8_readUnary_29 : decode cX8_readUnary 29 = .ok (.if_icmp .eq 15, 3) := by decide +kernel
theorem dX8_readUnary_32 : decode cX8_readUnary 32 = .ok (.iload_n 2, 1) := by decide +kernel
theorem dX8_readUnary_33 : decode cX8_readUnary 33 = .ok (.bipush 72, 2) := by decide +kernel
theorem dX8_readUnary_35 : decode cX8_readUnary 35 = .ok (.if_icmp .eq 9, 3) := by decide +kernel
theorem dX8_readUnary_38 : decode cX8_readUnary 38 = .ok (.aload_n 0, 1) := by decide +kernel
theorem dX8_readUnary_39 : decode cX8_readUnary 39 = .ok (.iload_n 1, 1) := by decide +kernel
theorem dX8_readUnary_40 : decode cX8_readUnary 40 = .ok (.invokevirtual 100, 3) := by decide +kernel
theorem dX8_readUnary_43 : decode cX8_readUnary 43 = .ok (.return_, 1) := by decide +kernel
theorem dX8_readUnary_44 : decode cX8_readUnary 44 = .ok (.aload_n 0, 1) := by decide +kernel
theorem dX8_readUnary_45 : decode cX8_readUnary 45 = .ok (.iload_n 1, 1) := by decide +kernel
theorem dX8_readUnary_46 : decode cX8_readUnary 46 = .ok (.invokevirtual 64, 3) := by decide +kernel
theorem dX8_readUnary_49 : decode cX8_readUnary 49 = .ok (.ifCond .eq 4, 3) := by decide +kernel
theorem dX8_readUnary_52 : decode cX8_readUnary 52 = .ok (.return_, 1) := by decide +kernel
theorem dX8_readUnary_53 : decode cX8_readUnary 53 = .ok (.aload_n 0, 1) := by decide +kernel
theorem dX8_readUnary_54 : decode cX8_readUnary 54 = .ok (.getfield 7, 3) := by decide +kernel
theorem dX8_readUnary_57 : decode cX8_readUnary 57 = .ok (.dup, 1) := by decide +kernel
theorem dX8_readUnary_58 : decode cX8_readUnary 58 = .ok (.getfield 30, 3) := by decide +kernel
theorem dX8_readUnary_61 : decode cX8_readUnary 61 = .ok (.iload_n 3, 1) := by decide +kernel
theorem dX8_readUnary_62 : decode cX8_readUnary 62 = .ok (.ifCond .eq 7, 3) := by decide +kernel
theorem dX8_readUnary_65 : decode cX8_readUnary 65 = .ok (.iconst 3, 1) := by decide +kernel
theorem dX8_readUnary_66 : decode cX8_readUnary 66 = .ok (.goto 4, 3) := by decide +kernel
theorem dX8_readUnary_69 : decode cX8_readUnary 69 = .ok (.iconst 1, 1) := by decide +kernel
theorem dX8_readUnary_70 : decode cX8_readUnary 70 = .ok (.iadd, 1) := by decide +kernel
theorem dX8_readUnary_71 : decode cX8_readUnary 71 = .ok (.putfield 30, 3) := by decide +kernel
theorem dX8_readUnary_74 : decode cX8_readUnary 74 = .ok (.aload_n 0, 1) := by decide +kernel
theorem dX8_readUnary_75 : decode cX8_readUnary 75 = .ok (.iload_n 1, 1) := by decide +kernel
theorem dX8_readUnary_76 : decode cX8_readUnary 76 = .ok (.iconst 1, 1) := by decide +kernel
theorem dX8_readUnary_77 : decode cX8_readUnary 77 = .ok (.iadd, 1) := by decide +kernel
theorem dX8_readUnary_78 : decode cX8_readUnary 78 = .ok (.invokevirtual 86, 3) := by decide +kernel
theorem dX8_readUnary_81 : decode cX8_readUnary 81 = .ok (.return_, 1) := by decide +kernel
theorem dX8_readValue_0 : decode cX8_readValue 0 = .ok (.aload_n 0, 1) := by decide +kernel
theorem dX8_readValue_1 : decode cX8_readValue 1 = .ok (.iload_n 1, 1) := by decide +kernel
theorem dX8_readValue_2 : decode cX8_readValue 2 = .ok (.invokevirtual 64, 3) := by decide +kernel
theorem dX8_readValue_5 : decode cX8_readValue 5 = .ok (.ifCond .eq 4, 3) := by decide +kernel
theorem dX8_readValue_8 : decode cX8_readValue 8 = .ok (.return_, 1) := by decide +kernel
theorem dX8_readValue_9 : decode cX8_readValue 9 = .ok (.iconst 1, 1) := by decide +kernel
theorem dX8_readValue_10 : decode cX8_readValue 10 = .ok (.istore_n 2, 1) := by decide +kernel
theorem dX8_readValue_11 : decode cX8_readValue 11 = .ok (.aload_n 0, 1) := by decide +kernel
theorem dX8_readValue_12 : decode cX8_readValue 12 = .ok (.iload_n 1, 1) := by decide +kernel
theorem dX8_readValue_13 : decode cX8_readValue 13 = .ok (.iconst 1, 1) := by decide +kernel
theorem dX8_readValue_14 : decode cX8_readValue 14 = .ok (.iadd, 1) := by decide +kernel
theorem dX8_readValue_15 : decode cX8_readValue 15 = .ok (.invokevirtual 86, 3) := by decide +kernel
theorem dX8_readValue_18 : decode cX8_readValue 18 = .ok (.iconst 0, 1) := by decide +kernel
theorem dX8_readValue_19 : decode cX8_readValue 19 = .ok (.istore_n 3, 1) := by decide +kernel
theorem dX8_readValue_20 : decode cX8_readValue 20 = .ok (.iload_n 3, 1) := by decide +kernel
theorem dX8_readValue_21 : decode cX8_readValue 21 = .ok (.sipush 3000, 3) := by decide +kernel
theorem dX8_readValue_24 : decode cX8_readValue 24 = .ok (.if_icmp .ge 64, 3) := by decide +kernel
theorem dX8_readValue_27 : decode cX8_readValue 27 = .ok (.aload_n 0, 1) := by decide +kernel
theorem dX8_readValue_28 : decode cX8_readValue 28 = .ok (.iload_n 2, 1) := by decide +kernel
theorem dX8_readValue_29 : decode cX8_readValue 29 = .ok (.invokevirtual 89, 3) := by decide +kernel
theorem dX8_readValue_32 : decode cX8_readValue 32 = .ok (.ifCond .eq 56, 3) := by decide +kernel
theorem dX8_readValue_35 : decode cX8_readValue 35 = .ok (.aload_n 0, 1) := by decide +kernel
theorem dX8_readValue_36 : decode cX8_readValue 36 = .ok (.bipush 19, 2) := by decide +kernel
theorem dX8_readValue_38 : decode cX8_readValue 38 = .ok (.invokevirtual 45, 3) := by decide +kernel
theorem dX8_readValue_41 : decode cX8_readValue 41 = .ok (.ifCond .ne 7, 3) := by decide +kernel
theorem dX8_readValue_44 : decode cX8_readValue 44 = .ok (.iconst 1, 1) := by decide +kernel
theorem dX8_readValue_45 : decode cX8_readValue 45 = .ok (.goto 4, 3) := by decide +kernel
theorem dX8_readValue_48 : decode cX8_readValue 48 = .ok (.iconst 0, 1) := by decide +kernel
theorem dX8_readValue_49 : decode cX8_readValue 49 = .ok (.istore_n 2, 1) := by decide +kernel
theorem dX8_readValue_50 : decode cX8_readValue 50 = .ok (.iload_n 2, 1) := by decide +kernel
theorem dX8_readValue_51 : decode cX8_readValue 51 = .ok (.ifCond .eq 26, 3) := by decide +kernel
theorem dX8_readValue_54 : decode cX8_readValue 54 = .ok (.aload_n 0, 1) := by decide +kernel
theorem dX8_readValue_55 : decode cX8_readValue 55 = .ok (.getfield 7, 3) := by decide +kernel
theorem dX8_readValue_58 : decode cX8_readValue 58 = .ok (.dup, 1) := by decide +kernel
theorem dX8_readValue_59 : decode cX8_readValue 59 = .ok (.getfield 30, 3) := by decide +kernel
theorem dX8_readValue_62 : decode cX8_readValue 62 = .ok (.iconst 1, 1) := by decide +kernel
theorem dX8_readValue_63 : decode cX8_readValue 63 = .ok (.iadd, 1) := by decide +kernel
theorem dX8_readValue_64 : decode cX8_readValue 64 = .ok (.putfield 30, 3) := by decide +kernel
theorem dX8_readValue_67 : decode cX8_readValue 67 = .ok (.aload_n 0, 1) := by decide +kernel
theorem dX8_readValue_68 : decode cX8_readValue 68 = .ok (.iload_n 1, 1) := by decide +kernel
theorem dX8_readValue_69 : decode cX8_readValue 69 = .ok (.iconst 1, 1) := by decide +kernel
theorem dX8_readValue_70 : decode cX8_readValue 70 = .ok (.iadd, 1) := by decide +kernel
theorem dX8_readValue_71 : decode cX8_readValue 71 = .ok (.invokevirtual 86, 3) := by decide +kernel
theorem dX8_readValue_74 : decode cX8_readValue 74 = .ok (.goto 8, 3) := by decide +kernel
theorem dX8_readValue_77 : decode cX8_readValue 77 = .ok (.aload_n 0, 1) := by decide +kernel
theorem dX8_readValue_78 : decode cX8_readValue 78 = .ok (.iconst 2, 1) := by decide +kernel
theorem dX8_readValue_79 : decode cX8_readValue 79 = .ok (.invokevirtual 37, 3) := by decide +kernel
theorem dX8_readValue_82 : decode cX8_readValue 82 = .ok (.iinc 3 1, 3) := by decide +kernel
theorem dX8_readValue_85 : decode cX8_readValue 85 = .ok (.goto (-65), 3) := by decide +kernel
theorem dX8_readValue_88 : decode cX8_readValue 88 = .ok (.aload_n 0, 1) := by decide +kernel
theorem dX8_readValue_89 : decode cX8_readValue 89 = .ok (.bipush 49, 2) := by decide +kernel
theorem dX8_readValue_91 : decode cX8_readValue 91 = .ok (.invokevirtual 45, 3) := by decide +kernel
theorem dX8_readValue_94 : decode cX8_readValue 94 = .ok (.ifCond .eq 23, 3) := by decide +kernel
theorem dX8_readValue_97 : decode cX8_readValue 97 = .ok (.aload_n 0, 1) := by decide +kernel
theorem dX8_readValue_98 : decode cX8_readValue 98 = .ok (.iload_n 1, 1) := by decide +kernel
theorem dX8_readValue_99 : decode cX8_readValue 99 = .ok (.iconst 1, 1) := by decide +kernel
theorem dX8_readValue_100 : decode cX8_readValue 100 = .ok (.iadd, 1) := by decide +kernel
theorem dX8_readValue_101 : decode cX8_readValue 101 = .ok (.invokevirtual 83, 3) := by decide +kernel
theorem dX8_readValue_104 : decode cX8_readValue 104 = .ok (.aload_n 0, 1) := by decide +kernel
theorem dX8_readValue_105 : decode cX8_readValue 105 = .ok (.bipush 50, 2) := by decide +kernel
theorem dX8_readValue_107 : decode cX8_readValue 107 = .ok (.invokevirtual 37, 3) := by decide +kernel
theorem dX8_readValue_110 : decode cX8_readValue 110 = .ok (.aload_n 0, 1) := by decide +kernel
theorem dX8_readValue_111 : decode cX8_readValue 111 = .ok (.iload_n 1, 1) := by decide +kernel
theorem dX8_readValue_112 : decode cX8_readValue 112 = .ok (.iconst 1, 1) := by decide +kernel
theorem dX8_readValue_113 : decode cX8_readValue 113 = .ok (.iadd, 1) := by decide +kernel
theorem dX8_readValue_114 : decode cX8_readValue 114 = .ok (.invokevirtual 83, 3) := by decide +kernel
theorem dX8_readValue_117 : decode cX8_readValue 117 = .ok (.return_, 1) := by decide +kernel
theorem dX8_readCondition_0 : decode cX8_readCondition 0 = .ok (.aload_n 0, 1) := by decide +kernel
theorem dX8_readCondition_1 : decode cX8_readCondition 1 = .ok (.getfield 7, 3) := by decide +kernel
theorem dX8_readCondition_4 : decode cX8_readCondition 4 = .ok (.dup, 1) := by decide +kernel
theorem dX8_readCondition_5 : decode cX8_readCondition 5 = .ok (.getfield 30, 3) := by decide +kernel
theorem dX8_readCondition_8 : decode cX8_readCondition 8 = .ok (.iconst 1, 1) := by decide +kernel
theorem dX8_readCondition_9 : decode cX8_readCondition 9 = .ok (.iadd, 1) := by decide +kernel
theorem dX8_readCondition_10 : decode cX8_readCondition 10 = .ok (.putfield 30, 3) := by decide +kernel
theorem dX8_readCondition_13 : decode cX8_readCondition 13 = .ok (.aload_n 0, 1) := by decide +kernel
theorem dX8_readCondition_14 : decode cX8_readCondition 14 = .ok (.bipush 40, 2) := by decide +kernel
theorem dX8_readCondition_16 : decode cX8_readCondition 16 = .ok (.invokevirtual 37, 3) := by decide +kernel
theorem dX8_readCondition_19 : decode cX8_readCondition 19 = .ok (.aload_n 0, 1) := by decide +kernel
theorem dX8_readCondition_20 : decode cX8_readCondition 20 = .ok (.iload_n 1, 1) := by decide +kernel
theorem dX8_readCondition_21 : decode cX8_readCondition 21 = .ok (.invokevirtual 83, 3) := by decide +kernel
theorem dX8_readCondition_24 : decode cX8_readCondition 24 = .ok (.aload_n 0, 1) := by decide +kernel
theorem dX8_readCondition_25 : decode cX8_readCondition 25 = .ok (.bipush 41, 2) := by decide +kernel
theorem dX8_readCondition_27 : decode cX8_readCondition 27 = .ok (.invokevirtual 37, 3) := by decide +kernel
theorem dX8_readCondition_30 : decode cX8_readCondition 30 = .ok (.return_, 1) := by decide +kernel
theorem dX8_readPlain_0 : decode cX8_readPlain 0 = .ok (.aload_n 0, 1) := by decide +kernel
theorem dX8_readPlain_1 : decode cX8_readPlain 1 = .ok (.getfield 7, 3) := by decide +kernel
theorem dX8_readPlain_4 : decode cX8_readPlain 4 = .ok (.invokevirtual 23, 3) := by decide +kernel
theorem dX8_readPlain_7 : decode cX8_readPlain 7 = .ok (.lookupswitch 127 #[(11, 49), (14, 49), (23, 119), (24, 65), (27, 98)], 49) := by decide +kernel
theorem dX8_readPlain_56 : decode cX8_readPlain 56 = .ok (.aload_n 0, 1) := by decide +kernel
theorem dX8_readPlain_57 : decode cX8_readPlain 57 = .ok (.getfield 7, 3) := by decide +kernel
theorem dX8_readPlain_60 : decode cX8_readPlain 60 = .ok (.dup, 1) := by decide +kernel
theorem dX8_readPlain_61 : decode cX8_readPlain 61 = .ok (.getfield 30, 3) := by decide +kernel
theorem dX8_readPlain_64 : decode cX8_readPlain 64 = .ok (.iconst 1, 1) := by decide +kernel
theorem dX8_readPlain_65 : decode cX8_readPlain 65 = .ok (.iadd, 1) := by decide +kernel
theorem dX8_readPlain_66 : decode cX8_readPlain 66 = .ok (.putfield 30, 3) := by decide +kernel
theorem dX8_readPlain_69 : decode cX8_readPlain 69 = .ok (.goto 84, 3) := by decide +kernel
theorem dX8_readPlain_72 : decode cX8_readPlain 72 = .ok (.aload_n 0, 1) := by decide +kernel
theorem dX8_readPlain_73 : decode cX8_readPlain 73 = .ok (.getfield 7, 3) := by decide +kernel
theorem dX8_readPlain_76 : decode cX8_readPlain 76 = .ok (.dup, 1) := by decide +kernel
theorem dX8_readPlain_77 : decode cX8_readPlain 77 = .ok (.getfield 30, 3) := by decide +kernel
theorem dX8_readPlain_80 : decode cX8_readPlain 80 = .ok (.iconst 1, 1) := by decide +kernel
theorem dX8_readPlain_81 : decode cX8_readPlain 81 = .ok (.iadd, 1) := by decide +kernel
theorem dX8_readPlain_82 : decode cX8_readPlain 82 = .ok (.putfield 30, 3) := by decide +kernel
theorem dX8_readPlain_85 : decode cX8_readPlain 85 = .ok (.aload_n 0, 1) := by decide +kernel
theorem dX8_readPlain_86 : decode cX8_readPlain 86 = .ok (.getfield 7, 3) := by decide +kernel
theorem dX8_readPlain_89 : decode cX8_readPlain 89 = .ok (.invokevirtual 23, 3) := by decide +kernel
theorem dX8_readPlain_92 : decode cX8_readPlain 92 = .ok (.bipush 46, 2) := by decide +kernel
theorem dX8_readPlain_94 : decode cX8_readPlain 94 = .ok (.if_icmp .eq 59, 3) := by decide +kernel
theorem dX8_readPlain_97 : decode cX8_readPlain 97 = .ok (.aload_n 0, 1) := by decide +kernel
theorem dX8_readPlain_98 : decode cX8_readPlain 98 = .ok (.iload_n 1, 1) := by decide +kernel
theorem dX8_readPlain_99 : decode cX8_readPlain 99 = .ok (.invokevirtual 83, 3) := by decide +kernel
theorem dX8_readPlain_102 : decode cX8_readPlain 102 = .ok (.goto 51, 3) := by decide +kernel
theorem dX8_readPlain_105 : decode cX8_readPlain 105 = .ok (.aload_n 0, 1) := by decide +kernel
theorem dX8_readPlain_106 : decode cX8_readPlain 106 = .ok (.getfield 7, 3) := by decide +kernel
theorem dX8_readPlain_109 : decode cX8_readPlain 109 = .ok (.dup, 1) := by decide +kernel
theorem dX8_readPlain_110 : decode cX8_readPlain 110 = .ok (.getfield 30, 3) := by decide +kernel
theorem dX8_readPlain_113 : decode cX8_readPlain 113 = .ok (.iconst 1, 1) := by decide +kernel
theorem dX8_readPlain_114 : decode cX8_readPlain 114 = .ok (.iadd, 1) := by decide +kernel
theorem dX8_readPlain_115 : decode cX8_readPlain 115 = .ok (.putfield 30, 3) := by decide +kernel
theorem dX8_readPlain_118 : decode cX8_readPlain 118 = .ok (.aload_n 0, 1) := by decide +kernel
theorem dX8_readPlain_119 : decode cX8_readPlain 119 = .ok (.iload_n 1, 1) := by decide +kernel
theorem dX8_readPlain_120 : decode cX8_readPlain 120 = .ok (.invokevirtual 83, 3) := by decide +kernel
theorem dX8_readPlain_123 : decode cX8_readPlain 123 = .ok (.goto 30, 3) := by decide +kernel
theorem dX8_readPlain_126 : decode cX8_readPlain 126 = .ok (.aload_n 0, 1) := by decide +kernel
theorem dX8_readPlain_127 : decode cX8_readPlain 127 = .ok (.iload_n 1, 1) := by decide +kernel
theorem dX8_readPlain_128 : decode cX8_readPlain 128 = .ok (.invokevirtual 67, 3) := by decide +kernel
theorem dX8_readPlain_131 : decode cX8_readPlain 131 = .ok (.goto 22, 3) := by decide +kernel
theorem dX8_readPlain_134 : decode cX8_readPlain 134 = .ok (.aload_n 0, 1) := by decide +kernel
theorem dX8_readPlain_135 : decode cX8_readPlain 135 = .ok (.iload_n 1, 1) := by decide +kernel
theorem dX8_readPlain_136 : decode cX8_readPlain 136 = .ok (.invokevirtual 83, 3) := by decide +kernel
theorem dX8_readPlain_139 : decode cX8_readPlain 139 = .ok (.aload_n 0, 1) := by decide +kernel
theorem dX8_readPlain_140 : decode cX8_readPlain 140 = .ok (.bipush 51, 2) := by decide +kernel
theorem dX8_readPlain_142 : decode cX8_readPlain 142 = .ok (.invokevirtual 45, 3) := by decide +kernel
theorem dX8_readPlain_145 : decode cX8_readPlain 145 = .ok (.ifCond .eq 8, 3) := by decide +kernel
theorem dX8_readPlain_148 : decode cX8_readPlain 148 = .ok (.aload_n 0, 1) := by decide +kernel
theorem dX8_readPlain_149 : decode cX8_readPlain 149 = .ok (.iload_n 1, 1) := by decide +kernel
theorem dX8_readPlain_150 : decode cX8_readPlain 150 = .ok (.invokevirtual 83, 3) := by decide +kernel
theorem dX8_readPlain_153 : decode cX8_readPlain 153 = .ok (.return_, 1) := by decide +kernel
theorem dX8_readType_0 : decode cX8_readType 0 = .ok (.aload_n 0, 1) := by decide +kernel
theorem dX8_readType_1 : decode cX8_readType 1 = .ok (.bipush 10, 2) := by decide +kernel
theorem dX8_readType_3 : decode cX8_readType 3 = .ok (.invokevirtual 45, 3) := by decide +kernel
theorem dX8_readType_6 : decode cX8_readType 6 = .ok (.ifCond .eq 4, 3) := by decide +kernel
theorem dX8_readType_9 : decode cX8_readType 9 = .ok (.return_, 1) := by decide +kernel
theorem dX8_readType_10 : decode cX8_readType 10 = .ok (.aload_n 0, 1) := by decide +kernel
theorem dX8_readType_11 : decode cX8_readType 11 = .ok (.bipush 20, 2) := by decide +kernel
theorem dX8_readType_13 : decode cX8_readType 13 = .ok (.invokevirtual 45, 3) := by decide +kernel
theorem dX8_readType_16 : decode cX8_readType 16 = .ok (.ifCond .ne 8, 3) := by decide +kernel
theorem dX8_readType_19 : decode cX8_readType 19 = .ok (.aload_n 0, 1) := by decide +kernel
theorem dX8_readType_20 : decode cX8_readType 20 = .ok (.iconst 2, 1) := by decide +kernel
theorem dX8_readType_21 : decode cX8_readType 21 = .ok (.invokevirtual 37, 3) := by decide +kernel
theorem dX8_readType_24 : decode cX8_readType 24 = .ok (.aload_n 0, 1) := by decide +kernel
theorem dX8_readType_25 : decode cX8_readType 25 = .ok (.bipush 44, 2) := by decide +kernel
theorem dX8_readType_27 : decode cX8_readType 27 = .ok (.invokevirtual 45, 3) := by decide +kernel
theorem dX8_readType_30 : decode cX8_readType 30 = .ok (.ifCond .eq 9, 3) := by decide +kernel
theorem dX8_readType_33 : decode cX8_readType 33 = .ok (.aload_n 0, 1) := by decide +kernel
theorem dX8_readType_34 : decode cX8_readType 34 = .ok (.bipush 45, 2) := by decide +kernel
theorem dX8_readType_36 : decode cX8_readType 36 = .ok (.invokevirtual 37, 3) := by decide +kernel
theorem dX8_readType_39 : decode cX8_readType 39 = .ok (.return_, 1) := by decide +kernel
theorem dX8_readVariable_0 : decode cX8_readVariable 0 = .ok (.aload_n 0, 1) := by decide +kernel
theorem dX8_readVariable_1 : decode cX8_readVariable 1 = .ok (.invokevirtual 52, 3) := by decide +kernel
theorem dX8_readVariable_4 : decode cX8_readVariable 4 = .ok (.aload_n 0, 1) := by decide +kernel
theorem dX8_readVariable_5 : decode cX8_readVariable 5 = .ok (.iconst 2, 1) := by decide +kernel
theorem dX8_readVariable_6 : decode cX8_readVariable 6 = .ok (.invokevirtual 37, 3) := by decide +kernel
theorem dX8_readVariable_9 : decode cX8_readVariable 9 = .ok (.aload_n 0, 1) := by decide +kernel
theorem dX8_readVariable_10 : decode cX8_readVariable 10 = .ok (.bipush 51, 2) := by decide +kernel
theorem dX8_readVariable_12 : decode cX8_readVariable 12 = .ok (.invokevirtual 37, 3) := by decide +kernel
theorem dX8_readVariable_15 : decode cX8_readVariable 15 = .ok (.aload_n 0, 1) := by decide +kernel
theorem dX8_readVariable_16 : decode cX8_readVariable 16 = .ok (.iload_n 1, 1) := by decide +kernel
theorem dX8_readVariable_17 : decode cX8_readVariable 17 = .ok (.invokevirtual 83, 3) := by decide +kernel
theorem dX8_readVariable_20 : decode cX8_readVariable 20 = .ok (.return_, 1) := by decide +kernel
theorem dX8_readBlock_0 : decode cX8_readBlock 0 = .ok (.aload_n 0, 1) := by decide +kernel
theorem dX8_readBlock_1 : decode cX8_readBlock 1 = .ok (.bipush 42, 2) := by decide +kernel
theorem dX8_readBlock_3 : decode cX8_readBlock 3 = .ok (.invokevirtual 37, 3) := by decide +kernel
theorem dX8_readBlock_6 : decode cX8_readBlock 6 = .ok (.iconst 0, 1) := by decide +kernel
theorem dX8_readBlock_7 : decode cX8_readBlock 7 = .ok (.istore_n 2, 1) := by decide +kernel
theorem dX8_readBlock_8 : decode cX8_readBlock 8 = .ok (.iload_n 2, 1) := by decide +kernel
theorem dX8_readBlock_9 : decode cX8_readBlock 9 = .ok (.sipush 3000, 3) := by decide +kernel
theorem dX8_readBlock_12 : decode cX8_readBlock 12 = .ok (.if_icmp .ge 36, 3) := by decide +kernel
theorem dX8_readBlock_15 : decode cX8_readBlock 15 = .ok (.aload_n 0, 1) := by decide +kernel
theorem dX8_readBlock_16 : decode cX8_readBlock 16 = .ok (.getfield 7, 3) := by decide +kernel
theorem dX8_readBlock_19 : decode cX8_readBlock 19 = .ok (.getfield 19, 3) := by decide +kernel
theorem dX8_readBlock_22 : decode cX8_readBlock 22 = .ok (.ifCond .ne 26, 3) := by decide +kernel
theorem dX8_readBlock_25 : decode cX8_readBlock 25 = .ok (.aload_n 0, 1) := by decide +kernel
theorem dX8_readBlock_26 : decode cX8_readBlock 26 = .ok (.getfield 7, 3) := by decide +kernel
theorem dX8_readBlock_29 : decode cX8_readBlock 29 = .ok (.invokevirtual 23, 3) := by decide +kernel
theorem dX8_readBlock_32 : decode cX8_readBlock 32 = .ok (.bipush 43, 2) := by decide +kernel
theorem dX8_readBlock_34 : decode cX8_readBlock 34 = .ok (.if_icmp .eq 14, 3) := by decide +kernel
theorem dX8_readBlock_37 : decode cX8_readBlock 37 = .ok (.aload_n 0, 1) := by decide +kernel
theorem dX8_readBlock_38 : decode cX8_readBlock 38 = .ok (.iload_n 1, 1) := by decide +kernel
theorem dX8_readBlock_39 : decode cX8_readBlock 39 = .ok (.invokevirtual 61, 3) := by decide +kernel
theorem dX8_readBlock_42 : decode cX8_readBlock 42 = .ok (.iinc 2 1, 3) := by decide +kernel
theorem dX8_readBlock_45 : decode cX8_readBlock 45 = .ok (.goto (-37), 3) := by decide +kernel
theorem dX8_readBlock_48 : decode cX8_readBlock 48 = .ok (.aload_n 0, 1) := by decide +kernel
theorem dX8_readBlock_49 : decode cX8_readBlock 49 = .ok (.bipush 43, 2) := by decide +kernel
theorem dX8_readBlock_51 : decode cX8_readBlock 51 = .ok (.invokevirtual 37, 3) := by decide +kernel
theorem dX8_readBlock_54 : decode cX8_readBlock 54 = .ok (.return_, 1) := by decide +kernel
theorem dX8_readStatement_0 : decode cX8_readStatement 0 = .ok (.aload_n 0, 1) := by decide +kernel
theorem dX8_readStatement_1 : decode cX8_readStatement 1 = .ok (.iload_n 1, 1) := by decide +kernel
theorem dX8_readStatement_2 : decode cX8_readStatement 2 = .ok (.invokevirtual 64, 3) := by decide +kernel
theorem dX8_readStatement_5 : decode cX8_readStatement 5 = .ok (.ifCond .eq 4, 3) := by decide +kernel
theorem dX8_readStatement_8 : decode cX8_readStatement 8 = .ok (.return_, 1) := by decide +kernel
theorem dX8_readStatement_9 : decode cX8_readStatement 9 = .ok (.aload_n 0, 1) := by decide +kernel
theorem dX8_readStatement_10 : decode cX8_readStatement 10 = .ok (.getfield 7, 3) := by decide +kernel
theorem dX8_readStatement_13 : decode cX8_readStatement 13 = .ok (.invokevirtual 23, 3) := by decide +kernel
theorem dX8_readStatement_16 : decode cX8_readStatement 16 = .ok (.lookupswitch 114 #[(18, 54), (29, 104), (31, 87), (42, 44)], 44) := by decide +kernel
theorem dX8_readStatement_60 : decode cX8_readStatement 60 = .ok (.aload_n 0, 1) := by decide +kernel
theorem dX8_readStatement_61 : decode cX8_readStatement 61 = .ok (.iload_n 1, 1) := by decide +kernel
theorem dX8_readStatement_62 : decode cX8_readStatement 62 = .ok (.iconst 1, 1) := by decide +kernel
theorem dX8_readStatement_63 : decode cX8_readStatement 63 = .ok (.iadd, 1) := by decide +kernel
theorem dX8_readStatement_64 : decode cX8_readStatement 64 = .ok (.invokevirtual 58, 3) := by decide +kernel
theorem dX8_readStatement_67 : decode cX8_readStatement 67 = .ok (.goto 96, 3) := by decide +kernel
theorem dX8_readStatement_70 : decode cX8_readStatement 70 = .ok (.aload_n 0, 1) := by decide +kernel
theorem dX8_readStatement_71 : decode cX8_readStatement 71 = .ok (.iload_n 1, 1) := by decide +kernel
theorem dX8_readStatement_72 : decode cX8_readStatement 72 = .ok (.iconst 1, 1) := by decide +kernel
theorem dX8_readStatement_73 : decode cX8_readStatement 73 = .ok (.iadd, 1) := by decide +kernel
theorem dX8_readStatement_74 : decode cX8_readStatement 74 = .ok (.invokevirtual 67, 3) := by decide +kernel
theorem dX8_readStatement_77 : decode cX8_readStatement 77 = .ok (.aload_n 0, 1) := by decide +kernel
theorem dX8_readStatement_78 : decode cX8_readStatement 78 = .ok (.iload_n 1, 1) := by decide +kernel
theorem dX8_readStatement_79 : decode cX8_readStatement 79 = .ok (.iconst 1, 1) := by decide +kernel
theorem dX8_readStatement_80 : decode cX8_readStatement 80 = .ok (.iadd, 1) := by decide +kernel
theorem dX8_readStatement_81 : decode cX8_readStatement 81 = .ok (.invokevirtual 61, 3) := by decide +kernel
theorem dX8_readStatement_84 : decode cX8_readStatement 84 = .ok (.aload_n 0, 1) := by decide +kernel
theorem dX8_readStatement_85 : decode cX8_readStatement 85 = .ok (.bipush 15, 2) := by decide +kernel
theorem dX8_readStatement_87 : decode cX8_readStatement 87 = .ok (.invokevirtual 45, 3) := by decide +kernel
theorem dX8_readStatement_90 : decode cX8_readStatement 90 = .ok (.ifCond .eq 73, 3) := by decide +kernel
theorem dX8_readStatement_93 : decode cX8_readStatement 93 = .ok (.aload_n 0, 1) := by decide +kernel
theorem dX8_readStatement_94 : decode cX8_readStatement 94 = .ok (.iload_n 1, 1) := by decide +kernel
theorem dX8_readStatement_95 : decode cX8_readStatement 95 = .ok (.iconst 1, 1) := by decide +kernel
theorem dX8_readStatement_96 : decode cX8_readStatement 96 = .ok (.iadd, 1) := by decide +kernel
theorem dX8_readStatement_97 : decode cX8_readStatement 97 = .ok (.invokevirtual 61, 3) := by decide +kernel
theorem dX8_readStatement_100 : decode cX8_readStatement 100 = .ok (.goto 63, 3) := by decide +kernel
theorem dX8_readStatement_103 : decode cX8_readStatement 103 = .ok (.aload_n 0, 1) := by decide +kernel
theorem dX8_readStatement_104 : decode cX8_readStatement 104 = .ok (.iload_n 1, 1) := by decide +kernel
theorem dX8_readStatement_105 : decode cX8_readStatement 105 = .ok (.iconst 1, 1) := by decide +kernel
theorem dX8_readStatement_106 : decode cX8_readStatement 106 = .ok (.iadd, 1) := by decide +kernel
theorem dX8_readStatement_107 : decode cX8_readStatement 107 = .ok (.invokevirtual 67, 3) := by decide +kernel
theorem dX8_readStatement_110 : decode cX8_readStatement 110 = .ok (.aload_n 0, 1) := by decide +kernel
theorem dX8_readStatement_111 : decode cX8_readStatement 111 = .ok (.iload_n 1, 1) := by decide +kernel
theorem dX8_readStatement_112 : decode cX8_readStatement 112 = .ok (.iconst 1, 1) := by decide +kernel
theorem dX8_readStatement_113 : decode cX8_readStatement 113 = .ok (.iadd, 1) := by decide +kernel
theorem dX8_readStatement_114 : decode cX8_readStatement 114 = .ok (.invokevirtual 61, 3) := by decide +kernel
theorem dX8_readStatement_117 : decode cX8_readStatement 117 = .ok (.goto 46, 3) := by decide +kernel
theorem dX8_readStatement_120 : decode cX8_readStatement 120 = .ok (.aload_n 0, 1) := by decide +kernel
theorem dX8_readStatement_121 : decode cX8_readStatement 121 = .ok (.iload_n 1, 1) := by decide +kernel
theorem dX8_readStatement_122 : decode cX8_readStatement 122 = .ok (.iconst 1, 1) := by decide +kernel
theorem dX8_readStatement_123 : decode cX8_readStatement 123 = .ok (.iadd, 1) := by decide +kernel
theorem dX8_readStatement_124 : decode cX8_readStatement 124 = .ok (.invokevirtual 70, 3) := by decide +kernel
theorem dX8_readStatement_127 : decode cX8_readStatement 127 = .ok (.goto 36, 3) := by decide +kernel
theorem dX8_readStatement_130 : decode cX8_readStatement 130 = .ok (.aload_n 0, 1) := by decide +kernel
theorem dX8_readStatement_131 : decode cX8_readStatement 131 = .ok (.getfield 7, 3) := by decide +kernel
theorem dX8_readStatement_134 : decode cX8_readStatement 134 = .ok (.invokevirtual 73, 3) := by decide +kernel
theorem dX8_readStatement_137 : decode cX8_readStatement 137 = .ok (.ifCond .eq 13, 3) := by decide +kernel
theorem dX8_readStatement_140 : decode cX8_readStatement 140 = .ok (.aload_n 0, 1) := by decide +kernel
theorem dX8_readStatement_141 : decode cX8_readStatement 141 = .ok (.iload_n 1, 1) := by decide +kernel
theorem dX8_readStatement_142 : decode cX8_readStatement 142 = .ok (.iconst 1, 1) := by decide +kernel
theorem dX8_readStatement_143 : decode cX8_readStatement 143 = .ok (.iadd, 1) := by decide +kernel
theorem dX8_readStatement_144 : decode cX8_readStatement 144 = .ok (.invokevirtual 77, 3) := by decide +kernel
theorem dX8_readStatement_147 : decode cX8_readStatement 147 = .ok (.goto 10, 3) := by decide +kernel
theorem dX8_readStatement_150 : decode cX8_readStatement 150 = .ok (.aload_n 0, 1) := by decide +kernel
theorem dX8_readStatement_151 : decode cX8_readStatement 151 = .ok (.iload_n 1, 1) := by decide +kernel
theorem dX8_readStatement_152 : decode cX8_readStatement 152 = .ok (.iconst 1, 1) := by decide +kernel
theorem dX8_readStatement_153 : decode cX8_readStatement 153 = .ok (.iadd, 1) := by decide +kernel
theorem dX8_readStatement_154 : decode cX8_readStatement 154 = .ok (.invokevirtual 80, 3) := by decide +kernel
theorem dX8_readStatement_157 : decode cX8_readStatement 157 = .ok (.aload_n 0, 1) := by decide +kernel
theorem dX8_readStatement_158 : decode cX8_readStatement 158 = .ok (.bipush 46, 2) := by decide +kernel
theorem dX8_readStatement_160 : decode cX8_readStatement 160 = .ok (.invokevirtual 37, 3) := by decide +kernel
theorem dX8_readStatement_163 : decode cX8_readStatement 163 = .ok (.return_, 1) := by decide +kernel
theorem dX8_readTry_0 : decode cX8_readTry 0 = .ok (.aload_n 0, 1) := by decide +kernel
theorem dX8_readTry_1 : decode cX8_readTry 1 = .ok (.getfield 7, 3) := by decide +kernel
theorem dX8_readTry_4 : decode cX8_readTry 4 = .ok (.dup, 1) := by decide +kernel
theorem dX8_readTry_5 : decode cX8_readTry 5 = .ok (.getfield 30, 3) := by decide +kernel
theorem dX8_readTry_8 : decode cX8_readTry 8 = .ok (.iconst 1, 1) := by decide +kernel
theorem dX8_readTry_9 : decode cX8_readTry 9 = .ok (.iadd, 1) := by decide +kernel
theorem dX8_readTry_10 : decode cX8_readTry 10 = .ok (.putfield 30, 3) := by decide +kernel
theorem dX8_readTry_13 : decode cX8_readTry 13 = .ok (.aload_n 0, 1) := by decide +kernel
theorem dX8_readTry_14 : decode cX8_readTry 14 = .ok (.iload_n 1, 1) := by decide +kernel
theorem dX8_readTry_15 : decode cX8_readTry 15 = .ok (.invokevirtual 58, 3) := by decide +kernel
theorem dX8_readTry_18 : decode cX8_readTry 18 = .ok (.aload_n 0, 1) := by decide +kernel
theorem dX8_readTry_19 : decode cX8_readTry 19 = .ok (.bipush 12, 2) := by decide +kernel
theorem dX8_readTry_21 : decode cX8_readTry 21 = .ok (.invokevirtual 37, 3) := by decide +kernel
theorem dX8_readTry_24 : decode cX8_readTry 24 = .ok (.aload_n 0, 1) := by decide +kernel
theorem dX8_readTry_25 : decode cX8_readTry 25 = .ok (.bipush 40, 2) := by decide +kernel
theorem dX8_readTry_27 : decode cX8_readTry 27 = .ok (.invokevirtual 37, 3) := by decide +kernel
theorem dX8_readTry_30 : decode cX8_readTry 30 = .ok (.aload_n 0, 1) := by decide +kernel
theorem dX8_readTry_31 : decode cX8_readTry 31 = .ok (.iconst 2, 1) := by decide +kernel
theorem dX8_readTry_32 : decode cX8_readTry 32 = .ok (.invokevirtual 37, 3) := by decide +kernel
theorem dX8_readTry_35 : decode cX8_readTry 35 = .ok (.aload_n 0, 1) := by decide +kernel
theorem dX8_readTry_36 : decode cX8_readTry 36 = .ok (.iconst 2, 1) := by decide +kernel
theorem dX8_readTry_37 : decode cX8_readTry 37 = .ok (.invokevirtual 37, 3) := by decide +kernel
theorem dX8_readTry_40 : decode cX8_readTry 40 = .ok (.aload_n 0, 1) := by decide +kernel
theorem dX8_readTry_41 : decode cX8_readTry 41 = .ok (.bipush 41, 2) := by decide +kernel
theorem dX8_readTry_43 : decode cX8_readTry 43 = .ok (.invokevirtual 37, 3) := by decide +kernel
theorem dX8_readTry_46 : decode cX8_readTry 46 = .ok (.aload_n 0, 1) := by decide +kernel
theorem dX8_readTry_47 : decode cX8_readTry 47 = .ok (.iload_n 1, 1) := by decide +kernel
theorem dX8_readTry_48 : decode cX8_readTry 48 = .ok (.invokevirtual 58, 3) := by decide +kernel
theorem dX8_readTry_51 : decode cX8_readTry 51 = .ok (.return_, 1) := by decide +kernel
theorem dX8_readParameters_0 : decode cX8_readParameters 0 = .ok (.iconst 1, 1) := by decide +kernel
theorem dX8_readParameters_1 : decode cX8_readParameters 1 = .ok (.istore_n 1, 1) := by decide +kernel
theorem dX8_readParameters_2 : decode cX8_readParameters 2 = .ok (.iconst 0, 1) := by decide +kernel
theorem dX8_readParameters_3 : decode cX8_readParameters 3 = .ok (.istore_n 2, 1) := by decide +kernel
theorem dX8_readParameters_4 : decode cX8_readParameters 4 = .ok (.iload_n 2, 1) := by decide +kernel
theorem dX8_readParameters_5 : decode cX8_readParameters 5 = .ok (.sipush 3000, 3) := by decide +kernel
theorem dX8_readParameters_8 : decode cX8_readParameters 8 = .ok (.if_icmp .ge 29, 3) := by decide +kernel
theorem dX8_readParameters_11 : decode cX8_readParameters 11 = .ok (.iload_n 1, 1) := by decide +kernel
theorem dX8_readParameters_12 : decode cX8_readParameters 12 = .ok (.ifCond .eq 25, 3) := by decide +kernel
theorem dX8_readParameters_15 : decode cX8_readParameters 15 = .ok (.aload_n 0, 1) := by decide +kernel
theorem dX8_readParameters_16 : decode cX8_readParameters 16 = .ok (.invokevirtual 52, 3) := by decide +kernel
theorem dX8_readParameters_19 : decode cX8_readParameters 19 = .ok (.aload_n 0, 1) := by decide +kernel
theorem dX8_readParameters_20 : decode cX8_readParameters 20 = .ok (.iconst 2, 1) := by decide +kernel
theorem dX8_readParameters_21 : decode cX8_readParameters 21 = .ok (.invokevirtual 37, 3) := by decide +kernel
theorem dX8_readParameters_24 : decode cX8_readParameters 24 = .ok (.aload_n 0, 1) := by decide +kernel
theorem dX8_readParameters_25 : decode cX8_readParameters 25 = .ok (.bipush 47, 2) := by decide +kernel
theorem dX8_readParameters_27 : decode cX8_readParameters 27 = .ok (.invokevirtual 45, 3) := by decide +kernel
theorem dX8_readParameters_30 : decode cX8_readParameters 30 = .ok (.istore_n 1, 1) := by decide +kernel
theorem dX8_readParameters_31 : decode cX8_readParameters 31 = .ok (.iinc 2 1, 3) := by decide +kernel
theorem dX8_readParameters_34 : decode cX8_readParameters 34 = .ok (.goto (-30), 3) := by decide +kernel
theorem dX8_readParameters_37 : decode cX8_readParameters 37 = .ok (.return_, 1) := by decide +kernel
theorem dX8_readMember_0 : decode cX8_readMember 0 = .ok (.aload_n 0, 1) := by decide +kernel
theorem dX8_readMember_1 : decode cX8_readMember 1 = .ok (.bipush 25, 2) := by decide +kernel
theorem dX8_readMember_3 : decode cX8_readMember 3 = .ok (.invokevirtual 45, 3) := by decide +kernel
theorem dX8_readMember_6 : decode cX8_readMember 6 = .ok (.istore_n 1, 1) := by decide +kernel
theorem dX8_readMember_7 : decode cX8_readMember 7 = .ok (.aload_n 0, 1) := by decide +kernel
theorem dX8_readMember_8 : decode cX8_readMember 8 = .ok (.bipush 30, 2) := by decide +kernel
theorem dX8_readMember_10 : decode cX8_readMember 10 = .ok (.invokevirtual 45, 3) := by decide +kernel
theorem dX8_readMember_13 : decode cX8_readMember 13 = .ok (.ifCond .eq 8, 3) := by decide +kernel
theorem dX8_readMember_16 : decode cX8_readMember 16 = .ok (.iconst 1, 1) := by decide +kernel
theorem dX8_readMember_17 : decode cX8_readMember 17 = .ok (.istore_n 1, 1) := by decide +kernel
theorem dX8_readMember_18 : decode cX8_readMember 18 = .ok (.goto 7, 3) := by decide +kernel
theorem dX8_readMember_21 : decode cX8_readMember 21 = .ok (.aload_n 0, 1) := by decide +kernel
theorem dX8_readMember_22 : decode cX8_readMember 22 = .ok (.invokevirtual 52, 3) := by decide +kernel
theorem dX8_readMember_25 : decode cX8_readMember 25 = .ok (.aload_n 0, 1) := by decide +kernel
theorem dX8_readMember_26 : decode cX8_readMember 26 = .ok (.iconst 2, 1) := by decide +kernel
theorem dX8_readMember_27 : decode cX8_readMember 27 = .ok (.invokevirtual 37, 3) := by decide +kernel
theorem dX8_readMember_30 : decode cX8_readMember 30 = .ok (.iload_n 1, 1) := by decide +kernel
theorem dX8_readMember_31 : decode cX8_readMember 31 = .ok (.ifCond .ne 13, 3) := by decide +kernel
theorem dX8_readMember_34 : decode cX8_readMember 34 = .ok (.aload_n 0, 1) := by decide +kernel
theorem dX8_readMember_35 : decode cX8_readMember 35 = .ok (.bipush 46, 2) := by decide +kernel
theorem dX8_readMember_37 : decode cX8_readMember 37 = .ok (.invokevirtual 45, 3) := by decide +kernel
theorem dX8_readMember_40 : decode cX8_readMember 40 = .ok (.ifCond .eq 4, 3) := by decide +kernel
theorem dX8_readMember_43 : decode cX8_readMember 43 = .ok (.return_, 1) := by decide +kernel
theorem dX8_readMember_44 : decode cX8_readMember 44 = .ok (.aload_n 0, 1) := by decide +kernel
theorem dX8_readMember_45 : decode cX8_readMember 45 = .ok (.bipush 40, 2) := by decide +kernel
theorem dX8_readMember_47 : decode cX8_readMember 47 = .ok (.invokevirtual 37, 3) := by decide +kernel
theorem dX8_readMember_50 : decode cX8_readMember 50 = .ok (.aload_n 0, 1) := by decide +kernel
theorem dX8_readMember_51 : decode cX8_readMember 51 = .ok (.getfield 7, 3) := by decide +kernel
theorem dX8_readMember_54 : decode cX8_readMember 54 = .ok (.invokevirtual 23, 3) := by decide +kernel
theorem dX8_readMember_57 : decode cX8_readMember 57 = .ok (.bipush 41, 2) := by decide +kernel
theorem dX8_readMember_59 : decode cX8_readMember 59 = .ok (.if_icmp .eq 7, 3) := by decide +kernel
theorem dX8_readMember_62 : decode cX8_readMember 62 = .ok (.aload_n 0, 1) := by decide +kernel
theorem dX8_readMember_63 : decode cX8_readMember 63 = .ok (.invokevirtual 55, 3) := by decide +kernel
theorem dX8_readMember_66 : decode cX8_readMember 66 = .ok (.aload_n 0, 1) := by decide +kernel
theorem dX8_readMember_67 : decode cX8_readMember 67 = .ok (.bipush 41, 2) := by decide +kernel
theorem dX8_readMember_69 : decode cX8_readMember 69 = .ok (.invokevirtual 37, 3) := by decide +kernel
theorem dX8_readMember_72 : decode cX8_readMember 72 = .ok (.aload_n 0, 1) := by decide +kernel
theorem dX8_readMember_73 : decode cX8_readMember 73 = .ok (.iconst 0, 1) := by decide +kernel
theorem dX8_readMember_74 : decode cX8_readMember 74 = .ok (.invokevirtual 58, 3) := by decide +kernel
theorem dX8_readMember_77 : decode cX8_readMember 77 = .ok (.return_, 1) := by decide +kernel
