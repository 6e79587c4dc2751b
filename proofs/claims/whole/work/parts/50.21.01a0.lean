theorem rs_RX6_93 : mx_res RX6 93 = some (1, 186, 0) := by decide +kernel
theorem rs_RX6_97 : mx_res RX6 97 = some (1, 190, 3) := by decide +kernel
theorem rs_RX6_101 : mx_res RX6 101 = some (6, 0, 0) := by decide +kernel
theorem mt_X6_closeImage : mx_mt 188 = some (yX6_closeImage, cX6_closeImage, 4, (some (.array .byte))) := rfl
theorem dX6_closeImage_0 : decode cX6_closeImage 0 = .ok (.aload_n 0, 1) := by decide +kernel
theorem dX6_closeImage_1 : decode cX6_closeImage 1 = .ok (.invokevirtual 93, 3) := by decide +kernel
theorem dX6_closeImage_4 : decode cX6_closeImage 4 = .ok (.ifCond .eq 7, 3) := by decide +kernel
theorem dX6_closeImage_7 : decode cX6_closeImage 7 = .ok (.iconst 0, 1) := by decide +kernel
theorem dX6_closeImage_8 : decode cX6_closeImage 8 = .ok (.newarray .byte, 2) := by decide +kernel
theorem dX6_closeImage_10 : decode cX6_closeImage 10 = .ok (.areturn, 1) := by decide +kernel
theorem dX6_closeImage_11 : decode cX6_closeImage 11 = .ok (.aload_n 0, 1) := by decide +kernel
theorem dX6_closeImage_12 : decode cX6_closeImage 12 = .ok (.invokevirtual 86, 3) := by decide +kernel
theorem dX6_closeImage_15 : decode cX6_closeImage 15 = .ok (.newarray .byte, 2) := by decide +kernel
theorem dX6_closeImage_17 : decode cX6_closeImage 17 = .ok (.astore_n 1, 1) := by decide +kernel
theorem dX6_closeImage_18 : decode cX6_closeImage 18 = .ok (.aload_n 1, 1) := by decide +kernel
theorem dX6_closeImage_19 : decode cX6_closeImage 19 = .ok (.iconst 0, 1) := by decide +kernel
theorem dX6_closeImage_20 : decode cX6_closeImage 20 = .ok (.bipush 74, 2) := by decide +kernel
theorem dX6_closeImage_22 : decode cX6_closeImage 22 = .ok (.bastore, 1) := by decide +kernel
theorem dX6_closeImage_23 : decode cX6_closeImage 23 = .ok (.aload_n 1, 1) := by decide +kernel
theorem dX6_closeImage_24 : decode cX6_closeImage 24 = .ok (.iconst 1, 1) := by decide +kernel
theorem dX6_closeImage_25 : decode cX6_closeImage 25 = .ok (.bipush 77, 2) := by decide +kernel
theorem dX6_closeImage_27 : decode cX6_closeImage 27 = .ok (.bastore, 1) := by decide +kernel
theorem dX6_closeImage_28 : decode cX6_closeImage 28 = .ok (.aload_n 1, 1) := by decide +kernel
theorem dX6_closeImage_29 : decode cX6_closeImage 29 = .ok (.iconst 2, 1) := by decide +kernel
theorem dX6_closeImage_30 : decode cX6_closeImage 30 = .ok (.aload_n 0, 1) := by decide +kernel
theorem dX6_closeImage_31 : decode cX6_closeImage 31 = .ok (.getfield 28, 3) := by decide +kernel
theorem dX6_closeImage_34 : decode cX6_closeImage 34 = .ok (.i2b, 1) := by decide +kernel
theorem dX6_closeImage_35 : decode cX6_closeImage 35 = .ok (.bastore, 1) := by decide +kernel
theorem dX6_closeImage_36 : decode cX6_closeImage 36 = .ok (.iconst 3, 1) := by decide +kernel
theorem dX6_closeImage_37 : decode cX6_closeImage 37 = .ok (.istore_n 2, 1) := by decide +kernel
theorem dX6_closeImage_38 : decode cX6_closeImage 38 = .ok (.iconst 1, 1) := by decide +kernel
theorem dX6_closeImage_39 : decode cX6_closeImage 39 = .ok (.istore_n 3, 1) := by decide +kernel
theorem dX6_closeImage_40 : decode cX6_closeImage 40 = .ok (.iload_n 3, 1) := by decide +kernel
theorem dX6_closeImage_41 : decode cX6_closeImage 41 = .ok (.aload_n 0, 1) := by decide +kernel
theorem dX6_closeImage_42 : decode cX6_closeImage 42 = .ok (.getfield 28, 3) := by decide +kernel
theorem dX6_closeImage_45 : decode cX6_closeImage 45 = .ok (.if_icmp .gt 35, 3) := by decide +kernel
theorem dX6_closeImage_48 : decode cX6_closeImage 48 = .ok (.aload_n 0, 1) := by decide +kernel
theorem dX6_closeImage_49 : decode cX6_closeImage 49 = .ok (.iload_n 3, 1) := by decide +kernel
theorem dX6_closeImage_50 : decode cX6_closeImage 50 = .ok (.aload_n 1, 1) := by decide +kernel
theorem dX6_closeImage_51 : decode cX6_closeImage 51 = .ok (.iload_n 2, 1) := by decide +kernel
theorem dX6_closeImage_52 : decode cX6_closeImage 52 = .ok (.invokevirtual 97, 3) := by decide +kernel
theorem dX6_closeImage_55 : decode cX6_closeImage 55 = .ok (.iload_n 2, 1) := by decide +kernel
theorem dX6_closeImage_56 : decode cX6_closeImage 56 = .ok (.aload_n 0, 1) := by decide +kernel
theorem dX6_closeImage_57 : decode cX6_closeImage 57 = .ok (.aload_n 0, 1) := by decide +kernel
theorem dX6_closeImage_58 : decode cX6_closeImage 58 = .ok (.getfield 9, 3) := by decide +kernel
theorem dX6_closeImage_61 : decode cX6_closeImage 61 = .ok (.iload_n 3, 1) := by decide +kernel
theorem dX6_closeImage_62 : decode cX6_closeImage 62 = .ok (.iaload, 1) := by decide +kernel
theorem dX6_closeImage_63 : decode cX6_closeImage 63 = .ok (.aload_n 0, 1) := by decide +kernel
theorem dX6_closeImage_64 : decode cX6_closeImage 64 = .ok (.getfield 13, 3) := by decide +kernel
theorem dX6_closeImage_67 : decode cX6_closeImage 67 = .ok (.iload_n 3, 1) := by decide +kernel
theorem dX6_closeImage_68 : decode cX6_closeImage 68 = .ok (.iaload, 1) := by decide +kernel
theorem dX6_closeImage_69 : decode cX6_closeImage 69 = .ok (.invokevirtual 90, 3) := by decide +kernel
theorem dX6_closeImage_72 : decode cX6_closeImage 72 = .ok (.iadd, 1) := by decide +kernel
theorem dX6_closeImage_73 : decode cX6_closeImage 73 = .ok (.istore_n 2, 1) := by decide +kernel
theorem dX6_closeImage_74 : decode cX6_closeImage 74 = .ok (.iinc 3 1, 3) := by decide +kernel
theorem dX6_closeImage_77 : decode cX6_closeImage 77 = .ok (.goto (-37), 3) := by decide +kernel
theorem dX6_closeImage_80 : decode cX6_closeImage 80 = .ok (.aload_n 0, 1) := by decide +kernel
theorem dX6_closeImage_81 : decode cX6_closeImage 81 = .ok (.getfield 16, 3) := by decide +kernel
theorem dX6_closeImage_84 : decode cX6_closeImage 84 = .ok (.iconst 0, 1) := by decide +kernel
theorem dX6_closeImage_85 : decode cX6_closeImage 85 = .ok (.aload_n 1, 1) := by decide +kernel
theorem dX6_closeImage_86 : decode cX6_closeImage 86 = .ok (.iload_n 2, 1) := by decide +kernel
theorem dX6_closeImage_87 : decode cX6_closeImage 87 = .ok (.aload_n 0, 1) := by decide +kernel
theorem dX6_closeImage_88 : decode cX6_closeImage 88 = .ok (.getfield 36, 3) := by decide +kernel
theorem dX6_closeImage_91 : decode cX6_closeImage 91 = .ok (.invokestatic 101, 3) := by decide +kernel
theorem dX6_closeImage_94 : decode cX6_closeImage 94 = .ok (.aload_n 1, 1) := by decide +kernel
theorem dX6_closeImage_95 : decode cX6_closeImage 95 = .ok (.areturn, 1) := by decide +kernel
theorem rs_RX0_26 : mx_res RX0 26 = some (0, 0, 6) := by decide +kernel
theorem rs_RX0_34 : mx_res RX0 34 = some (0, 0, 0) := by decide +kernel
theorem rs_RX0_38 : mx_res RX0 38 = some (0, 0, 1) := by decide +kernel
theorem rs_RX0_77 : mx_res RX0 77 = some (1, 186, 0) := by decide +kernel
theorem rs_RX0_81 : mx_res RX0 81 = some (1, 60, 1) := by decide +kernel
theorem rs_RX0_85 : mx_res RX0 85 = some (1, 5, 2) := by decide +kernel
theorem rs_RX0_89 : mx_res RX0 89 = some (0, 9, 11) := by decide +kernel
theorem rs_RX0_92 : mx_res RX0 92 = some (1, 188, 0) := by decide +kernel
theorem mt_X0_closeClass : mx_mt 7 = some (yX0_closeClass, cX0_closeClass, 2, none) := rfl
theorem dX0_closeClass_0 : decode cX0_closeClass 0 = .ok (.aload_n 0, 1) := by decide +kernel
theorem dX0_closeClass_1 : decode cX0_closeClass 1 = .ok (.aload_n 0, 1) := by decide +kernel
theorem dX0_closeClass_2 : decode cX0_closeClass 2 = .ok (.getfield 52, 3) := by decide +kernel
theorem dX0_closeClass_5 : decode cX0_closeClass 5 = .ok (.invokevirtual 77, 3) := by decide +kernel
theorem dX0_closeClass_8 : decode cX0_closeClass 8 = .ok (.aload_n 0, 1) := by decide +kernel
theorem dX0_closeClass_9 : decode cX0_closeClass 9 = .ok (.getfield 38, 3) := by decide +kernel
theorem dX0_closeClass_12 : decode cX0_closeClass 12 = .ok (.iload_n 1, 1) := by decide +kernel
theorem dX0_closeClass_13 : decode cX0_closeClass 13 = .ok (.invokevirtual 81, 3) := by decide +kernel
theorem dX0_closeClass_16 : decode cX0_closeClass 16 = .ok (.invokevirtual 85, 3) := by decide +kernel
theorem dX0_closeClass_19 : decode cX0_closeClass 19 = .ok (.aload_n 0, 1) := by decide +kernel
theorem dX0_closeClass_20 : decode cX0_closeClass 20 = .ok (.getfield 34, 3) := by decide +kernel
theorem dX0_closeClass_23 : decode cX0_closeClass 23 = .ok (.getfield 89, 3) := by decide +kernel
theorem dX0_closeClass_26 : decode cX0_closeClass 26 = .ok (.ifCond .ne 37, 3) := by decide +kernel
theorem dX0_closeClass_29 : decode cX0_closeClass 29 = .ok (.aload_n 0, 1) := by decide +kernel
theorem dX0_closeClass_30 : decode cX0_closeClass 30 = .ok (.getfield 65, 3) := by decide +kernel
theorem dX0_closeClass_33 : decode cX0_closeClass 33 = .ok (.iconst (-1), 1) := by decide +kernel
theorem dX0_closeClass_34 : decode cX0_closeClass 34 = .ok (.if_icmp .ne 29, 3) := by decide +kernel
theorem dX0_closeClass_37 : decode cX0_closeClass 37 = .ok (.iload_n 1, 1) := by decide +kernel
theorem dX0_closeClass_38 : decode cX0_closeClass 38 = .ok (.ifCond .lt 25, 3) := by decide +kernel
theorem dX0_closeClass_41 : decode cX0_closeClass 41 = .ok (.iload_n 1, 1) := by decide +kernel
theorem dX0_closeClass_42 : decode cX0_closeClass 42 = .ok (.aload_n 0, 1) := by decide +kernel
theorem dX0_closeClass_43 : decode cX0_closeClass 43 = .ok (.getfield 26, 3) := by decide +kernel
theorem dX0_closeClass_46 : decode cX0_closeClass 46 = .ok (.arraylength, 1) := by decide +kernel
theorem dX0_closeClass_47 : decode cX0_closeClass 47 = .ok (.if_icmp .ge 16, 3) := by decide +kernel
theorem dX0_closeClass_50 : decode cX0_closeClass 50 = .ok (.aload_n 0, 1) := by decide +kernel
theorem dX0_closeClass_51 : decode cX0_closeClass 51 = .ok (.getfield 26, 3) := by decide +kernel
theorem dX0_closeClass_54 : decode cX0_closeClass 54 = .ok (.iload_n 1, 1) := by decide +kernel
theorem dX0_closeClass_55 : decode cX0_closeClass 55 = .ok (.aload_n 0, 1) := by decide +kernel
theorem dX0_closeClass_56 : decode cX0_closeClass 56 = .ok (.getfield 52, 3) := by decide +kernel
theorem dX0_closeClass_59 : decode cX0_closeClass 59 = .ok (.invokevirtual 92, 3) := by decide +kernel
theorem dX0_closeClass_62 : decode cX0_closeClass 62 = .ok (.aastore, 1) := by decide +kernel
theorem dX0_closeClass_63 : decode cX0_closeClass 63 = .ok (.return_, 1) := by decide +kernel
theorem rs_RX9_19 : mx_res RX9 19 = some (0, 9, 1) := by decide +kernel
theorem rs_RX9_41 : mx_res RX9 41 = some (0, 9, 12) := by decide +kernel
theorem rs_RX9_80 : mx_res RX9 80 = some (0, 9, 11) := by decide +kernel
theorem rs_RX9_83 : mx_res RX9 83 = some (0, 9, 3) := by decide +kernel
theorem ft_9_11 : mx_fty 9 11 = some (.int, false, "ClassMill$Text") := by decide +kernel
theorem ft_9_12 : mx_fty 9 12 = some (.int, false, "ClassMill$Text") := by decide +kernel
theorem mt_X9_tell : mx_mt 245 = some (yX9_tell, cX9_tell, 3, none) := rfl
theorem dX9_tell_0 : decode cX9_tell 0 = .ok (.aload_n 0, 1) := by decide +kernel
theorem dX9_tell_1 : decode cX9_tell 1 = .ok (.getfield 80, 3) := by decide +kernel
theorem dX9_tell_4 : decode cX9_tell 4 = .ok (.ifCond .ne 30, 3) := by decide +kernel
theorem dX9_tell_7 : decode cX9_tell 7 = .ok (.iload_n 2, 1) := by decide +kernel
theorem dX9_tell_8 : decode cX9_tell 8 = .ok (.ifCond .lt 26, 3) := by decide +kernel
theorem dX9_tell_11 : decode cX9_tell 11 = .ok (.iload_n 2, 1) := by decide +kernel
theorem dX9_tell_12 : decode cX9_tell 12 = .ok (.aload_n 0, 1) := by decide +kernel
theorem dX9_tell_13 : decode cX9_tell 13 = .ok (.getfield 83, 3) := by decide +kernel
theorem dX9_tell_16 : decode cX9_tell 16 = .ok (.if_icmp .ge 18, 3) := by decide +kernel
theorem dX9_tell_19 : decode cX9_tell 19 = .ok (.aload_n 0, 1) := by decide +kernel
theorem dX9_tell_20 : decode cX9_tell 20 = .ok (.iload_n 1, 1) := by decide +kernel
theorem dX9_tell_21 : decode cX9_tell 21 = .ok (.putfield 80, 3) := by decide +kernel
theorem dX9_tell_24 : decode cX9_tell 24 = .ok (.aload_n 0, 1) := by decide +kernel
theorem dX9_tell_25 : decode cX9_tell 25 = .ok (.aload_n 0, 1) := by decide +kernel
theorem dX9_tell_26 : decode cX9_tell 26 = .ok (.getfield 19, 3) := by decide +kernel
theorem dX9_tell_29 : decode cX9_tell 29 = .ok (.iload_n 2, 1) := by decide +kernel
theorem dX9_tell_30 : decode cX9_tell 30 = .ok (.iaload, 1) := by decide +kernel
theorem dX9_tell_31 : decode cX9_tell 31 = .ok (.putfield 41, 3) := by decide +kernel
theorem dX9_tell_34 : decode cX9_tell 34 = .ok (.return_, 1) := by decide +kernel
theorem rs_RX0_69 : mx_res RX0 69 = some (1, 245, 2) := by decide +kernel
theorem mt_X0_closeProgram : mx_mt 4 = some (yX0_closeProgram, cX0_closeProgram, 1, none) := rfl
theorem dX0_closeProgram_0 : decode cX0_closeProgram 0 = .ok (.aload_n 0, 1) := by decide +kernel
theorem dX0_closeProgram_1 : decode cX0_closeProgram 1 = .ok (.getfield 65, 3) := by decide +kernel
theorem dX0_closeProgram_4 : decode cX0_closeProgram 4 = .ok (.iconst (-1), 1) := by decide +kernel
theorem dX0_closeProgram_5 : decode cX0_closeProgram 5 = .ok (.if_icmp .eq 16, 3) := by decide +kernel
theorem dX0_closeProgram_8 : decode cX0_closeProgram 8 = .ok (.aload_n 0, 1) := by decide +kernel
theorem dX0_closeProgram_9 : decode cX0_closeProgram 9 = .ok (.getfield 34, 3) := by decide +kernel
theorem dX0_closeProgram_12 : decode cX0_closeProgram 12 = .ok (.bipush 11, 2) := by decide +kernel
theorem dX0_closeProgram_14 : decode cX0_closeProgram 14 = .ok (.aload_n 0, 1) := by decide +kernel
theorem dX0_closeProgram_15 : decode cX0_closeProgram 15 = .ok (.getfield 65, 3) := by decide +kernel
theorem dX0_closeProgram_18 : decode cX0_closeProgram 18 = .ok (.invokevirtual 69, 3) := by decide +kernel
theorem dX0_closeProgram_21 : decode cX0_closeProgram 21 = .ok (.return_, 1) := by decide +kernel
theorem mt_X10_arithmeticOp : mx_mt 284 = some (yX10_arithmeticOp, cX10_arithmeticOp, 1, (some .int)) := rfl
theorem dX10_arithmeticOp_0 : decode cX10_arithmeticOp 0 = .ok (.iload_n 0, 1) := by decide +kernel
theorem dX10_arithmeticOp_1 : decode cX10_arithmeticOp 1 = .ok (.tableswitch 90 58 68 #[74, 77, 80, 59, 62, 65, 68, 71, 83, 90, 86], 59) := by decide +kernel
theorem dX10_arithmeticOp_60 : decode cX10_arithmeticOp 60 = .ok (.bipush 96, 2) := by decide +kernel
theorem dX10_arithmeticOp_62 : decode cX10_arithmeticOp 62 = .ok (.ireturn, 1) := by decide +kernel
theorem dX10_arithmeticOp_63 : decode cX10_arithmeticOp 63 = .ok (.bipush 100, 2) := by decide +kernel
theorem dX10_arithmeticOp_65 : decode cX10_arithmeticOp 65 = .ok (.ireturn, 1) := by decide +kernel
theorem dX10_arithmeticOp_66 : decode cX10_arithmeticOp 66 = .ok (.bipush 104, 2) := by decide +kernel
theorem dX10_arithmeticOp_68 : decode cX10_arithmeticOp 68 = .ok (.ireturn, 1) := by decide +kernel
theorem dX10_arithmeticOp_69 : decode cX10_arithmeticOp 69 = .ok (.bipush 108, 2) := by decide +kernel
theorem dX10_arithmeticOp_71 : decode cX10_arithmeticOp 71 = .ok (.ireturn, 1) := by decide +kernel
theorem dX10_arithmeticOp_72 : decode cX10_arithmeticOp 72 = .ok (.bipush 112, 2) := by decide +kernel
theorem dX10_arithmeticOp_74 : decode cX10_arithmeticOp 74 = .ok (.ireturn, 1) := by decide +kernel
theorem dX10_arithmeticOp_75 : decode cX10_arithmeticOp 75 = .ok (.bipush 120, 2) := by decide +kernel
theorem dX10_arithmeticOp_77 : decode cX10_arithmeticOp 77 = .ok (.ireturn, 1) := by decide +kernel
theorem dX10_arithmeticOp_78 : decode cX10_arithmeticOp 78 = .ok (.bipush 122, 2) := by decide +kernel
theorem dX10_arithmeticOp_80 : decode cX10_arithmeticOp 80 = .ok (.ireturn, 1) := by decide +kernel
theorem dX10_arithmeticOp_81 : decode cX10_arithmeticOp 81 = .ok (.bipush 124, 2) := by decide +kernel
theorem dX10_arithmeticOp_83 : decode cX10_arithmeticOp 83 = .ok (.ireturn, 1) := by decide +kernel
theorem dX10_arithmeticOp_84 : decode cX10_arithmeticOp 84 = .ok (.bipush 126, 2) := by decide +kernel
theorem dX10_arithmeticOp_86 : decode cX10_arithmeticOp 86 = .ok (.ireturn, 1) := by decide +kernel
theorem dX10_arithmeticOp_87 : decode cX10_arithmeticOp 87 = .ok (.sipush 128, 3) := by decide +kernel
theorem dX10_arithmeticOp_90 : decode cX10_arithmeticOp 90 = .ok (.ireturn, 1) := by decide +kernel
theorem dX10_arithmeticOp_91 : decode cX10_arithmeticOp 91 = .ok (.sipush 130, 3) := by decide +kernel
theorem dX10_arithmeticOp_94 : decode cX10_arithmeticOp 94 = .ok (.ireturn, 1) := by decide +kernel
theorem rs_RX10_31 : mx_res RX10 31 = some (0, 10, 0) := by decide +kernel
theorem rs_RX10_165 : mx_res RX10 165 = some (1, 245, 2) := by decide +kernel
theorem mt_X10_wantType : mx_mt 281 = some (yX10_wantType, cX10_wantType, 3, none) := rfl
theorem dX10_wantType_0 : decode cX10_wantType 0 = .ok (.iload_n 1, 1) := by decide +kernel
theorem dX10_wantType_1 : decode cX10_wantType 1 = .ok (.ifCond .ne 13, 3) := by decide +kernel
theorem dX10_wantType_4 : decode cX10_wantType 4 = .ok (.aload_n 0, 1) := by decide +kernel
theorem dX10_wantType_5 : decode cX10_wantType 5 = .ok (.getfield 31, 3) := by decide +kernel
theorem dX10_wantType_8 : decode cX10_wantType 8 = .ok (.bipush 6, 2) := by decide +kernel
theorem dX10_wantType_10 : decode cX10_wantType 10 = .ok (.iload_n 2, 1) := by decide +kernel
theorem dX10_wantType_11 : decode cX10_wantType 11 = .ok (.invokevirtual 165, 3) := by decide +kernel
theorem dX10_wantType_14 : decode cX10_wantType 14 = .ok (.return_, 1) := by decide +kernel
theorem rs_RX1_13 : mx_res RX1 13 = some (0, 1, 0) := by decide +kernel
theorem mt_X1_aimAt : mx_mt 38 = some (yX1_aimAt, cX1_aimAt, 4, none) := rfl
theorem dX1_aimAt_0 : decode cX1_aimAt 0 = .ok (.iload_n 2, 1) := by decide +kernel
theorem dX1_aimAt_1 : decode cX1_aimAt 1 = .ok (.iload_n 1, 1) := by decide +kernel
theorem dX1_aimAt_2 : decode cX1_aimAt 2 = .ok (.isub, 1) := by decide +kernel
theorem dX1_aimAt_3 : decode cX1_aimAt 3 = .ok (.istore_n 3, 1) := by decide +kernel
theorem dX1_aimAt_4 : decode cX1_aimAt 4 = .ok (.iload_n 1, 1) := by decide +kernel
theorem dX1_aimAt_5 : decode cX1_aimAt 5 = .ok (.ifCond .lt 37, 3) := by decide +kernel
theorem dX1_aimAt_8 : decode cX1_aimAt 8 = .ok (.iload_n 1, 1) := by decide +kernel
theorem dX1_aimAt_9 : decode cX1_aimAt 9 = .ok (.iconst 2, 1) := by decide +kernel
theorem dX1_aimAt_10 : decode cX1_aimAt 10 = .ok (.iadd, 1) := by decide +kernel
theorem dX1_aimAt_11 : decode cX1_aimAt 11 = .ok (.aload_n 0, 1) := by decide +kernel
theorem dX1_aimAt_12 : decode cX1_aimAt 12 = .ok (.getfield 13, 3) := by decide +kernel
theorem dX1_aimAt_15 : decode cX1_aimAt 15 = .ok (.arraylength, 1) := by decide +kernel
theorem dX1_aimAt_16 : decode cX1_aimAt 16 = .ok (.if_icmp .ge 26, 3) := by decide +kernel
theorem dX1_aimAt_19 : decode cX1_aimAt 19 = .ok (.aload_n 0, 1) := by decide +kernel
theorem dX1_aimAt_20 : decode cX1_aimAt 20 = .ok (.getfield 13, 3) := by decide +kernel
theorem dX1_aimAt_23 : decode cX1_aimAt 23 = .ok (.iload_n 1, 1) := by decide +kernel
theorem dX1_aimAt_24 : decode cX1_aimAt 24 = .ok (.iconst 1, 1) := by decide +kernel
theorem dX1_aimAt_25 : decode cX1_aimAt 25 = .ok (.iadd, 1) := by decide +kernel
theorem dX1_aimAt_26 : decode cX1_aimAt 26 = .ok (.iload_n 3, 1) := by decide +kernel
theorem dX1_aimAt_27 : decode cX1_aimAt 27 = .ok (.bipush 8, 2) := by decide +kernel
theorem dX1_aimAt_29 : decode cX1_aimAt 29 = .ok (.ishr, 1) := by decide +kernel
theorem dX1_aimAt_30 : decode cX1_aimAt 30 = .ok (.i2b, 1) := by decide +kernel
theorem dX1_aimAt_31 : decode cX1_aimAt 31 = .ok (.bastore, 1) := by decide +kernel
theorem dX1_aimAt_32 : decode cX1_aimAt 32 = .ok (.aload_n 0, 1) := by decide +kernel
theorem dX1_aimAt_33 : decode cX1_aimAt 33 = .ok (.getfield 13, 3) := by decide +kernel
theorem dX1_aimAt_36 : decode cX1_aimAt 36 = .ok (.iload_n 1, 1) := by decide +kernel
theorem dX1_aimAt_37 : decode cX1_aimAt 37 = .ok (.iconst 2, 1) := by decide +kernel
theorem dX1_aimAt_38 : decode cX1_aimAt 38 = .ok (.iadd, 1) := by decide +kernel
theorem dX1_aimAt_39 : decode cX1_aimAt 39 = .ok (.iload_n 3, 1) := by decide +kernel
theorem dX1_aimAt_40 : decode cX1_aimAt 40 = .ok (.i2b, 1) := by decide +kernel
theorem dX1_aimAt_41 : decode cX1_aimAt 41 = .ok (.bastore, 1) := by decide +kernel
theorem dX1_aimAt_42 : decode cX1_aimAt 42 = .ok (.return_, 1) := by decide +kernel
theorem rs_RX1_17 : mx_res RX1 17 = some (0, 1, 2) := by decide +kernel
theorem rs_RX1_24 : mx_res RX1 24 = some (0, 1, 6) := by decide +kernel
theorem rs_RX1_33 : mx_res RX1 33 = some (0, 1, 12) := by decide +kernel
theorem rs_RX1_61 : mx_res RX1 61 = some (0, 1, 15) := by decide +kernel
theorem rs_RX1_110 : mx_res RX1 110 = some (6, 0, 0) := by decide +kernel
theorem ft_1_15 : mx_fty 1 15 = some (.boolean, false, "ClassMill$Code") := by decide +kernel
theorem mt_X1_fillFrame : mx_mt 41 = some (yX1_fillFrame, cX1_fillFrame, 5, none) := rfl
theorem dX1_fillFrame_0 : decode cX1_fillFrame 0 = .ok (.iload_n 1, 1) := by decide +kernel
theorem dX1_fillFrame_1 : decode cX1_fillFrame 1 = .ok (.bipush 52, 2) := by decide +kernel
theorem dX1_fillFrame_3 : decode cX1_fillFrame 3 = .ok (.imul, 1) := by decide +kernel
theorem dX1_fillFrame_4 : decode cX1_fillFrame 4 = .ok (.istore 4, 2) := by decide +kernel
theorem dX1_fillFrame_6 : decode cX1_fillFrame 6 = .ok (.iload_n 1, 1) := by decide +kernel
theorem dX1_fillFrame_7 : decode cX1_fillFrame 7 = .ok (.iconst (-1), 1) := by decide +kernel
theorem dX1_fillFrame_8 : decode cX1_fillFrame 8 = .ok (.if_icmp .eq 15, 3) := by decide +kernel
theorem dX1_fillFrame_11 : decode cX1_fillFrame 11 = .ok (.iload_n 2, 1) := by decide +kernel
theorem dX1_fillFrame_12 : decode cX1_fillFrame 12 = .ok (.bipush 30, 2) := by decide +kernel
theorem dX1_fillFrame_14 : decode cX1_fillFrame 14 = .ok (.if_icmp .gt 9, 3) := by decide +kernel
theorem dX1_fillFrame_17 : decode cX1_fillFrame 17 = .ok (.iload_n 3, 1) := by decide +kernel
theorem dX1_fillFrame_18 : decode cX1_fillFrame 18 = .ok (.bipush 20, 2) := by decide +kernel
theorem dX1_fillFrame_20 : decode cX1_fillFrame 20 = .ok (.if_icmp .le 9, 3) := by decide +kernel
theorem dX1_fillFrame_23 : decode cX1_fillFrame 23 = .ok (.aload_n 0, 1) := by decide +kernel
theorem dX1_fillFrame_24 : decode cX1_fillFrame 24 = .ok (.iconst 1, 1) := by decide +kernel
theorem dX1_fillFrame_25 : decode cX1_fillFrame 25 = .ok (.putfield 61, 3) := by decide +kernel
theorem dX1_fillFrame_28 : decode cX1_fillFrame 28 = .ok (.return_, 1) := by decide +kernel
theorem dX1_fillFrame_29 : decode cX1_fillFrame 29 = .ok (.aload_n 0, 1) := by decide +kernel
theorem dX1_fillFrame_30 : decode cX1_fillFrame 30 = .ok (.getfield 33, 3) := by decide +kernel
theorem dX1_fillFrame_33 : decode cX1_fillFrame 33 = .ok (.iload 4, 2) := by decide +kernel
theorem dX1_fillFrame_35 : decode cX1_fillFrame 35 = .ok (.iload_n 2, 1) := by decide +kernel
theorem dX1_fillFrame_36 : decode cX1_fillFrame 36 = .ok (.iastore, 1) := by decide +kernel
theorem dX1_fillFrame_37 : decode cX1_fillFrame 37 = .ok (.aload_n 0, 1) := by decide +kernel
theorem dX1_fillFrame_38 : decode cX1_fillFrame 38 = .ok (.getfield 33, 3) := by decide +kernel
theorem dX1_fillFrame_41 : decode cX1_fillFrame 41 = .ok (.iload 4, 2) := by decide +kernel
theorem dX1_fillFrame_43 : decode cX1_fillFrame 43 = .ok (.iconst 1, 1) := by decide +kernel
theorem dX1_fillFrame_44 : decode cX1_fillFrame 44 = .ok (.iadd, 1) := by decide +kernel
theorem dX1_fillFrame_45 : decode cX1_fillFrame 45 = .ok (.iload_n 3, 1) := by decide +kernel
theorem dX1_fillFrame_46 : decode cX1_fillFrame 46 = .ok (.iastore, 1) := by decide +kernel
theorem dX1_fillFrame_47 : decode cX1_fillFrame 47 = .ok (.aload_n 0, 1) := by decide +kernel
theorem dX1_fillFrame_48 : decode cX1_fillFrame 48 = .ok (.getfield 24, 3) := by decide +kernel
theorem dX1_fillFrame_51 : decode cX1_fillFrame 51 = .ok (.iconst 0, 1) := by decide +kernel
theorem dX1_fillFrame_52 : decode cX1_fillFrame 52 = .ok (.aload_n 0, 1) := by decide +kernel
theorem dX1_fillFrame_53 : decode cX1_fillFrame 53 = .ok (.getfield 33, 3) := by decide +kernel
theorem dX1_fillFrame_56 : decode cX1_fillFrame 56 = .ok (.iload 4, 2) := by decide +kernel
theorem dX1_fillFrame_58 : decode cX1_fillFrame 58 = .ok (.iconst 2, 1) := by decide +kernel
theorem dX1_fillFrame_59 : decode cX1_fillFrame 59 = .ok (.iadd, 1) := by decide +kernel
theorem dX1_fillFrame_60 : decode cX1_fillFrame 60 = .ok (.iload_n 2, 1) := by decide +kernel
theorem dX1_fillFrame_61 : decode cX1_fillFrame 61 = .ok (.invokestatic 110, 3) := by decide +kernel
theorem dX1_fillFrame_64 : decode cX1_fillFrame 64 = .ok (.aload_n 0, 1) := by decide +kernel
theorem dX1_fillFrame_65 : decode cX1_fillFrame 65 = .ok (.getfield 17, 3) := by decide +kernel
theorem dX1_fillFrame_68 : decode cX1_fillFrame 68 = .ok (.iconst 0, 1) := by decide +kernel
theorem dX1_fillFrame_69 : decode cX1_fillFrame 69 = .ok (.aload_n 0, 1) := by decide +kernel
theorem dX1_fillFrame_70 : decode cX1_fillFrame 70 = .ok (.getfield 33, 3) := by decide +kernel
theorem dX1_fillFrame_73 : decode cX1_fillFrame 73 = .ok (.iload 4, 2) := by decide +kernel
theorem dX1_fillFrame_75 : decode cX1_fillFrame 75 = .ok (.iconst 2, 1) := by decide +kernel
theorem dX1_fillFrame_76 : decode cX1_fillFrame 76 = .ok (.iadd, 1) := by decide +kernel
theorem dX1_fillFrame_77 : decode cX1_fillFrame 77 = .ok (.iload_n 2, 1) := by decide +kernel
theorem dX1_fillFrame_78 : decode cX1_fillFrame 78 = .ok (.iadd, 1) := by decide +kernel
theorem dX1_fillFrame_79 : decode cX1_fillFrame 79 = .ok (.iload_n 3, 1) := by decide +kernel
theorem dX1_fillFrame_80 : decode cX1_fillFrame 80 = .ok (.invokestatic 110, 3) := by decide +kernel
theorem dX1_fillFrame_83 : decode cX1_fillFrame 83 = .ok (.return_, 1) := by decide +kernel
theorem rs_RX1_30 : mx_res RX1 30 = some (0, 1, 11) := by decide +kernel
theorem rs_RX1_36 : mx_res RX1 36 = some (0, 1, 13) := by decide +kernel
theorem rs_RX1_58 : mx_res RX1 58 = some (0, 1, 14) := by decide +kernel
theorem ft_1_14 : mx_fty 1 14 = some (.int, false, "ClassMill$Code") := by decide +kernel
theorem mt_X1_slotOfFrame : mx_mt 42 = some (yX1_slotOfFrame, cX1_slotOfFrame, 3, (some .int)) := rfl
theorem dX1_slotOfFrame_0 : decode cX1_slotOfFrame 0 = .ok (.aload_n 0, 1) := by decide +kernel
theorem dX1_slotOfFrame_1 : decode cX1_slotOfFrame 1 = .ok (.getfield 58, 3) := by decide +kernel
theorem dX1_slotOfFrame_4 : decode cX1_slotOfFrame 4 = .ok (.istore_n 2, 1) := by decide +kernel
theorem dX1_slotOfFrame_5 : decode cX1_slotOfFrame 5 = .ok (.iload_n 2, 1) := by decide +kernel
theorem dX1_slotOfFrame_6 : decode cX1_slotOfFrame 6 = .ok (.ifCond .le 26, 3) := by decide +kernel
theorem dX1_slotOfFrame_9 : decode cX1_slotOfFrame 9 = .ok (.aload_n 0, 1) := by decide +kernel
theorem dX1_slotOfFrame_10 : decode cX1_slotOfFrame 10 = .ok (.getfield 30, 3) := by decide +kernel
theorem dX1_slotOfFrame_13 : decode cX1_slotOfFrame 13 = .ok (.aload_n 0, 1) := by decide +kernel
theorem dX1_slotOfFrame_14 : decode cX1_slotOfFrame 14 = .ok (.getfield 36, 3) := by decide +kernel
theorem dX1_slotOfFrame_17 : decode cX1_slotOfFrame 17 = .ok (.iload_n 2, 1) := by decide +kernel
theorem dX1_slotOfFrame_18 : decode cX1_slotOfFrame 18 = .ok (.iconst 1, 1) := by decide +kernel
theorem dX1_slotOfFrame_19 : decode cX1_slotOfFrame 19 = .ok (.isub, 1) := by decide +kernel
theorem dX1_slotOfFrame_20 : decode cX1_slotOfFrame 20 = .ok (.iaload, 1) := by decide +kernel
theorem dX1_slotOfFrame_21 : decode cX1_slotOfFrame 21 = .ok (.iaload, 1) := by decide +kernel
theorem dX1_slotOfFrame_22 : decode cX1_slotOfFrame 22 = .ok (.iload_n 1, 1) := by decide +kernel
theorem dX1_slotOfFrame_23 : decode cX1_slotOfFrame 23 = .ok (.if_icmp .le 9, 3) := by decide +kernel
theorem dX1_slotOfFrame_26 : decode cX1_slotOfFrame 26 = .ok (.iinc 2 (-1), 3) := by decide +kernel
theorem dX1_slotOfFrame_29 : decode cX1_slotOfFrame 29 = .ok (.goto (-24), 3) := by decide +kernel
theorem dX1_slotOfFrame_32 : decode cX1_slotOfFrame 32 = .ok (.iload_n 2, 1) := by decide +kernel
theorem dX1_slotOfFrame_33 : decode cX1_slotOfFrame 33 = .ok (.ifCond .le 29, 3) := by decide +kernel
theorem dX1_slotOfFrame_36 : decode cX1_slotOfFrame 36 = .ok (.aload_n 0, 1) := by decide +kernel
theorem dX1_slotOfFrame_37 : decode cX1_slotOfFrame 37 = .ok (.getfield 30, 3) := by decide +kernel
theorem dX1_slotOfFrame_40 : decode cX1_slotOfFrame 40 = .ok (.aload_n 0, 1) := by decide +kernel
theorem dX1_slotOfFrame_41 : decode cX1_slotOfFrame 41 = .ok (.getfield 36, 3) := by decide +kernel
theorem dX1_slotOfFrame_44 : decode cX1_slotOfFrame 44 = .ok (.iload_n 2, 1) := by decide +kernel
theorem dX1_slotOfFrame_45 : decode cX1_slotOfFrame 45 = .ok (.iconst 1, 1) := by decide +kernel
theorem dX1_slotOfFrame_46 : decode cX1_slotOfFrame 46 = .ok (.isub, 1) := by decide +kernel
theorem dX1_slotOfFrame_47 : decode cX1_slotOfFrame 47 = .ok (.iaload, 1) := by decide +kernel
theorem dX1_slotOfFrame_48 : decode cX1_slotOfFrame 48 = .ok (.iaload, 1) := by decide +kernel
theorem dX1_slotOfFrame_49 : decode cX1_slotOfFrame 49 = .ok (.iload_n 1, 1) := by decide +kernel
theorem dX1_slotOfFrame_50 : decode cX1_slotOfFrame 50 = .ok (.if_icmp .ne 12, 3) := by decide +kernel
theorem dX1_slotOfFrame_53 : decode cX1_slotOfFrame 53 = .ok (.aload_n 0, 1) := by decide +kernel
theorem dX1_slotOfFrame_54 : decode cX1_slotOfFrame 54 = .ok (.getfield 36, 3) := by decide +kernel
theorem dX1_slotOfFrame_57 : decode cX1_slotOfFrame 57 = .ok (.iload_n 2, 1) := by decide +kernel
theorem dX1_slotOfFrame_58 : decode cX1_slotOfFrame 58 = .ok (.iconst 1, 1) := by decide +kernel
theorem dX1_slotOfFrame_59 : decode cX1_slotOfFrame 59 = .ok (.isub, 1) := by decide +kernel
theorem dX1_slotOfFrame_60 : decode cX1_slotOfFrame 60 = .ok (.iaload, 1) := by decide +kernel
theorem dX1_slotOfFrame_61 : decode cX1_slotOfFrame 61 = .ok (.ireturn, 1) := by decide +kernel
theorem dX1_slotOfFrame_62 : decode cX1_slotOfFrame 62 = .ok (.aload_n 0, 1) := by decide +kernel
theorem dX1_slotOfFrame_63 : decode cX1_slotOfFrame 63 = .ok (.getfield 58, 3) := by decide +kernel
theorem dX1_slotOfFrame_66 : decode cX1_slotOfFrame 66 = .ok (.bipush 100, 2) := by decide +kernel
theorem dX1_slotOfFrame_68 : decode cX1_slotOfFrame 68 = .ok (.if_icmp .lt 5, 3) := by decide +kernel
theorem dX1_slotOfFrame_71 : decode cX1_slotOfFrame 71 = .ok (.iconst (-1), 1) := by decide +kernel
theorem dX1_slotOfFrame_72 : decode cX1_slotOfFrame 72 = .ok (.ireturn, 1) := by decide +kernel
theorem dX1_slotOfFrame_73 : decode cX1_slotOfFrame 73 = .ok (.aload_n 0, 1) := by decide +kernel
theorem dX1_slotOfFrame_74 : decode cX1_slotOfFrame 74 = .ok (.getfield 36, 3) := by decide +kernel
theorem dX1_slotOfFrame_77 : decode cX1_slotOfFrame 77 = .ok (.iload_n 2, 1) := by decide +kernel
theorem dX1_slotOfFrame_78 : decode cX1_slotOfFrame 78 = .ok (.aload_n 0, 1) := by decide +kernel
theorem dX1_slotOfFrame_79 : decode cX1_slotOfFrame 79 = .ok (.getfield 36, 3) := by decide +kernel
theorem dX1_slotOfFrame_82 : decode cX1_slotOfFrame 82 = .ok (.iload_n 2, 1) := by decide +kernel
theorem dX1_slotOfFrame_83 : decode cX1_slotOfFrame 83 = .ok (.iconst 1, 1) := by decide +kernel
theorem dX1_slotOfFrame_84 : decode cX1_slotOfFrame 84 = .ok (.iadd, 1) := by decide +kernel
theorem dX1_slotOfFrame_85 : decode cX1_slotOfFrame 85 = .ok (.aload_n 0, 1) := by decide +kernel
theorem dX1_slotOfFrame_86 : decode cX1_slotOfFrame 86 = .ok (.getfield 58, 3) := by decide +kernel
theorem dX1_slotOfFrame_89 : decode cX1_slotOfFrame 89 = .ok (.iload_n 2, 1) := by decide +kernel
theorem dX1_slotOfFrame_90 : decode cX1_slotOfFrame 90 = .ok (.isub, 1) := by decide +kernel
theorem dX1_slotOfFrame_91 : decode cX1_slotOfFrame 91 = .ok (.invokestatic 110, 3) := by decide +kernel
theorem dX1_slotOfFrame_94 : decode cX1_slotOfFrame 94 = .ok (.aload_n 0, 1) := by decide +kernel
theorem dX1_slotOfFrame_95 : decode cX1_slotOfFrame 95 = .ok (.getfield 36, 3) := by decide +kernel
theorem dX1_slotOfFrame_98 : decode cX1_slotOfFrame 98 = .ok (.iload_n 2, 1) := by decide +kernel
theorem dX1_slotOfFrame_99 : decode cX1_slotOfFrame 99 = .ok (.aload_n 0, 1) := by decide +kernel
theorem dX1_slotOfFrame_100 : decode cX1_slotOfFrame 100 = .ok (.getfield 58, 3) := by decide +kernel
theorem dX1_slotOfFrame_103 : decode cX1_slotOfFrame 103 = .ok (.iastore, 1) := by decide +kernel
theorem dX1_slotOfFrame_104 : decode cX1_slotOfFrame 104 = .ok (.aload_n 0, 1) := by decide +kernel
theorem dX1_slotOfFrame_105 : decode cX1_slotOfFrame 105 = .ok (.getfield 30, 3) := by decide +kernel
theorem dX1_slotOfFrame_108 : decode cX1_slotOfFrame 108 = .ok (.aload_n 0, 1) := by decide +kernel
theorem dX1_slotOfFrame_109 : decode cX1_slotOfFrame 109 = .ok (.getfield 58, 3) := by decide +kernel
theorem dX1_slotOfFrame_112 : decode cX1_slotOfFrame 112 = .ok (.iload_n 1, 1) := by decide +kernel
theorem dX1_slotOfFrame_113 : decode cX1_slotOfFrame 113 = .ok (.iastore, 1) := by decide +kernel
theorem dX1_slotOfFrame_114 : decode cX1_slotOfFrame 114 = .ok (.aload_n 0, 1) := by decide +kernel
theorem dX1_slotOfFrame_115 : decode cX1_slotOfFrame 115 = .ok (.dup, 1) := by decide +kernel
theorem dX1_slotOfFrame_116 : decode cX1_slotOfFrame 116 = .ok (.getfield 58, 3) := by decide +kernel
theorem dX1_slotOfFrame_119 : decode cX1_slotOfFrame 119 = .ok (.iconst 1, 1) := by decide +kernel
theorem dX1_slotOfFrame_120 : decode cX1_slotOfFrame 120 = .ok (.iadd, 1) := by decide +kernel
theorem dX1_slotOfFrame_121 : decode cX1_slotOfFrame 121 = .ok (.putfield 58, 3) := by decide +kernel
theorem dX1_slotOfFrame_124 : decode cX1_slotOfFrame 124 = .ok (.aload_n 0, 1) := by decide +kernel
theorem dX1_slotOfFrame_125 : decode cX1_slotOfFrame 125 = .ok (.getfield 36, 3) := by decide +kernel
theorem dX1_slotOfFrame_128 : decode cX1_slotOfFrame 128 = .ok (.iload_n 2, 1) := by decide +kernel
theorem dX1_slotOfFrame_129 : decode cX1_slotOfFrame 129 = .ok (.iaload, 1) := by decide +kernel
theorem dX1_slotOfFrame_130 : decode cX1_slotOfFrame 130 = .ok (.ireturn, 1) := by decide +kernel
theorem rs_RX1_39 : mx_res RX1 39 = some (0, 1, 1) := by decide +kernel
theorem rs_RX1_43 : mx_res RX1 43 = some (0, 1, 3) := by decide +kernel
theorem rs_RX1_49 : mx_res RX1 49 = some (0, 1, 7) := by decide +kernel
theorem rs_RX1_93 : mx_res RX1 93 = some (1, 38, 2) := by decide +kernel
theorem rs_RX1_96 : mx_res RX1 96 = some (1, 42, 1) := by decide +kernel
theorem rs_RX1_100 : mx_res RX1 100 = some (1, 41, 3) := by decide +kernel
theorem mt_X1_aimHere : mx_mt 37 = some (yX1_aimHere, cX1_aimHere, 2, none) := rfl
theorem dX1_aimHere_0 : decode cX1_aimHere 0 = .ok (.aload_n 0, 1) := by decide +kernel
theorem dX1_aimHere_1 : decode cX1_aimHere 1 = .ok (.iload_n 1, 1) := by decide +kernel
theorem dX1_aimHere_2 : decode cX1_aimHere 2 = .ok (.aload_n 0, 1) := by decide +kernel
theorem dX1_aimHere_3 : decode cX1_aimHere 3 = .ok (.getfield 39, 3) := by decide +kernel
theorem dX1_aimHere_6 : decode cX1_aimHere 6 = .ok (.invokevirtual 93, 3) := by decide +kernel
theorem dX1_aimHere_9 : decode cX1_aimHere 9 = .ok (.aload_n 0, 1) := by decide +kernel
theorem dX1_aimHere_10 : decode cX1_aimHere 10 = .ok (.aload_n 0, 1) := by decide +kernel
theorem dX1_aimHere_11 : decode cX1_aimHere 11 = .ok (.aload_n 0, 1) := by decide +kernel
theorem dX1_aimHere_12 : decode cX1_aimHere 12 = .ok (.getfield 39, 3) := by decide +kernel
theorem dX1_aimHere_15 : decode cX1_aimHere 15 = .ok (.invokevirtual 96, 3) := by decide +kernel
theorem dX1_aimHere_18 : decode cX1_aimHere 18 = .ok (.aload_n 0, 1) := by decide +kernel
theorem dX1_aimHere_19 : decode cX1_aimHere 19 = .ok (.getfield 49, 3) := by decide +kernel
theorem dX1_aimHere_22 : decode cX1_aimHere 22 = .ok (.aload_n 0, 1) := by decide +kernel
theorem dX1_aimHere_23 : decode cX1_aimHere 23 = .ok (.getfield 43, 3) := by decide +kernel
theorem dX1_aimHere_26 : decode cX1_aimHere 26 = .ok (.invokevirtual 100, 3) := by decide +kernel
theorem dX1_aimHere_29 : decode cX1_aimHere 29 = .ok (.return_, 1) := by decide +kernel
theorem ft_1_1 : mx_fty 1 1 = some (.int, false, "ClassMill$Code") := by decide +kernel
theorem mt_X1_op : mx_mt 27 = some (yX1_op, cX1_op, 2, none) := rfl
theorem dX1_op_0 : decode cX1_op 0 = .ok (.aload_n 0, 1) := by decide +kernel
theorem dX1_op_1 : decode cX1_op 1 = .ok (.getfield 39, 3) := by decide +kernel
theorem dX1_op_4 : decode cX1_op 4 = .ok (.aload_n 0, 1) := by decide +kernel
theorem dX1_op_5 : decode cX1_op 5 = .ok (.getfield 13, 3) := by decide +kernel
theorem dX1_op_8 : decode cX1_op 8 = .ok (.arraylength, 1) := by decide +kernel
theorem dX1_op_9 : decode cX1_op 9 = .ok (.if_icmp .ge 14, 3) := by decide +kernel
theorem dX1_op_12 : decode cX1_op 12 = .ok (.aload_n 0, 1) := by decide +kernel
theorem dX1_op_13 : decode cX1_op 13 = .ok (.getfield 13, 3) := by decide +kernel
theorem dX1_op_16 : decode cX1_op 16 = .ok (.aload_n 0, 1) := by decide +kernel
theorem dX1_op_17 : decode cX1_op 17 = .ok (.getfield 39, 3) := by decide +kernel
theorem dX1_op_20 : decode cX1_op 20 = .ok (.iload_n 1, 1) := by decide +kernel
theorem dX1_op_21 : decode cX1_op 21 = .ok (.i2b, 1) := by decide +kernel
theorem dX1_op_22 : decode cX1_op 22 = .ok (.bastore, 1) := by decide +kernel
theorem dX1_op_23 : decode cX1_op 23 = .ok (.aload_n 0, 1) := by decide +kernel
theorem dX1_op_24 : decode cX1_op 24 = .ok (.dup, 1) := by decide +kernel
theorem dX1_op_25 : decode cX1_op 25 = .ok (.getfield 39, 3) := by decide +kernel
theorem dX1_op_28 : decode cX1_op 28 = .ok (.iconst 1, 1) := by decide +kernel
theorem dX1_op_29 : decode cX1_op 29 = .ok (.iadd, 1) := by decide +kernel
theorem dX1_op_30 : decode cX1_op 30 = .ok (.putfield 39, 3) := by decide +kernel
theorem dX1_op_33 : decode cX1_op 33 = .ok (.return_, 1) := by decide +kernel
theorem rs_RX1_69 : mx_res RX1 69 = some (13, 0, 0) := by decide +kernel
theorem ft_1_3 : mx_fty 1 3 = some (.int, false, "ClassMill$Code") := by decide +kernel
theorem mt_X1_pop : mx_mt 30 = some (yX1_pop, cX1_pop, 2, none) := rfl
theorem dX1_pop_0 : decode cX1_pop 0 = .ok (.aload_n 0, 1) := by decide +kernel
theorem dX1_pop_1 : decode cX1_pop 1 = .ok (.iconst 0, 1) := by decide +kernel
theorem dX1_pop_2 : decode cX1_pop 2 = .ok (.aload_n 0, 1) := by decide +kernel
theorem dX1_pop_3 : decode cX1_pop 3 = .ok (.getfield 43, 3) := by decide +kernel
theorem dX1_pop_6 : decode cX1_pop 6 = .ok (.iload_n 1, 1) := by decide +kernel
theorem dX1_pop_7 : decode cX1_pop 7 = .ok (.isub, 1) := by decide +kernel
theorem dX1_pop_8 : decode cX1_pop 8 = .ok (.invokestatic 69, 3) := by decide +kernel
theorem dX1_pop_11 : decode cX1_pop 11 = .ok (.putfield 43, 3) := by decide +kernel
theorem dX1_pop_14 : decode cX1_pop 14 = .ok (.return_, 1) := by decide +kernel
theorem rs_RX1_65 : mx_res RX1 65 = some (1, 27, 1) := by decide +kernel
theorem rs_RX1_87 : mx_res RX1 87 = some (1, 30, 1) := by decide +kernel
theorem mt_X1_jump : mx_mt 35 = some (yX1_jump, cX1_jump, 4, (some .int)) := rfl
theorem dX1_jump_0 : decode cX1_jump 0 = .ok (.aload_n 0, 1) := by decide +kernel
theorem dX1_jump_1 : decode cX1_jump 1 = .ok (.getfield 39, 3) := by decide +kernel
theorem dX1_jump_4 : decode cX1_jump 4 = .ok (.istore_n 3, 1) := by decide +kernel
theorem dX1_jump_5 : decode cX1_jump 5 = .ok (.aload_n 0, 1) := by decide +kernel
theorem dX1_jump_6 : decode cX1_jump 6 = .ok (.iload_n 2, 1) := by decide +kernel
theorem dX1_jump_7 : decode cX1_jump 7 = .ok (.invokevirtual 87, 3) := by decide +kernel
theorem dX1_jump_10 : decode cX1_jump 10 = .ok (.aload_n 0, 1) := by decide +kernel
theorem dX1_jump_11 : decode cX1_jump 11 = .ok (.iload_n 1, 1) := by decide +kernel
theorem dX1_jump_12 : decode cX1_jump 12 = .ok (.invokevirtual 65, 3) := by decide +kernel
theorem dX1_jump_15 : decode cX1_jump 15 = .ok (.aload_n 0, 1) := by decide +kernel
theorem dX1_jump_16 : decode cX1_jump 16 = .ok (.iconst 0, 1) := by decide +kernel
theorem dX1_jump_17 : decode cX1_jump 17 = .ok (.invokevirtual 65, 3) := by decide +kernel
theorem dX1_jump_20 : decode cX1_jump 20 = .ok (.aload_n 0, 1) := by decide +kernel
theorem dX1_jump_21 : decode cX1_jump 21 = .ok (.iconst 0, 1) := by decide +kernel
theorem dX1_jump_22 : decode cX1_jump 22 = .ok (.invokevirtual 65, 3) := by decide +kernel
theorem dX1_jump_25 : decode cX1_jump 25 = .ok (.iload_n 3, 1) := by decide +kernel
theorem dX1_jump_26 : decode cX1_jump 26 = .ok (.ireturn, 1) := by decide +kernel
theorem rs_RX1_46 : mx_res RX1 46 = some (0, 1, 4) := by decide +kernel
theorem ft_1_4 : mx_fty 1 4 = some (.int, false, "ClassMill$Code") := by decide +kernel
theorem mt_X1_push : mx_mt 29 = some (yX1_push, cX1_push, 2, none) := rfl
theorem dX1_push_0 : decode cX1_push 0 = .ok (.aload_n 0, 1) := by decide +kernel
theorem dX1_push_1 : decode cX1_push 1 = .ok (.getfield 43, 3) := by decide +kernel
theorem dX1_push_4 : decode cX1_push 4 = .ok (.aload_n 0, 1) := by decide +kernel
theorem dX1_push_5 : decode cX1_push 5 = .ok (.getfield 17, 3) := by decide +kernel
theorem dX1_push_8 : decode cX1_push 8 = .ok (.arraylength, 1) := by decide +kernel
theorem dX1_push_9 : decode cX1_push 9 = .ok (.if_icmp .ge 13, 3) := by decide +kernel
theorem dX1_push_12 : decode cX1_push 12 = .ok (.aload_n 0, 1) := by decide +kernel
theorem dX1_push_13 : decode cX1_push 13 = .ok (.getfield 17, 3) := by decide +kernel
theorem dX1_push_16 : decode cX1_push 16 = .ok (.aload_n 0, 1) := by decide +kernel
theorem dX1_push_17 : decode cX1_push 17 = .ok (.getfield 43, 3) := by decide +kernel
theorem dX1_push_20 : decode cX1_push 20 = .ok (.iload_n 1, 1) := by decide +kernel
theorem dX1_push_21 : decode cX1_push 21 = .ok (.iastore, 1) := by decide +kernel
theorem dX1_push_22 : decode cX1_push 22 = .ok (.aload_n 0, 1) := by decide +kernel
theorem dX1_push_23 : decode cX1_push 23 = .ok (.dup, 1) := by decide +kernel
theorem dX1_push_24 : decode cX1_push 24 = .ok (.getfield 43, 3) := by decide +kernel
theorem dX1_push_27 : decode cX1_push 27 = .ok (.iconst 1, 1) := by decide +kernel
theorem dX1_push_28 : decode cX1_push 28 = .ok (.iadd, 1) := by decide +kernel
theorem dX1_push_29 : decode cX1_push 29 = .ok (.putfield 43, 3) := by decide +kernel
theorem dX1_push_32 : decode cX1_push 32 = .ok (.aload_n 0, 1) := by decide +kernel
theorem dX1_push_33 : decode cX1_push 33 = .ok (.aload_n 0, 1) := by decide +kernel
theorem dX1_push_34 : decode cX1_push 34 = .ok (.getfield 46, 3) := by decide +kernel
theorem dX1_push_37 : decode cX1_push 37 = .ok (.aload_n 0, 1) := by decide +kernel
theorem dX1_push_38 : decode cX1_push 38 = .ok (.getfield 43, 3) := by decide +kernel
theorem dX1_push_41 : decode cX1_push 41 = .ok (.invokestatic 69, 3) := by decide +kernel
theorem dX1_push_44 : decode cX1_push 44 = .ok (.putfield 46, 3) := by decide +kernel
theorem dX1_push_47 : decode cX1_push 47 = .ok (.return_, 1) := by decide +kernel
theorem rs_RX10_46 : mx_res RX10 46 = some (0, 10, 3) := by decide +kernel
theorem rs_RX10_75 : mx_res RX10 75 = some (0, 10, 12) := by decide +kernel
theorem rs_RX10_80 : mx_res RX10 80 = some (1, 281, 2) := by decide +kernel
theorem rs_RX10_86 : mx_res RX10 86 = some (1, 35, 2) := by decide +kernel
theorem rs_RX10_118 : mx_res RX10 118 = some (1, 30, 1) := by decide +kernel
theorem rs_RX10_121 : mx_res RX10 121 = some (1, 37, 1) := by decide +kernel
theorem rs_RX10_130 : mx_res RX10 130 = some (1, 29, 1) := by decide +kernel
theorem rs_RX10_146 : mx_res RX10 146 = some (0, 10, 15) := by decide +kernel
theorem rs_RX10_162 : mx_res RX10 162 = some (1, 27, 1) := by decide +kernel
theorem ft_10_12 : mx_fty 10 12 = some (.int, false, "ClassMill$Values") := by decide +kernel
theorem mt_X10_closeShort : mx_mt 282 = some (yX10_closeShort, cX10_closeShort, 4, none) := rfl
theorem dX10_closeShort_0 : decode cX10_closeShort 0 = .ok (.aload_n 0, 1) := by decide +kernel
theorem dX10_closeShort_1 : decode cX10_closeShort 1 = .ok (.aload_n 0, 1) := by decide +kernel
theorem dX10_closeShort_2 : decode cX10_closeShort 2 = .ok (.getfield 75, 3) := by decide +kernel
theorem dX10_closeShort_5 : decode cX10_closeShort 5 = .ok (.sipush 302, 3) := by decide +kernel
theorem dX10_closeShort_8 : decode cX10_closeShort 8 = .ok (.if_icmp .ne 7, 3) := by decide +kernel
theorem dX10_closeShort_11 : decode cX10_closeShort 11 = .ok (.iconst 1, 1) := by decide +kernel
theorem dX10_closeShort_12 : decode cX10_closeShort 12 = .ok (.goto 4, 3) := by decide +kernel
theorem dX10_closeShort_15 : decode cX10_closeShort 15 = .ok (.iconst 0, 1) := by decide +kernel
theorem dX10_closeShort_16 : decode cX10_closeShort 16 = .ok (.aload_n 0, 1) := by decide +kernel
theorem dX10_closeShort_17 : decode cX10_closeShort 17 = .ok (.getfield 146, 3) := by decide +kernel
theorem dX10_closeShort_20 : decode cX10_closeShort 20 = .ok (.invokevirtual 80, 3) := by decide +kernel
theorem dX10_closeShort_23 : decode cX10_closeShort 23 = .ok (.aload_n 0, 1) := by decide +kernel
theorem dX10_closeShort_24 : decode cX10_closeShort 24 = .ok (.getfield 46, 3) := by decide +kernel
theorem dX10_closeShort_27 : decode cX10_closeShort 27 = .ok (.sipush 167, 3) := by decide +kernel
theorem dX10_closeShort_30 : decode cX10_closeShort 30 = .ok (.iconst 0, 1) := by decide +kernel
theorem dX10_closeShort_31 : decode cX10_closeShort 31 = .ok (.invokevirtual 86, 3) := by decide +kernel
theorem dX10_closeShort_34 : decode cX10_closeShort 34 = .ok (.istore_n 3, 1) := by decide +kernel
theorem dX10_closeShort_35 : decode cX10_closeShort 35 = .ok (.aload_n 0, 1) := by decide +kernel
theorem dX10_closeShort_36 : decode cX10_closeShort 36 = .ok (.getfield 46, 3) := by decide +kernel
theorem dX10_closeShort_39 : decode cX10_closeShort 39 = .ok (.iconst 1, 1) := by decide +kernel
theorem dX10_closeShort_40 : decode cX10_closeShort 40 = .ok (.invokevirtual 118, 3) := by decide +kernel
theorem dX10_closeShort_43 : decode cX10_closeShort 43 = .ok (.aload_n 0, 1) := by decide +kernel
theorem dX10_closeShort_44 : decode cX10_closeShort 44 = .ok (.getfield 46, 3) := by decide +kernel
theorem dX10_closeShort_47 : decode cX10_closeShort 47 = .ok (.iload_n 2, 1) := by decide +kernel
theorem dX10_closeShort_48 : decode cX10_closeShort 48 = .ok (.invokevirtual 121, 3) := by decide +kernel
theorem dX10_closeShort_51 : decode cX10_closeShort 51 = .ok (.aload_n 0, 1) := by decide +kernel
theorem dX10_closeShort_52 : decode cX10_closeShort 52 = .ok (.getfield 46, 3) := by decide +kernel
theorem dX10_closeShort_55 : decode cX10_closeShort 55 = .ok (.iload_n 1, 1) := by decide +kernel
theorem dX10_closeShort_56 : decode cX10_closeShort 56 = .ok (.bipush 67, 2) := by decide +kernel
theorem dX10_closeShort_58 : decode cX10_closeShort 58 = .ok (.if_icmp .ne 7, 3) := by decide +kernel
theorem dX10_closeShort_61 : decode cX10_closeShort 61 = .ok (.iconst 3, 1) := by decide +kernel
theorem dX10_closeShort_62 : decode cX10_closeShort 62 = .ok (.goto 4, 3) := by decide +kernel
theorem dX10_closeShort_65 : decode cX10_closeShort 65 = .ok (.iconst 4, 1) := by decide +kernel
theorem dX10_closeShort_66 : decode cX10_closeShort 66 = .ok (.invokevirtual 162, 3) := by decide +kernel
theorem dX10_closeShort_69 : decode cX10_closeShort 69 = .ok (.aload_n 0, 1) := by decide +kernel
theorem dX10_closeShort_70 : decode cX10_closeShort 70 = .ok (.getfield 46, 3) := by decide +kernel
theorem dX10_closeShort_73 : decode cX10_closeShort 73 = .ok (.sipush 302, 3) := by decide +kernel
theorem dX10_closeShort_76 : decode cX10_closeShort 76 = .ok (.invokevirtual 130, 3) := by decide +kernel
theorem dX10_closeShort_79 : decode cX10_closeShort 79 = .ok (.aload_n 0, 1) := by decide +kernel
theorem dX10_closeShort_80 : decode cX10_closeShort 80 = .ok (.getfield 46, 3) := by decide +kernel
theorem dX10_closeShort_83 : decode cX10_closeShort 83 = .ok (.iload_n 3, 1) := by decide +kernel
theorem dX10_closeShort_84 : decode cX10_closeShort 84 = .ok (.invokevirtual 121, 3) := by decide +kernel
theorem dX10_closeShort_87 : decode cX10_closeShort 87 = .ok (.aload_n 0, 1) := by decide +kernel
theorem dX10_closeShort_88 : decode cX10_closeShort 88 = .ok (.sipush 302, 3) := by decide +kernel
theorem dX10_closeShort_91 : decode cX10_closeShort 91 = .ok (.putfield 75, 3) := by decide +kernel
theorem dX10_closeShort_94 : decode cX10_closeShort 94 = .ok (.return_, 1) := by decide +kernel
theorem mt_X10_compareOp : mx_mt 283 = some (yX10_compareOp, cX10_compareOp, 2, (some .int)) := rfl
theorem dX10_compareOp_0 : decode cX10_compareOp 0 = .ok (.iload_n 0, 1) := by decide +kernel
theorem dX10_compareOp_1 : decode cX10_compareOp 1 = .ok (.tableswitch 79 52 57 #[39, 53, 67, 79, 75, 71], 39) := by decide +kernel
theorem dX10_compareOp_40 : decode cX10_compareOp 40 = .ok (.iload_n 1, 1) := by decide +kernel
theorem dX10_compareOp_41 : decode cX10_compareOp 41 = .ok (.ifCond .eq 9, 3) := by decide +kernel
theorem dX10_compareOp_44 : decode cX10_compareOp 44 = .ok (.sipush 159, 3) := by decide +kernel
theorem dX10_compareOp_47 : decode cX10_compareOp 47 = .ok (.goto 6, 3) := by decide +kernel
theorem dX10_compareOp_50 : decode cX10_compareOp 50 = .ok (.sipush 165, 3) := by decide +kernel
theorem dX10_compareOp_53 : decode cX10_compareOp 53 = .ok (.ireturn, 1) := by decide +kernel
theorem dX10_compareOp_54 : decode cX10_compareOp 54 = .ok (.iload_n 1, 1) := by decide +kernel
theorem dX10_compareOp_55 : decode cX10_compareOp 55 = .ok (.ifCond .eq 9, 3) := by decide +kernel
theorem dX10_compareOp_58 : decode cX10_compareOp 58 = .ok (.sipush 160, 3) := by decide +kernel
theorem dX10_compareOp_61 : decode cX10_compareOp 61 = .ok (.goto 6, 3) := by decide +kernel
theorem dX10_compareOp_64 : decode cX10_compareOp 64 = .ok (.sipush 166, 3) := by decide +kernel
theorem dX10_compareOp_67 : decode cX10_compareOp 67 = .ok (.ireturn, 1) := by decide +kernel
theorem dX10_compareOp_68 : decode cX10_compareOp 68 = .ok (.sipush 161, 3) := by decide +kernel
theorem dX10_compareOp_71 : decode cX10_compareOp 71 = .ok (.ireturn, 1) := by decide +kernel
theorem dX10_compareOp_72 : decode cX10_compareOp 72 = .ok (.sipush 162, 3) := by decide +kernel
theorem dX10_compareOp_75 : decode cX10_compareOp 75 = .ok (.ireturn, 1) := by decide +kernel
theorem dX10_compareOp_76 : decode cX10_compareOp 76 = .ok (.sipush 163, 3) := by decide +kernel
theorem dX10_compareOp_79 : decode cX10_compareOp 79 = .ok (.ireturn, 1) := by decide +kernel
theorem dX10_compareOp_80 : decode cX10_compareOp 80 = .ok (.sipush 164, 3) := by decide +kernel
theorem dX10_compareOp_83 : decode cX10_compareOp 83 = .ok (.ireturn, 1) := by decide +kernel
theorem mt_X4_isNumber : mx_mt 137 = some (yX4_isNumber, cX4_isNumber, 1, (some .boolean)) := rfl
theorem dX4_isNumber_0 : decode cX4_isNumber 0 = .ok (.iload_n 0, 1) := by decide +kernel
theorem dX4_isNumber_1 : decode cX4_isNumber 1 = .ok (.sipush 301, 3) := by decide +kernel
theorem dX4_isNumber_4 : decode cX4_isNumber 4 = .ok (.if_icmp .eq 10, 3) := by decide +kernel
theorem dX4_isNumber_7 : decode cX4_isNumber 7 = .ok (.iload_n 0, 1) := by decide +kernel
theorem dX4_isNumber_8 : decode cX4_isNumber 8 = .ok (.sipush 302, 3) := by decide +kernel
theorem dX4_isNumber_11 : decode cX4_isNumber 11 = .ok (.if_icmp .ne 7, 3) := by decide +kernel
theorem dX4_isNumber_14 : decode cX4_isNumber 14 = .ok (.iconst 1, 1) := by decide +kernel
theorem dX4_isNumber_15 : decode cX4_isNumber 15 = .ok (.goto 4, 3) := by decide +kernel
theorem dX4_isNumber_18 : decode cX4_isNumber 18 = .ok (.iconst 0, 1) := by decide +kernel
theorem dX4_isNumber_19 : decode cX4_isNumber 19 = .ok (.ireturn, 1) := by decide +kernel
theorem mt_X4_isReference : mx_mt 136 = some (yX4_isReference, cX4_isReference, 1, (some .boolean)) := rfl
theorem dX4_isReference_0 : decode cX4_isReference 0 = .ok (.iload_n 0, 1) := by decide +kernel
theorem dX4_isReference_1 : decode cX4_isReference 1 = .ok (.sipush 300, 3) := by decide +kernel
theorem dX4_isReference_4 : decode cX4_isReference 4 = .ok (.if_icmp .eq 14, 3) := by decide +kernel
theorem dX4_isReference_7 : decode cX4_isReference 7 = .ok (.iload_n 0, 1) := by decide +kernel
theorem dX4_isReference_8 : decode cX4_isReference 8 = .ok (.ifCond .lt 14, 3) := by decide +kernel
theorem dX4_isReference_11 : decode cX4_isReference 11 = .ok (.iload_n 0, 1) := by decide +kernel
theorem dX4_isReference_12 : decode cX4_isReference 12 = .ok (.sipush 200, 3) := by decide +kernel
theorem dX4_isReference_15 : decode cX4_isReference 15 = .ok (.if_icmp .gt 7, 3) := by decide +kernel
theorem dX4_isReference_18 : decode cX4_isReference 18 = .ok (.iconst 1, 1) := by decide +kernel
theorem dX4_isReference_19 : decode cX4_isReference 19 = .ok (.goto 4, 3) := by decide +kernel
theorem dX4_isReference_22 : decode cX4_isReference 22 = .ok (.iconst 0, 1) := by decide +kernel
theorem dX4_isReference_23 : decode cX4_isReference 23 = .ok (.ireturn, 1) := by decide +kernel
theorem mt_X4_fits : mx_mt 139 = some (yX4_fits, cX4_fits, 4, (some .boolean)) := rfl
theorem dX4_fits_0 : decode cX4_fits 0 = .ok (.iload_n 1, 1) := by decide +kernel
theorem dX4_fits_1 : decode cX4_fits 1 = .ok (.iload_n 2, 1) := by decide +kernel
theorem dX4_fits_2 : decode cX4_fits 2 = .ok (.if_icmp .ne 5, 3) := by decide +kernel
theorem dX4_fits_5 : decode cX4_fits 5 = .ok (.iconst 1, 1) := by decide +kernel
theorem dX4_fits_6 : decode cX4_fits 6 = .ok (.ireturn, 1) := by decide +kernel
theorem dX4_fits_7 : decode cX4_fits 7 = .ok (.iload_n 1, 1) := by decide +kernel
theorem dX4_fits_8 : decode cX4_fits 8 = .ok (.sipush 300, 3) := by decide +kernel
theorem dX4_fits_11 : decode cX4_fits 11 = .ok (.if_icmp .ne 20, 3) := by decide +kernel
theorem dX4_fits_14 : decode cX4_fits 14 = .ok (.iload_n 2, 1) := by decide +kernel
theorem dX4_fits_15 : decode cX4_fits 15 = .ok (.ifCond .lt 14, 3) := by decide +kernel
theorem dX4_fits_18 : decode cX4_fits 18 = .ok (.iload_n 2, 1) := by decide +kernel
theorem dX4_fits_19 : decode cX4_fits 19 = .ok (.sipush 200, 3) := by decide +kernel
theorem dX4_fits_22 : decode cX4_fits 22 = .ok (.if_icmp .gt 7, 3) := by decide +kernel
theorem dX4_fits_25 : decode cX4_fits 25 = .ok (.iconst 1, 1) := by decide +kernel
theorem dX4_fits_26 : decode cX4_fits 26 = .ok (.goto 4, 3) := by decide +kernel
theorem dX4_fits_29 : decode cX4_fits 29 = .ok (.iconst 0, 1) := by decide +kernel
theorem dX4_fits_30 : decode cX4_fits 30 = .ok (.ireturn, 1) := by decide +kernel
theorem dX4_fits_31 : decode cX4_fits 31 = .ok (.iload_n 1, 1) := by decide +kernel
theorem dX4_fits_32 : decode cX4_fits 32 = .ok (.ifCond .lt 39, 3) := by decide +kernel
theorem dX4_fits_35 : decode cX4_fits 35 = .ok (.iload_n 1, 1) := by decide +kernel
theorem dX4_fits_36 : decode cX4_fits 36 = .ok (.bipush 16, 2) := by decide +kernel
theorem dX4_fits_38 : decode cX4_fits 38 = .ok (.if_icmp .ge 33, 3) := by decide +kernel
theorem dX4_fits_41 : decode cX4_fits 41 = .ok (.iload_n 2, 1) := by decide +kernel
theorem dX4_fits_42 : decode cX4_fits 42 = .ok (.ifCond .lt 27, 3) := by decide +kernel
theorem dX4_fits_45 : decode cX4_fits 45 = .ok (.iload_n 2, 1) := by decide +kernel
theorem dX4_fits_46 : decode cX4_fits 46 = .ok (.bipush 16, 2) := by decide +kernel
theorem dX4_fits_48 : decode cX4_fits 48 = .ok (.if_icmp .ge 21, 3) := by decide +kernel
theorem dX4_fits_51 : decode cX4_fits 51 = .ok (.aload_n 0, 1) := by decide +kernel
theorem dX4_fits_52 : decode cX4_fits 52 = .ok (.getfield 15, 3) := by decide +kernel
theorem dX4_fits_55 : decode cX4_fits 55 = .ok (.iload_n 1, 1) := by decide +kernel
theorem dX4_fits_56 : decode cX4_fits 56 = .ok (.bipush 16, 2) := by decide +kernel
theorem dX4_fits_58 : decode cX4_fits 58 = .ok (.imul, 1) := by decide +kernel
theorem dX4_fits_59 : decode cX4_fits 59 = .ok (.iload_n 2, 1) := by decide +kernel
theorem dX4_fits_60 : decode cX4_fits 60 = .ok (.iadd, 1) := by decide +kernel
theorem dX4_fits_61 : decode cX4_fits 61 = .ok (.baload, 1) := by decide +kernel
theorem dX4_fits_62 : decode cX4_fits 62 = .ok (.ifCond .eq 7, 3) := by decide +kernel
theorem dX4_fits_65 : decode cX4_fits 65 = .ok (.iconst 1, 1) := by decide +kernel
theorem dX4_fits_66 : decode cX4_fits 66 = .ok (.goto 4, 3) := by decide +kernel
theorem dX4_fits_69 : decode cX4_fits 69 = .ok (.iconst 0, 1) := by decide +kernel
theorem dX4_fits_70 : decode cX4_fits 70 = .ok (.ireturn, 1) := by decide +kernel
theorem dX4_fits_71 : decode cX4_fits 71 = .ok (.iload_n 2, 1) := by decide +kernel
theorem dX4_fits_72 : decode cX4_fits 72 = .ok (.ifCond .ne 22, 3) := by decide +kernel
theorem dX4_fits_75 : decode cX4_fits 75 = .ok (.iload_n 1, 1) := by decide +kernel
theorem dX4_fits_76 : decode cX4_fits 76 = .ok (.bipush 100, 2) := by decide +kernel
theorem dX4_fits_78 : decode cX4_fits 78 = .ok (.if_icmp .lt 14, 3) := by decide +kernel
theorem dX4_fits_81 : decode cX4_fits 81 = .ok (.iload_n 1, 1) := by decide +kernel
theorem dX4_fits_82 : decode cX4_fits 82 = .ok (.sipush 200, 3) := by decide +kernel
theorem dX4_fits_85 : decode cX4_fits 85 = .ok (.if_icmp .gt 7, 3) := by decide +kernel
theorem dX4_fits_88 : decode cX4_fits 88 = .ok (.iconst 1, 1) := by decide +kernel
theorem dX4_fits_89 : decode cX4_fits 89 = .ok (.goto 4, 3) := by decide +kernel
theorem dX4_fits_92 : decode cX4_fits 92 = .ok (.iconst 0, 1) := by decide +kernel
theorem dX4_fits_93 : decode cX4_fits 93 = .ok (.ireturn, 1) := by decide +kernel
theorem dX4_fits_94 : decode cX4_fits 94 = .ok (.iload_n 1, 1) := by decide +kernel
theorem dX4_fits_95 : decode cX4_fits 95 = .ok (.bipush 100, 2) := by decide +kernel
theorem dX4_fits_97 : decode cX4_fits 97 = .ok (.if_icmp .lt 25, 3) := by decide +kernel
theorem dX4_fits_100 : decode cX4_fits 100 = .ok (.iload_n 1, 1) := by decide +kernel
theorem dX4_fits_101 : decode cX4_fits 101 = .ok (.bipush 116, 2) := by decide +kernel
theorem dX4_fits_103 : decode cX4_fits 103 = .ok (.if_icmp .ge 19, 3) := by decide +kernel
theorem dX4_fits_106 : decode cX4_fits 106 = .ok (.iload_n 2, 1) := by decide +kernel
theorem dX4_fits_107 : decode cX4_fits 107 = .ok (.bipush 100, 2) := by decide +kernel
theorem dX4_fits_109 : decode cX4_fits 109 = .ok (.if_icmp .lt 13, 3) := by decide +kernel
theorem dX4_fits_112 : decode cX4_fits 112 = .ok (.iload_n 2, 1) := by decide +kernel
theorem dX4_fits_113 : decode cX4_fits 113 = .ok (.bipush 116, 2) := by decide +kernel
theorem dX4_fits_115 : decode cX4_fits 115 = .ok (.if_icmp .ge 7, 3) := by decide +kernel
theorem dX4_fits_118 : decode cX4_fits 118 = .ok (.iconst 1, 1) := by decide +kernel
theorem dX4_fits_119 : decode cX4_fits 119 = .ok (.goto 4, 3) := by decide +kernel
theorem dX4_fits_122 : decode cX4_fits 122 = .ok (.iconst 0, 1) := by decide +kernel
theorem dX4_fits_123 : decode cX4_fits 123 = .ok (.istore_n 3, 1) := by decide +kernel
theorem dX4_fits_124 : decode cX4_fits 124 = .ok (.iload_n 3, 1) := by decide +kernel
theorem dX4_fits_125 : decode cX4_fits 125 = .ok (.ifCond .eq 27, 3) := by decide +kernel
theorem dX4_fits_128 : decode cX4_fits 128 = .ok (.aload_n 0, 1) := by decide +kernel
theorem dX4_fits_129 : decode cX4_fits 129 = .ok (.getfield 15, 3) := by decide +kernel
theorem dX4_fits_132 : decode cX4_fits 132 = .ok (.iload_n 1, 1) := by decide +kernel
theorem dX4_fits_133 : decode cX4_fits 133 = .ok (.bipush 100, 2) := by decide +kernel
theorem dX4_fits_135 : decode cX4_fits 135 = .ok (.isub, 1) := by decide +kernel
theorem dX4_fits_136 : decode cX4_fits 136 = .ok (.bipush 16, 2) := by decide +kernel
theorem dX4_fits_138 : decode cX4_fits 138 = .ok (.imul, 1) := by decide +kernel
theorem dX4_fits_139 : decode cX4_fits 139 = .ok (.iload_n 2, 1) := by decide +kernel
theorem dX4_fits_140 : decode cX4_fits 140 = .ok (.iadd, 1) := by decide +kernel
theorem dX4_fits_141 : decode cX4_fits 141 = .ok (.bipush 100, 2) := by decide +kernel
theorem dX4_fits_143 : decode cX4_fits 143 = .ok (.isub, 1) := by decide +kernel
theorem dX4_fits_144 : decode cX4_fits 144 = .ok (.baload, 1) := by decide +kernel
theorem dX4_fits_145 : decode cX4_fits 145 = .ok (.ifCond .eq 7, 3) := by decide +kernel
theorem dX4_fits_148 : decode cX4_fits 148 = .ok (.iconst 1, 1) := by decide +kernel
theorem dX4_fits_149 : decode cX4_fits 149 = .ok (.goto 4, 3) := by decide +kernel
theorem dX4_fits_152 : decode cX4_fits 152 = .ok (.iconst 0, 1) := by decide +kernel
theorem dX4_fits_153 : decode cX4_fits 153 = .ok (.ireturn, 1) := by decide +kernel
theorem rs_RX4_35 : mx_res RX4 35 = some (1, 139, 2) := by decide +kernel
theorem mt_X4_oneFits : mx_mt 140 = some (yX4_oneFits, cX4_oneFits, 3, (some .boolean)) := rfl
theorem dX4_oneFits_0 : decode cX4_oneFits 0 = .ok (.aload_n 0, 1) := by decide +kernel
theorem dX4_oneFits_1 : decode cX4_oneFits 1 = .ok (.iload_n 1, 1) := by decide +kernel
theorem dX4_oneFits_2 : decode cX4_oneFits 2 = .ok (.iload_n 2, 1) := by decide +kernel
theorem dX4_oneFits_3 : decode cX4_oneFits 3 = .ok (.invokevirtual 35, 3) := by decide +kernel
theorem dX4_oneFits_6 : decode cX4_oneFits 6 = .ok (.ifCond .ne 12, 3) := by decide +kernel
theorem dX4_oneFits_9 : decode cX4_oneFits 9 = .ok (.aload_n 0, 1) := by decide +kernel
theorem dX4_oneFits_10 : decode cX4_oneFits 10 = .ok (.iload_n 2, 1) := by decide +kernel
theorem dX4_oneFits_11 : decode cX4_oneFits 11 = .ok (.iload_n 1, 1) := by decide +kernel
theorem dX4_oneFits_12 : decode cX4_oneFits 12 = .ok (.invokevirtual 35, 3) := by decide +kernel
theorem dX4_oneFits_15 : decode cX4_oneFits 15 = .ok (.ifCond .eq 7, 3) := by decide +kernel
theorem dX4_oneFits_18 : decode cX4_oneFits 18 = .ok (.iconst 1, 1) := by decide +kernel
theorem dX4_oneFits_19 : decode cX4_oneFits 19 = .ok (.goto 4, 3) := by decide +kernel
theorem dX4_oneFits_22 : decode cX4_oneFits 22 = .ok (.iconst 0, 1) := by decide +kernel
theorem dX4_oneFits_23 : decode cX4_oneFits 23 = .ok (.ireturn, 1) := by decide +kernel
theorem rs_RX10_45 : mx_res RX10 45 = some (0, 10, 2) := by decide +kernel
theorem rs_RX10_136 : mx_res RX10 136 = some (2, 136, 1) := by decide +kernel
theorem rs_RX10_140 : mx_res RX10 140 = some (1, 140, 2) := by decide +kernel
theorem rs_RX10_143 : mx_res RX10 143 = some (2, 137, 1) := by decide +kernel
theorem mt_X10_isPair : mx_mt 277 = some (yX10_isPair, cX10_isPair, 3, (some .boolean)) := rfl
theorem dX10_isPair_0 : decode cX10_isPair 0 = .ok (.iload_n 1, 1) := by decide +kernel
theorem dX10_isPair_1 : decode cX10_isPair 1 = .ok (.invokestatic 136, 3) := by decide +kernel
theorem dX10_isPair_4 : decode cX10_isPair 4 = .ok (.ifCond .eq 20, 3) := by decide +kernel
theorem dX10_isPair_7 : decode cX10_isPair 7 = .ok (.iload_n 2, 1) := by decide +kernel
theorem dX10_isPair_8 : decode cX10_isPair 8 = .ok (.invokestatic 136, 3) := by decide +kernel
theorem dX10_isPair_11 : decode cX10_isPair 11 = .ok (.ifCond .eq 13, 3) := by decide +kernel
theorem dX10_isPair_14 : decode cX10_isPair 14 = .ok (.aload_n 0, 1) := by decide +kernel
theorem dX10_isPair_15 : decode cX10_isPair 15 = .ok (.getfield 45, 3) := by decide +kernel
theorem dX10_isPair_18 : decode cX10_isPair 18 = .ok (.iload_n 1, 1) := by decide +kernel
theorem dX10_isPair_19 : decode cX10_isPair 19 = .ok (.iload_n 2, 1) := by decide +kernel
theorem dX10_isPair_20 : decode cX10_isPair 20 = .ok (.invokevirtual 140, 3) := by decide +kernel
theorem dX10_isPair_23 : decode cX10_isPair 23 = .ok (.ireturn, 1) := by decide +kernel
theorem dX10_isPair_24 : decode cX10_isPair 24 = .ok (.iload_n 1, 1) := by decide +kernel
theorem dX10_isPair_25 : decode cX10_isPair 25 = .ok (.iload_n 2, 1) := by decide +kernel
theorem dX10_isPair_26 : decode cX10_isPair 26 = .ok (.if_icmp .ne 14, 3) := by decide +kernel
theorem dX10_isPair_29 : decode cX10_isPair 29 = .ok (.iload_n 1, 1) := by decide +kernel
theorem dX10_isPair_30 : decode cX10_isPair 30 = .ok (.invokestatic 143, 3) := by decide +kernel
theorem dX10_isPair_33 : decode cX10_isPair 33 = .ok (.ifCond .eq 7, 3) := by decide +kernel
theorem dX10_isPair_36 : decode cX10_isPair 36 = .ok (.iconst 1, 1) := by decide +kernel
theorem dX10_isPair_37 : decode cX10_isPair 37 = .ok (.goto 4, 3) := by decide +kernel
theorem dX10_isPair_40 : decode cX10_isPair 40 = .ok (.iconst 0, 1) := by decide +kernel
theorem dX10_isPair_41 : decode cX10_isPair 41 = .ok (.ireturn, 1) := by decide +kernel
