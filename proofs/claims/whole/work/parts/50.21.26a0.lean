theorem rs_RX7_120 : mx_res RX7 120 = some (1, 105, 2) := by decide +kernel
theorem mt_X7_typeOfClass : mx_mt 206 = some (yX7_typeOfClass, cX7_typeOfClass, 6, (some .int)) := rfl
theorem dX7_typeOfClass_0 : decode cX7_typeOfClass 0 = .ok (.aload_n 1, 1) := by decide +kernel
theorem dX7_typeOfClass_1 : decode cX7_typeOfClass 1 = .ok (.iload_n 2, 1) := by decide +kernel
theorem dX7_typeOfClass_2 : decode cX7_typeOfClass 2 = .ok (.iconst 0, 1) := by decide +kernel
theorem dX7_typeOfClass_3 : decode cX7_typeOfClass 3 = .ok (.invokevirtual 120, 3) := by decide +kernel
theorem dX7_typeOfClass_6 : decode cX7_typeOfClass 6 = .ok (.istore_n 3, 1) := by decide +kernel
theorem dX7_typeOfClass_7 : decode cX7_typeOfClass 7 = .ok (.aload_n 1, 1) := by decide +kernel
theorem dX7_typeOfClass_8 : decode cX7_typeOfClass 8 = .ok (.iload_n 3, 1) := by decide +kernel
theorem dX7_typeOfClass_9 : decode cX7_typeOfClass 9 = .ok (.invokevirtual 59, 3) := by decide +kernel
theorem dX7_typeOfClass_12 : decode cX7_typeOfClass 12 = .ok (.istore 4, 2) := by decide +kernel
theorem dX7_typeOfClass_14 : decode cX7_typeOfClass 14 = .ok (.aload_n 1, 1) := by decide +kernel
theorem dX7_typeOfClass_15 : decode cX7_typeOfClass 15 = .ok (.iload_n 3, 1) := by decide +kernel
theorem dX7_typeOfClass_16 : decode cX7_typeOfClass 16 = .ok (.invokevirtual 63, 3) := by decide +kernel
theorem dX7_typeOfClass_19 : decode cX7_typeOfClass 19 = .ok (.istore 5, 2) := by decide +kernel
theorem dX7_typeOfClass_21 : decode cX7_typeOfClass 21 = .ok (.aload_n 1, 1) := by decide +kernel
theorem dX7_typeOfClass_22 : decode cX7_typeOfClass 22 = .ok (.iload 4, 2) := by decide +kernel
theorem dX7_typeOfClass_24 : decode cX7_typeOfClass 24 = .ok (.invokevirtual 117, 3) := by decide +kernel
theorem dX7_typeOfClass_27 : decode cX7_typeOfClass 27 = .ok (.bipush 91, 2) := by decide +kernel
theorem dX7_typeOfClass_29 : decode cX7_typeOfClass 29 = .ok (.if_icmp .ne 15, 3) := by decide +kernel
theorem dX7_typeOfClass_32 : decode cX7_typeOfClass 32 = .ok (.aload_n 0, 1) := by decide +kernel
theorem dX7_typeOfClass_33 : decode cX7_typeOfClass 33 = .ok (.aload_n 1, 1) := by decide +kernel
theorem dX7_typeOfClass_34 : decode cX7_typeOfClass 34 = .ok (.iload 4, 2) := by decide +kernel
theorem dX7_typeOfClass_36 : decode cX7_typeOfClass 36 = .ok (.iload 5, 2) := by decide +kernel
theorem dX7_typeOfClass_38 : decode cX7_typeOfClass 38 = .ok (.invokevirtual 123, 3) := by decide +kernel
theorem dX7_typeOfClass_41 : decode cX7_typeOfClass 41 = .ok (.goto 12, 3) := by decide +kernel
theorem dX7_typeOfClass_44 : decode cX7_typeOfClass 44 = .ok (.aload_n 0, 1) := by decide +kernel
theorem dX7_typeOfClass_45 : decode cX7_typeOfClass 45 = .ok (.aload_n 1, 1) := by decide +kernel
theorem dX7_typeOfClass_46 : decode cX7_typeOfClass 46 = .ok (.iload 4, 2) := by decide +kernel
theorem dX7_typeOfClass_48 : decode cX7_typeOfClass 48 = .ok (.iload 5, 2) := by decide +kernel
theorem dX7_typeOfClass_50 : decode cX7_typeOfClass 50 = .ok (.invokevirtual 66, 3) := by decide +kernel
theorem dX7_typeOfClass_53 : decode cX7_typeOfClass 53 = .ok (.ireturn, 1) := by decide +kernel
theorem rs_RX11_164 : mx_res RX11 164 = some (0, 3, 7) := by decide +kernel
theorem rs_RX11_170 : mx_res RX11 170 = some (1, 206, 2) := by decide +kernel
theorem rs_RX11_174 : mx_res RX11 174 = some (1, 316, 1) := by decide +kernel
theorem mt_X11_takeConstants : mx_mt 315 = some (yX11_takeConstants, cX11_takeConstants, 2, none) := rfl
theorem dX11_takeConstants_0 : decode cX11_takeConstants 0 = .ok (.iconst 1, 1) := by decide +kernel
theorem dX11_takeConstants_1 : decode cX11_takeConstants 1 = .ok (.istore_n 1, 1) := by decide +kernel
theorem dX11_takeConstants_2 : decode cX11_takeConstants 2 = .ok (.iload_n 1, 1) := by decide +kernel
theorem dX11_takeConstants_3 : decode cX11_takeConstants 3 = .ok (.aload_n 0, 1) := by decide +kernel
theorem dX11_takeConstants_4 : decode cX11_takeConstants 4 = .ok (.getfield 62, 3) := by decide +kernel
theorem dX11_takeConstants_7 : decode cX11_takeConstants 7 = .ok (.getfield 164, 3) := by decide +kernel
theorem dX11_takeConstants_10 : decode cX11_takeConstants 10 = .ok (.if_icmp .gt 43, 3) := by decide +kernel
theorem dX11_takeConstants_13 : decode cX11_takeConstants 13 = .ok (.aload_n 0, 1) := by decide +kernel
theorem dX11_takeConstants_14 : decode cX11_takeConstants 14 = .ok (.getfield 23, 3) := by decide +kernel
theorem dX11_takeConstants_17 : decode cX11_takeConstants 17 = .ok (.iload_n 1, 1) := by decide +kernel
theorem dX11_takeConstants_18 : decode cX11_takeConstants 18 = .ok (.aload_n 0, 1) := by decide +kernel
theorem dX11_takeConstants_19 : decode cX11_takeConstants 19 = .ok (.getfield 62, 3) := by decide +kernel
theorem dX11_takeConstants_22 : decode cX11_takeConstants 22 = .ok (.iload_n 1, 1) := by decide +kernel
theorem dX11_takeConstants_23 : decode cX11_takeConstants 23 = .ok (.invokevirtual 167, 3) := by decide +kernel
theorem dX11_takeConstants_26 : decode cX11_takeConstants 26 = .ok (.iconst 3, 1) := by decide +kernel
theorem dX11_takeConstants_27 : decode cX11_takeConstants 27 = .ok (.if_icmp .ne 18, 3) := by decide +kernel
theorem dX11_takeConstants_30 : decode cX11_takeConstants 30 = .ok (.aload_n 0, 1) := by decide +kernel
theorem dX11_takeConstants_31 : decode cX11_takeConstants 31 = .ok (.getfield 50, 3) := by decide +kernel
theorem dX11_takeConstants_34 : decode cX11_takeConstants 34 = .ok (.aload_n 0, 1) := by decide +kernel
theorem dX11_takeConstants_35 : decode cX11_takeConstants 35 = .ok (.getfield 62, 3) := by decide +kernel
theorem dX11_takeConstants_38 : decode cX11_takeConstants 38 = .ok (.iload_n 1, 1) := by decide +kernel
theorem dX11_takeConstants_39 : decode cX11_takeConstants 39 = .ok (.invokevirtual 170, 3) := by decide +kernel
theorem dX11_takeConstants_42 : decode cX11_takeConstants 42 = .ok (.goto 4, 3) := by decide +kernel
theorem dX11_takeConstants_45 : decode cX11_takeConstants 45 = .ok (.iconst (-1), 1) := by decide +kernel
theorem dX11_takeConstants_46 : decode cX11_takeConstants 46 = .ok (.iastore, 1) := by decide +kernel
theorem dX11_takeConstants_47 : decode cX11_takeConstants 47 = .ok (.iinc 1 1, 3) := by decide +kernel
theorem dX11_takeConstants_50 : decode cX11_takeConstants 50 = .ok (.goto (-48), 3) := by decide +kernel
theorem dX11_takeConstants_53 : decode cX11_takeConstants 53 = .ok (.iconst 1, 1) := by decide +kernel
theorem dX11_takeConstants_54 : decode cX11_takeConstants 54 = .ok (.istore_n 1, 1) := by decide +kernel
theorem dX11_takeConstants_55 : decode cX11_takeConstants 55 = .ok (.iload_n 1, 1) := by decide +kernel
theorem dX11_takeConstants_56 : decode cX11_takeConstants 56 = .ok (.aload_n 0, 1) := by decide +kernel
theorem dX11_takeConstants_57 : decode cX11_takeConstants 57 = .ok (.getfield 62, 3) := by decide +kernel
theorem dX11_takeConstants_60 : decode cX11_takeConstants 60 = .ok (.getfield 164, 3) := by decide +kernel
theorem dX11_takeConstants_63 : decode cX11_takeConstants 63 = .ok (.if_icmp .gt 33, 3) := by decide +kernel
theorem dX11_takeConstants_66 : decode cX11_takeConstants 66 = .ok (.aload_n 0, 1) := by decide +kernel
theorem dX11_takeConstants_67 : decode cX11_takeConstants 67 = .ok (.getfield 27, 3) := by decide +kernel
theorem dX11_takeConstants_70 : decode cX11_takeConstants 70 = .ok (.iload_n 1, 1) := by decide +kernel
theorem dX11_takeConstants_71 : decode cX11_takeConstants 71 = .ok (.iconst (-1), 1) := by decide +kernel
theorem dX11_takeConstants_72 : decode cX11_takeConstants 72 = .ok (.iastore, 1) := by decide +kernel
theorem dX11_takeConstants_73 : decode cX11_takeConstants 73 = .ok (.aload_n 0, 1) := by decide +kernel
theorem dX11_takeConstants_74 : decode cX11_takeConstants 74 = .ok (.getfield 62, 3) := by decide +kernel
theorem dX11_takeConstants_77 : decode cX11_takeConstants 77 = .ok (.iload_n 1, 1) := by decide +kernel
theorem dX11_takeConstants_78 : decode cX11_takeConstants 78 = .ok (.invokevirtual 167, 3) := by decide +kernel
theorem dX11_takeConstants_81 : decode cX11_takeConstants 81 = .ok (.iconst 4, 1) := by decide +kernel
theorem dX11_takeConstants_82 : decode cX11_takeConstants 82 = .ok (.if_icmp .ne 8, 3) := by decide +kernel
theorem dX11_takeConstants_85 : decode cX11_takeConstants 85 = .ok (.aload_n 0, 1) := by decide +kernel
theorem dX11_takeConstants_86 : decode cX11_takeConstants 86 = .ok (.iload_n 1, 1) := by decide +kernel
theorem dX11_takeConstants_87 : decode cX11_takeConstants 87 = .ok (.invokevirtual 174, 3) := by decide +kernel
theorem dX11_takeConstants_90 : decode cX11_takeConstants 90 = .ok (.iinc 1 1, 3) := by decide +kernel
theorem dX11_takeConstants_93 : decode cX11_takeConstants 93 = .ok (.goto (-38), 3) := by decide +kernel
theorem dX11_takeConstants_96 : decode cX11_takeConstants 96 = .ok (.return_, 1) := by decide +kernel
theorem mt_X11_typeOfTag : mx_mt 331 = some (yX11_typeOfTag, cX11_typeOfTag, 3, (some .int)) := rfl
theorem dX11_typeOfTag_0 : decode cX11_typeOfTag 0 = .ok (.iload_n 1, 1) := by decide +kernel
theorem dX11_typeOfTag_1 : decode cX11_typeOfTag 1 = .ok (.tableswitch 39 0 2 #[27, 31, 35], 27) := by decide +kernel
theorem dX11_typeOfTag_28 : decode cX11_typeOfTag 28 = .ok (.sipush 304, 3) := by decide +kernel
theorem dX11_typeOfTag_31 : decode cX11_typeOfTag 31 = .ok (.ireturn, 1) := by decide +kernel
theorem dX11_typeOfTag_32 : decode cX11_typeOfTag 32 = .ok (.sipush 301, 3) := by decide +kernel
theorem dX11_typeOfTag_35 : decode cX11_typeOfTag 35 = .ok (.ireturn, 1) := by decide +kernel
theorem dX11_typeOfTag_36 : decode cX11_typeOfTag 36 = .ok (.sipush 300, 3) := by decide +kernel
theorem dX11_typeOfTag_39 : decode cX11_typeOfTag 39 = .ok (.ireturn, 1) := by decide +kernel
theorem dX11_typeOfTag_40 : decode cX11_typeOfTag 40 = .ok (.aload_n 0, 1) := by decide +kernel
theorem dX11_typeOfTag_41 : decode cX11_typeOfTag 41 = .ok (.getfield 23, 3) := by decide +kernel
theorem dX11_typeOfTag_44 : decode cX11_typeOfTag 44 = .ok (.iload_n 2, 1) := by decide +kernel
theorem dX11_typeOfTag_45 : decode cX11_typeOfTag 45 = .ok (.iaload, 1) := by decide +kernel
theorem dX11_typeOfTag_46 : decode cX11_typeOfTag 46 = .ok (.ireturn, 1) := by decide +kernel
theorem rs_RX11_236 : mx_res RX11 236 = some (1, 331, 2) := by decide +kernel
theorem mt_X11_takeTypes : mx_mt 330 = some (yX11_takeTypes, cX11_takeTypes, 7, (some .int)) := rfl
theorem dX11_takeTypes_0 : decode cX11_takeTypes 0 = .ok (.aload_n 0, 1) := by decide +kernel
theorem dX11_takeTypes_1 : decode cX11_takeTypes 1 = .ok (.getfield 62, 3) := by decide +kernel
theorem dX11_takeTypes_4 : decode cX11_takeTypes 4 = .ok (.iload_n 1, 1) := by decide +kernel
theorem dX11_takeTypes_5 : decode cX11_takeTypes 5 = .ok (.invokevirtual 183, 3) := by decide +kernel
theorem dX11_takeTypes_8 : decode cX11_takeTypes 8 = .ok (.istore_n 3, 1) := by decide +kernel
theorem dX11_takeTypes_9 : decode cX11_takeTypes 9 = .ok (.iload_n 1, 1) := by decide +kernel
theorem dX11_takeTypes_10 : decode cX11_takeTypes 10 = .ok (.iconst 1, 1) := by decide +kernel
theorem dX11_takeTypes_11 : decode cX11_takeTypes 11 = .ok (.iadd, 1) := by decide +kernel
theorem dX11_takeTypes_12 : decode cX11_takeTypes 12 = .ok (.istore 4, 2) := by decide +kernel
theorem dX11_takeTypes_14 : decode cX11_takeTypes 14 = .ok (.iconst 0, 1) := by decide +kernel
theorem dX11_takeTypes_15 : decode cX11_takeTypes 15 = .ok (.istore 5, 2) := by decide +kernel
theorem dX11_takeTypes_17 : decode cX11_takeTypes 17 = .ok (.iload 5, 2) := by decide +kernel
theorem dX11_takeTypes_19 : decode cX11_takeTypes 19 = .ok (.iload_n 3, 1) := by decide +kernel
theorem dX11_takeTypes_20 : decode cX11_takeTypes 20 = .ok (.if_icmp .ge 69, 3) := by decide +kernel
theorem dX11_takeTypes_23 : decode cX11_takeTypes 23 = .ok (.aload_n 0, 1) := by decide +kernel
theorem dX11_takeTypes_24 : decode cX11_takeTypes 24 = .ok (.getfield 62, 3) := by decide +kernel
theorem dX11_takeTypes_27 : decode cX11_takeTypes 27 = .ok (.iload 4, 2) := by decide +kernel
theorem dX11_takeTypes_29 : decode cX11_takeTypes 29 = .ok (.invokevirtual 183, 3) := by decide +kernel
theorem dX11_takeTypes_32 : decode cX11_takeTypes 32 = .ok (.istore 6, 2) := by decide +kernel
theorem dX11_takeTypes_34 : decode cX11_takeTypes 34 = .ok (.iload 5, 2) := by decide +kernel
theorem dX11_takeTypes_36 : decode cX11_takeTypes 36 = .ok (.bipush 30, 2) := by decide +kernel
theorem dX11_takeTypes_38 : decode cX11_takeTypes 38 = .ok (.if_icmp .ge 29, 3) := by decide +kernel
theorem dX11_takeTypes_41 : decode cX11_takeTypes 41 = .ok (.aload_n 0, 1) := by decide +kernel
theorem dX11_takeTypes_42 : decode cX11_takeTypes 42 = .ok (.getfield 41, 3) := by decide +kernel
theorem dX11_takeTypes_45 : decode cX11_takeTypes 45 = .ok (.iload_n 2, 1) := by decide +kernel
theorem dX11_takeTypes_46 : decode cX11_takeTypes 46 = .ok (.iload 5, 2) := by decide +kernel
theorem dX11_takeTypes_48 : decode cX11_takeTypes 48 = .ok (.iadd, 1) := by decide +kernel
theorem dX11_takeTypes_49 : decode cX11_takeTypes 49 = .ok (.aload_n 0, 1) := by decide +kernel
theorem dX11_takeTypes_50 : decode cX11_takeTypes 50 = .ok (.iload 6, 2) := by decide +kernel
theorem dX11_takeTypes_52 : decode cX11_takeTypes 52 = .ok (.aload_n 0, 1) := by decide +kernel
theorem dX11_takeTypes_53 : decode cX11_takeTypes 53 = .ok (.getfield 62, 3) := by decide +kernel
theorem dX11_takeTypes_56 : decode cX11_takeTypes 56 = .ok (.iload 4, 2) := by decide +kernel
theorem dX11_takeTypes_58 : decode cX11_takeTypes 58 = .ok (.iconst 1, 1) := by decide +kernel
theorem dX11_takeTypes_59 : decode cX11_takeTypes 59 = .ok (.iadd, 1) := by decide +kernel
theorem dX11_takeTypes_60 : decode cX11_takeTypes 60 = .ok (.invokevirtual 183, 3) := by decide +kernel
theorem dX11_takeTypes_63 : decode cX11_takeTypes 63 = .ok (.invokevirtual 236, 3) := by decide +kernel
theorem dX11_takeTypes_66 : decode cX11_takeTypes 66 = .ok (.iastore, 1) := by decide +kernel
theorem dX11_takeTypes_67 : decode cX11_takeTypes 67 = .ok (.iload 4, 2) := by decide +kernel
theorem dX11_takeTypes_69 : decode cX11_takeTypes 69 = .ok (.iload 6, 2) := by decide +kernel
theorem dX11_takeTypes_71 : decode cX11_takeTypes 71 = .ok (.iconst 3, 1) := by decide +kernel
theorem dX11_takeTypes_72 : decode cX11_takeTypes 72 = .ok (.if_icmp .ne 7, 3) := by decide +kernel
theorem dX11_takeTypes_75 : decode cX11_takeTypes 75 = .ok (.iconst 2, 1) := by decide +kernel
theorem dX11_takeTypes_76 : decode cX11_takeTypes 76 = .ok (.goto 4, 3) := by decide +kernel
theorem dX11_takeTypes_79 : decode cX11_takeTypes 79 = .ok (.iconst 1, 1) := by decide +kernel
theorem dX11_takeTypes_80 : decode cX11_takeTypes 80 = .ok (.iadd, 1) := by decide +kernel
theorem dX11_takeTypes_81 : decode cX11_takeTypes 81 = .ok (.istore 4, 2) := by decide +kernel
theorem dX11_takeTypes_83 : decode cX11_takeTypes 83 = .ok (.iinc 5 1, 3) := by decide +kernel
theorem dX11_takeTypes_86 : decode cX11_takeTypes 86 = .ok (.goto (-69), 3) := by decide +kernel
theorem dX11_takeTypes_89 : decode cX11_takeTypes 89 = .ok (.iload 4, 2) := by decide +kernel
theorem dX11_takeTypes_91 : decode cX11_takeTypes 91 = .ok (.ireturn, 1) := by decide +kernel
theorem rs_RX11_233 : mx_res RX11 233 = some (1, 330, 2) := by decide +kernel
theorem mt_X11_takeFrames : mx_mt 329 = some (yX11_takeFrames, cX11_takeFrames, 6, none) := rfl
theorem dX11_takeFrames_0 : decode cX11_takeFrames 0 = .ok (.aload_n 0, 1) := by decide +kernel
theorem dX11_takeFrames_1 : decode cX11_takeFrames 1 = .ok (.bipush 10, 2) := by decide +kernel
theorem dX11_takeFrames_3 : decode cX11_takeFrames 3 = .ok (.invokevirtual 189, 3) := by decide +kernel
theorem dX11_takeFrames_6 : decode cX11_takeFrames 6 = .ok (.istore_n 2, 1) := by decide +kernel
theorem dX11_takeFrames_7 : decode cX11_takeFrames 7 = .ok (.iconst 0, 1) := by decide +kernel
theorem dX11_takeFrames_8 : decode cX11_takeFrames 8 = .ok (.istore_n 3, 1) := by decide +kernel
theorem dX11_takeFrames_9 : decode cX11_takeFrames 9 = .ok (.iload_n 3, 1) := by decide +kernel
theorem dX11_takeFrames_10 : decode cX11_takeFrames 10 = .ok (.aload_n 0, 1) := by decide +kernel
theorem dX11_takeFrames_11 : decode cX11_takeFrames 11 = .ok (.bipush 9, 2) := by decide +kernel
theorem dX11_takeFrames_13 : decode cX11_takeFrames 13 = .ok (.invokevirtual 189, 3) := by decide +kernel
theorem dX11_takeFrames_16 : decode cX11_takeFrames 16 = .ok (.if_icmp .ge 125, 3) := by decide +kernel
theorem dX11_takeFrames_19 : decode cX11_takeFrames 19 = .ok (.iload_n 1, 1) := by decide +kernel
theorem dX11_takeFrames_20 : decode cX11_takeFrames 20 = .ok (.ifCond .eq 121, 3) := by decide +kernel
theorem dX11_takeFrames_23 : decode cX11_takeFrames 23 = .ok (.iload_n 3, 1) := by decide +kernel
theorem dX11_takeFrames_24 : decode cX11_takeFrames 24 = .ok (.bipush 64, 2) := by decide +kernel
theorem dX11_takeFrames_26 : decode cX11_takeFrames 26 = .ok (.imul, 1) := by decide +kernel
theorem dX11_takeFrames_27 : decode cX11_takeFrames 27 = .ok (.istore 4, 2) := by decide +kernel
theorem dX11_takeFrames_29 : decode cX11_takeFrames 29 = .ok (.aload_n 0, 1) := by decide +kernel
theorem dX11_takeFrames_30 : decode cX11_takeFrames 30 = .ok (.getfield 62, 3) := by decide +kernel
theorem dX11_takeFrames_33 : decode cX11_takeFrames 33 = .ok (.iload_n 2, 1) := by decide +kernel
theorem dX11_takeFrames_34 : decode cX11_takeFrames 34 = .ok (.invokevirtual 230, 3) := by decide +kernel
theorem dX11_takeFrames_37 : decode cX11_takeFrames 37 = .ok (.istore 5, 2) := by decide +kernel
theorem dX11_takeFrames_39 : decode cX11_takeFrames 39 = .ok (.aload_n 0, 1) := by decide +kernel
theorem dX11_takeFrames_40 : decode cX11_takeFrames 40 = .ok (.getfield 41, 3) := by decide +kernel
theorem dX11_takeFrames_43 : decode cX11_takeFrames 43 = .ok (.iload 4, 2) := by decide +kernel
theorem dX11_takeFrames_45 : decode cX11_takeFrames 45 = .ok (.iload 5, 2) := by decide +kernel
theorem dX11_takeFrames_47 : decode cX11_takeFrames 47 = .ok (.iastore, 1) := by decide +kernel
theorem dX11_takeFrames_48 : decode cX11_takeFrames 48 = .ok (.aload_n 0, 1) := by decide +kernel
theorem dX11_takeFrames_49 : decode cX11_takeFrames 49 = .ok (.getfield 41, 3) := by decide +kernel
theorem dX11_takeFrames_52 : decode cX11_takeFrames 52 = .ok (.iload 4, 2) := by decide +kernel
theorem dX11_takeFrames_54 : decode cX11_takeFrames 54 = .ok (.iconst 1, 1) := by decide +kernel
theorem dX11_takeFrames_55 : decode cX11_takeFrames 55 = .ok (.iadd, 1) := by decide +kernel
theorem dX11_takeFrames_56 : decode cX11_takeFrames 56 = .ok (.aload_n 0, 1) := by decide +kernel
theorem dX11_takeFrames_57 : decode cX11_takeFrames 57 = .ok (.getfield 62, 3) := by decide +kernel
theorem dX11_takeFrames_60 : decode cX11_takeFrames 60 = .ok (.iload_n 2, 1) := by decide +kernel
theorem dX11_takeFrames_61 : decode cX11_takeFrames 61 = .ok (.iconst 2, 1) := by decide +kernel
theorem dX11_takeFrames_62 : decode cX11_takeFrames 62 = .ok (.iadd, 1) := by decide +kernel
theorem dX11_takeFrames_63 : decode cX11_takeFrames 63 = .ok (.invokevirtual 183, 3) := by decide +kernel
theorem dX11_takeFrames_66 : decode cX11_takeFrames 66 = .ok (.iastore, 1) := by decide +kernel
theorem dX11_takeFrames_67 : decode cX11_takeFrames 67 = .ok (.aload_n 0, 1) := by decide +kernel
theorem dX11_takeFrames_68 : decode cX11_takeFrames 68 = .ok (.iload_n 2, 1) := by decide +kernel
theorem dX11_takeFrames_69 : decode cX11_takeFrames 69 = .ok (.iconst 2, 1) := by decide +kernel
theorem dX11_takeFrames_70 : decode cX11_takeFrames 70 = .ok (.iadd, 1) := by decide +kernel
theorem dX11_takeFrames_71 : decode cX11_takeFrames 71 = .ok (.iload 4, 2) := by decide +kernel
theorem dX11_takeFrames_73 : decode cX11_takeFrames 73 = .ok (.iconst 3, 1) := by decide +kernel
theorem dX11_takeFrames_74 : decode cX11_takeFrames 74 = .ok (.iadd, 1) := by decide +kernel
theorem dX11_takeFrames_75 : decode cX11_takeFrames 75 = .ok (.invokevirtual 233, 3) := by decide +kernel
theorem dX11_takeFrames_78 : decode cX11_takeFrames 78 = .ok (.istore_n 2, 1) := by decide +kernel
theorem dX11_takeFrames_79 : decode cX11_takeFrames 79 = .ok (.aload_n 0, 1) := by decide +kernel
theorem dX11_takeFrames_80 : decode cX11_takeFrames 80 = .ok (.getfield 41, 3) := by decide +kernel
theorem dX11_takeFrames_83 : decode cX11_takeFrames 83 = .ok (.iload 4, 2) := by decide +kernel
theorem dX11_takeFrames_85 : decode cX11_takeFrames 85 = .ok (.iconst 2, 1) := by decide +kernel
theorem dX11_takeFrames_86 : decode cX11_takeFrames 86 = .ok (.iadd, 1) := by decide +kernel
theorem dX11_takeFrames_87 : decode cX11_takeFrames 87 = .ok (.aload_n 0, 1) := by decide +kernel
theorem dX11_takeFrames_88 : decode cX11_takeFrames 88 = .ok (.getfield 62, 3) := by decide +kernel
theorem dX11_takeFrames_91 : decode cX11_takeFrames 91 = .ok (.iload_n 2, 1) := by decide +kernel
theorem dX11_takeFrames_92 : decode cX11_takeFrames 92 = .ok (.invokevirtual 183, 3) := by decide +kernel
theorem dX11_takeFrames_95 : decode cX11_takeFrames 95 = .ok (.iastore, 1) := by decide +kernel
theorem dX11_takeFrames_96 : decode cX11_takeFrames 96 = .ok (.aload_n 0, 1) := by decide +kernel
theorem dX11_takeFrames_97 : decode cX11_takeFrames 97 = .ok (.iload_n 2, 1) := by decide +kernel
theorem dX11_takeFrames_98 : decode cX11_takeFrames 98 = .ok (.iload 4, 2) := by decide +kernel
theorem dX11_takeFrames_100 : decode cX11_takeFrames 100 = .ok (.bipush 33, 2) := by decide +kernel
theorem dX11_takeFrames_102 : decode cX11_takeFrames 102 = .ok (.iadd, 1) := by decide +kernel
theorem dX11_takeFrames_103 : decode cX11_takeFrames 103 = .ok (.invokevirtual 233, 3) := by decide +kernel
theorem dX11_takeFrames_106 : decode cX11_takeFrames 106 = .ok (.istore_n 2, 1) := by decide +kernel
theorem dX11_takeFrames_107 : decode cX11_takeFrames 107 = .ok (.aload_n 0, 1) := by decide +kernel
theorem dX11_takeFrames_108 : decode cX11_takeFrames 108 = .ok (.iload 5, 2) := by decide +kernel
theorem dX11_takeFrames_110 : decode cX11_takeFrames 110 = .ok (.invokevirtual 224, 3) := by decide +kernel
theorem dX11_takeFrames_113 : decode cX11_takeFrames 113 = .ok (.ifCond .eq 22, 3) := by decide +kernel
theorem dX11_takeFrames_116 : decode cX11_takeFrames 116 = .ok (.aload_n 0, 1) := by decide +kernel
theorem dX11_takeFrames_117 : decode cX11_takeFrames 117 = .ok (.getfield 38, 3) := by decide +kernel
theorem dX11_takeFrames_120 : decode cX11_takeFrames 120 = .ok (.iload 5, 2) := by decide +kernel
theorem dX11_takeFrames_122 : decode cX11_takeFrames 122 = .ok (.iaload, 1) := by decide +kernel
theorem dX11_takeFrames_123 : decode cX11_takeFrames 123 = .ok (.iconst (-1), 1) := by decide +kernel
theorem dX11_takeFrames_124 : decode cX11_takeFrames 124 = .ok (.if_icmp .ne 11, 3) := by decide +kernel
theorem dX11_takeFrames_127 : decode cX11_takeFrames 127 = .ok (.aload_n 0, 1) := by decide +kernel
theorem dX11_takeFrames_128 : decode cX11_takeFrames 128 = .ok (.getfield 38, 3) := by decide +kernel
theorem dX11_takeFrames_131 : decode cX11_takeFrames 131 = .ok (.iload 5, 2) := by decide +kernel
theorem dX11_takeFrames_133 : decode cX11_takeFrames 133 = .ok (.iload_n 3, 1) := by decide +kernel
theorem dX11_takeFrames_134 : decode cX11_takeFrames 134 = .ok (.iastore, 1) := by decide +kernel
theorem dX11_takeFrames_135 : decode cX11_takeFrames 135 = .ok (.iinc 3 1, 3) := by decide +kernel
theorem dX11_takeFrames_138 : decode cX11_takeFrames 138 = .ok (.goto (-129), 3) := by decide +kernel
theorem dX11_takeFrames_141 : decode cX11_takeFrames 141 = .ok (.return_, 1) := by decide +kernel
theorem rs_RX11_97 : mx_res RX11 97 = some (1, 315, 0) := by decide +kernel
theorem rs_RX11_106 : mx_res RX11 106 = some (1, 325, 0) := by decide +kernel
theorem rs_RX11_110 : mx_res RX11 110 = some (1, 328, 0) := by decide +kernel
theorem rs_RX11_113 : mx_res RX11 113 = some (1, 329, 1) := by decide +kernel
theorem rs_RX11_117 : mx_res RX11 117 = some (1, 332, 0) := by decide +kernel
theorem rs_RX11_120 : mx_res RX11 120 = some (1, 335, 0) := by decide +kernel
theorem rs_RX11_123 : mx_res RX11 123 = some (1, 337, 1) := by decide +kernel
theorem rs_RX11_126 : mx_res RX11 126 = some (1, 338, 0) := by decide +kernel
theorem ft_11_6 : mx_fty 11 6 = some (.int, false, "ClassMill$Verifier") := by decide +kernel
theorem mt_X11_proveMethods : mx_mt 308 = some (yX11_proveMethods, cX11_proveMethods, 4, (some .int)) := rfl
theorem dX11_proveMethods_0 : decode cX11_proveMethods 0 = .ok (.bipush 8, 2) := by decide +kernel
theorem dX11_proveMethods_2 : decode cX11_proveMethods 2 = .ok (.istore_n 1, 1) := by decide +kernel
theorem dX11_proveMethods_3 : decode cX11_proveMethods 3 = .ok (.iload_n 1, 1) := by decide +kernel
theorem dX11_proveMethods_4 : decode cX11_proveMethods 4 = .ok (.bipush 8, 2) := by decide +kernel
theorem dX11_proveMethods_6 : decode cX11_proveMethods 6 = .ok (.aload_n 0, 1) := by decide +kernel
theorem dX11_proveMethods_7 : decode cX11_proveMethods 7 = .ok (.getfield 50, 3) := by decide +kernel
theorem dX11_proveMethods_10 : decode cX11_proveMethods 10 = .ok (.getfield 68, 3) := by decide +kernel
theorem dX11_proveMethods_13 : decode cX11_proveMethods 13 = .ok (.iadd, 1) := by decide +kernel
theorem dX11_proveMethods_14 : decode cX11_proveMethods 14 = .ok (.if_icmp .ge 133, 3) := by decide +kernel
theorem dX11_proveMethods_17 : decode cX11_proveMethods 17 = .ok (.aload_n 0, 1) := by decide +kernel
theorem dX11_proveMethods_18 : decode cX11_proveMethods 18 = .ok (.iload_n 1, 1) := by decide +kernel
theorem dX11_proveMethods_19 : decode cX11_proveMethods 19 = .ok (.invokevirtual 71, 3) := by decide +kernel
theorem dX11_proveMethods_22 : decode cX11_proveMethods 22 = .ok (.aload_n 0, 1) := by decide +kernel
theorem dX11_proveMethods_23 : decode cX11_proveMethods 23 = .ok (.invokevirtual 97, 3) := by decide +kernel
theorem dX11_proveMethods_26 : decode cX11_proveMethods 26 = .ok (.iconst 0, 1) := by decide +kernel
theorem dX11_proveMethods_27 : decode cX11_proveMethods 27 = .ok (.istore_n 2, 1) := by decide +kernel
theorem dX11_proveMethods_28 : decode cX11_proveMethods 28 = .ok (.iload_n 2, 1) := by decide +kernel
theorem dX11_proveMethods_29 : decode cX11_proveMethods 29 = .ok (.aload_n 0, 1) := by decide +kernel
theorem dX11_proveMethods_30 : decode cX11_proveMethods 30 = .ok (.getfield 62, 3) := by decide +kernel
theorem dX11_proveMethods_33 : decode cX11_proveMethods 33 = .ok (.getfield 100, 3) := by decide +kernel
theorem dX11_proveMethods_36 : decode cX11_proveMethods 36 = .ok (.if_icmp .ge 105, 3) := by decide +kernel
theorem dX11_proveMethods_39 : decode cX11_proveMethods 39 = .ok (.aload_n 0, 1) := by decide +kernel
theorem dX11_proveMethods_40 : decode cX11_proveMethods 40 = .ok (.iload_n 2, 1) := by decide +kernel
theorem dX11_proveMethods_41 : decode cX11_proveMethods 41 = .ok (.putfield 103, 3) := by decide +kernel
theorem dX11_proveMethods_44 : decode cX11_proveMethods 44 = .ok (.aload_n 0, 1) := by decide +kernel
theorem dX11_proveMethods_45 : decode cX11_proveMethods 45 = .ok (.invokevirtual 106, 3) := by decide +kernel
theorem dX11_proveMethods_48 : decode cX11_proveMethods 48 = .ok (.istore_n 3, 1) := by decide +kernel
theorem dX11_proveMethods_49 : decode cX11_proveMethods 49 = .ok (.iload_n 3, 1) := by decide +kernel
theorem dX11_proveMethods_50 : decode cX11_proveMethods 50 = .ok (.ifCond .eq 7, 3) := by decide +kernel
theorem dX11_proveMethods_53 : decode cX11_proveMethods 53 = .ok (.iload_n 3, 1) := by decide +kernel
theorem dX11_proveMethods_54 : decode cX11_proveMethods 54 = .ok (.goto 7, 3) := by decide +kernel
theorem dX11_proveMethods_57 : decode cX11_proveMethods 57 = .ok (.aload_n 0, 1) := by decide +kernel
theorem dX11_proveMethods_58 : decode cX11_proveMethods 58 = .ok (.invokevirtual 110, 3) := by decide +kernel
theorem dX11_proveMethods_61 : decode cX11_proveMethods 61 = .ok (.istore_n 3, 1) := by decide +kernel
theorem dX11_proveMethods_62 : decode cX11_proveMethods 62 = .ok (.aload_n 0, 1) := by decide +kernel
theorem dX11_proveMethods_63 : decode cX11_proveMethods 63 = .ok (.iload_n 3, 1) := by decide +kernel
theorem dX11_proveMethods_64 : decode cX11_proveMethods 64 = .ok (.ifCond .ne 7, 3) := by decide +kernel
theorem dX11_proveMethods_67 : decode cX11_proveMethods 67 = .ok (.iconst 1, 1) := by decide +kernel
theorem dX11_proveMethods_68 : decode cX11_proveMethods 68 = .ok (.goto 4, 3) := by decide +kernel
theorem dX11_proveMethods_71 : decode cX11_proveMethods 71 = .ok (.iconst 0, 1) := by decide +kernel
theorem dX11_proveMethods_72 : decode cX11_proveMethods 72 = .ok (.invokevirtual 113, 3) := by decide +kernel
theorem dX11_proveMethods_75 : decode cX11_proveMethods 75 = .ok (.iload_n 3, 1) := by decide +kernel
theorem dX11_proveMethods_76 : decode cX11_proveMethods 76 = .ok (.ifCond .eq 7, 3) := by decide +kernel
theorem dX11_proveMethods_79 : decode cX11_proveMethods 79 = .ok (.iload_n 3, 1) := by decide +kernel
theorem dX11_proveMethods_80 : decode cX11_proveMethods 80 = .ok (.goto 7, 3) := by decide +kernel
theorem dX11_proveMethods_83 : decode cX11_proveMethods 83 = .ok (.aload_n 0, 1) := by decide +kernel
theorem dX11_proveMethods_84 : decode cX11_proveMethods 84 = .ok (.invokevirtual 117, 3) := by decide +kernel
theorem dX11_proveMethods_87 : decode cX11_proveMethods 87 = .ok (.istore_n 3, 1) := by decide +kernel
theorem dX11_proveMethods_88 : decode cX11_proveMethods 88 = .ok (.iload_n 3, 1) := by decide +kernel
theorem dX11_proveMethods_89 : decode cX11_proveMethods 89 = .ok (.ifCond .eq 7, 3) := by decide +kernel
theorem dX11_proveMethods_92 : decode cX11_proveMethods 92 = .ok (.iload_n 3, 1) := by decide +kernel
theorem dX11_proveMethods_93 : decode cX11_proveMethods 93 = .ok (.goto 7, 3) := by decide +kernel
theorem dX11_proveMethods_96 : decode cX11_proveMethods 96 = .ok (.aload_n 0, 1) := by decide +kernel
theorem dX11_proveMethods_97 : decode cX11_proveMethods 97 = .ok (.invokevirtual 120, 3) := by decide +kernel
theorem dX11_proveMethods_100 : decode cX11_proveMethods 100 = .ok (.istore_n 3, 1) := by decide +kernel
theorem dX11_proveMethods_101 : decode cX11_proveMethods 101 = .ok (.aload_n 0, 1) := by decide +kernel
theorem dX11_proveMethods_102 : decode cX11_proveMethods 102 = .ok (.iload_n 1, 1) := by decide +kernel
theorem dX11_proveMethods_103 : decode cX11_proveMethods 103 = .ok (.invokevirtual 123, 3) := by decide +kernel
theorem dX11_proveMethods_106 : decode cX11_proveMethods 106 = .ok (.iload_n 3, 1) := by decide +kernel
theorem dX11_proveMethods_107 : decode cX11_proveMethods 107 = .ok (.ifCond .eq 7, 3) := by decide +kernel
theorem dX11_proveMethods_110 : decode cX11_proveMethods 110 = .ok (.iload_n 3, 1) := by decide +kernel
theorem dX11_proveMethods_111 : decode cX11_proveMethods 111 = .ok (.goto 7, 3) := by decide +kernel
theorem dX11_proveMethods_114 : decode cX11_proveMethods 114 = .ok (.aload_n 0, 1) := by decide +kernel
theorem dX11_proveMethods_115 : decode cX11_proveMethods 115 = .ok (.invokevirtual 126, 3) := by decide +kernel
theorem dX11_proveMethods_118 : decode cX11_proveMethods 118 = .ok (.istore_n 3, 1) := by decide +kernel
theorem dX11_proveMethods_119 : decode cX11_proveMethods 119 = .ok (.iload_n 3, 1) := by decide +kernel
theorem dX11_proveMethods_120 : decode cX11_proveMethods 120 = .ok (.ifCond .eq 15, 3) := by decide +kernel
theorem dX11_proveMethods_123 : decode cX11_proveMethods 123 = .ok (.aload_n 0, 1) := by decide +kernel
theorem dX11_proveMethods_124 : decode cX11_proveMethods 124 = .ok (.iload_n 3, 1) := by decide +kernel
theorem dX11_proveMethods_125 : decode cX11_proveMethods 125 = .ok (.iload_n 1, 1) := by decide +kernel
theorem dX11_proveMethods_126 : decode cX11_proveMethods 126 = .ok (.iload_n 2, 1) := by decide +kernel
theorem dX11_proveMethods_127 : decode cX11_proveMethods 127 = .ok (.aload_n 0, 1) := by decide +kernel
theorem dX11_proveMethods_128 : decode cX11_proveMethods 128 = .ok (.getfield 129, 3) := by decide +kernel
theorem dX11_proveMethods_131 : decode cX11_proveMethods 131 = .ok (.invokevirtual 93, 3) := by decide +kernel
theorem dX11_proveMethods_134 : decode cX11_proveMethods 134 = .ok (.ireturn, 1) := by decide +kernel
theorem dX11_proveMethods_135 : decode cX11_proveMethods 135 = .ok (.iinc 2 1, 3) := by decide +kernel
theorem dX11_proveMethods_138 : decode cX11_proveMethods 138 = .ok (.goto (-110), 3) := by decide +kernel
theorem dX11_proveMethods_141 : decode cX11_proveMethods 141 = .ok (.iinc 1 1, 3) := by decide +kernel
theorem dX11_proveMethods_144 : decode cX11_proveMethods 144 = .ok (.goto (-141), 3) := by decide +kernel
theorem dX11_proveMethods_147 : decode cX11_proveMethods 147 = .ok (.iconst 0, 1) := by decide +kernel
theorem dX11_proveMethods_148 : decode cX11_proveMethods 148 = .ok (.ireturn, 1) := by decide +kernel
theorem mt_X7_cellsAbove : mx_mt 213 = some (yX7_cellsAbove, cX7_cellsAbove, 6, (some .int)) := rfl
theorem dX7_cellsAbove_0 : decode cX7_cellsAbove 0 = .ok (.iconst 0, 1) := by decide +kernel
theorem dX7_cellsAbove_1 : decode cX7_cellsAbove 1 = .ok (.istore_n 2, 1) := by decide +kernel
theorem dX7_cellsAbove_2 : decode cX7_cellsAbove 2 = .ok (.iload_n 1, 1) := by decide +kernel
theorem dX7_cellsAbove_3 : decode cX7_cellsAbove 3 = .ok (.istore_n 3, 1) := by decide +kernel
theorem dX7_cellsAbove_4 : decode cX7_cellsAbove 4 = .ok (.iconst 0, 1) := by decide +kernel
theorem dX7_cellsAbove_5 : decode cX7_cellsAbove 5 = .ok (.istore 4, 2) := by decide +kernel
theorem dX7_cellsAbove_7 : decode cX7_cellsAbove 7 = .ok (.iload 4, 2) := by decide +kernel
theorem dX7_cellsAbove_9 : decode cX7_cellsAbove 9 = .ok (.bipush 16, 2) := by decide +kernel
theorem dX7_cellsAbove_11 : decode cX7_cellsAbove 11 = .ok (.if_icmp .ge 40, 3) := by decide +kernel
theorem dX7_cellsAbove_14 : decode cX7_cellsAbove 14 = .ok (.aload_n 0, 1) := by decide +kernel
theorem dX7_cellsAbove_15 : decode cX7_cellsAbove 15 = .ok (.iload_n 3, 1) := by decide +kernel
theorem dX7_cellsAbove_16 : decode cX7_cellsAbove 16 = .ok (.invokevirtual 90, 3) := by decide +kernel
theorem dX7_cellsAbove_19 : decode cX7_cellsAbove 19 = .ok (.astore 5, 2) := by decide +kernel
theorem dX7_cellsAbove_21 : decode cX7_cellsAbove 21 = .ok (.aload 5, 2) := by decide +kernel
theorem dX7_cellsAbove_23 : decode cX7_cellsAbove 23 = .ok (.ifnonnull 5, 3) := by decide +kernel
theorem dX7_cellsAbove_26 : decode cX7_cellsAbove 26 = .ok (.iload_n 2, 1) := by decide +kernel
theorem dX7_cellsAbove_27 : decode cX7_cellsAbove 27 = .ok (.ireturn, 1) := by decide +kernel
theorem dX7_cellsAbove_28 : decode cX7_cellsAbove 28 = .ok (.iload_n 2, 1) := by decide +kernel
theorem dX7_cellsAbove_29 : decode cX7_cellsAbove 29 = .ok (.aload 5, 2) := by decide +kernel
theorem dX7_cellsAbove_31 : decode cX7_cellsAbove 31 = .ok (.getfield 129, 3) := by decide +kernel
theorem dX7_cellsAbove_34 : decode cX7_cellsAbove 34 = .ok (.iadd, 1) := by decide +kernel
theorem dX7_cellsAbove_35 : decode cX7_cellsAbove 35 = .ok (.istore_n 2, 1) := by decide +kernel
theorem dX7_cellsAbove_36 : decode cX7_cellsAbove 36 = .ok (.aload_n 0, 1) := by decide +kernel
theorem dX7_cellsAbove_37 : decode cX7_cellsAbove 37 = .ok (.getfield 16, 3) := by decide +kernel
theorem dX7_cellsAbove_40 : decode cX7_cellsAbove 40 = .ok (.iload_n 3, 1) := by decide +kernel
theorem dX7_cellsAbove_41 : decode cX7_cellsAbove 41 = .ok (.invokevirtual 138, 3) := by decide +kernel
theorem dX7_cellsAbove_44 : decode cX7_cellsAbove 44 = .ok (.istore_n 3, 1) := by decide +kernel
theorem dX7_cellsAbove_45 : decode cX7_cellsAbove 45 = .ok (.iinc 4 1, 3) := by decide +kernel
theorem dX7_cellsAbove_48 : decode cX7_cellsAbove 48 = .ok (.goto (-41), 3) := by decide +kernel
theorem dX7_cellsAbove_51 : decode cX7_cellsAbove 51 = .ok (.iload_n 2, 1) := by decide +kernel
theorem dX7_cellsAbove_52 : decode cX7_cellsAbove 52 = .ok (.ireturn, 1) := by decide +kernel
theorem rs_RX7_168 : mx_res RX7 168 = some (1, 211, 3) := by decide +kernel
theorem mt_X7_linkMethods : mx_mt 215 = some (yX7_linkMethods, cX7_linkMethods, 6, none) := rfl
theorem dX7_linkMethods_0 : decode cX7_linkMethods 0 = .ok (.bipush 8, 2) := by decide +kernel
theorem dX7_linkMethods_2 : decode cX7_linkMethods 2 = .ok (.iload_n 1, 1) := by decide +kernel
theorem dX7_linkMethods_3 : decode cX7_linkMethods 3 = .ok (.iadd, 1) := by decide +kernel
theorem dX7_linkMethods_4 : decode cX7_linkMethods 4 = .ok (.istore_n 2, 1) := by decide +kernel
theorem dX7_linkMethods_5 : decode cX7_linkMethods 5 = .ok (.iconst 0, 1) := by decide +kernel
theorem dX7_linkMethods_6 : decode cX7_linkMethods 6 = .ok (.istore_n 3, 1) := by decide +kernel
theorem dX7_linkMethods_7 : decode cX7_linkMethods 7 = .ok (.iload_n 3, 1) := by decide +kernel
theorem dX7_linkMethods_8 : decode cX7_linkMethods 8 = .ok (.bipush 16, 2) := by decide +kernel
theorem dX7_linkMethods_10 : decode cX7_linkMethods 10 = .ok (.if_icmp .ge 85, 3) := by decide +kernel
theorem dX7_linkMethods_13 : decode cX7_linkMethods 13 = .ok (.aload_n 0, 1) := by decide +kernel
theorem dX7_linkMethods_14 : decode cX7_linkMethods 14 = .ok (.iload_n 2, 1) := by decide +kernel
theorem dX7_linkMethods_15 : decode cX7_linkMethods 15 = .ok (.invokevirtual 90, 3) := by decide +kernel
theorem dX7_linkMethods_18 : decode cX7_linkMethods 18 = .ok (.astore 4, 2) := by decide +kernel
theorem dX7_linkMethods_20 : decode cX7_linkMethods 20 = .ok (.aload 4, 2) := by decide +kernel
theorem dX7_linkMethods_22 : decode cX7_linkMethods 22 = .ok (.ifnonnull 4, 3) := by decide +kernel
theorem dX7_linkMethods_25 : decode cX7_linkMethods 25 = .ok (.return_, 1) := by decide +kernel
theorem dX7_linkMethods_26 : decode cX7_linkMethods 26 = .ok (.iconst 0, 1) := by decide +kernel
theorem dX7_linkMethods_27 : decode cX7_linkMethods 27 = .ok (.istore 5, 2) := by decide +kernel
theorem dX7_linkMethods_29 : decode cX7_linkMethods 29 = .ok (.iload 5, 2) := by decide +kernel
theorem dX7_linkMethods_31 : decode cX7_linkMethods 31 = .ok (.aload 4, 2) := by decide +kernel
theorem dX7_linkMethods_33 : decode cX7_linkMethods 33 = .ok (.getfield 141, 3) := by decide +kernel
theorem dX7_linkMethods_36 : decode cX7_linkMethods 36 = .ok (.if_icmp .ge 44, 3) := by decide +kernel
theorem dX7_linkMethods_39 : decode cX7_linkMethods 39 = .ok (.aload_n 0, 1) := by decide +kernel
theorem dX7_linkMethods_40 : decode cX7_linkMethods 40 = .ok (.getfield 38, 3) := by decide +kernel
theorem dX7_linkMethods_43 : decode cX7_linkMethods 43 = .ok (.iload_n 1, 1) := by decide +kernel
theorem dX7_linkMethods_44 : decode cX7_linkMethods 44 = .ok (.bipush 96, 2) := by decide +kernel
theorem dX7_linkMethods_46 : decode cX7_linkMethods 46 = .ok (.imul, 1) := by decide +kernel
theorem dX7_linkMethods_47 : decode cX7_linkMethods 47 = .ok (.aload_n 0, 1) := by decide +kernel
theorem dX7_linkMethods_48 : decode cX7_linkMethods 48 = .ok (.iload_n 2, 1) := by decide +kernel
theorem dX7_linkMethods_49 : decode cX7_linkMethods 49 = .ok (.iload 5, 2) := by decide +kernel
theorem dX7_linkMethods_51 : decode cX7_linkMethods 51 = .ok (.invokevirtual 135, 3) := by decide +kernel
theorem dX7_linkMethods_54 : decode cX7_linkMethods 54 = .ok (.iadd, 1) := by decide +kernel
theorem dX7_linkMethods_55 : decode cX7_linkMethods 55 = .ok (.aload_n 0, 1) := by decide +kernel
theorem dX7_linkMethods_56 : decode cX7_linkMethods 56 = .ok (.bipush 8, 2) := by decide +kernel
theorem dX7_linkMethods_58 : decode cX7_linkMethods 58 = .ok (.iload_n 1, 1) := by decide +kernel
theorem dX7_linkMethods_59 : decode cX7_linkMethods 59 = .ok (.iadd, 1) := by decide +kernel
theorem dX7_linkMethods_60 : decode cX7_linkMethods 60 = .ok (.aload 4, 2) := by decide +kernel
theorem dX7_linkMethods_62 : decode cX7_linkMethods 62 = .ok (.aload 4, 2) := by decide +kernel
theorem dX7_linkMethods_64 : decode cX7_linkMethods 64 = .ok (.iload 5, 2) := by decide +kernel
theorem dX7_linkMethods_66 : decode cX7_linkMethods 66 = .ok (.iconst 1, 1) := by decide +kernel
theorem dX7_linkMethods_67 : decode cX7_linkMethods 67 = .ok (.invokevirtual 144, 3) := by decide +kernel
theorem dX7_linkMethods_70 : decode cX7_linkMethods 70 = .ok (.invokevirtual 168, 3) := by decide +kernel
theorem dX7_linkMethods_73 : decode cX7_linkMethods 73 = .ok (.iastore, 1) := by decide +kernel
theorem dX7_linkMethods_74 : decode cX7_linkMethods 74 = .ok (.iinc 5 1, 3) := by decide +kernel
theorem dX7_linkMethods_77 : decode cX7_linkMethods 77 = .ok (.goto (-48), 3) := by decide +kernel
theorem dX7_linkMethods_80 : decode cX7_linkMethods 80 = .ok (.aload_n 0, 1) := by decide +kernel
theorem dX7_linkMethods_81 : decode cX7_linkMethods 81 = .ok (.getfield 16, 3) := by decide +kernel
theorem dX7_linkMethods_84 : decode cX7_linkMethods 84 = .ok (.iload_n 2, 1) := by decide +kernel
theorem dX7_linkMethods_85 : decode cX7_linkMethods 85 = .ok (.invokevirtual 138, 3) := by decide +kernel
theorem dX7_linkMethods_88 : decode cX7_linkMethods 88 = .ok (.istore_n 2, 1) := by decide +kernel
theorem dX7_linkMethods_89 : decode cX7_linkMethods 89 = .ok (.iinc 3 1, 3) := by decide +kernel
theorem dX7_linkMethods_92 : decode cX7_linkMethods 92 = .ok (.goto (-85), 3) := by decide +kernel
theorem dX7_linkMethods_95 : decode cX7_linkMethods 95 = .ok (.return_, 1) := by decide +kernel
theorem mt_X3_numberOf : mx_mt 106 = some (yX3_numberOf, cX3_numberOf, 2, (some .int)) := rfl
theorem dX3_numberOf_0 : decode cX3_numberOf 0 = .ok (.aload_n 0, 1) := by decide +kernel
theorem dX3_numberOf_1 : decode cX3_numberOf 1 = .ok (.iload_n 1, 1) := by decide +kernel
theorem dX3_numberOf_2 : decode cX3_numberOf 2 = .ok (.iconst 0, 1) := by decide +kernel
theorem dX3_numberOf_3 : decode cX3_numberOf 3 = .ok (.invokevirtual 99, 3) := by decide +kernel
theorem dX3_numberOf_6 : decode cX3_numberOf 6 = .ok (.bipush 24, 2) := by decide +kernel
theorem dX3_numberOf_8 : decode cX3_numberOf 8 = .ok (.ishl, 1) := by decide +kernel
theorem dX3_numberOf_9 : decode cX3_numberOf 9 = .ok (.aload_n 0, 1) := by decide +kernel
theorem dX3_numberOf_10 : decode cX3_numberOf 10 = .ok (.iload_n 1, 1) := by decide +kernel
theorem dX3_numberOf_11 : decode cX3_numberOf 11 = .ok (.iconst 1, 1) := by decide +kernel
theorem dX3_numberOf_12 : decode cX3_numberOf 12 = .ok (.invokevirtual 99, 3) := by decide +kernel
theorem dX3_numberOf_15 : decode cX3_numberOf 15 = .ok (.bipush 16, 2) := by decide +kernel
theorem dX3_numberOf_17 : decode cX3_numberOf 17 = .ok (.ishl, 1) := by decide +kernel
theorem dX3_numberOf_18 : decode cX3_numberOf 18 = .ok (.ior, 1) := by decide +kernel
theorem dX3_numberOf_19 : decode cX3_numberOf 19 = .ok (.aload_n 0, 1) := by decide +kernel
theorem dX3_numberOf_20 : decode cX3_numberOf 20 = .ok (.iload_n 1, 1) := by decide +kernel
theorem dX3_numberOf_21 : decode cX3_numberOf 21 = .ok (.iconst 2, 1) := by decide +kernel
theorem dX3_numberOf_22 : decode cX3_numberOf 22 = .ok (.invokevirtual 99, 3) := by decide +kernel
theorem dX3_numberOf_25 : decode cX3_numberOf 25 = .ok (.bipush 8, 2) := by decide +kernel
theorem dX3_numberOf_27 : decode cX3_numberOf 27 = .ok (.ishl, 1) := by decide +kernel
theorem dX3_numberOf_28 : decode cX3_numberOf 28 = .ok (.ior, 1) := by decide +kernel
theorem dX3_numberOf_29 : decode cX3_numberOf 29 = .ok (.aload_n 0, 1) := by decide +kernel
theorem dX3_numberOf_30 : decode cX3_numberOf 30 = .ok (.iload_n 1, 1) := by decide +kernel
theorem dX3_numberOf_31 : decode cX3_numberOf 31 = .ok (.iconst 3, 1) := by decide +kernel
theorem dX3_numberOf_32 : decode cX3_numberOf 32 = .ok (.invokevirtual 99, 3) := by decide +kernel
theorem dX3_numberOf_35 : decode cX3_numberOf 35 = .ok (.ior, 1) := by decide +kernel
theorem dX3_numberOf_36 : decode cX3_numberOf 36 = .ok (.ireturn, 1) := by decide +kernel
theorem rs_RX7_147 : mx_res RX7 147 = some (1, 213, 1) := by decide +kernel
theorem rs_RX7_160 : mx_res RX7 160 = some (1, 102, 1) := by decide +kernel
theorem rs_RX7_163 : mx_res RX7 163 = some (1, 106, 1) := by decide +kernel
theorem rs_RX7_165 : mx_res RX7 165 = some (1, 206, 2) := by decide +kernel
theorem rs_RX7_172 : mx_res RX7 172 = some (1, 210, 3) := by decide +kernel
theorem mt_X7_linkOf : mx_mt 214 = some (yX7_linkOf, cX7_linkOf, 7, (some .int)) := rfl
theorem dX7_linkOf_0 : decode cX7_linkOf 0 = .ok (.aload_n 1, 1) := by decide +kernel
theorem dX7_linkOf_1 : decode cX7_linkOf 1 = .ok (.iload_n 2, 1) := by decide +kernel
theorem dX7_linkOf_2 : decode cX7_linkOf 2 = .ok (.invokevirtual 160, 3) := by decide +kernel
theorem dX7_linkOf_5 : decode cX7_linkOf 5 = .ok (.istore_n 3, 1) := by decide +kernel
theorem dX7_linkOf_6 : decode cX7_linkOf 6 = .ok (.iload_n 3, 1) := by decide +kernel
theorem dX7_linkOf_7 : decode cX7_linkOf 7 = .ok (.iconst 2, 1) := by decide +kernel
theorem dX7_linkOf_8 : decode cX7_linkOf 8 = .ok (.if_icmp .ne 9, 3) := by decide +kernel
theorem dX7_linkOf_11 : decode cX7_linkOf 11 = .ok (.aload_n 1, 1) := by decide +kernel
theorem dX7_linkOf_12 : decode cX7_linkOf 12 = .ok (.iload_n 2, 1) := by decide +kernel
theorem dX7_linkOf_13 : decode cX7_linkOf 13 = .ok (.invokevirtual 163, 3) := by decide +kernel
theorem dX7_linkOf_16 : decode cX7_linkOf 16 = .ok (.ireturn, 1) := by decide +kernel
theorem dX7_linkOf_17 : decode cX7_linkOf 17 = .ok (.iload_n 3, 1) := by decide +kernel
theorem dX7_linkOf_18 : decode cX7_linkOf 18 = .ok (.iconst 3, 1) := by decide +kernel
theorem dX7_linkOf_19 : decode cX7_linkOf 19 = .ok (.if_icmp .ne 10, 3) := by decide +kernel
theorem dX7_linkOf_22 : decode cX7_linkOf 22 = .ok (.aload_n 0, 1) := by decide +kernel
theorem dX7_linkOf_23 : decode cX7_linkOf 23 = .ok (.aload_n 1, 1) := by decide +kernel
theorem dX7_linkOf_24 : decode cX7_linkOf 24 = .ok (.iload_n 2, 1) := by decide +kernel
theorem dX7_linkOf_25 : decode cX7_linkOf 25 = .ok (.invokevirtual 165, 3) := by decide +kernel
theorem dX7_linkOf_28 : decode cX7_linkOf 28 = .ok (.ireturn, 1) := by decide +kernel
theorem dX7_linkOf_29 : decode cX7_linkOf 29 = .ok (.iload_n 3, 1) := by decide +kernel
theorem dX7_linkOf_30 : decode cX7_linkOf 30 = .ok (.iconst 4, 1) := by decide +kernel
theorem dX7_linkOf_31 : decode cX7_linkOf 31 = .ok (.if_icmp .eq 5, 3) := by decide +kernel
theorem dX7_linkOf_34 : decode cX7_linkOf 34 = .ok (.iconst (-1), 1) := by decide +kernel
theorem dX7_linkOf_35 : decode cX7_linkOf 35 = .ok (.ireturn, 1) := by decide +kernel
theorem dX7_linkOf_36 : decode cX7_linkOf 36 = .ok (.aload_n 0, 1) := by decide +kernel
theorem dX7_linkOf_37 : decode cX7_linkOf 37 = .ok (.aload_n 1, 1) := by decide +kernel
theorem dX7_linkOf_38 : decode cX7_linkOf 38 = .ok (.aload_n 1, 1) := by decide +kernel
theorem dX7_linkOf_39 : decode cX7_linkOf 39 = .ok (.iload_n 2, 1) := by decide +kernel
theorem dX7_linkOf_40 : decode cX7_linkOf 40 = .ok (.iconst 0, 1) := by decide +kernel
theorem dX7_linkOf_41 : decode cX7_linkOf 41 = .ok (.invokevirtual 120, 3) := by decide +kernel
theorem dX7_linkOf_44 : decode cX7_linkOf 44 = .ok (.invokevirtual 165, 3) := by decide +kernel
theorem dX7_linkOf_47 : decode cX7_linkOf 47 = .ok (.istore 4, 2) := by decide +kernel
theorem dX7_linkOf_49 : decode cX7_linkOf 49 = .ok (.aload_n 1, 1) := by decide +kernel
theorem dX7_linkOf_50 : decode cX7_linkOf 50 = .ok (.aload_n 1, 1) := by decide +kernel
theorem dX7_linkOf_51 : decode cX7_linkOf 51 = .ok (.aload_n 1, 1) := by decide +kernel
theorem dX7_linkOf_52 : decode cX7_linkOf 52 = .ok (.iload_n 2, 1) := by decide +kernel
theorem dX7_linkOf_53 : decode cX7_linkOf 53 = .ok (.iconst 2, 1) := by decide +kernel
theorem dX7_linkOf_54 : decode cX7_linkOf 54 = .ok (.invokevirtual 120, 3) := by decide +kernel
theorem dX7_linkOf_57 : decode cX7_linkOf 57 = .ok (.invokevirtual 59, 3) := by decide +kernel
theorem dX7_linkOf_60 : decode cX7_linkOf 60 = .ok (.invokevirtual 117, 3) := by decide +kernel
theorem dX7_linkOf_63 : decode cX7_linkOf 63 = .ok (.bipush 40, 2) := by decide +kernel
theorem dX7_linkOf_65 : decode cX7_linkOf 65 = .ok (.if_icmp .ne 17, 3) := by decide +kernel
theorem dX7_linkOf_68 : decode cX7_linkOf 68 = .ok (.aload_n 0, 1) := by decide +kernel
theorem dX7_linkOf_69 : decode cX7_linkOf 69 = .ok (.iload 4, 2) := by decide +kernel
theorem dX7_linkOf_71 : decode cX7_linkOf 71 = .ok (.aload_n 1, 1) := by decide +kernel
theorem dX7_linkOf_72 : decode cX7_linkOf 72 = .ok (.aload_n 1, 1) := by decide +kernel
theorem dX7_linkOf_73 : decode cX7_linkOf 73 = .ok (.iload_n 2, 1) := by decide +kernel
theorem dX7_linkOf_74 : decode cX7_linkOf 74 = .ok (.iconst 1, 1) := by decide +kernel
theorem dX7_linkOf_75 : decode cX7_linkOf 75 = .ok (.invokevirtual 120, 3) := by decide +kernel
theorem dX7_linkOf_78 : decode cX7_linkOf 78 = .ok (.invokevirtual 168, 3) := by decide +kernel
theorem dX7_linkOf_81 : decode cX7_linkOf 81 = .ok (.ireturn, 1) := by decide +kernel
theorem dX7_linkOf_82 : decode cX7_linkOf 82 = .ok (.aload_n 0, 1) := by decide +kernel
theorem dX7_linkOf_83 : decode cX7_linkOf 83 = .ok (.iload 4, 2) := by decide +kernel
theorem dX7_linkOf_85 : decode cX7_linkOf 85 = .ok (.aload_n 1, 1) := by decide +kernel
theorem dX7_linkOf_86 : decode cX7_linkOf 86 = .ok (.aload_n 1, 1) := by decide +kernel
theorem dX7_linkOf_87 : decode cX7_linkOf 87 = .ok (.iload_n 2, 1) := by decide +kernel
theorem dX7_linkOf_88 : decode cX7_linkOf 88 = .ok (.iconst 1, 1) := by decide +kernel
theorem dX7_linkOf_89 : decode cX7_linkOf 89 = .ok (.invokevirtual 120, 3) := by decide +kernel
theorem dX7_linkOf_92 : decode cX7_linkOf 92 = .ok (.invokevirtual 172, 3) := by decide +kernel
theorem dX7_linkOf_95 : decode cX7_linkOf 95 = .ok (.istore 5, 2) := by decide +kernel
theorem dX7_linkOf_97 : decode cX7_linkOf 97 = .ok (.iload 5, 2) := by decide +kernel
theorem dX7_linkOf_99 : decode cX7_linkOf 99 = .ok (.iconst (-1), 1) := by decide +kernel
theorem dX7_linkOf_100 : decode cX7_linkOf 100 = .ok (.if_icmp .ne 5, 3) := by decide +kernel
theorem dX7_linkOf_103 : decode cX7_linkOf 103 = .ok (.iconst (-1), 1) := by decide +kernel
theorem dX7_linkOf_104 : decode cX7_linkOf 104 = .ok (.ireturn, 1) := by decide +kernel
theorem dX7_linkOf_105 : decode cX7_linkOf 105 = .ok (.bipush 8, 2) := by decide +kernel
theorem dX7_linkOf_107 : decode cX7_linkOf 107 = .ok (.iload 5, 2) := by decide +kernel
theorem dX7_linkOf_109 : decode cX7_linkOf 109 = .ok (.bipush 12, 2) := by decide +kernel
theorem dX7_linkOf_111 : decode cX7_linkOf 111 = .ok (.idiv, 1) := by decide +kernel
theorem dX7_linkOf_112 : decode cX7_linkOf 112 = .ok (.iadd, 1) := by decide +kernel
theorem dX7_linkOf_113 : decode cX7_linkOf 113 = .ok (.istore 6, 2) := by decide +kernel
theorem dX7_linkOf_115 : decode cX7_linkOf 115 = .ok (.aload_n 0, 1) := by decide +kernel
theorem dX7_linkOf_116 : decode cX7_linkOf 116 = .ok (.aload_n 0, 1) := by decide +kernel
theorem dX7_linkOf_117 : decode cX7_linkOf 117 = .ok (.getfield 16, 3) := by decide +kernel
theorem dX7_linkOf_120 : decode cX7_linkOf 120 = .ok (.iload 6, 2) := by decide +kernel
theorem dX7_linkOf_122 : decode cX7_linkOf 122 = .ok (.invokevirtual 138, 3) := by decide +kernel
theorem dX7_linkOf_125 : decode cX7_linkOf 125 = .ok (.invokevirtual 147, 3) := by decide +kernel
theorem dX7_linkOf_128 : decode cX7_linkOf 128 = .ok (.iload 5, 2) := by decide +kernel
theorem dX7_linkOf_130 : decode cX7_linkOf 130 = .ok (.bipush 12, 2) := by decide +kernel
theorem dX7_linkOf_132 : decode cX7_linkOf 132 = .ok (.irem, 1) := by decide +kernel
theorem dX7_linkOf_133 : decode cX7_linkOf 133 = .ok (.iadd, 1) := by decide +kernel
theorem dX7_linkOf_134 : decode cX7_linkOf 134 = .ok (.ireturn, 1) := by decide +kernel
