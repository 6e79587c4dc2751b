theorem mt_X8_readParameters : mx_mt 226 = some (yX8_readParameters, cX8_readParameters, 3, none) := rfl
theorem dX8_readParameters_0 : decode cX8_readParameters 0 = .ok (.iconst 1, 1) := by decide +kernel
theorem dX8_readParameters_1 : decode cX8_readParameters 1 = .ok (.istore_n 1, 1) := by decide +kernel
theorem dX8_readParameters_2 : decode cX8_readParameters 2 = .ok (.iconst 0, 1) := by decide +kernel
theorem dX8_readParameters_3 : decode cX8_readParameters 3 = .ok (.istore_n 2, 1) := by decide +kernel
theorem dX8_readParameters_4 : decode cX8_readParameters 4 = .ok (.iload_n 2, 1) := by decide +kernel
theorem dX8_readParameters_5 : decode cX8_readParameters 5 = .ok (.sipush 3000, 3) := by decide +kernel
theorem dX8_readParameters_8 : decode cX8_readParameters 8 = .ok (.if_icmp .ge 29, 3) := by decide +kernel
theorem dX8_readParameters_11 : decode cX8_readParameters 11 = .ok (.iload_n 1, 1) := by decide +kernel
theorem dX8_readParameters_12 : decode cX8_readParameters 12 = .ok (.ifCond .eq 25, 3) := by decide +kernel
theorem dX8_readParameters_15 : decode cX8_readParameters 15 = .ok (.aload_n 0, 1) := by decide +kernel
theorem dX8_readParameters_16 : decode cX8_readParameters 16 = .ok (.invokevirtual 52, 3) := by decide +kernel
theorem dX8_readParameters_19 : decode cX8_readParameters 19 = .ok (.aload_n 0, 1) := by decide +kernel
theorem dX8_readParameters_20 : decode cX8_readParameters 20 = .ok (.iconst 2, 1) := by decide +kernel
theorem dX8_readParameters_21 : decode cX8_readParameters 21 = .ok (.invokevirtual 37, 3) := by decide +kernel
theorem dX8_readParameters_24 : decode cX8_readParameters 24 = .ok (.aload_n 0, 1) := by decide +kernel
theorem dX8_readParameters_25 : decode cX8_readParameters 25 = .ok (.bipush 47, 2) := by decide +kernel
theorem dX8_readParameters_27 : decode cX8_readParameters 27 = .ok (.invokevirtual 45, 3) := by decide +kernel
theorem dX8_readParameters_30 : decode cX8_readParameters 30 = .ok (.istore_n 1, 1) := by decide +kernel
theorem dX8_readParameters_31 : decode cX8_readParameters 31 = .ok (.iinc 2 1, 3) := by decide +kernel
theorem dX8_readParameters_34 : decode cX8_readParameters 34 = .ok (.goto (-30), 3) := by decide +kernel
theorem dX8_readParameters_37 : decode cX8_readParameters 37 = .ok (.return_, 1) := by decide +kernel
theorem rs_RX8_55 : mx_res RX8 55 = some (1, 226, 0) := by decide +kernel
theorem mt_X8_readMember : mx_mt 225 = some (yX8_readMember, cX8_readMember, 2, none) := rfl
theorem dX8_readMember_0 : decode cX8_readMember 0 = .ok (.aload_n 0, 1) := by decide +kernel
theorem dX8_readMember_1 : decode cX8_readMember 1 = .ok (.bipush 25, 2) := by decide +kernel
theorem dX8_readMember_3 : decode cX8_readMember 3 = .ok (.invokevirtual 45, 3) := by decide +kernel
theorem dX8_readMember_6 : decode cX8_readMember 6 = .ok (.istore_n 1, 1) := by decide +kernel
theorem dX8_readMember_7 : decode cX8_readMember 7 = .ok (.aload_n 0, 1) := by decide +kernel
theorem dX8_readMember_8 : decode cX8_readMember 8 = .ok (.bipush 30, 2) := by decide +kernel
theorem dX8_readMember_10 : decode cX8_readMember 10 = .ok (.invokevirtual 45, 3) := by decide +kernel
theorem dX8_readMember_13 : decode cX8_readMember 13 = .ok (.ifCond .eq 8, 3) := by decide +kernel
theorem dX8_readMember_16 : decode cX8_readMember 16 = .ok (.iconst 1, 1) := by decide +kernel
theorem dX8_readMember_17 : decode cX8_readMember 17 = .ok (.istore_n 1, 1) := by decide +kernel
theorem dX8_readMember_18 : decode cX8_readMember 18 = .ok (.goto 7, 3) := by decide +kernel
theorem dX8_readMember_21 : decode cX8_readMember 21 = .ok (.aload_n 0, 1) := by decide +kernel
theorem dX8_readMember_22 : decode cX8_readMember 22 = .ok (.invokevirtual 52, 3) := by decide +kernel
theorem dX8_readMember_25 : decode cX8_readMember 25 = .ok (.aload_n 0, 1) := by decide +kernel
theorem dX8_readMember_26 : decode cX8_readMember 26 = .ok (.iconst 2, 1) := by decide +kernel
theorem dX8_readMember_27 : decode cX8_readMember 27 = .ok (.invokevirtual 37, 3) := by decide +kernel
theorem dX8_readMember_30 : decode cX8_readMember 30 = .ok (.iload_n 1, 1) := by decide +kernel
theorem dX8_readMember_31 : decode cX8_readMember 31 = .ok (.ifCond .ne 13, 3) := by decide +kernel
theorem dX8_readMember_34 : decode cX8_readMember 34 = .ok (.aload_n 0, 1) := by decide +kernel
theorem dX8_readMember_35 : decode cX8_readMember 35 = .ok (.bipush 46, 2) := by decide +kernel
theorem dX8_readMember_37 : decode cX8_readMember 37 = .ok (.invokevirtual 45, 3) := by decide +kernel
theorem dX8_readMember_40 : decode cX8_readMember 40 = .ok (.ifCond .eq 4, 3) := by decide +kernel
theorem dX8_readMember_43 : decode cX8_readMember 43 = .ok (.return_, 1) := by decide +kernel
theorem dX8_readMember_44 : decode cX8_readMember 44 = .ok (.aload_n 0, 1) := by decide +kernel
theorem dX8_readMember_45 : decode cX8_readMember 45 = .ok (.bipush 40, 2) := by decide +kernel
theorem dX8_readMember_47 : decode cX8_readMember 47 = .ok (.invokevirtual 37, 3) := by decide +kernel
theorem dX8_readMember_50 : decode cX8_readMember 50 = .ok (.aload_n 0, 1) := by decide +kernel
theorem dX8_readMember_51 : decode cX8_readMember 51 = .ok (.getfield 7, 3) := by decide +kernel
theorem dX8_readMember_54 : decode cX8_readMember 54 = .ok (.invokevirtual 23, 3) := by decide +kernel
theorem dX8_readMember_57 : decode cX8_readMember 57 = .ok (.bipush 41, 2) := by decide +kernel
theorem dX8_readMember_59 : decode cX8_readMember 59 = .ok (.if_icmp .eq 7, 3) := by decide +kernel
theorem dX8_readMember_62 : decode cX8_readMember 62 = .ok (.aload_n 0, 1) := by decide +kernel
theorem dX8_readMember_63 : decode cX8_readMember 63 = .ok (.invokevirtual 55, 3) := by decide +kernel
theorem dX8_readMember_66 : decode cX8_readMember 66 = .ok (.aload_n 0, 1) := by decide +kernel
theorem dX8_readMember_67 : decode cX8_readMember 67 = .ok (.bipush 41, 2) := by decide +kernel
theorem dX8_readMember_69 : decode cX8_readMember 69 = .ok (.invokevirtual 37, 3) := by decide +kernel
theorem dX8_readMember_72 : decode cX8_readMember 72 = .ok (.aload_n 0, 1) := by decide +kernel
theorem dX8_readMember_73 : decode cX8_readMember 73 = .ok (.iconst 0, 1) := by decide +kernel
theorem dX8_readMember_74 : decode cX8_readMember 74 = .ok (.invokevirtual 58, 3) := by decide +kernel
theorem dX8_readMember_77 : decode cX8_readMember 77 = .ok (.return_, 1) := by decide +kernel
theorem rs_RX8_13 : mx_res RX8 13 = some (0, 8, 1) := by decide +kernel
theorem rs_RX8_40 : mx_res RX8 40 = some (1, 48, 1) := by decide +kernel
theorem rs_RX8_49 : mx_res RX8 49 = some (1, 225, 0) := by decide +kernel
theorem mt_X8_readClass : mx_mt 224 = some (yX8_readClass, cX8_readClass, 2, none) := rfl
theorem dX8_readClass_0 : decode cX8_readClass 0 = .ok (.aload_n 0, 1) := by decide +kernel
theorem dX8_readClass_1 : decode cX8_readClass 1 = .ok (.bipush 13, 2) := by decide +kernel
theorem dX8_readClass_3 : decode cX8_readClass 3 = .ok (.invokevirtual 37, 3) := by decide +kernel
theorem dX8_readClass_6 : decode cX8_readClass 6 = .ok (.aload_n 0, 1) := by decide +kernel
theorem dX8_readClass_7 : decode cX8_readClass 7 = .ok (.getfield 13, 3) := by decide +kernel
theorem dX8_readClass_10 : decode cX8_readClass 10 = .ok (.aload_n 0, 1) := by decide +kernel
theorem dX8_readClass_11 : decode cX8_readClass 11 = .ok (.getfield 7, 3) := by decide +kernel
theorem dX8_readClass_14 : decode cX8_readClass 14 = .ok (.getfield 30, 3) := by decide +kernel
theorem dX8_readClass_17 : decode cX8_readClass 17 = .ok (.invokevirtual 40, 3) := by decide +kernel
theorem dX8_readClass_20 : decode cX8_readClass 20 = .ok (.aload_n 0, 1) := by decide +kernel
theorem dX8_readClass_21 : decode cX8_readClass 21 = .ok (.iconst 2, 1) := by decide +kernel
theorem dX8_readClass_22 : decode cX8_readClass 22 = .ok (.invokevirtual 37, 3) := by decide +kernel
theorem dX8_readClass_25 : decode cX8_readClass 25 = .ok (.aload_n 0, 1) := by decide +kernel
theorem dX8_readClass_26 : decode cX8_readClass 26 = .ok (.bipush 16, 2) := by decide +kernel
theorem dX8_readClass_28 : decode cX8_readClass 28 = .ok (.invokevirtual 45, 3) := by decide +kernel
theorem dX8_readClass_31 : decode cX8_readClass 31 = .ok (.ifCond .eq 8, 3) := by decide +kernel
theorem dX8_readClass_34 : decode cX8_readClass 34 = .ok (.aload_n 0, 1) := by decide +kernel
theorem dX8_readClass_35 : decode cX8_readClass 35 = .ok (.iconst 2, 1) := by decide +kernel
theorem dX8_readClass_36 : decode cX8_readClass 36 = .ok (.invokevirtual 37, 3) := by decide +kernel
theorem dX8_readClass_39 : decode cX8_readClass 39 = .ok (.aload_n 0, 1) := by decide +kernel
theorem dX8_readClass_40 : decode cX8_readClass 40 = .ok (.bipush 42, 2) := by decide +kernel
theorem dX8_readClass_42 : decode cX8_readClass 42 = .ok (.invokevirtual 37, 3) := by decide +kernel
theorem dX8_readClass_45 : decode cX8_readClass 45 = .ok (.iconst 0, 1) := by decide +kernel
theorem dX8_readClass_46 : decode cX8_readClass 46 = .ok (.istore_n 1, 1) := by decide +kernel
theorem dX8_readClass_47 : decode cX8_readClass 47 = .ok (.iload_n 1, 1) := by decide +kernel
theorem dX8_readClass_48 : decode cX8_readClass 48 = .ok (.sipush 3000, 3) := by decide +kernel
theorem dX8_readClass_51 : decode cX8_readClass 51 = .ok (.if_icmp .ge 35, 3) := by decide +kernel
theorem dX8_readClass_54 : decode cX8_readClass 54 = .ok (.aload_n 0, 1) := by decide +kernel
theorem dX8_readClass_55 : decode cX8_readClass 55 = .ok (.getfield 7, 3) := by decide +kernel
theorem dX8_readClass_58 : decode cX8_readClass 58 = .ok (.getfield 19, 3) := by decide +kernel
theorem dX8_readClass_61 : decode cX8_readClass 61 = .ok (.ifCond .ne 25, 3) := by decide +kernel
theorem dX8_readClass_64 : decode cX8_readClass 64 = .ok (.aload_n 0, 1) := by decide +kernel
theorem dX8_readClass_65 : decode cX8_readClass 65 = .ok (.getfield 7, 3) := by decide +kernel
theorem dX8_readClass_68 : decode cX8_readClass 68 = .ok (.invokevirtual 23, 3) := by decide +kernel
theorem dX8_readClass_71 : decode cX8_readClass 71 = .ok (.bipush 43, 2) := by decide +kernel
theorem dX8_readClass_73 : decode cX8_readClass 73 = .ok (.if_icmp .eq 13, 3) := by decide +kernel
theorem dX8_readClass_76 : decode cX8_readClass 76 = .ok (.aload_n 0, 1) := by decide +kernel
theorem dX8_readClass_77 : decode cX8_readClass 77 = .ok (.invokevirtual 49, 3) := by decide +kernel
theorem dX8_readClass_80 : decode cX8_readClass 80 = .ok (.iinc 1 1, 3) := by decide +kernel
theorem dX8_readClass_83 : decode cX8_readClass 83 = .ok (.goto (-36), 3) := by decide +kernel
theorem dX8_readClass_86 : decode cX8_readClass 86 = .ok (.aload_n 0, 1) := by decide +kernel
theorem dX8_readClass_87 : decode cX8_readClass 87 = .ok (.bipush 43, 2) := by decide +kernel
theorem dX8_readClass_89 : decode cX8_readClass 89 = .ok (.invokevirtual 37, 3) := by decide +kernel
theorem dX8_readClass_92 : decode cX8_readClass 92 = .ok (.return_, 1) := by decide +kernel
theorem rs_RX8_27 : mx_res RX8 27 = some (1, 224, 0) := by decide +kernel
theorem mt_X8_readProgram : mx_mt 220 = some (yX8_readProgram, cX8_readProgram, 2, none) := rfl
theorem dX8_readProgram_0 : decode cX8_readProgram 0 = .ok (.iconst 0, 1) := by decide +kernel
theorem dX8_readProgram_1 : decode cX8_readProgram 1 = .ok (.istore_n 1, 1) := by decide +kernel
theorem dX8_readProgram_2 : decode cX8_readProgram 2 = .ok (.iload_n 1, 1) := by decide +kernel
theorem dX8_readProgram_3 : decode cX8_readProgram 3 = .ok (.sipush 3000, 3) := by decide +kernel
theorem dX8_readProgram_6 : decode cX8_readProgram 6 = .ok (.if_icmp .ge 37, 3) := by decide +kernel
theorem dX8_readProgram_9 : decode cX8_readProgram 9 = .ok (.aload_n 0, 1) := by decide +kernel
theorem dX8_readProgram_10 : decode cX8_readProgram 10 = .ok (.getfield 7, 3) := by decide +kernel
theorem dX8_readProgram_13 : decode cX8_readProgram 13 = .ok (.getfield 19, 3) := by decide +kernel
theorem dX8_readProgram_16 : decode cX8_readProgram 16 = .ok (.ifCond .ne 27, 3) := by decide +kernel
theorem dX8_readProgram_19 : decode cX8_readProgram 19 = .ok (.iload_n 1, 1) := by decide +kernel
theorem dX8_readProgram_20 : decode cX8_readProgram 20 = .ok (.ifCond .eq 13, 3) := by decide +kernel
theorem dX8_readProgram_23 : decode cX8_readProgram 23 = .ok (.aload_n 0, 1) := by decide +kernel
theorem dX8_readProgram_24 : decode cX8_readProgram 24 = .ok (.getfield 7, 3) := by decide +kernel
theorem dX8_readProgram_27 : decode cX8_readProgram 27 = .ok (.invokevirtual 23, 3) := by decide +kernel
theorem dX8_readProgram_30 : decode cX8_readProgram 30 = .ok (.ifCond .eq 13, 3) := by decide +kernel
theorem dX8_readProgram_33 : decode cX8_readProgram 33 = .ok (.aload_n 0, 1) := by decide +kernel
theorem dX8_readProgram_34 : decode cX8_readProgram 34 = .ok (.invokevirtual 27, 3) := by decide +kernel
theorem dX8_readProgram_37 : decode cX8_readProgram 37 = .ok (.iinc 1 1, 3) := by decide +kernel
theorem dX8_readProgram_40 : decode cX8_readProgram 40 = .ok (.goto (-38), 3) := by decide +kernel
theorem dX8_readProgram_43 : decode cX8_readProgram 43 = .ok (.return_, 1) := by decide +kernel
theorem mt_X9_refuse : mx_mt 244 = some (yX9_refuse, cX9_refuse, 3, none) := rfl
theorem dX9_refuse_0 : decode cX9_refuse 0 = .ok (.aload_n 0, 1) := by decide +kernel
theorem dX9_refuse_1 : decode cX9_refuse 1 = .ok (.iload_n 1, 1) := by decide +kernel
theorem dX9_refuse_2 : decode cX9_refuse 2 = .ok (.putfield 80, 3) := by decide +kernel
theorem dX9_refuse_5 : decode cX9_refuse 5 = .ok (.aload_n 0, 1) := by decide +kernel
theorem dX9_refuse_6 : decode cX9_refuse 6 = .ok (.iload_n 2, 1) := by decide +kernel
theorem dX9_refuse_7 : decode cX9_refuse 7 = .ok (.putfield 41, 3) := by decide +kernel
theorem dX9_refuse_10 : decode cX9_refuse 10 = .ok (.return_, 1) := by decide +kernel
theorem ft_9_3 : mx_fty 9 3 = some (.int, false, "ClassMill$Text") := by decide +kernel
theorem mt_X9_addToken : mx_mt 253 = some (yX9_addToken, cX9_addToken, 4, none) := rfl
theorem dX9_addToken_0 : decode cX9_addToken 0 = .ok (.aload_n 0, 1) := by decide +kernel
theorem dX9_addToken_1 : decode cX9_addToken 1 = .ok (.getfield 83, 3) := by decide +kernel
theorem dX9_addToken_4 : decode cX9_addToken 4 = .ok (.aload_n 0, 1) := by decide +kernel
theorem dX9_addToken_5 : decode cX9_addToken 5 = .ok (.getfield 15, 3) := by decide +kernel
theorem dX9_addToken_8 : decode cX9_addToken 8 = .ok (.arraylength, 1) := by decide +kernel
theorem dX9_addToken_9 : decode cX9_addToken 9 = .ok (.if_icmp .ge 43, 3) := by decide +kernel
theorem dX9_addToken_12 : decode cX9_addToken 12 = .ok (.aload_n 0, 1) := by decide +kernel
theorem dX9_addToken_13 : decode cX9_addToken 13 = .ok (.getfield 15, 3) := by decide +kernel
theorem dX9_addToken_16 : decode cX9_addToken 16 = .ok (.aload_n 0, 1) := by decide +kernel
theorem dX9_addToken_17 : decode cX9_addToken 17 = .ok (.getfield 83, 3) := by decide +kernel
theorem dX9_addToken_20 : decode cX9_addToken 20 = .ok (.iload_n 1, 1) := by decide +kernel
theorem dX9_addToken_21 : decode cX9_addToken 21 = .ok (.iastore, 1) := by decide +kernel
theorem dX9_addToken_22 : decode cX9_addToken 22 = .ok (.aload_n 0, 1) := by decide +kernel
theorem dX9_addToken_23 : decode cX9_addToken 23 = .ok (.getfield 19, 3) := by decide +kernel
theorem dX9_addToken_26 : decode cX9_addToken 26 = .ok (.aload_n 0, 1) := by decide +kernel
theorem dX9_addToken_27 : decode cX9_addToken 27 = .ok (.getfield 83, 3) := by decide +kernel
theorem dX9_addToken_30 : decode cX9_addToken 30 = .ok (.iload_n 2, 1) := by decide +kernel
theorem dX9_addToken_31 : decode cX9_addToken 31 = .ok (.iastore, 1) := by decide +kernel
theorem dX9_addToken_32 : decode cX9_addToken 32 = .ok (.aload_n 0, 1) := by decide +kernel
theorem dX9_addToken_33 : decode cX9_addToken 33 = .ok (.getfield 22, 3) := by decide +kernel
theorem dX9_addToken_36 : decode cX9_addToken 36 = .ok (.aload_n 0, 1) := by decide +kernel
theorem dX9_addToken_37 : decode cX9_addToken 37 = .ok (.getfield 83, 3) := by decide +kernel
theorem dX9_addToken_40 : decode cX9_addToken 40 = .ok (.iload_n 3, 1) := by decide +kernel
theorem dX9_addToken_41 : decode cX9_addToken 41 = .ok (.iastore, 1) := by decide +kernel
theorem dX9_addToken_42 : decode cX9_addToken 42 = .ok (.aload_n 0, 1) := by decide +kernel
theorem dX9_addToken_43 : decode cX9_addToken 43 = .ok (.dup, 1) := by decide +kernel
theorem dX9_addToken_44 : decode cX9_addToken 44 = .ok (.getfield 83, 3) := by decide +kernel
theorem dX9_addToken_47 : decode cX9_addToken 47 = .ok (.iconst 1, 1) := by decide +kernel
theorem dX9_addToken_48 : decode cX9_addToken 48 = .ok (.iadd, 1) := by decide +kernel
theorem dX9_addToken_49 : decode cX9_addToken 49 = .ok (.putfield 83, 3) := by decide +kernel
theorem dX9_addToken_52 : decode cX9_addToken 52 = .ok (.return_, 1) := by decide +kernel
theorem mt_X9_behindBlanks : mx_mt 254 = some (yX9_behindBlanks, cX9_behindBlanks, 6, (some .int)) := rfl
theorem dX9_behindBlanks_0 : decode cX9_behindBlanks 0 = .ok (.iload_n 2, 1) := by decide +kernel
theorem dX9_behindBlanks_1 : decode cX9_behindBlanks 1 = .ok (.istore_n 3, 1) := by decide +kernel
theorem dX9_behindBlanks_2 : decode cX9_behindBlanks 2 = .ok (.iconst 0, 1) := by decide +kernel
theorem dX9_behindBlanks_3 : decode cX9_behindBlanks 3 = .ok (.istore 4, 2) := by decide +kernel
theorem dX9_behindBlanks_5 : decode cX9_behindBlanks 5 = .ok (.iload_n 3, 1) := by decide +kernel
theorem dX9_behindBlanks_6 : decode cX9_behindBlanks 6 = .ok (.iload_n 1, 1) := by decide +kernel
theorem dX9_behindBlanks_7 : decode cX9_behindBlanks 7 = .ok (.if_icmp .ge 71, 3) := by decide +kernel
theorem dX9_behindBlanks_10 : decode cX9_behindBlanks 10 = .ok (.aload_n 0, 1) := by decide +kernel
theorem dX9_behindBlanks_11 : decode cX9_behindBlanks 11 = .ok (.iload_n 3, 1) := by decide +kernel
theorem dX9_behindBlanks_12 : decode cX9_behindBlanks 12 = .ok (.baload, 1) := by decide +kernel
theorem dX9_behindBlanks_13 : decode cX9_behindBlanks 13 = .ok (.istore 5, 2) := by decide +kernel
theorem dX9_behindBlanks_15 : decode cX9_behindBlanks 15 = .ok (.iload 5, 2) := by decide +kernel
theorem dX9_behindBlanks_17 : decode cX9_behindBlanks 17 = .ok (.bipush 47, 2) := by decide +kernel
theorem dX9_behindBlanks_19 : decode cX9_behindBlanks 19 = .ok (.if_icmp .ne 26, 3) := by decide +kernel
theorem dX9_behindBlanks_22 : decode cX9_behindBlanks 22 = .ok (.iload_n 3, 1) := by decide +kernel
theorem dX9_behindBlanks_23 : decode cX9_behindBlanks 23 = .ok (.iconst 1, 1) := by decide +kernel
theorem dX9_behindBlanks_24 : decode cX9_behindBlanks 24 = .ok (.iadd, 1) := by decide +kernel
theorem dX9_behindBlanks_25 : decode cX9_behindBlanks 25 = .ok (.iload_n 1, 1) := by decide +kernel
theorem dX9_behindBlanks_26 : decode cX9_behindBlanks 26 = .ok (.if_icmp .ge 19, 3) := by decide +kernel
theorem dX9_behindBlanks_29 : decode cX9_behindBlanks 29 = .ok (.aload_n 0, 1) := by decide +kernel
theorem dX9_behindBlanks_30 : decode cX9_behindBlanks 30 = .ok (.iload_n 3, 1) := by decide +kernel
theorem dX9_behindBlanks_31 : decode cX9_behindBlanks 31 = .ok (.iconst 1, 1) := by decide +kernel
theorem dX9_behindBlanks_32 : decode cX9_behindBlanks 32 = .ok (.iadd, 1) := by decide +kernel
theorem dX9_behindBlanks_33 : decode cX9_behindBlanks 33 = .ok (.baload, 1) := by decide +kernel
theorem dX9_behindBlanks_34 : decode cX9_behindBlanks 34 = .ok (.bipush 47, 2) := by decide +kernel
theorem dX9_behindBlanks_36 : decode cX9_behindBlanks 36 = .ok (.if_icmp .ne 9, 3) := by decide +kernel
theorem dX9_behindBlanks_39 : decode cX9_behindBlanks 39 = .ok (.iconst 1, 1) := by decide +kernel
theorem dX9_behindBlanks_40 : decode cX9_behindBlanks 40 = .ok (.istore 4, 2) := by decide +kernel
theorem dX9_behindBlanks_42 : decode cX9_behindBlanks 42 = .ok (.goto 30, 3) := by decide +kernel
theorem dX9_behindBlanks_45 : decode cX9_behindBlanks 45 = .ok (.iload 5, 2) := by decide +kernel
theorem dX9_behindBlanks_47 : decode cX9_behindBlanks 47 = .ok (.bipush 10, 2) := by decide +kernel
theorem dX9_behindBlanks_49 : decode cX9_behindBlanks 49 = .ok (.if_icmp .ne 9, 3) := by decide +kernel
theorem dX9_behindBlanks_52 : decode cX9_behindBlanks 52 = .ok (.iconst 0, 1) := by decide +kernel
theorem dX9_behindBlanks_53 : decode cX9_behindBlanks 53 = .ok (.istore 4, 2) := by decide +kernel
theorem dX9_behindBlanks_55 : decode cX9_behindBlanks 55 = .ok (.goto 17, 3) := by decide +kernel
theorem dX9_behindBlanks_58 : decode cX9_behindBlanks 58 = .ok (.iload 5, 2) := by decide +kernel
theorem dX9_behindBlanks_60 : decode cX9_behindBlanks 60 = .ok (.bipush 32, 2) := by decide +kernel
theorem dX9_behindBlanks_62 : decode cX9_behindBlanks 62 = .ok (.if_icmp .eq 10, 3) := by decide +kernel
theorem dX9_behindBlanks_65 : decode cX9_behindBlanks 65 = .ok (.iload 4, 2) := by decide +kernel
theorem dX9_behindBlanks_67 : decode cX9_behindBlanks 67 = .ok (.ifCond .ne 5, 3) := by decide +kernel
theorem dX9_behindBlanks_70 : decode cX9_behindBlanks 70 = .ok (.iload_n 3, 1) := by decide +kernel
theorem dX9_behindBlanks_71 : decode cX9_behindBlanks 71 = .ok (.ireturn, 1) := by decide +kernel
theorem dX9_behindBlanks_72 : decode cX9_behindBlanks 72 = .ok (.iinc 3 1, 3) := by decide +kernel
theorem dX9_behindBlanks_75 : decode cX9_behindBlanks 75 = .ok (.goto (-70), 3) := by decide +kernel
theorem dX9_behindBlanks_78 : decode cX9_behindBlanks 78 = .ok (.iload_n 3, 1) := by decide +kernel
theorem dX9_behindBlanks_79 : decode cX9_behindBlanks 79 = .ok (.ireturn, 1) := by decide +kernel
theorem mt_X9_isDigit : mx_mt 257 = some (yX9_isDigit, cX9_isDigit, 1, (some .boolean)) := rfl
theorem dX9_isDigit_0 : decode cX9_isDigit 0 = .ok (.iload_n 0, 1) := by decide +kernel
theorem dX9_isDigit_1 : decode cX9_isDigit 1 = .ok (.bipush 48, 2) := by decide +kernel
theorem dX9_isDigit_3 : decode cX9_isDigit 3 = .ok (.if_icmp .lt 13, 3) := by decide +kernel
theorem dX9_isDigit_6 : decode cX9_isDigit 6 = .ok (.iload_n 0, 1) := by decide +kernel
theorem dX9_isDigit_7 : decode cX9_isDigit 7 = .ok (.bipush 57, 2) := by decide +kernel
theorem dX9_isDigit_9 : decode cX9_isDigit 9 = .ok (.if_icmp .gt 7, 3) := by decide +kernel
theorem dX9_isDigit_12 : decode cX9_isDigit 12 = .ok (.iconst 1, 1) := by decide +kernel
theorem dX9_isDigit_13 : decode cX9_isDigit 13 = .ok (.goto 4, 3) := by decide +kernel
theorem dX9_isDigit_16 : decode cX9_isDigit 16 = .ok (.iconst 0, 1) := by decide +kernel
theorem dX9_isDigit_17 : decode cX9_isDigit 17 = .ok (.ireturn, 1) := by decide +kernel
theorem mt_X9_isLetter : mx_mt 256 = some (yX9_isLetter, cX9_isLetter, 1, (some .boolean)) := rfl
theorem dX9_isLetter_0 : decode cX9_isLetter 0 = .ok (.iload_n 0, 1) := by decide +kernel
theorem dX9_isLetter_1 : decode cX9_isLetter 1 = .ok (.bipush 97, 2) := by decide +kernel
theorem dX9_isLetter_3 : decode cX9_isLetter 3 = .ok (.if_icmp .lt 9, 3) := by decide +kernel
theorem dX9_isLetter_6 : decode cX9_isLetter 6 = .ok (.iload_n 0, 1) := by decide +kernel
theorem dX9_isLetter_7 : decode cX9_isLetter 7 = .ok (.bipush 122, 2) := by decide +kernel
theorem dX9_isLetter_9 : decode cX9_isLetter 9 = .ok (.if_icmp .le 15, 3) := by decide +kernel
theorem dX9_isLetter_12 : decode cX9_isLetter 12 = .ok (.iload_n 0, 1) := by decide +kernel
theorem dX9_isLetter_13 : decode cX9_isLetter 13 = .ok (.bipush 65, 2) := by decide +kernel
theorem dX9_isLetter_15 : decode cX9_isLetter 15 = .ok (.if_icmp .lt 13, 3) := by decide +kernel
theorem dX9_isLetter_18 : decode cX9_isLetter 18 = .ok (.iload_n 0, 1) := by decide +kernel
theorem dX9_isLetter_19 : decode cX9_isLetter 19 = .ok (.bipush 90, 2) := by decide +kernel
theorem dX9_isLetter_21 : decode cX9_isLetter 21 = .ok (.if_icmp .gt 7, 3) := by decide +kernel
theorem dX9_isLetter_24 : decode cX9_isLetter 24 = .ok (.iconst 1, 1) := by decide +kernel
theorem dX9_isLetter_25 : decode cX9_isLetter 25 = .ok (.goto 4, 3) := by decide +kernel
theorem dX9_isLetter_28 : decode cX9_isLetter 28 = .ok (.iconst 0, 1) := by decide +kernel
theorem dX9_isLetter_29 : decode cX9_isLetter 29 = .ok (.ireturn, 1) := by decide +kernel
theorem rs_RX9_103 : mx_res RX9 103 = some (2, 256, 1) := by decide +kernel
theorem rs_RX9_110 : mx_res RX9 110 = some (2, 257, 1) := by decide +kernel
theorem mt_X9_isNamePart : mx_mt 258 = some (yX9_isNamePart, cX9_isNamePart, 1, (some .boolean)) := rfl
theorem dX9_isNamePart_0 : decode cX9_isNamePart 0 = .ok (.iload_n 0, 1) := by decide +kernel
theorem dX9_isNamePart_1 : decode cX9_isNamePart 1 = .ok (.invokestatic 103, 3) := by decide +kernel
theorem dX9_isNamePart_4 : decode cX9_isNamePart 4 = .ok (.ifCond .ne 16, 3) := by decide +kernel
theorem dX9_isNamePart_7 : decode cX9_isNamePart 7 = .ok (.iload_n 0, 1) := by decide +kernel
theorem dX9_isNamePart_8 : decode cX9_isNamePart 8 = .ok (.invokestatic 110, 3) := by decide +kernel
theorem dX9_isNamePart_11 : decode cX9_isNamePart 11 = .ok (.ifCond .ne 9, 3) := by decide +kernel
theorem dX9_isNamePart_14 : decode cX9_isNamePart 14 = .ok (.iload_n 0, 1) := by decide +kernel
theorem dX9_isNamePart_15 : decode cX9_isNamePart 15 = .ok (.bipush 95, 2) := by decide +kernel
theorem dX9_isNamePart_17 : decode cX9_isNamePart 17 = .ok (.if_icmp .ne 7, 3) := by decide +kernel
theorem dX9_isNamePart_20 : decode cX9_isNamePart 20 = .ok (.iconst 1, 1) := by decide +kernel
theorem dX9_isNamePart_21 : decode cX9_isNamePart 21 = .ok (.goto 4, 3) := by decide +kernel
theorem dX9_isNamePart_24 : decode cX9_isNamePart 24 = .ok (.iconst 0, 1) := by decide +kernel
theorem dX9_isNamePart_25 : decode cX9_isNamePart 25 = .ok (.ireturn, 1) := by decide +kernel
theorem rs_RX9_99 : mx_res RX9 99 = some (1, 253, 3) := by decide +kernel
theorem rs_RX9_123 : mx_res RX9 123 = some (2, 258, 1) := by decide +kernel
theorem rs_RX9_133 : mx_res RX9 133 = some (8, 10, 0) := by decide +kernel
theorem rs_RX9_135 : mx_res RX9 135 = some (8, 48, 0) := by decide +kernel
theorem rs_RX9_137 : mx_res RX9 137 = some (8, 2147483648, 0) := by decide +kernel
theorem rs_RX9_139 : mx_res RX9 139 = some (15, 0, 0) := by decide +kernel
theorem rs_RX9_145 : mx_res RX9 145 = some (8, 2147483647, 0) := by decide +kernel
theorem mt_X9_scanNumber : mx_mt 263 = some (yX9_scanNumber, cX9_scanNumber, 9, (some .int)) := rfl
theorem dX9_scanNumber_0 : decode cX9_scanNumber 0 = .ok (.lconst 0, 1) := by decide +kernel
theorem dX9_scanNumber_1 : decode cX9_scanNumber 1 = .ok (.lstore 4, 2) := by decide +kernel
theorem dX9_scanNumber_3 : decode cX9_scanNumber 3 = .ok (.iload_n 3, 1) := by decide +kernel
theorem dX9_scanNumber_4 : decode cX9_scanNumber 4 = .ok (.istore 6, 2) := by decide +kernel
theorem dX9_scanNumber_6 : decode cX9_scanNumber 6 = .ok (.iload 6, 2) := by decide +kernel
theorem dX9_scanNumber_8 : decode cX9_scanNumber 8 = .ok (.iload_n 2, 1) := by decide +kernel
theorem dX9_scanNumber_9 : decode cX9_scanNumber 9 = .ok (.if_icmp .ge 43, 3) := by decide +kernel
theorem dX9_scanNumber_12 : decode cX9_scanNumber 12 = .ok (.aload_n 1, 1) := by decide +kernel
theorem dX9_scanNumber_13 : decode cX9_scanNumber 13 = .ok (.iload 6, 2) := by decide +kernel
theorem dX9_scanNumber_15 : decode cX9_scanNumber 15 = .ok (.baload, 1) := by decide +kernel
theorem dX9_scanNumber_16 : decode cX9_scanNumber 16 = .ok (.invokestatic 110, 3) := by decide +kernel
theorem dX9_scanNumber_19 : decode cX9_scanNumber 19 = .ok (.ifCond .eq 33, 3) := by decide +kernel
theorem dX9_scanNumber_22 : decode cX9_scanNumber 22 = .ok (.lload 4, 2) := by decide +kernel
theorem dX9_scanNumber_24 : decode cX9_scanNumber 24 = .ok (.ldc2_w 133, 3) := by decide +kernel
theorem dX9_scanNumber_27 : decode cX9_scanNumber 27 = .ok (.lmul, 1) := by decide +kernel
theorem dX9_scanNumber_28 : decode cX9_scanNumber 28 = .ok (.aload_n 1, 1) := by decide +kernel
theorem dX9_scanNumber_29 : decode cX9_scanNumber 29 = .ok (.iload 6, 2) := by decide +kernel
theorem dX9_scanNumber_31 : decode cX9_scanNumber 31 = .ok (.baload, 1) := by decide +kernel
theorem dX9_scanNumber_32 : decode cX9_scanNumber 32 = .ok (.i2l, 1) := by decide +kernel
theorem dX9_scanNumber_33 : decode cX9_scanNumber 33 = .ok (.ladd, 1) := by decide +kernel
theorem dX9_scanNumber_34 : decode cX9_scanNumber 34 = .ok (.ldc2_w 135, 3) := by decide +kernel
theorem dX9_scanNumber_37 : decode cX9_scanNumber 37 = .ok (.lsub, 1) := by decide +kernel
theorem dX9_scanNumber_38 : decode cX9_scanNumber 38 = .ok (.ldc2_w 137, 3) := by decide +kernel
theorem dX9_scanNumber_41 : decode cX9_scanNumber 41 = .ok (.invokestatic 139, 3) := by decide +kernel
theorem dX9_scanNumber_44 : decode cX9_scanNumber 44 = .ok (.lstore 4, 2) := by decide +kernel
theorem dX9_scanNumber_46 : decode cX9_scanNumber 46 = .ok (.iinc 6 1, 3) := by decide +kernel
theorem dX9_scanNumber_49 : decode cX9_scanNumber 49 = .ok (.goto (-43), 3) := by decide +kernel
theorem dX9_scanNumber_52 : decode cX9_scanNumber 52 = .ok (.aload_n 1, 1) := by decide +kernel
theorem dX9_scanNumber_53 : decode cX9_scanNumber 53 = .ok (.iload_n 3, 1) := by decide +kernel
theorem dX9_scanNumber_54 : decode cX9_scanNumber 54 = .ok (.baload, 1) := by decide +kernel
theorem dX9_scanNumber_55 : decode cX9_scanNumber 55 = .ok (.bipush 48, 2) := by decide +kernel
theorem dX9_scanNumber_57 : decode cX9_scanNumber 57 = .ok (.if_icmp .ne 15, 3) := by decide +kernel
theorem dX9_scanNumber_60 : decode cX9_scanNumber 60 = .ok (.iload 6, 2) := by decide +kernel
theorem dX9_scanNumber_62 : decode cX9_scanNumber 62 = .ok (.iload_n 3, 1) := by decide +kernel
theorem dX9_scanNumber_63 : decode cX9_scanNumber 63 = .ok (.iconst 1, 1) := by decide +kernel
theorem dX9_scanNumber_64 : decode cX9_scanNumber 64 = .ok (.iadd, 1) := by decide +kernel
theorem dX9_scanNumber_65 : decode cX9_scanNumber 65 = .ok (.if_icmp .le 7, 3) := by decide +kernel
theorem dX9_scanNumber_68 : decode cX9_scanNumber 68 = .ok (.iconst 1, 1) := by decide +kernel
theorem dX9_scanNumber_69 : decode cX9_scanNumber 69 = .ok (.goto 4, 3) := by decide +kernel
theorem dX9_scanNumber_72 : decode cX9_scanNumber 72 = .ok (.iconst 0, 1) := by decide +kernel
theorem dX9_scanNumber_73 : decode cX9_scanNumber 73 = .ok (.istore 7, 2) := by decide +kernel
theorem dX9_scanNumber_75 : decode cX9_scanNumber 75 = .ok (.iload 6, 2) := by decide +kernel
theorem dX9_scanNumber_77 : decode cX9_scanNumber 77 = .ok (.iload_n 2, 1) := by decide +kernel
theorem dX9_scanNumber_78 : decode cX9_scanNumber 78 = .ok (.if_icmp .ge 17, 3) := by decide +kernel
theorem dX9_scanNumber_81 : decode cX9_scanNumber 81 = .ok (.aload_n 1, 1) := by decide +kernel
theorem dX9_scanNumber_82 : decode cX9_scanNumber 82 = .ok (.iload 6, 2) := by decide +kernel
theorem dX9_scanNumber_84 : decode cX9_scanNumber 84 = .ok (.baload, 1) := by decide +kernel
theorem dX9_scanNumber_85 : decode cX9_scanNumber 85 = .ok (.invokestatic 123, 3) := by decide +kernel
theorem dX9_scanNumber_88 : decode cX9_scanNumber 88 = .ok (.ifCond .eq 7, 3) := by decide +kernel
theorem dX9_scanNumber_91 : decode cX9_scanNumber 91 = .ok (.iconst 1, 1) := by decide +kernel
theorem dX9_scanNumber_92 : decode cX9_scanNumber 92 = .ok (.goto 4, 3) := by decide +kernel
theorem dX9_scanNumber_95 : decode cX9_scanNumber 95 = .ok (.iconst 0, 1) := by decide +kernel
theorem dX9_scanNumber_96 : decode cX9_scanNumber 96 = .ok (.istore 8, 2) := by decide +kernel
theorem dX9_scanNumber_98 : decode cX9_scanNumber 98 = .ok (.iload 7, 2) := by decide +kernel
theorem dX9_scanNumber_100 : decode cX9_scanNumber 100 = .ok (.ifCond .ne 17, 3) := by decide +kernel
theorem dX9_scanNumber_103 : decode cX9_scanNumber 103 = .ok (.iload 8, 2) := by decide +kernel
theorem dX9_scanNumber_105 : decode cX9_scanNumber 105 = .ok (.ifCond .ne 12, 3) := by decide +kernel
theorem dX9_scanNumber_108 : decode cX9_scanNumber 108 = .ok (.lload 4, 2) := by decide +kernel
theorem dX9_scanNumber_110 : decode cX9_scanNumber 110 = .ok (.ldc2_w 145, 3) := by decide +kernel
theorem dX9_scanNumber_113 : decode cX9_scanNumber 113 = .ok (.lcmp, 1) := by decide +kernel
theorem dX9_scanNumber_114 : decode cX9_scanNumber 114 = .ok (.ifCond .le 5, 3) := by decide +kernel
theorem dX9_scanNumber_117 : decode cX9_scanNumber 117 = .ok (.iconst 0, 1) := by decide +kernel
theorem dX9_scanNumber_118 : decode cX9_scanNumber 118 = .ok (.ireturn, 1) := by decide +kernel
theorem dX9_scanNumber_119 : decode cX9_scanNumber 119 = .ok (.aload_n 0, 1) := by decide +kernel
theorem dX9_scanNumber_120 : decode cX9_scanNumber 120 = .ok (.iconst 3, 1) := by decide +kernel
theorem dX9_scanNumber_121 : decode cX9_scanNumber 121 = .ok (.iload_n 3, 1) := by decide +kernel
theorem dX9_scanNumber_122 : decode cX9_scanNumber 122 = .ok (.lload 4, 2) := by decide +kernel
theorem dX9_scanNumber_124 : decode cX9_scanNumber 124 = .ok (.l2i, 1) := by decide +kernel
theorem dX9_scanNumber_125 : decode cX9_scanNumber 125 = .ok (.invokevirtual 99, 3) := by decide +kernel
theorem dX9_scanNumber_128 : decode cX9_scanNumber 128 = .ok (.iload 6, 2) := by decide +kernel
theorem dX9_scanNumber_130 : decode cX9_scanNumber 130 = .ok (.iload_n 3, 1) := by decide +kernel
theorem dX9_scanNumber_131 : decode cX9_scanNumber 131 = .ok (.isub, 1) := by decide +kernel
theorem dX9_scanNumber_132 : decode cX9_scanNumber 132 = .ok (.ireturn, 1) := by decide +kernel
theorem rs_RX9_126 : mx_res RX9 126 = some (1, 261, 3) := by decide +kernel
theorem mt_X9_scanWord : mx_mt 260 = some (yX9_scanWord, cX9_scanWord, 8, (some .int)) := rfl
theorem dX9_scanWord_0 : decode cX9_scanWord 0 = .ok (.iload_n 3, 1) := by decide +kernel
theorem dX9_scanWord_1 : decode cX9_scanWord 1 = .ok (.istore 4, 2) := by decide +kernel
theorem dX9_scanWord_3 : decode cX9_scanWord 3 = .ok (.iload 4, 2) := by decide +kernel
theorem dX9_scanWord_5 : decode cX9_scanWord 5 = .ok (.iload_n 2, 1) := by decide +kernel
theorem dX9_scanWord_6 : decode cX9_scanWord 6 = .ok (.if_icmp .ge 19, 3) := by decide +kernel
theorem dX9_scanWord_9 : decode cX9_scanWord 9 = .ok (.aload_n 1, 1) := by decide +kernel
theorem dX9_scanWord_10 : decode cX9_scanWord 10 = .ok (.iload 4, 2) := by decide +kernel
theorem dX9_scanWord_12 : decode cX9_scanWord 12 = .ok (.baload, 1) := by decide +kernel
theorem dX9_scanWord_13 : decode cX9_scanWord 13 = .ok (.invokestatic 123, 3) := by decide +kernel
theorem dX9_scanWord_16 : decode cX9_scanWord 16 = .ok (.ifCond .eq 9, 3) := by decide +kernel
theorem dX9_scanWord_19 : decode cX9_scanWord 19 = .ok (.iinc 4 1, 3) := by decide +kernel
theorem dX9_scanWord_22 : decode cX9_scanWord 22 = .ok (.goto (-19), 3) := by decide +kernel
theorem dX9_scanWord_25 : decode cX9_scanWord 25 = .ok (.iload 4, 2) := by decide +kernel
theorem dX9_scanWord_27 : decode cX9_scanWord 27 = .ok (.iload_n 3, 1) := by decide +kernel
theorem dX9_scanWord_28 : decode cX9_scanWord 28 = .ok (.isub, 1) := by decide +kernel
theorem dX9_scanWord_29 : decode cX9_scanWord 29 = .ok (.istore 5, 2) := by decide +kernel
theorem dX9_scanWord_31 : decode cX9_scanWord 31 = .ok (.iload 5, 2) := by decide +kernel
theorem dX9_scanWord_33 : decode cX9_scanWord 33 = .ok (.bipush 12, 2) := by decide +kernel
theorem dX9_scanWord_35 : decode cX9_scanWord 35 = .ok (.if_icmp .le 5, 3) := by decide +kernel
theorem dX9_scanWord_38 : decode cX9_scanWord 38 = .ok (.iconst 0, 1) := by decide +kernel
theorem dX9_scanWord_39 : decode cX9_scanWord 39 = .ok (.ireturn, 1) := by decide +kernel
theorem dX9_scanWord_40 : decode cX9_scanWord 40 = .ok (.aload_n 0, 1) := by decide +kernel
theorem dX9_scanWord_41 : decode cX9_scanWord 41 = .ok (.aload_n 1, 1) := by decide +kernel
theorem dX9_scanWord_42 : decode cX9_scanWord 42 = .ok (.iload_n 3, 1) := by decide +kernel
theorem dX9_scanWord_43 : decode cX9_scanWord 43 = .ok (.iload 5, 2) := by decide +kernel
theorem dX9_scanWord_45 : decode cX9_scanWord 45 = .ok (.invokevirtual 126, 3) := by decide +kernel
theorem dX9_scanWord_48 : decode cX9_scanWord 48 = .ok (.istore 6, 2) := by decide +kernel
theorem dX9_scanWord_50 : decode cX9_scanWord 50 = .ok (.iload 6, 2) := by decide +kernel
theorem dX9_scanWord_52 : decode cX9_scanWord 52 = .ok (.bipush 9, 2) := by decide +kernel
theorem dX9_scanWord_54 : decode cX9_scanWord 54 = .ok (.if_icmp .lt 14, 3) := by decide +kernel
theorem dX9_scanWord_57 : decode cX9_scanWord 57 = .ok (.iload 6, 2) := by decide +kernel
theorem dX9_scanWord_59 : decode cX9_scanWord 59 = .ok (.bipush 31, 2) := by decide +kernel
theorem dX9_scanWord_61 : decode cX9_scanWord 61 = .ok (.if_icmp .ge 7, 3) := by decide +kernel
theorem dX9_scanWord_64 : decode cX9_scanWord 64 = .ok (.iconst 1, 1) := by decide +kernel
theorem dX9_scanWord_65 : decode cX9_scanWord 65 = .ok (.goto 4, 3) := by decide +kernel
theorem dX9_scanWord_68 : decode cX9_scanWord 68 = .ok (.iconst 0, 1) := by decide +kernel
theorem dX9_scanWord_69 : decode cX9_scanWord 69 = .ok (.istore 7, 2) := by decide +kernel
theorem dX9_scanWord_71 : decode cX9_scanWord 71 = .ok (.aload_n 0, 1) := by decide +kernel
theorem dX9_scanWord_72 : decode cX9_scanWord 72 = .ok (.iload 7, 2) := by decide +kernel
theorem dX9_scanWord_74 : decode cX9_scanWord 74 = .ok (.ifCond .eq 14, 3) := by decide +kernel
theorem dX9_scanWord_77 : decode cX9_scanWord 77 = .ok (.bipush 10, 2) := by decide +kernel
theorem dX9_scanWord_79 : decode cX9_scanWord 79 = .ok (.iload 6, 2) := by decide +kernel
theorem dX9_scanWord_81 : decode cX9_scanWord 81 = .ok (.iadd, 1) := by decide +kernel
theorem dX9_scanWord_82 : decode cX9_scanWord 82 = .ok (.bipush 9, 2) := by decide +kernel
theorem dX9_scanWord_84 : decode cX9_scanWord 84 = .ok (.isub, 1) := by decide +kernel
theorem dX9_scanWord_85 : decode cX9_scanWord 85 = .ok (.goto 4, 3) := by decide +kernel
theorem dX9_scanWord_88 : decode cX9_scanWord 88 = .ok (.iconst 2, 1) := by decide +kernel
theorem dX9_scanWord_89 : decode cX9_scanWord 89 = .ok (.iload_n 3, 1) := by decide +kernel
theorem dX9_scanWord_90 : decode cX9_scanWord 90 = .ok (.iload 6, 2) := by decide +kernel
theorem dX9_scanWord_92 : decode cX9_scanWord 92 = .ok (.invokevirtual 99, 3) := by decide +kernel
theorem dX9_scanWord_95 : decode cX9_scanWord 95 = .ok (.iload 5, 2) := by decide +kernel
theorem dX9_scanWord_97 : decode cX9_scanWord 97 = .ok (.ireturn, 1) := by decide +kernel
theorem mt_X9_signLength : mx_mt 266 = some (yX9_signLength, cX9_signLength, 1, (some .int)) := rfl
theorem dX9_signLength_0 : decode cX9_signLength 0 = .ok (.iload_n 0, 1) := by decide +kernel
theorem dX9_signLength_1 : decode cX9_signLength 1 = .ok (.lookupswitch 97 #[(0, 91), (52, 95), (53, 95), (55, 95), (57, 95), (58, 95), (59, 95), (60, 93), (67, 95), (69, 95)], 91) := by decide +kernel
theorem dX9_signLength_92 : decode cX9_signLength 92 = .ok (.iconst 0, 1) := by decide +kernel
theorem dX9_signLength_93 : decode cX9_signLength 93 = .ok (.ireturn, 1) := by decide +kernel
theorem dX9_signLength_94 : decode cX9_signLength 94 = .ok (.iconst 3, 1) := by decide +kernel
theorem dX9_signLength_95 : decode cX9_signLength 95 = .ok (.ireturn, 1) := by decide +kernel
theorem dX9_signLength_96 : decode cX9_signLength 96 = .ok (.iconst 2, 1) := by decide +kernel
theorem dX9_signLength_97 : decode cX9_signLength 97 = .ok (.ireturn, 1) := by decide +kernel
theorem dX9_signLength_98 : decode cX9_signLength 98 = .ok (.iconst 1, 1) := by decide +kernel
theorem dX9_signLength_99 : decode cX9_signLength 99 = .ok (.ireturn, 1) := by decide +kernel
theorem mt_X9_plainSignOf : mx_mt 265 = some (yX9_plainSignOf, cX9_plainSignOf, 1, (some .int)) := rfl
theorem dX9_plainSignOf_0 : decode cX9_plainSignOf 0 = .ok (.iload_n 0, 1) := by decide +kernel
theorem dX9_plainSignOf_1 : decode cX9_plainSignOf 1 = .ok (.lookupswitch 209 #[(37, 200), (40, 155), (41, 158), (42, 194), (43, 188), (44, 176), (45, 191), (46, 179), (47, 197), (58, 185), (59, 173), (63, 182), (91, 167), (93, 170), (94, 203), (123, 161), (125, 164), (126, 206)], 155) := by decide +kernel
theorem dX9_plainSignOf_156 : decode cX9_plainSignOf 156 = .ok (.bipush 40, 2) := by decide +kernel
theorem dX9_plainSignOf_158 : decode cX9_plainSignOf 158 = .ok (.ireturn, 1) := by decide +kernel
theorem dX9_plainSignOf_159 : decode cX9_plainSignOf 159 = .ok (.bipush 41, 2) := by decide +kernel
theorem dX9_plainSignOf_161 : decode cX9_plainSignOf 161 = .ok (.ireturn, 1) := by decide +kernel
theorem dX9_plainSignOf_162 : decode cX9_plainSignOf 162 = .ok (.bipush 42, 2) := by decide +kernel
theorem dX9_plainSignOf_164 : decode cX9_plainSignOf 164 = .ok (.ireturn, 1) := by decide +kernel
theorem dX9_plainSignOf_165 : decode cX9_plainSignOf 165 = .ok (.bipush 43, 2) := by decide +kernel
theorem dX9_plainSignOf_167 : decode cX9_plainSignOf 167 = .ok (.ireturn, 1) := by decide +kernel
theorem dX9_plainSignOf_168 : decode cX9_plainSignOf 168 = .ok (.bipush 44, 2) := by decide +kernel
theorem dX9_plainSignOf_170 : decode cX9_plainSignOf 170 = .ok (.ireturn, 1) := by decide +kernel
theorem dX9_plainSignOf_171 : decode cX9_plainSignOf 171 = .ok (.bipush 45, 2) := by decide +kernel
theorem dX9_plainSignOf_173 : decode cX9_plainSignOf 173 = .ok (.ireturn, 1) := by decide +kernel
theorem dX9_plainSignOf_174 : decode cX9_plainSignOf 174 = .ok (.bipush 46, 2) := by decide +kernel
theorem dX9_plainSignOf_176 : decode cX9_plainSignOf 176 = .ok (.ireturn, 1) := by decide +kernel
theorem dX9_plainSignOf_177 : decode cX9_plainSignOf 177 = .ok (.bipush 47, 2) := by decide +kernel
theorem dX9_plainSignOf_179 : decode cX9_plainSignOf 179 = .ok (.ireturn, 1) := by decide +kernel
theorem dX9_plainSignOf_180 : decode cX9_plainSignOf 180 = .ok (.bipush 48, 2) := by decide +kernel
theorem dX9_plainSignOf_182 : decode cX9_plainSignOf 182 = .ok (.ireturn, 1) := by decide +kernel
theorem dX9_plainSignOf_183 : decode cX9_plainSignOf 183 = .ok (.bipush 49, 2) := by decide +kernel
theorem dX9_plainSignOf_185 : decode cX9_plainSignOf 185 = .ok (.ireturn, 1) := by decide +kernel
theorem dX9_plainSignOf_186 : decode cX9_plainSignOf 186 = .ok (.bipush 50, 2) := by decide +kernel
theorem dX9_plainSignOf_188 : decode cX9_plainSignOf 188 = .ok (.ireturn, 1) := by decide +kernel
theorem dX9_plainSignOf_189 : decode cX9_plainSignOf 189 = .ok (.bipush 61, 2) := by decide +kernel
theorem dX9_plainSignOf_191 : decode cX9_plainSignOf 191 = .ok (.ireturn, 1) := by decide +kernel
theorem dX9_plainSignOf_192 : decode cX9_plainSignOf 192 = .ok (.bipush 62, 2) := by decide +kernel
theorem dX9_plainSignOf_194 : decode cX9_plainSignOf 194 = .ok (.ireturn, 1) := by decide +kernel
theorem dX9_plainSignOf_195 : decode cX9_plainSignOf 195 = .ok (.bipush 63, 2) := by decide +kernel
theorem dX9_plainSignOf_197 : decode cX9_plainSignOf 197 = .ok (.ireturn, 1) := by decide +kernel
theorem dX9_plainSignOf_198 : decode cX9_plainSignOf 198 = .ok (.bipush 64, 2) := by decide +kernel
theorem dX9_plainSignOf_200 : decode cX9_plainSignOf 200 = .ok (.ireturn, 1) := by decide +kernel
theorem dX9_plainSignOf_201 : decode cX9_plainSignOf 201 = .ok (.bipush 65, 2) := by decide +kernel
theorem dX9_plainSignOf_203 : decode cX9_plainSignOf 203 = .ok (.ireturn, 1) := by decide +kernel
theorem dX9_plainSignOf_204 : decode cX9_plainSignOf 204 = .ok (.bipush 70, 2) := by decide +kernel
theorem dX9_plainSignOf_206 : decode cX9_plainSignOf 206 = .ok (.ireturn, 1) := by decide +kernel
theorem dX9_plainSignOf_207 : decode cX9_plainSignOf 207 = .ok (.bipush 72, 2) := by decide +kernel
theorem dX9_plainSignOf_209 : decode cX9_plainSignOf 209 = .ok (.ireturn, 1) := by decide +kernel
theorem dX9_plainSignOf_210 : decode cX9_plainSignOf 210 = .ok (.iconst 0, 1) := by decide +kernel
theorem dX9_plainSignOf_211 : decode cX9_plainSignOf 211 = .ok (.ireturn, 1) := by decide +kernel
theorem rs_RX9_147 : mx_res RX9 147 = some (2, 265, 1) := by decide +kernel
theorem mt_X9_signOf : mx_mt 264 = some (yX9_signOf, cX9_signOf, 2, (some .int)) := rfl
theorem dX9_signOf_0 : decode cX9_signOf 0 = .ok (.iload_n 0, 1) := by decide +kernel
theorem dX9_signOf_1 : decode cX9_signOf 1 = .ok (.lookupswitch 165 #[(33, 73), (38, 137), (60, 87), (61, 59), (62, 112), (124, 151)], 59) := by decide +kernel
theorem dX9_signOf_60 : decode cX9_signOf 60 = .ok (.iload_n 1, 1) := by decide +kernel
theorem dX9_signOf_61 : decode cX9_signOf 61 = .ok (.bipush 61, 2) := by decide +kernel
theorem dX9_signOf_63 : decode cX9_signOf 63 = .ok (.if_icmp .ne 8, 3) := by decide +kernel
theorem dX9_signOf_66 : decode cX9_signOf 66 = .ok (.bipush 52, 2) := by decide +kernel
theorem dX9_signOf_68 : decode cX9_signOf 68 = .ok (.goto 5, 3) := by decide +kernel
theorem dX9_signOf_71 : decode cX9_signOf 71 = .ok (.bipush 51, 2) := by decide +kernel
theorem dX9_signOf_73 : decode cX9_signOf 73 = .ok (.ireturn, 1) := by decide +kernel
theorem dX9_signOf_74 : decode cX9_signOf 74 = .ok (.iload_n 1, 1) := by decide +kernel
theorem dX9_signOf_75 : decode cX9_signOf 75 = .ok (.bipush 61, 2) := by decide +kernel
theorem dX9_signOf_77 : decode cX9_signOf 77 = .ok (.if_icmp .ne 8, 3) := by decide +kernel
theorem dX9_signOf_80 : decode cX9_signOf 80 = .ok (.bipush 53, 2) := by decide +kernel
theorem dX9_signOf_82 : decode cX9_signOf 82 = .ok (.goto 5, 3) := by decide +kernel
theorem dX9_signOf_85 : decode cX9_signOf 85 = .ok (.bipush 71, 2) := by decide +kernel
theorem dX9_signOf_87 : decode cX9_signOf 87 = .ok (.ireturn, 1) := by decide +kernel
theorem dX9_signOf_88 : decode cX9_signOf 88 = .ok (.iload_n 1, 1) := by decide +kernel
theorem dX9_signOf_89 : decode cX9_signOf 89 = .ok (.bipush 61, 2) := by decide +kernel
theorem dX9_signOf_91 : decode cX9_signOf 91 = .ok (.if_icmp .ne 8, 3) := by decide +kernel
theorem dX9_signOf_94 : decode cX9_signOf 94 = .ok (.bipush 55, 2) := by decide +kernel
theorem dX9_signOf_96 : decode cX9_signOf 96 = .ok (.goto 16, 3) := by decide +kernel
theorem dX9_signOf_99 : decode cX9_signOf 99 = .ok (.iload_n 1, 1) := by decide +kernel
theorem dX9_signOf_100 : decode cX9_signOf 100 = .ok (.bipush 60, 2) := by decide +kernel
theorem dX9_signOf_102 : decode cX9_signOf 102 = .ok (.if_icmp .ne 8, 3) := by decide +kernel
theorem dX9_signOf_105 : decode cX9_signOf 105 = .ok (.bipush 58, 2) := by decide +kernel
theorem dX9_signOf_107 : decode cX9_signOf 107 = .ok (.goto 5, 3) := by decide +kernel
theorem dX9_signOf_110 : decode cX9_signOf 110 = .ok (.bipush 54, 2) := by decide +kernel
theorem dX9_signOf_112 : decode cX9_signOf 112 = .ok (.ireturn, 1) := by decide +kernel
theorem dX9_signOf_113 : decode cX9_signOf 113 = .ok (.iload_n 1, 1) := by decide +kernel
theorem dX9_signOf_114 : decode cX9_signOf 114 = .ok (.bipush 61, 2) := by decide +kernel
theorem dX9_signOf_116 : decode cX9_signOf 116 = .ok (.if_icmp .ne 8, 3) := by decide +kernel
theorem dX9_signOf_119 : decode cX9_signOf 119 = .ok (.bipush 57, 2) := by decide +kernel
theorem dX9_signOf_121 : decode cX9_signOf 121 = .ok (.goto 16, 3) := by decide +kernel
theorem dX9_signOf_124 : decode cX9_signOf 124 = .ok (.iload_n 1, 1) := by decide +kernel
theorem dX9_signOf_125 : decode cX9_signOf 125 = .ok (.bipush 62, 2) := by decide +kernel
theorem dX9_signOf_127 : decode cX9_signOf 127 = .ok (.if_icmp .ne 8, 3) := by decide +kernel
theorem dX9_signOf_130 : decode cX9_signOf 130 = .ok (.bipush 59, 2) := by decide +kernel
theorem dX9_signOf_132 : decode cX9_signOf 132 = .ok (.goto 5, 3) := by decide +kernel
theorem dX9_signOf_135 : decode cX9_signOf 135 = .ok (.bipush 56, 2) := by decide +kernel
theorem dX9_signOf_137 : decode cX9_signOf 137 = .ok (.ireturn, 1) := by decide +kernel
theorem dX9_signOf_138 : decode cX9_signOf 138 = .ok (.iload_n 1, 1) := by decide +kernel
theorem dX9_signOf_139 : decode cX9_signOf 139 = .ok (.bipush 38, 2) := by decide +kernel
theorem dX9_signOf_141 : decode cX9_signOf 141 = .ok (.if_icmp .ne 8, 3) := by decide +kernel
theorem dX9_signOf_144 : decode cX9_signOf 144 = .ok (.bipush 67, 2) := by decide +kernel
theorem dX9_signOf_146 : decode cX9_signOf 146 = .ok (.goto 5, 3) := by decide +kernel
theorem dX9_signOf_149 : decode cX9_signOf 149 = .ok (.bipush 66, 2) := by decide +kernel
theorem dX9_signOf_151 : decode cX9_signOf 151 = .ok (.ireturn, 1) := by decide +kernel
theorem dX9_signOf_152 : decode cX9_signOf 152 = .ok (.iload_n 1, 1) := by decide +kernel
theorem dX9_signOf_153 : decode cX9_signOf 153 = .ok (.bipush 124, 2) := by decide +kernel
theorem dX9_signOf_155 : decode cX9_signOf 155 = .ok (.if_icmp .ne 8, 3) := by decide +kernel
theorem dX9_signOf_158 : decode cX9_signOf 158 = .ok (.bipush 69, 2) := by decide +kernel
theorem dX9_signOf_160 : decode cX9_signOf 160 = .ok (.goto 5, 3) := by decide +kernel
theorem dX9_signOf_163 : decode cX9_signOf 163 = .ok (.bipush 68, 2) := by decide +kernel
theorem dX9_signOf_165 : decode cX9_signOf 165 = .ok (.ireturn, 1) := by decide +kernel
theorem dX9_signOf_166 : decode cX9_signOf 166 = .ok (.iload_n 0, 1) := by decide +kernel
theorem dX9_signOf_167 : decode cX9_signOf 167 = .ok (.invokestatic 147, 3) := by decide +kernel
theorem dX9_signOf_170 : decode cX9_signOf 170 = .ok (.ireturn, 1) := by decide +kernel
