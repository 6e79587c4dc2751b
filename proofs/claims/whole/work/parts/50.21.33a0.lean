theorem rs_RX13_128 : mx_res RX13 128 = some (0, 13, 58) := by decide +kernel
theorem rs_RX13_131 : mx_res RX13 131 = some (0, 13, 59) := by decide +kernel
theorem rs_RX13_134 : mx_res RX13 134 = some (0, 13, 60) := by decide +kernel
theorem rs_RX13_137 : mx_res RX13 137 = some (0, 13, 61) := by decide +kernel
theorem rs_RX13_602 : mx_res RX13 602 = some (0, 13, 62) := by decide +kernel
theorem ft_13_62 : mx_fty 13 62 = some (.int, false, "ClassMillModel") := by decide +kernel
theorem mt_X13_constant : mx_mt 453 = some (yX13_constant, cX13_constant, 6, (some .int)) := rfl
theorem dX13_constant_0 : decode cX13_constant 0 = .ok (.iload_n 1, 1) := by decide +kernel
theorem dX13_constant_1 : decode cX13_constant 1 = .ok (.iconst 1, 1) := by decide +kernel
theorem dX13_constant_2 : decode cX13_constant 2 = .ok (.if_icmp .le 69, 3) := by decide +kernel
theorem dX13_constant_5 : decode cX13_constant 5 = .ok (.iconst 1, 1) := by decide +kernel
theorem dX13_constant_6 : decode cX13_constant 6 = .ok (.istore 5, 2) := by decide +kernel
theorem dX13_constant_8 : decode cX13_constant 8 = .ok (.iload 5, 2) := by decide +kernel
theorem dX13_constant_10 : decode cX13_constant 10 = .ok (.aload_n 0, 1) := by decide +kernel
theorem dX13_constant_11 : decode cX13_constant 11 = .ok (.getfield 602, 3) := by decide +kernel
theorem dX13_constant_14 : decode cX13_constant 14 = .ok (.if_icmp .gt 57, 3) := by decide +kernel
theorem dX13_constant_17 : decode cX13_constant 17 = .ok (.aload_n 0, 1) := by decide +kernel
theorem dX13_constant_18 : decode cX13_constant 18 = .ok (.getfield 128, 3) := by decide +kernel
theorem dX13_constant_21 : decode cX13_constant 21 = .ok (.iload 5, 2) := by decide +kernel
theorem dX13_constant_23 : decode cX13_constant 23 = .ok (.iaload, 1) := by decide +kernel
theorem dX13_constant_24 : decode cX13_constant 24 = .ok (.iload_n 1, 1) := by decide +kernel
theorem dX13_constant_25 : decode cX13_constant 25 = .ok (.if_icmp .ne 40, 3) := by decide +kernel
theorem dX13_constant_28 : decode cX13_constant 28 = .ok (.aload_n 0, 1) := by decide +kernel
theorem dX13_constant_29 : decode cX13_constant 29 = .ok (.getfield 131, 3) := by decide +kernel
theorem dX13_constant_32 : decode cX13_constant 32 = .ok (.iload 5, 2) := by decide +kernel
theorem dX13_constant_34 : decode cX13_constant 34 = .ok (.iaload, 1) := by decide +kernel
theorem dX13_constant_35 : decode cX13_constant 35 = .ok (.iload_n 2, 1) := by decide +kernel
theorem dX13_constant_36 : decode cX13_constant 36 = .ok (.if_icmp .ne 29, 3) := by decide +kernel
theorem dX13_constant_39 : decode cX13_constant 39 = .ok (.aload_n 0, 1) := by decide +kernel
theorem dX13_constant_40 : decode cX13_constant 40 = .ok (.getfield 134, 3) := by decide +kernel
theorem dX13_constant_43 : decode cX13_constant 43 = .ok (.iload 5, 2) := by decide +kernel
theorem dX13_constant_45 : decode cX13_constant 45 = .ok (.iaload, 1) := by decide +kernel
theorem dX13_constant_46 : decode cX13_constant 46 = .ok (.iload_n 3, 1) := by decide +kernel
theorem dX13_constant_47 : decode cX13_constant 47 = .ok (.if_icmp .ne 18, 3) := by decide +kernel
theorem dX13_constant_50 : decode cX13_constant 50 = .ok (.aload_n 0, 1) := by decide +kernel
theorem dX13_constant_51 : decode cX13_constant 51 = .ok (.getfield 137, 3) := by decide +kernel
theorem dX13_constant_54 : decode cX13_constant 54 = .ok (.iload 5, 2) := by decide +kernel
theorem dX13_constant_56 : decode cX13_constant 56 = .ok (.iaload, 1) := by decide +kernel
theorem dX13_constant_57 : decode cX13_constant 57 = .ok (.iload 4, 2) := by decide +kernel
theorem dX13_constant_59 : decode cX13_constant 59 = .ok (.if_icmp .ne 6, 3) := by decide +kernel
theorem dX13_constant_62 : decode cX13_constant 62 = .ok (.iload 5, 2) := by decide +kernel
theorem dX13_constant_64 : decode cX13_constant 64 = .ok (.ireturn, 1) := by decide +kernel
theorem dX13_constant_65 : decode cX13_constant 65 = .ok (.iinc 5 1, 3) := by decide +kernel
theorem dX13_constant_68 : decode cX13_constant 68 = .ok (.goto (-60), 3) := by decide +kernel
theorem dX13_constant_71 : decode cX13_constant 71 = .ok (.aload_n 0, 1) := by decide +kernel
theorem dX13_constant_72 : decode cX13_constant 72 = .ok (.dup, 1) := by decide +kernel
theorem dX13_constant_73 : decode cX13_constant 73 = .ok (.getfield 602, 3) := by decide +kernel
theorem dX13_constant_76 : decode cX13_constant 76 = .ok (.iconst 1, 1) := by decide +kernel
theorem dX13_constant_77 : decode cX13_constant 77 = .ok (.iadd, 1) := by decide +kernel
theorem dX13_constant_78 : decode cX13_constant 78 = .ok (.putfield 602, 3) := by decide +kernel
theorem dX13_constant_81 : decode cX13_constant 81 = .ok (.aload_n 0, 1) := by decide +kernel
theorem dX13_constant_82 : decode cX13_constant 82 = .ok (.getfield 128, 3) := by decide +kernel
theorem dX13_constant_85 : decode cX13_constant 85 = .ok (.aload_n 0, 1) := by decide +kernel
theorem dX13_constant_86 : decode cX13_constant 86 = .ok (.getfield 602, 3) := by decide +kernel
theorem dX13_constant_89 : decode cX13_constant 89 = .ok (.iload_n 1, 1) := by decide +kernel
theorem dX13_constant_90 : decode cX13_constant 90 = .ok (.iastore, 1) := by decide +kernel
theorem dX13_constant_91 : decode cX13_constant 91 = .ok (.aload_n 0, 1) := by decide +kernel
theorem dX13_constant_92 : decode cX13_constant 92 = .ok (.getfield 131, 3) := by decide +kernel
theorem dX13_constant_95 : decode cX13_constant 95 = .ok (.aload_n 0, 1) := by decide +kernel
theorem dX13_constant_96 : decode cX13_constant 96 = .ok (.getfield 602, 3) := by decide +kernel
theorem dX13_constant_99 : decode cX13_constant 99 = .ok (.iload_n 2, 1) := by decide +kernel
theorem dX13_constant_100 : decode cX13_constant 100 = .ok (.iastore, 1) := by decide +kernel
theorem dX13_constant_101 : decode cX13_constant 101 = .ok (.aload_n 0, 1) := by decide +kernel
theorem dX13_constant_102 : decode cX13_constant 102 = .ok (.getfield 134, 3) := by decide +kernel
theorem dX13_constant_105 : decode cX13_constant 105 = .ok (.aload_n 0, 1) := by decide +kernel
theorem dX13_constant_106 : decode cX13_constant 106 = .ok (.getfield 602, 3) := by decide +kernel
theorem dX13_constant_109 : decode cX13_constant 109 = .ok (.iload_n 3, 1) := by decide +kernel
theorem dX13_constant_110 : decode cX13_constant 110 = .ok (.iastore, 1) := by decide +kernel
theorem dX13_constant_111 : decode cX13_constant 111 = .ok (.aload_n 0, 1) := by decide +kernel
theorem dX13_constant_112 : decode cX13_constant 112 = .ok (.getfield 137, 3) := by decide +kernel
theorem dX13_constant_115 : decode cX13_constant 115 = .ok (.aload_n 0, 1) := by decide +kernel
theorem dX13_constant_116 : decode cX13_constant 116 = .ok (.getfield 602, 3) := by decide +kernel
theorem dX13_constant_119 : decode cX13_constant 119 = .ok (.iload 4, 2) := by decide +kernel
theorem dX13_constant_121 : decode cX13_constant 121 = .ok (.iastore, 1) := by decide +kernel
theorem dX13_constant_122 : decode cX13_constant 122 = .ok (.aload_n 0, 1) := by decide +kernel
theorem dX13_constant_123 : decode cX13_constant 123 = .ok (.getfield 602, 3) := by decide +kernel
theorem dX13_constant_126 : decode cX13_constant 126 = .ok (.ireturn, 1) := by decide +kernel
theorem rs_RX13_144 : mx_res RX13 144 = some (0, 13, 65) := by decide +kernel
theorem rs_RX13_590 : mx_res RX13 590 = some (0, 13, 66) := by decide +kernel
theorem ft_13_66 : mx_fty 13 66 = some (.int, false, "ClassMillModel") := by decide +kernel
theorem mt_X13_spell : mx_mt 448 = some (yX13_spell, cX13_spell, 2, none) := rfl
theorem dX13_spell_0 : decode cX13_spell 0 = .ok (.aload_n 0, 1) := by decide +kernel
theorem dX13_spell_1 : decode cX13_spell 1 = .ok (.getfield 144, 3) := by decide +kernel
theorem dX13_spell_4 : decode cX13_spell 4 = .ok (.aload_n 0, 1) := by decide +kernel
theorem dX13_spell_5 : decode cX13_spell 5 = .ok (.getfield 590, 3) := by decide +kernel
theorem dX13_spell_8 : decode cX13_spell 8 = .ok (.iload_n 1, 1) := by decide +kernel
theorem dX13_spell_9 : decode cX13_spell 9 = .ok (.iastore, 1) := by decide +kernel
theorem dX13_spell_10 : decode cX13_spell 10 = .ok (.aload_n 0, 1) := by decide +kernel
theorem dX13_spell_11 : decode cX13_spell 11 = .ok (.dup, 1) := by decide +kernel
theorem dX13_spell_12 : decode cX13_spell 12 = .ok (.getfield 590, 3) := by decide +kernel
theorem dX13_spell_15 : decode cX13_spell 15 = .ok (.iconst 1, 1) := by decide +kernel
theorem dX13_spell_16 : decode cX13_spell 16 = .ok (.iadd, 1) := by decide +kernel
theorem dX13_spell_17 : decode cX13_spell 17 = .ok (.putfield 590, 3) := by decide +kernel
theorem dX13_spell_20 : decode cX13_spell 20 = .ok (.return_, 1) := by decide +kernel
theorem rs_RX13_593 : mx_res RX13 593 = some (1, 448, 1) := by decide +kernel
theorem mt_X13_spellToken : mx_mt 449 = some (yX13_spellToken, cX13_spellToken, 3, none) := rfl
theorem dX13_spellToken_0 : decode cX13_spellToken 0 = .ok (.iconst 0, 1) := by decide +kernel
theorem dX13_spellToken_1 : decode cX13_spellToken 1 = .ok (.istore_n 2, 1) := by decide +kernel
theorem dX13_spellToken_2 : decode cX13_spellToken 2 = .ok (.iload_n 2, 1) := by decide +kernel
theorem dX13_spellToken_3 : decode cX13_spellToken 3 = .ok (.aload_n 0, 1) := by decide +kernel
theorem dX13_spellToken_4 : decode cX13_spellToken 4 = .ok (.getfield 22, 3) := by decide +kernel
theorem dX13_spellToken_7 : decode cX13_spellToken 7 = .ok (.iload_n 1, 1) := by decide +kernel
theorem dX13_spellToken_8 : decode cX13_spellToken 8 = .ok (.iaload, 1) := by decide +kernel
theorem dX13_spellToken_9 : decode cX13_spellToken 9 = .ok (.if_icmp .ge 26, 3) := by decide +kernel
theorem dX13_spellToken_12 : decode cX13_spellToken 12 = .ok (.aload_n 0, 1) := by decide +kernel
theorem dX13_spellToken_13 : decode cX13_spellToken 13 = .ok (.aload_n 0, 1) := by decide +kernel
theorem dX13_spellToken_14 : decode cX13_spellToken 14 = .ok (.getfield 13, 3) := by decide +kernel
theorem dX13_spellToken_17 : decode cX13_spellToken 17 = .ok (.aload_n 0, 1) := by decide +kernel
theorem dX13_spellToken_18 : decode cX13_spellToken 18 = .ok (.getfield 19, 3) := by decide +kernel
theorem dX13_spellToken_21 : decode cX13_spellToken 21 = .ok (.iload_n 1, 1) := by decide +kernel
theorem dX13_spellToken_22 : decode cX13_spellToken 22 = .ok (.iaload, 1) := by decide +kernel
theorem dX13_spellToken_23 : decode cX13_spellToken 23 = .ok (.iload_n 2, 1) := by decide +kernel
theorem dX13_spellToken_24 : decode cX13_spellToken 24 = .ok (.iadd, 1) := by decide +kernel
theorem dX13_spellToken_25 : decode cX13_spellToken 25 = .ok (.iaload, 1) := by decide +kernel
theorem dX13_spellToken_26 : decode cX13_spellToken 26 = .ok (.invokevirtual 593, 3) := by decide +kernel
theorem dX13_spellToken_29 : decode cX13_spellToken 29 = .ok (.iinc 2 1, 3) := by decide +kernel
theorem dX13_spellToken_32 : decode cX13_spellToken 32 = .ok (.goto (-30), 3) := by decide +kernel
theorem dX13_spellToken_35 : decode cX13_spellToken 35 = .ok (.return_, 1) := by decide +kernel
theorem rs_RX13_596 : mx_res RX13 596 = some (1, 449, 1) := by decide +kernel
theorem mt_X13_spellClass : mx_mt 450 = some (yX13_spellClass, cX13_spellClass, 4, none) := rfl
theorem dX13_spellClass_0 : decode cX13_spellClass 0 = .ok (.iload_n 1, 1) := by decide +kernel
theorem dX13_spellClass_1 : decode cX13_spellClass 1 = .ok (.bipush 8, 2) := by decide +kernel
theorem dX13_spellClass_3 : decode cX13_spellClass 3 = .ok (.if_icmp .lt 17, 3) := by decide +kernel
theorem dX13_spellClass_6 : decode cX13_spellClass 6 = .ok (.aload_n 0, 1) := by decide +kernel
theorem dX13_spellClass_7 : decode cX13_spellClass 7 = .ok (.aload_n 0, 1) := by decide +kernel
theorem dX13_spellClass_8 : decode cX13_spellClass 8 = .ok (.getfield 62, 3) := by decide +kernel
theorem dX13_spellClass_11 : decode cX13_spellClass 11 = .ok (.iload_n 1, 1) := by decide +kernel
theorem dX13_spellClass_12 : decode cX13_spellClass 12 = .ok (.bipush 8, 2) := by decide +kernel
theorem dX13_spellClass_14 : decode cX13_spellClass 14 = .ok (.isub, 1) := by decide +kernel
theorem dX13_spellClass_15 : decode cX13_spellClass 15 = .ok (.iaload, 1) := by decide +kernel
theorem dX13_spellClass_16 : decode cX13_spellClass 16 = .ok (.invokevirtual 596, 3) := by decide +kernel
theorem dX13_spellClass_19 : decode cX13_spellClass 19 = .ok (.return_, 1) := by decide +kernel
theorem dX13_spellClass_20 : decode cX13_spellClass 20 = .ok (.iconst (-1), 1) := by decide +kernel
theorem dX13_spellClass_21 : decode cX13_spellClass 21 = .ok (.istore_n 2, 1) := by decide +kernel
theorem dX13_spellClass_22 : decode cX13_spellClass 22 = .ok (.iconst 0, 1) := by decide +kernel
theorem dX13_spellClass_23 : decode cX13_spellClass 23 = .ok (.istore_n 3, 1) := by decide +kernel
theorem dX13_spellClass_24 : decode cX13_spellClass 24 = .ok (.iload_n 3, 1) := by decide +kernel
theorem dX13_spellClass_25 : decode cX13_spellClass 25 = .ok (.ldc_w 477, 3) := by decide +kernel
theorem dX13_spellClass_28 : decode cX13_spellClass 28 = .ok (.invokevirtual 328, 3) := by decide +kernel
theorem dX13_spellClass_31 : decode cX13_spellClass 31 = .ok (.if_icmp .ge 43, 3) := by decide +kernel
theorem dX13_spellClass_34 : decode cX13_spellClass 34 = .ok (.ldc_w 477, 3) := by decide +kernel
theorem dX13_spellClass_37 : decode cX13_spellClass 37 = .ok (.iload_n 3, 1) := by decide +kernel
theorem dX13_spellClass_38 : decode cX13_spellClass 38 = .ok (.invokevirtual 334, 3) := by decide +kernel
theorem dX13_spellClass_41 : decode cX13_spellClass 41 = .ok (.bipush 32, 2) := by decide +kernel
theorem dX13_spellClass_43 : decode cX13_spellClass 43 = .ok (.if_icmp .ne 9, 3) := by decide +kernel
theorem dX13_spellClass_46 : decode cX13_spellClass 46 = .ok (.iinc 2 1, 3) := by decide +kernel
theorem dX13_spellClass_49 : decode cX13_spellClass 49 = .ok (.goto 19, 3) := by decide +kernel
theorem dX13_spellClass_52 : decode cX13_spellClass 52 = .ok (.iload_n 2, 1) := by decide +kernel
theorem dX13_spellClass_53 : decode cX13_spellClass 53 = .ok (.iload_n 1, 1) := by decide +kernel
theorem dX13_spellClass_54 : decode cX13_spellClass 54 = .ok (.if_icmp .ne 14, 3) := by decide +kernel
theorem dX13_spellClass_57 : decode cX13_spellClass 57 = .ok (.aload_n 0, 1) := by decide +kernel
theorem dX13_spellClass_58 : decode cX13_spellClass 58 = .ok (.ldc_w 477, 3) := by decide +kernel
theorem dX13_spellClass_61 : decode cX13_spellClass 61 = .ok (.iload_n 3, 1) := by decide +kernel
theorem dX13_spellClass_62 : decode cX13_spellClass 62 = .ok (.invokevirtual 334, 3) := by decide +kernel
theorem dX13_spellClass_65 : decode cX13_spellClass 65 = .ok (.invokevirtual 593, 3) := by decide +kernel
theorem dX13_spellClass_68 : decode cX13_spellClass 68 = .ok (.iinc 3 1, 3) := by decide +kernel
theorem dX13_spellClass_71 : decode cX13_spellClass 71 = .ok (.goto (-47), 3) := by decide +kernel
theorem dX13_spellClass_74 : decode cX13_spellClass 74 = .ok (.return_, 1) := by decide +kernel
theorem rs_RX13_599 : mx_res RX13 599 = some (1, 450, 1) := by decide +kernel
theorem mt_X13_spellKind : mx_mt 451 = some (yX13_spellKind, cX13_spellKind, 2, none) := rfl
theorem dX13_spellKind_0 : decode cX13_spellKind 0 = .ok (.iload_n 1, 1) := by decide +kernel
theorem dX13_spellKind_1 : decode cX13_spellKind 1 = .ok (.ifCond .ne 12, 3) := by decide +kernel
theorem dX13_spellKind_4 : decode cX13_spellKind 4 = .ok (.aload_n 0, 1) := by decide +kernel
theorem dX13_spellKind_5 : decode cX13_spellKind 5 = .ok (.bipush 73, 2) := by decide +kernel
theorem dX13_spellKind_7 : decode cX13_spellKind 7 = .ok (.invokevirtual 593, 3) := by decide +kernel
theorem dX13_spellKind_10 : decode cX13_spellKind 10 = .ok (.goto 78, 3) := by decide +kernel
theorem dX13_spellKind_13 : decode cX13_spellKind 13 = .ok (.iload_n 1, 1) := by decide +kernel
theorem dX13_spellKind_14 : decode cX13_spellKind 14 = .ok (.iconst 1, 1) := by decide +kernel
theorem dX13_spellKind_15 : decode cX13_spellKind 15 = .ok (.if_icmp .ne 12, 3) := by decide +kernel
theorem dX13_spellKind_18 : decode cX13_spellKind 18 = .ok (.aload_n 0, 1) := by decide +kernel
theorem dX13_spellKind_19 : decode cX13_spellKind 19 = .ok (.bipush 90, 2) := by decide +kernel
theorem dX13_spellKind_21 : decode cX13_spellKind 21 = .ok (.invokevirtual 593, 3) := by decide +kernel
theorem dX13_spellKind_24 : decode cX13_spellKind 24 = .ok (.goto 64, 3) := by decide +kernel
theorem dX13_spellKind_27 : decode cX13_spellKind 27 = .ok (.iload_n 1, 1) := by decide +kernel
theorem dX13_spellKind_28 : decode cX13_spellKind 28 = .ok (.iconst 3, 1) := by decide +kernel
theorem dX13_spellKind_29 : decode cX13_spellKind 29 = .ok (.if_icmp .ne 12, 3) := by decide +kernel
theorem dX13_spellKind_32 : decode cX13_spellKind 32 = .ok (.aload_n 0, 1) := by decide +kernel
theorem dX13_spellKind_33 : decode cX13_spellKind 33 = .ok (.bipush 86, 2) := by decide +kernel
theorem dX13_spellKind_35 : decode cX13_spellKind 35 = .ok (.invokevirtual 593, 3) := by decide +kernel
theorem dX13_spellKind_38 : decode cX13_spellKind 38 = .ok (.goto 50, 3) := by decide +kernel
theorem dX13_spellKind_41 : decode cX13_spellKind 41 = .ok (.iload_n 1, 1) := by decide +kernel
theorem dX13_spellKind_42 : decode cX13_spellKind 42 = .ok (.invokestatic 485, 3) := by decide +kernel
theorem dX13_spellKind_45 : decode cX13_spellKind 45 = .ok (.ifCond .eq 9, 3) := by decide +kernel
theorem dX13_spellKind_48 : decode cX13_spellKind 48 = .ok (.aload_n 0, 1) := by decide +kernel
theorem dX13_spellKind_49 : decode cX13_spellKind 49 = .ok (.bipush 91, 2) := by decide +kernel
theorem dX13_spellKind_51 : decode cX13_spellKind 51 = .ok (.invokevirtual 593, 3) := by decide +kernel
theorem dX13_spellKind_54 : decode cX13_spellKind 54 = .ok (.iload_n 1, 1) := by decide +kernel
theorem dX13_spellKind_55 : decode cX13_spellKind 55 = .ok (.iconst 4, 1) := by decide +kernel
theorem dX13_spellKind_56 : decode cX13_spellKind 56 = .ok (.if_icmp .ne 10, 3) := by decide +kernel
theorem dX13_spellKind_59 : decode cX13_spellKind 59 = .ok (.aload_n 0, 1) := by decide +kernel
theorem dX13_spellKind_60 : decode cX13_spellKind 60 = .ok (.bipush 73, 2) := by decide +kernel
theorem dX13_spellKind_62 : decode cX13_spellKind 62 = .ok (.invokevirtual 593, 3) := by decide +kernel
theorem dX13_spellKind_65 : decode cX13_spellKind 65 = .ok (.return_, 1) := by decide +kernel
theorem dX13_spellKind_66 : decode cX13_spellKind 66 = .ok (.aload_n 0, 1) := by decide +kernel
theorem dX13_spellKind_67 : decode cX13_spellKind 67 = .ok (.bipush 76, 2) := by decide +kernel
theorem dX13_spellKind_69 : decode cX13_spellKind 69 = .ok (.invokevirtual 593, 3) := by decide +kernel
theorem dX13_spellKind_72 : decode cX13_spellKind 72 = .ok (.aload_n 0, 1) := by decide +kernel
theorem dX13_spellKind_73 : decode cX13_spellKind 73 = .ok (.iload_n 1, 1) := by decide +kernel
theorem dX13_spellKind_74 : decode cX13_spellKind 74 = .ok (.bipush 8, 2) := by decide +kernel
theorem dX13_spellKind_76 : decode cX13_spellKind 76 = .ok (.isub, 1) := by decide +kernel
theorem dX13_spellKind_77 : decode cX13_spellKind 77 = .ok (.iconst 2, 1) := by decide +kernel
theorem dX13_spellKind_78 : decode cX13_spellKind 78 = .ok (.idiv, 1) := by decide +kernel
theorem dX13_spellKind_79 : decode cX13_spellKind 79 = .ok (.invokevirtual 599, 3) := by decide +kernel
theorem dX13_spellKind_82 : decode cX13_spellKind 82 = .ok (.aload_n 0, 1) := by decide +kernel
theorem dX13_spellKind_83 : decode cX13_spellKind 83 = .ok (.bipush 59, 2) := by decide +kernel
theorem dX13_spellKind_85 : decode cX13_spellKind 85 = .ok (.invokevirtual 593, 3) := by decide +kernel
theorem dX13_spellKind_88 : decode cX13_spellKind 88 = .ok (.return_, 1) := by decide +kernel
theorem rs_RX13_141 : mx_res RX13 141 = some (0, 13, 63) := by decide +kernel
theorem rs_RX13_605 : mx_res RX13 605 = some (0, 13, 64) := by decide +kernel
theorem rs_RX13_608 : mx_res RX13 608 = some (1, 453, 4) := by decide +kernel
theorem ft_13_64 : mx_fty 13 64 = some (.int, false, "ClassMillModel") := by decide +kernel
theorem mt_X13_spelling : mx_mt 452 = some (yX13_spelling, cX13_spelling, 5, (some .int)) := rfl
theorem dX13_spelling_0 : decode cX13_spelling 0 = .ok (.aload_n 0, 1) := by decide +kernel
theorem dX13_spelling_1 : decode cX13_spelling 1 = .ok (.getfield 590, 3) := by decide +kernel
theorem dX13_spelling_4 : decode cX13_spelling 4 = .ok (.istore_n 1, 1) := by decide +kernel
theorem dX13_spelling_5 : decode cX13_spelling 5 = .ok (.aload_n 0, 1) := by decide +kernel
theorem dX13_spelling_6 : decode cX13_spelling 6 = .ok (.iconst 0, 1) := by decide +kernel
theorem dX13_spelling_7 : decode cX13_spelling 7 = .ok (.putfield 590, 3) := by decide +kernel
theorem dX13_spelling_10 : decode cX13_spelling 10 = .ok (.iconst 1, 1) := by decide +kernel
theorem dX13_spelling_11 : decode cX13_spelling 11 = .ok (.istore_n 2, 1) := by decide +kernel
theorem dX13_spelling_12 : decode cX13_spelling 12 = .ok (.iload_n 2, 1) := by decide +kernel
theorem dX13_spelling_13 : decode cX13_spelling 13 = .ok (.aload_n 0, 1) := by decide +kernel
theorem dX13_spelling_14 : decode cX13_spelling 14 = .ok (.getfield 602, 3) := by decide +kernel
theorem dX13_spelling_17 : decode cX13_spelling 17 = .ok (.if_icmp .gt 90, 3) := by decide +kernel
theorem dX13_spelling_20 : decode cX13_spelling 20 = .ok (.aload_n 0, 1) := by decide +kernel
theorem dX13_spelling_21 : decode cX13_spelling 21 = .ok (.getfield 128, 3) := by decide +kernel
theorem dX13_spelling_24 : decode cX13_spelling 24 = .ok (.iload_n 2, 1) := by decide +kernel
theorem dX13_spelling_25 : decode cX13_spelling 25 = .ok (.iaload, 1) := by decide +kernel
theorem dX13_spelling_26 : decode cX13_spelling 26 = .ok (.iconst 1, 1) := by decide +kernel
theorem dX13_spelling_27 : decode cX13_spelling 27 = .ok (.if_icmp .ne 17, 3) := by decide +kernel
theorem dX13_spelling_30 : decode cX13_spelling 30 = .ok (.aload_n 0, 1) := by decide +kernel
theorem dX13_spelling_31 : decode cX13_spelling 31 = .ok (.getfield 134, 3) := by decide +kernel
theorem dX13_spelling_34 : decode cX13_spelling 34 = .ok (.iload_n 2, 1) := by decide +kernel
theorem dX13_spelling_35 : decode cX13_spelling 35 = .ok (.iaload, 1) := by decide +kernel
theorem dX13_spelling_36 : decode cX13_spelling 36 = .ok (.iload_n 1, 1) := by decide +kernel
theorem dX13_spelling_37 : decode cX13_spelling 37 = .ok (.if_icmp .ne 7, 3) := by decide +kernel
theorem dX13_spelling_40 : decode cX13_spelling 40 = .ok (.iconst 1, 1) := by decide +kernel
theorem dX13_spelling_41 : decode cX13_spelling 41 = .ok (.goto 4, 3) := by decide +kernel
theorem dX13_spelling_44 : decode cX13_spelling 44 = .ok (.iconst 0, 1) := by decide +kernel
theorem dX13_spelling_45 : decode cX13_spelling 45 = .ok (.istore_n 3, 1) := by decide +kernel
theorem dX13_spelling_46 : decode cX13_spelling 46 = .ok (.iconst 0, 1) := by decide +kernel
theorem dX13_spelling_47 : decode cX13_spelling 47 = .ok (.istore 4, 2) := by decide +kernel
theorem dX13_spelling_49 : decode cX13_spelling 49 = .ok (.iload 4, 2) := by decide +kernel
theorem dX13_spelling_51 : decode cX13_spelling 51 = .ok (.iload_n 1, 1) := by decide +kernel
theorem dX13_spelling_52 : decode cX13_spelling 52 = .ok (.if_icmp .ge 43, 3) := by decide +kernel
theorem dX13_spelling_55 : decode cX13_spelling 55 = .ok (.iload_n 3, 1) := by decide +kernel
theorem dX13_spelling_56 : decode cX13_spelling 56 = .ok (.ifCond .eq 39, 3) := by decide +kernel
theorem dX13_spelling_59 : decode cX13_spelling 59 = .ok (.aload_n 0, 1) := by decide +kernel
theorem dX13_spelling_60 : decode cX13_spelling 60 = .ok (.getfield 141, 3) := by decide +kernel
theorem dX13_spelling_63 : decode cX13_spelling 63 = .ok (.aload_n 0, 1) := by decide +kernel
theorem dX13_spelling_64 : decode cX13_spelling 64 = .ok (.getfield 131, 3) := by decide +kernel
theorem dX13_spelling_67 : decode cX13_spelling 67 = .ok (.iload_n 2, 1) := by decide +kernel
theorem dX13_spelling_68 : decode cX13_spelling 68 = .ok (.iaload, 1) := by decide +kernel
theorem dX13_spelling_69 : decode cX13_spelling 69 = .ok (.iload 4, 2) := by decide +kernel
theorem dX13_spelling_71 : decode cX13_spelling 71 = .ok (.iadd, 1) := by decide +kernel
theorem dX13_spelling_72 : decode cX13_spelling 72 = .ok (.iaload, 1) := by decide +kernel
theorem dX13_spelling_73 : decode cX13_spelling 73 = .ok (.aload_n 0, 1) := by decide +kernel
theorem dX13_spelling_74 : decode cX13_spelling 74 = .ok (.getfield 144, 3) := by decide +kernel
theorem dX13_spelling_77 : decode cX13_spelling 77 = .ok (.iload 4, 2) := by decide +kernel
theorem dX13_spelling_79 : decode cX13_spelling 79 = .ok (.iaload, 1) := by decide +kernel
theorem dX13_spelling_80 : decode cX13_spelling 80 = .ok (.if_icmp .ne 7, 3) := by decide +kernel
theorem dX13_spelling_83 : decode cX13_spelling 83 = .ok (.iconst 1, 1) := by decide +kernel
theorem dX13_spelling_84 : decode cX13_spelling 84 = .ok (.goto 4, 3) := by decide +kernel
theorem dX13_spelling_87 : decode cX13_spelling 87 = .ok (.iconst 0, 1) := by decide +kernel
theorem dX13_spelling_88 : decode cX13_spelling 88 = .ok (.istore_n 3, 1) := by decide +kernel
theorem dX13_spelling_89 : decode cX13_spelling 89 = .ok (.iinc 4 1, 3) := by decide +kernel
theorem dX13_spelling_92 : decode cX13_spelling 92 = .ok (.goto (-43), 3) := by decide +kernel
theorem dX13_spelling_95 : decode cX13_spelling 95 = .ok (.iload_n 3, 1) := by decide +kernel
theorem dX13_spelling_96 : decode cX13_spelling 96 = .ok (.ifCond .eq 5, 3) := by decide +kernel
theorem dX13_spelling_99 : decode cX13_spelling 99 = .ok (.iload_n 2, 1) := by decide +kernel
theorem dX13_spelling_100 : decode cX13_spelling 100 = .ok (.ireturn, 1) := by decide +kernel
theorem dX13_spelling_101 : decode cX13_spelling 101 = .ok (.iinc 2 1, 3) := by decide +kernel
theorem dX13_spelling_104 : decode cX13_spelling 104 = .ok (.goto (-92), 3) := by decide +kernel
theorem dX13_spelling_107 : decode cX13_spelling 107 = .ok (.iconst 0, 1) := by decide +kernel
theorem dX13_spelling_108 : decode cX13_spelling 108 = .ok (.istore_n 2, 1) := by decide +kernel
theorem dX13_spelling_109 : decode cX13_spelling 109 = .ok (.iload_n 2, 1) := by decide +kernel
theorem dX13_spelling_110 : decode cX13_spelling 110 = .ok (.iload_n 1, 1) := by decide +kernel
theorem dX13_spelling_111 : decode cX13_spelling 111 = .ok (.if_icmp .ge 26, 3) := by decide +kernel
theorem dX13_spelling_114 : decode cX13_spelling 114 = .ok (.aload_n 0, 1) := by decide +kernel
theorem dX13_spelling_115 : decode cX13_spelling 115 = .ok (.getfield 141, 3) := by decide +kernel
theorem dX13_spelling_118 : decode cX13_spelling 118 = .ok (.aload_n 0, 1) := by decide +kernel
theorem dX13_spelling_119 : decode cX13_spelling 119 = .ok (.getfield 605, 3) := by decide +kernel
theorem dX13_spelling_122 : decode cX13_spelling 122 = .ok (.iload_n 2, 1) := by decide +kernel
theorem dX13_spelling_123 : decode cX13_spelling 123 = .ok (.iadd, 1) := by decide +kernel
theorem dX13_spelling_124 : decode cX13_spelling 124 = .ok (.aload_n 0, 1) := by decide +kernel
theorem dX13_spelling_125 : decode cX13_spelling 125 = .ok (.getfield 144, 3) := by decide +kernel
theorem dX13_spelling_128 : decode cX13_spelling 128 = .ok (.iload_n 2, 1) := by decide +kernel
theorem dX13_spelling_129 : decode cX13_spelling 129 = .ok (.iaload, 1) := by decide +kernel
theorem dX13_spelling_130 : decode cX13_spelling 130 = .ok (.iastore, 1) := by decide +kernel
theorem dX13_spelling_131 : decode cX13_spelling 131 = .ok (.iinc 2 1, 3) := by decide +kernel
theorem dX13_spelling_134 : decode cX13_spelling 134 = .ok (.goto (-25), 3) := by decide +kernel
theorem dX13_spelling_137 : decode cX13_spelling 137 = .ok (.aload_n 0, 1) := by decide +kernel
theorem dX13_spelling_138 : decode cX13_spelling 138 = .ok (.iconst 1, 1) := by decide +kernel
theorem dX13_spelling_139 : decode cX13_spelling 139 = .ok (.aload_n 0, 1) := by decide +kernel
theorem dX13_spelling_140 : decode cX13_spelling 140 = .ok (.getfield 605, 3) := by decide +kernel
theorem dX13_spelling_143 : decode cX13_spelling 143 = .ok (.iload_n 1, 1) := by decide +kernel
theorem dX13_spelling_144 : decode cX13_spelling 144 = .ok (.iconst 0, 1) := by decide +kernel
theorem dX13_spelling_145 : decode cX13_spelling 145 = .ok (.invokevirtual 608, 3) := by decide +kernel
theorem dX13_spelling_148 : decode cX13_spelling 148 = .ok (.istore_n 2, 1) := by decide +kernel
theorem dX13_spelling_149 : decode cX13_spelling 149 = .ok (.aload_n 0, 1) := by decide +kernel
theorem dX13_spelling_150 : decode cX13_spelling 150 = .ok (.dup, 1) := by decide +kernel
theorem dX13_spelling_151 : decode cX13_spelling 151 = .ok (.getfield 605, 3) := by decide +kernel
theorem dX13_spelling_154 : decode cX13_spelling 154 = .ok (.iload_n 1, 1) := by decide +kernel
theorem dX13_spelling_155 : decode cX13_spelling 155 = .ok (.iadd, 1) := by decide +kernel
theorem dX13_spelling_156 : decode cX13_spelling 156 = .ok (.putfield 605, 3) := by decide +kernel
theorem dX13_spelling_159 : decode cX13_spelling 159 = .ok (.iload_n 2, 1) := by decide +kernel
theorem dX13_spelling_160 : decode cX13_spelling 160 = .ok (.ireturn, 1) := by decide +kernel
theorem rs_RX13_612 : mx_res RX13 612 = some (1, 451, 1) := by decide +kernel
theorem rs_RX13_615 : mx_res RX13 615 = some (1, 452, 0) := by decide +kernel
theorem mt_X13_classConstant : mx_mt 454 = some (yX13_classConstant, cX13_classConstant, 2, (some .int)) := rfl
theorem dX13_classConstant_0 : decode cX13_classConstant 0 = .ok (.iload_n 1, 1) := by decide +kernel
theorem dX13_classConstant_1 : decode cX13_classConstant 1 = .ok (.iconst 4, 1) := by decide +kernel
theorem dX13_classConstant_2 : decode cX13_classConstant 2 = .ok (.if_icmp .ne 11, 3) := by decide +kernel
theorem dX13_classConstant_5 : decode cX13_classConstant 5 = .ok (.aload_n 0, 1) := by decide +kernel
theorem dX13_classConstant_6 : decode cX13_classConstant 6 = .ok (.iload_n 1, 1) := by decide +kernel
theorem dX13_classConstant_7 : decode cX13_classConstant 7 = .ok (.invokevirtual 612, 3) := by decide +kernel
theorem dX13_classConstant_10 : decode cX13_classConstant 10 = .ok (.goto 28, 3) := by decide +kernel
theorem dX13_classConstant_13 : decode cX13_classConstant 13 = .ok (.iload_n 1, 1) := by decide +kernel
theorem dX13_classConstant_14 : decode cX13_classConstant 14 = .ok (.invokestatic 485, 3) := by decide +kernel
theorem dX13_classConstant_17 : decode cX13_classConstant 17 = .ok (.ifCond .eq 11, 3) := by decide +kernel
theorem dX13_classConstant_20 : decode cX13_classConstant 20 = .ok (.aload_n 0, 1) := by decide +kernel
theorem dX13_classConstant_21 : decode cX13_classConstant 21 = .ok (.iload_n 1, 1) := by decide +kernel
theorem dX13_classConstant_22 : decode cX13_classConstant 22 = .ok (.invokevirtual 612, 3) := by decide +kernel
theorem dX13_classConstant_25 : decode cX13_classConstant 25 = .ok (.goto 13, 3) := by decide +kernel
theorem dX13_classConstant_28 : decode cX13_classConstant 28 = .ok (.aload_n 0, 1) := by decide +kernel
theorem dX13_classConstant_29 : decode cX13_classConstant 29 = .ok (.iload_n 1, 1) := by decide +kernel
theorem dX13_classConstant_30 : decode cX13_classConstant 30 = .ok (.bipush 8, 2) := by decide +kernel
theorem dX13_classConstant_32 : decode cX13_classConstant 32 = .ok (.isub, 1) := by decide +kernel
theorem dX13_classConstant_33 : decode cX13_classConstant 33 = .ok (.iconst 2, 1) := by decide +kernel
theorem dX13_classConstant_34 : decode cX13_classConstant 34 = .ok (.idiv, 1) := by decide +kernel
theorem dX13_classConstant_35 : decode cX13_classConstant 35 = .ok (.invokevirtual 599, 3) := by decide +kernel
theorem dX13_classConstant_38 : decode cX13_classConstant 38 = .ok (.aload_n 0, 1) := by decide +kernel
theorem dX13_classConstant_39 : decode cX13_classConstant 39 = .ok (.iconst 3, 1) := by decide +kernel
theorem dX13_classConstant_40 : decode cX13_classConstant 40 = .ok (.aload_n 0, 1) := by decide +kernel
theorem dX13_classConstant_41 : decode cX13_classConstant 41 = .ok (.invokevirtual 615, 3) := by decide +kernel
theorem dX13_classConstant_44 : decode cX13_classConstant 44 = .ok (.iconst 0, 1) := by decide +kernel
theorem dX13_classConstant_45 : decode cX13_classConstant 45 = .ok (.iconst 0, 1) := by decide +kernel
theorem dX13_classConstant_46 : decode cX13_classConstant 46 = .ok (.invokevirtual 608, 3) := by decide +kernel
theorem dX13_classConstant_49 : decode cX13_classConstant 49 = .ok (.ireturn, 1) := by decide +kernel
theorem mt_X13_kindOf : mx_mt 456 = some (yX13_kindOf, cX13_kindOf, 3, (some .int)) := rfl
theorem dX13_kindOf_0 : decode cX13_kindOf 0 = .ok (.aload_n 0, 1) := by decide +kernel
theorem dX13_kindOf_1 : decode cX13_kindOf 1 = .ok (.getfield 74, 3) := by decide +kernel
theorem dX13_kindOf_4 : decode cX13_kindOf 4 = .ok (.iload_n 1, 1) := by decide +kernel
theorem dX13_kindOf_5 : decode cX13_kindOf 5 = .ok (.iaload, 1) := by decide +kernel
theorem dX13_kindOf_6 : decode cX13_kindOf 6 = .ok (.ifCond .le 50, 3) := by decide +kernel
theorem dX13_kindOf_9 : decode cX13_kindOf 9 = .ok (.aload_n 0, 1) := by decide +kernel
theorem dX13_kindOf_10 : decode cX13_kindOf 10 = .ok (.bipush 40, 2) := by decide +kernel
theorem dX13_kindOf_12 : decode cX13_kindOf 12 = .ok (.invokevirtual 593, 3) := by decide +kernel
theorem dX13_kindOf_15 : decode cX13_kindOf 15 = .ok (.iconst 0, 1) := by decide +kernel
theorem dX13_kindOf_16 : decode cX13_kindOf 16 = .ok (.istore_n 2, 1) := by decide +kernel
theorem dX13_kindOf_17 : decode cX13_kindOf 17 = .ok (.iload_n 2, 1) := by decide +kernel
theorem dX13_kindOf_18 : decode cX13_kindOf 18 = .ok (.aload_n 0, 1) := by decide +kernel
theorem dX13_kindOf_19 : decode cX13_kindOf 19 = .ok (.getfield 95, 3) := by decide +kernel
theorem dX13_kindOf_22 : decode cX13_kindOf 22 = .ok (.iload_n 1, 1) := by decide +kernel
theorem dX13_kindOf_23 : decode cX13_kindOf 23 = .ok (.iaload, 1) := by decide +kernel
theorem dX13_kindOf_24 : decode cX13_kindOf 24 = .ok (.if_icmp .ge 26, 3) := by decide +kernel
theorem dX13_kindOf_27 : decode cX13_kindOf 27 = .ok (.aload_n 0, 1) := by decide +kernel
theorem dX13_kindOf_28 : decode cX13_kindOf 28 = .ok (.aload_n 0, 1) := by decide +kernel
theorem dX13_kindOf_29 : decode cX13_kindOf 29 = .ok (.getfield 113, 3) := by decide +kernel
theorem dX13_kindOf_32 : decode cX13_kindOf 32 = .ok (.aload_n 0, 1) := by decide +kernel
theorem dX13_kindOf_33 : decode cX13_kindOf 33 = .ok (.getfield 92, 3) := by decide +kernel
theorem dX13_kindOf_36 : decode cX13_kindOf 36 = .ok (.iload_n 1, 1) := by decide +kernel
theorem dX13_kindOf_37 : decode cX13_kindOf 37 = .ok (.iaload, 1) := by decide +kernel
theorem dX13_kindOf_38 : decode cX13_kindOf 38 = .ok (.iload_n 2, 1) := by decide +kernel
theorem dX13_kindOf_39 : decode cX13_kindOf 39 = .ok (.iadd, 1) := by decide +kernel
theorem dX13_kindOf_40 : decode cX13_kindOf 40 = .ok (.iaload, 1) := by decide +kernel
theorem dX13_kindOf_41 : decode cX13_kindOf 41 = .ok (.invokevirtual 612, 3) := by decide +kernel
theorem dX13_kindOf_44 : decode cX13_kindOf 44 = .ok (.iinc 2 1, 3) := by decide +kernel
theorem dX13_kindOf_47 : decode cX13_kindOf 47 = .ok (.goto (-30), 3) := by decide +kernel
theorem dX13_kindOf_50 : decode cX13_kindOf 50 = .ok (.aload_n 0, 1) := by decide +kernel
theorem dX13_kindOf_51 : decode cX13_kindOf 51 = .ok (.bipush 41, 2) := by decide +kernel
theorem dX13_kindOf_53 : decode cX13_kindOf 53 = .ok (.invokevirtual 593, 3) := by decide +kernel
theorem dX13_kindOf_56 : decode cX13_kindOf 56 = .ok (.aload_n 0, 1) := by decide +kernel
theorem dX13_kindOf_57 : decode cX13_kindOf 57 = .ok (.aload_n 0, 1) := by decide +kernel
theorem dX13_kindOf_58 : decode cX13_kindOf 58 = .ok (.getfield 89, 3) := by decide +kernel
theorem dX13_kindOf_61 : decode cX13_kindOf 61 = .ok (.iload_n 1, 1) := by decide +kernel
theorem dX13_kindOf_62 : decode cX13_kindOf 62 = .ok (.iaload, 1) := by decide +kernel
theorem dX13_kindOf_63 : decode cX13_kindOf 63 = .ok (.invokevirtual 612, 3) := by decide +kernel
theorem dX13_kindOf_66 : decode cX13_kindOf 66 = .ok (.aload_n 0, 1) := by decide +kernel
theorem dX13_kindOf_67 : decode cX13_kindOf 67 = .ok (.invokevirtual 615, 3) := by decide +kernel
theorem dX13_kindOf_70 : decode cX13_kindOf 70 = .ok (.ireturn, 1) := by decide +kernel
theorem rs_RX13_635 : mx_res RX13 635 = some (13, 0, 0) := by decide +kernel
theorem rs_RX13_661 : mx_res RX13 661 = some (0, 13, 72) := by decide +kernel
theorem ft_13_72 : mx_fty 13 72 = some (.int, false, "ClassMillModel") := by decide +kernel
theorem mt_X13_comes : mx_mt 465 = some (yX13_comes, cX13_comes, 3, none) := rfl
theorem dX13_comes_0 : decode cX13_comes 0 = .ok (.aload_n 0, 1) := by decide +kernel
theorem dX13_comes_1 : decode cX13_comes 1 = .ok (.iload_n 1, 1) := by decide +kernel
theorem dX13_comes_2 : decode cX13_comes 2 = .ok (.iload_n 2, 1) := by decide +kernel
theorem dX13_comes_3 : decode cX13_comes 3 = .ok (.invokevirtual 528, 3) := by decide +kernel
theorem dX13_comes_6 : decode cX13_comes 6 = .ok (.aload_n 0, 1) := by decide +kernel
theorem dX13_comes_7 : decode cX13_comes 7 = .ok (.aload_n 0, 1) := by decide +kernel
theorem dX13_comes_8 : decode cX13_comes 8 = .ok (.getfield 661, 3) := by decide +kernel
theorem dX13_comes_11 : decode cX13_comes 11 = .ok (.aload_n 0, 1) := by decide +kernel
theorem dX13_comes_12 : decode cX13_comes 12 = .ok (.getfield 513, 3) := by decide +kernel
theorem dX13_comes_15 : decode cX13_comes 15 = .ok (.invokestatic 635, 3) := by decide +kernel
theorem dX13_comes_18 : decode cX13_comes 18 = .ok (.putfield 661, 3) := by decide +kernel
theorem dX13_comes_21 : decode cX13_comes 21 = .ok (.return_, 1) := by decide +kernel
theorem mt_X13_textOf : mx_mt 455 = some (yX13_textOf, cX13_textOf, 2, (some .int)) := rfl
theorem dX13_textOf_0 : decode cX13_textOf 0 = .ok (.aload_n 0, 1) := by decide +kernel
theorem dX13_textOf_1 : decode cX13_textOf 1 = .ok (.iload_n 1, 1) := by decide +kernel
theorem dX13_textOf_2 : decode cX13_textOf 2 = .ok (.invokevirtual 596, 3) := by decide +kernel
theorem dX13_textOf_5 : decode cX13_textOf 5 = .ok (.aload_n 0, 1) := by decide +kernel
theorem dX13_textOf_6 : decode cX13_textOf 6 = .ok (.invokevirtual 615, 3) := by decide +kernel
theorem dX13_textOf_9 : decode cX13_textOf 9 = .ok (.ireturn, 1) := by decide +kernel
theorem rs_RX13_618 : mx_res RX13 618 = some (1, 454, 1) := by decide +kernel
theorem rs_RX13_621 : mx_res RX13 621 = some (1, 455, 1) := by decide +kernel
theorem rs_RX13_624 : mx_res RX13 624 = some (1, 456, 1) := by decide +kernel
theorem mt_X13_memberConstant : mx_mt 457 = some (yX13_memberConstant, cX13_memberConstant, 5, (some .int)) := rfl
theorem dX13_memberConstant_0 : decode cX13_memberConstant 0 = .ok (.aload_n 0, 1) := by decide +kernel
theorem dX13_memberConstant_1 : decode cX13_memberConstant 1 = .ok (.bipush 8, 2) := by decide +kernel
theorem dX13_memberConstant_3 : decode cX13_memberConstant 3 = .ok (.iconst 2, 1) := by decide +kernel
theorem dX13_memberConstant_4 : decode cX13_memberConstant 4 = .ok (.iload_n 1, 1) := by decide +kernel
theorem dX13_memberConstant_5 : decode cX13_memberConstant 5 = .ok (.imul, 1) := by decide +kernel
theorem dX13_memberConstant_6 : decode cX13_memberConstant 6 = .ok (.iadd, 1) := by decide +kernel
theorem dX13_memberConstant_7 : decode cX13_memberConstant 7 = .ok (.invokevirtual 618, 3) := by decide +kernel
theorem dX13_memberConstant_10 : decode cX13_memberConstant 10 = .ok (.istore_n 3, 1) := by decide +kernel
theorem dX13_memberConstant_11 : decode cX13_memberConstant 11 = .ok (.aload_n 0, 1) := by decide +kernel
theorem dX13_memberConstant_12 : decode cX13_memberConstant 12 = .ok (.aload_n 0, 1) := by decide +kernel
theorem dX13_memberConstant_13 : decode cX13_memberConstant 13 = .ok (.getfield 86, 3) := by decide +kernel
theorem dX13_memberConstant_16 : decode cX13_memberConstant 16 = .ok (.iload_n 2, 1) := by decide +kernel
theorem dX13_memberConstant_17 : decode cX13_memberConstant 17 = .ok (.iaload, 1) := by decide +kernel
theorem dX13_memberConstant_18 : decode cX13_memberConstant 18 = .ok (.invokevirtual 621, 3) := by decide +kernel
theorem dX13_memberConstant_21 : decode cX13_memberConstant 21 = .ok (.istore 4, 2) := by decide +kernel
theorem dX13_memberConstant_23 : decode cX13_memberConstant 23 = .ok (.aload_n 0, 1) := by decide +kernel
theorem dX13_memberConstant_24 : decode cX13_memberConstant 24 = .ok (.iconst 4, 1) := by decide +kernel
theorem dX13_memberConstant_25 : decode cX13_memberConstant 25 = .ok (.iload_n 3, 1) := by decide +kernel
theorem dX13_memberConstant_26 : decode cX13_memberConstant 26 = .ok (.iload 4, 2) := by decide +kernel
theorem dX13_memberConstant_28 : decode cX13_memberConstant 28 = .ok (.aload_n 0, 1) := by decide +kernel
theorem dX13_memberConstant_29 : decode cX13_memberConstant 29 = .ok (.iload_n 2, 1) := by decide +kernel
theorem dX13_memberConstant_30 : decode cX13_memberConstant 30 = .ok (.invokevirtual 624, 3) := by decide +kernel
theorem dX13_memberConstant_33 : decode cX13_memberConstant 33 = .ok (.invokevirtual 608, 3) := by decide +kernel
theorem dX13_memberConstant_36 : decode cX13_memberConstant 36 = .ok (.ireturn, 1) := by decide +kernel
theorem rs_RX13_147 : mx_res RX13 147 = some (0, 13, 67) := by decide +kernel
theorem rs_RX13_627 : mx_res RX13 627 = some (0, 13, 68) := by decide +kernel
theorem ft_13_68 : mx_fty 13 68 = some (.int, false, "ClassMillModel") := by decide +kernel
theorem mt_X13_put : mx_mt 458 = some (yX13_put, cX13_put, 2, none) := rfl
theorem dX13_put_0 : decode cX13_put 0 = .ok (.aload_n 0, 1) := by decide +kernel
theorem dX13_put_1 : decode cX13_put 1 = .ok (.getfield 627, 3) := by decide +kernel
theorem dX13_put_4 : decode cX13_put 4 = .ok (.sipush 12000, 3) := by decide +kernel
theorem dX13_put_7 : decode cX13_put 7 = .ok (.if_icmp .ge 17, 3) := by decide +kernel
theorem dX13_put_10 : decode cX13_put 10 = .ok (.aload_n 0, 1) := by decide +kernel
theorem dX13_put_11 : decode cX13_put 11 = .ok (.getfield 147, 3) := by decide +kernel
theorem dX13_put_14 : decode cX13_put 14 = .ok (.aload_n 0, 1) := by decide +kernel
theorem dX13_put_15 : decode cX13_put 15 = .ok (.getfield 627, 3) := by decide +kernel
theorem dX13_put_18 : decode cX13_put 18 = .ok (.iload_n 1, 1) := by decide +kernel
theorem dX13_put_19 : decode cX13_put 19 = .ok (.sipush 255, 3) := by decide +kernel
theorem dX13_put_22 : decode cX13_put 22 = .ok (.iand, 1) := by decide +kernel
theorem dX13_put_23 : decode cX13_put 23 = .ok (.iastore, 1) := by decide +kernel
theorem dX13_put_24 : decode cX13_put 24 = .ok (.aload_n 0, 1) := by decide +kernel
theorem dX13_put_25 : decode cX13_put 25 = .ok (.dup, 1) := by decide +kernel
theorem dX13_put_26 : decode cX13_put 26 = .ok (.getfield 627, 3) := by decide +kernel
theorem dX13_put_29 : decode cX13_put 29 = .ok (.iconst 1, 1) := by decide +kernel
theorem dX13_put_30 : decode cX13_put 30 = .ok (.iadd, 1) := by decide +kernel
theorem dX13_put_31 : decode cX13_put 31 = .ok (.putfield 627, 3) := by decide +kernel
theorem dX13_put_34 : decode cX13_put 34 = .ok (.return_, 1) := by decide +kernel
theorem rs_RX13_150 : mx_res RX13 150 = some (0, 13, 69) := by decide +kernel
theorem rs_RX13_629 : mx_res RX13 629 = some (0, 13, 70) := by decide +kernel
theorem rs_RX13_632 : mx_res RX13 632 = some (0, 13, 71) := by decide +kernel
theorem ft_13_70 : mx_fty 13 70 = some (.int, false, "ClassMillModel") := by decide +kernel
theorem ft_13_71 : mx_fty 13 71 = some (.int, false, "ClassMillModel") := by decide +kernel
theorem mt_X13_push : mx_mt 459 = some (yX13_push, cX13_push, 2, none) := rfl
theorem dX13_push_0 : decode cX13_push 0 = .ok (.aload_n 0, 1) := by decide +kernel
theorem dX13_push_1 : decode cX13_push 1 = .ok (.getfield 150, 3) := by decide +kernel
theorem dX13_push_4 : decode cX13_push 4 = .ok (.aload_n 0, 1) := by decide +kernel
theorem dX13_push_5 : decode cX13_push 5 = .ok (.getfield 629, 3) := by decide +kernel
theorem dX13_push_8 : decode cX13_push 8 = .ok (.iload_n 1, 1) := by decide +kernel
theorem dX13_push_9 : decode cX13_push 9 = .ok (.iastore, 1) := by decide +kernel
theorem dX13_push_10 : decode cX13_push 10 = .ok (.aload_n 0, 1) := by decide +kernel
theorem dX13_push_11 : decode cX13_push 11 = .ok (.dup, 1) := by decide +kernel
theorem dX13_push_12 : decode cX13_push 12 = .ok (.getfield 629, 3) := by decide +kernel
theorem dX13_push_15 : decode cX13_push 15 = .ok (.iconst 1, 1) := by decide +kernel
theorem dX13_push_16 : decode cX13_push 16 = .ok (.iadd, 1) := by decide +kernel
theorem dX13_push_17 : decode cX13_push 17 = .ok (.putfield 629, 3) := by decide +kernel
theorem dX13_push_20 : decode cX13_push 20 = .ok (.aload_n 0, 1) := by decide +kernel
theorem dX13_push_21 : decode cX13_push 21 = .ok (.aload_n 0, 1) := by decide +kernel
theorem dX13_push_22 : decode cX13_push 22 = .ok (.getfield 632, 3) := by decide +kernel
theorem dX13_push_25 : decode cX13_push 25 = .ok (.aload_n 0, 1) := by decide +kernel
theorem dX13_push_26 : decode cX13_push 26 = .ok (.getfield 629, 3) := by decide +kernel
theorem dX13_push_29 : decode cX13_push 29 = .ok (.invokestatic 635, 3) := by decide +kernel
theorem dX13_push_32 : decode cX13_push 32 = .ok (.putfield 632, 3) := by decide +kernel
theorem dX13_push_35 : decode cX13_push 35 = .ok (.return_, 1) := by decide +kernel
theorem rs_RX13_640 : mx_res RX13 640 = some (1, 459, 1) := by decide +kernel
theorem rs_RX13_646 : mx_res RX13 646 = some (1, 458, 1) := by decide +kernel
theorem mt_X13_self : mx_mt 471 = some (yX13_self, cX13_self, 1, none) := rfl
theorem dX13_self_0 : decode cX13_self 0 = .ok (.aload_n 0, 1) := by decide +kernel
theorem dX13_self_1 : decode cX13_self 1 = .ok (.bipush 25, 2) := by decide +kernel
theorem dX13_self_3 : decode cX13_self 3 = .ok (.invokevirtual 646, 3) := by decide +kernel
theorem dX13_self_6 : decode cX13_self 6 = .ok (.aload_n 0, 1) := by decide +kernel
theorem dX13_self_7 : decode cX13_self 7 = .ok (.iconst 0, 1) := by decide +kernel
theorem dX13_self_8 : decode cX13_self 8 = .ok (.invokevirtual 646, 3) := by decide +kernel
theorem dX13_self_11 : decode cX13_self 11 = .ok (.aload_n 0, 1) := by decide +kernel
theorem dX13_self_12 : decode cX13_self 12 = .ok (.bipush 8, 2) := by decide +kernel
theorem dX13_self_14 : decode cX13_self 14 = .ok (.iconst 2, 1) := by decide +kernel
theorem dX13_self_15 : decode cX13_self 15 = .ok (.aload_n 0, 1) := by decide +kernel
theorem dX13_self_16 : decode cX13_self 16 = .ok (.getfield 519, 3) := by decide +kernel
theorem dX13_self_19 : decode cX13_self 19 = .ok (.imul, 1) := by decide +kernel
theorem dX13_self_20 : decode cX13_self 20 = .ok (.iadd, 1) := by decide +kernel
theorem dX13_self_21 : decode cX13_self 21 = .ok (.invokevirtual 640, 3) := by decide +kernel
theorem dX13_self_24 : decode cX13_self 24 = .ok (.return_, 1) := by decide +kernel
theorem mt_X13_isLedInWords : mx_mt 473 = some (yX13_isLedInWords, cX13_isLedInWords, 3, (some .boolean)) := rfl
theorem dX13_isLedInWords_0 : decode cX13_isLedInWords 0 = .ok (.aload_n 0, 1) := by decide +kernel
theorem dX13_isLedInWords_1 : decode cX13_isLedInWords 1 = .ok (.getfield 28, 3) := by decide +kernel
theorem dX13_isLedInWords_4 : decode cX13_isLedInWords 4 = .ok (.iload_n 1, 1) := by decide +kernel
theorem dX13_isLedInWords_5 : decode cX13_isLedInWords 5 = .ok (.iaload, 1) := by decide +kernel
theorem dX13_isLedInWords_6 : decode cX13_isLedInWords 6 = .ok (.istore_n 2, 1) := by decide +kernel
theorem dX13_isLedInWords_7 : decode cX13_isLedInWords 7 = .ok (.iload_n 2, 1) := by decide +kernel
theorem dX13_isLedInWords_8 : decode cX13_isLedInWords 8 = .ok (.bipush 37, 2) := by decide +kernel
theorem dX13_isLedInWords_10 : decode cX13_isLedInWords 10 = .ok (.if_icmp .eq 37, 3) := by decide +kernel
theorem dX13_isLedInWords_13 : decode cX13_isLedInWords 13 = .ok (.iload_n 2, 1) := by decide +kernel
theorem dX13_isLedInWords_14 : decode cX13_isLedInWords 14 = .ok (.bipush 38, 2) := by decide +kernel
theorem dX13_isLedInWords_16 : decode cX13_isLedInWords 16 = .ok (.if_icmp .eq 31, 3) := by decide +kernel
theorem dX13_isLedInWords_19 : decode cX13_isLedInWords 19 = .ok (.iload_n 2, 1) := by decide +kernel
theorem dX13_isLedInWords_20 : decode cX13_isLedInWords 20 = .ok (.bipush 30, 2) := by decide +kernel
theorem dX13_isLedInWords_22 : decode cX13_isLedInWords 22 = .ok (.if_icmp .eq 25, 3) := by decide +kernel
theorem dX13_isLedInWords_25 : decode cX13_isLedInWords 25 = .ok (.iload_n 2, 1) := by decide +kernel
theorem dX13_isLedInWords_26 : decode cX13_isLedInWords 26 = .ok (.bipush 32, 2) := by decide +kernel
theorem dX13_isLedInWords_28 : decode cX13_isLedInWords 28 = .ok (.if_icmp .eq 19, 3) := by decide +kernel
theorem dX13_isLedInWords_31 : decode cX13_isLedInWords 31 = .ok (.iload_n 2, 1) := by decide +kernel
theorem dX13_isLedInWords_32 : decode cX13_isLedInWords 32 = .ok (.bipush 31, 2) := by decide +kernel
theorem dX13_isLedInWords_34 : decode cX13_isLedInWords 34 = .ok (.if_icmp .ne 17, 3) := by decide +kernel
theorem dX13_isLedInWords_37 : decode cX13_isLedInWords 37 = .ok (.aload_n 0, 1) := by decide +kernel
theorem dX13_isLedInWords_38 : decode cX13_isLedInWords 38 = .ok (.getfield 55, 3) := by decide +kernel
theorem dX13_isLedInWords_41 : decode cX13_isLedInWords 41 = .ok (.iload_n 1, 1) := by decide +kernel
theorem dX13_isLedInWords_42 : decode cX13_isLedInWords 42 = .ok (.iaload, 1) := by decide +kernel
theorem dX13_isLedInWords_43 : decode cX13_isLedInWords 43 = .ok (.iconst (-1), 1) := by decide +kernel
theorem dX13_isLedInWords_44 : decode cX13_isLedInWords 44 = .ok (.if_icmp .ne 7, 3) := by decide +kernel
theorem dX13_isLedInWords_47 : decode cX13_isLedInWords 47 = .ok (.iconst 1, 1) := by decide +kernel
theorem dX13_isLedInWords_48 : decode cX13_isLedInWords 48 = .ok (.goto 4, 3) := by decide +kernel
theorem dX13_isLedInWords_51 : decode cX13_isLedInWords 51 = .ok (.iconst 0, 1) := by decide +kernel
theorem dX13_isLedInWords_52 : decode cX13_isLedInWords 52 = .ok (.ireturn, 1) := by decide +kernel
theorem rs_RX13_181 : mx_res RX13 181 = some (0, 13, 85) := by decide +kernel
theorem rs_RX13_184 : mx_res RX13 184 = some (0, 13, 86) := by decide +kernel
theorem rs_RX13_643 : mx_res RX13 643 = some (0, 13, 87) := by decide +kernel
theorem ft_13_87 : mx_fty 13 87 = some (.int, false, "ClassMillModel") := by decide +kernel
theorem mt_X13_jump : mx_mt 461 = some (yX13_jump, cX13_jump, 3, none) := rfl
theorem dX13_jump_0 : decode cX13_jump 0 = .ok (.aload_n 0, 1) := by decide +kernel
theorem dX13_jump_1 : decode cX13_jump 1 = .ok (.getfield 181, 3) := by decide +kernel
theorem dX13_jump_4 : decode cX13_jump 4 = .ok (.aload_n 0, 1) := by decide +kernel
theorem dX13_jump_5 : decode cX13_jump 5 = .ok (.getfield 643, 3) := by decide +kernel
theorem dX13_jump_8 : decode cX13_jump 8 = .ok (.aload_n 0, 1) := by decide +kernel
theorem dX13_jump_9 : decode cX13_jump 9 = .ok (.getfield 627, 3) := by decide +kernel
theorem dX13_jump_12 : decode cX13_jump 12 = .ok (.iastore, 1) := by decide +kernel
theorem dX13_jump_13 : decode cX13_jump 13 = .ok (.aload_n 0, 1) := by decide +kernel
theorem dX13_jump_14 : decode cX13_jump 14 = .ok (.getfield 184, 3) := by decide +kernel
theorem dX13_jump_17 : decode cX13_jump 17 = .ok (.aload_n 0, 1) := by decide +kernel
theorem dX13_jump_18 : decode cX13_jump 18 = .ok (.getfield 643, 3) := by decide +kernel
theorem dX13_jump_21 : decode cX13_jump 21 = .ok (.iload_n 2, 1) := by decide +kernel
theorem dX13_jump_22 : decode cX13_jump 22 = .ok (.iastore, 1) := by decide +kernel
theorem dX13_jump_23 : decode cX13_jump 23 = .ok (.aload_n 0, 1) := by decide +kernel
theorem dX13_jump_24 : decode cX13_jump 24 = .ok (.dup, 1) := by decide +kernel
theorem dX13_jump_25 : decode cX13_jump 25 = .ok (.getfield 643, 3) := by decide +kernel
theorem dX13_jump_28 : decode cX13_jump 28 = .ok (.iconst 1, 1) := by decide +kernel
theorem dX13_jump_29 : decode cX13_jump 29 = .ok (.iadd, 1) := by decide +kernel
theorem dX13_jump_30 : decode cX13_jump 30 = .ok (.putfield 643, 3) := by decide +kernel
theorem dX13_jump_33 : decode cX13_jump 33 = .ok (.aload_n 0, 1) := by decide +kernel
theorem dX13_jump_34 : decode cX13_jump 34 = .ok (.iload_n 1, 1) := by decide +kernel
theorem dX13_jump_35 : decode cX13_jump 35 = .ok (.invokevirtual 646, 3) := by decide +kernel
theorem dX13_jump_38 : decode cX13_jump 38 = .ok (.aload_n 0, 1) := by decide +kernel
theorem dX13_jump_39 : decode cX13_jump 39 = .ok (.iconst 0, 1) := by decide +kernel
theorem dX13_jump_40 : decode cX13_jump 40 = .ok (.invokevirtual 646, 3) := by decide +kernel
theorem dX13_jump_43 : decode cX13_jump 43 = .ok (.aload_n 0, 1) := by decide +kernel
theorem dX13_jump_44 : decode cX13_jump 44 = .ok (.iconst 0, 1) := by decide +kernel
theorem dX13_jump_45 : decode cX13_jump 45 = .ok (.invokevirtual 646, 3) := by decide +kernel
theorem dX13_jump_48 : decode cX13_jump 48 = .ok (.return_, 1) := by decide +kernel
theorem rs_RX13_658 : mx_res RX13 658 = some (0, 13, 88) := by decide +kernel
theorem ft_13_88 : mx_fty 13 88 = some (.int, false, "ClassMillModel") := by decide +kernel
theorem mt_X13_label : mx_mt 464 = some (yX13_label, cX13_label, 1, (some .int)) := rfl
theorem dX13_label_0 : decode cX13_label 0 = .ok (.aload_n 0, 1) := by decide +kernel
theorem dX13_label_1 : decode cX13_label 1 = .ok (.dup, 1) := by decide +kernel
theorem dX13_label_2 : decode cX13_label 2 = .ok (.getfield 658, 3) := by decide +kernel
theorem dX13_label_5 : decode cX13_label 5 = .ok (.iconst 1, 1) := by decide +kernel
theorem dX13_label_6 : decode cX13_label 6 = .ok (.iadd, 1) := by decide +kernel
theorem dX13_label_7 : decode cX13_label 7 = .ok (.putfield 658, 3) := by decide +kernel
theorem dX13_label_10 : decode cX13_label 10 = .ok (.aload_n 0, 1) := by decide +kernel
theorem dX13_label_11 : decode cX13_label 11 = .ok (.getfield 658, 3) := by decide +kernel
theorem dX13_label_14 : decode cX13_label 14 = .ok (.ireturn, 1) := by decide +kernel
theorem mt_X13_number : mx_mt 472 = some (yX13_number, cX13_number, 3, none) := rfl
theorem dX13_number_0 : decode cX13_number 0 = .ok (.aload_n 0, 1) := by decide +kernel
theorem dX13_number_1 : decode cX13_number 1 = .ok (.getfield 25, 3) := by decide +kernel
theorem dX13_number_4 : decode cX13_number 4 = .ok (.iload_n 1, 1) := by decide +kernel
theorem dX13_number_5 : decode cX13_number 5 = .ok (.iaload, 1) := by decide +kernel
theorem dX13_number_6 : decode cX13_number 6 = .ok (.istore_n 2, 1) := by decide +kernel
theorem dX13_number_7 : decode cX13_number 7 = .ok (.iload_n 2, 1) := by decide +kernel
theorem dX13_number_8 : decode cX13_number 8 = .ok (.iconst 5, 1) := by decide +kernel
theorem dX13_number_9 : decode cX13_number 9 = .ok (.if_icmp .gt 13, 3) := by decide +kernel
theorem dX13_number_12 : decode cX13_number 12 = .ok (.aload_n 0, 1) := by decide +kernel
theorem dX13_number_13 : decode cX13_number 13 = .ok (.iconst 3, 1) := by decide +kernel
theorem dX13_number_14 : decode cX13_number 14 = .ok (.iload_n 2, 1) := by decide +kernel
theorem dX13_number_15 : decode cX13_number 15 = .ok (.iadd, 1) := by decide +kernel
theorem dX13_number_16 : decode cX13_number 16 = .ok (.invokevirtual 646, 3) := by decide +kernel
theorem dX13_number_19 : decode cX13_number 19 = .ok (.goto 41, 3) := by decide +kernel
theorem dX13_number_22 : decode cX13_number 22 = .ok (.iload_n 2, 1) := by decide +kernel
theorem dX13_number_23 : decode cX13_number 23 = .ok (.bipush 127, 2) := by decide +kernel
theorem dX13_number_25 : decode cX13_number 25 = .ok (.if_icmp .gt 17, 3) := by decide +kernel
theorem dX13_number_28 : decode cX13_number 28 = .ok (.aload_n 0, 1) := by decide +kernel
theorem dX13_number_29 : decode cX13_number 29 = .ok (.bipush 16, 2) := by decide +kernel
theorem dX13_number_31 : decode cX13_number 31 = .ok (.invokevirtual 646, 3) := by decide +kernel
theorem dX13_number_34 : decode cX13_number 34 = .ok (.aload_n 0, 1) := by decide +kernel
theorem dX13_number_35 : decode cX13_number 35 = .ok (.iload_n 2, 1) := by decide +kernel
theorem dX13_number_36 : decode cX13_number 36 = .ok (.invokevirtual 646, 3) := by decide +kernel
theorem dX13_number_39 : decode cX13_number 39 = .ok (.goto 21, 3) := by decide +kernel
theorem dX13_number_42 : decode cX13_number 42 = .ok (.aload_n 0, 1) := by decide +kernel
theorem dX13_number_43 : decode cX13_number 43 = .ok (.bipush 18, 2) := by decide +kernel
theorem dX13_number_45 : decode cX13_number 45 = .ok (.invokevirtual 646, 3) := by decide +kernel
theorem dX13_number_48 : decode cX13_number 48 = .ok (.aload_n 0, 1) := by decide +kernel
theorem dX13_number_49 : decode cX13_number 49 = .ok (.aload_n 0, 1) := by decide +kernel
theorem dX13_number_50 : decode cX13_number 50 = .ok (.iconst 2, 1) := by decide +kernel
theorem dX13_number_51 : decode cX13_number 51 = .ok (.iload_n 2, 1) := by decide +kernel
theorem dX13_number_52 : decode cX13_number 52 = .ok (.iconst 0, 1) := by decide +kernel
theorem dX13_number_53 : decode cX13_number 53 = .ok (.iconst 0, 1) := by decide +kernel
theorem dX13_number_54 : decode cX13_number 54 = .ok (.invokevirtual 608, 3) := by decide +kernel
theorem dX13_number_57 : decode cX13_number 57 = .ok (.invokevirtual 646, 3) := by decide +kernel
theorem dX13_number_60 : decode cX13_number 60 = .ok (.aload_n 0, 1) := by decide +kernel
theorem dX13_number_61 : decode cX13_number 61 = .ok (.iconst 0, 1) := by decide +kernel
theorem dX13_number_62 : decode cX13_number 62 = .ok (.invokevirtual 640, 3) := by decide +kernel
theorem dX13_number_65 : decode cX13_number 65 = .ok (.return_, 1) := by decide +kernel
