theorem mt_X13_isTyped : mx_mt 404 = some (yX13_isTyped, cX13_isTyped, 1, (some .boolean)) := rfl
theorem dX13_isTyped_0 : decode cX13_isTyped 0 = .ok (.aload_n 0, 1) := by decide +kernel
theorem dX13_isTyped_1 : decode cX13_isTyped 1 = .ok (.aload_n 0, 1) := by decide +kernel
theorem dX13_isTyped_2 : decode cX13_isTyped 2 = .ok (.getfield 376, 3) := by decide +kernel
theorem dX13_isTyped_5 : decode cX13_isTyped 5 = .ok (.bipush 10, 2) := by decide +kernel
theorem dX13_isTyped_7 : decode cX13_isTyped 7 = .ok (.invokevirtual 390, 3) := by decide +kernel
theorem dX13_isTyped_10 : decode cX13_isTyped 10 = .ok (.ifCond .ne 15, 3) := by decide +kernel
theorem dX13_isTyped_13 : decode cX13_isTyped 13 = .ok (.aload_n 0, 1) := by decide +kernel
theorem dX13_isTyped_14 : decode cX13_isTyped 14 = .ok (.aload_n 0, 1) := by decide +kernel
theorem dX13_isTyped_15 : decode cX13_isTyped 15 = .ok (.getfield 376, 3) := by decide +kernel
theorem dX13_isTyped_18 : decode cX13_isTyped 18 = .ok (.iconst 0, 1) := by decide +kernel
theorem dX13_isTyped_19 : decode cX13_isTyped 19 = .ok (.invokevirtual 390, 3) := by decide +kernel
theorem dX13_isTyped_22 : decode cX13_isTyped 22 = .ok (.ifCond .eq 5, 3) := by decide +kernel
theorem dX13_isTyped_25 : decode cX13_isTyped 25 = .ok (.iconst 1, 1) := by decide +kernel
theorem dX13_isTyped_26 : decode cX13_isTyped 26 = .ok (.ireturn, 1) := by decide +kernel
theorem dX13_isTyped_27 : decode cX13_isTyped 27 = .ok (.aload_n 0, 1) := by decide +kernel
theorem dX13_isTyped_28 : decode cX13_isTyped 28 = .ok (.getfield 16, 3) := by decide +kernel
theorem dX13_isTyped_31 : decode cX13_isTyped 31 = .ok (.aload_n 0, 1) := by decide +kernel
theorem dX13_isTyped_32 : decode cX13_isTyped 32 = .ok (.getfield 376, 3) := by decide +kernel
theorem dX13_isTyped_35 : decode cX13_isTyped 35 = .ok (.iaload, 1) := by decide +kernel
theorem dX13_isTyped_36 : decode cX13_isTyped 36 = .ok (.iconst 1, 1) := by decide +kernel
theorem dX13_isTyped_37 : decode cX13_isTyped 37 = .ok (.if_icmp .eq 5, 3) := by decide +kernel
theorem dX13_isTyped_40 : decode cX13_isTyped 40 = .ok (.iconst 0, 1) := by decide +kernel
theorem dX13_isTyped_41 : decode cX13_isTyped 41 = .ok (.ireturn, 1) := by decide +kernel
theorem dX13_isTyped_42 : decode cX13_isTyped 42 = .ok (.aload_n 0, 1) := by decide +kernel
theorem dX13_isTyped_43 : decode cX13_isTyped 43 = .ok (.getfield 16, 3) := by decide +kernel
theorem dX13_isTyped_46 : decode cX13_isTyped 46 = .ok (.aload_n 0, 1) := by decide +kernel
theorem dX13_isTyped_47 : decode cX13_isTyped 47 = .ok (.getfield 376, 3) := by decide +kernel
theorem dX13_isTyped_50 : decode cX13_isTyped 50 = .ok (.iconst 1, 1) := by decide +kernel
theorem dX13_isTyped_51 : decode cX13_isTyped 51 = .ok (.iadd, 1) := by decide +kernel
theorem dX13_isTyped_52 : decode cX13_isTyped 52 = .ok (.iaload, 1) := by decide +kernel
theorem dX13_isTyped_53 : decode cX13_isTyped 53 = .ok (.iconst 1, 1) := by decide +kernel
theorem dX13_isTyped_54 : decode cX13_isTyped 54 = .ok (.if_icmp .eq 33, 3) := by decide +kernel
theorem dX13_isTyped_57 : decode cX13_isTyped 57 = .ok (.aload_n 0, 1) := by decide +kernel
theorem dX13_isTyped_58 : decode cX13_isTyped 58 = .ok (.aload_n 0, 1) := by decide +kernel
theorem dX13_isTyped_59 : decode cX13_isTyped 59 = .ok (.getfield 376, 3) := by decide +kernel
theorem dX13_isTyped_62 : decode cX13_isTyped 62 = .ok (.iconst 1, 1) := by decide +kernel
theorem dX13_isTyped_63 : decode cX13_isTyped 63 = .ok (.iadd, 1) := by decide +kernel
theorem dX13_isTyped_64 : decode cX13_isTyped 64 = .ok (.bipush 91, 2) := by decide +kernel
theorem dX13_isTyped_66 : decode cX13_isTyped 66 = .ok (.invokevirtual 383, 3) := by decide +kernel
theorem dX13_isTyped_69 : decode cX13_isTyped 69 = .ok (.ifCond .eq 22, 3) := by decide +kernel
theorem dX13_isTyped_72 : decode cX13_isTyped 72 = .ok (.aload_n 0, 1) := by decide +kernel
theorem dX13_isTyped_73 : decode cX13_isTyped 73 = .ok (.aload_n 0, 1) := by decide +kernel
theorem dX13_isTyped_74 : decode cX13_isTyped 74 = .ok (.getfield 376, 3) := by decide +kernel
theorem dX13_isTyped_77 : decode cX13_isTyped 77 = .ok (.iconst 2, 1) := by decide +kernel
theorem dX13_isTyped_78 : decode cX13_isTyped 78 = .ok (.iadd, 1) := by decide +kernel
theorem dX13_isTyped_79 : decode cX13_isTyped 79 = .ok (.bipush 93, 2) := by decide +kernel
theorem dX13_isTyped_81 : decode cX13_isTyped 81 = .ok (.invokevirtual 383, 3) := by decide +kernel
theorem dX13_isTyped_84 : decode cX13_isTyped 84 = .ok (.ifCond .eq 7, 3) := by decide +kernel
theorem dX13_isTyped_87 : decode cX13_isTyped 87 = .ok (.iconst 1, 1) := by decide +kernel
theorem dX13_isTyped_88 : decode cX13_isTyped 88 = .ok (.goto 4, 3) := by decide +kernel
theorem dX13_isTyped_91 : decode cX13_isTyped 91 = .ok (.iconst 0, 1) := by decide +kernel
theorem dX13_isTyped_92 : decode cX13_isTyped 92 = .ok (.ireturn, 1) := by decide +kernel
theorem mt_X13_plain : mx_mt 406 = some (yX13_plain, cX13_plain, 3, (some .int)) := rfl
theorem dX13_plain_0 : decode cX13_plain 0 = .ok (.aload_n 0, 1) := by decide +kernel
theorem dX13_plain_1 : decode cX13_plain 1 = .ok (.bipush 11, 2) := by decide +kernel
theorem dX13_plain_3 : decode cX13_plain 3 = .ok (.aload_n 0, 1) := by decide +kernel
theorem dX13_plain_4 : decode cX13_plain 4 = .ok (.getfield 376, 3) := by decide +kernel
theorem dX13_plain_7 : decode cX13_plain 7 = .ok (.aload_n 0, 1) := by decide +kernel
theorem dX13_plain_8 : decode cX13_plain 8 = .ok (.getfield 376, 3) := by decide +kernel
theorem dX13_plain_11 : decode cX13_plain 11 = .ok (.invokevirtual 430, 3) := by decide +kernel
theorem dX13_plain_14 : decode cX13_plain 14 = .ok (.istore_n 2, 1) := by decide +kernel
theorem dX13_plain_15 : decode cX13_plain 15 = .ok (.aload_n 0, 1) := by decide +kernel
theorem dX13_plain_16 : decode cX13_plain 16 = .ok (.getfield 37, 3) := by decide +kernel
theorem dX13_plain_19 : decode cX13_plain 19 = .ok (.iload_n 2, 1) := by decide +kernel
theorem dX13_plain_20 : decode cX13_plain 20 = .ok (.aload_n 0, 1) := by decide +kernel
theorem dX13_plain_21 : decode cX13_plain 21 = .ok (.iload_n 1, 1) := by decide +kernel
theorem dX13_plain_22 : decode cX13_plain 22 = .ok (.iconst 1, 1) := by decide +kernel
theorem dX13_plain_23 : decode cX13_plain 23 = .ok (.iadd, 1) := by decide +kernel
theorem dX13_plain_24 : decode cX13_plain 24 = .ok (.invokevirtual 444, 3) := by decide +kernel
theorem dX13_plain_27 : decode cX13_plain 27 = .ok (.iastore, 1) := by decide +kernel
theorem dX13_plain_28 : decode cX13_plain 28 = .ok (.aload_n 0, 1) := by decide +kernel
theorem dX13_plain_29 : decode cX13_plain 29 = .ok (.getfield 319, 3) := by decide +kernel
theorem dX13_plain_32 : decode cX13_plain 32 = .ok (.ifCond .ne 57, 3) := by decide +kernel
theorem dX13_plain_35 : decode cX13_plain 35 = .ok (.aload_n 0, 1) := by decide +kernel
theorem dX13_plain_36 : decode cX13_plain 36 = .ok (.aload_n 0, 1) := by decide +kernel
theorem dX13_plain_37 : decode cX13_plain 37 = .ok (.getfield 376, 3) := by decide +kernel
theorem dX13_plain_40 : decode cX13_plain 40 = .ok (.bipush 61, 2) := by decide +kernel
theorem dX13_plain_42 : decode cX13_plain 42 = .ok (.invokevirtual 383, 3) := by decide +kernel
theorem dX13_plain_45 : decode cX13_plain 45 = .ok (.ifCond .eq 44, 3) := by decide +kernel
theorem dX13_plain_48 : decode cX13_plain 48 = .ok (.aload_n 0, 1) := by decide +kernel
theorem dX13_plain_49 : decode cX13_plain 49 = .ok (.getfield 28, 3) := by decide +kernel
theorem dX13_plain_52 : decode cX13_plain 52 = .ok (.iload_n 2, 1) := by decide +kernel
theorem dX13_plain_53 : decode cX13_plain 53 = .ok (.bipush 12, 2) := by decide +kernel
theorem dX13_plain_55 : decode cX13_plain 55 = .ok (.iastore, 1) := by decide +kernel
theorem dX13_plain_56 : decode cX13_plain 56 = .ok (.aload_n 0, 1) := by decide +kernel
theorem dX13_plain_57 : decode cX13_plain 57 = .ok (.getfield 31, 3) := by decide +kernel
theorem dX13_plain_60 : decode cX13_plain 60 = .ok (.iload_n 2, 1) := by decide +kernel
theorem dX13_plain_61 : decode cX13_plain 61 = .ok (.aload_n 0, 1) := by decide +kernel
theorem dX13_plain_62 : decode cX13_plain 62 = .ok (.getfield 376, 3) := by decide +kernel
theorem dX13_plain_65 : decode cX13_plain 65 = .ok (.iastore, 1) := by decide +kernel
theorem dX13_plain_66 : decode cX13_plain 66 = .ok (.aload_n 0, 1) := by decide +kernel
theorem dX13_plain_67 : decode cX13_plain 67 = .ok (.dup, 1) := by decide +kernel
theorem dX13_plain_68 : decode cX13_plain 68 = .ok (.getfield 376, 3) := by decide +kernel
theorem dX13_plain_71 : decode cX13_plain 71 = .ok (.iconst 1, 1) := by decide +kernel
theorem dX13_plain_72 : decode cX13_plain 72 = .ok (.iadd, 1) := by decide +kernel
theorem dX13_plain_73 : decode cX13_plain 73 = .ok (.putfield 376, 3) := by decide +kernel
theorem dX13_plain_76 : decode cX13_plain 76 = .ok (.aload_n 0, 1) := by decide +kernel
theorem dX13_plain_77 : decode cX13_plain 77 = .ok (.getfield 40, 3) := by decide +kernel
theorem dX13_plain_80 : decode cX13_plain 80 = .ok (.iload_n 2, 1) := by decide +kernel
theorem dX13_plain_81 : decode cX13_plain 81 = .ok (.aload_n 0, 1) := by decide +kernel
theorem dX13_plain_82 : decode cX13_plain 82 = .ok (.iload_n 1, 1) := by decide +kernel
theorem dX13_plain_83 : decode cX13_plain 83 = .ok (.iconst 1, 1) := by decide +kernel
theorem dX13_plain_84 : decode cX13_plain 84 = .ok (.iadd, 1) := by decide +kernel
theorem dX13_plain_85 : decode cX13_plain 85 = .ok (.invokevirtual 444, 3) := by decide +kernel
theorem dX13_plain_88 : decode cX13_plain 88 = .ok (.iastore, 1) := by decide +kernel
theorem dX13_plain_89 : decode cX13_plain 89 = .ok (.aload_n 0, 1) := by decide +kernel
theorem dX13_plain_90 : decode cX13_plain 90 = .ok (.bipush 59, 2) := by decide +kernel
theorem dX13_plain_92 : decode cX13_plain 92 = .ok (.invokevirtual 406, 3) := by decide +kernel
theorem dX13_plain_95 : decode cX13_plain 95 = .ok (.iload_n 2, 1) := by decide +kernel
theorem dX13_plain_96 : decode cX13_plain 96 = .ok (.ireturn, 1) := by decide +kernel
theorem rs_RX13_393 : mx_res RX13 393 = some (0, 13, 46) := by decide +kernel
theorem rs_RX13_396 : mx_res RX13 396 = some (0, 13, 47) := by decide +kernel
theorem rs_RX13_400 : mx_res RX13 400 = some (0, 13, 45) := by decide +kernel
theorem ft_13_45 : mx_fty 13 45 = some (.int, false, "ClassMillModel") := by decide +kernel
theorem ft_13_46 : mx_fty 13 46 = some (.int, false, "ClassMillModel") := by decide +kernel
theorem ft_13_47 : mx_fty 13 47 = some (.boolean, false, "ClassMillModel") := by decide +kernel
theorem mt_X13_type : mx_mt 400 = some (yX13_type, cX13_type, 1, none) := rfl
theorem dX13_type_0 : decode cX13_type 0 = .ok (.aload_n 0, 1) := by decide +kernel
theorem dX13_type_1 : decode cX13_type 1 = .ok (.getfield 319, 3) := by decide +kernel
theorem dX13_type_4 : decode cX13_type 4 = .ok (.ifCond .eq 4, 3) := by decide +kernel
theorem dX13_type_7 : decode cX13_type 7 = .ok (.return_, 1) := by decide +kernel
theorem dX13_type_8 : decode cX13_type 8 = .ok (.aload_n 0, 1) := by decide +kernel
theorem dX13_type_9 : decode cX13_type 9 = .ok (.aload_n 0, 1) := by decide +kernel
theorem dX13_type_10 : decode cX13_type 10 = .ok (.getfield 376, 3) := by decide +kernel
theorem dX13_type_13 : decode cX13_type 13 = .ok (.putfield 393, 3) := by decide +kernel
theorem dX13_type_16 : decode cX13_type 16 = .ok (.aload_n 0, 1) := by decide +kernel
theorem dX13_type_17 : decode cX13_type 17 = .ok (.iconst 0, 1) := by decide +kernel
theorem dX13_type_18 : decode cX13_type 18 = .ok (.putfield 396, 3) := by decide +kernel
theorem dX13_type_21 : decode cX13_type 21 = .ok (.aload_n 0, 1) := by decide +kernel
theorem dX13_type_22 : decode cX13_type 22 = .ok (.aload_n 0, 1) := by decide +kernel
theorem dX13_type_23 : decode cX13_type 23 = .ok (.getfield 376, 3) := by decide +kernel
theorem dX13_type_26 : decode cX13_type 26 = .ok (.iconst 0, 1) := by decide +kernel
theorem dX13_type_27 : decode cX13_type 27 = .ok (.invokevirtual 390, 3) := by decide +kernel
theorem dX13_type_30 : decode cX13_type 30 = .ok (.ifCond .eq 19, 3) := by decide +kernel
theorem dX13_type_33 : decode cX13_type 33 = .ok (.aload_n 0, 1) := by decide +kernel
theorem dX13_type_34 : decode cX13_type 34 = .ok (.iconst 1, 1) := by decide +kernel
theorem dX13_type_35 : decode cX13_type 35 = .ok (.putfield 400, 3) := by decide +kernel
theorem dX13_type_38 : decode cX13_type 38 = .ok (.aload_n 0, 1) := by decide +kernel
theorem dX13_type_39 : decode cX13_type 39 = .ok (.dup, 1) := by decide +kernel
theorem dX13_type_40 : decode cX13_type 40 = .ok (.getfield 376, 3) := by decide +kernel
theorem dX13_type_43 : decode cX13_type 43 = .ok (.iconst 1, 1) := by decide +kernel
theorem dX13_type_44 : decode cX13_type 44 = .ok (.iadd, 1) := by decide +kernel
theorem dX13_type_45 : decode cX13_type 45 = .ok (.putfield 376, 3) := by decide +kernel
theorem dX13_type_48 : decode cX13_type 48 = .ok (.return_, 1) := by decide +kernel
theorem dX13_type_49 : decode cX13_type 49 = .ok (.aload_n 0, 1) := by decide +kernel
theorem dX13_type_50 : decode cX13_type 50 = .ok (.aload_n 0, 1) := by decide +kernel
theorem dX13_type_51 : decode cX13_type 51 = .ok (.aload_n 0, 1) := by decide +kernel
theorem dX13_type_52 : decode cX13_type 52 = .ok (.getfield 376, 3) := by decide +kernel
theorem dX13_type_55 : decode cX13_type 55 = .ok (.bipush 10, 2) := by decide +kernel
theorem dX13_type_57 : decode cX13_type 57 = .ok (.invokevirtual 390, 3) := by decide +kernel
theorem dX13_type_60 : decode cX13_type 60 = .ok (.ifCond .eq 7, 3) := by decide +kernel
theorem dX13_type_63 : decode cX13_type 63 = .ok (.iconst 0, 1) := by decide +kernel
theorem dX13_type_64 : decode cX13_type 64 = .ok (.goto 4, 3) := by decide +kernel
theorem dX13_type_67 : decode cX13_type 67 = .ok (.iconst 3, 1) := by decide +kernel
theorem dX13_type_68 : decode cX13_type 68 = .ok (.putfield 400, 3) := by decide +kernel
theorem dX13_type_71 : decode cX13_type 71 = .ok (.aload_n 0, 1) := by decide +kernel
theorem dX13_type_72 : decode cX13_type 72 = .ok (.getfield 400, 3) := by decide +kernel
theorem dX13_type_75 : decode cX13_type 75 = .ok (.ifCond .ne 16, 3) := by decide +kernel
theorem dX13_type_78 : decode cX13_type 78 = .ok (.aload_n 0, 1) := by decide +kernel
theorem dX13_type_79 : decode cX13_type 79 = .ok (.dup, 1) := by decide +kernel
theorem dX13_type_80 : decode cX13_type 80 = .ok (.getfield 376, 3) := by decide +kernel
theorem dX13_type_83 : decode cX13_type 83 = .ok (.iconst 1, 1) := by decide +kernel
theorem dX13_type_84 : decode cX13_type 84 = .ok (.iadd, 1) := by decide +kernel
theorem dX13_type_85 : decode cX13_type 85 = .ok (.putfield 376, 3) := by decide +kernel
theorem dX13_type_88 : decode cX13_type 88 = .ok (.goto 8, 3) := by decide +kernel
theorem dX13_type_91 : decode cX13_type 91 = .ok (.aload_n 0, 1) := by decide +kernel
theorem dX13_type_92 : decode cX13_type 92 = .ok (.invokevirtual 403, 3) := by decide +kernel
theorem dX13_type_95 : decode cX13_type 95 = .ok (.pop, 1) := by decide +kernel
theorem dX13_type_96 : decode cX13_type 96 = .ok (.aload_n 0, 1) := by decide +kernel
theorem dX13_type_97 : decode cX13_type 97 = .ok (.getfield 319, 3) := by decide +kernel
theorem dX13_type_100 : decode cX13_type 100 = .ok (.ifCond .ne 16, 3) := by decide +kernel
theorem dX13_type_103 : decode cX13_type 103 = .ok (.aload_n 0, 1) := by decide +kernel
theorem dX13_type_104 : decode cX13_type 104 = .ok (.aload_n 0, 1) := by decide +kernel
theorem dX13_type_105 : decode cX13_type 105 = .ok (.getfield 376, 3) := by decide +kernel
theorem dX13_type_108 : decode cX13_type 108 = .ok (.bipush 91, 2) := by decide +kernel
theorem dX13_type_110 : decode cX13_type 110 = .ok (.invokevirtual 383, 3) := by decide +kernel
theorem dX13_type_113 : decode cX13_type 113 = .ok (.ifCond .ne 4, 3) := by decide +kernel
theorem dX13_type_116 : decode cX13_type 116 = .ok (.return_, 1) := by decide +kernel
theorem dX13_type_117 : decode cX13_type 117 = .ok (.aload_n 0, 1) := by decide +kernel
theorem dX13_type_118 : decode cX13_type 118 = .ok (.dup, 1) := by decide +kernel
theorem dX13_type_119 : decode cX13_type 119 = .ok (.getfield 376, 3) := by decide +kernel
theorem dX13_type_122 : decode cX13_type 122 = .ok (.iconst 1, 1) := by decide +kernel
theorem dX13_type_123 : decode cX13_type 123 = .ok (.iadd, 1) := by decide +kernel
theorem dX13_type_124 : decode cX13_type 124 = .ok (.putfield 376, 3) := by decide +kernel
theorem dX13_type_127 : decode cX13_type 127 = .ok (.aload_n 0, 1) := by decide +kernel
theorem dX13_type_128 : decode cX13_type 128 = .ok (.bipush 93, 2) := by decide +kernel
theorem dX13_type_130 : decode cX13_type 130 = .ok (.invokevirtual 406, 3) := by decide +kernel
theorem dX13_type_133 : decode cX13_type 133 = .ok (.aload_n 0, 1) := by decide +kernel
theorem dX13_type_134 : decode cX13_type 134 = .ok (.iconst 1, 1) := by decide +kernel
theorem dX13_type_135 : decode cX13_type 135 = .ok (.putfield 396, 3) := by decide +kernel
theorem dX13_type_138 : decode cX13_type 138 = .ok (.return_, 1) := by decide +kernel
theorem mt_X13_word : mx_mt 397 = some (yX13_word, cX13_word, 2, none) := rfl
theorem dX13_word_0 : decode cX13_word 0 = .ok (.aload_n 0, 1) := by decide +kernel
theorem dX13_word_1 : decode cX13_word 1 = .ok (.getfield 319, 3) := by decide +kernel
theorem dX13_word_4 : decode cX13_word 4 = .ok (.ifCond .eq 4, 3) := by decide +kernel
theorem dX13_word_7 : decode cX13_word 7 = .ok (.return_, 1) := by decide +kernel
theorem dX13_word_8 : decode cX13_word 8 = .ok (.aload_n 0, 1) := by decide +kernel
theorem dX13_word_9 : decode cX13_word 9 = .ok (.aload_n 0, 1) := by decide +kernel
theorem dX13_word_10 : decode cX13_word 10 = .ok (.getfield 376, 3) := by decide +kernel
theorem dX13_word_13 : decode cX13_word 13 = .ok (.iload_n 1, 1) := by decide +kernel
theorem dX13_word_14 : decode cX13_word 14 = .ok (.invokevirtual 390, 3) := by decide +kernel
theorem dX13_word_17 : decode cX13_word 17 = .ok (.ifCond .eq 16, 3) := by decide +kernel
theorem dX13_word_20 : decode cX13_word 20 = .ok (.aload_n 0, 1) := by decide +kernel
theorem dX13_word_21 : decode cX13_word 21 = .ok (.dup, 1) := by decide +kernel
theorem dX13_word_22 : decode cX13_word 22 = .ok (.getfield 376, 3) := by decide +kernel
theorem dX13_word_25 : decode cX13_word 25 = .ok (.iconst 1, 1) := by decide +kernel
theorem dX13_word_26 : decode cX13_word 26 = .ok (.iadd, 1) := by decide +kernel
theorem dX13_word_27 : decode cX13_word 27 = .ok (.putfield 376, 3) := by decide +kernel
theorem dX13_word_30 : decode cX13_word 30 = .ok (.goto 7, 3) := by decide +kernel
theorem dX13_word_33 : decode cX13_word 33 = .ok (.aload_n 0, 1) := by decide +kernel
theorem dX13_word_34 : decode cX13_word 34 = .ok (.invokevirtual 387, 3) := by decide +kernel
theorem dX13_word_37 : decode cX13_word 37 = .ok (.return_, 1) := by decide +kernel
