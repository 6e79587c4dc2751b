theorem rs_RX13_403 : mx_res RX13 403 = some (1, 398, 0) := by decide +kernel
theorem rs_RX13_406 : mx_res RX13 406 = some (1, 396, 1) := by decide +kernel
theorem rs_RX13_430 : mx_res RX13 430 = some (1, 391, 3) := by decide +kernel
theorem rs_RX13_437 : mx_res RX13 437 = some (1, 399, 1) := by decide +kernel
theorem rs_RX13_444 : mx_res RX13 444 = some (1, 407, 1) := by decide +kernel
theorem rs_RX13_450 : mx_res RX13 450 = some (1, 409, 2) := by decide +kernel
theorem rs_RX13_456 : mx_res RX13 456 = some (1, 411, 1) := by decide +kernel
theorem rs_RX13_462 : mx_res RX13 462 = some (1, 410, 0) := by decide +kernel
theorem rs_RX13_465 : mx_res RX13 465 = some (1, 413, 1) := by decide +kernel
theorem rs_RX13_468 : mx_res RX13 468 = some (1, 414, 1) := by decide +kernel
theorem rs_RX13_471 : mx_res RX13 471 = some (1, 412, 1) := by decide +kernel
theorem rs_RX13_474 : mx_res RX13 474 = some (1, 415, 1) := by decide +kernel
theorem mt_X13_expression : mx_mt 407 = some (yX13_expression, cX13_expression, 5, (some .int)) := rfl
theorem dX13_arguments_0 : decode cX13_arguments 0 = .ok (.aload_n 0, 1) := by decide +kernel
theorem dX13_arguments_1 : decode cX13_arguments 1 = .ok (.bipush 40, 2) := by decide +kernel
theorem dX13_arguments_3 : decode cX13_arguments 3 = .ok (.invokevirtual 406, 3) := by decide +kernel
theorem dX13_arguments_6 : decode cX13_arguments 6 = .ok (.iconst (-1), 1) := by decide +kernel
theorem dX13_arguments_7 : decode cX13_arguments 7 = .ok (.istore_n 2, 1) := by decide +kernel
theorem dX13_arguments_8 : decode cX13_arguments 8 = .ok (.iconst (-1), 1) := by decide +kernel
theorem dX13_arguments_9 : decode cX13_arguments 9 = .ok (.istore_n 3, 1) := by decide +kernel
theorem dX13_arguments_10 : decode cX13_arguments 10 = .ok (.aload_n 0, 1) := by decide +kernel
theorem dX13_arguments_11 : decode cX13_arguments 11 = .ok (.getfield 319, 3) := by decide +kernel
theorem dX13_arguments_14 : decode cX13_arguments 14 = .ok (.ifCond .ne 99, 3) := by decide +kernel
theorem dX13_arguments_17 : decode cX13_arguments 17 = .ok (.aload_n 0, 1) := by decide +kernel
theorem dX13_arguments_18 : decode cX13_arguments 18 = .ok (.aload_n 0, 1) := by decide +kernel
theorem dX13_arguments_19 : decode cX13_arguments 19 = .ok (.getfield 376, 3) := by decide +kernel
theorem dX13_arguments_22 : decode cX13_arguments 22 = .ok (.bipush 41, 2) := by decide +kernel
theorem dX13_arguments_24 : decode cX13_arguments 24 = .ok (.invokevirtual 383, 3) := by decide +kernel
theorem dX13_arguments_27 : decode cX13_arguments 27 = .ok (.ifCond .ne 86, 3) := by decide +kernel
theorem dX13_arguments_30 : decode cX13_arguments 30 = .ok (.iload_n 2, 1) := by decide +kernel
theorem dX13_arguments_31 : decode cX13_arguments 31 = .ok (.iconst (-1), 1) := by decide +kernel
theorem dX13_arguments_32 : decode cX13_arguments 32 = .ok (.if_icmp .eq 9, 3) := by decide +kernel
theorem dX13_arguments_35 : decode cX13_arguments 35 = .ok (.aload_n 0, 1) := by decide +kernel
theorem dX13_arguments_36 : decode cX13_arguments 36 = .ok (.bipush 44, 2) := by decide +kernel
theorem dX13_arguments_38 : decode cX13_arguments 38 = .ok (.invokevirtual 406, 3) := by decide +kernel
theorem dX13_arguments_41 : decode cX13_arguments 41 = .ok (.aload_n 0, 1) := by decide +kernel
theorem dX13_arguments_42 : decode cX13_arguments 42 = .ok (.iload_n 1, 1) := by decide +kernel
theorem dX13_arguments_43 : decode cX13_arguments 43 = .ok (.invokevirtual 444, 3) := by decide +kernel
theorem dX13_arguments_46 : decode cX13_arguments 46 = .ok (.istore 4, 2) := by decide +kernel
theorem dX13_arguments_48 : decode cX13_arguments 48 = .ok (.aload_n 0, 1) := by decide +kernel
theorem dX13_arguments_49 : decode cX13_arguments 49 = .ok (.getfield 319, 3) := by decide +kernel
theorem dX13_arguments_52 : decode cX13_arguments 52 = .ok (.ifCond .eq 5, 3) := by decide +kernel
theorem dX13_arguments_55 : decode cX13_arguments 55 = .ok (.iconst (-1), 1) := by decide +kernel
theorem dX13_arguments_56 : decode cX13_arguments 56 = .ok (.ireturn, 1) := by decide +kernel
theorem dX13_arguments_57 : decode cX13_arguments 57 = .ok (.aload_n 0, 1) := by decide +kernel
theorem dX13_arguments_58 : decode cX13_arguments 58 = .ok (.bipush 11, 2) := by decide +kernel
theorem dX13_arguments_60 : decode cX13_arguments 60 = .ok (.aload_n 0, 1) := by decide +kernel
theorem dX13_arguments_61 : decode cX13_arguments 61 = .ok (.getfield 34, 3) := by decide +kernel
theorem dX13_arguments_64 : decode cX13_arguments 64 = .ok (.iload 4, 2) := by decide +kernel
theorem dX13_arguments_66 : decode cX13_arguments 66 = .ok (.iaload, 1) := by decide +kernel
theorem dX13_arguments_67 : decode cX13_arguments 67 = .ok (.aload_n 0, 1) := by decide +kernel
theorem dX13_arguments_68 : decode cX13_arguments 68 = .ok (.getfield 34, 3) := by decide +kernel
theorem dX13_arguments_71 : decode cX13_arguments 71 = .ok (.iload 4, 2) := by decide +kernel
theorem dX13_arguments_73 : decode cX13_arguments 73 = .ok (.iaload, 1) := by decide +kernel
theorem dX13_arguments_74 : decode cX13_arguments 74 = .ok (.invokevirtual 430, 3) := by decide +kernel
theorem dX13_arguments_77 : decode cX13_arguments 77 = .ok (.istore 5, 2) := by decide +kernel
theorem dX13_arguments_79 : decode cX13_arguments 79 = .ok (.aload_n 0, 1) := by decide +kernel
theorem dX13_arguments_80 : decode cX13_arguments 80 = .ok (.getfield 37, 3) := by decide +kernel
theorem dX13_arguments_83 : decode cX13_arguments 83 = .ok (.iload 5, 2) := by decide +kernel
theorem dX13_arguments_85 : decode cX13_arguments 85 = .ok (.iload 4, 2) := by decide +kernel
theorem dX13_arguments_87 : decode cX13_arguments 87 = .ok (.iastore, 1) := by decide +kernel
theorem dX13_arguments_88 : decode cX13_arguments 88 = .ok (.iload_n 2, 1) := by decide +kernel
theorem dX13_arguments_89 : decode cX13_arguments 89 = .ok (.iconst (-1), 1) := by decide +kernel
theorem dX13_arguments_90 : decode cX13_arguments 90 = .ok (.if_icmp .ne 9, 3) := by decide +kernel
theorem dX13_arguments_93 : decode cX13_arguments 93 = .ok (.iload 5, 2) := by decide +kernel
theorem dX13_arguments_95 : decode cX13_arguments 95 = .ok (.istore_n 2, 1) := by decide +kernel
theorem dX13_arguments_96 : decode cX13_arguments 96 = .ok (.goto 11, 3) := by decide +kernel
theorem dX13_arguments_99 : decode cX13_arguments 99 = .ok (.aload_n 0, 1) := by decide +kernel
theorem dX13_arguments_100 : decode cX13_arguments 100 = .ok (.getfield 46, 3) := by decide +kernel
theorem dX13_arguments_103 : decode cX13_arguments 103 = .ok (.iload_n 3, 1) := by decide +kernel
theorem dX13_arguments_104 : decode cX13_arguments 104 = .ok (.iload 5, 2) := by decide +kernel
theorem dX13_arguments_106 : decode cX13_arguments 106 = .ok (.iastore, 1) := by decide +kernel
theorem dX13_arguments_107 : decode cX13_arguments 107 = .ok (.iload 5, 2) := by decide +kernel
theorem dX13_arguments_109 : decode cX13_arguments 109 = .ok (.istore_n 3, 1) := by decide +kernel
theorem dX13_arguments_110 : decode cX13_arguments 110 = .ok (.goto (-100), 3) := by decide +kernel
theorem dX13_arguments_113 : decode cX13_arguments 113 = .ok (.aload_n 0, 1) := by decide +kernel
theorem dX13_arguments_114 : decode cX13_arguments 114 = .ok (.bipush 41, 2) := by decide +kernel
theorem dX13_arguments_116 : decode cX13_arguments 116 = .ok (.invokevirtual 406, 3) := by decide +kernel
theorem dX13_arguments_119 : decode cX13_arguments 119 = .ok (.iload_n 2, 1) := by decide +kernel
theorem dX13_arguments_120 : decode cX13_arguments 120 = .ok (.ireturn, 1) := by decide +kernel
theorem dX13_expression_0 : decode cX13_expression 0 = .ok (.aload_n 0, 1) := by decide +kernel
theorem dX13_expression_1 : decode cX13_expression 1 = .ok (.iload_n 1, 1) := by decide +kernel
theorem dX13_expression_2 : decode cX13_expression 2 = .ok (.invokevirtual 437, 3) := by decide +kernel
theorem dX13_expression_5 : decode cX13_expression 5 = .ok (.ifCond .eq 5, 3) := by decide +kernel
theorem dX13_expression_8 : decode cX13_expression 8 = .ok (.iconst (-1), 1) := by decide +kernel
theorem dX13_expression_9 : decode cX13_expression 9 = .ok (.ireturn, 1) := by decide +kernel
theorem dX13_expression_10 : decode cX13_expression 10 = .ok (.aload_n 0, 1) := by decide +kernel
theorem dX13_expression_11 : decode cX13_expression 11 = .ok (.getfield 376, 3) := by decide +kernel
theorem dX13_expression_14 : decode cX13_expression 14 = .ok (.istore_n 2, 1) := by decide +kernel
theorem dX13_expression_15 : decode cX13_expression 15 = .ok (.aload_n 0, 1) := by decide +kernel
theorem dX13_expression_16 : decode cX13_expression 16 = .ok (.iconst 0, 1) := by decide +kernel
theorem dX13_expression_17 : decode cX13_expression 17 = .ok (.iload_n 1, 1) := by decide +kernel
theorem dX13_expression_18 : decode cX13_expression 18 = .ok (.iconst 1, 1) := by decide +kernel
theorem dX13_expression_19 : decode cX13_expression 19 = .ok (.iadd, 1) := by decide +kernel
theorem dX13_expression_20 : decode cX13_expression 20 = .ok (.invokevirtual 450, 3) := by decide +kernel
theorem dX13_expression_23 : decode cX13_expression 23 = .ok (.istore_n 3, 1) := by decide +kernel
theorem dX13_expression_24 : decode cX13_expression 24 = .ok (.aload_n 0, 1) := by decide +kernel
theorem dX13_expression_25 : decode cX13_expression 25 = .ok (.getfield 319, 3) := by decide +kernel
theorem dX13_expression_28 : decode cX13_expression 28 = .ok (.ifCond .ne 16, 3) := by decide +kernel
theorem dX13_expression_31 : decode cX13_expression 31 = .ok (.aload_n 0, 1) := by decide +kernel
theorem dX13_expression_32 : decode cX13_expression 32 = .ok (.aload_n 0, 1) := by decide +kernel
theorem dX13_expression_33 : decode cX13_expression 33 = .ok (.getfield 376, 3) := by decide +kernel
theorem dX13_expression_36 : decode cX13_expression 36 = .ok (.bipush 63, 2) := by decide +kernel
theorem dX13_expression_38 : decode cX13_expression 38 = .ok (.invokevirtual 383, 3) := by decide +kernel
theorem dX13_expression_41 : decode cX13_expression 41 = .ok (.ifCond .ne 5, 3) := by decide +kernel
theorem dX13_expression_44 : decode cX13_expression 44 = .ok (.iload_n 3, 1) := by decide +kernel
theorem dX13_expression_45 : decode cX13_expression 45 = .ok (.ireturn, 1) := by decide +kernel
theorem dX13_expression_46 : decode cX13_expression 46 = .ok (.aload_n 0, 1) := by decide +kernel
theorem dX13_expression_47 : decode cX13_expression 47 = .ok (.bipush 39, 2) := by decide +kernel
theorem dX13_expression_49 : decode cX13_expression 49 = .ok (.aload_n 0, 1) := by decide +kernel
theorem dX13_expression_50 : decode cX13_expression 50 = .ok (.getfield 376, 3) := by decide +kernel
theorem dX13_expression_53 : decode cX13_expression 53 = .ok (.iload_n 2, 1) := by decide +kernel
theorem dX13_expression_54 : decode cX13_expression 54 = .ok (.invokevirtual 430, 3) := by decide +kernel
theorem dX13_expression_57 : decode cX13_expression 57 = .ok (.istore 4, 2) := by decide +kernel
theorem dX13_expression_59 : decode cX13_expression 59 = .ok (.aload_n 0, 1) := by decide +kernel
theorem dX13_expression_60 : decode cX13_expression 60 = .ok (.dup, 1) := by decide +kernel
theorem dX13_expression_61 : decode cX13_expression 61 = .ok (.getfield 376, 3) := by decide +kernel
theorem dX13_expression_64 : decode cX13_expression 64 = .ok (.iconst 1, 1) := by decide +kernel
theorem dX13_expression_65 : decode cX13_expression 65 = .ok (.iadd, 1) := by decide +kernel
theorem dX13_expression_66 : decode cX13_expression 66 = .ok (.putfield 376, 3) := by decide +kernel
theorem dX13_expression_69 : decode cX13_expression 69 = .ok (.aload_n 0, 1) := by decide +kernel
theorem dX13_expression_70 : decode cX13_expression 70 = .ok (.getfield 37, 3) := by decide +kernel
theorem dX13_expression_73 : decode cX13_expression 73 = .ok (.iload 4, 2) := by decide +kernel
theorem dX13_expression_75 : decode cX13_expression 75 = .ok (.iload_n 3, 1) := by decide +kernel
theorem dX13_expression_76 : decode cX13_expression 76 = .ok (.iastore, 1) := by decide +kernel
theorem dX13_expression_77 : decode cX13_expression 77 = .ok (.aload_n 0, 1) := by decide +kernel
theorem dX13_expression_78 : decode cX13_expression 78 = .ok (.getfield 40, 3) := by decide +kernel
theorem dX13_expression_81 : decode cX13_expression 81 = .ok (.iload 4, 2) := by decide +kernel
theorem dX13_expression_83 : decode cX13_expression 83 = .ok (.aload_n 0, 1) := by decide +kernel
theorem dX13_expression_84 : decode cX13_expression 84 = .ok (.iload_n 1, 1) := by decide +kernel
theorem dX13_expression_85 : decode cX13_expression 85 = .ok (.iconst 1, 1) := by decide +kernel
theorem dX13_expression_86 : decode cX13_expression 86 = .ok (.iadd, 1) := by decide +kernel
theorem dX13_expression_87 : decode cX13_expression 87 = .ok (.invokevirtual 444, 3) := by decide +kernel
theorem dX13_expression_90 : decode cX13_expression 90 = .ok (.iastore, 1) := by decide +kernel
theorem dX13_expression_91 : decode cX13_expression 91 = .ok (.aload_n 0, 1) := by decide +kernel
theorem dX13_expression_92 : decode cX13_expression 92 = .ok (.bipush 58, 2) := by decide +kernel
theorem dX13_expression_94 : decode cX13_expression 94 = .ok (.invokevirtual 406, 3) := by decide +kernel
theorem dX13_expression_97 : decode cX13_expression 97 = .ok (.aload_n 0, 1) := by decide +kernel
theorem dX13_expression_98 : decode cX13_expression 98 = .ok (.getfield 43, 3) := by decide +kernel
theorem dX13_expression_101 : decode cX13_expression 101 = .ok (.iload 4, 2) := by decide +kernel
theorem dX13_expression_103 : decode cX13_expression 103 = .ok (.aload_n 0, 1) := by decide +kernel
theorem dX13_expression_104 : decode cX13_expression 104 = .ok (.iload_n 1, 1) := by decide +kernel
theorem dX13_expression_105 : decode cX13_expression 105 = .ok (.iconst 1, 1) := by decide +kernel
theorem dX13_expression_106 : decode cX13_expression 106 = .ok (.iadd, 1) := by decide +kernel
theorem dX13_expression_107 : decode cX13_expression 107 = .ok (.invokevirtual 444, 3) := by decide +kernel
theorem dX13_expression_110 : decode cX13_expression 110 = .ok (.iastore, 1) := by decide +kernel
theorem dX13_expression_111 : decode cX13_expression 111 = .ok (.iload 4, 2) := by decide +kernel
theorem dX13_expression_113 : decode cX13_expression 113 = .ok (.ireturn, 1) := by decide +kernel
theorem dX13_fresh_0 : decode cX13_fresh 0 = .ok (.aload_n 0, 1) := by decide +kernel
theorem dX13_fresh_1 : decode cX13_fresh 1 = .ok (.getfield 376, 3) := by decide +kernel
theorem dX13_fresh_4 : decode cX13_fresh 4 = .ok (.istore_n 2, 1) := by decide +kernel
theorem dX13_fresh_5 : decode cX13_fresh 5 = .ok (.aload_n 0, 1) := by decide +kernel
theorem dX13_fresh_6 : decode cX13_fresh 6 = .ok (.dup, 1) := by decide +kernel
theorem dX13_fresh_7 : decode cX13_fresh 7 = .ok (.getfield 376, 3) := by decide +kernel
theorem dX13_fresh_10 : decode cX13_fresh 10 = .ok (.iconst 1, 1) := by decide +kernel
theorem dX13_fresh_11 : decode cX13_fresh 11 = .ok (.iadd, 1) := by decide +kernel
theorem dX13_fresh_12 : decode cX13_fresh 12 = .ok (.putfield 376, 3) := by decide +kernel
theorem dX13_fresh_15 : decode cX13_fresh 15 = .ok (.aload_n 0, 1) := by decide +kernel
theorem dX13_fresh_16 : decode cX13_fresh 16 = .ok (.aload_n 0, 1) := by decide +kernel
theorem dX13_fresh_17 : decode cX13_fresh 17 = .ok (.getfield 376, 3) := by decide +kernel
theorem dX13_fresh_20 : decode cX13_fresh 20 = .ok (.bipush 10, 2) := by decide +kernel
theorem dX13_fresh_22 : decode cX13_fresh 22 = .ok (.invokevirtual 390, 3) := by decide +kernel
theorem dX13_fresh_25 : decode cX13_fresh 25 = .ok (.ifCond .eq 50, 3) := by decide +kernel
theorem dX13_fresh_28 : decode cX13_fresh 28 = .ok (.aload_n 0, 1) := by decide +kernel
theorem dX13_fresh_29 : decode cX13_fresh 29 = .ok (.dup, 1) := by decide +kernel
theorem dX13_fresh_30 : decode cX13_fresh 30 = .ok (.getfield 376, 3) := by decide +kernel
theorem dX13_fresh_33 : decode cX13_fresh 33 = .ok (.iconst 1, 1) := by decide +kernel
theorem dX13_fresh_34 : decode cX13_fresh 34 = .ok (.iadd, 1) := by decide +kernel
theorem dX13_fresh_35 : decode cX13_fresh 35 = .ok (.putfield 376, 3) := by decide +kernel
theorem dX13_fresh_38 : decode cX13_fresh 38 = .ok (.aload_n 0, 1) := by decide +kernel
theorem dX13_fresh_39 : decode cX13_fresh 39 = .ok (.bipush 28, 2) := by decide +kernel
theorem dX13_fresh_41 : decode cX13_fresh 41 = .ok (.aload_n 0, 1) := by decide +kernel
theorem dX13_fresh_42 : decode cX13_fresh 42 = .ok (.getfield 376, 3) := by decide +kernel
theorem dX13_fresh_45 : decode cX13_fresh 45 = .ok (.iload_n 2, 1) := by decide +kernel
theorem dX13_fresh_46 : decode cX13_fresh 46 = .ok (.invokevirtual 430, 3) := by decide +kernel
theorem dX13_fresh_49 : decode cX13_fresh 49 = .ok (.istore_n 3, 1) := by decide +kernel
theorem dX13_fresh_50 : decode cX13_fresh 50 = .ok (.aload_n 0, 1) := by decide +kernel
theorem dX13_fresh_51 : decode cX13_fresh 51 = .ok (.bipush 91, 2) := by decide +kernel
theorem dX13_fresh_53 : decode cX13_fresh 53 = .ok (.invokevirtual 406, 3) := by decide +kernel
theorem dX13_fresh_56 : decode cX13_fresh 56 = .ok (.aload_n 0, 1) := by decide +kernel
theorem dX13_fresh_57 : decode cX13_fresh 57 = .ok (.getfield 37, 3) := by decide +kernel
theorem dX13_fresh_60 : decode cX13_fresh 60 = .ok (.iload_n 3, 1) := by decide +kernel
theorem dX13_fresh_61 : decode cX13_fresh 61 = .ok (.aload_n 0, 1) := by decide +kernel
theorem dX13_fresh_62 : decode cX13_fresh 62 = .ok (.iload_n 1, 1) := by decide +kernel
theorem dX13_fresh_63 : decode cX13_fresh 63 = .ok (.invokevirtual 444, 3) := by decide +kernel
theorem dX13_fresh_66 : decode cX13_fresh 66 = .ok (.iastore, 1) := by decide +kernel
theorem dX13_fresh_67 : decode cX13_fresh 67 = .ok (.aload_n 0, 1) := by decide +kernel
theorem dX13_fresh_68 : decode cX13_fresh 68 = .ok (.bipush 93, 2) := by decide +kernel
theorem dX13_fresh_70 : decode cX13_fresh 70 = .ok (.invokevirtual 406, 3) := by decide +kernel
theorem dX13_fresh_73 : decode cX13_fresh 73 = .ok (.iload_n 3, 1) := by decide +kernel
theorem dX13_fresh_74 : decode cX13_fresh 74 = .ok (.ireturn, 1) := by decide +kernel
theorem dX13_fresh_75 : decode cX13_fresh 75 = .ok (.aload_n 0, 1) := by decide +kernel
theorem dX13_fresh_76 : decode cX13_fresh 76 = .ok (.invokevirtual 403, 3) := by decide +kernel
theorem dX13_fresh_79 : decode cX13_fresh 79 = .ok (.istore_n 3, 1) := by decide +kernel
theorem dX13_fresh_80 : decode cX13_fresh 80 = .ok (.aload_n 0, 1) := by decide +kernel
theorem dX13_fresh_81 : decode cX13_fresh 81 = .ok (.getfield 319, 3) := by decide +kernel
theorem dX13_fresh_84 : decode cX13_fresh 84 = .ok (.ifCond .eq 5, 3) := by decide +kernel
theorem dX13_fresh_87 : decode cX13_fresh 87 = .ok (.iconst (-1), 1) := by decide +kernel
theorem dX13_fresh_88 : decode cX13_fresh 88 = .ok (.ireturn, 1) := by decide +kernel
theorem dX13_fresh_89 : decode cX13_fresh 89 = .ok (.aload_n 0, 1) := by decide +kernel
theorem dX13_fresh_90 : decode cX13_fresh 90 = .ok (.bipush 27, 2) := by decide +kernel
theorem dX13_fresh_92 : decode cX13_fresh 92 = .ok (.iload_n 3, 1) := by decide +kernel
theorem dX13_fresh_93 : decode cX13_fresh 93 = .ok (.iload_n 2, 1) := by decide +kernel
theorem dX13_fresh_94 : decode cX13_fresh 94 = .ok (.invokevirtual 430, 3) := by decide +kernel
theorem dX13_fresh_97 : decode cX13_fresh 97 = .ok (.istore 4, 2) := by decide +kernel
theorem dX13_fresh_99 : decode cX13_fresh 99 = .ok (.aload_n 0, 1) := by decide +kernel
theorem dX13_fresh_100 : decode cX13_fresh 100 = .ok (.aload_n 0, 1) := by decide +kernel
theorem dX13_fresh_101 : decode cX13_fresh 101 = .ok (.getfield 376, 3) := by decide +kernel
theorem dX13_fresh_104 : decode cX13_fresh 104 = .ok (.bipush 91, 2) := by decide +kernel
theorem dX13_fresh_106 : decode cX13_fresh 106 = .ok (.invokevirtual 383, 3) := by decide +kernel
theorem dX13_fresh_109 : decode cX13_fresh 109 = .ok (.ifCond .eq 54, 3) := by decide +kernel
theorem dX13_fresh_112 : decode cX13_fresh 112 = .ok (.aload_n 0, 1) := by decide +kernel
theorem dX13_fresh_113 : decode cX13_fresh 113 = .ok (.getfield 28, 3) := by decide +kernel
theorem dX13_fresh_116 : decode cX13_fresh 116 = .ok (.iload 4, 2) := by decide +kernel
theorem dX13_fresh_118 : decode cX13_fresh 118 = .ok (.bipush 29, 2) := by decide +kernel
theorem dX13_fresh_120 : decode cX13_fresh 120 = .ok (.iastore, 1) := by decide +kernel
theorem dX13_fresh_121 : decode cX13_fresh 121 = .ok (.aload_n 0, 1) := by decide +kernel
theorem dX13_fresh_122 : decode cX13_fresh 122 = .ok (.getfield 43, 3) := by decide +kernel
theorem dX13_fresh_125 : decode cX13_fresh 125 = .ok (.iload 4, 2) := by decide +kernel
theorem dX13_fresh_127 : decode cX13_fresh 127 = .ok (.aload_n 0, 1) := by decide +kernel
theorem dX13_fresh_128 : decode cX13_fresh 128 = .ok (.getfield 376, 3) := by decide +kernel
theorem dX13_fresh_131 : decode cX13_fresh 131 = .ok (.iastore, 1) := by decide +kernel
theorem dX13_fresh_132 : decode cX13_fresh 132 = .ok (.aload_n 0, 1) := by decide +kernel
theorem dX13_fresh_133 : decode cX13_fresh 133 = .ok (.dup, 1) := by decide +kernel
theorem dX13_fresh_134 : decode cX13_fresh 134 = .ok (.getfield 376, 3) := by decide +kernel
theorem dX13_fresh_137 : decode cX13_fresh 137 = .ok (.iconst 1, 1) := by decide +kernel
theorem dX13_fresh_138 : decode cX13_fresh 138 = .ok (.iadd, 1) := by decide +kernel
theorem dX13_fresh_139 : decode cX13_fresh 139 = .ok (.putfield 376, 3) := by decide +kernel
theorem dX13_fresh_142 : decode cX13_fresh 142 = .ok (.aload_n 0, 1) := by decide +kernel
theorem dX13_fresh_143 : decode cX13_fresh 143 = .ok (.getfield 37, 3) := by decide +kernel
theorem dX13_fresh_146 : decode cX13_fresh 146 = .ok (.iload 4, 2) := by decide +kernel
theorem dX13_fresh_148 : decode cX13_fresh 148 = .ok (.aload_n 0, 1) := by decide +kernel
theorem dX13_fresh_149 : decode cX13_fresh 149 = .ok (.iload_n 1, 1) := by decide +kernel
theorem dX13_fresh_150 : decode cX13_fresh 150 = .ok (.invokevirtual 444, 3) := by decide +kernel
theorem dX13_fresh_153 : decode cX13_fresh 153 = .ok (.iastore, 1) := by decide +kernel
theorem dX13_fresh_154 : decode cX13_fresh 154 = .ok (.aload_n 0, 1) := by decide +kernel
theorem dX13_fresh_155 : decode cX13_fresh 155 = .ok (.bipush 93, 2) := by decide +kernel
theorem dX13_fresh_157 : decode cX13_fresh 157 = .ok (.invokevirtual 406, 3) := by decide +kernel
theorem dX13_fresh_160 : decode cX13_fresh 160 = .ok (.goto 15, 3) := by decide +kernel
theorem dX13_fresh_163 : decode cX13_fresh 163 = .ok (.aload_n 0, 1) := by decide +kernel
theorem dX13_fresh_164 : decode cX13_fresh 164 = .ok (.bipush 40, 2) := by decide +kernel
theorem dX13_fresh_166 : decode cX13_fresh 166 = .ok (.invokevirtual 406, 3) := by decide +kernel
theorem dX13_fresh_169 : decode cX13_fresh 169 = .ok (.aload_n 0, 1) := by decide +kernel
theorem dX13_fresh_170 : decode cX13_fresh 170 = .ok (.bipush 41, 2) := by decide +kernel
theorem dX13_fresh_172 : decode cX13_fresh 172 = .ok (.invokevirtual 406, 3) := by decide +kernel
theorem dX13_fresh_175 : decode cX13_fresh 175 = .ok (.iload 4, 2) := by decide +kernel
theorem dX13_fresh_177 : decode cX13_fresh 177 = .ok (.ireturn, 1) := by decide +kernel
theorem dX13_postfix_0 : decode cX13_postfix 0 = .ok (.aload_n 0, 1) := by decide +kernel
theorem dX13_postfix_1 : decode cX13_postfix 1 = .ok (.getfield 376, 3) := by decide +kernel
theorem dX13_postfix_4 : decode cX13_postfix 4 = .ok (.istore_n 2, 1) := by decide +kernel
theorem dX13_postfix_5 : decode cX13_postfix 5 = .ok (.aload_n 0, 1) := by decide +kernel
theorem dX13_postfix_6 : decode cX13_postfix 6 = .ok (.iload_n 1, 1) := by decide +kernel
theorem dX13_postfix_7 : decode cX13_postfix 7 = .ok (.invokevirtual 468, 3) := by decide +kernel
theorem dX13_postfix_10 : decode cX13_postfix 10 = .ok (.istore_n 3, 1) := by decide +kernel
theorem dX13_postfix_11 : decode cX13_postfix 11 = .ok (.aload_n 0, 1) := by decide +kernel
theorem dX13_postfix_12 : decode cX13_postfix 12 = .ok (.getfield 319, 3) := by decide +kernel
theorem dX13_postfix_15 : decode cX13_postfix 15 = .ok (.ifCond .ne 191, 3) := by decide +kernel
theorem dX13_postfix_18 : decode cX13_postfix 18 = .ok (.aload_n 0, 1) := by decide +kernel
theorem dX13_postfix_19 : decode cX13_postfix 19 = .ok (.aload_n 0, 1) := by decide +kernel
theorem dX13_postfix_20 : decode cX13_postfix 20 = .ok (.getfield 376, 3) := by decide +kernel
theorem dX13_postfix_23 : decode cX13_postfix 23 = .ok (.bipush 46, 2) := by decide +kernel
theorem dX13_postfix_25 : decode cX13_postfix 25 = .ok (.invokevirtual 383, 3) := by decide +kernel
theorem dX13_postfix_28 : decode cX13_postfix 28 = .ok (.ifCond .ne 16, 3) := by decide +kernel
theorem dX13_postfix_31 : decode cX13_postfix 31 = .ok (.aload_n 0, 1) := by decide +kernel
theorem dX13_postfix_32 : decode cX13_postfix 32 = .ok (.aload_n 0, 1) := by decide +kernel
theorem dX13_postfix_33 : decode cX13_postfix 33 = .ok (.getfield 376, 3) := by decide +kernel
theorem dX13_postfix_36 : decode cX13_postfix 36 = .ok (.bipush 91, 2) := by decide +kernel
theorem dX13_postfix_38 : decode cX13_postfix 38 = .ok (.invokevirtual 383, 3) := by decide +kernel
theorem dX13_postfix_41 : decode cX13_postfix 41 = .ok (.ifCond .eq 165, 3) := by decide +kernel
theorem dX13_postfix_44 : decode cX13_postfix 44 = .ok (.aload_n 0, 1) := by decide +kernel
theorem dX13_postfix_45 : decode cX13_postfix 45 = .ok (.aload_n 0, 1) := by decide +kernel
theorem dX13_postfix_46 : decode cX13_postfix 46 = .ok (.getfield 376, 3) := by decide +kernel
theorem dX13_postfix_49 : decode cX13_postfix 49 = .ok (.bipush 46, 2) := by decide +kernel
theorem dX13_postfix_51 : decode cX13_postfix 51 = .ok (.invokevirtual 383, 3) := by decide +kernel
theorem dX13_postfix_54 : decode cX13_postfix 54 = .ok (.ifCond .eq 97, 3) := by decide +kernel
theorem dX13_postfix_57 : decode cX13_postfix 57 = .ok (.aload_n 0, 1) := by decide +kernel
theorem dX13_postfix_58 : decode cX13_postfix 58 = .ok (.bipush 30, 2) := by decide +kernel
theorem dX13_postfix_60 : decode cX13_postfix 60 = .ok (.iconst 0, 1) := by decide +kernel
theorem dX13_postfix_61 : decode cX13_postfix 61 = .ok (.iload_n 2, 1) := by decide +kernel
theorem dX13_postfix_62 : decode cX13_postfix 62 = .ok (.invokevirtual 430, 3) := by decide +kernel
theorem dX13_postfix_65 : decode cX13_postfix 65 = .ok (.istore 4, 2) := by decide +kernel
theorem dX13_postfix_67 : decode cX13_postfix 67 = .ok (.aload_n 0, 1) := by decide +kernel
theorem dX13_postfix_68 : decode cX13_postfix 68 = .ok (.getfield 43, 3) := by decide +kernel
theorem dX13_postfix_71 : decode cX13_postfix 71 = .ok (.iload 4, 2) := by decide +kernel
theorem dX13_postfix_73 : decode cX13_postfix 73 = .ok (.aload_n 0, 1) := by decide +kernel
theorem dX13_postfix_74 : decode cX13_postfix 74 = .ok (.getfield 376, 3) := by decide +kernel
theorem dX13_postfix_77 : decode cX13_postfix 77 = .ok (.iastore, 1) := by decide +kernel
theorem dX13_postfix_78 : decode cX13_postfix 78 = .ok (.aload_n 0, 1) := by decide +kernel
theorem dX13_postfix_79 : decode cX13_postfix 79 = .ok (.dup, 1) := by decide +kernel
theorem dX13_postfix_80 : decode cX13_postfix 80 = .ok (.getfield 376, 3) := by decide +kernel
theorem dX13_postfix_83 : decode cX13_postfix 83 = .ok (.iconst 1, 1) := by decide +kernel
theorem dX13_postfix_84 : decode cX13_postfix 84 = .ok (.iadd, 1) := by decide +kernel
theorem dX13_postfix_85 : decode cX13_postfix 85 = .ok (.putfield 376, 3) := by decide +kernel
theorem dX13_postfix_88 : decode cX13_postfix 88 = .ok (.aload_n 0, 1) := by decide +kernel
theorem dX13_postfix_89 : decode cX13_postfix 89 = .ok (.getfield 31, 3) := by decide +kernel
theorem dX13_postfix_92 : decode cX13_postfix 92 = .ok (.iload 4, 2) := by decide +kernel
theorem dX13_postfix_94 : decode cX13_postfix 94 = .ok (.aload_n 0, 1) := by decide +kernel
theorem dX13_postfix_95 : decode cX13_postfix 95 = .ok (.invokevirtual 403, 3) := by decide +kernel
theorem dX13_postfix_98 : decode cX13_postfix 98 = .ok (.iastore, 1) := by decide +kernel
theorem dX13_postfix_99 : decode cX13_postfix 99 = .ok (.aload_n 0, 1) := by decide +kernel
theorem dX13_postfix_100 : decode cX13_postfix 100 = .ok (.getfield 37, 3) := by decide +kernel
theorem dX13_postfix_103 : decode cX13_postfix 103 = .ok (.iload 4, 2) := by decide +kernel
theorem dX13_postfix_105 : decode cX13_postfix 105 = .ok (.iload_n 3, 1) := by decide +kernel
theorem dX13_postfix_106 : decode cX13_postfix 106 = .ok (.iastore, 1) := by decide +kernel
theorem dX13_postfix_107 : decode cX13_postfix 107 = .ok (.aload_n 0, 1) := by decide +kernel
theorem dX13_postfix_108 : decode cX13_postfix 108 = .ok (.getfield 319, 3) := by decide +kernel
theorem dX13_postfix_111 : decode cX13_postfix 111 = .ok (.ifCond .ne 89, 3) := by decide +kernel
theorem dX13_postfix_114 : decode cX13_postfix 114 = .ok (.aload_n 0, 1) := by decide +kernel
theorem dX13_postfix_115 : decode cX13_postfix 115 = .ok (.aload_n 0, 1) := by decide +kernel
theorem dX13_postfix_116 : decode cX13_postfix 116 = .ok (.getfield 376, 3) := by decide +kernel
theorem dX13_postfix_119 : decode cX13_postfix 119 = .ok (.bipush 40, 2) := by decide +kernel
theorem dX13_postfix_121 : decode cX13_postfix 121 = .ok (.invokevirtual 383, 3) := by decide +kernel
theorem dX13_postfix_124 : decode cX13_postfix 124 = .ok (.ifCond .eq 76, 3) := by decide +kernel
theorem dX13_postfix_127 : decode cX13_postfix 127 = .ok (.aload_n 0, 1) := by decide +kernel
theorem dX13_postfix_128 : decode cX13_postfix 128 = .ok (.getfield 28, 3) := by decide +kernel
theorem dX13_postfix_131 : decode cX13_postfix 131 = .ok (.iload 4, 2) := by decide +kernel
theorem dX13_postfix_133 : decode cX13_postfix 133 = .ok (.bipush 31, 2) := by decide +kernel
theorem dX13_postfix_135 : decode cX13_postfix 135 = .ok (.iastore, 1) := by decide +kernel
theorem dX13_postfix_136 : decode cX13_postfix 136 = .ok (.aload_n 0, 1) := by decide +kernel
theorem dX13_postfix_137 : decode cX13_postfix 137 = .ok (.getfield 40, 3) := by decide +kernel
theorem dX13_postfix_140 : decode cX13_postfix 140 = .ok (.iload 4, 2) := by decide +kernel
theorem dX13_postfix_142 : decode cX13_postfix 142 = .ok (.aload_n 0, 1) := by decide +kernel
theorem dX13_postfix_143 : decode cX13_postfix 143 = .ok (.iload_n 1, 1) := by decide +kernel
theorem dX13_postfix_144 : decode cX13_postfix 144 = .ok (.invokevirtual 471, 3) := by decide +kernel
theorem dX13_postfix_147 : decode cX13_postfix 147 = .ok (.iastore, 1) := by decide +kernel
theorem dX13_postfix_148 : decode cX13_postfix 148 = .ok (.goto 52, 3) := by decide +kernel
theorem dX13_postfix_151 : decode cX13_postfix 151 = .ok (.aload_n 0, 1) := by decide +kernel
theorem dX13_postfix_152 : decode cX13_postfix 152 = .ok (.bipush 32, 2) := by decide +kernel
theorem dX13_postfix_154 : decode cX13_postfix 154 = .ok (.aload_n 0, 1) := by decide +kernel
theorem dX13_postfix_155 : decode cX13_postfix 155 = .ok (.getfield 376, 3) := by decide +kernel
theorem dX13_postfix_158 : decode cX13_postfix 158 = .ok (.iload_n 2, 1) := by decide +kernel
theorem dX13_postfix_159 : decode cX13_postfix 159 = .ok (.invokevirtual 430, 3) := by decide +kernel
theorem dX13_postfix_162 : decode cX13_postfix 162 = .ok (.istore 4, 2) := by decide +kernel
theorem dX13_postfix_164 : decode cX13_postfix 164 = .ok (.aload_n 0, 1) := by decide +kernel
theorem dX13_postfix_165 : decode cX13_postfix 165 = .ok (.dup, 1) := by decide +kernel
theorem dX13_postfix_166 : decode cX13_postfix 166 = .ok (.getfield 376, 3) := by decide +kernel
theorem dX13_postfix_169 : decode cX13_postfix 169 = .ok (.iconst 1, 1) := by decide +kernel
theorem dX13_postfix_170 : decode cX13_postfix 170 = .ok (.iadd, 1) := by decide +kernel
theorem dX13_postfix_171 : decode cX13_postfix 171 = .ok (.putfield 376, 3) := by decide +kernel
theorem dX13_postfix_174 : decode cX13_postfix 174 = .ok (.aload_n 0, 1) := by decide +kernel
theorem dX13_postfix_175 : decode cX13_postfix 175 = .ok (.getfield 37, 3) := by decide +kernel
theorem dX13_postfix_178 : decode cX13_postfix 178 = .ok (.iload 4, 2) := by decide +kernel
theorem dX13_postfix_180 : decode cX13_postfix 180 = .ok (.iload_n 3, 1) := by decide +kernel
theorem dX13_postfix_181 : decode cX13_postfix 181 = .ok (.iastore, 1) := by decide +kernel
theorem dX13_postfix_182 : decode cX13_postfix 182 = .ok (.aload_n 0, 1) := by decide +kernel
theorem dX13_postfix_183 : decode cX13_postfix 183 = .ok (.getfield 40, 3) := by decide +kernel
theorem dX13_postfix_186 : decode cX13_postfix 186 = .ok (.iload 4, 2) := by decide +kernel
theorem dX13_postfix_188 : decode cX13_postfix 188 = .ok (.aload_n 0, 1) := by decide +kernel
theorem dX13_postfix_189 : decode cX13_postfix 189 = .ok (.iload_n 1, 1) := by decide +kernel
theorem dX13_postfix_190 : decode cX13_postfix 190 = .ok (.invokevirtual 444, 3) := by decide +kernel
theorem dX13_postfix_193 : decode cX13_postfix 193 = .ok (.iastore, 1) := by decide +kernel
theorem dX13_postfix_194 : decode cX13_postfix 194 = .ok (.aload_n 0, 1) := by decide +kernel
theorem dX13_postfix_195 : decode cX13_postfix 195 = .ok (.bipush 93, 2) := by decide +kernel
theorem dX13_postfix_197 : decode cX13_postfix 197 = .ok (.invokevirtual 406, 3) := by decide +kernel
theorem dX13_postfix_200 : decode cX13_postfix 200 = .ok (.iload 4, 2) := by decide +kernel
theorem dX13_postfix_202 : decode cX13_postfix 202 = .ok (.istore_n 3, 1) := by decide +kernel
theorem dX13_postfix_203 : decode cX13_postfix 203 = .ok (.goto (-192), 3) := by decide +kernel
theorem dX13_postfix_206 : decode cX13_postfix 206 = .ok (.iload_n 3, 1) := by decide +kernel
theorem dX13_postfix_207 : decode cX13_postfix 207 = .ok (.ireturn, 1) := by decide +kernel
theorem dX13_primary_0 : decode cX13_primary 0 = .ok (.aload_n 0, 1) := by decide +kernel
theorem dX13_primary_1 : decode cX13_primary 1 = .ok (.getfield 376, 3) := by decide +kernel
theorem dX13_primary_4 : decode cX13_primary 4 = .ok (.istore_n 2, 1) := by decide +kernel
theorem dX13_primary_5 : decode cX13_primary 5 = .ok (.aload_n 0, 1) := by decide +kernel
theorem dX13_primary_6 : decode cX13_primary 6 = .ok (.getfield 16, 3) := by decide +kernel
theorem dX13_primary_9 : decode cX13_primary 9 = .ok (.aload_n 0, 1) := by decide +kernel
theorem dX13_primary_10 : decode cX13_primary 10 = .ok (.getfield 376, 3) := by decide +kernel
theorem dX13_primary_13 : decode cX13_primary 13 = .ok (.iaload, 1) := by decide +kernel
theorem dX13_primary_14 : decode cX13_primary 14 = .ok (.iconst 2, 1) := by decide +kernel
theorem dX13_primary_15 : decode cX13_primary 15 = .ok (.if_icmp .ne 22, 3) := by decide +kernel
theorem dX13_primary_18 : decode cX13_primary 18 = .ok (.aload_n 0, 1) := by decide +kernel
theorem dX13_primary_19 : decode cX13_primary 19 = .ok (.dup, 1) := by decide +kernel
theorem dX13_primary_20 : decode cX13_primary 20 = .ok (.getfield 376, 3) := by decide +kernel
theorem dX13_primary_23 : decode cX13_primary 23 = .ok (.iconst 1, 1) := by decide +kernel
theorem dX13_primary_24 : decode cX13_primary 24 = .ok (.iadd, 1) := by decide +kernel
theorem dX13_primary_25 : decode cX13_primary 25 = .ok (.putfield 376, 3) := by decide +kernel
theorem dX13_primary_28 : decode cX13_primary 28 = .ok (.aload_n 0, 1) := by decide +kernel
theorem dX13_primary_29 : decode cX13_primary 29 = .ok (.bipush 20, 2) := by decide +kernel
theorem dX13_primary_31 : decode cX13_primary 31 = .ok (.iload_n 2, 1) := by decide +kernel
theorem dX13_primary_32 : decode cX13_primary 32 = .ok (.iload_n 2, 1) := by decide +kernel
theorem dX13_primary_33 : decode cX13_primary 33 = .ok (.invokevirtual 430, 3) := by decide +kernel
theorem dX13_primary_36 : decode cX13_primary 36 = .ok (.ireturn, 1) := by decide +kernel
theorem dX13_primary_37 : decode cX13_primary 37 = .ok (.aload_n 0, 1) := by decide +kernel
theorem dX13_primary_38 : decode cX13_primary 38 = .ok (.getfield 16, 3) := by decide +kernel
theorem dX13_primary_41 : decode cX13_primary 41 = .ok (.aload_n 0, 1) := by decide +kernel
theorem dX13_primary_42 : decode cX13_primary 42 = .ok (.getfield 376, 3) := by decide +kernel
theorem dX13_primary_45 : decode cX13_primary 45 = .ok (.iaload, 1) := by decide +kernel
theorem dX13_primary_46 : decode cX13_primary 46 = .ok (.iconst 1, 1) := by decide +kernel
theorem dX13_primary_47 : decode cX13_primary 47 = .ok (.if_icmp .ne 56, 3) := by decide +kernel
theorem dX13_primary_50 : decode cX13_primary 50 = .ok (.aload_n 0, 1) := by decide +kernel
theorem dX13_primary_51 : decode cX13_primary 51 = .ok (.dup, 1) := by decide +kernel
theorem dX13_primary_52 : decode cX13_primary 52 = .ok (.getfield 376, 3) := by decide +kernel
theorem dX13_primary_55 : decode cX13_primary 55 = .ok (.iconst 1, 1) := by decide +kernel
theorem dX13_primary_56 : decode cX13_primary 56 = .ok (.iadd, 1) := by decide +kernel
theorem dX13_primary_57 : decode cX13_primary 57 = .ok (.putfield 376, 3) := by decide +kernel
theorem dX13_primary_60 : decode cX13_primary 60 = .ok (.aload_n 0, 1) := by decide +kernel
theorem dX13_primary_61 : decode cX13_primary 61 = .ok (.bipush 25, 2) := by decide +kernel
theorem dX13_primary_63 : decode cX13_primary 63 = .ok (.iload_n 2, 1) := by decide +kernel
theorem dX13_primary_64 : decode cX13_primary 64 = .ok (.iload_n 2, 1) := by decide +kernel
theorem dX13_primary_65 : decode cX13_primary 65 = .ok (.invokevirtual 430, 3) := by decide +kernel
theorem dX13_primary_68 : decode cX13_primary 68 = .ok (.istore_n 3, 1) := by decide +kernel
theorem dX13_primary_69 : decode cX13_primary 69 = .ok (.aload_n 0, 1) := by decide +kernel
theorem dX13_primary_70 : decode cX13_primary 70 = .ok (.aload_n 0, 1) := by decide +kernel
theorem dX13_primary_71 : decode cX13_primary 71 = .ok (.getfield 376, 3) := by decide +kernel
theorem dX13_primary_74 : decode cX13_primary 74 = .ok (.bipush 40, 2) := by decide +kernel
theorem dX13_primary_76 : decode cX13_primary 76 = .ok (.invokevirtual 383, 3) := by decide +kernel
theorem dX13_primary_79 : decode cX13_primary 79 = .ok (.ifCond .eq 22, 3) := by decide +kernel
theorem dX13_primary_82 : decode cX13_primary 82 = .ok (.aload_n 0, 1) := by decide +kernel
theorem dX13_primary_83 : decode cX13_primary 83 = .ok (.getfield 28, 3) := by decide +kernel
theorem dX13_primary_86 : decode cX13_primary 86 = .ok (.iload_n 3, 1) := by decide +kernel
theorem dX13_primary_87 : decode cX13_primary 87 = .ok (.bipush 26, 2) := by decide +kernel
theorem dX13_primary_89 : decode cX13_primary 89 = .ok (.iastore, 1) := by decide +kernel
theorem dX13_primary_90 : decode cX13_primary 90 = .ok (.aload_n 0, 1) := by decide +kernel
theorem dX13_primary_91 : decode cX13_primary 91 = .ok (.getfield 40, 3) := by decide +kernel
theorem dX13_primary_94 : decode cX13_primary 94 = .ok (.iload_n 3, 1) := by decide +kernel
theorem dX13_primary_95 : decode cX13_primary 95 = .ok (.aload_n 0, 1) := by decide +kernel
theorem dX13_primary_96 : decode cX13_primary 96 = .ok (.iload_n 1, 1) := by decide +kernel
theorem dX13_primary_97 : decode cX13_primary 97 = .ok (.invokevirtual 471, 3) := by decide +kernel
theorem dX13_primary_100 : decode cX13_primary 100 = .ok (.iastore, 1) := by decide +kernel
theorem dX13_primary_101 : decode cX13_primary 101 = .ok (.iload_n 3, 1) := by decide +kernel
theorem dX13_primary_102 : decode cX13_primary 102 = .ok (.ireturn, 1) := by decide +kernel
theorem dX13_primary_103 : decode cX13_primary 103 = .ok (.aload_n 0, 1) := by decide +kernel
theorem dX13_primary_104 : decode cX13_primary 104 = .ok (.aload_n 0, 1) := by decide +kernel
theorem dX13_primary_105 : decode cX13_primary 105 = .ok (.getfield 376, 3) := by decide +kernel
theorem dX13_primary_108 : decode cX13_primary 108 = .ok (.bipush 40, 2) := by decide +kernel
theorem dX13_primary_110 : decode cX13_primary 110 = .ok (.invokevirtual 383, 3) := by decide +kernel
theorem dX13_primary_113 : decode cX13_primary 113 = .ok (.ifCond .eq 50, 3) := by decide +kernel
theorem dX13_primary_116 : decode cX13_primary 116 = .ok (.aload_n 0, 1) := by decide +kernel
theorem dX13_primary_117 : decode cX13_primary 117 = .ok (.dup, 1) := by decide +kernel
theorem dX13_primary_118 : decode cX13_primary 118 = .ok (.getfield 376, 3) := by decide +kernel
theorem dX13_primary_121 : decode cX13_primary 121 = .ok (.iconst 1, 1) := by decide +kernel
theorem dX13_primary_122 : decode cX13_primary 122 = .ok (.iadd, 1) := by decide +kernel
theorem dX13_primary_123 : decode cX13_primary 123 = .ok (.putfield 376, 3) := by decide +kernel
theorem dX13_primary_126 : decode cX13_primary 126 = .ok (.aload_n 0, 1) := by decide +kernel
theorem dX13_primary_127 : decode cX13_primary 127 = .ok (.iload_n 1, 1) := by decide +kernel
theorem dX13_primary_128 : decode cX13_primary 128 = .ok (.invokevirtual 444, 3) := by decide +kernel
theorem dX13_primary_131 : decode cX13_primary 131 = .ok (.istore_n 3, 1) := by decide +kernel
theorem dX13_primary_132 : decode cX13_primary 132 = .ok (.aload_n 0, 1) := by decide +kernel
theorem dX13_primary_133 : decode cX13_primary 133 = .ok (.bipush 41, 2) := by decide +kernel
theorem dX13_primary_135 : decode cX13_primary 135 = .ok (.invokevirtual 406, 3) := by decide +kernel
theorem dX13_primary_138 : decode cX13_primary 138 = .ok (.aload_n 0, 1) := by decide +kernel
theorem dX13_primary_139 : decode cX13_primary 139 = .ok (.getfield 319, 3) := by decide +kernel
theorem dX13_primary_142 : decode cX13_primary 142 = .ok (.ifCond .eq 5, 3) := by decide +kernel
theorem dX13_primary_145 : decode cX13_primary 145 = .ok (.iconst (-1), 1) := by decide +kernel
theorem dX13_primary_146 : decode cX13_primary 146 = .ok (.ireturn, 1) := by decide +kernel
theorem dX13_primary_147 : decode cX13_primary 147 = .ok (.aload_n 0, 1) := by decide +kernel
theorem dX13_primary_148 : decode cX13_primary 148 = .ok (.getfield 34, 3) := by decide +kernel
theorem dX13_primary_151 : decode cX13_primary 151 = .ok (.iload_n 3, 1) := by decide +kernel
theorem dX13_primary_152 : decode cX13_primary 152 = .ok (.iload_n 2, 1) := by decide +kernel
theorem dX13_primary_153 : decode cX13_primary 153 = .ok (.iastore, 1) := by decide +kernel
theorem dX13_primary_154 : decode cX13_primary 154 = .ok (.aload_n 0, 1) := by decide +kernel
theorem dX13_primary_155 : decode cX13_primary 155 = .ok (.getfield 58, 3) := by decide +kernel
theorem dX13_primary_158 : decode cX13_primary 158 = .ok (.iload_n 3, 1) := by decide +kernel
theorem dX13_primary_159 : decode cX13_primary 159 = .ok (.iconst 1, 1) := by decide +kernel
theorem dX13_primary_160 : decode cX13_primary 160 = .ok (.bastore, 1) := by decide +kernel
theorem dX13_primary_161 : decode cX13_primary 161 = .ok (.iload_n 3, 1) := by decide +kernel
theorem dX13_primary_162 : decode cX13_primary 162 = .ok (.ireturn, 1) := by decide +kernel
theorem dX13_primary_163 : decode cX13_primary 163 = .ok (.aload_n 0, 1) := by decide +kernel
theorem dX13_primary_164 : decode cX13_primary 164 = .ok (.getfield 16, 3) := by decide +kernel
theorem dX13_primary_167 : decode cX13_primary 167 = .ok (.aload_n 0, 1) := by decide +kernel
theorem dX13_primary_168 : decode cX13_primary 168 = .ok (.getfield 376, 3) := by decide +kernel
theorem dX13_primary_171 : decode cX13_primary 171 = .ok (.iaload, 1) := by decide +kernel
theorem dX13_primary_172 : decode cX13_primary 172 = .ok (.iconst 3, 1) := by decide +kernel
theorem dX13_primary_173 : decode cX13_primary 173 = .ok (.if_icmp .ne 110, 3) := by decide +kernel
theorem dX13_primary_176 : decode cX13_primary 176 = .ok (.aload_n 0, 1) := by decide +kernel
theorem dX13_primary_177 : decode cX13_primary 177 = .ok (.getfield 25, 3) := by decide +kernel
theorem dX13_primary_180 : decode cX13_primary 180 = .ok (.aload_n 0, 1) := by decide +kernel
theorem dX13_primary_181 : decode cX13_primary 181 = .ok (.getfield 376, 3) := by decide +kernel
theorem dX13_primary_184 : decode cX13_primary 184 = .ok (.iaload, 1) := by decide +kernel
theorem dX13_primary_185 : decode cX13_primary 185 = .ok (.istore 4, 2) := by decide +kernel
theorem dX13_primary_187 : decode cX13_primary 187 = .ok (.iload 4, 2) := by decide +kernel
theorem dX13_primary_189 : decode cX13_primary 189 = .ok (.bipush 18, 2) := by decide +kernel
theorem dX13_primary_191 : decode cX13_primary 191 = .ok (.if_icmp .eq 24, 3) := by decide +kernel
theorem dX13_primary_194 : decode cX13_primary 194 = .ok (.iload 4, 2) := by decide +kernel
theorem dX13_primary_196 : decode cX13_primary 196 = .ok (.bipush 7, 2) := by decide +kernel
theorem dX13_primary_198 : decode cX13_primary 198 = .ok (.if_icmp .eq 17, 3) := by decide +kernel
theorem dX13_primary_201 : decode cX13_primary 201 = .ok (.iload 4, 2) := by decide +kernel
theorem dX13_primary_203 : decode cX13_primary 203 = .ok (.bipush 12, 2) := by decide +kernel
theorem dX13_primary_205 : decode cX13_primary 205 = .ok (.if_icmp .eq 10, 3) := by decide +kernel
theorem dX13_primary_208 : decode cX13_primary 208 = .ok (.iload 4, 2) := by decide +kernel
theorem dX13_primary_210 : decode cX13_primary 210 = .ok (.bipush 16, 2) := by decide +kernel
theorem dX13_primary_212 : decode cX13_primary 212 = .ok (.if_icmp .ne 58, 3) := by decide +kernel
theorem dX13_primary_215 : decode cX13_primary 215 = .ok (.aload_n 0, 1) := by decide +kernel
theorem dX13_primary_216 : decode cX13_primary 216 = .ok (.dup, 1) := by decide +kernel
theorem dX13_primary_217 : decode cX13_primary 217 = .ok (.getfield 376, 3) := by decide +kernel
theorem dX13_primary_220 : decode cX13_primary 220 = .ok (.iconst 1, 1) := by decide +kernel
theorem dX13_primary_221 : decode cX13_primary 221 = .ok (.iadd, 1) := by decide +kernel
theorem dX13_primary_222 : decode cX13_primary 222 = .ok (.putfield 376, 3) := by decide +kernel
theorem dX13_primary_225 : decode cX13_primary 225 = .ok (.aload_n 0, 1) := by decide +kernel
theorem dX13_primary_226 : decode cX13_primary 226 = .ok (.iload 4, 2) := by decide +kernel
theorem dX13_primary_228 : decode cX13_primary 228 = .ok (.bipush 18, 2) := by decide +kernel
theorem dX13_primary_230 : decode cX13_primary 230 = .ok (.if_icmp .ne 8, 3) := by decide +kernel
theorem dX13_primary_233 : decode cX13_primary 233 = .ok (.bipush 21, 2) := by decide +kernel
theorem dX13_primary_235 : decode cX13_primary 235 = .ok (.goto 29, 3) := by decide +kernel
theorem dX13_primary_238 : decode cX13_primary 238 = .ok (.iload 4, 2) := by decide +kernel
theorem dX13_primary_240 : decode cX13_primary 240 = .ok (.bipush 7, 2) := by decide +kernel
theorem dX13_primary_242 : decode cX13_primary 242 = .ok (.if_icmp .ne 8, 3) := by decide +kernel
theorem dX13_primary_245 : decode cX13_primary 245 = .ok (.bipush 22, 2) := by decide +kernel
theorem dX13_primary_247 : decode cX13_primary 247 = .ok (.goto 17, 3) := by decide +kernel
theorem dX13_primary_250 : decode cX13_primary 250 = .ok (.iload 4, 2) := by decide +kernel
theorem dX13_primary_252 : decode cX13_primary 252 = .ok (.bipush 12, 2) := by decide +kernel
theorem dX13_primary_254 : decode cX13_primary 254 = .ok (.if_icmp .ne 8, 3) := by decide +kernel
theorem dX13_primary_257 : decode cX13_primary 257 = .ok (.bipush 23, 2) := by decide +kernel
theorem dX13_primary_259 : decode cX13_primary 259 = .ok (.goto 5, 3) := by decide +kernel
theorem dX13_primary_262 : decode cX13_primary 262 = .ok (.bipush 24, 2) := by decide +kernel
theorem dX13_primary_264 : decode cX13_primary 264 = .ok (.iload_n 2, 1) := by decide +kernel
theorem dX13_primary_265 : decode cX13_primary 265 = .ok (.iload_n 2, 1) := by decide +kernel
theorem dX13_primary_266 : decode cX13_primary 266 = .ok (.invokevirtual 430, 3) := by decide +kernel
theorem dX13_primary_269 : decode cX13_primary 269 = .ok (.ireturn, 1) := by decide +kernel
theorem dX13_primary_270 : decode cX13_primary 270 = .ok (.iload 4, 2) := by decide +kernel
theorem dX13_primary_272 : decode cX13_primary 272 = .ok (.bipush 11, 2) := by decide +kernel
theorem dX13_primary_274 : decode cX13_primary 274 = .ok (.if_icmp .ne 9, 3) := by decide +kernel
theorem dX13_primary_277 : decode cX13_primary 277 = .ok (.aload_n 0, 1) := by decide +kernel
theorem dX13_primary_278 : decode cX13_primary 278 = .ok (.iload_n 1, 1) := by decide +kernel
theorem dX13_primary_279 : decode cX13_primary 279 = .ok (.invokevirtual 474, 3) := by decide +kernel
theorem dX13_primary_282 : decode cX13_primary 282 = .ok (.ireturn, 1) := by decide +kernel
theorem dX13_primary_283 : decode cX13_primary 283 = .ok (.aload_n 0, 1) := by decide +kernel
theorem dX13_primary_284 : decode cX13_primary 284 = .ok (.invokevirtual 387, 3) := by decide +kernel
theorem dX13_primary_287 : decode cX13_primary 287 = .ok (.iconst (-1), 1) := by decide +kernel
theorem dX13_primary_288 : decode cX13_primary 288 = .ok (.ireturn, 1) := by decide +kernel
theorem dX13_sides_0 : decode cX13_sides 0 = .ok (.aload_n 0, 1) := by decide +kernel
theorem dX13_sides_1 : decode cX13_sides 1 = .ok (.getfield 376, 3) := by decide +kernel
theorem dX13_sides_4 : decode cX13_sides 4 = .ok (.istore_n 3, 1) := by decide +kernel
theorem dX13_sides_5 : decode cX13_sides 5 = .ok (.aload_n 0, 1) := by decide +kernel
theorem dX13_sides_6 : decode cX13_sides 6 = .ok (.iload_n 2, 1) := by decide +kernel
theorem dX13_sides_7 : decode cX13_sides 7 = .ok (.invokevirtual 456, 3) := by decide +kernel
theorem dX13_sides_10 : decode cX13_sides 10 = .ok (.istore 4, 2) := by decide +kernel
theorem dX13_sides_12 : decode cX13_sides 12 = .ok (.aload_n 0, 1) := by decide +kernel
theorem dX13_sides_13 : decode cX13_sides 13 = .ok (.getfield 319, 3) := by decide +kernel
theorem dX13_sides_16 : decode cX13_sides 16 = .ok (.ifCond .ne 14, 3) := by decide +kernel
theorem dX13_sides_19 : decode cX13_sides 19 = .ok (.aload_n 0, 1) := by decide +kernel
theorem dX13_sides_20 : decode cX13_sides 20 = .ok (.aload_n 0, 1) := by decide +kernel
theorem dX13_sides_21 : decode cX13_sides 21 = .ok (.getfield 376, 3) := by decide +kernel
theorem dX13_sides_24 : decode cX13_sides 24 = .ok (.invokevirtual 459, 3) := by decide +kernel
theorem dX13_sides_27 : decode cX13_sides 27 = .ok (.goto 4, 3) := by decide +kernel
theorem dX13_sides_30 : decode cX13_sides 30 = .ok (.iconst (-1), 1) := by decide +kernel
theorem dX13_sides_31 : decode cX13_sides 31 = .ok (.istore 5, 2) := by decide +kernel
theorem dX13_sides_33 : decode cX13_sides 33 = .ok (.bipush 9, 2) := by decide +kernel
theorem dX13_sides_35 : decode cX13_sides 35 = .ok (.istore 6, 2) := by decide +kernel
theorem dX13_sides_37 : decode cX13_sides 37 = .ok (.aload_n 0, 1) := by decide +kernel
theorem dX13_sides_38 : decode cX13_sides 38 = .ok (.getfield 319, 3) := by decide +kernel
theorem dX13_sides_41 : decode cX13_sides 41 = .ok (.ifCond .ne 140, 3) := by decide +kernel
theorem dX13_sides_44 : decode cX13_sides 44 = .ok (.iload 5, 2) := by decide +kernel
theorem dX13_sides_46 : decode cX13_sides 46 = .ok (.iload_n 1, 1) := by decide +kernel
theorem dX13_sides_47 : decode cX13_sides 47 = .ok (.if_icmp .lt 134, 3) := by decide +kernel
theorem dX13_sides_50 : decode cX13_sides 50 = .ok (.iload 5, 2) := by decide +kernel
theorem dX13_sides_52 : decode cX13_sides 52 = .ok (.iload 6, 2) := by decide +kernel
theorem dX13_sides_54 : decode cX13_sides 54 = .ok (.if_icmp .gt 127, 3) := by decide +kernel
theorem dX13_sides_57 : decode cX13_sides 57 = .ok (.aload_n 0, 1) := by decide +kernel
theorem dX13_sides_58 : decode cX13_sides 58 = .ok (.getfield 376, 3) := by decide +kernel
theorem dX13_sides_61 : decode cX13_sides 61 = .ok (.istore 7, 2) := by decide +kernel
theorem dX13_sides_63 : decode cX13_sides 63 = .ok (.iload 5, 2) := by decide +kernel
theorem dX13_sides_65 : decode cX13_sides 65 = .ok (.istore 6, 2) := by decide +kernel
theorem dX13_sides_67 : decode cX13_sides 67 = .ok (.aload_n 0, 1) := by decide +kernel
theorem dX13_sides_68 : decode cX13_sides 68 = .ok (.dup, 1) := by decide +kernel
theorem dX13_sides_69 : decode cX13_sides 69 = .ok (.getfield 376, 3) := by decide +kernel
theorem dX13_sides_72 : decode cX13_sides 72 = .ok (.iconst 1, 1) := by decide +kernel
theorem dX13_sides_73 : decode cX13_sides 73 = .ok (.iadd, 1) := by decide +kernel
theorem dX13_sides_74 : decode cX13_sides 74 = .ok (.putfield 376, 3) := by decide +kernel
theorem dX13_sides_77 : decode cX13_sides 77 = .ok (.aload_n 0, 1) := by decide +kernel
theorem dX13_sides_78 : decode cX13_sides 78 = .ok (.iload 7, 2) := by decide +kernel
theorem dX13_sides_80 : decode cX13_sides 80 = .ok (.bipush 9, 2) := by decide +kernel
theorem dX13_sides_82 : decode cX13_sides 82 = .ok (.invokevirtual 390, 3) := by decide +kernel
theorem dX13_sides_85 : decode cX13_sides 85 = .ok (.ifCond .eq 32, 3) := by decide +kernel
theorem dX13_sides_88 : decode cX13_sides 88 = .ok (.aload_n 0, 1) := by decide +kernel
theorem dX13_sides_89 : decode cX13_sides 89 = .ok (.bipush 38, 2) := by decide +kernel
theorem dX13_sides_91 : decode cX13_sides 91 = .ok (.aload_n 0, 1) := by decide +kernel
theorem dX13_sides_92 : decode cX13_sides 92 = .ok (.invokevirtual 403, 3) := by decide +kernel
theorem dX13_sides_95 : decode cX13_sides 95 = .ok (.iload_n 3, 1) := by decide +kernel
theorem dX13_sides_96 : decode cX13_sides 96 = .ok (.invokevirtual 430, 3) := by decide +kernel
theorem dX13_sides_99 : decode cX13_sides 99 = .ok (.istore 8, 2) := by decide +kernel
theorem dX13_sides_101 : decode cX13_sides 101 = .ok (.aload_n 0, 1) := by decide +kernel
theorem dX13_sides_102 : decode cX13_sides 102 = .ok (.getfield 37, 3) := by decide +kernel
theorem dX13_sides_105 : decode cX13_sides 105 = .ok (.iload 8, 2) := by decide +kernel
theorem dX13_sides_107 : decode cX13_sides 107 = .ok (.iload 4, 2) := by decide +kernel
theorem dX13_sides_109 : decode cX13_sides 109 = .ok (.iastore, 1) := by decide +kernel
theorem dX13_sides_110 : decode cX13_sides 110 = .ok (.iload 8, 2) := by decide +kernel
theorem dX13_sides_112 : decode cX13_sides 112 = .ok (.istore 4, 2) := by decide +kernel
theorem dX13_sides_114 : decode cX13_sides 114 = .ok (.goto 43, 3) := by decide +kernel
theorem dX13_sides_117 : decode cX13_sides 117 = .ok (.aload_n 0, 1) := by decide +kernel
theorem dX13_sides_118 : decode cX13_sides 118 = .ok (.bipush 37, 2) := by decide +kernel
theorem dX13_sides_120 : decode cX13_sides 120 = .ok (.iload 7, 2) := by decide +kernel
theorem dX13_sides_122 : decode cX13_sides 122 = .ok (.iload_n 3, 1) := by decide +kernel
theorem dX13_sides_123 : decode cX13_sides 123 = .ok (.invokevirtual 430, 3) := by decide +kernel
theorem dX13_sides_126 : decode cX13_sides 126 = .ok (.istore 8, 2) := by decide +kernel
theorem dX13_sides_128 : decode cX13_sides 128 = .ok (.aload_n 0, 1) := by decide +kernel
theorem dX13_sides_129 : decode cX13_sides 129 = .ok (.getfield 37, 3) := by decide +kernel
theorem dX13_sides_132 : decode cX13_sides 132 = .ok (.iload 8, 2) := by decide +kernel
theorem dX13_sides_134 : decode cX13_sides 134 = .ok (.iload 4, 2) := by decide +kernel
theorem dX13_sides_136 : decode cX13_sides 136 = .ok (.iastore, 1) := by decide +kernel
theorem dX13_sides_137 : decode cX13_sides 137 = .ok (.aload_n 0, 1) := by decide +kernel
theorem dX13_sides_138 : decode cX13_sides 138 = .ok (.getfield 40, 3) := by decide +kernel
theorem dX13_sides_141 : decode cX13_sides 141 = .ok (.iload 8, 2) := by decide +kernel
theorem dX13_sides_143 : decode cX13_sides 143 = .ok (.aload_n 0, 1) := by decide +kernel
theorem dX13_sides_144 : decode cX13_sides 144 = .ok (.iload 5, 2) := by decide +kernel
theorem dX13_sides_146 : decode cX13_sides 146 = .ok (.iconst 1, 1) := by decide +kernel
theorem dX13_sides_147 : decode cX13_sides 147 = .ok (.iadd, 1) := by decide +kernel
theorem dX13_sides_148 : decode cX13_sides 148 = .ok (.iload_n 2, 1) := by decide +kernel
theorem dX13_sides_149 : decode cX13_sides 149 = .ok (.invokevirtual 450, 3) := by decide +kernel
theorem dX13_sides_152 : decode cX13_sides 152 = .ok (.iastore, 1) := by decide +kernel
theorem dX13_sides_153 : decode cX13_sides 153 = .ok (.iload 8, 2) := by decide +kernel
theorem dX13_sides_155 : decode cX13_sides 155 = .ok (.istore 4, 2) := by decide +kernel
theorem dX13_sides_157 : decode cX13_sides 157 = .ok (.aload_n 0, 1) := by decide +kernel
theorem dX13_sides_158 : decode cX13_sides 158 = .ok (.getfield 319, 3) := by decide +kernel
theorem dX13_sides_161 : decode cX13_sides 161 = .ok (.ifCond .ne 14, 3) := by decide +kernel
theorem dX13_sides_164 : decode cX13_sides 164 = .ok (.aload_n 0, 1) := by decide +kernel
theorem dX13_sides_165 : decode cX13_sides 165 = .ok (.aload_n 0, 1) := by decide +kernel
theorem dX13_sides_166 : decode cX13_sides 166 = .ok (.getfield 376, 3) := by decide +kernel
theorem dX13_sides_169 : decode cX13_sides 169 = .ok (.invokevirtual 459, 3) := by decide +kernel
theorem dX13_sides_172 : decode cX13_sides 172 = .ok (.goto 4, 3) := by decide +kernel
theorem dX13_sides_175 : decode cX13_sides 175 = .ok (.iconst (-1), 1) := by decide +kernel
theorem dX13_sides_176 : decode cX13_sides 176 = .ok (.istore 5, 2) := by decide +kernel
theorem dX13_sides_178 : decode cX13_sides 178 = .ok (.goto (-141), 3) := by decide +kernel
theorem dX13_sides_181 : decode cX13_sides 181 = .ok (.iload 4, 2) := by decide +kernel
theorem dX13_sides_183 : decode cX13_sides 183 = .ok (.ireturn, 1) := by decide +kernel
theorem dX13_unary_0 : decode cX13_unary 0 = .ok (.aload_n 0, 1) := by decide +kernel
theorem dX13_unary_1 : decode cX13_unary 1 = .ok (.getfield 319, 3) := by decide +kernel
theorem dX13_unary_4 : decode cX13_unary 4 = .ok (.ifCond .eq 5, 3) := by decide +kernel
theorem dX13_unary_7 : decode cX13_unary 7 = .ok (.iconst (-1), 1) := by decide +kernel
theorem dX13_unary_8 : decode cX13_unary 8 = .ok (.ireturn, 1) := by decide +kernel
theorem dX13_unary_9 : decode cX13_unary 9 = .ok (.aload_n 0, 1) := by decide +kernel
theorem dX13_unary_10 : decode cX13_unary 10 = .ok (.invokevirtual 462, 3) := by decide +kernel
theorem dX13_unary_13 : decode cX13_unary 13 = .ok (.istore_n 2, 1) := by decide +kernel
theorem dX13_unary_14 : decode cX13_unary 14 = .ok (.aload_n 0, 1) := by decide +kernel
theorem dX13_unary_15 : decode cX13_unary 15 = .ok (.aload_n 0, 1) := by decide +kernel
theorem dX13_unary_16 : decode cX13_unary 16 = .ok (.getfield 376, 3) := by decide +kernel
theorem dX13_unary_19 : decode cX13_unary 19 = .ok (.bipush 45, 2) := by decide +kernel
theorem dX13_unary_21 : decode cX13_unary 21 = .ok (.invokevirtual 383, 3) := by decide +kernel
theorem dX13_unary_24 : decode cX13_unary 24 = .ok (.ifCond .eq 8, 3) := by decide +kernel
theorem dX13_unary_27 : decode cX13_unary 27 = .ok (.bipush 33, 2) := by decide +kernel
theorem dX13_unary_29 : decode cX13_unary 29 = .ok (.goto 49, 3) := by decide +kernel
theorem dX13_unary_32 : decode cX13_unary 32 = .ok (.aload_n 0, 1) := by decide +kernel
theorem dX13_unary_33 : decode cX13_unary 33 = .ok (.aload_n 0, 1) := by decide +kernel
theorem dX13_unary_34 : decode cX13_unary 34 = .ok (.getfield 376, 3) := by decide +kernel
theorem dX13_unary_37 : decode cX13_unary 37 = .ok (.bipush 33, 2) := by decide +kernel
theorem dX13_unary_39 : decode cX13_unary 39 = .ok (.invokevirtual 383, 3) := by decide +kernel
theorem dX13_unary_42 : decode cX13_unary 42 = .ok (.ifCond .eq 8, 3) := by decide +kernel
theorem dX13_unary_45 : decode cX13_unary 45 = .ok (.bipush 34, 2) := by decide +kernel
theorem dX13_unary_47 : decode cX13_unary 47 = .ok (.goto 31, 3) := by decide +kernel
theorem dX13_unary_50 : decode cX13_unary 50 = .ok (.aload_n 0, 1) := by decide +kernel
theorem dX13_unary_51 : decode cX13_unary 51 = .ok (.aload_n 0, 1) := by decide +kernel
theorem dX13_unary_52 : decode cX13_unary 52 = .ok (.getfield 376, 3) := by decide +kernel
theorem dX13_unary_55 : decode cX13_unary 55 = .ok (.bipush 126, 2) := by decide +kernel
theorem dX13_unary_57 : decode cX13_unary 57 = .ok (.invokevirtual 383, 3) := by decide +kernel
theorem dX13_unary_60 : decode cX13_unary 60 = .ok (.ifCond .eq 8, 3) := by decide +kernel
theorem dX13_unary_63 : decode cX13_unary 63 = .ok (.bipush 35, 2) := by decide +kernel
theorem dX13_unary_65 : decode cX13_unary 65 = .ok (.goto 13, 3) := by decide +kernel
theorem dX13_unary_68 : decode cX13_unary 68 = .ok (.iload_n 2, 1) := by decide +kernel
theorem dX13_unary_69 : decode cX13_unary 69 = .ok (.ifCond .eq 8, 3) := by decide +kernel
theorem dX13_unary_72 : decode cX13_unary 72 = .ok (.bipush 36, 2) := by decide +kernel
theorem dX13_unary_74 : decode cX13_unary 74 = .ok (.goto 4, 3) := by decide +kernel
theorem dX13_unary_77 : decode cX13_unary 77 = .ok (.iconst 0, 1) := by decide +kernel
theorem dX13_unary_78 : decode cX13_unary 78 = .ok (.istore_n 3, 1) := by decide +kernel
theorem dX13_unary_79 : decode cX13_unary 79 = .ok (.iload_n 3, 1) := by decide +kernel
theorem dX13_unary_80 : decode cX13_unary 80 = .ok (.ifCond .ne 9, 3) := by decide +kernel
theorem dX13_unary_83 : decode cX13_unary 83 = .ok (.aload_n 0, 1) := by decide +kernel
theorem dX13_unary_84 : decode cX13_unary 84 = .ok (.iload_n 1, 1) := by decide +kernel
theorem dX13_unary_85 : decode cX13_unary 85 = .ok (.invokevirtual 465, 3) := by decide +kernel
theorem dX13_unary_88 : decode cX13_unary 88 = .ok (.ireturn, 1) := by decide +kernel
theorem dX13_unary_89 : decode cX13_unary 89 = .ok (.aload_n 0, 1) := by decide +kernel
theorem dX13_unary_90 : decode cX13_unary 90 = .ok (.iload_n 1, 1) := by decide +kernel
theorem dX13_unary_91 : decode cX13_unary 91 = .ok (.invokevirtual 437, 3) := by decide +kernel
theorem dX13_unary_94 : decode cX13_unary 94 = .ok (.ifCond .eq 5, 3) := by decide +kernel
theorem dX13_unary_97 : decode cX13_unary 97 = .ok (.iconst (-1), 1) := by decide +kernel
theorem dX13_unary_98 : decode cX13_unary 98 = .ok (.ireturn, 1) := by decide +kernel
theorem dX13_unary_99 : decode cX13_unary 99 = .ok (.aload_n 0, 1) := by decide +kernel
theorem dX13_unary_100 : decode cX13_unary 100 = .ok (.iload_n 3, 1) := by decide +kernel
theorem dX13_unary_101 : decode cX13_unary 101 = .ok (.iload_n 2, 1) := by decide +kernel
theorem dX13_unary_102 : decode cX13_unary 102 = .ok (.ifCond .eq 12, 3) := by decide +kernel
theorem dX13_unary_105 : decode cX13_unary 105 = .ok (.aload_n 0, 1) := by decide +kernel
theorem dX13_unary_106 : decode cX13_unary 106 = .ok (.getfield 376, 3) := by decide +kernel
theorem dX13_unary_109 : decode cX13_unary 109 = .ok (.iconst 1, 1) := by decide +kernel
theorem dX13_unary_110 : decode cX13_unary 110 = .ok (.iadd, 1) := by decide +kernel
theorem dX13_unary_111 : decode cX13_unary 111 = .ok (.goto 7, 3) := by decide +kernel
theorem dX13_unary_114 : decode cX13_unary 114 = .ok (.aload_n 0, 1) := by decide +kernel
theorem dX13_unary_115 : decode cX13_unary 115 = .ok (.getfield 376, 3) := by decide +kernel
theorem dX13_unary_118 : decode cX13_unary 118 = .ok (.aload_n 0, 1) := by decide +kernel
theorem dX13_unary_119 : decode cX13_unary 119 = .ok (.getfield 376, 3) := by decide +kernel
theorem dX13_unary_122 : decode cX13_unary 122 = .ok (.invokevirtual 430, 3) := by decide +kernel
theorem dX13_unary_125 : decode cX13_unary 125 = .ok (.istore 4, 2) := by decide +kernel
theorem dX13_unary_127 : decode cX13_unary 127 = .ok (.aload_n 0, 1) := by decide +kernel
theorem dX13_unary_128 : decode cX13_unary 128 = .ok (.dup, 1) := by decide +kernel
theorem dX13_unary_129 : decode cX13_unary 129 = .ok (.getfield 376, 3) := by decide +kernel
theorem dX13_unary_132 : decode cX13_unary 132 = .ok (.iload_n 2, 1) := by decide +kernel
theorem dX13_unary_133 : decode cX13_unary 133 = .ok (.ifCond .eq 7, 3) := by decide +kernel
theorem dX13_unary_136 : decode cX13_unary 136 = .ok (.iconst 3, 1) := by decide +kernel
theorem dX13_unary_137 : decode cX13_unary 137 = .ok (.goto 4, 3) := by decide +kernel
theorem dX13_unary_140 : decode cX13_unary 140 = .ok (.iconst 1, 1) := by decide +kernel
theorem dX13_unary_141 : decode cX13_unary 141 = .ok (.iadd, 1) := by decide +kernel
theorem dX13_unary_142 : decode cX13_unary 142 = .ok (.putfield 376, 3) := by decide +kernel
theorem dX13_unary_145 : decode cX13_unary 145 = .ok (.aload_n 0, 1) := by decide +kernel
theorem dX13_unary_146 : decode cX13_unary 146 = .ok (.getfield 37, 3) := by decide +kernel
theorem dX13_unary_149 : decode cX13_unary 149 = .ok (.iload 4, 2) := by decide +kernel
theorem dX13_unary_151 : decode cX13_unary 151 = .ok (.aload_n 0, 1) := by decide +kernel
theorem dX13_unary_152 : decode cX13_unary 152 = .ok (.iload_n 1, 1) := by decide +kernel
theorem dX13_unary_153 : decode cX13_unary 153 = .ok (.iconst 1, 1) := by decide +kernel
theorem dX13_unary_154 : decode cX13_unary 154 = .ok (.iadd, 1) := by decide +kernel
theorem dX13_unary_155 : decode cX13_unary 155 = .ok (.invokevirtual 456, 3) := by decide +kernel
theorem dX13_unary_158 : decode cX13_unary 158 = .ok (.iastore, 1) := by decide +kernel
theorem dX13_unary_159 : decode cX13_unary 159 = .ok (.iload 4, 2) := by decide +kernel
theorem dX13_unary_161 : decode cX13_unary 161 = .ok (.ireturn, 1) := by decide +kernel
theorem mt_X13_sides : mx_mt 409 = some (yX13_sides, cX13_sides, 9, (some .int)) := rfl
theorem mt_X13_unary : mx_mt 411 = some (yX13_unary, cX13_unary, 5, (some .int)) := rfl
theorem mt_X13_arguments : mx_mt 412 = some (yX13_arguments, cX13_arguments, 6, (some .int)) := rfl
theorem mt_X13_postfix : mx_mt 413 = some (yX13_postfix, cX13_postfix, 5, (some .int)) := rfl
theorem mt_X13_primary : mx_mt 414 = some (yX13_primary, cX13_primary, 5, (some .int)) := rfl
theorem mt_X13_fresh : mx_mt 415 = some (yX13_fresh, cX13_fresh, 5, (some .int)) := rfl
