theorem rs_RX13_803 : mx_res RX13 803 = some (1, 490, 1) := by decide +kernel
theorem rs_RX13_821 : mx_res RX13 821 = some (1, 499, 2) := by decide +kernel
theorem mt_X13_checkConstant : mx_mt 504 = some (yX13_checkConstant, cX13_checkConstant, 3, none) := rfl
theorem dX13_checkConstant_0 : decode cX13_checkConstant 0 = .ok (.aload_n 0, 1) := by decide +kernel
theorem dX13_checkConstant_1 : decode cX13_checkConstant 1 = .ok (.getfield 245, 3) := by decide +kernel
theorem dX13_checkConstant_4 : decode cX13_checkConstant 4 = .ok (.iload_n 1, 1) := by decide +kernel
theorem dX13_checkConstant_5 : decode cX13_checkConstant 5 = .ok (.iaload, 1) := by decide +kernel
theorem dX13_checkConstant_6 : decode cX13_checkConstant 6 = .ok (.iconst 3, 1) := by decide +kernel
theorem dX13_checkConstant_7 : decode cX13_checkConstant 7 = .ok (.if_icmp .ne 26, 3) := by decide +kernel
theorem dX13_checkConstant_10 : decode cX13_checkConstant 10 = .ok (.aload_n 0, 1) := by decide +kernel
theorem dX13_checkConstant_11 : decode cX13_checkConstant 11 = .ok (.aload_n 0, 1) := by decide +kernel
theorem dX13_checkConstant_12 : decode cX13_checkConstant 12 = .ok (.getfield 245, 3) := by decide +kernel
theorem dX13_checkConstant_15 : decode cX13_checkConstant 15 = .ok (.iload_n 1, 1) := by decide +kernel
theorem dX13_checkConstant_16 : decode cX13_checkConstant 16 = .ok (.iconst 1, 1) := by decide +kernel
theorem dX13_checkConstant_17 : decode cX13_checkConstant 17 = .ok (.iadd, 1) := by decide +kernel
theorem dX13_checkConstant_18 : decode cX13_checkConstant 18 = .ok (.iaload, 1) := by decide +kernel
theorem dX13_checkConstant_19 : decode cX13_checkConstant 19 = .ok (.iconst 4, 1) := by decide +kernel
theorem dX13_checkConstant_20 : decode cX13_checkConstant 20 = .ok (.invokevirtual 821, 3) := by decide +kernel
theorem dX13_checkConstant_23 : decode cX13_checkConstant 23 = .ok (.ifCond .ne 10, 3) := by decide +kernel
theorem dX13_checkConstant_26 : decode cX13_checkConstant 26 = .ok (.aload_n 0, 1) := by decide +kernel
theorem dX13_checkConstant_27 : decode cX13_checkConstant 27 = .ok (.iload_n 1, 1) := by decide +kernel
theorem dX13_checkConstant_28 : decode cX13_checkConstant 28 = .ok (.iconst 1, 1) := by decide +kernel
theorem dX13_checkConstant_29 : decode cX13_checkConstant 29 = .ok (.iadd, 1) := by decide +kernel
theorem dX13_checkConstant_30 : decode cX13_checkConstant 30 = .ok (.invokevirtual 803, 3) := by decide +kernel
theorem dX13_checkConstant_33 : decode cX13_checkConstant 33 = .ok (.aload_n 0, 1) := by decide +kernel
theorem dX13_checkConstant_34 : decode cX13_checkConstant 34 = .ok (.getfield 245, 3) := by decide +kernel
theorem dX13_checkConstant_37 : decode cX13_checkConstant 37 = .ok (.iload_n 1, 1) := by decide +kernel
theorem dX13_checkConstant_38 : decode cX13_checkConstant 38 = .ok (.iaload, 1) := by decide +kernel
theorem dX13_checkConstant_39 : decode cX13_checkConstant 39 = .ok (.iconst 4, 1) := by decide +kernel
theorem dX13_checkConstant_40 : decode cX13_checkConstant 40 = .ok (.if_icmp .eq 4, 3) := by decide +kernel
theorem dX13_checkConstant_43 : decode cX13_checkConstant 43 = .ok (.return_, 1) := by decide +kernel
theorem dX13_checkConstant_44 : decode cX13_checkConstant 44 = .ok (.aload_n 0, 1) := by decide +kernel
theorem dX13_checkConstant_45 : decode cX13_checkConstant 45 = .ok (.aload_n 0, 1) := by decide +kernel
theorem dX13_checkConstant_46 : decode cX13_checkConstant 46 = .ok (.getfield 788, 3) := by decide +kernel
theorem dX13_checkConstant_49 : decode cX13_checkConstant 49 = .ok (.aload_n 0, 1) := by decide +kernel
theorem dX13_checkConstant_50 : decode cX13_checkConstant 50 = .ok (.getfield 245, 3) := by decide +kernel
theorem dX13_checkConstant_53 : decode cX13_checkConstant 53 = .ok (.iload_n 1, 1) := by decide +kernel
theorem dX13_checkConstant_54 : decode cX13_checkConstant 54 = .ok (.iconst 1, 1) := by decide +kernel
theorem dX13_checkConstant_55 : decode cX13_checkConstant 55 = .ok (.iadd, 1) := by decide +kernel
theorem dX13_checkConstant_56 : decode cX13_checkConstant 56 = .ok (.iaload, 1) := by decide +kernel
theorem dX13_checkConstant_57 : decode cX13_checkConstant 57 = .ok (.invokevirtual 791, 3) := by decide +kernel
theorem dX13_checkConstant_60 : decode cX13_checkConstant 60 = .ok (.istore_n 2, 1) := by decide +kernel
theorem dX13_checkConstant_61 : decode cX13_checkConstant 61 = .ok (.iload_n 2, 1) := by decide +kernel
theorem dX13_checkConstant_62 : decode cX13_checkConstant 62 = .ok (.ifCond .lt 13, 3) := by decide +kernel
theorem dX13_checkConstant_65 : decode cX13_checkConstant 65 = .ok (.aload_n 0, 1) := by decide +kernel
theorem dX13_checkConstant_66 : decode cX13_checkConstant 66 = .ok (.getfield 245, 3) := by decide +kernel
theorem dX13_checkConstant_69 : decode cX13_checkConstant 69 = .ok (.iload_n 2, 1) := by decide +kernel
theorem dX13_checkConstant_70 : decode cX13_checkConstant 70 = .ok (.iaload, 1) := by decide +kernel
theorem dX13_checkConstant_71 : decode cX13_checkConstant 71 = .ok (.iconst 3, 1) := by decide +kernel
theorem dX13_checkConstant_72 : decode cX13_checkConstant 72 = .ok (.if_icmp .eq 10, 3) := by decide +kernel
theorem dX13_checkConstant_75 : decode cX13_checkConstant 75 = .ok (.aload_n 0, 1) := by decide +kernel
theorem dX13_checkConstant_76 : decode cX13_checkConstant 76 = .ok (.iload_n 1, 1) := by decide +kernel
theorem dX13_checkConstant_77 : decode cX13_checkConstant 77 = .ok (.iconst 1, 1) := by decide +kernel
theorem dX13_checkConstant_78 : decode cX13_checkConstant 78 = .ok (.iadd, 1) := by decide +kernel
theorem dX13_checkConstant_79 : decode cX13_checkConstant 79 = .ok (.invokevirtual 803, 3) := by decide +kernel
theorem dX13_checkConstant_82 : decode cX13_checkConstant 82 = .ok (.aload_n 0, 1) := by decide +kernel
theorem dX13_checkConstant_83 : decode cX13_checkConstant 83 = .ok (.aload_n 0, 1) := by decide +kernel
theorem dX13_checkConstant_84 : decode cX13_checkConstant 84 = .ok (.getfield 245, 3) := by decide +kernel
theorem dX13_checkConstant_87 : decode cX13_checkConstant 87 = .ok (.iload_n 1, 1) := by decide +kernel
theorem dX13_checkConstant_88 : decode cX13_checkConstant 88 = .ok (.iconst 2, 1) := by decide +kernel
theorem dX13_checkConstant_89 : decode cX13_checkConstant 89 = .ok (.iadd, 1) := by decide +kernel
theorem dX13_checkConstant_90 : decode cX13_checkConstant 90 = .ok (.iaload, 1) := by decide +kernel
theorem dX13_checkConstant_91 : decode cX13_checkConstant 91 = .ok (.iconst 0, 1) := by decide +kernel
theorem dX13_checkConstant_92 : decode cX13_checkConstant 92 = .ok (.invokevirtual 821, 3) := by decide +kernel
theorem dX13_checkConstant_95 : decode cX13_checkConstant 95 = .ok (.ifCond .ne 10, 3) := by decide +kernel
theorem dX13_checkConstant_98 : decode cX13_checkConstant 98 = .ok (.aload_n 0, 1) := by decide +kernel
theorem dX13_checkConstant_99 : decode cX13_checkConstant 99 = .ok (.iload_n 1, 1) := by decide +kernel
theorem dX13_checkConstant_100 : decode cX13_checkConstant 100 = .ok (.iconst 2, 1) := by decide +kernel
theorem dX13_checkConstant_101 : decode cX13_checkConstant 101 = .ok (.iadd, 1) := by decide +kernel
theorem dX13_checkConstant_102 : decode cX13_checkConstant 102 = .ok (.invokevirtual 803, 3) := by decide +kernel
theorem dX13_checkConstant_105 : decode cX13_checkConstant 105 = .ok (.aload_n 0, 1) := by decide +kernel
theorem dX13_checkConstant_106 : decode cX13_checkConstant 106 = .ok (.aload_n 0, 1) := by decide +kernel
theorem dX13_checkConstant_107 : decode cX13_checkConstant 107 = .ok (.getfield 245, 3) := by decide +kernel
theorem dX13_checkConstant_110 : decode cX13_checkConstant 110 = .ok (.iload_n 1, 1) := by decide +kernel
theorem dX13_checkConstant_111 : decode cX13_checkConstant 111 = .ok (.iconst 3, 1) := by decide +kernel
theorem dX13_checkConstant_112 : decode cX13_checkConstant 112 = .ok (.iadd, 1) := by decide +kernel
theorem dX13_checkConstant_113 : decode cX13_checkConstant 113 = .ok (.iaload, 1) := by decide +kernel
theorem dX13_checkConstant_114 : decode cX13_checkConstant 114 = .ok (.iconst 3, 1) := by decide +kernel
theorem dX13_checkConstant_115 : decode cX13_checkConstant 115 = .ok (.invokevirtual 821, 3) := by decide +kernel
theorem dX13_checkConstant_118 : decode cX13_checkConstant 118 = .ok (.ifCond .ne 10, 3) := by decide +kernel
theorem dX13_checkConstant_121 : decode cX13_checkConstant 121 = .ok (.aload_n 0, 1) := by decide +kernel
theorem dX13_checkConstant_122 : decode cX13_checkConstant 122 = .ok (.iload_n 1, 1) := by decide +kernel
theorem dX13_checkConstant_123 : decode cX13_checkConstant 123 = .ok (.iconst 3, 1) := by decide +kernel
theorem dX13_checkConstant_124 : decode cX13_checkConstant 124 = .ok (.iadd, 1) := by decide +kernel
theorem dX13_checkConstant_125 : decode cX13_checkConstant 125 = .ok (.invokevirtual 803, 3) := by decide +kernel
theorem dX13_checkConstant_128 : decode cX13_checkConstant 128 = .ok (.return_, 1) := by decide +kernel
theorem mt_X13_isByte : mx_mt 489 = some (yX13_isByte, cX13_isByte, 2, (some .boolean)) := rfl
theorem dX13_isByte_0 : decode cX13_isByte 0 = .ok (.aload_n 0, 1) := by decide +kernel
theorem dX13_isByte_1 : decode cX13_isByte 1 = .ok (.getfield 764, 3) := by decide +kernel
theorem dX13_isByte_4 : decode cX13_isByte 4 = .ok (.iconst (-1), 1) := by decide +kernel
theorem dX13_isByte_5 : decode cX13_isByte 5 = .ok (.if_icmp .eq 5, 3) := by decide +kernel
theorem dX13_isByte_8 : decode cX13_isByte 8 = .ok (.iconst 0, 1) := by decide +kernel
theorem dX13_isByte_9 : decode cX13_isByte 9 = .ok (.ireturn, 1) := by decide +kernel
theorem dX13_isByte_10 : decode cX13_isByte 10 = .ok (.iload_n 1, 1) := by decide +kernel
theorem dX13_isByte_11 : decode cX13_isByte 11 = .ok (.aload_n 0, 1) := by decide +kernel
theorem dX13_isByte_12 : decode cX13_isByte 12 = .ok (.getfield 767, 3) := by decide +kernel
theorem dX13_isByte_15 : decode cX13_isByte 15 = .ok (.if_icmp .lt 11, 3) := by decide +kernel
theorem dX13_isByte_18 : decode cX13_isByte 18 = .ok (.aload_n 0, 1) := by decide +kernel
theorem dX13_isByte_19 : decode cX13_isByte 19 = .ok (.aload_n 0, 1) := by decide +kernel
theorem dX13_isByte_20 : decode cX13_isByte 20 = .ok (.getfield 767, 3) := by decide +kernel
theorem dX13_isByte_23 : decode cX13_isByte 23 = .ok (.putfield 764, 3) := by decide +kernel
theorem dX13_isByte_26 : decode cX13_isByte 26 = .ok (.aload_n 0, 1) := by decide +kernel
theorem dX13_isByte_27 : decode cX13_isByte 27 = .ok (.getfield 764, 3) := by decide +kernel
theorem dX13_isByte_30 : decode cX13_isByte 30 = .ok (.iconst (-1), 1) := by decide +kernel
theorem dX13_isByte_31 : decode cX13_isByte 31 = .ok (.if_icmp .ne 7, 3) := by decide +kernel
theorem dX13_isByte_34 : decode cX13_isByte 34 = .ok (.iconst 1, 1) := by decide +kernel
theorem dX13_isByte_35 : decode cX13_isByte 35 = .ok (.goto 4, 3) := by decide +kernel
theorem dX13_isByte_38 : decode cX13_isByte 38 = .ok (.iconst 0, 1) := by decide +kernel
theorem dX13_isByte_39 : decode cX13_isByte 39 = .ok (.ireturn, 1) := by decide +kernel
theorem mt_X13_isClassConstant : mx_mt 500 = some (yX13_isClassConstant, cX13_isClassConstant, 5, (some .boolean)) := rfl
theorem dX13_isClassConstant_0 : decode cX13_isClassConstant 0 = .ok (.aload_n 0, 1) := by decide +kernel
theorem dX13_isClassConstant_1 : decode cX13_isClassConstant 1 = .ok (.aload_n 0, 1) := by decide +kernel
theorem dX13_isClassConstant_2 : decode cX13_isClassConstant 2 = .ok (.getfield 788, 3) := by decide +kernel
theorem dX13_isClassConstant_5 : decode cX13_isClassConstant 5 = .ok (.iload_n 1, 1) := by decide +kernel
theorem dX13_isClassConstant_6 : decode cX13_isClassConstant 6 = .ok (.invokevirtual 791, 3) := by decide +kernel
theorem dX13_isClassConstant_9 : decode cX13_isClassConstant 9 = .ok (.istore_n 3, 1) := by decide +kernel
theorem dX13_isClassConstant_10 : decode cX13_isClassConstant 10 = .ok (.iload_n 3, 1) := by decide +kernel
theorem dX13_isClassConstant_11 : decode cX13_isClassConstant 11 = .ok (.ifCond .lt 13, 3) := by decide +kernel
theorem dX13_isClassConstant_14 : decode cX13_isClassConstant 14 = .ok (.aload_n 0, 1) := by decide +kernel
theorem dX13_isClassConstant_15 : decode cX13_isClassConstant 15 = .ok (.getfield 245, 3) := by decide +kernel
theorem dX13_isClassConstant_18 : decode cX13_isClassConstant 18 = .ok (.iload_n 3, 1) := by decide +kernel
theorem dX13_isClassConstant_19 : decode cX13_isClassConstant 19 = .ok (.iaload, 1) := by decide +kernel
theorem dX13_isClassConstant_20 : decode cX13_isClassConstant 20 = .ok (.iconst 3, 1) := by decide +kernel
theorem dX13_isClassConstant_21 : decode cX13_isClassConstant 21 = .ok (.if_icmp .eq 5, 3) := by decide +kernel
theorem dX13_isClassConstant_24 : decode cX13_isClassConstant 24 = .ok (.iconst 0, 1) := by decide +kernel
theorem dX13_isClassConstant_25 : decode cX13_isClassConstant 25 = .ok (.ireturn, 1) := by decide +kernel
theorem dX13_isClassConstant_26 : decode cX13_isClassConstant 26 = .ok (.aload_n 0, 1) := by decide +kernel
theorem dX13_isClassConstant_27 : decode cX13_isClassConstant 27 = .ok (.aload_n 0, 1) := by decide +kernel
theorem dX13_isClassConstant_28 : decode cX13_isClassConstant 28 = .ok (.getfield 788, 3) := by decide +kernel
theorem dX13_isClassConstant_31 : decode cX13_isClassConstant 31 = .ok (.aload_n 0, 1) := by decide +kernel
theorem dX13_isClassConstant_32 : decode cX13_isClassConstant 32 = .ok (.getfield 245, 3) := by decide +kernel
theorem dX13_isClassConstant_35 : decode cX13_isClassConstant 35 = .ok (.iload_n 3, 1) := by decide +kernel
theorem dX13_isClassConstant_36 : decode cX13_isClassConstant 36 = .ok (.iconst 1, 1) := by decide +kernel
theorem dX13_isClassConstant_37 : decode cX13_isClassConstant 37 = .ok (.iadd, 1) := by decide +kernel
theorem dX13_isClassConstant_38 : decode cX13_isClassConstant 38 = .ok (.iaload, 1) := by decide +kernel
theorem dX13_isClassConstant_39 : decode cX13_isClassConstant 39 = .ok (.invokevirtual 791, 3) := by decide +kernel
theorem dX13_isClassConstant_42 : decode cX13_isClassConstant 42 = .ok (.istore 4, 2) := by decide +kernel
theorem dX13_isClassConstant_44 : decode cX13_isClassConstant 44 = .ok (.iload_n 2, 1) := by decide +kernel
theorem dX13_isClassConstant_45 : decode cX13_isClassConstant 45 = .ok (.ifCond .ne 33, 3) := by decide +kernel
theorem dX13_isClassConstant_48 : decode cX13_isClassConstant 48 = .ok (.iload 4, 2) := by decide +kernel
theorem dX13_isClassConstant_50 : decode cX13_isClassConstant 50 = .ok (.ifCond .lt 32, 3) := by decide +kernel
theorem dX13_isClassConstant_53 : decode cX13_isClassConstant 53 = .ok (.aload_n 0, 1) := by decide +kernel
theorem dX13_isClassConstant_54 : decode cX13_isClassConstant 54 = .ok (.getfield 245, 3) := by decide +kernel
theorem dX13_isClassConstant_57 : decode cX13_isClassConstant 57 = .ok (.iload 4, 2) := by decide +kernel
theorem dX13_isClassConstant_59 : decode cX13_isClassConstant 59 = .ok (.iaload, 1) := by decide +kernel
theorem dX13_isClassConstant_60 : decode cX13_isClassConstant 60 = .ok (.iconst 1, 1) := by decide +kernel
theorem dX13_isClassConstant_61 : decode cX13_isClassConstant 61 = .ok (.if_icmp .ne 21, 3) := by decide +kernel
theorem dX13_isClassConstant_64 : decode cX13_isClassConstant 64 = .ok (.aload_n 0, 1) := by decide +kernel
theorem dX13_isClassConstant_65 : decode cX13_isClassConstant 65 = .ok (.getfield 245, 3) := by decide +kernel
theorem dX13_isClassConstant_68 : decode cX13_isClassConstant 68 = .ok (.iload 4, 2) := by decide +kernel
theorem dX13_isClassConstant_70 : decode cX13_isClassConstant 70 = .ok (.iconst 2, 1) := by decide +kernel
theorem dX13_isClassConstant_71 : decode cX13_isClassConstant 71 = .ok (.iadd, 1) := by decide +kernel
theorem dX13_isClassConstant_72 : decode cX13_isClassConstant 72 = .ok (.iaload, 1) := by decide +kernel
theorem dX13_isClassConstant_73 : decode cX13_isClassConstant 73 = .ok (.bipush 91, 2) := by decide +kernel
theorem dX13_isClassConstant_75 : decode cX13_isClassConstant 75 = .ok (.if_icmp .eq 7, 3) := by decide +kernel
theorem dX13_isClassConstant_78 : decode cX13_isClassConstant 78 = .ok (.iconst 1, 1) := by decide +kernel
theorem dX13_isClassConstant_79 : decode cX13_isClassConstant 79 = .ok (.goto 4, 3) := by decide +kernel
theorem dX13_isClassConstant_82 : decode cX13_isClassConstant 82 = .ok (.iconst 0, 1) := by decide +kernel
theorem dX13_isClassConstant_83 : decode cX13_isClassConstant 83 = .ok (.ireturn, 1) := by decide +kernel
theorem rs_RX13_800 : mx_res RX13 800 = some (1, 489, 1) := by decide +kernel
theorem mt_X13_scanConstant : mx_mt 503 = some (yX13_scanConstant, cX13_scanConstant, 4, (some .int)) := rfl
theorem dX13_scanConstant_0 : decode cX13_scanConstant 0 = .ok (.aload_n 0, 1) := by decide +kernel
theorem dX13_scanConstant_1 : decode cX13_scanConstant 1 = .ok (.getfield 245, 3) := by decide +kernel
theorem dX13_scanConstant_4 : decode cX13_scanConstant 4 = .ok (.iload_n 1, 1) := by decide +kernel
theorem dX13_scanConstant_5 : decode cX13_scanConstant 5 = .ok (.iaload, 1) := by decide +kernel
theorem dX13_scanConstant_6 : decode cX13_scanConstant 6 = .ok (.tableswitch 183 1 4 #[30, 147, 159, 171], 30) := by decide +kernel
theorem dX13_scanConstant_36 : decode cX13_scanConstant 36 = .ok (.aload_n 0, 1) := by decide +kernel
theorem dX13_scanConstant_37 : decode cX13_scanConstant 37 = .ok (.iload_n 1, 1) := by decide +kernel
theorem dX13_scanConstant_38 : decode cX13_scanConstant 38 = .ok (.iconst 1, 1) := by decide +kernel
theorem dX13_scanConstant_39 : decode cX13_scanConstant 39 = .ok (.iadd, 1) := by decide +kernel
theorem dX13_scanConstant_40 : decode cX13_scanConstant 40 = .ok (.invokevirtual 800, 3) := by decide +kernel
theorem dX13_scanConstant_43 : decode cX13_scanConstant 43 = .ok (.ifCond .ne 5, 3) := by decide +kernel
theorem dX13_scanConstant_46 : decode cX13_scanConstant 46 = .ok (.iload_n 1, 1) := by decide +kernel
theorem dX13_scanConstant_47 : decode cX13_scanConstant 47 = .ok (.ireturn, 1) := by decide +kernel
theorem dX13_scanConstant_48 : decode cX13_scanConstant 48 = .ok (.aload_n 0, 1) := by decide +kernel
theorem dX13_scanConstant_49 : decode cX13_scanConstant 49 = .ok (.getfield 245, 3) := by decide +kernel
theorem dX13_scanConstant_52 : decode cX13_scanConstant 52 = .ok (.iload_n 1, 1) := by decide +kernel
theorem dX13_scanConstant_53 : decode cX13_scanConstant 53 = .ok (.iconst 1, 1) := by decide +kernel
theorem dX13_scanConstant_54 : decode cX13_scanConstant 54 = .ok (.iadd, 1) := by decide +kernel
theorem dX13_scanConstant_55 : decode cX13_scanConstant 55 = .ok (.iaload, 1) := by decide +kernel
theorem dX13_scanConstant_56 : decode cX13_scanConstant 56 = .ok (.istore_n 2, 1) := by decide +kernel
theorem dX13_scanConstant_57 : decode cX13_scanConstant 57 = .ok (.iload_n 2, 1) := by decide +kernel
theorem dX13_scanConstant_58 : decode cX13_scanConstant 58 = .ok (.iconst 1, 1) := by decide +kernel
theorem dX13_scanConstant_59 : decode cX13_scanConstant 59 = .ok (.if_icmp .lt 9, 3) := by decide +kernel
theorem dX13_scanConstant_62 : decode cX13_scanConstant 62 = .ok (.iload_n 2, 1) := by decide +kernel
theorem dX13_scanConstant_63 : decode cX13_scanConstant 63 = .ok (.bipush 120, 2) := by decide +kernel
theorem dX13_scanConstant_65 : decode cX13_scanConstant 65 = .ok (.if_icmp .le 10, 3) := by decide +kernel
theorem dX13_scanConstant_68 : decode cX13_scanConstant 68 = .ok (.aload_n 0, 1) := by decide +kernel
theorem dX13_scanConstant_69 : decode cX13_scanConstant 69 = .ok (.iload_n 1, 1) := by decide +kernel
theorem dX13_scanConstant_70 : decode cX13_scanConstant 70 = .ok (.iconst 1, 1) := by decide +kernel
theorem dX13_scanConstant_71 : decode cX13_scanConstant 71 = .ok (.iadd, 1) := by decide +kernel
theorem dX13_scanConstant_72 : decode cX13_scanConstant 72 = .ok (.invokevirtual 803, 3) := by decide +kernel
theorem dX13_scanConstant_75 : decode cX13_scanConstant 75 = .ok (.iconst 0, 1) := by decide +kernel
theorem dX13_scanConstant_76 : decode cX13_scanConstant 76 = .ok (.istore_n 3, 1) := by decide +kernel
theorem dX13_scanConstant_77 : decode cX13_scanConstant 77 = .ok (.iload_n 3, 1) := by decide +kernel
theorem dX13_scanConstant_78 : decode cX13_scanConstant 78 = .ok (.iload_n 2, 1) := by decide +kernel
theorem dX13_scanConstant_79 : decode cX13_scanConstant 79 = .ok (.if_icmp .ge 68, 3) := by decide +kernel
theorem dX13_scanConstant_82 : decode cX13_scanConstant 82 = .ok (.aload_n 0, 1) := by decide +kernel
theorem dX13_scanConstant_83 : decode cX13_scanConstant 83 = .ok (.getfield 764, 3) := by decide +kernel
theorem dX13_scanConstant_86 : decode cX13_scanConstant 86 = .ok (.iconst (-1), 1) := by decide +kernel
theorem dX13_scanConstant_87 : decode cX13_scanConstant 87 = .ok (.if_icmp .ne 60, 3) := by decide +kernel
theorem dX13_scanConstant_90 : decode cX13_scanConstant 90 = .ok (.aload_n 0, 1) := by decide +kernel
theorem dX13_scanConstant_91 : decode cX13_scanConstant 91 = .ok (.iload_n 1, 1) := by decide +kernel
theorem dX13_scanConstant_92 : decode cX13_scanConstant 92 = .ok (.iconst 2, 1) := by decide +kernel
theorem dX13_scanConstant_93 : decode cX13_scanConstant 93 = .ok (.iadd, 1) := by decide +kernel
theorem dX13_scanConstant_94 : decode cX13_scanConstant 94 = .ok (.iload_n 3, 1) := by decide +kernel
theorem dX13_scanConstant_95 : decode cX13_scanConstant 95 = .ok (.iadd, 1) := by decide +kernel
theorem dX13_scanConstant_96 : decode cX13_scanConstant 96 = .ok (.invokevirtual 800, 3) := by decide +kernel
theorem dX13_scanConstant_99 : decode cX13_scanConstant 99 = .ok (.ifCond .eq 42, 3) := by decide +kernel
theorem dX13_scanConstant_102 : decode cX13_scanConstant 102 = .ok (.aload_n 0, 1) := by decide +kernel
theorem dX13_scanConstant_103 : decode cX13_scanConstant 103 = .ok (.getfield 245, 3) := by decide +kernel
theorem dX13_scanConstant_106 : decode cX13_scanConstant 106 = .ok (.iload_n 1, 1) := by decide +kernel
theorem dX13_scanConstant_107 : decode cX13_scanConstant 107 = .ok (.iconst 2, 1) := by decide +kernel
theorem dX13_scanConstant_108 : decode cX13_scanConstant 108 = .ok (.iadd, 1) := by decide +kernel
theorem dX13_scanConstant_109 : decode cX13_scanConstant 109 = .ok (.iload_n 3, 1) := by decide +kernel
theorem dX13_scanConstant_110 : decode cX13_scanConstant 110 = .ok (.iadd, 1) := by decide +kernel
theorem dX13_scanConstant_111 : decode cX13_scanConstant 111 = .ok (.iaload, 1) := by decide +kernel
theorem dX13_scanConstant_112 : decode cX13_scanConstant 112 = .ok (.bipush 33, 2) := by decide +kernel
theorem dX13_scanConstant_114 : decode cX13_scanConstant 114 = .ok (.if_icmp .lt 18, 3) := by decide +kernel
theorem dX13_scanConstant_117 : decode cX13_scanConstant 117 = .ok (.aload_n 0, 1) := by decide +kernel
theorem dX13_scanConstant_118 : decode cX13_scanConstant 118 = .ok (.getfield 245, 3) := by decide +kernel
theorem dX13_scanConstant_121 : decode cX13_scanConstant 121 = .ok (.iload_n 1, 1) := by decide +kernel
theorem dX13_scanConstant_122 : decode cX13_scanConstant 122 = .ok (.iconst 2, 1) := by decide +kernel
theorem dX13_scanConstant_123 : decode cX13_scanConstant 123 = .ok (.iadd, 1) := by decide +kernel
theorem dX13_scanConstant_124 : decode cX13_scanConstant 124 = .ok (.iload_n 3, 1) := by decide +kernel
theorem dX13_scanConstant_125 : decode cX13_scanConstant 125 = .ok (.iadd, 1) := by decide +kernel
theorem dX13_scanConstant_126 : decode cX13_scanConstant 126 = .ok (.iaload, 1) := by decide +kernel
theorem dX13_scanConstant_127 : decode cX13_scanConstant 127 = .ok (.bipush 126, 2) := by decide +kernel
theorem dX13_scanConstant_129 : decode cX13_scanConstant 129 = .ok (.if_icmp .le 12, 3) := by decide +kernel
theorem dX13_scanConstant_132 : decode cX13_scanConstant 132 = .ok (.aload_n 0, 1) := by decide +kernel
theorem dX13_scanConstant_133 : decode cX13_scanConstant 133 = .ok (.iload_n 1, 1) := by decide +kernel
theorem dX13_scanConstant_134 : decode cX13_scanConstant 134 = .ok (.iconst 2, 1) := by decide +kernel
theorem dX13_scanConstant_135 : decode cX13_scanConstant 135 = .ok (.iadd, 1) := by decide +kernel
theorem dX13_scanConstant_136 : decode cX13_scanConstant 136 = .ok (.iload_n 3, 1) := by decide +kernel
theorem dX13_scanConstant_137 : decode cX13_scanConstant 137 = .ok (.iadd, 1) := by decide +kernel
theorem dX13_scanConstant_138 : decode cX13_scanConstant 138 = .ok (.invokevirtual 803, 3) := by decide +kernel
theorem dX13_scanConstant_141 : decode cX13_scanConstant 141 = .ok (.iinc 3 1, 3) := by decide +kernel
theorem dX13_scanConstant_144 : decode cX13_scanConstant 144 = .ok (.goto (-67), 3) := by decide +kernel
theorem dX13_scanConstant_147 : decode cX13_scanConstant 147 = .ok (.iload_n 1, 1) := by decide +kernel
theorem dX13_scanConstant_148 : decode cX13_scanConstant 148 = .ok (.iconst 2, 1) := by decide +kernel
theorem dX13_scanConstant_149 : decode cX13_scanConstant 149 = .ok (.iadd, 1) := by decide +kernel
theorem dX13_scanConstant_150 : decode cX13_scanConstant 150 = .ok (.iload_n 2, 1) := by decide +kernel
theorem dX13_scanConstant_151 : decode cX13_scanConstant 151 = .ok (.iadd, 1) := by decide +kernel
theorem dX13_scanConstant_152 : decode cX13_scanConstant 152 = .ok (.ireturn, 1) := by decide +kernel
theorem dX13_scanConstant_153 : decode cX13_scanConstant 153 = .ok (.aload_n 0, 1) := by decide +kernel
theorem dX13_scanConstant_154 : decode cX13_scanConstant 154 = .ok (.iload_n 1, 1) := by decide +kernel
theorem dX13_scanConstant_155 : decode cX13_scanConstant 155 = .ok (.iconst 4, 1) := by decide +kernel
theorem dX13_scanConstant_156 : decode cX13_scanConstant 156 = .ok (.iadd, 1) := by decide +kernel
theorem dX13_scanConstant_157 : decode cX13_scanConstant 157 = .ok (.invokevirtual 800, 3) := by decide +kernel
theorem dX13_scanConstant_160 : decode cX13_scanConstant 160 = .ok (.pop, 1) := by decide +kernel
theorem dX13_scanConstant_161 : decode cX13_scanConstant 161 = .ok (.iload_n 1, 1) := by decide +kernel
theorem dX13_scanConstant_162 : decode cX13_scanConstant 162 = .ok (.iconst 5, 1) := by decide +kernel
theorem dX13_scanConstant_163 : decode cX13_scanConstant 163 = .ok (.iadd, 1) := by decide +kernel
theorem dX13_scanConstant_164 : decode cX13_scanConstant 164 = .ok (.ireturn, 1) := by decide +kernel
theorem dX13_scanConstant_165 : decode cX13_scanConstant 165 = .ok (.aload_n 0, 1) := by decide +kernel
theorem dX13_scanConstant_166 : decode cX13_scanConstant 166 = .ok (.iload_n 1, 1) := by decide +kernel
theorem dX13_scanConstant_167 : decode cX13_scanConstant 167 = .ok (.iconst 1, 1) := by decide +kernel
theorem dX13_scanConstant_168 : decode cX13_scanConstant 168 = .ok (.iadd, 1) := by decide +kernel
theorem dX13_scanConstant_169 : decode cX13_scanConstant 169 = .ok (.invokevirtual 800, 3) := by decide +kernel
theorem dX13_scanConstant_172 : decode cX13_scanConstant 172 = .ok (.pop, 1) := by decide +kernel
theorem dX13_scanConstant_173 : decode cX13_scanConstant 173 = .ok (.iload_n 1, 1) := by decide +kernel
theorem dX13_scanConstant_174 : decode cX13_scanConstant 174 = .ok (.iconst 2, 1) := by decide +kernel
theorem dX13_scanConstant_175 : decode cX13_scanConstant 175 = .ok (.iadd, 1) := by decide +kernel
theorem dX13_scanConstant_176 : decode cX13_scanConstant 176 = .ok (.ireturn, 1) := by decide +kernel
theorem dX13_scanConstant_177 : decode cX13_scanConstant 177 = .ok (.aload_n 0, 1) := by decide +kernel
theorem dX13_scanConstant_178 : decode cX13_scanConstant 178 = .ok (.iload_n 1, 1) := by decide +kernel
theorem dX13_scanConstant_179 : decode cX13_scanConstant 179 = .ok (.iconst 3, 1) := by decide +kernel
theorem dX13_scanConstant_180 : decode cX13_scanConstant 180 = .ok (.iadd, 1) := by decide +kernel
theorem dX13_scanConstant_181 : decode cX13_scanConstant 181 = .ok (.invokevirtual 800, 3) := by decide +kernel
theorem dX13_scanConstant_184 : decode cX13_scanConstant 184 = .ok (.pop, 1) := by decide +kernel
theorem dX13_scanConstant_185 : decode cX13_scanConstant 185 = .ok (.iload_n 1, 1) := by decide +kernel
theorem dX13_scanConstant_186 : decode cX13_scanConstant 186 = .ok (.iconst 4, 1) := by decide +kernel
theorem dX13_scanConstant_187 : decode cX13_scanConstant 187 = .ok (.iadd, 1) := by decide +kernel
theorem dX13_scanConstant_188 : decode cX13_scanConstant 188 = .ok (.ireturn, 1) := by decide +kernel
theorem dX13_scanConstant_189 : decode cX13_scanConstant 189 = .ok (.aload_n 0, 1) := by decide +kernel
theorem dX13_scanConstant_190 : decode cX13_scanConstant 190 = .ok (.iload_n 1, 1) := by decide +kernel
theorem dX13_scanConstant_191 : decode cX13_scanConstant 191 = .ok (.invokevirtual 803, 3) := by decide +kernel
theorem dX13_scanConstant_194 : decode cX13_scanConstant 194 = .ok (.iload_n 1, 1) := by decide +kernel
theorem dX13_scanConstant_195 : decode cX13_scanConstant 195 = .ok (.ireturn, 1) := by decide +kernel
theorem mt_X13_scanFields : mx_mt 505 = some (yX13_scanFields, cX13_scanFields, 5, (some .int)) := rfl
theorem dX13_scanFields_0 : decode cX13_scanFields 0 = .ok (.aload_n 0, 1) := by decide +kernel
theorem dX13_scanFields_1 : decode cX13_scanFields 1 = .ok (.getfield 245, 3) := by decide +kernel
theorem dX13_scanFields_4 : decode cX13_scanFields 4 = .ok (.iload_n 2, 1) := by decide +kernel
theorem dX13_scanFields_5 : decode cX13_scanFields 5 = .ok (.iaload, 1) := by decide +kernel
theorem dX13_scanFields_6 : decode cX13_scanFields 6 = .ok (.bipush 12, 2) := by decide +kernel
theorem dX13_scanFields_8 : decode cX13_scanFields 8 = .ok (.if_icmp .le 8, 3) := by decide +kernel
theorem dX13_scanFields_11 : decode cX13_scanFields 11 = .ok (.aload_n 0, 1) := by decide +kernel
theorem dX13_scanFields_12 : decode cX13_scanFields 12 = .ok (.iload_n 2, 1) := by decide +kernel
theorem dX13_scanFields_13 : decode cX13_scanFields 13 = .ok (.invokevirtual 803, 3) := by decide +kernel
theorem dX13_scanFields_16 : decode cX13_scanFields 16 = .ok (.aload_n 0, 1) := by decide +kernel
theorem dX13_scanFields_17 : decode cX13_scanFields 17 = .ok (.getfield 227, 3) := by decide +kernel
theorem dX13_scanFields_20 : decode cX13_scanFields 20 = .ok (.iload_n 1, 1) := by decide +kernel
theorem dX13_scanFields_21 : decode cX13_scanFields 21 = .ok (.aload_n 0, 1) := by decide +kernel
theorem dX13_scanFields_22 : decode cX13_scanFields 22 = .ok (.getfield 245, 3) := by decide +kernel
theorem dX13_scanFields_25 : decode cX13_scanFields 25 = .ok (.iload_n 2, 1) := by decide +kernel
theorem dX13_scanFields_26 : decode cX13_scanFields 26 = .ok (.iaload, 1) := by decide +kernel
theorem dX13_scanFields_27 : decode cX13_scanFields 27 = .ok (.iastore, 1) := by decide +kernel
theorem dX13_scanFields_28 : decode cX13_scanFields 28 = .ok (.iload_n 2, 1) := by decide +kernel
theorem dX13_scanFields_29 : decode cX13_scanFields 29 = .ok (.iconst 1, 1) := by decide +kernel
theorem dX13_scanFields_30 : decode cX13_scanFields 30 = .ok (.iadd, 1) := by decide +kernel
theorem dX13_scanFields_31 : decode cX13_scanFields 31 = .ok (.istore_n 3, 1) := by decide +kernel
theorem dX13_scanFields_32 : decode cX13_scanFields 32 = .ok (.iconst 0, 1) := by decide +kernel
theorem dX13_scanFields_33 : decode cX13_scanFields 33 = .ok (.istore 4, 2) := by decide +kernel
theorem dX13_scanFields_35 : decode cX13_scanFields 35 = .ok (.iload 4, 2) := by decide +kernel
theorem dX13_scanFields_37 : decode cX13_scanFields 37 = .ok (.aload_n 0, 1) := by decide +kernel
theorem dX13_scanFields_38 : decode cX13_scanFields 38 = .ok (.getfield 245, 3) := by decide +kernel
theorem dX13_scanFields_41 : decode cX13_scanFields 41 = .ok (.iload_n 2, 1) := by decide +kernel
theorem dX13_scanFields_42 : decode cX13_scanFields 42 = .ok (.iaload, 1) := by decide +kernel
theorem dX13_scanFields_43 : decode cX13_scanFields 43 = .ok (.if_icmp .ge 93, 3) := by decide +kernel
theorem dX13_scanFields_46 : decode cX13_scanFields 46 = .ok (.aload_n 0, 1) := by decide +kernel
theorem dX13_scanFields_47 : decode cX13_scanFields 47 = .ok (.getfield 764, 3) := by decide +kernel
theorem dX13_scanFields_50 : decode cX13_scanFields 50 = .ok (.iconst (-1), 1) := by decide +kernel
theorem dX13_scanFields_51 : decode cX13_scanFields 51 = .ok (.if_icmp .ne 85, 3) := by decide +kernel
theorem dX13_scanFields_54 : decode cX13_scanFields 54 = .ok (.aload_n 0, 1) := by decide +kernel
theorem dX13_scanFields_55 : decode cX13_scanFields 55 = .ok (.getfield 230, 3) := by decide +kernel
theorem dX13_scanFields_58 : decode cX13_scanFields 58 = .ok (.bipush 12, 2) := by decide +kernel
theorem dX13_scanFields_60 : decode cX13_scanFields 60 = .ok (.iload_n 1, 1) := by decide +kernel
theorem dX13_scanFields_61 : decode cX13_scanFields 61 = .ok (.imul, 1) := by decide +kernel
theorem dX13_scanFields_62 : decode cX13_scanFields 62 = .ok (.iload 4, 2) := by decide +kernel
theorem dX13_scanFields_64 : decode cX13_scanFields 64 = .ok (.iadd, 1) := by decide +kernel
theorem dX13_scanFields_65 : decode cX13_scanFields 65 = .ok (.iload_n 3, 1) := by decide +kernel
theorem dX13_scanFields_66 : decode cX13_scanFields 66 = .ok (.iastore, 1) := by decide +kernel
theorem dX13_scanFields_67 : decode cX13_scanFields 67 = .ok (.aload_n 0, 1) := by decide +kernel
theorem dX13_scanFields_68 : decode cX13_scanFields 68 = .ok (.iload_n 3, 1) := by decide +kernel
theorem dX13_scanFields_69 : decode cX13_scanFields 69 = .ok (.invokevirtual 800, 3) := by decide +kernel
theorem dX13_scanFields_72 : decode cX13_scanFields 72 = .ok (.ifCond .eq 22, 3) := by decide +kernel
theorem dX13_scanFields_75 : decode cX13_scanFields 75 = .ok (.aload_n 0, 1) := by decide +kernel
theorem dX13_scanFields_76 : decode cX13_scanFields 76 = .ok (.aload_n 0, 1) := by decide +kernel
theorem dX13_scanFields_77 : decode cX13_scanFields 77 = .ok (.getfield 245, 3) := by decide +kernel
theorem dX13_scanFields_80 : decode cX13_scanFields 80 = .ok (.iload_n 3, 1) := by decide +kernel
theorem dX13_scanFields_81 : decode cX13_scanFields 81 = .ok (.iaload, 1) := by decide +kernel
theorem dX13_scanFields_82 : decode cX13_scanFields 82 = .ok (.iconst 0, 1) := by decide +kernel
theorem dX13_scanFields_83 : decode cX13_scanFields 83 = .ok (.invokevirtual 821, 3) := by decide +kernel
theorem dX13_scanFields_86 : decode cX13_scanFields 86 = .ok (.ifCond .ne 8, 3) := by decide +kernel
theorem dX13_scanFields_89 : decode cX13_scanFields 89 = .ok (.aload_n 0, 1) := by decide +kernel
theorem dX13_scanFields_90 : decode cX13_scanFields 90 = .ok (.iload_n 3, 1) := by decide +kernel
theorem dX13_scanFields_91 : decode cX13_scanFields 91 = .ok (.invokevirtual 803, 3) := by decide +kernel
theorem dX13_scanFields_94 : decode cX13_scanFields 94 = .ok (.aload_n 0, 1) := by decide +kernel
theorem dX13_scanFields_95 : decode cX13_scanFields 95 = .ok (.iload_n 3, 1) := by decide +kernel
theorem dX13_scanFields_96 : decode cX13_scanFields 96 = .ok (.iconst 1, 1) := by decide +kernel
theorem dX13_scanFields_97 : decode cX13_scanFields 97 = .ok (.iadd, 1) := by decide +kernel
theorem dX13_scanFields_98 : decode cX13_scanFields 98 = .ok (.invokevirtual 800, 3) := by decide +kernel
theorem dX13_scanFields_101 : decode cX13_scanFields 101 = .ok (.ifCond .eq 26, 3) := by decide +kernel
theorem dX13_scanFields_104 : decode cX13_scanFields 104 = .ok (.aload_n 0, 1) := by decide +kernel
theorem dX13_scanFields_105 : decode cX13_scanFields 105 = .ok (.aload_n 0, 1) := by decide +kernel
theorem dX13_scanFields_106 : decode cX13_scanFields 106 = .ok (.getfield 245, 3) := by decide +kernel
theorem dX13_scanFields_109 : decode cX13_scanFields 109 = .ok (.iload_n 3, 1) := by decide +kernel
theorem dX13_scanFields_110 : decode cX13_scanFields 110 = .ok (.iconst 1, 1) := by decide +kernel
theorem dX13_scanFields_111 : decode cX13_scanFields 111 = .ok (.iadd, 1) := by decide +kernel
theorem dX13_scanFields_112 : decode cX13_scanFields 112 = .ok (.iaload, 1) := by decide +kernel
theorem dX13_scanFields_113 : decode cX13_scanFields 113 = .ok (.iconst 1, 1) := by decide +kernel
theorem dX13_scanFields_114 : decode cX13_scanFields 114 = .ok (.invokevirtual 821, 3) := by decide +kernel
theorem dX13_scanFields_117 : decode cX13_scanFields 117 = .ok (.ifCond .ne 10, 3) := by decide +kernel
theorem dX13_scanFields_120 : decode cX13_scanFields 120 = .ok (.aload_n 0, 1) := by decide +kernel
theorem dX13_scanFields_121 : decode cX13_scanFields 121 = .ok (.iload_n 3, 1) := by decide +kernel
theorem dX13_scanFields_122 : decode cX13_scanFields 122 = .ok (.iconst 1, 1) := by decide +kernel
theorem dX13_scanFields_123 : decode cX13_scanFields 123 = .ok (.iadd, 1) := by decide +kernel
theorem dX13_scanFields_124 : decode cX13_scanFields 124 = .ok (.invokevirtual 803, 3) := by decide +kernel
theorem dX13_scanFields_127 : decode cX13_scanFields 127 = .ok (.iinc 3 2, 3) := by decide +kernel
theorem dX13_scanFields_130 : decode cX13_scanFields 130 = .ok (.iinc 4 1, 3) := by decide +kernel
theorem dX13_scanFields_133 : decode cX13_scanFields 133 = .ok (.goto (-98), 3) := by decide +kernel
theorem dX13_scanFields_136 : decode cX13_scanFields 136 = .ok (.iload_n 3, 1) := by decide +kernel
theorem dX13_scanFields_137 : decode cX13_scanFields 137 = .ok (.ireturn, 1) := by decide +kernel
theorem mt_X13_pairAt : mx_mt 501 = some (yX13_pairAt, cX13_pairAt, 2, (some .int)) := rfl
theorem dX13_pairAt_0 : decode cX13_pairAt 0 = .ok (.aload_n 0, 1) := by decide +kernel
theorem dX13_pairAt_1 : decode cX13_pairAt 1 = .ok (.getfield 245, 3) := by decide +kernel
theorem dX13_pairAt_4 : decode cX13_pairAt 4 = .ok (.iload_n 1, 1) := by decide +kernel
theorem dX13_pairAt_5 : decode cX13_pairAt 5 = .ok (.iaload, 1) := by decide +kernel
theorem dX13_pairAt_6 : decode cX13_pairAt 6 = .ok (.bipush 8, 2) := by decide +kernel
theorem dX13_pairAt_8 : decode cX13_pairAt 8 = .ok (.ishl, 1) := by decide +kernel
theorem dX13_pairAt_9 : decode cX13_pairAt 9 = .ok (.aload_n 0, 1) := by decide +kernel
theorem dX13_pairAt_10 : decode cX13_pairAt 10 = .ok (.getfield 245, 3) := by decide +kernel
theorem dX13_pairAt_13 : decode cX13_pairAt 13 = .ok (.iload_n 1, 1) := by decide +kernel
theorem dX13_pairAt_14 : decode cX13_pairAt 14 = .ok (.iconst 1, 1) := by decide +kernel
theorem dX13_pairAt_15 : decode cX13_pairAt 15 = .ok (.iadd, 1) := by decide +kernel
theorem dX13_pairAt_16 : decode cX13_pairAt 16 = .ok (.iaload, 1) := by decide +kernel
theorem dX13_pairAt_17 : decode cX13_pairAt 17 = .ok (.ior, 1) := by decide +kernel
theorem dX13_pairAt_18 : decode cX13_pairAt 18 = .ok (.ireturn, 1) := by decide +kernel
theorem rs_RX13_812 : mx_res RX13 812 = some (1, 500, 2) := by decide +kernel
theorem mt_X13_scanTypes : mx_mt 507 = some (yX13_scanTypes, cX13_scanTypes, 5, (some .int)) := rfl
theorem dX13_scanTypes_0 : decode cX13_scanTypes 0 = .ok (.aload_n 0, 1) := by decide +kernel
theorem dX13_scanTypes_1 : decode cX13_scanTypes 1 = .ok (.iload_n 1, 1) := by decide +kernel
theorem dX13_scanTypes_2 : decode cX13_scanTypes 2 = .ok (.invokevirtual 800, 3) := by decide +kernel
theorem dX13_scanTypes_5 : decode cX13_scanTypes 5 = .ok (.ifCond .ne 5, 3) := by decide +kernel
theorem dX13_scanTypes_8 : decode cX13_scanTypes 8 = .ok (.iload_n 1, 1) := by decide +kernel
theorem dX13_scanTypes_9 : decode cX13_scanTypes 9 = .ok (.ireturn, 1) := by decide +kernel
theorem dX13_scanTypes_10 : decode cX13_scanTypes 10 = .ok (.aload_n 0, 1) := by decide +kernel
theorem dX13_scanTypes_11 : decode cX13_scanTypes 11 = .ok (.getfield 245, 3) := by decide +kernel
theorem dX13_scanTypes_14 : decode cX13_scanTypes 14 = .ok (.iload_n 1, 1) := by decide +kernel
theorem dX13_scanTypes_15 : decode cX13_scanTypes 15 = .ok (.iaload, 1) := by decide +kernel
theorem dX13_scanTypes_16 : decode cX13_scanTypes 16 = .ok (.istore_n 2, 1) := by decide +kernel
theorem dX13_scanTypes_17 : decode cX13_scanTypes 17 = .ok (.iload_n 1, 1) := by decide +kernel
theorem dX13_scanTypes_18 : decode cX13_scanTypes 18 = .ok (.iconst 1, 1) := by decide +kernel
theorem dX13_scanTypes_19 : decode cX13_scanTypes 19 = .ok (.iadd, 1) := by decide +kernel
theorem dX13_scanTypes_20 : decode cX13_scanTypes 20 = .ok (.istore_n 3, 1) := by decide +kernel
theorem dX13_scanTypes_21 : decode cX13_scanTypes 21 = .ok (.iconst 0, 1) := by decide +kernel
theorem dX13_scanTypes_22 : decode cX13_scanTypes 22 = .ok (.istore 4, 2) := by decide +kernel
theorem dX13_scanTypes_24 : decode cX13_scanTypes 24 = .ok (.iload 4, 2) := by decide +kernel
theorem dX13_scanTypes_26 : decode cX13_scanTypes 26 = .ok (.iload_n 2, 1) := by decide +kernel
theorem dX13_scanTypes_27 : decode cX13_scanTypes 27 = .ok (.if_icmp .ge 77, 3) := by decide +kernel
theorem dX13_scanTypes_30 : decode cX13_scanTypes 30 = .ok (.aload_n 0, 1) := by decide +kernel
theorem dX13_scanTypes_31 : decode cX13_scanTypes 31 = .ok (.iload_n 3, 1) := by decide +kernel
theorem dX13_scanTypes_32 : decode cX13_scanTypes 32 = .ok (.invokevirtual 800, 3) := by decide +kernel
theorem dX13_scanTypes_35 : decode cX13_scanTypes 35 = .ok (.ifCond .ne 5, 3) := by decide +kernel
theorem dX13_scanTypes_38 : decode cX13_scanTypes 38 = .ok (.iload_n 3, 1) := by decide +kernel
theorem dX13_scanTypes_39 : decode cX13_scanTypes 39 = .ok (.ireturn, 1) := by decide +kernel
theorem dX13_scanTypes_40 : decode cX13_scanTypes 40 = .ok (.aload_n 0, 1) := by decide +kernel
theorem dX13_scanTypes_41 : decode cX13_scanTypes 41 = .ok (.getfield 245, 3) := by decide +kernel
theorem dX13_scanTypes_44 : decode cX13_scanTypes 44 = .ok (.iload_n 3, 1) := by decide +kernel
theorem dX13_scanTypes_45 : decode cX13_scanTypes 45 = .ok (.iaload, 1) := by decide +kernel
theorem dX13_scanTypes_46 : decode cX13_scanTypes 46 = .ok (.iconst 3, 1) := by decide +kernel
theorem dX13_scanTypes_47 : decode cX13_scanTypes 47 = .ok (.if_icmp .le 8, 3) := by decide +kernel
theorem dX13_scanTypes_50 : decode cX13_scanTypes 50 = .ok (.aload_n 0, 1) := by decide +kernel
theorem dX13_scanTypes_51 : decode cX13_scanTypes 51 = .ok (.iload_n 3, 1) := by decide +kernel
theorem dX13_scanTypes_52 : decode cX13_scanTypes 52 = .ok (.invokevirtual 803, 3) := by decide +kernel
theorem dX13_scanTypes_55 : decode cX13_scanTypes 55 = .ok (.aload_n 0, 1) := by decide +kernel
theorem dX13_scanTypes_56 : decode cX13_scanTypes 56 = .ok (.getfield 245, 3) := by decide +kernel
theorem dX13_scanTypes_59 : decode cX13_scanTypes 59 = .ok (.iload_n 3, 1) := by decide +kernel
theorem dX13_scanTypes_60 : decode cX13_scanTypes 60 = .ok (.iaload, 1) := by decide +kernel
theorem dX13_scanTypes_61 : decode cX13_scanTypes 61 = .ok (.iconst 3, 1) := by decide +kernel
theorem dX13_scanTypes_62 : decode cX13_scanTypes 62 = .ok (.if_icmp .ne 33, 3) := by decide +kernel
theorem dX13_scanTypes_65 : decode cX13_scanTypes 65 = .ok (.iinc 3 1, 3) := by decide +kernel
theorem dX13_scanTypes_68 : decode cX13_scanTypes 68 = .ok (.aload_n 0, 1) := by decide +kernel
theorem dX13_scanTypes_69 : decode cX13_scanTypes 69 = .ok (.iload_n 3, 1) := by decide +kernel
theorem dX13_scanTypes_70 : decode cX13_scanTypes 70 = .ok (.invokevirtual 800, 3) := by decide +kernel
theorem dX13_scanTypes_73 : decode cX13_scanTypes 73 = .ok (.ifCond .eq 22, 3) := by decide +kernel
theorem dX13_scanTypes_76 : decode cX13_scanTypes 76 = .ok (.aload_n 0, 1) := by decide +kernel
theorem dX13_scanTypes_77 : decode cX13_scanTypes 77 = .ok (.aload_n 0, 1) := by decide +kernel
theorem dX13_scanTypes_78 : decode cX13_scanTypes 78 = .ok (.getfield 245, 3) := by decide +kernel
theorem dX13_scanTypes_81 : decode cX13_scanTypes 81 = .ok (.iload_n 3, 1) := by decide +kernel
theorem dX13_scanTypes_82 : decode cX13_scanTypes 82 = .ok (.iaload, 1) := by decide +kernel
theorem dX13_scanTypes_83 : decode cX13_scanTypes 83 = .ok (.iconst 1, 1) := by decide +kernel
theorem dX13_scanTypes_84 : decode cX13_scanTypes 84 = .ok (.invokevirtual 812, 3) := by decide +kernel
theorem dX13_scanTypes_87 : decode cX13_scanTypes 87 = .ok (.ifCond .ne 8, 3) := by decide +kernel
theorem dX13_scanTypes_90 : decode cX13_scanTypes 90 = .ok (.aload_n 0, 1) := by decide +kernel
theorem dX13_scanTypes_91 : decode cX13_scanTypes 91 = .ok (.iload_n 3, 1) := by decide +kernel
theorem dX13_scanTypes_92 : decode cX13_scanTypes 92 = .ok (.invokevirtual 803, 3) := by decide +kernel
theorem dX13_scanTypes_95 : decode cX13_scanTypes 95 = .ok (.iinc 3 1, 3) := by decide +kernel
theorem dX13_scanTypes_98 : decode cX13_scanTypes 98 = .ok (.iinc 4 1, 3) := by decide +kernel
theorem dX13_scanTypes_101 : decode cX13_scanTypes 101 = .ok (.goto (-77), 3) := by decide +kernel
theorem dX13_scanTypes_104 : decode cX13_scanTypes 104 = .ok (.iload_n 3, 1) := by decide +kernel
theorem dX13_scanTypes_105 : decode cX13_scanTypes 105 = .ok (.ireturn, 1) := by decide +kernel
