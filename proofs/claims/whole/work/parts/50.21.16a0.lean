theorem mt_X3_parametersIn : mx_mt 116 = some (yX3_parametersIn, cX3_parametersIn, 6, (some .int)) := rfl
theorem dX3_parametersIn_0 : decode cX3_parametersIn 0 = .ok (.aload_n 0, 1) := by decide +kernel
theorem dX3_parametersIn_1 : decode cX3_parametersIn 1 = .ok (.iload_n 1, 1) := by decide +kernel
theorem dX3_parametersIn_2 : decode cX3_parametersIn 2 = .ok (.invokevirtual 112, 3) := by decide +kernel
theorem dX3_parametersIn_5 : decode cX3_parametersIn 5 = .ok (.iconst 1, 1) := by decide +kernel
theorem dX3_parametersIn_6 : decode cX3_parametersIn 6 = .ok (.if_icmp .ne 18, 3) := by decide +kernel
theorem dX3_parametersIn_9 : decode cX3_parametersIn 9 = .ok (.aload_n 0, 1) := by decide +kernel
theorem dX3_parametersIn_10 : decode cX3_parametersIn 10 = .ok (.aload_n 0, 1) := by decide +kernel
theorem dX3_parametersIn_11 : decode cX3_parametersIn 11 = .ok (.getfield 19, 3) := by decide +kernel
theorem dX3_parametersIn_14 : decode cX3_parametersIn 14 = .ok (.iload_n 1, 1) := by decide +kernel
theorem dX3_parametersIn_15 : decode cX3_parametersIn 15 = .ok (.iaload, 1) := by decide +kernel
theorem dX3_parametersIn_16 : decode cX3_parametersIn 16 = .ok (.invokevirtual 119, 3) := by decide +kernel
theorem dX3_parametersIn_19 : decode cX3_parametersIn 19 = .ok (.bipush 40, 2) := by decide +kernel
theorem dX3_parametersIn_21 : decode cX3_parametersIn 21 = .ok (.if_icmp .eq 5, 3) := by decide +kernel
theorem dX3_parametersIn_24 : decode cX3_parametersIn 24 = .ok (.iconst (-1), 1) := by decide +kernel
theorem dX3_parametersIn_25 : decode cX3_parametersIn 25 = .ok (.ireturn, 1) := by decide +kernel
theorem dX3_parametersIn_26 : decode cX3_parametersIn 26 = .ok (.aload_n 0, 1) := by decide +kernel
theorem dX3_parametersIn_27 : decode cX3_parametersIn 27 = .ok (.getfield 22, 3) := by decide +kernel
theorem dX3_parametersIn_30 : decode cX3_parametersIn 30 = .ok (.iload_n 1, 1) := by decide +kernel
theorem dX3_parametersIn_31 : decode cX3_parametersIn 31 = .ok (.iaload, 1) := by decide +kernel
theorem dX3_parametersIn_32 : decode cX3_parametersIn 32 = .ok (.istore_n 2, 1) := by decide +kernel
theorem dX3_parametersIn_33 : decode cX3_parametersIn 33 = .ok (.aload_n 0, 1) := by decide +kernel
theorem dX3_parametersIn_34 : decode cX3_parametersIn 34 = .ok (.getfield 19, 3) := by decide +kernel
theorem dX3_parametersIn_37 : decode cX3_parametersIn 37 = .ok (.iload_n 1, 1) := by decide +kernel
theorem dX3_parametersIn_38 : decode cX3_parametersIn 38 = .ok (.iaload, 1) := by decide +kernel
theorem dX3_parametersIn_39 : decode cX3_parametersIn 39 = .ok (.iconst 1, 1) := by decide +kernel
theorem dX3_parametersIn_40 : decode cX3_parametersIn 40 = .ok (.iadd, 1) := by decide +kernel
theorem dX3_parametersIn_41 : decode cX3_parametersIn 41 = .ok (.istore_n 3, 1) := by decide +kernel
theorem dX3_parametersIn_42 : decode cX3_parametersIn 42 = .ok (.iconst 0, 1) := by decide +kernel
theorem dX3_parametersIn_43 : decode cX3_parametersIn 43 = .ok (.istore 4, 2) := by decide +kernel
theorem dX3_parametersIn_45 : decode cX3_parametersIn 45 = .ok (.iload 4, 2) := by decide +kernel
theorem dX3_parametersIn_47 : decode cX3_parametersIn 47 = .ok (.bipush 6, 2) := by decide +kernel
theorem dX3_parametersIn_49 : decode cX3_parametersIn 49 = .ok (.if_icmp .gt 36, 3) := by decide +kernel
theorem dX3_parametersIn_52 : decode cX3_parametersIn 52 = .ok (.iload_n 3, 1) := by decide +kernel
theorem dX3_parametersIn_53 : decode cX3_parametersIn 53 = .ok (.iconst (-1), 1) := by decide +kernel
theorem dX3_parametersIn_54 : decode cX3_parametersIn 54 = .ok (.if_icmp .eq 31, 3) := by decide +kernel
theorem dX3_parametersIn_57 : decode cX3_parametersIn 57 = .ok (.iload_n 3, 1) := by decide +kernel
theorem dX3_parametersIn_58 : decode cX3_parametersIn 58 = .ok (.iload_n 2, 1) := by decide +kernel
theorem dX3_parametersIn_59 : decode cX3_parametersIn 59 = .ok (.if_icmp .ge 26, 3) := by decide +kernel
theorem dX3_parametersIn_62 : decode cX3_parametersIn 62 = .ok (.aload_n 0, 1) := by decide +kernel
theorem dX3_parametersIn_63 : decode cX3_parametersIn 63 = .ok (.iload_n 3, 1) := by decide +kernel
theorem dX3_parametersIn_64 : decode cX3_parametersIn 64 = .ok (.invokevirtual 119, 3) := by decide +kernel
theorem dX3_parametersIn_67 : decode cX3_parametersIn 67 = .ok (.bipush 41, 2) := by decide +kernel
theorem dX3_parametersIn_69 : decode cX3_parametersIn 69 = .ok (.if_icmp .eq 16, 3) := by decide +kernel
theorem dX3_parametersIn_72 : decode cX3_parametersIn 72 = .ok (.aload_n 0, 1) := by decide +kernel
theorem dX3_parametersIn_73 : decode cX3_parametersIn 73 = .ok (.iload_n 3, 1) := by decide +kernel
theorem dX3_parametersIn_74 : decode cX3_parametersIn 74 = .ok (.iload_n 2, 1) := by decide +kernel
theorem dX3_parametersIn_75 : decode cX3_parametersIn 75 = .ok (.invokevirtual 149, 3) := by decide +kernel
theorem dX3_parametersIn_78 : decode cX3_parametersIn 78 = .ok (.istore_n 3, 1) := by decide +kernel
theorem dX3_parametersIn_79 : decode cX3_parametersIn 79 = .ok (.iinc 4 1, 3) := by decide +kernel
theorem dX3_parametersIn_82 : decode cX3_parametersIn 82 = .ok (.goto (-37), 3) := by decide +kernel
theorem dX3_parametersIn_85 : decode cX3_parametersIn 85 = .ok (.iload_n 3, 1) := by decide +kernel
theorem dX3_parametersIn_86 : decode cX3_parametersIn 86 = .ok (.iconst (-1), 1) := by decide +kernel
theorem dX3_parametersIn_87 : decode cX3_parametersIn 87 = .ok (.if_icmp .eq 15, 3) := by decide +kernel
theorem dX3_parametersIn_90 : decode cX3_parametersIn 90 = .ok (.iload_n 3, 1) := by decide +kernel
theorem dX3_parametersIn_91 : decode cX3_parametersIn 91 = .ok (.iload_n 2, 1) := by decide +kernel
theorem dX3_parametersIn_92 : decode cX3_parametersIn 92 = .ok (.if_icmp .ge 10, 3) := by decide +kernel
theorem dX3_parametersIn_95 : decode cX3_parametersIn 95 = .ok (.iload 4, 2) := by decide +kernel
theorem dX3_parametersIn_97 : decode cX3_parametersIn 97 = .ok (.bipush 6, 2) := by decide +kernel
theorem dX3_parametersIn_99 : decode cX3_parametersIn 99 = .ok (.if_icmp .le 5, 3) := by decide +kernel
theorem dX3_parametersIn_102 : decode cX3_parametersIn 102 = .ok (.iconst (-1), 1) := by decide +kernel
theorem dX3_parametersIn_103 : decode cX3_parametersIn 103 = .ok (.ireturn, 1) := by decide +kernel
theorem dX3_parametersIn_104 : decode cX3_parametersIn 104 = .ok (.iload_n 3, 1) := by decide +kernel
theorem dX3_parametersIn_105 : decode cX3_parametersIn 105 = .ok (.iconst 2, 1) := by decide +kernel
theorem dX3_parametersIn_106 : decode cX3_parametersIn 106 = .ok (.iadd, 1) := by decide +kernel
theorem dX3_parametersIn_107 : decode cX3_parametersIn 107 = .ok (.iload_n 2, 1) := by decide +kernel
theorem dX3_parametersIn_108 : decode cX3_parametersIn 108 = .ok (.if_icmp .ne 19, 3) := by decide +kernel
theorem dX3_parametersIn_111 : decode cX3_parametersIn 111 = .ok (.aload_n 0, 1) := by decide +kernel
theorem dX3_parametersIn_112 : decode cX3_parametersIn 112 = .ok (.iload_n 3, 1) := by decide +kernel
theorem dX3_parametersIn_113 : decode cX3_parametersIn 113 = .ok (.iconst 1, 1) := by decide +kernel
theorem dX3_parametersIn_114 : decode cX3_parametersIn 114 = .ok (.iadd, 1) := by decide +kernel
theorem dX3_parametersIn_115 : decode cX3_parametersIn 115 = .ok (.invokevirtual 119, 3) := by decide +kernel
theorem dX3_parametersIn_118 : decode cX3_parametersIn 118 = .ok (.bipush 86, 2) := by decide +kernel
theorem dX3_parametersIn_120 : decode cX3_parametersIn 120 = .ok (.if_icmp .ne 7, 3) := by decide +kernel
theorem dX3_parametersIn_123 : decode cX3_parametersIn 123 = .ok (.iconst 1, 1) := by decide +kernel
theorem dX3_parametersIn_124 : decode cX3_parametersIn 124 = .ok (.goto 4, 3) := by decide +kernel
theorem dX3_parametersIn_127 : decode cX3_parametersIn 127 = .ok (.iconst 0, 1) := by decide +kernel
theorem dX3_parametersIn_128 : decode cX3_parametersIn 128 = .ok (.istore 5, 2) := by decide +kernel
theorem dX3_parametersIn_130 : decode cX3_parametersIn 130 = .ok (.iload 5, 2) := by decide +kernel
theorem dX3_parametersIn_132 : decode cX3_parametersIn 132 = .ok (.ifCond .ne 15, 3) := by decide +kernel
theorem dX3_parametersIn_135 : decode cX3_parametersIn 135 = .ok (.aload_n 0, 1) := by decide +kernel
theorem dX3_parametersIn_136 : decode cX3_parametersIn 136 = .ok (.iload_n 3, 1) := by decide +kernel
theorem dX3_parametersIn_137 : decode cX3_parametersIn 137 = .ok (.iconst 1, 1) := by decide +kernel
theorem dX3_parametersIn_138 : decode cX3_parametersIn 138 = .ok (.iadd, 1) := by decide +kernel
theorem dX3_parametersIn_139 : decode cX3_parametersIn 139 = .ok (.iload_n 2, 1) := by decide +kernel
theorem dX3_parametersIn_140 : decode cX3_parametersIn 140 = .ok (.invokevirtual 149, 3) := by decide +kernel
theorem dX3_parametersIn_143 : decode cX3_parametersIn 143 = .ok (.iload_n 2, 1) := by decide +kernel
theorem dX3_parametersIn_144 : decode cX3_parametersIn 144 = .ok (.if_icmp .ne 8, 3) := by decide +kernel
theorem dX3_parametersIn_147 : decode cX3_parametersIn 147 = .ok (.iload 4, 2) := by decide +kernel
theorem dX3_parametersIn_149 : decode cX3_parametersIn 149 = .ok (.goto 4, 3) := by decide +kernel
theorem dX3_parametersIn_152 : decode cX3_parametersIn 152 = .ok (.iconst (-1), 1) := by decide +kernel
theorem dX3_parametersIn_153 : decode cX3_parametersIn 153 = .ok (.ireturn, 1) := by decide +kernel
theorem rs_RX3_102 : mx_res RX3 102 = some (1, 112, 1) := by decide +kernel
theorem rs_RX3_109 : mx_res RX3 109 = some (1, 114, 1) := by decide +kernel
theorem rs_RX3_116 : mx_res RX3 116 = some (1, 116, 1) := by decide +kernel
theorem mt_X3_checkConstant : mx_mt 101 = some (yX3_checkConstant, cX3_checkConstant, 4, none) := rfl
theorem dX3_checkConstant_0 : decode cX3_checkConstant 0 = .ok (.aload_n 0, 1) := by decide +kernel
theorem dX3_checkConstant_1 : decode cX3_checkConstant 1 = .ok (.getfield 19, 3) := by decide +kernel
theorem dX3_checkConstant_4 : decode cX3_checkConstant 4 = .ok (.iload_n 1, 1) := by decide +kernel
theorem dX3_checkConstant_5 : decode cX3_checkConstant 5 = .ok (.iaload, 1) := by decide +kernel
theorem dX3_checkConstant_6 : decode cX3_checkConstant 6 = .ok (.istore_n 2, 1) := by decide +kernel
theorem dX3_checkConstant_7 : decode cX3_checkConstant 7 = .ok (.aload_n 0, 1) := by decide +kernel
theorem dX3_checkConstant_8 : decode cX3_checkConstant 8 = .ok (.getfield 15, 3) := by decide +kernel
theorem dX3_checkConstant_11 : decode cX3_checkConstant 11 = .ok (.iload_n 1, 1) := by decide +kernel
theorem dX3_checkConstant_12 : decode cX3_checkConstant 12 = .ok (.iaload, 1) := by decide +kernel
theorem dX3_checkConstant_13 : decode cX3_checkConstant 13 = .ok (.iconst 3, 1) := by decide +kernel
theorem dX3_checkConstant_14 : decode cX3_checkConstant 14 = .ok (.if_icmp .ne 39, 3) := by decide +kernel
theorem dX3_checkConstant_17 : decode cX3_checkConstant 17 = .ok (.aload_n 0, 1) := by decide +kernel
theorem dX3_checkConstant_18 : decode cX3_checkConstant 18 = .ok (.iload_n 1, 1) := by decide +kernel
theorem dX3_checkConstant_19 : decode cX3_checkConstant 19 = .ok (.iconst 0, 1) := by decide +kernel
theorem dX3_checkConstant_20 : decode cX3_checkConstant 20 = .ok (.invokevirtual 99, 3) := by decide +kernel
theorem dX3_checkConstant_23 : decode cX3_checkConstant 23 = .ok (.istore_n 3, 1) := by decide +kernel
theorem dX3_checkConstant_24 : decode cX3_checkConstant 24 = .ok (.aload_n 0, 1) := by decide +kernel
theorem dX3_checkConstant_25 : decode cX3_checkConstant 25 = .ok (.iload_n 3, 1) := by decide +kernel
theorem dX3_checkConstant_26 : decode cX3_checkConstant 26 = .ok (.invokevirtual 102, 3) := by decide +kernel
theorem dX3_checkConstant_29 : decode cX3_checkConstant 29 = .ok (.ifCond .ne 24, 3) := by decide +kernel
theorem dX3_checkConstant_32 : decode cX3_checkConstant 32 = .ok (.aload_n 0, 1) := by decide +kernel
theorem dX3_checkConstant_33 : decode cX3_checkConstant 33 = .ok (.iload_n 3, 1) := by decide +kernel
theorem dX3_checkConstant_34 : decode cX3_checkConstant 34 = .ok (.invokevirtual 106, 3) := by decide +kernel
theorem dX3_checkConstant_37 : decode cX3_checkConstant 37 = .ok (.ifCond .eq 11, 3) := by decide +kernel
theorem dX3_checkConstant_40 : decode cX3_checkConstant 40 = .ok (.aload_n 0, 1) := by decide +kernel
theorem dX3_checkConstant_41 : decode cX3_checkConstant 41 = .ok (.iload_n 3, 1) := by decide +kernel
theorem dX3_checkConstant_42 : decode cX3_checkConstant 42 = .ok (.invokevirtual 109, 3) := by decide +kernel
theorem dX3_checkConstant_45 : decode cX3_checkConstant 45 = .ok (.ifCond .ne 8, 3) := by decide +kernel
theorem dX3_checkConstant_48 : decode cX3_checkConstant 48 = .ok (.aload_n 0, 1) := by decide +kernel
theorem dX3_checkConstant_49 : decode cX3_checkConstant 49 = .ok (.iload_n 2, 1) := by decide +kernel
theorem dX3_checkConstant_50 : decode cX3_checkConstant 50 = .ok (.invokevirtual 78, 3) := by decide +kernel
theorem dX3_checkConstant_53 : decode cX3_checkConstant 53 = .ok (.aload_n 0, 1) := by decide +kernel
theorem dX3_checkConstant_54 : decode cX3_checkConstant 54 = .ok (.getfield 15, 3) := by decide +kernel
theorem dX3_checkConstant_57 : decode cX3_checkConstant 57 = .ok (.iload_n 1, 1) := by decide +kernel
theorem dX3_checkConstant_58 : decode cX3_checkConstant 58 = .ok (.iaload, 1) := by decide +kernel
theorem dX3_checkConstant_59 : decode cX3_checkConstant 59 = .ok (.iconst 4, 1) := by decide +kernel
theorem dX3_checkConstant_60 : decode cX3_checkConstant 60 = .ok (.if_icmp .ne 73, 3) := by decide +kernel
theorem dX3_checkConstant_63 : decode cX3_checkConstant 63 = .ok (.aload_n 0, 1) := by decide +kernel
theorem dX3_checkConstant_64 : decode cX3_checkConstant 64 = .ok (.iload_n 1, 1) := by decide +kernel
theorem dX3_checkConstant_65 : decode cX3_checkConstant 65 = .ok (.iconst 2, 1) := by decide +kernel
theorem dX3_checkConstant_66 : decode cX3_checkConstant 66 = .ok (.invokevirtual 99, 3) := by decide +kernel
theorem dX3_checkConstant_69 : decode cX3_checkConstant 69 = .ok (.istore_n 3, 1) := by decide +kernel
theorem dX3_checkConstant_70 : decode cX3_checkConstant 70 = .ok (.aload_n 0, 1) := by decide +kernel
theorem dX3_checkConstant_71 : decode cX3_checkConstant 71 = .ok (.aload_n 0, 1) := by decide +kernel
theorem dX3_checkConstant_72 : decode cX3_checkConstant 72 = .ok (.iload_n 1, 1) := by decide +kernel
theorem dX3_checkConstant_73 : decode cX3_checkConstant 73 = .ok (.iconst 0, 1) := by decide +kernel
theorem dX3_checkConstant_74 : decode cX3_checkConstant 74 = .ok (.invokevirtual 99, 3) := by decide +kernel
theorem dX3_checkConstant_77 : decode cX3_checkConstant 77 = .ok (.invokevirtual 112, 3) := by decide +kernel
theorem dX3_checkConstant_80 : decode cX3_checkConstant 80 = .ok (.iconst 3, 1) := by decide +kernel
theorem dX3_checkConstant_81 : decode cX3_checkConstant 81 = .ok (.if_icmp .eq 8, 3) := by decide +kernel
theorem dX3_checkConstant_84 : decode cX3_checkConstant 84 = .ok (.aload_n 0, 1) := by decide +kernel
theorem dX3_checkConstant_85 : decode cX3_checkConstant 85 = .ok (.iload_n 2, 1) := by decide +kernel
theorem dX3_checkConstant_86 : decode cX3_checkConstant 86 = .ok (.invokevirtual 78, 3) := by decide +kernel
theorem dX3_checkConstant_89 : decode cX3_checkConstant 89 = .ok (.aload_n 0, 1) := by decide +kernel
theorem dX3_checkConstant_90 : decode cX3_checkConstant 90 = .ok (.aload_n 0, 1) := by decide +kernel
theorem dX3_checkConstant_91 : decode cX3_checkConstant 91 = .ok (.iload_n 1, 1) := by decide +kernel
theorem dX3_checkConstant_92 : decode cX3_checkConstant 92 = .ok (.iconst 1, 1) := by decide +kernel
theorem dX3_checkConstant_93 : decode cX3_checkConstant 93 = .ok (.invokevirtual 99, 3) := by decide +kernel
theorem dX3_checkConstant_96 : decode cX3_checkConstant 96 = .ok (.invokevirtual 102, 3) := by decide +kernel
theorem dX3_checkConstant_99 : decode cX3_checkConstant 99 = .ok (.ifCond .ne 10, 3) := by decide +kernel
theorem dX3_checkConstant_102 : decode cX3_checkConstant 102 = .ok (.aload_n 0, 1) := by decide +kernel
theorem dX3_checkConstant_103 : decode cX3_checkConstant 103 = .ok (.iload_n 2, 1) := by decide +kernel
theorem dX3_checkConstant_104 : decode cX3_checkConstant 104 = .ok (.iconst 1, 1) := by decide +kernel
theorem dX3_checkConstant_105 : decode cX3_checkConstant 105 = .ok (.iadd, 1) := by decide +kernel
theorem dX3_checkConstant_106 : decode cX3_checkConstant 106 = .ok (.invokevirtual 78, 3) := by decide +kernel
theorem dX3_checkConstant_109 : decode cX3_checkConstant 109 = .ok (.aload_n 0, 1) := by decide +kernel
theorem dX3_checkConstant_110 : decode cX3_checkConstant 110 = .ok (.iload_n 3, 1) := by decide +kernel
theorem dX3_checkConstant_111 : decode cX3_checkConstant 111 = .ok (.invokevirtual 109, 3) := by decide +kernel
theorem dX3_checkConstant_114 : decode cX3_checkConstant 114 = .ok (.ifCond .ne 19, 3) := by decide +kernel
theorem dX3_checkConstant_117 : decode cX3_checkConstant 117 = .ok (.aload_n 0, 1) := by decide +kernel
theorem dX3_checkConstant_118 : decode cX3_checkConstant 118 = .ok (.iload_n 3, 1) := by decide +kernel
theorem dX3_checkConstant_119 : decode cX3_checkConstant 119 = .ok (.invokevirtual 116, 3) := by decide +kernel
theorem dX3_checkConstant_122 : decode cX3_checkConstant 122 = .ok (.iconst (-1), 1) := by decide +kernel
theorem dX3_checkConstant_123 : decode cX3_checkConstant 123 = .ok (.if_icmp .ne 10, 3) := by decide +kernel
theorem dX3_checkConstant_126 : decode cX3_checkConstant 126 = .ok (.aload_n 0, 1) := by decide +kernel
theorem dX3_checkConstant_127 : decode cX3_checkConstant 127 = .ok (.iload_n 2, 1) := by decide +kernel
theorem dX3_checkConstant_128 : decode cX3_checkConstant 128 = .ok (.iconst 2, 1) := by decide +kernel
theorem dX3_checkConstant_129 : decode cX3_checkConstant 129 = .ok (.iadd, 1) := by decide +kernel
theorem dX3_checkConstant_130 : decode cX3_checkConstant 130 = .ok (.invokevirtual 78, 3) := by decide +kernel
theorem dX3_checkConstant_133 : decode cX3_checkConstant 133 = .ok (.return_, 1) := by decide +kernel
theorem rs_RX3_71 : mx_res RX3 71 = some (1, 97, 2) := by decide +kernel
theorem mt_X3_readConstant : mx_mt 100 = some (yX3_readConstant, cX3_readConstant, 5, none) := rfl
theorem dX3_readConstant_0 : decode cX3_readConstant 0 = .ok (.aload_n 0, 1) := by decide +kernel
theorem dX3_readConstant_1 : decode cX3_readConstant 1 = .ok (.iconst 1, 1) := by decide +kernel
theorem dX3_readConstant_2 : decode cX3_readConstant 2 = .ok (.iconst 4, 1) := by decide +kernel
theorem dX3_readConstant_3 : decode cX3_readConstant 3 = .ok (.invokevirtual 71, 3) := by decide +kernel
theorem dX3_readConstant_6 : decode cX3_readConstant 6 = .ok (.istore_n 2, 1) := by decide +kernel
theorem dX3_readConstant_7 : decode cX3_readConstant 7 = .ok (.iload_n 2, 1) := by decide +kernel
theorem dX3_readConstant_8 : decode cX3_readConstant 8 = .ok (.iconst 2, 1) := by decide +kernel
theorem dX3_readConstant_9 : decode cX3_readConstant 9 = .ok (.if_icmp .ne 7, 3) := by decide +kernel
theorem dX3_readConstant_12 : decode cX3_readConstant 12 = .ok (.iconst 4, 1) := by decide +kernel
theorem dX3_readConstant_13 : decode cX3_readConstant 13 = .ok (.goto 13, 3) := by decide +kernel
theorem dX3_readConstant_16 : decode cX3_readConstant 16 = .ok (.iload_n 2, 1) := by decide +kernel
theorem dX3_readConstant_17 : decode cX3_readConstant 17 = .ok (.iconst 3, 1) := by decide +kernel
theorem dX3_readConstant_18 : decode cX3_readConstant 18 = .ok (.if_icmp .ne 7, 3) := by decide +kernel
theorem dX3_readConstant_21 : decode cX3_readConstant 21 = .ok (.iconst 1, 1) := by decide +kernel
theorem dX3_readConstant_22 : decode cX3_readConstant 22 = .ok (.goto 4, 3) := by decide +kernel
theorem dX3_readConstant_25 : decode cX3_readConstant 25 = .ok (.iconst 3, 1) := by decide +kernel
theorem dX3_readConstant_26 : decode cX3_readConstant 26 = .ok (.istore_n 3, 1) := by decide +kernel
theorem dX3_readConstant_27 : decode cX3_readConstant 27 = .ok (.iload_n 2, 1) := by decide +kernel
theorem dX3_readConstant_28 : decode cX3_readConstant 28 = .ok (.iconst 1, 1) := by decide +kernel
theorem dX3_readConstant_29 : decode cX3_readConstant 29 = .ok (.if_icmp .ne 11, 3) := by decide +kernel
theorem dX3_readConstant_32 : decode cX3_readConstant 32 = .ok (.aload_n 0, 1) := by decide +kernel
theorem dX3_readConstant_33 : decode cX3_readConstant 33 = .ok (.iconst 1, 1) := by decide +kernel
theorem dX3_readConstant_34 : decode cX3_readConstant 34 = .ok (.bipush 120, 2) := by decide +kernel
theorem dX3_readConstant_36 : decode cX3_readConstant 36 = .ok (.invokevirtual 71, 3) := by decide +kernel
theorem dX3_readConstant_39 : decode cX3_readConstant 39 = .ok (.istore_n 3, 1) := by decide +kernel
theorem dX3_readConstant_40 : decode cX3_readConstant 40 = .ok (.aload_n 0, 1) := by decide +kernel
theorem dX3_readConstant_41 : decode cX3_readConstant 41 = .ok (.getfield 15, 3) := by decide +kernel
theorem dX3_readConstant_44 : decode cX3_readConstant 44 = .ok (.iload_n 1, 1) := by decide +kernel
theorem dX3_readConstant_45 : decode cX3_readConstant 45 = .ok (.iload_n 2, 1) := by decide +kernel
theorem dX3_readConstant_46 : decode cX3_readConstant 46 = .ok (.iastore, 1) := by decide +kernel
theorem dX3_readConstant_47 : decode cX3_readConstant 47 = .ok (.aload_n 0, 1) := by decide +kernel
theorem dX3_readConstant_48 : decode cX3_readConstant 48 = .ok (.getfield 19, 3) := by decide +kernel
theorem dX3_readConstant_51 : decode cX3_readConstant 51 = .ok (.iload_n 1, 1) := by decide +kernel
theorem dX3_readConstant_52 : decode cX3_readConstant 52 = .ok (.aload_n 0, 1) := by decide +kernel
theorem dX3_readConstant_53 : decode cX3_readConstant 53 = .ok (.getfield 43, 3) := by decide +kernel
theorem dX3_readConstant_56 : decode cX3_readConstant 56 = .ok (.iastore, 1) := by decide +kernel
theorem dX3_readConstant_57 : decode cX3_readConstant 57 = .ok (.aload_n 0, 1) := by decide +kernel
theorem dX3_readConstant_58 : decode cX3_readConstant 58 = .ok (.getfield 22, 3) := by decide +kernel
theorem dX3_readConstant_61 : decode cX3_readConstant 61 = .ok (.iload_n 1, 1) := by decide +kernel
theorem dX3_readConstant_62 : decode cX3_readConstant 62 = .ok (.iload_n 2, 1) := by decide +kernel
theorem dX3_readConstant_63 : decode cX3_readConstant 63 = .ok (.iconst 1, 1) := by decide +kernel
theorem dX3_readConstant_64 : decode cX3_readConstant 64 = .ok (.if_icmp .ne 12, 3) := by decide +kernel
theorem dX3_readConstant_67 : decode cX3_readConstant 67 = .ok (.aload_n 0, 1) := by decide +kernel
theorem dX3_readConstant_68 : decode cX3_readConstant 68 = .ok (.getfield 43, 3) := by decide +kernel
theorem dX3_readConstant_71 : decode cX3_readConstant 71 = .ok (.iload_n 3, 1) := by decide +kernel
theorem dX3_readConstant_72 : decode cX3_readConstant 72 = .ok (.iadd, 1) := by decide +kernel
theorem dX3_readConstant_73 : decode cX3_readConstant 73 = .ok (.goto 7, 3) := by decide +kernel
theorem dX3_readConstant_76 : decode cX3_readConstant 76 = .ok (.aload_n 0, 1) := by decide +kernel
theorem dX3_readConstant_77 : decode cX3_readConstant 77 = .ok (.getfield 43, 3) := by decide +kernel
theorem dX3_readConstant_80 : decode cX3_readConstant 80 = .ok (.iastore, 1) := by decide +kernel
theorem dX3_readConstant_81 : decode cX3_readConstant 81 = .ok (.iconst 0, 1) := by decide +kernel
theorem dX3_readConstant_82 : decode cX3_readConstant 82 = .ok (.istore 4, 2) := by decide +kernel
theorem dX3_readConstant_84 : decode cX3_readConstant 84 = .ok (.iload 4, 2) := by decide +kernel
theorem dX3_readConstant_86 : decode cX3_readConstant 86 = .ok (.iload_n 3, 1) := by decide +kernel
theorem dX3_readConstant_87 : decode cX3_readConstant 87 = .ok (.if_icmp .ge 39, 3) := by decide +kernel
theorem dX3_readConstant_90 : decode cX3_readConstant 90 = .ok (.aload_n 0, 1) := by decide +kernel
theorem dX3_readConstant_91 : decode cX3_readConstant 91 = .ok (.getfield 46, 3) := by decide +kernel
theorem dX3_readConstant_94 : decode cX3_readConstant 94 = .ok (.iconst (-1), 1) := by decide +kernel
theorem dX3_readConstant_95 : decode cX3_readConstant 95 = .ok (.if_icmp .ne 31, 3) := by decide +kernel
theorem dX3_readConstant_98 : decode cX3_readConstant 98 = .ok (.iload_n 2, 1) := by decide +kernel
theorem dX3_readConstant_99 : decode cX3_readConstant 99 = .ok (.iconst 1, 1) := by decide +kernel
theorem dX3_readConstant_100 : decode cX3_readConstant 100 = .ok (.if_icmp .ne 15, 3) := by decide +kernel
theorem dX3_readConstant_103 : decode cX3_readConstant 103 = .ok (.aload_n 0, 1) := by decide +kernel
theorem dX3_readConstant_104 : decode cX3_readConstant 104 = .ok (.bipush 33, 2) := by decide +kernel
theorem dX3_readConstant_106 : decode cX3_readConstant 106 = .ok (.bipush 126, 2) := by decide +kernel
theorem dX3_readConstant_108 : decode cX3_readConstant 108 = .ok (.invokevirtual 71, 3) := by decide +kernel
theorem dX3_readConstant_111 : decode cX3_readConstant 111 = .ok (.pop, 1) := by decide +kernel
theorem dX3_readConstant_112 : decode cX3_readConstant 112 = .ok (.goto 8, 3) := by decide +kernel
theorem dX3_readConstant_115 : decode cX3_readConstant 115 = .ok (.aload_n 0, 1) := by decide +kernel
theorem dX3_readConstant_116 : decode cX3_readConstant 116 = .ok (.invokevirtual 87, 3) := by decide +kernel
theorem dX3_readConstant_119 : decode cX3_readConstant 119 = .ok (.pop, 1) := by decide +kernel
theorem dX3_readConstant_120 : decode cX3_readConstant 120 = .ok (.iinc 4 1, 3) := by decide +kernel
theorem dX3_readConstant_123 : decode cX3_readConstant 123 = .ok (.goto (-39), 3) := by decide +kernel
theorem dX3_readConstant_126 : decode cX3_readConstant 126 = .ok (.return_, 1) := by decide +kernel
theorem rs_RX3_93 : mx_res RX3 93 = some (1, 100, 1) := by decide +kernel
theorem rs_RX3_96 : mx_res RX3 96 = some (1, 101, 1) := by decide +kernel
theorem ft_3_7 : mx_fty 3 7 = some (.int, false, "ClassMill$Image") := by decide +kernel
theorem mt_X3_readConstants : mx_mt 99 = some (yX3_readConstants, cX3_readConstants, 2, none) := rfl
theorem dX3_readConstants_0 : decode cX3_readConstants 0 = .ok (.aload_n 0, 1) := by decide +kernel
theorem dX3_readConstants_1 : decode cX3_readConstants 1 = .ok (.bipush 74, 2) := by decide +kernel
theorem dX3_readConstants_3 : decode cX3_readConstants 3 = .ok (.bipush 74, 2) := by decide +kernel
theorem dX3_readConstants_5 : decode cX3_readConstants 5 = .ok (.invokevirtual 71, 3) := by decide +kernel
theorem dX3_readConstants_8 : decode cX3_readConstants 8 = .ok (.pop, 1) := by decide +kernel
theorem dX3_readConstants_9 : decode cX3_readConstants 9 = .ok (.aload_n 0, 1) := by decide +kernel
theorem dX3_readConstants_10 : decode cX3_readConstants 10 = .ok (.bipush 77, 2) := by decide +kernel
theorem dX3_readConstants_12 : decode cX3_readConstants 12 = .ok (.bipush 77, 2) := by decide +kernel
theorem dX3_readConstants_14 : decode cX3_readConstants 14 = .ok (.invokevirtual 71, 3) := by decide +kernel
theorem dX3_readConstants_17 : decode cX3_readConstants 17 = .ok (.pop, 1) := by decide +kernel
theorem dX3_readConstants_18 : decode cX3_readConstants 18 = .ok (.aload_n 0, 1) := by decide +kernel
theorem dX3_readConstants_19 : decode cX3_readConstants 19 = .ok (.aload_n 0, 1) := by decide +kernel
theorem dX3_readConstants_20 : decode cX3_readConstants 20 = .ok (.invokevirtual 87, 3) := by decide +kernel
theorem dX3_readConstants_23 : decode cX3_readConstants 23 = .ok (.putfield 90, 3) := by decide +kernel
theorem dX3_readConstants_26 : decode cX3_readConstants 26 = .ok (.iconst 1, 1) := by decide +kernel
theorem dX3_readConstants_27 : decode cX3_readConstants 27 = .ok (.istore_n 1, 1) := by decide +kernel
theorem dX3_readConstants_28 : decode cX3_readConstants 28 = .ok (.iload_n 1, 1) := by decide +kernel
theorem dX3_readConstants_29 : decode cX3_readConstants 29 = .ok (.aload_n 0, 1) := by decide +kernel
theorem dX3_readConstants_30 : decode cX3_readConstants 30 = .ok (.getfield 90, 3) := by decide +kernel
theorem dX3_readConstants_33 : decode cX3_readConstants 33 = .ok (.if_icmp .gt 22, 3) := by decide +kernel
theorem dX3_readConstants_36 : decode cX3_readConstants 36 = .ok (.aload_n 0, 1) := by decide +kernel
theorem dX3_readConstants_37 : decode cX3_readConstants 37 = .ok (.getfield 46, 3) := by decide +kernel
theorem dX3_readConstants_40 : decode cX3_readConstants 40 = .ok (.iconst (-1), 1) := by decide +kernel
theorem dX3_readConstants_41 : decode cX3_readConstants 41 = .ok (.if_icmp .ne 14, 3) := by decide +kernel
theorem dX3_readConstants_44 : decode cX3_readConstants 44 = .ok (.aload_n 0, 1) := by decide +kernel
theorem dX3_readConstants_45 : decode cX3_readConstants 45 = .ok (.iload_n 1, 1) := by decide +kernel
theorem dX3_readConstants_46 : decode cX3_readConstants 46 = .ok (.invokevirtual 93, 3) := by decide +kernel
theorem dX3_readConstants_49 : decode cX3_readConstants 49 = .ok (.iinc 1 1, 3) := by decide +kernel
theorem dX3_readConstants_52 : decode cX3_readConstants 52 = .ok (.goto (-24), 3) := by decide +kernel
theorem dX3_readConstants_55 : decode cX3_readConstants 55 = .ok (.iconst 1, 1) := by decide +kernel
theorem dX3_readConstants_56 : decode cX3_readConstants 56 = .ok (.istore_n 1, 1) := by decide +kernel
theorem dX3_readConstants_57 : decode cX3_readConstants 57 = .ok (.iload_n 1, 1) := by decide +kernel
theorem dX3_readConstants_58 : decode cX3_readConstants 58 = .ok (.aload_n 0, 1) := by decide +kernel
theorem dX3_readConstants_59 : decode cX3_readConstants 59 = .ok (.getfield 90, 3) := by decide +kernel
theorem dX3_readConstants_62 : decode cX3_readConstants 62 = .ok (.if_icmp .gt 22, 3) := by decide +kernel
theorem dX3_readConstants_65 : decode cX3_readConstants 65 = .ok (.aload_n 0, 1) := by decide +kernel
theorem dX3_readConstants_66 : decode cX3_readConstants 66 = .ok (.getfield 46, 3) := by decide +kernel
theorem dX3_readConstants_69 : decode cX3_readConstants 69 = .ok (.iconst (-1), 1) := by decide +kernel
theorem dX3_readConstants_70 : decode cX3_readConstants 70 = .ok (.if_icmp .ne 14, 3) := by decide +kernel
theorem dX3_readConstants_73 : decode cX3_readConstants 73 = .ok (.aload_n 0, 1) := by decide +kernel
theorem dX3_readConstants_74 : decode cX3_readConstants 74 = .ok (.iload_n 1, 1) := by decide +kernel
theorem dX3_readConstants_75 : decode cX3_readConstants 75 = .ok (.invokevirtual 96, 3) := by decide +kernel
theorem dX3_readConstants_78 : decode cX3_readConstants 78 = .ok (.iinc 1 1, 3) := by decide +kernel
theorem dX3_readConstants_81 : decode cX3_readConstants 81 = .ok (.goto (-24), 3) := by decide +kernel
theorem dX3_readConstants_84 : decode cX3_readConstants 84 = .ok (.return_, 1) := by decide +kernel
theorem mt_X3_nextName : mx_mt 119 = some (yX3_nextName, cX3_nextName, 2, (some .int)) := rfl
theorem dX3_nextName_0 : decode cX3_nextName 0 = .ok (.aload_n 0, 1) := by decide +kernel
theorem dX3_nextName_1 : decode cX3_nextName 1 = .ok (.invokevirtual 87, 3) := by decide +kernel
theorem dX3_nextName_4 : decode cX3_nextName 4 = .ok (.istore_n 1, 1) := by decide +kernel
theorem dX3_nextName_5 : decode cX3_nextName 5 = .ok (.aload_n 0, 1) := by decide +kernel
theorem dX3_nextName_6 : decode cX3_nextName 6 = .ok (.iload_n 1, 1) := by decide +kernel
theorem dX3_nextName_7 : decode cX3_nextName 7 = .ok (.invokevirtual 102, 3) := by decide +kernel
theorem dX3_nextName_10 : decode cX3_nextName 10 = .ok (.ifCond .ne 13, 3) := by decide +kernel
theorem dX3_nextName_13 : decode cX3_nextName 13 = .ok (.aload_n 0, 1) := by decide +kernel
theorem dX3_nextName_14 : decode cX3_nextName 14 = .ok (.aload_n 0, 1) := by decide +kernel
theorem dX3_nextName_15 : decode cX3_nextName 15 = .ok (.getfield 43, 3) := by decide +kernel
theorem dX3_nextName_18 : decode cX3_nextName 18 = .ok (.iconst 1, 1) := by decide +kernel
theorem dX3_nextName_19 : decode cX3_nextName 19 = .ok (.isub, 1) := by decide +kernel
theorem dX3_nextName_20 : decode cX3_nextName 20 = .ok (.invokevirtual 78, 3) := by decide +kernel
theorem dX3_nextName_23 : decode cX3_nextName 23 = .ok (.iload_n 1, 1) := by decide +kernel
theorem dX3_nextName_24 : decode cX3_nextName 24 = .ok (.ireturn, 1) := by decide +kernel
theorem rs_RX3_49 : mx_res RX3 49 = some (0, 3, 10) := by decide +kernel
theorem rs_RX3_152 : mx_res RX3 152 = some (1, 119, 0) := by decide +kernel
theorem ft_3_10 : mx_fty 3 10 = some (.int, false, "ClassMill$Image") := by decide +kernel
theorem mt_X3_readFields : mx_mt 120 = some (yX3_readFields, cX3_readFields, 4, none) := rfl
theorem dX3_readFields_0 : decode cX3_readFields 0 = .ok (.aload_n 0, 1) := by decide +kernel
theorem dX3_readFields_1 : decode cX3_readFields 1 = .ok (.iconst 0, 1) := by decide +kernel
theorem dX3_readFields_2 : decode cX3_readFields 2 = .ok (.bipush 12, 2) := by decide +kernel
theorem dX3_readFields_4 : decode cX3_readFields 4 = .ok (.invokevirtual 71, 3) := by decide +kernel
theorem dX3_readFields_7 : decode cX3_readFields 7 = .ok (.istore_n 1, 1) := by decide +kernel
theorem dX3_readFields_8 : decode cX3_readFields 8 = .ok (.iconst 0, 1) := by decide +kernel
theorem dX3_readFields_9 : decode cX3_readFields 9 = .ok (.istore_n 2, 1) := by decide +kernel
theorem dX3_readFields_10 : decode cX3_readFields 10 = .ok (.iload_n 2, 1) := by decide +kernel
theorem dX3_readFields_11 : decode cX3_readFields 11 = .ok (.iload_n 1, 1) := by decide +kernel
theorem dX3_readFields_12 : decode cX3_readFields 12 = .ok (.if_icmp .ge 73, 3) := by decide +kernel
theorem dX3_readFields_15 : decode cX3_readFields 15 = .ok (.aload_n 0, 1) := by decide +kernel
theorem dX3_readFields_16 : decode cX3_readFields 16 = .ok (.getfield 46, 3) := by decide +kernel
theorem dX3_readFields_19 : decode cX3_readFields 19 = .ok (.iconst (-1), 1) := by decide +kernel
theorem dX3_readFields_20 : decode cX3_readFields 20 = .ok (.if_icmp .ne 65, 3) := by decide +kernel
theorem dX3_readFields_23 : decode cX3_readFields 23 = .ok (.aload_n 0, 1) := by decide +kernel
theorem dX3_readFields_24 : decode cX3_readFields 24 = .ok (.getfield 27, 3) := by decide +kernel
theorem dX3_readFields_27 : decode cX3_readFields 27 = .ok (.iload_n 2, 1) := by decide +kernel
theorem dX3_readFields_28 : decode cX3_readFields 28 = .ok (.iconst 2, 1) := by decide +kernel
theorem dX3_readFields_29 : decode cX3_readFields 29 = .ok (.imul, 1) := by decide +kernel
theorem dX3_readFields_30 : decode cX3_readFields 30 = .ok (.aload_n 0, 1) := by decide +kernel
theorem dX3_readFields_31 : decode cX3_readFields 31 = .ok (.invokevirtual 152, 3) := by decide +kernel
theorem dX3_readFields_34 : decode cX3_readFields 34 = .ok (.iastore, 1) := by decide +kernel
theorem dX3_readFields_35 : decode cX3_readFields 35 = .ok (.aload_n 0, 1) := by decide +kernel
theorem dX3_readFields_36 : decode cX3_readFields 36 = .ok (.invokevirtual 87, 3) := by decide +kernel
theorem dX3_readFields_39 : decode cX3_readFields 39 = .ok (.istore_n 3, 1) := by decide +kernel
theorem dX3_readFields_40 : decode cX3_readFields 40 = .ok (.aload_n 0, 1) := by decide +kernel
theorem dX3_readFields_41 : decode cX3_readFields 41 = .ok (.iload_n 3, 1) := by decide +kernel
theorem dX3_readFields_42 : decode cX3_readFields 42 = .ok (.invokevirtual 109, 3) := by decide +kernel
theorem dX3_readFields_45 : decode cX3_readFields 45 = .ok (.ifCond .ne 13, 3) := by decide +kernel
theorem dX3_readFields_48 : decode cX3_readFields 48 = .ok (.aload_n 0, 1) := by decide +kernel
theorem dX3_readFields_49 : decode cX3_readFields 49 = .ok (.aload_n 0, 1) := by decide +kernel
theorem dX3_readFields_50 : decode cX3_readFields 50 = .ok (.getfield 43, 3) := by decide +kernel
theorem dX3_readFields_53 : decode cX3_readFields 53 = .ok (.iconst 1, 1) := by decide +kernel
theorem dX3_readFields_54 : decode cX3_readFields 54 = .ok (.isub, 1) := by decide +kernel
theorem dX3_readFields_55 : decode cX3_readFields 55 = .ok (.invokevirtual 78, 3) := by decide +kernel
theorem dX3_readFields_58 : decode cX3_readFields 58 = .ok (.aload_n 0, 1) := by decide +kernel
theorem dX3_readFields_59 : decode cX3_readFields 59 = .ok (.getfield 27, 3) := by decide +kernel
theorem dX3_readFields_62 : decode cX3_readFields 62 = .ok (.iload_n 2, 1) := by decide +kernel
theorem dX3_readFields_63 : decode cX3_readFields 63 = .ok (.iconst 2, 1) := by decide +kernel
theorem dX3_readFields_64 : decode cX3_readFields 64 = .ok (.imul, 1) := by decide +kernel
theorem dX3_readFields_65 : decode cX3_readFields 65 = .ok (.iconst 1, 1) := by decide +kernel
theorem dX3_readFields_66 : decode cX3_readFields 66 = .ok (.iadd, 1) := by decide +kernel
theorem dX3_readFields_67 : decode cX3_readFields 67 = .ok (.iload_n 3, 1) := by decide +kernel
theorem dX3_readFields_68 : decode cX3_readFields 68 = .ok (.iastore, 1) := by decide +kernel
theorem dX3_readFields_69 : decode cX3_readFields 69 = .ok (.aload_n 0, 1) := by decide +kernel
theorem dX3_readFields_70 : decode cX3_readFields 70 = .ok (.dup, 1) := by decide +kernel
theorem dX3_readFields_71 : decode cX3_readFields 71 = .ok (.getfield 49, 3) := by decide +kernel
theorem dX3_readFields_74 : decode cX3_readFields 74 = .ok (.iconst 1, 1) := by decide +kernel
theorem dX3_readFields_75 : decode cX3_readFields 75 = .ok (.iadd, 1) := by decide +kernel
theorem dX3_readFields_76 : decode cX3_readFields 76 = .ok (.putfield 49, 3) := by decide +kernel
theorem dX3_readFields_79 : decode cX3_readFields 79 = .ok (.iinc 2 1, 3) := by decide +kernel
theorem dX3_readFields_82 : decode cX3_readFields 82 = .ok (.goto (-72), 3) := by decide +kernel
theorem dX3_readFields_85 : decode cX3_readFields 85 = .ok (.return_, 1) := by decide +kernel
theorem rs_RX3_33 : mx_res RX3 33 = some (14, 0, 0) := by decide +kernel
theorem mt_X3_readCode : mx_mt 122 = some (yX3_readCode, cX3_readCode, 5, none) := rfl
theorem dX3_readCode_0 : decode cX3_readCode 0 = .ok (.aload_n 0, 1) := by decide +kernel
theorem dX3_readCode_1 : decode cX3_readCode 1 = .ok (.getfield 43, 3) := by decide +kernel
theorem dX3_readCode_4 : decode cX3_readCode 4 = .ok (.istore_n 2, 1) := by decide +kernel
theorem dX3_readCode_5 : decode cX3_readCode 5 = .ok (.aload_n 0, 1) := by decide +kernel
theorem dX3_readCode_6 : decode cX3_readCode 6 = .ok (.invokevirtual 87, 3) := by decide +kernel
theorem dX3_readCode_9 : decode cX3_readCode 9 = .ok (.istore_n 3, 1) := by decide +kernel
theorem dX3_readCode_10 : decode cX3_readCode 10 = .ok (.iload_n 3, 1) := by decide +kernel
theorem dX3_readCode_11 : decode cX3_readCode 11 = .ok (.bipush 8, 2) := by decide +kernel
theorem dX3_readCode_13 : decode cX3_readCode 13 = .ok (.ishl, 1) := by decide +kernel
theorem dX3_readCode_14 : decode cX3_readCode 14 = .ok (.aload_n 0, 1) := by decide +kernel
theorem dX3_readCode_15 : decode cX3_readCode 15 = .ok (.invokevirtual 87, 3) := by decide +kernel
theorem dX3_readCode_18 : decode cX3_readCode 18 = .ok (.ior, 1) := by decide +kernel
theorem dX3_readCode_19 : decode cX3_readCode 19 = .ok (.istore 4, 2) := by decide +kernel
theorem dX3_readCode_21 : decode cX3_readCode 21 = .ok (.iload 4, 2) := by decide +kernel
theorem dX3_readCode_23 : decode cX3_readCode 23 = .ok (.iconst 1, 1) := by decide +kernel
theorem dX3_readCode_24 : decode cX3_readCode 24 = .ok (.if_icmp .lt 11, 3) := by decide +kernel
theorem dX3_readCode_27 : decode cX3_readCode 27 = .ok (.iload 4, 2) := by decide +kernel
theorem dX3_readCode_29 : decode cX3_readCode 29 = .ok (.sipush 1500, 3) := by decide +kernel
theorem dX3_readCode_32 : decode cX3_readCode 32 = .ok (.if_icmp .le 8, 3) := by decide +kernel
theorem dX3_readCode_35 : decode cX3_readCode 35 = .ok (.aload_n 0, 1) := by decide +kernel
theorem dX3_readCode_36 : decode cX3_readCode 36 = .ok (.iload_n 2, 1) := by decide +kernel
theorem dX3_readCode_37 : decode cX3_readCode 37 = .ok (.invokevirtual 78, 3) := by decide +kernel
theorem dX3_readCode_40 : decode cX3_readCode 40 = .ok (.aload_n 0, 1) := by decide +kernel
theorem dX3_readCode_41 : decode cX3_readCode 41 = .ok (.getfield 30, 3) := by decide +kernel
theorem dX3_readCode_44 : decode cX3_readCode 44 = .ok (.iload_n 1, 1) := by decide +kernel
theorem dX3_readCode_45 : decode cX3_readCode 45 = .ok (.iconst 5, 1) := by decide +kernel
theorem dX3_readCode_46 : decode cX3_readCode 46 = .ok (.iadd, 1) := by decide +kernel
theorem dX3_readCode_47 : decode cX3_readCode 47 = .ok (.iload 4, 2) := by decide +kernel
theorem dX3_readCode_49 : decode cX3_readCode 49 = .ok (.iastore, 1) := by decide +kernel
theorem dX3_readCode_50 : decode cX3_readCode 50 = .ok (.aload_n 0, 1) := by decide +kernel
theorem dX3_readCode_51 : decode cX3_readCode 51 = .ok (.getfield 30, 3) := by decide +kernel
theorem dX3_readCode_54 : decode cX3_readCode 54 = .ok (.iload_n 1, 1) := by decide +kernel
theorem dX3_readCode_55 : decode cX3_readCode 55 = .ok (.bipush 6, 2) := by decide +kernel
theorem dX3_readCode_57 : decode cX3_readCode 57 = .ok (.iadd, 1) := by decide +kernel
theorem dX3_readCode_58 : decode cX3_readCode 58 = .ok (.aload_n 0, 1) := by decide +kernel
theorem dX3_readCode_59 : decode cX3_readCode 59 = .ok (.getfield 43, 3) := by decide +kernel
theorem dX3_readCode_62 : decode cX3_readCode 62 = .ok (.iastore, 1) := by decide +kernel
theorem dX3_readCode_63 : decode cX3_readCode 63 = .ok (.aload_n 0, 1) := by decide +kernel
theorem dX3_readCode_64 : decode cX3_readCode 64 = .ok (.getfield 43, 3) := by decide +kernel
theorem dX3_readCode_67 : decode cX3_readCode 67 = .ok (.iload 4, 2) := by decide +kernel
theorem dX3_readCode_69 : decode cX3_readCode 69 = .ok (.iadd, 1) := by decide +kernel
theorem dX3_readCode_70 : decode cX3_readCode 70 = .ok (.aload_n 0, 1) := by decide +kernel
theorem dX3_readCode_71 : decode cX3_readCode 71 = .ok (.getfield 39, 3) := by decide +kernel
theorem dX3_readCode_74 : decode cX3_readCode 74 = .ok (.if_icmp .le 11, 3) := by decide +kernel
theorem dX3_readCode_77 : decode cX3_readCode 77 = .ok (.aload_n 0, 1) := by decide +kernel
theorem dX3_readCode_78 : decode cX3_readCode 78 = .ok (.aload_n 0, 1) := by decide +kernel
theorem dX3_readCode_79 : decode cX3_readCode 79 = .ok (.getfield 39, 3) := by decide +kernel
theorem dX3_readCode_82 : decode cX3_readCode 82 = .ok (.invokevirtual 78, 3) := by decide +kernel
theorem dX3_readCode_85 : decode cX3_readCode 85 = .ok (.aload_n 0, 1) := by decide +kernel
theorem dX3_readCode_86 : decode cX3_readCode 86 = .ok (.aload_n 0, 1) := by decide +kernel
theorem dX3_readCode_87 : decode cX3_readCode 87 = .ok (.getfield 43, 3) := by decide +kernel
theorem dX3_readCode_90 : decode cX3_readCode 90 = .ok (.iload 4, 2) := by decide +kernel
theorem dX3_readCode_92 : decode cX3_readCode 92 = .ok (.iadd, 1) := by decide +kernel
theorem dX3_readCode_93 : decode cX3_readCode 93 = .ok (.aload_n 0, 1) := by decide +kernel
theorem dX3_readCode_94 : decode cX3_readCode 94 = .ok (.getfield 39, 3) := by decide +kernel
theorem dX3_readCode_97 : decode cX3_readCode 97 = .ok (.invokestatic 33, 3) := by decide +kernel
theorem dX3_readCode_100 : decode cX3_readCode 100 = .ok (.putfield 43, 3) := by decide +kernel
theorem dX3_readCode_103 : decode cX3_readCode 103 = .ok (.return_, 1) := by decide +kernel
theorem mt_X3_nextClass : mx_mt 117 = some (yX3_nextClass, cX3_nextClass, 1, none) := rfl
theorem dX3_nextClass_0 : decode cX3_nextClass 0 = .ok (.aload_n 0, 1) := by decide +kernel
theorem dX3_nextClass_1 : decode cX3_nextClass 1 = .ok (.aload_n 0, 1) := by decide +kernel
theorem dX3_nextClass_2 : decode cX3_nextClass 2 = .ok (.invokevirtual 87, 3) := by decide +kernel
theorem dX3_nextClass_5 : decode cX3_nextClass 5 = .ok (.invokevirtual 112, 3) := by decide +kernel
theorem dX3_nextClass_8 : decode cX3_nextClass 8 = .ok (.iconst 3, 1) := by decide +kernel
theorem dX3_nextClass_9 : decode cX3_nextClass 9 = .ok (.if_icmp .eq 13, 3) := by decide +kernel
theorem dX3_nextClass_12 : decode cX3_nextClass 12 = .ok (.aload_n 0, 1) := by decide +kernel
theorem dX3_nextClass_13 : decode cX3_nextClass 13 = .ok (.aload_n 0, 1) := by decide +kernel
theorem dX3_nextClass_14 : decode cX3_nextClass 14 = .ok (.getfield 43, 3) := by decide +kernel
theorem dX3_nextClass_17 : decode cX3_nextClass 17 = .ok (.iconst 1, 1) := by decide +kernel
theorem dX3_nextClass_18 : decode cX3_nextClass 18 = .ok (.isub, 1) := by decide +kernel
theorem dX3_nextClass_19 : decode cX3_nextClass 19 = .ok (.invokevirtual 78, 3) := by decide +kernel
theorem dX3_nextClass_22 : decode cX3_nextClass 22 = .ok (.return_, 1) := by decide +kernel
theorem rs_RX3_167 : mx_res RX3 167 = some (1, 117, 0) := by decide +kernel
theorem mt_X3_readFrameTypes : mx_mt 125 = some (yX3_readFrameTypes, cX3_readFrameTypes, 3, none) := rfl
theorem dX3_readFrameTypes_0 : decode cX3_readFrameTypes 0 = .ok (.aload_n 0, 1) := by decide +kernel
theorem dX3_readFrameTypes_1 : decode cX3_readFrameTypes 1 = .ok (.invokevirtual 87, 3) := by decide +kernel
theorem dX3_readFrameTypes_4 : decode cX3_readFrameTypes 4 = .ok (.istore_n 1, 1) := by decide +kernel
theorem dX3_readFrameTypes_5 : decode cX3_readFrameTypes 5 = .ok (.iconst 0, 1) := by decide +kernel
theorem dX3_readFrameTypes_6 : decode cX3_readFrameTypes 6 = .ok (.istore_n 2, 1) := by decide +kernel
theorem dX3_readFrameTypes_7 : decode cX3_readFrameTypes 7 = .ok (.iload_n 2, 1) := by decide +kernel
theorem dX3_readFrameTypes_8 : decode cX3_readFrameTypes 8 = .ok (.iload_n 1, 1) := by decide +kernel
theorem dX3_readFrameTypes_9 : decode cX3_readFrameTypes 9 = .ok (.if_icmp .ge 31, 3) := by decide +kernel
theorem dX3_readFrameTypes_12 : decode cX3_readFrameTypes 12 = .ok (.aload_n 0, 1) := by decide +kernel
theorem dX3_readFrameTypes_13 : decode cX3_readFrameTypes 13 = .ok (.getfield 46, 3) := by decide +kernel
theorem dX3_readFrameTypes_16 : decode cX3_readFrameTypes 16 = .ok (.iconst (-1), 1) := by decide +kernel
theorem dX3_readFrameTypes_17 : decode cX3_readFrameTypes 17 = .ok (.if_icmp .ne 23, 3) := by decide +kernel
theorem dX3_readFrameTypes_20 : decode cX3_readFrameTypes 20 = .ok (.aload_n 0, 1) := by decide +kernel
theorem dX3_readFrameTypes_21 : decode cX3_readFrameTypes 21 = .ok (.iconst 0, 1) := by decide +kernel
theorem dX3_readFrameTypes_22 : decode cX3_readFrameTypes 22 = .ok (.iconst 3, 1) := by decide +kernel
theorem dX3_readFrameTypes_23 : decode cX3_readFrameTypes 23 = .ok (.invokevirtual 71, 3) := by decide +kernel
theorem dX3_readFrameTypes_26 : decode cX3_readFrameTypes 26 = .ok (.iconst 3, 1) := by decide +kernel
theorem dX3_readFrameTypes_27 : decode cX3_readFrameTypes 27 = .ok (.if_icmp .ne 7, 3) := by decide +kernel
theorem dX3_readFrameTypes_30 : decode cX3_readFrameTypes 30 = .ok (.aload_n 0, 1) := by decide +kernel
theorem dX3_readFrameTypes_31 : decode cX3_readFrameTypes 31 = .ok (.invokevirtual 167, 3) := by decide +kernel
theorem dX3_readFrameTypes_34 : decode cX3_readFrameTypes 34 = .ok (.iinc 2 1, 3) := by decide +kernel
theorem dX3_readFrameTypes_37 : decode cX3_readFrameTypes 37 = .ok (.goto (-30), 3) := by decide +kernel
theorem dX3_readFrameTypes_40 : decode cX3_readFrameTypes 40 = .ok (.return_, 1) := by decide +kernel
theorem mt_X3_skipPairs : mx_mt 98 = some (yX3_skipPairs, cX3_skipPairs, 3, none) := rfl
theorem dX3_skipPairs_0 : decode cX3_skipPairs 0 = .ok (.iconst 0, 1) := by decide +kernel
theorem dX3_skipPairs_1 : decode cX3_skipPairs 1 = .ok (.istore_n 2, 1) := by decide +kernel
theorem dX3_skipPairs_2 : decode cX3_skipPairs 2 = .ok (.iload_n 2, 1) := by decide +kernel
theorem dX3_skipPairs_3 : decode cX3_skipPairs 3 = .ok (.iload_n 1, 1) := by decide +kernel
theorem dX3_skipPairs_4 : decode cX3_skipPairs 4 = .ok (.iconst 2, 1) := by decide +kernel
theorem dX3_skipPairs_5 : decode cX3_skipPairs 5 = .ok (.imul, 1) := by decide +kernel
theorem dX3_skipPairs_6 : decode cX3_skipPairs 6 = .ok (.if_icmp .ge 14, 3) := by decide +kernel
theorem dX3_skipPairs_9 : decode cX3_skipPairs 9 = .ok (.aload_n 0, 1) := by decide +kernel
theorem dX3_skipPairs_10 : decode cX3_skipPairs 10 = .ok (.invokevirtual 87, 3) := by decide +kernel
theorem dX3_skipPairs_13 : decode cX3_skipPairs 13 = .ok (.pop, 1) := by decide +kernel
theorem dX3_skipPairs_14 : decode cX3_skipPairs 14 = .ok (.iinc 2 1, 3) := by decide +kernel
theorem dX3_skipPairs_17 : decode cX3_skipPairs 17 = .ok (.goto (-15), 3) := by decide +kernel
theorem dX3_skipPairs_20 : decode cX3_skipPairs 20 = .ok (.return_, 1) := by decide +kernel
theorem rs_RX3_164 : mx_res RX3 164 = some (1, 98, 1) := by decide +kernel
theorem rs_RX3_170 : mx_res RX3 170 = some (1, 125, 0) := by decide +kernel
theorem mt_X3_readFrames : mx_mt 124 = some (yX3_readFrames, cX3_readFrames, 4, none) := rfl
theorem dX3_readFrames_0 : decode cX3_readFrames 0 = .ok (.aload_n 0, 1) := by decide +kernel
theorem dX3_readFrames_1 : decode cX3_readFrames 1 = .ok (.iconst 0, 1) := by decide +kernel
theorem dX3_readFrames_2 : decode cX3_readFrames 2 = .ok (.bipush 100, 2) := by decide +kernel
theorem dX3_readFrames_4 : decode cX3_readFrames 4 = .ok (.invokevirtual 71, 3) := by decide +kernel
theorem dX3_readFrames_7 : decode cX3_readFrames 7 = .ok (.istore_n 2, 1) := by decide +kernel
theorem dX3_readFrames_8 : decode cX3_readFrames 8 = .ok (.aload_n 0, 1) := by decide +kernel
theorem dX3_readFrames_9 : decode cX3_readFrames 9 = .ok (.getfield 30, 3) := by decide +kernel
theorem dX3_readFrames_12 : decode cX3_readFrames 12 = .ok (.iload_n 1, 1) := by decide +kernel
theorem dX3_readFrames_13 : decode cX3_readFrames 13 = .ok (.bipush 9, 2) := by decide +kernel
theorem dX3_readFrames_15 : decode cX3_readFrames 15 = .ok (.iadd, 1) := by decide +kernel
theorem dX3_readFrames_16 : decode cX3_readFrames 16 = .ok (.iload_n 2, 1) := by decide +kernel
theorem dX3_readFrames_17 : decode cX3_readFrames 17 = .ok (.iastore, 1) := by decide +kernel
theorem dX3_readFrames_18 : decode cX3_readFrames 18 = .ok (.aload_n 0, 1) := by decide +kernel
theorem dX3_readFrames_19 : decode cX3_readFrames 19 = .ok (.getfield 30, 3) := by decide +kernel
theorem dX3_readFrames_22 : decode cX3_readFrames 22 = .ok (.iload_n 1, 1) := by decide +kernel
theorem dX3_readFrames_23 : decode cX3_readFrames 23 = .ok (.bipush 10, 2) := by decide +kernel
theorem dX3_readFrames_25 : decode cX3_readFrames 25 = .ok (.iadd, 1) := by decide +kernel
theorem dX3_readFrames_26 : decode cX3_readFrames 26 = .ok (.aload_n 0, 1) := by decide +kernel
theorem dX3_readFrames_27 : decode cX3_readFrames 27 = .ok (.getfield 43, 3) := by decide +kernel
theorem dX3_readFrames_30 : decode cX3_readFrames 30 = .ok (.iastore, 1) := by decide +kernel
theorem dX3_readFrames_31 : decode cX3_readFrames 31 = .ok (.iconst 0, 1) := by decide +kernel
theorem dX3_readFrames_32 : decode cX3_readFrames 32 = .ok (.istore_n 3, 1) := by decide +kernel
theorem dX3_readFrames_33 : decode cX3_readFrames 33 = .ok (.iload_n 3, 1) := by decide +kernel
theorem dX3_readFrames_34 : decode cX3_readFrames 34 = .ok (.iload_n 2, 1) := by decide +kernel
theorem dX3_readFrames_35 : decode cX3_readFrames 35 = .ok (.if_icmp .ge 30, 3) := by decide +kernel
theorem dX3_readFrames_38 : decode cX3_readFrames 38 = .ok (.aload_n 0, 1) := by decide +kernel
theorem dX3_readFrames_39 : decode cX3_readFrames 39 = .ok (.getfield 46, 3) := by decide +kernel
theorem dX3_readFrames_42 : decode cX3_readFrames 42 = .ok (.iconst (-1), 1) := by decide +kernel
theorem dX3_readFrames_43 : decode cX3_readFrames 43 = .ok (.if_icmp .ne 22, 3) := by decide +kernel
theorem dX3_readFrames_46 : decode cX3_readFrames 46 = .ok (.aload_n 0, 1) := by decide +kernel
theorem dX3_readFrames_47 : decode cX3_readFrames 47 = .ok (.iconst 1, 1) := by decide +kernel
theorem dX3_readFrames_48 : decode cX3_readFrames 48 = .ok (.invokevirtual 164, 3) := by decide +kernel
theorem dX3_readFrames_51 : decode cX3_readFrames 51 = .ok (.aload_n 0, 1) := by decide +kernel
theorem dX3_readFrames_52 : decode cX3_readFrames 52 = .ok (.invokevirtual 170, 3) := by decide +kernel
theorem dX3_readFrames_55 : decode cX3_readFrames 55 = .ok (.aload_n 0, 1) := by decide +kernel
theorem dX3_readFrames_56 : decode cX3_readFrames 56 = .ok (.invokevirtual 170, 3) := by decide +kernel
theorem dX3_readFrames_59 : decode cX3_readFrames 59 = .ok (.iinc 3 1, 3) := by decide +kernel
theorem dX3_readFrames_62 : decode cX3_readFrames 62 = .ok (.goto (-29), 3) := by decide +kernel
theorem dX3_readFrames_65 : decode cX3_readFrames 65 = .ok (.return_, 1) := by decide +kernel
theorem mt_X3_readHandlers : mx_mt 123 = some (yX3_readHandlers, cX3_readHandlers, 4, none) := rfl
theorem dX3_readHandlers_0 : decode cX3_readHandlers 0 = .ok (.aload_n 0, 1) := by decide +kernel
theorem dX3_readHandlers_1 : decode cX3_readHandlers 1 = .ok (.iconst 0, 1) := by decide +kernel
theorem dX3_readHandlers_2 : decode cX3_readHandlers 2 = .ok (.bipush 20, 2) := by decide +kernel
theorem dX3_readHandlers_4 : decode cX3_readHandlers 4 = .ok (.invokevirtual 71, 3) := by decide +kernel
theorem dX3_readHandlers_7 : decode cX3_readHandlers 7 = .ok (.istore_n 2, 1) := by decide +kernel
theorem dX3_readHandlers_8 : decode cX3_readHandlers 8 = .ok (.aload_n 0, 1) := by decide +kernel
theorem dX3_readHandlers_9 : decode cX3_readHandlers 9 = .ok (.getfield 30, 3) := by decide +kernel
theorem dX3_readHandlers_12 : decode cX3_readHandlers 12 = .ok (.iload_n 1, 1) := by decide +kernel
theorem dX3_readHandlers_13 : decode cX3_readHandlers 13 = .ok (.bipush 7, 2) := by decide +kernel
theorem dX3_readHandlers_15 : decode cX3_readHandlers 15 = .ok (.iadd, 1) := by decide +kernel
theorem dX3_readHandlers_16 : decode cX3_readHandlers 16 = .ok (.iload_n 2, 1) := by decide +kernel
theorem dX3_readHandlers_17 : decode cX3_readHandlers 17 = .ok (.iastore, 1) := by decide +kernel
theorem dX3_readHandlers_18 : decode cX3_readHandlers 18 = .ok (.aload_n 0, 1) := by decide +kernel
theorem dX3_readHandlers_19 : decode cX3_readHandlers 19 = .ok (.getfield 30, 3) := by decide +kernel
theorem dX3_readHandlers_22 : decode cX3_readHandlers 22 = .ok (.iload_n 1, 1) := by decide +kernel
theorem dX3_readHandlers_23 : decode cX3_readHandlers 23 = .ok (.bipush 8, 2) := by decide +kernel
theorem dX3_readHandlers_25 : decode cX3_readHandlers 25 = .ok (.iadd, 1) := by decide +kernel
theorem dX3_readHandlers_26 : decode cX3_readHandlers 26 = .ok (.aload_n 0, 1) := by decide +kernel
theorem dX3_readHandlers_27 : decode cX3_readHandlers 27 = .ok (.getfield 43, 3) := by decide +kernel
theorem dX3_readHandlers_30 : decode cX3_readHandlers 30 = .ok (.iastore, 1) := by decide +kernel
theorem dX3_readHandlers_31 : decode cX3_readHandlers 31 = .ok (.iconst 0, 1) := by decide +kernel
theorem dX3_readHandlers_32 : decode cX3_readHandlers 32 = .ok (.istore_n 3, 1) := by decide +kernel
theorem dX3_readHandlers_33 : decode cX3_readHandlers 33 = .ok (.iload_n 3, 1) := by decide +kernel
theorem dX3_readHandlers_34 : decode cX3_readHandlers 34 = .ok (.iload_n 2, 1) := by decide +kernel
theorem dX3_readHandlers_35 : decode cX3_readHandlers 35 = .ok (.if_icmp .ge 26, 3) := by decide +kernel
theorem dX3_readHandlers_38 : decode cX3_readHandlers 38 = .ok (.aload_n 0, 1) := by decide +kernel
theorem dX3_readHandlers_39 : decode cX3_readHandlers 39 = .ok (.getfield 46, 3) := by decide +kernel
theorem dX3_readHandlers_42 : decode cX3_readHandlers 42 = .ok (.iconst (-1), 1) := by decide +kernel
theorem dX3_readHandlers_43 : decode cX3_readHandlers 43 = .ok (.if_icmp .ne 18, 3) := by decide +kernel
theorem dX3_readHandlers_46 : decode cX3_readHandlers 46 = .ok (.aload_n 0, 1) := by decide +kernel
theorem dX3_readHandlers_47 : decode cX3_readHandlers 47 = .ok (.iconst 3, 1) := by decide +kernel
theorem dX3_readHandlers_48 : decode cX3_readHandlers 48 = .ok (.invokevirtual 164, 3) := by decide +kernel
theorem dX3_readHandlers_51 : decode cX3_readHandlers 51 = .ok (.aload_n 0, 1) := by decide +kernel
theorem dX3_readHandlers_52 : decode cX3_readHandlers 52 = .ok (.invokevirtual 167, 3) := by decide +kernel
theorem dX3_readHandlers_55 : decode cX3_readHandlers 55 = .ok (.iinc 3 1, 3) := by decide +kernel
theorem dX3_readHandlers_58 : decode cX3_readHandlers 58 = .ok (.goto (-25), 3) := by decide +kernel
theorem dX3_readHandlers_61 : decode cX3_readHandlers 61 = .ok (.return_, 1) := by decide +kernel
