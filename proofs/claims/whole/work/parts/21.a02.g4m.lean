theorem dX13_parametersIn_62 : decode cX13_parametersIn 62 = .ok (.iadd, 1) := by decide +kernel
theorem dX13_parametersIn_63 : decode cX13_parametersIn 63 = .ok (.istore 4, 2) := by decide +kernel
theorem dX13_parametersIn_65 : decode cX13_parametersIn 65 = .ok (.iinc 5 1, 3) := by decide +kernel
theorem dX13_parametersIn_68 : decode cX13_parametersIn 68 = .ok (.goto (-41), 3) := by decide +kernel
theorem dX13_parametersIn_71 : decode cX13_parametersIn 71 = .ok (.iload 4, 2) := by decide +kernel
theorem dX13_parametersIn_73 : decode cX13_parametersIn 73 = .ok (.iload_n 3, 1) := by decide +kernel
theorem dX13_parametersIn_74 : decode cX13_parametersIn 74 = .ok (.if_icmp .lt 5, 3) := by decide +kernel
theorem dX13_parametersIn_77 : decode cX13_parametersIn 77 = .ok (.iconst (-1), 1) := by decide +kernel
theorem dX13_parametersIn_78 : decode cX13_parametersIn 78 = .ok (.ireturn, 1) := by decide +kernel
theorem dX13_parametersIn_79 : decode cX13_parametersIn 79 = .ok (.iinc 4 1, 3) := by decide +kernel
theorem dX13_parametersIn_82 : decode cX13_parametersIn 82 = .ok (.iload 4, 2) := by decide +kernel
theorem dX13_parametersIn_84 : decode cX13_parametersIn 84 = .ok (.iconst 1, 1) := by decide +kernel
theorem dX13_parametersIn_85 : decode cX13_parametersIn 85 = .ok (.iadd, 1) := by decide +kernel
theorem dX13_parametersIn_86 : decode cX13_parametersIn 86 = .ok (.iload_n 3, 1) := by decide +kernel
theorem dX13_parametersIn_87 : decode cX13_parametersIn 87 = .ok (.if_icmp .ne 12, 3) := by decide +kernel
theorem dX13_parametersIn_90 : decode cX13_parametersIn 90 = .ok (.aload_n 0, 1) := by decide +kernel
theorem dX13_parametersIn_91 : decode cX13_parametersIn 91 = .ok (.iload 4, 2) := by decide +kernel
theorem dX13_parametersIn_93 : decode cX13_parametersIn 93 = .ok (.iaload, 1) := by decide +kernel
theorem dX13_parametersIn_94 : decode cX13_parametersIn 94 = .ok (.bipush 86, 2) := by decide +kernel
theorem dX13_parametersIn_96 : decode cX13_parametersIn 96 = .ok (.if_icmp .eq 16, 3) := by decide +kernel
theorem dX13_parametersIn_99 : decode cX13_parametersIn 99 = .ok (.aload_n 0, 1) := by decide +kernel
theorem dX13_parametersIn_100 : decode cX13_parametersIn 100 = .ok (.iload 4, 2) := by decide +kernel
theorem dX13_parametersIn_102 : decode cX13_parametersIn 102 = .ok (.iload_n 3, 1) := by decide +kernel
theorem dX13_parametersIn_103 : decode cX13_parametersIn 103 = .ok (.iload 4, 2) := by decide +kernel
theorem dX13_parametersIn_105 : decode cX13_parametersIn 105 = .ok (.isub, 1) := by decide +kernel
theorem dX13_parametersIn_106 : decode cX13_parametersIn 106 = .ok (.invokestatic 782, 3) := by decide +kernel
theorem dX13_parametersIn_109 : decode cX13_parametersIn 109 = .ok (.ifCond .eq 7, 3) := by decide +kernel
theorem dX13_parametersIn_112 : decode cX13_parametersIn 112 = .ok (.iconst 1, 1) := by decide +kernel
theorem dX13_parametersIn_113 : decode cX13_parametersIn 113 = .ok (.goto 4, 3) := by decide +kernel
theorem dX13_parametersIn_116 : decode cX13_parametersIn 116 = .ok (.iconst 0, 1) := by decide +kernel
theorem dX13_parametersIn_117 : decode cX13_parametersIn 117 = .ok (.istore 6, 2) := by decide +kernel
theorem dX13_parametersIn_119 : decode cX13_parametersIn 119 = .ok (.iload 6, 2) := by decide +kernel
theorem dX13_parametersIn_121 : decode cX13_parametersIn 121 = .ok (.ifCond .eq 8, 3) := by decide +kernel
theorem dX13_parametersIn_124 : decode cX13_parametersIn 124 = .ok (.iload 5, 2) := by decide +kernel
theorem dX13_parametersIn_126 : decode cX13_parametersIn 126 = .ok (.goto 4, 3) := by decide +kernel
theorem dX13_parametersIn_129 : decode cX13_parametersIn 129 = .ok (.iconst (-1), 1) := by decide +kernel
theorem dX13_parametersIn_130 : decode cX13_parametersIn 130 = .ok (.ireturn, 1) := by decide +kernel
theorem dX13_isMethodKind_0 : decode cX13_isMethodKind 0 = .ok (.aload_n 0, 1) := by decide +kernel
theorem dX13_isMethodKind_1 : decode cX13_isMethodKind 1 = .ok (.iload_n 1, 1) := by decide +kernel
theorem dX13_isMethodKind_2 : decode cX13_isMethodKind 2 = .ok (.iload_n 2, 1) := by decide +kernel
theorem dX13_isMethodKind_3 : decode cX13_isMethodKind 3 = .ok (.invokestatic 785, 3) := by decide +kernel
theorem dX13_isMethodKind_6 : decode cX13_isMethodKind 6 = .ok (.istore_n 3, 1) := by decide +kernel
theorem dX13_isMethodKind_7 : decode cX13_isMethodKind 7 = .ok (.iload_n 3, 1) := by decide +kernel
theorem dX13_isMethodKind_8 : decode cX13_isMethodKind 8 = .ok (.ifCond .lt 13, 3) := by decide +kernel
theorem dX13_isMethodKind_11 : decode cX13_isMethodKind 11 = .ok (.iload_n 3, 1) := by decide +kernel
theorem dX13_isMethodKind_12 : decode cX13_isMethodKind 12 = .ok (.bipush 6, 2) := by decide +kernel
theorem dX13_isMethodKind_14 : decode cX13_isMethodKind 14 = .ok (.if_icmp .gt 7, 3) := by decide +kernel
theorem dX13_isMethodKind_17 : decode cX13_isMethodKind 17 = .ok (.iconst 1, 1) := by decide +kernel
theorem dX13_isMethodKind_18 : decode cX13_isMethodKind 18 = .ok (.goto 4, 3) := by decide +kernel
theorem dX13_isMethodKind_21 : decode cX13_isMethodKind 21 = .ok (.iconst 0, 1) := by decide +kernel
theorem dX13_isMethodKind_22 : decode cX13_isMethodKind 22 = .ok (.ireturn, 1) := by decide +kernel
theorem dX13_isClassText_0 : decode cX13_isClassText 0 = .ok (.iload_n 2, 1) := by decide +kernel
theorem dX13_isClassText_1 : decode cX13_isClassText 1 = .ok (.ifCond .le 18, 3) := by decide +kernel
theorem dX13_isClassText_4 : decode cX13_isClassText 4 = .ok (.aload_n 0, 1) := by decide +kernel
theorem dX13_isClassText_5 : decode cX13_isClassText 5 = .ok (.iload_n 1, 1) := by decide +kernel
theorem dX13_isClassText_6 : decode cX13_isClassText 6 = .ok (.iaload, 1) := by decide +kernel
theorem dX13_isClassText_7 : decode cX13_isClassText 7 = .ok (.bipush 91, 2) := by decide +kernel
theorem dX13_isClassText_9 : decode cX13_isClassText 9 = .ok (.if_icmp .ne 10, 3) := by decide +kernel
theorem dX13_isClassText_12 : decode cX13_isClassText 12 = .ok (.aload_n 0, 1) := by decide +kernel
theorem dX13_isClassText_13 : decode cX13_isClassText 13 = .ok (.iload_n 1, 1) := by decide +kernel
theorem dX13_isClassText_14 : decode cX13_isClassText 14 = .ok (.iload_n 2, 1) := by decide +kernel
theorem dX13_isClassText_15 : decode cX13_isClassText 15 = .ok (.invokestatic 782, 3) := by decide +kernel
theorem dX13_isClassText_18 : decode cX13_isClassText 18 = .ok (.ireturn, 1) := by decide +kernel
theorem dX13_isClassText_19 : decode cX13_isClassText 19 = .ok (.aload_n 0, 1) := by decide +kernel
theorem dX13_isClassText_20 : decode cX13_isClassText 20 = .ok (.iload_n 1, 1) := by decide +kernel
theorem dX13_isClassText_21 : decode cX13_isClassText 21 = .ok (.iload_n 2, 1) := by decide +kernel
theorem dX13_isClassText_22 : decode cX13_isClassText 22 = .ok (.invokestatic 774, 3) := by decide +kernel
theorem dX13_isClassText_25 : decode cX13_isClassText 25 = .ok (.ireturn, 1) := by decide +kernel
theorem dX13_isText_0 : decode cX13_isText 0 = .ok (.aload_n 0, 1) := by decide +kernel
theorem dX13_isText_1 : decode cX13_isText 1 = .ok (.aload_n 0, 1) := by decide +kernel
theorem dX13_isText_2 : decode cX13_isText 2 = .ok (.getfield 788, 3) := by decide +kernel
theorem dX13_isText_5 : decode cX13_isText 5 = .ok (.iload_n 1, 1) := by decide +kernel
theorem dX13_isText_6 : decode cX13_isText 6 = .ok (.invokevirtual 791, 3) := by decide +kernel
theorem dX13_isText_9 : decode cX13_isText 9 = .ok (.istore_n 3, 1) := by decide +kernel
theorem dX13_isText_10 : decode cX13_isText 10 = .ok (.iload_n 3, 1) := by decide +kernel
theorem dX13_isText_11 : decode cX13_isText 11 = .ok (.ifCond .lt 13, 3) := by decide +kernel
theorem dX13_isText_14 : decode cX13_isText 14 = .ok (.aload_n 0, 1) := by decide +kernel
theorem dX13_isText_15 : decode cX13_isText 15 = .ok (.getfield 245, 3) := by decide +kernel
theorem dX13_isText_18 : decode cX13_isText 18 = .ok (.iload_n 3, 1) := by decide +kernel
theorem dX13_isText_19 : decode cX13_isText 19 = .ok (.iaload, 1) := by decide +kernel
theorem dX13_isText_20 : decode cX13_isText 20 = .ok (.iconst 1, 1) := by decide +kernel
theorem dX13_isText_21 : decode cX13_isText 21 = .ok (.if_icmp .eq 5, 3) := by decide +kernel
theorem dX13_isText_24 : decode cX13_isText 24 = .ok (.iconst 0, 1) := by decide +kernel
theorem dX13_isText_25 : decode cX13_isText 25 = .ok (.ireturn, 1) := by decide +kernel
theorem dX13_isText_26 : decode cX13_isText 26 = .ok (.aload_n 0, 1) := by decide +kernel
theorem dX13_isText_27 : decode cX13_isText 27 = .ok (.getfield 245, 3) := by decide +kernel
theorem dX13_isText_30 : decode cX13_isText 30 = .ok (.iload_n 3, 1) := by decide +kernel
theorem dX13_isText_31 : decode cX13_isText 31 = .ok (.iconst 1, 1) := by decide +kernel
theorem dX13_isText_32 : decode cX13_isText 32 = .ok (.iadd, 1) := by decide +kernel
theorem dX13_isText_33 : decode cX13_isText 33 = .ok (.iaload, 1) := by decide +kernel
theorem dX13_isText_34 : decode cX13_isText 34 = .ok (.istore 4, 2) := by decide +kernel
theorem dX13_isText_36 : decode cX13_isText 36 = .ok (.iload_n 2, 1) := by decide +kernel
theorem dX13_isText_37 : decode cX13_isText 37 = .ok (.tableswitch 106 0 3 #[31, 44, 57, 70], 31) := by decide +kernel
theorem dX13_isText_68 : decode cX13_isText 68 = .ok (.aload_n 0, 1) := by decide +kernel
theorem dX13_isText_69 : decode cX13_isText 69 = .ok (.getfield 245, 3) := by decide +kernel
theorem dX13_isText_72 : decode cX13_isText 72 = .ok (.iload_n 3, 1) := by decide +kernel
theorem dX13_isText_73 : decode cX13_isText 73 = .ok (.iconst 2, 1) := by decide +kernel
theorem dX13_isText_74 : decode cX13_isText 74 = .ok (.iadd, 1) := by decide +kernel
theorem dX13_isText_75 : decode cX13_isText 75 = .ok (.iload 4, 2) := by decide +kernel
theorem dX13_isText_77 : decode cX13_isText 77 = .ok (.invokestatic 774, 3) := by decide +kernel
theorem dX13_isText_80 : decode cX13_isText 80 = .ok (.ireturn, 1) := by decide +kernel
theorem dX13_isText_81 : decode cX13_isText 81 = .ok (.aload_n 0, 1) := by decide +kernel
theorem dX13_isText_82 : decode cX13_isText 82 = .ok (.getfield 245, 3) := by decide +kernel
theorem dX13_isText_85 : decode cX13_isText 85 = .ok (.iload_n 3, 1) := by decide +kernel
theorem dX13_isText_86 : decode cX13_isText 86 = .ok (.iconst 2, 1) := by decide +kernel
theorem dX13_isText_87 : decode cX13_isText 87 = .ok (.iadd, 1) := by decide +kernel
theorem dX13_isText_88 : decode cX13_isText 88 = .ok (.iload 4, 2) := by decide +kernel
theorem dX13_isText_90 : decode cX13_isText 90 = .ok (.invokestatic 782, 3) := by decide +kernel
theorem dX13_isText_93 : decode cX13_isText 93 = .ok (.ireturn, 1) := by decide +kernel
theorem dX13_isText_94 : decode cX13_isText 94 = .ok (.aload_n 0, 1) := by decide +kernel
theorem dX13_isText_95 : decode cX13_isText 95 = .ok (.getfield 245, 3) := by decide +kernel
theorem dX13_isText_98 : decode cX13_isText 98 = .ok (.iload_n 3, 1) := by decide +kernel
theorem dX13_isText_99 : decode cX13_isText 99 = .ok (.iconst 2, 1) := by decide +kernel
theorem dX13_isText_100 : decode cX13_isText 100 = .ok (.iadd, 1) := by decide +kernel
theorem dX13_isText_101 : decode cX13_isText 101 = .ok (.iload 4, 2) := by decide +kernel
theorem dX13_isText_103 : decode cX13_isText 103 = .ok (.invokestatic 794, 3) := by decide +kernel
theorem dX13_isText_106 : decode cX13_isText 106 = .ok (.ireturn, 1) := by decide +kernel
theorem dX13_isText_107 : decode cX13_isText 107 = .ok (.aload_n 0, 1) := by decide +kernel
theorem dX13_isText_108 : decode cX13_isText 108 = .ok (.getfield 245, 3) := by decide +kernel
theorem dX13_isText_111 : decode cX13_isText 111 = .ok (.iload_n 3, 1) := by decide +kernel
theorem dX13_isText_112 : decode cX13_isText 112 = .ok (.iconst 2, 1) := by decide +kernel
theorem dX13_isText_113 : decode cX13_isText 113 = .ok (.iadd, 1) := by decide +kernel
theorem dX13_isText_114 : decode cX13_isText 114 = .ok (.iload 4, 2) := by decide +kernel
theorem dX13_isText_116 : decode cX13_isText 116 = .ok (.invokestatic 782, 3) := by decide +kernel
theorem dX13_isText_119 : decode cX13_isText 119 = .ok (.ifCond .ne 18, 3) := by decide +kernel
theorem dX13_isText_122 : decode cX13_isText 122 = .ok (.aload_n 0, 1) := by decide +kernel
theorem dX13_isText_123 : decode cX13_isText 123 = .ok (.getfield 245, 3) := by decide +kernel
theorem dX13_isText_126 : decode cX13_isText 126 = .ok (.iload_n 3, 1) := by decide +kernel
theorem dX13_isText_127 : decode cX13_isText 127 = .ok (.iconst 2, 1) := by decide +kernel
theorem dX13_isText_128 : decode cX13_isText 128 = .ok (.iadd, 1) := by decide +kernel
theorem dX13_isText_129 : decode cX13_isText 129 = .ok (.iload 4, 2) := by decide +kernel
theorem dX13_isText_131 : decode cX13_isText 131 = .ok (.invokestatic 794, 3) := by decide +kernel
theorem dX13_isText_134 : decode cX13_isText 134 = .ok (.ifCond .eq 7, 3) := by decide +kernel
theorem dX13_isText_137 : decode cX13_isText 137 = .ok (.iconst 1, 1) := by decide +kernel
theorem dX13_isText_138 : decode cX13_isText 138 = .ok (.goto 4, 3) := by decide +kernel
theorem dX13_isText_141 : decode cX13_isText 141 = .ok (.iconst 0, 1) := by decide +kernel
theorem dX13_isText_142 : decode cX13_isText 142 = .ok (.ireturn, 1) := by decide +kernel
theorem dX13_isText_143 : decode cX13_isText 143 = .ok (.aload_n 0, 1) := by decide +kernel
theorem dX13_isText_144 : decode cX13_isText 144 = .ok (.getfield 245, 3) := by decide +kernel
theorem dX13_isText_147 : decode cX13_isText 147 = .ok (.iload_n 3, 1) := by decide +kernel
theorem dX13_isText_148 : decode cX13_isText 148 = .ok (.iconst 2, 1) := by decide +kernel
theorem dX13_isText_149 : decode cX13_isText 149 = .ok (.iadd, 1) := by decide +kernel
theorem dX13_isText_150 : decode cX13_isText 150 = .ok (.iload 4, 2) := by decide +kernel
theorem dX13_isText_152 : decode cX13_isText 152 = .ok (.invokestatic 797, 3) := by decide +kernel
theorem dX13_isText_155 : decode cX13_isText 155 = .ok (.ireturn, 1) := by decide +kernel
theorem dX13_scan_0 : decode cX13_scan 0 = .ok (.aload_n 0, 1) := by decide +kernel
theorem dX13_scan_1 : decode cX13_scan 1 = .ok (.iload_n 1, 1) := by decide +kernel
theorem dX13_scan_2 : decode cX13_scan 2 = .ok (.putfield 788, 3) := by decide +kernel
theorem dX13_scan_5 : decode cX13_scan 5 = .ok (.aload_n 0, 1) := by decide +kernel
theorem dX13_scan_6 : decode cX13_scan 6 = .ok (.iconst (-1), 1) := by decide +kernel
theorem dX13_scan_7 : decode cX13_scan 7 = .ok (.putfield 764, 3) := by decide +kernel
theorem dX13_scan_10 : decode cX13_scan 10 = .ok (.aload_n 0, 1) := by decide +kernel
theorem dX13_scan_11 : decode cX13_scan 11 = .ok (.getfield 218, 3) := by decide +kernel
theorem dX13_scan_14 : decode cX13_scan 14 = .ok (.iload_n 1, 1) := by decide +kernel
theorem dX13_scan_15 : decode cX13_scan 15 = .ok (.iconst 0, 1) := by decide +kernel
theorem dX13_scan_16 : decode cX13_scan 16 = .ok (.iastore, 1) := by decide +kernel
theorem dX13_scan_17 : decode cX13_scan 17 = .ok (.aload_n 0, 1) := by decide +kernel
theorem dX13_scan_18 : decode cX13_scan 18 = .ok (.iconst 0, 1) := by decide +kernel
theorem dX13_scan_19 : decode cX13_scan 19 = .ok (.invokevirtual 800, 3) := by decide +kernel
theorem dX13_scan_22 : decode cX13_scan 22 = .ok (.ifCond .eq 19, 3) := by decide +kernel
theorem dX13_scan_25 : decode cX13_scan 25 = .ok (.aload_n 0, 1) := by decide +kernel
theorem dX13_scan_26 : decode cX13_scan 26 = .ok (.getfield 245, 3) := by decide +kernel
theorem dX13_scan_29 : decode cX13_scan 29 = .ok (.iconst 0, 1) := by decide +kernel
theorem dX13_scan_30 : decode cX13_scan 30 = .ok (.iaload, 1) := by decide +kernel
theorem dX13_scan_31 : decode cX13_scan 31 = .ok (.bipush 74, 2) := by decide +kernel
theorem dX13_scan_33 : decode cX13_scan 33 = .ok (.if_icmp .eq 8, 3) := by decide +kernel
theorem dX13_scan_36 : decode cX13_scan 36 = .ok (.aload_n 0, 1) := by decide +kernel
theorem dX13_scan_37 : decode cX13_scan 37 = .ok (.iconst 0, 1) := by decide +kernel
theorem dX13_scan_38 : decode cX13_scan 38 = .ok (.invokevirtual 803, 3) := by decide +kernel
theorem dX13_scan_41 : decode cX13_scan 41 = .ok (.aload_n 0, 1) := by decide +kernel
theorem dX13_scan_42 : decode cX13_scan 42 = .ok (.iconst 1, 1) := by decide +kernel
theorem dX13_scan_43 : decode cX13_scan 43 = .ok (.invokevirtual 800, 3) := by decide +kernel
theorem dX13_scan_46 : decode cX13_scan 46 = .ok (.ifCond .eq 19, 3) := by decide +kernel
theorem dX13_scan_49 : decode cX13_scan 49 = .ok (.aload_n 0, 1) := by decide +kernel
theorem dX13_scan_50 : decode cX13_scan 50 = .ok (.getfield 245, 3) := by decide +kernel
theorem dX13_scan_53 : decode cX13_scan 53 = .ok (.iconst 1, 1) := by decide +kernel
theorem dX13_scan_54 : decode cX13_scan 54 = .ok (.iaload, 1) := by decide +kernel
theorem dX13_scan_55 : decode cX13_scan 55 = .ok (.bipush 77, 2) := by decide +kernel
theorem dX13_scan_57 : decode cX13_scan 57 = .ok (.if_icmp .eq 8, 3) := by decide +kernel
theorem dX13_scan_60 : decode cX13_scan 60 = .ok (.aload_n 0, 1) := by decide +kernel
theorem dX13_scan_61 : decode cX13_scan 61 = .ok (.iconst 1, 1) := by decide +kernel
theorem dX13_scan_62 : decode cX13_scan 62 = .ok (.invokevirtual 803, 3) := by decide +kernel
theorem dX13_scan_65 : decode cX13_scan 65 = .ok (.aload_n 0, 1) := by decide +kernel
theorem dX13_scan_66 : decode cX13_scan 66 = .ok (.iconst 2, 1) := by decide +kernel
theorem dX13_scan_67 : decode cX13_scan 67 = .ok (.invokevirtual 800, 3) := by decide +kernel
theorem dX13_scan_70 : decode cX13_scan 70 = .ok (.ifCond .ne 4, 3) := by decide +kernel
theorem dX13_scan_73 : decode cX13_scan 73 = .ok (.return_, 1) := by decide +kernel
theorem dX13_scan_74 : decode cX13_scan 74 = .ok (.aload_n 0, 1) := by decide +kernel
theorem dX13_scan_75 : decode cX13_scan 75 = .ok (.getfield 245, 3) := by decide +kernel
theorem dX13_scan_78 : decode cX13_scan 78 = .ok (.iconst 2, 1) := by decide +kernel
theorem dX13_scan_79 : decode cX13_scan 79 = .ok (.iaload, 1) := by decide +kernel
theorem dX13_scan_80 : decode cX13_scan 80 = .ok (.istore_n 2, 1) := by decide +kernel
theorem dX13_scan_81 : decode cX13_scan 81 = .ok (.iconst 3, 1) := by decide +kernel
theorem dX13_scan_82 : decode cX13_scan 82 = .ok (.istore_n 3, 1) := by decide +kernel
theorem dX13_scan_83 : decode cX13_scan 83 = .ok (.iconst 1, 1) := by decide +kernel
theorem dX13_scan_84 : decode cX13_scan 84 = .ok (.istore 4, 2) := by decide +kernel
theorem dX13_scan_86 : decode cX13_scan 86 = .ok (.iload 4, 2) := by decide +kernel
theorem dX13_scan_88 : decode cX13_scan 88 = .ok (.iload_n 2, 1) := by decide +kernel
theorem dX13_scan_89 : decode cX13_scan 89 = .ok (.if_icmp .gt 54, 3) := by decide +kernel
theorem dX13_scan_92 : decode cX13_scan 92 = .ok (.aload_n 0, 1) := by decide +kernel
theorem dX13_scan_93 : decode cX13_scan 93 = .ok (.getfield 764, 3) := by decide +kernel
theorem dX13_scan_96 : decode cX13_scan 96 = .ok (.iconst (-1), 1) := by decide +kernel
theorem dX13_scan_97 : decode cX13_scan 97 = .ok (.if_icmp .ne 46, 3) := by decide +kernel
theorem dX13_scan_100 : decode cX13_scan 100 = .ok (.aload_n 0, 1) := by decide +kernel
theorem dX13_scan_101 : decode cX13_scan 101 = .ok (.iload_n 3, 1) := by decide +kernel
theorem dX13_scan_102 : decode cX13_scan 102 = .ok (.invokevirtual 800, 3) := by decide +kernel
theorem dX13_scan_105 : decode cX13_scan 105 = .ok (.ifCond .ne 4, 3) := by decide +kernel
theorem dX13_scan_108 : decode cX13_scan 108 = .ok (.return_, 1) := by decide +kernel
theorem dX13_scan_109 : decode cX13_scan 109 = .ok (.aload_n 0, 1) := by decide +kernel
theorem dX13_scan_110 : decode cX13_scan 110 = .ok (.getfield 215, 3) := by decide +kernel
theorem dX13_scan_113 : decode cX13_scan 113 = .ok (.sipush 256, 3) := by decide +kernel
theorem dX13_scan_116 : decode cX13_scan 116 = .ok (.iload_n 1, 1) := by decide +kernel
theorem dX13_scan_117 : decode cX13_scan 117 = .ok (.imul, 1) := by decide +kernel
theorem dX13_scan_118 : decode cX13_scan 118 = .ok (.iload 4, 2) := by decide +kernel
theorem dX13_scan_120 : decode cX13_scan 120 = .ok (.iadd, 1) := by decide +kernel
theorem dX13_scan_121 : decode cX13_scan 121 = .ok (.iload_n 3, 1) := by decide +kernel
theorem dX13_scan_122 : decode cX13_scan 122 = .ok (.iastore, 1) := by decide +kernel
theorem dX13_scan_123 : decode cX13_scan 123 = .ok (.aload_n 0, 1) := by decide +kernel
theorem dX13_scan_124 : decode cX13_scan 124 = .ok (.getfield 218, 3) := by decide +kernel
theorem dX13_scan_127 : decode cX13_scan 127 = .ok (.iload_n 1, 1) := by decide +kernel
theorem dX13_scan_128 : decode cX13_scan 128 = .ok (.iload 4, 2) := by decide +kernel
theorem dX13_scan_130 : decode cX13_scan 130 = .ok (.iastore, 1) := by decide +kernel
theorem dX13_scan_131 : decode cX13_scan 131 = .ok (.aload_n 0, 1) := by decide +kernel
theorem dX13_scan_132 : decode cX13_scan 132 = .ok (.iload_n 3, 1) := by decide +kernel
theorem dX13_scan_133 : decode cX13_scan 133 = .ok (.invokevirtual 806, 3) := by decide +kernel
theorem dX13_scan_136 : decode cX13_scan 136 = .ok (.istore_n 3, 1) := by decide +kernel
theorem dX13_scan_137 : decode cX13_scan 137 = .ok (.iinc 4 1, 3) := by decide +kernel
theorem dX13_scan_140 : decode cX13_scan 140 = .ok (.goto (-54), 3) := by decide +kernel
theorem dX13_scan_143 : decode cX13_scan 143 = .ok (.iconst 1, 1) := by decide +kernel
theorem dX13_scan_144 : decode cX13_scan 144 = .ok (.istore 4, 2) := by decide +kernel
theorem dX13_scan_146 : decode cX13_scan 146 = .ok (.iload 4, 2) := by decide +kernel
theorem dX13_scan_148 : decode cX13_scan 148 = .ok (.iload_n 2, 1) := by decide +kernel
theorem dX13_scan_149 : decode cX13_scan 149 = .ok (.if_icmp .gt 34, 3) := by decide +kernel
theorem dX13_scan_152 : decode cX13_scan 152 = .ok (.aload_n 0, 1) := by decide +kernel
theorem dX13_scan_153 : decode cX13_scan 153 = .ok (.getfield 764, 3) := by decide +kernel
theorem dX13_scan_156 : decode cX13_scan 156 = .ok (.iconst (-1), 1) := by decide +kernel
theorem dX13_scan_157 : decode cX13_scan 157 = .ok (.if_icmp .ne 26, 3) := by decide +kernel
theorem dX13_scan_160 : decode cX13_scan 160 = .ok (.aload_n 0, 1) := by decide +kernel
theorem dX13_scan_161 : decode cX13_scan 161 = .ok (.aload_n 0, 1) := by decide +kernel
theorem dX13_scan_162 : decode cX13_scan 162 = .ok (.getfield 215, 3) := by decide +kernel
theorem dX13_scan_165 : decode cX13_scan 165 = .ok (.sipush 256, 3) := by decide +kernel
theorem dX13_scan_168 : decode cX13_scan 168 = .ok (.iload_n 1, 1) := by decide +kernel
theorem dX13_scan_169 : decode cX13_scan 169 = .ok (.imul, 1) := by decide +kernel
theorem dX13_scan_170 : decode cX13_scan 170 = .ok (.iload 4, 2) := by decide +kernel
theorem dX13_scan_172 : decode cX13_scan 172 = .ok (.iadd, 1) := by decide +kernel
theorem dX13_scan_173 : decode cX13_scan 173 = .ok (.iaload, 1) := by decide +kernel
theorem dX13_scan_174 : decode cX13_scan 174 = .ok (.invokevirtual 809, 3) := by decide +kernel
theorem dX13_scan_177 : decode cX13_scan 177 = .ok (.iinc 4 1, 3) := by decide +kernel
theorem dX13_scan_180 : decode cX13_scan 180 = .ok (.goto (-34), 3) := by decide +kernel
theorem dX13_scan_183 : decode cX13_scan 183 = .ok (.aload_n 0, 1) := by decide +kernel
theorem dX13_scan_184 : decode cX13_scan 184 = .ok (.iload_n 3, 1) := by decide +kernel
theorem dX13_scan_185 : decode cX13_scan 185 = .ok (.invokevirtual 800, 3) := by decide +kernel
theorem dX13_scan_188 : decode cX13_scan 188 = .ok (.ifCond .eq 22, 3) := by decide +kernel
theorem dX13_scan_191 : decode cX13_scan 191 = .ok (.aload_n 0, 1) := by decide +kernel
theorem dX13_scan_192 : decode cX13_scan 192 = .ok (.aload_n 0, 1) := by decide +kernel
theorem dX13_scan_193 : decode cX13_scan 193 = .ok (.getfield 245, 3) := by decide +kernel
theorem dX13_scan_196 : decode cX13_scan 196 = .ok (.iload_n 3, 1) := by decide +kernel
theorem dX13_scan_197 : decode cX13_scan 197 = .ok (.iaload, 1) := by decide +kernel
theorem dX13_scan_198 : decode cX13_scan 198 = .ok (.iconst 0, 1) := by decide +kernel
theorem dX13_scan_199 : decode cX13_scan 199 = .ok (.invokevirtual 812, 3) := by decide +kernel
theorem dX13_scan_202 : decode cX13_scan 202 = .ok (.ifCond .ne 8, 3) := by decide +kernel
theorem dX13_scan_205 : decode cX13_scan 205 = .ok (.aload_n 0, 1) := by decide +kernel
theorem dX13_scan_206 : decode cX13_scan 206 = .ok (.iload_n 3, 1) := by decide +kernel
theorem dX13_scan_207 : decode cX13_scan 207 = .ok (.invokevirtual 803, 3) := by decide +kernel
theorem dX13_scan_210 : decode cX13_scan 210 = .ok (.aload_n 0, 1) := by decide +kernel
theorem dX13_scan_211 : decode cX13_scan 211 = .ok (.iload_n 3, 1) := by decide +kernel
theorem dX13_scan_212 : decode cX13_scan 212 = .ok (.iconst 1, 1) := by decide +kernel
theorem dX13_scan_213 : decode cX13_scan 213 = .ok (.iadd, 1) := by decide +kernel
theorem dX13_scan_214 : decode cX13_scan 214 = .ok (.invokevirtual 800, 3) := by decide +kernel
theorem dX13_scan_217 : decode cX13_scan 217 = .ok (.ifCond .eq 26, 3) := by decide +kernel
theorem dX13_scan_220 : decode cX13_scan 220 = .ok (.aload_n 0, 1) := by decide +kernel
theorem dX13_scan_221 : decode cX13_scan 221 = .ok (.aload_n 0, 1) := by decide +kernel
theorem dX13_scan_222 : decode cX13_scan 222 = .ok (.getfield 245, 3) := by decide +kernel
theorem dX13_scan_225 : decode cX13_scan 225 = .ok (.iload_n 3, 1) := by decide +kernel
theorem dX13_scan_226 : decode cX13_scan 226 = .ok (.iconst 1, 1) := by decide +kernel
theorem dX13_scan_227 : decode cX13_scan 227 = .ok (.iadd, 1) := by decide +kernel
theorem dX13_scan_228 : decode cX13_scan 228 = .ok (.iaload, 1) := by decide +kernel
theorem dX13_scan_229 : decode cX13_scan 229 = .ok (.iconst 0, 1) := by decide +kernel
theorem dX13_scan_230 : decode cX13_scan 230 = .ok (.invokevirtual 812, 3) := by decide +kernel
theorem dX13_scan_233 : decode cX13_scan 233 = .ok (.ifCond .ne 10, 3) := by decide +kernel
theorem dX13_scan_236 : decode cX13_scan 236 = .ok (.aload_n 0, 1) := by decide +kernel
theorem dX13_scan_237 : decode cX13_scan 237 = .ok (.iload_n 3, 1) := by decide +kernel
theorem dX13_scan_238 : decode cX13_scan 238 = .ok (.iconst 1, 1) := by decide +kernel
theorem dX13_scan_239 : decode cX13_scan 239 = .ok (.iadd, 1) := by decide +kernel
theorem dX13_scan_240 : decode cX13_scan 240 = .ok (.invokevirtual 803, 3) := by decide +kernel
theorem dX13_scan_243 : decode cX13_scan 243 = .ok (.aload_n 0, 1) := by decide +kernel
theorem dX13_scan_244 : decode cX13_scan 244 = .ok (.iload_n 3, 1) := by decide +kernel
theorem dX13_scan_245 : decode cX13_scan 245 = .ok (.iconst 2, 1) := by decide +kernel
theorem dX13_scan_246 : decode cX13_scan 246 = .ok (.iadd, 1) := by decide +kernel
theorem dX13_scan_247 : decode cX13_scan 247 = .ok (.invokevirtual 800, 3) := by decide +kernel
theorem dX13_scan_250 : decode cX13_scan 250 = .ok (.ifCond .ne 4, 3) := by decide +kernel
theorem dX13_scan_253 : decode cX13_scan 253 = .ok (.return_, 1) := by decide +kernel
theorem dX13_scan_254 : decode cX13_scan 254 = .ok (.aload_n 0, 1) := by decide +kernel
theorem dX13_scan_255 : decode cX13_scan 255 = .ok (.getfield 221, 3) := by decide +kernel
theorem dX13_scan_258 : decode cX13_scan 258 = .ok (.iload_n 1, 1) := by decide +kernel
theorem dX13_scan_259 : decode cX13_scan 259 = .ok (.aload_n 0, 1) := by decide +kernel
theorem dX13_scan_260 : decode cX13_scan 260 = .ok (.getfield 245, 3) := by decide +kernel
theorem dX13_scan_263 : decode cX13_scan 263 = .ok (.iload_n 3, 1) := by decide +kernel
theorem dX13_scan_264 : decode cX13_scan 264 = .ok (.iaload, 1) := by decide +kernel
theorem dX13_scan_265 : decode cX13_scan 265 = .ok (.iastore, 1) := by decide +kernel
theorem dX13_scan_266 : decode cX13_scan 266 = .ok (.aload_n 0, 1) := by decide +kernel
theorem dX13_scan_267 : decode cX13_scan 267 = .ok (.getfield 224, 3) := by decide +kernel
theorem dX13_scan_270 : decode cX13_scan 270 = .ok (.iload_n 1, 1) := by decide +kernel
theorem dX13_scan_271 : decode cX13_scan 271 = .ok (.aload_n 0, 1) := by decide +kernel
theorem dX13_scan_272 : decode cX13_scan 272 = .ok (.getfield 245, 3) := by decide +kernel
theorem dX13_scan_275 : decode cX13_scan 275 = .ok (.iload_n 3, 1) := by decide +kernel
theorem dX13_scan_276 : decode cX13_scan 276 = .ok (.iconst 1, 1) := by decide +kernel
theorem dX13_scan_277 : decode cX13_scan 277 = .ok (.iadd, 1) := by decide +kernel
theorem dX13_scan_278 : decode cX13_scan 278 = .ok (.iaload, 1) := by decide +kernel
theorem dX13_scan_279 : decode cX13_scan 279 = .ok (.iastore, 1) := by decide +kernel
theorem dX13_scan_280 : decode cX13_scan 280 = .ok (.aload_n 0, 1) := by decide +kernel
theorem dX13_scan_281 : decode cX13_scan 281 = .ok (.iload_n 1, 1) := by decide +kernel
theorem dX13_scan_282 : decode cX13_scan 282 = .ok (.iload_n 3, 1) := by decide +kernel
theorem dX13_scan_283 : decode cX13_scan 283 = .ok (.iconst 2, 1) := by decide +kernel
theorem dX13_scan_284 : decode cX13_scan 284 = .ok (.iadd, 1) := by decide +kernel
theorem dX13_scan_285 : decode cX13_scan 285 = .ok (.invokevirtual 815, 3) := by decide +kernel
theorem dX13_scan_288 : decode cX13_scan 288 = .ok (.istore_n 3, 1) := by decide +kernel
theorem dX13_scan_289 : decode cX13_scan 289 = .ok (.aload_n 0, 1) := by decide +kernel
theorem dX13_scan_290 : decode cX13_scan 290 = .ok (.iload_n 3, 1) := by decide +kernel
theorem dX13_scan_291 : decode cX13_scan 291 = .ok (.invokevirtual 800, 3) := by decide +kernel
theorem dX13_scan_294 : decode cX13_scan 294 = .ok (.ifCond .ne 4, 3) := by decide +kernel
theorem dX13_scan_297 : decode cX13_scan 297 = .ok (.return_, 1) := by decide +kernel
theorem dX13_scan_298 : decode cX13_scan 298 = .ok (.aload_n 0, 1) := by decide +kernel
theorem dX13_scan_299 : decode cX13_scan 299 = .ok (.getfield 245, 3) := by decide +kernel
theorem dX13_scan_302 : decode cX13_scan 302 = .ok (.iload_n 3, 1) := by decide +kernel
theorem dX13_scan_303 : decode cX13_scan 303 = .ok (.iaload, 1) := by decide +kernel
theorem dX13_scan_304 : decode cX13_scan 304 = .ok (.bipush 12, 2) := by decide +kernel
theorem dX13_scan_306 : decode cX13_scan 306 = .ok (.if_icmp .le 8, 3) := by decide +kernel
theorem dX13_scan_309 : decode cX13_scan 309 = .ok (.aload_n 0, 1) := by decide +kernel
theorem dX13_scan_310 : decode cX13_scan 310 = .ok (.iload_n 3, 1) := by decide +kernel
theorem dX13_scan_311 : decode cX13_scan 311 = .ok (.invokevirtual 803, 3) := by decide +kernel
theorem dX13_scan_314 : decode cX13_scan 314 = .ok (.aload_n 0, 1) := by decide +kernel
theorem dX13_scan_315 : decode cX13_scan 315 = .ok (.getfield 233, 3) := by decide +kernel
theorem dX13_scan_318 : decode cX13_scan 318 = .ok (.iload_n 1, 1) := by decide +kernel
theorem dX13_scan_319 : decode cX13_scan 319 = .ok (.aload_n 0, 1) := by decide +kernel
theorem dX13_scan_320 : decode cX13_scan 320 = .ok (.getfield 245, 3) := by decide +kernel
theorem dX13_scan_323 : decode cX13_scan 323 = .ok (.iload_n 3, 1) := by decide +kernel
theorem dX13_scan_324 : decode cX13_scan 324 = .ok (.iaload, 1) := by decide +kernel
theorem dX13_scan_325 : decode cX13_scan 325 = .ok (.iastore, 1) := by decide +kernel
theorem dX13_scan_326 : decode cX13_scan 326 = .ok (.iinc 3 1, 3) := by decide +kernel
theorem dX13_scan_329 : decode cX13_scan 329 = .ok (.iconst 0, 1) := by decide +kernel
theorem dX13_scan_330 : decode cX13_scan 330 = .ok (.istore 4, 2) := by decide +kernel
theorem dX13_scan_332 : decode cX13_scan 332 = .ok (.aload_n 0, 1) := by decide +kernel
theorem dX13_scan_333 : decode cX13_scan 333 = .ok (.getfield 764, 3) := by decide +kernel
theorem dX13_scan_336 : decode cX13_scan 336 = .ok (.iconst (-1), 1) := by decide +kernel
theorem dX13_scan_337 : decode cX13_scan 337 = .ok (.if_icmp .ne 42, 3) := by decide +kernel
theorem dX13_scan_340 : decode cX13_scan 340 = .ok (.iload 4, 2) := by decide +kernel
theorem dX13_scan_342 : decode cX13_scan 342 = .ok (.aload_n 0, 1) := by decide +kernel
theorem dX13_scan_343 : decode cX13_scan 343 = .ok (.getfield 233, 3) := by decide +kernel
theorem dX13_scan_346 : decode cX13_scan 346 = .ok (.iload_n 1, 1) := by decide +kernel
theorem dX13_scan_347 : decode cX13_scan 347 = .ok (.iaload, 1) := by decide +kernel
theorem dX13_scan_348 : decode cX13_scan 348 = .ok (.if_icmp .ge 31, 3) := by decide +kernel
theorem dX13_scan_351 : decode cX13_scan 351 = .ok (.aload_n 0, 1) := by decide +kernel
theorem dX13_scan_352 : decode cX13_scan 352 = .ok (.getfield 236, 3) := by decide +kernel
theorem dX13_scan_355 : decode cX13_scan 355 = .ok (.bipush 12, 2) := by decide +kernel
theorem dX13_scan_357 : decode cX13_scan 357 = .ok (.iload_n 1, 1) := by decide +kernel
theorem dX13_scan_358 : decode cX13_scan 358 = .ok (.imul, 1) := by decide +kernel
theorem dX13_scan_359 : decode cX13_scan 359 = .ok (.iload 4, 2) := by decide +kernel
theorem dX13_scan_361 : decode cX13_scan 361 = .ok (.iadd, 1) := by decide +kernel
theorem dX13_scan_362 : decode cX13_scan 362 = .ok (.iload_n 3, 1) := by decide +kernel
theorem dX13_scan_363 : decode cX13_scan 363 = .ok (.iastore, 1) := by decide +kernel
theorem dX13_scan_364 : decode cX13_scan 364 = .ok (.aload_n 0, 1) := by decide +kernel
theorem dX13_scan_365 : decode cX13_scan 365 = .ok (.iload_n 1, 1) := by decide +kernel
theorem dX13_scan_366 : decode cX13_scan 366 = .ok (.iload 4, 2) := by decide +kernel
theorem dX13_scan_368 : decode cX13_scan 368 = .ok (.iload_n 3, 1) := by decide +kernel
theorem dX13_scan_369 : decode cX13_scan 369 = .ok (.invokevirtual 818, 3) := by decide +kernel
theorem dX13_scan_372 : decode cX13_scan 372 = .ok (.istore_n 3, 1) := by decide +kernel
theorem dX13_scan_373 : decode cX13_scan 373 = .ok (.iinc 4 1, 3) := by decide +kernel
theorem dX13_scan_376 : decode cX13_scan 376 = .ok (.goto (-44), 3) := by decide +kernel
theorem dX13_scan_379 : decode cX13_scan 379 = .ok (.aload_n 0, 1) := by decide +kernel
theorem dX13_scan_380 : decode cX13_scan 380 = .ok (.getfield 764, 3) := by decide +kernel
theorem dX13_scan_383 : decode cX13_scan 383 = .ok (.iconst (-1), 1) := by decide +kernel
theorem dX13_scan_384 : decode cX13_scan 384 = .ok (.if_icmp .ne 16, 3) := by decide +kernel
theorem dX13_scan_387 : decode cX13_scan 387 = .ok (.iload_n 3, 1) := by decide +kernel
theorem dX13_scan_388 : decode cX13_scan 388 = .ok (.aload_n 0, 1) := by decide +kernel
theorem dX13_scan_389 : decode cX13_scan 389 = .ok (.getfield 767, 3) := by decide +kernel
theorem dX13_scan_392 : decode cX13_scan 392 = .ok (.if_icmp .ge 8, 3) := by decide +kernel
theorem dX13_scan_395 : decode cX13_scan 395 = .ok (.aload_n 0, 1) := by decide +kernel
theorem dX13_scan_396 : decode cX13_scan 396 = .ok (.iload_n 3, 1) := by decide +kernel
theorem dX13_scan_397 : decode cX13_scan 397 = .ok (.invokevirtual 803, 3) := by decide +kernel
theorem dX13_scan_400 : decode cX13_scan 400 = .ok (.return_, 1) := by decide +kernel
theorem dX13_scanConstant_0 : decode cX13_scanConstant 0 = .ok (.aload_n 0, 1) := by decide +kernel
theorem dX13_scanConstant_1 : decode cX13_scanConstant 1 = .ok (.getfield 245, 3) := by decide +kernel
theorem dX13_scanConstant_4 : decode cX13_scanConstant 4 = .ok (.iload_n 1, 1) := by decide +kernel
theorem dX13_scanConstant_5 : decode cX13_scanConstant 5 = .ok (.iaload, 1) := by decide +kernel
theorem dX13_scanConstant_6 : decode cX13_scanConstant 6 = .ok (.tableswitch 183 1 4 #[30, 147, 159, 171], 30) := by decide +kernel
theorem dX13_scanConstant_36 : decode cX13_scanConstant 36 = .ok (.aload_n 0, 1) := by decide +kernel
theorem dX13_scanConstant_37 : decode cX13_scanConstant 37 = .ok (.iload_n 1, 1) := by decide +kernel
theorem dX13_scanConstant_38 : decode cX13_scanConstant 38 = .ok (.iconst 1, 1) := by decide +kernel
theorem dX13_scanConstant_39 : decode cX13_scanConstant 39 = .ok (.iadd, 1) := by decide +kernel
theorem dX13_scanConstant_40 : decode cX13_scanConstant 40 = .ok (.invokevirtual 800, 3) := by decide +kernel
theorem dX13_scanConstant_43 : decode cX13_scanConstant 43 = .ok (.ifCond .ne 5, 3) := by decide +kernel
theorem dX13_scanConstant_46 : decode cX13_scanConstant 46 = .ok (.iload_n 1, 1) := by decide +kernel
theorem dX13_scanConstant_47 : decode cX13_scanConstant 47 = .ok (.ireturn, 1) := by decide +kernel
theorem dX13_scanConstant_48 : decode cX13_scanConstant 48 = .ok (.aload_n 0, 1) := by decide +kernel
theorem dX13_scanConstant_49 : decode cX13_scanConstant 49 = .ok (.getfield 245, 3) := by decide +kernel
theorem dX13_scanConstant_52 : decode cX13_scanConstant 52 = .ok (.iload_n 1, 1) := by decide +kernel
theorem dX13_scanConstant_53 : decode cX13_scanConstant 53 = .ok (.iconst 1, 1) := by decide +kernel
theorem dX13_scanConstant_54 : decode cX13_scanConstant 54 = .ok (.iadd, 1) := by decide +kernel
theorem dX13_scanConstant_55 : decode cX13_scanConstant 55 = .ok (.iaload, 1) := by decide +kernel
theorem dX13_scanConstant_56 : decode cX13_scanConstant 56 = .ok (.istore_n 2, 1) := by decide +kernel
theorem dX13_scanConstant_57 : decode cX13_scanConstant 57 = .ok (.iload_n 2, 1) := by decide +kernel
theorem dX13_scanConstant_58 : decode cX13_scanConstant 58 = .ok (.iconst 1, 1) := by decide +kernel
theorem dX13_scanConstant_59 : decode cX13_scanConstant 59 = .ok (.if_icmp .lt 9, 3) := by decide +kernel
theorem dX13_scanConstant_62 : decode cX13_scanConstant 62 = .ok (.iload_n 2, 1) := by decide +kernel
theorem dX13_scanConstant_63 : decode cX13_scanConstant 63 = .ok (.bipush 120, 2) := by decide +kernel
theorem dX13_scanConstant_65 : decode cX13_scanConstant 65 = .ok (.if_icmp .le 10, 3) := by decide +kernel
theorem dX13_scanConstant_68 : decode cX13_scanConstant 68 = .ok (.aload_n 0, 1) := by decide +kernel
theorem dX13_scanConstant_69 : decode cX13_scanConstant 69 = .ok (.iload_n 1, 1) := by decide +kernel
theorem dX13_scanConstant_70 : decode cX13_scanConstant 70 = .ok (.iconst 1, 1) := by decide +kernel
theorem dX13_scanConstant_71 : decode cX13_scanConstant 71 = .ok (.iadd, 1) := by decide +kernel
theorem dX13_scanConstant_72 : decode cX13_scanConstant 72 = .ok (.invokevirtual 803, 3) := by decide +kernel
theorem dX13_scanConstant_75 : decode cX13_scanConstant 75 = .ok (.iconst 0, 1) := by decide +kernel
theorem dX13_scanConstant_76 : decode cX13_scanConstant 76 = .ok (.istore_n 3, 1) := by decide +kernel
theorem dX13_scanConstant_77 : decode cX13_scanConstant 77 = .ok (.iload_n 3, 1) := by decide +kernel
theorem dX13_scanConstant_78 : decode cX13_scanConstant 78 = .ok (.iload_n 2, 1) := by decide +kernel
theorem dX13_scanConstant_79 : decode cX13_scanConstant 79 = .ok (.if_icmp .ge 68, 3) := by decide +kernel
theorem dX13_scanConstant_82 : decode cX13_scanConstant 82 = .ok (.aload_n 0, 1) := by decide +kernel
theorem dX13_scanConstant_83 : decode cX13_scanConstant 83 = .ok (.getfield 764, 3) := by decide +kernel
theorem dX13_scanConstant_86 : decode cX13_scanConstant 86 = .ok (.iconst (-1), 1) := by decide +kernel
theorem dX13_scanConstant_87 : decode cX13_scanConstant 87 = .ok (.if_icmp .ne 60, 3) := by decide +kernel
theorem dX13_scanConstant_90 : decode cX13_scanConstant 90 = .ok (.aload_n 0, 1) := by decide +kernel
theorem dX13_scanConstant_91 : decode cX13_scanConstant 91 = .ok (.iload_n 1, 1) := by decide +kernel
theorem dX13_scanConstant_92 : decode cX13_scanConstant 92 = .ok (.iconst 2, 1) := by decide +kernel
theorem dX13_scanConstant_93 : decode cX13_scanConstant 93 = .ok (.iadd, 1) := by decide +kernel
theorem dX13_scanConstant_94 : decode cX13_scanConstant 94 = .ok (.iload_n 3, 1) := by decide +kernel
theorem dX13_scanConstant_95 : decode cX13_scanConstant 95 = .ok (.iadd, 1) := by decide +kernel
theorem dX13_scanConstant_96 : decode cX13_scanConstant 96 = .ok (.invokevirtual 800, 3) := by decide +kernel
theorem dX13_scanConstant_99 : decode cX13_scanConstant 99 = .ok (.ifCond .eq 42, 3) := by decide +kernel
theorem dX13_scanConstant_102 : decode cX13_scanConstant 102 = .ok (.aload_n 0, 1) := by decide +kernel
theorem dX13_scanConstant_103 : decode cX13_scanConstant 103 = .ok (.getfield 245, 3) := by decide +kernel
theorem dX13_scanConstant_106 : decode cX13_scanConstant 106 = .ok (.iload_n 1, 1) := by decide +kernel
theorem dX13_scanConstant_107 : decode cX13_scanConstant 107 = .ok (.iconst 2, 1) := by decide +kernel
theorem dX13_scanConstant_108 : decode cX13_scanConstant 108 = .ok (.iadd, 1) := by decide +kernel
theorem dX13_scanConstant_109 : decode cX13_scanConstant 109 = .ok (.iload_n 3, 1) := by decide +kernel
theorem dX13_scanConstant_110 : decode cX13_scanConstant 110 = .ok (.iadd, 1) := by decide +kernel
theorem dX13_scanConstant_111 : decode cX13_scanConstant 111 = .ok (.iaload, 1) := by decide +kernel
theorem dX13_scanConstant_112 : decode cX13_scanConstant 112 = .ok (.bipush 33, 2) := by decide +kernel
theorem dX13_scanConstant_114 : decode cX13_scanConstant 114 = .ok (.if_icmp .lt 18, 3) := by decide +kernel
theorem dX13_scanConstant_117 : decode cX13_scanConstant 117 = .ok (.aload_n 0, 1) := by decide +kernel
theorem dX13_scanConstant_118 : decode cX13_scanConstant 118 = .ok (.getfield 245, 3) := by decide +kernel
theorem dX13_scanConstant_121 : decode cX13_scanConstant 121 = .ok (.iload_n 1, 1) := by decide +kernel
theorem dX13_scanConstant_122 : decode cX13_scanConstant 122 = .ok (.iconst 2, 1) := by decide +kernel
theorem dX13_scanConstant_123 : decode cX13_scanConstant 123 = .ok (.iadd, 1) := by decide +kernel
theorem dX13_scanConstant_124 : decode cX13_scanConstant 124 = .ok (.iload_n 3, 1) := by decide +kernel
theorem dX13_scanConstant_125 : decode cX13_scanConstant 125 = .ok (.iadd, 1) := by decide +kernel
theorem dX13_scanConstant_126 : decode cX13_scanConstant 126 = .ok (.iaload, 1) := by decide +kernel
theorem dX13_scanConstant_127 : decode cX13_scanConstant 127 = .ok (.bipush 126, 2) := by decide +kernel
theorem dX13_scanConstant_129 : decode cX13_scanConstant 129 = .ok (.if_icmp .le 12, 3) := by decide +kernel
theorem dX13_scanConstant_132 : decode cX13_scanConstant 132 = .ok (.aload_n 0, 1) := by decide +kernel
theorem dX13_scanConstant_133 : decode cX13_scanConstant 133 = .ok (.iload_n 1, 1) := by decide +kernel
theorem dX13_scanConstant_134 : decode cX13_scanConstant 134 = .ok (.iconst 2, 1) := by decide +kernel
theorem dX13_scanConstant_135 : decode cX13_scanConstant 135 = .ok (.iadd, 1) := by decide +kernel
theorem dX13_scanConstant_136 : decode cX13_scanConstant 136 = .ok (.iload_n 3, 1) := by decide +kernel
theorem dX13_scanConstant_137 : decode cX13_scanConstant 137 = .ok (.iadd, 1) := by decide +kernel
theorem dX13_scanConstant_138 : decode cX13_scanConstant 138 = .ok (.invokevirtual 803, 3) := by decide +kernel
theorem dX13_scanConstant_141 : decode cX13_scanConstant 141 = .ok (.iinc 3 1, 3) := by decide +kernel
theorem dX13_scanConstant_144 : decode cX13_scanConstant 144 = .ok (.goto (-67), 3) := by decide +kernel
theorem dX13_scanConstant_147 : decode cX13_scanConstant 147 = .ok (.iload_n 1, 1) := by decide +kernel
theorem dX13_scanConstant_148 : decode cX13_scanConstant 148 = .ok (.iconst 2, 1) := by decide +kernel
theorem dX13_scanConstant_149 : decode cX13_scanConstant 149 = .ok (.iadd, 1) := by decide +kernel
theorem dX13_scanConstant_150 : decode cX13_scanConstant 150 = .ok (.iload_n 2, 1) := by decide +kernel
theorem dX13_scanConstant_151 : decode cX13_scanConstant 151 = .ok (.iadd, 1) := by decide +kernel
theorem dX13_scanConstant_152 : decode cX13_scanConstant 152 = .ok (.ireturn, 1) := by decide +kernel
theorem dX13_scanConstant_153 : decode cX13_scanConstant 153 = .ok (.aload_n 0, 1) := by decide +kernel
theorem dX13_scanConstant_154 : decode cX13_scanConstant 154 = .ok (.iload_n 1, 1) := by decide +kernel
theorem dX13_scanConstant_155 : decode cX13_scanConstant 155 = .ok (.iconst 4, 1) := by decide +kernel
theorem dX13_scanConstant_156 : decode cX13_scanConstant 156 = .ok (.iadd, 1) := by decide +kernel
theorem dX13_scanConstant_157 : decode cX13_scanConstant 157 = .ok (.invokevirtual 800, 3) := by decide +kernel
theorem dX13_scanConstant_160 : decode cX13_scanConstant 160 = .ok (.pop, 1) := by decide +kernel
theorem dX13_scanConstant_161 : decode cX13_scanConstant 161 = .ok (.iload_n 1, 1) := by decide +kernel
theorem dX13_scanConstant_162 : decode cX13_scanConstant 162 = .ok (.iconst 5, 1) := by decide +kernel
theorem dX13_scanConstant_163 : decode cX13_scanConstant 163 = .ok (.iadd, 1) := by decide +kernel
theorem dX13_scanConstant_164 : decode cX13_scanConstant 164 = .ok (.ireturn, 1) := by decide +kernel
theorem dX13_scanConstant_165 : decode cX13_scanConstant 165 = .ok (.aload_n 0, 1) := by decide +kernel
theorem dX13_scanConstant_166 : decode cX13_scanConstant 166 = .ok (.iload_n 1, 1) := by decide +kernel
theorem dX13_scanConstant_167 : decode cX13_scanConstant 167 = .ok (.iconst 1, 1) := by decide +kernel
theorem dX13_scanConstant_168 : decode cX13_scanConstant 168 = .ok (.iadd, 1) := by decide +kernel
theorem dX13_scanConstant_169 : decode cX13_scanConstant 169 = .ok (.invokevirtual 800, 3) := by decide +kernel
theorem dX13_scanConstant_172 : decode cX13_scanConstant 172 = .ok (.pop, 1) := by decide +kernel
theorem dX13_scanConstant_173 : decode cX13_scanConstant 173 = .ok (.iload_n 1, 1) := by decide +kernel
theorem dX13_scanConstant_174 : decode cX13_scanConstant 174 = .ok (.iconst 2, 1) := by decide +kernel
theorem dX13_scanConstant_175 : decode cX13_scanConstant 175 = .ok (.iadd, 1) := by decide +kernel
theorem dX13_scanConstant_176 : decode cX13_scanConstant 176 = .ok (.ireturn, 1) := by decide +kernel
theorem dX13_scanConstant_177 : decode cX13_scanConstant 177 = .ok (.aload_n 0, 1) := by decide +kernel
theorem dX13_scanConstant_178 : decode cX13_scanConstant 178 = .ok (.iload_n 1, 1) := by decide +kernel
theorem dX13_scanConstant_179 : decode cX13_scanConstant 179 = .ok (.iconst 3, 1) := by decide +kernel
theorem dX13_scanConstant_180 : decode cX13_scanConstant 180 = .ok (.iadd, 1) := by decide +kernel
theorem dX13_scanConstant_181 : decode cX13_scanConstant 181 = .ok (.invokevirtual 800, 3) := by decide +kernel
theorem dX13_scanConstant_184 : decode cX13_scanConstant 184 = .ok (.pop, 1) := by decide +kernel
theorem dX13_scanConstant_185 : decode cX13_scanConstant 185 = .ok (.iload_n 1, 1) := by decide +kernel
theorem dX13_scanConstant_186 : decode cX13_scanConstant 186 = .ok (.iconst 4, 1) := by decide +kernel
theorem dX13_scanConstant_187 : decode cX13_scanConstant 187 = .ok (.iadd, 1) := by decide +kernel
theorem dX13_scanConstant_188 : decode cX13_scanConstant 188 = .ok (.ireturn, 1) := by decide +kernel
theorem dX13_scanConstant_189 : decode cX13_scanConstant 189 = .ok (.aload_n 0, 1) := by decide +kernel
theorem dX13_scanConstant_190 : decode cX13_scanConstant 190 = .ok (.iload_n 1, 1) := by decide +kernel
theorem dX13_scanConstant_191 : decode cX13_scanConstant 191 = .ok (.invokevirtual 803, 3) := by decide +kernel
theorem dX13_scanConstant_194 : decode cX13_scanConstant 194 = .ok (.iload_n 1, 1) := by decide +kernel
theorem dX13_scanConstant_195 : decode cX13_scanConstant 195 = .ok (.ireturn, 1) := by decide +kernel
theorem dX13_checkConstant_0 : decode cX13_checkConstant 0 = .ok (.aload_n 0, 1) := by decide +kernel
theorem dX13_checkConstant_1 : decode cX13_checkConstant 1 = .ok (.getfield 245, 3) := by decide +kernel
theorem dX13_checkConstant_4 : decode cX13_checkConstant 4 = .ok (.iload_n 1, 1) := by decide +kernel
theorem dX13_checkConstant_5 : decode cX13_checkConstant 5 = .ok (.iaload, 1) := by decide +kernel
theorem dX13_checkConstant_6 : decode cX13_checkConstant 6 = .ok (.iconst 3, 1) := by decide +kernel
theorem dX13_checkConstant_7 : decode cX13_checkConstant 7 = .ok (.if_icmp .ne 26, 3) := by decide +kernel
theorem dX13_checkConstant_10 : decode cX13_checkConstant 10 = .ok (.aload_n 0, 1) := by decide +kernel
theorem dX13_checkConstant_11 : decode cX13_checkConstant 11 = .ok (.aload_n 0, 1) := by decide +kernel
theorem dX13_checkConstant_12 : decode cX13_checkConstant 12 = .ok (.getfield 245, 3) := by decide +kernel
theorem dX13_checkConstant_15 : decode cX13_checkConstant 15 = .ok (.iload_n 1, 1) := by decide +kernel
theorem dX13_checkConstant_16 : decode cX13_checkConstant 16 = .ok (.iconst 1, 1) := by decide +kernel
theorem dX13_checkConstant_17 : decode cX13_checkConstant 17 = .ok (.iadd, 1) := by decide +kernel
theorem dX13_checkConstant_18 : decode cX13_checkConstant 18 = .ok (.iaload, 1) := by decide +kernel
theorem dX13_checkConstant_19 : decode cX13_checkConstant 19 = .ok (.iconst 4, 1) := by decide +kernel
theorem dX13_checkConstant_20 : decode cX13_checkConstant 20 = .ok (.invokevirtual 821, 3) := by decide +kernel
theorem dX13_checkConstant_23 : decode cX13_checkConstant 23 = .ok (.ifCond .ne 10, 3) := by decide +kernel
theorem dX13_checkConstant_26 : decode cX13_checkConstant 26 = .ok (.aload_n 0, 1) := by decide +kernel
theorem dX13_checkConstant_27 : decode cX13_checkConstant 27 = .ok (.iload_n 1, 1) := by decide +kernel
theorem dX13_checkConstant_28 : decode cX13_checkConstant 28 = .ok (.iconst 1, 1) := by decide +kernel
theorem dX13_checkConstant_29 : decode cX13_checkConstant 29 = .ok (.iadd, 1) := by decide +kernel
theorem dX13_checkConstant_30 : decode cX13_checkConstant 30 = .ok (.invokevirtual 803, 3) := by decide +kernel
theorem dX13_checkConstant_33 : decode cX13_checkConstant 33 = .ok (.aload_n 0, 1) := by decide +kernel
theorem dX13_checkConstant_34 : decode cX13_checkConstant 34 = .ok (.getfield 245, 3) := by decide +kernel
theorem dX13_checkConstant_37 : decode cX13_checkConstant 37 = .ok (.iload_n 1, 1) := by decide +kernel
theorem dX13_checkConstant_38 : decode cX13_checkConstant 38 = .ok (.iaload, 1) := by decide +kernel
theorem dX13_checkConstant_39 : decode cX13_checkConstant 39 = .ok (.iconst 4, 1) := by decide +kernel
theorem dX13_checkConstant_40 : decode cX13_checkConstant 40 = .ok (.if_icmp .eq 4, 3) := by decide +kernel
theorem dX13_checkConstant_43 : decode cX13_checkConstant 43 = .ok (.return_, 1) := by decide +kernel
theorem dX13_checkConstant_44 : decode cX13_checkConstant 44 = .ok (.aload_n 0, 1) := by decide +kernel
theorem dX13_checkConstant_45 : decode cX13_checkConstant 45 = .ok (.aload_n 0, 1) := by decide +kernel
theorem dX13_checkConstant_46 : decode cX13_checkConstant 46 = .ok (.getfield 788, 3) := by decide +kernel
theorem dX13_checkConstant_49 : decode cX13_checkConstant 49 = .ok (.aload_n 0, 1) := by decide +kernel
theorem dX13_checkConstant_50 : decode cX13_checkConstant 50 = .ok (.getfield 245, 3) := by decide +kernel
theorem dX13_checkConstant_53 : decode cX13_checkConstant 53 = .ok (.iload_n 1, 1) := by decide +kernel
theorem dX13_checkConstant_54 : decode cX13_checkConstant 54 = .ok (.iconst 1, 1) := by decide +kernel
theorem dX13_checkConstant_55 : decode cX13_checkConstant 55 = .ok (.iadd, 1) := by decide +kernel
theorem dX13_checkConstant_56 : decode cX13_checkConstant 56 = .ok (.iaload, 1) := by decide +kernel
theorem dX13_checkConstant_57 : decode cX13_checkConstant 57 = .ok (.invokevirtual 791, 3) := by decide +kernel
theorem dX13_checkConstant_60 : decode cX13_checkConstant 60 = .ok (.istore_n 2, 1) := by decide +kernel
theorem dX13_checkConstant_61 : decode cX13_checkConstant 61 = .ok (.iload_n 2, 1) := by decide +kernel
theorem dX13_checkConstant_62 : decode cX13_checkConstant 62 = .ok (.ifCond .lt 13, 3) := by decide +kernel
theorem dX13_checkConstant_65 : decode cX13_checkConstant 65 = .ok (.aload_n 0, 1) := by decide +kernel
theorem dX13_checkConstant_66 : decode cX13_checkConstant 66 = .ok (.getfield 245, 3) := by decide +kernel
theorem dX13_checkConstant_69 : decode cX13_checkConstant 69 = .ok (.iload_n 2, 1) := by decide +kernel
theorem dX13_checkConstant_70 : decode cX13_checkConstant 70 = .ok (.iaload, 1) := by decide +kernel
theorem dX13_checkConstant_71 : decode cX13_checkConstant 71 = .ok (.iconst 3, 1) := by decide +kernel
theorem dX13_checkConstant_72 : decode cX13_checkConstant 72 = .ok (.if_icmp .eq 10, 3) := by decide +kernel
theorem dX13_checkConstant_75 : decode cX13_checkConstant 75 = .ok (.aload_n 0, 1) := by decide +kernel
theorem dX13_checkConstant_76 : decode cX13_checkConstant 76 = .ok (.iload_n 1, 1) := by decide +kernel
theorem dX13_checkConstant_77 : decode cX13_checkConstant 77 = .ok (.iconst 1, 1) := by decide +kernel
theorem dX13_checkConstant_78 : decode cX13_checkConstant 78 = .ok (.iadd, 1) := by decide +kernel
theorem dX13_checkConstant_79 : decode cX13_checkConstant 79 = .ok (.invokevirtual 803, 3) := by decide +kernel
theorem dX13_checkConstant_82 : decode cX13_checkConstant 82 = .ok (.aload_n 0, 1) := by decide +kernel
theorem dX13_checkConstant_83 : decode cX13_checkConstant 83 = .ok (.aload_n 0, 1) := by decide +kernel
theorem dX13_checkConstant_84 : decode cX13_checkConstant 84 = .ok (.getfield 245, 3) := by decide +kernel
theorem dX13_checkConstant_87 : decode cX13_checkConstant 87 = .ok (.iload_n 1, 1) := by decide +kernel
theorem dX13_checkConstant_88 : decode cX13_checkConstant 88 = .ok (.iconst 2, 1) := by decide +kernel
theorem dX13_checkConstant_89 : decode cX13_checkConstant 89 = .ok (.iadd, 1) := by decide +kernel
theorem dX13_checkConstant_90 : decode cX13_checkConstant 90 = .ok (.iaload, 1) := by decide +kernel
theorem dX13_checkConstant_91 : decode cX13_checkConstant 91 = .ok (.iconst 0, 1) := by decide +kernel
theorem dX13_checkConstant_92 : decode cX13_checkConstant 92 = .ok (.invokevirtual 821, 3) := by decide +kernel
theorem dX13_checkConstant_95 : decode cX13_checkConstant 95 = .ok (.ifCond .ne 10, 3) := by decide +kernel
theorem dX13_checkConstant_98 : decode cX13_checkConstant 98 = .ok (.aload_n 0, 1) := by decide +kernel
theorem dX13_checkConstant_99 : decode cX13_checkConstant 99 = .ok (.iload_n 1, 1) := by decide +kernel
theorem dX13_checkConstant_100 : decode cX13_checkConstant 100 = .ok (.iconst 2, 1) := by decide +kernel
theorem dX13_checkConstant_101 : decode cX13_checkConstant 101 = .ok (.iadd, 1) := by decide +kernel
theorem dX13_checkConstant_102 : decode cX13_checkConstant 102 = .ok (.invokevirtual 803, 3) := by decide +kernel
theorem dX13_checkConstant_105 : decode cX13_checkConstant 105 = .ok (.aload_n 0, 1) := by decide +kernel
theorem dX13_checkConstant_106 : decode cX13_checkConstant 106 = .ok (.aload_n 0, 1) := by decide +kernel
theorem dX13_checkConstant_107 : decode cX13_checkConstant 107 = .ok (.getfield 245, 3) := by decide +kernel
theorem dX13_checkConstant_110 : decode cX13_checkConstant 110 = .ok (.iload_n 1, 1) := by decide +kernel
theorem dX13_checkConstant_111 : decode cX13_checkConstant 111 = .ok (.iconst 3, 1) := by decide +kernel
theorem dX13_checkConstant_112 : decode cX13_checkConstant 112 = .ok (.iadd, 1) := by decide +kernel
theorem dX13_checkConstant_113 : decode cX13_checkConstant 113 = .ok (.iaload, 1) := by decide +kernel
theorem dX13_checkConstant_114 : decode cX13_checkConstant 114 = .ok (.iconst 3, 1) := by decide +kernel
theorem dX13_checkConstant_115 : decode cX13_checkConstant 115 = .ok (.invokevirtual 821, 3) := by decide +kernel
theorem dX13_checkConstant_118 : decode cX13_checkConstant 118 = .ok (.ifCond .ne 10, 3) := by decide +kernel
theorem dX13_checkConstant_121 : decode cX13_checkConstant 121 = .ok (.aload_n 0, 1) := by decide +kernel
theorem dX13_checkConstant_122 : decode cX13_checkConstant 122 = .ok (.iload_n 1, 1) := by decide +kernel
theorem dX13_checkConstant_123 : decode cX13_checkConstant 123 = .ok (.iconst 3, 1) := by decide +kernel
theorem dX13_checkConstant_124 : decode cX13_checkConstant 124 = .ok (.iadd, 1) := by decide +kernel
theorem dX13_checkConstant_125 : decode cX13_checkConstant 125 = .ok (.invokevirtual 803, 3) := by decide +kernel
theorem dX13_checkConstant_128 : decode cX13_checkConstant 128 = .ok (.return_, 1) := by decide +kernel
theorem dX13_scanFields_0 : decode cX13_scanFields 0 = .ok (.aload_n 0, 1) := by decide +kernel
theorem dX13_scanFields_1 : decode cX13_scanFields 1 = .ok (.getfield 245, 3) := by decide +kernel
theorem dX13_scanFields_4 : decode cX13_scanFields 4 = .ok (.iload_n 2, 1) := by decide +kernel
theorem dX13_scanFields_5 : decode cX13_scanFields 5 = .ok (.iaload, 1) := by decide +kernel
theorem dX13_scanFields_6 : decode cX13_scanFields 6 = .ok (.bipush 12, 2) := by decide +kernel
theorem dX13_scanFields_8 : decode cX13_scanFields 8 = .ok (.if_icmp .le 8, 3) := by decide +kernel
theorem dX13_scanFields_11 : decode cX13_scanFields 11 = .ok (.aload_n 0, 1) := by decide +kernel
theorem dX13_scanFields_12 : decode cX13_scanFields 12 = .ok (.iload_n 2, 1) := by decide +kernel
theorem dX13_scanFields_13 : decode cX13_scanFields 13 = .ok (.invokevirtual 803, 3) := by decide +kernel
theorem dX13_scanFields_16 : decode cX13_scanFields 16 = .ok (.aload_n 0, 1) := by decide +kernel
theorem dX13_scanFields_17 : decode cX13_scanFields 17 = .ok (.getfield 227, 3) := by decide +kernel
theorem dX13_scanFields_20 : decode cX13_scanFields 20 = .ok (.iload_n 1, 1) := by decide +kernel
theorem dX13_scanFields_21 : decode cX13_scanFields 21 = .ok (.aload_n 0, 1) := by decide +kernel
theorem dX13_scanFields_22 : decode cX13_scanFields 22 = .ok (.getfield 245, 3) := by decide +kernel
theorem dX13_scanFields_25 : decode cX13_scanFields 25 = .ok (.iload_n 2, 1) := by decide +kernel
theorem dX13_scanFields_26 : decode cX13_scanFields 26 = .ok (.iaload, 1) := by decide +kernel
theorem dX13_scanFields_27 : decode cX13_scanFields 27 = .ok (.iastore, 1) := by decide +kernel
theorem dX13_scanFields_28 : decode cX13_scanFields 28 = .ok (.iload_n 2, 1) := by decide +kernel
theorem dX13_scanFields_29 : decode cX13_scanFields 29 = .ok (.iconst 1, 1) := by decide +kernel
theorem dX13_scanFields_30 : decode cX13_scanFields 30 = .ok (.iadd, 1) := by decide +kernel
theorem dX13_scanFields_31 : decode cX13_scanFields 31 = .ok (.istore_n 3, 1) := by decide +kernel
theorem dX13_scanFields_32 : decode cX13_scanFields 32 = .ok (.iconst 0, 1) := by decide +kernel
theorem dX13_scanFields_33 : decode cX13_scanFields 33 = .ok (.istore 4, 2) := by decide +kernel
theorem dX13_scanFields_35 : decode cX13_scanFields 35 = .ok (.iload 4, 2) := by decide +kernel
theorem dX13_scanFields_37 : decode cX13_scanFields 37 = .ok (.aload_n 0, 1) := by decide +kernel
theorem dX13_scanFields_38 : decode cX13_scanFields 38 = .ok (.getfield 245, 3) := by decide +kernel
theorem dX13_scanFields_41 : decode cX13_scanFields 41 = .ok (.iload_n 2, 1) := by decide +kernel
theorem dX13_scanFields_42 : decode cX13_scanFields 42 = .ok (.iaload, 1) := by decide +kernel
theorem dX13_scanFields_43 : decode cX13_scanFields 43 = .ok (.if_icmp .ge 93, 3) := by decide +kernel
theorem dX13_scanFields_46 : decode cX13_scanFields 46 = .ok (.aload_n 0, 1) := by decide +kernel
theorem dX13_scanFields_47 : decode cX13_scanFields 47 = .ok (.getfield 764, 3) := by decide +kernel
theorem dX13_scanFields_50 : decode cX13_scanFields 50 = .ok (.iconst (-1), 1) := by decide +kernel
theorem dX13_scanFields_51 : decode cX13_scanFields 51 = .ok (.if_icmp .ne 85, 3) := by decide +kernel
theorem dX13_scanFields_54 : decode cX13_scanFields 54 = .ok (.aload_n 0, 1) := by decide +kernel
theorem dX13_scanFields_55 : decode cX13_scanFields 55 = .ok (.getfield 230, 3) := by decide +kernel
theorem dX13_scanFields_58 : decode cX13_scanFields 58 = .ok (.bipush 12, 2) := by decide +kernel
theorem dX13_scanFields_60 : decode cX13_scanFields 60 = .ok (.iload_n 1, 1) := by decide +kernel
theorem dX13_scanFields_61 : decode cX13_scanFields 61 = .ok (.imul, 1) := by decide +kernel
theorem dX13_scanFields_62 : decode cX13_scanFields 62 = .ok (.iload 4, 2) := by decide +kernel
theorem dX13_scanFields_64 : decode cX13_scanFields 64 = .ok (.iadd, 1) := by decide +kernel
theorem dX13_scanFields_65 : decode cX13_scanFields 65 = .ok (.iload_n 3, 1) := by decide +kernel
theorem dX13_scanFields_66 : decode cX13_scanFields 66 = .ok (.iastore, 1) := by decide +kernel
theorem dX13_scanFields_67 : decode cX13_scanFields 67 = .ok (.aload_n 0, 1) := by decide +kernel
theorem dX13_scanFields_68 : decode cX13_scanFields 68 = .ok (.iload_n 3, 1) := by decide +kernel
theorem dX13_scanFields_69 : decode cX13_scanFields 69 = .ok (.invokevirtual 800, 3) := by decide +kernel
theorem dX13_scanFields_72 : decode cX13_scanFields 72 = .ok (.ifCond .eq 22, 3) := by decide +kernel
theorem dX13_scanFields_75 : decode cX13_scanFields 75 = .ok (.aload_n 0, 1) := by decide +kernel
theorem dX13_scanFields_76 : decode cX13_scanFields 76 = .ok (.aload_n 0, 1) := by decide +kernel
theorem dX13_scanFields_77 : decode cX13_scanFields 77 = .ok (.getfield 245, 3) := by decide +kernel
theorem dX13_scanFields_80 : decode cX13_scanFields 80 = .ok (.iload_n 3, 1) := by decide +kernel
theorem dX13_scanFields_81 : decode cX13_scanFields 81 = .ok (.iaload, 1) := by decide +kernel
theorem dX13_scanFields_82 : decode cX13_scanFields 82 = .ok (.iconst 0, 1) := by decide +kernel
theorem dX13_scanFields_83 : decode cX13_scanFields 83 = .ok (.invokevirtual 821, 3) := by decide +kernel
theorem dX13_scanFields_86 : decode cX13_scanFields 86 = .ok (.ifCond .ne 8, 3) := by decide +kernel
theorem dX13_scanFields_89 : decode cX13_scanFields 89 = .ok (.aload_n 0, 1) := by decide +kernel
theorem dX13_scanFields_90 : decode cX13_scanFields 90 = .ok (.iload_n 3, 1) := by decide +kernel
theorem dX13_scanFields_91 : decode cX13_scanFields 91 = .ok (.invokevirtual 803, 3) := by decide +kernel
theorem dX13_scanFields_94 : decode cX13_scanFields 94 = .ok (.aload_n 0, 1) := by decide +kernel
theorem dX13_scanFields_95 : decode cX13_scanFields 95 = .ok (.iload_n 3, 1) := by decide +kernel
theorem dX13_scanFields_96 : decode cX13_scanFields 96 = .ok (.iconst 1, 1) := by decide +kernel
theorem dX13_scanFields_97 : decode cX13_scanFields 97 = .ok (.iadd, 1) := by decide +kernel
theorem dX13_scanFields_98 : decode cX13_scanFields 98 = .ok (.invokevirtual 800, 3) := by decide +kernel
theorem dX13_scanFields_101 : decode cX13_scanFields 101 = .ok (.ifCond .eq 26, 3) := by decide +kernel
theorem dX13_scanFields_104 : decode cX13_scanFields 104 = .ok (.aload_n 0, 1) := by decide +kernel
theorem dX13_scanFields_105 : decode cX13_scanFields 105 = .ok (.aload_n 0, 1) := by decide +kernel
theorem dX13_scanFields_106 : decode cX13_scanFields 106 = .ok (.getfield 245, 3) := by decide +kernel
theorem dX13_scanFields_109 : decode cX13_scanFields 109 = .ok (.iload_n 3, 1) := by decide +kernel
theorem dX13_scanFields_110 : decode cX13_scanFields 110 = .ok (.iconst 1, 1) := by decide +kernel
theorem dX13_scanFields_111 : decode cX13_scanFields 111 = .ok (.iadd, 1) := by decide +kernel
theorem dX13_scanFields_112 : decode cX13_scanFields 112 = .ok (.iaload, 1) := by decide +kernel
theorem dX13_scanFields_113 : decode cX13_scanFields 113 = .ok (.iconst 1, 1) := by decide +kernel
theorem dX13_scanFields_114 : decode cX13_scanFields 114 = .ok (.invokevirtual 821, 3) := by decide +kernel
theorem dX13_scanFields_117 : decode cX13_scanFields 117 = .ok (.ifCond .ne 10, 3) := by decide +kernel
theorem dX13_scanFields_120 : decode cX13_scanFields 120 = .ok (.aload_n 0, 1) := by decide +kernel
theorem dX13_scanFields_121 : decode cX13_scanFields 121 = .ok (.iload_n 3, 1) := by decide +kernel
theorem dX13_scanFields_122 : decode cX13_scanFields 122 = .ok (.iconst 1, 1) := by decide +kernel
theorem dX13_scanFields_123 : decode cX13_scanFields 123 = .ok (.iadd, 1) := by decide +kernel
theorem dX13_scanFields_124 : decode cX13_scanFields 124 = .ok (.invokevirtual 803, 3) := by decide +kernel
theorem dX13_scanFields_127 : decode cX13_scanFields 127 = .ok (.iinc 3 2, 3) := by decide +kernel
theorem dX13_scanFields_130 : decode cX13_scanFields 130 = .ok (.iinc 4 1, 3) := by decide +kernel
theorem dX13_scanFields_133 : decode cX13_scanFields 133 = .ok (.goto (-98), 3) := by decide +kernel
theorem dX13_scanFields_136 : decode cX13_scanFields 136 = .ok (.iload_n 3, 1) := by decide +kernel
theorem dX13_scanFields_137 : decode cX13_scanFields 137 = .ok (.ireturn, 1) := by decide +kernel
theorem dX13_scanMethod_0 : decode cX13_scanMethod 0 = .ok (.iload_n 3, 1) := by decide +kernel
theorem dX13_scanMethod_1 : decode cX13_scanMethod 1 = .ok (.istore 4, 2) := by decide +kernel
theorem dX13_scanMethod_3 : decode cX13_scanMethod 3 = .ok (.aload_n 0, 1) := by decide +kernel
theorem dX13_scanMethod_4 : decode cX13_scanMethod 4 = .ok (.iload 4, 2) := by decide +kernel
theorem dX13_scanMethod_6 : decode cX13_scanMethod 6 = .ok (.invokevirtual 800, 3) := by decide +kernel
theorem dX13_scanMethod_9 : decode cX13_scanMethod 9 = .ok (.ifCond .eq 20, 3) := by decide +kernel
theorem dX13_scanMethod_12 : decode cX13_scanMethod 12 = .ok (.aload_n 0, 1) := by decide +kernel
theorem dX13_scanMethod_13 : decode cX13_scanMethod 13 = .ok (.getfield 245, 3) := by decide +kernel
theorem dX13_scanMethod_16 : decode cX13_scanMethod 16 = .ok (.iload 4, 2) := by decide +kernel
theorem dX13_scanMethod_18 : decode cX13_scanMethod 18 = .ok (.iaload, 1) := by decide +kernel
theorem dX13_scanMethod_19 : decode cX13_scanMethod 19 = .ok (.iconst 1, 1) := by decide +kernel
theorem dX13_scanMethod_20 : decode cX13_scanMethod 20 = .ok (.if_icmp .le 9, 3) := by decide +kernel
theorem dX13_scanMethod_23 : decode cX13_scanMethod 23 = .ok (.aload_n 0, 1) := by decide +kernel
theorem dX13_scanMethod_24 : decode cX13_scanMethod 24 = .ok (.iload 4, 2) := by decide +kernel
theorem dX13_scanMethod_26 : decode cX13_scanMethod 26 = .ok (.invokevirtual 803, 3) := by decide +kernel
theorem dX13_scanMethod_29 : decode cX13_scanMethod 29 = .ok (.aload_n 0, 1) := by decide +kernel
theorem dX13_scanMethod_30 : decode cX13_scanMethod 30 = .ok (.iload 4, 2) := by decide +kernel
theorem dX13_scanMethod_32 : decode cX13_scanMethod 32 = .ok (.iconst 1, 1) := by decide +kernel
theorem dX13_scanMethod_33 : decode cX13_scanMethod 33 = .ok (.iadd, 1) := by decide +kernel
theorem dX13_scanMethod_34 : decode cX13_scanMethod 34 = .ok (.invokevirtual 800, 3) := by decide +kernel
theorem dX13_scanMethod_37 : decode cX13_scanMethod 37 = .ok (.ifCond .eq 28, 3) := by decide +kernel
theorem dX13_scanMethod_40 : decode cX13_scanMethod 40 = .ok (.aload_n 0, 1) := by decide +kernel
theorem dX13_scanMethod_41 : decode cX13_scanMethod 41 = .ok (.aload_n 0, 1) := by decide +kernel
theorem dX13_scanMethod_42 : decode cX13_scanMethod 42 = .ok (.getfield 245, 3) := by decide +kernel
theorem dX13_scanMethod_45 : decode cX13_scanMethod 45 = .ok (.iload 4, 2) := by decide +kernel
theorem dX13_scanMethod_47 : decode cX13_scanMethod 47 = .ok (.iconst 1, 1) := by decide +kernel
theorem dX13_scanMethod_48 : decode cX13_scanMethod 48 = .ok (.iadd, 1) := by decide +kernel
theorem dX13_scanMethod_49 : decode cX13_scanMethod 49 = .ok (.iaload, 1) := by decide +kernel
theorem dX13_scanMethod_50 : decode cX13_scanMethod 50 = .ok (.iconst 0, 1) := by decide +kernel
theorem dX13_scanMethod_51 : decode cX13_scanMethod 51 = .ok (.invokevirtual 821, 3) := by decide +kernel
theorem dX13_scanMethod_54 : decode cX13_scanMethod 54 = .ok (.ifCond .ne 11, 3) := by decide +kernel
theorem dX13_scanMethod_57 : decode cX13_scanMethod 57 = .ok (.aload_n 0, 1) := by decide +kernel
theorem dX13_scanMethod_58 : decode cX13_scanMethod 58 = .ok (.iload 4, 2) := by decide +kernel
theorem dX13_scanMethod_60 : decode cX13_scanMethod 60 = .ok (.iconst 1, 1) := by decide +kernel
theorem dX13_scanMethod_61 : decode cX13_scanMethod 61 = .ok (.iadd, 1) := by decide +kernel
theorem dX13_scanMethod_62 : decode cX13_scanMethod 62 = .ok (.invokevirtual 803, 3) := by decide +kernel
theorem dX13_scanMethod_65 : decode cX13_scanMethod 65 = .ok (.aload_n 0, 1) := by decide +kernel
theorem dX13_scanMethod_66 : decode cX13_scanMethod 66 = .ok (.iload 4, 2) := by decide +kernel
theorem dX13_scanMethod_68 : decode cX13_scanMethod 68 = .ok (.iconst 2, 1) := by decide +kernel
theorem dX13_scanMethod_69 : decode cX13_scanMethod 69 = .ok (.iadd, 1) := by decide +kernel
theorem dX13_scanMethod_70 : decode cX13_scanMethod 70 = .ok (.invokevirtual 800, 3) := by decide +kernel
theorem dX13_scanMethod_73 : decode cX13_scanMethod 73 = .ok (.ifCond .eq 28, 3) := by decide +kernel
theorem dX13_scanMethod_76 : decode cX13_scanMethod 76 = .ok (.aload_n 0, 1) := by decide +kernel
theorem dX13_scanMethod_77 : decode cX13_scanMethod 77 = .ok (.aload_n 0, 1) := by decide +kernel
theorem dX13_scanMethod_78 : decode cX13_scanMethod 78 = .ok (.getfield 245, 3) := by decide +kernel
theorem dX13_scanMethod_81 : decode cX13_scanMethod 81 = .ok (.iload 4, 2) := by decide +kernel
theorem dX13_scanMethod_83 : decode cX13_scanMethod 83 = .ok (.iconst 2, 1) := by decide +kernel
theorem dX13_scanMethod_84 : decode cX13_scanMethod 84 = .ok (.iadd, 1) := by decide +kernel
theorem dX13_scanMethod_85 : decode cX13_scanMethod 85 = .ok (.iaload, 1) := by decide +kernel
theorem dX13_scanMethod_86 : decode cX13_scanMethod 86 = .ok (.iconst 2, 1) := by decide +kernel
theorem dX13_scanMethod_87 : decode cX13_scanMethod 87 = .ok (.invokevirtual 821, 3) := by decide +kernel
theorem dX13_scanMethod_90 : decode cX13_scanMethod 90 = .ok (.ifCond .ne 11, 3) := by decide +kernel
theorem dX13_scanMethod_93 : decode cX13_scanMethod 93 = .ok (.aload_n 0, 1) := by decide +kernel
theorem dX13_scanMethod_94 : decode cX13_scanMethod 94 = .ok (.iload 4, 2) := by decide +kernel
theorem dX13_scanMethod_96 : decode cX13_scanMethod 96 = .ok (.iconst 2, 1) := by decide +kernel
theorem dX13_scanMethod_97 : decode cX13_scanMethod 97 = .ok (.iadd, 1) := by decide +kernel
theorem dX13_scanMethod_98 : decode cX13_scanMethod 98 = .ok (.invokevirtual 803, 3) := by decide +kernel
theorem dX13_scanMethod_101 : decode cX13_scanMethod 101 = .ok (.aload_n 0, 1) := by decide +kernel
theorem dX13_scanMethod_102 : decode cX13_scanMethod 102 = .ok (.iload 4, 2) := by decide +kernel
theorem dX13_scanMethod_104 : decode cX13_scanMethod 104 = .ok (.iconst 3, 1) := by decide +kernel
theorem dX13_scanMethod_105 : decode cX13_scanMethod 105 = .ok (.iadd, 1) := by decide +kernel
theorem dX13_scanMethod_106 : decode cX13_scanMethod 106 = .ok (.invokevirtual 800, 3) := by decide +kernel
theorem dX13_scanMethod_109 : decode cX13_scanMethod 109 = .ok (.ifCond .eq 25, 3) := by decide +kernel
theorem dX13_scanMethod_112 : decode cX13_scanMethod 112 = .ok (.aload_n 0, 1) := by decide +kernel
theorem dX13_scanMethod_113 : decode cX13_scanMethod 113 = .ok (.getfield 245, 3) := by decide +kernel
theorem dX13_scanMethod_116 : decode cX13_scanMethod 116 = .ok (.iload 4, 2) := by decide +kernel
theorem dX13_scanMethod_118 : decode cX13_scanMethod 118 = .ok (.iconst 3, 1) := by decide +kernel
theorem dX13_scanMethod_119 : decode cX13_scanMethod 119 = .ok (.iadd, 1) := by decide +kernel
theorem dX13_scanMethod_120 : decode cX13_scanMethod 120 = .ok (.iaload, 1) := by decide +kernel
theorem dX13_scanMethod_121 : decode cX13_scanMethod 121 = .ok (.bipush 30, 2) := by decide +kernel
theorem dX13_scanMethod_123 : decode cX13_scanMethod 123 = .ok (.if_icmp .le 11, 3) := by decide +kernel
theorem dX13_scanMethod_126 : decode cX13_scanMethod 126 = .ok (.aload_n 0, 1) := by decide +kernel
theorem dX13_scanMethod_127 : decode cX13_scanMethod 127 = .ok (.iload 4, 2) := by decide +kernel
theorem dX13_scanMethod_129 : decode cX13_scanMethod 129 = .ok (.iconst 3, 1) := by decide +kernel
theorem dX13_scanMethod_130 : decode cX13_scanMethod 130 = .ok (.iadd, 1) := by decide +kernel
theorem dX13_scanMethod_131 : decode cX13_scanMethod 131 = .ok (.invokevirtual 803, 3) := by decide +kernel
theorem dX13_scanMethod_134 : decode cX13_scanMethod 134 = .ok (.aload_n 0, 1) := by decide +kernel
theorem dX13_scanMethod_135 : decode cX13_scanMethod 135 = .ok (.iload 4, 2) := by decide +kernel
theorem dX13_scanMethod_137 : decode cX13_scanMethod 137 = .ok (.iconst 4, 1) := by decide +kernel
theorem dX13_scanMethod_138 : decode cX13_scanMethod 138 = .ok (.iadd, 1) := by decide +kernel
theorem dX13_scanMethod_139 : decode cX13_scanMethod 139 = .ok (.invokevirtual 800, 3) := by decide +kernel
theorem dX13_scanMethod_142 : decode cX13_scanMethod 142 = .ok (.ifCond .ne 6, 3) := by decide +kernel
theorem dX13_scanMethod_145 : decode cX13_scanMethod 145 = .ok (.iload 4, 2) := by decide +kernel
theorem dX13_scanMethod_147 : decode cX13_scanMethod 147 = .ok (.ireturn, 1) := by decide +kernel
theorem dX13_scanMethod_148 : decode cX13_scanMethod 148 = .ok (.aload_n 0, 1) := by decide +kernel
theorem dX13_scanMethod_149 : decode cX13_scanMethod 149 = .ok (.iload_n 1, 1) := by decide +kernel
theorem dX13_scanMethod_150 : decode cX13_scanMethod 150 = .ok (.aload_n 0, 1) := by decide +kernel
theorem dX13_scanMethod_151 : decode cX13_scanMethod 151 = .ok (.getfield 245, 3) := by decide +kernel
theorem dX13_scanMethod_154 : decode cX13_scanMethod 154 = .ok (.iload 4, 2) := by decide +kernel
theorem dX13_scanMethod_156 : decode cX13_scanMethod 156 = .ok (.iconst 2, 1) := by decide +kernel
theorem dX13_scanMethod_157 : decode cX13_scanMethod 157 = .ok (.iadd, 1) := by decide +kernel
theorem dX13_scanMethod_158 : decode cX13_scanMethod 158 = .ok (.iaload, 1) := by decide +kernel
theorem dX13_scanMethod_159 : decode cX13_scanMethod 159 = .ok (.invokevirtual 791, 3) := by decide +kernel
theorem dX13_scanMethod_162 : decode cX13_scanMethod 162 = .ok (.istore 5, 2) := by decide +kernel
theorem dX13_scanMethod_164 : decode cX13_scanMethod 164 = .ok (.aload_n 0, 1) := by decide +kernel
theorem dX13_scanMethod_165 : decode cX13_scanMethod 165 = .ok (.getfield 245, 3) := by decide +kernel
theorem dX13_scanMethod_168 : decode cX13_scanMethod 168 = .ok (.iload 5, 2) := by decide +kernel
theorem dX13_scanMethod_170 : decode cX13_scanMethod 170 = .ok (.iconst 2, 1) := by decide +kernel
theorem dX13_scanMethod_171 : decode cX13_scanMethod 171 = .ok (.iadd, 1) := by decide +kernel
theorem dX13_scanMethod_172 : decode cX13_scanMethod 172 = .ok (.aload_n 0, 1) := by decide +kernel
theorem dX13_scanMethod_173 : decode cX13_scanMethod 173 = .ok (.getfield 245, 3) := by decide +kernel
theorem dX13_scanMethod_176 : decode cX13_scanMethod 176 = .ok (.iload 5, 2) := by decide +kernel
theorem dX13_scanMethod_178 : decode cX13_scanMethod 178 = .ok (.iconst 1, 1) := by decide +kernel
theorem dX13_scanMethod_179 : decode cX13_scanMethod 179 = .ok (.iadd, 1) := by decide +kernel
theorem dX13_scanMethod_180 : decode cX13_scanMethod 180 = .ok (.iaload, 1) := by decide +kernel
theorem dX13_scanMethod_181 : decode cX13_scanMethod 181 = .ok (.invokestatic 785, 3) := by decide +kernel
theorem dX13_scanMethod_184 : decode cX13_scanMethod 184 = .ok (.iconst 1, 1) := by decide +kernel
theorem dX13_scanMethod_185 : decode cX13_scanMethod 185 = .ok (.iadd, 1) := by decide +kernel
theorem dX13_scanMethod_186 : decode cX13_scanMethod 186 = .ok (.aload_n 0, 1) := by decide +kernel
theorem dX13_scanMethod_187 : decode cX13_scanMethod 187 = .ok (.getfield 245, 3) := by decide +kernel
theorem dX13_scanMethod_190 : decode cX13_scanMethod 190 = .ok (.iload 4, 2) := by decide +kernel
theorem dX13_scanMethod_192 : decode cX13_scanMethod 192 = .ok (.iaload, 1) := by decide +kernel
theorem dX13_scanMethod_193 : decode cX13_scanMethod 193 = .ok (.isub, 1) := by decide +kernel
theorem dX13_scanMethod_194 : decode cX13_scanMethod 194 = .ok (.istore 6, 2) := by decide +kernel
theorem dX13_scanMethod_196 : decode cX13_scanMethod 196 = .ok (.aload_n 0, 1) := by decide +kernel
theorem dX13_scanMethod_197 : decode cX13_scanMethod 197 = .ok (.getfield 245, 3) := by decide +kernel
theorem dX13_scanMethod_200 : decode cX13_scanMethod 200 = .ok (.iload 4, 2) := by decide +kernel
theorem dX13_scanMethod_202 : decode cX13_scanMethod 202 = .ok (.iconst 4, 1) := by decide +kernel
theorem dX13_scanMethod_203 : decode cX13_scanMethod 203 = .ok (.iadd, 1) := by decide +kernel
theorem dX13_scanMethod_204 : decode cX13_scanMethod 204 = .ok (.iaload, 1) := by decide +kernel
theorem dX13_scanMethod_205 : decode cX13_scanMethod 205 = .ok (.bipush 30, 2) := by decide +kernel
theorem dX13_scanMethod_207 : decode cX13_scanMethod 207 = .ok (.if_icmp .gt 17, 3) := by decide +kernel
theorem dX13_scanMethod_210 : decode cX13_scanMethod 210 = .ok (.aload_n 0, 1) := by decide +kernel
theorem dX13_scanMethod_211 : decode cX13_scanMethod 211 = .ok (.getfield 245, 3) := by decide +kernel
theorem dX13_scanMethod_214 : decode cX13_scanMethod 214 = .ok (.iload 4, 2) := by decide +kernel
theorem dX13_scanMethod_216 : decode cX13_scanMethod 216 = .ok (.iconst 4, 1) := by decide +kernel
theorem dX13_scanMethod_217 : decode cX13_scanMethod 217 = .ok (.iadd, 1) := by decide +kernel
theorem dX13_scanMethod_218 : decode cX13_scanMethod 218 = .ok (.iaload, 1) := by decide +kernel
theorem dX13_scanMethod_219 : decode cX13_scanMethod 219 = .ok (.iload 6, 2) := by decide +kernel
theorem dX13_scanMethod_221 : decode cX13_scanMethod 221 = .ok (.if_icmp .ge 11, 3) := by decide +kernel
theorem dX13_scanMethod_224 : decode cX13_scanMethod 224 = .ok (.aload_n 0, 1) := by decide +kernel
theorem dX13_scanMethod_225 : decode cX13_scanMethod 225 = .ok (.iload 4, 2) := by decide +kernel
theorem dX13_scanMethod_227 : decode cX13_scanMethod 227 = .ok (.iconst 4, 1) := by decide +kernel
theorem dX13_scanMethod_228 : decode cX13_scanMethod 228 = .ok (.iadd, 1) := by decide +kernel
theorem dX13_scanMethod_229 : decode cX13_scanMethod 229 = .ok (.invokevirtual 803, 3) := by decide +kernel
theorem dX13_scanMethod_232 : decode cX13_scanMethod 232 = .ok (.aload_n 0, 1) := by decide +kernel
theorem dX13_scanMethod_233 : decode cX13_scanMethod 233 = .ok (.iload 4, 2) := by decide +kernel
theorem dX13_scanMethod_235 : decode cX13_scanMethod 235 = .ok (.iconst 5, 1) := by decide +kernel
theorem dX13_scanMethod_236 : decode cX13_scanMethod 236 = .ok (.iadd, 1) := by decide +kernel
theorem dX13_scanMethod_237 : decode cX13_scanMethod 237 = .ok (.invokevirtual 800, 3) := by decide +kernel
theorem dX13_scanMethod_240 : decode cX13_scanMethod 240 = .ok (.ifCond .ne 6, 3) := by decide +kernel
theorem dX13_scanMethod_243 : decode cX13_scanMethod 243 = .ok (.iload 4, 2) := by decide +kernel
theorem dX13_scanMethod_245 : decode cX13_scanMethod 245 = .ok (.ireturn, 1) := by decide +kernel
theorem dX13_scanMethod_246 : decode cX13_scanMethod 246 = .ok (.aload_n 0, 1) := by decide +kernel
theorem dX13_scanMethod_247 : decode cX13_scanMethod 247 = .ok (.iload 4, 2) := by decide +kernel
theorem dX13_scanMethod_249 : decode cX13_scanMethod 249 = .ok (.bipush 6, 2) := by decide +kernel
theorem dX13_scanMethod_251 : decode cX13_scanMethod 251 = .ok (.iadd, 1) := by decide +kernel
theorem dX13_scanMethod_252 : decode cX13_scanMethod 252 = .ok (.invokevirtual 800, 3) := by decide +kernel
theorem dX13_scanMethod_255 : decode cX13_scanMethod 255 = .ok (.ifCond .ne 6, 3) := by decide +kernel
theorem dX13_scanMethod_258 : decode cX13_scanMethod 258 = .ok (.iload 4, 2) := by decide +kernel
theorem dX13_scanMethod_260 : decode cX13_scanMethod 260 = .ok (.ireturn, 1) := by decide +kernel
theorem dX13_scanMethod_261 : decode cX13_scanMethod 261 = .ok (.aload_n 0, 1) := by decide +kernel
theorem dX13_scanMethod_262 : decode cX13_scanMethod 262 = .ok (.iload 4, 2) := by decide +kernel
theorem dX13_scanMethod_264 : decode cX13_scanMethod 264 = .ok (.iconst 5, 1) := by decide +kernel
theorem dX13_scanMethod_265 : decode cX13_scanMethod 265 = .ok (.iadd, 1) := by decide +kernel
theorem dX13_scanMethod_266 : decode cX13_scanMethod 266 = .ok (.invokevirtual 824, 3) := by decide +kernel
theorem dX13_scanMethod_269 : decode cX13_scanMethod 269 = .ok (.istore 7, 2) := by decide +kernel
theorem dX13_scanMethod_271 : decode cX13_scanMethod 271 = .ok (.iload 7, 2) := by decide +kernel
theorem dX13_scanMethod_273 : decode cX13_scanMethod 273 = .ok (.iconst 1, 1) := by decide +kernel
theorem dX13_scanMethod_274 : decode cX13_scanMethod 274 = .ok (.if_icmp .lt 11, 3) := by decide +kernel
theorem dX13_scanMethod_277 : decode cX13_scanMethod 277 = .ok (.iload 7, 2) := by decide +kernel
theorem dX13_scanMethod_279 : decode cX13_scanMethod 279 = .ok (.sipush 1500, 3) := by decide +kernel
theorem dX13_scanMethod_282 : decode cX13_scanMethod 282 = .ok (.if_icmp .le 11, 3) := by decide +kernel
theorem dX13_scanMethod_285 : decode cX13_scanMethod 285 = .ok (.aload_n 0, 1) := by decide +kernel
theorem dX13_scanMethod_286 : decode cX13_scanMethod 286 = .ok (.iload 4, 2) := by decide +kernel
theorem dX13_scanMethod_288 : decode cX13_scanMethod 288 = .ok (.iconst 5, 1) := by decide +kernel
theorem dX13_scanMethod_289 : decode cX13_scanMethod 289 = .ok (.iadd, 1) := by decide +kernel
theorem dX13_scanMethod_290 : decode cX13_scanMethod 290 = .ok (.invokevirtual 803, 3) := by decide +kernel
theorem dX13_scanMethod_293 : decode cX13_scanMethod 293 = .ok (.iload 4, 2) := by decide +kernel
theorem dX13_scanMethod_295 : decode cX13_scanMethod 295 = .ok (.bipush 7, 2) := by decide +kernel
theorem dX13_scanMethod_297 : decode cX13_scanMethod 297 = .ok (.iload 7, 2) := by decide +kernel
theorem dX13_scanMethod_299 : decode cX13_scanMethod 299 = .ok (.iadd, 1) := by decide +kernel
theorem dX13_scanMethod_300 : decode cX13_scanMethod 300 = .ok (.iadd, 1) := by decide +kernel
theorem dX13_scanMethod_301 : decode cX13_scanMethod 301 = .ok (.istore 4, 2) := by decide +kernel
theorem dX13_scanMethod_303 : decode cX13_scanMethod 303 = .ok (.aload_n 0, 1) := by decide +kernel
theorem dX13_scanMethod_304 : decode cX13_scanMethod 304 = .ok (.getfield 764, 3) := by decide +kernel
theorem dX13_scanMethod_307 : decode cX13_scanMethod 307 = .ok (.iconst (-1), 1) := by decide +kernel
theorem dX13_scanMethod_308 : decode cX13_scanMethod 308 = .ok (.if_icmp .ne 20, 3) := by decide +kernel
theorem dX13_scanMethod_311 : decode cX13_scanMethod 311 = .ok (.iload 4, 2) := by decide +kernel
theorem dX13_scanMethod_313 : decode cX13_scanMethod 313 = .ok (.aload_n 0, 1) := by decide +kernel
theorem dX13_scanMethod_314 : decode cX13_scanMethod 314 = .ok (.getfield 767, 3) := by decide +kernel
theorem dX13_scanMethod_317 : decode cX13_scanMethod 317 = .ok (.if_icmp .le 11, 3) := by decide +kernel
theorem dX13_scanMethod_320 : decode cX13_scanMethod 320 = .ok (.aload_n 0, 1) := by decide +kernel
theorem dX13_scanMethod_321 : decode cX13_scanMethod 321 = .ok (.aload_n 0, 1) := by decide +kernel
theorem dX13_scanMethod_322 : decode cX13_scanMethod 322 = .ok (.getfield 767, 3) := by decide +kernel
theorem dX13_scanMethod_325 : decode cX13_scanMethod 325 = .ok (.putfield 764, 3) := by decide +kernel
theorem dX13_scanMethod_328 : decode cX13_scanMethod 328 = .ok (.aload_n 0, 1) := by decide +kernel
theorem dX13_scanMethod_329 : decode cX13_scanMethod 329 = .ok (.iload 4, 2) := by decide +kernel
theorem dX13_scanMethod_331 : decode cX13_scanMethod 331 = .ok (.invokevirtual 800, 3) := by decide +kernel
theorem dX13_scanMethod_334 : decode cX13_scanMethod 334 = .ok (.ifCond .ne 6, 3) := by decide +kernel
theorem dX13_scanMethod_337 : decode cX13_scanMethod 337 = .ok (.iload 4, 2) := by decide +kernel
theorem dX13_scanMethod_339 : decode cX13_scanMethod 339 = .ok (.ireturn, 1) := by decide +kernel
theorem dX13_scanMethod_340 : decode cX13_scanMethod 340 = .ok (.aload_n 0, 1) := by decide +kernel
theorem dX13_scanMethod_341 : decode cX13_scanMethod 341 = .ok (.getfield 239, 3) := by decide +kernel
theorem dX13_scanMethod_344 : decode cX13_scanMethod 344 = .ok (.bipush 12, 2) := by decide +kernel
theorem dX13_scanMethod_346 : decode cX13_scanMethod 346 = .ok (.iload_n 1, 1) := by decide +kernel
theorem dX13_scanMethod_347 : decode cX13_scanMethod 347 = .ok (.imul, 1) := by decide +kernel
theorem dX13_scanMethod_348 : decode cX13_scanMethod 348 = .ok (.iload_n 2, 1) := by decide +kernel
theorem dX13_scanMethod_349 : decode cX13_scanMethod 349 = .ok (.iadd, 1) := by decide +kernel
theorem dX13_scanMethod_350 : decode cX13_scanMethod 350 = .ok (.iload 4, 2) := by decide +kernel
theorem dX13_scanMethod_352 : decode cX13_scanMethod 352 = .ok (.iastore, 1) := by decide +kernel
theorem dX13_scanMethod_353 : decode cX13_scanMethod 353 = .ok (.aload_n 0, 1) := by decide +kernel
theorem dX13_scanMethod_354 : decode cX13_scanMethod 354 = .ok (.getfield 245, 3) := by decide +kernel
theorem dX13_scanMethod_357 : decode cX13_scanMethod 357 = .ok (.iload 4, 2) := by decide +kernel
theorem dX13_scanMethod_359 : decode cX13_scanMethod 359 = .ok (.iaload, 1) := by decide +kernel
theorem dX13_scanMethod_360 : decode cX13_scanMethod 360 = .ok (.istore 8, 2) := by decide +kernel
theorem dX13_scanMethod_362 : decode cX13_scanMethod 362 = .ok (.iload 8, 2) := by decide +kernel
theorem dX13_scanMethod_364 : decode cX13_scanMethod 364 = .ok (.bipush 20, 2) := by decide +kernel
theorem dX13_scanMethod_366 : decode cX13_scanMethod 366 = .ok (.if_icmp .le 9, 3) := by decide +kernel
theorem dX13_scanMethod_369 : decode cX13_scanMethod 369 = .ok (.aload_n 0, 1) := by decide +kernel
theorem dX13_scanMethod_370 : decode cX13_scanMethod 370 = .ok (.iload 4, 2) := by decide +kernel
theorem dX13_scanMethod_372 : decode cX13_scanMethod 372 = .ok (.invokevirtual 803, 3) := by decide +kernel
theorem dX13_scanMethod_375 : decode cX13_scanMethod 375 = .ok (.iinc 4 1, 3) := by decide +kernel
theorem dX13_scanMethod_378 : decode cX13_scanMethod 378 = .ok (.iconst 0, 1) := by decide +kernel
theorem dX13_scanMethod_379 : decode cX13_scanMethod 379 = .ok (.istore 9, 2) := by decide +kernel
theorem dX13_scanMethod_381 : decode cX13_scanMethod 381 = .ok (.iload 9, 2) := by decide +kernel
theorem dX13_scanMethod_383 : decode cX13_scanMethod 383 = .ok (.iload 8, 2) := by decide +kernel
theorem dX13_scanMethod_385 : decode cX13_scanMethod 385 = .ok (.if_icmp .ge 59, 3) := by decide +kernel
theorem dX13_scanMethod_388 : decode cX13_scanMethod 388 = .ok (.aload_n 0, 1) := by decide +kernel
theorem dX13_scanMethod_389 : decode cX13_scanMethod 389 = .ok (.getfield 764, 3) := by decide +kernel
theorem dX13_scanMethod_392 : decode cX13_scanMethod 392 = .ok (.iconst (-1), 1) := by decide +kernel
theorem dX13_scanMethod_393 : decode cX13_scanMethod 393 = .ok (.if_icmp .ne 51, 3) := by decide +kernel
theorem dX13_scanMethod_396 : decode cX13_scanMethod 396 = .ok (.aload_n 0, 1) := by decide +kernel
theorem dX13_scanMethod_397 : decode cX13_scanMethod 397 = .ok (.iload 4, 2) := by decide +kernel
theorem dX13_scanMethod_399 : decode cX13_scanMethod 399 = .ok (.bipush 6, 2) := by decide +kernel
theorem dX13_scanMethod_401 : decode cX13_scanMethod 401 = .ok (.iadd, 1) := by decide +kernel
theorem dX13_scanMethod_402 : decode cX13_scanMethod 402 = .ok (.invokevirtual 800, 3) := by decide +kernel
theorem dX13_scanMethod_405 : decode cX13_scanMethod 405 = .ok (.ifCond .eq 30, 3) := by decide +kernel
theorem dX13_scanMethod_408 : decode cX13_scanMethod 408 = .ok (.aload_n 0, 1) := by decide +kernel
theorem dX13_scanMethod_409 : decode cX13_scanMethod 409 = .ok (.aload_n 0, 1) := by decide +kernel
theorem dX13_scanMethod_410 : decode cX13_scanMethod 410 = .ok (.getfield 245, 3) := by decide +kernel
theorem dX13_scanMethod_413 : decode cX13_scanMethod 413 = .ok (.iload 4, 2) := by decide +kernel
theorem dX13_scanMethod_415 : decode cX13_scanMethod 415 = .ok (.bipush 6, 2) := by decide +kernel
theorem dX13_scanMethod_417 : decode cX13_scanMethod 417 = .ok (.iadd, 1) := by decide +kernel
theorem dX13_scanMethod_418 : decode cX13_scanMethod 418 = .ok (.iaload, 1) := by decide +kernel
theorem dX13_scanMethod_419 : decode cX13_scanMethod 419 = .ok (.iconst 1, 1) := by decide +kernel
theorem dX13_scanMethod_420 : decode cX13_scanMethod 420 = .ok (.invokevirtual 812, 3) := by decide +kernel
theorem dX13_scanMethod_423 : decode cX13_scanMethod 423 = .ok (.ifCond .ne 12, 3) := by decide +kernel
theorem dX13_scanMethod_426 : decode cX13_scanMethod 426 = .ok (.aload_n 0, 1) := by decide +kernel
theorem dX13_scanMethod_427 : decode cX13_scanMethod 427 = .ok (.iload 4, 2) := by decide +kernel
theorem dX13_scanMethod_429 : decode cX13_scanMethod 429 = .ok (.bipush 6, 2) := by decide +kernel
theorem dX13_scanMethod_431 : decode cX13_scanMethod 431 = .ok (.iadd, 1) := by decide +kernel
theorem dX13_scanMethod_432 : decode cX13_scanMethod 432 = .ok (.invokevirtual 803, 3) := by decide +kernel
theorem dX13_scanMethod_435 : decode cX13_scanMethod 435 = .ok (.iinc 4 7, 3) := by decide +kernel
theorem dX13_scanMethod_438 : decode cX13_scanMethod 438 = .ok (.iinc 9 1, 3) := by decide +kernel
theorem dX13_scanMethod_441 : decode cX13_scanMethod 441 = .ok (.goto (-60), 3) := by decide +kernel
theorem dX13_scanMethod_444 : decode cX13_scanMethod 444 = .ok (.aload_n 0, 1) := by decide +kernel
theorem dX13_scanMethod_445 : decode cX13_scanMethod 445 = .ok (.iload 4, 2) := by decide +kernel
theorem dX13_scanMethod_447 : decode cX13_scanMethod 447 = .ok (.invokevirtual 800, 3) := by decide +kernel
theorem dX13_scanMethod_450 : decode cX13_scanMethod 450 = .ok (.ifCond .ne 6, 3) := by decide +kernel
theorem dX13_scanMethod_453 : decode cX13_scanMethod 453 = .ok (.iload 4, 2) := by decide +kernel
theorem dX13_scanMethod_455 : decode cX13_scanMethod 455 = .ok (.ireturn, 1) := by decide +kernel
theorem dX13_scanMethod_456 : decode cX13_scanMethod 456 = .ok (.aload_n 0, 1) := by decide +kernel
theorem dX13_scanMethod_457 : decode cX13_scanMethod 457 = .ok (.getfield 242, 3) := by decide +kernel
theorem dX13_scanMethod_460 : decode cX13_scanMethod 460 = .ok (.bipush 12, 2) := by decide +kernel
theorem dX13_scanMethod_462 : decode cX13_scanMethod 462 = .ok (.iload_n 1, 1) := by decide +kernel
theorem dX13_scanMethod_463 : decode cX13_scanMethod 463 = .ok (.imul, 1) := by decide +kernel
theorem dX13_scanMethod_464 : decode cX13_scanMethod 464 = .ok (.iload_n 2, 1) := by decide +kernel
theorem dX13_scanMethod_465 : decode cX13_scanMethod 465 = .ok (.iadd, 1) := by decide +kernel
theorem dX13_scanMethod_466 : decode cX13_scanMethod 466 = .ok (.iload 4, 2) := by decide +kernel
theorem dX13_scanMethod_468 : decode cX13_scanMethod 468 = .ok (.iastore, 1) := by decide +kernel
theorem dX13_scanMethod_469 : decode cX13_scanMethod 469 = .ok (.aload_n 0, 1) := by decide +kernel
theorem dX13_scanMethod_470 : decode cX13_scanMethod 470 = .ok (.getfield 245, 3) := by decide +kernel
theorem dX13_scanMethod_473 : decode cX13_scanMethod 473 = .ok (.iload 4, 2) := by decide +kernel
theorem dX13_scanMethod_475 : decode cX13_scanMethod 475 = .ok (.iaload, 1) := by decide +kernel
theorem dX13_scanMethod_476 : decode cX13_scanMethod 476 = .ok (.istore 9, 2) := by decide +kernel
theorem dX13_scanMethod_478 : decode cX13_scanMethod 478 = .ok (.iload 9, 2) := by decide +kernel
theorem dX13_scanMethod_480 : decode cX13_scanMethod 480 = .ok (.bipush 100, 2) := by decide +kernel
theorem dX13_scanMethod_482 : decode cX13_scanMethod 482 = .ok (.if_icmp .le 9, 3) := by decide +kernel
theorem dX13_scanMethod_485 : decode cX13_scanMethod 485 = .ok (.aload_n 0, 1) := by decide +kernel
theorem dX13_scanMethod_486 : decode cX13_scanMethod 486 = .ok (.iload 4, 2) := by decide +kernel
theorem dX13_scanMethod_488 : decode cX13_scanMethod 488 = .ok (.invokevirtual 803, 3) := by decide +kernel
theorem dX13_scanMethod_491 : decode cX13_scanMethod 491 = .ok (.iinc 4 1, 3) := by decide +kernel
theorem dX13_scanMethod_494 : decode cX13_scanMethod 494 = .ok (.iconst 0, 1) := by decide +kernel
theorem dX13_scanMethod_495 : decode cX13_scanMethod 495 = .ok (.istore 10, 2) := by decide +kernel
theorem dX13_scanMethod_497 : decode cX13_scanMethod 497 = .ok (.iload 10, 2) := by decide +kernel
theorem dX13_scanMethod_499 : decode cX13_scanMethod 499 = .ok (.iload 9, 2) := by decide +kernel
theorem dX13_scanMethod_501 : decode cX13_scanMethod 501 = .ok (.if_icmp .ge 45, 3) := by decide +kernel
theorem dX13_scanMethod_504 : decode cX13_scanMethod 504 = .ok (.aload_n 0, 1) := by decide +kernel
theorem dX13_scanMethod_505 : decode cX13_scanMethod 505 = .ok (.getfield 764, 3) := by decide +kernel
theorem dX13_scanMethod_508 : decode cX13_scanMethod 508 = .ok (.iconst (-1), 1) := by decide +kernel
theorem dX13_scanMethod_509 : decode cX13_scanMethod 509 = .ok (.if_icmp .ne 37, 3) := by decide +kernel
theorem dX13_scanMethod_512 : decode cX13_scanMethod 512 = .ok (.aload_n 0, 1) := by decide +kernel
theorem dX13_scanMethod_513 : decode cX13_scanMethod 513 = .ok (.iload 4, 2) := by decide +kernel
theorem dX13_scanMethod_515 : decode cX13_scanMethod 515 = .ok (.iconst 1, 1) := by decide +kernel
theorem dX13_scanMethod_516 : decode cX13_scanMethod 516 = .ok (.iadd, 1) := by decide +kernel
theorem dX13_scanMethod_517 : decode cX13_scanMethod 517 = .ok (.invokevirtual 800, 3) := by decide +kernel
theorem dX13_scanMethod_520 : decode cX13_scanMethod 520 = .ok (.ifCond .ne 6, 3) := by decide +kernel
theorem dX13_scanMethod_523 : decode cX13_scanMethod 523 = .ok (.iload 4, 2) := by decide +kernel
theorem dX13_scanMethod_525 : decode cX13_scanMethod 525 = .ok (.ireturn, 1) := by decide +kernel
theorem dX13_scanMethod_526 : decode cX13_scanMethod 526 = .ok (.aload_n 0, 1) := by decide +kernel
theorem dX13_scanMethod_527 : decode cX13_scanMethod 527 = .ok (.aload_n 0, 1) := by decide +kernel
theorem dX13_scanMethod_528 : decode cX13_scanMethod 528 = .ok (.iload 4, 2) := by decide +kernel
theorem dX13_scanMethod_530 : decode cX13_scanMethod 530 = .ok (.iconst 2, 1) := by decide +kernel
theorem dX13_scanMethod_531 : decode cX13_scanMethod 531 = .ok (.iadd, 1) := by decide +kernel
theorem dX13_scanMethod_532 : decode cX13_scanMethod 532 = .ok (.invokevirtual 827, 3) := by decide +kernel
theorem dX13_scanMethod_535 : decode cX13_scanMethod 535 = .ok (.invokevirtual 827, 3) := by decide +kernel
theorem dX13_scanMethod_538 : decode cX13_scanMethod 538 = .ok (.istore 4, 2) := by decide +kernel
theorem dX13_scanMethod_540 : decode cX13_scanMethod 540 = .ok (.iinc 10 1, 3) := by decide +kernel
theorem dX13_scanMethod_543 : decode cX13_scanMethod 543 = .ok (.goto (-46), 3) := by decide +kernel
theorem dX13_scanMethod_546 : decode cX13_scanMethod 546 = .ok (.iload 4, 2) := by decide +kernel
theorem dX13_scanMethod_548 : decode cX13_scanMethod 548 = .ok (.ireturn, 1) := by decide +kernel
theorem dX13_scanTypes_0 : decode cX13_scanTypes 0 = .ok (.aload_n 0, 1) := by decide +kernel
theorem dX13_scanTypes_1 : decode cX13_scanTypes 1 = .ok (.iload_n 1, 1) := by decide +kernel
theorem dX13_scanTypes_2 : decode cX13_scanTypes 2 = .ok (.invokevirtual 800, 3) := by decide +kernel
theorem dX13_scanTypes_5 : decode cX13_scanTypes 5 = .ok (.ifCond .ne 5, 3) := by decide +kernel
theorem dX13_scanTypes_8 : decode cX13_scanTypes 8 = .ok (.iload_n 1, 1) := by decide +kernel
theorem dX13_scanTypes_9 : decode cX13_scanTypes 9 = .ok (.ireturn, 1) := by decide +kernel
theorem dX13_scanTypes_10 : decode cX13_scanTypes 10 = .ok (.aload_n 0, 1) := by decide +kernel
theorem dX13_scanTypes_11 : decode cX13_scanTypes 11 = .ok (.getfield 245, 3) := by decide +kernel
theorem dX13_scanTypes_14 : decode cX13_scanTypes 14 = .ok (.iload_n 1, 1) := by decide +kernel
theorem dX13_scanTypes_15 : decode cX13_scanTypes 15 = .ok (.iaload, 1) := by decide +kernel
theorem dX13_scanTypes_16 : decode cX13_scanTypes 16 = .ok (.istore_n 2, 1) := by decide +kernel
theorem dX13_scanTypes_17 : decode cX13_scanTypes 17 = .ok (.iload_n 1, 1) := by decide +kernel
theorem dX13_scanTypes_18 : decode cX13_scanTypes 18 = .ok (.iconst 1, 1) := by decide +kernel
theorem dX13_scanTypes_19 : decode cX13_scanTypes 19 = .ok (.iadd, 1) := by decide +kernel
theorem dX13_scanTypes_20 : decode cX13_scanTypes 20 = .ok (.istore_n 3, 1) := by decide +kernel
theorem dX13_scanTypes_21 : decode cX13_scanTypes 21 = .ok (.iconst 0, 1) := by decide +kernel
theorem dX13_scanTypes_22 : decode cX13_scanTypes 22 = .ok (.istore 4, 2) := by decide +kernel
theorem dX13_scanTypes_24 : decode cX13_scanTypes 24 = .ok (.iload 4, 2) := by decide +kernel
theorem dX13_scanTypes_26 : decode cX13_scanTypes 26 = .ok (.iload_n 2, 1) := by decide +kernel
theorem dX13_scanTypes_27 : decode cX13_scanTypes 27 = .ok (.if_icmp .ge 77, 3) := by decide +kernel
theorem dX13_scanTypes_30 : decode cX13_scanTypes 30 = .ok (.aload_n 0, 1) := by decide +kernel
theorem dX13_scanTypes_31 : decode cX13_scanTypes 31 = .ok (.iload_n 3, 1) := by decide +kernel
theorem dX13_scanTypes_32 : decode cX13_scanTypes 32 = .ok (.invokevirtual 800, 3) := by decide +kernel
theorem dX13_scanTypes_35 : decode cX13_scanTypes 35 = .ok (.ifCond .ne 5, 3) := by decide +kernel
theorem dX13_scanTypes_38 : decode cX13_scanTypes 38 = .ok (.iload_n 3, 1) := by decide +kernel
theorem dX13_scanTypes_39 : decode cX13_scanTypes 39 = .ok (.ireturn, 1) := by decide +kernel
theorem dX13_scanTypes_40 : decode cX13_scanTypes 40 = .ok (.aload_n 0, 1) := by decide +kernel
theorem dX13_scanTypes_41 : decode cX13_scanTypes 41 = .ok (.getfield 245, 3) := by decide +kernel
theorem dX13_scanTypes_44 : decode cX13_scanTypes 44 = .ok (.iload_n 3, 1) := by decide +kernel
theorem dX13_scanTypes_45 : decode cX13_scanTypes 45 = .ok (.iaload, 1) := by decide +kernel
theorem dX13_scanTypes_46 : decode cX13_scanTypes 46 = .ok (.iconst 3, 1) := by decide +kernel
theorem dX13_scanTypes_47 : decode cX13_scanTypes 47 = .ok (.if_icmp .le 8, 3) := by decide +kernel
theorem dX13_scanTypes_50 : decode cX13_scanTypes 50 = .ok (.aload_n 0, 1) := by decide +kernel
theorem dX13_scanTypes_51 : decode cX13_scanTypes 51 = .ok (.iload_n 3, 1) := by decide +kernel
theorem dX13_scanTypes_52 : decode cX13_scanTypes 52 = .ok (.invokevirtual 803, 3) := by decide +kernel
theorem dX13_scanTypes_55 : decode cX13_scanTypes 55 = .ok (.aload_n 0, 1) := by decide +kernel
theorem dX13_scanTypes_56 : decode cX13_scanTypes 56 = .ok (.getfield 245, 3) := by decide +kernel
theorem dX13_scanTypes_59 : decode cX13_scanTypes 59 = .ok (.iload_n 3, 1) := by decide +kernel
theorem dX13_scanTypes_60 : decode cX13_scanTypes 60 = .ok (.iaload, 1) := by decide +kernel
theorem dX13_scanTypes_61 : decode cX13_scanTypes 61 = .ok (.iconst 3, 1) := by decide +kernel
theorem dX13_scanTypes_62 : decode cX13_scanTypes 62 = .ok (.if_icmp .ne 33, 3) := by decide +kernel
theorem dX13_scanTypes_65 : decode cX13_scanTypes 65 = .ok (.iinc 3 1, 3) := by decide +kernel
theorem dX13_scanTypes_68 : decode cX13_scanTypes 68 = .ok (.aload_n 0, 1) := by decide +kernel
theorem dX13_scanTypes_69 : decode cX13_scanTypes 69 = .ok (.iload_n 3, 1) := by decide +kernel
theorem dX13_scanTypes_70 : decode cX13_scanTypes 70 = .ok (.invokevirtual 800, 3) := by decide +kernel
theorem dX13_scanTypes_73 : decode cX13_scanTypes 73 = .ok (.ifCond .eq 22, 3) := by decide +kernel
theorem dX13_scanTypes_76 : decode cX13_scanTypes 76 = .ok (.aload_n 0, 1) := by decide +kernel
theorem dX13_scanTypes_77 : decode cX13_scanTypes 77 = .ok (.aload_n 0, 1) := by decide +kernel
theorem dX13_scanTypes_78 : decode cX13_scanTypes 78 = .ok (.getfield 245, 3) := by decide +kernel
theorem dX13_scanTypes_81 : decode cX13_scanTypes 81 = .ok (.iload_n 3, 1) := by decide +kernel
theorem dX13_scanTypes_82 : decode cX13_scanTypes 82 = .ok (.iaload, 1) := by decide +kernel
theorem dX13_scanTypes_83 : decode cX13_scanTypes 83 = .ok (.iconst 1, 1) := by decide +kernel
theorem dX13_scanTypes_84 : decode cX13_scanTypes 84 = .ok (.invokevirtual 812, 3) := by decide +kernel
theorem dX13_scanTypes_87 : decode cX13_scanTypes 87 = .ok (.ifCond .ne 8, 3) := by decide +kernel
theorem dX13_scanTypes_90 : decode cX13_scanTypes 90 = .ok (.aload_n 0, 1) := by decide +kernel
theorem dX13_scanTypes_91 : decode cX13_scanTypes 91 = .ok (.iload_n 3, 1) := by decide +kernel
theorem dX13_scanTypes_92 : decode cX13_scanTypes 92 = .ok (.invokevirtual 803, 3) := by decide +kernel
theorem dX13_scanTypes_95 : decode cX13_scanTypes 95 = .ok (.iinc 3 1, 3) := by decide +kernel
theorem dX13_scanTypes_98 : decode cX13_scanTypes 98 = .ok (.iinc 4 1, 3) := by decide +kernel
theorem dX13_scanTypes_101 : decode cX13_scanTypes 101 = .ok (.goto (-77), 3) := by decide +kernel
theorem dX13_scanTypes_104 : decode cX13_scanTypes 104 = .ok (.iload_n 3, 1) := by decide +kernel
theorem dX13_scanTypes_105 : decode cX13_scanTypes 105 = .ok (.ireturn, 1) := by decide +kernel
theorem dX13_sameText_0 : decode cX13_sameText 0 = .ok (.sipush 6000, 3) := by decide +kernel
theorem dX13_sameText_3 : decode cX13_sameText 3 = .ok (.iload_n 1, 1) := by decide +kernel
theorem dX13_sameText_4 : decode cX13_sameText 4 = .ok (.imul, 1) := by decide +kernel
theorem dX13_sameText_5 : decode cX13_sameText 5 = .ok (.aload_n 0, 1) := by decide +kernel
theorem dX13_sameText_6 : decode cX13_sameText 6 = .ok (.getfield 215, 3) := by decide +kernel
theorem dX13_sameText_9 : decode cX13_sameText 9 = .ok (.sipush 256, 3) := by decide +kernel
theorem dX13_sameText_12 : decode cX13_sameText 12 = .ok (.iload_n 1, 1) := by decide +kernel
theorem dX13_sameText_13 : decode cX13_sameText 13 = .ok (.imul, 1) := by decide +kernel
theorem dX13_sameText_14 : decode cX13_sameText 14 = .ok (.iload_n 2, 1) := by decide +kernel
theorem dX13_sameText_15 : decode cX13_sameText 15 = .ok (.iadd, 1) := by decide +kernel
theorem dX13_sameText_16 : decode cX13_sameText 16 = .ok (.iaload, 1) := by decide +kernel
theorem dX13_sameText_17 : decode cX13_sameText 17 = .ok (.iadd, 1) := by decide +kernel
theorem dX13_sameText_18 : decode cX13_sameText 18 = .ok (.istore 5, 2) := by decide +kernel
theorem dX13_sameText_20 : decode cX13_sameText 20 = .ok (.sipush 6000, 3) := by decide +kernel
theorem dX13_sameText_23 : decode cX13_sameText 23 = .ok (.iload_n 3, 1) := by decide +kernel
theorem dX13_sameText_24 : decode cX13_sameText 24 = .ok (.imul, 1) := by decide +kernel
theorem dX13_sameText_25 : decode cX13_sameText 25 = .ok (.aload_n 0, 1) := by decide +kernel
theorem dX13_sameText_26 : decode cX13_sameText 26 = .ok (.getfield 215, 3) := by decide +kernel
theorem dX13_sameText_29 : decode cX13_sameText 29 = .ok (.sipush 256, 3) := by decide +kernel
theorem dX13_sameText_32 : decode cX13_sameText 32 = .ok (.iload_n 3, 1) := by decide +kernel
theorem dX13_sameText_33 : decode cX13_sameText 33 = .ok (.imul, 1) := by decide +kernel
theorem dX13_sameText_34 : decode cX13_sameText 34 = .ok (.iload 4, 2) := by decide +kernel
theorem dX13_sameText_36 : decode cX13_sameText 36 = .ok (.iadd, 1) := by decide +kernel
theorem dX13_sameText_37 : decode cX13_sameText 37 = .ok (.iaload, 1) := by decide +kernel
theorem dX13_sameText_38 : decode cX13_sameText 38 = .ok (.iadd, 1) := by decide +kernel
theorem dX13_sameText_39 : decode cX13_sameText 39 = .ok (.istore 6, 2) := by decide +kernel
theorem dX13_sameText_41 : decode cX13_sameText 41 = .ok (.aload_n 0, 1) := by decide +kernel
theorem dX13_sameText_42 : decode cX13_sameText 42 = .ok (.getfield 209, 3) := by decide +kernel
theorem dX13_sameText_45 : decode cX13_sameText 45 = .ok (.iload 5, 2) := by decide +kernel
theorem dX13_sameText_47 : decode cX13_sameText 47 = .ok (.iconst 1, 1) := by decide +kernel
theorem dX13_sameText_48 : decode cX13_sameText 48 = .ok (.iadd, 1) := by decide +kernel
theorem dX13_sameText_49 : decode cX13_sameText 49 = .ok (.iaload, 1) := by decide +kernel
theorem dX13_sameText_50 : decode cX13_sameText 50 = .ok (.aload_n 0, 1) := by decide +kernel
theorem dX13_sameText_51 : decode cX13_sameText 51 = .ok (.getfield 209, 3) := by decide +kernel
theorem dX13_sameText_54 : decode cX13_sameText 54 = .ok (.iload 6, 2) := by decide +kernel
theorem dX13_sameText_56 : decode cX13_sameText 56 = .ok (.iconst 1, 1) := by decide +kernel
theorem dX13_sameText_57 : decode cX13_sameText 57 = .ok (.iadd, 1) := by decide +kernel
theorem dX13_sameText_58 : decode cX13_sameText 58 = .ok (.iaload, 1) := by decide +kernel
theorem dX13_sameText_59 : decode cX13_sameText 59 = .ok (.if_icmp .ne 7, 3) := by decide +kernel
theorem dX13_sameText_62 : decode cX13_sameText 62 = .ok (.iconst 1, 1) := by decide +kernel
theorem dX13_sameText_63 : decode cX13_sameText 63 = .ok (.goto 4, 3) := by decide +kernel
theorem dX13_sameText_66 : decode cX13_sameText 66 = .ok (.iconst 0, 1) := by decide +kernel
theorem dX13_sameText_67 : decode cX13_sameText 67 = .ok (.istore 7, 2) := by decide +kernel
theorem dX13_sameText_69 : decode cX13_sameText 69 = .ok (.iconst 0, 1) := by decide +kernel
theorem dX13_sameText_70 : decode cX13_sameText 70 = .ok (.istore 8, 2) := by decide +kernel
theorem dX13_sameText_72 : decode cX13_sameText 72 = .ok (.iload 8, 2) := by decide +kernel
theorem dX13_sameText_74 : decode cX13_sameText 74 = .ok (.aload_n 0, 1) := by decide +kernel
theorem dX13_sameText_75 : decode cX13_sameText 75 = .ok (.getfield 209, 3) := by decide +kernel
theorem dX13_sameText_78 : decode cX13_sameText 78 = .ok (.iload 5, 2) := by decide +kernel
theorem dX13_sameText_80 : decode cX13_sameText 80 = .ok (.iconst 1, 1) := by decide +kernel
theorem dX13_sameText_81 : decode cX13_sameText 81 = .ok (.iadd, 1) := by decide +kernel
theorem dX13_sameText_82 : decode cX13_sameText 82 = .ok (.iaload, 1) := by decide +kernel
theorem dX13_sameText_83 : decode cX13_sameText 83 = .ok (.if_icmp .ge 48, 3) := by decide +kernel
theorem dX13_sameText_86 : decode cX13_sameText 86 = .ok (.iload 7, 2) := by decide +kernel
theorem dX13_sameText_88 : decode cX13_sameText 88 = .ok (.ifCond .eq 43, 3) := by decide +kernel
theorem dX13_sameText_91 : decode cX13_sameText 91 = .ok (.aload_n 0, 1) := by decide +kernel
theorem dX13_sameText_92 : decode cX13_sameText 92 = .ok (.getfield 209, 3) := by decide +kernel
theorem dX13_sameText_95 : decode cX13_sameText 95 = .ok (.iload 5, 2) := by decide +kernel
theorem dX13_sameText_97 : decode cX13_sameText 97 = .ok (.iconst 2, 1) := by decide +kernel
theorem dX13_sameText_98 : decode cX13_sameText 98 = .ok (.iadd, 1) := by decide +kernel
theorem dX13_sameText_99 : decode cX13_sameText 99 = .ok (.iload 8, 2) := by decide +kernel
theorem dX13_sameText_101 : decode cX13_sameText 101 = .ok (.iadd, 1) := by decide +kernel
theorem dX13_sameText_102 : decode cX13_sameText 102 = .ok (.iaload, 1) := by decide +kernel
theorem dX13_sameText_103 : decode cX13_sameText 103 = .ok (.aload_n 0, 1) := by decide +kernel
theorem dX13_sameText_104 : decode cX13_sameText 104 = .ok (.getfield 209, 3) := by decide +kernel
theorem dX13_sameText_107 : decode cX13_sameText 107 = .ok (.iload 6, 2) := by decide +kernel
theorem dX13_sameText_109 : decode cX13_sameText 109 = .ok (.iconst 2, 1) := by decide +kernel
theorem dX13_sameText_110 : decode cX13_sameText 110 = .ok (.iadd, 1) := by decide +kernel
theorem dX13_sameText_111 : decode cX13_sameText 111 = .ok (.iload 8, 2) := by decide +kernel
theorem dX13_sameText_113 : decode cX13_sameText 113 = .ok (.iadd, 1) := by decide +kernel
theorem dX13_sameText_114 : decode cX13_sameText 114 = .ok (.iaload, 1) := by decide +kernel
theorem dX13_sameText_115 : decode cX13_sameText 115 = .ok (.if_icmp .ne 7, 3) := by decide +kernel
theorem dX13_sameText_118 : decode cX13_sameText 118 = .ok (.iconst 1, 1) := by decide +kernel
theorem dX13_sameText_119 : decode cX13_sameText 119 = .ok (.goto 4, 3) := by decide +kernel
theorem dX13_sameText_122 : decode cX13_sameText 122 = .ok (.iconst 0, 1) := by decide +kernel
theorem dX13_sameText_123 : decode cX13_sameText 123 = .ok (.istore 7, 2) := by decide +kernel
theorem dX13_sameText_125 : decode cX13_sameText 125 = .ok (.iinc 8 1, 3) := by decide +kernel
theorem dX13_sameText_128 : decode cX13_sameText 128 = .ok (.goto (-56), 3) := by decide +kernel
theorem dX13_sameText_131 : decode cX13_sameText 131 = .ok (.iload 7, 2) := by decide +kernel
theorem dX13_sameText_133 : decode cX13_sameText 133 = .ok (.ireturn, 1) := by decide +kernel
theorem dX13_isNamed_0 : decode cX13_isNamed 0 = .ok (.iload_n 1, 1) := by decide +kernel
theorem dX13_isNamed_1 : decode cX13_isNamed 1 = .ok (.bipush 8, 2) := by decide +kernel
theorem dX13_isNamed_3 : decode cX13_isNamed 3 = .ok (.if_icmp .ge 152, 3) := by decide +kernel
theorem dX13_isNamed_6 : decode cX13_isNamed 6 = .ok (.iconst (-1), 1) := by decide +kernel
theorem dX13_isNamed_7 : decode cX13_isNamed 7 = .ok (.istore 5, 2) := by decide +kernel
theorem dX13_isNamed_9 : decode cX13_isNamed 9 = .ok (.iconst 0, 1) := by decide +kernel
theorem dX13_isNamed_10 : decode cX13_isNamed 10 = .ok (.istore 6, 2) := by decide +kernel
theorem dX13_isNamed_12 : decode cX13_isNamed 12 = .ok (.iload 6, 2) := by decide +kernel
theorem dX13_isNamed_14 : decode cX13_isNamed 14 = .ok (.iconst 1, 1) := by decide +kernel
theorem dX13_isNamed_15 : decode cX13_isNamed 15 = .ok (.iadd, 1) := by decide +kernel
theorem dX13_isNamed_16 : decode cX13_isNamed 16 = .ok (.ldc_w 477, 3) := by decide +kernel
theorem dX13_isNamed_19 : decode cX13_isNamed 19 = .ok (.invokevirtual 328, 3) := by decide +kernel
theorem dX13_isNamed_22 : decode cX13_isNamed 22 = .ok (.if_icmp .ge 131, 3) := by decide +kernel
theorem dX13_isNamed_25 : decode cX13_isNamed 25 = .ok (.ldc_w 477, 3) := by decide +kernel
theorem dX13_isNamed_28 : decode cX13_isNamed 28 = .ok (.iload 6, 2) := by decide +kernel
theorem dX13_isNamed_30 : decode cX13_isNamed 30 = .ok (.invokevirtual 334, 3) := by decide +kernel
theorem dX13_isNamed_33 : decode cX13_isNamed 33 = .ok (.bipush 32, 2) := by decide +kernel
theorem dX13_isNamed_35 : decode cX13_isNamed 35 = .ok (.if_icmp .eq 6, 3) := by decide +kernel
theorem dX13_isNamed_38 : decode cX13_isNamed 38 = .ok (.goto 109, 3) := by decide +kernel
theorem dX13_isNamed_41 : decode cX13_isNamed 41 = .ok (.iinc 5 1, 3) := by decide +kernel
theorem dX13_isNamed_44 : decode cX13_isNamed 44 = .ok (.iload 5, 2) := by decide +kernel
theorem dX13_isNamed_46 : decode cX13_isNamed 46 = .ok (.iload_n 1, 1) := by decide +kernel
theorem dX13_isNamed_47 : decode cX13_isNamed 47 = .ok (.if_icmp .eq 6, 3) := by decide +kernel
theorem dX13_isNamed_50 : decode cX13_isNamed 50 = .ok (.goto 97, 3) := by decide +kernel
theorem dX13_isNamed_53 : decode cX13_isNamed 53 = .ok (.iload 6, 2) := by decide +kernel
theorem dX13_isNamed_55 : decode cX13_isNamed 55 = .ok (.iload 4, 2) := by decide +kernel
theorem dX13_isNamed_57 : decode cX13_isNamed 57 = .ok (.iadd, 1) := by decide +kernel
theorem dX13_isNamed_58 : decode cX13_isNamed 58 = .ok (.iconst 1, 1) := by decide +kernel
theorem dX13_isNamed_59 : decode cX13_isNamed 59 = .ok (.iadd, 1) := by decide +kernel
theorem dX13_isNamed_60 : decode cX13_isNamed 60 = .ok (.ldc_w 477, 3) := by decide +kernel
theorem dX13_isNamed_63 : decode cX13_isNamed 63 = .ok (.invokevirtual 328, 3) := by decide +kernel
theorem dX13_isNamed_66 : decode cX13_isNamed 66 = .ok (.if_icmp .ge 25, 3) := by decide +kernel
theorem dX13_isNamed_69 : decode cX13_isNamed 69 = .ok (.ldc_w 477, 3) := by decide +kernel
theorem dX13_isNamed_72 : decode cX13_isNamed 72 = .ok (.iload 6, 2) := by decide +kernel
theorem dX13_isNamed_74 : decode cX13_isNamed 74 = .ok (.iload 4, 2) := by decide +kernel
theorem dX13_isNamed_76 : decode cX13_isNamed 76 = .ok (.iadd, 1) := by decide +kernel
theorem dX13_isNamed_77 : decode cX13_isNamed 77 = .ok (.iconst 1, 1) := by decide +kernel
theorem dX13_isNamed_78 : decode cX13_isNamed 78 = .ok (.iadd, 1) := by decide +kernel
theorem dX13_isNamed_79 : decode cX13_isNamed 79 = .ok (.invokevirtual 334, 3) := by decide +kernel
theorem dX13_isNamed_82 : decode cX13_isNamed 82 = .ok (.bipush 32, 2) := by decide +kernel
theorem dX13_isNamed_84 : decode cX13_isNamed 84 = .ok (.if_icmp .ne 7, 3) := by decide +kernel
theorem dX13_isNamed_87 : decode cX13_isNamed 87 = .ok (.iconst 1, 1) := by decide +kernel
theorem dX13_isNamed_88 : decode cX13_isNamed 88 = .ok (.goto 4, 3) := by decide +kernel
theorem dX13_isNamed_91 : decode cX13_isNamed 91 = .ok (.iconst 0, 1) := by decide +kernel
theorem dX13_isNamed_92 : decode cX13_isNamed 92 = .ok (.istore 7, 2) := by decide +kernel
theorem dX13_isNamed_94 : decode cX13_isNamed 94 = .ok (.iconst 0, 1) := by decide +kernel
theorem dX13_isNamed_95 : decode cX13_isNamed 95 = .ok (.istore 8, 2) := by decide +kernel
theorem dX13_isNamed_97 : decode cX13_isNamed 97 = .ok (.iload 8, 2) := by decide +kernel
theorem dX13_isNamed_99 : decode cX13_isNamed 99 = .ok (.iload 4, 2) := by decide +kernel
theorem dX13_isNamed_101 : decode cX13_isNamed 101 = .ok (.if_icmp .ge 43, 3) := by decide +kernel
theorem dX13_isNamed_104 : decode cX13_isNamed 104 = .ok (.iload 7, 2) := by decide +kernel
theorem dX13_isNamed_106 : decode cX13_isNamed 106 = .ok (.ifCond .eq 38, 3) := by decide +kernel
theorem dX13_isNamed_109 : decode cX13_isNamed 109 = .ok (.ldc_w 477, 3) := by decide +kernel
theorem dX13_isNamed_112 : decode cX13_isNamed 112 = .ok (.iload 6, 2) := by decide +kernel
theorem dX13_isNamed_114 : decode cX13_isNamed 114 = .ok (.iconst 1, 1) := by decide +kernel
theorem dX13_isNamed_115 : decode cX13_isNamed 115 = .ok (.iadd, 1) := by decide +kernel
theorem dX13_isNamed_116 : decode cX13_isNamed 116 = .ok (.iload 8, 2) := by decide +kernel
theorem dX13_isNamed_118 : decode cX13_isNamed 118 = .ok (.iadd, 1) := by decide +kernel
theorem dX13_isNamed_119 : decode cX13_isNamed 119 = .ok (.invokevirtual 334, 3) := by decide +kernel
theorem dX13_isNamed_122 : decode cX13_isNamed 122 = .ok (.aload_n 2, 1) := by decide +kernel
theorem dX13_isNamed_123 : decode cX13_isNamed 123 = .ok (.iload_n 3, 1) := by decide +kernel
theorem dX13_isNamed_124 : decode cX13_isNamed 124 = .ok (.iload 8, 2) := by decide +kernel
theorem dX13_isNamed_126 : decode cX13_isNamed 126 = .ok (.iadd, 1) := by decide +kernel
theorem dX13_isNamed_127 : decode cX13_isNamed 127 = .ok (.iaload, 1) := by decide +kernel
theorem dX13_isNamed_128 : decode cX13_isNamed 128 = .ok (.if_icmp .ne 7, 3) := by decide +kernel
theorem dX13_isNamed_131 : decode cX13_isNamed 131 = .ok (.iconst 1, 1) := by decide +kernel
theorem dX13_isNamed_132 : decode cX13_isNamed 132 = .ok (.goto 4, 3) := by decide +kernel
theorem dX13_isNamed_135 : decode cX13_isNamed 135 = .ok (.iconst 0, 1) := by decide +kernel
theorem dX13_isNamed_136 : decode cX13_isNamed 136 = .ok (.istore 7, 2) := by decide +kernel
theorem dX13_isNamed_138 : decode cX13_isNamed 138 = .ok (.iinc 8 1, 3) := by decide +kernel
theorem dX13_isNamed_141 : decode cX13_isNamed 141 = .ok (.goto (-44), 3) := by decide +kernel
theorem dX13_isNamed_144 : decode cX13_isNamed 144 = .ok (.iload 7, 2) := by decide +kernel
theorem dX13_isNamed_146 : decode cX13_isNamed 146 = .ok (.ireturn, 1) := by decide +kernel
theorem dX13_isNamed_147 : decode cX13_isNamed 147 = .ok (.iinc 6 1, 3) := by decide +kernel
theorem dX13_isNamed_150 : decode cX13_isNamed 150 = .ok (.goto (-138), 3) := by decide +kernel
theorem dX13_isNamed_153 : decode cX13_isNamed 153 = .ok (.iconst 0, 1) := by decide +kernel
theorem dX13_isNamed_154 : decode cX13_isNamed 154 = .ok (.ireturn, 1) := by decide +kernel
theorem dX13_isNamed_155 : decode cX13_isNamed 155 = .ok (.aload_n 0, 1) := by decide +kernel
theorem dX13_isNamed_156 : decode cX13_isNamed 156 = .ok (.iload_n 1, 1) := by decide +kernel
theorem dX13_isNamed_157 : decode cX13_isNamed 157 = .ok (.invokevirtual 830, 3) := by decide +kernel
theorem dX13_isNamed_160 : decode cX13_isNamed 160 = .ok (.istore 5, 2) := by decide +kernel
theorem dX13_isNamed_162 : decode cX13_isNamed 162 = .ok (.aload_n 0, 1) := by decide +kernel
theorem dX13_isNamed_163 : decode cX13_isNamed 163 = .ok (.getfield 209, 3) := by decide +kernel
theorem dX13_isNamed_166 : decode cX13_isNamed 166 = .ok (.iload 5, 2) := by decide +kernel
theorem dX13_isNamed_168 : decode cX13_isNamed 168 = .ok (.iaload, 1) := by decide +kernel
theorem dX13_isNamed_169 : decode cX13_isNamed 169 = .ok (.iload 4, 2) := by decide +kernel
theorem dX13_isNamed_171 : decode cX13_isNamed 171 = .ok (.if_icmp .ne 7, 3) := by decide +kernel
theorem dX13_isNamed_174 : decode cX13_isNamed 174 = .ok (.iconst 1, 1) := by decide +kernel
theorem dX13_isNamed_175 : decode cX13_isNamed 175 = .ok (.goto 4, 3) := by decide +kernel
theorem dX13_isNamed_178 : decode cX13_isNamed 178 = .ok (.iconst 0, 1) := by decide +kernel
theorem dX13_isNamed_179 : decode cX13_isNamed 179 = .ok (.istore 6, 2) := by decide +kernel
theorem dX13_isNamed_181 : decode cX13_isNamed 181 = .ok (.iconst 0, 1) := by decide +kernel
theorem dX13_isNamed_182 : decode cX13_isNamed 182 = .ok (.istore 7, 2) := by decide +kernel
theorem dX13_isNamed_184 : decode cX13_isNamed 184 = .ok (.iload 7, 2) := by decide +kernel
theorem dX13_isNamed_186 : decode cX13_isNamed 186 = .ok (.iload 4, 2) := by decide +kernel
theorem dX13_isNamed_188 : decode cX13_isNamed 188 = .ok (.if_icmp .ge 42, 3) := by decide +kernel
theorem dX13_isNamed_191 : decode cX13_isNamed 191 = .ok (.iload 6, 2) := by decide +kernel
theorem dX13_isNamed_193 : decode cX13_isNamed 193 = .ok (.ifCond .eq 37, 3) := by decide +kernel
theorem dX13_isNamed_196 : decode cX13_isNamed 196 = .ok (.aload_n 0, 1) := by decide +kernel
theorem dX13_isNamed_197 : decode cX13_isNamed 197 = .ok (.getfield 209, 3) := by decide +kernel
theorem dX13_isNamed_200 : decode cX13_isNamed 200 = .ok (.iload 5, 2) := by decide +kernel
theorem dX13_isNamed_202 : decode cX13_isNamed 202 = .ok (.iconst 1, 1) := by decide +kernel
theorem dX13_isNamed_203 : decode cX13_isNamed 203 = .ok (.iadd, 1) := by decide +kernel
theorem dX13_isNamed_204 : decode cX13_isNamed 204 = .ok (.iload 7, 2) := by decide +kernel
theorem dX13_isNamed_206 : decode cX13_isNamed 206 = .ok (.iadd, 1) := by decide +kernel
theorem dX13_isNamed_207 : decode cX13_isNamed 207 = .ok (.iaload, 1) := by decide +kernel
theorem dX13_isNamed_208 : decode cX13_isNamed 208 = .ok (.aload_n 2, 1) := by decide +kernel
theorem dX13_isNamed_209 : decode cX13_isNamed 209 = .ok (.iload_n 3, 1) := by decide +kernel
theorem dX13_isNamed_210 : decode cX13_isNamed 210 = .ok (.iload 7, 2) := by decide +kernel
theorem dX13_isNamed_212 : decode cX13_isNamed 212 = .ok (.iadd, 1) := by decide +kernel
theorem dX13_isNamed_213 : decode cX13_isNamed 213 = .ok (.iaload, 1) := by decide +kernel
theorem dX13_isNamed_214 : decode cX13_isNamed 214 = .ok (.if_icmp .ne 7, 3) := by decide +kernel
theorem dX13_isNamed_217 : decode cX13_isNamed 217 = .ok (.iconst 1, 1) := by decide +kernel
theorem dX13_isNamed_218 : decode cX13_isNamed 218 = .ok (.goto 4, 3) := by decide +kernel
theorem dX13_isNamed_221 : decode cX13_isNamed 221 = .ok (.iconst 0, 1) := by decide +kernel
theorem dX13_isNamed_222 : decode cX13_isNamed 222 = .ok (.istore 6, 2) := by decide +kernel
theorem dX13_isNamed_224 : decode cX13_isNamed 224 = .ok (.iinc 7 1, 3) := by decide +kernel
theorem dX13_isNamed_227 : decode cX13_isNamed 227 = .ok (.goto (-43), 3) := by decide +kernel
theorem dX13_isNamed_230 : decode cX13_isNamed 230 = .ok (.iload 6, 2) := by decide +kernel
theorem dX13_isNamed_232 : decode cX13_isNamed 232 = .ok (.ireturn, 1) := by decide +kernel
theorem dX13_classNamed_0 : decode cX13_classNamed 0 = .ok (.iconst 0, 1) := by decide +kernel
theorem dX13_classNamed_1 : decode cX13_classNamed 1 = .ok (.istore 4, 2) := by decide +kernel
theorem dX13_classNamed_3 : decode cX13_classNamed 3 = .ok (.iload 4, 2) := by decide +kernel
theorem dX13_classNamed_5 : decode cX13_classNamed 5 = .ok (.bipush 8, 2) := by decide +kernel
theorem dX13_classNamed_7 : decode cX13_classNamed 7 = .ok (.aload_n 0, 1) := by decide +kernel
theorem dX13_classNamed_8 : decode cX13_classNamed 8 = .ok (.getfield 833, 3) := by decide +kernel
theorem dX13_classNamed_11 : decode cX13_classNamed 11 = .ok (.iadd, 1) := by decide +kernel
theorem dX13_classNamed_12 : decode cX13_classNamed 12 = .ok (.if_icmp .ge 24, 3) := by decide +kernel
theorem dX13_classNamed_15 : decode cX13_classNamed 15 = .ok (.aload_n 0, 1) := by decide +kernel
theorem dX13_classNamed_16 : decode cX13_classNamed 16 = .ok (.iload 4, 2) := by decide +kernel
theorem dX13_classNamed_18 : decode cX13_classNamed 18 = .ok (.aload_n 1, 1) := by decide +kernel
theorem dX13_classNamed_19 : decode cX13_classNamed 19 = .ok (.iload_n 2, 1) := by decide +kernel
theorem dX13_classNamed_20 : decode cX13_classNamed 20 = .ok (.iload_n 3, 1) := by decide +kernel
theorem dX13_classNamed_21 : decode cX13_classNamed 21 = .ok (.invokevirtual 836, 3) := by decide +kernel
theorem dX13_classNamed_24 : decode cX13_classNamed 24 = .ok (.ifCond .eq 6, 3) := by decide +kernel
theorem dX13_classNamed_27 : decode cX13_classNamed 27 = .ok (.iload 4, 2) := by decide +kernel
theorem dX13_classNamed_29 : decode cX13_classNamed 29 = .ok (.ireturn, 1) := by decide +kernel
theorem dX13_classNamed_30 : decode cX13_classNamed 30 = .ok (.iinc 4 1, 3) := by decide +kernel
theorem dX13_classNamed_33 : decode cX13_classNamed 33 = .ok (.goto (-30), 3) := by decide +kernel
theorem dX13_classNamed_36 : decode cX13_classNamed 36 = .ok (.iconst (-1), 1) := by decide +kernel
theorem dX13_classNamed_37 : decode cX13_classNamed 37 = .ok (.ireturn, 1) := by decide +kernel
theorem dX13_loaded_0 : decode cX13_loaded 0 = .ok (.aload_n 0, 1) := by decide +kernel
theorem dX13_loaded_1 : decode cX13_loaded 1 = .ok (.getfield 833, 3) := by decide +kernel
theorem dX13_loaded_4 : decode cX13_loaded 4 = .ok (.bipush 8, 2) := by decide +kernel
theorem dX13_loaded_6 : decode cX13_loaded 6 = .ok (.if_icmp .ne 40, 3) := by decide +kernel
theorem dX13_loaded_9 : decode cX13_loaded 9 = .ok (.aload_n 0, 1) := by decide +kernel
theorem dX13_loaded_10 : decode cX13_loaded 10 = .ok (.bipush 7, 2) := by decide +kernel
theorem dX13_loaded_12 : decode cX13_loaded 12 = .ok (.invokevirtual 840, 3) := by decide +kernel
theorem dX13_loaded_15 : decode cX13_loaded 15 = .ok (.aload_n 0, 1) := by decide +kernel
theorem dX13_loaded_16 : decode cX13_loaded 16 = .ok (.bipush 7, 2) := by decide +kernel
theorem dX13_loaded_18 : decode cX13_loaded 18 = .ok (.invokevirtual 843, 3) := by decide +kernel
theorem dX13_loaded_21 : decode cX13_loaded 21 = .ok (.aload_n 0, 1) := by decide +kernel
theorem dX13_loaded_22 : decode cX13_loaded 22 = .ok (.getfield 764, 3) := by decide +kernel
theorem dX13_loaded_25 : decode cX13_loaded 25 = .ok (.istore_n 1, 1) := by decide +kernel
theorem dX13_loaded_26 : decode cX13_loaded 26 = .ok (.aload_n 0, 1) := by decide +kernel
theorem dX13_loaded_27 : decode cX13_loaded 27 = .ok (.bipush 7, 2) := by decide +kernel
theorem dX13_loaded_29 : decode cX13_loaded 29 = .ok (.invokevirtual 846, 3) := by decide +kernel
theorem dX13_loaded_32 : decode cX13_loaded 32 = .ok (.iload_n 1, 1) := by decide +kernel
theorem dX13_loaded_33 : decode cX13_loaded 33 = .ok (.iconst (-1), 1) := by decide +kernel
theorem dX13_loaded_34 : decode cX13_loaded 34 = .ok (.if_icmp .eq 10, 3) := by decide +kernel
theorem dX13_loaded_37 : decode cX13_loaded 37 = .ok (.bipush (-2), 2) := by decide +kernel
theorem dX13_loaded_39 : decode cX13_loaded 39 = .ok (.iload_n 1, 1) := by decide +kernel
theorem dX13_loaded_40 : decode cX13_loaded 40 = .ok (.isub, 1) := by decide +kernel
theorem dX13_loaded_41 : decode cX13_loaded 41 = .ok (.goto 4, 3) := by decide +kernel
theorem dX13_loaded_44 : decode cX13_loaded 44 = .ok (.iconst (-1), 1) := by decide +kernel
theorem dX13_loaded_45 : decode cX13_loaded 45 = .ok (.ireturn, 1) := by decide +kernel
theorem dX13_loaded_46 : decode cX13_loaded 46 = .ok (.aload_n 0, 1) := by decide +kernel
theorem dX13_loaded_47 : decode cX13_loaded 47 = .ok (.aload_n 0, 1) := by decide +kernel
theorem dX13_loaded_48 : decode cX13_loaded 48 = .ok (.getfield 833, 3) := by decide +kernel
theorem dX13_loaded_51 : decode cX13_loaded 51 = .ok (.invokevirtual 843, 3) := by decide +kernel
theorem dX13_loaded_54 : decode cX13_loaded 54 = .ok (.aload_n 0, 1) := by decide +kernel
theorem dX13_loaded_55 : decode cX13_loaded 55 = .ok (.getfield 764, 3) := by decide +kernel
theorem dX13_loaded_58 : decode cX13_loaded 58 = .ok (.iconst (-1), 1) := by decide +kernel
theorem dX13_loaded_59 : decode cX13_loaded 59 = .ok (.if_icmp .eq 11, 3) := by decide +kernel
theorem dX13_loaded_62 : decode cX13_loaded 62 = .ok (.bipush (-2), 2) := by decide +kernel
theorem dX13_loaded_64 : decode cX13_loaded 64 = .ok (.aload_n 0, 1) := by decide +kernel
theorem dX13_loaded_65 : decode cX13_loaded 65 = .ok (.getfield 764, 3) := by decide +kernel
theorem dX13_loaded_68 : decode cX13_loaded 68 = .ok (.isub, 1) := by decide +kernel
theorem dX13_loaded_69 : decode cX13_loaded 69 = .ok (.ireturn, 1) := by decide +kernel
theorem dX13_loaded_70 : decode cX13_loaded 70 = .ok (.aload_n 0, 1) := by decide +kernel
theorem dX13_loaded_71 : decode cX13_loaded 71 = .ok (.getfield 215, 3) := by decide +kernel
theorem dX13_loaded_74 : decode cX13_loaded 74 = .ok (.sipush 256, 3) := by decide +kernel
theorem dX13_loaded_77 : decode cX13_loaded 77 = .ok (.aload_n 0, 1) := by decide +kernel
theorem dX13_loaded_78 : decode cX13_loaded 78 = .ok (.getfield 833, 3) := by decide +kernel
theorem dX13_loaded_81 : decode cX13_loaded 81 = .ok (.imul, 1) := by decide +kernel
theorem dX13_loaded_82 : decode cX13_loaded 82 = .ok (.aload_n 0, 1) := by decide +kernel
theorem dX13_loaded_83 : decode cX13_loaded 83 = .ok (.getfield 245, 3) := by decide +kernel
theorem dX13_loaded_86 : decode cX13_loaded 86 = .ok (.aload_n 0, 1) := by decide +kernel
theorem dX13_loaded_87 : decode cX13_loaded 87 = .ok (.getfield 215, 3) := by decide +kernel
theorem dX13_loaded_90 : decode cX13_loaded 90 = .ok (.sipush 256, 3) := by decide +kernel
theorem dX13_loaded_93 : decode cX13_loaded 93 = .ok (.aload_n 0, 1) := by decide +kernel
theorem dX13_loaded_94 : decode cX13_loaded 94 = .ok (.getfield 833, 3) := by decide +kernel
