theorem rs_RX1_116 : mx_res RX1 116 = some (1, 184, 1) := by decide +kernel
theorem rs_RX1_124 : mx_res RX1 124 = some (1, 192, 1) := by decide +kernel
theorem mt_X1_writeTypes : mx_mt 45 = some (yX1_writeTypes, cX1_writeTypes, 6, none) := rfl
theorem dX1_writeTypes_0 : decode cX1_writeTypes 0 = .ok (.iload_n 2, 1) := by decide +kernel
theorem dX1_writeTypes_1 : decode cX1_writeTypes 1 = .ok (.istore 4, 2) := by decide +kernel
theorem dX1_writeTypes_3 : decode cX1_writeTypes 3 = .ok (.iload 4, 2) := by decide +kernel
theorem dX1_writeTypes_5 : decode cX1_writeTypes 5 = .ok (.iload_n 2, 1) := by decide +kernel
theorem dX1_writeTypes_6 : decode cX1_writeTypes 6 = .ok (.iload_n 3, 1) := by decide +kernel
theorem dX1_writeTypes_7 : decode cX1_writeTypes 7 = .ok (.iadd, 1) := by decide +kernel
theorem dX1_writeTypes_8 : decode cX1_writeTypes 8 = .ok (.if_icmp .ge 75, 3) := by decide +kernel
theorem dX1_writeTypes_11 : decode cX1_writeTypes 11 = .ok (.iload 4, 2) := by decide +kernel
theorem dX1_writeTypes_13 : decode cX1_writeTypes 13 = .ok (.aload_n 0, 1) := by decide +kernel
theorem dX1_writeTypes_14 : decode cX1_writeTypes 14 = .ok (.getfield 33, 3) := by decide +kernel
theorem dX1_writeTypes_17 : decode cX1_writeTypes 17 = .ok (.arraylength, 1) := by decide +kernel
theorem dX1_writeTypes_18 : decode cX1_writeTypes 18 = .ok (.if_icmp .ge 65, 3) := by decide +kernel
theorem dX1_writeTypes_21 : decode cX1_writeTypes 21 = .ok (.aload_n 0, 1) := by decide +kernel
theorem dX1_writeTypes_22 : decode cX1_writeTypes 22 = .ok (.getfield 33, 3) := by decide +kernel
theorem dX1_writeTypes_25 : decode cX1_writeTypes 25 = .ok (.iload 4, 2) := by decide +kernel
theorem dX1_writeTypes_27 : decode cX1_writeTypes 27 = .ok (.iaload, 1) := by decide +kernel
theorem dX1_writeTypes_28 : decode cX1_writeTypes 28 = .ok (.istore 5, 2) := by decide +kernel
theorem dX1_writeTypes_30 : decode cX1_writeTypes 30 = .ok (.iload 5, 2) := by decide +kernel
theorem dX1_writeTypes_32 : decode cX1_writeTypes 32 = .ok (.invokestatic 80, 3) := by decide +kernel
theorem dX1_writeTypes_35 : decode cX1_writeTypes 35 = .ok (.ifCond .eq 11, 3) := by decide +kernel
theorem dX1_writeTypes_38 : decode cX1_writeTypes 38 = .ok (.aload_n 1, 1) := by decide +kernel
theorem dX1_writeTypes_39 : decode cX1_writeTypes 39 = .ok (.iconst 1, 1) := by decide +kernel
theorem dX1_writeTypes_40 : decode cX1_writeTypes 40 = .ok (.invokevirtual 116, 3) := by decide +kernel
theorem dX1_writeTypes_43 : decode cX1_writeTypes 43 = .ok (.goto 34, 3) := by decide +kernel
theorem dX1_writeTypes_46 : decode cX1_writeTypes 46 = .ok (.iload 5, 2) := by decide +kernel
theorem dX1_writeTypes_48 : decode cX1_writeTypes 48 = .ok (.sipush 300, 3) := by decide +kernel
theorem dX1_writeTypes_51 : decode cX1_writeTypes 51 = .ok (.if_icmp .ne 11, 3) := by decide +kernel
theorem dX1_writeTypes_54 : decode cX1_writeTypes 54 = .ok (.aload_n 1, 1) := by decide +kernel
theorem dX1_writeTypes_55 : decode cX1_writeTypes 55 = .ok (.iconst 2, 1) := by decide +kernel
theorem dX1_writeTypes_56 : decode cX1_writeTypes 56 = .ok (.invokevirtual 116, 3) := by decide +kernel
theorem dX1_writeTypes_59 : decode cX1_writeTypes 59 = .ok (.goto 18, 3) := by decide +kernel
theorem dX1_writeTypes_62 : decode cX1_writeTypes 62 = .ok (.aload_n 1, 1) := by decide +kernel
theorem dX1_writeTypes_63 : decode cX1_writeTypes 63 = .ok (.iconst 3, 1) := by decide +kernel
theorem dX1_writeTypes_64 : decode cX1_writeTypes 64 = .ok (.invokevirtual 116, 3) := by decide +kernel
theorem dX1_writeTypes_67 : decode cX1_writeTypes 67 = .ok (.aload_n 1, 1) := by decide +kernel
theorem dX1_writeTypes_68 : decode cX1_writeTypes 68 = .ok (.aload_n 1, 1) := by decide +kernel
theorem dX1_writeTypes_69 : decode cX1_writeTypes 69 = .ok (.iload 5, 2) := by decide +kernel
theorem dX1_writeTypes_71 : decode cX1_writeTypes 71 = .ok (.invokevirtual 124, 3) := by decide +kernel
theorem dX1_writeTypes_74 : decode cX1_writeTypes 74 = .ok (.invokevirtual 116, 3) := by decide +kernel
theorem dX1_writeTypes_77 : decode cX1_writeTypes 77 = .ok (.iinc 4 1, 3) := by decide +kernel
theorem dX1_writeTypes_80 : decode cX1_writeTypes 80 = .ok (.goto (-77), 3) := by decide +kernel
theorem dX1_writeTypes_83 : decode cX1_writeTypes 83 = .ok (.return_, 1) := by decide +kernel
theorem mt_X6_putPair : mx_mt 185 = some (yX6_putPair, cX6_putPair, 2, none) := rfl
theorem dX6_putPair_0 : decode cX6_putPair 0 = .ok (.aload_n 0, 1) := by decide +kernel
theorem dX6_putPair_1 : decode cX6_putPair 1 = .ok (.iload_n 1, 1) := by decide +kernel
theorem dX6_putPair_2 : decode cX6_putPair 2 = .ok (.bipush 8, 2) := by decide +kernel
theorem dX6_putPair_4 : decode cX6_putPair 4 = .ok (.ishr, 1) := by decide +kernel
theorem dX6_putPair_5 : decode cX6_putPair 5 = .ok (.invokevirtual 45, 3) := by decide +kernel
theorem dX6_putPair_8 : decode cX6_putPair 8 = .ok (.aload_n 0, 1) := by decide +kernel
theorem dX6_putPair_9 : decode cX6_putPair 9 = .ok (.iload_n 1, 1) := by decide +kernel
theorem dX6_putPair_10 : decode cX6_putPair 10 = .ok (.invokevirtual 45, 3) := by decide +kernel
theorem dX6_putPair_13 : decode cX6_putPair 13 = .ok (.return_, 1) := by decide +kernel
theorem rs_RX1_121 : mx_res RX1 121 = some (1, 185, 1) := by decide +kernel
theorem rs_RX1_131 : mx_res RX1 131 = some (1, 45, 3) := by decide +kernel
theorem mt_X1_writeFrame : mx_mt 44 = some (yX1_writeFrame, cX1_writeFrame, 6, none) := rfl
theorem dX1_writeFrame_0 : decode cX1_writeFrame 0 = .ok (.iload_n 2, 1) := by decide +kernel
theorem dX1_writeFrame_1 : decode cX1_writeFrame 1 = .ok (.bipush 52, 2) := by decide +kernel
theorem dX1_writeFrame_3 : decode cX1_writeFrame 3 = .ok (.imul, 1) := by decide +kernel
theorem dX1_writeFrame_4 : decode cX1_writeFrame 4 = .ok (.istore_n 3, 1) := by decide +kernel
theorem dX1_writeFrame_5 : decode cX1_writeFrame 5 = .ok (.aload_n 0, 1) := by decide +kernel
theorem dX1_writeFrame_6 : decode cX1_writeFrame 6 = .ok (.getfield 33, 3) := by decide +kernel
theorem dX1_writeFrame_9 : decode cX1_writeFrame 9 = .ok (.iload_n 3, 1) := by decide +kernel
theorem dX1_writeFrame_10 : decode cX1_writeFrame 10 = .ok (.iaload, 1) := by decide +kernel
theorem dX1_writeFrame_11 : decode cX1_writeFrame 11 = .ok (.istore 4, 2) := by decide +kernel
theorem dX1_writeFrame_13 : decode cX1_writeFrame 13 = .ok (.aload_n 0, 1) := by decide +kernel
theorem dX1_writeFrame_14 : decode cX1_writeFrame 14 = .ok (.getfield 33, 3) := by decide +kernel
theorem dX1_writeFrame_17 : decode cX1_writeFrame 17 = .ok (.iload_n 3, 1) := by decide +kernel
theorem dX1_writeFrame_18 : decode cX1_writeFrame 18 = .ok (.iconst 1, 1) := by decide +kernel
theorem dX1_writeFrame_19 : decode cX1_writeFrame 19 = .ok (.iadd, 1) := by decide +kernel
theorem dX1_writeFrame_20 : decode cX1_writeFrame 20 = .ok (.iaload, 1) := by decide +kernel
theorem dX1_writeFrame_21 : decode cX1_writeFrame 21 = .ok (.istore 5, 2) := by decide +kernel
theorem dX1_writeFrame_23 : decode cX1_writeFrame 23 = .ok (.aload_n 1, 1) := by decide +kernel
theorem dX1_writeFrame_24 : decode cX1_writeFrame 24 = .ok (.aload_n 0, 1) := by decide +kernel
theorem dX1_writeFrame_25 : decode cX1_writeFrame 25 = .ok (.getfield 30, 3) := by decide +kernel
theorem dX1_writeFrame_28 : decode cX1_writeFrame 28 = .ok (.iload_n 2, 1) := by decide +kernel
theorem dX1_writeFrame_29 : decode cX1_writeFrame 29 = .ok (.iaload, 1) := by decide +kernel
theorem dX1_writeFrame_30 : decode cX1_writeFrame 30 = .ok (.invokevirtual 121, 3) := by decide +kernel
theorem dX1_writeFrame_33 : decode cX1_writeFrame 33 = .ok (.aload_n 1, 1) := by decide +kernel
theorem dX1_writeFrame_34 : decode cX1_writeFrame 34 = .ok (.iload 4, 2) := by decide +kernel
theorem dX1_writeFrame_36 : decode cX1_writeFrame 36 = .ok (.invokevirtual 116, 3) := by decide +kernel
theorem dX1_writeFrame_39 : decode cX1_writeFrame 39 = .ok (.aload_n 0, 1) := by decide +kernel
theorem dX1_writeFrame_40 : decode cX1_writeFrame 40 = .ok (.aload_n 1, 1) := by decide +kernel
theorem dX1_writeFrame_41 : decode cX1_writeFrame 41 = .ok (.iload_n 3, 1) := by decide +kernel
theorem dX1_writeFrame_42 : decode cX1_writeFrame 42 = .ok (.iconst 2, 1) := by decide +kernel
theorem dX1_writeFrame_43 : decode cX1_writeFrame 43 = .ok (.iadd, 1) := by decide +kernel
theorem dX1_writeFrame_44 : decode cX1_writeFrame 44 = .ok (.iload 4, 2) := by decide +kernel
theorem dX1_writeFrame_46 : decode cX1_writeFrame 46 = .ok (.invokevirtual 131, 3) := by decide +kernel
theorem dX1_writeFrame_49 : decode cX1_writeFrame 49 = .ok (.aload_n 1, 1) := by decide +kernel
theorem dX1_writeFrame_50 : decode cX1_writeFrame 50 = .ok (.iload 5, 2) := by decide +kernel
theorem dX1_writeFrame_52 : decode cX1_writeFrame 52 = .ok (.invokevirtual 116, 3) := by decide +kernel
theorem dX1_writeFrame_55 : decode cX1_writeFrame 55 = .ok (.aload_n 0, 1) := by decide +kernel
theorem dX1_writeFrame_56 : decode cX1_writeFrame 56 = .ok (.aload_n 1, 1) := by decide +kernel
theorem dX1_writeFrame_57 : decode cX1_writeFrame 57 = .ok (.iload_n 3, 1) := by decide +kernel
theorem dX1_writeFrame_58 : decode cX1_writeFrame 58 = .ok (.iconst 2, 1) := by decide +kernel
theorem dX1_writeFrame_59 : decode cX1_writeFrame 59 = .ok (.iadd, 1) := by decide +kernel
theorem dX1_writeFrame_60 : decode cX1_writeFrame 60 = .ok (.iload 4, 2) := by decide +kernel
theorem dX1_writeFrame_62 : decode cX1_writeFrame 62 = .ok (.iadd, 1) := by decide +kernel
theorem dX1_writeFrame_63 : decode cX1_writeFrame 63 = .ok (.iload 5, 2) := by decide +kernel
theorem dX1_writeFrame_65 : decode cX1_writeFrame 65 = .ok (.invokevirtual 131, 3) := by decide +kernel
theorem dX1_writeFrame_68 : decode cX1_writeFrame 68 = .ok (.return_, 1) := by decide +kernel
theorem rs_RX1_127 : mx_res RX1 127 = some (1, 44, 2) := by decide +kernel
theorem mt_X1_writeTo : mx_mt 43 = some (yX1_writeTo, cX1_writeTo, 4, none) := rfl
theorem dX1_writeTo_0 : decode cX1_writeTo 0 = .ok (.aload_n 1, 1) := by decide +kernel
theorem dX1_writeTo_1 : decode cX1_writeTo 1 = .ok (.aload_n 0, 1) := by decide +kernel
theorem dX1_writeTo_2 : decode cX1_writeTo 2 = .ok (.getfield 46, 3) := by decide +kernel
theorem dX1_writeTo_5 : decode cX1_writeTo 5 = .ok (.invokevirtual 116, 3) := by decide +kernel
theorem dX1_writeTo_8 : decode cX1_writeTo 8 = .ok (.aload_n 1, 1) := by decide +kernel
theorem dX1_writeTo_9 : decode cX1_writeTo 9 = .ok (.aload_n 0, 1) := by decide +kernel
theorem dX1_writeTo_10 : decode cX1_writeTo 10 = .ok (.getfield 52, 3) := by decide +kernel
theorem dX1_writeTo_13 : decode cX1_writeTo 13 = .ok (.invokevirtual 116, 3) := by decide +kernel
theorem dX1_writeTo_16 : decode cX1_writeTo 16 = .ok (.aload_n 1, 1) := by decide +kernel
theorem dX1_writeTo_17 : decode cX1_writeTo 17 = .ok (.aload_n 0, 1) := by decide +kernel
theorem dX1_writeTo_18 : decode cX1_writeTo 18 = .ok (.getfield 39, 3) := by decide +kernel
theorem dX1_writeTo_21 : decode cX1_writeTo 21 = .ok (.invokevirtual 121, 3) := by decide +kernel
theorem dX1_writeTo_24 : decode cX1_writeTo 24 = .ok (.iconst 0, 1) := by decide +kernel
theorem dX1_writeTo_25 : decode cX1_writeTo 25 = .ok (.istore_n 2, 1) := by decide +kernel
theorem dX1_writeTo_26 : decode cX1_writeTo 26 = .ok (.iload_n 2, 1) := by decide +kernel
theorem dX1_writeTo_27 : decode cX1_writeTo 27 = .ok (.aload_n 0, 1) := by decide +kernel
theorem dX1_writeTo_28 : decode cX1_writeTo 28 = .ok (.getfield 39, 3) := by decide +kernel
theorem dX1_writeTo_31 : decode cX1_writeTo 31 = .ok (.if_icmp .ge 28, 3) := by decide +kernel
theorem dX1_writeTo_34 : decode cX1_writeTo 34 = .ok (.iload_n 2, 1) := by decide +kernel
theorem dX1_writeTo_35 : decode cX1_writeTo 35 = .ok (.aload_n 0, 1) := by decide +kernel
theorem dX1_writeTo_36 : decode cX1_writeTo 36 = .ok (.getfield 13, 3) := by decide +kernel
theorem dX1_writeTo_39 : decode cX1_writeTo 39 = .ok (.arraylength, 1) := by decide +kernel
theorem dX1_writeTo_40 : decode cX1_writeTo 40 = .ok (.if_icmp .ge 19, 3) := by decide +kernel
theorem dX1_writeTo_43 : decode cX1_writeTo 43 = .ok (.aload_n 1, 1) := by decide +kernel
theorem dX1_writeTo_44 : decode cX1_writeTo 44 = .ok (.aload_n 0, 1) := by decide +kernel
theorem dX1_writeTo_45 : decode cX1_writeTo 45 = .ok (.getfield 13, 3) := by decide +kernel
theorem dX1_writeTo_48 : decode cX1_writeTo 48 = .ok (.iload_n 2, 1) := by decide +kernel
theorem dX1_writeTo_49 : decode cX1_writeTo 49 = .ok (.baload, 1) := by decide +kernel
theorem dX1_writeTo_50 : decode cX1_writeTo 50 = .ok (.invokevirtual 116, 3) := by decide +kernel
theorem dX1_writeTo_53 : decode cX1_writeTo 53 = .ok (.iinc 2 1, 3) := by decide +kernel
theorem dX1_writeTo_56 : decode cX1_writeTo 56 = .ok (.goto (-30), 3) := by decide +kernel
theorem dX1_writeTo_59 : decode cX1_writeTo 59 = .ok (.aload_n 1, 1) := by decide +kernel
theorem dX1_writeTo_60 : decode cX1_writeTo 60 = .ok (.aload_n 0, 1) := by decide +kernel
theorem dX1_writeTo_61 : decode cX1_writeTo 61 = .ok (.getfield 55, 3) := by decide +kernel
theorem dX1_writeTo_64 : decode cX1_writeTo 64 = .ok (.invokevirtual 116, 3) := by decide +kernel
theorem dX1_writeTo_67 : decode cX1_writeTo 67 = .ok (.iconst 0, 1) := by decide +kernel
theorem dX1_writeTo_68 : decode cX1_writeTo 68 = .ok (.istore_n 2, 1) := by decide +kernel
theorem dX1_writeTo_69 : decode cX1_writeTo 69 = .ok (.iload_n 2, 1) := by decide +kernel
theorem dX1_writeTo_70 : decode cX1_writeTo 70 = .ok (.aload_n 0, 1) := by decide +kernel
theorem dX1_writeTo_71 : decode cX1_writeTo 71 = .ok (.getfield 55, 3) := by decide +kernel
theorem dX1_writeTo_74 : decode cX1_writeTo 74 = .ok (.if_icmp .ge 63, 3) := by decide +kernel
theorem dX1_writeTo_77 : decode cX1_writeTo 77 = .ok (.iload_n 2, 1) := by decide +kernel
theorem dX1_writeTo_78 : decode cX1_writeTo 78 = .ok (.iconst 4, 1) := by decide +kernel
theorem dX1_writeTo_79 : decode cX1_writeTo 79 = .ok (.imul, 1) := by decide +kernel
theorem dX1_writeTo_80 : decode cX1_writeTo 80 = .ok (.istore_n 3, 1) := by decide +kernel
theorem dX1_writeTo_81 : decode cX1_writeTo 81 = .ok (.aload_n 1, 1) := by decide +kernel
theorem dX1_writeTo_82 : decode cX1_writeTo 82 = .ok (.aload_n 0, 1) := by decide +kernel
theorem dX1_writeTo_83 : decode cX1_writeTo 83 = .ok (.getfield 27, 3) := by decide +kernel
theorem dX1_writeTo_86 : decode cX1_writeTo 86 = .ok (.iload_n 3, 1) := by decide +kernel
theorem dX1_writeTo_87 : decode cX1_writeTo 87 = .ok (.iaload, 1) := by decide +kernel
theorem dX1_writeTo_88 : decode cX1_writeTo 88 = .ok (.invokevirtual 121, 3) := by decide +kernel
theorem dX1_writeTo_91 : decode cX1_writeTo 91 = .ok (.aload_n 1, 1) := by decide +kernel
theorem dX1_writeTo_92 : decode cX1_writeTo 92 = .ok (.aload_n 0, 1) := by decide +kernel
theorem dX1_writeTo_93 : decode cX1_writeTo 93 = .ok (.getfield 27, 3) := by decide +kernel
theorem dX1_writeTo_96 : decode cX1_writeTo 96 = .ok (.iload_n 3, 1) := by decide +kernel
theorem dX1_writeTo_97 : decode cX1_writeTo 97 = .ok (.iconst 1, 1) := by decide +kernel
theorem dX1_writeTo_98 : decode cX1_writeTo 98 = .ok (.iadd, 1) := by decide +kernel
theorem dX1_writeTo_99 : decode cX1_writeTo 99 = .ok (.iaload, 1) := by decide +kernel
theorem dX1_writeTo_100 : decode cX1_writeTo 100 = .ok (.invokevirtual 121, 3) := by decide +kernel
theorem dX1_writeTo_103 : decode cX1_writeTo 103 = .ok (.aload_n 1, 1) := by decide +kernel
theorem dX1_writeTo_104 : decode cX1_writeTo 104 = .ok (.aload_n 0, 1) := by decide +kernel
theorem dX1_writeTo_105 : decode cX1_writeTo 105 = .ok (.getfield 27, 3) := by decide +kernel
theorem dX1_writeTo_108 : decode cX1_writeTo 108 = .ok (.iload_n 3, 1) := by decide +kernel
theorem dX1_writeTo_109 : decode cX1_writeTo 109 = .ok (.iconst 2, 1) := by decide +kernel
theorem dX1_writeTo_110 : decode cX1_writeTo 110 = .ok (.iadd, 1) := by decide +kernel
theorem dX1_writeTo_111 : decode cX1_writeTo 111 = .ok (.iaload, 1) := by decide +kernel
theorem dX1_writeTo_112 : decode cX1_writeTo 112 = .ok (.invokevirtual 121, 3) := by decide +kernel
theorem dX1_writeTo_115 : decode cX1_writeTo 115 = .ok (.aload_n 1, 1) := by decide +kernel
theorem dX1_writeTo_116 : decode cX1_writeTo 116 = .ok (.aload_n 1, 1) := by decide +kernel
theorem dX1_writeTo_117 : decode cX1_writeTo 117 = .ok (.aload_n 0, 1) := by decide +kernel
theorem dX1_writeTo_118 : decode cX1_writeTo 118 = .ok (.getfield 27, 3) := by decide +kernel
theorem dX1_writeTo_121 : decode cX1_writeTo 121 = .ok (.iload_n 3, 1) := by decide +kernel
theorem dX1_writeTo_122 : decode cX1_writeTo 122 = .ok (.iconst 3, 1) := by decide +kernel
theorem dX1_writeTo_123 : decode cX1_writeTo 123 = .ok (.iadd, 1) := by decide +kernel
theorem dX1_writeTo_124 : decode cX1_writeTo 124 = .ok (.iaload, 1) := by decide +kernel
theorem dX1_writeTo_125 : decode cX1_writeTo 125 = .ok (.invokevirtual 124, 3) := by decide +kernel
theorem dX1_writeTo_128 : decode cX1_writeTo 128 = .ok (.invokevirtual 116, 3) := by decide +kernel
theorem dX1_writeTo_131 : decode cX1_writeTo 131 = .ok (.iinc 2 1, 3) := by decide +kernel
theorem dX1_writeTo_134 : decode cX1_writeTo 134 = .ok (.goto (-65), 3) := by decide +kernel
theorem dX1_writeTo_137 : decode cX1_writeTo 137 = .ok (.aload_n 1, 1) := by decide +kernel
theorem dX1_writeTo_138 : decode cX1_writeTo 138 = .ok (.aload_n 0, 1) := by decide +kernel
theorem dX1_writeTo_139 : decode cX1_writeTo 139 = .ok (.getfield 58, 3) := by decide +kernel
theorem dX1_writeTo_142 : decode cX1_writeTo 142 = .ok (.invokevirtual 116, 3) := by decide +kernel
theorem dX1_writeTo_145 : decode cX1_writeTo 145 = .ok (.iconst 0, 1) := by decide +kernel
theorem dX1_writeTo_146 : decode cX1_writeTo 146 = .ok (.istore_n 2, 1) := by decide +kernel
theorem dX1_writeTo_147 : decode cX1_writeTo 147 = .ok (.iload_n 2, 1) := by decide +kernel
theorem dX1_writeTo_148 : decode cX1_writeTo 148 = .ok (.aload_n 0, 1) := by decide +kernel
theorem dX1_writeTo_149 : decode cX1_writeTo 149 = .ok (.getfield 58, 3) := by decide +kernel
theorem dX1_writeTo_152 : decode cX1_writeTo 152 = .ok (.if_icmp .ge 20, 3) := by decide +kernel
theorem dX1_writeTo_155 : decode cX1_writeTo 155 = .ok (.aload_n 0, 1) := by decide +kernel
theorem dX1_writeTo_156 : decode cX1_writeTo 156 = .ok (.aload_n 1, 1) := by decide +kernel
theorem dX1_writeTo_157 : decode cX1_writeTo 157 = .ok (.aload_n 0, 1) := by decide +kernel
theorem dX1_writeTo_158 : decode cX1_writeTo 158 = .ok (.getfield 36, 3) := by decide +kernel
theorem dX1_writeTo_161 : decode cX1_writeTo 161 = .ok (.iload_n 2, 1) := by decide +kernel
theorem dX1_writeTo_162 : decode cX1_writeTo 162 = .ok (.iaload, 1) := by decide +kernel
theorem dX1_writeTo_163 : decode cX1_writeTo 163 = .ok (.invokevirtual 127, 3) := by decide +kernel
theorem dX1_writeTo_166 : decode cX1_writeTo 166 = .ok (.iinc 2 1, 3) := by decide +kernel
theorem dX1_writeTo_169 : decode cX1_writeTo 169 = .ok (.goto (-22), 3) := by decide +kernel
theorem dX1_writeTo_172 : decode cX1_writeTo 172 = .ok (.return_, 1) := by decide +kernel
theorem rs_RX2_45 : mx_res RX2 45 = some (0, 2, 11) := by decide +kernel
theorem mt_X2_bodyOf : mx_mt 85 = some (yX2_bodyOf, cX2_bodyOf, 2, (some .int)) := rfl
theorem dX2_bodyOf_0 : decode cX2_bodyOf 0 = .ok (.aload_n 0, 1) := by decide +kernel
theorem dX2_bodyOf_1 : decode cX2_bodyOf 1 = .ok (.iload_n 1, 1) := by decide +kernel
theorem dX2_bodyOf_2 : decode cX2_bodyOf 2 = .ok (.invokevirtual 128, 3) := by decide +kernel
theorem dX2_bodyOf_5 : decode cX2_bodyOf 5 = .ok (.ifCond .eq 12, 3) := by decide +kernel
theorem dX2_bodyOf_8 : decode cX2_bodyOf 8 = .ok (.aload_n 0, 1) := by decide +kernel
theorem dX2_bodyOf_9 : decode cX2_bodyOf 9 = .ok (.getfield 45, 3) := by decide +kernel
theorem dX2_bodyOf_12 : decode cX2_bodyOf 12 = .ok (.iload_n 1, 1) := by decide +kernel
theorem dX2_bodyOf_13 : decode cX2_bodyOf 13 = .ok (.iaload, 1) := by decide +kernel
theorem dX2_bodyOf_14 : decode cX2_bodyOf 14 = .ok (.goto 4, 3) := by decide +kernel
theorem dX2_bodyOf_17 : decode cX2_bodyOf 17 = .ok (.iconst (-1), 1) := by decide +kernel
theorem dX2_bodyOf_18 : decode cX2_bodyOf 18 = .ok (.ireturn, 1) := by decide +kernel
theorem rs_RX2_61 : mx_res RX2 61 = some (0, 2, 16) := by decide +kernel
theorem mt_X2_parameterName : mx_mt 90 = some (yX2_parameterName, cX2_parameterName, 3, (some .int)) := rfl
theorem dX2_parameterName_0 : decode cX2_parameterName 0 = .ok (.iload_n 2, 1) := by decide +kernel
theorem dX2_parameterName_1 : decode cX2_parameterName 1 = .ok (.ifCond .lt 26, 3) := by decide +kernel
theorem dX2_parameterName_4 : decode cX2_parameterName 4 = .ok (.iload_n 2, 1) := by decide +kernel
theorem dX2_parameterName_5 : decode cX2_parameterName 5 = .ok (.aload_n 0, 1) := by decide +kernel
theorem dX2_parameterName_6 : decode cX2_parameterName 6 = .ok (.iload_n 1, 1) := by decide +kernel
theorem dX2_parameterName_7 : decode cX2_parameterName 7 = .ok (.invokevirtual 227, 3) := by decide +kernel
theorem dX2_parameterName_10 : decode cX2_parameterName 10 = .ok (.if_icmp .ge 17, 3) := by decide +kernel
theorem dX2_parameterName_13 : decode cX2_parameterName 13 = .ok (.aload_n 0, 1) := by decide +kernel
theorem dX2_parameterName_14 : decode cX2_parameterName 14 = .ok (.getfield 61, 3) := by decide +kernel
theorem dX2_parameterName_17 : decode cX2_parameterName 17 = .ok (.iload_n 1, 1) := by decide +kernel
theorem dX2_parameterName_18 : decode cX2_parameterName 18 = .ok (.bipush 6, 2) := by decide +kernel
theorem dX2_parameterName_20 : decode cX2_parameterName 20 = .ok (.imul, 1) := by decide +kernel
theorem dX2_parameterName_21 : decode cX2_parameterName 21 = .ok (.iload_n 2, 1) := by decide +kernel
theorem dX2_parameterName_22 : decode cX2_parameterName 22 = .ok (.iadd, 1) := by decide +kernel
theorem dX2_parameterName_23 : decode cX2_parameterName 23 = .ok (.iaload, 1) := by decide +kernel
theorem dX2_parameterName_24 : decode cX2_parameterName 24 = .ok (.goto 4, 3) := by decide +kernel
theorem dX2_parameterName_27 : decode cX2_parameterName 27 = .ok (.iconst (-1), 1) := by decide +kernel
theorem dX2_parameterName_28 : decode cX2_parameterName 28 = .ok (.ireturn, 1) := by decide +kernel
theorem mt_X2_tokenOfMethod : mx_mt 84 = some (yX2_tokenOfMethod, cX2_tokenOfMethod, 2, (some .int)) := rfl
theorem dX2_tokenOfMethod_0 : decode cX2_tokenOfMethod 0 = .ok (.aload_n 0, 1) := by decide +kernel
theorem dX2_tokenOfMethod_1 : decode cX2_tokenOfMethod 1 = .ok (.iload_n 1, 1) := by decide +kernel
theorem dX2_tokenOfMethod_2 : decode cX2_tokenOfMethod 2 = .ok (.invokevirtual 128, 3) := by decide +kernel
theorem dX2_tokenOfMethod_5 : decode cX2_tokenOfMethod 5 = .ok (.ifCond .eq 12, 3) := by decide +kernel
theorem dX2_tokenOfMethod_8 : decode cX2_tokenOfMethod 8 = .ok (.aload_n 0, 1) := by decide +kernel
theorem dX2_tokenOfMethod_9 : decode cX2_tokenOfMethod 9 = .ok (.getfield 42, 3) := by decide +kernel
theorem dX2_tokenOfMethod_12 : decode cX2_tokenOfMethod 12 = .ok (.iload_n 1, 1) := by decide +kernel
theorem dX2_tokenOfMethod_13 : decode cX2_tokenOfMethod 13 = .ok (.iaload, 1) := by decide +kernel
theorem dX2_tokenOfMethod_14 : decode cX2_tokenOfMethod 14 = .ok (.goto 4, 3) := by decide +kernel
theorem dX2_tokenOfMethod_17 : decode cX2_tokenOfMethod 17 = .ok (.iconst (-1), 1) := by decide +kernel
theorem dX2_tokenOfMethod_18 : decode cX2_tokenOfMethod 18 = .ok (.ireturn, 1) := by decide +kernel
theorem rs_RX6_76 : mx_res RX6 76 = some (1, 87, 1) := by decide +kernel
theorem mt_X6_beginMethod : mx_mt 183 = some (yX6_beginMethod, cX6_beginMethod, 2, none) := rfl
theorem dX6_beginMethod_0 : decode cX6_beginMethod 0 = .ok (.aload_n 0, 1) := by decide +kernel
theorem dX6_beginMethod_1 : decode cX6_beginMethod 1 = .ok (.aload_n 0, 1) := by decide +kernel
theorem dX6_beginMethod_2 : decode cX6_beginMethod 2 = .ok (.getfield 24, 3) := by decide +kernel
theorem dX6_beginMethod_5 : decode cX6_beginMethod 5 = .ok (.iload_n 1, 1) := by decide +kernel
theorem dX6_beginMethod_6 : decode cX6_beginMethod 6 = .ok (.invokevirtual 76, 3) := by decide +kernel
theorem dX6_beginMethod_9 : decode cX6_beginMethod 9 = .ok (.ifCond .eq 7, 3) := by decide +kernel
theorem dX6_beginMethod_12 : decode cX6_beginMethod 12 = .ok (.iconst 1, 1) := by decide +kernel
theorem dX6_beginMethod_13 : decode cX6_beginMethod 13 = .ok (.goto 4, 3) := by decide +kernel
theorem dX6_beginMethod_16 : decode cX6_beginMethod 16 = .ok (.iconst 0, 1) := by decide +kernel
theorem dX6_beginMethod_17 : decode cX6_beginMethod 17 = .ok (.invokevirtual 45, 3) := by decide +kernel
theorem dX6_beginMethod_20 : decode cX6_beginMethod 20 = .ok (.aload_n 0, 1) := by decide +kernel
theorem dX6_beginMethod_21 : decode cX6_beginMethod 21 = .ok (.aload_n 0, 1) := by decide +kernel
theorem dX6_beginMethod_22 : decode cX6_beginMethod 22 = .ok (.iconst 1, 1) := by decide +kernel
theorem dX6_beginMethod_23 : decode cX6_beginMethod 23 = .ok (.aload_n 0, 1) := by decide +kernel
theorem dX6_beginMethod_24 : decode cX6_beginMethod 24 = .ok (.getfield 24, 3) := by decide +kernel
theorem dX6_beginMethod_27 : decode cX6_beginMethod 27 = .ok (.iload_n 1, 1) := by decide +kernel
theorem dX6_beginMethod_28 : decode cX6_beginMethod 28 = .ok (.invokevirtual 80, 3) := by decide +kernel
theorem dX6_beginMethod_31 : decode cX6_beginMethod 31 = .ok (.invokevirtual 66, 3) := by decide +kernel
theorem dX6_beginMethod_34 : decode cX6_beginMethod 34 = .ok (.invokevirtual 45, 3) := by decide +kernel
theorem dX6_beginMethod_37 : decode cX6_beginMethod 37 = .ok (.aload_n 0, 1) := by decide +kernel
theorem dX6_beginMethod_38 : decode cX6_beginMethod 38 = .ok (.aload_n 0, 1) := by decide +kernel
theorem dX6_beginMethod_39 : decode cX6_beginMethod 39 = .ok (.iconst 1, 1) := by decide +kernel
theorem dX6_beginMethod_40 : decode cX6_beginMethod 40 = .ok (.aload_n 0, 1) := by decide +kernel
theorem dX6_beginMethod_41 : decode cX6_beginMethod 41 = .ok (.getfield 24, 3) := by decide +kernel
theorem dX6_beginMethod_44 : decode cX6_beginMethod 44 = .ok (.iload_n 1, 1) := by decide +kernel
theorem dX6_beginMethod_45 : decode cX6_beginMethod 45 = .ok (.invokevirtual 83, 3) := by decide +kernel
theorem dX6_beginMethod_48 : decode cX6_beginMethod 48 = .ok (.invokevirtual 66, 3) := by decide +kernel
theorem dX6_beginMethod_51 : decode cX6_beginMethod 51 = .ok (.invokevirtual 45, 3) := by decide +kernel
theorem dX6_beginMethod_54 : decode cX6_beginMethod 54 = .ok (.return_, 1) := by decide +kernel
theorem rs_RX0_98 : mx_res RX0 98 = some (1, 183, 1) := by decide +kernel
theorem rs_RX0_101 : mx_res RX0 101 = some (1, 25, 0) := by decide +kernel
theorem rs_RX0_103 : mx_res RX0 103 = some (1, 87, 1) := by decide +kernel
theorem rs_RX0_107 : mx_res RX0 107 = some (1, 272, 2) := by decide +kernel
theorem rs_RX0_114 : mx_res RX0 114 = some (1, 88, 1) := by decide +kernel
theorem rs_RX0_117 : mx_res RX0 117 = some (1, 90, 2) := by decide +kernel
theorem rs_RX0_120 : mx_res RX0 120 = some (1, 89, 2) := by decide +kernel
theorem rs_RX0_123 : mx_res RX0 123 = some (1, 86, 1) := by decide +kernel
theorem rs_RX0_135 : mx_res RX0 135 = some (1, 85, 1) := by decide +kernel
theorem rs_RX0_144 : mx_res RX0 144 = some (1, 84, 1) := by decide +kernel
theorem rs_RX0_150 : mx_res RX0 150 = some (1, 43, 1) := by decide +kernel
theorem rs_RX0_154 : mx_res RX0 154 = some (1, 26, 0) := by decide +kernel
theorem ft_0_8 : mx_fty 0 8 = some (.int, false, "ClassMill$Bodies") := by decide +kernel
theorem mt_X0_makeMethod : mx_mt 8 = some (yX0_makeMethod, cX0_makeMethod, 6, none) := rfl
theorem dX0_makeMethod_0 : decode cX0_makeMethod 0 = .ok (.iload_n 1, 1) := by decide +kernel
theorem dX0_makeMethod_1 : decode cX0_makeMethod 1 = .ok (.bipush 12, 2) := by decide +kernel
theorem dX0_makeMethod_3 : decode cX0_makeMethod 3 = .ok (.imul, 1) := by decide +kernel
theorem dX0_makeMethod_4 : decode cX0_makeMethod 4 = .ok (.iload_n 2, 1) := by decide +kernel
theorem dX0_makeMethod_5 : decode cX0_makeMethod 5 = .ok (.iadd, 1) := by decide +kernel
theorem dX0_makeMethod_6 : decode cX0_makeMethod 6 = .ok (.istore_n 3, 1) := by decide +kernel
theorem dX0_makeMethod_7 : decode cX0_makeMethod 7 = .ok (.bipush 8, 2) := by decide +kernel
theorem dX0_makeMethod_9 : decode cX0_makeMethod 9 = .ok (.iload_n 1, 1) := by decide +kernel
theorem dX0_makeMethod_10 : decode cX0_makeMethod 10 = .ok (.iadd, 1) := by decide +kernel
theorem dX0_makeMethod_11 : decode cX0_makeMethod 11 = .ok (.istore 4, 2) := by decide +kernel
theorem dX0_makeMethod_13 : decode cX0_makeMethod 13 = .ok (.aload_n 0, 1) := by decide +kernel
theorem dX0_makeMethod_14 : decode cX0_makeMethod 14 = .ok (.getfield 52, 3) := by decide +kernel
theorem dX0_makeMethod_17 : decode cX0_makeMethod 17 = .ok (.iload_n 3, 1) := by decide +kernel
theorem dX0_makeMethod_18 : decode cX0_makeMethod 18 = .ok (.invokevirtual 98, 3) := by decide +kernel
theorem dX0_makeMethod_21 : decode cX0_makeMethod 21 = .ok (.aload_n 0, 1) := by decide +kernel
theorem dX0_makeMethod_22 : decode cX0_makeMethod 22 = .ok (.getfield 16, 3) := by decide +kernel
theorem dX0_makeMethod_25 : decode cX0_makeMethod 25 = .ok (.invokevirtual 101, 3) := by decide +kernel
theorem dX0_makeMethod_28 : decode cX0_makeMethod 28 = .ok (.aload_n 0, 1) := by decide +kernel
theorem dX0_makeMethod_29 : decode cX0_makeMethod 29 = .ok (.getfield 61, 3) := by decide +kernel
theorem dX0_makeMethod_32 : decode cX0_makeMethod 32 = .ok (.iload 4, 2) := by decide +kernel
theorem dX0_makeMethod_34 : decode cX0_makeMethod 34 = .ok (.aload_n 0, 1) := by decide +kernel
theorem dX0_makeMethod_35 : decode cX0_makeMethod 35 = .ok (.getfield 38, 3) := by decide +kernel
theorem dX0_makeMethod_38 : decode cX0_makeMethod 38 = .ok (.iload_n 3, 1) := by decide +kernel
theorem dX0_makeMethod_39 : decode cX0_makeMethod 39 = .ok (.invokevirtual 103, 3) := by decide +kernel
theorem dX0_makeMethod_42 : decode cX0_makeMethod 42 = .ok (.invokevirtual 107, 3) := by decide +kernel
theorem dX0_makeMethod_45 : decode cX0_makeMethod 45 = .ok (.aload_n 0, 1) := by decide +kernel
theorem dX0_makeMethod_46 : decode cX0_makeMethod 46 = .ok (.getfield 38, 3) := by decide +kernel
theorem dX0_makeMethod_49 : decode cX0_makeMethod 49 = .ok (.iload_n 3, 1) := by decide +kernel
theorem dX0_makeMethod_50 : decode cX0_makeMethod 50 = .ok (.invokevirtual 103, 3) := by decide +kernel
theorem dX0_makeMethod_53 : decode cX0_makeMethod 53 = .ok (.ifCond .ne 14, 3) := by decide +kernel
theorem dX0_makeMethod_56 : decode cX0_makeMethod 56 = .ok (.aload_n 0, 1) := by decide +kernel
theorem dX0_makeMethod_57 : decode cX0_makeMethod 57 = .ok (.getfield 16, 3) := by decide +kernel
theorem dX0_makeMethod_60 : decode cX0_makeMethod 60 = .ok (.iconst (-1), 1) := by decide +kernel
theorem dX0_makeMethod_61 : decode cX0_makeMethod 61 = .ok (.iload 4, 2) := by decide +kernel
theorem dX0_makeMethod_63 : decode cX0_makeMethod 63 = .ok (.invokevirtual 110, 3) := by decide +kernel
theorem dX0_makeMethod_66 : decode cX0_makeMethod 66 = .ok (.pop, 1) := by decide +kernel
theorem dX0_makeMethod_67 : decode cX0_makeMethod 67 = .ok (.iconst 0, 1) := by decide +kernel
theorem dX0_makeMethod_68 : decode cX0_makeMethod 68 = .ok (.istore 5, 2) := by decide +kernel
theorem dX0_makeMethod_70 : decode cX0_makeMethod 70 = .ok (.iload 5, 2) := by decide +kernel
theorem dX0_makeMethod_72 : decode cX0_makeMethod 72 = .ok (.aload_n 0, 1) := by decide +kernel
theorem dX0_makeMethod_73 : decode cX0_makeMethod 73 = .ok (.getfield 38, 3) := by decide +kernel
theorem dX0_makeMethod_76 : decode cX0_makeMethod 76 = .ok (.iload_n 3, 1) := by decide +kernel
theorem dX0_makeMethod_77 : decode cX0_makeMethod 77 = .ok (.invokevirtual 114, 3) := by decide +kernel
theorem dX0_makeMethod_80 : decode cX0_makeMethod 80 = .ok (.if_icmp .ge 37, 3) := by decide +kernel
theorem dX0_makeMethod_83 : decode cX0_makeMethod 83 = .ok (.aload_n 0, 1) := by decide +kernel
theorem dX0_makeMethod_84 : decode cX0_makeMethod 84 = .ok (.getfield 16, 3) := by decide +kernel
theorem dX0_makeMethod_87 : decode cX0_makeMethod 87 = .ok (.aload_n 0, 1) := by decide +kernel
theorem dX0_makeMethod_88 : decode cX0_makeMethod 88 = .ok (.getfield 38, 3) := by decide +kernel
theorem dX0_makeMethod_91 : decode cX0_makeMethod 91 = .ok (.iload_n 3, 1) := by decide +kernel
theorem dX0_makeMethod_92 : decode cX0_makeMethod 92 = .ok (.iload 5, 2) := by decide +kernel
theorem dX0_makeMethod_94 : decode cX0_makeMethod 94 = .ok (.invokevirtual 117, 3) := by decide +kernel
theorem dX0_makeMethod_97 : decode cX0_makeMethod 97 = .ok (.aload_n 0, 1) := by decide +kernel
theorem dX0_makeMethod_98 : decode cX0_makeMethod 98 = .ok (.getfield 38, 3) := by decide +kernel
theorem dX0_makeMethod_101 : decode cX0_makeMethod 101 = .ok (.iload_n 3, 1) := by decide +kernel
theorem dX0_makeMethod_102 : decode cX0_makeMethod 102 = .ok (.iload 5, 2) := by decide +kernel
theorem dX0_makeMethod_104 : decode cX0_makeMethod 104 = .ok (.invokevirtual 120, 3) := by decide +kernel
theorem dX0_makeMethod_107 : decode cX0_makeMethod 107 = .ok (.invokevirtual 110, 3) := by decide +kernel
theorem dX0_makeMethod_110 : decode cX0_makeMethod 110 = .ok (.pop, 1) := by decide +kernel
theorem dX0_makeMethod_111 : decode cX0_makeMethod 111 = .ok (.iinc 5 1, 3) := by decide +kernel
theorem dX0_makeMethod_114 : decode cX0_makeMethod 114 = .ok (.goto (-44), 3) := by decide +kernel
theorem dX0_makeMethod_117 : decode cX0_makeMethod 117 = .ok (.aload_n 0, 1) := by decide +kernel
theorem dX0_makeMethod_118 : decode cX0_makeMethod 118 = .ok (.aload_n 0, 1) := by decide +kernel
theorem dX0_makeMethod_119 : decode cX0_makeMethod 119 = .ok (.getfield 38, 3) := by decide +kernel
theorem dX0_makeMethod_122 : decode cX0_makeMethod 122 = .ok (.iload_n 3, 1) := by decide +kernel
theorem dX0_makeMethod_123 : decode cX0_makeMethod 123 = .ok (.invokevirtual 123, 3) := by decide +kernel
theorem dX0_makeMethod_126 : decode cX0_makeMethod 126 = .ok (.putfield 126, 3) := by decide +kernel
theorem dX0_makeMethod_129 : decode cX0_makeMethod 129 = .ok (.aload_n 0, 1) := by decide +kernel
theorem dX0_makeMethod_130 : decode cX0_makeMethod 130 = .ok (.iconst (-1), 1) := by decide +kernel
theorem dX0_makeMethod_131 : decode cX0_makeMethod 131 = .ok (.putfield 129, 3) := by decide +kernel
theorem dX0_makeMethod_134 : decode cX0_makeMethod 134 = .ok (.aload_n 0, 1) := by decide +kernel
theorem dX0_makeMethod_135 : decode cX0_makeMethod 135 = .ok (.iconst 0, 1) := by decide +kernel
theorem dX0_makeMethod_136 : decode cX0_makeMethod 136 = .ok (.putfield 132, 3) := by decide +kernel
theorem dX0_makeMethod_139 : decode cX0_makeMethod 139 = .ok (.aload_n 0, 1) := by decide +kernel
theorem dX0_makeMethod_140 : decode cX0_makeMethod 140 = .ok (.getfield 34, 3) := by decide +kernel
theorem dX0_makeMethod_143 : decode cX0_makeMethod 143 = .ok (.aload_n 0, 1) := by decide +kernel
theorem dX0_makeMethod_144 : decode cX0_makeMethod 144 = .ok (.getfield 38, 3) := by decide +kernel
theorem dX0_makeMethod_147 : decode cX0_makeMethod 147 = .ok (.iload_n 3, 1) := by decide +kernel
theorem dX0_makeMethod_148 : decode cX0_makeMethod 148 = .ok (.invokevirtual 135, 3) := by decide +kernel
theorem dX0_makeMethod_151 : decode cX0_makeMethod 151 = .ok (.putfield 138, 3) := by decide +kernel
theorem dX0_makeMethod_154 : decode cX0_makeMethod 154 = .ok (.aload_n 0, 1) := by decide +kernel
theorem dX0_makeMethod_155 : decode cX0_makeMethod 155 = .ok (.iconst 0, 1) := by decide +kernel
theorem dX0_makeMethod_156 : decode cX0_makeMethod 156 = .ok (.invokevirtual 141, 3) := by decide +kernel
theorem dX0_makeMethod_159 : decode cX0_makeMethod 159 = .ok (.ifCond .eq 40, 3) := by decide +kernel
theorem dX0_makeMethod_162 : decode cX0_makeMethod 162 = .ok (.aload_n 0, 1) := by decide +kernel
theorem dX0_makeMethod_163 : decode cX0_makeMethod 163 = .ok (.getfield 126, 3) := by decide +kernel
theorem dX0_makeMethod_166 : decode cX0_makeMethod 166 = .ok (.sipush 303, 3) := by decide +kernel
theorem dX0_makeMethod_169 : decode cX0_makeMethod 169 = .ok (.if_icmp .eq 20, 3) := by decide +kernel
theorem dX0_makeMethod_172 : decode cX0_makeMethod 172 = .ok (.aload_n 0, 1) := by decide +kernel
theorem dX0_makeMethod_173 : decode cX0_makeMethod 173 = .ok (.getfield 34, 3) := by decide +kernel
theorem dX0_makeMethod_176 : decode cX0_makeMethod 176 = .ok (.bipush 8, 2) := by decide +kernel
theorem dX0_makeMethod_178 : decode cX0_makeMethod 178 = .ok (.aload_n 0, 1) := by decide +kernel
theorem dX0_makeMethod_179 : decode cX0_makeMethod 179 = .ok (.getfield 38, 3) := by decide +kernel
theorem dX0_makeMethod_182 : decode cX0_makeMethod 182 = .ok (.iload_n 3, 1) := by decide +kernel
theorem dX0_makeMethod_183 : decode cX0_makeMethod 183 = .ok (.invokevirtual 144, 3) := by decide +kernel
theorem dX0_makeMethod_186 : decode cX0_makeMethod 186 = .ok (.invokevirtual 69, 3) := by decide +kernel
theorem dX0_makeMethod_189 : decode cX0_makeMethod 189 = .ok (.aload_n 0, 1) := by decide +kernel
theorem dX0_makeMethod_190 : decode cX0_makeMethod 190 = .ok (.getfield 16, 3) := by decide +kernel
theorem dX0_makeMethod_193 : decode cX0_makeMethod 193 = .ok (.sipush 177, 3) := by decide +kernel
theorem dX0_makeMethod_196 : decode cX0_makeMethod 196 = .ok (.invokevirtual 147, 3) := by decide +kernel
theorem dX0_makeMethod_199 : decode cX0_makeMethod 199 = .ok (.aload_n 0, 1) := by decide +kernel
theorem dX0_makeMethod_200 : decode cX0_makeMethod 200 = .ok (.getfield 16, 3) := by decide +kernel
theorem dX0_makeMethod_203 : decode cX0_makeMethod 203 = .ok (.aload_n 0, 1) := by decide +kernel
theorem dX0_makeMethod_204 : decode cX0_makeMethod 204 = .ok (.getfield 52, 3) := by decide +kernel
theorem dX0_makeMethod_207 : decode cX0_makeMethod 207 = .ok (.invokevirtual 150, 3) := by decide +kernel
theorem dX0_makeMethod_210 : decode cX0_makeMethod 210 = .ok (.aload_n 0, 1) := by decide +kernel
theorem dX0_makeMethod_211 : decode cX0_makeMethod 211 = .ok (.aload_n 0, 1) := by decide +kernel
theorem dX0_makeMethod_212 : decode cX0_makeMethod 212 = .ok (.getfield 16, 3) := by decide +kernel
theorem dX0_makeMethod_215 : decode cX0_makeMethod 215 = .ok (.invokevirtual 154, 3) := by decide +kernel
theorem dX0_makeMethod_218 : decode cX0_makeMethod 218 = .ok (.aload_n 0, 1) := by decide +kernel
theorem dX0_makeMethod_219 : decode cX0_makeMethod 219 = .ok (.getfield 38, 3) := by decide +kernel
theorem dX0_makeMethod_222 : decode cX0_makeMethod 222 = .ok (.iload_n 3, 1) := by decide +kernel
theorem dX0_makeMethod_223 : decode cX0_makeMethod 223 = .ok (.invokevirtual 144, 3) := by decide +kernel
theorem dX0_makeMethod_226 : decode cX0_makeMethod 226 = .ok (.invokevirtual 85, 3) := by decide +kernel
theorem dX0_makeMethod_229 : decode cX0_makeMethod 229 = .ok (.return_, 1) := by decide +kernel
theorem mt_X0_made : mx_mt 2 = some (yX0_made, cX0_made, 2, (some (.array .byte))) := rfl
theorem dX0_made_0 : decode cX0_made 0 = .ok (.iload_n 1, 1) := by decide +kernel
theorem dX0_made_1 : decode cX0_made 1 = .ok (.ifCond .lt 21, 3) := by decide +kernel
theorem dX0_made_4 : decode cX0_made 4 = .ok (.iload_n 1, 1) := by decide +kernel
theorem dX0_made_5 : decode cX0_made 5 = .ok (.aload_n 0, 1) := by decide +kernel
theorem dX0_made_6 : decode cX0_made 6 = .ok (.getfield 26, 3) := by decide +kernel
theorem dX0_made_9 : decode cX0_made 9 = .ok (.arraylength, 1) := by decide +kernel
theorem dX0_made_10 : decode cX0_made 10 = .ok (.if_icmp .ge 12, 3) := by decide +kernel
theorem dX0_made_13 : decode cX0_made 13 = .ok (.aload_n 0, 1) := by decide +kernel
theorem dX0_made_14 : decode cX0_made 14 = .ok (.getfield 26, 3) := by decide +kernel
theorem dX0_made_17 : decode cX0_made 17 = .ok (.iload_n 1, 1) := by decide +kernel
theorem dX0_made_18 : decode cX0_made 18 = .ok (.aaload, 1) := by decide +kernel
theorem dX0_made_19 : decode cX0_made 19 = .ok (.goto 4, 3) := by decide +kernel
theorem dX0_made_22 : decode cX0_made 22 = .ok (.aconst_null, 1) := by decide +kernel
theorem dX0_made_23 : decode cX0_made 23 = .ok (.areturn, 1) := by decide +kernel
theorem rs_RX12_25 : mx_res RX12 25 = some (0, 12, 4) := by decide +kernel
theorem rs_RX12_41 : mx_res RX12 41 = some (0, 12, 5) := by decide +kernel
theorem rs_RX12_46 : mx_res RX12 46 = some (0, 12, 6) := by decide +kernel
theorem rs_RX12_110 : mx_res RX12 110 = some (0, 2, 2) := by decide +kernel
theorem rs_RX12_136 : mx_res RX12 136 = some (0, 12, 7) := by decide +kernel
theorem rs_RX12_139 : mx_res RX12 139 = some (1, 2, 1) := by decide +kernel
theorem ft_12_7 : mx_fty 12 7 = some (.int, false, "ClassMill") := by decide +kernel
theorem mt_X12_takeImages : mx_mt 364 = some (yX12_takeImages, cX12_takeImages, 2, (some .int)) := rfl
theorem dX12_takeImages_0 : decode cX12_takeImages 0 = .ok (.aload_n 0, 1) := by decide +kernel
theorem dX12_takeImages_1 : decode cX12_takeImages 1 = .ok (.aload_n 0, 1) := by decide +kernel
theorem dX12_takeImages_2 : decode cX12_takeImages 2 = .ok (.getfield 25, 3) := by decide +kernel
theorem dX12_takeImages_5 : decode cX12_takeImages 5 = .ok (.getfield 110, 3) := by decide +kernel
theorem dX12_takeImages_8 : decode cX12_takeImages 8 = .ok (.putfield 136, 3) := by decide +kernel
theorem dX12_takeImages_11 : decode cX12_takeImages 11 = .ok (.iconst 0, 1) := by decide +kernel
theorem dX12_takeImages_12 : decode cX12_takeImages 12 = .ok (.istore_n 1, 1) := by decide +kernel
theorem dX12_takeImages_13 : decode cX12_takeImages 13 = .ok (.iload_n 1, 1) := by decide +kernel
theorem dX12_takeImages_14 : decode cX12_takeImages 14 = .ok (.aload_n 0, 1) := by decide +kernel
theorem dX12_takeImages_15 : decode cX12_takeImages 15 = .ok (.getfield 136, 3) := by decide +kernel
theorem dX12_takeImages_18 : decode cX12_takeImages 18 = .ok (.if_icmp .ge 32, 3) := by decide +kernel
theorem dX12_takeImages_21 : decode cX12_takeImages 21 = .ok (.iload_n 1, 1) := by decide +kernel
theorem dX12_takeImages_22 : decode cX12_takeImages 22 = .ok (.aload_n 0, 1) := by decide +kernel
theorem dX12_takeImages_23 : decode cX12_takeImages 23 = .ok (.getfield 46, 3) := by decide +kernel
theorem dX12_takeImages_26 : decode cX12_takeImages 26 = .ok (.arraylength, 1) := by decide +kernel
theorem dX12_takeImages_27 : decode cX12_takeImages 27 = .ok (.if_icmp .ge 23, 3) := by decide +kernel
theorem dX12_takeImages_30 : decode cX12_takeImages 30 = .ok (.aload_n 0, 1) := by decide +kernel
theorem dX12_takeImages_31 : decode cX12_takeImages 31 = .ok (.getfield 46, 3) := by decide +kernel
theorem dX12_takeImages_34 : decode cX12_takeImages 34 = .ok (.iload_n 1, 1) := by decide +kernel
theorem dX12_takeImages_35 : decode cX12_takeImages 35 = .ok (.aload_n 0, 1) := by decide +kernel
theorem dX12_takeImages_36 : decode cX12_takeImages 36 = .ok (.getfield 41, 3) := by decide +kernel
theorem dX12_takeImages_39 : decode cX12_takeImages 39 = .ok (.iload_n 1, 1) := by decide +kernel
theorem dX12_takeImages_40 : decode cX12_takeImages 40 = .ok (.invokevirtual 139, 3) := by decide +kernel
theorem dX12_takeImages_43 : decode cX12_takeImages 43 = .ok (.aastore, 1) := by decide +kernel
theorem dX12_takeImages_44 : decode cX12_takeImages 44 = .ok (.iinc 1 1, 3) := by decide +kernel
theorem dX12_takeImages_47 : decode cX12_takeImages 47 = .ok (.goto (-34), 3) := by decide +kernel
theorem dX12_takeImages_50 : decode cX12_takeImages 50 = .ok (.aload_n 0, 1) := by decide +kernel
theorem dX12_takeImages_51 : decode cX12_takeImages 51 = .ok (.getfield 136, 3) := by decide +kernel
theorem dX12_takeImages_54 : decode cX12_takeImages 54 = .ok (.ireturn, 1) := by decide +kernel
theorem rs_RX2_157 : mx_res RX2 157 = some (1, 89, 2) := by decide +kernel
theorem rs_RX2_218 : mx_res RX2 218 = some (1, 83, 1) := by decide +kernel
theorem rs_RX2_221 : mx_res RX2 221 = some (1, 75, 2) := by decide +kernel
theorem mt_X2_checkOverride : mx_mt 70 = some (yX2_checkOverride, cX2_checkOverride, 5, none) := rfl
theorem dX2_checkOverride_0 : decode cX2_checkOverride 0 = .ok (.aload_n 0, 1) := by decide +kernel
theorem dX2_checkOverride_1 : decode cX2_checkOverride 1 = .ok (.aload_n 0, 1) := by decide +kernel
theorem dX2_checkOverride_2 : decode cX2_checkOverride 2 = .ok (.getfield 14, 3) := by decide +kernel
theorem dX2_checkOverride_5 : decode cX2_checkOverride 5 = .ok (.bipush 8, 2) := by decide +kernel
theorem dX2_checkOverride_7 : decode cX2_checkOverride 7 = .ok (.iload_n 1, 1) := by decide +kernel
theorem dX2_checkOverride_8 : decode cX2_checkOverride 8 = .ok (.bipush 12, 2) := by decide +kernel
theorem dX2_checkOverride_10 : decode cX2_checkOverride 10 = .ok (.idiv, 1) := by decide +kernel
theorem dX2_checkOverride_11 : decode cX2_checkOverride 11 = .ok (.iadd, 1) := by decide +kernel
theorem dX2_checkOverride_12 : decode cX2_checkOverride 12 = .ok (.invokevirtual 215, 3) := by decide +kernel
theorem dX2_checkOverride_15 : decode cX2_checkOverride 15 = .ok (.aload_n 0, 1) := by decide +kernel
theorem dX2_checkOverride_16 : decode cX2_checkOverride 16 = .ok (.iload_n 1, 1) := by decide +kernel
theorem dX2_checkOverride_17 : decode cX2_checkOverride 17 = .ok (.invokevirtual 218, 3) := by decide +kernel
theorem dX2_checkOverride_20 : decode cX2_checkOverride 20 = .ok (.invokevirtual 221, 3) := by decide +kernel
theorem dX2_checkOverride_23 : decode cX2_checkOverride 23 = .ok (.istore_n 2, 1) := by decide +kernel
theorem dX2_checkOverride_24 : decode cX2_checkOverride 24 = .ok (.iload_n 2, 1) := by decide +kernel
theorem dX2_checkOverride_25 : decode cX2_checkOverride 25 = .ok (.iconst (-1), 1) := by decide +kernel
theorem dX2_checkOverride_26 : decode cX2_checkOverride 26 = .ok (.if_icmp .ne 4, 3) := by decide +kernel
theorem dX2_checkOverride_29 : decode cX2_checkOverride 29 = .ok (.return_, 1) := by decide +kernel
theorem dX2_checkOverride_30 : decode cX2_checkOverride 30 = .ok (.aload_n 0, 1) := by decide +kernel
theorem dX2_checkOverride_31 : decode cX2_checkOverride 31 = .ok (.getfield 51, 3) := by decide +kernel
theorem dX2_checkOverride_34 : decode cX2_checkOverride 34 = .ok (.iload_n 1, 1) := by decide +kernel
theorem dX2_checkOverride_35 : decode cX2_checkOverride 35 = .ok (.baload, 1) := by decide +kernel
theorem dX2_checkOverride_36 : decode cX2_checkOverride 36 = .ok (.ifCond .ne 46, 3) := by decide +kernel
theorem dX2_checkOverride_39 : decode cX2_checkOverride 39 = .ok (.aload_n 0, 1) := by decide +kernel
theorem dX2_checkOverride_40 : decode cX2_checkOverride 40 = .ok (.getfield 51, 3) := by decide +kernel
theorem dX2_checkOverride_43 : decode cX2_checkOverride 43 = .ok (.iload_n 2, 1) := by decide +kernel
theorem dX2_checkOverride_44 : decode cX2_checkOverride 44 = .ok (.baload, 1) := by decide +kernel
theorem dX2_checkOverride_45 : decode cX2_checkOverride 45 = .ok (.ifCond .ne 37, 3) := by decide +kernel
theorem dX2_checkOverride_48 : decode cX2_checkOverride 48 = .ok (.aload_n 0, 1) := by decide +kernel
theorem dX2_checkOverride_49 : decode cX2_checkOverride 49 = .ok (.getfield 48, 3) := by decide +kernel
theorem dX2_checkOverride_52 : decode cX2_checkOverride 52 = .ok (.iload_n 1, 1) := by decide +kernel
theorem dX2_checkOverride_53 : decode cX2_checkOverride 53 = .ok (.iaload, 1) := by decide +kernel
theorem dX2_checkOverride_54 : decode cX2_checkOverride 54 = .ok (.aload_n 0, 1) := by decide +kernel
theorem dX2_checkOverride_55 : decode cX2_checkOverride 55 = .ok (.getfield 48, 3) := by decide +kernel
theorem dX2_checkOverride_58 : decode cX2_checkOverride 58 = .ok (.iload_n 2, 1) := by decide +kernel
theorem dX2_checkOverride_59 : decode cX2_checkOverride 59 = .ok (.iaload, 1) := by decide +kernel
theorem dX2_checkOverride_60 : decode cX2_checkOverride 60 = .ok (.if_icmp .ne 22, 3) := by decide +kernel
theorem dX2_checkOverride_63 : decode cX2_checkOverride 63 = .ok (.aload_n 0, 1) := by decide +kernel
theorem dX2_checkOverride_64 : decode cX2_checkOverride 64 = .ok (.getfield 58, 3) := by decide +kernel
theorem dX2_checkOverride_67 : decode cX2_checkOverride 67 = .ok (.iload_n 1, 1) := by decide +kernel
theorem dX2_checkOverride_68 : decode cX2_checkOverride 68 = .ok (.iaload, 1) := by decide +kernel
theorem dX2_checkOverride_69 : decode cX2_checkOverride 69 = .ok (.aload_n 0, 1) := by decide +kernel
theorem dX2_checkOverride_70 : decode cX2_checkOverride 70 = .ok (.getfield 58, 3) := by decide +kernel
theorem dX2_checkOverride_73 : decode cX2_checkOverride 73 = .ok (.iload_n 2, 1) := by decide +kernel
theorem dX2_checkOverride_74 : decode cX2_checkOverride 74 = .ok (.iaload, 1) := by decide +kernel
theorem dX2_checkOverride_75 : decode cX2_checkOverride 75 = .ok (.if_icmp .ne 7, 3) := by decide +kernel
theorem dX2_checkOverride_78 : decode cX2_checkOverride 78 = .ok (.iconst 1, 1) := by decide +kernel
theorem dX2_checkOverride_79 : decode cX2_checkOverride 79 = .ok (.goto 4, 3) := by decide +kernel
theorem dX2_checkOverride_82 : decode cX2_checkOverride 82 = .ok (.iconst 0, 1) := by decide +kernel
theorem dX2_checkOverride_83 : decode cX2_checkOverride 83 = .ok (.istore_n 3, 1) := by decide +kernel
theorem dX2_checkOverride_84 : decode cX2_checkOverride 84 = .ok (.iconst 0, 1) := by decide +kernel
theorem dX2_checkOverride_85 : decode cX2_checkOverride 85 = .ok (.istore 4, 2) := by decide +kernel
theorem dX2_checkOverride_87 : decode cX2_checkOverride 87 = .ok (.iload 4, 2) := by decide +kernel
theorem dX2_checkOverride_89 : decode cX2_checkOverride 89 = .ok (.aload_n 0, 1) := by decide +kernel
theorem dX2_checkOverride_90 : decode cX2_checkOverride 90 = .ok (.getfield 58, 3) := by decide +kernel
theorem dX2_checkOverride_93 : decode cX2_checkOverride 93 = .ok (.iload_n 1, 1) := by decide +kernel
theorem dX2_checkOverride_94 : decode cX2_checkOverride 94 = .ok (.iaload, 1) := by decide +kernel
theorem dX2_checkOverride_95 : decode cX2_checkOverride 95 = .ok (.if_icmp .ge 36, 3) := by decide +kernel
theorem dX2_checkOverride_98 : decode cX2_checkOverride 98 = .ok (.iload_n 3, 1) := by decide +kernel
theorem dX2_checkOverride_99 : decode cX2_checkOverride 99 = .ok (.ifCond .eq 32, 3) := by decide +kernel
theorem dX2_checkOverride_102 : decode cX2_checkOverride 102 = .ok (.aload_n 0, 1) := by decide +kernel
theorem dX2_checkOverride_103 : decode cX2_checkOverride 103 = .ok (.iload_n 1, 1) := by decide +kernel
theorem dX2_checkOverride_104 : decode cX2_checkOverride 104 = .ok (.iload 4, 2) := by decide +kernel
theorem dX2_checkOverride_106 : decode cX2_checkOverride 106 = .ok (.invokevirtual 157, 3) := by decide +kernel
theorem dX2_checkOverride_109 : decode cX2_checkOverride 109 = .ok (.aload_n 0, 1) := by decide +kernel
theorem dX2_checkOverride_110 : decode cX2_checkOverride 110 = .ok (.iload_n 2, 1) := by decide +kernel
theorem dX2_checkOverride_111 : decode cX2_checkOverride 111 = .ok (.iload 4, 2) := by decide +kernel
theorem dX2_checkOverride_113 : decode cX2_checkOverride 113 = .ok (.invokevirtual 157, 3) := by decide +kernel
theorem dX2_checkOverride_116 : decode cX2_checkOverride 116 = .ok (.if_icmp .ne 7, 3) := by decide +kernel
theorem dX2_checkOverride_119 : decode cX2_checkOverride 119 = .ok (.iconst 1, 1) := by decide +kernel
theorem dX2_checkOverride_120 : decode cX2_checkOverride 120 = .ok (.goto 4, 3) := by decide +kernel
theorem dX2_checkOverride_123 : decode cX2_checkOverride 123 = .ok (.iconst 0, 1) := by decide +kernel
theorem dX2_checkOverride_124 : decode cX2_checkOverride 124 = .ok (.istore_n 3, 1) := by decide +kernel
theorem dX2_checkOverride_125 : decode cX2_checkOverride 125 = .ok (.iinc 4 1, 3) := by decide +kernel
theorem dX2_checkOverride_128 : decode cX2_checkOverride 128 = .ok (.goto (-41), 3) := by decide +kernel
theorem dX2_checkOverride_131 : decode cX2_checkOverride 131 = .ok (.iload_n 3, 1) := by decide +kernel
theorem dX2_checkOverride_132 : decode cX2_checkOverride 132 = .ok (.ifCond .ne 18, 3) := by decide +kernel
theorem dX2_checkOverride_135 : decode cX2_checkOverride 135 = .ok (.aload_n 0, 1) := by decide +kernel
theorem dX2_checkOverride_136 : decode cX2_checkOverride 136 = .ok (.getfield 74, 3) := by decide +kernel
theorem dX2_checkOverride_139 : decode cX2_checkOverride 139 = .ok (.bipush 10, 2) := by decide +kernel
theorem dX2_checkOverride_141 : decode cX2_checkOverride 141 = .ok (.aload_n 0, 1) := by decide +kernel
theorem dX2_checkOverride_142 : decode cX2_checkOverride 142 = .ok (.getfield 42, 3) := by decide +kernel
theorem dX2_checkOverride_145 : decode cX2_checkOverride 145 = .ok (.iload_n 1, 1) := by decide +kernel
theorem dX2_checkOverride_146 : decode cX2_checkOverride 146 = .ok (.iaload, 1) := by decide +kernel
theorem dX2_checkOverride_147 : decode cX2_checkOverride 147 = .ok (.invokevirtual 186, 3) := by decide +kernel
theorem dX2_checkOverride_150 : decode cX2_checkOverride 150 = .ok (.return_, 1) := by decide +kernel
theorem rs_RX2_91 : mx_res RX2 91 = some (0, 9, 11) := by decide +kernel
theorem rs_RX2_132 : mx_res RX2 132 = some (1, 70, 1) := by decide +kernel
theorem mt_X2_checkOverrides : mx_mt 51 = some (yX2_checkOverrides, cX2_checkOverrides, 2, none) := rfl
theorem dX2_checkOverrides_0 : decode cX2_checkOverrides 0 = .ok (.iconst 0, 1) := by decide +kernel
theorem dX2_checkOverrides_1 : decode cX2_checkOverrides 1 = .ok (.istore_n 1, 1) := by decide +kernel
theorem dX2_checkOverrides_2 : decode cX2_checkOverrides 2 = .ok (.iload_n 1, 1) := by decide +kernel
theorem dX2_checkOverrides_3 : decode cX2_checkOverrides 3 = .ok (.aload_n 0, 1) := by decide +kernel
theorem dX2_checkOverrides_4 : decode cX2_checkOverrides 4 = .ok (.getfield 42, 3) := by decide +kernel
theorem dX2_checkOverrides_7 : decode cX2_checkOverrides 7 = .ok (.arraylength, 1) := by decide +kernel
theorem dX2_checkOverrides_8 : decode cX2_checkOverrides 8 = .ok (.if_icmp .ge 32, 3) := by decide +kernel
theorem dX2_checkOverrides_11 : decode cX2_checkOverrides 11 = .ok (.aload_n 0, 1) := by decide +kernel
theorem dX2_checkOverrides_12 : decode cX2_checkOverrides 12 = .ok (.getfield 74, 3) := by decide +kernel
theorem dX2_checkOverrides_15 : decode cX2_checkOverrides 15 = .ok (.getfield 91, 3) := by decide +kernel
theorem dX2_checkOverrides_18 : decode cX2_checkOverrides 18 = .ok (.ifCond .ne 22, 3) := by decide +kernel
theorem dX2_checkOverrides_21 : decode cX2_checkOverrides 21 = .ok (.aload_n 0, 1) := by decide +kernel
theorem dX2_checkOverrides_22 : decode cX2_checkOverrides 22 = .ok (.iload_n 1, 1) := by decide +kernel
theorem dX2_checkOverrides_23 : decode cX2_checkOverrides 23 = .ok (.invokevirtual 128, 3) := by decide +kernel
theorem dX2_checkOverrides_26 : decode cX2_checkOverrides 26 = .ok (.ifCond .eq 8, 3) := by decide +kernel
theorem dX2_checkOverrides_29 : decode cX2_checkOverrides 29 = .ok (.aload_n 0, 1) := by decide +kernel
theorem dX2_checkOverrides_30 : decode cX2_checkOverrides 30 = .ok (.iload_n 1, 1) := by decide +kernel
theorem dX2_checkOverrides_31 : decode cX2_checkOverrides 31 = .ok (.invokevirtual 132, 3) := by decide +kernel
theorem dX2_checkOverrides_34 : decode cX2_checkOverrides 34 = .ok (.iinc 1 1, 3) := by decide +kernel
theorem dX2_checkOverrides_37 : decode cX2_checkOverrides 37 = .ok (.goto (-35), 3) := by decide +kernel
theorem dX2_checkOverrides_40 : decode cX2_checkOverrides 40 = .ok (.return_, 1) := by decide +kernel
theorem rs_RX2_82 : mx_res RX2 82 = some (2, 600, 2) := by decide +kernel
theorem rs_RX2_88 : mx_res RX2 88 = some (1, 130, 0) := by decide +kernel
theorem ft_2_2 : mx_fty 2 2 = some (.int, false, "ClassMill$Heads") := by decide +kernel
theorem mt_X2_forget : mx_mt 47 = some (yX2_forget, cX2_forget, 1, none) := rfl
theorem dX2_forget_0 : decode cX2_forget 0 = .ok (.aload_n 0, 1) := by decide +kernel
theorem dX2_forget_1 : decode cX2_forget 1 = .ok (.iconst 0, 1) := by decide +kernel
theorem dX2_forget_2 : decode cX2_forget 2 = .ok (.putfield 78, 3) := by decide +kernel
theorem dX2_forget_5 : decode cX2_forget 5 = .ok (.aload_n 0, 1) := by decide +kernel
theorem dX2_forget_6 : decode cX2_forget 6 = .ok (.getfield 27, 3) := by decide +kernel
theorem dX2_forget_9 : decode cX2_forget 9 = .ok (.iconst 0, 1) := by decide +kernel
theorem dX2_forget_10 : decode cX2_forget 10 = .ok (.invokestatic 82, 3) := by decide +kernel
theorem dX2_forget_13 : decode cX2_forget 13 = .ok (.aload_n 0, 1) := by decide +kernel
theorem dX2_forget_14 : decode cX2_forget 14 = .ok (.getfield 39, 3) := by decide +kernel
theorem dX2_forget_17 : decode cX2_forget 17 = .ok (.iconst 0, 1) := by decide +kernel
theorem dX2_forget_18 : decode cX2_forget 18 = .ok (.invokestatic 82, 3) := by decide +kernel
theorem dX2_forget_21 : decode cX2_forget 21 = .ok (.aload_n 0, 1) := by decide +kernel
theorem dX2_forget_22 : decode cX2_forget 22 = .ok (.getfield 14, 3) := by decide +kernel
theorem dX2_forget_25 : decode cX2_forget 25 = .ok (.invokevirtual 88, 3) := by decide +kernel
theorem dX2_forget_28 : decode cX2_forget 28 = .ok (.return_, 1) := by decide +kernel
