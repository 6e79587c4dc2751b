theorem rs_RX2_94 : mx_res RX2 94 = some (1, 57, 0) := by decide +kernel
theorem rs_RX2_97 : mx_res RX2 97 = some (1, 62, 1) := by decide +kernel
theorem rs_RX2_105 : mx_res RX2 105 = some (1, 132, 2) := by decide +kernel
theorem rs_RX2_109 : mx_res RX2 109 = some (1, 133, 0) := by decide +kernel
theorem mt_X2_readClasses : mx_mt 49 = some (yX2_readClasses, cX2_readClasses, 2, none) := rfl
theorem dX2_readClasses_0 : decode cX2_readClasses 0 = .ok (.aload_n 0, 1) := by decide +kernel
theorem dX2_readClasses_1 : decode cX2_readClasses 1 = .ok (.getfield 74, 3) := by decide +kernel
theorem dX2_readClasses_4 : decode cX2_readClasses 4 = .ok (.getfield 91, 3) := by decide +kernel
theorem dX2_readClasses_7 : decode cX2_readClasses 7 = .ok (.ifCond .eq 4, 3) := by decide +kernel
theorem dX2_readClasses_10 : decode cX2_readClasses 10 = .ok (.return_, 1) := by decide +kernel
theorem dX2_readClasses_11 : decode cX2_readClasses 11 = .ok (.aload_n 0, 1) := by decide +kernel
theorem dX2_readClasses_12 : decode cX2_readClasses 12 = .ok (.invokevirtual 94, 3) := by decide +kernel
theorem dX2_readClasses_15 : decode cX2_readClasses 15 = .ok (.iconst 0, 1) := by decide +kernel
theorem dX2_readClasses_16 : decode cX2_readClasses 16 = .ok (.istore_n 1, 1) := by decide +kernel
theorem dX2_readClasses_17 : decode cX2_readClasses 17 = .ok (.iload_n 1, 1) := by decide +kernel
theorem dX2_readClasses_18 : decode cX2_readClasses 18 = .ok (.aload_n 0, 1) := by decide +kernel
theorem dX2_readClasses_19 : decode cX2_readClasses 19 = .ok (.getfield 78, 3) := by decide +kernel
theorem dX2_readClasses_22 : decode cX2_readClasses 22 = .ok (.if_icmp .ge 24, 3) := by decide +kernel
theorem dX2_readClasses_25 : decode cX2_readClasses 25 = .ok (.aload_n 0, 1) := by decide +kernel
theorem dX2_readClasses_26 : decode cX2_readClasses 26 = .ok (.getfield 74, 3) := by decide +kernel
theorem dX2_readClasses_29 : decode cX2_readClasses 29 = .ok (.getfield 91, 3) := by decide +kernel
theorem dX2_readClasses_32 : decode cX2_readClasses 32 = .ok (.ifCond .ne 14, 3) := by decide +kernel
theorem dX2_readClasses_35 : decode cX2_readClasses 35 = .ok (.aload_n 0, 1) := by decide +kernel
theorem dX2_readClasses_36 : decode cX2_readClasses 36 = .ok (.iload_n 1, 1) := by decide +kernel
theorem dX2_readClasses_37 : decode cX2_readClasses 37 = .ok (.invokevirtual 97, 3) := by decide +kernel
theorem dX2_readClasses_40 : decode cX2_readClasses 40 = .ok (.iinc 1 1, 3) := by decide +kernel
theorem dX2_readClasses_43 : decode cX2_readClasses 43 = .ok (.goto (-26), 3) := by decide +kernel
theorem dX2_readClasses_46 : decode cX2_readClasses 46 = .ok (.iconst 0, 1) := by decide +kernel
theorem dX2_readClasses_47 : decode cX2_readClasses 47 = .ok (.istore_n 1, 1) := by decide +kernel
theorem dX2_readClasses_48 : decode cX2_readClasses 48 = .ok (.iload_n 1, 1) := by decide +kernel
theorem dX2_readClasses_49 : decode cX2_readClasses 49 = .ok (.aload_n 0, 1) := by decide +kernel
theorem dX2_readClasses_50 : decode cX2_readClasses 50 = .ok (.getfield 78, 3) := by decide +kernel
theorem dX2_readClasses_53 : decode cX2_readClasses 53 = .ok (.if_icmp .ge 35, 3) := by decide +kernel
theorem dX2_readClasses_56 : decode cX2_readClasses 56 = .ok (.aload_n 0, 1) := by decide +kernel
theorem dX2_readClasses_57 : decode cX2_readClasses 57 = .ok (.getfield 74, 3) := by decide +kernel
theorem dX2_readClasses_60 : decode cX2_readClasses 60 = .ok (.getfield 91, 3) := by decide +kernel
theorem dX2_readClasses_63 : decode cX2_readClasses 63 = .ok (.ifCond .ne 25, 3) := by decide +kernel
theorem dX2_readClasses_66 : decode cX2_readClasses 66 = .ok (.aload_n 0, 1) := by decide +kernel
theorem dX2_readClasses_67 : decode cX2_readClasses 67 = .ok (.getfield 14, 3) := by decide +kernel
theorem dX2_readClasses_70 : decode cX2_readClasses 70 = .ok (.bipush 8, 2) := by decide +kernel
theorem dX2_readClasses_72 : decode cX2_readClasses 72 = .ok (.iload_n 1, 1) := by decide +kernel
theorem dX2_readClasses_73 : decode cX2_readClasses 73 = .ok (.iadd, 1) := by decide +kernel
theorem dX2_readClasses_74 : decode cX2_readClasses 74 = .ok (.aload_n 0, 1) := by decide +kernel
theorem dX2_readClasses_75 : decode cX2_readClasses 75 = .ok (.iload_n 1, 1) := by decide +kernel
theorem dX2_readClasses_76 : decode cX2_readClasses 76 = .ok (.invokevirtual 101, 3) := by decide +kernel
theorem dX2_readClasses_79 : decode cX2_readClasses 79 = .ok (.invokevirtual 105, 3) := by decide +kernel
theorem dX2_readClasses_82 : decode cX2_readClasses 82 = .ok (.iinc 1 1, 3) := by decide +kernel
theorem dX2_readClasses_85 : decode cX2_readClasses 85 = .ok (.goto (-37), 3) := by decide +kernel
theorem dX2_readClasses_88 : decode cX2_readClasses 88 = .ok (.aload_n 0, 1) := by decide +kernel
theorem dX2_readClasses_89 : decode cX2_readClasses 89 = .ok (.getfield 14, 3) := by decide +kernel
theorem dX2_readClasses_92 : decode cX2_readClasses 92 = .ok (.invokevirtual 109, 3) := by decide +kernel
theorem dX2_readClasses_95 : decode cX2_readClasses 95 = .ok (.return_, 1) := by decide +kernel
theorem mt_X2_addField : mx_mt 66 = some (yX2_addField, cX2_addField, 6, none) := rfl
theorem dX2_addField_0 : decode cX2_addField 0 = .ok (.aload_n 0, 1) := by decide +kernel
theorem dX2_addField_1 : decode cX2_addField 1 = .ok (.getfield 27, 3) := by decide +kernel
theorem dX2_addField_4 : decode cX2_addField 4 = .ok (.iload_n 1, 1) := by decide +kernel
theorem dX2_addField_5 : decode cX2_addField 5 = .ok (.iaload, 1) := by decide +kernel
theorem dX2_addField_6 : decode cX2_addField 6 = .ok (.bipush 12, 2) := by decide +kernel
theorem dX2_addField_8 : decode cX2_addField 8 = .ok (.if_icmp .lt 14, 3) := by decide +kernel
theorem dX2_addField_11 : decode cX2_addField 11 = .ok (.aload_n 0, 1) := by decide +kernel
theorem dX2_addField_12 : decode cX2_addField 12 = .ok (.getfield 74, 3) := by decide +kernel
theorem dX2_addField_15 : decode cX2_addField 15 = .ok (.bipush 11, 2) := by decide +kernel
theorem dX2_addField_17 : decode cX2_addField 17 = .ok (.iload_n 2, 1) := by decide +kernel
theorem dX2_addField_18 : decode cX2_addField 18 = .ok (.invokevirtual 186, 3) := by decide +kernel
theorem dX2_addField_21 : decode cX2_addField 21 = .ok (.return_, 1) := by decide +kernel
theorem dX2_addField_22 : decode cX2_addField 22 = .ok (.aload_n 0, 1) := by decide +kernel
theorem dX2_addField_23 : decode cX2_addField 23 = .ok (.getfield 74, 3) := by decide +kernel
theorem dX2_addField_26 : decode cX2_addField 26 = .ok (.iload_n 2, 1) := by decide +kernel
theorem dX2_addField_27 : decode cX2_addField 27 = .ok (.invokevirtual 135, 3) := by decide +kernel
theorem dX2_addField_30 : decode cX2_addField 30 = .ok (.istore 4, 2) := by decide +kernel
theorem dX2_addField_32 : decode cX2_addField 32 = .ok (.aload_n 0, 1) := by decide +kernel
theorem dX2_addField_33 : decode cX2_addField 33 = .ok (.iload_n 1, 1) := by decide +kernel
theorem dX2_addField_34 : decode cX2_addField 34 = .ok (.iload 4, 2) := by decide +kernel
theorem dX2_addField_36 : decode cX2_addField 36 = .ok (.invokevirtual 203, 3) := by decide +kernel
theorem dX2_addField_39 : decode cX2_addField 39 = .ok (.iconst (-1), 1) := by decide +kernel
theorem dX2_addField_40 : decode cX2_addField 40 = .ok (.if_icmp .eq 12, 3) := by decide +kernel
theorem dX2_addField_43 : decode cX2_addField 43 = .ok (.aload_n 0, 1) := by decide +kernel
theorem dX2_addField_44 : decode cX2_addField 44 = .ok (.getfield 74, 3) := by decide +kernel
theorem dX2_addField_47 : decode cX2_addField 47 = .ok (.iconst 4, 1) := by decide +kernel
theorem dX2_addField_48 : decode cX2_addField 48 = .ok (.iload_n 2, 1) := by decide +kernel
theorem dX2_addField_49 : decode cX2_addField 49 = .ok (.invokevirtual 186, 3) := by decide +kernel
theorem dX2_addField_52 : decode cX2_addField 52 = .ok (.iload_n 1, 1) := by decide +kernel
theorem dX2_addField_53 : decode cX2_addField 53 = .ok (.bipush 12, 2) := by decide +kernel
theorem dX2_addField_55 : decode cX2_addField 55 = .ok (.imul, 1) := by decide +kernel
theorem dX2_addField_56 : decode cX2_addField 56 = .ok (.aload_n 0, 1) := by decide +kernel
theorem dX2_addField_57 : decode cX2_addField 57 = .ok (.getfield 27, 3) := by decide +kernel
theorem dX2_addField_60 : decode cX2_addField 60 = .ok (.iload_n 1, 1) := by decide +kernel
theorem dX2_addField_61 : decode cX2_addField 61 = .ok (.iaload, 1) := by decide +kernel
theorem dX2_addField_62 : decode cX2_addField 62 = .ok (.iadd, 1) := by decide +kernel
theorem dX2_addField_63 : decode cX2_addField 63 = .ok (.istore 5, 2) := by decide +kernel
theorem dX2_addField_65 : decode cX2_addField 65 = .ok (.aload_n 0, 1) := by decide +kernel
theorem dX2_addField_66 : decode cX2_addField 66 = .ok (.getfield 30, 3) := by decide +kernel
theorem dX2_addField_69 : decode cX2_addField 69 = .ok (.iload 5, 2) := by decide +kernel
theorem dX2_addField_71 : decode cX2_addField 71 = .ok (.iload 4, 2) := by decide +kernel
theorem dX2_addField_73 : decode cX2_addField 73 = .ok (.iastore, 1) := by decide +kernel
theorem dX2_addField_74 : decode cX2_addField 74 = .ok (.aload_n 0, 1) := by decide +kernel
theorem dX2_addField_75 : decode cX2_addField 75 = .ok (.getfield 33, 3) := by decide +kernel
theorem dX2_addField_78 : decode cX2_addField 78 = .ok (.iload 5, 2) := by decide +kernel
theorem dX2_addField_80 : decode cX2_addField 80 = .ok (.iload_n 3, 1) := by decide +kernel
theorem dX2_addField_81 : decode cX2_addField 81 = .ok (.iastore, 1) := by decide +kernel
theorem dX2_addField_82 : decode cX2_addField 82 = .ok (.aload_n 0, 1) := by decide +kernel
theorem dX2_addField_83 : decode cX2_addField 83 = .ok (.getfield 27, 3) := by decide +kernel
theorem dX2_addField_86 : decode cX2_addField 86 = .ok (.iload_n 1, 1) := by decide +kernel
theorem dX2_addField_87 : decode cX2_addField 87 = .ok (.dup2, 1) := by decide +kernel
theorem dX2_addField_88 : decode cX2_addField 88 = .ok (.iaload, 1) := by decide +kernel
theorem dX2_addField_89 : decode cX2_addField 89 = .ok (.iconst 1, 1) := by decide +kernel
theorem dX2_addField_90 : decode cX2_addField 90 = .ok (.iadd, 1) := by decide +kernel
theorem dX2_addField_91 : decode cX2_addField 91 = .ok (.iastore, 1) := by decide +kernel
theorem dX2_addField_92 : decode cX2_addField 92 = .ok (.return_, 1) := by decide +kernel
theorem rs_RX2_192 : mx_res RX2 192 = some (1, 65, 0) := by decide +kernel
theorem mt_X2_addParameter : mx_mt 68 = some (yX2_addParameter, cX2_addParameter, 7, none) := rfl
theorem dX2_addParameter_0 : decode cX2_addParameter 0 = .ok (.aload_n 0, 1) := by decide +kernel
theorem dX2_addParameter_1 : decode cX2_addParameter 1 = .ok (.invokevirtual 192, 3) := by decide +kernel
theorem dX2_addParameter_4 : decode cX2_addParameter 4 = .ok (.istore_n 2, 1) := by decide +kernel
theorem dX2_addParameter_5 : decode cX2_addParameter 5 = .ok (.aload_n 0, 1) := by decide +kernel
theorem dX2_addParameter_6 : decode cX2_addParameter 6 = .ok (.getfield 74, 3) := by decide +kernel
theorem dX2_addParameter_9 : decode cX2_addParameter 9 = .ok (.getfield 118, 3) := by decide +kernel
theorem dX2_addParameter_12 : decode cX2_addParameter 12 = .ok (.istore_n 3, 1) := by decide +kernel
theorem dX2_addParameter_13 : decode cX2_addParameter 13 = .ok (.aload_n 0, 1) := by decide +kernel
theorem dX2_addParameter_14 : decode cX2_addParameter 14 = .ok (.getfield 74, 3) := by decide +kernel
theorem dX2_addParameter_17 : decode cX2_addParameter 17 = .ok (.iload_n 3, 1) := by decide +kernel
theorem dX2_addParameter_18 : decode cX2_addParameter 18 = .ok (.invokevirtual 135, 3) := by decide +kernel
theorem dX2_addParameter_21 : decode cX2_addParameter 21 = .ok (.istore 4, 2) := by decide +kernel
theorem dX2_addParameter_23 : decode cX2_addParameter 23 = .ok (.iload_n 1, 1) := by decide +kernel
theorem dX2_addParameter_24 : decode cX2_addParameter 24 = .ok (.bipush 6, 2) := by decide +kernel
theorem dX2_addParameter_26 : decode cX2_addParameter 26 = .ok (.imul, 1) := by decide +kernel
theorem dX2_addParameter_27 : decode cX2_addParameter 27 = .ok (.istore 5, 2) := by decide +kernel
theorem dX2_addParameter_29 : decode cX2_addParameter 29 = .ok (.aload_n 0, 1) := by decide +kernel
theorem dX2_addParameter_30 : decode cX2_addParameter 30 = .ok (.getfield 58, 3) := by decide +kernel
theorem dX2_addParameter_33 : decode cX2_addParameter 33 = .ok (.iload_n 1, 1) := by decide +kernel
theorem dX2_addParameter_34 : decode cX2_addParameter 34 = .ok (.iaload, 1) := by decide +kernel
theorem dX2_addParameter_35 : decode cX2_addParameter 35 = .ok (.bipush 6, 2) := by decide +kernel
theorem dX2_addParameter_37 : decode cX2_addParameter 37 = .ok (.if_icmp .lt 14, 3) := by decide +kernel
theorem dX2_addParameter_40 : decode cX2_addParameter 40 = .ok (.aload_n 0, 1) := by decide +kernel
theorem dX2_addParameter_41 : decode cX2_addParameter 41 = .ok (.getfield 74, 3) := by decide +kernel
theorem dX2_addParameter_44 : decode cX2_addParameter 44 = .ok (.bipush 11, 2) := by decide +kernel
theorem dX2_addParameter_46 : decode cX2_addParameter 46 = .ok (.iload_n 3, 1) := by decide +kernel
theorem dX2_addParameter_47 : decode cX2_addParameter 47 = .ok (.invokevirtual 186, 3) := by decide +kernel
theorem dX2_addParameter_50 : decode cX2_addParameter 50 = .ok (.return_, 1) := by decide +kernel
theorem dX2_addParameter_51 : decode cX2_addParameter 51 = .ok (.iconst 0, 1) := by decide +kernel
theorem dX2_addParameter_52 : decode cX2_addParameter 52 = .ok (.istore 6, 2) := by decide +kernel
theorem dX2_addParameter_54 : decode cX2_addParameter 54 = .ok (.iload 6, 2) := by decide +kernel
theorem dX2_addParameter_56 : decode cX2_addParameter 56 = .ok (.aload_n 0, 1) := by decide +kernel
theorem dX2_addParameter_57 : decode cX2_addParameter 57 = .ok (.getfield 58, 3) := by decide +kernel
theorem dX2_addParameter_60 : decode cX2_addParameter 60 = .ok (.iload_n 1, 1) := by decide +kernel
theorem dX2_addParameter_61 : decode cX2_addParameter 61 = .ok (.iaload, 1) := by decide +kernel
theorem dX2_addParameter_62 : decode cX2_addParameter 62 = .ok (.if_icmp .ge 33, 3) := by decide +kernel
theorem dX2_addParameter_65 : decode cX2_addParameter 65 = .ok (.aload_n 0, 1) := by decide +kernel
theorem dX2_addParameter_66 : decode cX2_addParameter 66 = .ok (.getfield 61, 3) := by decide +kernel
theorem dX2_addParameter_69 : decode cX2_addParameter 69 = .ok (.iload 5, 2) := by decide +kernel
theorem dX2_addParameter_71 : decode cX2_addParameter 71 = .ok (.iload 6, 2) := by decide +kernel
theorem dX2_addParameter_73 : decode cX2_addParameter 73 = .ok (.iadd, 1) := by decide +kernel
theorem dX2_addParameter_74 : decode cX2_addParameter 74 = .ok (.iaload, 1) := by decide +kernel
theorem dX2_addParameter_75 : decode cX2_addParameter 75 = .ok (.iload 4, 2) := by decide +kernel
theorem dX2_addParameter_77 : decode cX2_addParameter 77 = .ok (.if_icmp .ne 12, 3) := by decide +kernel
theorem dX2_addParameter_80 : decode cX2_addParameter 80 = .ok (.aload_n 0, 1) := by decide +kernel
theorem dX2_addParameter_81 : decode cX2_addParameter 81 = .ok (.getfield 74, 3) := by decide +kernel
theorem dX2_addParameter_84 : decode cX2_addParameter 84 = .ok (.iconst 4, 1) := by decide +kernel
theorem dX2_addParameter_85 : decode cX2_addParameter 85 = .ok (.iload_n 3, 1) := by decide +kernel
theorem dX2_addParameter_86 : decode cX2_addParameter 86 = .ok (.invokevirtual 186, 3) := by decide +kernel
theorem dX2_addParameter_89 : decode cX2_addParameter 89 = .ok (.iinc 6 1, 3) := by decide +kernel
theorem dX2_addParameter_92 : decode cX2_addParameter 92 = .ok (.goto (-38), 3) := by decide +kernel
theorem dX2_addParameter_95 : decode cX2_addParameter 95 = .ok (.aload_n 0, 1) := by decide +kernel
theorem dX2_addParameter_96 : decode cX2_addParameter 96 = .ok (.getfield 61, 3) := by decide +kernel
theorem dX2_addParameter_99 : decode cX2_addParameter 99 = .ok (.iload 5, 2) := by decide +kernel
theorem dX2_addParameter_101 : decode cX2_addParameter 101 = .ok (.aload_n 0, 1) := by decide +kernel
theorem dX2_addParameter_102 : decode cX2_addParameter 102 = .ok (.getfield 58, 3) := by decide +kernel
theorem dX2_addParameter_105 : decode cX2_addParameter 105 = .ok (.iload_n 1, 1) := by decide +kernel
theorem dX2_addParameter_106 : decode cX2_addParameter 106 = .ok (.iaload, 1) := by decide +kernel
theorem dX2_addParameter_107 : decode cX2_addParameter 107 = .ok (.iadd, 1) := by decide +kernel
theorem dX2_addParameter_108 : decode cX2_addParameter 108 = .ok (.iload 4, 2) := by decide +kernel
theorem dX2_addParameter_110 : decode cX2_addParameter 110 = .ok (.iastore, 1) := by decide +kernel
theorem dX2_addParameter_111 : decode cX2_addParameter 111 = .ok (.aload_n 0, 1) := by decide +kernel
theorem dX2_addParameter_112 : decode cX2_addParameter 112 = .ok (.getfield 64, 3) := by decide +kernel
theorem dX2_addParameter_115 : decode cX2_addParameter 115 = .ok (.iload 5, 2) := by decide +kernel
theorem dX2_addParameter_117 : decode cX2_addParameter 117 = .ok (.aload_n 0, 1) := by decide +kernel
theorem dX2_addParameter_118 : decode cX2_addParameter 118 = .ok (.getfield 58, 3) := by decide +kernel
theorem dX2_addParameter_121 : decode cX2_addParameter 121 = .ok (.iload_n 1, 1) := by decide +kernel
theorem dX2_addParameter_122 : decode cX2_addParameter 122 = .ok (.iaload, 1) := by decide +kernel
theorem dX2_addParameter_123 : decode cX2_addParameter 123 = .ok (.iadd, 1) := by decide +kernel
theorem dX2_addParameter_124 : decode cX2_addParameter 124 = .ok (.iload_n 2, 1) := by decide +kernel
theorem dX2_addParameter_125 : decode cX2_addParameter 125 = .ok (.iastore, 1) := by decide +kernel
theorem dX2_addParameter_126 : decode cX2_addParameter 126 = .ok (.aload_n 0, 1) := by decide +kernel
theorem dX2_addParameter_127 : decode cX2_addParameter 127 = .ok (.getfield 58, 3) := by decide +kernel
theorem dX2_addParameter_130 : decode cX2_addParameter 130 = .ok (.iload_n 1, 1) := by decide +kernel
theorem dX2_addParameter_131 : decode cX2_addParameter 131 = .ok (.dup2, 1) := by decide +kernel
theorem dX2_addParameter_132 : decode cX2_addParameter 132 = .ok (.iaload, 1) := by decide +kernel
theorem dX2_addParameter_133 : decode cX2_addParameter 133 = .ok (.iconst 1, 1) := by decide +kernel
theorem dX2_addParameter_134 : decode cX2_addParameter 134 = .ok (.iadd, 1) := by decide +kernel
theorem dX2_addParameter_135 : decode cX2_addParameter 135 = .ok (.iastore, 1) := by decide +kernel
theorem dX2_addParameter_136 : decode cX2_addParameter 136 = .ok (.aload_n 0, 1) := by decide +kernel
theorem dX2_addParameter_137 : decode cX2_addParameter 137 = .ok (.getfield 74, 3) := by decide +kernel
theorem dX2_addParameter_140 : decode cX2_addParameter 140 = .ok (.dup, 1) := by decide +kernel
theorem dX2_addParameter_141 : decode cX2_addParameter 141 = .ok (.getfield 118, 3) := by decide +kernel
theorem dX2_addParameter_144 : decode cX2_addParameter 144 = .ok (.iconst 1, 1) := by decide +kernel
theorem dX2_addParameter_145 : decode cX2_addParameter 145 = .ok (.iadd, 1) := by decide +kernel
theorem dX2_addParameter_146 : decode cX2_addParameter 146 = .ok (.putfield 118, 3) := by decide +kernel
theorem dX2_addParameter_149 : decode cX2_addParameter 149 = .ok (.aload_n 0, 1) := by decide +kernel
theorem dX2_addParameter_150 : decode cX2_addParameter 150 = .ok (.getfield 74, 3) := by decide +kernel
theorem dX2_addParameter_153 : decode cX2_addParameter 153 = .ok (.invokevirtual 121, 3) := by decide +kernel
theorem dX2_addParameter_156 : decode cX2_addParameter 156 = .ok (.bipush 47, 2) := by decide +kernel
theorem dX2_addParameter_158 : decode cX2_addParameter 158 = .ok (.if_icmp .ne 16, 3) := by decide +kernel
theorem dX2_addParameter_161 : decode cX2_addParameter 161 = .ok (.aload_n 0, 1) := by decide +kernel
theorem dX2_addParameter_162 : decode cX2_addParameter 162 = .ok (.getfield 74, 3) := by decide +kernel
theorem dX2_addParameter_165 : decode cX2_addParameter 165 = .ok (.dup, 1) := by decide +kernel
theorem dX2_addParameter_166 : decode cX2_addParameter 166 = .ok (.getfield 118, 3) := by decide +kernel
theorem dX2_addParameter_169 : decode cX2_addParameter 169 = .ok (.iconst 1, 1) := by decide +kernel
theorem dX2_addParameter_170 : decode cX2_addParameter 170 = .ok (.iadd, 1) := by decide +kernel
theorem dX2_addParameter_171 : decode cX2_addParameter 171 = .ok (.putfield 118, 3) := by decide +kernel
theorem dX2_addParameter_174 : decode cX2_addParameter 174 = .ok (.return_, 1) := by decide +kernel
theorem mt_X2_skipBlock : mx_mt 69 = some (yX2_skipBlock, cX2_skipBlock, 4, none) := rfl
theorem dX2_skipBlock_0 : decode cX2_skipBlock 0 = .ok (.iconst 0, 1) := by decide +kernel
theorem dX2_skipBlock_1 : decode cX2_skipBlock 1 = .ok (.istore_n 1, 1) := by decide +kernel
theorem dX2_skipBlock_2 : decode cX2_skipBlock 2 = .ok (.iconst 1, 1) := by decide +kernel
theorem dX2_skipBlock_3 : decode cX2_skipBlock 3 = .ok (.istore_n 2, 1) := by decide +kernel
theorem dX2_skipBlock_4 : decode cX2_skipBlock 4 = .ok (.iconst 0, 1) := by decide +kernel
theorem dX2_skipBlock_5 : decode cX2_skipBlock 5 = .ok (.istore_n 3, 1) := by decide +kernel
theorem dX2_skipBlock_6 : decode cX2_skipBlock 6 = .ok (.iload_n 3, 1) := by decide +kernel
theorem dX2_skipBlock_7 : decode cX2_skipBlock 7 = .ok (.sipush 3000, 3) := by decide +kernel
theorem dX2_skipBlock_10 : decode cX2_skipBlock 10 = .ok (.if_icmp .ge 79, 3) := by decide +kernel
theorem dX2_skipBlock_13 : decode cX2_skipBlock 13 = .ok (.iload_n 2, 1) := by decide +kernel
theorem dX2_skipBlock_14 : decode cX2_skipBlock 14 = .ok (.ifCond .eq 75, 3) := by decide +kernel
theorem dX2_skipBlock_17 : decode cX2_skipBlock 17 = .ok (.aload_n 0, 1) := by decide +kernel
theorem dX2_skipBlock_18 : decode cX2_skipBlock 18 = .ok (.getfield 74, 3) := by decide +kernel
theorem dX2_skipBlock_21 : decode cX2_skipBlock 21 = .ok (.invokevirtual 121, 3) := by decide +kernel
theorem dX2_skipBlock_24 : decode cX2_skipBlock 24 = .ok (.ifCond .eq 65, 3) := by decide +kernel
theorem dX2_skipBlock_27 : decode cX2_skipBlock 27 = .ok (.aload_n 0, 1) := by decide +kernel
theorem dX2_skipBlock_28 : decode cX2_skipBlock 28 = .ok (.getfield 74, 3) := by decide +kernel
theorem dX2_skipBlock_31 : decode cX2_skipBlock 31 = .ok (.invokevirtual 121, 3) := by decide +kernel
theorem dX2_skipBlock_34 : decode cX2_skipBlock 34 = .ok (.bipush 42, 2) := by decide +kernel
theorem dX2_skipBlock_36 : decode cX2_skipBlock 36 = .ok (.if_icmp .ne 9, 3) := by decide +kernel
theorem dX2_skipBlock_39 : decode cX2_skipBlock 39 = .ok (.iinc 1 1, 3) := by decide +kernel
theorem dX2_skipBlock_42 : decode cX2_skipBlock 42 = .ok (.goto 18, 3) := by decide +kernel
theorem dX2_skipBlock_45 : decode cX2_skipBlock 45 = .ok (.aload_n 0, 1) := by decide +kernel
theorem dX2_skipBlock_46 : decode cX2_skipBlock 46 = .ok (.getfield 74, 3) := by decide +kernel
theorem dX2_skipBlock_49 : decode cX2_skipBlock 49 = .ok (.invokevirtual 121, 3) := by decide +kernel
theorem dX2_skipBlock_52 : decode cX2_skipBlock 52 = .ok (.bipush 43, 2) := by decide +kernel
theorem dX2_skipBlock_54 : decode cX2_skipBlock 54 = .ok (.if_icmp .ne 6, 3) := by decide +kernel
theorem dX2_skipBlock_57 : decode cX2_skipBlock 57 = .ok (.iinc 1 (-1), 3) := by decide +kernel
theorem dX2_skipBlock_60 : decode cX2_skipBlock 60 = .ok (.aload_n 0, 1) := by decide +kernel
theorem dX2_skipBlock_61 : decode cX2_skipBlock 61 = .ok (.getfield 74, 3) := by decide +kernel
theorem dX2_skipBlock_64 : decode cX2_skipBlock 64 = .ok (.dup, 1) := by decide +kernel
theorem dX2_skipBlock_65 : decode cX2_skipBlock 65 = .ok (.getfield 118, 3) := by decide +kernel
theorem dX2_skipBlock_68 : decode cX2_skipBlock 68 = .ok (.iconst 1, 1) := by decide +kernel
theorem dX2_skipBlock_69 : decode cX2_skipBlock 69 = .ok (.iadd, 1) := by decide +kernel
theorem dX2_skipBlock_70 : decode cX2_skipBlock 70 = .ok (.putfield 118, 3) := by decide +kernel
theorem dX2_skipBlock_73 : decode cX2_skipBlock 73 = .ok (.iload_n 1, 1) := by decide +kernel
theorem dX2_skipBlock_74 : decode cX2_skipBlock 74 = .ok (.ifCond .le 7, 3) := by decide +kernel
theorem dX2_skipBlock_77 : decode cX2_skipBlock 77 = .ok (.iconst 1, 1) := by decide +kernel
theorem dX2_skipBlock_78 : decode cX2_skipBlock 78 = .ok (.goto 4, 3) := by decide +kernel
theorem dX2_skipBlock_81 : decode cX2_skipBlock 81 = .ok (.iconst 0, 1) := by decide +kernel
theorem dX2_skipBlock_82 : decode cX2_skipBlock 82 = .ok (.istore_n 2, 1) := by decide +kernel
theorem dX2_skipBlock_83 : decode cX2_skipBlock 83 = .ok (.iinc 3 1, 3) := by decide +kernel
theorem dX2_skipBlock_86 : decode cX2_skipBlock 86 = .ok (.goto (-80), 3) := by decide +kernel
theorem dX2_skipBlock_89 : decode cX2_skipBlock 89 = .ok (.return_, 1) := by decide +kernel
theorem rs_RX2_209 : mx_res RX2 209 = some (1, 68, 1) := by decide +kernel
theorem rs_RX2_212 : mx_res RX2 212 = some (1, 69, 0) := by decide +kernel
theorem mt_X2_addMethod : mx_mt 67 = some (yX2_addMethod, cX2_addMethod, 7, none) := rfl
theorem dX2_addMethod_0 : decode cX2_addMethod 0 = .ok (.aload_n 0, 1) := by decide +kernel
theorem dX2_addMethod_1 : decode cX2_addMethod 1 = .ok (.getfield 39, 3) := by decide +kernel
theorem dX2_addMethod_4 : decode cX2_addMethod 4 = .ok (.iload_n 1, 1) := by decide +kernel
theorem dX2_addMethod_5 : decode cX2_addMethod 5 = .ok (.iaload, 1) := by decide +kernel
theorem dX2_addMethod_6 : decode cX2_addMethod 6 = .ok (.bipush 12, 2) := by decide +kernel
theorem dX2_addMethod_8 : decode cX2_addMethod 8 = .ok (.if_icmp .lt 14, 3) := by decide +kernel
theorem dX2_addMethod_11 : decode cX2_addMethod 11 = .ok (.aload_n 0, 1) := by decide +kernel
theorem dX2_addMethod_12 : decode cX2_addMethod 12 = .ok (.getfield 74, 3) := by decide +kernel
theorem dX2_addMethod_15 : decode cX2_addMethod 15 = .ok (.bipush 11, 2) := by decide +kernel
theorem dX2_addMethod_17 : decode cX2_addMethod 17 = .ok (.iload_n 2, 1) := by decide +kernel
theorem dX2_addMethod_18 : decode cX2_addMethod 18 = .ok (.invokevirtual 186, 3) := by decide +kernel
theorem dX2_addMethod_21 : decode cX2_addMethod 21 = .ok (.return_, 1) := by decide +kernel
theorem dX2_addMethod_22 : decode cX2_addMethod 22 = .ok (.aload_n 0, 1) := by decide +kernel
theorem dX2_addMethod_23 : decode cX2_addMethod 23 = .ok (.iload_n 1, 1) := by decide +kernel
theorem dX2_addMethod_24 : decode cX2_addMethod 24 = .ok (.aload_n 0, 1) := by decide +kernel
theorem dX2_addMethod_25 : decode cX2_addMethod 25 = .ok (.getfield 74, 3) := by decide +kernel
theorem dX2_addMethod_28 : decode cX2_addMethod 28 = .ok (.iload_n 2, 1) := by decide +kernel
theorem dX2_addMethod_29 : decode cX2_addMethod 29 = .ok (.invokevirtual 135, 3) := by decide +kernel
theorem dX2_addMethod_32 : decode cX2_addMethod 32 = .ok (.invokevirtual 206, 3) := by decide +kernel
theorem dX2_addMethod_35 : decode cX2_addMethod 35 = .ok (.iconst (-1), 1) := by decide +kernel
theorem dX2_addMethod_36 : decode cX2_addMethod 36 = .ok (.if_icmp .eq 12, 3) := by decide +kernel
theorem dX2_addMethod_39 : decode cX2_addMethod 39 = .ok (.aload_n 0, 1) := by decide +kernel
theorem dX2_addMethod_40 : decode cX2_addMethod 40 = .ok (.getfield 74, 3) := by decide +kernel
theorem dX2_addMethod_43 : decode cX2_addMethod 43 = .ok (.iconst 4, 1) := by decide +kernel
theorem dX2_addMethod_44 : decode cX2_addMethod 44 = .ok (.iload_n 2, 1) := by decide +kernel
theorem dX2_addMethod_45 : decode cX2_addMethod 45 = .ok (.invokevirtual 186, 3) := by decide +kernel
theorem dX2_addMethod_48 : decode cX2_addMethod 48 = .ok (.iload_n 1, 1) := by decide +kernel
theorem dX2_addMethod_49 : decode cX2_addMethod 49 = .ok (.bipush 12, 2) := by decide +kernel
theorem dX2_addMethod_51 : decode cX2_addMethod 51 = .ok (.imul, 1) := by decide +kernel
theorem dX2_addMethod_52 : decode cX2_addMethod 52 = .ok (.aload_n 0, 1) := by decide +kernel
theorem dX2_addMethod_53 : decode cX2_addMethod 53 = .ok (.getfield 39, 3) := by decide +kernel
theorem dX2_addMethod_56 : decode cX2_addMethod 56 = .ok (.iload_n 1, 1) := by decide +kernel
theorem dX2_addMethod_57 : decode cX2_addMethod 57 = .ok (.iaload, 1) := by decide +kernel
theorem dX2_addMethod_58 : decode cX2_addMethod 58 = .ok (.iadd, 1) := by decide +kernel
theorem dX2_addMethod_59 : decode cX2_addMethod 59 = .ok (.istore 5, 2) := by decide +kernel
theorem dX2_addMethod_61 : decode cX2_addMethod 61 = .ok (.aload_n 0, 1) := by decide +kernel
theorem dX2_addMethod_62 : decode cX2_addMethod 62 = .ok (.getfield 42, 3) := by decide +kernel
theorem dX2_addMethod_65 : decode cX2_addMethod 65 = .ok (.iload 5, 2) := by decide +kernel
theorem dX2_addMethod_67 : decode cX2_addMethod 67 = .ok (.iload_n 2, 1) := by decide +kernel
theorem dX2_addMethod_68 : decode cX2_addMethod 68 = .ok (.iastore, 1) := by decide +kernel
theorem dX2_addMethod_69 : decode cX2_addMethod 69 = .ok (.aload_n 0, 1) := by decide +kernel
theorem dX2_addMethod_70 : decode cX2_addMethod 70 = .ok (.getfield 48, 3) := by decide +kernel
theorem dX2_addMethod_73 : decode cX2_addMethod 73 = .ok (.iload 5, 2) := by decide +kernel
theorem dX2_addMethod_75 : decode cX2_addMethod 75 = .ok (.iload_n 3, 1) := by decide +kernel
theorem dX2_addMethod_76 : decode cX2_addMethod 76 = .ok (.iastore, 1) := by decide +kernel
theorem dX2_addMethod_77 : decode cX2_addMethod 77 = .ok (.aload_n 0, 1) := by decide +kernel
theorem dX2_addMethod_78 : decode cX2_addMethod 78 = .ok (.getfield 51, 3) := by decide +kernel
theorem dX2_addMethod_81 : decode cX2_addMethod 81 = .ok (.iload 5, 2) := by decide +kernel
theorem dX2_addMethod_83 : decode cX2_addMethod 83 = .ok (.iload 4, 2) := by decide +kernel
theorem dX2_addMethod_85 : decode cX2_addMethod 85 = .ok (.bastore, 1) := by decide +kernel
theorem dX2_addMethod_86 : decode cX2_addMethod 86 = .ok (.aload_n 0, 1) := by decide +kernel
theorem dX2_addMethod_87 : decode cX2_addMethod 87 = .ok (.getfield 58, 3) := by decide +kernel
theorem dX2_addMethod_90 : decode cX2_addMethod 90 = .ok (.iload 5, 2) := by decide +kernel
theorem dX2_addMethod_92 : decode cX2_addMethod 92 = .ok (.iconst 0, 1) := by decide +kernel
theorem dX2_addMethod_93 : decode cX2_addMethod 93 = .ok (.iastore, 1) := by decide +kernel
theorem dX2_addMethod_94 : decode cX2_addMethod 94 = .ok (.aload_n 0, 1) := by decide +kernel
theorem dX2_addMethod_95 : decode cX2_addMethod 95 = .ok (.getfield 39, 3) := by decide +kernel
theorem dX2_addMethod_98 : decode cX2_addMethod 98 = .ok (.iload_n 1, 1) := by decide +kernel
theorem dX2_addMethod_99 : decode cX2_addMethod 99 = .ok (.dup2, 1) := by decide +kernel
theorem dX2_addMethod_100 : decode cX2_addMethod 100 = .ok (.iaload, 1) := by decide +kernel
theorem dX2_addMethod_101 : decode cX2_addMethod 101 = .ok (.iconst 1, 1) := by decide +kernel
theorem dX2_addMethod_102 : decode cX2_addMethod 102 = .ok (.iadd, 1) := by decide +kernel
theorem dX2_addMethod_103 : decode cX2_addMethod 103 = .ok (.iastore, 1) := by decide +kernel
theorem dX2_addMethod_104 : decode cX2_addMethod 104 = .ok (.aload_n 0, 1) := by decide +kernel
theorem dX2_addMethod_105 : decode cX2_addMethod 105 = .ok (.getfield 74, 3) := by decide +kernel
theorem dX2_addMethod_108 : decode cX2_addMethod 108 = .ok (.dup, 1) := by decide +kernel
theorem dX2_addMethod_109 : decode cX2_addMethod 109 = .ok (.getfield 118, 3) := by decide +kernel
theorem dX2_addMethod_112 : decode cX2_addMethod 112 = .ok (.iconst 1, 1) := by decide +kernel
theorem dX2_addMethod_113 : decode cX2_addMethod 113 = .ok (.iadd, 1) := by decide +kernel
theorem dX2_addMethod_114 : decode cX2_addMethod 114 = .ok (.putfield 118, 3) := by decide +kernel
theorem dX2_addMethod_117 : decode cX2_addMethod 117 = .ok (.iconst 0, 1) := by decide +kernel
theorem dX2_addMethod_118 : decode cX2_addMethod 118 = .ok (.istore 6, 2) := by decide +kernel
theorem dX2_addMethod_120 : decode cX2_addMethod 120 = .ok (.iload 6, 2) := by decide +kernel
theorem dX2_addMethod_122 : decode cX2_addMethod 122 = .ok (.sipush 3000, 3) := by decide +kernel
theorem dX2_addMethod_125 : decode cX2_addMethod 125 = .ok (.if_icmp .ge 37, 3) := by decide +kernel
theorem dX2_addMethod_128 : decode cX2_addMethod 128 = .ok (.aload_n 0, 1) := by decide +kernel
theorem dX2_addMethod_129 : decode cX2_addMethod 129 = .ok (.getfield 74, 3) := by decide +kernel
theorem dX2_addMethod_132 : decode cX2_addMethod 132 = .ok (.getfield 91, 3) := by decide +kernel
theorem dX2_addMethod_135 : decode cX2_addMethod 135 = .ok (.ifCond .ne 27, 3) := by decide +kernel
theorem dX2_addMethod_138 : decode cX2_addMethod 138 = .ok (.aload_n 0, 1) := by decide +kernel
theorem dX2_addMethod_139 : decode cX2_addMethod 139 = .ok (.getfield 74, 3) := by decide +kernel
theorem dX2_addMethod_142 : decode cX2_addMethod 142 = .ok (.invokevirtual 121, 3) := by decide +kernel
theorem dX2_addMethod_145 : decode cX2_addMethod 145 = .ok (.bipush 41, 2) := by decide +kernel
theorem dX2_addMethod_147 : decode cX2_addMethod 147 = .ok (.if_icmp .eq 15, 3) := by decide +kernel
theorem dX2_addMethod_150 : decode cX2_addMethod 150 = .ok (.aload_n 0, 1) := by decide +kernel
theorem dX2_addMethod_151 : decode cX2_addMethod 151 = .ok (.iload 5, 2) := by decide +kernel
theorem dX2_addMethod_153 : decode cX2_addMethod 153 = .ok (.invokevirtual 209, 3) := by decide +kernel
theorem dX2_addMethod_156 : decode cX2_addMethod 156 = .ok (.iinc 6 1, 3) := by decide +kernel
theorem dX2_addMethod_159 : decode cX2_addMethod 159 = .ok (.goto (-39), 3) := by decide +kernel
theorem dX2_addMethod_162 : decode cX2_addMethod 162 = .ok (.aload_n 0, 1) := by decide +kernel
theorem dX2_addMethod_163 : decode cX2_addMethod 163 = .ok (.getfield 74, 3) := by decide +kernel
theorem dX2_addMethod_166 : decode cX2_addMethod 166 = .ok (.dup, 1) := by decide +kernel
theorem dX2_addMethod_167 : decode cX2_addMethod 167 = .ok (.getfield 118, 3) := by decide +kernel
theorem dX2_addMethod_170 : decode cX2_addMethod 170 = .ok (.iconst 1, 1) := by decide +kernel
theorem dX2_addMethod_171 : decode cX2_addMethod 171 = .ok (.iadd, 1) := by decide +kernel
theorem dX2_addMethod_172 : decode cX2_addMethod 172 = .ok (.putfield 118, 3) := by decide +kernel
theorem dX2_addMethod_175 : decode cX2_addMethod 175 = .ok (.aload_n 0, 1) := by decide +kernel
theorem dX2_addMethod_176 : decode cX2_addMethod 176 = .ok (.getfield 45, 3) := by decide +kernel
theorem dX2_addMethod_179 : decode cX2_addMethod 179 = .ok (.iload 5, 2) := by decide +kernel
theorem dX2_addMethod_181 : decode cX2_addMethod 181 = .ok (.aload_n 0, 1) := by decide +kernel
theorem dX2_addMethod_182 : decode cX2_addMethod 182 = .ok (.getfield 74, 3) := by decide +kernel
theorem dX2_addMethod_185 : decode cX2_addMethod 185 = .ok (.getfield 118, 3) := by decide +kernel
theorem dX2_addMethod_188 : decode cX2_addMethod 188 = .ok (.iastore, 1) := by decide +kernel
theorem dX2_addMethod_189 : decode cX2_addMethod 189 = .ok (.aload_n 0, 1) := by decide +kernel
theorem dX2_addMethod_190 : decode cX2_addMethod 190 = .ok (.invokevirtual 212, 3) := by decide +kernel
theorem dX2_addMethod_193 : decode cX2_addMethod 193 = .ok (.return_, 1) := by decide +kernel
theorem rs_RX2_195 : mx_res RX2 195 = some (1, 66, 3) := by decide +kernel
theorem rs_RX2_199 : mx_res RX2 199 = some (1, 67, 4) := by decide +kernel
theorem mt_X2_readMember : mx_mt 64 = some (yX2_readMember, cX2_readMember, 5, none) := rfl
theorem dX2_readMember_0 : decode cX2_readMember 0 = .ok (.aload_n 0, 1) := by decide +kernel
theorem dX2_readMember_1 : decode cX2_readMember 1 = .ok (.getfield 74, 3) := by decide +kernel
theorem dX2_readMember_4 : decode cX2_readMember 4 = .ok (.invokevirtual 121, 3) := by decide +kernel
theorem dX2_readMember_7 : decode cX2_readMember 7 = .ok (.bipush 25, 2) := by decide +kernel
theorem dX2_readMember_9 : decode cX2_readMember 9 = .ok (.if_icmp .ne 7, 3) := by decide +kernel
theorem dX2_readMember_12 : decode cX2_readMember 12 = .ok (.iconst 1, 1) := by decide +kernel
theorem dX2_readMember_13 : decode cX2_readMember 13 = .ok (.goto 4, 3) := by decide +kernel
theorem dX2_readMember_16 : decode cX2_readMember 16 = .ok (.iconst 0, 1) := by decide +kernel
theorem dX2_readMember_17 : decode cX2_readMember 17 = .ok (.istore_n 2, 1) := by decide +kernel
theorem dX2_readMember_18 : decode cX2_readMember 18 = .ok (.iload_n 2, 1) := by decide +kernel
theorem dX2_readMember_19 : decode cX2_readMember 19 = .ok (.ifCond .eq 16, 3) := by decide +kernel
theorem dX2_readMember_22 : decode cX2_readMember 22 = .ok (.aload_n 0, 1) := by decide +kernel
theorem dX2_readMember_23 : decode cX2_readMember 23 = .ok (.getfield 74, 3) := by decide +kernel
theorem dX2_readMember_26 : decode cX2_readMember 26 = .ok (.dup, 1) := by decide +kernel
theorem dX2_readMember_27 : decode cX2_readMember 27 = .ok (.getfield 118, 3) := by decide +kernel
theorem dX2_readMember_30 : decode cX2_readMember 30 = .ok (.iconst 1, 1) := by decide +kernel
theorem dX2_readMember_31 : decode cX2_readMember 31 = .ok (.iadd, 1) := by decide +kernel
theorem dX2_readMember_32 : decode cX2_readMember 32 = .ok (.putfield 118, 3) := by decide +kernel
theorem dX2_readMember_35 : decode cX2_readMember 35 = .ok (.sipush 303, 3) := by decide +kernel
theorem dX2_readMember_38 : decode cX2_readMember 38 = .ok (.istore_n 3, 1) := by decide +kernel
theorem dX2_readMember_39 : decode cX2_readMember 39 = .ok (.aload_n 0, 1) := by decide +kernel
theorem dX2_readMember_40 : decode cX2_readMember 40 = .ok (.getfield 74, 3) := by decide +kernel
theorem dX2_readMember_43 : decode cX2_readMember 43 = .ok (.invokevirtual 121, 3) := by decide +kernel
theorem dX2_readMember_46 : decode cX2_readMember 46 = .ok (.bipush 30, 2) := by decide +kernel
theorem dX2_readMember_48 : decode cX2_readMember 48 = .ok (.if_icmp .ne 19, 3) := by decide +kernel
theorem dX2_readMember_51 : decode cX2_readMember 51 = .ok (.aload_n 0, 1) := by decide +kernel
theorem dX2_readMember_52 : decode cX2_readMember 52 = .ok (.getfield 74, 3) := by decide +kernel
theorem dX2_readMember_55 : decode cX2_readMember 55 = .ok (.dup, 1) := by decide +kernel
theorem dX2_readMember_56 : decode cX2_readMember 56 = .ok (.getfield 118, 3) := by decide +kernel
theorem dX2_readMember_59 : decode cX2_readMember 59 = .ok (.iconst 1, 1) := by decide +kernel
theorem dX2_readMember_60 : decode cX2_readMember 60 = .ok (.iadd, 1) := by decide +kernel
theorem dX2_readMember_61 : decode cX2_readMember 61 = .ok (.putfield 118, 3) := by decide +kernel
theorem dX2_readMember_64 : decode cX2_readMember 64 = .ok (.goto 8, 3) := by decide +kernel
theorem dX2_readMember_67 : decode cX2_readMember 67 = .ok (.aload_n 0, 1) := by decide +kernel
theorem dX2_readMember_68 : decode cX2_readMember 68 = .ok (.invokevirtual 192, 3) := by decide +kernel
theorem dX2_readMember_71 : decode cX2_readMember 71 = .ok (.istore_n 3, 1) := by decide +kernel
theorem dX2_readMember_72 : decode cX2_readMember 72 = .ok (.aload_n 0, 1) := by decide +kernel
theorem dX2_readMember_73 : decode cX2_readMember 73 = .ok (.getfield 74, 3) := by decide +kernel
theorem dX2_readMember_76 : decode cX2_readMember 76 = .ok (.getfield 118, 3) := by decide +kernel
theorem dX2_readMember_79 : decode cX2_readMember 79 = .ok (.istore 4, 2) := by decide +kernel
theorem dX2_readMember_81 : decode cX2_readMember 81 = .ok (.aload_n 0, 1) := by decide +kernel
theorem dX2_readMember_82 : decode cX2_readMember 82 = .ok (.getfield 74, 3) := by decide +kernel
theorem dX2_readMember_85 : decode cX2_readMember 85 = .ok (.dup, 1) := by decide +kernel
theorem dX2_readMember_86 : decode cX2_readMember 86 = .ok (.getfield 118, 3) := by decide +kernel
theorem dX2_readMember_89 : decode cX2_readMember 89 = .ok (.iconst 1, 1) := by decide +kernel
theorem dX2_readMember_90 : decode cX2_readMember 90 = .ok (.iadd, 1) := by decide +kernel
theorem dX2_readMember_91 : decode cX2_readMember 91 = .ok (.putfield 118, 3) := by decide +kernel
theorem dX2_readMember_94 : decode cX2_readMember 94 = .ok (.aload_n 0, 1) := by decide +kernel
theorem dX2_readMember_95 : decode cX2_readMember 95 = .ok (.getfield 74, 3) := by decide +kernel
theorem dX2_readMember_98 : decode cX2_readMember 98 = .ok (.invokevirtual 121, 3) := by decide +kernel
theorem dX2_readMember_101 : decode cX2_readMember 101 = .ok (.bipush 46, 2) := by decide +kernel
theorem dX2_readMember_103 : decode cX2_readMember 103 = .ok (.if_icmp .ne 27, 3) := by decide +kernel
theorem dX2_readMember_106 : decode cX2_readMember 106 = .ok (.aload_n 0, 1) := by decide +kernel
theorem dX2_readMember_107 : decode cX2_readMember 107 = .ok (.getfield 74, 3) := by decide +kernel
theorem dX2_readMember_110 : decode cX2_readMember 110 = .ok (.dup, 1) := by decide +kernel
theorem dX2_readMember_111 : decode cX2_readMember 111 = .ok (.getfield 118, 3) := by decide +kernel
theorem dX2_readMember_114 : decode cX2_readMember 114 = .ok (.iconst 1, 1) := by decide +kernel
theorem dX2_readMember_115 : decode cX2_readMember 115 = .ok (.iadd, 1) := by decide +kernel
theorem dX2_readMember_116 : decode cX2_readMember 116 = .ok (.putfield 118, 3) := by decide +kernel
theorem dX2_readMember_119 : decode cX2_readMember 119 = .ok (.aload_n 0, 1) := by decide +kernel
theorem dX2_readMember_120 : decode cX2_readMember 120 = .ok (.iload_n 1, 1) := by decide +kernel
theorem dX2_readMember_121 : decode cX2_readMember 121 = .ok (.iload 4, 2) := by decide +kernel
theorem dX2_readMember_123 : decode cX2_readMember 123 = .ok (.iload_n 3, 1) := by decide +kernel
theorem dX2_readMember_124 : decode cX2_readMember 124 = .ok (.invokevirtual 195, 3) := by decide +kernel
theorem dX2_readMember_127 : decode cX2_readMember 127 = .ok (.goto 22, 3) := by decide +kernel
theorem dX2_readMember_130 : decode cX2_readMember 130 = .ok (.aload_n 0, 1) := by decide +kernel
theorem dX2_readMember_131 : decode cX2_readMember 131 = .ok (.getfield 74, 3) := by decide +kernel
theorem dX2_readMember_134 : decode cX2_readMember 134 = .ok (.getfield 91, 3) := by decide +kernel
theorem dX2_readMember_137 : decode cX2_readMember 137 = .ok (.ifCond .ne 12, 3) := by decide +kernel
theorem dX2_readMember_140 : decode cX2_readMember 140 = .ok (.aload_n 0, 1) := by decide +kernel
theorem dX2_readMember_141 : decode cX2_readMember 141 = .ok (.iload_n 1, 1) := by decide +kernel
theorem dX2_readMember_142 : decode cX2_readMember 142 = .ok (.iload 4, 2) := by decide +kernel
theorem dX2_readMember_144 : decode cX2_readMember 144 = .ok (.iload_n 3, 1) := by decide +kernel
theorem dX2_readMember_145 : decode cX2_readMember 145 = .ok (.iload_n 2, 1) := by decide +kernel
theorem dX2_readMember_146 : decode cX2_readMember 146 = .ok (.invokevirtual 199, 3) := by decide +kernel
theorem dX2_readMember_149 : decode cX2_readMember 149 = .ok (.return_, 1) := by decide +kernel
theorem rs_RX2_125 : mx_res RX2 125 = some (1, 64, 1) := by decide +kernel
theorem mt_X2_readMembers : mx_mt 50 = some (yX2_readMembers, cX2_readMembers, 4, none) := rfl
theorem dX2_readMembers_0 : decode cX2_readMembers 0 = .ok (.iconst 0, 1) := by decide +kernel
theorem dX2_readMembers_1 : decode cX2_readMembers 1 = .ok (.istore_n 1, 1) := by decide +kernel
theorem dX2_readMembers_2 : decode cX2_readMembers 2 = .ok (.iload_n 1, 1) := by decide +kernel
theorem dX2_readMembers_3 : decode cX2_readMembers 3 = .ok (.aload_n 0, 1) := by decide +kernel
theorem dX2_readMembers_4 : decode cX2_readMembers 4 = .ok (.getfield 78, 3) := by decide +kernel
theorem dX2_readMembers_7 : decode cX2_readMembers 7 = .ok (.if_icmp .ge 96, 3) := by decide +kernel
theorem dX2_readMembers_10 : decode cX2_readMembers 10 = .ok (.aload_n 0, 1) := by decide +kernel
theorem dX2_readMembers_11 : decode cX2_readMembers 11 = .ok (.getfield 74, 3) := by decide +kernel
theorem dX2_readMembers_14 : decode cX2_readMembers 14 = .ok (.getfield 91, 3) := by decide +kernel
theorem dX2_readMembers_17 : decode cX2_readMembers 17 = .ok (.ifCond .ne 86, 3) := by decide +kernel
theorem dX2_readMembers_20 : decode cX2_readMembers 20 = .ok (.aload_n 0, 1) := by decide +kernel
theorem dX2_readMembers_21 : decode cX2_readMembers 21 = .ok (.iload_n 1, 1) := by decide +kernel
theorem dX2_readMembers_22 : decode cX2_readMembers 22 = .ok (.invokevirtual 112, 3) := by decide +kernel
theorem dX2_readMembers_25 : decode cX2_readMembers 25 = .ok (.istore_n 2, 1) := by decide +kernel
theorem dX2_readMembers_26 : decode cX2_readMembers 26 = .ok (.aload_n 0, 1) := by decide +kernel
theorem dX2_readMembers_27 : decode cX2_readMembers 27 = .ok (.getfield 74, 3) := by decide +kernel
theorem dX2_readMembers_30 : decode cX2_readMembers 30 = .ok (.iload_n 2, 1) := by decide +kernel
theorem dX2_readMembers_31 : decode cX2_readMembers 31 = .ok (.aload_n 0, 1) := by decide +kernel
theorem dX2_readMembers_32 : decode cX2_readMembers 32 = .ok (.getfield 74, 3) := by decide +kernel
theorem dX2_readMembers_35 : decode cX2_readMembers 35 = .ok (.iload_n 2, 1) := by decide +kernel
theorem dX2_readMembers_36 : decode cX2_readMembers 36 = .ok (.iconst 1, 1) := by decide +kernel
theorem dX2_readMembers_37 : decode cX2_readMembers 37 = .ok (.iadd, 1) := by decide +kernel
theorem dX2_readMembers_38 : decode cX2_readMembers 38 = .ok (.invokevirtual 115, 3) := by decide +kernel
theorem dX2_readMembers_41 : decode cX2_readMembers 41 = .ok (.bipush 16, 2) := by decide +kernel
theorem dX2_readMembers_43 : decode cX2_readMembers 43 = .ok (.if_icmp .ne 7, 3) := by decide +kernel
theorem dX2_readMembers_46 : decode cX2_readMembers 46 = .ok (.iconst 4, 1) := by decide +kernel
theorem dX2_readMembers_47 : decode cX2_readMembers 47 = .ok (.goto 4, 3) := by decide +kernel
theorem dX2_readMembers_50 : decode cX2_readMembers 50 = .ok (.iconst 2, 1) := by decide +kernel
theorem dX2_readMembers_51 : decode cX2_readMembers 51 = .ok (.iadd, 1) := by decide +kernel
theorem dX2_readMembers_52 : decode cX2_readMembers 52 = .ok (.putfield 118, 3) := by decide +kernel
theorem dX2_readMembers_55 : decode cX2_readMembers 55 = .ok (.iconst 0, 1) := by decide +kernel
theorem dX2_readMembers_56 : decode cX2_readMembers 56 = .ok (.istore_n 3, 1) := by decide +kernel
theorem dX2_readMembers_57 : decode cX2_readMembers 57 = .ok (.iload_n 3, 1) := by decide +kernel
theorem dX2_readMembers_58 : decode cX2_readMembers 58 = .ok (.sipush 3000, 3) := by decide +kernel
theorem dX2_readMembers_61 : decode cX2_readMembers 61 = .ok (.if_icmp .ge 36, 3) := by decide +kernel
theorem dX2_readMembers_64 : decode cX2_readMembers 64 = .ok (.aload_n 0, 1) := by decide +kernel
theorem dX2_readMembers_65 : decode cX2_readMembers 65 = .ok (.getfield 74, 3) := by decide +kernel
theorem dX2_readMembers_68 : decode cX2_readMembers 68 = .ok (.getfield 91, 3) := by decide +kernel
theorem dX2_readMembers_71 : decode cX2_readMembers 71 = .ok (.ifCond .ne 26, 3) := by decide +kernel
theorem dX2_readMembers_74 : decode cX2_readMembers 74 = .ok (.aload_n 0, 1) := by decide +kernel
theorem dX2_readMembers_75 : decode cX2_readMembers 75 = .ok (.getfield 74, 3) := by decide +kernel
theorem dX2_readMembers_78 : decode cX2_readMembers 78 = .ok (.invokevirtual 121, 3) := by decide +kernel
theorem dX2_readMembers_81 : decode cX2_readMembers 81 = .ok (.bipush 43, 2) := by decide +kernel
theorem dX2_readMembers_83 : decode cX2_readMembers 83 = .ok (.if_icmp .eq 14, 3) := by decide +kernel
theorem dX2_readMembers_86 : decode cX2_readMembers 86 = .ok (.aload_n 0, 1) := by decide +kernel
theorem dX2_readMembers_87 : decode cX2_readMembers 87 = .ok (.iload_n 1, 1) := by decide +kernel
theorem dX2_readMembers_88 : decode cX2_readMembers 88 = .ok (.invokevirtual 125, 3) := by decide +kernel
theorem dX2_readMembers_91 : decode cX2_readMembers 91 = .ok (.iinc 3 1, 3) := by decide +kernel
theorem dX2_readMembers_94 : decode cX2_readMembers 94 = .ok (.goto (-37), 3) := by decide +kernel
theorem dX2_readMembers_97 : decode cX2_readMembers 97 = .ok (.iinc 1 1, 3) := by decide +kernel
theorem dX2_readMembers_100 : decode cX2_readMembers 100 = .ok (.goto (-98), 3) := by decide +kernel
theorem dX2_readMembers_103 : decode cX2_readMembers 103 = .ok (.return_, 1) := by decide +kernel
theorem mt_X2_addClass : mx_mt 48 = some (yX2_addClass, cX2_addClass, 2, none) := rfl
theorem dX2_addClass_0 : decode cX2_addClass 0 = .ok (.aload_n 0, 1) := by decide +kernel
theorem dX2_addClass_1 : decode cX2_addClass 1 = .ok (.getfield 78, 3) := by decide +kernel
theorem dX2_addClass_4 : decode cX2_addClass 4 = .ok (.aload_n 0, 1) := by decide +kernel
theorem dX2_addClass_5 : decode cX2_addClass 5 = .ok (.getfield 20, 3) := by decide +kernel
theorem dX2_addClass_8 : decode cX2_addClass 8 = .ok (.arraylength, 1) := by decide +kernel
theorem dX2_addClass_9 : decode cX2_addClass 9 = .ok (.if_icmp .ge 23, 3) := by decide +kernel
theorem dX2_addClass_12 : decode cX2_addClass 12 = .ok (.aload_n 0, 1) := by decide +kernel
theorem dX2_addClass_13 : decode cX2_addClass 13 = .ok (.getfield 20, 3) := by decide +kernel
theorem dX2_addClass_16 : decode cX2_addClass 16 = .ok (.aload_n 0, 1) := by decide +kernel
theorem dX2_addClass_17 : decode cX2_addClass 17 = .ok (.getfield 78, 3) := by decide +kernel
theorem dX2_addClass_20 : decode cX2_addClass 20 = .ok (.iload_n 1, 1) := by decide +kernel
theorem dX2_addClass_21 : decode cX2_addClass 21 = .ok (.iastore, 1) := by decide +kernel
theorem dX2_addClass_22 : decode cX2_addClass 22 = .ok (.aload_n 0, 1) := by decide +kernel
theorem dX2_addClass_23 : decode cX2_addClass 23 = .ok (.dup, 1) := by decide +kernel
theorem dX2_addClass_24 : decode cX2_addClass 24 = .ok (.getfield 78, 3) := by decide +kernel
theorem dX2_addClass_27 : decode cX2_addClass 27 = .ok (.iconst 1, 1) := by decide +kernel
theorem dX2_addClass_28 : decode cX2_addClass 28 = .ok (.iadd, 1) := by decide +kernel
theorem dX2_addClass_29 : decode cX2_addClass 29 = .ok (.putfield 78, 3) := by decide +kernel
theorem dX2_addClass_32 : decode cX2_addClass 32 = .ok (.return_, 1) := by decide +kernel
theorem rs_RX8_7 : mx_res RX8 7 = some (0, 8, 0) := by decide +kernel
theorem rs_RX8_23 : mx_res RX8 23 = some (1, 249, 0) := by decide +kernel
theorem rs_RX8_30 : mx_res RX8 30 = some (0, 9, 10) := by decide +kernel
theorem mt_X8_accept : mx_mt 222 = some (yX8_accept, cX8_accept, 2, (some .boolean)) := rfl
theorem dX8_accept_0 : decode cX8_accept 0 = .ok (.aload_n 0, 1) := by decide +kernel
theorem dX8_accept_1 : decode cX8_accept 1 = .ok (.getfield 7, 3) := by decide +kernel
theorem dX8_accept_4 : decode cX8_accept 4 = .ok (.invokevirtual 23, 3) := by decide +kernel
theorem dX8_accept_7 : decode cX8_accept 7 = .ok (.iload_n 1, 1) := by decide +kernel
theorem dX8_accept_8 : decode cX8_accept 8 = .ok (.if_icmp .eq 5, 3) := by decide +kernel
theorem dX8_accept_11 : decode cX8_accept 11 = .ok (.iconst 0, 1) := by decide +kernel
theorem dX8_accept_12 : decode cX8_accept 12 = .ok (.ireturn, 1) := by decide +kernel
theorem dX8_accept_13 : decode cX8_accept 13 = .ok (.aload_n 0, 1) := by decide +kernel
theorem dX8_accept_14 : decode cX8_accept 14 = .ok (.getfield 7, 3) := by decide +kernel
theorem dX8_accept_17 : decode cX8_accept 17 = .ok (.dup, 1) := by decide +kernel
theorem dX8_accept_18 : decode cX8_accept 18 = .ok (.getfield 30, 3) := by decide +kernel
theorem dX8_accept_21 : decode cX8_accept 21 = .ok (.iconst 1, 1) := by decide +kernel
theorem dX8_accept_22 : decode cX8_accept 22 = .ok (.iadd, 1) := by decide +kernel
theorem dX8_accept_23 : decode cX8_accept 23 = .ok (.putfield 30, 3) := by decide +kernel
theorem dX8_accept_26 : decode cX8_accept 26 = .ok (.iconst 1, 1) := by decide +kernel
theorem dX8_accept_27 : decode cX8_accept 27 = .ok (.ireturn, 1) := by decide +kernel
theorem mt_X9_tellHere : mx_mt 246 = some (yX9_tellHere, cX9_tellHere, 2, none) := rfl
theorem dX9_tellHere_0 : decode cX9_tellHere 0 = .ok (.aload_n 0, 1) := by decide +kernel
theorem dX9_tellHere_1 : decode cX9_tellHere 1 = .ok (.getfield 80, 3) := by decide +kernel
theorem dX9_tellHere_4 : decode cX9_tellHere 4 = .ok (.ifCond .ne 56, 3) := by decide +kernel
theorem dX9_tellHere_7 : decode cX9_tellHere 7 = .ok (.aload_n 0, 1) := by decide +kernel
theorem dX9_tellHere_8 : decode cX9_tellHere 8 = .ok (.getfield 86, 3) := by decide +kernel
theorem dX9_tellHere_11 : decode cX9_tellHere 11 = .ok (.ifCond .lt 49, 3) := by decide +kernel
theorem dX9_tellHere_14 : decode cX9_tellHere 14 = .ok (.aload_n 0, 1) := by decide +kernel
theorem dX9_tellHere_15 : decode cX9_tellHere 15 = .ok (.getfield 86, 3) := by decide +kernel
theorem dX9_tellHere_18 : decode cX9_tellHere 18 = .ok (.aload_n 0, 1) := by decide +kernel
theorem dX9_tellHere_19 : decode cX9_tellHere 19 = .ok (.getfield 83, 3) := by decide +kernel
theorem dX9_tellHere_22 : decode cX9_tellHere 22 = .ok (.if_icmp .ge 38, 3) := by decide +kernel
theorem dX9_tellHere_25 : decode cX9_tellHere 25 = .ok (.aload_n 0, 1) := by decide +kernel
theorem dX9_tellHere_26 : decode cX9_tellHere 26 = .ok (.aload_n 0, 1) := by decide +kernel
theorem dX9_tellHere_27 : decode cX9_tellHere 27 = .ok (.getfield 15, 3) := by decide +kernel
theorem dX9_tellHere_30 : decode cX9_tellHere 30 = .ok (.aload_n 0, 1) := by decide +kernel
theorem dX9_tellHere_31 : decode cX9_tellHere 31 = .ok (.getfield 86, 3) := by decide +kernel
theorem dX9_tellHere_34 : decode cX9_tellHere 34 = .ok (.iaload, 1) := by decide +kernel
theorem dX9_tellHere_35 : decode cX9_tellHere 35 = .ok (.iconst 1, 1) := by decide +kernel
theorem dX9_tellHere_36 : decode cX9_tellHere 36 = .ok (.if_icmp .ne 7, 3) := by decide +kernel
theorem dX9_tellHere_39 : decode cX9_tellHere 39 = .ok (.iconst 1, 1) := by decide +kernel
theorem dX9_tellHere_40 : decode cX9_tellHere 40 = .ok (.goto 4, 3) := by decide +kernel
theorem dX9_tellHere_43 : decode cX9_tellHere 43 = .ok (.iload_n 1, 1) := by decide +kernel
theorem dX9_tellHere_44 : decode cX9_tellHere 44 = .ok (.putfield 80, 3) := by decide +kernel
theorem dX9_tellHere_47 : decode cX9_tellHere 47 = .ok (.aload_n 0, 1) := by decide +kernel
theorem dX9_tellHere_48 : decode cX9_tellHere 48 = .ok (.aload_n 0, 1) := by decide +kernel
theorem dX9_tellHere_49 : decode cX9_tellHere 49 = .ok (.getfield 19, 3) := by decide +kernel
theorem dX9_tellHere_52 : decode cX9_tellHere 52 = .ok (.aload_n 0, 1) := by decide +kernel
theorem dX9_tellHere_53 : decode cX9_tellHere 53 = .ok (.getfield 86, 3) := by decide +kernel
theorem dX9_tellHere_56 : decode cX9_tellHere 56 = .ok (.iaload, 1) := by decide +kernel
theorem dX9_tellHere_57 : decode cX9_tellHere 57 = .ok (.putfield 41, 3) := by decide +kernel
theorem dX9_tellHere_60 : decode cX9_tellHere 60 = .ok (.return_, 1) := by decide +kernel
theorem rs_RX8_33 : mx_res RX8 33 = some (1, 246, 1) := by decide +kernel
theorem mt_X8_need : mx_mt 221 = some (yX8_need, cX8_need, 2, none) := rfl
theorem dX8_need_0 : decode cX8_need 0 = .ok (.aload_n 0, 1) := by decide +kernel
theorem dX8_need_1 : decode cX8_need 1 = .ok (.getfield 7, 3) := by decide +kernel
theorem dX8_need_4 : decode cX8_need 4 = .ok (.invokevirtual 23, 3) := by decide +kernel
theorem dX8_need_7 : decode cX8_need 7 = .ok (.iload_n 1, 1) := by decide +kernel
theorem dX8_need_8 : decode cX8_need 8 = .ok (.if_icmp .ne 19, 3) := by decide +kernel
theorem dX8_need_11 : decode cX8_need 11 = .ok (.aload_n 0, 1) := by decide +kernel
theorem dX8_need_12 : decode cX8_need 12 = .ok (.getfield 7, 3) := by decide +kernel
theorem dX8_need_15 : decode cX8_need 15 = .ok (.dup, 1) := by decide +kernel
theorem dX8_need_16 : decode cX8_need 16 = .ok (.getfield 30, 3) := by decide +kernel
theorem dX8_need_19 : decode cX8_need 19 = .ok (.iconst 1, 1) := by decide +kernel
theorem dX8_need_20 : decode cX8_need 20 = .ok (.iadd, 1) := by decide +kernel
theorem dX8_need_21 : decode cX8_need 21 = .ok (.putfield 30, 3) := by decide +kernel
theorem dX8_need_24 : decode cX8_need 24 = .ok (.goto 11, 3) := by decide +kernel
theorem dX8_need_27 : decode cX8_need 27 = .ok (.aload_n 0, 1) := by decide +kernel
theorem dX8_need_28 : decode cX8_need 28 = .ok (.getfield 7, 3) := by decide +kernel
theorem dX8_need_31 : decode cX8_need 31 = .ok (.iconst 2, 1) := by decide +kernel
theorem dX8_need_32 : decode cX8_need 32 = .ok (.invokevirtual 33, 3) := by decide +kernel
theorem dX8_need_35 : decode cX8_need 35 = .ok (.return_, 1) := by decide +kernel
theorem rs_RX8_93 : mx_res RX8 93 = some (2, 267, 1) := by decide +kernel
theorem mt_X8_binaryAhead : mx_mt 235 = some (yX8_binaryAhead, cX8_binaryAhead, 3, (some .boolean)) := rfl
theorem dX8_binaryAhead_0 : decode cX8_binaryAhead 0 = .ok (.aload_n 0, 1) := by decide +kernel
theorem dX8_binaryAhead_1 : decode cX8_binaryAhead 1 = .ok (.getfield 7, 3) := by decide +kernel
theorem dX8_binaryAhead_4 : decode cX8_binaryAhead 4 = .ok (.invokevirtual 23, 3) := by decide +kernel
theorem dX8_binaryAhead_7 : decode cX8_binaryAhead 7 = .ok (.invokestatic 93, 3) := by decide +kernel
theorem dX8_binaryAhead_10 : decode cX8_binaryAhead 10 = .ok (.istore_n 2, 1) := by decide +kernel
theorem dX8_binaryAhead_11 : decode cX8_binaryAhead 11 = .ok (.iload_n 2, 1) := by decide +kernel
theorem dX8_binaryAhead_12 : decode cX8_binaryAhead 12 = .ok (.ifCond .le 17, 3) := by decide +kernel
theorem dX8_binaryAhead_15 : decode cX8_binaryAhead 15 = .ok (.iload_n 1, 1) := by decide +kernel
theorem dX8_binaryAhead_16 : decode cX8_binaryAhead 16 = .ok (.ifCond .ne 9, 3) := by decide +kernel
theorem dX8_binaryAhead_19 : decode cX8_binaryAhead 19 = .ok (.iload_n 2, 1) := by decide +kernel
theorem dX8_binaryAhead_20 : decode cX8_binaryAhead 20 = .ok (.bipush 7, 2) := by decide +kernel
theorem dX8_binaryAhead_22 : decode cX8_binaryAhead 22 = .ok (.if_icmp .gt 7, 3) := by decide +kernel
theorem dX8_binaryAhead_25 : decode cX8_binaryAhead 25 = .ok (.iconst 1, 1) := by decide +kernel
theorem dX8_binaryAhead_26 : decode cX8_binaryAhead 26 = .ok (.goto 4, 3) := by decide +kernel
theorem dX8_binaryAhead_29 : decode cX8_binaryAhead 29 = .ok (.iconst 0, 1) := by decide +kernel
theorem dX8_binaryAhead_30 : decode cX8_binaryAhead 30 = .ok (.ireturn, 1) := by decide +kernel
theorem rs_RX8_19 : mx_res RX8 19 = some (0, 9, 11) := by decide +kernel
theorem mt_X8_tooDeep : mx_mt 223 = some (yX8_tooDeep, cX8_tooDeep, 2, (some .boolean)) := rfl
theorem dX8_tooDeep_0 : decode cX8_tooDeep 0 = .ok (.iload_n 1, 1) := by decide +kernel
theorem dX8_tooDeep_1 : decode cX8_tooDeep 1 = .ok (.bipush 40, 2) := by decide +kernel
theorem dX8_tooDeep_3 : decode cX8_tooDeep 3 = .ok (.if_icmp .lt 11, 3) := by decide +kernel
theorem dX8_tooDeep_6 : decode cX8_tooDeep 6 = .ok (.aload_n 0, 1) := by decide +kernel
theorem dX8_tooDeep_7 : decode cX8_tooDeep 7 = .ok (.getfield 7, 3) := by decide +kernel
theorem dX8_tooDeep_10 : decode cX8_tooDeep 10 = .ok (.iconst 3, 1) := by decide +kernel
theorem dX8_tooDeep_11 : decode cX8_tooDeep 11 = .ok (.invokevirtual 33, 3) := by decide +kernel
theorem dX8_tooDeep_14 : decode cX8_tooDeep 14 = .ok (.aload_n 0, 1) := by decide +kernel
theorem dX8_tooDeep_15 : decode cX8_tooDeep 15 = .ok (.getfield 7, 3) := by decide +kernel
theorem dX8_tooDeep_18 : decode cX8_tooDeep 18 = .ok (.getfield 19, 3) := by decide +kernel
theorem dX8_tooDeep_21 : decode cX8_tooDeep 21 = .ok (.ifCond .eq 7, 3) := by decide +kernel
theorem dX8_tooDeep_24 : decode cX8_tooDeep 24 = .ok (.iconst 1, 1) := by decide +kernel
theorem dX8_tooDeep_25 : decode cX8_tooDeep 25 = .ok (.goto 4, 3) := by decide +kernel
theorem dX8_tooDeep_28 : decode cX8_tooDeep 28 = .ok (.iconst 0, 1) := by decide +kernel
theorem dX8_tooDeep_29 : decode cX8_tooDeep 29 = .ok (.ireturn, 1) := by decide +kernel
