theorem rs_RX13_840 : mx_res RX13 840 = some (1, 514, 1) := by decide +kernel
theorem rs_RX13_843 : mx_res RX13 843 = some (1, 502, 1) := by decide +kernel
theorem rs_RX13_846 : mx_res RX13 846 = some (1, 515, 1) := by decide +kernel
theorem rs_RX13_849 : mx_res RX13 849 = some (1, 511, 3) := by decide +kernel
theorem rs_RX13_852 : mx_res RX13 852 = some (1, 512, 1) := by decide +kernel
theorem mt_X13_loaded : mx_mt 513 = some (yX13_loaded, cX13_loaded, 3, (some .int)) := rfl
theorem dX13_loaded_0 : decode cX13_loaded 0 = .ok (.aload_n 0, 1) := by decide +kernel
theorem dX13_loaded_1 : decode cX13_loaded 1 = .ok (.getfield 833, 3) := by decide +kernel
theorem dX13_loaded_4 : decode cX13_loaded 4 = .ok (.bipush 8, 2) := by decide +kernel
theorem dX13_loaded_6 : decode cX13_loaded 6 = .ok (.if_icmp .ne 40, 3) := by decide +kernel
theorem dX13_loaded_9 : decode cX13_loaded 9 = .ok (.aload_n 0, 1) := by decide +kernel
theorem dX13_loaded_10 : decode cX13_loaded 10 = .ok (.bipush 7, 2) := by decide +kernel
theorem dX13_loaded_12 : decode cX13_loaded 12 = .ok (.invokevirtual 840, 3) := by decide +kernel
theorem dX13_loaded_15 : decode cX13_loaded 15 = .ok (.aload_n 0, 1) := by decide +kernel
theorem dX13_loaded_16 : decode cX13_loaded 16 = .ok (.bipush 7, 2) := by decide +kernel
theorem dX13_loaded_18 : decode cX13_loaded 18 = .ok (.invokevirtual 843, 3) := by decide +kernel
theorem dX13_loaded_21 : decode cX13_loaded 21 = .ok (.aload_n 0, 1) := by decide +kernel
theorem dX13_loaded_22 : decode cX13_loaded 22 = .ok (.getfield 764, 3) := by decide +kernel
theorem dX13_loaded_25 : decode cX13_loaded 25 = .ok (.istore_n 1, 1) := by decide +kernel
theorem dX13_loaded_26 : decode cX13_loaded 26 = .ok (.aload_n 0, 1) := by decide +kernel
theorem dX13_loaded_27 : decode cX13_loaded 27 = .ok (.bipush 7, 2) := by decide +kernel
theorem dX13_loaded_29 : decode cX13_loaded 29 = .ok (.invokevirtual 846, 3) := by decide +kernel
theorem dX13_loaded_32 : decode cX13_loaded 32 = .ok (.iload_n 1, 1) := by decide +kernel
theorem dX13_loaded_33 : decode cX13_loaded 33 = .ok (.iconst (-1), 1) := by decide +kernel
theorem dX13_loaded_34 : decode cX13_loaded 34 = .ok (.if_icmp .eq 10, 3) := by decide +kernel
theorem dX13_loaded_37 : decode cX13_loaded 37 = .ok (.bipush (-2), 2) := by decide +kernel
theorem dX13_loaded_39 : decode cX13_loaded 39 = .ok (.iload_n 1, 1) := by decide +kernel
theorem dX13_loaded_40 : decode cX13_loaded 40 = .ok (.isub, 1) := by decide +kernel
theorem dX13_loaded_41 : decode cX13_loaded 41 = .ok (.goto 4, 3) := by decide +kernel
theorem dX13_loaded_44 : decode cX13_loaded 44 = .ok (.iconst (-1), 1) := by decide +kernel
theorem dX13_loaded_45 : decode cX13_loaded 45 = .ok (.ireturn, 1) := by decide +kernel
theorem dX13_loaded_46 : decode cX13_loaded 46 = .ok (.aload_n 0, 1) := by decide +kernel
theorem dX13_loaded_47 : decode cX13_loaded 47 = .ok (.aload_n 0, 1) := by decide +kernel
theorem dX13_loaded_48 : decode cX13_loaded 48 = .ok (.getfield 833, 3) := by decide +kernel
theorem dX13_loaded_51 : decode cX13_loaded 51 = .ok (.invokevirtual 843, 3) := by decide +kernel
theorem dX13_loaded_54 : decode cX13_loaded 54 = .ok (.aload_n 0, 1) := by decide +kernel
theorem dX13_loaded_55 : decode cX13_loaded 55 = .ok (.getfield 764, 3) := by decide +kernel
theorem dX13_loaded_58 : decode cX13_loaded 58 = .ok (.iconst (-1), 1) := by decide +kernel
theorem dX13_loaded_59 : decode cX13_loaded 59 = .ok (.if_icmp .eq 11, 3) := by decide +kernel
theorem dX13_loaded_62 : decode cX13_loaded 62 = .ok (.bipush (-2), 2) := by decide +kernel
theorem dX13_loaded_64 : decode cX13_loaded 64 = .ok (.aload_n 0, 1) := by decide +kernel
theorem dX13_loaded_65 : decode cX13_loaded 65 = .ok (.getfield 764, 3) := by decide +kernel
theorem dX13_loaded_68 : decode cX13_loaded 68 = .ok (.isub, 1) := by decide +kernel
theorem dX13_loaded_69 : decode cX13_loaded 69 = .ok (.ireturn, 1) := by decide +kernel
theorem dX13_loaded_70 : decode cX13_loaded 70 = .ok (.aload_n 0, 1) := by decide +kernel
theorem dX13_loaded_71 : decode cX13_loaded 71 = .ok (.getfield 215, 3) := by decide +kernel
theorem dX13_loaded_74 : decode cX13_loaded 74 = .ok (.sipush 256, 3) := by decide +kernel
theorem dX13_loaded_77 : decode cX13_loaded 77 = .ok (.aload_n 0, 1) := by decide +kernel
theorem dX13_loaded_78 : decode cX13_loaded 78 = .ok (.getfield 833, 3) := by decide +kernel
theorem dX13_loaded_81 : decode cX13_loaded 81 = .ok (.imul, 1) := by decide +kernel
theorem dX13_loaded_82 : decode cX13_loaded 82 = .ok (.aload_n 0, 1) := by decide +kernel
theorem dX13_loaded_83 : decode cX13_loaded 83 = .ok (.getfield 245, 3) := by decide +kernel
theorem dX13_loaded_86 : decode cX13_loaded 86 = .ok (.aload_n 0, 1) := by decide +kernel
theorem dX13_loaded_87 : decode cX13_loaded 87 = .ok (.getfield 215, 3) := by decide +kernel
theorem dX13_loaded_90 : decode cX13_loaded 90 = .ok (.sipush 256, 3) := by decide +kernel
theorem dX13_loaded_93 : decode cX13_loaded 93 = .ok (.aload_n 0, 1) := by decide +kernel
theorem dX13_loaded_94 : decode cX13_loaded 94 = .ok (.getfield 833, 3) := by decide +kernel
theorem dX13_loaded_97 : decode cX13_loaded 97 = .ok (.imul, 1) := by decide +kernel
theorem dX13_loaded_98 : decode cX13_loaded 98 = .ok (.aload_n 0, 1) := by decide +kernel
theorem dX13_loaded_99 : decode cX13_loaded 99 = .ok (.getfield 221, 3) := by decide +kernel
theorem dX13_loaded_102 : decode cX13_loaded 102 = .ok (.aload_n 0, 1) := by decide +kernel
theorem dX13_loaded_103 : decode cX13_loaded 103 = .ok (.getfield 833, 3) := by decide +kernel
theorem dX13_loaded_106 : decode cX13_loaded 106 = .ok (.iaload, 1) := by decide +kernel
theorem dX13_loaded_107 : decode cX13_loaded 107 = .ok (.iadd, 1) := by decide +kernel
theorem dX13_loaded_108 : decode cX13_loaded 108 = .ok (.iaload, 1) := by decide +kernel
theorem dX13_loaded_109 : decode cX13_loaded 109 = .ok (.iconst 1, 1) := by decide +kernel
theorem dX13_loaded_110 : decode cX13_loaded 110 = .ok (.iadd, 1) := by decide +kernel
theorem dX13_loaded_111 : decode cX13_loaded 111 = .ok (.iaload, 1) := by decide +kernel
theorem dX13_loaded_112 : decode cX13_loaded 112 = .ok (.iadd, 1) := by decide +kernel
theorem dX13_loaded_113 : decode cX13_loaded 113 = .ok (.iaload, 1) := by decide +kernel
theorem dX13_loaded_114 : decode cX13_loaded 114 = .ok (.istore_n 1, 1) := by decide +kernel
theorem dX13_loaded_115 : decode cX13_loaded 115 = .ok (.aload_n 0, 1) := by decide +kernel
theorem dX13_loaded_116 : decode cX13_loaded 116 = .ok (.aload_n 0, 1) := by decide +kernel
theorem dX13_loaded_117 : decode cX13_loaded 117 = .ok (.getfield 245, 3) := by decide +kernel
theorem dX13_loaded_120 : decode cX13_loaded 120 = .ok (.iload_n 1, 1) := by decide +kernel
theorem dX13_loaded_121 : decode cX13_loaded 121 = .ok (.iconst 2, 1) := by decide +kernel
theorem dX13_loaded_122 : decode cX13_loaded 122 = .ok (.iadd, 1) := by decide +kernel
theorem dX13_loaded_123 : decode cX13_loaded 123 = .ok (.aload_n 0, 1) := by decide +kernel
theorem dX13_loaded_124 : decode cX13_loaded 124 = .ok (.getfield 245, 3) := by decide +kernel
theorem dX13_loaded_127 : decode cX13_loaded 127 = .ok (.iload_n 1, 1) := by decide +kernel
theorem dX13_loaded_128 : decode cX13_loaded 128 = .ok (.iconst 1, 1) := by decide +kernel
theorem dX13_loaded_129 : decode cX13_loaded 129 = .ok (.iadd, 1) := by decide +kernel
theorem dX13_loaded_130 : decode cX13_loaded 130 = .ok (.iaload, 1) := by decide +kernel
theorem dX13_loaded_131 : decode cX13_loaded 131 = .ok (.invokevirtual 849, 3) := by decide +kernel
theorem dX13_loaded_134 : decode cX13_loaded 134 = .ok (.iconst (-1), 1) := by decide +kernel
theorem dX13_loaded_135 : decode cX13_loaded 135 = .ok (.if_icmp .eq 5, 3) := by decide +kernel
theorem dX13_loaded_138 : decode cX13_loaded 138 = .ok (.iconst (-1), 1) := by decide +kernel
theorem dX13_loaded_139 : decode cX13_loaded 139 = .ok (.ireturn, 1) := by decide +kernel
theorem dX13_loaded_140 : decode cX13_loaded 140 = .ok (.aload_n 0, 1) := by decide +kernel
theorem dX13_loaded_141 : decode cX13_loaded 141 = .ok (.aload_n 0, 1) := by decide +kernel
theorem dX13_loaded_142 : decode cX13_loaded 142 = .ok (.getfield 833, 3) := by decide +kernel
theorem dX13_loaded_145 : decode cX13_loaded 145 = .ok (.invokevirtual 852, 3) := by decide +kernel
theorem dX13_loaded_148 : decode cX13_loaded 148 = .ok (.istore_n 2, 1) := by decide +kernel
theorem dX13_loaded_149 : decode cX13_loaded 149 = .ok (.aload_n 0, 1) := by decide +kernel
theorem dX13_loaded_150 : decode cX13_loaded 150 = .ok (.dup, 1) := by decide +kernel
theorem dX13_loaded_151 : decode cX13_loaded 151 = .ok (.getfield 833, 3) := by decide +kernel
theorem dX13_loaded_154 : decode cX13_loaded 154 = .ok (.iconst 1, 1) := by decide +kernel
theorem dX13_loaded_155 : decode cX13_loaded 155 = .ok (.iadd, 1) := by decide +kernel
theorem dX13_loaded_156 : decode cX13_loaded 156 = .ok (.putfield 833, 3) := by decide +kernel
theorem dX13_loaded_159 : decode cX13_loaded 159 = .ok (.aload_n 0, 1) := by decide +kernel
theorem dX13_loaded_160 : decode cX13_loaded 160 = .ok (.iconst 0, 1) := by decide +kernel
theorem dX13_loaded_161 : decode cX13_loaded 161 = .ok (.putfield 855, 3) := by decide +kernel
theorem dX13_loaded_164 : decode cX13_loaded 164 = .ok (.aload_n 0, 1) := by decide +kernel
theorem dX13_loaded_165 : decode cX13_loaded 165 = .ok (.iconst 0, 1) := by decide +kernel
theorem dX13_loaded_166 : decode cX13_loaded 166 = .ok (.putfield 858, 3) := by decide +kernel
theorem dX13_loaded_169 : decode cX13_loaded 169 = .ok (.iload_n 2, 1) := by decide +kernel
theorem dX13_loaded_170 : decode cX13_loaded 170 = .ok (.ireturn, 1) := by decide +kernel
theorem rs_RX13_861 : mx_res RX13 861 = some (1, 513, 0) := by decide +kernel
theorem ft_13_113 : mx_fty 13 113 = some (.int, false, "ClassMillModel") := by decide +kernel
theorem mt_X13_keep : mx_mt 517 = some (yX13_keep, cX13_keep, 3, (some .int)) := rfl
theorem dX13_keep_0 : decode cX13_keep 0 = .ok (.iload_n 1, 1) := by decide +kernel
theorem dX13_keep_1 : decode cX13_keep 1 = .ok (.ifCond .lt 11, 3) := by decide +kernel
theorem dX13_keep_4 : decode cX13_keep 4 = .ok (.iload_n 1, 1) := by decide +kernel
theorem dX13_keep_5 : decode cX13_keep 5 = .ok (.aload_n 0, 1) := by decide +kernel
theorem dX13_keep_6 : decode cX13_keep 6 = .ok (.getfield 761, 3) := by decide +kernel
theorem dX13_keep_9 : decode cX13_keep 9 = .ok (.if_icmp .lt 5, 3) := by decide +kernel
theorem dX13_keep_12 : decode cX13_keep 12 = .ok (.iconst (-1), 1) := by decide +kernel
theorem dX13_keep_13 : decode cX13_keep 13 = .ok (.ireturn, 1) := by decide +kernel
theorem dX13_keep_14 : decode cX13_keep 14 = .ok (.aload_n 0, 1) := by decide +kernel
theorem dX13_keep_15 : decode cX13_keep 15 = .ok (.aload_n 0, 1) := by decide +kernel
theorem dX13_keep_16 : decode cX13_keep 16 = .ok (.getfield 197, 3) := by decide +kernel
theorem dX13_keep_19 : decode cX13_keep 19 = .ok (.iload_n 1, 1) := by decide +kernel
theorem dX13_keep_20 : decode cX13_keep 20 = .ok (.iaload, 1) := by decide +kernel
theorem dX13_keep_21 : decode cX13_keep 21 = .ok (.putfield 767, 3) := by decide +kernel
theorem dX13_keep_24 : decode cX13_keep 24 = .ok (.iconst 0, 1) := by decide +kernel
theorem dX13_keep_25 : decode cX13_keep 25 = .ok (.istore_n 2, 1) := by decide +kernel
theorem dX13_keep_26 : decode cX13_keep 26 = .ok (.iload_n 2, 1) := by decide +kernel
theorem dX13_keep_27 : decode cX13_keep 27 = .ok (.aload_n 0, 1) := by decide +kernel
theorem dX13_keep_28 : decode cX13_keep 28 = .ok (.getfield 767, 3) := by decide +kernel
theorem dX13_keep_31 : decode cX13_keep 31 = .ok (.if_icmp .ge 27, 3) := by decide +kernel
theorem dX13_keep_34 : decode cX13_keep 34 = .ok (.aload_n 0, 1) := by decide +kernel
theorem dX13_keep_35 : decode cX13_keep 35 = .ok (.getfield 245, 3) := by decide +kernel
theorem dX13_keep_38 : decode cX13_keep 38 = .ok (.iload_n 2, 1) := by decide +kernel
theorem dX13_keep_39 : decode cX13_keep 39 = .ok (.aload_n 0, 1) := by decide +kernel
theorem dX13_keep_40 : decode cX13_keep 40 = .ok (.getfield 194, 3) := by decide +kernel
theorem dX13_keep_43 : decode cX13_keep 43 = .ok (.sipush 6000, 3) := by decide +kernel
theorem dX13_keep_46 : decode cX13_keep 46 = .ok (.iload_n 1, 1) := by decide +kernel
theorem dX13_keep_47 : decode cX13_keep 47 = .ok (.imul, 1) := by decide +kernel
theorem dX13_keep_48 : decode cX13_keep 48 = .ok (.iload_n 2, 1) := by decide +kernel
theorem dX13_keep_49 : decode cX13_keep 49 = .ok (.iadd, 1) := by decide +kernel
theorem dX13_keep_50 : decode cX13_keep 50 = .ok (.iaload, 1) := by decide +kernel
theorem dX13_keep_51 : decode cX13_keep 51 = .ok (.iastore, 1) := by decide +kernel
theorem dX13_keep_52 : decode cX13_keep 52 = .ok (.iinc 2 1, 3) := by decide +kernel
theorem dX13_keep_55 : decode cX13_keep 55 = .ok (.goto (-29), 3) := by decide +kernel
theorem dX13_keep_58 : decode cX13_keep 58 = .ok (.aload_n 0, 1) := by decide +kernel
theorem dX13_keep_59 : decode cX13_keep 59 = .ok (.invokevirtual 861, 3) := by decide +kernel
theorem dX13_keep_62 : decode cX13_keep 62 = .ok (.ireturn, 1) := by decide +kernel
theorem mt_X13_load : mx_mt 516 = some (yX13_load, cX13_load, 2, (some .int)) := rfl
theorem dX13_load_0 : decode cX13_load 0 = .ok (.aload_n 0, 1) := by decide +kernel
theorem dX13_load_1 : decode cX13_load 1 = .ok (.aload_n 0, 1) := by decide +kernel
theorem dX13_load_2 : decode cX13_load 2 = .ok (.getfield 312, 3) := by decide +kernel
theorem dX13_load_5 : decode cX13_load 5 = .ok (.putfield 767, 3) := by decide +kernel
theorem dX13_load_8 : decode cX13_load 8 = .ok (.iconst 0, 1) := by decide +kernel
theorem dX13_load_9 : decode cX13_load 9 = .ok (.istore_n 1, 1) := by decide +kernel
theorem dX13_load_10 : decode cX13_load 10 = .ok (.iload_n 1, 1) := by decide +kernel
theorem dX13_load_11 : decode cX13_load 11 = .ok (.aload_n 0, 1) := by decide +kernel
theorem dX13_load_12 : decode cX13_load 12 = .ok (.getfield 312, 3) := by decide +kernel
theorem dX13_load_15 : decode cX13_load 15 = .ok (.if_icmp .ge 21, 3) := by decide +kernel
theorem dX13_load_18 : decode cX13_load 18 = .ok (.aload_n 0, 1) := by decide +kernel
theorem dX13_load_19 : decode cX13_load 19 = .ok (.getfield 245, 3) := by decide +kernel
theorem dX13_load_22 : decode cX13_load 22 = .ok (.iload_n 1, 1) := by decide +kernel
theorem dX13_load_23 : decode cX13_load 23 = .ok (.aload_n 0, 1) := by decide +kernel
theorem dX13_load_24 : decode cX13_load 24 = .ok (.getfield 9, 3) := by decide +kernel
theorem dX13_load_27 : decode cX13_load 27 = .ok (.iload_n 1, 1) := by decide +kernel
theorem dX13_load_28 : decode cX13_load 28 = .ok (.iaload, 1) := by decide +kernel
theorem dX13_load_29 : decode cX13_load 29 = .ok (.iastore, 1) := by decide +kernel
theorem dX13_load_30 : decode cX13_load 30 = .ok (.iinc 1 1, 3) := by decide +kernel
theorem dX13_load_33 : decode cX13_load 33 = .ok (.goto (-23), 3) := by decide +kernel
theorem dX13_load_36 : decode cX13_load 36 = .ok (.aload_n 0, 1) := by decide +kernel
theorem dX13_load_37 : decode cX13_load 37 = .ok (.iconst 0, 1) := by decide +kernel
theorem dX13_load_38 : decode cX13_load 38 = .ok (.putfield 312, 3) := by decide +kernel
theorem dX13_load_41 : decode cX13_load 41 = .ok (.aload_n 0, 1) := by decide +kernel
theorem dX13_load_42 : decode cX13_load 42 = .ok (.invokevirtual 861, 3) := by decide +kernel
theorem dX13_load_45 : decode cX13_load 45 = .ok (.ireturn, 1) := by decide +kernel
theorem rs_RX13_1043 : mx_res RX13 1043 = some (0, 13, 139) := by decide +kernel
theorem rs_RX13_1046 : mx_res RX13 1046 = some (0, 13, 140) := by decide +kernel
theorem rs_RX13_1049 : mx_res RX13 1049 = some (0, 13, 141) := by decide +kernel
theorem rs_RX13_1052 : mx_res RX13 1052 = some (0, 13, 142) := by decide +kernel
theorem rs_RX13_1055 : mx_res RX13 1055 = some (0, 13, 143) := by decide +kernel
theorem rs_RX13_1058 : mx_res RX13 1058 = some (0, 13, 149) := by decide +kernel
theorem mt_X13_look : mx_mt 596 = some (yX13_look, cX13_look, 2, (some .int)) := rfl
theorem dX13_look_0 : decode cX13_look 0 = .ok (.iload_n 1, 1) := by decide +kernel
theorem dX13_look_1 : decode cX13_look 1 = .ok (.tableswitch 300 0 13 #[71, 76, 101, 117, 133, 149, 165, 181, 205, 229, 253, 277, 282, 295], 71) := by decide +kernel
theorem dX13_look_72 : decode cX13_look 72 = .ok (.aload_n 0, 1) := by decide +kernel
theorem dX13_look_73 : decode cX13_look 73 = .ok (.getfield 858, 3) := by decide +kernel
theorem dX13_look_76 : decode cX13_look 76 = .ok (.ireturn, 1) := by decide +kernel
theorem dX13_look_77 : decode cX13_look 77 = .ok (.aload_n 0, 1) := by decide +kernel
theorem dX13_look_78 : decode cX13_look 78 = .ok (.getfield 858, 3) := by decide +kernel
theorem dX13_look_81 : decode cX13_look 81 = .ok (.iconst 2, 1) := by decide +kernel
theorem dX13_look_82 : decode cX13_look 82 = .ok (.if_icmp .eq 11, 3) := by decide +kernel
theorem dX13_look_85 : decode cX13_look 85 = .ok (.aload_n 0, 1) := by decide +kernel
theorem dX13_look_86 : decode cX13_look 86 = .ok (.getfield 858, 3) := by decide +kernel
theorem dX13_look_89 : decode cX13_look 89 = .ok (.iconst 3, 1) := by decide +kernel
theorem dX13_look_90 : decode cX13_look 90 = .ok (.if_icmp .ne 10, 3) := by decide +kernel
theorem dX13_look_93 : decode cX13_look 93 = .ok (.aload_n 0, 1) := by decide +kernel
theorem dX13_look_94 : decode cX13_look 94 = .ok (.getfield 1043, 3) := by decide +kernel
theorem dX13_look_97 : decode cX13_look 97 = .ok (.goto 4, 3) := by decide +kernel
theorem dX13_look_100 : decode cX13_look 100 = .ok (.iconst (-1), 1) := by decide +kernel
theorem dX13_look_101 : decode cX13_look 101 = .ok (.ireturn, 1) := by decide +kernel
theorem dX13_look_102 : decode cX13_look 102 = .ok (.aload_n 0, 1) := by decide +kernel
theorem dX13_look_103 : decode cX13_look 103 = .ok (.getfield 858, 3) := by decide +kernel
theorem dX13_look_106 : decode cX13_look 106 = .ok (.ifCond .ne 7, 3) := by decide +kernel
theorem dX13_look_109 : decode cX13_look 109 = .ok (.iconst 0, 1) := by decide +kernel
theorem dX13_look_110 : decode cX13_look 110 = .ok (.goto 7, 3) := by decide +kernel
theorem dX13_look_113 : decode cX13_look 113 = .ok (.aload_n 0, 1) := by decide +kernel
theorem dX13_look_114 : decode cX13_look 114 = .ok (.getfield 1046, 3) := by decide +kernel
theorem dX13_look_117 : decode cX13_look 117 = .ok (.ireturn, 1) := by decide +kernel
theorem dX13_look_118 : decode cX13_look 118 = .ok (.aload_n 0, 1) := by decide +kernel
theorem dX13_look_119 : decode cX13_look 119 = .ok (.getfield 858, 3) := by decide +kernel
theorem dX13_look_122 : decode cX13_look 122 = .ok (.ifCond .ne 7, 3) := by decide +kernel
theorem dX13_look_125 : decode cX13_look 125 = .ok (.iconst 0, 1) := by decide +kernel
theorem dX13_look_126 : decode cX13_look 126 = .ok (.goto 7, 3) := by decide +kernel
theorem dX13_look_129 : decode cX13_look 129 = .ok (.aload_n 0, 1) := by decide +kernel
theorem dX13_look_130 : decode cX13_look 130 = .ok (.getfield 1049, 3) := by decide +kernel
theorem dX13_look_133 : decode cX13_look 133 = .ok (.ireturn, 1) := by decide +kernel
theorem dX13_look_134 : decode cX13_look 134 = .ok (.aload_n 0, 1) := by decide +kernel
theorem dX13_look_135 : decode cX13_look 135 = .ok (.getfield 858, 3) := by decide +kernel
theorem dX13_look_138 : decode cX13_look 138 = .ok (.ifCond .ne 7, 3) := by decide +kernel
theorem dX13_look_141 : decode cX13_look 141 = .ok (.iconst 0, 1) := by decide +kernel
theorem dX13_look_142 : decode cX13_look 142 = .ok (.goto 7, 3) := by decide +kernel
theorem dX13_look_145 : decode cX13_look 145 = .ok (.aload_n 0, 1) := by decide +kernel
theorem dX13_look_146 : decode cX13_look 146 = .ok (.getfield 1052, 3) := by decide +kernel
theorem dX13_look_149 : decode cX13_look 149 = .ok (.ireturn, 1) := by decide +kernel
theorem dX13_look_150 : decode cX13_look 150 = .ok (.aload_n 0, 1) := by decide +kernel
theorem dX13_look_151 : decode cX13_look 151 = .ok (.getfield 858, 3) := by decide +kernel
theorem dX13_look_154 : decode cX13_look 154 = .ok (.ifCond .ne 7, 3) := by decide +kernel
theorem dX13_look_157 : decode cX13_look 157 = .ok (.iconst 0, 1) := by decide +kernel
theorem dX13_look_158 : decode cX13_look 158 = .ok (.goto 7, 3) := by decide +kernel
theorem dX13_look_161 : decode cX13_look 161 = .ok (.aload_n 0, 1) := by decide +kernel
theorem dX13_look_162 : decode cX13_look 162 = .ok (.getfield 1058, 3) := by decide +kernel
theorem dX13_look_165 : decode cX13_look 165 = .ok (.ireturn, 1) := by decide +kernel
theorem dX13_look_166 : decode cX13_look 166 = .ok (.aload_n 0, 1) := by decide +kernel
theorem dX13_look_167 : decode cX13_look 167 = .ok (.getfield 858, 3) := by decide +kernel
theorem dX13_look_170 : decode cX13_look 170 = .ok (.ifCond .ne 7, 3) := by decide +kernel
theorem dX13_look_173 : decode cX13_look 173 = .ok (.iconst 0, 1) := by decide +kernel
theorem dX13_look_174 : decode cX13_look 174 = .ok (.goto 7, 3) := by decide +kernel
theorem dX13_look_177 : decode cX13_look 177 = .ok (.aload_n 0, 1) := by decide +kernel
theorem dX13_look_178 : decode cX13_look 178 = .ok (.getfield 1055, 3) := by decide +kernel
theorem dX13_look_181 : decode cX13_look 181 = .ok (.ireturn, 1) := by decide +kernel
theorem dX13_look_182 : decode cX13_look 182 = .ok (.aload_n 0, 1) := by decide +kernel
theorem dX13_look_183 : decode cX13_look 183 = .ok (.getfield 858, 3) := by decide +kernel
theorem dX13_look_186 : decode cX13_look 186 = .ok (.iconst 1, 1) := by decide +kernel
theorem dX13_look_187 : decode cX13_look 187 = .ok (.if_icmp .ne 17, 3) := by decide +kernel
theorem dX13_look_190 : decode cX13_look 190 = .ok (.aload_n 0, 1) := by decide +kernel
theorem dX13_look_191 : decode cX13_look 191 = .ok (.getfield 294, 3) := by decide +kernel
theorem dX13_look_194 : decode cX13_look 194 = .ok (.aload_n 0, 1) := by decide +kernel
theorem dX13_look_195 : decode cX13_look 195 = .ok (.getfield 1058, 3) := by decide +kernel
theorem dX13_look_198 : decode cX13_look 198 = .ok (.iconst 1, 1) := by decide +kernel
theorem dX13_look_199 : decode cX13_look 199 = .ok (.isub, 1) := by decide +kernel
theorem dX13_look_200 : decode cX13_look 200 = .ok (.iaload, 1) := by decide +kernel
theorem dX13_look_201 : decode cX13_look 201 = .ok (.goto 4, 3) := by decide +kernel
theorem dX13_look_204 : decode cX13_look 204 = .ok (.iconst (-1), 1) := by decide +kernel
theorem dX13_look_205 : decode cX13_look 205 = .ok (.ireturn, 1) := by decide +kernel
theorem dX13_look_206 : decode cX13_look 206 = .ok (.aload_n 0, 1) := by decide +kernel
theorem dX13_look_207 : decode cX13_look 207 = .ok (.getfield 858, 3) := by decide +kernel
theorem dX13_look_210 : decode cX13_look 210 = .ok (.iconst 1, 1) := by decide +kernel
theorem dX13_look_211 : decode cX13_look 211 = .ok (.if_icmp .ne 17, 3) := by decide +kernel
theorem dX13_look_214 : decode cX13_look 214 = .ok (.aload_n 0, 1) := by decide +kernel
theorem dX13_look_215 : decode cX13_look 215 = .ok (.getfield 297, 3) := by decide +kernel
theorem dX13_look_218 : decode cX13_look 218 = .ok (.aload_n 0, 1) := by decide +kernel
theorem dX13_look_219 : decode cX13_look 219 = .ok (.getfield 1058, 3) := by decide +kernel
theorem dX13_look_222 : decode cX13_look 222 = .ok (.iconst 1, 1) := by decide +kernel
theorem dX13_look_223 : decode cX13_look 223 = .ok (.isub, 1) := by decide +kernel
theorem dX13_look_224 : decode cX13_look 224 = .ok (.iaload, 1) := by decide +kernel
theorem dX13_look_225 : decode cX13_look 225 = .ok (.goto 4, 3) := by decide +kernel
theorem dX13_look_228 : decode cX13_look 228 = .ok (.iconst (-1), 1) := by decide +kernel
theorem dX13_look_229 : decode cX13_look 229 = .ok (.ireturn, 1) := by decide +kernel
theorem dX13_look_230 : decode cX13_look 230 = .ok (.aload_n 0, 1) := by decide +kernel
theorem dX13_look_231 : decode cX13_look 231 = .ok (.getfield 858, 3) := by decide +kernel
theorem dX13_look_234 : decode cX13_look 234 = .ok (.iconst 1, 1) := by decide +kernel
theorem dX13_look_235 : decode cX13_look 235 = .ok (.if_icmp .ne 17, 3) := by decide +kernel
theorem dX13_look_238 : decode cX13_look 238 = .ok (.aload_n 0, 1) := by decide +kernel
theorem dX13_look_239 : decode cX13_look 239 = .ok (.getfield 300, 3) := by decide +kernel
theorem dX13_look_242 : decode cX13_look 242 = .ok (.aload_n 0, 1) := by decide +kernel
theorem dX13_look_243 : decode cX13_look 243 = .ok (.getfield 1058, 3) := by decide +kernel
theorem dX13_look_246 : decode cX13_look 246 = .ok (.iconst 1, 1) := by decide +kernel
theorem dX13_look_247 : decode cX13_look 247 = .ok (.isub, 1) := by decide +kernel
theorem dX13_look_248 : decode cX13_look 248 = .ok (.iaload, 1) := by decide +kernel
theorem dX13_look_249 : decode cX13_look 249 = .ok (.goto 4, 3) := by decide +kernel
theorem dX13_look_252 : decode cX13_look 252 = .ok (.iconst (-1), 1) := by decide +kernel
theorem dX13_look_253 : decode cX13_look 253 = .ok (.ireturn, 1) := by decide +kernel
theorem dX13_look_254 : decode cX13_look 254 = .ok (.aload_n 0, 1) := by decide +kernel
theorem dX13_look_255 : decode cX13_look 255 = .ok (.getfield 858, 3) := by decide +kernel
theorem dX13_look_258 : decode cX13_look 258 = .ok (.iconst 1, 1) := by decide +kernel
theorem dX13_look_259 : decode cX13_look 259 = .ok (.if_icmp .ne 17, 3) := by decide +kernel
theorem dX13_look_262 : decode cX13_look 262 = .ok (.aload_n 0, 1) := by decide +kernel
theorem dX13_look_263 : decode cX13_look 263 = .ok (.getfield 303, 3) := by decide +kernel
theorem dX13_look_266 : decode cX13_look 266 = .ok (.aload_n 0, 1) := by decide +kernel
theorem dX13_look_267 : decode cX13_look 267 = .ok (.getfield 1058, 3) := by decide +kernel
theorem dX13_look_270 : decode cX13_look 270 = .ok (.iconst 1, 1) := by decide +kernel
theorem dX13_look_271 : decode cX13_look 271 = .ok (.isub, 1) := by decide +kernel
theorem dX13_look_272 : decode cX13_look 272 = .ok (.iaload, 1) := by decide +kernel
theorem dX13_look_273 : decode cX13_look 273 = .ok (.goto 4, 3) := by decide +kernel
theorem dX13_look_276 : decode cX13_look 276 = .ok (.iconst (-1), 1) := by decide +kernel
theorem dX13_look_277 : decode cX13_look 277 = .ok (.ireturn, 1) := by decide +kernel
theorem dX13_look_278 : decode cX13_look 278 = .ok (.aload_n 0, 1) := by decide +kernel
theorem dX13_look_279 : decode cX13_look 279 = .ok (.getfield 833, 3) := by decide +kernel
theorem dX13_look_282 : decode cX13_look 282 = .ok (.ireturn, 1) := by decide +kernel
theorem dX13_look_283 : decode cX13_look 283 = .ok (.aload_n 0, 1) := by decide +kernel
theorem dX13_look_284 : decode cX13_look 284 = .ok (.getfield 855, 3) := by decide +kernel
theorem dX13_look_287 : decode cX13_look 287 = .ok (.ifCond .eq 7, 3) := by decide +kernel
theorem dX13_look_290 : decode cX13_look 290 = .ok (.iconst 1, 1) := by decide +kernel
theorem dX13_look_291 : decode cX13_look 291 = .ok (.goto 4, 3) := by decide +kernel
theorem dX13_look_294 : decode cX13_look 294 = .ok (.iconst 0, 1) := by decide +kernel
theorem dX13_look_295 : decode cX13_look 295 = .ok (.ireturn, 1) := by decide +kernel
theorem dX13_look_296 : decode cX13_look 296 = .ok (.aload_n 0, 1) := by decide +kernel
theorem dX13_look_297 : decode cX13_look 297 = .ok (.getfield 312, 3) := by decide +kernel
theorem dX13_look_300 : decode cX13_look 300 = .ok (.ireturn, 1) := by decide +kernel
theorem dX13_look_301 : decode cX13_look 301 = .ok (.iconst (-1), 1) := by decide +kernel
theorem dX13_look_302 : decode cX13_look 302 = .ok (.ireturn, 1) := by decide +kernel
theorem mt_X13_out : mx_mt 597 = some (yX13_out, cX13_out, 2, (some .int)) := rfl
theorem dX13_out_0 : decode cX13_out 0 = .ok (.aload_n 0, 1) := by decide +kernel
theorem dX13_out_1 : decode cX13_out 1 = .ok (.getfield 858, 3) := by decide +kernel
theorem dX13_out_4 : decode cX13_out 4 = .ok (.ifCond .le 31, 3) := by decide +kernel
theorem dX13_out_7 : decode cX13_out 7 = .ok (.iload_n 1, 1) := by decide +kernel
theorem dX13_out_8 : decode cX13_out 8 = .ok (.ifCond .lt 27, 3) := by decide +kernel
theorem dX13_out_11 : decode cX13_out 11 = .ok (.iload_n 1, 1) := by decide +kernel
theorem dX13_out_12 : decode cX13_out 12 = .ok (.aload_n 0, 1) := by decide +kernel
theorem dX13_out_13 : decode cX13_out 13 = .ok (.getfield 1055, 3) := by decide +kernel
theorem dX13_out_16 : decode cX13_out 16 = .ok (.if_icmp .ge 19, 3) := by decide +kernel
theorem dX13_out_19 : decode cX13_out 19 = .ok (.iload_n 1, 1) := by decide +kernel
theorem dX13_out_20 : decode cX13_out 20 = .ok (.sipush 1000, 3) := by decide +kernel
theorem dX13_out_23 : decode cX13_out 23 = .ok (.if_icmp .ge 12, 3) := by decide +kernel
theorem dX13_out_26 : decode cX13_out 26 = .ok (.aload_n 0, 1) := by decide +kernel
theorem dX13_out_27 : decode cX13_out 27 = .ok (.getfield 291, 3) := by decide +kernel
theorem dX13_out_30 : decode cX13_out 30 = .ok (.iload_n 1, 1) := by decide +kernel
theorem dX13_out_31 : decode cX13_out 31 = .ok (.iaload, 1) := by decide +kernel
theorem dX13_out_32 : decode cX13_out 32 = .ok (.goto 4, 3) := by decide +kernel
theorem dX13_out_35 : decode cX13_out 35 = .ok (.iconst 0, 1) := by decide +kernel
theorem dX13_out_36 : decode cX13_out 36 = .ok (.ireturn, 1) := by decide +kernel
theorem mt_X13_patch : mx_mt 518 = some (yX13_patch, cX13_patch, 8, (some .boolean)) := rfl
theorem dX13_patch_0 : decode cX13_patch 0 = .ok (.iload_n 1, 1) := by decide +kernel
theorem dX13_patch_1 : decode cX13_patch 1 = .ok (.bipush 8, 2) := by decide +kernel
theorem dX13_patch_3 : decode cX13_patch 3 = .ok (.isub, 1) := by decide +kernel
theorem dX13_patch_4 : decode cX13_patch 4 = .ok (.istore 4, 2) := by decide +kernel
theorem dX13_patch_6 : decode cX13_patch 6 = .ok (.iload 4, 2) := by decide +kernel
theorem dX13_patch_8 : decode cX13_patch 8 = .ok (.ifCond .lt 27, 3) := by decide +kernel
theorem dX13_patch_11 : decode cX13_patch 11 = .ok (.iload 4, 2) := by decide +kernel
theorem dX13_patch_13 : decode cX13_patch 13 = .ok (.aload_n 0, 1) := by decide +kernel
theorem dX13_patch_14 : decode cX13_patch 14 = .ok (.getfield 833, 3) := by decide +kernel
theorem dX13_patch_17 : decode cX13_patch 17 = .ok (.if_icmp .ge 18, 3) := by decide +kernel
theorem dX13_patch_20 : decode cX13_patch 20 = .ok (.iload_n 2, 1) := by decide +kernel
theorem dX13_patch_21 : decode cX13_patch 21 = .ok (.ifCond .lt 14, 3) := by decide +kernel
theorem dX13_patch_24 : decode cX13_patch 24 = .ok (.iload_n 2, 1) := by decide +kernel
theorem dX13_patch_25 : decode cX13_patch 25 = .ok (.aload_n 0, 1) := by decide +kernel
theorem dX13_patch_26 : decode cX13_patch 26 = .ok (.getfield 212, 3) := by decide +kernel
theorem dX13_patch_29 : decode cX13_patch 29 = .ok (.iload 4, 2) := by decide +kernel
theorem dX13_patch_31 : decode cX13_patch 31 = .ok (.iaload, 1) := by decide +kernel
theorem dX13_patch_32 : decode cX13_patch 32 = .ok (.if_icmp .lt 5, 3) := by decide +kernel
theorem dX13_patch_35 : decode cX13_patch 35 = .ok (.iconst 0, 1) := by decide +kernel
theorem dX13_patch_36 : decode cX13_patch 36 = .ok (.ireturn, 1) := by decide +kernel
theorem dX13_patch_37 : decode cX13_patch 37 = .ok (.aload_n 0, 1) := by decide +kernel
theorem dX13_patch_38 : decode cX13_patch 38 = .ok (.aload_n 0, 1) := by decide +kernel
theorem dX13_patch_39 : decode cX13_patch 39 = .ok (.getfield 212, 3) := by decide +kernel
theorem dX13_patch_42 : decode cX13_patch 42 = .ok (.iload 4, 2) := by decide +kernel
theorem dX13_patch_44 : decode cX13_patch 44 = .ok (.iaload, 1) := by decide +kernel
theorem dX13_patch_45 : decode cX13_patch 45 = .ok (.putfield 767, 3) := by decide +kernel
theorem dX13_patch_48 : decode cX13_patch 48 = .ok (.iconst 0, 1) := by decide +kernel
theorem dX13_patch_49 : decode cX13_patch 49 = .ok (.istore 5, 2) := by decide +kernel
theorem dX13_patch_51 : decode cX13_patch 51 = .ok (.iload 5, 2) := by decide +kernel
theorem dX13_patch_53 : decode cX13_patch 53 = .ok (.aload_n 0, 1) := by decide +kernel
theorem dX13_patch_54 : decode cX13_patch 54 = .ok (.getfield 767, 3) := by decide +kernel
theorem dX13_patch_57 : decode cX13_patch 57 = .ok (.if_icmp .ge 30, 3) := by decide +kernel
theorem dX13_patch_60 : decode cX13_patch 60 = .ok (.aload_n 0, 1) := by decide +kernel
theorem dX13_patch_61 : decode cX13_patch 61 = .ok (.getfield 245, 3) := by decide +kernel
theorem dX13_patch_64 : decode cX13_patch 64 = .ok (.iload 5, 2) := by decide +kernel
theorem dX13_patch_66 : decode cX13_patch 66 = .ok (.aload_n 0, 1) := by decide +kernel
theorem dX13_patch_67 : decode cX13_patch 67 = .ok (.getfield 209, 3) := by decide +kernel
theorem dX13_patch_70 : decode cX13_patch 70 = .ok (.sipush 6000, 3) := by decide +kernel
theorem dX13_patch_73 : decode cX13_patch 73 = .ok (.iload 4, 2) := by decide +kernel
theorem dX13_patch_75 : decode cX13_patch 75 = .ok (.imul, 1) := by decide +kernel
theorem dX13_patch_76 : decode cX13_patch 76 = .ok (.iload 5, 2) := by decide +kernel
theorem dX13_patch_78 : decode cX13_patch 78 = .ok (.iadd, 1) := by decide +kernel
theorem dX13_patch_79 : decode cX13_patch 79 = .ok (.iaload, 1) := by decide +kernel
theorem dX13_patch_80 : decode cX13_patch 80 = .ok (.iastore, 1) := by decide +kernel
theorem dX13_patch_81 : decode cX13_patch 81 = .ok (.iinc 5 1, 3) := by decide +kernel
theorem dX13_patch_84 : decode cX13_patch 84 = .ok (.goto (-33), 3) := by decide +kernel
theorem dX13_patch_87 : decode cX13_patch 87 = .ok (.aload_n 0, 1) := by decide +kernel
theorem dX13_patch_88 : decode cX13_patch 88 = .ok (.getfield 245, 3) := by decide +kernel
theorem dX13_patch_91 : decode cX13_patch 91 = .ok (.iload_n 2, 1) := by decide +kernel
theorem dX13_patch_92 : decode cX13_patch 92 = .ok (.iload_n 3, 1) := by decide +kernel
theorem dX13_patch_93 : decode cX13_patch 93 = .ok (.sipush 255, 3) := by decide +kernel
theorem dX13_patch_96 : decode cX13_patch 96 = .ok (.iand, 1) := by decide +kernel
theorem dX13_patch_97 : decode cX13_patch 97 = .ok (.iastore, 1) := by decide +kernel
theorem dX13_patch_98 : decode cX13_patch 98 = .ok (.aload_n 0, 1) := by decide +kernel
theorem dX13_patch_99 : decode cX13_patch 99 = .ok (.iload 4, 2) := by decide +kernel
theorem dX13_patch_101 : decode cX13_patch 101 = .ok (.invokevirtual 840, 3) := by decide +kernel
theorem dX13_patch_104 : decode cX13_patch 104 = .ok (.aload_n 0, 1) := by decide +kernel
theorem dX13_patch_105 : decode cX13_patch 105 = .ok (.iload 4, 2) := by decide +kernel
theorem dX13_patch_107 : decode cX13_patch 107 = .ok (.invokevirtual 843, 3) := by decide +kernel
theorem dX13_patch_110 : decode cX13_patch 110 = .ok (.aload_n 0, 1) := by decide +kernel
theorem dX13_patch_111 : decode cX13_patch 111 = .ok (.getfield 764, 3) := by decide +kernel
theorem dX13_patch_114 : decode cX13_patch 114 = .ok (.iconst (-1), 1) := by decide +kernel
theorem dX13_patch_115 : decode cX13_patch 115 = .ok (.if_icmp .ne 7, 3) := by decide +kernel
theorem dX13_patch_118 : decode cX13_patch 118 = .ok (.iconst 1, 1) := by decide +kernel
theorem dX13_patch_119 : decode cX13_patch 119 = .ok (.goto 4, 3) := by decide +kernel
theorem dX13_patch_122 : decode cX13_patch 122 = .ok (.iconst 0, 1) := by decide +kernel
theorem dX13_patch_123 : decode cX13_patch 123 = .ok (.istore 5, 2) := by decide +kernel
theorem dX13_patch_125 : decode cX13_patch 125 = .ok (.iload 5, 2) := by decide +kernel
theorem dX13_patch_127 : decode cX13_patch 127 = .ok (.ifCond .eq 108, 3) := by decide +kernel
theorem dX13_patch_130 : decode cX13_patch 130 = .ok (.aload_n 0, 1) := by decide +kernel
theorem dX13_patch_131 : decode cX13_patch 131 = .ok (.getfield 215, 3) := by decide +kernel
theorem dX13_patch_134 : decode cX13_patch 134 = .ok (.sipush 256, 3) := by decide +kernel
theorem dX13_patch_137 : decode cX13_patch 137 = .ok (.iload 4, 2) := by decide +kernel
theorem dX13_patch_139 : decode cX13_patch 139 = .ok (.imul, 1) := by decide +kernel
theorem dX13_patch_140 : decode cX13_patch 140 = .ok (.aload_n 0, 1) := by decide +kernel
theorem dX13_patch_141 : decode cX13_patch 141 = .ok (.getfield 245, 3) := by decide +kernel
theorem dX13_patch_144 : decode cX13_patch 144 = .ok (.aload_n 0, 1) := by decide +kernel
theorem dX13_patch_145 : decode cX13_patch 145 = .ok (.getfield 215, 3) := by decide +kernel
theorem dX13_patch_148 : decode cX13_patch 148 = .ok (.sipush 256, 3) := by decide +kernel
theorem dX13_patch_151 : decode cX13_patch 151 = .ok (.iload 4, 2) := by decide +kernel
theorem dX13_patch_153 : decode cX13_patch 153 = .ok (.imul, 1) := by decide +kernel
theorem dX13_patch_154 : decode cX13_patch 154 = .ok (.aload_n 0, 1) := by decide +kernel
theorem dX13_patch_155 : decode cX13_patch 155 = .ok (.getfield 221, 3) := by decide +kernel
theorem dX13_patch_158 : decode cX13_patch 158 = .ok (.iload 4, 2) := by decide +kernel
theorem dX13_patch_160 : decode cX13_patch 160 = .ok (.iaload, 1) := by decide +kernel
theorem dX13_patch_161 : decode cX13_patch 161 = .ok (.iadd, 1) := by decide +kernel
theorem dX13_patch_162 : decode cX13_patch 162 = .ok (.iaload, 1) := by decide +kernel
theorem dX13_patch_163 : decode cX13_patch 163 = .ok (.iconst 1, 1) := by decide +kernel
theorem dX13_patch_164 : decode cX13_patch 164 = .ok (.iadd, 1) := by decide +kernel
theorem dX13_patch_165 : decode cX13_patch 165 = .ok (.iaload, 1) := by decide +kernel
theorem dX13_patch_166 : decode cX13_patch 166 = .ok (.iadd, 1) := by decide +kernel
theorem dX13_patch_167 : decode cX13_patch 167 = .ok (.iaload, 1) := by decide +kernel
theorem dX13_patch_168 : decode cX13_patch 168 = .ok (.istore 6, 2) := by decide +kernel
theorem dX13_patch_170 : decode cX13_patch 170 = .ok (.iconst 0, 1) := by decide +kernel
theorem dX13_patch_171 : decode cX13_patch 171 = .ok (.istore 7, 2) := by decide +kernel
theorem dX13_patch_173 : decode cX13_patch 173 = .ok (.iload 7, 2) := by decide +kernel
theorem dX13_patch_175 : decode cX13_patch 175 = .ok (.bipush 8, 2) := by decide +kernel
theorem dX13_patch_177 : decode cX13_patch 177 = .ok (.aload_n 0, 1) := by decide +kernel
theorem dX13_patch_178 : decode cX13_patch 178 = .ok (.getfield 833, 3) := by decide +kernel
theorem dX13_patch_181 : decode cX13_patch 181 = .ok (.iadd, 1) := by decide +kernel
theorem dX13_patch_182 : decode cX13_patch 182 = .ok (.if_icmp .ge 53, 3) := by decide +kernel
theorem dX13_patch_185 : decode cX13_patch 185 = .ok (.iload 5, 2) := by decide +kernel
theorem dX13_patch_187 : decode cX13_patch 187 = .ok (.ifCond .eq 48, 3) := by decide +kernel
theorem dX13_patch_190 : decode cX13_patch 190 = .ok (.iload 7, 2) := by decide +kernel
theorem dX13_patch_192 : decode cX13_patch 192 = .ok (.iload_n 1, 1) := by decide +kernel
theorem dX13_patch_193 : decode cX13_patch 193 = .ok (.if_icmp .eq 29, 3) := by decide +kernel
theorem dX13_patch_196 : decode cX13_patch 196 = .ok (.aload_n 0, 1) := by decide +kernel
theorem dX13_patch_197 : decode cX13_patch 197 = .ok (.iload 7, 2) := by decide +kernel
theorem dX13_patch_199 : decode cX13_patch 199 = .ok (.aload_n 0, 1) := by decide +kernel
theorem dX13_patch_200 : decode cX13_patch 200 = .ok (.getfield 245, 3) := by decide +kernel
theorem dX13_patch_203 : decode cX13_patch 203 = .ok (.iload 6, 2) := by decide +kernel
theorem dX13_patch_205 : decode cX13_patch 205 = .ok (.iconst 2, 1) := by decide +kernel
theorem dX13_patch_206 : decode cX13_patch 206 = .ok (.iadd, 1) := by decide +kernel
theorem dX13_patch_207 : decode cX13_patch 207 = .ok (.aload_n 0, 1) := by decide +kernel
theorem dX13_patch_208 : decode cX13_patch 208 = .ok (.getfield 245, 3) := by decide +kernel
theorem dX13_patch_211 : decode cX13_patch 211 = .ok (.iload 6, 2) := by decide +kernel
theorem dX13_patch_213 : decode cX13_patch 213 = .ok (.iconst 1, 1) := by decide +kernel
theorem dX13_patch_214 : decode cX13_patch 214 = .ok (.iadd, 1) := by decide +kernel
theorem dX13_patch_215 : decode cX13_patch 215 = .ok (.iaload, 1) := by decide +kernel
theorem dX13_patch_216 : decode cX13_patch 216 = .ok (.invokevirtual 836, 3) := by decide +kernel
theorem dX13_patch_219 : decode cX13_patch 219 = .ok (.ifCond .ne 7, 3) := by decide +kernel
theorem dX13_patch_222 : decode cX13_patch 222 = .ok (.iconst 1, 1) := by decide +kernel
theorem dX13_patch_223 : decode cX13_patch 223 = .ok (.goto 4, 3) := by decide +kernel
theorem dX13_patch_226 : decode cX13_patch 226 = .ok (.iconst 0, 1) := by decide +kernel
theorem dX13_patch_227 : decode cX13_patch 227 = .ok (.istore 5, 2) := by decide +kernel
theorem dX13_patch_229 : decode cX13_patch 229 = .ok (.iinc 7 1, 3) := by decide +kernel
theorem dX13_patch_232 : decode cX13_patch 232 = .ok (.goto (-59), 3) := by decide +kernel
theorem dX13_patch_235 : decode cX13_patch 235 = .ok (.iload 5, 2) := by decide +kernel
theorem dX13_patch_237 : decode cX13_patch 237 = .ok (.ifCond .ne 11, 3) := by decide +kernel
theorem dX13_patch_240 : decode cX13_patch 240 = .ok (.aload_n 0, 1) := by decide +kernel
theorem dX13_patch_241 : decode cX13_patch 241 = .ok (.iload 4, 2) := by decide +kernel
theorem dX13_patch_243 : decode cX13_patch 243 = .ok (.invokevirtual 846, 3) := by decide +kernel
theorem dX13_patch_246 : decode cX13_patch 246 = .ok (.iconst 0, 1) := by decide +kernel
theorem dX13_patch_247 : decode cX13_patch 247 = .ok (.ireturn, 1) := by decide +kernel
theorem dX13_patch_248 : decode cX13_patch 248 = .ok (.aload_n 0, 1) := by decide +kernel
theorem dX13_patch_249 : decode cX13_patch 249 = .ok (.iload 4, 2) := by decide +kernel
theorem dX13_patch_251 : decode cX13_patch 251 = .ok (.invokevirtual 852, 3) := by decide +kernel
theorem dX13_patch_254 : decode cX13_patch 254 = .ok (.pop, 1) := by decide +kernel
theorem dX13_patch_255 : decode cX13_patch 255 = .ok (.aload_n 0, 1) := by decide +kernel
theorem dX13_patch_256 : decode cX13_patch 256 = .ok (.iconst 0, 1) := by decide +kernel
theorem dX13_patch_257 : decode cX13_patch 257 = .ok (.putfield 855, 3) := by decide +kernel
theorem dX13_patch_260 : decode cX13_patch 260 = .ok (.aload_n 0, 1) := by decide +kernel
theorem dX13_patch_261 : decode cX13_patch 261 = .ok (.iconst 0, 1) := by decide +kernel
theorem dX13_patch_262 : decode cX13_patch 262 = .ok (.putfield 858, 3) := by decide +kernel
theorem dX13_patch_265 : decode cX13_patch 265 = .ok (.iconst 1, 1) := by decide +kernel
theorem dX13_patch_266 : decode cX13_patch 266 = .ok (.ireturn, 1) := by decide +kernel
theorem mt_X13_drop : mx_mt 572 = some (yX13_drop, cX13_drop, 2, (some .int)) := rfl
theorem dX13_drop_0 : decode cX13_drop 0 = .ok (.aload_n 0, 1) := by decide +kernel
theorem dX13_drop_1 : decode cX13_drop 1 = .ok (.getfield 1058, 3) := by decide +kernel
theorem dX13_drop_4 : decode cX13_drop 4 = .ok (.iconst 1, 1) := by decide +kernel
theorem dX13_drop_5 : decode cX13_drop 5 = .ok (.isub, 1) := by decide +kernel
theorem dX13_drop_6 : decode cX13_drop 6 = .ok (.istore_n 1, 1) := by decide +kernel
theorem dX13_drop_7 : decode cX13_drop 7 = .ok (.aload_n 0, 1) := by decide +kernel
theorem dX13_drop_8 : decode cX13_drop 8 = .ok (.getfield 303, 3) := by decide +kernel
theorem dX13_drop_11 : decode cX13_drop 11 = .ok (.iload_n 1, 1) := by decide +kernel
theorem dX13_drop_12 : decode cX13_drop 12 = .ok (.dup2, 1) := by decide +kernel
theorem dX13_drop_13 : decode cX13_drop 13 = .ok (.iaload, 1) := by decide +kernel
theorem dX13_drop_14 : decode cX13_drop 14 = .ok (.iconst 1, 1) := by decide +kernel
theorem dX13_drop_15 : decode cX13_drop 15 = .ok (.isub, 1) := by decide +kernel
theorem dX13_drop_16 : decode cX13_drop 16 = .ok (.iastore, 1) := by decide +kernel
theorem dX13_drop_17 : decode cX13_drop 17 = .ok (.aload_n 0, 1) := by decide +kernel
theorem dX13_drop_18 : decode cX13_drop 18 = .ok (.getfield 306, 3) := by decide +kernel
theorem dX13_drop_21 : decode cX13_drop 21 = .ok (.bipush 60, 2) := by decide +kernel
theorem dX13_drop_23 : decode cX13_drop 23 = .ok (.iload_n 1, 1) := by decide +kernel
theorem dX13_drop_24 : decode cX13_drop 24 = .ok (.imul, 1) := by decide +kernel
theorem dX13_drop_25 : decode cX13_drop 25 = .ok (.bipush 30, 2) := by decide +kernel
theorem dX13_drop_27 : decode cX13_drop 27 = .ok (.iadd, 1) := by decide +kernel
theorem dX13_drop_28 : decode cX13_drop 28 = .ok (.aload_n 0, 1) := by decide +kernel
theorem dX13_drop_29 : decode cX13_drop 29 = .ok (.getfield 303, 3) := by decide +kernel
theorem dX13_drop_32 : decode cX13_drop 32 = .ok (.iload_n 1, 1) := by decide +kernel
theorem dX13_drop_33 : decode cX13_drop 33 = .ok (.iaload, 1) := by decide +kernel
theorem dX13_drop_34 : decode cX13_drop 34 = .ok (.iadd, 1) := by decide +kernel
theorem dX13_drop_35 : decode cX13_drop 35 = .ok (.iaload, 1) := by decide +kernel
theorem dX13_drop_36 : decode cX13_drop 36 = .ok (.ireturn, 1) := by decide +kernel
theorem mt_X13_give : mx_mt 571 = some (yX13_give, cX13_give, 3, none) := rfl
theorem dX13_give_0 : decode cX13_give 0 = .ok (.aload_n 0, 1) := by decide +kernel
theorem dX13_give_1 : decode cX13_give 1 = .ok (.getfield 1058, 3) := by decide +kernel
theorem dX13_give_4 : decode cX13_give 4 = .ok (.iconst 1, 1) := by decide +kernel
theorem dX13_give_5 : decode cX13_give 5 = .ok (.isub, 1) := by decide +kernel
theorem dX13_give_6 : decode cX13_give 6 = .ok (.istore_n 2, 1) := by decide +kernel
theorem dX13_give_7 : decode cX13_give 7 = .ok (.aload_n 0, 1) := by decide +kernel
theorem dX13_give_8 : decode cX13_give 8 = .ok (.getfield 306, 3) := by decide +kernel
theorem dX13_give_11 : decode cX13_give 11 = .ok (.bipush 60, 2) := by decide +kernel
theorem dX13_give_13 : decode cX13_give 13 = .ok (.iload_n 2, 1) := by decide +kernel
theorem dX13_give_14 : decode cX13_give 14 = .ok (.imul, 1) := by decide +kernel
theorem dX13_give_15 : decode cX13_give 15 = .ok (.bipush 30, 2) := by decide +kernel
theorem dX13_give_17 : decode cX13_give 17 = .ok (.iadd, 1) := by decide +kernel
theorem dX13_give_18 : decode cX13_give 18 = .ok (.aload_n 0, 1) := by decide +kernel
theorem dX13_give_19 : decode cX13_give 19 = .ok (.getfield 303, 3) := by decide +kernel
theorem dX13_give_22 : decode cX13_give 22 = .ok (.iload_n 2, 1) := by decide +kernel
theorem dX13_give_23 : decode cX13_give 23 = .ok (.iaload, 1) := by decide +kernel
theorem dX13_give_24 : decode cX13_give 24 = .ok (.iadd, 1) := by decide +kernel
theorem dX13_give_25 : decode cX13_give 25 = .ok (.iload_n 1, 1) := by decide +kernel
theorem dX13_give_26 : decode cX13_give 26 = .ok (.iastore, 1) := by decide +kernel
theorem dX13_give_27 : decode cX13_give 27 = .ok (.aload_n 0, 1) := by decide +kernel
theorem dX13_give_28 : decode cX13_give 28 = .ok (.getfield 303, 3) := by decide +kernel
theorem dX13_give_31 : decode cX13_give 31 = .ok (.iload_n 2, 1) := by decide +kernel
theorem dX13_give_32 : decode cX13_give 32 = .ok (.dup2, 1) := by decide +kernel
theorem dX13_give_33 : decode cX13_give 33 = .ok (.iaload, 1) := by decide +kernel
theorem dX13_give_34 : decode cX13_give 34 = .ok (.iconst 1, 1) := by decide +kernel
theorem dX13_give_35 : decode cX13_give 35 = .ok (.iadd, 1) := by decide +kernel
theorem dX13_give_36 : decode cX13_give 36 = .ok (.iastore, 1) := by decide +kernel
theorem dX13_give_37 : decode cX13_give 37 = .ok (.return_, 1) := by decide +kernel
theorem mt_X13_on : mx_mt 580 = some (yX13_on, cX13_on, 2, none) := rfl
theorem dX13_on_0 : decode cX13_on 0 = .ok (.aload_n 0, 1) := by decide +kernel
theorem dX13_on_1 : decode cX13_on 1 = .ok (.getfield 300, 3) := by decide +kernel
theorem dX13_on_4 : decode cX13_on 4 = .ok (.aload_n 0, 1) := by decide +kernel
theorem dX13_on_5 : decode cX13_on 5 = .ok (.getfield 1058, 3) := by decide +kernel
theorem dX13_on_8 : decode cX13_on 8 = .ok (.iconst 1, 1) := by decide +kernel
theorem dX13_on_9 : decode cX13_on 9 = .ok (.isub, 1) := by decide +kernel
theorem dX13_on_10 : decode cX13_on 10 = .ok (.dup2, 1) := by decide +kernel
theorem dX13_on_11 : decode cX13_on 11 = .ok (.iaload, 1) := by decide +kernel
theorem dX13_on_12 : decode cX13_on 12 = .ok (.iload_n 1, 1) := by decide +kernel
theorem dX13_on_13 : decode cX13_on 13 = .ok (.iadd, 1) := by decide +kernel
theorem dX13_on_14 : decode cX13_on 14 = .ok (.iastore, 1) := by decide +kernel
theorem dX13_on_15 : decode cX13_on 15 = .ok (.return_, 1) := by decide +kernel
theorem mt_X13_told : mx_mt 593 = some (yX13_told, cX13_told, 2, (some .int)) := rfl
theorem dX13_told_0 : decode cX13_told 0 = .ok (.aload_n 0, 1) := by decide +kernel
theorem dX13_told_1 : decode cX13_told 1 = .ok (.getfield 279, 3) := by decide +kernel
theorem dX13_told_4 : decode cX13_told 4 = .ok (.iload_n 1, 1) := by decide +kernel
theorem dX13_told_5 : decode cX13_told 5 = .ok (.iaload, 1) := by decide +kernel
theorem dX13_told_6 : decode cX13_told 6 = .ok (.bipush 99, 2) := by decide +kernel
theorem dX13_told_8 : decode cX13_told 8 = .ok (.if_icmp .ne 9, 3) := by decide +kernel
theorem dX13_told_11 : decode cX13_told 11 = .ok (.sipush 200, 3) := by decide +kernel
theorem dX13_told_14 : decode cX13_told 14 = .ok (.goto 9, 3) := by decide +kernel
theorem dX13_told_17 : decode cX13_told 17 = .ok (.aload_n 0, 1) := by decide +kernel
theorem dX13_told_18 : decode cX13_told 18 = .ok (.getfield 279, 3) := by decide +kernel
theorem dX13_told_21 : decode cX13_told 21 = .ok (.iload_n 1, 1) := by decide +kernel
theorem dX13_told_22 : decode cX13_told 22 = .ok (.iaload, 1) := by decide +kernel
theorem dX13_told_23 : decode cX13_told 23 = .ok (.ireturn, 1) := by decide +kernel
theorem rs_RX13_1072 : mx_res RX13 1072 = some (1, 571, 1) := by decide +kernel
theorem rs_RX13_1087 : mx_res RX13 1087 = some (1, 572, 0) := by decide +kernel
theorem rs_RX13_1116 : mx_res RX13 1116 = some (1, 580, 1) := by decide +kernel
theorem rs_RX13_1131 : mx_res RX13 1131 = some (1, 593, 1) := by decide +kernel
theorem ft_13_139 : mx_fty 13 139 = some (.int, false, "ClassMillModel") := by decide +kernel
theorem ft_13_149 : mx_fty 13 149 = some (.int, false, "ClassMillModel") := by decide +kernel
theorem mt_X13_back : mx_mt 592 = some (yX13_back, cX13_back, 3, none) := rfl
theorem dX13_back_0 : decode cX13_back 0 = .ok (.iload_n 1, 1) := by decide +kernel
theorem dX13_back_1 : decode cX13_back 1 = .ok (.sipush 177, 3) := by decide +kernel
theorem dX13_back_4 : decode cX13_back 4 = .ok (.if_icmp .ne 7, 3) := by decide +kernel
theorem dX13_back_7 : decode cX13_back 7 = .ok (.iconst 0, 1) := by decide +kernel
theorem dX13_back_8 : decode cX13_back 8 = .ok (.goto 7, 3) := by decide +kernel
theorem dX13_back_11 : decode cX13_back 11 = .ok (.aload_n 0, 1) := by decide +kernel
theorem dX13_back_12 : decode cX13_back 12 = .ok (.invokevirtual 1087, 3) := by decide +kernel
theorem dX13_back_15 : decode cX13_back 15 = .ok (.istore_n 2, 1) := by decide +kernel
theorem dX13_back_16 : decode cX13_back 16 = .ok (.aload_n 0, 1) := by decide +kernel
theorem dX13_back_17 : decode cX13_back 17 = .ok (.dup, 1) := by decide +kernel
theorem dX13_back_18 : decode cX13_back 18 = .ok (.getfield 1058, 3) := by decide +kernel
theorem dX13_back_21 : decode cX13_back 21 = .ok (.iconst 1, 1) := by decide +kernel
theorem dX13_back_22 : decode cX13_back 22 = .ok (.isub, 1) := by decide +kernel
theorem dX13_back_23 : decode cX13_back 23 = .ok (.putfield 1058, 3) := by decide +kernel
theorem dX13_back_26 : decode cX13_back 26 = .ok (.aload_n 0, 1) := by decide +kernel
theorem dX13_back_27 : decode cX13_back 27 = .ok (.getfield 1058, 3) := by decide +kernel
theorem dX13_back_30 : decode cX13_back 30 = .ok (.ifCond .le 21, 3) := by decide +kernel
theorem dX13_back_33 : decode cX13_back 33 = .ok (.iload_n 1, 1) := by decide +kernel
theorem dX13_back_34 : decode cX13_back 34 = .ok (.sipush 177, 3) := by decide +kernel
theorem dX13_back_37 : decode cX13_back 37 = .ok (.if_icmp .eq 8, 3) := by decide +kernel
theorem dX13_back_40 : decode cX13_back 40 = .ok (.aload_n 0, 1) := by decide +kernel
theorem dX13_back_41 : decode cX13_back 41 = .ok (.iload_n 2, 1) := by decide +kernel
theorem dX13_back_42 : decode cX13_back 42 = .ok (.invokevirtual 1072, 3) := by decide +kernel
theorem dX13_back_45 : decode cX13_back 45 = .ok (.aload_n 0, 1) := by decide +kernel
theorem dX13_back_46 : decode cX13_back 46 = .ok (.iconst 2, 1) := by decide +kernel
theorem dX13_back_47 : decode cX13_back 47 = .ok (.invokevirtual 1116, 3) := by decide +kernel
theorem dX13_back_50 : decode cX13_back 50 = .ok (.return_, 1) := by decide +kernel
theorem dX13_back_51 : decode cX13_back 51 = .ok (.aload_n 0, 1) := by decide +kernel
theorem dX13_back_52 : decode cX13_back 52 = .ok (.iconst 2, 1) := by decide +kernel
theorem dX13_back_53 : decode cX13_back 53 = .ok (.putfield 858, 3) := by decide +kernel
theorem dX13_back_56 : decode cX13_back 56 = .ok (.iload_n 1, 1) := by decide +kernel
theorem dX13_back_57 : decode cX13_back 57 = .ok (.sipush 172, 3) := by decide +kernel
theorem dX13_back_60 : decode cX13_back 60 = .ok (.if_icmp .ne 11, 3) := by decide +kernel
theorem dX13_back_63 : decode cX13_back 63 = .ok (.aload_n 0, 1) := by decide +kernel
theorem dX13_back_64 : decode cX13_back 64 = .ok (.iload_n 2, 1) := by decide +kernel
theorem dX13_back_65 : decode cX13_back 65 = .ok (.putfield 1043, 3) := by decide +kernel
theorem dX13_back_68 : decode cX13_back 68 = .ok (.goto 23, 3) := by decide +kernel
theorem dX13_back_71 : decode cX13_back 71 = .ok (.iload_n 1, 1) := by decide +kernel
theorem dX13_back_72 : decode cX13_back 72 = .ok (.sipush 176, 3) := by decide +kernel
theorem dX13_back_75 : decode cX13_back 75 = .ok (.if_icmp .ne 16, 3) := by decide +kernel
theorem dX13_back_78 : decode cX13_back 78 = .ok (.iload_n 2, 1) := by decide +kernel
theorem dX13_back_79 : decode cX13_back 79 = .ok (.ifCond .eq 12, 3) := by decide +kernel
theorem dX13_back_82 : decode cX13_back 82 = .ok (.aload_n 0, 1) := by decide +kernel
theorem dX13_back_83 : decode cX13_back 83 = .ok (.aload_n 0, 1) := by decide +kernel
theorem dX13_back_84 : decode cX13_back 84 = .ok (.iload_n 2, 1) := by decide +kernel
theorem dX13_back_85 : decode cX13_back 85 = .ok (.invokevirtual 1131, 3) := by decide +kernel
theorem dX13_back_88 : decode cX13_back 88 = .ok (.putfield 1043, 3) := by decide +kernel
theorem dX13_back_91 : decode cX13_back 91 = .ok (.return_, 1) := by decide +kernel
theorem mt_X13_classAtText : mx_mt 521 = some (yX13_classAtText, cX13_classAtText, 4, (some .int)) := rfl
theorem dX13_classAtText_0 : decode cX13_classAtText 0 = .ok (.sipush 6000, 3) := by decide +kernel
theorem dX13_classAtText_3 : decode cX13_classAtText 3 = .ok (.iload_n 1, 1) := by decide +kernel
theorem dX13_classAtText_4 : decode cX13_classAtText 4 = .ok (.imul, 1) := by decide +kernel
theorem dX13_classAtText_5 : decode cX13_classAtText 5 = .ok (.aload_n 0, 1) := by decide +kernel
theorem dX13_classAtText_6 : decode cX13_classAtText 6 = .ok (.getfield 215, 3) := by decide +kernel
theorem dX13_classAtText_9 : decode cX13_classAtText 9 = .ok (.sipush 256, 3) := by decide +kernel
theorem dX13_classAtText_12 : decode cX13_classAtText 12 = .ok (.iload_n 1, 1) := by decide +kernel
theorem dX13_classAtText_13 : decode cX13_classAtText 13 = .ok (.imul, 1) := by decide +kernel
theorem dX13_classAtText_14 : decode cX13_classAtText 14 = .ok (.iload_n 2, 1) := by decide +kernel
theorem dX13_classAtText_15 : decode cX13_classAtText 15 = .ok (.iadd, 1) := by decide +kernel
theorem dX13_classAtText_16 : decode cX13_classAtText 16 = .ok (.iaload, 1) := by decide +kernel
theorem dX13_classAtText_17 : decode cX13_classAtText 17 = .ok (.iadd, 1) := by decide +kernel
theorem dX13_classAtText_18 : decode cX13_classAtText 18 = .ok (.istore_n 3, 1) := by decide +kernel
theorem dX13_classAtText_19 : decode cX13_classAtText 19 = .ok (.aload_n 0, 1) := by decide +kernel
theorem dX13_classAtText_20 : decode cX13_classAtText 20 = .ok (.aload_n 0, 1) := by decide +kernel
theorem dX13_classAtText_21 : decode cX13_classAtText 21 = .ok (.getfield 209, 3) := by decide +kernel
theorem dX13_classAtText_24 : decode cX13_classAtText 24 = .ok (.iload_n 3, 1) := by decide +kernel
theorem dX13_classAtText_25 : decode cX13_classAtText 25 = .ok (.iconst 2, 1) := by decide +kernel
theorem dX13_classAtText_26 : decode cX13_classAtText 26 = .ok (.iadd, 1) := by decide +kernel
theorem dX13_classAtText_27 : decode cX13_classAtText 27 = .ok (.aload_n 0, 1) := by decide +kernel
theorem dX13_classAtText_28 : decode cX13_classAtText 28 = .ok (.getfield 209, 3) := by decide +kernel
theorem dX13_classAtText_31 : decode cX13_classAtText 31 = .ok (.iload_n 3, 1) := by decide +kernel
theorem dX13_classAtText_32 : decode cX13_classAtText 32 = .ok (.iconst 1, 1) := by decide +kernel
theorem dX13_classAtText_33 : decode cX13_classAtText 33 = .ok (.iadd, 1) := by decide +kernel
theorem dX13_classAtText_34 : decode cX13_classAtText 34 = .ok (.iaload, 1) := by decide +kernel
theorem dX13_classAtText_35 : decode cX13_classAtText 35 = .ok (.invokevirtual 849, 3) := by decide +kernel
theorem dX13_classAtText_38 : decode cX13_classAtText 38 = .ok (.ireturn, 1) := by decide +kernel
theorem mt_X13_byteAt : mx_mt 520 = some (yX13_byteAt, cX13_byteAt, 3, (some .int)) := rfl
theorem dX13_byteAt_0 : decode cX13_byteAt 0 = .ok (.aload_n 0, 1) := by decide +kernel
theorem dX13_byteAt_1 : decode cX13_byteAt 1 = .ok (.getfield 209, 3) := by decide +kernel
theorem dX13_byteAt_4 : decode cX13_byteAt 4 = .ok (.sipush 6000, 3) := by decide +kernel
theorem dX13_byteAt_7 : decode cX13_byteAt 7 = .ok (.iload_n 1, 1) := by decide +kernel
theorem dX13_byteAt_8 : decode cX13_byteAt 8 = .ok (.imul, 1) := by decide +kernel
theorem dX13_byteAt_9 : decode cX13_byteAt 9 = .ok (.iload_n 2, 1) := by decide +kernel
theorem dX13_byteAt_10 : decode cX13_byteAt 10 = .ok (.iadd, 1) := by decide +kernel
theorem dX13_byteAt_11 : decode cX13_byteAt 11 = .ok (.iaload, 1) := by decide +kernel
theorem dX13_byteAt_12 : decode cX13_byteAt 12 = .ok (.ireturn, 1) := by decide +kernel
theorem rs_RX13_864 : mx_res RX13 864 = some (1, 520, 2) := by decide +kernel
theorem mt_X13_textOfClass : mx_mt 522 = some (yX13_textOfClass, cX13_textOfClass, 3, (some .int)) := rfl
theorem dX13_textOfClass_0 : decode cX13_textOfClass 0 = .ok (.aload_n 0, 1) := by decide +kernel
theorem dX13_textOfClass_1 : decode cX13_textOfClass 1 = .ok (.iload_n 1, 1) := by decide +kernel
theorem dX13_textOfClass_2 : decode cX13_textOfClass 2 = .ok (.aload_n 0, 1) := by decide +kernel
theorem dX13_textOfClass_3 : decode cX13_textOfClass 3 = .ok (.getfield 215, 3) := by decide +kernel
theorem dX13_textOfClass_6 : decode cX13_textOfClass 6 = .ok (.sipush 256, 3) := by decide +kernel
theorem dX13_textOfClass_9 : decode cX13_textOfClass 9 = .ok (.iload_n 1, 1) := by decide +kernel
theorem dX13_textOfClass_10 : decode cX13_textOfClass 10 = .ok (.imul, 1) := by decide +kernel
theorem dX13_textOfClass_11 : decode cX13_textOfClass 11 = .ok (.iload_n 2, 1) := by decide +kernel
theorem dX13_textOfClass_12 : decode cX13_textOfClass 12 = .ok (.iadd, 1) := by decide +kernel
theorem dX13_textOfClass_13 : decode cX13_textOfClass 13 = .ok (.iaload, 1) := by decide +kernel
theorem dX13_textOfClass_14 : decode cX13_textOfClass 14 = .ok (.iconst 1, 1) := by decide +kernel
theorem dX13_textOfClass_15 : decode cX13_textOfClass 15 = .ok (.iadd, 1) := by decide +kernel
theorem dX13_textOfClass_16 : decode cX13_textOfClass 16 = .ok (.invokevirtual 864, 3) := by decide +kernel
theorem dX13_textOfClass_19 : decode cX13_textOfClass 19 = .ok (.ireturn, 1) := by decide +kernel
theorem rs_RX13_867 : mx_res RX13 867 = some (1, 522, 2) := by decide +kernel
theorem rs_RX13_870 : mx_res RX13 870 = some (1, 521, 2) := by decide +kernel
theorem mt_X13_classIn : mx_mt 588 = some (yX13_classIn, cX13_classIn, 3, (some .int)) := rfl
theorem dX13_classIn_0 : decode cX13_classIn 0 = .ok (.aload_n 0, 1) := by decide +kernel
theorem dX13_classIn_1 : decode cX13_classIn 1 = .ok (.getfield 294, 3) := by decide +kernel
theorem dX13_classIn_4 : decode cX13_classIn 4 = .ok (.aload_n 0, 1) := by decide +kernel
theorem dX13_classIn_5 : decode cX13_classIn 5 = .ok (.getfield 1058, 3) := by decide +kernel
theorem dX13_classIn_8 : decode cX13_classIn 8 = .ok (.iconst 1, 1) := by decide +kernel
theorem dX13_classIn_9 : decode cX13_classIn 9 = .ok (.isub, 1) := by decide +kernel
theorem dX13_classIn_10 : decode cX13_classIn 10 = .ok (.iaload, 1) := by decide +kernel
theorem dX13_classIn_11 : decode cX13_classIn 11 = .ok (.bipush 8, 2) := by decide +kernel
theorem dX13_classIn_13 : decode cX13_classIn 13 = .ok (.isub, 1) := by decide +kernel
theorem dX13_classIn_14 : decode cX13_classIn 14 = .ok (.istore_n 2, 1) := by decide +kernel
theorem dX13_classIn_15 : decode cX13_classIn 15 = .ok (.aload_n 0, 1) := by decide +kernel
theorem dX13_classIn_16 : decode cX13_classIn 16 = .ok (.iload_n 2, 1) := by decide +kernel
theorem dX13_classIn_17 : decode cX13_classIn 17 = .ok (.aload_n 0, 1) := by decide +kernel
theorem dX13_classIn_18 : decode cX13_classIn 18 = .ok (.iload_n 2, 1) := by decide +kernel
theorem dX13_classIn_19 : decode cX13_classIn 19 = .ok (.iload_n 1, 1) := by decide +kernel
theorem dX13_classIn_20 : decode cX13_classIn 20 = .ok (.invokevirtual 867, 3) := by decide +kernel
theorem dX13_classIn_23 : decode cX13_classIn 23 = .ok (.invokevirtual 870, 3) := by decide +kernel
theorem dX13_classIn_26 : decode cX13_classIn 26 = .ok (.ireturn, 1) := by decide +kernel
