theorem rs_RX13_98 : mx_res RX13 98 = some (0, 13, 38) := by decide +kernel
theorem rs_RX13_110 : mx_res RX13 110 = some (0, 13, 43) := by decide +kernel
theorem ft_13_51 : mx_fty 13 51 = some (.int, false, "ClassMillModel") := by decide +kernel
theorem ft_13_52 : mx_fty 13 52 = some (.int, false, "ClassMillModel") := by decide +kernel
theorem ft_13_53 : mx_fty 13 53 = some (.boolean, false, "ClassMillModel") := by decide +kernel
theorem mt_X13_bodies : mx_mt 432 = some (yX13_bodies, cX13_bodies, 3, none) := rfl
theorem dX13_bodies_0 : decode cX13_bodies 0 = .ok (.iconst 0, 1) := by decide +kernel
theorem dX13_bodies_1 : decode cX13_bodies 1 = .ok (.istore_n 1, 1) := by decide +kernel
theorem dX13_bodies_2 : decode cX13_bodies 2 = .ok (.iload_n 1, 1) := by decide +kernel
theorem dX13_bodies_3 : decode cX13_bodies 3 = .ok (.aload_n 0, 1) := by decide +kernel
theorem dX13_bodies_4 : decode cX13_bodies 4 = .ok (.getfield 412, 3) := by decide +kernel
theorem dX13_bodies_7 : decode cX13_bodies 7 = .ok (.if_icmp .ge 165, 3) := by decide +kernel
theorem dX13_bodies_10 : decode cX13_bodies 10 = .ok (.aload_n 0, 1) := by decide +kernel
theorem dX13_bodies_11 : decode cX13_bodies 11 = .ok (.getfield 319, 3) := by decide +kernel
theorem dX13_bodies_14 : decode cX13_bodies 14 = .ok (.ifCond .ne 158, 3) := by decide +kernel
theorem dX13_bodies_17 : decode cX13_bodies 17 = .ok (.aload_n 0, 1) := by decide +kernel
theorem dX13_bodies_18 : decode cX13_bodies 18 = .ok (.getfield 74, 3) := by decide +kernel
theorem dX13_bodies_21 : decode cX13_bodies 21 = .ok (.iload_n 1, 1) := by decide +kernel
theorem dX13_bodies_22 : decode cX13_bodies 22 = .ok (.iaload, 1) := by decide +kernel
theorem dX13_bodies_23 : decode cX13_bodies 23 = .ok (.ifCond .ne 6, 3) := by decide +kernel
theorem dX13_bodies_26 : decode cX13_bodies 26 = .ok (.goto 140, 3) := by decide +kernel
theorem dX13_bodies_29 : decode cX13_bodies 29 = .ok (.aload_n 0, 1) := by decide +kernel
theorem dX13_bodies_30 : decode cX13_bodies 30 = .ok (.iload_n 1, 1) := by decide +kernel
theorem dX13_bodies_31 : decode cX13_bodies 31 = .ok (.putfield 516, 3) := by decide +kernel
theorem dX13_bodies_34 : decode cX13_bodies 34 = .ok (.aload_n 0, 1) := by decide +kernel
theorem dX13_bodies_35 : decode cX13_bodies 35 = .ok (.bipush 8, 2) := by decide +kernel
theorem dX13_bodies_37 : decode cX13_bodies 37 = .ok (.aload_n 0, 1) := by decide +kernel
theorem dX13_bodies_38 : decode cX13_bodies 38 = .ok (.getfield 71, 3) := by decide +kernel
theorem dX13_bodies_41 : decode cX13_bodies 41 = .ok (.iload_n 1, 1) := by decide +kernel
theorem dX13_bodies_42 : decode cX13_bodies 42 = .ok (.iaload, 1) := by decide +kernel
theorem dX13_bodies_43 : decode cX13_bodies 43 = .ok (.iadd, 1) := by decide +kernel
theorem dX13_bodies_44 : decode cX13_bodies 44 = .ok (.putfield 519, 3) := by decide +kernel
theorem dX13_bodies_47 : decode cX13_bodies 47 = .ok (.aload_n 0, 1) := by decide +kernel
theorem dX13_bodies_48 : decode cX13_bodies 48 = .ok (.aload_n 0, 1) := by decide +kernel
theorem dX13_bodies_49 : decode cX13_bodies 49 = .ok (.getfield 74, 3) := by decide +kernel
theorem dX13_bodies_52 : decode cX13_bodies 52 = .ok (.iload_n 1, 1) := by decide +kernel
theorem dX13_bodies_53 : decode cX13_bodies 53 = .ok (.iaload, 1) := by decide +kernel
theorem dX13_bodies_54 : decode cX13_bodies 54 = .ok (.iconst 2, 1) := by decide +kernel
theorem dX13_bodies_55 : decode cX13_bodies 55 = .ok (.if_icmp .ne 7, 3) := by decide +kernel
theorem dX13_bodies_58 : decode cX13_bodies 58 = .ok (.iconst 1, 1) := by decide +kernel
theorem dX13_bodies_59 : decode cX13_bodies 59 = .ok (.goto 4, 3) := by decide +kernel
theorem dX13_bodies_62 : decode cX13_bodies 62 = .ok (.iconst 0, 1) := by decide +kernel
theorem dX13_bodies_63 : decode cX13_bodies 63 = .ok (.putfield 510, 3) := by decide +kernel
theorem dX13_bodies_66 : decode cX13_bodies 66 = .ok (.aload_n 0, 1) := by decide +kernel
theorem dX13_bodies_67 : decode cX13_bodies 67 = .ok (.iconst 0, 1) := by decide +kernel
theorem dX13_bodies_68 : decode cX13_bodies 68 = .ok (.putfield 513, 3) := by decide +kernel
theorem dX13_bodies_71 : decode cX13_bodies 71 = .ok (.aload_n 0, 1) := by decide +kernel
theorem dX13_bodies_72 : decode cX13_bodies 72 = .ok (.iconst 0, 1) := by decide +kernel
theorem dX13_bodies_73 : decode cX13_bodies 73 = .ok (.putfield 522, 3) := by decide +kernel
theorem dX13_bodies_76 : decode cX13_bodies 76 = .ok (.aload_n 0, 1) := by decide +kernel
theorem dX13_bodies_77 : decode cX13_bodies 77 = .ok (.iconst 0, 1) := by decide +kernel
theorem dX13_bodies_78 : decode cX13_bodies 78 = .ok (.putfield 525, 3) := by decide +kernel
theorem dX13_bodies_81 : decode cX13_bodies 81 = .ok (.iconst 0, 1) := by decide +kernel
theorem dX13_bodies_82 : decode cX13_bodies 82 = .ok (.istore_n 2, 1) := by decide +kernel
theorem dX13_bodies_83 : decode cX13_bodies 83 = .ok (.iload_n 2, 1) := by decide +kernel
theorem dX13_bodies_84 : decode cX13_bodies 84 = .ok (.aload_n 0, 1) := by decide +kernel
theorem dX13_bodies_85 : decode cX13_bodies 85 = .ok (.getfield 95, 3) := by decide +kernel
theorem dX13_bodies_88 : decode cX13_bodies 88 = .ok (.iload_n 1, 1) := by decide +kernel
theorem dX13_bodies_89 : decode cX13_bodies 89 = .ok (.iaload, 1) := by decide +kernel
theorem dX13_bodies_90 : decode cX13_bodies 90 = .ok (.if_icmp .ge 39, 3) := by decide +kernel
theorem dX13_bodies_93 : decode cX13_bodies 93 = .ok (.aload_n 0, 1) := by decide +kernel
theorem dX13_bodies_94 : decode cX13_bodies 94 = .ok (.aload_n 0, 1) := by decide +kernel
theorem dX13_bodies_95 : decode cX13_bodies 95 = .ok (.getfield 110, 3) := by decide +kernel
theorem dX13_bodies_98 : decode cX13_bodies 98 = .ok (.aload_n 0, 1) := by decide +kernel
theorem dX13_bodies_99 : decode cX13_bodies 99 = .ok (.getfield 92, 3) := by decide +kernel
theorem dX13_bodies_102 : decode cX13_bodies 102 = .ok (.iload_n 1, 1) := by decide +kernel
theorem dX13_bodies_103 : decode cX13_bodies 103 = .ok (.iaload, 1) := by decide +kernel
theorem dX13_bodies_104 : decode cX13_bodies 104 = .ok (.iload_n 2, 1) := by decide +kernel
theorem dX13_bodies_105 : decode cX13_bodies 105 = .ok (.iadd, 1) := by decide +kernel
theorem dX13_bodies_106 : decode cX13_bodies 106 = .ok (.iaload, 1) := by decide +kernel
theorem dX13_bodies_107 : decode cX13_bodies 107 = .ok (.aload_n 0, 1) := by decide +kernel
theorem dX13_bodies_108 : decode cX13_bodies 108 = .ok (.getfield 113, 3) := by decide +kernel
theorem dX13_bodies_111 : decode cX13_bodies 111 = .ok (.aload_n 0, 1) := by decide +kernel
theorem dX13_bodies_112 : decode cX13_bodies 112 = .ok (.getfield 92, 3) := by decide +kernel
theorem dX13_bodies_115 : decode cX13_bodies 115 = .ok (.iload_n 1, 1) := by decide +kernel
theorem dX13_bodies_116 : decode cX13_bodies 116 = .ok (.iaload, 1) := by decide +kernel
theorem dX13_bodies_117 : decode cX13_bodies 117 = .ok (.iload_n 2, 1) := by decide +kernel
theorem dX13_bodies_118 : decode cX13_bodies 118 = .ok (.iadd, 1) := by decide +kernel
theorem dX13_bodies_119 : decode cX13_bodies 119 = .ok (.iaload, 1) := by decide +kernel
theorem dX13_bodies_120 : decode cX13_bodies 120 = .ok (.invokevirtual 528, 3) := by decide +kernel
theorem dX13_bodies_123 : decode cX13_bodies 123 = .ok (.iinc 2 1, 3) := by decide +kernel
theorem dX13_bodies_126 : decode cX13_bodies 126 = .ok (.goto (-43), 3) := by decide +kernel
theorem dX13_bodies_129 : decode cX13_bodies 129 = .ok (.aload_n 0, 1) := by decide +kernel
theorem dX13_bodies_130 : decode cX13_bodies 130 = .ok (.aload_n 0, 1) := by decide +kernel
theorem dX13_bodies_131 : decode cX13_bodies 131 = .ok (.getfield 98, 3) := by decide +kernel
theorem dX13_bodies_134 : decode cX13_bodies 134 = .ok (.iload_n 1, 1) := by decide +kernel
theorem dX13_bodies_135 : decode cX13_bodies 135 = .ok (.iaload, 1) := by decide +kernel
theorem dX13_bodies_136 : decode cX13_bodies 136 = .ok (.invokevirtual 531, 3) := by decide +kernel
theorem dX13_bodies_139 : decode cX13_bodies 139 = .ok (.istore_n 2, 1) := by decide +kernel
theorem dX13_bodies_140 : decode cX13_bodies 140 = .ok (.iload_n 2, 1) := by decide +kernel
theorem dX13_bodies_141 : decode cX13_bodies 141 = .ok (.ifCond .eq 25, 3) := by decide +kernel
theorem dX13_bodies_144 : decode cX13_bodies 144 = .ok (.aload_n 0, 1) := by decide +kernel
theorem dX13_bodies_145 : decode cX13_bodies 145 = .ok (.getfield 89, 3) := by decide +kernel
theorem dX13_bodies_148 : decode cX13_bodies 148 = .ok (.iload_n 1, 1) := by decide +kernel
theorem dX13_bodies_149 : decode cX13_bodies 149 = .ok (.iaload, 1) := by decide +kernel
theorem dX13_bodies_150 : decode cX13_bodies 150 = .ok (.iconst 3, 1) := by decide +kernel
theorem dX13_bodies_151 : decode cX13_bodies 151 = .ok (.if_icmp .eq 15, 3) := by decide +kernel
theorem dX13_bodies_154 : decode cX13_bodies 154 = .ok (.aload_n 0, 1) := by decide +kernel
theorem dX13_bodies_155 : decode cX13_bodies 155 = .ok (.bipush 8, 2) := by decide +kernel
theorem dX13_bodies_157 : decode cX13_bodies 157 = .ok (.aload_n 0, 1) := by decide +kernel
theorem dX13_bodies_158 : decode cX13_bodies 158 = .ok (.getfield 86, 3) := by decide +kernel
theorem dX13_bodies_161 : decode cX13_bodies 161 = .ok (.iload_n 1, 1) := by decide +kernel
theorem dX13_bodies_162 : decode cX13_bodies 162 = .ok (.iaload, 1) := by decide +kernel
theorem dX13_bodies_163 : decode cX13_bodies 163 = .ok (.invokevirtual 379, 3) := by decide +kernel
theorem dX13_bodies_166 : decode cX13_bodies 166 = .ok (.iinc 1 1, 3) := by decide +kernel
theorem dX13_bodies_169 : decode cX13_bodies 169 = .ok (.goto (-167), 3) := by decide +kernel
theorem dX13_bodies_172 : decode cX13_bodies 172 = .ok (.return_, 1) := by decide +kernel
theorem rs_RX13_77 : mx_res RX13 77 = some (0, 13, 31) := by decide +kernel
theorem rs_RX13_80 : mx_res RX13 80 = some (0, 13, 32) := by decide +kernel
theorem rs_RX13_83 : mx_res RX13 83 = some (0, 13, 33) := by decide +kernel
theorem rs_RX13_101 : mx_res RX13 101 = some (0, 13, 40) := by decide +kernel
theorem rs_RX13_104 : mx_res RX13 104 = some (0, 13, 41) := by decide +kernel
theorem rs_RX13_107 : mx_res RX13 107 = some (0, 13, 42) := by decide +kernel
theorem mt_X13_memberHead : mx_mt 427 = some (yX13_memberHead, cX13_memberHead, 7, none) := rfl
theorem dX13_memberHead_0 : decode cX13_memberHead 0 = .ok (.aload_n 0, 1) := by decide +kernel
theorem dX13_memberHead_1 : decode cX13_memberHead 1 = .ok (.getfield 89, 3) := by decide +kernel
theorem dX13_memberHead_4 : decode cX13_memberHead 4 = .ok (.iload_n 1, 1) := by decide +kernel
theorem dX13_memberHead_5 : decode cX13_memberHead 5 = .ok (.aload_n 0, 1) := by decide +kernel
theorem dX13_memberHead_6 : decode cX13_memberHead 6 = .ok (.aload_n 0, 1) := by decide +kernel
theorem dX13_memberHead_7 : decode cX13_memberHead 7 = .ok (.getfield 77, 3) := by decide +kernel
theorem dX13_memberHead_10 : decode cX13_memberHead 10 = .ok (.iload_n 1, 1) := by decide +kernel
theorem dX13_memberHead_11 : decode cX13_memberHead 11 = .ok (.iaload, 1) := by decide +kernel
theorem dX13_memberHead_12 : decode cX13_memberHead 12 = .ok (.aload_n 0, 1) := by decide +kernel
theorem dX13_memberHead_13 : decode cX13_memberHead 13 = .ok (.getfield 80, 3) := by decide +kernel
theorem dX13_memberHead_16 : decode cX13_memberHead 16 = .ok (.iload_n 1, 1) := by decide +kernel
theorem dX13_memberHead_17 : decode cX13_memberHead 17 = .ok (.iaload, 1) := by decide +kernel
theorem dX13_memberHead_18 : decode cX13_memberHead 18 = .ok (.aload_n 0, 1) := by decide +kernel
theorem dX13_memberHead_19 : decode cX13_memberHead 19 = .ok (.getfield 83, 3) := by decide +kernel
theorem dX13_memberHead_22 : decode cX13_memberHead 22 = .ok (.iload_n 1, 1) := by decide +kernel
theorem dX13_memberHead_23 : decode cX13_memberHead 23 = .ok (.baload, 1) := by decide +kernel
theorem dX13_memberHead_24 : decode cX13_memberHead 24 = .ok (.invokevirtual 503, 3) := by decide +kernel
theorem dX13_memberHead_27 : decode cX13_memberHead 27 = .ok (.iastore, 1) := by decide +kernel
theorem dX13_memberHead_28 : decode cX13_memberHead 28 = .ok (.iconst 0, 1) := by decide +kernel
theorem dX13_memberHead_29 : decode cX13_memberHead 29 = .ok (.istore_n 2, 1) := by decide +kernel
theorem dX13_memberHead_30 : decode cX13_memberHead 30 = .ok (.iconst 0, 1) := by decide +kernel
theorem dX13_memberHead_31 : decode cX13_memberHead 31 = .ok (.istore_n 3, 1) := by decide +kernel
theorem dX13_memberHead_32 : decode cX13_memberHead 32 = .ok (.iconst 0, 1) := by decide +kernel
theorem dX13_memberHead_33 : decode cX13_memberHead 33 = .ok (.istore 4, 2) := by decide +kernel
theorem dX13_memberHead_35 : decode cX13_memberHead 35 = .ok (.iload 4, 2) := by decide +kernel
theorem dX13_memberHead_37 : decode cX13_memberHead 37 = .ok (.iload_n 1, 1) := by decide +kernel
theorem dX13_memberHead_38 : decode cX13_memberHead 38 = .ok (.if_icmp .ge 83, 3) := by decide +kernel
theorem dX13_memberHead_41 : decode cX13_memberHead 41 = .ok (.aload_n 0, 1) := by decide +kernel
theorem dX13_memberHead_42 : decode cX13_memberHead 42 = .ok (.getfield 71, 3) := by decide +kernel
theorem dX13_memberHead_45 : decode cX13_memberHead 45 = .ok (.iload 4, 2) := by decide +kernel
theorem dX13_memberHead_47 : decode cX13_memberHead 47 = .ok (.iaload, 1) := by decide +kernel
theorem dX13_memberHead_48 : decode cX13_memberHead 48 = .ok (.aload_n 0, 1) := by decide +kernel
theorem dX13_memberHead_49 : decode cX13_memberHead 49 = .ok (.getfield 71, 3) := by decide +kernel
theorem dX13_memberHead_52 : decode cX13_memberHead 52 = .ok (.iload_n 1, 1) := by decide +kernel
theorem dX13_memberHead_53 : decode cX13_memberHead 53 = .ok (.iaload, 1) := by decide +kernel
theorem dX13_memberHead_54 : decode cX13_memberHead 54 = .ok (.if_icmp .ne 61, 3) := by decide +kernel
theorem dX13_memberHead_57 : decode cX13_memberHead 57 = .ok (.aload_n 0, 1) := by decide +kernel
theorem dX13_memberHead_58 : decode cX13_memberHead 58 = .ok (.getfield 74, 3) := by decide +kernel
theorem dX13_memberHead_61 : decode cX13_memberHead 61 = .ok (.iload 4, 2) := by decide +kernel
theorem dX13_memberHead_63 : decode cX13_memberHead 63 = .ok (.iaload, 1) := by decide +kernel
theorem dX13_memberHead_64 : decode cX13_memberHead 64 = .ok (.ifCond .le 7, 3) := by decide +kernel
theorem dX13_memberHead_67 : decode cX13_memberHead 67 = .ok (.iconst 1, 1) := by decide +kernel
theorem dX13_memberHead_68 : decode cX13_memberHead 68 = .ok (.goto 4, 3) := by decide +kernel
theorem dX13_memberHead_71 : decode cX13_memberHead 71 = .ok (.iconst 0, 1) := by decide +kernel
theorem dX13_memberHead_72 : decode cX13_memberHead 72 = .ok (.aload_n 0, 1) := by decide +kernel
theorem dX13_memberHead_73 : decode cX13_memberHead 73 = .ok (.getfield 74, 3) := by decide +kernel
theorem dX13_memberHead_76 : decode cX13_memberHead 76 = .ok (.iload_n 1, 1) := by decide +kernel
theorem dX13_memberHead_77 : decode cX13_memberHead 77 = .ok (.iaload, 1) := by decide +kernel
theorem dX13_memberHead_78 : decode cX13_memberHead 78 = .ok (.ifCond .le 7, 3) := by decide +kernel
theorem dX13_memberHead_81 : decode cX13_memberHead 81 = .ok (.iconst 1, 1) := by decide +kernel
theorem dX13_memberHead_82 : decode cX13_memberHead 82 = .ok (.goto 4, 3) := by decide +kernel
theorem dX13_memberHead_85 : decode cX13_memberHead 85 = .ok (.iconst 0, 1) := by decide +kernel
theorem dX13_memberHead_86 : decode cX13_memberHead 86 = .ok (.if_icmp .eq 6, 3) := by decide +kernel
theorem dX13_memberHead_89 : decode cX13_memberHead 89 = .ok (.goto 26, 3) := by decide +kernel
theorem dX13_memberHead_92 : decode cX13_memberHead 92 = .ok (.iinc 2 1, 3) := by decide +kernel
theorem dX13_memberHead_95 : decode cX13_memberHead 95 = .ok (.iload_n 3, 1) := by decide +kernel
theorem dX13_memberHead_96 : decode cX13_memberHead 96 = .ok (.aload_n 0, 1) := by decide +kernel
theorem dX13_memberHead_97 : decode cX13_memberHead 97 = .ok (.aload_n 0, 1) := by decide +kernel
theorem dX13_memberHead_98 : decode cX13_memberHead 98 = .ok (.getfield 86, 3) := by decide +kernel
theorem dX13_memberHead_101 : decode cX13_memberHead 101 = .ok (.iload 4, 2) := by decide +kernel
theorem dX13_memberHead_103 : decode cX13_memberHead 103 = .ok (.iaload, 1) := by decide +kernel
theorem dX13_memberHead_104 : decode cX13_memberHead 104 = .ok (.aload_n 0, 1) := by decide +kernel
theorem dX13_memberHead_105 : decode cX13_memberHead 105 = .ok (.getfield 86, 3) := by decide +kernel
theorem dX13_memberHead_108 : decode cX13_memberHead 108 = .ok (.iload_n 1, 1) := by decide +kernel
theorem dX13_memberHead_109 : decode cX13_memberHead 109 = .ok (.iaload, 1) := by decide +kernel
theorem dX13_memberHead_110 : decode cX13_memberHead 110 = .ok (.invokevirtual 479, 3) := by decide +kernel
theorem dX13_memberHead_113 : decode cX13_memberHead 113 = .ok (.ior, 1) := by decide +kernel
theorem dX13_memberHead_114 : decode cX13_memberHead 114 = .ok (.istore_n 3, 1) := by decide +kernel
theorem dX13_memberHead_115 : decode cX13_memberHead 115 = .ok (.iinc 4 1, 3) := by decide +kernel
theorem dX13_memberHead_118 : decode cX13_memberHead 118 = .ok (.goto (-83), 3) := by decide +kernel
theorem dX13_memberHead_121 : decode cX13_memberHead 121 = .ok (.iload_n 2, 1) := by decide +kernel
theorem dX13_memberHead_122 : decode cX13_memberHead 122 = .ok (.bipush 12, 2) := by decide +kernel
theorem dX13_memberHead_124 : decode cX13_memberHead 124 = .ok (.if_icmp .ne 15, 3) := by decide +kernel
theorem dX13_memberHead_127 : decode cX13_memberHead 127 = .ok (.aload_n 0, 1) := by decide +kernel
theorem dX13_memberHead_128 : decode cX13_memberHead 128 = .ok (.bipush 11, 2) := by decide +kernel
theorem dX13_memberHead_130 : decode cX13_memberHead 130 = .ok (.aload_n 0, 1) := by decide +kernel
theorem dX13_memberHead_131 : decode cX13_memberHead 131 = .ok (.getfield 86, 3) := by decide +kernel
theorem dX13_memberHead_134 : decode cX13_memberHead 134 = .ok (.iload_n 1, 1) := by decide +kernel
theorem dX13_memberHead_135 : decode cX13_memberHead 135 = .ok (.iaload, 1) := by decide +kernel
theorem dX13_memberHead_136 : decode cX13_memberHead 136 = .ok (.invokevirtual 379, 3) := by decide +kernel
theorem dX13_memberHead_139 : decode cX13_memberHead 139 = .ok (.iload_n 3, 1) := by decide +kernel
theorem dX13_memberHead_140 : decode cX13_memberHead 140 = .ok (.ifCond .eq 14, 3) := by decide +kernel
theorem dX13_memberHead_143 : decode cX13_memberHead 143 = .ok (.aload_n 0, 1) := by decide +kernel
theorem dX13_memberHead_144 : decode cX13_memberHead 144 = .ok (.iconst 4, 1) := by decide +kernel
theorem dX13_memberHead_145 : decode cX13_memberHead 145 = .ok (.aload_n 0, 1) := by decide +kernel
theorem dX13_memberHead_146 : decode cX13_memberHead 146 = .ok (.getfield 86, 3) := by decide +kernel
theorem dX13_memberHead_149 : decode cX13_memberHead 149 = .ok (.iload_n 1, 1) := by decide +kernel
theorem dX13_memberHead_150 : decode cX13_memberHead 150 = .ok (.iaload, 1) := by decide +kernel
theorem dX13_memberHead_151 : decode cX13_memberHead 151 = .ok (.invokevirtual 379, 3) := by decide +kernel
theorem dX13_memberHead_154 : decode cX13_memberHead 154 = .ok (.iconst 0, 1) := by decide +kernel
theorem dX13_memberHead_155 : decode cX13_memberHead 155 = .ok (.istore 4, 2) := by decide +kernel
theorem dX13_memberHead_157 : decode cX13_memberHead 157 = .ok (.iload 4, 2) := by decide +kernel
theorem dX13_memberHead_159 : decode cX13_memberHead 159 = .ok (.aload_n 0, 1) := by decide +kernel
theorem dX13_memberHead_160 : decode cX13_memberHead 160 = .ok (.getfield 95, 3) := by decide +kernel
theorem dX13_memberHead_163 : decode cX13_memberHead 163 = .ok (.iload_n 1, 1) := by decide +kernel
theorem dX13_memberHead_164 : decode cX13_memberHead 164 = .ok (.iaload, 1) := by decide +kernel
theorem dX13_memberHead_165 : decode cX13_memberHead 165 = .ok (.if_icmp .ge 126, 3) := by decide +kernel
theorem dX13_memberHead_168 : decode cX13_memberHead 168 = .ok (.aload_n 0, 1) := by decide +kernel
theorem dX13_memberHead_169 : decode cX13_memberHead 169 = .ok (.getfield 92, 3) := by decide +kernel
theorem dX13_memberHead_172 : decode cX13_memberHead 172 = .ok (.iload_n 1, 1) := by decide +kernel
theorem dX13_memberHead_173 : decode cX13_memberHead 173 = .ok (.iaload, 1) := by decide +kernel
theorem dX13_memberHead_174 : decode cX13_memberHead 174 = .ok (.iload 4, 2) := by decide +kernel
theorem dX13_memberHead_176 : decode cX13_memberHead 176 = .ok (.iadd, 1) := by decide +kernel
theorem dX13_memberHead_177 : decode cX13_memberHead 177 = .ok (.istore 5, 2) := by decide +kernel
theorem dX13_memberHead_179 : decode cX13_memberHead 179 = .ok (.aload_n 0, 1) := by decide +kernel
theorem dX13_memberHead_180 : decode cX13_memberHead 180 = .ok (.getfield 113, 3) := by decide +kernel
theorem dX13_memberHead_183 : decode cX13_memberHead 183 = .ok (.iload 5, 2) := by decide +kernel
theorem dX13_memberHead_185 : decode cX13_memberHead 185 = .ok (.aload_n 0, 1) := by decide +kernel
theorem dX13_memberHead_186 : decode cX13_memberHead 186 = .ok (.aload_n 0, 1) := by decide +kernel
theorem dX13_memberHead_187 : decode cX13_memberHead 187 = .ok (.getfield 101, 3) := by decide +kernel
theorem dX13_memberHead_190 : decode cX13_memberHead 190 = .ok (.iload 5, 2) := by decide +kernel
theorem dX13_memberHead_192 : decode cX13_memberHead 192 = .ok (.iaload, 1) := by decide +kernel
theorem dX13_memberHead_193 : decode cX13_memberHead 193 = .ok (.aload_n 0, 1) := by decide +kernel
theorem dX13_memberHead_194 : decode cX13_memberHead 194 = .ok (.getfield 104, 3) := by decide +kernel
theorem dX13_memberHead_197 : decode cX13_memberHead 197 = .ok (.iload 5, 2) := by decide +kernel
theorem dX13_memberHead_199 : decode cX13_memberHead 199 = .ok (.iaload, 1) := by decide +kernel
theorem dX13_memberHead_200 : decode cX13_memberHead 200 = .ok (.aload_n 0, 1) := by decide +kernel
theorem dX13_memberHead_201 : decode cX13_memberHead 201 = .ok (.getfield 107, 3) := by decide +kernel
theorem dX13_memberHead_204 : decode cX13_memberHead 204 = .ok (.iload 5, 2) := by decide +kernel
theorem dX13_memberHead_206 : decode cX13_memberHead 206 = .ok (.baload, 1) := by decide +kernel
theorem dX13_memberHead_207 : decode cX13_memberHead 207 = .ok (.invokevirtual 503, 3) := by decide +kernel
theorem dX13_memberHead_210 : decode cX13_memberHead 210 = .ok (.iastore, 1) := by decide +kernel
theorem dX13_memberHead_211 : decode cX13_memberHead 211 = .ok (.iload 4, 2) := by decide +kernel
theorem dX13_memberHead_213 : decode cX13_memberHead 213 = .ok (.bipush 6, 2) := by decide +kernel
theorem dX13_memberHead_215 : decode cX13_memberHead 215 = .ok (.if_icmp .ne 16, 3) := by decide +kernel
theorem dX13_memberHead_218 : decode cX13_memberHead 218 = .ok (.aload_n 0, 1) := by decide +kernel
theorem dX13_memberHead_219 : decode cX13_memberHead 219 = .ok (.bipush 11, 2) := by decide +kernel
theorem dX13_memberHead_221 : decode cX13_memberHead 221 = .ok (.aload_n 0, 1) := by decide +kernel
theorem dX13_memberHead_222 : decode cX13_memberHead 222 = .ok (.getfield 110, 3) := by decide +kernel
theorem dX13_memberHead_225 : decode cX13_memberHead 225 = .ok (.iload 5, 2) := by decide +kernel
theorem dX13_memberHead_227 : decode cX13_memberHead 227 = .ok (.iaload, 1) := by decide +kernel
theorem dX13_memberHead_228 : decode cX13_memberHead 228 = .ok (.invokevirtual 379, 3) := by decide +kernel
theorem dX13_memberHead_231 : decode cX13_memberHead 231 = .ok (.aload_n 0, 1) := by decide +kernel
theorem dX13_memberHead_232 : decode cX13_memberHead 232 = .ok (.getfield 92, 3) := by decide +kernel
theorem dX13_memberHead_235 : decode cX13_memberHead 235 = .ok (.iload_n 1, 1) := by decide +kernel
theorem dX13_memberHead_236 : decode cX13_memberHead 236 = .ok (.iaload, 1) := by decide +kernel
theorem dX13_memberHead_237 : decode cX13_memberHead 237 = .ok (.istore 6, 2) := by decide +kernel
theorem dX13_memberHead_239 : decode cX13_memberHead 239 = .ok (.iload 6, 2) := by decide +kernel
theorem dX13_memberHead_241 : decode cX13_memberHead 241 = .ok (.iload 5, 2) := by decide +kernel
theorem dX13_memberHead_243 : decode cX13_memberHead 243 = .ok (.if_icmp .ge 42, 3) := by decide +kernel
theorem dX13_memberHead_246 : decode cX13_memberHead 246 = .ok (.aload_n 0, 1) := by decide +kernel
theorem dX13_memberHead_247 : decode cX13_memberHead 247 = .ok (.aload_n 0, 1) := by decide +kernel
theorem dX13_memberHead_248 : decode cX13_memberHead 248 = .ok (.getfield 110, 3) := by decide +kernel
theorem dX13_memberHead_251 : decode cX13_memberHead 251 = .ok (.iload 6, 2) := by decide +kernel
theorem dX13_memberHead_253 : decode cX13_memberHead 253 = .ok (.iaload, 1) := by decide +kernel
theorem dX13_memberHead_254 : decode cX13_memberHead 254 = .ok (.aload_n 0, 1) := by decide +kernel
theorem dX13_memberHead_255 : decode cX13_memberHead 255 = .ok (.getfield 110, 3) := by decide +kernel
theorem dX13_memberHead_258 : decode cX13_memberHead 258 = .ok (.iload 5, 2) := by decide +kernel
theorem dX13_memberHead_260 : decode cX13_memberHead 260 = .ok (.iaload, 1) := by decide +kernel
theorem dX13_memberHead_261 : decode cX13_memberHead 261 = .ok (.invokevirtual 479, 3) := by decide +kernel
theorem dX13_memberHead_264 : decode cX13_memberHead 264 = .ok (.ifCond .eq 15, 3) := by decide +kernel
theorem dX13_memberHead_267 : decode cX13_memberHead 267 = .ok (.aload_n 0, 1) := by decide +kernel
theorem dX13_memberHead_268 : decode cX13_memberHead 268 = .ok (.iconst 4, 1) := by decide +kernel
theorem dX13_memberHead_269 : decode cX13_memberHead 269 = .ok (.aload_n 0, 1) := by decide +kernel
theorem dX13_memberHead_270 : decode cX13_memberHead 270 = .ok (.getfield 110, 3) := by decide +kernel
theorem dX13_memberHead_273 : decode cX13_memberHead 273 = .ok (.iload 5, 2) := by decide +kernel
theorem dX13_memberHead_275 : decode cX13_memberHead 275 = .ok (.iaload, 1) := by decide +kernel
theorem dX13_memberHead_276 : decode cX13_memberHead 276 = .ok (.invokevirtual 379, 3) := by decide +kernel
theorem dX13_memberHead_279 : decode cX13_memberHead 279 = .ok (.iinc 6 1, 3) := by decide +kernel
theorem dX13_memberHead_282 : decode cX13_memberHead 282 = .ok (.goto (-43), 3) := by decide +kernel
theorem dX13_memberHead_285 : decode cX13_memberHead 285 = .ok (.iinc 4 1, 3) := by decide +kernel
theorem dX13_memberHead_288 : decode cX13_memberHead 288 = .ok (.goto (-131), 3) := by decide +kernel
theorem dX13_memberHead_291 : decode cX13_memberHead 291 = .ok (.return_, 1) := by decide +kernel
theorem mt_X13_overrides : mx_mt 428 = some (yX13_overrides, cX13_overrides, 5, none) := rfl
theorem dX13_overrides_0 : decode cX13_overrides 0 = .ok (.aload_n 0, 1) := by decide +kernel
theorem dX13_overrides_1 : decode cX13_overrides 1 = .ok (.aload_n 0, 1) := by decide +kernel
theorem dX13_overrides_2 : decode cX13_overrides 2 = .ok (.bipush 8, 2) := by decide +kernel
theorem dX13_overrides_4 : decode cX13_overrides 4 = .ok (.aload_n 0, 1) := by decide +kernel
theorem dX13_overrides_5 : decode cX13_overrides 5 = .ok (.getfield 71, 3) := by decide +kernel
theorem dX13_overrides_8 : decode cX13_overrides 8 = .ok (.iload_n 1, 1) := by decide +kernel
theorem dX13_overrides_9 : decode cX13_overrides 9 = .ok (.iaload, 1) := by decide +kernel
theorem dX13_overrides_10 : decode cX13_overrides 10 = .ok (.iadd, 1) := by decide +kernel
theorem dX13_overrides_11 : decode cX13_overrides 11 = .ok (.invokevirtual 482, 3) := by decide +kernel
theorem dX13_overrides_14 : decode cX13_overrides 14 = .ok (.aload_n 0, 1) := by decide +kernel
theorem dX13_overrides_15 : decode cX13_overrides 15 = .ok (.getfield 86, 3) := by decide +kernel
theorem dX13_overrides_18 : decode cX13_overrides 18 = .ok (.iload_n 1, 1) := by decide +kernel
theorem dX13_overrides_19 : decode cX13_overrides 19 = .ok (.iaload, 1) := by decide +kernel
theorem dX13_overrides_20 : decode cX13_overrides 20 = .ok (.iconst 1, 1) := by decide +kernel
theorem dX13_overrides_21 : decode cX13_overrides 21 = .ok (.invokevirtual 507, 3) := by decide +kernel
theorem dX13_overrides_24 : decode cX13_overrides 24 = .ok (.istore_n 2, 1) := by decide +kernel
theorem dX13_overrides_25 : decode cX13_overrides 25 = .ok (.iload_n 2, 1) := by decide +kernel
theorem dX13_overrides_26 : decode cX13_overrides 26 = .ok (.iconst (-1), 1) := by decide +kernel
theorem dX13_overrides_27 : decode cX13_overrides 27 = .ok (.if_icmp .ne 4, 3) := by decide +kernel
theorem dX13_overrides_30 : decode cX13_overrides 30 = .ok (.return_, 1) := by decide +kernel
theorem dX13_overrides_31 : decode cX13_overrides 31 = .ok (.aload_n 0, 1) := by decide +kernel
theorem dX13_overrides_32 : decode cX13_overrides 32 = .ok (.getfield 74, 3) := by decide +kernel
theorem dX13_overrides_35 : decode cX13_overrides 35 = .ok (.iload_n 1, 1) := by decide +kernel
theorem dX13_overrides_36 : decode cX13_overrides 36 = .ok (.iaload, 1) := by decide +kernel
theorem dX13_overrides_37 : decode cX13_overrides 37 = .ok (.iconst 1, 1) := by decide +kernel
theorem dX13_overrides_38 : decode cX13_overrides 38 = .ok (.if_icmp .ne 47, 3) := by decide +kernel
theorem dX13_overrides_41 : decode cX13_overrides 41 = .ok (.aload_n 0, 1) := by decide +kernel
theorem dX13_overrides_42 : decode cX13_overrides 42 = .ok (.getfield 74, 3) := by decide +kernel
theorem dX13_overrides_45 : decode cX13_overrides 45 = .ok (.iload_n 2, 1) := by decide +kernel
theorem dX13_overrides_46 : decode cX13_overrides 46 = .ok (.iaload, 1) := by decide +kernel
theorem dX13_overrides_47 : decode cX13_overrides 47 = .ok (.iconst 1, 1) := by decide +kernel
theorem dX13_overrides_48 : decode cX13_overrides 48 = .ok (.if_icmp .ne 37, 3) := by decide +kernel
theorem dX13_overrides_51 : decode cX13_overrides 51 = .ok (.aload_n 0, 1) := by decide +kernel
theorem dX13_overrides_52 : decode cX13_overrides 52 = .ok (.getfield 89, 3) := by decide +kernel
theorem dX13_overrides_55 : decode cX13_overrides 55 = .ok (.iload_n 1, 1) := by decide +kernel
theorem dX13_overrides_56 : decode cX13_overrides 56 = .ok (.iaload, 1) := by decide +kernel
theorem dX13_overrides_57 : decode cX13_overrides 57 = .ok (.aload_n 0, 1) := by decide +kernel
theorem dX13_overrides_58 : decode cX13_overrides 58 = .ok (.getfield 89, 3) := by decide +kernel
theorem dX13_overrides_61 : decode cX13_overrides 61 = .ok (.iload_n 2, 1) := by decide +kernel
theorem dX13_overrides_62 : decode cX13_overrides 62 = .ok (.iaload, 1) := by decide +kernel
theorem dX13_overrides_63 : decode cX13_overrides 63 = .ok (.if_icmp .ne 22, 3) := by decide +kernel
theorem dX13_overrides_66 : decode cX13_overrides 66 = .ok (.aload_n 0, 1) := by decide +kernel
theorem dX13_overrides_67 : decode cX13_overrides 67 = .ok (.getfield 95, 3) := by decide +kernel
theorem dX13_overrides_70 : decode cX13_overrides 70 = .ok (.iload_n 1, 1) := by decide +kernel
theorem dX13_overrides_71 : decode cX13_overrides 71 = .ok (.iaload, 1) := by decide +kernel
theorem dX13_overrides_72 : decode cX13_overrides 72 = .ok (.aload_n 0, 1) := by decide +kernel
theorem dX13_overrides_73 : decode cX13_overrides 73 = .ok (.getfield 95, 3) := by decide +kernel
theorem dX13_overrides_76 : decode cX13_overrides 76 = .ok (.iload_n 2, 1) := by decide +kernel
theorem dX13_overrides_77 : decode cX13_overrides 77 = .ok (.iaload, 1) := by decide +kernel
theorem dX13_overrides_78 : decode cX13_overrides 78 = .ok (.if_icmp .ne 7, 3) := by decide +kernel
theorem dX13_overrides_81 : decode cX13_overrides 81 = .ok (.iconst 1, 1) := by decide +kernel
theorem dX13_overrides_82 : decode cX13_overrides 82 = .ok (.goto 4, 3) := by decide +kernel
theorem dX13_overrides_85 : decode cX13_overrides 85 = .ok (.iconst 0, 1) := by decide +kernel
theorem dX13_overrides_86 : decode cX13_overrides 86 = .ok (.istore_n 3, 1) := by decide +kernel
theorem dX13_overrides_87 : decode cX13_overrides 87 = .ok (.iconst 0, 1) := by decide +kernel
theorem dX13_overrides_88 : decode cX13_overrides 88 = .ok (.istore 4, 2) := by decide +kernel
theorem dX13_overrides_90 : decode cX13_overrides 90 = .ok (.iload 4, 2) := by decide +kernel
theorem dX13_overrides_92 : decode cX13_overrides 92 = .ok (.aload_n 0, 1) := by decide +kernel
theorem dX13_overrides_93 : decode cX13_overrides 93 = .ok (.getfield 95, 3) := by decide +kernel
theorem dX13_overrides_96 : decode cX13_overrides 96 = .ok (.iload_n 1, 1) := by decide +kernel
theorem dX13_overrides_97 : decode cX13_overrides 97 = .ok (.iaload, 1) := by decide +kernel
theorem dX13_overrides_98 : decode cX13_overrides 98 = .ok (.if_icmp .ge 50, 3) := by decide +kernel
theorem dX13_overrides_101 : decode cX13_overrides 101 = .ok (.iload_n 3, 1) := by decide +kernel
theorem dX13_overrides_102 : decode cX13_overrides 102 = .ok (.ifCond .eq 46, 3) := by decide +kernel
theorem dX13_overrides_105 : decode cX13_overrides 105 = .ok (.aload_n 0, 1) := by decide +kernel
theorem dX13_overrides_106 : decode cX13_overrides 106 = .ok (.getfield 113, 3) := by decide +kernel
theorem dX13_overrides_109 : decode cX13_overrides 109 = .ok (.aload_n 0, 1) := by decide +kernel
theorem dX13_overrides_110 : decode cX13_overrides 110 = .ok (.getfield 92, 3) := by decide +kernel
theorem dX13_overrides_113 : decode cX13_overrides 113 = .ok (.iload_n 1, 1) := by decide +kernel
theorem dX13_overrides_114 : decode cX13_overrides 114 = .ok (.iaload, 1) := by decide +kernel
theorem dX13_overrides_115 : decode cX13_overrides 115 = .ok (.iload 4, 2) := by decide +kernel
theorem dX13_overrides_117 : decode cX13_overrides 117 = .ok (.iadd, 1) := by decide +kernel
theorem dX13_overrides_118 : decode cX13_overrides 118 = .ok (.iaload, 1) := by decide +kernel
theorem dX13_overrides_119 : decode cX13_overrides 119 = .ok (.aload_n 0, 1) := by decide +kernel
theorem dX13_overrides_120 : decode cX13_overrides 120 = .ok (.getfield 113, 3) := by decide +kernel
theorem dX13_overrides_123 : decode cX13_overrides 123 = .ok (.aload_n 0, 1) := by decide +kernel
theorem dX13_overrides_124 : decode cX13_overrides 124 = .ok (.getfield 92, 3) := by decide +kernel
theorem dX13_overrides_127 : decode cX13_overrides 127 = .ok (.iload_n 2, 1) := by decide +kernel
theorem dX13_overrides_128 : decode cX13_overrides 128 = .ok (.iaload, 1) := by decide +kernel
theorem dX13_overrides_129 : decode cX13_overrides 129 = .ok (.iload 4, 2) := by decide +kernel
theorem dX13_overrides_131 : decode cX13_overrides 131 = .ok (.iadd, 1) := by decide +kernel
theorem dX13_overrides_132 : decode cX13_overrides 132 = .ok (.iaload, 1) := by decide +kernel
theorem dX13_overrides_133 : decode cX13_overrides 133 = .ok (.if_icmp .ne 7, 3) := by decide +kernel
theorem dX13_overrides_136 : decode cX13_overrides 136 = .ok (.iconst 1, 1) := by decide +kernel
theorem dX13_overrides_137 : decode cX13_overrides 137 = .ok (.goto 4, 3) := by decide +kernel
theorem dX13_overrides_140 : decode cX13_overrides 140 = .ok (.iconst 0, 1) := by decide +kernel
theorem dX13_overrides_141 : decode cX13_overrides 141 = .ok (.istore_n 3, 1) := by decide +kernel
theorem dX13_overrides_142 : decode cX13_overrides 142 = .ok (.iinc 4 1, 3) := by decide +kernel
theorem dX13_overrides_145 : decode cX13_overrides 145 = .ok (.goto (-55), 3) := by decide +kernel
theorem dX13_overrides_148 : decode cX13_overrides 148 = .ok (.iload_n 3, 1) := by decide +kernel
theorem dX13_overrides_149 : decode cX13_overrides 149 = .ok (.ifCond .ne 15, 3) := by decide +kernel
theorem dX13_overrides_152 : decode cX13_overrides 152 = .ok (.aload_n 0, 1) := by decide +kernel
theorem dX13_overrides_153 : decode cX13_overrides 153 = .ok (.bipush 10, 2) := by decide +kernel
theorem dX13_overrides_155 : decode cX13_overrides 155 = .ok (.aload_n 0, 1) := by decide +kernel
theorem dX13_overrides_156 : decode cX13_overrides 156 = .ok (.getfield 86, 3) := by decide +kernel
theorem dX13_overrides_159 : decode cX13_overrides 159 = .ok (.iload_n 1, 1) := by decide +kernel
theorem dX13_overrides_160 : decode cX13_overrides 160 = .ok (.iaload, 1) := by decide +kernel
theorem dX13_overrides_161 : decode cX13_overrides 161 = .ok (.invokevirtual 379, 3) := by decide +kernel
theorem dX13_overrides_164 : decode cX13_overrides 164 = .ok (.return_, 1) := by decide +kernel
theorem rs_RX13_65 : mx_res RX13 65 = some (0, 13, 26) := by decide +kernel
theorem rs_RX13_497 : mx_res RX13 497 = some (1, 427, 1) := by decide +kernel
theorem rs_RX13_500 : mx_res RX13 500 = some (1, 428, 1) := by decide +kernel
theorem mt_X13_heads : mx_mt 426 = some (yX13_heads, cX13_heads, 4, none) := rfl
theorem dX13_heads_0 : decode cX13_heads 0 = .ok (.iconst 0, 1) := by decide +kernel
theorem dX13_heads_1 : decode cX13_heads 1 = .ok (.istore_n 1, 1) := by decide +kernel
theorem dX13_heads_2 : decode cX13_heads 2 = .ok (.iload_n 1, 1) := by decide +kernel
theorem dX13_heads_3 : decode cX13_heads 3 = .ok (.aload_n 0, 1) := by decide +kernel
theorem dX13_heads_4 : decode cX13_heads 4 = .ok (.getfield 409, 3) := by decide +kernel
theorem dX13_heads_7 : decode cX13_heads 7 = .ok (.if_icmp .ge 41, 3) := by decide +kernel
theorem dX13_heads_10 : decode cX13_heads 10 = .ok (.aload_n 0, 1) := by decide +kernel
theorem dX13_heads_11 : decode cX13_heads 11 = .ok (.getfield 65, 3) := by decide +kernel
theorem dX13_heads_14 : decode cX13_heads 14 = .ok (.iload_n 1, 1) := by decide +kernel
theorem dX13_heads_15 : decode cX13_heads 15 = .ok (.iaload, 1) := by decide +kernel
theorem dX13_heads_16 : decode cX13_heads 16 = .ok (.iconst (-1), 1) := by decide +kernel
theorem dX13_heads_17 : decode cX13_heads 17 = .ok (.if_icmp .ne 7, 3) := by decide +kernel
theorem dX13_heads_20 : decode cX13_heads 20 = .ok (.iconst 0, 1) := by decide +kernel
theorem dX13_heads_21 : decode cX13_heads 21 = .ok (.goto 13, 3) := by decide +kernel
theorem dX13_heads_24 : decode cX13_heads 24 = .ok (.aload_n 0, 1) := by decide +kernel
theorem dX13_heads_25 : decode cX13_heads 25 = .ok (.aload_n 0, 1) := by decide +kernel
theorem dX13_heads_26 : decode cX13_heads 26 = .ok (.getfield 65, 3) := by decide +kernel
theorem dX13_heads_29 : decode cX13_heads 29 = .ok (.iload_n 1, 1) := by decide +kernel
theorem dX13_heads_30 : decode cX13_heads 30 = .ok (.iaload, 1) := by decide +kernel
theorem dX13_heads_31 : decode cX13_heads 31 = .ok (.invokevirtual 494, 3) := by decide +kernel
theorem dX13_heads_34 : decode cX13_heads 34 = .ok (.istore_n 2, 1) := by decide +kernel
theorem dX13_heads_35 : decode cX13_heads 35 = .ok (.aload_n 0, 1) := by decide +kernel
theorem dX13_heads_36 : decode cX13_heads 36 = .ok (.getfield 68, 3) := by decide +kernel
theorem dX13_heads_39 : decode cX13_heads 39 = .ok (.iload_n 1, 1) := by decide +kernel
theorem dX13_heads_40 : decode cX13_heads 40 = .ok (.iload_n 2, 1) := by decide +kernel
theorem dX13_heads_41 : decode cX13_heads 41 = .ok (.iastore, 1) := by decide +kernel
theorem dX13_heads_42 : decode cX13_heads 42 = .ok (.iinc 1 1, 3) := by decide +kernel
theorem dX13_heads_45 : decode cX13_heads 45 = .ok (.goto (-43), 3) := by decide +kernel
theorem dX13_heads_48 : decode cX13_heads 48 = .ok (.iconst 0, 1) := by decide +kernel
theorem dX13_heads_49 : decode cX13_heads 49 = .ok (.istore_n 1, 1) := by decide +kernel
theorem dX13_heads_50 : decode cX13_heads 50 = .ok (.iload_n 1, 1) := by decide +kernel
theorem dX13_heads_51 : decode cX13_heads 51 = .ok (.aload_n 0, 1) := by decide +kernel
theorem dX13_heads_52 : decode cX13_heads 52 = .ok (.getfield 409, 3) := by decide +kernel
theorem dX13_heads_55 : decode cX13_heads 55 = .ok (.if_icmp .ge 135, 3) := by decide +kernel
theorem dX13_heads_58 : decode cX13_heads 58 = .ok (.aload_n 0, 1) := by decide +kernel
theorem dX13_heads_59 : decode cX13_heads 59 = .ok (.getfield 319, 3) := by decide +kernel
theorem dX13_heads_62 : decode cX13_heads 62 = .ok (.ifCond .ne 128, 3) := by decide +kernel
theorem dX13_heads_65 : decode cX13_heads 65 = .ok (.iload_n 1, 1) := by decide +kernel
theorem dX13_heads_66 : decode cX13_heads 66 = .ok (.bipush 8, 2) := by decide +kernel
theorem dX13_heads_68 : decode cX13_heads 68 = .ok (.if_icmp .ne 15, 3) := by decide +kernel
theorem dX13_heads_71 : decode cX13_heads 71 = .ok (.aload_n 0, 1) := by decide +kernel
theorem dX13_heads_72 : decode cX13_heads 72 = .ok (.bipush 11, 2) := by decide +kernel
theorem dX13_heads_74 : decode cX13_heads 74 = .ok (.aload_n 0, 1) := by decide +kernel
theorem dX13_heads_75 : decode cX13_heads 75 = .ok (.getfield 62, 3) := by decide +kernel
theorem dX13_heads_78 : decode cX13_heads 78 = .ok (.iload_n 1, 1) := by decide +kernel
theorem dX13_heads_79 : decode cX13_heads 79 = .ok (.iaload, 1) := by decide +kernel
theorem dX13_heads_80 : decode cX13_heads 80 = .ok (.invokevirtual 379, 3) := by decide +kernel
theorem dX13_heads_83 : decode cX13_heads 83 = .ok (.aload_n 0, 1) := by decide +kernel
theorem dX13_heads_84 : decode cX13_heads 84 = .ok (.aload_n 0, 1) := by decide +kernel
theorem dX13_heads_85 : decode cX13_heads 85 = .ok (.getfield 62, 3) := by decide +kernel
theorem dX13_heads_88 : decode cX13_heads 88 = .ok (.iload_n 1, 1) := by decide +kernel
theorem dX13_heads_89 : decode cX13_heads 89 = .ok (.iaload, 1) := by decide +kernel
theorem dX13_heads_90 : decode cX13_heads 90 = .ok (.invokevirtual 494, 3) := by decide +kernel
theorem dX13_heads_93 : decode cX13_heads 93 = .ok (.bipush 8, 2) := by decide +kernel
theorem dX13_heads_95 : decode cX13_heads 95 = .ok (.iload_n 1, 1) := by decide +kernel
theorem dX13_heads_96 : decode cX13_heads 96 = .ok (.iadd, 1) := by decide +kernel
theorem dX13_heads_97 : decode cX13_heads 97 = .ok (.if_icmp .eq 14, 3) := by decide +kernel
theorem dX13_heads_100 : decode cX13_heads 100 = .ok (.aload_n 0, 1) := by decide +kernel
theorem dX13_heads_101 : decode cX13_heads 101 = .ok (.iconst 4, 1) := by decide +kernel
theorem dX13_heads_102 : decode cX13_heads 102 = .ok (.aload_n 0, 1) := by decide +kernel
theorem dX13_heads_103 : decode cX13_heads 103 = .ok (.getfield 62, 3) := by decide +kernel
theorem dX13_heads_106 : decode cX13_heads 106 = .ok (.iload_n 1, 1) := by decide +kernel
theorem dX13_heads_107 : decode cX13_heads 107 = .ok (.iaload, 1) := by decide +kernel
theorem dX13_heads_108 : decode cX13_heads 108 = .ok (.invokevirtual 379, 3) := by decide +kernel
theorem dX13_heads_111 : decode cX13_heads 111 = .ok (.aload_n 0, 1) := by decide +kernel
theorem dX13_heads_112 : decode cX13_heads 112 = .ok (.getfield 68, 3) := by decide +kernel
theorem dX13_heads_115 : decode cX13_heads 115 = .ok (.iload_n 1, 1) := by decide +kernel
theorem dX13_heads_116 : decode cX13_heads 116 = .ok (.iaload, 1) := by decide +kernel
theorem dX13_heads_117 : decode cX13_heads 117 = .ok (.iconst (-1), 1) := by decide +kernel
theorem dX13_heads_118 : decode cX13_heads 118 = .ok (.if_icmp .ne 14, 3) := by decide +kernel
theorem dX13_heads_121 : decode cX13_heads 121 = .ok (.aload_n 0, 1) := by decide +kernel
theorem dX13_heads_122 : decode cX13_heads 122 = .ok (.iconst 5, 1) := by decide +kernel
theorem dX13_heads_123 : decode cX13_heads 123 = .ok (.aload_n 0, 1) := by decide +kernel
theorem dX13_heads_124 : decode cX13_heads 124 = .ok (.getfield 65, 3) := by decide +kernel
theorem dX13_heads_127 : decode cX13_heads 127 = .ok (.iload_n 1, 1) := by decide +kernel
theorem dX13_heads_128 : decode cX13_heads 128 = .ok (.iaload, 1) := by decide +kernel
theorem dX13_heads_129 : decode cX13_heads 129 = .ok (.invokevirtual 379, 3) := by decide +kernel
theorem dX13_heads_132 : decode cX13_heads 132 = .ok (.bipush 8, 2) := by decide +kernel
theorem dX13_heads_134 : decode cX13_heads 134 = .ok (.iload_n 1, 1) := by decide +kernel
theorem dX13_heads_135 : decode cX13_heads 135 = .ok (.iadd, 1) := by decide +kernel
theorem dX13_heads_136 : decode cX13_heads 136 = .ok (.istore_n 2, 1) := by decide +kernel
theorem dX13_heads_137 : decode cX13_heads 137 = .ok (.iconst 0, 1) := by decide +kernel
theorem dX13_heads_138 : decode cX13_heads 138 = .ok (.istore_n 3, 1) := by decide +kernel
theorem dX13_heads_139 : decode cX13_heads 139 = .ok (.iload_n 3, 1) := by decide +kernel
theorem dX13_heads_140 : decode cX13_heads 140 = .ok (.aload_n 0, 1) := by decide +kernel
theorem dX13_heads_141 : decode cX13_heads 141 = .ok (.getfield 409, 3) := by decide +kernel
theorem dX13_heads_144 : decode cX13_heads 144 = .ok (.bipush 9, 2) := by decide +kernel
theorem dX13_heads_146 : decode cX13_heads 146 = .ok (.iadd, 1) := by decide +kernel
theorem dX13_heads_147 : decode cX13_heads 147 = .ok (.if_icmp .gt 20, 3) := by decide +kernel
theorem dX13_heads_150 : decode cX13_heads 150 = .ok (.iload_n 2, 1) := by decide +kernel
theorem dX13_heads_151 : decode cX13_heads 151 = .ok (.iconst (-1), 1) := by decide +kernel
theorem dX13_heads_152 : decode cX13_heads 152 = .ok (.if_icmp .eq 15, 3) := by decide +kernel
theorem dX13_heads_155 : decode cX13_heads 155 = .ok (.aload_n 0, 1) := by decide +kernel
theorem dX13_heads_156 : decode cX13_heads 156 = .ok (.iload_n 2, 1) := by decide +kernel
theorem dX13_heads_157 : decode cX13_heads 157 = .ok (.invokevirtual 482, 3) := by decide +kernel
theorem dX13_heads_160 : decode cX13_heads 160 = .ok (.istore_n 2, 1) := by decide +kernel
theorem dX13_heads_161 : decode cX13_heads 161 = .ok (.iinc 3 1, 3) := by decide +kernel
theorem dX13_heads_164 : decode cX13_heads 164 = .ok (.goto (-25), 3) := by decide +kernel
theorem dX13_heads_167 : decode cX13_heads 167 = .ok (.iload_n 2, 1) := by decide +kernel
theorem dX13_heads_168 : decode cX13_heads 168 = .ok (.iconst (-1), 1) := by decide +kernel
theorem dX13_heads_169 : decode cX13_heads 169 = .ok (.if_icmp .eq 15, 3) := by decide +kernel
theorem dX13_heads_172 : decode cX13_heads 172 = .ok (.aload_n 0, 1) := by decide +kernel
theorem dX13_heads_173 : decode cX13_heads 173 = .ok (.bipush 6, 2) := by decide +kernel
theorem dX13_heads_175 : decode cX13_heads 175 = .ok (.aload_n 0, 1) := by decide +kernel
theorem dX13_heads_176 : decode cX13_heads 176 = .ok (.getfield 65, 3) := by decide +kernel
theorem dX13_heads_179 : decode cX13_heads 179 = .ok (.iload_n 1, 1) := by decide +kernel
theorem dX13_heads_180 : decode cX13_heads 180 = .ok (.iaload, 1) := by decide +kernel
theorem dX13_heads_181 : decode cX13_heads 181 = .ok (.invokevirtual 379, 3) := by decide +kernel
theorem dX13_heads_184 : decode cX13_heads 184 = .ok (.iinc 1 1, 3) := by decide +kernel
theorem dX13_heads_187 : decode cX13_heads 187 = .ok (.goto (-137), 3) := by decide +kernel
theorem dX13_heads_190 : decode cX13_heads 190 = .ok (.iconst 0, 1) := by decide +kernel
theorem dX13_heads_191 : decode cX13_heads 191 = .ok (.istore_n 1, 1) := by decide +kernel
theorem dX13_heads_192 : decode cX13_heads 192 = .ok (.iload_n 1, 1) := by decide +kernel
theorem dX13_heads_193 : decode cX13_heads 193 = .ok (.aload_n 0, 1) := by decide +kernel
theorem dX13_heads_194 : decode cX13_heads 194 = .ok (.getfield 412, 3) := by decide +kernel
theorem dX13_heads_197 : decode cX13_heads 197 = .ok (.if_icmp .ge 21, 3) := by decide +kernel
theorem dX13_heads_200 : decode cX13_heads 200 = .ok (.aload_n 0, 1) := by decide +kernel
theorem dX13_heads_201 : decode cX13_heads 201 = .ok (.getfield 319, 3) := by decide +kernel
theorem dX13_heads_204 : decode cX13_heads 204 = .ok (.ifCond .ne 14, 3) := by decide +kernel
theorem dX13_heads_207 : decode cX13_heads 207 = .ok (.aload_n 0, 1) := by decide +kernel
theorem dX13_heads_208 : decode cX13_heads 208 = .ok (.iload_n 1, 1) := by decide +kernel
theorem dX13_heads_209 : decode cX13_heads 209 = .ok (.invokevirtual 497, 3) := by decide +kernel
theorem dX13_heads_212 : decode cX13_heads 212 = .ok (.iinc 1 1, 3) := by decide +kernel
theorem dX13_heads_215 : decode cX13_heads 215 = .ok (.goto (-23), 3) := by decide +kernel
theorem dX13_heads_218 : decode cX13_heads 218 = .ok (.iconst 0, 1) := by decide +kernel
theorem dX13_heads_219 : decode cX13_heads 219 = .ok (.istore_n 1, 1) := by decide +kernel
theorem dX13_heads_220 : decode cX13_heads 220 = .ok (.iload_n 1, 1) := by decide +kernel
theorem dX13_heads_221 : decode cX13_heads 221 = .ok (.aload_n 0, 1) := by decide +kernel
theorem dX13_heads_222 : decode cX13_heads 222 = .ok (.getfield 412, 3) := by decide +kernel
theorem dX13_heads_225 : decode cX13_heads 225 = .ok (.if_icmp .ge 30, 3) := by decide +kernel
theorem dX13_heads_228 : decode cX13_heads 228 = .ok (.aload_n 0, 1) := by decide +kernel
theorem dX13_heads_229 : decode cX13_heads 229 = .ok (.getfield 319, 3) := by decide +kernel
theorem dX13_heads_232 : decode cX13_heads 232 = .ok (.ifCond .ne 23, 3) := by decide +kernel
theorem dX13_heads_235 : decode cX13_heads 235 = .ok (.aload_n 0, 1) := by decide +kernel
theorem dX13_heads_236 : decode cX13_heads 236 = .ok (.getfield 74, 3) := by decide +kernel
theorem dX13_heads_239 : decode cX13_heads 239 = .ok (.iload_n 1, 1) := by decide +kernel
theorem dX13_heads_240 : decode cX13_heads 240 = .ok (.iaload, 1) := by decide +kernel
theorem dX13_heads_241 : decode cX13_heads 241 = .ok (.ifCond .le 8, 3) := by decide +kernel
theorem dX13_heads_244 : decode cX13_heads 244 = .ok (.aload_n 0, 1) := by decide +kernel
theorem dX13_heads_245 : decode cX13_heads 245 = .ok (.iload_n 1, 1) := by decide +kernel
theorem dX13_heads_246 : decode cX13_heads 246 = .ok (.invokevirtual 500, 3) := by decide +kernel
theorem dX13_heads_249 : decode cX13_heads 249 = .ok (.iinc 1 1, 3) := by decide +kernel
theorem dX13_heads_252 : decode cX13_heads 252 = .ok (.goto (-32), 3) := by decide +kernel
theorem dX13_heads_255 : decode cX13_heads 255 = .ok (.return_, 1) := by decide +kernel
