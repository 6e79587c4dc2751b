theorem rs_RX13_169 : mx_res RX13 169 = some (0, 13, 80) := by decide +kernel
theorem rs_RX13_172 : mx_res RX13 172 = some (0, 13, 81) := by decide +kernel
theorem rs_RX13_175 : mx_res RX13 175 = some (0, 13, 82) := by decide +kernel
theorem rs_RX13_178 : mx_res RX13 178 = some (0, 13, 83) := by decide +kernel
theorem rs_RX13_187 : mx_res RX13 187 = some (0, 13, 89) := by decide +kernel
theorem rs_RX13_190 : mx_res RX13 190 = some (0, 13, 90) := by decide +kernel
theorem rs_RX13_664 : mx_res RX13 664 = some (1, 467, 1) := by decide +kernel
theorem rs_RX13_670 : mx_res RX13 670 = some (1, 466, 2) := by decide +kernel
theorem rs_RX13_673 : mx_res RX13 673 = some (1, 465, 2) := by decide +kernel
theorem rs_RX13_685 : mx_res RX13 685 = some (1, 468, 2) := by decide +kernel
theorem rs_RX13_688 : mx_res RX13 688 = some (1, 469, 2) := by decide +kernel
theorem rs_RX13_691 : mx_res RX13 691 = some (1, 470, 2) := by decide +kernel
theorem rs_RX13_694 : mx_res RX13 694 = some (0, 13, 84) := by decide +kernel
theorem ft_13_84 : mx_fty 13 84 = some (.int, false, "ClassMillModel") := by decide +kernel
theorem mt_X13_make : mx_mt 467 = some (yX13_make, cX13_make, 8, (some .boolean)) := rfl
theorem dX13_guard_0 : decode cX13_guard 0 = .ok (.aload_n 0, 1) := by decide +kernel
theorem dX13_guard_1 : decode cX13_guard 1 = .ok (.invokevirtual 676, 3) := by decide +kernel
theorem dX13_guard_4 : decode cX13_guard 4 = .ok (.istore_n 3, 1) := by decide +kernel
theorem dX13_guard_5 : decode cX13_guard 5 = .ok (.aload_n 0, 1) := by decide +kernel
theorem dX13_guard_6 : decode cX13_guard 6 = .ok (.getfield 627, 3) := by decide +kernel
theorem dX13_guard_9 : decode cX13_guard 9 = .ok (.istore 4, 2) := by decide +kernel
theorem dX13_guard_11 : decode cX13_guard 11 = .ok (.aload_n 0, 1) := by decide +kernel
theorem dX13_guard_12 : decode cX13_guard 12 = .ok (.iconst 0, 1) := by decide +kernel
theorem dX13_guard_13 : decode cX13_guard 13 = .ok (.invokevirtual 646, 3) := by decide +kernel
theorem dX13_guard_16 : decode cX13_guard 16 = .ok (.aload_n 0, 1) := by decide +kernel
theorem dX13_guard_17 : decode cX13_guard 17 = .ok (.aload_n 0, 1) := by decide +kernel
theorem dX13_guard_18 : decode cX13_guard 18 = .ok (.getfield 37, 3) := by decide +kernel
theorem dX13_guard_21 : decode cX13_guard 21 = .ok (.iload_n 1, 1) := by decide +kernel
theorem dX13_guard_22 : decode cX13_guard 22 = .ok (.iaload, 1) := by decide +kernel
theorem dX13_guard_23 : decode cX13_guard 23 = .ok (.invokevirtual 664, 3) := by decide +kernel
theorem dX13_guard_26 : decode cX13_guard 26 = .ok (.istore 5, 2) := by decide +kernel
theorem dX13_guard_28 : decode cX13_guard 28 = .ok (.aload_n 0, 1) := by decide +kernel
theorem dX13_guard_29 : decode cX13_guard 29 = .ok (.getfield 627, 3) := by decide +kernel
theorem dX13_guard_32 : decode cX13_guard 32 = .ok (.istore 6, 2) := by decide +kernel
theorem dX13_guard_34 : decode cX13_guard 34 = .ok (.iload 5, 2) := by decide +kernel
theorem dX13_guard_36 : decode cX13_guard 36 = .ok (.ifCond .eq 11, 3) := by decide +kernel
theorem dX13_guard_39 : decode cX13_guard 39 = .ok (.aload_n 0, 1) := by decide +kernel
theorem dX13_guard_40 : decode cX13_guard 40 = .ok (.sipush 167, 3) := by decide +kernel
theorem dX13_guard_43 : decode cX13_guard 43 = .ok (.iload_n 3, 1) := by decide +kernel
theorem dX13_guard_44 : decode cX13_guard 44 = .ok (.invokevirtual 679, 3) := by decide +kernel
theorem dX13_guard_47 : decode cX13_guard 47 = .ok (.aload_n 0, 1) := by decide +kernel
theorem dX13_guard_48 : decode cX13_guard 48 = .ok (.getfield 694, 3) := by decide +kernel
theorem dX13_guard_51 : decode cX13_guard 51 = .ok (.istore 7, 2) := by decide +kernel
theorem dX13_guard_53 : decode cX13_guard 53 = .ok (.aload_n 0, 1) := by decide +kernel
theorem dX13_guard_54 : decode cX13_guard 54 = .ok (.dup, 1) := by decide +kernel
theorem dX13_guard_55 : decode cX13_guard 55 = .ok (.getfield 694, 3) := by decide +kernel
theorem dX13_guard_58 : decode cX13_guard 58 = .ok (.iconst 1, 1) := by decide +kernel
theorem dX13_guard_59 : decode cX13_guard 59 = .ok (.iadd, 1) := by decide +kernel
theorem dX13_guard_60 : decode cX13_guard 60 = .ok (.putfield 694, 3) := by decide +kernel
theorem dX13_guard_63 : decode cX13_guard 63 = .ok (.aload_n 0, 1) := by decide +kernel
theorem dX13_guard_64 : decode cX13_guard 64 = .ok (.getfield 169, 3) := by decide +kernel
theorem dX13_guard_67 : decode cX13_guard 67 = .ok (.iload 7, 2) := by decide +kernel
theorem dX13_guard_69 : decode cX13_guard 69 = .ok (.iload 4, 2) := by decide +kernel
theorem dX13_guard_71 : decode cX13_guard 71 = .ok (.iastore, 1) := by decide +kernel
theorem dX13_guard_72 : decode cX13_guard 72 = .ok (.aload_n 0, 1) := by decide +kernel
theorem dX13_guard_73 : decode cX13_guard 73 = .ok (.getfield 172, 3) := by decide +kernel
theorem dX13_guard_76 : decode cX13_guard 76 = .ok (.iload 7, 2) := by decide +kernel
theorem dX13_guard_78 : decode cX13_guard 78 = .ok (.iload 6, 2) := by decide +kernel
theorem dX13_guard_80 : decode cX13_guard 80 = .ok (.iastore, 1) := by decide +kernel
theorem dX13_guard_81 : decode cX13_guard 81 = .ok (.aload_n 0, 1) := by decide +kernel
theorem dX13_guard_82 : decode cX13_guard 82 = .ok (.getfield 175, 3) := by decide +kernel
theorem dX13_guard_85 : decode cX13_guard 85 = .ok (.iload 7, 2) := by decide +kernel
theorem dX13_guard_87 : decode cX13_guard 87 = .ok (.aload_n 0, 1) := by decide +kernel
theorem dX13_guard_88 : decode cX13_guard 88 = .ok (.getfield 627, 3) := by decide +kernel
theorem dX13_guard_91 : decode cX13_guard 91 = .ok (.iastore, 1) := by decide +kernel
theorem dX13_guard_92 : decode cX13_guard 92 = .ok (.aload_n 0, 1) := by decide +kernel
theorem dX13_guard_93 : decode cX13_guard 93 = .ok (.getfield 178, 3) := by decide +kernel
theorem dX13_guard_96 : decode cX13_guard 96 = .ok (.iload 7, 2) := by decide +kernel
theorem dX13_guard_98 : decode cX13_guard 98 = .ok (.aload_n 0, 1) := by decide +kernel
theorem dX13_guard_99 : decode cX13_guard 99 = .ok (.getfield 49, 3) := by decide +kernel
theorem dX13_guard_102 : decode cX13_guard 102 = .ok (.iload_n 1, 1) := by decide +kernel
theorem dX13_guard_103 : decode cX13_guard 103 = .ok (.iaload, 1) := by decide +kernel
theorem dX13_guard_104 : decode cX13_guard 104 = .ok (.iastore, 1) := by decide +kernel
theorem dX13_guard_105 : decode cX13_guard 105 = .ok (.aload_n 0, 1) := by decide +kernel
theorem dX13_guard_106 : decode cX13_guard 106 = .ok (.aload_n 0, 1) := by decide +kernel
theorem dX13_guard_107 : decode cX13_guard 107 = .ok (.getfield 49, 3) := by decide +kernel
theorem dX13_guard_110 : decode cX13_guard 110 = .ok (.iload_n 1, 1) := by decide +kernel
theorem dX13_guard_111 : decode cX13_guard 111 = .ok (.iaload, 1) := by decide +kernel
theorem dX13_guard_112 : decode cX13_guard 112 = .ok (.invokevirtual 640, 3) := by decide +kernel
theorem dX13_guard_115 : decode cX13_guard 115 = .ok (.aload_n 0, 1) := by decide +kernel
theorem dX13_guard_116 : decode cX13_guard 116 = .ok (.aload_n 0, 1) := by decide +kernel
theorem dX13_guard_117 : decode cX13_guard 117 = .ok (.getfield 627, 3) := by decide +kernel
theorem dX13_guard_120 : decode cX13_guard 120 = .ok (.invokevirtual 649, 3) := by decide +kernel
theorem dX13_guard_123 : decode cX13_guard 123 = .ok (.aload_n 0, 1) := by decide +kernel
theorem dX13_guard_124 : decode cX13_guard 124 = .ok (.iconst 2, 1) := by decide +kernel
theorem dX13_guard_125 : decode cX13_guard 125 = .ok (.aload_n 0, 1) := by decide +kernel
theorem dX13_guard_126 : decode cX13_guard 126 = .ok (.getfield 513, 3) := by decide +kernel
theorem dX13_guard_129 : decode cX13_guard 129 = .ok (.invokevirtual 670, 3) := by decide +kernel
theorem dX13_guard_132 : decode cX13_guard 132 = .ok (.aload_n 0, 1) := by decide +kernel
theorem dX13_guard_133 : decode cX13_guard 133 = .ok (.aload_n 0, 1) := by decide +kernel
theorem dX13_guard_134 : decode cX13_guard 134 = .ok (.getfield 55, 3) := by decide +kernel
theorem dX13_guard_137 : decode cX13_guard 137 = .ok (.iload_n 1, 1) := by decide +kernel
theorem dX13_guard_138 : decode cX13_guard 138 = .ok (.iaload, 1) := by decide +kernel
theorem dX13_guard_139 : decode cX13_guard 139 = .ok (.aload_n 0, 1) := by decide +kernel
theorem dX13_guard_140 : decode cX13_guard 140 = .ok (.getfield 49, 3) := by decide +kernel
theorem dX13_guard_143 : decode cX13_guard 143 = .ok (.iload_n 1, 1) := by decide +kernel
theorem dX13_guard_144 : decode cX13_guard 144 = .ok (.iaload, 1) := by decide +kernel
theorem dX13_guard_145 : decode cX13_guard 145 = .ok (.invokevirtual 673, 3) := by decide +kernel
theorem dX13_guard_148 : decode cX13_guard 148 = .ok (.aload_n 0, 1) := by decide +kernel
theorem dX13_guard_149 : decode cX13_guard 149 = .ok (.aload_n 0, 1) := by decide +kernel
theorem dX13_guard_150 : decode cX13_guard 150 = .ok (.getfield 40, 3) := by decide +kernel
theorem dX13_guard_153 : decode cX13_guard 153 = .ok (.iload_n 1, 1) := by decide +kernel
theorem dX13_guard_154 : decode cX13_guard 154 = .ok (.iaload, 1) := by decide +kernel
theorem dX13_guard_155 : decode cX13_guard 155 = .ok (.invokevirtual 664, 3) := by decide +kernel
theorem dX13_guard_158 : decode cX13_guard 158 = .ok (.istore 8, 2) := by decide +kernel
theorem dX13_guard_160 : decode cX13_guard 160 = .ok (.aload_n 0, 1) := by decide +kernel
theorem dX13_guard_161 : decode cX13_guard 161 = .ok (.iload_n 2, 1) := by decide +kernel
theorem dX13_guard_162 : decode cX13_guard 162 = .ok (.putfield 513, 3) := by decide +kernel
theorem dX13_guard_165 : decode cX13_guard 165 = .ok (.aload_n 0, 1) := by decide +kernel
theorem dX13_guard_166 : decode cX13_guard 166 = .ok (.iload_n 3, 1) := by decide +kernel
theorem dX13_guard_167 : decode cX13_guard 167 = .ok (.aload_n 0, 1) := by decide +kernel
theorem dX13_guard_168 : decode cX13_guard 168 = .ok (.getfield 627, 3) := by decide +kernel
theorem dX13_guard_171 : decode cX13_guard 171 = .ok (.invokevirtual 682, 3) := by decide +kernel
theorem dX13_guard_174 : decode cX13_guard 174 = .ok (.iload 5, 2) := by decide +kernel
theorem dX13_guard_176 : decode cX13_guard 176 = .ok (.ifCond .ne 8, 3) := by decide +kernel
theorem dX13_guard_179 : decode cX13_guard 179 = .ok (.iload 8, 2) := by decide +kernel
theorem dX13_guard_181 : decode cX13_guard 181 = .ok (.ifCond .eq 7, 3) := by decide +kernel
theorem dX13_guard_184 : decode cX13_guard 184 = .ok (.iconst 1, 1) := by decide +kernel
theorem dX13_guard_185 : decode cX13_guard 185 = .ok (.goto 4, 3) := by decide +kernel
theorem dX13_guard_188 : decode cX13_guard 188 = .ok (.iconst 0, 1) := by decide +kernel
theorem dX13_guard_189 : decode cX13_guard 189 = .ok (.ireturn, 1) := by decide +kernel
theorem dX13_make_0 : decode cX13_make 0 = .ok (.aload_n 0, 1) := by decide +kernel
theorem dX13_make_1 : decode cX13_make 1 = .ok (.getfield 513, 3) := by decide +kernel
theorem dX13_make_4 : decode cX13_make 4 = .ok (.istore_n 2, 1) := by decide +kernel
theorem dX13_make_5 : decode cX13_make 5 = .ok (.iconst 1, 1) := by decide +kernel
theorem dX13_make_6 : decode cX13_make 6 = .ok (.istore_n 3, 1) := by decide +kernel
theorem dX13_make_7 : decode cX13_make 7 = .ok (.aload_n 0, 1) := by decide +kernel
theorem dX13_make_8 : decode cX13_make 8 = .ok (.getfield 28, 3) := by decide +kernel
theorem dX13_make_11 : decode cX13_make 11 = .ok (.iload_n 1, 1) := by decide +kernel
theorem dX13_make_12 : decode cX13_make 12 = .ok (.iaload, 1) := by decide +kernel
theorem dX13_make_13 : decode cX13_make 13 = .ok (.tableswitch 508 1 11 #[59, 99, 141, 285, 292, 292, 332, 400, 429, 436, 465], 59) := by decide +kernel
theorem dX13_make_72 : decode cX13_make 72 = .ok (.aload_n 0, 1) := by decide +kernel
theorem dX13_make_73 : decode cX13_make 73 = .ok (.getfield 37, 3) := by decide +kernel
theorem dX13_make_76 : decode cX13_make 76 = .ok (.iload_n 1, 1) := by decide +kernel
theorem dX13_make_77 : decode cX13_make 77 = .ok (.iaload, 1) := by decide +kernel
theorem dX13_make_78 : decode cX13_make 78 = .ok (.istore 7, 2) := by decide +kernel
theorem dX13_make_80 : decode cX13_make 80 = .ok (.iload 7, 2) := by decide +kernel
theorem dX13_make_82 : decode cX13_make 82 = .ok (.iconst (-1), 1) := by decide +kernel
theorem dX13_make_83 : decode cX13_make 83 = .ok (.if_icmp .eq 22, 3) := by decide +kernel
theorem dX13_make_86 : decode cX13_make 86 = .ok (.aload_n 0, 1) := by decide +kernel
theorem dX13_make_87 : decode cX13_make 87 = .ok (.iload 7, 2) := by decide +kernel
theorem dX13_make_89 : decode cX13_make 89 = .ok (.invokevirtual 664, 3) := by decide +kernel
theorem dX13_make_92 : decode cX13_make 92 = .ok (.istore_n 3, 1) := by decide +kernel
theorem dX13_make_93 : decode cX13_make 93 = .ok (.aload_n 0, 1) := by decide +kernel
theorem dX13_make_94 : decode cX13_make 94 = .ok (.getfield 46, 3) := by decide +kernel
theorem dX13_make_97 : decode cX13_make 97 = .ok (.iload 7, 2) := by decide +kernel
theorem dX13_make_99 : decode cX13_make 99 = .ok (.iaload, 1) := by decide +kernel
theorem dX13_make_100 : decode cX13_make 100 = .ok (.istore 7, 2) := by decide +kernel
theorem dX13_make_102 : decode cX13_make 102 = .ok (.goto (-22), 3) := by decide +kernel
theorem dX13_make_105 : decode cX13_make 105 = .ok (.aload_n 0, 1) := by decide +kernel
theorem dX13_make_106 : decode cX13_make 106 = .ok (.iload_n 2, 1) := by decide +kernel
theorem dX13_make_107 : decode cX13_make 107 = .ok (.putfield 513, 3) := by decide +kernel
theorem dX13_make_110 : decode cX13_make 110 = .ok (.iload_n 3, 1) := by decide +kernel
theorem dX13_make_111 : decode cX13_make 111 = .ok (.ireturn, 1) := by decide +kernel
theorem dX13_make_112 : decode cX13_make 112 = .ok (.aload_n 0, 1) := by decide +kernel
theorem dX13_make_113 : decode cX13_make 113 = .ok (.aload_n 0, 1) := by decide +kernel
theorem dX13_make_114 : decode cX13_make 114 = .ok (.getfield 37, 3) := by decide +kernel
theorem dX13_make_117 : decode cX13_make 117 = .ok (.iload_n 1, 1) := by decide +kernel
theorem dX13_make_118 : decode cX13_make 118 = .ok (.iaload, 1) := by decide +kernel
theorem dX13_make_119 : decode cX13_make 119 = .ok (.invokevirtual 667, 3) := by decide +kernel
theorem dX13_make_122 : decode cX13_make 122 = .ok (.aload_n 0, 1) := by decide +kernel
theorem dX13_make_123 : decode cX13_make 123 = .ok (.aload_n 0, 1) := by decide +kernel
theorem dX13_make_124 : decode cX13_make 124 = .ok (.getfield 49, 3) := by decide +kernel
theorem dX13_make_127 : decode cX13_make 127 = .ok (.iload_n 1, 1) := by decide +kernel
theorem dX13_make_128 : decode cX13_make 128 = .ok (.iaload, 1) := by decide +kernel
theorem dX13_make_129 : decode cX13_make 129 = .ok (.aload_n 0, 1) := by decide +kernel
theorem dX13_make_130 : decode cX13_make 130 = .ok (.getfield 513, 3) := by decide +kernel
theorem dX13_make_133 : decode cX13_make 133 = .ok (.invokevirtual 670, 3) := by decide +kernel
theorem dX13_make_136 : decode cX13_make 136 = .ok (.aload_n 0, 1) := by decide +kernel
theorem dX13_make_137 : decode cX13_make 137 = .ok (.aload_n 0, 1) := by decide +kernel
theorem dX13_make_138 : decode cX13_make 138 = .ok (.getfield 31, 3) := by decide +kernel
theorem dX13_make_141 : decode cX13_make 141 = .ok (.iload_n 1, 1) := by decide +kernel
theorem dX13_make_142 : decode cX13_make 142 = .ok (.iaload, 1) := by decide +kernel
theorem dX13_make_143 : decode cX13_make 143 = .ok (.aload_n 0, 1) := by decide +kernel
theorem dX13_make_144 : decode cX13_make 144 = .ok (.getfield 49, 3) := by decide +kernel
theorem dX13_make_147 : decode cX13_make 147 = .ok (.iload_n 1, 1) := by decide +kernel
theorem dX13_make_148 : decode cX13_make 148 = .ok (.iaload, 1) := by decide +kernel
theorem dX13_make_149 : decode cX13_make 149 = .ok (.invokevirtual 673, 3) := by decide +kernel
theorem dX13_make_152 : decode cX13_make 152 = .ok (.iconst 1, 1) := by decide +kernel
theorem dX13_make_153 : decode cX13_make 153 = .ok (.ireturn, 1) := by decide +kernel
theorem dX13_make_154 : decode cX13_make 154 = .ok (.aload_n 0, 1) := by decide +kernel
theorem dX13_make_155 : decode cX13_make 155 = .ok (.invokevirtual 676, 3) := by decide +kernel
theorem dX13_make_158 : decode cX13_make 158 = .ok (.istore 5, 2) := by decide +kernel
theorem dX13_make_160 : decode cX13_make 160 = .ok (.aload_n 0, 1) := by decide +kernel
theorem dX13_make_161 : decode cX13_make 161 = .ok (.aload_n 0, 1) := by decide +kernel
theorem dX13_make_162 : decode cX13_make 162 = .ok (.getfield 37, 3) := by decide +kernel
theorem dX13_make_165 : decode cX13_make 165 = .ok (.iload_n 1, 1) := by decide +kernel
theorem dX13_make_166 : decode cX13_make 166 = .ok (.iaload, 1) := by decide +kernel
theorem dX13_make_167 : decode cX13_make 167 = .ok (.invokevirtual 667, 3) := by decide +kernel
theorem dX13_make_170 : decode cX13_make 170 = .ok (.aload_n 0, 1) := by decide +kernel
theorem dX13_make_171 : decode cX13_make 171 = .ok (.dup, 1) := by decide +kernel
theorem dX13_make_172 : decode cX13_make 172 = .ok (.getfield 629, 3) := by decide +kernel
theorem dX13_make_175 : decode cX13_make 175 = .ok (.iconst 1, 1) := by decide +kernel
theorem dX13_make_176 : decode cX13_make 176 = .ok (.isub, 1) := by decide +kernel
theorem dX13_make_177 : decode cX13_make 177 = .ok (.putfield 629, 3) := by decide +kernel
theorem dX13_make_180 : decode cX13_make 180 = .ok (.aload_n 0, 1) := by decide +kernel
theorem dX13_make_181 : decode cX13_make 181 = .ok (.sipush 153, 3) := by decide +kernel
theorem dX13_make_184 : decode cX13_make 184 = .ok (.iload 5, 2) := by decide +kernel
theorem dX13_make_186 : decode cX13_make 186 = .ok (.invokevirtual 679, 3) := by decide +kernel
theorem dX13_make_189 : decode cX13_make 189 = .ok (.aload_n 0, 1) := by decide +kernel
theorem dX13_make_190 : decode cX13_make 190 = .ok (.aload_n 0, 1) := by decide +kernel
theorem dX13_make_191 : decode cX13_make 191 = .ok (.getfield 40, 3) := by decide +kernel
theorem dX13_make_194 : decode cX13_make 194 = .ok (.iload_n 1, 1) := by decide +kernel
theorem dX13_make_195 : decode cX13_make 195 = .ok (.iaload, 1) := by decide +kernel
theorem dX13_make_196 : decode cX13_make 196 = .ok (.invokevirtual 664, 3) := by decide +kernel
theorem dX13_make_199 : decode cX13_make 199 = .ok (.istore_n 3, 1) := by decide +kernel
theorem dX13_make_200 : decode cX13_make 200 = .ok (.aload_n 0, 1) := by decide +kernel
theorem dX13_make_201 : decode cX13_make 201 = .ok (.iload_n 2, 1) := by decide +kernel
theorem dX13_make_202 : decode cX13_make 202 = .ok (.putfield 513, 3) := by decide +kernel
theorem dX13_make_205 : decode cX13_make 205 = .ok (.aload_n 0, 1) := by decide +kernel
theorem dX13_make_206 : decode cX13_make 206 = .ok (.getfield 43, 3) := by decide +kernel
theorem dX13_make_209 : decode cX13_make 209 = .ok (.iload_n 1, 1) := by decide +kernel
theorem dX13_make_210 : decode cX13_make 210 = .ok (.iaload, 1) := by decide +kernel
theorem dX13_make_211 : decode cX13_make 211 = .ok (.iconst (-1), 1) := by decide +kernel
theorem dX13_make_212 : decode cX13_make 212 = .ok (.if_icmp .ne 15, 3) := by decide +kernel
theorem dX13_make_215 : decode cX13_make 215 = .ok (.aload_n 0, 1) := by decide +kernel
theorem dX13_make_216 : decode cX13_make 216 = .ok (.iload 5, 2) := by decide +kernel
theorem dX13_make_218 : decode cX13_make 218 = .ok (.aload_n 0, 1) := by decide +kernel
theorem dX13_make_219 : decode cX13_make 219 = .ok (.getfield 627, 3) := by decide +kernel
theorem dX13_make_222 : decode cX13_make 222 = .ok (.invokevirtual 682, 3) := by decide +kernel
theorem dX13_make_225 : decode cX13_make 225 = .ok (.iconst 1, 1) := by decide +kernel
theorem dX13_make_226 : decode cX13_make 226 = .ok (.ireturn, 1) := by decide +kernel
theorem dX13_make_227 : decode cX13_make 227 = .ok (.aload_n 0, 1) := by decide +kernel
theorem dX13_make_228 : decode cX13_make 228 = .ok (.invokevirtual 676, 3) := by decide +kernel
theorem dX13_make_231 : decode cX13_make 231 = .ok (.istore 6, 2) := by decide +kernel
theorem dX13_make_233 : decode cX13_make 233 = .ok (.iload_n 3, 1) := by decide +kernel
theorem dX13_make_234 : decode cX13_make 234 = .ok (.ifCond .eq 12, 3) := by decide +kernel
theorem dX13_make_237 : decode cX13_make 237 = .ok (.aload_n 0, 1) := by decide +kernel
theorem dX13_make_238 : decode cX13_make 238 = .ok (.sipush 167, 3) := by decide +kernel
theorem dX13_make_241 : decode cX13_make 241 = .ok (.iload 6, 2) := by decide +kernel
theorem dX13_make_243 : decode cX13_make 243 = .ok (.invokevirtual 679, 3) := by decide +kernel
theorem dX13_make_246 : decode cX13_make 246 = .ok (.aload_n 0, 1) := by decide +kernel
theorem dX13_make_247 : decode cX13_make 247 = .ok (.iload 5, 2) := by decide +kernel
theorem dX13_make_249 : decode cX13_make 249 = .ok (.aload_n 0, 1) := by decide +kernel
theorem dX13_make_250 : decode cX13_make 250 = .ok (.getfield 627, 3) := by decide +kernel
theorem dX13_make_253 : decode cX13_make 253 = .ok (.invokevirtual 682, 3) := by decide +kernel
theorem dX13_make_256 : decode cX13_make 256 = .ok (.aload_n 0, 1) := by decide +kernel
theorem dX13_make_257 : decode cX13_make 257 = .ok (.aload_n 0, 1) := by decide +kernel
theorem dX13_make_258 : decode cX13_make 258 = .ok (.getfield 43, 3) := by decide +kernel
theorem dX13_make_261 : decode cX13_make 261 = .ok (.iload_n 1, 1) := by decide +kernel
theorem dX13_make_262 : decode cX13_make 262 = .ok (.iaload, 1) := by decide +kernel
theorem dX13_make_263 : decode cX13_make 263 = .ok (.invokevirtual 664, 3) := by decide +kernel
theorem dX13_make_266 : decode cX13_make 266 = .ok (.istore 4, 2) := by decide +kernel
theorem dX13_make_268 : decode cX13_make 268 = .ok (.aload_n 0, 1) := by decide +kernel
theorem dX13_make_269 : decode cX13_make 269 = .ok (.iload_n 2, 1) := by decide +kernel
theorem dX13_make_270 : decode cX13_make 270 = .ok (.putfield 513, 3) := by decide +kernel
theorem dX13_make_273 : decode cX13_make 273 = .ok (.aload_n 0, 1) := by decide +kernel
theorem dX13_make_274 : decode cX13_make 274 = .ok (.iload 6, 2) := by decide +kernel
theorem dX13_make_276 : decode cX13_make 276 = .ok (.aload_n 0, 1) := by decide +kernel
theorem dX13_make_277 : decode cX13_make 277 = .ok (.getfield 627, 3) := by decide +kernel
theorem dX13_make_280 : decode cX13_make 280 = .ok (.invokevirtual 682, 3) := by decide +kernel
theorem dX13_make_283 : decode cX13_make 283 = .ok (.iload_n 3, 1) := by decide +kernel
theorem dX13_make_284 : decode cX13_make 284 = .ok (.ifCond .ne 8, 3) := by decide +kernel
theorem dX13_make_287 : decode cX13_make 287 = .ok (.iload 4, 2) := by decide +kernel
theorem dX13_make_289 : decode cX13_make 289 = .ok (.ifCond .eq 7, 3) := by decide +kernel
theorem dX13_make_292 : decode cX13_make 292 = .ok (.iconst 1, 1) := by decide +kernel
theorem dX13_make_293 : decode cX13_make 293 = .ok (.goto 4, 3) := by decide +kernel
theorem dX13_make_296 : decode cX13_make 296 = .ok (.iconst 0, 1) := by decide +kernel
theorem dX13_make_297 : decode cX13_make 297 = .ok (.ireturn, 1) := by decide +kernel
theorem dX13_make_298 : decode cX13_make 298 = .ok (.aload_n 0, 1) := by decide +kernel
theorem dX13_make_299 : decode cX13_make 299 = .ok (.iload_n 1, 1) := by decide +kernel
theorem dX13_make_300 : decode cX13_make 300 = .ok (.iload_n 2, 1) := by decide +kernel
theorem dX13_make_301 : decode cX13_make 301 = .ok (.invokevirtual 685, 3) := by decide +kernel
theorem dX13_make_304 : decode cX13_make 304 = .ok (.ireturn, 1) := by decide +kernel
theorem dX13_make_305 : decode cX13_make 305 = .ok (.aload_n 0, 1) := by decide +kernel
theorem dX13_make_306 : decode cX13_make 306 = .ok (.sipush 167, 3) := by decide +kernel
theorem dX13_make_309 : decode cX13_make 309 = .ok (.aload_n 0, 1) := by decide +kernel
theorem dX13_make_310 : decode cX13_make 310 = .ok (.getfield 28, 3) := by decide +kernel
theorem dX13_make_313 : decode cX13_make 313 = .ok (.iload_n 1, 1) := by decide +kernel
theorem dX13_make_314 : decode cX13_make 314 = .ok (.iaload, 1) := by decide +kernel
theorem dX13_make_315 : decode cX13_make 315 = .ok (.iconst 5, 1) := by decide +kernel
theorem dX13_make_316 : decode cX13_make 316 = .ok (.if_icmp .ne 15, 3) := by decide +kernel
theorem dX13_make_319 : decode cX13_make 319 = .ok (.aload_n 0, 1) := by decide +kernel
theorem dX13_make_320 : decode cX13_make 320 = .ok (.getfield 190, 3) := by decide +kernel
theorem dX13_make_323 : decode cX13_make 323 = .ok (.aload_n 0, 1) := by decide +kernel
theorem dX13_make_324 : decode cX13_make 324 = .ok (.getfield 522, 3) := by decide +kernel
theorem dX13_make_327 : decode cX13_make 327 = .ok (.iaload, 1) := by decide +kernel
theorem dX13_make_328 : decode cX13_make 328 = .ok (.goto 12, 3) := by decide +kernel
theorem dX13_make_331 : decode cX13_make 331 = .ok (.aload_n 0, 1) := by decide +kernel
theorem dX13_make_332 : decode cX13_make 332 = .ok (.getfield 187, 3) := by decide +kernel
theorem dX13_make_335 : decode cX13_make 335 = .ok (.aload_n 0, 1) := by decide +kernel
theorem dX13_make_336 : decode cX13_make 336 = .ok (.getfield 522, 3) := by decide +kernel
theorem dX13_make_339 : decode cX13_make 339 = .ok (.iaload, 1) := by decide +kernel
theorem dX13_make_340 : decode cX13_make 340 = .ok (.invokevirtual 679, 3) := by decide +kernel
theorem dX13_make_343 : decode cX13_make 343 = .ok (.iconst 0, 1) := by decide +kernel
theorem dX13_make_344 : decode cX13_make 344 = .ok (.ireturn, 1) := by decide +kernel
theorem dX13_make_345 : decode cX13_make 345 = .ok (.aload_n 0, 1) := by decide +kernel
theorem dX13_make_346 : decode cX13_make 346 = .ok (.getfield 37, 3) := by decide +kernel
theorem dX13_make_349 : decode cX13_make 349 = .ok (.iload_n 1, 1) := by decide +kernel
theorem dX13_make_350 : decode cX13_make 350 = .ok (.iaload, 1) := by decide +kernel
theorem dX13_make_351 : decode cX13_make 351 = .ok (.iconst (-1), 1) := by decide +kernel
theorem dX13_make_352 : decode cX13_make 352 = .ok (.if_icmp .ne 13, 3) := by decide +kernel
theorem dX13_make_355 : decode cX13_make 355 = .ok (.aload_n 0, 1) := by decide +kernel
theorem dX13_make_356 : decode cX13_make 356 = .ok (.sipush 177, 3) := by decide +kernel
theorem dX13_make_359 : decode cX13_make 359 = .ok (.invokevirtual 646, 3) := by decide +kernel
theorem dX13_make_362 : decode cX13_make 362 = .ok (.goto 49, 3) := by decide +kernel
theorem dX13_make_365 : decode cX13_make 365 = .ok (.aload_n 0, 1) := by decide +kernel
theorem dX13_make_366 : decode cX13_make 366 = .ok (.aload_n 0, 1) := by decide +kernel
theorem dX13_make_367 : decode cX13_make 367 = .ok (.getfield 37, 3) := by decide +kernel
theorem dX13_make_370 : decode cX13_make 370 = .ok (.iload_n 1, 1) := by decide +kernel
theorem dX13_make_371 : decode cX13_make 371 = .ok (.iaload, 1) := by decide +kernel
theorem dX13_make_372 : decode cX13_make 372 = .ok (.invokevirtual 667, 3) := by decide +kernel
theorem dX13_make_375 : decode cX13_make 375 = .ok (.aload_n 0, 1) := by decide +kernel
theorem dX13_make_376 : decode cX13_make 376 = .ok (.dup, 1) := by decide +kernel
theorem dX13_make_377 : decode cX13_make 377 = .ok (.getfield 629, 3) := by decide +kernel
theorem dX13_make_380 : decode cX13_make 380 = .ok (.iconst 1, 1) := by decide +kernel
theorem dX13_make_381 : decode cX13_make 381 = .ok (.isub, 1) := by decide +kernel
theorem dX13_make_382 : decode cX13_make 382 = .ok (.putfield 629, 3) := by decide +kernel
theorem dX13_make_385 : decode cX13_make 385 = .ok (.aload_n 0, 1) := by decide +kernel
theorem dX13_make_386 : decode cX13_make 386 = .ok (.aload_n 0, 1) := by decide +kernel
theorem dX13_make_387 : decode cX13_make 387 = .ok (.getfield 89, 3) := by decide +kernel
theorem dX13_make_390 : decode cX13_make 390 = .ok (.aload_n 0, 1) := by decide +kernel
theorem dX13_make_391 : decode cX13_make 391 = .ok (.getfield 516, 3) := by decide +kernel
theorem dX13_make_394 : decode cX13_make 394 = .ok (.iaload, 1) := by decide +kernel
theorem dX13_make_395 : decode cX13_make 395 = .ok (.iconst 1, 1) := by decide +kernel
theorem dX13_make_396 : decode cX13_make 396 = .ok (.if_icmp .gt 9, 3) := by decide +kernel
theorem dX13_make_399 : decode cX13_make 399 = .ok (.sipush 172, 3) := by decide +kernel
theorem dX13_make_402 : decode cX13_make 402 = .ok (.goto 6, 3) := by decide +kernel
theorem dX13_make_405 : decode cX13_make 405 = .ok (.sipush 176, 3) := by decide +kernel
theorem dX13_make_408 : decode cX13_make 408 = .ok (.invokevirtual 646, 3) := by decide +kernel
theorem dX13_make_411 : decode cX13_make 411 = .ok (.iconst 0, 1) := by decide +kernel
theorem dX13_make_412 : decode cX13_make 412 = .ok (.ireturn, 1) := by decide +kernel
theorem dX13_make_413 : decode cX13_make 413 = .ok (.aload_n 0, 1) := by decide +kernel
theorem dX13_make_414 : decode cX13_make 414 = .ok (.aload_n 0, 1) := by decide +kernel
theorem dX13_make_415 : decode cX13_make 415 = .ok (.getfield 37, 3) := by decide +kernel
theorem dX13_make_418 : decode cX13_make 418 = .ok (.iload_n 1, 1) := by decide +kernel
theorem dX13_make_419 : decode cX13_make 419 = .ok (.iaload, 1) := by decide +kernel
theorem dX13_make_420 : decode cX13_make 420 = .ok (.invokevirtual 667, 3) := by decide +kernel
theorem dX13_make_423 : decode cX13_make 423 = .ok (.aload_n 0, 1) := by decide +kernel
theorem dX13_make_424 : decode cX13_make 424 = .ok (.dup, 1) := by decide +kernel
theorem dX13_make_425 : decode cX13_make 425 = .ok (.getfield 629, 3) := by decide +kernel
theorem dX13_make_428 : decode cX13_make 428 = .ok (.iconst 1, 1) := by decide +kernel
theorem dX13_make_429 : decode cX13_make 429 = .ok (.isub, 1) := by decide +kernel
theorem dX13_make_430 : decode cX13_make 430 = .ok (.putfield 629, 3) := by decide +kernel
theorem dX13_make_433 : decode cX13_make 433 = .ok (.aload_n 0, 1) := by decide +kernel
theorem dX13_make_434 : decode cX13_make 434 = .ok (.sipush 191, 3) := by decide +kernel
theorem dX13_make_437 : decode cX13_make 437 = .ok (.invokevirtual 646, 3) := by decide +kernel
theorem dX13_make_440 : decode cX13_make 440 = .ok (.iconst 0, 1) := by decide +kernel
theorem dX13_make_441 : decode cX13_make 441 = .ok (.ireturn, 1) := by decide +kernel
theorem dX13_make_442 : decode cX13_make 442 = .ok (.aload_n 0, 1) := by decide +kernel
theorem dX13_make_443 : decode cX13_make 443 = .ok (.iload_n 1, 1) := by decide +kernel
theorem dX13_make_444 : decode cX13_make 444 = .ok (.iload_n 2, 1) := by decide +kernel
theorem dX13_make_445 : decode cX13_make 445 = .ok (.invokevirtual 688, 3) := by decide +kernel
theorem dX13_make_448 : decode cX13_make 448 = .ok (.ireturn, 1) := by decide +kernel
theorem dX13_make_449 : decode cX13_make 449 = .ok (.aload_n 0, 1) := by decide +kernel
theorem dX13_make_450 : decode cX13_make 450 = .ok (.aload_n 0, 1) := by decide +kernel
theorem dX13_make_451 : decode cX13_make 451 = .ok (.getfield 37, 3) := by decide +kernel
theorem dX13_make_454 : decode cX13_make 454 = .ok (.iload_n 1, 1) := by decide +kernel
theorem dX13_make_455 : decode cX13_make 455 = .ok (.iaload, 1) := by decide +kernel
theorem dX13_make_456 : decode cX13_make 456 = .ok (.invokevirtual 667, 3) := by decide +kernel
theorem dX13_make_459 : decode cX13_make 459 = .ok (.aload_n 0, 1) := by decide +kernel
theorem dX13_make_460 : decode cX13_make 460 = .ok (.dup, 1) := by decide +kernel
theorem dX13_make_461 : decode cX13_make 461 = .ok (.getfield 629, 3) := by decide +kernel
theorem dX13_make_464 : decode cX13_make 464 = .ok (.iconst 1, 1) := by decide +kernel
theorem dX13_make_465 : decode cX13_make 465 = .ok (.isub, 1) := by decide +kernel
theorem dX13_make_466 : decode cX13_make 466 = .ok (.putfield 629, 3) := by decide +kernel
theorem dX13_make_469 : decode cX13_make 469 = .ok (.aload_n 0, 1) := by decide +kernel
theorem dX13_make_470 : decode cX13_make 470 = .ok (.sipush 186, 3) := by decide +kernel
theorem dX13_make_473 : decode cX13_make 473 = .ok (.invokevirtual 646, 3) := by decide +kernel
theorem dX13_make_476 : decode cX13_make 476 = .ok (.iconst 1, 1) := by decide +kernel
theorem dX13_make_477 : decode cX13_make 477 = .ok (.ireturn, 1) := by decide +kernel
theorem dX13_make_478 : decode cX13_make 478 = .ok (.aload_n 0, 1) := by decide +kernel
theorem dX13_make_479 : decode cX13_make 479 = .ok (.aload_n 0, 1) := by decide +kernel
theorem dX13_make_480 : decode cX13_make 480 = .ok (.getfield 37, 3) := by decide +kernel
theorem dX13_make_483 : decode cX13_make 483 = .ok (.iload_n 1, 1) := by decide +kernel
theorem dX13_make_484 : decode cX13_make 484 = .ok (.iaload, 1) := by decide +kernel
theorem dX13_make_485 : decode cX13_make 485 = .ok (.invokevirtual 667, 3) := by decide +kernel
theorem dX13_make_488 : decode cX13_make 488 = .ok (.aload_n 0, 1) := by decide +kernel
theorem dX13_make_489 : decode cX13_make 489 = .ok (.getfield 49, 3) := by decide +kernel
theorem dX13_make_492 : decode cX13_make 492 = .ok (.aload_n 0, 1) := by decide +kernel
theorem dX13_make_493 : decode cX13_make 493 = .ok (.getfield 37, 3) := by decide +kernel
theorem dX13_make_496 : decode cX13_make 496 = .ok (.iload_n 1, 1) := by decide +kernel
theorem dX13_make_497 : decode cX13_make 497 = .ok (.iaload, 1) := by decide +kernel
theorem dX13_make_498 : decode cX13_make 498 = .ok (.iaload, 1) := by decide +kernel
theorem dX13_make_499 : decode cX13_make 499 = .ok (.iconst 3, 1) := by decide +kernel
theorem dX13_make_500 : decode cX13_make 500 = .ok (.if_icmp .eq 19, 3) := by decide +kernel
theorem dX13_make_503 : decode cX13_make 503 = .ok (.aload_n 0, 1) := by decide +kernel
theorem dX13_make_504 : decode cX13_make 504 = .ok (.bipush 87, 2) := by decide +kernel
theorem dX13_make_506 : decode cX13_make 506 = .ok (.invokevirtual 646, 3) := by decide +kernel
theorem dX13_make_509 : decode cX13_make 509 = .ok (.aload_n 0, 1) := by decide +kernel
theorem dX13_make_510 : decode cX13_make 510 = .ok (.dup, 1) := by decide +kernel
theorem dX13_make_511 : decode cX13_make 511 = .ok (.getfield 629, 3) := by decide +kernel
theorem dX13_make_514 : decode cX13_make 514 = .ok (.iconst 1, 1) := by decide +kernel
theorem dX13_make_515 : decode cX13_make 515 = .ok (.isub, 1) := by decide +kernel
theorem dX13_make_516 : decode cX13_make 516 = .ok (.putfield 629, 3) := by decide +kernel
theorem dX13_make_519 : decode cX13_make 519 = .ok (.iconst 1, 1) := by decide +kernel
theorem dX13_make_520 : decode cX13_make 520 = .ok (.ireturn, 1) := by decide +kernel
theorem dX13_make_521 : decode cX13_make 521 = .ok (.aload_n 0, 1) := by decide +kernel
theorem dX13_make_522 : decode cX13_make 522 = .ok (.aload_n 0, 1) := by decide +kernel
theorem dX13_make_523 : decode cX13_make 523 = .ok (.getfield 37, 3) := by decide +kernel
theorem dX13_make_526 : decode cX13_make 526 = .ok (.iload_n 1, 1) := by decide +kernel
theorem dX13_make_527 : decode cX13_make 527 = .ok (.iaload, 1) := by decide +kernel
theorem dX13_make_528 : decode cX13_make 528 = .ok (.aload_n 0, 1) := by decide +kernel
theorem dX13_make_529 : decode cX13_make 529 = .ok (.getfield 40, 3) := by decide +kernel
theorem dX13_make_532 : decode cX13_make 532 = .ok (.iload_n 1, 1) := by decide +kernel
theorem dX13_make_533 : decode cX13_make 533 = .ok (.iaload, 1) := by decide +kernel
theorem dX13_make_534 : decode cX13_make 534 = .ok (.invokevirtual 691, 3) := by decide +kernel
theorem dX13_make_537 : decode cX13_make 537 = .ok (.iconst 1, 1) := by decide +kernel
theorem dX13_make_538 : decode cX13_make 538 = .ok (.ireturn, 1) := by decide +kernel
theorem dX13_makeLoop_0 : decode cX13_makeLoop 0 = .ok (.aload_n 0, 1) := by decide +kernel
theorem dX13_makeLoop_1 : decode cX13_makeLoop 1 = .ok (.invokevirtual 676, 3) := by decide +kernel
theorem dX13_makeLoop_4 : decode cX13_makeLoop 4 = .ok (.istore_n 3, 1) := by decide +kernel
theorem dX13_makeLoop_5 : decode cX13_makeLoop 5 = .ok (.aload_n 0, 1) := by decide +kernel
theorem dX13_makeLoop_6 : decode cX13_makeLoop 6 = .ok (.invokevirtual 676, 3) := by decide +kernel
theorem dX13_makeLoop_9 : decode cX13_makeLoop 9 = .ok (.istore 4, 2) := by decide +kernel
theorem dX13_makeLoop_11 : decode cX13_makeLoop 11 = .ok (.aload_n 0, 1) := by decide +kernel
theorem dX13_makeLoop_12 : decode cX13_makeLoop 12 = .ok (.getfield 627, 3) := by decide +kernel
theorem dX13_makeLoop_15 : decode cX13_makeLoop 15 = .ok (.istore 5, 2) := by decide +kernel
theorem dX13_makeLoop_17 : decode cX13_makeLoop 17 = .ok (.aload_n 0, 1) := by decide +kernel
theorem dX13_makeLoop_18 : decode cX13_makeLoop 18 = .ok (.getfield 52, 3) := by decide +kernel
theorem dX13_makeLoop_21 : decode cX13_makeLoop 21 = .ok (.iload_n 1, 1) := by decide +kernel
theorem dX13_makeLoop_22 : decode cX13_makeLoop 22 = .ok (.iaload, 1) := by decide +kernel
theorem dX13_makeLoop_23 : decode cX13_makeLoop 23 = .ok (.ifCond .ne 32, 3) := by decide +kernel
theorem dX13_makeLoop_26 : decode cX13_makeLoop 26 = .ok (.aload_n 0, 1) := by decide +kernel
theorem dX13_makeLoop_27 : decode cX13_makeLoop 27 = .ok (.aload_n 0, 1) := by decide +kernel
theorem dX13_makeLoop_28 : decode cX13_makeLoop 28 = .ok (.getfield 37, 3) := by decide +kernel
theorem dX13_makeLoop_31 : decode cX13_makeLoop 31 = .ok (.iload_n 1, 1) := by decide +kernel
theorem dX13_makeLoop_32 : decode cX13_makeLoop 32 = .ok (.iaload, 1) := by decide +kernel
theorem dX13_makeLoop_33 : decode cX13_makeLoop 33 = .ok (.invokevirtual 667, 3) := by decide +kernel
theorem dX13_makeLoop_36 : decode cX13_makeLoop 36 = .ok (.aload_n 0, 1) := by decide +kernel
theorem dX13_makeLoop_37 : decode cX13_makeLoop 37 = .ok (.dup, 1) := by decide +kernel
theorem dX13_makeLoop_38 : decode cX13_makeLoop 38 = .ok (.getfield 629, 3) := by decide +kernel
theorem dX13_makeLoop_41 : decode cX13_makeLoop 41 = .ok (.iconst 1, 1) := by decide +kernel
theorem dX13_makeLoop_42 : decode cX13_makeLoop 42 = .ok (.isub, 1) := by decide +kernel
theorem dX13_makeLoop_43 : decode cX13_makeLoop 43 = .ok (.putfield 629, 3) := by decide +kernel
theorem dX13_makeLoop_46 : decode cX13_makeLoop 46 = .ok (.aload_n 0, 1) := by decide +kernel
theorem dX13_makeLoop_47 : decode cX13_makeLoop 47 = .ok (.sipush 153, 3) := by decide +kernel
theorem dX13_makeLoop_50 : decode cX13_makeLoop 50 = .ok (.iload 4, 2) := by decide +kernel
theorem dX13_makeLoop_52 : decode cX13_makeLoop 52 = .ok (.invokevirtual 679, 3) := by decide +kernel
theorem dX13_makeLoop_55 : decode cX13_makeLoop 55 = .ok (.aload_n 0, 1) := by decide +kernel
theorem dX13_makeLoop_56 : decode cX13_makeLoop 56 = .ok (.dup, 1) := by decide +kernel
theorem dX13_makeLoop_57 : decode cX13_makeLoop 57 = .ok (.getfield 522, 3) := by decide +kernel
theorem dX13_makeLoop_60 : decode cX13_makeLoop 60 = .ok (.iconst 1, 1) := by decide +kernel
theorem dX13_makeLoop_61 : decode cX13_makeLoop 61 = .ok (.iadd, 1) := by decide +kernel
theorem dX13_makeLoop_62 : decode cX13_makeLoop 62 = .ok (.putfield 522, 3) := by decide +kernel
theorem dX13_makeLoop_65 : decode cX13_makeLoop 65 = .ok (.aload_n 0, 1) := by decide +kernel
theorem dX13_makeLoop_66 : decode cX13_makeLoop 66 = .ok (.getfield 187, 3) := by decide +kernel
theorem dX13_makeLoop_69 : decode cX13_makeLoop 69 = .ok (.aload_n 0, 1) := by decide +kernel
theorem dX13_makeLoop_70 : decode cX13_makeLoop 70 = .ok (.getfield 522, 3) := by decide +kernel
theorem dX13_makeLoop_73 : decode cX13_makeLoop 73 = .ok (.iload_n 3, 1) := by decide +kernel
theorem dX13_makeLoop_74 : decode cX13_makeLoop 74 = .ok (.iastore, 1) := by decide +kernel
theorem dX13_makeLoop_75 : decode cX13_makeLoop 75 = .ok (.aload_n 0, 1) := by decide +kernel
theorem dX13_makeLoop_76 : decode cX13_makeLoop 76 = .ok (.getfield 190, 3) := by decide +kernel
theorem dX13_makeLoop_79 : decode cX13_makeLoop 79 = .ok (.aload_n 0, 1) := by decide +kernel
theorem dX13_makeLoop_80 : decode cX13_makeLoop 80 = .ok (.getfield 522, 3) := by decide +kernel
theorem dX13_makeLoop_83 : decode cX13_makeLoop 83 = .ok (.iload 4, 2) := by decide +kernel
theorem dX13_makeLoop_85 : decode cX13_makeLoop 85 = .ok (.iastore, 1) := by decide +kernel
theorem dX13_makeLoop_86 : decode cX13_makeLoop 86 = .ok (.aload_n 0, 1) := by decide +kernel
theorem dX13_makeLoop_87 : decode cX13_makeLoop 87 = .ok (.aload_n 0, 1) := by decide +kernel
theorem dX13_makeLoop_88 : decode cX13_makeLoop 88 = .ok (.getfield 40, 3) := by decide +kernel
theorem dX13_makeLoop_91 : decode cX13_makeLoop 91 = .ok (.iload_n 1, 1) := by decide +kernel
theorem dX13_makeLoop_92 : decode cX13_makeLoop 92 = .ok (.iaload, 1) := by decide +kernel
theorem dX13_makeLoop_93 : decode cX13_makeLoop 93 = .ok (.invokevirtual 664, 3) := by decide +kernel
theorem dX13_makeLoop_96 : decode cX13_makeLoop 96 = .ok (.istore 6, 2) := by decide +kernel
theorem dX13_makeLoop_98 : decode cX13_makeLoop 98 = .ok (.aload_n 0, 1) := by decide +kernel
theorem dX13_makeLoop_99 : decode cX13_makeLoop 99 = .ok (.dup, 1) := by decide +kernel
theorem dX13_makeLoop_100 : decode cX13_makeLoop 100 = .ok (.getfield 522, 3) := by decide +kernel
theorem dX13_makeLoop_103 : decode cX13_makeLoop 103 = .ok (.iconst 1, 1) := by decide +kernel
theorem dX13_makeLoop_104 : decode cX13_makeLoop 104 = .ok (.isub, 1) := by decide +kernel
theorem dX13_makeLoop_105 : decode cX13_makeLoop 105 = .ok (.putfield 522, 3) := by decide +kernel
theorem dX13_makeLoop_108 : decode cX13_makeLoop 108 = .ok (.aload_n 0, 1) := by decide +kernel
theorem dX13_makeLoop_109 : decode cX13_makeLoop 109 = .ok (.iload_n 2, 1) := by decide +kernel
theorem dX13_makeLoop_110 : decode cX13_makeLoop 110 = .ok (.putfield 513, 3) := by decide +kernel
theorem dX13_makeLoop_113 : decode cX13_makeLoop 113 = .ok (.iload 6, 2) := by decide +kernel
theorem dX13_makeLoop_115 : decode cX13_makeLoop 115 = .ok (.ifCond .eq 11, 3) := by decide +kernel
theorem dX13_makeLoop_118 : decode cX13_makeLoop 118 = .ok (.aload_n 0, 1) := by decide +kernel
theorem dX13_makeLoop_119 : decode cX13_makeLoop 119 = .ok (.sipush 167, 3) := by decide +kernel
theorem dX13_makeLoop_122 : decode cX13_makeLoop 122 = .ok (.iload_n 3, 1) := by decide +kernel
theorem dX13_makeLoop_123 : decode cX13_makeLoop 123 = .ok (.invokevirtual 679, 3) := by decide +kernel
theorem dX13_makeLoop_126 : decode cX13_makeLoop 126 = .ok (.aload_n 0, 1) := by decide +kernel
theorem dX13_makeLoop_127 : decode cX13_makeLoop 127 = .ok (.iload_n 3, 1) := by decide +kernel
theorem dX13_makeLoop_128 : decode cX13_makeLoop 128 = .ok (.iload 5, 2) := by decide +kernel
theorem dX13_makeLoop_130 : decode cX13_makeLoop 130 = .ok (.invokevirtual 682, 3) := by decide +kernel
theorem dX13_makeLoop_133 : decode cX13_makeLoop 133 = .ok (.aload_n 0, 1) := by decide +kernel
theorem dX13_makeLoop_134 : decode cX13_makeLoop 134 = .ok (.iload 4, 2) := by decide +kernel
theorem dX13_makeLoop_136 : decode cX13_makeLoop 136 = .ok (.aload_n 0, 1) := by decide +kernel
theorem dX13_makeLoop_137 : decode cX13_makeLoop 137 = .ok (.getfield 627, 3) := by decide +kernel
theorem dX13_makeLoop_140 : decode cX13_makeLoop 140 = .ok (.invokevirtual 682, 3) := by decide +kernel
theorem dX13_makeLoop_143 : decode cX13_makeLoop 143 = .ok (.aload_n 0, 1) := by decide +kernel
theorem dX13_makeLoop_144 : decode cX13_makeLoop 144 = .ok (.getfield 52, 3) := by decide +kernel
theorem dX13_makeLoop_147 : decode cX13_makeLoop 147 = .ok (.iload_n 1, 1) := by decide +kernel
theorem dX13_makeLoop_148 : decode cX13_makeLoop 148 = .ok (.iaload, 1) := by decide +kernel
theorem dX13_makeLoop_149 : decode cX13_makeLoop 149 = .ok (.ifCond .eq 13, 3) := by decide +kernel
theorem dX13_makeLoop_152 : decode cX13_makeLoop 152 = .ok (.aload_n 0, 1) := by decide +kernel
theorem dX13_makeLoop_153 : decode cX13_makeLoop 153 = .ok (.getfield 55, 3) := by decide +kernel
theorem dX13_makeLoop_156 : decode cX13_makeLoop 156 = .ok (.iload_n 1, 1) := by decide +kernel
theorem dX13_makeLoop_157 : decode cX13_makeLoop 157 = .ok (.iaload, 1) := by decide +kernel
theorem dX13_makeLoop_158 : decode cX13_makeLoop 158 = .ok (.iconst 1, 1) := by decide +kernel
theorem dX13_makeLoop_159 : decode cX13_makeLoop 159 = .ok (.if_icmp .ne 7, 3) := by decide +kernel
theorem dX13_makeLoop_162 : decode cX13_makeLoop 162 = .ok (.iconst 1, 1) := by decide +kernel
theorem dX13_makeLoop_163 : decode cX13_makeLoop 163 = .ok (.goto 4, 3) := by decide +kernel
theorem dX13_makeLoop_166 : decode cX13_makeLoop 166 = .ok (.iconst 0, 1) := by decide +kernel
theorem dX13_makeLoop_167 : decode cX13_makeLoop 167 = .ok (.ireturn, 1) := by decide +kernel
theorem mt_X13_makeLoop : mx_mt 468 = some (yX13_makeLoop, cX13_makeLoop, 7, (some .boolean)) := rfl
theorem mt_X13_guard : mx_mt 469 = some (yX13_guard, cX13_guard, 9, (some .boolean)) := rfl
theorem rs_RX13_206 : mx_res RX13 206 = some (0, 13, 96) := by decide +kernel
theorem rs_RX13_728 : mx_res RX13 728 = some (0, 13, 97) := by decide +kernel
theorem ft_13_97 : mx_fty 13 97 = some (.int, false, "ClassMillModel") := by decide +kernel
theorem mt_X13_tell : mx_mt 480 = some (yX13_tell, cX13_tell, 2, none) := rfl
theorem dX13_tell_0 : decode cX13_tell 0 = .ok (.aload_n 0, 1) := by decide +kernel
theorem dX13_tell_1 : decode cX13_tell 1 = .ok (.getfield 728, 3) := by decide +kernel
theorem dX13_tell_4 : decode cX13_tell 4 = .ok (.aload_n 0, 1) := by decide +kernel
theorem dX13_tell_5 : decode cX13_tell 5 = .ok (.getfield 206, 3) := by decide +kernel
theorem dX13_tell_8 : decode cX13_tell 8 = .ok (.arraylength, 1) := by decide +kernel
theorem dX13_tell_9 : decode cX13_tell 9 = .ok (.if_icmp .ge 17, 3) := by decide +kernel
theorem dX13_tell_12 : decode cX13_tell 12 = .ok (.aload_n 0, 1) := by decide +kernel
theorem dX13_tell_13 : decode cX13_tell 13 = .ok (.getfield 206, 3) := by decide +kernel
theorem dX13_tell_16 : decode cX13_tell 16 = .ok (.aload_n 0, 1) := by decide +kernel
theorem dX13_tell_17 : decode cX13_tell 17 = .ok (.getfield 728, 3) := by decide +kernel
theorem dX13_tell_20 : decode cX13_tell 20 = .ok (.iload_n 1, 1) := by decide +kernel
theorem dX13_tell_21 : decode cX13_tell 21 = .ok (.sipush 255, 3) := by decide +kernel
theorem dX13_tell_24 : decode cX13_tell 24 = .ok (.iand, 1) := by decide +kernel
theorem dX13_tell_25 : decode cX13_tell 25 = .ok (.iastore, 1) := by decide +kernel
theorem dX13_tell_26 : decode cX13_tell 26 = .ok (.aload_n 0, 1) := by decide +kernel
theorem dX13_tell_27 : decode cX13_tell 27 = .ok (.dup, 1) := by decide +kernel
theorem dX13_tell_28 : decode cX13_tell 28 = .ok (.getfield 728, 3) := by decide +kernel
theorem dX13_tell_31 : decode cX13_tell 31 = .ok (.iconst 1, 1) := by decide +kernel
theorem dX13_tell_32 : decode cX13_tell 32 = .ok (.iadd, 1) := by decide +kernel
theorem dX13_tell_33 : decode cX13_tell 33 = .ok (.putfield 728, 3) := by decide +kernel
theorem dX13_tell_36 : decode cX13_tell 36 = .ok (.return_, 1) := by decide +kernel
theorem rs_RX13_731 : mx_res RX13 731 = some (1, 480, 1) := by decide +kernel
theorem mt_X13_tellPair : mx_mt 481 = some (yX13_tellPair, cX13_tellPair, 2, none) := rfl
theorem dX13_tellPair_0 : decode cX13_tellPair 0 = .ok (.aload_n 0, 1) := by decide +kernel
theorem dX13_tellPair_1 : decode cX13_tellPair 1 = .ok (.iload_n 1, 1) := by decide +kernel
theorem dX13_tellPair_2 : decode cX13_tellPair 2 = .ok (.bipush 8, 2) := by decide +kernel
theorem dX13_tellPair_4 : decode cX13_tellPair 4 = .ok (.ishr, 1) := by decide +kernel
theorem dX13_tellPair_5 : decode cX13_tellPair 5 = .ok (.invokevirtual 731, 3) := by decide +kernel
theorem dX13_tellPair_8 : decode cX13_tellPair 8 = .ok (.aload_n 0, 1) := by decide +kernel
theorem dX13_tellPair_9 : decode cX13_tellPair 9 = .ok (.iload_n 1, 1) := by decide +kernel
theorem dX13_tellPair_10 : decode cX13_tellPair 10 = .ok (.invokevirtual 731, 3) := by decide +kernel
theorem dX13_tellPair_13 : decode cX13_tellPair 13 = .ok (.return_, 1) := by decide +kernel
theorem mt_X13_tellType : mx_mt 483 = some (yX13_tellType, cX13_tellType, 2, none) := rfl
theorem dX13_tellType_0 : decode cX13_tellType 0 = .ok (.aload_n 0, 1) := by decide +kernel
theorem dX13_tellType_1 : decode cX13_tellType 1 = .ok (.iload_n 1, 1) := by decide +kernel
theorem dX13_tellType_2 : decode cX13_tellType 2 = .ok (.iconst 1, 1) := by decide +kernel
theorem dX13_tellType_3 : decode cX13_tellType 3 = .ok (.if_icmp .gt 7, 3) := by decide +kernel
theorem dX13_tellType_6 : decode cX13_tellType 6 = .ok (.iconst 1, 1) := by decide +kernel
theorem dX13_tellType_7 : decode cX13_tellType 7 = .ok (.goto 13, 3) := by decide +kernel
theorem dX13_tellType_10 : decode cX13_tellType 10 = .ok (.iload_n 1, 1) := by decide +kernel
theorem dX13_tellType_11 : decode cX13_tellType 11 = .ok (.iconst 2, 1) := by decide +kernel
theorem dX13_tellType_12 : decode cX13_tellType 12 = .ok (.if_icmp .ne 7, 3) := by decide +kernel
theorem dX13_tellType_15 : decode cX13_tellType 15 = .ok (.iconst 2, 1) := by decide +kernel
theorem dX13_tellType_16 : decode cX13_tellType 16 = .ok (.goto 4, 3) := by decide +kernel
theorem dX13_tellType_19 : decode cX13_tellType 19 = .ok (.iconst 3, 1) := by decide +kernel
theorem dX13_tellType_20 : decode cX13_tellType 20 = .ok (.invokevirtual 731, 3) := by decide +kernel
theorem dX13_tellType_23 : decode cX13_tellType 23 = .ok (.iload_n 1, 1) := by decide +kernel
theorem dX13_tellType_24 : decode cX13_tellType 24 = .ok (.iconst 2, 1) := by decide +kernel
theorem dX13_tellType_25 : decode cX13_tellType 25 = .ok (.if_icmp .le 12, 3) := by decide +kernel
theorem dX13_tellType_28 : decode cX13_tellType 28 = .ok (.aload_n 0, 1) := by decide +kernel
theorem dX13_tellType_29 : decode cX13_tellType 29 = .ok (.aload_n 0, 1) := by decide +kernel
theorem dX13_tellType_30 : decode cX13_tellType 30 = .ok (.iload_n 1, 1) := by decide +kernel
theorem dX13_tellType_31 : decode cX13_tellType 31 = .ok (.invokevirtual 618, 3) := by decide +kernel
theorem dX13_tellType_34 : decode cX13_tellType 34 = .ok (.invokevirtual 731, 3) := by decide +kernel
theorem dX13_tellType_37 : decode cX13_tellType 37 = .ok (.return_, 1) := by decide +kernel
