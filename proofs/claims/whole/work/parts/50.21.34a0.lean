theorem rs_RX13_153 : mx_res RX13 153 = some (0, 13, 73) := by decide +kernel
theorem rs_RX13_156 : mx_res RX13 156 = some (0, 13, 74) := by decide +kernel
theorem rs_RX13_159 : mx_res RX13 159 = some (0, 13, 75) := by decide +kernel
theorem rs_RX13_162 : mx_res RX13 162 = some (0, 13, 76) := by decide +kernel
theorem rs_RX13_165 : mx_res RX13 165 = some (7, 60000, 0) := by decide +kernel
theorem rs_RX13_166 : mx_res RX13 166 = some (0, 13, 77) := by decide +kernel
theorem rs_RX13_652 : mx_res RX13 652 = some (0, 13, 78) := by decide +kernel
theorem rs_RX13_655 : mx_res RX13 655 = some (0, 13, 79) := by decide +kernel
theorem ft_13_78 : mx_fty 13 78 = some (.int, false, "ClassMillModel") := by decide +kernel
theorem ft_13_79 : mx_fty 13 79 = some (.int, false, "ClassMillModel") := by decide +kernel
theorem mt_X13_frame : mx_mt 463 = some (yX13_frame, cX13_frame, 5, none) := rfl
theorem dX13_frame_0 : decode cX13_frame 0 = .ok (.aload_n 0, 1) := by decide +kernel
theorem dX13_frame_1 : decode cX13_frame 1 = .ok (.getfield 652, 3) := by decide +kernel
theorem dX13_frame_4 : decode cX13_frame 4 = .ok (.istore_n 2, 1) := by decide +kernel
theorem dX13_frame_5 : decode cX13_frame 5 = .ok (.iconst 0, 1) := by decide +kernel
theorem dX13_frame_6 : decode cX13_frame 6 = .ok (.istore_n 3, 1) := by decide +kernel
theorem dX13_frame_7 : decode cX13_frame 7 = .ok (.iload_n 3, 1) := by decide +kernel
theorem dX13_frame_8 : decode cX13_frame 8 = .ok (.aload_n 0, 1) := by decide +kernel
theorem dX13_frame_9 : decode cX13_frame 9 = .ok (.getfield 652, 3) := by decide +kernel
theorem dX13_frame_12 : decode cX13_frame 12 = .ok (.if_icmp .ge 21, 3) := by decide +kernel
theorem dX13_frame_15 : decode cX13_frame 15 = .ok (.aload_n 0, 1) := by decide +kernel
theorem dX13_frame_16 : decode cX13_frame 16 = .ok (.getfield 153, 3) := by decide +kernel
theorem dX13_frame_19 : decode cX13_frame 19 = .ok (.iload_n 3, 1) := by decide +kernel
theorem dX13_frame_20 : decode cX13_frame 20 = .ok (.iaload, 1) := by decide +kernel
theorem dX13_frame_21 : decode cX13_frame 21 = .ok (.iload_n 1, 1) := by decide +kernel
theorem dX13_frame_22 : decode cX13_frame 22 = .ok (.if_icmp .ne 5, 3) := by decide +kernel
theorem dX13_frame_25 : decode cX13_frame 25 = .ok (.iload_n 3, 1) := by decide +kernel
theorem dX13_frame_26 : decode cX13_frame 26 = .ok (.istore_n 2, 1) := by decide +kernel
theorem dX13_frame_27 : decode cX13_frame 27 = .ok (.iinc 3 1, 3) := by decide +kernel
theorem dX13_frame_30 : decode cX13_frame 30 = .ok (.goto (-23), 3) := by decide +kernel
theorem dX13_frame_33 : decode cX13_frame 33 = .ok (.iload_n 2, 1) := by decide +kernel
theorem dX13_frame_34 : decode cX13_frame 34 = .ok (.aload_n 0, 1) := by decide +kernel
theorem dX13_frame_35 : decode cX13_frame 35 = .ok (.getfield 652, 3) := by decide +kernel
theorem dX13_frame_38 : decode cX13_frame 38 = .ok (.if_icmp .ne 13, 3) := by decide +kernel
theorem dX13_frame_41 : decode cX13_frame 41 = .ok (.aload_n 0, 1) := by decide +kernel
theorem dX13_frame_42 : decode cX13_frame 42 = .ok (.dup, 1) := by decide +kernel
theorem dX13_frame_43 : decode cX13_frame 43 = .ok (.getfield 652, 3) := by decide +kernel
theorem dX13_frame_46 : decode cX13_frame 46 = .ok (.iconst 1, 1) := by decide +kernel
theorem dX13_frame_47 : decode cX13_frame 47 = .ok (.iadd, 1) := by decide +kernel
theorem dX13_frame_48 : decode cX13_frame 48 = .ok (.putfield 652, 3) := by decide +kernel
theorem dX13_frame_51 : decode cX13_frame 51 = .ok (.aload_n 0, 1) := by decide +kernel
theorem dX13_frame_52 : decode cX13_frame 52 = .ok (.getfield 153, 3) := by decide +kernel
theorem dX13_frame_55 : decode cX13_frame 55 = .ok (.iload_n 2, 1) := by decide +kernel
theorem dX13_frame_56 : decode cX13_frame 56 = .ok (.iload_n 1, 1) := by decide +kernel
theorem dX13_frame_57 : decode cX13_frame 57 = .ok (.iastore, 1) := by decide +kernel
theorem dX13_frame_58 : decode cX13_frame 58 = .ok (.aload_n 0, 1) := by decide +kernel
theorem dX13_frame_59 : decode cX13_frame 59 = .ok (.getfield 156, 3) := by decide +kernel
theorem dX13_frame_62 : decode cX13_frame 62 = .ok (.iload_n 2, 1) := by decide +kernel
theorem dX13_frame_63 : decode cX13_frame 63 = .ok (.aload_n 0, 1) := by decide +kernel
theorem dX13_frame_64 : decode cX13_frame 64 = .ok (.getfield 655, 3) := by decide +kernel
theorem dX13_frame_67 : decode cX13_frame 67 = .ok (.iastore, 1) := by decide +kernel
theorem dX13_frame_68 : decode cX13_frame 68 = .ok (.aload_n 0, 1) := by decide +kernel
theorem dX13_frame_69 : decode cX13_frame 69 = .ok (.getfield 510, 3) := by decide +kernel
theorem dX13_frame_72 : decode cX13_frame 72 = .ok (.ifCond .eq 7, 3) := by decide +kernel
theorem dX13_frame_75 : decode cX13_frame 75 = .ok (.iconst 0, 1) := by decide +kernel
theorem dX13_frame_76 : decode cX13_frame 76 = .ok (.goto 4, 3) := by decide +kernel
theorem dX13_frame_79 : decode cX13_frame 79 = .ok (.iconst 1, 1) := by decide +kernel
theorem dX13_frame_80 : decode cX13_frame 80 = .ok (.istore_n 3, 1) := by decide +kernel
theorem dX13_frame_81 : decode cX13_frame 81 = .ok (.aload_n 0, 1) := by decide +kernel
theorem dX13_frame_82 : decode cX13_frame 82 = .ok (.getfield 159, 3) := by decide +kernel
theorem dX13_frame_85 : decode cX13_frame 85 = .ok (.iload_n 2, 1) := by decide +kernel
theorem dX13_frame_86 : decode cX13_frame 86 = .ok (.aload_n 0, 1) := by decide +kernel
theorem dX13_frame_87 : decode cX13_frame 87 = .ok (.getfield 513, 3) := by decide +kernel
theorem dX13_frame_90 : decode cX13_frame 90 = .ok (.iload_n 3, 1) := by decide +kernel
theorem dX13_frame_91 : decode cX13_frame 91 = .ok (.iadd, 1) := by decide +kernel
theorem dX13_frame_92 : decode cX13_frame 92 = .ok (.iastore, 1) := by decide +kernel
theorem dX13_frame_93 : decode cX13_frame 93 = .ok (.aload_n 0, 1) := by decide +kernel
theorem dX13_frame_94 : decode cX13_frame 94 = .ok (.getfield 162, 3) := by decide +kernel
theorem dX13_frame_97 : decode cX13_frame 97 = .ok (.iload_n 2, 1) := by decide +kernel
theorem dX13_frame_98 : decode cX13_frame 98 = .ok (.aload_n 0, 1) := by decide +kernel
theorem dX13_frame_99 : decode cX13_frame 99 = .ok (.getfield 629, 3) := by decide +kernel
theorem dX13_frame_102 : decode cX13_frame 102 = .ok (.iastore, 1) := by decide +kernel
theorem dX13_frame_103 : decode cX13_frame 103 = .ok (.aload_n 0, 1) := by decide +kernel
theorem dX13_frame_104 : decode cX13_frame 104 = .ok (.getfield 655, 3) := by decide +kernel
theorem dX13_frame_107 : decode cX13_frame 107 = .ok (.aload_n 0, 1) := by decide +kernel
theorem dX13_frame_108 : decode cX13_frame 108 = .ok (.getfield 513, 3) := by decide +kernel
theorem dX13_frame_111 : decode cX13_frame 111 = .ok (.iadd, 1) := by decide +kernel
theorem dX13_frame_112 : decode cX13_frame 112 = .ok (.iconst 1, 1) := by decide +kernel
theorem dX13_frame_113 : decode cX13_frame 113 = .ok (.iadd, 1) := by decide +kernel
theorem dX13_frame_114 : decode cX13_frame 114 = .ok (.aload_n 0, 1) := by decide +kernel
theorem dX13_frame_115 : decode cX13_frame 115 = .ok (.getfield 629, 3) := by decide +kernel
theorem dX13_frame_118 : decode cX13_frame 118 = .ok (.iadd, 1) := by decide +kernel
theorem dX13_frame_119 : decode cX13_frame 119 = .ok (.ldc 165, 2) := by decide +kernel
theorem dX13_frame_121 : decode cX13_frame 121 = .ok (.if_icmp .le 4, 3) := by decide +kernel
theorem dX13_frame_124 : decode cX13_frame 124 = .ok (.return_, 1) := by decide +kernel
theorem dX13_frame_125 : decode cX13_frame 125 = .ok (.aload_n 0, 1) := by decide +kernel
theorem dX13_frame_126 : decode cX13_frame 126 = .ok (.getfield 510, 3) := by decide +kernel
theorem dX13_frame_129 : decode cX13_frame 129 = .ok (.ifCond .ne 21, 3) := by decide +kernel
theorem dX13_frame_132 : decode cX13_frame 132 = .ok (.aload_n 0, 1) := by decide +kernel
theorem dX13_frame_133 : decode cX13_frame 133 = .ok (.getfield 166, 3) := by decide +kernel
theorem dX13_frame_136 : decode cX13_frame 136 = .ok (.aload_n 0, 1) := by decide +kernel
theorem dX13_frame_137 : decode cX13_frame 137 = .ok (.getfield 655, 3) := by decide +kernel
theorem dX13_frame_140 : decode cX13_frame 140 = .ok (.bipush 8, 2) := by decide +kernel
theorem dX13_frame_142 : decode cX13_frame 142 = .ok (.iconst 2, 1) := by decide +kernel
theorem dX13_frame_143 : decode cX13_frame 143 = .ok (.aload_n 0, 1) := by decide +kernel
theorem dX13_frame_144 : decode cX13_frame 144 = .ok (.getfield 519, 3) := by decide +kernel
theorem dX13_frame_147 : decode cX13_frame 147 = .ok (.imul, 1) := by decide +kernel
theorem dX13_frame_148 : decode cX13_frame 148 = .ok (.iadd, 1) := by decide +kernel
theorem dX13_frame_149 : decode cX13_frame 149 = .ok (.iastore, 1) := by decide +kernel
theorem dX13_frame_150 : decode cX13_frame 150 = .ok (.iconst 0, 1) := by decide +kernel
theorem dX13_frame_151 : decode cX13_frame 151 = .ok (.istore 4, 2) := by decide +kernel
theorem dX13_frame_153 : decode cX13_frame 153 = .ok (.iload 4, 2) := by decide +kernel
theorem dX13_frame_155 : decode cX13_frame 155 = .ok (.aload_n 0, 1) := by decide +kernel
theorem dX13_frame_156 : decode cX13_frame 156 = .ok (.getfield 513, 3) := by decide +kernel
theorem dX13_frame_159 : decode cX13_frame 159 = .ok (.if_icmp .ge 30, 3) := by decide +kernel
theorem dX13_frame_162 : decode cX13_frame 162 = .ok (.aload_n 0, 1) := by decide +kernel
theorem dX13_frame_163 : decode cX13_frame 163 = .ok (.getfield 166, 3) := by decide +kernel
theorem dX13_frame_166 : decode cX13_frame 166 = .ok (.aload_n 0, 1) := by decide +kernel
theorem dX13_frame_167 : decode cX13_frame 167 = .ok (.getfield 655, 3) := by decide +kernel
theorem dX13_frame_170 : decode cX13_frame 170 = .ok (.iload_n 3, 1) := by decide +kernel
theorem dX13_frame_171 : decode cX13_frame 171 = .ok (.iadd, 1) := by decide +kernel
theorem dX13_frame_172 : decode cX13_frame 172 = .ok (.iload 4, 2) := by decide +kernel
theorem dX13_frame_174 : decode cX13_frame 174 = .ok (.iadd, 1) := by decide +kernel
theorem dX13_frame_175 : decode cX13_frame 175 = .ok (.aload_n 0, 1) := by decide +kernel
theorem dX13_frame_176 : decode cX13_frame 176 = .ok (.getfield 119, 3) := by decide +kernel
theorem dX13_frame_179 : decode cX13_frame 179 = .ok (.iload 4, 2) := by decide +kernel
theorem dX13_frame_181 : decode cX13_frame 181 = .ok (.iaload, 1) := by decide +kernel
theorem dX13_frame_182 : decode cX13_frame 182 = .ok (.iastore, 1) := by decide +kernel
theorem dX13_frame_183 : decode cX13_frame 183 = .ok (.iinc 4 1, 3) := by decide +kernel
theorem dX13_frame_186 : decode cX13_frame 186 = .ok (.goto (-33), 3) := by decide +kernel
theorem dX13_frame_189 : decode cX13_frame 189 = .ok (.iconst 0, 1) := by decide +kernel
theorem dX13_frame_190 : decode cX13_frame 190 = .ok (.istore 4, 2) := by decide +kernel
theorem dX13_frame_192 : decode cX13_frame 192 = .ok (.iload 4, 2) := by decide +kernel
theorem dX13_frame_194 : decode cX13_frame 194 = .ok (.aload_n 0, 1) := by decide +kernel
theorem dX13_frame_195 : decode cX13_frame 195 = .ok (.getfield 629, 3) := by decide +kernel
theorem dX13_frame_198 : decode cX13_frame 198 = .ok (.if_icmp .ge 35, 3) := by decide +kernel
theorem dX13_frame_201 : decode cX13_frame 201 = .ok (.aload_n 0, 1) := by decide +kernel
theorem dX13_frame_202 : decode cX13_frame 202 = .ok (.getfield 166, 3) := by decide +kernel
theorem dX13_frame_205 : decode cX13_frame 205 = .ok (.aload_n 0, 1) := by decide +kernel
theorem dX13_frame_206 : decode cX13_frame 206 = .ok (.getfield 655, 3) := by decide +kernel
theorem dX13_frame_209 : decode cX13_frame 209 = .ok (.iload_n 3, 1) := by decide +kernel
theorem dX13_frame_210 : decode cX13_frame 210 = .ok (.iadd, 1) := by decide +kernel
theorem dX13_frame_211 : decode cX13_frame 211 = .ok (.aload_n 0, 1) := by decide +kernel
theorem dX13_frame_212 : decode cX13_frame 212 = .ok (.getfield 513, 3) := by decide +kernel
theorem dX13_frame_215 : decode cX13_frame 215 = .ok (.iadd, 1) := by decide +kernel
theorem dX13_frame_216 : decode cX13_frame 216 = .ok (.iload 4, 2) := by decide +kernel
theorem dX13_frame_218 : decode cX13_frame 218 = .ok (.iadd, 1) := by decide +kernel
theorem dX13_frame_219 : decode cX13_frame 219 = .ok (.aload_n 0, 1) := by decide +kernel
theorem dX13_frame_220 : decode cX13_frame 220 = .ok (.getfield 150, 3) := by decide +kernel
theorem dX13_frame_223 : decode cX13_frame 223 = .ok (.iload 4, 2) := by decide +kernel
theorem dX13_frame_225 : decode cX13_frame 225 = .ok (.iaload, 1) := by decide +kernel
theorem dX13_frame_226 : decode cX13_frame 226 = .ok (.iastore, 1) := by decide +kernel
theorem dX13_frame_227 : decode cX13_frame 227 = .ok (.iinc 4 1, 3) := by decide +kernel
theorem dX13_frame_230 : decode cX13_frame 230 = .ok (.goto (-38), 3) := by decide +kernel
theorem dX13_frame_233 : decode cX13_frame 233 = .ok (.aload_n 0, 1) := by decide +kernel
theorem dX13_frame_234 : decode cX13_frame 234 = .ok (.dup, 1) := by decide +kernel
theorem dX13_frame_235 : decode cX13_frame 235 = .ok (.getfield 655, 3) := by decide +kernel
theorem dX13_frame_238 : decode cX13_frame 238 = .ok (.iload_n 3, 1) := by decide +kernel
theorem dX13_frame_239 : decode cX13_frame 239 = .ok (.aload_n 0, 1) := by decide +kernel
theorem dX13_frame_240 : decode cX13_frame 240 = .ok (.getfield 513, 3) := by decide +kernel
theorem dX13_frame_243 : decode cX13_frame 243 = .ok (.iadd, 1) := by decide +kernel
theorem dX13_frame_244 : decode cX13_frame 244 = .ok (.aload_n 0, 1) := by decide +kernel
theorem dX13_frame_245 : decode cX13_frame 245 = .ok (.getfield 629, 3) := by decide +kernel
theorem dX13_frame_248 : decode cX13_frame 248 = .ok (.iadd, 1) := by decide +kernel
theorem dX13_frame_249 : decode cX13_frame 249 = .ok (.iadd, 1) := by decide +kernel
theorem dX13_frame_250 : decode cX13_frame 250 = .ok (.putfield 655, 3) := by decide +kernel
theorem dX13_frame_253 : decode cX13_frame 253 = .ok (.return_, 1) := by decide +kernel
theorem rs_RX13_649 : mx_res RX13 649 = some (1, 463, 1) := by decide +kernel
theorem mt_X13_stands : mx_mt 462 = some (yX13_stands, cX13_stands, 7, none) := rfl
theorem dX13_stands_0 : decode cX13_stands 0 = .ok (.iconst 0, 1) := by decide +kernel
theorem dX13_stands_1 : decode cX13_stands 1 = .ok (.istore_n 3, 1) := by decide +kernel
theorem dX13_stands_2 : decode cX13_stands 2 = .ok (.iconst 0, 1) := by decide +kernel
theorem dX13_stands_3 : decode cX13_stands 3 = .ok (.istore 4, 2) := by decide +kernel
theorem dX13_stands_5 : decode cX13_stands 5 = .ok (.iconst 0, 1) := by decide +kernel
theorem dX13_stands_6 : decode cX13_stands 6 = .ok (.istore 5, 2) := by decide +kernel
theorem dX13_stands_8 : decode cX13_stands 8 = .ok (.iload 5, 2) := by decide +kernel
theorem dX13_stands_10 : decode cX13_stands 10 = .ok (.aload_n 0, 1) := by decide +kernel
theorem dX13_stands_11 : decode cX13_stands 11 = .ok (.getfield 643, 3) := by decide +kernel
theorem dX13_stands_14 : decode cX13_stands 14 = .ok (.if_icmp .ge 125, 3) := by decide +kernel
theorem dX13_stands_17 : decode cX13_stands 17 = .ok (.aload_n 0, 1) := by decide +kernel
theorem dX13_stands_18 : decode cX13_stands 18 = .ok (.getfield 184, 3) := by decide +kernel
theorem dX13_stands_21 : decode cX13_stands 21 = .ok (.iload 5, 2) := by decide +kernel
theorem dX13_stands_23 : decode cX13_stands 23 = .ok (.iaload, 1) := by decide +kernel
theorem dX13_stands_24 : decode cX13_stands 24 = .ok (.iload_n 1, 1) := by decide +kernel
theorem dX13_stands_25 : decode cX13_stands 25 = .ok (.if_icmp .ne 77, 3) := by decide +kernel
theorem dX13_stands_28 : decode cX13_stands 28 = .ok (.iconst 1, 1) := by decide +kernel
theorem dX13_stands_29 : decode cX13_stands 29 = .ok (.istore_n 3, 1) := by decide +kernel
theorem dX13_stands_30 : decode cX13_stands 30 = .ok (.iload_n 2, 1) := by decide +kernel
theorem dX13_stands_31 : decode cX13_stands 31 = .ok (.aload_n 0, 1) := by decide +kernel
theorem dX13_stands_32 : decode cX13_stands 32 = .ok (.getfield 181, 3) := by decide +kernel
theorem dX13_stands_35 : decode cX13_stands 35 = .ok (.iload 5, 2) := by decide +kernel
theorem dX13_stands_37 : decode cX13_stands 37 = .ok (.iaload, 1) := by decide +kernel
theorem dX13_stands_38 : decode cX13_stands 38 = .ok (.isub, 1) := by decide +kernel
theorem dX13_stands_39 : decode cX13_stands 39 = .ok (.istore 6, 2) := by decide +kernel
theorem dX13_stands_41 : decode cX13_stands 41 = .ok (.aload_n 0, 1) := by decide +kernel
theorem dX13_stands_42 : decode cX13_stands 42 = .ok (.getfield 181, 3) := by decide +kernel
theorem dX13_stands_45 : decode cX13_stands 45 = .ok (.iload 5, 2) := by decide +kernel
theorem dX13_stands_47 : decode cX13_stands 47 = .ok (.iaload, 1) := by decide +kernel
theorem dX13_stands_48 : decode cX13_stands 48 = .ok (.iconst 2, 1) := by decide +kernel
theorem dX13_stands_49 : decode cX13_stands 49 = .ok (.iadd, 1) := by decide +kernel
theorem dX13_stands_50 : decode cX13_stands 50 = .ok (.sipush 12000, 3) := by decide +kernel
theorem dX13_stands_53 : decode cX13_stands 53 = .ok (.if_icmp .ge 46, 3) := by decide +kernel
theorem dX13_stands_56 : decode cX13_stands 56 = .ok (.aload_n 0, 1) := by decide +kernel
theorem dX13_stands_57 : decode cX13_stands 57 = .ok (.getfield 147, 3) := by decide +kernel
theorem dX13_stands_60 : decode cX13_stands 60 = .ok (.aload_n 0, 1) := by decide +kernel
theorem dX13_stands_61 : decode cX13_stands 61 = .ok (.getfield 181, 3) := by decide +kernel
theorem dX13_stands_64 : decode cX13_stands 64 = .ok (.iload 5, 2) := by decide +kernel
theorem dX13_stands_66 : decode cX13_stands 66 = .ok (.iaload, 1) := by decide +kernel
theorem dX13_stands_67 : decode cX13_stands 67 = .ok (.iconst 1, 1) := by decide +kernel
theorem dX13_stands_68 : decode cX13_stands 68 = .ok (.iadd, 1) := by decide +kernel
theorem dX13_stands_69 : decode cX13_stands 69 = .ok (.iload 6, 2) := by decide +kernel
theorem dX13_stands_71 : decode cX13_stands 71 = .ok (.bipush 8, 2) := by decide +kernel
theorem dX13_stands_73 : decode cX13_stands 73 = .ok (.ishr, 1) := by decide +kernel
theorem dX13_stands_74 : decode cX13_stands 74 = .ok (.sipush 255, 3) := by decide +kernel
theorem dX13_stands_77 : decode cX13_stands 77 = .ok (.iand, 1) := by decide +kernel
theorem dX13_stands_78 : decode cX13_stands 78 = .ok (.iastore, 1) := by decide +kernel
theorem dX13_stands_79 : decode cX13_stands 79 = .ok (.aload_n 0, 1) := by decide +kernel
theorem dX13_stands_80 : decode cX13_stands 80 = .ok (.getfield 147, 3) := by decide +kernel
theorem dX13_stands_83 : decode cX13_stands 83 = .ok (.aload_n 0, 1) := by decide +kernel
theorem dX13_stands_84 : decode cX13_stands 84 = .ok (.getfield 181, 3) := by decide +kernel
theorem dX13_stands_87 : decode cX13_stands 87 = .ok (.iload 5, 2) := by decide +kernel
theorem dX13_stands_89 : decode cX13_stands 89 = .ok (.iaload, 1) := by decide +kernel
theorem dX13_stands_90 : decode cX13_stands 90 = .ok (.iconst 2, 1) := by decide +kernel
theorem dX13_stands_91 : decode cX13_stands 91 = .ok (.iadd, 1) := by decide +kernel
theorem dX13_stands_92 : decode cX13_stands 92 = .ok (.iload 6, 2) := by decide +kernel
theorem dX13_stands_94 : decode cX13_stands 94 = .ok (.sipush 255, 3) := by decide +kernel
theorem dX13_stands_97 : decode cX13_stands 97 = .ok (.iand, 1) := by decide +kernel
theorem dX13_stands_98 : decode cX13_stands 98 = .ok (.iastore, 1) := by decide +kernel
theorem dX13_stands_99 : decode cX13_stands 99 = .ok (.goto 34, 3) := by decide +kernel
theorem dX13_stands_102 : decode cX13_stands 102 = .ok (.aload_n 0, 1) := by decide +kernel
theorem dX13_stands_103 : decode cX13_stands 103 = .ok (.getfield 181, 3) := by decide +kernel
theorem dX13_stands_106 : decode cX13_stands 106 = .ok (.iload 4, 2) := by decide +kernel
theorem dX13_stands_108 : decode cX13_stands 108 = .ok (.aload_n 0, 1) := by decide +kernel
theorem dX13_stands_109 : decode cX13_stands 109 = .ok (.getfield 181, 3) := by decide +kernel
theorem dX13_stands_112 : decode cX13_stands 112 = .ok (.iload 5, 2) := by decide +kernel
theorem dX13_stands_114 : decode cX13_stands 114 = .ok (.iaload, 1) := by decide +kernel
theorem dX13_stands_115 : decode cX13_stands 115 = .ok (.iastore, 1) := by decide +kernel
theorem dX13_stands_116 : decode cX13_stands 116 = .ok (.aload_n 0, 1) := by decide +kernel
theorem dX13_stands_117 : decode cX13_stands 117 = .ok (.getfield 184, 3) := by decide +kernel
theorem dX13_stands_120 : decode cX13_stands 120 = .ok (.iload 4, 2) := by decide +kernel
theorem dX13_stands_122 : decode cX13_stands 122 = .ok (.aload_n 0, 1) := by decide +kernel
theorem dX13_stands_123 : decode cX13_stands 123 = .ok (.getfield 184, 3) := by decide +kernel
theorem dX13_stands_126 : decode cX13_stands 126 = .ok (.iload 5, 2) := by decide +kernel
theorem dX13_stands_128 : decode cX13_stands 128 = .ok (.iaload, 1) := by decide +kernel
theorem dX13_stands_129 : decode cX13_stands 129 = .ok (.iastore, 1) := by decide +kernel
theorem dX13_stands_130 : decode cX13_stands 130 = .ok (.iinc 4 1, 3) := by decide +kernel
theorem dX13_stands_133 : decode cX13_stands 133 = .ok (.iinc 5 1, 3) := by decide +kernel
theorem dX13_stands_136 : decode cX13_stands 136 = .ok (.goto (-128), 3) := by decide +kernel
theorem dX13_stands_139 : decode cX13_stands 139 = .ok (.aload_n 0, 1) := by decide +kernel
theorem dX13_stands_140 : decode cX13_stands 140 = .ok (.iload 4, 2) := by decide +kernel
theorem dX13_stands_142 : decode cX13_stands 142 = .ok (.putfield 643, 3) := by decide +kernel
theorem dX13_stands_145 : decode cX13_stands 145 = .ok (.iload_n 3, 1) := by decide +kernel
theorem dX13_stands_146 : decode cX13_stands 146 = .ok (.ifCond .eq 8, 3) := by decide +kernel
theorem dX13_stands_149 : decode cX13_stands 149 = .ok (.aload_n 0, 1) := by decide +kernel
theorem dX13_stands_150 : decode cX13_stands 150 = .ok (.iload_n 2, 1) := by decide +kernel
theorem dX13_stands_151 : decode cX13_stands 151 = .ok (.invokevirtual 649, 3) := by decide +kernel
theorem dX13_stands_154 : decode cX13_stands 154 = .ok (.return_, 1) := by decide +kernel
theorem rs_RX13_676 : mx_res RX13 676 = some (1, 464, 0) := by decide +kernel
theorem rs_RX13_679 : mx_res RX13 679 = some (1, 461, 2) := by decide +kernel
theorem rs_RX13_682 : mx_res RX13 682 = some (1, 462, 2) := by decide +kernel
theorem mt_X13_truth : mx_mt 477 = some (yX13_truth, cX13_truth, 5, none) := rfl
theorem dX13_truth_0 : decode cX13_truth 0 = .ok (.aload_n 0, 1) := by decide +kernel
theorem dX13_truth_1 : decode cX13_truth 1 = .ok (.invokevirtual 676, 3) := by decide +kernel
theorem dX13_truth_4 : decode cX13_truth 4 = .ok (.istore_n 3, 1) := by decide +kernel
theorem dX13_truth_5 : decode cX13_truth 5 = .ok (.aload_n 0, 1) := by decide +kernel
theorem dX13_truth_6 : decode cX13_truth 6 = .ok (.invokevirtual 676, 3) := by decide +kernel
theorem dX13_truth_9 : decode cX13_truth 9 = .ok (.istore 4, 2) := by decide +kernel
theorem dX13_truth_11 : decode cX13_truth 11 = .ok (.aload_n 0, 1) := by decide +kernel
theorem dX13_truth_12 : decode cX13_truth 12 = .ok (.dup, 1) := by decide +kernel
theorem dX13_truth_13 : decode cX13_truth 13 = .ok (.getfield 629, 3) := by decide +kernel
theorem dX13_truth_16 : decode cX13_truth 16 = .ok (.iload_n 2, 1) := by decide +kernel
theorem dX13_truth_17 : decode cX13_truth 17 = .ok (.isub, 1) := by decide +kernel
theorem dX13_truth_18 : decode cX13_truth 18 = .ok (.putfield 629, 3) := by decide +kernel
theorem dX13_truth_21 : decode cX13_truth 21 = .ok (.aload_n 0, 1) := by decide +kernel
theorem dX13_truth_22 : decode cX13_truth 22 = .ok (.iload_n 1, 1) := by decide +kernel
theorem dX13_truth_23 : decode cX13_truth 23 = .ok (.iload_n 3, 1) := by decide +kernel
theorem dX13_truth_24 : decode cX13_truth 24 = .ok (.invokevirtual 679, 3) := by decide +kernel
theorem dX13_truth_27 : decode cX13_truth 27 = .ok (.aload_n 0, 1) := by decide +kernel
theorem dX13_truth_28 : decode cX13_truth 28 = .ok (.iconst 3, 1) := by decide +kernel
theorem dX13_truth_29 : decode cX13_truth 29 = .ok (.invokevirtual 646, 3) := by decide +kernel
theorem dX13_truth_32 : decode cX13_truth 32 = .ok (.aload_n 0, 1) := by decide +kernel
theorem dX13_truth_33 : decode cX13_truth 33 = .ok (.iconst 0, 1) := by decide +kernel
theorem dX13_truth_34 : decode cX13_truth 34 = .ok (.invokevirtual 640, 3) := by decide +kernel
theorem dX13_truth_37 : decode cX13_truth 37 = .ok (.aload_n 0, 1) := by decide +kernel
theorem dX13_truth_38 : decode cX13_truth 38 = .ok (.dup, 1) := by decide +kernel
theorem dX13_truth_39 : decode cX13_truth 39 = .ok (.getfield 629, 3) := by decide +kernel
theorem dX13_truth_42 : decode cX13_truth 42 = .ok (.iconst 1, 1) := by decide +kernel
theorem dX13_truth_43 : decode cX13_truth 43 = .ok (.isub, 1) := by decide +kernel
theorem dX13_truth_44 : decode cX13_truth 44 = .ok (.putfield 629, 3) := by decide +kernel
theorem dX13_truth_47 : decode cX13_truth 47 = .ok (.aload_n 0, 1) := by decide +kernel
theorem dX13_truth_48 : decode cX13_truth 48 = .ok (.sipush 167, 3) := by decide +kernel
theorem dX13_truth_51 : decode cX13_truth 51 = .ok (.iload 4, 2) := by decide +kernel
theorem dX13_truth_53 : decode cX13_truth 53 = .ok (.invokevirtual 679, 3) := by decide +kernel
theorem dX13_truth_56 : decode cX13_truth 56 = .ok (.aload_n 0, 1) := by decide +kernel
theorem dX13_truth_57 : decode cX13_truth 57 = .ok (.iload_n 3, 1) := by decide +kernel
theorem dX13_truth_58 : decode cX13_truth 58 = .ok (.aload_n 0, 1) := by decide +kernel
theorem dX13_truth_59 : decode cX13_truth 59 = .ok (.getfield 627, 3) := by decide +kernel
theorem dX13_truth_62 : decode cX13_truth 62 = .ok (.invokevirtual 682, 3) := by decide +kernel
theorem dX13_truth_65 : decode cX13_truth 65 = .ok (.aload_n 0, 1) := by decide +kernel
theorem dX13_truth_66 : decode cX13_truth 66 = .ok (.iconst 4, 1) := by decide +kernel
theorem dX13_truth_67 : decode cX13_truth 67 = .ok (.invokevirtual 646, 3) := by decide +kernel
theorem dX13_truth_70 : decode cX13_truth 70 = .ok (.aload_n 0, 1) := by decide +kernel
theorem dX13_truth_71 : decode cX13_truth 71 = .ok (.iconst 1, 1) := by decide +kernel
theorem dX13_truth_72 : decode cX13_truth 72 = .ok (.invokevirtual 640, 3) := by decide +kernel
theorem dX13_truth_75 : decode cX13_truth 75 = .ok (.aload_n 0, 1) := by decide +kernel
theorem dX13_truth_76 : decode cX13_truth 76 = .ok (.iload 4, 2) := by decide +kernel
theorem dX13_truth_78 : decode cX13_truth 78 = .ok (.aload_n 0, 1) := by decide +kernel
theorem dX13_truth_79 : decode cX13_truth 79 = .ok (.getfield 627, 3) := by decide +kernel
theorem dX13_truth_82 : decode cX13_truth 82 = .ok (.invokevirtual 682, 3) := by decide +kernel
theorem dX13_truth_85 : decode cX13_truth 85 = .ok (.return_, 1) := by decide +kernel
theorem mt_X13_turn : mx_mt 460 = some (yX13_turn, cX13_turn, 3, none) := rfl
theorem dX13_turn_0 : decode cX13_turn 0 = .ok (.aload_n 0, 1) := by decide +kernel
theorem dX13_turn_1 : decode cX13_turn 1 = .ok (.dup, 1) := by decide +kernel
theorem dX13_turn_2 : decode cX13_turn 2 = .ok (.getfield 629, 3) := by decide +kernel
theorem dX13_turn_5 : decode cX13_turn 5 = .ok (.iload_n 1, 1) := by decide +kernel
theorem dX13_turn_6 : decode cX13_turn 6 = .ok (.isub, 1) := by decide +kernel
theorem dX13_turn_7 : decode cX13_turn 7 = .ok (.putfield 629, 3) := by decide +kernel
theorem dX13_turn_10 : decode cX13_turn 10 = .ok (.iload_n 2, 1) := by decide +kernel
theorem dX13_turn_11 : decode cX13_turn 11 = .ok (.iconst 3, 1) := by decide +kernel
theorem dX13_turn_12 : decode cX13_turn 12 = .ok (.if_icmp .eq 8, 3) := by decide +kernel
theorem dX13_turn_15 : decode cX13_turn 15 = .ok (.aload_n 0, 1) := by decide +kernel
theorem dX13_turn_16 : decode cX13_turn 16 = .ok (.iload_n 2, 1) := by decide +kernel
theorem dX13_turn_17 : decode cX13_turn 17 = .ok (.invokevirtual 640, 3) := by decide +kernel
theorem dX13_turn_20 : decode cX13_turn 20 = .ok (.return_, 1) := by decide +kernel
theorem mt_X13_operation : mx_mt 479 = some (yX13_operation, cX13_operation, 1, (some .int)) := rfl
theorem dX13_operation_0 : decode cX13_operation 0 = .ok (.iload_n 0, 1) := by decide +kernel
theorem dX13_operation_1 : decode cX13_operation 1 = .ok (.bipush 43, 2) := by decide +kernel
theorem dX13_operation_3 : decode cX13_operation 3 = .ok (.if_icmp .ne 6, 3) := by decide +kernel
theorem dX13_operation_6 : decode cX13_operation 6 = .ok (.bipush 96, 2) := by decide +kernel
theorem dX13_operation_8 : decode cX13_operation 8 = .ok (.ireturn, 1) := by decide +kernel
theorem dX13_operation_9 : decode cX13_operation 9 = .ok (.iload_n 0, 1) := by decide +kernel
theorem dX13_operation_10 : decode cX13_operation 10 = .ok (.bipush 45, 2) := by decide +kernel
theorem dX13_operation_12 : decode cX13_operation 12 = .ok (.if_icmp .ne 6, 3) := by decide +kernel
theorem dX13_operation_15 : decode cX13_operation 15 = .ok (.bipush 100, 2) := by decide +kernel
theorem dX13_operation_17 : decode cX13_operation 17 = .ok (.ireturn, 1) := by decide +kernel
theorem dX13_operation_18 : decode cX13_operation 18 = .ok (.iload_n 0, 1) := by decide +kernel
theorem dX13_operation_19 : decode cX13_operation 19 = .ok (.bipush 42, 2) := by decide +kernel
theorem dX13_operation_21 : decode cX13_operation 21 = .ok (.if_icmp .ne 6, 3) := by decide +kernel
theorem dX13_operation_24 : decode cX13_operation 24 = .ok (.bipush 104, 2) := by decide +kernel
theorem dX13_operation_26 : decode cX13_operation 26 = .ok (.ireturn, 1) := by decide +kernel
theorem dX13_operation_27 : decode cX13_operation 27 = .ok (.iload_n 0, 1) := by decide +kernel
theorem dX13_operation_28 : decode cX13_operation 28 = .ok (.bipush 47, 2) := by decide +kernel
theorem dX13_operation_30 : decode cX13_operation 30 = .ok (.if_icmp .ne 6, 3) := by decide +kernel
theorem dX13_operation_33 : decode cX13_operation 33 = .ok (.bipush 108, 2) := by decide +kernel
theorem dX13_operation_35 : decode cX13_operation 35 = .ok (.ireturn, 1) := by decide +kernel
theorem dX13_operation_36 : decode cX13_operation 36 = .ok (.iload_n 0, 1) := by decide +kernel
theorem dX13_operation_37 : decode cX13_operation 37 = .ok (.bipush 37, 2) := by decide +kernel
theorem dX13_operation_39 : decode cX13_operation 39 = .ok (.if_icmp .ne 6, 3) := by decide +kernel
theorem dX13_operation_42 : decode cX13_operation 42 = .ok (.bipush 112, 2) := by decide +kernel
theorem dX13_operation_44 : decode cX13_operation 44 = .ok (.ireturn, 1) := by decide +kernel
theorem dX13_operation_45 : decode cX13_operation 45 = .ok (.iload_n 0, 1) := by decide +kernel
theorem dX13_operation_46 : decode cX13_operation 46 = .ok (.bipush 38, 2) := by decide +kernel
theorem dX13_operation_48 : decode cX13_operation 48 = .ok (.if_icmp .ne 6, 3) := by decide +kernel
theorem dX13_operation_51 : decode cX13_operation 51 = .ok (.bipush 126, 2) := by decide +kernel
theorem dX13_operation_53 : decode cX13_operation 53 = .ok (.ireturn, 1) := by decide +kernel
theorem dX13_operation_54 : decode cX13_operation 54 = .ok (.iload_n 0, 1) := by decide +kernel
theorem dX13_operation_55 : decode cX13_operation 55 = .ok (.bipush 124, 2) := by decide +kernel
theorem dX13_operation_57 : decode cX13_operation 57 = .ok (.if_icmp .ne 7, 3) := by decide +kernel
theorem dX13_operation_60 : decode cX13_operation 60 = .ok (.sipush 128, 3) := by decide +kernel
theorem dX13_operation_63 : decode cX13_operation 63 = .ok (.ireturn, 1) := by decide +kernel
theorem dX13_operation_64 : decode cX13_operation 64 = .ok (.iload_n 0, 1) := by decide +kernel
theorem dX13_operation_65 : decode cX13_operation 65 = .ok (.bipush 94, 2) := by decide +kernel
theorem dX13_operation_67 : decode cX13_operation 67 = .ok (.if_icmp .ne 7, 3) := by decide +kernel
theorem dX13_operation_70 : decode cX13_operation 70 = .ok (.sipush 130, 3) := by decide +kernel
theorem dX13_operation_73 : decode cX13_operation 73 = .ok (.ireturn, 1) := by decide +kernel
theorem dX13_operation_74 : decode cX13_operation 74 = .ok (.iload_n 0, 1) := by decide +kernel
theorem dX13_operation_75 : decode cX13_operation 75 = .ok (.iconst 0, 1) := by decide +kernel
theorem dX13_operation_76 : decode cX13_operation 76 = .ok (.bipush 60, 2) := by decide +kernel
theorem dX13_operation_78 : decode cX13_operation 78 = .ok (.bipush 60, 2) := by decide +kernel
theorem dX13_operation_80 : decode cX13_operation 80 = .ok (.invokestatic 454, 3) := by decide +kernel
theorem dX13_operation_83 : decode cX13_operation 83 = .ok (.if_icmp .ne 8, 3) := by decide +kernel
theorem dX13_operation_86 : decode cX13_operation 86 = .ok (.bipush 120, 2) := by decide +kernel
theorem dX13_operation_88 : decode cX13_operation 88 = .ok (.goto 22, 3) := by decide +kernel
theorem dX13_operation_91 : decode cX13_operation 91 = .ok (.iload_n 0, 1) := by decide +kernel
theorem dX13_operation_92 : decode cX13_operation 92 = .ok (.iconst 0, 1) := by decide +kernel
theorem dX13_operation_93 : decode cX13_operation 93 = .ok (.bipush 62, 2) := by decide +kernel
theorem dX13_operation_95 : decode cX13_operation 95 = .ok (.bipush 62, 2) := by decide +kernel
theorem dX13_operation_97 : decode cX13_operation 97 = .ok (.invokestatic 454, 3) := by decide +kernel
theorem dX13_operation_100 : decode cX13_operation 100 = .ok (.if_icmp .ne 8, 3) := by decide +kernel
theorem dX13_operation_103 : decode cX13_operation 103 = .ok (.bipush 122, 2) := by decide +kernel
theorem dX13_operation_105 : decode cX13_operation 105 = .ok (.goto 5, 3) := by decide +kernel
theorem dX13_operation_108 : decode cX13_operation 108 = .ok (.bipush 124, 2) := by decide +kernel
theorem dX13_operation_110 : decode cX13_operation 110 = .ok (.ireturn, 1) := by decide +kernel
