theorem rs_RX13_667 : mx_res RX13 667 = some (1, 474, 1) := by decide +kernel
theorem rs_RX13_697 : mx_res RX13 697 = some (1, 471, 0) := by decide +kernel
theorem rs_RX13_700 : mx_res RX13 700 = some (1, 457, 2) := by decide +kernel
theorem rs_RX13_703 : mx_res RX13 703 = some (1, 473, 1) := by decide +kernel
theorem rs_RX13_706 : mx_res RX13 706 = some (1, 475, 1) := by decide +kernel
theorem rs_RX13_709 : mx_res RX13 709 = some (1, 472, 1) := by decide +kernel
theorem rs_RX13_712 : mx_res RX13 712 = some (1, 460, 2) := by decide +kernel
theorem rs_RX13_715 : mx_res RX13 715 = some (1, 476, 3) := by decide +kernel
theorem rs_RX13_719 : mx_res RX13 719 = some (1, 477, 2) := by decide +kernel
theorem rs_RX13_722 : mx_res RX13 722 = some (1, 478, 1) := by decide +kernel
theorem rs_RX13_725 : mx_res RX13 725 = some (2, 479, 1) := by decide +kernel
theorem mt_X13_work : mx_mt 474 = some (yX13_work, cX13_work, 4, none) := rfl
theorem dX13_work_0 : decode cX13_work 0 = .ok (.aload_n 0, 1) := by decide +kernel
theorem dX13_work_1 : decode cX13_work 1 = .ok (.getfield 525, 3) := by decide +kernel
theorem dX13_work_4 : decode cX13_work 4 = .ok (.istore_n 2, 1) := by decide +kernel
theorem dX13_work_5 : decode cX13_work 5 = .ok (.iload_n 1, 1) := by decide +kernel
theorem dX13_work_6 : decode cX13_work 6 = .ok (.istore_n 3, 1) := by decide +kernel
theorem dX13_work_7 : decode cX13_work 7 = .ok (.aload_n 0, 1) := by decide +kernel
theorem dX13_work_8 : decode cX13_work 8 = .ok (.iload_n 3, 1) := by decide +kernel
theorem dX13_work_9 : decode cX13_work 9 = .ok (.invokevirtual 703, 3) := by decide +kernel
theorem dX13_work_12 : decode cX13_work 12 = .ok (.ifCond .eq 33, 3) := by decide +kernel
theorem dX13_work_15 : decode cX13_work 15 = .ok (.aload_n 0, 1) := by decide +kernel
theorem dX13_work_16 : decode cX13_work 16 = .ok (.getfield 125, 3) := by decide +kernel
theorem dX13_work_19 : decode cX13_work 19 = .ok (.aload_n 0, 1) := by decide +kernel
theorem dX13_work_20 : decode cX13_work 20 = .ok (.getfield 525, 3) := by decide +kernel
theorem dX13_work_23 : decode cX13_work 23 = .ok (.iload_n 3, 1) := by decide +kernel
theorem dX13_work_24 : decode cX13_work 24 = .ok (.iastore, 1) := by decide +kernel
theorem dX13_work_25 : decode cX13_work 25 = .ok (.aload_n 0, 1) := by decide +kernel
theorem dX13_work_26 : decode cX13_work 26 = .ok (.dup, 1) := by decide +kernel
theorem dX13_work_27 : decode cX13_work 27 = .ok (.getfield 525, 3) := by decide +kernel
theorem dX13_work_30 : decode cX13_work 30 = .ok (.iconst 1, 1) := by decide +kernel
theorem dX13_work_31 : decode cX13_work 31 = .ok (.iadd, 1) := by decide +kernel
theorem dX13_work_32 : decode cX13_work 32 = .ok (.putfield 525, 3) := by decide +kernel
theorem dX13_work_35 : decode cX13_work 35 = .ok (.aload_n 0, 1) := by decide +kernel
theorem dX13_work_36 : decode cX13_work 36 = .ok (.getfield 37, 3) := by decide +kernel
theorem dX13_work_39 : decode cX13_work 39 = .ok (.iload_n 3, 1) := by decide +kernel
theorem dX13_work_40 : decode cX13_work 40 = .ok (.iaload, 1) := by decide +kernel
theorem dX13_work_41 : decode cX13_work 41 = .ok (.istore_n 3, 1) := by decide +kernel
theorem dX13_work_42 : decode cX13_work 42 = .ok (.goto (-35), 3) := by decide +kernel
theorem dX13_work_45 : decode cX13_work 45 = .ok (.aload_n 0, 1) := by decide +kernel
theorem dX13_work_46 : decode cX13_work 46 = .ok (.iload_n 3, 1) := by decide +kernel
theorem dX13_work_47 : decode cX13_work 47 = .ok (.invokevirtual 706, 3) := by decide +kernel
theorem dX13_work_50 : decode cX13_work 50 = .ok (.aload_n 0, 1) := by decide +kernel
theorem dX13_work_51 : decode cX13_work 51 = .ok (.getfield 525, 3) := by decide +kernel
theorem dX13_work_54 : decode cX13_work 54 = .ok (.iload_n 2, 1) := by decide +kernel
theorem dX13_work_55 : decode cX13_work 55 = .ok (.if_icmp .le 29, 3) := by decide +kernel
theorem dX13_work_58 : decode cX13_work 58 = .ok (.aload_n 0, 1) := by decide +kernel
theorem dX13_work_59 : decode cX13_work 59 = .ok (.dup, 1) := by decide +kernel
theorem dX13_work_60 : decode cX13_work 60 = .ok (.getfield 525, 3) := by decide +kernel
theorem dX13_work_63 : decode cX13_work 63 = .ok (.iconst 1, 1) := by decide +kernel
theorem dX13_work_64 : decode cX13_work 64 = .ok (.isub, 1) := by decide +kernel
theorem dX13_work_65 : decode cX13_work 65 = .ok (.putfield 525, 3) := by decide +kernel
theorem dX13_work_68 : decode cX13_work 68 = .ok (.aload_n 0, 1) := by decide +kernel
theorem dX13_work_69 : decode cX13_work 69 = .ok (.aload_n 0, 1) := by decide +kernel
theorem dX13_work_70 : decode cX13_work 70 = .ok (.getfield 125, 3) := by decide +kernel
theorem dX13_work_73 : decode cX13_work 73 = .ok (.aload_n 0, 1) := by decide +kernel
theorem dX13_work_74 : decode cX13_work 74 = .ok (.getfield 525, 3) := by decide +kernel
theorem dX13_work_77 : decode cX13_work 77 = .ok (.iaload, 1) := by decide +kernel
theorem dX13_work_78 : decode cX13_work 78 = .ok (.invokevirtual 706, 3) := by decide +kernel
theorem dX13_work_81 : decode cX13_work 81 = .ok (.goto (-31), 3) := by decide +kernel
theorem dX13_work_84 : decode cX13_work 84 = .ok (.return_, 1) := by decide +kernel
theorem dX13_workBoth_0 : decode cX13_workBoth 0 = .ok (.aload_n 0, 1) := by decide +kernel
theorem dX13_workBoth_1 : decode cX13_workBoth 1 = .ok (.getfield 25, 3) := by decide +kernel
theorem dX13_workBoth_4 : decode cX13_workBoth 4 = .ok (.aload_n 0, 1) := by decide +kernel
theorem dX13_workBoth_5 : decode cX13_workBoth 5 = .ok (.getfield 31, 3) := by decide +kernel
theorem dX13_workBoth_8 : decode cX13_workBoth 8 = .ok (.iload_n 1, 1) := by decide +kernel
theorem dX13_workBoth_9 : decode cX13_workBoth 9 = .ok (.iaload, 1) := by decide +kernel
theorem dX13_workBoth_10 : decode cX13_workBoth 10 = .ok (.iaload, 1) := by decide +kernel
theorem dX13_workBoth_11 : decode cX13_workBoth 11 = .ok (.istore_n 2, 1) := by decide +kernel
theorem dX13_workBoth_12 : decode cX13_workBoth 12 = .ok (.iload_n 2, 1) := by decide +kernel
theorem dX13_workBoth_13 : decode cX13_workBoth 13 = .ok (.iconst 0, 1) := by decide +kernel
theorem dX13_workBoth_14 : decode cX13_workBoth 14 = .ok (.bipush 38, 2) := by decide +kernel
theorem dX13_workBoth_16 : decode cX13_workBoth 16 = .ok (.bipush 38, 2) := by decide +kernel
theorem dX13_workBoth_18 : decode cX13_workBoth 18 = .ok (.invokestatic 454, 3) := by decide +kernel
theorem dX13_workBoth_21 : decode cX13_workBoth 21 = .ok (.if_icmp .ne 7, 3) := by decide +kernel
theorem dX13_workBoth_24 : decode cX13_workBoth 24 = .ok (.iconst 1, 1) := by decide +kernel
theorem dX13_workBoth_25 : decode cX13_workBoth 25 = .ok (.goto 4, 3) := by decide +kernel
theorem dX13_workBoth_28 : decode cX13_workBoth 28 = .ok (.iconst 0, 1) := by decide +kernel
theorem dX13_workBoth_29 : decode cX13_workBoth 29 = .ok (.istore_n 3, 1) := by decide +kernel
theorem dX13_workBoth_30 : decode cX13_workBoth 30 = .ok (.iload_n 3, 1) := by decide +kernel
theorem dX13_workBoth_31 : decode cX13_workBoth 31 = .ok (.ifCond .ne 15, 3) := by decide +kernel
theorem dX13_workBoth_34 : decode cX13_workBoth 34 = .ok (.iload_n 2, 1) := by decide +kernel
theorem dX13_workBoth_35 : decode cX13_workBoth 35 = .ok (.iconst 0, 1) := by decide +kernel
theorem dX13_workBoth_36 : decode cX13_workBoth 36 = .ok (.bipush 124, 2) := by decide +kernel
theorem dX13_workBoth_38 : decode cX13_workBoth 38 = .ok (.bipush 124, 2) := by decide +kernel
theorem dX13_workBoth_40 : decode cX13_workBoth 40 = .ok (.invokestatic 454, 3) := by decide +kernel
theorem dX13_workBoth_43 : decode cX13_workBoth 43 = .ok (.if_icmp .ne 112, 3) := by decide +kernel
theorem dX13_workBoth_46 : decode cX13_workBoth 46 = .ok (.aload_n 0, 1) := by decide +kernel
theorem dX13_workBoth_47 : decode cX13_workBoth 47 = .ok (.invokevirtual 676, 3) := by decide +kernel
theorem dX13_workBoth_50 : decode cX13_workBoth 50 = .ok (.istore 4, 2) := by decide +kernel
theorem dX13_workBoth_52 : decode cX13_workBoth 52 = .ok (.aload_n 0, 1) := by decide +kernel
theorem dX13_workBoth_53 : decode cX13_workBoth 53 = .ok (.invokevirtual 676, 3) := by decide +kernel
theorem dX13_workBoth_56 : decode cX13_workBoth 56 = .ok (.istore 5, 2) := by decide +kernel
theorem dX13_workBoth_58 : decode cX13_workBoth 58 = .ok (.aload_n 0, 1) := by decide +kernel
theorem dX13_workBoth_59 : decode cX13_workBoth 59 = .ok (.dup, 1) := by decide +kernel
theorem dX13_workBoth_60 : decode cX13_workBoth 60 = .ok (.getfield 629, 3) := by decide +kernel
theorem dX13_workBoth_63 : decode cX13_workBoth 63 = .ok (.iconst 1, 1) := by decide +kernel
theorem dX13_workBoth_64 : decode cX13_workBoth 64 = .ok (.isub, 1) := by decide +kernel
theorem dX13_workBoth_65 : decode cX13_workBoth 65 = .ok (.putfield 629, 3) := by decide +kernel
theorem dX13_workBoth_68 : decode cX13_workBoth 68 = .ok (.aload_n 0, 1) := by decide +kernel
theorem dX13_workBoth_69 : decode cX13_workBoth 69 = .ok (.iload_n 3, 1) := by decide +kernel
theorem dX13_workBoth_70 : decode cX13_workBoth 70 = .ok (.ifCond .eq 9, 3) := by decide +kernel
theorem dX13_workBoth_73 : decode cX13_workBoth 73 = .ok (.sipush 153, 3) := by decide +kernel
theorem dX13_workBoth_76 : decode cX13_workBoth 76 = .ok (.goto 6, 3) := by decide +kernel
theorem dX13_workBoth_79 : decode cX13_workBoth 79 = .ok (.sipush 154, 3) := by decide +kernel
theorem dX13_workBoth_82 : decode cX13_workBoth 82 = .ok (.iload 4, 2) := by decide +kernel
theorem dX13_workBoth_84 : decode cX13_workBoth 84 = .ok (.invokevirtual 679, 3) := by decide +kernel
theorem dX13_workBoth_87 : decode cX13_workBoth 87 = .ok (.aload_n 0, 1) := by decide +kernel
theorem dX13_workBoth_88 : decode cX13_workBoth 88 = .ok (.aload_n 0, 1) := by decide +kernel
theorem dX13_workBoth_89 : decode cX13_workBoth 89 = .ok (.getfield 40, 3) := by decide +kernel
theorem dX13_workBoth_92 : decode cX13_workBoth 92 = .ok (.iload_n 1, 1) := by decide +kernel
theorem dX13_workBoth_93 : decode cX13_workBoth 93 = .ok (.iaload, 1) := by decide +kernel
theorem dX13_workBoth_94 : decode cX13_workBoth 94 = .ok (.invokevirtual 667, 3) := by decide +kernel
theorem dX13_workBoth_97 : decode cX13_workBoth 97 = .ok (.aload_n 0, 1) := by decide +kernel
theorem dX13_workBoth_98 : decode cX13_workBoth 98 = .ok (.dup, 1) := by decide +kernel
theorem dX13_workBoth_99 : decode cX13_workBoth 99 = .ok (.getfield 629, 3) := by decide +kernel
theorem dX13_workBoth_102 : decode cX13_workBoth 102 = .ok (.iconst 1, 1) := by decide +kernel
theorem dX13_workBoth_103 : decode cX13_workBoth 103 = .ok (.isub, 1) := by decide +kernel
theorem dX13_workBoth_104 : decode cX13_workBoth 104 = .ok (.putfield 629, 3) := by decide +kernel
theorem dX13_workBoth_107 : decode cX13_workBoth 107 = .ok (.aload_n 0, 1) := by decide +kernel
theorem dX13_workBoth_108 : decode cX13_workBoth 108 = .ok (.sipush 167, 3) := by decide +kernel
theorem dX13_workBoth_111 : decode cX13_workBoth 111 = .ok (.iload 5, 2) := by decide +kernel
theorem dX13_workBoth_113 : decode cX13_workBoth 113 = .ok (.invokevirtual 679, 3) := by decide +kernel
theorem dX13_workBoth_116 : decode cX13_workBoth 116 = .ok (.aload_n 0, 1) := by decide +kernel
theorem dX13_workBoth_117 : decode cX13_workBoth 117 = .ok (.iload 4, 2) := by decide +kernel
theorem dX13_workBoth_119 : decode cX13_workBoth 119 = .ok (.aload_n 0, 1) := by decide +kernel
theorem dX13_workBoth_120 : decode cX13_workBoth 120 = .ok (.getfield 627, 3) := by decide +kernel
theorem dX13_workBoth_123 : decode cX13_workBoth 123 = .ok (.invokevirtual 682, 3) := by decide +kernel
theorem dX13_workBoth_126 : decode cX13_workBoth 126 = .ok (.aload_n 0, 1) := by decide +kernel
theorem dX13_workBoth_127 : decode cX13_workBoth 127 = .ok (.iload_n 3, 1) := by decide +kernel
theorem dX13_workBoth_128 : decode cX13_workBoth 128 = .ok (.ifCond .eq 7, 3) := by decide +kernel
theorem dX13_workBoth_131 : decode cX13_workBoth 131 = .ok (.iconst 3, 1) := by decide +kernel
theorem dX13_workBoth_132 : decode cX13_workBoth 132 = .ok (.goto 4, 3) := by decide +kernel
theorem dX13_workBoth_135 : decode cX13_workBoth 135 = .ok (.iconst 4, 1) := by decide +kernel
theorem dX13_workBoth_136 : decode cX13_workBoth 136 = .ok (.invokevirtual 646, 3) := by decide +kernel
theorem dX13_workBoth_139 : decode cX13_workBoth 139 = .ok (.aload_n 0, 1) := by decide +kernel
theorem dX13_workBoth_140 : decode cX13_workBoth 140 = .ok (.iconst 1, 1) := by decide +kernel
theorem dX13_workBoth_141 : decode cX13_workBoth 141 = .ok (.invokevirtual 640, 3) := by decide +kernel
theorem dX13_workBoth_144 : decode cX13_workBoth 144 = .ok (.aload_n 0, 1) := by decide +kernel
theorem dX13_workBoth_145 : decode cX13_workBoth 145 = .ok (.iload 5, 2) := by decide +kernel
theorem dX13_workBoth_147 : decode cX13_workBoth 147 = .ok (.aload_n 0, 1) := by decide +kernel
theorem dX13_workBoth_148 : decode cX13_workBoth 148 = .ok (.getfield 627, 3) := by decide +kernel
theorem dX13_workBoth_151 : decode cX13_workBoth 151 = .ok (.invokevirtual 682, 3) := by decide +kernel
theorem dX13_workBoth_154 : decode cX13_workBoth 154 = .ok (.return_, 1) := by decide +kernel
theorem dX13_workBoth_155 : decode cX13_workBoth 155 = .ok (.aload_n 0, 1) := by decide +kernel
theorem dX13_workBoth_156 : decode cX13_workBoth 156 = .ok (.aload_n 0, 1) := by decide +kernel
theorem dX13_workBoth_157 : decode cX13_workBoth 157 = .ok (.getfield 40, 3) := by decide +kernel
theorem dX13_workBoth_160 : decode cX13_workBoth 160 = .ok (.iload_n 1, 1) := by decide +kernel
theorem dX13_workBoth_161 : decode cX13_workBoth 161 = .ok (.iaload, 1) := by decide +kernel
theorem dX13_workBoth_162 : decode cX13_workBoth 162 = .ok (.invokevirtual 667, 3) := by decide +kernel
theorem dX13_workBoth_165 : decode cX13_workBoth 165 = .ok (.aload_n 0, 1) := by decide +kernel
theorem dX13_workBoth_166 : decode cX13_workBoth 166 = .ok (.aload_n 0, 1) := by decide +kernel
theorem dX13_workBoth_167 : decode cX13_workBoth 167 = .ok (.getfield 31, 3) := by decide +kernel
theorem dX13_workBoth_170 : decode cX13_workBoth 170 = .ok (.iload_n 1, 1) := by decide +kernel
theorem dX13_workBoth_171 : decode cX13_workBoth 171 = .ok (.iaload, 1) := by decide +kernel
theorem dX13_workBoth_172 : decode cX13_workBoth 172 = .ok (.invokevirtual 459, 3) := by decide +kernel
theorem dX13_workBoth_175 : decode cX13_workBoth 175 = .ok (.istore 4, 2) := by decide +kernel
theorem dX13_workBoth_177 : decode cX13_workBoth 177 = .ok (.iload 4, 2) := by decide +kernel
theorem dX13_workBoth_179 : decode cX13_workBoth 179 = .ok (.iconst 5, 1) := by decide +kernel
theorem dX13_workBoth_180 : decode cX13_workBoth 180 = .ok (.if_icmp .eq 10, 3) := by decide +kernel
theorem dX13_workBoth_183 : decode cX13_workBoth 183 = .ok (.iload 4, 2) := by decide +kernel
theorem dX13_workBoth_185 : decode cX13_workBoth 185 = .ok (.bipush 6, 2) := by decide +kernel
theorem dX13_workBoth_187 : decode cX13_workBoth 187 = .ok (.if_icmp .ne 138, 3) := by decide +kernel
theorem dX13_workBoth_190 : decode cX13_workBoth 190 = .ok (.aload_n 0, 1) := by decide +kernel
theorem dX13_workBoth_191 : decode cX13_workBoth 191 = .ok (.getfield 49, 3) := by decide +kernel
theorem dX13_workBoth_194 : decode cX13_workBoth 194 = .ok (.aload_n 0, 1) := by decide +kernel
theorem dX13_workBoth_195 : decode cX13_workBoth 195 = .ok (.getfield 37, 3) := by decide +kernel
theorem dX13_workBoth_198 : decode cX13_workBoth 198 = .ok (.iload_n 1, 1) := by decide +kernel
theorem dX13_workBoth_199 : decode cX13_workBoth 199 = .ok (.iaload, 1) := by decide +kernel
theorem dX13_workBoth_200 : decode cX13_workBoth 200 = .ok (.iaload, 1) := by decide +kernel
theorem dX13_workBoth_201 : decode cX13_workBoth 201 = .ok (.iconst 1, 1) := by decide +kernel
theorem dX13_workBoth_202 : decode cX13_workBoth 202 = .ok (.if_icmp .le 7, 3) := by decide +kernel
theorem dX13_workBoth_205 : decode cX13_workBoth 205 = .ok (.iconst 1, 1) := by decide +kernel
theorem dX13_workBoth_206 : decode cX13_workBoth 206 = .ok (.goto 4, 3) := by decide +kernel
theorem dX13_workBoth_209 : decode cX13_workBoth 209 = .ok (.iconst 0, 1) := by decide +kernel
theorem dX13_workBoth_210 : decode cX13_workBoth 210 = .ok (.istore 5, 2) := by decide +kernel
theorem dX13_workBoth_212 : decode cX13_workBoth 212 = .ok (.iload_n 2, 1) := by decide +kernel
theorem dX13_workBoth_213 : decode cX13_workBoth 213 = .ok (.iconst 0, 1) := by decide +kernel
theorem dX13_workBoth_214 : decode cX13_workBoth 214 = .ok (.bipush 61, 2) := by decide +kernel
theorem dX13_workBoth_216 : decode cX13_workBoth 216 = .ok (.bipush 61, 2) := by decide +kernel
theorem dX13_workBoth_218 : decode cX13_workBoth 218 = .ok (.invokestatic 454, 3) := by decide +kernel
theorem dX13_workBoth_221 : decode cX13_workBoth 221 = .ok (.if_icmp .ne 20, 3) := by decide +kernel
theorem dX13_workBoth_224 : decode cX13_workBoth 224 = .ok (.iload 5, 2) := by decide +kernel
theorem dX13_workBoth_226 : decode cX13_workBoth 226 = .ok (.ifCond .eq 9, 3) := by decide +kernel
theorem dX13_workBoth_229 : decode cX13_workBoth 229 = .ok (.sipush 165, 3) := by decide +kernel
theorem dX13_workBoth_232 : decode cX13_workBoth 232 = .ok (.goto 83, 3) := by decide +kernel
theorem dX13_workBoth_235 : decode cX13_workBoth 235 = .ok (.sipush 159, 3) := by decide +kernel
theorem dX13_workBoth_238 : decode cX13_workBoth 238 = .ok (.goto 77, 3) := by decide +kernel
theorem dX13_workBoth_241 : decode cX13_workBoth 241 = .ok (.iload_n 2, 1) := by decide +kernel
theorem dX13_workBoth_242 : decode cX13_workBoth 242 = .ok (.iconst 0, 1) := by decide +kernel
theorem dX13_workBoth_243 : decode cX13_workBoth 243 = .ok (.bipush 33, 2) := by decide +kernel
theorem dX13_workBoth_245 : decode cX13_workBoth 245 = .ok (.bipush 61, 2) := by decide +kernel
theorem dX13_workBoth_247 : decode cX13_workBoth 247 = .ok (.invokestatic 454, 3) := by decide +kernel
theorem dX13_workBoth_250 : decode cX13_workBoth 250 = .ok (.if_icmp .ne 20, 3) := by decide +kernel
theorem dX13_workBoth_253 : decode cX13_workBoth 253 = .ok (.iload 5, 2) := by decide +kernel
theorem dX13_workBoth_255 : decode cX13_workBoth 255 = .ok (.ifCond .eq 9, 3) := by decide +kernel
theorem dX13_workBoth_258 : decode cX13_workBoth 258 = .ok (.sipush 166, 3) := by decide +kernel
theorem dX13_workBoth_261 : decode cX13_workBoth 261 = .ok (.goto 54, 3) := by decide +kernel
theorem dX13_workBoth_264 : decode cX13_workBoth 264 = .ok (.sipush 160, 3) := by decide +kernel
theorem dX13_workBoth_267 : decode cX13_workBoth 267 = .ok (.goto 48, 3) := by decide +kernel
theorem dX13_workBoth_270 : decode cX13_workBoth 270 = .ok (.iload_n 2, 1) := by decide +kernel
theorem dX13_workBoth_271 : decode cX13_workBoth 271 = .ok (.bipush 60, 2) := by decide +kernel
theorem dX13_workBoth_273 : decode cX13_workBoth 273 = .ok (.if_icmp .ne 9, 3) := by decide +kernel
theorem dX13_workBoth_276 : decode cX13_workBoth 276 = .ok (.sipush 161, 3) := by decide +kernel
theorem dX13_workBoth_279 : decode cX13_workBoth 279 = .ok (.goto 36, 3) := by decide +kernel
theorem dX13_workBoth_282 : decode cX13_workBoth 282 = .ok (.iload_n 2, 1) := by decide +kernel
theorem dX13_workBoth_283 : decode cX13_workBoth 283 = .ok (.iconst 0, 1) := by decide +kernel
theorem dX13_workBoth_284 : decode cX13_workBoth 284 = .ok (.bipush 62, 2) := by decide +kernel
theorem dX13_workBoth_286 : decode cX13_workBoth 286 = .ok (.bipush 61, 2) := by decide +kernel
theorem dX13_workBoth_288 : decode cX13_workBoth 288 = .ok (.invokestatic 454, 3) := by decide +kernel
theorem dX13_workBoth_291 : decode cX13_workBoth 291 = .ok (.if_icmp .ne 9, 3) := by decide +kernel
theorem dX13_workBoth_294 : decode cX13_workBoth 294 = .ok (.sipush 162, 3) := by decide +kernel
theorem dX13_workBoth_297 : decode cX13_workBoth 297 = .ok (.goto 18, 3) := by decide +kernel
theorem dX13_workBoth_300 : decode cX13_workBoth 300 = .ok (.iload_n 2, 1) := by decide +kernel
theorem dX13_workBoth_301 : decode cX13_workBoth 301 = .ok (.bipush 62, 2) := by decide +kernel
theorem dX13_workBoth_303 : decode cX13_workBoth 303 = .ok (.if_icmp .ne 9, 3) := by decide +kernel
theorem dX13_workBoth_306 : decode cX13_workBoth 306 = .ok (.sipush 163, 3) := by decide +kernel
theorem dX13_workBoth_309 : decode cX13_workBoth 309 = .ok (.goto 6, 3) := by decide +kernel
theorem dX13_workBoth_312 : decode cX13_workBoth 312 = .ok (.sipush 164, 3) := by decide +kernel
theorem dX13_workBoth_315 : decode cX13_workBoth 315 = .ok (.istore 6, 2) := by decide +kernel
theorem dX13_workBoth_317 : decode cX13_workBoth 317 = .ok (.aload_n 0, 1) := by decide +kernel
theorem dX13_workBoth_318 : decode cX13_workBoth 318 = .ok (.iload 6, 2) := by decide +kernel
theorem dX13_workBoth_320 : decode cX13_workBoth 320 = .ok (.iconst 2, 1) := by decide +kernel
theorem dX13_workBoth_321 : decode cX13_workBoth 321 = .ok (.invokevirtual 719, 3) := by decide +kernel
theorem dX13_workBoth_324 : decode cX13_workBoth 324 = .ok (.return_, 1) := by decide +kernel
theorem dX13_workBoth_325 : decode cX13_workBoth 325 = .ok (.aload_n 0, 1) := by decide +kernel
theorem dX13_workBoth_326 : decode cX13_workBoth 326 = .ok (.iload_n 2, 1) := by decide +kernel
theorem dX13_workBoth_327 : decode cX13_workBoth 327 = .ok (.invokestatic 725, 3) := by decide +kernel
theorem dX13_workBoth_330 : decode cX13_workBoth 330 = .ok (.invokevirtual 646, 3) := by decide +kernel
theorem dX13_workBoth_333 : decode cX13_workBoth 333 = .ok (.aload_n 0, 1) := by decide +kernel
theorem dX13_workBoth_334 : decode cX13_workBoth 334 = .ok (.iconst 2, 1) := by decide +kernel
theorem dX13_workBoth_335 : decode cX13_workBoth 335 = .ok (.aload_n 0, 1) := by decide +kernel
theorem dX13_workBoth_336 : decode cX13_workBoth 336 = .ok (.getfield 49, 3) := by decide +kernel
theorem dX13_workBoth_339 : decode cX13_workBoth 339 = .ok (.iload_n 1, 1) := by decide +kernel
theorem dX13_workBoth_340 : decode cX13_workBoth 340 = .ok (.iaload, 1) := by decide +kernel
theorem dX13_workBoth_341 : decode cX13_workBoth 341 = .ok (.invokevirtual 712, 3) := by decide +kernel
theorem dX13_workBoth_344 : decode cX13_workBoth 344 = .ok (.return_, 1) := by decide +kernel
theorem dX13_workCall_0 : decode cX13_workCall 0 = .ok (.iload_n 3, 1) := by decide +kernel
theorem dX13_workCall_1 : decode cX13_workCall 1 = .ok (.ifCond .eq 7, 3) := by decide +kernel
theorem dX13_workCall_4 : decode cX13_workCall 4 = .ok (.iconst 0, 1) := by decide +kernel
theorem dX13_workCall_5 : decode cX13_workCall 5 = .ok (.goto 4, 3) := by decide +kernel
theorem dX13_workCall_8 : decode cX13_workCall 8 = .ok (.iconst 1, 1) := by decide +kernel
theorem dX13_workCall_9 : decode cX13_workCall 9 = .ok (.istore 4, 2) := by decide +kernel
theorem dX13_workCall_11 : decode cX13_workCall 11 = .ok (.aload_n 0, 1) := by decide +kernel
theorem dX13_workCall_12 : decode cX13_workCall 12 = .ok (.getfield 40, 3) := by decide +kernel
theorem dX13_workCall_15 : decode cX13_workCall 15 = .ok (.iload_n 1, 1) := by decide +kernel
theorem dX13_workCall_16 : decode cX13_workCall 16 = .ok (.iaload, 1) := by decide +kernel
theorem dX13_workCall_17 : decode cX13_workCall 17 = .ok (.istore 5, 2) := by decide +kernel
theorem dX13_workCall_19 : decode cX13_workCall 19 = .ok (.iload 5, 2) := by decide +kernel
theorem dX13_workCall_21 : decode cX13_workCall 21 = .ok (.iconst (-1), 1) := by decide +kernel
theorem dX13_workCall_22 : decode cX13_workCall 22 = .ok (.if_icmp .eq 29, 3) := by decide +kernel
theorem dX13_workCall_25 : decode cX13_workCall 25 = .ok (.aload_n 0, 1) := by decide +kernel
theorem dX13_workCall_26 : decode cX13_workCall 26 = .ok (.aload_n 0, 1) := by decide +kernel
theorem dX13_workCall_27 : decode cX13_workCall 27 = .ok (.getfield 37, 3) := by decide +kernel
theorem dX13_workCall_30 : decode cX13_workCall 30 = .ok (.iload 5, 2) := by decide +kernel
theorem dX13_workCall_32 : decode cX13_workCall 32 = .ok (.iaload, 1) := by decide +kernel
theorem dX13_workCall_33 : decode cX13_workCall 33 = .ok (.invokevirtual 667, 3) := by decide +kernel
theorem dX13_workCall_36 : decode cX13_workCall 36 = .ok (.iinc 4 1, 3) := by decide +kernel
theorem dX13_workCall_39 : decode cX13_workCall 39 = .ok (.aload_n 0, 1) := by decide +kernel
theorem dX13_workCall_40 : decode cX13_workCall 40 = .ok (.getfield 46, 3) := by decide +kernel
theorem dX13_workCall_43 : decode cX13_workCall 43 = .ok (.iload 5, 2) := by decide +kernel
theorem dX13_workCall_45 : decode cX13_workCall 45 = .ok (.iaload, 1) := by decide +kernel
theorem dX13_workCall_46 : decode cX13_workCall 46 = .ok (.istore 5, 2) := by decide +kernel
theorem dX13_workCall_48 : decode cX13_workCall 48 = .ok (.goto (-29), 3) := by decide +kernel
theorem dX13_workCall_51 : decode cX13_workCall 51 = .ok (.aload_n 0, 1) := by decide +kernel
theorem dX13_workCall_52 : decode cX13_workCall 52 = .ok (.iload_n 3, 1) := by decide +kernel
theorem dX13_workCall_53 : decode cX13_workCall 53 = .ok (.ifCond .eq 9, 3) := by decide +kernel
theorem dX13_workCall_56 : decode cX13_workCall 56 = .ok (.sipush 184, 3) := by decide +kernel
theorem dX13_workCall_59 : decode cX13_workCall 59 = .ok (.goto 6, 3) := by decide +kernel
theorem dX13_workCall_62 : decode cX13_workCall 62 = .ok (.sipush 182, 3) := by decide +kernel
theorem dX13_workCall_65 : decode cX13_workCall 65 = .ok (.invokevirtual 646, 3) := by decide +kernel
theorem dX13_workCall_68 : decode cX13_workCall 68 = .ok (.aload_n 0, 1) := by decide +kernel
theorem dX13_workCall_69 : decode cX13_workCall 69 = .ok (.aload_n 0, 1) := by decide +kernel
theorem dX13_workCall_70 : decode cX13_workCall 70 = .ok (.iload_n 2, 1) := by decide +kernel
theorem dX13_workCall_71 : decode cX13_workCall 71 = .ok (.aload_n 0, 1) := by decide +kernel
theorem dX13_workCall_72 : decode cX13_workCall 72 = .ok (.getfield 52, 3) := by decide +kernel
theorem dX13_workCall_75 : decode cX13_workCall 75 = .ok (.iload_n 1, 1) := by decide +kernel
theorem dX13_workCall_76 : decode cX13_workCall 76 = .ok (.iaload, 1) := by decide +kernel
theorem dX13_workCall_77 : decode cX13_workCall 77 = .ok (.invokevirtual 700, 3) := by decide +kernel
theorem dX13_workCall_80 : decode cX13_workCall 80 = .ok (.invokevirtual 646, 3) := by decide +kernel
theorem dX13_workCall_83 : decode cX13_workCall 83 = .ok (.aload_n 0, 1) := by decide +kernel
theorem dX13_workCall_84 : decode cX13_workCall 84 = .ok (.iload 4, 2) := by decide +kernel
theorem dX13_workCall_86 : decode cX13_workCall 86 = .ok (.aload_n 0, 1) := by decide +kernel
theorem dX13_workCall_87 : decode cX13_workCall 87 = .ok (.getfield 49, 3) := by decide +kernel
theorem dX13_workCall_90 : decode cX13_workCall 90 = .ok (.iload_n 1, 1) := by decide +kernel
theorem dX13_workCall_91 : decode cX13_workCall 91 = .ok (.iaload, 1) := by decide +kernel
theorem dX13_workCall_92 : decode cX13_workCall 92 = .ok (.invokevirtual 712, 3) := by decide +kernel
theorem dX13_workCall_95 : decode cX13_workCall 95 = .ok (.return_, 1) := by decide +kernel
theorem dX13_workOne_0 : decode cX13_workOne 0 = .ok (.aload_n 0, 1) := by decide +kernel
theorem dX13_workOne_1 : decode cX13_workOne 1 = .ok (.getfield 49, 3) := by decide +kernel
theorem dX13_workOne_4 : decode cX13_workOne 4 = .ok (.iload_n 1, 1) := by decide +kernel
theorem dX13_workOne_5 : decode cX13_workOne 5 = .ok (.iaload, 1) := by decide +kernel
theorem dX13_workOne_6 : decode cX13_workOne 6 = .ok (.istore_n 2, 1) := by decide +kernel
theorem dX13_workOne_7 : decode cX13_workOne 7 = .ok (.aload_n 0, 1) := by decide +kernel
theorem dX13_workOne_8 : decode cX13_workOne 8 = .ok (.getfield 28, 3) := by decide +kernel
theorem dX13_workOne_11 : decode cX13_workOne 11 = .ok (.iload_n 1, 1) := by decide +kernel
theorem dX13_workOne_12 : decode cX13_workOne 12 = .ok (.iaload, 1) := by decide +kernel
theorem dX13_workOne_13 : decode cX13_workOne 13 = .ok (.tableswitch 647 20 38 #[91, 102, 102, 102, 143, 148, 226, 322, 344, 374, 409, 266, 473, 505, 556, 522, 575, 641, 575], 91) := by decide +kernel
theorem dX13_workOne_104 : decode cX13_workOne 104 = .ok (.aload_n 0, 1) := by decide +kernel
theorem dX13_workOne_105 : decode cX13_workOne 105 = .ok (.aload_n 0, 1) := by decide +kernel
theorem dX13_workOne_106 : decode cX13_workOne 106 = .ok (.getfield 31, 3) := by decide +kernel
theorem dX13_workOne_109 : decode cX13_workOne 109 = .ok (.iload_n 1, 1) := by decide +kernel
theorem dX13_workOne_110 : decode cX13_workOne 110 = .ok (.iaload, 1) := by decide +kernel
theorem dX13_workOne_111 : decode cX13_workOne 111 = .ok (.invokevirtual 709, 3) := by decide +kernel
theorem dX13_workOne_114 : decode cX13_workOne 114 = .ok (.return_, 1) := by decide +kernel
theorem dX13_workOne_115 : decode cX13_workOne 115 = .ok (.aload_n 0, 1) := by decide +kernel
theorem dX13_workOne_116 : decode cX13_workOne 116 = .ok (.aload_n 0, 1) := by decide +kernel
theorem dX13_workOne_117 : decode cX13_workOne 117 = .ok (.getfield 28, 3) := by decide +kernel
theorem dX13_workOne_120 : decode cX13_workOne 120 = .ok (.iload_n 1, 1) := by decide +kernel
theorem dX13_workOne_121 : decode cX13_workOne 121 = .ok (.iaload, 1) := by decide +kernel
theorem dX13_workOne_122 : decode cX13_workOne 122 = .ok (.bipush 21, 2) := by decide +kernel
theorem dX13_workOne_124 : decode cX13_workOne 124 = .ok (.if_icmp .ne 7, 3) := by decide +kernel
theorem dX13_workOne_127 : decode cX13_workOne 127 = .ok (.iconst 4, 1) := by decide +kernel
theorem dX13_workOne_128 : decode cX13_workOne 128 = .ok (.goto 19, 3) := by decide +kernel
theorem dX13_workOne_131 : decode cX13_workOne 131 = .ok (.aload_n 0, 1) := by decide +kernel
theorem dX13_workOne_132 : decode cX13_workOne 132 = .ok (.getfield 28, 3) := by decide +kernel
theorem dX13_workOne_135 : decode cX13_workOne 135 = .ok (.iload_n 1, 1) := by decide +kernel
theorem dX13_workOne_136 : decode cX13_workOne 136 = .ok (.iaload, 1) := by decide +kernel
theorem dX13_workOne_137 : decode cX13_workOne 137 = .ok (.bipush 22, 2) := by decide +kernel
theorem dX13_workOne_139 : decode cX13_workOne 139 = .ok (.if_icmp .ne 7, 3) := by decide +kernel
theorem dX13_workOne_142 : decode cX13_workOne 142 = .ok (.iconst 3, 1) := by decide +kernel
theorem dX13_workOne_143 : decode cX13_workOne 143 = .ok (.goto 4, 3) := by decide +kernel
theorem dX13_workOne_146 : decode cX13_workOne 146 = .ok (.iconst 1, 1) := by decide +kernel
theorem dX13_workOne_147 : decode cX13_workOne 147 = .ok (.invokevirtual 646, 3) := by decide +kernel
theorem dX13_workOne_150 : decode cX13_workOne 150 = .ok (.aload_n 0, 1) := by decide +kernel
theorem dX13_workOne_151 : decode cX13_workOne 151 = .ok (.iload_n 2, 1) := by decide +kernel
theorem dX13_workOne_152 : decode cX13_workOne 152 = .ok (.invokevirtual 640, 3) := by decide +kernel
theorem dX13_workOne_155 : decode cX13_workOne 155 = .ok (.return_, 1) := by decide +kernel
theorem dX13_workOne_156 : decode cX13_workOne 156 = .ok (.aload_n 0, 1) := by decide +kernel
theorem dX13_workOne_157 : decode cX13_workOne 157 = .ok (.invokevirtual 697, 3) := by decide +kernel
theorem dX13_workOne_160 : decode cX13_workOne 160 = .ok (.return_, 1) := by decide +kernel
theorem dX13_workOne_161 : decode cX13_workOne 161 = .ok (.aload_n 0, 1) := by decide +kernel
theorem dX13_workOne_162 : decode cX13_workOne 162 = .ok (.getfield 52, 3) := by decide +kernel
theorem dX13_workOne_165 : decode cX13_workOne 165 = .ok (.iload_n 1, 1) := by decide +kernel
theorem dX13_workOne_166 : decode cX13_workOne 166 = .ok (.iaload, 1) := by decide +kernel
theorem dX13_workOne_167 : decode cX13_workOne 167 = .ok (.iconst (-1), 1) := by decide +kernel
theorem dX13_workOne_168 : decode cX13_workOne 168 = .ok (.if_icmp .ne 35, 3) := by decide +kernel
theorem dX13_workOne_171 : decode cX13_workOne 171 = .ok (.aload_n 0, 1) := by decide +kernel
theorem dX13_workOne_172 : decode cX13_workOne 172 = .ok (.iload_n 2, 1) := by decide +kernel
theorem dX13_workOne_173 : decode cX13_workOne 173 = .ok (.iconst 1, 1) := by decide +kernel
theorem dX13_workOne_174 : decode cX13_workOne 174 = .ok (.if_icmp .gt 8, 3) := by decide +kernel
theorem dX13_workOne_177 : decode cX13_workOne 177 = .ok (.bipush 21, 2) := by decide +kernel
theorem dX13_workOne_179 : decode cX13_workOne 179 = .ok (.goto 5, 3) := by decide +kernel
theorem dX13_workOne_182 : decode cX13_workOne 182 = .ok (.bipush 25, 2) := by decide +kernel
theorem dX13_workOne_184 : decode cX13_workOne 184 = .ok (.invokevirtual 646, 3) := by decide +kernel
theorem dX13_workOne_187 : decode cX13_workOne 187 = .ok (.aload_n 0, 1) := by decide +kernel
theorem dX13_workOne_188 : decode cX13_workOne 188 = .ok (.aload_n 0, 1) := by decide +kernel
theorem dX13_workOne_189 : decode cX13_workOne 189 = .ok (.getfield 55, 3) := by decide +kernel
theorem dX13_workOne_192 : decode cX13_workOne 192 = .ok (.iload_n 1, 1) := by decide +kernel
theorem dX13_workOne_193 : decode cX13_workOne 193 = .ok (.iaload, 1) := by decide +kernel
theorem dX13_workOne_194 : decode cX13_workOne 194 = .ok (.invokevirtual 646, 3) := by decide +kernel
theorem dX13_workOne_197 : decode cX13_workOne 197 = .ok (.aload_n 0, 1) := by decide +kernel
theorem dX13_workOne_198 : decode cX13_workOne 198 = .ok (.iload_n 2, 1) := by decide +kernel
theorem dX13_workOne_199 : decode cX13_workOne 199 = .ok (.invokevirtual 640, 3) := by decide +kernel
theorem dX13_workOne_202 : decode cX13_workOne 202 = .ok (.return_, 1) := by decide +kernel
theorem dX13_workOne_203 : decode cX13_workOne 203 = .ok (.aload_n 0, 1) := by decide +kernel
theorem dX13_workOne_204 : decode cX13_workOne 204 = .ok (.invokevirtual 697, 3) := by decide +kernel
theorem dX13_workOne_207 : decode cX13_workOne 207 = .ok (.aload_n 0, 1) := by decide +kernel
theorem dX13_workOne_208 : decode cX13_workOne 208 = .ok (.sipush 180, 3) := by decide +kernel
theorem dX13_workOne_211 : decode cX13_workOne 211 = .ok (.invokevirtual 646, 3) := by decide +kernel
theorem dX13_workOne_214 : decode cX13_workOne 214 = .ok (.aload_n 0, 1) := by decide +kernel
theorem dX13_workOne_215 : decode cX13_workOne 215 = .ok (.aload_n 0, 1) := by decide +kernel
theorem dX13_workOne_216 : decode cX13_workOne 216 = .ok (.aload_n 0, 1) := by decide +kernel
theorem dX13_workOne_217 : decode cX13_workOne 217 = .ok (.getfield 519, 3) := by decide +kernel
theorem dX13_workOne_220 : decode cX13_workOne 220 = .ok (.aload_n 0, 1) := by decide +kernel
theorem dX13_workOne_221 : decode cX13_workOne 221 = .ok (.getfield 52, 3) := by decide +kernel
theorem dX13_workOne_224 : decode cX13_workOne 224 = .ok (.iload_n 1, 1) := by decide +kernel
theorem dX13_workOne_225 : decode cX13_workOne 225 = .ok (.iaload, 1) := by decide +kernel
theorem dX13_workOne_226 : decode cX13_workOne 226 = .ok (.invokevirtual 700, 3) := by decide +kernel
theorem dX13_workOne_229 : decode cX13_workOne 229 = .ok (.invokevirtual 646, 3) := by decide +kernel
theorem dX13_workOne_232 : decode cX13_workOne 232 = .ok (.aload_n 0, 1) := by decide +kernel
theorem dX13_workOne_233 : decode cX13_workOne 233 = .ok (.iconst 1, 1) := by decide +kernel
theorem dX13_workOne_234 : decode cX13_workOne 234 = .ok (.iload_n 2, 1) := by decide +kernel
theorem dX13_workOne_235 : decode cX13_workOne 235 = .ok (.invokevirtual 712, 3) := by decide +kernel
theorem dX13_workOne_238 : decode cX13_workOne 238 = .ok (.return_, 1) := by decide +kernel
theorem dX13_workOne_239 : decode cX13_workOne 239 = .ok (.aload_n 0, 1) := by decide +kernel
theorem dX13_workOne_240 : decode cX13_workOne 240 = .ok (.getfield 74, 3) := by decide +kernel
theorem dX13_workOne_243 : decode cX13_workOne 243 = .ok (.aload_n 0, 1) := by decide +kernel
theorem dX13_workOne_244 : decode cX13_workOne 244 = .ok (.getfield 52, 3) := by decide +kernel
theorem dX13_workOne_247 : decode cX13_workOne 247 = .ok (.iload_n 1, 1) := by decide +kernel
theorem dX13_workOne_248 : decode cX13_workOne 248 = .ok (.iaload, 1) := by decide +kernel
theorem dX13_workOne_249 : decode cX13_workOne 249 = .ok (.iaload, 1) := by decide +kernel
theorem dX13_workOne_250 : decode cX13_workOne 250 = .ok (.iconst 2, 1) := by decide +kernel
theorem dX13_workOne_251 : decode cX13_workOne 251 = .ok (.if_icmp .ne 7, 3) := by decide +kernel
theorem dX13_workOne_254 : decode cX13_workOne 254 = .ok (.iconst 1, 1) := by decide +kernel
theorem dX13_workOne_255 : decode cX13_workOne 255 = .ok (.goto 4, 3) := by decide +kernel
theorem dX13_workOne_258 : decode cX13_workOne 258 = .ok (.iconst 0, 1) := by decide +kernel
theorem dX13_workOne_259 : decode cX13_workOne 259 = .ok (.istore_n 3, 1) := by decide +kernel
theorem dX13_workOne_260 : decode cX13_workOne 260 = .ok (.iload_n 3, 1) := by decide +kernel
theorem dX13_workOne_261 : decode cX13_workOne 261 = .ok (.ifCond .ne 7, 3) := by decide +kernel
theorem dX13_workOne_264 : decode cX13_workOne 264 = .ok (.aload_n 0, 1) := by decide +kernel
theorem dX13_workOne_265 : decode cX13_workOne 265 = .ok (.invokevirtual 697, 3) := by decide +kernel
theorem dX13_workOne_268 : decode cX13_workOne 268 = .ok (.aload_n 0, 1) := by decide +kernel
theorem dX13_workOne_269 : decode cX13_workOne 269 = .ok (.iload_n 1, 1) := by decide +kernel
theorem dX13_workOne_270 : decode cX13_workOne 270 = .ok (.aload_n 0, 1) := by decide +kernel
theorem dX13_workOne_271 : decode cX13_workOne 271 = .ok (.getfield 519, 3) := by decide +kernel
theorem dX13_workOne_274 : decode cX13_workOne 274 = .ok (.iload_n 3, 1) := by decide +kernel
theorem dX13_workOne_275 : decode cX13_workOne 275 = .ok (.invokevirtual 715, 3) := by decide +kernel
theorem dX13_workOne_278 : decode cX13_workOne 278 = .ok (.return_, 1) := by decide +kernel
theorem dX13_workOne_279 : decode cX13_workOne 279 = .ok (.aload_n 0, 1) := by decide +kernel
theorem dX13_workOne_280 : decode cX13_workOne 280 = .ok (.iload_n 1, 1) := by decide +kernel
theorem dX13_workOne_281 : decode cX13_workOne 281 = .ok (.aload_n 0, 1) := by decide +kernel
theorem dX13_workOne_282 : decode cX13_workOne 282 = .ok (.getfield 55, 3) := by decide +kernel
theorem dX13_workOne_285 : decode cX13_workOne 285 = .ok (.iload_n 1, 1) := by decide +kernel
theorem dX13_workOne_286 : decode cX13_workOne 286 = .ok (.iaload, 1) := by decide +kernel
theorem dX13_workOne_287 : decode cX13_workOne 287 = .ok (.iconst (-1), 1) := by decide +kernel
theorem dX13_workOne_288 : decode cX13_workOne 288 = .ok (.if_icmp .ne 22, 3) := by decide +kernel
theorem dX13_workOne_291 : decode cX13_workOne 291 = .ok (.aload_n 0, 1) := by decide +kernel
theorem dX13_workOne_292 : decode cX13_workOne 292 = .ok (.getfield 49, 3) := by decide +kernel
theorem dX13_workOne_295 : decode cX13_workOne 295 = .ok (.aload_n 0, 1) := by decide +kernel
theorem dX13_workOne_296 : decode cX13_workOne 296 = .ok (.getfield 37, 3) := by decide +kernel
theorem dX13_workOne_299 : decode cX13_workOne 299 = .ok (.iload_n 1, 1) := by decide +kernel
theorem dX13_workOne_300 : decode cX13_workOne 300 = .ok (.iaload, 1) := by decide +kernel
theorem dX13_workOne_301 : decode cX13_workOne 301 = .ok (.iaload, 1) := by decide +kernel
theorem dX13_workOne_302 : decode cX13_workOne 302 = .ok (.bipush 8, 2) := by decide +kernel
theorem dX13_workOne_304 : decode cX13_workOne 304 = .ok (.isub, 1) := by decide +kernel
theorem dX13_workOne_305 : decode cX13_workOne 305 = .ok (.iconst 2, 1) := by decide +kernel
theorem dX13_workOne_306 : decode cX13_workOne 306 = .ok (.idiv, 1) := by decide +kernel
theorem dX13_workOne_307 : decode cX13_workOne 307 = .ok (.goto 9, 3) := by decide +kernel
theorem dX13_workOne_310 : decode cX13_workOne 310 = .ok (.aload_n 0, 1) := by decide +kernel
theorem dX13_workOne_311 : decode cX13_workOne 311 = .ok (.getfield 55, 3) := by decide +kernel
theorem dX13_workOne_314 : decode cX13_workOne 314 = .ok (.iload_n 1, 1) := by decide +kernel
theorem dX13_workOne_315 : decode cX13_workOne 315 = .ok (.iaload, 1) := by decide +kernel
theorem dX13_workOne_316 : decode cX13_workOne 316 = .ok (.aload_n 0, 1) := by decide +kernel
theorem dX13_workOne_317 : decode cX13_workOne 317 = .ok (.getfield 55, 3) := by decide +kernel
theorem dX13_workOne_320 : decode cX13_workOne 320 = .ok (.iload_n 1, 1) := by decide +kernel
theorem dX13_workOne_321 : decode cX13_workOne 321 = .ok (.iaload, 1) := by decide +kernel
theorem dX13_workOne_322 : decode cX13_workOne 322 = .ok (.iconst (-1), 1) := by decide +kernel
theorem dX13_workOne_323 : decode cX13_workOne 323 = .ok (.if_icmp .eq 7, 3) := by decide +kernel
theorem dX13_workOne_326 : decode cX13_workOne 326 = .ok (.iconst 1, 1) := by decide +kernel
theorem dX13_workOne_327 : decode cX13_workOne 327 = .ok (.goto 4, 3) := by decide +kernel
theorem dX13_workOne_330 : decode cX13_workOne 330 = .ok (.iconst 0, 1) := by decide +kernel
theorem dX13_workOne_331 : decode cX13_workOne 331 = .ok (.invokevirtual 715, 3) := by decide +kernel
theorem dX13_workOne_334 : decode cX13_workOne 334 = .ok (.return_, 1) := by decide +kernel
theorem dX13_workOne_335 : decode cX13_workOne 335 = .ok (.aload_n 0, 1) := by decide +kernel
theorem dX13_workOne_336 : decode cX13_workOne 336 = .ok (.sipush 187, 3) := by decide +kernel
theorem dX13_workOne_339 : decode cX13_workOne 339 = .ok (.invokevirtual 646, 3) := by decide +kernel
theorem dX13_workOne_342 : decode cX13_workOne 342 = .ok (.aload_n 0, 1) := by decide +kernel
theorem dX13_workOne_343 : decode cX13_workOne 343 = .ok (.aload_n 0, 1) := by decide +kernel
theorem dX13_workOne_344 : decode cX13_workOne 344 = .ok (.iload_n 2, 1) := by decide +kernel
theorem dX13_workOne_345 : decode cX13_workOne 345 = .ok (.invokevirtual 618, 3) := by decide +kernel
theorem dX13_workOne_348 : decode cX13_workOne 348 = .ok (.invokevirtual 646, 3) := by decide +kernel
theorem dX13_workOne_351 : decode cX13_workOne 351 = .ok (.aload_n 0, 1) := by decide +kernel
theorem dX13_workOne_352 : decode cX13_workOne 352 = .ok (.iload_n 2, 1) := by decide +kernel
theorem dX13_workOne_353 : decode cX13_workOne 353 = .ok (.invokevirtual 640, 3) := by decide +kernel
theorem dX13_workOne_356 : decode cX13_workOne 356 = .ok (.return_, 1) := by decide +kernel
theorem dX13_workOne_357 : decode cX13_workOne 357 = .ok (.aload_n 0, 1) := by decide +kernel
theorem dX13_workOne_358 : decode cX13_workOne 358 = .ok (.aload_n 0, 1) := by decide +kernel
theorem dX13_workOne_359 : decode cX13_workOne 359 = .ok (.getfield 37, 3) := by decide +kernel
theorem dX13_workOne_362 : decode cX13_workOne 362 = .ok (.iload_n 1, 1) := by decide +kernel
theorem dX13_workOne_363 : decode cX13_workOne 363 = .ok (.iaload, 1) := by decide +kernel
theorem dX13_workOne_364 : decode cX13_workOne 364 = .ok (.invokevirtual 667, 3) := by decide +kernel
theorem dX13_workOne_367 : decode cX13_workOne 367 = .ok (.aload_n 0, 1) := by decide +kernel
theorem dX13_workOne_368 : decode cX13_workOne 368 = .ok (.sipush 188, 3) := by decide +kernel
theorem dX13_workOne_371 : decode cX13_workOne 371 = .ok (.invokevirtual 646, 3) := by decide +kernel
theorem dX13_workOne_374 : decode cX13_workOne 374 = .ok (.aload_n 0, 1) := by decide +kernel
theorem dX13_workOne_375 : decode cX13_workOne 375 = .ok (.bipush 10, 2) := by decide +kernel
theorem dX13_workOne_377 : decode cX13_workOne 377 = .ok (.invokevirtual 646, 3) := by decide +kernel
theorem dX13_workOne_380 : decode cX13_workOne 380 = .ok (.aload_n 0, 1) := by decide +kernel
theorem dX13_workOne_381 : decode cX13_workOne 381 = .ok (.iconst 1, 1) := by decide +kernel
theorem dX13_workOne_382 : decode cX13_workOne 382 = .ok (.iload_n 2, 1) := by decide +kernel
theorem dX13_workOne_383 : decode cX13_workOne 383 = .ok (.invokevirtual 712, 3) := by decide +kernel
theorem dX13_workOne_386 : decode cX13_workOne 386 = .ok (.return_, 1) := by decide +kernel
theorem dX13_workOne_387 : decode cX13_workOne 387 = .ok (.aload_n 0, 1) := by decide +kernel
theorem dX13_workOne_388 : decode cX13_workOne 388 = .ok (.aload_n 0, 1) := by decide +kernel
theorem dX13_workOne_389 : decode cX13_workOne 389 = .ok (.getfield 37, 3) := by decide +kernel
theorem dX13_workOne_392 : decode cX13_workOne 392 = .ok (.iload_n 1, 1) := by decide +kernel
theorem dX13_workOne_393 : decode cX13_workOne 393 = .ok (.iaload, 1) := by decide +kernel
theorem dX13_workOne_394 : decode cX13_workOne 394 = .ok (.invokevirtual 667, 3) := by decide +kernel
theorem dX13_workOne_397 : decode cX13_workOne 397 = .ok (.aload_n 0, 1) := by decide +kernel
theorem dX13_workOne_398 : decode cX13_workOne 398 = .ok (.sipush 189, 3) := by decide +kernel
theorem dX13_workOne_401 : decode cX13_workOne 401 = .ok (.invokevirtual 646, 3) := by decide +kernel
theorem dX13_workOne_404 : decode cX13_workOne 404 = .ok (.aload_n 0, 1) := by decide +kernel
theorem dX13_workOne_405 : decode cX13_workOne 405 = .ok (.aload_n 0, 1) := by decide +kernel
theorem dX13_workOne_406 : decode cX13_workOne 406 = .ok (.iload_n 2, 1) := by decide +kernel
theorem dX13_workOne_407 : decode cX13_workOne 407 = .ok (.iconst 1, 1) := by decide +kernel
theorem dX13_workOne_408 : decode cX13_workOne 408 = .ok (.isub, 1) := by decide +kernel
theorem dX13_workOne_409 : decode cX13_workOne 409 = .ok (.invokevirtual 618, 3) := by decide +kernel
theorem dX13_workOne_412 : decode cX13_workOne 412 = .ok (.invokevirtual 646, 3) := by decide +kernel
theorem dX13_workOne_415 : decode cX13_workOne 415 = .ok (.aload_n 0, 1) := by decide +kernel
theorem dX13_workOne_416 : decode cX13_workOne 416 = .ok (.iconst 1, 1) := by decide +kernel
theorem dX13_workOne_417 : decode cX13_workOne 417 = .ok (.iload_n 2, 1) := by decide +kernel
theorem dX13_workOne_418 : decode cX13_workOne 418 = .ok (.invokevirtual 712, 3) := by decide +kernel
theorem dX13_workOne_421 : decode cX13_workOne 421 = .ok (.return_, 1) := by decide +kernel
theorem dX13_workOne_422 : decode cX13_workOne 422 = .ok (.aload_n 0, 1) := by decide +kernel
theorem dX13_workOne_423 : decode cX13_workOne 423 = .ok (.getfield 52, 3) := by decide +kernel
theorem dX13_workOne_426 : decode cX13_workOne 426 = .ok (.iload_n 1, 1) := by decide +kernel
theorem dX13_workOne_427 : decode cX13_workOne 427 = .ok (.iaload, 1) := by decide +kernel
theorem dX13_workOne_428 : decode cX13_workOne 428 = .ok (.iconst (-1), 1) := by decide +kernel
theorem dX13_workOne_429 : decode cX13_workOne 429 = .ok (.if_icmp .ne 13, 3) := by decide +kernel
theorem dX13_workOne_432 : decode cX13_workOne 432 = .ok (.aload_n 0, 1) := by decide +kernel
theorem dX13_workOne_433 : decode cX13_workOne 433 = .ok (.sipush 190, 3) := by decide +kernel
theorem dX13_workOne_436 : decode cX13_workOne 436 = .ok (.invokevirtual 646, 3) := by decide +kernel
theorem dX13_workOne_439 : decode cX13_workOne 439 = .ok (.goto 40, 3) := by decide +kernel
theorem dX13_workOne_442 : decode cX13_workOne 442 = .ok (.aload_n 0, 1) := by decide +kernel
theorem dX13_workOne_443 : decode cX13_workOne 443 = .ok (.sipush 180, 3) := by decide +kernel
theorem dX13_workOne_446 : decode cX13_workOne 446 = .ok (.invokevirtual 646, 3) := by decide +kernel
theorem dX13_workOne_449 : decode cX13_workOne 449 = .ok (.aload_n 0, 1) := by decide +kernel
theorem dX13_workOne_450 : decode cX13_workOne 450 = .ok (.aload_n 0, 1) := by decide +kernel
theorem dX13_workOne_451 : decode cX13_workOne 451 = .ok (.aload_n 0, 1) := by decide +kernel
theorem dX13_workOne_452 : decode cX13_workOne 452 = .ok (.getfield 49, 3) := by decide +kernel
theorem dX13_workOne_455 : decode cX13_workOne 455 = .ok (.aload_n 0, 1) := by decide +kernel
theorem dX13_workOne_456 : decode cX13_workOne 456 = .ok (.getfield 37, 3) := by decide +kernel
theorem dX13_workOne_459 : decode cX13_workOne 459 = .ok (.iload_n 1, 1) := by decide +kernel
theorem dX13_workOne_460 : decode cX13_workOne 460 = .ok (.iaload, 1) := by decide +kernel
theorem dX13_workOne_461 : decode cX13_workOne 461 = .ok (.iaload, 1) := by decide +kernel
theorem dX13_workOne_462 : decode cX13_workOne 462 = .ok (.bipush 8, 2) := by decide +kernel
theorem dX13_workOne_464 : decode cX13_workOne 464 = .ok (.isub, 1) := by decide +kernel
theorem dX13_workOne_465 : decode cX13_workOne 465 = .ok (.iconst 2, 1) := by decide +kernel
theorem dX13_workOne_466 : decode cX13_workOne 466 = .ok (.idiv, 1) := by decide +kernel
theorem dX13_workOne_467 : decode cX13_workOne 467 = .ok (.aload_n 0, 1) := by decide +kernel
theorem dX13_workOne_468 : decode cX13_workOne 468 = .ok (.getfield 52, 3) := by decide +kernel
theorem dX13_workOne_471 : decode cX13_workOne 471 = .ok (.iload_n 1, 1) := by decide +kernel
theorem dX13_workOne_472 : decode cX13_workOne 472 = .ok (.iaload, 1) := by decide +kernel
theorem dX13_workOne_473 : decode cX13_workOne 473 = .ok (.invokevirtual 700, 3) := by decide +kernel
theorem dX13_workOne_476 : decode cX13_workOne 476 = .ok (.invokevirtual 646, 3) := by decide +kernel
theorem dX13_workOne_479 : decode cX13_workOne 479 = .ok (.aload_n 0, 1) := by decide +kernel
theorem dX13_workOne_480 : decode cX13_workOne 480 = .ok (.iconst 1, 1) := by decide +kernel
theorem dX13_workOne_481 : decode cX13_workOne 481 = .ok (.iload_n 2, 1) := by decide +kernel
theorem dX13_workOne_482 : decode cX13_workOne 482 = .ok (.invokevirtual 712, 3) := by decide +kernel
theorem dX13_workOne_485 : decode cX13_workOne 485 = .ok (.return_, 1) := by decide +kernel
theorem dX13_workOne_486 : decode cX13_workOne 486 = .ok (.aload_n 0, 1) := by decide +kernel
theorem dX13_workOne_487 : decode cX13_workOne 487 = .ok (.aload_n 0, 1) := by decide +kernel
theorem dX13_workOne_488 : decode cX13_workOne 488 = .ok (.getfield 40, 3) := by decide +kernel
theorem dX13_workOne_491 : decode cX13_workOne 491 = .ok (.iload_n 1, 1) := by decide +kernel
theorem dX13_workOne_492 : decode cX13_workOne 492 = .ok (.iaload, 1) := by decide +kernel
theorem dX13_workOne_493 : decode cX13_workOne 493 = .ok (.invokevirtual 667, 3) := by decide +kernel
theorem dX13_workOne_496 : decode cX13_workOne 496 = .ok (.aload_n 0, 1) := by decide +kernel
theorem dX13_workOne_497 : decode cX13_workOne 497 = .ok (.iload_n 2, 1) := by decide +kernel
theorem dX13_workOne_498 : decode cX13_workOne 498 = .ok (.ifCond .ne 8, 3) := by decide +kernel
theorem dX13_workOne_501 : decode cX13_workOne 501 = .ok (.bipush 46, 2) := by decide +kernel
theorem dX13_workOne_503 : decode cX13_workOne 503 = .ok (.goto 5, 3) := by decide +kernel
theorem dX13_workOne_506 : decode cX13_workOne 506 = .ok (.bipush 50, 2) := by decide +kernel
theorem dX13_workOne_508 : decode cX13_workOne 508 = .ok (.invokevirtual 646, 3) := by decide +kernel
theorem dX13_workOne_511 : decode cX13_workOne 511 = .ok (.aload_n 0, 1) := by decide +kernel
theorem dX13_workOne_512 : decode cX13_workOne 512 = .ok (.iconst 2, 1) := by decide +kernel
theorem dX13_workOne_513 : decode cX13_workOne 513 = .ok (.iload_n 2, 1) := by decide +kernel
theorem dX13_workOne_514 : decode cX13_workOne 514 = .ok (.invokevirtual 712, 3) := by decide +kernel
theorem dX13_workOne_517 : decode cX13_workOne 517 = .ok (.return_, 1) := by decide +kernel
theorem dX13_workOne_518 : decode cX13_workOne 518 = .ok (.aload_n 0, 1) := by decide +kernel
theorem dX13_workOne_519 : decode cX13_workOne 519 = .ok (.aload_n 0, 1) := by decide +kernel
theorem dX13_workOne_520 : decode cX13_workOne 520 = .ok (.getfield 37, 3) := by decide +kernel
theorem dX13_workOne_523 : decode cX13_workOne 523 = .ok (.iload_n 1, 1) := by decide +kernel
theorem dX13_workOne_524 : decode cX13_workOne 524 = .ok (.iaload, 1) := by decide +kernel
theorem dX13_workOne_525 : decode cX13_workOne 525 = .ok (.invokevirtual 667, 3) := by decide +kernel
theorem dX13_workOne_528 : decode cX13_workOne 528 = .ok (.aload_n 0, 1) := by decide +kernel
theorem dX13_workOne_529 : decode cX13_workOne 529 = .ok (.bipush 116, 2) := by decide +kernel
theorem dX13_workOne_531 : decode cX13_workOne 531 = .ok (.invokevirtual 646, 3) := by decide +kernel
theorem dX13_workOne_534 : decode cX13_workOne 534 = .ok (.return_, 1) := by decide +kernel
theorem dX13_workOne_535 : decode cX13_workOne 535 = .ok (.aload_n 0, 1) := by decide +kernel
theorem dX13_workOne_536 : decode cX13_workOne 536 = .ok (.aload_n 0, 1) := by decide +kernel
theorem dX13_workOne_537 : decode cX13_workOne 537 = .ok (.getfield 37, 3) := by decide +kernel
theorem dX13_workOne_540 : decode cX13_workOne 540 = .ok (.iload_n 1, 1) := by decide +kernel
theorem dX13_workOne_541 : decode cX13_workOne 541 = .ok (.iaload, 1) := by decide +kernel
theorem dX13_workOne_542 : decode cX13_workOne 542 = .ok (.invokevirtual 667, 3) := by decide +kernel
theorem dX13_workOne_545 : decode cX13_workOne 545 = .ok (.aload_n 0, 1) := by decide +kernel
theorem dX13_workOne_546 : decode cX13_workOne 546 = .ok (.iconst 2, 1) := by decide +kernel
theorem dX13_workOne_547 : decode cX13_workOne 547 = .ok (.invokevirtual 646, 3) := by decide +kernel
theorem dX13_workOne_550 : decode cX13_workOne 550 = .ok (.aload_n 0, 1) := by decide +kernel
theorem dX13_workOne_551 : decode cX13_workOne 551 = .ok (.iconst 0, 1) := by decide +kernel
theorem dX13_workOne_552 : decode cX13_workOne 552 = .ok (.invokevirtual 640, 3) := by decide +kernel
theorem dX13_workOne_555 : decode cX13_workOne 555 = .ok (.aload_n 0, 1) := by decide +kernel
theorem dX13_workOne_556 : decode cX13_workOne 556 = .ok (.sipush 130, 3) := by decide +kernel
theorem dX13_workOne_559 : decode cX13_workOne 559 = .ok (.invokevirtual 646, 3) := by decide +kernel
theorem dX13_workOne_562 : decode cX13_workOne 562 = .ok (.aload_n 0, 1) := by decide +kernel
theorem dX13_workOne_563 : decode cX13_workOne 563 = .ok (.iconst 2, 1) := by decide +kernel
theorem dX13_workOne_564 : decode cX13_workOne 564 = .ok (.iconst 0, 1) := by decide +kernel
theorem dX13_workOne_565 : decode cX13_workOne 565 = .ok (.invokevirtual 712, 3) := by decide +kernel
theorem dX13_workOne_568 : decode cX13_workOne 568 = .ok (.return_, 1) := by decide +kernel
theorem dX13_workOne_569 : decode cX13_workOne 569 = .ok (.aload_n 0, 1) := by decide +kernel
theorem dX13_workOne_570 : decode cX13_workOne 570 = .ok (.aload_n 0, 1) := by decide +kernel
theorem dX13_workOne_571 : decode cX13_workOne 571 = .ok (.getfield 37, 3) := by decide +kernel
theorem dX13_workOne_574 : decode cX13_workOne 574 = .ok (.iload_n 1, 1) := by decide +kernel
theorem dX13_workOne_575 : decode cX13_workOne 575 = .ok (.iaload, 1) := by decide +kernel
theorem dX13_workOne_576 : decode cX13_workOne 576 = .ok (.invokevirtual 667, 3) := by decide +kernel
theorem dX13_workOne_579 : decode cX13_workOne 579 = .ok (.aload_n 0, 1) := by decide +kernel
theorem dX13_workOne_580 : decode cX13_workOne 580 = .ok (.sipush 153, 3) := by decide +kernel
theorem dX13_workOne_583 : decode cX13_workOne 583 = .ok (.iconst 1, 1) := by decide +kernel
theorem dX13_workOne_584 : decode cX13_workOne 584 = .ok (.invokevirtual 719, 3) := by decide +kernel
theorem dX13_workOne_587 : decode cX13_workOne 587 = .ok (.return_, 1) := by decide +kernel
theorem dX13_workOne_588 : decode cX13_workOne 588 = .ok (.aload_n 0, 1) := by decide +kernel
theorem dX13_workOne_589 : decode cX13_workOne 589 = .ok (.getfield 28, 3) := by decide +kernel
theorem dX13_workOne_592 : decode cX13_workOne 592 = .ok (.iload_n 1, 1) := by decide +kernel
theorem dX13_workOne_593 : decode cX13_workOne 593 = .ok (.iaload, 1) := by decide +kernel
theorem dX13_workOne_594 : decode cX13_workOne 594 = .ok (.bipush 36, 2) := by decide +kernel
theorem dX13_workOne_596 : decode cX13_workOne 596 = .ok (.if_icmp .ne 13, 3) := by decide +kernel
theorem dX13_workOne_599 : decode cX13_workOne 599 = .ok (.aload_n 0, 1) := by decide +kernel
theorem dX13_workOne_600 : decode cX13_workOne 600 = .ok (.aload_n 0, 1) := by decide +kernel
theorem dX13_workOne_601 : decode cX13_workOne 601 = .ok (.getfield 37, 3) := by decide +kernel
theorem dX13_workOne_604 : decode cX13_workOne 604 = .ok (.iload_n 1, 1) := by decide +kernel
theorem dX13_workOne_605 : decode cX13_workOne 605 = .ok (.iaload, 1) := by decide +kernel
theorem dX13_workOne_606 : decode cX13_workOne 606 = .ok (.invokevirtual 667, 3) := by decide +kernel
theorem dX13_workOne_609 : decode cX13_workOne 609 = .ok (.aload_n 0, 1) := by decide +kernel
theorem dX13_workOne_610 : decode cX13_workOne 610 = .ok (.aload_n 0, 1) := by decide +kernel
theorem dX13_workOne_611 : decode cX13_workOne 611 = .ok (.getfield 28, 3) := by decide +kernel
theorem dX13_workOne_614 : decode cX13_workOne 614 = .ok (.iload_n 1, 1) := by decide +kernel
theorem dX13_workOne_615 : decode cX13_workOne 615 = .ok (.iaload, 1) := by decide +kernel
theorem dX13_workOne_616 : decode cX13_workOne 616 = .ok (.bipush 36, 2) := by decide +kernel
theorem dX13_workOne_618 : decode cX13_workOne 618 = .ok (.if_icmp .ne 9, 3) := by decide +kernel
theorem dX13_workOne_621 : decode cX13_workOne 621 = .ok (.sipush 192, 3) := by decide +kernel
theorem dX13_workOne_624 : decode cX13_workOne 624 = .ok (.goto 6, 3) := by decide +kernel
theorem dX13_workOne_627 : decode cX13_workOne 627 = .ok (.sipush 193, 3) := by decide +kernel
theorem dX13_workOne_630 : decode cX13_workOne 630 = .ok (.invokevirtual 646, 3) := by decide +kernel
theorem dX13_workOne_633 : decode cX13_workOne 633 = .ok (.aload_n 0, 1) := by decide +kernel
theorem dX13_workOne_634 : decode cX13_workOne 634 = .ok (.aload_n 0, 1) := by decide +kernel
theorem dX13_workOne_635 : decode cX13_workOne 635 = .ok (.aload_n 0, 1) := by decide +kernel
theorem dX13_workOne_636 : decode cX13_workOne 636 = .ok (.getfield 55, 3) := by decide +kernel
theorem dX13_workOne_639 : decode cX13_workOne 639 = .ok (.iload_n 1, 1) := by decide +kernel
theorem dX13_workOne_640 : decode cX13_workOne 640 = .ok (.iaload, 1) := by decide +kernel
theorem dX13_workOne_641 : decode cX13_workOne 641 = .ok (.invokevirtual 618, 3) := by decide +kernel
theorem dX13_workOne_644 : decode cX13_workOne 644 = .ok (.invokevirtual 646, 3) := by decide +kernel
theorem dX13_workOne_647 : decode cX13_workOne 647 = .ok (.aload_n 0, 1) := by decide +kernel
theorem dX13_workOne_648 : decode cX13_workOne 648 = .ok (.iconst 1, 1) := by decide +kernel
theorem dX13_workOne_649 : decode cX13_workOne 649 = .ok (.iload_n 2, 1) := by decide +kernel
theorem dX13_workOne_650 : decode cX13_workOne 650 = .ok (.invokevirtual 712, 3) := by decide +kernel
theorem dX13_workOne_653 : decode cX13_workOne 653 = .ok (.return_, 1) := by decide +kernel
theorem dX13_workOne_654 : decode cX13_workOne 654 = .ok (.aload_n 0, 1) := by decide +kernel
theorem dX13_workOne_655 : decode cX13_workOne 655 = .ok (.iload_n 1, 1) := by decide +kernel
theorem dX13_workOne_656 : decode cX13_workOne 656 = .ok (.invokevirtual 722, 3) := by decide +kernel
theorem dX13_workOne_659 : decode cX13_workOne 659 = .ok (.return_, 1) := by decide +kernel
theorem dX13_workOne_660 : decode cX13_workOne 660 = .ok (.aload_n 0, 1) := by decide +kernel
theorem dX13_workOne_661 : decode cX13_workOne 661 = .ok (.invokevirtual 676, 3) := by decide +kernel
theorem dX13_workOne_664 : decode cX13_workOne 664 = .ok (.istore 4, 2) := by decide +kernel
theorem dX13_workOne_666 : decode cX13_workOne 666 = .ok (.aload_n 0, 1) := by decide +kernel
theorem dX13_workOne_667 : decode cX13_workOne 667 = .ok (.invokevirtual 676, 3) := by decide +kernel
theorem dX13_workOne_670 : decode cX13_workOne 670 = .ok (.istore 5, 2) := by decide +kernel
theorem dX13_workOne_672 : decode cX13_workOne 672 = .ok (.aload_n 0, 1) := by decide +kernel
theorem dX13_workOne_673 : decode cX13_workOne 673 = .ok (.aload_n 0, 1) := by decide +kernel
theorem dX13_workOne_674 : decode cX13_workOne 674 = .ok (.getfield 37, 3) := by decide +kernel
theorem dX13_workOne_677 : decode cX13_workOne 677 = .ok (.iload_n 1, 1) := by decide +kernel
theorem dX13_workOne_678 : decode cX13_workOne 678 = .ok (.iaload, 1) := by decide +kernel
theorem dX13_workOne_679 : decode cX13_workOne 679 = .ok (.invokevirtual 667, 3) := by decide +kernel
theorem dX13_workOne_682 : decode cX13_workOne 682 = .ok (.aload_n 0, 1) := by decide +kernel
theorem dX13_workOne_683 : decode cX13_workOne 683 = .ok (.dup, 1) := by decide +kernel
theorem dX13_workOne_684 : decode cX13_workOne 684 = .ok (.getfield 629, 3) := by decide +kernel
theorem dX13_workOne_687 : decode cX13_workOne 687 = .ok (.iconst 1, 1) := by decide +kernel
theorem dX13_workOne_688 : decode cX13_workOne 688 = .ok (.isub, 1) := by decide +kernel
theorem dX13_workOne_689 : decode cX13_workOne 689 = .ok (.putfield 629, 3) := by decide +kernel
theorem dX13_workOne_692 : decode cX13_workOne 692 = .ok (.aload_n 0, 1) := by decide +kernel
theorem dX13_workOne_693 : decode cX13_workOne 693 = .ok (.sipush 153, 3) := by decide +kernel
theorem dX13_workOne_696 : decode cX13_workOne 696 = .ok (.iload 4, 2) := by decide +kernel
theorem dX13_workOne_698 : decode cX13_workOne 698 = .ok (.invokevirtual 679, 3) := by decide +kernel
theorem dX13_workOne_701 : decode cX13_workOne 701 = .ok (.aload_n 0, 1) := by decide +kernel
theorem dX13_workOne_702 : decode cX13_workOne 702 = .ok (.aload_n 0, 1) := by decide +kernel
theorem dX13_workOne_703 : decode cX13_workOne 703 = .ok (.getfield 40, 3) := by decide +kernel
theorem dX13_workOne_706 : decode cX13_workOne 706 = .ok (.iload_n 1, 1) := by decide +kernel
theorem dX13_workOne_707 : decode cX13_workOne 707 = .ok (.iaload, 1) := by decide +kernel
theorem dX13_workOne_708 : decode cX13_workOne 708 = .ok (.invokevirtual 667, 3) := by decide +kernel
theorem dX13_workOne_711 : decode cX13_workOne 711 = .ok (.aload_n 0, 1) := by decide +kernel
theorem dX13_workOne_712 : decode cX13_workOne 712 = .ok (.dup, 1) := by decide +kernel
theorem dX13_workOne_713 : decode cX13_workOne 713 = .ok (.getfield 629, 3) := by decide +kernel
theorem dX13_workOne_716 : decode cX13_workOne 716 = .ok (.iconst 1, 1) := by decide +kernel
theorem dX13_workOne_717 : decode cX13_workOne 717 = .ok (.isub, 1) := by decide +kernel
theorem dX13_workOne_718 : decode cX13_workOne 718 = .ok (.putfield 629, 3) := by decide +kernel
theorem dX13_workOne_721 : decode cX13_workOne 721 = .ok (.aload_n 0, 1) := by decide +kernel
theorem dX13_workOne_722 : decode cX13_workOne 722 = .ok (.sipush 167, 3) := by decide +kernel
theorem dX13_workOne_725 : decode cX13_workOne 725 = .ok (.iload 5, 2) := by decide +kernel
theorem dX13_workOne_727 : decode cX13_workOne 727 = .ok (.invokevirtual 679, 3) := by decide +kernel
theorem dX13_workOne_730 : decode cX13_workOne 730 = .ok (.aload_n 0, 1) := by decide +kernel
theorem dX13_workOne_731 : decode cX13_workOne 731 = .ok (.iload 4, 2) := by decide +kernel
theorem dX13_workOne_733 : decode cX13_workOne 733 = .ok (.aload_n 0, 1) := by decide +kernel
theorem dX13_workOne_734 : decode cX13_workOne 734 = .ok (.getfield 627, 3) := by decide +kernel
theorem dX13_workOne_737 : decode cX13_workOne 737 = .ok (.invokevirtual 682, 3) := by decide +kernel
theorem dX13_workOne_740 : decode cX13_workOne 740 = .ok (.aload_n 0, 1) := by decide +kernel
theorem dX13_workOne_741 : decode cX13_workOne 741 = .ok (.aload_n 0, 1) := by decide +kernel
theorem dX13_workOne_742 : decode cX13_workOne 742 = .ok (.getfield 43, 3) := by decide +kernel
theorem dX13_workOne_745 : decode cX13_workOne 745 = .ok (.iload_n 1, 1) := by decide +kernel
theorem dX13_workOne_746 : decode cX13_workOne 746 = .ok (.iaload, 1) := by decide +kernel
theorem dX13_workOne_747 : decode cX13_workOne 747 = .ok (.invokevirtual 667, 3) := by decide +kernel
theorem dX13_workOne_750 : decode cX13_workOne 750 = .ok (.aload_n 0, 1) := by decide +kernel
theorem dX13_workOne_751 : decode cX13_workOne 751 = .ok (.dup, 1) := by decide +kernel
theorem dX13_workOne_752 : decode cX13_workOne 752 = .ok (.getfield 629, 3) := by decide +kernel
theorem dX13_workOne_755 : decode cX13_workOne 755 = .ok (.iconst 1, 1) := by decide +kernel
theorem dX13_workOne_756 : decode cX13_workOne 756 = .ok (.isub, 1) := by decide +kernel
theorem dX13_workOne_757 : decode cX13_workOne 757 = .ok (.putfield 629, 3) := by decide +kernel
theorem dX13_workOne_760 : decode cX13_workOne 760 = .ok (.aload_n 0, 1) := by decide +kernel
theorem dX13_workOne_761 : decode cX13_workOne 761 = .ok (.iload_n 2, 1) := by decide +kernel
theorem dX13_workOne_762 : decode cX13_workOne 762 = .ok (.invokevirtual 640, 3) := by decide +kernel
theorem dX13_workOne_765 : decode cX13_workOne 765 = .ok (.aload_n 0, 1) := by decide +kernel
theorem dX13_workOne_766 : decode cX13_workOne 766 = .ok (.iload 5, 2) := by decide +kernel
theorem dX13_workOne_768 : decode cX13_workOne 768 = .ok (.aload_n 0, 1) := by decide +kernel
theorem dX13_workOne_769 : decode cX13_workOne 769 = .ok (.getfield 627, 3) := by decide +kernel
theorem dX13_workOne_772 : decode cX13_workOne 772 = .ok (.invokevirtual 682, 3) := by decide +kernel
theorem dX13_workOne_775 : decode cX13_workOne 775 = .ok (.return_, 1) := by decide +kernel
theorem mt_X13_workOne : mx_mt 475 = some (yX13_workOne, cX13_workOne, 6, none) := rfl
theorem mt_X13_workCall : mx_mt 476 = some (yX13_workCall, cX13_workCall, 6, none) := rfl
theorem mt_X13_workBoth : mx_mt 478 = some (yX13_workBoth, cX13_workBoth, 7, none) := rfl
