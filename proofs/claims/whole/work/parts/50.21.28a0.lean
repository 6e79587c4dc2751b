theorem rs_RX13_390 : mx_res RX13 390 = some (1, 394, 2) := by decide +kernel
theorem rs_RX13_454 : mx_res RX13 454 = some (2, 392, 3) := by decide +kernel
theorem mt_X13_strength : mx_mt 408 = some (yX13_strength, cX13_strength, 3, (some .int)) := rfl
theorem dX13_strength_0 : decode cX13_strength 0 = .ok (.aload_n 0, 1) := by decide +kernel
theorem dX13_strength_1 : decode cX13_strength 1 = .ok (.iload_n 1, 1) := by decide +kernel
theorem dX13_strength_2 : decode cX13_strength 2 = .ok (.bipush 9, 2) := by decide +kernel
theorem dX13_strength_4 : decode cX13_strength 4 = .ok (.invokevirtual 390, 3) := by decide +kernel
theorem dX13_strength_7 : decode cX13_strength 7 = .ok (.ifCond .eq 6, 3) := by decide +kernel
theorem dX13_strength_10 : decode cX13_strength 10 = .ok (.bipush 6, 2) := by decide +kernel
theorem dX13_strength_12 : decode cX13_strength 12 = .ok (.ireturn, 1) := by decide +kernel
theorem dX13_strength_13 : decode cX13_strength 13 = .ok (.aload_n 0, 1) := by decide +kernel
theorem dX13_strength_14 : decode cX13_strength 14 = .ok (.getfield 16, 3) := by decide +kernel
theorem dX13_strength_17 : decode cX13_strength 17 = .ok (.iload_n 1, 1) := by decide +kernel
theorem dX13_strength_18 : decode cX13_strength 18 = .ok (.iaload, 1) := by decide +kernel
theorem dX13_strength_19 : decode cX13_strength 19 = .ok (.iconst 4, 1) := by decide +kernel
theorem dX13_strength_20 : decode cX13_strength 20 = .ok (.if_icmp .eq 5, 3) := by decide +kernel
theorem dX13_strength_23 : decode cX13_strength 23 = .ok (.iconst (-1), 1) := by decide +kernel
theorem dX13_strength_24 : decode cX13_strength 24 = .ok (.ireturn, 1) := by decide +kernel
theorem dX13_strength_25 : decode cX13_strength 25 = .ok (.aload_n 0, 1) := by decide +kernel
theorem dX13_strength_26 : decode cX13_strength 26 = .ok (.getfield 25, 3) := by decide +kernel
theorem dX13_strength_29 : decode cX13_strength 29 = .ok (.iload_n 1, 1) := by decide +kernel
theorem dX13_strength_30 : decode cX13_strength 30 = .ok (.iaload, 1) := by decide +kernel
theorem dX13_strength_31 : decode cX13_strength 31 = .ok (.istore_n 2, 1) := by decide +kernel
theorem dX13_strength_32 : decode cX13_strength 32 = .ok (.iload_n 2, 1) := by decide +kernel
theorem dX13_strength_33 : decode cX13_strength 33 = .ok (.iconst 0, 1) := by decide +kernel
theorem dX13_strength_34 : decode cX13_strength 34 = .ok (.bipush 124, 2) := by decide +kernel
theorem dX13_strength_36 : decode cX13_strength 36 = .ok (.bipush 124, 2) := by decide +kernel
theorem dX13_strength_38 : decode cX13_strength 38 = .ok (.invokestatic 454, 3) := by decide +kernel
theorem dX13_strength_41 : decode cX13_strength 41 = .ok (.if_icmp .ne 5, 3) := by decide +kernel
theorem dX13_strength_44 : decode cX13_strength 44 = .ok (.iconst 0, 1) := by decide +kernel
theorem dX13_strength_45 : decode cX13_strength 45 = .ok (.ireturn, 1) := by decide +kernel
theorem dX13_strength_46 : decode cX13_strength 46 = .ok (.iload_n 2, 1) := by decide +kernel
theorem dX13_strength_47 : decode cX13_strength 47 = .ok (.iconst 0, 1) := by decide +kernel
theorem dX13_strength_48 : decode cX13_strength 48 = .ok (.bipush 38, 2) := by decide +kernel
theorem dX13_strength_50 : decode cX13_strength 50 = .ok (.bipush 38, 2) := by decide +kernel
theorem dX13_strength_52 : decode cX13_strength 52 = .ok (.invokestatic 454, 3) := by decide +kernel
theorem dX13_strength_55 : decode cX13_strength 55 = .ok (.if_icmp .ne 5, 3) := by decide +kernel
theorem dX13_strength_58 : decode cX13_strength 58 = .ok (.iconst 1, 1) := by decide +kernel
theorem dX13_strength_59 : decode cX13_strength 59 = .ok (.ireturn, 1) := by decide +kernel
theorem dX13_strength_60 : decode cX13_strength 60 = .ok (.iload_n 2, 1) := by decide +kernel
theorem dX13_strength_61 : decode cX13_strength 61 = .ok (.bipush 124, 2) := by decide +kernel
theorem dX13_strength_63 : decode cX13_strength 63 = .ok (.if_icmp .ne 5, 3) := by decide +kernel
theorem dX13_strength_66 : decode cX13_strength 66 = .ok (.iconst 2, 1) := by decide +kernel
theorem dX13_strength_67 : decode cX13_strength 67 = .ok (.ireturn, 1) := by decide +kernel
theorem dX13_strength_68 : decode cX13_strength 68 = .ok (.iload_n 2, 1) := by decide +kernel
theorem dX13_strength_69 : decode cX13_strength 69 = .ok (.bipush 94, 2) := by decide +kernel
theorem dX13_strength_71 : decode cX13_strength 71 = .ok (.if_icmp .ne 5, 3) := by decide +kernel
theorem dX13_strength_74 : decode cX13_strength 74 = .ok (.iconst 3, 1) := by decide +kernel
theorem dX13_strength_75 : decode cX13_strength 75 = .ok (.ireturn, 1) := by decide +kernel
theorem dX13_strength_76 : decode cX13_strength 76 = .ok (.iload_n 2, 1) := by decide +kernel
theorem dX13_strength_77 : decode cX13_strength 77 = .ok (.bipush 38, 2) := by decide +kernel
theorem dX13_strength_79 : decode cX13_strength 79 = .ok (.if_icmp .ne 5, 3) := by decide +kernel
theorem dX13_strength_82 : decode cX13_strength 82 = .ok (.iconst 4, 1) := by decide +kernel
theorem dX13_strength_83 : decode cX13_strength 83 = .ok (.ireturn, 1) := by decide +kernel
theorem dX13_strength_84 : decode cX13_strength 84 = .ok (.iload_n 2, 1) := by decide +kernel
theorem dX13_strength_85 : decode cX13_strength 85 = .ok (.iconst 0, 1) := by decide +kernel
theorem dX13_strength_86 : decode cX13_strength 86 = .ok (.bipush 61, 2) := by decide +kernel
theorem dX13_strength_88 : decode cX13_strength 88 = .ok (.bipush 61, 2) := by decide +kernel
theorem dX13_strength_90 : decode cX13_strength 90 = .ok (.invokestatic 454, 3) := by decide +kernel
theorem dX13_strength_93 : decode cX13_strength 93 = .ok (.if_icmp .eq 15, 3) := by decide +kernel
theorem dX13_strength_96 : decode cX13_strength 96 = .ok (.iload_n 2, 1) := by decide +kernel
theorem dX13_strength_97 : decode cX13_strength 97 = .ok (.iconst 0, 1) := by decide +kernel
theorem dX13_strength_98 : decode cX13_strength 98 = .ok (.bipush 33, 2) := by decide +kernel
theorem dX13_strength_100 : decode cX13_strength 100 = .ok (.bipush 61, 2) := by decide +kernel
theorem dX13_strength_102 : decode cX13_strength 102 = .ok (.invokestatic 454, 3) := by decide +kernel
theorem dX13_strength_105 : decode cX13_strength 105 = .ok (.if_icmp .ne 5, 3) := by decide +kernel
theorem dX13_strength_108 : decode cX13_strength 108 = .ok (.iconst 5, 1) := by decide +kernel
theorem dX13_strength_109 : decode cX13_strength 109 = .ok (.ireturn, 1) := by decide +kernel
theorem dX13_strength_110 : decode cX13_strength 110 = .ok (.iload_n 2, 1) := by decide +kernel
theorem dX13_strength_111 : decode cX13_strength 111 = .ok (.bipush 60, 2) := by decide +kernel
theorem dX13_strength_113 : decode cX13_strength 113 = .ok (.if_icmp .eq 33, 3) := by decide +kernel
theorem dX13_strength_116 : decode cX13_strength 116 = .ok (.iload_n 2, 1) := by decide +kernel
theorem dX13_strength_117 : decode cX13_strength 117 = .ok (.bipush 62, 2) := by decide +kernel
theorem dX13_strength_119 : decode cX13_strength 119 = .ok (.if_icmp .eq 27, 3) := by decide +kernel
theorem dX13_strength_122 : decode cX13_strength 122 = .ok (.iload_n 2, 1) := by decide +kernel
theorem dX13_strength_123 : decode cX13_strength 123 = .ok (.iconst 0, 1) := by decide +kernel
theorem dX13_strength_124 : decode cX13_strength 124 = .ok (.bipush 60, 2) := by decide +kernel
theorem dX13_strength_126 : decode cX13_strength 126 = .ok (.bipush 61, 2) := by decide +kernel
theorem dX13_strength_128 : decode cX13_strength 128 = .ok (.invokestatic 454, 3) := by decide +kernel
theorem dX13_strength_131 : decode cX13_strength 131 = .ok (.if_icmp .eq 15, 3) := by decide +kernel
theorem dX13_strength_134 : decode cX13_strength 134 = .ok (.iload_n 2, 1) := by decide +kernel
theorem dX13_strength_135 : decode cX13_strength 135 = .ok (.iconst 0, 1) := by decide +kernel
theorem dX13_strength_136 : decode cX13_strength 136 = .ok (.bipush 62, 2) := by decide +kernel
theorem dX13_strength_138 : decode cX13_strength 138 = .ok (.bipush 61, 2) := by decide +kernel
theorem dX13_strength_140 : decode cX13_strength 140 = .ok (.invokestatic 454, 3) := by decide +kernel
theorem dX13_strength_143 : decode cX13_strength 143 = .ok (.if_icmp .ne 6, 3) := by decide +kernel
theorem dX13_strength_146 : decode cX13_strength 146 = .ok (.bipush 6, 2) := by decide +kernel
theorem dX13_strength_148 : decode cX13_strength 148 = .ok (.ireturn, 1) := by decide +kernel
theorem dX13_strength_149 : decode cX13_strength 149 = .ok (.iload_n 2, 1) := by decide +kernel
theorem dX13_strength_150 : decode cX13_strength 150 = .ok (.iconst 0, 1) := by decide +kernel
theorem dX13_strength_151 : decode cX13_strength 151 = .ok (.bipush 60, 2) := by decide +kernel
theorem dX13_strength_153 : decode cX13_strength 153 = .ok (.bipush 60, 2) := by decide +kernel
theorem dX13_strength_155 : decode cX13_strength 155 = .ok (.invokestatic 454, 3) := by decide +kernel
theorem dX13_strength_158 : decode cX13_strength 158 = .ok (.if_icmp .eq 28, 3) := by decide +kernel
theorem dX13_strength_161 : decode cX13_strength 161 = .ok (.iload_n 2, 1) := by decide +kernel
theorem dX13_strength_162 : decode cX13_strength 162 = .ok (.iconst 0, 1) := by decide +kernel
theorem dX13_strength_163 : decode cX13_strength 163 = .ok (.bipush 62, 2) := by decide +kernel
theorem dX13_strength_165 : decode cX13_strength 165 = .ok (.bipush 62, 2) := by decide +kernel
theorem dX13_strength_167 : decode cX13_strength 167 = .ok (.invokestatic 454, 3) := by decide +kernel
theorem dX13_strength_170 : decode cX13_strength 170 = .ok (.if_icmp .eq 16, 3) := by decide +kernel
theorem dX13_strength_173 : decode cX13_strength 173 = .ok (.iload_n 2, 1) := by decide +kernel
theorem dX13_strength_174 : decode cX13_strength 174 = .ok (.bipush 62, 2) := by decide +kernel
theorem dX13_strength_176 : decode cX13_strength 176 = .ok (.bipush 62, 2) := by decide +kernel
theorem dX13_strength_178 : decode cX13_strength 178 = .ok (.bipush 62, 2) := by decide +kernel
theorem dX13_strength_180 : decode cX13_strength 180 = .ok (.invokestatic 454, 3) := by decide +kernel
theorem dX13_strength_183 : decode cX13_strength 183 = .ok (.if_icmp .ne 6, 3) := by decide +kernel
theorem dX13_strength_186 : decode cX13_strength 186 = .ok (.bipush 7, 2) := by decide +kernel
theorem dX13_strength_188 : decode cX13_strength 188 = .ok (.ireturn, 1) := by decide +kernel
theorem dX13_strength_189 : decode cX13_strength 189 = .ok (.iload_n 2, 1) := by decide +kernel
theorem dX13_strength_190 : decode cX13_strength 190 = .ok (.bipush 43, 2) := by decide +kernel
theorem dX13_strength_192 : decode cX13_strength 192 = .ok (.if_icmp .eq 9, 3) := by decide +kernel
theorem dX13_strength_195 : decode cX13_strength 195 = .ok (.iload_n 2, 1) := by decide +kernel
theorem dX13_strength_196 : decode cX13_strength 196 = .ok (.bipush 45, 2) := by decide +kernel
theorem dX13_strength_198 : decode cX13_strength 198 = .ok (.if_icmp .ne 6, 3) := by decide +kernel
theorem dX13_strength_201 : decode cX13_strength 201 = .ok (.bipush 8, 2) := by decide +kernel
theorem dX13_strength_203 : decode cX13_strength 203 = .ok (.ireturn, 1) := by decide +kernel
theorem dX13_strength_204 : decode cX13_strength 204 = .ok (.iload_n 2, 1) := by decide +kernel
theorem dX13_strength_205 : decode cX13_strength 205 = .ok (.bipush 42, 2) := by decide +kernel
theorem dX13_strength_207 : decode cX13_strength 207 = .ok (.if_icmp .eq 15, 3) := by decide +kernel
theorem dX13_strength_210 : decode cX13_strength 210 = .ok (.iload_n 2, 1) := by decide +kernel
theorem dX13_strength_211 : decode cX13_strength 211 = .ok (.bipush 47, 2) := by decide +kernel
theorem dX13_strength_213 : decode cX13_strength 213 = .ok (.if_icmp .eq 9, 3) := by decide +kernel
theorem dX13_strength_216 : decode cX13_strength 216 = .ok (.iload_n 2, 1) := by decide +kernel
theorem dX13_strength_217 : decode cX13_strength 217 = .ok (.bipush 37, 2) := by decide +kernel
theorem dX13_strength_219 : decode cX13_strength 219 = .ok (.if_icmp .ne 8, 3) := by decide +kernel
theorem dX13_strength_222 : decode cX13_strength 222 = .ok (.bipush 9, 2) := by decide +kernel
theorem dX13_strength_224 : decode cX13_strength 224 = .ok (.goto 4, 3) := by decide +kernel
theorem dX13_strength_227 : decode cX13_strength 227 = .ok (.iconst (-1), 1) := by decide +kernel
theorem dX13_strength_228 : decode cX13_strength 228 = .ok (.ireturn, 1) := by decide +kernel
theorem rs_RX13_328 : mx_res RX13 328 = some (17, 0, 0) := by decide +kernel
theorem rs_RX13_334 : mx_res RX13 334 = some (16, 0, 0) := by decide +kernel
theorem mt_X13_among : mx_mt 387 = some (yX13_among, cX13_among, 8, (some .int)) := rfl
theorem dX13_among_0 : decode cX13_among 0 = .ok (.iconst (-1), 1) := by decide +kernel
theorem dX13_among_1 : decode cX13_among 1 = .ok (.istore 4, 2) := by decide +kernel
theorem dX13_among_3 : decode cX13_among 3 = .ok (.iconst 0, 1) := by decide +kernel
theorem dX13_among_4 : decode cX13_among 4 = .ok (.istore 5, 2) := by decide +kernel
theorem dX13_among_6 : decode cX13_among 6 = .ok (.iload 5, 2) := by decide +kernel
theorem dX13_among_8 : decode cX13_among 8 = .ok (.iconst 1, 1) := by decide +kernel
theorem dX13_among_9 : decode cX13_among 9 = .ok (.iadd, 1) := by decide +kernel
theorem dX13_among_10 : decode cX13_among 10 = .ok (.aload_n 1, 1) := by decide +kernel
theorem dX13_among_11 : decode cX13_among 11 = .ok (.invokevirtual 328, 3) := by decide +kernel
theorem dX13_among_14 : decode cX13_among 14 = .ok (.if_icmp .ge 119, 3) := by decide +kernel
theorem dX13_among_17 : decode cX13_among 17 = .ok (.aload_n 1, 1) := by decide +kernel
theorem dX13_among_18 : decode cX13_among 18 = .ok (.iload 5, 2) := by decide +kernel
theorem dX13_among_20 : decode cX13_among 20 = .ok (.invokevirtual 334, 3) := by decide +kernel
theorem dX13_among_23 : decode cX13_among 23 = .ok (.bipush 32, 2) := by decide +kernel
theorem dX13_among_25 : decode cX13_among 25 = .ok (.if_icmp .eq 6, 3) := by decide +kernel
theorem dX13_among_28 : decode cX13_among 28 = .ok (.goto 99, 3) := by decide +kernel
theorem dX13_among_31 : decode cX13_among 31 = .ok (.iinc 4 1, 3) := by decide +kernel
theorem dX13_among_34 : decode cX13_among 34 = .ok (.iload 5, 2) := by decide +kernel
theorem dX13_among_36 : decode cX13_among 36 = .ok (.iload_n 3, 1) := by decide +kernel
theorem dX13_among_37 : decode cX13_among 37 = .ok (.iadd, 1) := by decide +kernel
theorem dX13_among_38 : decode cX13_among 38 = .ok (.iconst 1, 1) := by decide +kernel
theorem dX13_among_39 : decode cX13_among 39 = .ok (.iadd, 1) := by decide +kernel
theorem dX13_among_40 : decode cX13_among 40 = .ok (.aload_n 1, 1) := by decide +kernel
theorem dX13_among_41 : decode cX13_among 41 = .ok (.invokevirtual 328, 3) := by decide +kernel
theorem dX13_among_44 : decode cX13_among 44 = .ok (.if_icmp .ge 22, 3) := by decide +kernel
theorem dX13_among_47 : decode cX13_among 47 = .ok (.aload_n 1, 1) := by decide +kernel
theorem dX13_among_48 : decode cX13_among 48 = .ok (.iload 5, 2) := by decide +kernel
theorem dX13_among_50 : decode cX13_among 50 = .ok (.iload_n 3, 1) := by decide +kernel
theorem dX13_among_51 : decode cX13_among 51 = .ok (.iadd, 1) := by decide +kernel
theorem dX13_among_52 : decode cX13_among 52 = .ok (.iconst 1, 1) := by decide +kernel
theorem dX13_among_53 : decode cX13_among 53 = .ok (.iadd, 1) := by decide +kernel
theorem dX13_among_54 : decode cX13_among 54 = .ok (.invokevirtual 334, 3) := by decide +kernel
theorem dX13_among_57 : decode cX13_among 57 = .ok (.bipush 32, 2) := by decide +kernel
theorem dX13_among_59 : decode cX13_among 59 = .ok (.if_icmp .ne 7, 3) := by decide +kernel
theorem dX13_among_62 : decode cX13_among 62 = .ok (.iconst 1, 1) := by decide +kernel
theorem dX13_among_63 : decode cX13_among 63 = .ok (.goto 4, 3) := by decide +kernel
theorem dX13_among_66 : decode cX13_among 66 = .ok (.iconst 0, 1) := by decide +kernel
theorem dX13_among_67 : decode cX13_among 67 = .ok (.istore 6, 2) := by decide +kernel
theorem dX13_among_69 : decode cX13_among 69 = .ok (.iconst 0, 1) := by decide +kernel
theorem dX13_among_70 : decode cX13_among 70 = .ok (.istore 7, 2) := by decide +kernel
theorem dX13_among_72 : decode cX13_among 72 = .ok (.iload 7, 2) := by decide +kernel
theorem dX13_among_74 : decode cX13_among 74 = .ok (.iload_n 3, 1) := by decide +kernel
theorem dX13_among_75 : decode cX13_among 75 = .ok (.if_icmp .ge 44, 3) := by decide +kernel
theorem dX13_among_78 : decode cX13_among 78 = .ok (.iload 6, 2) := by decide +kernel
theorem dX13_among_80 : decode cX13_among 80 = .ok (.ifCond .eq 39, 3) := by decide +kernel
theorem dX13_among_83 : decode cX13_among 83 = .ok (.aload_n 1, 1) := by decide +kernel
theorem dX13_among_84 : decode cX13_among 84 = .ok (.iload 5, 2) := by decide +kernel
theorem dX13_among_86 : decode cX13_among 86 = .ok (.iconst 1, 1) := by decide +kernel
theorem dX13_among_87 : decode cX13_among 87 = .ok (.iadd, 1) := by decide +kernel
theorem dX13_among_88 : decode cX13_among 88 = .ok (.iload 7, 2) := by decide +kernel
theorem dX13_among_90 : decode cX13_among 90 = .ok (.iadd, 1) := by decide +kernel
theorem dX13_among_91 : decode cX13_among 91 = .ok (.invokevirtual 334, 3) := by decide +kernel
theorem dX13_among_94 : decode cX13_among 94 = .ok (.aload_n 0, 1) := by decide +kernel
theorem dX13_among_95 : decode cX13_among 95 = .ok (.getfield 13, 3) := by decide +kernel
theorem dX13_among_98 : decode cX13_among 98 = .ok (.iload_n 2, 1) := by decide +kernel
theorem dX13_among_99 : decode cX13_among 99 = .ok (.iload 7, 2) := by decide +kernel
theorem dX13_among_101 : decode cX13_among 101 = .ok (.iadd, 1) := by decide +kernel
theorem dX13_among_102 : decode cX13_among 102 = .ok (.iaload, 1) := by decide +kernel
theorem dX13_among_103 : decode cX13_among 103 = .ok (.if_icmp .ne 7, 3) := by decide +kernel
theorem dX13_among_106 : decode cX13_among 106 = .ok (.iconst 1, 1) := by decide +kernel
theorem dX13_among_107 : decode cX13_among 107 = .ok (.goto 4, 3) := by decide +kernel
theorem dX13_among_110 : decode cX13_among 110 = .ok (.iconst 0, 1) := by decide +kernel
theorem dX13_among_111 : decode cX13_among 111 = .ok (.istore 6, 2) := by decide +kernel
theorem dX13_among_113 : decode cX13_among 113 = .ok (.iinc 7 1, 3) := by decide +kernel
theorem dX13_among_116 : decode cX13_among 116 = .ok (.goto (-44), 3) := by decide +kernel
theorem dX13_among_119 : decode cX13_among 119 = .ok (.iload 6, 2) := by decide +kernel
theorem dX13_among_121 : decode cX13_among 121 = .ok (.ifCond .eq 6, 3) := by decide +kernel
theorem dX13_among_124 : decode cX13_among 124 = .ok (.iload 4, 2) := by decide +kernel
theorem dX13_among_126 : decode cX13_among 126 = .ok (.ireturn, 1) := by decide +kernel
theorem dX13_among_127 : decode cX13_among 127 = .ok (.iinc 5 1, 3) := by decide +kernel
theorem dX13_among_130 : decode cX13_among 130 = .ok (.goto (-124), 3) := by decide +kernel
theorem dX13_among_133 : decode cX13_among 133 = .ok (.iconst (-1), 1) := by decide +kernel
theorem dX13_among_134 : decode cX13_among 134 = .ok (.ireturn, 1) := by decide +kernel
theorem rs_RX13_62 : mx_res RX13 62 = some (0, 13, 25) := by decide +kernel
theorem rs_RX13_354 : mx_res RX13 354 = some (1, 387, 3) := by decide +kernel
theorem rs_RX13_409 : mx_res RX13 409 = some (0, 13, 24) := by decide +kernel
theorem rs_RX13_477 : mx_res RX13 477 = some (12, 3, 0) := by decide +kernel
theorem mt_X13_classOf : mx_mt 417 = some (yX13_classOf, cX13_classOf, 4, (some .int)) := rfl
theorem dX13_classOf_0 : decode cX13_classOf 0 = .ok (.aload_n 0, 1) := by decide +kernel
theorem dX13_classOf_1 : decode cX13_classOf 1 = .ok (.ldc_w 477, 3) := by decide +kernel
theorem dX13_classOf_4 : decode cX13_classOf 4 = .ok (.aload_n 0, 1) := by decide +kernel
theorem dX13_classOf_5 : decode cX13_classOf 5 = .ok (.getfield 19, 3) := by decide +kernel
theorem dX13_classOf_8 : decode cX13_classOf 8 = .ok (.iload_n 1, 1) := by decide +kernel
theorem dX13_classOf_9 : decode cX13_classOf 9 = .ok (.iaload, 1) := by decide +kernel
theorem dX13_classOf_10 : decode cX13_classOf 10 = .ok (.aload_n 0, 1) := by decide +kernel
theorem dX13_classOf_11 : decode cX13_classOf 11 = .ok (.getfield 22, 3) := by decide +kernel
theorem dX13_classOf_14 : decode cX13_classOf 14 = .ok (.iload_n 1, 1) := by decide +kernel
theorem dX13_classOf_15 : decode cX13_classOf 15 = .ok (.iaload, 1) := by decide +kernel
theorem dX13_classOf_16 : decode cX13_classOf 16 = .ok (.invokevirtual 354, 3) := by decide +kernel
theorem dX13_classOf_19 : decode cX13_classOf 19 = .ok (.istore_n 2, 1) := by decide +kernel
theorem dX13_classOf_20 : decode cX13_classOf 20 = .ok (.iload_n 2, 1) := by decide +kernel
theorem dX13_classOf_21 : decode cX13_classOf 21 = .ok (.ifCond .lt 5, 3) := by decide +kernel
theorem dX13_classOf_24 : decode cX13_classOf 24 = .ok (.iload_n 2, 1) := by decide +kernel
theorem dX13_classOf_25 : decode cX13_classOf 25 = .ok (.ireturn, 1) := by decide +kernel
theorem dX13_classOf_26 : decode cX13_classOf 26 = .ok (.iconst 0, 1) := by decide +kernel
theorem dX13_classOf_27 : decode cX13_classOf 27 = .ok (.istore_n 3, 1) := by decide +kernel
theorem dX13_classOf_28 : decode cX13_classOf 28 = .ok (.iload_n 3, 1) := by decide +kernel
theorem dX13_classOf_29 : decode cX13_classOf 29 = .ok (.aload_n 0, 1) := by decide +kernel
theorem dX13_classOf_30 : decode cX13_classOf 30 = .ok (.getfield 409, 3) := by decide +kernel
theorem dX13_classOf_33 : decode cX13_classOf 33 = .ok (.if_icmp .ge 28, 3) := by decide +kernel
theorem dX13_classOf_36 : decode cX13_classOf 36 = .ok (.aload_n 0, 1) := by decide +kernel
theorem dX13_classOf_37 : decode cX13_classOf 37 = .ok (.aload_n 0, 1) := by decide +kernel
theorem dX13_classOf_38 : decode cX13_classOf 38 = .ok (.getfield 62, 3) := by decide +kernel
theorem dX13_classOf_41 : decode cX13_classOf 41 = .ok (.iload_n 3, 1) := by decide +kernel
theorem dX13_classOf_42 : decode cX13_classOf 42 = .ok (.iaload, 1) := by decide +kernel
theorem dX13_classOf_43 : decode cX13_classOf 43 = .ok (.iload_n 1, 1) := by decide +kernel
theorem dX13_classOf_44 : decode cX13_classOf 44 = .ok (.invokevirtual 479, 3) := by decide +kernel
theorem dX13_classOf_47 : decode cX13_classOf 47 = .ok (.ifCond .eq 8, 3) := by decide +kernel
theorem dX13_classOf_50 : decode cX13_classOf 50 = .ok (.bipush 8, 2) := by decide +kernel
theorem dX13_classOf_52 : decode cX13_classOf 52 = .ok (.iload_n 3, 1) := by decide +kernel
theorem dX13_classOf_53 : decode cX13_classOf 53 = .ok (.iadd, 1) := by decide +kernel
theorem dX13_classOf_54 : decode cX13_classOf 54 = .ok (.ireturn, 1) := by decide +kernel
theorem dX13_classOf_55 : decode cX13_classOf 55 = .ok (.iinc 3 1, 3) := by decide +kernel
theorem dX13_classOf_58 : decode cX13_classOf 58 = .ok (.goto (-30), 3) := by decide +kernel
theorem dX13_classOf_61 : decode cX13_classOf 61 = .ok (.iconst (-1), 1) := by decide +kernel
theorem dX13_classOf_62 : decode cX13_classOf 62 = .ok (.ireturn, 1) := by decide +kernel
theorem mt_X13_isThing : mx_mt 421 = some (yX13_isThing, cX13_isThing, 1, (some .boolean)) := rfl
theorem dX13_isThing_0 : decode cX13_isThing 0 = .ok (.iload_n 0, 1) := by decide +kernel
theorem dX13_isThing_1 : decode cX13_isThing 1 = .ok (.iconst 2, 1) := by decide +kernel
theorem dX13_isThing_2 : decode cX13_isThing 2 = .ok (.if_icmp .eq 14, 3) := by decide +kernel
theorem dX13_isThing_5 : decode cX13_isThing 5 = .ok (.iload_n 0, 1) := by decide +kernel
theorem dX13_isThing_6 : decode cX13_isThing 6 = .ok (.iconst 4, 1) := by decide +kernel
theorem dX13_isThing_7 : decode cX13_isThing 7 = .ok (.if_icmp .eq 9, 3) := by decide +kernel
theorem dX13_isThing_10 : decode cX13_isThing 10 = .ok (.iload_n 0, 1) := by decide +kernel
theorem dX13_isThing_11 : decode cX13_isThing 11 = .ok (.bipush 8, 2) := by decide +kernel
theorem dX13_isThing_13 : decode cX13_isThing 13 = .ok (.if_icmp .lt 7, 3) := by decide +kernel
theorem dX13_isThing_16 : decode cX13_isThing 16 = .ok (.iconst 1, 1) := by decide +kernel
theorem dX13_isThing_17 : decode cX13_isThing 17 = .ok (.goto 4, 3) := by decide +kernel
theorem dX13_isThing_20 : decode cX13_isThing 20 = .ok (.iconst 0, 1) := by decide +kernel
theorem dX13_isThing_21 : decode cX13_isThing 21 = .ok (.ireturn, 1) := by decide +kernel
theorem rs_RX13_43 : mx_res RX13 43 = some (0, 13, 16) := by decide +kernel
theorem rs_RX13_89 : mx_res RX13 89 = some (0, 13, 35) := by decide +kernel
theorem rs_RX13_543 : mx_res RX13 543 = some (2, 421, 1) := by decide +kernel
theorem rs_RX13_573 : mx_res RX13 573 = some (1, 440, 1) := by decide +kernel
theorem rs_RX13_588 : mx_res RX13 588 = some (12, 4, 0) := by decide +kernel
theorem mt_X13_field : mx_mt 444 = some (yX13_field, cX13_field, 4, (some .int)) := rfl
theorem dX13_field_0 : decode cX13_field 0 = .ok (.aload_n 0, 1) := by decide +kernel
theorem dX13_field_1 : decode cX13_field 1 = .ok (.iload_n 1, 1) := by decide +kernel
theorem dX13_field_2 : decode cX13_field 2 = .ok (.invokevirtual 573, 3) := by decide +kernel
theorem dX13_field_5 : decode cX13_field 5 = .ok (.istore_n 2, 1) := by decide +kernel
theorem dX13_field_6 : decode cX13_field 6 = .ok (.aload_n 0, 1) := by decide +kernel
theorem dX13_field_7 : decode cX13_field 7 = .ok (.getfield 319, 3) := by decide +kernel
theorem dX13_field_10 : decode cX13_field 10 = .ok (.ifCond .eq 5, 3) := by decide +kernel
theorem dX13_field_13 : decode cX13_field 13 = .ok (.iconst 0, 1) := by decide +kernel
theorem dX13_field_14 : decode cX13_field 14 = .ok (.ireturn, 1) := by decide +kernel
theorem dX13_field_15 : decode cX13_field 15 = .ok (.iload_n 2, 1) := by decide +kernel
theorem dX13_field_16 : decode cX13_field 16 = .ok (.iconst 2, 1) := by decide +kernel
theorem dX13_field_17 : decode cX13_field 17 = .ok (.if_icmp .eq 10, 3) := by decide +kernel
theorem dX13_field_20 : decode cX13_field 20 = .ok (.iload_n 2, 1) := by decide +kernel
theorem dX13_field_21 : decode cX13_field 21 = .ok (.invokestatic 543, 3) := by decide +kernel
theorem dX13_field_24 : decode cX13_field 24 = .ok (.ifCond .ne 17, 3) := by decide +kernel
theorem dX13_field_27 : decode cX13_field 27 = .ok (.aload_n 0, 1) := by decide +kernel
theorem dX13_field_28 : decode cX13_field 28 = .ok (.bipush 6, 2) := by decide +kernel
theorem dX13_field_30 : decode cX13_field 30 = .ok (.aload_n 0, 1) := by decide +kernel
theorem dX13_field_31 : decode cX13_field 31 = .ok (.getfield 43, 3) := by decide +kernel
theorem dX13_field_34 : decode cX13_field 34 = .ok (.iload_n 1, 1) := by decide +kernel
theorem dX13_field_35 : decode cX13_field 35 = .ok (.iaload, 1) := by decide +kernel
theorem dX13_field_36 : decode cX13_field 36 = .ok (.invokevirtual 379, 3) := by decide +kernel
theorem dX13_field_39 : decode cX13_field 39 = .ok (.iconst 0, 1) := by decide +kernel
theorem dX13_field_40 : decode cX13_field 40 = .ok (.ireturn, 1) := by decide +kernel
theorem dX13_field_41 : decode cX13_field 41 = .ok (.iload_n 2, 1) := by decide +kernel
theorem dX13_field_42 : decode cX13_field 42 = .ok (.invokestatic 485, 3) := by decide +kernel
theorem dX13_field_45 : decode cX13_field 45 = .ok (.ifCond .eq 72, 3) := by decide +kernel
theorem dX13_field_48 : decode cX13_field 48 = .ok (.aload_n 0, 1) := by decide +kernel
theorem dX13_field_49 : decode cX13_field 49 = .ok (.getfield 52, 3) := by decide +kernel
theorem dX13_field_52 : decode cX13_field 52 = .ok (.iload_n 1, 1) := by decide +kernel
theorem dX13_field_53 : decode cX13_field 53 = .ok (.iconst (-1), 1) := by decide +kernel
theorem dX13_field_54 : decode cX13_field 54 = .ok (.iastore, 1) := by decide +kernel
theorem dX13_field_55 : decode cX13_field 55 = .ok (.aload_n 0, 1) := by decide +kernel
theorem dX13_field_56 : decode cX13_field 56 = .ok (.getfield 22, 3) := by decide +kernel
theorem dX13_field_59 : decode cX13_field 59 = .ok (.aload_n 0, 1) := by decide +kernel
theorem dX13_field_60 : decode cX13_field 60 = .ok (.getfield 31, 3) := by decide +kernel
theorem dX13_field_63 : decode cX13_field 63 = .ok (.iload_n 1, 1) := by decide +kernel
theorem dX13_field_64 : decode cX13_field 64 = .ok (.iaload, 1) := by decide +kernel
theorem dX13_field_65 : decode cX13_field 65 = .ok (.iaload, 1) := by decide +kernel
theorem dX13_field_66 : decode cX13_field 66 = .ok (.bipush 6, 2) := by decide +kernel
theorem dX13_field_68 : decode cX13_field 68 = .ok (.if_icmp .ne 30, 3) := by decide +kernel
theorem dX13_field_71 : decode cX13_field 71 = .ok (.aload_n 0, 1) := by decide +kernel
theorem dX13_field_72 : decode cX13_field 72 = .ok (.ldc_w 588, 3) := by decide +kernel
theorem dX13_field_75 : decode cX13_field 75 = .ok (.aload_n 0, 1) := by decide +kernel
theorem dX13_field_76 : decode cX13_field 76 = .ok (.getfield 19, 3) := by decide +kernel
theorem dX13_field_79 : decode cX13_field 79 = .ok (.aload_n 0, 1) := by decide +kernel
theorem dX13_field_80 : decode cX13_field 80 = .ok (.getfield 31, 3) := by decide +kernel
theorem dX13_field_83 : decode cX13_field 83 = .ok (.iload_n 1, 1) := by decide +kernel
theorem dX13_field_84 : decode cX13_field 84 = .ok (.iaload, 1) := by decide +kernel
theorem dX13_field_85 : decode cX13_field 85 = .ok (.iaload, 1) := by decide +kernel
theorem dX13_field_86 : decode cX13_field 86 = .ok (.bipush 6, 2) := by decide +kernel
theorem dX13_field_88 : decode cX13_field 88 = .ok (.invokevirtual 354, 3) := by decide +kernel
theorem dX13_field_91 : decode cX13_field 91 = .ok (.ifCond .ne 7, 3) := by decide +kernel
theorem dX13_field_94 : decode cX13_field 94 = .ok (.iconst 1, 1) := by decide +kernel
theorem dX13_field_95 : decode cX13_field 95 = .ok (.goto 4, 3) := by decide +kernel
theorem dX13_field_98 : decode cX13_field 98 = .ok (.iconst 0, 1) := by decide +kernel
theorem dX13_field_99 : decode cX13_field 99 = .ok (.istore_n 3, 1) := by decide +kernel
theorem dX13_field_100 : decode cX13_field 100 = .ok (.iload_n 3, 1) := by decide +kernel
theorem dX13_field_101 : decode cX13_field 101 = .ok (.ifCond .ne 14, 3) := by decide +kernel
theorem dX13_field_104 : decode cX13_field 104 = .ok (.aload_n 0, 1) := by decide +kernel
theorem dX13_field_105 : decode cX13_field 105 = .ok (.iconst 5, 1) := by decide +kernel
theorem dX13_field_106 : decode cX13_field 106 = .ok (.aload_n 0, 1) := by decide +kernel
theorem dX13_field_107 : decode cX13_field 107 = .ok (.getfield 31, 3) := by decide +kernel
theorem dX13_field_110 : decode cX13_field 110 = .ok (.iload_n 1, 1) := by decide +kernel
theorem dX13_field_111 : decode cX13_field 111 = .ok (.iaload, 1) := by decide +kernel
theorem dX13_field_112 : decode cX13_field 112 = .ok (.invokevirtual 379, 3) := by decide +kernel
theorem dX13_field_115 : decode cX13_field 115 = .ok (.iconst 0, 1) := by decide +kernel
theorem dX13_field_116 : decode cX13_field 116 = .ok (.ireturn, 1) := by decide +kernel
theorem dX13_field_117 : decode cX13_field 117 = .ok (.aload_n 0, 1) := by decide +kernel
theorem dX13_field_118 : decode cX13_field 118 = .ok (.iload_n 2, 1) := by decide +kernel
theorem dX13_field_119 : decode cX13_field 119 = .ok (.bipush 8, 2) := by decide +kernel
theorem dX13_field_121 : decode cX13_field 121 = .ok (.isub, 1) := by decide +kernel
theorem dX13_field_122 : decode cX13_field 122 = .ok (.iconst 2, 1) := by decide +kernel
theorem dX13_field_123 : decode cX13_field 123 = .ok (.idiv, 1) := by decide +kernel
theorem dX13_field_124 : decode cX13_field 124 = .ok (.aload_n 0, 1) := by decide +kernel
theorem dX13_field_125 : decode cX13_field 125 = .ok (.getfield 31, 3) := by decide +kernel
theorem dX13_field_128 : decode cX13_field 128 = .ok (.iload_n 1, 1) := by decide +kernel
theorem dX13_field_129 : decode cX13_field 129 = .ok (.iaload, 1) := by decide +kernel
theorem dX13_field_130 : decode cX13_field 130 = .ok (.iconst 0, 1) := by decide +kernel
theorem dX13_field_131 : decode cX13_field 131 = .ok (.invokevirtual 507, 3) := by decide +kernel
theorem dX13_field_134 : decode cX13_field 134 = .ok (.istore_n 3, 1) := by decide +kernel
theorem dX13_field_135 : decode cX13_field 135 = .ok (.iload_n 3, 1) := by decide +kernel
theorem dX13_field_136 : decode cX13_field 136 = .ok (.iconst (-1), 1) := by decide +kernel
theorem dX13_field_137 : decode cX13_field 137 = .ok (.if_icmp .ne 14, 3) := by decide +kernel
theorem dX13_field_140 : decode cX13_field 140 = .ok (.aload_n 0, 1) := by decide +kernel
theorem dX13_field_141 : decode cX13_field 141 = .ok (.iconst 5, 1) := by decide +kernel
theorem dX13_field_142 : decode cX13_field 142 = .ok (.aload_n 0, 1) := by decide +kernel
theorem dX13_field_143 : decode cX13_field 143 = .ok (.getfield 31, 3) := by decide +kernel
theorem dX13_field_146 : decode cX13_field 146 = .ok (.iload_n 1, 1) := by decide +kernel
theorem dX13_field_147 : decode cX13_field 147 = .ok (.iaload, 1) := by decide +kernel
theorem dX13_field_148 : decode cX13_field 148 = .ok (.invokevirtual 379, 3) := by decide +kernel
theorem dX13_field_151 : decode cX13_field 151 = .ok (.aload_n 0, 1) := by decide +kernel
theorem dX13_field_152 : decode cX13_field 152 = .ok (.getfield 52, 3) := by decide +kernel
theorem dX13_field_155 : decode cX13_field 155 = .ok (.iload_n 1, 1) := by decide +kernel
theorem dX13_field_156 : decode cX13_field 156 = .ok (.iload_n 3, 1) := by decide +kernel
theorem dX13_field_157 : decode cX13_field 157 = .ok (.iastore, 1) := by decide +kernel
theorem dX13_field_158 : decode cX13_field 158 = .ok (.iload_n 3, 1) := by decide +kernel
theorem dX13_field_159 : decode cX13_field 159 = .ok (.iconst (-1), 1) := by decide +kernel
theorem dX13_field_160 : decode cX13_field 160 = .ok (.if_icmp .ne 7, 3) := by decide +kernel
theorem dX13_field_163 : decode cX13_field 163 = .ok (.iconst 0, 1) := by decide +kernel
theorem dX13_field_164 : decode cX13_field 164 = .ok (.goto 9, 3) := by decide +kernel
theorem dX13_field_167 : decode cX13_field 167 = .ok (.aload_n 0, 1) := by decide +kernel
theorem dX13_field_168 : decode cX13_field 168 = .ok (.getfield 89, 3) := by decide +kernel
theorem dX13_field_171 : decode cX13_field 171 = .ok (.iload_n 3, 1) := by decide +kernel
theorem dX13_field_172 : decode cX13_field 172 = .ok (.iaload, 1) := by decide +kernel
theorem dX13_field_173 : decode cX13_field 173 = .ok (.ireturn, 1) := by decide +kernel
theorem rs_RX13_510 : mx_res RX13 510 = some (0, 13, 53) := by decide +kernel
theorem mt_X13_local : mx_mt 429 = some (yX13_local, cX13_local, 2, (some .int)) := rfl
theorem dX13_local_0 : decode cX13_local 0 = .ok (.aload_n 0, 1) := by decide +kernel
theorem dX13_local_1 : decode cX13_local 1 = .ok (.getfield 510, 3) := by decide +kernel
theorem dX13_local_4 : decode cX13_local 4 = .ok (.ifCond .eq 7, 3) := by decide +kernel
theorem dX13_local_7 : decode cX13_local 7 = .ok (.iload_n 1, 1) := by decide +kernel
theorem dX13_local_8 : decode cX13_local 8 = .ok (.goto 6, 3) := by decide +kernel
theorem dX13_local_11 : decode cX13_local 11 = .ok (.iload_n 1, 1) := by decide +kernel
theorem dX13_local_12 : decode cX13_local 12 = .ok (.iconst 1, 1) := by decide +kernel
theorem dX13_local_13 : decode cX13_local 13 = .ok (.iadd, 1) := by decide +kernel
theorem dX13_local_14 : decode cX13_local 14 = .ok (.ireturn, 1) := by decide +kernel
theorem rs_RX13_55 : mx_res RX13 55 = some (0, 13, 20) := by decide +kernel
theorem rs_RX13_582 : mx_res RX13 582 = some (1, 429, 1) := by decide +kernel
theorem mt_X13_named : mx_mt 442 = some (yX13_named, cX13_named, 4, (some .int)) := rfl
theorem dX13_named_0 : decode cX13_named 0 = .ok (.aload_n 0, 1) := by decide +kernel
theorem dX13_named_1 : decode cX13_named 1 = .ok (.aload_n 0, 1) := by decide +kernel
theorem dX13_named_2 : decode cX13_named 2 = .ok (.getfield 31, 3) := by decide +kernel
theorem dX13_named_5 : decode cX13_named 5 = .ok (.iload_n 1, 1) := by decide +kernel
theorem dX13_named_6 : decode cX13_named 6 = .ok (.iaload, 1) := by decide +kernel
theorem dX13_named_7 : decode cX13_named 7 = .ok (.invokevirtual 534, 3) := by decide +kernel
theorem dX13_named_10 : decode cX13_named 10 = .ok (.istore_n 2, 1) := by decide +kernel
theorem dX13_named_11 : decode cX13_named 11 = .ok (.iload_n 2, 1) := by decide +kernel
theorem dX13_named_12 : decode cX13_named 12 = .ok (.iconst (-1), 1) := by decide +kernel
theorem dX13_named_13 : decode cX13_named 13 = .ok (.if_icmp .eq 28, 3) := by decide +kernel
theorem dX13_named_16 : decode cX13_named 16 = .ok (.aload_n 0, 1) := by decide +kernel
theorem dX13_named_17 : decode cX13_named 17 = .ok (.getfield 52, 3) := by decide +kernel
theorem dX13_named_20 : decode cX13_named 20 = .ok (.iload_n 1, 1) := by decide +kernel
theorem dX13_named_21 : decode cX13_named 21 = .ok (.iconst (-1), 1) := by decide +kernel
theorem dX13_named_22 : decode cX13_named 22 = .ok (.iastore, 1) := by decide +kernel
theorem dX13_named_23 : decode cX13_named 23 = .ok (.aload_n 0, 1) := by decide +kernel
theorem dX13_named_24 : decode cX13_named 24 = .ok (.getfield 55, 3) := by decide +kernel
theorem dX13_named_27 : decode cX13_named 27 = .ok (.iload_n 1, 1) := by decide +kernel
theorem dX13_named_28 : decode cX13_named 28 = .ok (.aload_n 0, 1) := by decide +kernel
theorem dX13_named_29 : decode cX13_named 29 = .ok (.iload_n 2, 1) := by decide +kernel
theorem dX13_named_30 : decode cX13_named 30 = .ok (.invokevirtual 582, 3) := by decide +kernel
theorem dX13_named_33 : decode cX13_named 33 = .ok (.iastore, 1) := by decide +kernel
theorem dX13_named_34 : decode cX13_named 34 = .ok (.aload_n 0, 1) := by decide +kernel
theorem dX13_named_35 : decode cX13_named 35 = .ok (.getfield 119, 3) := by decide +kernel
theorem dX13_named_38 : decode cX13_named 38 = .ok (.iload_n 2, 1) := by decide +kernel
theorem dX13_named_39 : decode cX13_named 39 = .ok (.iaload, 1) := by decide +kernel
theorem dX13_named_40 : decode cX13_named 40 = .ok (.ireturn, 1) := by decide +kernel
theorem dX13_named_41 : decode cX13_named 41 = .ok (.aload_n 0, 1) := by decide +kernel
theorem dX13_named_42 : decode cX13_named 42 = .ok (.aload_n 0, 1) := by decide +kernel
theorem dX13_named_43 : decode cX13_named 43 = .ok (.getfield 519, 3) := by decide +kernel
theorem dX13_named_46 : decode cX13_named 46 = .ok (.aload_n 0, 1) := by decide +kernel
theorem dX13_named_47 : decode cX13_named 47 = .ok (.getfield 31, 3) := by decide +kernel
theorem dX13_named_50 : decode cX13_named 50 = .ok (.iload_n 1, 1) := by decide +kernel
theorem dX13_named_51 : decode cX13_named 51 = .ok (.iaload, 1) := by decide +kernel
theorem dX13_named_52 : decode cX13_named 52 = .ok (.iconst 0, 1) := by decide +kernel
theorem dX13_named_53 : decode cX13_named 53 = .ok (.invokevirtual 507, 3) := by decide +kernel
theorem dX13_named_56 : decode cX13_named 56 = .ok (.istore_n 3, 1) := by decide +kernel
theorem dX13_named_57 : decode cX13_named 57 = .ok (.iload_n 3, 1) := by decide +kernel
theorem dX13_named_58 : decode cX13_named 58 = .ok (.iconst (-1), 1) := by decide +kernel
theorem dX13_named_59 : decode cX13_named 59 = .ok (.if_icmp .ne 17, 3) := by decide +kernel
theorem dX13_named_62 : decode cX13_named 62 = .ok (.aload_n 0, 1) := by decide +kernel
theorem dX13_named_63 : decode cX13_named 63 = .ok (.iconst 5, 1) := by decide +kernel
theorem dX13_named_64 : decode cX13_named 64 = .ok (.aload_n 0, 1) := by decide +kernel
theorem dX13_named_65 : decode cX13_named 65 = .ok (.getfield 31, 3) := by decide +kernel
theorem dX13_named_68 : decode cX13_named 68 = .ok (.iload_n 1, 1) := by decide +kernel
theorem dX13_named_69 : decode cX13_named 69 = .ok (.iaload, 1) := by decide +kernel
theorem dX13_named_70 : decode cX13_named 70 = .ok (.invokevirtual 379, 3) := by decide +kernel
theorem dX13_named_73 : decode cX13_named 73 = .ok (.goto 22, 3) := by decide +kernel
theorem dX13_named_76 : decode cX13_named 76 = .ok (.aload_n 0, 1) := by decide +kernel
theorem dX13_named_77 : decode cX13_named 77 = .ok (.getfield 510, 3) := by decide +kernel
theorem dX13_named_80 : decode cX13_named 80 = .ok (.ifCond .eq 15, 3) := by decide +kernel
theorem dX13_named_83 : decode cX13_named 83 = .ok (.aload_n 0, 1) := by decide +kernel
theorem dX13_named_84 : decode cX13_named 84 = .ok (.bipush 7, 2) := by decide +kernel
theorem dX13_named_86 : decode cX13_named 86 = .ok (.aload_n 0, 1) := by decide +kernel
theorem dX13_named_87 : decode cX13_named 87 = .ok (.getfield 31, 3) := by decide +kernel
theorem dX13_named_90 : decode cX13_named 90 = .ok (.iload_n 1, 1) := by decide +kernel
theorem dX13_named_91 : decode cX13_named 91 = .ok (.iaload, 1) := by decide +kernel
theorem dX13_named_92 : decode cX13_named 92 = .ok (.invokevirtual 379, 3) := by decide +kernel
theorem dX13_named_95 : decode cX13_named 95 = .ok (.aload_n 0, 1) := by decide +kernel
theorem dX13_named_96 : decode cX13_named 96 = .ok (.getfield 52, 3) := by decide +kernel
theorem dX13_named_99 : decode cX13_named 99 = .ok (.iload_n 1, 1) := by decide +kernel
theorem dX13_named_100 : decode cX13_named 100 = .ok (.iload_n 3, 1) := by decide +kernel
theorem dX13_named_101 : decode cX13_named 101 = .ok (.iastore, 1) := by decide +kernel
theorem dX13_named_102 : decode cX13_named 102 = .ok (.iload_n 3, 1) := by decide +kernel
theorem dX13_named_103 : decode cX13_named 103 = .ok (.iconst (-1), 1) := by decide +kernel
theorem dX13_named_104 : decode cX13_named 104 = .ok (.if_icmp .ne 7, 3) := by decide +kernel
theorem dX13_named_107 : decode cX13_named 107 = .ok (.iconst 0, 1) := by decide +kernel
theorem dX13_named_108 : decode cX13_named 108 = .ok (.goto 9, 3) := by decide +kernel
theorem dX13_named_111 : decode cX13_named 111 = .ok (.aload_n 0, 1) := by decide +kernel
theorem dX13_named_112 : decode cX13_named 112 = .ok (.getfield 89, 3) := by decide +kernel
theorem dX13_named_115 : decode cX13_named 115 = .ok (.iload_n 3, 1) := by decide +kernel
theorem dX13_named_116 : decode cX13_named 116 = .ok (.iaload, 1) := by decide +kernel
theorem dX13_named_117 : decode cX13_named 117 = .ok (.ireturn, 1) := by decide +kernel
