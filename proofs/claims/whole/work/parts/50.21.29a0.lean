theorem rs_RX13_34 : mx_res RX13 34 = some (0, 13, 13) := by decide +kernel
theorem rs_RX13_40 : mx_res RX13 40 = some (0, 13, 15) := by decide +kernel
theorem rs_RX13_46 : mx_res RX13 46 = some (0, 13, 17) := by decide +kernel
theorem rs_RX13_92 : mx_res RX13 92 = some (0, 13, 36) := by decide +kernel
theorem rs_RX13_95 : mx_res RX13 95 = some (0, 13, 37) := by decide +kernel
theorem rs_RX13_113 : mx_res RX13 113 = some (0, 13, 44) := by decide +kernel
theorem rs_RX13_125 : mx_res RX13 125 = some (0, 13, 56) := by decide +kernel
theorem rs_RX13_459 : mx_res RX13 459 = some (1, 408, 1) := by decide +kernel
theorem rs_RX13_494 : mx_res RX13 494 = some (1, 417, 1) := by decide +kernel
theorem rs_RX13_525 : mx_res RX13 525 = some (0, 13, 57) := by decide +kernel
theorem rs_RX13_537 : mx_res RX13 537 = some (1, 436, 1) := by decide +kernel
theorem rs_RX13_540 : mx_res RX13 540 = some (1, 435, 1) := by decide +kernel
theorem rs_RX13_546 : mx_res RX13 546 = some (1, 438, 1) := by decide +kernel
theorem rs_RX13_555 : mx_res RX13 555 = some (1, 437, 1) := by decide +kernel
theorem rs_RX13_558 : mx_res RX13 558 = some (1, 441, 1) := by decide +kernel
theorem rs_RX13_561 : mx_res RX13 561 = some (1, 442, 1) := by decide +kernel
theorem rs_RX13_564 : mx_res RX13 564 = some (1, 447, 3) := by decide +kernel
theorem rs_RX13_567 : mx_res RX13 567 = some (1, 444, 1) := by decide +kernel
theorem rs_RX13_570 : mx_res RX13 570 = some (1, 446, 1) := by decide +kernel
theorem rs_RX13_576 : mx_res RX13 576 = some (1, 423, 2) := by decide +kernel
theorem rs_RX13_579 : mx_res RX13 579 = some (1, 443, 1) := by decide +kernel
theorem rs_RX13_585 : mx_res RX13 585 = some (1, 439, 2) := by decide +kernel
theorem ft_13_57 : mx_fty 13 57 = some (.int, false, "ClassMillModel") := by decide +kernel
theorem mt_X13_condition : mx_mt 435 = some (yX13_condition, cX13_condition, 2, none) := rfl
theorem dX13_both_0 : decode cX13_both 0 = .ok (.aload_n 0, 1) := by decide +kernel
theorem dX13_both_1 : decode cX13_both 1 = .ok (.getfield 25, 3) := by decide +kernel
theorem dX13_both_4 : decode cX13_both 4 = .ok (.aload_n 0, 1) := by decide +kernel
theorem dX13_both_5 : decode cX13_both 5 = .ok (.getfield 31, 3) := by decide +kernel
theorem dX13_both_8 : decode cX13_both 8 = .ok (.iload_n 1, 1) := by decide +kernel
theorem dX13_both_9 : decode cX13_both 9 = .ok (.iaload, 1) := by decide +kernel
theorem dX13_both_10 : decode cX13_both 10 = .ok (.iaload, 1) := by decide +kernel
theorem dX13_both_11 : decode cX13_both 11 = .ok (.istore_n 2, 1) := by decide +kernel
theorem dX13_both_12 : decode cX13_both 12 = .ok (.iload_n 2, 1) := by decide +kernel
theorem dX13_both_13 : decode cX13_both 13 = .ok (.iconst 0, 1) := by decide +kernel
theorem dX13_both_14 : decode cX13_both 14 = .ok (.bipush 38, 2) := by decide +kernel
theorem dX13_both_16 : decode cX13_both 16 = .ok (.bipush 38, 2) := by decide +kernel
theorem dX13_both_18 : decode cX13_both 18 = .ok (.invokestatic 454, 3) := by decide +kernel
theorem dX13_both_21 : decode cX13_both 21 = .ok (.if_icmp .eq 15, 3) := by decide +kernel
theorem dX13_both_24 : decode cX13_both 24 = .ok (.iload_n 2, 1) := by decide +kernel
theorem dX13_both_25 : decode cX13_both 25 = .ok (.iconst 0, 1) := by decide +kernel
theorem dX13_both_26 : decode cX13_both 26 = .ok (.bipush 124, 2) := by decide +kernel
theorem dX13_both_28 : decode cX13_both 28 = .ok (.bipush 124, 2) := by decide +kernel
theorem dX13_both_30 : decode cX13_both 30 = .ok (.invokestatic 454, 3) := by decide +kernel
theorem dX13_both_33 : decode cX13_both 33 = .ok (.if_icmp .ne 72, 3) := by decide +kernel
theorem dX13_both_36 : decode cX13_both 36 = .ok (.aload_n 0, 1) := by decide +kernel
theorem dX13_both_37 : decode cX13_both 37 = .ok (.iload_n 1, 1) := by decide +kernel
theorem dX13_both_38 : decode cX13_both 38 = .ok (.invokevirtual 573, 3) := by decide +kernel
theorem dX13_both_41 : decode cX13_both 41 = .ok (.iconst 1, 1) := by decide +kernel
theorem dX13_both_42 : decode cX13_both 42 = .ok (.if_icmp .eq 20, 3) := by decide +kernel
theorem dX13_both_45 : decode cX13_both 45 = .ok (.aload_n 0, 1) := by decide +kernel
theorem dX13_both_46 : decode cX13_both 46 = .ok (.bipush 6, 2) := by decide +kernel
theorem dX13_both_48 : decode cX13_both 48 = .ok (.aload_n 0, 1) := by decide +kernel
theorem dX13_both_49 : decode cX13_both 49 = .ok (.getfield 34, 3) := by decide +kernel
theorem dX13_both_52 : decode cX13_both 52 = .ok (.aload_n 0, 1) := by decide +kernel
theorem dX13_both_53 : decode cX13_both 53 = .ok (.getfield 37, 3) := by decide +kernel
theorem dX13_both_56 : decode cX13_both 56 = .ok (.iload_n 1, 1) := by decide +kernel
theorem dX13_both_57 : decode cX13_both 57 = .ok (.iaload, 1) := by decide +kernel
theorem dX13_both_58 : decode cX13_both 58 = .ok (.iaload, 1) := by decide +kernel
theorem dX13_both_59 : decode cX13_both 59 = .ok (.invokevirtual 379, 3) := by decide +kernel
theorem dX13_both_62 : decode cX13_both 62 = .ok (.aload_n 0, 1) := by decide +kernel
theorem dX13_both_63 : decode cX13_both 63 = .ok (.aload_n 0, 1) := by decide +kernel
theorem dX13_both_64 : decode cX13_both 64 = .ok (.getfield 40, 3) := by decide +kernel
theorem dX13_both_67 : decode cX13_both 67 = .ok (.iload_n 1, 1) := by decide +kernel
theorem dX13_both_68 : decode cX13_both 68 = .ok (.iaload, 1) := by decide +kernel
theorem dX13_both_69 : decode cX13_both 69 = .ok (.aload_n 0, 1) := by decide +kernel
theorem dX13_both_70 : decode cX13_both 70 = .ok (.aload_n 0, 1) := by decide +kernel
theorem dX13_both_71 : decode cX13_both 71 = .ok (.getfield 40, 3) := by decide +kernel
theorem dX13_both_74 : decode cX13_both 74 = .ok (.iload_n 1, 1) := by decide +kernel
theorem dX13_both_75 : decode cX13_both 75 = .ok (.iaload, 1) := by decide +kernel
theorem dX13_both_76 : decode cX13_both 76 = .ok (.invokevirtual 546, 3) := by decide +kernel
theorem dX13_both_79 : decode cX13_both 79 = .ok (.invokevirtual 585, 3) := by decide +kernel
theorem dX13_both_82 : decode cX13_both 82 = .ok (.iconst 1, 1) := by decide +kernel
theorem dX13_both_83 : decode cX13_both 83 = .ok (.if_icmp .eq 20, 3) := by decide +kernel
theorem dX13_both_86 : decode cX13_both 86 = .ok (.aload_n 0, 1) := by decide +kernel
theorem dX13_both_87 : decode cX13_both 87 = .ok (.bipush 6, 2) := by decide +kernel
theorem dX13_both_89 : decode cX13_both 89 = .ok (.aload_n 0, 1) := by decide +kernel
theorem dX13_both_90 : decode cX13_both 90 = .ok (.getfield 34, 3) := by decide +kernel
theorem dX13_both_93 : decode cX13_both 93 = .ok (.aload_n 0, 1) := by decide +kernel
theorem dX13_both_94 : decode cX13_both 94 = .ok (.getfield 40, 3) := by decide +kernel
theorem dX13_both_97 : decode cX13_both 97 = .ok (.iload_n 1, 1) := by decide +kernel
theorem dX13_both_98 : decode cX13_both 98 = .ok (.iaload, 1) := by decide +kernel
theorem dX13_both_99 : decode cX13_both 99 = .ok (.iaload, 1) := by decide +kernel
theorem dX13_both_100 : decode cX13_both 100 = .ok (.invokevirtual 379, 3) := by decide +kernel
theorem dX13_both_103 : decode cX13_both 103 = .ok (.iconst 1, 1) := by decide +kernel
theorem dX13_both_104 : decode cX13_both 104 = .ok (.ireturn, 1) := by decide +kernel
theorem dX13_both_105 : decode cX13_both 105 = .ok (.aload_n 0, 1) := by decide +kernel
theorem dX13_both_106 : decode cX13_both 106 = .ok (.iload_n 1, 1) := by decide +kernel
theorem dX13_both_107 : decode cX13_both 107 = .ok (.invokevirtual 573, 3) := by decide +kernel
theorem dX13_both_110 : decode cX13_both 110 = .ok (.istore_n 3, 1) := by decide +kernel
theorem dX13_both_111 : decode cX13_both 111 = .ok (.aload_n 0, 1) := by decide +kernel
theorem dX13_both_112 : decode cX13_both 112 = .ok (.aload_n 0, 1) := by decide +kernel
theorem dX13_both_113 : decode cX13_both 113 = .ok (.getfield 40, 3) := by decide +kernel
theorem dX13_both_116 : decode cX13_both 116 = .ok (.iload_n 1, 1) := by decide +kernel
theorem dX13_both_117 : decode cX13_both 117 = .ok (.iaload, 1) := by decide +kernel
theorem dX13_both_118 : decode cX13_both 118 = .ok (.aload_n 0, 1) := by decide +kernel
theorem dX13_both_119 : decode cX13_both 119 = .ok (.aload_n 0, 1) := by decide +kernel
theorem dX13_both_120 : decode cX13_both 120 = .ok (.getfield 40, 3) := by decide +kernel
theorem dX13_both_123 : decode cX13_both 123 = .ok (.iload_n 1, 1) := by decide +kernel
theorem dX13_both_124 : decode cX13_both 124 = .ok (.iaload, 1) := by decide +kernel
theorem dX13_both_125 : decode cX13_both 125 = .ok (.invokevirtual 546, 3) := by decide +kernel
theorem dX13_both_128 : decode cX13_both 128 = .ok (.invokevirtual 585, 3) := by decide +kernel
theorem dX13_both_131 : decode cX13_both 131 = .ok (.istore 4, 2) := by decide +kernel
theorem dX13_both_133 : decode cX13_both 133 = .ok (.aload_n 0, 1) := by decide +kernel
theorem dX13_both_134 : decode cX13_both 134 = .ok (.getfield 319, 3) := by decide +kernel
theorem dX13_both_137 : decode cX13_both 137 = .ok (.ifCond .eq 5, 3) := by decide +kernel
theorem dX13_both_140 : decode cX13_both 140 = .ok (.iconst 0, 1) := by decide +kernel
theorem dX13_both_141 : decode cX13_both 141 = .ok (.ireturn, 1) := by decide +kernel
theorem dX13_both_142 : decode cX13_both 142 = .ok (.iload_n 2, 1) := by decide +kernel
theorem dX13_both_143 : decode cX13_both 143 = .ok (.iconst 0, 1) := by decide +kernel
theorem dX13_both_144 : decode cX13_both 144 = .ok (.bipush 61, 2) := by decide +kernel
theorem dX13_both_146 : decode cX13_both 146 = .ok (.bipush 61, 2) := by decide +kernel
theorem dX13_both_148 : decode cX13_both 148 = .ok (.invokestatic 454, 3) := by decide +kernel
theorem dX13_both_151 : decode cX13_both 151 = .ok (.if_icmp .eq 15, 3) := by decide +kernel
theorem dX13_both_154 : decode cX13_both 154 = .ok (.iload_n 2, 1) := by decide +kernel
theorem dX13_both_155 : decode cX13_both 155 = .ok (.iconst 0, 1) := by decide +kernel
theorem dX13_both_156 : decode cX13_both 156 = .ok (.bipush 33, 2) := by decide +kernel
theorem dX13_both_158 : decode cX13_both 158 = .ok (.bipush 61, 2) := by decide +kernel
theorem dX13_both_160 : decode cX13_both 160 = .ok (.invokestatic 454, 3) := by decide +kernel
theorem dX13_both_163 : decode cX13_both 163 = .ok (.if_icmp .ne 27, 3) := by decide +kernel
theorem dX13_both_166 : decode cX13_both 166 = .ok (.aload_n 0, 1) := by decide +kernel
theorem dX13_both_167 : decode cX13_both 167 = .ok (.iload_n 3, 1) := by decide +kernel
theorem dX13_both_168 : decode cX13_both 168 = .ok (.iload 4, 2) := by decide +kernel
theorem dX13_both_170 : decode cX13_both 170 = .ok (.invokevirtual 576, 3) := by decide +kernel
theorem dX13_both_173 : decode cX13_both 173 = .ok (.ifCond .ne 15, 3) := by decide +kernel
theorem dX13_both_176 : decode cX13_both 176 = .ok (.aload_n 0, 1) := by decide +kernel
theorem dX13_both_177 : decode cX13_both 177 = .ok (.bipush 6, 2) := by decide +kernel
theorem dX13_both_179 : decode cX13_both 179 = .ok (.aload_n 0, 1) := by decide +kernel
theorem dX13_both_180 : decode cX13_both 180 = .ok (.getfield 31, 3) := by decide +kernel
theorem dX13_both_183 : decode cX13_both 183 = .ok (.iload_n 1, 1) := by decide +kernel
theorem dX13_both_184 : decode cX13_both 184 = .ok (.iaload, 1) := by decide +kernel
theorem dX13_both_185 : decode cX13_both 185 = .ok (.invokevirtual 379, 3) := by decide +kernel
theorem dX13_both_188 : decode cX13_both 188 = .ok (.iconst 1, 1) := by decide +kernel
theorem dX13_both_189 : decode cX13_both 189 = .ok (.ireturn, 1) := by decide +kernel
theorem dX13_both_190 : decode cX13_both 190 = .ok (.iload_n 2, 1) := by decide +kernel
theorem dX13_both_191 : decode cX13_both 191 = .ok (.bipush 38, 2) := by decide +kernel
theorem dX13_both_193 : decode cX13_both 193 = .ok (.if_icmp .eq 15, 3) := by decide +kernel
theorem dX13_both_196 : decode cX13_both 196 = .ok (.iload_n 2, 1) := by decide +kernel
theorem dX13_both_197 : decode cX13_both 197 = .ok (.bipush 124, 2) := by decide +kernel
theorem dX13_both_199 : decode cX13_both 199 = .ok (.if_icmp .eq 9, 3) := by decide +kernel
theorem dX13_both_202 : decode cX13_both 202 = .ok (.iload_n 2, 1) := by decide +kernel
theorem dX13_both_203 : decode cX13_both 203 = .ok (.bipush 94, 2) := by decide +kernel
theorem dX13_both_205 : decode cX13_both 205 = .ok (.if_icmp .ne 7, 3) := by decide +kernel
theorem dX13_both_208 : decode cX13_both 208 = .ok (.iconst 1, 1) := by decide +kernel
theorem dX13_both_209 : decode cX13_both 209 = .ok (.goto 4, 3) := by decide +kernel
theorem dX13_both_212 : decode cX13_both 212 = .ok (.iconst 0, 1) := by decide +kernel
theorem dX13_both_213 : decode cX13_both 213 = .ok (.istore 5, 2) := by decide +kernel
theorem dX13_both_215 : decode cX13_both 215 = .ok (.iload_n 3, 1) := by decide +kernel
theorem dX13_both_216 : decode cX13_both 216 = .ok (.iload 4, 2) := by decide +kernel
theorem dX13_both_218 : decode cX13_both 218 = .ok (.if_icmp .ne 17, 3) := by decide +kernel
theorem dX13_both_221 : decode cX13_both 221 = .ok (.iload_n 3, 1) := by decide +kernel
theorem dX13_both_222 : decode cX13_both 222 = .ok (.ifCond .eq 25, 3) := by decide +kernel
theorem dX13_both_225 : decode cX13_both 225 = .ok (.iload 5, 2) := by decide +kernel
theorem dX13_both_227 : decode cX13_both 227 = .ok (.ifCond .eq 8, 3) := by decide +kernel
theorem dX13_both_230 : decode cX13_both 230 = .ok (.iload_n 3, 1) := by decide +kernel
theorem dX13_both_231 : decode cX13_both 231 = .ok (.iconst 1, 1) := by decide +kernel
theorem dX13_both_232 : decode cX13_both 232 = .ok (.if_icmp .eq 15, 3) := by decide +kernel
theorem dX13_both_235 : decode cX13_both 235 = .ok (.aload_n 0, 1) := by decide +kernel
theorem dX13_both_236 : decode cX13_both 236 = .ok (.bipush 6, 2) := by decide +kernel
theorem dX13_both_238 : decode cX13_both 238 = .ok (.aload_n 0, 1) := by decide +kernel
theorem dX13_both_239 : decode cX13_both 239 = .ok (.getfield 31, 3) := by decide +kernel
theorem dX13_both_242 : decode cX13_both 242 = .ok (.iload_n 1, 1) := by decide +kernel
theorem dX13_both_243 : decode cX13_both 243 = .ok (.iaload, 1) := by decide +kernel
theorem dX13_both_244 : decode cX13_both 244 = .ok (.invokevirtual 379, 3) := by decide +kernel
theorem dX13_both_247 : decode cX13_both 247 = .ok (.aload_n 0, 1) := by decide +kernel
theorem dX13_both_248 : decode cX13_both 248 = .ok (.aload_n 0, 1) := by decide +kernel
theorem dX13_both_249 : decode cX13_both 249 = .ok (.getfield 31, 3) := by decide +kernel
theorem dX13_both_252 : decode cX13_both 252 = .ok (.iload_n 1, 1) := by decide +kernel
theorem dX13_both_253 : decode cX13_both 253 = .ok (.iaload, 1) := by decide +kernel
theorem dX13_both_254 : decode cX13_both 254 = .ok (.invokevirtual 459, 3) := by decide +kernel
theorem dX13_both_257 : decode cX13_both 257 = .ok (.istore 6, 2) := by decide +kernel
theorem dX13_both_259 : decode cX13_both 259 = .ok (.iload 6, 2) := by decide +kernel
theorem dX13_both_261 : decode cX13_both 261 = .ok (.bipush 6, 2) := by decide +kernel
theorem dX13_both_263 : decode cX13_both 263 = .ok (.if_icmp .ne 7, 3) := by decide +kernel
theorem dX13_both_266 : decode cX13_both 266 = .ok (.iconst 1, 1) := by decide +kernel
theorem dX13_both_267 : decode cX13_both 267 = .ok (.goto 4, 3) := by decide +kernel
theorem dX13_both_270 : decode cX13_both 270 = .ok (.iload_n 3, 1) := by decide +kernel
theorem dX13_both_271 : decode cX13_both 271 = .ok (.ireturn, 1) := by decide +kernel
theorem dX13_called_0 : decode cX13_called 0 = .ok (.aload_n 0, 1) := by decide +kernel
theorem dX13_called_1 : decode cX13_called 1 = .ok (.getfield 319, 3) := by decide +kernel
theorem dX13_called_4 : decode cX13_called 4 = .ok (.ifCond .eq 5, 3) := by decide +kernel
theorem dX13_called_7 : decode cX13_called 7 = .ok (.iconst 0, 1) := by decide +kernel
theorem dX13_called_8 : decode cX13_called 8 = .ok (.ireturn, 1) := by decide +kernel
theorem dX13_called_9 : decode cX13_called 9 = .ok (.iload_n 3, 1) := by decide +kernel
theorem dX13_called_10 : decode cX13_called 10 = .ok (.istore 4, 2) := by decide +kernel
theorem dX13_called_12 : decode cX13_called 12 = .ok (.iconst 0, 1) := by decide +kernel
theorem dX13_called_13 : decode cX13_called 13 = .ok (.istore 5, 2) := by decide +kernel
theorem dX13_called_15 : decode cX13_called 15 = .ok (.aload_n 0, 1) := by decide +kernel
theorem dX13_called_16 : decode cX13_called 16 = .ok (.getfield 40, 3) := by decide +kernel
theorem dX13_called_19 : decode cX13_called 19 = .ok (.iload_n 1, 1) := by decide +kernel
theorem dX13_called_20 : decode cX13_called 20 = .ok (.iaload, 1) := by decide +kernel
theorem dX13_called_21 : decode cX13_called 21 = .ok (.istore 6, 2) := by decide +kernel
theorem dX13_called_23 : decode cX13_called 23 = .ok (.iload 6, 2) := by decide +kernel
theorem dX13_called_25 : decode cX13_called 25 = .ok (.iconst (-1), 1) := by decide +kernel
theorem dX13_called_26 : decode cX13_called 26 = .ok (.if_icmp .eq 84, 3) := by decide +kernel
theorem dX13_called_29 : decode cX13_called 29 = .ok (.aload_n 0, 1) := by decide +kernel
theorem dX13_called_30 : decode cX13_called 30 = .ok (.getfield 319, 3) := by decide +kernel
theorem dX13_called_33 : decode cX13_called 33 = .ok (.ifCond .ne 77, 3) := by decide +kernel
theorem dX13_called_36 : decode cX13_called 36 = .ok (.aload_n 0, 1) := by decide +kernel
theorem dX13_called_37 : decode cX13_called 37 = .ok (.aload_n 0, 1) := by decide +kernel
theorem dX13_called_38 : decode cX13_called 38 = .ok (.getfield 37, 3) := by decide +kernel
theorem dX13_called_41 : decode cX13_called 41 = .ok (.iload 6, 2) := by decide +kernel
theorem dX13_called_43 : decode cX13_called 43 = .ok (.iaload, 1) := by decide +kernel
theorem dX13_called_44 : decode cX13_called 44 = .ok (.invokevirtual 537, 3) := by decide +kernel
theorem dX13_called_47 : decode cX13_called 47 = .ok (.istore 7, 2) := by decide +kernel
theorem dX13_called_49 : decode cX13_called 49 = .ok (.iload 4, 2) := by decide +kernel
theorem dX13_called_51 : decode cX13_called 51 = .ok (.ifCond .eq 41, 3) := by decide +kernel
theorem dX13_called_54 : decode cX13_called 54 = .ok (.iload 5, 2) := by decide +kernel
theorem dX13_called_56 : decode cX13_called 56 = .ok (.aload_n 0, 1) := by decide +kernel
theorem dX13_called_57 : decode cX13_called 57 = .ok (.getfield 95, 3) := by decide +kernel
theorem dX13_called_60 : decode cX13_called 60 = .ok (.iload_n 2, 1) := by decide +kernel
theorem dX13_called_61 : decode cX13_called 61 = .ok (.iaload, 1) := by decide +kernel
theorem dX13_called_62 : decode cX13_called 62 = .ok (.if_icmp .ge 30, 3) := by decide +kernel
theorem dX13_called_65 : decode cX13_called 65 = .ok (.aload_n 0, 1) := by decide +kernel
theorem dX13_called_66 : decode cX13_called 66 = .ok (.iload 7, 2) := by decide +kernel
theorem dX13_called_68 : decode cX13_called 68 = .ok (.aload_n 0, 1) := by decide +kernel
theorem dX13_called_69 : decode cX13_called 69 = .ok (.getfield 113, 3) := by decide +kernel
theorem dX13_called_72 : decode cX13_called 72 = .ok (.aload_n 0, 1) := by decide +kernel
theorem dX13_called_73 : decode cX13_called 73 = .ok (.getfield 92, 3) := by decide +kernel
theorem dX13_called_76 : decode cX13_called 76 = .ok (.iload_n 2, 1) := by decide +kernel
theorem dX13_called_77 : decode cX13_called 77 = .ok (.iaload, 1) := by decide +kernel
theorem dX13_called_78 : decode cX13_called 78 = .ok (.iload 5, 2) := by decide +kernel
theorem dX13_called_80 : decode cX13_called 80 = .ok (.iadd, 1) := by decide +kernel
theorem dX13_called_81 : decode cX13_called 81 = .ok (.iaload, 1) := by decide +kernel
theorem dX13_called_82 : decode cX13_called 82 = .ok (.invokevirtual 491, 3) := by decide +kernel
theorem dX13_called_85 : decode cX13_called 85 = .ok (.ifCond .eq 7, 3) := by decide +kernel
theorem dX13_called_88 : decode cX13_called 88 = .ok (.iconst 1, 1) := by decide +kernel
theorem dX13_called_89 : decode cX13_called 89 = .ok (.goto 4, 3) := by decide +kernel
theorem dX13_called_92 : decode cX13_called 92 = .ok (.iconst 0, 1) := by decide +kernel
theorem dX13_called_93 : decode cX13_called 93 = .ok (.istore 4, 2) := by decide +kernel
theorem dX13_called_95 : decode cX13_called 95 = .ok (.iinc 5 1, 3) := by decide +kernel
theorem dX13_called_98 : decode cX13_called 98 = .ok (.aload_n 0, 1) := by decide +kernel
theorem dX13_called_99 : decode cX13_called 99 = .ok (.getfield 46, 3) := by decide +kernel
theorem dX13_called_102 : decode cX13_called 102 = .ok (.iload 6, 2) := by decide +kernel
theorem dX13_called_104 : decode cX13_called 104 = .ok (.iaload, 1) := by decide +kernel
theorem dX13_called_105 : decode cX13_called 105 = .ok (.istore 6, 2) := by decide +kernel
theorem dX13_called_107 : decode cX13_called 107 = .ok (.goto (-84), 3) := by decide +kernel
theorem dX13_called_110 : decode cX13_called 110 = .ok (.iload 4, 2) := by decide +kernel
theorem dX13_called_112 : decode cX13_called 112 = .ok (.ifCond .eq 14, 3) := by decide +kernel
theorem dX13_called_115 : decode cX13_called 115 = .ok (.iload 5, 2) := by decide +kernel
theorem dX13_called_117 : decode cX13_called 117 = .ok (.aload_n 0, 1) := by decide +kernel
theorem dX13_called_118 : decode cX13_called 118 = .ok (.getfield 95, 3) := by decide +kernel
theorem dX13_called_121 : decode cX13_called 121 = .ok (.iload_n 2, 1) := by decide +kernel
theorem dX13_called_122 : decode cX13_called 122 = .ok (.iaload, 1) := by decide +kernel
theorem dX13_called_123 : decode cX13_called 123 = .ok (.if_icmp .eq 15, 3) := by decide +kernel
theorem dX13_called_126 : decode cX13_called 126 = .ok (.aload_n 0, 1) := by decide +kernel
theorem dX13_called_127 : decode cX13_called 127 = .ok (.bipush 6, 2) := by decide +kernel
theorem dX13_called_129 : decode cX13_called 129 = .ok (.aload_n 0, 1) := by decide +kernel
theorem dX13_called_130 : decode cX13_called 130 = .ok (.getfield 31, 3) := by decide +kernel
theorem dX13_called_133 : decode cX13_called 133 = .ok (.iload_n 1, 1) := by decide +kernel
theorem dX13_called_134 : decode cX13_called 134 = .ok (.iaload, 1) := by decide +kernel
theorem dX13_called_135 : decode cX13_called 135 = .ok (.invokevirtual 379, 3) := by decide +kernel
theorem dX13_called_138 : decode cX13_called 138 = .ok (.aload_n 0, 1) := by decide +kernel
theorem dX13_called_139 : decode cX13_called 139 = .ok (.getfield 89, 3) := by decide +kernel
theorem dX13_called_142 : decode cX13_called 142 = .ok (.iload_n 2, 1) := by decide +kernel
theorem dX13_called_143 : decode cX13_called 143 = .ok (.iaload, 1) := by decide +kernel
theorem dX13_called_144 : decode cX13_called 144 = .ok (.ireturn, 1) := by decide +kernel
theorem dX13_condition_0 : decode cX13_condition 0 = .ok (.aload_n 0, 1) := by decide +kernel
theorem dX13_condition_1 : decode cX13_condition 1 = .ok (.iload_n 1, 1) := by decide +kernel
theorem dX13_condition_2 : decode cX13_condition 2 = .ok (.invokevirtual 537, 3) := by decide +kernel
theorem dX13_condition_5 : decode cX13_condition 5 = .ok (.iconst 1, 1) := by decide +kernel
theorem dX13_condition_6 : decode cX13_condition 6 = .ok (.if_icmp .eq 15, 3) := by decide +kernel
theorem dX13_condition_9 : decode cX13_condition 9 = .ok (.aload_n 0, 1) := by decide +kernel
theorem dX13_condition_10 : decode cX13_condition 10 = .ok (.bipush 6, 2) := by decide +kernel
theorem dX13_condition_12 : decode cX13_condition 12 = .ok (.aload_n 0, 1) := by decide +kernel
theorem dX13_condition_13 : decode cX13_condition 13 = .ok (.getfield 34, 3) := by decide +kernel
theorem dX13_condition_16 : decode cX13_condition 16 = .ok (.iload_n 1, 1) := by decide +kernel
theorem dX13_condition_17 : decode cX13_condition 17 = .ok (.iaload, 1) := by decide +kernel
theorem dX13_condition_18 : decode cX13_condition 18 = .ok (.invokevirtual 379, 3) := by decide +kernel
theorem dX13_condition_21 : decode cX13_condition 21 = .ok (.return_, 1) := by decide +kernel
theorem dX13_given_0 : decode cX13_given 0 = .ok (.aload_n 0, 1) := by decide +kernel
theorem dX13_given_1 : decode cX13_given 1 = .ok (.iload_n 1, 1) := by decide +kernel
theorem dX13_given_2 : decode cX13_given 2 = .ok (.invokevirtual 546, 3) := by decide +kernel
theorem dX13_given_5 : decode cX13_given 5 = .ok (.istore_n 2, 1) := by decide +kernel
theorem dX13_given_6 : decode cX13_given 6 = .ok (.iload_n 2, 1) := by decide +kernel
theorem dX13_given_7 : decode cX13_given 7 = .ok (.iconst 3, 1) := by decide +kernel
theorem dX13_given_8 : decode cX13_given 8 = .ok (.if_icmp .ne 15, 3) := by decide +kernel
theorem dX13_given_11 : decode cX13_given 11 = .ok (.aload_n 0, 1) := by decide +kernel
theorem dX13_given_12 : decode cX13_given 12 = .ok (.bipush 6, 2) := by decide +kernel
theorem dX13_given_14 : decode cX13_given 14 = .ok (.aload_n 0, 1) := by decide +kernel
theorem dX13_given_15 : decode cX13_given 15 = .ok (.getfield 31, 3) := by decide +kernel
theorem dX13_given_18 : decode cX13_given 18 = .ok (.iload_n 1, 1) := by decide +kernel
theorem dX13_given_19 : decode cX13_given 19 = .ok (.iaload, 1) := by decide +kernel
theorem dX13_given_20 : decode cX13_given 20 = .ok (.invokevirtual 379, 3) := by decide +kernel
theorem dX13_given_23 : decode cX13_given 23 = .ok (.iload_n 2, 1) := by decide +kernel
theorem dX13_given_24 : decode cX13_given 24 = .ok (.ireturn, 1) := by decide +kernel
theorem dX13_invoked_0 : decode cX13_invoked 0 = .ok (.aload_n 0, 1) := by decide +kernel
theorem dX13_invoked_1 : decode cX13_invoked 1 = .ok (.getfield 37, 3) := by decide +kernel
theorem dX13_invoked_4 : decode cX13_invoked 4 = .ok (.iload_n 1, 1) := by decide +kernel
theorem dX13_invoked_5 : decode cX13_invoked 5 = .ok (.iaload, 1) := by decide +kernel
theorem dX13_invoked_6 : decode cX13_invoked 6 = .ok (.istore_n 2, 1) := by decide +kernel
theorem dX13_invoked_7 : decode cX13_invoked 7 = .ok (.aload_n 0, 1) := by decide +kernel
theorem dX13_invoked_8 : decode cX13_invoked 8 = .ok (.iload_n 1, 1) := by decide +kernel
theorem dX13_invoked_9 : decode cX13_invoked 9 = .ok (.invokevirtual 552, 3) := by decide +kernel
theorem dX13_invoked_12 : decode cX13_invoked 12 = .ok (.istore_n 3, 1) := by decide +kernel
theorem dX13_invoked_13 : decode cX13_invoked 13 = .ok (.iload_n 3, 1) := by decide +kernel
theorem dX13_invoked_14 : decode cX13_invoked 14 = .ok (.ifCond .eq 42, 3) := by decide +kernel
theorem dX13_invoked_17 : decode cX13_invoked 17 = .ok (.aload_n 0, 1) := by decide +kernel
theorem dX13_invoked_18 : decode cX13_invoked 18 = .ok (.aload_n 0, 1) := by decide +kernel
theorem dX13_invoked_19 : decode cX13_invoked 19 = .ok (.getfield 31, 3) := by decide +kernel
theorem dX13_invoked_22 : decode cX13_invoked 22 = .ok (.iload_n 2, 1) := by decide +kernel
theorem dX13_invoked_23 : decode cX13_invoked 23 = .ok (.iaload, 1) := by decide +kernel
theorem dX13_invoked_24 : decode cX13_invoked 24 = .ok (.invokevirtual 494, 3) := by decide +kernel
theorem dX13_invoked_27 : decode cX13_invoked 27 = .ok (.istore 4, 2) := by decide +kernel
theorem dX13_invoked_29 : decode cX13_invoked 29 = .ok (.iload 4, 2) := by decide +kernel
theorem dX13_invoked_31 : decode cX13_invoked 31 = .ok (.iconst (-1), 1) := by decide +kernel
theorem dX13_invoked_32 : decode cX13_invoked 32 = .ok (.if_icmp .ne 14, 3) := by decide +kernel
theorem dX13_invoked_35 : decode cX13_invoked 35 = .ok (.aload_n 0, 1) := by decide +kernel
theorem dX13_invoked_36 : decode cX13_invoked 36 = .ok (.iconst 5, 1) := by decide +kernel
theorem dX13_invoked_37 : decode cX13_invoked 37 = .ok (.aload_n 0, 1) := by decide +kernel
theorem dX13_invoked_38 : decode cX13_invoked 38 = .ok (.getfield 31, 3) := by decide +kernel
theorem dX13_invoked_41 : decode cX13_invoked 41 = .ok (.iload_n 2, 1) := by decide +kernel
theorem dX13_invoked_42 : decode cX13_invoked 42 = .ok (.iaload, 1) := by decide +kernel
theorem dX13_invoked_43 : decode cX13_invoked 43 = .ok (.invokevirtual 379, 3) := by decide +kernel
theorem dX13_invoked_46 : decode cX13_invoked 46 = .ok (.aload_n 0, 1) := by decide +kernel
theorem dX13_invoked_47 : decode cX13_invoked 47 = .ok (.getfield 49, 3) := by decide +kernel
theorem dX13_invoked_50 : decode cX13_invoked 50 = .ok (.iload_n 2, 1) := by decide +kernel
theorem dX13_invoked_51 : decode cX13_invoked 51 = .ok (.iconst 3, 1) := by decide +kernel
theorem dX13_invoked_52 : decode cX13_invoked 52 = .ok (.iastore, 1) := by decide +kernel
theorem dX13_invoked_53 : decode cX13_invoked 53 = .ok (.goto 75, 3) := by decide +kernel
theorem dX13_invoked_56 : decode cX13_invoked 56 = .ok (.aload_n 0, 1) := by decide +kernel
theorem dX13_invoked_57 : decode cX13_invoked 57 = .ok (.iload_n 1, 1) := by decide +kernel
theorem dX13_invoked_58 : decode cX13_invoked 58 = .ok (.invokevirtual 573, 3) := by decide +kernel
theorem dX13_invoked_61 : decode cX13_invoked 61 = .ok (.istore 5, 2) := by decide +kernel
theorem dX13_invoked_63 : decode cX13_invoked 63 = .ok (.aload_n 0, 1) := by decide +kernel
theorem dX13_invoked_64 : decode cX13_invoked 64 = .ok (.getfield 319, 3) := by decide +kernel
theorem dX13_invoked_67 : decode cX13_invoked 67 = .ok (.ifCond .eq 5, 3) := by decide +kernel
theorem dX13_invoked_70 : decode cX13_invoked 70 = .ok (.iconst 0, 1) := by decide +kernel
theorem dX13_invoked_71 : decode cX13_invoked 71 = .ok (.ireturn, 1) := by decide +kernel
theorem dX13_invoked_72 : decode cX13_invoked 72 = .ok (.iload 5, 2) := by decide +kernel
theorem dX13_invoked_74 : decode cX13_invoked 74 = .ok (.iconst 2, 1) := by decide +kernel
theorem dX13_invoked_75 : decode cX13_invoked 75 = .ok (.if_icmp .eq 11, 3) := by decide +kernel
theorem dX13_invoked_78 : decode cX13_invoked 78 = .ok (.iload 5, 2) := by decide +kernel
theorem dX13_invoked_80 : decode cX13_invoked 80 = .ok (.invokestatic 543, 3) := by decide +kernel
theorem dX13_invoked_83 : decode cX13_invoked 83 = .ok (.ifCond .ne 17, 3) := by decide +kernel
theorem dX13_invoked_86 : decode cX13_invoked 86 = .ok (.aload_n 0, 1) := by decide +kernel
theorem dX13_invoked_87 : decode cX13_invoked 87 = .ok (.bipush 6, 2) := by decide +kernel
theorem dX13_invoked_89 : decode cX13_invoked 89 = .ok (.aload_n 0, 1) := by decide +kernel
theorem dX13_invoked_90 : decode cX13_invoked 90 = .ok (.getfield 43, 3) := by decide +kernel
theorem dX13_invoked_93 : decode cX13_invoked 93 = .ok (.iload_n 1, 1) := by decide +kernel
theorem dX13_invoked_94 : decode cX13_invoked 94 = .ok (.iaload, 1) := by decide +kernel
theorem dX13_invoked_95 : decode cX13_invoked 95 = .ok (.invokevirtual 379, 3) := by decide +kernel
theorem dX13_invoked_98 : decode cX13_invoked 98 = .ok (.iconst 0, 1) := by decide +kernel
theorem dX13_invoked_99 : decode cX13_invoked 99 = .ok (.ireturn, 1) := by decide +kernel
theorem dX13_invoked_100 : decode cX13_invoked 100 = .ok (.iload 5, 2) := by decide +kernel
theorem dX13_invoked_102 : decode cX13_invoked 102 = .ok (.invokestatic 485, 3) := by decide +kernel
theorem dX13_invoked_105 : decode cX13_invoked 105 = .ok (.ifCond .eq 14, 3) := by decide +kernel
theorem dX13_invoked_108 : decode cX13_invoked 108 = .ok (.aload_n 0, 1) := by decide +kernel
theorem dX13_invoked_109 : decode cX13_invoked 109 = .ok (.iconst 5, 1) := by decide +kernel
theorem dX13_invoked_110 : decode cX13_invoked 110 = .ok (.aload_n 0, 1) := by decide +kernel
theorem dX13_invoked_111 : decode cX13_invoked 111 = .ok (.getfield 31, 3) := by decide +kernel
theorem dX13_invoked_114 : decode cX13_invoked 114 = .ok (.iload_n 1, 1) := by decide +kernel
theorem dX13_invoked_115 : decode cX13_invoked 115 = .ok (.iaload, 1) := by decide +kernel
theorem dX13_invoked_116 : decode cX13_invoked 116 = .ok (.invokevirtual 379, 3) := by decide +kernel
theorem dX13_invoked_119 : decode cX13_invoked 119 = .ok (.iload 5, 2) := by decide +kernel
theorem dX13_invoked_121 : decode cX13_invoked 121 = .ok (.bipush 8, 2) := by decide +kernel
theorem dX13_invoked_123 : decode cX13_invoked 123 = .ok (.isub, 1) := by decide +kernel
theorem dX13_invoked_124 : decode cX13_invoked 124 = .ok (.iconst 2, 1) := by decide +kernel
theorem dX13_invoked_125 : decode cX13_invoked 125 = .ok (.idiv, 1) := by decide +kernel
theorem dX13_invoked_126 : decode cX13_invoked 126 = .ok (.istore 4, 2) := by decide +kernel
theorem dX13_invoked_128 : decode cX13_invoked 128 = .ok (.aload_n 0, 1) := by decide +kernel
theorem dX13_invoked_129 : decode cX13_invoked 129 = .ok (.getfield 319, 3) := by decide +kernel
theorem dX13_invoked_132 : decode cX13_invoked 132 = .ok (.ifCond .eq 5, 3) := by decide +kernel
theorem dX13_invoked_135 : decode cX13_invoked 135 = .ok (.iconst 0, 1) := by decide +kernel
theorem dX13_invoked_136 : decode cX13_invoked 136 = .ok (.ireturn, 1) := by decide +kernel
theorem dX13_invoked_137 : decode cX13_invoked 137 = .ok (.aload_n 0, 1) := by decide +kernel
theorem dX13_invoked_138 : decode cX13_invoked 138 = .ok (.getfield 55, 3) := by decide +kernel
theorem dX13_invoked_141 : decode cX13_invoked 141 = .ok (.iload_n 1, 1) := by decide +kernel
theorem dX13_invoked_142 : decode cX13_invoked 142 = .ok (.iload_n 3, 1) := by decide +kernel
theorem dX13_invoked_143 : decode cX13_invoked 143 = .ok (.ifCond .eq 8, 3) := by decide +kernel
theorem dX13_invoked_146 : decode cX13_invoked 146 = .ok (.iload 4, 2) := by decide +kernel
theorem dX13_invoked_148 : decode cX13_invoked 148 = .ok (.goto 4, 3) := by decide +kernel
theorem dX13_invoked_151 : decode cX13_invoked 151 = .ok (.iconst (-1), 1) := by decide +kernel
theorem dX13_invoked_152 : decode cX13_invoked 152 = .ok (.iastore, 1) := by decide +kernel
theorem dX13_invoked_153 : decode cX13_invoked 153 = .ok (.aload_n 0, 1) := by decide +kernel
theorem dX13_invoked_154 : decode cX13_invoked 154 = .ok (.getfield 52, 3) := by decide +kernel
theorem dX13_invoked_157 : decode cX13_invoked 157 = .ok (.iload_n 1, 1) := by decide +kernel
theorem dX13_invoked_158 : decode cX13_invoked 158 = .ok (.aload_n 0, 1) := by decide +kernel
theorem dX13_invoked_159 : decode cX13_invoked 159 = .ok (.iload 4, 2) := by decide +kernel
theorem dX13_invoked_161 : decode cX13_invoked 161 = .ok (.aload_n 0, 1) := by decide +kernel
theorem dX13_invoked_162 : decode cX13_invoked 162 = .ok (.getfield 31, 3) := by decide +kernel
theorem dX13_invoked_165 : decode cX13_invoked 165 = .ok (.iload_n 1, 1) := by decide +kernel
theorem dX13_invoked_166 : decode cX13_invoked 166 = .ok (.iaload, 1) := by decide +kernel
theorem dX13_invoked_167 : decode cX13_invoked 167 = .ok (.iconst 1, 1) := by decide +kernel
theorem dX13_invoked_168 : decode cX13_invoked 168 = .ok (.invokevirtual 507, 3) := by decide +kernel
theorem dX13_invoked_171 : decode cX13_invoked 171 = .ok (.iastore, 1) := by decide +kernel
theorem dX13_invoked_172 : decode cX13_invoked 172 = .ok (.aload_n 0, 1) := by decide +kernel
theorem dX13_invoked_173 : decode cX13_invoked 173 = .ok (.getfield 52, 3) := by decide +kernel
theorem dX13_invoked_176 : decode cX13_invoked 176 = .ok (.iload_n 1, 1) := by decide +kernel
theorem dX13_invoked_177 : decode cX13_invoked 177 = .ok (.iaload, 1) := by decide +kernel
theorem dX13_invoked_178 : decode cX13_invoked 178 = .ok (.iconst (-1), 1) := by decide +kernel
theorem dX13_invoked_179 : decode cX13_invoked 179 = .ok (.if_icmp .ne 14, 3) := by decide +kernel
theorem dX13_invoked_182 : decode cX13_invoked 182 = .ok (.aload_n 0, 1) := by decide +kernel
theorem dX13_invoked_183 : decode cX13_invoked 183 = .ok (.iconst 5, 1) := by decide +kernel
theorem dX13_invoked_184 : decode cX13_invoked 184 = .ok (.aload_n 0, 1) := by decide +kernel
theorem dX13_invoked_185 : decode cX13_invoked 185 = .ok (.getfield 31, 3) := by decide +kernel
theorem dX13_invoked_188 : decode cX13_invoked 188 = .ok (.iload_n 1, 1) := by decide +kernel
theorem dX13_invoked_189 : decode cX13_invoked 189 = .ok (.iaload, 1) := by decide +kernel
theorem dX13_invoked_190 : decode cX13_invoked 190 = .ok (.invokevirtual 379, 3) := by decide +kernel
theorem dX13_invoked_193 : decode cX13_invoked 193 = .ok (.aload_n 0, 1) := by decide +kernel
theorem dX13_invoked_194 : decode cX13_invoked 194 = .ok (.iload_n 1, 1) := by decide +kernel
theorem dX13_invoked_195 : decode cX13_invoked 195 = .ok (.aload_n 0, 1) := by decide +kernel
theorem dX13_invoked_196 : decode cX13_invoked 196 = .ok (.getfield 52, 3) := by decide +kernel
theorem dX13_invoked_199 : decode cX13_invoked 199 = .ok (.iload_n 1, 1) := by decide +kernel
theorem dX13_invoked_200 : decode cX13_invoked 200 = .ok (.iaload, 1) := by decide +kernel
theorem dX13_invoked_201 : decode cX13_invoked 201 = .ok (.aload_n 0, 1) := by decide +kernel
theorem dX13_invoked_202 : decode cX13_invoked 202 = .ok (.getfield 319, 3) := by decide +kernel
theorem dX13_invoked_205 : decode cX13_invoked 205 = .ok (.ifCond .ne 27, 3) := by decide +kernel
theorem dX13_invoked_208 : decode cX13_invoked 208 = .ok (.aload_n 0, 1) := by decide +kernel
theorem dX13_invoked_209 : decode cX13_invoked 209 = .ok (.getfield 74, 3) := by decide +kernel
theorem dX13_invoked_212 : decode cX13_invoked 212 = .ok (.aload_n 0, 1) := by decide +kernel
theorem dX13_invoked_213 : decode cX13_invoked 213 = .ok (.getfield 52, 3) := by decide +kernel
theorem dX13_invoked_216 : decode cX13_invoked 216 = .ok (.iload_n 1, 1) := by decide +kernel
theorem dX13_invoked_217 : decode cX13_invoked 217 = .ok (.iaload, 1) := by decide +kernel
theorem dX13_invoked_218 : decode cX13_invoked 218 = .ok (.iaload, 1) := by decide +kernel
theorem dX13_invoked_219 : decode cX13_invoked 219 = .ok (.iconst 2, 1) := by decide +kernel
theorem dX13_invoked_220 : decode cX13_invoked 220 = .ok (.if_icmp .ne 7, 3) := by decide +kernel
theorem dX13_invoked_223 : decode cX13_invoked 223 = .ok (.iconst 1, 1) := by decide +kernel
theorem dX13_invoked_224 : decode cX13_invoked 224 = .ok (.goto 4, 3) := by decide +kernel
theorem dX13_invoked_227 : decode cX13_invoked 227 = .ok (.iconst 0, 1) := by decide +kernel
theorem dX13_invoked_228 : decode cX13_invoked 228 = .ok (.iload_n 3, 1) := by decide +kernel
theorem dX13_invoked_229 : decode cX13_invoked 229 = .ok (.if_icmp .ne 7, 3) := by decide +kernel
theorem dX13_invoked_232 : decode cX13_invoked 232 = .ok (.iconst 1, 1) := by decide +kernel
theorem dX13_invoked_233 : decode cX13_invoked 233 = .ok (.goto 4, 3) := by decide +kernel
theorem dX13_invoked_236 : decode cX13_invoked 236 = .ok (.iconst 0, 1) := by decide +kernel
theorem dX13_invoked_237 : decode cX13_invoked 237 = .ok (.invokevirtual 564, 3) := by decide +kernel
theorem dX13_invoked_240 : decode cX13_invoked 240 = .ok (.istore 5, 2) := by decide +kernel
theorem dX13_invoked_242 : decode cX13_invoked 242 = .ok (.iload 5, 2) := by decide +kernel
theorem dX13_invoked_244 : decode cX13_invoked 244 = .ok (.ireturn, 1) := by decide +kernel
theorem dX13_rule_0 : decode cX13_rule 0 = .ok (.aload_n 0, 1) := by decide +kernel
theorem dX13_rule_1 : decode cX13_rule 1 = .ok (.getfield 28, 3) := by decide +kernel
theorem dX13_rule_4 : decode cX13_rule 4 = .ok (.iload_n 1, 1) := by decide +kernel
theorem dX13_rule_5 : decode cX13_rule 5 = .ok (.iaload, 1) := by decide +kernel
theorem dX13_rule_6 : decode cX13_rule 6 = .ok (.tableswitch 598 20 38 #[90, 92, 92, 94, 96, 125, 131, 223, 257, 284, 345, 351, 357, 410, 437, 410, 449, 592, 449], 90) := by decide +kernel
theorem dX13_rule_96 : decode cX13_rule 96 = .ok (.iconst 0, 1) := by decide +kernel
theorem dX13_rule_97 : decode cX13_rule 97 = .ok (.ireturn, 1) := by decide +kernel
theorem dX13_rule_98 : decode cX13_rule 98 = .ok (.iconst 1, 1) := by decide +kernel
theorem dX13_rule_99 : decode cX13_rule 99 = .ok (.ireturn, 1) := by decide +kernel
theorem dX13_rule_100 : decode cX13_rule 100 = .ok (.iconst 2, 1) := by decide +kernel
theorem dX13_rule_101 : decode cX13_rule 101 = .ok (.ireturn, 1) := by decide +kernel
theorem dX13_rule_102 : decode cX13_rule 102 = .ok (.aload_n 0, 1) := by decide +kernel
theorem dX13_rule_103 : decode cX13_rule 103 = .ok (.getfield 510, 3) := by decide +kernel
theorem dX13_rule_106 : decode cX13_rule 106 = .ok (.ifCond .eq 15, 3) := by decide +kernel
theorem dX13_rule_109 : decode cX13_rule 109 = .ok (.aload_n 0, 1) := by decide +kernel
theorem dX13_rule_110 : decode cX13_rule 110 = .ok (.bipush 7, 2) := by decide +kernel
theorem dX13_rule_112 : decode cX13_rule 112 = .ok (.aload_n 0, 1) := by decide +kernel
theorem dX13_rule_113 : decode cX13_rule 113 = .ok (.getfield 31, 3) := by decide +kernel
theorem dX13_rule_116 : decode cX13_rule 116 = .ok (.iload_n 1, 1) := by decide +kernel
theorem dX13_rule_117 : decode cX13_rule 117 = .ok (.iaload, 1) := by decide +kernel
theorem dX13_rule_118 : decode cX13_rule 118 = .ok (.invokevirtual 379, 3) := by decide +kernel
theorem dX13_rule_121 : decode cX13_rule 121 = .ok (.bipush 8, 2) := by decide +kernel
theorem dX13_rule_123 : decode cX13_rule 123 = .ok (.iconst 2, 1) := by decide +kernel
theorem dX13_rule_124 : decode cX13_rule 124 = .ok (.aload_n 0, 1) := by decide +kernel
theorem dX13_rule_125 : decode cX13_rule 125 = .ok (.getfield 519, 3) := by decide +kernel
theorem dX13_rule_128 : decode cX13_rule 128 = .ok (.imul, 1) := by decide +kernel
theorem dX13_rule_129 : decode cX13_rule 129 = .ok (.iadd, 1) := by decide +kernel
theorem dX13_rule_130 : decode cX13_rule 130 = .ok (.ireturn, 1) := by decide +kernel
theorem dX13_rule_131 : decode cX13_rule 131 = .ok (.aload_n 0, 1) := by decide +kernel
theorem dX13_rule_132 : decode cX13_rule 132 = .ok (.iload_n 1, 1) := by decide +kernel
theorem dX13_rule_133 : decode cX13_rule 133 = .ok (.invokevirtual 561, 3) := by decide +kernel
theorem dX13_rule_136 : decode cX13_rule 136 = .ok (.ireturn, 1) := by decide +kernel
theorem dX13_rule_137 : decode cX13_rule 137 = .ok (.aload_n 0, 1) := by decide +kernel
theorem dX13_rule_138 : decode cX13_rule 138 = .ok (.getfield 52, 3) := by decide +kernel
theorem dX13_rule_141 : decode cX13_rule 141 = .ok (.iload_n 1, 1) := by decide +kernel
theorem dX13_rule_142 : decode cX13_rule 142 = .ok (.aload_n 0, 1) := by decide +kernel
theorem dX13_rule_143 : decode cX13_rule 143 = .ok (.aload_n 0, 1) := by decide +kernel
theorem dX13_rule_144 : decode cX13_rule 144 = .ok (.getfield 519, 3) := by decide +kernel
theorem dX13_rule_147 : decode cX13_rule 147 = .ok (.aload_n 0, 1) := by decide +kernel
theorem dX13_rule_148 : decode cX13_rule 148 = .ok (.getfield 31, 3) := by decide +kernel
theorem dX13_rule_151 : decode cX13_rule 151 = .ok (.iload_n 1, 1) := by decide +kernel
theorem dX13_rule_152 : decode cX13_rule 152 = .ok (.iaload, 1) := by decide +kernel
theorem dX13_rule_153 : decode cX13_rule 153 = .ok (.iconst 1, 1) := by decide +kernel
theorem dX13_rule_154 : decode cX13_rule 154 = .ok (.invokevirtual 507, 3) := by decide +kernel
theorem dX13_rule_157 : decode cX13_rule 157 = .ok (.iastore, 1) := by decide +kernel
theorem dX13_rule_158 : decode cX13_rule 158 = .ok (.aload_n 0, 1) := by decide +kernel
theorem dX13_rule_159 : decode cX13_rule 159 = .ok (.getfield 52, 3) := by decide +kernel
theorem dX13_rule_162 : decode cX13_rule 162 = .ok (.iload_n 1, 1) := by decide +kernel
theorem dX13_rule_163 : decode cX13_rule 163 = .ok (.iaload, 1) := by decide +kernel
theorem dX13_rule_164 : decode cX13_rule 164 = .ok (.iconst (-1), 1) := by decide +kernel
theorem dX13_rule_165 : decode cX13_rule 165 = .ok (.if_icmp .ne 17, 3) := by decide +kernel
theorem dX13_rule_168 : decode cX13_rule 168 = .ok (.aload_n 0, 1) := by decide +kernel
theorem dX13_rule_169 : decode cX13_rule 169 = .ok (.iconst 5, 1) := by decide +kernel
theorem dX13_rule_170 : decode cX13_rule 170 = .ok (.aload_n 0, 1) := by decide +kernel
theorem dX13_rule_171 : decode cX13_rule 171 = .ok (.getfield 31, 3) := by decide +kernel
theorem dX13_rule_174 : decode cX13_rule 174 = .ok (.iload_n 1, 1) := by decide +kernel
theorem dX13_rule_175 : decode cX13_rule 175 = .ok (.iaload, 1) := by decide +kernel
theorem dX13_rule_176 : decode cX13_rule 176 = .ok (.invokevirtual 379, 3) := by decide +kernel
theorem dX13_rule_179 : decode cX13_rule 179 = .ok (.goto 37, 3) := by decide +kernel
theorem dX13_rule_182 : decode cX13_rule 182 = .ok (.aload_n 0, 1) := by decide +kernel
theorem dX13_rule_183 : decode cX13_rule 183 = .ok (.getfield 510, 3) := by decide +kernel
theorem dX13_rule_186 : decode cX13_rule 186 = .ok (.ifCond .eq 30, 3) := by decide +kernel
theorem dX13_rule_189 : decode cX13_rule 189 = .ok (.aload_n 0, 1) := by decide +kernel
theorem dX13_rule_190 : decode cX13_rule 190 = .ok (.getfield 74, 3) := by decide +kernel
theorem dX13_rule_193 : decode cX13_rule 193 = .ok (.aload_n 0, 1) := by decide +kernel
theorem dX13_rule_194 : decode cX13_rule 194 = .ok (.getfield 52, 3) := by decide +kernel
theorem dX13_rule_197 : decode cX13_rule 197 = .ok (.iload_n 1, 1) := by decide +kernel
theorem dX13_rule_198 : decode cX13_rule 198 = .ok (.iaload, 1) := by decide +kernel
theorem dX13_rule_199 : decode cX13_rule 199 = .ok (.iaload, 1) := by decide +kernel
theorem dX13_rule_200 : decode cX13_rule 200 = .ok (.iconst 1, 1) := by decide +kernel
theorem dX13_rule_201 : decode cX13_rule 201 = .ok (.if_icmp .ne 15, 3) := by decide +kernel
theorem dX13_rule_204 : decode cX13_rule 204 = .ok (.aload_n 0, 1) := by decide +kernel
theorem dX13_rule_205 : decode cX13_rule 205 = .ok (.bipush 7, 2) := by decide +kernel
theorem dX13_rule_207 : decode cX13_rule 207 = .ok (.aload_n 0, 1) := by decide +kernel
theorem dX13_rule_208 : decode cX13_rule 208 = .ok (.getfield 31, 3) := by decide +kernel
theorem dX13_rule_211 : decode cX13_rule 211 = .ok (.iload_n 1, 1) := by decide +kernel
theorem dX13_rule_212 : decode cX13_rule 212 = .ok (.iaload, 1) := by decide +kernel
theorem dX13_rule_213 : decode cX13_rule 213 = .ok (.invokevirtual 379, 3) := by decide +kernel
theorem dX13_rule_216 : decode cX13_rule 216 = .ok (.aload_n 0, 1) := by decide +kernel
theorem dX13_rule_217 : decode cX13_rule 217 = .ok (.iload_n 1, 1) := by decide +kernel
theorem dX13_rule_218 : decode cX13_rule 218 = .ok (.aload_n 0, 1) := by decide +kernel
theorem dX13_rule_219 : decode cX13_rule 219 = .ok (.getfield 52, 3) := by decide +kernel
theorem dX13_rule_222 : decode cX13_rule 222 = .ok (.iload_n 1, 1) := by decide +kernel
theorem dX13_rule_223 : decode cX13_rule 223 = .ok (.iaload, 1) := by decide +kernel
theorem dX13_rule_224 : decode cX13_rule 224 = .ok (.iconst 1, 1) := by decide +kernel
theorem dX13_rule_225 : decode cX13_rule 225 = .ok (.invokevirtual 564, 3) := by decide +kernel
theorem dX13_rule_228 : decode cX13_rule 228 = .ok (.ireturn, 1) := by decide +kernel
theorem dX13_rule_229 : decode cX13_rule 229 = .ok (.aload_n 0, 1) := by decide +kernel
theorem dX13_rule_230 : decode cX13_rule 230 = .ok (.aload_n 0, 1) := by decide +kernel
theorem dX13_rule_231 : decode cX13_rule 231 = .ok (.getfield 31, 3) := by decide +kernel
theorem dX13_rule_234 : decode cX13_rule 234 = .ok (.iload_n 1, 1) := by decide +kernel
theorem dX13_rule_235 : decode cX13_rule 235 = .ok (.iaload, 1) := by decide +kernel
theorem dX13_rule_236 : decode cX13_rule 236 = .ok (.invokevirtual 494, 3) := by decide +kernel
theorem dX13_rule_239 : decode cX13_rule 239 = .ok (.istore_n 2, 1) := by decide +kernel
theorem dX13_rule_240 : decode cX13_rule 240 = .ok (.iload_n 2, 1) := by decide +kernel
theorem dX13_rule_241 : decode cX13_rule 241 = .ok (.iconst (-1), 1) := by decide +kernel
theorem dX13_rule_242 : decode cX13_rule 242 = .ok (.if_icmp .ne 14, 3) := by decide +kernel
theorem dX13_rule_245 : decode cX13_rule 245 = .ok (.aload_n 0, 1) := by decide +kernel
theorem dX13_rule_246 : decode cX13_rule 246 = .ok (.iconst 5, 1) := by decide +kernel
theorem dX13_rule_247 : decode cX13_rule 247 = .ok (.aload_n 0, 1) := by decide +kernel
theorem dX13_rule_248 : decode cX13_rule 248 = .ok (.getfield 31, 3) := by decide +kernel
theorem dX13_rule_251 : decode cX13_rule 251 = .ok (.iload_n 1, 1) := by decide +kernel
theorem dX13_rule_252 : decode cX13_rule 252 = .ok (.iaload, 1) := by decide +kernel
theorem dX13_rule_253 : decode cX13_rule 253 = .ok (.invokevirtual 379, 3) := by decide +kernel
theorem dX13_rule_256 : decode cX13_rule 256 = .ok (.bipush 8, 2) := by decide +kernel
theorem dX13_rule_258 : decode cX13_rule 258 = .ok (.iconst 2, 1) := by decide +kernel
theorem dX13_rule_259 : decode cX13_rule 259 = .ok (.iload_n 2, 1) := by decide +kernel
theorem dX13_rule_260 : decode cX13_rule 260 = .ok (.imul, 1) := by decide +kernel
theorem dX13_rule_261 : decode cX13_rule 261 = .ok (.iadd, 1) := by decide +kernel
theorem dX13_rule_262 : decode cX13_rule 262 = .ok (.ireturn, 1) := by decide +kernel
theorem dX13_rule_263 : decode cX13_rule 263 = .ok (.aload_n 0, 1) := by decide +kernel
theorem dX13_rule_264 : decode cX13_rule 264 = .ok (.aload_n 0, 1) := by decide +kernel
theorem dX13_rule_265 : decode cX13_rule 265 = .ok (.getfield 37, 3) := by decide +kernel
theorem dX13_rule_268 : decode cX13_rule 268 = .ok (.iload_n 1, 1) := by decide +kernel
theorem dX13_rule_269 : decode cX13_rule 269 = .ok (.iaload, 1) := by decide +kernel
theorem dX13_rule_270 : decode cX13_rule 270 = .ok (.invokevirtual 537, 3) := by decide +kernel
theorem dX13_rule_273 : decode cX13_rule 273 = .ok (.ifCond .eq 15, 3) := by decide +kernel
theorem dX13_rule_276 : decode cX13_rule 276 = .ok (.aload_n 0, 1) := by decide +kernel
theorem dX13_rule_277 : decode cX13_rule 277 = .ok (.bipush 6, 2) := by decide +kernel
theorem dX13_rule_279 : decode cX13_rule 279 = .ok (.aload_n 0, 1) := by decide +kernel
theorem dX13_rule_280 : decode cX13_rule 280 = .ok (.getfield 31, 3) := by decide +kernel
theorem dX13_rule_283 : decode cX13_rule 283 = .ok (.iload_n 1, 1) := by decide +kernel
theorem dX13_rule_284 : decode cX13_rule 284 = .ok (.iaload, 1) := by decide +kernel
theorem dX13_rule_285 : decode cX13_rule 285 = .ok (.invokevirtual 379, 3) := by decide +kernel
theorem dX13_rule_288 : decode cX13_rule 288 = .ok (.iconst 4, 1) := by decide +kernel
theorem dX13_rule_289 : decode cX13_rule 289 = .ok (.ireturn, 1) := by decide +kernel
theorem dX13_rule_290 : decode cX13_rule 290 = .ok (.aload_n 0, 1) := by decide +kernel
theorem dX13_rule_291 : decode cX13_rule 291 = .ok (.aload_n 0, 1) := by decide +kernel
theorem dX13_rule_292 : decode cX13_rule 292 = .ok (.getfield 31, 3) := by decide +kernel
theorem dX13_rule_295 : decode cX13_rule 295 = .ok (.iload_n 1, 1) := by decide +kernel
theorem dX13_rule_296 : decode cX13_rule 296 = .ok (.iaload, 1) := by decide +kernel
theorem dX13_rule_297 : decode cX13_rule 297 = .ok (.invokevirtual 494, 3) := by decide +kernel
theorem dX13_rule_300 : decode cX13_rule 300 = .ok (.istore_n 2, 1) := by decide +kernel
theorem dX13_rule_301 : decode cX13_rule 301 = .ok (.iload_n 2, 1) := by decide +kernel
theorem dX13_rule_302 : decode cX13_rule 302 = .ok (.iconst (-1), 1) := by decide +kernel
theorem dX13_rule_303 : decode cX13_rule 303 = .ok (.if_icmp .ne 14, 3) := by decide +kernel
theorem dX13_rule_306 : decode cX13_rule 306 = .ok (.aload_n 0, 1) := by decide +kernel
theorem dX13_rule_307 : decode cX13_rule 307 = .ok (.iconst 5, 1) := by decide +kernel
theorem dX13_rule_308 : decode cX13_rule 308 = .ok (.aload_n 0, 1) := by decide +kernel
theorem dX13_rule_309 : decode cX13_rule 309 = .ok (.getfield 31, 3) := by decide +kernel
theorem dX13_rule_312 : decode cX13_rule 312 = .ok (.iload_n 1, 1) := by decide +kernel
theorem dX13_rule_313 : decode cX13_rule 313 = .ok (.iaload, 1) := by decide +kernel
theorem dX13_rule_314 : decode cX13_rule 314 = .ok (.invokevirtual 379, 3) := by decide +kernel
theorem dX13_rule_317 : decode cX13_rule 317 = .ok (.aload_n 0, 1) := by decide +kernel
theorem dX13_rule_318 : decode cX13_rule 318 = .ok (.aload_n 0, 1) := by decide +kernel
theorem dX13_rule_319 : decode cX13_rule 319 = .ok (.getfield 37, 3) := by decide +kernel
theorem dX13_rule_322 : decode cX13_rule 322 = .ok (.iload_n 1, 1) := by decide +kernel
theorem dX13_rule_323 : decode cX13_rule 323 = .ok (.iaload, 1) := by decide +kernel
theorem dX13_rule_324 : decode cX13_rule 324 = .ok (.invokevirtual 537, 3) := by decide +kernel
theorem dX13_rule_327 : decode cX13_rule 327 = .ok (.ifCond .eq 15, 3) := by decide +kernel
theorem dX13_rule_330 : decode cX13_rule 330 = .ok (.aload_n 0, 1) := by decide +kernel
theorem dX13_rule_331 : decode cX13_rule 331 = .ok (.bipush 6, 2) := by decide +kernel
theorem dX13_rule_333 : decode cX13_rule 333 = .ok (.aload_n 0, 1) := by decide +kernel
theorem dX13_rule_334 : decode cX13_rule 334 = .ok (.getfield 43, 3) := by decide +kernel
theorem dX13_rule_337 : decode cX13_rule 337 = .ok (.iload_n 1, 1) := by decide +kernel
theorem dX13_rule_338 : decode cX13_rule 338 = .ok (.iaload, 1) := by decide +kernel
theorem dX13_rule_339 : decode cX13_rule 339 = .ok (.invokevirtual 379, 3) := by decide +kernel
theorem dX13_rule_342 : decode cX13_rule 342 = .ok (.bipush 8, 2) := by decide +kernel
theorem dX13_rule_344 : decode cX13_rule 344 = .ok (.iconst 2, 1) := by decide +kernel
theorem dX13_rule_345 : decode cX13_rule 345 = .ok (.iload_n 2, 1) := by decide +kernel
theorem dX13_rule_346 : decode cX13_rule 346 = .ok (.imul, 1) := by decide +kernel
theorem dX13_rule_347 : decode cX13_rule 347 = .ok (.iadd, 1) := by decide +kernel
theorem dX13_rule_348 : decode cX13_rule 348 = .ok (.iconst 1, 1) := by decide +kernel
theorem dX13_rule_349 : decode cX13_rule 349 = .ok (.iadd, 1) := by decide +kernel
theorem dX13_rule_350 : decode cX13_rule 350 = .ok (.ireturn, 1) := by decide +kernel
theorem dX13_rule_351 : decode cX13_rule 351 = .ok (.aload_n 0, 1) := by decide +kernel
theorem dX13_rule_352 : decode cX13_rule 352 = .ok (.iload_n 1, 1) := by decide +kernel
theorem dX13_rule_353 : decode cX13_rule 353 = .ok (.invokevirtual 567, 3) := by decide +kernel
theorem dX13_rule_356 : decode cX13_rule 356 = .ok (.ireturn, 1) := by decide +kernel
theorem dX13_rule_357 : decode cX13_rule 357 = .ok (.aload_n 0, 1) := by decide +kernel
theorem dX13_rule_358 : decode cX13_rule 358 = .ok (.iload_n 1, 1) := by decide +kernel
theorem dX13_rule_359 : decode cX13_rule 359 = .ok (.invokevirtual 570, 3) := by decide +kernel
theorem dX13_rule_362 : decode cX13_rule 362 = .ok (.ireturn, 1) := by decide +kernel
theorem dX13_rule_363 : decode cX13_rule 363 = .ok (.aload_n 0, 1) := by decide +kernel
theorem dX13_rule_364 : decode cX13_rule 364 = .ok (.iload_n 1, 1) := by decide +kernel
theorem dX13_rule_365 : decode cX13_rule 365 = .ok (.invokevirtual 573, 3) := by decide +kernel
theorem dX13_rule_368 : decode cX13_rule 368 = .ok (.istore_n 2, 1) := by decide +kernel
theorem dX13_rule_369 : decode cX13_rule 369 = .ok (.aload_n 0, 1) := by decide +kernel
theorem dX13_rule_370 : decode cX13_rule 370 = .ok (.aload_n 0, 1) := by decide +kernel
theorem dX13_rule_371 : decode cX13_rule 371 = .ok (.getfield 40, 3) := by decide +kernel
theorem dX13_rule_374 : decode cX13_rule 374 = .ok (.iload_n 1, 1) := by decide +kernel
theorem dX13_rule_375 : decode cX13_rule 375 = .ok (.iaload, 1) := by decide +kernel
theorem dX13_rule_376 : decode cX13_rule 376 = .ok (.invokevirtual 537, 3) := by decide +kernel
theorem dX13_rule_379 : decode cX13_rule 379 = .ok (.istore_n 3, 1) := by decide +kernel
theorem dX13_rule_380 : decode cX13_rule 380 = .ok (.iload_n 2, 1) := by decide +kernel
theorem dX13_rule_381 : decode cX13_rule 381 = .ok (.invokestatic 485, 3) := by decide +kernel
theorem dX13_rule_384 : decode cX13_rule 384 = .ok (.ifCond .eq 7, 3) := by decide +kernel
theorem dX13_rule_387 : decode cX13_rule 387 = .ok (.iload_n 3, 1) := by decide +kernel
theorem dX13_rule_388 : decode cX13_rule 388 = .ok (.ifCond .eq 15, 3) := by decide +kernel
theorem dX13_rule_391 : decode cX13_rule 391 = .ok (.aload_n 0, 1) := by decide +kernel
theorem dX13_rule_392 : decode cX13_rule 392 = .ok (.bipush 6, 2) := by decide +kernel
theorem dX13_rule_394 : decode cX13_rule 394 = .ok (.aload_n 0, 1) := by decide +kernel
theorem dX13_rule_395 : decode cX13_rule 395 = .ok (.getfield 31, 3) := by decide +kernel
theorem dX13_rule_398 : decode cX13_rule 398 = .ok (.iload_n 1, 1) := by decide +kernel
theorem dX13_rule_399 : decode cX13_rule 399 = .ok (.iaload, 1) := by decide +kernel
theorem dX13_rule_400 : decode cX13_rule 400 = .ok (.invokevirtual 379, 3) := by decide +kernel
theorem dX13_rule_403 : decode cX13_rule 403 = .ok (.iload_n 2, 1) := by decide +kernel
theorem dX13_rule_404 : decode cX13_rule 404 = .ok (.iconst 4, 1) := by decide +kernel
theorem dX13_rule_405 : decode cX13_rule 405 = .ok (.if_icmp .ne 7, 3) := by decide +kernel
theorem dX13_rule_408 : decode cX13_rule 408 = .ok (.iconst 0, 1) := by decide +kernel
theorem dX13_rule_409 : decode cX13_rule 409 = .ok (.goto 6, 3) := by decide +kernel
theorem dX13_rule_412 : decode cX13_rule 412 = .ok (.iload_n 2, 1) := by decide +kernel
theorem dX13_rule_413 : decode cX13_rule 413 = .ok (.iconst 1, 1) := by decide +kernel
theorem dX13_rule_414 : decode cX13_rule 414 = .ok (.isub, 1) := by decide +kernel
theorem dX13_rule_415 : decode cX13_rule 415 = .ok (.ireturn, 1) := by decide +kernel
theorem dX13_rule_416 : decode cX13_rule 416 = .ok (.aload_n 0, 1) := by decide +kernel
theorem dX13_rule_417 : decode cX13_rule 417 = .ok (.aload_n 0, 1) := by decide +kernel
theorem dX13_rule_418 : decode cX13_rule 418 = .ok (.getfield 37, 3) := by decide +kernel
theorem dX13_rule_421 : decode cX13_rule 421 = .ok (.iload_n 1, 1) := by decide +kernel
theorem dX13_rule_422 : decode cX13_rule 422 = .ok (.iaload, 1) := by decide +kernel
theorem dX13_rule_423 : decode cX13_rule 423 = .ok (.invokevirtual 537, 3) := by decide +kernel
theorem dX13_rule_426 : decode cX13_rule 426 = .ok (.ifCond .eq 15, 3) := by decide +kernel
theorem dX13_rule_429 : decode cX13_rule 429 = .ok (.aload_n 0, 1) := by decide +kernel
theorem dX13_rule_430 : decode cX13_rule 430 = .ok (.bipush 6, 2) := by decide +kernel
theorem dX13_rule_432 : decode cX13_rule 432 = .ok (.aload_n 0, 1) := by decide +kernel
theorem dX13_rule_433 : decode cX13_rule 433 = .ok (.getfield 31, 3) := by decide +kernel
theorem dX13_rule_436 : decode cX13_rule 436 = .ok (.iload_n 1, 1) := by decide +kernel
theorem dX13_rule_437 : decode cX13_rule 437 = .ok (.iaload, 1) := by decide +kernel
theorem dX13_rule_438 : decode cX13_rule 438 = .ok (.invokevirtual 379, 3) := by decide +kernel
theorem dX13_rule_441 : decode cX13_rule 441 = .ok (.iconst 0, 1) := by decide +kernel
theorem dX13_rule_442 : decode cX13_rule 442 = .ok (.ireturn, 1) := by decide +kernel
theorem dX13_rule_443 : decode cX13_rule 443 = .ok (.aload_n 0, 1) := by decide +kernel
theorem dX13_rule_444 : decode cX13_rule 444 = .ok (.aload_n 0, 1) := by decide +kernel
theorem dX13_rule_445 : decode cX13_rule 445 = .ok (.getfield 37, 3) := by decide +kernel
theorem dX13_rule_448 : decode cX13_rule 448 = .ok (.iload_n 1, 1) := by decide +kernel
theorem dX13_rule_449 : decode cX13_rule 449 = .ok (.iaload, 1) := by decide +kernel
theorem dX13_rule_450 : decode cX13_rule 450 = .ok (.invokevirtual 540, 3) := by decide +kernel
theorem dX13_rule_453 : decode cX13_rule 453 = .ok (.iconst 1, 1) := by decide +kernel
theorem dX13_rule_454 : decode cX13_rule 454 = .ok (.ireturn, 1) := by decide +kernel
theorem dX13_rule_455 : decode cX13_rule 455 = .ok (.aload_n 0, 1) := by decide +kernel
theorem dX13_rule_456 : decode cX13_rule 456 = .ok (.aload_n 0, 1) := by decide +kernel
theorem dX13_rule_457 : decode cX13_rule 457 = .ok (.getfield 31, 3) := by decide +kernel
theorem dX13_rule_460 : decode cX13_rule 460 = .ok (.iload_n 1, 1) := by decide +kernel
theorem dX13_rule_461 : decode cX13_rule 461 = .ok (.iaload, 1) := by decide +kernel
theorem dX13_rule_462 : decode cX13_rule 462 = .ok (.invokevirtual 494, 3) := by decide +kernel
theorem dX13_rule_465 : decode cX13_rule 465 = .ok (.istore_n 3, 1) := by decide +kernel
theorem dX13_rule_466 : decode cX13_rule 466 = .ok (.iload_n 3, 1) := by decide +kernel
theorem dX13_rule_467 : decode cX13_rule 467 = .ok (.iconst (-1), 1) := by decide +kernel
theorem dX13_rule_468 : decode cX13_rule 468 = .ok (.if_icmp .ne 25, 3) := by decide +kernel
theorem dX13_rule_471 : decode cX13_rule 471 = .ok (.aload_n 0, 1) := by decide +kernel
theorem dX13_rule_472 : decode cX13_rule 472 = .ok (.getfield 28, 3) := by decide +kernel
theorem dX13_rule_475 : decode cX13_rule 475 = .ok (.iload_n 1, 1) := by decide +kernel
theorem dX13_rule_476 : decode cX13_rule 476 = .ok (.iaload, 1) := by decide +kernel
theorem dX13_rule_477 : decode cX13_rule 477 = .ok (.bipush 36, 2) := by decide +kernel
theorem dX13_rule_479 : decode cX13_rule 479 = .ok (.if_icmp .ne 14, 3) := by decide +kernel
theorem dX13_rule_482 : decode cX13_rule 482 = .ok (.aload_n 0, 1) := by decide +kernel
theorem dX13_rule_483 : decode cX13_rule 483 = .ok (.iconst 5, 1) := by decide +kernel
theorem dX13_rule_484 : decode cX13_rule 484 = .ok (.aload_n 0, 1) := by decide +kernel
theorem dX13_rule_485 : decode cX13_rule 485 = .ok (.getfield 31, 3) := by decide +kernel
theorem dX13_rule_488 : decode cX13_rule 488 = .ok (.iload_n 1, 1) := by decide +kernel
theorem dX13_rule_489 : decode cX13_rule 489 = .ok (.iaload, 1) := by decide +kernel
theorem dX13_rule_490 : decode cX13_rule 490 = .ok (.invokevirtual 379, 3) := by decide +kernel
theorem dX13_rule_493 : decode cX13_rule 493 = .ok (.aload_n 0, 1) := by decide +kernel
theorem dX13_rule_494 : decode cX13_rule 494 = .ok (.getfield 28, 3) := by decide +kernel
theorem dX13_rule_497 : decode cX13_rule 497 = .ok (.iload_n 1, 1) := by decide +kernel
theorem dX13_rule_498 : decode cX13_rule 498 = .ok (.iaload, 1) := by decide +kernel
theorem dX13_rule_499 : decode cX13_rule 499 = .ok (.bipush 36, 2) := by decide +kernel
theorem dX13_rule_501 : decode cX13_rule 501 = .ok (.if_icmp .ne 16, 3) := by decide +kernel
theorem dX13_rule_504 : decode cX13_rule 504 = .ok (.aload_n 0, 1) := by decide +kernel
theorem dX13_rule_505 : decode cX13_rule 505 = .ok (.aload_n 0, 1) := by decide +kernel
theorem dX13_rule_506 : decode cX13_rule 506 = .ok (.getfield 37, 3) := by decide +kernel
theorem dX13_rule_509 : decode cX13_rule 509 = .ok (.iload_n 1, 1) := by decide +kernel
theorem dX13_rule_510 : decode cX13_rule 510 = .ok (.iaload, 1) := by decide +kernel
theorem dX13_rule_511 : decode cX13_rule 511 = .ok (.invokevirtual 537, 3) := by decide +kernel
theorem dX13_rule_514 : decode cX13_rule 514 = .ok (.goto 8, 3) := by decide +kernel
theorem dX13_rule_517 : decode cX13_rule 517 = .ok (.aload_n 0, 1) := by decide +kernel
theorem dX13_rule_518 : decode cX13_rule 518 = .ok (.iload_n 1, 1) := by decide +kernel
theorem dX13_rule_519 : decode cX13_rule 519 = .ok (.invokevirtual 573, 3) := by decide +kernel
theorem dX13_rule_522 : decode cX13_rule 522 = .ok (.istore_n 2, 1) := by decide +kernel
theorem dX13_rule_523 : decode cX13_rule 523 = .ok (.iload_n 3, 1) := by decide +kernel
theorem dX13_rule_524 : decode cX13_rule 524 = .ok (.iconst (-1), 1) := by decide +kernel
theorem dX13_rule_525 : decode cX13_rule 525 = .ok (.if_icmp .ne 14, 3) := by decide +kernel
theorem dX13_rule_528 : decode cX13_rule 528 = .ok (.aload_n 0, 1) := by decide +kernel
theorem dX13_rule_529 : decode cX13_rule 529 = .ok (.iconst 5, 1) := by decide +kernel
theorem dX13_rule_530 : decode cX13_rule 530 = .ok (.aload_n 0, 1) := by decide +kernel
theorem dX13_rule_531 : decode cX13_rule 531 = .ok (.getfield 31, 3) := by decide +kernel
theorem dX13_rule_534 : decode cX13_rule 534 = .ok (.iload_n 1, 1) := by decide +kernel
theorem dX13_rule_535 : decode cX13_rule 535 = .ok (.iaload, 1) := by decide +kernel
theorem dX13_rule_536 : decode cX13_rule 536 = .ok (.invokevirtual 379, 3) := by decide +kernel
theorem dX13_rule_539 : decode cX13_rule 539 = .ok (.bipush 8, 2) := by decide +kernel
theorem dX13_rule_541 : decode cX13_rule 541 = .ok (.iconst 2, 1) := by decide +kernel
theorem dX13_rule_542 : decode cX13_rule 542 = .ok (.iload_n 3, 1) := by decide +kernel
theorem dX13_rule_543 : decode cX13_rule 543 = .ok (.imul, 1) := by decide +kernel
theorem dX13_rule_544 : decode cX13_rule 544 = .ok (.iadd, 1) := by decide +kernel
theorem dX13_rule_545 : decode cX13_rule 545 = .ok (.istore_n 3, 1) := by decide +kernel
theorem dX13_rule_546 : decode cX13_rule 546 = .ok (.iload_n 2, 1) := by decide +kernel
theorem dX13_rule_547 : decode cX13_rule 547 = .ok (.invokestatic 543, 3) := by decide +kernel
theorem dX13_rule_550 : decode cX13_rule 550 = .ok (.ifCond .eq 12, 3) := by decide +kernel
theorem dX13_rule_553 : decode cX13_rule 553 = .ok (.aload_n 0, 1) := by decide +kernel
theorem dX13_rule_554 : decode cX13_rule 554 = .ok (.iload_n 2, 1) := by decide +kernel
theorem dX13_rule_555 : decode cX13_rule 555 = .ok (.iload_n 3, 1) := by decide +kernel
theorem dX13_rule_556 : decode cX13_rule 556 = .ok (.invokevirtual 576, 3) := by decide +kernel
theorem dX13_rule_559 : decode cX13_rule 559 = .ok (.ifCond .ne 15, 3) := by decide +kernel
theorem dX13_rule_562 : decode cX13_rule 562 = .ok (.aload_n 0, 1) := by decide +kernel
theorem dX13_rule_563 : decode cX13_rule 563 = .ok (.bipush 6, 2) := by decide +kernel
theorem dX13_rule_565 : decode cX13_rule 565 = .ok (.aload_n 0, 1) := by decide +kernel
theorem dX13_rule_566 : decode cX13_rule 566 = .ok (.getfield 31, 3) := by decide +kernel
theorem dX13_rule_569 : decode cX13_rule 569 = .ok (.iload_n 1, 1) := by decide +kernel
theorem dX13_rule_570 : decode cX13_rule 570 = .ok (.iaload, 1) := by decide +kernel
theorem dX13_rule_571 : decode cX13_rule 571 = .ok (.invokevirtual 379, 3) := by decide +kernel
theorem dX13_rule_574 : decode cX13_rule 574 = .ok (.aload_n 0, 1) := by decide +kernel
theorem dX13_rule_575 : decode cX13_rule 575 = .ok (.getfield 55, 3) := by decide +kernel
theorem dX13_rule_578 : decode cX13_rule 578 = .ok (.iload_n 1, 1) := by decide +kernel
theorem dX13_rule_579 : decode cX13_rule 579 = .ok (.iload_n 3, 1) := by decide +kernel
theorem dX13_rule_580 : decode cX13_rule 580 = .ok (.iastore, 1) := by decide +kernel
theorem dX13_rule_581 : decode cX13_rule 581 = .ok (.aload_n 0, 1) := by decide +kernel
theorem dX13_rule_582 : decode cX13_rule 582 = .ok (.getfield 28, 3) := by decide +kernel
theorem dX13_rule_585 : decode cX13_rule 585 = .ok (.iload_n 1, 1) := by decide +kernel
theorem dX13_rule_586 : decode cX13_rule 586 = .ok (.iaload, 1) := by decide +kernel
theorem dX13_rule_587 : decode cX13_rule 587 = .ok (.bipush 38, 2) := by decide +kernel
theorem dX13_rule_589 : decode cX13_rule 589 = .ok (.if_icmp .ne 7, 3) := by decide +kernel
theorem dX13_rule_592 : decode cX13_rule 592 = .ok (.iconst 1, 1) := by decide +kernel
theorem dX13_rule_593 : decode cX13_rule 593 = .ok (.goto 4, 3) := by decide +kernel
theorem dX13_rule_596 : decode cX13_rule 596 = .ok (.iload_n 3, 1) := by decide +kernel
theorem dX13_rule_597 : decode cX13_rule 597 = .ok (.ireturn, 1) := by decide +kernel
theorem dX13_rule_598 : decode cX13_rule 598 = .ok (.aload_n 0, 1) := by decide +kernel
theorem dX13_rule_599 : decode cX13_rule 599 = .ok (.iload_n 1, 1) := by decide +kernel
theorem dX13_rule_600 : decode cX13_rule 600 = .ok (.invokevirtual 579, 3) := by decide +kernel
theorem dX13_rule_603 : decode cX13_rule 603 = .ok (.ireturn, 1) := by decide +kernel
theorem dX13_rule_604 : decode cX13_rule 604 = .ok (.aload_n 0, 1) := by decide +kernel
theorem dX13_rule_605 : decode cX13_rule 605 = .ok (.aload_n 0, 1) := by decide +kernel
theorem dX13_rule_606 : decode cX13_rule 606 = .ok (.getfield 37, 3) := by decide +kernel
theorem dX13_rule_609 : decode cX13_rule 609 = .ok (.iload_n 1, 1) := by decide +kernel
theorem dX13_rule_610 : decode cX13_rule 610 = .ok (.iaload, 1) := by decide +kernel
theorem dX13_rule_611 : decode cX13_rule 611 = .ok (.invokevirtual 540, 3) := by decide +kernel
theorem dX13_rule_614 : decode cX13_rule 614 = .ok (.aload_n 0, 1) := by decide +kernel
theorem dX13_rule_615 : decode cX13_rule 615 = .ok (.aload_n 0, 1) := by decide +kernel
theorem dX13_rule_616 : decode cX13_rule 616 = .ok (.getfield 40, 3) := by decide +kernel
theorem dX13_rule_619 : decode cX13_rule 619 = .ok (.iload_n 1, 1) := by decide +kernel
theorem dX13_rule_620 : decode cX13_rule 620 = .ok (.iaload, 1) := by decide +kernel
theorem dX13_rule_621 : decode cX13_rule 621 = .ok (.invokevirtual 537, 3) := by decide +kernel
theorem dX13_rule_624 : decode cX13_rule 624 = .ok (.istore_n 2, 1) := by decide +kernel
theorem dX13_rule_625 : decode cX13_rule 625 = .ok (.aload_n 0, 1) := by decide +kernel
theorem dX13_rule_626 : decode cX13_rule 626 = .ok (.aload_n 0, 1) := by decide +kernel
theorem dX13_rule_627 : decode cX13_rule 627 = .ok (.getfield 43, 3) := by decide +kernel
theorem dX13_rule_630 : decode cX13_rule 630 = .ok (.iload_n 1, 1) := by decide +kernel
theorem dX13_rule_631 : decode cX13_rule 631 = .ok (.iaload, 1) := by decide +kernel
theorem dX13_rule_632 : decode cX13_rule 632 = .ok (.invokevirtual 537, 3) := by decide +kernel
theorem dX13_rule_635 : decode cX13_rule 635 = .ok (.istore_n 3, 1) := by decide +kernel
theorem dX13_rule_636 : decode cX13_rule 636 = .ok (.aload_n 0, 1) := by decide +kernel
theorem dX13_rule_637 : decode cX13_rule 637 = .ok (.iload_n 2, 1) := by decide +kernel
theorem dX13_rule_638 : decode cX13_rule 638 = .ok (.iload_n 3, 1) := by decide +kernel
theorem dX13_rule_639 : decode cX13_rule 639 = .ok (.invokevirtual 576, 3) := by decide +kernel
theorem dX13_rule_642 : decode cX13_rule 642 = .ok (.ifCond .ne 15, 3) := by decide +kernel
theorem dX13_rule_645 : decode cX13_rule 645 = .ok (.aload_n 0, 1) := by decide +kernel
theorem dX13_rule_646 : decode cX13_rule 646 = .ok (.bipush 6, 2) := by decide +kernel
theorem dX13_rule_648 : decode cX13_rule 648 = .ok (.aload_n 0, 1) := by decide +kernel
theorem dX13_rule_649 : decode cX13_rule 649 = .ok (.getfield 31, 3) := by decide +kernel
theorem dX13_rule_652 : decode cX13_rule 652 = .ok (.iload_n 1, 1) := by decide +kernel
theorem dX13_rule_653 : decode cX13_rule 653 = .ok (.iaload, 1) := by decide +kernel
theorem dX13_rule_654 : decode cX13_rule 654 = .ok (.invokevirtual 379, 3) := by decide +kernel
theorem dX13_rule_657 : decode cX13_rule 657 = .ok (.aload_n 0, 1) := by decide +kernel
theorem dX13_rule_658 : decode cX13_rule 658 = .ok (.iload_n 2, 1) := by decide +kernel
theorem dX13_rule_659 : decode cX13_rule 659 = .ok (.iload_n 3, 1) := by decide +kernel
theorem dX13_rule_660 : decode cX13_rule 660 = .ok (.invokevirtual 491, 3) := by decide +kernel
theorem dX13_rule_663 : decode cX13_rule 663 = .ok (.ifCond .eq 7, 3) := by decide +kernel
theorem dX13_rule_666 : decode cX13_rule 666 = .ok (.iload_n 3, 1) := by decide +kernel
theorem dX13_rule_667 : decode cX13_rule 667 = .ok (.goto 4, 3) := by decide +kernel
theorem dX13_rule_670 : decode cX13_rule 670 = .ok (.iload_n 2, 1) := by decide +kernel
theorem dX13_rule_671 : decode cX13_rule 671 = .ok (.ireturn, 1) := by decide +kernel
theorem dX13_worked_0 : decode cX13_worked 0 = .ok (.aload_n 0, 1) := by decide +kernel
theorem dX13_worked_1 : decode cX13_worked 1 = .ok (.getfield 319, 3) := by decide +kernel
theorem dX13_worked_4 : decode cX13_worked 4 = .ok (.ifCond .eq 5, 3) := by decide +kernel
theorem dX13_worked_7 : decode cX13_worked 7 = .ok (.iconst 0, 1) := by decide +kernel
theorem dX13_worked_8 : decode cX13_worked 8 = .ok (.ireturn, 1) := by decide +kernel
theorem dX13_worked_9 : decode cX13_worked 9 = .ok (.aload_n 0, 1) := by decide +kernel
theorem dX13_worked_10 : decode cX13_worked 10 = .ok (.getfield 525, 3) := by decide +kernel
theorem dX13_worked_13 : decode cX13_worked 13 = .ok (.istore_n 2, 1) := by decide +kernel
theorem dX13_worked_14 : decode cX13_worked 14 = .ok (.iload_n 1, 1) := by decide +kernel
theorem dX13_worked_15 : decode cX13_worked 15 = .ok (.istore_n 3, 1) := by decide +kernel
theorem dX13_worked_16 : decode cX13_worked 16 = .ok (.aload_n 0, 1) := by decide +kernel
theorem dX13_worked_17 : decode cX13_worked 17 = .ok (.iload_n 3, 1) := by decide +kernel
theorem dX13_worked_18 : decode cX13_worked 18 = .ok (.invokevirtual 555, 3) := by decide +kernel
theorem dX13_worked_21 : decode cX13_worked 21 = .ok (.ifCond .eq 33, 3) := by decide +kernel
theorem dX13_worked_24 : decode cX13_worked 24 = .ok (.aload_n 0, 1) := by decide +kernel
theorem dX13_worked_25 : decode cX13_worked 25 = .ok (.getfield 125, 3) := by decide +kernel
theorem dX13_worked_28 : decode cX13_worked 28 = .ok (.aload_n 0, 1) := by decide +kernel
theorem dX13_worked_29 : decode cX13_worked 29 = .ok (.getfield 525, 3) := by decide +kernel
theorem dX13_worked_32 : decode cX13_worked 32 = .ok (.iload_n 3, 1) := by decide +kernel
theorem dX13_worked_33 : decode cX13_worked 33 = .ok (.iastore, 1) := by decide +kernel
theorem dX13_worked_34 : decode cX13_worked 34 = .ok (.aload_n 0, 1) := by decide +kernel
theorem dX13_worked_35 : decode cX13_worked 35 = .ok (.dup, 1) := by decide +kernel
theorem dX13_worked_36 : decode cX13_worked 36 = .ok (.getfield 525, 3) := by decide +kernel
theorem dX13_worked_39 : decode cX13_worked 39 = .ok (.iconst 1, 1) := by decide +kernel
theorem dX13_worked_40 : decode cX13_worked 40 = .ok (.iadd, 1) := by decide +kernel
theorem dX13_worked_41 : decode cX13_worked 41 = .ok (.putfield 525, 3) := by decide +kernel
theorem dX13_worked_44 : decode cX13_worked 44 = .ok (.aload_n 0, 1) := by decide +kernel
theorem dX13_worked_45 : decode cX13_worked 45 = .ok (.getfield 37, 3) := by decide +kernel
theorem dX13_worked_48 : decode cX13_worked 48 = .ok (.iload_n 3, 1) := by decide +kernel
theorem dX13_worked_49 : decode cX13_worked 49 = .ok (.iaload, 1) := by decide +kernel
theorem dX13_worked_50 : decode cX13_worked 50 = .ok (.istore_n 3, 1) := by decide +kernel
theorem dX13_worked_51 : decode cX13_worked 51 = .ok (.goto (-35), 3) := by decide +kernel
theorem dX13_worked_54 : decode cX13_worked 54 = .ok (.aload_n 0, 1) := by decide +kernel
theorem dX13_worked_55 : decode cX13_worked 55 = .ok (.getfield 49, 3) := by decide +kernel
theorem dX13_worked_58 : decode cX13_worked 58 = .ok (.iload_n 3, 1) := by decide +kernel
theorem dX13_worked_59 : decode cX13_worked 59 = .ok (.aload_n 0, 1) := by decide +kernel
theorem dX13_worked_60 : decode cX13_worked 60 = .ok (.iload_n 3, 1) := by decide +kernel
theorem dX13_worked_61 : decode cX13_worked 61 = .ok (.invokevirtual 558, 3) := by decide +kernel
theorem dX13_worked_64 : decode cX13_worked 64 = .ok (.iastore, 1) := by decide +kernel
theorem dX13_worked_65 : decode cX13_worked 65 = .ok (.aload_n 0, 1) := by decide +kernel
theorem dX13_worked_66 : decode cX13_worked 66 = .ok (.getfield 525, 3) := by decide +kernel
theorem dX13_worked_69 : decode cX13_worked 69 = .ok (.iload_n 2, 1) := by decide +kernel
theorem dX13_worked_70 : decode cX13_worked 70 = .ok (.if_icmp .le 48, 3) := by decide +kernel
theorem dX13_worked_73 : decode cX13_worked 73 = .ok (.aload_n 0, 1) := by decide +kernel
theorem dX13_worked_74 : decode cX13_worked 74 = .ok (.dup, 1) := by decide +kernel
theorem dX13_worked_75 : decode cX13_worked 75 = .ok (.getfield 525, 3) := by decide +kernel
theorem dX13_worked_78 : decode cX13_worked 78 = .ok (.iconst 1, 1) := by decide +kernel
theorem dX13_worked_79 : decode cX13_worked 79 = .ok (.isub, 1) := by decide +kernel
theorem dX13_worked_80 : decode cX13_worked 80 = .ok (.putfield 525, 3) := by decide +kernel
theorem dX13_worked_83 : decode cX13_worked 83 = .ok (.aload_n 0, 1) := by decide +kernel
theorem dX13_worked_84 : decode cX13_worked 84 = .ok (.getfield 125, 3) := by decide +kernel
theorem dX13_worked_87 : decode cX13_worked 87 = .ok (.aload_n 0, 1) := by decide +kernel
theorem dX13_worked_88 : decode cX13_worked 88 = .ok (.getfield 525, 3) := by decide +kernel
theorem dX13_worked_91 : decode cX13_worked 91 = .ok (.iaload, 1) := by decide +kernel
theorem dX13_worked_92 : decode cX13_worked 92 = .ok (.istore_n 3, 1) := by decide +kernel
theorem dX13_worked_93 : decode cX13_worked 93 = .ok (.aload_n 0, 1) := by decide +kernel
theorem dX13_worked_94 : decode cX13_worked 94 = .ok (.getfield 49, 3) := by decide +kernel
theorem dX13_worked_97 : decode cX13_worked 97 = .ok (.iload_n 3, 1) := by decide +kernel
theorem dX13_worked_98 : decode cX13_worked 98 = .ok (.aload_n 0, 1) := by decide +kernel
theorem dX13_worked_99 : decode cX13_worked 99 = .ok (.getfield 319, 3) := by decide +kernel
theorem dX13_worked_102 : decode cX13_worked 102 = .ok (.ifCond .eq 7, 3) := by decide +kernel
theorem dX13_worked_105 : decode cX13_worked 105 = .ok (.iconst 0, 1) := by decide +kernel
theorem dX13_worked_106 : decode cX13_worked 106 = .ok (.goto 8, 3) := by decide +kernel
theorem dX13_worked_109 : decode cX13_worked 109 = .ok (.aload_n 0, 1) := by decide +kernel
theorem dX13_worked_110 : decode cX13_worked 110 = .ok (.iload_n 3, 1) := by decide +kernel
theorem dX13_worked_111 : decode cX13_worked 111 = .ok (.invokevirtual 558, 3) := by decide +kernel
theorem dX13_worked_114 : decode cX13_worked 114 = .ok (.iastore, 1) := by decide +kernel
theorem dX13_worked_115 : decode cX13_worked 115 = .ok (.goto (-50), 3) := by decide +kernel
theorem dX13_worked_118 : decode cX13_worked 118 = .ok (.aload_n 0, 1) := by decide +kernel
theorem dX13_worked_119 : decode cX13_worked 119 = .ok (.iload_n 2, 1) := by decide +kernel
theorem dX13_worked_120 : decode cX13_worked 120 = .ok (.putfield 525, 3) := by decide +kernel
theorem dX13_worked_123 : decode cX13_worked 123 = .ok (.aload_n 0, 1) := by decide +kernel
theorem dX13_worked_124 : decode cX13_worked 124 = .ok (.getfield 319, 3) := by decide +kernel
theorem dX13_worked_127 : decode cX13_worked 127 = .ok (.ifCond .eq 7, 3) := by decide +kernel
theorem dX13_worked_130 : decode cX13_worked 130 = .ok (.iconst 0, 1) := by decide +kernel
theorem dX13_worked_131 : decode cX13_worked 131 = .ok (.goto 9, 3) := by decide +kernel
theorem dX13_worked_134 : decode cX13_worked 134 = .ok (.aload_n 0, 1) := by decide +kernel
theorem dX13_worked_135 : decode cX13_worked 135 = .ok (.getfield 49, 3) := by decide +kernel
theorem dX13_worked_138 : decode cX13_worked 138 = .ok (.iload_n 1, 1) := by decide +kernel
theorem dX13_worked_139 : decode cX13_worked 139 = .ok (.iaload, 1) := by decide +kernel
theorem dX13_worked_140 : decode cX13_worked 140 = .ok (.ireturn, 1) := by decide +kernel
theorem mt_X13_given : mx_mt 436 = some (yX13_given, cX13_given, 3, (some .int)) := rfl
theorem mt_X13_worked : mx_mt 438 = some (yX13_worked, cX13_worked, 4, (some .int)) := rfl
theorem mt_X13_rule : mx_mt 441 = some (yX13_rule, cX13_rule, 4, (some .int)) := rfl
theorem mt_X13_both : mx_mt 443 = some (yX13_both, cX13_both, 7, (some .int)) := rfl
theorem mt_X13_invoked : mx_mt 446 = some (yX13_invoked, cX13_invoked, 6, (some .int)) := rfl
theorem mt_X13_called : mx_mt 447 = some (yX13_called, cX13_called, 8, (some .int)) := rfl
