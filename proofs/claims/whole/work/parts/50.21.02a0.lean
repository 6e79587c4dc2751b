theorem rs_RX1_90 : mx_res RX1 90 = some (1, 35, 2) := by decide +kernel
theorem rs_RX1_104 : mx_res RX1 104 = some (1, 29, 1) := by decide +kernel
theorem rs_RX1_107 : mx_res RX1 107 = some (1, 37, 1) := by decide +kernel
theorem mt_X1_truth : mx_mt 39 = some (yX1_truth, cX1_truth, 5, none) := rfl
theorem dX1_truth_0 : decode cX1_truth 0 = .ok (.aload_n 0, 1) := by decide +kernel
theorem dX1_truth_1 : decode cX1_truth 1 = .ok (.iload_n 1, 1) := by decide +kernel
theorem dX1_truth_2 : decode cX1_truth 2 = .ok (.iload_n 2, 1) := by decide +kernel
theorem dX1_truth_3 : decode cX1_truth 3 = .ok (.invokevirtual 90, 3) := by decide +kernel
theorem dX1_truth_6 : decode cX1_truth 6 = .ok (.istore_n 3, 1) := by decide +kernel
theorem dX1_truth_7 : decode cX1_truth 7 = .ok (.aload_n 0, 1) := by decide +kernel
theorem dX1_truth_8 : decode cX1_truth 8 = .ok (.sipush 302, 3) := by decide +kernel
theorem dX1_truth_11 : decode cX1_truth 11 = .ok (.invokevirtual 104, 3) := by decide +kernel
theorem dX1_truth_14 : decode cX1_truth 14 = .ok (.aload_n 0, 1) := by decide +kernel
theorem dX1_truth_15 : decode cX1_truth 15 = .ok (.iconst 3, 1) := by decide +kernel
theorem dX1_truth_16 : decode cX1_truth 16 = .ok (.invokevirtual 65, 3) := by decide +kernel
theorem dX1_truth_19 : decode cX1_truth 19 = .ok (.aload_n 0, 1) := by decide +kernel
theorem dX1_truth_20 : decode cX1_truth 20 = .ok (.sipush 167, 3) := by decide +kernel
theorem dX1_truth_23 : decode cX1_truth 23 = .ok (.iconst 0, 1) := by decide +kernel
theorem dX1_truth_24 : decode cX1_truth 24 = .ok (.invokevirtual 90, 3) := by decide +kernel
theorem dX1_truth_27 : decode cX1_truth 27 = .ok (.istore 4, 2) := by decide +kernel
theorem dX1_truth_29 : decode cX1_truth 29 = .ok (.aload_n 0, 1) := by decide +kernel
theorem dX1_truth_30 : decode cX1_truth 30 = .ok (.iconst 1, 1) := by decide +kernel
theorem dX1_truth_31 : decode cX1_truth 31 = .ok (.invokevirtual 87, 3) := by decide +kernel
theorem dX1_truth_34 : decode cX1_truth 34 = .ok (.aload_n 0, 1) := by decide +kernel
theorem dX1_truth_35 : decode cX1_truth 35 = .ok (.iload_n 3, 1) := by decide +kernel
theorem dX1_truth_36 : decode cX1_truth 36 = .ok (.invokevirtual 107, 3) := by decide +kernel
theorem dX1_truth_39 : decode cX1_truth 39 = .ok (.aload_n 0, 1) := by decide +kernel
theorem dX1_truth_40 : decode cX1_truth 40 = .ok (.sipush 302, 3) := by decide +kernel
theorem dX1_truth_43 : decode cX1_truth 43 = .ok (.invokevirtual 104, 3) := by decide +kernel
theorem dX1_truth_46 : decode cX1_truth 46 = .ok (.aload_n 0, 1) := by decide +kernel
theorem dX1_truth_47 : decode cX1_truth 47 = .ok (.iconst 4, 1) := by decide +kernel
theorem dX1_truth_48 : decode cX1_truth 48 = .ok (.invokevirtual 65, 3) := by decide +kernel
theorem dX1_truth_51 : decode cX1_truth 51 = .ok (.aload_n 0, 1) := by decide +kernel
theorem dX1_truth_52 : decode cX1_truth 52 = .ok (.iload 4, 2) := by decide +kernel
theorem dX1_truth_54 : decode cX1_truth 54 = .ok (.invokevirtual 107, 3) := by decide +kernel
theorem dX1_truth_57 : decode cX1_truth 57 = .ok (.return_, 1) := by decide +kernel
theorem mt_X9_level : mx_mt 267 = some (yX9_level, cX9_level, 1, (some .int)) := rfl
theorem dX9_level_0 : decode cX9_level 0 = .ok (.iload_n 0, 1) := by decide +kernel
theorem dX9_level_1 : decode cX9_level 1 = .ok (.tableswitch 248 19 70 #[236, 248, 248, 248, 248, 248, 248, 248, 248, 248, 248, 248, 248, 248, 248, 248, 248, 248, 248, 248, 248, 248, 248, 248, 248, 248, 248, 248, 248, 248, 248, 248, 248, 233, 233, 236, 236, 236, 236, 239, 239, 239, 242, 242, 245, 245, 245, 231, 225, 227, 223, 229], 223) := by decide +kernel
theorem dX9_level_224 : decode cX9_level 224 = .ok (.iconst 1, 1) := by decide +kernel
theorem dX9_level_225 : decode cX9_level 225 = .ok (.ireturn, 1) := by decide +kernel
theorem dX9_level_226 : decode cX9_level 226 = .ok (.iconst 2, 1) := by decide +kernel
theorem dX9_level_227 : decode cX9_level 227 = .ok (.ireturn, 1) := by decide +kernel
theorem dX9_level_228 : decode cX9_level 228 = .ok (.iconst 3, 1) := by decide +kernel
theorem dX9_level_229 : decode cX9_level 229 = .ok (.ireturn, 1) := by decide +kernel
theorem dX9_level_230 : decode cX9_level 230 = .ok (.iconst 4, 1) := by decide +kernel
theorem dX9_level_231 : decode cX9_level 231 = .ok (.ireturn, 1) := by decide +kernel
theorem dX9_level_232 : decode cX9_level 232 = .ok (.iconst 5, 1) := by decide +kernel
theorem dX9_level_233 : decode cX9_level 233 = .ok (.ireturn, 1) := by decide +kernel
theorem dX9_level_234 : decode cX9_level 234 = .ok (.bipush 6, 2) := by decide +kernel
theorem dX9_level_236 : decode cX9_level 236 = .ok (.ireturn, 1) := by decide +kernel
theorem dX9_level_237 : decode cX9_level 237 = .ok (.bipush 7, 2) := by decide +kernel
theorem dX9_level_239 : decode cX9_level 239 = .ok (.ireturn, 1) := by decide +kernel
theorem dX9_level_240 : decode cX9_level 240 = .ok (.bipush 8, 2) := by decide +kernel
theorem dX9_level_242 : decode cX9_level 242 = .ok (.ireturn, 1) := by decide +kernel
theorem dX9_level_243 : decode cX9_level 243 = .ok (.bipush 9, 2) := by decide +kernel
theorem dX9_level_245 : decode cX9_level 245 = .ok (.ireturn, 1) := by decide +kernel
theorem dX9_level_246 : decode cX9_level 246 = .ok (.bipush 10, 2) := by decide +kernel
theorem dX9_level_248 : decode cX9_level 248 = .ok (.ireturn, 1) := by decide +kernel
theorem dX9_level_249 : decode cX9_level 249 = .ok (.iconst 0, 1) := by decide +kernel
theorem dX9_level_250 : decode cX9_level 250 = .ok (.ireturn, 1) := by decide +kernel
theorem rs_RX10_15 : mx_res RX10 15 = some (0, 10, 5) := by decide +kernel
theorem rs_RX10_19 : mx_res RX10 19 = some (0, 10, 6) := by decide +kernel
theorem rs_RX10_22 : mx_res RX10 22 = some (0, 10, 7) := by decide +kernel
theorem rs_RX10_25 : mx_res RX10 25 = some (0, 10, 8) := by decide +kernel
theorem rs_RX10_28 : mx_res RX10 28 = some (0, 10, 9) := by decide +kernel
theorem rs_RX10_65 : mx_res RX10 65 = some (0, 10, 10) := by decide +kernel
theorem rs_RX10_97 : mx_res RX10 97 = some (2, 267, 1) := by decide +kernel
theorem rs_RX10_124 : mx_res RX10 124 = some (1, 277, 2) := by decide +kernel
theorem rs_RX10_133 : mx_res RX10 133 = some (0, 10, 11) := by decide +kernel
theorem rs_RX10_149 : mx_res RX10 149 = some (1, 282, 2) := by decide +kernel
theorem rs_RX10_152 : mx_res RX10 152 = some (2, 283, 2) := by decide +kernel
theorem rs_RX10_156 : mx_res RX10 156 = some (1, 39, 2) := by decide +kernel
theorem rs_RX10_159 : mx_res RX10 159 = some (2, 284, 1) := by decide +kernel
theorem ft_10_10 : mx_fty 10 10 = some (.int, false, "ClassMill$Values") := by decide +kernel
theorem ft_10_11 : mx_fty 10 11 = some (.int, false, "ClassMill$Values") := by decide +kernel
theorem ft_10_15 : mx_fty 10 15 = some (.int, false, "ClassMill$Values") := by decide +kernel
theorem mt_X10_closeSign : mx_mt 280 = some (yX10_closeSign, cX10_closeSign, 4, none) := rfl
theorem dX10_closeSign_0 : decode cX10_closeSign 0 = .ok (.aload_n 0, 1) := by decide +kernel
theorem dX10_closeSign_1 : decode cX10_closeSign 1 = .ok (.dup, 1) := by decide +kernel
theorem dX10_closeSign_2 : decode cX10_closeSign 2 = .ok (.getfield 65, 3) := by decide +kernel
theorem dX10_closeSign_5 : decode cX10_closeSign 5 = .ok (.iconst 1, 1) := by decide +kernel
theorem dX10_closeSign_6 : decode cX10_closeSign 6 = .ok (.isub, 1) := by decide +kernel
theorem dX10_closeSign_7 : decode cX10_closeSign 7 = .ok (.putfield 65, 3) := by decide +kernel
theorem dX10_closeSign_10 : decode cX10_closeSign 10 = .ok (.aload_n 0, 1) := by decide +kernel
theorem dX10_closeSign_11 : decode cX10_closeSign 11 = .ok (.getfield 15, 3) := by decide +kernel
theorem dX10_closeSign_14 : decode cX10_closeSign 14 = .ok (.aload_n 0, 1) := by decide +kernel
theorem dX10_closeSign_15 : decode cX10_closeSign 15 = .ok (.getfield 65, 3) := by decide +kernel
theorem dX10_closeSign_18 : decode cX10_closeSign 18 = .ok (.iaload, 1) := by decide +kernel
theorem dX10_closeSign_19 : decode cX10_closeSign 19 = .ok (.istore_n 1, 1) := by decide +kernel
theorem dX10_closeSign_20 : decode cX10_closeSign 20 = .ok (.aload_n 0, 1) := by decide +kernel
theorem dX10_closeSign_21 : decode cX10_closeSign 21 = .ok (.getfield 25, 3) := by decide +kernel
theorem dX10_closeSign_24 : decode cX10_closeSign 24 = .ok (.aload_n 0, 1) := by decide +kernel
theorem dX10_closeSign_25 : decode cX10_closeSign 25 = .ok (.getfield 65, 3) := by decide +kernel
theorem dX10_closeSign_28 : decode cX10_closeSign 28 = .ok (.iaload, 1) := by decide +kernel
theorem dX10_closeSign_29 : decode cX10_closeSign 29 = .ok (.istore_n 2, 1) := by decide +kernel
theorem dX10_closeSign_30 : decode cX10_closeSign 30 = .ok (.iload_n 1, 1) := by decide +kernel
theorem dX10_closeSign_31 : decode cX10_closeSign 31 = .ok (.bipush 67, 2) := by decide +kernel
theorem dX10_closeSign_33 : decode cX10_closeSign 33 = .ok (.if_icmp .eq 9, 3) := by decide +kernel
theorem dX10_closeSign_36 : decode cX10_closeSign 36 = .ok (.iload_n 1, 1) := by decide +kernel
theorem dX10_closeSign_37 : decode cX10_closeSign 37 = .ok (.bipush 69, 2) := by decide +kernel
theorem dX10_closeSign_39 : decode cX10_closeSign 39 = .ok (.if_icmp .ne 20, 3) := by decide +kernel
theorem dX10_closeSign_42 : decode cX10_closeSign 42 = .ok (.aload_n 0, 1) := by decide +kernel
theorem dX10_closeSign_43 : decode cX10_closeSign 43 = .ok (.iload_n 1, 1) := by decide +kernel
theorem dX10_closeSign_44 : decode cX10_closeSign 44 = .ok (.aload_n 0, 1) := by decide +kernel
theorem dX10_closeSign_45 : decode cX10_closeSign 45 = .ok (.getfield 28, 3) := by decide +kernel
theorem dX10_closeSign_48 : decode cX10_closeSign 48 = .ok (.aload_n 0, 1) := by decide +kernel
theorem dX10_closeSign_49 : decode cX10_closeSign 49 = .ok (.getfield 65, 3) := by decide +kernel
theorem dX10_closeSign_52 : decode cX10_closeSign 52 = .ok (.iaload, 1) := by decide +kernel
theorem dX10_closeSign_53 : decode cX10_closeSign 53 = .ok (.invokevirtual 149, 3) := by decide +kernel
theorem dX10_closeSign_56 : decode cX10_closeSign 56 = .ok (.goto 237, 3) := by decide +kernel
theorem dX10_closeSign_59 : decode cX10_closeSign 59 = .ok (.iload_n 1, 1) := by decide +kernel
theorem dX10_closeSign_60 : decode cX10_closeSign 60 = .ok (.bipush 52, 2) := by decide +kernel
theorem dX10_closeSign_62 : decode cX10_closeSign 62 = .ok (.if_icmp .eq 9, 3) := by decide +kernel
theorem dX10_closeSign_65 : decode cX10_closeSign 65 = .ok (.iload_n 1, 1) := by decide +kernel
theorem dX10_closeSign_66 : decode cX10_closeSign 66 = .ok (.bipush 53, 2) := by decide +kernel
theorem dX10_closeSign_68 : decode cX10_closeSign 68 = .ok (.if_icmp .ne 54, 3) := by decide +kernel
theorem dX10_closeSign_71 : decode cX10_closeSign 71 = .ok (.aload_n 0, 1) := by decide +kernel
theorem dX10_closeSign_72 : decode cX10_closeSign 72 = .ok (.aload_n 0, 1) := by decide +kernel
theorem dX10_closeSign_73 : decode cX10_closeSign 73 = .ok (.iload_n 2, 1) := by decide +kernel
theorem dX10_closeSign_74 : decode cX10_closeSign 74 = .ok (.aload_n 0, 1) := by decide +kernel
theorem dX10_closeSign_75 : decode cX10_closeSign 75 = .ok (.getfield 75, 3) := by decide +kernel
theorem dX10_closeSign_78 : decode cX10_closeSign 78 = .ok (.invokevirtual 124, 3) := by decide +kernel
theorem dX10_closeSign_81 : decode cX10_closeSign 81 = .ok (.aload_n 0, 1) := by decide +kernel
theorem dX10_closeSign_82 : decode cX10_closeSign 82 = .ok (.getfield 19, 3) := by decide +kernel
theorem dX10_closeSign_85 : decode cX10_closeSign 85 = .ok (.aload_n 0, 1) := by decide +kernel
theorem dX10_closeSign_86 : decode cX10_closeSign 86 = .ok (.getfield 65, 3) := by decide +kernel
theorem dX10_closeSign_89 : decode cX10_closeSign 89 = .ok (.iaload, 1) := by decide +kernel
theorem dX10_closeSign_90 : decode cX10_closeSign 90 = .ok (.invokevirtual 80, 3) := by decide +kernel
theorem dX10_closeSign_93 : decode cX10_closeSign 93 = .ok (.aload_n 0, 1) := by decide +kernel
theorem dX10_closeSign_94 : decode cX10_closeSign 94 = .ok (.getfield 46, 3) := by decide +kernel
theorem dX10_closeSign_97 : decode cX10_closeSign 97 = .ok (.iload_n 1, 1) := by decide +kernel
theorem dX10_closeSign_98 : decode cX10_closeSign 98 = .ok (.aload_n 0, 1) := by decide +kernel
theorem dX10_closeSign_99 : decode cX10_closeSign 99 = .ok (.getfield 75, 3) := by decide +kernel
theorem dX10_closeSign_102 : decode cX10_closeSign 102 = .ok (.invokestatic 143, 3) := by decide +kernel
theorem dX10_closeSign_105 : decode cX10_closeSign 105 = .ok (.invokestatic 152, 3) := by decide +kernel
theorem dX10_closeSign_108 : decode cX10_closeSign 108 = .ok (.iconst 2, 1) := by decide +kernel
theorem dX10_closeSign_109 : decode cX10_closeSign 109 = .ok (.invokevirtual 156, 3) := by decide +kernel
theorem dX10_closeSign_112 : decode cX10_closeSign 112 = .ok (.aload_n 0, 1) := by decide +kernel
theorem dX10_closeSign_113 : decode cX10_closeSign 113 = .ok (.sipush 302, 3) := by decide +kernel
theorem dX10_closeSign_116 : decode cX10_closeSign 116 = .ok (.putfield 75, 3) := by decide +kernel
theorem dX10_closeSign_119 : decode cX10_closeSign 119 = .ok (.goto 174, 3) := by decide +kernel
theorem dX10_closeSign_122 : decode cX10_closeSign 122 = .ok (.iload_n 1, 1) := by decide +kernel
theorem dX10_closeSign_123 : decode cX10_closeSign 123 = .ok (.invokestatic 97, 3) := by decide +kernel
theorem dX10_closeSign_126 : decode cX10_closeSign 126 = .ok (.bipush 7, 2) := by decide +kernel
theorem dX10_closeSign_128 : decode cX10_closeSign 128 = .ok (.if_icmp .ne 61, 3) := by decide +kernel
theorem dX10_closeSign_131 : decode cX10_closeSign 131 = .ok (.aload_n 0, 1) := by decide +kernel
theorem dX10_closeSign_132 : decode cX10_closeSign 132 = .ok (.iload_n 2, 1) := by decide +kernel
theorem dX10_closeSign_133 : decode cX10_closeSign 133 = .ok (.sipush 301, 3) := by decide +kernel
theorem dX10_closeSign_136 : decode cX10_closeSign 136 = .ok (.if_icmp .ne 17, 3) := by decide +kernel
theorem dX10_closeSign_139 : decode cX10_closeSign 139 = .ok (.aload_n 0, 1) := by decide +kernel
theorem dX10_closeSign_140 : decode cX10_closeSign 140 = .ok (.getfield 75, 3) := by decide +kernel
theorem dX10_closeSign_143 : decode cX10_closeSign 143 = .ok (.sipush 301, 3) := by decide +kernel
theorem dX10_closeSign_146 : decode cX10_closeSign 146 = .ok (.if_icmp .ne 7, 3) := by decide +kernel
theorem dX10_closeSign_149 : decode cX10_closeSign 149 = .ok (.iconst 1, 1) := by decide +kernel
theorem dX10_closeSign_150 : decode cX10_closeSign 150 = .ok (.goto 4, 3) := by decide +kernel
theorem dX10_closeSign_153 : decode cX10_closeSign 153 = .ok (.iconst 0, 1) := by decide +kernel
theorem dX10_closeSign_154 : decode cX10_closeSign 154 = .ok (.aload_n 0, 1) := by decide +kernel
theorem dX10_closeSign_155 : decode cX10_closeSign 155 = .ok (.getfield 19, 3) := by decide +kernel
theorem dX10_closeSign_158 : decode cX10_closeSign 158 = .ok (.aload_n 0, 1) := by decide +kernel
theorem dX10_closeSign_159 : decode cX10_closeSign 159 = .ok (.getfield 65, 3) := by decide +kernel
theorem dX10_closeSign_162 : decode cX10_closeSign 162 = .ok (.iaload, 1) := by decide +kernel
theorem dX10_closeSign_163 : decode cX10_closeSign 163 = .ok (.invokevirtual 80, 3) := by decide +kernel
theorem dX10_closeSign_166 : decode cX10_closeSign 166 = .ok (.aload_n 0, 1) := by decide +kernel
theorem dX10_closeSign_167 : decode cX10_closeSign 167 = .ok (.getfield 46, 3) := by decide +kernel
theorem dX10_closeSign_170 : decode cX10_closeSign 170 = .ok (.iload_n 1, 1) := by decide +kernel
theorem dX10_closeSign_171 : decode cX10_closeSign 171 = .ok (.iconst 1, 1) := by decide +kernel
theorem dX10_closeSign_172 : decode cX10_closeSign 172 = .ok (.invokestatic 152, 3) := by decide +kernel
theorem dX10_closeSign_175 : decode cX10_closeSign 175 = .ok (.iconst 2, 1) := by decide +kernel
theorem dX10_closeSign_176 : decode cX10_closeSign 176 = .ok (.invokevirtual 156, 3) := by decide +kernel
theorem dX10_closeSign_179 : decode cX10_closeSign 179 = .ok (.aload_n 0, 1) := by decide +kernel
theorem dX10_closeSign_180 : decode cX10_closeSign 180 = .ok (.sipush 302, 3) := by decide +kernel
theorem dX10_closeSign_183 : decode cX10_closeSign 183 = .ok (.putfield 75, 3) := by decide +kernel
theorem dX10_closeSign_186 : decode cX10_closeSign 186 = .ok (.goto 107, 3) := by decide +kernel
theorem dX10_closeSign_189 : decode cX10_closeSign 189 = .ok (.iload_n 1, 1) := by decide +kernel
theorem dX10_closeSign_190 : decode cX10_closeSign 190 = .ok (.bipush 66, 2) := by decide +kernel
theorem dX10_closeSign_192 : decode cX10_closeSign 192 = .ok (.if_icmp .eq 15, 3) := by decide +kernel
theorem dX10_closeSign_195 : decode cX10_closeSign 195 = .ok (.iload_n 1, 1) := by decide +kernel
theorem dX10_closeSign_196 : decode cX10_closeSign 196 = .ok (.bipush 68, 2) := by decide +kernel
theorem dX10_closeSign_198 : decode cX10_closeSign 198 = .ok (.if_icmp .eq 9, 3) := by decide +kernel
theorem dX10_closeSign_201 : decode cX10_closeSign 201 = .ok (.iload_n 1, 1) := by decide +kernel
theorem dX10_closeSign_202 : decode cX10_closeSign 202 = .ok (.bipush 70, 2) := by decide +kernel
theorem dX10_closeSign_204 : decode cX10_closeSign 204 = .ok (.if_icmp .ne 7, 3) := by decide +kernel
theorem dX10_closeSign_207 : decode cX10_closeSign 207 = .ok (.iconst 1, 1) := by decide +kernel
theorem dX10_closeSign_208 : decode cX10_closeSign 208 = .ok (.goto 4, 3) := by decide +kernel
theorem dX10_closeSign_211 : decode cX10_closeSign 211 = .ok (.iconst 0, 1) := by decide +kernel
theorem dX10_closeSign_212 : decode cX10_closeSign 212 = .ok (.istore_n 3, 1) := by decide +kernel
theorem dX10_closeSign_213 : decode cX10_closeSign 213 = .ok (.aload_n 0, 1) := by decide +kernel
theorem dX10_closeSign_214 : decode cX10_closeSign 214 = .ok (.iload_n 2, 1) := by decide +kernel
theorem dX10_closeSign_215 : decode cX10_closeSign 215 = .ok (.aload_n 0, 1) := by decide +kernel
theorem dX10_closeSign_216 : decode cX10_closeSign 216 = .ok (.getfield 75, 3) := by decide +kernel
theorem dX10_closeSign_219 : decode cX10_closeSign 219 = .ok (.if_icmp .ne 31, 3) := by decide +kernel
theorem dX10_closeSign_222 : decode cX10_closeSign 222 = .ok (.aload_n 0, 1) := by decide +kernel
theorem dX10_closeSign_223 : decode cX10_closeSign 223 = .ok (.getfield 75, 3) := by decide +kernel
theorem dX10_closeSign_226 : decode cX10_closeSign 226 = .ok (.sipush 301, 3) := by decide +kernel
theorem dX10_closeSign_229 : decode cX10_closeSign 229 = .ok (.if_icmp .eq 17, 3) := by decide +kernel
theorem dX10_closeSign_232 : decode cX10_closeSign 232 = .ok (.iload_n 3, 1) := by decide +kernel
theorem dX10_closeSign_233 : decode cX10_closeSign 233 = .ok (.ifCond .eq 17, 3) := by decide +kernel
theorem dX10_closeSign_236 : decode cX10_closeSign 236 = .ok (.aload_n 0, 1) := by decide +kernel
theorem dX10_closeSign_237 : decode cX10_closeSign 237 = .ok (.getfield 75, 3) := by decide +kernel
theorem dX10_closeSign_240 : decode cX10_closeSign 240 = .ok (.sipush 302, 3) := by decide +kernel
theorem dX10_closeSign_243 : decode cX10_closeSign 243 = .ok (.if_icmp .ne 7, 3) := by decide +kernel
theorem dX10_closeSign_246 : decode cX10_closeSign 246 = .ok (.iconst 1, 1) := by decide +kernel
theorem dX10_closeSign_247 : decode cX10_closeSign 247 = .ok (.goto 4, 3) := by decide +kernel
theorem dX10_closeSign_250 : decode cX10_closeSign 250 = .ok (.iconst 0, 1) := by decide +kernel
theorem dX10_closeSign_251 : decode cX10_closeSign 251 = .ok (.aload_n 0, 1) := by decide +kernel
theorem dX10_closeSign_252 : decode cX10_closeSign 252 = .ok (.getfield 19, 3) := by decide +kernel
theorem dX10_closeSign_255 : decode cX10_closeSign 255 = .ok (.aload_n 0, 1) := by decide +kernel
theorem dX10_closeSign_256 : decode cX10_closeSign 256 = .ok (.getfield 65, 3) := by decide +kernel
theorem dX10_closeSign_259 : decode cX10_closeSign 259 = .ok (.iaload, 1) := by decide +kernel
theorem dX10_closeSign_260 : decode cX10_closeSign 260 = .ok (.invokevirtual 80, 3) := by decide +kernel
theorem dX10_closeSign_263 : decode cX10_closeSign 263 = .ok (.aload_n 0, 1) := by decide +kernel
theorem dX10_closeSign_264 : decode cX10_closeSign 264 = .ok (.getfield 46, 3) := by decide +kernel
theorem dX10_closeSign_267 : decode cX10_closeSign 267 = .ok (.iload_n 1, 1) := by decide +kernel
theorem dX10_closeSign_268 : decode cX10_closeSign 268 = .ok (.invokestatic 159, 3) := by decide +kernel
theorem dX10_closeSign_271 : decode cX10_closeSign 271 = .ok (.invokevirtual 162, 3) := by decide +kernel
theorem dX10_closeSign_274 : decode cX10_closeSign 274 = .ok (.aload_n 0, 1) := by decide +kernel
theorem dX10_closeSign_275 : decode cX10_closeSign 275 = .ok (.getfield 46, 3) := by decide +kernel
theorem dX10_closeSign_278 : decode cX10_closeSign 278 = .ok (.iconst 2, 1) := by decide +kernel
theorem dX10_closeSign_279 : decode cX10_closeSign 279 = .ok (.invokevirtual 118, 3) := by decide +kernel
theorem dX10_closeSign_282 : decode cX10_closeSign 282 = .ok (.aload_n 0, 1) := by decide +kernel
theorem dX10_closeSign_283 : decode cX10_closeSign 283 = .ok (.getfield 46, 3) := by decide +kernel
theorem dX10_closeSign_286 : decode cX10_closeSign 286 = .ok (.aload_n 0, 1) := by decide +kernel
theorem dX10_closeSign_287 : decode cX10_closeSign 287 = .ok (.getfield 75, 3) := by decide +kernel
theorem dX10_closeSign_290 : decode cX10_closeSign 290 = .ok (.invokevirtual 130, 3) := by decide +kernel
theorem dX10_closeSign_293 : decode cX10_closeSign 293 = .ok (.aload_n 0, 1) := by decide +kernel
theorem dX10_closeSign_294 : decode cX10_closeSign 294 = .ok (.aload_n 0, 1) := by decide +kernel
theorem dX10_closeSign_295 : decode cX10_closeSign 295 = .ok (.getfield 22, 3) := by decide +kernel
theorem dX10_closeSign_298 : decode cX10_closeSign 298 = .ok (.aload_n 0, 1) := by decide +kernel
theorem dX10_closeSign_299 : decode cX10_closeSign 299 = .ok (.getfield 65, 3) := by decide +kernel
theorem dX10_closeSign_302 : decode cX10_closeSign 302 = .ok (.iaload, 1) := by decide +kernel
theorem dX10_closeSign_303 : decode cX10_closeSign 303 = .ok (.putfield 146, 3) := by decide +kernel
theorem dX10_closeSign_306 : decode cX10_closeSign 306 = .ok (.aload_n 0, 1) := by decide +kernel
theorem dX10_closeSign_307 : decode cX10_closeSign 307 = .ok (.iconst 0, 1) := by decide +kernel
theorem dX10_closeSign_308 : decode cX10_closeSign 308 = .ok (.putfield 133, 3) := by decide +kernel
theorem dX10_closeSign_311 : decode cX10_closeSign 311 = .ok (.return_, 1) := by decide +kernel
theorem mt_X10_isSignDue : mx_mt 279 = some (yX10_isSignDue, cX10_isSignDue, 3, (some .boolean)) := rfl
theorem dX10_isSignDue_0 : decode cX10_isSignDue 0 = .ok (.aload_n 0, 1) := by decide +kernel
theorem dX10_isSignDue_1 : decode cX10_isSignDue 1 = .ok (.getfield 65, 3) := by decide +kernel
theorem dX10_isSignDue_4 : decode cX10_isSignDue 4 = .ok (.iload_n 1, 1) := by decide +kernel
theorem dX10_isSignDue_5 : decode cX10_isSignDue 5 = .ok (.if_icmp .le 25, 3) := by decide +kernel
theorem dX10_isSignDue_8 : decode cX10_isSignDue 8 = .ok (.aload_n 0, 1) := by decide +kernel
theorem dX10_isSignDue_9 : decode cX10_isSignDue 9 = .ok (.getfield 15, 3) := by decide +kernel
theorem dX10_isSignDue_12 : decode cX10_isSignDue 12 = .ok (.aload_n 0, 1) := by decide +kernel
theorem dX10_isSignDue_13 : decode cX10_isSignDue 13 = .ok (.getfield 65, 3) := by decide +kernel
theorem dX10_isSignDue_16 : decode cX10_isSignDue 16 = .ok (.iconst 1, 1) := by decide +kernel
theorem dX10_isSignDue_17 : decode cX10_isSignDue 17 = .ok (.isub, 1) := by decide +kernel
theorem dX10_isSignDue_18 : decode cX10_isSignDue 18 = .ok (.iaload, 1) := by decide +kernel
theorem dX10_isSignDue_19 : decode cX10_isSignDue 19 = .ok (.invokestatic 97, 3) := by decide +kernel
theorem dX10_isSignDue_22 : decode cX10_isSignDue 22 = .ok (.iload_n 2, 1) := by decide +kernel
theorem dX10_isSignDue_23 : decode cX10_isSignDue 23 = .ok (.if_icmp .lt 7, 3) := by decide +kernel
theorem dX10_isSignDue_26 : decode cX10_isSignDue 26 = .ok (.iconst 1, 1) := by decide +kernel
theorem dX10_isSignDue_27 : decode cX10_isSignDue 27 = .ok (.goto 4, 3) := by decide +kernel
theorem dX10_isSignDue_30 : decode cX10_isSignDue 30 = .ok (.iconst 0, 1) := by decide +kernel
theorem dX10_isSignDue_31 : decode cX10_isSignDue 31 = .ok (.ireturn, 1) := by decide +kernel
theorem rs_RX9_15 : mx_res RX9 15 = some (0, 9, 0) := by decide +kernel
theorem rs_RX9_86 : mx_res RX9 86 = some (0, 9, 10) := by decide +kernel
theorem mt_X9_kind : mx_mt 249 = some (yX9_kind, cX9_kind, 1, (some .int)) := rfl
theorem dX9_kind_0 : decode cX9_kind 0 = .ok (.aload_n 0, 1) := by decide +kernel
theorem dX9_kind_1 : decode cX9_kind 1 = .ok (.getfield 80, 3) := by decide +kernel
theorem dX9_kind_4 : decode cX9_kind 4 = .ok (.ifCond .ne 33, 3) := by decide +kernel
theorem dX9_kind_7 : decode cX9_kind 7 = .ok (.aload_n 0, 1) := by decide +kernel
theorem dX9_kind_8 : decode cX9_kind 8 = .ok (.getfield 86, 3) := by decide +kernel
theorem dX9_kind_11 : decode cX9_kind 11 = .ok (.ifCond .lt 26, 3) := by decide +kernel
theorem dX9_kind_14 : decode cX9_kind 14 = .ok (.aload_n 0, 1) := by decide +kernel
theorem dX9_kind_15 : decode cX9_kind 15 = .ok (.getfield 86, 3) := by decide +kernel
theorem dX9_kind_18 : decode cX9_kind 18 = .ok (.aload_n 0, 1) := by decide +kernel
theorem dX9_kind_19 : decode cX9_kind 19 = .ok (.getfield 83, 3) := by decide +kernel
theorem dX9_kind_22 : decode cX9_kind 22 = .ok (.if_icmp .ge 15, 3) := by decide +kernel
theorem dX9_kind_25 : decode cX9_kind 25 = .ok (.aload_n 0, 1) := by decide +kernel
theorem dX9_kind_26 : decode cX9_kind 26 = .ok (.getfield 15, 3) := by decide +kernel
theorem dX9_kind_29 : decode cX9_kind 29 = .ok (.aload_n 0, 1) := by decide +kernel
theorem dX9_kind_30 : decode cX9_kind 30 = .ok (.getfield 86, 3) := by decide +kernel
theorem dX9_kind_33 : decode cX9_kind 33 = .ok (.iaload, 1) := by decide +kernel
theorem dX9_kind_34 : decode cX9_kind 34 = .ok (.goto 4, 3) := by decide +kernel
theorem dX9_kind_37 : decode cX9_kind 37 = .ok (.iconst 0, 1) := by decide +kernel
theorem dX9_kind_38 : decode cX9_kind 38 = .ok (.ireturn, 1) := by decide +kernel
theorem rs_RX10_72 : mx_res RX10 72 = some (0, 9, 10) := by decide +kernel
theorem rs_RX10_93 : mx_res RX10 93 = some (1, 249, 0) := by decide +kernel
theorem ft_9_10 : mx_fty 9 10 = some (.int, false, "ClassMill$Text") := by decide +kernel
theorem mt_X10_openSign : mx_mt 278 = some (yX10_openSign, cX10_openSign, 2, none) := rfl
theorem dX10_openSign_0 : decode cX10_openSign 0 = .ok (.aload_n 0, 1) := by decide +kernel
theorem dX10_openSign_1 : decode cX10_openSign 1 = .ok (.getfield 31, 3) := by decide +kernel
theorem dX10_openSign_4 : decode cX10_openSign 4 = .ok (.invokevirtual 93, 3) := by decide +kernel
theorem dX10_openSign_7 : decode cX10_openSign 7 = .ok (.istore_n 1, 1) := by decide +kernel
theorem dX10_openSign_8 : decode cX10_openSign 8 = .ok (.aload_n 0, 1) := by decide +kernel
theorem dX10_openSign_9 : decode cX10_openSign 9 = .ok (.getfield 65, 3) := by decide +kernel
theorem dX10_openSign_12 : decode cX10_openSign 12 = .ok (.aload_n 0, 1) := by decide +kernel
theorem dX10_openSign_13 : decode cX10_openSign 13 = .ok (.getfield 15, 3) := by decide +kernel
theorem dX10_openSign_16 : decode cX10_openSign 16 = .ok (.arraylength, 1) := by decide +kernel
theorem dX10_openSign_17 : decode cX10_openSign 17 = .ok (.if_icmp .ge 142, 3) := by decide +kernel
theorem dX10_openSign_20 : decode cX10_openSign 20 = .ok (.aload_n 0, 1) := by decide +kernel
theorem dX10_openSign_21 : decode cX10_openSign 21 = .ok (.getfield 15, 3) := by decide +kernel
theorem dX10_openSign_24 : decode cX10_openSign 24 = .ok (.aload_n 0, 1) := by decide +kernel
theorem dX10_openSign_25 : decode cX10_openSign 25 = .ok (.getfield 65, 3) := by decide +kernel
theorem dX10_openSign_28 : decode cX10_openSign 28 = .ok (.iload_n 1, 1) := by decide +kernel
theorem dX10_openSign_29 : decode cX10_openSign 29 = .ok (.iastore, 1) := by decide +kernel
theorem dX10_openSign_30 : decode cX10_openSign 30 = .ok (.aload_n 0, 1) := by decide +kernel
theorem dX10_openSign_31 : decode cX10_openSign 31 = .ok (.getfield 19, 3) := by decide +kernel
theorem dX10_openSign_34 : decode cX10_openSign 34 = .ok (.aload_n 0, 1) := by decide +kernel
theorem dX10_openSign_35 : decode cX10_openSign 35 = .ok (.getfield 65, 3) := by decide +kernel
theorem dX10_openSign_38 : decode cX10_openSign 38 = .ok (.aload_n 0, 1) := by decide +kernel
theorem dX10_openSign_39 : decode cX10_openSign 39 = .ok (.getfield 31, 3) := by decide +kernel
theorem dX10_openSign_42 : decode cX10_openSign 42 = .ok (.getfield 72, 3) := by decide +kernel
theorem dX10_openSign_45 : decode cX10_openSign 45 = .ok (.iastore, 1) := by decide +kernel
theorem dX10_openSign_46 : decode cX10_openSign 46 = .ok (.aload_n 0, 1) := by decide +kernel
theorem dX10_openSign_47 : decode cX10_openSign 47 = .ok (.getfield 22, 3) := by decide +kernel
theorem dX10_openSign_50 : decode cX10_openSign 50 = .ok (.aload_n 0, 1) := by decide +kernel
theorem dX10_openSign_51 : decode cX10_openSign 51 = .ok (.getfield 65, 3) := by decide +kernel
theorem dX10_openSign_54 : decode cX10_openSign 54 = .ok (.aload_n 0, 1) := by decide +kernel
theorem dX10_openSign_55 : decode cX10_openSign 55 = .ok (.getfield 146, 3) := by decide +kernel
theorem dX10_openSign_58 : decode cX10_openSign 58 = .ok (.iastore, 1) := by decide +kernel
theorem dX10_openSign_59 : decode cX10_openSign 59 = .ok (.aload_n 0, 1) := by decide +kernel
theorem dX10_openSign_60 : decode cX10_openSign 60 = .ok (.getfield 25, 3) := by decide +kernel
theorem dX10_openSign_63 : decode cX10_openSign 63 = .ok (.aload_n 0, 1) := by decide +kernel
theorem dX10_openSign_64 : decode cX10_openSign 64 = .ok (.getfield 65, 3) := by decide +kernel
theorem dX10_openSign_67 : decode cX10_openSign 67 = .ok (.aload_n 0, 1) := by decide +kernel
theorem dX10_openSign_68 : decode cX10_openSign 68 = .ok (.getfield 75, 3) := by decide +kernel
theorem dX10_openSign_71 : decode cX10_openSign 71 = .ok (.iastore, 1) := by decide +kernel
theorem dX10_openSign_72 : decode cX10_openSign 72 = .ok (.aload_n 0, 1) := by decide +kernel
theorem dX10_openSign_73 : decode cX10_openSign 73 = .ok (.getfield 28, 3) := by decide +kernel
theorem dX10_openSign_76 : decode cX10_openSign 76 = .ok (.aload_n 0, 1) := by decide +kernel
theorem dX10_openSign_77 : decode cX10_openSign 77 = .ok (.getfield 65, 3) := by decide +kernel
theorem dX10_openSign_80 : decode cX10_openSign 80 = .ok (.iconst (-1), 1) := by decide +kernel
theorem dX10_openSign_81 : decode cX10_openSign 81 = .ok (.iastore, 1) := by decide +kernel
theorem dX10_openSign_82 : decode cX10_openSign 82 = .ok (.iload_n 1, 1) := by decide +kernel
theorem dX10_openSign_83 : decode cX10_openSign 83 = .ok (.bipush 67, 2) := by decide +kernel
theorem dX10_openSign_85 : decode cX10_openSign 85 = .ok (.if_icmp .eq 9, 3) := by decide +kernel
theorem dX10_openSign_88 : decode cX10_openSign 88 = .ok (.iload_n 1, 1) := by decide +kernel
theorem dX10_openSign_89 : decode cX10_openSign 89 = .ok (.bipush 69, 2) := by decide +kernel
theorem dX10_openSign_91 : decode cX10_openSign 91 = .ok (.if_icmp .ne 58, 3) := by decide +kernel
theorem dX10_openSign_94 : decode cX10_openSign 94 = .ok (.aload_n 0, 1) := by decide +kernel
theorem dX10_openSign_95 : decode cX10_openSign 95 = .ok (.aload_n 0, 1) := by decide +kernel
theorem dX10_openSign_96 : decode cX10_openSign 96 = .ok (.getfield 75, 3) := by decide +kernel
theorem dX10_openSign_99 : decode cX10_openSign 99 = .ok (.sipush 302, 3) := by decide +kernel
theorem dX10_openSign_102 : decode cX10_openSign 102 = .ok (.if_icmp .ne 7, 3) := by decide +kernel
theorem dX10_openSign_105 : decode cX10_openSign 105 = .ok (.iconst 1, 1) := by decide +kernel
theorem dX10_openSign_106 : decode cX10_openSign 106 = .ok (.goto 4, 3) := by decide +kernel
theorem dX10_openSign_109 : decode cX10_openSign 109 = .ok (.iconst 0, 1) := by decide +kernel
theorem dX10_openSign_110 : decode cX10_openSign 110 = .ok (.aload_n 0, 1) := by decide +kernel
theorem dX10_openSign_111 : decode cX10_openSign 111 = .ok (.getfield 146, 3) := by decide +kernel
theorem dX10_openSign_114 : decode cX10_openSign 114 = .ok (.invokevirtual 80, 3) := by decide +kernel
theorem dX10_openSign_117 : decode cX10_openSign 117 = .ok (.aload_n 0, 1) := by decide +kernel
theorem dX10_openSign_118 : decode cX10_openSign 118 = .ok (.getfield 28, 3) := by decide +kernel
theorem dX10_openSign_121 : decode cX10_openSign 121 = .ok (.aload_n 0, 1) := by decide +kernel
theorem dX10_openSign_122 : decode cX10_openSign 122 = .ok (.getfield 65, 3) := by decide +kernel
theorem dX10_openSign_125 : decode cX10_openSign 125 = .ok (.aload_n 0, 1) := by decide +kernel
theorem dX10_openSign_126 : decode cX10_openSign 126 = .ok (.getfield 46, 3) := by decide +kernel
theorem dX10_openSign_129 : decode cX10_openSign 129 = .ok (.iload_n 1, 1) := by decide +kernel
theorem dX10_openSign_130 : decode cX10_openSign 130 = .ok (.bipush 67, 2) := by decide +kernel
theorem dX10_openSign_132 : decode cX10_openSign 132 = .ok (.if_icmp .ne 9, 3) := by decide +kernel
theorem dX10_openSign_135 : decode cX10_openSign 135 = .ok (.sipush 153, 3) := by decide +kernel
theorem dX10_openSign_138 : decode cX10_openSign 138 = .ok (.goto 6, 3) := by decide +kernel
theorem dX10_openSign_141 : decode cX10_openSign 141 = .ok (.sipush 154, 3) := by decide +kernel
theorem dX10_openSign_144 : decode cX10_openSign 144 = .ok (.iconst 1, 1) := by decide +kernel
theorem dX10_openSign_145 : decode cX10_openSign 145 = .ok (.invokevirtual 86, 3) := by decide +kernel
theorem dX10_openSign_148 : decode cX10_openSign 148 = .ok (.iastore, 1) := by decide +kernel
theorem dX10_openSign_149 : decode cX10_openSign 149 = .ok (.aload_n 0, 1) := by decide +kernel
theorem dX10_openSign_150 : decode cX10_openSign 150 = .ok (.dup, 1) := by decide +kernel
theorem dX10_openSign_151 : decode cX10_openSign 151 = .ok (.getfield 65, 3) := by decide +kernel
theorem dX10_openSign_154 : decode cX10_openSign 154 = .ok (.iconst 1, 1) := by decide +kernel
theorem dX10_openSign_155 : decode cX10_openSign 155 = .ok (.iadd, 1) := by decide +kernel
theorem dX10_openSign_156 : decode cX10_openSign 156 = .ok (.putfield 65, 3) := by decide +kernel
theorem dX10_openSign_159 : decode cX10_openSign 159 = .ok (.aload_n 0, 1) := by decide +kernel
theorem dX10_openSign_160 : decode cX10_openSign 160 = .ok (.getfield 31, 3) := by decide +kernel
theorem dX10_openSign_163 : decode cX10_openSign 163 = .ok (.dup, 1) := by decide +kernel
theorem dX10_openSign_164 : decode cX10_openSign 164 = .ok (.getfield 72, 3) := by decide +kernel
theorem dX10_openSign_167 : decode cX10_openSign 167 = .ok (.iconst 1, 1) := by decide +kernel
theorem dX10_openSign_168 : decode cX10_openSign 168 = .ok (.iadd, 1) := by decide +kernel
theorem dX10_openSign_169 : decode cX10_openSign 169 = .ok (.putfield 72, 3) := by decide +kernel
theorem dX10_openSign_172 : decode cX10_openSign 172 = .ok (.return_, 1) := by decide +kernel
theorem mt_X9_kindAt : mx_mt 247 = some (yX9_kindAt, cX9_kindAt, 2, (some .int)) := rfl
theorem dX9_kindAt_0 : decode cX9_kindAt 0 = .ok (.iload_n 1, 1) := by decide +kernel
theorem dX9_kindAt_1 : decode cX9_kindAt 1 = .ok (.ifCond .lt 20, 3) := by decide +kernel
theorem dX9_kindAt_4 : decode cX9_kindAt 4 = .ok (.iload_n 1, 1) := by decide +kernel
theorem dX9_kindAt_5 : decode cX9_kindAt 5 = .ok (.aload_n 0, 1) := by decide +kernel
theorem dX9_kindAt_6 : decode cX9_kindAt 6 = .ok (.getfield 83, 3) := by decide +kernel
theorem dX9_kindAt_9 : decode cX9_kindAt 9 = .ok (.if_icmp .ge 12, 3) := by decide +kernel
theorem dX9_kindAt_12 : decode cX9_kindAt 12 = .ok (.aload_n 0, 1) := by decide +kernel
theorem dX9_kindAt_13 : decode cX9_kindAt 13 = .ok (.getfield 15, 3) := by decide +kernel
theorem dX9_kindAt_16 : decode cX9_kindAt 16 = .ok (.iload_n 1, 1) := by decide +kernel
theorem dX9_kindAt_17 : decode cX9_kindAt 17 = .ok (.iaload, 1) := by decide +kernel
theorem dX9_kindAt_18 : decode cX9_kindAt 18 = .ok (.goto 4, 3) := by decide +kernel
theorem dX9_kindAt_21 : decode cX9_kindAt 21 = .ok (.iconst 0, 1) := by decide +kernel
theorem dX9_kindAt_22 : decode cX9_kindAt 22 = .ok (.ireturn, 1) := by decide +kernel
theorem rs_RX9_22 : mx_res RX9 22 = some (0, 9, 2) := by decide +kernel
theorem mt_X9_valueAt : mx_mt 248 = some (yX9_valueAt, cX9_valueAt, 2, (some .int)) := rfl
theorem dX9_valueAt_0 : decode cX9_valueAt 0 = .ok (.iload_n 1, 1) := by decide +kernel
theorem dX9_valueAt_1 : decode cX9_valueAt 1 = .ok (.ifCond .lt 20, 3) := by decide +kernel
theorem dX9_valueAt_4 : decode cX9_valueAt 4 = .ok (.iload_n 1, 1) := by decide +kernel
theorem dX9_valueAt_5 : decode cX9_valueAt 5 = .ok (.aload_n 0, 1) := by decide +kernel
theorem dX9_valueAt_6 : decode cX9_valueAt 6 = .ok (.getfield 83, 3) := by decide +kernel
theorem dX9_valueAt_9 : decode cX9_valueAt 9 = .ok (.if_icmp .ge 12, 3) := by decide +kernel
theorem dX9_valueAt_12 : decode cX9_valueAt 12 = .ok (.aload_n 0, 1) := by decide +kernel
theorem dX9_valueAt_13 : decode cX9_valueAt 13 = .ok (.getfield 22, 3) := by decide +kernel
theorem dX9_valueAt_16 : decode cX9_valueAt 16 = .ok (.iload_n 1, 1) := by decide +kernel
theorem dX9_valueAt_17 : decode cX9_valueAt 17 = .ok (.iaload, 1) := by decide +kernel
theorem dX9_valueAt_18 : decode cX9_valueAt 18 = .ok (.goto 4, 3) := by decide +kernel
theorem dX9_valueAt_21 : decode cX9_valueAt 21 = .ok (.iconst 0, 1) := by decide +kernel
theorem dX9_valueAt_22 : decode cX9_valueAt 22 = .ok (.ireturn, 1) := by decide +kernel
theorem rs_RX2_24 : mx_res RX2 24 = some (0, 2, 4) := by decide +kernel
theorem rs_RX2_74 : mx_res RX2 74 = some (0, 2, 0) := by decide +kernel
theorem rs_RX2_115 : mx_res RX2 115 = some (1, 247, 1) := by decide +kernel
theorem rs_RX2_135 : mx_res RX2 135 = some (1, 248, 1) := by decide +kernel
theorem mt_X2_classAt : mx_mt 58 = some (yX2_classAt, cX2_classAt, 3, (some .int)) := rfl
theorem dX2_classAt_0 : decode cX2_classAt 0 = .ok (.aload_n 0, 1) := by decide +kernel
theorem dX2_classAt_1 : decode cX2_classAt 1 = .ok (.getfield 74, 3) := by decide +kernel
theorem dX2_classAt_4 : decode cX2_classAt 4 = .ok (.iload_n 1, 1) := by decide +kernel
theorem dX2_classAt_5 : decode cX2_classAt 5 = .ok (.invokevirtual 135, 3) := by decide +kernel
theorem dX2_classAt_8 : decode cX2_classAt 8 = .ok (.istore_n 2, 1) := by decide +kernel
theorem dX2_classAt_9 : decode cX2_classAt 9 = .ok (.aload_n 0, 1) := by decide +kernel
theorem dX2_classAt_10 : decode cX2_classAt 10 = .ok (.getfield 74, 3) := by decide +kernel
theorem dX2_classAt_13 : decode cX2_classAt 13 = .ok (.iload_n 1, 1) := by decide +kernel
theorem dX2_classAt_14 : decode cX2_classAt 14 = .ok (.invokevirtual 115, 3) := by decide +kernel
theorem dX2_classAt_17 : decode cX2_classAt 17 = .ok (.iconst 2, 1) := by decide +kernel
theorem dX2_classAt_18 : decode cX2_classAt 18 = .ok (.if_icmp .ne 21, 3) := by decide +kernel
theorem dX2_classAt_21 : decode cX2_classAt 21 = .ok (.iload_n 2, 1) := by decide +kernel
theorem dX2_classAt_22 : decode cX2_classAt 22 = .ok (.aload_n 0, 1) := by decide +kernel
theorem dX2_classAt_23 : decode cX2_classAt 23 = .ok (.getfield 24, 3) := by decide +kernel
theorem dX2_classAt_26 : decode cX2_classAt 26 = .ok (.arraylength, 1) := by decide +kernel
theorem dX2_classAt_27 : decode cX2_classAt 27 = .ok (.if_icmp .ge 12, 3) := by decide +kernel
theorem dX2_classAt_30 : decode cX2_classAt 30 = .ok (.aload_n 0, 1) := by decide +kernel
theorem dX2_classAt_31 : decode cX2_classAt 31 = .ok (.getfield 24, 3) := by decide +kernel
theorem dX2_classAt_34 : decode cX2_classAt 34 = .ok (.iload_n 2, 1) := by decide +kernel
theorem dX2_classAt_35 : decode cX2_classAt 35 = .ok (.iaload, 1) := by decide +kernel
theorem dX2_classAt_36 : decode cX2_classAt 36 = .ok (.goto 4, 3) := by decide +kernel
theorem dX2_classAt_39 : decode cX2_classAt 39 = .ok (.iconst (-1), 1) := by decide +kernel
theorem dX2_classAt_40 : decode cX2_classAt 40 = .ok (.ireturn, 1) := by decide +kernel
theorem rs_RX10_35 : mx_res RX10 35 = some (0, 10, 1) := by decide +kernel
theorem rs_RX10_181 : mx_res RX10 181 = some (1, 58, 1) := by decide +kernel
theorem mt_X10_readNamedClass : mx_mt 286 = some (yX10_readNamedClass, cX10_readNamedClass, 4, (some .int)) := rfl
theorem dX10_readNamedClass_0 : decode cX10_readNamedClass 0 = .ok (.aload_n 0, 1) := by decide +kernel
theorem dX10_readNamedClass_1 : decode cX10_readNamedClass 1 = .ok (.getfield 35, 3) := by decide +kernel
theorem dX10_readNamedClass_4 : decode cX10_readNamedClass 4 = .ok (.iload_n 1, 1) := by decide +kernel
theorem dX10_readNamedClass_5 : decode cX10_readNamedClass 5 = .ok (.invokevirtual 181, 3) := by decide +kernel
theorem dX10_readNamedClass_8 : decode cX10_readNamedClass 8 = .ok (.istore_n 3, 1) := by decide +kernel
theorem dX10_readNamedClass_9 : decode cX10_readNamedClass 9 = .ok (.iload_n 3, 1) := by decide +kernel
theorem dX10_readNamedClass_10 : decode cX10_readNamedClass 10 = .ok (.iconst (-1), 1) := by decide +kernel
theorem dX10_readNamedClass_11 : decode cX10_readNamedClass 11 = .ok (.if_icmp .ne 12, 3) := by decide +kernel
theorem dX10_readNamedClass_14 : decode cX10_readNamedClass 14 = .ok (.aload_n 0, 1) := by decide +kernel
theorem dX10_readNamedClass_15 : decode cX10_readNamedClass 15 = .ok (.getfield 31, 3) := by decide +kernel
theorem dX10_readNamedClass_18 : decode cX10_readNamedClass 18 = .ok (.iconst 5, 1) := by decide +kernel
theorem dX10_readNamedClass_19 : decode cX10_readNamedClass 19 = .ok (.iload_n 1, 1) := by decide +kernel
theorem dX10_readNamedClass_20 : decode cX10_readNamedClass 20 = .ok (.invokevirtual 165, 3) := by decide +kernel
theorem dX10_readNamedClass_23 : decode cX10_readNamedClass 23 = .ok (.aload_n 0, 1) := by decide +kernel
theorem dX10_readNamedClass_24 : decode cX10_readNamedClass 24 = .ok (.getfield 31, 3) := by decide +kernel
theorem dX10_readNamedClass_27 : decode cX10_readNamedClass 27 = .ok (.iload_n 2, 1) := by decide +kernel
theorem dX10_readNamedClass_28 : decode cX10_readNamedClass 28 = .ok (.putfield 72, 3) := by decide +kernel
theorem dX10_readNamedClass_31 : decode cX10_readNamedClass 31 = .ok (.iload_n 3, 1) := by decide +kernel
theorem dX10_readNamedClass_32 : decode cX10_readNamedClass 32 = .ok (.ireturn, 1) := by decide +kernel
theorem mt_X10_wantKinOf : mx_mt 287 = some (yX10_wantKinOf, cX10_wantKinOf, 3, none) := rfl
theorem dX10_wantKinOf_0 : decode cX10_wantKinOf 0 = .ok (.aload_n 0, 1) := by decide +kernel
theorem dX10_wantKinOf_1 : decode cX10_wantKinOf 1 = .ok (.aload_n 0, 1) := by decide +kernel
theorem dX10_wantKinOf_2 : decode cX10_wantKinOf 2 = .ok (.getfield 75, 3) := by decide +kernel
theorem dX10_wantKinOf_5 : decode cX10_wantKinOf 5 = .ok (.invokestatic 136, 3) := by decide +kernel
theorem dX10_wantKinOf_8 : decode cX10_wantKinOf 8 = .ok (.ifCond .eq 22, 3) := by decide +kernel
theorem dX10_wantKinOf_11 : decode cX10_wantKinOf 11 = .ok (.aload_n 0, 1) := by decide +kernel
theorem dX10_wantKinOf_12 : decode cX10_wantKinOf 12 = .ok (.getfield 45, 3) := by decide +kernel
theorem dX10_wantKinOf_15 : decode cX10_wantKinOf 15 = .ok (.aload_n 0, 1) := by decide +kernel
theorem dX10_wantKinOf_16 : decode cX10_wantKinOf 16 = .ok (.getfield 75, 3) := by decide +kernel
theorem dX10_wantKinOf_19 : decode cX10_wantKinOf 19 = .ok (.iload_n 1, 1) := by decide +kernel
theorem dX10_wantKinOf_20 : decode cX10_wantKinOf 20 = .ok (.invokevirtual 140, 3) := by decide +kernel
theorem dX10_wantKinOf_23 : decode cX10_wantKinOf 23 = .ok (.ifCond .eq 7, 3) := by decide +kernel
theorem dX10_wantKinOf_26 : decode cX10_wantKinOf 26 = .ok (.iconst 1, 1) := by decide +kernel
theorem dX10_wantKinOf_27 : decode cX10_wantKinOf 27 = .ok (.goto 4, 3) := by decide +kernel
theorem dX10_wantKinOf_30 : decode cX10_wantKinOf 30 = .ok (.iconst 0, 1) := by decide +kernel
theorem dX10_wantKinOf_31 : decode cX10_wantKinOf 31 = .ok (.iload_n 2, 1) := by decide +kernel
theorem dX10_wantKinOf_32 : decode cX10_wantKinOf 32 = .ok (.invokevirtual 80, 3) := by decide +kernel
theorem dX10_wantKinOf_35 : decode cX10_wantKinOf 35 = .ok (.return_, 1) := by decide +kernel
theorem mt_X1_op_ : mx_mt 28 = some (yX1_op_, cX1_op_, 3, none) := rfl
theorem dX1_op__0 : decode cX1_op_ 0 = .ok (.aload_n 0, 1) := by decide +kernel
theorem dX1_op__1 : decode cX1_op_ 1 = .ok (.iload_n 1, 1) := by decide +kernel
theorem dX1_op__2 : decode cX1_op_ 2 = .ok (.invokevirtual 65, 3) := by decide +kernel
theorem dX1_op__5 : decode cX1_op_ 5 = .ok (.aload_n 0, 1) := by decide +kernel
theorem dX1_op__6 : decode cX1_op_ 6 = .ok (.iload_n 2, 1) := by decide +kernel
theorem dX1_op__7 : decode cX1_op_ 7 = .ok (.invokevirtual 65, 3) := by decide +kernel
theorem dX1_op__10 : decode cX1_op_ 10 = .ok (.return_, 1) := by decide +kernel
theorem rs_RX10_50 : mx_res RX10 50 = some (0, 10, 4) := by decide +kernel
theorem rs_RX10_168 : mx_res RX10 168 = some (1, 286, 2) := by decide +kernel
theorem rs_RX10_171 : mx_res RX10 171 = some (1, 287, 2) := by decide +kernel
theorem rs_RX10_174 : mx_res RX10 174 = some (1, 192, 1) := by decide +kernel
theorem rs_RX10_179 : mx_res RX10 179 = some (1, 28, 2) := by decide +kernel
theorem mt_X10_readInstanceof : mx_mt 285 = some (yX10_readInstanceof, cX10_readInstanceof, 3, none) := rfl
theorem dX10_readInstanceof_0 : decode cX10_readInstanceof 0 = .ok (.aload_n 0, 1) := by decide +kernel
theorem dX10_readInstanceof_1 : decode cX10_readInstanceof 1 = .ok (.getfield 31, 3) := by decide +kernel
theorem dX10_readInstanceof_4 : decode cX10_readInstanceof 4 = .ok (.getfield 72, 3) := by decide +kernel
theorem dX10_readInstanceof_7 : decode cX10_readInstanceof 7 = .ok (.iconst 1, 1) := by decide +kernel
theorem dX10_readInstanceof_8 : decode cX10_readInstanceof 8 = .ok (.iadd, 1) := by decide +kernel
theorem dX10_readInstanceof_9 : decode cX10_readInstanceof 9 = .ok (.istore_n 1, 1) := by decide +kernel
theorem dX10_readInstanceof_10 : decode cX10_readInstanceof 10 = .ok (.aload_n 0, 1) := by decide +kernel
theorem dX10_readInstanceof_11 : decode cX10_readInstanceof 11 = .ok (.iload_n 1, 1) := by decide +kernel
theorem dX10_readInstanceof_12 : decode cX10_readInstanceof 12 = .ok (.iload_n 1, 1) := by decide +kernel
theorem dX10_readInstanceof_13 : decode cX10_readInstanceof 13 = .ok (.iconst 1, 1) := by decide +kernel
theorem dX10_readInstanceof_14 : decode cX10_readInstanceof 14 = .ok (.iadd, 1) := by decide +kernel
theorem dX10_readInstanceof_15 : decode cX10_readInstanceof 15 = .ok (.invokevirtual 168, 3) := by decide +kernel
theorem dX10_readInstanceof_18 : decode cX10_readInstanceof 18 = .ok (.istore_n 2, 1) := by decide +kernel
theorem dX10_readInstanceof_19 : decode cX10_readInstanceof 19 = .ok (.iload_n 2, 1) := by decide +kernel
theorem dX10_readInstanceof_20 : decode cX10_readInstanceof 20 = .ok (.iconst (-1), 1) := by decide +kernel
theorem dX10_readInstanceof_21 : decode cX10_readInstanceof 21 = .ok (.if_icmp .eq 45, 3) := by decide +kernel
theorem dX10_readInstanceof_24 : decode cX10_readInstanceof 24 = .ok (.aload_n 0, 1) := by decide +kernel
theorem dX10_readInstanceof_25 : decode cX10_readInstanceof 25 = .ok (.iload_n 2, 1) := by decide +kernel
theorem dX10_readInstanceof_26 : decode cX10_readInstanceof 26 = .ok (.iload_n 1, 1) := by decide +kernel
theorem dX10_readInstanceof_27 : decode cX10_readInstanceof 27 = .ok (.invokevirtual 171, 3) := by decide +kernel
theorem dX10_readInstanceof_30 : decode cX10_readInstanceof 30 = .ok (.aload_n 0, 1) := by decide +kernel
theorem dX10_readInstanceof_31 : decode cX10_readInstanceof 31 = .ok (.getfield 46, 3) := by decide +kernel
theorem dX10_readInstanceof_34 : decode cX10_readInstanceof 34 = .ok (.sipush 193, 3) := by decide +kernel
theorem dX10_readInstanceof_37 : decode cX10_readInstanceof 37 = .ok (.aload_n 0, 1) := by decide +kernel
theorem dX10_readInstanceof_38 : decode cX10_readInstanceof 38 = .ok (.getfield 50, 3) := by decide +kernel
theorem dX10_readInstanceof_41 : decode cX10_readInstanceof 41 = .ok (.iload_n 2, 1) := by decide +kernel
theorem dX10_readInstanceof_42 : decode cX10_readInstanceof 42 = .ok (.invokevirtual 174, 3) := by decide +kernel
theorem dX10_readInstanceof_45 : decode cX10_readInstanceof 45 = .ok (.invokevirtual 179, 3) := by decide +kernel
theorem dX10_readInstanceof_48 : decode cX10_readInstanceof 48 = .ok (.aload_n 0, 1) := by decide +kernel
theorem dX10_readInstanceof_49 : decode cX10_readInstanceof 49 = .ok (.getfield 46, 3) := by decide +kernel
theorem dX10_readInstanceof_52 : decode cX10_readInstanceof 52 = .ok (.iconst 1, 1) := by decide +kernel
theorem dX10_readInstanceof_53 : decode cX10_readInstanceof 53 = .ok (.invokevirtual 118, 3) := by decide +kernel
theorem dX10_readInstanceof_56 : decode cX10_readInstanceof 56 = .ok (.aload_n 0, 1) := by decide +kernel
theorem dX10_readInstanceof_57 : decode cX10_readInstanceof 57 = .ok (.getfield 46, 3) := by decide +kernel
theorem dX10_readInstanceof_60 : decode cX10_readInstanceof 60 = .ok (.sipush 302, 3) := by decide +kernel
theorem dX10_readInstanceof_63 : decode cX10_readInstanceof 63 = .ok (.invokevirtual 130, 3) := by decide +kernel
theorem dX10_readInstanceof_66 : decode cX10_readInstanceof 66 = .ok (.aload_n 0, 1) := by decide +kernel
theorem dX10_readInstanceof_67 : decode cX10_readInstanceof 67 = .ok (.sipush 302, 3) := by decide +kernel
theorem dX10_readInstanceof_70 : decode cX10_readInstanceof 70 = .ok (.putfield 75, 3) := by decide +kernel
theorem dX10_readInstanceof_73 : decode cX10_readInstanceof 73 = .ok (.aload_n 0, 1) := by decide +kernel
theorem dX10_readInstanceof_74 : decode cX10_readInstanceof 74 = .ok (.iconst 0, 1) := by decide +kernel
theorem dX10_readInstanceof_75 : decode cX10_readInstanceof 75 = .ok (.putfield 133, 3) := by decide +kernel
theorem dX10_readInstanceof_78 : decode cX10_readInstanceof 78 = .ok (.return_, 1) := by decide +kernel
