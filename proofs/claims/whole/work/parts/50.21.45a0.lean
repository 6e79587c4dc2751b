theorem rs_RX13_1 : mx_res RX13 1 = some (5, 0, 0) := by decide +kernel
theorem rs_RX13_140 : mx_res RX13 140 = some (7, 40000, 0) := by decide +kernel
theorem rs_RX13_193 : mx_res RX13 193 = some (7, 48000, 0) := by decide +kernel
theorem rs_RX13_209 : mx_res RX13 209 = some (0, 13, 100) := by decide +kernel
theorem rs_RX13_212 : mx_res RX13 212 = some (0, 13, 101) := by decide +kernel
theorem rs_RX13_215 : mx_res RX13 215 = some (0, 13, 102) := by decide +kernel
theorem rs_RX13_218 : mx_res RX13 218 = some (0, 13, 103) := by decide +kernel
theorem rs_RX13_221 : mx_res RX13 221 = some (0, 13, 104) := by decide +kernel
theorem rs_RX13_224 : mx_res RX13 224 = some (0, 13, 105) := by decide +kernel
theorem rs_RX13_227 : mx_res RX13 227 = some (0, 13, 106) := by decide +kernel
theorem rs_RX13_230 : mx_res RX13 230 = some (0, 13, 107) := by decide +kernel
theorem rs_RX13_233 : mx_res RX13 233 = some (0, 13, 108) := by decide +kernel
theorem rs_RX13_236 : mx_res RX13 236 = some (0, 13, 109) := by decide +kernel
theorem rs_RX13_239 : mx_res RX13 239 = some (0, 13, 110) := by decide +kernel
theorem rs_RX13_242 : mx_res RX13 242 = some (0, 13, 111) := by decide +kernel
theorem rs_RX13_245 : mx_res RX13 245 = some (0, 13, 112) := by decide +kernel
theorem rs_RX13_248 : mx_res RX13 248 = some (0, 13, 116) := by decide +kernel
theorem rs_RX13_251 : mx_res RX13 251 = some (0, 13, 118) := by decide +kernel
theorem rs_RX13_254 : mx_res RX13 254 = some (0, 13, 119) := by decide +kernel
theorem rs_RX13_257 : mx_res RX13 257 = some (0, 13, 123) := by decide +kernel
theorem rs_RX13_261 : mx_res RX13 261 = some (0, 13, 124) := by decide +kernel
theorem rs_RX13_264 : mx_res RX13 264 = some (0, 13, 125) := by decide +kernel
theorem rs_RX13_267 : mx_res RX13 267 = some (0, 13, 126) := by decide +kernel
theorem rs_RX13_270 : mx_res RX13 270 = some (0, 13, 127) := by decide +kernel
theorem rs_RX13_273 : mx_res RX13 273 = some (0, 13, 128) := by decide +kernel
theorem rs_RX13_276 : mx_res RX13 276 = some (0, 13, 137) := by decide +kernel
theorem rs_RX13_279 : mx_res RX13 279 = some (0, 13, 144) := by decide +kernel
theorem rs_RX13_282 : mx_res RX13 282 = some (0, 13, 145) := by decide +kernel
theorem rs_RX13_285 : mx_res RX13 285 = some (0, 13, 146) := by decide +kernel
theorem rs_RX13_288 : mx_res RX13 288 = some (0, 13, 147) := by decide +kernel
theorem rs_RX13_291 : mx_res RX13 291 = some (0, 13, 148) := by decide +kernel
theorem rs_RX13_294 : mx_res RX13 294 = some (0, 13, 150) := by decide +kernel
theorem rs_RX13_297 : mx_res RX13 297 = some (0, 13, 151) := by decide +kernel
theorem rs_RX13_300 : mx_res RX13 300 = some (0, 13, 152) := by decide +kernel
theorem rs_RX13_303 : mx_res RX13 303 = some (0, 13, 153) := by decide +kernel
theorem rs_RX13_306 : mx_res RX13 306 = some (0, 13, 154) := by decide +kernel
theorem rs_RX13_309 : mx_res RX13 309 = some (1, 519, 0) := by decide +kernel
theorem ft_13_0 : mx_fty 13 0 = some ((.array .int), true, "ClassMillModel") := by decide +kernel
theorem ft_13_2 : mx_fty 13 2 = some ((.array .int), true, "ClassMillModel") := by decide +kernel
theorem ft_13_4 : mx_fty 13 4 = some ((.array .int), true, "ClassMillModel") := by decide +kernel
theorem ft_13_5 : mx_fty 13 5 = some ((.array .int), true, "ClassMillModel") := by decide +kernel
theorem ft_13_6 : mx_fty 13 6 = some ((.array .int), true, "ClassMillModel") := by decide +kernel
theorem ft_13_7 : mx_fty 13 7 = some ((.array .int), true, "ClassMillModel") := by decide +kernel
theorem ft_13_11 : mx_fty 13 11 = some ((.array .int), true, "ClassMillModel") := by decide +kernel
theorem ft_13_12 : mx_fty 13 12 = some ((.array .int), true, "ClassMillModel") := by decide +kernel
theorem ft_13_13 : mx_fty 13 13 = some ((.array .int), true, "ClassMillModel") := by decide +kernel
theorem ft_13_14 : mx_fty 13 14 = some ((.array .int), true, "ClassMillModel") := by decide +kernel
theorem ft_13_15 : mx_fty 13 15 = some ((.array .int), true, "ClassMillModel") := by decide +kernel
theorem ft_13_16 : mx_fty 13 16 = some ((.array .int), true, "ClassMillModel") := by decide +kernel
theorem ft_13_17 : mx_fty 13 17 = some ((.array .int), true, "ClassMillModel") := by decide +kernel
theorem ft_13_18 : mx_fty 13 18 = some ((.array .int), true, "ClassMillModel") := by decide +kernel
theorem ft_13_19 : mx_fty 13 19 = some ((.array .int), true, "ClassMillModel") := by decide +kernel
theorem ft_13_20 : mx_fty 13 20 = some ((.array .int), true, "ClassMillModel") := by decide +kernel
theorem ft_13_21 : mx_fty 13 21 = some ((.array .boolean), true, "ClassMillModel") := by decide +kernel
theorem ft_13_25 : mx_fty 13 25 = some ((.array .int), true, "ClassMillModel") := by decide +kernel
theorem ft_13_26 : mx_fty 13 26 = some ((.array .int), true, "ClassMillModel") := by decide +kernel
theorem ft_13_27 : mx_fty 13 27 = some ((.array .int), true, "ClassMillModel") := by decide +kernel
theorem ft_13_29 : mx_fty 13 29 = some ((.array .int), true, "ClassMillModel") := by decide +kernel
theorem ft_13_30 : mx_fty 13 30 = some ((.array .int), true, "ClassMillModel") := by decide +kernel
theorem ft_13_31 : mx_fty 13 31 = some ((.array .int), true, "ClassMillModel") := by decide +kernel
theorem ft_13_32 : mx_fty 13 32 = some ((.array .int), true, "ClassMillModel") := by decide +kernel
theorem ft_13_33 : mx_fty 13 33 = some ((.array .boolean), true, "ClassMillModel") := by decide +kernel
theorem ft_13_34 : mx_fty 13 34 = some ((.array .int), true, "ClassMillModel") := by decide +kernel
theorem ft_13_35 : mx_fty 13 35 = some ((.array .int), true, "ClassMillModel") := by decide +kernel
theorem ft_13_36 : mx_fty 13 36 = some ((.array .int), true, "ClassMillModel") := by decide +kernel
theorem ft_13_37 : mx_fty 13 37 = some ((.array .int), true, "ClassMillModel") := by decide +kernel
theorem ft_13_38 : mx_fty 13 38 = some ((.array .int), true, "ClassMillModel") := by decide +kernel
theorem ft_13_40 : mx_fty 13 40 = some ((.array .int), true, "ClassMillModel") := by decide +kernel
theorem ft_13_41 : mx_fty 13 41 = some ((.array .int), true, "ClassMillModel") := by decide +kernel
theorem ft_13_42 : mx_fty 13 42 = some ((.array .boolean), true, "ClassMillModel") := by decide +kernel
theorem ft_13_43 : mx_fty 13 43 = some ((.array .int), true, "ClassMillModel") := by decide +kernel
theorem ft_13_44 : mx_fty 13 44 = some ((.array .int), true, "ClassMillModel") := by decide +kernel
theorem ft_13_48 : mx_fty 13 48 = some ((.array .int), true, "ClassMillModel") := by decide +kernel
theorem ft_13_49 : mx_fty 13 49 = some ((.array .int), true, "ClassMillModel") := by decide +kernel
theorem ft_13_55 : mx_fty 13 55 = some ((.array .boolean), true, "ClassMillModel") := by decide +kernel
theorem ft_13_56 : mx_fty 13 56 = some ((.array .int), true, "ClassMillModel") := by decide +kernel
theorem ft_13_58 : mx_fty 13 58 = some ((.array .int), true, "ClassMillModel") := by decide +kernel
theorem ft_13_59 : mx_fty 13 59 = some ((.array .int), true, "ClassMillModel") := by decide +kernel
theorem ft_13_60 : mx_fty 13 60 = some ((.array .int), true, "ClassMillModel") := by decide +kernel
theorem ft_13_61 : mx_fty 13 61 = some ((.array .int), true, "ClassMillModel") := by decide +kernel
theorem ft_13_63 : mx_fty 13 63 = some ((.array .int), true, "ClassMillModel") := by decide +kernel
theorem ft_13_65 : mx_fty 13 65 = some ((.array .int), true, "ClassMillModel") := by decide +kernel
theorem ft_13_67 : mx_fty 13 67 = some ((.array .int), true, "ClassMillModel") := by decide +kernel
theorem ft_13_69 : mx_fty 13 69 = some ((.array .int), true, "ClassMillModel") := by decide +kernel
theorem ft_13_73 : mx_fty 13 73 = some ((.array .int), true, "ClassMillModel") := by decide +kernel
theorem ft_13_74 : mx_fty 13 74 = some ((.array .int), true, "ClassMillModel") := by decide +kernel
theorem ft_13_75 : mx_fty 13 75 = some ((.array .int), true, "ClassMillModel") := by decide +kernel
theorem ft_13_76 : mx_fty 13 76 = some ((.array .int), true, "ClassMillModel") := by decide +kernel
theorem ft_13_77 : mx_fty 13 77 = some ((.array .int), true, "ClassMillModel") := by decide +kernel
theorem ft_13_80 : mx_fty 13 80 = some ((.array .int), true, "ClassMillModel") := by decide +kernel
theorem ft_13_81 : mx_fty 13 81 = some ((.array .int), true, "ClassMillModel") := by decide +kernel
theorem ft_13_82 : mx_fty 13 82 = some ((.array .int), true, "ClassMillModel") := by decide +kernel
theorem ft_13_83 : mx_fty 13 83 = some ((.array .int), true, "ClassMillModel") := by decide +kernel
theorem ft_13_85 : mx_fty 13 85 = some ((.array .int), true, "ClassMillModel") := by decide +kernel
theorem ft_13_86 : mx_fty 13 86 = some ((.array .int), true, "ClassMillModel") := by decide +kernel
theorem ft_13_89 : mx_fty 13 89 = some ((.array .int), true, "ClassMillModel") := by decide +kernel
theorem ft_13_90 : mx_fty 13 90 = some ((.array .int), true, "ClassMillModel") := by decide +kernel
theorem ft_13_91 : mx_fty 13 91 = some ((.array .int), true, "ClassMillModel") := by decide +kernel
theorem ft_13_92 : mx_fty 13 92 = some ((.array .int), true, "ClassMillModel") := by decide +kernel
theorem ft_13_94 : mx_fty 13 94 = some ((.array .int), true, "ClassMillModel") := by decide +kernel
theorem ft_13_95 : mx_fty 13 95 = some ((.array .int), true, "ClassMillModel") := by decide +kernel
theorem ft_13_96 : mx_fty 13 96 = some ((.array .int), true, "ClassMillModel") := by decide +kernel
theorem ft_13_100 : mx_fty 13 100 = some ((.array .int), true, "ClassMillModel") := by decide +kernel
theorem ft_13_101 : mx_fty 13 101 = some ((.array .int), true, "ClassMillModel") := by decide +kernel
theorem ft_13_102 : mx_fty 13 102 = some ((.array .int), true, "ClassMillModel") := by decide +kernel
theorem ft_13_103 : mx_fty 13 103 = some ((.array .int), true, "ClassMillModel") := by decide +kernel
theorem ft_13_104 : mx_fty 13 104 = some ((.array .int), true, "ClassMillModel") := by decide +kernel
theorem ft_13_105 : mx_fty 13 105 = some ((.array .int), true, "ClassMillModel") := by decide +kernel
theorem ft_13_106 : mx_fty 13 106 = some ((.array .int), true, "ClassMillModel") := by decide +kernel
theorem ft_13_107 : mx_fty 13 107 = some ((.array .int), true, "ClassMillModel") := by decide +kernel
theorem ft_13_108 : mx_fty 13 108 = some ((.array .int), true, "ClassMillModel") := by decide +kernel
theorem ft_13_109 : mx_fty 13 109 = some ((.array .int), true, "ClassMillModel") := by decide +kernel
theorem ft_13_110 : mx_fty 13 110 = some ((.array .int), true, "ClassMillModel") := by decide +kernel
theorem ft_13_111 : mx_fty 13 111 = some ((.array .int), true, "ClassMillModel") := by decide +kernel
theorem ft_13_112 : mx_fty 13 112 = some ((.array .int), true, "ClassMillModel") := by decide +kernel
theorem ft_13_116 : mx_fty 13 116 = some ((.array .int), true, "ClassMillModel") := by decide +kernel
theorem ft_13_118 : mx_fty 13 118 = some ((.array .int), true, "ClassMillModel") := by decide +kernel
theorem ft_13_119 : mx_fty 13 119 = some ((.array .int), true, "ClassMillModel") := by decide +kernel
theorem ft_13_123 : mx_fty 13 123 = some (.int, false, "ClassMillModel") := by decide +kernel
theorem ft_13_124 : mx_fty 13 124 = some (.int, false, "ClassMillModel") := by decide +kernel
theorem ft_13_125 : mx_fty 13 125 = some (.int, false, "ClassMillModel") := by decide +kernel
theorem ft_13_126 : mx_fty 13 126 = some ((.array .boolean), true, "ClassMillModel") := by decide +kernel
theorem ft_13_127 : mx_fty 13 127 = some ((.array .int), true, "ClassMillModel") := by decide +kernel
theorem ft_13_128 : mx_fty 13 128 = some ((.array .int), true, "ClassMillModel") := by decide +kernel
theorem ft_13_137 : mx_fty 13 137 = some ((.array .int), true, "ClassMillModel") := by decide +kernel
theorem ft_13_144 : mx_fty 13 144 = some ((.array .int), true, "ClassMillModel") := by decide +kernel
theorem ft_13_145 : mx_fty 13 145 = some ((.array .int), true, "ClassMillModel") := by decide +kernel
theorem ft_13_146 : mx_fty 13 146 = some ((.array .int), true, "ClassMillModel") := by decide +kernel
theorem ft_13_147 : mx_fty 13 147 = some ((.array .int), true, "ClassMillModel") := by decide +kernel
theorem ft_13_148 : mx_fty 13 148 = some ((.array .int), true, "ClassMillModel") := by decide +kernel
theorem ft_13_150 : mx_fty 13 150 = some ((.array .int), true, "ClassMillModel") := by decide +kernel
theorem ft_13_151 : mx_fty 13 151 = some ((.array .int), true, "ClassMillModel") := by decide +kernel
theorem ft_13_152 : mx_fty 13 152 = some ((.array .int), true, "ClassMillModel") := by decide +kernel
theorem ft_13_153 : mx_fty 13 153 = some ((.array .int), true, "ClassMillModel") := by decide +kernel
theorem ft_13_154 : mx_fty 13 154 = some ((.array .int), true, "ClassMillModel") := by decide +kernel
theorem mt_X13_init : mx_mt 379 = some (yX13_init, cX13_init, 1, none) := rfl
theorem dX13_init_0 : decode cX13_init 0 = .ok (.aload_n 0, 1) := by decide +kernel
theorem dX13_init_1 : decode cX13_init 1 = .ok (.invokespecial 1, 3) := by decide +kernel
theorem dX13_init_4 : decode cX13_init 4 = .ok (.aload_n 0, 1) := by decide +kernel
theorem dX13_init_5 : decode cX13_init 5 = .ok (.sipush 6000, 3) := by decide +kernel
theorem dX13_init_8 : decode cX13_init 8 = .ok (.newarray .int, 2) := by decide +kernel
theorem dX13_init_10 : decode cX13_init 10 = .ok (.putfield 9, 3) := by decide +kernel
theorem dX13_init_13 : decode cX13_init 13 = .ok (.aload_n 0, 1) := by decide +kernel
theorem dX13_init_14 : decode cX13_init 14 = .ok (.sipush 3000, 3) := by decide +kernel
theorem dX13_init_17 : decode cX13_init 17 = .ok (.newarray .int, 2) := by decide +kernel
theorem dX13_init_19 : decode cX13_init 19 = .ok (.putfield 13, 3) := by decide +kernel
theorem dX13_init_22 : decode cX13_init 22 = .ok (.aload_n 0, 1) := by decide +kernel
theorem dX13_init_23 : decode cX13_init 23 = .ok (.sipush 3008, 3) := by decide +kernel
theorem dX13_init_26 : decode cX13_init 26 = .ok (.newarray .int, 2) := by decide +kernel
theorem dX13_init_28 : decode cX13_init 28 = .ok (.putfield 16, 3) := by decide +kernel
theorem dX13_init_31 : decode cX13_init 31 = .ok (.aload_n 0, 1) := by decide +kernel
theorem dX13_init_32 : decode cX13_init 32 = .ok (.sipush 3002, 3) := by decide +kernel
theorem dX13_init_35 : decode cX13_init 35 = .ok (.newarray .int, 2) := by decide +kernel
theorem dX13_init_37 : decode cX13_init 37 = .ok (.putfield 19, 3) := by decide +kernel
theorem dX13_init_40 : decode cX13_init 40 = .ok (.aload_n 0, 1) := by decide +kernel
theorem dX13_init_41 : decode cX13_init 41 = .ok (.sipush 3002, 3) := by decide +kernel
theorem dX13_init_44 : decode cX13_init 44 = .ok (.newarray .int, 2) := by decide +kernel
theorem dX13_init_46 : decode cX13_init 46 = .ok (.putfield 22, 3) := by decide +kernel
theorem dX13_init_49 : decode cX13_init 49 = .ok (.aload_n 0, 1) := by decide +kernel
theorem dX13_init_50 : decode cX13_init 50 = .ok (.sipush 3002, 3) := by decide +kernel
theorem dX13_init_53 : decode cX13_init 53 = .ok (.newarray .int, 2) := by decide +kernel
theorem dX13_init_55 : decode cX13_init 55 = .ok (.putfield 25, 3) := by decide +kernel
theorem dX13_init_58 : decode cX13_init 58 = .ok (.aload_n 0, 1) := by decide +kernel
theorem dX13_init_59 : decode cX13_init 59 = .ok (.sipush 9000, 3) := by decide +kernel
theorem dX13_init_62 : decode cX13_init 62 = .ok (.newarray .int, 2) := by decide +kernel
theorem dX13_init_64 : decode cX13_init 64 = .ok (.putfield 28, 3) := by decide +kernel
theorem dX13_init_67 : decode cX13_init 67 = .ok (.aload_n 0, 1) := by decide +kernel
theorem dX13_init_68 : decode cX13_init 68 = .ok (.sipush 9000, 3) := by decide +kernel
theorem dX13_init_71 : decode cX13_init 71 = .ok (.newarray .int, 2) := by decide +kernel
theorem dX13_init_73 : decode cX13_init 73 = .ok (.putfield 31, 3) := by decide +kernel
theorem dX13_init_76 : decode cX13_init 76 = .ok (.aload_n 0, 1) := by decide +kernel
theorem dX13_init_77 : decode cX13_init 77 = .ok (.sipush 9000, 3) := by decide +kernel
theorem dX13_init_80 : decode cX13_init 80 = .ok (.newarray .int, 2) := by decide +kernel
theorem dX13_init_82 : decode cX13_init 82 = .ok (.putfield 34, 3) := by decide +kernel
theorem dX13_init_85 : decode cX13_init 85 = .ok (.aload_n 0, 1) := by decide +kernel
theorem dX13_init_86 : decode cX13_init 86 = .ok (.sipush 9000, 3) := by decide +kernel
theorem dX13_init_89 : decode cX13_init 89 = .ok (.newarray .int, 2) := by decide +kernel
theorem dX13_init_91 : decode cX13_init 91 = .ok (.putfield 37, 3) := by decide +kernel
theorem dX13_init_94 : decode cX13_init 94 = .ok (.aload_n 0, 1) := by decide +kernel
theorem dX13_init_95 : decode cX13_init 95 = .ok (.sipush 9000, 3) := by decide +kernel
theorem dX13_init_98 : decode cX13_init 98 = .ok (.newarray .int, 2) := by decide +kernel
theorem dX13_init_100 : decode cX13_init 100 = .ok (.putfield 40, 3) := by decide +kernel
theorem dX13_init_103 : decode cX13_init 103 = .ok (.aload_n 0, 1) := by decide +kernel
theorem dX13_init_104 : decode cX13_init 104 = .ok (.sipush 9000, 3) := by decide +kernel
theorem dX13_init_107 : decode cX13_init 107 = .ok (.newarray .int, 2) := by decide +kernel
theorem dX13_init_109 : decode cX13_init 109 = .ok (.putfield 43, 3) := by decide +kernel
theorem dX13_init_112 : decode cX13_init 112 = .ok (.aload_n 0, 1) := by decide +kernel
theorem dX13_init_113 : decode cX13_init 113 = .ok (.sipush 9000, 3) := by decide +kernel
theorem dX13_init_116 : decode cX13_init 116 = .ok (.newarray .int, 2) := by decide +kernel
theorem dX13_init_118 : decode cX13_init 118 = .ok (.putfield 46, 3) := by decide +kernel
theorem dX13_init_121 : decode cX13_init 121 = .ok (.aload_n 0, 1) := by decide +kernel
theorem dX13_init_122 : decode cX13_init 122 = .ok (.sipush 9000, 3) := by decide +kernel
theorem dX13_init_125 : decode cX13_init 125 = .ok (.newarray .int, 2) := by decide +kernel
theorem dX13_init_127 : decode cX13_init 127 = .ok (.putfield 49, 3) := by decide +kernel
theorem dX13_init_130 : decode cX13_init 130 = .ok (.aload_n 0, 1) := by decide +kernel
theorem dX13_init_131 : decode cX13_init 131 = .ok (.sipush 9000, 3) := by decide +kernel
theorem dX13_init_134 : decode cX13_init 134 = .ok (.newarray .int, 2) := by decide +kernel
theorem dX13_init_136 : decode cX13_init 136 = .ok (.putfield 52, 3) := by decide +kernel
theorem dX13_init_139 : decode cX13_init 139 = .ok (.aload_n 0, 1) := by decide +kernel
theorem dX13_init_140 : decode cX13_init 140 = .ok (.sipush 9000, 3) := by decide +kernel
theorem dX13_init_143 : decode cX13_init 143 = .ok (.newarray .int, 2) := by decide +kernel
theorem dX13_init_145 : decode cX13_init 145 = .ok (.putfield 55, 3) := by decide +kernel
theorem dX13_init_148 : decode cX13_init 148 = .ok (.aload_n 0, 1) := by decide +kernel
theorem dX13_init_149 : decode cX13_init 149 = .ok (.sipush 9000, 3) := by decide +kernel
theorem dX13_init_152 : decode cX13_init 152 = .ok (.newarray .boolean, 2) := by decide +kernel
theorem dX13_init_154 : decode cX13_init 154 = .ok (.putfield 58, 3) := by decide +kernel
theorem dX13_init_157 : decode cX13_init 157 = .ok (.aload_n 0, 1) := by decide +kernel
theorem dX13_init_158 : decode cX13_init 158 = .ok (.sipush 400, 3) := by decide +kernel
theorem dX13_init_161 : decode cX13_init 161 = .ok (.newarray .int, 2) := by decide +kernel
theorem dX13_init_163 : decode cX13_init 163 = .ok (.putfield 62, 3) := by decide +kernel
theorem dX13_init_166 : decode cX13_init 166 = .ok (.aload_n 0, 1) := by decide +kernel
theorem dX13_init_167 : decode cX13_init 167 = .ok (.sipush 400, 3) := by decide +kernel
theorem dX13_init_170 : decode cX13_init 170 = .ok (.newarray .int, 2) := by decide +kernel
theorem dX13_init_172 : decode cX13_init 172 = .ok (.putfield 65, 3) := by decide +kernel
theorem dX13_init_175 : decode cX13_init 175 = .ok (.aload_n 0, 1) := by decide +kernel
theorem dX13_init_176 : decode cX13_init 176 = .ok (.sipush 400, 3) := by decide +kernel
theorem dX13_init_179 : decode cX13_init 179 = .ok (.newarray .int, 2) := by decide +kernel
theorem dX13_init_181 : decode cX13_init 181 = .ok (.putfield 68, 3) := by decide +kernel
theorem dX13_init_184 : decode cX13_init 184 = .ok (.aload_n 0, 1) := by decide +kernel
theorem dX13_init_185 : decode cX13_init 185 = .ok (.sipush 800, 3) := by decide +kernel
theorem dX13_init_188 : decode cX13_init 188 = .ok (.newarray .int, 2) := by decide +kernel
theorem dX13_init_190 : decode cX13_init 190 = .ok (.putfield 71, 3) := by decide +kernel
theorem dX13_init_193 : decode cX13_init 193 = .ok (.aload_n 0, 1) := by decide +kernel
theorem dX13_init_194 : decode cX13_init 194 = .ok (.sipush 800, 3) := by decide +kernel
theorem dX13_init_197 : decode cX13_init 197 = .ok (.newarray .int, 2) := by decide +kernel
theorem dX13_init_199 : decode cX13_init 199 = .ok (.putfield 74, 3) := by decide +kernel
theorem dX13_init_202 : decode cX13_init 202 = .ok (.aload_n 0, 1) := by decide +kernel
theorem dX13_init_203 : decode cX13_init 203 = .ok (.sipush 800, 3) := by decide +kernel
theorem dX13_init_206 : decode cX13_init 206 = .ok (.newarray .int, 2) := by decide +kernel
theorem dX13_init_208 : decode cX13_init 208 = .ok (.putfield 77, 3) := by decide +kernel
theorem dX13_init_211 : decode cX13_init 211 = .ok (.aload_n 0, 1) := by decide +kernel
theorem dX13_init_212 : decode cX13_init 212 = .ok (.sipush 800, 3) := by decide +kernel
theorem dX13_init_215 : decode cX13_init 215 = .ok (.newarray .int, 2) := by decide +kernel
theorem dX13_init_217 : decode cX13_init 217 = .ok (.putfield 80, 3) := by decide +kernel
theorem dX13_init_220 : decode cX13_init 220 = .ok (.aload_n 0, 1) := by decide +kernel
theorem dX13_init_221 : decode cX13_init 221 = .ok (.sipush 800, 3) := by decide +kernel
theorem dX13_init_224 : decode cX13_init 224 = .ok (.newarray .boolean, 2) := by decide +kernel
theorem dX13_init_226 : decode cX13_init 226 = .ok (.putfield 83, 3) := by decide +kernel
theorem dX13_init_229 : decode cX13_init 229 = .ok (.aload_n 0, 1) := by decide +kernel
theorem dX13_init_230 : decode cX13_init 230 = .ok (.sipush 800, 3) := by decide +kernel
theorem dX13_init_233 : decode cX13_init 233 = .ok (.newarray .int, 2) := by decide +kernel
theorem dX13_init_235 : decode cX13_init 235 = .ok (.putfield 86, 3) := by decide +kernel
theorem dX13_init_238 : decode cX13_init 238 = .ok (.aload_n 0, 1) := by decide +kernel
theorem dX13_init_239 : decode cX13_init 239 = .ok (.sipush 800, 3) := by decide +kernel
theorem dX13_init_242 : decode cX13_init 242 = .ok (.newarray .int, 2) := by decide +kernel
theorem dX13_init_244 : decode cX13_init 244 = .ok (.putfield 89, 3) := by decide +kernel
theorem dX13_init_247 : decode cX13_init 247 = .ok (.aload_n 0, 1) := by decide +kernel
theorem dX13_init_248 : decode cX13_init 248 = .ok (.sipush 800, 3) := by decide +kernel
theorem dX13_init_251 : decode cX13_init 251 = .ok (.newarray .int, 2) := by decide +kernel
theorem dX13_init_253 : decode cX13_init 253 = .ok (.putfield 92, 3) := by decide +kernel
theorem dX13_init_256 : decode cX13_init 256 = .ok (.aload_n 0, 1) := by decide +kernel
theorem dX13_init_257 : decode cX13_init 257 = .ok (.sipush 800, 3) := by decide +kernel
theorem dX13_init_260 : decode cX13_init 260 = .ok (.newarray .int, 2) := by decide +kernel
theorem dX13_init_262 : decode cX13_init 262 = .ok (.putfield 95, 3) := by decide +kernel
theorem dX13_init_265 : decode cX13_init 265 = .ok (.aload_n 0, 1) := by decide +kernel
theorem dX13_init_266 : decode cX13_init 266 = .ok (.sipush 800, 3) := by decide +kernel
theorem dX13_init_269 : decode cX13_init 269 = .ok (.newarray .int, 2) := by decide +kernel
theorem dX13_init_271 : decode cX13_init 271 = .ok (.putfield 98, 3) := by decide +kernel
theorem dX13_init_274 : decode cX13_init 274 = .ok (.aload_n 0, 1) := by decide +kernel
theorem dX13_init_275 : decode cX13_init 275 = .ok (.sipush 1500, 3) := by decide +kernel
theorem dX13_init_278 : decode cX13_init 278 = .ok (.newarray .int, 2) := by decide +kernel
theorem dX13_init_280 : decode cX13_init 280 = .ok (.putfield 101, 3) := by decide +kernel
theorem dX13_init_283 : decode cX13_init 283 = .ok (.aload_n 0, 1) := by decide +kernel
theorem dX13_init_284 : decode cX13_init 284 = .ok (.sipush 1500, 3) := by decide +kernel
theorem dX13_init_287 : decode cX13_init 287 = .ok (.newarray .int, 2) := by decide +kernel
theorem dX13_init_289 : decode cX13_init 289 = .ok (.putfield 104, 3) := by decide +kernel
theorem dX13_init_292 : decode cX13_init 292 = .ok (.aload_n 0, 1) := by decide +kernel
theorem dX13_init_293 : decode cX13_init 293 = .ok (.sipush 1500, 3) := by decide +kernel
theorem dX13_init_296 : decode cX13_init 296 = .ok (.newarray .boolean, 2) := by decide +kernel
theorem dX13_init_298 : decode cX13_init 298 = .ok (.putfield 107, 3) := by decide +kernel
theorem dX13_init_301 : decode cX13_init 301 = .ok (.aload_n 0, 1) := by decide +kernel
theorem dX13_init_302 : decode cX13_init 302 = .ok (.sipush 1500, 3) := by decide +kernel
theorem dX13_init_305 : decode cX13_init 305 = .ok (.newarray .int, 2) := by decide +kernel
theorem dX13_init_307 : decode cX13_init 307 = .ok (.putfield 110, 3) := by decide +kernel
theorem dX13_init_310 : decode cX13_init 310 = .ok (.aload_n 0, 1) := by decide +kernel
theorem dX13_init_311 : decode cX13_init 311 = .ok (.sipush 1500, 3) := by decide +kernel
theorem dX13_init_314 : decode cX13_init 314 = .ok (.newarray .int, 2) := by decide +kernel
theorem dX13_init_316 : decode cX13_init 316 = .ok (.putfield 113, 3) := by decide +kernel
theorem dX13_init_319 : decode cX13_init 319 = .ok (.aload_n 0, 1) := by decide +kernel
theorem dX13_init_320 : decode cX13_init 320 = .ok (.sipush 3000, 3) := by decide +kernel
theorem dX13_init_323 : decode cX13_init 323 = .ok (.newarray .int, 2) := by decide +kernel
theorem dX13_init_325 : decode cX13_init 325 = .ok (.putfield 116, 3) := by decide +kernel
theorem dX13_init_328 : decode cX13_init 328 = .ok (.aload_n 0, 1) := by decide +kernel
theorem dX13_init_329 : decode cX13_init 329 = .ok (.sipush 3000, 3) := by decide +kernel
theorem dX13_init_332 : decode cX13_init 332 = .ok (.newarray .int, 2) := by decide +kernel
theorem dX13_init_334 : decode cX13_init 334 = .ok (.putfield 119, 3) := by decide +kernel
theorem dX13_init_337 : decode cX13_init 337 = .ok (.aload_n 0, 1) := by decide +kernel
theorem dX13_init_338 : decode cX13_init 338 = .ok (.sipush 3000, 3) := by decide +kernel
theorem dX13_init_341 : decode cX13_init 341 = .ok (.newarray .boolean, 2) := by decide +kernel
theorem dX13_init_343 : decode cX13_init 343 = .ok (.putfield 122, 3) := by decide +kernel
theorem dX13_init_346 : decode cX13_init 346 = .ok (.aload_n 0, 1) := by decide +kernel
theorem dX13_init_347 : decode cX13_init 347 = .ok (.sipush 9000, 3) := by decide +kernel
theorem dX13_init_350 : decode cX13_init 350 = .ok (.newarray .int, 2) := by decide +kernel
theorem dX13_init_352 : decode cX13_init 352 = .ok (.putfield 125, 3) := by decide +kernel
theorem dX13_init_355 : decode cX13_init 355 = .ok (.aload_n 0, 1) := by decide +kernel
theorem dX13_init_356 : decode cX13_init 356 = .ok (.sipush 2000, 3) := by decide +kernel
theorem dX13_init_359 : decode cX13_init 359 = .ok (.newarray .int, 2) := by decide +kernel
theorem dX13_init_361 : decode cX13_init 361 = .ok (.putfield 128, 3) := by decide +kernel
theorem dX13_init_364 : decode cX13_init 364 = .ok (.aload_n 0, 1) := by decide +kernel
theorem dX13_init_365 : decode cX13_init 365 = .ok (.sipush 2000, 3) := by decide +kernel
theorem dX13_init_368 : decode cX13_init 368 = .ok (.newarray .int, 2) := by decide +kernel
theorem dX13_init_370 : decode cX13_init 370 = .ok (.putfield 131, 3) := by decide +kernel
theorem dX13_init_373 : decode cX13_init 373 = .ok (.aload_n 0, 1) := by decide +kernel
theorem dX13_init_374 : decode cX13_init 374 = .ok (.sipush 2000, 3) := by decide +kernel
theorem dX13_init_377 : decode cX13_init 377 = .ok (.newarray .int, 2) := by decide +kernel
theorem dX13_init_379 : decode cX13_init 379 = .ok (.putfield 134, 3) := by decide +kernel
theorem dX13_init_382 : decode cX13_init 382 = .ok (.aload_n 0, 1) := by decide +kernel
theorem dX13_init_383 : decode cX13_init 383 = .ok (.sipush 2000, 3) := by decide +kernel
theorem dX13_init_386 : decode cX13_init 386 = .ok (.newarray .int, 2) := by decide +kernel
theorem dX13_init_388 : decode cX13_init 388 = .ok (.putfield 137, 3) := by decide +kernel
theorem dX13_init_391 : decode cX13_init 391 = .ok (.aload_n 0, 1) := by decide +kernel
theorem dX13_init_392 : decode cX13_init 392 = .ok (.ldc 140, 2) := by decide +kernel
theorem dX13_init_394 : decode cX13_init 394 = .ok (.newarray .int, 2) := by decide +kernel
theorem dX13_init_396 : decode cX13_init 396 = .ok (.putfield 141, 3) := by decide +kernel
theorem dX13_init_399 : decode cX13_init 399 = .ok (.aload_n 0, 1) := by decide +kernel
theorem dX13_init_400 : decode cX13_init 400 = .ok (.sipush 200, 3) := by decide +kernel
theorem dX13_init_403 : decode cX13_init 403 = .ok (.newarray .int, 2) := by decide +kernel
theorem dX13_init_405 : decode cX13_init 405 = .ok (.putfield 144, 3) := by decide +kernel
theorem dX13_init_408 : decode cX13_init 408 = .ok (.aload_n 0, 1) := by decide +kernel
theorem dX13_init_409 : decode cX13_init 409 = .ok (.sipush 12000, 3) := by decide +kernel
theorem dX13_init_412 : decode cX13_init 412 = .ok (.newarray .int, 2) := by decide +kernel
theorem dX13_init_414 : decode cX13_init 414 = .ok (.putfield 147, 3) := by decide +kernel
theorem dX13_init_417 : decode cX13_init 417 = .ok (.aload_n 0, 1) := by decide +kernel
theorem dX13_init_418 : decode cX13_init 418 = .ok (.sipush 3000, 3) := by decide +kernel
theorem dX13_init_421 : decode cX13_init 421 = .ok (.newarray .int, 2) := by decide +kernel
theorem dX13_init_423 : decode cX13_init 423 = .ok (.putfield 150, 3) := by decide +kernel
theorem dX13_init_426 : decode cX13_init 426 = .ok (.aload_n 0, 1) := by decide +kernel
theorem dX13_init_427 : decode cX13_init 427 = .ok (.sipush 6200, 3) := by decide +kernel
theorem dX13_init_430 : decode cX13_init 430 = .ok (.newarray .int, 2) := by decide +kernel
theorem dX13_init_432 : decode cX13_init 432 = .ok (.putfield 153, 3) := by decide +kernel
theorem dX13_init_435 : decode cX13_init 435 = .ok (.aload_n 0, 1) := by decide +kernel
theorem dX13_init_436 : decode cX13_init 436 = .ok (.sipush 6200, 3) := by decide +kernel
theorem dX13_init_439 : decode cX13_init 439 = .ok (.newarray .int, 2) := by decide +kernel
theorem dX13_init_441 : decode cX13_init 441 = .ok (.putfield 156, 3) := by decide +kernel
theorem dX13_init_444 : decode cX13_init 444 = .ok (.aload_n 0, 1) := by decide +kernel
theorem dX13_init_445 : decode cX13_init 445 = .ok (.sipush 6200, 3) := by decide +kernel
theorem dX13_init_448 : decode cX13_init 448 = .ok (.newarray .int, 2) := by decide +kernel
theorem dX13_init_450 : decode cX13_init 450 = .ok (.putfield 159, 3) := by decide +kernel
theorem dX13_init_453 : decode cX13_init 453 = .ok (.aload_n 0, 1) := by decide +kernel
theorem dX13_init_454 : decode cX13_init 454 = .ok (.sipush 6200, 3) := by decide +kernel
theorem dX13_init_457 : decode cX13_init 457 = .ok (.newarray .int, 2) := by decide +kernel
theorem dX13_init_459 : decode cX13_init 459 = .ok (.putfield 162, 3) := by decide +kernel
theorem dX13_init_462 : decode cX13_init 462 = .ok (.aload_n 0, 1) := by decide +kernel
theorem dX13_init_463 : decode cX13_init 463 = .ok (.ldc 165, 2) := by decide +kernel
theorem dX13_init_465 : decode cX13_init 465 = .ok (.newarray .int, 2) := by decide +kernel
theorem dX13_init_467 : decode cX13_init 467 = .ok (.putfield 166, 3) := by decide +kernel
theorem dX13_init_470 : decode cX13_init 470 = .ok (.aload_n 0, 1) := by decide +kernel
theorem dX13_init_471 : decode cX13_init 471 = .ok (.sipush 1000, 3) := by decide +kernel
theorem dX13_init_474 : decode cX13_init 474 = .ok (.newarray .int, 2) := by decide +kernel
theorem dX13_init_476 : decode cX13_init 476 = .ok (.putfield 169, 3) := by decide +kernel
theorem dX13_init_479 : decode cX13_init 479 = .ok (.aload_n 0, 1) := by decide +kernel
theorem dX13_init_480 : decode cX13_init 480 = .ok (.sipush 1000, 3) := by decide +kernel
theorem dX13_init_483 : decode cX13_init 483 = .ok (.newarray .int, 2) := by decide +kernel
theorem dX13_init_485 : decode cX13_init 485 = .ok (.putfield 172, 3) := by decide +kernel
theorem dX13_init_488 : decode cX13_init 488 = .ok (.aload_n 0, 1) := by decide +kernel
theorem dX13_init_489 : decode cX13_init 489 = .ok (.sipush 1000, 3) := by decide +kernel
theorem dX13_init_492 : decode cX13_init 492 = .ok (.newarray .int, 2) := by decide +kernel
theorem dX13_init_494 : decode cX13_init 494 = .ok (.putfield 175, 3) := by decide +kernel
theorem dX13_init_497 : decode cX13_init 497 = .ok (.aload_n 0, 1) := by decide +kernel
theorem dX13_init_498 : decode cX13_init 498 = .ok (.sipush 1000, 3) := by decide +kernel
theorem dX13_init_501 : decode cX13_init 501 = .ok (.newarray .int, 2) := by decide +kernel
theorem dX13_init_503 : decode cX13_init 503 = .ok (.putfield 178, 3) := by decide +kernel
theorem dX13_init_506 : decode cX13_init 506 = .ok (.aload_n 0, 1) := by decide +kernel
theorem dX13_init_507 : decode cX13_init 507 = .ok (.sipush 3000, 3) := by decide +kernel
theorem dX13_init_510 : decode cX13_init 510 = .ok (.newarray .int, 2) := by decide +kernel
theorem dX13_init_512 : decode cX13_init 512 = .ok (.putfield 181, 3) := by decide +kernel
theorem dX13_init_515 : decode cX13_init 515 = .ok (.aload_n 0, 1) := by decide +kernel
theorem dX13_init_516 : decode cX13_init 516 = .ok (.sipush 3000, 3) := by decide +kernel
theorem dX13_init_519 : decode cX13_init 519 = .ok (.newarray .int, 2) := by decide +kernel
theorem dX13_init_521 : decode cX13_init 521 = .ok (.putfield 184, 3) := by decide +kernel
theorem dX13_init_524 : decode cX13_init 524 = .ok (.aload_n 0, 1) := by decide +kernel
theorem dX13_init_525 : decode cX13_init 525 = .ok (.sipush 3000, 3) := by decide +kernel
theorem dX13_init_528 : decode cX13_init 528 = .ok (.newarray .int, 2) := by decide +kernel
theorem dX13_init_530 : decode cX13_init 530 = .ok (.putfield 187, 3) := by decide +kernel
theorem dX13_init_533 : decode cX13_init 533 = .ok (.aload_n 0, 1) := by decide +kernel
theorem dX13_init_534 : decode cX13_init 534 = .ok (.sipush 3000, 3) := by decide +kernel
theorem dX13_init_537 : decode cX13_init 537 = .ok (.newarray .int, 2) := by decide +kernel
theorem dX13_init_539 : decode cX13_init 539 = .ok (.putfield 190, 3) := by decide +kernel
theorem dX13_init_542 : decode cX13_init 542 = .ok (.aload_n 0, 1) := by decide +kernel
theorem dX13_init_543 : decode cX13_init 543 = .ok (.ldc 193, 2) := by decide +kernel
theorem dX13_init_545 : decode cX13_init 545 = .ok (.newarray .int, 2) := by decide +kernel
theorem dX13_init_547 : decode cX13_init 547 = .ok (.putfield 194, 3) := by decide +kernel
theorem dX13_init_550 : decode cX13_init 550 = .ok (.aload_n 0, 1) := by decide +kernel
theorem dX13_init_551 : decode cX13_init 551 = .ok (.bipush 8, 2) := by decide +kernel
theorem dX13_init_553 : decode cX13_init 553 = .ok (.newarray .int, 2) := by decide +kernel
theorem dX13_init_555 : decode cX13_init 555 = .ok (.putfield 197, 3) := by decide +kernel
theorem dX13_init_558 : decode cX13_init 558 = .ok (.aload_n 0, 1) := by decide +kernel
theorem dX13_init_559 : decode cX13_init 559 = .ok (.ldc 193, 2) := by decide +kernel
theorem dX13_init_561 : decode cX13_init 561 = .ok (.newarray .int, 2) := by decide +kernel
theorem dX13_init_563 : decode cX13_init 563 = .ok (.putfield 200, 3) := by decide +kernel
theorem dX13_init_566 : decode cX13_init 566 = .ok (.aload_n 0, 1) := by decide +kernel
theorem dX13_init_567 : decode cX13_init 567 = .ok (.bipush 8, 2) := by decide +kernel
theorem dX13_init_569 : decode cX13_init 569 = .ok (.newarray .int, 2) := by decide +kernel
theorem dX13_init_571 : decode cX13_init 571 = .ok (.putfield 203, 3) := by decide +kernel
theorem dX13_init_574 : decode cX13_init 574 = .ok (.aload_n 0, 1) := by decide +kernel
theorem dX13_init_575 : decode cX13_init 575 = .ok (.ldc 140, 2) := by decide +kernel
theorem dX13_init_577 : decode cX13_init 577 = .ok (.newarray .int, 2) := by decide +kernel
theorem dX13_init_579 : decode cX13_init 579 = .ok (.putfield 206, 3) := by decide +kernel
theorem dX13_init_582 : decode cX13_init 582 = .ok (.aload_n 0, 1) := by decide +kernel
theorem dX13_init_583 : decode cX13_init 583 = .ok (.ldc 193, 2) := by decide +kernel
theorem dX13_init_585 : decode cX13_init 585 = .ok (.newarray .int, 2) := by decide +kernel
theorem dX13_init_587 : decode cX13_init 587 = .ok (.putfield 209, 3) := by decide +kernel
theorem dX13_init_590 : decode cX13_init 590 = .ok (.aload_n 0, 1) := by decide +kernel
theorem dX13_init_591 : decode cX13_init 591 = .ok (.bipush 8, 2) := by decide +kernel
theorem dX13_init_593 : decode cX13_init 593 = .ok (.newarray .int, 2) := by decide +kernel
theorem dX13_init_595 : decode cX13_init 595 = .ok (.putfield 212, 3) := by decide +kernel
theorem dX13_init_598 : decode cX13_init 598 = .ok (.aload_n 0, 1) := by decide +kernel
theorem dX13_init_599 : decode cX13_init 599 = .ok (.sipush 2048, 3) := by decide +kernel
theorem dX13_init_602 : decode cX13_init 602 = .ok (.newarray .int, 2) := by decide +kernel
theorem dX13_init_604 : decode cX13_init 604 = .ok (.putfield 215, 3) := by decide +kernel
theorem dX13_init_607 : decode cX13_init 607 = .ok (.aload_n 0, 1) := by decide +kernel
theorem dX13_init_608 : decode cX13_init 608 = .ok (.bipush 8, 2) := by decide +kernel
theorem dX13_init_610 : decode cX13_init 610 = .ok (.newarray .int, 2) := by decide +kernel
theorem dX13_init_612 : decode cX13_init 612 = .ok (.putfield 218, 3) := by decide +kernel
theorem dX13_init_615 : decode cX13_init 615 = .ok (.aload_n 0, 1) := by decide +kernel
theorem dX13_init_616 : decode cX13_init 616 = .ok (.bipush 8, 2) := by decide +kernel
theorem dX13_init_618 : decode cX13_init 618 = .ok (.newarray .int, 2) := by decide +kernel
theorem dX13_init_620 : decode cX13_init 620 = .ok (.putfield 221, 3) := by decide +kernel
theorem dX13_init_623 : decode cX13_init 623 = .ok (.aload_n 0, 1) := by decide +kernel
theorem dX13_init_624 : decode cX13_init 624 = .ok (.bipush 8, 2) := by decide +kernel
theorem dX13_init_626 : decode cX13_init 626 = .ok (.newarray .int, 2) := by decide +kernel
theorem dX13_init_628 : decode cX13_init 628 = .ok (.putfield 224, 3) := by decide +kernel
theorem dX13_init_631 : decode cX13_init 631 = .ok (.aload_n 0, 1) := by decide +kernel
theorem dX13_init_632 : decode cX13_init 632 = .ok (.bipush 8, 2) := by decide +kernel
theorem dX13_init_634 : decode cX13_init 634 = .ok (.newarray .int, 2) := by decide +kernel
theorem dX13_init_636 : decode cX13_init 636 = .ok (.putfield 227, 3) := by decide +kernel
theorem dX13_init_639 : decode cX13_init 639 = .ok (.aload_n 0, 1) := by decide +kernel
theorem dX13_init_640 : decode cX13_init 640 = .ok (.bipush 96, 2) := by decide +kernel
theorem dX13_init_642 : decode cX13_init 642 = .ok (.newarray .int, 2) := by decide +kernel
theorem dX13_init_644 : decode cX13_init 644 = .ok (.putfield 230, 3) := by decide +kernel
theorem dX13_init_647 : decode cX13_init 647 = .ok (.aload_n 0, 1) := by decide +kernel
theorem dX13_init_648 : decode cX13_init 648 = .ok (.bipush 8, 2) := by decide +kernel
theorem dX13_init_650 : decode cX13_init 650 = .ok (.newarray .int, 2) := by decide +kernel
theorem dX13_init_652 : decode cX13_init 652 = .ok (.putfield 233, 3) := by decide +kernel
theorem dX13_init_655 : decode cX13_init 655 = .ok (.aload_n 0, 1) := by decide +kernel
theorem dX13_init_656 : decode cX13_init 656 = .ok (.bipush 96, 2) := by decide +kernel
theorem dX13_init_658 : decode cX13_init 658 = .ok (.newarray .int, 2) := by decide +kernel
theorem dX13_init_660 : decode cX13_init 660 = .ok (.putfield 236, 3) := by decide +kernel
theorem dX13_init_663 : decode cX13_init 663 = .ok (.aload_n 0, 1) := by decide +kernel
theorem dX13_init_664 : decode cX13_init 664 = .ok (.bipush 96, 2) := by decide +kernel
theorem dX13_init_666 : decode cX13_init 666 = .ok (.newarray .int, 2) := by decide +kernel
theorem dX13_init_668 : decode cX13_init 668 = .ok (.putfield 239, 3) := by decide +kernel
theorem dX13_init_671 : decode cX13_init 671 = .ok (.aload_n 0, 1) := by decide +kernel
theorem dX13_init_672 : decode cX13_init 672 = .ok (.bipush 96, 2) := by decide +kernel
theorem dX13_init_674 : decode cX13_init 674 = .ok (.newarray .int, 2) := by decide +kernel
theorem dX13_init_676 : decode cX13_init 676 = .ok (.putfield 242, 3) := by decide +kernel
theorem dX13_init_679 : decode cX13_init 679 = .ok (.aload_n 0, 1) := by decide +kernel
theorem dX13_init_680 : decode cX13_init 680 = .ok (.sipush 6000, 3) := by decide +kernel
theorem dX13_init_683 : decode cX13_init 683 = .ok (.newarray .int, 2) := by decide +kernel
theorem dX13_init_685 : decode cX13_init 685 = .ok (.putfield 245, 3) := by decide +kernel
theorem dX13_init_688 : decode cX13_init 688 = .ok (.aload_n 0, 1) := by decide +kernel
theorem dX13_init_689 : decode cX13_init 689 = .ok (.sipush 309, 3) := by decide +kernel
theorem dX13_init_692 : decode cX13_init 692 = .ok (.newarray .int, 2) := by decide +kernel
theorem dX13_init_694 : decode cX13_init 694 = .ok (.putfield 248, 3) := by decide +kernel
theorem dX13_init_697 : decode cX13_init 697 = .ok (.aload_n 0, 1) := by decide +kernel
theorem dX13_init_698 : decode cX13_init 698 = .ok (.sipush 2100, 3) := by decide +kernel
theorem dX13_init_701 : decode cX13_init 701 = .ok (.newarray .int, 2) := by decide +kernel
theorem dX13_init_703 : decode cX13_init 703 = .ok (.putfield 251, 3) := by decide +kernel
theorem dX13_init_706 : decode cX13_init 706 = .ok (.aload_n 0, 1) := by decide +kernel
theorem dX13_init_707 : decode cX13_init 707 = .ok (.sipush 2100, 3) := by decide +kernel
theorem dX13_init_710 : decode cX13_init 710 = .ok (.newarray .int, 2) := by decide +kernel
theorem dX13_init_712 : decode cX13_init 712 = .ok (.putfield 254, 3) := by decide +kernel
theorem dX13_init_715 : decode cX13_init 715 = .ok (.aload_n 0, 1) := by decide +kernel
theorem dX13_init_716 : decode cX13_init 716 = .ok (.iconst (-1), 1) := by decide +kernel
theorem dX13_init_717 : decode cX13_init 717 = .ok (.putfield 257, 3) := by decide +kernel
theorem dX13_init_720 : decode cX13_init 720 = .ok (.aload_n 0, 1) := by decide +kernel
theorem dX13_init_721 : decode cX13_init 721 = .ok (.iconst (-1), 1) := by decide +kernel
theorem dX13_init_722 : decode cX13_init 722 = .ok (.putfield 261, 3) := by decide +kernel
theorem dX13_init_725 : decode cX13_init 725 = .ok (.aload_n 0, 1) := by decide +kernel
theorem dX13_init_726 : decode cX13_init 726 = .ok (.iconst (-1), 1) := by decide +kernel
theorem dX13_init_727 : decode cX13_init 727 = .ok (.putfield 264, 3) := by decide +kernel
theorem dX13_init_730 : decode cX13_init 730 = .ok (.aload_n 0, 1) := by decide +kernel
theorem dX13_init_731 : decode cX13_init 731 = .ok (.sipush 1501, 3) := by decide +kernel
theorem dX13_init_734 : decode cX13_init 734 = .ok (.newarray .boolean, 2) := by decide +kernel
theorem dX13_init_736 : decode cX13_init 736 = .ok (.putfield 267, 3) := by decide +kernel
theorem dX13_init_739 : decode cX13_init 739 = .ok (.aload_n 0, 1) := by decide +kernel
theorem dX13_init_740 : decode cX13_init 740 = .ok (.bipush 30, 2) := by decide +kernel
theorem dX13_init_742 : decode cX13_init 742 = .ok (.newarray .int, 2) := by decide +kernel
theorem dX13_init_744 : decode cX13_init 744 = .ok (.putfield 270, 3) := by decide +kernel
theorem dX13_init_747 : decode cX13_init 747 = .ok (.aload_n 0, 1) := by decide +kernel
theorem dX13_init_748 : decode cX13_init 748 = .ok (.bipush 31, 2) := by decide +kernel
theorem dX13_init_750 : decode cX13_init 750 = .ok (.newarray .int, 2) := by decide +kernel
theorem dX13_init_752 : decode cX13_init 752 = .ok (.putfield 273, 3) := by decide +kernel
theorem dX13_init_755 : decode cX13_init 755 = .ok (.aload_n 0, 1) := by decide +kernel
theorem dX13_init_756 : decode cX13_init 756 = .ok (.bipush 6, 2) := by decide +kernel
theorem dX13_init_758 : decode cX13_init 758 = .ok (.newarray .int, 2) := by decide +kernel
theorem dX13_init_760 : decode cX13_init 760 = .ok (.putfield 276, 3) := by decide +kernel
theorem dX13_init_763 : decode cX13_init 763 = .ok (.aload_n 0, 1) := by decide +kernel
theorem dX13_init_764 : decode cX13_init 764 = .ok (.sipush 2001, 3) := by decide +kernel
theorem dX13_init_767 : decode cX13_init 767 = .ok (.newarray .int, 2) := by decide +kernel
theorem dX13_init_769 : decode cX13_init 769 = .ok (.putfield 279, 3) := by decide +kernel
theorem dX13_init_772 : decode cX13_init 772 = .ok (.aload_n 0, 1) := by decide +kernel
theorem dX13_init_773 : decode cX13_init 773 = .ok (.sipush 2001, 3) := by decide +kernel
theorem dX13_init_776 : decode cX13_init 776 = .ok (.newarray .int, 2) := by decide +kernel
theorem dX13_init_778 : decode cX13_init 778 = .ok (.putfield 282, 3) := by decide +kernel
theorem dX13_init_781 : decode cX13_init 781 = .ok (.aload_n 0, 1) := by decide +kernel
theorem dX13_init_782 : decode cX13_init 782 = .ok (.sipush 2001, 3) := by decide +kernel
theorem dX13_init_785 : decode cX13_init 785 = .ok (.newarray .int, 2) := by decide +kernel
theorem dX13_init_787 : decode cX13_init 787 = .ok (.putfield 285, 3) := by decide +kernel
theorem dX13_init_790 : decode cX13_init 790 = .ok (.aload_n 0, 1) := by decide +kernel
theorem dX13_init_791 : decode cX13_init 791 = .ok (.sipush 20000, 3) := by decide +kernel
theorem dX13_init_794 : decode cX13_init 794 = .ok (.newarray .int, 2) := by decide +kernel
theorem dX13_init_796 : decode cX13_init 796 = .ok (.putfield 288, 3) := by decide +kernel
theorem dX13_init_799 : decode cX13_init 799 = .ok (.aload_n 0, 1) := by decide +kernel
theorem dX13_init_800 : decode cX13_init 800 = .ok (.sipush 1000, 3) := by decide +kernel
theorem dX13_init_803 : decode cX13_init 803 = .ok (.newarray .int, 2) := by decide +kernel
theorem dX13_init_805 : decode cX13_init 805 = .ok (.putfield 291, 3) := by decide +kernel
theorem dX13_init_808 : decode cX13_init 808 = .ok (.aload_n 0, 1) := by decide +kernel
theorem dX13_init_809 : decode cX13_init 809 = .ok (.bipush 60, 2) := by decide +kernel
theorem dX13_init_811 : decode cX13_init 811 = .ok (.newarray .int, 2) := by decide +kernel
theorem dX13_init_813 : decode cX13_init 813 = .ok (.putfield 294, 3) := by decide +kernel
theorem dX13_init_816 : decode cX13_init 816 = .ok (.aload_n 0, 1) := by decide +kernel
theorem dX13_init_817 : decode cX13_init 817 = .ok (.bipush 60, 2) := by decide +kernel
theorem dX13_init_819 : decode cX13_init 819 = .ok (.newarray .int, 2) := by decide +kernel
theorem dX13_init_821 : decode cX13_init 821 = .ok (.putfield 297, 3) := by decide +kernel
theorem dX13_init_824 : decode cX13_init 824 = .ok (.aload_n 0, 1) := by decide +kernel
theorem dX13_init_825 : decode cX13_init 825 = .ok (.bipush 60, 2) := by decide +kernel
theorem dX13_init_827 : decode cX13_init 827 = .ok (.newarray .int, 2) := by decide +kernel
theorem dX13_init_829 : decode cX13_init 829 = .ok (.putfield 300, 3) := by decide +kernel
theorem dX13_init_832 : decode cX13_init 832 = .ok (.aload_n 0, 1) := by decide +kernel
theorem dX13_init_833 : decode cX13_init 833 = .ok (.bipush 60, 2) := by decide +kernel
theorem dX13_init_835 : decode cX13_init 835 = .ok (.newarray .int, 2) := by decide +kernel
theorem dX13_init_837 : decode cX13_init 837 = .ok (.putfield 303, 3) := by decide +kernel
theorem dX13_init_840 : decode cX13_init 840 = .ok (.aload_n 0, 1) := by decide +kernel
theorem dX13_init_841 : decode cX13_init 841 = .ok (.sipush 3600, 3) := by decide +kernel
theorem dX13_init_844 : decode cX13_init 844 = .ok (.newarray .int, 2) := by decide +kernel
theorem dX13_init_846 : decode cX13_init 846 = .ok (.putfield 306, 3) := by decide +kernel
theorem dX13_init_849 : decode cX13_init 849 = .ok (.aload_n 0, 1) := by decide +kernel
theorem dX13_init_850 : decode cX13_init 850 = .ok (.invokevirtual 309, 3) := by decide +kernel
theorem dX13_init_853 : decode cX13_init 853 = .ok (.return_, 1) := by decide +kernel
theorem mt_X13_again : mx_mt 515 = some (yX13_again, cX13_again, 4, none) := rfl
theorem dX13_again_0 : decode cX13_again 0 = .ok (.iconst 0, 1) := by decide +kernel
theorem dX13_again_1 : decode cX13_again 1 = .ok (.istore_n 2, 1) := by decide +kernel
theorem dX13_again_2 : decode cX13_again 2 = .ok (.iload_n 2, 1) := by decide +kernel
theorem dX13_again_3 : decode cX13_again 3 = .ok (.sipush 256, 3) := by decide +kernel
theorem dX13_again_6 : decode cX13_again 6 = .ok (.if_icmp .ge 27, 3) := by decide +kernel
theorem dX13_again_9 : decode cX13_again 9 = .ok (.aload_n 0, 1) := by decide +kernel
theorem dX13_again_10 : decode cX13_again 10 = .ok (.getfield 215, 3) := by decide +kernel
theorem dX13_again_13 : decode cX13_again 13 = .ok (.sipush 256, 3) := by decide +kernel
theorem dX13_again_16 : decode cX13_again 16 = .ok (.iload_n 1, 1) := by decide +kernel
theorem dX13_again_17 : decode cX13_again 17 = .ok (.imul, 1) := by decide +kernel
theorem dX13_again_18 : decode cX13_again 18 = .ok (.iload_n 2, 1) := by decide +kernel
theorem dX13_again_19 : decode cX13_again 19 = .ok (.iadd, 1) := by decide +kernel
theorem dX13_again_20 : decode cX13_again 20 = .ok (.aload_n 0, 1) := by decide +kernel
theorem dX13_again_21 : decode cX13_again 21 = .ok (.getfield 248, 3) := by decide +kernel
theorem dX13_again_24 : decode cX13_again 24 = .ok (.iload_n 2, 1) := by decide +kernel
theorem dX13_again_25 : decode cX13_again 25 = .ok (.iaload, 1) := by decide +kernel
theorem dX13_again_26 : decode cX13_again 26 = .ok (.iastore, 1) := by decide +kernel
theorem dX13_again_27 : decode cX13_again 27 = .ok (.iinc 2 1, 3) := by decide +kernel
theorem dX13_again_30 : decode cX13_again 30 = .ok (.goto (-28), 3) := by decide +kernel
theorem dX13_again_33 : decode cX13_again 33 = .ok (.sipush 256, 3) := by decide +kernel
theorem dX13_again_36 : decode cX13_again 36 = .ok (.istore_n 2, 1) := by decide +kernel
theorem dX13_again_37 : decode cX13_again 37 = .ok (.aload_n 0, 1) := by decide +kernel
theorem dX13_again_38 : decode cX13_again 38 = .ok (.getfield 218, 3) := by decide +kernel
theorem dX13_again_41 : decode cX13_again 41 = .ok (.iload_n 1, 1) := by decide +kernel
theorem dX13_again_42 : decode cX13_again 42 = .ok (.aload_n 0, 1) := by decide +kernel
theorem dX13_again_43 : decode cX13_again 43 = .ok (.getfield 248, 3) := by decide +kernel
theorem dX13_again_46 : decode cX13_again 46 = .ok (.iload_n 2, 1) := by decide +kernel
theorem dX13_again_47 : decode cX13_again 47 = .ok (.iaload, 1) := by decide +kernel
theorem dX13_again_48 : decode cX13_again 48 = .ok (.iastore, 1) := by decide +kernel
theorem dX13_again_49 : decode cX13_again 49 = .ok (.aload_n 0, 1) := by decide +kernel
theorem dX13_again_50 : decode cX13_again 50 = .ok (.getfield 221, 3) := by decide +kernel
theorem dX13_again_53 : decode cX13_again 53 = .ok (.iload_n 1, 1) := by decide +kernel
theorem dX13_again_54 : decode cX13_again 54 = .ok (.aload_n 0, 1) := by decide +kernel
theorem dX13_again_55 : decode cX13_again 55 = .ok (.getfield 248, 3) := by decide +kernel
theorem dX13_again_58 : decode cX13_again 58 = .ok (.iload_n 2, 1) := by decide +kernel
theorem dX13_again_59 : decode cX13_again 59 = .ok (.iconst 1, 1) := by decide +kernel
theorem dX13_again_60 : decode cX13_again 60 = .ok (.iadd, 1) := by decide +kernel
theorem dX13_again_61 : decode cX13_again 61 = .ok (.iaload, 1) := by decide +kernel
theorem dX13_again_62 : decode cX13_again 62 = .ok (.iastore, 1) := by decide +kernel
theorem dX13_again_63 : decode cX13_again 63 = .ok (.aload_n 0, 1) := by decide +kernel
theorem dX13_again_64 : decode cX13_again 64 = .ok (.getfield 224, 3) := by decide +kernel
theorem dX13_again_67 : decode cX13_again 67 = .ok (.iload_n 1, 1) := by decide +kernel
theorem dX13_again_68 : decode cX13_again 68 = .ok (.aload_n 0, 1) := by decide +kernel
theorem dX13_again_69 : decode cX13_again 69 = .ok (.getfield 248, 3) := by decide +kernel
theorem dX13_again_72 : decode cX13_again 72 = .ok (.iload_n 2, 1) := by decide +kernel
theorem dX13_again_73 : decode cX13_again 73 = .ok (.iconst 2, 1) := by decide +kernel
theorem dX13_again_74 : decode cX13_again 74 = .ok (.iadd, 1) := by decide +kernel
theorem dX13_again_75 : decode cX13_again 75 = .ok (.iaload, 1) := by decide +kernel
theorem dX13_again_76 : decode cX13_again 76 = .ok (.iastore, 1) := by decide +kernel
theorem dX13_again_77 : decode cX13_again 77 = .ok (.aload_n 0, 1) := by decide +kernel
theorem dX13_again_78 : decode cX13_again 78 = .ok (.getfield 227, 3) := by decide +kernel
theorem dX13_again_81 : decode cX13_again 81 = .ok (.iload_n 1, 1) := by decide +kernel
theorem dX13_again_82 : decode cX13_again 82 = .ok (.aload_n 0, 1) := by decide +kernel
theorem dX13_again_83 : decode cX13_again 83 = .ok (.getfield 248, 3) := by decide +kernel
theorem dX13_again_86 : decode cX13_again 86 = .ok (.iload_n 2, 1) := by decide +kernel
theorem dX13_again_87 : decode cX13_again 87 = .ok (.iconst 3, 1) := by decide +kernel
theorem dX13_again_88 : decode cX13_again 88 = .ok (.iadd, 1) := by decide +kernel
theorem dX13_again_89 : decode cX13_again 89 = .ok (.iaload, 1) := by decide +kernel
theorem dX13_again_90 : decode cX13_again 90 = .ok (.iastore, 1) := by decide +kernel
theorem dX13_again_91 : decode cX13_again 91 = .ok (.aload_n 0, 1) := by decide +kernel
theorem dX13_again_92 : decode cX13_again 92 = .ok (.getfield 233, 3) := by decide +kernel
theorem dX13_again_95 : decode cX13_again 95 = .ok (.iload_n 1, 1) := by decide +kernel
theorem dX13_again_96 : decode cX13_again 96 = .ok (.aload_n 0, 1) := by decide +kernel
theorem dX13_again_97 : decode cX13_again 97 = .ok (.getfield 248, 3) := by decide +kernel
theorem dX13_again_100 : decode cX13_again 100 = .ok (.iload_n 2, 1) := by decide +kernel
theorem dX13_again_101 : decode cX13_again 101 = .ok (.iconst 4, 1) := by decide +kernel
theorem dX13_again_102 : decode cX13_again 102 = .ok (.iadd, 1) := by decide +kernel
theorem dX13_again_103 : decode cX13_again 103 = .ok (.iaload, 1) := by decide +kernel
theorem dX13_again_104 : decode cX13_again 104 = .ok (.iastore, 1) := by decide +kernel
theorem dX13_again_105 : decode cX13_again 105 = .ok (.iconst 0, 1) := by decide +kernel
theorem dX13_again_106 : decode cX13_again 106 = .ok (.istore_n 3, 1) := by decide +kernel
theorem dX13_again_107 : decode cX13_again 107 = .ok (.iload_n 3, 1) := by decide +kernel
theorem dX13_again_108 : decode cX13_again 108 = .ok (.bipush 12, 2) := by decide +kernel
theorem dX13_again_110 : decode cX13_again 110 = .ok (.if_icmp .ge 96, 3) := by decide +kernel
theorem dX13_again_113 : decode cX13_again 113 = .ok (.aload_n 0, 1) := by decide +kernel
theorem dX13_again_114 : decode cX13_again 114 = .ok (.getfield 230, 3) := by decide +kernel
theorem dX13_again_117 : decode cX13_again 117 = .ok (.bipush 12, 2) := by decide +kernel
theorem dX13_again_119 : decode cX13_again 119 = .ok (.iload_n 1, 1) := by decide +kernel
theorem dX13_again_120 : decode cX13_again 120 = .ok (.imul, 1) := by decide +kernel
theorem dX13_again_121 : decode cX13_again 121 = .ok (.iload_n 3, 1) := by decide +kernel
theorem dX13_again_122 : decode cX13_again 122 = .ok (.iadd, 1) := by decide +kernel
theorem dX13_again_123 : decode cX13_again 123 = .ok (.aload_n 0, 1) := by decide +kernel
theorem dX13_again_124 : decode cX13_again 124 = .ok (.getfield 248, 3) := by decide +kernel
theorem dX13_again_127 : decode cX13_again 127 = .ok (.iload_n 2, 1) := by decide +kernel
theorem dX13_again_128 : decode cX13_again 128 = .ok (.iconst 5, 1) := by decide +kernel
theorem dX13_again_129 : decode cX13_again 129 = .ok (.iadd, 1) := by decide +kernel
theorem dX13_again_130 : decode cX13_again 130 = .ok (.iload_n 3, 1) := by decide +kernel
theorem dX13_again_131 : decode cX13_again 131 = .ok (.iadd, 1) := by decide +kernel
theorem dX13_again_132 : decode cX13_again 132 = .ok (.iaload, 1) := by decide +kernel
theorem dX13_again_133 : decode cX13_again 133 = .ok (.iastore, 1) := by decide +kernel
theorem dX13_again_134 : decode cX13_again 134 = .ok (.aload_n 0, 1) := by decide +kernel
theorem dX13_again_135 : decode cX13_again 135 = .ok (.getfield 236, 3) := by decide +kernel
theorem dX13_again_138 : decode cX13_again 138 = .ok (.bipush 12, 2) := by decide +kernel
theorem dX13_again_140 : decode cX13_again 140 = .ok (.iload_n 1, 1) := by decide +kernel
theorem dX13_again_141 : decode cX13_again 141 = .ok (.imul, 1) := by decide +kernel
theorem dX13_again_142 : decode cX13_again 142 = .ok (.iload_n 3, 1) := by decide +kernel
theorem dX13_again_143 : decode cX13_again 143 = .ok (.iadd, 1) := by decide +kernel
theorem dX13_again_144 : decode cX13_again 144 = .ok (.aload_n 0, 1) := by decide +kernel
theorem dX13_again_145 : decode cX13_again 145 = .ok (.getfield 248, 3) := by decide +kernel
theorem dX13_again_148 : decode cX13_again 148 = .ok (.iload_n 2, 1) := by decide +kernel
theorem dX13_again_149 : decode cX13_again 149 = .ok (.bipush 17, 2) := by decide +kernel
theorem dX13_again_151 : decode cX13_again 151 = .ok (.iadd, 1) := by decide +kernel
theorem dX13_again_152 : decode cX13_again 152 = .ok (.iload_n 3, 1) := by decide +kernel
theorem dX13_again_153 : decode cX13_again 153 = .ok (.iadd, 1) := by decide +kernel
theorem dX13_again_154 : decode cX13_again 154 = .ok (.iaload, 1) := by decide +kernel
theorem dX13_again_155 : decode cX13_again 155 = .ok (.iastore, 1) := by decide +kernel
theorem dX13_again_156 : decode cX13_again 156 = .ok (.aload_n 0, 1) := by decide +kernel
theorem dX13_again_157 : decode cX13_again 157 = .ok (.getfield 239, 3) := by decide +kernel
theorem dX13_again_160 : decode cX13_again 160 = .ok (.bipush 12, 2) := by decide +kernel
theorem dX13_again_162 : decode cX13_again 162 = .ok (.iload_n 1, 1) := by decide +kernel
theorem dX13_again_163 : decode cX13_again 163 = .ok (.imul, 1) := by decide +kernel
theorem dX13_again_164 : decode cX13_again 164 = .ok (.iload_n 3, 1) := by decide +kernel
theorem dX13_again_165 : decode cX13_again 165 = .ok (.iadd, 1) := by decide +kernel
theorem dX13_again_166 : decode cX13_again 166 = .ok (.aload_n 0, 1) := by decide +kernel
theorem dX13_again_167 : decode cX13_again 167 = .ok (.getfield 248, 3) := by decide +kernel
theorem dX13_again_170 : decode cX13_again 170 = .ok (.iload_n 2, 1) := by decide +kernel
theorem dX13_again_171 : decode cX13_again 171 = .ok (.bipush 29, 2) := by decide +kernel
theorem dX13_again_173 : decode cX13_again 173 = .ok (.iadd, 1) := by decide +kernel
theorem dX13_again_174 : decode cX13_again 174 = .ok (.iload_n 3, 1) := by decide +kernel
theorem dX13_again_175 : decode cX13_again 175 = .ok (.iadd, 1) := by decide +kernel
theorem dX13_again_176 : decode cX13_again 176 = .ok (.iaload, 1) := by decide +kernel
theorem dX13_again_177 : decode cX13_again 177 = .ok (.iastore, 1) := by decide +kernel
theorem dX13_again_178 : decode cX13_again 178 = .ok (.aload_n 0, 1) := by decide +kernel
theorem dX13_again_179 : decode cX13_again 179 = .ok (.getfield 242, 3) := by decide +kernel
theorem dX13_again_182 : decode cX13_again 182 = .ok (.bipush 12, 2) := by decide +kernel
theorem dX13_again_184 : decode cX13_again 184 = .ok (.iload_n 1, 1) := by decide +kernel
theorem dX13_again_185 : decode cX13_again 185 = .ok (.imul, 1) := by decide +kernel
theorem dX13_again_186 : decode cX13_again 186 = .ok (.iload_n 3, 1) := by decide +kernel
theorem dX13_again_187 : decode cX13_again 187 = .ok (.iadd, 1) := by decide +kernel
theorem dX13_again_188 : decode cX13_again 188 = .ok (.aload_n 0, 1) := by decide +kernel
theorem dX13_again_189 : decode cX13_again 189 = .ok (.getfield 248, 3) := by decide +kernel
theorem dX13_again_192 : decode cX13_again 192 = .ok (.iload_n 2, 1) := by decide +kernel
theorem dX13_again_193 : decode cX13_again 193 = .ok (.bipush 41, 2) := by decide +kernel
theorem dX13_again_195 : decode cX13_again 195 = .ok (.iadd, 1) := by decide +kernel
theorem dX13_again_196 : decode cX13_again 196 = .ok (.iload_n 3, 1) := by decide +kernel
theorem dX13_again_197 : decode cX13_again 197 = .ok (.iadd, 1) := by decide +kernel
theorem dX13_again_198 : decode cX13_again 198 = .ok (.iaload, 1) := by decide +kernel
theorem dX13_again_199 : decode cX13_again 199 = .ok (.iastore, 1) := by decide +kernel
theorem dX13_again_200 : decode cX13_again 200 = .ok (.iinc 3 1, 3) := by decide +kernel
theorem dX13_again_203 : decode cX13_again 203 = .ok (.goto (-96), 3) := by decide +kernel
theorem dX13_again_206 : decode cX13_again 206 = .ok (.return_, 1) := by decide +kernel
theorem mt_X13_aside : mx_mt 514 = some (yX13_aside, cX13_aside, 4, none) := rfl
theorem dX13_aside_0 : decode cX13_aside 0 = .ok (.iconst 0, 1) := by decide +kernel
theorem dX13_aside_1 : decode cX13_aside 1 = .ok (.istore_n 2, 1) := by decide +kernel
theorem dX13_aside_2 : decode cX13_aside 2 = .ok (.iload_n 2, 1) := by decide +kernel
theorem dX13_aside_3 : decode cX13_aside 3 = .ok (.sipush 256, 3) := by decide +kernel
theorem dX13_aside_6 : decode cX13_aside 6 = .ok (.if_icmp .ge 27, 3) := by decide +kernel
theorem dX13_aside_9 : decode cX13_aside 9 = .ok (.aload_n 0, 1) := by decide +kernel
theorem dX13_aside_10 : decode cX13_aside 10 = .ok (.getfield 248, 3) := by decide +kernel
theorem dX13_aside_13 : decode cX13_aside 13 = .ok (.iload_n 2, 1) := by decide +kernel
theorem dX13_aside_14 : decode cX13_aside 14 = .ok (.aload_n 0, 1) := by decide +kernel
theorem dX13_aside_15 : decode cX13_aside 15 = .ok (.getfield 215, 3) := by decide +kernel
theorem dX13_aside_18 : decode cX13_aside 18 = .ok (.sipush 256, 3) := by decide +kernel
theorem dX13_aside_21 : decode cX13_aside 21 = .ok (.iload_n 1, 1) := by decide +kernel
theorem dX13_aside_22 : decode cX13_aside 22 = .ok (.imul, 1) := by decide +kernel
theorem dX13_aside_23 : decode cX13_aside 23 = .ok (.iload_n 2, 1) := by decide +kernel
theorem dX13_aside_24 : decode cX13_aside 24 = .ok (.iadd, 1) := by decide +kernel
theorem dX13_aside_25 : decode cX13_aside 25 = .ok (.iaload, 1) := by decide +kernel
theorem dX13_aside_26 : decode cX13_aside 26 = .ok (.iastore, 1) := by decide +kernel
theorem dX13_aside_27 : decode cX13_aside 27 = .ok (.iinc 2 1, 3) := by decide +kernel
theorem dX13_aside_30 : decode cX13_aside 30 = .ok (.goto (-28), 3) := by decide +kernel
theorem dX13_aside_33 : decode cX13_aside 33 = .ok (.sipush 256, 3) := by decide +kernel
theorem dX13_aside_36 : decode cX13_aside 36 = .ok (.istore_n 2, 1) := by decide +kernel
theorem dX13_aside_37 : decode cX13_aside 37 = .ok (.aload_n 0, 1) := by decide +kernel
theorem dX13_aside_38 : decode cX13_aside 38 = .ok (.getfield 248, 3) := by decide +kernel
theorem dX13_aside_41 : decode cX13_aside 41 = .ok (.iload_n 2, 1) := by decide +kernel
theorem dX13_aside_42 : decode cX13_aside 42 = .ok (.aload_n 0, 1) := by decide +kernel
theorem dX13_aside_43 : decode cX13_aside 43 = .ok (.getfield 218, 3) := by decide +kernel
theorem dX13_aside_46 : decode cX13_aside 46 = .ok (.iload_n 1, 1) := by decide +kernel
theorem dX13_aside_47 : decode cX13_aside 47 = .ok (.iaload, 1) := by decide +kernel
theorem dX13_aside_48 : decode cX13_aside 48 = .ok (.iastore, 1) := by decide +kernel
theorem dX13_aside_49 : decode cX13_aside 49 = .ok (.aload_n 0, 1) := by decide +kernel
theorem dX13_aside_50 : decode cX13_aside 50 = .ok (.getfield 248, 3) := by decide +kernel
theorem dX13_aside_53 : decode cX13_aside 53 = .ok (.iload_n 2, 1) := by decide +kernel
theorem dX13_aside_54 : decode cX13_aside 54 = .ok (.iconst 1, 1) := by decide +kernel
theorem dX13_aside_55 : decode cX13_aside 55 = .ok (.iadd, 1) := by decide +kernel
theorem dX13_aside_56 : decode cX13_aside 56 = .ok (.aload_n 0, 1) := by decide +kernel
theorem dX13_aside_57 : decode cX13_aside 57 = .ok (.getfield 221, 3) := by decide +kernel
theorem dX13_aside_60 : decode cX13_aside 60 = .ok (.iload_n 1, 1) := by decide +kernel
theorem dX13_aside_61 : decode cX13_aside 61 = .ok (.iaload, 1) := by decide +kernel
theorem dX13_aside_62 : decode cX13_aside 62 = .ok (.iastore, 1) := by decide +kernel
theorem dX13_aside_63 : decode cX13_aside 63 = .ok (.aload_n 0, 1) := by decide +kernel
theorem dX13_aside_64 : decode cX13_aside 64 = .ok (.getfield 248, 3) := by decide +kernel
theorem dX13_aside_67 : decode cX13_aside 67 = .ok (.iload_n 2, 1) := by decide +kernel
theorem dX13_aside_68 : decode cX13_aside 68 = .ok (.iconst 2, 1) := by decide +kernel
theorem dX13_aside_69 : decode cX13_aside 69 = .ok (.iadd, 1) := by decide +kernel
theorem dX13_aside_70 : decode cX13_aside 70 = .ok (.aload_n 0, 1) := by decide +kernel
theorem dX13_aside_71 : decode cX13_aside 71 = .ok (.getfield 224, 3) := by decide +kernel
theorem dX13_aside_74 : decode cX13_aside 74 = .ok (.iload_n 1, 1) := by decide +kernel
theorem dX13_aside_75 : decode cX13_aside 75 = .ok (.iaload, 1) := by decide +kernel
theorem dX13_aside_76 : decode cX13_aside 76 = .ok (.iastore, 1) := by decide +kernel
theorem dX13_aside_77 : decode cX13_aside 77 = .ok (.aload_n 0, 1) := by decide +kernel
theorem dX13_aside_78 : decode cX13_aside 78 = .ok (.getfield 248, 3) := by decide +kernel
theorem dX13_aside_81 : decode cX13_aside 81 = .ok (.iload_n 2, 1) := by decide +kernel
theorem dX13_aside_82 : decode cX13_aside 82 = .ok (.iconst 3, 1) := by decide +kernel
theorem dX13_aside_83 : decode cX13_aside 83 = .ok (.iadd, 1) := by decide +kernel
theorem dX13_aside_84 : decode cX13_aside 84 = .ok (.aload_n 0, 1) := by decide +kernel
theorem dX13_aside_85 : decode cX13_aside 85 = .ok (.getfield 227, 3) := by decide +kernel
theorem dX13_aside_88 : decode cX13_aside 88 = .ok (.iload_n 1, 1) := by decide +kernel
theorem dX13_aside_89 : decode cX13_aside 89 = .ok (.iaload, 1) := by decide +kernel
theorem dX13_aside_90 : decode cX13_aside 90 = .ok (.iastore, 1) := by decide +kernel
theorem dX13_aside_91 : decode cX13_aside 91 = .ok (.aload_n 0, 1) := by decide +kernel
theorem dX13_aside_92 : decode cX13_aside 92 = .ok (.getfield 248, 3) := by decide +kernel
theorem dX13_aside_95 : decode cX13_aside 95 = .ok (.iload_n 2, 1) := by decide +kernel
theorem dX13_aside_96 : decode cX13_aside 96 = .ok (.iconst 4, 1) := by decide +kernel
theorem dX13_aside_97 : decode cX13_aside 97 = .ok (.iadd, 1) := by decide +kernel
theorem dX13_aside_98 : decode cX13_aside 98 = .ok (.aload_n 0, 1) := by decide +kernel
theorem dX13_aside_99 : decode cX13_aside 99 = .ok (.getfield 233, 3) := by decide +kernel
theorem dX13_aside_102 : decode cX13_aside 102 = .ok (.iload_n 1, 1) := by decide +kernel
theorem dX13_aside_103 : decode cX13_aside 103 = .ok (.iaload, 1) := by decide +kernel
theorem dX13_aside_104 : decode cX13_aside 104 = .ok (.iastore, 1) := by decide +kernel
theorem dX13_aside_105 : decode cX13_aside 105 = .ok (.iconst 0, 1) := by decide +kernel
theorem dX13_aside_106 : decode cX13_aside 106 = .ok (.istore_n 3, 1) := by decide +kernel
theorem dX13_aside_107 : decode cX13_aside 107 = .ok (.iload_n 3, 1) := by decide +kernel
theorem dX13_aside_108 : decode cX13_aside 108 = .ok (.bipush 12, 2) := by decide +kernel
theorem dX13_aside_110 : decode cX13_aside 110 = .ok (.if_icmp .ge 96, 3) := by decide +kernel
theorem dX13_aside_113 : decode cX13_aside 113 = .ok (.aload_n 0, 1) := by decide +kernel
theorem dX13_aside_114 : decode cX13_aside 114 = .ok (.getfield 248, 3) := by decide +kernel
theorem dX13_aside_117 : decode cX13_aside 117 = .ok (.iload_n 2, 1) := by decide +kernel
theorem dX13_aside_118 : decode cX13_aside 118 = .ok (.iconst 5, 1) := by decide +kernel
theorem dX13_aside_119 : decode cX13_aside 119 = .ok (.iadd, 1) := by decide +kernel
theorem dX13_aside_120 : decode cX13_aside 120 = .ok (.iload_n 3, 1) := by decide +kernel
theorem dX13_aside_121 : decode cX13_aside 121 = .ok (.iadd, 1) := by decide +kernel
theorem dX13_aside_122 : decode cX13_aside 122 = .ok (.aload_n 0, 1) := by decide +kernel
theorem dX13_aside_123 : decode cX13_aside 123 = .ok (.getfield 230, 3) := by decide +kernel
theorem dX13_aside_126 : decode cX13_aside 126 = .ok (.bipush 12, 2) := by decide +kernel
theorem dX13_aside_128 : decode cX13_aside 128 = .ok (.iload_n 1, 1) := by decide +kernel
theorem dX13_aside_129 : decode cX13_aside 129 = .ok (.imul, 1) := by decide +kernel
theorem dX13_aside_130 : decode cX13_aside 130 = .ok (.iload_n 3, 1) := by decide +kernel
theorem dX13_aside_131 : decode cX13_aside 131 = .ok (.iadd, 1) := by decide +kernel
theorem dX13_aside_132 : decode cX13_aside 132 = .ok (.iaload, 1) := by decide +kernel
theorem dX13_aside_133 : decode cX13_aside 133 = .ok (.iastore, 1) := by decide +kernel
theorem dX13_aside_134 : decode cX13_aside 134 = .ok (.aload_n 0, 1) := by decide +kernel
theorem dX13_aside_135 : decode cX13_aside 135 = .ok (.getfield 248, 3) := by decide +kernel
theorem dX13_aside_138 : decode cX13_aside 138 = .ok (.iload_n 2, 1) := by decide +kernel
theorem dX13_aside_139 : decode cX13_aside 139 = .ok (.bipush 17, 2) := by decide +kernel
theorem dX13_aside_141 : decode cX13_aside 141 = .ok (.iadd, 1) := by decide +kernel
theorem dX13_aside_142 : decode cX13_aside 142 = .ok (.iload_n 3, 1) := by decide +kernel
theorem dX13_aside_143 : decode cX13_aside 143 = .ok (.iadd, 1) := by decide +kernel
theorem dX13_aside_144 : decode cX13_aside 144 = .ok (.aload_n 0, 1) := by decide +kernel
theorem dX13_aside_145 : decode cX13_aside 145 = .ok (.getfield 236, 3) := by decide +kernel
theorem dX13_aside_148 : decode cX13_aside 148 = .ok (.bipush 12, 2) := by decide +kernel
theorem dX13_aside_150 : decode cX13_aside 150 = .ok (.iload_n 1, 1) := by decide +kernel
theorem dX13_aside_151 : decode cX13_aside 151 = .ok (.imul, 1) := by decide +kernel
theorem dX13_aside_152 : decode cX13_aside 152 = .ok (.iload_n 3, 1) := by decide +kernel
theorem dX13_aside_153 : decode cX13_aside 153 = .ok (.iadd, 1) := by decide +kernel
theorem dX13_aside_154 : decode cX13_aside 154 = .ok (.iaload, 1) := by decide +kernel
theorem dX13_aside_155 : decode cX13_aside 155 = .ok (.iastore, 1) := by decide +kernel
theorem dX13_aside_156 : decode cX13_aside 156 = .ok (.aload_n 0, 1) := by decide +kernel
theorem dX13_aside_157 : decode cX13_aside 157 = .ok (.getfield 248, 3) := by decide +kernel
theorem dX13_aside_160 : decode cX13_aside 160 = .ok (.iload_n 2, 1) := by decide +kernel
theorem dX13_aside_161 : decode cX13_aside 161 = .ok (.bipush 29, 2) := by decide +kernel
theorem dX13_aside_163 : decode cX13_aside 163 = .ok (.iadd, 1) := by decide +kernel
theorem dX13_aside_164 : decode cX13_aside 164 = .ok (.iload_n 3, 1) := by decide +kernel
theorem dX13_aside_165 : decode cX13_aside 165 = .ok (.iadd, 1) := by decide +kernel
theorem dX13_aside_166 : decode cX13_aside 166 = .ok (.aload_n 0, 1) := by decide +kernel
theorem dX13_aside_167 : decode cX13_aside 167 = .ok (.getfield 239, 3) := by decide +kernel
theorem dX13_aside_170 : decode cX13_aside 170 = .ok (.bipush 12, 2) := by decide +kernel
theorem dX13_aside_172 : decode cX13_aside 172 = .ok (.iload_n 1, 1) := by decide +kernel
theorem dX13_aside_173 : decode cX13_aside 173 = .ok (.imul, 1) := by decide +kernel
theorem dX13_aside_174 : decode cX13_aside 174 = .ok (.iload_n 3, 1) := by decide +kernel
theorem dX13_aside_175 : decode cX13_aside 175 = .ok (.iadd, 1) := by decide +kernel
theorem dX13_aside_176 : decode cX13_aside 176 = .ok (.iaload, 1) := by decide +kernel
theorem dX13_aside_177 : decode cX13_aside 177 = .ok (.iastore, 1) := by decide +kernel
theorem dX13_aside_178 : decode cX13_aside 178 = .ok (.aload_n 0, 1) := by decide +kernel
theorem dX13_aside_179 : decode cX13_aside 179 = .ok (.getfield 248, 3) := by decide +kernel
theorem dX13_aside_182 : decode cX13_aside 182 = .ok (.iload_n 2, 1) := by decide +kernel
theorem dX13_aside_183 : decode cX13_aside 183 = .ok (.bipush 41, 2) := by decide +kernel
theorem dX13_aside_185 : decode cX13_aside 185 = .ok (.iadd, 1) := by decide +kernel
theorem dX13_aside_186 : decode cX13_aside 186 = .ok (.iload_n 3, 1) := by decide +kernel
theorem dX13_aside_187 : decode cX13_aside 187 = .ok (.iadd, 1) := by decide +kernel
theorem dX13_aside_188 : decode cX13_aside 188 = .ok (.aload_n 0, 1) := by decide +kernel
theorem dX13_aside_189 : decode cX13_aside 189 = .ok (.getfield 242, 3) := by decide +kernel
theorem dX13_aside_192 : decode cX13_aside 192 = .ok (.bipush 12, 2) := by decide +kernel
theorem dX13_aside_194 : decode cX13_aside 194 = .ok (.iload_n 1, 1) := by decide +kernel
theorem dX13_aside_195 : decode cX13_aside 195 = .ok (.imul, 1) := by decide +kernel
theorem dX13_aside_196 : decode cX13_aside 196 = .ok (.iload_n 3, 1) := by decide +kernel
theorem dX13_aside_197 : decode cX13_aside 197 = .ok (.iadd, 1) := by decide +kernel
theorem dX13_aside_198 : decode cX13_aside 198 = .ok (.iaload, 1) := by decide +kernel
theorem dX13_aside_199 : decode cX13_aside 199 = .ok (.iastore, 1) := by decide +kernel
theorem dX13_aside_200 : decode cX13_aside 200 = .ok (.iinc 3 1, 3) := by decide +kernel
theorem dX13_aside_203 : decode cX13_aside 203 = .ok (.goto (-96), 3) := by decide +kernel
theorem dX13_aside_206 : decode cX13_aside 206 = .ok (.return_, 1) := by decide +kernel
theorem mt_X13_nameAt : mx_mt 510 = some (yX13_nameAt, cX13_nameAt, 4, (some .int)) := rfl
theorem dX13_nameAt_0 : decode cX13_nameAt 0 = .ok (.iload_n 1, 1) := by decide +kernel
theorem dX13_nameAt_1 : decode cX13_nameAt 1 = .ok (.bipush 8, 2) := by decide +kernel
theorem dX13_nameAt_3 : decode cX13_nameAt 3 = .ok (.isub, 1) := by decide +kernel
theorem dX13_nameAt_4 : decode cX13_nameAt 4 = .ok (.istore_n 2, 1) := by decide +kernel
theorem dX13_nameAt_5 : decode cX13_nameAt 5 = .ok (.sipush 6000, 3) := by decide +kernel
theorem dX13_nameAt_8 : decode cX13_nameAt 8 = .ok (.iload_n 2, 1) := by decide +kernel
theorem dX13_nameAt_9 : decode cX13_nameAt 9 = .ok (.imul, 1) := by decide +kernel
theorem dX13_nameAt_10 : decode cX13_nameAt 10 = .ok (.aload_n 0, 1) := by decide +kernel
theorem dX13_nameAt_11 : decode cX13_nameAt 11 = .ok (.getfield 215, 3) := by decide +kernel
theorem dX13_nameAt_14 : decode cX13_nameAt 14 = .ok (.sipush 256, 3) := by decide +kernel
theorem dX13_nameAt_17 : decode cX13_nameAt 17 = .ok (.iload_n 2, 1) := by decide +kernel
theorem dX13_nameAt_18 : decode cX13_nameAt 18 = .ok (.imul, 1) := by decide +kernel
theorem dX13_nameAt_19 : decode cX13_nameAt 19 = .ok (.aload_n 0, 1) := by decide +kernel
theorem dX13_nameAt_20 : decode cX13_nameAt 20 = .ok (.getfield 221, 3) := by decide +kernel
theorem dX13_nameAt_23 : decode cX13_nameAt 23 = .ok (.iload_n 2, 1) := by decide +kernel
theorem dX13_nameAt_24 : decode cX13_nameAt 24 = .ok (.iaload, 1) := by decide +kernel
theorem dX13_nameAt_25 : decode cX13_nameAt 25 = .ok (.iadd, 1) := by decide +kernel
theorem dX13_nameAt_26 : decode cX13_nameAt 26 = .ok (.iaload, 1) := by decide +kernel
theorem dX13_nameAt_27 : decode cX13_nameAt 27 = .ok (.iadd, 1) := by decide +kernel
theorem dX13_nameAt_28 : decode cX13_nameAt 28 = .ok (.istore_n 3, 1) := by decide +kernel
theorem dX13_nameAt_29 : decode cX13_nameAt 29 = .ok (.sipush 6000, 3) := by decide +kernel
theorem dX13_nameAt_32 : decode cX13_nameAt 32 = .ok (.iload_n 2, 1) := by decide +kernel
theorem dX13_nameAt_33 : decode cX13_nameAt 33 = .ok (.imul, 1) := by decide +kernel
theorem dX13_nameAt_34 : decode cX13_nameAt 34 = .ok (.aload_n 0, 1) := by decide +kernel
theorem dX13_nameAt_35 : decode cX13_nameAt 35 = .ok (.getfield 215, 3) := by decide +kernel
theorem dX13_nameAt_38 : decode cX13_nameAt 38 = .ok (.sipush 256, 3) := by decide +kernel
theorem dX13_nameAt_41 : decode cX13_nameAt 41 = .ok (.iload_n 2, 1) := by decide +kernel
theorem dX13_nameAt_42 : decode cX13_nameAt 42 = .ok (.imul, 1) := by decide +kernel
theorem dX13_nameAt_43 : decode cX13_nameAt 43 = .ok (.aload_n 0, 1) := by decide +kernel
theorem dX13_nameAt_44 : decode cX13_nameAt 44 = .ok (.getfield 209, 3) := by decide +kernel
theorem dX13_nameAt_47 : decode cX13_nameAt 47 = .ok (.iload_n 3, 1) := by decide +kernel
theorem dX13_nameAt_48 : decode cX13_nameAt 48 = .ok (.iconst 1, 1) := by decide +kernel
theorem dX13_nameAt_49 : decode cX13_nameAt 49 = .ok (.iadd, 1) := by decide +kernel
theorem dX13_nameAt_50 : decode cX13_nameAt 50 = .ok (.iaload, 1) := by decide +kernel
theorem dX13_nameAt_51 : decode cX13_nameAt 51 = .ok (.iadd, 1) := by decide +kernel
theorem dX13_nameAt_52 : decode cX13_nameAt 52 = .ok (.iaload, 1) := by decide +kernel
theorem dX13_nameAt_53 : decode cX13_nameAt 53 = .ok (.iadd, 1) := by decide +kernel
theorem dX13_nameAt_54 : decode cX13_nameAt 54 = .ok (.iconst 1, 1) := by decide +kernel
theorem dX13_nameAt_55 : decode cX13_nameAt 55 = .ok (.iadd, 1) := by decide +kernel
theorem dX13_nameAt_56 : decode cX13_nameAt 56 = .ok (.ireturn, 1) := by decide +kernel
