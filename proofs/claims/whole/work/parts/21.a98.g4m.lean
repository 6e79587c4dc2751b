theorem dX13_is_68 : decode cX13_is 68 = .ok (.aload_n 0, 1) := by decide +kernel
theorem dX13_is_69 : decode cX13_is 69 = .ok (.iload_n 3, 1) := by decide +kernel
theorem dX13_is_70 : decode cX13_is 70 = .ok (.invokevirtual 1072, 3) := by decide +kernel
theorem dX13_is_73 : decode cX13_is 73 = .ok (.iconst 1, 1) := by decide +kernel
theorem dX13_is_74 : decode cX13_is 74 = .ok (.ireturn, 1) := by decide +kernel
theorem dX13_look_0 : decode cX13_look 0 = .ok (.iload_n 1, 1) := by decide +kernel
theorem dX13_look_1 : decode cX13_look 1 = .ok (.tableswitch 300 0 13 #[71, 76, 101, 117, 133, 149, 165, 181, 205, 229, 253, 277, 282, 295], 71) := by decide +kernel
theorem dX13_look_72 : decode cX13_look 72 = .ok (.aload_n 0, 1) := by decide +kernel
theorem dX13_look_73 : decode cX13_look 73 = .ok (.getfield 858, 3) := by decide +kernel
theorem dX13_look_76 : decode cX13_look 76 = .ok (.ireturn, 1) := by decide +kernel
theorem dX13_look_77 : decode cX13_look 77 = .ok (.aload_n 0, 1) := by decide +kernel
theorem dX13_look_78 : decode cX13_look 78 = .ok (.getfield 858, 3) := by decide +kernel
theorem dX13_look_81 : decode cX13_look 81 = .ok (.iconst 2, 1) := by decide +kernel
theorem dX13_look_82 : decode cX13_look 82 = .ok (.if_icmp .eq 11, 3) := by decide +kernel
theorem dX13_look_85 : decode cX13_look 85 = .ok (.aload_n 0, 1) := by decide +kernel
theorem dX13_look_86 : decode cX13_look 86 = .ok (.getfield 858, 3) := by decide +kernel
theorem dX13_look_89 : decode cX13_look 89 = .ok (.iconst 3, 1) := by decide +kernel
theorem dX13_look_90 : decode cX13_look 90 = .ok (.if_icmp .ne 10, 3) := by decide +kernel
theorem dX13_look_93 : decode cX13_look 93 = .ok (.aload_n 0, 1) := by decide +kernel
theorem dX13_look_94 : decode cX13_look 94 = .ok (.getfield 1043, 3) := by decide +kernel
theorem dX13_look_97 : decode cX13_look 97 = .ok (.goto 4, 3) := by decide +kernel
theorem dX13_look_100 : decode cX13_look 100 = .ok (.iconst (-1), 1) := by decide +kernel
theorem dX13_look_101 : decode cX13_look 101 = .ok (.ireturn, 1) := by decide +kernel
theorem dX13_look_102 : decode cX13_look 102 = .ok (.aload_n 0, 1) := by decide +kernel
theorem dX13_look_103 : decode cX13_look 103 = .ok (.getfield 858, 3) := by decide +kernel
theorem dX13_look_106 : decode cX13_look 106 = .ok (.ifCond .ne 7, 3) := by decide +kernel
theorem dX13_look_109 : decode cX13_look 109 = .ok (.iconst 0, 1) := by decide +kernel
theorem dX13_look_110 : decode cX13_look 110 = .ok (.goto 7, 3) := by decide +kernel
theorem dX13_look_113 : decode cX13_look 113 = .ok (.aload_n 0, 1) := by decide +kernel
theorem dX13_look_114 : decode cX13_look 114 = .ok (.getfield 1046, 3) := by decide +kernel
theorem dX13_look_117 : decode cX13_look 117 = .ok (.ireturn, 1) := by decide +kernel
theorem dX13_look_118 : decode cX13_look 118 = .ok (.aload_n 0, 1) := by decide +kernel
theorem dX13_look_119 : decode cX13_look 119 = .ok (.getfield 858, 3) := by decide +kernel
theorem dX13_look_122 : decode cX13_look 122 = .ok (.ifCond .ne 7, 3) := by decide +kernel
theorem dX13_look_125 : decode cX13_look 125 = .ok (.iconst 0, 1) := by decide +kernel
theorem dX13_look_126 : decode cX13_look 126 = .ok (.goto 7, 3) := by decide +kernel
theorem dX13_look_129 : decode cX13_look 129 = .ok (.aload_n 0, 1) := by decide +kernel
theorem dX13_look_130 : decode cX13_look 130 = .ok (.getfield 1049, 3) := by decide +kernel
theorem dX13_look_133 : decode cX13_look 133 = .ok (.ireturn, 1) := by decide +kernel
theorem dX13_look_134 : decode cX13_look 134 = .ok (.aload_n 0, 1) := by decide +kernel
theorem dX13_look_135 : decode cX13_look 135 = .ok (.getfield 858, 3) := by decide +kernel
theorem dX13_look_138 : decode cX13_look 138 = .ok (.ifCond .ne 7, 3) := by decide +kernel
theorem dX13_look_141 : decode cX13_look 141 = .ok (.iconst 0, 1) := by decide +kernel
theorem dX13_look_142 : decode cX13_look 142 = .ok (.goto 7, 3) := by decide +kernel
theorem dX13_look_145 : decode cX13_look 145 = .ok (.aload_n 0, 1) := by decide +kernel
theorem dX13_look_146 : decode cX13_look 146 = .ok (.getfield 1052, 3) := by decide +kernel
theorem dX13_look_149 : decode cX13_look 149 = .ok (.ireturn, 1) := by decide +kernel
theorem dX13_look_150 : decode cX13_look 150 = .ok (.aload_n 0, 1) := by decide +kernel
theorem dX13_look_151 : decode cX13_look 151 = .ok (.getfield 858, 3) := by decide +kernel
theorem dX13_look_154 : decode cX13_look 154 = .ok (.ifCond .ne 7, 3) := by decide +kernel
theorem dX13_look_157 : decode cX13_look 157 = .ok (.iconst 0, 1) := by decide +kernel
theorem dX13_look_158 : decode cX13_look 158 = .ok (.goto 7, 3) := by decide +kernel
theorem dX13_look_161 : decode cX13_look 161 = .ok (.aload_n 0, 1) := by decide +kernel
theorem dX13_look_162 : decode cX13_look 162 = .ok (.getfield 1058, 3) := by decide +kernel
theorem dX13_look_165 : decode cX13_look 165 = .ok (.ireturn, 1) := by decide +kernel
theorem dX13_look_166 : decode cX13_look 166 = .ok (.aload_n 0, 1) := by decide +kernel
theorem dX13_look_167 : decode cX13_look 167 = .ok (.getfield 858, 3) := by decide +kernel
theorem dX13_look_170 : decode cX13_look 170 = .ok (.ifCond .ne 7, 3) := by decide +kernel
theorem dX13_look_173 : decode cX13_look 173 = .ok (.iconst 0, 1) := by decide +kernel
theorem dX13_look_174 : decode cX13_look 174 = .ok (.goto 7, 3) := by decide +kernel
theorem dX13_look_177 : decode cX13_look 177 = .ok (.aload_n 0, 1) := by decide +kernel
theorem dX13_look_178 : decode cX13_look 178 = .ok (.getfield 1055, 3) := by decide +kernel
theorem dX13_look_181 : decode cX13_look 181 = .ok (.ireturn, 1) := by decide +kernel
theorem dX13_look_182 : decode cX13_look 182 = .ok (.aload_n 0, 1) := by decide +kernel
theorem dX13_look_183 : decode cX13_look 183 = .ok (.getfield 858, 3) := by decide +kernel
theorem dX13_look_186 : decode cX13_look 186 = .ok (.iconst 1, 1) := by decide +kernel
theorem dX13_look_187 : decode cX13_look 187 = .ok (.if_icmp .ne 17, 3) := by decide +kernel
theorem dX13_look_190 : decode cX13_look 190 = .ok (.aload_n 0, 1) := by decide +kernel
theorem dX13_look_191 : decode cX13_look 191 = .ok (.getfield 294, 3) := by decide +kernel
theorem dX13_look_194 : decode cX13_look 194 = .ok (.aload_n 0, 1) := by decide +kernel
theorem dX13_look_195 : decode cX13_look 195 = .ok (.getfield 1058, 3) := by decide +kernel
theorem dX13_look_198 : decode cX13_look 198 = .ok (.iconst 1, 1) := by decide +kernel
theorem dX13_look_199 : decode cX13_look 199 = .ok (.isub, 1) := by decide +kernel
theorem dX13_look_200 : decode cX13_look 200 = .ok (.iaload, 1) := by decide +kernel
theorem dX13_look_201 : decode cX13_look 201 = .ok (.goto 4, 3) := by decide +kernel
theorem dX13_look_204 : decode cX13_look 204 = .ok (.iconst (-1), 1) := by decide +kernel
theorem dX13_look_205 : decode cX13_look 205 = .ok (.ireturn, 1) := by decide +kernel
theorem dX13_look_206 : decode cX13_look 206 = .ok (.aload_n 0, 1) := by decide +kernel
theorem dX13_look_207 : decode cX13_look 207 = .ok (.getfield 858, 3) := by decide +kernel
theorem dX13_look_210 : decode cX13_look 210 = .ok (.iconst 1, 1) := by decide +kernel
theorem dX13_look_211 : decode cX13_look 211 = .ok (.if_icmp .ne 17, 3) := by decide +kernel
theorem dX13_look_214 : decode cX13_look 214 = .ok (.aload_n 0, 1) := by decide +kernel
theorem dX13_look_215 : decode cX13_look 215 = .ok (.getfield 297, 3) := by decide +kernel
theorem dX13_look_218 : decode cX13_look 218 = .ok (.aload_n 0, 1) := by decide +kernel
theorem dX13_look_219 : decode cX13_look 219 = .ok (.getfield 1058, 3) := by decide +kernel
theorem dX13_look_222 : decode cX13_look 222 = .ok (.iconst 1, 1) := by decide +kernel
theorem dX13_look_223 : decode cX13_look 223 = .ok (.isub, 1) := by decide +kernel
theorem dX13_look_224 : decode cX13_look 224 = .ok (.iaload, 1) := by decide +kernel
theorem dX13_look_225 : decode cX13_look 225 = .ok (.goto 4, 3) := by decide +kernel
theorem dX13_look_228 : decode cX13_look 228 = .ok (.iconst (-1), 1) := by decide +kernel
theorem dX13_look_229 : decode cX13_look 229 = .ok (.ireturn, 1) := by decide +kernel
theorem dX13_look_230 : decode cX13_look 230 = .ok (.aload_n 0, 1) := by decide +kernel
theorem dX13_look_231 : decode cX13_look 231 = .ok (.getfield 858, 3) := by decide +kernel
theorem dX13_look_234 : decode cX13_look 234 = .ok (.iconst 1, 1) := by decide +kernel
theorem dX13_look_235 : decode cX13_look 235 = .ok (.if_icmp .ne 17, 3) := by decide +kernel
theorem dX13_look_238 : decode cX13_look 238 = .ok (.aload_n 0, 1) := by decide +kernel
theorem dX13_look_239 : decode cX13_look 239 = .ok (.getfield 300, 3) := by decide +kernel
theorem dX13_look_242 : decode cX13_look 242 = .ok (.aload_n 0, 1) := by decide +kernel
theorem dX13_look_243 : decode cX13_look 243 = .ok (.getfield 1058, 3) := by decide +kernel
theorem dX13_look_246 : decode cX13_look 246 = .ok (.iconst 1, 1) := by decide +kernel
theorem dX13_look_247 : decode cX13_look 247 = .ok (.isub, 1) := by decide +kernel
theorem dX13_look_248 : decode cX13_look 248 = .ok (.iaload, 1) := by decide +kernel
theorem dX13_look_249 : decode cX13_look 249 = .ok (.goto 4, 3) := by decide +kernel
theorem dX13_look_252 : decode cX13_look 252 = .ok (.iconst (-1), 1) := by decide +kernel
theorem dX13_look_253 : decode cX13_look 253 = .ok (.ireturn, 1) := by decide +kernel
theorem dX13_look_254 : decode cX13_look 254 = .ok (.aload_n 0, 1) := by decide +kernel
theorem dX13_look_255 : decode cX13_look 255 = .ok (.getfield 858, 3) := by decide +kernel
theorem dX13_look_258 : decode cX13_look 258 = .ok (.iconst 1, 1) := by decide +kernel
theorem dX13_look_259 : decode cX13_look 259 = .ok (.if_icmp .ne 17, 3) := by decide +kernel
theorem dX13_look_262 : decode cX13_look 262 = .ok (.aload_n 0, 1) := by decide +kernel
theorem dX13_look_263 : decode cX13_look 263 = .ok (.getfield 303, 3) := by decide +kernel
theorem dX13_look_266 : decode cX13_look 266 = .ok (.aload_n 0, 1) := by decide +kernel
theorem dX13_look_267 : decode cX13_look 267 = .ok (.getfield 1058, 3) := by decide +kernel
theorem dX13_look_270 : decode cX13_look 270 = .ok (.iconst 1, 1) := by decide +kernel
theorem dX13_look_271 : decode cX13_look 271 = .ok (.isub, 1) := by decide +kernel
theorem dX13_look_272 : decode cX13_look 272 = .ok (.iaload, 1) := by decide +kernel
theorem dX13_look_273 : decode cX13_look 273 = .ok (.goto 4, 3) := by decide +kernel
theorem dX13_look_276 : decode cX13_look 276 = .ok (.iconst (-1), 1) := by decide +kernel
theorem dX13_look_277 : decode cX13_look 277 = .ok (.ireturn, 1) := by decide +kernel
theorem dX13_look_278 : decode cX13_look 278 = .ok (.aload_n 0, 1) := by decide +kernel
theorem dX13_look_279 : decode cX13_look 279 = .ok (.getfield 833, 3) := by decide +kernel
theorem dX13_look_282 : decode cX13_look 282 = .ok (.ireturn, 1) := by decide +kernel
theorem dX13_look_283 : decode cX13_look 283 = .ok (.aload_n 0, 1) := by decide +kernel
theorem dX13_look_284 : decode cX13_look 284 = .ok (.getfield 855, 3) := by decide +kernel
theorem dX13_look_287 : decode cX13_look 287 = .ok (.ifCond .eq 7, 3) := by decide +kernel
theorem dX13_look_290 : decode cX13_look 290 = .ok (.iconst 1, 1) := by decide +kernel
theorem dX13_look_291 : decode cX13_look 291 = .ok (.goto 4, 3) := by decide +kernel
theorem dX13_look_294 : decode cX13_look 294 = .ok (.iconst 0, 1) := by decide +kernel
theorem dX13_look_295 : decode cX13_look 295 = .ok (.ireturn, 1) := by decide +kernel
theorem dX13_look_296 : decode cX13_look 296 = .ok (.aload_n 0, 1) := by decide +kernel
theorem dX13_look_297 : decode cX13_look 297 = .ok (.getfield 312, 3) := by decide +kernel
theorem dX13_look_300 : decode cX13_look 300 = .ok (.ireturn, 1) := by decide +kernel
theorem dX13_look_301 : decode cX13_look 301 = .ok (.iconst (-1), 1) := by decide +kernel
theorem dX13_look_302 : decode cX13_look 302 = .ok (.ireturn, 1) := by decide +kernel
theorem dX13_type__0 : decode cX13_type_ 0 = .ok (.iload_n 1, 1) := by decide +kernel
theorem dX13_type__1 : decode cX13_type_ 1 = .ok (.ifCond .lt 23, 3) := by decide +kernel
theorem dX13_type__4 : decode cX13_type_ 4 = .ok (.iload_n 1, 1) := by decide +kernel
theorem dX13_type__5 : decode cX13_type_ 5 = .ok (.bipush 8, 2) := by decide +kernel
theorem dX13_type__7 : decode cX13_type_ 7 = .ok (.aload_n 0, 1) := by decide +kernel
theorem dX13_type__8 : decode cX13_type_ 8 = .ok (.getfield 833, 3) := by decide +kernel
theorem dX13_type__11 : decode cX13_type_ 11 = .ok (.iadd, 1) := by decide +kernel
theorem dX13_type__12 : decode cX13_type_ 12 = .ok (.if_icmp .ge 12, 3) := by decide +kernel
theorem dX13_type__15 : decode cX13_type_ 15 = .ok (.iload_n 2, 1) := by decide +kernel
theorem dX13_type__16 : decode cX13_type_ 16 = .ok (.ifCond .lt 8, 3) := by decide +kernel
theorem dX13_type__19 : decode cX13_type_ 19 = .ok (.iload_n 2, 1) := by decide +kernel
theorem dX13_type__20 : decode cX13_type_ 20 = .ok (.iconst 4, 1) := by decide +kernel
theorem dX13_type__21 : decode cX13_type_ 21 = .ok (.if_icmp .le 5, 3) := by decide +kernel
theorem dX13_type__24 : decode cX13_type_ 24 = .ok (.iconst (-1), 1) := by decide +kernel
theorem dX13_type__25 : decode cX13_type_ 25 = .ok (.ireturn, 1) := by decide +kernel
theorem dX13_type__26 : decode cX13_type_ 26 = .ok (.iload_n 2, 1) := by decide +kernel
theorem dX13_type__27 : decode cX13_type_ 27 = .ok (.ifCond .ne 9, 3) := by decide +kernel
theorem dX13_type__30 : decode cX13_type_ 30 = .ok (.aload_n 0, 1) := by decide +kernel
theorem dX13_type__31 : decode cX13_type_ 31 = .ok (.iload_n 1, 1) := by decide +kernel
theorem dX13_type__32 : decode cX13_type_ 32 = .ok (.invokevirtual 873, 3) := by decide +kernel
theorem dX13_type__35 : decode cX13_type_ 35 = .ok (.ireturn, 1) := by decide +kernel
theorem dX13_type__36 : decode cX13_type_ 36 = .ok (.iload_n 1, 1) := by decide +kernel
theorem dX13_type__37 : decode cX13_type_ 37 = .ok (.bipush 8, 2) := by decide +kernel
theorem dX13_type__39 : decode cX13_type_ 39 = .ok (.isub, 1) := by decide +kernel
theorem dX13_type__40 : decode cX13_type_ 40 = .ok (.istore_n 3, 1) := by decide +kernel
theorem dX13_type__41 : decode cX13_type_ 41 = .ok (.iload_n 3, 1) := by decide +kernel
theorem dX13_type__42 : decode cX13_type_ 42 = .ok (.ifCond .ge 5, 3) := by decide +kernel
theorem dX13_type__45 : decode cX13_type_ 45 = .ok (.iconst 0, 1) := by decide +kernel
theorem dX13_type__46 : decode cX13_type_ 46 = .ok (.ireturn, 1) := by decide +kernel
theorem dX13_type__47 : decode cX13_type_ 47 = .ok (.iload_n 2, 1) := by decide +kernel
theorem dX13_type__48 : decode cX13_type_ 48 = .ok (.tableswitch 49 1 3 #[28, 35, 42], 28) := by decide +kernel
theorem dX13_type__76 : decode cX13_type_ 76 = .ok (.aload_n 0, 1) := by decide +kernel
theorem dX13_type__77 : decode cX13_type_ 77 = .ok (.getfield 227, 3) := by decide +kernel
theorem dX13_type__80 : decode cX13_type_ 80 = .ok (.iload_n 3, 1) := by decide +kernel
theorem dX13_type__81 : decode cX13_type_ 81 = .ok (.iaload, 1) := by decide +kernel
theorem dX13_type__82 : decode cX13_type_ 82 = .ok (.ireturn, 1) := by decide +kernel
theorem dX13_type__83 : decode cX13_type_ 83 = .ok (.aload_n 0, 1) := by decide +kernel
theorem dX13_type__84 : decode cX13_type_ 84 = .ok (.getfield 233, 3) := by decide +kernel
theorem dX13_type__87 : decode cX13_type_ 87 = .ok (.iload_n 3, 1) := by decide +kernel
theorem dX13_type__88 : decode cX13_type_ 88 = .ok (.iaload, 1) := by decide +kernel
theorem dX13_type__89 : decode cX13_type_ 89 = .ok (.ireturn, 1) := by decide +kernel
theorem dX13_type__90 : decode cX13_type_ 90 = .ok (.aload_n 0, 1) := by decide +kernel
theorem dX13_type__91 : decode cX13_type_ 91 = .ok (.getfield 212, 3) := by decide +kernel
theorem dX13_type__94 : decode cX13_type_ 94 = .ok (.iload_n 3, 1) := by decide +kernel
theorem dX13_type__95 : decode cX13_type_ 95 = .ok (.iaload, 1) := by decide +kernel
theorem dX13_type__96 : decode cX13_type_ 96 = .ok (.ireturn, 1) := by decide +kernel
theorem dX13_type__97 : decode cX13_type_ 97 = .ok (.aload_n 0, 1) := by decide +kernel
theorem dX13_type__98 : decode cX13_type_ 98 = .ok (.getfield 218, 3) := by decide +kernel
theorem dX13_type__101 : decode cX13_type_ 101 = .ok (.iload_n 3, 1) := by decide +kernel
theorem dX13_type__102 : decode cX13_type_ 102 = .ok (.iaload, 1) := by decide +kernel
theorem dX13_type__103 : decode cX13_type_ 103 = .ok (.ireturn, 1) := by decide +kernel
