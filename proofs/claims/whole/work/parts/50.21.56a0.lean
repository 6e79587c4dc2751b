theorem rs_RX13_919 : mx_res RX13 919 = some (1, 538, 1) := by decide +kernel
theorem rs_RX13_922 : mx_res RX13 922 = some (1, 535, 4) := by decide +kernel
theorem rs_RX13_925 : mx_res RX13 925 = some (1, 533, 3) := by decide +kernel
theorem mt_X13_classFits : mx_mt 539 = some (yX13_classFits, cX13_classFits, 8, (some .boolean)) := rfl
theorem dX13_classFits_0 : decode cX13_classFits 0 = .ok (.iload_n 1, 1) := by decide +kernel
theorem dX13_classFits_1 : decode cX13_classFits 1 = .ok (.bipush 8, 2) := by decide +kernel
theorem dX13_classFits_3 : decode cX13_classFits 3 = .ok (.isub, 1) := by decide +kernel
theorem dX13_classFits_4 : decode cX13_classFits 4 = .ok (.istore_n 2, 1) := by decide +kernel
theorem dX13_classFits_5 : decode cX13_classFits 5 = .ok (.aload_n 0, 1) := by decide +kernel
theorem dX13_classFits_6 : decode cX13_classFits 6 = .ok (.iload_n 1, 1) := by decide +kernel
theorem dX13_classFits_7 : decode cX13_classFits 7 = .ok (.invokevirtual 873, 3) := by decide +kernel
theorem dX13_classFits_10 : decode cX13_classFits 10 = .ok (.iconst (-1), 1) := by decide +kernel
theorem dX13_classFits_11 : decode cX13_classFits 11 = .ok (.if_icmp .eq 11, 3) := by decide +kernel
theorem dX13_classFits_14 : decode cX13_classFits 14 = .ok (.aload_n 0, 1) := by decide +kernel
theorem dX13_classFits_15 : decode cX13_classFits 15 = .ok (.iload_n 2, 1) := by decide +kernel
theorem dX13_classFits_16 : decode cX13_classFits 16 = .ok (.invokevirtual 919, 3) := by decide +kernel
theorem dX13_classFits_19 : decode cX13_classFits 19 = .ok (.ifCond .ne 12, 3) := by decide +kernel
theorem dX13_classFits_22 : decode cX13_classFits 22 = .ok (.aload_n 0, 1) := by decide +kernel
theorem dX13_classFits_23 : decode cX13_classFits 23 = .ok (.iconst 3, 1) := by decide +kernel
theorem dX13_classFits_24 : decode cX13_classFits 24 = .ok (.iload_n 1, 1) := by decide +kernel
theorem dX13_classFits_25 : decode cX13_classFits 25 = .ok (.iconst (-1), 1) := by decide +kernel
theorem dX13_classFits_26 : decode cX13_classFits 26 = .ok (.iconst (-1), 1) := by decide +kernel
theorem dX13_classFits_27 : decode cX13_classFits 27 = .ok (.invokevirtual 922, 3) := by decide +kernel
theorem dX13_classFits_30 : decode cX13_classFits 30 = .ok (.ireturn, 1) := by decide +kernel
theorem dX13_classFits_31 : decode cX13_classFits 31 = .ok (.iload_n 1, 1) := by decide +kernel
theorem dX13_classFits_32 : decode cX13_classFits 32 = .ok (.istore_n 3, 1) := by decide +kernel
theorem dX13_classFits_33 : decode cX13_classFits 33 = .ok (.iconst 0, 1) := by decide +kernel
theorem dX13_classFits_34 : decode cX13_classFits 34 = .ok (.istore 4, 2) := by decide +kernel
theorem dX13_classFits_36 : decode cX13_classFits 36 = .ok (.iload 4, 2) := by decide +kernel
theorem dX13_classFits_38 : decode cX13_classFits 38 = .ok (.bipush 16, 2) := by decide +kernel
theorem dX13_classFits_40 : decode cX13_classFits 40 = .ok (.if_icmp .gt 20, 3) := by decide +kernel
theorem dX13_classFits_43 : decode cX13_classFits 43 = .ok (.iload_n 3, 1) := by decide +kernel
theorem dX13_classFits_44 : decode cX13_classFits 44 = .ok (.iconst (-1), 1) := by decide +kernel
theorem dX13_classFits_45 : decode cX13_classFits 45 = .ok (.if_icmp .eq 15, 3) := by decide +kernel
theorem dX13_classFits_48 : decode cX13_classFits 48 = .ok (.aload_n 0, 1) := by decide +kernel
theorem dX13_classFits_49 : decode cX13_classFits 49 = .ok (.iload_n 3, 1) := by decide +kernel
theorem dX13_classFits_50 : decode cX13_classFits 50 = .ok (.invokevirtual 873, 3) := by decide +kernel
theorem dX13_classFits_53 : decode cX13_classFits 53 = .ok (.istore_n 3, 1) := by decide +kernel
theorem dX13_classFits_54 : decode cX13_classFits 54 = .ok (.iinc 4 1, 3) := by decide +kernel
theorem dX13_classFits_57 : decode cX13_classFits 57 = .ok (.goto (-21), 3) := by decide +kernel
theorem dX13_classFits_60 : decode cX13_classFits 60 = .ok (.iload_n 3, 1) := by decide +kernel
theorem dX13_classFits_61 : decode cX13_classFits 61 = .ok (.iconst (-1), 1) := by decide +kernel
theorem dX13_classFits_62 : decode cX13_classFits 62 = .ok (.if_icmp .eq 12, 3) := by decide +kernel
theorem dX13_classFits_65 : decode cX13_classFits 65 = .ok (.aload_n 0, 1) := by decide +kernel
theorem dX13_classFits_66 : decode cX13_classFits 66 = .ok (.iconst 3, 1) := by decide +kernel
theorem dX13_classFits_67 : decode cX13_classFits 67 = .ok (.iload_n 1, 1) := by decide +kernel
theorem dX13_classFits_68 : decode cX13_classFits 68 = .ok (.iconst (-1), 1) := by decide +kernel
theorem dX13_classFits_69 : decode cX13_classFits 69 = .ok (.iconst (-1), 1) := by decide +kernel
theorem dX13_classFits_70 : decode cX13_classFits 70 = .ok (.invokevirtual 922, 3) := by decide +kernel
theorem dX13_classFits_73 : decode cX13_classFits 73 = .ok (.ireturn, 1) := by decide +kernel
theorem dX13_classFits_74 : decode cX13_classFits 74 = .ok (.iconst 0, 1) := by decide +kernel
theorem dX13_classFits_75 : decode cX13_classFits 75 = .ok (.istore 4, 2) := by decide +kernel
theorem dX13_classFits_77 : decode cX13_classFits 77 = .ok (.iload 4, 2) := by decide +kernel
theorem dX13_classFits_79 : decode cX13_classFits 79 = .ok (.iconst 2, 1) := by decide +kernel
theorem dX13_classFits_80 : decode cX13_classFits 80 = .ok (.if_icmp .ge 121, 3) := by decide +kernel
theorem dX13_classFits_83 : decode cX13_classFits 83 = .ok (.iload 4, 2) := by decide +kernel
theorem dX13_classFits_85 : decode cX13_classFits 85 = .ok (.iconst 1, 1) := by decide +kernel
theorem dX13_classFits_86 : decode cX13_classFits 86 = .ok (.if_icmp .ne 12, 3) := by decide +kernel
theorem dX13_classFits_89 : decode cX13_classFits 89 = .ok (.aload_n 0, 1) := by decide +kernel
theorem dX13_classFits_90 : decode cX13_classFits 90 = .ok (.getfield 233, 3) := by decide +kernel
theorem dX13_classFits_93 : decode cX13_classFits 93 = .ok (.iload_n 2, 1) := by decide +kernel
theorem dX13_classFits_94 : decode cX13_classFits 94 = .ok (.iaload, 1) := by decide +kernel
theorem dX13_classFits_95 : decode cX13_classFits 95 = .ok (.goto 9, 3) := by decide +kernel
theorem dX13_classFits_98 : decode cX13_classFits 98 = .ok (.aload_n 0, 1) := by decide +kernel
theorem dX13_classFits_99 : decode cX13_classFits 99 = .ok (.getfield 227, 3) := by decide +kernel
theorem dX13_classFits_102 : decode cX13_classFits 102 = .ok (.iload_n 2, 1) := by decide +kernel
theorem dX13_classFits_103 : decode cX13_classFits 103 = .ok (.iaload, 1) := by decide +kernel
theorem dX13_classFits_104 : decode cX13_classFits 104 = .ok (.istore 5, 2) := by decide +kernel
theorem dX13_classFits_106 : decode cX13_classFits 106 = .ok (.iconst 0, 1) := by decide +kernel
theorem dX13_classFits_107 : decode cX13_classFits 107 = .ok (.istore 6, 2) := by decide +kernel
theorem dX13_classFits_109 : decode cX13_classFits 109 = .ok (.iload 6, 2) := by decide +kernel
theorem dX13_classFits_111 : decode cX13_classFits 111 = .ok (.iload 5, 2) := by decide +kernel
theorem dX13_classFits_113 : decode cX13_classFits 113 = .ok (.if_icmp .ge 82, 3) := by decide +kernel
theorem dX13_classFits_116 : decode cX13_classFits 116 = .ok (.iload 6, 2) := by decide +kernel
theorem dX13_classFits_118 : decode cX13_classFits 118 = .ok (.iconst 1, 1) := by decide +kernel
theorem dX13_classFits_119 : decode cX13_classFits 119 = .ok (.iadd, 1) := by decide +kernel
theorem dX13_classFits_120 : decode cX13_classFits 120 = .ok (.istore 7, 2) := by decide +kernel
theorem dX13_classFits_122 : decode cX13_classFits 122 = .ok (.iload 7, 2) := by decide +kernel
theorem dX13_classFits_124 : decode cX13_classFits 124 = .ok (.iload 5, 2) := by decide +kernel
theorem dX13_classFits_126 : decode cX13_classFits 126 = .ok (.if_icmp .ge 63, 3) := by decide +kernel
theorem dX13_classFits_129 : decode cX13_classFits 129 = .ok (.aload_n 0, 1) := by decide +kernel
theorem dX13_classFits_130 : decode cX13_classFits 130 = .ok (.iload_n 2, 1) := by decide +kernel
theorem dX13_classFits_131 : decode cX13_classFits 131 = .ok (.aload_n 0, 1) := by decide +kernel
theorem dX13_classFits_132 : decode cX13_classFits 132 = .ok (.iload_n 2, 1) := by decide +kernel
theorem dX13_classFits_133 : decode cX13_classFits 133 = .ok (.iload 6, 2) := by decide +kernel
theorem dX13_classFits_135 : decode cX13_classFits 135 = .ok (.iload 4, 2) := by decide +kernel
theorem dX13_classFits_137 : decode cX13_classFits 137 = .ok (.iconst 1, 1) := by decide +kernel
theorem dX13_classFits_138 : decode cX13_classFits 138 = .ok (.if_icmp .ne 7, 3) := by decide +kernel
theorem dX13_classFits_141 : decode cX13_classFits 141 = .ok (.iconst 1, 1) := by decide +kernel
theorem dX13_classFits_142 : decode cX13_classFits 142 = .ok (.goto 4, 3) := by decide +kernel
theorem dX13_classFits_145 : decode cX13_classFits 145 = .ok (.iconst 0, 1) := by decide +kernel
theorem dX13_classFits_146 : decode cX13_classFits 146 = .ok (.invokevirtual 925, 3) := by decide +kernel
theorem dX13_classFits_149 : decode cX13_classFits 149 = .ok (.iload_n 2, 1) := by decide +kernel
theorem dX13_classFits_150 : decode cX13_classFits 150 = .ok (.aload_n 0, 1) := by decide +kernel
theorem dX13_classFits_151 : decode cX13_classFits 151 = .ok (.iload_n 2, 1) := by decide +kernel
theorem dX13_classFits_152 : decode cX13_classFits 152 = .ok (.iload 7, 2) := by decide +kernel
theorem dX13_classFits_154 : decode cX13_classFits 154 = .ok (.iload 4, 2) := by decide +kernel
theorem dX13_classFits_156 : decode cX13_classFits 156 = .ok (.iconst 1, 1) := by decide +kernel
theorem dX13_classFits_157 : decode cX13_classFits 157 = .ok (.if_icmp .ne 7, 3) := by decide +kernel
theorem dX13_classFits_160 : decode cX13_classFits 160 = .ok (.iconst 1, 1) := by decide +kernel
theorem dX13_classFits_161 : decode cX13_classFits 161 = .ok (.goto 4, 3) := by decide +kernel
theorem dX13_classFits_164 : decode cX13_classFits 164 = .ok (.iconst 0, 1) := by decide +kernel
theorem dX13_classFits_165 : decode cX13_classFits 165 = .ok (.invokevirtual 925, 3) := by decide +kernel
theorem dX13_classFits_168 : decode cX13_classFits 168 = .ok (.invokevirtual 894, 3) := by decide +kernel
theorem dX13_classFits_171 : decode cX13_classFits 171 = .ok (.ifCond .eq 12, 3) := by decide +kernel
theorem dX13_classFits_174 : decode cX13_classFits 174 = .ok (.aload_n 0, 1) := by decide +kernel
theorem dX13_classFits_175 : decode cX13_classFits 175 = .ok (.iconst 4, 1) := by decide +kernel
theorem dX13_classFits_176 : decode cX13_classFits 176 = .ok (.iload_n 1, 1) := by decide +kernel
theorem dX13_classFits_177 : decode cX13_classFits 177 = .ok (.iconst (-1), 1) := by decide +kernel
theorem dX13_classFits_178 : decode cX13_classFits 178 = .ok (.iconst (-1), 1) := by decide +kernel
theorem dX13_classFits_179 : decode cX13_classFits 179 = .ok (.invokevirtual 922, 3) := by decide +kernel
theorem dX13_classFits_182 : decode cX13_classFits 182 = .ok (.ireturn, 1) := by decide +kernel
theorem dX13_classFits_183 : decode cX13_classFits 183 = .ok (.iinc 7 1, 3) := by decide +kernel
theorem dX13_classFits_186 : decode cX13_classFits 186 = .ok (.goto (-64), 3) := by decide +kernel
theorem dX13_classFits_189 : decode cX13_classFits 189 = .ok (.iinc 6 1, 3) := by decide +kernel
theorem dX13_classFits_192 : decode cX13_classFits 192 = .ok (.goto (-83), 3) := by decide +kernel
theorem dX13_classFits_195 : decode cX13_classFits 195 = .ok (.iinc 4 1, 3) := by decide +kernel
theorem dX13_classFits_198 : decode cX13_classFits 198 = .ok (.goto (-121), 3) := by decide +kernel
theorem dX13_classFits_201 : decode cX13_classFits 201 = .ok (.iconst 0, 1) := by decide +kernel
theorem dX13_classFits_202 : decode cX13_classFits 202 = .ok (.istore 4, 2) := by decide +kernel
theorem dX13_classFits_204 : decode cX13_classFits 204 = .ok (.iload 4, 2) := by decide +kernel
theorem dX13_classFits_206 : decode cX13_classFits 206 = .ok (.aload_n 0, 1) := by decide +kernel
theorem dX13_classFits_207 : decode cX13_classFits 207 = .ok (.getfield 233, 3) := by decide +kernel
theorem dX13_classFits_210 : decode cX13_classFits 210 = .ok (.iload_n 2, 1) := by decide +kernel
theorem dX13_classFits_211 : decode cX13_classFits 211 = .ok (.iaload, 1) := by decide +kernel
theorem dX13_classFits_212 : decode cX13_classFits 212 = .ok (.if_icmp .ge 134, 3) := by decide +kernel
theorem dX13_classFits_215 : decode cX13_classFits 215 = .ok (.aload_n 0, 1) := by decide +kernel
theorem dX13_classFits_216 : decode cX13_classFits 216 = .ok (.aload_n 0, 1) := by decide +kernel
theorem dX13_classFits_217 : decode cX13_classFits 217 = .ok (.iload_n 1, 1) := by decide +kernel
theorem dX13_classFits_218 : decode cX13_classFits 218 = .ok (.invokevirtual 873, 3) := by decide +kernel
theorem dX13_classFits_221 : decode cX13_classFits 221 = .ok (.iload_n 2, 1) := by decide +kernel
theorem dX13_classFits_222 : decode cX13_classFits 222 = .ok (.aload_n 0, 1) := by decide +kernel
theorem dX13_classFits_223 : decode cX13_classFits 223 = .ok (.iload_n 2, 1) := by decide +kernel
theorem dX13_classFits_224 : decode cX13_classFits 224 = .ok (.iload 4, 2) := by decide +kernel
theorem dX13_classFits_226 : decode cX13_classFits 226 = .ok (.iconst 1, 1) := by decide +kernel
theorem dX13_classFits_227 : decode cX13_classFits 227 = .ok (.invokevirtual 925, 3) := by decide +kernel
theorem dX13_classFits_230 : decode cX13_classFits 230 = .ok (.iconst 1, 1) := by decide +kernel
theorem dX13_classFits_231 : decode cX13_classFits 231 = .ok (.invokevirtual 928, 3) := by decide +kernel
theorem dX13_classFits_234 : decode cX13_classFits 234 = .ok (.istore 5, 2) := by decide +kernel
theorem dX13_classFits_236 : decode cX13_classFits 236 = .ok (.iload 5, 2) := by decide +kernel
theorem dX13_classFits_238 : decode cX13_classFits 238 = .ok (.iconst (-1), 1) := by decide +kernel
theorem dX13_classFits_239 : decode cX13_classFits 239 = .ok (.if_icmp .ne 6, 3) := by decide +kernel
theorem dX13_classFits_242 : decode cX13_classFits 242 = .ok (.goto 98, 3) := by decide +kernel
theorem dX13_classFits_245 : decode cX13_classFits 245 = .ok (.iload 5, 2) := by decide +kernel
theorem dX13_classFits_247 : decode cX13_classFits 247 = .ok (.bipush 8, 2) := by decide +kernel
theorem dX13_classFits_249 : decode cX13_classFits 249 = .ok (.isub, 1) := by decide +kernel
theorem dX13_classFits_250 : decode cX13_classFits 250 = .ok (.istore 6, 2) := by decide +kernel
theorem dX13_classFits_252 : decode cX13_classFits 252 = .ok (.aload_n 0, 1) := by decide +kernel
theorem dX13_classFits_253 : decode cX13_classFits 253 = .ok (.iload 6, 2) := by decide +kernel
theorem dX13_classFits_255 : decode cX13_classFits 255 = .ok (.aload_n 0, 1) := by decide +kernel
theorem dX13_classFits_256 : decode cX13_classFits 256 = .ok (.iload 6, 2) := by decide +kernel
theorem dX13_classFits_258 : decode cX13_classFits 258 = .ok (.aload_n 0, 1) := by decide +kernel
theorem dX13_classFits_259 : decode cX13_classFits 259 = .ok (.getfield 898, 3) := by decide +kernel
theorem dX13_classFits_262 : decode cX13_classFits 262 = .ok (.iconst 1, 1) := by decide +kernel
theorem dX13_classFits_263 : decode cX13_classFits 263 = .ok (.invokevirtual 910, 3) := by decide +kernel
theorem dX13_classFits_266 : decode cX13_classFits 266 = .ok (.iload_n 2, 1) := by decide +kernel
theorem dX13_classFits_267 : decode cX13_classFits 267 = .ok (.aload_n 0, 1) := by decide +kernel
theorem dX13_classFits_268 : decode cX13_classFits 268 = .ok (.iload_n 2, 1) := by decide +kernel
theorem dX13_classFits_269 : decode cX13_classFits 269 = .ok (.iload 4, 2) := by decide +kernel
theorem dX13_classFits_271 : decode cX13_classFits 271 = .ok (.iconst 1, 1) := by decide +kernel
theorem dX13_classFits_272 : decode cX13_classFits 272 = .ok (.invokevirtual 910, 3) := by decide +kernel
theorem dX13_classFits_275 : decode cX13_classFits 275 = .ok (.invokevirtual 894, 3) := by decide +kernel
theorem dX13_classFits_278 : decode cX13_classFits 278 = .ok (.istore 7, 2) := by decide +kernel
theorem dX13_classFits_280 : decode cX13_classFits 280 = .ok (.iload 7, 2) := by decide +kernel
theorem dX13_classFits_282 : decode cX13_classFits 282 = .ok (.ifCond .eq 49, 3) := by decide +kernel
theorem dX13_classFits_285 : decode cX13_classFits 285 = .ok (.aload_n 0, 1) := by decide +kernel
theorem dX13_classFits_286 : decode cX13_classFits 286 = .ok (.iload 6, 2) := by decide +kernel
theorem dX13_classFits_288 : decode cX13_classFits 288 = .ok (.aload_n 0, 1) := by decide +kernel
theorem dX13_classFits_289 : decode cX13_classFits 289 = .ok (.getfield 236, 3) := by decide +kernel
theorem dX13_classFits_292 : decode cX13_classFits 292 = .ok (.bipush 12, 2) := by decide +kernel
theorem dX13_classFits_294 : decode cX13_classFits 294 = .ok (.iload 6, 2) := by decide +kernel
theorem dX13_classFits_296 : decode cX13_classFits 296 = .ok (.imul, 1) := by decide +kernel
theorem dX13_classFits_297 : decode cX13_classFits 297 = .ok (.aload_n 0, 1) := by decide +kernel
theorem dX13_classFits_298 : decode cX13_classFits 298 = .ok (.getfield 898, 3) := by decide +kernel
theorem dX13_classFits_301 : decode cX13_classFits 301 = .ok (.iadd, 1) := by decide +kernel
theorem dX13_classFits_302 : decode cX13_classFits 302 = .ok (.iaload, 1) := by decide +kernel
theorem dX13_classFits_303 : decode cX13_classFits 303 = .ok (.invokevirtual 864, 3) := by decide +kernel
theorem dX13_classFits_306 : decode cX13_classFits 306 = .ok (.iconst 1, 1) := by decide +kernel
theorem dX13_classFits_307 : decode cX13_classFits 307 = .ok (.if_icmp .eq 24, 3) := by decide +kernel
theorem dX13_classFits_310 : decode cX13_classFits 310 = .ok (.aload_n 0, 1) := by decide +kernel
theorem dX13_classFits_311 : decode cX13_classFits 311 = .ok (.iload_n 2, 1) := by decide +kernel
theorem dX13_classFits_312 : decode cX13_classFits 312 = .ok (.aload_n 0, 1) := by decide +kernel
theorem dX13_classFits_313 : decode cX13_classFits 313 = .ok (.getfield 236, 3) := by decide +kernel
theorem dX13_classFits_316 : decode cX13_classFits 316 = .ok (.bipush 12, 2) := by decide +kernel
theorem dX13_classFits_318 : decode cX13_classFits 318 = .ok (.iload_n 2, 1) := by decide +kernel
theorem dX13_classFits_319 : decode cX13_classFits 319 = .ok (.imul, 1) := by decide +kernel
theorem dX13_classFits_320 : decode cX13_classFits 320 = .ok (.iload 4, 2) := by decide +kernel
theorem dX13_classFits_322 : decode cX13_classFits 322 = .ok (.iadd, 1) := by decide +kernel
theorem dX13_classFits_323 : decode cX13_classFits 323 = .ok (.iaload, 1) := by decide +kernel
theorem dX13_classFits_324 : decode cX13_classFits 324 = .ok (.invokevirtual 864, 3) := by decide +kernel
theorem dX13_classFits_327 : decode cX13_classFits 327 = .ok (.iconst 1, 1) := by decide +kernel
theorem dX13_classFits_328 : decode cX13_classFits 328 = .ok (.if_icmp .ne 12, 3) := by decide +kernel
theorem dX13_classFits_331 : decode cX13_classFits 331 = .ok (.aload_n 0, 1) := by decide +kernel
theorem dX13_classFits_332 : decode cX13_classFits 332 = .ok (.iconst 5, 1) := by decide +kernel
theorem dX13_classFits_333 : decode cX13_classFits 333 = .ok (.iload_n 1, 1) := by decide +kernel
theorem dX13_classFits_334 : decode cX13_classFits 334 = .ok (.iconst (-1), 1) := by decide +kernel
theorem dX13_classFits_335 : decode cX13_classFits 335 = .ok (.iconst (-1), 1) := by decide +kernel
theorem dX13_classFits_336 : decode cX13_classFits 336 = .ok (.invokevirtual 922, 3) := by decide +kernel
theorem dX13_classFits_339 : decode cX13_classFits 339 = .ok (.ireturn, 1) := by decide +kernel
theorem dX13_classFits_340 : decode cX13_classFits 340 = .ok (.iinc 4 1, 3) := by decide +kernel
theorem dX13_classFits_343 : decode cX13_classFits 343 = .ok (.goto (-139), 3) := by decide +kernel
theorem dX13_classFits_346 : decode cX13_classFits 346 = .ok (.iconst 1, 1) := by decide +kernel
theorem dX13_classFits_347 : decode cX13_classFits 347 = .ok (.ireturn, 1) := by decide +kernel
theorem rs_RX13_932 : mx_res RX13 932 = some (0, 13, 132) := by decide +kernel
theorem rs_RX13_935 : mx_res RX13 935 = some (0, 13, 134) := by decide +kernel
theorem mt_X13_code : mx_mt 542 = some (yX13_code, cX13_code, 2, (some .int)) := rfl
theorem dX13_code_0 : decode cX13_code 0 = .ok (.aload_n 0, 1) := by decide +kernel
theorem dX13_code_1 : decode cX13_code 1 = .ok (.aload_n 0, 1) := by decide +kernel
theorem dX13_code_2 : decode cX13_code 2 = .ok (.getfield 932, 3) := by decide +kernel
theorem dX13_code_5 : decode cX13_code 5 = .ok (.aload_n 0, 1) := by decide +kernel
theorem dX13_code_6 : decode cX13_code 6 = .ok (.getfield 935, 3) := by decide +kernel
theorem dX13_code_9 : decode cX13_code 9 = .ok (.iload_n 1, 1) := by decide +kernel
theorem dX13_code_10 : decode cX13_code 10 = .ok (.iadd, 1) := by decide +kernel
theorem dX13_code_11 : decode cX13_code 11 = .ok (.invokevirtual 864, 3) := by decide +kernel
theorem dX13_code_14 : decode cX13_code 14 = .ok (.ireturn, 1) := by decide +kernel
theorem rs_RX13_938 : mx_res RX13 938 = some (1, 542, 1) := by decide +kernel
theorem mt_X13_aimOf : mx_mt 543 = some (yX13_aimOf, cX13_aimOf, 2, (some .int)) := rfl
theorem dX13_aimOf_0 : decode cX13_aimOf 0 = .ok (.iload_n 1, 1) := by decide +kernel
theorem dX13_aimOf_1 : decode cX13_aimOf 1 = .ok (.aload_n 0, 1) := by decide +kernel
theorem dX13_aimOf_2 : decode cX13_aimOf 2 = .ok (.iload_n 1, 1) := by decide +kernel
theorem dX13_aimOf_3 : decode cX13_aimOf 3 = .ok (.iconst 1, 1) := by decide +kernel
theorem dX13_aimOf_4 : decode cX13_aimOf 4 = .ok (.iadd, 1) := by decide +kernel
theorem dX13_aimOf_5 : decode cX13_aimOf 5 = .ok (.invokevirtual 938, 3) := by decide +kernel
theorem dX13_aimOf_8 : decode cX13_aimOf 8 = .ok (.bipush 8, 2) := by decide +kernel
theorem dX13_aimOf_10 : decode cX13_aimOf 10 = .ok (.ishl, 1) := by decide +kernel
theorem dX13_aimOf_11 : decode cX13_aimOf 11 = .ok (.aload_n 0, 1) := by decide +kernel
theorem dX13_aimOf_12 : decode cX13_aimOf 12 = .ok (.iload_n 1, 1) := by decide +kernel
theorem dX13_aimOf_13 : decode cX13_aimOf 13 = .ok (.iconst 2, 1) := by decide +kernel
theorem dX13_aimOf_14 : decode cX13_aimOf 14 = .ok (.iadd, 1) := by decide +kernel
theorem dX13_aimOf_15 : decode cX13_aimOf 15 = .ok (.invokevirtual 938, 3) := by decide +kernel
theorem dX13_aimOf_18 : decode cX13_aimOf 18 = .ok (.ior, 1) := by decide +kernel
theorem dX13_aimOf_19 : decode cX13_aimOf 19 = .ok (.i2s, 1) := by decide +kernel
theorem dX13_aimOf_20 : decode cX13_aimOf 20 = .ok (.iadd, 1) := by decide +kernel
theorem dX13_aimOf_21 : decode cX13_aimOf 21 = .ok (.ireturn, 1) := by decide +kernel
theorem mt_X13_pairIn : mx_mt 544 = some (yX13_pairIn, cX13_pairIn, 2, (some .int)) := rfl
theorem dX13_pairIn_0 : decode cX13_pairIn 0 = .ok (.aload_n 0, 1) := by decide +kernel
theorem dX13_pairIn_1 : decode cX13_pairIn 1 = .ok (.aload_n 0, 1) := by decide +kernel
theorem dX13_pairIn_2 : decode cX13_pairIn 2 = .ok (.getfield 932, 3) := by decide +kernel
theorem dX13_pairIn_5 : decode cX13_pairIn 5 = .ok (.iload_n 1, 1) := by decide +kernel
theorem dX13_pairIn_6 : decode cX13_pairIn 6 = .ok (.invokevirtual 864, 3) := by decide +kernel
theorem dX13_pairIn_9 : decode cX13_pairIn 9 = .ok (.bipush 8, 2) := by decide +kernel
theorem dX13_pairIn_11 : decode cX13_pairIn 11 = .ok (.ishl, 1) := by decide +kernel
theorem dX13_pairIn_12 : decode cX13_pairIn 12 = .ok (.aload_n 0, 1) := by decide +kernel
theorem dX13_pairIn_13 : decode cX13_pairIn 13 = .ok (.aload_n 0, 1) := by decide +kernel
theorem dX13_pairIn_14 : decode cX13_pairIn 14 = .ok (.getfield 932, 3) := by decide +kernel
theorem dX13_pairIn_17 : decode cX13_pairIn 17 = .ok (.iload_n 1, 1) := by decide +kernel
theorem dX13_pairIn_18 : decode cX13_pairIn 18 = .ok (.iconst 1, 1) := by decide +kernel
theorem dX13_pairIn_19 : decode cX13_pairIn 19 = .ok (.iadd, 1) := by decide +kernel
theorem dX13_pairIn_20 : decode cX13_pairIn 20 = .ok (.invokevirtual 864, 3) := by decide +kernel
theorem dX13_pairIn_23 : decode cX13_pairIn 23 = .ok (.ior, 1) := by decide +kernel
theorem dX13_pairIn_24 : decode cX13_pairIn 24 = .ok (.ireturn, 1) := by decide +kernel
theorem rs_RX13_940 : mx_res RX13 940 = some (0, 13, 133) := by decide +kernel
theorem rs_RX13_949 : mx_res RX13 949 = some (1, 544, 1) := by decide +kernel
theorem rs_RX13_964 : mx_res RX13 964 = some (0, 13, 129) := by decide +kernel
theorem rs_RX13_967 : mx_res RX13 967 = some (0, 13, 130) := by decide +kernel
theorem rs_RX13_970 : mx_res RX13 970 = some (0, 13, 135) := by decide +kernel
theorem ft_13_129 : mx_fty 13 129 = some (.int, false, "ClassMillModel") := by decide +kernel
theorem ft_13_130 : mx_fty 13 130 = some (.int, false, "ClassMillModel") := by decide +kernel
theorem ft_13_132 : mx_fty 13 132 = some (.int, false, "ClassMillModel") := by decide +kernel
theorem ft_13_133 : mx_fty 13 133 = some (.int, false, "ClassMillModel") := by decide +kernel
theorem ft_13_134 : mx_fty 13 134 = some (.int, false, "ClassMillModel") := by decide +kernel
theorem ft_13_135 : mx_fty 13 135 = some (.int, false, "ClassMillModel") := by decide +kernel
theorem mt_X13_at_ : mx_mt 553 = some (yX13_at_, cX13_at_, 4, none) := rfl
theorem dX13_at__0 : decode cX13_at_ 0 = .ok (.aload_n 0, 1) := by decide +kernel
theorem dX13_at__1 : decode cX13_at_ 1 = .ok (.iload_n 1, 1) := by decide +kernel
theorem dX13_at__2 : decode cX13_at_ 2 = .ok (.bipush 8, 2) := by decide +kernel
theorem dX13_at__4 : decode cX13_at_ 4 = .ok (.isub, 1) := by decide +kernel
theorem dX13_at__5 : decode cX13_at_ 5 = .ok (.putfield 932, 3) := by decide +kernel
theorem dX13_at__8 : decode cX13_at_ 8 = .ok (.aload_n 0, 1) := by decide +kernel
theorem dX13_at__9 : decode cX13_at_ 9 = .ok (.iload_n 2, 1) := by decide +kernel
theorem dX13_at__10 : decode cX13_at_ 10 = .ok (.putfield 940, 3) := by decide +kernel
theorem dX13_at__13 : decode cX13_at_ 13 = .ok (.aload_n 0, 1) := by decide +kernel
theorem dX13_at__14 : decode cX13_at_ 14 = .ok (.getfield 236, 3) := by decide +kernel
theorem dX13_at__17 : decode cX13_at_ 17 = .ok (.bipush 12, 2) := by decide +kernel
theorem dX13_at__19 : decode cX13_at_ 19 = .ok (.aload_n 0, 1) := by decide +kernel
theorem dX13_at__20 : decode cX13_at_ 20 = .ok (.getfield 932, 3) := by decide +kernel
theorem dX13_at__23 : decode cX13_at_ 23 = .ok (.imul, 1) := by decide +kernel
theorem dX13_at__24 : decode cX13_at_ 24 = .ok (.iload_n 2, 1) := by decide +kernel
theorem dX13_at__25 : decode cX13_at_ 25 = .ok (.iadd, 1) := by decide +kernel
theorem dX13_at__26 : decode cX13_at_ 26 = .ok (.iaload, 1) := by decide +kernel
theorem dX13_at__27 : decode cX13_at_ 27 = .ok (.istore_n 3, 1) := by decide +kernel
theorem dX13_at__28 : decode cX13_at_ 28 = .ok (.aload_n 0, 1) := by decide +kernel
theorem dX13_at__29 : decode cX13_at_ 29 = .ok (.aload_n 0, 1) := by decide +kernel
theorem dX13_at__30 : decode cX13_at_ 30 = .ok (.aload_n 0, 1) := by decide +kernel
theorem dX13_at__31 : decode cX13_at_ 31 = .ok (.getfield 932, 3) := by decide +kernel
theorem dX13_at__34 : decode cX13_at_ 34 = .ok (.iload_n 3, 1) := by decide +kernel
theorem dX13_at__35 : decode cX13_at_ 35 = .ok (.iconst 3, 1) := by decide +kernel
theorem dX13_at__36 : decode cX13_at_ 36 = .ok (.iadd, 1) := by decide +kernel
theorem dX13_at__37 : decode cX13_at_ 37 = .ok (.invokevirtual 864, 3) := by decide +kernel
theorem dX13_at__40 : decode cX13_at_ 40 = .ok (.putfield 967, 3) := by decide +kernel
theorem dX13_at__43 : decode cX13_at_ 43 = .ok (.aload_n 0, 1) := by decide +kernel
theorem dX13_at__44 : decode cX13_at_ 44 = .ok (.aload_n 0, 1) := by decide +kernel
theorem dX13_at__45 : decode cX13_at_ 45 = .ok (.aload_n 0, 1) := by decide +kernel
theorem dX13_at__46 : decode cX13_at_ 46 = .ok (.getfield 932, 3) := by decide +kernel
theorem dX13_at__49 : decode cX13_at_ 49 = .ok (.iload_n 3, 1) := by decide +kernel
theorem dX13_at__50 : decode cX13_at_ 50 = .ok (.iconst 4, 1) := by decide +kernel
theorem dX13_at__51 : decode cX13_at_ 51 = .ok (.iadd, 1) := by decide +kernel
theorem dX13_at__52 : decode cX13_at_ 52 = .ok (.invokevirtual 864, 3) := by decide +kernel
theorem dX13_at__55 : decode cX13_at_ 55 = .ok (.putfield 964, 3) := by decide +kernel
theorem dX13_at__58 : decode cX13_at_ 58 = .ok (.aload_n 0, 1) := by decide +kernel
theorem dX13_at__59 : decode cX13_at_ 59 = .ok (.aload_n 0, 1) := by decide +kernel
theorem dX13_at__60 : decode cX13_at_ 60 = .ok (.iload_n 3, 1) := by decide +kernel
theorem dX13_at__61 : decode cX13_at_ 61 = .ok (.iconst 5, 1) := by decide +kernel
theorem dX13_at__62 : decode cX13_at_ 62 = .ok (.iadd, 1) := by decide +kernel
theorem dX13_at__63 : decode cX13_at_ 63 = .ok (.invokevirtual 949, 3) := by decide +kernel
theorem dX13_at__66 : decode cX13_at_ 66 = .ok (.putfield 970, 3) := by decide +kernel
theorem dX13_at__69 : decode cX13_at_ 69 = .ok (.aload_n 0, 1) := by decide +kernel
theorem dX13_at__70 : decode cX13_at_ 70 = .ok (.iload_n 3, 1) := by decide +kernel
theorem dX13_at__71 : decode cX13_at_ 71 = .ok (.bipush 7, 2) := by decide +kernel
theorem dX13_at__73 : decode cX13_at_ 73 = .ok (.iadd, 1) := by decide +kernel
theorem dX13_at__74 : decode cX13_at_ 74 = .ok (.putfield 935, 3) := by decide +kernel
theorem dX13_at__77 : decode cX13_at_ 77 = .ok (.return_, 1) := by decide +kernel
theorem mt_X13_typeOfClass : mx_mt 527 = some (yX13_typeOfClass, cX13_typeOfClass, 5, (some .int)) := rfl
theorem dX13_typeOfClass_0 : decode cX13_typeOfClass 0 = .ok (.aload_n 0, 1) := by decide +kernel
theorem dX13_typeOfClass_1 : decode cX13_typeOfClass 1 = .ok (.iload_n 1, 1) := by decide +kernel
theorem dX13_typeOfClass_2 : decode cX13_typeOfClass 2 = .ok (.iload_n 2, 1) := by decide +kernel
theorem dX13_typeOfClass_3 : decode cX13_typeOfClass 3 = .ok (.invokevirtual 867, 3) := by decide +kernel
theorem dX13_typeOfClass_6 : decode cX13_typeOfClass 6 = .ok (.istore_n 3, 1) := by decide +kernel
theorem dX13_typeOfClass_7 : decode cX13_typeOfClass 7 = .ok (.sipush 6000, 3) := by decide +kernel
theorem dX13_typeOfClass_10 : decode cX13_typeOfClass 10 = .ok (.iload_n 1, 1) := by decide +kernel
theorem dX13_typeOfClass_11 : decode cX13_typeOfClass 11 = .ok (.imul, 1) := by decide +kernel
theorem dX13_typeOfClass_12 : decode cX13_typeOfClass 12 = .ok (.aload_n 0, 1) := by decide +kernel
theorem dX13_typeOfClass_13 : decode cX13_typeOfClass 13 = .ok (.getfield 215, 3) := by decide +kernel
theorem dX13_typeOfClass_16 : decode cX13_typeOfClass 16 = .ok (.sipush 256, 3) := by decide +kernel
theorem dX13_typeOfClass_19 : decode cX13_typeOfClass 19 = .ok (.iload_n 1, 1) := by decide +kernel
theorem dX13_typeOfClass_20 : decode cX13_typeOfClass 20 = .ok (.imul, 1) := by decide +kernel
theorem dX13_typeOfClass_21 : decode cX13_typeOfClass 21 = .ok (.iload_n 3, 1) := by decide +kernel
theorem dX13_typeOfClass_22 : decode cX13_typeOfClass 22 = .ok (.iadd, 1) := by decide +kernel
theorem dX13_typeOfClass_23 : decode cX13_typeOfClass 23 = .ok (.iaload, 1) := by decide +kernel
theorem dX13_typeOfClass_24 : decode cX13_typeOfClass 24 = .ok (.iadd, 1) := by decide +kernel
theorem dX13_typeOfClass_25 : decode cX13_typeOfClass 25 = .ok (.istore 4, 2) := by decide +kernel
theorem dX13_typeOfClass_27 : decode cX13_typeOfClass 27 = .ok (.aload_n 0, 1) := by decide +kernel
theorem dX13_typeOfClass_28 : decode cX13_typeOfClass 28 = .ok (.getfield 209, 3) := by decide +kernel
theorem dX13_typeOfClass_31 : decode cX13_typeOfClass 31 = .ok (.iload 4, 2) := by decide +kernel
theorem dX13_typeOfClass_33 : decode cX13_typeOfClass 33 = .ok (.iconst 2, 1) := by decide +kernel
theorem dX13_typeOfClass_34 : decode cX13_typeOfClass 34 = .ok (.iadd, 1) := by decide +kernel
theorem dX13_typeOfClass_35 : decode cX13_typeOfClass 35 = .ok (.iaload, 1) := by decide +kernel
theorem dX13_typeOfClass_36 : decode cX13_typeOfClass 36 = .ok (.bipush 91, 2) := by decide +kernel
theorem dX13_typeOfClass_38 : decode cX13_typeOfClass 38 = .ok (.if_icmp .ne 12, 3) := by decide +kernel
theorem dX13_typeOfClass_41 : decode cX13_typeOfClass 41 = .ok (.aload_n 0, 1) := by decide +kernel
theorem dX13_typeOfClass_42 : decode cX13_typeOfClass 42 = .ok (.iload 4, 2) := by decide +kernel
theorem dX13_typeOfClass_44 : decode cX13_typeOfClass 44 = .ok (.iconst 2, 1) := by decide +kernel
theorem dX13_typeOfClass_45 : decode cX13_typeOfClass 45 = .ok (.iadd, 1) := by decide +kernel
theorem dX13_typeOfClass_46 : decode cX13_typeOfClass 46 = .ok (.invokevirtual 885, 3) := by decide +kernel
theorem dX13_typeOfClass_49 : decode cX13_typeOfClass 49 = .ok (.ireturn, 1) := by decide +kernel
theorem dX13_typeOfClass_50 : decode cX13_typeOfClass 50 = .ok (.iconst 4, 1) := by decide +kernel
theorem dX13_typeOfClass_51 : decode cX13_typeOfClass 51 = .ok (.iconst 2, 1) := by decide +kernel
theorem dX13_typeOfClass_52 : decode cX13_typeOfClass 52 = .ok (.aload_n 0, 1) := by decide +kernel
theorem dX13_typeOfClass_53 : decode cX13_typeOfClass 53 = .ok (.iload 4, 2) := by decide +kernel
theorem dX13_typeOfClass_55 : decode cX13_typeOfClass 55 = .ok (.iconst 2, 1) := by decide +kernel
theorem dX13_typeOfClass_56 : decode cX13_typeOfClass 56 = .ok (.iadd, 1) := by decide +kernel
theorem dX13_typeOfClass_57 : decode cX13_typeOfClass 57 = .ok (.aload_n 0, 1) := by decide +kernel
theorem dX13_typeOfClass_58 : decode cX13_typeOfClass 58 = .ok (.getfield 209, 3) := by decide +kernel
theorem dX13_typeOfClass_61 : decode cX13_typeOfClass 61 = .ok (.iload 4, 2) := by decide +kernel
theorem dX13_typeOfClass_63 : decode cX13_typeOfClass 63 = .ok (.iconst 1, 1) := by decide +kernel
theorem dX13_typeOfClass_64 : decode cX13_typeOfClass 64 = .ok (.iadd, 1) := by decide +kernel
theorem dX13_typeOfClass_65 : decode cX13_typeOfClass 65 = .ok (.iaload, 1) := by decide +kernel
theorem dX13_typeOfClass_66 : decode cX13_typeOfClass 66 = .ok (.invokevirtual 882, 3) := by decide +kernel
theorem dX13_typeOfClass_69 : decode cX13_typeOfClass 69 = .ok (.imul, 1) := by decide +kernel
theorem dX13_typeOfClass_70 : decode cX13_typeOfClass 70 = .ok (.iadd, 1) := by decide +kernel
theorem dX13_typeOfClass_71 : decode cX13_typeOfClass 71 = .ok (.ireturn, 1) := by decide +kernel
theorem rs_RX13_952 : mx_res RX13 952 = some (1, 527, 2) := by decide +kernel
theorem mt_X13_framed : mx_mt 549 = some (yX13_framed, cX13_framed, 2, (some .int)) := rfl
theorem dX13_framed_0 : decode cX13_framed 0 = .ok (.aload_n 0, 1) := by decide +kernel
theorem dX13_framed_1 : decode cX13_framed 1 = .ok (.aload_n 0, 1) := by decide +kernel
theorem dX13_framed_2 : decode cX13_framed 2 = .ok (.getfield 932, 3) := by decide +kernel
theorem dX13_framed_5 : decode cX13_framed 5 = .ok (.iload_n 1, 1) := by decide +kernel
theorem dX13_framed_6 : decode cX13_framed 6 = .ok (.invokevirtual 864, 3) := by decide +kernel
theorem dX13_framed_9 : decode cX13_framed 9 = .ok (.iconst 3, 1) := by decide +kernel
theorem dX13_framed_10 : decode cX13_framed 10 = .ok (.if_icmp .ge 15, 3) := by decide +kernel
theorem dX13_framed_13 : decode cX13_framed 13 = .ok (.aload_n 0, 1) := by decide +kernel
theorem dX13_framed_14 : decode cX13_framed 14 = .ok (.aload_n 0, 1) := by decide +kernel
theorem dX13_framed_15 : decode cX13_framed 15 = .ok (.getfield 932, 3) := by decide +kernel
theorem dX13_framed_18 : decode cX13_framed 18 = .ok (.iload_n 1, 1) := by decide +kernel
theorem dX13_framed_19 : decode cX13_framed 19 = .ok (.invokevirtual 864, 3) := by decide +kernel
theorem dX13_framed_22 : decode cX13_framed 22 = .ok (.goto 22, 3) := by decide +kernel
theorem dX13_framed_25 : decode cX13_framed 25 = .ok (.aload_n 0, 1) := by decide +kernel
theorem dX13_framed_26 : decode cX13_framed 26 = .ok (.aload_n 0, 1) := by decide +kernel
theorem dX13_framed_27 : decode cX13_framed 27 = .ok (.getfield 932, 3) := by decide +kernel
theorem dX13_framed_30 : decode cX13_framed 30 = .ok (.aload_n 0, 1) := by decide +kernel
theorem dX13_framed_31 : decode cX13_framed 31 = .ok (.aload_n 0, 1) := by decide +kernel
theorem dX13_framed_32 : decode cX13_framed 32 = .ok (.getfield 932, 3) := by decide +kernel
theorem dX13_framed_35 : decode cX13_framed 35 = .ok (.iload_n 1, 1) := by decide +kernel
theorem dX13_framed_36 : decode cX13_framed 36 = .ok (.iconst 1, 1) := by decide +kernel
theorem dX13_framed_37 : decode cX13_framed 37 = .ok (.iadd, 1) := by decide +kernel
theorem dX13_framed_38 : decode cX13_framed 38 = .ok (.invokevirtual 864, 3) := by decide +kernel
theorem dX13_framed_41 : decode cX13_framed 41 = .ok (.invokevirtual 952, 3) := by decide +kernel
theorem dX13_framed_44 : decode cX13_framed 44 = .ok (.ireturn, 1) := by decide +kernel
theorem mt_X13_typesEnd : mx_mt 546 = some (yX13_typesEnd, cX13_typesEnd, 5, (some .int)) := rfl
theorem dX13_typesEnd_0 : decode cX13_typesEnd 0 = .ok (.aload_n 0, 1) := by decide +kernel
theorem dX13_typesEnd_1 : decode cX13_typesEnd 1 = .ok (.aload_n 0, 1) := by decide +kernel
theorem dX13_typesEnd_2 : decode cX13_typesEnd 2 = .ok (.getfield 932, 3) := by decide +kernel
theorem dX13_typesEnd_5 : decode cX13_typesEnd 5 = .ok (.iload_n 1, 1) := by decide +kernel
theorem dX13_typesEnd_6 : decode cX13_typesEnd 6 = .ok (.invokevirtual 864, 3) := by decide +kernel
theorem dX13_typesEnd_9 : decode cX13_typesEnd 9 = .ok (.istore_n 2, 1) := by decide +kernel
theorem dX13_typesEnd_10 : decode cX13_typesEnd 10 = .ok (.iload_n 1, 1) := by decide +kernel
theorem dX13_typesEnd_11 : decode cX13_typesEnd 11 = .ok (.iconst 1, 1) := by decide +kernel
theorem dX13_typesEnd_12 : decode cX13_typesEnd 12 = .ok (.iadd, 1) := by decide +kernel
theorem dX13_typesEnd_13 : decode cX13_typesEnd 13 = .ok (.istore_n 3, 1) := by decide +kernel
theorem dX13_typesEnd_14 : decode cX13_typesEnd 14 = .ok (.iconst 0, 1) := by decide +kernel
theorem dX13_typesEnd_15 : decode cX13_typesEnd 15 = .ok (.istore 4, 2) := by decide +kernel
theorem dX13_typesEnd_17 : decode cX13_typesEnd 17 = .ok (.iload 4, 2) := by decide +kernel
theorem dX13_typesEnd_19 : decode cX13_typesEnd 19 = .ok (.iload_n 2, 1) := by decide +kernel
theorem dX13_typesEnd_20 : decode cX13_typesEnd 20 = .ok (.if_icmp .ge 30, 3) := by decide +kernel
theorem dX13_typesEnd_23 : decode cX13_typesEnd 23 = .ok (.iload_n 3, 1) := by decide +kernel
theorem dX13_typesEnd_24 : decode cX13_typesEnd 24 = .ok (.aload_n 0, 1) := by decide +kernel
theorem dX13_typesEnd_25 : decode cX13_typesEnd 25 = .ok (.aload_n 0, 1) := by decide +kernel
theorem dX13_typesEnd_26 : decode cX13_typesEnd 26 = .ok (.getfield 932, 3) := by decide +kernel
theorem dX13_typesEnd_29 : decode cX13_typesEnd 29 = .ok (.iload_n 3, 1) := by decide +kernel
theorem dX13_typesEnd_30 : decode cX13_typesEnd 30 = .ok (.invokevirtual 864, 3) := by decide +kernel
theorem dX13_typesEnd_33 : decode cX13_typesEnd 33 = .ok (.iconst 3, 1) := by decide +kernel
theorem dX13_typesEnd_34 : decode cX13_typesEnd 34 = .ok (.if_icmp .ne 7, 3) := by decide +kernel
theorem dX13_typesEnd_37 : decode cX13_typesEnd 37 = .ok (.iconst 2, 1) := by decide +kernel
theorem dX13_typesEnd_38 : decode cX13_typesEnd 38 = .ok (.goto 4, 3) := by decide +kernel
theorem dX13_typesEnd_41 : decode cX13_typesEnd 41 = .ok (.iconst 1, 1) := by decide +kernel
theorem dX13_typesEnd_42 : decode cX13_typesEnd 42 = .ok (.iadd, 1) := by decide +kernel
theorem dX13_typesEnd_43 : decode cX13_typesEnd 43 = .ok (.istore_n 3, 1) := by decide +kernel
theorem dX13_typesEnd_44 : decode cX13_typesEnd 44 = .ok (.iinc 4 1, 3) := by decide +kernel
theorem dX13_typesEnd_47 : decode cX13_typesEnd 47 = .ok (.goto (-30), 3) := by decide +kernel
theorem dX13_typesEnd_50 : decode cX13_typesEnd 50 = .ok (.iload_n 3, 1) := by decide +kernel
theorem dX13_typesEnd_51 : decode cX13_typesEnd 51 = .ok (.ireturn, 1) := by decide +kernel
theorem rs_RX13_943 : mx_res RX13 943 = some (1, 546, 1) := by decide +kernel
theorem rs_RX13_955 : mx_res RX13 955 = some (1, 549, 1) := by decide +kernel
theorem rs_RX13_961 : mx_res RX13 961 = some (0, 13, 131) := by decide +kernel
theorem ft_13_131 : mx_fty 13 131 = some (.int, false, "ClassMillModel") := by decide +kernel
theorem mt_X13_becomes : mx_mt 552 = some (yX13_becomes, cX13_becomes, 5, none) := rfl
theorem dX13_becomes_0 : decode cX13_becomes 0 = .ok (.iload_n 1, 1) := by decide +kernel
theorem dX13_becomes_1 : decode cX13_becomes 1 = .ok (.iconst 2, 1) := by decide +kernel
theorem dX13_becomes_2 : decode cX13_becomes 2 = .ok (.iadd, 1) := by decide +kernel
theorem dX13_becomes_3 : decode cX13_becomes 3 = .ok (.istore_n 2, 1) := by decide +kernel
theorem dX13_becomes_4 : decode cX13_becomes 4 = .ok (.aload_n 0, 1) := by decide +kernel
theorem dX13_becomes_5 : decode cX13_becomes 5 = .ok (.aload_n 0, 1) := by decide +kernel
theorem dX13_becomes_6 : decode cX13_becomes 6 = .ok (.getfield 932, 3) := by decide +kernel
theorem dX13_becomes_9 : decode cX13_becomes 9 = .ok (.iload_n 2, 1) := by decide +kernel
theorem dX13_becomes_10 : decode cX13_becomes 10 = .ok (.invokevirtual 864, 3) := by decide +kernel
theorem dX13_becomes_13 : decode cX13_becomes 13 = .ok (.istore_n 3, 1) := by decide +kernel
theorem dX13_becomes_14 : decode cX13_becomes 14 = .ok (.iinc 2 1, 3) := by decide +kernel
theorem dX13_becomes_17 : decode cX13_becomes 17 = .ok (.iconst 0, 1) := by decide +kernel
theorem dX13_becomes_18 : decode cX13_becomes 18 = .ok (.istore 4, 2) := by decide +kernel
theorem dX13_becomes_20 : decode cX13_becomes 20 = .ok (.iload 4, 2) := by decide +kernel
theorem dX13_becomes_22 : decode cX13_becomes 22 = .ok (.aload_n 0, 1) := by decide +kernel
theorem dX13_becomes_23 : decode cX13_becomes 23 = .ok (.getfield 964, 3) := by decide +kernel
theorem dX13_becomes_26 : decode cX13_becomes 26 = .ok (.if_icmp .ge 59, 3) := by decide +kernel
theorem dX13_becomes_29 : decode cX13_becomes 29 = .ok (.aload_n 0, 1) := by decide +kernel
theorem dX13_becomes_30 : decode cX13_becomes 30 = .ok (.getfield 270, 3) := by decide +kernel
theorem dX13_becomes_33 : decode cX13_becomes 33 = .ok (.iload 4, 2) := by decide +kernel
theorem dX13_becomes_35 : decode cX13_becomes 35 = .ok (.iconst 0, 1) := by decide +kernel
theorem dX13_becomes_36 : decode cX13_becomes 36 = .ok (.iastore, 1) := by decide +kernel
theorem dX13_becomes_37 : decode cX13_becomes 37 = .ok (.iload 4, 2) := by decide +kernel
theorem dX13_becomes_39 : decode cX13_becomes 39 = .ok (.iload_n 3, 1) := by decide +kernel
theorem dX13_becomes_40 : decode cX13_becomes 40 = .ok (.if_icmp .lt 6, 3) := by decide +kernel
theorem dX13_becomes_43 : decode cX13_becomes 43 = .ok (.goto 36, 3) := by decide +kernel
theorem dX13_becomes_46 : decode cX13_becomes 46 = .ok (.aload_n 0, 1) := by decide +kernel
theorem dX13_becomes_47 : decode cX13_becomes 47 = .ok (.getfield 270, 3) := by decide +kernel
theorem dX13_becomes_50 : decode cX13_becomes 50 = .ok (.iload 4, 2) := by decide +kernel
theorem dX13_becomes_52 : decode cX13_becomes 52 = .ok (.aload_n 0, 1) := by decide +kernel
theorem dX13_becomes_53 : decode cX13_becomes 53 = .ok (.iload_n 2, 1) := by decide +kernel
theorem dX13_becomes_54 : decode cX13_becomes 54 = .ok (.invokevirtual 955, 3) := by decide +kernel
theorem dX13_becomes_57 : decode cX13_becomes 57 = .ok (.iastore, 1) := by decide +kernel
theorem dX13_becomes_58 : decode cX13_becomes 58 = .ok (.iload_n 2, 1) := by decide +kernel
theorem dX13_becomes_59 : decode cX13_becomes 59 = .ok (.aload_n 0, 1) := by decide +kernel
theorem dX13_becomes_60 : decode cX13_becomes 60 = .ok (.aload_n 0, 1) := by decide +kernel
theorem dX13_becomes_61 : decode cX13_becomes 61 = .ok (.getfield 932, 3) := by decide +kernel
theorem dX13_becomes_64 : decode cX13_becomes 64 = .ok (.iload_n 2, 1) := by decide +kernel
theorem dX13_becomes_65 : decode cX13_becomes 65 = .ok (.invokevirtual 864, 3) := by decide +kernel
theorem dX13_becomes_68 : decode cX13_becomes 68 = .ok (.iconst 3, 1) := by decide +kernel
theorem dX13_becomes_69 : decode cX13_becomes 69 = .ok (.if_icmp .ne 7, 3) := by decide +kernel
theorem dX13_becomes_72 : decode cX13_becomes 72 = .ok (.iconst 2, 1) := by decide +kernel
theorem dX13_becomes_73 : decode cX13_becomes 73 = .ok (.goto 4, 3) := by decide +kernel
theorem dX13_becomes_76 : decode cX13_becomes 76 = .ok (.iconst 1, 1) := by decide +kernel
theorem dX13_becomes_77 : decode cX13_becomes 77 = .ok (.iadd, 1) := by decide +kernel
theorem dX13_becomes_78 : decode cX13_becomes 78 = .ok (.istore_n 2, 1) := by decide +kernel
theorem dX13_becomes_79 : decode cX13_becomes 79 = .ok (.iinc 4 1, 3) := by decide +kernel
theorem dX13_becomes_82 : decode cX13_becomes 82 = .ok (.goto (-62), 3) := by decide +kernel
theorem dX13_becomes_85 : decode cX13_becomes 85 = .ok (.aload_n 0, 1) := by decide +kernel
theorem dX13_becomes_86 : decode cX13_becomes 86 = .ok (.iload_n 1, 1) := by decide +kernel
theorem dX13_becomes_87 : decode cX13_becomes 87 = .ok (.iconst 2, 1) := by decide +kernel
theorem dX13_becomes_88 : decode cX13_becomes 88 = .ok (.iadd, 1) := by decide +kernel
theorem dX13_becomes_89 : decode cX13_becomes 89 = .ok (.invokevirtual 943, 3) := by decide +kernel
theorem dX13_becomes_92 : decode cX13_becomes 92 = .ok (.istore_n 2, 1) := by decide +kernel
theorem dX13_becomes_93 : decode cX13_becomes 93 = .ok (.aload_n 0, 1) := by decide +kernel
theorem dX13_becomes_94 : decode cX13_becomes 94 = .ok (.aload_n 0, 1) := by decide +kernel
theorem dX13_becomes_95 : decode cX13_becomes 95 = .ok (.getfield 932, 3) := by decide +kernel
theorem dX13_becomes_98 : decode cX13_becomes 98 = .ok (.iload_n 2, 1) := by decide +kernel
theorem dX13_becomes_99 : decode cX13_becomes 99 = .ok (.invokevirtual 864, 3) := by decide +kernel
theorem dX13_becomes_102 : decode cX13_becomes 102 = .ok (.istore_n 3, 1) := by decide +kernel
theorem dX13_becomes_103 : decode cX13_becomes 103 = .ok (.iinc 2 1, 3) := by decide +kernel
theorem dX13_becomes_106 : decode cX13_becomes 106 = .ok (.aload_n 0, 1) := by decide +kernel
theorem dX13_becomes_107 : decode cX13_becomes 107 = .ok (.iload_n 3, 1) := by decide +kernel
theorem dX13_becomes_108 : decode cX13_becomes 108 = .ok (.putfield 961, 3) := by decide +kernel
theorem dX13_becomes_111 : decode cX13_becomes 111 = .ok (.iconst 0, 1) := by decide +kernel
theorem dX13_becomes_112 : decode cX13_becomes 112 = .ok (.istore 4, 2) := by decide +kernel
theorem dX13_becomes_114 : decode cX13_becomes 114 = .ok (.iload 4, 2) := by decide +kernel
theorem dX13_becomes_116 : decode cX13_becomes 116 = .ok (.iload_n 3, 1) := by decide +kernel
theorem dX13_becomes_117 : decode cX13_becomes 117 = .ok (.if_icmp .ge 42, 3) := by decide +kernel
theorem dX13_becomes_120 : decode cX13_becomes 120 = .ok (.aload_n 0, 1) := by decide +kernel
theorem dX13_becomes_121 : decode cX13_becomes 121 = .ok (.getfield 273, 3) := by decide +kernel
theorem dX13_becomes_124 : decode cX13_becomes 124 = .ok (.iload 4, 2) := by decide +kernel
theorem dX13_becomes_126 : decode cX13_becomes 126 = .ok (.aload_n 0, 1) := by decide +kernel
theorem dX13_becomes_127 : decode cX13_becomes 127 = .ok (.iload_n 2, 1) := by decide +kernel
theorem dX13_becomes_128 : decode cX13_becomes 128 = .ok (.invokevirtual 955, 3) := by decide +kernel
theorem dX13_becomes_131 : decode cX13_becomes 131 = .ok (.iastore, 1) := by decide +kernel
theorem dX13_becomes_132 : decode cX13_becomes 132 = .ok (.iload_n 2, 1) := by decide +kernel
theorem dX13_becomes_133 : decode cX13_becomes 133 = .ok (.aload_n 0, 1) := by decide +kernel
theorem dX13_becomes_134 : decode cX13_becomes 134 = .ok (.aload_n 0, 1) := by decide +kernel
theorem dX13_becomes_135 : decode cX13_becomes 135 = .ok (.getfield 932, 3) := by decide +kernel
theorem dX13_becomes_138 : decode cX13_becomes 138 = .ok (.iload_n 2, 1) := by decide +kernel
theorem dX13_becomes_139 : decode cX13_becomes 139 = .ok (.invokevirtual 864, 3) := by decide +kernel
theorem dX13_becomes_142 : decode cX13_becomes 142 = .ok (.iconst 3, 1) := by decide +kernel
theorem dX13_becomes_143 : decode cX13_becomes 143 = .ok (.if_icmp .ne 7, 3) := by decide +kernel
theorem dX13_becomes_146 : decode cX13_becomes 146 = .ok (.iconst 2, 1) := by decide +kernel
theorem dX13_becomes_147 : decode cX13_becomes 147 = .ok (.goto 4, 3) := by decide +kernel
theorem dX13_becomes_150 : decode cX13_becomes 150 = .ok (.iconst 1, 1) := by decide +kernel
theorem dX13_becomes_151 : decode cX13_becomes 151 = .ok (.iadd, 1) := by decide +kernel
theorem dX13_becomes_152 : decode cX13_becomes 152 = .ok (.istore_n 2, 1) := by decide +kernel
theorem dX13_becomes_153 : decode cX13_becomes 153 = .ok (.iinc 4 1, 3) := by decide +kernel
theorem dX13_becomes_156 : decode cX13_becomes 156 = .ok (.goto (-42), 3) := by decide +kernel
theorem dX13_becomes_159 : decode cX13_becomes 159 = .ok (.return_, 1) := by decide +kernel
theorem mt_X13_frameMany : mx_mt 547 = some (yX13_frameMany, cX13_frameMany, 1, (some .int)) := rfl
theorem dX13_frameMany_0 : decode cX13_frameMany 0 = .ok (.aload_n 0, 1) := by decide +kernel
theorem dX13_frameMany_1 : decode cX13_frameMany 1 = .ok (.aload_n 0, 1) := by decide +kernel
theorem dX13_frameMany_2 : decode cX13_frameMany 2 = .ok (.getfield 932, 3) := by decide +kernel
theorem dX13_frameMany_5 : decode cX13_frameMany 5 = .ok (.aload_n 0, 1) := by decide +kernel
theorem dX13_frameMany_6 : decode cX13_frameMany 6 = .ok (.getfield 242, 3) := by decide +kernel
theorem dX13_frameMany_9 : decode cX13_frameMany 9 = .ok (.bipush 12, 2) := by decide +kernel
theorem dX13_frameMany_11 : decode cX13_frameMany 11 = .ok (.aload_n 0, 1) := by decide +kernel
theorem dX13_frameMany_12 : decode cX13_frameMany 12 = .ok (.getfield 932, 3) := by decide +kernel
theorem dX13_frameMany_15 : decode cX13_frameMany 15 = .ok (.imul, 1) := by decide +kernel
theorem dX13_frameMany_16 : decode cX13_frameMany 16 = .ok (.aload_n 0, 1) := by decide +kernel
theorem dX13_frameMany_17 : decode cX13_frameMany 17 = .ok (.getfield 940, 3) := by decide +kernel
theorem dX13_frameMany_20 : decode cX13_frameMany 20 = .ok (.iadd, 1) := by decide +kernel
theorem dX13_frameMany_21 : decode cX13_frameMany 21 = .ok (.iaload, 1) := by decide +kernel
theorem dX13_frameMany_22 : decode cX13_frameMany 22 = .ok (.invokevirtual 864, 3) := by decide +kernel
theorem dX13_frameMany_25 : decode cX13_frameMany 25 = .ok (.ireturn, 1) := by decide +kernel
