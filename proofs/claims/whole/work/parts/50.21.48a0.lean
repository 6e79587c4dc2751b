theorem rs_RX13_824 : mx_res RX13 824 = some (1, 501, 1) := by decide +kernel
theorem rs_RX13_827 : mx_res RX13 827 = some (1, 507, 1) := by decide +kernel
theorem mt_X13_scanMethod : mx_mt 506 = some (yX13_scanMethod, cX13_scanMethod, 11, (some .int)) := rfl
theorem dX13_scanMethod_0 : decode cX13_scanMethod 0 = .ok (.iload_n 3, 1) := by decide +kernel
theorem dX13_scanMethod_1 : decode cX13_scanMethod 1 = .ok (.istore 4, 2) := by decide +kernel
theorem dX13_scanMethod_3 : decode cX13_scanMethod 3 = .ok (.aload_n 0, 1) := by decide +kernel
theorem dX13_scanMethod_4 : decode cX13_scanMethod 4 = .ok (.iload 4, 2) := by decide +kernel
theorem dX13_scanMethod_6 : decode cX13_scanMethod 6 = .ok (.invokevirtual 800, 3) := by decide +kernel
theorem dX13_scanMethod_9 : decode cX13_scanMethod 9 = .ok (.ifCond .eq 20, 3) := by decide +kernel
theorem dX13_scanMethod_12 : decode cX13_scanMethod 12 = .ok (.aload_n 0, 1) := by decide +kernel
theorem dX13_scanMethod_13 : decode cX13_scanMethod 13 = .ok (.getfield 245, 3) := by decide +kernel
theorem dX13_scanMethod_16 : decode cX13_scanMethod 16 = .ok (.iload 4, 2) := by decide +kernel
theorem dX13_scanMethod_18 : decode cX13_scanMethod 18 = .ok (.iaload, 1) := by decide +kernel
theorem dX13_scanMethod_19 : decode cX13_scanMethod 19 = .ok (.iconst 1, 1) := by decide +kernel
theorem dX13_scanMethod_20 : decode cX13_scanMethod 20 = .ok (.if_icmp .le 9, 3) := by decide +kernel
theorem dX13_scanMethod_23 : decode cX13_scanMethod 23 = .ok (.aload_n 0, 1) := by decide +kernel
theorem dX13_scanMethod_24 : decode cX13_scanMethod 24 = .ok (.iload 4, 2) := by decide +kernel
theorem dX13_scanMethod_26 : decode cX13_scanMethod 26 = .ok (.invokevirtual 803, 3) := by decide +kernel
theorem dX13_scanMethod_29 : decode cX13_scanMethod 29 = .ok (.aload_n 0, 1) := by decide +kernel
theorem dX13_scanMethod_30 : decode cX13_scanMethod 30 = .ok (.iload 4, 2) := by decide +kernel
theorem dX13_scanMethod_32 : decode cX13_scanMethod 32 = .ok (.iconst 1, 1) := by decide +kernel
theorem dX13_scanMethod_33 : decode cX13_scanMethod 33 = .ok (.iadd, 1) := by decide +kernel
theorem dX13_scanMethod_34 : decode cX13_scanMethod 34 = .ok (.invokevirtual 800, 3) := by decide +kernel
theorem dX13_scanMethod_37 : decode cX13_scanMethod 37 = .ok (.ifCond .eq 28, 3) := by decide +kernel
theorem dX13_scanMethod_40 : decode cX13_scanMethod 40 = .ok (.aload_n 0, 1) := by decide +kernel
theorem dX13_scanMethod_41 : decode cX13_scanMethod 41 = .ok (.aload_n 0, 1) := by decide +kernel
theorem dX13_scanMethod_42 : decode cX13_scanMethod 42 = .ok (.getfield 245, 3) := by decide +kernel
theorem dX13_scanMethod_45 : decode cX13_scanMethod 45 = .ok (.iload 4, 2) := by decide +kernel
theorem dX13_scanMethod_47 : decode cX13_scanMethod 47 = .ok (.iconst 1, 1) := by decide +kernel
theorem dX13_scanMethod_48 : decode cX13_scanMethod 48 = .ok (.iadd, 1) := by decide +kernel
theorem dX13_scanMethod_49 : decode cX13_scanMethod 49 = .ok (.iaload, 1) := by decide +kernel
theorem dX13_scanMethod_50 : decode cX13_scanMethod 50 = .ok (.iconst 0, 1) := by decide +kernel
theorem dX13_scanMethod_51 : decode cX13_scanMethod 51 = .ok (.invokevirtual 821, 3) := by decide +kernel
theorem dX13_scanMethod_54 : decode cX13_scanMethod 54 = .ok (.ifCond .ne 11, 3) := by decide +kernel
theorem dX13_scanMethod_57 : decode cX13_scanMethod 57 = .ok (.aload_n 0, 1) := by decide +kernel
theorem dX13_scanMethod_58 : decode cX13_scanMethod 58 = .ok (.iload 4, 2) := by decide +kernel
theorem dX13_scanMethod_60 : decode cX13_scanMethod 60 = .ok (.iconst 1, 1) := by decide +kernel
theorem dX13_scanMethod_61 : decode cX13_scanMethod 61 = .ok (.iadd, 1) := by decide +kernel
theorem dX13_scanMethod_62 : decode cX13_scanMethod 62 = .ok (.invokevirtual 803, 3) := by decide +kernel
theorem dX13_scanMethod_65 : decode cX13_scanMethod 65 = .ok (.aload_n 0, 1) := by decide +kernel
theorem dX13_scanMethod_66 : decode cX13_scanMethod 66 = .ok (.iload 4, 2) := by decide +kernel
theorem dX13_scanMethod_68 : decode cX13_scanMethod 68 = .ok (.iconst 2, 1) := by decide +kernel
theorem dX13_scanMethod_69 : decode cX13_scanMethod 69 = .ok (.iadd, 1) := by decide +kernel
theorem dX13_scanMethod_70 : decode cX13_scanMethod 70 = .ok (.invokevirtual 800, 3) := by decide +kernel
theorem dX13_scanMethod_73 : decode cX13_scanMethod 73 = .ok (.ifCond .eq 28, 3) := by decide +kernel
theorem dX13_scanMethod_76 : decode cX13_scanMethod 76 = .ok (.aload_n 0, 1) := by decide +kernel
theorem dX13_scanMethod_77 : decode cX13_scanMethod 77 = .ok (.aload_n 0, 1) := by decide +kernel
theorem dX13_scanMethod_78 : decode cX13_scanMethod 78 = .ok (.getfield 245, 3) := by decide +kernel
theorem dX13_scanMethod_81 : decode cX13_scanMethod 81 = .ok (.iload 4, 2) := by decide +kernel
theorem dX13_scanMethod_83 : decode cX13_scanMethod 83 = .ok (.iconst 2, 1) := by decide +kernel
theorem dX13_scanMethod_84 : decode cX13_scanMethod 84 = .ok (.iadd, 1) := by decide +kernel
theorem dX13_scanMethod_85 : decode cX13_scanMethod 85 = .ok (.iaload, 1) := by decide +kernel
theorem dX13_scanMethod_86 : decode cX13_scanMethod 86 = .ok (.iconst 2, 1) := by decide +kernel
theorem dX13_scanMethod_87 : decode cX13_scanMethod 87 = .ok (.invokevirtual 821, 3) := by decide +kernel
theorem dX13_scanMethod_90 : decode cX13_scanMethod 90 = .ok (.ifCond .ne 11, 3) := by decide +kernel
theorem dX13_scanMethod_93 : decode cX13_scanMethod 93 = .ok (.aload_n 0, 1) := by decide +kernel
theorem dX13_scanMethod_94 : decode cX13_scanMethod 94 = .ok (.iload 4, 2) := by decide +kernel
theorem dX13_scanMethod_96 : decode cX13_scanMethod 96 = .ok (.iconst 2, 1) := by decide +kernel
theorem dX13_scanMethod_97 : decode cX13_scanMethod 97 = .ok (.iadd, 1) := by decide +kernel
theorem dX13_scanMethod_98 : decode cX13_scanMethod 98 = .ok (.invokevirtual 803, 3) := by decide +kernel
theorem dX13_scanMethod_101 : decode cX13_scanMethod 101 = .ok (.aload_n 0, 1) := by decide +kernel
theorem dX13_scanMethod_102 : decode cX13_scanMethod 102 = .ok (.iload 4, 2) := by decide +kernel
theorem dX13_scanMethod_104 : decode cX13_scanMethod 104 = .ok (.iconst 3, 1) := by decide +kernel
theorem dX13_scanMethod_105 : decode cX13_scanMethod 105 = .ok (.iadd, 1) := by decide +kernel
theorem dX13_scanMethod_106 : decode cX13_scanMethod 106 = .ok (.invokevirtual 800, 3) := by decide +kernel
theorem dX13_scanMethod_109 : decode cX13_scanMethod 109 = .ok (.ifCond .eq 25, 3) := by decide +kernel
theorem dX13_scanMethod_112 : decode cX13_scanMethod 112 = .ok (.aload_n 0, 1) := by decide +kernel
theorem dX13_scanMethod_113 : decode cX13_scanMethod 113 = .ok (.getfield 245, 3) := by decide +kernel
theorem dX13_scanMethod_116 : decode cX13_scanMethod 116 = .ok (.iload 4, 2) := by decide +kernel
theorem dX13_scanMethod_118 : decode cX13_scanMethod 118 = .ok (.iconst 3, 1) := by decide +kernel
theorem dX13_scanMethod_119 : decode cX13_scanMethod 119 = .ok (.iadd, 1) := by decide +kernel
theorem dX13_scanMethod_120 : decode cX13_scanMethod 120 = .ok (.iaload, 1) := by decide +kernel
theorem dX13_scanMethod_121 : decode cX13_scanMethod 121 = .ok (.bipush 30, 2) := by decide +kernel
theorem dX13_scanMethod_123 : decode cX13_scanMethod 123 = .ok (.if_icmp .le 11, 3) := by decide +kernel
theorem dX13_scanMethod_126 : decode cX13_scanMethod 126 = .ok (.aload_n 0, 1) := by decide +kernel
theorem dX13_scanMethod_127 : decode cX13_scanMethod 127 = .ok (.iload 4, 2) := by decide +kernel
theorem dX13_scanMethod_129 : decode cX13_scanMethod 129 = .ok (.iconst 3, 1) := by decide +kernel
theorem dX13_scanMethod_130 : decode cX13_scanMethod 130 = .ok (.iadd, 1) := by decide +kernel
theorem dX13_scanMethod_131 : decode cX13_scanMethod 131 = .ok (.invokevirtual 803, 3) := by decide +kernel
theorem dX13_scanMethod_134 : decode cX13_scanMethod 134 = .ok (.aload_n 0, 1) := by decide +kernel
theorem dX13_scanMethod_135 : decode cX13_scanMethod 135 = .ok (.iload 4, 2) := by decide +kernel
theorem dX13_scanMethod_137 : decode cX13_scanMethod 137 = .ok (.iconst 4, 1) := by decide +kernel
theorem dX13_scanMethod_138 : decode cX13_scanMethod 138 = .ok (.iadd, 1) := by decide +kernel
theorem dX13_scanMethod_139 : decode cX13_scanMethod 139 = .ok (.invokevirtual 800, 3) := by decide +kernel
theorem dX13_scanMethod_142 : decode cX13_scanMethod 142 = .ok (.ifCond .ne 6, 3) := by decide +kernel
theorem dX13_scanMethod_145 : decode cX13_scanMethod 145 = .ok (.iload 4, 2) := by decide +kernel
theorem dX13_scanMethod_147 : decode cX13_scanMethod 147 = .ok (.ireturn, 1) := by decide +kernel
theorem dX13_scanMethod_148 : decode cX13_scanMethod 148 = .ok (.aload_n 0, 1) := by decide +kernel
theorem dX13_scanMethod_149 : decode cX13_scanMethod 149 = .ok (.iload_n 1, 1) := by decide +kernel
theorem dX13_scanMethod_150 : decode cX13_scanMethod 150 = .ok (.aload_n 0, 1) := by decide +kernel
theorem dX13_scanMethod_151 : decode cX13_scanMethod 151 = .ok (.getfield 245, 3) := by decide +kernel
theorem dX13_scanMethod_154 : decode cX13_scanMethod 154 = .ok (.iload 4, 2) := by decide +kernel
theorem dX13_scanMethod_156 : decode cX13_scanMethod 156 = .ok (.iconst 2, 1) := by decide +kernel
theorem dX13_scanMethod_157 : decode cX13_scanMethod 157 = .ok (.iadd, 1) := by decide +kernel
theorem dX13_scanMethod_158 : decode cX13_scanMethod 158 = .ok (.iaload, 1) := by decide +kernel
theorem dX13_scanMethod_159 : decode cX13_scanMethod 159 = .ok (.invokevirtual 791, 3) := by decide +kernel
theorem dX13_scanMethod_162 : decode cX13_scanMethod 162 = .ok (.istore 5, 2) := by decide +kernel
theorem dX13_scanMethod_164 : decode cX13_scanMethod 164 = .ok (.aload_n 0, 1) := by decide +kernel
theorem dX13_scanMethod_165 : decode cX13_scanMethod 165 = .ok (.getfield 245, 3) := by decide +kernel
theorem dX13_scanMethod_168 : decode cX13_scanMethod 168 = .ok (.iload 5, 2) := by decide +kernel
theorem dX13_scanMethod_170 : decode cX13_scanMethod 170 = .ok (.iconst 2, 1) := by decide +kernel
theorem dX13_scanMethod_171 : decode cX13_scanMethod 171 = .ok (.iadd, 1) := by decide +kernel
theorem dX13_scanMethod_172 : decode cX13_scanMethod 172 = .ok (.aload_n 0, 1) := by decide +kernel
theorem dX13_scanMethod_173 : decode cX13_scanMethod 173 = .ok (.getfield 245, 3) := by decide +kernel
theorem dX13_scanMethod_176 : decode cX13_scanMethod 176 = .ok (.iload 5, 2) := by decide +kernel
theorem dX13_scanMethod_178 : decode cX13_scanMethod 178 = .ok (.iconst 1, 1) := by decide +kernel
theorem dX13_scanMethod_179 : decode cX13_scanMethod 179 = .ok (.iadd, 1) := by decide +kernel
theorem dX13_scanMethod_180 : decode cX13_scanMethod 180 = .ok (.iaload, 1) := by decide +kernel
theorem dX13_scanMethod_181 : decode cX13_scanMethod 181 = .ok (.invokestatic 785, 3) := by decide +kernel
theorem dX13_scanMethod_184 : decode cX13_scanMethod 184 = .ok (.iconst 1, 1) := by decide +kernel
theorem dX13_scanMethod_185 : decode cX13_scanMethod 185 = .ok (.iadd, 1) := by decide +kernel
theorem dX13_scanMethod_186 : decode cX13_scanMethod 186 = .ok (.aload_n 0, 1) := by decide +kernel
theorem dX13_scanMethod_187 : decode cX13_scanMethod 187 = .ok (.getfield 245, 3) := by decide +kernel
theorem dX13_scanMethod_190 : decode cX13_scanMethod 190 = .ok (.iload 4, 2) := by decide +kernel
theorem dX13_scanMethod_192 : decode cX13_scanMethod 192 = .ok (.iaload, 1) := by decide +kernel
theorem dX13_scanMethod_193 : decode cX13_scanMethod 193 = .ok (.isub, 1) := by decide +kernel
theorem dX13_scanMethod_194 : decode cX13_scanMethod 194 = .ok (.istore 6, 2) := by decide +kernel
theorem dX13_scanMethod_196 : decode cX13_scanMethod 196 = .ok (.aload_n 0, 1) := by decide +kernel
theorem dX13_scanMethod_197 : decode cX13_scanMethod 197 = .ok (.getfield 245, 3) := by decide +kernel
theorem dX13_scanMethod_200 : decode cX13_scanMethod 200 = .ok (.iload 4, 2) := by decide +kernel
theorem dX13_scanMethod_202 : decode cX13_scanMethod 202 = .ok (.iconst 4, 1) := by decide +kernel
theorem dX13_scanMethod_203 : decode cX13_scanMethod 203 = .ok (.iadd, 1) := by decide +kernel
theorem dX13_scanMethod_204 : decode cX13_scanMethod 204 = .ok (.iaload, 1) := by decide +kernel
theorem dX13_scanMethod_205 : decode cX13_scanMethod 205 = .ok (.bipush 30, 2) := by decide +kernel
theorem dX13_scanMethod_207 : decode cX13_scanMethod 207 = .ok (.if_icmp .gt 17, 3) := by decide +kernel
theorem dX13_scanMethod_210 : decode cX13_scanMethod 210 = .ok (.aload_n 0, 1) := by decide +kernel
theorem dX13_scanMethod_211 : decode cX13_scanMethod 211 = .ok (.getfield 245, 3) := by decide +kernel
theorem dX13_scanMethod_214 : decode cX13_scanMethod 214 = .ok (.iload 4, 2) := by decide +kernel
theorem dX13_scanMethod_216 : decode cX13_scanMethod 216 = .ok (.iconst 4, 1) := by decide +kernel
theorem dX13_scanMethod_217 : decode cX13_scanMethod 217 = .ok (.iadd, 1) := by decide +kernel
theorem dX13_scanMethod_218 : decode cX13_scanMethod 218 = .ok (.iaload, 1) := by decide +kernel
theorem dX13_scanMethod_219 : decode cX13_scanMethod 219 = .ok (.iload 6, 2) := by decide +kernel
theorem dX13_scanMethod_221 : decode cX13_scanMethod 221 = .ok (.if_icmp .ge 11, 3) := by decide +kernel
theorem dX13_scanMethod_224 : decode cX13_scanMethod 224 = .ok (.aload_n 0, 1) := by decide +kernel
theorem dX13_scanMethod_225 : decode cX13_scanMethod 225 = .ok (.iload 4, 2) := by decide +kernel
theorem dX13_scanMethod_227 : decode cX13_scanMethod 227 = .ok (.iconst 4, 1) := by decide +kernel
theorem dX13_scanMethod_228 : decode cX13_scanMethod 228 = .ok (.iadd, 1) := by decide +kernel
theorem dX13_scanMethod_229 : decode cX13_scanMethod 229 = .ok (.invokevirtual 803, 3) := by decide +kernel
theorem dX13_scanMethod_232 : decode cX13_scanMethod 232 = .ok (.aload_n 0, 1) := by decide +kernel
theorem dX13_scanMethod_233 : decode cX13_scanMethod 233 = .ok (.iload 4, 2) := by decide +kernel
theorem dX13_scanMethod_235 : decode cX13_scanMethod 235 = .ok (.iconst 5, 1) := by decide +kernel
theorem dX13_scanMethod_236 : decode cX13_scanMethod 236 = .ok (.iadd, 1) := by decide +kernel
theorem dX13_scanMethod_237 : decode cX13_scanMethod 237 = .ok (.invokevirtual 800, 3) := by decide +kernel
theorem dX13_scanMethod_240 : decode cX13_scanMethod 240 = .ok (.ifCond .ne 6, 3) := by decide +kernel
theorem dX13_scanMethod_243 : decode cX13_scanMethod 243 = .ok (.iload 4, 2) := by decide +kernel
theorem dX13_scanMethod_245 : decode cX13_scanMethod 245 = .ok (.ireturn, 1) := by decide +kernel
theorem dX13_scanMethod_246 : decode cX13_scanMethod 246 = .ok (.aload_n 0, 1) := by decide +kernel
theorem dX13_scanMethod_247 : decode cX13_scanMethod 247 = .ok (.iload 4, 2) := by decide +kernel
theorem dX13_scanMethod_249 : decode cX13_scanMethod 249 = .ok (.bipush 6, 2) := by decide +kernel
theorem dX13_scanMethod_251 : decode cX13_scanMethod 251 = .ok (.iadd, 1) := by decide +kernel
theorem dX13_scanMethod_252 : decode cX13_scanMethod 252 = .ok (.invokevirtual 800, 3) := by decide +kernel
theorem dX13_scanMethod_255 : decode cX13_scanMethod 255 = .ok (.ifCond .ne 6, 3) := by decide +kernel
theorem dX13_scanMethod_258 : decode cX13_scanMethod 258 = .ok (.iload 4, 2) := by decide +kernel
theorem dX13_scanMethod_260 : decode cX13_scanMethod 260 = .ok (.ireturn, 1) := by decide +kernel
theorem dX13_scanMethod_261 : decode cX13_scanMethod 261 = .ok (.aload_n 0, 1) := by decide +kernel
theorem dX13_scanMethod_262 : decode cX13_scanMethod 262 = .ok (.iload 4, 2) := by decide +kernel
theorem dX13_scanMethod_264 : decode cX13_scanMethod 264 = .ok (.iconst 5, 1) := by decide +kernel
theorem dX13_scanMethod_265 : decode cX13_scanMethod 265 = .ok (.iadd, 1) := by decide +kernel
theorem dX13_scanMethod_266 : decode cX13_scanMethod 266 = .ok (.invokevirtual 824, 3) := by decide +kernel
theorem dX13_scanMethod_269 : decode cX13_scanMethod 269 = .ok (.istore 7, 2) := by decide +kernel
theorem dX13_scanMethod_271 : decode cX13_scanMethod 271 = .ok (.iload 7, 2) := by decide +kernel
theorem dX13_scanMethod_273 : decode cX13_scanMethod 273 = .ok (.iconst 1, 1) := by decide +kernel
theorem dX13_scanMethod_274 : decode cX13_scanMethod 274 = .ok (.if_icmp .lt 11, 3) := by decide +kernel
theorem dX13_scanMethod_277 : decode cX13_scanMethod 277 = .ok (.iload 7, 2) := by decide +kernel
theorem dX13_scanMethod_279 : decode cX13_scanMethod 279 = .ok (.sipush 1500, 3) := by decide +kernel
theorem dX13_scanMethod_282 : decode cX13_scanMethod 282 = .ok (.if_icmp .le 11, 3) := by decide +kernel
theorem dX13_scanMethod_285 : decode cX13_scanMethod 285 = .ok (.aload_n 0, 1) := by decide +kernel
theorem dX13_scanMethod_286 : decode cX13_scanMethod 286 = .ok (.iload 4, 2) := by decide +kernel
theorem dX13_scanMethod_288 : decode cX13_scanMethod 288 = .ok (.iconst 5, 1) := by decide +kernel
theorem dX13_scanMethod_289 : decode cX13_scanMethod 289 = .ok (.iadd, 1) := by decide +kernel
theorem dX13_scanMethod_290 : decode cX13_scanMethod 290 = .ok (.invokevirtual 803, 3) := by decide +kernel
theorem dX13_scanMethod_293 : decode cX13_scanMethod 293 = .ok (.iload 4, 2) := by decide +kernel
theorem dX13_scanMethod_295 : decode cX13_scanMethod 295 = .ok (.bipush 7, 2) := by decide +kernel
theorem dX13_scanMethod_297 : decode cX13_scanMethod 297 = .ok (.iload 7, 2) := by decide +kernel
theorem dX13_scanMethod_299 : decode cX13_scanMethod 299 = .ok (.iadd, 1) := by decide +kernel
theorem dX13_scanMethod_300 : decode cX13_scanMethod 300 = .ok (.iadd, 1) := by decide +kernel
theorem dX13_scanMethod_301 : decode cX13_scanMethod 301 = .ok (.istore 4, 2) := by decide +kernel
theorem dX13_scanMethod_303 : decode cX13_scanMethod 303 = .ok (.aload_n 0, 1) := by decide +kernel
theorem dX13_scanMethod_304 : decode cX13_scanMethod 304 = .ok (.getfield 764, 3) := by decide +kernel
theorem dX13_scanMethod_307 : decode cX13_scanMethod 307 = .ok (.iconst (-1), 1) := by decide +kernel
theorem dX13_scanMethod_308 : decode cX13_scanMethod 308 = .ok (.if_icmp .ne 20, 3) := by decide +kernel
theorem dX13_scanMethod_311 : decode cX13_scanMethod 311 = .ok (.iload 4, 2) := by decide +kernel
theorem dX13_scanMethod_313 : decode cX13_scanMethod 313 = .ok (.aload_n 0, 1) := by decide +kernel
theorem dX13_scanMethod_314 : decode cX13_scanMethod 314 = .ok (.getfield 767, 3) := by decide +kernel
theorem dX13_scanMethod_317 : decode cX13_scanMethod 317 = .ok (.if_icmp .le 11, 3) := by decide +kernel
theorem dX13_scanMethod_320 : decode cX13_scanMethod 320 = .ok (.aload_n 0, 1) := by decide +kernel
theorem dX13_scanMethod_321 : decode cX13_scanMethod 321 = .ok (.aload_n 0, 1) := by decide +kernel
theorem dX13_scanMethod_322 : decode cX13_scanMethod 322 = .ok (.getfield 767, 3) := by decide +kernel
theorem dX13_scanMethod_325 : decode cX13_scanMethod 325 = .ok (.putfield 764, 3) := by decide +kernel
theorem dX13_scanMethod_328 : decode cX13_scanMethod 328 = .ok (.aload_n 0, 1) := by decide +kernel
theorem dX13_scanMethod_329 : decode cX13_scanMethod 329 = .ok (.iload 4, 2) := by decide +kernel
theorem dX13_scanMethod_331 : decode cX13_scanMethod 331 = .ok (.invokevirtual 800, 3) := by decide +kernel
theorem dX13_scanMethod_334 : decode cX13_scanMethod 334 = .ok (.ifCond .ne 6, 3) := by decide +kernel
theorem dX13_scanMethod_337 : decode cX13_scanMethod 337 = .ok (.iload 4, 2) := by decide +kernel
theorem dX13_scanMethod_339 : decode cX13_scanMethod 339 = .ok (.ireturn, 1) := by decide +kernel
theorem dX13_scanMethod_340 : decode cX13_scanMethod 340 = .ok (.aload_n 0, 1) := by decide +kernel
theorem dX13_scanMethod_341 : decode cX13_scanMethod 341 = .ok (.getfield 239, 3) := by decide +kernel
theorem dX13_scanMethod_344 : decode cX13_scanMethod 344 = .ok (.bipush 12, 2) := by decide +kernel
theorem dX13_scanMethod_346 : decode cX13_scanMethod 346 = .ok (.iload_n 1, 1) := by decide +kernel
theorem dX13_scanMethod_347 : decode cX13_scanMethod 347 = .ok (.imul, 1) := by decide +kernel
theorem dX13_scanMethod_348 : decode cX13_scanMethod 348 = .ok (.iload_n 2, 1) := by decide +kernel
theorem dX13_scanMethod_349 : decode cX13_scanMethod 349 = .ok (.iadd, 1) := by decide +kernel
theorem dX13_scanMethod_350 : decode cX13_scanMethod 350 = .ok (.iload 4, 2) := by decide +kernel
theorem dX13_scanMethod_352 : decode cX13_scanMethod 352 = .ok (.iastore, 1) := by decide +kernel
theorem dX13_scanMethod_353 : decode cX13_scanMethod 353 = .ok (.aload_n 0, 1) := by decide +kernel
theorem dX13_scanMethod_354 : decode cX13_scanMethod 354 = .ok (.getfield 245, 3) := by decide +kernel
theorem dX13_scanMethod_357 : decode cX13_scanMethod 357 = .ok (.iload 4, 2) := by decide +kernel
theorem dX13_scanMethod_359 : decode cX13_scanMethod 359 = .ok (.iaload, 1) := by decide +kernel
theorem dX13_scanMethod_360 : decode cX13_scanMethod 360 = .ok (.istore 8, 2) := by decide +kernel
theorem dX13_scanMethod_362 : decode cX13_scanMethod 362 = .ok (.iload 8, 2) := by decide +kernel
theorem dX13_scanMethod_364 : decode cX13_scanMethod 364 = .ok (.bipush 20, 2) := by decide +kernel
theorem dX13_scanMethod_366 : decode cX13_scanMethod 366 = .ok (.if_icmp .le 9, 3) := by decide +kernel
theorem dX13_scanMethod_369 : decode cX13_scanMethod 369 = .ok (.aload_n 0, 1) := by decide +kernel
theorem dX13_scanMethod_370 : decode cX13_scanMethod 370 = .ok (.iload 4, 2) := by decide +kernel
theorem dX13_scanMethod_372 : decode cX13_scanMethod 372 = .ok (.invokevirtual 803, 3) := by decide +kernel
theorem dX13_scanMethod_375 : decode cX13_scanMethod 375 = .ok (.iinc 4 1, 3) := by decide +kernel
theorem dX13_scanMethod_378 : decode cX13_scanMethod 378 = .ok (.iconst 0, 1) := by decide +kernel
theorem dX13_scanMethod_379 : decode cX13_scanMethod 379 = .ok (.istore 9, 2) := by decide +kernel
theorem dX13_scanMethod_381 : decode cX13_scanMethod 381 = .ok (.iload 9, 2) := by decide +kernel
theorem dX13_scanMethod_383 : decode cX13_scanMethod 383 = .ok (.iload 8, 2) := by decide +kernel
theorem dX13_scanMethod_385 : decode cX13_scanMethod 385 = .ok (.if_icmp .ge 59, 3) := by decide +kernel
theorem dX13_scanMethod_388 : decode cX13_scanMethod 388 = .ok (.aload_n 0, 1) := by decide +kernel
theorem dX13_scanMethod_389 : decode cX13_scanMethod 389 = .ok (.getfield 764, 3) := by decide +kernel
theorem dX13_scanMethod_392 : decode cX13_scanMethod 392 = .ok (.iconst (-1), 1) := by decide +kernel
theorem dX13_scanMethod_393 : decode cX13_scanMethod 393 = .ok (.if_icmp .ne 51, 3) := by decide +kernel
theorem dX13_scanMethod_396 : decode cX13_scanMethod 396 = .ok (.aload_n 0, 1) := by decide +kernel
theorem dX13_scanMethod_397 : decode cX13_scanMethod 397 = .ok (.iload 4, 2) := by decide +kernel
theorem dX13_scanMethod_399 : decode cX13_scanMethod 399 = .ok (.bipush 6, 2) := by decide +kernel
theorem dX13_scanMethod_401 : decode cX13_scanMethod 401 = .ok (.iadd, 1) := by decide +kernel
theorem dX13_scanMethod_402 : decode cX13_scanMethod 402 = .ok (.invokevirtual 800, 3) := by decide +kernel
theorem dX13_scanMethod_405 : decode cX13_scanMethod 405 = .ok (.ifCond .eq 30, 3) := by decide +kernel
theorem dX13_scanMethod_408 : decode cX13_scanMethod 408 = .ok (.aload_n 0, 1) := by decide +kernel
theorem dX13_scanMethod_409 : decode cX13_scanMethod 409 = .ok (.aload_n 0, 1) := by decide +kernel
theorem dX13_scanMethod_410 : decode cX13_scanMethod 410 = .ok (.getfield 245, 3) := by decide +kernel
theorem dX13_scanMethod_413 : decode cX13_scanMethod 413 = .ok (.iload 4, 2) := by decide +kernel
theorem dX13_scanMethod_415 : decode cX13_scanMethod 415 = .ok (.bipush 6, 2) := by decide +kernel
theorem dX13_scanMethod_417 : decode cX13_scanMethod 417 = .ok (.iadd, 1) := by decide +kernel
theorem dX13_scanMethod_418 : decode cX13_scanMethod 418 = .ok (.iaload, 1) := by decide +kernel
theorem dX13_scanMethod_419 : decode cX13_scanMethod 419 = .ok (.iconst 1, 1) := by decide +kernel
theorem dX13_scanMethod_420 : decode cX13_scanMethod 420 = .ok (.invokevirtual 812, 3) := by decide +kernel
theorem dX13_scanMethod_423 : decode cX13_scanMethod 423 = .ok (.ifCond .ne 12, 3) := by decide +kernel
theorem dX13_scanMethod_426 : decode cX13_scanMethod 426 = .ok (.aload_n 0, 1) := by decide +kernel
theorem dX13_scanMethod_427 : decode cX13_scanMethod 427 = .ok (.iload 4, 2) := by decide +kernel
theorem dX13_scanMethod_429 : decode cX13_scanMethod 429 = .ok (.bipush 6, 2) := by decide +kernel
theorem dX13_scanMethod_431 : decode cX13_scanMethod 431 = .ok (.iadd, 1) := by decide +kernel
theorem dX13_scanMethod_432 : decode cX13_scanMethod 432 = .ok (.invokevirtual 803, 3) := by decide +kernel
theorem dX13_scanMethod_435 : decode cX13_scanMethod 435 = .ok (.iinc 4 7, 3) := by decide +kernel
theorem dX13_scanMethod_438 : decode cX13_scanMethod 438 = .ok (.iinc 9 1, 3) := by decide +kernel
theorem dX13_scanMethod_441 : decode cX13_scanMethod 441 = .ok (.goto (-60), 3) := by decide +kernel
theorem dX13_scanMethod_444 : decode cX13_scanMethod 444 = .ok (.aload_n 0, 1) := by decide +kernel
theorem dX13_scanMethod_445 : decode cX13_scanMethod 445 = .ok (.iload 4, 2) := by decide +kernel
theorem dX13_scanMethod_447 : decode cX13_scanMethod 447 = .ok (.invokevirtual 800, 3) := by decide +kernel
theorem dX13_scanMethod_450 : decode cX13_scanMethod 450 = .ok (.ifCond .ne 6, 3) := by decide +kernel
theorem dX13_scanMethod_453 : decode cX13_scanMethod 453 = .ok (.iload 4, 2) := by decide +kernel
theorem dX13_scanMethod_455 : decode cX13_scanMethod 455 = .ok (.ireturn, 1) := by decide +kernel
theorem dX13_scanMethod_456 : decode cX13_scanMethod 456 = .ok (.aload_n 0, 1) := by decide +kernel
theorem dX13_scanMethod_457 : decode cX13_scanMethod 457 = .ok (.getfield 242, 3) := by decide +kernel
theorem dX13_scanMethod_460 : decode cX13_scanMethod 460 = .ok (.bipush 12, 2) := by decide +kernel
theorem dX13_scanMethod_462 : decode cX13_scanMethod 462 = .ok (.iload_n 1, 1) := by decide +kernel
theorem dX13_scanMethod_463 : decode cX13_scanMethod 463 = .ok (.imul, 1) := by decide +kernel
theorem dX13_scanMethod_464 : decode cX13_scanMethod 464 = .ok (.iload_n 2, 1) := by decide +kernel
theorem dX13_scanMethod_465 : decode cX13_scanMethod 465 = .ok (.iadd, 1) := by decide +kernel
theorem dX13_scanMethod_466 : decode cX13_scanMethod 466 = .ok (.iload 4, 2) := by decide +kernel
theorem dX13_scanMethod_468 : decode cX13_scanMethod 468 = .ok (.iastore, 1) := by decide +kernel
theorem dX13_scanMethod_469 : decode cX13_scanMethod 469 = .ok (.aload_n 0, 1) := by decide +kernel
theorem dX13_scanMethod_470 : decode cX13_scanMethod 470 = .ok (.getfield 245, 3) := by decide +kernel
theorem dX13_scanMethod_473 : decode cX13_scanMethod 473 = .ok (.iload 4, 2) := by decide +kernel
theorem dX13_scanMethod_475 : decode cX13_scanMethod 475 = .ok (.iaload, 1) := by decide +kernel
theorem dX13_scanMethod_476 : decode cX13_scanMethod 476 = .ok (.istore 9, 2) := by decide +kernel
theorem dX13_scanMethod_478 : decode cX13_scanMethod 478 = .ok (.iload 9, 2) := by decide +kernel
theorem dX13_scanMethod_480 : decode cX13_scanMethod 480 = .ok (.bipush 100, 2) := by decide +kernel
theorem dX13_scanMethod_482 : decode cX13_scanMethod 482 = .ok (.if_icmp .le 9, 3) := by decide +kernel
theorem dX13_scanMethod_485 : decode cX13_scanMethod 485 = .ok (.aload_n 0, 1) := by decide +kernel
theorem dX13_scanMethod_486 : decode cX13_scanMethod 486 = .ok (.iload 4, 2) := by decide +kernel
theorem dX13_scanMethod_488 : decode cX13_scanMethod 488 = .ok (.invokevirtual 803, 3) := by decide +kernel
theorem dX13_scanMethod_491 : decode cX13_scanMethod 491 = .ok (.iinc 4 1, 3) := by decide +kernel
theorem dX13_scanMethod_494 : decode cX13_scanMethod 494 = .ok (.iconst 0, 1) := by decide +kernel
theorem dX13_scanMethod_495 : decode cX13_scanMethod 495 = .ok (.istore 10, 2) := by decide +kernel
theorem dX13_scanMethod_497 : decode cX13_scanMethod 497 = .ok (.iload 10, 2) := by decide +kernel
theorem dX13_scanMethod_499 : decode cX13_scanMethod 499 = .ok (.iload 9, 2) := by decide +kernel
theorem dX13_scanMethod_501 : decode cX13_scanMethod 501 = .ok (.if_icmp .ge 45, 3) := by decide +kernel
theorem dX13_scanMethod_504 : decode cX13_scanMethod 504 = .ok (.aload_n 0, 1) := by decide +kernel
theorem dX13_scanMethod_505 : decode cX13_scanMethod 505 = .ok (.getfield 764, 3) := by decide +kernel
theorem dX13_scanMethod_508 : decode cX13_scanMethod 508 = .ok (.iconst (-1), 1) := by decide +kernel
theorem dX13_scanMethod_509 : decode cX13_scanMethod 509 = .ok (.if_icmp .ne 37, 3) := by decide +kernel
theorem dX13_scanMethod_512 : decode cX13_scanMethod 512 = .ok (.aload_n 0, 1) := by decide +kernel
theorem dX13_scanMethod_513 : decode cX13_scanMethod 513 = .ok (.iload 4, 2) := by decide +kernel
theorem dX13_scanMethod_515 : decode cX13_scanMethod 515 = .ok (.iconst 1, 1) := by decide +kernel
theorem dX13_scanMethod_516 : decode cX13_scanMethod 516 = .ok (.iadd, 1) := by decide +kernel
theorem dX13_scanMethod_517 : decode cX13_scanMethod 517 = .ok (.invokevirtual 800, 3) := by decide +kernel
theorem dX13_scanMethod_520 : decode cX13_scanMethod 520 = .ok (.ifCond .ne 6, 3) := by decide +kernel
theorem dX13_scanMethod_523 : decode cX13_scanMethod 523 = .ok (.iload 4, 2) := by decide +kernel
theorem dX13_scanMethod_525 : decode cX13_scanMethod 525 = .ok (.ireturn, 1) := by decide +kernel
theorem dX13_scanMethod_526 : decode cX13_scanMethod 526 = .ok (.aload_n 0, 1) := by decide +kernel
theorem dX13_scanMethod_527 : decode cX13_scanMethod 527 = .ok (.aload_n 0, 1) := by decide +kernel
theorem dX13_scanMethod_528 : decode cX13_scanMethod 528 = .ok (.iload 4, 2) := by decide +kernel
theorem dX13_scanMethod_530 : decode cX13_scanMethod 530 = .ok (.iconst 2, 1) := by decide +kernel
theorem dX13_scanMethod_531 : decode cX13_scanMethod 531 = .ok (.iadd, 1) := by decide +kernel
theorem dX13_scanMethod_532 : decode cX13_scanMethod 532 = .ok (.invokevirtual 827, 3) := by decide +kernel
theorem dX13_scanMethod_535 : decode cX13_scanMethod 535 = .ok (.invokevirtual 827, 3) := by decide +kernel
theorem dX13_scanMethod_538 : decode cX13_scanMethod 538 = .ok (.istore 4, 2) := by decide +kernel
theorem dX13_scanMethod_540 : decode cX13_scanMethod 540 = .ok (.iinc 10 1, 3) := by decide +kernel
theorem dX13_scanMethod_543 : decode cX13_scanMethod 543 = .ok (.goto (-46), 3) := by decide +kernel
theorem dX13_scanMethod_546 : decode cX13_scanMethod 546 = .ok (.iload 4, 2) := by decide +kernel
theorem dX13_scanMethod_548 : decode cX13_scanMethod 548 = .ok (.ireturn, 1) := by decide +kernel
theorem rs_RX13_806 : mx_res RX13 806 = some (1, 503, 1) := by decide +kernel
theorem rs_RX13_809 : mx_res RX13 809 = some (1, 504, 1) := by decide +kernel
theorem rs_RX13_815 : mx_res RX13 815 = some (1, 505, 2) := by decide +kernel
theorem rs_RX13_818 : mx_res RX13 818 = some (1, 506, 3) := by decide +kernel
theorem ft_13_115 : mx_fty 13 115 = some (.int, false, "ClassMillModel") := by decide +kernel
theorem mt_X13_scan : mx_mt 502 = some (yX13_scan, cX13_scan, 5, none) := rfl
theorem dX13_scan_0 : decode cX13_scan 0 = .ok (.aload_n 0, 1) := by decide +kernel
theorem dX13_scan_1 : decode cX13_scan 1 = .ok (.iload_n 1, 1) := by decide +kernel
theorem dX13_scan_2 : decode cX13_scan 2 = .ok (.putfield 788, 3) := by decide +kernel
theorem dX13_scan_5 : decode cX13_scan 5 = .ok (.aload_n 0, 1) := by decide +kernel
theorem dX13_scan_6 : decode cX13_scan 6 = .ok (.iconst (-1), 1) := by decide +kernel
theorem dX13_scan_7 : decode cX13_scan 7 = .ok (.putfield 764, 3) := by decide +kernel
theorem dX13_scan_10 : decode cX13_scan 10 = .ok (.aload_n 0, 1) := by decide +kernel
theorem dX13_scan_11 : decode cX13_scan 11 = .ok (.getfield 218, 3) := by decide +kernel
theorem dX13_scan_14 : decode cX13_scan 14 = .ok (.iload_n 1, 1) := by decide +kernel
theorem dX13_scan_15 : decode cX13_scan 15 = .ok (.iconst 0, 1) := by decide +kernel
theorem dX13_scan_16 : decode cX13_scan 16 = .ok (.iastore, 1) := by decide +kernel
theorem dX13_scan_17 : decode cX13_scan 17 = .ok (.aload_n 0, 1) := by decide +kernel
theorem dX13_scan_18 : decode cX13_scan 18 = .ok (.iconst 0, 1) := by decide +kernel
theorem dX13_scan_19 : decode cX13_scan 19 = .ok (.invokevirtual 800, 3) := by decide +kernel
theorem dX13_scan_22 : decode cX13_scan 22 = .ok (.ifCond .eq 19, 3) := by decide +kernel
theorem dX13_scan_25 : decode cX13_scan 25 = .ok (.aload_n 0, 1) := by decide +kernel
theorem dX13_scan_26 : decode cX13_scan 26 = .ok (.getfield 245, 3) := by decide +kernel
theorem dX13_scan_29 : decode cX13_scan 29 = .ok (.iconst 0, 1) := by decide +kernel
theorem dX13_scan_30 : decode cX13_scan 30 = .ok (.iaload, 1) := by decide +kernel
theorem dX13_scan_31 : decode cX13_scan 31 = .ok (.bipush 74, 2) := by decide +kernel
theorem dX13_scan_33 : decode cX13_scan 33 = .ok (.if_icmp .eq 8, 3) := by decide +kernel
theorem dX13_scan_36 : decode cX13_scan 36 = .ok (.aload_n 0, 1) := by decide +kernel
theorem dX13_scan_37 : decode cX13_scan 37 = .ok (.iconst 0, 1) := by decide +kernel
theorem dX13_scan_38 : decode cX13_scan 38 = .ok (.invokevirtual 803, 3) := by decide +kernel
theorem dX13_scan_41 : decode cX13_scan 41 = .ok (.aload_n 0, 1) := by decide +kernel
theorem dX13_scan_42 : decode cX13_scan 42 = .ok (.iconst 1, 1) := by decide +kernel
theorem dX13_scan_43 : decode cX13_scan 43 = .ok (.invokevirtual 800, 3) := by decide +kernel
theorem dX13_scan_46 : decode cX13_scan 46 = .ok (.ifCond .eq 19, 3) := by decide +kernel
theorem dX13_scan_49 : decode cX13_scan 49 = .ok (.aload_n 0, 1) := by decide +kernel
theorem dX13_scan_50 : decode cX13_scan 50 = .ok (.getfield 245, 3) := by decide +kernel
theorem dX13_scan_53 : decode cX13_scan 53 = .ok (.iconst 1, 1) := by decide +kernel
theorem dX13_scan_54 : decode cX13_scan 54 = .ok (.iaload, 1) := by decide +kernel
theorem dX13_scan_55 : decode cX13_scan 55 = .ok (.bipush 77, 2) := by decide +kernel
theorem dX13_scan_57 : decode cX13_scan 57 = .ok (.if_icmp .eq 8, 3) := by decide +kernel
theorem dX13_scan_60 : decode cX13_scan 60 = .ok (.aload_n 0, 1) := by decide +kernel
theorem dX13_scan_61 : decode cX13_scan 61 = .ok (.iconst 1, 1) := by decide +kernel
theorem dX13_scan_62 : decode cX13_scan 62 = .ok (.invokevirtual 803, 3) := by decide +kernel
theorem dX13_scan_65 : decode cX13_scan 65 = .ok (.aload_n 0, 1) := by decide +kernel
theorem dX13_scan_66 : decode cX13_scan 66 = .ok (.iconst 2, 1) := by decide +kernel
theorem dX13_scan_67 : decode cX13_scan 67 = .ok (.invokevirtual 800, 3) := by decide +kernel
theorem dX13_scan_70 : decode cX13_scan 70 = .ok (.ifCond .ne 4, 3) := by decide +kernel
theorem dX13_scan_73 : decode cX13_scan 73 = .ok (.return_, 1) := by decide +kernel
theorem dX13_scan_74 : decode cX13_scan 74 = .ok (.aload_n 0, 1) := by decide +kernel
theorem dX13_scan_75 : decode cX13_scan 75 = .ok (.getfield 245, 3) := by decide +kernel
theorem dX13_scan_78 : decode cX13_scan 78 = .ok (.iconst 2, 1) := by decide +kernel
theorem dX13_scan_79 : decode cX13_scan 79 = .ok (.iaload, 1) := by decide +kernel
theorem dX13_scan_80 : decode cX13_scan 80 = .ok (.istore_n 2, 1) := by decide +kernel
theorem dX13_scan_81 : decode cX13_scan 81 = .ok (.iconst 3, 1) := by decide +kernel
theorem dX13_scan_82 : decode cX13_scan 82 = .ok (.istore_n 3, 1) := by decide +kernel
theorem dX13_scan_83 : decode cX13_scan 83 = .ok (.iconst 1, 1) := by decide +kernel
theorem dX13_scan_84 : decode cX13_scan 84 = .ok (.istore 4, 2) := by decide +kernel
theorem dX13_scan_86 : decode cX13_scan 86 = .ok (.iload 4, 2) := by decide +kernel
theorem dX13_scan_88 : decode cX13_scan 88 = .ok (.iload_n 2, 1) := by decide +kernel
theorem dX13_scan_89 : decode cX13_scan 89 = .ok (.if_icmp .gt 54, 3) := by decide +kernel
theorem dX13_scan_92 : decode cX13_scan 92 = .ok (.aload_n 0, 1) := by decide +kernel
theorem dX13_scan_93 : decode cX13_scan 93 = .ok (.getfield 764, 3) := by decide +kernel
theorem dX13_scan_96 : decode cX13_scan 96 = .ok (.iconst (-1), 1) := by decide +kernel
theorem dX13_scan_97 : decode cX13_scan 97 = .ok (.if_icmp .ne 46, 3) := by decide +kernel
theorem dX13_scan_100 : decode cX13_scan 100 = .ok (.aload_n 0, 1) := by decide +kernel
theorem dX13_scan_101 : decode cX13_scan 101 = .ok (.iload_n 3, 1) := by decide +kernel
theorem dX13_scan_102 : decode cX13_scan 102 = .ok (.invokevirtual 800, 3) := by decide +kernel
theorem dX13_scan_105 : decode cX13_scan 105 = .ok (.ifCond .ne 4, 3) := by decide +kernel
theorem dX13_scan_108 : decode cX13_scan 108 = .ok (.return_, 1) := by decide +kernel
theorem dX13_scan_109 : decode cX13_scan 109 = .ok (.aload_n 0, 1) := by decide +kernel
theorem dX13_scan_110 : decode cX13_scan 110 = .ok (.getfield 215, 3) := by decide +kernel
theorem dX13_scan_113 : decode cX13_scan 113 = .ok (.sipush 256, 3) := by decide +kernel
theorem dX13_scan_116 : decode cX13_scan 116 = .ok (.iload_n 1, 1) := by decide +kernel
theorem dX13_scan_117 : decode cX13_scan 117 = .ok (.imul, 1) := by decide +kernel
theorem dX13_scan_118 : decode cX13_scan 118 = .ok (.iload 4, 2) := by decide +kernel
theorem dX13_scan_120 : decode cX13_scan 120 = .ok (.iadd, 1) := by decide +kernel
theorem dX13_scan_121 : decode cX13_scan 121 = .ok (.iload_n 3, 1) := by decide +kernel
theorem dX13_scan_122 : decode cX13_scan 122 = .ok (.iastore, 1) := by decide +kernel
theorem dX13_scan_123 : decode cX13_scan 123 = .ok (.aload_n 0, 1) := by decide +kernel
theorem dX13_scan_124 : decode cX13_scan 124 = .ok (.getfield 218, 3) := by decide +kernel
theorem dX13_scan_127 : decode cX13_scan 127 = .ok (.iload_n 1, 1) := by decide +kernel
theorem dX13_scan_128 : decode cX13_scan 128 = .ok (.iload 4, 2) := by decide +kernel
theorem dX13_scan_130 : decode cX13_scan 130 = .ok (.iastore, 1) := by decide +kernel
theorem dX13_scan_131 : decode cX13_scan 131 = .ok (.aload_n 0, 1) := by decide +kernel
theorem dX13_scan_132 : decode cX13_scan 132 = .ok (.iload_n 3, 1) := by decide +kernel
theorem dX13_scan_133 : decode cX13_scan 133 = .ok (.invokevirtual 806, 3) := by decide +kernel
theorem dX13_scan_136 : decode cX13_scan 136 = .ok (.istore_n 3, 1) := by decide +kernel
theorem dX13_scan_137 : decode cX13_scan 137 = .ok (.iinc 4 1, 3) := by decide +kernel
theorem dX13_scan_140 : decode cX13_scan 140 = .ok (.goto (-54), 3) := by decide +kernel
theorem dX13_scan_143 : decode cX13_scan 143 = .ok (.iconst 1, 1) := by decide +kernel
theorem dX13_scan_144 : decode cX13_scan 144 = .ok (.istore 4, 2) := by decide +kernel
theorem dX13_scan_146 : decode cX13_scan 146 = .ok (.iload 4, 2) := by decide +kernel
theorem dX13_scan_148 : decode cX13_scan 148 = .ok (.iload_n 2, 1) := by decide +kernel
theorem dX13_scan_149 : decode cX13_scan 149 = .ok (.if_icmp .gt 34, 3) := by decide +kernel
theorem dX13_scan_152 : decode cX13_scan 152 = .ok (.aload_n 0, 1) := by decide +kernel
theorem dX13_scan_153 : decode cX13_scan 153 = .ok (.getfield 764, 3) := by decide +kernel
theorem dX13_scan_156 : decode cX13_scan 156 = .ok (.iconst (-1), 1) := by decide +kernel
theorem dX13_scan_157 : decode cX13_scan 157 = .ok (.if_icmp .ne 26, 3) := by decide +kernel
theorem dX13_scan_160 : decode cX13_scan 160 = .ok (.aload_n 0, 1) := by decide +kernel
theorem dX13_scan_161 : decode cX13_scan 161 = .ok (.aload_n 0, 1) := by decide +kernel
theorem dX13_scan_162 : decode cX13_scan 162 = .ok (.getfield 215, 3) := by decide +kernel
theorem dX13_scan_165 : decode cX13_scan 165 = .ok (.sipush 256, 3) := by decide +kernel
theorem dX13_scan_168 : decode cX13_scan 168 = .ok (.iload_n 1, 1) := by decide +kernel
theorem dX13_scan_169 : decode cX13_scan 169 = .ok (.imul, 1) := by decide +kernel
theorem dX13_scan_170 : decode cX13_scan 170 = .ok (.iload 4, 2) := by decide +kernel
theorem dX13_scan_172 : decode cX13_scan 172 = .ok (.iadd, 1) := by decide +kernel
theorem dX13_scan_173 : decode cX13_scan 173 = .ok (.iaload, 1) := by decide +kernel
theorem dX13_scan_174 : decode cX13_scan 174 = .ok (.invokevirtual 809, 3) := by decide +kernel
theorem dX13_scan_177 : decode cX13_scan 177 = .ok (.iinc 4 1, 3) := by decide +kernel
theorem dX13_scan_180 : decode cX13_scan 180 = .ok (.goto (-34), 3) := by decide +kernel
theorem dX13_scan_183 : decode cX13_scan 183 = .ok (.aload_n 0, 1) := by decide +kernel
theorem dX13_scan_184 : decode cX13_scan 184 = .ok (.iload_n 3, 1) := by decide +kernel
theorem dX13_scan_185 : decode cX13_scan 185 = .ok (.invokevirtual 800, 3) := by decide +kernel
theorem dX13_scan_188 : decode cX13_scan 188 = .ok (.ifCond .eq 22, 3) := by decide +kernel
theorem dX13_scan_191 : decode cX13_scan 191 = .ok (.aload_n 0, 1) := by decide +kernel
theorem dX13_scan_192 : decode cX13_scan 192 = .ok (.aload_n 0, 1) := by decide +kernel
theorem dX13_scan_193 : decode cX13_scan 193 = .ok (.getfield 245, 3) := by decide +kernel
theorem dX13_scan_196 : decode cX13_scan 196 = .ok (.iload_n 3, 1) := by decide +kernel
theorem dX13_scan_197 : decode cX13_scan 197 = .ok (.iaload, 1) := by decide +kernel
theorem dX13_scan_198 : decode cX13_scan 198 = .ok (.iconst 0, 1) := by decide +kernel
theorem dX13_scan_199 : decode cX13_scan 199 = .ok (.invokevirtual 812, 3) := by decide +kernel
theorem dX13_scan_202 : decode cX13_scan 202 = .ok (.ifCond .ne 8, 3) := by decide +kernel
theorem dX13_scan_205 : decode cX13_scan 205 = .ok (.aload_n 0, 1) := by decide +kernel
theorem dX13_scan_206 : decode cX13_scan 206 = .ok (.iload_n 3, 1) := by decide +kernel
theorem dX13_scan_207 : decode cX13_scan 207 = .ok (.invokevirtual 803, 3) := by decide +kernel
theorem dX13_scan_210 : decode cX13_scan 210 = .ok (.aload_n 0, 1) := by decide +kernel
theorem dX13_scan_211 : decode cX13_scan 211 = .ok (.iload_n 3, 1) := by decide +kernel
theorem dX13_scan_212 : decode cX13_scan 212 = .ok (.iconst 1, 1) := by decide +kernel
theorem dX13_scan_213 : decode cX13_scan 213 = .ok (.iadd, 1) := by decide +kernel
theorem dX13_scan_214 : decode cX13_scan 214 = .ok (.invokevirtual 800, 3) := by decide +kernel
theorem dX13_scan_217 : decode cX13_scan 217 = .ok (.ifCond .eq 26, 3) := by decide +kernel
theorem dX13_scan_220 : decode cX13_scan 220 = .ok (.aload_n 0, 1) := by decide +kernel
theorem dX13_scan_221 : decode cX13_scan 221 = .ok (.aload_n 0, 1) := by decide +kernel
theorem dX13_scan_222 : decode cX13_scan 222 = .ok (.getfield 245, 3) := by decide +kernel
theorem dX13_scan_225 : decode cX13_scan 225 = .ok (.iload_n 3, 1) := by decide +kernel
theorem dX13_scan_226 : decode cX13_scan 226 = .ok (.iconst 1, 1) := by decide +kernel
theorem dX13_scan_227 : decode cX13_scan 227 = .ok (.iadd, 1) := by decide +kernel
theorem dX13_scan_228 : decode cX13_scan 228 = .ok (.iaload, 1) := by decide +kernel
theorem dX13_scan_229 : decode cX13_scan 229 = .ok (.iconst 0, 1) := by decide +kernel
theorem dX13_scan_230 : decode cX13_scan 230 = .ok (.invokevirtual 812, 3) := by decide +kernel
theorem dX13_scan_233 : decode cX13_scan 233 = .ok (.ifCond .ne 10, 3) := by decide +kernel
theorem dX13_scan_236 : decode cX13_scan 236 = .ok (.aload_n 0, 1) := by decide +kernel
theorem dX13_scan_237 : decode cX13_scan 237 = .ok (.iload_n 3, 1) := by decide +kernel
theorem dX13_scan_238 : decode cX13_scan 238 = .ok (.iconst 1, 1) := by decide +kernel
theorem dX13_scan_239 : decode cX13_scan 239 = .ok (.iadd, 1) := by decide +kernel
theorem dX13_scan_240 : decode cX13_scan 240 = .ok (.invokevirtual 803, 3) := by decide +kernel
theorem dX13_scan_243 : decode cX13_scan 243 = .ok (.aload_n 0, 1) := by decide +kernel
theorem dX13_scan_244 : decode cX13_scan 244 = .ok (.iload_n 3, 1) := by decide +kernel
theorem dX13_scan_245 : decode cX13_scan 245 = .ok (.iconst 2, 1) := by decide +kernel
theorem dX13_scan_246 : decode cX13_scan 246 = .ok (.iadd, 1) := by decide +kernel
theorem dX13_scan_247 : decode cX13_scan 247 = .ok (.invokevirtual 800, 3) := by decide +kernel
theorem dX13_scan_250 : decode cX13_scan 250 = .ok (.ifCond .ne 4, 3) := by decide +kernel
theorem dX13_scan_253 : decode cX13_scan 253 = .ok (.return_, 1) := by decide +kernel
theorem dX13_scan_254 : decode cX13_scan 254 = .ok (.aload_n 0, 1) := by decide +kernel
theorem dX13_scan_255 : decode cX13_scan 255 = .ok (.getfield 221, 3) := by decide +kernel
theorem dX13_scan_258 : decode cX13_scan 258 = .ok (.iload_n 1, 1) := by decide +kernel
theorem dX13_scan_259 : decode cX13_scan 259 = .ok (.aload_n 0, 1) := by decide +kernel
theorem dX13_scan_260 : decode cX13_scan 260 = .ok (.getfield 245, 3) := by decide +kernel
theorem dX13_scan_263 : decode cX13_scan 263 = .ok (.iload_n 3, 1) := by decide +kernel
theorem dX13_scan_264 : decode cX13_scan 264 = .ok (.iaload, 1) := by decide +kernel
theorem dX13_scan_265 : decode cX13_scan 265 = .ok (.iastore, 1) := by decide +kernel
theorem dX13_scan_266 : decode cX13_scan 266 = .ok (.aload_n 0, 1) := by decide +kernel
theorem dX13_scan_267 : decode cX13_scan 267 = .ok (.getfield 224, 3) := by decide +kernel
theorem dX13_scan_270 : decode cX13_scan 270 = .ok (.iload_n 1, 1) := by decide +kernel
theorem dX13_scan_271 : decode cX13_scan 271 = .ok (.aload_n 0, 1) := by decide +kernel
theorem dX13_scan_272 : decode cX13_scan 272 = .ok (.getfield 245, 3) := by decide +kernel
theorem dX13_scan_275 : decode cX13_scan 275 = .ok (.iload_n 3, 1) := by decide +kernel
theorem dX13_scan_276 : decode cX13_scan 276 = .ok (.iconst 1, 1) := by decide +kernel
theorem dX13_scan_277 : decode cX13_scan 277 = .ok (.iadd, 1) := by decide +kernel
theorem dX13_scan_278 : decode cX13_scan 278 = .ok (.iaload, 1) := by decide +kernel
theorem dX13_scan_279 : decode cX13_scan 279 = .ok (.iastore, 1) := by decide +kernel
theorem dX13_scan_280 : decode cX13_scan 280 = .ok (.aload_n 0, 1) := by decide +kernel
theorem dX13_scan_281 : decode cX13_scan 281 = .ok (.iload_n 1, 1) := by decide +kernel
theorem dX13_scan_282 : decode cX13_scan 282 = .ok (.iload_n 3, 1) := by decide +kernel
theorem dX13_scan_283 : decode cX13_scan 283 = .ok (.iconst 2, 1) := by decide +kernel
theorem dX13_scan_284 : decode cX13_scan 284 = .ok (.iadd, 1) := by decide +kernel
theorem dX13_scan_285 : decode cX13_scan 285 = .ok (.invokevirtual 815, 3) := by decide +kernel
theorem dX13_scan_288 : decode cX13_scan 288 = .ok (.istore_n 3, 1) := by decide +kernel
theorem dX13_scan_289 : decode cX13_scan 289 = .ok (.aload_n 0, 1) := by decide +kernel
theorem dX13_scan_290 : decode cX13_scan 290 = .ok (.iload_n 3, 1) := by decide +kernel
theorem dX13_scan_291 : decode cX13_scan 291 = .ok (.invokevirtual 800, 3) := by decide +kernel
theorem dX13_scan_294 : decode cX13_scan 294 = .ok (.ifCond .ne 4, 3) := by decide +kernel
theorem dX13_scan_297 : decode cX13_scan 297 = .ok (.return_, 1) := by decide +kernel
theorem dX13_scan_298 : decode cX13_scan 298 = .ok (.aload_n 0, 1) := by decide +kernel
theorem dX13_scan_299 : decode cX13_scan 299 = .ok (.getfield 245, 3) := by decide +kernel
theorem dX13_scan_302 : decode cX13_scan 302 = .ok (.iload_n 3, 1) := by decide +kernel
theorem dX13_scan_303 : decode cX13_scan 303 = .ok (.iaload, 1) := by decide +kernel
theorem dX13_scan_304 : decode cX13_scan 304 = .ok (.bipush 12, 2) := by decide +kernel
theorem dX13_scan_306 : decode cX13_scan 306 = .ok (.if_icmp .le 8, 3) := by decide +kernel
theorem dX13_scan_309 : decode cX13_scan 309 = .ok (.aload_n 0, 1) := by decide +kernel
theorem dX13_scan_310 : decode cX13_scan 310 = .ok (.iload_n 3, 1) := by decide +kernel
theorem dX13_scan_311 : decode cX13_scan 311 = .ok (.invokevirtual 803, 3) := by decide +kernel
theorem dX13_scan_314 : decode cX13_scan 314 = .ok (.aload_n 0, 1) := by decide +kernel
theorem dX13_scan_315 : decode cX13_scan 315 = .ok (.getfield 233, 3) := by decide +kernel
theorem dX13_scan_318 : decode cX13_scan 318 = .ok (.iload_n 1, 1) := by decide +kernel
theorem dX13_scan_319 : decode cX13_scan 319 = .ok (.aload_n 0, 1) := by decide +kernel
theorem dX13_scan_320 : decode cX13_scan 320 = .ok (.getfield 245, 3) := by decide +kernel
theorem dX13_scan_323 : decode cX13_scan 323 = .ok (.iload_n 3, 1) := by decide +kernel
theorem dX13_scan_324 : decode cX13_scan 324 = .ok (.iaload, 1) := by decide +kernel
theorem dX13_scan_325 : decode cX13_scan 325 = .ok (.iastore, 1) := by decide +kernel
theorem dX13_scan_326 : decode cX13_scan 326 = .ok (.iinc 3 1, 3) := by decide +kernel
theorem dX13_scan_329 : decode cX13_scan 329 = .ok (.iconst 0, 1) := by decide +kernel
theorem dX13_scan_330 : decode cX13_scan 330 = .ok (.istore 4, 2) := by decide +kernel
theorem dX13_scan_332 : decode cX13_scan 332 = .ok (.aload_n 0, 1) := by decide +kernel
theorem dX13_scan_333 : decode cX13_scan 333 = .ok (.getfield 764, 3) := by decide +kernel
theorem dX13_scan_336 : decode cX13_scan 336 = .ok (.iconst (-1), 1) := by decide +kernel
theorem dX13_scan_337 : decode cX13_scan 337 = .ok (.if_icmp .ne 42, 3) := by decide +kernel
theorem dX13_scan_340 : decode cX13_scan 340 = .ok (.iload 4, 2) := by decide +kernel
theorem dX13_scan_342 : decode cX13_scan 342 = .ok (.aload_n 0, 1) := by decide +kernel
theorem dX13_scan_343 : decode cX13_scan 343 = .ok (.getfield 233, 3) := by decide +kernel
theorem dX13_scan_346 : decode cX13_scan 346 = .ok (.iload_n 1, 1) := by decide +kernel
theorem dX13_scan_347 : decode cX13_scan 347 = .ok (.iaload, 1) := by decide +kernel
theorem dX13_scan_348 : decode cX13_scan 348 = .ok (.if_icmp .ge 31, 3) := by decide +kernel
theorem dX13_scan_351 : decode cX13_scan 351 = .ok (.aload_n 0, 1) := by decide +kernel
theorem dX13_scan_352 : decode cX13_scan 352 = .ok (.getfield 236, 3) := by decide +kernel
theorem dX13_scan_355 : decode cX13_scan 355 = .ok (.bipush 12, 2) := by decide +kernel
theorem dX13_scan_357 : decode cX13_scan 357 = .ok (.iload_n 1, 1) := by decide +kernel
theorem dX13_scan_358 : decode cX13_scan 358 = .ok (.imul, 1) := by decide +kernel
theorem dX13_scan_359 : decode cX13_scan 359 = .ok (.iload 4, 2) := by decide +kernel
theorem dX13_scan_361 : decode cX13_scan 361 = .ok (.iadd, 1) := by decide +kernel
theorem dX13_scan_362 : decode cX13_scan 362 = .ok (.iload_n 3, 1) := by decide +kernel
theorem dX13_scan_363 : decode cX13_scan 363 = .ok (.iastore, 1) := by decide +kernel
theorem dX13_scan_364 : decode cX13_scan 364 = .ok (.aload_n 0, 1) := by decide +kernel
theorem dX13_scan_365 : decode cX13_scan 365 = .ok (.iload_n 1, 1) := by decide +kernel
theorem dX13_scan_366 : decode cX13_scan 366 = .ok (.iload 4, 2) := by decide +kernel
theorem dX13_scan_368 : decode cX13_scan 368 = .ok (.iload_n 3, 1) := by decide +kernel
theorem dX13_scan_369 : decode cX13_scan 369 = .ok (.invokevirtual 818, 3) := by decide +kernel
theorem dX13_scan_372 : decode cX13_scan 372 = .ok (.istore_n 3, 1) := by decide +kernel
theorem dX13_scan_373 : decode cX13_scan 373 = .ok (.iinc 4 1, 3) := by decide +kernel
theorem dX13_scan_376 : decode cX13_scan 376 = .ok (.goto (-44), 3) := by decide +kernel
theorem dX13_scan_379 : decode cX13_scan 379 = .ok (.aload_n 0, 1) := by decide +kernel
theorem dX13_scan_380 : decode cX13_scan 380 = .ok (.getfield 764, 3) := by decide +kernel
theorem dX13_scan_383 : decode cX13_scan 383 = .ok (.iconst (-1), 1) := by decide +kernel
theorem dX13_scan_384 : decode cX13_scan 384 = .ok (.if_icmp .ne 16, 3) := by decide +kernel
theorem dX13_scan_387 : decode cX13_scan 387 = .ok (.iload_n 3, 1) := by decide +kernel
theorem dX13_scan_388 : decode cX13_scan 388 = .ok (.aload_n 0, 1) := by decide +kernel
theorem dX13_scan_389 : decode cX13_scan 389 = .ok (.getfield 767, 3) := by decide +kernel
theorem dX13_scan_392 : decode cX13_scan 392 = .ok (.if_icmp .ge 8, 3) := by decide +kernel
theorem dX13_scan_395 : decode cX13_scan 395 = .ok (.aload_n 0, 1) := by decide +kernel
theorem dX13_scan_396 : decode cX13_scan 396 = .ok (.iload_n 3, 1) := by decide +kernel
theorem dX13_scan_397 : decode cX13_scan 397 = .ok (.invokevirtual 803, 3) := by decide +kernel
theorem dX13_scan_400 : decode cX13_scan 400 = .ok (.return_, 1) := by decide +kernel
