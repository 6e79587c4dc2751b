theorem dX13_memberHead_235 : decode cX13_memberHead 235 = .ok (.iload_n 1, 1) := by decide +kernel
theorem dX13_memberHead_236 : decode cX13_memberHead 236 = .ok (.iaload, 1) := by decide +kernel
theorem dX13_memberHead_237 : decode cX13_memberHead 237 = .ok (.istore 6, 2) := by decide +kernel
theorem dX13_memberHead_239 : decode cX13_memberHead 239 = .ok (.iload 6, 2) := by decide +kernel
theorem dX13_memberHead_241 : decode cX13_memberHead 241 = .ok (.iload 5, 2) := by decide +kernel
theorem dX13_memberHead_243 : decode cX13_memberHead 243 = .ok (.if_icmp .ge 42, 3) := by decide +kernel
theorem dX13_memberHead_246 : decode cX13_memberHead 246 = .ok (.aload_n 0, 1) := by decide +kernel
theorem dX13_memberHead_247 : decode cX13_memberHead 247 = .ok (.aload_n 0, 1) := by decide +kernel
theorem dX13_memberHead_248 : decode cX13_memberHead 248 = .ok (.getfield 110, 3) := by decide +kernel
theorem dX13_memberHead_251 : decode cX13_memberHead 251 = .ok (.iload 6, 2) := by decide +kernel
theorem dX13_memberHead_253 : decode cX13_memberHead 253 = .ok (.iaload, 1) := by decide +kernel
theorem dX13_memberHead_254 : decode cX13_memberHead 254 = .ok (.aload_n 0, 1) := by decide +kernel
theorem dX13_memberHead_255 : decode cX13_memberHead 255 = .ok (.getfield 110, 3) := by decide +kernel
theorem dX13_memberHead_258 : decode cX13_memberHead 258 = .ok (.iload 5, 2) := by decide +kernel
theorem dX13_memberHead_260 : decode cX13_memberHead 260 = .ok (.iaload, 1) := by decide +kernel
theorem dX13_memberHead_261 : decode cX13_memberHead 261 = .ok (.invokevirtual 479, 3) := by decide +kernel
theorem dX13_memberHead_264 : decode cX13_memberHead 264 = .ok (.ifCond .eq 15, 3) := by decide +kernel
theorem dX13_memberHead_267 : decode cX13_memberHead 267 = .ok (.aload_n 0, 1) := by decide +kernel
theorem dX13_memberHead_268 : decode cX13_memberHead 268 = .ok (.iconst 4, 1) := by decide +kernel
theorem dX13_memberHead_269 : decode cX13_memberHead 269 = .ok (.aload_n 0, 1) := by decide +kernel
theorem dX13_memberHead_270 : decode cX13_memberHead 270 = .ok (.getfield 110, 3) := by decide +kernel
theorem dX13_memberHead_273 : decode cX13_memberHead 273 = .ok (.iload 5, 2) := by decide +kernel
theorem dX13_memberHead_275 : decode cX13_memberHead 275 = .ok (.iaload, 1) := by decide +kernel
theorem dX13_memberHead_276 : decode cX13_memberHead 276 = .ok (.invokevirtual 379, 3) := by decide +kernel
theorem dX13_memberHead_279 : decode cX13_memberHead 279 = .ok (.iinc 6 1, 3) := by decide +kernel
theorem dX13_memberHead_282 : decode cX13_memberHead 282 = .ok (.goto (-43), 3) := by decide +kernel
theorem dX13_memberHead_285 : decode cX13_memberHead 285 = .ok (.iinc 4 1, 3) := by decide +kernel
theorem dX13_memberHead_288 : decode cX13_memberHead 288 = .ok (.goto (-131), 3) := by decide +kernel
theorem dX13_memberHead_291 : decode cX13_memberHead 291 = .ok (.return_, 1) := by decide +kernel
theorem dX13_overrides_0 : decode cX13_overrides 0 = .ok (.aload_n 0, 1) := by decide +kernel
theorem dX13_overrides_1 : decode cX13_overrides 1 = .ok (.aload_n 0, 1) := by decide +kernel
theorem dX13_overrides_2 : decode cX13_overrides 2 = .ok (.bipush 8, 2) := by decide +kernel
theorem dX13_overrides_4 : decode cX13_overrides 4 = .ok (.aload_n 0, 1) := by decide +kernel
theorem dX13_overrides_5 : decode cX13_overrides 5 = .ok (.getfield 71, 3) := by decide +kernel
theorem dX13_overrides_8 : decode cX13_overrides 8 = .ok (.iload_n 1, 1) := by decide +kernel
theorem dX13_overrides_9 : decode cX13_overrides 9 = .ok (.iaload, 1) := by decide +kernel
theorem dX13_overrides_10 : decode cX13_overrides 10 = .ok (.iadd, 1) := by decide +kernel
theorem dX13_overrides_11 : decode cX13_overrides 11 = .ok (.invokevirtual 482, 3) := by decide +kernel
theorem dX13_overrides_14 : decode cX13_overrides 14 = .ok (.aload_n 0, 1) := by decide +kernel
theorem dX13_overrides_15 : decode cX13_overrides 15 = .ok (.getfield 86, 3) := by decide +kernel
theorem dX13_overrides_18 : decode cX13_overrides 18 = .ok (.iload_n 1, 1) := by decide +kernel
theorem dX13_overrides_19 : decode cX13_overrides 19 = .ok (.iaload, 1) := by decide +kernel
theorem dX13_overrides_20 : decode cX13_overrides 20 = .ok (.iconst 1, 1) := by decide +kernel
theorem dX13_overrides_21 : decode cX13_overrides 21 = .ok (.invokevirtual 507, 3) := by decide +kernel
theorem dX13_overrides_24 : decode cX13_overrides 24 = .ok (.istore_n 2, 1) := by decide +kernel
theorem dX13_overrides_25 : decode cX13_overrides 25 = .ok (.iload_n 2, 1) := by decide +kernel
theorem dX13_overrides_26 : decode cX13_overrides 26 = .ok (.iconst (-1), 1) := by decide +kernel
theorem dX13_overrides_27 : decode cX13_overrides 27 = .ok (.if_icmp .ne 4, 3) := by decide +kernel
theorem dX13_overrides_30 : decode cX13_overrides 30 = .ok (.return_, 1) := by decide +kernel
theorem dX13_overrides_31 : decode cX13_overrides 31 = .ok (.aload_n 0, 1) := by decide +kernel
theorem dX13_overrides_32 : decode cX13_overrides 32 = .ok (.getfield 74, 3) := by decide +kernel
theorem dX13_overrides_35 : decode cX13_overrides 35 = .ok (.iload_n 1, 1) := by decide +kernel
theorem dX13_overrides_36 : decode cX13_overrides 36 = .ok (.iaload, 1) := by decide +kernel
theorem dX13_overrides_37 : decode cX13_overrides 37 = .ok (.iconst 1, 1) := by decide +kernel
theorem dX13_overrides_38 : decode cX13_overrides 38 = .ok (.if_icmp .ne 47, 3) := by decide +kernel
theorem dX13_overrides_41 : decode cX13_overrides 41 = .ok (.aload_n 0, 1) := by decide +kernel
theorem dX13_overrides_42 : decode cX13_overrides 42 = .ok (.getfield 74, 3) := by decide +kernel
theorem dX13_overrides_45 : decode cX13_overrides 45 = .ok (.iload_n 2, 1) := by decide +kernel
theorem dX13_overrides_46 : decode cX13_overrides 46 = .ok (.iaload, 1) := by decide +kernel
theorem dX13_overrides_47 : decode cX13_overrides 47 = .ok (.iconst 1, 1) := by decide +kernel
theorem dX13_overrides_48 : decode cX13_overrides 48 = .ok (.if_icmp .ne 37, 3) := by decide +kernel
theorem dX13_overrides_51 : decode cX13_overrides 51 = .ok (.aload_n 0, 1) := by decide +kernel
theorem dX13_overrides_52 : decode cX13_overrides 52 = .ok (.getfield 89, 3) := by decide +kernel
theorem dX13_overrides_55 : decode cX13_overrides 55 = .ok (.iload_n 1, 1) := by decide +kernel
theorem dX13_overrides_56 : decode cX13_overrides 56 = .ok (.iaload, 1) := by decide +kernel
theorem dX13_overrides_57 : decode cX13_overrides 57 = .ok (.aload_n 0, 1) := by decide +kernel
theorem dX13_overrides_58 : decode cX13_overrides 58 = .ok (.getfield 89, 3) := by decide +kernel
theorem dX13_overrides_61 : decode cX13_overrides 61 = .ok (.iload_n 2, 1) := by decide +kernel
theorem dX13_overrides_62 : decode cX13_overrides 62 = .ok (.iaload, 1) := by decide +kernel
theorem dX13_overrides_63 : decode cX13_overrides 63 = .ok (.if_icmp .ne 22, 3) := by decide +kernel
theorem dX13_overrides_66 : decode cX13_overrides 66 = .ok (.aload_n 0, 1) := by decide +kernel
theorem dX13_overrides_67 : decode cX13_overrides 67 = .ok (.getfield 95, 3) := by decide +kernel
theorem dX13_overrides_70 : decode cX13_overrides 70 = .ok (.iload_n 1, 1) := by decide +kernel
theorem dX13_overrides_71 : decode cX13_overrides 71 = .ok (.iaload, 1) := by decide +kernel
theorem dX13_overrides_72 : decode cX13_overrides 72 = .ok (.aload_n 0, 1) := by decide +kernel
theorem dX13_overrides_73 : decode cX13_overrides 73 = .ok (.getfield 95, 3) := by decide +kernel
theorem dX13_overrides_76 : decode cX13_overrides 76 = .ok (.iload_n 2, 1) := by decide +kernel
theorem dX13_overrides_77 : decode cX13_overrides 77 = .ok (.iaload, 1) := by decide +kernel
theorem dX13_overrides_78 : decode cX13_overrides 78 = .ok (.if_icmp .ne 7, 3) := by decide +kernel
theorem dX13_overrides_81 : decode cX13_overrides 81 = .ok (.iconst 1, 1) := by decide +kernel
theorem dX13_overrides_82 : decode cX13_overrides 82 = .ok (.goto 4, 3) := by decide +kernel
theorem dX13_overrides_85 : decode cX13_overrides 85 = .ok (.iconst 0, 1) := by decide +kernel
theorem dX13_overrides_86 : decode cX13_overrides 86 = .ok (.istore_n 3, 1) := by decide +kernel
theorem dX13_overrides_87 : decode cX13_overrides 87 = .ok (.iconst 0, 1) := by decide +kernel
theorem dX13_overrides_88 : decode cX13_overrides 88 = .ok (.istore 4, 2) := by decide +kernel
theorem dX13_overrides_90 : decode cX13_overrides 90 = .ok (.iload 4, 2) := by decide +kernel
theorem dX13_overrides_92 : decode cX13_overrides 92 = .ok (.aload_n 0, 1) := by decide +kernel
theorem dX13_overrides_93 : decode cX13_overrides 93 = .ok (.getfield 95, 3) := by decide +kernel
theorem dX13_overrides_96 : decode cX13_overrides 96 = .ok (.iload_n 1, 1) := by decide +kernel
theorem dX13_overrides_97 : decode cX13_overrides 97 = .ok (.iaload, 1) := by decide +kernel
theorem dX13_overrides_98 : decode cX13_overrides 98 = .ok (.if_icmp .ge 50, 3) := by decide +kernel
theorem dX13_overrides_101 : decode cX13_overrides 101 = .ok (.iload_n 3, 1) := by decide +kernel
theorem dX13_overrides_102 : decode cX13_overrides 102 = .ok (.ifCond .eq 46, 3) := by decide +kernel
theorem dX13_overrides_105 : decode cX13_overrides 105 = .ok (.aload_n 0, 1) := by decide +kernel
theorem dX13_overrides_106 : decode cX13_overrides 106 = .ok (.getfield 113, 3) := by decide +kernel
theorem dX13_overrides_109 : decode cX13_overrides 109 = .ok (.aload_n 0, 1) := by decide +kernel
theorem dX13_overrides_110 : decode cX13_overrides 110 = .ok (.getfield 92, 3) := by decide +kernel
theorem dX13_overrides_113 : decode cX13_overrides 113 = .ok (.iload_n 1, 1) := by decide +kernel
theorem dX13_overrides_114 : decode cX13_overrides 114 = .ok (.iaload, 1) := by decide +kernel
theorem dX13_overrides_115 : decode cX13_overrides 115 = .ok (.iload 4, 2) := by decide +kernel
theorem dX13_overrides_117 : decode cX13_overrides 117 = .ok (.iadd, 1) := by decide +kernel
theorem dX13_overrides_118 : decode cX13_overrides 118 = .ok (.iaload, 1) := by decide +kernel
theorem dX13_overrides_119 : decode cX13_overrides 119 = .ok (.aload_n 0, 1) := by decide +kernel
theorem dX13_overrides_120 : decode cX13_overrides 120 = .ok (.getfield 113, 3) := by decide +kernel
theorem dX13_overrides_123 : decode cX13_overrides 123 = .ok (.aload_n 0, 1) := by decide +kernel
theorem dX13_overrides_124 : decode cX13_overrides 124 = .ok (.getfield 92, 3) := by decide +kernel
theorem dX13_overrides_127 : decode cX13_overrides 127 = .ok (.iload_n 2, 1) := by decide +kernel
theorem dX13_overrides_128 : decode cX13_overrides 128 = .ok (.iaload, 1) := by decide +kernel
theorem dX13_overrides_129 : decode cX13_overrides 129 = .ok (.iload 4, 2) := by decide +kernel
theorem dX13_overrides_131 : decode cX13_overrides 131 = .ok (.iadd, 1) := by decide +kernel
theorem dX13_overrides_132 : decode cX13_overrides 132 = .ok (.iaload, 1) := by decide +kernel
theorem dX13_overrides_133 : decode cX13_overrides 133 = .ok (.if_icmp .ne 7, 3) := by decide +kernel
theorem dX13_overrides_136 : decode cX13_overrides 136 = .ok (.iconst 1, 1) := by decide +kernel
theorem dX13_overrides_137 : decode cX13_overrides 137 = .ok (.goto 4, 3) := by decide +kernel
theorem dX13_overrides_140 : decode cX13_overrides 140 = .ok (.iconst 0, 1) := by decide +kernel
theorem dX13_overrides_141 : decode cX13_overrides 141 = .ok (.istore_n 3, 1) := by decide +kernel
theorem dX13_overrides_142 : decode cX13_overrides 142 = .ok (.iinc 4 1, 3) := by decide +kernel
theorem dX13_overrides_145 : decode cX13_overrides 145 = .ok (.goto (-55), 3) := by decide +kernel
theorem dX13_overrides_148 : decode cX13_overrides 148 = .ok (.iload_n 3, 1) := by decide +kernel
theorem dX13_overrides_149 : decode cX13_overrides 149 = .ok (.ifCond .ne 15, 3) := by decide +kernel
theorem dX13_overrides_152 : decode cX13_overrides 152 = .ok (.aload_n 0, 1) := by decide +kernel
theorem dX13_overrides_153 : decode cX13_overrides 153 = .ok (.bipush 10, 2) := by decide +kernel
theorem dX13_overrides_155 : decode cX13_overrides 155 = .ok (.aload_n 0, 1) := by decide +kernel
theorem dX13_overrides_156 : decode cX13_overrides 156 = .ok (.getfield 86, 3) := by decide +kernel
theorem dX13_overrides_159 : decode cX13_overrides 159 = .ok (.iload_n 1, 1) := by decide +kernel
theorem dX13_overrides_160 : decode cX13_overrides 160 = .ok (.iaload, 1) := by decide +kernel
theorem dX13_overrides_161 : decode cX13_overrides 161 = .ok (.invokevirtual 379, 3) := by decide +kernel
theorem dX13_overrides_164 : decode cX13_overrides 164 = .ok (.return_, 1) := by decide +kernel
theorem dX13_named_0 : decode cX13_named 0 = .ok (.aload_n 0, 1) := by decide +kernel
theorem dX13_named_1 : decode cX13_named 1 = .ok (.aload_n 0, 1) := by decide +kernel
theorem dX13_named_2 : decode cX13_named 2 = .ok (.getfield 31, 3) := by decide +kernel
theorem dX13_named_5 : decode cX13_named 5 = .ok (.iload_n 1, 1) := by decide +kernel
theorem dX13_named_6 : decode cX13_named 6 = .ok (.iaload, 1) := by decide +kernel
theorem dX13_named_7 : decode cX13_named 7 = .ok (.invokevirtual 534, 3) := by decide +kernel
theorem dX13_named_10 : decode cX13_named 10 = .ok (.istore_n 2, 1) := by decide +kernel
theorem dX13_named_11 : decode cX13_named 11 = .ok (.iload_n 2, 1) := by decide +kernel
theorem dX13_named_12 : decode cX13_named 12 = .ok (.iconst (-1), 1) := by decide +kernel
theorem dX13_named_13 : decode cX13_named 13 = .ok (.if_icmp .eq 28, 3) := by decide +kernel
theorem dX13_named_16 : decode cX13_named 16 = .ok (.aload_n 0, 1) := by decide +kernel
theorem dX13_named_17 : decode cX13_named 17 = .ok (.getfield 52, 3) := by decide +kernel
theorem dX13_named_20 : decode cX13_named 20 = .ok (.iload_n 1, 1) := by decide +kernel
theorem dX13_named_21 : decode cX13_named 21 = .ok (.iconst (-1), 1) := by decide +kernel
theorem dX13_named_22 : decode cX13_named 22 = .ok (.iastore, 1) := by decide +kernel
theorem dX13_named_23 : decode cX13_named 23 = .ok (.aload_n 0, 1) := by decide +kernel
theorem dX13_named_24 : decode cX13_named 24 = .ok (.getfield 55, 3) := by decide +kernel
theorem dX13_named_27 : decode cX13_named 27 = .ok (.iload_n 1, 1) := by decide +kernel
theorem dX13_named_28 : decode cX13_named 28 = .ok (.aload_n 0, 1) := by decide +kernel
theorem dX13_named_29 : decode cX13_named 29 = .ok (.iload_n 2, 1) := by decide +kernel
theorem dX13_named_30 : decode cX13_named 30 = .ok (.invokevirtual 582, 3) := by decide +kernel
theorem dX13_named_33 : decode cX13_named 33 = .ok (.iastore, 1) := by decide +kernel
theorem dX13_named_34 : decode cX13_named 34 = .ok (.aload_n 0, 1) := by decide +kernel
theorem dX13_named_35 : decode cX13_named 35 = .ok (.getfield 119, 3) := by decide +kernel
theorem dX13_named_38 : decode cX13_named 38 = .ok (.iload_n 2, 1) := by decide +kernel
theorem dX13_named_39 : decode cX13_named 39 = .ok (.iaload, 1) := by decide +kernel
theorem dX13_named_40 : decode cX13_named 40 = .ok (.ireturn, 1) := by decide +kernel
theorem dX13_named_41 : decode cX13_named 41 = .ok (.aload_n 0, 1) := by decide +kernel
theorem dX13_named_42 : decode cX13_named 42 = .ok (.aload_n 0, 1) := by decide +kernel
theorem dX13_named_43 : decode cX13_named 43 = .ok (.getfield 519, 3) := by decide +kernel
theorem dX13_named_46 : decode cX13_named 46 = .ok (.aload_n 0, 1) := by decide +kernel
theorem dX13_named_47 : decode cX13_named 47 = .ok (.getfield 31, 3) := by decide +kernel
theorem dX13_named_50 : decode cX13_named 50 = .ok (.iload_n 1, 1) := by decide +kernel
theorem dX13_named_51 : decode cX13_named 51 = .ok (.iaload, 1) := by decide +kernel
theorem dX13_named_52 : decode cX13_named 52 = .ok (.iconst 0, 1) := by decide +kernel
theorem dX13_named_53 : decode cX13_named 53 = .ok (.invokevirtual 507, 3) := by decide +kernel
theorem dX13_named_56 : decode cX13_named 56 = .ok (.istore_n 3, 1) := by decide +kernel
theorem dX13_named_57 : decode cX13_named 57 = .ok (.iload_n 3, 1) := by decide +kernel
theorem dX13_named_58 : decode cX13_named 58 = .ok (.iconst (-1), 1) := by decide +kernel
theorem dX13_named_59 : decode cX13_named 59 = .ok (.if_icmp .ne 17, 3) := by decide +kernel
theorem dX13_named_62 : decode cX13_named 62 = .ok (.aload_n 0, 1) := by decide +kernel
theorem dX13_named_63 : decode cX13_named 63 = .ok (.iconst 5, 1) := by decide +kernel
theorem dX13_named_64 : decode cX13_named 64 = .ok (.aload_n 0, 1) := by decide +kernel
theorem dX13_named_65 : decode cX13_named 65 = .ok (.getfield 31, 3) := by decide +kernel
theorem dX13_named_68 : decode cX13_named 68 = .ok (.iload_n 1, 1) := by decide +kernel
theorem dX13_named_69 : decode cX13_named 69 = .ok (.iaload, 1) := by decide +kernel
theorem dX13_named_70 : decode cX13_named 70 = .ok (.invokevirtual 379, 3) := by decide +kernel
theorem dX13_named_73 : decode cX13_named 73 = .ok (.goto 22, 3) := by decide +kernel
theorem dX13_named_76 : decode cX13_named 76 = .ok (.aload_n 0, 1) := by decide +kernel
theorem dX13_named_77 : decode cX13_named 77 = .ok (.getfield 510, 3) := by decide +kernel
theorem dX13_named_80 : decode cX13_named 80 = .ok (.ifCond .eq 15, 3) := by decide +kernel
theorem dX13_named_83 : decode cX13_named 83 = .ok (.aload_n 0, 1) := by decide +kernel
theorem dX13_named_84 : decode cX13_named 84 = .ok (.bipush 7, 2) := by decide +kernel
theorem dX13_named_86 : decode cX13_named 86 = .ok (.aload_n 0, 1) := by decide +kernel
theorem dX13_named_87 : decode cX13_named 87 = .ok (.getfield 31, 3) := by decide +kernel
theorem dX13_named_90 : decode cX13_named 90 = .ok (.iload_n 1, 1) := by decide +kernel
theorem dX13_named_91 : decode cX13_named 91 = .ok (.iaload, 1) := by decide +kernel
theorem dX13_named_92 : decode cX13_named 92 = .ok (.invokevirtual 379, 3) := by decide +kernel
theorem dX13_named_95 : decode cX13_named 95 = .ok (.aload_n 0, 1) := by decide +kernel
theorem dX13_named_96 : decode cX13_named 96 = .ok (.getfield 52, 3) := by decide +kernel
theorem dX13_named_99 : decode cX13_named 99 = .ok (.iload_n 1, 1) := by decide +kernel
theorem dX13_named_100 : decode cX13_named 100 = .ok (.iload_n 3, 1) := by decide +kernel
theorem dX13_named_101 : decode cX13_named 101 = .ok (.iastore, 1) := by decide +kernel
theorem dX13_named_102 : decode cX13_named 102 = .ok (.iload_n 3, 1) := by decide +kernel
theorem dX13_named_103 : decode cX13_named 103 = .ok (.iconst (-1), 1) := by decide +kernel
theorem dX13_named_104 : decode cX13_named 104 = .ok (.if_icmp .ne 7, 3) := by decide +kernel
theorem dX13_named_107 : decode cX13_named 107 = .ok (.iconst 0, 1) := by decide +kernel
theorem dX13_named_108 : decode cX13_named 108 = .ok (.goto 9, 3) := by decide +kernel
theorem dX13_named_111 : decode cX13_named 111 = .ok (.aload_n 0, 1) := by decide +kernel
theorem dX13_named_112 : decode cX13_named 112 = .ok (.getfield 89, 3) := by decide +kernel
theorem dX13_named_115 : decode cX13_named 115 = .ok (.iload_n 3, 1) := by decide +kernel
theorem dX13_named_116 : decode cX13_named 116 = .ok (.iaload, 1) := by decide +kernel
theorem dX13_named_117 : decode cX13_named 117 = .ok (.ireturn, 1) := by decide +kernel
theorem dX13_field_0 : decode cX13_field 0 = .ok (.aload_n 0, 1) := by decide +kernel
theorem dX13_field_1 : decode cX13_field 1 = .ok (.iload_n 1, 1) := by decide +kernel
theorem dX13_field_2 : decode cX13_field 2 = .ok (.invokevirtual 573, 3) := by decide +kernel
theorem dX13_field_5 : decode cX13_field 5 = .ok (.istore_n 2, 1) := by decide +kernel
theorem dX13_field_6 : decode cX13_field 6 = .ok (.aload_n 0, 1) := by decide +kernel
theorem dX13_field_7 : decode cX13_field 7 = .ok (.getfield 319, 3) := by decide +kernel
theorem dX13_field_10 : decode cX13_field 10 = .ok (.ifCond .eq 5, 3) := by decide +kernel
theorem dX13_field_13 : decode cX13_field 13 = .ok (.iconst 0, 1) := by decide +kernel
theorem dX13_field_14 : decode cX13_field 14 = .ok (.ireturn, 1) := by decide +kernel
theorem dX13_field_15 : decode cX13_field 15 = .ok (.iload_n 2, 1) := by decide +kernel
theorem dX13_field_16 : decode cX13_field 16 = .ok (.iconst 2, 1) := by decide +kernel
theorem dX13_field_17 : decode cX13_field 17 = .ok (.if_icmp .eq 10, 3) := by decide +kernel
theorem dX13_field_20 : decode cX13_field 20 = .ok (.iload_n 2, 1) := by decide +kernel
theorem dX13_field_21 : decode cX13_field 21 = .ok (.invokestatic 543, 3) := by decide +kernel
theorem dX13_field_24 : decode cX13_field 24 = .ok (.ifCond .ne 17, 3) := by decide +kernel
theorem dX13_field_27 : decode cX13_field 27 = .ok (.aload_n 0, 1) := by decide +kernel
theorem dX13_field_28 : decode cX13_field 28 = .ok (.bipush 6, 2) := by decide +kernel
theorem dX13_field_30 : decode cX13_field 30 = .ok (.aload_n 0, 1) := by decide +kernel
theorem dX13_field_31 : decode cX13_field 31 = .ok (.getfield 43, 3) := by decide +kernel
theorem dX13_field_34 : decode cX13_field 34 = .ok (.iload_n 1, 1) := by decide +kernel
theorem dX13_field_35 : decode cX13_field 35 = .ok (.iaload, 1) := by decide +kernel
theorem dX13_field_36 : decode cX13_field 36 = .ok (.invokevirtual 379, 3) := by decide +kernel
theorem dX13_field_39 : decode cX13_field 39 = .ok (.iconst 0, 1) := by decide +kernel
theorem dX13_field_40 : decode cX13_field 40 = .ok (.ireturn, 1) := by decide +kernel
theorem dX13_field_41 : decode cX13_field 41 = .ok (.iload_n 2, 1) := by decide +kernel
theorem dX13_field_42 : decode cX13_field 42 = .ok (.invokestatic 485, 3) := by decide +kernel
theorem dX13_field_45 : decode cX13_field 45 = .ok (.ifCond .eq 72, 3) := by decide +kernel
theorem dX13_field_48 : decode cX13_field 48 = .ok (.aload_n 0, 1) := by decide +kernel
theorem dX13_field_49 : decode cX13_field 49 = .ok (.getfield 52, 3) := by decide +kernel
theorem dX13_field_52 : decode cX13_field 52 = .ok (.iload_n 1, 1) := by decide +kernel
theorem dX13_field_53 : decode cX13_field 53 = .ok (.iconst (-1), 1) := by decide +kernel
theorem dX13_field_54 : decode cX13_field 54 = .ok (.iastore, 1) := by decide +kernel
theorem dX13_field_55 : decode cX13_field 55 = .ok (.aload_n 0, 1) := by decide +kernel
theorem dX13_field_56 : decode cX13_field 56 = .ok (.getfield 22, 3) := by decide +kernel
theorem dX13_field_59 : decode cX13_field 59 = .ok (.aload_n 0, 1) := by decide +kernel
theorem dX13_field_60 : decode cX13_field 60 = .ok (.getfield 31, 3) := by decide +kernel
theorem dX13_field_63 : decode cX13_field 63 = .ok (.iload_n 1, 1) := by decide +kernel
theorem dX13_field_64 : decode cX13_field 64 = .ok (.iaload, 1) := by decide +kernel
theorem dX13_field_65 : decode cX13_field 65 = .ok (.iaload, 1) := by decide +kernel
theorem dX13_field_66 : decode cX13_field 66 = .ok (.bipush 6, 2) := by decide +kernel
theorem dX13_field_68 : decode cX13_field 68 = .ok (.if_icmp .ne 30, 3) := by decide +kernel
theorem dX13_field_71 : decode cX13_field 71 = .ok (.aload_n 0, 1) := by decide +kernel
theorem dX13_field_72 : decode cX13_field 72 = .ok (.ldc_w 588, 3) := by decide +kernel
theorem dX13_field_75 : decode cX13_field 75 = .ok (.aload_n 0, 1) := by decide +kernel
theorem dX13_field_76 : decode cX13_field 76 = .ok (.getfield 19, 3) := by decide +kernel
theorem dX13_field_79 : decode cX13_field 79 = .ok (.aload_n 0, 1) := by decide +kernel
theorem dX13_field_80 : decode cX13_field 80 = .ok (.getfield 31, 3) := by decide +kernel
theorem dX13_field_83 : decode cX13_field 83 = .ok (.iload_n 1, 1) := by decide +kernel
theorem dX13_field_84 : decode cX13_field 84 = .ok (.iaload, 1) := by decide +kernel
theorem dX13_field_85 : decode cX13_field 85 = .ok (.iaload, 1) := by decide +kernel
theorem dX13_field_86 : decode cX13_field 86 = .ok (.bipush 6, 2) := by decide +kernel
theorem dX13_field_88 : decode cX13_field 88 = .ok (.invokevirtual 354, 3) := by decide +kernel
theorem dX13_field_91 : decode cX13_field 91 = .ok (.ifCond .ne 7, 3) := by decide +kernel
theorem dX13_field_94 : decode cX13_field 94 = .ok (.iconst 1, 1) := by decide +kernel
theorem dX13_field_95 : decode cX13_field 95 = .ok (.goto 4, 3) := by decide +kernel
theorem dX13_field_98 : decode cX13_field 98 = .ok (.iconst 0, 1) := by decide +kernel
theorem dX13_field_99 : decode cX13_field 99 = .ok (.istore_n 3, 1) := by decide +kernel
theorem dX13_field_100 : decode cX13_field 100 = .ok (.iload_n 3, 1) := by decide +kernel
theorem dX13_field_101 : decode cX13_field 101 = .ok (.ifCond .ne 14, 3) := by decide +kernel
theorem dX13_field_104 : decode cX13_field 104 = .ok (.aload_n 0, 1) := by decide +kernel
theorem dX13_field_105 : decode cX13_field 105 = .ok (.iconst 5, 1) := by decide +kernel
theorem dX13_field_106 : decode cX13_field 106 = .ok (.aload_n 0, 1) := by decide +kernel
theorem dX13_field_107 : decode cX13_field 107 = .ok (.getfield 31, 3) := by decide +kernel
theorem dX13_field_110 : decode cX13_field 110 = .ok (.iload_n 1, 1) := by decide +kernel
theorem dX13_field_111 : decode cX13_field 111 = .ok (.iaload, 1) := by decide +kernel
theorem dX13_field_112 : decode cX13_field 112 = .ok (.invokevirtual 379, 3) := by decide +kernel
theorem dX13_field_115 : decode cX13_field 115 = .ok (.iconst 0, 1) := by decide +kernel
theorem dX13_field_116 : decode cX13_field 116 = .ok (.ireturn, 1) := by decide +kernel
theorem dX13_field_117 : decode cX13_field 117 = .ok (.aload_n 0, 1) := by decide +kernel
theorem dX13_field_118 : decode cX13_field 118 = .ok (.iload_n 2, 1) := by decide +kernel
theorem dX13_field_119 : decode cX13_field 119 = .ok (.bipush 8, 2) := by decide +kernel
theorem dX13_field_121 : decode cX13_field 121 = .ok (.isub, 1) := by decide +kernel
theorem dX13_field_122 : decode cX13_field 122 = .ok (.iconst 2, 1) := by decide +kernel
theorem dX13_field_123 : decode cX13_field 123 = .ok (.idiv, 1) := by decide +kernel
theorem dX13_field_124 : decode cX13_field 124 = .ok (.aload_n 0, 1) := by decide +kernel
theorem dX13_field_125 : decode cX13_field 125 = .ok (.getfield 31, 3) := by decide +kernel
theorem dX13_field_128 : decode cX13_field 128 = .ok (.iload_n 1, 1) := by decide +kernel
theorem dX13_field_129 : decode cX13_field 129 = .ok (.iaload, 1) := by decide +kernel
theorem dX13_field_130 : decode cX13_field 130 = .ok (.iconst 0, 1) := by decide +kernel
theorem dX13_field_131 : decode cX13_field 131 = .ok (.invokevirtual 507, 3) := by decide +kernel
theorem dX13_field_134 : decode cX13_field 134 = .ok (.istore_n 3, 1) := by decide +kernel
theorem dX13_field_135 : decode cX13_field 135 = .ok (.iload_n 3, 1) := by decide +kernel
theorem dX13_field_136 : decode cX13_field 136 = .ok (.iconst (-1), 1) := by decide +kernel
theorem dX13_field_137 : decode cX13_field 137 = .ok (.if_icmp .ne 14, 3) := by decide +kernel
theorem dX13_field_140 : decode cX13_field 140 = .ok (.aload_n 0, 1) := by decide +kernel
theorem dX13_field_141 : decode cX13_field 141 = .ok (.iconst 5, 1) := by decide +kernel
theorem dX13_field_142 : decode cX13_field 142 = .ok (.aload_n 0, 1) := by decide +kernel
theorem dX13_field_143 : decode cX13_field 143 = .ok (.getfield 31, 3) := by decide +kernel
theorem dX13_field_146 : decode cX13_field 146 = .ok (.iload_n 1, 1) := by decide +kernel
theorem dX13_field_147 : decode cX13_field 147 = .ok (.iaload, 1) := by decide +kernel
theorem dX13_field_148 : decode cX13_field 148 = .ok (.invokevirtual 379, 3) := by decide +kernel
theorem dX13_field_151 : decode cX13_field 151 = .ok (.aload_n 0, 1) := by decide +kernel
theorem dX13_field_152 : decode cX13_field 152 = .ok (.getfield 52, 3) := by decide +kernel
theorem dX13_field_155 : decode cX13_field 155 = .ok (.iload_n 1, 1) := by decide +kernel
theorem dX13_field_156 : decode cX13_field 156 = .ok (.iload_n 3, 1) := by decide +kernel
theorem dX13_field_157 : decode cX13_field 157 = .ok (.iastore, 1) := by decide +kernel
theorem dX13_field_158 : decode cX13_field 158 = .ok (.iload_n 3, 1) := by decide +kernel
theorem dX13_field_159 : decode cX13_field 159 = .ok (.iconst (-1), 1) := by decide +kernel
theorem dX13_field_160 : decode cX13_field 160 = .ok (.if_icmp .ne 7, 3) := by decide +kernel
theorem dX13_field_163 : decode cX13_field 163 = .ok (.iconst 0, 1) := by decide +kernel
theorem dX13_field_164 : decode cX13_field 164 = .ok (.goto 9, 3) := by decide +kernel
theorem dX13_field_167 : decode cX13_field 167 = .ok (.aload_n 0, 1) := by decide +kernel
theorem dX13_field_168 : decode cX13_field 168 = .ok (.getfield 89, 3) := by decide +kernel
theorem dX13_field_171 : decode cX13_field 171 = .ok (.iload_n 3, 1) := by decide +kernel
theorem dX13_field_172 : decode cX13_field 172 = .ok (.iaload, 1) := by decide +kernel
theorem dX13_field_173 : decode cX13_field 173 = .ok (.ireturn, 1) := by decide +kernel
theorem dX13_spellClass_0 : decode cX13_spellClass 0 = .ok (.iload_n 1, 1) := by decide +kernel
theorem dX13_spellClass_1 : decode cX13_spellClass 1 = .ok (.bipush 8, 2) := by decide +kernel
theorem dX13_spellClass_3 : decode cX13_spellClass 3 = .ok (.if_icmp .lt 17, 3) := by decide +kernel
theorem dX13_spellClass_6 : decode cX13_spellClass 6 = .ok (.aload_n 0, 1) := by decide +kernel
theorem dX13_spellClass_7 : decode cX13_spellClass 7 = .ok (.aload_n 0, 1) := by decide +kernel
theorem dX13_spellClass_8 : decode cX13_spellClass 8 = .ok (.getfield 62, 3) := by decide +kernel
theorem dX13_spellClass_11 : decode cX13_spellClass 11 = .ok (.iload_n 1, 1) := by decide +kernel
theorem dX13_spellClass_12 : decode cX13_spellClass 12 = .ok (.bipush 8, 2) := by decide +kernel
theorem dX13_spellClass_14 : decode cX13_spellClass 14 = .ok (.isub, 1) := by decide +kernel
theorem dX13_spellClass_15 : decode cX13_spellClass 15 = .ok (.iaload, 1) := by decide +kernel
theorem dX13_spellClass_16 : decode cX13_spellClass 16 = .ok (.invokevirtual 596, 3) := by decide +kernel
theorem dX13_spellClass_19 : decode cX13_spellClass 19 = .ok (.return_, 1) := by decide +kernel
theorem dX13_spellClass_20 : decode cX13_spellClass 20 = .ok (.iconst (-1), 1) := by decide +kernel
theorem dX13_spellClass_21 : decode cX13_spellClass 21 = .ok (.istore_n 2, 1) := by decide +kernel
theorem dX13_spellClass_22 : decode cX13_spellClass 22 = .ok (.iconst 0, 1) := by decide +kernel
theorem dX13_spellClass_23 : decode cX13_spellClass 23 = .ok (.istore_n 3, 1) := by decide +kernel
theorem dX13_spellClass_24 : decode cX13_spellClass 24 = .ok (.iload_n 3, 1) := by decide +kernel
theorem dX13_spellClass_25 : decode cX13_spellClass 25 = .ok (.ldc_w 477, 3) := by decide +kernel
theorem dX13_spellClass_28 : decode cX13_spellClass 28 = .ok (.invokevirtual 328, 3) := by decide +kernel
theorem dX13_spellClass_31 : decode cX13_spellClass 31 = .ok (.if_icmp .ge 43, 3) := by decide +kernel
theorem dX13_spellClass_34 : decode cX13_spellClass 34 = .ok (.ldc_w 477, 3) := by decide +kernel
theorem dX13_spellClass_37 : decode cX13_spellClass 37 = .ok (.iload_n 3, 1) := by decide +kernel
theorem dX13_spellClass_38 : decode cX13_spellClass 38 = .ok (.invokevirtual 334, 3) := by decide +kernel
theorem dX13_spellClass_41 : decode cX13_spellClass 41 = .ok (.bipush 32, 2) := by decide +kernel
theorem dX13_spellClass_43 : decode cX13_spellClass 43 = .ok (.if_icmp .ne 9, 3) := by decide +kernel
theorem dX13_spellClass_46 : decode cX13_spellClass 46 = .ok (.iinc 2 1, 3) := by decide +kernel
theorem dX13_spellClass_49 : decode cX13_spellClass 49 = .ok (.goto 19, 3) := by decide +kernel
theorem dX13_spellClass_52 : decode cX13_spellClass 52 = .ok (.iload_n 2, 1) := by decide +kernel
theorem dX13_spellClass_53 : decode cX13_spellClass 53 = .ok (.iload_n 1, 1) := by decide +kernel
theorem dX13_spellClass_54 : decode cX13_spellClass 54 = .ok (.if_icmp .ne 14, 3) := by decide +kernel
theorem dX13_spellClass_57 : decode cX13_spellClass 57 = .ok (.aload_n 0, 1) := by decide +kernel
theorem dX13_spellClass_58 : decode cX13_spellClass 58 = .ok (.ldc_w 477, 3) := by decide +kernel
theorem dX13_spellClass_61 : decode cX13_spellClass 61 = .ok (.iload_n 3, 1) := by decide +kernel
theorem dX13_spellClass_62 : decode cX13_spellClass 62 = .ok (.invokevirtual 334, 3) := by decide +kernel
theorem dX13_spellClass_65 : decode cX13_spellClass 65 = .ok (.invokevirtual 593, 3) := by decide +kernel
theorem dX13_spellClass_68 : decode cX13_spellClass 68 = .ok (.iinc 3 1, 3) := by decide +kernel
theorem dX13_spellClass_71 : decode cX13_spellClass 71 = .ok (.goto (-47), 3) := by decide +kernel
theorem dX13_spellClass_74 : decode cX13_spellClass 74 = .ok (.return_, 1) := by decide +kernel
theorem dX13_spellKind_0 : decode cX13_spellKind 0 = .ok (.iload_n 1, 1) := by decide +kernel
theorem dX13_spellKind_1 : decode cX13_spellKind 1 = .ok (.ifCond .ne 12, 3) := by decide +kernel
theorem dX13_spellKind_4 : decode cX13_spellKind 4 = .ok (.aload_n 0, 1) := by decide +kernel
theorem dX13_spellKind_5 : decode cX13_spellKind 5 = .ok (.bipush 73, 2) := by decide +kernel
theorem dX13_spellKind_7 : decode cX13_spellKind 7 = .ok (.invokevirtual 593, 3) := by decide +kernel
theorem dX13_spellKind_10 : decode cX13_spellKind 10 = .ok (.goto 78, 3) := by decide +kernel
theorem dX13_spellKind_13 : decode cX13_spellKind 13 = .ok (.iload_n 1, 1) := by decide +kernel
theorem dX13_spellKind_14 : decode cX13_spellKind 14 = .ok (.iconst 1, 1) := by decide +kernel
theorem dX13_spellKind_15 : decode cX13_spellKind 15 = .ok (.if_icmp .ne 12, 3) := by decide +kernel
theorem dX13_spellKind_18 : decode cX13_spellKind 18 = .ok (.aload_n 0, 1) := by decide +kernel
theorem dX13_spellKind_19 : decode cX13_spellKind 19 = .ok (.bipush 90, 2) := by decide +kernel
theorem dX13_spellKind_21 : decode cX13_spellKind 21 = .ok (.invokevirtual 593, 3) := by decide +kernel
theorem dX13_spellKind_24 : decode cX13_spellKind 24 = .ok (.goto 64, 3) := by decide +kernel
theorem dX13_spellKind_27 : decode cX13_spellKind 27 = .ok (.iload_n 1, 1) := by decide +kernel
theorem dX13_spellKind_28 : decode cX13_spellKind 28 = .ok (.iconst 3, 1) := by decide +kernel
theorem dX13_spellKind_29 : decode cX13_spellKind 29 = .ok (.if_icmp .ne 12, 3) := by decide +kernel
theorem dX13_spellKind_32 : decode cX13_spellKind 32 = .ok (.aload_n 0, 1) := by decide +kernel
theorem dX13_spellKind_33 : decode cX13_spellKind 33 = .ok (.bipush 86, 2) := by decide +kernel
theorem dX13_spellKind_35 : decode cX13_spellKind 35 = .ok (.invokevirtual 593, 3) := by decide +kernel
theorem dX13_spellKind_38 : decode cX13_spellKind 38 = .ok (.goto 50, 3) := by decide +kernel
theorem dX13_spellKind_41 : decode cX13_spellKind 41 = .ok (.iload_n 1, 1) := by decide +kernel
theorem dX13_spellKind_42 : decode cX13_spellKind 42 = .ok (.invokestatic 485, 3) := by decide +kernel
theorem dX13_spellKind_45 : decode cX13_spellKind 45 = .ok (.ifCond .eq 9, 3) := by decide +kernel
theorem dX13_spellKind_48 : decode cX13_spellKind 48 = .ok (.aload_n 0, 1) := by decide +kernel
theorem dX13_spellKind_49 : decode cX13_spellKind 49 = .ok (.bipush 91, 2) := by decide +kernel
theorem dX13_spellKind_51 : decode cX13_spellKind 51 = .ok (.invokevirtual 593, 3) := by decide +kernel
theorem dX13_spellKind_54 : decode cX13_spellKind 54 = .ok (.iload_n 1, 1) := by decide +kernel
theorem dX13_spellKind_55 : decode cX13_spellKind 55 = .ok (.iconst 4, 1) := by decide +kernel
theorem dX13_spellKind_56 : decode cX13_spellKind 56 = .ok (.if_icmp .ne 10, 3) := by decide +kernel
theorem dX13_spellKind_59 : decode cX13_spellKind 59 = .ok (.aload_n 0, 1) := by decide +kernel
theorem dX13_spellKind_60 : decode cX13_spellKind 60 = .ok (.bipush 73, 2) := by decide +kernel
theorem dX13_spellKind_62 : decode cX13_spellKind 62 = .ok (.invokevirtual 593, 3) := by decide +kernel
theorem dX13_spellKind_65 : decode cX13_spellKind 65 = .ok (.return_, 1) := by decide +kernel
theorem dX13_spellKind_66 : decode cX13_spellKind 66 = .ok (.aload_n 0, 1) := by decide +kernel
theorem dX13_spellKind_67 : decode cX13_spellKind 67 = .ok (.bipush 76, 2) := by decide +kernel
theorem dX13_spellKind_69 : decode cX13_spellKind 69 = .ok (.invokevirtual 593, 3) := by decide +kernel
theorem dX13_spellKind_72 : decode cX13_spellKind 72 = .ok (.aload_n 0, 1) := by decide +kernel
theorem dX13_spellKind_73 : decode cX13_spellKind 73 = .ok (.iload_n 1, 1) := by decide +kernel
theorem dX13_spellKind_74 : decode cX13_spellKind 74 = .ok (.bipush 8, 2) := by decide +kernel
theorem dX13_spellKind_76 : decode cX13_spellKind 76 = .ok (.isub, 1) := by decide +kernel
theorem dX13_spellKind_77 : decode cX13_spellKind 77 = .ok (.iconst 2, 1) := by decide +kernel
theorem dX13_spellKind_78 : decode cX13_spellKind 78 = .ok (.idiv, 1) := by decide +kernel
theorem dX13_spellKind_79 : decode cX13_spellKind 79 = .ok (.invokevirtual 599, 3) := by decide +kernel
theorem dX13_spellKind_82 : decode cX13_spellKind 82 = .ok (.aload_n 0, 1) := by decide +kernel
theorem dX13_spellKind_83 : decode cX13_spellKind 83 = .ok (.bipush 59, 2) := by decide +kernel
theorem dX13_spellKind_85 : decode cX13_spellKind 85 = .ok (.invokevirtual 593, 3) := by decide +kernel
theorem dX13_spellKind_88 : decode cX13_spellKind 88 = .ok (.return_, 1) := by decide +kernel
theorem dX13_spelling_0 : decode cX13_spelling 0 = .ok (.aload_n 0, 1) := by decide +kernel
theorem dX13_spelling_1 : decode cX13_spelling 1 = .ok (.getfield 590, 3) := by decide +kernel
theorem dX13_spelling_4 : decode cX13_spelling 4 = .ok (.istore_n 1, 1) := by decide +kernel
theorem dX13_spelling_5 : decode cX13_spelling 5 = .ok (.aload_n 0, 1) := by decide +kernel
theorem dX13_spelling_6 : decode cX13_spelling 6 = .ok (.iconst 0, 1) := by decide +kernel
theorem dX13_spelling_7 : decode cX13_spelling 7 = .ok (.putfield 590, 3) := by decide +kernel
theorem dX13_spelling_10 : decode cX13_spelling 10 = .ok (.iconst 1, 1) := by decide +kernel
theorem dX13_spelling_11 : decode cX13_spelling 11 = .ok (.istore_n 2, 1) := by decide +kernel
theorem dX13_spelling_12 : decode cX13_spelling 12 = .ok (.iload_n 2, 1) := by decide +kernel
theorem dX13_spelling_13 : decode cX13_spelling 13 = .ok (.aload_n 0, 1) := by decide +kernel
theorem dX13_spelling_14 : decode cX13_spelling 14 = .ok (.getfield 602, 3) := by decide +kernel
theorem dX13_spelling_17 : decode cX13_spelling 17 = .ok (.if_icmp .gt 90, 3) := by decide +kernel
theorem dX13_spelling_20 : decode cX13_spelling 20 = .ok (.aload_n 0, 1) := by decide +kernel
theorem dX13_spelling_21 : decode cX13_spelling 21 = .ok (.getfield 128, 3) := by decide +kernel
theorem dX13_spelling_24 : decode cX13_spelling 24 = .ok (.iload_n 2, 1) := by decide +kernel
theorem dX13_spelling_25 : decode cX13_spelling 25 = .ok (.iaload, 1) := by decide +kernel
theorem dX13_spelling_26 : decode cX13_spelling 26 = .ok (.iconst 1, 1) := by decide +kernel
theorem dX13_spelling_27 : decode cX13_spelling 27 = .ok (.if_icmp .ne 17, 3) := by decide +kernel
theorem dX13_spelling_30 : decode cX13_spelling 30 = .ok (.aload_n 0, 1) := by decide +kernel
theorem dX13_spelling_31 : decode cX13_spelling 31 = .ok (.getfield 134, 3) := by decide +kernel
theorem dX13_spelling_34 : decode cX13_spelling 34 = .ok (.iload_n 2, 1) := by decide +kernel
theorem dX13_spelling_35 : decode cX13_spelling 35 = .ok (.iaload, 1) := by decide +kernel
theorem dX13_spelling_36 : decode cX13_spelling 36 = .ok (.iload_n 1, 1) := by decide +kernel
theorem dX13_spelling_37 : decode cX13_spelling 37 = .ok (.if_icmp .ne 7, 3) := by decide +kernel
theorem dX13_spelling_40 : decode cX13_spelling 40 = .ok (.iconst 1, 1) := by decide +kernel
theorem dX13_spelling_41 : decode cX13_spelling 41 = .ok (.goto 4, 3) := by decide +kernel
theorem dX13_spelling_44 : decode cX13_spelling 44 = .ok (.iconst 0, 1) := by decide +kernel
theorem dX13_spelling_45 : decode cX13_spelling 45 = .ok (.istore_n 3, 1) := by decide +kernel
theorem dX13_spelling_46 : decode cX13_spelling 46 = .ok (.iconst 0, 1) := by decide +kernel
theorem dX13_spelling_47 : decode cX13_spelling 47 = .ok (.istore 4, 2) := by decide +kernel
theorem dX13_spelling_49 : decode cX13_spelling 49 = .ok (.iload 4, 2) := by decide +kernel
theorem dX13_spelling_51 : decode cX13_spelling 51 = .ok (.iload_n 1, 1) := by decide +kernel
theorem dX13_spelling_52 : decode cX13_spelling 52 = .ok (.if_icmp .ge 43, 3) := by decide +kernel
theorem dX13_spelling_55 : decode cX13_spelling 55 = .ok (.iload_n 3, 1) := by decide +kernel
theorem dX13_spelling_56 : decode cX13_spelling 56 = .ok (.ifCond .eq 39, 3) := by decide +kernel
theorem dX13_spelling_59 : decode cX13_spelling 59 = .ok (.aload_n 0, 1) := by decide +kernel
theorem dX13_spelling_60 : decode cX13_spelling 60 = .ok (.getfield 141, 3) := by decide +kernel
theorem dX13_spelling_63 : decode cX13_spelling 63 = .ok (.aload_n 0, 1) := by decide +kernel
theorem dX13_spelling_64 : decode cX13_spelling 64 = .ok (.getfield 131, 3) := by decide +kernel
theorem dX13_spelling_67 : decode cX13_spelling 67 = .ok (.iload_n 2, 1) := by decide +kernel
theorem dX13_spelling_68 : decode cX13_spelling 68 = .ok (.iaload, 1) := by decide +kernel
theorem dX13_spelling_69 : decode cX13_spelling 69 = .ok (.iload 4, 2) := by decide +kernel
theorem dX13_spelling_71 : decode cX13_spelling 71 = .ok (.iadd, 1) := by decide +kernel
theorem dX13_spelling_72 : decode cX13_spelling 72 = .ok (.iaload, 1) := by decide +kernel
theorem dX13_spelling_73 : decode cX13_spelling 73 = .ok (.aload_n 0, 1) := by decide +kernel
theorem dX13_spelling_74 : decode cX13_spelling 74 = .ok (.getfield 144, 3) := by decide +kernel
theorem dX13_spelling_77 : decode cX13_spelling 77 = .ok (.iload 4, 2) := by decide +kernel
theorem dX13_spelling_79 : decode cX13_spelling 79 = .ok (.iaload, 1) := by decide +kernel
theorem dX13_spelling_80 : decode cX13_spelling 80 = .ok (.if_icmp .ne 7, 3) := by decide +kernel
theorem dX13_spelling_83 : decode cX13_spelling 83 = .ok (.iconst 1, 1) := by decide +kernel
theorem dX13_spelling_84 : decode cX13_spelling 84 = .ok (.goto 4, 3) := by decide +kernel
theorem dX13_spelling_87 : decode cX13_spelling 87 = .ok (.iconst 0, 1) := by decide +kernel
theorem dX13_spelling_88 : decode cX13_spelling 88 = .ok (.istore_n 3, 1) := by decide +kernel
theorem dX13_spelling_89 : decode cX13_spelling 89 = .ok (.iinc 4 1, 3) := by decide +kernel
theorem dX13_spelling_92 : decode cX13_spelling 92 = .ok (.goto (-43), 3) := by decide +kernel
theorem dX13_spelling_95 : decode cX13_spelling 95 = .ok (.iload_n 3, 1) := by decide +kernel
theorem dX13_spelling_96 : decode cX13_spelling 96 = .ok (.ifCond .eq 5, 3) := by decide +kernel
theorem dX13_spelling_99 : decode cX13_spelling 99 = .ok (.iload_n 2, 1) := by decide +kernel
theorem dX13_spelling_100 : decode cX13_spelling 100 = .ok (.ireturn, 1) := by decide +kernel
theorem dX13_spelling_101 : decode cX13_spelling 101 = .ok (.iinc 2 1, 3) := by decide +kernel
theorem dX13_spelling_104 : decode cX13_spelling 104 = .ok (.goto (-92), 3) := by decide +kernel
theorem dX13_spelling_107 : decode cX13_spelling 107 = .ok (.iconst 0, 1) := by decide +kernel
theorem dX13_spelling_108 : decode cX13_spelling 108 = .ok (.istore_n 2, 1) := by decide +kernel
theorem dX13_spelling_109 : decode cX13_spelling 109 = .ok (.iload_n 2, 1) := by decide +kernel
theorem dX13_spelling_110 : decode cX13_spelling 110 = .ok (.iload_n 1, 1) := by decide +kernel
theorem dX13_spelling_111 : decode cX13_spelling 111 = .ok (.if_icmp .ge 26, 3) := by decide +kernel
theorem dX13_spelling_114 : decode cX13_spelling 114 = .ok (.aload_n 0, 1) := by decide +kernel
theorem dX13_spelling_115 : decode cX13_spelling 115 = .ok (.getfield 141, 3) := by decide +kernel
theorem dX13_spelling_118 : decode cX13_spelling 118 = .ok (.aload_n 0, 1) := by decide +kernel
theorem dX13_spelling_119 : decode cX13_spelling 119 = .ok (.getfield 605, 3) := by decide +kernel
theorem dX13_spelling_122 : decode cX13_spelling 122 = .ok (.iload_n 2, 1) := by decide +kernel
theorem dX13_spelling_123 : decode cX13_spelling 123 = .ok (.iadd, 1) := by decide +kernel
theorem dX13_spelling_124 : decode cX13_spelling 124 = .ok (.aload_n 0, 1) := by decide +kernel
theorem dX13_spelling_125 : decode cX13_spelling 125 = .ok (.getfield 144, 3) := by decide +kernel
theorem dX13_spelling_128 : decode cX13_spelling 128 = .ok (.iload_n 2, 1) := by decide +kernel
theorem dX13_spelling_129 : decode cX13_spelling 129 = .ok (.iaload, 1) := by decide +kernel
theorem dX13_spelling_130 : decode cX13_spelling 130 = .ok (.iastore, 1) := by decide +kernel
theorem dX13_spelling_131 : decode cX13_spelling 131 = .ok (.iinc 2 1, 3) := by decide +kernel
theorem dX13_spelling_134 : decode cX13_spelling 134 = .ok (.goto (-25), 3) := by decide +kernel
theorem dX13_spelling_137 : decode cX13_spelling 137 = .ok (.aload_n 0, 1) := by decide +kernel
theorem dX13_spelling_138 : decode cX13_spelling 138 = .ok (.iconst 1, 1) := by decide +kernel
theorem dX13_spelling_139 : decode cX13_spelling 139 = .ok (.aload_n 0, 1) := by decide +kernel
theorem dX13_spelling_140 : decode cX13_spelling 140 = .ok (.getfield 605, 3) := by decide +kernel
theorem dX13_spelling_143 : decode cX13_spelling 143 = .ok (.iload_n 1, 1) := by decide +kernel
theorem dX13_spelling_144 : decode cX13_spelling 144 = .ok (.iconst 0, 1) := by decide +kernel
theorem dX13_spelling_145 : decode cX13_spelling 145 = .ok (.invokevirtual 608, 3) := by decide +kernel
theorem dX13_spelling_148 : decode cX13_spelling 148 = .ok (.istore_n 2, 1) := by decide +kernel
theorem dX13_spelling_149 : decode cX13_spelling 149 = .ok (.aload_n 0, 1) := by decide +kernel
theorem dX13_spelling_150 : decode cX13_spelling 150 = .ok (.dup, 1) := by decide +kernel
theorem dX13_spelling_151 : decode cX13_spelling 151 = .ok (.getfield 605, 3) := by decide +kernel
theorem dX13_spelling_154 : decode cX13_spelling 154 = .ok (.iload_n 1, 1) := by decide +kernel
theorem dX13_spelling_155 : decode cX13_spelling 155 = .ok (.iadd, 1) := by decide +kernel
theorem dX13_spelling_156 : decode cX13_spelling 156 = .ok (.putfield 605, 3) := by decide +kernel
theorem dX13_spelling_159 : decode cX13_spelling 159 = .ok (.iload_n 2, 1) := by decide +kernel
theorem dX13_spelling_160 : decode cX13_spelling 160 = .ok (.ireturn, 1) := by decide +kernel
theorem dX13_constant_0 : decode cX13_constant 0 = .ok (.iload_n 1, 1) := by decide +kernel
theorem dX13_constant_1 : decode cX13_constant 1 = .ok (.iconst 1, 1) := by decide +kernel
theorem dX13_constant_2 : decode cX13_constant 2 = .ok (.if_icmp .le 69, 3) := by decide +kernel
theorem dX13_constant_5 : decode cX13_constant 5 = .ok (.iconst 1, 1) := by decide +kernel
theorem dX13_constant_6 : decode cX13_constant 6 = .ok (.istore 5, 2) := by decide +kernel
theorem dX13_constant_8 : decode cX13_constant 8 = .ok (.iload 5, 2) := by decide +kernel
theorem dX13_constant_10 : decode cX13_constant 10 = .ok (.aload_n 0, 1) := by decide +kernel
theorem dX13_constant_11 : decode cX13_constant 11 = .ok (.getfield 602, 3) := by decide +kernel
theorem dX13_constant_14 : decode cX13_constant 14 = .ok (.if_icmp .gt 57, 3) := by decide +kernel
theorem dX13_constant_17 : decode cX13_constant 17 = .ok (.aload_n 0, 1) := by decide +kernel
theorem dX13_constant_18 : decode cX13_constant 18 = .ok (.getfield 128, 3) := by decide +kernel
theorem dX13_constant_21 : decode cX13_constant 21 = .ok (.iload 5, 2) := by decide +kernel
theorem dX13_constant_23 : decode cX13_constant 23 = .ok (.iaload, 1) := by decide +kernel
theorem dX13_constant_24 : decode cX13_constant 24 = .ok (.iload_n 1, 1) := by decide +kernel
theorem dX13_constant_25 : decode cX13_constant 25 = .ok (.if_icmp .ne 40, 3) := by decide +kernel
theorem dX13_constant_28 : decode cX13_constant 28 = .ok (.aload_n 0, 1) := by decide +kernel
theorem dX13_constant_29 : decode cX13_constant 29 = .ok (.getfield 131, 3) := by decide +kernel
theorem dX13_constant_32 : decode cX13_constant 32 = .ok (.iload 5, 2) := by decide +kernel
theorem dX13_constant_34 : decode cX13_constant 34 = .ok (.iaload, 1) := by decide +kernel
theorem dX13_constant_35 : decode cX13_constant 35 = .ok (.iload_n 2, 1) := by decide +kernel
theorem dX13_constant_36 : decode cX13_constant 36 = .ok (.if_icmp .ne 29, 3) := by decide +kernel
theorem dX13_constant_39 : decode cX13_constant 39 = .ok (.aload_n 0, 1) := by decide +kernel
theorem dX13_constant_40 : decode cX13_constant 40 = .ok (.getfield 134, 3) := by decide +kernel
theorem dX13_constant_43 : decode cX13_constant 43 = .ok (.iload 5, 2) := by decide +kernel
theorem dX13_constant_45 : decode cX13_constant 45 = .ok (.iaload, 1) := by decide +kernel
theorem dX13_constant_46 : decode cX13_constant 46 = .ok (.iload_n 3, 1) := by decide +kernel
theorem dX13_constant_47 : decode cX13_constant 47 = .ok (.if_icmp .ne 18, 3) := by decide +kernel
theorem dX13_constant_50 : decode cX13_constant 50 = .ok (.aload_n 0, 1) := by decide +kernel
theorem dX13_constant_51 : decode cX13_constant 51 = .ok (.getfield 137, 3) := by decide +kernel
theorem dX13_constant_54 : decode cX13_constant 54 = .ok (.iload 5, 2) := by decide +kernel
theorem dX13_constant_56 : decode cX13_constant 56 = .ok (.iaload, 1) := by decide +kernel
theorem dX13_constant_57 : decode cX13_constant 57 = .ok (.iload 4, 2) := by decide +kernel
theorem dX13_constant_59 : decode cX13_constant 59 = .ok (.if_icmp .ne 6, 3) := by decide +kernel
theorem dX13_constant_62 : decode cX13_constant 62 = .ok (.iload 5, 2) := by decide +kernel
theorem dX13_constant_64 : decode cX13_constant 64 = .ok (.ireturn, 1) := by decide +kernel
theorem dX13_constant_65 : decode cX13_constant 65 = .ok (.iinc 5 1, 3) := by decide +kernel
theorem dX13_constant_68 : decode cX13_constant 68 = .ok (.goto (-60), 3) := by decide +kernel
theorem dX13_constant_71 : decode cX13_constant 71 = .ok (.aload_n 0, 1) := by decide +kernel
theorem dX13_constant_72 : decode cX13_constant 72 = .ok (.dup, 1) := by decide +kernel
theorem dX13_constant_73 : decode cX13_constant 73 = .ok (.getfield 602, 3) := by decide +kernel
theorem dX13_constant_76 : decode cX13_constant 76 = .ok (.iconst 1, 1) := by decide +kernel
theorem dX13_constant_77 : decode cX13_constant 77 = .ok (.iadd, 1) := by decide +kernel
theorem dX13_constant_78 : decode cX13_constant 78 = .ok (.putfield 602, 3) := by decide +kernel
theorem dX13_constant_81 : decode cX13_constant 81 = .ok (.aload_n 0, 1) := by decide +kernel
theorem dX13_constant_82 : decode cX13_constant 82 = .ok (.getfield 128, 3) := by decide +kernel
theorem dX13_constant_85 : decode cX13_constant 85 = .ok (.aload_n 0, 1) := by decide +kernel
theorem dX13_constant_86 : decode cX13_constant 86 = .ok (.getfield 602, 3) := by decide +kernel
theorem dX13_constant_89 : decode cX13_constant 89 = .ok (.iload_n 1, 1) := by decide +kernel
theorem dX13_constant_90 : decode cX13_constant 90 = .ok (.iastore, 1) := by decide +kernel
theorem dX13_constant_91 : decode cX13_constant 91 = .ok (.aload_n 0, 1) := by decide +kernel
theorem dX13_constant_92 : decode cX13_constant 92 = .ok (.getfield 131, 3) := by decide +kernel
theorem dX13_constant_95 : decode cX13_constant 95 = .ok (.aload_n 0, 1) := by decide +kernel
theorem dX13_constant_96 : decode cX13_constant 96 = .ok (.getfield 602, 3) := by decide +kernel
theorem dX13_constant_99 : decode cX13_constant 99 = .ok (.iload_n 2, 1) := by decide +kernel
theorem dX13_constant_100 : decode cX13_constant 100 = .ok (.iastore, 1) := by decide +kernel
theorem dX13_constant_101 : decode cX13_constant 101 = .ok (.aload_n 0, 1) := by decide +kernel
theorem dX13_constant_102 : decode cX13_constant 102 = .ok (.getfield 134, 3) := by decide +kernel
theorem dX13_constant_105 : decode cX13_constant 105 = .ok (.aload_n 0, 1) := by decide +kernel
theorem dX13_constant_106 : decode cX13_constant 106 = .ok (.getfield 602, 3) := by decide +kernel
theorem dX13_constant_109 : decode cX13_constant 109 = .ok (.iload_n 3, 1) := by decide +kernel
theorem dX13_constant_110 : decode cX13_constant 110 = .ok (.iastore, 1) := by decide +kernel
theorem dX13_constant_111 : decode cX13_constant 111 = .ok (.aload_n 0, 1) := by decide +kernel
theorem dX13_constant_112 : decode cX13_constant 112 = .ok (.getfield 137, 3) := by decide +kernel
theorem dX13_constant_115 : decode cX13_constant 115 = .ok (.aload_n 0, 1) := by decide +kernel
theorem dX13_constant_116 : decode cX13_constant 116 = .ok (.getfield 602, 3) := by decide +kernel
theorem dX13_constant_119 : decode cX13_constant 119 = .ok (.iload 4, 2) := by decide +kernel
theorem dX13_constant_121 : decode cX13_constant 121 = .ok (.iastore, 1) := by decide +kernel
theorem dX13_constant_122 : decode cX13_constant 122 = .ok (.aload_n 0, 1) := by decide +kernel
theorem dX13_constant_123 : decode cX13_constant 123 = .ok (.getfield 602, 3) := by decide +kernel
theorem dX13_constant_126 : decode cX13_constant 126 = .ok (.ireturn, 1) := by decide +kernel
theorem dX13_classConstant_0 : decode cX13_classConstant 0 = .ok (.iload_n 1, 1) := by decide +kernel
theorem dX13_classConstant_1 : decode cX13_classConstant 1 = .ok (.iconst 4, 1) := by decide +kernel
theorem dX13_classConstant_2 : decode cX13_classConstant 2 = .ok (.if_icmp .ne 11, 3) := by decide +kernel
theorem dX13_classConstant_5 : decode cX13_classConstant 5 = .ok (.aload_n 0, 1) := by decide +kernel
theorem dX13_classConstant_6 : decode cX13_classConstant 6 = .ok (.iload_n 1, 1) := by decide +kernel
theorem dX13_classConstant_7 : decode cX13_classConstant 7 = .ok (.invokevirtual 612, 3) := by decide +kernel
theorem dX13_classConstant_10 : decode cX13_classConstant 10 = .ok (.goto 28, 3) := by decide +kernel
theorem dX13_classConstant_13 : decode cX13_classConstant 13 = .ok (.iload_n 1, 1) := by decide +kernel
theorem dX13_classConstant_14 : decode cX13_classConstant 14 = .ok (.invokestatic 485, 3) := by decide +kernel
theorem dX13_classConstant_17 : decode cX13_classConstant 17 = .ok (.ifCond .eq 11, 3) := by decide +kernel
theorem dX13_classConstant_20 : decode cX13_classConstant 20 = .ok (.aload_n 0, 1) := by decide +kernel
theorem dX13_classConstant_21 : decode cX13_classConstant 21 = .ok (.iload_n 1, 1) := by decide +kernel
theorem dX13_classConstant_22 : decode cX13_classConstant 22 = .ok (.invokevirtual 612, 3) := by decide +kernel
theorem dX13_classConstant_25 : decode cX13_classConstant 25 = .ok (.goto 13, 3) := by decide +kernel
theorem dX13_classConstant_28 : decode cX13_classConstant 28 = .ok (.aload_n 0, 1) := by decide +kernel
theorem dX13_classConstant_29 : decode cX13_classConstant 29 = .ok (.iload_n 1, 1) := by decide +kernel
theorem dX13_classConstant_30 : decode cX13_classConstant 30 = .ok (.bipush 8, 2) := by decide +kernel
theorem dX13_classConstant_32 : decode cX13_classConstant 32 = .ok (.isub, 1) := by decide +kernel
theorem dX13_classConstant_33 : decode cX13_classConstant 33 = .ok (.iconst 2, 1) := by decide +kernel
theorem dX13_classConstant_34 : decode cX13_classConstant 34 = .ok (.idiv, 1) := by decide +kernel
theorem dX13_classConstant_35 : decode cX13_classConstant 35 = .ok (.invokevirtual 599, 3) := by decide +kernel
theorem dX13_classConstant_38 : decode cX13_classConstant 38 = .ok (.aload_n 0, 1) := by decide +kernel
theorem dX13_classConstant_39 : decode cX13_classConstant 39 = .ok (.iconst 3, 1) := by decide +kernel
theorem dX13_classConstant_40 : decode cX13_classConstant 40 = .ok (.aload_n 0, 1) := by decide +kernel
theorem dX13_classConstant_41 : decode cX13_classConstant 41 = .ok (.invokevirtual 615, 3) := by decide +kernel
theorem dX13_classConstant_44 : decode cX13_classConstant 44 = .ok (.iconst 0, 1) := by decide +kernel
theorem dX13_classConstant_45 : decode cX13_classConstant 45 = .ok (.iconst 0, 1) := by decide +kernel
theorem dX13_classConstant_46 : decode cX13_classConstant 46 = .ok (.invokevirtual 608, 3) := by decide +kernel
theorem dX13_classConstant_49 : decode cX13_classConstant 49 = .ok (.ireturn, 1) := by decide +kernel
theorem dX13_textOf_0 : decode cX13_textOf 0 = .ok (.aload_n 0, 1) := by decide +kernel
theorem dX13_textOf_1 : decode cX13_textOf 1 = .ok (.iload_n 1, 1) := by decide +kernel
theorem dX13_textOf_2 : decode cX13_textOf 2 = .ok (.invokevirtual 596, 3) := by decide +kernel
theorem dX13_textOf_5 : decode cX13_textOf 5 = .ok (.aload_n 0, 1) := by decide +kernel
theorem dX13_textOf_6 : decode cX13_textOf 6 = .ok (.invokevirtual 615, 3) := by decide +kernel
theorem dX13_textOf_9 : decode cX13_textOf 9 = .ok (.ireturn, 1) := by decide +kernel
theorem dX13_kindOf_0 : decode cX13_kindOf 0 = .ok (.aload_n 0, 1) := by decide +kernel
theorem dX13_kindOf_1 : decode cX13_kindOf 1 = .ok (.getfield 74, 3) := by decide +kernel
theorem dX13_kindOf_4 : decode cX13_kindOf 4 = .ok (.iload_n 1, 1) := by decide +kernel
theorem dX13_kindOf_5 : decode cX13_kindOf 5 = .ok (.iaload, 1) := by decide +kernel
theorem dX13_kindOf_6 : decode cX13_kindOf 6 = .ok (.ifCond .le 50, 3) := by decide +kernel
theorem dX13_kindOf_9 : decode cX13_kindOf 9 = .ok (.aload_n 0, 1) := by decide +kernel
theorem dX13_kindOf_10 : decode cX13_kindOf 10 = .ok (.bipush 40, 2) := by decide +kernel
theorem dX13_kindOf_12 : decode cX13_kindOf 12 = .ok (.invokevirtual 593, 3) := by decide +kernel
theorem dX13_kindOf_15 : decode cX13_kindOf 15 = .ok (.iconst 0, 1) := by decide +kernel
theorem dX13_kindOf_16 : decode cX13_kindOf 16 = .ok (.istore_n 2, 1) := by decide +kernel
theorem dX13_kindOf_17 : decode cX13_kindOf 17 = .ok (.iload_n 2, 1) := by decide +kernel
theorem dX13_kindOf_18 : decode cX13_kindOf 18 = .ok (.aload_n 0, 1) := by decide +kernel
theorem dX13_kindOf_19 : decode cX13_kindOf 19 = .ok (.getfield 95, 3) := by decide +kernel
theorem dX13_kindOf_22 : decode cX13_kindOf 22 = .ok (.iload_n 1, 1) := by decide +kernel
theorem dX13_kindOf_23 : decode cX13_kindOf 23 = .ok (.iaload, 1) := by decide +kernel
theorem dX13_kindOf_24 : decode cX13_kindOf 24 = .ok (.if_icmp .ge 26, 3) := by decide +kernel
theorem dX13_kindOf_27 : decode cX13_kindOf 27 = .ok (.aload_n 0, 1) := by decide +kernel
theorem dX13_kindOf_28 : decode cX13_kindOf 28 = .ok (.aload_n 0, 1) := by decide +kernel
theorem dX13_kindOf_29 : decode cX13_kindOf 29 = .ok (.getfield 113, 3) := by decide +kernel
theorem dX13_kindOf_32 : decode cX13_kindOf 32 = .ok (.aload_n 0, 1) := by decide +kernel
theorem dX13_kindOf_33 : decode cX13_kindOf 33 = .ok (.getfield 92, 3) := by decide +kernel
theorem dX13_kindOf_36 : decode cX13_kindOf 36 = .ok (.iload_n 1, 1) := by decide +kernel
theorem dX13_kindOf_37 : decode cX13_kindOf 37 = .ok (.iaload, 1) := by decide +kernel
theorem dX13_kindOf_38 : decode cX13_kindOf 38 = .ok (.iload_n 2, 1) := by decide +kernel
theorem dX13_kindOf_39 : decode cX13_kindOf 39 = .ok (.iadd, 1) := by decide +kernel
theorem dX13_kindOf_40 : decode cX13_kindOf 40 = .ok (.iaload, 1) := by decide +kernel
theorem dX13_kindOf_41 : decode cX13_kindOf 41 = .ok (.invokevirtual 612, 3) := by decide +kernel
theorem dX13_kindOf_44 : decode cX13_kindOf 44 = .ok (.iinc 2 1, 3) := by decide +kernel
theorem dX13_kindOf_47 : decode cX13_kindOf 47 = .ok (.goto (-30), 3) := by decide +kernel
theorem dX13_kindOf_50 : decode cX13_kindOf 50 = .ok (.aload_n 0, 1) := by decide +kernel
theorem dX13_kindOf_51 : decode cX13_kindOf 51 = .ok (.bipush 41, 2) := by decide +kernel
theorem dX13_kindOf_53 : decode cX13_kindOf 53 = .ok (.invokevirtual 593, 3) := by decide +kernel
theorem dX13_kindOf_56 : decode cX13_kindOf 56 = .ok (.aload_n 0, 1) := by decide +kernel
theorem dX13_kindOf_57 : decode cX13_kindOf 57 = .ok (.aload_n 0, 1) := by decide +kernel
theorem dX13_kindOf_58 : decode cX13_kindOf 58 = .ok (.getfield 89, 3) := by decide +kernel
theorem dX13_kindOf_61 : decode cX13_kindOf 61 = .ok (.iload_n 1, 1) := by decide +kernel
theorem dX13_kindOf_62 : decode cX13_kindOf 62 = .ok (.iaload, 1) := by decide +kernel
theorem dX13_kindOf_63 : decode cX13_kindOf 63 = .ok (.invokevirtual 612, 3) := by decide +kernel
theorem dX13_kindOf_66 : decode cX13_kindOf 66 = .ok (.aload_n 0, 1) := by decide +kernel
theorem dX13_kindOf_67 : decode cX13_kindOf 67 = .ok (.invokevirtual 615, 3) := by decide +kernel
theorem dX13_kindOf_70 : decode cX13_kindOf 70 = .ok (.ireturn, 1) := by decide +kernel
theorem dX13_memberConstant_0 : decode cX13_memberConstant 0 = .ok (.aload_n 0, 1) := by decide +kernel
theorem dX13_memberConstant_1 : decode cX13_memberConstant 1 = .ok (.bipush 8, 2) := by decide +kernel
theorem dX13_memberConstant_3 : decode cX13_memberConstant 3 = .ok (.iconst 2, 1) := by decide +kernel
theorem dX13_memberConstant_4 : decode cX13_memberConstant 4 = .ok (.iload_n 1, 1) := by decide +kernel
theorem dX13_memberConstant_5 : decode cX13_memberConstant 5 = .ok (.imul, 1) := by decide +kernel
theorem dX13_memberConstant_6 : decode cX13_memberConstant 6 = .ok (.iadd, 1) := by decide +kernel
theorem dX13_memberConstant_7 : decode cX13_memberConstant 7 = .ok (.invokevirtual 618, 3) := by decide +kernel
theorem dX13_memberConstant_10 : decode cX13_memberConstant 10 = .ok (.istore_n 3, 1) := by decide +kernel
theorem dX13_memberConstant_11 : decode cX13_memberConstant 11 = .ok (.aload_n 0, 1) := by decide +kernel
theorem dX13_memberConstant_12 : decode cX13_memberConstant 12 = .ok (.aload_n 0, 1) := by decide +kernel
theorem dX13_memberConstant_13 : decode cX13_memberConstant 13 = .ok (.getfield 86, 3) := by decide +kernel
theorem dX13_memberConstant_16 : decode cX13_memberConstant 16 = .ok (.iload_n 2, 1) := by decide +kernel
theorem dX13_memberConstant_17 : decode cX13_memberConstant 17 = .ok (.iaload, 1) := by decide +kernel
theorem dX13_memberConstant_18 : decode cX13_memberConstant 18 = .ok (.invokevirtual 621, 3) := by decide +kernel
theorem dX13_memberConstant_21 : decode cX13_memberConstant 21 = .ok (.istore 4, 2) := by decide +kernel
theorem dX13_memberConstant_23 : decode cX13_memberConstant 23 = .ok (.aload_n 0, 1) := by decide +kernel
theorem dX13_memberConstant_24 : decode cX13_memberConstant 24 = .ok (.iconst 4, 1) := by decide +kernel
theorem dX13_memberConstant_25 : decode cX13_memberConstant 25 = .ok (.iload_n 3, 1) := by decide +kernel
theorem dX13_memberConstant_26 : decode cX13_memberConstant 26 = .ok (.iload 4, 2) := by decide +kernel
theorem dX13_memberConstant_28 : decode cX13_memberConstant 28 = .ok (.aload_n 0, 1) := by decide +kernel
theorem dX13_memberConstant_29 : decode cX13_memberConstant 29 = .ok (.iload_n 2, 1) := by decide +kernel
theorem dX13_memberConstant_30 : decode cX13_memberConstant 30 = .ok (.invokevirtual 624, 3) := by decide +kernel
theorem dX13_memberConstant_33 : decode cX13_memberConstant 33 = .ok (.invokevirtual 608, 3) := by decide +kernel
theorem dX13_memberConstant_36 : decode cX13_memberConstant 36 = .ok (.ireturn, 1) := by decide +kernel
theorem dX13_stands_0 : decode cX13_stands 0 = .ok (.iconst 0, 1) := by decide +kernel
theorem dX13_stands_1 : decode cX13_stands 1 = .ok (.istore_n 3, 1) := by decide +kernel
theorem dX13_stands_2 : decode cX13_stands 2 = .ok (.iconst 0, 1) := by decide +kernel
theorem dX13_stands_3 : decode cX13_stands 3 = .ok (.istore 4, 2) := by decide +kernel
theorem dX13_stands_5 : decode cX13_stands 5 = .ok (.iconst 0, 1) := by decide +kernel
theorem dX13_stands_6 : decode cX13_stands 6 = .ok (.istore 5, 2) := by decide +kernel
theorem dX13_stands_8 : decode cX13_stands 8 = .ok (.iload 5, 2) := by decide +kernel
theorem dX13_stands_10 : decode cX13_stands 10 = .ok (.aload_n 0, 1) := by decide +kernel
theorem dX13_stands_11 : decode cX13_stands 11 = .ok (.getfield 643, 3) := by decide +kernel
theorem dX13_stands_14 : decode cX13_stands 14 = .ok (.if_icmp .ge 125, 3) := by decide +kernel
theorem dX13_stands_17 : decode cX13_stands 17 = .ok (.aload_n 0, 1) := by decide +kernel
theorem dX13_stands_18 : decode cX13_stands 18 = .ok (.getfield 184, 3) := by decide +kernel
theorem dX13_stands_21 : decode cX13_stands 21 = .ok (.iload 5, 2) := by decide +kernel
theorem dX13_stands_23 : decode cX13_stands 23 = .ok (.iaload, 1) := by decide +kernel
theorem dX13_stands_24 : decode cX13_stands 24 = .ok (.iload_n 1, 1) := by decide +kernel
theorem dX13_stands_25 : decode cX13_stands 25 = .ok (.if_icmp .ne 77, 3) := by decide +kernel
theorem dX13_stands_28 : decode cX13_stands 28 = .ok (.iconst 1, 1) := by decide +kernel
theorem dX13_stands_29 : decode cX13_stands 29 = .ok (.istore_n 3, 1) := by decide +kernel
theorem dX13_stands_30 : decode cX13_stands 30 = .ok (.iload_n 2, 1) := by decide +kernel
theorem dX13_stands_31 : decode cX13_stands 31 = .ok (.aload_n 0, 1) := by decide +kernel
theorem dX13_stands_32 : decode cX13_stands 32 = .ok (.getfield 181, 3) := by decide +kernel
theorem dX13_stands_35 : decode cX13_stands 35 = .ok (.iload 5, 2) := by decide +kernel
theorem dX13_stands_37 : decode cX13_stands 37 = .ok (.iaload, 1) := by decide +kernel
theorem dX13_stands_38 : decode cX13_stands 38 = .ok (.isub, 1) := by decide +kernel
theorem dX13_stands_39 : decode cX13_stands 39 = .ok (.istore 6, 2) := by decide +kernel
theorem dX13_stands_41 : decode cX13_stands 41 = .ok (.aload_n 0, 1) := by decide +kernel
theorem dX13_stands_42 : decode cX13_stands 42 = .ok (.getfield 181, 3) := by decide +kernel
theorem dX13_stands_45 : decode cX13_stands 45 = .ok (.iload 5, 2) := by decide +kernel
theorem dX13_stands_47 : decode cX13_stands 47 = .ok (.iaload, 1) := by decide +kernel
theorem dX13_stands_48 : decode cX13_stands 48 = .ok (.iconst 2, 1) := by decide +kernel
theorem dX13_stands_49 : decode cX13_stands 49 = .ok (.iadd, 1) := by decide +kernel
theorem dX13_stands_50 : decode cX13_stands 50 = .ok (.sipush 12000, 3) := by decide +kernel
theorem dX13_stands_53 : decode cX13_stands 53 = .ok (.if_icmp .ge 46, 3) := by decide +kernel
theorem dX13_stands_56 : decode cX13_stands 56 = .ok (.aload_n 0, 1) := by decide +kernel
theorem dX13_stands_57 : decode cX13_stands 57 = .ok (.getfield 147, 3) := by decide +kernel
theorem dX13_stands_60 : decode cX13_stands 60 = .ok (.aload_n 0, 1) := by decide +kernel
theorem dX13_stands_61 : decode cX13_stands 61 = .ok (.getfield 181, 3) := by decide +kernel
theorem dX13_stands_64 : decode cX13_stands 64 = .ok (.iload 5, 2) := by decide +kernel
theorem dX13_stands_66 : decode cX13_stands 66 = .ok (.iaload, 1) := by decide +kernel
theorem dX13_stands_67 : decode cX13_stands 67 = .ok (.iconst 1, 1) := by decide +kernel
theorem dX13_stands_68 : decode cX13_stands 68 = .ok (.iadd, 1) := by decide +kernel
theorem dX13_stands_69 : decode cX13_stands 69 = .ok (.iload 6, 2) := by decide +kernel
theorem dX13_stands_71 : decode cX13_stands 71 = .ok (.bipush 8, 2) := by decide +kernel
theorem dX13_stands_73 : decode cX13_stands 73 = .ok (.ishr, 1) := by decide +kernel
theorem dX13_stands_74 : decode cX13_stands 74 = .ok (.sipush 255, 3) := by decide +kernel
theorem dX13_stands_77 : decode cX13_stands 77 = .ok (.iand, 1) := by decide +kernel
theorem dX13_stands_78 : decode cX13_stands 78 = .ok (.iastore, 1) := by decide +kernel
theorem dX13_stands_79 : decode cX13_stands 79 = .ok (.aload_n 0, 1) := by decide +kernel
theorem dX13_stands_80 : decode cX13_stands 80 = .ok (.getfield 147, 3) := by decide +kernel
theorem dX13_stands_83 : decode cX13_stands 83 = .ok (.aload_n 0, 1) := by decide +kernel
theorem dX13_stands_84 : decode cX13_stands 84 = .ok (.getfield 181, 3) := by decide +kernel
theorem dX13_stands_87 : decode cX13_stands 87 = .ok (.iload 5, 2) := by decide +kernel
theorem dX13_stands_89 : decode cX13_stands 89 = .ok (.iaload, 1) := by decide +kernel
theorem dX13_stands_90 : decode cX13_stands 90 = .ok (.iconst 2, 1) := by decide +kernel
theorem dX13_stands_91 : decode cX13_stands 91 = .ok (.iadd, 1) := by decide +kernel
theorem dX13_stands_92 : decode cX13_stands 92 = .ok (.iload 6, 2) := by decide +kernel
theorem dX13_stands_94 : decode cX13_stands 94 = .ok (.sipush 255, 3) := by decide +kernel
theorem dX13_stands_97 : decode cX13_stands 97 = .ok (.iand, 1) := by decide +kernel
theorem dX13_stands_98 : decode cX13_stands 98 = .ok (.iastore, 1) := by decide +kernel
theorem dX13_stands_99 : decode cX13_stands 99 = .ok (.goto 34, 3) := by decide +kernel
theorem dX13_stands_102 : decode cX13_stands 102 = .ok (.aload_n 0, 1) := by decide +kernel
theorem dX13_stands_103 : decode cX13_stands 103 = .ok (.getfield 181, 3) := by decide +kernel
theorem dX13_stands_106 : decode cX13_stands 106 = .ok (.iload 4, 2) := by decide +kernel
theorem dX13_stands_108 : decode cX13_stands 108 = .ok (.aload_n 0, 1) := by decide +kernel
theorem dX13_stands_109 : decode cX13_stands 109 = .ok (.getfield 181, 3) := by decide +kernel
theorem dX13_stands_112 : decode cX13_stands 112 = .ok (.iload 5, 2) := by decide +kernel
theorem dX13_stands_114 : decode cX13_stands 114 = .ok (.iaload, 1) := by decide +kernel
theorem dX13_stands_115 : decode cX13_stands 115 = .ok (.iastore, 1) := by decide +kernel
theorem dX13_stands_116 : decode cX13_stands 116 = .ok (.aload_n 0, 1) := by decide +kernel
theorem dX13_stands_117 : decode cX13_stands 117 = .ok (.getfield 184, 3) := by decide +kernel
theorem dX13_stands_120 : decode cX13_stands 120 = .ok (.iload 4, 2) := by decide +kernel
theorem dX13_stands_122 : decode cX13_stands 122 = .ok (.aload_n 0, 1) := by decide +kernel
theorem dX13_stands_123 : decode cX13_stands 123 = .ok (.getfield 184, 3) := by decide +kernel
theorem dX13_stands_126 : decode cX13_stands 126 = .ok (.iload 5, 2) := by decide +kernel
theorem dX13_stands_128 : decode cX13_stands 128 = .ok (.iaload, 1) := by decide +kernel
theorem dX13_stands_129 : decode cX13_stands 129 = .ok (.iastore, 1) := by decide +kernel
theorem dX13_stands_130 : decode cX13_stands 130 = .ok (.iinc 4 1, 3) := by decide +kernel
theorem dX13_stands_133 : decode cX13_stands 133 = .ok (.iinc 5 1, 3) := by decide +kernel
theorem dX13_stands_136 : decode cX13_stands 136 = .ok (.goto (-128), 3) := by decide +kernel
theorem dX13_stands_139 : decode cX13_stands 139 = .ok (.aload_n 0, 1) := by decide +kernel
theorem dX13_stands_140 : decode cX13_stands 140 = .ok (.iload 4, 2) := by decide +kernel
theorem dX13_stands_142 : decode cX13_stands 142 = .ok (.putfield 643, 3) := by decide +kernel
theorem dX13_stands_145 : decode cX13_stands 145 = .ok (.iload_n 3, 1) := by decide +kernel
theorem dX13_stands_146 : decode cX13_stands 146 = .ok (.ifCond .eq 8, 3) := by decide +kernel
theorem dX13_stands_149 : decode cX13_stands 149 = .ok (.aload_n 0, 1) := by decide +kernel
theorem dX13_stands_150 : decode cX13_stands 150 = .ok (.iload_n 2, 1) := by decide +kernel
theorem dX13_stands_151 : decode cX13_stands 151 = .ok (.invokevirtual 649, 3) := by decide +kernel
theorem dX13_stands_154 : decode cX13_stands 154 = .ok (.return_, 1) := by decide +kernel
theorem dX13_frame_0 : decode cX13_frame 0 = .ok (.aload_n 0, 1) := by decide +kernel
theorem dX13_frame_1 : decode cX13_frame 1 = .ok (.getfield 652, 3) := by decide +kernel
theorem dX13_frame_4 : decode cX13_frame 4 = .ok (.istore_n 2, 1) := by decide +kernel
theorem dX13_frame_5 : decode cX13_frame 5 = .ok (.iconst 0, 1) := by decide +kernel
theorem dX13_frame_6 : decode cX13_frame 6 = .ok (.istore_n 3, 1) := by decide +kernel
theorem dX13_frame_7 : decode cX13_frame 7 = .ok (.iload_n 3, 1) := by decide +kernel
theorem dX13_frame_8 : decode cX13_frame 8 = .ok (.aload_n 0, 1) := by decide +kernel
theorem dX13_frame_9 : decode cX13_frame 9 = .ok (.getfield 652, 3) := by decide +kernel
theorem dX13_frame_12 : decode cX13_frame 12 = .ok (.if_icmp .ge 21, 3) := by decide +kernel
theorem dX13_frame_15 : decode cX13_frame 15 = .ok (.aload_n 0, 1) := by decide +kernel
theorem dX13_frame_16 : decode cX13_frame 16 = .ok (.getfield 153, 3) := by decide +kernel
theorem dX13_frame_19 : decode cX13_frame 19 = .ok (.iload_n 3, 1) := by decide +kernel
theorem dX13_frame_20 : decode cX13_frame 20 = .ok (.iaload, 1) := by decide +kernel
theorem dX13_frame_21 : decode cX13_frame 21 = .ok (.iload_n 1, 1) := by decide +kernel
theorem dX13_frame_22 : decode cX13_frame 22 = .ok (.if_icmp .ne 5, 3) := by decide +kernel
theorem dX13_frame_25 : decode cX13_frame 25 = .ok (.iload_n 3, 1) := by decide +kernel
theorem dX13_frame_26 : decode cX13_frame 26 = .ok (.istore_n 2, 1) := by decide +kernel
theorem dX13_frame_27 : decode cX13_frame 27 = .ok (.iinc 3 1, 3) := by decide +kernel
theorem dX13_frame_30 : decode cX13_frame 30 = .ok (.goto (-23), 3) := by decide +kernel
theorem dX13_frame_33 : decode cX13_frame 33 = .ok (.iload_n 2, 1) := by decide +kernel
theorem dX13_frame_34 : decode cX13_frame 34 = .ok (.aload_n 0, 1) := by decide +kernel
theorem dX13_frame_35 : decode cX13_frame 35 = .ok (.getfield 652, 3) := by decide +kernel
theorem dX13_frame_38 : decode cX13_frame 38 = .ok (.if_icmp .ne 13, 3) := by decide +kernel
theorem dX13_frame_41 : decode cX13_frame 41 = .ok (.aload_n 0, 1) := by decide +kernel
theorem dX13_frame_42 : decode cX13_frame 42 = .ok (.dup, 1) := by decide +kernel
theorem dX13_frame_43 : decode cX13_frame 43 = .ok (.getfield 652, 3) := by decide +kernel
theorem dX13_frame_46 : decode cX13_frame 46 = .ok (.iconst 1, 1) := by decide +kernel
theorem dX13_frame_47 : decode cX13_frame 47 = .ok (.iadd, 1) := by decide +kernel
theorem dX13_frame_48 : decode cX13_frame 48 = .ok (.putfield 652, 3) := by decide +kernel
theorem dX13_frame_51 : decode cX13_frame 51 = .ok (.aload_n 0, 1) := by decide +kernel
theorem dX13_frame_52 : decode cX13_frame 52 = .ok (.getfield 153, 3) := by decide +kernel
theorem dX13_frame_55 : decode cX13_frame 55 = .ok (.iload_n 2, 1) := by decide +kernel
theorem dX13_frame_56 : decode cX13_frame 56 = .ok (.iload_n 1, 1) := by decide +kernel
theorem dX13_frame_57 : decode cX13_frame 57 = .ok (.iastore, 1) := by decide +kernel
theorem dX13_frame_58 : decode cX13_frame 58 = .ok (.aload_n 0, 1) := by decide +kernel
theorem dX13_frame_59 : decode cX13_frame 59 = .ok (.getfield 156, 3) := by decide +kernel
theorem dX13_frame_62 : decode cX13_frame 62 = .ok (.iload_n 2, 1) := by decide +kernel
theorem dX13_frame_63 : decode cX13_frame 63 = .ok (.aload_n 0, 1) := by decide +kernel
theorem dX13_frame_64 : decode cX13_frame 64 = .ok (.getfield 655, 3) := by decide +kernel
theorem dX13_frame_67 : decode cX13_frame 67 = .ok (.iastore, 1) := by decide +kernel
theorem dX13_frame_68 : decode cX13_frame 68 = .ok (.aload_n 0, 1) := by decide +kernel
theorem dX13_frame_69 : decode cX13_frame 69 = .ok (.getfield 510, 3) := by decide +kernel
theorem dX13_frame_72 : decode cX13_frame 72 = .ok (.ifCond .eq 7, 3) := by decide +kernel
theorem dX13_frame_75 : decode cX13_frame 75 = .ok (.iconst 0, 1) := by decide +kernel
theorem dX13_frame_76 : decode cX13_frame 76 = .ok (.goto 4, 3) := by decide +kernel
theorem dX13_frame_79 : decode cX13_frame 79 = .ok (.iconst 1, 1) := by decide +kernel
theorem dX13_frame_80 : decode cX13_frame 80 = .ok (.istore_n 3, 1) := by decide +kernel
theorem dX13_frame_81 : decode cX13_frame 81 = .ok (.aload_n 0, 1) := by decide +kernel
theorem dX13_frame_82 : decode cX13_frame 82 = .ok (.getfield 159, 3) := by decide +kernel
theorem dX13_frame_85 : decode cX13_frame 85 = .ok (.iload_n 2, 1) := by decide +kernel
theorem dX13_frame_86 : decode cX13_frame 86 = .ok (.aload_n 0, 1) := by decide +kernel
theorem dX13_frame_87 : decode cX13_frame 87 = .ok (.getfield 513, 3) := by decide +kernel
theorem dX13_frame_90 : decode cX13_frame 90 = .ok (.iload_n 3, 1) := by decide +kernel
theorem dX13_frame_91 : decode cX13_frame 91 = .ok (.iadd, 1) := by decide +kernel
theorem dX13_frame_92 : decode cX13_frame 92 = .ok (.iastore, 1) := by decide +kernel
theorem dX13_frame_93 : decode cX13_frame 93 = .ok (.aload_n 0, 1) := by decide +kernel
theorem dX13_frame_94 : decode cX13_frame 94 = .ok (.getfield 162, 3) := by decide +kernel
theorem dX13_frame_97 : decode cX13_frame 97 = .ok (.iload_n 2, 1) := by decide +kernel
theorem dX13_frame_98 : decode cX13_frame 98 = .ok (.aload_n 0, 1) := by decide +kernel
theorem dX13_frame_99 : decode cX13_frame 99 = .ok (.getfield 629, 3) := by decide +kernel
theorem dX13_frame_102 : decode cX13_frame 102 = .ok (.iastore, 1) := by decide +kernel
theorem dX13_frame_103 : decode cX13_frame 103 = .ok (.aload_n 0, 1) := by decide +kernel
theorem dX13_frame_104 : decode cX13_frame 104 = .ok (.getfield 655, 3) := by decide +kernel
theorem dX13_frame_107 : decode cX13_frame 107 = .ok (.aload_n 0, 1) := by decide +kernel
theorem dX13_frame_108 : decode cX13_frame 108 = .ok (.getfield 513, 3) := by decide +kernel
theorem dX13_frame_111 : decode cX13_frame 111 = .ok (.iadd, 1) := by decide +kernel
theorem dX13_frame_112 : decode cX13_frame 112 = .ok (.iconst 1, 1) := by decide +kernel
theorem dX13_frame_113 : decode cX13_frame 113 = .ok (.iadd, 1) := by decide +kernel
theorem dX13_frame_114 : decode cX13_frame 114 = .ok (.aload_n 0, 1) := by decide +kernel
theorem dX13_frame_115 : decode cX13_frame 115 = .ok (.getfield 629, 3) := by decide +kernel
theorem dX13_frame_118 : decode cX13_frame 118 = .ok (.iadd, 1) := by decide +kernel
theorem dX13_frame_119 : decode cX13_frame 119 = .ok (.ldc 165, 2) := by decide +kernel
theorem dX13_frame_121 : decode cX13_frame 121 = .ok (.if_icmp .le 4, 3) := by decide +kernel
theorem dX13_frame_124 : decode cX13_frame 124 = .ok (.return_, 1) := by decide +kernel
theorem dX13_frame_125 : decode cX13_frame 125 = .ok (.aload_n 0, 1) := by decide +kernel
theorem dX13_frame_126 : decode cX13_frame 126 = .ok (.getfield 510, 3) := by decide +kernel
theorem dX13_frame_129 : decode cX13_frame 129 = .ok (.ifCond .ne 21, 3) := by decide +kernel
theorem dX13_frame_132 : decode cX13_frame 132 = .ok (.aload_n 0, 1) := by decide +kernel
theorem dX13_frame_133 : decode cX13_frame 133 = .ok (.getfield 166, 3) := by decide +kernel
theorem dX13_frame_136 : decode cX13_frame 136 = .ok (.aload_n 0, 1) := by decide +kernel
theorem dX13_frame_137 : decode cX13_frame 137 = .ok (.getfield 655, 3) := by decide +kernel
theorem dX13_frame_140 : decode cX13_frame 140 = .ok (.bipush 8, 2) := by decide +kernel
theorem dX13_frame_142 : decode cX13_frame 142 = .ok (.iconst 2, 1) := by decide +kernel
theorem dX13_frame_143 : decode cX13_frame 143 = .ok (.aload_n 0, 1) := by decide +kernel
theorem dX13_frame_144 : decode cX13_frame 144 = .ok (.getfield 519, 3) := by decide +kernel
theorem dX13_frame_147 : decode cX13_frame 147 = .ok (.imul, 1) := by decide +kernel
theorem dX13_frame_148 : decode cX13_frame 148 = .ok (.iadd, 1) := by decide +kernel
theorem dX13_frame_149 : decode cX13_frame 149 = .ok (.iastore, 1) := by decide +kernel
theorem dX13_frame_150 : decode cX13_frame 150 = .ok (.iconst 0, 1) := by decide +kernel
theorem dX13_frame_151 : decode cX13_frame 151 = .ok (.istore 4, 2) := by decide +kernel
theorem dX13_frame_153 : decode cX13_frame 153 = .ok (.iload 4, 2) := by decide +kernel
theorem dX13_frame_155 : decode cX13_frame 155 = .ok (.aload_n 0, 1) := by decide +kernel
theorem dX13_frame_156 : decode cX13_frame 156 = .ok (.getfield 513, 3) := by decide +kernel
theorem dX13_frame_159 : decode cX13_frame 159 = .ok (.if_icmp .ge 30, 3) := by decide +kernel
theorem dX13_frame_162 : decode cX13_frame 162 = .ok (.aload_n 0, 1) := by decide +kernel
theorem dX13_frame_163 : decode cX13_frame 163 = .ok (.getfield 166, 3) := by decide +kernel
theorem dX13_frame_166 : decode cX13_frame 166 = .ok (.aload_n 0, 1) := by decide +kernel
theorem dX13_frame_167 : decode cX13_frame 167 = .ok (.getfield 655, 3) := by decide +kernel
theorem dX13_frame_170 : decode cX13_frame 170 = .ok (.iload_n 3, 1) := by decide +kernel
theorem dX13_frame_171 : decode cX13_frame 171 = .ok (.iadd, 1) := by decide +kernel
theorem dX13_frame_172 : decode cX13_frame 172 = .ok (.iload 4, 2) := by decide +kernel
theorem dX13_frame_174 : decode cX13_frame 174 = .ok (.iadd, 1) := by decide +kernel
theorem dX13_frame_175 : decode cX13_frame 175 = .ok (.aload_n 0, 1) := by decide +kernel
theorem dX13_frame_176 : decode cX13_frame 176 = .ok (.getfield 119, 3) := by decide +kernel
theorem dX13_frame_179 : decode cX13_frame 179 = .ok (.iload 4, 2) := by decide +kernel
theorem dX13_frame_181 : decode cX13_frame 181 = .ok (.iaload, 1) := by decide +kernel
theorem dX13_frame_182 : decode cX13_frame 182 = .ok (.iastore, 1) := by decide +kernel
theorem dX13_frame_183 : decode cX13_frame 183 = .ok (.iinc 4 1, 3) := by decide +kernel
theorem dX13_frame_186 : decode cX13_frame 186 = .ok (.goto (-33), 3) := by decide +kernel
theorem dX13_frame_189 : decode cX13_frame 189 = .ok (.iconst 0, 1) := by decide +kernel
theorem dX13_frame_190 : decode cX13_frame 190 = .ok (.istore 4, 2) := by decide +kernel
theorem dX13_frame_192 : decode cX13_frame 192 = .ok (.iload 4, 2) := by decide +kernel
theorem dX13_frame_194 : decode cX13_frame 194 = .ok (.aload_n 0, 1) := by decide +kernel
theorem dX13_frame_195 : decode cX13_frame 195 = .ok (.getfield 629, 3) := by decide +kernel
theorem dX13_frame_198 : decode cX13_frame 198 = .ok (.if_icmp .ge 35, 3) := by decide +kernel
theorem dX13_frame_201 : decode cX13_frame 201 = .ok (.aload_n 0, 1) := by decide +kernel
theorem dX13_frame_202 : decode cX13_frame 202 = .ok (.getfield 166, 3) := by decide +kernel
theorem dX13_frame_205 : decode cX13_frame 205 = .ok (.aload_n 0, 1) := by decide +kernel
theorem dX13_frame_206 : decode cX13_frame 206 = .ok (.getfield 655, 3) := by decide +kernel
theorem dX13_frame_209 : decode cX13_frame 209 = .ok (.iload_n 3, 1) := by decide +kernel
theorem dX13_frame_210 : decode cX13_frame 210 = .ok (.iadd, 1) := by decide +kernel
theorem dX13_frame_211 : decode cX13_frame 211 = .ok (.aload_n 0, 1) := by decide +kernel
theorem dX13_frame_212 : decode cX13_frame 212 = .ok (.getfield 513, 3) := by decide +kernel
theorem dX13_frame_215 : decode cX13_frame 215 = .ok (.iadd, 1) := by decide +kernel
theorem dX13_frame_216 : decode cX13_frame 216 = .ok (.iload 4, 2) := by decide +kernel
theorem dX13_frame_218 : decode cX13_frame 218 = .ok (.iadd, 1) := by decide +kernel
theorem dX13_frame_219 : decode cX13_frame 219 = .ok (.aload_n 0, 1) := by decide +kernel
theorem dX13_frame_220 : decode cX13_frame 220 = .ok (.getfield 150, 3) := by decide +kernel
theorem dX13_frame_223 : decode cX13_frame 223 = .ok (.iload 4, 2) := by decide +kernel
theorem dX13_frame_225 : decode cX13_frame 225 = .ok (.iaload, 1) := by decide +kernel
theorem dX13_frame_226 : decode cX13_frame 226 = .ok (.iastore, 1) := by decide +kernel
theorem dX13_frame_227 : decode cX13_frame 227 = .ok (.iinc 4 1, 3) := by decide +kernel
theorem dX13_frame_230 : decode cX13_frame 230 = .ok (.goto (-38), 3) := by decide +kernel
theorem dX13_frame_233 : decode cX13_frame 233 = .ok (.aload_n 0, 1) := by decide +kernel
theorem dX13_frame_234 : decode cX13_frame 234 = .ok (.dup, 1) := by decide +kernel
theorem dX13_frame_235 : decode cX13_frame 235 = .ok (.getfield 655, 3) := by decide +kernel
theorem dX13_frame_238 : decode cX13_frame 238 = .ok (.iload_n 3, 1) := by decide +kernel
theorem dX13_frame_239 : decode cX13_frame 239 = .ok (.aload_n 0, 1) := by decide +kernel
theorem dX13_frame_240 : decode cX13_frame 240 = .ok (.getfield 513, 3) := by decide +kernel
theorem dX13_frame_243 : decode cX13_frame 243 = .ok (.iadd, 1) := by decide +kernel
theorem dX13_frame_244 : decode cX13_frame 244 = .ok (.aload_n 0, 1) := by decide +kernel
theorem dX13_frame_245 : decode cX13_frame 245 = .ok (.getfield 629, 3) := by decide +kernel
theorem dX13_frame_248 : decode cX13_frame 248 = .ok (.iadd, 1) := by decide +kernel
theorem dX13_frame_249 : decode cX13_frame 249 = .ok (.iadd, 1) := by decide +kernel
theorem dX13_frame_250 : decode cX13_frame 250 = .ok (.putfield 655, 3) := by decide +kernel
theorem dX13_frame_253 : decode cX13_frame 253 = .ok (.return_, 1) := by decide +kernel
theorem dX13_number_0 : decode cX13_number 0 = .ok (.aload_n 0, 1) := by decide +kernel
theorem dX13_number_1 : decode cX13_number 1 = .ok (.getfield 25, 3) := by decide +kernel
theorem dX13_number_4 : decode cX13_number 4 = .ok (.iload_n 1, 1) := by decide +kernel
theorem dX13_number_5 : decode cX13_number 5 = .ok (.iaload, 1) := by decide +kernel
theorem dX13_number_6 : decode cX13_number 6 = .ok (.istore_n 2, 1) := by decide +kernel
theorem dX13_number_7 : decode cX13_number 7 = .ok (.iload_n 2, 1) := by decide +kernel
theorem dX13_number_8 : decode cX13_number 8 = .ok (.iconst 5, 1) := by decide +kernel
theorem dX13_number_9 : decode cX13_number 9 = .ok (.if_icmp .gt 13, 3) := by decide +kernel
theorem dX13_number_12 : decode cX13_number 12 = .ok (.aload_n 0, 1) := by decide +kernel
theorem dX13_number_13 : decode cX13_number 13 = .ok (.iconst 3, 1) := by decide +kernel
theorem dX13_number_14 : decode cX13_number 14 = .ok (.iload_n 2, 1) := by decide +kernel
theorem dX13_number_15 : decode cX13_number 15 = .ok (.iadd, 1) := by decide +kernel
theorem dX13_number_16 : decode cX13_number 16 = .ok (.invokevirtual 646, 3) := by decide +kernel
theorem dX13_number_19 : decode cX13_number 19 = .ok (.goto 41, 3) := by decide +kernel
theorem dX13_number_22 : decode cX13_number 22 = .ok (.iload_n 2, 1) := by decide +kernel
theorem dX13_number_23 : decode cX13_number 23 = .ok (.bipush 127, 2) := by decide +kernel
theorem dX13_number_25 : decode cX13_number 25 = .ok (.if_icmp .gt 17, 3) := by decide +kernel
theorem dX13_number_28 : decode cX13_number 28 = .ok (.aload_n 0, 1) := by decide +kernel
theorem dX13_number_29 : decode cX13_number 29 = .ok (.bipush 16, 2) := by decide +kernel
theorem dX13_number_31 : decode cX13_number 31 = .ok (.invokevirtual 646, 3) := by decide +kernel
theorem dX13_number_34 : decode cX13_number 34 = .ok (.aload_n 0, 1) := by decide +kernel
theorem dX13_number_35 : decode cX13_number 35 = .ok (.iload_n 2, 1) := by decide +kernel
theorem dX13_number_36 : decode cX13_number 36 = .ok (.invokevirtual 646, 3) := by decide +kernel
theorem dX13_number_39 : decode cX13_number 39 = .ok (.goto 21, 3) := by decide +kernel
theorem dX13_number_42 : decode cX13_number 42 = .ok (.aload_n 0, 1) := by decide +kernel
theorem dX13_number_43 : decode cX13_number 43 = .ok (.bipush 18, 2) := by decide +kernel
theorem dX13_number_45 : decode cX13_number 45 = .ok (.invokevirtual 646, 3) := by decide +kernel
theorem dX13_number_48 : decode cX13_number 48 = .ok (.aload_n 0, 1) := by decide +kernel
theorem dX13_number_49 : decode cX13_number 49 = .ok (.aload_n 0, 1) := by decide +kernel
theorem dX13_number_50 : decode cX13_number 50 = .ok (.iconst 2, 1) := by decide +kernel
theorem dX13_number_51 : decode cX13_number 51 = .ok (.iload_n 2, 1) := by decide +kernel
theorem dX13_number_52 : decode cX13_number 52 = .ok (.iconst 0, 1) := by decide +kernel
theorem dX13_number_53 : decode cX13_number 53 = .ok (.iconst 0, 1) := by decide +kernel
theorem dX13_number_54 : decode cX13_number 54 = .ok (.invokevirtual 608, 3) := by decide +kernel
theorem dX13_number_57 : decode cX13_number 57 = .ok (.invokevirtual 646, 3) := by decide +kernel
theorem dX13_number_60 : decode cX13_number 60 = .ok (.aload_n 0, 1) := by decide +kernel
theorem dX13_number_61 : decode cX13_number 61 = .ok (.iconst 0, 1) := by decide +kernel
theorem dX13_number_62 : decode cX13_number 62 = .ok (.invokevirtual 640, 3) := by decide +kernel
theorem dX13_number_65 : decode cX13_number 65 = .ok (.return_, 1) := by decide +kernel
theorem dX13_truth_0 : decode cX13_truth 0 = .ok (.aload_n 0, 1) := by decide +kernel
theorem dX13_truth_1 : decode cX13_truth 1 = .ok (.invokevirtual 676, 3) := by decide +kernel
theorem dX13_truth_4 : decode cX13_truth 4 = .ok (.istore_n 3, 1) := by decide +kernel
theorem dX13_truth_5 : decode cX13_truth 5 = .ok (.aload_n 0, 1) := by decide +kernel
theorem dX13_truth_6 : decode cX13_truth 6 = .ok (.invokevirtual 676, 3) := by decide +kernel
theorem dX13_truth_9 : decode cX13_truth 9 = .ok (.istore 4, 2) := by decide +kernel
theorem dX13_truth_11 : decode cX13_truth 11 = .ok (.aload_n 0, 1) := by decide +kernel
theorem dX13_truth_12 : decode cX13_truth 12 = .ok (.dup, 1) := by decide +kernel
theorem dX13_truth_13 : decode cX13_truth 13 = .ok (.getfield 629, 3) := by decide +kernel
theorem dX13_truth_16 : decode cX13_truth 16 = .ok (.iload_n 2, 1) := by decide +kernel
theorem dX13_truth_17 : decode cX13_truth 17 = .ok (.isub, 1) := by decide +kernel
theorem dX13_truth_18 : decode cX13_truth 18 = .ok (.putfield 629, 3) := by decide +kernel
theorem dX13_truth_21 : decode cX13_truth 21 = .ok (.aload_n 0, 1) := by decide +kernel
theorem dX13_truth_22 : decode cX13_truth 22 = .ok (.iload_n 1, 1) := by decide +kernel
theorem dX13_truth_23 : decode cX13_truth 23 = .ok (.iload_n 3, 1) := by decide +kernel
theorem dX13_truth_24 : decode cX13_truth 24 = .ok (.invokevirtual 679, 3) := by decide +kernel
theorem dX13_truth_27 : decode cX13_truth 27 = .ok (.aload_n 0, 1) := by decide +kernel
theorem dX13_truth_28 : decode cX13_truth 28 = .ok (.iconst 3, 1) := by decide +kernel
theorem dX13_truth_29 : decode cX13_truth 29 = .ok (.invokevirtual 646, 3) := by decide +kernel
theorem dX13_truth_32 : decode cX13_truth 32 = .ok (.aload_n 0, 1) := by decide +kernel
theorem dX13_truth_33 : decode cX13_truth 33 = .ok (.iconst 0, 1) := by decide +kernel
theorem dX13_truth_34 : decode cX13_truth 34 = .ok (.invokevirtual 640, 3) := by decide +kernel
theorem dX13_truth_37 : decode cX13_truth 37 = .ok (.aload_n 0, 1) := by decide +kernel
theorem dX13_truth_38 : decode cX13_truth 38 = .ok (.dup, 1) := by decide +kernel
theorem dX13_truth_39 : decode cX13_truth 39 = .ok (.getfield 629, 3) := by decide +kernel
theorem dX13_truth_42 : decode cX13_truth 42 = .ok (.iconst 1, 1) := by decide +kernel
theorem dX13_truth_43 : decode cX13_truth 43 = .ok (.isub, 1) := by decide +kernel
theorem dX13_truth_44 : decode cX13_truth 44 = .ok (.putfield 629, 3) := by decide +kernel
theorem dX13_truth_47 : decode cX13_truth 47 = .ok (.aload_n 0, 1) := by decide +kernel
theorem dX13_truth_48 : decode cX13_truth 48 = .ok (.sipush 167, 3) := by decide +kernel
theorem dX13_truth_51 : decode cX13_truth 51 = .ok (.iload 4, 2) := by decide +kernel
theorem dX13_truth_53 : decode cX13_truth 53 = .ok (.invokevirtual 679, 3) := by decide +kernel
theorem dX13_truth_56 : decode cX13_truth 56 = .ok (.aload_n 0, 1) := by decide +kernel
theorem dX13_truth_57 : decode cX13_truth 57 = .ok (.iload_n 3, 1) := by decide +kernel
theorem dX13_truth_58 : decode cX13_truth 58 = .ok (.aload_n 0, 1) := by decide +kernel
theorem dX13_truth_59 : decode cX13_truth 59 = .ok (.getfield 627, 3) := by decide +kernel
theorem dX13_truth_62 : decode cX13_truth 62 = .ok (.invokevirtual 682, 3) := by decide +kernel
theorem dX13_truth_65 : decode cX13_truth 65 = .ok (.aload_n 0, 1) := by decide +kernel
theorem dX13_truth_66 : decode cX13_truth 66 = .ok (.iconst 4, 1) := by decide +kernel
theorem dX13_truth_67 : decode cX13_truth 67 = .ok (.invokevirtual 646, 3) := by decide +kernel
theorem dX13_truth_70 : decode cX13_truth 70 = .ok (.aload_n 0, 1) := by decide +kernel
theorem dX13_truth_71 : decode cX13_truth 71 = .ok (.iconst 1, 1) := by decide +kernel
theorem dX13_truth_72 : decode cX13_truth 72 = .ok (.invokevirtual 640, 3) := by decide +kernel
theorem dX13_truth_75 : decode cX13_truth 75 = .ok (.aload_n 0, 1) := by decide +kernel
theorem dX13_truth_76 : decode cX13_truth 76 = .ok (.iload 4, 2) := by decide +kernel
theorem dX13_truth_78 : decode cX13_truth 78 = .ok (.aload_n 0, 1) := by decide +kernel
theorem dX13_truth_79 : decode cX13_truth 79 = .ok (.getfield 627, 3) := by decide +kernel
theorem dX13_truth_82 : decode cX13_truth 82 = .ok (.invokevirtual 682, 3) := by decide +kernel
theorem dX13_truth_85 : decode cX13_truth 85 = .ok (.return_, 1) := by decide +kernel
theorem dX13_tellType_0 : decode cX13_tellType 0 = .ok (.aload_n 0, 1) := by decide +kernel
theorem dX13_tellType_1 : decode cX13_tellType 1 = .ok (.iload_n 1, 1) := by decide +kernel
theorem dX13_tellType_2 : decode cX13_tellType 2 = .ok (.iconst 1, 1) := by decide +kernel
theorem dX13_tellType_3 : decode cX13_tellType 3 = .ok (.if_icmp .gt 7, 3) := by decide +kernel
theorem dX13_tellType_6 : decode cX13_tellType 6 = .ok (.iconst 1, 1) := by decide +kernel
theorem dX13_tellType_7 : decode cX13_tellType 7 = .ok (.goto 13, 3) := by decide +kernel
theorem dX13_tellType_10 : decode cX13_tellType 10 = .ok (.iload_n 1, 1) := by decide +kernel
theorem dX13_tellType_11 : decode cX13_tellType 11 = .ok (.iconst 2, 1) := by decide +kernel
theorem dX13_tellType_12 : decode cX13_tellType 12 = .ok (.if_icmp .ne 7, 3) := by decide +kernel
theorem dX13_tellType_15 : decode cX13_tellType 15 = .ok (.iconst 2, 1) := by decide +kernel
theorem dX13_tellType_16 : decode cX13_tellType 16 = .ok (.goto 4, 3) := by decide +kernel
theorem dX13_tellType_19 : decode cX13_tellType 19 = .ok (.iconst 3, 1) := by decide +kernel
theorem dX13_tellType_20 : decode cX13_tellType 20 = .ok (.invokevirtual 731, 3) := by decide +kernel
theorem dX13_tellType_23 : decode cX13_tellType 23 = .ok (.iload_n 1, 1) := by decide +kernel
theorem dX13_tellType_24 : decode cX13_tellType 24 = .ok (.iconst 2, 1) := by decide +kernel
theorem dX13_tellType_25 : decode cX13_tellType 25 = .ok (.if_icmp .le 12, 3) := by decide +kernel
theorem dX13_tellType_28 : decode cX13_tellType 28 = .ok (.aload_n 0, 1) := by decide +kernel
theorem dX13_tellType_29 : decode cX13_tellType 29 = .ok (.aload_n 0, 1) := by decide +kernel
theorem dX13_tellType_30 : decode cX13_tellType 30 = .ok (.iload_n 1, 1) := by decide +kernel
theorem dX13_tellType_31 : decode cX13_tellType 31 = .ok (.invokevirtual 618, 3) := by decide +kernel
theorem dX13_tellType_34 : decode cX13_tellType 34 = .ok (.invokevirtual 731, 3) := by decide +kernel
theorem dX13_tellType_37 : decode cX13_tellType 37 = .ok (.return_, 1) := by decide +kernel
theorem dX13_writeConstant_0 : decode cX13_writeConstant 0 = .ok (.iload_n 2, 1) := by decide +kernel
theorem dX13_writeConstant_1 : decode cX13_writeConstant 1 = .ok (.istore_n 3, 1) := by decide +kernel
theorem dX13_writeConstant_2 : decode cX13_writeConstant 2 = .ok (.aload_n 0, 1) := by decide +kernel
theorem dX13_writeConstant_3 : decode cX13_writeConstant 3 = .ok (.getfield 200, 3) := by decide +kernel
theorem dX13_writeConstant_6 : decode cX13_writeConstant 6 = .ok (.iload_n 3, 1) := by decide +kernel
theorem dX13_writeConstant_7 : decode cX13_writeConstant 7 = .ok (.aload_n 0, 1) := by decide +kernel
theorem dX13_writeConstant_8 : decode cX13_writeConstant 8 = .ok (.getfield 128, 3) := by decide +kernel
theorem dX13_writeConstant_11 : decode cX13_writeConstant 11 = .ok (.iload_n 1, 1) := by decide +kernel
theorem dX13_writeConstant_12 : decode cX13_writeConstant 12 = .ok (.iaload, 1) := by decide +kernel
theorem dX13_writeConstant_13 : decode cX13_writeConstant 13 = .ok (.iastore, 1) := by decide +kernel
theorem dX13_writeConstant_14 : decode cX13_writeConstant 14 = .ok (.iinc 3 1, 3) := by decide +kernel
theorem dX13_writeConstant_17 : decode cX13_writeConstant 17 = .ok (.aload_n 0, 1) := by decide +kernel
theorem dX13_writeConstant_18 : decode cX13_writeConstant 18 = .ok (.getfield 128, 3) := by decide +kernel
theorem dX13_writeConstant_21 : decode cX13_writeConstant 21 = .ok (.iload_n 1, 1) := by decide +kernel
theorem dX13_writeConstant_22 : decode cX13_writeConstant 22 = .ok (.iaload, 1) := by decide +kernel
theorem dX13_writeConstant_23 : decode cX13_writeConstant 23 = .ok (.tableswitch 156 1 3 #[25, 93, 140], 25) := by decide +kernel
theorem dX13_writeConstant_48 : decode cX13_writeConstant 48 = .ok (.aload_n 0, 1) := by decide +kernel
theorem dX13_writeConstant_49 : decode cX13_writeConstant 49 = .ok (.getfield 200, 3) := by decide +kernel
theorem dX13_writeConstant_52 : decode cX13_writeConstant 52 = .ok (.iload_n 3, 1) := by decide +kernel
theorem dX13_writeConstant_53 : decode cX13_writeConstant 53 = .ok (.aload_n 0, 1) := by decide +kernel
theorem dX13_writeConstant_54 : decode cX13_writeConstant 54 = .ok (.getfield 134, 3) := by decide +kernel
theorem dX13_writeConstant_57 : decode cX13_writeConstant 57 = .ok (.iload_n 1, 1) := by decide +kernel
theorem dX13_writeConstant_58 : decode cX13_writeConstant 58 = .ok (.iaload, 1) := by decide +kernel
theorem dX13_writeConstant_59 : decode cX13_writeConstant 59 = .ok (.iastore, 1) := by decide +kernel
theorem dX13_writeConstant_60 : decode cX13_writeConstant 60 = .ok (.iconst 0, 1) := by decide +kernel
theorem dX13_writeConstant_61 : decode cX13_writeConstant 61 = .ok (.istore 4, 2) := by decide +kernel
theorem dX13_writeConstant_63 : decode cX13_writeConstant 63 = .ok (.iload 4, 2) := by decide +kernel
theorem dX13_writeConstant_65 : decode cX13_writeConstant 65 = .ok (.aload_n 0, 1) := by decide +kernel
theorem dX13_writeConstant_66 : decode cX13_writeConstant 66 = .ok (.getfield 134, 3) := by decide +kernel
theorem dX13_writeConstant_69 : decode cX13_writeConstant 69 = .ok (.iload_n 1, 1) := by decide +kernel
theorem dX13_writeConstant_70 : decode cX13_writeConstant 70 = .ok (.iaload, 1) := by decide +kernel
theorem dX13_writeConstant_71 : decode cX13_writeConstant 71 = .ok (.if_icmp .ge 34, 3) := by decide +kernel
theorem dX13_writeConstant_74 : decode cX13_writeConstant 74 = .ok (.aload_n 0, 1) := by decide +kernel
theorem dX13_writeConstant_75 : decode cX13_writeConstant 75 = .ok (.getfield 200, 3) := by decide +kernel
theorem dX13_writeConstant_78 : decode cX13_writeConstant 78 = .ok (.iload_n 3, 1) := by decide +kernel
theorem dX13_writeConstant_79 : decode cX13_writeConstant 79 = .ok (.iconst 1, 1) := by decide +kernel
theorem dX13_writeConstant_80 : decode cX13_writeConstant 80 = .ok (.iadd, 1) := by decide +kernel
theorem dX13_writeConstant_81 : decode cX13_writeConstant 81 = .ok (.iload 4, 2) := by decide +kernel
theorem dX13_writeConstant_83 : decode cX13_writeConstant 83 = .ok (.iadd, 1) := by decide +kernel
theorem dX13_writeConstant_84 : decode cX13_writeConstant 84 = .ok (.aload_n 0, 1) := by decide +kernel
theorem dX13_writeConstant_85 : decode cX13_writeConstant 85 = .ok (.getfield 141, 3) := by decide +kernel
theorem dX13_writeConstant_88 : decode cX13_writeConstant 88 = .ok (.aload_n 0, 1) := by decide +kernel
theorem dX13_writeConstant_89 : decode cX13_writeConstant 89 = .ok (.getfield 131, 3) := by decide +kernel
theorem dX13_writeConstant_92 : decode cX13_writeConstant 92 = .ok (.iload_n 1, 1) := by decide +kernel
theorem dX13_writeConstant_93 : decode cX13_writeConstant 93 = .ok (.iaload, 1) := by decide +kernel
theorem dX13_writeConstant_94 : decode cX13_writeConstant 94 = .ok (.iload 4, 2) := by decide +kernel
theorem dX13_writeConstant_96 : decode cX13_writeConstant 96 = .ok (.iadd, 1) := by decide +kernel
theorem dX13_writeConstant_97 : decode cX13_writeConstant 97 = .ok (.iaload, 1) := by decide +kernel
theorem dX13_writeConstant_98 : decode cX13_writeConstant 98 = .ok (.iastore, 1) := by decide +kernel
theorem dX13_writeConstant_99 : decode cX13_writeConstant 99 = .ok (.iinc 4 1, 3) := by decide +kernel
theorem dX13_writeConstant_102 : decode cX13_writeConstant 102 = .ok (.goto (-39), 3) := by decide +kernel
theorem dX13_writeConstant_105 : decode cX13_writeConstant 105 = .ok (.iload_n 3, 1) := by decide +kernel
theorem dX13_writeConstant_106 : decode cX13_writeConstant 106 = .ok (.iconst 1, 1) := by decide +kernel
theorem dX13_writeConstant_107 : decode cX13_writeConstant 107 = .ok (.iadd, 1) := by decide +kernel
theorem dX13_writeConstant_108 : decode cX13_writeConstant 108 = .ok (.aload_n 0, 1) := by decide +kernel
theorem dX13_writeConstant_109 : decode cX13_writeConstant 109 = .ok (.getfield 134, 3) := by decide +kernel
theorem dX13_writeConstant_112 : decode cX13_writeConstant 112 = .ok (.iload_n 1, 1) := by decide +kernel
theorem dX13_writeConstant_113 : decode cX13_writeConstant 113 = .ok (.iaload, 1) := by decide +kernel
theorem dX13_writeConstant_114 : decode cX13_writeConstant 114 = .ok (.iadd, 1) := by decide +kernel
theorem dX13_writeConstant_115 : decode cX13_writeConstant 115 = .ok (.ireturn, 1) := by decide +kernel
theorem dX13_writeConstant_116 : decode cX13_writeConstant 116 = .ok (.iconst 0, 1) := by decide +kernel
theorem dX13_writeConstant_117 : decode cX13_writeConstant 117 = .ok (.istore 4, 2) := by decide +kernel
theorem dX13_writeConstant_119 : decode cX13_writeConstant 119 = .ok (.iload 4, 2) := by decide +kernel
theorem dX13_writeConstant_121 : decode cX13_writeConstant 121 = .ok (.iconst 4, 1) := by decide +kernel
theorem dX13_writeConstant_122 : decode cX13_writeConstant 122 = .ok (.if_icmp .ge 37, 3) := by decide +kernel
theorem dX13_writeConstant_125 : decode cX13_writeConstant 125 = .ok (.aload_n 0, 1) := by decide +kernel
theorem dX13_writeConstant_126 : decode cX13_writeConstant 126 = .ok (.getfield 200, 3) := by decide +kernel
theorem dX13_writeConstant_129 : decode cX13_writeConstant 129 = .ok (.iload_n 3, 1) := by decide +kernel
theorem dX13_writeConstant_130 : decode cX13_writeConstant 130 = .ok (.iload 4, 2) := by decide +kernel
theorem dX13_writeConstant_132 : decode cX13_writeConstant 132 = .ok (.iadd, 1) := by decide +kernel
theorem dX13_writeConstant_133 : decode cX13_writeConstant 133 = .ok (.aload_n 0, 1) := by decide +kernel
theorem dX13_writeConstant_134 : decode cX13_writeConstant 134 = .ok (.getfield 131, 3) := by decide +kernel
theorem dX13_writeConstant_137 : decode cX13_writeConstant 137 = .ok (.iload_n 1, 1) := by decide +kernel
theorem dX13_writeConstant_138 : decode cX13_writeConstant 138 = .ok (.iaload, 1) := by decide +kernel
theorem dX13_writeConstant_139 : decode cX13_writeConstant 139 = .ok (.bipush 24, 2) := by decide +kernel
theorem dX13_writeConstant_141 : decode cX13_writeConstant 141 = .ok (.bipush 8, 2) := by decide +kernel
theorem dX13_writeConstant_143 : decode cX13_writeConstant 143 = .ok (.iload 4, 2) := by decide +kernel
theorem dX13_writeConstant_145 : decode cX13_writeConstant 145 = .ok (.imul, 1) := by decide +kernel
theorem dX13_writeConstant_146 : decode cX13_writeConstant 146 = .ok (.isub, 1) := by decide +kernel
theorem dX13_writeConstant_147 : decode cX13_writeConstant 147 = .ok (.ishr, 1) := by decide +kernel
theorem dX13_writeConstant_148 : decode cX13_writeConstant 148 = .ok (.sipush 255, 3) := by decide +kernel
theorem dX13_writeConstant_151 : decode cX13_writeConstant 151 = .ok (.iand, 1) := by decide +kernel
theorem dX13_writeConstant_152 : decode cX13_writeConstant 152 = .ok (.iastore, 1) := by decide +kernel
theorem dX13_writeConstant_153 : decode cX13_writeConstant 153 = .ok (.iinc 4 1, 3) := by decide +kernel
theorem dX13_writeConstant_156 : decode cX13_writeConstant 156 = .ok (.goto (-37), 3) := by decide +kernel
theorem dX13_writeConstant_159 : decode cX13_writeConstant 159 = .ok (.iload_n 3, 1) := by decide +kernel
theorem dX13_writeConstant_160 : decode cX13_writeConstant 160 = .ok (.iconst 4, 1) := by decide +kernel
theorem dX13_writeConstant_161 : decode cX13_writeConstant 161 = .ok (.iadd, 1) := by decide +kernel
theorem dX13_writeConstant_162 : decode cX13_writeConstant 162 = .ok (.ireturn, 1) := by decide +kernel
theorem dX13_writeConstant_163 : decode cX13_writeConstant 163 = .ok (.aload_n 0, 1) := by decide +kernel
theorem dX13_writeConstant_164 : decode cX13_writeConstant 164 = .ok (.getfield 200, 3) := by decide +kernel
theorem dX13_writeConstant_167 : decode cX13_writeConstant 167 = .ok (.iload_n 3, 1) := by decide +kernel
theorem dX13_writeConstant_168 : decode cX13_writeConstant 168 = .ok (.aload_n 0, 1) := by decide +kernel
theorem dX13_writeConstant_169 : decode cX13_writeConstant 169 = .ok (.getfield 131, 3) := by decide +kernel
theorem dX13_writeConstant_172 : decode cX13_writeConstant 172 = .ok (.iload_n 1, 1) := by decide +kernel
theorem dX13_writeConstant_173 : decode cX13_writeConstant 173 = .ok (.iaload, 1) := by decide +kernel
theorem dX13_writeConstant_174 : decode cX13_writeConstant 174 = .ok (.iastore, 1) := by decide +kernel
theorem dX13_writeConstant_175 : decode cX13_writeConstant 175 = .ok (.iload_n 3, 1) := by decide +kernel
theorem dX13_writeConstant_176 : decode cX13_writeConstant 176 = .ok (.iconst 1, 1) := by decide +kernel
theorem dX13_writeConstant_177 : decode cX13_writeConstant 177 = .ok (.iadd, 1) := by decide +kernel
theorem dX13_writeConstant_178 : decode cX13_writeConstant 178 = .ok (.ireturn, 1) := by decide +kernel
theorem dX13_writeConstant_179 : decode cX13_writeConstant 179 = .ok (.aload_n 0, 1) := by decide +kernel
theorem dX13_writeConstant_180 : decode cX13_writeConstant 180 = .ok (.getfield 200, 3) := by decide +kernel
theorem dX13_writeConstant_183 : decode cX13_writeConstant 183 = .ok (.iload_n 3, 1) := by decide +kernel
theorem dX13_writeConstant_184 : decode cX13_writeConstant 184 = .ok (.aload_n 0, 1) := by decide +kernel
theorem dX13_writeConstant_185 : decode cX13_writeConstant 185 = .ok (.getfield 131, 3) := by decide +kernel
theorem dX13_writeConstant_188 : decode cX13_writeConstant 188 = .ok (.iload_n 1, 1) := by decide +kernel
theorem dX13_writeConstant_189 : decode cX13_writeConstant 189 = .ok (.iaload, 1) := by decide +kernel
theorem dX13_writeConstant_190 : decode cX13_writeConstant 190 = .ok (.iastore, 1) := by decide +kernel
theorem dX13_writeConstant_191 : decode cX13_writeConstant 191 = .ok (.aload_n 0, 1) := by decide +kernel
theorem dX13_writeConstant_192 : decode cX13_writeConstant 192 = .ok (.getfield 200, 3) := by decide +kernel
theorem dX13_writeConstant_195 : decode cX13_writeConstant 195 = .ok (.iload_n 3, 1) := by decide +kernel
theorem dX13_writeConstant_196 : decode cX13_writeConstant 196 = .ok (.iconst 1, 1) := by decide +kernel
theorem dX13_writeConstant_197 : decode cX13_writeConstant 197 = .ok (.iadd, 1) := by decide +kernel
theorem dX13_writeConstant_198 : decode cX13_writeConstant 198 = .ok (.aload_n 0, 1) := by decide +kernel
theorem dX13_writeConstant_199 : decode cX13_writeConstant 199 = .ok (.getfield 134, 3) := by decide +kernel
theorem dX13_writeConstant_202 : decode cX13_writeConstant 202 = .ok (.iload_n 1, 1) := by decide +kernel
theorem dX13_writeConstant_203 : decode cX13_writeConstant 203 = .ok (.iaload, 1) := by decide +kernel
theorem dX13_writeConstant_204 : decode cX13_writeConstant 204 = .ok (.iastore, 1) := by decide +kernel
theorem dX13_writeConstant_205 : decode cX13_writeConstant 205 = .ok (.aload_n 0, 1) := by decide +kernel
theorem dX13_writeConstant_206 : decode cX13_writeConstant 206 = .ok (.getfield 200, 3) := by decide +kernel
theorem dX13_writeConstant_209 : decode cX13_writeConstant 209 = .ok (.iload_n 3, 1) := by decide +kernel
theorem dX13_writeConstant_210 : decode cX13_writeConstant 210 = .ok (.iconst 2, 1) := by decide +kernel
theorem dX13_writeConstant_211 : decode cX13_writeConstant 211 = .ok (.iadd, 1) := by decide +kernel
theorem dX13_writeConstant_212 : decode cX13_writeConstant 212 = .ok (.aload_n 0, 1) := by decide +kernel
theorem dX13_writeConstant_213 : decode cX13_writeConstant 213 = .ok (.getfield 137, 3) := by decide +kernel
theorem dX13_writeConstant_216 : decode cX13_writeConstant 216 = .ok (.iload_n 1, 1) := by decide +kernel
theorem dX13_writeConstant_217 : decode cX13_writeConstant 217 = .ok (.iaload, 1) := by decide +kernel
theorem dX13_writeConstant_218 : decode cX13_writeConstant 218 = .ok (.iastore, 1) := by decide +kernel
theorem dX13_writeConstant_219 : decode cX13_writeConstant 219 = .ok (.iload_n 3, 1) := by decide +kernel
theorem dX13_writeConstant_220 : decode cX13_writeConstant 220 = .ok (.iconst 3, 1) := by decide +kernel
theorem dX13_writeConstant_221 : decode cX13_writeConstant 221 = .ok (.iadd, 1) := by decide +kernel
theorem dX13_writeConstant_222 : decode cX13_writeConstant 222 = .ok (.ireturn, 1) := by decide +kernel
theorem dX13_isName_0 : decode cX13_isName 0 = .ok (.iload_n 2, 1) := by decide +kernel
theorem dX13_isName_1 : decode cX13_isName 1 = .ok (.iconst 1, 1) := by decide +kernel
theorem dX13_isName_2 : decode cX13_isName 2 = .ok (.if_icmp .lt 13, 3) := by decide +kernel
theorem dX13_isName_5 : decode cX13_isName 5 = .ok (.iload_n 2, 1) := by decide +kernel
theorem dX13_isName_6 : decode cX13_isName 6 = .ok (.bipush 12, 2) := by decide +kernel
theorem dX13_isName_8 : decode cX13_isName 8 = .ok (.if_icmp .gt 7, 3) := by decide +kernel
theorem dX13_isName_11 : decode cX13_isName 11 = .ok (.iconst 1, 1) := by decide +kernel
theorem dX13_isName_12 : decode cX13_isName 12 = .ok (.goto 4, 3) := by decide +kernel
theorem dX13_isName_15 : decode cX13_isName 15 = .ok (.iconst 0, 1) := by decide +kernel
theorem dX13_isName_16 : decode cX13_isName 16 = .ok (.istore_n 3, 1) := by decide +kernel
theorem dX13_isName_17 : decode cX13_isName 17 = .ok (.iconst 0, 1) := by decide +kernel
theorem dX13_isName_18 : decode cX13_isName 18 = .ok (.istore 4, 2) := by decide +kernel
theorem dX13_isName_20 : decode cX13_isName 20 = .ok (.iload 4, 2) := by decide +kernel
theorem dX13_isName_22 : decode cX13_isName 22 = .ok (.iload_n 2, 1) := by decide +kernel
theorem dX13_isName_23 : decode cX13_isName 23 = .ok (.if_icmp .ge 33, 3) := by decide +kernel
theorem dX13_isName_26 : decode cX13_isName 26 = .ok (.iload_n 3, 1) := by decide +kernel
theorem dX13_isName_27 : decode cX13_isName 27 = .ok (.ifCond .eq 29, 3) := by decide +kernel
theorem dX13_isName_30 : decode cX13_isName 30 = .ok (.aload_n 0, 1) := by decide +kernel
theorem dX13_isName_31 : decode cX13_isName 31 = .ok (.iload_n 1, 1) := by decide +kernel
theorem dX13_isName_32 : decode cX13_isName 32 = .ok (.iload 4, 2) := by decide +kernel
theorem dX13_isName_34 : decode cX13_isName 34 = .ok (.iadd, 1) := by decide +kernel
theorem dX13_isName_35 : decode cX13_isName 35 = .ok (.iaload, 1) := by decide +kernel
theorem dX13_isName_36 : decode cX13_isName 36 = .ok (.iload 4, 2) := by decide +kernel
theorem dX13_isName_38 : decode cX13_isName 38 = .ok (.ifCond .ne 7, 3) := by decide +kernel
theorem dX13_isName_41 : decode cX13_isName 41 = .ok (.iconst 1, 1) := by decide +kernel
theorem dX13_isName_42 : decode cX13_isName 42 = .ok (.goto 4, 3) := by decide +kernel
theorem dX13_isName_45 : decode cX13_isName 45 = .ok (.iconst 0, 1) := by decide +kernel
theorem dX13_isName_46 : decode cX13_isName 46 = .ok (.invokestatic 770, 3) := by decide +kernel
theorem dX13_isName_49 : decode cX13_isName 49 = .ok (.istore_n 3, 1) := by decide +kernel
theorem dX13_isName_50 : decode cX13_isName 50 = .ok (.iinc 4 1, 3) := by decide +kernel
theorem dX13_isName_53 : decode cX13_isName 53 = .ok (.goto (-33), 3) := by decide +kernel
theorem dX13_isName_56 : decode cX13_isName 56 = .ok (.iload_n 3, 1) := by decide +kernel
theorem dX13_isName_57 : decode cX13_isName 57 = .ok (.ireturn, 1) := by decide +kernel
theorem dX13_kindBytes_0 : decode cX13_kindBytes 0 = .ok (.iload_n 1, 1) := by decide +kernel
theorem dX13_kindBytes_1 : decode cX13_kindBytes 1 = .ok (.istore_n 3, 1) := by decide +kernel
theorem dX13_kindBytes_2 : decode cX13_kindBytes 2 = .ok (.iload_n 3, 1) := by decide +kernel
theorem dX13_kindBytes_3 : decode cX13_kindBytes 3 = .ok (.iload_n 2, 1) := by decide +kernel
theorem dX13_kindBytes_4 : decode cX13_kindBytes 4 = .ok (.if_icmp .ge 13, 3) := by decide +kernel
theorem dX13_kindBytes_7 : decode cX13_kindBytes 7 = .ok (.aload_n 0, 1) := by decide +kernel
theorem dX13_kindBytes_8 : decode cX13_kindBytes 8 = .ok (.iload_n 3, 1) := by decide +kernel
theorem dX13_kindBytes_9 : decode cX13_kindBytes 9 = .ok (.iaload, 1) := by decide +kernel
theorem dX13_kindBytes_10 : decode cX13_kindBytes 10 = .ok (.bipush 90, 2) := by decide +kernel
theorem dX13_kindBytes_12 : decode cX13_kindBytes 12 = .ok (.if_icmp .ne 5, 3) := by decide +kernel
theorem dX13_kindBytes_15 : decode cX13_kindBytes 15 = .ok (.iconst 1, 1) := by decide +kernel
theorem dX13_kindBytes_16 : decode cX13_kindBytes 16 = .ok (.ireturn, 1) := by decide +kernel
theorem dX13_kindBytes_17 : decode cX13_kindBytes 17 = .ok (.iload_n 3, 1) := by decide +kernel
theorem dX13_kindBytes_18 : decode cX13_kindBytes 18 = .ok (.iload_n 2, 1) := by decide +kernel
theorem dX13_kindBytes_19 : decode cX13_kindBytes 19 = .ok (.if_icmp .ge 14, 3) := by decide +kernel
theorem dX13_kindBytes_22 : decode cX13_kindBytes 22 = .ok (.aload_n 0, 1) := by decide +kernel
theorem dX13_kindBytes_23 : decode cX13_kindBytes 23 = .ok (.iload_n 3, 1) := by decide +kernel
theorem dX13_kindBytes_24 : decode cX13_kindBytes 24 = .ok (.iaload, 1) := by decide +kernel
theorem dX13_kindBytes_25 : decode cX13_kindBytes 25 = .ok (.bipush 91, 2) := by decide +kernel
theorem dX13_kindBytes_27 : decode cX13_kindBytes 27 = .ok (.if_icmp .ne 6, 3) := by decide +kernel
theorem dX13_kindBytes_30 : decode cX13_kindBytes 30 = .ok (.iinc 3 1, 3) := by decide +kernel
theorem dX13_kindBytes_33 : decode cX13_kindBytes 33 = .ok (.iload_n 3, 1) := by decide +kernel
theorem dX13_kindBytes_34 : decode cX13_kindBytes 34 = .ok (.iload_n 2, 1) := by decide +kernel
theorem dX13_kindBytes_35 : decode cX13_kindBytes 35 = .ok (.if_icmp .ge 17, 3) := by decide +kernel
theorem dX13_kindBytes_38 : decode cX13_kindBytes 38 = .ok (.aload_n 0, 1) := by decide +kernel
theorem dX13_kindBytes_39 : decode cX13_kindBytes 39 = .ok (.iload_n 3, 1) := by decide +kernel
theorem dX13_kindBytes_40 : decode cX13_kindBytes 40 = .ok (.iaload, 1) := by decide +kernel
theorem dX13_kindBytes_41 : decode cX13_kindBytes 41 = .ok (.bipush 73, 2) := by decide +kernel
theorem dX13_kindBytes_43 : decode cX13_kindBytes 43 = .ok (.if_icmp .ne 9, 3) := by decide +kernel
theorem dX13_kindBytes_46 : decode cX13_kindBytes 46 = .ok (.iload_n 3, 1) := by decide +kernel
theorem dX13_kindBytes_47 : decode cX13_kindBytes 47 = .ok (.iconst 1, 1) := by decide +kernel
theorem dX13_kindBytes_48 : decode cX13_kindBytes 48 = .ok (.iadd, 1) := by decide +kernel
theorem dX13_kindBytes_49 : decode cX13_kindBytes 49 = .ok (.iload_n 1, 1) := by decide +kernel
theorem dX13_kindBytes_50 : decode cX13_kindBytes 50 = .ok (.isub, 1) := by decide +kernel
theorem dX13_kindBytes_51 : decode cX13_kindBytes 51 = .ok (.ireturn, 1) := by decide +kernel
theorem dX13_kindBytes_52 : decode cX13_kindBytes 52 = .ok (.iload_n 3, 1) := by decide +kernel
theorem dX13_kindBytes_53 : decode cX13_kindBytes 53 = .ok (.iload_n 2, 1) := by decide +kernel
theorem dX13_kindBytes_54 : decode cX13_kindBytes 54 = .ok (.if_icmp .ge 11, 3) := by decide +kernel
theorem dX13_kindBytes_57 : decode cX13_kindBytes 57 = .ok (.aload_n 0, 1) := by decide +kernel
theorem dX13_kindBytes_58 : decode cX13_kindBytes 58 = .ok (.iload_n 3, 1) := by decide +kernel
theorem dX13_kindBytes_59 : decode cX13_kindBytes 59 = .ok (.iaload, 1) := by decide +kernel
theorem dX13_kindBytes_60 : decode cX13_kindBytes 60 = .ok (.bipush 76, 2) := by decide +kernel
theorem dX13_kindBytes_62 : decode cX13_kindBytes 62 = .ok (.if_icmp .eq 5, 3) := by decide +kernel
theorem dX13_kindBytes_65 : decode cX13_kindBytes 65 = .ok (.iconst 0, 1) := by decide +kernel
theorem dX13_kindBytes_66 : decode cX13_kindBytes 66 = .ok (.ireturn, 1) := by decide +kernel
theorem dX13_kindBytes_67 : decode cX13_kindBytes 67 = .ok (.iload_n 3, 1) := by decide +kernel
theorem dX13_kindBytes_68 : decode cX13_kindBytes 68 = .ok (.iconst 1, 1) := by decide +kernel
theorem dX13_kindBytes_69 : decode cX13_kindBytes 69 = .ok (.iadd, 1) := by decide +kernel
theorem dX13_kindBytes_70 : decode cX13_kindBytes 70 = .ok (.istore 4, 2) := by decide +kernel
theorem dX13_kindBytes_72 : decode cX13_kindBytes 72 = .ok (.iload 4, 2) := by decide +kernel
theorem dX13_kindBytes_74 : decode cX13_kindBytes 74 = .ok (.iload_n 2, 1) := by decide +kernel
theorem dX13_kindBytes_75 : decode cX13_kindBytes 75 = .ok (.if_icmp .ge 18, 3) := by decide +kernel
theorem dX13_kindBytes_78 : decode cX13_kindBytes 78 = .ok (.aload_n 0, 1) := by decide +kernel
theorem dX13_kindBytes_79 : decode cX13_kindBytes 79 = .ok (.iload 4, 2) := by decide +kernel
theorem dX13_kindBytes_81 : decode cX13_kindBytes 81 = .ok (.iaload, 1) := by decide +kernel
theorem dX13_kindBytes_82 : decode cX13_kindBytes 82 = .ok (.bipush 59, 2) := by decide +kernel
theorem dX13_kindBytes_84 : decode cX13_kindBytes 84 = .ok (.if_icmp .eq 9, 3) := by decide +kernel
theorem dX13_kindBytes_87 : decode cX13_kindBytes 87 = .ok (.iinc 4 1, 3) := by decide +kernel
theorem dX13_kindBytes_90 : decode cX13_kindBytes 90 = .ok (.goto (-18), 3) := by decide +kernel
theorem dX13_kindBytes_93 : decode cX13_kindBytes 93 = .ok (.iload 4, 2) := by decide +kernel
theorem dX13_kindBytes_95 : decode cX13_kindBytes 95 = .ok (.iload_n 2, 1) := by decide +kernel
theorem dX13_kindBytes_96 : decode cX13_kindBytes 96 = .ok (.if_icmp .ge 28, 3) := by decide +kernel
theorem dX13_kindBytes_99 : decode cX13_kindBytes 99 = .ok (.aload_n 0, 1) := by decide +kernel
theorem dX13_kindBytes_100 : decode cX13_kindBytes 100 = .ok (.iload_n 3, 1) := by decide +kernel
theorem dX13_kindBytes_101 : decode cX13_kindBytes 101 = .ok (.iconst 1, 1) := by decide +kernel
theorem dX13_kindBytes_102 : decode cX13_kindBytes 102 = .ok (.iadd, 1) := by decide +kernel
theorem dX13_kindBytes_103 : decode cX13_kindBytes 103 = .ok (.iload 4, 2) := by decide +kernel
theorem dX13_kindBytes_105 : decode cX13_kindBytes 105 = .ok (.iload_n 3, 1) := by decide +kernel
theorem dX13_kindBytes_106 : decode cX13_kindBytes 106 = .ok (.isub, 1) := by decide +kernel
theorem dX13_kindBytes_107 : decode cX13_kindBytes 107 = .ok (.iconst 1, 1) := by decide +kernel
theorem dX13_kindBytes_108 : decode cX13_kindBytes 108 = .ok (.isub, 1) := by decide +kernel
theorem dX13_kindBytes_109 : decode cX13_kindBytes 109 = .ok (.invokestatic 774, 3) := by decide +kernel
theorem dX13_kindBytes_112 : decode cX13_kindBytes 112 = .ok (.ifCond .eq 12, 3) := by decide +kernel
theorem dX13_kindBytes_115 : decode cX13_kindBytes 115 = .ok (.iload 4, 2) := by decide +kernel
theorem dX13_kindBytes_117 : decode cX13_kindBytes 117 = .ok (.iconst 1, 1) := by decide +kernel
theorem dX13_kindBytes_118 : decode cX13_kindBytes 118 = .ok (.iadd, 1) := by decide +kernel
theorem dX13_kindBytes_119 : decode cX13_kindBytes 119 = .ok (.iload_n 1, 1) := by decide +kernel
theorem dX13_kindBytes_120 : decode cX13_kindBytes 120 = .ok (.isub, 1) := by decide +kernel
theorem dX13_kindBytes_121 : decode cX13_kindBytes 121 = .ok (.goto 4, 3) := by decide +kernel
theorem dX13_kindBytes_124 : decode cX13_kindBytes 124 = .ok (.iconst 0, 1) := by decide +kernel
theorem dX13_kindBytes_125 : decode cX13_kindBytes 125 = .ok (.ireturn, 1) := by decide +kernel
theorem dX13_isFieldKind_0 : decode cX13_isFieldKind 0 = .ok (.iload_n 2, 1) := by decide +kernel
theorem dX13_isFieldKind_1 : decode cX13_isFieldKind 1 = .ok (.ifCond .le 19, 3) := by decide +kernel
theorem dX13_isFieldKind_4 : decode cX13_isFieldKind 4 = .ok (.aload_n 0, 1) := by decide +kernel
theorem dX13_isFieldKind_5 : decode cX13_isFieldKind 5 = .ok (.iload_n 1, 1) := by decide +kernel
theorem dX13_isFieldKind_6 : decode cX13_isFieldKind 6 = .ok (.iload_n 1, 1) := by decide +kernel
theorem dX13_isFieldKind_7 : decode cX13_isFieldKind 7 = .ok (.iload_n 2, 1) := by decide +kernel
theorem dX13_isFieldKind_8 : decode cX13_isFieldKind 8 = .ok (.iadd, 1) := by decide +kernel
theorem dX13_isFieldKind_9 : decode cX13_isFieldKind 9 = .ok (.invokestatic 778, 3) := by decide +kernel
theorem dX13_isFieldKind_12 : decode cX13_isFieldKind 12 = .ok (.iload_n 2, 1) := by decide +kernel
theorem dX13_isFieldKind_13 : decode cX13_isFieldKind 13 = .ok (.if_icmp .ne 7, 3) := by decide +kernel
theorem dX13_isFieldKind_16 : decode cX13_isFieldKind 16 = .ok (.iconst 1, 1) := by decide +kernel
theorem dX13_isFieldKind_17 : decode cX13_isFieldKind 17 = .ok (.goto 4, 3) := by decide +kernel
theorem dX13_isFieldKind_20 : decode cX13_isFieldKind 20 = .ok (.iconst 0, 1) := by decide +kernel
theorem dX13_isFieldKind_21 : decode cX13_isFieldKind 21 = .ok (.ireturn, 1) := by decide +kernel
theorem dX13_parametersIn_0 : decode cX13_parametersIn 0 = .ok (.iload_n 1, 1) := by decide +kernel
theorem dX13_parametersIn_1 : decode cX13_parametersIn 1 = .ok (.iload_n 2, 1) := by decide +kernel
theorem dX13_parametersIn_2 : decode cX13_parametersIn 2 = .ok (.iadd, 1) := by decide +kernel
theorem dX13_parametersIn_3 : decode cX13_parametersIn 3 = .ok (.istore_n 3, 1) := by decide +kernel
theorem dX13_parametersIn_4 : decode cX13_parametersIn 4 = .ok (.iload_n 2, 1) := by decide +kernel
theorem dX13_parametersIn_5 : decode cX13_parametersIn 5 = .ok (.iconst 3, 1) := by decide +kernel
theorem dX13_parametersIn_6 : decode cX13_parametersIn 6 = .ok (.if_icmp .lt 11, 3) := by decide +kernel
theorem dX13_parametersIn_9 : decode cX13_parametersIn 9 = .ok (.aload_n 0, 1) := by decide +kernel
theorem dX13_parametersIn_10 : decode cX13_parametersIn 10 = .ok (.iload_n 1, 1) := by decide +kernel
theorem dX13_parametersIn_11 : decode cX13_parametersIn 11 = .ok (.iaload, 1) := by decide +kernel
theorem dX13_parametersIn_12 : decode cX13_parametersIn 12 = .ok (.bipush 40, 2) := by decide +kernel
theorem dX13_parametersIn_14 : decode cX13_parametersIn 14 = .ok (.if_icmp .eq 5, 3) := by decide +kernel
theorem dX13_parametersIn_17 : decode cX13_parametersIn 17 = .ok (.iconst (-1), 1) := by decide +kernel
theorem dX13_parametersIn_18 : decode cX13_parametersIn 18 = .ok (.ireturn, 1) := by decide +kernel
theorem dX13_parametersIn_19 : decode cX13_parametersIn 19 = .ok (.iload_n 1, 1) := by decide +kernel
theorem dX13_parametersIn_20 : decode cX13_parametersIn 20 = .ok (.iconst 1, 1) := by decide +kernel
theorem dX13_parametersIn_21 : decode cX13_parametersIn 21 = .ok (.iadd, 1) := by decide +kernel
theorem dX13_parametersIn_22 : decode cX13_parametersIn 22 = .ok (.istore 4, 2) := by decide +kernel
theorem dX13_parametersIn_24 : decode cX13_parametersIn 24 = .ok (.iconst 0, 1) := by decide +kernel
theorem dX13_parametersIn_25 : decode cX13_parametersIn 25 = .ok (.istore 5, 2) := by decide +kernel
theorem dX13_parametersIn_27 : decode cX13_parametersIn 27 = .ok (.iload 4, 2) := by decide +kernel
theorem dX13_parametersIn_29 : decode cX13_parametersIn 29 = .ok (.iload_n 3, 1) := by decide +kernel
theorem dX13_parametersIn_30 : decode cX13_parametersIn 30 = .ok (.if_icmp .ge 41, 3) := by decide +kernel
theorem dX13_parametersIn_33 : decode cX13_parametersIn 33 = .ok (.aload_n 0, 1) := by decide +kernel
theorem dX13_parametersIn_34 : decode cX13_parametersIn 34 = .ok (.iload 4, 2) := by decide +kernel
theorem dX13_parametersIn_36 : decode cX13_parametersIn 36 = .ok (.iaload, 1) := by decide +kernel
theorem dX13_parametersIn_37 : decode cX13_parametersIn 37 = .ok (.bipush 41, 2) := by decide +kernel
theorem dX13_parametersIn_39 : decode cX13_parametersIn 39 = .ok (.if_icmp .eq 32, 3) := by decide +kernel
theorem dX13_parametersIn_42 : decode cX13_parametersIn 42 = .ok (.aload_n 0, 1) := by decide +kernel
theorem dX13_parametersIn_43 : decode cX13_parametersIn 43 = .ok (.iload 4, 2) := by decide +kernel
theorem dX13_parametersIn_45 : decode cX13_parametersIn 45 = .ok (.iload_n 3, 1) := by decide +kernel
theorem dX13_parametersIn_46 : decode cX13_parametersIn 46 = .ok (.invokestatic 778, 3) := by decide +kernel
theorem dX13_parametersIn_49 : decode cX13_parametersIn 49 = .ok (.istore 6, 2) := by decide +kernel
theorem dX13_parametersIn_51 : decode cX13_parametersIn 51 = .ok (.iload 6, 2) := by decide +kernel
theorem dX13_parametersIn_53 : decode cX13_parametersIn 53 = .ok (.ifCond .ne 5, 3) := by decide +kernel
theorem dX13_parametersIn_56 : decode cX13_parametersIn 56 = .ok (.iconst (-1), 1) := by decide +kernel
theorem dX13_parametersIn_57 : decode cX13_parametersIn 57 = .ok (.ireturn, 1) := by decide +kernel
theorem dX13_parametersIn_58 : decode cX13_parametersIn 58 = .ok (.iload 4, 2) := by decide +kernel
theorem dX13_parametersIn_60 : decode cX13_parametersIn 60 = .ok (.iload 6, 2) := by decide +kernel
