theorem rs_RX13_830 : mx_res RX13 830 = some (1, 510, 1) := by decide +kernel
theorem mt_X13_isNamed : mx_mt 509 = some (yX13_isNamed, cX13_isNamed, 9, (some .boolean)) := rfl
theorem dX13_isNamed_0 : decode cX13_isNamed 0 = .ok (.iload_n 1, 1) := by decide +kernel
theorem dX13_isNamed_1 : decode cX13_isNamed 1 = .ok (.bipush 8, 2) := by decide +kernel
theorem dX13_isNamed_3 : decode cX13_isNamed 3 = .ok (.if_icmp .ge 152, 3) := by decide +kernel
theorem dX13_isNamed_6 : decode cX13_isNamed 6 = .ok (.iconst (-1), 1) := by decide +kernel
theorem dX13_isNamed_7 : decode cX13_isNamed 7 = .ok (.istore 5, 2) := by decide +kernel
theorem dX13_isNamed_9 : decode cX13_isNamed 9 = .ok (.iconst 0, 1) := by decide +kernel
theorem dX13_isNamed_10 : decode cX13_isNamed 10 = .ok (.istore 6, 2) := by decide +kernel
theorem dX13_isNamed_12 : decode cX13_isNamed 12 = .ok (.iload 6, 2) := by decide +kernel
theorem dX13_isNamed_14 : decode cX13_isNamed 14 = .ok (.iconst 1, 1) := by decide +kernel
theorem dX13_isNamed_15 : decode cX13_isNamed 15 = .ok (.iadd, 1) := by decide +kernel
theorem dX13_isNamed_16 : decode cX13_isNamed 16 = .ok (.ldc_w 477, 3) := by decide +kernel
theorem dX13_isNamed_19 : decode cX13_isNamed 19 = .ok (.invokevirtual 328, 3) := by decide +kernel
theorem dX13_isNamed_22 : decode cX13_isNamed 22 = .ok (.if_icmp .ge 131, 3) := by decide +kernel
theorem dX13_isNamed_25 : decode cX13_isNamed 25 = .ok (.ldc_w 477, 3) := by decide +kernel
theorem dX13_isNamed_28 : decode cX13_isNamed 28 = .ok (.iload 6, 2) := by decide +kernel
theorem dX13_isNamed_30 : decode cX13_isNamed 30 = .ok (.invokevirtual 334, 3) := by decide +kernel
theorem dX13_isNamed_33 : decode cX13_isNamed 33 = .ok (.bipush 32, 2) := by decide +kernel
theorem dX13_isNamed_35 : decode cX13_isNamed 35 = .ok (.if_icmp .eq 6, 3) := by decide +kernel
theorem dX13_isNamed_38 : decode cX13_isNamed 38 = .ok (.goto 109, 3) := by decide +kernel
theorem dX13_isNamed_41 : decode cX13_isNamed 41 = .ok (.iinc 5 1, 3) := by decide +kernel
theorem dX13_isNamed_44 : decode cX13_isNamed 44 = .ok (.iload 5, 2) := by decide +kernel
theorem dX13_isNamed_46 : decode cX13_isNamed 46 = .ok (.iload_n 1, 1) := by decide +kernel
theorem dX13_isNamed_47 : decode cX13_isNamed 47 = .ok (.if_icmp .eq 6, 3) := by decide +kernel
theorem dX13_isNamed_50 : decode cX13_isNamed 50 = .ok (.goto 97, 3) := by decide +kernel
theorem dX13_isNamed_53 : decode cX13_isNamed 53 = .ok (.iload 6, 2) := by decide +kernel
theorem dX13_isNamed_55 : decode cX13_isNamed 55 = .ok (.iload 4, 2) := by decide +kernel
theorem dX13_isNamed_57 : decode cX13_isNamed 57 = .ok (.iadd, 1) := by decide +kernel
theorem dX13_isNamed_58 : decode cX13_isNamed 58 = .ok (.iconst 1, 1) := by decide +kernel
theorem dX13_isNamed_59 : decode cX13_isNamed 59 = .ok (.iadd, 1) := by decide +kernel
theorem dX13_isNamed_60 : decode cX13_isNamed 60 = .ok (.ldc_w 477, 3) := by decide +kernel
theorem dX13_isNamed_63 : decode cX13_isNamed 63 = .ok (.invokevirtual 328, 3) := by decide +kernel
theorem dX13_isNamed_66 : decode cX13_isNamed 66 = .ok (.if_icmp .ge 25, 3) := by decide +kernel
theorem dX13_isNamed_69 : decode cX13_isNamed 69 = .ok (.ldc_w 477, 3) := by decide +kernel
theorem dX13_isNamed_72 : decode cX13_isNamed 72 = .ok (.iload 6, 2) := by decide +kernel
theorem dX13_isNamed_74 : decode cX13_isNamed 74 = .ok (.iload 4, 2) := by decide +kernel
theorem dX13_isNamed_76 : decode cX13_isNamed 76 = .ok (.iadd, 1) := by decide +kernel
theorem dX13_isNamed_77 : decode cX13_isNamed 77 = .ok (.iconst 1, 1) := by decide +kernel
theorem dX13_isNamed_78 : decode cX13_isNamed 78 = .ok (.iadd, 1) := by decide +kernel
theorem dX13_isNamed_79 : decode cX13_isNamed 79 = .ok (.invokevirtual 334, 3) := by decide +kernel
theorem dX13_isNamed_82 : decode cX13_isNamed 82 = .ok (.bipush 32, 2) := by decide +kernel
theorem dX13_isNamed_84 : decode cX13_isNamed 84 = .ok (.if_icmp .ne 7, 3) := by decide +kernel
theorem dX13_isNamed_87 : decode cX13_isNamed 87 = .ok (.iconst 1, 1) := by decide +kernel
theorem dX13_isNamed_88 : decode cX13_isNamed 88 = .ok (.goto 4, 3) := by decide +kernel
theorem dX13_isNamed_91 : decode cX13_isNamed 91 = .ok (.iconst 0, 1) := by decide +kernel
theorem dX13_isNamed_92 : decode cX13_isNamed 92 = .ok (.istore 7, 2) := by decide +kernel
theorem dX13_isNamed_94 : decode cX13_isNamed 94 = .ok (.iconst 0, 1) := by decide +kernel
theorem dX13_isNamed_95 : decode cX13_isNamed 95 = .ok (.istore 8, 2) := by decide +kernel
theorem dX13_isNamed_97 : decode cX13_isNamed 97 = .ok (.iload 8, 2) := by decide +kernel
theorem dX13_isNamed_99 : decode cX13_isNamed 99 = .ok (.iload 4, 2) := by decide +kernel
theorem dX13_isNamed_101 : decode cX13_isNamed 101 = .ok (.if_icmp .ge 43, 3) := by decide +kernel
theorem dX13_isNamed_104 : decode cX13_isNamed 104 = .ok (.iload 7, 2) := by decide +kernel
theorem dX13_isNamed_106 : decode cX13_isNamed 106 = .ok (.ifCond .eq 38, 3) := by decide +kernel
theorem dX13_isNamed_109 : decode cX13_isNamed 109 = .ok (.ldc_w 477, 3) := by decide +kernel
theorem dX13_isNamed_112 : decode cX13_isNamed 112 = .ok (.iload 6, 2) := by decide +kernel
theorem dX13_isNamed_114 : decode cX13_isNamed 114 = .ok (.iconst 1, 1) := by decide +kernel
theorem dX13_isNamed_115 : decode cX13_isNamed 115 = .ok (.iadd, 1) := by decide +kernel
theorem dX13_isNamed_116 : decode cX13_isNamed 116 = .ok (.iload 8, 2) := by decide +kernel
theorem dX13_isNamed_118 : decode cX13_isNamed 118 = .ok (.iadd, 1) := by decide +kernel
theorem dX13_isNamed_119 : decode cX13_isNamed 119 = .ok (.invokevirtual 334, 3) := by decide +kernel
theorem dX13_isNamed_122 : decode cX13_isNamed 122 = .ok (.aload_n 2, 1) := by decide +kernel
theorem dX13_isNamed_123 : decode cX13_isNamed 123 = .ok (.iload_n 3, 1) := by decide +kernel
theorem dX13_isNamed_124 : decode cX13_isNamed 124 = .ok (.iload 8, 2) := by decide +kernel
theorem dX13_isNamed_126 : decode cX13_isNamed 126 = .ok (.iadd, 1) := by decide +kernel
theorem dX13_isNamed_127 : decode cX13_isNamed 127 = .ok (.iaload, 1) := by decide +kernel
theorem dX13_isNamed_128 : decode cX13_isNamed 128 = .ok (.if_icmp .ne 7, 3) := by decide +kernel
theorem dX13_isNamed_131 : decode cX13_isNamed 131 = .ok (.iconst 1, 1) := by decide +kernel
theorem dX13_isNamed_132 : decode cX13_isNamed 132 = .ok (.goto 4, 3) := by decide +kernel
theorem dX13_isNamed_135 : decode cX13_isNamed 135 = .ok (.iconst 0, 1) := by decide +kernel
theorem dX13_isNamed_136 : decode cX13_isNamed 136 = .ok (.istore 7, 2) := by decide +kernel
theorem dX13_isNamed_138 : decode cX13_isNamed 138 = .ok (.iinc 8 1, 3) := by decide +kernel
theorem dX13_isNamed_141 : decode cX13_isNamed 141 = .ok (.goto (-44), 3) := by decide +kernel
theorem dX13_isNamed_144 : decode cX13_isNamed 144 = .ok (.iload 7, 2) := by decide +kernel
theorem dX13_isNamed_146 : decode cX13_isNamed 146 = .ok (.ireturn, 1) := by decide +kernel
theorem dX13_isNamed_147 : decode cX13_isNamed 147 = .ok (.iinc 6 1, 3) := by decide +kernel
theorem dX13_isNamed_150 : decode cX13_isNamed 150 = .ok (.goto (-138), 3) := by decide +kernel
theorem dX13_isNamed_153 : decode cX13_isNamed 153 = .ok (.iconst 0, 1) := by decide +kernel
theorem dX13_isNamed_154 : decode cX13_isNamed 154 = .ok (.ireturn, 1) := by decide +kernel
theorem dX13_isNamed_155 : decode cX13_isNamed 155 = .ok (.aload_n 0, 1) := by decide +kernel
theorem dX13_isNamed_156 : decode cX13_isNamed 156 = .ok (.iload_n 1, 1) := by decide +kernel
theorem dX13_isNamed_157 : decode cX13_isNamed 157 = .ok (.invokevirtual 830, 3) := by decide +kernel
theorem dX13_isNamed_160 : decode cX13_isNamed 160 = .ok (.istore 5, 2) := by decide +kernel
theorem dX13_isNamed_162 : decode cX13_isNamed 162 = .ok (.aload_n 0, 1) := by decide +kernel
theorem dX13_isNamed_163 : decode cX13_isNamed 163 = .ok (.getfield 209, 3) := by decide +kernel
theorem dX13_isNamed_166 : decode cX13_isNamed 166 = .ok (.iload 5, 2) := by decide +kernel
theorem dX13_isNamed_168 : decode cX13_isNamed 168 = .ok (.iaload, 1) := by decide +kernel
theorem dX13_isNamed_169 : decode cX13_isNamed 169 = .ok (.iload 4, 2) := by decide +kernel
theorem dX13_isNamed_171 : decode cX13_isNamed 171 = .ok (.if_icmp .ne 7, 3) := by decide +kernel
theorem dX13_isNamed_174 : decode cX13_isNamed 174 = .ok (.iconst 1, 1) := by decide +kernel
theorem dX13_isNamed_175 : decode cX13_isNamed 175 = .ok (.goto 4, 3) := by decide +kernel
theorem dX13_isNamed_178 : decode cX13_isNamed 178 = .ok (.iconst 0, 1) := by decide +kernel
theorem dX13_isNamed_179 : decode cX13_isNamed 179 = .ok (.istore 6, 2) := by decide +kernel
theorem dX13_isNamed_181 : decode cX13_isNamed 181 = .ok (.iconst 0, 1) := by decide +kernel
theorem dX13_isNamed_182 : decode cX13_isNamed 182 = .ok (.istore 7, 2) := by decide +kernel
theorem dX13_isNamed_184 : decode cX13_isNamed 184 = .ok (.iload 7, 2) := by decide +kernel
theorem dX13_isNamed_186 : decode cX13_isNamed 186 = .ok (.iload 4, 2) := by decide +kernel
theorem dX13_isNamed_188 : decode cX13_isNamed 188 = .ok (.if_icmp .ge 42, 3) := by decide +kernel
theorem dX13_isNamed_191 : decode cX13_isNamed 191 = .ok (.iload 6, 2) := by decide +kernel
theorem dX13_isNamed_193 : decode cX13_isNamed 193 = .ok (.ifCond .eq 37, 3) := by decide +kernel
theorem dX13_isNamed_196 : decode cX13_isNamed 196 = .ok (.aload_n 0, 1) := by decide +kernel
theorem dX13_isNamed_197 : decode cX13_isNamed 197 = .ok (.getfield 209, 3) := by decide +kernel
theorem dX13_isNamed_200 : decode cX13_isNamed 200 = .ok (.iload 5, 2) := by decide +kernel
theorem dX13_isNamed_202 : decode cX13_isNamed 202 = .ok (.iconst 1, 1) := by decide +kernel
theorem dX13_isNamed_203 : decode cX13_isNamed 203 = .ok (.iadd, 1) := by decide +kernel
theorem dX13_isNamed_204 : decode cX13_isNamed 204 = .ok (.iload 7, 2) := by decide +kernel
theorem dX13_isNamed_206 : decode cX13_isNamed 206 = .ok (.iadd, 1) := by decide +kernel
theorem dX13_isNamed_207 : decode cX13_isNamed 207 = .ok (.iaload, 1) := by decide +kernel
theorem dX13_isNamed_208 : decode cX13_isNamed 208 = .ok (.aload_n 2, 1) := by decide +kernel
theorem dX13_isNamed_209 : decode cX13_isNamed 209 = .ok (.iload_n 3, 1) := by decide +kernel
theorem dX13_isNamed_210 : decode cX13_isNamed 210 = .ok (.iload 7, 2) := by decide +kernel
theorem dX13_isNamed_212 : decode cX13_isNamed 212 = .ok (.iadd, 1) := by decide +kernel
theorem dX13_isNamed_213 : decode cX13_isNamed 213 = .ok (.iaload, 1) := by decide +kernel
theorem dX13_isNamed_214 : decode cX13_isNamed 214 = .ok (.if_icmp .ne 7, 3) := by decide +kernel
theorem dX13_isNamed_217 : decode cX13_isNamed 217 = .ok (.iconst 1, 1) := by decide +kernel
theorem dX13_isNamed_218 : decode cX13_isNamed 218 = .ok (.goto 4, 3) := by decide +kernel
theorem dX13_isNamed_221 : decode cX13_isNamed 221 = .ok (.iconst 0, 1) := by decide +kernel
theorem dX13_isNamed_222 : decode cX13_isNamed 222 = .ok (.istore 6, 2) := by decide +kernel
theorem dX13_isNamed_224 : decode cX13_isNamed 224 = .ok (.iinc 7 1, 3) := by decide +kernel
theorem dX13_isNamed_227 : decode cX13_isNamed 227 = .ok (.goto (-43), 3) := by decide +kernel
theorem dX13_isNamed_230 : decode cX13_isNamed 230 = .ok (.iload 6, 2) := by decide +kernel
theorem dX13_isNamed_232 : decode cX13_isNamed 232 = .ok (.ireturn, 1) := by decide +kernel
theorem rs_RX13_836 : mx_res RX13 836 = some (1, 509, 4) := by decide +kernel
theorem mt_X13_classNamed : mx_mt 511 = some (yX13_classNamed, cX13_classNamed, 5, (some .int)) := rfl
theorem dX13_classNamed_0 : decode cX13_classNamed 0 = .ok (.iconst 0, 1) := by decide +kernel
theorem dX13_classNamed_1 : decode cX13_classNamed 1 = .ok (.istore 4, 2) := by decide +kernel
theorem dX13_classNamed_3 : decode cX13_classNamed 3 = .ok (.iload 4, 2) := by decide +kernel
theorem dX13_classNamed_5 : decode cX13_classNamed 5 = .ok (.bipush 8, 2) := by decide +kernel
theorem dX13_classNamed_7 : decode cX13_classNamed 7 = .ok (.aload_n 0, 1) := by decide +kernel
theorem dX13_classNamed_8 : decode cX13_classNamed 8 = .ok (.getfield 833, 3) := by decide +kernel
theorem dX13_classNamed_11 : decode cX13_classNamed 11 = .ok (.iadd, 1) := by decide +kernel
theorem dX13_classNamed_12 : decode cX13_classNamed 12 = .ok (.if_icmp .ge 24, 3) := by decide +kernel
theorem dX13_classNamed_15 : decode cX13_classNamed 15 = .ok (.aload_n 0, 1) := by decide +kernel
theorem dX13_classNamed_16 : decode cX13_classNamed 16 = .ok (.iload 4, 2) := by decide +kernel
theorem dX13_classNamed_18 : decode cX13_classNamed 18 = .ok (.aload_n 1, 1) := by decide +kernel
theorem dX13_classNamed_19 : decode cX13_classNamed 19 = .ok (.iload_n 2, 1) := by decide +kernel
theorem dX13_classNamed_20 : decode cX13_classNamed 20 = .ok (.iload_n 3, 1) := by decide +kernel
theorem dX13_classNamed_21 : decode cX13_classNamed 21 = .ok (.invokevirtual 836, 3) := by decide +kernel
theorem dX13_classNamed_24 : decode cX13_classNamed 24 = .ok (.ifCond .eq 6, 3) := by decide +kernel
theorem dX13_classNamed_27 : decode cX13_classNamed 27 = .ok (.iload 4, 2) := by decide +kernel
theorem dX13_classNamed_29 : decode cX13_classNamed 29 = .ok (.ireturn, 1) := by decide +kernel
theorem dX13_classNamed_30 : decode cX13_classNamed 30 = .ok (.iinc 4 1, 3) := by decide +kernel
theorem dX13_classNamed_33 : decode cX13_classNamed 33 = .ok (.goto (-30), 3) := by decide +kernel
theorem dX13_classNamed_36 : decode cX13_classNamed 36 = .ok (.iconst (-1), 1) := by decide +kernel
theorem dX13_classNamed_37 : decode cX13_classNamed 37 = .ok (.ireturn, 1) := by decide +kernel
theorem rs_RX13_767 : mx_res RX13 767 = some (0, 13, 113) := by decide +kernel
theorem mt_X13_install : mx_mt 512 = some (yX13_install, cX13_install, 3, (some .int)) := rfl
theorem dX13_install_0 : decode cX13_install 0 = .ok (.iconst 0, 1) := by decide +kernel
theorem dX13_install_1 : decode cX13_install 1 = .ok (.istore_n 2, 1) := by decide +kernel
theorem dX13_install_2 : decode cX13_install 2 = .ok (.iload_n 2, 1) := by decide +kernel
theorem dX13_install_3 : decode cX13_install 3 = .ok (.aload_n 0, 1) := by decide +kernel
theorem dX13_install_4 : decode cX13_install 4 = .ok (.getfield 767, 3) := by decide +kernel
theorem dX13_install_7 : decode cX13_install 7 = .ok (.if_icmp .ge 27, 3) := by decide +kernel
theorem dX13_install_10 : decode cX13_install 10 = .ok (.aload_n 0, 1) := by decide +kernel
theorem dX13_install_11 : decode cX13_install 11 = .ok (.getfield 209, 3) := by decide +kernel
theorem dX13_install_14 : decode cX13_install 14 = .ok (.sipush 6000, 3) := by decide +kernel
theorem dX13_install_17 : decode cX13_install 17 = .ok (.iload_n 1, 1) := by decide +kernel
theorem dX13_install_18 : decode cX13_install 18 = .ok (.imul, 1) := by decide +kernel
theorem dX13_install_19 : decode cX13_install 19 = .ok (.iload_n 2, 1) := by decide +kernel
theorem dX13_install_20 : decode cX13_install 20 = .ok (.iadd, 1) := by decide +kernel
theorem dX13_install_21 : decode cX13_install 21 = .ok (.aload_n 0, 1) := by decide +kernel
theorem dX13_install_22 : decode cX13_install 22 = .ok (.getfield 245, 3) := by decide +kernel
theorem dX13_install_25 : decode cX13_install 25 = .ok (.iload_n 2, 1) := by decide +kernel
theorem dX13_install_26 : decode cX13_install 26 = .ok (.iaload, 1) := by decide +kernel
theorem dX13_install_27 : decode cX13_install 27 = .ok (.iastore, 1) := by decide +kernel
theorem dX13_install_28 : decode cX13_install 28 = .ok (.iinc 2 1, 3) := by decide +kernel
theorem dX13_install_31 : decode cX13_install 31 = .ok (.goto (-29), 3) := by decide +kernel
theorem dX13_install_34 : decode cX13_install 34 = .ok (.aload_n 0, 1) := by decide +kernel
theorem dX13_install_35 : decode cX13_install 35 = .ok (.getfield 212, 3) := by decide +kernel
theorem dX13_install_38 : decode cX13_install 38 = .ok (.iload_n 1, 1) := by decide +kernel
theorem dX13_install_39 : decode cX13_install 39 = .ok (.aload_n 0, 1) := by decide +kernel
theorem dX13_install_40 : decode cX13_install 40 = .ok (.getfield 767, 3) := by decide +kernel
theorem dX13_install_43 : decode cX13_install 43 = .ok (.iastore, 1) := by decide +kernel
theorem dX13_install_44 : decode cX13_install 44 = .ok (.bipush 8, 2) := by decide +kernel
theorem dX13_install_46 : decode cX13_install 46 = .ok (.iload_n 1, 1) := by decide +kernel
theorem dX13_install_47 : decode cX13_install 47 = .ok (.iadd, 1) := by decide +kernel
theorem dX13_install_48 : decode cX13_install 48 = .ok (.ireturn, 1) := by decide +kernel
theorem mt_X13_constantOf : mx_mt 491 = some (yX13_constantOf, cX13_constantOf, 3, (some .int)) := rfl
theorem dX13_constantOf_0 : decode cX13_constantOf 0 = .ok (.iload_n 2, 1) := by decide +kernel
theorem dX13_constantOf_1 : decode cX13_constantOf 1 = .ok (.iconst 1, 1) := by decide +kernel
theorem dX13_constantOf_2 : decode cX13_constantOf 2 = .ok (.if_icmp .lt 28, 3) := by decide +kernel
theorem dX13_constantOf_5 : decode cX13_constantOf 5 = .ok (.iload_n 2, 1) := by decide +kernel
theorem dX13_constantOf_6 : decode cX13_constantOf 6 = .ok (.aload_n 0, 1) := by decide +kernel
theorem dX13_constantOf_7 : decode cX13_constantOf 7 = .ok (.getfield 218, 3) := by decide +kernel
theorem dX13_constantOf_10 : decode cX13_constantOf 10 = .ok (.iload_n 1, 1) := by decide +kernel
theorem dX13_constantOf_11 : decode cX13_constantOf 11 = .ok (.iaload, 1) := by decide +kernel
theorem dX13_constantOf_12 : decode cX13_constantOf 12 = .ok (.if_icmp .gt 18, 3) := by decide +kernel
theorem dX13_constantOf_15 : decode cX13_constantOf 15 = .ok (.aload_n 0, 1) := by decide +kernel
theorem dX13_constantOf_16 : decode cX13_constantOf 16 = .ok (.getfield 215, 3) := by decide +kernel
theorem dX13_constantOf_19 : decode cX13_constantOf 19 = .ok (.sipush 256, 3) := by decide +kernel
theorem dX13_constantOf_22 : decode cX13_constantOf 22 = .ok (.iload_n 1, 1) := by decide +kernel
theorem dX13_constantOf_23 : decode cX13_constantOf 23 = .ok (.imul, 1) := by decide +kernel
theorem dX13_constantOf_24 : decode cX13_constantOf 24 = .ok (.iload_n 2, 1) := by decide +kernel
theorem dX13_constantOf_25 : decode cX13_constantOf 25 = .ok (.iadd, 1) := by decide +kernel
theorem dX13_constantOf_26 : decode cX13_constantOf 26 = .ok (.iaload, 1) := by decide +kernel
theorem dX13_constantOf_27 : decode cX13_constantOf 27 = .ok (.goto 4, 3) := by decide +kernel
theorem dX13_constantOf_30 : decode cX13_constantOf 30 = .ok (.iconst (-1), 1) := by decide +kernel
theorem dX13_constantOf_31 : decode cX13_constantOf 31 = .ok (.ireturn, 1) := by decide +kernel
theorem mt_X13_isNamePart : mx_mt 492 = some (yX13_isNamePart, cX13_isNamePart, 2, (some .boolean)) := rfl
theorem dX13_isNamePart_0 : decode cX13_isNamePart 0 = .ok (.iload_n 0, 1) := by decide +kernel
theorem dX13_isNamePart_1 : decode cX13_isNamePart 1 = .ok (.invokestatic 345, 3) := by decide +kernel
theorem dX13_isNamePart_4 : decode cX13_isNamePart 4 = .ok (.ifCond .ne 20, 3) := by decide +kernel
theorem dX13_isNamePart_7 : decode cX13_isNamePart 7 = .ok (.iload_n 1, 1) := by decide +kernel
theorem dX13_isNamePart_8 : decode cX13_isNamePart 8 = .ok (.ifCond .ne 20, 3) := by decide +kernel
theorem dX13_isNamePart_11 : decode cX13_isNamePart 11 = .ok (.iload_n 0, 1) := by decide +kernel
theorem dX13_isNamePart_12 : decode cX13_isNamePart 12 = .ok (.invokestatic 349, 3) := by decide +kernel
theorem dX13_isNamePart_15 : decode cX13_isNamePart 15 = .ok (.ifCond .ne 9, 3) := by decide +kernel
theorem dX13_isNamePart_18 : decode cX13_isNamePart 18 = .ok (.iload_n 0, 1) := by decide +kernel
theorem dX13_isNamePart_19 : decode cX13_isNamePart 19 = .ok (.bipush 95, 2) := by decide +kernel
theorem dX13_isNamePart_21 : decode cX13_isNamePart 21 = .ok (.if_icmp .ne 7, 3) := by decide +kernel
theorem dX13_isNamePart_24 : decode cX13_isNamePart 24 = .ok (.iconst 1, 1) := by decide +kernel
theorem dX13_isNamePart_25 : decode cX13_isNamePart 25 = .ok (.goto 4, 3) := by decide +kernel
theorem dX13_isNamePart_28 : decode cX13_isNamePart 28 = .ok (.iconst 0, 1) := by decide +kernel
theorem dX13_isNamePart_29 : decode cX13_isNamePart 29 = .ok (.ireturn, 1) := by decide +kernel
theorem rs_RX13_770 : mx_res RX13 770 = some (2, 492, 2) := by decide +kernel
theorem mt_X13_isName : mx_mt 493 = some (yX13_isName, cX13_isName, 5, (some .boolean)) := rfl
theorem dX13_isName_0 : decode cX13_isName 0 = .ok (.iload_n 2, 1) := by decide +kernel
theorem dX13_isName_1 : decode cX13_isName 1 = .ok (.iconst 1, 1) := by decide +kernel
theorem dX13_isName_2 : decode cX13_isName 2 = .ok (.if_icmp .lt 13, 3) := by decide +kernel
theorem dX13_isName_5 : decode cX13_isName 5 = .ok (.iload_n 2, 1) := by decide +kernel
theorem dX13_isName_6 : decode cX13_isName 6 = .ok (.bipush 12, 2) := by decide +kernel
theorem dX13_isName_8 : decode cX13_isName 8 = .ok (.if_icmp .gt 7, 3) := by decide +kernel
theorem dX13_isName_11 : decode cX13_isName 11 = .ok (.iconst 1, 1) := by decide +kernel
theorem dX13_isName_12 : decode cX13_isName 12 = .ok (.goto 4, 3) := by decide +kernel
theorem dX13_isName_15 : decode cX13_isName 15 = .ok (.iconst 0, 1) := by decide +kernel
theorem dX13_isName_16 : decode cX13_isName 16 = .ok (.istore_n 3, 1) := by decide +kernel
theorem dX13_isName_17 : decode cX13_isName 17 = .ok (.iconst 0, 1) := by decide +kernel
theorem dX13_isName_18 : decode cX13_isName 18 = .ok (.istore 4, 2) := by decide +kernel
theorem dX13_isName_20 : decode cX13_isName 20 = .ok (.iload 4, 2) := by decide +kernel
theorem dX13_isName_22 : decode cX13_isName 22 = .ok (.iload_n 2, 1) := by decide +kernel
theorem dX13_isName_23 : decode cX13_isName 23 = .ok (.if_icmp .ge 33, 3) := by decide +kernel
theorem dX13_isName_26 : decode cX13_isName 26 = .ok (.iload_n 3, 1) := by decide +kernel
theorem dX13_isName_27 : decode cX13_isName 27 = .ok (.ifCond .eq 29, 3) := by decide +kernel
theorem dX13_isName_30 : decode cX13_isName 30 = .ok (.aload_n 0, 1) := by decide +kernel
theorem dX13_isName_31 : decode cX13_isName 31 = .ok (.iload_n 1, 1) := by decide +kernel
theorem dX13_isName_32 : decode cX13_isName 32 = .ok (.iload 4, 2) := by decide +kernel
theorem dX13_isName_34 : decode cX13_isName 34 = .ok (.iadd, 1) := by decide +kernel
theorem dX13_isName_35 : decode cX13_isName 35 = .ok (.iaload, 1) := by decide +kernel
theorem dX13_isName_36 : decode cX13_isName 36 = .ok (.iload 4, 2) := by decide +kernel
theorem dX13_isName_38 : decode cX13_isName 38 = .ok (.ifCond .ne 7, 3) := by decide +kernel
theorem dX13_isName_41 : decode cX13_isName 41 = .ok (.iconst 1, 1) := by decide +kernel
theorem dX13_isName_42 : decode cX13_isName 42 = .ok (.goto 4, 3) := by decide +kernel
theorem dX13_isName_45 : decode cX13_isName 45 = .ok (.iconst 0, 1) := by decide +kernel
theorem dX13_isName_46 : decode cX13_isName 46 = .ok (.invokestatic 770, 3) := by decide +kernel
theorem dX13_isName_49 : decode cX13_isName 49 = .ok (.istore_n 3, 1) := by decide +kernel
theorem dX13_isName_50 : decode cX13_isName 50 = .ok (.iinc 4 1, 3) := by decide +kernel
theorem dX13_isName_53 : decode cX13_isName 53 = .ok (.goto (-33), 3) := by decide +kernel
theorem dX13_isName_56 : decode cX13_isName 56 = .ok (.iload_n 3, 1) := by decide +kernel
theorem dX13_isName_57 : decode cX13_isName 57 = .ok (.ireturn, 1) := by decide +kernel
theorem rs_RX13_774 : mx_res RX13 774 = some (2, 493, 3) := by decide +kernel
theorem mt_X13_kindBytes : mx_mt 494 = some (yX13_kindBytes, cX13_kindBytes, 5, (some .int)) := rfl
theorem dX13_kindBytes_0 : decode cX13_kindBytes 0 = .ok (.iload_n 1, 1) := by decide +kernel
theorem dX13_kindBytes_1 : decode cX13_kindBytes 1 = .ok (.istore_n 3, 1) := by decide +kernel
theorem dX13_kindBytes_2 : decode cX13_kindBytes 2 = .ok (.iload_n 3, 1) := by decide +kernel
theorem dX13_kindBytes_3 : decode cX13_kindBytes 3 = .ok (.iload_n 2, 1) := by decide +kernel
theorem dX13_kindBytes_4 : decode cX13_kindBytes 4 = .ok (.if_icmp .ge 13, 3) := by decide +kernel
theorem dX13_kindBytes_7 : decode cX13_kindBytes 7 = .ok (.aload_n 0, 1) := by decide +kernel
theorem dX13_kindBytes_8 : decode cX13_kindBytes 8 = .ok (.iload_n 3, 1) := by decide +kernel
theorem dX13_kindBytes_9 : decode cX13_kindBytes 9 = .ok (.iaload, 1) := by decide +kernel
theorem dX13_kindBytes_10 : decode cX13_kindBytes 10 = .ok (.bipush 90, 2) := by decide +kernel
theorem dX13_kindBytes_12 : decode cX13_kindBytes 12 = .ok (.if_icmp .ne 5, 3) := by decide +kernel
theorem dX13_kindBytes_15 : decode cX13_kindBytes 15 = .ok (.iconst 1, 1) := by decide +kernel
theorem dX13_kindBytes_16 : decode cX13_kindBytes 16 = .ok (.ireturn, 1) := by decide +kernel
theorem dX13_kindBytes_17 : decode cX13_kindBytes 17 = .ok (.iload_n 3, 1) := by decide +kernel
theorem dX13_kindBytes_18 : decode cX13_kindBytes 18 = .ok (.iload_n 2, 1) := by decide +kernel
theorem dX13_kindBytes_19 : decode cX13_kindBytes 19 = .ok (.if_icmp .ge 14, 3) := by decide +kernel
theorem dX13_kindBytes_22 : decode cX13_kindBytes 22 = .ok (.aload_n 0, 1) := by decide +kernel
theorem dX13_kindBytes_23 : decode cX13_kindBytes 23 = .ok (.iload_n 3, 1) := by decide +kernel
theorem dX13_kindBytes_24 : decode cX13_kindBytes 24 = .ok (.iaload, 1) := by decide +kernel
theorem dX13_kindBytes_25 : decode cX13_kindBytes 25 = .ok (.bipush 91, 2) := by decide +kernel
theorem dX13_kindBytes_27 : decode cX13_kindBytes 27 = .ok (.if_icmp .ne 6, 3) := by decide +kernel
theorem dX13_kindBytes_30 : decode cX13_kindBytes 30 = .ok (.iinc 3 1, 3) := by decide +kernel
theorem dX13_kindBytes_33 : decode cX13_kindBytes 33 = .ok (.iload_n 3, 1) := by decide +kernel
theorem dX13_kindBytes_34 : decode cX13_kindBytes 34 = .ok (.iload_n 2, 1) := by decide +kernel
theorem dX13_kindBytes_35 : decode cX13_kindBytes 35 = .ok (.if_icmp .ge 17, 3) := by decide +kernel
theorem dX13_kindBytes_38 : decode cX13_kindBytes 38 = .ok (.aload_n 0, 1) := by decide +kernel
theorem dX13_kindBytes_39 : decode cX13_kindBytes 39 = .ok (.iload_n 3, 1) := by decide +kernel
theorem dX13_kindBytes_40 : decode cX13_kindBytes 40 = .ok (.iaload, 1) := by decide +kernel
theorem dX13_kindBytes_41 : decode cX13_kindBytes 41 = .ok (.bipush 73, 2) := by decide +kernel
theorem dX13_kindBytes_43 : decode cX13_kindBytes 43 = .ok (.if_icmp .ne 9, 3) := by decide +kernel
theorem dX13_kindBytes_46 : decode cX13_kindBytes 46 = .ok (.iload_n 3, 1) := by decide +kernel
theorem dX13_kindBytes_47 : decode cX13_kindBytes 47 = .ok (.iconst 1, 1) := by decide +kernel
theorem dX13_kindBytes_48 : decode cX13_kindBytes 48 = .ok (.iadd, 1) := by decide +kernel
theorem dX13_kindBytes_49 : decode cX13_kindBytes 49 = .ok (.iload_n 1, 1) := by decide +kernel
theorem dX13_kindBytes_50 : decode cX13_kindBytes 50 = .ok (.isub, 1) := by decide +kernel
theorem dX13_kindBytes_51 : decode cX13_kindBytes 51 = .ok (.ireturn, 1) := by decide +kernel
theorem dX13_kindBytes_52 : decode cX13_kindBytes 52 = .ok (.iload_n 3, 1) := by decide +kernel
theorem dX13_kindBytes_53 : decode cX13_kindBytes 53 = .ok (.iload_n 2, 1) := by decide +kernel
theorem dX13_kindBytes_54 : decode cX13_kindBytes 54 = .ok (.if_icmp .ge 11, 3) := by decide +kernel
theorem dX13_kindBytes_57 : decode cX13_kindBytes 57 = .ok (.aload_n 0, 1) := by decide +kernel
theorem dX13_kindBytes_58 : decode cX13_kindBytes 58 = .ok (.iload_n 3, 1) := by decide +kernel
theorem dX13_kindBytes_59 : decode cX13_kindBytes 59 = .ok (.iaload, 1) := by decide +kernel
theorem dX13_kindBytes_60 : decode cX13_kindBytes 60 = .ok (.bipush 76, 2) := by decide +kernel
theorem dX13_kindBytes_62 : decode cX13_kindBytes 62 = .ok (.if_icmp .eq 5, 3) := by decide +kernel
theorem dX13_kindBytes_65 : decode cX13_kindBytes 65 = .ok (.iconst 0, 1) := by decide +kernel
theorem dX13_kindBytes_66 : decode cX13_kindBytes 66 = .ok (.ireturn, 1) := by decide +kernel
theorem dX13_kindBytes_67 : decode cX13_kindBytes 67 = .ok (.iload_n 3, 1) := by decide +kernel
theorem dX13_kindBytes_68 : decode cX13_kindBytes 68 = .ok (.iconst 1, 1) := by decide +kernel
theorem dX13_kindBytes_69 : decode cX13_kindBytes 69 = .ok (.iadd, 1) := by decide +kernel
theorem dX13_kindBytes_70 : decode cX13_kindBytes 70 = .ok (.istore 4, 2) := by decide +kernel
theorem dX13_kindBytes_72 : decode cX13_kindBytes 72 = .ok (.iload 4, 2) := by decide +kernel
theorem dX13_kindBytes_74 : decode cX13_kindBytes 74 = .ok (.iload_n 2, 1) := by decide +kernel
theorem dX13_kindBytes_75 : decode cX13_kindBytes 75 = .ok (.if_icmp .ge 18, 3) := by decide +kernel
theorem dX13_kindBytes_78 : decode cX13_kindBytes 78 = .ok (.aload_n 0, 1) := by decide +kernel
theorem dX13_kindBytes_79 : decode cX13_kindBytes 79 = .ok (.iload 4, 2) := by decide +kernel
theorem dX13_kindBytes_81 : decode cX13_kindBytes 81 = .ok (.iaload, 1) := by decide +kernel
theorem dX13_kindBytes_82 : decode cX13_kindBytes 82 = .ok (.bipush 59, 2) := by decide +kernel
theorem dX13_kindBytes_84 : decode cX13_kindBytes 84 = .ok (.if_icmp .eq 9, 3) := by decide +kernel
theorem dX13_kindBytes_87 : decode cX13_kindBytes 87 = .ok (.iinc 4 1, 3) := by decide +kernel
theorem dX13_kindBytes_90 : decode cX13_kindBytes 90 = .ok (.goto (-18), 3) := by decide +kernel
theorem dX13_kindBytes_93 : decode cX13_kindBytes 93 = .ok (.iload 4, 2) := by decide +kernel
theorem dX13_kindBytes_95 : decode cX13_kindBytes 95 = .ok (.iload_n 2, 1) := by decide +kernel
theorem dX13_kindBytes_96 : decode cX13_kindBytes 96 = .ok (.if_icmp .ge 28, 3) := by decide +kernel
theorem dX13_kindBytes_99 : decode cX13_kindBytes 99 = .ok (.aload_n 0, 1) := by decide +kernel
theorem dX13_kindBytes_100 : decode cX13_kindBytes 100 = .ok (.iload_n 3, 1) := by decide +kernel
theorem dX13_kindBytes_101 : decode cX13_kindBytes 101 = .ok (.iconst 1, 1) := by decide +kernel
theorem dX13_kindBytes_102 : decode cX13_kindBytes 102 = .ok (.iadd, 1) := by decide +kernel
theorem dX13_kindBytes_103 : decode cX13_kindBytes 103 = .ok (.iload 4, 2) := by decide +kernel
theorem dX13_kindBytes_105 : decode cX13_kindBytes 105 = .ok (.iload_n 3, 1) := by decide +kernel
theorem dX13_kindBytes_106 : decode cX13_kindBytes 106 = .ok (.isub, 1) := by decide +kernel
theorem dX13_kindBytes_107 : decode cX13_kindBytes 107 = .ok (.iconst 1, 1) := by decide +kernel
theorem dX13_kindBytes_108 : decode cX13_kindBytes 108 = .ok (.isub, 1) := by decide +kernel
theorem dX13_kindBytes_109 : decode cX13_kindBytes 109 = .ok (.invokestatic 774, 3) := by decide +kernel
theorem dX13_kindBytes_112 : decode cX13_kindBytes 112 = .ok (.ifCond .eq 12, 3) := by decide +kernel
theorem dX13_kindBytes_115 : decode cX13_kindBytes 115 = .ok (.iload 4, 2) := by decide +kernel
theorem dX13_kindBytes_117 : decode cX13_kindBytes 117 = .ok (.iconst 1, 1) := by decide +kernel
theorem dX13_kindBytes_118 : decode cX13_kindBytes 118 = .ok (.iadd, 1) := by decide +kernel
theorem dX13_kindBytes_119 : decode cX13_kindBytes 119 = .ok (.iload_n 1, 1) := by decide +kernel
theorem dX13_kindBytes_120 : decode cX13_kindBytes 120 = .ok (.isub, 1) := by decide +kernel
theorem dX13_kindBytes_121 : decode cX13_kindBytes 121 = .ok (.goto 4, 3) := by decide +kernel
theorem dX13_kindBytes_124 : decode cX13_kindBytes 124 = .ok (.iconst 0, 1) := by decide +kernel
theorem dX13_kindBytes_125 : decode cX13_kindBytes 125 = .ok (.ireturn, 1) := by decide +kernel
theorem rs_RX13_778 : mx_res RX13 778 = some (2, 494, 3) := by decide +kernel
theorem mt_X13_isFieldKind : mx_mt 495 = some (yX13_isFieldKind, cX13_isFieldKind, 3, (some .boolean)) := rfl
theorem dX13_isFieldKind_0 : decode cX13_isFieldKind 0 = .ok (.iload_n 2, 1) := by decide +kernel
theorem dX13_isFieldKind_1 : decode cX13_isFieldKind 1 = .ok (.ifCond .le 19, 3) := by decide +kernel
theorem dX13_isFieldKind_4 : decode cX13_isFieldKind 4 = .ok (.aload_n 0, 1) := by decide +kernel
theorem dX13_isFieldKind_5 : decode cX13_isFieldKind 5 = .ok (.iload_n 1, 1) := by decide +kernel
theorem dX13_isFieldKind_6 : decode cX13_isFieldKind 6 = .ok (.iload_n 1, 1) := by decide +kernel
theorem dX13_isFieldKind_7 : decode cX13_isFieldKind 7 = .ok (.iload_n 2, 1) := by decide +kernel
theorem dX13_isFieldKind_8 : decode cX13_isFieldKind 8 = .ok (.iadd, 1) := by decide +kernel
theorem dX13_isFieldKind_9 : decode cX13_isFieldKind 9 = .ok (.invokestatic 778, 3) := by decide +kernel
theorem dX13_isFieldKind_12 : decode cX13_isFieldKind 12 = .ok (.iload_n 2, 1) := by decide +kernel
theorem dX13_isFieldKind_13 : decode cX13_isFieldKind 13 = .ok (.if_icmp .ne 7, 3) := by decide +kernel
theorem dX13_isFieldKind_16 : decode cX13_isFieldKind 16 = .ok (.iconst 1, 1) := by decide +kernel
theorem dX13_isFieldKind_17 : decode cX13_isFieldKind 17 = .ok (.goto 4, 3) := by decide +kernel
theorem dX13_isFieldKind_20 : decode cX13_isFieldKind 20 = .ok (.iconst 0, 1) := by decide +kernel
theorem dX13_isFieldKind_21 : decode cX13_isFieldKind 21 = .ok (.ireturn, 1) := by decide +kernel
theorem rs_RX13_782 : mx_res RX13 782 = some (2, 495, 3) := by decide +kernel
theorem mt_X13_isClassText : mx_mt 498 = some (yX13_isClassText, cX13_isClassText, 3, (some .boolean)) := rfl
theorem dX13_isClassText_0 : decode cX13_isClassText 0 = .ok (.iload_n 2, 1) := by decide +kernel
theorem dX13_isClassText_1 : decode cX13_isClassText 1 = .ok (.ifCond .le 18, 3) := by decide +kernel
theorem dX13_isClassText_4 : decode cX13_isClassText 4 = .ok (.aload_n 0, 1) := by decide +kernel
theorem dX13_isClassText_5 : decode cX13_isClassText 5 = .ok (.iload_n 1, 1) := by decide +kernel
theorem dX13_isClassText_6 : decode cX13_isClassText 6 = .ok (.iaload, 1) := by decide +kernel
theorem dX13_isClassText_7 : decode cX13_isClassText 7 = .ok (.bipush 91, 2) := by decide +kernel
theorem dX13_isClassText_9 : decode cX13_isClassText 9 = .ok (.if_icmp .ne 10, 3) := by decide +kernel
theorem dX13_isClassText_12 : decode cX13_isClassText 12 = .ok (.aload_n 0, 1) := by decide +kernel
theorem dX13_isClassText_13 : decode cX13_isClassText 13 = .ok (.iload_n 1, 1) := by decide +kernel
theorem dX13_isClassText_14 : decode cX13_isClassText 14 = .ok (.iload_n 2, 1) := by decide +kernel
theorem dX13_isClassText_15 : decode cX13_isClassText 15 = .ok (.invokestatic 782, 3) := by decide +kernel
theorem dX13_isClassText_18 : decode cX13_isClassText 18 = .ok (.ireturn, 1) := by decide +kernel
theorem dX13_isClassText_19 : decode cX13_isClassText 19 = .ok (.aload_n 0, 1) := by decide +kernel
theorem dX13_isClassText_20 : decode cX13_isClassText 20 = .ok (.iload_n 1, 1) := by decide +kernel
theorem dX13_isClassText_21 : decode cX13_isClassText 21 = .ok (.iload_n 2, 1) := by decide +kernel
theorem dX13_isClassText_22 : decode cX13_isClassText 22 = .ok (.invokestatic 774, 3) := by decide +kernel
theorem dX13_isClassText_25 : decode cX13_isClassText 25 = .ok (.ireturn, 1) := by decide +kernel
theorem mt_X13_parametersIn : mx_mt 496 = some (yX13_parametersIn, cX13_parametersIn, 7, (some .int)) := rfl
theorem dX13_parametersIn_0 : decode cX13_parametersIn 0 = .ok (.iload_n 1, 1) := by decide +kernel
theorem dX13_parametersIn_1 : decode cX13_parametersIn 1 = .ok (.iload_n 2, 1) := by decide +kernel
theorem dX13_parametersIn_2 : decode cX13_parametersIn 2 = .ok (.iadd, 1) := by decide +kernel
theorem dX13_parametersIn_3 : decode cX13_parametersIn 3 = .ok (.istore_n 3, 1) := by decide +kernel
theorem dX13_parametersIn_4 : decode cX13_parametersIn 4 = .ok (.iload_n 2, 1) := by decide +kernel
theorem dX13_parametersIn_5 : decode cX13_parametersIn 5 = .ok (.iconst 3, 1) := by decide +kernel
theorem dX13_parametersIn_6 : decode cX13_parametersIn 6 = .ok (.if_icmp .lt 11, 3) := by decide +kernel
theorem dX13_parametersIn_9 : decode cX13_parametersIn 9 = .ok (.aload_n 0, 1) := by decide +kernel
theorem dX13_parametersIn_10 : decode cX13_parametersIn 10 = .ok (.iload_n 1, 1) := by decide +kernel
theorem dX13_parametersIn_11 : decode cX13_parametersIn 11 = .ok (.iaload, 1) := by decide +kernel
theorem dX13_parametersIn_12 : decode cX13_parametersIn 12 = .ok (.bipush 40, 2) := by decide +kernel
theorem dX13_parametersIn_14 : decode cX13_parametersIn 14 = .ok (.if_icmp .eq 5, 3) := by decide +kernel
theorem dX13_parametersIn_17 : decode cX13_parametersIn 17 = .ok (.iconst (-1), 1) := by decide +kernel
theorem dX13_parametersIn_18 : decode cX13_parametersIn 18 = .ok (.ireturn, 1) := by decide +kernel
theorem dX13_parametersIn_19 : decode cX13_parametersIn 19 = .ok (.iload_n 1, 1) := by decide +kernel
theorem dX13_parametersIn_20 : decode cX13_parametersIn 20 = .ok (.iconst 1, 1) := by decide +kernel
theorem dX13_parametersIn_21 : decode cX13_parametersIn 21 = .ok (.iadd, 1) := by decide +kernel
theorem dX13_parametersIn_22 : decode cX13_parametersIn 22 = .ok (.istore 4, 2) := by decide +kernel
theorem dX13_parametersIn_24 : decode cX13_parametersIn 24 = .ok (.iconst 0, 1) := by decide +kernel
theorem dX13_parametersIn_25 : decode cX13_parametersIn 25 = .ok (.istore 5, 2) := by decide +kernel
theorem dX13_parametersIn_27 : decode cX13_parametersIn 27 = .ok (.iload 4, 2) := by decide +kernel
theorem dX13_parametersIn_29 : decode cX13_parametersIn 29 = .ok (.iload_n 3, 1) := by decide +kernel
theorem dX13_parametersIn_30 : decode cX13_parametersIn 30 = .ok (.if_icmp .ge 41, 3) := by decide +kernel
theorem dX13_parametersIn_33 : decode cX13_parametersIn 33 = .ok (.aload_n 0, 1) := by decide +kernel
theorem dX13_parametersIn_34 : decode cX13_parametersIn 34 = .ok (.iload 4, 2) := by decide +kernel
theorem dX13_parametersIn_36 : decode cX13_parametersIn 36 = .ok (.iaload, 1) := by decide +kernel
theorem dX13_parametersIn_37 : decode cX13_parametersIn 37 = .ok (.bipush 41, 2) := by decide +kernel
theorem dX13_parametersIn_39 : decode cX13_parametersIn 39 = .ok (.if_icmp .eq 32, 3) := by decide +kernel
theorem dX13_parametersIn_42 : decode cX13_parametersIn 42 = .ok (.aload_n 0, 1) := by decide +kernel
theorem dX13_parametersIn_43 : decode cX13_parametersIn 43 = .ok (.iload 4, 2) := by decide +kernel
theorem dX13_parametersIn_45 : decode cX13_parametersIn 45 = .ok (.iload_n 3, 1) := by decide +kernel
theorem dX13_parametersIn_46 : decode cX13_parametersIn 46 = .ok (.invokestatic 778, 3) := by decide +kernel
theorem dX13_parametersIn_49 : decode cX13_parametersIn 49 = .ok (.istore 6, 2) := by decide +kernel
theorem dX13_parametersIn_51 : decode cX13_parametersIn 51 = .ok (.iload 6, 2) := by decide +kernel
theorem dX13_parametersIn_53 : decode cX13_parametersIn 53 = .ok (.ifCond .ne 5, 3) := by decide +kernel
theorem dX13_parametersIn_56 : decode cX13_parametersIn 56 = .ok (.iconst (-1), 1) := by decide +kernel
theorem dX13_parametersIn_57 : decode cX13_parametersIn 57 = .ok (.ireturn, 1) := by decide +kernel
theorem dX13_parametersIn_58 : decode cX13_parametersIn 58 = .ok (.iload 4, 2) := by decide +kernel
theorem dX13_parametersIn_60 : decode cX13_parametersIn 60 = .ok (.iload 6, 2) := by decide +kernel
theorem dX13_parametersIn_62 : decode cX13_parametersIn 62 = .ok (.iadd, 1) := by decide +kernel
theorem dX13_parametersIn_63 : decode cX13_parametersIn 63 = .ok (.istore 4, 2) := by decide +kernel
theorem dX13_parametersIn_65 : decode cX13_parametersIn 65 = .ok (.iinc 5 1, 3) := by decide +kernel
theorem dX13_parametersIn_68 : decode cX13_parametersIn 68 = .ok (.goto (-41), 3) := by decide +kernel
theorem dX13_parametersIn_71 : decode cX13_parametersIn 71 = .ok (.iload 4, 2) := by decide +kernel
theorem dX13_parametersIn_73 : decode cX13_parametersIn 73 = .ok (.iload_n 3, 1) := by decide +kernel
theorem dX13_parametersIn_74 : decode cX13_parametersIn 74 = .ok (.if_icmp .lt 5, 3) := by decide +kernel
theorem dX13_parametersIn_77 : decode cX13_parametersIn 77 = .ok (.iconst (-1), 1) := by decide +kernel
theorem dX13_parametersIn_78 : decode cX13_parametersIn 78 = .ok (.ireturn, 1) := by decide +kernel
theorem dX13_parametersIn_79 : decode cX13_parametersIn 79 = .ok (.iinc 4 1, 3) := by decide +kernel
theorem dX13_parametersIn_82 : decode cX13_parametersIn 82 = .ok (.iload 4, 2) := by decide +kernel
theorem dX13_parametersIn_84 : decode cX13_parametersIn 84 = .ok (.iconst 1, 1) := by decide +kernel
theorem dX13_parametersIn_85 : decode cX13_parametersIn 85 = .ok (.iadd, 1) := by decide +kernel
theorem dX13_parametersIn_86 : decode cX13_parametersIn 86 = .ok (.iload_n 3, 1) := by decide +kernel
theorem dX13_parametersIn_87 : decode cX13_parametersIn 87 = .ok (.if_icmp .ne 12, 3) := by decide +kernel
theorem dX13_parametersIn_90 : decode cX13_parametersIn 90 = .ok (.aload_n 0, 1) := by decide +kernel
theorem dX13_parametersIn_91 : decode cX13_parametersIn 91 = .ok (.iload 4, 2) := by decide +kernel
theorem dX13_parametersIn_93 : decode cX13_parametersIn 93 = .ok (.iaload, 1) := by decide +kernel
theorem dX13_parametersIn_94 : decode cX13_parametersIn 94 = .ok (.bipush 86, 2) := by decide +kernel
theorem dX13_parametersIn_96 : decode cX13_parametersIn 96 = .ok (.if_icmp .eq 16, 3) := by decide +kernel
theorem dX13_parametersIn_99 : decode cX13_parametersIn 99 = .ok (.aload_n 0, 1) := by decide +kernel
theorem dX13_parametersIn_100 : decode cX13_parametersIn 100 = .ok (.iload 4, 2) := by decide +kernel
theorem dX13_parametersIn_102 : decode cX13_parametersIn 102 = .ok (.iload_n 3, 1) := by decide +kernel
theorem dX13_parametersIn_103 : decode cX13_parametersIn 103 = .ok (.iload 4, 2) := by decide +kernel
theorem dX13_parametersIn_105 : decode cX13_parametersIn 105 = .ok (.isub, 1) := by decide +kernel
theorem dX13_parametersIn_106 : decode cX13_parametersIn 106 = .ok (.invokestatic 782, 3) := by decide +kernel
theorem dX13_parametersIn_109 : decode cX13_parametersIn 109 = .ok (.ifCond .eq 7, 3) := by decide +kernel
theorem dX13_parametersIn_112 : decode cX13_parametersIn 112 = .ok (.iconst 1, 1) := by decide +kernel
theorem dX13_parametersIn_113 : decode cX13_parametersIn 113 = .ok (.goto 4, 3) := by decide +kernel
theorem dX13_parametersIn_116 : decode cX13_parametersIn 116 = .ok (.iconst 0, 1) := by decide +kernel
theorem dX13_parametersIn_117 : decode cX13_parametersIn 117 = .ok (.istore 6, 2) := by decide +kernel
theorem dX13_parametersIn_119 : decode cX13_parametersIn 119 = .ok (.iload 6, 2) := by decide +kernel
theorem dX13_parametersIn_121 : decode cX13_parametersIn 121 = .ok (.ifCond .eq 8, 3) := by decide +kernel
theorem dX13_parametersIn_124 : decode cX13_parametersIn 124 = .ok (.iload 5, 2) := by decide +kernel
theorem dX13_parametersIn_126 : decode cX13_parametersIn 126 = .ok (.goto 4, 3) := by decide +kernel
theorem dX13_parametersIn_129 : decode cX13_parametersIn 129 = .ok (.iconst (-1), 1) := by decide +kernel
theorem dX13_parametersIn_130 : decode cX13_parametersIn 130 = .ok (.ireturn, 1) := by decide +kernel
theorem rs_RX13_785 : mx_res RX13 785 = some (2, 496, 3) := by decide +kernel
theorem mt_X13_isMethodKind : mx_mt 497 = some (yX13_isMethodKind, cX13_isMethodKind, 4, (some .boolean)) := rfl
theorem dX13_isMethodKind_0 : decode cX13_isMethodKind 0 = .ok (.aload_n 0, 1) := by decide +kernel
theorem dX13_isMethodKind_1 : decode cX13_isMethodKind 1 = .ok (.iload_n 1, 1) := by decide +kernel
theorem dX13_isMethodKind_2 : decode cX13_isMethodKind 2 = .ok (.iload_n 2, 1) := by decide +kernel
theorem dX13_isMethodKind_3 : decode cX13_isMethodKind 3 = .ok (.invokestatic 785, 3) := by decide +kernel
theorem dX13_isMethodKind_6 : decode cX13_isMethodKind 6 = .ok (.istore_n 3, 1) := by decide +kernel
theorem dX13_isMethodKind_7 : decode cX13_isMethodKind 7 = .ok (.iload_n 3, 1) := by decide +kernel
theorem dX13_isMethodKind_8 : decode cX13_isMethodKind 8 = .ok (.ifCond .lt 13, 3) := by decide +kernel
theorem dX13_isMethodKind_11 : decode cX13_isMethodKind 11 = .ok (.iload_n 3, 1) := by decide +kernel
theorem dX13_isMethodKind_12 : decode cX13_isMethodKind 12 = .ok (.bipush 6, 2) := by decide +kernel
theorem dX13_isMethodKind_14 : decode cX13_isMethodKind 14 = .ok (.if_icmp .gt 7, 3) := by decide +kernel
theorem dX13_isMethodKind_17 : decode cX13_isMethodKind 17 = .ok (.iconst 1, 1) := by decide +kernel
theorem dX13_isMethodKind_18 : decode cX13_isMethodKind 18 = .ok (.goto 4, 3) := by decide +kernel
theorem dX13_isMethodKind_21 : decode cX13_isMethodKind 21 = .ok (.iconst 0, 1) := by decide +kernel
theorem dX13_isMethodKind_22 : decode cX13_isMethodKind 22 = .ok (.ireturn, 1) := by decide +kernel
theorem rs_RX13_788 : mx_res RX13 788 = some (0, 13, 115) := by decide +kernel
theorem rs_RX13_791 : mx_res RX13 791 = some (1, 491, 2) := by decide +kernel
theorem rs_RX13_794 : mx_res RX13 794 = some (2, 497, 3) := by decide +kernel
theorem rs_RX13_797 : mx_res RX13 797 = some (2, 498, 3) := by decide +kernel
theorem mt_X13_isText : mx_mt 499 = some (yX13_isText, cX13_isText, 5, (some .boolean)) := rfl
theorem dX13_isText_0 : decode cX13_isText 0 = .ok (.aload_n 0, 1) := by decide +kernel
theorem dX13_isText_1 : decode cX13_isText 1 = .ok (.aload_n 0, 1) := by decide +kernel
theorem dX13_isText_2 : decode cX13_isText 2 = .ok (.getfield 788, 3) := by decide +kernel
theorem dX13_isText_5 : decode cX13_isText 5 = .ok (.iload_n 1, 1) := by decide +kernel
theorem dX13_isText_6 : decode cX13_isText 6 = .ok (.invokevirtual 791, 3) := by decide +kernel
theorem dX13_isText_9 : decode cX13_isText 9 = .ok (.istore_n 3, 1) := by decide +kernel
theorem dX13_isText_10 : decode cX13_isText 10 = .ok (.iload_n 3, 1) := by decide +kernel
theorem dX13_isText_11 : decode cX13_isText 11 = .ok (.ifCond .lt 13, 3) := by decide +kernel
theorem dX13_isText_14 : decode cX13_isText 14 = .ok (.aload_n 0, 1) := by decide +kernel
theorem dX13_isText_15 : decode cX13_isText 15 = .ok (.getfield 245, 3) := by decide +kernel
theorem dX13_isText_18 : decode cX13_isText 18 = .ok (.iload_n 3, 1) := by decide +kernel
theorem dX13_isText_19 : decode cX13_isText 19 = .ok (.iaload, 1) := by decide +kernel
theorem dX13_isText_20 : decode cX13_isText 20 = .ok (.iconst 1, 1) := by decide +kernel
theorem dX13_isText_21 : decode cX13_isText 21 = .ok (.if_icmp .eq 5, 3) := by decide +kernel
theorem dX13_isText_24 : decode cX13_isText 24 = .ok (.iconst 0, 1) := by decide +kernel
theorem dX13_isText_25 : decode cX13_isText 25 = .ok (.ireturn, 1) := by decide +kernel
theorem dX13_isText_26 : decode cX13_isText 26 = .ok (.aload_n 0, 1) := by decide +kernel
theorem dX13_isText_27 : decode cX13_isText 27 = .ok (.getfield 245, 3) := by decide +kernel
theorem dX13_isText_30 : decode cX13_isText 30 = .ok (.iload_n 3, 1) := by decide +kernel
theorem dX13_isText_31 : decode cX13_isText 31 = .ok (.iconst 1, 1) := by decide +kernel
theorem dX13_isText_32 : decode cX13_isText 32 = .ok (.iadd, 1) := by decide +kernel
theorem dX13_isText_33 : decode cX13_isText 33 = .ok (.iaload, 1) := by decide +kernel
theorem dX13_isText_34 : decode cX13_isText 34 = .ok (.istore 4, 2) := by decide +kernel
theorem dX13_isText_36 : decode cX13_isText 36 = .ok (.iload_n 2, 1) := by decide +kernel
theorem dX13_isText_37 : decode cX13_isText 37 = .ok (.tableswitch 106 0 3 #[31, 44, 57, 70], 31) := by decide +kernel
theorem dX13_isText_68 : decode cX13_isText 68 = .ok (.aload_n 0, 1) := by decide +kernel
theorem dX13_isText_69 : decode cX13_isText 69 = .ok (.getfield 245, 3) := by decide +kernel
theorem dX13_isText_72 : decode cX13_isText 72 = .ok (.iload_n 3, 1) := by decide +kernel
theorem dX13_isText_73 : decode cX13_isText 73 = .ok (.iconst 2, 1) := by decide +kernel
theorem dX13_isText_74 : decode cX13_isText 74 = .ok (.iadd, 1) := by decide +kernel
theorem dX13_isText_75 : decode cX13_isText 75 = .ok (.iload 4, 2) := by decide +kernel
theorem dX13_isText_77 : decode cX13_isText 77 = .ok (.invokestatic 774, 3) := by decide +kernel
theorem dX13_isText_80 : decode cX13_isText 80 = .ok (.ireturn, 1) := by decide +kernel
theorem dX13_isText_81 : decode cX13_isText 81 = .ok (.aload_n 0, 1) := by decide +kernel
theorem dX13_isText_82 : decode cX13_isText 82 = .ok (.getfield 245, 3) := by decide +kernel
theorem dX13_isText_85 : decode cX13_isText 85 = .ok (.iload_n 3, 1) := by decide +kernel
theorem dX13_isText_86 : decode cX13_isText 86 = .ok (.iconst 2, 1) := by decide +kernel
theorem dX13_isText_87 : decode cX13_isText 87 = .ok (.iadd, 1) := by decide +kernel
theorem dX13_isText_88 : decode cX13_isText 88 = .ok (.iload 4, 2) := by decide +kernel
theorem dX13_isText_90 : decode cX13_isText 90 = .ok (.invokestatic 782, 3) := by decide +kernel
theorem dX13_isText_93 : decode cX13_isText 93 = .ok (.ireturn, 1) := by decide +kernel
theorem dX13_isText_94 : decode cX13_isText 94 = .ok (.aload_n 0, 1) := by decide +kernel
theorem dX13_isText_95 : decode cX13_isText 95 = .ok (.getfield 245, 3) := by decide +kernel
theorem dX13_isText_98 : decode cX13_isText 98 = .ok (.iload_n 3, 1) := by decide +kernel
theorem dX13_isText_99 : decode cX13_isText 99 = .ok (.iconst 2, 1) := by decide +kernel
theorem dX13_isText_100 : decode cX13_isText 100 = .ok (.iadd, 1) := by decide +kernel
theorem dX13_isText_101 : decode cX13_isText 101 = .ok (.iload 4, 2) := by decide +kernel
theorem dX13_isText_103 : decode cX13_isText 103 = .ok (.invokestatic 794, 3) := by decide +kernel
theorem dX13_isText_106 : decode cX13_isText 106 = .ok (.ireturn, 1) := by decide +kernel
theorem dX13_isText_107 : decode cX13_isText 107 = .ok (.aload_n 0, 1) := by decide +kernel
theorem dX13_isText_108 : decode cX13_isText 108 = .ok (.getfield 245, 3) := by decide +kernel
theorem dX13_isText_111 : decode cX13_isText 111 = .ok (.iload_n 3, 1) := by decide +kernel
theorem dX13_isText_112 : decode cX13_isText 112 = .ok (.iconst 2, 1) := by decide +kernel
theorem dX13_isText_113 : decode cX13_isText 113 = .ok (.iadd, 1) := by decide +kernel
theorem dX13_isText_114 : decode cX13_isText 114 = .ok (.iload 4, 2) := by decide +kernel
theorem dX13_isText_116 : decode cX13_isText 116 = .ok (.invokestatic 782, 3) := by decide +kernel
theorem dX13_isText_119 : decode cX13_isText 119 = .ok (.ifCond .ne 18, 3) := by decide +kernel
theorem dX13_isText_122 : decode cX13_isText 122 = .ok (.aload_n 0, 1) := by decide +kernel
theorem dX13_isText_123 : decode cX13_isText 123 = .ok (.getfield 245, 3) := by decide +kernel
theorem dX13_isText_126 : decode cX13_isText 126 = .ok (.iload_n 3, 1) := by decide +kernel
theorem dX13_isText_127 : decode cX13_isText 127 = .ok (.iconst 2, 1) := by decide +kernel
theorem dX13_isText_128 : decode cX13_isText 128 = .ok (.iadd, 1) := by decide +kernel
theorem dX13_isText_129 : decode cX13_isText 129 = .ok (.iload 4, 2) := by decide +kernel
theorem dX13_isText_131 : decode cX13_isText 131 = .ok (.invokestatic 794, 3) := by decide +kernel
theorem dX13_isText_134 : decode cX13_isText 134 = .ok (.ifCond .eq 7, 3) := by decide +kernel
theorem dX13_isText_137 : decode cX13_isText 137 = .ok (.iconst 1, 1) := by decide +kernel
theorem dX13_isText_138 : decode cX13_isText 138 = .ok (.goto 4, 3) := by decide +kernel
theorem dX13_isText_141 : decode cX13_isText 141 = .ok (.iconst 0, 1) := by decide +kernel
theorem dX13_isText_142 : decode cX13_isText 142 = .ok (.ireturn, 1) := by decide +kernel
theorem dX13_isText_143 : decode cX13_isText 143 = .ok (.aload_n 0, 1) := by decide +kernel
theorem dX13_isText_144 : decode cX13_isText 144 = .ok (.getfield 245, 3) := by decide +kernel
theorem dX13_isText_147 : decode cX13_isText 147 = .ok (.iload_n 3, 1) := by decide +kernel
theorem dX13_isText_148 : decode cX13_isText 148 = .ok (.iconst 2, 1) := by decide +kernel
theorem dX13_isText_149 : decode cX13_isText 149 = .ok (.iadd, 1) := by decide +kernel
theorem dX13_isText_150 : decode cX13_isText 150 = .ok (.iload 4, 2) := by decide +kernel
theorem dX13_isText_152 : decode cX13_isText 152 = .ok (.invokestatic 797, 3) := by decide +kernel
theorem dX13_isText_155 : decode cX13_isText 155 = .ok (.ireturn, 1) := by decide +kernel
theorem rs_RX13_764 : mx_res RX13 764 = some (0, 13, 114) := by decide +kernel
theorem ft_13_114 : mx_fty 13 114 = some (.int, false, "ClassMillModel") := by decide +kernel
theorem mt_X13_unfit : mx_mt 490 = some (yX13_unfit, cX13_unfit, 2, none) := rfl
theorem dX13_unfit_0 : decode cX13_unfit 0 = .ok (.aload_n 0, 1) := by decide +kernel
theorem dX13_unfit_1 : decode cX13_unfit 1 = .ok (.getfield 764, 3) := by decide +kernel
theorem dX13_unfit_4 : decode cX13_unfit 4 = .ok (.iconst (-1), 1) := by decide +kernel
theorem dX13_unfit_5 : decode cX13_unfit 5 = .ok (.if_icmp .ne 8, 3) := by decide +kernel
theorem dX13_unfit_8 : decode cX13_unfit 8 = .ok (.aload_n 0, 1) := by decide +kernel
theorem dX13_unfit_9 : decode cX13_unfit 9 = .ok (.iload_n 1, 1) := by decide +kernel
theorem dX13_unfit_10 : decode cX13_unfit 10 = .ok (.putfield 764, 3) := by decide +kernel
theorem dX13_unfit_13 : decode cX13_unfit 13 = .ok (.return_, 1) := by decide +kernel
