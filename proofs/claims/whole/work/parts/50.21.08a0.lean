theorem rs_RX0_141 : mx_res RX0 141 = some (1, 9, 1) := by decide +kernel
theorem rs_RX0_155 : mx_res RX0 155 = some (0, 1, 7) := by decide +kernel
theorem rs_RX0_162 : mx_res RX0 162 = some (1, 11, 1) := by decide +kernel
theorem rs_RX0_165 : mx_res RX0 165 = some (1, 12, 1) := by decide +kernel
theorem rs_RX0_168 : mx_res RX0 168 = some (1, 13, 1) := by decide +kernel
theorem rs_RX0_171 : mx_res RX0 171 = some (1, 15, 1) := by decide +kernel
theorem rs_RX0_174 : mx_res RX0 174 = some (1, 14, 0) := by decide +kernel
theorem rs_RX0_177 : mx_res RX0 177 = some (1, 17, 1) := by decide +kernel
theorem rs_RX0_180 : mx_res RX0 180 = some (1, 18, 1) := by decide +kernel
theorem rs_RX0_183 : mx_res RX0 183 = some (1, 19, 1) := by decide +kernel
theorem rs_RX0_186 : mx_res RX0 186 = some (1, 268, 0) := by decide +kernel
theorem rs_RX0_189 : mx_res RX0 189 = some (1, 20, 1) := by decide +kernel
theorem rs_RX0_192 : mx_res RX0 192 = some (1, 21, 1) := by decide +kernel
theorem rs_RX0_195 : mx_res RX0 195 = some (1, 274, 1) := by decide +kernel
theorem rs_RX0_198 : mx_res RX0 198 = some (1, 10, 1) := by decide +kernel
theorem rs_RX0_201 : mx_res RX0 201 = some (1, 37, 1) := by decide +kernel
theorem rs_RX0_210 : mx_res RX0 210 = some (1, 270, 0) := by decide +kernel
theorem rs_RX0_213 : mx_res RX0 213 = some (0, 1, 1) := by decide +kernel
theorem rs_RX0_219 : mx_res RX0 219 = some (1, 58, 1) := by decide +kernel
theorem rs_RX0_229 : mx_res RX0 229 = some (1, 40, 3) := by decide +kernel
theorem ft_0_9 : mx_fty 0 9 = some (.int, false, "ClassMill$Bodies") := by decide +kernel
theorem ft_0_10 : mx_fty 0 10 = some (.int, false, "ClassMill$Bodies") := by decide +kernel
theorem mt_X0_readBlock : mx_mt 9 = some (yX0_readBlock, cX0_readBlock, 5, (some .boolean)) := rfl
theorem dX0_readBlock_0 : decode cX0_readBlock 0 = .ok (.aload_n 0, 1) := by decide +kernel
theorem dX0_readBlock_1 : decode cX0_readBlock 1 = .ok (.getfield 16, 3) := by decide +kernel
theorem dX0_readBlock_4 : decode cX0_readBlock 4 = .ok (.getfield 155, 3) := by decide +kernel
theorem dX0_readBlock_7 : decode cX0_readBlock 7 = .ok (.istore_n 2, 1) := by decide +kernel
theorem dX0_readBlock_8 : decode cX0_readBlock 8 = .ok (.iconst 1, 1) := by decide +kernel
theorem dX0_readBlock_9 : decode cX0_readBlock 9 = .ok (.istore_n 3, 1) := by decide +kernel
theorem dX0_readBlock_10 : decode cX0_readBlock 10 = .ok (.aload_n 0, 1) := by decide +kernel
theorem dX0_readBlock_11 : decode cX0_readBlock 11 = .ok (.getfield 34, 3) := by decide +kernel
theorem dX0_readBlock_14 : decode cX0_readBlock 14 = .ok (.dup, 1) := by decide +kernel
theorem dX0_readBlock_15 : decode cX0_readBlock 15 = .ok (.getfield 138, 3) := by decide +kernel
theorem dX0_readBlock_18 : decode cX0_readBlock 18 = .ok (.iconst 1, 1) := by decide +kernel
theorem dX0_readBlock_19 : decode cX0_readBlock 19 = .ok (.iadd, 1) := by decide +kernel
theorem dX0_readBlock_20 : decode cX0_readBlock 20 = .ok (.putfield 138, 3) := by decide +kernel
theorem dX0_readBlock_23 : decode cX0_readBlock 23 = .ok (.iconst 0, 1) := by decide +kernel
theorem dX0_readBlock_24 : decode cX0_readBlock 24 = .ok (.istore 4, 2) := by decide +kernel
theorem dX0_readBlock_26 : decode cX0_readBlock 26 = .ok (.iload 4, 2) := by decide +kernel
theorem dX0_readBlock_28 : decode cX0_readBlock 28 = .ok (.sipush 3000, 3) := by decide +kernel
theorem dX0_readBlock_31 : decode cX0_readBlock 31 = .ok (.if_icmp .ge 57, 3) := by decide +kernel
theorem dX0_readBlock_34 : decode cX0_readBlock 34 = .ok (.aload_n 0, 1) := by decide +kernel
theorem dX0_readBlock_35 : decode cX0_readBlock 35 = .ok (.getfield 34, 3) := by decide +kernel
theorem dX0_readBlock_38 : decode cX0_readBlock 38 = .ok (.getfield 89, 3) := by decide +kernel
theorem dX0_readBlock_41 : decode cX0_readBlock 41 = .ok (.ifCond .ne 47, 3) := by decide +kernel
theorem dX0_readBlock_44 : decode cX0_readBlock 44 = .ok (.aload_n 0, 1) := by decide +kernel
theorem dX0_readBlock_45 : decode cX0_readBlock 45 = .ok (.getfield 34, 3) := by decide +kernel
theorem dX0_readBlock_48 : decode cX0_readBlock 48 = .ok (.invokevirtual 158, 3) := by decide +kernel
theorem dX0_readBlock_51 : decode cX0_readBlock 51 = .ok (.bipush 43, 2) := by decide +kernel
theorem dX0_readBlock_53 : decode cX0_readBlock 53 = .ok (.if_icmp .eq 35, 3) := by decide +kernel
theorem dX0_readBlock_56 : decode cX0_readBlock 56 = .ok (.iload_n 3, 1) := by decide +kernel
theorem dX0_readBlock_57 : decode cX0_readBlock 57 = .ok (.ifCond .ne 19, 3) := by decide +kernel
theorem dX0_readBlock_60 : decode cX0_readBlock 60 = .ok (.aload_n 0, 1) := by decide +kernel
theorem dX0_readBlock_61 : decode cX0_readBlock 61 = .ok (.getfield 34, 3) := by decide +kernel
theorem dX0_readBlock_64 : decode cX0_readBlock 64 = .ok (.bipush 9, 2) := by decide +kernel
theorem dX0_readBlock_66 : decode cX0_readBlock 66 = .ok (.aload_n 0, 1) := by decide +kernel
theorem dX0_readBlock_67 : decode cX0_readBlock 67 = .ok (.getfield 34, 3) := by decide +kernel
theorem dX0_readBlock_70 : decode cX0_readBlock 70 = .ok (.getfield 138, 3) := by decide +kernel
theorem dX0_readBlock_73 : decode cX0_readBlock 73 = .ok (.invokevirtual 69, 3) := by decide +kernel
theorem dX0_readBlock_76 : decode cX0_readBlock 76 = .ok (.aload_n 0, 1) := by decide +kernel
theorem dX0_readBlock_77 : decode cX0_readBlock 77 = .ok (.iload_n 1, 1) := by decide +kernel
theorem dX0_readBlock_78 : decode cX0_readBlock 78 = .ok (.invokevirtual 162, 3) := by decide +kernel
theorem dX0_readBlock_81 : decode cX0_readBlock 81 = .ok (.istore_n 3, 1) := by decide +kernel
theorem dX0_readBlock_82 : decode cX0_readBlock 82 = .ok (.iinc 4 1, 3) := by decide +kernel
theorem dX0_readBlock_85 : decode cX0_readBlock 85 = .ok (.goto (-59), 3) := by decide +kernel
theorem dX0_readBlock_88 : decode cX0_readBlock 88 = .ok (.aload_n 0, 1) := by decide +kernel
theorem dX0_readBlock_89 : decode cX0_readBlock 89 = .ok (.getfield 34, 3) := by decide +kernel
theorem dX0_readBlock_92 : decode cX0_readBlock 92 = .ok (.dup, 1) := by decide +kernel
theorem dX0_readBlock_93 : decode cX0_readBlock 93 = .ok (.getfield 138, 3) := by decide +kernel
theorem dX0_readBlock_96 : decode cX0_readBlock 96 = .ok (.iconst 1, 1) := by decide +kernel
theorem dX0_readBlock_97 : decode cX0_readBlock 97 = .ok (.iadd, 1) := by decide +kernel
theorem dX0_readBlock_98 : decode cX0_readBlock 98 = .ok (.putfield 138, 3) := by decide +kernel
theorem dX0_readBlock_101 : decode cX0_readBlock 101 = .ok (.aload_n 0, 1) := by decide +kernel
theorem dX0_readBlock_102 : decode cX0_readBlock 102 = .ok (.getfield 16, 3) := by decide +kernel
theorem dX0_readBlock_105 : decode cX0_readBlock 105 = .ok (.iload_n 2, 1) := by decide +kernel
theorem dX0_readBlock_106 : decode cX0_readBlock 106 = .ok (.putfield 155, 3) := by decide +kernel
theorem dX0_readBlock_109 : decode cX0_readBlock 109 = .ok (.iload_n 3, 1) := by decide +kernel
theorem dX0_readBlock_110 : decode cX0_readBlock 110 = .ok (.ireturn, 1) := by decide +kernel
theorem dX0_readIf_0 : decode cX0_readIf 0 = .ok (.aload_n 0, 1) := by decide +kernel
theorem dX0_readIf_1 : decode cX0_readIf 1 = .ok (.getfield 61, 3) := by decide +kernel
theorem dX0_readIf_4 : decode cX0_readIf 4 = .ok (.iload_n 1, 1) := by decide +kernel
theorem dX0_readIf_5 : decode cX0_readIf 5 = .ok (.invokevirtual 195, 3) := by decide +kernel
theorem dX0_readIf_8 : decode cX0_readIf 8 = .ok (.istore_n 2, 1) := by decide +kernel
theorem dX0_readIf_9 : decode cX0_readIf 9 = .ok (.aload_n 0, 1) := by decide +kernel
theorem dX0_readIf_10 : decode cX0_readIf 10 = .ok (.iload_n 1, 1) := by decide +kernel
theorem dX0_readIf_11 : decode cX0_readIf 11 = .ok (.invokevirtual 198, 3) := by decide +kernel
theorem dX0_readIf_14 : decode cX0_readIf 14 = .ok (.istore_n 3, 1) := by decide +kernel
theorem dX0_readIf_15 : decode cX0_readIf 15 = .ok (.aload_n 0, 1) := by decide +kernel
theorem dX0_readIf_16 : decode cX0_readIf 16 = .ok (.getfield 34, 3) := by decide +kernel
theorem dX0_readIf_19 : decode cX0_readIf 19 = .ok (.invokevirtual 158, 3) := by decide +kernel
theorem dX0_readIf_22 : decode cX0_readIf 22 = .ok (.bipush 15, 2) := by decide +kernel
theorem dX0_readIf_24 : decode cX0_readIf 24 = .ok (.if_icmp .eq 13, 3) := by decide +kernel
theorem dX0_readIf_27 : decode cX0_readIf 27 = .ok (.aload_n 0, 1) := by decide +kernel
theorem dX0_readIf_28 : decode cX0_readIf 28 = .ok (.getfield 16, 3) := by decide +kernel
theorem dX0_readIf_31 : decode cX0_readIf 31 = .ok (.iload_n 2, 1) := by decide +kernel
theorem dX0_readIf_32 : decode cX0_readIf 32 = .ok (.invokevirtual 201, 3) := by decide +kernel
theorem dX0_readIf_35 : decode cX0_readIf 35 = .ok (.iconst 1, 1) := by decide +kernel
theorem dX0_readIf_36 : decode cX0_readIf 36 = .ok (.ireturn, 1) := by decide +kernel
theorem dX0_readIf_37 : decode cX0_readIf 37 = .ok (.aload_n 0, 1) := by decide +kernel
theorem dX0_readIf_38 : decode cX0_readIf 38 = .ok (.getfield 34, 3) := by decide +kernel
theorem dX0_readIf_41 : decode cX0_readIf 41 = .ok (.dup, 1) := by decide +kernel
theorem dX0_readIf_42 : decode cX0_readIf 42 = .ok (.getfield 138, 3) := by decide +kernel
theorem dX0_readIf_45 : decode cX0_readIf 45 = .ok (.iconst 1, 1) := by decide +kernel
theorem dX0_readIf_46 : decode cX0_readIf 46 = .ok (.iadd, 1) := by decide +kernel
theorem dX0_readIf_47 : decode cX0_readIf 47 = .ok (.putfield 138, 3) := by decide +kernel
theorem dX0_readIf_50 : decode cX0_readIf 50 = .ok (.iload_n 3, 1) := by decide +kernel
theorem dX0_readIf_51 : decode cX0_readIf 51 = .ok (.ifCond .eq 17, 3) := by decide +kernel
theorem dX0_readIf_54 : decode cX0_readIf 54 = .ok (.aload_n 0, 1) := by decide +kernel
theorem dX0_readIf_55 : decode cX0_readIf 55 = .ok (.getfield 16, 3) := by decide +kernel
theorem dX0_readIf_58 : decode cX0_readIf 58 = .ok (.sipush 167, 3) := by decide +kernel
theorem dX0_readIf_61 : decode cX0_readIf 61 = .ok (.iconst 0, 1) := by decide +kernel
theorem dX0_readIf_62 : decode cX0_readIf 62 = .ok (.invokevirtual 204, 3) := by decide +kernel
theorem dX0_readIf_65 : decode cX0_readIf 65 = .ok (.goto 4, 3) := by decide +kernel
theorem dX0_readIf_68 : decode cX0_readIf 68 = .ok (.iconst (-1), 1) := by decide +kernel
theorem dX0_readIf_69 : decode cX0_readIf 69 = .ok (.istore 4, 2) := by decide +kernel
theorem dX0_readIf_71 : decode cX0_readIf 71 = .ok (.aload_n 0, 1) := by decide +kernel
theorem dX0_readIf_72 : decode cX0_readIf 72 = .ok (.getfield 16, 3) := by decide +kernel
theorem dX0_readIf_75 : decode cX0_readIf 75 = .ok (.iload_n 2, 1) := by decide +kernel
theorem dX0_readIf_76 : decode cX0_readIf 76 = .ok (.invokevirtual 201, 3) := by decide +kernel
theorem dX0_readIf_79 : decode cX0_readIf 79 = .ok (.aload_n 0, 1) := by decide +kernel
theorem dX0_readIf_80 : decode cX0_readIf 80 = .ok (.iload_n 1, 1) := by decide +kernel
theorem dX0_readIf_81 : decode cX0_readIf 81 = .ok (.invokevirtual 198, 3) := by decide +kernel
theorem dX0_readIf_84 : decode cX0_readIf 84 = .ok (.istore 5, 2) := by decide +kernel
theorem dX0_readIf_86 : decode cX0_readIf 86 = .ok (.iload_n 3, 1) := by decide +kernel
theorem dX0_readIf_87 : decode cX0_readIf 87 = .ok (.ifCond .eq 12, 3) := by decide +kernel
theorem dX0_readIf_90 : decode cX0_readIf 90 = .ok (.aload_n 0, 1) := by decide +kernel
theorem dX0_readIf_91 : decode cX0_readIf 91 = .ok (.getfield 16, 3) := by decide +kernel
theorem dX0_readIf_94 : decode cX0_readIf 94 = .ok (.iload 4, 2) := by decide +kernel
theorem dX0_readIf_96 : decode cX0_readIf 96 = .ok (.invokevirtual 201, 3) := by decide +kernel
theorem dX0_readIf_99 : decode cX0_readIf 99 = .ok (.iload_n 3, 1) := by decide +kernel
theorem dX0_readIf_100 : decode cX0_readIf 100 = .ok (.ifCond .ne 8, 3) := by decide +kernel
theorem dX0_readIf_103 : decode cX0_readIf 103 = .ok (.iload 5, 2) := by decide +kernel
theorem dX0_readIf_105 : decode cX0_readIf 105 = .ok (.ifCond .eq 7, 3) := by decide +kernel
theorem dX0_readIf_108 : decode cX0_readIf 108 = .ok (.iconst 1, 1) := by decide +kernel
theorem dX0_readIf_109 : decode cX0_readIf 109 = .ok (.goto 4, 3) := by decide +kernel
theorem dX0_readIf_112 : decode cX0_readIf 112 = .ok (.iconst 0, 1) := by decide +kernel
theorem dX0_readIf_113 : decode cX0_readIf 113 = .ok (.ireturn, 1) := by decide +kernel
theorem dX0_readPart_0 : decode cX0_readPart 0 = .ok (.aload_n 0, 1) := by decide +kernel
theorem dX0_readPart_1 : decode cX0_readPart 1 = .ok (.getfield 16, 3) := by decide +kernel
theorem dX0_readPart_4 : decode cX0_readPart 4 = .ok (.getfield 155, 3) := by decide +kernel
theorem dX0_readPart_7 : decode cX0_readPart 7 = .ok (.istore_n 2, 1) := by decide +kernel
theorem dX0_readPart_8 : decode cX0_readPart 8 = .ok (.aload_n 0, 1) := by decide +kernel
theorem dX0_readPart_9 : decode cX0_readPart 9 = .ok (.iload_n 1, 1) := by decide +kernel
theorem dX0_readPart_10 : decode cX0_readPart 10 = .ok (.invokevirtual 162, 3) := by decide +kernel
theorem dX0_readPart_13 : decode cX0_readPart 13 = .ok (.istore_n 3, 1) := by decide +kernel
theorem dX0_readPart_14 : decode cX0_readPart 14 = .ok (.aload_n 0, 1) := by decide +kernel
theorem dX0_readPart_15 : decode cX0_readPart 15 = .ok (.getfield 16, 3) := by decide +kernel
theorem dX0_readPart_18 : decode cX0_readPart 18 = .ok (.iload_n 2, 1) := by decide +kernel
theorem dX0_readPart_19 : decode cX0_readPart 19 = .ok (.putfield 155, 3) := by decide +kernel
theorem dX0_readPart_22 : decode cX0_readPart 22 = .ok (.iload_n 3, 1) := by decide +kernel
theorem dX0_readPart_23 : decode cX0_readPart 23 = .ok (.ireturn, 1) := by decide +kernel
theorem dX0_readStatement_0 : decode cX0_readStatement 0 = .ok (.iload_n 1, 1) := by decide +kernel
theorem dX0_readStatement_1 : decode cX0_readStatement 1 = .ok (.bipush 42, 2) := by decide +kernel
theorem dX0_readStatement_3 : decode cX0_readStatement 3 = .ok (.if_icmp .le 5, 3) := by decide +kernel
theorem dX0_readStatement_6 : decode cX0_readStatement 6 = .ok (.iconst 0, 1) := by decide +kernel
theorem dX0_readStatement_7 : decode cX0_readStatement 7 = .ok (.ireturn, 1) := by decide +kernel
theorem dX0_readStatement_8 : decode cX0_readStatement 8 = .ok (.aload_n 0, 1) := by decide +kernel
theorem dX0_readStatement_9 : decode cX0_readStatement 9 = .ok (.getfield 34, 3) := by decide +kernel
theorem dX0_readStatement_12 : decode cX0_readStatement 12 = .ok (.invokevirtual 158, 3) := by decide +kernel
theorem dX0_readStatement_15 : decode cX0_readStatement 15 = .ok (.tableswitch 202 11 42 #[173, 202, 202, 173, 202, 202, 202, 149, 202, 202, 202, 202, 194, 178, 202, 202, 186, 202, 165, 202, 157, 202, 202, 202, 202, 202, 202, 202, 202, 202, 202, 141], 141) := by decide +kernel
theorem dX0_readStatement_156 : decode cX0_readStatement 156 = .ok (.aload_n 0, 1) := by decide +kernel
theorem dX0_readStatement_157 : decode cX0_readStatement 157 = .ok (.iload_n 1, 1) := by decide +kernel
theorem dX0_readStatement_158 : decode cX0_readStatement 158 = .ok (.iconst 1, 1) := by decide +kernel
theorem dX0_readStatement_159 : decode cX0_readStatement 159 = .ok (.iadd, 1) := by decide +kernel
theorem dX0_readStatement_160 : decode cX0_readStatement 160 = .ok (.invokevirtual 141, 3) := by decide +kernel
theorem dX0_readStatement_163 : decode cX0_readStatement 163 = .ok (.ireturn, 1) := by decide +kernel
theorem dX0_readStatement_164 : decode cX0_readStatement 164 = .ok (.aload_n 0, 1) := by decide +kernel
theorem dX0_readStatement_165 : decode cX0_readStatement 165 = .ok (.iload_n 1, 1) := by decide +kernel
theorem dX0_readStatement_166 : decode cX0_readStatement 166 = .ok (.iconst 1, 1) := by decide +kernel
theorem dX0_readStatement_167 : decode cX0_readStatement 167 = .ok (.iadd, 1) := by decide +kernel
theorem dX0_readStatement_168 : decode cX0_readStatement 168 = .ok (.invokevirtual 165, 3) := by decide +kernel
theorem dX0_readStatement_171 : decode cX0_readStatement 171 = .ok (.ireturn, 1) := by decide +kernel
theorem dX0_readStatement_172 : decode cX0_readStatement 172 = .ok (.aload_n 0, 1) := by decide +kernel
theorem dX0_readStatement_173 : decode cX0_readStatement 173 = .ok (.iload_n 1, 1) := by decide +kernel
theorem dX0_readStatement_174 : decode cX0_readStatement 174 = .ok (.iconst 1, 1) := by decide +kernel
theorem dX0_readStatement_175 : decode cX0_readStatement 175 = .ok (.iadd, 1) := by decide +kernel
theorem dX0_readStatement_176 : decode cX0_readStatement 176 = .ok (.invokevirtual 168, 3) := by decide +kernel
theorem dX0_readStatement_179 : decode cX0_readStatement 179 = .ok (.ireturn, 1) := by decide +kernel
theorem dX0_readStatement_180 : decode cX0_readStatement 180 = .ok (.aload_n 0, 1) := by decide +kernel
theorem dX0_readStatement_181 : decode cX0_readStatement 181 = .ok (.iload_n 1, 1) := by decide +kernel
theorem dX0_readStatement_182 : decode cX0_readStatement 182 = .ok (.iconst 1, 1) := by decide +kernel
theorem dX0_readStatement_183 : decode cX0_readStatement 183 = .ok (.iadd, 1) := by decide +kernel
theorem dX0_readStatement_184 : decode cX0_readStatement 184 = .ok (.invokevirtual 171, 3) := by decide +kernel
theorem dX0_readStatement_187 : decode cX0_readStatement 187 = .ok (.ireturn, 1) := by decide +kernel
theorem dX0_readStatement_188 : decode cX0_readStatement 188 = .ok (.aload_n 0, 1) := by decide +kernel
theorem dX0_readStatement_189 : decode cX0_readStatement 189 = .ok (.invokevirtual 174, 3) := by decide +kernel
theorem dX0_readStatement_192 : decode cX0_readStatement 192 = .ok (.ireturn, 1) := by decide +kernel
theorem dX0_readStatement_193 : decode cX0_readStatement 193 = .ok (.aload_n 0, 1) := by decide +kernel
theorem dX0_readStatement_194 : decode cX0_readStatement 194 = .ok (.iload_n 1, 1) := by decide +kernel
theorem dX0_readStatement_195 : decode cX0_readStatement 195 = .ok (.iconst 1, 1) := by decide +kernel
theorem dX0_readStatement_196 : decode cX0_readStatement 196 = .ok (.iadd, 1) := by decide +kernel
theorem dX0_readStatement_197 : decode cX0_readStatement 197 = .ok (.invokevirtual 177, 3) := by decide +kernel
theorem dX0_readStatement_200 : decode cX0_readStatement 200 = .ok (.ireturn, 1) := by decide +kernel
theorem dX0_readStatement_201 : decode cX0_readStatement 201 = .ok (.aload_n 0, 1) := by decide +kernel
theorem dX0_readStatement_202 : decode cX0_readStatement 202 = .ok (.iload_n 1, 1) := by decide +kernel
theorem dX0_readStatement_203 : decode cX0_readStatement 203 = .ok (.iconst 1, 1) := by decide +kernel
theorem dX0_readStatement_204 : decode cX0_readStatement 204 = .ok (.iadd, 1) := by decide +kernel
theorem dX0_readStatement_205 : decode cX0_readStatement 205 = .ok (.invokevirtual 180, 3) := by decide +kernel
theorem dX0_readStatement_208 : decode cX0_readStatement 208 = .ok (.ireturn, 1) := by decide +kernel
theorem dX0_readStatement_209 : decode cX0_readStatement 209 = .ok (.aload_n 0, 1) := by decide +kernel
theorem dX0_readStatement_210 : decode cX0_readStatement 210 = .ok (.iload_n 1, 1) := by decide +kernel
theorem dX0_readStatement_211 : decode cX0_readStatement 211 = .ok (.iconst 1, 1) := by decide +kernel
theorem dX0_readStatement_212 : decode cX0_readStatement 212 = .ok (.iadd, 1) := by decide +kernel
theorem dX0_readStatement_213 : decode cX0_readStatement 213 = .ok (.invokevirtual 183, 3) := by decide +kernel
theorem dX0_readStatement_216 : decode cX0_readStatement 216 = .ok (.ireturn, 1) := by decide +kernel
theorem dX0_readStatement_217 : decode cX0_readStatement 217 = .ok (.aload_n 0, 1) := by decide +kernel
theorem dX0_readStatement_218 : decode cX0_readStatement 218 = .ok (.getfield 34, 3) := by decide +kernel
theorem dX0_readStatement_221 : decode cX0_readStatement 221 = .ok (.invokevirtual 186, 3) := by decide +kernel
theorem dX0_readStatement_224 : decode cX0_readStatement 224 = .ok (.ifCond .eq 13, 3) := by decide +kernel
theorem dX0_readStatement_227 : decode cX0_readStatement 227 = .ok (.aload_n 0, 1) := by decide +kernel
theorem dX0_readStatement_228 : decode cX0_readStatement 228 = .ok (.iload_n 1, 1) := by decide +kernel
theorem dX0_readStatement_229 : decode cX0_readStatement 229 = .ok (.iconst 1, 1) := by decide +kernel
theorem dX0_readStatement_230 : decode cX0_readStatement 230 = .ok (.iadd, 1) := by decide +kernel
theorem dX0_readStatement_231 : decode cX0_readStatement 231 = .ok (.invokevirtual 189, 3) := by decide +kernel
theorem dX0_readStatement_234 : decode cX0_readStatement 234 = .ok (.goto 10, 3) := by decide +kernel
theorem dX0_readStatement_237 : decode cX0_readStatement 237 = .ok (.aload_n 0, 1) := by decide +kernel
theorem dX0_readStatement_238 : decode cX0_readStatement 238 = .ok (.iload_n 1, 1) := by decide +kernel
theorem dX0_readStatement_239 : decode cX0_readStatement 239 = .ok (.iconst 1, 1) := by decide +kernel
theorem dX0_readStatement_240 : decode cX0_readStatement 240 = .ok (.iadd, 1) := by decide +kernel
theorem dX0_readStatement_241 : decode cX0_readStatement 241 = .ok (.invokevirtual 192, 3) := by decide +kernel
theorem dX0_readStatement_244 : decode cX0_readStatement 244 = .ok (.ireturn, 1) := by decide +kernel
theorem dX0_readTry_0 : decode cX0_readTry 0 = .ok (.aload_n 0, 1) := by decide +kernel
theorem dX0_readTry_1 : decode cX0_readTry 1 = .ok (.getfield 16, 3) := by decide +kernel
theorem dX0_readTry_4 : decode cX0_readTry 4 = .ok (.getfield 213, 3) := by decide +kernel
theorem dX0_readTry_7 : decode cX0_readTry 7 = .ok (.istore_n 2, 1) := by decide +kernel
theorem dX0_readTry_8 : decode cX0_readTry 8 = .ok (.aload_n 0, 1) := by decide +kernel
theorem dX0_readTry_9 : decode cX0_readTry 9 = .ok (.getfield 34, 3) := by decide +kernel
theorem dX0_readTry_12 : decode cX0_readTry 12 = .ok (.dup, 1) := by decide +kernel
theorem dX0_readTry_13 : decode cX0_readTry 13 = .ok (.getfield 138, 3) := by decide +kernel
theorem dX0_readTry_16 : decode cX0_readTry 16 = .ok (.iconst 1, 1) := by decide +kernel
theorem dX0_readTry_17 : decode cX0_readTry 17 = .ok (.iadd, 1) := by decide +kernel
theorem dX0_readTry_18 : decode cX0_readTry 18 = .ok (.putfield 138, 3) := by decide +kernel
theorem dX0_readTry_21 : decode cX0_readTry 21 = .ok (.aload_n 0, 1) := by decide +kernel
theorem dX0_readTry_22 : decode cX0_readTry 22 = .ok (.getfield 16, 3) := by decide +kernel
theorem dX0_readTry_25 : decode cX0_readTry 25 = .ok (.iconst 0, 1) := by decide +kernel
theorem dX0_readTry_26 : decode cX0_readTry 26 = .ok (.invokevirtual 147, 3) := by decide +kernel
theorem dX0_readTry_29 : decode cX0_readTry 29 = .ok (.aload_n 0, 1) := by decide +kernel
theorem dX0_readTry_30 : decode cX0_readTry 30 = .ok (.iload_n 1, 1) := by decide +kernel
theorem dX0_readTry_31 : decode cX0_readTry 31 = .ok (.invokevirtual 141, 3) := by decide +kernel
theorem dX0_readTry_34 : decode cX0_readTry 34 = .ok (.istore_n 3, 1) := by decide +kernel
theorem dX0_readTry_35 : decode cX0_readTry 35 = .ok (.aload_n 0, 1) := by decide +kernel
theorem dX0_readTry_36 : decode cX0_readTry 36 = .ok (.getfield 16, 3) := by decide +kernel
theorem dX0_readTry_39 : decode cX0_readTry 39 = .ok (.getfield 213, 3) := by decide +kernel
theorem dX0_readTry_42 : decode cX0_readTry 42 = .ok (.istore 4, 2) := by decide +kernel
theorem dX0_readTry_44 : decode cX0_readTry 44 = .ok (.iload_n 3, 1) := by decide +kernel
theorem dX0_readTry_45 : decode cX0_readTry 45 = .ok (.ifCond .eq 17, 3) := by decide +kernel
theorem dX0_readTry_48 : decode cX0_readTry 48 = .ok (.aload_n 0, 1) := by decide +kernel
theorem dX0_readTry_49 : decode cX0_readTry 49 = .ok (.getfield 16, 3) := by decide +kernel
theorem dX0_readTry_52 : decode cX0_readTry 52 = .ok (.sipush 167, 3) := by decide +kernel
theorem dX0_readTry_55 : decode cX0_readTry 55 = .ok (.iconst 0, 1) := by decide +kernel
theorem dX0_readTry_56 : decode cX0_readTry 56 = .ok (.invokevirtual 204, 3) := by decide +kernel
theorem dX0_readTry_59 : decode cX0_readTry 59 = .ok (.goto 4, 3) := by decide +kernel
theorem dX0_readTry_62 : decode cX0_readTry 62 = .ok (.iconst (-1), 1) := by decide +kernel
theorem dX0_readTry_63 : decode cX0_readTry 63 = .ok (.istore 5, 2) := by decide +kernel
theorem dX0_readTry_65 : decode cX0_readTry 65 = .ok (.aload_n 0, 1) := by decide +kernel
theorem dX0_readTry_66 : decode cX0_readTry 66 = .ok (.getfield 34, 3) := by decide +kernel
theorem dX0_readTry_69 : decode cX0_readTry 69 = .ok (.getfield 138, 3) := by decide +kernel
theorem dX0_readTry_72 : decode cX0_readTry 72 = .ok (.iconst 2, 1) := by decide +kernel
theorem dX0_readTry_73 : decode cX0_readTry 73 = .ok (.iadd, 1) := by decide +kernel
theorem dX0_readTry_74 : decode cX0_readTry 74 = .ok (.istore 6, 2) := by decide +kernel
theorem dX0_readTry_76 : decode cX0_readTry 76 = .ok (.aload_n 0, 1) := by decide +kernel
theorem dX0_readTry_77 : decode cX0_readTry 77 = .ok (.getfield 38, 3) := by decide +kernel
theorem dX0_readTry_80 : decode cX0_readTry 80 = .ok (.iload 6, 2) := by decide +kernel
theorem dX0_readTry_82 : decode cX0_readTry 82 = .ok (.invokevirtual 219, 3) := by decide +kernel
theorem dX0_readTry_85 : decode cX0_readTry 85 = .ok (.istore 7, 2) := by decide +kernel
theorem dX0_readTry_87 : decode cX0_readTry 87 = .ok (.iload 7, 2) := by decide +kernel
theorem dX0_readTry_89 : decode cX0_readTry 89 = .ok (.iconst (-1), 1) := by decide +kernel
theorem dX0_readTry_90 : decode cX0_readTry 90 = .ok (.if_icmp .ne 16, 3) := by decide +kernel
theorem dX0_readTry_93 : decode cX0_readTry 93 = .ok (.aload_n 0, 1) := by decide +kernel
theorem dX0_readTry_94 : decode cX0_readTry 94 = .ok (.getfield 34, 3) := by decide +kernel
theorem dX0_readTry_97 : decode cX0_readTry 97 = .ok (.iconst 5, 1) := by decide +kernel
theorem dX0_readTry_98 : decode cX0_readTry 98 = .ok (.iload 6, 2) := by decide +kernel
theorem dX0_readTry_100 : decode cX0_readTry 100 = .ok (.invokevirtual 69, 3) := by decide +kernel
theorem dX0_readTry_103 : decode cX0_readTry 103 = .ok (.goto 27, 3) := by decide +kernel
theorem dX0_readTry_106 : decode cX0_readTry 106 = .ok (.aload_n 0, 1) := by decide +kernel
theorem dX0_readTry_107 : decode cX0_readTry 107 = .ok (.getfield 46, 3) := by decide +kernel
theorem dX0_readTry_110 : decode cX0_readTry 110 = .ok (.iload 7, 2) := by decide +kernel
theorem dX0_readTry_112 : decode cX0_readTry 112 = .ok (.iconst 1, 1) := by decide +kernel
theorem dX0_readTry_113 : decode cX0_readTry 113 = .ok (.invokevirtual 222, 3) := by decide +kernel
theorem dX0_readTry_116 : decode cX0_readTry 116 = .ok (.ifCond .ne 14, 3) := by decide +kernel
theorem dX0_readTry_119 : decode cX0_readTry 119 = .ok (.aload_n 0, 1) := by decide +kernel
theorem dX0_readTry_120 : decode cX0_readTry 120 = .ok (.getfield 34, 3) := by decide +kernel
theorem dX0_readTry_123 : decode cX0_readTry 123 = .ok (.bipush 6, 2) := by decide +kernel
theorem dX0_readTry_125 : decode cX0_readTry 125 = .ok (.iload 6, 2) := by decide +kernel
theorem dX0_readTry_127 : decode cX0_readTry 127 = .ok (.invokevirtual 69, 3) := by decide +kernel
theorem dX0_readTry_130 : decode cX0_readTry 130 = .ok (.aload_n 0, 1) := by decide +kernel
theorem dX0_readTry_131 : decode cX0_readTry 131 = .ok (.iload 6, 2) := by decide +kernel
theorem dX0_readTry_133 : decode cX0_readTry 133 = .ok (.iconst 1, 1) := by decide +kernel
theorem dX0_readTry_134 : decode cX0_readTry 134 = .ok (.iadd, 1) := by decide +kernel
theorem dX0_readTry_135 : decode cX0_readTry 135 = .ok (.invokevirtual 226, 3) := by decide +kernel
theorem dX0_readTry_138 : decode cX0_readTry 138 = .ok (.aload_n 0, 1) := by decide +kernel
theorem dX0_readTry_139 : decode cX0_readTry 139 = .ok (.getfield 16, 3) := by decide +kernel
theorem dX0_readTry_142 : decode cX0_readTry 142 = .ok (.iload_n 2, 1) := by decide +kernel
theorem dX0_readTry_143 : decode cX0_readTry 143 = .ok (.iload 4, 2) := by decide +kernel
theorem dX0_readTry_145 : decode cX0_readTry 145 = .ok (.iload 7, 2) := by decide +kernel
theorem dX0_readTry_147 : decode cX0_readTry 147 = .ok (.invokevirtual 229, 3) := by decide +kernel
theorem dX0_readTry_150 : decode cX0_readTry 150 = .ok (.aload_n 0, 1) := by decide +kernel
theorem dX0_readTry_151 : decode cX0_readTry 151 = .ok (.getfield 16, 3) := by decide +kernel
theorem dX0_readTry_154 : decode cX0_readTry 154 = .ok (.getfield 155, 3) := by decide +kernel
theorem dX0_readTry_157 : decode cX0_readTry 157 = .ok (.istore 8, 2) := by decide +kernel
theorem dX0_readTry_159 : decode cX0_readTry 159 = .ok (.aload_n 0, 1) := by decide +kernel
theorem dX0_readTry_160 : decode cX0_readTry 160 = .ok (.getfield 16, 3) := by decide +kernel
theorem dX0_readTry_163 : decode cX0_readTry 163 = .ok (.aload_n 0, 1) := by decide +kernel
theorem dX0_readTry_164 : decode cX0_readTry 164 = .ok (.getfield 16, 3) := by decide +kernel
theorem dX0_readTry_167 : decode cX0_readTry 167 = .ok (.aload_n 0, 1) := by decide +kernel
theorem dX0_readTry_168 : decode cX0_readTry 168 = .ok (.getfield 34, 3) := by decide +kernel
theorem dX0_readTry_171 : decode cX0_readTry 171 = .ok (.iload 6, 2) := by decide +kernel
theorem dX0_readTry_173 : decode cX0_readTry 173 = .ok (.iconst 1, 1) := by decide +kernel
theorem dX0_readTry_174 : decode cX0_readTry 174 = .ok (.iadd, 1) := by decide +kernel
theorem dX0_readTry_175 : decode cX0_readTry 175 = .ok (.invokevirtual 233, 3) := by decide +kernel
theorem dX0_readTry_178 : decode cX0_readTry 178 = .ok (.iload 7, 2) := by decide +kernel
theorem dX0_readTry_180 : decode cX0_readTry 180 = .ok (.invokevirtual 110, 3) := by decide +kernel
theorem dX0_readTry_183 : decode cX0_readTry 183 = .ok (.iload 7, 2) := by decide +kernel
theorem dX0_readTry_185 : decode cX0_readTry 185 = .ok (.invokevirtual 236, 3) := by decide +kernel
theorem dX0_readTry_188 : decode cX0_readTry 188 = .ok (.aload_n 0, 1) := by decide +kernel
theorem dX0_readTry_189 : decode cX0_readTry 189 = .ok (.getfield 34, 3) := by decide +kernel
theorem dX0_readTry_192 : decode cX0_readTry 192 = .ok (.iload 6, 2) := by decide +kernel
theorem dX0_readTry_194 : decode cX0_readTry 194 = .ok (.iconst 3, 1) := by decide +kernel
theorem dX0_readTry_195 : decode cX0_readTry 195 = .ok (.iadd, 1) := by decide +kernel
theorem dX0_readTry_196 : decode cX0_readTry 196 = .ok (.putfield 138, 3) := by decide +kernel
theorem dX0_readTry_199 : decode cX0_readTry 199 = .ok (.aload_n 0, 1) := by decide +kernel
theorem dX0_readTry_200 : decode cX0_readTry 200 = .ok (.iload_n 1, 1) := by decide +kernel
theorem dX0_readTry_201 : decode cX0_readTry 201 = .ok (.invokevirtual 141, 3) := by decide +kernel
theorem dX0_readTry_204 : decode cX0_readTry 204 = .ok (.istore 9, 2) := by decide +kernel
theorem dX0_readTry_206 : decode cX0_readTry 206 = .ok (.aload_n 0, 1) := by decide +kernel
theorem dX0_readTry_207 : decode cX0_readTry 207 = .ok (.getfield 16, 3) := by decide +kernel
theorem dX0_readTry_210 : decode cX0_readTry 210 = .ok (.iload 8, 2) := by decide +kernel
theorem dX0_readTry_212 : decode cX0_readTry 212 = .ok (.putfield 155, 3) := by decide +kernel
theorem dX0_readTry_215 : decode cX0_readTry 215 = .ok (.iload_n 3, 1) := by decide +kernel
theorem dX0_readTry_216 : decode cX0_readTry 216 = .ok (.ifCond .eq 12, 3) := by decide +kernel
theorem dX0_readTry_219 : decode cX0_readTry 219 = .ok (.aload_n 0, 1) := by decide +kernel
theorem dX0_readTry_220 : decode cX0_readTry 220 = .ok (.getfield 16, 3) := by decide +kernel
theorem dX0_readTry_223 : decode cX0_readTry 223 = .ok (.iload 5, 2) := by decide +kernel
theorem dX0_readTry_225 : decode cX0_readTry 225 = .ok (.invokevirtual 201, 3) := by decide +kernel
theorem dX0_readTry_228 : decode cX0_readTry 228 = .ok (.iload_n 3, 1) := by decide +kernel
theorem dX0_readTry_229 : decode cX0_readTry 229 = .ok (.ifCond .ne 8, 3) := by decide +kernel
theorem dX0_readTry_232 : decode cX0_readTry 232 = .ok (.iload 9, 2) := by decide +kernel
theorem dX0_readTry_234 : decode cX0_readTry 234 = .ok (.ifCond .eq 7, 3) := by decide +kernel
theorem dX0_readTry_237 : decode cX0_readTry 237 = .ok (.iconst 1, 1) := by decide +kernel
theorem dX0_readTry_238 : decode cX0_readTry 238 = .ok (.goto 4, 3) := by decide +kernel
theorem dX0_readTry_241 : decode cX0_readTry 241 = .ok (.iconst 0, 1) := by decide +kernel
theorem dX0_readTry_242 : decode cX0_readTry 242 = .ok (.ireturn, 1) := by decide +kernel
theorem dX0_readWhile_0 : decode cX0_readWhile 0 = .ok (.aload_n 0, 1) := by decide +kernel
theorem dX0_readWhile_1 : decode cX0_readWhile 1 = .ok (.getfield 129, 3) := by decide +kernel
theorem dX0_readWhile_4 : decode cX0_readWhile 4 = .ok (.istore_n 2, 1) := by decide +kernel
theorem dX0_readWhile_5 : decode cX0_readWhile 5 = .ok (.aload_n 0, 1) := by decide +kernel
theorem dX0_readWhile_6 : decode cX0_readWhile 6 = .ok (.getfield 207, 3) := by decide +kernel
theorem dX0_readWhile_9 : decode cX0_readWhile 9 = .ok (.istore_n 3, 1) := by decide +kernel
theorem dX0_readWhile_10 : decode cX0_readWhile 10 = .ok (.aload_n 0, 1) := by decide +kernel
theorem dX0_readWhile_11 : decode cX0_readWhile 11 = .ok (.getfield 132, 3) := by decide +kernel
theorem dX0_readWhile_14 : decode cX0_readWhile 14 = .ok (.istore 4, 2) := by decide +kernel
theorem dX0_readWhile_16 : decode cX0_readWhile 16 = .ok (.aload_n 0, 1) := by decide +kernel
theorem dX0_readWhile_17 : decode cX0_readWhile 17 = .ok (.getfield 34, 3) := by decide +kernel
theorem dX0_readWhile_20 : decode cX0_readWhile 20 = .ok (.invokevirtual 210, 3) := by decide +kernel
theorem dX0_readWhile_23 : decode cX0_readWhile 23 = .ok (.istore 5, 2) := by decide +kernel
theorem dX0_readWhile_25 : decode cX0_readWhile 25 = .ok (.aload_n 0, 1) := by decide +kernel
theorem dX0_readWhile_26 : decode cX0_readWhile 26 = .ok (.getfield 16, 3) := by decide +kernel
theorem dX0_readWhile_29 : decode cX0_readWhile 29 = .ok (.getfield 213, 3) := by decide +kernel
theorem dX0_readWhile_32 : decode cX0_readWhile 32 = .ok (.istore 6, 2) := by decide +kernel
theorem dX0_readWhile_34 : decode cX0_readWhile 34 = .ok (.iconst (-1), 1) := by decide +kernel
theorem dX0_readWhile_35 : decode cX0_readWhile 35 = .ok (.istore 7, 2) := by decide +kernel
theorem dX0_readWhile_37 : decode cX0_readWhile 37 = .ok (.iload 5, 2) := by decide +kernel
theorem dX0_readWhile_39 : decode cX0_readWhile 39 = .ok (.ifCond .eq 19, 3) := by decide +kernel
theorem dX0_readWhile_42 : decode cX0_readWhile 42 = .ok (.aload_n 0, 1) := by decide +kernel
theorem dX0_readWhile_43 : decode cX0_readWhile 43 = .ok (.getfield 34, 3) := by decide +kernel
theorem dX0_readWhile_46 : decode cX0_readWhile 46 = .ok (.dup, 1) := by decide +kernel
theorem dX0_readWhile_47 : decode cX0_readWhile 47 = .ok (.getfield 138, 3) := by decide +kernel
theorem dX0_readWhile_50 : decode cX0_readWhile 50 = .ok (.iconst 4, 1) := by decide +kernel
theorem dX0_readWhile_51 : decode cX0_readWhile 51 = .ok (.iadd, 1) := by decide +kernel
theorem dX0_readWhile_52 : decode cX0_readWhile 52 = .ok (.putfield 138, 3) := by decide +kernel
theorem dX0_readWhile_55 : decode cX0_readWhile 55 = .ok (.goto 13, 3) := by decide +kernel
theorem dX0_readWhile_58 : decode cX0_readWhile 58 = .ok (.aload_n 0, 1) := by decide +kernel
theorem dX0_readWhile_59 : decode cX0_readWhile 59 = .ok (.getfield 61, 3) := by decide +kernel
theorem dX0_readWhile_62 : decode cX0_readWhile 62 = .ok (.iload_n 1, 1) := by decide +kernel
theorem dX0_readWhile_63 : decode cX0_readWhile 63 = .ok (.invokevirtual 195, 3) := by decide +kernel
theorem dX0_readWhile_66 : decode cX0_readWhile 66 = .ok (.istore 7, 2) := by decide +kernel
theorem dX0_readWhile_68 : decode cX0_readWhile 68 = .ok (.aload_n 0, 1) := by decide +kernel
theorem dX0_readWhile_69 : decode cX0_readWhile 69 = .ok (.iload 6, 2) := by decide +kernel
theorem dX0_readWhile_71 : decode cX0_readWhile 71 = .ok (.putfield 129, 3) := by decide +kernel
theorem dX0_readWhile_74 : decode cX0_readWhile 74 = .ok (.aload_n 0, 1) := by decide +kernel
theorem dX0_readWhile_75 : decode cX0_readWhile 75 = .ok (.aload_n 0, 1) := by decide +kernel
theorem dX0_readWhile_76 : decode cX0_readWhile 76 = .ok (.getfield 16, 3) := by decide +kernel
theorem dX0_readWhile_79 : decode cX0_readWhile 79 = .ok (.getfield 155, 3) := by decide +kernel
theorem dX0_readWhile_82 : decode cX0_readWhile 82 = .ok (.putfield 207, 3) := by decide +kernel
theorem dX0_readWhile_85 : decode cX0_readWhile 85 = .ok (.aload_n 0, 1) := by decide +kernel
theorem dX0_readWhile_86 : decode cX0_readWhile 86 = .ok (.iload_n 1, 1) := by decide +kernel
theorem dX0_readWhile_87 : decode cX0_readWhile 87 = .ok (.invokevirtual 198, 3) := by decide +kernel
theorem dX0_readWhile_90 : decode cX0_readWhile 90 = .ok (.ifCond .eq 19, 3) := by decide +kernel
theorem dX0_readWhile_93 : decode cX0_readWhile 93 = .ok (.aload_n 0, 1) := by decide +kernel
theorem dX0_readWhile_94 : decode cX0_readWhile 94 = .ok (.getfield 16, 3) := by decide +kernel
theorem dX0_readWhile_97 : decode cX0_readWhile 97 = .ok (.iload 6, 2) := by decide +kernel
theorem dX0_readWhile_99 : decode cX0_readWhile 99 = .ok (.aload_n 0, 1) := by decide +kernel
theorem dX0_readWhile_100 : decode cX0_readWhile 100 = .ok (.getfield 16, 3) := by decide +kernel
theorem dX0_readWhile_103 : decode cX0_readWhile 103 = .ok (.getfield 155, 3) := by decide +kernel
theorem dX0_readWhile_106 : decode cX0_readWhile 106 = .ok (.invokevirtual 216, 3) := by decide +kernel
theorem dX0_readWhile_109 : decode cX0_readWhile 109 = .ok (.iload 5, 2) := by decide +kernel
theorem dX0_readWhile_111 : decode cX0_readWhile 111 = .ok (.ifCond .eq 12, 3) := by decide +kernel
theorem dX0_readWhile_114 : decode cX0_readWhile 114 = .ok (.aload_n 0, 1) := by decide +kernel
theorem dX0_readWhile_115 : decode cX0_readWhile 115 = .ok (.getfield 132, 3) := by decide +kernel
theorem dX0_readWhile_118 : decode cX0_readWhile 118 = .ok (.iload 4, 2) := by decide +kernel
theorem dX0_readWhile_120 : decode cX0_readWhile 120 = .ok (.if_icmp .le 7, 3) := by decide +kernel
theorem dX0_readWhile_123 : decode cX0_readWhile 123 = .ok (.iconst 1, 1) := by decide +kernel
theorem dX0_readWhile_124 : decode cX0_readWhile 124 = .ok (.goto 4, 3) := by decide +kernel
theorem dX0_readWhile_127 : decode cX0_readWhile 127 = .ok (.iconst 0, 1) := by decide +kernel
theorem dX0_readWhile_128 : decode cX0_readWhile 128 = .ok (.istore 8, 2) := by decide +kernel
theorem dX0_readWhile_130 : decode cX0_readWhile 130 = .ok (.iload 5, 2) := by decide +kernel
theorem dX0_readWhile_132 : decode cX0_readWhile 132 = .ok (.ifCond .ne 12, 3) := by decide +kernel
theorem dX0_readWhile_135 : decode cX0_readWhile 135 = .ok (.aload_n 0, 1) := by decide +kernel
theorem dX0_readWhile_136 : decode cX0_readWhile 136 = .ok (.getfield 16, 3) := by decide +kernel
theorem dX0_readWhile_139 : decode cX0_readWhile 139 = .ok (.iload 7, 2) := by decide +kernel
theorem dX0_readWhile_141 : decode cX0_readWhile 141 = .ok (.invokevirtual 201, 3) := by decide +kernel
theorem dX0_readWhile_144 : decode cX0_readWhile 144 = .ok (.iload 4, 2) := by decide +kernel
theorem dX0_readWhile_146 : decode cX0_readWhile 146 = .ok (.istore 9, 2) := by decide +kernel
theorem dX0_readWhile_148 : decode cX0_readWhile 148 = .ok (.iload 9, 2) := by decide +kernel
theorem dX0_readWhile_150 : decode cX0_readWhile 150 = .ok (.aload_n 0, 1) := by decide +kernel
theorem dX0_readWhile_151 : decode cX0_readWhile 151 = .ok (.getfield 132, 3) := by decide +kernel
theorem dX0_readWhile_154 : decode cX0_readWhile 154 = .ok (.if_icmp .ge 33, 3) := by decide +kernel
theorem dX0_readWhile_157 : decode cX0_readWhile 157 = .ok (.iload 9, 2) := by decide +kernel
theorem dX0_readWhile_159 : decode cX0_readWhile 159 = .ok (.aload_n 0, 1) := by decide +kernel
theorem dX0_readWhile_160 : decode cX0_readWhile 160 = .ok (.getfield 30, 3) := by decide +kernel
theorem dX0_readWhile_163 : decode cX0_readWhile 163 = .ok (.arraylength, 1) := by decide +kernel
theorem dX0_readWhile_164 : decode cX0_readWhile 164 = .ok (.if_icmp .ge 23, 3) := by decide +kernel
theorem dX0_readWhile_167 : decode cX0_readWhile 167 = .ok (.aload_n 0, 1) := by decide +kernel
theorem dX0_readWhile_168 : decode cX0_readWhile 168 = .ok (.getfield 16, 3) := by decide +kernel
theorem dX0_readWhile_171 : decode cX0_readWhile 171 = .ok (.aload_n 0, 1) := by decide +kernel
theorem dX0_readWhile_172 : decode cX0_readWhile 172 = .ok (.getfield 30, 3) := by decide +kernel
theorem dX0_readWhile_175 : decode cX0_readWhile 175 = .ok (.iload 9, 2) := by decide +kernel
theorem dX0_readWhile_177 : decode cX0_readWhile 177 = .ok (.iaload, 1) := by decide +kernel
theorem dX0_readWhile_178 : decode cX0_readWhile 178 = .ok (.invokevirtual 201, 3) := by decide +kernel
theorem dX0_readWhile_181 : decode cX0_readWhile 181 = .ok (.iinc 9 1, 3) := by decide +kernel
theorem dX0_readWhile_184 : decode cX0_readWhile 184 = .ok (.goto (-36), 3) := by decide +kernel
theorem dX0_readWhile_187 : decode cX0_readWhile 187 = .ok (.aload_n 0, 1) := by decide +kernel
theorem dX0_readWhile_188 : decode cX0_readWhile 188 = .ok (.iload 4, 2) := by decide +kernel
theorem dX0_readWhile_190 : decode cX0_readWhile 190 = .ok (.putfield 132, 3) := by decide +kernel
theorem dX0_readWhile_193 : decode cX0_readWhile 193 = .ok (.aload_n 0, 1) := by decide +kernel
theorem dX0_readWhile_194 : decode cX0_readWhile 194 = .ok (.iload_n 2, 1) := by decide +kernel
theorem dX0_readWhile_195 : decode cX0_readWhile 195 = .ok (.putfield 129, 3) := by decide +kernel
theorem dX0_readWhile_198 : decode cX0_readWhile 198 = .ok (.aload_n 0, 1) := by decide +kernel
theorem dX0_readWhile_199 : decode cX0_readWhile 199 = .ok (.iload_n 3, 1) := by decide +kernel
theorem dX0_readWhile_200 : decode cX0_readWhile 200 = .ok (.putfield 207, 3) := by decide +kernel
theorem dX0_readWhile_203 : decode cX0_readWhile 203 = .ok (.iload 8, 2) := by decide +kernel
theorem dX0_readWhile_205 : decode cX0_readWhile 205 = .ok (.ireturn, 1) := by decide +kernel
theorem mt_X0_readPart : mx_mt 10 = some (yX0_readPart, cX0_readPart, 4, (some .boolean)) := rfl
theorem mt_X0_readStatement : mx_mt 11 = some (yX0_readStatement, cX0_readStatement, 2, (some .boolean)) := rfl
theorem mt_X0_readIf : mx_mt 12 = some (yX0_readIf, cX0_readIf, 6, (some .boolean)) := rfl
theorem mt_X0_readWhile : mx_mt 13 = some (yX0_readWhile, cX0_readWhile, 10, (some .boolean)) := rfl
theorem mt_X0_readTry : mx_mt 15 = some (yX0_readTry, cX0_readTry, 10, (some .boolean)) := rfl
theorem ft_10_16 : mx_fty 10 16 = some (.int, false, "ClassMill$Values") := by decide +kernel
theorem ft_10_17 : mx_fty 10 17 = some (.boolean, false, "ClassMill$Values") := by decide +kernel
theorem mt_X10_beginMethod : mx_mt 272 = some (yX10_beginMethod, cX10_beginMethod, 3, none) := rfl
theorem dX10_beginMethod_0 : decode cX10_beginMethod 0 = .ok (.aload_n 0, 1) := by decide +kernel
theorem dX10_beginMethod_1 : decode cX10_beginMethod 1 = .ok (.iload_n 1, 1) := by decide +kernel
theorem dX10_beginMethod_2 : decode cX10_beginMethod 2 = .ok (.putfield 54, 3) := by decide +kernel
theorem dX10_beginMethod_5 : decode cX10_beginMethod 5 = .ok (.aload_n 0, 1) := by decide +kernel
theorem dX10_beginMethod_6 : decode cX10_beginMethod 6 = .ok (.iload_n 2, 1) := by decide +kernel
theorem dX10_beginMethod_7 : decode cX10_beginMethod 7 = .ok (.putfield 58, 3) := by decide +kernel
theorem dX10_beginMethod_10 : decode cX10_beginMethod 10 = .ok (.aload_n 0, 1) := by decide +kernel
theorem dX10_beginMethod_11 : decode cX10_beginMethod 11 = .ok (.iconst (-1), 1) := by decide +kernel
theorem dX10_beginMethod_12 : decode cX10_beginMethod 12 = .ok (.putfield 62, 3) := by decide +kernel
theorem dX10_beginMethod_15 : decode cX10_beginMethod 15 = .ok (.aload_n 0, 1) := by decide +kernel
theorem dX10_beginMethod_16 : decode cX10_beginMethod 16 = .ok (.iconst 0, 1) := by decide +kernel
theorem dX10_beginMethod_17 : decode cX10_beginMethod 17 = .ok (.putfield 65, 3) := by decide +kernel
theorem dX10_beginMethod_20 : decode cX10_beginMethod 20 = .ok (.return_, 1) := by decide +kernel
theorem mt_X1_beginMethod : mx_mt 25 = some (yX1_beginMethod, cX1_beginMethod, 1, none) := rfl
theorem dX1_beginMethod_0 : decode cX1_beginMethod 0 = .ok (.aload_n 0, 1) := by decide +kernel
theorem dX1_beginMethod_1 : decode cX1_beginMethod 1 = .ok (.iconst 0, 1) := by decide +kernel
theorem dX1_beginMethod_2 : decode cX1_beginMethod 2 = .ok (.putfield 39, 3) := by decide +kernel
theorem dX1_beginMethod_5 : decode cX1_beginMethod 5 = .ok (.aload_n 0, 1) := by decide +kernel
theorem dX1_beginMethod_6 : decode cX1_beginMethod 6 = .ok (.iconst 0, 1) := by decide +kernel
theorem dX1_beginMethod_7 : decode cX1_beginMethod 7 = .ok (.putfield 43, 3) := by decide +kernel
theorem dX1_beginMethod_10 : decode cX1_beginMethod 10 = .ok (.aload_n 0, 1) := by decide +kernel
theorem dX1_beginMethod_11 : decode cX1_beginMethod 11 = .ok (.iconst 0, 1) := by decide +kernel
theorem dX1_beginMethod_12 : decode cX1_beginMethod 12 = .ok (.putfield 46, 3) := by decide +kernel
theorem dX1_beginMethod_15 : decode cX1_beginMethod 15 = .ok (.aload_n 0, 1) := by decide +kernel
theorem dX1_beginMethod_16 : decode cX1_beginMethod 16 = .ok (.iconst 0, 1) := by decide +kernel
theorem dX1_beginMethod_17 : decode cX1_beginMethod 17 = .ok (.putfield 49, 3) := by decide +kernel
theorem dX1_beginMethod_20 : decode cX1_beginMethod 20 = .ok (.aload_n 0, 1) := by decide +kernel
theorem dX1_beginMethod_21 : decode cX1_beginMethod 21 = .ok (.iconst 0, 1) := by decide +kernel
theorem dX1_beginMethod_22 : decode cX1_beginMethod 22 = .ok (.putfield 52, 3) := by decide +kernel
theorem dX1_beginMethod_25 : decode cX1_beginMethod 25 = .ok (.aload_n 0, 1) := by decide +kernel
theorem dX1_beginMethod_26 : decode cX1_beginMethod 26 = .ok (.iconst 0, 1) := by decide +kernel
theorem dX1_beginMethod_27 : decode cX1_beginMethod 27 = .ok (.putfield 55, 3) := by decide +kernel
theorem dX1_beginMethod_30 : decode cX1_beginMethod 30 = .ok (.aload_n 0, 1) := by decide +kernel
theorem dX1_beginMethod_31 : decode cX1_beginMethod 31 = .ok (.iconst 0, 1) := by decide +kernel
theorem dX1_beginMethod_32 : decode cX1_beginMethod 32 = .ok (.putfield 58, 3) := by decide +kernel
theorem dX1_beginMethod_35 : decode cX1_beginMethod 35 = .ok (.aload_n 0, 1) := by decide +kernel
theorem dX1_beginMethod_36 : decode cX1_beginMethod 36 = .ok (.iconst 0, 1) := by decide +kernel
theorem dX1_beginMethod_37 : decode cX1_beginMethod 37 = .ok (.putfield 61, 3) := by decide +kernel
theorem dX1_beginMethod_40 : decode cX1_beginMethod 40 = .ok (.return_, 1) := by decide +kernel
theorem mt_X1_isTooMuch : mx_mt 26 = some (yX1_isTooMuch, cX1_isTooMuch, 1, (some .boolean)) := rfl
theorem dX1_isTooMuch_0 : decode cX1_isTooMuch 0 = .ok (.aload_n 0, 1) := by decide +kernel
theorem dX1_isTooMuch_1 : decode cX1_isTooMuch 1 = .ok (.getfield 61, 3) := by decide +kernel
theorem dX1_isTooMuch_4 : decode cX1_isTooMuch 4 = .ok (.ifCond .ne 31, 3) := by decide +kernel
theorem dX1_isTooMuch_7 : decode cX1_isTooMuch 7 = .ok (.aload_n 0, 1) := by decide +kernel
theorem dX1_isTooMuch_8 : decode cX1_isTooMuch 8 = .ok (.getfield 39, 3) := by decide +kernel
theorem dX1_isTooMuch_11 : decode cX1_isTooMuch 11 = .ok (.sipush 1500, 3) := by decide +kernel
theorem dX1_isTooMuch_14 : decode cX1_isTooMuch 14 = .ok (.if_icmp .gt 21, 3) := by decide +kernel
theorem dX1_isTooMuch_17 : decode cX1_isTooMuch 17 = .ok (.aload_n 0, 1) := by decide +kernel
theorem dX1_isTooMuch_18 : decode cX1_isTooMuch 18 = .ok (.getfield 52, 3) := by decide +kernel
theorem dX1_isTooMuch_21 : decode cX1_isTooMuch 21 = .ok (.bipush 30, 2) := by decide +kernel
theorem dX1_isTooMuch_23 : decode cX1_isTooMuch 23 = .ok (.if_icmp .gt 12, 3) := by decide +kernel
theorem dX1_isTooMuch_26 : decode cX1_isTooMuch 26 = .ok (.aload_n 0, 1) := by decide +kernel
theorem dX1_isTooMuch_27 : decode cX1_isTooMuch 27 = .ok (.getfield 46, 3) := by decide +kernel
theorem dX1_isTooMuch_30 : decode cX1_isTooMuch 30 = .ok (.bipush 20, 2) := by decide +kernel
theorem dX1_isTooMuch_32 : decode cX1_isTooMuch 32 = .ok (.if_icmp .le 7, 3) := by decide +kernel
theorem dX1_isTooMuch_35 : decode cX1_isTooMuch 35 = .ok (.iconst 1, 1) := by decide +kernel
theorem dX1_isTooMuch_36 : decode cX1_isTooMuch 36 = .ok (.goto 4, 3) := by decide +kernel
theorem dX1_isTooMuch_39 : decode cX1_isTooMuch 39 = .ok (.iconst 0, 1) := by decide +kernel
theorem dX1_isTooMuch_40 : decode cX1_isTooMuch 40 = .ok (.ireturn, 1) := by decide +kernel
