theorem mt_X13_jumps : mx_mt 585 = some (yX13_jumps, cX13_jumps, 4, (some .boolean)) := rfl
theorem dX13_jumps_0 : decode cX13_jumps 0 = .ok (.iload_n 1, 1) := by decide +kernel
theorem dX13_jumps_1 : decode cX13_jumps 1 = .ok (.sipush 167, 3) := by decide +kernel
theorem dX13_jumps_4 : decode cX13_jumps 4 = .ok (.if_icmp .ne 5, 3) := by decide +kernel
theorem dX13_jumps_7 : decode cX13_jumps 7 = .ok (.iconst 1, 1) := by decide +kernel
theorem dX13_jumps_8 : decode cX13_jumps 8 = .ok (.ireturn, 1) := by decide +kernel
theorem dX13_jumps_9 : decode cX13_jumps 9 = .ok (.aload_n 0, 1) := by decide +kernel
theorem dX13_jumps_10 : decode cX13_jumps 10 = .ok (.invokevirtual 1087, 3) := by decide +kernel
theorem dX13_jumps_13 : decode cX13_jumps 13 = .ok (.istore_n 2, 1) := by decide +kernel
theorem dX13_jumps_14 : decode cX13_jumps 14 = .ok (.iload_n 1, 1) := by decide +kernel
theorem dX13_jumps_15 : decode cX13_jumps 15 = .ok (.sipush 153, 3) := by decide +kernel
theorem dX13_jumps_18 : decode cX13_jumps 18 = .ok (.if_icmp .ne 13, 3) := by decide +kernel
theorem dX13_jumps_21 : decode cX13_jumps 21 = .ok (.iload_n 2, 1) := by decide +kernel
theorem dX13_jumps_22 : decode cX13_jumps 22 = .ok (.ifCond .ne 7, 3) := by decide +kernel
theorem dX13_jumps_25 : decode cX13_jumps 25 = .ok (.iconst 1, 1) := by decide +kernel
theorem dX13_jumps_26 : decode cX13_jumps 26 = .ok (.goto 4, 3) := by decide +kernel
theorem dX13_jumps_29 : decode cX13_jumps 29 = .ok (.iconst 0, 1) := by decide +kernel
theorem dX13_jumps_30 : decode cX13_jumps 30 = .ok (.ireturn, 1) := by decide +kernel
theorem dX13_jumps_31 : decode cX13_jumps 31 = .ok (.iload_n 1, 1) := by decide +kernel
theorem dX13_jumps_32 : decode cX13_jumps 32 = .ok (.sipush 154, 3) := by decide +kernel
theorem dX13_jumps_35 : decode cX13_jumps 35 = .ok (.if_icmp .ne 13, 3) := by decide +kernel
theorem dX13_jumps_38 : decode cX13_jumps 38 = .ok (.iload_n 2, 1) := by decide +kernel
theorem dX13_jumps_39 : decode cX13_jumps 39 = .ok (.ifCond .eq 7, 3) := by decide +kernel
theorem dX13_jumps_42 : decode cX13_jumps 42 = .ok (.iconst 1, 1) := by decide +kernel
theorem dX13_jumps_43 : decode cX13_jumps 43 = .ok (.goto 4, 3) := by decide +kernel
theorem dX13_jumps_46 : decode cX13_jumps 46 = .ok (.iconst 0, 1) := by decide +kernel
theorem dX13_jumps_47 : decode cX13_jumps 47 = .ok (.ireturn, 1) := by decide +kernel
theorem dX13_jumps_48 : decode cX13_jumps 48 = .ok (.aload_n 0, 1) := by decide +kernel
theorem dX13_jumps_49 : decode cX13_jumps 49 = .ok (.invokevirtual 1087, 3) := by decide +kernel
theorem dX13_jumps_52 : decode cX13_jumps 52 = .ok (.istore_n 3, 1) := by decide +kernel
theorem dX13_jumps_53 : decode cX13_jumps 53 = .ok (.iload_n 1, 1) := by decide +kernel
theorem dX13_jumps_54 : decode cX13_jumps 54 = .ok (.tableswitch 101 159 166 #[46, 57, 68, 79, 90, 101, 46, 57], 46) := by decide +kernel
theorem dX13_jumps_100 : decode cX13_jumps 100 = .ok (.iload_n 3, 1) := by decide +kernel
theorem dX13_jumps_101 : decode cX13_jumps 101 = .ok (.iload_n 2, 1) := by decide +kernel
theorem dX13_jumps_102 : decode cX13_jumps 102 = .ok (.if_icmp .ne 7, 3) := by decide +kernel
theorem dX13_jumps_105 : decode cX13_jumps 105 = .ok (.iconst 1, 1) := by decide +kernel
theorem dX13_jumps_106 : decode cX13_jumps 106 = .ok (.goto 4, 3) := by decide +kernel
theorem dX13_jumps_109 : decode cX13_jumps 109 = .ok (.iconst 0, 1) := by decide +kernel
theorem dX13_jumps_110 : decode cX13_jumps 110 = .ok (.ireturn, 1) := by decide +kernel
theorem dX13_jumps_111 : decode cX13_jumps 111 = .ok (.iload_n 3, 1) := by decide +kernel
theorem dX13_jumps_112 : decode cX13_jumps 112 = .ok (.iload_n 2, 1) := by decide +kernel
theorem dX13_jumps_113 : decode cX13_jumps 113 = .ok (.if_icmp .eq 7, 3) := by decide +kernel
theorem dX13_jumps_116 : decode cX13_jumps 116 = .ok (.iconst 1, 1) := by decide +kernel
theorem dX13_jumps_117 : decode cX13_jumps 117 = .ok (.goto 4, 3) := by decide +kernel
theorem dX13_jumps_120 : decode cX13_jumps 120 = .ok (.iconst 0, 1) := by decide +kernel
theorem dX13_jumps_121 : decode cX13_jumps 121 = .ok (.ireturn, 1) := by decide +kernel
theorem dX13_jumps_122 : decode cX13_jumps 122 = .ok (.iload_n 3, 1) := by decide +kernel
theorem dX13_jumps_123 : decode cX13_jumps 123 = .ok (.iload_n 2, 1) := by decide +kernel
theorem dX13_jumps_124 : decode cX13_jumps 124 = .ok (.if_icmp .ge 7, 3) := by decide +kernel
theorem dX13_jumps_127 : decode cX13_jumps 127 = .ok (.iconst 1, 1) := by decide +kernel
theorem dX13_jumps_128 : decode cX13_jumps 128 = .ok (.goto 4, 3) := by decide +kernel
theorem dX13_jumps_131 : decode cX13_jumps 131 = .ok (.iconst 0, 1) := by decide +kernel
theorem dX13_jumps_132 : decode cX13_jumps 132 = .ok (.ireturn, 1) := by decide +kernel
theorem dX13_jumps_133 : decode cX13_jumps 133 = .ok (.iload_n 3, 1) := by decide +kernel
theorem dX13_jumps_134 : decode cX13_jumps 134 = .ok (.iload_n 2, 1) := by decide +kernel
theorem dX13_jumps_135 : decode cX13_jumps 135 = .ok (.if_icmp .lt 7, 3) := by decide +kernel
theorem dX13_jumps_138 : decode cX13_jumps 138 = .ok (.iconst 1, 1) := by decide +kernel
theorem dX13_jumps_139 : decode cX13_jumps 139 = .ok (.goto 4, 3) := by decide +kernel
theorem dX13_jumps_142 : decode cX13_jumps 142 = .ok (.iconst 0, 1) := by decide +kernel
theorem dX13_jumps_143 : decode cX13_jumps 143 = .ok (.ireturn, 1) := by decide +kernel
theorem dX13_jumps_144 : decode cX13_jumps 144 = .ok (.iload_n 3, 1) := by decide +kernel
theorem dX13_jumps_145 : decode cX13_jumps 145 = .ok (.iload_n 2, 1) := by decide +kernel
theorem dX13_jumps_146 : decode cX13_jumps 146 = .ok (.if_icmp .le 7, 3) := by decide +kernel
theorem dX13_jumps_149 : decode cX13_jumps 149 = .ok (.iconst 1, 1) := by decide +kernel
theorem dX13_jumps_150 : decode cX13_jumps 150 = .ok (.goto 4, 3) := by decide +kernel
theorem dX13_jumps_153 : decode cX13_jumps 153 = .ok (.iconst 0, 1) := by decide +kernel
theorem dX13_jumps_154 : decode cX13_jumps 154 = .ok (.ireturn, 1) := by decide +kernel
theorem dX13_jumps_155 : decode cX13_jumps 155 = .ok (.iload_n 3, 1) := by decide +kernel
theorem dX13_jumps_156 : decode cX13_jumps 156 = .ok (.iload_n 2, 1) := by decide +kernel
theorem dX13_jumps_157 : decode cX13_jumps 157 = .ok (.if_icmp .gt 7, 3) := by decide +kernel
theorem dX13_jumps_160 : decode cX13_jumps 160 = .ok (.iconst 1, 1) := by decide +kernel
theorem dX13_jumps_161 : decode cX13_jumps 161 = .ok (.goto 4, 3) := by decide +kernel
theorem dX13_jumps_164 : decode cX13_jumps 164 = .ok (.iconst 0, 1) := by decide +kernel
theorem dX13_jumps_165 : decode cX13_jumps 165 = .ok (.ireturn, 1) := by decide +kernel
theorem mt_X13_opAt : mx_mt 579 = some (yX13_opAt, cX13_opAt, 2, (some .int)) := rfl
theorem dX13_opAt_0 : decode cX13_opAt 0 = .ok (.aload_n 0, 1) := by decide +kernel
theorem dX13_opAt_1 : decode cX13_opAt 1 = .ok (.aload_n 0, 1) := by decide +kernel
theorem dX13_opAt_2 : decode cX13_opAt 2 = .ok (.getfield 294, 3) := by decide +kernel
theorem dX13_opAt_5 : decode cX13_opAt 5 = .ok (.aload_n 0, 1) := by decide +kernel
theorem dX13_opAt_6 : decode cX13_opAt 6 = .ok (.getfield 1058, 3) := by decide +kernel
theorem dX13_opAt_9 : decode cX13_opAt 9 = .ok (.iconst 1, 1) := by decide +kernel
theorem dX13_opAt_10 : decode cX13_opAt 10 = .ok (.isub, 1) := by decide +kernel
theorem dX13_opAt_11 : decode cX13_opAt 11 = .ok (.iaload, 1) := by decide +kernel
theorem dX13_opAt_12 : decode cX13_opAt 12 = .ok (.bipush 8, 2) := by decide +kernel
theorem dX13_opAt_14 : decode cX13_opAt 14 = .ok (.isub, 1) := by decide +kernel
theorem dX13_opAt_15 : decode cX13_opAt 15 = .ok (.aload_n 0, 1) := by decide +kernel
theorem dX13_opAt_16 : decode cX13_opAt 16 = .ok (.getfield 236, 3) := by decide +kernel
theorem dX13_opAt_19 : decode cX13_opAt 19 = .ok (.bipush 12, 2) := by decide +kernel
theorem dX13_opAt_21 : decode cX13_opAt 21 = .ok (.aload_n 0, 1) := by decide +kernel
theorem dX13_opAt_22 : decode cX13_opAt 22 = .ok (.getfield 294, 3) := by decide +kernel
theorem dX13_opAt_25 : decode cX13_opAt 25 = .ok (.aload_n 0, 1) := by decide +kernel
theorem dX13_opAt_26 : decode cX13_opAt 26 = .ok (.getfield 1058, 3) := by decide +kernel
theorem dX13_opAt_29 : decode cX13_opAt 29 = .ok (.iconst 1, 1) := by decide +kernel
theorem dX13_opAt_30 : decode cX13_opAt 30 = .ok (.isub, 1) := by decide +kernel
theorem dX13_opAt_31 : decode cX13_opAt 31 = .ok (.iaload, 1) := by decide +kernel
theorem dX13_opAt_32 : decode cX13_opAt 32 = .ok (.bipush 8, 2) := by decide +kernel
theorem dX13_opAt_34 : decode cX13_opAt 34 = .ok (.isub, 1) := by decide +kernel
theorem dX13_opAt_35 : decode cX13_opAt 35 = .ok (.imul, 1) := by decide +kernel
theorem dX13_opAt_36 : decode cX13_opAt 36 = .ok (.aload_n 0, 1) := by decide +kernel
theorem dX13_opAt_37 : decode cX13_opAt 37 = .ok (.getfield 297, 3) := by decide +kernel
theorem dX13_opAt_40 : decode cX13_opAt 40 = .ok (.aload_n 0, 1) := by decide +kernel
theorem dX13_opAt_41 : decode cX13_opAt 41 = .ok (.getfield 1058, 3) := by decide +kernel
theorem dX13_opAt_44 : decode cX13_opAt 44 = .ok (.iconst 1, 1) := by decide +kernel
theorem dX13_opAt_45 : decode cX13_opAt 45 = .ok (.isub, 1) := by decide +kernel
theorem dX13_opAt_46 : decode cX13_opAt 46 = .ok (.iaload, 1) := by decide +kernel
theorem dX13_opAt_47 : decode cX13_opAt 47 = .ok (.iadd, 1) := by decide +kernel
theorem dX13_opAt_48 : decode cX13_opAt 48 = .ok (.iaload, 1) := by decide +kernel
theorem dX13_opAt_49 : decode cX13_opAt 49 = .ok (.bipush 7, 2) := by decide +kernel
theorem dX13_opAt_51 : decode cX13_opAt 51 = .ok (.iadd, 1) := by decide +kernel
theorem dX13_opAt_52 : decode cX13_opAt 52 = .ok (.iload_n 1, 1) := by decide +kernel
theorem dX13_opAt_53 : decode cX13_opAt 53 = .ok (.iadd, 1) := by decide +kernel
theorem dX13_opAt_54 : decode cX13_opAt 54 = .ok (.invokevirtual 864, 3) := by decide +kernel
theorem dX13_opAt_57 : decode cX13_opAt 57 = .ok (.ireturn, 1) := by decide +kernel
theorem mt_X13_reckon : mx_mt 584 = some (yX13_reckon, cX13_reckon, 3, (some .int)) := rfl
theorem dX13_reckon_0 : decode cX13_reckon 0 = .ok (.iload_n 0, 1) := by decide +kernel
theorem dX13_reckon_1 : decode cX13_reckon 1 = .ok (.tableswitch 187 96 128 #[147, 187, 187, 187, 151, 187, 187, 187, 155, 187, 187, 187, 159, 187, 187, 187, 163, 187, 187, 187, 187, 187, 187, 187, 167, 187, 171, 187, 175, 187, 179, 187, 183], 147) := by decide +kernel
theorem dX13_reckon_148 : decode cX13_reckon 148 = .ok (.iload_n 1, 1) := by decide +kernel
theorem dX13_reckon_149 : decode cX13_reckon 149 = .ok (.iload_n 2, 1) := by decide +kernel
theorem dX13_reckon_150 : decode cX13_reckon 150 = .ok (.iadd, 1) := by decide +kernel
theorem dX13_reckon_151 : decode cX13_reckon 151 = .ok (.ireturn, 1) := by decide +kernel
theorem dX13_reckon_152 : decode cX13_reckon 152 = .ok (.iload_n 1, 1) := by decide +kernel
theorem dX13_reckon_153 : decode cX13_reckon 153 = .ok (.iload_n 2, 1) := by decide +kernel
theorem dX13_reckon_154 : decode cX13_reckon 154 = .ok (.isub, 1) := by decide +kernel
theorem dX13_reckon_155 : decode cX13_reckon 155 = .ok (.ireturn, 1) := by decide +kernel
theorem dX13_reckon_156 : decode cX13_reckon 156 = .ok (.iload_n 1, 1) := by decide +kernel
theorem dX13_reckon_157 : decode cX13_reckon 157 = .ok (.iload_n 2, 1) := by decide +kernel
theorem dX13_reckon_158 : decode cX13_reckon 158 = .ok (.imul, 1) := by decide +kernel
theorem dX13_reckon_159 : decode cX13_reckon 159 = .ok (.ireturn, 1) := by decide +kernel
theorem dX13_reckon_160 : decode cX13_reckon 160 = .ok (.iload_n 1, 1) := by decide +kernel
theorem dX13_reckon_161 : decode cX13_reckon 161 = .ok (.iload_n 2, 1) := by decide +kernel
theorem dX13_reckon_162 : decode cX13_reckon 162 = .ok (.idiv, 1) := by decide +kernel
theorem dX13_reckon_163 : decode cX13_reckon 163 = .ok (.ireturn, 1) := by decide +kernel
theorem dX13_reckon_164 : decode cX13_reckon 164 = .ok (.iload_n 1, 1) := by decide +kernel
theorem dX13_reckon_165 : decode cX13_reckon 165 = .ok (.iload_n 2, 1) := by decide +kernel
theorem dX13_reckon_166 : decode cX13_reckon 166 = .ok (.irem, 1) := by decide +kernel
theorem dX13_reckon_167 : decode cX13_reckon 167 = .ok (.ireturn, 1) := by decide +kernel
theorem dX13_reckon_168 : decode cX13_reckon 168 = .ok (.iload_n 1, 1) := by decide +kernel
theorem dX13_reckon_169 : decode cX13_reckon 169 = .ok (.iload_n 2, 1) := by decide +kernel
theorem dX13_reckon_170 : decode cX13_reckon 170 = .ok (.ishl, 1) := by decide +kernel
theorem dX13_reckon_171 : decode cX13_reckon 171 = .ok (.ireturn, 1) := by decide +kernel
theorem dX13_reckon_172 : decode cX13_reckon 172 = .ok (.iload_n 1, 1) := by decide +kernel
theorem dX13_reckon_173 : decode cX13_reckon 173 = .ok (.iload_n 2, 1) := by decide +kernel
theorem dX13_reckon_174 : decode cX13_reckon 174 = .ok (.ishr, 1) := by decide +kernel
theorem dX13_reckon_175 : decode cX13_reckon 175 = .ok (.ireturn, 1) := by decide +kernel
theorem dX13_reckon_176 : decode cX13_reckon 176 = .ok (.iload_n 1, 1) := by decide +kernel
theorem dX13_reckon_177 : decode cX13_reckon 177 = .ok (.iload_n 2, 1) := by decide +kernel
theorem dX13_reckon_178 : decode cX13_reckon 178 = .ok (.iushr, 1) := by decide +kernel
theorem dX13_reckon_179 : decode cX13_reckon 179 = .ok (.ireturn, 1) := by decide +kernel
theorem dX13_reckon_180 : decode cX13_reckon 180 = .ok (.iload_n 1, 1) := by decide +kernel
theorem dX13_reckon_181 : decode cX13_reckon 181 = .ok (.iload_n 2, 1) := by decide +kernel
theorem dX13_reckon_182 : decode cX13_reckon 182 = .ok (.iand, 1) := by decide +kernel
theorem dX13_reckon_183 : decode cX13_reckon 183 = .ok (.ireturn, 1) := by decide +kernel
theorem dX13_reckon_184 : decode cX13_reckon 184 = .ok (.iload_n 1, 1) := by decide +kernel
theorem dX13_reckon_185 : decode cX13_reckon 185 = .ok (.iload_n 2, 1) := by decide +kernel
theorem dX13_reckon_186 : decode cX13_reckon 186 = .ok (.ior, 1) := by decide +kernel
theorem dX13_reckon_187 : decode cX13_reckon 187 = .ok (.ireturn, 1) := by decide +kernel
theorem dX13_reckon_188 : decode cX13_reckon 188 = .ok (.iload_n 1, 1) := by decide +kernel
theorem dX13_reckon_189 : decode cX13_reckon 189 = .ok (.iload_n 2, 1) := by decide +kernel
theorem dX13_reckon_190 : decode cX13_reckon 190 = .ok (.ixor, 1) := by decide +kernel
theorem dX13_reckon_191 : decode cX13_reckon 191 = .ok (.ireturn, 1) := by decide +kernel
