theorem rs_RX11_322 : mx_res RX11 322 = some (1, 351, 1) := by decide +kernel
theorem rs_RX11_325 : mx_res RX11 325 = some (1, 348, 1) := by decide +kernel
theorem rs_RX11_346 : mx_res RX11 346 = some (1, 349, 0) := by decide +kernel
theorem rs_RX11_349 : mx_res RX11 349 = some (1, 350, 2) := by decide +kernel
theorem rs_RX11_353 : mx_res RX11 353 = some (2, 138, 1) := by decide +kernel
theorem mt_X11_applyArray : mx_mt 355 = some (yX11_applyArray, cX11_applyArray, 4, none) := rfl
theorem dX11_applyArray_0 : decode cX11_applyArray 0 = .ok (.iload_n 1, 1) := by decide +kernel
theorem dX11_applyArray_1 : decode cX11_applyArray 1 = .ok (.lookupswitch 218 #[(46, 67), (50, 91), (79, 129), (83, 153), (87, 175), (89, 183), (116, 201)], 67) := by decide +kernel
theorem dX11_applyArray_68 : decode cX11_applyArray 68 = .ok (.aload_n 0, 1) := by decide +kernel
theorem dX11_applyArray_69 : decode cX11_applyArray 69 = .ok (.sipush 301, 3) := by decide +kernel
theorem dX11_applyArray_72 : decode cX11_applyArray 72 = .ok (.invokevirtual 325, 3) := by decide +kernel
theorem dX11_applyArray_75 : decode cX11_applyArray 75 = .ok (.aload_n 0, 1) := by decide +kernel
theorem dX11_applyArray_76 : decode cX11_applyArray 76 = .ok (.iconst 1, 1) := by decide +kernel
theorem dX11_applyArray_77 : decode cX11_applyArray 77 = .ok (.iconst 0, 1) := by decide +kernel
theorem dX11_applyArray_78 : decode cX11_applyArray 78 = .ok (.invokevirtual 349, 3) := by decide +kernel
theorem dX11_applyArray_81 : decode cX11_applyArray 81 = .ok (.pop, 1) := by decide +kernel
theorem dX11_applyArray_82 : decode cX11_applyArray 82 = .ok (.aload_n 0, 1) := by decide +kernel
theorem dX11_applyArray_83 : decode cX11_applyArray 83 = .ok (.sipush 301, 3) := by decide +kernel
theorem dX11_applyArray_86 : decode cX11_applyArray 86 = .ok (.invokevirtual 322, 3) := by decide +kernel
theorem dX11_applyArray_89 : decode cX11_applyArray 89 = .ok (.goto 130, 3) := by decide +kernel
theorem dX11_applyArray_92 : decode cX11_applyArray 92 = .ok (.aload_n 0, 1) := by decide +kernel
theorem dX11_applyArray_93 : decode cX11_applyArray 93 = .ok (.sipush 301, 3) := by decide +kernel
theorem dX11_applyArray_96 : decode cX11_applyArray 96 = .ok (.invokevirtual 325, 3) := by decide +kernel
theorem dX11_applyArray_99 : decode cX11_applyArray 99 = .ok (.aload_n 0, 1) := by decide +kernel
theorem dX11_applyArray_100 : decode cX11_applyArray 100 = .ok (.iconst 0, 1) := by decide +kernel
theorem dX11_applyArray_101 : decode cX11_applyArray 101 = .ok (.iconst 1, 1) := by decide +kernel
theorem dX11_applyArray_102 : decode cX11_applyArray 102 = .ok (.invokevirtual 349, 3) := by decide +kernel
theorem dX11_applyArray_105 : decode cX11_applyArray 105 = .ok (.istore_n 2, 1) := by decide +kernel
theorem dX11_applyArray_106 : decode cX11_applyArray 106 = .ok (.aload_n 0, 1) := by decide +kernel
theorem dX11_applyArray_107 : decode cX11_applyArray 107 = .ok (.iload_n 2, 1) := by decide +kernel
theorem dX11_applyArray_108 : decode cX11_applyArray 108 = .ok (.sipush 300, 3) := by decide +kernel
theorem dX11_applyArray_111 : decode cX11_applyArray 111 = .ok (.if_icmp .ne 9, 3) := by decide +kernel
theorem dX11_applyArray_114 : decode cX11_applyArray 114 = .ok (.sipush 300, 3) := by decide +kernel
theorem dX11_applyArray_117 : decode cX11_applyArray 117 = .ok (.goto 7, 3) := by decide +kernel
theorem dX11_applyArray_120 : decode cX11_applyArray 120 = .ok (.iload_n 2, 1) := by decide +kernel
theorem dX11_applyArray_121 : decode cX11_applyArray 121 = .ok (.invokestatic 353, 3) := by decide +kernel
theorem dX11_applyArray_124 : decode cX11_applyArray 124 = .ok (.invokevirtual 322, 3) := by decide +kernel
theorem dX11_applyArray_127 : decode cX11_applyArray 127 = .ok (.goto 92, 3) := by decide +kernel
theorem dX11_applyArray_130 : decode cX11_applyArray 130 = .ok (.aload_n 0, 1) := by decide +kernel
theorem dX11_applyArray_131 : decode cX11_applyArray 131 = .ok (.sipush 301, 3) := by decide +kernel
theorem dX11_applyArray_134 : decode cX11_applyArray 134 = .ok (.invokevirtual 325, 3) := by decide +kernel
theorem dX11_applyArray_137 : decode cX11_applyArray 137 = .ok (.aload_n 0, 1) := by decide +kernel
theorem dX11_applyArray_138 : decode cX11_applyArray 138 = .ok (.sipush 301, 3) := by decide +kernel
theorem dX11_applyArray_141 : decode cX11_applyArray 141 = .ok (.invokevirtual 325, 3) := by decide +kernel
theorem dX11_applyArray_144 : decode cX11_applyArray 144 = .ok (.aload_n 0, 1) := by decide +kernel
theorem dX11_applyArray_145 : decode cX11_applyArray 145 = .ok (.iconst 1, 1) := by decide +kernel
theorem dX11_applyArray_146 : decode cX11_applyArray 146 = .ok (.iconst 0, 1) := by decide +kernel
theorem dX11_applyArray_147 : decode cX11_applyArray 147 = .ok (.invokevirtual 349, 3) := by decide +kernel
theorem dX11_applyArray_150 : decode cX11_applyArray 150 = .ok (.pop, 1) := by decide +kernel
theorem dX11_applyArray_151 : decode cX11_applyArray 151 = .ok (.goto 68, 3) := by decide +kernel
theorem dX11_applyArray_154 : decode cX11_applyArray 154 = .ok (.aload_n 0, 1) := by decide +kernel
theorem dX11_applyArray_155 : decode cX11_applyArray 155 = .ok (.invokevirtual 346, 3) := by decide +kernel
theorem dX11_applyArray_158 : decode cX11_applyArray 158 = .ok (.pop, 1) := by decide +kernel
theorem dX11_applyArray_159 : decode cX11_applyArray 159 = .ok (.aload_n 0, 1) := by decide +kernel
theorem dX11_applyArray_160 : decode cX11_applyArray 160 = .ok (.sipush 301, 3) := by decide +kernel
theorem dX11_applyArray_163 : decode cX11_applyArray 163 = .ok (.invokevirtual 325, 3) := by decide +kernel
theorem dX11_applyArray_166 : decode cX11_applyArray 166 = .ok (.aload_n 0, 1) := by decide +kernel
theorem dX11_applyArray_167 : decode cX11_applyArray 167 = .ok (.iconst 0, 1) := by decide +kernel
theorem dX11_applyArray_168 : decode cX11_applyArray 168 = .ok (.iconst 1, 1) := by decide +kernel
theorem dX11_applyArray_169 : decode cX11_applyArray 169 = .ok (.invokevirtual 349, 3) := by decide +kernel
theorem dX11_applyArray_172 : decode cX11_applyArray 172 = .ok (.pop, 1) := by decide +kernel
theorem dX11_applyArray_173 : decode cX11_applyArray 173 = .ok (.goto 46, 3) := by decide +kernel
theorem dX11_applyArray_176 : decode cX11_applyArray 176 = .ok (.aload_n 0, 1) := by decide +kernel
theorem dX11_applyArray_177 : decode cX11_applyArray 177 = .ok (.invokevirtual 313, 3) := by decide +kernel
theorem dX11_applyArray_180 : decode cX11_applyArray 180 = .ok (.pop, 1) := by decide +kernel
theorem dX11_applyArray_181 : decode cX11_applyArray 181 = .ok (.goto 38, 3) := by decide +kernel
theorem dX11_applyArray_184 : decode cX11_applyArray 184 = .ok (.aload_n 0, 1) := by decide +kernel
theorem dX11_applyArray_185 : decode cX11_applyArray 185 = .ok (.invokevirtual 313, 3) := by decide +kernel
theorem dX11_applyArray_188 : decode cX11_applyArray 188 = .ok (.istore_n 3, 1) := by decide +kernel
theorem dX11_applyArray_189 : decode cX11_applyArray 189 = .ok (.aload_n 0, 1) := by decide +kernel
theorem dX11_applyArray_190 : decode cX11_applyArray 190 = .ok (.iload_n 3, 1) := by decide +kernel
theorem dX11_applyArray_191 : decode cX11_applyArray 191 = .ok (.invokevirtual 322, 3) := by decide +kernel
theorem dX11_applyArray_194 : decode cX11_applyArray 194 = .ok (.aload_n 0, 1) := by decide +kernel
theorem dX11_applyArray_195 : decode cX11_applyArray 195 = .ok (.iload_n 3, 1) := by decide +kernel
theorem dX11_applyArray_196 : decode cX11_applyArray 196 = .ok (.invokevirtual 322, 3) := by decide +kernel
theorem dX11_applyArray_199 : decode cX11_applyArray 199 = .ok (.goto 20, 3) := by decide +kernel
theorem dX11_applyArray_202 : decode cX11_applyArray 202 = .ok (.aload_n 0, 1) := by decide +kernel
theorem dX11_applyArray_203 : decode cX11_applyArray 203 = .ok (.sipush 301, 3) := by decide +kernel
theorem dX11_applyArray_206 : decode cX11_applyArray 206 = .ok (.invokevirtual 325, 3) := by decide +kernel
theorem dX11_applyArray_209 : decode cX11_applyArray 209 = .ok (.aload_n 0, 1) := by decide +kernel
theorem dX11_applyArray_210 : decode cX11_applyArray 210 = .ok (.sipush 301, 3) := by decide +kernel
theorem dX11_applyArray_213 : decode cX11_applyArray 213 = .ok (.invokevirtual 322, 3) := by decide +kernel
theorem dX11_applyArray_216 : decode cX11_applyArray 216 = .ok (.goto 3, 3) := by decide +kernel
theorem dX11_applyArray_219 : decode cX11_applyArray 219 = .ok (.return_, 1) := by decide +kernel
theorem mt_X11_applyJump : mx_mt 354 = some (yX11_applyJump, cX11_applyJump, 2, none) := rfl
theorem dX11_applyJump_0 : decode cX11_applyJump 0 = .ok (.iload_n 1, 1) := by decide +kernel
theorem dX11_applyJump_1 : decode cX11_applyJump 1 = .ok (.sipush 167, 3) := by decide +kernel
theorem dX11_applyJump_4 : decode cX11_applyJump 4 = .ok (.if_icmp .ne 4, 3) := by decide +kernel
theorem dX11_applyJump_7 : decode cX11_applyJump 7 = .ok (.return_, 1) := by decide +kernel
theorem dX11_applyJump_8 : decode cX11_applyJump 8 = .ok (.iload_n 1, 1) := by decide +kernel
theorem dX11_applyJump_9 : decode cX11_applyJump 9 = .ok (.sipush 165, 3) := by decide +kernel
theorem dX11_applyJump_12 : decode cX11_applyJump 12 = .ok (.if_icmp .eq 10, 3) := by decide +kernel
theorem dX11_applyJump_15 : decode cX11_applyJump 15 = .ok (.iload_n 1, 1) := by decide +kernel
theorem dX11_applyJump_16 : decode cX11_applyJump 16 = .ok (.sipush 166, 3) := by decide +kernel
theorem dX11_applyJump_19 : decode cX11_applyJump 19 = .ok (.if_icmp .ne 14, 3) := by decide +kernel
theorem dX11_applyJump_22 : decode cX11_applyJump 22 = .ok (.aload_n 0, 1) := by decide +kernel
theorem dX11_applyJump_23 : decode cX11_applyJump 23 = .ok (.invokevirtual 346, 3) := by decide +kernel
theorem dX11_applyJump_26 : decode cX11_applyJump 26 = .ok (.pop, 1) := by decide +kernel
theorem dX11_applyJump_27 : decode cX11_applyJump 27 = .ok (.aload_n 0, 1) := by decide +kernel
theorem dX11_applyJump_28 : decode cX11_applyJump 28 = .ok (.invokevirtual 346, 3) := by decide +kernel
theorem dX11_applyJump_31 : decode cX11_applyJump 31 = .ok (.pop, 1) := by decide +kernel
theorem dX11_applyJump_32 : decode cX11_applyJump 32 = .ok (.return_, 1) := by decide +kernel
theorem dX11_applyJump_33 : decode cX11_applyJump 33 = .ok (.aload_n 0, 1) := by decide +kernel
theorem dX11_applyJump_34 : decode cX11_applyJump 34 = .ok (.sipush 301, 3) := by decide +kernel
theorem dX11_applyJump_37 : decode cX11_applyJump 37 = .ok (.invokevirtual 325, 3) := by decide +kernel
theorem dX11_applyJump_40 : decode cX11_applyJump 40 = .ok (.iload_n 1, 1) := by decide +kernel
theorem dX11_applyJump_41 : decode cX11_applyJump 41 = .ok (.sipush 159, 3) := by decide +kernel
theorem dX11_applyJump_44 : decode cX11_applyJump 44 = .ok (.if_icmp .lt 10, 3) := by decide +kernel
theorem dX11_applyJump_47 : decode cX11_applyJump 47 = .ok (.aload_n 0, 1) := by decide +kernel
theorem dX11_applyJump_48 : decode cX11_applyJump 48 = .ok (.sipush 301, 3) := by decide +kernel
theorem dX11_applyJump_51 : decode cX11_applyJump 51 = .ok (.invokevirtual 325, 3) := by decide +kernel
theorem dX11_applyJump_54 : decode cX11_applyJump 54 = .ok (.return_, 1) := by decide +kernel
theorem mt_X11_applyLocal : mx_mt 353 = some (yX11_applyLocal, cX11_applyLocal, 4, none) := rfl
theorem dX11_applyLocal_0 : decode cX11_applyLocal 0 = .ok (.iload_n 2, 1) := by decide +kernel
theorem dX11_applyLocal_1 : decode cX11_applyLocal 1 = .ok (.aload_n 0, 1) := by decide +kernel
theorem dX11_applyLocal_2 : decode cX11_applyLocal 2 = .ok (.iconst 4, 1) := by decide +kernel
theorem dX11_applyLocal_3 : decode cX11_applyLocal 3 = .ok (.invokevirtual 189, 3) := by decide +kernel
theorem dX11_applyLocal_6 : decode cX11_applyLocal 6 = .ok (.if_icmp .ge 12, 3) := by decide +kernel
theorem dX11_applyLocal_9 : decode cX11_applyLocal 9 = .ok (.iload_n 2, 1) := by decide +kernel
theorem dX11_applyLocal_10 : decode cX11_applyLocal 10 = .ok (.aload_n 0, 1) := by decide +kernel
theorem dX11_applyLocal_11 : decode cX11_applyLocal 11 = .ok (.getfield 44, 3) := by decide +kernel
theorem dX11_applyLocal_14 : decode cX11_applyLocal 14 = .ok (.arraylength, 1) := by decide +kernel
theorem dX11_applyLocal_15 : decode cX11_applyLocal 15 = .ok (.if_icmp .lt 11, 3) := by decide +kernel
theorem dX11_applyLocal_18 : decode cX11_applyLocal 18 = .ok (.aload_n 0, 1) := by decide +kernel
theorem dX11_applyLocal_19 : decode cX11_applyLocal 19 = .ok (.iconst 0, 1) := by decide +kernel
theorem dX11_applyLocal_20 : decode cX11_applyLocal 20 = .ok (.putfield 295, 3) := by decide +kernel
theorem dX11_applyLocal_23 : decode cX11_applyLocal 23 = .ok (.goto 119, 3) := by decide +kernel
theorem dX11_applyLocal_26 : decode cX11_applyLocal 26 = .ok (.iload_n 1, 1) := by decide +kernel
theorem dX11_applyLocal_27 : decode cX11_applyLocal 27 = .ok (.bipush 21, 2) := by decide +kernel
theorem dX11_applyLocal_29 : decode cX11_applyLocal 29 = .ok (.if_icmp .eq 9, 3) := by decide +kernel
theorem dX11_applyLocal_32 : decode cX11_applyLocal 32 = .ok (.iload_n 1, 1) := by decide +kernel
theorem dX11_applyLocal_33 : decode cX11_applyLocal 33 = .ok (.bipush 25, 2) := by decide +kernel
theorem dX11_applyLocal_35 : decode cX11_applyLocal 35 = .ok (.if_icmp .ne 72, 3) := by decide +kernel
theorem dX11_applyLocal_38 : decode cX11_applyLocal 38 = .ok (.iload_n 1, 1) := by decide +kernel
theorem dX11_applyLocal_39 : decode cX11_applyLocal 39 = .ok (.bipush 21, 2) := by decide +kernel
theorem dX11_applyLocal_41 : decode cX11_applyLocal 41 = .ok (.if_icmp .ne 23, 3) := by decide +kernel
theorem dX11_applyLocal_44 : decode cX11_applyLocal 44 = .ok (.aload_n 0, 1) := by decide +kernel
theorem dX11_applyLocal_45 : decode cX11_applyLocal 45 = .ok (.getfield 44, 3) := by decide +kernel
theorem dX11_applyLocal_48 : decode cX11_applyLocal 48 = .ok (.iload_n 2, 1) := by decide +kernel
theorem dX11_applyLocal_49 : decode cX11_applyLocal 49 = .ok (.iaload, 1) := by decide +kernel
theorem dX11_applyLocal_50 : decode cX11_applyLocal 50 = .ok (.sipush 301, 3) := by decide +kernel
theorem dX11_applyLocal_53 : decode cX11_applyLocal 53 = .ok (.if_icmp .ne 7, 3) := by decide +kernel
theorem dX11_applyLocal_56 : decode cX11_applyLocal 56 = .ok (.iconst 1, 1) := by decide +kernel
theorem dX11_applyLocal_57 : decode cX11_applyLocal 57 = .ok (.goto 16, 3) := by decide +kernel
theorem dX11_applyLocal_60 : decode cX11_applyLocal 60 = .ok (.iconst 0, 1) := by decide +kernel
theorem dX11_applyLocal_61 : decode cX11_applyLocal 61 = .ok (.goto 12, 3) := by decide +kernel
theorem dX11_applyLocal_64 : decode cX11_applyLocal 64 = .ok (.aload_n 0, 1) := by decide +kernel
theorem dX11_applyLocal_65 : decode cX11_applyLocal 65 = .ok (.getfield 44, 3) := by decide +kernel
theorem dX11_applyLocal_68 : decode cX11_applyLocal 68 = .ok (.iload_n 2, 1) := by decide +kernel
theorem dX11_applyLocal_69 : decode cX11_applyLocal 69 = .ok (.iaload, 1) := by decide +kernel
theorem dX11_applyLocal_70 : decode cX11_applyLocal 70 = .ok (.invokestatic 316, 3) := by decide +kernel
theorem dX11_applyLocal_73 : decode cX11_applyLocal 73 = .ok (.istore_n 3, 1) := by decide +kernel
theorem dX11_applyLocal_74 : decode cX11_applyLocal 74 = .ok (.aload_n 0, 1) := by decide +kernel
theorem dX11_applyLocal_75 : decode cX11_applyLocal 75 = .ok (.aload_n 0, 1) := by decide +kernel
theorem dX11_applyLocal_76 : decode cX11_applyLocal 76 = .ok (.getfield 295, 3) := by decide +kernel
theorem dX11_applyLocal_79 : decode cX11_applyLocal 79 = .ok (.ifCond .eq 11, 3) := by decide +kernel
theorem dX11_applyLocal_82 : decode cX11_applyLocal 82 = .ok (.iload_n 3, 1) := by decide +kernel
theorem dX11_applyLocal_83 : decode cX11_applyLocal 83 = .ok (.ifCond .eq 7, 3) := by decide +kernel
theorem dX11_applyLocal_86 : decode cX11_applyLocal 86 = .ok (.iconst 1, 1) := by decide +kernel
theorem dX11_applyLocal_87 : decode cX11_applyLocal 87 = .ok (.goto 4, 3) := by decide +kernel
theorem dX11_applyLocal_90 : decode cX11_applyLocal 90 = .ok (.iconst 0, 1) := by decide +kernel
theorem dX11_applyLocal_91 : decode cX11_applyLocal 91 = .ok (.putfield 295, 3) := by decide +kernel
theorem dX11_applyLocal_94 : decode cX11_applyLocal 94 = .ok (.aload_n 0, 1) := by decide +kernel
theorem dX11_applyLocal_95 : decode cX11_applyLocal 95 = .ok (.aload_n 0, 1) := by decide +kernel
theorem dX11_applyLocal_96 : decode cX11_applyLocal 96 = .ok (.getfield 44, 3) := by decide +kernel
theorem dX11_applyLocal_99 : decode cX11_applyLocal 99 = .ok (.iload_n 2, 1) := by decide +kernel
theorem dX11_applyLocal_100 : decode cX11_applyLocal 100 = .ok (.iaload, 1) := by decide +kernel
theorem dX11_applyLocal_101 : decode cX11_applyLocal 101 = .ok (.invokevirtual 322, 3) := by decide +kernel
theorem dX11_applyLocal_104 : decode cX11_applyLocal 104 = .ok (.goto 38, 3) := by decide +kernel
theorem dX11_applyLocal_107 : decode cX11_applyLocal 107 = .ok (.iload_n 1, 1) := by decide +kernel
theorem dX11_applyLocal_108 : decode cX11_applyLocal 108 = .ok (.bipush 54, 2) := by decide +kernel
theorem dX11_applyLocal_110 : decode cX11_applyLocal 110 = .ok (.if_icmp .ne 22, 3) := by decide +kernel
theorem dX11_applyLocal_113 : decode cX11_applyLocal 113 = .ok (.aload_n 0, 1) := by decide +kernel
theorem dX11_applyLocal_114 : decode cX11_applyLocal 114 = .ok (.sipush 301, 3) := by decide +kernel
theorem dX11_applyLocal_117 : decode cX11_applyLocal 117 = .ok (.invokevirtual 325, 3) := by decide +kernel
theorem dX11_applyLocal_120 : decode cX11_applyLocal 120 = .ok (.aload_n 0, 1) := by decide +kernel
theorem dX11_applyLocal_121 : decode cX11_applyLocal 121 = .ok (.getfield 44, 3) := by decide +kernel
theorem dX11_applyLocal_124 : decode cX11_applyLocal 124 = .ok (.iload_n 2, 1) := by decide +kernel
theorem dX11_applyLocal_125 : decode cX11_applyLocal 125 = .ok (.sipush 301, 3) := by decide +kernel
theorem dX11_applyLocal_128 : decode cX11_applyLocal 128 = .ok (.iastore, 1) := by decide +kernel
theorem dX11_applyLocal_129 : decode cX11_applyLocal 129 = .ok (.goto 13, 3) := by decide +kernel
theorem dX11_applyLocal_132 : decode cX11_applyLocal 132 = .ok (.aload_n 0, 1) := by decide +kernel
theorem dX11_applyLocal_133 : decode cX11_applyLocal 133 = .ok (.getfield 44, 3) := by decide +kernel
theorem dX11_applyLocal_136 : decode cX11_applyLocal 136 = .ok (.iload_n 2, 1) := by decide +kernel
theorem dX11_applyLocal_137 : decode cX11_applyLocal 137 = .ok (.aload_n 0, 1) := by decide +kernel
theorem dX11_applyLocal_138 : decode cX11_applyLocal 138 = .ok (.invokevirtual 346, 3) := by decide +kernel
theorem dX11_applyLocal_141 : decode cX11_applyLocal 141 = .ok (.iastore, 1) := by decide +kernel
theorem dX11_applyLocal_142 : decode cX11_applyLocal 142 = .ok (.return_, 1) := by decide +kernel
theorem rs_RX11_177 : mx_res RX11 177 = some (1, 105, 2) := by decide +kernel
theorem mt_X11_applyMember : mx_mt 357 = some (yX11_applyMember, cX11_applyMember, 6, none) := rfl
theorem dX11_applyMember_0 : decode cX11_applyMember 0 = .ok (.aload_n 0, 1) := by decide +kernel
theorem dX11_applyMember_1 : decode cX11_applyMember 1 = .ok (.getfield 23, 3) := by decide +kernel
theorem dX11_applyMember_4 : decode cX11_applyMember 4 = .ok (.aload_n 0, 1) := by decide +kernel
theorem dX11_applyMember_5 : decode cX11_applyMember 5 = .ok (.getfield 62, 3) := by decide +kernel
theorem dX11_applyMember_8 : decode cX11_applyMember 8 = .ok (.iload_n 2, 1) := by decide +kernel
theorem dX11_applyMember_9 : decode cX11_applyMember 9 = .ok (.iconst 0, 1) := by decide +kernel
theorem dX11_applyMember_10 : decode cX11_applyMember 10 = .ok (.invokevirtual 177, 3) := by decide +kernel
theorem dX11_applyMember_13 : decode cX11_applyMember 13 = .ok (.iaload, 1) := by decide +kernel
theorem dX11_applyMember_14 : decode cX11_applyMember 14 = .ok (.istore_n 3, 1) := by decide +kernel
theorem dX11_applyMember_15 : decode cX11_applyMember 15 = .ok (.iload_n 2, 1) := by decide +kernel
theorem dX11_applyMember_16 : decode cX11_applyMember 16 = .ok (.bipush 7, 2) := by decide +kernel
theorem dX11_applyMember_18 : decode cX11_applyMember 18 = .ok (.imul, 1) := by decide +kernel
theorem dX11_applyMember_19 : decode cX11_applyMember 19 = .ok (.istore 4, 2) := by decide +kernel
theorem dX11_applyMember_21 : decode cX11_applyMember 21 = .ok (.iload_n 1, 1) := by decide +kernel
theorem dX11_applyMember_22 : decode cX11_applyMember 22 = .ok (.lookupswitch 64 #[(180, 26), (181, 45)], 26) := by decide +kernel
theorem dX11_applyMember_48 : decode cX11_applyMember 48 = .ok (.aload_n 0, 1) := by decide +kernel
theorem dX11_applyMember_49 : decode cX11_applyMember 49 = .ok (.iload_n 3, 1) := by decide +kernel
theorem dX11_applyMember_50 : decode cX11_applyMember 50 = .ok (.invokevirtual 325, 3) := by decide +kernel
theorem dX11_applyMember_53 : decode cX11_applyMember 53 = .ok (.aload_n 0, 1) := by decide +kernel
theorem dX11_applyMember_54 : decode cX11_applyMember 54 = .ok (.aload_n 0, 1) := by decide +kernel
theorem dX11_applyMember_55 : decode cX11_applyMember 55 = .ok (.getfield 33, 3) := by decide +kernel
theorem dX11_applyMember_58 : decode cX11_applyMember 58 = .ok (.iload 4, 2) := by decide +kernel
theorem dX11_applyMember_60 : decode cX11_applyMember 60 = .ok (.iaload, 1) := by decide +kernel
theorem dX11_applyMember_61 : decode cX11_applyMember 61 = .ok (.invokevirtual 322, 3) := by decide +kernel
theorem dX11_applyMember_64 : decode cX11_applyMember 64 = .ok (.goto 91, 3) := by decide +kernel
theorem dX11_applyMember_67 : decode cX11_applyMember 67 = .ok (.aload_n 0, 1) := by decide +kernel
theorem dX11_applyMember_68 : decode cX11_applyMember 68 = .ok (.aload_n 0, 1) := by decide +kernel
theorem dX11_applyMember_69 : decode cX11_applyMember 69 = .ok (.getfield 33, 3) := by decide +kernel
theorem dX11_applyMember_72 : decode cX11_applyMember 72 = .ok (.iload 4, 2) := by decide +kernel
theorem dX11_applyMember_74 : decode cX11_applyMember 74 = .ok (.iaload, 1) := by decide +kernel
theorem dX11_applyMember_75 : decode cX11_applyMember 75 = .ok (.invokevirtual 325, 3) := by decide +kernel
theorem dX11_applyMember_78 : decode cX11_applyMember 78 = .ok (.aload_n 0, 1) := by decide +kernel
theorem dX11_applyMember_79 : decode cX11_applyMember 79 = .ok (.iload_n 3, 1) := by decide +kernel
theorem dX11_applyMember_80 : decode cX11_applyMember 80 = .ok (.invokevirtual 325, 3) := by decide +kernel
theorem dX11_applyMember_83 : decode cX11_applyMember 83 = .ok (.goto 72, 3) := by decide +kernel
theorem dX11_applyMember_86 : decode cX11_applyMember 86 = .ok (.aload_n 0, 1) := by decide +kernel
theorem dX11_applyMember_87 : decode cX11_applyMember 87 = .ok (.getfield 30, 3) := by decide +kernel
theorem dX11_applyMember_90 : decode cX11_applyMember 90 = .ok (.iload_n 2, 1) := by decide +kernel
theorem dX11_applyMember_91 : decode cX11_applyMember 91 = .ok (.iaload, 1) := by decide +kernel
theorem dX11_applyMember_92 : decode cX11_applyMember 92 = .ok (.istore 5, 2) := by decide +kernel
theorem dX11_applyMember_94 : decode cX11_applyMember 94 = .ok (.iload 5, 2) := by decide +kernel
theorem dX11_applyMember_96 : decode cX11_applyMember 96 = .ok (.ifCond .le 23, 3) := by decide +kernel
theorem dX11_applyMember_99 : decode cX11_applyMember 99 = .ok (.aload_n 0, 1) := by decide +kernel
theorem dX11_applyMember_100 : decode cX11_applyMember 100 = .ok (.aload_n 0, 1) := by decide +kernel
theorem dX11_applyMember_101 : decode cX11_applyMember 101 = .ok (.getfield 33, 3) := by decide +kernel
theorem dX11_applyMember_104 : decode cX11_applyMember 104 = .ok (.iload 4, 2) := by decide +kernel
theorem dX11_applyMember_106 : decode cX11_applyMember 106 = .ok (.iload 5, 2) := by decide +kernel
theorem dX11_applyMember_108 : decode cX11_applyMember 108 = .ok (.iadd, 1) := by decide +kernel
theorem dX11_applyMember_109 : decode cX11_applyMember 109 = .ok (.iaload, 1) := by decide +kernel
theorem dX11_applyMember_110 : decode cX11_applyMember 110 = .ok (.invokevirtual 325, 3) := by decide +kernel
theorem dX11_applyMember_113 : decode cX11_applyMember 113 = .ok (.iinc 5 (-1), 3) := by decide +kernel
theorem dX11_applyMember_116 : decode cX11_applyMember 116 = .ok (.goto (-22), 3) := by decide +kernel
theorem dX11_applyMember_119 : decode cX11_applyMember 119 = .ok (.iload_n 1, 1) := by decide +kernel
theorem dX11_applyMember_120 : decode cX11_applyMember 120 = .ok (.sipush 182, 3) := by decide +kernel
theorem dX11_applyMember_123 : decode cX11_applyMember 123 = .ok (.if_icmp .ne 8, 3) := by decide +kernel
theorem dX11_applyMember_126 : decode cX11_applyMember 126 = .ok (.aload_n 0, 1) := by decide +kernel
theorem dX11_applyMember_127 : decode cX11_applyMember 127 = .ok (.iload_n 3, 1) := by decide +kernel
theorem dX11_applyMember_128 : decode cX11_applyMember 128 = .ok (.invokevirtual 325, 3) := by decide +kernel
theorem dX11_applyMember_131 : decode cX11_applyMember 131 = .ok (.aload_n 0, 1) := by decide +kernel
theorem dX11_applyMember_132 : decode cX11_applyMember 132 = .ok (.getfield 33, 3) := by decide +kernel
theorem dX11_applyMember_135 : decode cX11_applyMember 135 = .ok (.iload 4, 2) := by decide +kernel
theorem dX11_applyMember_137 : decode cX11_applyMember 137 = .ok (.iaload, 1) := by decide +kernel
theorem dX11_applyMember_138 : decode cX11_applyMember 138 = .ok (.sipush 303, 3) := by decide +kernel
theorem dX11_applyMember_141 : decode cX11_applyMember 141 = .ok (.if_icmp .eq 14, 3) := by decide +kernel
theorem dX11_applyMember_144 : decode cX11_applyMember 144 = .ok (.aload_n 0, 1) := by decide +kernel
theorem dX11_applyMember_145 : decode cX11_applyMember 145 = .ok (.aload_n 0, 1) := by decide +kernel
theorem dX11_applyMember_146 : decode cX11_applyMember 146 = .ok (.getfield 33, 3) := by decide +kernel
theorem dX11_applyMember_149 : decode cX11_applyMember 149 = .ok (.iload 4, 2) := by decide +kernel
theorem dX11_applyMember_151 : decode cX11_applyMember 151 = .ok (.iaload, 1) := by decide +kernel
theorem dX11_applyMember_152 : decode cX11_applyMember 152 = .ok (.invokevirtual 322, 3) := by decide +kernel
theorem dX11_applyMember_155 : decode cX11_applyMember 155 = .ok (.return_, 1) := by decide +kernel
theorem mt_X11_applyObject : mx_mt 358 = some (yX11_applyObject, cX11_applyObject, 3, none) := rfl
theorem dX11_applyObject_0 : decode cX11_applyObject 0 = .ok (.iload_n 1, 1) := by decide +kernel
theorem dX11_applyObject_1 : decode cX11_applyObject 1 = .ok (.tableswitch 149 186 192 #[43, 53, 66, 83, 106, 123, 131], 43) := by decide +kernel
theorem dX11_applyObject_44 : decode cX11_applyObject 44 = .ok (.aload_n 0, 1) := by decide +kernel
theorem dX11_applyObject_45 : decode cX11_applyObject 45 = .ok (.sipush 301, 3) := by decide +kernel
theorem dX11_applyObject_48 : decode cX11_applyObject 48 = .ok (.invokevirtual 325, 3) := by decide +kernel
theorem dX11_applyObject_51 : decode cX11_applyObject 51 = .ok (.goto 111, 3) := by decide +kernel
theorem dX11_applyObject_54 : decode cX11_applyObject 54 = .ok (.aload_n 0, 1) := by decide +kernel
theorem dX11_applyObject_55 : decode cX11_applyObject 55 = .ok (.aload_n 0, 1) := by decide +kernel
theorem dX11_applyObject_56 : decode cX11_applyObject 56 = .ok (.getfield 23, 3) := by decide +kernel
theorem dX11_applyObject_59 : decode cX11_applyObject 59 = .ok (.iload_n 2, 1) := by decide +kernel
theorem dX11_applyObject_60 : decode cX11_applyObject 60 = .ok (.iaload, 1) := by decide +kernel
theorem dX11_applyObject_61 : decode cX11_applyObject 61 = .ok (.invokevirtual 322, 3) := by decide +kernel
theorem dX11_applyObject_64 : decode cX11_applyObject 64 = .ok (.goto 98, 3) := by decide +kernel
theorem dX11_applyObject_67 : decode cX11_applyObject 67 = .ok (.aload_n 0, 1) := by decide +kernel
theorem dX11_applyObject_68 : decode cX11_applyObject 68 = .ok (.sipush 301, 3) := by decide +kernel
theorem dX11_applyObject_71 : decode cX11_applyObject 71 = .ok (.invokevirtual 325, 3) := by decide +kernel
theorem dX11_applyObject_74 : decode cX11_applyObject 74 = .ok (.aload_n 0, 1) := by decide +kernel
theorem dX11_applyObject_75 : decode cX11_applyObject 75 = .ok (.sipush 200, 3) := by decide +kernel
theorem dX11_applyObject_78 : decode cX11_applyObject 78 = .ok (.invokevirtual 322, 3) := by decide +kernel
theorem dX11_applyObject_81 : decode cX11_applyObject 81 = .ok (.goto 81, 3) := by decide +kernel
theorem dX11_applyObject_84 : decode cX11_applyObject 84 = .ok (.aload_n 0, 1) := by decide +kernel
theorem dX11_applyObject_85 : decode cX11_applyObject 85 = .ok (.sipush 301, 3) := by decide +kernel
theorem dX11_applyObject_88 : decode cX11_applyObject 88 = .ok (.invokevirtual 325, 3) := by decide +kernel
theorem dX11_applyObject_91 : decode cX11_applyObject 91 = .ok (.aload_n 0, 1) := by decide +kernel
theorem dX11_applyObject_92 : decode cX11_applyObject 92 = .ok (.bipush 100, 2) := by decide +kernel
theorem dX11_applyObject_94 : decode cX11_applyObject 94 = .ok (.aload_n 0, 1) := by decide +kernel
theorem dX11_applyObject_95 : decode cX11_applyObject 95 = .ok (.getfield 23, 3) := by decide +kernel
theorem dX11_applyObject_98 : decode cX11_applyObject 98 = .ok (.iload_n 2, 1) := by decide +kernel
theorem dX11_applyObject_99 : decode cX11_applyObject 99 = .ok (.iaload, 1) := by decide +kernel
theorem dX11_applyObject_100 : decode cX11_applyObject 100 = .ok (.iadd, 1) := by decide +kernel
theorem dX11_applyObject_101 : decode cX11_applyObject 101 = .ok (.invokevirtual 322, 3) := by decide +kernel
theorem dX11_applyObject_104 : decode cX11_applyObject 104 = .ok (.goto 58, 3) := by decide +kernel
theorem dX11_applyObject_107 : decode cX11_applyObject 107 = .ok (.aload_n 0, 1) := by decide +kernel
theorem dX11_applyObject_108 : decode cX11_applyObject 108 = .ok (.iconst 1, 1) := by decide +kernel
theorem dX11_applyObject_109 : decode cX11_applyObject 109 = .ok (.iconst 1, 1) := by decide +kernel
theorem dX11_applyObject_110 : decode cX11_applyObject 110 = .ok (.invokevirtual 349, 3) := by decide +kernel
theorem dX11_applyObject_113 : decode cX11_applyObject 113 = .ok (.pop, 1) := by decide +kernel
theorem dX11_applyObject_114 : decode cX11_applyObject 114 = .ok (.aload_n 0, 1) := by decide +kernel
theorem dX11_applyObject_115 : decode cX11_applyObject 115 = .ok (.sipush 301, 3) := by decide +kernel
theorem dX11_applyObject_118 : decode cX11_applyObject 118 = .ok (.invokevirtual 322, 3) := by decide +kernel
theorem dX11_applyObject_121 : decode cX11_applyObject 121 = .ok (.goto 41, 3) := by decide +kernel
theorem dX11_applyObject_124 : decode cX11_applyObject 124 = .ok (.aload_n 0, 1) := by decide +kernel
theorem dX11_applyObject_125 : decode cX11_applyObject 125 = .ok (.iconst 1, 1) := by decide +kernel
theorem dX11_applyObject_126 : decode cX11_applyObject 126 = .ok (.invokevirtual 325, 3) := by decide +kernel
theorem dX11_applyObject_129 : decode cX11_applyObject 129 = .ok (.goto 33, 3) := by decide +kernel
theorem dX11_applyObject_132 : decode cX11_applyObject 132 = .ok (.aload_n 0, 1) := by decide +kernel
theorem dX11_applyObject_133 : decode cX11_applyObject 133 = .ok (.invokevirtual 346, 3) := by decide +kernel
theorem dX11_applyObject_136 : decode cX11_applyObject 136 = .ok (.pop, 1) := by decide +kernel
theorem dX11_applyObject_137 : decode cX11_applyObject 137 = .ok (.aload_n 0, 1) := by decide +kernel
theorem dX11_applyObject_138 : decode cX11_applyObject 138 = .ok (.aload_n 0, 1) := by decide +kernel
theorem dX11_applyObject_139 : decode cX11_applyObject 139 = .ok (.getfield 23, 3) := by decide +kernel
theorem dX11_applyObject_142 : decode cX11_applyObject 142 = .ok (.iload_n 2, 1) := by decide +kernel
theorem dX11_applyObject_143 : decode cX11_applyObject 143 = .ok (.iaload, 1) := by decide +kernel
theorem dX11_applyObject_144 : decode cX11_applyObject 144 = .ok (.invokevirtual 322, 3) := by decide +kernel
theorem dX11_applyObject_147 : decode cX11_applyObject 147 = .ok (.goto 15, 3) := by decide +kernel
theorem dX11_applyObject_150 : decode cX11_applyObject 150 = .ok (.aload_n 0, 1) := by decide +kernel
theorem dX11_applyObject_151 : decode cX11_applyObject 151 = .ok (.invokevirtual 346, 3) := by decide +kernel
theorem dX11_applyObject_154 : decode cX11_applyObject 154 = .ok (.pop, 1) := by decide +kernel
theorem dX11_applyObject_155 : decode cX11_applyObject 155 = .ok (.aload_n 0, 1) := by decide +kernel
theorem dX11_applyObject_156 : decode cX11_applyObject 156 = .ok (.sipush 301, 3) := by decide +kernel
theorem dX11_applyObject_159 : decode cX11_applyObject 159 = .ok (.invokevirtual 322, 3) := by decide +kernel
theorem dX11_applyObject_162 : decode cX11_applyObject 162 = .ok (.return_, 1) := by decide +kernel
theorem mt_X11_applyReturn : mx_mt 356 = some (yX11_applyReturn, cX11_applyReturn, 2, none) := rfl
theorem dX11_applyReturn_0 : decode cX11_applyReturn 0 = .ok (.iload_n 1, 1) := by decide +kernel
theorem dX11_applyReturn_1 : decode cX11_applyReturn 1 = .ok (.sipush 177, 3) := by decide +kernel
theorem dX11_applyReturn_4 : decode cX11_applyReturn 4 = .ok (.if_icmp .ne 25, 3) := by decide +kernel
theorem dX11_applyReturn_7 : decode cX11_applyReturn 7 = .ok (.aload_n 0, 1) := by decide +kernel
theorem dX11_applyReturn_8 : decode cX11_applyReturn 8 = .ok (.aload_n 0, 1) := by decide +kernel
theorem dX11_applyReturn_9 : decode cX11_applyReturn 9 = .ok (.getfield 264, 3) := by decide +kernel
theorem dX11_applyReturn_12 : decode cX11_applyReturn 12 = .ok (.sipush 303, 3) := by decide +kernel
theorem dX11_applyReturn_15 : decode cX11_applyReturn 15 = .ok (.if_icmp .ne 7, 3) := by decide +kernel
theorem dX11_applyReturn_18 : decode cX11_applyReturn 18 = .ok (.iconst 1, 1) := by decide +kernel
theorem dX11_applyReturn_19 : decode cX11_applyReturn 19 = .ok (.goto 4, 3) := by decide +kernel
theorem dX11_applyReturn_22 : decode cX11_applyReturn 22 = .ok (.iconst 0, 1) := by decide +kernel
theorem dX11_applyReturn_23 : decode cX11_applyReturn 23 = .ok (.putfield 295, 3) := by decide +kernel
theorem dX11_applyReturn_26 : decode cX11_applyReturn 26 = .ok (.goto 90, 3) := by decide +kernel
theorem dX11_applyReturn_29 : decode cX11_applyReturn 29 = .ok (.iload_n 1, 1) := by decide +kernel
theorem dX11_applyReturn_30 : decode cX11_applyReturn 30 = .ok (.sipush 172, 3) := by decide +kernel
theorem dX11_applyReturn_33 : decode cX11_applyReturn 33 = .ok (.if_icmp .ne 39, 3) := by decide +kernel
theorem dX11_applyReturn_36 : decode cX11_applyReturn 36 = .ok (.aload_n 0, 1) := by decide +kernel
theorem dX11_applyReturn_37 : decode cX11_applyReturn 37 = .ok (.sipush 301, 3) := by decide +kernel
theorem dX11_applyReturn_40 : decode cX11_applyReturn 40 = .ok (.invokevirtual 325, 3) := by decide +kernel
theorem dX11_applyReturn_43 : decode cX11_applyReturn 43 = .ok (.aload_n 0, 1) := by decide +kernel
theorem dX11_applyReturn_44 : decode cX11_applyReturn 44 = .ok (.aload_n 0, 1) := by decide +kernel
theorem dX11_applyReturn_45 : decode cX11_applyReturn 45 = .ok (.getfield 295, 3) := by decide +kernel
theorem dX11_applyReturn_48 : decode cX11_applyReturn 48 = .ok (.ifCond .eq 17, 3) := by decide +kernel
theorem dX11_applyReturn_51 : decode cX11_applyReturn 51 = .ok (.aload_n 0, 1) := by decide +kernel
theorem dX11_applyReturn_52 : decode cX11_applyReturn 52 = .ok (.getfield 264, 3) := by decide +kernel
theorem dX11_applyReturn_55 : decode cX11_applyReturn 55 = .ok (.sipush 301, 3) := by decide +kernel
theorem dX11_applyReturn_58 : decode cX11_applyReturn 58 = .ok (.if_icmp .ne 7, 3) := by decide +kernel
theorem dX11_applyReturn_61 : decode cX11_applyReturn 61 = .ok (.iconst 1, 1) := by decide +kernel
theorem dX11_applyReturn_62 : decode cX11_applyReturn 62 = .ok (.goto 4, 3) := by decide +kernel
theorem dX11_applyReturn_65 : decode cX11_applyReturn 65 = .ok (.iconst 0, 1) := by decide +kernel
theorem dX11_applyReturn_66 : decode cX11_applyReturn 66 = .ok (.putfield 295, 3) := by decide +kernel
theorem dX11_applyReturn_69 : decode cX11_applyReturn 69 = .ok (.goto 47, 3) := by decide +kernel
theorem dX11_applyReturn_72 : decode cX11_applyReturn 72 = .ok (.aload_n 0, 1) := by decide +kernel
theorem dX11_applyReturn_73 : decode cX11_applyReturn 73 = .ok (.aload_n 0, 1) := by decide +kernel
theorem dX11_applyReturn_74 : decode cX11_applyReturn 74 = .ok (.getfield 264, 3) := by decide +kernel
theorem dX11_applyReturn_77 : decode cX11_applyReturn 77 = .ok (.invokevirtual 325, 3) := by decide +kernel
theorem dX11_applyReturn_80 : decode cX11_applyReturn 80 = .ok (.aload_n 0, 1) := by decide +kernel
theorem dX11_applyReturn_81 : decode cX11_applyReturn 81 = .ok (.aload_n 0, 1) := by decide +kernel
theorem dX11_applyReturn_82 : decode cX11_applyReturn 82 = .ok (.getfield 295, 3) := by decide +kernel
theorem dX11_applyReturn_85 : decode cX11_applyReturn 85 = .ok (.ifCond .eq 27, 3) := by decide +kernel
theorem dX11_applyReturn_88 : decode cX11_applyReturn 88 = .ok (.aload_n 0, 1) := by decide +kernel
theorem dX11_applyReturn_89 : decode cX11_applyReturn 89 = .ok (.getfield 264, 3) := by decide +kernel
theorem dX11_applyReturn_92 : decode cX11_applyReturn 92 = .ok (.sipush 301, 3) := by decide +kernel
theorem dX11_applyReturn_95 : decode cX11_applyReturn 95 = .ok (.if_icmp .eq 17, 3) := by decide +kernel
theorem dX11_applyReturn_98 : decode cX11_applyReturn 98 = .ok (.aload_n 0, 1) := by decide +kernel
theorem dX11_applyReturn_99 : decode cX11_applyReturn 99 = .ok (.getfield 264, 3) := by decide +kernel
theorem dX11_applyReturn_102 : decode cX11_applyReturn 102 = .ok (.sipush 303, 3) := by decide +kernel
theorem dX11_applyReturn_105 : decode cX11_applyReturn 105 = .ok (.if_icmp .eq 7, 3) := by decide +kernel
theorem dX11_applyReturn_108 : decode cX11_applyReturn 108 = .ok (.iconst 1, 1) := by decide +kernel
theorem dX11_applyReturn_109 : decode cX11_applyReturn 109 = .ok (.goto 4, 3) := by decide +kernel
theorem dX11_applyReturn_112 : decode cX11_applyReturn 112 = .ok (.iconst 0, 1) := by decide +kernel
theorem dX11_applyReturn_113 : decode cX11_applyReturn 113 = .ok (.putfield 295, 3) := by decide +kernel
theorem dX11_applyReturn_116 : decode cX11_applyReturn 116 = .ok (.return_, 1) := by decide +kernel
theorem rs_RX11_328 : mx_res RX11 328 = some (1, 353, 2) := by decide +kernel
theorem rs_RX11_331 : mx_res RX11 331 = some (1, 354, 1) := by decide +kernel
theorem rs_RX11_334 : mx_res RX11 334 = some (1, 355, 1) := by decide +kernel
theorem rs_RX11_337 : mx_res RX11 337 = some (1, 356, 1) := by decide +kernel
theorem rs_RX11_340 : mx_res RX11 340 = some (1, 357, 2) := by decide +kernel
theorem rs_RX11_343 : mx_res RX11 343 = some (1, 358, 2) := by decide +kernel
theorem mt_X11_applySimple : mx_mt 352 = some (yX11_applySimple, cX11_applySimple, 3, none) := rfl
theorem dX11_applySimple_0 : decode cX11_applySimple 0 = .ok (.iload_n 1, 1) := by decide +kernel
theorem dX11_applySimple_1 : decode cX11_applySimple 1 = .ok (.iconst 1, 1) := by decide +kernel
theorem dX11_applySimple_2 : decode cX11_applySimple 2 = .ok (.if_icmp .ne 13, 3) := by decide +kernel
theorem dX11_applySimple_5 : decode cX11_applySimple 5 = .ok (.aload_n 0, 1) := by decide +kernel
theorem dX11_applySimple_6 : decode cX11_applySimple 6 = .ok (.sipush 300, 3) := by decide +kernel
theorem dX11_applySimple_9 : decode cX11_applySimple 9 = .ok (.invokevirtual 322, 3) := by decide +kernel
theorem dX11_applySimple_12 : decode cX11_applySimple 12 = .ok (.goto 167, 3) := by decide +kernel
theorem dX11_applySimple_15 : decode cX11_applySimple 15 = .ok (.iload_n 1, 1) := by decide +kernel
theorem dX11_applySimple_16 : decode cX11_applySimple 16 = .ok (.iconst 2, 1) := by decide +kernel
theorem dX11_applySimple_17 : decode cX11_applySimple 17 = .ok (.if_icmp .lt 9, 3) := by decide +kernel
theorem dX11_applySimple_20 : decode cX11_applySimple 20 = .ok (.iload_n 1, 1) := by decide +kernel
theorem dX11_applySimple_21 : decode cX11_applySimple 21 = .ok (.bipush 8, 2) := by decide +kernel
theorem dX11_applySimple_23 : decode cX11_applySimple 23 = .ok (.if_icmp .le 15, 3) := by decide +kernel
theorem dX11_applySimple_26 : decode cX11_applySimple 26 = .ok (.iload_n 1, 1) := by decide +kernel
theorem dX11_applySimple_27 : decode cX11_applySimple 27 = .ok (.bipush 16, 2) := by decide +kernel
theorem dX11_applySimple_29 : decode cX11_applySimple 29 = .ok (.if_icmp .eq 9, 3) := by decide +kernel
theorem dX11_applySimple_32 : decode cX11_applySimple 32 = .ok (.iload_n 1, 1) := by decide +kernel
theorem dX11_applySimple_33 : decode cX11_applySimple 33 = .ok (.bipush 18, 2) := by decide +kernel
theorem dX11_applySimple_35 : decode cX11_applySimple 35 = .ok (.if_icmp .ne 13, 3) := by decide +kernel
theorem dX11_applySimple_38 : decode cX11_applySimple 38 = .ok (.aload_n 0, 1) := by decide +kernel
theorem dX11_applySimple_39 : decode cX11_applySimple 39 = .ok (.sipush 301, 3) := by decide +kernel
theorem dX11_applySimple_42 : decode cX11_applySimple 42 = .ok (.invokevirtual 322, 3) := by decide +kernel
theorem dX11_applySimple_45 : decode cX11_applySimple 45 = .ok (.goto 134, 3) := by decide +kernel
theorem dX11_applySimple_48 : decode cX11_applySimple 48 = .ok (.iload_n 1, 1) := by decide +kernel
theorem dX11_applySimple_49 : decode cX11_applySimple 49 = .ok (.invokestatic 201, 3) := by decide +kernel
theorem dX11_applySimple_52 : decode cX11_applySimple 52 = .ok (.ifCond .eq 27, 3) := by decide +kernel
theorem dX11_applySimple_55 : decode cX11_applySimple 55 = .ok (.aload_n 0, 1) := by decide +kernel
theorem dX11_applySimple_56 : decode cX11_applySimple 56 = .ok (.sipush 301, 3) := by decide +kernel
theorem dX11_applySimple_59 : decode cX11_applySimple 59 = .ok (.invokevirtual 325, 3) := by decide +kernel
theorem dX11_applySimple_62 : decode cX11_applySimple 62 = .ok (.aload_n 0, 1) := by decide +kernel
theorem dX11_applySimple_63 : decode cX11_applySimple 63 = .ok (.sipush 301, 3) := by decide +kernel
theorem dX11_applySimple_66 : decode cX11_applySimple 66 = .ok (.invokevirtual 325, 3) := by decide +kernel
theorem dX11_applySimple_69 : decode cX11_applySimple 69 = .ok (.aload_n 0, 1) := by decide +kernel
theorem dX11_applySimple_70 : decode cX11_applySimple 70 = .ok (.sipush 301, 3) := by decide +kernel
theorem dX11_applySimple_73 : decode cX11_applySimple 73 = .ok (.invokevirtual 322, 3) := by decide +kernel
theorem dX11_applySimple_76 : decode cX11_applySimple 76 = .ok (.goto 103, 3) := by decide +kernel
theorem dX11_applySimple_79 : decode cX11_applySimple 79 = .ok (.iload_n 1, 1) := by decide +kernel
theorem dX11_applySimple_80 : decode cX11_applySimple 80 = .ok (.bipush 21, 2) := by decide +kernel
theorem dX11_applySimple_82 : decode cX11_applySimple 82 = .ok (.if_icmp .eq 21, 3) := by decide +kernel
theorem dX11_applySimple_85 : decode cX11_applySimple 85 = .ok (.iload_n 1, 1) := by decide +kernel
theorem dX11_applySimple_86 : decode cX11_applySimple 86 = .ok (.bipush 25, 2) := by decide +kernel
theorem dX11_applySimple_88 : decode cX11_applySimple 88 = .ok (.if_icmp .eq 15, 3) := by decide +kernel
theorem dX11_applySimple_91 : decode cX11_applySimple 91 = .ok (.iload_n 1, 1) := by decide +kernel
theorem dX11_applySimple_92 : decode cX11_applySimple 92 = .ok (.bipush 54, 2) := by decide +kernel
theorem dX11_applySimple_94 : decode cX11_applySimple 94 = .ok (.if_icmp .eq 9, 3) := by decide +kernel
theorem dX11_applySimple_97 : decode cX11_applySimple 97 = .ok (.iload_n 1, 1) := by decide +kernel
theorem dX11_applySimple_98 : decode cX11_applySimple 98 = .ok (.bipush 58, 2) := by decide +kernel
theorem dX11_applySimple_100 : decode cX11_applySimple 100 = .ok (.if_icmp .ne 12, 3) := by decide +kernel
theorem dX11_applySimple_103 : decode cX11_applySimple 103 = .ok (.aload_n 0, 1) := by decide +kernel
theorem dX11_applySimple_104 : decode cX11_applySimple 104 = .ok (.iload_n 1, 1) := by decide +kernel
theorem dX11_applySimple_105 : decode cX11_applySimple 105 = .ok (.iload_n 2, 1) := by decide +kernel
theorem dX11_applySimple_106 : decode cX11_applySimple 106 = .ok (.invokevirtual 328, 3) := by decide +kernel
theorem dX11_applySimple_109 : decode cX11_applySimple 109 = .ok (.goto 70, 3) := by decide +kernel
theorem dX11_applySimple_112 : decode cX11_applySimple 112 = .ok (.iload_n 1, 1) := by decide +kernel
theorem dX11_applySimple_113 : decode cX11_applySimple 113 = .ok (.invokestatic 198, 3) := by decide +kernel
theorem dX11_applySimple_116 : decode cX11_applySimple 116 = .ok (.ifCond .eq 11, 3) := by decide +kernel
theorem dX11_applySimple_119 : decode cX11_applySimple 119 = .ok (.aload_n 0, 1) := by decide +kernel
theorem dX11_applySimple_120 : decode cX11_applySimple 120 = .ok (.iload_n 1, 1) := by decide +kernel
theorem dX11_applySimple_121 : decode cX11_applySimple 121 = .ok (.invokevirtual 331, 3) := by decide +kernel
theorem dX11_applySimple_124 : decode cX11_applySimple 124 = .ok (.goto 55, 3) := by decide +kernel
theorem dX11_applySimple_127 : decode cX11_applySimple 127 = .ok (.iload_n 1, 1) := by decide +kernel
theorem dX11_applySimple_128 : decode cX11_applySimple 128 = .ok (.sipush 172, 3) := by decide +kernel
theorem dX11_applySimple_131 : decode cX11_applySimple 131 = .ok (.if_icmp .ge 11, 3) := by decide +kernel
theorem dX11_applySimple_134 : decode cX11_applySimple 134 = .ok (.aload_n 0, 1) := by decide +kernel
theorem dX11_applySimple_135 : decode cX11_applySimple 135 = .ok (.iload_n 1, 1) := by decide +kernel
theorem dX11_applySimple_136 : decode cX11_applySimple 136 = .ok (.invokevirtual 334, 3) := by decide +kernel
theorem dX11_applySimple_139 : decode cX11_applySimple 139 = .ok (.goto 40, 3) := by decide +kernel
theorem dX11_applySimple_142 : decode cX11_applySimple 142 = .ok (.iload_n 1, 1) := by decide +kernel
theorem dX11_applySimple_143 : decode cX11_applySimple 143 = .ok (.sipush 180, 3) := by decide +kernel
theorem dX11_applySimple_146 : decode cX11_applySimple 146 = .ok (.if_icmp .ge 11, 3) := by decide +kernel
theorem dX11_applySimple_149 : decode cX11_applySimple 149 = .ok (.aload_n 0, 1) := by decide +kernel
theorem dX11_applySimple_150 : decode cX11_applySimple 150 = .ok (.iload_n 1, 1) := by decide +kernel
theorem dX11_applySimple_151 : decode cX11_applySimple 151 = .ok (.invokevirtual 337, 3) := by decide +kernel
theorem dX11_applySimple_154 : decode cX11_applySimple 154 = .ok (.goto 25, 3) := by decide +kernel
theorem dX11_applySimple_157 : decode cX11_applySimple 157 = .ok (.iload_n 1, 1) := by decide +kernel
theorem dX11_applySimple_158 : decode cX11_applySimple 158 = .ok (.sipush 184, 3) := by decide +kernel
theorem dX11_applySimple_161 : decode cX11_applySimple 161 = .ok (.if_icmp .gt 12, 3) := by decide +kernel
theorem dX11_applySimple_164 : decode cX11_applySimple 164 = .ok (.aload_n 0, 1) := by decide +kernel
theorem dX11_applySimple_165 : decode cX11_applySimple 165 = .ok (.iload_n 1, 1) := by decide +kernel
theorem dX11_applySimple_166 : decode cX11_applySimple 166 = .ok (.iload_n 2, 1) := by decide +kernel
theorem dX11_applySimple_167 : decode cX11_applySimple 167 = .ok (.invokevirtual 340, 3) := by decide +kernel
theorem dX11_applySimple_170 : decode cX11_applySimple 170 = .ok (.goto 9, 3) := by decide +kernel
theorem dX11_applySimple_173 : decode cX11_applySimple 173 = .ok (.aload_n 0, 1) := by decide +kernel
theorem dX11_applySimple_174 : decode cX11_applySimple 174 = .ok (.iload_n 1, 1) := by decide +kernel
theorem dX11_applySimple_175 : decode cX11_applySimple 175 = .ok (.iload_n 2, 1) := by decide +kernel
theorem dX11_applySimple_176 : decode cX11_applySimple 176 = .ok (.invokevirtual 343, 3) := by decide +kernel
theorem dX11_applySimple_179 : decode cX11_applySimple 179 = .ok (.return_, 1) := by decide +kernel
theorem mt_X11_fits : mx_mt 340 = some (yX11_fits, cX11_fits, 3, (some .boolean)) := rfl
theorem dX11_fits_0 : decode cX11_fits 0 = .ok (.iload_n 2, 1) := by decide +kernel
theorem dX11_fits_1 : decode cX11_fits 1 = .ok (.sipush 304, 3) := by decide +kernel
theorem dX11_fits_4 : decode cX11_fits 4 = .ok (.if_icmp .eq 15, 3) := by decide +kernel
theorem dX11_fits_7 : decode cX11_fits 7 = .ok (.aload_n 0, 1) := by decide +kernel
theorem dX11_fits_8 : decode cX11_fits 8 = .ok (.getfield 60, 3) := by decide +kernel
theorem dX11_fits_11 : decode cX11_fits 11 = .ok (.iload_n 1, 1) := by decide +kernel
theorem dX11_fits_12 : decode cX11_fits 12 = .ok (.iload_n 2, 1) := by decide +kernel
theorem dX11_fits_13 : decode cX11_fits 13 = .ok (.invokevirtual 248, 3) := by decide +kernel
theorem dX11_fits_16 : decode cX11_fits 16 = .ok (.ifCond .eq 7, 3) := by decide +kernel
theorem dX11_fits_19 : decode cX11_fits 19 = .ok (.iconst 1, 1) := by decide +kernel
theorem dX11_fits_20 : decode cX11_fits 20 = .ok (.goto 4, 3) := by decide +kernel
theorem dX11_fits_23 : decode cX11_fits 23 = .ok (.iconst 0, 1) := by decide +kernel
theorem dX11_fits_24 : decode cX11_fits 24 = .ok (.ireturn, 1) := by decide +kernel
theorem rs_RX11_303 : mx_res RX11 303 = some (1, 340, 2) := by decide +kernel
theorem mt_X11_fitsLocals : mx_mt 341 = some (yX11_fitsLocals, cX11_fitsLocals, 4, (some .boolean)) := rfl
theorem dX11_fitsLocals_0 : decode cX11_fitsLocals 0 = .ok (.iconst 1, 1) := by decide +kernel
theorem dX11_fitsLocals_1 : decode cX11_fitsLocals 1 = .ok (.istore_n 2, 1) := by decide +kernel
theorem dX11_fitsLocals_2 : decode cX11_fitsLocals 2 = .ok (.iconst 0, 1) := by decide +kernel
theorem dX11_fitsLocals_3 : decode cX11_fitsLocals 3 = .ok (.istore_n 3, 1) := by decide +kernel
theorem dX11_fitsLocals_4 : decode cX11_fitsLocals 4 = .ok (.iload_n 3, 1) := by decide +kernel
theorem dX11_fitsLocals_5 : decode cX11_fitsLocals 5 = .ok (.aload_n 0, 1) := by decide +kernel
theorem dX11_fitsLocals_6 : decode cX11_fitsLocals 6 = .ok (.getfield 41, 3) := by decide +kernel
theorem dX11_fitsLocals_9 : decode cX11_fitsLocals 9 = .ok (.iload_n 1, 1) := by decide +kernel
theorem dX11_fitsLocals_10 : decode cX11_fitsLocals 10 = .ok (.iconst 1, 1) := by decide +kernel
theorem dX11_fitsLocals_11 : decode cX11_fitsLocals 11 = .ok (.iadd, 1) := by decide +kernel
theorem dX11_fitsLocals_12 : decode cX11_fitsLocals 12 = .ok (.iaload, 1) := by decide +kernel
theorem dX11_fitsLocals_13 : decode cX11_fitsLocals 13 = .ok (.if_icmp .ge 34, 3) := by decide +kernel
theorem dX11_fitsLocals_16 : decode cX11_fitsLocals 16 = .ok (.iload_n 2, 1) := by decide +kernel
theorem dX11_fitsLocals_17 : decode cX11_fitsLocals 17 = .ok (.ifCond .eq 30, 3) := by decide +kernel
theorem dX11_fitsLocals_20 : decode cX11_fitsLocals 20 = .ok (.aload_n 0, 1) := by decide +kernel
theorem dX11_fitsLocals_21 : decode cX11_fitsLocals 21 = .ok (.aload_n 0, 1) := by decide +kernel
theorem dX11_fitsLocals_22 : decode cX11_fitsLocals 22 = .ok (.getfield 44, 3) := by decide +kernel
theorem dX11_fitsLocals_25 : decode cX11_fitsLocals 25 = .ok (.iload_n 3, 1) := by decide +kernel
theorem dX11_fitsLocals_26 : decode cX11_fitsLocals 26 = .ok (.iaload, 1) := by decide +kernel
theorem dX11_fitsLocals_27 : decode cX11_fitsLocals 27 = .ok (.aload_n 0, 1) := by decide +kernel
theorem dX11_fitsLocals_28 : decode cX11_fitsLocals 28 = .ok (.getfield 41, 3) := by decide +kernel
theorem dX11_fitsLocals_31 : decode cX11_fitsLocals 31 = .ok (.iload_n 1, 1) := by decide +kernel
theorem dX11_fitsLocals_32 : decode cX11_fitsLocals 32 = .ok (.iconst 3, 1) := by decide +kernel
theorem dX11_fitsLocals_33 : decode cX11_fitsLocals 33 = .ok (.iadd, 1) := by decide +kernel
theorem dX11_fitsLocals_34 : decode cX11_fitsLocals 34 = .ok (.iload_n 3, 1) := by decide +kernel
theorem dX11_fitsLocals_35 : decode cX11_fitsLocals 35 = .ok (.iadd, 1) := by decide +kernel
theorem dX11_fitsLocals_36 : decode cX11_fitsLocals 36 = .ok (.iaload, 1) := by decide +kernel
theorem dX11_fitsLocals_37 : decode cX11_fitsLocals 37 = .ok (.invokevirtual 303, 3) := by decide +kernel
theorem dX11_fitsLocals_40 : decode cX11_fitsLocals 40 = .ok (.istore_n 2, 1) := by decide +kernel
theorem dX11_fitsLocals_41 : decode cX11_fitsLocals 41 = .ok (.iinc 3 1, 3) := by decide +kernel
theorem dX11_fitsLocals_44 : decode cX11_fitsLocals 44 = .ok (.goto (-40), 3) := by decide +kernel
theorem dX11_fitsLocals_47 : decode cX11_fitsLocals 47 = .ok (.iload_n 2, 1) := by decide +kernel
theorem dX11_fitsLocals_48 : decode cX11_fitsLocals 48 = .ok (.ireturn, 1) := by decide +kernel
theorem rs_RX11_304 : mx_res RX11 304 = some (1, 341, 1) := by decide +kernel
theorem mt_X11_fitsFrame : mx_mt 342 = some (yX11_fitsFrame, cX11_fitsFrame, 5, (some .boolean)) := rfl
theorem dX11_fitsFrame_0 : decode cX11_fitsFrame 0 = .ok (.iload_n 1, 1) := by decide +kernel
theorem dX11_fitsFrame_1 : decode cX11_fitsFrame 1 = .ok (.bipush 64, 2) := by decide +kernel
theorem dX11_fitsFrame_3 : decode cX11_fitsFrame 3 = .ok (.imul, 1) := by decide +kernel
theorem dX11_fitsFrame_4 : decode cX11_fitsFrame 4 = .ok (.istore_n 2, 1) := by decide +kernel
theorem dX11_fitsFrame_5 : decode cX11_fitsFrame 5 = .ok (.aload_n 0, 1) := by decide +kernel
theorem dX11_fitsFrame_6 : decode cX11_fitsFrame 6 = .ok (.getfield 41, 3) := by decide +kernel
theorem dX11_fitsFrame_9 : decode cX11_fitsFrame 9 = .ok (.iload_n 2, 1) := by decide +kernel
theorem dX11_fitsFrame_10 : decode cX11_fitsFrame 10 = .ok (.iconst 2, 1) := by decide +kernel
theorem dX11_fitsFrame_11 : decode cX11_fitsFrame 11 = .ok (.iadd, 1) := by decide +kernel
theorem dX11_fitsFrame_12 : decode cX11_fitsFrame 12 = .ok (.iaload, 1) := by decide +kernel
theorem dX11_fitsFrame_13 : decode cX11_fitsFrame 13 = .ok (.aload_n 0, 1) := by decide +kernel
theorem dX11_fitsFrame_14 : decode cX11_fitsFrame 14 = .ok (.getfield 255, 3) := by decide +kernel
theorem dX11_fitsFrame_17 : decode cX11_fitsFrame 17 = .ok (.if_icmp .ne 15, 3) := by decide +kernel
theorem dX11_fitsFrame_20 : decode cX11_fitsFrame 20 = .ok (.aload_n 0, 1) := by decide +kernel
theorem dX11_fitsFrame_21 : decode cX11_fitsFrame 21 = .ok (.iload_n 2, 1) := by decide +kernel
theorem dX11_fitsFrame_22 : decode cX11_fitsFrame 22 = .ok (.invokevirtual 304, 3) := by decide +kernel
theorem dX11_fitsFrame_25 : decode cX11_fitsFrame 25 = .ok (.ifCond .eq 7, 3) := by decide +kernel
theorem dX11_fitsFrame_28 : decode cX11_fitsFrame 28 = .ok (.iconst 1, 1) := by decide +kernel
theorem dX11_fitsFrame_29 : decode cX11_fitsFrame 29 = .ok (.goto 4, 3) := by decide +kernel
theorem dX11_fitsFrame_32 : decode cX11_fitsFrame 32 = .ok (.iconst 0, 1) := by decide +kernel
theorem dX11_fitsFrame_33 : decode cX11_fitsFrame 33 = .ok (.istore_n 3, 1) := by decide +kernel
theorem dX11_fitsFrame_34 : decode cX11_fitsFrame 34 = .ok (.iconst 0, 1) := by decide +kernel
theorem dX11_fitsFrame_35 : decode cX11_fitsFrame 35 = .ok (.istore 4, 2) := by decide +kernel
theorem dX11_fitsFrame_37 : decode cX11_fitsFrame 37 = .ok (.iload 4, 2) := by decide +kernel
theorem dX11_fitsFrame_39 : decode cX11_fitsFrame 39 = .ok (.aload_n 0, 1) := by decide +kernel
theorem dX11_fitsFrame_40 : decode cX11_fitsFrame 40 = .ok (.getfield 255, 3) := by decide +kernel
theorem dX11_fitsFrame_43 : decode cX11_fitsFrame 43 = .ok (.if_icmp .ge 37, 3) := by decide +kernel
theorem dX11_fitsFrame_46 : decode cX11_fitsFrame 46 = .ok (.iload_n 3, 1) := by decide +kernel
theorem dX11_fitsFrame_47 : decode cX11_fitsFrame 47 = .ok (.ifCond .eq 33, 3) := by decide +kernel
theorem dX11_fitsFrame_50 : decode cX11_fitsFrame 50 = .ok (.aload_n 0, 1) := by decide +kernel
theorem dX11_fitsFrame_51 : decode cX11_fitsFrame 51 = .ok (.aload_n 0, 1) := by decide +kernel
theorem dX11_fitsFrame_52 : decode cX11_fitsFrame 52 = .ok (.getfield 47, 3) := by decide +kernel
theorem dX11_fitsFrame_55 : decode cX11_fitsFrame 55 = .ok (.iload 4, 2) := by decide +kernel
theorem dX11_fitsFrame_57 : decode cX11_fitsFrame 57 = .ok (.iaload, 1) := by decide +kernel
theorem dX11_fitsFrame_58 : decode cX11_fitsFrame 58 = .ok (.aload_n 0, 1) := by decide +kernel
theorem dX11_fitsFrame_59 : decode cX11_fitsFrame 59 = .ok (.getfield 41, 3) := by decide +kernel
theorem dX11_fitsFrame_62 : decode cX11_fitsFrame 62 = .ok (.iload_n 2, 1) := by decide +kernel
theorem dX11_fitsFrame_63 : decode cX11_fitsFrame 63 = .ok (.bipush 33, 2) := by decide +kernel
theorem dX11_fitsFrame_65 : decode cX11_fitsFrame 65 = .ok (.iadd, 1) := by decide +kernel
theorem dX11_fitsFrame_66 : decode cX11_fitsFrame 66 = .ok (.iload 4, 2) := by decide +kernel
theorem dX11_fitsFrame_68 : decode cX11_fitsFrame 68 = .ok (.iadd, 1) := by decide +kernel
theorem dX11_fitsFrame_69 : decode cX11_fitsFrame 69 = .ok (.iaload, 1) := by decide +kernel
theorem dX11_fitsFrame_70 : decode cX11_fitsFrame 70 = .ok (.invokevirtual 303, 3) := by decide +kernel
theorem dX11_fitsFrame_73 : decode cX11_fitsFrame 73 = .ok (.istore_n 3, 1) := by decide +kernel
theorem dX11_fitsFrame_74 : decode cX11_fitsFrame 74 = .ok (.iinc 4 1, 3) := by decide +kernel
theorem dX11_fitsFrame_77 : decode cX11_fitsFrame 77 = .ok (.goto (-40), 3) := by decide +kernel
theorem dX11_fitsFrame_80 : decode cX11_fitsFrame 80 = .ok (.iload_n 3, 1) := by decide +kernel
theorem dX11_fitsFrame_81 : decode cX11_fitsFrame 81 = .ok (.ireturn, 1) := by decide +kernel
