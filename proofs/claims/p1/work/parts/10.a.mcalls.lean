abbrev cX13_end : ByteArray := prog_15_method_5_code
def yX13_end : MethodName := ⟨RX13, "end", "(I)Z"⟩
abbrev cX13_fault : ByteArray := prog_15_method_111_code
def yX13_fault : MethodName := ⟨RX13, "fault", "(I)I"⟩
abbrev cX13_image : ByteArray := prog_15_method_112_code
def yX13_image : MethodName := ⟨RX13, "image", "(II)I"⟩
abbrev cX13_keep : ByteArray := prog_15_method_141_code
def yX13_keep : MethodName := ⟨RX13, "keep", "(I)I"⟩
abbrev cX13_patch : ByteArray := prog_15_method_142_code
def yX13_patch : MethodName := ⟨RX13, "patch", "(III)Z"⟩
abbrev cX13_verify : ByteArray := prog_15_method_161_code
def yX13_verify : MethodName := ⟨RX13, "verify", "()I"⟩
abbrev cX13_where : ByteArray := prog_15_method_162_code
def yX13_where : MethodName := ⟨RX13, "where", "(I)I"⟩
abbrev cX13_start : ByteArray := prog_15_method_194_code
def yX13_start : MethodName := ⟨RX13, "start", "(II)Z"⟩
abbrev cX13_run : ByteArray := prog_15_method_203_code
def yX13_run : MethodName := ⟨RX13, "run", "(I)I"⟩
abbrev cX13_look : ByteArray := prog_15_method_221_code
def yX13_look : MethodName := ⟨RX13, "look", "(I)I"⟩
abbrev cX13_out : ByteArray := prog_15_method_222_code
def yX13_out : MethodName := ⟨RX13, "out", "(I)I"⟩
theorem dX13_end_0 : decode cX13_end 0 = .ok (.iload_n 1, 1) := by decide +kernel
theorem dX13_end_1 : decode cX13_end 1 = .ok (.ifCond .lt 11, 3) := by decide +kernel
theorem dX13_end_4 : decode cX13_end 4 = .ok (.iload_n 1, 1) := by decide +kernel
theorem dX13_end_5 : decode cX13_end 5 = .ok (.aload_n 0, 1) := by decide +kernel
theorem dX13_end_6 : decode cX13_end 6 = .ok (.getfield 312, 3) := by decide +kernel
theorem dX13_end_9 : decode cX13_end 9 = .ok (.if_icmp .le 5, 3) := by decide +kernel
theorem dX13_end_12 : decode cX13_end 12 = .ok (.iconst 0, 1) := by decide +kernel
theorem dX13_end_13 : decode cX13_end 13 = .ok (.ireturn, 1) := by decide +kernel
theorem dX13_end_14 : decode cX13_end 14 = .ok (.aload_n 0, 1) := by decide +kernel
theorem dX13_end_15 : decode cX13_end 15 = .ok (.iload_n 1, 1) := by decide +kernel
theorem dX13_end_16 : decode cX13_end 16 = .ok (.putfield 312, 3) := by decide +kernel
theorem dX13_end_19 : decode cX13_end 19 = .ok (.iconst 1, 1) := by decide +kernel
theorem dX13_end_20 : decode cX13_end 20 = .ok (.ireturn, 1) := by decide +kernel
theorem dX13_fault_0 : decode cX13_fault 0 = .ok (.iload_n 1, 1) := by decide +kernel
theorem dX13_fault_1 : decode cX13_fault 1 = .ok (.ifCond .ne 10, 3) := by decide +kernel
theorem dX13_fault_4 : decode cX13_fault 4 = .ok (.aload_n 0, 1) := by decide +kernel
theorem dX13_fault_5 : decode cX13_fault 5 = .ok (.getfield 319, 3) := by decide +kernel
theorem dX13_fault_8 : decode cX13_fault 8 = .ok (.goto 23, 3) := by decide +kernel
theorem dX13_fault_11 : decode cX13_fault 11 = .ok (.iload_n 1, 1) := by decide +kernel
theorem dX13_fault_12 : decode cX13_fault 12 = .ok (.iconst 1, 1) := by decide +kernel
theorem dX13_fault_13 : decode cX13_fault 13 = .ok (.if_icmp .ne 17, 3) := by decide +kernel
theorem dX13_fault_16 : decode cX13_fault 16 = .ok (.aload_n 0, 1) := by decide +kernel
theorem dX13_fault_17 : decode cX13_fault 17 = .ok (.getfield 319, 3) := by decide +kernel
theorem dX13_fault_20 : decode cX13_fault 20 = .ok (.ifCond .le 10, 3) := by decide +kernel
theorem dX13_fault_30 : decode cX13_fault 30 = .ok (.iconst (-1), 1) := by decide +kernel
theorem dX13_fault_31 : decode cX13_fault 31 = .ok (.ireturn, 1) := by decide +kernel
theorem dX13_image_0 : decode cX13_image 0 = .ok (.iload_n 1, 1) := by decide +kernel
theorem dX13_image_1 : decode cX13_image 1 = .ok (.ifCond .lt 26, 3) := by decide +kernel
theorem dX13_image_4 : decode cX13_image 4 = .ok (.iload_n 1, 1) := by decide +kernel
theorem dX13_image_5 : decode cX13_image 5 = .ok (.aload_n 0, 1) := by decide +kernel
theorem dX13_image_6 : decode cX13_image 6 = .ok (.getfield 761, 3) := by decide +kernel
theorem dX13_image_9 : decode cX13_image 9 = .ok (.if_icmp .ge 18, 3) := by decide +kernel
theorem dX13_image_27 : decode cX13_image 27 = .ok (.iconst (-1), 1) := by decide +kernel
theorem dX13_image_28 : decode cX13_image 28 = .ok (.ireturn, 1) := by decide +kernel
theorem dX13_keep_0 : decode cX13_keep 0 = .ok (.iload_n 1, 1) := by decide +kernel
theorem dX13_keep_1 : decode cX13_keep 1 = .ok (.ifCond .lt 11, 3) := by decide +kernel
theorem dX13_keep_4 : decode cX13_keep 4 = .ok (.iload_n 1, 1) := by decide +kernel
theorem dX13_keep_5 : decode cX13_keep 5 = .ok (.aload_n 0, 1) := by decide +kernel
theorem dX13_keep_6 : decode cX13_keep 6 = .ok (.getfield 761, 3) := by decide +kernel
theorem dX13_keep_9 : decode cX13_keep 9 = .ok (.if_icmp .lt 5, 3) := by decide +kernel
theorem dX13_keep_12 : decode cX13_keep 12 = .ok (.iconst (-1), 1) := by decide +kernel
theorem dX13_keep_13 : decode cX13_keep 13 = .ok (.ireturn, 1) := by decide +kernel
theorem dX13_patch_0 : decode cX13_patch 0 = .ok (.iload_n 1, 1) := by decide +kernel
theorem dX13_patch_1 : decode cX13_patch 1 = .ok (.bipush 8, 2) := by decide +kernel
theorem dX13_patch_3 : decode cX13_patch 3 = .ok (.isub, 1) := by decide +kernel
theorem dX13_patch_4 : decode cX13_patch 4 = .ok (.istore 4, 2) := by decide +kernel
theorem dX13_patch_6 : decode cX13_patch 6 = .ok (.iload 4, 2) := by decide +kernel
theorem dX13_patch_8 : decode cX13_patch 8 = .ok (.ifCond .lt 27, 3) := by decide +kernel
theorem dX13_patch_11 : decode cX13_patch 11 = .ok (.iload 4, 2) := by decide +kernel
theorem dX13_patch_13 : decode cX13_patch 13 = .ok (.aload_n 0, 1) := by decide +kernel
theorem dX13_patch_14 : decode cX13_patch 14 = .ok (.getfield 833, 3) := by decide +kernel
theorem dX13_patch_17 : decode cX13_patch 17 = .ok (.if_icmp .ge 18, 3) := by decide +kernel
theorem dX13_patch_35 : decode cX13_patch 35 = .ok (.iconst 0, 1) := by decide +kernel
theorem dX13_patch_36 : decode cX13_patch 36 = .ok (.ireturn, 1) := by decide +kernel
theorem dX13_verify_0 : decode cX13_verify 0 = .ok (.aload_n 0, 1) := by decide +kernel
theorem dX13_verify_1 : decode cX13_verify 1 = .ok (.iconst 0, 1) := by decide +kernel
theorem dX13_verify_2 : decode cX13_verify 2 = .ok (.putfield 855, 3) := by decide +kernel
theorem dX13_verify_5 : decode cX13_verify 5 = .ok (.aload_n 0, 1) := by decide +kernel
theorem dX13_verify_6 : decode cX13_verify 6 = .ok (.iconst 0, 1) := by decide +kernel
theorem dX13_verify_7 : decode cX13_verify 7 = .ok (.putfield 901, 3) := by decide +kernel
theorem dX13_verify_10 : decode cX13_verify 10 = .ok (.aload_n 0, 1) := by decide +kernel
theorem dX13_verify_11 : decode cX13_verify 11 = .ok (.iconst 0, 1) := by decide +kernel
theorem dX13_verify_12 : decode cX13_verify 12 = .ok (.putfield 876, 3) := by decide +kernel
theorem dX13_verify_15 : decode cX13_verify 15 = .ok (.iconst 1, 1) := by decide +kernel
theorem dX13_verify_16 : decode cX13_verify 16 = .ok (.istore_n 1, 1) := by decide +kernel
theorem dX13_verify_17 : decode cX13_verify 17 = .ok (.bipush 8, 2) := by decide +kernel
theorem dX13_verify_19 : decode cX13_verify 19 = .ok (.istore_n 2, 1) := by decide +kernel
theorem dX13_verify_20 : decode cX13_verify 20 = .ok (.iload_n 2, 1) := by decide +kernel
theorem dX13_verify_21 : decode cX13_verify 21 = .ok (.bipush 8, 2) := by decide +kernel
theorem dX13_verify_23 : decode cX13_verify 23 = .ok (.aload_n 0, 1) := by decide +kernel
theorem dX13_verify_24 : decode cX13_verify 24 = .ok (.getfield 833, 3) := by decide +kernel
theorem dX13_verify_27 : decode cX13_verify 27 = .ok (.iadd, 1) := by decide +kernel
theorem dX13_verify_28 : decode cX13_verify 28 = .ok (.if_icmp .ge 19, 3) := by decide +kernel
theorem dX13_verify_47 : decode cX13_verify 47 = .ok (.bipush 8, 2) := by decide +kernel
theorem dX13_verify_49 : decode cX13_verify 49 = .ok (.istore_n 2, 1) := by decide +kernel
theorem dX13_verify_50 : decode cX13_verify 50 = .ok (.iload_n 2, 1) := by decide +kernel
theorem dX13_verify_51 : decode cX13_verify 51 = .ok (.bipush 8, 2) := by decide +kernel
theorem dX13_verify_53 : decode cX13_verify 53 = .ok (.aload_n 0, 1) := by decide +kernel
theorem dX13_verify_54 : decode cX13_verify 54 = .ok (.getfield 833, 3) := by decide +kernel
theorem dX13_verify_57 : decode cX13_verify 57 = .ok (.iadd, 1) := by decide +kernel
theorem dX13_verify_58 : decode cX13_verify 58 = .ok (.if_icmp .ge 45, 3) := by decide +kernel
theorem dX13_verify_103 : decode cX13_verify 103 = .ok (.aload_n 0, 1) := by decide +kernel
theorem dX13_verify_104 : decode cX13_verify 104 = .ok (.iload_n 1, 1) := by decide +kernel
theorem dX13_verify_105 : decode cX13_verify 105 = .ok (.putfield 855, 3) := by decide +kernel
theorem dX13_verify_108 : decode cX13_verify 108 = .ok (.aload_n 0, 1) := by decide +kernel
theorem dX13_verify_109 : decode cX13_verify 109 = .ok (.getfield 901, 3) := by decide +kernel
theorem dX13_verify_112 : decode cX13_verify 112 = .ok (.ireturn, 1) := by decide +kernel
theorem dX13_where_0 : decode cX13_where 0 = .ok (.iload_n 1, 1) := by decide +kernel
theorem dX13_where_1 : decode cX13_where 1 = .ok (.ifCond .ne 10, 3) := by decide +kernel
theorem dX13_where_4 : decode cX13_where 4 = .ok (.aload_n 0, 1) := by decide +kernel
theorem dX13_where_5 : decode cX13_where 5 = .ok (.getfield 257, 3) := by decide +kernel
theorem dX13_where_8 : decode cX13_where 8 = .ok (.goto 28, 3) := by decide +kernel
theorem dX13_where_11 : decode cX13_where 11 = .ok (.iload_n 1, 1) := by decide +kernel
theorem dX13_where_12 : decode cX13_where 12 = .ok (.iconst 1, 1) := by decide +kernel
theorem dX13_where_13 : decode cX13_where 13 = .ok (.if_icmp .ne 10, 3) := by decide +kernel
theorem dX13_where_16 : decode cX13_where 16 = .ok (.aload_n 0, 1) := by decide +kernel
theorem dX13_where_17 : decode cX13_where 17 = .ok (.getfield 261, 3) := by decide +kernel
theorem dX13_where_20 : decode cX13_where 20 = .ok (.goto 16, 3) := by decide +kernel
theorem dX13_where_23 : decode cX13_where 23 = .ok (.iload_n 1, 1) := by decide +kernel
theorem dX13_where_24 : decode cX13_where 24 = .ok (.iconst 2, 1) := by decide +kernel
theorem dX13_where_25 : decode cX13_where 25 = .ok (.if_icmp .ne 10, 3) := by decide +kernel
theorem dX13_where_28 : decode cX13_where 28 = .ok (.aload_n 0, 1) := by decide +kernel
theorem dX13_where_29 : decode cX13_where 29 = .ok (.getfield 264, 3) := by decide +kernel
theorem dX13_where_32 : decode cX13_where 32 = .ok (.goto 4, 3) := by decide +kernel
theorem dX13_where_35 : decode cX13_where 35 = .ok (.iconst (-1), 1) := by decide +kernel
theorem dX13_where_36 : decode cX13_where 36 = .ok (.ireturn, 1) := by decide +kernel
theorem dX13_start_0 : decode cX13_start 0 = .ok (.iload_n 1, 1) := by decide +kernel
theorem dX13_start_1 : decode cX13_start 1 = .ok (.bipush 8, 2) := by decide +kernel
theorem dX13_start_3 : decode cX13_start 3 = .ok (.isub, 1) := by decide +kernel
theorem dX13_start_4 : decode cX13_start 4 = .ok (.istore_n 3, 1) := by decide +kernel
theorem dX13_start_5 : decode cX13_start 5 = .ok (.aload_n 0, 1) := by decide +kernel
theorem dX13_start_6 : decode cX13_start 6 = .ok (.getfield 855, 3) := by decide +kernel
theorem dX13_start_9 : decode cX13_start 9 = .ok (.ifCond .eq 29, 3) := by decide +kernel
theorem dX13_start_38 : decode cX13_start 38 = .ok (.iconst 0, 1) := by decide +kernel
theorem dX13_start_39 : decode cX13_start 39 = .ok (.ireturn, 1) := by decide +kernel
theorem dX13_run_0 : decode cX13_run 0 = .ok (.iload_n 1, 1) := by decide +kernel
theorem dX13_run_1 : decode cX13_run 1 = .ok (.iconst 1, 1) := by decide +kernel
theorem dX13_run_2 : decode cX13_run 2 = .ok (.if_icmp .lt 10, 3) := by decide +kernel
theorem dX13_run_5 : decode cX13_run 5 = .ok (.iload_n 1, 1) := by decide +kernel
theorem dX13_run_6 : decode cX13_run 6 = .ok (.sipush 20000, 3) := by decide +kernel
theorem dX13_run_9 : decode cX13_run 9 = .ok (.if_icmp .le 5, 3) := by decide +kernel
theorem dX13_run_12 : decode cX13_run 12 = .ok (.iconst (-1), 1) := by decide +kernel
theorem dX13_run_13 : decode cX13_run 13 = .ok (.ireturn, 1) := by decide +kernel
theorem dX13_run_14 : decode cX13_run 14 = .ok (.iconst 0, 1) := by decide +kernel
theorem dX13_run_15 : decode cX13_run 15 = .ok (.istore_n 2, 1) := by decide +kernel
theorem dX13_run_16 : decode cX13_run 16 = .ok (.iload_n 2, 1) := by decide +kernel
theorem dX13_run_17 : decode cX13_run 17 = .ok (.iload_n 1, 1) := by decide +kernel
theorem dX13_run_18 : decode cX13_run 18 = .ok (.if_icmp .ge 21, 3) := by decide +kernel
theorem dX13_run_21 : decode cX13_run 21 = .ok (.aload_n 0, 1) := by decide +kernel
theorem dX13_run_22 : decode cX13_run 22 = .ok (.getfield 858, 3) := by decide +kernel
theorem dX13_run_25 : decode cX13_run 25 = .ok (.iconst 1, 1) := by decide +kernel
theorem dX13_run_26 : decode cX13_run 26 = .ok (.if_icmp .ne 13, 3) := by decide +kernel
theorem dX13_run_39 : decode cX13_run 39 = .ok (.aload_n 0, 1) := by decide +kernel
theorem dX13_run_40 : decode cX13_run 40 = .ok (.dup, 1) := by decide +kernel
theorem dX13_run_41 : decode cX13_run 41 = .ok (.getfield 1046, 3) := by decide +kernel
theorem dX13_run_44 : decode cX13_run 44 = .ok (.iload_n 2, 1) := by decide +kernel
theorem dX13_run_45 : decode cX13_run 45 = .ok (.iadd, 1) := by decide +kernel
theorem dX13_run_46 : decode cX13_run 46 = .ok (.putfield 1046, 3) := by decide +kernel
theorem dX13_run_49 : decode cX13_run 49 = .ok (.iload_n 2, 1) := by decide +kernel
theorem dX13_run_50 : decode cX13_run 50 = .ok (.ireturn, 1) := by decide +kernel
theorem dX13_look_0 : decode cX13_look 0 = .ok (.iload_n 1, 1) := by decide +kernel
theorem dX13_look_1 : decode cX13_look 1 = .ok (.tableswitch 300 0 13 #[71, 76, 101, 117, 133, 149, 165, 181, 205, 229, 253, 277, 282, 295], 71) := by decide +kernel
theorem dX13_look_72 : decode cX13_look 72 = .ok (.aload_n 0, 1) := by decide +kernel
theorem dX13_look_73 : decode cX13_look 73 = .ok (.getfield 858, 3) := by decide +kernel
theorem dX13_look_76 : decode cX13_look 76 = .ok (.ireturn, 1) := by decide +kernel
theorem dX13_look_77 : decode cX13_look 77 = .ok (.aload_n 0, 1) := by decide +kernel
theorem dX13_look_78 : decode cX13_look 78 = .ok (.getfield 858, 3) := by decide +kernel
theorem dX13_look_81 : decode cX13_look 81 = .ok (.iconst 2, 1) := by decide +kernel
theorem dX13_look_82 : decode cX13_look 82 = .ok (.if_icmp .eq 11, 3) := by decide +kernel
theorem dX13_look_85 : decode cX13_look 85 = .ok (.aload_n 0, 1) := by decide +kernel
theorem dX13_look_86 : decode cX13_look 86 = .ok (.getfield 858, 3) := by decide +kernel
theorem dX13_look_89 : decode cX13_look 89 = .ok (.iconst 3, 1) := by decide +kernel
theorem dX13_look_90 : decode cX13_look 90 = .ok (.if_icmp .ne 10, 3) := by decide +kernel
theorem dX13_look_100 : decode cX13_look 100 = .ok (.iconst (-1), 1) := by decide +kernel
theorem dX13_look_101 : decode cX13_look 101 = .ok (.ireturn, 1) := by decide +kernel
theorem dX13_look_102 : decode cX13_look 102 = .ok (.aload_n 0, 1) := by decide +kernel
theorem dX13_look_103 : decode cX13_look 103 = .ok (.getfield 858, 3) := by decide +kernel
theorem dX13_look_106 : decode cX13_look 106 = .ok (.ifCond .ne 7, 3) := by decide +kernel
theorem dX13_look_109 : decode cX13_look 109 = .ok (.iconst 0, 1) := by decide +kernel
theorem dX13_look_110 : decode cX13_look 110 = .ok (.goto 7, 3) := by decide +kernel
theorem dX13_look_117 : decode cX13_look 117 = .ok (.ireturn, 1) := by decide +kernel
theorem dX13_look_118 : decode cX13_look 118 = .ok (.aload_n 0, 1) := by decide +kernel
theorem dX13_look_119 : decode cX13_look 119 = .ok (.getfield 858, 3) := by decide +kernel
theorem dX13_look_122 : decode cX13_look 122 = .ok (.ifCond .ne 7, 3) := by decide +kernel
theorem dX13_look_125 : decode cX13_look 125 = .ok (.iconst 0, 1) := by decide +kernel
theorem dX13_look_126 : decode cX13_look 126 = .ok (.goto 7, 3) := by decide +kernel
theorem dX13_look_133 : decode cX13_look 133 = .ok (.ireturn, 1) := by decide +kernel
theorem dX13_look_134 : decode cX13_look 134 = .ok (.aload_n 0, 1) := by decide +kernel
theorem dX13_look_135 : decode cX13_look 135 = .ok (.getfield 858, 3) := by decide +kernel
theorem dX13_look_138 : decode cX13_look 138 = .ok (.ifCond .ne 7, 3) := by decide +kernel
theorem dX13_look_141 : decode cX13_look 141 = .ok (.iconst 0, 1) := by decide +kernel
theorem dX13_look_142 : decode cX13_look 142 = .ok (.goto 7, 3) := by decide +kernel
theorem dX13_look_149 : decode cX13_look 149 = .ok (.ireturn, 1) := by decide +kernel
theorem dX13_look_150 : decode cX13_look 150 = .ok (.aload_n 0, 1) := by decide +kernel
theorem dX13_look_151 : decode cX13_look 151 = .ok (.getfield 858, 3) := by decide +kernel
theorem dX13_look_154 : decode cX13_look 154 = .ok (.ifCond .ne 7, 3) := by decide +kernel
theorem dX13_look_157 : decode cX13_look 157 = .ok (.iconst 0, 1) := by decide +kernel
theorem dX13_look_158 : decode cX13_look 158 = .ok (.goto 7, 3) := by decide +kernel
theorem dX13_look_165 : decode cX13_look 165 = .ok (.ireturn, 1) := by decide +kernel
theorem dX13_look_166 : decode cX13_look 166 = .ok (.aload_n 0, 1) := by decide +kernel
theorem dX13_look_167 : decode cX13_look 167 = .ok (.getfield 858, 3) := by decide +kernel
theorem dX13_look_170 : decode cX13_look 170 = .ok (.ifCond .ne 7, 3) := by decide +kernel
theorem dX13_look_173 : decode cX13_look 173 = .ok (.iconst 0, 1) := by decide +kernel
theorem dX13_look_174 : decode cX13_look 174 = .ok (.goto 7, 3) := by decide +kernel
theorem dX13_look_181 : decode cX13_look 181 = .ok (.ireturn, 1) := by decide +kernel
theorem dX13_look_182 : decode cX13_look 182 = .ok (.aload_n 0, 1) := by decide +kernel
theorem dX13_look_183 : decode cX13_look 183 = .ok (.getfield 858, 3) := by decide +kernel
theorem dX13_look_186 : decode cX13_look 186 = .ok (.iconst 1, 1) := by decide +kernel
theorem dX13_look_187 : decode cX13_look 187 = .ok (.if_icmp .ne 17, 3) := by decide +kernel
theorem dX13_look_204 : decode cX13_look 204 = .ok (.iconst (-1), 1) := by decide +kernel
theorem dX13_look_205 : decode cX13_look 205 = .ok (.ireturn, 1) := by decide +kernel
theorem dX13_look_206 : decode cX13_look 206 = .ok (.aload_n 0, 1) := by decide +kernel
theorem dX13_look_207 : decode cX13_look 207 = .ok (.getfield 858, 3) := by decide +kernel
theorem dX13_look_210 : decode cX13_look 210 = .ok (.iconst 1, 1) := by decide +kernel
theorem dX13_look_211 : decode cX13_look 211 = .ok (.if_icmp .ne 17, 3) := by decide +kernel
theorem dX13_look_228 : decode cX13_look 228 = .ok (.iconst (-1), 1) := by decide +kernel
theorem dX13_look_229 : decode cX13_look 229 = .ok (.ireturn, 1) := by decide +kernel
theorem dX13_look_230 : decode cX13_look 230 = .ok (.aload_n 0, 1) := by decide +kernel
theorem dX13_look_231 : decode cX13_look 231 = .ok (.getfield 858, 3) := by decide +kernel
theorem dX13_look_234 : decode cX13_look 234 = .ok (.iconst 1, 1) := by decide +kernel
theorem dX13_look_235 : decode cX13_look 235 = .ok (.if_icmp .ne 17, 3) := by decide +kernel
theorem dX13_look_252 : decode cX13_look 252 = .ok (.iconst (-1), 1) := by decide +kernel
theorem dX13_look_253 : decode cX13_look 253 = .ok (.ireturn, 1) := by decide +kernel
theorem dX13_look_254 : decode cX13_look 254 = .ok (.aload_n 0, 1) := by decide +kernel
theorem dX13_look_255 : decode cX13_look 255 = .ok (.getfield 858, 3) := by decide +kernel
theorem dX13_look_258 : decode cX13_look 258 = .ok (.iconst 1, 1) := by decide +kernel
theorem dX13_look_259 : decode cX13_look 259 = .ok (.if_icmp .ne 17, 3) := by decide +kernel
theorem dX13_look_276 : decode cX13_look 276 = .ok (.iconst (-1), 1) := by decide +kernel
theorem dX13_look_277 : decode cX13_look 277 = .ok (.ireturn, 1) := by decide +kernel
theorem dX13_look_278 : decode cX13_look 278 = .ok (.aload_n 0, 1) := by decide +kernel
theorem dX13_look_279 : decode cX13_look 279 = .ok (.getfield 833, 3) := by decide +kernel
theorem dX13_look_282 : decode cX13_look 282 = .ok (.ireturn, 1) := by decide +kernel
theorem dX13_look_283 : decode cX13_look 283 = .ok (.aload_n 0, 1) := by decide +kernel
theorem dX13_look_284 : decode cX13_look 284 = .ok (.getfield 855, 3) := by decide +kernel
theorem dX13_look_287 : decode cX13_look 287 = .ok (.ifCond .eq 7, 3) := by decide +kernel
theorem dX13_look_294 : decode cX13_look 294 = .ok (.iconst 0, 1) := by decide +kernel
theorem dX13_look_295 : decode cX13_look 295 = .ok (.ireturn, 1) := by decide +kernel
theorem dX13_look_296 : decode cX13_look 296 = .ok (.aload_n 0, 1) := by decide +kernel
theorem dX13_look_297 : decode cX13_look 297 = .ok (.getfield 312, 3) := by decide +kernel
theorem dX13_look_300 : decode cX13_look 300 = .ok (.ireturn, 1) := by decide +kernel
theorem dX13_look_301 : decode cX13_look 301 = .ok (.iconst (-1), 1) := by decide +kernel
theorem dX13_look_302 : decode cX13_look 302 = .ok (.ireturn, 1) := by decide +kernel
theorem dX13_out_0 : decode cX13_out 0 = .ok (.aload_n 0, 1) := by decide +kernel
theorem dX13_out_1 : decode cX13_out 1 = .ok (.getfield 858, 3) := by decide +kernel
theorem dX13_out_4 : decode cX13_out 4 = .ok (.ifCond .le 31, 3) := by decide +kernel
theorem dX13_out_35 : decode cX13_out 35 = .ok (.iconst 0, 1) := by decide +kernel
theorem dX13_out_36 : decode cX13_out 36 = .ok (.ireturn, 1) := by decide +kernel
theorem vs_in4 {VS : List Cond} {a b c d : Cond} (ha : a ∈ VS) (hb : b ∈ VS) (hc : c ∈ VS) (hd : d ∈ VS) (h : [a, b, c, d].all goodWord = true) : GoodIn VS [a, b, c, d] := goodIn_sub (fun w hw => by
  rcases List.mem_cons.mp hw with q | hw
  · rw [q]; exact ha
  rcases List.mem_cons.mp hw with q | hw
  · rw [q]; exact hb
  rcases List.mem_cons.mp hw with q | hw
  · rw [q]; exact hc
  rcases List.mem_cons.mp hw with q | hw
  · rw [q]; exact hd
  exact absurd hw List.not_mem_nil) h
theorem vs_in3 {VS : List Cond} {a b c : Cond} (ha : a ∈ VS) (hb : b ∈ VS) (hc : c ∈ VS) (h : [a, b, c].all goodWord = true) : GoodIn VS [a, b, c] := goodIn_sub (fun w hw => by
  rcases List.mem_cons.mp hw with q | hw
  · rw [q]; exact ha
  rcases List.mem_cons.mp hw with q | hw
  · rw [q]; exact hb
  rcases List.mem_cons.mp hw with q | hw
  · rw [q]; exact hc
  exact absurd hw List.not_mem_nil) h
theorem vs_cons {VS L : List Cond} {a : Cond} (ha : a ∈ VS) (h : goodWord a = true) (hL : GoodIn VS L) : GoodIn VS (a :: L) := fun w hw => (List.mem_cons.mp hw).elim (fun q => q ▸ ⟨ha, good_of_word h⟩) (hL w)
theorem vs_self {VS : List Cond} (h : VS.all goodWord = true) : GoodIn VS VS := goodIn_sub (fun _ h => h) h
def VS_c1_p0 : List Cond := [Cond.fieldLink RX13 319 "ClassMillModel" "fault" "I", Cond.fieldLink RX13 761 "ClassMillModel" "imageMany" "I", Cond.fieldLink RX13 312 "ClassMillModel" "taped" "I", Cond.fieldLink RX13 264 "ClassMillModel" "whyPlace" "I", Cond.fieldLink RX13 261 "ClassMillModel" "whyMethod" "I", Cond.fieldLink RX13 257 "ClassMillModel" "whyClass" "I", Cond.fieldLink RX13 1046 "ClassMillModel" "steps" "I", Cond.fieldLink RX13 858 "ClassMillModel" "state" "I", Cond.fieldLink RX13 833 "ClassMillModel" "there" "I", Cond.fieldLink RX13 855 "ClassMillModel" "verified" "Z", Cond.fieldLink RX13 901 "ClassMillModel" "why" "I", Cond.fieldLink RX13 876 "ClassMillModel" "others" "I"]
def VS_c1 : List Cond := VS_c1_p0 ++ (wsX130)
theorem mw_c1_0 : Cond.fieldLink RX13 319 "ClassMillModel" "fault" "I" ∈ VS_c1 := List.mem_append_left _ (List.mem_of_getElem? (i := 0) rfl)
theorem mw_c1_1 : Cond.fieldLink RX13 761 "ClassMillModel" "imageMany" "I" ∈ VS_c1 := List.mem_append_left _ (List.mem_of_getElem? (i := 1) rfl)
theorem mw_c1_2 : Cond.fieldLink RX13 312 "ClassMillModel" "taped" "I" ∈ VS_c1 := List.mem_append_left _ (List.mem_of_getElem? (i := 2) rfl)
theorem mw_c1_3 : Cond.fieldLink RX13 264 "ClassMillModel" "whyPlace" "I" ∈ VS_c1 := List.mem_append_left _ (List.mem_of_getElem? (i := 3) rfl)
theorem mw_c1_4 : Cond.fieldLink RX13 261 "ClassMillModel" "whyMethod" "I" ∈ VS_c1 := List.mem_append_left _ (List.mem_of_getElem? (i := 4) rfl)
theorem mw_c1_5 : Cond.fieldLink RX13 257 "ClassMillModel" "whyClass" "I" ∈ VS_c1 := List.mem_append_left _ (List.mem_of_getElem? (i := 5) rfl)
theorem mw_c1_6 : Cond.fieldLink RX13 1046 "ClassMillModel" "steps" "I" ∈ VS_c1 := List.mem_append_left _ (List.mem_of_getElem? (i := 6) rfl)
theorem mw_c1_7 : Cond.fieldLink RX13 858 "ClassMillModel" "state" "I" ∈ VS_c1 := List.mem_append_left _ (List.mem_of_getElem? (i := 7) rfl)
theorem mw_c1_8 : Cond.fieldLink RX13 833 "ClassMillModel" "there" "I" ∈ VS_c1 := List.mem_append_left _ (List.mem_of_getElem? (i := 8) rfl)
theorem mw_c1_9 : Cond.fieldLink RX13 855 "ClassMillModel" "verified" "Z" ∈ VS_c1 := List.mem_append_left _ (List.mem_of_getElem? (i := 9) rfl)
theorem mw_c1_10 : Cond.fieldLink RX13 901 "ClassMillModel" "why" "I" ∈ VS_c1 := List.mem_append_left _ (List.mem_of_getElem? (i := 10) rfl)
theorem mw_c1_11 : Cond.fieldLink RX13 876 "ClassMillModel" "others" "I" ∈ VS_c1 := List.mem_append_left _ (List.mem_of_getElem? (i := 11) rfl)
theorem uV_c1_X13 : ∀ w ∈ u_ws RX13 TX13 155, w ∈ VS_c1 := fun w h => List.mem_append_right _ (h)
set_option maxRecDepth 100000 in
theorem gs_c1 : GoodIn VS_c1 VS_c1 := vs_self (by decide +kernel)
