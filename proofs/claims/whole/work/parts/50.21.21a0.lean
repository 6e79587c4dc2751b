theorem mt_X5_isCaught : mx_mt 180 = some (yX5_isCaught, cX5_isCaught, 6, (some .boolean)) := rfl
theorem dX5_isCaught_0 : decode cX5_isCaught 0 = .ok (.aload_n 0, 1) := by decide +kernel
theorem dX5_isCaught_1 : decode cX5_isCaught 1 = .ok (.getfield 26, 3) := by decide +kernel
theorem dX5_isCaught_4 : decode cX5_isCaught 4 = .ok (.aload_n 0, 1) := by decide +kernel
theorem dX5_isCaught_5 : decode cX5_isCaught 5 = .ok (.getfield 97, 3) := by decide +kernel
theorem dX5_isCaught_8 : decode cX5_isCaught 8 = .ok (.iaload, 1) := by decide +kernel
theorem dX5_isCaught_9 : decode cX5_isCaught 9 = .ok (.bipush 12, 2) := by decide +kernel
theorem dX5_isCaught_11 : decode cX5_isCaught 11 = .ok (.irem, 1) := by decide +kernel
theorem dX5_isCaught_12 : decode cX5_isCaught 12 = .ok (.istore_n 2, 1) := by decide +kernel
theorem dX5_isCaught_13 : decode cX5_isCaught 13 = .ok (.aload_n 0, 1) := by decide +kernel
theorem dX5_isCaught_14 : decode cX5_isCaught 14 = .ok (.getfield 46, 3) := by decide +kernel
theorem dX5_isCaught_17 : decode cX5_isCaught 17 = .ok (.iload_n 2, 1) := by decide +kernel
theorem dX5_isCaught_18 : decode cX5_isCaught 18 = .ok (.bipush 8, 2) := by decide +kernel
theorem dX5_isCaught_20 : decode cX5_isCaught 20 = .ok (.invokevirtual 126, 3) := by decide +kernel
theorem dX5_isCaught_23 : decode cX5_isCaught 23 = .ok (.istore_n 3, 1) := by decide +kernel
theorem dX5_isCaught_24 : decode cX5_isCaught 24 = .ok (.iconst 0, 1) := by decide +kernel
theorem dX5_isCaught_25 : decode cX5_isCaught 25 = .ok (.istore 4, 2) := by decide +kernel
theorem dX5_isCaught_27 : decode cX5_isCaught 27 = .ok (.iload 4, 2) := by decide +kernel
theorem dX5_isCaught_29 : decode cX5_isCaught 29 = .ok (.aload_n 0, 1) := by decide +kernel
theorem dX5_isCaught_30 : decode cX5_isCaught 30 = .ok (.getfield 46, 3) := by decide +kernel
theorem dX5_isCaught_33 : decode cX5_isCaught 33 = .ok (.iload_n 2, 1) := by decide +kernel
theorem dX5_isCaught_34 : decode cX5_isCaught 34 = .ok (.bipush 7, 2) := by decide +kernel
theorem dX5_isCaught_36 : decode cX5_isCaught 36 = .ok (.invokevirtual 126, 3) := by decide +kernel
theorem dX5_isCaught_39 : decode cX5_isCaught 39 = .ok (.if_icmp .ge 137, 3) := by decide +kernel
theorem dX5_isCaught_42 : decode cX5_isCaught 42 = .ok (.aload_n 0, 1) := by decide +kernel
theorem dX5_isCaught_43 : decode cX5_isCaught 43 = .ok (.getfield 29, 3) := by decide +kernel
theorem dX5_isCaught_46 : decode cX5_isCaught 46 = .ok (.aload_n 0, 1) := by decide +kernel
theorem dX5_isCaught_47 : decode cX5_isCaught 47 = .ok (.getfield 97, 3) := by decide +kernel
theorem dX5_isCaught_50 : decode cX5_isCaught 50 = .ok (.iaload, 1) := by decide +kernel
theorem dX5_isCaught_51 : decode cX5_isCaught 51 = .ok (.aload_n 0, 1) := by decide +kernel
theorem dX5_isCaught_52 : decode cX5_isCaught 52 = .ok (.getfield 46, 3) := by decide +kernel
theorem dX5_isCaught_55 : decode cX5_isCaught 55 = .ok (.iload_n 3, 1) := by decide +kernel
theorem dX5_isCaught_56 : decode cX5_isCaught 56 = .ok (.invokevirtual 184, 3) := by decide +kernel
theorem dX5_isCaught_59 : decode cX5_isCaught 59 = .ok (.if_icmp .lt 29, 3) := by decide +kernel
theorem dX5_isCaught_62 : decode cX5_isCaught 62 = .ok (.aload_n 0, 1) := by decide +kernel
theorem dX5_isCaught_63 : decode cX5_isCaught 63 = .ok (.getfield 29, 3) := by decide +kernel
theorem dX5_isCaught_66 : decode cX5_isCaught 66 = .ok (.aload_n 0, 1) := by decide +kernel
theorem dX5_isCaught_67 : decode cX5_isCaught 67 = .ok (.getfield 97, 3) := by decide +kernel
theorem dX5_isCaught_70 : decode cX5_isCaught 70 = .ok (.iaload, 1) := by decide +kernel
theorem dX5_isCaught_71 : decode cX5_isCaught 71 = .ok (.aload_n 0, 1) := by decide +kernel
theorem dX5_isCaught_72 : decode cX5_isCaught 72 = .ok (.getfield 46, 3) := by decide +kernel
theorem dX5_isCaught_75 : decode cX5_isCaught 75 = .ok (.iload_n 3, 1) := by decide +kernel
theorem dX5_isCaught_76 : decode cX5_isCaught 76 = .ok (.iconst 2, 1) := by decide +kernel
theorem dX5_isCaught_77 : decode cX5_isCaught 77 = .ok (.iadd, 1) := by decide +kernel
theorem dX5_isCaught_78 : decode cX5_isCaught 78 = .ok (.invokevirtual 184, 3) := by decide +kernel
theorem dX5_isCaught_81 : decode cX5_isCaught 81 = .ok (.if_icmp .ge 7, 3) := by decide +kernel
theorem dX5_isCaught_84 : decode cX5_isCaught 84 = .ok (.iconst 1, 1) := by decide +kernel
theorem dX5_isCaught_85 : decode cX5_isCaught 85 = .ok (.goto 4, 3) := by decide +kernel
theorem dX5_isCaught_88 : decode cX5_isCaught 88 = .ok (.iconst 0, 1) := by decide +kernel
theorem dX5_isCaught_89 : decode cX5_isCaught 89 = .ok (.istore 5, 2) := by decide +kernel
theorem dX5_isCaught_91 : decode cX5_isCaught 91 = .ok (.iload 5, 2) := by decide +kernel
theorem dX5_isCaught_93 : decode cX5_isCaught 93 = .ok (.ifCond .eq 74, 3) := by decide +kernel
theorem dX5_isCaught_96 : decode cX5_isCaught 96 = .ok (.aload_n 0, 1) := by decide +kernel
theorem dX5_isCaught_97 : decode cX5_isCaught 97 = .ok (.getfield 41, 3) := by decide +kernel
theorem dX5_isCaught_100 : decode cX5_isCaught 100 = .ok (.getfield 232, 3) := by decide +kernel
theorem dX5_isCaught_103 : decode cX5_isCaught 103 = .ok (.aload_n 0, 1) := by decide +kernel
theorem dX5_isCaught_104 : decode cX5_isCaught 104 = .ok (.getfield 17, 3) := by decide +kernel
theorem dX5_isCaught_107 : decode cX5_isCaught 107 = .ok (.iload_n 1, 1) := by decide +kernel
theorem dX5_isCaught_108 : decode cX5_isCaught 108 = .ok (.iaload, 1) := by decide +kernel
theorem dX5_isCaught_109 : decode cX5_isCaught 109 = .ok (.aload_n 0, 1) := by decide +kernel
theorem dX5_isCaught_110 : decode cX5_isCaught 110 = .ok (.aload_n 0, 1) := by decide +kernel
theorem dX5_isCaught_111 : decode cX5_isCaught 111 = .ok (.getfield 46, 3) := by decide +kernel
theorem dX5_isCaught_114 : decode cX5_isCaught 114 = .ok (.iload_n 3, 1) := by decide +kernel
theorem dX5_isCaught_115 : decode cX5_isCaught 115 = .ok (.bipush 6, 2) := by decide +kernel
theorem dX5_isCaught_117 : decode cX5_isCaught 117 = .ok (.iadd, 1) := by decide +kernel
theorem dX5_isCaught_118 : decode cX5_isCaught 118 = .ok (.invokevirtual 141, 3) := by decide +kernel
theorem dX5_isCaught_121 : decode cX5_isCaught 121 = .ok (.invokevirtual 149, 3) := by decide +kernel
theorem dX5_isCaught_124 : decode cX5_isCaught 124 = .ok (.invokevirtual 239, 3) := by decide +kernel
theorem dX5_isCaught_127 : decode cX5_isCaught 127 = .ok (.ifCond .eq 40, 3) := by decide +kernel
theorem dX5_isCaught_130 : decode cX5_isCaught 130 = .ok (.aload_n 0, 1) := by decide +kernel
theorem dX5_isCaught_131 : decode cX5_isCaught 131 = .ok (.getfield 32, 3) := by decide +kernel
theorem dX5_isCaught_134 : decode cX5_isCaught 134 = .ok (.aload_n 0, 1) := by decide +kernel
theorem dX5_isCaught_135 : decode cX5_isCaught 135 = .ok (.getfield 97, 3) := by decide +kernel
theorem dX5_isCaught_138 : decode cX5_isCaught 138 = .ok (.iconst 0, 1) := by decide +kernel
theorem dX5_isCaught_139 : decode cX5_isCaught 139 = .ok (.iastore, 1) := by decide +kernel
theorem dX5_isCaught_140 : decode cX5_isCaught 140 = .ok (.aload_n 0, 1) := by decide +kernel
theorem dX5_isCaught_141 : decode cX5_isCaught 141 = .ok (.iload_n 1, 1) := by decide +kernel
theorem dX5_isCaught_142 : decode cX5_isCaught 142 = .ok (.aload_n 0, 1) := by decide +kernel
theorem dX5_isCaught_143 : decode cX5_isCaught 143 = .ok (.getfield 46, 3) := by decide +kernel
theorem dX5_isCaught_146 : decode cX5_isCaught 146 = .ok (.iload_n 3, 1) := by decide +kernel
theorem dX5_isCaught_147 : decode cX5_isCaught 147 = .ok (.iconst 4, 1) := by decide +kernel
theorem dX5_isCaught_148 : decode cX5_isCaught 148 = .ok (.iadd, 1) := by decide +kernel
theorem dX5_isCaught_149 : decode cX5_isCaught 149 = .ok (.invokevirtual 184, 3) := by decide +kernel
theorem dX5_isCaught_152 : decode cX5_isCaught 152 = .ok (.aload_n 0, 1) := by decide +kernel
theorem dX5_isCaught_153 : decode cX5_isCaught 153 = .ok (.getfield 29, 3) := by decide +kernel
theorem dX5_isCaught_156 : decode cX5_isCaught 156 = .ok (.aload_n 0, 1) := by decide +kernel
theorem dX5_isCaught_157 : decode cX5_isCaught 157 = .ok (.getfield 97, 3) := by decide +kernel
theorem dX5_isCaught_160 : decode cX5_isCaught 160 = .ok (.iaload, 1) := by decide +kernel
theorem dX5_isCaught_161 : decode cX5_isCaught 161 = .ok (.isub, 1) := by decide +kernel
theorem dX5_isCaught_162 : decode cX5_isCaught 162 = .ok (.invokevirtual 145, 3) := by decide +kernel
theorem dX5_isCaught_165 : decode cX5_isCaught 165 = .ok (.iconst 1, 1) := by decide +kernel
theorem dX5_isCaught_166 : decode cX5_isCaught 166 = .ok (.ireturn, 1) := by decide +kernel
theorem dX5_isCaught_167 : decode cX5_isCaught 167 = .ok (.iinc 3 7, 3) := by decide +kernel
theorem dX5_isCaught_170 : decode cX5_isCaught 170 = .ok (.iinc 4 1, 3) := by decide +kernel
theorem dX5_isCaught_173 : decode cX5_isCaught 173 = .ok (.goto (-146), 3) := by decide +kernel
theorem dX5_isCaught_176 : decode cX5_isCaught 176 = .ok (.iconst 0, 1) := by decide +kernel
theorem dX5_isCaught_177 : decode cX5_isCaught 177 = .ok (.ireturn, 1) := by decide +kernel
theorem rs_RX5_249 : mx_res RX5 249 = some (1, 180, 1) := by decide +kernel
theorem mt_X5_throwUp : mx_mt 179 = some (yX5_throwUp, cX5_throwUp, 3, none) := rfl
theorem dX5_throwUp_0 : decode cX5_throwUp 0 = .ok (.aload_n 0, 1) := by decide +kernel
theorem dX5_throwUp_1 : decode cX5_throwUp 1 = .ok (.iload_n 1, 1) := by decide +kernel
theorem dX5_throwUp_2 : decode cX5_throwUp 2 = .ok (.invokevirtual 226, 3) := by decide +kernel
theorem dX5_throwUp_5 : decode cX5_throwUp 5 = .ok (.ifCond .ne 10, 3) := by decide +kernel
theorem dX5_throwUp_8 : decode cX5_throwUp 8 = .ok (.aload_n 0, 1) := by decide +kernel
theorem dX5_throwUp_9 : decode cX5_throwUp 9 = .ok (.bipush 6, 2) := by decide +kernel
theorem dX5_throwUp_11 : decode cX5_throwUp 11 = .ok (.putfield 54, 3) := by decide +kernel
theorem dX5_throwUp_14 : decode cX5_throwUp 14 = .ok (.return_, 1) := by decide +kernel
theorem dX5_throwUp_15 : decode cX5_throwUp 15 = .ok (.iconst 0, 1) := by decide +kernel
theorem dX5_throwUp_16 : decode cX5_throwUp 16 = .ok (.istore_n 2, 1) := by decide +kernel
theorem dX5_throwUp_17 : decode cX5_throwUp 17 = .ok (.iload_n 2, 1) := by decide +kernel
theorem dX5_throwUp_18 : decode cX5_throwUp 18 = .ok (.bipush 60, 2) := by decide +kernel
theorem dX5_throwUp_20 : decode cX5_throwUp 20 = .ok (.if_icmp .ge 39, 3) := by decide +kernel
theorem dX5_throwUp_23 : decode cX5_throwUp 23 = .ok (.aload_n 0, 1) := by decide +kernel
theorem dX5_throwUp_24 : decode cX5_throwUp 24 = .ok (.getfield 66, 3) := by decide +kernel
theorem dX5_throwUp_27 : decode cX5_throwUp 27 = .ok (.ifCond .le 32, 3) := by decide +kernel
theorem dX5_throwUp_30 : decode cX5_throwUp 30 = .ok (.aload_n 0, 1) := by decide +kernel
theorem dX5_throwUp_31 : decode cX5_throwUp 31 = .ok (.invokevirtual 112, 3) := by decide +kernel
theorem dX5_throwUp_34 : decode cX5_throwUp 34 = .ok (.aload_n 0, 1) := by decide +kernel
theorem dX5_throwUp_35 : decode cX5_throwUp 35 = .ok (.iload_n 1, 1) := by decide +kernel
theorem dX5_throwUp_36 : decode cX5_throwUp 36 = .ok (.invokevirtual 249, 3) := by decide +kernel
theorem dX5_throwUp_39 : decode cX5_throwUp 39 = .ok (.ifCond .eq 4, 3) := by decide +kernel
theorem dX5_throwUp_42 : decode cX5_throwUp 42 = .ok (.return_, 1) := by decide +kernel
theorem dX5_throwUp_43 : decode cX5_throwUp 43 = .ok (.aload_n 0, 1) := by decide +kernel
theorem dX5_throwUp_44 : decode cX5_throwUp 44 = .ok (.dup, 1) := by decide +kernel
theorem dX5_throwUp_45 : decode cX5_throwUp 45 = .ok (.getfield 66, 3) := by decide +kernel
theorem dX5_throwUp_48 : decode cX5_throwUp 48 = .ok (.iconst 1, 1) := by decide +kernel
theorem dX5_throwUp_49 : decode cX5_throwUp 49 = .ok (.isub, 1) := by decide +kernel
theorem dX5_throwUp_50 : decode cX5_throwUp 50 = .ok (.putfield 66, 3) := by decide +kernel
theorem dX5_throwUp_53 : decode cX5_throwUp 53 = .ok (.iinc 2 1, 3) := by decide +kernel
theorem dX5_throwUp_56 : decode cX5_throwUp 56 = .ok (.goto (-39), 3) := by decide +kernel
theorem dX5_throwUp_59 : decode cX5_throwUp 59 = .ok (.aload_n 0, 1) := by decide +kernel
theorem dX5_throwUp_60 : decode cX5_throwUp 60 = .ok (.iconst 3, 1) := by decide +kernel
theorem dX5_throwUp_61 : decode cX5_throwUp 61 = .ok (.putfield 54, 3) := by decide +kernel
theorem dX5_throwUp_64 : decode cX5_throwUp 64 = .ok (.aload_n 0, 1) := by decide +kernel
theorem dX5_throwUp_65 : decode cX5_throwUp 65 = .ok (.aload_n 0, 1) := by decide +kernel
theorem dX5_throwUp_66 : decode cX5_throwUp 66 = .ok (.getfield 17, 3) := by decide +kernel
theorem dX5_throwUp_69 : decode cX5_throwUp 69 = .ok (.iload_n 1, 1) := by decide +kernel
theorem dX5_throwUp_70 : decode cX5_throwUp 70 = .ok (.iaload, 1) := by decide +kernel
theorem dX5_throwUp_71 : decode cX5_throwUp 71 = .ok (.putfield 50, 3) := by decide +kernel
theorem dX5_throwUp_74 : decode cX5_throwUp 74 = .ok (.return_, 1) := by decide +kernel
theorem rs_RX5_83 : mx_res RX5 83 = some (1, 156, 0) := by decide +kernel
theorem rs_RX5_93 : mx_res RX5 93 = some (1, 179, 1) := by decide +kernel
theorem mt_X5_go : mx_mt 145 = some (yX5_go, cX5_go, 3, (some .int)) := rfl
theorem dX5_go_0 : decode cX5_go 0 = .ok (.iconst 0, 1) := by decide +kernel
theorem dX5_go_1 : decode cX5_go 1 = .ok (.istore_n 2, 1) := by decide +kernel
theorem dX5_go_2 : decode cX5_go 2 = .ok (.iload_n 2, 1) := by decide +kernel
theorem dX5_go_3 : decode cX5_go 3 = .ok (.iload_n 1, 1) := by decide +kernel
theorem dX5_go_4 : decode cX5_go 4 = .ok (.if_icmp .ge 62, 3) := by decide +kernel
theorem dX5_go_7 : decode cX5_go 7 = .ok (.aload_n 0, 1) := by decide +kernel
theorem dX5_go_8 : decode cX5_go 8 = .ok (.getfield 54, 3) := by decide +kernel
theorem dX5_go_11 : decode cX5_go 11 = .ok (.iconst 1, 1) := by decide +kernel
theorem dX5_go_12 : decode cX5_go 12 = .ok (.if_icmp .ne 54, 3) := by decide +kernel
theorem dX5_go_15 : decode cX5_go 15 = .ok (.aload_n 0, 1) := by decide +kernel
theorem dX5_go_16 : decode cX5_go 16 = .ok (.invokevirtual 83, 3) := by decide +kernel
theorem dX5_go_19 : decode cX5_go 19 = .ok (.aload_n 0, 1) := by decide +kernel
theorem dX5_go_20 : decode cX5_go 20 = .ok (.getfield 86, 3) := by decide +kernel
theorem dX5_go_23 : decode cX5_go 23 = .ok (.ifCond .ge 17, 3) := by decide +kernel
theorem dX5_go_26 : decode cX5_go 26 = .ok (.aload_n 0, 1) := by decide +kernel
theorem dX5_go_27 : decode cX5_go 27 = .ok (.aload_n 0, 1) := by decide +kernel
theorem dX5_go_28 : decode cX5_go 28 = .ok (.aload_n 0, 1) := by decide +kernel
theorem dX5_go_29 : decode cX5_go 29 = .ok (.getfield 86, 3) := by decide +kernel
theorem dX5_go_32 : decode cX5_go 32 = .ok (.ineg, 1) := by decide +kernel
theorem dX5_go_33 : decode cX5_go 33 = .ok (.iconst 0, 1) := by decide +kernel
theorem dX5_go_34 : decode cX5_go 34 = .ok (.invokevirtual 89, 3) := by decide +kernel
theorem dX5_go_37 : decode cX5_go 37 = .ok (.putfield 86, 3) := by decide +kernel
theorem dX5_go_40 : decode cX5_go 40 = .ok (.aload_n 0, 1) := by decide +kernel
theorem dX5_go_41 : decode cX5_go 41 = .ok (.getfield 86, 3) := by decide +kernel
theorem dX5_go_44 : decode cX5_go 44 = .ok (.ifCond .le 11, 3) := by decide +kernel
theorem dX5_go_47 : decode cX5_go 47 = .ok (.aload_n 0, 1) := by decide +kernel
theorem dX5_go_48 : decode cX5_go 48 = .ok (.aload_n 0, 1) := by decide +kernel
theorem dX5_go_49 : decode cX5_go 49 = .ok (.getfield 86, 3) := by decide +kernel
theorem dX5_go_52 : decode cX5_go 52 = .ok (.invokevirtual 93, 3) := by decide +kernel
theorem dX5_go_55 : decode cX5_go 55 = .ok (.aload_n 0, 1) := by decide +kernel
theorem dX5_go_56 : decode cX5_go 56 = .ok (.iconst 0, 1) := by decide +kernel
theorem dX5_go_57 : decode cX5_go 57 = .ok (.putfield 86, 3) := by decide +kernel
theorem dX5_go_60 : decode cX5_go 60 = .ok (.iinc 2 1, 3) := by decide +kernel
theorem dX5_go_63 : decode cX5_go 63 = .ok (.goto (-61), 3) := by decide +kernel
theorem dX5_go_66 : decode cX5_go 66 = .ok (.aload_n 0, 1) := by decide +kernel
theorem dX5_go_67 : decode cX5_go 67 = .ok (.dup, 1) := by decide +kernel
theorem dX5_go_68 : decode cX5_go 68 = .ok (.getfield 57, 3) := by decide +kernel
theorem dX5_go_71 : decode cX5_go 71 = .ok (.iload_n 2, 1) := by decide +kernel
theorem dX5_go_72 : decode cX5_go 72 = .ok (.iadd, 1) := by decide +kernel
theorem dX5_go_73 : decode cX5_go 73 = .ok (.putfield 57, 3) := by decide +kernel
theorem dX5_go_76 : decode cX5_go 76 = .ok (.iload_n 2, 1) := by decide +kernel
theorem dX5_go_77 : decode cX5_go 77 = .ok (.ireturn, 1) := by decide +kernel
theorem rs_RX12_196 : mx_res RX12 196 = some (1, 145, 1) := by decide +kernel
theorem mt_X12_run : mx_mt 375 = some (yX12_run, cX12_run, 2, (some .int)) := rfl
theorem dX12_run_0 : decode cX12_run 0 = .ok (.iload_n 1, 1) := by decide +kernel
theorem dX12_run_1 : decode cX12_run 1 = .ok (.iconst 1, 1) := by decide +kernel
theorem dX12_run_2 : decode cX12_run 2 = .ok (.if_icmp .lt 10, 3) := by decide +kernel
theorem dX12_run_5 : decode cX12_run 5 = .ok (.iload_n 1, 1) := by decide +kernel
theorem dX12_run_6 : decode cX12_run 6 = .ok (.sipush 20000, 3) := by decide +kernel
theorem dX12_run_9 : decode cX12_run 9 = .ok (.if_icmp .le 7, 3) := by decide +kernel
theorem dX12_run_12 : decode cX12_run 12 = .ok (.iconst (-1), 1) := by decide +kernel
theorem dX12_run_13 : decode cX12_run 13 = .ok (.goto 11, 3) := by decide +kernel
theorem dX12_run_16 : decode cX12_run 16 = .ok (.aload_n 0, 1) := by decide +kernel
theorem dX12_run_17 : decode cX12_run 17 = .ok (.getfield 69, 3) := by decide +kernel
theorem dX12_run_20 : decode cX12_run 20 = .ok (.iload_n 1, 1) := by decide +kernel
theorem dX12_run_21 : decode cX12_run 21 = .ok (.invokevirtual 196, 3) := by decide +kernel
theorem dX12_run_24 : decode cX12_run 24 = .ok (.ireturn, 1) := by decide +kernel
theorem rs_RX5_72 : mx_res RX5 72 = some (1, 143, 0) := by decide +kernel
theorem mt_X5_beginRun : mx_mt 144 = some (yX5_beginRun, cX5_beginRun, 3, none) := rfl
theorem dX5_beginRun_0 : decode cX5_beginRun 0 = .ok (.aload_n 0, 1) := by decide +kernel
theorem dX5_beginRun_1 : decode cX5_beginRun 1 = .ok (.invokevirtual 72, 3) := by decide +kernel
theorem dX5_beginRun_4 : decode cX5_beginRun 4 = .ok (.aload_n 0, 1) := by decide +kernel
theorem dX5_beginRun_5 : decode cX5_beginRun 5 = .ok (.iconst 1, 1) := by decide +kernel
theorem dX5_beginRun_6 : decode cX5_beginRun 6 = .ok (.putfield 54, 3) := by decide +kernel
theorem dX5_beginRun_9 : decode cX5_beginRun 9 = .ok (.aload_n 0, 1) := by decide +kernel
theorem dX5_beginRun_10 : decode cX5_beginRun 10 = .ok (.iload_n 1, 1) := by decide +kernel
theorem dX5_beginRun_11 : decode cX5_beginRun 11 = .ok (.bipush 8, 2) := by decide +kernel
theorem dX5_beginRun_13 : decode cX5_beginRun 13 = .ok (.isub, 1) := by decide +kernel
theorem dX5_beginRun_14 : decode cX5_beginRun 14 = .ok (.bipush 12, 2) := by decide +kernel
theorem dX5_beginRun_16 : decode cX5_beginRun 16 = .ok (.imul, 1) := by decide +kernel
theorem dX5_beginRun_17 : decode cX5_beginRun 17 = .ok (.iload_n 2, 1) := by decide +kernel
theorem dX5_beginRun_18 : decode cX5_beginRun 18 = .ok (.iadd, 1) := by decide +kernel
theorem dX5_beginRun_19 : decode cX5_beginRun 19 = .ok (.iconst 0, 1) := by decide +kernel
theorem dX5_beginRun_20 : decode cX5_beginRun 20 = .ok (.iconst 0, 1) := by decide +kernel
theorem dX5_beginRun_21 : decode cX5_beginRun 21 = .ok (.invokevirtual 79, 3) := by decide +kernel
theorem dX5_beginRun_24 : decode cX5_beginRun 24 = .ok (.return_, 1) := by decide +kernel
theorem rs_RX12_181 : mx_res RX12 181 = some (1, 198, 1) := by decide +kernel
theorem rs_RX12_184 : mx_res RX12 184 = some (0, 3, 12) := by decide +kernel
theorem rs_RX12_189 : mx_res RX12 189 = some (1, 126, 2) := by decide +kernel
theorem rs_RX12_193 : mx_res RX12 193 = some (1, 144, 2) := by decide +kernel
theorem mt_X12_start : mx_mt 374 = some (yX12_start, cX12_start, 4, (some .boolean)) := rfl
theorem dX12_start_0 : decode cX12_start 0 = .ok (.aload_n 0, 1) := by decide +kernel
theorem dX12_start_1 : decode cX12_start 1 = .ok (.getfield 53, 3) := by decide +kernel
theorem dX12_start_4 : decode cX12_start 4 = .ok (.iload_n 1, 1) := by decide +kernel
theorem dX12_start_5 : decode cX12_start 5 = .ok (.invokevirtual 181, 3) := by decide +kernel
theorem dX12_start_8 : decode cX12_start 8 = .ok (.astore_n 3, 1) := by decide +kernel
theorem dX12_start_9 : decode cX12_start 9 = .ok (.aload_n 0, 1) := by decide +kernel
theorem dX12_start_10 : decode cX12_start 10 = .ok (.getfield 53, 3) := by decide +kernel
theorem dX12_start_13 : decode cX12_start 13 = .ok (.getfield 165, 3) := by decide +kernel
theorem dX12_start_16 : decode cX12_start 16 = .ok (.ifCond .eq 19, 3) := by decide +kernel
theorem dX12_start_19 : decode cX12_start 19 = .ok (.aload_n 3, 1) := by decide +kernel
theorem dX12_start_20 : decode cX12_start 20 = .ok (.ifnull 15, 3) := by decide +kernel
theorem dX12_start_23 : decode cX12_start 23 = .ok (.iload_n 2, 1) := by decide +kernel
theorem dX12_start_24 : decode cX12_start 24 = .ok (.ifCond .lt 11, 3) := by decide +kernel
theorem dX12_start_27 : decode cX12_start 27 = .ok (.iload_n 2, 1) := by decide +kernel
theorem dX12_start_28 : decode cX12_start 28 = .ok (.aload_n 3, 1) := by decide +kernel
theorem dX12_start_29 : decode cX12_start 29 = .ok (.getfield 184, 3) := by decide +kernel
theorem dX12_start_32 : decode cX12_start 32 = .ok (.if_icmp .lt 5, 3) := by decide +kernel
theorem dX12_start_35 : decode cX12_start 35 = .ok (.iconst 0, 1) := by decide +kernel
theorem dX12_start_36 : decode cX12_start 36 = .ok (.ireturn, 1) := by decide +kernel
theorem dX12_start_37 : decode cX12_start 37 = .ok (.aload_n 3, 1) := by decide +kernel
theorem dX12_start_38 : decode cX12_start 38 = .ok (.iload_n 2, 1) := by decide +kernel
theorem dX12_start_39 : decode cX12_start 39 = .ok (.iconst 0, 1) := by decide +kernel
theorem dX12_start_40 : decode cX12_start 40 = .ok (.invokevirtual 189, 3) := by decide +kernel
theorem dX12_start_43 : decode cX12_start 43 = .ok (.ifCond .eq 13, 3) := by decide +kernel
theorem dX12_start_46 : decode cX12_start 46 = .ok (.aload_n 3, 1) := by decide +kernel
theorem dX12_start_47 : decode cX12_start 47 = .ok (.iload_n 2, 1) := by decide +kernel
theorem dX12_start_48 : decode cX12_start 48 = .ok (.bipush 11, 2) := by decide +kernel
theorem dX12_start_50 : decode cX12_start 50 = .ok (.invokevirtual 189, 3) := by decide +kernel
theorem dX12_start_53 : decode cX12_start 53 = .ok (.ifCond .eq 5, 3) := by decide +kernel
theorem dX12_start_56 : decode cX12_start 56 = .ok (.iconst 0, 1) := by decide +kernel
theorem dX12_start_57 : decode cX12_start 57 = .ok (.ireturn, 1) := by decide +kernel
theorem dX12_start_58 : decode cX12_start 58 = .ok (.aload_n 0, 1) := by decide +kernel
theorem dX12_start_59 : decode cX12_start 59 = .ok (.getfield 69, 3) := by decide +kernel
theorem dX12_start_62 : decode cX12_start 62 = .ok (.iload_n 1, 1) := by decide +kernel
theorem dX12_start_63 : decode cX12_start 63 = .ok (.iload_n 2, 1) := by decide +kernel
theorem dX12_start_64 : decode cX12_start 64 = .ok (.invokevirtual 193, 3) := by decide +kernel
theorem dX12_start_67 : decode cX12_start 67 = .ok (.iconst 1, 1) := by decide +kernel
theorem dX12_start_68 : decode cX12_start 68 = .ok (.ireturn, 1) := by decide +kernel
theorem rs_RX12_213 : mx_res RX12 213 = some (0, 7, 0) := by decide +kernel
theorem rs_RX12_217 : mx_res RX12 217 = some (1, 131, 1) := by decide +kernel
theorem rs_RX12_220 : mx_res RX12 220 = some (0, 3, 10) := by decide +kernel
theorem rs_RX12_223 : mx_res RX12 223 = some (0, 3, 1) := by decide +kernel
theorem rs_RX12_226 : mx_res RX12 226 = some (0, 3, 7) := by decide +kernel
theorem mt_X12_type : mx_mt 378 = some (yX12_type, cX12_type, 4, (some .int)) := rfl
theorem dX12_type_0 : decode cX12_type 0 = .ok (.iload_n 1, 1) := by decide +kernel
theorem dX12_type_1 : decode cX12_type 1 = .ok (.ifCond .lt 17, 3) := by decide +kernel
theorem dX12_type_4 : decode cX12_type 4 = .ok (.iload_n 1, 1) := by decide +kernel
theorem dX12_type_5 : decode cX12_type 5 = .ok (.bipush 8, 2) := by decide +kernel
theorem dX12_type_7 : decode cX12_type 7 = .ok (.aload_n 0, 1) := by decide +kernel
theorem dX12_type_8 : decode cX12_type 8 = .ok (.getfield 53, 3) := by decide +kernel
theorem dX12_type_11 : decode cX12_type 11 = .ok (.getfield 199, 3) := by decide +kernel
theorem dX12_type_14 : decode cX12_type 14 = .ok (.iadd, 1) := by decide +kernel
theorem dX12_type_15 : decode cX12_type 15 = .ok (.if_icmp .lt 5, 3) := by decide +kernel
theorem dX12_type_18 : decode cX12_type 18 = .ok (.iconst (-1), 1) := by decide +kernel
theorem dX12_type_19 : decode cX12_type 19 = .ok (.ireturn, 1) := by decide +kernel
theorem dX12_type_20 : decode cX12_type 20 = .ok (.iload_n 2, 1) := by decide +kernel
theorem dX12_type_21 : decode cX12_type 21 = .ok (.ifCond .ne 15, 3) := by decide +kernel
theorem dX12_type_24 : decode cX12_type 24 = .ok (.aload_n 0, 1) := by decide +kernel
theorem dX12_type_25 : decode cX12_type 25 = .ok (.getfield 53, 3) := by decide +kernel
theorem dX12_type_28 : decode cX12_type 28 = .ok (.getfield 213, 3) := by decide +kernel
theorem dX12_type_31 : decode cX12_type 31 = .ok (.iload_n 1, 1) := by decide +kernel
theorem dX12_type_32 : decode cX12_type 32 = .ok (.invokevirtual 217, 3) := by decide +kernel
theorem dX12_type_35 : decode cX12_type 35 = .ok (.ireturn, 1) := by decide +kernel
theorem dX12_type_36 : decode cX12_type 36 = .ok (.aload_n 0, 1) := by decide +kernel
theorem dX12_type_37 : decode cX12_type 37 = .ok (.getfield 53, 3) := by decide +kernel
theorem dX12_type_40 : decode cX12_type 40 = .ok (.iload_n 1, 1) := by decide +kernel
theorem dX12_type_41 : decode cX12_type 41 = .ok (.invokevirtual 181, 3) := by decide +kernel
theorem dX12_type_44 : decode cX12_type 44 = .ok (.astore_n 3, 1) := by decide +kernel
theorem dX12_type_45 : decode cX12_type 45 = .ok (.aload_n 3, 1) := by decide +kernel
theorem dX12_type_46 : decode cX12_type 46 = .ok (.ifnonnull 19, 3) := by decide +kernel
theorem dX12_type_49 : decode cX12_type 49 = .ok (.iload_n 2, 1) := by decide +kernel
theorem dX12_type_50 : decode cX12_type 50 = .ok (.iconst 1, 1) := by decide +kernel
theorem dX12_type_51 : decode cX12_type 51 = .ok (.if_icmp .lt 12, 3) := by decide +kernel
theorem dX12_type_54 : decode cX12_type 54 = .ok (.iload_n 2, 1) := by decide +kernel
theorem dX12_type_55 : decode cX12_type 55 = .ok (.iconst 4, 1) := by decide +kernel
theorem dX12_type_56 : decode cX12_type 56 = .ok (.if_icmp .gt 7, 3) := by decide +kernel
theorem dX12_type_59 : decode cX12_type 59 = .ok (.iconst 0, 1) := by decide +kernel
theorem dX12_type_60 : decode cX12_type 60 = .ok (.goto 4, 3) := by decide +kernel
theorem dX12_type_63 : decode cX12_type 63 = .ok (.iconst (-1), 1) := by decide +kernel
theorem dX12_type_64 : decode cX12_type 64 = .ok (.ireturn, 1) := by decide +kernel
theorem dX12_type_65 : decode cX12_type 65 = .ok (.iload_n 2, 1) := by decide +kernel
theorem dX12_type_66 : decode cX12_type 66 = .ok (.tableswitch 50 1 4 #[30, 35, 40, 45], 30) := by decide +kernel
theorem dX12_type_96 : decode cX12_type 96 = .ok (.aload_n 3, 1) := by decide +kernel
theorem dX12_type_97 : decode cX12_type 97 = .ok (.getfield 220, 3) := by decide +kernel
theorem dX12_type_100 : decode cX12_type 100 = .ok (.ireturn, 1) := by decide +kernel
theorem dX12_type_101 : decode cX12_type 101 = .ok (.aload_n 3, 1) := by decide +kernel
theorem dX12_type_102 : decode cX12_type 102 = .ok (.getfield 184, 3) := by decide +kernel
theorem dX12_type_105 : decode cX12_type 105 = .ok (.ireturn, 1) := by decide +kernel
theorem dX12_type_106 : decode cX12_type 106 = .ok (.aload_n 3, 1) := by decide +kernel
theorem dX12_type_107 : decode cX12_type 107 = .ok (.getfield 223, 3) := by decide +kernel
theorem dX12_type_110 : decode cX12_type 110 = .ok (.ireturn, 1) := by decide +kernel
theorem dX12_type_111 : decode cX12_type 111 = .ok (.aload_n 3, 1) := by decide +kernel
theorem dX12_type_112 : decode cX12_type 112 = .ok (.getfield 226, 3) := by decide +kernel
theorem dX12_type_115 : decode cX12_type 115 = .ok (.ireturn, 1) := by decide +kernel
theorem dX12_type_116 : decode cX12_type 116 = .ok (.iconst (-1), 1) := by decide +kernel
theorem dX12_type_117 : decode cX12_type 117 = .ok (.ireturn, 1) := by decide +kernel
theorem mt_X3_fieldKind : mx_mt 128 = some (yX3_fieldKind, cX3_fieldKind, 2, (some .int)) := rfl
theorem dX3_fieldKind_0 : decode cX3_fieldKind 0 = .ok (.iload_n 1, 1) := by decide +kernel
theorem dX3_fieldKind_1 : decode cX3_fieldKind 1 = .ok (.ifCond .lt 24, 3) := by decide +kernel
theorem dX3_fieldKind_4 : decode cX3_fieldKind 4 = .ok (.iload_n 1, 1) := by decide +kernel
theorem dX3_fieldKind_5 : decode cX3_fieldKind 5 = .ok (.aload_n 0, 1) := by decide +kernel
theorem dX3_fieldKind_6 : decode cX3_fieldKind 6 = .ok (.getfield 49, 3) := by decide +kernel
theorem dX3_fieldKind_9 : decode cX3_fieldKind 9 = .ok (.if_icmp .ge 16, 3) := by decide +kernel
theorem dX3_fieldKind_12 : decode cX3_fieldKind 12 = .ok (.aload_n 0, 1) := by decide +kernel
theorem dX3_fieldKind_13 : decode cX3_fieldKind 13 = .ok (.getfield 27, 3) := by decide +kernel
theorem dX3_fieldKind_16 : decode cX3_fieldKind 16 = .ok (.iload_n 1, 1) := by decide +kernel
theorem dX3_fieldKind_17 : decode cX3_fieldKind 17 = .ok (.iconst 2, 1) := by decide +kernel
theorem dX3_fieldKind_18 : decode cX3_fieldKind 18 = .ok (.imul, 1) := by decide +kernel
theorem dX3_fieldKind_19 : decode cX3_fieldKind 19 = .ok (.iconst 1, 1) := by decide +kernel
theorem dX3_fieldKind_20 : decode cX3_fieldKind 20 = .ok (.iadd, 1) := by decide +kernel
theorem dX3_fieldKind_21 : decode cX3_fieldKind 21 = .ok (.iaload, 1) := by decide +kernel
theorem dX3_fieldKind_22 : decode cX3_fieldKind 22 = .ok (.goto 4, 3) := by decide +kernel
theorem dX3_fieldKind_25 : decode cX3_fieldKind 25 = .ok (.iconst 0, 1) := by decide +kernel
theorem dX3_fieldKind_26 : decode cX3_fieldKind 26 = .ok (.ireturn, 1) := by decide +kernel
theorem rs_RX7_117 : mx_res RX7 117 = some (1, 103, 1) := by decide +kernel
theorem mt_X7_typeOfKind : mx_mt 205 = some (yX7_typeOfKind, cX7_typeOfKind, 6, (some .int)) := rfl
theorem dX7_typeOfKind_0 : decode cX7_typeOfKind 0 = .ok (.aload_n 1, 1) := by decide +kernel
theorem dX7_typeOfKind_1 : decode cX7_typeOfKind 1 = .ok (.iload_n 2, 1) := by decide +kernel
theorem dX7_typeOfKind_2 : decode cX7_typeOfKind 2 = .ok (.invokevirtual 117, 3) := by decide +kernel
theorem dX7_typeOfKind_5 : decode cX7_typeOfKind 5 = .ok (.istore 4, 2) := by decide +kernel
theorem dX7_typeOfKind_7 : decode cX7_typeOfKind 7 = .ok (.iload 4, 2) := by decide +kernel
theorem dX7_typeOfKind_9 : decode cX7_typeOfKind 9 = .ok (.bipush 73, 2) := by decide +kernel
theorem dX7_typeOfKind_11 : decode cX7_typeOfKind 11 = .ok (.if_icmp .eq 10, 3) := by decide +kernel
theorem dX7_typeOfKind_14 : decode cX7_typeOfKind 14 = .ok (.iload 4, 2) := by decide +kernel
theorem dX7_typeOfKind_16 : decode cX7_typeOfKind 16 = .ok (.bipush 90, 2) := by decide +kernel
theorem dX7_typeOfKind_18 : decode cX7_typeOfKind 18 = .ok (.if_icmp .ne 7, 3) := by decide +kernel
theorem dX7_typeOfKind_21 : decode cX7_typeOfKind 21 = .ok (.sipush 301, 3) := by decide +kernel
theorem dX7_typeOfKind_24 : decode cX7_typeOfKind 24 = .ok (.ireturn, 1) := by decide +kernel
theorem dX7_typeOfKind_25 : decode cX7_typeOfKind 25 = .ok (.iload 4, 2) := by decide +kernel
theorem dX7_typeOfKind_27 : decode cX7_typeOfKind 27 = .ok (.bipush 86, 2) := by decide +kernel
theorem dX7_typeOfKind_29 : decode cX7_typeOfKind 29 = .ok (.if_icmp .ne 7, 3) := by decide +kernel
theorem dX7_typeOfKind_32 : decode cX7_typeOfKind 32 = .ok (.sipush 303, 3) := by decide +kernel
theorem dX7_typeOfKind_35 : decode cX7_typeOfKind 35 = .ok (.ireturn, 1) := by decide +kernel
theorem dX7_typeOfKind_36 : decode cX7_typeOfKind 36 = .ok (.iload 4, 2) := by decide +kernel
theorem dX7_typeOfKind_38 : decode cX7_typeOfKind 38 = .ok (.bipush 91, 2) := by decide +kernel
theorem dX7_typeOfKind_40 : decode cX7_typeOfKind 40 = .ok (.if_icmp .eq 15, 3) := by decide +kernel
theorem dX7_typeOfKind_43 : decode cX7_typeOfKind 43 = .ok (.aload_n 0, 1) := by decide +kernel
theorem dX7_typeOfKind_44 : decode cX7_typeOfKind 44 = .ok (.aload_n 1, 1) := by decide +kernel
theorem dX7_typeOfKind_45 : decode cX7_typeOfKind 45 = .ok (.iload_n 2, 1) := by decide +kernel
theorem dX7_typeOfKind_46 : decode cX7_typeOfKind 46 = .ok (.iconst 1, 1) := by decide +kernel
theorem dX7_typeOfKind_47 : decode cX7_typeOfKind 47 = .ok (.iadd, 1) := by decide +kernel
theorem dX7_typeOfKind_48 : decode cX7_typeOfKind 48 = .ok (.iload_n 3, 1) := by decide +kernel
theorem dX7_typeOfKind_49 : decode cX7_typeOfKind 49 = .ok (.iconst 1, 1) := by decide +kernel
theorem dX7_typeOfKind_50 : decode cX7_typeOfKind 50 = .ok (.isub, 1) := by decide +kernel
theorem dX7_typeOfKind_51 : decode cX7_typeOfKind 51 = .ok (.invokevirtual 66, 3) := by decide +kernel
theorem dX7_typeOfKind_54 : decode cX7_typeOfKind 54 = .ok (.ireturn, 1) := by decide +kernel
theorem dX7_typeOfKind_55 : decode cX7_typeOfKind 55 = .ok (.aload_n 1, 1) := by decide +kernel
theorem dX7_typeOfKind_56 : decode cX7_typeOfKind 56 = .ok (.iload_n 2, 1) := by decide +kernel
theorem dX7_typeOfKind_57 : decode cX7_typeOfKind 57 = .ok (.iconst 1, 1) := by decide +kernel
theorem dX7_typeOfKind_58 : decode cX7_typeOfKind 58 = .ok (.iadd, 1) := by decide +kernel
theorem dX7_typeOfKind_59 : decode cX7_typeOfKind 59 = .ok (.invokevirtual 117, 3) := by decide +kernel
theorem dX7_typeOfKind_62 : decode cX7_typeOfKind 62 = .ok (.bipush 73, 2) := by decide +kernel
theorem dX7_typeOfKind_64 : decode cX7_typeOfKind 64 = .ok (.if_icmp .ne 7, 3) := by decide +kernel
theorem dX7_typeOfKind_67 : decode cX7_typeOfKind 67 = .ok (.sipush 200, 3) := by decide +kernel
theorem dX7_typeOfKind_70 : decode cX7_typeOfKind 70 = .ok (.ireturn, 1) := by decide +kernel
theorem dX7_typeOfKind_71 : decode cX7_typeOfKind 71 = .ok (.aload_n 0, 1) := by decide +kernel
theorem dX7_typeOfKind_72 : decode cX7_typeOfKind 72 = .ok (.aload_n 1, 1) := by decide +kernel
theorem dX7_typeOfKind_73 : decode cX7_typeOfKind 73 = .ok (.iload_n 2, 1) := by decide +kernel
theorem dX7_typeOfKind_74 : decode cX7_typeOfKind 74 = .ok (.iconst 2, 1) := by decide +kernel
theorem dX7_typeOfKind_75 : decode cX7_typeOfKind 75 = .ok (.iadd, 1) := by decide +kernel
theorem dX7_typeOfKind_76 : decode cX7_typeOfKind 76 = .ok (.iload_n 3, 1) := by decide +kernel
theorem dX7_typeOfKind_77 : decode cX7_typeOfKind 77 = .ok (.iconst 1, 1) := by decide +kernel
theorem dX7_typeOfKind_78 : decode cX7_typeOfKind 78 = .ok (.isub, 1) := by decide +kernel
theorem dX7_typeOfKind_79 : decode cX7_typeOfKind 79 = .ok (.invokevirtual 66, 3) := by decide +kernel
theorem dX7_typeOfKind_82 : decode cX7_typeOfKind 82 = .ok (.istore 5, 2) := by decide +kernel
theorem dX7_typeOfKind_84 : decode cX7_typeOfKind 84 = .ok (.iload 5, 2) := by decide +kernel
theorem dX7_typeOfKind_86 : decode cX7_typeOfKind 86 = .ok (.iconst (-1), 1) := by decide +kernel
theorem dX7_typeOfKind_87 : decode cX7_typeOfKind 87 = .ok (.if_icmp .ne 7, 3) := by decide +kernel
theorem dX7_typeOfKind_90 : decode cX7_typeOfKind 90 = .ok (.iconst (-1), 1) := by decide +kernel
theorem dX7_typeOfKind_91 : decode cX7_typeOfKind 91 = .ok (.goto 8, 3) := by decide +kernel
theorem dX7_typeOfKind_94 : decode cX7_typeOfKind 94 = .ok (.bipush 100, 2) := by decide +kernel
theorem dX7_typeOfKind_96 : decode cX7_typeOfKind 96 = .ok (.iload 5, 2) := by decide +kernel
theorem dX7_typeOfKind_98 : decode cX7_typeOfKind 98 = .ok (.iadd, 1) := by decide +kernel
theorem dX7_typeOfKind_99 : decode cX7_typeOfKind 99 = .ok (.ireturn, 1) := by decide +kernel
theorem rs_RX7_123 : mx_res RX7 123 = some (1, 205, 3) := by decide +kernel
theorem rs_RX7_126 : mx_res RX7 126 = some (1, 115, 2) := by decide +kernel
theorem mt_X7_readKind : mx_mt 207 = some (yX7_readKind, cX7_readKind, 9, (some .int)) := rfl
theorem dX7_readKind_0 : decode cX7_readKind 0 = .ok (.aload_n 1, 1) := by decide +kernel
theorem dX7_readKind_1 : decode cX7_readKind 1 = .ok (.iload_n 2, 1) := by decide +kernel
theorem dX7_readKind_2 : decode cX7_readKind 2 = .ok (.invokevirtual 63, 3) := by decide +kernel
theorem dX7_readKind_5 : decode cX7_readKind 5 = .ok (.istore 5, 2) := by decide +kernel
theorem dX7_readKind_7 : decode cX7_readKind 7 = .ok (.aload_n 1, 1) := by decide +kernel
theorem dX7_readKind_8 : decode cX7_readKind 8 = .ok (.iload_n 2, 1) := by decide +kernel
theorem dX7_readKind_9 : decode cX7_readKind 9 = .ok (.invokevirtual 59, 3) := by decide +kernel
theorem dX7_readKind_12 : decode cX7_readKind 12 = .ok (.istore 6, 2) := by decide +kernel
theorem dX7_readKind_14 : decode cX7_readKind 14 = .ok (.iload 4, 2) := by decide +kernel
theorem dX7_readKind_16 : decode cX7_readKind 16 = .ok (.ifCond .lt 13, 3) := by decide +kernel
theorem dX7_readKind_19 : decode cX7_readKind 19 = .ok (.iload 4, 2) := by decide +kernel
theorem dX7_readKind_21 : decode cX7_readKind 21 = .ok (.bipush 6, 2) := by decide +kernel
theorem dX7_readKind_23 : decode cX7_readKind 23 = .ok (.iadd, 1) := by decide +kernel
theorem dX7_readKind_24 : decode cX7_readKind 24 = .ok (.aload_n 3, 1) := by decide +kernel
theorem dX7_readKind_25 : decode cX7_readKind 25 = .ok (.arraylength, 1) := by decide +kernel
theorem dX7_readKind_26 : decode cX7_readKind 26 = .ok (.if_icmp .lt 5, 3) := by decide +kernel
theorem dX7_readKind_29 : decode cX7_readKind 29 = .ok (.iconst 0, 1) := by decide +kernel
theorem dX7_readKind_30 : decode cX7_readKind 30 = .ok (.ireturn, 1) := by decide +kernel
theorem dX7_readKind_31 : decode cX7_readKind 31 = .ok (.aload_n 1, 1) := by decide +kernel
theorem dX7_readKind_32 : decode cX7_readKind 32 = .ok (.iload 6, 2) := by decide +kernel
theorem dX7_readKind_34 : decode cX7_readKind 34 = .ok (.invokevirtual 117, 3) := by decide +kernel
theorem dX7_readKind_37 : decode cX7_readKind 37 = .ok (.bipush 40, 2) := by decide +kernel
theorem dX7_readKind_39 : decode cX7_readKind 39 = .ok (.if_icmp .eq 18, 3) := by decide +kernel
theorem dX7_readKind_42 : decode cX7_readKind 42 = .ok (.aload_n 3, 1) := by decide +kernel
theorem dX7_readKind_43 : decode cX7_readKind 43 = .ok (.iload 4, 2) := by decide +kernel
theorem dX7_readKind_45 : decode cX7_readKind 45 = .ok (.aload_n 0, 1) := by decide +kernel
theorem dX7_readKind_46 : decode cX7_readKind 46 = .ok (.aload_n 1, 1) := by decide +kernel
theorem dX7_readKind_47 : decode cX7_readKind 47 = .ok (.iload 6, 2) := by decide +kernel
theorem dX7_readKind_49 : decode cX7_readKind 49 = .ok (.iload 5, 2) := by decide +kernel
theorem dX7_readKind_51 : decode cX7_readKind 51 = .ok (.invokevirtual 123, 3) := by decide +kernel
theorem dX7_readKind_54 : decode cX7_readKind 54 = .ok (.iastore, 1) := by decide +kernel
theorem dX7_readKind_55 : decode cX7_readKind 55 = .ok (.iconst 0, 1) := by decide +kernel
theorem dX7_readKind_56 : decode cX7_readKind 56 = .ok (.ireturn, 1) := by decide +kernel
theorem dX7_readKind_57 : decode cX7_readKind 57 = .ok (.iinc 6 1, 3) := by decide +kernel
theorem dX7_readKind_60 : decode cX7_readKind 60 = .ok (.iconst 0, 1) := by decide +kernel
theorem dX7_readKind_61 : decode cX7_readKind 61 = .ok (.istore 7, 2) := by decide +kernel
theorem dX7_readKind_63 : decode cX7_readKind 63 = .ok (.iload 7, 2) := by decide +kernel
theorem dX7_readKind_65 : decode cX7_readKind 65 = .ok (.bipush 6, 2) := by decide +kernel
theorem dX7_readKind_67 : decode cX7_readKind 67 = .ok (.if_icmp .ge 63, 3) := by decide +kernel
theorem dX7_readKind_70 : decode cX7_readKind 70 = .ok (.iload 6, 2) := by decide +kernel
theorem dX7_readKind_72 : decode cX7_readKind 72 = .ok (.iconst (-1), 1) := by decide +kernel
theorem dX7_readKind_73 : decode cX7_readKind 73 = .ok (.if_icmp .eq 57, 3) := by decide +kernel
theorem dX7_readKind_76 : decode cX7_readKind 76 = .ok (.iload 6, 2) := by decide +kernel
theorem dX7_readKind_78 : decode cX7_readKind 78 = .ok (.iload 5, 2) := by decide +kernel
theorem dX7_readKind_80 : decode cX7_readKind 80 = .ok (.if_icmp .ge 50, 3) := by decide +kernel
theorem dX7_readKind_83 : decode cX7_readKind 83 = .ok (.aload_n 1, 1) := by decide +kernel
theorem dX7_readKind_84 : decode cX7_readKind 84 = .ok (.iload 6, 2) := by decide +kernel
theorem dX7_readKind_86 : decode cX7_readKind 86 = .ok (.invokevirtual 117, 3) := by decide +kernel
theorem dX7_readKind_89 : decode cX7_readKind 89 = .ok (.bipush 41, 2) := by decide +kernel
theorem dX7_readKind_91 : decode cX7_readKind 91 = .ok (.if_icmp .eq 39, 3) := by decide +kernel
theorem dX7_readKind_94 : decode cX7_readKind 94 = .ok (.aload_n 1, 1) := by decide +kernel
theorem dX7_readKind_95 : decode cX7_readKind 95 = .ok (.iload 6, 2) := by decide +kernel
theorem dX7_readKind_97 : decode cX7_readKind 97 = .ok (.iload 5, 2) := by decide +kernel
theorem dX7_readKind_99 : decode cX7_readKind 99 = .ok (.invokevirtual 126, 3) := by decide +kernel
theorem dX7_readKind_102 : decode cX7_readKind 102 = .ok (.istore 8, 2) := by decide +kernel
theorem dX7_readKind_104 : decode cX7_readKind 104 = .ok (.iinc 7 1, 3) := by decide +kernel
theorem dX7_readKind_107 : decode cX7_readKind 107 = .ok (.aload_n 3, 1) := by decide +kernel
theorem dX7_readKind_108 : decode cX7_readKind 108 = .ok (.iload 4, 2) := by decide +kernel
theorem dX7_readKind_110 : decode cX7_readKind 110 = .ok (.iload 7, 2) := by decide +kernel
theorem dX7_readKind_112 : decode cX7_readKind 112 = .ok (.iadd, 1) := by decide +kernel
theorem dX7_readKind_113 : decode cX7_readKind 113 = .ok (.aload_n 0, 1) := by decide +kernel
theorem dX7_readKind_114 : decode cX7_readKind 114 = .ok (.aload_n 1, 1) := by decide +kernel
theorem dX7_readKind_115 : decode cX7_readKind 115 = .ok (.iload 6, 2) := by decide +kernel
theorem dX7_readKind_117 : decode cX7_readKind 117 = .ok (.iload 8, 2) := by decide +kernel
theorem dX7_readKind_119 : decode cX7_readKind 119 = .ok (.invokevirtual 123, 3) := by decide +kernel
theorem dX7_readKind_122 : decode cX7_readKind 122 = .ok (.iastore, 1) := by decide +kernel
theorem dX7_readKind_123 : decode cX7_readKind 123 = .ok (.iload 8, 2) := by decide +kernel
theorem dX7_readKind_125 : decode cX7_readKind 125 = .ok (.istore 6, 2) := by decide +kernel
theorem dX7_readKind_127 : decode cX7_readKind 127 = .ok (.goto (-64), 3) := by decide +kernel
theorem dX7_readKind_130 : decode cX7_readKind 130 = .ok (.aload_n 3, 1) := by decide +kernel
theorem dX7_readKind_131 : decode cX7_readKind 131 = .ok (.iload 4, 2) := by decide +kernel
theorem dX7_readKind_133 : decode cX7_readKind 133 = .ok (.aload_n 0, 1) := by decide +kernel
theorem dX7_readKind_134 : decode cX7_readKind 134 = .ok (.aload_n 1, 1) := by decide +kernel
theorem dX7_readKind_135 : decode cX7_readKind 135 = .ok (.iload 6, 2) := by decide +kernel
theorem dX7_readKind_137 : decode cX7_readKind 137 = .ok (.iconst 1, 1) := by decide +kernel
theorem dX7_readKind_138 : decode cX7_readKind 138 = .ok (.iadd, 1) := by decide +kernel
theorem dX7_readKind_139 : decode cX7_readKind 139 = .ok (.iload 5, 2) := by decide +kernel
theorem dX7_readKind_141 : decode cX7_readKind 141 = .ok (.invokevirtual 123, 3) := by decide +kernel
theorem dX7_readKind_144 : decode cX7_readKind 144 = .ok (.iastore, 1) := by decide +kernel
theorem dX7_readKind_145 : decode cX7_readKind 145 = .ok (.iload 7, 2) := by decide +kernel
theorem dX7_readKind_147 : decode cX7_readKind 147 = .ok (.ireturn, 1) := by decide +kernel
theorem rs_RX11_100 : mx_res RX11 100 = some (0, 3, 12) := by decide +kernel
theorem rs_RX11_136 : mx_res RX11 136 = some (0, 3, 10) := by decide +kernel
theorem rs_RX11_139 : mx_res RX11 139 = some (1, 128, 1) := by decide +kernel
theorem rs_RX11_142 : mx_res RX11 142 = some (1, 207, 4) := by decide +kernel
theorem rs_RX11_146 : mx_res RX11 146 = some (1, 126, 2) := by decide +kernel
theorem mt_X11_areKindsThere : mx_mt 312 = some (yX11_areKindsThere, cX11_areKindsThere, 5, (some .boolean)) := rfl
theorem dX11_areKindsThere_0 : decode cX11_areKindsThere 0 = .ok (.iconst 1, 1) := by decide +kernel
theorem dX11_areKindsThere_1 : decode cX11_areKindsThere 1 = .ok (.istore_n 1, 1) := by decide +kernel
theorem dX11_areKindsThere_2 : decode cX11_areKindsThere 2 = .ok (.iconst 0, 1) := by decide +kernel
theorem dX11_areKindsThere_3 : decode cX11_areKindsThere 3 = .ok (.istore_n 2, 1) := by decide +kernel
theorem dX11_areKindsThere_4 : decode cX11_areKindsThere 4 = .ok (.iload_n 2, 1) := by decide +kernel
theorem dX11_areKindsThere_5 : decode cX11_areKindsThere 5 = .ok (.aload_n 0, 1) := by decide +kernel
theorem dX11_areKindsThere_6 : decode cX11_areKindsThere 6 = .ok (.getfield 62, 3) := by decide +kernel
theorem dX11_areKindsThere_9 : decode cX11_areKindsThere 9 = .ok (.getfield 136, 3) := by decide +kernel
theorem dX11_areKindsThere_12 : decode cX11_areKindsThere 12 = .ok (.if_icmp .ge 54, 3) := by decide +kernel
theorem dX11_areKindsThere_15 : decode cX11_areKindsThere 15 = .ok (.aload_n 0, 1) := by decide +kernel
theorem dX11_areKindsThere_16 : decode cX11_areKindsThere 16 = .ok (.getfield 50, 3) := by decide +kernel
theorem dX11_areKindsThere_19 : decode cX11_areKindsThere 19 = .ok (.aload_n 0, 1) := by decide +kernel
theorem dX11_areKindsThere_20 : decode cX11_areKindsThere 20 = .ok (.getfield 62, 3) := by decide +kernel
theorem dX11_areKindsThere_23 : decode cX11_areKindsThere 23 = .ok (.aload_n 0, 1) := by decide +kernel
theorem dX11_areKindsThere_24 : decode cX11_areKindsThere 24 = .ok (.getfield 62, 3) := by decide +kernel
theorem dX11_areKindsThere_27 : decode cX11_areKindsThere 27 = .ok (.iload_n 2, 1) := by decide +kernel
theorem dX11_areKindsThere_28 : decode cX11_areKindsThere 28 = .ok (.invokevirtual 139, 3) := by decide +kernel
theorem dX11_areKindsThere_31 : decode cX11_areKindsThere 31 = .ok (.aload_n 0, 1) := by decide +kernel
theorem dX11_areKindsThere_32 : decode cX11_areKindsThere 32 = .ok (.getfield 33, 3) := by decide +kernel
theorem dX11_areKindsThere_35 : decode cX11_areKindsThere 35 = .ok (.iconst 0, 1) := by decide +kernel
theorem dX11_areKindsThere_36 : decode cX11_areKindsThere 36 = .ok (.invokevirtual 142, 3) := by decide +kernel
theorem dX11_areKindsThere_39 : decode cX11_areKindsThere 39 = .ok (.pop, 1) := by decide +kernel
theorem dX11_areKindsThere_40 : decode cX11_areKindsThere 40 = .ok (.iload_n 1, 1) := by decide +kernel
theorem dX11_areKindsThere_41 : decode cX11_areKindsThere 41 = .ok (.ifCond .eq 17, 3) := by decide +kernel
theorem dX11_areKindsThere_44 : decode cX11_areKindsThere 44 = .ok (.aload_n 0, 1) := by decide +kernel
theorem dX11_areKindsThere_45 : decode cX11_areKindsThere 45 = .ok (.getfield 33, 3) := by decide +kernel
theorem dX11_areKindsThere_48 : decode cX11_areKindsThere 48 = .ok (.iconst 0, 1) := by decide +kernel
theorem dX11_areKindsThere_49 : decode cX11_areKindsThere 49 = .ok (.iaload, 1) := by decide +kernel
theorem dX11_areKindsThere_50 : decode cX11_areKindsThere 50 = .ok (.iconst (-1), 1) := by decide +kernel
theorem dX11_areKindsThere_51 : decode cX11_areKindsThere 51 = .ok (.if_icmp .eq 7, 3) := by decide +kernel
theorem dX11_areKindsThere_54 : decode cX11_areKindsThere 54 = .ok (.iconst 1, 1) := by decide +kernel
theorem dX11_areKindsThere_55 : decode cX11_areKindsThere 55 = .ok (.goto 4, 3) := by decide +kernel
theorem dX11_areKindsThere_58 : decode cX11_areKindsThere 58 = .ok (.iconst 0, 1) := by decide +kernel
theorem dX11_areKindsThere_59 : decode cX11_areKindsThere 59 = .ok (.istore_n 1, 1) := by decide +kernel
theorem dX11_areKindsThere_60 : decode cX11_areKindsThere 60 = .ok (.iinc 2 1, 3) := by decide +kernel
theorem dX11_areKindsThere_63 : decode cX11_areKindsThere 63 = .ok (.goto (-59), 3) := by decide +kernel
theorem dX11_areKindsThere_66 : decode cX11_areKindsThere 66 = .ok (.iconst 0, 1) := by decide +kernel
theorem dX11_areKindsThere_67 : decode cX11_areKindsThere 67 = .ok (.istore_n 2, 1) := by decide +kernel
theorem dX11_areKindsThere_68 : decode cX11_areKindsThere 68 = .ok (.iload_n 2, 1) := by decide +kernel
theorem dX11_areKindsThere_69 : decode cX11_areKindsThere 69 = .ok (.aload_n 0, 1) := by decide +kernel
theorem dX11_areKindsThere_70 : decode cX11_areKindsThere 70 = .ok (.getfield 62, 3) := by decide +kernel
theorem dX11_areKindsThere_73 : decode cX11_areKindsThere 73 = .ok (.getfield 100, 3) := by decide +kernel
theorem dX11_areKindsThere_76 : decode cX11_areKindsThere 76 = .ok (.if_icmp .ge 71, 3) := by decide +kernel
theorem dX11_areKindsThere_79 : decode cX11_areKindsThere 79 = .ok (.aload_n 0, 1) := by decide +kernel
theorem dX11_areKindsThere_80 : decode cX11_areKindsThere 80 = .ok (.getfield 50, 3) := by decide +kernel
theorem dX11_areKindsThere_83 : decode cX11_areKindsThere 83 = .ok (.aload_n 0, 1) := by decide +kernel
theorem dX11_areKindsThere_84 : decode cX11_areKindsThere 84 = .ok (.getfield 62, 3) := by decide +kernel
theorem dX11_areKindsThere_87 : decode cX11_areKindsThere 87 = .ok (.aload_n 0, 1) := by decide +kernel
theorem dX11_areKindsThere_88 : decode cX11_areKindsThere 88 = .ok (.getfield 62, 3) := by decide +kernel
theorem dX11_areKindsThere_91 : decode cX11_areKindsThere 91 = .ok (.iload_n 2, 1) := by decide +kernel
theorem dX11_areKindsThere_92 : decode cX11_areKindsThere 92 = .ok (.iconst 2, 1) := by decide +kernel
theorem dX11_areKindsThere_93 : decode cX11_areKindsThere 93 = .ok (.invokevirtual 146, 3) := by decide +kernel
theorem dX11_areKindsThere_96 : decode cX11_areKindsThere 96 = .ok (.aload_n 0, 1) := by decide +kernel
theorem dX11_areKindsThere_97 : decode cX11_areKindsThere 97 = .ok (.getfield 33, 3) := by decide +kernel
theorem dX11_areKindsThere_100 : decode cX11_areKindsThere 100 = .ok (.iconst 0, 1) := by decide +kernel
theorem dX11_areKindsThere_101 : decode cX11_areKindsThere 101 = .ok (.invokevirtual 142, 3) := by decide +kernel
theorem dX11_areKindsThere_104 : decode cX11_areKindsThere 104 = .ok (.istore_n 3, 1) := by decide +kernel
theorem dX11_areKindsThere_105 : decode cX11_areKindsThere 105 = .ok (.iconst 0, 1) := by decide +kernel
theorem dX11_areKindsThere_106 : decode cX11_areKindsThere 106 = .ok (.istore 4, 2) := by decide +kernel
theorem dX11_areKindsThere_108 : decode cX11_areKindsThere 108 = .ok (.iload 4, 2) := by decide +kernel
theorem dX11_areKindsThere_110 : decode cX11_areKindsThere 110 = .ok (.iload_n 3, 1) := by decide +kernel
theorem dX11_areKindsThere_111 : decode cX11_areKindsThere 111 = .ok (.if_icmp .gt 30, 3) := by decide +kernel
theorem dX11_areKindsThere_114 : decode cX11_areKindsThere 114 = .ok (.iload_n 1, 1) := by decide +kernel
theorem dX11_areKindsThere_115 : decode cX11_areKindsThere 115 = .ok (.ifCond .eq 18, 3) := by decide +kernel
theorem dX11_areKindsThere_118 : decode cX11_areKindsThere 118 = .ok (.aload_n 0, 1) := by decide +kernel
theorem dX11_areKindsThere_119 : decode cX11_areKindsThere 119 = .ok (.getfield 33, 3) := by decide +kernel
theorem dX11_areKindsThere_122 : decode cX11_areKindsThere 122 = .ok (.iload 4, 2) := by decide +kernel
theorem dX11_areKindsThere_124 : decode cX11_areKindsThere 124 = .ok (.iaload, 1) := by decide +kernel
theorem dX11_areKindsThere_125 : decode cX11_areKindsThere 125 = .ok (.iconst (-1), 1) := by decide +kernel
theorem dX11_areKindsThere_126 : decode cX11_areKindsThere 126 = .ok (.if_icmp .eq 7, 3) := by decide +kernel
theorem dX11_areKindsThere_129 : decode cX11_areKindsThere 129 = .ok (.iconst 1, 1) := by decide +kernel
theorem dX11_areKindsThere_130 : decode cX11_areKindsThere 130 = .ok (.goto 4, 3) := by decide +kernel
theorem dX11_areKindsThere_133 : decode cX11_areKindsThere 133 = .ok (.iconst 0, 1) := by decide +kernel
theorem dX11_areKindsThere_134 : decode cX11_areKindsThere 134 = .ok (.istore_n 1, 1) := by decide +kernel
theorem dX11_areKindsThere_135 : decode cX11_areKindsThere 135 = .ok (.iinc 4 1, 3) := by decide +kernel
theorem dX11_areKindsThere_138 : decode cX11_areKindsThere 138 = .ok (.goto (-30), 3) := by decide +kernel
theorem dX11_areKindsThere_141 : decode cX11_areKindsThere 141 = .ok (.iinc 2 1, 3) := by decide +kernel
theorem dX11_areKindsThere_144 : decode cX11_areKindsThere 144 = .ok (.goto (-76), 3) := by decide +kernel
theorem dX11_areKindsThere_147 : decode cX11_areKindsThere 147 = .ok (.iload_n 1, 1) := by decide +kernel
theorem dX11_areKindsThere_148 : decode cX11_areKindsThere 148 = .ok (.ireturn, 1) := by decide +kernel
theorem mt_X7_numberOf : mx_mt 208 = some (yX7_numberOf, cX7_numberOf, 3, (some .int)) := rfl
theorem dX7_numberOf_0 : decode cX7_numberOf 0 = .ok (.iload_n 1, 1) := by decide +kernel
theorem dX7_numberOf_1 : decode cX7_numberOf 1 = .ok (.bipush 8, 2) := by decide +kernel
theorem dX7_numberOf_3 : decode cX7_numberOf 3 = .ok (.isub, 1) := by decide +kernel
theorem dX7_numberOf_4 : decode cX7_numberOf 4 = .ok (.bipush 12, 2) := by decide +kernel
theorem dX7_numberOf_6 : decode cX7_numberOf 6 = .ok (.imul, 1) := by decide +kernel
theorem dX7_numberOf_7 : decode cX7_numberOf 7 = .ok (.iload_n 2, 1) := by decide +kernel
theorem dX7_numberOf_8 : decode cX7_numberOf 8 = .ok (.iadd, 1) := by decide +kernel
theorem dX7_numberOf_9 : decode cX7_numberOf 9 = .ok (.ireturn, 1) := by decide +kernel
