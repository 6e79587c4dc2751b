theorem mt_X11_fitsHandlers : mx_mt 344 = some (yX11_fitsHandlers, cX11_fitsHandlers, 5, (some .boolean)) := rfl
theorem dX11_fitsHandlers_0 : decode cX11_fitsHandlers 0 = .ok (.iconst 1, 1) := by decide +kernel
theorem dX11_fitsHandlers_1 : decode cX11_fitsHandlers 1 = .ok (.istore_n 2, 1) := by decide +kernel
theorem dX11_fitsHandlers_2 : decode cX11_fitsHandlers 2 = .ok (.iconst 0, 1) := by decide +kernel
theorem dX11_fitsHandlers_3 : decode cX11_fitsHandlers 3 = .ok (.istore_n 3, 1) := by decide +kernel
theorem dX11_fitsHandlers_4 : decode cX11_fitsHandlers 4 = .ok (.iload_n 3, 1) := by decide +kernel
theorem dX11_fitsHandlers_5 : decode cX11_fitsHandlers 5 = .ok (.aload_n 0, 1) := by decide +kernel
theorem dX11_fitsHandlers_6 : decode cX11_fitsHandlers 6 = .ok (.bipush 7, 2) := by decide +kernel
theorem dX11_fitsHandlers_8 : decode cX11_fitsHandlers 8 = .ok (.invokevirtual 189, 3) := by decide +kernel
theorem dX11_fitsHandlers_11 : decode cX11_fitsHandlers 11 = .ok (.if_icmp .ge 103, 3) := by decide +kernel
theorem dX11_fitsHandlers_14 : decode cX11_fitsHandlers 14 = .ok (.iload_n 2, 1) := by decide +kernel
theorem dX11_fitsHandlers_15 : decode cX11_fitsHandlers 15 = .ok (.ifCond .eq 99, 3) := by decide +kernel
theorem dX11_fitsHandlers_18 : decode cX11_fitsHandlers 18 = .ok (.iload_n 1, 1) := by decide +kernel
theorem dX11_fitsHandlers_19 : decode cX11_fitsHandlers 19 = .ok (.aload_n 0, 1) := by decide +kernel
theorem dX11_fitsHandlers_20 : decode cX11_fitsHandlers 20 = .ok (.iload_n 3, 1) := by decide +kernel
theorem dX11_fitsHandlers_21 : decode cX11_fitsHandlers 21 = .ok (.iconst 0, 1) := by decide +kernel
theorem dX11_fitsHandlers_22 : decode cX11_fitsHandlers 22 = .ok (.invokevirtual 239, 3) := by decide +kernel
theorem dX11_fitsHandlers_25 : decode cX11_fitsHandlers 25 = .ok (.if_icmp .lt 83, 3) := by decide +kernel
theorem dX11_fitsHandlers_28 : decode cX11_fitsHandlers 28 = .ok (.iload_n 1, 1) := by decide +kernel
theorem dX11_fitsHandlers_29 : decode cX11_fitsHandlers 29 = .ok (.aload_n 0, 1) := by decide +kernel
theorem dX11_fitsHandlers_30 : decode cX11_fitsHandlers 30 = .ok (.iload_n 3, 1) := by decide +kernel
theorem dX11_fitsHandlers_31 : decode cX11_fitsHandlers 31 = .ok (.iconst 2, 1) := by decide +kernel
theorem dX11_fitsHandlers_32 : decode cX11_fitsHandlers 32 = .ok (.invokevirtual 239, 3) := by decide +kernel
theorem dX11_fitsHandlers_35 : decode cX11_fitsHandlers 35 = .ok (.if_icmp .ge 73, 3) := by decide +kernel
theorem dX11_fitsHandlers_38 : decode cX11_fitsHandlers 38 = .ok (.aload_n 0, 1) := by decide +kernel
theorem dX11_fitsHandlers_39 : decode cX11_fitsHandlers 39 = .ok (.aload_n 0, 1) := by decide +kernel
theorem dX11_fitsHandlers_40 : decode cX11_fitsHandlers 40 = .ok (.iload_n 3, 1) := by decide +kernel
theorem dX11_fitsHandlers_41 : decode cX11_fitsHandlers 41 = .ok (.iconst 4, 1) := by decide +kernel
theorem dX11_fitsHandlers_42 : decode cX11_fitsHandlers 42 = .ok (.invokevirtual 239, 3) := by decide +kernel
theorem dX11_fitsHandlers_45 : decode cX11_fitsHandlers 45 = .ok (.invokevirtual 242, 3) := by decide +kernel
theorem dX11_fitsHandlers_48 : decode cX11_fitsHandlers 48 = .ok (.bipush 64, 2) := by decide +kernel
theorem dX11_fitsHandlers_50 : decode cX11_fitsHandlers 50 = .ok (.imul, 1) := by decide +kernel
theorem dX11_fitsHandlers_51 : decode cX11_fitsHandlers 51 = .ok (.istore 4, 2) := by decide +kernel
theorem dX11_fitsHandlers_53 : decode cX11_fitsHandlers 53 = .ok (.iload 4, 2) := by decide +kernel
theorem dX11_fitsHandlers_55 : decode cX11_fitsHandlers 55 = .ok (.ifCond .lt 51, 3) := by decide +kernel
theorem dX11_fitsHandlers_58 : decode cX11_fitsHandlers 58 = .ok (.aload_n 0, 1) := by decide +kernel
theorem dX11_fitsHandlers_59 : decode cX11_fitsHandlers 59 = .ok (.iload 4, 2) := by decide +kernel
theorem dX11_fitsHandlers_61 : decode cX11_fitsHandlers 61 = .ok (.invokevirtual 304, 3) := by decide +kernel
theorem dX11_fitsHandlers_64 : decode cX11_fitsHandlers 64 = .ok (.ifCond .eq 42, 3) := by decide +kernel
theorem dX11_fitsHandlers_67 : decode cX11_fitsHandlers 67 = .ok (.aload_n 0, 1) := by decide +kernel
theorem dX11_fitsHandlers_68 : decode cX11_fitsHandlers 68 = .ok (.getfield 41, 3) := by decide +kernel
theorem dX11_fitsHandlers_71 : decode cX11_fitsHandlers 71 = .ok (.iload 4, 2) := by decide +kernel
theorem dX11_fitsHandlers_73 : decode cX11_fitsHandlers 73 = .ok (.iconst 2, 1) := by decide +kernel
theorem dX11_fitsHandlers_74 : decode cX11_fitsHandlers 74 = .ok (.iadd, 1) := by decide +kernel
theorem dX11_fitsHandlers_75 : decode cX11_fitsHandlers 75 = .ok (.iaload, 1) := by decide +kernel
theorem dX11_fitsHandlers_76 : decode cX11_fitsHandlers 76 = .ok (.iconst 1, 1) := by decide +kernel
theorem dX11_fitsHandlers_77 : decode cX11_fitsHandlers 77 = .ok (.if_icmp .ne 29, 3) := by decide +kernel
theorem dX11_fitsHandlers_80 : decode cX11_fitsHandlers 80 = .ok (.aload_n 0, 1) := by decide +kernel
theorem dX11_fitsHandlers_81 : decode cX11_fitsHandlers 81 = .ok (.aload_n 0, 1) := by decide +kernel
theorem dX11_fitsHandlers_82 : decode cX11_fitsHandlers 82 = .ok (.iload_n 3, 1) := by decide +kernel
theorem dX11_fitsHandlers_83 : decode cX11_fitsHandlers 83 = .ok (.invokevirtual 245, 3) := by decide +kernel
theorem dX11_fitsHandlers_86 : decode cX11_fitsHandlers 86 = .ok (.aload_n 0, 1) := by decide +kernel
theorem dX11_fitsHandlers_87 : decode cX11_fitsHandlers 87 = .ok (.getfield 41, 3) := by decide +kernel
theorem dX11_fitsHandlers_90 : decode cX11_fitsHandlers 90 = .ok (.iload 4, 2) := by decide +kernel
theorem dX11_fitsHandlers_92 : decode cX11_fitsHandlers 92 = .ok (.bipush 33, 2) := by decide +kernel
theorem dX11_fitsHandlers_94 : decode cX11_fitsHandlers 94 = .ok (.iadd, 1) := by decide +kernel
theorem dX11_fitsHandlers_95 : decode cX11_fitsHandlers 95 = .ok (.iaload, 1) := by decide +kernel
theorem dX11_fitsHandlers_96 : decode cX11_fitsHandlers 96 = .ok (.invokevirtual 303, 3) := by decide +kernel
theorem dX11_fitsHandlers_99 : decode cX11_fitsHandlers 99 = .ok (.ifCond .eq 7, 3) := by decide +kernel
theorem dX11_fitsHandlers_102 : decode cX11_fitsHandlers 102 = .ok (.iconst 1, 1) := by decide +kernel
theorem dX11_fitsHandlers_103 : decode cX11_fitsHandlers 103 = .ok (.goto 4, 3) := by decide +kernel
theorem dX11_fitsHandlers_106 : decode cX11_fitsHandlers 106 = .ok (.iconst 0, 1) := by decide +kernel
theorem dX11_fitsHandlers_107 : decode cX11_fitsHandlers 107 = .ok (.istore_n 2, 1) := by decide +kernel
theorem dX11_fitsHandlers_108 : decode cX11_fitsHandlers 108 = .ok (.iinc 3 1, 3) := by decide +kernel
theorem dX11_fitsHandlers_111 : decode cX11_fitsHandlers 111 = .ok (.goto (-107), 3) := by decide +kernel
theorem dX11_fitsHandlers_114 : decode cX11_fitsHandlers 114 = .ok (.iload_n 2, 1) := by decide +kernel
theorem dX11_fitsHandlers_115 : decode cX11_fitsHandlers 115 = .ok (.ireturn, 1) := by decide +kernel
theorem rs_RX11_167 : mx_res RX11 167 = some (1, 102, 1) := by decide +kernel
theorem rs_RX11_180 : mx_res RX11 180 = some (1, 107, 1) := by decide +kernel
theorem mt_X11_isMemberRight : mx_mt 346 = some (yX11_isMemberRight, cX11_isMemberRight, 7, (some .boolean)) := rfl
theorem dX11_isMemberRight_0 : decode cX11_isMemberRight 0 = .ok (.aload_n 0, 1) := by decide +kernel
theorem dX11_isMemberRight_1 : decode cX11_isMemberRight 1 = .ok (.getfield 62, 3) := by decide +kernel
theorem dX11_isMemberRight_4 : decode cX11_isMemberRight 4 = .ok (.aload_n 0, 1) := by decide +kernel
theorem dX11_isMemberRight_5 : decode cX11_isMemberRight 5 = .ok (.getfield 62, 3) := by decide +kernel
theorem dX11_isMemberRight_8 : decode cX11_isMemberRight 8 = .ok (.aload_n 0, 1) := by decide +kernel
theorem dX11_isMemberRight_9 : decode cX11_isMemberRight 9 = .ok (.getfield 62, 3) := by decide +kernel
theorem dX11_isMemberRight_12 : decode cX11_isMemberRight 12 = .ok (.iload_n 2, 1) := by decide +kernel
theorem dX11_isMemberRight_13 : decode cX11_isMemberRight 13 = .ok (.iconst 2, 1) := by decide +kernel
theorem dX11_isMemberRight_14 : decode cX11_isMemberRight 14 = .ok (.invokevirtual 177, 3) := by decide +kernel
theorem dX11_isMemberRight_17 : decode cX11_isMemberRight 17 = .ok (.invokevirtual 180, 3) := by decide +kernel
theorem dX11_isMemberRight_20 : decode cX11_isMemberRight 20 = .ok (.invokevirtual 183, 3) := by decide +kernel
theorem dX11_isMemberRight_23 : decode cX11_isMemberRight 23 = .ok (.bipush 40, 2) := by decide +kernel
theorem dX11_isMemberRight_25 : decode cX11_isMemberRight 25 = .ok (.if_icmp .ne 7, 3) := by decide +kernel
theorem dX11_isMemberRight_28 : decode cX11_isMemberRight 28 = .ok (.iconst 1, 1) := by decide +kernel
theorem dX11_isMemberRight_29 : decode cX11_isMemberRight 29 = .ok (.goto 4, 3) := by decide +kernel
theorem dX11_isMemberRight_32 : decode cX11_isMemberRight 32 = .ok (.iconst 0, 1) := by decide +kernel
theorem dX11_isMemberRight_33 : decode cX11_isMemberRight 33 = .ok (.istore_n 3, 1) := by decide +kernel
theorem dX11_isMemberRight_34 : decode cX11_isMemberRight 34 = .ok (.aload_n 0, 1) := by decide +kernel
theorem dX11_isMemberRight_35 : decode cX11_isMemberRight 35 = .ok (.getfield 62, 3) := by decide +kernel
theorem dX11_isMemberRight_38 : decode cX11_isMemberRight 38 = .ok (.iload_n 2, 1) := by decide +kernel
theorem dX11_isMemberRight_39 : decode cX11_isMemberRight 39 = .ok (.invokevirtual 167, 3) := by decide +kernel
theorem dX11_isMemberRight_42 : decode cX11_isMemberRight 42 = .ok (.iconst 4, 1) := by decide +kernel
theorem dX11_isMemberRight_43 : decode cX11_isMemberRight 43 = .ok (.if_icmp .ne 12, 3) := by decide +kernel
theorem dX11_isMemberRight_46 : decode cX11_isMemberRight 46 = .ok (.aload_n 0, 1) := by decide +kernel
theorem dX11_isMemberRight_47 : decode cX11_isMemberRight 47 = .ok (.getfield 27, 3) := by decide +kernel
theorem dX11_isMemberRight_50 : decode cX11_isMemberRight 50 = .ok (.iload_n 2, 1) := by decide +kernel
theorem dX11_isMemberRight_51 : decode cX11_isMemberRight 51 = .ok (.iaload, 1) := by decide +kernel
theorem dX11_isMemberRight_52 : decode cX11_isMemberRight 52 = .ok (.goto 4, 3) := by decide +kernel
theorem dX11_isMemberRight_55 : decode cX11_isMemberRight 55 = .ok (.iconst (-1), 1) := by decide +kernel
theorem dX11_isMemberRight_56 : decode cX11_isMemberRight 56 = .ok (.istore 4, 2) := by decide +kernel
theorem dX11_isMemberRight_58 : decode cX11_isMemberRight 58 = .ok (.aload_n 0, 1) := by decide +kernel
theorem dX11_isMemberRight_59 : decode cX11_isMemberRight 59 = .ok (.getfield 50, 3) := by decide +kernel
theorem dX11_isMemberRight_62 : decode cX11_isMemberRight 62 = .ok (.iload 4, 2) := by decide +kernel
theorem dX11_isMemberRight_64 : decode cX11_isMemberRight 64 = .ok (.invokevirtual 161, 3) := by decide +kernel
theorem dX11_isMemberRight_67 : decode cX11_isMemberRight 67 = .ok (.astore 5, 2) := by decide +kernel
theorem dX11_isMemberRight_69 : decode cX11_isMemberRight 69 = .ok (.aload 5, 2) := by decide +kernel
theorem dX11_isMemberRight_71 : decode cX11_isMemberRight 71 = .ok (.ifnull 19, 3) := by decide +kernel
theorem dX11_isMemberRight_74 : decode cX11_isMemberRight 74 = .ok (.iload_n 3, 1) := by decide +kernel
theorem dX11_isMemberRight_75 : decode cX11_isMemberRight 75 = .ok (.iload_n 1, 1) := by decide +kernel
theorem dX11_isMemberRight_76 : decode cX11_isMemberRight 76 = .ok (.sipush 182, 3) := by decide +kernel
theorem dX11_isMemberRight_79 : decode cX11_isMemberRight 79 = .ok (.if_icmp .lt 7, 3) := by decide +kernel
theorem dX11_isMemberRight_82 : decode cX11_isMemberRight 82 = .ok (.iconst 1, 1) := by decide +kernel
theorem dX11_isMemberRight_83 : decode cX11_isMemberRight 83 = .ok (.goto 4, 3) := by decide +kernel
theorem dX11_isMemberRight_86 : decode cX11_isMemberRight 86 = .ok (.iconst 0, 1) := by decide +kernel
theorem dX11_isMemberRight_87 : decode cX11_isMemberRight 87 = .ok (.if_icmp .eq 5, 3) := by decide +kernel
theorem dX11_isMemberRight_90 : decode cX11_isMemberRight 90 = .ok (.iconst 0, 1) := by decide +kernel
theorem dX11_isMemberRight_91 : decode cX11_isMemberRight 91 = .ok (.ireturn, 1) := by decide +kernel
theorem dX11_isMemberRight_92 : decode cX11_isMemberRight 92 = .ok (.iload_n 3, 1) := by decide +kernel
theorem dX11_isMemberRight_93 : decode cX11_isMemberRight 93 = .ok (.ifCond .eq 21, 3) := by decide +kernel
theorem dX11_isMemberRight_96 : decode cX11_isMemberRight 96 = .ok (.aload 5, 2) := by decide +kernel
theorem dX11_isMemberRight_98 : decode cX11_isMemberRight 98 = .ok (.iload 4, 2) := by decide +kernel
theorem dX11_isMemberRight_100 : decode cX11_isMemberRight 100 = .ok (.bipush 12, 2) := by decide +kernel
theorem dX11_isMemberRight_102 : decode cX11_isMemberRight 102 = .ok (.irem, 1) := by decide +kernel
theorem dX11_isMemberRight_103 : decode cX11_isMemberRight 103 = .ok (.iconst 0, 1) := by decide +kernel
theorem dX11_isMemberRight_104 : decode cX11_isMemberRight 104 = .ok (.invokevirtual 146, 3) := by decide +kernel
theorem dX11_isMemberRight_107 : decode cX11_isMemberRight 107 = .ok (.ifCond .eq 7, 3) := by decide +kernel
theorem dX11_isMemberRight_110 : decode cX11_isMemberRight 110 = .ok (.iconst 1, 1) := by decide +kernel
theorem dX11_isMemberRight_111 : decode cX11_isMemberRight 111 = .ok (.goto 4, 3) := by decide +kernel
theorem dX11_isMemberRight_114 : decode cX11_isMemberRight 114 = .ok (.iconst 0, 1) := by decide +kernel
theorem dX11_isMemberRight_115 : decode cX11_isMemberRight 115 = .ok (.istore 6, 2) := by decide +kernel
theorem dX11_isMemberRight_117 : decode cX11_isMemberRight 117 = .ok (.iload 6, 2) := by decide +kernel
theorem dX11_isMemberRight_119 : decode cX11_isMemberRight 119 = .ok (.iload_n 1, 1) := by decide +kernel
theorem dX11_isMemberRight_120 : decode cX11_isMemberRight 120 = .ok (.sipush 184, 3) := by decide +kernel
theorem dX11_isMemberRight_123 : decode cX11_isMemberRight 123 = .ok (.if_icmp .ne 7, 3) := by decide +kernel
theorem dX11_isMemberRight_126 : decode cX11_isMemberRight 126 = .ok (.iconst 1, 1) := by decide +kernel
theorem dX11_isMemberRight_127 : decode cX11_isMemberRight 127 = .ok (.goto 4, 3) := by decide +kernel
theorem dX11_isMemberRight_130 : decode cX11_isMemberRight 130 = .ok (.iconst 0, 1) := by decide +kernel
theorem dX11_isMemberRight_131 : decode cX11_isMemberRight 131 = .ok (.if_icmp .ne 7, 3) := by decide +kernel
theorem dX11_isMemberRight_134 : decode cX11_isMemberRight 134 = .ok (.iconst 1, 1) := by decide +kernel
theorem dX11_isMemberRight_135 : decode cX11_isMemberRight 135 = .ok (.goto 4, 3) := by decide +kernel
theorem dX11_isMemberRight_138 : decode cX11_isMemberRight 138 = .ok (.iconst 0, 1) := by decide +kernel
theorem dX11_isMemberRight_139 : decode cX11_isMemberRight 139 = .ok (.ireturn, 1) := by decide +kernel
theorem rs_RX11_307 : mx_res RX11 307 = some (2, 134, 1) := by decide +kernel
theorem rs_RX11_310 : mx_res RX11 310 = some (1, 346, 2) := by decide +kernel
theorem mt_X11_isConstantRight : mx_mt 345 = some (yX11_isConstantRight, cX11_isConstantRight, 3, (some .boolean)) := rfl
theorem dX11_isConstantRight_0 : decode cX11_isConstantRight 0 = .ok (.iload_n 1, 1) := by decide +kernel
theorem dX11_isConstantRight_1 : decode cX11_isConstantRight 1 = .ok (.lookupswitch 158 #[(18, 91), (180, 151), (181, 151), (182, 151), (184, 151), (187, 109), (188, 139), (189, 109), (192, 109), (193, 109)], 91) := by decide +kernel
theorem dX11_isConstantRight_92 : decode cX11_isConstantRight 92 = .ok (.aload_n 0, 1) := by decide +kernel
theorem dX11_isConstantRight_93 : decode cX11_isConstantRight 93 = .ok (.getfield 62, 3) := by decide +kernel
theorem dX11_isConstantRight_96 : decode cX11_isConstantRight 96 = .ok (.iload_n 2, 1) := by decide +kernel
theorem dX11_isConstantRight_97 : decode cX11_isConstantRight 97 = .ok (.invokevirtual 167, 3) := by decide +kernel
theorem dX11_isConstantRight_100 : decode cX11_isConstantRight 100 = .ok (.iconst 2, 1) := by decide +kernel
theorem dX11_isConstantRight_101 : decode cX11_isConstantRight 101 = .ok (.if_icmp .ne 7, 3) := by decide +kernel
theorem dX11_isConstantRight_104 : decode cX11_isConstantRight 104 = .ok (.iconst 1, 1) := by decide +kernel
theorem dX11_isConstantRight_105 : decode cX11_isConstantRight 105 = .ok (.goto 4, 3) := by decide +kernel
theorem dX11_isConstantRight_108 : decode cX11_isConstantRight 108 = .ok (.iconst 0, 1) := by decide +kernel
theorem dX11_isConstantRight_109 : decode cX11_isConstantRight 109 = .ok (.ireturn, 1) := by decide +kernel
theorem dX11_isConstantRight_110 : decode cX11_isConstantRight 110 = .ok (.aload_n 0, 1) := by decide +kernel
theorem dX11_isConstantRight_111 : decode cX11_isConstantRight 111 = .ok (.getfield 62, 3) := by decide +kernel
theorem dX11_isConstantRight_114 : decode cX11_isConstantRight 114 = .ok (.iload_n 2, 1) := by decide +kernel
theorem dX11_isConstantRight_115 : decode cX11_isConstantRight 115 = .ok (.invokevirtual 167, 3) := by decide +kernel
theorem dX11_isConstantRight_118 : decode cX11_isConstantRight 118 = .ok (.iconst 3, 1) := by decide +kernel
theorem dX11_isConstantRight_119 : decode cX11_isConstantRight 119 = .ok (.if_icmp .ne 19, 3) := by decide +kernel
theorem dX11_isConstantRight_122 : decode cX11_isConstantRight 122 = .ok (.aload_n 0, 1) := by decide +kernel
theorem dX11_isConstantRight_123 : decode cX11_isConstantRight 123 = .ok (.getfield 23, 3) := by decide +kernel
theorem dX11_isConstantRight_126 : decode cX11_isConstantRight 126 = .ok (.iload_n 2, 1) := by decide +kernel
theorem dX11_isConstantRight_127 : decode cX11_isConstantRight 127 = .ok (.iaload, 1) := by decide +kernel
theorem dX11_isConstantRight_128 : decode cX11_isConstantRight 128 = .ok (.invokestatic 307, 3) := by decide +kernel
theorem dX11_isConstantRight_131 : decode cX11_isConstantRight 131 = .ok (.ifCond .eq 7, 3) := by decide +kernel
theorem dX11_isConstantRight_134 : decode cX11_isConstantRight 134 = .ok (.iconst 1, 1) := by decide +kernel
theorem dX11_isConstantRight_135 : decode cX11_isConstantRight 135 = .ok (.goto 4, 3) := by decide +kernel
theorem dX11_isConstantRight_138 : decode cX11_isConstantRight 138 = .ok (.iconst 0, 1) := by decide +kernel
theorem dX11_isConstantRight_139 : decode cX11_isConstantRight 139 = .ok (.ireturn, 1) := by decide +kernel
theorem dX11_isConstantRight_140 : decode cX11_isConstantRight 140 = .ok (.iload_n 2, 1) := by decide +kernel
theorem dX11_isConstantRight_141 : decode cX11_isConstantRight 141 = .ok (.bipush 10, 2) := by decide +kernel
theorem dX11_isConstantRight_143 : decode cX11_isConstantRight 143 = .ok (.if_icmp .ne 7, 3) := by decide +kernel
theorem dX11_isConstantRight_146 : decode cX11_isConstantRight 146 = .ok (.iconst 1, 1) := by decide +kernel
theorem dX11_isConstantRight_147 : decode cX11_isConstantRight 147 = .ok (.goto 4, 3) := by decide +kernel
theorem dX11_isConstantRight_150 : decode cX11_isConstantRight 150 = .ok (.iconst 0, 1) := by decide +kernel
theorem dX11_isConstantRight_151 : decode cX11_isConstantRight 151 = .ok (.ireturn, 1) := by decide +kernel
theorem dX11_isConstantRight_152 : decode cX11_isConstantRight 152 = .ok (.aload_n 0, 1) := by decide +kernel
theorem dX11_isConstantRight_153 : decode cX11_isConstantRight 153 = .ok (.iload_n 1, 1) := by decide +kernel
theorem dX11_isConstantRight_154 : decode cX11_isConstantRight 154 = .ok (.iload_n 2, 1) := by decide +kernel
theorem dX11_isConstantRight_155 : decode cX11_isConstantRight 155 = .ok (.invokevirtual 310, 3) := by decide +kernel
theorem dX11_isConstantRight_158 : decode cX11_isConstantRight 158 = .ok (.ireturn, 1) := by decide +kernel
theorem dX11_isConstantRight_159 : decode cX11_isConstantRight 159 = .ok (.iconst 1, 1) := by decide +kernel
theorem dX11_isConstantRight_160 : decode cX11_isConstantRight 160 = .ok (.ireturn, 1) := by decide +kernel
theorem mt_X11_takeFrame : mx_mt 343 = some (yX11_takeFrame, cX11_takeFrame, 3, none) := rfl
theorem dX11_takeFrame_0 : decode cX11_takeFrame 0 = .ok (.iload_n 1, 1) := by decide +kernel
theorem dX11_takeFrame_1 : decode cX11_takeFrame 1 = .ok (.bipush 64, 2) := by decide +kernel
theorem dX11_takeFrame_3 : decode cX11_takeFrame 3 = .ok (.imul, 1) := by decide +kernel
theorem dX11_takeFrame_4 : decode cX11_takeFrame 4 = .ok (.istore_n 2, 1) := by decide +kernel
theorem dX11_takeFrame_5 : decode cX11_takeFrame 5 = .ok (.aload_n 0, 1) := by decide +kernel
theorem dX11_takeFrame_6 : decode cX11_takeFrame 6 = .ok (.getfield 44, 3) := by decide +kernel
theorem dX11_takeFrame_9 : decode cX11_takeFrame 9 = .ok (.sipush 304, 3) := by decide +kernel
theorem dX11_takeFrame_12 : decode cX11_takeFrame 12 = .ok (.invokestatic 258, 3) := by decide +kernel
theorem dX11_takeFrame_15 : decode cX11_takeFrame 15 = .ok (.aload_n 0, 1) := by decide +kernel
theorem dX11_takeFrame_16 : decode cX11_takeFrame 16 = .ok (.getfield 41, 3) := by decide +kernel
theorem dX11_takeFrame_19 : decode cX11_takeFrame 19 = .ok (.iload_n 2, 1) := by decide +kernel
theorem dX11_takeFrame_20 : decode cX11_takeFrame 20 = .ok (.iconst 3, 1) := by decide +kernel
theorem dX11_takeFrame_21 : decode cX11_takeFrame 21 = .ok (.iadd, 1) := by decide +kernel
theorem dX11_takeFrame_22 : decode cX11_takeFrame 22 = .ok (.aload_n 0, 1) := by decide +kernel
theorem dX11_takeFrame_23 : decode cX11_takeFrame 23 = .ok (.getfield 44, 3) := by decide +kernel
theorem dX11_takeFrame_26 : decode cX11_takeFrame 26 = .ok (.iconst 0, 1) := by decide +kernel
theorem dX11_takeFrame_27 : decode cX11_takeFrame 27 = .ok (.aload_n 0, 1) := by decide +kernel
theorem dX11_takeFrame_28 : decode cX11_takeFrame 28 = .ok (.getfield 41, 3) := by decide +kernel
theorem dX11_takeFrame_31 : decode cX11_takeFrame 31 = .ok (.iload_n 2, 1) := by decide +kernel
theorem dX11_takeFrame_32 : decode cX11_takeFrame 32 = .ok (.iconst 1, 1) := by decide +kernel
theorem dX11_takeFrame_33 : decode cX11_takeFrame 33 = .ok (.iadd, 1) := by decide +kernel
theorem dX11_takeFrame_34 : decode cX11_takeFrame 34 = .ok (.iaload, 1) := by decide +kernel
theorem dX11_takeFrame_35 : decode cX11_takeFrame 35 = .ok (.invokestatic 267, 3) := by decide +kernel
theorem dX11_takeFrame_38 : decode cX11_takeFrame 38 = .ok (.aload_n 0, 1) := by decide +kernel
theorem dX11_takeFrame_39 : decode cX11_takeFrame 39 = .ok (.aload_n 0, 1) := by decide +kernel
theorem dX11_takeFrame_40 : decode cX11_takeFrame 40 = .ok (.getfield 41, 3) := by decide +kernel
theorem dX11_takeFrame_43 : decode cX11_takeFrame 43 = .ok (.iload_n 2, 1) := by decide +kernel
theorem dX11_takeFrame_44 : decode cX11_takeFrame 44 = .ok (.iconst 2, 1) := by decide +kernel
theorem dX11_takeFrame_45 : decode cX11_takeFrame 45 = .ok (.iadd, 1) := by decide +kernel
theorem dX11_takeFrame_46 : decode cX11_takeFrame 46 = .ok (.iaload, 1) := by decide +kernel
theorem dX11_takeFrame_47 : decode cX11_takeFrame 47 = .ok (.putfield 255, 3) := by decide +kernel
theorem dX11_takeFrame_50 : decode cX11_takeFrame 50 = .ok (.aload_n 0, 1) := by decide +kernel
theorem dX11_takeFrame_51 : decode cX11_takeFrame 51 = .ok (.getfield 41, 3) := by decide +kernel
theorem dX11_takeFrame_54 : decode cX11_takeFrame 54 = .ok (.iload_n 2, 1) := by decide +kernel
theorem dX11_takeFrame_55 : decode cX11_takeFrame 55 = .ok (.bipush 33, 2) := by decide +kernel
theorem dX11_takeFrame_57 : decode cX11_takeFrame 57 = .ok (.iadd, 1) := by decide +kernel
theorem dX11_takeFrame_58 : decode cX11_takeFrame 58 = .ok (.aload_n 0, 1) := by decide +kernel
theorem dX11_takeFrame_59 : decode cX11_takeFrame 59 = .ok (.getfield 47, 3) := by decide +kernel
theorem dX11_takeFrame_62 : decode cX11_takeFrame 62 = .ok (.iconst 0, 1) := by decide +kernel
theorem dX11_takeFrame_63 : decode cX11_takeFrame 63 = .ok (.aload_n 0, 1) := by decide +kernel
theorem dX11_takeFrame_64 : decode cX11_takeFrame 64 = .ok (.getfield 255, 3) := by decide +kernel
theorem dX11_takeFrame_67 : decode cX11_takeFrame 67 = .ok (.invokestatic 267, 3) := by decide +kernel
theorem dX11_takeFrame_70 : decode cX11_takeFrame 70 = .ok (.return_, 1) := by decide +kernel
theorem rs_RX11_283 : mx_res RX11 283 = some (1, 342, 1) := by decide +kernel
theorem rs_RX11_286 : mx_res RX11 286 = some (1, 343, 1) := by decide +kernel
theorem rs_RX11_289 : mx_res RX11 289 = some (1, 344, 1) := by decide +kernel
theorem rs_RX11_292 : mx_res RX11 292 = some (1, 345, 2) := by decide +kernel
theorem rs_RX11_299 : mx_res RX11 299 = some (1, 352, 2) := by decide +kernel
theorem mt_X11_proveState : mx_mt 339 = some (yX11_proveState, cX11_proveState, 7, (some .int)) := rfl
theorem dX11_proveState_0 : decode cX11_proveState 0 = .ok (.aload_n 0, 1) := by decide +kernel
theorem dX11_proveState_1 : decode cX11_proveState 1 = .ok (.iload_n 1, 1) := by decide +kernel
theorem dX11_proveState_2 : decode cX11_proveState 2 = .ok (.invokevirtual 242, 3) := by decide +kernel
theorem dX11_proveState_5 : decode cX11_proveState 5 = .ok (.istore 4, 2) := by decide +kernel
theorem dX11_proveState_7 : decode cX11_proveState 7 = .ok (.iload_n 3, 1) := by decide +kernel
theorem dX11_proveState_8 : decode cX11_proveState 8 = .ok (.ifCond .ne 11, 3) := by decide +kernel
theorem dX11_proveState_11 : decode cX11_proveState 11 = .ok (.iload 4, 2) := by decide +kernel
theorem dX11_proveState_13 : decode cX11_proveState 13 = .ok (.ifCond .ge 6, 3) := by decide +kernel
theorem dX11_proveState_16 : decode cX11_proveState 16 = .ok (.bipush 10, 2) := by decide +kernel
theorem dX11_proveState_18 : decode cX11_proveState 18 = .ok (.ireturn, 1) := by decide +kernel
theorem dX11_proveState_19 : decode cX11_proveState 19 = .ok (.iload 4, 2) := by decide +kernel
theorem dX11_proveState_21 : decode cX11_proveState 21 = .ok (.ifCond .lt 25, 3) := by decide +kernel
theorem dX11_proveState_24 : decode cX11_proveState 24 = .ok (.iload_n 3, 1) := by decide +kernel
theorem dX11_proveState_25 : decode cX11_proveState 25 = .ok (.ifCond .eq 15, 3) := by decide +kernel
theorem dX11_proveState_28 : decode cX11_proveState 28 = .ok (.aload_n 0, 1) := by decide +kernel
theorem dX11_proveState_29 : decode cX11_proveState 29 = .ok (.iload 4, 2) := by decide +kernel
theorem dX11_proveState_31 : decode cX11_proveState 31 = .ok (.invokevirtual 283, 3) := by decide +kernel
theorem dX11_proveState_34 : decode cX11_proveState 34 = .ok (.ifCond .ne 6, 3) := by decide +kernel
theorem dX11_proveState_37 : decode cX11_proveState 37 = .ok (.bipush 12, 2) := by decide +kernel
theorem dX11_proveState_39 : decode cX11_proveState 39 = .ok (.ireturn, 1) := by decide +kernel
theorem dX11_proveState_40 : decode cX11_proveState 40 = .ok (.aload_n 0, 1) := by decide +kernel
theorem dX11_proveState_41 : decode cX11_proveState 41 = .ok (.iload 4, 2) := by decide +kernel
theorem dX11_proveState_43 : decode cX11_proveState 43 = .ok (.invokevirtual 286, 3) := by decide +kernel
theorem dX11_proveState_46 : decode cX11_proveState 46 = .ok (.aload_n 0, 1) := by decide +kernel
theorem dX11_proveState_47 : decode cX11_proveState 47 = .ok (.iload_n 1, 1) := by decide +kernel
theorem dX11_proveState_48 : decode cX11_proveState 48 = .ok (.invokevirtual 289, 3) := by decide +kernel
theorem dX11_proveState_51 : decode cX11_proveState 51 = .ok (.ifCond .ne 6, 3) := by decide +kernel
theorem dX11_proveState_54 : decode cX11_proveState 54 = .ok (.bipush 12, 2) := by decide +kernel
theorem dX11_proveState_56 : decode cX11_proveState 56 = .ok (.ireturn, 1) := by decide +kernel
theorem dX11_proveState_57 : decode cX11_proveState 57 = .ok (.aload_n 0, 1) := by decide +kernel
theorem dX11_proveState_58 : decode cX11_proveState 58 = .ok (.iload_n 1, 1) := by decide +kernel
theorem dX11_proveState_59 : decode cX11_proveState 59 = .ok (.iconst 1, 1) := by decide +kernel
theorem dX11_proveState_60 : decode cX11_proveState 60 = .ok (.iadd, 1) := by decide +kernel
theorem dX11_proveState_61 : decode cX11_proveState 61 = .ok (.invokevirtual 192, 3) := by decide +kernel
theorem dX11_proveState_64 : decode cX11_proveState 64 = .ok (.istore 5, 2) := by decide +kernel
theorem dX11_proveState_66 : decode cX11_proveState 66 = .ok (.aload_n 0, 1) := by decide +kernel
theorem dX11_proveState_67 : decode cX11_proveState 67 = .ok (.iload_n 2, 1) := by decide +kernel
theorem dX11_proveState_68 : decode cX11_proveState 68 = .ok (.iload 5, 2) := by decide +kernel
theorem dX11_proveState_70 : decode cX11_proveState 70 = .ok (.invokevirtual 292, 3) := by decide +kernel
theorem dX11_proveState_73 : decode cX11_proveState 73 = .ok (.ifCond .ne 6, 3) := by decide +kernel
theorem dX11_proveState_76 : decode cX11_proveState 76 = .ok (.bipush 11, 2) := by decide +kernel
theorem dX11_proveState_78 : decode cX11_proveState 78 = .ok (.ireturn, 1) := by decide +kernel
theorem dX11_proveState_79 : decode cX11_proveState 79 = .ok (.aload_n 0, 1) := by decide +kernel
theorem dX11_proveState_80 : decode cX11_proveState 80 = .ok (.iconst 1, 1) := by decide +kernel
theorem dX11_proveState_81 : decode cX11_proveState 81 = .ok (.putfield 295, 3) := by decide +kernel
theorem dX11_proveState_84 : decode cX11_proveState 84 = .ok (.aload_n 0, 1) := by decide +kernel
theorem dX11_proveState_85 : decode cX11_proveState 85 = .ok (.iload_n 2, 1) := by decide +kernel
theorem dX11_proveState_86 : decode cX11_proveState 86 = .ok (.iload 5, 2) := by decide +kernel
theorem dX11_proveState_88 : decode cX11_proveState 88 = .ok (.invokevirtual 299, 3) := by decide +kernel
theorem dX11_proveState_91 : decode cX11_proveState 91 = .ok (.iload_n 2, 1) := by decide +kernel
theorem dX11_proveState_92 : decode cX11_proveState 92 = .ok (.invokestatic 198, 3) := by decide +kernel
theorem dX11_proveState_95 : decode cX11_proveState 95 = .ok (.ifCond .eq 44, 3) := by decide +kernel
theorem dX11_proveState_98 : decode cX11_proveState 98 = .ok (.aload_n 0, 1) := by decide +kernel
theorem dX11_proveState_99 : decode cX11_proveState 99 = .ok (.getfield 295, 3) := by decide +kernel
theorem dX11_proveState_102 : decode cX11_proveState 102 = .ok (.ifCond .eq 37, 3) := by decide +kernel
theorem dX11_proveState_105 : decode cX11_proveState 105 = .ok (.aload_n 0, 1) := by decide +kernel
theorem dX11_proveState_106 : decode cX11_proveState 106 = .ok (.aload_n 0, 1) := by decide +kernel
theorem dX11_proveState_107 : decode cX11_proveState 107 = .ok (.iload_n 1, 1) := by decide +kernel
theorem dX11_proveState_108 : decode cX11_proveState 108 = .ok (.invokevirtual 227, 3) := by decide +kernel
theorem dX11_proveState_111 : decode cX11_proveState 111 = .ok (.invokevirtual 242, 3) := by decide +kernel
theorem dX11_proveState_114 : decode cX11_proveState 114 = .ok (.istore 6, 2) := by decide +kernel
theorem dX11_proveState_116 : decode cX11_proveState 116 = .ok (.aload_n 0, 1) := by decide +kernel
theorem dX11_proveState_117 : decode cX11_proveState 117 = .ok (.iload 6, 2) := by decide +kernel
theorem dX11_proveState_119 : decode cX11_proveState 119 = .ok (.ifCond .lt 16, 3) := by decide +kernel
theorem dX11_proveState_122 : decode cX11_proveState 122 = .ok (.aload_n 0, 1) := by decide +kernel
theorem dX11_proveState_123 : decode cX11_proveState 123 = .ok (.iload 6, 2) := by decide +kernel
theorem dX11_proveState_125 : decode cX11_proveState 125 = .ok (.invokevirtual 283, 3) := by decide +kernel
theorem dX11_proveState_128 : decode cX11_proveState 128 = .ok (.ifCond .eq 7, 3) := by decide +kernel
theorem dX11_proveState_131 : decode cX11_proveState 131 = .ok (.iconst 1, 1) := by decide +kernel
theorem dX11_proveState_132 : decode cX11_proveState 132 = .ok (.goto 4, 3) := by decide +kernel
theorem dX11_proveState_135 : decode cX11_proveState 135 = .ok (.iconst 0, 1) := by decide +kernel
theorem dX11_proveState_136 : decode cX11_proveState 136 = .ok (.putfield 295, 3) := by decide +kernel
theorem dX11_proveState_139 : decode cX11_proveState 139 = .ok (.aload_n 0, 1) := by decide +kernel
theorem dX11_proveState_140 : decode cX11_proveState 140 = .ok (.getfield 295, 3) := by decide +kernel
theorem dX11_proveState_143 : decode cX11_proveState 143 = .ok (.ifCond .eq 7, 3) := by decide +kernel
theorem dX11_proveState_146 : decode cX11_proveState 146 = .ok (.iconst 0, 1) := by decide +kernel
theorem dX11_proveState_147 : decode cX11_proveState 147 = .ok (.goto 5, 3) := by decide +kernel
theorem dX11_proveState_150 : decode cX11_proveState 150 = .ok (.bipush 12, 2) := by decide +kernel
theorem dX11_proveState_152 : decode cX11_proveState 152 = .ok (.ireturn, 1) := by decide +kernel
theorem rs_RX11_273 : mx_res RX11 273 = some (1, 339, 3) := by decide +kernel
theorem rs_RX11_277 : mx_res RX11 277 = some (2, 324, 1) := by decide +kernel
theorem rs_RX11_280 : mx_res RX11 280 = some (13, 0, 0) := by decide +kernel
theorem mt_X11_proveStates : mx_mt 338 = some (yX11_proveStates, cX11_proveStates, 5, (some .int)) := rfl
theorem dX11_proveStates_0 : decode cX11_proveStates 0 = .ok (.iconst 1, 1) := by decide +kernel
theorem dX11_proveStates_1 : decode cX11_proveStates 1 = .ok (.istore_n 1, 1) := by decide +kernel
theorem dX11_proveStates_2 : decode cX11_proveStates 2 = .ok (.iconst 0, 1) := by decide +kernel
theorem dX11_proveStates_3 : decode cX11_proveStates 3 = .ok (.istore_n 2, 1) := by decide +kernel
theorem dX11_proveStates_4 : decode cX11_proveStates 4 = .ok (.iload_n 2, 1) := by decide +kernel
theorem dX11_proveStates_5 : decode cX11_proveStates 5 = .ok (.aload_n 0, 1) := by decide +kernel
theorem dX11_proveStates_6 : decode cX11_proveStates 6 = .ok (.getfield 209, 3) := by decide +kernel
theorem dX11_proveStates_9 : decode cX11_proveStates 9 = .ok (.if_icmp .ge 58, 3) := by decide +kernel
theorem dX11_proveStates_12 : decode cX11_proveStates 12 = .ok (.aload_n 0, 1) := by decide +kernel
theorem dX11_proveStates_13 : decode cX11_proveStates 13 = .ok (.iload_n 2, 1) := by decide +kernel
theorem dX11_proveStates_14 : decode cX11_proveStates 14 = .ok (.invokevirtual 192, 3) := by decide +kernel
theorem dX11_proveStates_17 : decode cX11_proveStates 17 = .ok (.istore_n 3, 1) := by decide +kernel
theorem dX11_proveStates_18 : decode cX11_proveStates 18 = .ok (.aload_n 0, 1) := by decide +kernel
theorem dX11_proveStates_19 : decode cX11_proveStates 19 = .ok (.iload_n 2, 1) := by decide +kernel
theorem dX11_proveStates_20 : decode cX11_proveStates 20 = .ok (.iload_n 3, 1) := by decide +kernel
theorem dX11_proveStates_21 : decode cX11_proveStates 21 = .ok (.iload_n 1, 1) := by decide +kernel
theorem dX11_proveStates_22 : decode cX11_proveStates 22 = .ok (.invokevirtual 273, 3) := by decide +kernel
theorem dX11_proveStates_25 : decode cX11_proveStates 25 = .ok (.istore 4, 2) := by decide +kernel
theorem dX11_proveStates_27 : decode cX11_proveStates 27 = .ok (.iload 4, 2) := by decide +kernel
theorem dX11_proveStates_29 : decode cX11_proveStates 29 = .ok (.ifCond .eq 11, 3) := by decide +kernel
theorem dX11_proveStates_32 : decode cX11_proveStates 32 = .ok (.aload_n 0, 1) := by decide +kernel
theorem dX11_proveStates_33 : decode cX11_proveStates 33 = .ok (.iload 4, 2) := by decide +kernel
theorem dX11_proveStates_35 : decode cX11_proveStates 35 = .ok (.iload_n 2, 1) := by decide +kernel
theorem dX11_proveStates_36 : decode cX11_proveStates 36 = .ok (.invokevirtual 221, 3) := by decide +kernel
theorem dX11_proveStates_39 : decode cX11_proveStates 39 = .ok (.ireturn, 1) := by decide +kernel
theorem dX11_proveStates_40 : decode cX11_proveStates 40 = .ok (.iload_n 3, 1) := by decide +kernel
theorem dX11_proveStates_41 : decode cX11_proveStates 41 = .ok (.invokestatic 277, 3) := by decide +kernel
theorem dX11_proveStates_44 : decode cX11_proveStates 44 = .ok (.ifCond .ne 7, 3) := by decide +kernel
theorem dX11_proveStates_47 : decode cX11_proveStates 47 = .ok (.iconst 1, 1) := by decide +kernel
theorem dX11_proveStates_48 : decode cX11_proveStates 48 = .ok (.goto 4, 3) := by decide +kernel
theorem dX11_proveStates_51 : decode cX11_proveStates 51 = .ok (.iconst 0, 1) := by decide +kernel
theorem dX11_proveStates_52 : decode cX11_proveStates 52 = .ok (.istore_n 1, 1) := by decide +kernel
theorem dX11_proveStates_53 : decode cX11_proveStates 53 = .ok (.iload_n 2, 1) := by decide +kernel
theorem dX11_proveStates_54 : decode cX11_proveStates 54 = .ok (.iconst 1, 1) := by decide +kernel
theorem dX11_proveStates_55 : decode cX11_proveStates 55 = .ok (.iload_n 3, 1) := by decide +kernel
theorem dX11_proveStates_56 : decode cX11_proveStates 56 = .ok (.invokestatic 218, 3) := by decide +kernel
theorem dX11_proveStates_59 : decode cX11_proveStates 59 = .ok (.invokestatic 280, 3) := by decide +kernel
theorem dX11_proveStates_62 : decode cX11_proveStates 62 = .ok (.iadd, 1) := by decide +kernel
theorem dX11_proveStates_63 : decode cX11_proveStates 63 = .ok (.istore_n 2, 1) := by decide +kernel
theorem dX11_proveStates_64 : decode cX11_proveStates 64 = .ok (.goto (-60), 3) := by decide +kernel
theorem dX11_proveStates_67 : decode cX11_proveStates 67 = .ok (.iload_n 1, 1) := by decide +kernel
theorem dX11_proveStates_68 : decode cX11_proveStates 68 = .ok (.ifCond .eq 16, 3) := by decide +kernel
theorem dX11_proveStates_71 : decode cX11_proveStates 71 = .ok (.aload_n 0, 1) := by decide +kernel
theorem dX11_proveStates_72 : decode cX11_proveStates 72 = .ok (.bipush 10, 2) := by decide +kernel
theorem dX11_proveStates_74 : decode cX11_proveStates 74 = .ok (.aload_n 0, 1) := by decide +kernel
theorem dX11_proveStates_75 : decode cX11_proveStates 75 = .ok (.getfield 209, 3) := by decide +kernel
theorem dX11_proveStates_78 : decode cX11_proveStates 78 = .ok (.invokevirtual 221, 3) := by decide +kernel
theorem dX11_proveStates_81 : decode cX11_proveStates 81 = .ok (.goto 4, 3) := by decide +kernel
theorem dX11_proveStates_84 : decode cX11_proveStates 84 = .ok (.iconst 0, 1) := by decide +kernel
theorem dX11_proveStates_85 : decode cX11_proveStates 85 = .ok (.ireturn, 1) := by decide +kernel
theorem rs_RX7_129 : mx_res RX7 129 = some (0, 3, 10) := by decide +kernel
theorem rs_RX7_132 : mx_res RX7 132 = some (1, 127, 1) := by decide +kernel
theorem mt_X7_fieldOf : mx_mt 210 = some (yX7_fieldOf, cX7_fieldOf, 8, (some .int)) := rfl
theorem dX7_fieldOf_0 : decode cX7_fieldOf 0 = .ok (.iload_n 1, 1) := by decide +kernel
theorem dX7_fieldOf_1 : decode cX7_fieldOf 1 = .ok (.istore 4, 2) := by decide +kernel
theorem dX7_fieldOf_3 : decode cX7_fieldOf 3 = .ok (.iconst 0, 1) := by decide +kernel
theorem dX7_fieldOf_4 : decode cX7_fieldOf 4 = .ok (.istore 5, 2) := by decide +kernel
theorem dX7_fieldOf_6 : decode cX7_fieldOf 6 = .ok (.iload 5, 2) := by decide +kernel
theorem dX7_fieldOf_8 : decode cX7_fieldOf 8 = .ok (.bipush 16, 2) := by decide +kernel
theorem dX7_fieldOf_10 : decode cX7_fieldOf 10 = .ok (.if_icmp .ge 80, 3) := by decide +kernel
theorem dX7_fieldOf_13 : decode cX7_fieldOf 13 = .ok (.aload_n 0, 1) := by decide +kernel
theorem dX7_fieldOf_14 : decode cX7_fieldOf 14 = .ok (.iload 4, 2) := by decide +kernel
theorem dX7_fieldOf_16 : decode cX7_fieldOf 16 = .ok (.invokevirtual 90, 3) := by decide +kernel
theorem dX7_fieldOf_19 : decode cX7_fieldOf 19 = .ok (.astore 6, 2) := by decide +kernel
theorem dX7_fieldOf_21 : decode cX7_fieldOf 21 = .ok (.aload 6, 2) := by decide +kernel
theorem dX7_fieldOf_23 : decode cX7_fieldOf 23 = .ok (.ifnonnull 5, 3) := by decide +kernel
theorem dX7_fieldOf_26 : decode cX7_fieldOf 26 = .ok (.iconst (-1), 1) := by decide +kernel
theorem dX7_fieldOf_27 : decode cX7_fieldOf 27 = .ok (.ireturn, 1) := by decide +kernel
theorem dX7_fieldOf_28 : decode cX7_fieldOf 28 = .ok (.iconst 0, 1) := by decide +kernel
theorem dX7_fieldOf_29 : decode cX7_fieldOf 29 = .ok (.istore 7, 2) := by decide +kernel
theorem dX7_fieldOf_31 : decode cX7_fieldOf 31 = .ok (.iload 7, 2) := by decide +kernel
theorem dX7_fieldOf_33 : decode cX7_fieldOf 33 = .ok (.aload 6, 2) := by decide +kernel
theorem dX7_fieldOf_35 : decode cX7_fieldOf 35 = .ok (.getfield 129, 3) := by decide +kernel
theorem dX7_fieldOf_38 : decode cX7_fieldOf 38 = .ok (.if_icmp .ge 35, 3) := by decide +kernel
theorem dX7_fieldOf_41 : decode cX7_fieldOf 41 = .ok (.aload 6, 2) := by decide +kernel
theorem dX7_fieldOf_43 : decode cX7_fieldOf 43 = .ok (.aload 6, 2) := by decide +kernel
theorem dX7_fieldOf_45 : decode cX7_fieldOf 45 = .ok (.iload 7, 2) := by decide +kernel
theorem dX7_fieldOf_47 : decode cX7_fieldOf 47 = .ok (.invokevirtual 132, 3) := by decide +kernel
theorem dX7_fieldOf_50 : decode cX7_fieldOf 50 = .ok (.aload_n 2, 1) := by decide +kernel
theorem dX7_fieldOf_51 : decode cX7_fieldOf 51 = .ok (.iload_n 3, 1) := by decide +kernel
theorem dX7_fieldOf_52 : decode cX7_fieldOf 52 = .ok (.invokevirtual 109, 3) := by decide +kernel
theorem dX7_fieldOf_55 : decode cX7_fieldOf 55 = .ok (.ifCond .eq 12, 3) := by decide +kernel
theorem dX7_fieldOf_58 : decode cX7_fieldOf 58 = .ok (.aload_n 0, 1) := by decide +kernel
theorem dX7_fieldOf_59 : decode cX7_fieldOf 59 = .ok (.iload 4, 2) := by decide +kernel
theorem dX7_fieldOf_61 : decode cX7_fieldOf 61 = .ok (.iload 7, 2) := by decide +kernel
theorem dX7_fieldOf_63 : decode cX7_fieldOf 63 = .ok (.invokevirtual 135, 3) := by decide +kernel
theorem dX7_fieldOf_66 : decode cX7_fieldOf 66 = .ok (.ireturn, 1) := by decide +kernel
theorem dX7_fieldOf_67 : decode cX7_fieldOf 67 = .ok (.iinc 7 1, 3) := by decide +kernel
theorem dX7_fieldOf_70 : decode cX7_fieldOf 70 = .ok (.goto (-39), 3) := by decide +kernel
theorem dX7_fieldOf_73 : decode cX7_fieldOf 73 = .ok (.aload_n 0, 1) := by decide +kernel
theorem dX7_fieldOf_74 : decode cX7_fieldOf 74 = .ok (.getfield 16, 3) := by decide +kernel
theorem dX7_fieldOf_77 : decode cX7_fieldOf 77 = .ok (.iload 4, 2) := by decide +kernel
theorem dX7_fieldOf_79 : decode cX7_fieldOf 79 = .ok (.invokevirtual 138, 3) := by decide +kernel
theorem dX7_fieldOf_82 : decode cX7_fieldOf 82 = .ok (.istore 4, 2) := by decide +kernel
theorem dX7_fieldOf_84 : decode cX7_fieldOf 84 = .ok (.iinc 5 1, 3) := by decide +kernel
theorem dX7_fieldOf_87 : decode cX7_fieldOf 87 = .ok (.goto (-81), 3) := by decide +kernel
theorem dX7_fieldOf_90 : decode cX7_fieldOf 90 = .ok (.iconst (-1), 1) := by decide +kernel
theorem dX7_fieldOf_91 : decode cX7_fieldOf 91 = .ok (.ireturn, 1) := by decide +kernel
theorem rs_RX11_186 : mx_res RX11 186 = some (1, 210, 3) := by decide +kernel
theorem mt_X11_takeMember : mx_mt 316 = some (yX11_takeMember, cX11_takeMember, 8, none) := rfl
theorem dX11_takeMember_0 : decode cX11_takeMember 0 = .ok (.aload_n 0, 1) := by decide +kernel
theorem dX11_takeMember_1 : decode cX11_takeMember 1 = .ok (.getfield 23, 3) := by decide +kernel
theorem dX11_takeMember_4 : decode cX11_takeMember 4 = .ok (.aload_n 0, 1) := by decide +kernel
theorem dX11_takeMember_5 : decode cX11_takeMember 5 = .ok (.getfield 62, 3) := by decide +kernel
theorem dX11_takeMember_8 : decode cX11_takeMember 8 = .ok (.iload_n 1, 1) := by decide +kernel
theorem dX11_takeMember_9 : decode cX11_takeMember 9 = .ok (.iconst 0, 1) := by decide +kernel
theorem dX11_takeMember_10 : decode cX11_takeMember 10 = .ok (.invokevirtual 177, 3) := by decide +kernel
theorem dX11_takeMember_13 : decode cX11_takeMember 13 = .ok (.iaload, 1) := by decide +kernel
theorem dX11_takeMember_14 : decode cX11_takeMember 14 = .ok (.istore_n 2, 1) := by decide +kernel
theorem dX11_takeMember_15 : decode cX11_takeMember 15 = .ok (.aload_n 0, 1) := by decide +kernel
theorem dX11_takeMember_16 : decode cX11_takeMember 16 = .ok (.getfield 62, 3) := by decide +kernel
theorem dX11_takeMember_19 : decode cX11_takeMember 19 = .ok (.iload_n 1, 1) := by decide +kernel
theorem dX11_takeMember_20 : decode cX11_takeMember 20 = .ok (.iconst 2, 1) := by decide +kernel
theorem dX11_takeMember_21 : decode cX11_takeMember 21 = .ok (.invokevirtual 177, 3) := by decide +kernel
theorem dX11_takeMember_24 : decode cX11_takeMember 24 = .ok (.istore_n 3, 1) := by decide +kernel
theorem dX11_takeMember_25 : decode cX11_takeMember 25 = .ok (.aload_n 0, 1) := by decide +kernel
theorem dX11_takeMember_26 : decode cX11_takeMember 26 = .ok (.getfield 62, 3) := by decide +kernel
theorem dX11_takeMember_29 : decode cX11_takeMember 29 = .ok (.aload_n 0, 1) := by decide +kernel
theorem dX11_takeMember_30 : decode cX11_takeMember 30 = .ok (.getfield 62, 3) := by decide +kernel
theorem dX11_takeMember_33 : decode cX11_takeMember 33 = .ok (.iload_n 3, 1) := by decide +kernel
theorem dX11_takeMember_34 : decode cX11_takeMember 34 = .ok (.invokevirtual 180, 3) := by decide +kernel
theorem dX11_takeMember_37 : decode cX11_takeMember 37 = .ok (.invokevirtual 183, 3) := by decide +kernel
theorem dX11_takeMember_40 : decode cX11_takeMember 40 = .ok (.bipush 40, 2) := by decide +kernel
theorem dX11_takeMember_42 : decode cX11_takeMember 42 = .ok (.if_icmp .ne 7, 3) := by decide +kernel
theorem dX11_takeMember_45 : decode cX11_takeMember 45 = .ok (.iconst 1, 1) := by decide +kernel
theorem dX11_takeMember_46 : decode cX11_takeMember 46 = .ok (.goto 4, 3) := by decide +kernel
theorem dX11_takeMember_49 : decode cX11_takeMember 49 = .ok (.iconst 0, 1) := by decide +kernel
theorem dX11_takeMember_50 : decode cX11_takeMember 50 = .ok (.istore 4, 2) := by decide +kernel
theorem dX11_takeMember_52 : decode cX11_takeMember 52 = .ok (.iload 4, 2) := by decide +kernel
theorem dX11_takeMember_54 : decode cX11_takeMember 54 = .ok (.ifCond .eq 27, 3) := by decide +kernel
theorem dX11_takeMember_57 : decode cX11_takeMember 57 = .ok (.aload_n 0, 1) := by decide +kernel
theorem dX11_takeMember_58 : decode cX11_takeMember 58 = .ok (.getfield 50, 3) := by decide +kernel
theorem dX11_takeMember_61 : decode cX11_takeMember 61 = .ok (.iload_n 2, 1) := by decide +kernel
theorem dX11_takeMember_62 : decode cX11_takeMember 62 = .ok (.aload_n 0, 1) := by decide +kernel
theorem dX11_takeMember_63 : decode cX11_takeMember 63 = .ok (.getfield 62, 3) := by decide +kernel
theorem dX11_takeMember_66 : decode cX11_takeMember 66 = .ok (.aload_n 0, 1) := by decide +kernel
theorem dX11_takeMember_67 : decode cX11_takeMember 67 = .ok (.getfield 62, 3) := by decide +kernel
theorem dX11_takeMember_70 : decode cX11_takeMember 70 = .ok (.iload_n 1, 1) := by decide +kernel
theorem dX11_takeMember_71 : decode cX11_takeMember 71 = .ok (.iconst 1, 1) := by decide +kernel
theorem dX11_takeMember_72 : decode cX11_takeMember 72 = .ok (.invokevirtual 177, 3) := by decide +kernel
theorem dX11_takeMember_75 : decode cX11_takeMember 75 = .ok (.invokevirtual 157, 3) := by decide +kernel
theorem dX11_takeMember_78 : decode cX11_takeMember 78 = .ok (.goto 24, 3) := by decide +kernel
theorem dX11_takeMember_81 : decode cX11_takeMember 81 = .ok (.aload_n 0, 1) := by decide +kernel
theorem dX11_takeMember_82 : decode cX11_takeMember 82 = .ok (.getfield 50, 3) := by decide +kernel
theorem dX11_takeMember_85 : decode cX11_takeMember 85 = .ok (.iload_n 2, 1) := by decide +kernel
theorem dX11_takeMember_86 : decode cX11_takeMember 86 = .ok (.aload_n 0, 1) := by decide +kernel
theorem dX11_takeMember_87 : decode cX11_takeMember 87 = .ok (.getfield 62, 3) := by decide +kernel
theorem dX11_takeMember_90 : decode cX11_takeMember 90 = .ok (.aload_n 0, 1) := by decide +kernel
theorem dX11_takeMember_91 : decode cX11_takeMember 91 = .ok (.getfield 62, 3) := by decide +kernel
theorem dX11_takeMember_94 : decode cX11_takeMember 94 = .ok (.iload_n 1, 1) := by decide +kernel
theorem dX11_takeMember_95 : decode cX11_takeMember 95 = .ok (.iconst 1, 1) := by decide +kernel
theorem dX11_takeMember_96 : decode cX11_takeMember 96 = .ok (.invokevirtual 177, 3) := by decide +kernel
theorem dX11_takeMember_99 : decode cX11_takeMember 99 = .ok (.invokevirtual 186, 3) := by decide +kernel
theorem dX11_takeMember_102 : decode cX11_takeMember 102 = .ok (.istore 5, 2) := by decide +kernel
theorem dX11_takeMember_104 : decode cX11_takeMember 104 = .ok (.aload_n 0, 1) := by decide +kernel
theorem dX11_takeMember_105 : decode cX11_takeMember 105 = .ok (.getfield 50, 3) := by decide +kernel
theorem dX11_takeMember_108 : decode cX11_takeMember 108 = .ok (.iload 5, 2) := by decide +kernel
theorem dX11_takeMember_110 : decode cX11_takeMember 110 = .ok (.invokevirtual 161, 3) := by decide +kernel
theorem dX11_takeMember_113 : decode cX11_takeMember 113 = .ok (.astore 6, 2) := by decide +kernel
theorem dX11_takeMember_115 : decode cX11_takeMember 115 = .ok (.aload 6, 2) := by decide +kernel
theorem dX11_takeMember_117 : decode cX11_takeMember 117 = .ok (.ifnonnull 4, 3) := by decide +kernel
theorem dX11_takeMember_120 : decode cX11_takeMember 120 = .ok (.return_, 1) := by decide +kernel
theorem dX11_takeMember_121 : decode cX11_takeMember 121 = .ok (.iload 5, 2) := by decide +kernel
theorem dX11_takeMember_123 : decode cX11_takeMember 123 = .ok (.bipush 12, 2) := by decide +kernel
theorem dX11_takeMember_125 : decode cX11_takeMember 125 = .ok (.irem, 1) := by decide +kernel
theorem dX11_takeMember_126 : decode cX11_takeMember 126 = .ok (.istore 7, 2) := by decide +kernel
theorem dX11_takeMember_128 : decode cX11_takeMember 128 = .ok (.aload 6, 2) := by decide +kernel
theorem dX11_takeMember_130 : decode cX11_takeMember 130 = .ok (.iload 4, 2) := by decide +kernel
theorem dX11_takeMember_132 : decode cX11_takeMember 132 = .ok (.ifCond .eq 14, 3) := by decide +kernel
theorem dX11_takeMember_135 : decode cX11_takeMember 135 = .ok (.aload 6, 2) := by decide +kernel
theorem dX11_takeMember_137 : decode cX11_takeMember 137 = .ok (.iload 7, 2) := by decide +kernel
theorem dX11_takeMember_139 : decode cX11_takeMember 139 = .ok (.iconst 2, 1) := by decide +kernel
theorem dX11_takeMember_140 : decode cX11_takeMember 140 = .ok (.invokevirtual 146, 3) := by decide +kernel
theorem dX11_takeMember_143 : decode cX11_takeMember 143 = .ok (.goto 10, 3) := by decide +kernel
theorem dX11_takeMember_146 : decode cX11_takeMember 146 = .ok (.aload 6, 2) := by decide +kernel
theorem dX11_takeMember_148 : decode cX11_takeMember 148 = .ok (.iload 7, 2) := by decide +kernel
theorem dX11_takeMember_150 : decode cX11_takeMember 150 = .ok (.invokevirtual 139, 3) := by decide +kernel
theorem dX11_takeMember_153 : decode cX11_takeMember 153 = .ok (.aload_n 0, 1) := by decide +kernel
theorem dX11_takeMember_154 : decode cX11_takeMember 154 = .ok (.getfield 62, 3) := by decide +kernel
theorem dX11_takeMember_157 : decode cX11_takeMember 157 = .ok (.iload_n 3, 1) := by decide +kernel
theorem dX11_takeMember_158 : decode cX11_takeMember 158 = .ok (.invokevirtual 153, 3) := by decide +kernel
theorem dX11_takeMember_161 : decode cX11_takeMember 161 = .ok (.ifCond .eq 37, 3) := by decide +kernel
theorem dX11_takeMember_164 : decode cX11_takeMember 164 = .ok (.aload_n 0, 1) := by decide +kernel
theorem dX11_takeMember_165 : decode cX11_takeMember 165 = .ok (.getfield 27, 3) := by decide +kernel
theorem dX11_takeMember_168 : decode cX11_takeMember 168 = .ok (.iload_n 1, 1) := by decide +kernel
theorem dX11_takeMember_169 : decode cX11_takeMember 169 = .ok (.iload 5, 2) := by decide +kernel
theorem dX11_takeMember_171 : decode cX11_takeMember 171 = .ok (.iastore, 1) := by decide +kernel
theorem dX11_takeMember_172 : decode cX11_takeMember 172 = .ok (.aload_n 0, 1) := by decide +kernel
theorem dX11_takeMember_173 : decode cX11_takeMember 173 = .ok (.getfield 30, 3) := by decide +kernel
theorem dX11_takeMember_176 : decode cX11_takeMember 176 = .ok (.iload_n 1, 1) := by decide +kernel
theorem dX11_takeMember_177 : decode cX11_takeMember 177 = .ok (.aload_n 0, 1) := by decide +kernel
theorem dX11_takeMember_178 : decode cX11_takeMember 178 = .ok (.getfield 50, 3) := by decide +kernel
theorem dX11_takeMember_181 : decode cX11_takeMember 181 = .ok (.aload_n 0, 1) := by decide +kernel
theorem dX11_takeMember_182 : decode cX11_takeMember 182 = .ok (.getfield 62, 3) := by decide +kernel
theorem dX11_takeMember_185 : decode cX11_takeMember 185 = .ok (.iload_n 3, 1) := by decide +kernel
theorem dX11_takeMember_186 : decode cX11_takeMember 186 = .ok (.aload_n 0, 1) := by decide +kernel
theorem dX11_takeMember_187 : decode cX11_takeMember 187 = .ok (.getfield 33, 3) := by decide +kernel
theorem dX11_takeMember_190 : decode cX11_takeMember 190 = .ok (.iload_n 1, 1) := by decide +kernel
theorem dX11_takeMember_191 : decode cX11_takeMember 191 = .ok (.bipush 7, 2) := by decide +kernel
theorem dX11_takeMember_193 : decode cX11_takeMember 193 = .ok (.imul, 1) := by decide +kernel
theorem dX11_takeMember_194 : decode cX11_takeMember 194 = .ok (.invokevirtual 142, 3) := by decide +kernel
theorem dX11_takeMember_197 : decode cX11_takeMember 197 = .ok (.iastore, 1) := by decide +kernel
theorem dX11_takeMember_198 : decode cX11_takeMember 198 = .ok (.return_, 1) := by decide +kernel
