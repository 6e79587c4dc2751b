theorem rs_RX9_107 : mx_res RX9 107 = some (1, 260, 3) := by decide +kernel
theorem rs_RX9_113 : mx_res RX9 113 = some (1, 263, 3) := by decide +kernel
theorem rs_RX9_116 : mx_res RX9 116 = some (2, 264, 2) := by decide +kernel
theorem rs_RX9_120 : mx_res RX9 120 = some (2, 266, 1) := by decide +kernel
theorem mt_X9_scanToken : mx_mt 255 = some (yX9_scanToken, cX9_scanToken, 8, (some .int)) := rfl
theorem dX9_scanToken_0 : decode cX9_scanToken 0 = .ok (.aload_n 1, 1) := by decide +kernel
theorem dX9_scanToken_1 : decode cX9_scanToken 1 = .ok (.iload_n 3, 1) := by decide +kernel
theorem dX9_scanToken_2 : decode cX9_scanToken 2 = .ok (.baload, 1) := by decide +kernel
theorem dX9_scanToken_3 : decode cX9_scanToken 3 = .ok (.istore 4, 2) := by decide +kernel
theorem dX9_scanToken_5 : decode cX9_scanToken 5 = .ok (.iload 4, 2) := by decide +kernel
theorem dX9_scanToken_7 : decode cX9_scanToken 7 = .ok (.invokestatic 103, 3) := by decide +kernel
theorem dX9_scanToken_10 : decode cX9_scanToken 10 = .ok (.ifCond .eq 11, 3) := by decide +kernel
theorem dX9_scanToken_13 : decode cX9_scanToken 13 = .ok (.aload_n 0, 1) := by decide +kernel
theorem dX9_scanToken_14 : decode cX9_scanToken 14 = .ok (.aload_n 1, 1) := by decide +kernel
theorem dX9_scanToken_15 : decode cX9_scanToken 15 = .ok (.iload_n 2, 1) := by decide +kernel
theorem dX9_scanToken_16 : decode cX9_scanToken 16 = .ok (.iload_n 3, 1) := by decide +kernel
theorem dX9_scanToken_17 : decode cX9_scanToken 17 = .ok (.invokevirtual 107, 3) := by decide +kernel
theorem dX9_scanToken_20 : decode cX9_scanToken 20 = .ok (.ireturn, 1) := by decide +kernel
theorem dX9_scanToken_21 : decode cX9_scanToken 21 = .ok (.iload 4, 2) := by decide +kernel
theorem dX9_scanToken_23 : decode cX9_scanToken 23 = .ok (.invokestatic 110, 3) := by decide +kernel
theorem dX9_scanToken_26 : decode cX9_scanToken 26 = .ok (.ifCond .eq 11, 3) := by decide +kernel
theorem dX9_scanToken_29 : decode cX9_scanToken 29 = .ok (.aload_n 0, 1) := by decide +kernel
theorem dX9_scanToken_30 : decode cX9_scanToken 30 = .ok (.aload_n 1, 1) := by decide +kernel
theorem dX9_scanToken_31 : decode cX9_scanToken 31 = .ok (.iload_n 2, 1) := by decide +kernel
theorem dX9_scanToken_32 : decode cX9_scanToken 32 = .ok (.iload_n 3, 1) := by decide +kernel
theorem dX9_scanToken_33 : decode cX9_scanToken 33 = .ok (.invokevirtual 113, 3) := by decide +kernel
theorem dX9_scanToken_36 : decode cX9_scanToken 36 = .ok (.ireturn, 1) := by decide +kernel
theorem dX9_scanToken_37 : decode cX9_scanToken 37 = .ok (.iload_n 3, 1) := by decide +kernel
theorem dX9_scanToken_38 : decode cX9_scanToken 38 = .ok (.iconst 1, 1) := by decide +kernel
theorem dX9_scanToken_39 : decode cX9_scanToken 39 = .ok (.iadd, 1) := by decide +kernel
theorem dX9_scanToken_40 : decode cX9_scanToken 40 = .ok (.iload_n 2, 1) := by decide +kernel
theorem dX9_scanToken_41 : decode cX9_scanToken 41 = .ok (.if_icmp .ge 11, 3) := by decide +kernel
theorem dX9_scanToken_44 : decode cX9_scanToken 44 = .ok (.aload_n 1, 1) := by decide +kernel
theorem dX9_scanToken_45 : decode cX9_scanToken 45 = .ok (.iload_n 3, 1) := by decide +kernel
theorem dX9_scanToken_46 : decode cX9_scanToken 46 = .ok (.iconst 1, 1) := by decide +kernel
theorem dX9_scanToken_47 : decode cX9_scanToken 47 = .ok (.iadd, 1) := by decide +kernel
theorem dX9_scanToken_48 : decode cX9_scanToken 48 = .ok (.baload, 1) := by decide +kernel
theorem dX9_scanToken_49 : decode cX9_scanToken 49 = .ok (.goto 4, 3) := by decide +kernel
theorem dX9_scanToken_52 : decode cX9_scanToken 52 = .ok (.iconst 0, 1) := by decide +kernel
theorem dX9_scanToken_53 : decode cX9_scanToken 53 = .ok (.istore 5, 2) := by decide +kernel
theorem dX9_scanToken_55 : decode cX9_scanToken 55 = .ok (.iload 5, 2) := by decide +kernel
theorem dX9_scanToken_57 : decode cX9_scanToken 57 = .ok (.bipush 62, 2) := by decide +kernel
theorem dX9_scanToken_59 : decode cX9_scanToken 59 = .ok (.if_icmp .ne 24, 3) := by decide +kernel
theorem dX9_scanToken_62 : decode cX9_scanToken 62 = .ok (.iload_n 3, 1) := by decide +kernel
theorem dX9_scanToken_63 : decode cX9_scanToken 63 = .ok (.iconst 2, 1) := by decide +kernel
theorem dX9_scanToken_64 : decode cX9_scanToken 64 = .ok (.iadd, 1) := by decide +kernel
theorem dX9_scanToken_65 : decode cX9_scanToken 65 = .ok (.iload_n 2, 1) := by decide +kernel
theorem dX9_scanToken_66 : decode cX9_scanToken 66 = .ok (.if_icmp .ge 17, 3) := by decide +kernel
theorem dX9_scanToken_69 : decode cX9_scanToken 69 = .ok (.aload_n 1, 1) := by decide +kernel
theorem dX9_scanToken_70 : decode cX9_scanToken 70 = .ok (.iload_n 3, 1) := by decide +kernel
theorem dX9_scanToken_71 : decode cX9_scanToken 71 = .ok (.iconst 2, 1) := by decide +kernel
theorem dX9_scanToken_72 : decode cX9_scanToken 72 = .ok (.iadd, 1) := by decide +kernel
theorem dX9_scanToken_73 : decode cX9_scanToken 73 = .ok (.baload, 1) := by decide +kernel
theorem dX9_scanToken_74 : decode cX9_scanToken 74 = .ok (.bipush 62, 2) := by decide +kernel
theorem dX9_scanToken_76 : decode cX9_scanToken 76 = .ok (.if_icmp .ne 7, 3) := by decide +kernel
theorem dX9_scanToken_79 : decode cX9_scanToken 79 = .ok (.iconst 1, 1) := by decide +kernel
theorem dX9_scanToken_80 : decode cX9_scanToken 80 = .ok (.goto 4, 3) := by decide +kernel
theorem dX9_scanToken_83 : decode cX9_scanToken 83 = .ok (.iconst 0, 1) := by decide +kernel
theorem dX9_scanToken_84 : decode cX9_scanToken 84 = .ok (.istore 6, 2) := by decide +kernel
theorem dX9_scanToken_86 : decode cX9_scanToken 86 = .ok (.iload 4, 2) := by decide +kernel
theorem dX9_scanToken_88 : decode cX9_scanToken 88 = .ok (.bipush 62, 2) := by decide +kernel
theorem dX9_scanToken_90 : decode cX9_scanToken 90 = .ok (.if_icmp .ne 13, 3) := by decide +kernel
theorem dX9_scanToken_93 : decode cX9_scanToken 93 = .ok (.iload 6, 2) := by decide +kernel
theorem dX9_scanToken_95 : decode cX9_scanToken 95 = .ok (.ifCond .eq 8, 3) := by decide +kernel
theorem dX9_scanToken_98 : decode cX9_scanToken 98 = .ok (.bipush 60, 2) := by decide +kernel
theorem dX9_scanToken_100 : decode cX9_scanToken 100 = .ok (.goto 10, 3) := by decide +kernel
theorem dX9_scanToken_103 : decode cX9_scanToken 103 = .ok (.iload 4, 2) := by decide +kernel
theorem dX9_scanToken_105 : decode cX9_scanToken 105 = .ok (.iload 5, 2) := by decide +kernel
theorem dX9_scanToken_107 : decode cX9_scanToken 107 = .ok (.invokestatic 116, 3) := by decide +kernel
theorem dX9_scanToken_110 : decode cX9_scanToken 110 = .ok (.istore 7, 2) := by decide +kernel
theorem dX9_scanToken_112 : decode cX9_scanToken 112 = .ok (.iload 7, 2) := by decide +kernel
theorem dX9_scanToken_114 : decode cX9_scanToken 114 = .ok (.ifCond .eq 11, 3) := by decide +kernel
theorem dX9_scanToken_117 : decode cX9_scanToken 117 = .ok (.aload_n 0, 1) := by decide +kernel
theorem dX9_scanToken_118 : decode cX9_scanToken 118 = .ok (.iload 7, 2) := by decide +kernel
theorem dX9_scanToken_120 : decode cX9_scanToken 120 = .ok (.iload_n 3, 1) := by decide +kernel
theorem dX9_scanToken_121 : decode cX9_scanToken 121 = .ok (.iconst 0, 1) := by decide +kernel
theorem dX9_scanToken_122 : decode cX9_scanToken 122 = .ok (.invokevirtual 99, 3) := by decide +kernel
theorem dX9_scanToken_125 : decode cX9_scanToken 125 = .ok (.iload 7, 2) := by decide +kernel
theorem dX9_scanToken_127 : decode cX9_scanToken 127 = .ok (.invokestatic 120, 3) := by decide +kernel
theorem dX9_scanToken_130 : decode cX9_scanToken 130 = .ok (.ireturn, 1) := by decide +kernel
theorem rs_RX9_38 : mx_res RX9 38 = some (0, 9, 8) := by decide +kernel
theorem rs_RX9_93 : mx_res RX9 93 = some (2, 254, 3) := by decide +kernel
theorem rs_RX9_96 : mx_res RX9 96 = some (1, 255, 3) := by decide +kernel
theorem mt_X9_scan : mx_mt 252 = some (yX9_scan, cX9_scan, 6, none) := rfl
theorem dX9_scan_0 : decode cX9_scan 0 = .ok (.aload_n 0, 1) := by decide +kernel
theorem dX9_scan_1 : decode cX9_scan 1 = .ok (.bipush 32, 2) := by decide +kernel
theorem dX9_scan_3 : decode cX9_scan 3 = .ok (.putfield 73, 3) := by decide +kernel
theorem dX9_scan_6 : decode cX9_scan 6 = .ok (.aload_n 0, 1) := by decide +kernel
theorem dX9_scan_7 : decode cX9_scan 7 = .ok (.getfield 38, 3) := by decide +kernel
theorem dX9_scan_10 : decode cX9_scan 10 = .ok (.iconst 0, 1) := by decide +kernel
theorem dX9_scan_11 : decode cX9_scan 11 = .ok (.aload_n 0, 1) := by decide +kernel
theorem dX9_scan_12 : decode cX9_scan 12 = .ok (.getfield 35, 3) := by decide +kernel
theorem dX9_scan_15 : decode cX9_scan 15 = .ok (.iconst 0, 1) := by decide +kernel
theorem dX9_scan_16 : decode cX9_scan 16 = .ok (.bipush 64, 2) := by decide +kernel
theorem dX9_scan_18 : decode cX9_scan 18 = .ok (.invokestatic 67, 3) := by decide +kernel
theorem dX9_scan_21 : decode cX9_scan 21 = .ok (.aload_n 0, 1) := by decide +kernel
theorem dX9_scan_22 : decode cX9_scan 22 = .ok (.iconst 0, 1) := by decide +kernel
theorem dX9_scan_23 : decode cX9_scan 23 = .ok (.putfield 83, 3) := by decide +kernel
theorem dX9_scan_26 : decode cX9_scan 26 = .ok (.aload_n 0, 1) := by decide +kernel
theorem dX9_scan_27 : decode cX9_scan 27 = .ok (.iconst 0, 1) := by decide +kernel
theorem dX9_scan_28 : decode cX9_scan 28 = .ok (.putfield 86, 3) := by decide +kernel
theorem dX9_scan_31 : decode cX9_scan 31 = .ok (.aload_n 0, 1) := by decide +kernel
theorem dX9_scan_32 : decode cX9_scan 32 = .ok (.iconst 0, 1) := by decide +kernel
theorem dX9_scan_33 : decode cX9_scan 33 = .ok (.putfield 80, 3) := by decide +kernel
theorem dX9_scan_36 : decode cX9_scan 36 = .ok (.aload_n 0, 1) := by decide +kernel
theorem dX9_scan_37 : decode cX9_scan 37 = .ok (.iconst (-1), 1) := by decide +kernel
theorem dX9_scan_38 : decode cX9_scan 38 = .ok (.putfield 41, 3) := by decide +kernel
theorem dX9_scan_41 : decode cX9_scan 41 = .ok (.aload_n 1, 1) := by decide +kernel
theorem dX9_scan_42 : decode cX9_scan 42 = .ok (.iload_n 2, 1) := by decide +kernel
theorem dX9_scan_43 : decode cX9_scan 43 = .ok (.iconst 0, 1) := by decide +kernel
theorem dX9_scan_44 : decode cX9_scan 44 = .ok (.invokestatic 93, 3) := by decide +kernel
theorem dX9_scan_47 : decode cX9_scan 47 = .ok (.istore_n 3, 1) := by decide +kernel
theorem dX9_scan_48 : decode cX9_scan 48 = .ok (.iconst 0, 1) := by decide +kernel
theorem dX9_scan_49 : decode cX9_scan 49 = .ok (.istore 4, 2) := by decide +kernel
theorem dX9_scan_51 : decode cX9_scan 51 = .ok (.iload 4, 2) := by decide +kernel
theorem dX9_scan_53 : decode cX9_scan 53 = .ok (.sipush 3000, 3) := by decide +kernel
theorem dX9_scan_56 : decode cX9_scan 56 = .ok (.if_icmp .ge 46, 3) := by decide +kernel
theorem dX9_scan_59 : decode cX9_scan 59 = .ok (.iload_n 3, 1) := by decide +kernel
theorem dX9_scan_60 : decode cX9_scan 60 = .ok (.iload_n 2, 1) := by decide +kernel
theorem dX9_scan_61 : decode cX9_scan 61 = .ok (.if_icmp .ge 41, 3) := by decide +kernel
theorem dX9_scan_64 : decode cX9_scan 64 = .ok (.aload_n 0, 1) := by decide +kernel
theorem dX9_scan_65 : decode cX9_scan 65 = .ok (.aload_n 1, 1) := by decide +kernel
theorem dX9_scan_66 : decode cX9_scan 66 = .ok (.iload_n 2, 1) := by decide +kernel
theorem dX9_scan_67 : decode cX9_scan 67 = .ok (.iload_n 3, 1) := by decide +kernel
theorem dX9_scan_68 : decode cX9_scan 68 = .ok (.invokevirtual 96, 3) := by decide +kernel
theorem dX9_scan_71 : decode cX9_scan 71 = .ok (.istore 5, 2) := by decide +kernel
theorem dX9_scan_73 : decode cX9_scan 73 = .ok (.iload 5, 2) := by decide +kernel
theorem dX9_scan_75 : decode cX9_scan 75 = .ok (.ifCond .ne 11, 3) := by decide +kernel
theorem dX9_scan_78 : decode cX9_scan 78 = .ok (.aload_n 0, 1) := by decide +kernel
theorem dX9_scan_79 : decode cX9_scan 79 = .ok (.iconst 1, 1) := by decide +kernel
theorem dX9_scan_80 : decode cX9_scan 80 = .ok (.iload_n 3, 1) := by decide +kernel
theorem dX9_scan_81 : decode cX9_scan 81 = .ok (.iconst 0, 1) := by decide +kernel
theorem dX9_scan_82 : decode cX9_scan 82 = .ok (.invokevirtual 99, 3) := by decide +kernel
theorem dX9_scan_85 : decode cX9_scan 85 = .ok (.return_, 1) := by decide +kernel
theorem dX9_scan_86 : decode cX9_scan 86 = .ok (.aload_n 1, 1) := by decide +kernel
theorem dX9_scan_87 : decode cX9_scan 87 = .ok (.iload_n 2, 1) := by decide +kernel
theorem dX9_scan_88 : decode cX9_scan 88 = .ok (.iload_n 3, 1) := by decide +kernel
theorem dX9_scan_89 : decode cX9_scan 89 = .ok (.iload 5, 2) := by decide +kernel
theorem dX9_scan_91 : decode cX9_scan 91 = .ok (.iadd, 1) := by decide +kernel
theorem dX9_scan_92 : decode cX9_scan 92 = .ok (.invokestatic 93, 3) := by decide +kernel
theorem dX9_scan_95 : decode cX9_scan 95 = .ok (.istore_n 3, 1) := by decide +kernel
theorem dX9_scan_96 : decode cX9_scan 96 = .ok (.iinc 4 1, 3) := by decide +kernel
theorem dX9_scan_99 : decode cX9_scan 99 = .ok (.goto (-48), 3) := by decide +kernel
theorem dX9_scan_102 : decode cX9_scan 102 = .ok (.aload_n 0, 1) := by decide +kernel
theorem dX9_scan_103 : decode cX9_scan 103 = .ok (.iconst 0, 1) := by decide +kernel
theorem dX9_scan_104 : decode cX9_scan 104 = .ok (.iload_n 2, 1) := by decide +kernel
theorem dX9_scan_105 : decode cX9_scan 105 = .ok (.iconst 0, 1) := by decide +kernel
theorem dX9_scan_106 : decode cX9_scan 106 = .ok (.invokevirtual 99, 3) := by decide +kernel
theorem dX9_scan_109 : decode cX9_scan 109 = .ok (.return_, 1) := by decide +kernel
theorem rs_RX12_9 : mx_res RX12 9 = some (0, 12, 0) := by decide +kernel
theorem rs_RX12_16 : mx_res RX12 16 = some (0, 12, 2) := by decide +kernel
theorem rs_RX12_34 : mx_res RX12 34 = some (0, 12, 3) := by decide +kernel
theorem rs_RX12_73 : mx_res RX12 73 = some (0, 12, 1) := by decide +kernel
theorem rs_RX12_81 : mx_res RX12 81 = some (1, 244, 2) := by decide +kernel
theorem rs_RX12_85 : mx_res RX12 85 = some (1, 252, 2) := by decide +kernel
theorem rs_RX12_89 : mx_res RX12 89 = some (1, 47, 0) := by decide +kernel
theorem rs_RX12_92 : mx_res RX12 92 = some (1, 220, 0) := by decide +kernel
theorem rs_RX12_95 : mx_res RX12 95 = some (1, 49, 0) := by decide +kernel
theorem rs_RX12_98 : mx_res RX12 98 = some (1, 50, 0) := by decide +kernel
theorem rs_RX12_101 : mx_res RX12 101 = some (1, 51, 0) := by decide +kernel
theorem rs_RX12_104 : mx_res RX12 104 = some (1, 52, 0) := by decide +kernel
theorem rs_RX12_107 : mx_res RX12 107 = some (1, 3, 0) := by decide +kernel
theorem rs_RX12_113 : mx_res RX12 113 = some (0, 9, 11) := by decide +kernel
theorem rs_RX12_116 : mx_res RX12 116 = some (1, 6, 1) := by decide +kernel
theorem rs_RX12_119 : mx_res RX12 119 = some (1, 77, 1) := by decide +kernel
theorem rs_RX12_123 : mx_res RX12 123 = some (1, 8, 2) := by decide +kernel
theorem rs_RX12_126 : mx_res RX12 126 = some (1, 7, 1) := by decide +kernel
theorem rs_RX12_129 : mx_res RX12 129 = some (1, 4, 0) := by decide +kernel
theorem rs_RX12_132 : mx_res RX12 132 = some (1, 364, 0) := by decide +kernel
theorem ft_12_1 : mx_fty 12 1 = some (.int, false, "ClassMill") := by decide +kernel
theorem mt_X12_compile : mx_mt 363 = some (yX12_compile, cX12_compile, 4, (some .int)) := rfl
theorem dX12_compile_0 : decode cX12_compile 0 = .ok (.aload_n 0, 1) := by decide +kernel
theorem dX12_compile_1 : decode cX12_compile 1 = .ok (.getfield 73, 3) := by decide +kernel
theorem dX12_compile_4 : decode cX12_compile 4 = .ok (.istore_n 1, 1) := by decide +kernel
theorem dX12_compile_5 : decode cX12_compile 5 = .ok (.aload_n 0, 1) := by decide +kernel
theorem dX12_compile_6 : decode cX12_compile 6 = .ok (.iconst 0, 1) := by decide +kernel
theorem dX12_compile_7 : decode cX12_compile 7 = .ok (.putfield 73, 3) := by decide +kernel
theorem dX12_compile_10 : decode cX12_compile 10 = .ok (.iload_n 1, 1) := by decide +kernel
theorem dX12_compile_11 : decode cX12_compile 11 = .ok (.sipush 3000, 3) := by decide +kernel
theorem dX12_compile_14 : decode cX12_compile 14 = .ok (.if_icmp .le 16, 3) := by decide +kernel
theorem dX12_compile_17 : decode cX12_compile 17 = .ok (.aload_n 0, 1) := by decide +kernel
theorem dX12_compile_18 : decode cX12_compile 18 = .ok (.getfield 16, 3) := by decide +kernel
theorem dX12_compile_21 : decode cX12_compile 21 = .ok (.iconst 1, 1) := by decide +kernel
theorem dX12_compile_22 : decode cX12_compile 22 = .ok (.sipush 3000, 3) := by decide +kernel
theorem dX12_compile_25 : decode cX12_compile 25 = .ok (.invokevirtual 81, 3) := by decide +kernel
theorem dX12_compile_28 : decode cX12_compile 28 = .ok (.iconst (-1), 1) := by decide +kernel
theorem dX12_compile_29 : decode cX12_compile 29 = .ok (.ireturn, 1) := by decide +kernel
theorem dX12_compile_30 : decode cX12_compile 30 = .ok (.aload_n 0, 1) := by decide +kernel
theorem dX12_compile_31 : decode cX12_compile 31 = .ok (.getfield 16, 3) := by decide +kernel
theorem dX12_compile_34 : decode cX12_compile 34 = .ok (.aload_n 0, 1) := by decide +kernel
theorem dX12_compile_35 : decode cX12_compile 35 = .ok (.getfield 9, 3) := by decide +kernel
theorem dX12_compile_38 : decode cX12_compile 38 = .ok (.iload_n 1, 1) := by decide +kernel
theorem dX12_compile_39 : decode cX12_compile 39 = .ok (.invokevirtual 85, 3) := by decide +kernel
theorem dX12_compile_42 : decode cX12_compile 42 = .ok (.aload_n 0, 1) := by decide +kernel
theorem dX12_compile_43 : decode cX12_compile 43 = .ok (.getfield 25, 3) := by decide +kernel
theorem dX12_compile_46 : decode cX12_compile 46 = .ok (.invokevirtual 89, 3) := by decide +kernel
theorem dX12_compile_49 : decode cX12_compile 49 = .ok (.aload_n 0, 1) := by decide +kernel
theorem dX12_compile_50 : decode cX12_compile 50 = .ok (.getfield 34, 3) := by decide +kernel
theorem dX12_compile_53 : decode cX12_compile 53 = .ok (.invokevirtual 92, 3) := by decide +kernel
theorem dX12_compile_56 : decode cX12_compile 56 = .ok (.aload_n 0, 1) := by decide +kernel
theorem dX12_compile_57 : decode cX12_compile 57 = .ok (.getfield 25, 3) := by decide +kernel
theorem dX12_compile_60 : decode cX12_compile 60 = .ok (.invokevirtual 95, 3) := by decide +kernel
theorem dX12_compile_63 : decode cX12_compile 63 = .ok (.aload_n 0, 1) := by decide +kernel
theorem dX12_compile_64 : decode cX12_compile 64 = .ok (.getfield 25, 3) := by decide +kernel
theorem dX12_compile_67 : decode cX12_compile 67 = .ok (.invokevirtual 98, 3) := by decide +kernel
theorem dX12_compile_70 : decode cX12_compile 70 = .ok (.aload_n 0, 1) := by decide +kernel
theorem dX12_compile_71 : decode cX12_compile 71 = .ok (.getfield 25, 3) := by decide +kernel
theorem dX12_compile_74 : decode cX12_compile 74 = .ok (.invokevirtual 101, 3) := by decide +kernel
theorem dX12_compile_77 : decode cX12_compile 77 = .ok (.aload_n 0, 1) := by decide +kernel
theorem dX12_compile_78 : decode cX12_compile 78 = .ok (.getfield 25, 3) := by decide +kernel
theorem dX12_compile_81 : decode cX12_compile 81 = .ok (.invokevirtual 104, 3) := by decide +kernel
theorem dX12_compile_84 : decode cX12_compile 84 = .ok (.aload_n 0, 1) := by decide +kernel
theorem dX12_compile_85 : decode cX12_compile 85 = .ok (.getfield 41, 3) := by decide +kernel
theorem dX12_compile_88 : decode cX12_compile 88 = .ok (.invokevirtual 107, 3) := by decide +kernel
theorem dX12_compile_91 : decode cX12_compile 91 = .ok (.iconst 0, 1) := by decide +kernel
theorem dX12_compile_92 : decode cX12_compile 92 = .ok (.istore_n 2, 1) := by decide +kernel
theorem dX12_compile_93 : decode cX12_compile 93 = .ok (.iload_n 2, 1) := by decide +kernel
theorem dX12_compile_94 : decode cX12_compile 94 = .ok (.aload_n 0, 1) := by decide +kernel
theorem dX12_compile_95 : decode cX12_compile 95 = .ok (.getfield 25, 3) := by decide +kernel
theorem dX12_compile_98 : decode cX12_compile 98 = .ok (.getfield 110, 3) := by decide +kernel
theorem dX12_compile_101 : decode cX12_compile 101 = .ok (.if_icmp .ge 74, 3) := by decide +kernel
theorem dX12_compile_104 : decode cX12_compile 104 = .ok (.aload_n 0, 1) := by decide +kernel
theorem dX12_compile_105 : decode cX12_compile 105 = .ok (.getfield 16, 3) := by decide +kernel
theorem dX12_compile_108 : decode cX12_compile 108 = .ok (.getfield 113, 3) := by decide +kernel
theorem dX12_compile_111 : decode cX12_compile 111 = .ok (.ifCond .ne 64, 3) := by decide +kernel
theorem dX12_compile_114 : decode cX12_compile 114 = .ok (.aload_n 0, 1) := by decide +kernel
theorem dX12_compile_115 : decode cX12_compile 115 = .ok (.getfield 41, 3) := by decide +kernel
theorem dX12_compile_118 : decode cX12_compile 118 = .ok (.iload_n 2, 1) := by decide +kernel
theorem dX12_compile_119 : decode cX12_compile 119 = .ok (.invokevirtual 116, 3) := by decide +kernel
theorem dX12_compile_122 : decode cX12_compile 122 = .ok (.iconst 0, 1) := by decide +kernel
theorem dX12_compile_123 : decode cX12_compile 123 = .ok (.istore_n 3, 1) := by decide +kernel
theorem dX12_compile_124 : decode cX12_compile 124 = .ok (.iload_n 3, 1) := by decide +kernel
theorem dX12_compile_125 : decode cX12_compile 125 = .ok (.aload_n 0, 1) := by decide +kernel
theorem dX12_compile_126 : decode cX12_compile 126 = .ok (.getfield 25, 3) := by decide +kernel
theorem dX12_compile_129 : decode cX12_compile 129 = .ok (.iload_n 2, 1) := by decide +kernel
theorem dX12_compile_130 : decode cX12_compile 130 = .ok (.invokevirtual 119, 3) := by decide +kernel
theorem dX12_compile_133 : decode cX12_compile 133 = .ok (.if_icmp .ge 28, 3) := by decide +kernel
theorem dX12_compile_136 : decode cX12_compile 136 = .ok (.aload_n 0, 1) := by decide +kernel
theorem dX12_compile_137 : decode cX12_compile 137 = .ok (.getfield 16, 3) := by decide +kernel
theorem dX12_compile_140 : decode cX12_compile 140 = .ok (.getfield 113, 3) := by decide +kernel
theorem dX12_compile_143 : decode cX12_compile 143 = .ok (.ifCond .ne 18, 3) := by decide +kernel
theorem dX12_compile_146 : decode cX12_compile 146 = .ok (.aload_n 0, 1) := by decide +kernel
theorem dX12_compile_147 : decode cX12_compile 147 = .ok (.getfield 41, 3) := by decide +kernel
theorem dX12_compile_150 : decode cX12_compile 150 = .ok (.iload_n 2, 1) := by decide +kernel
theorem dX12_compile_151 : decode cX12_compile 151 = .ok (.iload_n 3, 1) := by decide +kernel
theorem dX12_compile_152 : decode cX12_compile 152 = .ok (.invokevirtual 123, 3) := by decide +kernel
theorem dX12_compile_155 : decode cX12_compile 155 = .ok (.iinc 3 1, 3) := by decide +kernel
theorem dX12_compile_158 : decode cX12_compile 158 = .ok (.goto (-34), 3) := by decide +kernel
theorem dX12_compile_161 : decode cX12_compile 161 = .ok (.aload_n 0, 1) := by decide +kernel
theorem dX12_compile_162 : decode cX12_compile 162 = .ok (.getfield 41, 3) := by decide +kernel
theorem dX12_compile_165 : decode cX12_compile 165 = .ok (.iload_n 2, 1) := by decide +kernel
theorem dX12_compile_166 : decode cX12_compile 166 = .ok (.invokevirtual 126, 3) := by decide +kernel
theorem dX12_compile_169 : decode cX12_compile 169 = .ok (.iinc 2 1, 3) := by decide +kernel
theorem dX12_compile_172 : decode cX12_compile 172 = .ok (.goto (-79), 3) := by decide +kernel
theorem dX12_compile_175 : decode cX12_compile 175 = .ok (.aload_n 0, 1) := by decide +kernel
theorem dX12_compile_176 : decode cX12_compile 176 = .ok (.getfield 41, 3) := by decide +kernel
theorem dX12_compile_179 : decode cX12_compile 179 = .ok (.invokevirtual 129, 3) := by decide +kernel
theorem dX12_compile_182 : decode cX12_compile 182 = .ok (.aload_n 0, 1) := by decide +kernel
theorem dX12_compile_183 : decode cX12_compile 183 = .ok (.getfield 16, 3) := by decide +kernel
theorem dX12_compile_186 : decode cX12_compile 186 = .ok (.getfield 113, 3) := by decide +kernel
theorem dX12_compile_189 : decode cX12_compile 189 = .ok (.ifCond .ne 10, 3) := by decide +kernel
theorem dX12_compile_192 : decode cX12_compile 192 = .ok (.aload_n 0, 1) := by decide +kernel
theorem dX12_compile_193 : decode cX12_compile 193 = .ok (.invokevirtual 132, 3) := by decide +kernel
theorem dX12_compile_196 : decode cX12_compile 196 = .ok (.goto 4, 3) := by decide +kernel
theorem dX12_compile_199 : decode cX12_compile 199 = .ok (.iconst (-1), 1) := by decide +kernel
theorem dX12_compile_200 : decode cX12_compile 200 = .ok (.ireturn, 1) := by decide +kernel
theorem mt_X12_end : mx_mt 362 = some (yX12_end, cX12_end, 2, (some .boolean)) := rfl
theorem dX12_end_0 : decode cX12_end 0 = .ok (.iload_n 1, 1) := by decide +kernel
theorem dX12_end_1 : decode cX12_end 1 = .ok (.ifCond .lt 11, 3) := by decide +kernel
theorem dX12_end_4 : decode cX12_end 4 = .ok (.iload_n 1, 1) := by decide +kernel
theorem dX12_end_5 : decode cX12_end 5 = .ok (.aload_n 0, 1) := by decide +kernel
theorem dX12_end_6 : decode cX12_end 6 = .ok (.getfield 73, 3) := by decide +kernel
theorem dX12_end_9 : decode cX12_end 9 = .ok (.if_icmp .le 5, 3) := by decide +kernel
theorem dX12_end_12 : decode cX12_end 12 = .ok (.iconst 0, 1) := by decide +kernel
theorem dX12_end_13 : decode cX12_end 13 = .ok (.ireturn, 1) := by decide +kernel
theorem dX12_end_14 : decode cX12_end 14 = .ok (.aload_n 0, 1) := by decide +kernel
theorem dX12_end_15 : decode cX12_end 15 = .ok (.iload_n 1, 1) := by decide +kernel
theorem dX12_end_16 : decode cX12_end 16 = .ok (.putfield 73, 3) := by decide +kernel
theorem dX12_end_19 : decode cX12_end 19 = .ok (.iconst 1, 1) := by decide +kernel
theorem dX12_end_20 : decode cX12_end 20 = .ok (.ireturn, 1) := by decide +kernel
theorem rs_RX12_143 : mx_res RX12 143 = some (0, 9, 12) := by decide +kernel
theorem mt_X12_fault : mx_mt 365 = some (yX12_fault, cX12_fault, 2, (some .int)) := rfl
theorem dX12_fault_0 : decode cX12_fault 0 = .ok (.iload_n 1, 1) := by decide +kernel
theorem dX12_fault_1 : decode cX12_fault 1 = .ok (.ifCond .ne 11, 3) := by decide +kernel
theorem dX12_fault_4 : decode cX12_fault 4 = .ok (.aload_n 0, 1) := by decide +kernel
theorem dX12_fault_5 : decode cX12_fault 5 = .ok (.getfield 16, 3) := by decide +kernel
theorem dX12_fault_8 : decode cX12_fault 8 = .ok (.getfield 113, 3) := by decide +kernel
theorem dX12_fault_11 : decode cX12_fault 11 = .ok (.ireturn, 1) := by decide +kernel
theorem dX12_fault_12 : decode cX12_fault 12 = .ok (.iload_n 1, 1) := by decide +kernel
theorem dX12_fault_13 : decode cX12_fault 13 = .ok (.iconst 1, 1) := by decide +kernel
theorem dX12_fault_14 : decode cX12_fault 14 = .ok (.if_icmp .ne 23, 3) := by decide +kernel
theorem dX12_fault_17 : decode cX12_fault 17 = .ok (.aload_n 0, 1) := by decide +kernel
theorem dX12_fault_18 : decode cX12_fault 18 = .ok (.getfield 16, 3) := by decide +kernel
theorem dX12_fault_21 : decode cX12_fault 21 = .ok (.getfield 113, 3) := by decide +kernel
theorem dX12_fault_24 : decode cX12_fault 24 = .ok (.ifCond .eq 13, 3) := by decide +kernel
theorem dX12_fault_27 : decode cX12_fault 27 = .ok (.aload_n 0, 1) := by decide +kernel
theorem dX12_fault_28 : decode cX12_fault 28 = .ok (.getfield 16, 3) := by decide +kernel
theorem dX12_fault_31 : decode cX12_fault 31 = .ok (.getfield 143, 3) := by decide +kernel
theorem dX12_fault_34 : decode cX12_fault 34 = .ok (.goto 4, 3) := by decide +kernel
theorem dX12_fault_37 : decode cX12_fault 37 = .ok (.iconst (-1), 1) := by decide +kernel
theorem dX12_fault_38 : decode cX12_fault 38 = .ok (.ireturn, 1) := by decide +kernel
theorem mt_X12_putNumber : mx_mt 361 = some (yX12_putNumber, cX12_putNumber, 3, none) := rfl
theorem dX12_putNumber_0 : decode cX12_putNumber 0 = .ok (.bipush 24, 2) := by decide +kernel
theorem dX12_putNumber_2 : decode cX12_putNumber 2 = .ok (.istore_n 2, 1) := by decide +kernel
theorem dX12_putNumber_3 : decode cX12_putNumber 3 = .ok (.iload_n 2, 1) := by decide +kernel
theorem dX12_putNumber_4 : decode cX12_putNumber 4 = .ok (.ifCond .lt 44, 3) := by decide +kernel
theorem dX12_putNumber_7 : decode cX12_putNumber 7 = .ok (.aload_n 0, 1) := by decide +kernel
theorem dX12_putNumber_8 : decode cX12_putNumber 8 = .ok (.getfield 73, 3) := by decide +kernel
theorem dX12_putNumber_11 : decode cX12_putNumber 11 = .ok (.aload_n 0, 1) := by decide +kernel
theorem dX12_putNumber_12 : decode cX12_putNumber 12 = .ok (.getfield 9, 3) := by decide +kernel
theorem dX12_putNumber_15 : decode cX12_putNumber 15 = .ok (.arraylength, 1) := by decide +kernel
theorem dX12_putNumber_16 : decode cX12_putNumber 16 = .ok (.if_icmp .ge 26, 3) := by decide +kernel
theorem dX12_putNumber_19 : decode cX12_putNumber 19 = .ok (.aload_n 0, 1) := by decide +kernel
theorem dX12_putNumber_20 : decode cX12_putNumber 20 = .ok (.getfield 9, 3) := by decide +kernel
theorem dX12_putNumber_23 : decode cX12_putNumber 23 = .ok (.aload_n 0, 1) := by decide +kernel
theorem dX12_putNumber_24 : decode cX12_putNumber 24 = .ok (.getfield 73, 3) := by decide +kernel
theorem dX12_putNumber_27 : decode cX12_putNumber 27 = .ok (.iload_n 1, 1) := by decide +kernel
theorem dX12_putNumber_28 : decode cX12_putNumber 28 = .ok (.iload_n 2, 1) := by decide +kernel
theorem dX12_putNumber_29 : decode cX12_putNumber 29 = .ok (.ishr, 1) := by decide +kernel
theorem dX12_putNumber_30 : decode cX12_putNumber 30 = .ok (.i2b, 1) := by decide +kernel
theorem dX12_putNumber_31 : decode cX12_putNumber 31 = .ok (.bastore, 1) := by decide +kernel
theorem dX12_putNumber_32 : decode cX12_putNumber 32 = .ok (.aload_n 0, 1) := by decide +kernel
theorem dX12_putNumber_33 : decode cX12_putNumber 33 = .ok (.dup, 1) := by decide +kernel
theorem dX12_putNumber_34 : decode cX12_putNumber 34 = .ok (.getfield 73, 3) := by decide +kernel
theorem dX12_putNumber_37 : decode cX12_putNumber 37 = .ok (.iconst 1, 1) := by decide +kernel
theorem dX12_putNumber_38 : decode cX12_putNumber 38 = .ok (.iadd, 1) := by decide +kernel
theorem dX12_putNumber_39 : decode cX12_putNumber 39 = .ok (.putfield 73, 3) := by decide +kernel
theorem dX12_putNumber_42 : decode cX12_putNumber 42 = .ok (.iinc 2 (-8), 3) := by decide +kernel
theorem dX12_putNumber_45 : decode cX12_putNumber 45 = .ok (.goto (-42), 3) := by decide +kernel
theorem dX12_putNumber_48 : decode cX12_putNumber 48 = .ok (.return_, 1) := by decide +kernel
theorem rs_RX12_77 : mx_res RX12 77 = some (1, 361, 1) := by decide +kernel
theorem mt_X12_feed : mx_mt 360 = some (yX12_feed, cX12_feed, 6, (some .int)) := rfl
theorem dX12_feed_0 : decode cX12_feed 0 = .ok (.aload_n 0, 1) := by decide +kernel
theorem dX12_feed_1 : decode cX12_feed 1 = .ok (.getfield 73, 3) := by decide +kernel
theorem dX12_feed_4 : decode cX12_feed 4 = .ok (.bipush 20, 2) := by decide +kernel
theorem dX12_feed_6 : decode cX12_feed 6 = .ok (.iadd, 1) := by decide +kernel
theorem dX12_feed_7 : decode cX12_feed 7 = .ok (.sipush 6000, 3) := by decide +kernel
theorem dX12_feed_10 : decode cX12_feed 10 = .ok (.if_icmp .le 5, 3) := by decide +kernel
theorem dX12_feed_13 : decode cX12_feed 13 = .ok (.iconst (-1), 1) := by decide +kernel
theorem dX12_feed_14 : decode cX12_feed 14 = .ok (.ireturn, 1) := by decide +kernel
theorem dX12_feed_15 : decode cX12_feed 15 = .ok (.aload_n 0, 1) := by decide +kernel
theorem dX12_feed_16 : decode cX12_feed 16 = .ok (.iload_n 1, 1) := by decide +kernel
theorem dX12_feed_17 : decode cX12_feed 17 = .ok (.invokevirtual 77, 3) := by decide +kernel
theorem dX12_feed_20 : decode cX12_feed 20 = .ok (.aload_n 0, 1) := by decide +kernel
theorem dX12_feed_21 : decode cX12_feed 21 = .ok (.iload_n 2, 1) := by decide +kernel
theorem dX12_feed_22 : decode cX12_feed 22 = .ok (.invokevirtual 77, 3) := by decide +kernel
theorem dX12_feed_25 : decode cX12_feed 25 = .ok (.aload_n 0, 1) := by decide +kernel
theorem dX12_feed_26 : decode cX12_feed 26 = .ok (.iload_n 3, 1) := by decide +kernel
theorem dX12_feed_27 : decode cX12_feed 27 = .ok (.invokevirtual 77, 3) := by decide +kernel
theorem dX12_feed_30 : decode cX12_feed 30 = .ok (.aload_n 0, 1) := by decide +kernel
theorem dX12_feed_31 : decode cX12_feed 31 = .ok (.iload 4, 2) := by decide +kernel
theorem dX12_feed_33 : decode cX12_feed 33 = .ok (.invokevirtual 77, 3) := by decide +kernel
theorem dX12_feed_36 : decode cX12_feed 36 = .ok (.aload_n 0, 1) := by decide +kernel
theorem dX12_feed_37 : decode cX12_feed 37 = .ok (.iload 5, 2) := by decide +kernel
theorem dX12_feed_39 : decode cX12_feed 39 = .ok (.invokevirtual 77, 3) := by decide +kernel
theorem dX12_feed_42 : decode cX12_feed 42 = .ok (.aload_n 0, 1) := by decide +kernel
theorem dX12_feed_43 : decode cX12_feed 43 = .ok (.getfield 73, 3) := by decide +kernel
theorem dX12_feed_46 : decode cX12_feed 46 = .ok (.ireturn, 1) := by decide +kernel
theorem mt_X12_imageOf : mx_mt 366 = some (yX12_imageOf, cX12_imageOf, 2, (some (.array .byte))) := rfl
theorem dX12_imageOf_0 : decode cX12_imageOf 0 = .ok (.iload_n 1, 1) := by decide +kernel
theorem dX12_imageOf_1 : decode cX12_imageOf 1 = .ok (.ifCond .lt 29, 3) := by decide +kernel
theorem dX12_imageOf_4 : decode cX12_imageOf 4 = .ok (.iload_n 1, 1) := by decide +kernel
theorem dX12_imageOf_5 : decode cX12_imageOf 5 = .ok (.aload_n 0, 1) := by decide +kernel
theorem dX12_imageOf_6 : decode cX12_imageOf 6 = .ok (.getfield 136, 3) := by decide +kernel
theorem dX12_imageOf_9 : decode cX12_imageOf 9 = .ok (.if_icmp .ge 21, 3) := by decide +kernel
theorem dX12_imageOf_12 : decode cX12_imageOf 12 = .ok (.iload_n 1, 1) := by decide +kernel
theorem dX12_imageOf_13 : decode cX12_imageOf 13 = .ok (.aload_n 0, 1) := by decide +kernel
theorem dX12_imageOf_14 : decode cX12_imageOf 14 = .ok (.getfield 46, 3) := by decide +kernel
theorem dX12_imageOf_17 : decode cX12_imageOf 17 = .ok (.arraylength, 1) := by decide +kernel
theorem dX12_imageOf_18 : decode cX12_imageOf 18 = .ok (.if_icmp .ge 12, 3) := by decide +kernel
theorem dX12_imageOf_21 : decode cX12_imageOf 21 = .ok (.aload_n 0, 1) := by decide +kernel
theorem dX12_imageOf_22 : decode cX12_imageOf 22 = .ok (.getfield 46, 3) := by decide +kernel
theorem dX12_imageOf_25 : decode cX12_imageOf 25 = .ok (.iload_n 1, 1) := by decide +kernel
theorem dX12_imageOf_26 : decode cX12_imageOf 26 = .ok (.aaload, 1) := by decide +kernel
theorem dX12_imageOf_27 : decode cX12_imageOf 27 = .ok (.goto 4, 3) := by decide +kernel
theorem dX12_imageOf_30 : decode cX12_imageOf 30 = .ok (.aconst_null, 1) := by decide +kernel
theorem dX12_imageOf_31 : decode cX12_imageOf 31 = .ok (.areturn, 1) := by decide +kernel
theorem rs_RX12_146 : mx_res RX12 146 = some (1, 366, 1) := by decide +kernel
theorem mt_X12_image : mx_mt 367 = some (yX12_image, cX12_image, 4, (some .int)) := rfl
theorem dX12_image_0 : decode cX12_image 0 = .ok (.aload_n 0, 1) := by decide +kernel
theorem dX12_image_1 : decode cX12_image 1 = .ok (.iload_n 1, 1) := by decide +kernel
theorem dX12_image_2 : decode cX12_image 2 = .ok (.invokevirtual 146, 3) := by decide +kernel
theorem dX12_image_5 : decode cX12_image 5 = .ok (.astore_n 3, 1) := by decide +kernel
theorem dX12_image_6 : decode cX12_image 6 = .ok (.aload_n 3, 1) := by decide +kernel
theorem dX12_image_7 : decode cX12_image 7 = .ok (.ifnonnull 5, 3) := by decide +kernel
theorem dX12_image_10 : decode cX12_image 10 = .ok (.iconst (-1), 1) := by decide +kernel
theorem dX12_image_11 : decode cX12_image 11 = .ok (.ireturn, 1) := by decide +kernel
theorem dX12_image_12 : decode cX12_image 12 = .ok (.iload_n 2, 1) := by decide +kernel
theorem dX12_image_13 : decode cX12_image 13 = .ok (.iconst (-1), 1) := by decide +kernel
theorem dX12_image_14 : decode cX12_image 14 = .ok (.if_icmp .ne 6, 3) := by decide +kernel
theorem dX12_image_17 : decode cX12_image 17 = .ok (.aload_n 3, 1) := by decide +kernel
theorem dX12_image_18 : decode cX12_image 18 = .ok (.arraylength, 1) := by decide +kernel
theorem dX12_image_19 : decode cX12_image 19 = .ok (.ireturn, 1) := by decide +kernel
theorem dX12_image_20 : decode cX12_image 20 = .ok (.iload_n 2, 1) := by decide +kernel
theorem dX12_image_21 : decode cX12_image 21 = .ok (.ifCond .lt 19, 3) := by decide +kernel
theorem dX12_image_24 : decode cX12_image 24 = .ok (.iload_n 2, 1) := by decide +kernel
theorem dX12_image_25 : decode cX12_image 25 = .ok (.aload_n 3, 1) := by decide +kernel
theorem dX12_image_26 : decode cX12_image 26 = .ok (.arraylength, 1) := by decide +kernel
theorem dX12_image_27 : decode cX12_image 27 = .ok (.if_icmp .ge 13, 3) := by decide +kernel
theorem dX12_image_30 : decode cX12_image 30 = .ok (.aload_n 3, 1) := by decide +kernel
theorem dX12_image_31 : decode cX12_image 31 = .ok (.iload_n 2, 1) := by decide +kernel
theorem dX12_image_32 : decode cX12_image 32 = .ok (.baload, 1) := by decide +kernel
theorem dX12_image_33 : decode cX12_image 33 = .ok (.sipush 255, 3) := by decide +kernel
theorem dX12_image_36 : decode cX12_image 36 = .ok (.iand, 1) := by decide +kernel
theorem dX12_image_37 : decode cX12_image 37 = .ok (.goto 4, 3) := by decide +kernel
theorem dX12_image_40 : decode cX12_image 40 = .ok (.iconst (-1), 1) := by decide +kernel
theorem dX12_image_41 : decode cX12_image 41 = .ok (.ireturn, 1) := by decide +kernel
theorem rs_RX10_9 : mx_res RX10 9 = some (5, 0, 0) := by decide +kernel
theorem rs_RX10_39 : mx_res RX10 39 = some (0, 2, 1) := by decide +kernel
theorem ft_10_0 : mx_fty 10 0 = some ((.object "ClassMill$Text"), true, "ClassMill$Values") := by decide +kernel
theorem ft_10_1 : mx_fty 10 1 = some ((.object "ClassMill$Heads"), true, "ClassMill$Values") := by decide +kernel
theorem ft_10_2 : mx_fty 10 2 = some ((.object "ClassMill$Kin"), true, "ClassMill$Values") := by decide +kernel
theorem ft_10_3 : mx_fty 10 3 = some ((.object "ClassMill$Code"), true, "ClassMill$Values") := by decide +kernel
theorem ft_10_4 : mx_fty 10 4 = some ((.object "ClassMill$Pool"), true, "ClassMill$Values") := by decide +kernel
theorem ft_10_5 : mx_fty 10 5 = some ((.array .int), true, "ClassMill$Values") := by decide +kernel
theorem ft_10_6 : mx_fty 10 6 = some ((.array .int), true, "ClassMill$Values") := by decide +kernel
theorem ft_10_7 : mx_fty 10 7 = some ((.array .int), true, "ClassMill$Values") := by decide +kernel
theorem ft_10_8 : mx_fty 10 8 = some ((.array .int), true, "ClassMill$Values") := by decide +kernel
theorem ft_10_9 : mx_fty 10 9 = some ((.array .int), true, "ClassMill$Values") := by decide +kernel
theorem mt_X10_init : mx_mt 271 = some (yX10_init, cX10_init, 5, none) := rfl
theorem dX10_init_0 : decode cX10_init 0 = .ok (.aload_n 0, 1) := by decide +kernel
theorem dX10_init_1 : decode cX10_init 1 = .ok (.invokespecial 9, 3) := by decide +kernel
theorem dX10_init_4 : decode cX10_init 4 = .ok (.aload_n 0, 1) := by decide +kernel
theorem dX10_init_5 : decode cX10_init 5 = .ok (.sipush 420, 3) := by decide +kernel
theorem dX10_init_8 : decode cX10_init 8 = .ok (.newarray .int, 2) := by decide +kernel
theorem dX10_init_10 : decode cX10_init 10 = .ok (.putfield 15, 3) := by decide +kernel
theorem dX10_init_13 : decode cX10_init 13 = .ok (.aload_n 0, 1) := by decide +kernel
theorem dX10_init_14 : decode cX10_init 14 = .ok (.sipush 420, 3) := by decide +kernel
theorem dX10_init_17 : decode cX10_init 17 = .ok (.newarray .int, 2) := by decide +kernel
theorem dX10_init_19 : decode cX10_init 19 = .ok (.putfield 19, 3) := by decide +kernel
theorem dX10_init_22 : decode cX10_init 22 = .ok (.aload_n 0, 1) := by decide +kernel
theorem dX10_init_23 : decode cX10_init 23 = .ok (.sipush 420, 3) := by decide +kernel
theorem dX10_init_26 : decode cX10_init 26 = .ok (.newarray .int, 2) := by decide +kernel
theorem dX10_init_28 : decode cX10_init 28 = .ok (.putfield 22, 3) := by decide +kernel
theorem dX10_init_31 : decode cX10_init 31 = .ok (.aload_n 0, 1) := by decide +kernel
theorem dX10_init_32 : decode cX10_init 32 = .ok (.sipush 420, 3) := by decide +kernel
theorem dX10_init_35 : decode cX10_init 35 = .ok (.newarray .int, 2) := by decide +kernel
theorem dX10_init_37 : decode cX10_init 37 = .ok (.putfield 25, 3) := by decide +kernel
theorem dX10_init_40 : decode cX10_init 40 = .ok (.aload_n 0, 1) := by decide +kernel
theorem dX10_init_41 : decode cX10_init 41 = .ok (.sipush 420, 3) := by decide +kernel
theorem dX10_init_44 : decode cX10_init 44 = .ok (.newarray .int, 2) := by decide +kernel
theorem dX10_init_46 : decode cX10_init 46 = .ok (.putfield 28, 3) := by decide +kernel
theorem dX10_init_49 : decode cX10_init 49 = .ok (.aload_n 0, 1) := by decide +kernel
theorem dX10_init_50 : decode cX10_init 50 = .ok (.aload_n 1, 1) := by decide +kernel
theorem dX10_init_51 : decode cX10_init 51 = .ok (.putfield 31, 3) := by decide +kernel
theorem dX10_init_54 : decode cX10_init 54 = .ok (.aload_n 0, 1) := by decide +kernel
theorem dX10_init_55 : decode cX10_init 55 = .ok (.aload_n 2, 1) := by decide +kernel
theorem dX10_init_56 : decode cX10_init 56 = .ok (.putfield 35, 3) := by decide +kernel
theorem dX10_init_59 : decode cX10_init 59 = .ok (.aload_n 0, 1) := by decide +kernel
theorem dX10_init_60 : decode cX10_init 60 = .ok (.aload_n 2, 1) := by decide +kernel
theorem dX10_init_61 : decode cX10_init 61 = .ok (.getfield 39, 3) := by decide +kernel
theorem dX10_init_64 : decode cX10_init 64 = .ok (.putfield 45, 3) := by decide +kernel
theorem dX10_init_67 : decode cX10_init 67 = .ok (.aload_n 0, 1) := by decide +kernel
theorem dX10_init_68 : decode cX10_init 68 = .ok (.aload_n 3, 1) := by decide +kernel
theorem dX10_init_69 : decode cX10_init 69 = .ok (.putfield 46, 3) := by decide +kernel
theorem dX10_init_72 : decode cX10_init 72 = .ok (.aload_n 0, 1) := by decide +kernel
theorem dX10_init_73 : decode cX10_init 73 = .ok (.aload 4, 2) := by decide +kernel
theorem dX10_init_75 : decode cX10_init 75 = .ok (.putfield 50, 3) := by decide +kernel
theorem dX10_init_78 : decode cX10_init 78 = .ok (.return_, 1) := by decide +kernel
theorem rs_RX1_7 : mx_res RX1 7 = some (5, 0, 0) := by decide +kernel
theorem ft_1_0 : mx_fty 1 0 = some ((.array .byte), true, "ClassMill$Code") := by decide +kernel
theorem ft_1_2 : mx_fty 1 2 = some ((.array .int), true, "ClassMill$Code") := by decide +kernel
theorem ft_1_5 : mx_fty 1 5 = some ((.array .int), true, "ClassMill$Code") := by decide +kernel
theorem ft_1_6 : mx_fty 1 6 = some ((.array .int), true, "ClassMill$Code") := by decide +kernel
theorem ft_1_9 : mx_fty 1 9 = some ((.array .int), true, "ClassMill$Code") := by decide +kernel
theorem ft_1_11 : mx_fty 1 11 = some ((.array .int), true, "ClassMill$Code") := by decide +kernel
theorem ft_1_12 : mx_fty 1 12 = some ((.array .int), true, "ClassMill$Code") := by decide +kernel
theorem ft_1_13 : mx_fty 1 13 = some ((.array .int), true, "ClassMill$Code") := by decide +kernel
theorem mt_X1_init : mx_mt 24 = some (yX1_init, cX1_init, 1, none) := rfl
theorem dX1_init_0 : decode cX1_init 0 = .ok (.aload_n 0, 1) := by decide +kernel
theorem dX1_init_1 : decode cX1_init 1 = .ok (.invokespecial 7, 3) := by decide +kernel
theorem dX1_init_4 : decode cX1_init 4 = .ok (.aload_n 0, 1) := by decide +kernel
theorem dX1_init_5 : decode cX1_init 5 = .ok (.sipush 1500, 3) := by decide +kernel
theorem dX1_init_8 : decode cX1_init 8 = .ok (.newarray .byte, 2) := by decide +kernel
theorem dX1_init_10 : decode cX1_init 10 = .ok (.putfield 13, 3) := by decide +kernel
theorem dX1_init_13 : decode cX1_init 13 = .ok (.aload_n 0, 1) := by decide +kernel
theorem dX1_init_14 : decode cX1_init 14 = .ok (.bipush 20, 2) := by decide +kernel
theorem dX1_init_16 : decode cX1_init 16 = .ok (.newarray .int, 2) := by decide +kernel
theorem dX1_init_18 : decode cX1_init 18 = .ok (.putfield 17, 3) := by decide +kernel
theorem dX1_init_21 : decode cX1_init 21 = .ok (.aload_n 0, 1) := by decide +kernel
theorem dX1_init_22 : decode cX1_init 22 = .ok (.sipush 750, 3) := by decide +kernel
theorem dX1_init_25 : decode cX1_init 25 = .ok (.newarray .int, 2) := by decide +kernel
theorem dX1_init_27 : decode cX1_init 27 = .ok (.putfield 21, 3) := by decide +kernel
theorem dX1_init_30 : decode cX1_init 30 = .ok (.aload_n 0, 1) := by decide +kernel
theorem dX1_init_31 : decode cX1_init 31 = .ok (.sipush 750, 3) := by decide +kernel
theorem dX1_init_34 : decode cX1_init 34 = .ok (.newarray .int, 2) := by decide +kernel
theorem dX1_init_36 : decode cX1_init 36 = .ok (.putfield 24, 3) := by decide +kernel
theorem dX1_init_39 : decode cX1_init 39 = .ok (.aload_n 0, 1) := by decide +kernel
theorem dX1_init_40 : decode cX1_init 40 = .ok (.bipush 80, 2) := by decide +kernel
theorem dX1_init_42 : decode cX1_init 42 = .ok (.newarray .int, 2) := by decide +kernel
theorem dX1_init_44 : decode cX1_init 44 = .ok (.putfield 27, 3) := by decide +kernel
theorem dX1_init_47 : decode cX1_init 47 = .ok (.aload_n 0, 1) := by decide +kernel
theorem dX1_init_48 : decode cX1_init 48 = .ok (.bipush 100, 2) := by decide +kernel
theorem dX1_init_50 : decode cX1_init 50 = .ok (.newarray .int, 2) := by decide +kernel
theorem dX1_init_52 : decode cX1_init 52 = .ok (.putfield 30, 3) := by decide +kernel
theorem dX1_init_55 : decode cX1_init 55 = .ok (.aload_n 0, 1) := by decide +kernel
theorem dX1_init_56 : decode cX1_init 56 = .ok (.sipush 5200, 3) := by decide +kernel
theorem dX1_init_59 : decode cX1_init 59 = .ok (.newarray .int, 2) := by decide +kernel
theorem dX1_init_61 : decode cX1_init 61 = .ok (.putfield 33, 3) := by decide +kernel
theorem dX1_init_64 : decode cX1_init 64 = .ok (.aload_n 0, 1) := by decide +kernel
theorem dX1_init_65 : decode cX1_init 65 = .ok (.bipush 100, 2) := by decide +kernel
theorem dX1_init_67 : decode cX1_init 67 = .ok (.newarray .int, 2) := by decide +kernel
theorem dX1_init_69 : decode cX1_init 69 = .ok (.putfield 36, 3) := by decide +kernel
theorem dX1_init_72 : decode cX1_init 72 = .ok (.return_, 1) := by decide +kernel
theorem rs_RX6_1 : mx_res RX6 1 = some (5, 0, 0) := by decide +kernel
theorem ft_6_0 : mx_fty 6 0 = some ((.object "ClassMill$Text"), true, "ClassMill$Pool") := by decide +kernel
theorem ft_6_1 : mx_fty 6 1 = some ((.object "ClassMill$Heads"), true, "ClassMill$Pool") := by decide +kernel
theorem ft_6_2 : mx_fty 6 2 = some ((.array .int), true, "ClassMill$Pool") := by decide +kernel
theorem ft_6_3 : mx_fty 6 3 = some ((.array .int), true, "ClassMill$Pool") := by decide +kernel
theorem ft_6_6 : mx_fty 6 6 = some ((.array .byte), true, "ClassMill$Pool") := by decide +kernel
theorem mt_X6_init : mx_mt 181 = some (yX6_init, cX6_init, 3, none) := rfl
theorem dX6_init_0 : decode cX6_init 0 = .ok (.aload_n 0, 1) := by decide +kernel
theorem dX6_init_1 : decode cX6_init 1 = .ok (.invokespecial 1, 3) := by decide +kernel
theorem dX6_init_4 : decode cX6_init 4 = .ok (.aload_n 0, 1) := by decide +kernel
theorem dX6_init_5 : decode cX6_init 5 = .ok (.sipush 201, 3) := by decide +kernel
theorem dX6_init_8 : decode cX6_init 8 = .ok (.newarray .int, 2) := by decide +kernel
theorem dX6_init_10 : decode cX6_init 10 = .ok (.putfield 9, 3) := by decide +kernel
theorem dX6_init_13 : decode cX6_init 13 = .ok (.aload_n 0, 1) := by decide +kernel
theorem dX6_init_14 : decode cX6_init 14 = .ok (.sipush 201, 3) := by decide +kernel
theorem dX6_init_17 : decode cX6_init 17 = .ok (.newarray .int, 2) := by decide +kernel
theorem dX6_init_19 : decode cX6_init 19 = .ok (.putfield 13, 3) := by decide +kernel
theorem dX6_init_22 : decode cX6_init 22 = .ok (.aload_n 0, 1) := by decide +kernel
theorem dX6_init_23 : decode cX6_init 23 = .ok (.sipush 6000, 3) := by decide +kernel
theorem dX6_init_26 : decode cX6_init 26 = .ok (.newarray .byte, 2) := by decide +kernel
theorem dX6_init_28 : decode cX6_init 28 = .ok (.putfield 16, 3) := by decide +kernel
theorem dX6_init_31 : decode cX6_init 31 = .ok (.aload_n 0, 1) := by decide +kernel
theorem dX6_init_32 : decode cX6_init 32 = .ok (.aload_n 1, 1) := by decide +kernel
theorem dX6_init_33 : decode cX6_init 33 = .ok (.putfield 20, 3) := by decide +kernel
theorem dX6_init_36 : decode cX6_init 36 = .ok (.aload_n 0, 1) := by decide +kernel
theorem dX6_init_37 : decode cX6_init 37 = .ok (.aload_n 2, 1) := by decide +kernel
theorem dX6_init_38 : decode cX6_init 38 = .ok (.putfield 24, 3) := by decide +kernel
theorem dX6_init_41 : decode cX6_init 41 = .ok (.return_, 1) := by decide +kernel
theorem rs_RX0_7 : mx_res RX0 7 = some (5, 0, 0) := by decide +kernel
theorem rs_RX0_13 : mx_res RX0 13 = some (9, 1, 16) := by decide +kernel
theorem rs_RX0_15 : mx_res RX0 15 = some (4, 24, 0) := by decide +kernel
theorem rs_RX0_42 : mx_res RX0 42 = some (0, 2, 1) := by decide +kernel
theorem rs_RX0_47 : mx_res RX0 47 = some (9, 6, 8) := by decide +kernel
theorem rs_RX0_49 : mx_res RX0 49 = some (3, 181, 2) := by decide +kernel
theorem rs_RX0_56 : mx_res RX0 56 = some (9, 10, 19) := by decide +kernel
theorem rs_RX0_58 : mx_res RX0 58 = some (3, 271, 4) := by decide +kernel
theorem rs_RX0_100024 : mx_res RX0 100024 = some (11, 0, 0) := by decide +kernel
theorem ft_0_0 : mx_fty 0 0 = some ((.object "ClassMill$Text"), true, "ClassMill$Bodies") := by decide +kernel
theorem ft_0_1 : mx_fty 0 1 = some ((.object "ClassMill$Heads"), true, "ClassMill$Bodies") := by decide +kernel
theorem ft_0_2 : mx_fty 0 2 = some ((.object "ClassMill$Kin"), true, "ClassMill$Bodies") := by decide +kernel
theorem ft_0_3 : mx_fty 0 3 = some ((.object "ClassMill$Pool"), true, "ClassMill$Bodies") := by decide +kernel
theorem ft_0_4 : mx_fty 0 4 = some ((.object "ClassMill$Code"), true, "ClassMill$Bodies") := by decide +kernel
theorem ft_0_5 : mx_fty 0 5 = some ((.object "ClassMill$Values"), true, "ClassMill$Bodies") := by decide +kernel
theorem ft_0_6 : mx_fty 0 6 = some ((.array (.array .byte)), true, "ClassMill$Bodies") := by decide +kernel
theorem ft_0_11 : mx_fty 0 11 = some ((.array .int), true, "ClassMill$Bodies") := by decide +kernel
theorem mx_dflX (X Y : Nat × (Nat → Int32)) (ci : Nat) : ∀ n, mx_dfl (mx_GG X) ci n = mx_dfl (mx_GG Y) ci n := by
  intro n
  induction n with
  | zero => rfl
  | succ n ih =>
    unfold mx_dfl
    rw [ih]
    rfl
theorem dx_1 (X : Nat × (Nat → Int32)) : mx_dfl (mx_GG X) 1 16 = some dl_1 := (mx_dflX X (0, fun _ => 0) 1 16).trans (by decide +kernel)
theorem dx_6 (X : Nat × (Nat → Int32)) : mx_dfl (mx_GG X) 6 8 = some dl_6 := (mx_dflX X (0, fun _ => 0) 6 8).trans (by decide +kernel)
theorem dx_10 (X : Nat × (Nat → Int32)) : mx_dfl (mx_GG X) 10 19 = some dl_10 := (mx_dflX X (0, fun _ => 0) 10 19).trans (by decide +kernel)
theorem mt_X0_init : mx_mt 1 = some (yX0_init, cX0_init, 3, none) := rfl
theorem dX0_init_0 : decode cX0_init 0 = .ok (.aload_n 0, 1) := by decide +kernel
theorem dX0_init_1 : decode cX0_init 1 = .ok (.invokespecial 7, 3) := by decide +kernel
theorem dX0_init_4 : decode cX0_init 4 = .ok (.aload_n 0, 1) := by decide +kernel
theorem dX0_init_5 : decode cX0_init 5 = .ok (.new 13, 3) := by decide +kernel
theorem dX0_init_8 : decode cX0_init 8 = .ok (.dup, 1) := by decide +kernel
theorem dX0_init_9 : decode cX0_init 9 = .ok (.invokespecial 15, 3) := by decide +kernel
theorem dX0_init_12 : decode cX0_init 12 = .ok (.putfield 16, 3) := by decide +kernel
theorem dX0_init_15 : decode cX0_init 15 = .ok (.aload_n 0, 1) := by decide +kernel
theorem dX0_init_16 : decode cX0_init 16 = .ok (.bipush 8, 2) := by decide +kernel
theorem dX0_init_18 : decode cX0_init 18 = .ok (.anewarray 24, 3) := by decide +kernel
theorem dX0_init_21 : decode cX0_init 21 = .ok (.putfield 26, 3) := by decide +kernel
theorem dX0_init_24 : decode cX0_init 24 = .ok (.aload_n 0, 1) := by decide +kernel
theorem dX0_init_25 : decode cX0_init 25 = .ok (.sipush 500, 3) := by decide +kernel
theorem dX0_init_28 : decode cX0_init 28 = .ok (.newarray .int, 2) := by decide +kernel
theorem dX0_init_30 : decode cX0_init 30 = .ok (.putfield 30, 3) := by decide +kernel
theorem dX0_init_33 : decode cX0_init 33 = .ok (.aload_n 0, 1) := by decide +kernel
theorem dX0_init_34 : decode cX0_init 34 = .ok (.aload_n 1, 1) := by decide +kernel
theorem dX0_init_35 : decode cX0_init 35 = .ok (.putfield 34, 3) := by decide +kernel
theorem dX0_init_38 : decode cX0_init 38 = .ok (.aload_n 0, 1) := by decide +kernel
theorem dX0_init_39 : decode cX0_init 39 = .ok (.aload_n 2, 1) := by decide +kernel
theorem dX0_init_40 : decode cX0_init 40 = .ok (.putfield 38, 3) := by decide +kernel
theorem dX0_init_43 : decode cX0_init 43 = .ok (.aload_n 0, 1) := by decide +kernel
theorem dX0_init_44 : decode cX0_init 44 = .ok (.aload_n 2, 1) := by decide +kernel
theorem dX0_init_45 : decode cX0_init 45 = .ok (.getfield 42, 3) := by decide +kernel
theorem dX0_init_48 : decode cX0_init 48 = .ok (.putfield 46, 3) := by decide +kernel
theorem dX0_init_51 : decode cX0_init 51 = .ok (.aload_n 0, 1) := by decide +kernel
theorem dX0_init_52 : decode cX0_init 52 = .ok (.new 47, 3) := by decide +kernel
theorem dX0_init_55 : decode cX0_init 55 = .ok (.dup, 1) := by decide +kernel
theorem dX0_init_56 : decode cX0_init 56 = .ok (.aload_n 1, 1) := by decide +kernel
theorem dX0_init_57 : decode cX0_init 57 = .ok (.aload_n 2, 1) := by decide +kernel
theorem dX0_init_58 : decode cX0_init 58 = .ok (.invokespecial 49, 3) := by decide +kernel
theorem dX0_init_61 : decode cX0_init 61 = .ok (.putfield 52, 3) := by decide +kernel
theorem dX0_init_64 : decode cX0_init 64 = .ok (.aload_n 0, 1) := by decide +kernel
theorem dX0_init_65 : decode cX0_init 65 = .ok (.new 56, 3) := by decide +kernel
theorem dX0_init_68 : decode cX0_init 68 = .ok (.dup, 1) := by decide +kernel
theorem dX0_init_69 : decode cX0_init 69 = .ok (.aload_n 1, 1) := by decide +kernel
theorem dX0_init_70 : decode cX0_init 70 = .ok (.aload_n 2, 1) := by decide +kernel
theorem dX0_init_71 : decode cX0_init 71 = .ok (.aload_n 0, 1) := by decide +kernel
theorem dX0_init_72 : decode cX0_init 72 = .ok (.getfield 16, 3) := by decide +kernel
theorem dX0_init_75 : decode cX0_init 75 = .ok (.aload_n 0, 1) := by decide +kernel
theorem dX0_init_76 : decode cX0_init 76 = .ok (.getfield 52, 3) := by decide +kernel
theorem dX0_init_79 : decode cX0_init 79 = .ok (.invokespecial 58, 3) := by decide +kernel
theorem dX0_init_82 : decode cX0_init 82 = .ok (.putfield 61, 3) := by decide +kernel
theorem dX0_init_85 : decode cX0_init 85 = .ok (.return_, 1) := by decide +kernel
theorem rs_RX3_3 : mx_res RX3 3 = some (5, 0, 0) := by decide +kernel
theorem rs_RX3_9 : mx_res RX3 9 = some (0, 3, 0) := by decide +kernel
theorem rs_RX3_15 : mx_res RX3 15 = some (0, 3, 4) := by decide +kernel
theorem rs_RX3_19 : mx_res RX3 19 = some (0, 3, 5) := by decide +kernel
theorem rs_RX3_22 : mx_res RX3 22 = some (0, 3, 6) := by decide +kernel
theorem rs_RX3_27 : mx_res RX3 27 = some (0, 3, 11) := by decide +kernel
theorem rs_RX3_30 : mx_res RX3 30 = some (0, 3, 13) := by decide +kernel
theorem ft_3_0 : mx_fty 3 0 = some ((.array .byte), false, "ClassMill$Image") := by decide +kernel
theorem ft_3_4 : mx_fty 3 4 = some ((.array .int), true, "ClassMill$Image") := by decide +kernel
theorem ft_3_5 : mx_fty 3 5 = some ((.array .int), true, "ClassMill$Image") := by decide +kernel
theorem ft_3_6 : mx_fty 3 6 = some ((.array .int), true, "ClassMill$Image") := by decide +kernel
theorem ft_3_11 : mx_fty 3 11 = some ((.array .int), true, "ClassMill$Image") := by decide +kernel
theorem ft_3_13 : mx_fty 3 13 = some ((.array .int), true, "ClassMill$Image") := by decide +kernel
theorem mt_X3_init : mx_mt 91 = some (yX3_init, cX3_init, 1, none) := rfl
theorem dX3_init_0 : decode cX3_init 0 = .ok (.aload_n 0, 1) := by decide +kernel
theorem dX3_init_1 : decode cX3_init 1 = .ok (.invokespecial 3, 3) := by decide +kernel
theorem dX3_init_4 : decode cX3_init 4 = .ok (.aload_n 0, 1) := by decide +kernel
theorem dX3_init_5 : decode cX3_init 5 = .ok (.iconst 0, 1) := by decide +kernel
theorem dX3_init_6 : decode cX3_init 6 = .ok (.newarray .byte, 2) := by decide +kernel
theorem dX3_init_8 : decode cX3_init 8 = .ok (.putfield 9, 3) := by decide +kernel
theorem dX3_init_11 : decode cX3_init 11 = .ok (.aload_n 0, 1) := by decide +kernel
theorem dX3_init_12 : decode cX3_init 12 = .ok (.sipush 256, 3) := by decide +kernel
theorem dX3_init_15 : decode cX3_init 15 = .ok (.newarray .int, 2) := by decide +kernel
theorem dX3_init_17 : decode cX3_init 17 = .ok (.putfield 15, 3) := by decide +kernel
theorem dX3_init_20 : decode cX3_init 20 = .ok (.aload_n 0, 1) := by decide +kernel
theorem dX3_init_21 : decode cX3_init 21 = .ok (.sipush 256, 3) := by decide +kernel
theorem dX3_init_24 : decode cX3_init 24 = .ok (.newarray .int, 2) := by decide +kernel
theorem dX3_init_26 : decode cX3_init 26 = .ok (.putfield 19, 3) := by decide +kernel
theorem dX3_init_29 : decode cX3_init 29 = .ok (.aload_n 0, 1) := by decide +kernel
theorem dX3_init_30 : decode cX3_init 30 = .ok (.sipush 256, 3) := by decide +kernel
theorem dX3_init_33 : decode cX3_init 33 = .ok (.newarray .int, 2) := by decide +kernel
theorem dX3_init_35 : decode cX3_init 35 = .ok (.putfield 22, 3) := by decide +kernel
theorem dX3_init_38 : decode cX3_init 38 = .ok (.aload_n 0, 1) := by decide +kernel
theorem dX3_init_39 : decode cX3_init 39 = .ok (.bipush 24, 2) := by decide +kernel
theorem dX3_init_41 : decode cX3_init 41 = .ok (.newarray .int, 2) := by decide +kernel
theorem dX3_init_43 : decode cX3_init 43 = .ok (.putfield 27, 3) := by decide +kernel
theorem dX3_init_46 : decode cX3_init 46 = .ok (.aload_n 0, 1) := by decide +kernel
theorem dX3_init_47 : decode cX3_init 47 = .ok (.sipush 144, 3) := by decide +kernel
theorem dX3_init_50 : decode cX3_init 50 = .ok (.newarray .int, 2) := by decide +kernel
theorem dX3_init_52 : decode cX3_init 52 = .ok (.putfield 30, 3) := by decide +kernel
theorem dX3_init_55 : decode cX3_init 55 = .ok (.return_, 1) := by decide +kernel
theorem rs_RX11_5 : mx_res RX11 5 = some (5, 0, 0) := by decide +kernel
theorem rs_RX11_11 : mx_res RX11 11 = some (0, 11, 2) := by decide +kernel
theorem rs_RX11_17 : mx_res RX11 17 = some (0, 11, 3) := by decide +kernel
theorem rs_RX11_20 : mx_res RX11 20 = some (0, 11, 4) := by decide +kernel
theorem rs_RX11_23 : mx_res RX11 23 = some (0, 11, 8) := by decide +kernel
theorem rs_RX11_27 : mx_res RX11 27 = some (0, 11, 9) := by decide +kernel
theorem rs_RX11_30 : mx_res RX11 30 = some (0, 11, 10) := by decide +kernel
theorem rs_RX11_33 : mx_res RX11 33 = some (0, 11, 11) := by decide +kernel
theorem rs_RX11_36 : mx_res RX11 36 = some (9, 3, 14) := by decide +kernel
theorem rs_RX11_38 : mx_res RX11 38 = some (0, 11, 12) := by decide +kernel
theorem rs_RX11_41 : mx_res RX11 41 = some (0, 11, 13) := by decide +kernel
theorem rs_RX11_44 : mx_res RX11 44 = some (0, 11, 14) := by decide +kernel
theorem rs_RX11_47 : mx_res RX11 47 = some (0, 11, 15) := by decide +kernel
theorem rs_RX11_50 : mx_res RX11 50 = some (0, 11, 0) := by decide +kernel
theorem rs_RX11_54 : mx_res RX11 54 = some (0, 7, 0) := by decide +kernel
theorem rs_RX11_60 : mx_res RX11 60 = some (0, 11, 1) := by decide +kernel
theorem rs_RX11_61 : mx_res RX11 61 = some (4, 91, 0) := by decide +kernel
theorem rs_RX11_62 : mx_res RX11 62 = some (0, 11, 5) := by decide +kernel
theorem ft_11_0 : mx_fty 11 0 = some ((.object "ClassMill$Space"), true, "ClassMill$Verifier") := by decide +kernel
theorem ft_11_1 : mx_fty 11 1 = some ((.object "ClassMill$Kin"), true, "ClassMill$Verifier") := by decide +kernel
theorem ft_11_2 : mx_fty 11 2 = some (.int, false, "ClassMill$Verifier") := by decide +kernel
theorem ft_11_3 : mx_fty 11 3 = some (.int, false, "ClassMill$Verifier") := by decide +kernel
theorem ft_11_4 : mx_fty 11 4 = some (.int, false, "ClassMill$Verifier") := by decide +kernel
theorem ft_11_5 : mx_fty 11 5 = some ((.object "ClassMill$Image"), false, "ClassMill$Verifier") := by decide +kernel
theorem ft_11_8 : mx_fty 11 8 = some ((.array .int), true, "ClassMill$Verifier") := by decide +kernel
theorem ft_11_9 : mx_fty 11 9 = some ((.array .int), true, "ClassMill$Verifier") := by decide +kernel
theorem ft_11_10 : mx_fty 11 10 = some ((.array .int), true, "ClassMill$Verifier") := by decide +kernel
theorem ft_11_11 : mx_fty 11 11 = some ((.array .int), true, "ClassMill$Verifier") := by decide +kernel
theorem ft_11_12 : mx_fty 11 12 = some ((.array .int), true, "ClassMill$Verifier") := by decide +kernel
theorem ft_11_13 : mx_fty 11 13 = some ((.array .int), true, "ClassMill$Verifier") := by decide +kernel
theorem ft_11_14 : mx_fty 11 14 = some ((.array .int), true, "ClassMill$Verifier") := by decide +kernel
theorem ft_11_15 : mx_fty 11 15 = some ((.array .int), true, "ClassMill$Verifier") := by decide +kernel
theorem dx_3 (X : Nat × (Nat → Int32)) : mx_dfl (mx_GG X) 3 14 = some dl_3 := (mx_dflX X (0, fun _ => 0) 3 14).trans (by decide +kernel)
theorem mt_X11_init : mx_mt 306 = some (yX11_init, cX11_init, 2, none) := rfl
theorem dX11_init_0 : decode cX11_init 0 = .ok (.aload_n 0, 1) := by decide +kernel
theorem dX11_init_1 : decode cX11_init 1 = .ok (.invokespecial 5, 3) := by decide +kernel
theorem dX11_init_4 : decode cX11_init 4 = .ok (.aload_n 0, 1) := by decide +kernel
theorem dX11_init_5 : decode cX11_init 5 = .ok (.iconst (-1), 1) := by decide +kernel
theorem dX11_init_6 : decode cX11_init 6 = .ok (.putfield 11, 3) := by decide +kernel
theorem dX11_init_9 : decode cX11_init 9 = .ok (.aload_n 0, 1) := by decide +kernel
theorem dX11_init_10 : decode cX11_init 10 = .ok (.iconst (-1), 1) := by decide +kernel
theorem dX11_init_11 : decode cX11_init 11 = .ok (.putfield 17, 3) := by decide +kernel
theorem dX11_init_14 : decode cX11_init 14 = .ok (.aload_n 0, 1) := by decide +kernel
theorem dX11_init_15 : decode cX11_init 15 = .ok (.iconst (-1), 1) := by decide +kernel
theorem dX11_init_16 : decode cX11_init 16 = .ok (.putfield 20, 3) := by decide +kernel
theorem dX11_init_19 : decode cX11_init 19 = .ok (.aload_n 0, 1) := by decide +kernel
theorem dX11_init_20 : decode cX11_init 20 = .ok (.sipush 256, 3) := by decide +kernel
theorem dX11_init_23 : decode cX11_init 23 = .ok (.newarray .int, 2) := by decide +kernel
theorem dX11_init_25 : decode cX11_init 25 = .ok (.putfield 23, 3) := by decide +kernel
theorem dX11_init_28 : decode cX11_init 28 = .ok (.aload_n 0, 1) := by decide +kernel
theorem dX11_init_29 : decode cX11_init 29 = .ok (.sipush 256, 3) := by decide +kernel
theorem dX11_init_32 : decode cX11_init 32 = .ok (.newarray .int, 2) := by decide +kernel
theorem dX11_init_34 : decode cX11_init 34 = .ok (.putfield 27, 3) := by decide +kernel
theorem dX11_init_37 : decode cX11_init 37 = .ok (.aload_n 0, 1) := by decide +kernel
theorem dX11_init_38 : decode cX11_init 38 = .ok (.sipush 256, 3) := by decide +kernel
theorem dX11_init_41 : decode cX11_init 41 = .ok (.newarray .int, 2) := by decide +kernel
theorem dX11_init_43 : decode cX11_init 43 = .ok (.putfield 30, 3) := by decide +kernel
theorem dX11_init_46 : decode cX11_init 46 = .ok (.aload_n 0, 1) := by decide +kernel
theorem dX11_init_47 : decode cX11_init 47 = .ok (.sipush 1799, 3) := by decide +kernel
theorem dX11_init_50 : decode cX11_init 50 = .ok (.newarray .int, 2) := by decide +kernel
theorem dX11_init_52 : decode cX11_init 52 = .ok (.putfield 33, 3) := by decide +kernel
theorem dX11_init_55 : decode cX11_init 55 = .ok (.aload_n 0, 1) := by decide +kernel
theorem dX11_init_56 : decode cX11_init 56 = .ok (.sipush 1500, 3) := by decide +kernel
theorem dX11_init_59 : decode cX11_init 59 = .ok (.newarray .int, 2) := by decide +kernel
theorem dX11_init_61 : decode cX11_init 61 = .ok (.putfield 38, 3) := by decide +kernel
theorem dX11_init_64 : decode cX11_init 64 = .ok (.aload_n 0, 1) := by decide +kernel
theorem dX11_init_65 : decode cX11_init 65 = .ok (.sipush 6400, 3) := by decide +kernel
theorem dX11_init_68 : decode cX11_init 68 = .ok (.newarray .int, 2) := by decide +kernel
theorem dX11_init_70 : decode cX11_init 70 = .ok (.putfield 41, 3) := by decide +kernel
theorem dX11_init_73 : decode cX11_init 73 = .ok (.aload_n 0, 1) := by decide +kernel
theorem dX11_init_74 : decode cX11_init 74 = .ok (.bipush 30, 2) := by decide +kernel
theorem dX11_init_76 : decode cX11_init 76 = .ok (.newarray .int, 2) := by decide +kernel
theorem dX11_init_78 : decode cX11_init 78 = .ok (.putfield 44, 3) := by decide +kernel
theorem dX11_init_81 : decode cX11_init 81 = .ok (.aload_n 0, 1) := by decide +kernel
theorem dX11_init_82 : decode cX11_init 82 = .ok (.bipush 30, 2) := by decide +kernel
theorem dX11_init_84 : decode cX11_init 84 = .ok (.newarray .int, 2) := by decide +kernel
theorem dX11_init_86 : decode cX11_init 86 = .ok (.putfield 47, 3) := by decide +kernel
theorem dX11_init_89 : decode cX11_init 89 = .ok (.aload_n 0, 1) := by decide +kernel
theorem dX11_init_90 : decode cX11_init 90 = .ok (.aload_n 1, 1) := by decide +kernel
theorem dX11_init_91 : decode cX11_init 91 = .ok (.putfield 50, 3) := by decide +kernel
theorem dX11_init_94 : decode cX11_init 94 = .ok (.aload_n 0, 1) := by decide +kernel
theorem dX11_init_95 : decode cX11_init 95 = .ok (.aload_n 1, 1) := by decide +kernel
theorem dX11_init_96 : decode cX11_init 96 = .ok (.getfield 54, 3) := by decide +kernel
theorem dX11_init_99 : decode cX11_init 99 = .ok (.putfield 60, 3) := by decide +kernel
theorem dX11_init_102 : decode cX11_init 102 = .ok (.aload_n 0, 1) := by decide +kernel
theorem dX11_init_103 : decode cX11_init 103 = .ok (.new 36, 3) := by decide +kernel
theorem dX11_init_106 : decode cX11_init 106 = .ok (.dup, 1) := by decide +kernel
theorem dX11_init_107 : decode cX11_init 107 = .ok (.invokespecial 61, 3) := by decide +kernel
theorem dX11_init_110 : decode cX11_init 110 = .ok (.putfield 62, 3) := by decide +kernel
theorem dX11_init_113 : decode cX11_init 113 = .ok (.return_, 1) := by decide +kernel
theorem rs_RX4_3 : mx_res RX4 3 = some (5, 0, 0) := by decide +kernel
theorem rs_RX4_19 : mx_res RX4 19 = some (1, 130, 0) := by decide +kernel
theorem ft_4_0 : mx_fty 4 0 = some ((.array .int), true, "ClassMill$Kin") := by decide +kernel
theorem ft_4_1 : mx_fty 4 1 = some ((.array .boolean), true, "ClassMill$Kin") := by decide +kernel
theorem mt_X4_init : mx_mt 129 = some (yX4_init, cX4_init, 1, none) := rfl
theorem dX4_init_0 : decode cX4_init 0 = .ok (.aload_n 0, 1) := by decide +kernel
theorem dX4_init_1 : decode cX4_init 1 = .ok (.invokespecial 3, 3) := by decide +kernel
theorem dX4_init_4 : decode cX4_init 4 = .ok (.aload_n 0, 1) := by decide +kernel
theorem dX4_init_5 : decode cX4_init 5 = .ok (.bipush 16, 2) := by decide +kernel
theorem dX4_init_7 : decode cX4_init 7 = .ok (.newarray .int, 2) := by decide +kernel
theorem dX4_init_9 : decode cX4_init 9 = .ok (.putfield 11, 3) := by decide +kernel
theorem dX4_init_12 : decode cX4_init 12 = .ok (.aload_n 0, 1) := by decide +kernel
theorem dX4_init_13 : decode cX4_init 13 = .ok (.sipush 256, 3) := by decide +kernel
theorem dX4_init_16 : decode cX4_init 16 = .ok (.newarray .boolean, 2) := by decide +kernel
theorem dX4_init_18 : decode cX4_init 18 = .ok (.putfield 15, 3) := by decide +kernel
theorem dX4_init_21 : decode cX4_init 21 = .ok (.aload_n 0, 1) := by decide +kernel
theorem dX4_init_22 : decode cX4_init 22 = .ok (.invokevirtual 19, 3) := by decide +kernel
theorem dX4_init_25 : decode cX4_init 25 = .ok (.return_, 1) := by decide +kernel
theorem rs_RX2_5 : mx_res RX2 5 = some (5, 0, 0) := by decide +kernel
theorem rs_RX2_11 : mx_res RX2 11 = some (9, 4, 2) := by decide +kernel
theorem rs_RX2_13 : mx_res RX2 13 = some (3, 129, 0) := by decide +kernel
theorem ft_2_0 : mx_fty 2 0 = some ((.object "ClassMill$Text"), true, "ClassMill$Heads") := by decide +kernel
theorem ft_2_1 : mx_fty 2 1 = some ((.object "ClassMill$Kin"), true, "ClassMill$Heads") := by decide +kernel
theorem ft_2_3 : mx_fty 2 3 = some ((.array .int), true, "ClassMill$Heads") := by decide +kernel
theorem ft_2_4 : mx_fty 2 4 = some ((.array .int), true, "ClassMill$Heads") := by decide +kernel
theorem ft_2_5 : mx_fty 2 5 = some ((.array .int), true, "ClassMill$Heads") := by decide +kernel
theorem ft_2_6 : mx_fty 2 6 = some ((.array .int), true, "ClassMill$Heads") := by decide +kernel
theorem ft_2_7 : mx_fty 2 7 = some ((.array .int), true, "ClassMill$Heads") := by decide +kernel
theorem ft_2_8 : mx_fty 2 8 = some ((.array .int), true, "ClassMill$Heads") := by decide +kernel
theorem ft_2_9 : mx_fty 2 9 = some ((.array .int), true, "ClassMill$Heads") := by decide +kernel
theorem ft_2_10 : mx_fty 2 10 = some ((.array .int), true, "ClassMill$Heads") := by decide +kernel
theorem ft_2_11 : mx_fty 2 11 = some ((.array .int), true, "ClassMill$Heads") := by decide +kernel
theorem ft_2_12 : mx_fty 2 12 = some ((.array .int), true, "ClassMill$Heads") := by decide +kernel
theorem ft_2_13 : mx_fty 2 13 = some ((.array .boolean), true, "ClassMill$Heads") := by decide +kernel
theorem ft_2_14 : mx_fty 2 14 = some ((.array .int), true, "ClassMill$Heads") := by decide +kernel
theorem ft_2_15 : mx_fty 2 15 = some ((.array .int), true, "ClassMill$Heads") := by decide +kernel
theorem ft_2_16 : mx_fty 2 16 = some ((.array .int), true, "ClassMill$Heads") := by decide +kernel
theorem ft_2_17 : mx_fty 2 17 = some ((.array .int), true, "ClassMill$Heads") := by decide +kernel
theorem ft_2_18 : mx_fty 2 18 = some ((.array .int), true, "ClassMill$Heads") := by decide +kernel
theorem ft_2_19 : mx_fty 2 19 = some ((.array .byte), true, "ClassMill$Heads") := by decide +kernel
theorem dx_4 (X : Nat × (Nat → Int32)) : mx_dfl (mx_GG X) 4 2 = some dl_4 := (mx_dflX X (0, fun _ => 0) 4 2).trans (by decide +kernel)
theorem mt_X2_init : mx_mt 46 = some (yX2_init, cX2_init, 2, none) := rfl
theorem dX2_init_0 : decode cX2_init 0 = .ok (.aload_n 0, 1) := by decide +kernel
theorem dX2_init_1 : decode cX2_init 1 = .ok (.invokespecial 5, 3) := by decide +kernel
theorem dX2_init_4 : decode cX2_init 4 = .ok (.aload_n 0, 1) := by decide +kernel
theorem dX2_init_5 : decode cX2_init 5 = .ok (.new 11, 3) := by decide +kernel
theorem dX2_init_8 : decode cX2_init 8 = .ok (.dup, 1) := by decide +kernel
theorem dX2_init_9 : decode cX2_init 9 = .ok (.invokespecial 13, 3) := by decide +kernel
theorem dX2_init_12 : decode cX2_init 12 = .ok (.putfield 14, 3) := by decide +kernel
theorem dX2_init_15 : decode cX2_init 15 = .ok (.aload_n 0, 1) := by decide +kernel
theorem dX2_init_16 : decode cX2_init 16 = .ok (.sipush 334, 3) := by decide +kernel
theorem dX2_init_19 : decode cX2_init 19 = .ok (.newarray .int, 2) := by decide +kernel
theorem dX2_init_21 : decode cX2_init 21 = .ok (.putfield 20, 3) := by decide +kernel
theorem dX2_init_24 : decode cX2_init 24 = .ok (.aload_n 0, 1) := by decide +kernel
theorem dX2_init_25 : decode cX2_init 25 = .ok (.sipush 1740, 3) := by decide +kernel
theorem dX2_init_28 : decode cX2_init 28 = .ok (.newarray .int, 2) := by decide +kernel
theorem dX2_init_30 : decode cX2_init 30 = .ok (.putfield 24, 3) := by decide +kernel
theorem dX2_init_33 : decode cX2_init 33 = .ok (.aload_n 0, 1) := by decide +kernel
theorem dX2_init_34 : decode cX2_init 34 = .ok (.bipush 8, 2) := by decide +kernel
theorem dX2_init_36 : decode cX2_init 36 = .ok (.newarray .int, 2) := by decide +kernel
theorem dX2_init_38 : decode cX2_init 38 = .ok (.putfield 27, 3) := by decide +kernel
theorem dX2_init_41 : decode cX2_init 41 = .ok (.aload_n 0, 1) := by decide +kernel
theorem dX2_init_42 : decode cX2_init 42 = .ok (.bipush 96, 2) := by decide +kernel
theorem dX2_init_44 : decode cX2_init 44 = .ok (.newarray .int, 2) := by decide +kernel
theorem dX2_init_46 : decode cX2_init 46 = .ok (.putfield 30, 3) := by decide +kernel
theorem dX2_init_49 : decode cX2_init 49 = .ok (.aload_n 0, 1) := by decide +kernel
theorem dX2_init_50 : decode cX2_init 50 = .ok (.bipush 96, 2) := by decide +kernel
theorem dX2_init_52 : decode cX2_init 52 = .ok (.newarray .int, 2) := by decide +kernel
theorem dX2_init_54 : decode cX2_init 54 = .ok (.putfield 33, 3) := by decide +kernel
theorem dX2_init_57 : decode cX2_init 57 = .ok (.aload_n 0, 1) := by decide +kernel
theorem dX2_init_58 : decode cX2_init 58 = .ok (.bipush 96, 2) := by decide +kernel
theorem dX2_init_60 : decode cX2_init 60 = .ok (.newarray .int, 2) := by decide +kernel
theorem dX2_init_62 : decode cX2_init 62 = .ok (.putfield 36, 3) := by decide +kernel
theorem dX2_init_65 : decode cX2_init 65 = .ok (.aload_n 0, 1) := by decide +kernel
theorem dX2_init_66 : decode cX2_init 66 = .ok (.bipush 8, 2) := by decide +kernel
theorem dX2_init_68 : decode cX2_init 68 = .ok (.newarray .int, 2) := by decide +kernel
theorem dX2_init_70 : decode cX2_init 70 = .ok (.putfield 39, 3) := by decide +kernel
theorem dX2_init_73 : decode cX2_init 73 = .ok (.aload_n 0, 1) := by decide +kernel
theorem dX2_init_74 : decode cX2_init 74 = .ok (.bipush 96, 2) := by decide +kernel
theorem dX2_init_76 : decode cX2_init 76 = .ok (.newarray .int, 2) := by decide +kernel
theorem dX2_init_78 : decode cX2_init 78 = .ok (.putfield 42, 3) := by decide +kernel
theorem dX2_init_81 : decode cX2_init 81 = .ok (.aload_n 0, 1) := by decide +kernel
theorem dX2_init_82 : decode cX2_init 82 = .ok (.bipush 96, 2) := by decide +kernel
theorem dX2_init_84 : decode cX2_init 84 = .ok (.newarray .int, 2) := by decide +kernel
theorem dX2_init_86 : decode cX2_init 86 = .ok (.putfield 45, 3) := by decide +kernel
theorem dX2_init_89 : decode cX2_init 89 = .ok (.aload_n 0, 1) := by decide +kernel
theorem dX2_init_90 : decode cX2_init 90 = .ok (.bipush 96, 2) := by decide +kernel
theorem dX2_init_92 : decode cX2_init 92 = .ok (.newarray .int, 2) := by decide +kernel
theorem dX2_init_94 : decode cX2_init 94 = .ok (.putfield 48, 3) := by decide +kernel
theorem dX2_init_97 : decode cX2_init 97 = .ok (.aload_n 0, 1) := by decide +kernel
theorem dX2_init_98 : decode cX2_init 98 = .ok (.bipush 96, 2) := by decide +kernel
theorem dX2_init_100 : decode cX2_init 100 = .ok (.newarray .boolean, 2) := by decide +kernel
theorem dX2_init_102 : decode cX2_init 102 = .ok (.putfield 51, 3) := by decide +kernel
theorem dX2_init_105 : decode cX2_init 105 = .ok (.aload_n 0, 1) := by decide +kernel
theorem dX2_init_106 : decode cX2_init 106 = .ok (.bipush 96, 2) := by decide +kernel
theorem dX2_init_108 : decode cX2_init 108 = .ok (.newarray .int, 2) := by decide +kernel
theorem dX2_init_110 : decode cX2_init 110 = .ok (.putfield 55, 3) := by decide +kernel
theorem dX2_init_113 : decode cX2_init 113 = .ok (.aload_n 0, 1) := by decide +kernel
theorem dX2_init_114 : decode cX2_init 114 = .ok (.bipush 96, 2) := by decide +kernel
theorem dX2_init_116 : decode cX2_init 116 = .ok (.newarray .int, 2) := by decide +kernel
theorem dX2_init_118 : decode cX2_init 118 = .ok (.putfield 58, 3) := by decide +kernel
theorem dX2_init_121 : decode cX2_init 121 = .ok (.aload_n 0, 1) := by decide +kernel
theorem dX2_init_122 : decode cX2_init 122 = .ok (.sipush 576, 3) := by decide +kernel
theorem dX2_init_125 : decode cX2_init 125 = .ok (.newarray .int, 2) := by decide +kernel
theorem dX2_init_127 : decode cX2_init 127 = .ok (.putfield 61, 3) := by decide +kernel
theorem dX2_init_130 : decode cX2_init 130 = .ok (.aload_n 0, 1) := by decide +kernel
theorem dX2_init_131 : decode cX2_init 131 = .ok (.sipush 576, 3) := by decide +kernel
theorem dX2_init_134 : decode cX2_init 134 = .ok (.newarray .int, 2) := by decide +kernel
theorem dX2_init_136 : decode cX2_init 136 = .ok (.putfield 64, 3) := by decide +kernel
theorem dX2_init_139 : decode cX2_init 139 = .ok (.aload_n 0, 1) := by decide +kernel
theorem dX2_init_140 : decode cX2_init 140 = .ok (.bipush 32, 2) := by decide +kernel
theorem dX2_init_142 : decode cX2_init 142 = .ok (.newarray .int, 2) := by decide +kernel
theorem dX2_init_144 : decode cX2_init 144 = .ok (.putfield 67, 3) := by decide +kernel
theorem dX2_init_147 : decode cX2_init 147 = .ok (.aload_n 0, 1) := by decide +kernel
theorem dX2_init_148 : decode cX2_init 148 = .ok (.sipush 128, 3) := by decide +kernel
theorem dX2_init_151 : decode cX2_init 151 = .ok (.newarray .byte, 2) := by decide +kernel
theorem dX2_init_153 : decode cX2_init 153 = .ok (.putfield 70, 3) := by decide +kernel
theorem dX2_init_156 : decode cX2_init 156 = .ok (.aload_n 0, 1) := by decide +kernel
theorem dX2_init_157 : decode cX2_init 157 = .ok (.aload_n 1, 1) := by decide +kernel
theorem dX2_init_158 : decode cX2_init 158 = .ok (.putfield 74, 3) := by decide +kernel
theorem dX2_init_161 : decode cX2_init 161 = .ok (.return_, 1) := by decide +kernel
