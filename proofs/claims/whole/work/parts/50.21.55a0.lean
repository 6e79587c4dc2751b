theorem rs_RX13_1075 : mx_res RX13 1075 = some (1, 582, 0) := by decide +kernel
theorem ft_13_140 : mx_fty 13 140 = some (.int, false, "ClassMillModel") := by decide +kernel
theorem mt_X13_run : mx_mt 578 = some (yX13_run, cX13_run, 3, (some .int)) := rfl
theorem dX13_run_0 : decode cX13_run 0 = .ok (.iload_n 1, 1) := by decide +kernel
theorem dX13_run_1 : decode cX13_run 1 = .ok (.iconst 1, 1) := by decide +kernel
theorem dX13_run_2 : decode cX13_run 2 = .ok (.if_icmp .lt 10, 3) := by decide +kernel
theorem dX13_run_5 : decode cX13_run 5 = .ok (.iload_n 1, 1) := by decide +kernel
theorem dX13_run_6 : decode cX13_run 6 = .ok (.sipush 20000, 3) := by decide +kernel
theorem dX13_run_9 : decode cX13_run 9 = .ok (.if_icmp .le 5, 3) := by decide +kernel
theorem dX13_run_12 : decode cX13_run 12 = .ok (.iconst (-1), 1) := by decide +kernel
theorem dX13_run_13 : decode cX13_run 13 = .ok (.ireturn, 1) := by decide +kernel
theorem dX13_run_14 : decode cX13_run 14 = .ok (.iconst 0, 1) := by decide +kernel
theorem dX13_run_15 : decode cX13_run 15 = .ok (.istore_n 2, 1) := by decide +kernel
theorem dX13_run_16 : decode cX13_run 16 = .ok (.iload_n 2, 1) := by decide +kernel
theorem dX13_run_17 : decode cX13_run 17 = .ok (.iload_n 1, 1) := by decide +kernel
theorem dX13_run_18 : decode cX13_run 18 = .ok (.if_icmp .ge 21, 3) := by decide +kernel
theorem dX13_run_21 : decode cX13_run 21 = .ok (.aload_n 0, 1) := by decide +kernel
theorem dX13_run_22 : decode cX13_run 22 = .ok (.getfield 858, 3) := by decide +kernel
theorem dX13_run_25 : decode cX13_run 25 = .ok (.iconst 1, 1) := by decide +kernel
theorem dX13_run_26 : decode cX13_run 26 = .ok (.if_icmp .ne 13, 3) := by decide +kernel
theorem dX13_run_29 : decode cX13_run 29 = .ok (.aload_n 0, 1) := by decide +kernel
theorem dX13_run_30 : decode cX13_run 30 = .ok (.invokevirtual 1075, 3) := by decide +kernel
theorem dX13_run_33 : decode cX13_run 33 = .ok (.iinc 2 1, 3) := by decide +kernel
theorem dX13_run_36 : decode cX13_run 36 = .ok (.goto (-20), 3) := by decide +kernel
theorem dX13_run_39 : decode cX13_run 39 = .ok (.aload_n 0, 1) := by decide +kernel
theorem dX13_run_40 : decode cX13_run 40 = .ok (.dup, 1) := by decide +kernel
theorem dX13_run_41 : decode cX13_run 41 = .ok (.getfield 1046, 3) := by decide +kernel
theorem dX13_run_44 : decode cX13_run 44 = .ok (.iload_n 2, 1) := by decide +kernel
theorem dX13_run_45 : decode cX13_run 45 = .ok (.iadd, 1) := by decide +kernel
theorem dX13_run_46 : decode cX13_run 46 = .ok (.putfield 1046, 3) := by decide +kernel
theorem dX13_run_49 : decode cX13_run 49 = .ok (.iload_n 2, 1) := by decide +kernel
theorem dX13_run_50 : decode cX13_run 50 = .ok (.ireturn, 1) := by decide +kernel
theorem mt_X13_kindText : mx_mt 534 = some (yX13_kindText, cX13_kindText, 4, (some .int)) := rfl
theorem dX13_kindText_0 : decode cX13_kindText 0 = .ok (.iload_n 3, 1) := by decide +kernel
theorem dX13_kindText_1 : decode cX13_kindText 1 = .ok (.ifCond .eq 24, 3) := by decide +kernel
theorem dX13_kindText_4 : decode cX13_kindText 4 = .ok (.aload_n 0, 1) := by decide +kernel
theorem dX13_kindText_5 : decode cX13_kindText 5 = .ok (.iload_n 1, 1) := by decide +kernel
theorem dX13_kindText_6 : decode cX13_kindText 6 = .ok (.aload_n 0, 1) := by decide +kernel
theorem dX13_kindText_7 : decode cX13_kindText 7 = .ok (.getfield 236, 3) := by decide +kernel
theorem dX13_kindText_10 : decode cX13_kindText 10 = .ok (.bipush 12, 2) := by decide +kernel
theorem dX13_kindText_12 : decode cX13_kindText 12 = .ok (.iload_n 1, 1) := by decide +kernel
theorem dX13_kindText_13 : decode cX13_kindText 13 = .ok (.imul, 1) := by decide +kernel
theorem dX13_kindText_14 : decode cX13_kindText 14 = .ok (.iload_n 2, 1) := by decide +kernel
theorem dX13_kindText_15 : decode cX13_kindText 15 = .ok (.iadd, 1) := by decide +kernel
theorem dX13_kindText_16 : decode cX13_kindText 16 = .ok (.iaload, 1) := by decide +kernel
theorem dX13_kindText_17 : decode cX13_kindText 17 = .ok (.iconst 2, 1) := by decide +kernel
theorem dX13_kindText_18 : decode cX13_kindText 18 = .ok (.iadd, 1) := by decide +kernel
theorem dX13_kindText_19 : decode cX13_kindText 19 = .ok (.invokevirtual 864, 3) := by decide +kernel
theorem dX13_kindText_22 : decode cX13_kindText 22 = .ok (.goto 21, 3) := by decide +kernel
theorem dX13_kindText_25 : decode cX13_kindText 25 = .ok (.aload_n 0, 1) := by decide +kernel
theorem dX13_kindText_26 : decode cX13_kindText 26 = .ok (.iload_n 1, 1) := by decide +kernel
theorem dX13_kindText_27 : decode cX13_kindText 27 = .ok (.aload_n 0, 1) := by decide +kernel
theorem dX13_kindText_28 : decode cX13_kindText 28 = .ok (.getfield 230, 3) := by decide +kernel
theorem dX13_kindText_31 : decode cX13_kindText 31 = .ok (.bipush 12, 2) := by decide +kernel
theorem dX13_kindText_33 : decode cX13_kindText 33 = .ok (.iload_n 1, 1) := by decide +kernel
theorem dX13_kindText_34 : decode cX13_kindText 34 = .ok (.imul, 1) := by decide +kernel
theorem dX13_kindText_35 : decode cX13_kindText 35 = .ok (.iload_n 2, 1) := by decide +kernel
theorem dX13_kindText_36 : decode cX13_kindText 36 = .ok (.iadd, 1) := by decide +kernel
theorem dX13_kindText_37 : decode cX13_kindText 37 = .ok (.iaload, 1) := by decide +kernel
theorem dX13_kindText_38 : decode cX13_kindText 38 = .ok (.iconst 1, 1) := by decide +kernel
theorem dX13_kindText_39 : decode cX13_kindText 39 = .ok (.iadd, 1) := by decide +kernel
theorem dX13_kindText_40 : decode cX13_kindText 40 = .ok (.invokevirtual 864, 3) := by decide +kernel
theorem dX13_kindText_43 : decode cX13_kindText 43 = .ok (.ireturn, 1) := by decide +kernel
theorem rs_RX13_910 : mx_res RX13 910 = some (1, 534, 3) := by decide +kernel
theorem mt_X13_start : mx_mt 569 = some (yX13_start, cX13_start, 5, (some .boolean)) := rfl
theorem dX13_start_0 : decode cX13_start 0 = .ok (.iload_n 1, 1) := by decide +kernel
theorem dX13_start_1 : decode cX13_start 1 = .ok (.bipush 8, 2) := by decide +kernel
theorem dX13_start_3 : decode cX13_start 3 = .ok (.isub, 1) := by decide +kernel
theorem dX13_start_4 : decode cX13_start 4 = .ok (.istore_n 3, 1) := by decide +kernel
theorem dX13_start_5 : decode cX13_start 5 = .ok (.aload_n 0, 1) := by decide +kernel
theorem dX13_start_6 : decode cX13_start 6 = .ok (.getfield 855, 3) := by decide +kernel
theorem dX13_start_9 : decode cX13_start 9 = .ok (.ifCond .eq 29, 3) := by decide +kernel
theorem dX13_start_12 : decode cX13_start 12 = .ok (.iload_n 3, 1) := by decide +kernel
theorem dX13_start_13 : decode cX13_start 13 = .ok (.ifCond .lt 25, 3) := by decide +kernel
theorem dX13_start_16 : decode cX13_start 16 = .ok (.iload_n 3, 1) := by decide +kernel
theorem dX13_start_17 : decode cX13_start 17 = .ok (.aload_n 0, 1) := by decide +kernel
theorem dX13_start_18 : decode cX13_start 18 = .ok (.getfield 833, 3) := by decide +kernel
theorem dX13_start_21 : decode cX13_start 21 = .ok (.if_icmp .ge 17, 3) := by decide +kernel
theorem dX13_start_24 : decode cX13_start 24 = .ok (.iload_n 2, 1) := by decide +kernel
theorem dX13_start_25 : decode cX13_start 25 = .ok (.ifCond .lt 13, 3) := by decide +kernel
theorem dX13_start_28 : decode cX13_start 28 = .ok (.iload_n 2, 1) := by decide +kernel
theorem dX13_start_29 : decode cX13_start 29 = .ok (.aload_n 0, 1) := by decide +kernel
theorem dX13_start_30 : decode cX13_start 30 = .ok (.getfield 233, 3) := by decide +kernel
theorem dX13_start_33 : decode cX13_start 33 = .ok (.iload_n 3, 1) := by decide +kernel
theorem dX13_start_34 : decode cX13_start 34 = .ok (.iaload, 1) := by decide +kernel
theorem dX13_start_35 : decode cX13_start 35 = .ok (.if_icmp .lt 5, 3) := by decide +kernel
theorem dX13_start_38 : decode cX13_start 38 = .ok (.iconst 0, 1) := by decide +kernel
theorem dX13_start_39 : decode cX13_start 39 = .ok (.ireturn, 1) := by decide +kernel
theorem dX13_start_40 : decode cX13_start 40 = .ok (.sipush 6000, 3) := by decide +kernel
theorem dX13_start_43 : decode cX13_start 43 = .ok (.iload_n 3, 1) := by decide +kernel
theorem dX13_start_44 : decode cX13_start 44 = .ok (.imul, 1) := by decide +kernel
theorem dX13_start_45 : decode cX13_start 45 = .ok (.aload_n 0, 1) := by decide +kernel
theorem dX13_start_46 : decode cX13_start 46 = .ok (.getfield 215, 3) := by decide +kernel
theorem dX13_start_49 : decode cX13_start 49 = .ok (.sipush 256, 3) := by decide +kernel
theorem dX13_start_52 : decode cX13_start 52 = .ok (.iload_n 3, 1) := by decide +kernel
theorem dX13_start_53 : decode cX13_start 53 = .ok (.imul, 1) := by decide +kernel
theorem dX13_start_54 : decode cX13_start 54 = .ok (.aload_n 0, 1) := by decide +kernel
theorem dX13_start_55 : decode cX13_start 55 = .ok (.iload_n 3, 1) := by decide +kernel
theorem dX13_start_56 : decode cX13_start 56 = .ok (.iload_n 2, 1) := by decide +kernel
theorem dX13_start_57 : decode cX13_start 57 = .ok (.iconst 1, 1) := by decide +kernel
theorem dX13_start_58 : decode cX13_start 58 = .ok (.invokevirtual 910, 3) := by decide +kernel
theorem dX13_start_61 : decode cX13_start 61 = .ok (.iadd, 1) := by decide +kernel
theorem dX13_start_62 : decode cX13_start 62 = .ok (.iaload, 1) := by decide +kernel
theorem dX13_start_63 : decode cX13_start 63 = .ok (.iadd, 1) := by decide +kernel
theorem dX13_start_64 : decode cX13_start 64 = .ok (.iconst 2, 1) := by decide +kernel
theorem dX13_start_65 : decode cX13_start 65 = .ok (.iadd, 1) := by decide +kernel
theorem dX13_start_66 : decode cX13_start 66 = .ok (.istore 4, 2) := by decide +kernel
theorem dX13_start_68 : decode cX13_start 68 = .ok (.aload_n 0, 1) := by decide +kernel
theorem dX13_start_69 : decode cX13_start 69 = .ok (.iload_n 3, 1) := by decide +kernel
theorem dX13_start_70 : decode cX13_start 70 = .ok (.aload_n 0, 1) := by decide +kernel
theorem dX13_start_71 : decode cX13_start 71 = .ok (.getfield 236, 3) := by decide +kernel
theorem dX13_start_74 : decode cX13_start 74 = .ok (.bipush 12, 2) := by decide +kernel
theorem dX13_start_76 : decode cX13_start 76 = .ok (.iload_n 3, 1) := by decide +kernel
theorem dX13_start_77 : decode cX13_start 77 = .ok (.imul, 1) := by decide +kernel
theorem dX13_start_78 : decode cX13_start 78 = .ok (.iload_n 2, 1) := by decide +kernel
theorem dX13_start_79 : decode cX13_start 79 = .ok (.iadd, 1) := by decide +kernel
theorem dX13_start_80 : decode cX13_start 80 = .ok (.iaload, 1) := by decide +kernel
theorem dX13_start_81 : decode cX13_start 81 = .ok (.invokevirtual 864, 3) := by decide +kernel
theorem dX13_start_84 : decode cX13_start 84 = .ok (.ifCond .eq 17, 3) := by decide +kernel
theorem dX13_start_87 : decode cX13_start 87 = .ok (.aload_n 0, 1) := by decide +kernel
theorem dX13_start_88 : decode cX13_start 88 = .ok (.getfield 209, 3) := by decide +kernel
theorem dX13_start_91 : decode cX13_start 91 = .ok (.iload 4, 2) := by decide +kernel
theorem dX13_start_93 : decode cX13_start 93 = .ok (.iconst 1, 1) := by decide +kernel
theorem dX13_start_94 : decode cX13_start 94 = .ok (.iadd, 1) := by decide +kernel
theorem dX13_start_95 : decode cX13_start 95 = .ok (.iaload, 1) := by decide +kernel
theorem dX13_start_96 : decode cX13_start 96 = .ok (.bipush 41, 2) := by decide +kernel
theorem dX13_start_98 : decode cX13_start 98 = .ok (.if_icmp .eq 5, 3) := by decide +kernel
theorem dX13_start_101 : decode cX13_start 101 = .ok (.iconst 0, 1) := by decide +kernel
theorem dX13_start_102 : decode cX13_start 102 = .ok (.ireturn, 1) := by decide +kernel
theorem dX13_start_103 : decode cX13_start 103 = .ok (.aload_n 0, 1) := by decide +kernel
theorem dX13_start_104 : decode cX13_start 104 = .ok (.iconst 1, 1) := by decide +kernel
theorem dX13_start_105 : decode cX13_start 105 = .ok (.putfield 858, 3) := by decide +kernel
theorem dX13_start_108 : decode cX13_start 108 = .ok (.aload_n 0, 1) := by decide +kernel
theorem dX13_start_109 : decode cX13_start 109 = .ok (.iconst (-1), 1) := by decide +kernel
theorem dX13_start_110 : decode cX13_start 110 = .ok (.putfield 1043, 3) := by decide +kernel
theorem dX13_start_113 : decode cX13_start 113 = .ok (.aload_n 0, 1) := by decide +kernel
theorem dX13_start_114 : decode cX13_start 114 = .ok (.iconst 0, 1) := by decide +kernel
theorem dX13_start_115 : decode cX13_start 115 = .ok (.putfield 1046, 3) := by decide +kernel
theorem dX13_start_118 : decode cX13_start 118 = .ok (.aload_n 0, 1) := by decide +kernel
theorem dX13_start_119 : decode cX13_start 119 = .ok (.iconst 0, 1) := by decide +kernel
theorem dX13_start_120 : decode cX13_start 120 = .ok (.putfield 1049, 3) := by decide +kernel
theorem dX13_start_123 : decode cX13_start 123 = .ok (.aload_n 0, 1) := by decide +kernel
theorem dX13_start_124 : decode cX13_start 124 = .ok (.iconst 0, 1) := by decide +kernel
theorem dX13_start_125 : decode cX13_start 125 = .ok (.putfield 1052, 3) := by decide +kernel
theorem dX13_start_128 : decode cX13_start 128 = .ok (.aload_n 0, 1) := by decide +kernel
theorem dX13_start_129 : decode cX13_start 129 = .ok (.iconst 0, 1) := by decide +kernel
theorem dX13_start_130 : decode cX13_start 130 = .ok (.putfield 1055, 3) := by decide +kernel
theorem dX13_start_133 : decode cX13_start 133 = .ok (.aload_n 0, 1) := by decide +kernel
theorem dX13_start_134 : decode cX13_start 134 = .ok (.iconst 0, 1) := by decide +kernel
theorem dX13_start_135 : decode cX13_start 135 = .ok (.putfield 1058, 3) := by decide +kernel
theorem dX13_start_138 : decode cX13_start 138 = .ok (.aload_n 0, 1) := by decide +kernel
theorem dX13_start_139 : decode cX13_start 139 = .ok (.iload_n 1, 1) := by decide +kernel
theorem dX13_start_140 : decode cX13_start 140 = .ok (.iload_n 2, 1) := by decide +kernel
theorem dX13_start_141 : decode cX13_start 141 = .ok (.invokevirtual 1061, 3) := by decide +kernel
theorem dX13_start_144 : decode cX13_start 144 = .ok (.iconst 1, 1) := by decide +kernel
theorem dX13_start_145 : decode cX13_start 145 = .ok (.ireturn, 1) := by decide +kernel
theorem mt_X13_type_ : mx_mt 598 = some (yX13_type_, cX13_type_, 4, (some .int)) := rfl
theorem dX13_type__0 : decode cX13_type_ 0 = .ok (.iload_n 1, 1) := by decide +kernel
theorem dX13_type__1 : decode cX13_type_ 1 = .ok (.ifCond .lt 23, 3) := by decide +kernel
theorem dX13_type__4 : decode cX13_type_ 4 = .ok (.iload_n 1, 1) := by decide +kernel
theorem dX13_type__5 : decode cX13_type_ 5 = .ok (.bipush 8, 2) := by decide +kernel
theorem dX13_type__7 : decode cX13_type_ 7 = .ok (.aload_n 0, 1) := by decide +kernel
theorem dX13_type__8 : decode cX13_type_ 8 = .ok (.getfield 833, 3) := by decide +kernel
theorem dX13_type__11 : decode cX13_type_ 11 = .ok (.iadd, 1) := by decide +kernel
theorem dX13_type__12 : decode cX13_type_ 12 = .ok (.if_icmp .ge 12, 3) := by decide +kernel
theorem dX13_type__15 : decode cX13_type_ 15 = .ok (.iload_n 2, 1) := by decide +kernel
theorem dX13_type__16 : decode cX13_type_ 16 = .ok (.ifCond .lt 8, 3) := by decide +kernel
theorem dX13_type__19 : decode cX13_type_ 19 = .ok (.iload_n 2, 1) := by decide +kernel
theorem dX13_type__20 : decode cX13_type_ 20 = .ok (.iconst 4, 1) := by decide +kernel
theorem dX13_type__21 : decode cX13_type_ 21 = .ok (.if_icmp .le 5, 3) := by decide +kernel
theorem dX13_type__24 : decode cX13_type_ 24 = .ok (.iconst (-1), 1) := by decide +kernel
theorem dX13_type__25 : decode cX13_type_ 25 = .ok (.ireturn, 1) := by decide +kernel
theorem dX13_type__26 : decode cX13_type_ 26 = .ok (.iload_n 2, 1) := by decide +kernel
theorem dX13_type__27 : decode cX13_type_ 27 = .ok (.ifCond .ne 9, 3) := by decide +kernel
theorem dX13_type__30 : decode cX13_type_ 30 = .ok (.aload_n 0, 1) := by decide +kernel
theorem dX13_type__31 : decode cX13_type_ 31 = .ok (.iload_n 1, 1) := by decide +kernel
theorem dX13_type__32 : decode cX13_type_ 32 = .ok (.invokevirtual 873, 3) := by decide +kernel
theorem dX13_type__35 : decode cX13_type_ 35 = .ok (.ireturn, 1) := by decide +kernel
theorem dX13_type__36 : decode cX13_type_ 36 = .ok (.iload_n 1, 1) := by decide +kernel
theorem dX13_type__37 : decode cX13_type_ 37 = .ok (.bipush 8, 2) := by decide +kernel
theorem dX13_type__39 : decode cX13_type_ 39 = .ok (.isub, 1) := by decide +kernel
theorem dX13_type__40 : decode cX13_type_ 40 = .ok (.istore_n 3, 1) := by decide +kernel
theorem dX13_type__41 : decode cX13_type_ 41 = .ok (.iload_n 3, 1) := by decide +kernel
theorem dX13_type__42 : decode cX13_type_ 42 = .ok (.ifCond .ge 5, 3) := by decide +kernel
theorem dX13_type__45 : decode cX13_type_ 45 = .ok (.iconst 0, 1) := by decide +kernel
theorem dX13_type__46 : decode cX13_type_ 46 = .ok (.ireturn, 1) := by decide +kernel
theorem dX13_type__47 : decode cX13_type_ 47 = .ok (.iload_n 2, 1) := by decide +kernel
theorem dX13_type__48 : decode cX13_type_ 48 = .ok (.tableswitch 49 1 3 #[28, 35, 42], 28) := by decide +kernel
theorem dX13_type__76 : decode cX13_type_ 76 = .ok (.aload_n 0, 1) := by decide +kernel
theorem dX13_type__77 : decode cX13_type_ 77 = .ok (.getfield 227, 3) := by decide +kernel
theorem dX13_type__80 : decode cX13_type_ 80 = .ok (.iload_n 3, 1) := by decide +kernel
theorem dX13_type__81 : decode cX13_type_ 81 = .ok (.iaload, 1) := by decide +kernel
theorem dX13_type__82 : decode cX13_type_ 82 = .ok (.ireturn, 1) := by decide +kernel
theorem dX13_type__83 : decode cX13_type_ 83 = .ok (.aload_n 0, 1) := by decide +kernel
theorem dX13_type__84 : decode cX13_type_ 84 = .ok (.getfield 233, 3) := by decide +kernel
theorem dX13_type__87 : decode cX13_type_ 87 = .ok (.iload_n 3, 1) := by decide +kernel
theorem dX13_type__88 : decode cX13_type_ 88 = .ok (.iaload, 1) := by decide +kernel
theorem dX13_type__89 : decode cX13_type_ 89 = .ok (.ireturn, 1) := by decide +kernel
theorem dX13_type__90 : decode cX13_type_ 90 = .ok (.aload_n 0, 1) := by decide +kernel
theorem dX13_type__91 : decode cX13_type_ 91 = .ok (.getfield 212, 3) := by decide +kernel
theorem dX13_type__94 : decode cX13_type_ 94 = .ok (.iload_n 3, 1) := by decide +kernel
theorem dX13_type__95 : decode cX13_type_ 95 = .ok (.iaload, 1) := by decide +kernel
theorem dX13_type__96 : decode cX13_type_ 96 = .ok (.ireturn, 1) := by decide +kernel
theorem dX13_type__97 : decode cX13_type_ 97 = .ok (.aload_n 0, 1) := by decide +kernel
theorem dX13_type__98 : decode cX13_type_ 98 = .ok (.getfield 218, 3) := by decide +kernel
theorem dX13_type__101 : decode cX13_type_ 101 = .ok (.iload_n 3, 1) := by decide +kernel
theorem dX13_type__102 : decode cX13_type_ 102 = .ok (.iaload, 1) := by decide +kernel
theorem dX13_type__103 : decode cX13_type_ 103 = .ok (.ireturn, 1) := by decide +kernel
theorem rs_RX13_901 : mx_res RX13 901 = some (0, 13, 122) := by decide +kernel
theorem ft_13_122 : mx_fty 13 122 = some (.int, false, "ClassMillModel") := by decide +kernel
theorem mt_X13_bad : mx_mt 535 = some (yX13_bad, cX13_bad, 5, (some .boolean)) := rfl
theorem dX13_bad_0 : decode cX13_bad 0 = .ok (.aload_n 0, 1) := by decide +kernel
theorem dX13_bad_1 : decode cX13_bad 1 = .ok (.iload_n 1, 1) := by decide +kernel
theorem dX13_bad_2 : decode cX13_bad 2 = .ok (.putfield 901, 3) := by decide +kernel
theorem dX13_bad_5 : decode cX13_bad 5 = .ok (.aload_n 0, 1) := by decide +kernel
theorem dX13_bad_6 : decode cX13_bad 6 = .ok (.iload_n 2, 1) := by decide +kernel
theorem dX13_bad_7 : decode cX13_bad 7 = .ok (.putfield 257, 3) := by decide +kernel
theorem dX13_bad_10 : decode cX13_bad 10 = .ok (.aload_n 0, 1) := by decide +kernel
theorem dX13_bad_11 : decode cX13_bad 11 = .ok (.iload_n 3, 1) := by decide +kernel
theorem dX13_bad_12 : decode cX13_bad 12 = .ok (.putfield 261, 3) := by decide +kernel
theorem dX13_bad_15 : decode cX13_bad 15 = .ok (.aload_n 0, 1) := by decide +kernel
theorem dX13_bad_16 : decode cX13_bad 16 = .ok (.iload 4, 2) := by decide +kernel
theorem dX13_bad_18 : decode cX13_bad 18 = .ok (.putfield 264, 3) := by decide +kernel
theorem dX13_bad_21 : decode cX13_bad 21 = .ok (.iconst 0, 1) := by decide +kernel
theorem dX13_bad_22 : decode cX13_bad 22 = .ok (.ireturn, 1) := by decide +kernel
theorem mt_X13_isThere : mx_mt 531 = some (yX13_isThere, cX13_isThere, 1, (some .boolean)) := rfl
theorem dX13_isThere_0 : decode cX13_isThere 0 = .ok (.iload_n 0, 1) := by decide +kernel
theorem dX13_isThere_1 : decode cX13_isThere 1 = .ok (.iconst 4, 1) := by decide +kernel
theorem dX13_isThere_2 : decode cX13_isThere 2 = .ok (.if_icmp .lt 13, 3) := by decide +kernel
theorem dX13_isThere_5 : decode cX13_isThere 5 = .ok (.iload_n 0, 1) := by decide +kernel
theorem dX13_isThere_6 : decode cX13_isThere 6 = .ok (.iconst 4, 1) := by decide +kernel
theorem dX13_isThere_7 : decode cX13_isThere 7 = .ok (.isub, 1) := by decide +kernel
theorem dX13_isThere_8 : decode cX13_isThere 8 = .ok (.iconst 2, 1) := by decide +kernel
theorem dX13_isThere_9 : decode cX13_isThere 9 = .ok (.idiv, 1) := by decide +kernel
theorem dX13_isThere_10 : decode cX13_isThere 10 = .ok (.bipush 16, 2) := by decide +kernel
theorem dX13_isThere_12 : decode cX13_isThere 12 = .ok (.if_icmp .ge 7, 3) := by decide +kernel
theorem dX13_isThere_15 : decode cX13_isThere 15 = .ok (.iconst 1, 1) := by decide +kernel
theorem dX13_isThere_16 : decode cX13_isThere 16 = .ok (.goto 4, 3) := by decide +kernel
theorem dX13_isThere_19 : decode cX13_isThere 19 = .ok (.iconst 0, 1) := by decide +kernel
theorem dX13_isThere_20 : decode cX13_isThere 20 = .ok (.ireturn, 1) := by decide +kernel
theorem rs_RX13_876 : mx_res RX13 876 = some (0, 13, 117) := by decide +kernel
theorem ft_13_117 : mx_fty 13 117 = some (.int, false, "ClassMillModel") := by decide +kernel
theorem mt_X13_nameNumber : mx_mt 525 = some (yX13_nameNumber, cX13_nameNumber, 7, (some .int)) := rfl
theorem dX13_nameNumber_0 : decode cX13_nameNumber 0 = .ok (.aload_n 0, 1) := by decide +kernel
theorem dX13_nameNumber_1 : decode cX13_nameNumber 1 = .ok (.aload_n 0, 1) := by decide +kernel
theorem dX13_nameNumber_2 : decode cX13_nameNumber 2 = .ok (.getfield 209, 3) := by decide +kernel
theorem dX13_nameNumber_5 : decode cX13_nameNumber 5 = .ok (.iload_n 1, 1) := by decide +kernel
theorem dX13_nameNumber_6 : decode cX13_nameNumber 6 = .ok (.iload_n 2, 1) := by decide +kernel
theorem dX13_nameNumber_7 : decode cX13_nameNumber 7 = .ok (.invokevirtual 849, 3) := by decide +kernel
theorem dX13_nameNumber_10 : decode cX13_nameNumber 10 = .ok (.istore_n 3, 1) := by decide +kernel
theorem dX13_nameNumber_11 : decode cX13_nameNumber 11 = .ok (.iload_n 3, 1) := by decide +kernel
theorem dX13_nameNumber_12 : decode cX13_nameNumber 12 = .ok (.iconst (-1), 1) := by decide +kernel
theorem dX13_nameNumber_13 : decode cX13_nameNumber 13 = .ok (.if_icmp .eq 5, 3) := by decide +kernel
theorem dX13_nameNumber_16 : decode cX13_nameNumber 16 = .ok (.iload_n 3, 1) := by decide +kernel
theorem dX13_nameNumber_17 : decode cX13_nameNumber 17 = .ok (.ireturn, 1) := by decide +kernel
theorem dX13_nameNumber_18 : decode cX13_nameNumber 18 = .ok (.iconst 0, 1) := by decide +kernel
theorem dX13_nameNumber_19 : decode cX13_nameNumber 19 = .ok (.istore 4, 2) := by decide +kernel
theorem dX13_nameNumber_21 : decode cX13_nameNumber 21 = .ok (.iload 4, 2) := by decide +kernel
theorem dX13_nameNumber_23 : decode cX13_nameNumber 23 = .ok (.aload_n 0, 1) := by decide +kernel
theorem dX13_nameNumber_24 : decode cX13_nameNumber 24 = .ok (.getfield 876, 3) := by decide +kernel
theorem dX13_nameNumber_27 : decode cX13_nameNumber 27 = .ok (.if_icmp .ge 92, 3) := by decide +kernel
theorem dX13_nameNumber_30 : decode cX13_nameNumber 30 = .ok (.aload_n 0, 1) := by decide +kernel
theorem dX13_nameNumber_31 : decode cX13_nameNumber 31 = .ok (.getfield 254, 3) := by decide +kernel
theorem dX13_nameNumber_34 : decode cX13_nameNumber 34 = .ok (.iload 4, 2) := by decide +kernel
theorem dX13_nameNumber_36 : decode cX13_nameNumber 36 = .ok (.iaload, 1) := by decide +kernel
theorem dX13_nameNumber_37 : decode cX13_nameNumber 37 = .ok (.iload_n 2, 1) := by decide +kernel
theorem dX13_nameNumber_38 : decode cX13_nameNumber 38 = .ok (.if_icmp .ne 7, 3) := by decide +kernel
theorem dX13_nameNumber_41 : decode cX13_nameNumber 41 = .ok (.iconst 1, 1) := by decide +kernel
theorem dX13_nameNumber_42 : decode cX13_nameNumber 42 = .ok (.goto 4, 3) := by decide +kernel
theorem dX13_nameNumber_45 : decode cX13_nameNumber 45 = .ok (.iconst 0, 1) := by decide +kernel
theorem dX13_nameNumber_46 : decode cX13_nameNumber 46 = .ok (.istore 5, 2) := by decide +kernel
theorem dX13_nameNumber_48 : decode cX13_nameNumber 48 = .ok (.iconst 0, 1) := by decide +kernel
theorem dX13_nameNumber_49 : decode cX13_nameNumber 49 = .ok (.istore 6, 2) := by decide +kernel
theorem dX13_nameNumber_51 : decode cX13_nameNumber 51 = .ok (.iload 6, 2) := by decide +kernel
theorem dX13_nameNumber_53 : decode cX13_nameNumber 53 = .ok (.iload_n 2, 1) := by decide +kernel
theorem dX13_nameNumber_54 : decode cX13_nameNumber 54 = .ok (.if_icmp .ge 48, 3) := by decide +kernel
theorem dX13_nameNumber_57 : decode cX13_nameNumber 57 = .ok (.iload 5, 2) := by decide +kernel
theorem dX13_nameNumber_59 : decode cX13_nameNumber 59 = .ok (.ifCond .eq 43, 3) := by decide +kernel
theorem dX13_nameNumber_62 : decode cX13_nameNumber 62 = .ok (.aload_n 0, 1) := by decide +kernel
theorem dX13_nameNumber_63 : decode cX13_nameNumber 63 = .ok (.getfield 209, 3) := by decide +kernel
theorem dX13_nameNumber_66 : decode cX13_nameNumber 66 = .ok (.aload_n 0, 1) := by decide +kernel
theorem dX13_nameNumber_67 : decode cX13_nameNumber 67 = .ok (.getfield 251, 3) := by decide +kernel
theorem dX13_nameNumber_70 : decode cX13_nameNumber 70 = .ok (.iload 4, 2) := by decide +kernel
theorem dX13_nameNumber_72 : decode cX13_nameNumber 72 = .ok (.iaload, 1) := by decide +kernel
theorem dX13_nameNumber_73 : decode cX13_nameNumber 73 = .ok (.iload 6, 2) := by decide +kernel
theorem dX13_nameNumber_75 : decode cX13_nameNumber 75 = .ok (.iadd, 1) := by decide +kernel
theorem dX13_nameNumber_76 : decode cX13_nameNumber 76 = .ok (.iaload, 1) := by decide +kernel
theorem dX13_nameNumber_77 : decode cX13_nameNumber 77 = .ok (.aload_n 0, 1) := by decide +kernel
theorem dX13_nameNumber_78 : decode cX13_nameNumber 78 = .ok (.getfield 209, 3) := by decide +kernel
theorem dX13_nameNumber_81 : decode cX13_nameNumber 81 = .ok (.iload_n 1, 1) := by decide +kernel
theorem dX13_nameNumber_82 : decode cX13_nameNumber 82 = .ok (.iload 6, 2) := by decide +kernel
theorem dX13_nameNumber_84 : decode cX13_nameNumber 84 = .ok (.iadd, 1) := by decide +kernel
theorem dX13_nameNumber_85 : decode cX13_nameNumber 85 = .ok (.iaload, 1) := by decide +kernel
theorem dX13_nameNumber_86 : decode cX13_nameNumber 86 = .ok (.if_icmp .ne 7, 3) := by decide +kernel
theorem dX13_nameNumber_89 : decode cX13_nameNumber 89 = .ok (.iconst 1, 1) := by decide +kernel
theorem dX13_nameNumber_90 : decode cX13_nameNumber 90 = .ok (.goto 4, 3) := by decide +kernel
theorem dX13_nameNumber_93 : decode cX13_nameNumber 93 = .ok (.iconst 0, 1) := by decide +kernel
theorem dX13_nameNumber_94 : decode cX13_nameNumber 94 = .ok (.istore 5, 2) := by decide +kernel
theorem dX13_nameNumber_96 : decode cX13_nameNumber 96 = .ok (.iinc 6 1, 3) := by decide +kernel
theorem dX13_nameNumber_99 : decode cX13_nameNumber 99 = .ok (.goto (-48), 3) := by decide +kernel
theorem dX13_nameNumber_102 : decode cX13_nameNumber 102 = .ok (.iload 5, 2) := by decide +kernel
theorem dX13_nameNumber_104 : decode cX13_nameNumber 104 = .ok (.ifCond .eq 9, 3) := by decide +kernel
theorem dX13_nameNumber_107 : decode cX13_nameNumber 107 = .ok (.bipush 16, 2) := by decide +kernel
theorem dX13_nameNumber_109 : decode cX13_nameNumber 109 = .ok (.iload 4, 2) := by decide +kernel
theorem dX13_nameNumber_111 : decode cX13_nameNumber 111 = .ok (.iadd, 1) := by decide +kernel
theorem dX13_nameNumber_112 : decode cX13_nameNumber 112 = .ok (.ireturn, 1) := by decide +kernel
theorem dX13_nameNumber_113 : decode cX13_nameNumber 113 = .ok (.iinc 4 1, 3) := by decide +kernel
theorem dX13_nameNumber_116 : decode cX13_nameNumber 116 = .ok (.goto (-95), 3) := by decide +kernel
theorem dX13_nameNumber_119 : decode cX13_nameNumber 119 = .ok (.aload_n 0, 1) := by decide +kernel
theorem dX13_nameNumber_120 : decode cX13_nameNumber 120 = .ok (.getfield 251, 3) := by decide +kernel
theorem dX13_nameNumber_123 : decode cX13_nameNumber 123 = .ok (.aload_n 0, 1) := by decide +kernel
theorem dX13_nameNumber_124 : decode cX13_nameNumber 124 = .ok (.getfield 876, 3) := by decide +kernel
theorem dX13_nameNumber_127 : decode cX13_nameNumber 127 = .ok (.iload_n 1, 1) := by decide +kernel
theorem dX13_nameNumber_128 : decode cX13_nameNumber 128 = .ok (.iastore, 1) := by decide +kernel
theorem dX13_nameNumber_129 : decode cX13_nameNumber 129 = .ok (.aload_n 0, 1) := by decide +kernel
theorem dX13_nameNumber_130 : decode cX13_nameNumber 130 = .ok (.getfield 254, 3) := by decide +kernel
theorem dX13_nameNumber_133 : decode cX13_nameNumber 133 = .ok (.aload_n 0, 1) := by decide +kernel
theorem dX13_nameNumber_134 : decode cX13_nameNumber 134 = .ok (.getfield 876, 3) := by decide +kernel
theorem dX13_nameNumber_137 : decode cX13_nameNumber 137 = .ok (.iload_n 2, 1) := by decide +kernel
theorem dX13_nameNumber_138 : decode cX13_nameNumber 138 = .ok (.iastore, 1) := by decide +kernel
theorem dX13_nameNumber_139 : decode cX13_nameNumber 139 = .ok (.aload_n 0, 1) := by decide +kernel
theorem dX13_nameNumber_140 : decode cX13_nameNumber 140 = .ok (.dup, 1) := by decide +kernel
theorem dX13_nameNumber_141 : decode cX13_nameNumber 141 = .ok (.getfield 876, 3) := by decide +kernel
theorem dX13_nameNumber_144 : decode cX13_nameNumber 144 = .ok (.iconst 1, 1) := by decide +kernel
theorem dX13_nameNumber_145 : decode cX13_nameNumber 145 = .ok (.iadd, 1) := by decide +kernel
theorem dX13_nameNumber_146 : decode cX13_nameNumber 146 = .ok (.putfield 876, 3) := by decide +kernel
theorem dX13_nameNumber_149 : decode cX13_nameNumber 149 = .ok (.bipush 16, 2) := by decide +kernel
theorem dX13_nameNumber_151 : decode cX13_nameNumber 151 = .ok (.aload_n 0, 1) := by decide +kernel
theorem dX13_nameNumber_152 : decode cX13_nameNumber 152 = .ok (.getfield 876, 3) := by decide +kernel
theorem dX13_nameNumber_155 : decode cX13_nameNumber 155 = .ok (.iadd, 1) := by decide +kernel
theorem dX13_nameNumber_156 : decode cX13_nameNumber 156 = .ok (.iconst 1, 1) := by decide +kernel
theorem dX13_nameNumber_157 : decode cX13_nameNumber 157 = .ok (.isub, 1) := by decide +kernel
theorem dX13_nameNumber_158 : decode cX13_nameNumber 158 = .ok (.ireturn, 1) := by decide +kernel
theorem rs_RX13_879 : mx_res RX13 879 = some (0, 13, 120) := by decide +kernel
theorem rs_RX13_882 : mx_res RX13 882 = some (1, 525, 2) := by decide +kernel
theorem ft_13_120 : mx_fty 13 120 = some (.int, false, "ClassMillModel") := by decide +kernel
theorem mt_X13_typeAt : mx_mt 526 = some (yX13_typeAt, cX13_typeAt, 5, (some .int)) := rfl
theorem dX13_typeAt_0 : decode cX13_typeAt 0 = .ok (.aload_n 0, 1) := by decide +kernel
theorem dX13_typeAt_1 : decode cX13_typeAt 1 = .ok (.getfield 209, 3) := by decide +kernel
theorem dX13_typeAt_4 : decode cX13_typeAt 4 = .ok (.iload_n 1, 1) := by decide +kernel
theorem dX13_typeAt_5 : decode cX13_typeAt 5 = .ok (.iaload, 1) := by decide +kernel
theorem dX13_typeAt_6 : decode cX13_typeAt 6 = .ok (.istore_n 2, 1) := by decide +kernel
theorem dX13_typeAt_7 : decode cX13_typeAt 7 = .ok (.aload_n 0, 1) := by decide +kernel
theorem dX13_typeAt_8 : decode cX13_typeAt 8 = .ok (.iload_n 1, 1) := by decide +kernel
theorem dX13_typeAt_9 : decode cX13_typeAt 9 = .ok (.iconst 1, 1) := by decide +kernel
theorem dX13_typeAt_10 : decode cX13_typeAt 10 = .ok (.iadd, 1) := by decide +kernel
theorem dX13_typeAt_11 : decode cX13_typeAt 11 = .ok (.putfield 879, 3) := by decide +kernel
theorem dX13_typeAt_14 : decode cX13_typeAt 14 = .ok (.iload_n 2, 1) := by decide +kernel
theorem dX13_typeAt_15 : decode cX13_typeAt 15 = .ok (.bipush 73, 2) := by decide +kernel
theorem dX13_typeAt_17 : decode cX13_typeAt 17 = .ok (.if_icmp .eq 9, 3) := by decide +kernel
theorem dX13_typeAt_20 : decode cX13_typeAt 20 = .ok (.iload_n 2, 1) := by decide +kernel
theorem dX13_typeAt_21 : decode cX13_typeAt 21 = .ok (.bipush 90, 2) := by decide +kernel
theorem dX13_typeAt_23 : decode cX13_typeAt 23 = .ok (.if_icmp .ne 5, 3) := by decide +kernel
theorem dX13_typeAt_26 : decode cX13_typeAt 26 = .ok (.iconst 1, 1) := by decide +kernel
theorem dX13_typeAt_27 : decode cX13_typeAt 27 = .ok (.ireturn, 1) := by decide +kernel
theorem dX13_typeAt_28 : decode cX13_typeAt 28 = .ok (.iload_n 2, 1) := by decide +kernel
theorem dX13_typeAt_29 : decode cX13_typeAt 29 = .ok (.bipush 86, 2) := by decide +kernel
theorem dX13_typeAt_31 : decode cX13_typeAt 31 = .ok (.if_icmp .ne 5, 3) := by decide +kernel
theorem dX13_typeAt_34 : decode cX13_typeAt 34 = .ok (.iconst 0, 1) := by decide +kernel
theorem dX13_typeAt_35 : decode cX13_typeAt 35 = .ok (.ireturn, 1) := by decide +kernel
theorem dX13_typeAt_36 : decode cX13_typeAt 36 = .ok (.iload_n 2, 1) := by decide +kernel
theorem dX13_typeAt_37 : decode cX13_typeAt 37 = .ok (.bipush 91, 2) := by decide +kernel
theorem dX13_typeAt_39 : decode cX13_typeAt 39 = .ok (.if_icmp .ne 9, 3) := by decide +kernel
theorem dX13_typeAt_42 : decode cX13_typeAt 42 = .ok (.iload_n 1, 1) := by decide +kernel
theorem dX13_typeAt_43 : decode cX13_typeAt 43 = .ok (.iconst 1, 1) := by decide +kernel
theorem dX13_typeAt_44 : decode cX13_typeAt 44 = .ok (.iadd, 1) := by decide +kernel
theorem dX13_typeAt_45 : decode cX13_typeAt 45 = .ok (.goto 4, 3) := by decide +kernel
theorem dX13_typeAt_48 : decode cX13_typeAt 48 = .ok (.iload_n 1, 1) := by decide +kernel
theorem dX13_typeAt_49 : decode cX13_typeAt 49 = .ok (.istore_n 3, 1) := by decide +kernel
theorem dX13_typeAt_50 : decode cX13_typeAt 50 = .ok (.aload_n 0, 1) := by decide +kernel
theorem dX13_typeAt_51 : decode cX13_typeAt 51 = .ok (.getfield 209, 3) := by decide +kernel
theorem dX13_typeAt_54 : decode cX13_typeAt 54 = .ok (.iload_n 3, 1) := by decide +kernel
theorem dX13_typeAt_55 : decode cX13_typeAt 55 = .ok (.iaload, 1) := by decide +kernel
theorem dX13_typeAt_56 : decode cX13_typeAt 56 = .ok (.bipush 73, 2) := by decide +kernel
theorem dX13_typeAt_58 : decode cX13_typeAt 58 = .ok (.if_icmp .ne 12, 3) := by decide +kernel
theorem dX13_typeAt_61 : decode cX13_typeAt 61 = .ok (.aload_n 0, 1) := by decide +kernel
theorem dX13_typeAt_62 : decode cX13_typeAt 62 = .ok (.iload_n 3, 1) := by decide +kernel
theorem dX13_typeAt_63 : decode cX13_typeAt 63 = .ok (.iconst 1, 1) := by decide +kernel
theorem dX13_typeAt_64 : decode cX13_typeAt 64 = .ok (.iadd, 1) := by decide +kernel
theorem dX13_typeAt_65 : decode cX13_typeAt 65 = .ok (.putfield 879, 3) := by decide +kernel
theorem dX13_typeAt_68 : decode cX13_typeAt 68 = .ok (.iconst 3, 1) := by decide +kernel
theorem dX13_typeAt_69 : decode cX13_typeAt 69 = .ok (.ireturn, 1) := by decide +kernel
theorem dX13_typeAt_70 : decode cX13_typeAt 70 = .ok (.iload_n 3, 1) := by decide +kernel
theorem dX13_typeAt_71 : decode cX13_typeAt 71 = .ok (.iconst 1, 1) := by decide +kernel
theorem dX13_typeAt_72 : decode cX13_typeAt 72 = .ok (.iadd, 1) := by decide +kernel
theorem dX13_typeAt_73 : decode cX13_typeAt 73 = .ok (.istore 4, 2) := by decide +kernel
theorem dX13_typeAt_75 : decode cX13_typeAt 75 = .ok (.aload_n 0, 1) := by decide +kernel
theorem dX13_typeAt_76 : decode cX13_typeAt 76 = .ok (.getfield 209, 3) := by decide +kernel
theorem dX13_typeAt_79 : decode cX13_typeAt 79 = .ok (.iload 4, 2) := by decide +kernel
theorem dX13_typeAt_81 : decode cX13_typeAt 81 = .ok (.iaload, 1) := by decide +kernel
theorem dX13_typeAt_82 : decode cX13_typeAt 82 = .ok (.bipush 59, 2) := by decide +kernel
theorem dX13_typeAt_84 : decode cX13_typeAt 84 = .ok (.if_icmp .eq 9, 3) := by decide +kernel
theorem dX13_typeAt_87 : decode cX13_typeAt 87 = .ok (.iinc 4 1, 3) := by decide +kernel
theorem dX13_typeAt_90 : decode cX13_typeAt 90 = .ok (.goto (-15), 3) := by decide +kernel
theorem dX13_typeAt_93 : decode cX13_typeAt 93 = .ok (.aload_n 0, 1) := by decide +kernel
theorem dX13_typeAt_94 : decode cX13_typeAt 94 = .ok (.iload 4, 2) := by decide +kernel
theorem dX13_typeAt_96 : decode cX13_typeAt 96 = .ok (.iconst 1, 1) := by decide +kernel
theorem dX13_typeAt_97 : decode cX13_typeAt 97 = .ok (.iadd, 1) := by decide +kernel
theorem dX13_typeAt_98 : decode cX13_typeAt 98 = .ok (.putfield 879, 3) := by decide +kernel
theorem dX13_typeAt_101 : decode cX13_typeAt 101 = .ok (.iconst 4, 1) := by decide +kernel
theorem dX13_typeAt_102 : decode cX13_typeAt 102 = .ok (.iconst 2, 1) := by decide +kernel
theorem dX13_typeAt_103 : decode cX13_typeAt 103 = .ok (.aload_n 0, 1) := by decide +kernel
theorem dX13_typeAt_104 : decode cX13_typeAt 104 = .ok (.iload_n 3, 1) := by decide +kernel
theorem dX13_typeAt_105 : decode cX13_typeAt 105 = .ok (.iconst 1, 1) := by decide +kernel
theorem dX13_typeAt_106 : decode cX13_typeAt 106 = .ok (.iadd, 1) := by decide +kernel
theorem dX13_typeAt_107 : decode cX13_typeAt 107 = .ok (.iload 4, 2) := by decide +kernel
theorem dX13_typeAt_109 : decode cX13_typeAt 109 = .ok (.iload_n 3, 1) := by decide +kernel
theorem dX13_typeAt_110 : decode cX13_typeAt 110 = .ok (.isub, 1) := by decide +kernel
theorem dX13_typeAt_111 : decode cX13_typeAt 111 = .ok (.iconst 1, 1) := by decide +kernel
theorem dX13_typeAt_112 : decode cX13_typeAt 112 = .ok (.isub, 1) := by decide +kernel
theorem dX13_typeAt_113 : decode cX13_typeAt 113 = .ok (.invokevirtual 882, 3) := by decide +kernel
theorem dX13_typeAt_116 : decode cX13_typeAt 116 = .ok (.imul, 1) := by decide +kernel
theorem dX13_typeAt_117 : decode cX13_typeAt 117 = .ok (.iadd, 1) := by decide +kernel
theorem dX13_typeAt_118 : decode cX13_typeAt 118 = .ok (.iload_n 2, 1) := by decide +kernel
theorem dX13_typeAt_119 : decode cX13_typeAt 119 = .ok (.bipush 91, 2) := by decide +kernel
theorem dX13_typeAt_121 : decode cX13_typeAt 121 = .ok (.if_icmp .ne 7, 3) := by decide +kernel
theorem dX13_typeAt_124 : decode cX13_typeAt 124 = .ok (.iconst 1, 1) := by decide +kernel
theorem dX13_typeAt_125 : decode cX13_typeAt 125 = .ok (.goto 4, 3) := by decide +kernel
theorem dX13_typeAt_128 : decode cX13_typeAt 128 = .ok (.iconst 0, 1) := by decide +kernel
theorem dX13_typeAt_129 : decode cX13_typeAt 129 = .ok (.iadd, 1) := by decide +kernel
theorem dX13_typeAt_130 : decode cX13_typeAt 130 = .ok (.ireturn, 1) := by decide +kernel
theorem rs_RX13_885 : mx_res RX13 885 = some (1, 526, 1) := by decide +kernel
theorem mt_X13_kindType : mx_mt 528 = some (yX13_kindType, cX13_kindType, 3, (some .int)) := rfl
theorem dX13_kindType_0 : decode cX13_kindType 0 = .ok (.aload_n 0, 1) := by decide +kernel
theorem dX13_kindType_1 : decode cX13_kindType 1 = .ok (.sipush 6000, 3) := by decide +kernel
theorem dX13_kindType_4 : decode cX13_kindType 4 = .ok (.iload_n 1, 1) := by decide +kernel
theorem dX13_kindType_5 : decode cX13_kindType 5 = .ok (.imul, 1) := by decide +kernel
theorem dX13_kindType_6 : decode cX13_kindType 6 = .ok (.aload_n 0, 1) := by decide +kernel
theorem dX13_kindType_7 : decode cX13_kindType 7 = .ok (.getfield 215, 3) := by decide +kernel
theorem dX13_kindType_10 : decode cX13_kindType 10 = .ok (.sipush 256, 3) := by decide +kernel
theorem dX13_kindType_13 : decode cX13_kindType 13 = .ok (.iload_n 1, 1) := by decide +kernel
theorem dX13_kindType_14 : decode cX13_kindType 14 = .ok (.imul, 1) := by decide +kernel
theorem dX13_kindType_15 : decode cX13_kindType 15 = .ok (.iload_n 2, 1) := by decide +kernel
theorem dX13_kindType_16 : decode cX13_kindType 16 = .ok (.iadd, 1) := by decide +kernel
theorem dX13_kindType_17 : decode cX13_kindType 17 = .ok (.iaload, 1) := by decide +kernel
theorem dX13_kindType_18 : decode cX13_kindType 18 = .ok (.iadd, 1) := by decide +kernel
theorem dX13_kindType_19 : decode cX13_kindType 19 = .ok (.iconst 2, 1) := by decide +kernel
theorem dX13_kindType_20 : decode cX13_kindType 20 = .ok (.iadd, 1) := by decide +kernel
theorem dX13_kindType_21 : decode cX13_kindType 21 = .ok (.invokevirtual 885, 3) := by decide +kernel
theorem dX13_kindType_24 : decode cX13_kindType 24 = .ok (.ireturn, 1) := by decide +kernel
theorem rs_RX13_913 : mx_res RX13 913 = some (1, 528, 2) := by decide +kernel
theorem rs_RX13_916 : mx_res RX13 916 = some (2, 531, 1) := by decide +kernel
theorem mt_X13_kindsAreThere : mx_mt 538 = some (yX13_kindsAreThere, cX13_kindsAreThere, 5, (some .boolean)) := rfl
theorem dX13_kindsAreThere_0 : decode cX13_kindsAreThere 0 = .ok (.iconst 1, 1) := by decide +kernel
theorem dX13_kindsAreThere_1 : decode cX13_kindsAreThere 1 = .ok (.istore_n 2, 1) := by decide +kernel
theorem dX13_kindsAreThere_2 : decode cX13_kindsAreThere 2 = .ok (.iconst 0, 1) := by decide +kernel
theorem dX13_kindsAreThere_3 : decode cX13_kindsAreThere 3 = .ok (.istore_n 3, 1) := by decide +kernel
theorem dX13_kindsAreThere_4 : decode cX13_kindsAreThere 4 = .ok (.iload_n 3, 1) := by decide +kernel
theorem dX13_kindsAreThere_5 : decode cX13_kindsAreThere 5 = .ok (.aload_n 0, 1) := by decide +kernel
theorem dX13_kindsAreThere_6 : decode cX13_kindsAreThere 6 = .ok (.getfield 227, 3) := by decide +kernel
theorem dX13_kindsAreThere_9 : decode cX13_kindsAreThere 9 = .ok (.iload_n 1, 1) := by decide +kernel
theorem dX13_kindsAreThere_10 : decode cX13_kindsAreThere 10 = .ok (.iaload, 1) := by decide +kernel
theorem dX13_kindsAreThere_11 : decode cX13_kindsAreThere 11 = .ok (.if_icmp .ge 29, 3) := by decide +kernel
theorem dX13_kindsAreThere_14 : decode cX13_kindsAreThere 14 = .ok (.iload_n 2, 1) := by decide +kernel
theorem dX13_kindsAreThere_15 : decode cX13_kindsAreThere 15 = .ok (.ifCond .eq 25, 3) := by decide +kernel
theorem dX13_kindsAreThere_18 : decode cX13_kindsAreThere 18 = .ok (.aload_n 0, 1) := by decide +kernel
theorem dX13_kindsAreThere_19 : decode cX13_kindsAreThere 19 = .ok (.iload_n 1, 1) := by decide +kernel
theorem dX13_kindsAreThere_20 : decode cX13_kindsAreThere 20 = .ok (.aload_n 0, 1) := by decide +kernel
theorem dX13_kindsAreThere_21 : decode cX13_kindsAreThere 21 = .ok (.iload_n 1, 1) := by decide +kernel
theorem dX13_kindsAreThere_22 : decode cX13_kindsAreThere 22 = .ok (.iload_n 3, 1) := by decide +kernel
theorem dX13_kindsAreThere_23 : decode cX13_kindsAreThere 23 = .ok (.iconst 0, 1) := by decide +kernel
theorem dX13_kindsAreThere_24 : decode cX13_kindsAreThere 24 = .ok (.invokevirtual 910, 3) := by decide +kernel
theorem dX13_kindsAreThere_27 : decode cX13_kindsAreThere 27 = .ok (.invokevirtual 913, 3) := by decide +kernel
theorem dX13_kindsAreThere_30 : decode cX13_kindsAreThere 30 = .ok (.invokestatic 916, 3) := by decide +kernel
theorem dX13_kindsAreThere_33 : decode cX13_kindsAreThere 33 = .ok (.istore_n 2, 1) := by decide +kernel
theorem dX13_kindsAreThere_34 : decode cX13_kindsAreThere 34 = .ok (.iinc 3 1, 3) := by decide +kernel
theorem dX13_kindsAreThere_37 : decode cX13_kindsAreThere 37 = .ok (.goto (-33), 3) := by decide +kernel
theorem dX13_kindsAreThere_40 : decode cX13_kindsAreThere 40 = .ok (.iconst 0, 1) := by decide +kernel
theorem dX13_kindsAreThere_41 : decode cX13_kindsAreThere 41 = .ok (.istore_n 3, 1) := by decide +kernel
theorem dX13_kindsAreThere_42 : decode cX13_kindsAreThere 42 = .ok (.iload_n 3, 1) := by decide +kernel
theorem dX13_kindsAreThere_43 : decode cX13_kindsAreThere 43 = .ok (.aload_n 0, 1) := by decide +kernel
theorem dX13_kindsAreThere_44 : decode cX13_kindsAreThere 44 = .ok (.getfield 233, 3) := by decide +kernel
theorem dX13_kindsAreThere_47 : decode cX13_kindsAreThere 47 = .ok (.iload_n 1, 1) := by decide +kernel
theorem dX13_kindsAreThere_48 : decode cX13_kindsAreThere 48 = .ok (.iaload, 1) := by decide +kernel
theorem dX13_kindsAreThere_49 : decode cX13_kindsAreThere 49 = .ok (.if_icmp .ge 100, 3) := by decide +kernel
theorem dX13_kindsAreThere_52 : decode cX13_kindsAreThere 52 = .ok (.iload_n 2, 1) := by decide +kernel
theorem dX13_kindsAreThere_53 : decode cX13_kindsAreThere 53 = .ok (.ifCond .eq 96, 3) := by decide +kernel
theorem dX13_kindsAreThere_56 : decode cX13_kindsAreThere 56 = .ok (.sipush 6000, 3) := by decide +kernel
theorem dX13_kindsAreThere_59 : decode cX13_kindsAreThere 59 = .ok (.iload_n 1, 1) := by decide +kernel
theorem dX13_kindsAreThere_60 : decode cX13_kindsAreThere 60 = .ok (.imul, 1) := by decide +kernel
theorem dX13_kindsAreThere_61 : decode cX13_kindsAreThere 61 = .ok (.aload_n 0, 1) := by decide +kernel
theorem dX13_kindsAreThere_62 : decode cX13_kindsAreThere 62 = .ok (.getfield 215, 3) := by decide +kernel
theorem dX13_kindsAreThere_65 : decode cX13_kindsAreThere 65 = .ok (.sipush 256, 3) := by decide +kernel
theorem dX13_kindsAreThere_68 : decode cX13_kindsAreThere 68 = .ok (.iload_n 1, 1) := by decide +kernel
theorem dX13_kindsAreThere_69 : decode cX13_kindsAreThere 69 = .ok (.imul, 1) := by decide +kernel
theorem dX13_kindsAreThere_70 : decode cX13_kindsAreThere 70 = .ok (.aload_n 0, 1) := by decide +kernel
theorem dX13_kindsAreThere_71 : decode cX13_kindsAreThere 71 = .ok (.iload_n 1, 1) := by decide +kernel
theorem dX13_kindsAreThere_72 : decode cX13_kindsAreThere 72 = .ok (.iload_n 3, 1) := by decide +kernel
theorem dX13_kindsAreThere_73 : decode cX13_kindsAreThere 73 = .ok (.iconst 1, 1) := by decide +kernel
theorem dX13_kindsAreThere_74 : decode cX13_kindsAreThere 74 = .ok (.invokevirtual 910, 3) := by decide +kernel
theorem dX13_kindsAreThere_77 : decode cX13_kindsAreThere 77 = .ok (.iadd, 1) := by decide +kernel
theorem dX13_kindsAreThere_78 : decode cX13_kindsAreThere 78 = .ok (.iaload, 1) := by decide +kernel
theorem dX13_kindsAreThere_79 : decode cX13_kindsAreThere 79 = .ok (.iadd, 1) := by decide +kernel
theorem dX13_kindsAreThere_80 : decode cX13_kindsAreThere 80 = .ok (.iconst 3, 1) := by decide +kernel
theorem dX13_kindsAreThere_81 : decode cX13_kindsAreThere 81 = .ok (.iadd, 1) := by decide +kernel
theorem dX13_kindsAreThere_82 : decode cX13_kindsAreThere 82 = .ok (.istore 4, 2) := by decide +kernel
theorem dX13_kindsAreThere_84 : decode cX13_kindsAreThere 84 = .ok (.aload_n 0, 1) := by decide +kernel
theorem dX13_kindsAreThere_85 : decode cX13_kindsAreThere 85 = .ok (.getfield 209, 3) := by decide +kernel
theorem dX13_kindsAreThere_88 : decode cX13_kindsAreThere 88 = .ok (.iload 4, 2) := by decide +kernel
theorem dX13_kindsAreThere_90 : decode cX13_kindsAreThere 90 = .ok (.iaload, 1) := by decide +kernel
theorem dX13_kindsAreThere_91 : decode cX13_kindsAreThere 91 = .ok (.bipush 41, 2) := by decide +kernel
theorem dX13_kindsAreThere_93 : decode cX13_kindsAreThere 93 = .ok (.if_icmp .eq 26, 3) := by decide +kernel
theorem dX13_kindsAreThere_96 : decode cX13_kindsAreThere 96 = .ok (.iload_n 2, 1) := by decide +kernel
theorem dX13_kindsAreThere_97 : decode cX13_kindsAreThere 97 = .ok (.ifCond .eq 22, 3) := by decide +kernel
theorem dX13_kindsAreThere_100 : decode cX13_kindsAreThere 100 = .ok (.aload_n 0, 1) := by decide +kernel
theorem dX13_kindsAreThere_101 : decode cX13_kindsAreThere 101 = .ok (.iload 4, 2) := by decide +kernel
theorem dX13_kindsAreThere_103 : decode cX13_kindsAreThere 103 = .ok (.invokevirtual 885, 3) := by decide +kernel
theorem dX13_kindsAreThere_106 : decode cX13_kindsAreThere 106 = .ok (.invokestatic 916, 3) := by decide +kernel
theorem dX13_kindsAreThere_109 : decode cX13_kindsAreThere 109 = .ok (.istore_n 2, 1) := by decide +kernel
theorem dX13_kindsAreThere_110 : decode cX13_kindsAreThere 110 = .ok (.aload_n 0, 1) := by decide +kernel
theorem dX13_kindsAreThere_111 : decode cX13_kindsAreThere 111 = .ok (.getfield 879, 3) := by decide +kernel
theorem dX13_kindsAreThere_114 : decode cX13_kindsAreThere 114 = .ok (.istore 4, 2) := by decide +kernel
theorem dX13_kindsAreThere_116 : decode cX13_kindsAreThere 116 = .ok (.goto (-32), 3) := by decide +kernel
theorem dX13_kindsAreThere_119 : decode cX13_kindsAreThere 119 = .ok (.iload_n 2, 1) := by decide +kernel
theorem dX13_kindsAreThere_120 : decode cX13_kindsAreThere 120 = .ok (.ifCond .eq 21, 3) := by decide +kernel
theorem dX13_kindsAreThere_123 : decode cX13_kindsAreThere 123 = .ok (.aload_n 0, 1) := by decide +kernel
theorem dX13_kindsAreThere_124 : decode cX13_kindsAreThere 124 = .ok (.iload 4, 2) := by decide +kernel
theorem dX13_kindsAreThere_126 : decode cX13_kindsAreThere 126 = .ok (.iconst 1, 1) := by decide +kernel
theorem dX13_kindsAreThere_127 : decode cX13_kindsAreThere 127 = .ok (.iadd, 1) := by decide +kernel
theorem dX13_kindsAreThere_128 : decode cX13_kindsAreThere 128 = .ok (.invokevirtual 885, 3) := by decide +kernel
theorem dX13_kindsAreThere_131 : decode cX13_kindsAreThere 131 = .ok (.invokestatic 916, 3) := by decide +kernel
theorem dX13_kindsAreThere_134 : decode cX13_kindsAreThere 134 = .ok (.ifCond .eq 7, 3) := by decide +kernel
theorem dX13_kindsAreThere_137 : decode cX13_kindsAreThere 137 = .ok (.iconst 1, 1) := by decide +kernel
theorem dX13_kindsAreThere_138 : decode cX13_kindsAreThere 138 = .ok (.goto 4, 3) := by decide +kernel
theorem dX13_kindsAreThere_141 : decode cX13_kindsAreThere 141 = .ok (.iconst 0, 1) := by decide +kernel
theorem dX13_kindsAreThere_142 : decode cX13_kindsAreThere 142 = .ok (.istore_n 2, 1) := by decide +kernel
theorem dX13_kindsAreThere_143 : decode cX13_kindsAreThere 143 = .ok (.iinc 3 1, 3) := by decide +kernel
theorem dX13_kindsAreThere_146 : decode cX13_kindsAreThere 146 = .ok (.goto (-104), 3) := by decide +kernel
theorem dX13_kindsAreThere_149 : decode cX13_kindsAreThere 149 = .ok (.iload_n 2, 1) := by decide +kernel
theorem dX13_kindsAreThere_150 : decode cX13_kindsAreThere 150 = .ok (.ireturn, 1) := by decide +kernel
theorem mt_X13_nameText : mx_mt 533 = some (yX13_nameText, cX13_nameText, 4, (some .int)) := rfl
theorem dX13_nameText_0 : decode cX13_nameText 0 = .ok (.iload_n 3, 1) := by decide +kernel
theorem dX13_nameText_1 : decode cX13_nameText 1 = .ok (.ifCond .eq 24, 3) := by decide +kernel
theorem dX13_nameText_4 : decode cX13_nameText 4 = .ok (.aload_n 0, 1) := by decide +kernel
theorem dX13_nameText_5 : decode cX13_nameText 5 = .ok (.iload_n 1, 1) := by decide +kernel
theorem dX13_nameText_6 : decode cX13_nameText 6 = .ok (.aload_n 0, 1) := by decide +kernel
theorem dX13_nameText_7 : decode cX13_nameText 7 = .ok (.getfield 236, 3) := by decide +kernel
theorem dX13_nameText_10 : decode cX13_nameText 10 = .ok (.bipush 12, 2) := by decide +kernel
theorem dX13_nameText_12 : decode cX13_nameText 12 = .ok (.iload_n 1, 1) := by decide +kernel
theorem dX13_nameText_13 : decode cX13_nameText 13 = .ok (.imul, 1) := by decide +kernel
theorem dX13_nameText_14 : decode cX13_nameText 14 = .ok (.iload_n 2, 1) := by decide +kernel
theorem dX13_nameText_15 : decode cX13_nameText 15 = .ok (.iadd, 1) := by decide +kernel
theorem dX13_nameText_16 : decode cX13_nameText 16 = .ok (.iaload, 1) := by decide +kernel
theorem dX13_nameText_17 : decode cX13_nameText 17 = .ok (.iconst 1, 1) := by decide +kernel
theorem dX13_nameText_18 : decode cX13_nameText 18 = .ok (.iadd, 1) := by decide +kernel
theorem dX13_nameText_19 : decode cX13_nameText 19 = .ok (.invokevirtual 864, 3) := by decide +kernel
theorem dX13_nameText_22 : decode cX13_nameText 22 = .ok (.goto 19, 3) := by decide +kernel
theorem dX13_nameText_25 : decode cX13_nameText 25 = .ok (.aload_n 0, 1) := by decide +kernel
theorem dX13_nameText_26 : decode cX13_nameText 26 = .ok (.iload_n 1, 1) := by decide +kernel
theorem dX13_nameText_27 : decode cX13_nameText 27 = .ok (.aload_n 0, 1) := by decide +kernel
theorem dX13_nameText_28 : decode cX13_nameText 28 = .ok (.getfield 230, 3) := by decide +kernel
theorem dX13_nameText_31 : decode cX13_nameText 31 = .ok (.bipush 12, 2) := by decide +kernel
theorem dX13_nameText_33 : decode cX13_nameText 33 = .ok (.iload_n 1, 1) := by decide +kernel
theorem dX13_nameText_34 : decode cX13_nameText 34 = .ok (.imul, 1) := by decide +kernel
theorem dX13_nameText_35 : decode cX13_nameText 35 = .ok (.iload_n 2, 1) := by decide +kernel
theorem dX13_nameText_36 : decode cX13_nameText 36 = .ok (.iadd, 1) := by decide +kernel
theorem dX13_nameText_37 : decode cX13_nameText 37 = .ok (.iaload, 1) := by decide +kernel
theorem dX13_nameText_38 : decode cX13_nameText 38 = .ok (.invokevirtual 864, 3) := by decide +kernel
theorem dX13_nameText_41 : decode cX13_nameText 41 = .ok (.ireturn, 1) := by decide +kernel
