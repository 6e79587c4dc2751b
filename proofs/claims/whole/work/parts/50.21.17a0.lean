theorem rs_RX3_155 : mx_res RX3 155 = some (1, 122, 1) := by decide +kernel
theorem rs_RX3_158 : mx_res RX3 158 = some (1, 123, 1) := by decide +kernel
theorem rs_RX3_161 : mx_res RX3 161 = some (1, 124, 1) := by decide +kernel
theorem mt_X3_readMethod : mx_mt 121 = some (yX3_readMethod, cX3_readMethod, 4, none) := rfl
theorem dX3_readMethod_0 : decode cX3_readMethod 0 = .ok (.aload_n 0, 1) := by decide +kernel
theorem dX3_readMethod_1 : decode cX3_readMethod 1 = .ok (.getfield 30, 3) := by decide +kernel
theorem dX3_readMethod_4 : decode cX3_readMethod 4 = .ok (.iload_n 1, 1) := by decide +kernel
theorem dX3_readMethod_5 : decode cX3_readMethod 5 = .ok (.iconst 0, 1) := by decide +kernel
theorem dX3_readMethod_6 : decode cX3_readMethod 6 = .ok (.iadd, 1) := by decide +kernel
theorem dX3_readMethod_7 : decode cX3_readMethod 7 = .ok (.aload_n 0, 1) := by decide +kernel
theorem dX3_readMethod_8 : decode cX3_readMethod 8 = .ok (.iconst 0, 1) := by decide +kernel
theorem dX3_readMethod_9 : decode cX3_readMethod 9 = .ok (.iconst 1, 1) := by decide +kernel
theorem dX3_readMethod_10 : decode cX3_readMethod 10 = .ok (.invokevirtual 71, 3) := by decide +kernel
theorem dX3_readMethod_13 : decode cX3_readMethod 13 = .ok (.iastore, 1) := by decide +kernel
theorem dX3_readMethod_14 : decode cX3_readMethod 14 = .ok (.aload_n 0, 1) := by decide +kernel
theorem dX3_readMethod_15 : decode cX3_readMethod 15 = .ok (.getfield 30, 3) := by decide +kernel
theorem dX3_readMethod_18 : decode cX3_readMethod 18 = .ok (.iload_n 1, 1) := by decide +kernel
theorem dX3_readMethod_19 : decode cX3_readMethod 19 = .ok (.iconst 1, 1) := by decide +kernel
theorem dX3_readMethod_20 : decode cX3_readMethod 20 = .ok (.iadd, 1) := by decide +kernel
theorem dX3_readMethod_21 : decode cX3_readMethod 21 = .ok (.aload_n 0, 1) := by decide +kernel
theorem dX3_readMethod_22 : decode cX3_readMethod 22 = .ok (.invokevirtual 152, 3) := by decide +kernel
theorem dX3_readMethod_25 : decode cX3_readMethod 25 = .ok (.iastore, 1) := by decide +kernel
theorem dX3_readMethod_26 : decode cX3_readMethod 26 = .ok (.aload_n 0, 1) := by decide +kernel
theorem dX3_readMethod_27 : decode cX3_readMethod 27 = .ok (.invokevirtual 87, 3) := by decide +kernel
theorem dX3_readMethod_30 : decode cX3_readMethod 30 = .ok (.istore_n 2, 1) := by decide +kernel
theorem dX3_readMethod_31 : decode cX3_readMethod 31 = .ok (.aload_n 0, 1) := by decide +kernel
theorem dX3_readMethod_32 : decode cX3_readMethod 32 = .ok (.iload_n 2, 1) := by decide +kernel
theorem dX3_readMethod_33 : decode cX3_readMethod 33 = .ok (.invokevirtual 116, 3) := by decide +kernel
theorem dX3_readMethod_36 : decode cX3_readMethod 36 = .ok (.istore_n 3, 1) := by decide +kernel
theorem dX3_readMethod_37 : decode cX3_readMethod 37 = .ok (.iload_n 3, 1) := by decide +kernel
theorem dX3_readMethod_38 : decode cX3_readMethod 38 = .ok (.iconst (-1), 1) := by decide +kernel
theorem dX3_readMethod_39 : decode cX3_readMethod 39 = .ok (.if_icmp .ne 13, 3) := by decide +kernel
theorem dX3_readMethod_42 : decode cX3_readMethod 42 = .ok (.aload_n 0, 1) := by decide +kernel
theorem dX3_readMethod_43 : decode cX3_readMethod 43 = .ok (.aload_n 0, 1) := by decide +kernel
theorem dX3_readMethod_44 : decode cX3_readMethod 44 = .ok (.getfield 43, 3) := by decide +kernel
theorem dX3_readMethod_47 : decode cX3_readMethod 47 = .ok (.iconst 1, 1) := by decide +kernel
theorem dX3_readMethod_48 : decode cX3_readMethod 48 = .ok (.isub, 1) := by decide +kernel
theorem dX3_readMethod_49 : decode cX3_readMethod 49 = .ok (.invokevirtual 78, 3) := by decide +kernel
theorem dX3_readMethod_52 : decode cX3_readMethod 52 = .ok (.aload_n 0, 1) := by decide +kernel
theorem dX3_readMethod_53 : decode cX3_readMethod 53 = .ok (.getfield 30, 3) := by decide +kernel
theorem dX3_readMethod_56 : decode cX3_readMethod 56 = .ok (.iload_n 1, 1) := by decide +kernel
theorem dX3_readMethod_57 : decode cX3_readMethod 57 = .ok (.iconst 2, 1) := by decide +kernel
theorem dX3_readMethod_58 : decode cX3_readMethod 58 = .ok (.iadd, 1) := by decide +kernel
theorem dX3_readMethod_59 : decode cX3_readMethod 59 = .ok (.iload_n 2, 1) := by decide +kernel
theorem dX3_readMethod_60 : decode cX3_readMethod 60 = .ok (.iastore, 1) := by decide +kernel
theorem dX3_readMethod_61 : decode cX3_readMethod 61 = .ok (.aload_n 0, 1) := by decide +kernel
theorem dX3_readMethod_62 : decode cX3_readMethod 62 = .ok (.getfield 30, 3) := by decide +kernel
theorem dX3_readMethod_65 : decode cX3_readMethod 65 = .ok (.iload_n 1, 1) := by decide +kernel
theorem dX3_readMethod_66 : decode cX3_readMethod 66 = .ok (.bipush 11, 2) := by decide +kernel
theorem dX3_readMethod_68 : decode cX3_readMethod 68 = .ok (.iadd, 1) := by decide +kernel
theorem dX3_readMethod_69 : decode cX3_readMethod 69 = .ok (.iload_n 3, 1) := by decide +kernel
theorem dX3_readMethod_70 : decode cX3_readMethod 70 = .ok (.iastore, 1) := by decide +kernel
theorem dX3_readMethod_71 : decode cX3_readMethod 71 = .ok (.aload_n 0, 1) := by decide +kernel
theorem dX3_readMethod_72 : decode cX3_readMethod 72 = .ok (.getfield 30, 3) := by decide +kernel
theorem dX3_readMethod_75 : decode cX3_readMethod 75 = .ok (.iload_n 1, 1) := by decide +kernel
theorem dX3_readMethod_76 : decode cX3_readMethod 76 = .ok (.iconst 3, 1) := by decide +kernel
theorem dX3_readMethod_77 : decode cX3_readMethod 77 = .ok (.iadd, 1) := by decide +kernel
theorem dX3_readMethod_78 : decode cX3_readMethod 78 = .ok (.aload_n 0, 1) := by decide +kernel
theorem dX3_readMethod_79 : decode cX3_readMethod 79 = .ok (.iconst 0, 1) := by decide +kernel
theorem dX3_readMethod_80 : decode cX3_readMethod 80 = .ok (.bipush 30, 2) := by decide +kernel
theorem dX3_readMethod_82 : decode cX3_readMethod 82 = .ok (.invokevirtual 71, 3) := by decide +kernel
theorem dX3_readMethod_85 : decode cX3_readMethod 85 = .ok (.iastore, 1) := by decide +kernel
theorem dX3_readMethod_86 : decode cX3_readMethod 86 = .ok (.aload_n 0, 1) := by decide +kernel
theorem dX3_readMethod_87 : decode cX3_readMethod 87 = .ok (.getfield 30, 3) := by decide +kernel
theorem dX3_readMethod_90 : decode cX3_readMethod 90 = .ok (.iload_n 1, 1) := by decide +kernel
theorem dX3_readMethod_91 : decode cX3_readMethod 91 = .ok (.iconst 4, 1) := by decide +kernel
theorem dX3_readMethod_92 : decode cX3_readMethod 92 = .ok (.iadd, 1) := by decide +kernel
theorem dX3_readMethod_93 : decode cX3_readMethod 93 = .ok (.aload_n 0, 1) := by decide +kernel
theorem dX3_readMethod_94 : decode cX3_readMethod 94 = .ok (.iload_n 3, 1) := by decide +kernel
theorem dX3_readMethod_95 : decode cX3_readMethod 95 = .ok (.iconst 1, 1) := by decide +kernel
theorem dX3_readMethod_96 : decode cX3_readMethod 96 = .ok (.iadd, 1) := by decide +kernel
theorem dX3_readMethod_97 : decode cX3_readMethod 97 = .ok (.aload_n 0, 1) := by decide +kernel
theorem dX3_readMethod_98 : decode cX3_readMethod 98 = .ok (.getfield 30, 3) := by decide +kernel
theorem dX3_readMethod_101 : decode cX3_readMethod 101 = .ok (.iload_n 1, 1) := by decide +kernel
theorem dX3_readMethod_102 : decode cX3_readMethod 102 = .ok (.iconst 0, 1) := by decide +kernel
theorem dX3_readMethod_103 : decode cX3_readMethod 103 = .ok (.iadd, 1) := by decide +kernel
theorem dX3_readMethod_104 : decode cX3_readMethod 104 = .ok (.iaload, 1) := by decide +kernel
theorem dX3_readMethod_105 : decode cX3_readMethod 105 = .ok (.isub, 1) := by decide +kernel
theorem dX3_readMethod_106 : decode cX3_readMethod 106 = .ok (.bipush 30, 2) := by decide +kernel
theorem dX3_readMethod_108 : decode cX3_readMethod 108 = .ok (.invokevirtual 71, 3) := by decide +kernel
theorem dX3_readMethod_111 : decode cX3_readMethod 111 = .ok (.iastore, 1) := by decide +kernel
theorem dX3_readMethod_112 : decode cX3_readMethod 112 = .ok (.aload_n 0, 1) := by decide +kernel
theorem dX3_readMethod_113 : decode cX3_readMethod 113 = .ok (.iload_n 1, 1) := by decide +kernel
theorem dX3_readMethod_114 : decode cX3_readMethod 114 = .ok (.invokevirtual 155, 3) := by decide +kernel
theorem dX3_readMethod_117 : decode cX3_readMethod 117 = .ok (.aload_n 0, 1) := by decide +kernel
theorem dX3_readMethod_118 : decode cX3_readMethod 118 = .ok (.iload_n 1, 1) := by decide +kernel
theorem dX3_readMethod_119 : decode cX3_readMethod 119 = .ok (.invokevirtual 158, 3) := by decide +kernel
theorem dX3_readMethod_122 : decode cX3_readMethod 122 = .ok (.aload_n 0, 1) := by decide +kernel
theorem dX3_readMethod_123 : decode cX3_readMethod 123 = .ok (.iload_n 1, 1) := by decide +kernel
theorem dX3_readMethod_124 : decode cX3_readMethod 124 = .ok (.invokevirtual 161, 3) := by decide +kernel
theorem dX3_readMethod_127 : decode cX3_readMethod 127 = .ok (.return_, 1) := by decide +kernel
theorem rs_RX3_52 : mx_res RX3 52 = some (0, 3, 12) := by decide +kernel
theorem rs_RX3_55 : mx_res RX3 55 = some (1, 99, 0) := by decide +kernel
theorem rs_RX3_58 : mx_res RX3 58 = some (1, 118, 0) := by decide +kernel
theorem rs_RX3_62 : mx_res RX3 62 = some (0, 3, 8) := by decide +kernel
theorem rs_RX3_65 : mx_res RX3 65 = some (0, 3, 9) := by decide +kernel
theorem rs_RX3_68 : mx_res RX3 68 = some (1, 120, 0) := by decide +kernel
theorem rs_RX3_74 : mx_res RX3 74 = some (1, 121, 1) := by decide +kernel
theorem ft_3_1 : mx_fty 3 1 = some (.int, false, "ClassMill$Image") := by decide +kernel
theorem ft_3_8 : mx_fty 3 8 = some (.int, false, "ClassMill$Image") := by decide +kernel
theorem ft_3_9 : mx_fty 3 9 = some (.int, false, "ClassMill$Image") := by decide +kernel
theorem ft_3_12 : mx_fty 3 12 = some (.int, false, "ClassMill$Image") := by decide +kernel
theorem mt_X3_read : mx_mt 92 = some (yX3_read, cX3_read, 5, (some .int)) := rfl
theorem dX3_read_0 : decode cX3_read 0 = .ok (.aload_n 0, 1) := by decide +kernel
theorem dX3_read_1 : decode cX3_read 1 = .ok (.aload_n 1, 1) := by decide +kernel
theorem dX3_read_2 : decode cX3_read 2 = .ok (.putfield 9, 3) := by decide +kernel
theorem dX3_read_5 : decode cX3_read 5 = .ok (.aload_n 0, 1) := by decide +kernel
theorem dX3_read_6 : decode cX3_read 6 = .ok (.iload_n 2, 1) := by decide +kernel
theorem dX3_read_7 : decode cX3_read 7 = .ok (.aload_n 1, 1) := by decide +kernel
theorem dX3_read_8 : decode cX3_read 8 = .ok (.arraylength, 1) := by decide +kernel
theorem dX3_read_9 : decode cX3_read 9 = .ok (.invokestatic 33, 3) := by decide +kernel
theorem dX3_read_12 : decode cX3_read 12 = .ok (.putfield 39, 3) := by decide +kernel
theorem dX3_read_15 : decode cX3_read 15 = .ok (.aload_n 0, 1) := by decide +kernel
theorem dX3_read_16 : decode cX3_read 16 = .ok (.iconst 0, 1) := by decide +kernel
theorem dX3_read_17 : decode cX3_read 17 = .ok (.putfield 43, 3) := by decide +kernel
theorem dX3_read_20 : decode cX3_read 20 = .ok (.aload_n 0, 1) := by decide +kernel
theorem dX3_read_21 : decode cX3_read 21 = .ok (.iconst (-1), 1) := by decide +kernel
theorem dX3_read_22 : decode cX3_read 22 = .ok (.putfield 46, 3) := by decide +kernel
theorem dX3_read_25 : decode cX3_read 25 = .ok (.aload_n 0, 1) := by decide +kernel
theorem dX3_read_26 : decode cX3_read 26 = .ok (.iconst 0, 1) := by decide +kernel
theorem dX3_read_27 : decode cX3_read 27 = .ok (.putfield 49, 3) := by decide +kernel
theorem dX3_read_30 : decode cX3_read 30 = .ok (.aload_n 0, 1) := by decide +kernel
theorem dX3_read_31 : decode cX3_read 31 = .ok (.iconst 0, 1) := by decide +kernel
theorem dX3_read_32 : decode cX3_read 32 = .ok (.putfield 52, 3) := by decide +kernel
theorem dX3_read_35 : decode cX3_read 35 = .ok (.aload_n 0, 1) := by decide +kernel
theorem dX3_read_36 : decode cX3_read 36 = .ok (.invokevirtual 55, 3) := by decide +kernel
theorem dX3_read_39 : decode cX3_read 39 = .ok (.aload_n 0, 1) := by decide +kernel
theorem dX3_read_40 : decode cX3_read 40 = .ok (.aload_n 0, 1) := by decide +kernel
theorem dX3_read_41 : decode cX3_read 41 = .ok (.invokevirtual 58, 3) := by decide +kernel
theorem dX3_read_44 : decode cX3_read 44 = .ok (.putfield 62, 3) := by decide +kernel
theorem dX3_read_47 : decode cX3_read 47 = .ok (.aload_n 0, 1) := by decide +kernel
theorem dX3_read_48 : decode cX3_read 48 = .ok (.aload_n 0, 1) := by decide +kernel
theorem dX3_read_49 : decode cX3_read 49 = .ok (.invokevirtual 58, 3) := by decide +kernel
theorem dX3_read_52 : decode cX3_read 52 = .ok (.putfield 65, 3) := by decide +kernel
theorem dX3_read_55 : decode cX3_read 55 = .ok (.aload_n 0, 1) := by decide +kernel
theorem dX3_read_56 : decode cX3_read 56 = .ok (.invokevirtual 68, 3) := by decide +kernel
theorem dX3_read_59 : decode cX3_read 59 = .ok (.aload_n 0, 1) := by decide +kernel
theorem dX3_read_60 : decode cX3_read 60 = .ok (.iconst 0, 1) := by decide +kernel
theorem dX3_read_61 : decode cX3_read 61 = .ok (.bipush 12, 2) := by decide +kernel
theorem dX3_read_63 : decode cX3_read 63 = .ok (.invokevirtual 71, 3) := by decide +kernel
theorem dX3_read_66 : decode cX3_read 66 = .ok (.istore_n 3, 1) := by decide +kernel
theorem dX3_read_67 : decode cX3_read 67 = .ok (.iconst 0, 1) := by decide +kernel
theorem dX3_read_68 : decode cX3_read 68 = .ok (.istore 4, 2) := by decide +kernel
theorem dX3_read_70 : decode cX3_read 70 = .ok (.iload 4, 2) := by decide +kernel
theorem dX3_read_72 : decode cX3_read 72 = .ok (.iload_n 3, 1) := by decide +kernel
theorem dX3_read_73 : decode cX3_read 73 = .ok (.if_icmp .ge 36, 3) := by decide +kernel
theorem dX3_read_76 : decode cX3_read 76 = .ok (.aload_n 0, 1) := by decide +kernel
theorem dX3_read_77 : decode cX3_read 77 = .ok (.getfield 46, 3) := by decide +kernel
theorem dX3_read_80 : decode cX3_read 80 = .ok (.iconst (-1), 1) := by decide +kernel
theorem dX3_read_81 : decode cX3_read 81 = .ok (.if_icmp .ne 28, 3) := by decide +kernel
theorem dX3_read_84 : decode cX3_read 84 = .ok (.aload_n 0, 1) := by decide +kernel
theorem dX3_read_85 : decode cX3_read 85 = .ok (.iload 4, 2) := by decide +kernel
theorem dX3_read_87 : decode cX3_read 87 = .ok (.bipush 12, 2) := by decide +kernel
theorem dX3_read_89 : decode cX3_read 89 = .ok (.imul, 1) := by decide +kernel
theorem dX3_read_90 : decode cX3_read 90 = .ok (.invokevirtual 74, 3) := by decide +kernel
theorem dX3_read_93 : decode cX3_read 93 = .ok (.aload_n 0, 1) := by decide +kernel
theorem dX3_read_94 : decode cX3_read 94 = .ok (.dup, 1) := by decide +kernel
theorem dX3_read_95 : decode cX3_read 95 = .ok (.getfield 52, 3) := by decide +kernel
theorem dX3_read_98 : decode cX3_read 98 = .ok (.iconst 1, 1) := by decide +kernel
theorem dX3_read_99 : decode cX3_read 99 = .ok (.iadd, 1) := by decide +kernel
theorem dX3_read_100 : decode cX3_read 100 = .ok (.putfield 52, 3) := by decide +kernel
theorem dX3_read_103 : decode cX3_read 103 = .ok (.iinc 4 1, 3) := by decide +kernel
theorem dX3_read_106 : decode cX3_read 106 = .ok (.goto (-36), 3) := by decide +kernel
theorem dX3_read_109 : decode cX3_read 109 = .ok (.aload_n 0, 1) := by decide +kernel
theorem dX3_read_110 : decode cX3_read 110 = .ok (.getfield 43, 3) := by decide +kernel
theorem dX3_read_113 : decode cX3_read 113 = .ok (.aload_n 0, 1) := by decide +kernel
theorem dX3_read_114 : decode cX3_read 114 = .ok (.getfield 39, 3) := by decide +kernel
theorem dX3_read_117 : decode cX3_read 117 = .ok (.if_icmp .ge 11, 3) := by decide +kernel
theorem dX3_read_120 : decode cX3_read 120 = .ok (.aload_n 0, 1) := by decide +kernel
theorem dX3_read_121 : decode cX3_read 121 = .ok (.aload_n 0, 1) := by decide +kernel
theorem dX3_read_122 : decode cX3_read 122 = .ok (.getfield 43, 3) := by decide +kernel
theorem dX3_read_125 : decode cX3_read 125 = .ok (.invokevirtual 78, 3) := by decide +kernel
theorem dX3_read_128 : decode cX3_read 128 = .ok (.aload_n 0, 1) := by decide +kernel
theorem dX3_read_129 : decode cX3_read 129 = .ok (.getfield 46, 3) := by decide +kernel
theorem dX3_read_132 : decode cX3_read 132 = .ok (.ireturn, 1) := by decide +kernel
theorem mt_X3_textAt : mx_mt 107 = some (yX3_textAt, cX3_textAt, 2, (some .int)) := rfl
theorem dX3_textAt_0 : decode cX3_textAt 0 = .ok (.iload_n 1, 1) := by decide +kernel
theorem dX3_textAt_1 : decode cX3_textAt 1 = .ok (.iconst 1, 1) := by decide +kernel
theorem dX3_textAt_2 : decode cX3_textAt 2 = .ok (.if_icmp .lt 29, 3) := by decide +kernel
theorem dX3_textAt_5 : decode cX3_textAt 5 = .ok (.iload_n 1, 1) := by decide +kernel
theorem dX3_textAt_6 : decode cX3_textAt 6 = .ok (.aload_n 0, 1) := by decide +kernel
theorem dX3_textAt_7 : decode cX3_textAt 7 = .ok (.getfield 90, 3) := by decide +kernel
theorem dX3_textAt_10 : decode cX3_textAt 10 = .ok (.if_icmp .gt 21, 3) := by decide +kernel
theorem dX3_textAt_13 : decode cX3_textAt 13 = .ok (.iload_n 1, 1) := by decide +kernel
theorem dX3_textAt_14 : decode cX3_textAt 14 = .ok (.aload_n 0, 1) := by decide +kernel
theorem dX3_textAt_15 : decode cX3_textAt 15 = .ok (.getfield 19, 3) := by decide +kernel
theorem dX3_textAt_18 : decode cX3_textAt 18 = .ok (.arraylength, 1) := by decide +kernel
theorem dX3_textAt_19 : decode cX3_textAt 19 = .ok (.if_icmp .ge 12, 3) := by decide +kernel
theorem dX3_textAt_22 : decode cX3_textAt 22 = .ok (.aload_n 0, 1) := by decide +kernel
theorem dX3_textAt_23 : decode cX3_textAt 23 = .ok (.getfield 19, 3) := by decide +kernel
theorem dX3_textAt_26 : decode cX3_textAt 26 = .ok (.iload_n 1, 1) := by decide +kernel
theorem dX3_textAt_27 : decode cX3_textAt 27 = .ok (.iaload, 1) := by decide +kernel
theorem dX3_textAt_28 : decode cX3_textAt 28 = .ok (.goto 4, 3) := by decide +kernel
theorem dX3_textAt_31 : decode cX3_textAt 31 = .ok (.iconst 0, 1) := by decide +kernel
theorem dX3_textAt_32 : decode cX3_textAt 32 = .ok (.ireturn, 1) := by decide +kernel
theorem mt_X3_textEnd : mx_mt 108 = some (yX3_textEnd, cX3_textEnd, 2, (some .int)) := rfl
theorem dX3_textEnd_0 : decode cX3_textEnd 0 = .ok (.iload_n 1, 1) := by decide +kernel
theorem dX3_textEnd_1 : decode cX3_textEnd 1 = .ok (.iconst 1, 1) := by decide +kernel
theorem dX3_textEnd_2 : decode cX3_textEnd 2 = .ok (.if_icmp .lt 29, 3) := by decide +kernel
theorem dX3_textEnd_5 : decode cX3_textEnd 5 = .ok (.iload_n 1, 1) := by decide +kernel
theorem dX3_textEnd_6 : decode cX3_textEnd 6 = .ok (.aload_n 0, 1) := by decide +kernel
theorem dX3_textEnd_7 : decode cX3_textEnd 7 = .ok (.getfield 90, 3) := by decide +kernel
theorem dX3_textEnd_10 : decode cX3_textEnd 10 = .ok (.if_icmp .gt 21, 3) := by decide +kernel
theorem dX3_textEnd_13 : decode cX3_textEnd 13 = .ok (.iload_n 1, 1) := by decide +kernel
theorem dX3_textEnd_14 : decode cX3_textEnd 14 = .ok (.aload_n 0, 1) := by decide +kernel
theorem dX3_textEnd_15 : decode cX3_textEnd 15 = .ok (.getfield 22, 3) := by decide +kernel
theorem dX3_textEnd_18 : decode cX3_textEnd 18 = .ok (.arraylength, 1) := by decide +kernel
theorem dX3_textEnd_19 : decode cX3_textEnd 19 = .ok (.if_icmp .ge 12, 3) := by decide +kernel
theorem dX3_textEnd_22 : decode cX3_textEnd 22 = .ok (.aload_n 0, 1) := by decide +kernel
theorem dX3_textEnd_23 : decode cX3_textEnd 23 = .ok (.getfield 22, 3) := by decide +kernel
theorem dX3_textEnd_26 : decode cX3_textEnd 26 = .ok (.iload_n 1, 1) := by decide +kernel
theorem dX3_textEnd_27 : decode cX3_textEnd 27 = .ok (.iaload, 1) := by decide +kernel
theorem dX3_textEnd_28 : decode cX3_textEnd 28 = .ok (.goto 4, 3) := by decide +kernel
theorem dX3_textEnd_31 : decode cX3_textEnd 31 = .ok (.iconst 0, 1) := by decide +kernel
theorem dX3_textEnd_32 : decode cX3_textEnd 32 = .ok (.ireturn, 1) := by decide +kernel
theorem rs_RX3_132 : mx_res RX3 132 = some (12, 1, 0) := by decide +kernel
theorem rs_RX3_134 : mx_res RX3 134 = some (17, 0, 0) := by decide +kernel
theorem rs_RX3_139 : mx_res RX3 139 = some (16, 0, 0) := by decide +kernel
theorem mt_X3_builtIn : mx_mt 111 = some (yX3_builtIn, cX3_builtIn, 8, (some .int)) := rfl
theorem dX3_builtIn_0 : decode cX3_builtIn 0 = .ok (.iconst 0, 1) := by decide +kernel
theorem dX3_builtIn_1 : decode cX3_builtIn 1 = .ok (.istore_n 3, 1) := by decide +kernel
theorem dX3_builtIn_2 : decode cX3_builtIn 2 = .ok (.iload_n 1, 1) := by decide +kernel
theorem dX3_builtIn_3 : decode cX3_builtIn 3 = .ok (.istore 4, 2) := by decide +kernel
theorem dX3_builtIn_5 : decode cX3_builtIn 5 = .ok (.iconst 0, 1) := by decide +kernel
theorem dX3_builtIn_6 : decode cX3_builtIn 6 = .ok (.istore 5, 2) := by decide +kernel
theorem dX3_builtIn_8 : decode cX3_builtIn 8 = .ok (.iload 5, 2) := by decide +kernel
theorem dX3_builtIn_10 : decode cX3_builtIn 10 = .ok (.ldc 132, 2) := by decide +kernel
theorem dX3_builtIn_12 : decode cX3_builtIn 12 = .ok (.invokevirtual 134, 3) := by decide +kernel
theorem dX3_builtIn_15 : decode cX3_builtIn 15 = .ok (.if_icmp .ge 96, 3) := by decide +kernel
theorem dX3_builtIn_18 : decode cX3_builtIn 18 = .ok (.ldc 132, 2) := by decide +kernel
theorem dX3_builtIn_20 : decode cX3_builtIn 20 = .ok (.iload 5, 2) := by decide +kernel
theorem dX3_builtIn_22 : decode cX3_builtIn 22 = .ok (.invokevirtual 139, 3) := by decide +kernel
theorem dX3_builtIn_25 : decode cX3_builtIn 25 = .ok (.istore 6, 2) := by decide +kernel
theorem dX3_builtIn_27 : decode cX3_builtIn 27 = .ok (.iload 6, 2) := by decide +kernel
theorem dX3_builtIn_29 : decode cX3_builtIn 29 = .ok (.bipush 32, 2) := by decide +kernel
theorem dX3_builtIn_31 : decode cX3_builtIn 31 = .ok (.if_icmp .eq 60, 3) := by decide +kernel
theorem dX3_builtIn_34 : decode cX3_builtIn 34 = .ok (.iload 4, 2) := by decide +kernel
theorem dX3_builtIn_36 : decode cX3_builtIn 36 = .ok (.ifCond .lt 34, 3) := by decide +kernel
theorem dX3_builtIn_39 : decode cX3_builtIn 39 = .ok (.iload 4, 2) := by decide +kernel
theorem dX3_builtIn_41 : decode cX3_builtIn 41 = .ok (.iload_n 2, 1) := by decide +kernel
theorem dX3_builtIn_42 : decode cX3_builtIn 42 = .ok (.if_icmp .ge 28, 3) := by decide +kernel
theorem dX3_builtIn_45 : decode cX3_builtIn 45 = .ok (.iload 4, 2) := by decide +kernel
theorem dX3_builtIn_47 : decode cX3_builtIn 47 = .ok (.aload_n 0, 1) := by decide +kernel
theorem dX3_builtIn_48 : decode cX3_builtIn 48 = .ok (.getfield 39, 3) := by decide +kernel
theorem dX3_builtIn_51 : decode cX3_builtIn 51 = .ok (.if_icmp .ge 19, 3) := by decide +kernel
theorem dX3_builtIn_54 : decode cX3_builtIn 54 = .ok (.aload_n 0, 1) := by decide +kernel
theorem dX3_builtIn_55 : decode cX3_builtIn 55 = .ok (.getfield 9, 3) := by decide +kernel
theorem dX3_builtIn_58 : decode cX3_builtIn 58 = .ok (.iload 4, 2) := by decide +kernel
theorem dX3_builtIn_60 : decode cX3_builtIn 60 = .ok (.baload, 1) := by decide +kernel
theorem dX3_builtIn_61 : decode cX3_builtIn 61 = .ok (.iload 6, 2) := by decide +kernel
theorem dX3_builtIn_63 : decode cX3_builtIn 63 = .ok (.if_icmp .ne 7, 3) := by decide +kernel
theorem dX3_builtIn_66 : decode cX3_builtIn 66 = .ok (.iconst 1, 1) := by decide +kernel
theorem dX3_builtIn_67 : decode cX3_builtIn 67 = .ok (.goto 4, 3) := by decide +kernel
theorem dX3_builtIn_70 : decode cX3_builtIn 70 = .ok (.iconst 0, 1) := by decide +kernel
theorem dX3_builtIn_71 : decode cX3_builtIn 71 = .ok (.istore 7, 2) := by decide +kernel
theorem dX3_builtIn_73 : decode cX3_builtIn 73 = .ok (.iload 7, 2) := by decide +kernel
theorem dX3_builtIn_75 : decode cX3_builtIn 75 = .ok (.ifCond .eq 10, 3) := by decide +kernel
theorem dX3_builtIn_78 : decode cX3_builtIn 78 = .ok (.iload 4, 2) := by decide +kernel
theorem dX3_builtIn_80 : decode cX3_builtIn 80 = .ok (.iconst 1, 1) := by decide +kernel
theorem dX3_builtIn_81 : decode cX3_builtIn 81 = .ok (.iadd, 1) := by decide +kernel
theorem dX3_builtIn_82 : decode cX3_builtIn 82 = .ok (.goto 4, 3) := by decide +kernel
theorem dX3_builtIn_85 : decode cX3_builtIn 85 = .ok (.iconst (-1), 1) := by decide +kernel
theorem dX3_builtIn_86 : decode cX3_builtIn 86 = .ok (.istore 4, 2) := by decide +kernel
theorem dX3_builtIn_88 : decode cX3_builtIn 88 = .ok (.goto 17, 3) := by decide +kernel
theorem dX3_builtIn_91 : decode cX3_builtIn 91 = .ok (.iload 4, 2) := by decide +kernel
theorem dX3_builtIn_93 : decode cX3_builtIn 93 = .ok (.iload_n 2, 1) := by decide +kernel
theorem dX3_builtIn_94 : decode cX3_builtIn 94 = .ok (.if_icmp .ne 5, 3) := by decide +kernel
theorem dX3_builtIn_97 : decode cX3_builtIn 97 = .ok (.iload_n 3, 1) := by decide +kernel
theorem dX3_builtIn_98 : decode cX3_builtIn 98 = .ok (.ireturn, 1) := by decide +kernel
theorem dX3_builtIn_99 : decode cX3_builtIn 99 = .ok (.iload_n 1, 1) := by decide +kernel
theorem dX3_builtIn_100 : decode cX3_builtIn 100 = .ok (.istore 4, 2) := by decide +kernel
theorem dX3_builtIn_102 : decode cX3_builtIn 102 = .ok (.iinc 3 1, 3) := by decide +kernel
theorem dX3_builtIn_105 : decode cX3_builtIn 105 = .ok (.iinc 5 1, 3) := by decide +kernel
theorem dX3_builtIn_108 : decode cX3_builtIn 108 = .ok (.goto (-100), 3) := by decide +kernel
theorem dX3_builtIn_111 : decode cX3_builtIn 111 = .ok (.iconst (-1), 1) := by decide +kernel
theorem dX3_builtIn_112 : decode cX3_builtIn 112 = .ok (.ireturn, 1) := by decide +kernel
theorem mt_X3_sameBytes : mx_mt 109 = some (yX3_sameBytes, cX3_sameBytes, 8, (some .boolean)) := rfl
theorem dX3_sameBytes_0 : decode cX3_sameBytes 0 = .ok (.iload_n 2, 1) := by decide +kernel
theorem dX3_sameBytes_1 : decode cX3_sameBytes 1 = .ok (.iload_n 1, 1) := by decide +kernel
theorem dX3_sameBytes_2 : decode cX3_sameBytes 2 = .ok (.isub, 1) := by decide +kernel
theorem dX3_sameBytes_3 : decode cX3_sameBytes 3 = .ok (.iload 5, 2) := by decide +kernel
theorem dX3_sameBytes_5 : decode cX3_sameBytes 5 = .ok (.iload 4, 2) := by decide +kernel
theorem dX3_sameBytes_7 : decode cX3_sameBytes 7 = .ok (.isub, 1) := by decide +kernel
theorem dX3_sameBytes_8 : decode cX3_sameBytes 8 = .ok (.if_icmp .ne 33, 3) := by decide +kernel
theorem dX3_sameBytes_11 : decode cX3_sameBytes 11 = .ok (.iload_n 1, 1) := by decide +kernel
theorem dX3_sameBytes_12 : decode cX3_sameBytes 12 = .ok (.ifCond .lt 29, 3) := by decide +kernel
theorem dX3_sameBytes_15 : decode cX3_sameBytes 15 = .ok (.iload_n 2, 1) := by decide +kernel
theorem dX3_sameBytes_16 : decode cX3_sameBytes 16 = .ok (.aload_n 0, 1) := by decide +kernel
theorem dX3_sameBytes_17 : decode cX3_sameBytes 17 = .ok (.getfield 39, 3) := by decide +kernel
theorem dX3_sameBytes_20 : decode cX3_sameBytes 20 = .ok (.if_icmp .gt 21, 3) := by decide +kernel
theorem dX3_sameBytes_23 : decode cX3_sameBytes 23 = .ok (.iload 4, 2) := by decide +kernel
theorem dX3_sameBytes_25 : decode cX3_sameBytes 25 = .ok (.ifCond .lt 16, 3) := by decide +kernel
theorem dX3_sameBytes_28 : decode cX3_sameBytes 28 = .ok (.iload 5, 2) := by decide +kernel
theorem dX3_sameBytes_30 : decode cX3_sameBytes 30 = .ok (.aload_n 3, 1) := by decide +kernel
theorem dX3_sameBytes_31 : decode cX3_sameBytes 31 = .ok (.getfield 39, 3) := by decide +kernel
theorem dX3_sameBytes_34 : decode cX3_sameBytes 34 = .ok (.if_icmp .gt 7, 3) := by decide +kernel
theorem dX3_sameBytes_37 : decode cX3_sameBytes 37 = .ok (.iconst 1, 1) := by decide +kernel
theorem dX3_sameBytes_38 : decode cX3_sameBytes 38 = .ok (.goto 4, 3) := by decide +kernel
theorem dX3_sameBytes_41 : decode cX3_sameBytes 41 = .ok (.iconst 0, 1) := by decide +kernel
theorem dX3_sameBytes_42 : decode cX3_sameBytes 42 = .ok (.istore 6, 2) := by decide +kernel
theorem dX3_sameBytes_44 : decode cX3_sameBytes 44 = .ok (.iconst 0, 1) := by decide +kernel
theorem dX3_sameBytes_45 : decode cX3_sameBytes 45 = .ok (.istore 7, 2) := by decide +kernel
theorem dX3_sameBytes_47 : decode cX3_sameBytes 47 = .ok (.iload 7, 2) := by decide +kernel
theorem dX3_sameBytes_49 : decode cX3_sameBytes 49 = .ok (.iload_n 2, 1) := by decide +kernel
theorem dX3_sameBytes_50 : decode cX3_sameBytes 50 = .ok (.iload_n 1, 1) := by decide +kernel
theorem dX3_sameBytes_51 : decode cX3_sameBytes 51 = .ok (.isub, 1) := by decide +kernel
theorem dX3_sameBytes_52 : decode cX3_sameBytes 52 = .ok (.if_icmp .ge 43, 3) := by decide +kernel
theorem dX3_sameBytes_55 : decode cX3_sameBytes 55 = .ok (.iload 6, 2) := by decide +kernel
theorem dX3_sameBytes_57 : decode cX3_sameBytes 57 = .ok (.ifCond .eq 38, 3) := by decide +kernel
theorem dX3_sameBytes_60 : decode cX3_sameBytes 60 = .ok (.aload_n 0, 1) := by decide +kernel
theorem dX3_sameBytes_61 : decode cX3_sameBytes 61 = .ok (.getfield 9, 3) := by decide +kernel
theorem dX3_sameBytes_64 : decode cX3_sameBytes 64 = .ok (.iload_n 1, 1) := by decide +kernel
theorem dX3_sameBytes_65 : decode cX3_sameBytes 65 = .ok (.iload 7, 2) := by decide +kernel
theorem dX3_sameBytes_67 : decode cX3_sameBytes 67 = .ok (.iadd, 1) := by decide +kernel
theorem dX3_sameBytes_68 : decode cX3_sameBytes 68 = .ok (.baload, 1) := by decide +kernel
theorem dX3_sameBytes_69 : decode cX3_sameBytes 69 = .ok (.aload_n 3, 1) := by decide +kernel
theorem dX3_sameBytes_70 : decode cX3_sameBytes 70 = .ok (.getfield 9, 3) := by decide +kernel
theorem dX3_sameBytes_73 : decode cX3_sameBytes 73 = .ok (.iload 4, 2) := by decide +kernel
theorem dX3_sameBytes_75 : decode cX3_sameBytes 75 = .ok (.iload 7, 2) := by decide +kernel
theorem dX3_sameBytes_77 : decode cX3_sameBytes 77 = .ok (.iadd, 1) := by decide +kernel
theorem dX3_sameBytes_78 : decode cX3_sameBytes 78 = .ok (.baload, 1) := by decide +kernel
theorem dX3_sameBytes_79 : decode cX3_sameBytes 79 = .ok (.if_icmp .ne 7, 3) := by decide +kernel
theorem dX3_sameBytes_82 : decode cX3_sameBytes 82 = .ok (.iconst 1, 1) := by decide +kernel
theorem dX3_sameBytes_83 : decode cX3_sameBytes 83 = .ok (.goto 4, 3) := by decide +kernel
theorem dX3_sameBytes_86 : decode cX3_sameBytes 86 = .ok (.iconst 0, 1) := by decide +kernel
theorem dX3_sameBytes_87 : decode cX3_sameBytes 87 = .ok (.istore 6, 2) := by decide +kernel
theorem dX3_sameBytes_89 : decode cX3_sameBytes 89 = .ok (.iinc 7 1, 3) := by decide +kernel
theorem dX3_sameBytes_92 : decode cX3_sameBytes 92 = .ok (.goto (-45), 3) := by decide +kernel
theorem dX3_sameBytes_95 : decode cX3_sameBytes 95 = .ok (.iload 6, 2) := by decide +kernel
theorem dX3_sameBytes_97 : decode cX3_sameBytes 97 = .ok (.ireturn, 1) := by decide +kernel
theorem rs_RX7_56 : mx_res RX7 56 = some (0, 3, 8) := by decide +kernel
theorem rs_RX7_59 : mx_res RX7 59 = some (1, 107, 1) := by decide +kernel
theorem rs_RX7_63 : mx_res RX7 63 = some (1, 108, 1) := by decide +kernel
theorem rs_RX7_105 : mx_res RX7 105 = some (1, 111, 2) := by decide +kernel
theorem rs_RX7_113 : mx_res RX7 113 = some (1, 109, 5) := by decide +kernel
theorem mt_X7_classOf : mx_mt 204 = some (yX7_classOf, cX7_classOf, 6, (some .int)) := rfl
theorem dX7_classOf_0 : decode cX7_classOf 0 = .ok (.iconst 0, 1) := by decide +kernel
theorem dX7_classOf_1 : decode cX7_classOf 1 = .ok (.istore 4, 2) := by decide +kernel
theorem dX7_classOf_3 : decode cX7_classOf 3 = .ok (.iload 4, 2) := by decide +kernel
theorem dX7_classOf_5 : decode cX7_classOf 5 = .ok (.aload_n 0, 1) := by decide +kernel
theorem dX7_classOf_6 : decode cX7_classOf 6 = .ok (.getfield 41, 3) := by decide +kernel
theorem dX7_classOf_9 : decode cX7_classOf 9 = .ok (.if_icmp .ge 67, 3) := by decide +kernel
theorem dX7_classOf_12 : decode cX7_classOf 12 = .ok (.aload_n 0, 1) := by decide +kernel
theorem dX7_classOf_13 : decode cX7_classOf 13 = .ok (.getfield 22, 3) := by decide +kernel
theorem dX7_classOf_16 : decode cX7_classOf 16 = .ok (.iload 4, 2) := by decide +kernel
theorem dX7_classOf_18 : decode cX7_classOf 18 = .ok (.aaload, 1) := by decide +kernel
theorem dX7_classOf_19 : decode cX7_classOf 19 = .ok (.getfield 56, 3) := by decide +kernel
theorem dX7_classOf_22 : decode cX7_classOf 22 = .ok (.istore 5, 2) := by decide +kernel
theorem dX7_classOf_24 : decode cX7_classOf 24 = .ok (.aload_n 0, 1) := by decide +kernel
theorem dX7_classOf_25 : decode cX7_classOf 25 = .ok (.getfield 22, 3) := by decide +kernel
theorem dX7_classOf_28 : decode cX7_classOf 28 = .ok (.iload 4, 2) := by decide +kernel
theorem dX7_classOf_30 : decode cX7_classOf 30 = .ok (.aaload, 1) := by decide +kernel
theorem dX7_classOf_31 : decode cX7_classOf 31 = .ok (.aload_n 0, 1) := by decide +kernel
theorem dX7_classOf_32 : decode cX7_classOf 32 = .ok (.getfield 22, 3) := by decide +kernel
theorem dX7_classOf_35 : decode cX7_classOf 35 = .ok (.iload 4, 2) := by decide +kernel
theorem dX7_classOf_37 : decode cX7_classOf 37 = .ok (.aaload, 1) := by decide +kernel
theorem dX7_classOf_38 : decode cX7_classOf 38 = .ok (.iload 5, 2) := by decide +kernel
theorem dX7_classOf_40 : decode cX7_classOf 40 = .ok (.invokevirtual 59, 3) := by decide +kernel
theorem dX7_classOf_43 : decode cX7_classOf 43 = .ok (.aload_n 0, 1) := by decide +kernel
theorem dX7_classOf_44 : decode cX7_classOf 44 = .ok (.getfield 22, 3) := by decide +kernel
theorem dX7_classOf_47 : decode cX7_classOf 47 = .ok (.iload 4, 2) := by decide +kernel
theorem dX7_classOf_49 : decode cX7_classOf 49 = .ok (.aaload, 1) := by decide +kernel
theorem dX7_classOf_50 : decode cX7_classOf 50 = .ok (.iload 5, 2) := by decide +kernel
theorem dX7_classOf_52 : decode cX7_classOf 52 = .ok (.invokevirtual 63, 3) := by decide +kernel
theorem dX7_classOf_55 : decode cX7_classOf 55 = .ok (.aload_n 1, 1) := by decide +kernel
theorem dX7_classOf_56 : decode cX7_classOf 56 = .ok (.iload_n 2, 1) := by decide +kernel
theorem dX7_classOf_57 : decode cX7_classOf 57 = .ok (.iload_n 3, 1) := by decide +kernel
theorem dX7_classOf_58 : decode cX7_classOf 58 = .ok (.invokevirtual 113, 3) := by decide +kernel
theorem dX7_classOf_61 : decode cX7_classOf 61 = .ok (.ifCond .eq 9, 3) := by decide +kernel
theorem dX7_classOf_64 : decode cX7_classOf 64 = .ok (.bipush 8, 2) := by decide +kernel
theorem dX7_classOf_66 : decode cX7_classOf 66 = .ok (.iload 4, 2) := by decide +kernel
theorem dX7_classOf_68 : decode cX7_classOf 68 = .ok (.iadd, 1) := by decide +kernel
theorem dX7_classOf_69 : decode cX7_classOf 69 = .ok (.ireturn, 1) := by decide +kernel
theorem dX7_classOf_70 : decode cX7_classOf 70 = .ok (.iinc 4 1, 3) := by decide +kernel
theorem dX7_classOf_73 : decode cX7_classOf 73 = .ok (.goto (-70), 3) := by decide +kernel
theorem dX7_classOf_76 : decode cX7_classOf 76 = .ok (.aload_n 1, 1) := by decide +kernel
theorem dX7_classOf_77 : decode cX7_classOf 77 = .ok (.iload_n 2, 1) := by decide +kernel
theorem dX7_classOf_78 : decode cX7_classOf 78 = .ok (.iload_n 3, 1) := by decide +kernel
theorem dX7_classOf_79 : decode cX7_classOf 79 = .ok (.invokevirtual 105, 3) := by decide +kernel
theorem dX7_classOf_82 : decode cX7_classOf 82 = .ok (.ireturn, 1) := by decide +kernel
theorem rs_RX7_66 : mx_res RX7 66 = some (1, 204, 3) := by decide +kernel
theorem rs_RX7_80 : mx_res RX7 80 = some (0, 3, 9) := by decide +kernel
theorem rs_RX7_83 : mx_res RX7 83 = some (1, 132, 2) := by decide +kernel
theorem rs_RX7_87 : mx_res RX7 87 = some (1, 133, 0) := by decide +kernel
theorem mt_X7_relate : mx_mt 201 = some (yX7_relate, cX7_relate, 3, none) := rfl
theorem dX7_relate_0 : decode cX7_relate 0 = .ok (.aload_n 0, 1) := by decide +kernel
theorem dX7_relate_1 : decode cX7_relate 1 = .ok (.iconst 0, 1) := by decide +kernel
theorem dX7_relate_2 : decode cX7_relate 2 = .ok (.putfield 45, 3) := by decide +kernel
theorem dX7_relate_5 : decode cX7_relate 5 = .ok (.aload_n 0, 1) := by decide +kernel
theorem dX7_relate_6 : decode cX7_relate 6 = .ok (.getfield 16, 3) := by decide +kernel
theorem dX7_relate_9 : decode cX7_relate 9 = .ok (.invokevirtual 49, 3) := by decide +kernel
theorem dX7_relate_12 : decode cX7_relate 12 = .ok (.iconst 0, 1) := by decide +kernel
theorem dX7_relate_13 : decode cX7_relate 13 = .ok (.istore_n 1, 1) := by decide +kernel
theorem dX7_relate_14 : decode cX7_relate 14 = .ok (.iload_n 1, 1) := by decide +kernel
theorem dX7_relate_15 : decode cX7_relate 15 = .ok (.aload_n 0, 1) := by decide +kernel
theorem dX7_relate_16 : decode cX7_relate 16 = .ok (.getfield 41, 3) := by decide +kernel
theorem dX7_relate_19 : decode cX7_relate 19 = .ok (.if_icmp .ge 60, 3) := by decide +kernel
theorem dX7_relate_22 : decode cX7_relate 22 = .ok (.aload_n 0, 1) := by decide +kernel
theorem dX7_relate_23 : decode cX7_relate 23 = .ok (.getfield 22, 3) := by decide +kernel
theorem dX7_relate_26 : decode cX7_relate 26 = .ok (.iload_n 1, 1) := by decide +kernel
theorem dX7_relate_27 : decode cX7_relate 27 = .ok (.aaload, 1) := by decide +kernel
theorem dX7_relate_28 : decode cX7_relate 28 = .ok (.getfield 80, 3) := by decide +kernel
theorem dX7_relate_31 : decode cX7_relate 31 = .ok (.istore_n 2, 1) := by decide +kernel
theorem dX7_relate_32 : decode cX7_relate 32 = .ok (.aload_n 0, 1) := by decide +kernel
theorem dX7_relate_33 : decode cX7_relate 33 = .ok (.getfield 16, 3) := by decide +kernel
theorem dX7_relate_36 : decode cX7_relate 36 = .ok (.bipush 8, 2) := by decide +kernel
theorem dX7_relate_38 : decode cX7_relate 38 = .ok (.iload_n 1, 1) := by decide +kernel
theorem dX7_relate_39 : decode cX7_relate 39 = .ok (.iadd, 1) := by decide +kernel
theorem dX7_relate_40 : decode cX7_relate 40 = .ok (.aload_n 0, 1) := by decide +kernel
theorem dX7_relate_41 : decode cX7_relate 41 = .ok (.aload_n 0, 1) := by decide +kernel
theorem dX7_relate_42 : decode cX7_relate 42 = .ok (.getfield 22, 3) := by decide +kernel
theorem dX7_relate_45 : decode cX7_relate 45 = .ok (.iload_n 1, 1) := by decide +kernel
theorem dX7_relate_46 : decode cX7_relate 46 = .ok (.aaload, 1) := by decide +kernel
theorem dX7_relate_47 : decode cX7_relate 47 = .ok (.aload_n 0, 1) := by decide +kernel
theorem dX7_relate_48 : decode cX7_relate 48 = .ok (.getfield 22, 3) := by decide +kernel
theorem dX7_relate_51 : decode cX7_relate 51 = .ok (.iload_n 1, 1) := by decide +kernel
theorem dX7_relate_52 : decode cX7_relate 52 = .ok (.aaload, 1) := by decide +kernel
theorem dX7_relate_53 : decode cX7_relate 53 = .ok (.iload_n 2, 1) := by decide +kernel
theorem dX7_relate_54 : decode cX7_relate 54 = .ok (.invokevirtual 59, 3) := by decide +kernel
theorem dX7_relate_57 : decode cX7_relate 57 = .ok (.aload_n 0, 1) := by decide +kernel
theorem dX7_relate_58 : decode cX7_relate 58 = .ok (.getfield 22, 3) := by decide +kernel
theorem dX7_relate_61 : decode cX7_relate 61 = .ok (.iload_n 1, 1) := by decide +kernel
theorem dX7_relate_62 : decode cX7_relate 62 = .ok (.aaload, 1) := by decide +kernel
theorem dX7_relate_63 : decode cX7_relate 63 = .ok (.iload_n 2, 1) := by decide +kernel
theorem dX7_relate_64 : decode cX7_relate 64 = .ok (.invokevirtual 63, 3) := by decide +kernel
theorem dX7_relate_67 : decode cX7_relate 67 = .ok (.invokevirtual 66, 3) := by decide +kernel
theorem dX7_relate_70 : decode cX7_relate 70 = .ok (.invokevirtual 83, 3) := by decide +kernel
theorem dX7_relate_73 : decode cX7_relate 73 = .ok (.iinc 1 1, 3) := by decide +kernel
theorem dX7_relate_76 : decode cX7_relate 76 = .ok (.goto (-62), 3) := by decide +kernel
theorem dX7_relate_79 : decode cX7_relate 79 = .ok (.aload_n 0, 1) := by decide +kernel
theorem dX7_relate_80 : decode cX7_relate 80 = .ok (.getfield 16, 3) := by decide +kernel
theorem dX7_relate_83 : decode cX7_relate 83 = .ok (.invokevirtual 87, 3) := by decide +kernel
theorem dX7_relate_86 : decode cX7_relate 86 = .ok (.return_, 1) := by decide +kernel
theorem mt_X7_swapSpare : mx_mt 200 = some (yX7_swapSpare, cX7_swapSpare, 3, none) := rfl
theorem dX7_swapSpare_0 : decode cX7_swapSpare 0 = .ok (.aload_n 0, 1) := by decide +kernel
theorem dX7_swapSpare_1 : decode cX7_swapSpare 1 = .ok (.getfield 22, 3) := by decide +kernel
theorem dX7_swapSpare_4 : decode cX7_swapSpare 4 = .ok (.iload_n 1, 1) := by decide +kernel
theorem dX7_swapSpare_5 : decode cX7_swapSpare 5 = .ok (.aaload, 1) := by decide +kernel
theorem dX7_swapSpare_6 : decode cX7_swapSpare 6 = .ok (.astore_n 2, 1) := by decide +kernel
theorem dX7_swapSpare_7 : decode cX7_swapSpare 7 = .ok (.aload_n 0, 1) := by decide +kernel
theorem dX7_swapSpare_8 : decode cX7_swapSpare 8 = .ok (.getfield 22, 3) := by decide +kernel
theorem dX7_swapSpare_11 : decode cX7_swapSpare 11 = .ok (.iload_n 1, 1) := by decide +kernel
theorem dX7_swapSpare_12 : decode cX7_swapSpare 12 = .ok (.aload_n 0, 1) := by decide +kernel
theorem dX7_swapSpare_13 : decode cX7_swapSpare 13 = .ok (.getfield 27, 3) := by decide +kernel
theorem dX7_swapSpare_16 : decode cX7_swapSpare 16 = .ok (.aastore, 1) := by decide +kernel
theorem dX7_swapSpare_17 : decode cX7_swapSpare 17 = .ok (.aload_n 0, 1) := by decide +kernel
theorem dX7_swapSpare_18 : decode cX7_swapSpare 18 = .ok (.aload_n 2, 1) := by decide +kernel
theorem dX7_swapSpare_19 : decode cX7_swapSpare 19 = .ok (.putfield 27, 3) := by decide +kernel
theorem dX7_swapSpare_22 : decode cX7_swapSpare 22 = .ok (.return_, 1) := by decide +kernel
theorem rs_RX7_52 : mx_res RX7 52 = some (1, 92, 2) := by decide +kernel
theorem rs_RX7_70 : mx_res RX7 70 = some (1, 93, 0) := by decide +kernel
theorem rs_RX7_73 : mx_res RX7 73 = some (1, 200, 1) := by decide +kernel
theorem rs_RX7_77 : mx_res RX7 77 = some (1, 201, 0) := by decide +kernel
theorem mt_X7_bring : mx_mt 199 = some (yX7_bring, cX7_bring, 5, (some .int)) := rfl
theorem dX7_bring_0 : decode cX7_bring 0 = .ok (.aload_n 0, 1) := by decide +kernel
theorem dX7_bring_1 : decode cX7_bring 1 = .ok (.getfield 27, 3) := by decide +kernel
theorem dX7_bring_4 : decode cX7_bring 4 = .ok (.aload_n 1, 1) := by decide +kernel
theorem dX7_bring_5 : decode cX7_bring 5 = .ok (.iload_n 2, 1) := by decide +kernel
theorem dX7_bring_6 : decode cX7_bring 6 = .ok (.invokevirtual 52, 3) := by decide +kernel
theorem dX7_bring_9 : decode cX7_bring 9 = .ok (.istore_n 3, 1) := by decide +kernel
theorem dX7_bring_10 : decode cX7_bring 10 = .ok (.iload_n 3, 1) := by decide +kernel
theorem dX7_bring_11 : decode cX7_bring 11 = .ok (.iconst (-1), 1) := by decide +kernel
theorem dX7_bring_12 : decode cX7_bring 12 = .ok (.if_icmp .eq 8, 3) := by decide +kernel
theorem dX7_bring_15 : decode cX7_bring 15 = .ok (.bipush (-2), 2) := by decide +kernel
theorem dX7_bring_17 : decode cX7_bring 17 = .ok (.iload_n 3, 1) := by decide +kernel
theorem dX7_bring_18 : decode cX7_bring 18 = .ok (.isub, 1) := by decide +kernel
theorem dX7_bring_19 : decode cX7_bring 19 = .ok (.ireturn, 1) := by decide +kernel
theorem dX7_bring_20 : decode cX7_bring 20 = .ok (.aload_n 0, 1) := by decide +kernel
theorem dX7_bring_21 : decode cX7_bring 21 = .ok (.getfield 27, 3) := by decide +kernel
theorem dX7_bring_24 : decode cX7_bring 24 = .ok (.getfield 56, 3) := by decide +kernel
theorem dX7_bring_27 : decode cX7_bring 27 = .ok (.istore 4, 2) := by decide +kernel
theorem dX7_bring_29 : decode cX7_bring 29 = .ok (.aload_n 0, 1) := by decide +kernel
theorem dX7_bring_30 : decode cX7_bring 30 = .ok (.getfield 41, 3) := by decide +kernel
theorem dX7_bring_33 : decode cX7_bring 33 = .ok (.bipush 8, 2) := by decide +kernel
theorem dX7_bring_35 : decode cX7_bring 35 = .ok (.if_icmp .ge 33, 3) := by decide +kernel
theorem dX7_bring_38 : decode cX7_bring 38 = .ok (.aload_n 0, 1) := by decide +kernel
theorem dX7_bring_39 : decode cX7_bring 39 = .ok (.aload_n 0, 1) := by decide +kernel
theorem dX7_bring_40 : decode cX7_bring 40 = .ok (.getfield 27, 3) := by decide +kernel
theorem dX7_bring_43 : decode cX7_bring 43 = .ok (.aload_n 0, 1) := by decide +kernel
theorem dX7_bring_44 : decode cX7_bring 44 = .ok (.getfield 27, 3) := by decide +kernel
theorem dX7_bring_47 : decode cX7_bring 47 = .ok (.iload 4, 2) := by decide +kernel
theorem dX7_bring_49 : decode cX7_bring 49 = .ok (.invokevirtual 59, 3) := by decide +kernel
theorem dX7_bring_52 : decode cX7_bring 52 = .ok (.aload_n 0, 1) := by decide +kernel
theorem dX7_bring_53 : decode cX7_bring 53 = .ok (.getfield 27, 3) := by decide +kernel
theorem dX7_bring_56 : decode cX7_bring 56 = .ok (.iload 4, 2) := by decide +kernel
theorem dX7_bring_58 : decode cX7_bring 58 = .ok (.invokevirtual 63, 3) := by decide +kernel
theorem dX7_bring_61 : decode cX7_bring 61 = .ok (.invokevirtual 66, 3) := by decide +kernel
theorem dX7_bring_64 : decode cX7_bring 64 = .ok (.iconst (-1), 1) := by decide +kernel
theorem dX7_bring_65 : decode cX7_bring 65 = .ok (.if_icmp .eq 5, 3) := by decide +kernel
theorem dX7_bring_68 : decode cX7_bring 68 = .ok (.iconst (-1), 1) := by decide +kernel
theorem dX7_bring_69 : decode cX7_bring 69 = .ok (.ireturn, 1) := by decide +kernel
theorem dX7_bring_70 : decode cX7_bring 70 = .ok (.aload_n 0, 1) := by decide +kernel
theorem dX7_bring_71 : decode cX7_bring 71 = .ok (.getfield 27, 3) := by decide +kernel
theorem dX7_bring_74 : decode cX7_bring 74 = .ok (.invokevirtual 70, 3) := by decide +kernel
theorem dX7_bring_77 : decode cX7_bring 77 = .ok (.aload_n 0, 1) := by decide +kernel
theorem dX7_bring_78 : decode cX7_bring 78 = .ok (.aload_n 0, 1) := by decide +kernel
theorem dX7_bring_79 : decode cX7_bring 79 = .ok (.getfield 41, 3) := by decide +kernel
theorem dX7_bring_82 : decode cX7_bring 82 = .ok (.invokevirtual 73, 3) := by decide +kernel
theorem dX7_bring_85 : decode cX7_bring 85 = .ok (.aload_n 0, 1) := by decide +kernel
theorem dX7_bring_86 : decode cX7_bring 86 = .ok (.dup, 1) := by decide +kernel
theorem dX7_bring_87 : decode cX7_bring 87 = .ok (.getfield 41, 3) := by decide +kernel
theorem dX7_bring_90 : decode cX7_bring 90 = .ok (.iconst 1, 1) := by decide +kernel
theorem dX7_bring_91 : decode cX7_bring 91 = .ok (.iadd, 1) := by decide +kernel
theorem dX7_bring_92 : decode cX7_bring 92 = .ok (.putfield 41, 3) := by decide +kernel
theorem dX7_bring_95 : decode cX7_bring 95 = .ok (.aload_n 0, 1) := by decide +kernel
theorem dX7_bring_96 : decode cX7_bring 96 = .ok (.invokevirtual 77, 3) := by decide +kernel
theorem dX7_bring_99 : decode cX7_bring 99 = .ok (.bipush 8, 2) := by decide +kernel
theorem dX7_bring_101 : decode cX7_bring 101 = .ok (.aload_n 0, 1) := by decide +kernel
theorem dX7_bring_102 : decode cX7_bring 102 = .ok (.getfield 41, 3) := by decide +kernel
theorem dX7_bring_105 : decode cX7_bring 105 = .ok (.iadd, 1) := by decide +kernel
theorem dX7_bring_106 : decode cX7_bring 106 = .ok (.iconst 1, 1) := by decide +kernel
theorem dX7_bring_107 : decode cX7_bring 107 = .ok (.isub, 1) := by decide +kernel
theorem dX7_bring_108 : decode cX7_bring 108 = .ok (.ireturn, 1) := by decide +kernel
theorem rs_RX12_149 : mx_res RX12 149 = some (1, 199, 2) := by decide +kernel
theorem mt_X12_keep : mx_mt 369 = some (yX12_keep, cX12_keep, 4, (some .int)) := rfl
theorem dX12_keep_0 : decode cX12_keep 0 = .ok (.aload_n 0, 1) := by decide +kernel
theorem dX12_keep_1 : decode cX12_keep 1 = .ok (.iload_n 1, 1) := by decide +kernel
theorem dX12_keep_2 : decode cX12_keep 2 = .ok (.invokevirtual 146, 3) := by decide +kernel
theorem dX12_keep_5 : decode cX12_keep 5 = .ok (.astore_n 2, 1) := by decide +kernel
theorem dX12_keep_6 : decode cX12_keep 6 = .ok (.aload_n 2, 1) := by decide +kernel
theorem dX12_keep_7 : decode cX12_keep 7 = .ok (.ifnonnull 7, 3) := by decide +kernel
theorem dX12_keep_10 : decode cX12_keep 10 = .ok (.iconst (-1), 1) := by decide +kernel
theorem dX12_keep_11 : decode cX12_keep 11 = .ok (.goto 13, 3) := by decide +kernel
theorem dX12_keep_14 : decode cX12_keep 14 = .ok (.aload_n 0, 1) := by decide +kernel
theorem dX12_keep_15 : decode cX12_keep 15 = .ok (.getfield 53, 3) := by decide +kernel
theorem dX12_keep_18 : decode cX12_keep 18 = .ok (.aload_n 2, 1) := by decide +kernel
theorem dX12_keep_19 : decode cX12_keep 19 = .ok (.aload_n 2, 1) := by decide +kernel
theorem dX12_keep_20 : decode cX12_keep 20 = .ok (.arraylength, 1) := by decide +kernel
theorem dX12_keep_21 : decode cX12_keep 21 = .ok (.invokevirtual 149, 3) := by decide +kernel
theorem dX12_keep_24 : decode cX12_keep 24 = .ok (.istore_n 3, 1) := by decide +kernel
theorem dX12_keep_25 : decode cX12_keep 25 = .ok (.iload_n 3, 1) := by decide +kernel
theorem dX12_keep_26 : decode cX12_keep 26 = .ok (.ifCond .lt 10, 3) := by decide +kernel
theorem dX12_keep_29 : decode cX12_keep 29 = .ok (.aload_n 0, 1) := by decide +kernel
theorem dX12_keep_30 : decode cX12_keep 30 = .ok (.getfield 69, 3) := by decide +kernel
theorem dX12_keep_33 : decode cX12_keep 33 = .ok (.invokevirtual 153, 3) := by decide +kernel
theorem dX12_keep_36 : decode cX12_keep 36 = .ok (.iload_n 3, 1) := by decide +kernel
theorem dX12_keep_37 : decode cX12_keep 37 = .ok (.ireturn, 1) := by decide +kernel
theorem mt_X12_load : mx_mt 368 = some (yX12_load, cX12_load, 2, (some .int)) := rfl
theorem dX12_load_0 : decode cX12_load 0 = .ok (.aload_n 0, 1) := by decide +kernel
theorem dX12_load_1 : decode cX12_load 1 = .ok (.getfield 53, 3) := by decide +kernel
theorem dX12_load_4 : decode cX12_load 4 = .ok (.aload_n 0, 1) := by decide +kernel
theorem dX12_load_5 : decode cX12_load 5 = .ok (.getfield 9, 3) := by decide +kernel
theorem dX12_load_8 : decode cX12_load 8 = .ok (.aload_n 0, 1) := by decide +kernel
theorem dX12_load_9 : decode cX12_load 9 = .ok (.getfield 73, 3) := by decide +kernel
theorem dX12_load_12 : decode cX12_load 12 = .ok (.invokevirtual 149, 3) := by decide +kernel
theorem dX12_load_15 : decode cX12_load 15 = .ok (.istore_n 1, 1) := by decide +kernel
theorem dX12_load_16 : decode cX12_load 16 = .ok (.aload_n 0, 1) := by decide +kernel
theorem dX12_load_17 : decode cX12_load 17 = .ok (.iconst 0, 1) := by decide +kernel
theorem dX12_load_18 : decode cX12_load 18 = .ok (.putfield 73, 3) := by decide +kernel
theorem dX12_load_21 : decode cX12_load 21 = .ok (.iload_n 1, 1) := by decide +kernel
theorem dX12_load_22 : decode cX12_load 22 = .ok (.ifCond .lt 10, 3) := by decide +kernel
theorem dX12_load_25 : decode cX12_load 25 = .ok (.aload_n 0, 1) := by decide +kernel
theorem dX12_load_26 : decode cX12_load 26 = .ok (.getfield 69, 3) := by decide +kernel
theorem dX12_load_29 : decode cX12_load 29 = .ok (.invokevirtual 153, 3) := by decide +kernel
theorem dX12_load_32 : decode cX12_load 32 = .ok (.iload_n 1, 1) := by decide +kernel
theorem dX12_load_33 : decode cX12_load 33 = .ok (.ireturn, 1) := by decide +kernel
theorem mt_X5_tell : mx_mt 146 = some (yX5_tell, cX5_tell, 2, (some .int)) := rfl
theorem dX5_tell_0 : decode cX5_tell 0 = .ok (.iload_n 1, 1) := by decide +kernel
theorem dX5_tell_1 : decode cX5_tell 1 = .ok (.tableswitch 78 0 6 #[43, 48, 53, 58, 63, 68, 73], 43) := by decide +kernel
theorem dX5_tell_44 : decode cX5_tell 44 = .ok (.aload_n 0, 1) := by decide +kernel
theorem dX5_tell_45 : decode cX5_tell 45 = .ok (.getfield 54, 3) := by decide +kernel
theorem dX5_tell_48 : decode cX5_tell 48 = .ok (.ireturn, 1) := by decide +kernel
theorem dX5_tell_49 : decode cX5_tell 49 = .ok (.aload_n 0, 1) := by decide +kernel
theorem dX5_tell_50 : decode cX5_tell 50 = .ok (.getfield 50, 3) := by decide +kernel
theorem dX5_tell_53 : decode cX5_tell 53 = .ok (.ireturn, 1) := by decide +kernel
theorem dX5_tell_54 : decode cX5_tell 54 = .ok (.aload_n 0, 1) := by decide +kernel
theorem dX5_tell_55 : decode cX5_tell 55 = .ok (.getfield 57, 3) := by decide +kernel
theorem dX5_tell_58 : decode cX5_tell 58 = .ok (.ireturn, 1) := by decide +kernel
theorem dX5_tell_59 : decode cX5_tell 59 = .ok (.aload_n 0, 1) := by decide +kernel
theorem dX5_tell_60 : decode cX5_tell 60 = .ok (.getfield 60, 3) := by decide +kernel
theorem dX5_tell_63 : decode cX5_tell 63 = .ok (.ireturn, 1) := by decide +kernel
theorem dX5_tell_64 : decode cX5_tell 64 = .ok (.aload_n 0, 1) := by decide +kernel
theorem dX5_tell_65 : decode cX5_tell 65 = .ok (.getfield 63, 3) := by decide +kernel
theorem dX5_tell_68 : decode cX5_tell 68 = .ok (.ireturn, 1) := by decide +kernel
theorem dX5_tell_69 : decode cX5_tell 69 = .ok (.aload_n 0, 1) := by decide +kernel
theorem dX5_tell_70 : decode cX5_tell 70 = .ok (.getfield 66, 3) := by decide +kernel
theorem dX5_tell_73 : decode cX5_tell 73 = .ok (.ireturn, 1) := by decide +kernel
theorem dX5_tell_74 : decode cX5_tell 74 = .ok (.aload_n 0, 1) := by decide +kernel
theorem dX5_tell_75 : decode cX5_tell 75 = .ok (.getfield 69, 3) := by decide +kernel
theorem dX5_tell_78 : decode cX5_tell 78 = .ok (.ireturn, 1) := by decide +kernel
theorem dX5_tell_79 : decode cX5_tell 79 = .ok (.iconst (-1), 1) := by decide +kernel
theorem dX5_tell_80 : decode cX5_tell 80 = .ok (.ireturn, 1) := by decide +kernel
theorem rs_RX5_97 : mx_res RX5 97 = some (0, 5, 17) := by decide +kernel
theorem mt_X5_tellTop : mx_mt 147 = some (yX5_tellTop, cX5_tellTop, 2, (some .int)) := rfl
theorem dX5_tellTop_0 : decode cX5_tellTop 0 = .ok (.aload_n 0, 1) := by decide +kernel
theorem dX5_tellTop_1 : decode cX5_tellTop 1 = .ok (.getfield 54, 3) := by decide +kernel
theorem dX5_tellTop_4 : decode cX5_tellTop 4 = .ok (.iconst 1, 1) := by decide +kernel
theorem dX5_tellTop_5 : decode cX5_tellTop 5 = .ok (.if_icmp .eq 5, 3) := by decide +kernel
theorem dX5_tellTop_8 : decode cX5_tellTop 8 = .ok (.iconst (-1), 1) := by decide +kernel
theorem dX5_tellTop_9 : decode cX5_tellTop 9 = .ok (.ireturn, 1) := by decide +kernel
theorem dX5_tellTop_10 : decode cX5_tellTop 10 = .ok (.iload_n 1, 1) := by decide +kernel
theorem dX5_tellTop_11 : decode cX5_tellTop 11 = .ok (.tableswitch 78 7 10 #[29, 45, 58, 68], 29) := by decide +kernel
theorem dX5_tellTop_40 : decode cX5_tellTop 40 = .ok (.bipush 8, 2) := by decide +kernel
theorem dX5_tellTop_42 : decode cX5_tellTop 42 = .ok (.aload_n 0, 1) := by decide +kernel
theorem dX5_tellTop_43 : decode cX5_tellTop 43 = .ok (.getfield 26, 3) := by decide +kernel
theorem dX5_tellTop_46 : decode cX5_tellTop 46 = .ok (.aload_n 0, 1) := by decide +kernel
theorem dX5_tellTop_47 : decode cX5_tellTop 47 = .ok (.getfield 97, 3) := by decide +kernel
theorem dX5_tellTop_50 : decode cX5_tellTop 50 = .ok (.iaload, 1) := by decide +kernel
theorem dX5_tellTop_51 : decode cX5_tellTop 51 = .ok (.bipush 12, 2) := by decide +kernel
theorem dX5_tellTop_53 : decode cX5_tellTop 53 = .ok (.idiv, 1) := by decide +kernel
theorem dX5_tellTop_54 : decode cX5_tellTop 54 = .ok (.iadd, 1) := by decide +kernel
theorem dX5_tellTop_55 : decode cX5_tellTop 55 = .ok (.ireturn, 1) := by decide +kernel
theorem dX5_tellTop_56 : decode cX5_tellTop 56 = .ok (.aload_n 0, 1) := by decide +kernel
theorem dX5_tellTop_57 : decode cX5_tellTop 57 = .ok (.getfield 26, 3) := by decide +kernel
theorem dX5_tellTop_60 : decode cX5_tellTop 60 = .ok (.aload_n 0, 1) := by decide +kernel
theorem dX5_tellTop_61 : decode cX5_tellTop 61 = .ok (.getfield 97, 3) := by decide +kernel
theorem dX5_tellTop_64 : decode cX5_tellTop 64 = .ok (.iaload, 1) := by decide +kernel
theorem dX5_tellTop_65 : decode cX5_tellTop 65 = .ok (.bipush 12, 2) := by decide +kernel
theorem dX5_tellTop_67 : decode cX5_tellTop 67 = .ok (.irem, 1) := by decide +kernel
theorem dX5_tellTop_68 : decode cX5_tellTop 68 = .ok (.ireturn, 1) := by decide +kernel
theorem dX5_tellTop_69 : decode cX5_tellTop 69 = .ok (.aload_n 0, 1) := by decide +kernel
theorem dX5_tellTop_70 : decode cX5_tellTop 70 = .ok (.getfield 29, 3) := by decide +kernel
theorem dX5_tellTop_73 : decode cX5_tellTop 73 = .ok (.aload_n 0, 1) := by decide +kernel
theorem dX5_tellTop_74 : decode cX5_tellTop 74 = .ok (.getfield 97, 3) := by decide +kernel
theorem dX5_tellTop_77 : decode cX5_tellTop 77 = .ok (.iaload, 1) := by decide +kernel
theorem dX5_tellTop_78 : decode cX5_tellTop 78 = .ok (.ireturn, 1) := by decide +kernel
theorem dX5_tellTop_79 : decode cX5_tellTop 79 = .ok (.aload_n 0, 1) := by decide +kernel
theorem dX5_tellTop_80 : decode cX5_tellTop 80 = .ok (.getfield 32, 3) := by decide +kernel
theorem dX5_tellTop_83 : decode cX5_tellTop 83 = .ok (.aload_n 0, 1) := by decide +kernel
theorem dX5_tellTop_84 : decode cX5_tellTop 84 = .ok (.getfield 97, 3) := by decide +kernel
theorem dX5_tellTop_87 : decode cX5_tellTop 87 = .ok (.iaload, 1) := by decide +kernel
theorem dX5_tellTop_88 : decode cX5_tellTop 88 = .ok (.ireturn, 1) := by decide +kernel
theorem dX5_tellTop_89 : decode cX5_tellTop 89 = .ok (.iconst (-1), 1) := by decide +kernel
theorem dX5_tellTop_90 : decode cX5_tellTop 90 = .ok (.ireturn, 1) := by decide +kernel
