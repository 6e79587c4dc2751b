theorem rs_RX8_37 : mx_res RX8 37 = some (1, 221, 1) := by decide +kernel
theorem rs_RX8_45 : mx_res RX8 45 = some (1, 222, 1) := by decide +kernel
theorem rs_RX8_64 : mx_res RX8 64 = some (1, 223, 1) := by decide +kernel
theorem rs_RX8_83 : mx_res RX8 83 = some (1, 234, 1) := by decide +kernel
theorem rs_RX8_86 : mx_res RX8 86 = some (1, 236, 1) := by decide +kernel
theorem rs_RX8_89 : mx_res RX8 89 = some (1, 235, 1) := by decide +kernel
theorem rs_RX8_97 : mx_res RX8 97 = some (1, 269, 0) := by decide +kernel
theorem rs_RX8_100 : mx_res RX8 100 = some (1, 237, 1) := by decide +kernel
theorem rs_RX8_103 : mx_res RX8 103 = some (1, 240, 1) := by decide +kernel
theorem rs_RX8_106 : mx_res RX8 106 = some (1, 239, 1) := by decide +kernel
theorem rs_RX8_109 : mx_res RX8 109 = some (1, 238, 1) := by decide +kernel
theorem mt_X8_readValue : mx_mt 234 = some (yX8_readValue, cX8_readValue, 4, none) := rfl
theorem dX8_readArguments_0 : decode cX8_readArguments 0 = .ok (.aload_n 0, 1) := by decide +kernel
theorem dX8_readArguments_1 : decode cX8_readArguments 1 = .ok (.bipush 40, 2) := by decide +kernel
theorem dX8_readArguments_3 : decode cX8_readArguments 3 = .ok (.invokevirtual 45, 3) := by decide +kernel
theorem dX8_readArguments_6 : decode cX8_readArguments 6 = .ok (.ifCond .eq 12, 3) := by decide +kernel
theorem dX8_readArguments_9 : decode cX8_readArguments 9 = .ok (.aload_n 0, 1) := by decide +kernel
theorem dX8_readArguments_10 : decode cX8_readArguments 10 = .ok (.bipush 41, 2) := by decide +kernel
theorem dX8_readArguments_12 : decode cX8_readArguments 12 = .ok (.invokevirtual 45, 3) := by decide +kernel
theorem dX8_readArguments_15 : decode cX8_readArguments 15 = .ok (.ifCond .eq 4, 3) := by decide +kernel
theorem dX8_readArguments_18 : decode cX8_readArguments 18 = .ok (.return_, 1) := by decide +kernel
theorem dX8_readArguments_19 : decode cX8_readArguments 19 = .ok (.iconst 1, 1) := by decide +kernel
theorem dX8_readArguments_20 : decode cX8_readArguments 20 = .ok (.istore_n 2, 1) := by decide +kernel
theorem dX8_readArguments_21 : decode cX8_readArguments 21 = .ok (.iconst 0, 1) := by decide +kernel
theorem dX8_readArguments_22 : decode cX8_readArguments 22 = .ok (.istore_n 3, 1) := by decide +kernel
theorem dX8_readArguments_23 : decode cX8_readArguments 23 = .ok (.iload_n 3, 1) := by decide +kernel
theorem dX8_readArguments_24 : decode cX8_readArguments 24 = .ok (.sipush 3000, 3) := by decide +kernel
theorem dX8_readArguments_27 : decode cX8_readArguments 27 = .ok (.if_icmp .ge 25, 3) := by decide +kernel
theorem dX8_readArguments_30 : decode cX8_readArguments 30 = .ok (.iload_n 2, 1) := by decide +kernel
theorem dX8_readArguments_31 : decode cX8_readArguments 31 = .ok (.ifCond .eq 21, 3) := by decide +kernel
theorem dX8_readArguments_34 : decode cX8_readArguments 34 = .ok (.aload_n 0, 1) := by decide +kernel
theorem dX8_readArguments_35 : decode cX8_readArguments 35 = .ok (.iload_n 1, 1) := by decide +kernel
theorem dX8_readArguments_36 : decode cX8_readArguments 36 = .ok (.invokevirtual 83, 3) := by decide +kernel
theorem dX8_readArguments_39 : decode cX8_readArguments 39 = .ok (.aload_n 0, 1) := by decide +kernel
theorem dX8_readArguments_40 : decode cX8_readArguments 40 = .ok (.bipush 47, 2) := by decide +kernel
theorem dX8_readArguments_42 : decode cX8_readArguments 42 = .ok (.invokevirtual 45, 3) := by decide +kernel
theorem dX8_readArguments_45 : decode cX8_readArguments 45 = .ok (.istore_n 2, 1) := by decide +kernel
theorem dX8_readArguments_46 : decode cX8_readArguments 46 = .ok (.iinc 3 1, 3) := by decide +kernel
theorem dX8_readArguments_49 : decode cX8_readArguments 49 = .ok (.goto (-26), 3) := by decide +kernel
theorem dX8_readArguments_52 : decode cX8_readArguments 52 = .ok (.aload_n 0, 1) := by decide +kernel
theorem dX8_readArguments_53 : decode cX8_readArguments 53 = .ok (.bipush 41, 2) := by decide +kernel
theorem dX8_readArguments_55 : decode cX8_readArguments 55 = .ok (.invokevirtual 37, 3) := by decide +kernel
theorem dX8_readArguments_58 : decode cX8_readArguments 58 = .ok (.return_, 1) := by decide +kernel
theorem dX8_readBehind_0 : decode cX8_readBehind 0 = .ok (.iconst 1, 1) := by decide +kernel
theorem dX8_readBehind_1 : decode cX8_readBehind 1 = .ok (.istore_n 2, 1) := by decide +kernel
theorem dX8_readBehind_2 : decode cX8_readBehind 2 = .ok (.iconst 0, 1) := by decide +kernel
theorem dX8_readBehind_3 : decode cX8_readBehind 3 = .ok (.istore_n 3, 1) := by decide +kernel
theorem dX8_readBehind_4 : decode cX8_readBehind 4 = .ok (.iload_n 3, 1) := by decide +kernel
theorem dX8_readBehind_5 : decode cX8_readBehind 5 = .ok (.sipush 3000, 3) := by decide +kernel
theorem dX8_readBehind_8 : decode cX8_readBehind 8 = .ok (.if_icmp .ge 60, 3) := by decide +kernel
theorem dX8_readBehind_11 : decode cX8_readBehind 11 = .ok (.iload_n 2, 1) := by decide +kernel
theorem dX8_readBehind_12 : decode cX8_readBehind 12 = .ok (.ifCond .eq 56, 3) := by decide +kernel
theorem dX8_readBehind_15 : decode cX8_readBehind 15 = .ok (.aload_n 0, 1) := by decide +kernel
theorem dX8_readBehind_16 : decode cX8_readBehind 16 = .ok (.bipush 48, 2) := by decide +kernel
theorem dX8_readBehind_18 : decode cX8_readBehind 18 = .ok (.invokevirtual 45, 3) := by decide +kernel
theorem dX8_readBehind_21 : decode cX8_readBehind 21 = .ok (.ifCond .eq 16, 3) := by decide +kernel
theorem dX8_readBehind_24 : decode cX8_readBehind 24 = .ok (.aload_n 0, 1) := by decide +kernel
theorem dX8_readBehind_25 : decode cX8_readBehind 25 = .ok (.iconst 2, 1) := by decide +kernel
theorem dX8_readBehind_26 : decode cX8_readBehind 26 = .ok (.invokevirtual 37, 3) := by decide +kernel
theorem dX8_readBehind_29 : decode cX8_readBehind 29 = .ok (.aload_n 0, 1) := by decide +kernel
theorem dX8_readBehind_30 : decode cX8_readBehind 30 = .ok (.iload_n 1, 1) := by decide +kernel
theorem dX8_readBehind_31 : decode cX8_readBehind 31 = .ok (.invokevirtual 103, 3) := by decide +kernel
theorem dX8_readBehind_34 : decode cX8_readBehind 34 = .ok (.goto 28, 3) := by decide +kernel
theorem dX8_readBehind_37 : decode cX8_readBehind 37 = .ok (.aload_n 0, 1) := by decide +kernel
theorem dX8_readBehind_38 : decode cX8_readBehind 38 = .ok (.bipush 44, 2) := by decide +kernel
theorem dX8_readBehind_40 : decode cX8_readBehind 40 = .ok (.invokevirtual 45, 3) := by decide +kernel
theorem dX8_readBehind_43 : decode cX8_readBehind 43 = .ok (.ifCond .eq 17, 3) := by decide +kernel
theorem dX8_readBehind_46 : decode cX8_readBehind 46 = .ok (.aload_n 0, 1) := by decide +kernel
theorem dX8_readBehind_47 : decode cX8_readBehind 47 = .ok (.iload_n 1, 1) := by decide +kernel
theorem dX8_readBehind_48 : decode cX8_readBehind 48 = .ok (.invokevirtual 83, 3) := by decide +kernel
theorem dX8_readBehind_51 : decode cX8_readBehind 51 = .ok (.aload_n 0, 1) := by decide +kernel
theorem dX8_readBehind_52 : decode cX8_readBehind 52 = .ok (.bipush 45, 2) := by decide +kernel
theorem dX8_readBehind_54 : decode cX8_readBehind 54 = .ok (.invokevirtual 37, 3) := by decide +kernel
theorem dX8_readBehind_57 : decode cX8_readBehind 57 = .ok (.goto 5, 3) := by decide +kernel
theorem dX8_readBehind_60 : decode cX8_readBehind 60 = .ok (.iconst 0, 1) := by decide +kernel
theorem dX8_readBehind_61 : decode cX8_readBehind 61 = .ok (.istore_n 2, 1) := by decide +kernel
theorem dX8_readBehind_62 : decode cX8_readBehind 62 = .ok (.iinc 3 1, 3) := by decide +kernel
theorem dX8_readBehind_65 : decode cX8_readBehind 65 = .ok (.goto (-61), 3) := by decide +kernel
theorem dX8_readBehind_68 : decode cX8_readBehind 68 = .ok (.return_, 1) := by decide +kernel
theorem dX8_readNew_0 : decode cX8_readNew 0 = .ok (.aload_n 0, 1) := by decide +kernel
theorem dX8_readNew_1 : decode cX8_readNew 1 = .ok (.getfield 7, 3) := by decide +kernel
theorem dX8_readNew_4 : decode cX8_readNew 4 = .ok (.dup, 1) := by decide +kernel
theorem dX8_readNew_5 : decode cX8_readNew 5 = .ok (.getfield 30, 3) := by decide +kernel
theorem dX8_readNew_8 : decode cX8_readNew 8 = .ok (.iconst 1, 1) := by decide +kernel
theorem dX8_readNew_9 : decode cX8_readNew 9 = .ok (.iadd, 1) := by decide +kernel
theorem dX8_readNew_10 : decode cX8_readNew 10 = .ok (.putfield 30, 3) := by decide +kernel
theorem dX8_readNew_13 : decode cX8_readNew 13 = .ok (.aload_n 0, 1) := by decide +kernel
theorem dX8_readNew_14 : decode cX8_readNew 14 = .ok (.bipush 20, 2) := by decide +kernel
theorem dX8_readNew_16 : decode cX8_readNew 16 = .ok (.invokevirtual 45, 3) := by decide +kernel
theorem dX8_readNew_19 : decode cX8_readNew 19 = .ok (.istore_n 2, 1) := by decide +kernel
theorem dX8_readNew_20 : decode cX8_readNew 20 = .ok (.iload_n 2, 1) := by decide +kernel
theorem dX8_readNew_21 : decode cX8_readNew 21 = .ok (.ifCond .ne 24, 3) := by decide +kernel
theorem dX8_readNew_24 : decode cX8_readNew 24 = .ok (.aload_n 0, 1) := by decide +kernel
theorem dX8_readNew_25 : decode cX8_readNew 25 = .ok (.iconst 2, 1) := by decide +kernel
theorem dX8_readNew_26 : decode cX8_readNew 26 = .ok (.invokevirtual 37, 3) := by decide +kernel
theorem dX8_readNew_29 : decode cX8_readNew 29 = .ok (.aload_n 0, 1) := by decide +kernel
theorem dX8_readNew_30 : decode cX8_readNew 30 = .ok (.bipush 40, 2) := by decide +kernel
theorem dX8_readNew_32 : decode cX8_readNew 32 = .ok (.invokevirtual 45, 3) := by decide +kernel
theorem dX8_readNew_35 : decode cX8_readNew 35 = .ok (.ifCond .eq 10, 3) := by decide +kernel
theorem dX8_readNew_38 : decode cX8_readNew 38 = .ok (.aload_n 0, 1) := by decide +kernel
theorem dX8_readNew_39 : decode cX8_readNew 39 = .ok (.bipush 41, 2) := by decide +kernel
theorem dX8_readNew_41 : decode cX8_readNew 41 = .ok (.invokevirtual 37, 3) := by decide +kernel
theorem dX8_readNew_44 : decode cX8_readNew 44 = .ok (.return_, 1) := by decide +kernel
theorem dX8_readNew_45 : decode cX8_readNew 45 = .ok (.aload_n 0, 1) := by decide +kernel
theorem dX8_readNew_46 : decode cX8_readNew 46 = .ok (.bipush 44, 2) := by decide +kernel
theorem dX8_readNew_48 : decode cX8_readNew 48 = .ok (.invokevirtual 37, 3) := by decide +kernel
theorem dX8_readNew_51 : decode cX8_readNew 51 = .ok (.aload_n 0, 1) := by decide +kernel
theorem dX8_readNew_52 : decode cX8_readNew 52 = .ok (.iload_n 1, 1) := by decide +kernel
theorem dX8_readNew_53 : decode cX8_readNew 53 = .ok (.invokevirtual 83, 3) := by decide +kernel
theorem dX8_readNew_56 : decode cX8_readNew 56 = .ok (.aload_n 0, 1) := by decide +kernel
theorem dX8_readNew_57 : decode cX8_readNew 57 = .ok (.bipush 45, 2) := by decide +kernel
theorem dX8_readNew_59 : decode cX8_readNew 59 = .ok (.invokevirtual 37, 3) := by decide +kernel
theorem dX8_readNew_62 : decode cX8_readNew 62 = .ok (.return_, 1) := by decide +kernel
theorem dX8_readPrimary_0 : decode cX8_readPrimary 0 = .ok (.aload_n 0, 1) := by decide +kernel
theorem dX8_readPrimary_1 : decode cX8_readPrimary 1 = .ok (.getfield 7, 3) := by decide +kernel
theorem dX8_readPrimary_4 : decode cX8_readPrimary 4 = .ok (.invokevirtual 23, 3) := by decide +kernel
theorem dX8_readPrimary_7 : decode cX8_readPrimary 7 = .ok (.lookupswitch 145 #[(2, 89), (3, 73), (17, 73), (21, 137), (22, 73), (26, 73), (28, 73), (40, 110)], 73) := by decide +kernel
theorem dX8_readPrimary_80 : decode cX8_readPrimary 80 = .ok (.aload_n 0, 1) := by decide +kernel
theorem dX8_readPrimary_81 : decode cX8_readPrimary 81 = .ok (.getfield 7, 3) := by decide +kernel
theorem dX8_readPrimary_84 : decode cX8_readPrimary 84 = .ok (.dup, 1) := by decide +kernel
theorem dX8_readPrimary_85 : decode cX8_readPrimary 85 = .ok (.getfield 30, 3) := by decide +kernel
theorem dX8_readPrimary_88 : decode cX8_readPrimary 88 = .ok (.iconst 1, 1) := by decide +kernel
theorem dX8_readPrimary_89 : decode cX8_readPrimary 89 = .ok (.iadd, 1) := by decide +kernel
theorem dX8_readPrimary_90 : decode cX8_readPrimary 90 = .ok (.putfield 30, 3) := by decide +kernel
theorem dX8_readPrimary_93 : decode cX8_readPrimary 93 = .ok (.goto 67, 3) := by decide +kernel
theorem dX8_readPrimary_96 : decode cX8_readPrimary 96 = .ok (.aload_n 0, 1) := by decide +kernel
theorem dX8_readPrimary_97 : decode cX8_readPrimary 97 = .ok (.getfield 7, 3) := by decide +kernel
theorem dX8_readPrimary_100 : decode cX8_readPrimary 100 = .ok (.dup, 1) := by decide +kernel
theorem dX8_readPrimary_101 : decode cX8_readPrimary 101 = .ok (.getfield 30, 3) := by decide +kernel
theorem dX8_readPrimary_104 : decode cX8_readPrimary 104 = .ok (.iconst 1, 1) := by decide +kernel
theorem dX8_readPrimary_105 : decode cX8_readPrimary 105 = .ok (.iadd, 1) := by decide +kernel
theorem dX8_readPrimary_106 : decode cX8_readPrimary 106 = .ok (.putfield 30, 3) := by decide +kernel
theorem dX8_readPrimary_109 : decode cX8_readPrimary 109 = .ok (.aload_n 0, 1) := by decide +kernel
theorem dX8_readPrimary_110 : decode cX8_readPrimary 110 = .ok (.iload_n 1, 1) := by decide +kernel
theorem dX8_readPrimary_111 : decode cX8_readPrimary 111 = .ok (.invokevirtual 103, 3) := by decide +kernel
theorem dX8_readPrimary_114 : decode cX8_readPrimary 114 = .ok (.goto 46, 3) := by decide +kernel
theorem dX8_readPrimary_117 : decode cX8_readPrimary 117 = .ok (.aload_n 0, 1) := by decide +kernel
theorem dX8_readPrimary_118 : decode cX8_readPrimary 118 = .ok (.getfield 7, 3) := by decide +kernel
theorem dX8_readPrimary_121 : decode cX8_readPrimary 121 = .ok (.dup, 1) := by decide +kernel
theorem dX8_readPrimary_122 : decode cX8_readPrimary 122 = .ok (.getfield 30, 3) := by decide +kernel
theorem dX8_readPrimary_125 : decode cX8_readPrimary 125 = .ok (.iconst 1, 1) := by decide +kernel
theorem dX8_readPrimary_126 : decode cX8_readPrimary 126 = .ok (.iadd, 1) := by decide +kernel
theorem dX8_readPrimary_127 : decode cX8_readPrimary 127 = .ok (.putfield 30, 3) := by decide +kernel
theorem dX8_readPrimary_130 : decode cX8_readPrimary 130 = .ok (.aload_n 0, 1) := by decide +kernel
theorem dX8_readPrimary_131 : decode cX8_readPrimary 131 = .ok (.iload_n 1, 1) := by decide +kernel
theorem dX8_readPrimary_132 : decode cX8_readPrimary 132 = .ok (.invokevirtual 83, 3) := by decide +kernel
theorem dX8_readPrimary_135 : decode cX8_readPrimary 135 = .ok (.aload_n 0, 1) := by decide +kernel
theorem dX8_readPrimary_136 : decode cX8_readPrimary 136 = .ok (.bipush 41, 2) := by decide +kernel
theorem dX8_readPrimary_138 : decode cX8_readPrimary 138 = .ok (.invokevirtual 37, 3) := by decide +kernel
theorem dX8_readPrimary_141 : decode cX8_readPrimary 141 = .ok (.goto 19, 3) := by decide +kernel
theorem dX8_readPrimary_144 : decode cX8_readPrimary 144 = .ok (.aload_n 0, 1) := by decide +kernel
theorem dX8_readPrimary_145 : decode cX8_readPrimary 145 = .ok (.iload_n 1, 1) := by decide +kernel
theorem dX8_readPrimary_146 : decode cX8_readPrimary 146 = .ok (.invokevirtual 106, 3) := by decide +kernel
theorem dX8_readPrimary_149 : decode cX8_readPrimary 149 = .ok (.goto 11, 3) := by decide +kernel
theorem dX8_readPrimary_152 : decode cX8_readPrimary 152 = .ok (.aload_n 0, 1) := by decide +kernel
theorem dX8_readPrimary_153 : decode cX8_readPrimary 153 = .ok (.getfield 7, 3) := by decide +kernel
theorem dX8_readPrimary_156 : decode cX8_readPrimary 156 = .ok (.iconst 2, 1) := by decide +kernel
theorem dX8_readPrimary_157 : decode cX8_readPrimary 157 = .ok (.invokevirtual 33, 3) := by decide +kernel
theorem dX8_readPrimary_160 : decode cX8_readPrimary 160 = .ok (.aload_n 0, 1) := by decide +kernel
theorem dX8_readPrimary_161 : decode cX8_readPrimary 161 = .ok (.iload_n 1, 1) := by decide +kernel
theorem dX8_readPrimary_162 : decode cX8_readPrimary 162 = .ok (.invokevirtual 109, 3) := by decide +kernel
theorem dX8_readPrimary_165 : decode cX8_readPrimary 165 = .ok (.return_, 1) := by decide +kernel
theorem dX8_readUnary_0 : decode cX8_readUnary 0 = .ok (.aload_n 0, 1) := by decide +kernel
theorem dX8_readUnary_1 : decode cX8_readUnary 1 = .ok (.getfield 7, 3) := by decide +kernel
theorem dX8_readUnary_4 : decode cX8_readUnary 4 = .ok (.invokevirtual 23, 3) := by decide +kernel
theorem dX8_readUnary_7 : decode cX8_readUnary 7 = .ok (.istore_n 2, 1) := by decide +kernel
theorem dX8_readUnary_8 : decode cX8_readUnary 8 = .ok (.aload_n 0, 1) := by decide +kernel
theorem dX8_readUnary_9 : decode cX8_readUnary 9 = .ok (.getfield 7, 3) := by decide +kernel
theorem dX8_readUnary_12 : decode cX8_readUnary 12 = .ok (.invokevirtual 97, 3) := by decide +kernel
theorem dX8_readUnary_15 : decode cX8_readUnary 15 = .ok (.istore_n 3, 1) := by decide +kernel
theorem dX8_readUnary_16 : decode cX8_readUnary 16 = .ok (.iload_n 3, 1) := by decide +kernel
theorem dX8_readUnary_17 : decode cX8_readUnary 17 = .ok (.ifCond .ne 27, 3) := by decide +kernel
theorem dX8_readUnary_20 : decode cX8_readUnary 20 = .ok (.iload_n 2, 1) := by decide +kernel
theorem dX8_readUnary_21 : decode cX8_readUnary 21 = .ok (.bipush 62, 2) := by decide +kernel
theorem dX8_readUnary_23 : decode cX8_readUnary 23 = .ok (.if_icmp .eq 21, 3) := by decide +kernel
theorem dX8_readUnary_26 : decode cX8_readUnary 26 = .ok (.iload_n 2, 1) := by decide +kernel
theorem dX8_readUnary_27 : decode cX8_readUnary 27 = .ok (.bipush 71, 2) := by decide +kernel
theorem dX8_readUnary_29 : decode cX8_readUnary 29 = .ok (.if_icmp .eq 15, 3) := by decide +kernel
theorem dX8_readUnary_32 : decode cX8_readUnary 32 = .ok (.iload_n 2, 1) := by decide +kernel
theorem dX8_readUnary_33 : decode cX8_readUnary 33 = .ok (.bipush 72, 2) := by decide +kernel
theorem dX8_readUnary_35 : decode cX8_readUnary 35 = .ok (.if_icmp .eq 9, 3) := by decide +kernel
theorem dX8_readUnary_38 : decode cX8_readUnary 38 = .ok (.aload_n 0, 1) := by decide +kernel
theorem dX8_readUnary_39 : decode cX8_readUnary 39 = .ok (.iload_n 1, 1) := by decide +kernel
theorem dX8_readUnary_40 : decode cX8_readUnary 40 = .ok (.invokevirtual 100, 3) := by decide +kernel
theorem dX8_readUnary_43 : decode cX8_readUnary 43 = .ok (.return_, 1) := by decide +kernel
theorem dX8_readUnary_44 : decode cX8_readUnary 44 = .ok (.aload_n 0, 1) := by decide +kernel
theorem dX8_readUnary_45 : decode cX8_readUnary 45 = .ok (.iload_n 1, 1) := by decide +kernel
theorem dX8_readUnary_46 : decode cX8_readUnary 46 = .ok (.invokevirtual 64, 3) := by decide +kernel
theorem dX8_readUnary_49 : decode cX8_readUnary 49 = .ok (.ifCond .eq 4, 3) := by decide +kernel
theorem dX8_readUnary_52 : decode cX8_readUnary 52 = .ok (.return_, 1) := by decide +kernel
theorem dX8_readUnary_53 : decode cX8_readUnary 53 = .ok (.aload_n 0, 1) := by decide +kernel
theorem dX8_readUnary_54 : decode cX8_readUnary 54 = .ok (.getfield 7, 3) := by decide +kernel
theorem dX8_readUnary_57 : decode cX8_readUnary 57 = .ok (.dup, 1) := by decide +kernel
theorem dX8_readUnary_58 : decode cX8_readUnary 58 = .ok (.getfield 30, 3) := by decide +kernel
theorem dX8_readUnary_61 : decode cX8_readUnary 61 = .ok (.iload_n 3, 1) := by decide +kernel
theorem dX8_readUnary_62 : decode cX8_readUnary 62 = .ok (.ifCond .eq 7, 3) := by decide +kernel
theorem dX8_readUnary_65 : decode cX8_readUnary 65 = .ok (.iconst 3, 1) := by decide +kernel
theorem dX8_readUnary_66 : decode cX8_readUnary 66 = .ok (.goto 4, 3) := by decide +kernel
theorem dX8_readUnary_69 : decode cX8_readUnary 69 = .ok (.iconst 1, 1) := by decide +kernel
theorem dX8_readUnary_70 : decode cX8_readUnary 70 = .ok (.iadd, 1) := by decide +kernel
theorem dX8_readUnary_71 : decode cX8_readUnary 71 = .ok (.putfield 30, 3) := by decide +kernel
theorem dX8_readUnary_74 : decode cX8_readUnary 74 = .ok (.aload_n 0, 1) := by decide +kernel
theorem dX8_readUnary_75 : decode cX8_readUnary 75 = .ok (.iload_n 1, 1) := by decide +kernel
theorem dX8_readUnary_76 : decode cX8_readUnary 76 = .ok (.iconst 1, 1) := by decide +kernel
theorem dX8_readUnary_77 : decode cX8_readUnary 77 = .ok (.iadd, 1) := by decide +kernel
theorem dX8_readUnary_78 : decode cX8_readUnary 78 = .ok (.invokevirtual 86, 3) := by decide +kernel
theorem dX8_readUnary_81 : decode cX8_readUnary 81 = .ok (.return_, 1) := by decide +kernel
theorem dX8_readValue_0 : decode cX8_readValue 0 = .ok (.aload_n 0, 1) := by decide +kernel
theorem dX8_readValue_1 : decode cX8_readValue 1 = .ok (.iload_n 1, 1) := by decide +kernel
theorem dX8_readValue_2 : decode cX8_readValue 2 = .ok (.invokevirtual 64, 3) := by decide +kernel
theorem dX8_readValue_5 : decode cX8_readValue 5 = .ok (.ifCond .eq 4, 3) := by decide +kernel
theorem dX8_readValue_8 : decode cX8_readValue 8 = .ok (.return_, 1) := by decide +kernel
theorem dX8_readValue_9 : decode cX8_readValue 9 = .ok (.iconst 1, 1) := by decide +kernel
theorem dX8_readValue_10 : decode cX8_readValue 10 = .ok (.istore_n 2, 1) := by decide +kernel
theorem dX8_readValue_11 : decode cX8_readValue 11 = .ok (.aload_n 0, 1) := by decide +kernel
theorem dX8_readValue_12 : decode cX8_readValue 12 = .ok (.iload_n 1, 1) := by decide +kernel
theorem dX8_readValue_13 : decode cX8_readValue 13 = .ok (.iconst 1, 1) := by decide +kernel
theorem dX8_readValue_14 : decode cX8_readValue 14 = .ok (.iadd, 1) := by decide +kernel
theorem dX8_readValue_15 : decode cX8_readValue 15 = .ok (.invokevirtual 86, 3) := by decide +kernel
theorem dX8_readValue_18 : decode cX8_readValue 18 = .ok (.iconst 0, 1) := by decide +kernel
theorem dX8_readValue_19 : decode cX8_readValue 19 = .ok (.istore_n 3, 1) := by decide +kernel
theorem dX8_readValue_20 : decode cX8_readValue 20 = .ok (.iload_n 3, 1) := by decide +kernel
theorem dX8_readValue_21 : decode cX8_readValue 21 = .ok (.sipush 3000, 3) := by decide +kernel
theorem dX8_readValue_24 : decode cX8_readValue 24 = .ok (.if_icmp .ge 64, 3) := by decide +kernel
theorem dX8_readValue_27 : decode cX8_readValue 27 = .ok (.aload_n 0, 1) := by decide +kernel
theorem dX8_readValue_28 : decode cX8_readValue 28 = .ok (.iload_n 2, 1) := by decide +kernel
theorem dX8_readValue_29 : decode cX8_readValue 29 = .ok (.invokevirtual 89, 3) := by decide +kernel
theorem dX8_readValue_32 : decode cX8_readValue 32 = .ok (.ifCond .eq 56, 3) := by decide +kernel
theorem dX8_readValue_35 : decode cX8_readValue 35 = .ok (.aload_n 0, 1) := by decide +kernel
theorem dX8_readValue_36 : decode cX8_readValue 36 = .ok (.bipush 19, 2) := by decide +kernel
theorem dX8_readValue_38 : decode cX8_readValue 38 = .ok (.invokevirtual 45, 3) := by decide +kernel
theorem dX8_readValue_41 : decode cX8_readValue 41 = .ok (.ifCond .ne 7, 3) := by decide +kernel
theorem dX8_readValue_44 : decode cX8_readValue 44 = .ok (.iconst 1, 1) := by decide +kernel
theorem dX8_readValue_45 : decode cX8_readValue 45 = .ok (.goto 4, 3) := by decide +kernel
theorem dX8_readValue_48 : decode cX8_readValue 48 = .ok (.iconst 0, 1) := by decide +kernel
theorem dX8_readValue_49 : decode cX8_readValue 49 = .ok (.istore_n 2, 1) := by decide +kernel
theorem dX8_readValue_50 : decode cX8_readValue 50 = .ok (.iload_n 2, 1) := by decide +kernel
theorem dX8_readValue_51 : decode cX8_readValue 51 = .ok (.ifCond .eq 26, 3) := by decide +kernel
theorem dX8_readValue_54 : decode cX8_readValue 54 = .ok (.aload_n 0, 1) := by decide +kernel
theorem dX8_readValue_55 : decode cX8_readValue 55 = .ok (.getfield 7, 3) := by decide +kernel
theorem dX8_readValue_58 : decode cX8_readValue 58 = .ok (.dup, 1) := by decide +kernel
theorem dX8_readValue_59 : decode cX8_readValue 59 = .ok (.getfield 30, 3) := by decide +kernel
theorem dX8_readValue_62 : decode cX8_readValue 62 = .ok (.iconst 1, 1) := by decide +kernel
theorem dX8_readValue_63 : decode cX8_readValue 63 = .ok (.iadd, 1) := by decide +kernel
theorem dX8_readValue_64 : decode cX8_readValue 64 = .ok (.putfield 30, 3) := by decide +kernel
theorem dX8_readValue_67 : decode cX8_readValue 67 = .ok (.aload_n 0, 1) := by decide +kernel
theorem dX8_readValue_68 : decode cX8_readValue 68 = .ok (.iload_n 1, 1) := by decide +kernel
theorem dX8_readValue_69 : decode cX8_readValue 69 = .ok (.iconst 1, 1) := by decide +kernel
theorem dX8_readValue_70 : decode cX8_readValue 70 = .ok (.iadd, 1) := by decide +kernel
theorem dX8_readValue_71 : decode cX8_readValue 71 = .ok (.invokevirtual 86, 3) := by decide +kernel
theorem dX8_readValue_74 : decode cX8_readValue 74 = .ok (.goto 8, 3) := by decide +kernel
theorem dX8_readValue_77 : decode cX8_readValue 77 = .ok (.aload_n 0, 1) := by decide +kernel
theorem dX8_readValue_78 : decode cX8_readValue 78 = .ok (.iconst 2, 1) := by decide +kernel
theorem dX8_readValue_79 : decode cX8_readValue 79 = .ok (.invokevirtual 37, 3) := by decide +kernel
theorem dX8_readValue_82 : decode cX8_readValue 82 = .ok (.iinc 3 1, 3) := by decide +kernel
theorem dX8_readValue_85 : decode cX8_readValue 85 = .ok (.goto (-65), 3) := by decide +kernel
theorem dX8_readValue_88 : decode cX8_readValue 88 = .ok (.aload_n 0, 1) := by decide +kernel
theorem dX8_readValue_89 : decode cX8_readValue 89 = .ok (.bipush 49, 2) := by decide +kernel
theorem dX8_readValue_91 : decode cX8_readValue 91 = .ok (.invokevirtual 45, 3) := by decide +kernel
theorem dX8_readValue_94 : decode cX8_readValue 94 = .ok (.ifCond .eq 23, 3) := by decide +kernel
theorem dX8_readValue_97 : decode cX8_readValue 97 = .ok (.aload_n 0, 1) := by decide +kernel
theorem dX8_readValue_98 : decode cX8_readValue 98 = .ok (.iload_n 1, 1) := by decide +kernel
theorem dX8_readValue_99 : decode cX8_readValue 99 = .ok (.iconst 1, 1) := by decide +kernel
theorem dX8_readValue_100 : decode cX8_readValue 100 = .ok (.iadd, 1) := by decide +kernel
theorem dX8_readValue_101 : decode cX8_readValue 101 = .ok (.invokevirtual 83, 3) := by decide +kernel
theorem dX8_readValue_104 : decode cX8_readValue 104 = .ok (.aload_n 0, 1) := by decide +kernel
theorem dX8_readValue_105 : decode cX8_readValue 105 = .ok (.bipush 50, 2) := by decide +kernel
theorem dX8_readValue_107 : decode cX8_readValue 107 = .ok (.invokevirtual 37, 3) := by decide +kernel
theorem dX8_readValue_110 : decode cX8_readValue 110 = .ok (.aload_n 0, 1) := by decide +kernel
theorem dX8_readValue_111 : decode cX8_readValue 111 = .ok (.iload_n 1, 1) := by decide +kernel
theorem dX8_readValue_112 : decode cX8_readValue 112 = .ok (.iconst 1, 1) := by decide +kernel
theorem dX8_readValue_113 : decode cX8_readValue 113 = .ok (.iadd, 1) := by decide +kernel
theorem dX8_readValue_114 : decode cX8_readValue 114 = .ok (.invokevirtual 83, 3) := by decide +kernel
theorem dX8_readValue_117 : decode cX8_readValue 117 = .ok (.return_, 1) := by decide +kernel
theorem mt_X8_readUnary : mx_mt 236 = some (yX8_readUnary, cX8_readUnary, 4, none) := rfl
theorem mt_X8_readPrimary : mx_mt 237 = some (yX8_readPrimary, cX8_readPrimary, 2, none) := rfl
theorem mt_X8_readBehind : mx_mt 238 = some (yX8_readBehind, cX8_readBehind, 4, none) := rfl
theorem mt_X8_readNew : mx_mt 239 = some (yX8_readNew, cX8_readNew, 3, none) := rfl
theorem mt_X8_readArguments : mx_mt 240 = some (yX8_readArguments, cX8_readArguments, 4, none) := rfl
theorem mt_X8_readCondition : mx_mt 231 = some (yX8_readCondition, cX8_readCondition, 2, none) := rfl
theorem dX8_readCondition_0 : decode cX8_readCondition 0 = .ok (.aload_n 0, 1) := by decide +kernel
theorem dX8_readCondition_1 : decode cX8_readCondition 1 = .ok (.getfield 7, 3) := by decide +kernel
theorem dX8_readCondition_4 : decode cX8_readCondition 4 = .ok (.dup, 1) := by decide +kernel
theorem dX8_readCondition_5 : decode cX8_readCondition 5 = .ok (.getfield 30, 3) := by decide +kernel
theorem dX8_readCondition_8 : decode cX8_readCondition 8 = .ok (.iconst 1, 1) := by decide +kernel
theorem dX8_readCondition_9 : decode cX8_readCondition 9 = .ok (.iadd, 1) := by decide +kernel
theorem dX8_readCondition_10 : decode cX8_readCondition 10 = .ok (.putfield 30, 3) := by decide +kernel
theorem dX8_readCondition_13 : decode cX8_readCondition 13 = .ok (.aload_n 0, 1) := by decide +kernel
theorem dX8_readCondition_14 : decode cX8_readCondition 14 = .ok (.bipush 40, 2) := by decide +kernel
theorem dX8_readCondition_16 : decode cX8_readCondition 16 = .ok (.invokevirtual 37, 3) := by decide +kernel
theorem dX8_readCondition_19 : decode cX8_readCondition 19 = .ok (.aload_n 0, 1) := by decide +kernel
theorem dX8_readCondition_20 : decode cX8_readCondition 20 = .ok (.iload_n 1, 1) := by decide +kernel
theorem dX8_readCondition_21 : decode cX8_readCondition 21 = .ok (.invokevirtual 83, 3) := by decide +kernel
theorem dX8_readCondition_24 : decode cX8_readCondition 24 = .ok (.aload_n 0, 1) := by decide +kernel
theorem dX8_readCondition_25 : decode cX8_readCondition 25 = .ok (.bipush 41, 2) := by decide +kernel
theorem dX8_readCondition_27 : decode cX8_readCondition 27 = .ok (.invokevirtual 37, 3) := by decide +kernel
theorem dX8_readCondition_30 : decode cX8_readCondition 30 = .ok (.return_, 1) := by decide +kernel
theorem rs_RX8_67 : mx_res RX8 67 = some (1, 231, 1) := by decide +kernel
theorem mt_X8_readPlain : mx_mt 233 = some (yX8_readPlain, cX8_readPlain, 2, none) := rfl
theorem dX8_readPlain_0 : decode cX8_readPlain 0 = .ok (.aload_n 0, 1) := by decide +kernel
theorem dX8_readPlain_1 : decode cX8_readPlain 1 = .ok (.getfield 7, 3) := by decide +kernel
theorem dX8_readPlain_4 : decode cX8_readPlain 4 = .ok (.invokevirtual 23, 3) := by decide +kernel
theorem dX8_readPlain_7 : decode cX8_readPlain 7 = .ok (.lookupswitch 127 #[(11, 49), (14, 49), (23, 119), (24, 65), (27, 98)], 49) := by decide +kernel
theorem dX8_readPlain_56 : decode cX8_readPlain 56 = .ok (.aload_n 0, 1) := by decide +kernel
theorem dX8_readPlain_57 : decode cX8_readPlain 57 = .ok (.getfield 7, 3) := by decide +kernel
theorem dX8_readPlain_60 : decode cX8_readPlain 60 = .ok (.dup, 1) := by decide +kernel
theorem dX8_readPlain_61 : decode cX8_readPlain 61 = .ok (.getfield 30, 3) := by decide +kernel
theorem dX8_readPlain_64 : decode cX8_readPlain 64 = .ok (.iconst 1, 1) := by decide +kernel
theorem dX8_readPlain_65 : decode cX8_readPlain 65 = .ok (.iadd, 1) := by decide +kernel
theorem dX8_readPlain_66 : decode cX8_readPlain 66 = .ok (.putfield 30, 3) := by decide +kernel
theorem dX8_readPlain_69 : decode cX8_readPlain 69 = .ok (.goto 84, 3) := by decide +kernel
theorem dX8_readPlain_72 : decode cX8_readPlain 72 = .ok (.aload_n 0, 1) := by decide +kernel
theorem dX8_readPlain_73 : decode cX8_readPlain 73 = .ok (.getfield 7, 3) := by decide +kernel
theorem dX8_readPlain_76 : decode cX8_readPlain 76 = .ok (.dup, 1) := by decide +kernel
theorem dX8_readPlain_77 : decode cX8_readPlain 77 = .ok (.getfield 30, 3) := by decide +kernel
theorem dX8_readPlain_80 : decode cX8_readPlain 80 = .ok (.iconst 1, 1) := by decide +kernel
theorem dX8_readPlain_81 : decode cX8_readPlain 81 = .ok (.iadd, 1) := by decide +kernel
theorem dX8_readPlain_82 : decode cX8_readPlain 82 = .ok (.putfield 30, 3) := by decide +kernel
theorem dX8_readPlain_85 : decode cX8_readPlain 85 = .ok (.aload_n 0, 1) := by decide +kernel
theorem dX8_readPlain_86 : decode cX8_readPlain 86 = .ok (.getfield 7, 3) := by decide +kernel
theorem dX8_readPlain_89 : decode cX8_readPlain 89 = .ok (.invokevirtual 23, 3) := by decide +kernel
theorem dX8_readPlain_92 : decode cX8_readPlain 92 = .ok (.bipush 46, 2) := by decide +kernel
theorem dX8_readPlain_94 : decode cX8_readPlain 94 = .ok (.if_icmp .eq 59, 3) := by decide +kernel
theorem dX8_readPlain_97 : decode cX8_readPlain 97 = .ok (.aload_n 0, 1) := by decide +kernel
theorem dX8_readPlain_98 : decode cX8_readPlain 98 = .ok (.iload_n 1, 1) := by decide +kernel
theorem dX8_readPlain_99 : decode cX8_readPlain 99 = .ok (.invokevirtual 83, 3) := by decide +kernel
theorem dX8_readPlain_102 : decode cX8_readPlain 102 = .ok (.goto 51, 3) := by decide +kernel
theorem dX8_readPlain_105 : decode cX8_readPlain 105 = .ok (.aload_n 0, 1) := by decide +kernel
theorem dX8_readPlain_106 : decode cX8_readPlain 106 = .ok (.getfield 7, 3) := by decide +kernel
theorem dX8_readPlain_109 : decode cX8_readPlain 109 = .ok (.dup, 1) := by decide +kernel
theorem dX8_readPlain_110 : decode cX8_readPlain 110 = .ok (.getfield 30, 3) := by decide +kernel
theorem dX8_readPlain_113 : decode cX8_readPlain 113 = .ok (.iconst 1, 1) := by decide +kernel
theorem dX8_readPlain_114 : decode cX8_readPlain 114 = .ok (.iadd, 1) := by decide +kernel
theorem dX8_readPlain_115 : decode cX8_readPlain 115 = .ok (.putfield 30, 3) := by decide +kernel
theorem dX8_readPlain_118 : decode cX8_readPlain 118 = .ok (.aload_n 0, 1) := by decide +kernel
theorem dX8_readPlain_119 : decode cX8_readPlain 119 = .ok (.iload_n 1, 1) := by decide +kernel
theorem dX8_readPlain_120 : decode cX8_readPlain 120 = .ok (.invokevirtual 83, 3) := by decide +kernel
theorem dX8_readPlain_123 : decode cX8_readPlain 123 = .ok (.goto 30, 3) := by decide +kernel
theorem dX8_readPlain_126 : decode cX8_readPlain 126 = .ok (.aload_n 0, 1) := by decide +kernel
theorem dX8_readPlain_127 : decode cX8_readPlain 127 = .ok (.iload_n 1, 1) := by decide +kernel
theorem dX8_readPlain_128 : decode cX8_readPlain 128 = .ok (.invokevirtual 67, 3) := by decide +kernel
theorem dX8_readPlain_131 : decode cX8_readPlain 131 = .ok (.goto 22, 3) := by decide +kernel
theorem dX8_readPlain_134 : decode cX8_readPlain 134 = .ok (.aload_n 0, 1) := by decide +kernel
theorem dX8_readPlain_135 : decode cX8_readPlain 135 = .ok (.iload_n 1, 1) := by decide +kernel
theorem dX8_readPlain_136 : decode cX8_readPlain 136 = .ok (.invokevirtual 83, 3) := by decide +kernel
theorem dX8_readPlain_139 : decode cX8_readPlain 139 = .ok (.aload_n 0, 1) := by decide +kernel
theorem dX8_readPlain_140 : decode cX8_readPlain 140 = .ok (.bipush 51, 2) := by decide +kernel
theorem dX8_readPlain_142 : decode cX8_readPlain 142 = .ok (.invokevirtual 45, 3) := by decide +kernel
theorem dX8_readPlain_145 : decode cX8_readPlain 145 = .ok (.ifCond .eq 8, 3) := by decide +kernel
theorem dX8_readPlain_148 : decode cX8_readPlain 148 = .ok (.aload_n 0, 1) := by decide +kernel
theorem dX8_readPlain_149 : decode cX8_readPlain 149 = .ok (.iload_n 1, 1) := by decide +kernel
theorem dX8_readPlain_150 : decode cX8_readPlain 150 = .ok (.invokevirtual 83, 3) := by decide +kernel
theorem dX8_readPlain_153 : decode cX8_readPlain 153 = .ok (.return_, 1) := by decide +kernel
theorem mt_X8_readType : mx_mt 227 = some (yX8_readType, cX8_readType, 1, none) := rfl
theorem dX8_readType_0 : decode cX8_readType 0 = .ok (.aload_n 0, 1) := by decide +kernel
theorem dX8_readType_1 : decode cX8_readType 1 = .ok (.bipush 10, 2) := by decide +kernel
theorem dX8_readType_3 : decode cX8_readType 3 = .ok (.invokevirtual 45, 3) := by decide +kernel
theorem dX8_readType_6 : decode cX8_readType 6 = .ok (.ifCond .eq 4, 3) := by decide +kernel
theorem dX8_readType_9 : decode cX8_readType 9 = .ok (.return_, 1) := by decide +kernel
theorem dX8_readType_10 : decode cX8_readType 10 = .ok (.aload_n 0, 1) := by decide +kernel
theorem dX8_readType_11 : decode cX8_readType 11 = .ok (.bipush 20, 2) := by decide +kernel
theorem dX8_readType_13 : decode cX8_readType 13 = .ok (.invokevirtual 45, 3) := by decide +kernel
theorem dX8_readType_16 : decode cX8_readType 16 = .ok (.ifCond .ne 8, 3) := by decide +kernel
theorem dX8_readType_19 : decode cX8_readType 19 = .ok (.aload_n 0, 1) := by decide +kernel
theorem dX8_readType_20 : decode cX8_readType 20 = .ok (.iconst 2, 1) := by decide +kernel
theorem dX8_readType_21 : decode cX8_readType 21 = .ok (.invokevirtual 37, 3) := by decide +kernel
theorem dX8_readType_24 : decode cX8_readType 24 = .ok (.aload_n 0, 1) := by decide +kernel
theorem dX8_readType_25 : decode cX8_readType 25 = .ok (.bipush 44, 2) := by decide +kernel
theorem dX8_readType_27 : decode cX8_readType 27 = .ok (.invokevirtual 45, 3) := by decide +kernel
theorem dX8_readType_30 : decode cX8_readType 30 = .ok (.ifCond .eq 9, 3) := by decide +kernel
theorem dX8_readType_33 : decode cX8_readType 33 = .ok (.aload_n 0, 1) := by decide +kernel
theorem dX8_readType_34 : decode cX8_readType 34 = .ok (.bipush 45, 2) := by decide +kernel
theorem dX8_readType_36 : decode cX8_readType 36 = .ok (.invokevirtual 37, 3) := by decide +kernel
theorem dX8_readType_39 : decode cX8_readType 39 = .ok (.return_, 1) := by decide +kernel
theorem rs_RX8_52 : mx_res RX8 52 = some (1, 227, 0) := by decide +kernel
theorem mt_X8_readVariable : mx_mt 230 = some (yX8_readVariable, cX8_readVariable, 2, none) := rfl
theorem dX8_readVariable_0 : decode cX8_readVariable 0 = .ok (.aload_n 0, 1) := by decide +kernel
theorem dX8_readVariable_1 : decode cX8_readVariable 1 = .ok (.invokevirtual 52, 3) := by decide +kernel
theorem dX8_readVariable_4 : decode cX8_readVariable 4 = .ok (.aload_n 0, 1) := by decide +kernel
theorem dX8_readVariable_5 : decode cX8_readVariable 5 = .ok (.iconst 2, 1) := by decide +kernel
theorem dX8_readVariable_6 : decode cX8_readVariable 6 = .ok (.invokevirtual 37, 3) := by decide +kernel
theorem dX8_readVariable_9 : decode cX8_readVariable 9 = .ok (.aload_n 0, 1) := by decide +kernel
theorem dX8_readVariable_10 : decode cX8_readVariable 10 = .ok (.bipush 51, 2) := by decide +kernel
theorem dX8_readVariable_12 : decode cX8_readVariable 12 = .ok (.invokevirtual 37, 3) := by decide +kernel
theorem dX8_readVariable_15 : decode cX8_readVariable 15 = .ok (.aload_n 0, 1) := by decide +kernel
theorem dX8_readVariable_16 : decode cX8_readVariable 16 = .ok (.iload_n 1, 1) := by decide +kernel
theorem dX8_readVariable_17 : decode cX8_readVariable 17 = .ok (.invokevirtual 83, 3) := by decide +kernel
theorem dX8_readVariable_20 : decode cX8_readVariable 20 = .ok (.return_, 1) := by decide +kernel
theorem rs_RX8_58 : mx_res RX8 58 = some (1, 228, 1) := by decide +kernel
theorem rs_RX8_61 : mx_res RX8 61 = some (1, 229, 1) := by decide +kernel
theorem rs_RX8_70 : mx_res RX8 70 = some (1, 232, 1) := by decide +kernel
theorem rs_RX8_73 : mx_res RX8 73 = some (1, 268, 0) := by decide +kernel
theorem rs_RX8_77 : mx_res RX8 77 = some (1, 230, 1) := by decide +kernel
theorem rs_RX8_80 : mx_res RX8 80 = some (1, 233, 1) := by decide +kernel
theorem mt_X8_readBlock : mx_mt 228 = some (yX8_readBlock, cX8_readBlock, 3, none) := rfl
theorem dX8_readBlock_0 : decode cX8_readBlock 0 = .ok (.aload_n 0, 1) := by decide +kernel
theorem dX8_readBlock_1 : decode cX8_readBlock 1 = .ok (.bipush 42, 2) := by decide +kernel
theorem dX8_readBlock_3 : decode cX8_readBlock 3 = .ok (.invokevirtual 37, 3) := by decide +kernel
theorem dX8_readBlock_6 : decode cX8_readBlock 6 = .ok (.iconst 0, 1) := by decide +kernel
theorem dX8_readBlock_7 : decode cX8_readBlock 7 = .ok (.istore_n 2, 1) := by decide +kernel
theorem dX8_readBlock_8 : decode cX8_readBlock 8 = .ok (.iload_n 2, 1) := by decide +kernel
theorem dX8_readBlock_9 : decode cX8_readBlock 9 = .ok (.sipush 3000, 3) := by decide +kernel
theorem dX8_readBlock_12 : decode cX8_readBlock 12 = .ok (.if_icmp .ge 36, 3) := by decide +kernel
theorem dX8_readBlock_15 : decode cX8_readBlock 15 = .ok (.aload_n 0, 1) := by decide +kernel
theorem dX8_readBlock_16 : decode cX8_readBlock 16 = .ok (.getfield 7, 3) := by decide +kernel
theorem dX8_readBlock_19 : decode cX8_readBlock 19 = .ok (.getfield 19, 3) := by decide +kernel
theorem dX8_readBlock_22 : decode cX8_readBlock 22 = .ok (.ifCond .ne 26, 3) := by decide +kernel
theorem dX8_readBlock_25 : decode cX8_readBlock 25 = .ok (.aload_n 0, 1) := by decide +kernel
theorem dX8_readBlock_26 : decode cX8_readBlock 26 = .ok (.getfield 7, 3) := by decide +kernel
theorem dX8_readBlock_29 : decode cX8_readBlock 29 = .ok (.invokevirtual 23, 3) := by decide +kernel
theorem dX8_readBlock_32 : decode cX8_readBlock 32 = .ok (.bipush 43, 2) := by decide +kernel
theorem dX8_readBlock_34 : decode cX8_readBlock 34 = .ok (.if_icmp .eq 14, 3) := by decide +kernel
theorem dX8_readBlock_37 : decode cX8_readBlock 37 = .ok (.aload_n 0, 1) := by decide +kernel
theorem dX8_readBlock_38 : decode cX8_readBlock 38 = .ok (.iload_n 1, 1) := by decide +kernel
theorem dX8_readBlock_39 : decode cX8_readBlock 39 = .ok (.invokevirtual 61, 3) := by decide +kernel
theorem dX8_readBlock_42 : decode cX8_readBlock 42 = .ok (.iinc 2 1, 3) := by decide +kernel
theorem dX8_readBlock_45 : decode cX8_readBlock 45 = .ok (.goto (-37), 3) := by decide +kernel
theorem dX8_readBlock_48 : decode cX8_readBlock 48 = .ok (.aload_n 0, 1) := by decide +kernel
theorem dX8_readBlock_49 : decode cX8_readBlock 49 = .ok (.bipush 43, 2) := by decide +kernel
theorem dX8_readBlock_51 : decode cX8_readBlock 51 = .ok (.invokevirtual 37, 3) := by decide +kernel
theorem dX8_readBlock_54 : decode cX8_readBlock 54 = .ok (.return_, 1) := by decide +kernel
theorem dX8_readStatement_0 : decode cX8_readStatement 0 = .ok (.aload_n 0, 1) := by decide +kernel
theorem dX8_readStatement_1 : decode cX8_readStatement 1 = .ok (.iload_n 1, 1) := by decide +kernel
theorem dX8_readStatement_2 : decode cX8_readStatement 2 = .ok (.invokevirtual 64, 3) := by decide +kernel
theorem dX8_readStatement_5 : decode cX8_readStatement 5 = .ok (.ifCond .eq 4, 3) := by decide +kernel
theorem dX8_readStatement_8 : decode cX8_readStatement 8 = .ok (.return_, 1) := by decide +kernel
theorem dX8_readStatement_9 : decode cX8_readStatement 9 = .ok (.aload_n 0, 1) := by decide +kernel
theorem dX8_readStatement_10 : decode cX8_readStatement 10 = .ok (.getfield 7, 3) := by decide +kernel
theorem dX8_readStatement_13 : decode cX8_readStatement 13 = .ok (.invokevirtual 23, 3) := by decide +kernel
theorem dX8_readStatement_16 : decode cX8_readStatement 16 = .ok (.lookupswitch 114 #[(18, 54), (29, 104), (31, 87), (42, 44)], 44) := by decide +kernel
theorem dX8_readStatement_60 : decode cX8_readStatement 60 = .ok (.aload_n 0, 1) := by decide +kernel
theorem dX8_readStatement_61 : decode cX8_readStatement 61 = .ok (.iload_n 1, 1) := by decide +kernel
theorem dX8_readStatement_62 : decode cX8_readStatement 62 = .ok (.iconst 1, 1) := by decide +kernel
theorem dX8_readStatement_63 : decode cX8_readStatement 63 = .ok (.iadd, 1) := by decide +kernel
theorem dX8_readStatement_64 : decode cX8_readStatement 64 = .ok (.invokevirtual 58, 3) := by decide +kernel
theorem dX8_readStatement_67 : decode cX8_readStatement 67 = .ok (.goto 96, 3) := by decide +kernel
theorem dX8_readStatement_70 : decode cX8_readStatement 70 = .ok (.aload_n 0, 1) := by decide +kernel
theorem dX8_readStatement_71 : decode cX8_readStatement 71 = .ok (.iload_n 1, 1) := by decide +kernel
theorem dX8_readStatement_72 : decode cX8_readStatement 72 = .ok (.iconst 1, 1) := by decide +kernel
theorem dX8_readStatement_73 : decode cX8_readStatement 73 = .ok (.iadd, 1) := by decide +kernel
theorem dX8_readStatement_74 : decode cX8_readStatement 74 = .ok (.invokevirtual 67, 3) := by decide +kernel
theorem dX8_readStatement_77 : decode cX8_readStatement 77 = .ok (.aload_n 0, 1) := by decide +kernel
theorem dX8_readStatement_78 : decode cX8_readStatement 78 = .ok (.iload_n 1, 1) := by decide +kernel
theorem dX8_readStatement_79 : decode cX8_readStatement 79 = .ok (.iconst 1, 1) := by decide +kernel
theorem dX8_readStatement_80 : decode cX8_readStatement 80 = .ok (.iadd, 1) := by decide +kernel
theorem dX8_readStatement_81 : decode cX8_readStatement 81 = .ok (.invokevirtual 61, 3) := by decide +kernel
theorem dX8_readStatement_84 : decode cX8_readStatement 84 = .ok (.aload_n 0, 1) := by decide +kernel
theorem dX8_readStatement_85 : decode cX8_readStatement 85 = .ok (.bipush 15, 2) := by decide +kernel
theorem dX8_readStatement_87 : decode cX8_readStatement 87 = .ok (.invokevirtual 45, 3) := by decide +kernel
theorem dX8_readStatement_90 : decode cX8_readStatement 90 = .ok (.ifCond .eq 73, 3) := by decide +kernel
theorem dX8_readStatement_93 : decode cX8_readStatement 93 = .ok (.aload_n 0, 1) := by decide +kernel
theorem dX8_readStatement_94 : decode cX8_readStatement 94 = .ok (.iload_n 1, 1) := by decide +kernel
theorem dX8_readStatement_95 : decode cX8_readStatement 95 = .ok (.iconst 1, 1) := by decide +kernel
theorem dX8_readStatement_96 : decode cX8_readStatement 96 = .ok (.iadd, 1) := by decide +kernel
theorem dX8_readStatement_97 : decode cX8_readStatement 97 = .ok (.invokevirtual 61, 3) := by decide +kernel
theorem dX8_readStatement_100 : decode cX8_readStatement 100 = .ok (.goto 63, 3) := by decide +kernel
theorem dX8_readStatement_103 : decode cX8_readStatement 103 = .ok (.aload_n 0, 1) := by decide +kernel
theorem dX8_readStatement_104 : decode cX8_readStatement 104 = .ok (.iload_n 1, 1) := by decide +kernel
theorem dX8_readStatement_105 : decode cX8_readStatement 105 = .ok (.iconst 1, 1) := by decide +kernel
theorem dX8_readStatement_106 : decode cX8_readStatement 106 = .ok (.iadd, 1) := by decide +kernel
theorem dX8_readStatement_107 : decode cX8_readStatement 107 = .ok (.invokevirtual 67, 3) := by decide +kernel
theorem dX8_readStatement_110 : decode cX8_readStatement 110 = .ok (.aload_n 0, 1) := by decide +kernel
theorem dX8_readStatement_111 : decode cX8_readStatement 111 = .ok (.iload_n 1, 1) := by decide +kernel
theorem dX8_readStatement_112 : decode cX8_readStatement 112 = .ok (.iconst 1, 1) := by decide +kernel
theorem dX8_readStatement_113 : decode cX8_readStatement 113 = .ok (.iadd, 1) := by decide +kernel
theorem dX8_readStatement_114 : decode cX8_readStatement 114 = .ok (.invokevirtual 61, 3) := by decide +kernel
theorem dX8_readStatement_117 : decode cX8_readStatement 117 = .ok (.goto 46, 3) := by decide +kernel
theorem dX8_readStatement_120 : decode cX8_readStatement 120 = .ok (.aload_n 0, 1) := by decide +kernel
theorem dX8_readStatement_121 : decode cX8_readStatement 121 = .ok (.iload_n 1, 1) := by decide +kernel
theorem dX8_readStatement_122 : decode cX8_readStatement 122 = .ok (.iconst 1, 1) := by decide +kernel
theorem dX8_readStatement_123 : decode cX8_readStatement 123 = .ok (.iadd, 1) := by decide +kernel
theorem dX8_readStatement_124 : decode cX8_readStatement 124 = .ok (.invokevirtual 70, 3) := by decide +kernel
theorem dX8_readStatement_127 : decode cX8_readStatement 127 = .ok (.goto 36, 3) := by decide +kernel
theorem dX8_readStatement_130 : decode cX8_readStatement 130 = .ok (.aload_n 0, 1) := by decide +kernel
theorem dX8_readStatement_131 : decode cX8_readStatement 131 = .ok (.getfield 7, 3) := by decide +kernel
theorem dX8_readStatement_134 : decode cX8_readStatement 134 = .ok (.invokevirtual 73, 3) := by decide +kernel
theorem dX8_readStatement_137 : decode cX8_readStatement 137 = .ok (.ifCond .eq 13, 3) := by decide +kernel
theorem dX8_readStatement_140 : decode cX8_readStatement 140 = .ok (.aload_n 0, 1) := by decide +kernel
theorem dX8_readStatement_141 : decode cX8_readStatement 141 = .ok (.iload_n 1, 1) := by decide +kernel
theorem dX8_readStatement_142 : decode cX8_readStatement 142 = .ok (.iconst 1, 1) := by decide +kernel
theorem dX8_readStatement_143 : decode cX8_readStatement 143 = .ok (.iadd, 1) := by decide +kernel
theorem dX8_readStatement_144 : decode cX8_readStatement 144 = .ok (.invokevirtual 77, 3) := by decide +kernel
theorem dX8_readStatement_147 : decode cX8_readStatement 147 = .ok (.goto 10, 3) := by decide +kernel
theorem dX8_readStatement_150 : decode cX8_readStatement 150 = .ok (.aload_n 0, 1) := by decide +kernel
theorem dX8_readStatement_151 : decode cX8_readStatement 151 = .ok (.iload_n 1, 1) := by decide +kernel
theorem dX8_readStatement_152 : decode cX8_readStatement 152 = .ok (.iconst 1, 1) := by decide +kernel
theorem dX8_readStatement_153 : decode cX8_readStatement 153 = .ok (.iadd, 1) := by decide +kernel
theorem dX8_readStatement_154 : decode cX8_readStatement 154 = .ok (.invokevirtual 80, 3) := by decide +kernel
theorem dX8_readStatement_157 : decode cX8_readStatement 157 = .ok (.aload_n 0, 1) := by decide +kernel
theorem dX8_readStatement_158 : decode cX8_readStatement 158 = .ok (.bipush 46, 2) := by decide +kernel
theorem dX8_readStatement_160 : decode cX8_readStatement 160 = .ok (.invokevirtual 37, 3) := by decide +kernel
theorem dX8_readStatement_163 : decode cX8_readStatement 163 = .ok (.return_, 1) := by decide +kernel
theorem dX8_readTry_0 : decode cX8_readTry 0 = .ok (.aload_n 0, 1) := by decide +kernel
theorem dX8_readTry_1 : decode cX8_readTry 1 = .ok (.getfield 7, 3) := by decide +kernel
theorem dX8_readTry_4 : decode cX8_readTry 4 = .ok (.dup, 1) := by decide +kernel
theorem dX8_readTry_5 : decode cX8_readTry 5 = .ok (.getfield 30, 3) := by decide +kernel
theorem dX8_readTry_8 : decode cX8_readTry 8 = .ok (.iconst 1, 1) := by decide +kernel
theorem dX8_readTry_9 : decode cX8_readTry 9 = .ok (.iadd, 1) := by decide +kernel
theorem dX8_readTry_10 : decode cX8_readTry 10 = .ok (.putfield 30, 3) := by decide +kernel
theorem dX8_readTry_13 : decode cX8_readTry 13 = .ok (.aload_n 0, 1) := by decide +kernel
theorem dX8_readTry_14 : decode cX8_readTry 14 = .ok (.iload_n 1, 1) := by decide +kernel
theorem dX8_readTry_15 : decode cX8_readTry 15 = .ok (.invokevirtual 58, 3) := by decide +kernel
theorem dX8_readTry_18 : decode cX8_readTry 18 = .ok (.aload_n 0, 1) := by decide +kernel
theorem dX8_readTry_19 : decode cX8_readTry 19 = .ok (.bipush 12, 2) := by decide +kernel
theorem dX8_readTry_21 : decode cX8_readTry 21 = .ok (.invokevirtual 37, 3) := by decide +kernel
theorem dX8_readTry_24 : decode cX8_readTry 24 = .ok (.aload_n 0, 1) := by decide +kernel
theorem dX8_readTry_25 : decode cX8_readTry 25 = .ok (.bipush 40, 2) := by decide +kernel
theorem dX8_readTry_27 : decode cX8_readTry 27 = .ok (.invokevirtual 37, 3) := by decide +kernel
theorem dX8_readTry_30 : decode cX8_readTry 30 = .ok (.aload_n 0, 1) := by decide +kernel
theorem dX8_readTry_31 : decode cX8_readTry 31 = .ok (.iconst 2, 1) := by decide +kernel
theorem dX8_readTry_32 : decode cX8_readTry 32 = .ok (.invokevirtual 37, 3) := by decide +kernel
theorem dX8_readTry_35 : decode cX8_readTry 35 = .ok (.aload_n 0, 1) := by decide +kernel
theorem dX8_readTry_36 : decode cX8_readTry 36 = .ok (.iconst 2, 1) := by decide +kernel
theorem dX8_readTry_37 : decode cX8_readTry 37 = .ok (.invokevirtual 37, 3) := by decide +kernel
theorem dX8_readTry_40 : decode cX8_readTry 40 = .ok (.aload_n 0, 1) := by decide +kernel
theorem dX8_readTry_41 : decode cX8_readTry 41 = .ok (.bipush 41, 2) := by decide +kernel
theorem dX8_readTry_43 : decode cX8_readTry 43 = .ok (.invokevirtual 37, 3) := by decide +kernel
theorem dX8_readTry_46 : decode cX8_readTry 46 = .ok (.aload_n 0, 1) := by decide +kernel
theorem dX8_readTry_47 : decode cX8_readTry 47 = .ok (.iload_n 1, 1) := by decide +kernel
theorem dX8_readTry_48 : decode cX8_readTry 48 = .ok (.invokevirtual 58, 3) := by decide +kernel
theorem dX8_readTry_51 : decode cX8_readTry 51 = .ok (.return_, 1) := by decide +kernel
theorem mt_X8_readStatement : mx_mt 229 = some (yX8_readStatement, cX8_readStatement, 2, none) := rfl
theorem mt_X8_readTry : mx_mt 232 = some (yX8_readTry, cX8_readTry, 2, none) := rfl
