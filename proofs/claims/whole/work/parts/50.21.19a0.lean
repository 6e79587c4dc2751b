theorem rs_RX5_86 : mx_res RX5 86 = some (0, 5, 20) := by decide +kernel
theorem rs_RX5_145 : mx_res RX5 145 = some (1, 155, 2) := by decide +kernel
theorem rs_RX5_154 : mx_res RX5 154 = some (1, 153, 0) := by decide +kernel
theorem rs_RX5_176 : mx_res RX5 176 = some (2, 159, 3) := by decide +kernel
theorem ft_5_20 : mx_fty 5 20 = some (.int, false, "ClassMill$Machine") := by decide +kernel
theorem mt_X5_stepArithmetic : mx_mt 158 = some (yX5_stepArithmetic, cX5_stepArithmetic, 4, none) := rfl
theorem dX5_stepArithmetic_0 : decode cX5_stepArithmetic 0 = .ok (.aload_n 0, 1) := by decide +kernel
theorem dX5_stepArithmetic_1 : decode cX5_stepArithmetic 1 = .ok (.invokevirtual 154, 3) := by decide +kernel
theorem dX5_stepArithmetic_4 : decode cX5_stepArithmetic 4 = .ok (.istore_n 2, 1) := by decide +kernel
theorem dX5_stepArithmetic_5 : decode cX5_stepArithmetic 5 = .ok (.aload_n 0, 1) := by decide +kernel
theorem dX5_stepArithmetic_6 : decode cX5_stepArithmetic 6 = .ok (.invokevirtual 154, 3) := by decide +kernel
theorem dX5_stepArithmetic_9 : decode cX5_stepArithmetic 9 = .ok (.istore_n 3, 1) := by decide +kernel
theorem dX5_stepArithmetic_10 : decode cX5_stepArithmetic 10 = .ok (.iload_n 2, 1) := by decide +kernel
theorem dX5_stepArithmetic_11 : decode cX5_stepArithmetic 11 = .ok (.ifCond .ne 24, 3) := by decide +kernel
theorem dX5_stepArithmetic_14 : decode cX5_stepArithmetic 14 = .ok (.iload_n 1, 1) := by decide +kernel
theorem dX5_stepArithmetic_15 : decode cX5_stepArithmetic 15 = .ok (.bipush 108, 2) := by decide +kernel
theorem dX5_stepArithmetic_17 : decode cX5_stepArithmetic 17 = .ok (.if_icmp .eq 9, 3) := by decide +kernel
theorem dX5_stepArithmetic_20 : decode cX5_stepArithmetic 20 = .ok (.iload_n 1, 1) := by decide +kernel
theorem dX5_stepArithmetic_21 : decode cX5_stepArithmetic 21 = .ok (.bipush 112, 2) := by decide +kernel
theorem dX5_stepArithmetic_23 : decode cX5_stepArithmetic 23 = .ok (.if_icmp .ne 12, 3) := by decide +kernel
theorem dX5_stepArithmetic_26 : decode cX5_stepArithmetic 26 = .ok (.aload_n 0, 1) := by decide +kernel
theorem dX5_stepArithmetic_27 : decode cX5_stepArithmetic 27 = .ok (.bipush (-4), 2) := by decide +kernel
theorem dX5_stepArithmetic_29 : decode cX5_stepArithmetic 29 = .ok (.putfield 86, 3) := by decide +kernel
theorem dX5_stepArithmetic_32 : decode cX5_stepArithmetic 32 = .ok (.goto 14, 3) := by decide +kernel
theorem dX5_stepArithmetic_35 : decode cX5_stepArithmetic 35 = .ok (.aload_n 0, 1) := by decide +kernel
theorem dX5_stepArithmetic_36 : decode cX5_stepArithmetic 36 = .ok (.iload_n 1, 1) := by decide +kernel
theorem dX5_stepArithmetic_37 : decode cX5_stepArithmetic 37 = .ok (.iload_n 3, 1) := by decide +kernel
theorem dX5_stepArithmetic_38 : decode cX5_stepArithmetic 38 = .ok (.iload_n 2, 1) := by decide +kernel
theorem dX5_stepArithmetic_39 : decode cX5_stepArithmetic 39 = .ok (.invokestatic 176, 3) := by decide +kernel
theorem dX5_stepArithmetic_42 : decode cX5_stepArithmetic 42 = .ok (.iconst 1, 1) := by decide +kernel
theorem dX5_stepArithmetic_43 : decode cX5_stepArithmetic 43 = .ok (.invokevirtual 145, 3) := by decide +kernel
theorem dX5_stepArithmetic_46 : decode cX5_stepArithmetic 46 = .ok (.return_, 1) := by decide +kernel
theorem mt_X3_pairAt : mx_mt 104 = some (yX3_pairAt, cX3_pairAt, 2, (some .int)) := rfl
theorem dX3_pairAt_0 : decode cX3_pairAt 0 = .ok (.aload_n 0, 1) := by decide +kernel
theorem dX3_pairAt_1 : decode cX3_pairAt 1 = .ok (.iload_n 1, 1) := by decide +kernel
theorem dX3_pairAt_2 : decode cX3_pairAt 2 = .ok (.invokevirtual 119, 3) := by decide +kernel
theorem dX3_pairAt_5 : decode cX3_pairAt 5 = .ok (.bipush 8, 2) := by decide +kernel
theorem dX3_pairAt_7 : decode cX3_pairAt 7 = .ok (.ishl, 1) := by decide +kernel
theorem dX3_pairAt_8 : decode cX3_pairAt 8 = .ok (.aload_n 0, 1) := by decide +kernel
theorem dX3_pairAt_9 : decode cX3_pairAt 9 = .ok (.iload_n 1, 1) := by decide +kernel
theorem dX3_pairAt_10 : decode cX3_pairAt 10 = .ok (.iconst 1, 1) := by decide +kernel
theorem dX3_pairAt_11 : decode cX3_pairAt 11 = .ok (.iadd, 1) := by decide +kernel
theorem dX3_pairAt_12 : decode cX3_pairAt 12 = .ok (.invokevirtual 119, 3) := by decide +kernel
theorem dX3_pairAt_15 : decode cX3_pairAt 15 = .ok (.ior, 1) := by decide +kernel
theorem dX3_pairAt_16 : decode cX3_pairAt 16 = .ok (.ireturn, 1) := by decide +kernel
theorem mt_X5_compares : mx_mt 161 = some (yX5_compares, cX5_compares, 3, (some .boolean)) := rfl
theorem dX5_compares_0 : decode cX5_compares 0 = .ok (.iload_n 0, 1) := by decide +kernel
theorem dX5_compares_1 : decode cX5_compares 1 = .ok (.tableswitch 102 159 166 #[47, 58, 69, 80, 91, 102, 47, 58], 47) := by decide +kernel
theorem dX5_compares_48 : decode cX5_compares 48 = .ok (.iload_n 1, 1) := by decide +kernel
theorem dX5_compares_49 : decode cX5_compares 49 = .ok (.iload_n 2, 1) := by decide +kernel
theorem dX5_compares_50 : decode cX5_compares 50 = .ok (.if_icmp .ne 7, 3) := by decide +kernel
theorem dX5_compares_53 : decode cX5_compares 53 = .ok (.iconst 1, 1) := by decide +kernel
theorem dX5_compares_54 : decode cX5_compares 54 = .ok (.goto 4, 3) := by decide +kernel
theorem dX5_compares_57 : decode cX5_compares 57 = .ok (.iconst 0, 1) := by decide +kernel
theorem dX5_compares_58 : decode cX5_compares 58 = .ok (.ireturn, 1) := by decide +kernel
theorem dX5_compares_59 : decode cX5_compares 59 = .ok (.iload_n 1, 1) := by decide +kernel
theorem dX5_compares_60 : decode cX5_compares 60 = .ok (.iload_n 2, 1) := by decide +kernel
theorem dX5_compares_61 : decode cX5_compares 61 = .ok (.if_icmp .eq 7, 3) := by decide +kernel
theorem dX5_compares_64 : decode cX5_compares 64 = .ok (.iconst 1, 1) := by decide +kernel
theorem dX5_compares_65 : decode cX5_compares 65 = .ok (.goto 4, 3) := by decide +kernel
theorem dX5_compares_68 : decode cX5_compares 68 = .ok (.iconst 0, 1) := by decide +kernel
theorem dX5_compares_69 : decode cX5_compares 69 = .ok (.ireturn, 1) := by decide +kernel
theorem dX5_compares_70 : decode cX5_compares 70 = .ok (.iload_n 1, 1) := by decide +kernel
theorem dX5_compares_71 : decode cX5_compares 71 = .ok (.iload_n 2, 1) := by decide +kernel
theorem dX5_compares_72 : decode cX5_compares 72 = .ok (.if_icmp .ge 7, 3) := by decide +kernel
theorem dX5_compares_75 : decode cX5_compares 75 = .ok (.iconst 1, 1) := by decide +kernel
theorem dX5_compares_76 : decode cX5_compares 76 = .ok (.goto 4, 3) := by decide +kernel
theorem dX5_compares_79 : decode cX5_compares 79 = .ok (.iconst 0, 1) := by decide +kernel
theorem dX5_compares_80 : decode cX5_compares 80 = .ok (.ireturn, 1) := by decide +kernel
theorem dX5_compares_81 : decode cX5_compares 81 = .ok (.iload_n 1, 1) := by decide +kernel
theorem dX5_compares_82 : decode cX5_compares 82 = .ok (.iload_n 2, 1) := by decide +kernel
theorem dX5_compares_83 : decode cX5_compares 83 = .ok (.if_icmp .lt 7, 3) := by decide +kernel
theorem dX5_compares_86 : decode cX5_compares 86 = .ok (.iconst 1, 1) := by decide +kernel
theorem dX5_compares_87 : decode cX5_compares 87 = .ok (.goto 4, 3) := by decide +kernel
theorem dX5_compares_90 : decode cX5_compares 90 = .ok (.iconst 0, 1) := by decide +kernel
theorem dX5_compares_91 : decode cX5_compares 91 = .ok (.ireturn, 1) := by decide +kernel
theorem dX5_compares_92 : decode cX5_compares 92 = .ok (.iload_n 1, 1) := by decide +kernel
theorem dX5_compares_93 : decode cX5_compares 93 = .ok (.iload_n 2, 1) := by decide +kernel
theorem dX5_compares_94 : decode cX5_compares 94 = .ok (.if_icmp .le 7, 3) := by decide +kernel
theorem dX5_compares_97 : decode cX5_compares 97 = .ok (.iconst 1, 1) := by decide +kernel
theorem dX5_compares_98 : decode cX5_compares 98 = .ok (.goto 4, 3) := by decide +kernel
theorem dX5_compares_101 : decode cX5_compares 101 = .ok (.iconst 0, 1) := by decide +kernel
theorem dX5_compares_102 : decode cX5_compares 102 = .ok (.ireturn, 1) := by decide +kernel
theorem dX5_compares_103 : decode cX5_compares 103 = .ok (.iload_n 1, 1) := by decide +kernel
theorem dX5_compares_104 : decode cX5_compares 104 = .ok (.iload_n 2, 1) := by decide +kernel
theorem dX5_compares_105 : decode cX5_compares 105 = .ok (.if_icmp .gt 7, 3) := by decide +kernel
theorem dX5_compares_108 : decode cX5_compares 108 = .ok (.iconst 1, 1) := by decide +kernel
theorem dX5_compares_109 : decode cX5_compares 109 = .ok (.goto 4, 3) := by decide +kernel
theorem dX5_compares_112 : decode cX5_compares 112 = .ok (.iconst 0, 1) := by decide +kernel
theorem dX5_compares_113 : decode cX5_compares 113 = .ok (.ireturn, 1) := by decide +kernel
theorem rs_RX5_129 : mx_res RX5 129 = some (0, 5, 19) := by decide +kernel
theorem rs_RX5_180 : mx_res RX5 180 = some (2, 161, 3) := by decide +kernel
theorem rs_RX5_184 : mx_res RX5 184 = some (1, 104, 1) := by decide +kernel
theorem mt_X5_stepJump : mx_mt 160 = some (yX5_stepJump, cX5_stepJump, 6, none) := rfl
theorem dX5_stepJump_0 : decode cX5_stepJump 0 = .ok (.iconst 1, 1) := by decide +kernel
theorem dX5_stepJump_1 : decode cX5_stepJump 1 = .ok (.istore_n 3, 1) := by decide +kernel
theorem dX5_stepJump_2 : decode cX5_stepJump 2 = .ok (.iload_n 1, 1) := by decide +kernel
theorem dX5_stepJump_3 : decode cX5_stepJump 3 = .ok (.sipush 153, 3) := by decide +kernel
theorem dX5_stepJump_6 : decode cX5_stepJump 6 = .ok (.if_icmp .ne 19, 3) := by decide +kernel
theorem dX5_stepJump_9 : decode cX5_stepJump 9 = .ok (.aload_n 0, 1) := by decide +kernel
theorem dX5_stepJump_10 : decode cX5_stepJump 10 = .ok (.invokevirtual 154, 3) := by decide +kernel
theorem dX5_stepJump_13 : decode cX5_stepJump 13 = .ok (.ifCond .ne 7, 3) := by decide +kernel
theorem dX5_stepJump_16 : decode cX5_stepJump 16 = .ok (.iconst 1, 1) := by decide +kernel
theorem dX5_stepJump_17 : decode cX5_stepJump 17 = .ok (.goto 4, 3) := by decide +kernel
theorem dX5_stepJump_20 : decode cX5_stepJump 20 = .ok (.iconst 0, 1) := by decide +kernel
theorem dX5_stepJump_21 : decode cX5_stepJump 21 = .ok (.istore_n 3, 1) := by decide +kernel
theorem dX5_stepJump_22 : decode cX5_stepJump 22 = .ok (.goto 54, 3) := by decide +kernel
theorem dX5_stepJump_25 : decode cX5_stepJump 25 = .ok (.iload_n 1, 1) := by decide +kernel
theorem dX5_stepJump_26 : decode cX5_stepJump 26 = .ok (.sipush 154, 3) := by decide +kernel
theorem dX5_stepJump_29 : decode cX5_stepJump 29 = .ok (.if_icmp .ne 19, 3) := by decide +kernel
theorem dX5_stepJump_32 : decode cX5_stepJump 32 = .ok (.aload_n 0, 1) := by decide +kernel
theorem dX5_stepJump_33 : decode cX5_stepJump 33 = .ok (.invokevirtual 154, 3) := by decide +kernel
theorem dX5_stepJump_36 : decode cX5_stepJump 36 = .ok (.ifCond .eq 7, 3) := by decide +kernel
theorem dX5_stepJump_39 : decode cX5_stepJump 39 = .ok (.iconst 1, 1) := by decide +kernel
theorem dX5_stepJump_40 : decode cX5_stepJump 40 = .ok (.goto 4, 3) := by decide +kernel
theorem dX5_stepJump_43 : decode cX5_stepJump 43 = .ok (.iconst 0, 1) := by decide +kernel
theorem dX5_stepJump_44 : decode cX5_stepJump 44 = .ok (.istore_n 3, 1) := by decide +kernel
theorem dX5_stepJump_45 : decode cX5_stepJump 45 = .ok (.goto 31, 3) := by decide +kernel
theorem dX5_stepJump_48 : decode cX5_stepJump 48 = .ok (.iload_n 1, 1) := by decide +kernel
theorem dX5_stepJump_49 : decode cX5_stepJump 49 = .ok (.sipush 167, 3) := by decide +kernel
theorem dX5_stepJump_52 : decode cX5_stepJump 52 = .ok (.if_icmp .eq 24, 3) := by decide +kernel
theorem dX5_stepJump_55 : decode cX5_stepJump 55 = .ok (.aload_n 0, 1) := by decide +kernel
theorem dX5_stepJump_56 : decode cX5_stepJump 56 = .ok (.invokevirtual 154, 3) := by decide +kernel
theorem dX5_stepJump_59 : decode cX5_stepJump 59 = .ok (.istore 4, 2) := by decide +kernel
theorem dX5_stepJump_61 : decode cX5_stepJump 61 = .ok (.aload_n 0, 1) := by decide +kernel
theorem dX5_stepJump_62 : decode cX5_stepJump 62 = .ok (.invokevirtual 154, 3) := by decide +kernel
theorem dX5_stepJump_65 : decode cX5_stepJump 65 = .ok (.istore 5, 2) := by decide +kernel
theorem dX5_stepJump_67 : decode cX5_stepJump 67 = .ok (.iload_n 1, 1) := by decide +kernel
theorem dX5_stepJump_68 : decode cX5_stepJump 68 = .ok (.iload 5, 2) := by decide +kernel
theorem dX5_stepJump_70 : decode cX5_stepJump 70 = .ok (.iload 4, 2) := by decide +kernel
theorem dX5_stepJump_72 : decode cX5_stepJump 72 = .ok (.invokestatic 180, 3) := by decide +kernel
theorem dX5_stepJump_75 : decode cX5_stepJump 75 = .ok (.istore_n 3, 1) := by decide +kernel
theorem dX5_stepJump_76 : decode cX5_stepJump 76 = .ok (.aload_n 0, 1) := by decide +kernel
theorem dX5_stepJump_77 : decode cX5_stepJump 77 = .ok (.iload_n 3, 1) := by decide +kernel
theorem dX5_stepJump_78 : decode cX5_stepJump 78 = .ok (.ifCond .eq 22, 3) := by decide +kernel
theorem dX5_stepJump_81 : decode cX5_stepJump 81 = .ok (.aload_n 0, 1) := by decide +kernel
theorem dX5_stepJump_82 : decode cX5_stepJump 82 = .ok (.getfield 46, 3) := by decide +kernel
theorem dX5_stepJump_85 : decode cX5_stepJump 85 = .ok (.aload_n 0, 1) := by decide +kernel
theorem dX5_stepJump_86 : decode cX5_stepJump 86 = .ok (.getfield 129, 3) := by decide +kernel
theorem dX5_stepJump_89 : decode cX5_stepJump 89 = .ok (.iload_n 2, 1) := by decide +kernel
theorem dX5_stepJump_90 : decode cX5_stepJump 90 = .ok (.iadd, 1) := by decide +kernel
theorem dX5_stepJump_91 : decode cX5_stepJump 91 = .ok (.iconst 1, 1) := by decide +kernel
theorem dX5_stepJump_92 : decode cX5_stepJump 92 = .ok (.iadd, 1) := by decide +kernel
theorem dX5_stepJump_93 : decode cX5_stepJump 93 = .ok (.invokevirtual 184, 3) := by decide +kernel
theorem dX5_stepJump_96 : decode cX5_stepJump 96 = .ok (.i2s, 1) := by decide +kernel
theorem dX5_stepJump_97 : decode cX5_stepJump 97 = .ok (.goto 4, 3) := by decide +kernel
theorem dX5_stepJump_100 : decode cX5_stepJump 100 = .ok (.iconst 3, 1) := by decide +kernel
theorem dX5_stepJump_101 : decode cX5_stepJump 101 = .ok (.invokevirtual 138, 3) := by decide +kernel
theorem dX5_stepJump_104 : decode cX5_stepJump 104 = .ok (.return_, 1) := by decide +kernel
theorem mt_X5_stepLocal : mx_mt 157 = some (yX5_stepLocal, cX5_stepLocal, 4, none) := rfl
theorem dX5_stepLocal_0 : decode cX5_stepLocal 0 = .ok (.aload_n 0, 1) := by decide +kernel
theorem dX5_stepLocal_1 : decode cX5_stepLocal 1 = .ok (.getfield 97, 3) := by decide +kernel
theorem dX5_stepLocal_4 : decode cX5_stepLocal 4 = .ok (.bipush 30, 2) := by decide +kernel
theorem dX5_stepLocal_6 : decode cX5_stepLocal 6 = .ok (.imul, 1) := by decide +kernel
theorem dX5_stepLocal_7 : decode cX5_stepLocal 7 = .ok (.iload_n 2, 1) := by decide +kernel
theorem dX5_stepLocal_8 : decode cX5_stepLocal 8 = .ok (.iadd, 1) := by decide +kernel
theorem dX5_stepLocal_9 : decode cX5_stepLocal 9 = .ok (.istore_n 3, 1) := by decide +kernel
theorem dX5_stepLocal_10 : decode cX5_stepLocal 10 = .ok (.iload_n 2, 1) := by decide +kernel
theorem dX5_stepLocal_11 : decode cX5_stepLocal 11 = .ok (.bipush 30, 2) := by decide +kernel
theorem dX5_stepLocal_13 : decode cX5_stepLocal 13 = .ok (.if_icmp .lt 12, 3) := by decide +kernel
theorem dX5_stepLocal_16 : decode cX5_stepLocal 16 = .ok (.aload_n 0, 1) := by decide +kernel
theorem dX5_stepLocal_17 : decode cX5_stepLocal 17 = .ok (.bipush 6, 2) := by decide +kernel
theorem dX5_stepLocal_19 : decode cX5_stepLocal 19 = .ok (.putfield 54, 3) := by decide +kernel
theorem dX5_stepLocal_22 : decode cX5_stepLocal 22 = .ok (.goto 44, 3) := by decide +kernel
theorem dX5_stepLocal_25 : decode cX5_stepLocal 25 = .ok (.iload_n 1, 1) := by decide +kernel
theorem dX5_stepLocal_26 : decode cX5_stepLocal 26 = .ok (.bipush 21, 2) := by decide +kernel
theorem dX5_stepLocal_28 : decode cX5_stepLocal 28 = .ok (.if_icmp .eq 9, 3) := by decide +kernel
theorem dX5_stepLocal_31 : decode cX5_stepLocal 31 = .ok (.iload_n 1, 1) := by decide +kernel
theorem dX5_stepLocal_32 : decode cX5_stepLocal 32 = .ok (.bipush 25, 2) := by decide +kernel
theorem dX5_stepLocal_34 : decode cX5_stepLocal 34 = .ok (.if_icmp .ne 17, 3) := by decide +kernel
theorem dX5_stepLocal_37 : decode cX5_stepLocal 37 = .ok (.aload_n 0, 1) := by decide +kernel
theorem dX5_stepLocal_38 : decode cX5_stepLocal 38 = .ok (.aload_n 0, 1) := by decide +kernel
theorem dX5_stepLocal_39 : decode cX5_stepLocal 39 = .ok (.getfield 35, 3) := by decide +kernel
theorem dX5_stepLocal_42 : decode cX5_stepLocal 42 = .ok (.iload_n 3, 1) := by decide +kernel
theorem dX5_stepLocal_43 : decode cX5_stepLocal 43 = .ok (.iaload, 1) := by decide +kernel
theorem dX5_stepLocal_44 : decode cX5_stepLocal 44 = .ok (.iconst 2, 1) := by decide +kernel
theorem dX5_stepLocal_45 : decode cX5_stepLocal 45 = .ok (.invokevirtual 145, 3) := by decide +kernel
theorem dX5_stepLocal_48 : decode cX5_stepLocal 48 = .ok (.goto 18, 3) := by decide +kernel
theorem dX5_stepLocal_51 : decode cX5_stepLocal 51 = .ok (.aload_n 0, 1) := by decide +kernel
theorem dX5_stepLocal_52 : decode cX5_stepLocal 52 = .ok (.getfield 35, 3) := by decide +kernel
theorem dX5_stepLocal_55 : decode cX5_stepLocal 55 = .ok (.iload_n 3, 1) := by decide +kernel
theorem dX5_stepLocal_56 : decode cX5_stepLocal 56 = .ok (.aload_n 0, 1) := by decide +kernel
theorem dX5_stepLocal_57 : decode cX5_stepLocal 57 = .ok (.invokevirtual 154, 3) := by decide +kernel
theorem dX5_stepLocal_60 : decode cX5_stepLocal 60 = .ok (.iastore, 1) := by decide +kernel
theorem dX5_stepLocal_61 : decode cX5_stepLocal 61 = .ok (.aload_n 0, 1) := by decide +kernel
theorem dX5_stepLocal_62 : decode cX5_stepLocal 62 = .ok (.iconst 2, 1) := by decide +kernel
theorem dX5_stepLocal_63 : decode cX5_stepLocal 63 = .ok (.invokevirtual 138, 3) := by decide +kernel
theorem dX5_stepLocal_66 : decode cX5_stepLocal 66 = .ok (.return_, 1) := by decide +kernel
theorem rs_RX5_89 : mx_res RX5 89 = some (1, 173, 2) := by decide +kernel
theorem mt_X5_giveNew : mx_mt 174 = some (yX5_giveNew, cX5_giveNew, 4, none) := rfl
theorem dX5_giveNew_0 : decode cX5_giveNew 0 = .ok (.aload_n 0, 1) := by decide +kernel
theorem dX5_giveNew_1 : decode cX5_giveNew 1 = .ok (.iload_n 1, 1) := by decide +kernel
theorem dX5_giveNew_2 : decode cX5_giveNew 2 = .ok (.iload_n 2, 1) := by decide +kernel
theorem dX5_giveNew_3 : decode cX5_giveNew 3 = .ok (.invokevirtual 89, 3) := by decide +kernel
theorem dX5_giveNew_6 : decode cX5_giveNew 6 = .ok (.istore_n 3, 1) := by decide +kernel
theorem dX5_giveNew_7 : decode cX5_giveNew 7 = .ok (.iload_n 3, 1) := by decide +kernel
theorem dX5_giveNew_8 : decode cX5_giveNew 8 = .ok (.ifCond .eq 9, 3) := by decide +kernel
theorem dX5_giveNew_11 : decode cX5_giveNew 11 = .ok (.aload_n 0, 1) := by decide +kernel
theorem dX5_giveNew_12 : decode cX5_giveNew 12 = .ok (.iload_n 3, 1) := by decide +kernel
theorem dX5_giveNew_13 : decode cX5_giveNew 13 = .ok (.iconst 2, 1) := by decide +kernel
theorem dX5_giveNew_14 : decode cX5_giveNew 14 = .ok (.invokevirtual 145, 3) := by decide +kernel
theorem dX5_giveNew_17 : decode cX5_giveNew 17 = .ok (.return_, 1) := by decide +kernel
theorem mt_X3_of : mx_mt 126 = some (yX3_of, cX3_of, 4, (some .int)) := rfl
theorem dX3_of_0 : decode cX3_of 0 = .ok (.iload_n 1, 1) := by decide +kernel
theorem dX3_of_1 : decode cX3_of 1 = .ok (.bipush 12, 2) := by decide +kernel
theorem dX3_of_3 : decode cX3_of 3 = .ok (.imul, 1) := by decide +kernel
theorem dX3_of_4 : decode cX3_of 4 = .ok (.iload_n 2, 1) := by decide +kernel
theorem dX3_of_5 : decode cX3_of 5 = .ok (.iadd, 1) := by decide +kernel
theorem dX3_of_6 : decode cX3_of 6 = .ok (.istore_n 3, 1) := by decide +kernel
theorem dX3_of_7 : decode cX3_of 7 = .ok (.iload_n 1, 1) := by decide +kernel
theorem dX3_of_8 : decode cX3_of 8 = .ok (.ifCond .lt 29, 3) := by decide +kernel
theorem dX3_of_11 : decode cX3_of 11 = .ok (.iload_n 1, 1) := by decide +kernel
theorem dX3_of_12 : decode cX3_of 12 = .ok (.aload_n 0, 1) := by decide +kernel
theorem dX3_of_13 : decode cX3_of 13 = .ok (.getfield 52, 3) := by decide +kernel
theorem dX3_of_16 : decode cX3_of 16 = .ok (.if_icmp .ge 21, 3) := by decide +kernel
theorem dX3_of_19 : decode cX3_of 19 = .ok (.iload_n 3, 1) := by decide +kernel
theorem dX3_of_20 : decode cX3_of 20 = .ok (.aload_n 0, 1) := by decide +kernel
theorem dX3_of_21 : decode cX3_of 21 = .ok (.getfield 30, 3) := by decide +kernel
theorem dX3_of_24 : decode cX3_of 24 = .ok (.arraylength, 1) := by decide +kernel
theorem dX3_of_25 : decode cX3_of 25 = .ok (.if_icmp .ge 12, 3) := by decide +kernel
theorem dX3_of_28 : decode cX3_of 28 = .ok (.aload_n 0, 1) := by decide +kernel
theorem dX3_of_29 : decode cX3_of 29 = .ok (.getfield 30, 3) := by decide +kernel
theorem dX3_of_32 : decode cX3_of 32 = .ok (.iload_n 3, 1) := by decide +kernel
theorem dX3_of_33 : decode cX3_of 33 = .ok (.iaload, 1) := by decide +kernel
theorem dX3_of_34 : decode cX3_of 34 = .ok (.goto 4, 3) := by decide +kernel
theorem dX3_of_37 : decode cX3_of 37 = .ok (.iconst 0, 1) := by decide +kernel
theorem dX3_of_38 : decode cX3_of 38 = .ok (.ireturn, 1) := by decide +kernel
theorem mt_X7_imageOfMember : mx_mt 209 = some (yX7_imageOfMember, cX7_imageOfMember, 2, (some (.object "ClassMill$Image"))) := rfl
theorem dX7_imageOfMember_0 : decode cX7_imageOfMember 0 = .ok (.iload_n 1, 1) := by decide +kernel
theorem dX7_imageOfMember_1 : decode cX7_imageOfMember 1 = .ok (.ifCond .lt 26, 3) := by decide +kernel
theorem dX7_imageOfMember_4 : decode cX7_imageOfMember 4 = .ok (.iload_n 1, 1) := by decide +kernel
theorem dX7_imageOfMember_5 : decode cX7_imageOfMember 5 = .ok (.aload_n 0, 1) := by decide +kernel
theorem dX7_imageOfMember_6 : decode cX7_imageOfMember 6 = .ok (.getfield 41, 3) := by decide +kernel
theorem dX7_imageOfMember_9 : decode cX7_imageOfMember 9 = .ok (.bipush 12, 2) := by decide +kernel
theorem dX7_imageOfMember_11 : decode cX7_imageOfMember 11 = .ok (.imul, 1) := by decide +kernel
theorem dX7_imageOfMember_12 : decode cX7_imageOfMember 12 = .ok (.if_icmp .ge 15, 3) := by decide +kernel
theorem dX7_imageOfMember_15 : decode cX7_imageOfMember 15 = .ok (.aload_n 0, 1) := by decide +kernel
theorem dX7_imageOfMember_16 : decode cX7_imageOfMember 16 = .ok (.getfield 22, 3) := by decide +kernel
theorem dX7_imageOfMember_19 : decode cX7_imageOfMember 19 = .ok (.iload_n 1, 1) := by decide +kernel
theorem dX7_imageOfMember_20 : decode cX7_imageOfMember 20 = .ok (.bipush 12, 2) := by decide +kernel
theorem dX7_imageOfMember_22 : decode cX7_imageOfMember 22 = .ok (.idiv, 1) := by decide +kernel
theorem dX7_imageOfMember_23 : decode cX7_imageOfMember 23 = .ok (.aaload, 1) := by decide +kernel
theorem dX7_imageOfMember_24 : decode cX7_imageOfMember 24 = .ok (.goto 4, 3) := by decide +kernel
theorem dX7_imageOfMember_27 : decode cX7_imageOfMember 27 = .ok (.aconst_null, 1) := by decide +kernel
theorem dX7_imageOfMember_28 : decode cX7_imageOfMember 28 = .ok (.areturn, 1) := by decide +kernel
theorem rs_RX5_115 : mx_res RX5 115 = some (13, 0, 0) := by decide +kernel
theorem rs_RX5_120 : mx_res RX5 120 = some (1, 209, 1) := by decide +kernel
theorem rs_RX5_126 : mx_res RX5 126 = some (1, 126, 2) := by decide +kernel
theorem ft_5_17 : mx_fty 5 17 = some (.int, false, "ClassMill$Machine") := by decide +kernel
theorem ft_5_19 : mx_fty 5 19 = some (.int, false, "ClassMill$Machine") := by decide +kernel
theorem mt_X5_takeTop : mx_mt 150 = some (yX5_takeTop, cX5_takeTop, 2, none) := rfl
theorem dX5_takeTop_0 : decode cX5_takeTop 0 = .ok (.aload_n 0, 1) := by decide +kernel
theorem dX5_takeTop_1 : decode cX5_takeTop 1 = .ok (.iconst 0, 1) := by decide +kernel
theorem dX5_takeTop_2 : decode cX5_takeTop 2 = .ok (.aload_n 0, 1) := by decide +kernel
theorem dX5_takeTop_3 : decode cX5_takeTop 3 = .ok (.getfield 66, 3) := by decide +kernel
theorem dX5_takeTop_6 : decode cX5_takeTop 6 = .ok (.iconst 1, 1) := by decide +kernel
theorem dX5_takeTop_7 : decode cX5_takeTop 7 = .ok (.isub, 1) := by decide +kernel
theorem dX5_takeTop_8 : decode cX5_takeTop 8 = .ok (.invokestatic 115, 3) := by decide +kernel
theorem dX5_takeTop_11 : decode cX5_takeTop 11 = .ok (.putfield 97, 3) := by decide +kernel
theorem dX5_takeTop_14 : decode cX5_takeTop 14 = .ok (.aload_n 0, 1) := by decide +kernel
theorem dX5_takeTop_15 : decode cX5_takeTop 15 = .ok (.getfield 41, 3) := by decide +kernel
theorem dX5_takeTop_18 : decode cX5_takeTop 18 = .ok (.aload_n 0, 1) := by decide +kernel
theorem dX5_takeTop_19 : decode cX5_takeTop 19 = .ok (.getfield 26, 3) := by decide +kernel
theorem dX5_takeTop_22 : decode cX5_takeTop 22 = .ok (.aload_n 0, 1) := by decide +kernel
theorem dX5_takeTop_23 : decode cX5_takeTop 23 = .ok (.getfield 97, 3) := by decide +kernel
theorem dX5_takeTop_26 : decode cX5_takeTop 26 = .ok (.iaload, 1) := by decide +kernel
theorem dX5_takeTop_27 : decode cX5_takeTop 27 = .ok (.invokevirtual 120, 3) := by decide +kernel
theorem dX5_takeTop_30 : decode cX5_takeTop 30 = .ok (.astore_n 1, 1) := by decide +kernel
theorem dX5_takeTop_31 : decode cX5_takeTop 31 = .ok (.aload_n 1, 1) := by decide +kernel
theorem dX5_takeTop_32 : decode cX5_takeTop 32 = .ok (.ifnonnull 10, 3) := by decide +kernel
theorem dX5_takeTop_35 : decode cX5_takeTop 35 = .ok (.aload_n 0, 1) := by decide +kernel
theorem dX5_takeTop_36 : decode cX5_takeTop 36 = .ok (.bipush 6, 2) := by decide +kernel
theorem dX5_takeTop_38 : decode cX5_takeTop 38 = .ok (.putfield 54, 3) := by decide +kernel
theorem dX5_takeTop_41 : decode cX5_takeTop 41 = .ok (.return_, 1) := by decide +kernel
theorem dX5_takeTop_42 : decode cX5_takeTop 42 = .ok (.aload_n 0, 1) := by decide +kernel
theorem dX5_takeTop_43 : decode cX5_takeTop 43 = .ok (.aload_n 1, 1) := by decide +kernel
theorem dX5_takeTop_44 : decode cX5_takeTop 44 = .ok (.putfield 46, 3) := by decide +kernel
theorem dX5_takeTop_47 : decode cX5_takeTop 47 = .ok (.aload_n 0, 1) := by decide +kernel
theorem dX5_takeTop_48 : decode cX5_takeTop 48 = .ok (.aload_n 0, 1) := by decide +kernel
theorem dX5_takeTop_49 : decode cX5_takeTop 49 = .ok (.getfield 46, 3) := by decide +kernel
theorem dX5_takeTop_52 : decode cX5_takeTop 52 = .ok (.aload_n 0, 1) := by decide +kernel
theorem dX5_takeTop_53 : decode cX5_takeTop 53 = .ok (.getfield 26, 3) := by decide +kernel
theorem dX5_takeTop_56 : decode cX5_takeTop 56 = .ok (.aload_n 0, 1) := by decide +kernel
theorem dX5_takeTop_57 : decode cX5_takeTop 57 = .ok (.getfield 97, 3) := by decide +kernel
theorem dX5_takeTop_60 : decode cX5_takeTop 60 = .ok (.iaload, 1) := by decide +kernel
theorem dX5_takeTop_61 : decode cX5_takeTop 61 = .ok (.bipush 12, 2) := by decide +kernel
theorem dX5_takeTop_63 : decode cX5_takeTop 63 = .ok (.irem, 1) := by decide +kernel
theorem dX5_takeTop_64 : decode cX5_takeTop 64 = .ok (.bipush 6, 2) := by decide +kernel
theorem dX5_takeTop_66 : decode cX5_takeTop 66 = .ok (.invokevirtual 126, 3) := by decide +kernel
theorem dX5_takeTop_69 : decode cX5_takeTop 69 = .ok (.putfield 129, 3) := by decide +kernel
theorem dX5_takeTop_72 : decode cX5_takeTop 72 = .ok (.return_, 1) := by decide +kernel
theorem rs_RX5_106 : mx_res RX5 106 = some (6, 0, 0) := by decide +kernel
theorem rs_RX5_112 : mx_res RX5 112 = some (1, 150, 0) := by decide +kernel
theorem mt_X5_beginMethod : mx_mt 149 = some (yX5_beginMethod, cX5_beginMethod, 5, none) := rfl
theorem dX5_beginMethod_0 : decode cX5_beginMethod 0 = .ok (.aload_n 0, 1) := by decide +kernel
theorem dX5_beginMethod_1 : decode cX5_beginMethod 1 = .ok (.getfield 66, 3) := by decide +kernel
theorem dX5_beginMethod_4 : decode cX5_beginMethod 4 = .ok (.bipush 60, 2) := by decide +kernel
theorem dX5_beginMethod_6 : decode cX5_beginMethod 6 = .ok (.if_icmp .lt 9, 3) := by decide +kernel
theorem dX5_beginMethod_9 : decode cX5_beginMethod 9 = .ok (.aload_n 0, 1) := by decide +kernel
theorem dX5_beginMethod_10 : decode cX5_beginMethod 10 = .ok (.iconst 5, 1) := by decide +kernel
theorem dX5_beginMethod_11 : decode cX5_beginMethod 11 = .ok (.putfield 54, 3) := by decide +kernel
theorem dX5_beginMethod_14 : decode cX5_beginMethod 14 = .ok (.return_, 1) := by decide +kernel
theorem dX5_beginMethod_15 : decode cX5_beginMethod 15 = .ok (.aload_n 0, 1) := by decide +kernel
theorem dX5_beginMethod_16 : decode cX5_beginMethod 16 = .ok (.getfield 66, 3) := by decide +kernel
theorem dX5_beginMethod_19 : decode cX5_beginMethod 19 = .ok (.bipush 30, 2) := by decide +kernel
theorem dX5_beginMethod_21 : decode cX5_beginMethod 21 = .ok (.imul, 1) := by decide +kernel
theorem dX5_beginMethod_22 : decode cX5_beginMethod 22 = .ok (.istore 4, 2) := by decide +kernel
theorem dX5_beginMethod_24 : decode cX5_beginMethod 24 = .ok (.aload_n 0, 1) := by decide +kernel
theorem dX5_beginMethod_25 : decode cX5_beginMethod 25 = .ok (.getfield 35, 3) := by decide +kernel
theorem dX5_beginMethod_28 : decode cX5_beginMethod 28 = .ok (.iload 4, 2) := by decide +kernel
theorem dX5_beginMethod_30 : decode cX5_beginMethod 30 = .ok (.iload 4, 2) := by decide +kernel
theorem dX5_beginMethod_32 : decode cX5_beginMethod 32 = .ok (.bipush 30, 2) := by decide +kernel
theorem dX5_beginMethod_34 : decode cX5_beginMethod 34 = .ok (.iadd, 1) := by decide +kernel
theorem dX5_beginMethod_35 : decode cX5_beginMethod 35 = .ok (.iconst 0, 1) := by decide +kernel
theorem dX5_beginMethod_36 : decode cX5_beginMethod 36 = .ok (.invokestatic 100, 3) := by decide +kernel
theorem dX5_beginMethod_39 : decode cX5_beginMethod 39 = .ok (.aload_n 0, 1) := by decide +kernel
theorem dX5_beginMethod_40 : decode cX5_beginMethod 40 = .ok (.getfield 38, 3) := by decide +kernel
theorem dX5_beginMethod_43 : decode cX5_beginMethod 43 = .ok (.iload_n 2, 1) := by decide +kernel
theorem dX5_beginMethod_44 : decode cX5_beginMethod 44 = .ok (.aload_n 0, 1) := by decide +kernel
theorem dX5_beginMethod_45 : decode cX5_beginMethod 45 = .ok (.getfield 35, 3) := by decide +kernel
theorem dX5_beginMethod_48 : decode cX5_beginMethod 48 = .ok (.iload 4, 2) := by decide +kernel
theorem dX5_beginMethod_50 : decode cX5_beginMethod 50 = .ok (.iload_n 3, 1) := by decide +kernel
theorem dX5_beginMethod_51 : decode cX5_beginMethod 51 = .ok (.invokestatic 106, 3) := by decide +kernel
theorem dX5_beginMethod_54 : decode cX5_beginMethod 54 = .ok (.aload_n 0, 1) := by decide +kernel
theorem dX5_beginMethod_55 : decode cX5_beginMethod 55 = .ok (.getfield 26, 3) := by decide +kernel
theorem dX5_beginMethod_58 : decode cX5_beginMethod 58 = .ok (.aload_n 0, 1) := by decide +kernel
theorem dX5_beginMethod_59 : decode cX5_beginMethod 59 = .ok (.getfield 66, 3) := by decide +kernel
theorem dX5_beginMethod_62 : decode cX5_beginMethod 62 = .ok (.iload_n 1, 1) := by decide +kernel
theorem dX5_beginMethod_63 : decode cX5_beginMethod 63 = .ok (.iastore, 1) := by decide +kernel
theorem dX5_beginMethod_64 : decode cX5_beginMethod 64 = .ok (.aload_n 0, 1) := by decide +kernel
theorem dX5_beginMethod_65 : decode cX5_beginMethod 65 = .ok (.getfield 29, 3) := by decide +kernel
theorem dX5_beginMethod_68 : decode cX5_beginMethod 68 = .ok (.aload_n 0, 1) := by decide +kernel
theorem dX5_beginMethod_69 : decode cX5_beginMethod 69 = .ok (.getfield 66, 3) := by decide +kernel
theorem dX5_beginMethod_72 : decode cX5_beginMethod 72 = .ok (.iconst 0, 1) := by decide +kernel
theorem dX5_beginMethod_73 : decode cX5_beginMethod 73 = .ok (.iastore, 1) := by decide +kernel
theorem dX5_beginMethod_74 : decode cX5_beginMethod 74 = .ok (.aload_n 0, 1) := by decide +kernel
theorem dX5_beginMethod_75 : decode cX5_beginMethod 75 = .ok (.getfield 32, 3) := by decide +kernel
theorem dX5_beginMethod_78 : decode cX5_beginMethod 78 = .ok (.aload_n 0, 1) := by decide +kernel
theorem dX5_beginMethod_79 : decode cX5_beginMethod 79 = .ok (.getfield 66, 3) := by decide +kernel
theorem dX5_beginMethod_82 : decode cX5_beginMethod 82 = .ok (.iconst 0, 1) := by decide +kernel
theorem dX5_beginMethod_83 : decode cX5_beginMethod 83 = .ok (.iastore, 1) := by decide +kernel
theorem dX5_beginMethod_84 : decode cX5_beginMethod 84 = .ok (.aload_n 0, 1) := by decide +kernel
theorem dX5_beginMethod_85 : decode cX5_beginMethod 85 = .ok (.dup, 1) := by decide +kernel
theorem dX5_beginMethod_86 : decode cX5_beginMethod 86 = .ok (.getfield 66, 3) := by decide +kernel
theorem dX5_beginMethod_89 : decode cX5_beginMethod 89 = .ok (.iconst 1, 1) := by decide +kernel
theorem dX5_beginMethod_90 : decode cX5_beginMethod 90 = .ok (.iadd, 1) := by decide +kernel
theorem dX5_beginMethod_91 : decode cX5_beginMethod 91 = .ok (.putfield 66, 3) := by decide +kernel
theorem dX5_beginMethod_94 : decode cX5_beginMethod 94 = .ok (.aload_n 0, 1) := by decide +kernel
theorem dX5_beginMethod_95 : decode cX5_beginMethod 95 = .ok (.invokevirtual 112, 3) := by decide +kernel
theorem dX5_beginMethod_98 : decode cX5_beginMethod 98 = .ok (.return_, 1) := by decide +kernel
theorem mt_X5_isObject : mx_mt 163 = some (yX5_isObject, cX5_isObject, 2, (some .boolean)) := rfl
theorem dX5_isObject_0 : decode cX5_isObject 0 = .ok (.iload_n 1, 1) := by decide +kernel
theorem dX5_isObject_1 : decode cX5_isObject 1 = .ok (.ifCond .le 22, 3) := by decide +kernel
theorem dX5_isObject_4 : decode cX5_isObject 4 = .ok (.iload_n 1, 1) := by decide +kernel
theorem dX5_isObject_5 : decode cX5_isObject 5 = .ok (.aload_n 0, 1) := by decide +kernel
theorem dX5_isObject_6 : decode cX5_isObject 6 = .ok (.getfield 60, 3) := by decide +kernel
theorem dX5_isObject_9 : decode cX5_isObject 9 = .ok (.if_icmp .gt 14, 3) := by decide +kernel
theorem dX5_isObject_12 : decode cX5_isObject 12 = .ok (.iload_n 1, 1) := by decide +kernel
theorem dX5_isObject_13 : decode cX5_isObject 13 = .ok (.sipush 2000, 3) := by decide +kernel
theorem dX5_isObject_16 : decode cX5_isObject 16 = .ok (.if_icmp .gt 7, 3) := by decide +kernel
theorem dX5_isObject_19 : decode cX5_isObject 19 = .ok (.iconst 1, 1) := by decide +kernel
theorem dX5_isObject_20 : decode cX5_isObject 20 = .ok (.goto 4, 3) := by decide +kernel
theorem dX5_isObject_23 : decode cX5_isObject 23 = .ok (.iconst 0, 1) := by decide +kernel
theorem dX5_isObject_24 : decode cX5_isObject 24 = .ok (.ireturn, 1) := by decide +kernel
theorem mt_X7_nearestTo : mx_mt 218 = some (yX7_nearestTo, cX7_nearestTo, 4, (some .int)) := rfl
theorem dX7_nearestTo_0 : decode cX7_nearestTo 0 = .ok (.iload_n 1, 1) := by decide +kernel
theorem dX7_nearestTo_1 : decode cX7_nearestTo 1 = .ok (.bipush 8, 2) := by decide +kernel
theorem dX7_nearestTo_3 : decode cX7_nearestTo 3 = .ok (.isub, 1) := by decide +kernel
theorem dX7_nearestTo_4 : decode cX7_nearestTo 4 = .ok (.istore_n 3, 1) := by decide +kernel
theorem dX7_nearestTo_5 : decode cX7_nearestTo 5 = .ok (.iload_n 3, 1) := by decide +kernel
theorem dX7_nearestTo_6 : decode cX7_nearestTo 6 = .ok (.ifCond .lt 33, 3) := by decide +kernel
theorem dX7_nearestTo_9 : decode cX7_nearestTo 9 = .ok (.iload_n 3, 1) := by decide +kernel
theorem dX7_nearestTo_10 : decode cX7_nearestTo 10 = .ok (.bipush 8, 2) := by decide +kernel
theorem dX7_nearestTo_12 : decode cX7_nearestTo 12 = .ok (.if_icmp .ge 27, 3) := by decide +kernel
theorem dX7_nearestTo_15 : decode cX7_nearestTo 15 = .ok (.iload_n 2, 1) := by decide +kernel
theorem dX7_nearestTo_16 : decode cX7_nearestTo 16 = .ok (.ifCond .lt 23, 3) := by decide +kernel
theorem dX7_nearestTo_19 : decode cX7_nearestTo 19 = .ok (.iload_n 2, 1) := by decide +kernel
theorem dX7_nearestTo_20 : decode cX7_nearestTo 20 = .ok (.bipush 96, 2) := by decide +kernel
theorem dX7_nearestTo_22 : decode cX7_nearestTo 22 = .ok (.if_icmp .ge 17, 3) := by decide +kernel
theorem dX7_nearestTo_25 : decode cX7_nearestTo 25 = .ok (.aload_n 0, 1) := by decide +kernel
theorem dX7_nearestTo_26 : decode cX7_nearestTo 26 = .ok (.getfield 38, 3) := by decide +kernel
theorem dX7_nearestTo_29 : decode cX7_nearestTo 29 = .ok (.iload_n 3, 1) := by decide +kernel
theorem dX7_nearestTo_30 : decode cX7_nearestTo 30 = .ok (.bipush 96, 2) := by decide +kernel
theorem dX7_nearestTo_32 : decode cX7_nearestTo 32 = .ok (.imul, 1) := by decide +kernel
theorem dX7_nearestTo_33 : decode cX7_nearestTo 33 = .ok (.iload_n 2, 1) := by decide +kernel
theorem dX7_nearestTo_34 : decode cX7_nearestTo 34 = .ok (.iadd, 1) := by decide +kernel
theorem dX7_nearestTo_35 : decode cX7_nearestTo 35 = .ok (.iaload, 1) := by decide +kernel
theorem dX7_nearestTo_36 : decode cX7_nearestTo 36 = .ok (.goto 4, 3) := by decide +kernel
theorem dX7_nearestTo_39 : decode cX7_nearestTo 39 = .ok (.iconst (-1), 1) := by decide +kernel
theorem dX7_nearestTo_40 : decode cX7_nearestTo 40 = .ok (.ireturn, 1) := by decide +kernel
theorem rs_RX5_79 : mx_res RX5 79 = some (1, 149, 3) := by decide +kernel
theorem rs_RX5_149 : mx_res RX5 149 = some (1, 151, 1) := by decide +kernel
theorem rs_RX5_226 : mx_res RX5 226 = some (1, 163, 1) := by decide +kernel
theorem rs_RX5_246 : mx_res RX5 246 = some (1, 218, 2) := by decide +kernel
theorem mt_X5_stepCall : mx_mt 170 = some (yX5_stepCall, cX5_stepCall, 8, none) := rfl
theorem dX5_stepCall_0 : decode cX5_stepCall 0 = .ok (.aload_n 0, 1) := by decide +kernel
theorem dX5_stepCall_1 : decode cX5_stepCall 1 = .ok (.iload_n 2, 1) := by decide +kernel
theorem dX5_stepCall_2 : decode cX5_stepCall 2 = .ok (.invokevirtual 149, 3) := by decide +kernel
theorem dX5_stepCall_5 : decode cX5_stepCall 5 = .ok (.istore_n 3, 1) := by decide +kernel
theorem dX5_stepCall_6 : decode cX5_stepCall 6 = .ok (.aload_n 0, 1) := by decide +kernel
theorem dX5_stepCall_7 : decode cX5_stepCall 7 = .ok (.getfield 41, 3) := by decide +kernel
theorem dX5_stepCall_10 : decode cX5_stepCall 10 = .ok (.iload_n 3, 1) := by decide +kernel
theorem dX5_stepCall_11 : decode cX5_stepCall 11 = .ok (.invokevirtual 120, 3) := by decide +kernel
theorem dX5_stepCall_14 : decode cX5_stepCall 14 = .ok (.astore 4, 2) := by decide +kernel
theorem dX5_stepCall_16 : decode cX5_stepCall 16 = .ok (.aload 4, 2) := by decide +kernel
theorem dX5_stepCall_18 : decode cX5_stepCall 18 = .ok (.ifnonnull 10, 3) := by decide +kernel
theorem dX5_stepCall_21 : decode cX5_stepCall 21 = .ok (.aload_n 0, 1) := by decide +kernel
theorem dX5_stepCall_22 : decode cX5_stepCall 22 = .ok (.bipush 6, 2) := by decide +kernel
theorem dX5_stepCall_24 : decode cX5_stepCall 24 = .ok (.putfield 54, 3) := by decide +kernel
theorem dX5_stepCall_27 : decode cX5_stepCall 27 = .ok (.return_, 1) := by decide +kernel
theorem dX5_stepCall_28 : decode cX5_stepCall 28 = .ok (.aload 4, 2) := by decide +kernel
theorem dX5_stepCall_30 : decode cX5_stepCall 30 = .ok (.iload_n 3, 1) := by decide +kernel
theorem dX5_stepCall_31 : decode cX5_stepCall 31 = .ok (.bipush 12, 2) := by decide +kernel
theorem dX5_stepCall_33 : decode cX5_stepCall 33 = .ok (.irem, 1) := by decide +kernel
theorem dX5_stepCall_34 : decode cX5_stepCall 34 = .ok (.bipush 11, 2) := by decide +kernel
theorem dX5_stepCall_36 : decode cX5_stepCall 36 = .ok (.invokevirtual 126, 3) := by decide +kernel
theorem dX5_stepCall_39 : decode cX5_stepCall 39 = .ok (.iload_n 1, 1) := by decide +kernel
theorem dX5_stepCall_40 : decode cX5_stepCall 40 = .ok (.sipush 182, 3) := by decide +kernel
theorem dX5_stepCall_43 : decode cX5_stepCall 43 = .ok (.if_icmp .ne 7, 3) := by decide +kernel
theorem dX5_stepCall_46 : decode cX5_stepCall 46 = .ok (.iconst 1, 1) := by decide +kernel
theorem dX5_stepCall_47 : decode cX5_stepCall 47 = .ok (.goto 4, 3) := by decide +kernel
theorem dX5_stepCall_50 : decode cX5_stepCall 50 = .ok (.iconst 0, 1) := by decide +kernel
theorem dX5_stepCall_51 : decode cX5_stepCall 51 = .ok (.iadd, 1) := by decide +kernel
theorem dX5_stepCall_52 : decode cX5_stepCall 52 = .ok (.istore 5, 2) := by decide +kernel
theorem dX5_stepCall_54 : decode cX5_stepCall 54 = .ok (.aload_n 0, 1) := by decide +kernel
theorem dX5_stepCall_55 : decode cX5_stepCall 55 = .ok (.getfield 32, 3) := by decide +kernel
theorem dX5_stepCall_58 : decode cX5_stepCall 58 = .ok (.aload_n 0, 1) := by decide +kernel
theorem dX5_stepCall_59 : decode cX5_stepCall 59 = .ok (.getfield 97, 3) := by decide +kernel
theorem dX5_stepCall_62 : decode cX5_stepCall 62 = .ok (.iaload, 1) := by decide +kernel
theorem dX5_stepCall_63 : decode cX5_stepCall 63 = .ok (.iload 5, 2) := by decide +kernel
theorem dX5_stepCall_65 : decode cX5_stepCall 65 = .ok (.isub, 1) := by decide +kernel
theorem dX5_stepCall_66 : decode cX5_stepCall 66 = .ok (.istore 6, 2) := by decide +kernel
theorem dX5_stepCall_68 : decode cX5_stepCall 68 = .ok (.iload 6, 2) := by decide +kernel
theorem dX5_stepCall_70 : decode cX5_stepCall 70 = .ok (.ifCond .ge 10, 3) := by decide +kernel
theorem dX5_stepCall_73 : decode cX5_stepCall 73 = .ok (.aload_n 0, 1) := by decide +kernel
theorem dX5_stepCall_74 : decode cX5_stepCall 74 = .ok (.bipush 6, 2) := by decide +kernel
theorem dX5_stepCall_76 : decode cX5_stepCall 76 = .ok (.putfield 54, 3) := by decide +kernel
theorem dX5_stepCall_79 : decode cX5_stepCall 79 = .ok (.return_, 1) := by decide +kernel
theorem dX5_stepCall_80 : decode cX5_stepCall 80 = .ok (.iload_n 1, 1) := by decide +kernel
theorem dX5_stepCall_81 : decode cX5_stepCall 81 = .ok (.sipush 182, 3) := by decide +kernel
theorem dX5_stepCall_84 : decode cX5_stepCall 84 = .ok (.if_icmp .ne 52, 3) := by decide +kernel
theorem dX5_stepCall_87 : decode cX5_stepCall 87 = .ok (.aload_n 0, 1) := by decide +kernel
theorem dX5_stepCall_88 : decode cX5_stepCall 88 = .ok (.getfield 38, 3) := by decide +kernel
theorem dX5_stepCall_91 : decode cX5_stepCall 91 = .ok (.aload_n 0, 1) := by decide +kernel
theorem dX5_stepCall_92 : decode cX5_stepCall 92 = .ok (.getfield 97, 3) := by decide +kernel
theorem dX5_stepCall_95 : decode cX5_stepCall 95 = .ok (.bipush 30, 2) := by decide +kernel
theorem dX5_stepCall_97 : decode cX5_stepCall 97 = .ok (.imul, 1) := by decide +kernel
theorem dX5_stepCall_98 : decode cX5_stepCall 98 = .ok (.iload 6, 2) := by decide +kernel
theorem dX5_stepCall_100 : decode cX5_stepCall 100 = .ok (.iadd, 1) := by decide +kernel
theorem dX5_stepCall_101 : decode cX5_stepCall 101 = .ok (.iaload, 1) := by decide +kernel
theorem dX5_stepCall_102 : decode cX5_stepCall 102 = .ok (.istore 7, 2) := by decide +kernel
theorem dX5_stepCall_104 : decode cX5_stepCall 104 = .ok (.aload_n 0, 1) := by decide +kernel
theorem dX5_stepCall_105 : decode cX5_stepCall 105 = .ok (.iload 7, 2) := by decide +kernel
theorem dX5_stepCall_107 : decode cX5_stepCall 107 = .ok (.invokevirtual 226, 3) := by decide +kernel
theorem dX5_stepCall_110 : decode cX5_stepCall 110 = .ok (.ifCond .ne 10, 3) := by decide +kernel
theorem dX5_stepCall_113 : decode cX5_stepCall 113 = .ok (.aload_n 0, 1) := by decide +kernel
theorem dX5_stepCall_114 : decode cX5_stepCall 114 = .ok (.bipush (-2), 2) := by decide +kernel
theorem dX5_stepCall_116 : decode cX5_stepCall 116 = .ok (.putfield 86, 3) := by decide +kernel
theorem dX5_stepCall_119 : decode cX5_stepCall 119 = .ok (.return_, 1) := by decide +kernel
theorem dX5_stepCall_120 : decode cX5_stepCall 120 = .ok (.aload_n 0, 1) := by decide +kernel
theorem dX5_stepCall_121 : decode cX5_stepCall 121 = .ok (.getfield 41, 3) := by decide +kernel
theorem dX5_stepCall_124 : decode cX5_stepCall 124 = .ok (.aload_n 0, 1) := by decide +kernel
theorem dX5_stepCall_125 : decode cX5_stepCall 125 = .ok (.getfield 17, 3) := by decide +kernel
theorem dX5_stepCall_128 : decode cX5_stepCall 128 = .ok (.iload 7, 2) := by decide +kernel
theorem dX5_stepCall_130 : decode cX5_stepCall 130 = .ok (.iaload, 1) := by decide +kernel
theorem dX5_stepCall_131 : decode cX5_stepCall 131 = .ok (.iload_n 3, 1) := by decide +kernel
theorem dX5_stepCall_132 : decode cX5_stepCall 132 = .ok (.invokevirtual 246, 3) := by decide +kernel
theorem dX5_stepCall_135 : decode cX5_stepCall 135 = .ok (.istore_n 3, 1) := by decide +kernel
theorem dX5_stepCall_136 : decode cX5_stepCall 136 = .ok (.aload_n 0, 1) := by decide +kernel
theorem dX5_stepCall_137 : decode cX5_stepCall 137 = .ok (.getfield 32, 3) := by decide +kernel
theorem dX5_stepCall_140 : decode cX5_stepCall 140 = .ok (.aload_n 0, 1) := by decide +kernel
theorem dX5_stepCall_141 : decode cX5_stepCall 141 = .ok (.getfield 97, 3) := by decide +kernel
theorem dX5_stepCall_144 : decode cX5_stepCall 144 = .ok (.iload 6, 2) := by decide +kernel
theorem dX5_stepCall_146 : decode cX5_stepCall 146 = .ok (.iastore, 1) := by decide +kernel
theorem dX5_stepCall_147 : decode cX5_stepCall 147 = .ok (.aload_n 0, 1) := by decide +kernel
theorem dX5_stepCall_148 : decode cX5_stepCall 148 = .ok (.iload_n 3, 1) := by decide +kernel
theorem dX5_stepCall_149 : decode cX5_stepCall 149 = .ok (.aload_n 0, 1) := by decide +kernel
theorem dX5_stepCall_150 : decode cX5_stepCall 150 = .ok (.getfield 97, 3) := by decide +kernel
theorem dX5_stepCall_153 : decode cX5_stepCall 153 = .ok (.bipush 30, 2) := by decide +kernel
theorem dX5_stepCall_155 : decode cX5_stepCall 155 = .ok (.imul, 1) := by decide +kernel
theorem dX5_stepCall_156 : decode cX5_stepCall 156 = .ok (.iload 6, 2) := by decide +kernel
theorem dX5_stepCall_158 : decode cX5_stepCall 158 = .ok (.iadd, 1) := by decide +kernel
theorem dX5_stepCall_159 : decode cX5_stepCall 159 = .ok (.iload 5, 2) := by decide +kernel
theorem dX5_stepCall_161 : decode cX5_stepCall 161 = .ok (.invokevirtual 79, 3) := by decide +kernel
theorem dX5_stepCall_164 : decode cX5_stepCall 164 = .ok (.return_, 1) := by decide +kernel
theorem mt_X5_cellOf : mx_mt 164 = some (yX5_cellOf, cX5_cellOf, 3, (some .int)) := rfl
theorem dX5_cellOf_0 : decode cX5_cellOf 0 = .ok (.aload_n 0, 1) := by decide +kernel
theorem dX5_cellOf_1 : decode cX5_cellOf 1 = .ok (.iload_n 1, 1) := by decide +kernel
theorem dX5_cellOf_2 : decode cX5_cellOf 2 = .ok (.invokevirtual 226, 3) := by decide +kernel
theorem dX5_cellOf_5 : decode cX5_cellOf 5 = .ok (.ifCond .ne 11, 3) := by decide +kernel
theorem dX5_cellOf_8 : decode cX5_cellOf 8 = .ok (.aload_n 0, 1) := by decide +kernel
theorem dX5_cellOf_9 : decode cX5_cellOf 9 = .ok (.bipush (-2), 2) := by decide +kernel
theorem dX5_cellOf_11 : decode cX5_cellOf 11 = .ok (.putfield 86, 3) := by decide +kernel
theorem dX5_cellOf_14 : decode cX5_cellOf 14 = .ok (.iconst (-1), 1) := by decide +kernel
theorem dX5_cellOf_15 : decode cX5_cellOf 15 = .ok (.ireturn, 1) := by decide +kernel
theorem dX5_cellOf_16 : decode cX5_cellOf 16 = .ok (.iload_n 2, 1) := by decide +kernel
theorem dX5_cellOf_17 : decode cX5_cellOf 17 = .ok (.ifCond .lt 22, 3) := by decide +kernel
theorem dX5_cellOf_20 : decode cX5_cellOf 20 = .ok (.iload_n 2, 1) := by decide +kernel
theorem dX5_cellOf_21 : decode cX5_cellOf 21 = .ok (.aload_n 0, 1) := by decide +kernel
theorem dX5_cellOf_22 : decode cX5_cellOf 22 = .ok (.getfield 20, 3) := by decide +kernel
theorem dX5_cellOf_25 : decode cX5_cellOf 25 = .ok (.iload_n 1, 1) := by decide +kernel
theorem dX5_cellOf_26 : decode cX5_cellOf 26 = .ok (.iconst 1, 1) := by decide +kernel
theorem dX5_cellOf_27 : decode cX5_cellOf 27 = .ok (.iadd, 1) := by decide +kernel
theorem dX5_cellOf_28 : decode cX5_cellOf 28 = .ok (.iaload, 1) := by decide +kernel
theorem dX5_cellOf_29 : decode cX5_cellOf 29 = .ok (.aload_n 0, 1) := by decide +kernel
theorem dX5_cellOf_30 : decode cX5_cellOf 30 = .ok (.getfield 20, 3) := by decide +kernel
theorem dX5_cellOf_33 : decode cX5_cellOf 33 = .ok (.iload_n 1, 1) := by decide +kernel
theorem dX5_cellOf_34 : decode cX5_cellOf 34 = .ok (.iaload, 1) := by decide +kernel
theorem dX5_cellOf_35 : decode cX5_cellOf 35 = .ok (.isub, 1) := by decide +kernel
theorem dX5_cellOf_36 : decode cX5_cellOf 36 = .ok (.if_icmp .lt 11, 3) := by decide +kernel
theorem dX5_cellOf_39 : decode cX5_cellOf 39 = .ok (.aload_n 0, 1) := by decide +kernel
theorem dX5_cellOf_40 : decode cX5_cellOf 40 = .ok (.bipush (-3), 2) := by decide +kernel
theorem dX5_cellOf_42 : decode cX5_cellOf 42 = .ok (.putfield 86, 3) := by decide +kernel
theorem dX5_cellOf_45 : decode cX5_cellOf 45 = .ok (.iconst (-1), 1) := by decide +kernel
theorem dX5_cellOf_46 : decode cX5_cellOf 46 = .ok (.ireturn, 1) := by decide +kernel
theorem dX5_cellOf_47 : decode cX5_cellOf 47 = .ok (.aload_n 0, 1) := by decide +kernel
theorem dX5_cellOf_48 : decode cX5_cellOf 48 = .ok (.getfield 20, 3) := by decide +kernel
theorem dX5_cellOf_51 : decode cX5_cellOf 51 = .ok (.iload_n 1, 1) := by decide +kernel
theorem dX5_cellOf_52 : decode cX5_cellOf 52 = .ok (.iaload, 1) := by decide +kernel
theorem dX5_cellOf_53 : decode cX5_cellOf 53 = .ok (.iload_n 2, 1) := by decide +kernel
theorem dX5_cellOf_54 : decode cX5_cellOf 54 = .ok (.iadd, 1) := by decide +kernel
theorem dX5_cellOf_55 : decode cX5_cellOf 55 = .ok (.ireturn, 1) := by decide +kernel
theorem rs_RX5_229 : mx_res RX5 229 = some (1, 164, 2) := by decide +kernel
theorem mt_X5_stepElement : mx_mt 165 = some (yX5_stepElement, cX5_stepElement, 4, none) := rfl
theorem dX5_stepElement_0 : decode cX5_stepElement 0 = .ok (.aload_n 0, 1) := by decide +kernel
theorem dX5_stepElement_1 : decode cX5_stepElement 1 = .ok (.invokevirtual 154, 3) := by decide +kernel
theorem dX5_stepElement_4 : decode cX5_stepElement 4 = .ok (.istore_n 1, 1) := by decide +kernel
theorem dX5_stepElement_5 : decode cX5_stepElement 5 = .ok (.aload_n 0, 1) := by decide +kernel
theorem dX5_stepElement_6 : decode cX5_stepElement 6 = .ok (.invokevirtual 154, 3) := by decide +kernel
theorem dX5_stepElement_9 : decode cX5_stepElement 9 = .ok (.istore_n 2, 1) := by decide +kernel
theorem dX5_stepElement_10 : decode cX5_stepElement 10 = .ok (.aload_n 0, 1) := by decide +kernel
theorem dX5_stepElement_11 : decode cX5_stepElement 11 = .ok (.iload_n 2, 1) := by decide +kernel
theorem dX5_stepElement_12 : decode cX5_stepElement 12 = .ok (.iload_n 1, 1) := by decide +kernel
theorem dX5_stepElement_13 : decode cX5_stepElement 13 = .ok (.invokevirtual 229, 3) := by decide +kernel
theorem dX5_stepElement_16 : decode cX5_stepElement 16 = .ok (.istore_n 3, 1) := by decide +kernel
theorem dX5_stepElement_17 : decode cX5_stepElement 17 = .ok (.iload_n 3, 1) := by decide +kernel
theorem dX5_stepElement_18 : decode cX5_stepElement 18 = .ok (.ifCond .lt 21, 3) := by decide +kernel
theorem dX5_stepElement_21 : decode cX5_stepElement 21 = .ok (.iload_n 3, 1) := by decide +kernel
theorem dX5_stepElement_22 : decode cX5_stepElement 22 = .ok (.sipush 20000, 3) := by decide +kernel
theorem dX5_stepElement_25 : decode cX5_stepElement 25 = .ok (.if_icmp .ge 14, 3) := by decide +kernel
theorem dX5_stepElement_28 : decode cX5_stepElement 28 = .ok (.aload_n 0, 1) := by decide +kernel
theorem dX5_stepElement_29 : decode cX5_stepElement 29 = .ok (.aload_n 0, 1) := by decide +kernel
theorem dX5_stepElement_30 : decode cX5_stepElement 30 = .ok (.getfield 23, 3) := by decide +kernel
theorem dX5_stepElement_33 : decode cX5_stepElement 33 = .ok (.iload_n 3, 1) := by decide +kernel
theorem dX5_stepElement_34 : decode cX5_stepElement 34 = .ok (.iaload, 1) := by decide +kernel
theorem dX5_stepElement_35 : decode cX5_stepElement 35 = .ok (.iconst 1, 1) := by decide +kernel
theorem dX5_stepElement_36 : decode cX5_stepElement 36 = .ok (.invokevirtual 145, 3) := by decide +kernel
theorem dX5_stepElement_39 : decode cX5_stepElement 39 = .ok (.return_, 1) := by decide +kernel
theorem mt_X5_fieldCell : mx_mt 167 = some (yX5_fieldCell, cX5_fieldCell, 4, (some .int)) := rfl
theorem dX5_fieldCell_0 : decode cX5_fieldCell 0 = .ok (.aload_n 0, 1) := by decide +kernel
theorem dX5_fieldCell_1 : decode cX5_fieldCell 1 = .ok (.iload_n 1, 1) := by decide +kernel
theorem dX5_fieldCell_2 : decode cX5_fieldCell 2 = .ok (.invokevirtual 226, 3) := by decide +kernel
theorem dX5_fieldCell_5 : decode cX5_fieldCell 5 = .ok (.ifCond .eq 14, 3) := by decide +kernel
theorem dX5_fieldCell_8 : decode cX5_fieldCell 8 = .ok (.aload_n 0, 1) := by decide +kernel
theorem dX5_fieldCell_9 : decode cX5_fieldCell 9 = .ok (.getfield 20, 3) := by decide +kernel
theorem dX5_fieldCell_12 : decode cX5_fieldCell 12 = .ok (.iload_n 1, 1) := by decide +kernel
theorem dX5_fieldCell_13 : decode cX5_fieldCell 13 = .ok (.iaload, 1) := by decide +kernel
theorem dX5_fieldCell_14 : decode cX5_fieldCell 14 = .ok (.iload_n 2, 1) := by decide +kernel
theorem dX5_fieldCell_15 : decode cX5_fieldCell 15 = .ok (.iadd, 1) := by decide +kernel
theorem dX5_fieldCell_16 : decode cX5_fieldCell 16 = .ok (.goto 4, 3) := by decide +kernel
theorem dX5_fieldCell_19 : decode cX5_fieldCell 19 = .ok (.iconst (-1), 1) := by decide +kernel
theorem dX5_fieldCell_20 : decode cX5_fieldCell 20 = .ok (.istore_n 3, 1) := by decide +kernel
theorem dX5_fieldCell_21 : decode cX5_fieldCell 21 = .ok (.iload_n 2, 1) := by decide +kernel
theorem dX5_fieldCell_22 : decode cX5_fieldCell 22 = .ok (.ifCond .lt 14, 3) := by decide +kernel
theorem dX5_fieldCell_25 : decode cX5_fieldCell 25 = .ok (.iload_n 3, 1) := by decide +kernel
theorem dX5_fieldCell_26 : decode cX5_fieldCell 26 = .ok (.sipush 20000, 3) := by decide +kernel
theorem dX5_fieldCell_29 : decode cX5_fieldCell 29 = .ok (.if_icmp .ge 7, 3) := by decide +kernel
theorem dX5_fieldCell_32 : decode cX5_fieldCell 32 = .ok (.iload_n 3, 1) := by decide +kernel
theorem dX5_fieldCell_33 : decode cX5_fieldCell 33 = .ok (.goto 4, 3) := by decide +kernel
theorem dX5_fieldCell_36 : decode cX5_fieldCell 36 = .ok (.iconst (-1), 1) := by decide +kernel
theorem dX5_fieldCell_37 : decode cX5_fieldCell 37 = .ok (.ireturn, 1) := by decide +kernel
theorem rs_RX5_243 : mx_res RX5 243 = some (1, 167, 2) := by decide +kernel
theorem mt_X5_stepField : mx_mt 168 = some (yX5_stepField, cX5_stepField, 4, none) := rfl
theorem dX5_stepField_0 : decode cX5_stepField 0 = .ok (.aload_n 0, 1) := by decide +kernel
theorem dX5_stepField_1 : decode cX5_stepField 1 = .ok (.invokevirtual 154, 3) := by decide +kernel
theorem dX5_stepField_4 : decode cX5_stepField 4 = .ok (.istore_n 2, 1) := by decide +kernel
theorem dX5_stepField_5 : decode cX5_stepField 5 = .ok (.aload_n 0, 1) := by decide +kernel
theorem dX5_stepField_6 : decode cX5_stepField 6 = .ok (.iload_n 2, 1) := by decide +kernel
theorem dX5_stepField_7 : decode cX5_stepField 7 = .ok (.aload_n 0, 1) := by decide +kernel
theorem dX5_stepField_8 : decode cX5_stepField 8 = .ok (.iload_n 1, 1) := by decide +kernel
theorem dX5_stepField_9 : decode cX5_stepField 9 = .ok (.invokevirtual 149, 3) := by decide +kernel
theorem dX5_stepField_12 : decode cX5_stepField 12 = .ok (.invokevirtual 243, 3) := by decide +kernel
theorem dX5_stepField_15 : decode cX5_stepField 15 = .ok (.istore_n 3, 1) := by decide +kernel
theorem dX5_stepField_16 : decode cX5_stepField 16 = .ok (.iload_n 3, 1) := by decide +kernel
theorem dX5_stepField_17 : decode cX5_stepField 17 = .ok (.iconst (-1), 1) := by decide +kernel
theorem dX5_stepField_18 : decode cX5_stepField 18 = .ok (.if_icmp .ne 12, 3) := by decide +kernel
theorem dX5_stepField_21 : decode cX5_stepField 21 = .ok (.aload_n 0, 1) := by decide +kernel
theorem dX5_stepField_22 : decode cX5_stepField 22 = .ok (.bipush (-2), 2) := by decide +kernel
theorem dX5_stepField_24 : decode cX5_stepField 24 = .ok (.putfield 86, 3) := by decide +kernel
theorem dX5_stepField_27 : decode cX5_stepField 27 = .ok (.goto 14, 3) := by decide +kernel
theorem dX5_stepField_30 : decode cX5_stepField 30 = .ok (.aload_n 0, 1) := by decide +kernel
theorem dX5_stepField_31 : decode cX5_stepField 31 = .ok (.aload_n 0, 1) := by decide +kernel
theorem dX5_stepField_32 : decode cX5_stepField 32 = .ok (.getfield 23, 3) := by decide +kernel
theorem dX5_stepField_35 : decode cX5_stepField 35 = .ok (.iload_n 3, 1) := by decide +kernel
theorem dX5_stepField_36 : decode cX5_stepField 36 = .ok (.iaload, 1) := by decide +kernel
theorem dX5_stepField_37 : decode cX5_stepField 37 = .ok (.iconst 2, 1) := by decide +kernel
theorem dX5_stepField_38 : decode cX5_stepField 38 = .ok (.invokevirtual 145, 3) := by decide +kernel
theorem dX5_stepField_41 : decode cX5_stepField 41 = .ok (.return_, 1) := by decide +kernel
theorem rs_RX5_232 : mx_res RX5 232 = some (0, 7, 0) := by decide +kernel
theorem rs_RX5_236 : mx_res RX5 236 = some (2, 138, 1) := by decide +kernel
theorem rs_RX5_239 : mx_res RX5 239 = some (1, 139, 2) := by decide +kernel
theorem mt_X5_stepGiveElement : mx_mt 166 = some (yX5_stepGiveElement, cX5_stepGiveElement, 6, none) := rfl
theorem dX5_stepGiveElement_0 : decode cX5_stepGiveElement 0 = .ok (.aload_n 0, 1) := by decide +kernel
theorem dX5_stepGiveElement_1 : decode cX5_stepGiveElement 1 = .ok (.invokevirtual 154, 3) := by decide +kernel
theorem dX5_stepGiveElement_4 : decode cX5_stepGiveElement 4 = .ok (.istore_n 2, 1) := by decide +kernel
theorem dX5_stepGiveElement_5 : decode cX5_stepGiveElement 5 = .ok (.aload_n 0, 1) := by decide +kernel
theorem dX5_stepGiveElement_6 : decode cX5_stepGiveElement 6 = .ok (.invokevirtual 154, 3) := by decide +kernel
theorem dX5_stepGiveElement_9 : decode cX5_stepGiveElement 9 = .ok (.istore_n 3, 1) := by decide +kernel
theorem dX5_stepGiveElement_10 : decode cX5_stepGiveElement 10 = .ok (.aload_n 0, 1) := by decide +kernel
theorem dX5_stepGiveElement_11 : decode cX5_stepGiveElement 11 = .ok (.invokevirtual 154, 3) := by decide +kernel
theorem dX5_stepGiveElement_14 : decode cX5_stepGiveElement 14 = .ok (.istore 4, 2) := by decide +kernel
theorem dX5_stepGiveElement_16 : decode cX5_stepGiveElement 16 = .ok (.aload_n 0, 1) := by decide +kernel
theorem dX5_stepGiveElement_17 : decode cX5_stepGiveElement 17 = .ok (.iload 4, 2) := by decide +kernel
theorem dX5_stepGiveElement_19 : decode cX5_stepGiveElement 19 = .ok (.iload_n 3, 1) := by decide +kernel
theorem dX5_stepGiveElement_20 : decode cX5_stepGiveElement 20 = .ok (.invokevirtual 229, 3) := by decide +kernel
theorem dX5_stepGiveElement_23 : decode cX5_stepGiveElement 23 = .ok (.istore 5, 2) := by decide +kernel
theorem dX5_stepGiveElement_25 : decode cX5_stepGiveElement 25 = .ok (.iload 5, 2) := by decide +kernel
theorem dX5_stepGiveElement_27 : decode cX5_stepGiveElement 27 = .ok (.ifCond .lt 11, 3) := by decide +kernel
theorem dX5_stepGiveElement_30 : decode cX5_stepGiveElement 30 = .ok (.iload 5, 2) := by decide +kernel
theorem dX5_stepGiveElement_32 : decode cX5_stepGiveElement 32 = .ok (.sipush 20000, 3) := by decide +kernel
theorem dX5_stepGiveElement_35 : decode cX5_stepGiveElement 35 = .ok (.if_icmp .lt 4, 3) := by decide +kernel
theorem dX5_stepGiveElement_38 : decode cX5_stepGiveElement 38 = .ok (.return_, 1) := by decide +kernel
theorem dX5_stepGiveElement_39 : decode cX5_stepGiveElement 39 = .ok (.iload_n 1, 1) := by decide +kernel
theorem dX5_stepGiveElement_40 : decode cX5_stepGiveElement 40 = .ok (.bipush 83, 2) := by decide +kernel
theorem dX5_stepGiveElement_42 : decode cX5_stepGiveElement 42 = .ok (.if_icmp .ne 47, 3) := by decide +kernel
theorem dX5_stepGiveElement_45 : decode cX5_stepGiveElement 45 = .ok (.aload_n 0, 1) := by decide +kernel
theorem dX5_stepGiveElement_46 : decode cX5_stepGiveElement 46 = .ok (.iload_n 2, 1) := by decide +kernel
theorem dX5_stepGiveElement_47 : decode cX5_stepGiveElement 47 = .ok (.invokevirtual 226, 3) := by decide +kernel
theorem dX5_stepGiveElement_50 : decode cX5_stepGiveElement 50 = .ok (.ifCond .eq 39, 3) := by decide +kernel
theorem dX5_stepGiveElement_53 : decode cX5_stepGiveElement 53 = .ok (.aload_n 0, 1) := by decide +kernel
theorem dX5_stepGiveElement_54 : decode cX5_stepGiveElement 54 = .ok (.getfield 41, 3) := by decide +kernel
theorem dX5_stepGiveElement_57 : decode cX5_stepGiveElement 57 = .ok (.getfield 232, 3) := by decide +kernel
theorem dX5_stepGiveElement_60 : decode cX5_stepGiveElement 60 = .ok (.aload_n 0, 1) := by decide +kernel
theorem dX5_stepGiveElement_61 : decode cX5_stepGiveElement 61 = .ok (.getfield 17, 3) := by decide +kernel
theorem dX5_stepGiveElement_64 : decode cX5_stepGiveElement 64 = .ok (.iload_n 2, 1) := by decide +kernel
theorem dX5_stepGiveElement_65 : decode cX5_stepGiveElement 65 = .ok (.iaload, 1) := by decide +kernel
theorem dX5_stepGiveElement_66 : decode cX5_stepGiveElement 66 = .ok (.aload_n 0, 1) := by decide +kernel
theorem dX5_stepGiveElement_67 : decode cX5_stepGiveElement 67 = .ok (.getfield 17, 3) := by decide +kernel
theorem dX5_stepGiveElement_70 : decode cX5_stepGiveElement 70 = .ok (.iload 4, 2) := by decide +kernel
theorem dX5_stepGiveElement_72 : decode cX5_stepGiveElement 72 = .ok (.iaload, 1) := by decide +kernel
theorem dX5_stepGiveElement_73 : decode cX5_stepGiveElement 73 = .ok (.invokestatic 236, 3) := by decide +kernel
theorem dX5_stepGiveElement_76 : decode cX5_stepGiveElement 76 = .ok (.invokevirtual 239, 3) := by decide +kernel
theorem dX5_stepGiveElement_79 : decode cX5_stepGiveElement 79 = .ok (.ifCond .ne 10, 3) := by decide +kernel
theorem dX5_stepGiveElement_82 : decode cX5_stepGiveElement 82 = .ok (.aload_n 0, 1) := by decide +kernel
theorem dX5_stepGiveElement_83 : decode cX5_stepGiveElement 83 = .ok (.bipush (-7), 2) := by decide +kernel
theorem dX5_stepGiveElement_85 : decode cX5_stepGiveElement 85 = .ok (.putfield 86, 3) := by decide +kernel
theorem dX5_stepGiveElement_88 : decode cX5_stepGiveElement 88 = .ok (.return_, 1) := by decide +kernel
theorem dX5_stepGiveElement_89 : decode cX5_stepGiveElement 89 = .ok (.aload_n 0, 1) := by decide +kernel
theorem dX5_stepGiveElement_90 : decode cX5_stepGiveElement 90 = .ok (.getfield 23, 3) := by decide +kernel
theorem dX5_stepGiveElement_93 : decode cX5_stepGiveElement 93 = .ok (.iload 5, 2) := by decide +kernel
theorem dX5_stepGiveElement_95 : decode cX5_stepGiveElement 95 = .ok (.iload_n 2, 1) := by decide +kernel
theorem dX5_stepGiveElement_96 : decode cX5_stepGiveElement 96 = .ok (.iastore, 1) := by decide +kernel
theorem dX5_stepGiveElement_97 : decode cX5_stepGiveElement 97 = .ok (.aload_n 0, 1) := by decide +kernel
theorem dX5_stepGiveElement_98 : decode cX5_stepGiveElement 98 = .ok (.iconst 1, 1) := by decide +kernel
theorem dX5_stepGiveElement_99 : decode cX5_stepGiveElement 99 = .ok (.invokevirtual 138, 3) := by decide +kernel
theorem dX5_stepGiveElement_102 : decode cX5_stepGiveElement 102 = .ok (.return_, 1) := by decide +kernel
