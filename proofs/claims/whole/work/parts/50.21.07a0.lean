theorem rs_RX0_110 : mx_res RX0 110 = some (1, 31, 2) := by decide +kernel
theorem rs_RX0_226 : mx_res RX0 226 = some (1, 16, 1) := by decide +kernel
theorem rs_RX0_254 : mx_res RX0 254 = some (1, 65, 0) := by decide +kernel
theorem mt_X0_readVariable : mx_mt 20 = some (yX0_readVariable, cX0_readVariable, 4, (some .boolean)) := rfl
theorem dX0_readVariable_0 : decode cX0_readVariable 0 = .ok (.aload_n 0, 1) := by decide +kernel
theorem dX0_readVariable_1 : decode cX0_readVariable 1 = .ok (.getfield 38, 3) := by decide +kernel
theorem dX0_readVariable_4 : decode cX0_readVariable 4 = .ok (.invokevirtual 254, 3) := by decide +kernel
theorem dX0_readVariable_7 : decode cX0_readVariable 7 = .ok (.istore_n 2, 1) := by decide +kernel
theorem dX0_readVariable_8 : decode cX0_readVariable 8 = .ok (.aload_n 0, 1) := by decide +kernel
theorem dX0_readVariable_9 : decode cX0_readVariable 9 = .ok (.getfield 34, 3) := by decide +kernel
theorem dX0_readVariable_12 : decode cX0_readVariable 12 = .ok (.getfield 138, 3) := by decide +kernel
theorem dX0_readVariable_15 : decode cX0_readVariable 15 = .ok (.istore_n 3, 1) := by decide +kernel
theorem dX0_readVariable_16 : decode cX0_readVariable 16 = .ok (.aload_n 0, 1) := by decide +kernel
theorem dX0_readVariable_17 : decode cX0_readVariable 17 = .ok (.iload_n 3, 1) := by decide +kernel
theorem dX0_readVariable_18 : decode cX0_readVariable 18 = .ok (.invokevirtual 226, 3) := by decide +kernel
theorem dX0_readVariable_21 : decode cX0_readVariable 21 = .ok (.aload_n 0, 1) := by decide +kernel
theorem dX0_readVariable_22 : decode cX0_readVariable 22 = .ok (.getfield 34, 3) := by decide +kernel
theorem dX0_readVariable_25 : decode cX0_readVariable 25 = .ok (.iload_n 3, 1) := by decide +kernel
theorem dX0_readVariable_26 : decode cX0_readVariable 26 = .ok (.iconst 2, 1) := by decide +kernel
theorem dX0_readVariable_27 : decode cX0_readVariable 27 = .ok (.iadd, 1) := by decide +kernel
theorem dX0_readVariable_28 : decode cX0_readVariable 28 = .ok (.putfield 138, 3) := by decide +kernel
theorem dX0_readVariable_31 : decode cX0_readVariable 31 = .ok (.aload_n 0, 1) := by decide +kernel
theorem dX0_readVariable_32 : decode cX0_readVariable 32 = .ok (.getfield 61, 3) := by decide +kernel
theorem dX0_readVariable_35 : decode cX0_readVariable 35 = .ok (.iload_n 1, 1) := by decide +kernel
theorem dX0_readVariable_36 : decode cX0_readVariable 36 = .ok (.invokevirtual 242, 3) := by decide +kernel
theorem dX0_readVariable_39 : decode cX0_readVariable 39 = .ok (.aload_n 0, 1) := by decide +kernel
theorem dX0_readVariable_40 : decode cX0_readVariable 40 = .ok (.getfield 46, 3) := by decide +kernel
theorem dX0_readVariable_43 : decode cX0_readVariable 43 = .ok (.aload_n 0, 1) := by decide +kernel
theorem dX0_readVariable_44 : decode cX0_readVariable 44 = .ok (.getfield 61, 3) := by decide +kernel
theorem dX0_readVariable_47 : decode cX0_readVariable 47 = .ok (.getfield 245, 3) := by decide +kernel
theorem dX0_readVariable_50 : decode cX0_readVariable 50 = .ok (.iload_n 2, 1) := by decide +kernel
theorem dX0_readVariable_51 : decode cX0_readVariable 51 = .ok (.invokevirtual 222, 3) := by decide +kernel
theorem dX0_readVariable_54 : decode cX0_readVariable 54 = .ok (.ifCond .ne 15, 3) := by decide +kernel
theorem dX0_readVariable_57 : decode cX0_readVariable 57 = .ok (.aload_n 0, 1) := by decide +kernel
theorem dX0_readVariable_58 : decode cX0_readVariable 58 = .ok (.getfield 34, 3) := by decide +kernel
theorem dX0_readVariable_61 : decode cX0_readVariable 61 = .ok (.bipush 6, 2) := by decide +kernel
theorem dX0_readVariable_63 : decode cX0_readVariable 63 = .ok (.iload_n 3, 1) := by decide +kernel
theorem dX0_readVariable_64 : decode cX0_readVariable 64 = .ok (.iconst 1, 1) := by decide +kernel
theorem dX0_readVariable_65 : decode cX0_readVariable 65 = .ok (.iadd, 1) := by decide +kernel
theorem dX0_readVariable_66 : decode cX0_readVariable 66 = .ok (.invokevirtual 69, 3) := by decide +kernel
theorem dX0_readVariable_69 : decode cX0_readVariable 69 = .ok (.aload_n 0, 1) := by decide +kernel
theorem dX0_readVariable_70 : decode cX0_readVariable 70 = .ok (.getfield 16, 3) := by decide +kernel
theorem dX0_readVariable_73 : decode cX0_readVariable 73 = .ok (.aload_n 0, 1) := by decide +kernel
theorem dX0_readVariable_74 : decode cX0_readVariable 74 = .ok (.getfield 16, 3) := by decide +kernel
theorem dX0_readVariable_77 : decode cX0_readVariable 77 = .ok (.aload_n 0, 1) := by decide +kernel
theorem dX0_readVariable_78 : decode cX0_readVariable 78 = .ok (.getfield 34, 3) := by decide +kernel
theorem dX0_readVariable_81 : decode cX0_readVariable 81 = .ok (.iload_n 3, 1) := by decide +kernel
theorem dX0_readVariable_82 : decode cX0_readVariable 82 = .ok (.invokevirtual 233, 3) := by decide +kernel
theorem dX0_readVariable_85 : decode cX0_readVariable 85 = .ok (.iload_n 2, 1) := by decide +kernel
theorem dX0_readVariable_86 : decode cX0_readVariable 86 = .ok (.invokevirtual 110, 3) := by decide +kernel
theorem dX0_readVariable_89 : decode cX0_readVariable 89 = .ok (.iload_n 2, 1) := by decide +kernel
theorem dX0_readVariable_90 : decode cX0_readVariable 90 = .ok (.invokevirtual 236, 3) := by decide +kernel
theorem dX0_readVariable_93 : decode cX0_readVariable 93 = .ok (.aload_n 0, 1) := by decide +kernel
theorem dX0_readVariable_94 : decode cX0_readVariable 94 = .ok (.getfield 34, 3) := by decide +kernel
theorem dX0_readVariable_97 : decode cX0_readVariable 97 = .ok (.dup, 1) := by decide +kernel
theorem dX0_readVariable_98 : decode cX0_readVariable 98 = .ok (.getfield 138, 3) := by decide +kernel
theorem dX0_readVariable_101 : decode cX0_readVariable 101 = .ok (.iconst 1, 1) := by decide +kernel
theorem dX0_readVariable_102 : decode cX0_readVariable 102 = .ok (.iadd, 1) := by decide +kernel
theorem dX0_readVariable_103 : decode cX0_readVariable 103 = .ok (.putfield 138, 3) := by decide +kernel
theorem dX0_readVariable_106 : decode cX0_readVariable 106 = .ok (.iconst 1, 1) := by decide +kernel
theorem dX0_readVariable_107 : decode cX0_readVariable 107 = .ok (.ireturn, 1) := by decide +kernel
theorem mt_X9_isWhileTrue : mx_mt 270 = some (yX9_isWhileTrue, cX9_isWhileTrue, 1, (some .boolean)) := rfl
theorem dX9_isWhileTrue_0 : decode cX9_isWhileTrue 0 = .ok (.aload_n 0, 1) := by decide +kernel
theorem dX9_isWhileTrue_1 : decode cX9_isWhileTrue 1 = .ok (.aload_n 0, 1) := by decide +kernel
theorem dX9_isWhileTrue_2 : decode cX9_isWhileTrue 2 = .ok (.getfield 86, 3) := by decide +kernel
theorem dX9_isWhileTrue_5 : decode cX9_isWhileTrue 5 = .ok (.iconst 1, 1) := by decide +kernel
theorem dX9_isWhileTrue_6 : decode cX9_isWhileTrue 6 = .ok (.iadd, 1) := by decide +kernel
theorem dX9_isWhileTrue_7 : decode cX9_isWhileTrue 7 = .ok (.invokevirtual 153, 3) := by decide +kernel
theorem dX9_isWhileTrue_10 : decode cX9_isWhileTrue 10 = .ok (.bipush 40, 2) := by decide +kernel
theorem dX9_isWhileTrue_12 : decode cX9_isWhileTrue 12 = .ok (.if_icmp .ne 37, 3) := by decide +kernel
theorem dX9_isWhileTrue_15 : decode cX9_isWhileTrue 15 = .ok (.aload_n 0, 1) := by decide +kernel
theorem dX9_isWhileTrue_16 : decode cX9_isWhileTrue 16 = .ok (.aload_n 0, 1) := by decide +kernel
theorem dX9_isWhileTrue_17 : decode cX9_isWhileTrue 17 = .ok (.getfield 86, 3) := by decide +kernel
theorem dX9_isWhileTrue_20 : decode cX9_isWhileTrue 20 = .ok (.iconst 2, 1) := by decide +kernel
theorem dX9_isWhileTrue_21 : decode cX9_isWhileTrue 21 = .ok (.iadd, 1) := by decide +kernel
theorem dX9_isWhileTrue_22 : decode cX9_isWhileTrue 22 = .ok (.invokevirtual 153, 3) := by decide +kernel
theorem dX9_isWhileTrue_25 : decode cX9_isWhileTrue 25 = .ok (.bipush 28, 2) := by decide +kernel
theorem dX9_isWhileTrue_27 : decode cX9_isWhileTrue 27 = .ok (.if_icmp .ne 22, 3) := by decide +kernel
theorem dX9_isWhileTrue_30 : decode cX9_isWhileTrue 30 = .ok (.aload_n 0, 1) := by decide +kernel
theorem dX9_isWhileTrue_31 : decode cX9_isWhileTrue 31 = .ok (.aload_n 0, 1) := by decide +kernel
theorem dX9_isWhileTrue_32 : decode cX9_isWhileTrue 32 = .ok (.getfield 86, 3) := by decide +kernel
theorem dX9_isWhileTrue_35 : decode cX9_isWhileTrue 35 = .ok (.iconst 3, 1) := by decide +kernel
theorem dX9_isWhileTrue_36 : decode cX9_isWhileTrue 36 = .ok (.iadd, 1) := by decide +kernel
theorem dX9_isWhileTrue_37 : decode cX9_isWhileTrue 37 = .ok (.invokevirtual 153, 3) := by decide +kernel
theorem dX9_isWhileTrue_40 : decode cX9_isWhileTrue 40 = .ok (.bipush 41, 2) := by decide +kernel
theorem dX9_isWhileTrue_42 : decode cX9_isWhileTrue 42 = .ok (.if_icmp .ne 7, 3) := by decide +kernel
theorem dX9_isWhileTrue_45 : decode cX9_isWhileTrue 45 = .ok (.iconst 1, 1) := by decide +kernel
theorem dX9_isWhileTrue_46 : decode cX9_isWhileTrue 46 = .ok (.goto 4, 3) := by decide +kernel
theorem dX9_isWhileTrue_49 : decode cX9_isWhileTrue 49 = .ok (.iconst 0, 1) := by decide +kernel
theorem dX9_isWhileTrue_50 : decode cX9_isWhileTrue 50 = .ok (.ireturn, 1) := by decide +kernel
theorem mt_X9_beginsVariable : mx_mt 268 = some (yX9_beginsVariable, cX9_beginsVariable, 3, (some .boolean)) := rfl
theorem dX9_beginsVariable_0 : decode cX9_beginsVariable 0 = .ok (.aload_n 0, 1) := by decide +kernel
theorem dX9_beginsVariable_1 : decode cX9_beginsVariable 1 = .ok (.invokevirtual 150, 3) := by decide +kernel
theorem dX9_beginsVariable_4 : decode cX9_beginsVariable 4 = .ok (.istore_n 1, 1) := by decide +kernel
theorem dX9_beginsVariable_5 : decode cX9_beginsVariable 5 = .ok (.iload_n 1, 1) := by decide +kernel
theorem dX9_beginsVariable_6 : decode cX9_beginsVariable 6 = .ok (.iconst 2, 1) := by decide +kernel
theorem dX9_beginsVariable_7 : decode cX9_beginsVariable 7 = .ok (.if_icmp .eq 21, 3) := by decide +kernel
theorem dX9_beginsVariable_10 : decode cX9_beginsVariable 10 = .ok (.iload_n 1, 1) := by decide +kernel
theorem dX9_beginsVariable_11 : decode cX9_beginsVariable 11 = .ok (.bipush 20, 2) := by decide +kernel
theorem dX9_beginsVariable_13 : decode cX9_beginsVariable 13 = .ok (.if_icmp .eq 9, 3) := by decide +kernel
theorem dX9_beginsVariable_16 : decode cX9_beginsVariable 16 = .ok (.iload_n 1, 1) := by decide +kernel
theorem dX9_beginsVariable_17 : decode cX9_beginsVariable 17 = .ok (.bipush 10, 2) := by decide +kernel
theorem dX9_beginsVariable_19 : decode cX9_beginsVariable 19 = .ok (.if_icmp .ne 7, 3) := by decide +kernel
theorem dX9_beginsVariable_22 : decode cX9_beginsVariable 22 = .ok (.iconst 1, 1) := by decide +kernel
theorem dX9_beginsVariable_23 : decode cX9_beginsVariable 23 = .ok (.goto 4, 3) := by decide +kernel
theorem dX9_beginsVariable_26 : decode cX9_beginsVariable 26 = .ok (.iconst 0, 1) := by decide +kernel
theorem dX9_beginsVariable_27 : decode cX9_beginsVariable 27 = .ok (.ireturn, 1) := by decide +kernel
theorem dX9_beginsVariable_28 : decode cX9_beginsVariable 28 = .ok (.aload_n 0, 1) := by decide +kernel
theorem dX9_beginsVariable_29 : decode cX9_beginsVariable 29 = .ok (.aload_n 0, 1) := by decide +kernel
theorem dX9_beginsVariable_30 : decode cX9_beginsVariable 30 = .ok (.getfield 86, 3) := by decide +kernel
theorem dX9_beginsVariable_33 : decode cX9_beginsVariable 33 = .ok (.iconst 1, 1) := by decide +kernel
theorem dX9_beginsVariable_34 : decode cX9_beginsVariable 34 = .ok (.iadd, 1) := by decide +kernel
theorem dX9_beginsVariable_35 : decode cX9_beginsVariable 35 = .ok (.invokevirtual 153, 3) := by decide +kernel
theorem dX9_beginsVariable_38 : decode cX9_beginsVariable 38 = .ok (.istore_n 2, 1) := by decide +kernel
theorem dX9_beginsVariable_39 : decode cX9_beginsVariable 39 = .ok (.iload_n 2, 1) := by decide +kernel
theorem dX9_beginsVariable_40 : decode cX9_beginsVariable 40 = .ok (.iconst 2, 1) := by decide +kernel
theorem dX9_beginsVariable_41 : decode cX9_beginsVariable 41 = .ok (.if_icmp .eq 24, 3) := by decide +kernel
theorem dX9_beginsVariable_44 : decode cX9_beginsVariable 44 = .ok (.iload_n 2, 1) := by decide +kernel
theorem dX9_beginsVariable_45 : decode cX9_beginsVariable 45 = .ok (.bipush 44, 2) := by decide +kernel
theorem dX9_beginsVariable_47 : decode cX9_beginsVariable 47 = .ok (.if_icmp .ne 22, 3) := by decide +kernel
theorem dX9_beginsVariable_50 : decode cX9_beginsVariable 50 = .ok (.aload_n 0, 1) := by decide +kernel
theorem dX9_beginsVariable_51 : decode cX9_beginsVariable 51 = .ok (.aload_n 0, 1) := by decide +kernel
theorem dX9_beginsVariable_52 : decode cX9_beginsVariable 52 = .ok (.getfield 86, 3) := by decide +kernel
theorem dX9_beginsVariable_55 : decode cX9_beginsVariable 55 = .ok (.iconst 2, 1) := by decide +kernel
theorem dX9_beginsVariable_56 : decode cX9_beginsVariable 56 = .ok (.iadd, 1) := by decide +kernel
theorem dX9_beginsVariable_57 : decode cX9_beginsVariable 57 = .ok (.invokevirtual 153, 3) := by decide +kernel
theorem dX9_beginsVariable_60 : decode cX9_beginsVariable 60 = .ok (.bipush 45, 2) := by decide +kernel
theorem dX9_beginsVariable_62 : decode cX9_beginsVariable 62 = .ok (.if_icmp .ne 7, 3) := by decide +kernel
theorem dX9_beginsVariable_65 : decode cX9_beginsVariable 65 = .ok (.iconst 1, 1) := by decide +kernel
theorem dX9_beginsVariable_66 : decode cX9_beginsVariable 66 = .ok (.goto 4, 3) := by decide +kernel
theorem dX9_beginsVariable_69 : decode cX9_beginsVariable 69 = .ok (.iconst 0, 1) := by decide +kernel
theorem dX9_beginsVariable_70 : decode cX9_beginsVariable 70 = .ok (.ireturn, 1) := by decide +kernel
