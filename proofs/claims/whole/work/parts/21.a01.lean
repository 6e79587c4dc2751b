theorem dX8_readClass_0 : decode cX8_readClass 0 = .ok (.aload_n 0, 1) := by decide +kernel
theorem dX8_readClass_1 : decode cX8_readClass 1 = .ok (.bipush 13, 2) := by decide +kernel
theorem dX8_readClass_3 : decode cX8_readClass 3 = .ok (.invokevirtual 37, 3) := by decide +kernel
theorem dX8_readClass_6 : decode cX8_readClass 6 = .ok (.aload_n 0, 1) := by decide +kernel
theorem dX8_readClass_7 : decode cX8_readClass 7 = .ok (.getfield 13, 3) := by decide +kernel
theorem dX8_readClass_10 : decode cX8_readClass 10 = .ok (.aload_n 0, 1) := by decide +kernel
theorem dX8_readClass_11 : decode cX8_readClass 11 = .ok (.getfield 7, 3) := by decide +kernel
theorem dX8_readClass_14 : decode cX8_readClass 14 = .ok (.getfield 30, 3) := by decide +kernel
theorem dX8_readClass_17 : decode cX8_readClass 17 = .ok (.invokevirtual 40, 3) := by decide +kernel
theorem dX8_readClass_20 : decode cX8_readClass 20 = .ok (.aload_n 0, 1) := by decide +kernel
theorem dX8_readClass_21 : decode cX8_readClass 21 = .ok (.iconst 2, 1) := by decide +kernel
theorem dX8_readClass_22 : decode cX8_readClass 22 = .ok (.invokevirtual 37, 3) := by decide +kernel
theorem dX8_readClass_25 : decode cX8_readClass 25 = .ok (.aload_n 0, 1) := by decide +kernel
theorem dX8_readClass_26 : decode cX8_readClass 26 = .ok (.bipush 16, 2) := by decide +kernel
theorem dX8_readClass_28 : decode cX8_readClass 28 = .ok (.invokevirtual 45, 3) := by decide +kernel
theorem dX8_readClass_31 : decode cX8_readClass 31 = .ok (.ifCond .eq 8, 3) := by decide +kernel
theorem dX8_readClass_34 : decode cX8_readClass 34 = .ok (.aload_n 0, 1) := by decide +kernel
theorem dX8_readClass_35 : decode cX8_readClass 35 = .ok (.iconst 2, 1) := by decide +kernel
theorem dX8_readClass_36 : decode cX8_readClass 36 = .ok (.invokevirtual 37, 3) := by decide +kernel
theorem dX8_readClass_39 : decode cX8_readClass 39 = .ok (.aload_n 0, 1) := by decide +kernel
theorem dX8_readClass_40 : decode cX8_readClass 40 = .ok (.bipush 42, 2) := by decide +kernel
theorem dX8_readClass_42 : decode cX8_readClass 42 = .ok (.invokevirtual 37, 3) := by decide +kernel
theorem dX8_readClass_45 : decode cX8_readClass 45 = .ok (.iconst 0, 1) := by decide +kernel
theorem dX8_readClass_46 : decode cX8_readClass 46 = .ok (.istore_n 1, 1) := by decide +kernel
theorem dX8_readClass_47 : decode cX8_readClass 47 = .ok (.iload_n 1, 1) := by decide +kernel
theorem dX8_readClass_48 : decode cX8_readClass 48 = .ok (.sipush 3000, 3) := by decide +kernel
theorem dX8_readClass_51 : decode cX8_readClass 51 = .ok (.if_icmp .ge 35, 3) := by decide +kernel
theorem dX8_readClass_54 : decode cX8_readClass 54 = .ok (.aload_n 0, 1) := by decide +kernel
theorem dX8_readClass_55 : decode cX8_readClass 55 = .ok (.getfield 7, 3) := by decide +kernel
theorem dX8_readClass_58 : decode cX8_readClass 58 = .ok (.getfield 19, 3) := by decide +kernel
theorem dX8_readClass_61 : decode cX8_readClass 61 = .ok (.ifCond .ne 25, 3) := by decide +kernel
theorem dX8_readClass_64 : decode cX8_readClass 64 = .ok (.aload_n 0, 1) := by decide +kernel
theorem dX8_readClass_65 : decode cX8_readClass 65 = .ok (.getfield 7, 3) := by decide +kernel
theorem dX8_readClass_68 : decode cX8_readClass 68 = .ok (.invokevirtual 23, 3) := by decide +kernel
theorem dX8_readClass_71 : decode cX8_readClass 71 = .ok (.bipush 43, 2) := by decide +kernel
theorem dX8_readClass_73 : decode cX8_readClass 73 = .ok (.if_icmp .eq 13, 3) := by decide +kernel
theorem dX8_readClass_76 : decode cX8_readClass 76 = .ok (.aload_n 0, 1) := by decide +kernel
theorem dX8_readClass_77 : decode cX8_readClass 77 = .ok (.invokevirtual 49, 3) := by decide +kernel
theorem dX8_readClass_80 : decode cX8_readClass 80 = .ok (.iinc 1 1, 3) := by decide +kernel
theorem dX8_readClass_83 : decode cX8_readClass 83 = .ok (.goto (-36), 3) := by decide +kernel
theorem dX8_readClass_86 : decode cX8_readClass 86 = .ok (.aload_n 0, 1) := by decide +kernel
theorem dX8_readClass_87 : decode cX8_readClass 87 = .ok (.bipush 43, 2) := by decide +kernel
theorem dX8_readClass_89 : decode cX8_readClass 89 = .ok (.invokevirtual 37, 3) := by decide +kernel
theorem dX8_readClass_92 : decode cX8_readClass 92 = .ok (.return_, 1) := by decide +kernel
theorem dX8_readProgram_0 : decode cX8_readProgram 0 = .ok (.iconst 0, 1) := by decide +kernel
theorem dX8_readProgram_1 : decode cX8_readProgram 1 = .ok (.istore_n 1, 1) := by decide +kernel
theorem dX8_readProgram_2 : decode cX8_readProgram 2 = .ok (.iload_n 1, 1) := by decide +kernel
theorem dX8_readProgram_3 : decode cX8_readProgram 3 = .ok (.sipush 3000, 3) := by decide +kernel
theorem dX8_readProgram_6 : decode cX8_readProgram 6 = .ok (.if_icmp .ge 37, 3) := by decide +kernel
theorem dX8_readProgram_9 : decode cX8_readProgram 9 = .ok (.aload_n 0, 1) := by decide +kernel
theorem dX8_readProgram_10 : decode cX8_readProgram 10 = .ok (.getfield 7, 3) := by decide +kernel
theorem dX8_readProgram_13 : decode cX8_readProgram 13 = .ok (.getfield 19, 3) := by decide +kernel
theorem dX8_readProgram_16 : decode cX8_readProgram 16 = .ok (.ifCond .ne 27, 3) := by decide +kernel
theorem dX8_readProgram_19 : decode cX8_readProgram 19 = .ok (.iload_n 1, 1) := by decide +kernel
theorem dX8_readProgram_20 : decode cX8_readProgram 20 = .ok (.ifCond .eq 13, 3) := by decide +kernel
theorem dX8_readProgram_23 : decode cX8_readProgram 23 = .ok (.aload_n 0, 1) := by decide +kernel
theorem dX8_readProgram_24 : decode cX8_readProgram 24 = .ok (.getfield 7, 3) := by decide +kernel
theorem dX8_readProgram_27 : decode cX8_readProgram 27 = .ok (.invokevirtual 23, 3) := by decide +kernel
theorem dX8_readProgram_30 : decode cX8_readProgram 30 = .ok (.ifCond .eq 13, 3) := by decide +kernel
theorem dX8_readProgram_33 : decode cX8_readProgram 33 = .ok (.aload_n 0, 1) := by decide +kernel
theorem dX8_readProgram_34 : decode cX8_readProgram 34 = .ok (.invokevirtual 27, 3) := by decide +kernel
theorem dX8_readProgram_37 : decode cX8_readProgram 37 = .ok (.iinc 1 1, 3) := by decide +kernel
theorem dX8_readProgram_40 : decode cX8_readProgram 40 = .ok (.goto (-38), 3) := by decide +kernel
theorem dX8_readProgram_43 : decode cX8_readProgram 43 = .ok (.return_, 1) := by decide +kernel
theorem dX4_init_0 : decode cX4_init 0 = .ok (.aload_n 0, 1) := by decide +kernel
theorem dX4_init_1 : decode cX4_init 1 = .ok (.invokespecial 3, 3) := by decide +kernel
theorem dX4_init_4 : decode cX4_init 4 = .ok (.aload_n 0, 1) := by decide +kernel
theorem dX4_init_5 : decode cX4_init 5 = .ok (.bipush 16, 2) := by decide +kernel
theorem dX4_init_7 : decode cX4_init 7 = .ok (.newarray .int, 2) := by decide +kernel
theorem dX4_init_9 : decode cX4_init 9 = .ok (.putfield 11, 3) := by decide +kernel
theorem dX4_init_12 : decode cX4_init 12 = .ok (.aload_n 0, 1) := by decide +kernel
theorem dX4_init_13 : decode cX4_init 13 = .ok (.sipush 256, 3) := by decide +kernel
theorem dX4_init_16 : decode cX4_init 16 = .ok (.newarray .boolean, 2) := by decide +kernel
theorem dX4_init_18 : decode cX4_init 18 = .ok (.putfield 15, 3) := by decide +kernel
theorem dX4_init_21 : decode cX4_init 21 = .ok (.aload_n 0, 1) := by decide +kernel
theorem dX4_init_22 : decode cX4_init 22 = .ok (.invokevirtual 19, 3) := by decide +kernel
theorem dX4_init_25 : decode cX4_init 25 = .ok (.return_, 1) := by decide +kernel
theorem dX8_init_0 : decode cX8_init 0 = .ok (.aload_n 0, 1) := by decide +kernel
theorem dX8_init_1 : decode cX8_init 1 = .ok (.invokespecial 1, 3) := by decide +kernel
theorem dX8_init_4 : decode cX8_init 4 = .ok (.aload_n 0, 1) := by decide +kernel
theorem dX8_init_5 : decode cX8_init 5 = .ok (.aload_n 1, 1) := by decide +kernel
theorem dX8_init_6 : decode cX8_init 6 = .ok (.putfield 7, 3) := by decide +kernel
theorem dX8_init_9 : decode cX8_init 9 = .ok (.aload_n 0, 1) := by decide +kernel
theorem dX8_init_10 : decode cX8_init 10 = .ok (.aload_n 2, 1) := by decide +kernel
theorem dX8_init_11 : decode cX8_init 11 = .ok (.putfield 13, 3) := by decide +kernel
theorem dX8_init_14 : decode cX8_init 14 = .ok (.return_, 1) := by decide +kernel
theorem dJ7_copyOf_9075b_0 : decode cJ7_copyOf_9075b 0 = .ok (.iload_n 1, 1) := by decide +kernel
theorem dJ7_copyOf_9075b_1 : decode cJ7_copyOf_9075b 1 = .ok (.aload_n 0, 1) := by decide +kernel
theorem dJ7_copyOf_9075b_2 : decode cJ7_copyOf_9075b 2 = .ok (.arraylength, 1) := by decide +kernel
theorem dJ7_copyOf_9075b_3 : decode cJ7_copyOf_9075b 3 = .ok (.if_icmp .ne 11, 3) := by decide +kernel
theorem dJ7_copyOf_9075b_6 : decode cJ7_copyOf_9075b 6 = .ok (.aload_n 0, 1) := by decide +kernel
theorem dJ7_copyOf_9075b_7 : decode cJ7_copyOf_9075b 7 = .ok (.invokevirtual 310, 3) := by decide +kernel
theorem dJ7_copyOf_9075b_10 : decode cJ7_copyOf_9075b 10 = .ok (.checkcast 311, 3) := by decide +kernel
theorem dJ7_copyOf_9075b_13 : decode cJ7_copyOf_9075b 13 = .ok (.areturn, 1) := by decide +kernel
theorem dJ7_copyOf_9075b_14 : decode cJ7_copyOf_9075b 14 = .ok (.iload_n 1, 1) := by decide +kernel
theorem dJ7_copyOf_9075b_15 : decode cJ7_copyOf_9075b 15 = .ok (.newarray .byte, 2) := by decide +kernel
theorem dJ7_copyOf_9075b_17 : decode cJ7_copyOf_9075b 17 = .ok (.astore_n 2, 1) := by decide +kernel
theorem dJ7_copyOf_9075b_18 : decode cJ7_copyOf_9075b 18 = .ok (.aload_n 0, 1) := by decide +kernel
theorem dJ7_copyOf_9075b_19 : decode cJ7_copyOf_9075b 19 = .ok (.iconst 0, 1) := by decide +kernel
theorem dJ7_copyOf_9075b_20 : decode cJ7_copyOf_9075b 20 = .ok (.aload_n 2, 1) := by decide +kernel
theorem dJ7_copyOf_9075b_21 : decode cJ7_copyOf_9075b 21 = .ok (.iconst 0, 1) := by decide +kernel
theorem dJ7_copyOf_9075b_22 : decode cJ7_copyOf_9075b 22 = .ok (.aload_n 0, 1) := by decide +kernel
theorem dJ7_copyOf_9075b_23 : decode cJ7_copyOf_9075b 23 = .ok (.arraylength, 1) := by decide +kernel
theorem dJ7_copyOf_9075b_24 : decode cJ7_copyOf_9075b 24 = .ok (.iload_n 1, 1) := by decide +kernel
theorem dJ7_copyOf_9075b_25 : decode cJ7_copyOf_9075b 25 = .ok (.invokestatic 304, 3) := by decide +kernel
theorem dJ7_copyOf_9075b_28 : decode cJ7_copyOf_9075b 28 = .ok (.invokestatic 150, 3) := by decide +kernel
theorem dJ7_copyOf_9075b_31 : decode cJ7_copyOf_9075b 31 = .ok (.aload_n 2, 1) := by decide +kernel
theorem dJ7_copyOf_9075b_32 : decode cJ7_copyOf_9075b 32 = .ok (.areturn, 1) := by decide +kernel
theorem dJ7_rangeCheck_23922_0 : decode cJ7_rangeCheck_23922 0 = .ok (.iload_n 1, 1) := by decide +kernel
theorem dJ7_rangeCheck_23922_1 : decode cJ7_rangeCheck_23922 1 = .ok (.iload_n 2, 1) := by decide +kernel
theorem dJ7_rangeCheck_23922_2 : decode cJ7_rangeCheck_23922 2 = .ok (.if_icmp .le 44, 3) := by decide +kernel
theorem dJ7_rangeCheck_23922_5 : decode cJ7_rangeCheck_23922 5 = .ok (.new 43, 3) := by decide +kernel
theorem dJ7_rangeCheck_23922_46 : decode cJ7_rangeCheck_23922 46 = .ok (.iload_n 1, 1) := by decide +kernel
theorem dJ7_rangeCheck_23922_47 : decode cJ7_rangeCheck_23922 47 = .ok (.ifCond .ge 12, 3) := by decide +kernel
theorem dJ7_rangeCheck_23922_50 : decode cJ7_rangeCheck_23922 50 = .ok (.new 68, 3) := by decide +kernel
theorem dJ7_rangeCheck_23922_59 : decode cJ7_rangeCheck_23922 59 = .ok (.iload_n 2, 1) := by decide +kernel
theorem dJ7_rangeCheck_23922_60 : decode cJ7_rangeCheck_23922 60 = .ok (.iload_n 0, 1) := by decide +kernel
theorem dJ7_rangeCheck_23922_61 : decode cJ7_rangeCheck_23922 61 = .ok (.if_icmp .le 12, 3) := by decide +kernel
theorem dJ7_rangeCheck_23922_64 : decode cJ7_rangeCheck_23922 64 = .ok (.new 68, 3) := by decide +kernel
theorem dJ7_rangeCheck_23922_73 : decode cJ7_rangeCheck_23922 73 = .ok (.return_, 1) := by decide +kernel
theorem dJ7_fill_fda19_0 : decode cJ7_fill_fda19 0 = .ok (.aload_n 0, 1) := by decide +kernel
theorem dJ7_fill_fda19_1 : decode cJ7_fill_fda19 1 = .ok (.arraylength, 1) := by decide +kernel
theorem dJ7_fill_fda19_2 : decode cJ7_fill_fda19 2 = .ok (.iload_n 1, 1) := by decide +kernel
theorem dJ7_fill_fda19_3 : decode cJ7_fill_fda19 3 = .ok (.iload_n 2, 1) := by decide +kernel
theorem dJ7_fill_fda19_4 : decode cJ7_fill_fda19 4 = .ok (.invokestatic 13, 3) := by decide +kernel
theorem dJ7_fill_fda19_7 : decode cJ7_fill_fda19 7 = .ok (.iload_n 1, 1) := by decide +kernel
theorem dJ7_fill_fda19_8 : decode cJ7_fill_fda19 8 = .ok (.istore 4, 2) := by decide +kernel
theorem dJ7_fill_fda19_10 : decode cJ7_fill_fda19 10 = .ok (.iload 4, 2) := by decide +kernel
theorem dJ7_fill_fda19_12 : decode cJ7_fill_fda19 12 = .ok (.iload_n 2, 1) := by decide +kernel
theorem dJ7_fill_fda19_13 : decode cJ7_fill_fda19 13 = .ok (.if_icmp .ge 14, 3) := by decide +kernel
theorem dJ7_fill_fda19_16 : decode cJ7_fill_fda19 16 = .ok (.aload_n 0, 1) := by decide +kernel
theorem dJ7_fill_fda19_17 : decode cJ7_fill_fda19 17 = .ok (.iload 4, 2) := by decide +kernel
theorem dJ7_fill_fda19_19 : decode cJ7_fill_fda19 19 = .ok (.iload_n 3, 1) := by decide +kernel
theorem dJ7_fill_fda19_20 : decode cJ7_fill_fda19 20 = .ok (.iastore, 1) := by decide +kernel
theorem dJ7_fill_fda19_21 : decode cJ7_fill_fda19 21 = .ok (.iinc 4 1, 3) := by decide +kernel
theorem dJ7_fill_fda19_24 : decode cJ7_fill_fda19 24 = .ok (.goto (-14), 3) := by decide +kernel
theorem dJ7_fill_fda19_27 : decode cJ7_fill_fda19 27 = .ok (.return_, 1) := by decide +kernel
theorem dX4_endsAbove_0 : decode cX4_endsAbove 0 = .ok (.iload_n 1, 1) := by decide +kernel
theorem dX4_endsAbove_1 : decode cX4_endsAbove 1 = .ok (.istore_n 2, 1) := by decide +kernel
theorem dX4_endsAbove_2 : decode cX4_endsAbove 2 = .ok (.iconst 0, 1) := by decide +kernel
theorem dX4_endsAbove_3 : decode cX4_endsAbove 3 = .ok (.istore_n 3, 1) := by decide +kernel
theorem dX4_endsAbove_4 : decode cX4_endsAbove 4 = .ok (.iload_n 3, 1) := by decide +kernel
theorem dX4_endsAbove_5 : decode cX4_endsAbove 5 = .ok (.bipush 16, 2) := by decide +kernel
theorem dX4_endsAbove_7 : decode cX4_endsAbove 7 = .ok (.if_icmp .gt 26, 3) := by decide +kernel
theorem dX4_endsAbove_10 : decode cX4_endsAbove 10 = .ok (.iload_n 2, 1) := by decide +kernel
theorem dX4_endsAbove_11 : decode cX4_endsAbove 11 = .ok (.ifCond .lt 22, 3) := by decide +kernel
theorem dX4_endsAbove_14 : decode cX4_endsAbove 14 = .ok (.iload_n 2, 1) := by decide +kernel
theorem dX4_endsAbove_15 : decode cX4_endsAbove 15 = .ok (.bipush 16, 2) := by decide +kernel
theorem dX4_endsAbove_17 : decode cX4_endsAbove 17 = .ok (.if_icmp .ge 16, 3) := by decide +kernel
theorem dX4_endsAbove_20 : decode cX4_endsAbove 20 = .ok (.aload_n 0, 1) := by decide +kernel
theorem dX4_endsAbove_21 : decode cX4_endsAbove 21 = .ok (.getfield 11, 3) := by decide +kernel
theorem dX4_endsAbove_24 : decode cX4_endsAbove 24 = .ok (.iload_n 2, 1) := by decide +kernel
theorem dX4_endsAbove_25 : decode cX4_endsAbove 25 = .ok (.iaload, 1) := by decide +kernel
theorem dX4_endsAbove_26 : decode cX4_endsAbove 26 = .ok (.istore_n 2, 1) := by decide +kernel
theorem dX4_endsAbove_27 : decode cX4_endsAbove 27 = .ok (.iinc 3 1, 3) := by decide +kernel
theorem dX4_endsAbove_30 : decode cX4_endsAbove 30 = .ok (.goto (-26), 3) := by decide +kernel
theorem dX4_endsAbove_33 : decode cX4_endsAbove 33 = .ok (.iload_n 2, 1) := by decide +kernel
theorem dX4_endsAbove_34 : decode cX4_endsAbove 34 = .ok (.iconst (-1), 1) := by decide +kernel
theorem dX4_endsAbove_35 : decode cX4_endsAbove 35 = .ok (.if_icmp .ne 7, 3) := by decide +kernel
theorem dX4_endsAbove_38 : decode cX4_endsAbove 38 = .ok (.iconst 1, 1) := by decide +kernel
theorem dX4_endsAbove_39 : decode cX4_endsAbove 39 = .ok (.goto 4, 3) := by decide +kernel
theorem dX4_endsAbove_42 : decode cX4_endsAbove 42 = .ok (.iconst 0, 1) := by decide +kernel
theorem dX4_endsAbove_43 : decode cX4_endsAbove 43 = .ok (.ireturn, 1) := by decide +kernel
