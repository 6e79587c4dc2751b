theorem rs_RX13_946 : mx_res RX13 946 = some (1, 547, 0) := by decide +kernel
theorem mt_X13_frameFor : mx_mt 548 = some (yX13_frameFor, cX13_frameFor, 4, (some .int)) := rfl
theorem dX13_frameFor_0 : decode cX13_frameFor 0 = .ok (.aload_n 0, 1) := by decide +kernel
theorem dX13_frameFor_1 : decode cX13_frameFor 1 = .ok (.getfield 242, 3) := by decide +kernel
theorem dX13_frameFor_4 : decode cX13_frameFor 4 = .ok (.bipush 12, 2) := by decide +kernel
theorem dX13_frameFor_6 : decode cX13_frameFor 6 = .ok (.aload_n 0, 1) := by decide +kernel
theorem dX13_frameFor_7 : decode cX13_frameFor 7 = .ok (.getfield 932, 3) := by decide +kernel
theorem dX13_frameFor_10 : decode cX13_frameFor 10 = .ok (.imul, 1) := by decide +kernel
theorem dX13_frameFor_11 : decode cX13_frameFor 11 = .ok (.aload_n 0, 1) := by decide +kernel
theorem dX13_frameFor_12 : decode cX13_frameFor 12 = .ok (.getfield 940, 3) := by decide +kernel
theorem dX13_frameFor_15 : decode cX13_frameFor 15 = .ok (.iadd, 1) := by decide +kernel
theorem dX13_frameFor_16 : decode cX13_frameFor 16 = .ok (.iaload, 1) := by decide +kernel
theorem dX13_frameFor_17 : decode cX13_frameFor 17 = .ok (.iconst 1, 1) := by decide +kernel
theorem dX13_frameFor_18 : decode cX13_frameFor 18 = .ok (.iadd, 1) := by decide +kernel
theorem dX13_frameFor_19 : decode cX13_frameFor 19 = .ok (.istore_n 2, 1) := by decide +kernel
theorem dX13_frameFor_20 : decode cX13_frameFor 20 = .ok (.iconst 0, 1) := by decide +kernel
theorem dX13_frameFor_21 : decode cX13_frameFor 21 = .ok (.istore_n 3, 1) := by decide +kernel
theorem dX13_frameFor_22 : decode cX13_frameFor 22 = .ok (.iload_n 3, 1) := by decide +kernel
theorem dX13_frameFor_23 : decode cX13_frameFor 23 = .ok (.aload_n 0, 1) := by decide +kernel
theorem dX13_frameFor_24 : decode cX13_frameFor 24 = .ok (.invokevirtual 946, 3) := by decide +kernel
theorem dX13_frameFor_27 : decode cX13_frameFor 27 = .ok (.if_icmp .ge 32, 3) := by decide +kernel
theorem dX13_frameFor_30 : decode cX13_frameFor 30 = .ok (.aload_n 0, 1) := by decide +kernel
theorem dX13_frameFor_31 : decode cX13_frameFor 31 = .ok (.iload_n 2, 1) := by decide +kernel
theorem dX13_frameFor_32 : decode cX13_frameFor 32 = .ok (.invokevirtual 949, 3) := by decide +kernel
theorem dX13_frameFor_35 : decode cX13_frameFor 35 = .ok (.iload_n 1, 1) := by decide +kernel
theorem dX13_frameFor_36 : decode cX13_frameFor 36 = .ok (.if_icmp .ne 5, 3) := by decide +kernel
theorem dX13_frameFor_39 : decode cX13_frameFor 39 = .ok (.iload_n 2, 1) := by decide +kernel
theorem dX13_frameFor_40 : decode cX13_frameFor 40 = .ok (.ireturn, 1) := by decide +kernel
theorem dX13_frameFor_41 : decode cX13_frameFor 41 = .ok (.aload_n 0, 1) := by decide +kernel
theorem dX13_frameFor_42 : decode cX13_frameFor 42 = .ok (.aload_n 0, 1) := by decide +kernel
theorem dX13_frameFor_43 : decode cX13_frameFor 43 = .ok (.iload_n 2, 1) := by decide +kernel
theorem dX13_frameFor_44 : decode cX13_frameFor 44 = .ok (.iconst 2, 1) := by decide +kernel
theorem dX13_frameFor_45 : decode cX13_frameFor 45 = .ok (.iadd, 1) := by decide +kernel
theorem dX13_frameFor_46 : decode cX13_frameFor 46 = .ok (.invokevirtual 943, 3) := by decide +kernel
theorem dX13_frameFor_49 : decode cX13_frameFor 49 = .ok (.invokevirtual 943, 3) := by decide +kernel
theorem dX13_frameFor_52 : decode cX13_frameFor 52 = .ok (.istore_n 2, 1) := by decide +kernel
theorem dX13_frameFor_53 : decode cX13_frameFor 53 = .ok (.iinc 3 1, 3) := by decide +kernel
theorem dX13_frameFor_56 : decode cX13_frameFor 56 = .ok (.goto (-34), 3) := by decide +kernel
theorem dX13_frameFor_59 : decode cX13_frameFor 59 = .ok (.iconst (-1), 1) := by decide +kernel
theorem dX13_frameFor_60 : decode cX13_frameFor 60 = .ok (.ireturn, 1) := by decide +kernel
theorem mt_X13_isRow : mx_mt 529 = some (yX13_isRow, cX13_isRow, 1, (some .boolean)) := rfl
theorem dX13_isRow_0 : decode cX13_isRow 0 = .ok (.iload_n 0, 1) := by decide +kernel
theorem dX13_isRow_1 : decode cX13_isRow 1 = .ok (.iconst 3, 1) := by decide +kernel
theorem dX13_isRow_2 : decode cX13_isRow 2 = .ok (.if_icmp .eq 15, 3) := by decide +kernel
theorem dX13_isRow_5 : decode cX13_isRow 5 = .ok (.iload_n 0, 1) := by decide +kernel
theorem dX13_isRow_6 : decode cX13_isRow 6 = .ok (.iconst 4, 1) := by decide +kernel
theorem dX13_isRow_7 : decode cX13_isRow 7 = .ok (.if_icmp .lt 14, 3) := by decide +kernel
theorem dX13_isRow_10 : decode cX13_isRow 10 = .ok (.iload_n 0, 1) := by decide +kernel
theorem dX13_isRow_11 : decode cX13_isRow 11 = .ok (.iconst 2, 1) := by decide +kernel
theorem dX13_isRow_12 : decode cX13_isRow 12 = .ok (.irem, 1) := by decide +kernel
theorem dX13_isRow_13 : decode cX13_isRow 13 = .ok (.iconst 1, 1) := by decide +kernel
theorem dX13_isRow_14 : decode cX13_isRow 14 = .ok (.if_icmp .ne 7, 3) := by decide +kernel
theorem dX13_isRow_17 : decode cX13_isRow 17 = .ok (.iconst 1, 1) := by decide +kernel
theorem dX13_isRow_18 : decode cX13_isRow 18 = .ok (.goto 4, 3) := by decide +kernel
theorem dX13_isRow_21 : decode cX13_isRow 21 = .ok (.iconst 0, 1) := by decide +kernel
theorem dX13_isRow_22 : decode cX13_isRow 22 = .ok (.ireturn, 1) := by decide +kernel
theorem rs_RX13_888 : mx_res RX13 888 = some (2, 529, 1) := by decide +kernel
theorem mt_X13_goes : mx_mt 530 = some (yX13_goes, cX13_goes, 5, (some .boolean)) := rfl
theorem dX13_goes_0 : decode cX13_goes 0 = .ok (.iload_n 2, 1) := by decide +kernel
theorem dX13_goes_1 : decode cX13_goes 1 = .ok (.ifCond .eq 8, 3) := by decide +kernel
theorem dX13_goes_4 : decode cX13_goes 4 = .ok (.iload_n 1, 1) := by decide +kernel
theorem dX13_goes_5 : decode cX13_goes 5 = .ok (.iload_n 2, 1) := by decide +kernel
theorem dX13_goes_6 : decode cX13_goes 6 = .ok (.if_icmp .ne 5, 3) := by decide +kernel
theorem dX13_goes_9 : decode cX13_goes 9 = .ok (.iconst 1, 1) := by decide +kernel
theorem dX13_goes_10 : decode cX13_goes 10 = .ok (.ireturn, 1) := by decide +kernel
theorem dX13_goes_11 : decode cX13_goes 11 = .ok (.iload_n 1, 1) := by decide +kernel
theorem dX13_goes_12 : decode cX13_goes 12 = .ok (.ifCond .eq 18, 3) := by decide +kernel
theorem dX13_goes_15 : decode cX13_goes 15 = .ok (.iload_n 1, 1) := by decide +kernel
theorem dX13_goes_16 : decode cX13_goes 16 = .ok (.iconst 1, 1) := by decide +kernel
theorem dX13_goes_17 : decode cX13_goes 17 = .ok (.if_icmp .eq 13, 3) := by decide +kernel
theorem dX13_goes_20 : decode cX13_goes 20 = .ok (.iload_n 2, 1) := by decide +kernel
theorem dX13_goes_21 : decode cX13_goes 21 = .ok (.iconst 1, 1) := by decide +kernel
theorem dX13_goes_22 : decode cX13_goes 22 = .ok (.if_icmp .eq 8, 3) := by decide +kernel
theorem dX13_goes_25 : decode cX13_goes 25 = .ok (.iload_n 2, 1) := by decide +kernel
theorem dX13_goes_26 : decode cX13_goes 26 = .ok (.iconst 2, 1) := by decide +kernel
theorem dX13_goes_27 : decode cX13_goes 27 = .ok (.if_icmp .ne 5, 3) := by decide +kernel
theorem dX13_goes_30 : decode cX13_goes 30 = .ok (.iconst 0, 1) := by decide +kernel
theorem dX13_goes_31 : decode cX13_goes 31 = .ok (.ireturn, 1) := by decide +kernel
theorem dX13_goes_32 : decode cX13_goes 32 = .ok (.iload_n 1, 1) := by decide +kernel
theorem dX13_goes_33 : decode cX13_goes 33 = .ok (.iconst 2, 1) := by decide +kernel
theorem dX13_goes_34 : decode cX13_goes 34 = .ok (.if_icmp .ne 5, 3) := by decide +kernel
theorem dX13_goes_37 : decode cX13_goes 37 = .ok (.iconst 1, 1) := by decide +kernel
theorem dX13_goes_38 : decode cX13_goes 38 = .ok (.ireturn, 1) := by decide +kernel
theorem dX13_goes_39 : decode cX13_goes 39 = .ok (.iload_n 1, 1) := by decide +kernel
theorem dX13_goes_40 : decode cX13_goes 40 = .ok (.invokestatic 888, 3) := by decide +kernel
theorem dX13_goes_43 : decode cX13_goes 43 = .ok (.ifCond .eq 10, 3) := by decide +kernel
theorem dX13_goes_46 : decode cX13_goes 46 = .ok (.iload_n 2, 1) := by decide +kernel
theorem dX13_goes_47 : decode cX13_goes 47 = .ok (.iconst 4, 1) := by decide +kernel
theorem dX13_goes_48 : decode cX13_goes 48 = .ok (.if_icmp .ne 5, 3) := by decide +kernel
theorem dX13_goes_51 : decode cX13_goes 51 = .ok (.iconst 1, 1) := by decide +kernel
theorem dX13_goes_52 : decode cX13_goes 52 = .ok (.ireturn, 1) := by decide +kernel
theorem dX13_goes_53 : decode cX13_goes 53 = .ok (.iload_n 1, 1) := by decide +kernel
theorem dX13_goes_54 : decode cX13_goes 54 = .ok (.iconst 4, 1) := by decide +kernel
theorem dX13_goes_55 : decode cX13_goes 55 = .ok (.if_icmp .lt 17, 3) := by decide +kernel
theorem dX13_goes_58 : decode cX13_goes 58 = .ok (.iload_n 2, 1) := by decide +kernel
theorem dX13_goes_59 : decode cX13_goes 59 = .ok (.iconst 4, 1) := by decide +kernel
theorem dX13_goes_60 : decode cX13_goes 60 = .ok (.if_icmp .lt 12, 3) := by decide +kernel
theorem dX13_goes_63 : decode cX13_goes 63 = .ok (.iload_n 1, 1) := by decide +kernel
theorem dX13_goes_64 : decode cX13_goes 64 = .ok (.iconst 2, 1) := by decide +kernel
theorem dX13_goes_65 : decode cX13_goes 65 = .ok (.irem, 1) := by decide +kernel
theorem dX13_goes_66 : decode cX13_goes 66 = .ok (.iload_n 2, 1) := by decide +kernel
theorem dX13_goes_67 : decode cX13_goes 67 = .ok (.iconst 2, 1) := by decide +kernel
theorem dX13_goes_68 : decode cX13_goes 68 = .ok (.irem, 1) := by decide +kernel
theorem dX13_goes_69 : decode cX13_goes 69 = .ok (.if_icmp .eq 5, 3) := by decide +kernel
theorem dX13_goes_72 : decode cX13_goes 72 = .ok (.iconst 0, 1) := by decide +kernel
theorem dX13_goes_73 : decode cX13_goes 73 = .ok (.ireturn, 1) := by decide +kernel
theorem dX13_goes_74 : decode cX13_goes 74 = .ok (.iload_n 1, 1) := by decide +kernel
theorem dX13_goes_75 : decode cX13_goes 75 = .ok (.iconst 4, 1) := by decide +kernel
theorem dX13_goes_76 : decode cX13_goes 76 = .ok (.isub, 1) := by decide +kernel
theorem dX13_goes_77 : decode cX13_goes 77 = .ok (.iconst 2, 1) := by decide +kernel
theorem dX13_goes_78 : decode cX13_goes 78 = .ok (.idiv, 1) := by decide +kernel
theorem dX13_goes_79 : decode cX13_goes 79 = .ok (.istore_n 3, 1) := by decide +kernel
theorem dX13_goes_80 : decode cX13_goes 80 = .ok (.iload_n 2, 1) := by decide +kernel
theorem dX13_goes_81 : decode cX13_goes 81 = .ok (.iconst 4, 1) := by decide +kernel
theorem dX13_goes_82 : decode cX13_goes 82 = .ok (.isub, 1) := by decide +kernel
theorem dX13_goes_83 : decode cX13_goes 83 = .ok (.iconst 2, 1) := by decide +kernel
theorem dX13_goes_84 : decode cX13_goes 84 = .ok (.idiv, 1) := by decide +kernel
theorem dX13_goes_85 : decode cX13_goes 85 = .ok (.istore 4, 2) := by decide +kernel
theorem dX13_goes_87 : decode cX13_goes 87 = .ok (.iload_n 3, 1) := by decide +kernel
theorem dX13_goes_88 : decode cX13_goes 88 = .ok (.bipush 16, 2) := by decide +kernel
theorem dX13_goes_90 : decode cX13_goes 90 = .ok (.if_icmp .ge 24, 3) := by decide +kernel
theorem dX13_goes_93 : decode cX13_goes 93 = .ok (.iload 4, 2) := by decide +kernel
theorem dX13_goes_95 : decode cX13_goes 95 = .ok (.bipush 16, 2) := by decide +kernel
theorem dX13_goes_97 : decode cX13_goes 97 = .ok (.if_icmp .ge 17, 3) := by decide +kernel
theorem dX13_goes_100 : decode cX13_goes 100 = .ok (.aload_n 0, 1) := by decide +kernel
theorem dX13_goes_101 : decode cX13_goes 101 = .ok (.iload_n 3, 1) := by decide +kernel
theorem dX13_goes_102 : decode cX13_goes 102 = .ok (.iload 4, 2) := by decide +kernel
theorem dX13_goes_104 : decode cX13_goes 104 = .ok (.invokevirtual 891, 3) := by decide +kernel
theorem dX13_goes_107 : decode cX13_goes 107 = .ok (.ifCond .eq 7, 3) := by decide +kernel
theorem dX13_goes_110 : decode cX13_goes 110 = .ok (.iconst 1, 1) := by decide +kernel
theorem dX13_goes_111 : decode cX13_goes 111 = .ok (.goto 4, 3) := by decide +kernel
theorem dX13_goes_114 : decode cX13_goes 114 = .ok (.iconst 0, 1) := by decide +kernel
theorem dX13_goes_115 : decode cX13_goes 115 = .ok (.ireturn, 1) := by decide +kernel
theorem rs_RX13_958 : mx_res RX13 958 = some (1, 530, 2) := by decide +kernel
theorem mt_X13_localsFit : mx_mt 550 = some (yX13_localsFit, cX13_localsFit, 5, (some .boolean)) := rfl
theorem dX13_localsFit_0 : decode cX13_localsFit 0 = .ok (.iload_n 1, 1) := by decide +kernel
theorem dX13_localsFit_1 : decode cX13_localsFit 1 = .ok (.iconst 2, 1) := by decide +kernel
theorem dX13_localsFit_2 : decode cX13_localsFit 2 = .ok (.iadd, 1) := by decide +kernel
theorem dX13_localsFit_3 : decode cX13_localsFit 3 = .ok (.istore_n 2, 1) := by decide +kernel
theorem dX13_localsFit_4 : decode cX13_localsFit 4 = .ok (.aload_n 0, 1) := by decide +kernel
theorem dX13_localsFit_5 : decode cX13_localsFit 5 = .ok (.aload_n 0, 1) := by decide +kernel
theorem dX13_localsFit_6 : decode cX13_localsFit 6 = .ok (.getfield 932, 3) := by decide +kernel
theorem dX13_localsFit_9 : decode cX13_localsFit 9 = .ok (.iload_n 2, 1) := by decide +kernel
theorem dX13_localsFit_10 : decode cX13_localsFit 10 = .ok (.invokevirtual 864, 3) := by decide +kernel
theorem dX13_localsFit_13 : decode cX13_localsFit 13 = .ok (.istore_n 3, 1) := by decide +kernel
theorem dX13_localsFit_14 : decode cX13_localsFit 14 = .ok (.iinc 2 1, 3) := by decide +kernel
theorem dX13_localsFit_17 : decode cX13_localsFit 17 = .ok (.iconst 0, 1) := by decide +kernel
theorem dX13_localsFit_18 : decode cX13_localsFit 18 = .ok (.istore 4, 2) := by decide +kernel
theorem dX13_localsFit_20 : decode cX13_localsFit 20 = .ok (.iload 4, 2) := by decide +kernel
theorem dX13_localsFit_22 : decode cX13_localsFit 22 = .ok (.iload_n 3, 1) := by decide +kernel
theorem dX13_localsFit_23 : decode cX13_localsFit 23 = .ok (.if_icmp .ge 51, 3) := by decide +kernel
theorem dX13_localsFit_26 : decode cX13_localsFit 26 = .ok (.aload_n 0, 1) := by decide +kernel
theorem dX13_localsFit_27 : decode cX13_localsFit 27 = .ok (.aload_n 0, 1) := by decide +kernel
theorem dX13_localsFit_28 : decode cX13_localsFit 28 = .ok (.getfield 270, 3) := by decide +kernel
theorem dX13_localsFit_31 : decode cX13_localsFit 31 = .ok (.iload 4, 2) := by decide +kernel
theorem dX13_localsFit_33 : decode cX13_localsFit 33 = .ok (.iaload, 1) := by decide +kernel
theorem dX13_localsFit_34 : decode cX13_localsFit 34 = .ok (.aload_n 0, 1) := by decide +kernel
theorem dX13_localsFit_35 : decode cX13_localsFit 35 = .ok (.iload_n 2, 1) := by decide +kernel
theorem dX13_localsFit_36 : decode cX13_localsFit 36 = .ok (.invokevirtual 955, 3) := by decide +kernel
theorem dX13_localsFit_39 : decode cX13_localsFit 39 = .ok (.invokevirtual 958, 3) := by decide +kernel
theorem dX13_localsFit_42 : decode cX13_localsFit 42 = .ok (.ifCond .ne 5, 3) := by decide +kernel
theorem dX13_localsFit_45 : decode cX13_localsFit 45 = .ok (.iconst 0, 1) := by decide +kernel
theorem dX13_localsFit_46 : decode cX13_localsFit 46 = .ok (.ireturn, 1) := by decide +kernel
theorem dX13_localsFit_47 : decode cX13_localsFit 47 = .ok (.iload_n 2, 1) := by decide +kernel
theorem dX13_localsFit_48 : decode cX13_localsFit 48 = .ok (.aload_n 0, 1) := by decide +kernel
theorem dX13_localsFit_49 : decode cX13_localsFit 49 = .ok (.aload_n 0, 1) := by decide +kernel
theorem dX13_localsFit_50 : decode cX13_localsFit 50 = .ok (.getfield 932, 3) := by decide +kernel
theorem dX13_localsFit_53 : decode cX13_localsFit 53 = .ok (.iload_n 2, 1) := by decide +kernel
theorem dX13_localsFit_54 : decode cX13_localsFit 54 = .ok (.invokevirtual 864, 3) := by decide +kernel
theorem dX13_localsFit_57 : decode cX13_localsFit 57 = .ok (.iconst 3, 1) := by decide +kernel
theorem dX13_localsFit_58 : decode cX13_localsFit 58 = .ok (.if_icmp .ne 7, 3) := by decide +kernel
theorem dX13_localsFit_61 : decode cX13_localsFit 61 = .ok (.iconst 2, 1) := by decide +kernel
theorem dX13_localsFit_62 : decode cX13_localsFit 62 = .ok (.goto 4, 3) := by decide +kernel
theorem dX13_localsFit_65 : decode cX13_localsFit 65 = .ok (.iconst 1, 1) := by decide +kernel
theorem dX13_localsFit_66 : decode cX13_localsFit 66 = .ok (.iadd, 1) := by decide +kernel
theorem dX13_localsFit_67 : decode cX13_localsFit 67 = .ok (.istore_n 2, 1) := by decide +kernel
theorem dX13_localsFit_68 : decode cX13_localsFit 68 = .ok (.iinc 4 1, 3) := by decide +kernel
theorem dX13_localsFit_71 : decode cX13_localsFit 71 = .ok (.goto (-51), 3) := by decide +kernel
theorem dX13_localsFit_74 : decode cX13_localsFit 74 = .ok (.iconst 1, 1) := by decide +kernel
theorem dX13_localsFit_75 : decode cX13_localsFit 75 = .ok (.ireturn, 1) := by decide +kernel
theorem rs_RX13_995 : mx_res RX13 995 = some (1, 548, 1) := by decide +kernel
theorem rs_RX13_1001 : mx_res RX13 1001 = some (1, 550, 1) := by decide +kernel
theorem mt_X13_handled : mx_mt 558 = some (yX13_handled, cX13_handled, 7, (some .boolean)) := rfl
theorem dX13_handled_0 : decode cX13_handled 0 = .ok (.aload_n 0, 1) := by decide +kernel
theorem dX13_handled_1 : decode cX13_handled 1 = .ok (.getfield 239, 3) := by decide +kernel
theorem dX13_handled_4 : decode cX13_handled 4 = .ok (.bipush 12, 2) := by decide +kernel
theorem dX13_handled_6 : decode cX13_handled 6 = .ok (.aload_n 0, 1) := by decide +kernel
theorem dX13_handled_7 : decode cX13_handled 7 = .ok (.getfield 932, 3) := by decide +kernel
theorem dX13_handled_10 : decode cX13_handled 10 = .ok (.imul, 1) := by decide +kernel
theorem dX13_handled_11 : decode cX13_handled 11 = .ok (.aload_n 0, 1) := by decide +kernel
theorem dX13_handled_12 : decode cX13_handled 12 = .ok (.getfield 940, 3) := by decide +kernel
theorem dX13_handled_15 : decode cX13_handled 15 = .ok (.iadd, 1) := by decide +kernel
theorem dX13_handled_16 : decode cX13_handled 16 = .ok (.iaload, 1) := by decide +kernel
theorem dX13_handled_17 : decode cX13_handled 17 = .ok (.istore_n 2, 1) := by decide +kernel
theorem dX13_handled_18 : decode cX13_handled 18 = .ok (.iconst 0, 1) := by decide +kernel
theorem dX13_handled_19 : decode cX13_handled 19 = .ok (.istore_n 3, 1) := by decide +kernel
theorem dX13_handled_20 : decode cX13_handled 20 = .ok (.iload_n 3, 1) := by decide +kernel
theorem dX13_handled_21 : decode cX13_handled 21 = .ok (.aload_n 0, 1) := by decide +kernel
theorem dX13_handled_22 : decode cX13_handled 22 = .ok (.aload_n 0, 1) := by decide +kernel
theorem dX13_handled_23 : decode cX13_handled 23 = .ok (.getfield 932, 3) := by decide +kernel
theorem dX13_handled_26 : decode cX13_handled 26 = .ok (.iload_n 2, 1) := by decide +kernel
theorem dX13_handled_27 : decode cX13_handled 27 = .ok (.invokevirtual 864, 3) := by decide +kernel
theorem dX13_handled_30 : decode cX13_handled 30 = .ok (.if_icmp .ge 131, 3) := by decide +kernel
theorem dX13_handled_33 : decode cX13_handled 33 = .ok (.iload_n 2, 1) := by decide +kernel
theorem dX13_handled_34 : decode cX13_handled 34 = .ok (.iconst 1, 1) := by decide +kernel
theorem dX13_handled_35 : decode cX13_handled 35 = .ok (.iadd, 1) := by decide +kernel
theorem dX13_handled_36 : decode cX13_handled 36 = .ok (.bipush 7, 2) := by decide +kernel
theorem dX13_handled_38 : decode cX13_handled 38 = .ok (.iload_n 3, 1) := by decide +kernel
theorem dX13_handled_39 : decode cX13_handled 39 = .ok (.imul, 1) := by decide +kernel
theorem dX13_handled_40 : decode cX13_handled 40 = .ok (.iadd, 1) := by decide +kernel
theorem dX13_handled_41 : decode cX13_handled 41 = .ok (.istore 4, 2) := by decide +kernel
theorem dX13_handled_43 : decode cX13_handled 43 = .ok (.iload_n 1, 1) := by decide +kernel
theorem dX13_handled_44 : decode cX13_handled 44 = .ok (.aload_n 0, 1) := by decide +kernel
theorem dX13_handled_45 : decode cX13_handled 45 = .ok (.iload 4, 2) := by decide +kernel
theorem dX13_handled_47 : decode cX13_handled 47 = .ok (.invokevirtual 949, 3) := by decide +kernel
theorem dX13_handled_50 : decode cX13_handled 50 = .ok (.if_icmp .lt 105, 3) := by decide +kernel
theorem dX13_handled_53 : decode cX13_handled 53 = .ok (.iload_n 1, 1) := by decide +kernel
theorem dX13_handled_54 : decode cX13_handled 54 = .ok (.aload_n 0, 1) := by decide +kernel
theorem dX13_handled_55 : decode cX13_handled 55 = .ok (.iload 4, 2) := by decide +kernel
theorem dX13_handled_57 : decode cX13_handled 57 = .ok (.iconst 2, 1) := by decide +kernel
theorem dX13_handled_58 : decode cX13_handled 58 = .ok (.iadd, 1) := by decide +kernel
theorem dX13_handled_59 : decode cX13_handled 59 = .ok (.invokevirtual 949, 3) := by decide +kernel
theorem dX13_handled_62 : decode cX13_handled 62 = .ok (.if_icmp .lt 6, 3) := by decide +kernel
theorem dX13_handled_65 : decode cX13_handled 65 = .ok (.goto 90, 3) := by decide +kernel
theorem dX13_handled_68 : decode cX13_handled 68 = .ok (.aload_n 0, 1) := by decide +kernel
theorem dX13_handled_69 : decode cX13_handled 69 = .ok (.aload_n 0, 1) := by decide +kernel
theorem dX13_handled_70 : decode cX13_handled 70 = .ok (.iload 4, 2) := by decide +kernel
theorem dX13_handled_72 : decode cX13_handled 72 = .ok (.iconst 4, 1) := by decide +kernel
theorem dX13_handled_73 : decode cX13_handled 73 = .ok (.iadd, 1) := by decide +kernel
theorem dX13_handled_74 : decode cX13_handled 74 = .ok (.invokevirtual 949, 3) := by decide +kernel
theorem dX13_handled_77 : decode cX13_handled 77 = .ok (.invokevirtual 995, 3) := by decide +kernel
theorem dX13_handled_80 : decode cX13_handled 80 = .ok (.istore 5, 2) := by decide +kernel
theorem dX13_handled_82 : decode cX13_handled 82 = .ok (.aload_n 0, 1) := by decide +kernel
theorem dX13_handled_83 : decode cX13_handled 83 = .ok (.iload 5, 2) := by decide +kernel
theorem dX13_handled_85 : decode cX13_handled 85 = .ok (.invokevirtual 1001, 3) := by decide +kernel
theorem dX13_handled_88 : decode cX13_handled 88 = .ok (.ifCond .ne 5, 3) := by decide +kernel
theorem dX13_handled_91 : decode cX13_handled 91 = .ok (.iconst 0, 1) := by decide +kernel
theorem dX13_handled_92 : decode cX13_handled 92 = .ok (.ireturn, 1) := by decide +kernel
theorem dX13_handled_93 : decode cX13_handled 93 = .ok (.aload_n 0, 1) := by decide +kernel
theorem dX13_handled_94 : decode cX13_handled 94 = .ok (.iload 5, 2) := by decide +kernel
theorem dX13_handled_96 : decode cX13_handled 96 = .ok (.iconst 2, 1) := by decide +kernel
theorem dX13_handled_97 : decode cX13_handled 97 = .ok (.iadd, 1) := by decide +kernel
theorem dX13_handled_98 : decode cX13_handled 98 = .ok (.invokevirtual 943, 3) := by decide +kernel
theorem dX13_handled_101 : decode cX13_handled 101 = .ok (.istore 6, 2) := by decide +kernel
theorem dX13_handled_103 : decode cX13_handled 103 = .ok (.aload_n 0, 1) := by decide +kernel
theorem dX13_handled_104 : decode cX13_handled 104 = .ok (.aload_n 0, 1) := by decide +kernel
theorem dX13_handled_105 : decode cX13_handled 105 = .ok (.getfield 932, 3) := by decide +kernel
theorem dX13_handled_108 : decode cX13_handled 108 = .ok (.iload 6, 2) := by decide +kernel
theorem dX13_handled_110 : decode cX13_handled 110 = .ok (.invokevirtual 864, 3) := by decide +kernel
theorem dX13_handled_113 : decode cX13_handled 113 = .ok (.iconst 1, 1) := by decide +kernel
theorem dX13_handled_114 : decode cX13_handled 114 = .ok (.if_icmp .ne 39, 3) := by decide +kernel
theorem dX13_handled_117 : decode cX13_handled 117 = .ok (.aload_n 0, 1) := by decide +kernel
theorem dX13_handled_118 : decode cX13_handled 118 = .ok (.aload_n 0, 1) := by decide +kernel
theorem dX13_handled_119 : decode cX13_handled 119 = .ok (.aload_n 0, 1) := by decide +kernel
theorem dX13_handled_120 : decode cX13_handled 120 = .ok (.getfield 932, 3) := by decide +kernel
theorem dX13_handled_123 : decode cX13_handled 123 = .ok (.aload_n 0, 1) := by decide +kernel
theorem dX13_handled_124 : decode cX13_handled 124 = .ok (.aload_n 0, 1) := by decide +kernel
theorem dX13_handled_125 : decode cX13_handled 125 = .ok (.getfield 932, 3) := by decide +kernel
theorem dX13_handled_128 : decode cX13_handled 128 = .ok (.iload 4, 2) := by decide +kernel
theorem dX13_handled_130 : decode cX13_handled 130 = .ok (.bipush 6, 2) := by decide +kernel
theorem dX13_handled_132 : decode cX13_handled 132 = .ok (.iadd, 1) := by decide +kernel
theorem dX13_handled_133 : decode cX13_handled 133 = .ok (.invokevirtual 864, 3) := by decide +kernel
theorem dX13_handled_136 : decode cX13_handled 136 = .ok (.invokevirtual 952, 3) := by decide +kernel
theorem dX13_handled_139 : decode cX13_handled 139 = .ok (.aload_n 0, 1) := by decide +kernel
theorem dX13_handled_140 : decode cX13_handled 140 = .ok (.iload 6, 2) := by decide +kernel
theorem dX13_handled_142 : decode cX13_handled 142 = .ok (.iconst 1, 1) := by decide +kernel
theorem dX13_handled_143 : decode cX13_handled 143 = .ok (.iadd, 1) := by decide +kernel
theorem dX13_handled_144 : decode cX13_handled 144 = .ok (.invokevirtual 955, 3) := by decide +kernel
theorem dX13_handled_147 : decode cX13_handled 147 = .ok (.invokevirtual 958, 3) := by decide +kernel
theorem dX13_handled_150 : decode cX13_handled 150 = .ok (.ifCond .ne 5, 3) := by decide +kernel
theorem dX13_handled_153 : decode cX13_handled 153 = .ok (.iconst 0, 1) := by decide +kernel
theorem dX13_handled_154 : decode cX13_handled 154 = .ok (.ireturn, 1) := by decide +kernel
theorem dX13_handled_155 : decode cX13_handled 155 = .ok (.iinc 3 1, 3) := by decide +kernel
theorem dX13_handled_158 : decode cX13_handled 158 = .ok (.goto (-138), 3) := by decide +kernel
theorem dX13_handled_161 : decode cX13_handled 161 = .ok (.iconst 1, 1) := by decide +kernel
theorem dX13_handled_162 : decode cX13_handled 162 = .ok (.ireturn, 1) := by decide +kernel
theorem mt_X13_isJump : mx_mt 541 = some (yX13_isJump, cX13_isJump, 1, (some .boolean)) := rfl
theorem dX13_isJump_0 : decode cX13_isJump 0 = .ok (.iload_n 0, 1) := by decide +kernel
theorem dX13_isJump_1 : decode cX13_isJump 1 = .ok (.sipush 153, 3) := by decide +kernel
theorem dX13_isJump_4 : decode cX13_isJump 4 = .ok (.if_icmp .lt 14, 3) := by decide +kernel
theorem dX13_isJump_7 : decode cX13_isJump 7 = .ok (.iload_n 0, 1) := by decide +kernel
theorem dX13_isJump_8 : decode cX13_isJump 8 = .ok (.sipush 167, 3) := by decide +kernel
theorem dX13_isJump_11 : decode cX13_isJump 11 = .ok (.if_icmp .gt 7, 3) := by decide +kernel
theorem dX13_isJump_14 : decode cX13_isJump 14 = .ok (.iconst 1, 1) := by decide +kernel
theorem dX13_isJump_15 : decode cX13_isJump 15 = .ok (.goto 4, 3) := by decide +kernel
theorem dX13_isJump_18 : decode cX13_isJump 18 = .ok (.iconst 0, 1) := by decide +kernel
theorem dX13_isJump_19 : decode cX13_isJump 19 = .ok (.ireturn, 1) := by decide +kernel
theorem mt_X13_partOf : mx_mt 560 = some (yX13_partOf, cX13_partOf, 3, (some .int)) := rfl
theorem dX13_partOf_0 : decode cX13_partOf 0 = .ok (.aload_n 0, 1) := by decide +kernel
theorem dX13_partOf_1 : decode cX13_partOf 1 = .ok (.aload_n 0, 1) := by decide +kernel
theorem dX13_partOf_2 : decode cX13_partOf 2 = .ok (.getfield 932, 3) := by decide +kernel
theorem dX13_partOf_5 : decode cX13_partOf 5 = .ok (.aload_n 0, 1) := by decide +kernel
theorem dX13_partOf_6 : decode cX13_partOf 6 = .ok (.getfield 215, 3) := by decide +kernel
theorem dX13_partOf_9 : decode cX13_partOf 9 = .ok (.sipush 256, 3) := by decide +kernel
theorem dX13_partOf_12 : decode cX13_partOf 12 = .ok (.aload_n 0, 1) := by decide +kernel
theorem dX13_partOf_13 : decode cX13_partOf 13 = .ok (.getfield 932, 3) := by decide +kernel
theorem dX13_partOf_16 : decode cX13_partOf 16 = .ok (.imul, 1) := by decide +kernel
theorem dX13_partOf_17 : decode cX13_partOf 17 = .ok (.iload_n 1, 1) := by decide +kernel
theorem dX13_partOf_18 : decode cX13_partOf 18 = .ok (.iadd, 1) := by decide +kernel
theorem dX13_partOf_19 : decode cX13_partOf 19 = .ok (.iaload, 1) := by decide +kernel
theorem dX13_partOf_20 : decode cX13_partOf 20 = .ok (.iconst 1, 1) := by decide +kernel
theorem dX13_partOf_21 : decode cX13_partOf 21 = .ok (.iadd, 1) := by decide +kernel
theorem dX13_partOf_22 : decode cX13_partOf 22 = .ok (.iload_n 2, 1) := by decide +kernel
theorem dX13_partOf_23 : decode cX13_partOf 23 = .ok (.iadd, 1) := by decide +kernel
theorem dX13_partOf_24 : decode cX13_partOf 24 = .ok (.invokevirtual 864, 3) := by decide +kernel
theorem dX13_partOf_27 : decode cX13_partOf 27 = .ok (.ireturn, 1) := by decide +kernel
theorem mt_X13_sortOf : mx_mt 559 = some (yX13_sortOf, cX13_sortOf, 2, (some .int)) := rfl
theorem dX13_sortOf_0 : decode cX13_sortOf 0 = .ok (.iload_n 1, 1) := by decide +kernel
theorem dX13_sortOf_1 : decode cX13_sortOf 1 = .ok (.iconst 1, 1) := by decide +kernel
theorem dX13_sortOf_2 : decode cX13_sortOf 2 = .ok (.if_icmp .lt 42, 3) := by decide +kernel
theorem dX13_sortOf_5 : decode cX13_sortOf 5 = .ok (.iload_n 1, 1) := by decide +kernel
theorem dX13_sortOf_6 : decode cX13_sortOf 6 = .ok (.aload_n 0, 1) := by decide +kernel
theorem dX13_sortOf_7 : decode cX13_sortOf 7 = .ok (.getfield 218, 3) := by decide +kernel
theorem dX13_sortOf_10 : decode cX13_sortOf 10 = .ok (.aload_n 0, 1) := by decide +kernel
theorem dX13_sortOf_11 : decode cX13_sortOf 11 = .ok (.getfield 932, 3) := by decide +kernel
theorem dX13_sortOf_14 : decode cX13_sortOf 14 = .ok (.iaload, 1) := by decide +kernel
theorem dX13_sortOf_15 : decode cX13_sortOf 15 = .ok (.if_icmp .gt 29, 3) := by decide +kernel
theorem dX13_sortOf_18 : decode cX13_sortOf 18 = .ok (.aload_n 0, 1) := by decide +kernel
theorem dX13_sortOf_19 : decode cX13_sortOf 19 = .ok (.aload_n 0, 1) := by decide +kernel
theorem dX13_sortOf_20 : decode cX13_sortOf 20 = .ok (.getfield 932, 3) := by decide +kernel
theorem dX13_sortOf_23 : decode cX13_sortOf 23 = .ok (.aload_n 0, 1) := by decide +kernel
theorem dX13_sortOf_24 : decode cX13_sortOf 24 = .ok (.getfield 215, 3) := by decide +kernel
theorem dX13_sortOf_27 : decode cX13_sortOf 27 = .ok (.sipush 256, 3) := by decide +kernel
theorem dX13_sortOf_30 : decode cX13_sortOf 30 = .ok (.aload_n 0, 1) := by decide +kernel
theorem dX13_sortOf_31 : decode cX13_sortOf 31 = .ok (.getfield 932, 3) := by decide +kernel
theorem dX13_sortOf_34 : decode cX13_sortOf 34 = .ok (.imul, 1) := by decide +kernel
theorem dX13_sortOf_35 : decode cX13_sortOf 35 = .ok (.iload_n 1, 1) := by decide +kernel
theorem dX13_sortOf_36 : decode cX13_sortOf 36 = .ok (.iadd, 1) := by decide +kernel
theorem dX13_sortOf_37 : decode cX13_sortOf 37 = .ok (.iaload, 1) := by decide +kernel
theorem dX13_sortOf_38 : decode cX13_sortOf 38 = .ok (.invokevirtual 864, 3) := by decide +kernel
theorem dX13_sortOf_41 : decode cX13_sortOf 41 = .ok (.goto 4, 3) := by decide +kernel
theorem dX13_sortOf_44 : decode cX13_sortOf 44 = .ok (.iconst 0, 1) := by decide +kernel
theorem dX13_sortOf_45 : decode cX13_sortOf 45 = .ok (.ireturn, 1) := by decide +kernel
theorem rs_RX13_1019 : mx_res RX13 1019 = some (1, 559, 1) := by decide +kernel
theorem rs_RX13_1022 : mx_res RX13 1022 = some (1, 560, 2) := by decide +kernel
theorem mt_X13_right : mx_mt 561 = some (yX13_right, cX13_right, 9, (some .boolean)) := rfl
theorem dX13_right_0 : decode cX13_right 0 = .ok (.aload_n 0, 1) := by decide +kernel
theorem dX13_right_1 : decode cX13_right 1 = .ok (.iload_n 1, 1) := by decide +kernel
theorem dX13_right_2 : decode cX13_right 2 = .ok (.invokevirtual 938, 3) := by decide +kernel
theorem dX13_right_5 : decode cX13_right 5 = .ok (.istore_n 2, 1) := by decide +kernel
theorem dX13_right_6 : decode cX13_right 6 = .ok (.iload_n 2, 1) := by decide +kernel
theorem dX13_right_7 : decode cX13_right 7 = .ok (.invokestatic 975, 3) := by decide +kernel
theorem dX13_right_10 : decode cX13_right 10 = .ok (.iconst 2, 1) := by decide +kernel
theorem dX13_right_11 : decode cX13_right 11 = .ok (.if_icmp .ne 13, 3) := by decide +kernel
theorem dX13_right_14 : decode cX13_right 14 = .ok (.aload_n 0, 1) := by decide +kernel
theorem dX13_right_15 : decode cX13_right 15 = .ok (.iload_n 1, 1) := by decide +kernel
theorem dX13_right_16 : decode cX13_right 16 = .ok (.iconst 1, 1) := by decide +kernel
theorem dX13_right_17 : decode cX13_right 17 = .ok (.iadd, 1) := by decide +kernel
theorem dX13_right_18 : decode cX13_right 18 = .ok (.invokevirtual 938, 3) := by decide +kernel
theorem dX13_right_21 : decode cX13_right 21 = .ok (.goto 4, 3) := by decide +kernel
theorem dX13_right_24 : decode cX13_right 24 = .ok (.iconst 0, 1) := by decide +kernel
theorem dX13_right_25 : decode cX13_right 25 = .ok (.istore_n 3, 1) := by decide +kernel
theorem dX13_right_26 : decode cX13_right 26 = .ok (.iload_n 2, 1) := by decide +kernel
theorem dX13_right_27 : decode cX13_right 27 = .ok (.lookupswitch 338 #[(18, 89), (180, 160), (181, 160), (182, 160), (184, 160), (187, 104), (188, 148), (189, 104), (192, 104), (193, 104)], 89) := by decide +kernel
theorem dX13_right_116 : decode cX13_right 116 = .ok (.aload_n 0, 1) := by decide +kernel
theorem dX13_right_117 : decode cX13_right 117 = .ok (.iload_n 3, 1) := by decide +kernel
theorem dX13_right_118 : decode cX13_right 118 = .ok (.invokevirtual 1019, 3) := by decide +kernel
theorem dX13_right_121 : decode cX13_right 121 = .ok (.iconst 2, 1) := by decide +kernel
theorem dX13_right_122 : decode cX13_right 122 = .ok (.if_icmp .ne 7, 3) := by decide +kernel
theorem dX13_right_125 : decode cX13_right 125 = .ok (.iconst 1, 1) := by decide +kernel
theorem dX13_right_126 : decode cX13_right 126 = .ok (.goto 4, 3) := by decide +kernel
theorem dX13_right_129 : decode cX13_right 129 = .ok (.iconst 0, 1) := by decide +kernel
theorem dX13_right_130 : decode cX13_right 130 = .ok (.ireturn, 1) := by decide +kernel
theorem dX13_right_131 : decode cX13_right 131 = .ok (.aload_n 0, 1) := by decide +kernel
theorem dX13_right_132 : decode cX13_right 132 = .ok (.iload_n 3, 1) := by decide +kernel
theorem dX13_right_133 : decode cX13_right 133 = .ok (.invokevirtual 1019, 3) := by decide +kernel
theorem dX13_right_136 : decode cX13_right 136 = .ok (.iconst 3, 1) := by decide +kernel
theorem dX13_right_137 : decode cX13_right 137 = .ok (.if_icmp .eq 5, 3) := by decide +kernel
theorem dX13_right_140 : decode cX13_right 140 = .ok (.iconst 0, 1) := by decide +kernel
theorem dX13_right_141 : decode cX13_right 141 = .ok (.ireturn, 1) := by decide +kernel
theorem dX13_right_142 : decode cX13_right 142 = .ok (.aload_n 0, 1) := by decide +kernel
theorem dX13_right_143 : decode cX13_right 143 = .ok (.aload_n 0, 1) := by decide +kernel
theorem dX13_right_144 : decode cX13_right 144 = .ok (.getfield 932, 3) := by decide +kernel
theorem dX13_right_147 : decode cX13_right 147 = .ok (.iload_n 3, 1) := by decide +kernel
theorem dX13_right_148 : decode cX13_right 148 = .ok (.invokevirtual 952, 3) := by decide +kernel
theorem dX13_right_151 : decode cX13_right 151 = .ok (.istore 4, 2) := by decide +kernel
theorem dX13_right_153 : decode cX13_right 153 = .ok (.iload 4, 2) := by decide +kernel
theorem dX13_right_155 : decode cX13_right 155 = .ok (.invokestatic 916, 3) := by decide +kernel
theorem dX13_right_158 : decode cX13_right 158 = .ok (.ifCond .eq 15, 3) := by decide +kernel
theorem dX13_right_161 : decode cX13_right 161 = .ok (.iload 4, 2) := by decide +kernel
theorem dX13_right_163 : decode cX13_right 163 = .ok (.invokestatic 888, 3) := by decide +kernel
theorem dX13_right_166 : decode cX13_right 166 = .ok (.ifCond .ne 7, 3) := by decide +kernel
theorem dX13_right_169 : decode cX13_right 169 = .ok (.iconst 1, 1) := by decide +kernel
theorem dX13_right_170 : decode cX13_right 170 = .ok (.goto 4, 3) := by decide +kernel
theorem dX13_right_173 : decode cX13_right 173 = .ok (.iconst 0, 1) := by decide +kernel
theorem dX13_right_174 : decode cX13_right 174 = .ok (.ireturn, 1) := by decide +kernel
theorem dX13_right_175 : decode cX13_right 175 = .ok (.iload_n 3, 1) := by decide +kernel
theorem dX13_right_176 : decode cX13_right 176 = .ok (.bipush 10, 2) := by decide +kernel
theorem dX13_right_178 : decode cX13_right 178 = .ok (.if_icmp .ne 7, 3) := by decide +kernel
theorem dX13_right_181 : decode cX13_right 181 = .ok (.iconst 1, 1) := by decide +kernel
theorem dX13_right_182 : decode cX13_right 182 = .ok (.goto 4, 3) := by decide +kernel
theorem dX13_right_185 : decode cX13_right 185 = .ok (.iconst 0, 1) := by decide +kernel
theorem dX13_right_186 : decode cX13_right 186 = .ok (.ireturn, 1) := by decide +kernel
theorem dX13_right_187 : decode cX13_right 187 = .ok (.aload_n 0, 1) := by decide +kernel
theorem dX13_right_188 : decode cX13_right 188 = .ok (.iload_n 3, 1) := by decide +kernel
theorem dX13_right_189 : decode cX13_right 189 = .ok (.invokevirtual 1019, 3) := by decide +kernel
theorem dX13_right_192 : decode cX13_right 192 = .ok (.iconst 4, 1) := by decide +kernel
theorem dX13_right_193 : decode cX13_right 193 = .ok (.if_icmp .eq 5, 3) := by decide +kernel
theorem dX13_right_196 : decode cX13_right 196 = .ok (.iconst 0, 1) := by decide +kernel
theorem dX13_right_197 : decode cX13_right 197 = .ok (.ireturn, 1) := by decide +kernel
theorem dX13_right_198 : decode cX13_right 198 = .ok (.aload_n 0, 1) := by decide +kernel
theorem dX13_right_199 : decode cX13_right 199 = .ok (.aload_n 0, 1) := by decide +kernel
theorem dX13_right_200 : decode cX13_right 200 = .ok (.getfield 932, 3) := by decide +kernel
theorem dX13_right_203 : decode cX13_right 203 = .ok (.aload_n 0, 1) := by decide +kernel
theorem dX13_right_204 : decode cX13_right 204 = .ok (.iload_n 3, 1) := by decide +kernel
theorem dX13_right_205 : decode cX13_right 205 = .ok (.iconst 0, 1) := by decide +kernel
theorem dX13_right_206 : decode cX13_right 206 = .ok (.invokevirtual 1022, 3) := by decide +kernel
theorem dX13_right_209 : decode cX13_right 209 = .ok (.invokevirtual 952, 3) := by decide +kernel
theorem dX13_right_212 : decode cX13_right 212 = .ok (.istore 5, 2) := by decide +kernel
theorem dX13_right_214 : decode cX13_right 214 = .ok (.iload 5, 2) := by decide +kernel
theorem dX13_right_216 : decode cX13_right 216 = .ok (.invokestatic 888, 3) := by decide +kernel
theorem dX13_right_219 : decode cX13_right 219 = .ok (.ifCond .ne 11, 3) := by decide +kernel
theorem dX13_right_222 : decode cX13_right 222 = .ok (.iload 5, 2) := by decide +kernel
theorem dX13_right_224 : decode cX13_right 224 = .ok (.invokestatic 916, 3) := by decide +kernel
theorem dX13_right_227 : decode cX13_right 227 = .ok (.ifCond .ne 5, 3) := by decide +kernel
theorem dX13_right_230 : decode cX13_right 230 = .ok (.iconst 0, 1) := by decide +kernel
theorem dX13_right_231 : decode cX13_right 231 = .ok (.ireturn, 1) := by decide +kernel
theorem dX13_right_232 : decode cX13_right 232 = .ok (.iload_n 2, 1) := by decide +kernel
theorem dX13_right_233 : decode cX13_right 233 = .ok (.sipush 181, 3) := by decide +kernel
theorem dX13_right_236 : decode cX13_right 236 = .ok (.if_icmp .le 7, 3) := by decide +kernel
theorem dX13_right_239 : decode cX13_right 239 = .ok (.iconst 1, 1) := by decide +kernel
theorem dX13_right_240 : decode cX13_right 240 = .ok (.goto 4, 3) := by decide +kernel
theorem dX13_right_243 : decode cX13_right 243 = .ok (.iconst 0, 1) := by decide +kernel
theorem dX13_right_244 : decode cX13_right 244 = .ok (.istore 6, 2) := by decide +kernel
theorem dX13_right_246 : decode cX13_right 246 = .ok (.aload_n 0, 1) := by decide +kernel
theorem dX13_right_247 : decode cX13_right 247 = .ok (.iload 5, 2) := by decide +kernel
theorem dX13_right_249 : decode cX13_right 249 = .ok (.iconst 4, 1) := by decide +kernel
theorem dX13_right_250 : decode cX13_right 250 = .ok (.isub, 1) := by decide +kernel
theorem dX13_right_251 : decode cX13_right 251 = .ok (.iconst 2, 1) := by decide +kernel
theorem dX13_right_252 : decode cX13_right 252 = .ok (.idiv, 1) := by decide +kernel
theorem dX13_right_253 : decode cX13_right 253 = .ok (.aload_n 0, 1) := by decide +kernel
theorem dX13_right_254 : decode cX13_right 254 = .ok (.getfield 932, 3) := by decide +kernel
theorem dX13_right_257 : decode cX13_right 257 = .ok (.aload_n 0, 1) := by decide +kernel
theorem dX13_right_258 : decode cX13_right 258 = .ok (.iload_n 3, 1) := by decide +kernel
theorem dX13_right_259 : decode cX13_right 259 = .ok (.iconst 1, 1) := by decide +kernel
theorem dX13_right_260 : decode cX13_right 260 = .ok (.invokevirtual 1022, 3) := by decide +kernel
theorem dX13_right_263 : decode cX13_right 263 = .ok (.iload 6, 2) := by decide +kernel
theorem dX13_right_265 : decode cX13_right 265 = .ok (.invokevirtual 928, 3) := by decide +kernel
theorem dX13_right_268 : decode cX13_right 268 = .ok (.istore 7, 2) := by decide +kernel
theorem dX13_right_270 : decode cX13_right 270 = .ok (.iload 7, 2) := by decide +kernel
theorem dX13_right_272 : decode cX13_right 272 = .ok (.iconst (-1), 1) := by decide +kernel
theorem dX13_right_273 : decode cX13_right 273 = .ok (.if_icmp .ne 5, 3) := by decide +kernel
theorem dX13_right_276 : decode cX13_right 276 = .ok (.iconst 0, 1) := by decide +kernel
theorem dX13_right_277 : decode cX13_right 277 = .ok (.ireturn, 1) := by decide +kernel
theorem dX13_right_278 : decode cX13_right 278 = .ok (.iload 7, 2) := by decide +kernel
theorem dX13_right_280 : decode cX13_right 280 = .ok (.bipush 8, 2) := by decide +kernel
theorem dX13_right_282 : decode cX13_right 282 = .ok (.isub, 1) := by decide +kernel
theorem dX13_right_283 : decode cX13_right 283 = .ok (.istore 8, 2) := by decide +kernel
theorem dX13_right_285 : decode cX13_right 285 = .ok (.aload_n 0, 1) := by decide +kernel
theorem dX13_right_286 : decode cX13_right 286 = .ok (.iload 8, 2) := by decide +kernel
theorem dX13_right_288 : decode cX13_right 288 = .ok (.aload_n 0, 1) := by decide +kernel
theorem dX13_right_289 : decode cX13_right 289 = .ok (.iload 8, 2) := by decide +kernel
theorem dX13_right_291 : decode cX13_right 291 = .ok (.aload_n 0, 1) := by decide +kernel
theorem dX13_right_292 : decode cX13_right 292 = .ok (.getfield 898, 3) := by decide +kernel
theorem dX13_right_295 : decode cX13_right 295 = .ok (.iload 6, 2) := by decide +kernel
theorem dX13_right_297 : decode cX13_right 297 = .ok (.invokevirtual 910, 3) := by decide +kernel
theorem dX13_right_300 : decode cX13_right 300 = .ok (.aload_n 0, 1) := by decide +kernel
theorem dX13_right_301 : decode cX13_right 301 = .ok (.getfield 932, 3) := by decide +kernel
theorem dX13_right_304 : decode cX13_right 304 = .ok (.aload_n 0, 1) := by decide +kernel
theorem dX13_right_305 : decode cX13_right 305 = .ok (.iload_n 3, 1) := by decide +kernel
theorem dX13_right_306 : decode cX13_right 306 = .ok (.iconst 2, 1) := by decide +kernel
theorem dX13_right_307 : decode cX13_right 307 = .ok (.invokevirtual 1022, 3) := by decide +kernel
theorem dX13_right_310 : decode cX13_right 310 = .ok (.invokevirtual 894, 3) := by decide +kernel
theorem dX13_right_313 : decode cX13_right 313 = .ok (.ifCond .ne 5, 3) := by decide +kernel
theorem dX13_right_316 : decode cX13_right 316 = .ok (.iconst 0, 1) := by decide +kernel
theorem dX13_right_317 : decode cX13_right 317 = .ok (.ireturn, 1) := by decide +kernel
theorem dX13_right_318 : decode cX13_right 318 = .ok (.iload 6, 2) := by decide +kernel
theorem dX13_right_320 : decode cX13_right 320 = .ok (.ifCond .eq 39, 3) := by decide +kernel
theorem dX13_right_323 : decode cX13_right 323 = .ok (.aload_n 0, 1) := by decide +kernel
theorem dX13_right_324 : decode cX13_right 324 = .ok (.iload 8, 2) := by decide +kernel
theorem dX13_right_326 : decode cX13_right 326 = .ok (.aload_n 0, 1) := by decide +kernel
theorem dX13_right_327 : decode cX13_right 327 = .ok (.getfield 236, 3) := by decide +kernel
theorem dX13_right_330 : decode cX13_right 330 = .ok (.bipush 12, 2) := by decide +kernel
theorem dX13_right_332 : decode cX13_right 332 = .ok (.iload 8, 2) := by decide +kernel
theorem dX13_right_334 : decode cX13_right 334 = .ok (.imul, 1) := by decide +kernel
theorem dX13_right_335 : decode cX13_right 335 = .ok (.aload_n 0, 1) := by decide +kernel
theorem dX13_right_336 : decode cX13_right 336 = .ok (.getfield 898, 3) := by decide +kernel
theorem dX13_right_339 : decode cX13_right 339 = .ok (.iadd, 1) := by decide +kernel
theorem dX13_right_340 : decode cX13_right 340 = .ok (.iaload, 1) := by decide +kernel
theorem dX13_right_341 : decode cX13_right 341 = .ok (.invokevirtual 864, 3) := by decide +kernel
theorem dX13_right_344 : decode cX13_right 344 = .ok (.iload_n 2, 1) := by decide +kernel
theorem dX13_right_345 : decode cX13_right 345 = .ok (.sipush 184, 3) := by decide +kernel
theorem dX13_right_348 : decode cX13_right 348 = .ok (.if_icmp .ne 7, 3) := by decide +kernel
theorem dX13_right_351 : decode cX13_right 351 = .ok (.iconst 1, 1) := by decide +kernel
theorem dX13_right_352 : decode cX13_right 352 = .ok (.goto 4, 3) := by decide +kernel
theorem dX13_right_355 : decode cX13_right 355 = .ok (.iconst 0, 1) := by decide +kernel
theorem dX13_right_356 : decode cX13_right 356 = .ok (.if_icmp .ne 7, 3) := by decide +kernel
theorem dX13_right_359 : decode cX13_right 359 = .ok (.iconst 1, 1) := by decide +kernel
theorem dX13_right_360 : decode cX13_right 360 = .ok (.goto 4, 3) := by decide +kernel
theorem dX13_right_363 : decode cX13_right 363 = .ok (.iconst 0, 1) := by decide +kernel
theorem dX13_right_364 : decode cX13_right 364 = .ok (.ireturn, 1) := by decide +kernel
theorem dX13_right_365 : decode cX13_right 365 = .ok (.iconst 1, 1) := by decide +kernel
theorem dX13_right_366 : decode cX13_right 366 = .ok (.ireturn, 1) := by decide +kernel
theorem mt_X13_stackFits : mx_mt 551 = some (yX13_stackFits, cX13_stackFits, 5, (some .boolean)) := rfl
theorem dX13_stackFits_0 : decode cX13_stackFits 0 = .ok (.aload_n 0, 1) := by decide +kernel
theorem dX13_stackFits_1 : decode cX13_stackFits 1 = .ok (.iload_n 1, 1) := by decide +kernel
theorem dX13_stackFits_2 : decode cX13_stackFits 2 = .ok (.iconst 2, 1) := by decide +kernel
theorem dX13_stackFits_3 : decode cX13_stackFits 3 = .ok (.iadd, 1) := by decide +kernel
theorem dX13_stackFits_4 : decode cX13_stackFits 4 = .ok (.invokevirtual 943, 3) := by decide +kernel
theorem dX13_stackFits_7 : decode cX13_stackFits 7 = .ok (.istore_n 2, 1) := by decide +kernel
theorem dX13_stackFits_8 : decode cX13_stackFits 8 = .ok (.aload_n 0, 1) := by decide +kernel
theorem dX13_stackFits_9 : decode cX13_stackFits 9 = .ok (.aload_n 0, 1) := by decide +kernel
theorem dX13_stackFits_10 : decode cX13_stackFits 10 = .ok (.getfield 932, 3) := by decide +kernel
theorem dX13_stackFits_13 : decode cX13_stackFits 13 = .ok (.iload_n 2, 1) := by decide +kernel
theorem dX13_stackFits_14 : decode cX13_stackFits 14 = .ok (.invokevirtual 864, 3) := by decide +kernel
theorem dX13_stackFits_17 : decode cX13_stackFits 17 = .ok (.istore_n 3, 1) := by decide +kernel
theorem dX13_stackFits_18 : decode cX13_stackFits 18 = .ok (.iinc 2 1, 3) := by decide +kernel
theorem dX13_stackFits_21 : decode cX13_stackFits 21 = .ok (.iload_n 3, 1) := by decide +kernel
theorem dX13_stackFits_22 : decode cX13_stackFits 22 = .ok (.aload_n 0, 1) := by decide +kernel
theorem dX13_stackFits_23 : decode cX13_stackFits 23 = .ok (.getfield 961, 3) := by decide +kernel
theorem dX13_stackFits_26 : decode cX13_stackFits 26 = .ok (.if_icmp .eq 5, 3) := by decide +kernel
theorem dX13_stackFits_29 : decode cX13_stackFits 29 = .ok (.iconst 0, 1) := by decide +kernel
theorem dX13_stackFits_30 : decode cX13_stackFits 30 = .ok (.ireturn, 1) := by decide +kernel
theorem dX13_stackFits_31 : decode cX13_stackFits 31 = .ok (.iconst 0, 1) := by decide +kernel
theorem dX13_stackFits_32 : decode cX13_stackFits 32 = .ok (.istore 4, 2) := by decide +kernel
theorem dX13_stackFits_34 : decode cX13_stackFits 34 = .ok (.iload 4, 2) := by decide +kernel
theorem dX13_stackFits_36 : decode cX13_stackFits 36 = .ok (.iload_n 3, 1) := by decide +kernel
theorem dX13_stackFits_37 : decode cX13_stackFits 37 = .ok (.if_icmp .ge 51, 3) := by decide +kernel
theorem dX13_stackFits_40 : decode cX13_stackFits 40 = .ok (.aload_n 0, 1) := by decide +kernel
theorem dX13_stackFits_41 : decode cX13_stackFits 41 = .ok (.aload_n 0, 1) := by decide +kernel
theorem dX13_stackFits_42 : decode cX13_stackFits 42 = .ok (.getfield 273, 3) := by decide +kernel
theorem dX13_stackFits_45 : decode cX13_stackFits 45 = .ok (.iload 4, 2) := by decide +kernel
theorem dX13_stackFits_47 : decode cX13_stackFits 47 = .ok (.iaload, 1) := by decide +kernel
theorem dX13_stackFits_48 : decode cX13_stackFits 48 = .ok (.aload_n 0, 1) := by decide +kernel
theorem dX13_stackFits_49 : decode cX13_stackFits 49 = .ok (.iload_n 2, 1) := by decide +kernel
theorem dX13_stackFits_50 : decode cX13_stackFits 50 = .ok (.invokevirtual 955, 3) := by decide +kernel
theorem dX13_stackFits_53 : decode cX13_stackFits 53 = .ok (.invokevirtual 958, 3) := by decide +kernel
theorem dX13_stackFits_56 : decode cX13_stackFits 56 = .ok (.ifCond .ne 5, 3) := by decide +kernel
theorem dX13_stackFits_59 : decode cX13_stackFits 59 = .ok (.iconst 0, 1) := by decide +kernel
theorem dX13_stackFits_60 : decode cX13_stackFits 60 = .ok (.ireturn, 1) := by decide +kernel
theorem dX13_stackFits_61 : decode cX13_stackFits 61 = .ok (.iload_n 2, 1) := by decide +kernel
theorem dX13_stackFits_62 : decode cX13_stackFits 62 = .ok (.aload_n 0, 1) := by decide +kernel
theorem dX13_stackFits_63 : decode cX13_stackFits 63 = .ok (.aload_n 0, 1) := by decide +kernel
theorem dX13_stackFits_64 : decode cX13_stackFits 64 = .ok (.getfield 932, 3) := by decide +kernel
theorem dX13_stackFits_67 : decode cX13_stackFits 67 = .ok (.iload_n 2, 1) := by decide +kernel
theorem dX13_stackFits_68 : decode cX13_stackFits 68 = .ok (.invokevirtual 864, 3) := by decide +kernel
theorem dX13_stackFits_71 : decode cX13_stackFits 71 = .ok (.iconst 3, 1) := by decide +kernel
theorem dX13_stackFits_72 : decode cX13_stackFits 72 = .ok (.if_icmp .ne 7, 3) := by decide +kernel
theorem dX13_stackFits_75 : decode cX13_stackFits 75 = .ok (.iconst 2, 1) := by decide +kernel
theorem dX13_stackFits_76 : decode cX13_stackFits 76 = .ok (.goto 4, 3) := by decide +kernel
theorem dX13_stackFits_79 : decode cX13_stackFits 79 = .ok (.iconst 1, 1) := by decide +kernel
theorem dX13_stackFits_80 : decode cX13_stackFits 80 = .ok (.iadd, 1) := by decide +kernel
theorem dX13_stackFits_81 : decode cX13_stackFits 81 = .ok (.istore_n 2, 1) := by decide +kernel
theorem dX13_stackFits_82 : decode cX13_stackFits 82 = .ok (.iinc 4 1, 3) := by decide +kernel
theorem dX13_stackFits_85 : decode cX13_stackFits 85 = .ok (.goto (-51), 3) := by decide +kernel
theorem dX13_stackFits_88 : decode cX13_stackFits 88 = .ok (.iconst 1, 1) := by decide +kernel
theorem dX13_stackFits_89 : decode cX13_stackFits 89 = .ok (.ireturn, 1) := by decide +kernel
theorem mt_X13_comesBack : mx_mt 562 = some (yX13_comesBack, cX13_comesBack, 2, (some .boolean)) := rfl
theorem dX13_comesBack_0 : decode cX13_comesBack 0 = .ok (.aload_n 0, 1) := by decide +kernel
theorem dX13_comesBack_1 : decode cX13_comesBack 1 = .ok (.getfield 961, 3) := by decide +kernel
theorem dX13_comesBack_4 : decode cX13_comesBack 4 = .ok (.aload_n 0, 1) := by decide +kernel
theorem dX13_comesBack_5 : decode cX13_comesBack 5 = .ok (.getfield 967, 3) := by decide +kernel
theorem dX13_comesBack_8 : decode cX13_comesBack 8 = .ok (.if_icmp .lt 5, 3) := by decide +kernel
theorem dX13_comesBack_11 : decode cX13_comesBack 11 = .ok (.iconst 0, 1) := by decide +kernel
theorem dX13_comesBack_12 : decode cX13_comesBack 12 = .ok (.ireturn, 1) := by decide +kernel
theorem dX13_comesBack_13 : decode cX13_comesBack 13 = .ok (.aload_n 0, 1) := by decide +kernel
theorem dX13_comesBack_14 : decode cX13_comesBack 14 = .ok (.getfield 273, 3) := by decide +kernel
theorem dX13_comesBack_17 : decode cX13_comesBack 17 = .ok (.aload_n 0, 1) := by decide +kernel
theorem dX13_comesBack_18 : decode cX13_comesBack 18 = .ok (.getfield 961, 3) := by decide +kernel
theorem dX13_comesBack_21 : decode cX13_comesBack 21 = .ok (.iload_n 1, 1) := by decide +kernel
theorem dX13_comesBack_22 : decode cX13_comesBack 22 = .ok (.iastore, 1) := by decide +kernel
theorem dX13_comesBack_23 : decode cX13_comesBack 23 = .ok (.aload_n 0, 1) := by decide +kernel
theorem dX13_comesBack_24 : decode cX13_comesBack 24 = .ok (.dup, 1) := by decide +kernel
theorem dX13_comesBack_25 : decode cX13_comesBack 25 = .ok (.getfield 961, 3) := by decide +kernel
theorem dX13_comesBack_28 : decode cX13_comesBack 28 = .ok (.iconst 1, 1) := by decide +kernel
theorem dX13_comesBack_29 : decode cX13_comesBack 29 = .ok (.iadd, 1) := by decide +kernel
theorem dX13_comesBack_30 : decode cX13_comesBack 30 = .ok (.putfield 961, 3) := by decide +kernel
theorem dX13_comesBack_33 : decode cX13_comesBack 33 = .ok (.iconst 1, 1) := by decide +kernel
theorem dX13_comesBack_34 : decode cX13_comesBack 34 = .ok (.ireturn, 1) := by decide +kernel
theorem mt_X13_pull : mx_mt 563 = some (yX13_pull, cX13_pull, 1, (some .int)) := rfl
theorem dX13_pull_0 : decode cX13_pull 0 = .ok (.aload_n 0, 1) := by decide +kernel
theorem dX13_pull_1 : decode cX13_pull 1 = .ok (.getfield 961, 3) := by decide +kernel
theorem dX13_pull_4 : decode cX13_pull 4 = .ok (.ifCond .ne 5, 3) := by decide +kernel
theorem dX13_pull_7 : decode cX13_pull 7 = .ok (.iconst (-1), 1) := by decide +kernel
theorem dX13_pull_8 : decode cX13_pull 8 = .ok (.ireturn, 1) := by decide +kernel
theorem dX13_pull_9 : decode cX13_pull 9 = .ok (.aload_n 0, 1) := by decide +kernel
theorem dX13_pull_10 : decode cX13_pull 10 = .ok (.dup, 1) := by decide +kernel
theorem dX13_pull_11 : decode cX13_pull 11 = .ok (.getfield 961, 3) := by decide +kernel
theorem dX13_pull_14 : decode cX13_pull 14 = .ok (.iconst 1, 1) := by decide +kernel
theorem dX13_pull_15 : decode cX13_pull 15 = .ok (.isub, 1) := by decide +kernel
theorem dX13_pull_16 : decode cX13_pull 16 = .ok (.putfield 961, 3) := by decide +kernel
theorem dX13_pull_19 : decode cX13_pull 19 = .ok (.aload_n 0, 1) := by decide +kernel
theorem dX13_pull_20 : decode cX13_pull 20 = .ok (.getfield 273, 3) := by decide +kernel
theorem dX13_pull_23 : decode cX13_pull 23 = .ok (.aload_n 0, 1) := by decide +kernel
theorem dX13_pull_24 : decode cX13_pull 24 = .ok (.getfield 961, 3) := by decide +kernel
theorem dX13_pull_27 : decode cX13_pull 27 = .ok (.iaload, 1) := by decide +kernel
theorem dX13_pull_28 : decode cX13_pull 28 = .ok (.ireturn, 1) := by decide +kernel
theorem rs_RX13_1025 : mx_res RX13 1025 = some (1, 563, 0) := by decide +kernel
theorem mt_X13_pullFit : mx_mt 565 = some (yX13_pullFit, cX13_pullFit, 3, (some .boolean)) := rfl
theorem dX13_pullFit_0 : decode cX13_pullFit 0 = .ok (.aload_n 0, 1) := by decide +kernel
theorem dX13_pullFit_1 : decode cX13_pullFit 1 = .ok (.invokevirtual 1025, 3) := by decide +kernel
theorem dX13_pullFit_4 : decode cX13_pullFit 4 = .ok (.istore_n 2, 1) := by decide +kernel
theorem dX13_pullFit_5 : decode cX13_pullFit 5 = .ok (.iload_n 2, 1) := by decide +kernel
theorem dX13_pullFit_6 : decode cX13_pullFit 6 = .ok (.iconst (-1), 1) := by decide +kernel
theorem dX13_pullFit_7 : decode cX13_pullFit 7 = .ok (.if_icmp .eq 16, 3) := by decide +kernel
theorem dX13_pullFit_10 : decode cX13_pullFit 10 = .ok (.aload_n 0, 1) := by decide +kernel
theorem dX13_pullFit_11 : decode cX13_pullFit 11 = .ok (.iload_n 2, 1) := by decide +kernel
theorem dX13_pullFit_12 : decode cX13_pullFit 12 = .ok (.iload_n 1, 1) := by decide +kernel
theorem dX13_pullFit_13 : decode cX13_pullFit 13 = .ok (.invokevirtual 958, 3) := by decide +kernel
theorem dX13_pullFit_16 : decode cX13_pullFit 16 = .ok (.ifCond .eq 7, 3) := by decide +kernel
theorem dX13_pullFit_19 : decode cX13_pullFit 19 = .ok (.iconst 1, 1) := by decide +kernel
theorem dX13_pullFit_20 : decode cX13_pullFit 20 = .ok (.goto 4, 3) := by decide +kernel
theorem dX13_pullFit_23 : decode cX13_pullFit 23 = .ok (.iconst 0, 1) := by decide +kernel
theorem dX13_pullFit_24 : decode cX13_pullFit 24 = .ok (.ireturn, 1) := by decide +kernel
