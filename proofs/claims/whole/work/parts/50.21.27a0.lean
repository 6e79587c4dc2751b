theorem rs_RX7_150 : mx_res RX7 150 = some (0, 3, 7) := by decide +kernel
theorem rs_RX7_153 : mx_res RX7 153 = some (1, 214, 2) := by decide +kernel
theorem rs_RX7_157 : mx_res RX7 157 = some (1, 215, 1) := by decide +kernel
theorem mt_X7_linkAll : mx_mt 212 = some (yX7_linkAll, cX7_linkAll, 3, none) := rfl
theorem dX7_linkAll_0 : decode cX7_linkAll 0 = .ok (.iconst 0, 1) := by decide +kernel
theorem dX7_linkAll_1 : decode cX7_linkAll 1 = .ok (.istore_n 1, 1) := by decide +kernel
theorem dX7_linkAll_2 : decode cX7_linkAll 2 = .ok (.iload_n 1, 1) := by decide +kernel
theorem dX7_linkAll_3 : decode cX7_linkAll 3 = .ok (.bipush 8, 2) := by decide +kernel
theorem dX7_linkAll_5 : decode cX7_linkAll 5 = .ok (.aload_n 0, 1) := by decide +kernel
theorem dX7_linkAll_6 : decode cX7_linkAll 6 = .ok (.getfield 41, 3) := by decide +kernel
theorem dX7_linkAll_9 : decode cX7_linkAll 9 = .ok (.iadd, 1) := by decide +kernel
theorem dX7_linkAll_10 : decode cX7_linkAll 10 = .ok (.if_icmp .ge 20, 3) := by decide +kernel
theorem dX7_linkAll_13 : decode cX7_linkAll 13 = .ok (.aload_n 0, 1) := by decide +kernel
theorem dX7_linkAll_14 : decode cX7_linkAll 14 = .ok (.getfield 35, 3) := by decide +kernel
theorem dX7_linkAll_17 : decode cX7_linkAll 17 = .ok (.iload_n 1, 1) := by decide +kernel
theorem dX7_linkAll_18 : decode cX7_linkAll 18 = .ok (.aload_n 0, 1) := by decide +kernel
theorem dX7_linkAll_19 : decode cX7_linkAll 19 = .ok (.iload_n 1, 1) := by decide +kernel
theorem dX7_linkAll_20 : decode cX7_linkAll 20 = .ok (.invokevirtual 147, 3) := by decide +kernel
theorem dX7_linkAll_23 : decode cX7_linkAll 23 = .ok (.iastore, 1) := by decide +kernel
theorem dX7_linkAll_24 : decode cX7_linkAll 24 = .ok (.iinc 1 1, 3) := by decide +kernel
theorem dX7_linkAll_27 : decode cX7_linkAll 27 = .ok (.goto (-25), 3) := by decide +kernel
theorem dX7_linkAll_30 : decode cX7_linkAll 30 = .ok (.iconst 0, 1) := by decide +kernel
theorem dX7_linkAll_31 : decode cX7_linkAll 31 = .ok (.istore_n 1, 1) := by decide +kernel
theorem dX7_linkAll_32 : decode cX7_linkAll 32 = .ok (.iload_n 1, 1) := by decide +kernel
theorem dX7_linkAll_33 : decode cX7_linkAll 33 = .ok (.aload_n 0, 1) := by decide +kernel
theorem dX7_linkAll_34 : decode cX7_linkAll 34 = .ok (.getfield 41, 3) := by decide +kernel
theorem dX7_linkAll_37 : decode cX7_linkAll 37 = .ok (.if_icmp .ge 58, 3) := by decide +kernel
theorem dX7_linkAll_40 : decode cX7_linkAll 40 = .ok (.iconst 1, 1) := by decide +kernel
theorem dX7_linkAll_41 : decode cX7_linkAll 41 = .ok (.istore_n 2, 1) := by decide +kernel
theorem dX7_linkAll_42 : decode cX7_linkAll 42 = .ok (.iload_n 2, 1) := by decide +kernel
theorem dX7_linkAll_43 : decode cX7_linkAll 43 = .ok (.aload_n 0, 1) := by decide +kernel
theorem dX7_linkAll_44 : decode cX7_linkAll 44 = .ok (.getfield 22, 3) := by decide +kernel
theorem dX7_linkAll_47 : decode cX7_linkAll 47 = .ok (.iload_n 1, 1) := by decide +kernel
theorem dX7_linkAll_48 : decode cX7_linkAll 48 = .ok (.aaload, 1) := by decide +kernel
theorem dX7_linkAll_49 : decode cX7_linkAll 49 = .ok (.getfield 150, 3) := by decide +kernel
theorem dX7_linkAll_52 : decode cX7_linkAll 52 = .ok (.if_icmp .gt 32, 3) := by decide +kernel
theorem dX7_linkAll_55 : decode cX7_linkAll 55 = .ok (.aload_n 0, 1) := by decide +kernel
theorem dX7_linkAll_56 : decode cX7_linkAll 56 = .ok (.getfield 31, 3) := by decide +kernel
theorem dX7_linkAll_59 : decode cX7_linkAll 59 = .ok (.iload_n 1, 1) := by decide +kernel
theorem dX7_linkAll_60 : decode cX7_linkAll 60 = .ok (.sipush 256, 3) := by decide +kernel
theorem dX7_linkAll_63 : decode cX7_linkAll 63 = .ok (.imul, 1) := by decide +kernel
theorem dX7_linkAll_64 : decode cX7_linkAll 64 = .ok (.iload_n 2, 1) := by decide +kernel
theorem dX7_linkAll_65 : decode cX7_linkAll 65 = .ok (.iadd, 1) := by decide +kernel
theorem dX7_linkAll_66 : decode cX7_linkAll 66 = .ok (.aload_n 0, 1) := by decide +kernel
theorem dX7_linkAll_67 : decode cX7_linkAll 67 = .ok (.aload_n 0, 1) := by decide +kernel
theorem dX7_linkAll_68 : decode cX7_linkAll 68 = .ok (.getfield 22, 3) := by decide +kernel
theorem dX7_linkAll_71 : decode cX7_linkAll 71 = .ok (.iload_n 1, 1) := by decide +kernel
theorem dX7_linkAll_72 : decode cX7_linkAll 72 = .ok (.aaload, 1) := by decide +kernel
theorem dX7_linkAll_73 : decode cX7_linkAll 73 = .ok (.iload_n 2, 1) := by decide +kernel
theorem dX7_linkAll_74 : decode cX7_linkAll 74 = .ok (.invokevirtual 153, 3) := by decide +kernel
theorem dX7_linkAll_77 : decode cX7_linkAll 77 = .ok (.iastore, 1) := by decide +kernel
theorem dX7_linkAll_78 : decode cX7_linkAll 78 = .ok (.iinc 2 1, 3) := by decide +kernel
theorem dX7_linkAll_81 : decode cX7_linkAll 81 = .ok (.goto (-39), 3) := by decide +kernel
theorem dX7_linkAll_84 : decode cX7_linkAll 84 = .ok (.aload_n 0, 1) := by decide +kernel
theorem dX7_linkAll_85 : decode cX7_linkAll 85 = .ok (.iload_n 1, 1) := by decide +kernel
theorem dX7_linkAll_86 : decode cX7_linkAll 86 = .ok (.invokevirtual 157, 3) := by decide +kernel
theorem dX7_linkAll_89 : decode cX7_linkAll 89 = .ok (.iinc 1 1, 3) := by decide +kernel
theorem dX7_linkAll_92 : decode cX7_linkAll 92 = .ok (.goto (-60), 3) := by decide +kernel
theorem dX7_linkAll_95 : decode cX7_linkAll 95 = .ok (.return_, 1) := by decide +kernel
theorem rs_RX12_159 : mx_res RX12 159 = some (1, 307, 0) := by decide +kernel
theorem rs_RX12_162 : mx_res RX12 162 = some (1, 308, 0) := by decide +kernel
theorem rs_RX12_169 : mx_res RX12 169 = some (1, 212, 0) := by decide +kernel
theorem mt_X12_verify : mx_mt 372 = some (yX12_verify, cX12_verify, 2, (some .int)) := rfl
theorem dX12_verify_0 : decode cX12_verify 0 = .ok (.aload_n 0, 1) := by decide +kernel
theorem dX12_verify_1 : decode cX12_verify 1 = .ok (.getfield 62, 3) := by decide +kernel
theorem dX12_verify_4 : decode cX12_verify 4 = .ok (.invokevirtual 159, 3) := by decide +kernel
theorem dX12_verify_7 : decode cX12_verify 7 = .ok (.istore_n 1, 1) := by decide +kernel
theorem dX12_verify_8 : decode cX12_verify 8 = .ok (.iload_n 1, 1) := by decide +kernel
theorem dX12_verify_9 : decode cX12_verify 9 = .ok (.ifCond .ne 11, 3) := by decide +kernel
theorem dX12_verify_12 : decode cX12_verify 12 = .ok (.aload_n 0, 1) := by decide +kernel
theorem dX12_verify_13 : decode cX12_verify 13 = .ok (.getfield 62, 3) := by decide +kernel
theorem dX12_verify_16 : decode cX12_verify 16 = .ok (.invokevirtual 162, 3) := by decide +kernel
theorem dX12_verify_19 : decode cX12_verify 19 = .ok (.istore_n 1, 1) := by decide +kernel
theorem dX12_verify_20 : decode cX12_verify 20 = .ok (.aload_n 0, 1) := by decide +kernel
theorem dX12_verify_21 : decode cX12_verify 21 = .ok (.getfield 53, 3) := by decide +kernel
theorem dX12_verify_24 : decode cX12_verify 24 = .ok (.iload_n 1, 1) := by decide +kernel
theorem dX12_verify_25 : decode cX12_verify 25 = .ok (.ifCond .ne 7, 3) := by decide +kernel
theorem dX12_verify_28 : decode cX12_verify 28 = .ok (.iconst 1, 1) := by decide +kernel
theorem dX12_verify_29 : decode cX12_verify 29 = .ok (.goto 4, 3) := by decide +kernel
theorem dX12_verify_32 : decode cX12_verify 32 = .ok (.iconst 0, 1) := by decide +kernel
theorem dX12_verify_33 : decode cX12_verify 33 = .ok (.putfield 165, 3) := by decide +kernel
theorem dX12_verify_36 : decode cX12_verify 36 = .ok (.aload_n 0, 1) := by decide +kernel
theorem dX12_verify_37 : decode cX12_verify 37 = .ok (.getfield 53, 3) := by decide +kernel
theorem dX12_verify_40 : decode cX12_verify 40 = .ok (.getfield 165, 3) := by decide +kernel
theorem dX12_verify_43 : decode cX12_verify 43 = .ok (.ifCond .eq 10, 3) := by decide +kernel
theorem dX12_verify_46 : decode cX12_verify 46 = .ok (.aload_n 0, 1) := by decide +kernel
theorem dX12_verify_47 : decode cX12_verify 47 = .ok (.getfield 53, 3) := by decide +kernel
theorem dX12_verify_50 : decode cX12_verify 50 = .ok (.invokevirtual 169, 3) := by decide +kernel
theorem dX12_verify_53 : decode cX12_verify 53 = .ok (.iload_n 1, 1) := by decide +kernel
theorem dX12_verify_54 : decode cX12_verify 54 = .ok (.ireturn, 1) := by decide +kernel
theorem rs_RX12_172 : mx_res RX12 172 = some (0, 11, 2) := by decide +kernel
theorem rs_RX12_175 : mx_res RX12 175 = some (0, 11, 3) := by decide +kernel
theorem rs_RX12_178 : mx_res RX12 178 = some (0, 11, 4) := by decide +kernel
theorem mt_X12_where : mx_mt 373 = some (yX12_where, cX12_where, 2, (some .int)) := rfl
theorem dX12_where_0 : decode cX12_where 0 = .ok (.iload_n 1, 1) := by decide +kernel
theorem dX12_where_1 : decode cX12_where 1 = .ok (.tableswitch 51 0 2 #[27, 35, 43], 27) := by decide +kernel
theorem dX12_where_28 : decode cX12_where 28 = .ok (.aload_n 0, 1) := by decide +kernel
theorem dX12_where_29 : decode cX12_where 29 = .ok (.getfield 62, 3) := by decide +kernel
theorem dX12_where_32 : decode cX12_where 32 = .ok (.getfield 172, 3) := by decide +kernel
theorem dX12_where_35 : decode cX12_where 35 = .ok (.ireturn, 1) := by decide +kernel
theorem dX12_where_36 : decode cX12_where 36 = .ok (.aload_n 0, 1) := by decide +kernel
theorem dX12_where_37 : decode cX12_where 37 = .ok (.getfield 62, 3) := by decide +kernel
theorem dX12_where_40 : decode cX12_where 40 = .ok (.getfield 175, 3) := by decide +kernel
theorem dX12_where_43 : decode cX12_where 43 = .ok (.ireturn, 1) := by decide +kernel
theorem dX12_where_44 : decode cX12_where 44 = .ok (.aload_n 0, 1) := by decide +kernel
theorem dX12_where_45 : decode cX12_where 45 = .ok (.getfield 62, 3) := by decide +kernel
theorem dX12_where_48 : decode cX12_where 48 = .ok (.getfield 178, 3) := by decide +kernel
theorem dX12_where_51 : decode cX12_where 51 = .ok (.ireturn, 1) := by decide +kernel
theorem dX12_where_52 : decode cX12_where 52 = .ok (.iconst (-1), 1) := by decide +kernel
theorem dX12_where_53 : decode cX12_where 53 = .ok (.ireturn, 1) := by decide +kernel
theorem rs_RX13_833 : mx_res RX13 833 = some (0, 13, 98) := by decide +kernel
theorem rs_RX13_855 : mx_res RX13 855 = some (0, 13, 99) := by decide +kernel
theorem rs_RX13_858 : mx_res RX13 858 = some (0, 13, 138) := by decide +kernel
theorem ft_13_98 : mx_fty 13 98 = some (.int, false, "ClassMillModel") := by decide +kernel
theorem ft_13_99 : mx_fty 13 99 = some (.boolean, false, "ClassMillModel") := by decide +kernel
theorem ft_13_138 : mx_fty 13 138 = some (.int, false, "ClassMillModel") := by decide +kernel
theorem mt_X13_clear : mx_mt 519 = some (yX13_clear, cX13_clear, 1, none) := rfl
theorem dX13_clear_0 : decode cX13_clear 0 = .ok (.aload_n 0, 1) := by decide +kernel
theorem dX13_clear_1 : decode cX13_clear 1 = .ok (.iconst 0, 1) := by decide +kernel
theorem dX13_clear_2 : decode cX13_clear 2 = .ok (.putfield 833, 3) := by decide +kernel
theorem dX13_clear_5 : decode cX13_clear 5 = .ok (.aload_n 0, 1) := by decide +kernel
theorem dX13_clear_6 : decode cX13_clear 6 = .ok (.iconst 0, 1) := by decide +kernel
theorem dX13_clear_7 : decode cX13_clear 7 = .ok (.putfield 855, 3) := by decide +kernel
theorem dX13_clear_10 : decode cX13_clear 10 = .ok (.aload_n 0, 1) := by decide +kernel
theorem dX13_clear_11 : decode cX13_clear 11 = .ok (.iconst 0, 1) := by decide +kernel
theorem dX13_clear_12 : decode cX13_clear 12 = .ok (.putfield 858, 3) := by decide +kernel
theorem dX13_clear_15 : decode cX13_clear 15 = .ok (.return_, 1) := by decide +kernel
theorem rs_RX13_116 : mx_res RX13 116 = some (0, 13, 48) := by decide +kernel
theorem rs_RX13_119 : mx_res RX13 119 = some (0, 13, 49) := by decide +kernel
theorem rs_RX13_513 : mx_res RX13 513 = some (0, 13, 50) := by decide +kernel
theorem ft_13_50 : mx_fty 13 50 = some (.int, false, "ClassMillModel") := by decide +kernel
theorem mt_X13_come : mx_mt 431 = some (yX13_come, cX13_come, 3, none) := rfl
theorem dX13_come_0 : decode cX13_come 0 = .ok (.aload_n 0, 1) := by decide +kernel
theorem dX13_come_1 : decode cX13_come 1 = .ok (.getfield 116, 3) := by decide +kernel
theorem dX13_come_4 : decode cX13_come 4 = .ok (.aload_n 0, 1) := by decide +kernel
theorem dX13_come_5 : decode cX13_come 5 = .ok (.getfield 513, 3) := by decide +kernel
theorem dX13_come_8 : decode cX13_come 8 = .ok (.iload_n 1, 1) := by decide +kernel
theorem dX13_come_9 : decode cX13_come 9 = .ok (.iastore, 1) := by decide +kernel
theorem dX13_come_10 : decode cX13_come 10 = .ok (.aload_n 0, 1) := by decide +kernel
theorem dX13_come_11 : decode cX13_come 11 = .ok (.getfield 119, 3) := by decide +kernel
theorem dX13_come_14 : decode cX13_come 14 = .ok (.aload_n 0, 1) := by decide +kernel
theorem dX13_come_15 : decode cX13_come 15 = .ok (.getfield 513, 3) := by decide +kernel
theorem dX13_come_18 : decode cX13_come 18 = .ok (.iload_n 2, 1) := by decide +kernel
theorem dX13_come_19 : decode cX13_come 19 = .ok (.iastore, 1) := by decide +kernel
theorem dX13_come_20 : decode cX13_come 20 = .ok (.aload_n 0, 1) := by decide +kernel
theorem dX13_come_21 : decode cX13_come 21 = .ok (.dup, 1) := by decide +kernel
theorem dX13_come_22 : decode cX13_come 22 = .ok (.getfield 513, 3) := by decide +kernel
theorem dX13_come_25 : decode cX13_come 25 = .ok (.iconst 1, 1) := by decide +kernel
theorem dX13_come_26 : decode cX13_come 26 = .ok (.iadd, 1) := by decide +kernel
theorem dX13_come_27 : decode cX13_come 27 = .ok (.putfield 513, 3) := by decide +kernel
theorem dX13_come_30 : decode cX13_come 30 = .ok (.return_, 1) := by decide +kernel
theorem rs_RX13_28 : mx_res RX13 28 = some (0, 13, 11) := by decide +kernel
theorem rs_RX13_52 : mx_res RX13 52 = some (0, 13, 19) := by decide +kernel
theorem rs_RX13_58 : mx_res RX13 58 = some (0, 13, 21) := by decide +kernel
theorem rs_RX13_319 : mx_res RX13 319 = some (0, 13, 9) := by decide +kernel
theorem mt_X13_canTake : mx_mt 434 = some (yX13_canTake, cX13_canTake, 2, (some .boolean)) := rfl
theorem dX13_canTake_0 : decode cX13_canTake 0 = .ok (.aload_n 0, 1) := by decide +kernel
theorem dX13_canTake_1 : decode cX13_canTake 1 = .ok (.getfield 319, 3) := by decide +kernel
theorem dX13_canTake_4 : decode cX13_canTake 4 = .ok (.ifCond .eq 5, 3) := by decide +kernel
theorem dX13_canTake_7 : decode cX13_canTake 7 = .ok (.iconst 1, 1) := by decide +kernel
theorem dX13_canTake_8 : decode cX13_canTake 8 = .ok (.ireturn, 1) := by decide +kernel
theorem dX13_canTake_9 : decode cX13_canTake 9 = .ok (.aload_n 0, 1) := by decide +kernel
theorem dX13_canTake_10 : decode cX13_canTake 10 = .ok (.getfield 58, 3) := by decide +kernel
theorem dX13_canTake_13 : decode cX13_canTake 13 = .ok (.iload_n 1, 1) := by decide +kernel
theorem dX13_canTake_14 : decode cX13_canTake 14 = .ok (.baload, 1) := by decide +kernel
theorem dX13_canTake_15 : decode cX13_canTake 15 = .ok (.ifCond .eq 5, 3) := by decide +kernel
theorem dX13_canTake_18 : decode cX13_canTake 18 = .ok (.iconst 0, 1) := by decide +kernel
theorem dX13_canTake_19 : decode cX13_canTake 19 = .ok (.ireturn, 1) := by decide +kernel
theorem dX13_canTake_20 : decode cX13_canTake 20 = .ok (.aload_n 0, 1) := by decide +kernel
theorem dX13_canTake_21 : decode cX13_canTake 21 = .ok (.getfield 28, 3) := by decide +kernel
theorem dX13_canTake_24 : decode cX13_canTake 24 = .ok (.iload_n 1, 1) := by decide +kernel
theorem dX13_canTake_25 : decode cX13_canTake 25 = .ok (.iaload, 1) := by decide +kernel
theorem dX13_canTake_26 : decode cX13_canTake 26 = .ok (.bipush 25, 2) := by decide +kernel
theorem dX13_canTake_28 : decode cX13_canTake 28 = .ok (.if_icmp .eq 14, 3) := by decide +kernel
theorem dX13_canTake_31 : decode cX13_canTake 31 = .ok (.aload_n 0, 1) := by decide +kernel
theorem dX13_canTake_32 : decode cX13_canTake 32 = .ok (.getfield 28, 3) := by decide +kernel
theorem dX13_canTake_35 : decode cX13_canTake 35 = .ok (.iload_n 1, 1) := by decide +kernel
theorem dX13_canTake_36 : decode cX13_canTake 36 = .ok (.iaload, 1) := by decide +kernel
theorem dX13_canTake_37 : decode cX13_canTake 37 = .ok (.bipush 32, 2) := by decide +kernel
theorem dX13_canTake_39 : decode cX13_canTake 39 = .ok (.if_icmp .ne 5, 3) := by decide +kernel
theorem dX13_canTake_42 : decode cX13_canTake 42 = .ok (.iconst 1, 1) := by decide +kernel
theorem dX13_canTake_43 : decode cX13_canTake 43 = .ok (.ireturn, 1) := by decide +kernel
theorem dX13_canTake_44 : decode cX13_canTake 44 = .ok (.aload_n 0, 1) := by decide +kernel
theorem dX13_canTake_45 : decode cX13_canTake 45 = .ok (.getfield 28, 3) := by decide +kernel
theorem dX13_canTake_48 : decode cX13_canTake 48 = .ok (.iload_n 1, 1) := by decide +kernel
theorem dX13_canTake_49 : decode cX13_canTake 49 = .ok (.iaload, 1) := by decide +kernel
theorem dX13_canTake_50 : decode cX13_canTake 50 = .ok (.bipush 30, 2) := by decide +kernel
theorem dX13_canTake_52 : decode cX13_canTake 52 = .ok (.if_icmp .ne 17, 3) := by decide +kernel
theorem dX13_canTake_55 : decode cX13_canTake 55 = .ok (.aload_n 0, 1) := by decide +kernel
theorem dX13_canTake_56 : decode cX13_canTake 56 = .ok (.getfield 52, 3) := by decide +kernel
theorem dX13_canTake_59 : decode cX13_canTake 59 = .ok (.iload_n 1, 1) := by decide +kernel
theorem dX13_canTake_60 : decode cX13_canTake 60 = .ok (.iaload, 1) := by decide +kernel
theorem dX13_canTake_61 : decode cX13_canTake 61 = .ok (.iconst (-1), 1) := by decide +kernel
theorem dX13_canTake_62 : decode cX13_canTake 62 = .ok (.if_icmp .eq 7, 3) := by decide +kernel
theorem dX13_canTake_65 : decode cX13_canTake 65 = .ok (.iconst 1, 1) := by decide +kernel
theorem dX13_canTake_66 : decode cX13_canTake 66 = .ok (.goto 4, 3) := by decide +kernel
theorem dX13_canTake_69 : decode cX13_canTake 69 = .ok (.iconst 0, 1) := by decide +kernel
theorem dX13_canTake_70 : decode cX13_canTake 70 = .ok (.ireturn, 1) := by decide +kernel
theorem rs_RX13_13 : mx_res RX13 13 = some (0, 13, 2) := by decide +kernel
theorem rs_RX13_19 : mx_res RX13 19 = some (0, 13, 5) := by decide +kernel
theorem rs_RX13_22 : mx_res RX13 22 = some (0, 13, 6) := by decide +kernel
theorem mt_X13_isLike : mx_mt 416 = some (yX13_isLike, cX13_isLike, 5, (some .boolean)) := rfl
theorem dX13_isLike_0 : decode cX13_isLike 0 = .ok (.aload_n 0, 1) := by decide +kernel
theorem dX13_isLike_1 : decode cX13_isLike 1 = .ok (.getfield 22, 3) := by decide +kernel
theorem dX13_isLike_4 : decode cX13_isLike 4 = .ok (.iload_n 1, 1) := by decide +kernel
theorem dX13_isLike_5 : decode cX13_isLike 5 = .ok (.iaload, 1) := by decide +kernel
theorem dX13_isLike_6 : decode cX13_isLike 6 = .ok (.aload_n 0, 1) := by decide +kernel
theorem dX13_isLike_7 : decode cX13_isLike 7 = .ok (.getfield 22, 3) := by decide +kernel
theorem dX13_isLike_10 : decode cX13_isLike 10 = .ok (.iload_n 2, 1) := by decide +kernel
theorem dX13_isLike_11 : decode cX13_isLike 11 = .ok (.iaload, 1) := by decide +kernel
theorem dX13_isLike_12 : decode cX13_isLike 12 = .ok (.if_icmp .ne 7, 3) := by decide +kernel
theorem dX13_isLike_15 : decode cX13_isLike 15 = .ok (.iconst 1, 1) := by decide +kernel
theorem dX13_isLike_16 : decode cX13_isLike 16 = .ok (.goto 4, 3) := by decide +kernel
theorem dX13_isLike_19 : decode cX13_isLike 19 = .ok (.iconst 0, 1) := by decide +kernel
theorem dX13_isLike_20 : decode cX13_isLike 20 = .ok (.istore_n 3, 1) := by decide +kernel
theorem dX13_isLike_21 : decode cX13_isLike 21 = .ok (.iconst 0, 1) := by decide +kernel
theorem dX13_isLike_22 : decode cX13_isLike 22 = .ok (.istore 4, 2) := by decide +kernel
theorem dX13_isLike_24 : decode cX13_isLike 24 = .ok (.iload 4, 2) := by decide +kernel
theorem dX13_isLike_26 : decode cX13_isLike 26 = .ok (.aload_n 0, 1) := by decide +kernel
theorem dX13_isLike_27 : decode cX13_isLike 27 = .ok (.getfield 22, 3) := by decide +kernel
theorem dX13_isLike_30 : decode cX13_isLike 30 = .ok (.iload_n 1, 1) := by decide +kernel
theorem dX13_isLike_31 : decode cX13_isLike 31 = .ok (.iaload, 1) := by decide +kernel
theorem dX13_isLike_32 : decode cX13_isLike 32 = .ok (.if_icmp .ge 50, 3) := by decide +kernel
theorem dX13_isLike_35 : decode cX13_isLike 35 = .ok (.iload_n 3, 1) := by decide +kernel
theorem dX13_isLike_36 : decode cX13_isLike 36 = .ok (.ifCond .eq 46, 3) := by decide +kernel
theorem dX13_isLike_39 : decode cX13_isLike 39 = .ok (.aload_n 0, 1) := by decide +kernel
theorem dX13_isLike_40 : decode cX13_isLike 40 = .ok (.getfield 13, 3) := by decide +kernel
theorem dX13_isLike_43 : decode cX13_isLike 43 = .ok (.aload_n 0, 1) := by decide +kernel
theorem dX13_isLike_44 : decode cX13_isLike 44 = .ok (.getfield 19, 3) := by decide +kernel
theorem dX13_isLike_47 : decode cX13_isLike 47 = .ok (.iload_n 1, 1) := by decide +kernel
theorem dX13_isLike_48 : decode cX13_isLike 48 = .ok (.iaload, 1) := by decide +kernel
theorem dX13_isLike_49 : decode cX13_isLike 49 = .ok (.iload 4, 2) := by decide +kernel
theorem dX13_isLike_51 : decode cX13_isLike 51 = .ok (.iadd, 1) := by decide +kernel
theorem dX13_isLike_52 : decode cX13_isLike 52 = .ok (.iaload, 1) := by decide +kernel
theorem dX13_isLike_53 : decode cX13_isLike 53 = .ok (.aload_n 0, 1) := by decide +kernel
theorem dX13_isLike_54 : decode cX13_isLike 54 = .ok (.getfield 13, 3) := by decide +kernel
theorem dX13_isLike_57 : decode cX13_isLike 57 = .ok (.aload_n 0, 1) := by decide +kernel
theorem dX13_isLike_58 : decode cX13_isLike 58 = .ok (.getfield 19, 3) := by decide +kernel
theorem dX13_isLike_61 : decode cX13_isLike 61 = .ok (.iload_n 2, 1) := by decide +kernel
theorem dX13_isLike_62 : decode cX13_isLike 62 = .ok (.iaload, 1) := by decide +kernel
theorem dX13_isLike_63 : decode cX13_isLike 63 = .ok (.iload 4, 2) := by decide +kernel
theorem dX13_isLike_65 : decode cX13_isLike 65 = .ok (.iadd, 1) := by decide +kernel
theorem dX13_isLike_66 : decode cX13_isLike 66 = .ok (.iaload, 1) := by decide +kernel
theorem dX13_isLike_67 : decode cX13_isLike 67 = .ok (.if_icmp .ne 7, 3) := by decide +kernel
theorem dX13_isLike_70 : decode cX13_isLike 70 = .ok (.iconst 1, 1) := by decide +kernel
theorem dX13_isLike_71 : decode cX13_isLike 71 = .ok (.goto 4, 3) := by decide +kernel
theorem dX13_isLike_74 : decode cX13_isLike 74 = .ok (.iconst 0, 1) := by decide +kernel
theorem dX13_isLike_75 : decode cX13_isLike 75 = .ok (.istore_n 3, 1) := by decide +kernel
theorem dX13_isLike_76 : decode cX13_isLike 76 = .ok (.iinc 4 1, 3) := by decide +kernel
theorem dX13_isLike_79 : decode cX13_isLike 79 = .ok (.goto (-55), 3) := by decide +kernel
theorem dX13_isLike_82 : decode cX13_isLike 82 = .ok (.iload_n 3, 1) := by decide +kernel
theorem dX13_isLike_83 : decode cX13_isLike 83 = .ok (.ireturn, 1) := by decide +kernel
theorem rs_RX13_68 : mx_res RX13 68 = some (0, 13, 27) := by decide +kernel
theorem mt_X13_upperOf : mx_mt 418 = some (yX13_upperOf, cX13_upperOf, 2, (some .int)) := rfl
theorem dX13_upperOf_0 : decode cX13_upperOf 0 = .ok (.iload_n 1, 1) := by decide +kernel
theorem dX13_upperOf_1 : decode cX13_upperOf 1 = .ok (.ifCond .ne 7, 3) := by decide +kernel
theorem dX13_upperOf_4 : decode cX13_upperOf 4 = .ok (.iconst (-1), 1) := by decide +kernel
theorem dX13_upperOf_5 : decode cX13_upperOf 5 = .ok (.goto 31, 3) := by decide +kernel
theorem dX13_upperOf_8 : decode cX13_upperOf 8 = .ok (.iload_n 1, 1) := by decide +kernel
theorem dX13_upperOf_9 : decode cX13_upperOf 9 = .ok (.iconst 1, 1) := by decide +kernel
theorem dX13_upperOf_10 : decode cX13_upperOf 10 = .ok (.if_icmp .ne 7, 3) := by decide +kernel
theorem dX13_upperOf_13 : decode cX13_upperOf 13 = .ok (.iconst 0, 1) := by decide +kernel
theorem dX13_upperOf_14 : decode cX13_upperOf 14 = .ok (.goto 22, 3) := by decide +kernel
theorem dX13_upperOf_17 : decode cX13_upperOf 17 = .ok (.iload_n 1, 1) := by decide +kernel
theorem dX13_upperOf_18 : decode cX13_upperOf 18 = .ok (.bipush 8, 2) := by decide +kernel
theorem dX13_upperOf_20 : decode cX13_upperOf 20 = .ok (.if_icmp .ge 7, 3) := by decide +kernel
theorem dX13_upperOf_23 : decode cX13_upperOf 23 = .ok (.iconst 1, 1) := by decide +kernel
theorem dX13_upperOf_24 : decode cX13_upperOf 24 = .ok (.goto 12, 3) := by decide +kernel
theorem dX13_upperOf_27 : decode cX13_upperOf 27 = .ok (.aload_n 0, 1) := by decide +kernel
theorem dX13_upperOf_28 : decode cX13_upperOf 28 = .ok (.getfield 68, 3) := by decide +kernel
theorem dX13_upperOf_31 : decode cX13_upperOf 31 = .ok (.iload_n 1, 1) := by decide +kernel
theorem dX13_upperOf_32 : decode cX13_upperOf 32 = .ok (.bipush 8, 2) := by decide +kernel
theorem dX13_upperOf_34 : decode cX13_upperOf 34 = .ok (.isub, 1) := by decide +kernel
theorem dX13_upperOf_35 : decode cX13_upperOf 35 = .ok (.iaload, 1) := by decide +kernel
theorem dX13_upperOf_36 : decode cX13_upperOf 36 = .ok (.ireturn, 1) := by decide +kernel
theorem rs_RX13_71 : mx_res RX13 71 = some (0, 13, 29) := by decide +kernel
theorem rs_RX13_74 : mx_res RX13 74 = some (0, 13, 30) := by decide +kernel
theorem rs_RX13_86 : mx_res RX13 86 = some (0, 13, 34) := by decide +kernel
theorem rs_RX13_412 : mx_res RX13 412 = some (0, 13, 28) := by decide +kernel
theorem rs_RX13_479 : mx_res RX13 479 = some (1, 416, 2) := by decide +kernel
theorem rs_RX13_482 : mx_res RX13 482 = some (1, 418, 1) := by decide +kernel
theorem mt_X13_memberOf : mx_mt 425 = some (yX13_memberOf, cX13_memberOf, 6, (some .int)) := rfl
theorem dX13_memberOf_0 : decode cX13_memberOf 0 = .ok (.iload_n 1, 1) := by decide +kernel
theorem dX13_memberOf_1 : decode cX13_memberOf 1 = .ok (.istore 4, 2) := by decide +kernel
theorem dX13_memberOf_3 : decode cX13_memberOf 3 = .ok (.iload 4, 2) := by decide +kernel
theorem dX13_memberOf_5 : decode cX13_memberOf 5 = .ok (.iconst (-1), 1) := by decide +kernel
theorem dX13_memberOf_6 : decode cX13_memberOf 6 = .ok (.if_icmp .eq 84, 3) := by decide +kernel
theorem dX13_memberOf_9 : decode cX13_memberOf 9 = .ok (.iconst 0, 1) := by decide +kernel
theorem dX13_memberOf_10 : decode cX13_memberOf 10 = .ok (.istore 5, 2) := by decide +kernel
theorem dX13_memberOf_12 : decode cX13_memberOf 12 = .ok (.iload 5, 2) := by decide +kernel
theorem dX13_memberOf_14 : decode cX13_memberOf 14 = .ok (.aload_n 0, 1) := by decide +kernel
theorem dX13_memberOf_15 : decode cX13_memberOf 15 = .ok (.getfield 412, 3) := by decide +kernel
theorem dX13_memberOf_18 : decode cX13_memberOf 18 = .ok (.if_icmp .ge 61, 3) := by decide +kernel
theorem dX13_memberOf_21 : decode cX13_memberOf 21 = .ok (.aload_n 0, 1) := by decide +kernel
theorem dX13_memberOf_22 : decode cX13_memberOf 22 = .ok (.getfield 71, 3) := by decide +kernel
theorem dX13_memberOf_25 : decode cX13_memberOf 25 = .ok (.iload 5, 2) := by decide +kernel
theorem dX13_memberOf_27 : decode cX13_memberOf 27 = .ok (.iaload, 1) := by decide +kernel
theorem dX13_memberOf_28 : decode cX13_memberOf 28 = .ok (.iload 4, 2) := by decide +kernel
theorem dX13_memberOf_30 : decode cX13_memberOf 30 = .ok (.bipush 8, 2) := by decide +kernel
theorem dX13_memberOf_32 : decode cX13_memberOf 32 = .ok (.isub, 1) := by decide +kernel
theorem dX13_memberOf_33 : decode cX13_memberOf 33 = .ok (.if_icmp .ne 40, 3) := by decide +kernel
theorem dX13_memberOf_36 : decode cX13_memberOf 36 = .ok (.aload_n 0, 1) := by decide +kernel
theorem dX13_memberOf_37 : decode cX13_memberOf 37 = .ok (.getfield 74, 3) := by decide +kernel
theorem dX13_memberOf_40 : decode cX13_memberOf 40 = .ok (.iload 5, 2) := by decide +kernel
theorem dX13_memberOf_42 : decode cX13_memberOf 42 = .ok (.iaload, 1) := by decide +kernel
theorem dX13_memberOf_43 : decode cX13_memberOf 43 = .ok (.ifCond .le 7, 3) := by decide +kernel
theorem dX13_memberOf_46 : decode cX13_memberOf 46 = .ok (.iconst 1, 1) := by decide +kernel
theorem dX13_memberOf_47 : decode cX13_memberOf 47 = .ok (.goto 4, 3) := by decide +kernel
theorem dX13_memberOf_50 : decode cX13_memberOf 50 = .ok (.iconst 0, 1) := by decide +kernel
theorem dX13_memberOf_51 : decode cX13_memberOf 51 = .ok (.iload_n 3, 1) := by decide +kernel
theorem dX13_memberOf_52 : decode cX13_memberOf 52 = .ok (.if_icmp .ne 21, 3) := by decide +kernel
theorem dX13_memberOf_55 : decode cX13_memberOf 55 = .ok (.aload_n 0, 1) := by decide +kernel
theorem dX13_memberOf_56 : decode cX13_memberOf 56 = .ok (.aload_n 0, 1) := by decide +kernel
theorem dX13_memberOf_57 : decode cX13_memberOf 57 = .ok (.getfield 86, 3) := by decide +kernel
theorem dX13_memberOf_60 : decode cX13_memberOf 60 = .ok (.iload 5, 2) := by decide +kernel
theorem dX13_memberOf_62 : decode cX13_memberOf 62 = .ok (.iaload, 1) := by decide +kernel
theorem dX13_memberOf_63 : decode cX13_memberOf 63 = .ok (.iload_n 2, 1) := by decide +kernel
theorem dX13_memberOf_64 : decode cX13_memberOf 64 = .ok (.invokevirtual 479, 3) := by decide +kernel
theorem dX13_memberOf_67 : decode cX13_memberOf 67 = .ok (.ifCond .eq 6, 3) := by decide +kernel
theorem dX13_memberOf_70 : decode cX13_memberOf 70 = .ok (.iload 5, 2) := by decide +kernel
theorem dX13_memberOf_72 : decode cX13_memberOf 72 = .ok (.ireturn, 1) := by decide +kernel
theorem dX13_memberOf_73 : decode cX13_memberOf 73 = .ok (.iinc 5 1, 3) := by decide +kernel
theorem dX13_memberOf_76 : decode cX13_memberOf 76 = .ok (.goto (-64), 3) := by decide +kernel
theorem dX13_memberOf_79 : decode cX13_memberOf 79 = .ok (.aload_n 0, 1) := by decide +kernel
theorem dX13_memberOf_80 : decode cX13_memberOf 80 = .ok (.iload 4, 2) := by decide +kernel
theorem dX13_memberOf_82 : decode cX13_memberOf 82 = .ok (.invokevirtual 482, 3) := by decide +kernel
theorem dX13_memberOf_85 : decode cX13_memberOf 85 = .ok (.istore 4, 2) := by decide +kernel
theorem dX13_memberOf_87 : decode cX13_memberOf 87 = .ok (.goto (-84), 3) := by decide +kernel
theorem dX13_memberOf_90 : decode cX13_memberOf 90 = .ok (.iconst (-1), 1) := by decide +kernel
theorem dX13_memberOf_91 : decode cX13_memberOf 91 = .ok (.ireturn, 1) := by decide +kernel
theorem mt_X13_sightOf : mx_mt 430 = some (yX13_sightOf, cX13_sightOf, 3, (some .int)) := rfl
theorem dX13_sightOf_0 : decode cX13_sightOf 0 = .ok (.aload_n 0, 1) := by decide +kernel
theorem dX13_sightOf_1 : decode cX13_sightOf 1 = .ok (.getfield 513, 3) := by decide +kernel
theorem dX13_sightOf_4 : decode cX13_sightOf 4 = .ok (.iconst 1, 1) := by decide +kernel
theorem dX13_sightOf_5 : decode cX13_sightOf 5 = .ok (.isub, 1) := by decide +kernel
theorem dX13_sightOf_6 : decode cX13_sightOf 6 = .ok (.istore_n 2, 1) := by decide +kernel
theorem dX13_sightOf_7 : decode cX13_sightOf 7 = .ok (.iload_n 2, 1) := by decide +kernel
theorem dX13_sightOf_8 : decode cX13_sightOf 8 = .ok (.ifCond .lt 25, 3) := by decide +kernel
theorem dX13_sightOf_11 : decode cX13_sightOf 11 = .ok (.aload_n 0, 1) := by decide +kernel
theorem dX13_sightOf_12 : decode cX13_sightOf 12 = .ok (.aload_n 0, 1) := by decide +kernel
theorem dX13_sightOf_13 : decode cX13_sightOf 13 = .ok (.getfield 116, 3) := by decide +kernel
theorem dX13_sightOf_16 : decode cX13_sightOf 16 = .ok (.iload_n 2, 1) := by decide +kernel
theorem dX13_sightOf_17 : decode cX13_sightOf 17 = .ok (.iaload, 1) := by decide +kernel
theorem dX13_sightOf_18 : decode cX13_sightOf 18 = .ok (.iload_n 1, 1) := by decide +kernel
theorem dX13_sightOf_19 : decode cX13_sightOf 19 = .ok (.invokevirtual 479, 3) := by decide +kernel
theorem dX13_sightOf_22 : decode cX13_sightOf 22 = .ok (.ifCond .eq 5, 3) := by decide +kernel
theorem dX13_sightOf_25 : decode cX13_sightOf 25 = .ok (.iload_n 2, 1) := by decide +kernel
theorem dX13_sightOf_26 : decode cX13_sightOf 26 = .ok (.ireturn, 1) := by decide +kernel
theorem dX13_sightOf_27 : decode cX13_sightOf 27 = .ok (.iinc 2 (-1), 3) := by decide +kernel
theorem dX13_sightOf_30 : decode cX13_sightOf 30 = .ok (.goto (-23), 3) := by decide +kernel
theorem dX13_sightOf_33 : decode cX13_sightOf 33 = .ok (.iconst (-1), 1) := by decide +kernel
theorem dX13_sightOf_34 : decode cX13_sightOf 34 = .ok (.ireturn, 1) := by decide +kernel
theorem rs_RX13_31 : mx_res RX13 31 = some (0, 13, 12) := by decide +kernel
theorem rs_RX13_37 : mx_res RX13 37 = some (0, 13, 14) := by decide +kernel
theorem rs_RX13_507 : mx_res RX13 507 = some (1, 425, 3) := by decide +kernel
theorem rs_RX13_519 : mx_res RX13 519 = some (0, 13, 52) := by decide +kernel
theorem rs_RX13_534 : mx_res RX13 534 = some (1, 430, 1) := by decide +kernel
theorem mt_X13_isByClass : mx_mt 445 = some (yX13_isByClass, cX13_isByClass, 3, (some .boolean)) := rfl
theorem dX13_isByClass_0 : decode cX13_isByClass 0 = .ok (.aload_n 0, 1) := by decide +kernel
theorem dX13_isByClass_1 : decode cX13_isByClass 1 = .ok (.getfield 37, 3) := by decide +kernel
theorem dX13_isByClass_4 : decode cX13_isByClass 4 = .ok (.iload_n 1, 1) := by decide +kernel
theorem dX13_isByClass_5 : decode cX13_isByClass 5 = .ok (.iaload, 1) := by decide +kernel
theorem dX13_isByClass_6 : decode cX13_isByClass 6 = .ok (.istore_n 2, 1) := by decide +kernel
theorem dX13_isByClass_7 : decode cX13_isByClass 7 = .ok (.aload_n 0, 1) := by decide +kernel
theorem dX13_isByClass_8 : decode cX13_isByClass 8 = .ok (.getfield 28, 3) := by decide +kernel
theorem dX13_isByClass_11 : decode cX13_isByClass 11 = .ok (.iload_n 2, 1) := by decide +kernel
theorem dX13_isByClass_12 : decode cX13_isByClass 12 = .ok (.iaload, 1) := by decide +kernel
theorem dX13_isByClass_13 : decode cX13_isByClass 13 = .ok (.bipush 25, 2) := by decide +kernel
theorem dX13_isByClass_15 : decode cX13_isByClass 15 = .ok (.if_icmp .ne 49, 3) := by decide +kernel
theorem dX13_isByClass_18 : decode cX13_isByClass 18 = .ok (.aload_n 0, 1) := by decide +kernel
theorem dX13_isByClass_19 : decode cX13_isByClass 19 = .ok (.getfield 58, 3) := by decide +kernel
theorem dX13_isByClass_22 : decode cX13_isByClass 22 = .ok (.iload_n 2, 1) := by decide +kernel
theorem dX13_isByClass_23 : decode cX13_isByClass 23 = .ok (.baload, 1) := by decide +kernel
theorem dX13_isByClass_24 : decode cX13_isByClass 24 = .ok (.ifCond .ne 40, 3) := by decide +kernel
theorem dX13_isByClass_27 : decode cX13_isByClass 27 = .ok (.aload_n 0, 1) := by decide +kernel
theorem dX13_isByClass_28 : decode cX13_isByClass 28 = .ok (.aload_n 0, 1) := by decide +kernel
theorem dX13_isByClass_29 : decode cX13_isByClass 29 = .ok (.getfield 31, 3) := by decide +kernel
theorem dX13_isByClass_32 : decode cX13_isByClass 32 = .ok (.iload_n 2, 1) := by decide +kernel
theorem dX13_isByClass_33 : decode cX13_isByClass 33 = .ok (.iaload, 1) := by decide +kernel
theorem dX13_isByClass_34 : decode cX13_isByClass 34 = .ok (.invokevirtual 534, 3) := by decide +kernel
theorem dX13_isByClass_37 : decode cX13_isByClass 37 = .ok (.iconst (-1), 1) := by decide +kernel
theorem dX13_isByClass_38 : decode cX13_isByClass 38 = .ok (.if_icmp .ne 26, 3) := by decide +kernel
theorem dX13_isByClass_41 : decode cX13_isByClass 41 = .ok (.aload_n 0, 1) := by decide +kernel
theorem dX13_isByClass_42 : decode cX13_isByClass 42 = .ok (.aload_n 0, 1) := by decide +kernel
theorem dX13_isByClass_43 : decode cX13_isByClass 43 = .ok (.getfield 519, 3) := by decide +kernel
theorem dX13_isByClass_46 : decode cX13_isByClass 46 = .ok (.aload_n 0, 1) := by decide +kernel
theorem dX13_isByClass_47 : decode cX13_isByClass 47 = .ok (.getfield 31, 3) := by decide +kernel
theorem dX13_isByClass_50 : decode cX13_isByClass 50 = .ok (.iload_n 2, 1) := by decide +kernel
theorem dX13_isByClass_51 : decode cX13_isByClass 51 = .ok (.iaload, 1) := by decide +kernel
theorem dX13_isByClass_52 : decode cX13_isByClass 52 = .ok (.iconst 0, 1) := by decide +kernel
theorem dX13_isByClass_53 : decode cX13_isByClass 53 = .ok (.invokevirtual 507, 3) := by decide +kernel
theorem dX13_isByClass_56 : decode cX13_isByClass 56 = .ok (.iconst (-1), 1) := by decide +kernel
theorem dX13_isByClass_57 : decode cX13_isByClass 57 = .ok (.if_icmp .ne 7, 3) := by decide +kernel
theorem dX13_isByClass_60 : decode cX13_isByClass 60 = .ok (.iconst 1, 1) := by decide +kernel
theorem dX13_isByClass_61 : decode cX13_isByClass 61 = .ok (.goto 4, 3) := by decide +kernel
theorem dX13_isByClass_64 : decode cX13_isByClass 64 = .ok (.iconst 0, 1) := by decide +kernel
theorem dX13_isByClass_65 : decode cX13_isByClass 65 = .ok (.ireturn, 1) := by decide +kernel
theorem rs_RX13_552 : mx_res RX13 552 = some (1, 445, 1) := by decide +kernel
theorem mt_X13_isLed : mx_mt 437 = some (yX13_isLed, cX13_isLed, 3, (some .boolean)) := rfl
theorem dX13_isLed_0 : decode cX13_isLed 0 = .ok (.aload_n 0, 1) := by decide +kernel
theorem dX13_isLed_1 : decode cX13_isLed 1 = .ok (.getfield 28, 3) := by decide +kernel
theorem dX13_isLed_4 : decode cX13_isLed 4 = .ok (.iload_n 1, 1) := by decide +kernel
theorem dX13_isLed_5 : decode cX13_isLed 5 = .ok (.iaload, 1) := by decide +kernel
theorem dX13_isLed_6 : decode cX13_isLed 6 = .ok (.istore_n 2, 1) := by decide +kernel
theorem dX13_isLed_7 : decode cX13_isLed 7 = .ok (.iload_n 2, 1) := by decide +kernel
theorem dX13_isLed_8 : decode cX13_isLed 8 = .ok (.bipush 37, 2) := by decide +kernel
theorem dX13_isLed_10 : decode cX13_isLed 10 = .ok (.if_icmp .eq 35, 3) := by decide +kernel
theorem dX13_isLed_13 : decode cX13_isLed 13 = .ok (.iload_n 2, 1) := by decide +kernel
theorem dX13_isLed_14 : decode cX13_isLed 14 = .ok (.bipush 38, 2) := by decide +kernel
theorem dX13_isLed_16 : decode cX13_isLed 16 = .ok (.if_icmp .eq 29, 3) := by decide +kernel
theorem dX13_isLed_19 : decode cX13_isLed 19 = .ok (.iload_n 2, 1) := by decide +kernel
theorem dX13_isLed_20 : decode cX13_isLed 20 = .ok (.bipush 30, 2) := by decide +kernel
theorem dX13_isLed_22 : decode cX13_isLed 22 = .ok (.if_icmp .eq 23, 3) := by decide +kernel
theorem dX13_isLed_25 : decode cX13_isLed 25 = .ok (.iload_n 2, 1) := by decide +kernel
theorem dX13_isLed_26 : decode cX13_isLed 26 = .ok (.bipush 32, 2) := by decide +kernel
theorem dX13_isLed_28 : decode cX13_isLed 28 = .ok (.if_icmp .eq 17, 3) := by decide +kernel
theorem dX13_isLed_31 : decode cX13_isLed 31 = .ok (.iload_n 2, 1) := by decide +kernel
theorem dX13_isLed_32 : decode cX13_isLed 32 = .ok (.bipush 31, 2) := by decide +kernel
theorem dX13_isLed_34 : decode cX13_isLed 34 = .ok (.if_icmp .ne 15, 3) := by decide +kernel
theorem dX13_isLed_37 : decode cX13_isLed 37 = .ok (.aload_n 0, 1) := by decide +kernel
theorem dX13_isLed_38 : decode cX13_isLed 38 = .ok (.iload_n 1, 1) := by decide +kernel
theorem dX13_isLed_39 : decode cX13_isLed 39 = .ok (.invokevirtual 552, 3) := by decide +kernel
theorem dX13_isLed_42 : decode cX13_isLed 42 = .ok (.ifCond .ne 7, 3) := by decide +kernel
theorem dX13_isLed_45 : decode cX13_isLed 45 = .ok (.iconst 1, 1) := by decide +kernel
theorem dX13_isLed_46 : decode cX13_isLed 46 = .ok (.goto 4, 3) := by decide +kernel
theorem dX13_isLed_49 : decode cX13_isLed 49 = .ok (.iconst 0, 1) := by decide +kernel
theorem dX13_isLed_50 : decode cX13_isLed 50 = .ok (.ireturn, 1) := by decide +kernel
theorem mt_X13_extendsIt : mx_mt 419 = some (yX13_extendsIt, cX13_extendsIt, 4, (some .boolean)) := rfl
theorem dX13_extendsIt_0 : decode cX13_extendsIt 0 = .ok (.iload_n 1, 1) := by decide +kernel
theorem dX13_extendsIt_1 : decode cX13_extendsIt 1 = .ok (.istore_n 3, 1) := by decide +kernel
theorem dX13_extendsIt_2 : decode cX13_extendsIt 2 = .ok (.iload_n 3, 1) := by decide +kernel
theorem dX13_extendsIt_3 : decode cX13_extendsIt 3 = .ok (.iconst (-1), 1) := by decide +kernel
theorem dX13_extendsIt_4 : decode cX13_extendsIt 4 = .ok (.if_icmp .eq 17, 3) := by decide +kernel
theorem dX13_extendsIt_7 : decode cX13_extendsIt 7 = .ok (.iload_n 3, 1) := by decide +kernel
theorem dX13_extendsIt_8 : decode cX13_extendsIt 8 = .ok (.iload_n 2, 1) := by decide +kernel
theorem dX13_extendsIt_9 : decode cX13_extendsIt 9 = .ok (.if_icmp .eq 12, 3) := by decide +kernel
theorem dX13_extendsIt_12 : decode cX13_extendsIt 12 = .ok (.aload_n 0, 1) := by decide +kernel
theorem dX13_extendsIt_13 : decode cX13_extendsIt 13 = .ok (.iload_n 3, 1) := by decide +kernel
theorem dX13_extendsIt_14 : decode cX13_extendsIt 14 = .ok (.invokevirtual 482, 3) := by decide +kernel
theorem dX13_extendsIt_17 : decode cX13_extendsIt 17 = .ok (.istore_n 3, 1) := by decide +kernel
theorem dX13_extendsIt_18 : decode cX13_extendsIt 18 = .ok (.goto (-16), 3) := by decide +kernel
theorem dX13_extendsIt_21 : decode cX13_extendsIt 21 = .ok (.iload_n 3, 1) := by decide +kernel
theorem dX13_extendsIt_22 : decode cX13_extendsIt 22 = .ok (.iload_n 2, 1) := by decide +kernel
theorem dX13_extendsIt_23 : decode cX13_extendsIt 23 = .ok (.if_icmp .ne 7, 3) := by decide +kernel
theorem dX13_extendsIt_26 : decode cX13_extendsIt 26 = .ok (.iconst 1, 1) := by decide +kernel
theorem dX13_extendsIt_27 : decode cX13_extendsIt 27 = .ok (.goto 4, 3) := by decide +kernel
theorem dX13_extendsIt_30 : decode cX13_extendsIt 30 = .ok (.iconst 0, 1) := by decide +kernel
theorem dX13_extendsIt_31 : decode cX13_extendsIt 31 = .ok (.ireturn, 1) := by decide +kernel
theorem mt_X13_isArray : mx_mt 420 = some (yX13_isArray, cX13_isArray, 1, (some .boolean)) := rfl
theorem dX13_isArray_0 : decode cX13_isArray 0 = .ok (.iload_n 0, 1) := by decide +kernel
theorem dX13_isArray_1 : decode cX13_isArray 1 = .ok (.iconst 4, 1) := by decide +kernel
theorem dX13_isArray_2 : decode cX13_isArray 2 = .ok (.if_icmp .eq 16, 3) := by decide +kernel
theorem dX13_isArray_5 : decode cX13_isArray 5 = .ok (.iload_n 0, 1) := by decide +kernel
theorem dX13_isArray_6 : decode cX13_isArray 6 = .ok (.bipush 8, 2) := by decide +kernel
theorem dX13_isArray_8 : decode cX13_isArray 8 = .ok (.if_icmp .lt 14, 3) := by decide +kernel
theorem dX13_isArray_11 : decode cX13_isArray 11 = .ok (.iload_n 0, 1) := by decide +kernel
theorem dX13_isArray_12 : decode cX13_isArray 12 = .ok (.iconst 2, 1) := by decide +kernel
theorem dX13_isArray_13 : decode cX13_isArray 13 = .ok (.irem, 1) := by decide +kernel
theorem dX13_isArray_14 : decode cX13_isArray 14 = .ok (.iconst 1, 1) := by decide +kernel
theorem dX13_isArray_15 : decode cX13_isArray 15 = .ok (.if_icmp .ne 7, 3) := by decide +kernel
theorem dX13_isArray_18 : decode cX13_isArray 18 = .ok (.iconst 1, 1) := by decide +kernel
theorem dX13_isArray_19 : decode cX13_isArray 19 = .ok (.goto 4, 3) := by decide +kernel
theorem dX13_isArray_22 : decode cX13_isArray 22 = .ok (.iconst 0, 1) := by decide +kernel
theorem dX13_isArray_23 : decode cX13_isArray 23 = .ok (.ireturn, 1) := by decide +kernel
theorem rs_RX13_485 : mx_res RX13 485 = some (2, 420, 1) := by decide +kernel
theorem rs_RX13_488 : mx_res RX13 488 = some (1, 419, 2) := by decide +kernel
theorem mt_X13_fits : mx_mt 422 = some (yX13_fits, cX13_fits, 3, (some .boolean)) := rfl
theorem dX13_fits_0 : decode cX13_fits 0 = .ok (.iload_n 1, 1) := by decide +kernel
theorem dX13_fits_1 : decode cX13_fits 1 = .ok (.iload_n 2, 1) := by decide +kernel
theorem dX13_fits_2 : decode cX13_fits 2 = .ok (.if_icmp .ne 5, 3) := by decide +kernel
theorem dX13_fits_5 : decode cX13_fits 5 = .ok (.iconst 1, 1) := by decide +kernel
theorem dX13_fits_6 : decode cX13_fits 6 = .ok (.ireturn, 1) := by decide +kernel
theorem dX13_fits_7 : decode cX13_fits 7 = .ok (.iload_n 1, 1) := by decide +kernel
theorem dX13_fits_8 : decode cX13_fits 8 = .ok (.iconst 2, 1) := by decide +kernel
theorem dX13_fits_9 : decode cX13_fits 9 = .ok (.if_icmp .ne 20, 3) := by decide +kernel
theorem dX13_fits_12 : decode cX13_fits 12 = .ok (.iload_n 2, 1) := by decide +kernel
theorem dX13_fits_13 : decode cX13_fits 13 = .ok (.iconst 4, 1) := by decide +kernel
theorem dX13_fits_14 : decode cX13_fits 14 = .ok (.if_icmp .eq 9, 3) := by decide +kernel
theorem dX13_fits_17 : decode cX13_fits 17 = .ok (.iload_n 2, 1) := by decide +kernel
theorem dX13_fits_18 : decode cX13_fits 18 = .ok (.bipush 8, 2) := by decide +kernel
theorem dX13_fits_20 : decode cX13_fits 20 = .ok (.if_icmp .lt 7, 3) := by decide +kernel
theorem dX13_fits_23 : decode cX13_fits 23 = .ok (.iconst 1, 1) := by decide +kernel
theorem dX13_fits_24 : decode cX13_fits 24 = .ok (.goto 4, 3) := by decide +kernel
theorem dX13_fits_27 : decode cX13_fits 27 = .ok (.iconst 0, 1) := by decide +kernel
theorem dX13_fits_28 : decode cX13_fits 28 = .ok (.ireturn, 1) := by decide +kernel
theorem dX13_fits_29 : decode cX13_fits 29 = .ok (.iload_n 1, 1) := by decide +kernel
theorem dX13_fits_30 : decode cX13_fits 30 = .ok (.invokestatic 485, 3) := by decide +kernel
theorem dX13_fits_33 : decode cX13_fits 33 = .ok (.ifCond .eq 11, 3) := by decide +kernel
theorem dX13_fits_36 : decode cX13_fits 36 = .ok (.iload_n 2, 1) := by decide +kernel
theorem dX13_fits_37 : decode cX13_fits 37 = .ok (.bipush 8, 2) := by decide +kernel
theorem dX13_fits_39 : decode cX13_fits 39 = .ok (.if_icmp .ne 5, 3) := by decide +kernel
theorem dX13_fits_42 : decode cX13_fits 42 = .ok (.iconst 1, 1) := by decide +kernel
theorem dX13_fits_43 : decode cX13_fits 43 = .ok (.ireturn, 1) := by decide +kernel
theorem dX13_fits_44 : decode cX13_fits 44 = .ok (.iload_n 1, 1) := by decide +kernel
theorem dX13_fits_45 : decode cX13_fits 45 = .ok (.bipush 8, 2) := by decide +kernel
theorem dX13_fits_47 : decode cX13_fits 47 = .ok (.if_icmp .lt 41, 3) := by decide +kernel
theorem dX13_fits_50 : decode cX13_fits 50 = .ok (.iload_n 2, 1) := by decide +kernel
theorem dX13_fits_51 : decode cX13_fits 51 = .ok (.bipush 8, 2) := by decide +kernel
theorem dX13_fits_53 : decode cX13_fits 53 = .ok (.if_icmp .lt 35, 3) := by decide +kernel
theorem dX13_fits_56 : decode cX13_fits 56 = .ok (.iload_n 1, 1) := by decide +kernel
theorem dX13_fits_57 : decode cX13_fits 57 = .ok (.iconst 2, 1) := by decide +kernel
theorem dX13_fits_58 : decode cX13_fits 58 = .ok (.irem, 1) := by decide +kernel
theorem dX13_fits_59 : decode cX13_fits 59 = .ok (.iload_n 2, 1) := by decide +kernel
theorem dX13_fits_60 : decode cX13_fits 60 = .ok (.iconst 2, 1) := by decide +kernel
theorem dX13_fits_61 : decode cX13_fits 61 = .ok (.irem, 1) := by decide +kernel
theorem dX13_fits_62 : decode cX13_fits 62 = .ok (.if_icmp .ne 26, 3) := by decide +kernel
theorem dX13_fits_65 : decode cX13_fits 65 = .ok (.aload_n 0, 1) := by decide +kernel
theorem dX13_fits_66 : decode cX13_fits 66 = .ok (.iload_n 1, 1) := by decide +kernel
theorem dX13_fits_67 : decode cX13_fits 67 = .ok (.bipush 8, 2) := by decide +kernel
theorem dX13_fits_69 : decode cX13_fits 69 = .ok (.isub, 1) := by decide +kernel
theorem dX13_fits_70 : decode cX13_fits 70 = .ok (.iconst 2, 1) := by decide +kernel
theorem dX13_fits_71 : decode cX13_fits 71 = .ok (.idiv, 1) := by decide +kernel
theorem dX13_fits_72 : decode cX13_fits 72 = .ok (.iload_n 2, 1) := by decide +kernel
theorem dX13_fits_73 : decode cX13_fits 73 = .ok (.bipush 8, 2) := by decide +kernel
theorem dX13_fits_75 : decode cX13_fits 75 = .ok (.isub, 1) := by decide +kernel
theorem dX13_fits_76 : decode cX13_fits 76 = .ok (.iconst 2, 1) := by decide +kernel
theorem dX13_fits_77 : decode cX13_fits 77 = .ok (.idiv, 1) := by decide +kernel
theorem dX13_fits_78 : decode cX13_fits 78 = .ok (.invokevirtual 488, 3) := by decide +kernel
theorem dX13_fits_81 : decode cX13_fits 81 = .ok (.ifCond .eq 7, 3) := by decide +kernel
theorem dX13_fits_84 : decode cX13_fits 84 = .ok (.iconst 1, 1) := by decide +kernel
theorem dX13_fits_85 : decode cX13_fits 85 = .ok (.goto 4, 3) := by decide +kernel
theorem dX13_fits_88 : decode cX13_fits 88 = .ok (.iconst 0, 1) := by decide +kernel
theorem dX13_fits_89 : decode cX13_fits 89 = .ok (.ireturn, 1) := by decide +kernel
theorem rs_RX13_491 : mx_res RX13 491 = some (1, 422, 2) := by decide +kernel
theorem mt_X13_goTogether : mx_mt 423 = some (yX13_goTogether, cX13_goTogether, 3, (some .boolean)) := rfl
theorem dX13_goTogether_0 : decode cX13_goTogether 0 = .ok (.iload_n 1, 1) := by decide +kernel
theorem dX13_goTogether_1 : decode cX13_goTogether 1 = .ok (.iconst 2, 1) := by decide +kernel
theorem dX13_goTogether_2 : decode cX13_goTogether 2 = .ok (.if_icmp .lt 8, 3) := by decide +kernel
theorem dX13_goTogether_5 : decode cX13_goTogether 5 = .ok (.iload_n 2, 1) := by decide +kernel
theorem dX13_goTogether_6 : decode cX13_goTogether 6 = .ok (.iconst 2, 1) := by decide +kernel
theorem dX13_goTogether_7 : decode cX13_goTogether 7 = .ok (.if_icmp .ge 14, 3) := by decide +kernel
theorem dX13_goTogether_10 : decode cX13_goTogether 10 = .ok (.iload_n 1, 1) := by decide +kernel
theorem dX13_goTogether_11 : decode cX13_goTogether 11 = .ok (.iload_n 2, 1) := by decide +kernel
theorem dX13_goTogether_12 : decode cX13_goTogether 12 = .ok (.if_icmp .ne 7, 3) := by decide +kernel
theorem dX13_goTogether_15 : decode cX13_goTogether 15 = .ok (.iconst 1, 1) := by decide +kernel
theorem dX13_goTogether_16 : decode cX13_goTogether 16 = .ok (.goto 4, 3) := by decide +kernel
theorem dX13_goTogether_19 : decode cX13_goTogether 19 = .ok (.iconst 0, 1) := by decide +kernel
theorem dX13_goTogether_20 : decode cX13_goTogether 20 = .ok (.ireturn, 1) := by decide +kernel
theorem dX13_goTogether_21 : decode cX13_goTogether 21 = .ok (.aload_n 0, 1) := by decide +kernel
theorem dX13_goTogether_22 : decode cX13_goTogether 22 = .ok (.iload_n 1, 1) := by decide +kernel
theorem dX13_goTogether_23 : decode cX13_goTogether 23 = .ok (.iload_n 2, 1) := by decide +kernel
theorem dX13_goTogether_24 : decode cX13_goTogether 24 = .ok (.invokevirtual 491, 3) := by decide +kernel
theorem dX13_goTogether_27 : decode cX13_goTogether 27 = .ok (.ifCond .ne 12, 3) := by decide +kernel
theorem dX13_goTogether_30 : decode cX13_goTogether 30 = .ok (.aload_n 0, 1) := by decide +kernel
theorem dX13_goTogether_31 : decode cX13_goTogether 31 = .ok (.iload_n 2, 1) := by decide +kernel
theorem dX13_goTogether_32 : decode cX13_goTogether 32 = .ok (.iload_n 1, 1) := by decide +kernel
theorem dX13_goTogether_33 : decode cX13_goTogether 33 = .ok (.invokevirtual 491, 3) := by decide +kernel
theorem dX13_goTogether_36 : decode cX13_goTogether 36 = .ok (.ifCond .eq 7, 3) := by decide +kernel
theorem dX13_goTogether_39 : decode cX13_goTogether 39 = .ok (.iconst 1, 1) := by decide +kernel
theorem dX13_goTogether_40 : decode cX13_goTogether 40 = .ok (.goto 4, 3) := by decide +kernel
theorem dX13_goTogether_43 : decode cX13_goTogether 43 = .ok (.iconst 0, 1) := by decide +kernel
theorem dX13_goTogether_44 : decode cX13_goTogether 44 = .ok (.ireturn, 1) := by decide +kernel
theorem rs_RX13_322 : mx_res RX13 322 = some (0, 13, 10) := by decide +kernel
theorem ft_13_9 : mx_fty 13 9 = some (.int, false, "ClassMillModel") := by decide +kernel
theorem ft_13_10 : mx_fty 13 10 = some (.int, false, "ClassMillModel") := by decide +kernel
theorem mt_X13_wrong : mx_mt 383 = some (yX13_wrong, cX13_wrong, 3, none) := rfl
theorem dX13_wrong_0 : decode cX13_wrong 0 = .ok (.aload_n 0, 1) := by decide +kernel
theorem dX13_wrong_1 : decode cX13_wrong 1 = .ok (.getfield 319, 3) := by decide +kernel
theorem dX13_wrong_4 : decode cX13_wrong 4 = .ok (.ifCond .eq 4, 3) := by decide +kernel
theorem dX13_wrong_7 : decode cX13_wrong 7 = .ok (.return_, 1) := by decide +kernel
theorem dX13_wrong_8 : decode cX13_wrong 8 = .ok (.aload_n 0, 1) := by decide +kernel
theorem dX13_wrong_9 : decode cX13_wrong 9 = .ok (.iload_n 1, 1) := by decide +kernel
theorem dX13_wrong_10 : decode cX13_wrong 10 = .ok (.putfield 319, 3) := by decide +kernel
theorem dX13_wrong_13 : decode cX13_wrong 13 = .ok (.aload_n 0, 1) := by decide +kernel
theorem dX13_wrong_14 : decode cX13_wrong 14 = .ok (.aload_n 0, 1) := by decide +kernel
theorem dX13_wrong_15 : decode cX13_wrong 15 = .ok (.getfield 19, 3) := by decide +kernel
theorem dX13_wrong_18 : decode cX13_wrong 18 = .ok (.iload_n 2, 1) := by decide +kernel
theorem dX13_wrong_19 : decode cX13_wrong 19 = .ok (.iaload, 1) := by decide +kernel
theorem dX13_wrong_20 : decode cX13_wrong 20 = .ok (.putfield 322, 3) := by decide +kernel
theorem dX13_wrong_23 : decode cX13_wrong 23 = .ok (.return_, 1) := by decide +kernel
theorem rs_RX13_49 : mx_res RX13 49 = some (0, 13, 18) := by decide +kernel
theorem rs_RX13_379 : mx_res RX13 379 = some (1, 383, 2) := by decide +kernel
theorem mt_X13_led : mx_mt 440 = some (yX13_led, cX13_led, 3, (some .int)) := rfl
theorem dX13_led_0 : decode cX13_led 0 = .ok (.aload_n 0, 1) := by decide +kernel
theorem dX13_led_1 : decode cX13_led 1 = .ok (.getfield 319, 3) := by decide +kernel
theorem dX13_led_4 : decode cX13_led 4 = .ok (.ifCond .eq 5, 3) := by decide +kernel
theorem dX13_led_7 : decode cX13_led 7 = .ok (.iconst 0, 1) := by decide +kernel
theorem dX13_led_8 : decode cX13_led 8 = .ok (.ireturn, 1) := by decide +kernel
theorem dX13_led_9 : decode cX13_led 9 = .ok (.aload_n 0, 1) := by decide +kernel
theorem dX13_led_10 : decode cX13_led 10 = .ok (.getfield 49, 3) := by decide +kernel
theorem dX13_led_13 : decode cX13_led 13 = .ok (.aload_n 0, 1) := by decide +kernel
theorem dX13_led_14 : decode cX13_led 14 = .ok (.getfield 37, 3) := by decide +kernel
theorem dX13_led_17 : decode cX13_led 17 = .ok (.iload_n 1, 1) := by decide +kernel
theorem dX13_led_18 : decode cX13_led 18 = .ok (.iaload, 1) := by decide +kernel
theorem dX13_led_19 : decode cX13_led 19 = .ok (.iaload, 1) := by decide +kernel
theorem dX13_led_20 : decode cX13_led 20 = .ok (.istore_n 2, 1) := by decide +kernel
theorem dX13_led_21 : decode cX13_led 21 = .ok (.iload_n 2, 1) := by decide +kernel
theorem dX13_led_22 : decode cX13_led 22 = .ok (.iconst 3, 1) := by decide +kernel
theorem dX13_led_23 : decode cX13_led 23 = .ok (.if_icmp .ne 20, 3) := by decide +kernel
theorem dX13_led_26 : decode cX13_led 26 = .ok (.aload_n 0, 1) := by decide +kernel
theorem dX13_led_27 : decode cX13_led 27 = .ok (.bipush 6, 2) := by decide +kernel
theorem dX13_led_29 : decode cX13_led 29 = .ok (.aload_n 0, 1) := by decide +kernel
theorem dX13_led_30 : decode cX13_led 30 = .ok (.getfield 31, 3) := by decide +kernel
theorem dX13_led_33 : decode cX13_led 33 = .ok (.aload_n 0, 1) := by decide +kernel
theorem dX13_led_34 : decode cX13_led 34 = .ok (.getfield 37, 3) := by decide +kernel
theorem dX13_led_37 : decode cX13_led 37 = .ok (.iload_n 1, 1) := by decide +kernel
theorem dX13_led_38 : decode cX13_led 38 = .ok (.iaload, 1) := by decide +kernel
theorem dX13_led_39 : decode cX13_led 39 = .ok (.iaload, 1) := by decide +kernel
theorem dX13_led_40 : decode cX13_led 40 = .ok (.invokevirtual 379, 3) := by decide +kernel
theorem dX13_led_43 : decode cX13_led 43 = .ok (.iload_n 2, 1) := by decide +kernel
theorem dX13_led_44 : decode cX13_led 44 = .ok (.ireturn, 1) := by decide +kernel
theorem mt_X13_side : mx_mt 439 = some (yX13_side, cX13_side, 3, (some .int)) := rfl
theorem dX13_side_0 : decode cX13_side 0 = .ok (.iload_n 2, 1) := by decide +kernel
theorem dX13_side_1 : decode cX13_side 1 = .ok (.iconst 3, 1) := by decide +kernel
theorem dX13_side_2 : decode cX13_side 2 = .ok (.if_icmp .ne 15, 3) := by decide +kernel
theorem dX13_side_5 : decode cX13_side 5 = .ok (.aload_n 0, 1) := by decide +kernel
theorem dX13_side_6 : decode cX13_side 6 = .ok (.bipush 6, 2) := by decide +kernel
theorem dX13_side_8 : decode cX13_side 8 = .ok (.aload_n 0, 1) := by decide +kernel
theorem dX13_side_9 : decode cX13_side 9 = .ok (.getfield 31, 3) := by decide +kernel
theorem dX13_side_12 : decode cX13_side 12 = .ok (.iload_n 1, 1) := by decide +kernel
theorem dX13_side_13 : decode cX13_side 13 = .ok (.iaload, 1) := by decide +kernel
theorem dX13_side_14 : decode cX13_side 14 = .ok (.invokevirtual 379, 3) := by decide +kernel
theorem dX13_side_17 : decode cX13_side 17 = .ok (.iload_n 2, 1) := by decide +kernel
theorem dX13_side_18 : decode cX13_side 18 = .ok (.ireturn, 1) := by decide +kernel
theorem mt_X13_sign : mx_mt 392 = some (yX13_sign, cX13_sign, 3, (some .int)) := rfl
theorem dX13_sign_0 : decode cX13_sign 0 = .ok (.iload_n 0, 1) := by decide +kernel
theorem dX13_sign_1 : decode cX13_sign 1 = .ok (.sipush 128, 3) := by decide +kernel
theorem dX13_sign_4 : decode cX13_sign 4 = .ok (.imul, 1) := by decide +kernel
theorem dX13_sign_5 : decode cX13_sign 5 = .ok (.iload_n 1, 1) := by decide +kernel
theorem dX13_sign_6 : decode cX13_sign 6 = .ok (.iadd, 1) := by decide +kernel
theorem dX13_sign_7 : decode cX13_sign 7 = .ok (.sipush 128, 3) := by decide +kernel
theorem dX13_sign_10 : decode cX13_sign 10 = .ok (.imul, 1) := by decide +kernel
theorem dX13_sign_11 : decode cX13_sign 11 = .ok (.iload_n 2, 1) := by decide +kernel
theorem dX13_sign_12 : decode cX13_sign 12 = .ok (.iadd, 1) := by decide +kernel
theorem dX13_sign_13 : decode cX13_sign 13 = .ok (.ireturn, 1) := by decide +kernel
theorem rs_RX13_16 : mx_res RX13 16 = some (0, 13, 4) := by decide +kernel
theorem rs_RX13_25 : mx_res RX13 25 = some (0, 13, 7) := by decide +kernel
theorem mt_X13_isWord : mx_mt 394 = some (yX13_isWord, cX13_isWord, 3, (some .boolean)) := rfl
theorem dX13_isWord_0 : decode cX13_isWord 0 = .ok (.aload_n 0, 1) := by decide +kernel
theorem dX13_isWord_1 : decode cX13_isWord 1 = .ok (.getfield 16, 3) := by decide +kernel
theorem dX13_isWord_4 : decode cX13_isWord 4 = .ok (.iload_n 1, 1) := by decide +kernel
theorem dX13_isWord_5 : decode cX13_isWord 5 = .ok (.iaload, 1) := by decide +kernel
theorem dX13_isWord_6 : decode cX13_isWord 6 = .ok (.iconst 3, 1) := by decide +kernel
theorem dX13_isWord_7 : decode cX13_isWord 7 = .ok (.if_icmp .ne 17, 3) := by decide +kernel
theorem dX13_isWord_10 : decode cX13_isWord 10 = .ok (.aload_n 0, 1) := by decide +kernel
theorem dX13_isWord_11 : decode cX13_isWord 11 = .ok (.getfield 25, 3) := by decide +kernel
theorem dX13_isWord_14 : decode cX13_isWord 14 = .ok (.iload_n 1, 1) := by decide +kernel
theorem dX13_isWord_15 : decode cX13_isWord 15 = .ok (.iaload, 1) := by decide +kernel
theorem dX13_isWord_16 : decode cX13_isWord 16 = .ok (.iload_n 2, 1) := by decide +kernel
theorem dX13_isWord_17 : decode cX13_isWord 17 = .ok (.if_icmp .ne 7, 3) := by decide +kernel
theorem dX13_isWord_20 : decode cX13_isWord 20 = .ok (.iconst 1, 1) := by decide +kernel
theorem dX13_isWord_21 : decode cX13_isWord 21 = .ok (.goto 4, 3) := by decide +kernel
theorem dX13_isWord_24 : decode cX13_isWord 24 = .ok (.iconst 0, 1) := by decide +kernel
theorem dX13_isWord_25 : decode cX13_isWord 25 = .ok (.ireturn, 1) := by decide +kernel
