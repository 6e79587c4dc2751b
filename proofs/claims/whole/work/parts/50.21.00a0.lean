theorem rs_RX5_50 : mx_res RX5 50 = some (0, 5, 2) := by decide +kernel
theorem rs_RX5_54 : mx_res RX5 54 = some (0, 5, 1) := by decide +kernel
theorem rs_RX5_57 : mx_res RX5 57 = some (0, 5, 3) := by decide +kernel
theorem rs_RX5_60 : mx_res RX5 60 = some (0, 5, 4) := by decide +kernel
theorem rs_RX5_63 : mx_res RX5 63 = some (0, 5, 5) := by decide +kernel
theorem rs_RX5_66 : mx_res RX5 66 = some (0, 5, 6) := by decide +kernel
theorem rs_RX5_69 : mx_res RX5 69 = some (0, 5, 7) := by decide +kernel
theorem ft_5_1 : mx_fty 5 1 = some (.int, false, "ClassMill$Machine") := by decide +kernel
theorem ft_5_2 : mx_fty 5 2 = some (.int, false, "ClassMill$Machine") := by decide +kernel
theorem ft_5_3 : mx_fty 5 3 = some (.int, false, "ClassMill$Machine") := by decide +kernel
theorem ft_5_4 : mx_fty 5 4 = some (.int, false, "ClassMill$Machine") := by decide +kernel
theorem ft_5_5 : mx_fty 5 5 = some (.int, false, "ClassMill$Machine") := by decide +kernel
theorem ft_5_6 : mx_fty 5 6 = some (.int, false, "ClassMill$Machine") := by decide +kernel
theorem ft_5_7 : mx_fty 5 7 = some (.int, false, "ClassMill$Machine") := by decide +kernel
theorem mt_X5_forget : mx_mt 143 = some (yX5_forget, cX5_forget, 1, none) := rfl
theorem dX5_forget_0 : decode cX5_forget 0 = .ok (.aload_n 0, 1) := by decide +kernel
theorem dX5_forget_1 : decode cX5_forget 1 = .ok (.iconst 0, 1) := by decide +kernel
theorem dX5_forget_2 : decode cX5_forget 2 = .ok (.putfield 54, 3) := by decide +kernel
theorem dX5_forget_5 : decode cX5_forget 5 = .ok (.aload_n 0, 1) := by decide +kernel
theorem dX5_forget_6 : decode cX5_forget 6 = .ok (.iconst (-1), 1) := by decide +kernel
theorem dX5_forget_7 : decode cX5_forget 7 = .ok (.putfield 50, 3) := by decide +kernel
theorem dX5_forget_10 : decode cX5_forget 10 = .ok (.aload_n 0, 1) := by decide +kernel
theorem dX5_forget_11 : decode cX5_forget 11 = .ok (.iconst 0, 1) := by decide +kernel
theorem dX5_forget_12 : decode cX5_forget 12 = .ok (.putfield 57, 3) := by decide +kernel
theorem dX5_forget_15 : decode cX5_forget 15 = .ok (.aload_n 0, 1) := by decide +kernel
theorem dX5_forget_16 : decode cX5_forget 16 = .ok (.iconst 0, 1) := by decide +kernel
theorem dX5_forget_17 : decode cX5_forget 17 = .ok (.putfield 60, 3) := by decide +kernel
theorem dX5_forget_20 : decode cX5_forget 20 = .ok (.aload_n 0, 1) := by decide +kernel
theorem dX5_forget_21 : decode cX5_forget 21 = .ok (.iconst 0, 1) := by decide +kernel
theorem dX5_forget_22 : decode cX5_forget 22 = .ok (.putfield 63, 3) := by decide +kernel
theorem dX5_forget_25 : decode cX5_forget 25 = .ok (.aload_n 0, 1) := by decide +kernel
theorem dX5_forget_26 : decode cX5_forget 26 = .ok (.iconst 0, 1) := by decide +kernel
theorem dX5_forget_27 : decode cX5_forget 27 = .ok (.putfield 66, 3) := by decide +kernel
theorem dX5_forget_30 : decode cX5_forget 30 = .ok (.aload_n 0, 1) := by decide +kernel
theorem dX5_forget_31 : decode cX5_forget 31 = .ok (.iconst 0, 1) := by decide +kernel
theorem dX5_forget_32 : decode cX5_forget 32 = .ok (.putfield 69, 3) := by decide +kernel
theorem dX5_forget_35 : decode cX5_forget 35 = .ok (.return_, 1) := by decide +kernel
theorem mt_J7_fill_53178 : mx_mt 600 = some (yJ7_fill_53178, cJ7_fill_53178, 4, none) := rfl
theorem rs_RX4_11 : mx_res RX4 11 = some (0, 4, 0) := by decide +kernel
theorem rs_RX4_15 : mx_res RX4 15 = some (0, 4, 1) := by decide +kernel
theorem mt_X4_settle : mx_mt 133 = some (yX4_settle, cX4_settle, 4, none) := rfl
theorem dX4_settle_0 : decode cX4_settle 0 = .ok (.iconst 0, 1) := by decide +kernel
theorem dX4_settle_1 : decode cX4_settle 1 = .ok (.istore_n 1, 1) := by decide +kernel
theorem dX4_settle_2 : decode cX4_settle 2 = .ok (.iload_n 1, 1) := by decide +kernel
theorem dX4_settle_3 : decode cX4_settle 3 = .ok (.bipush 16, 2) := by decide +kernel
theorem dX4_settle_5 : decode cX4_settle 5 = .ok (.if_icmp .ge 80, 3) := by decide +kernel
theorem dX4_settle_8 : decode cX4_settle 8 = .ok (.iconst 0, 1) := by decide +kernel
theorem dX4_settle_9 : decode cX4_settle 9 = .ok (.istore_n 2, 1) := by decide +kernel
theorem dX4_settle_10 : decode cX4_settle 10 = .ok (.iload_n 2, 1) := by decide +kernel
theorem dX4_settle_11 : decode cX4_settle 11 = .ok (.bipush 16, 2) := by decide +kernel
theorem dX4_settle_13 : decode cX4_settle 13 = .ok (.if_icmp .ge 21, 3) := by decide +kernel
theorem dX4_settle_16 : decode cX4_settle 16 = .ok (.aload_n 0, 1) := by decide +kernel
theorem dX4_settle_17 : decode cX4_settle 17 = .ok (.getfield 15, 3) := by decide +kernel
theorem dX4_settle_20 : decode cX4_settle 20 = .ok (.iload_n 1, 1) := by decide +kernel
theorem dX4_settle_21 : decode cX4_settle 21 = .ok (.bipush 16, 2) := by decide +kernel
theorem dX4_settle_23 : decode cX4_settle 23 = .ok (.imul, 1) := by decide +kernel
theorem dX4_settle_24 : decode cX4_settle 24 = .ok (.iload_n 2, 1) := by decide +kernel
theorem dX4_settle_25 : decode cX4_settle 25 = .ok (.iadd, 1) := by decide +kernel
theorem dX4_settle_26 : decode cX4_settle 26 = .ok (.iconst 0, 1) := by decide +kernel
theorem dX4_settle_27 : decode cX4_settle 27 = .ok (.bastore, 1) := by decide +kernel
theorem dX4_settle_28 : decode cX4_settle 28 = .ok (.iinc 2 1, 3) := by decide +kernel
theorem dX4_settle_31 : decode cX4_settle 31 = .ok (.goto (-21), 3) := by decide +kernel
theorem dX4_settle_34 : decode cX4_settle 34 = .ok (.iload_n 1, 1) := by decide +kernel
theorem dX4_settle_35 : decode cX4_settle 35 = .ok (.istore_n 2, 1) := by decide +kernel
theorem dX4_settle_36 : decode cX4_settle 36 = .ok (.iconst 0, 1) := by decide +kernel
theorem dX4_settle_37 : decode cX4_settle 37 = .ok (.istore_n 3, 1) := by decide +kernel
theorem dX4_settle_38 : decode cX4_settle 38 = .ok (.iload_n 3, 1) := by decide +kernel
theorem dX4_settle_39 : decode cX4_settle 39 = .ok (.bipush 16, 2) := by decide +kernel
theorem dX4_settle_41 : decode cX4_settle 41 = .ok (.if_icmp .ge 38, 3) := by decide +kernel
theorem dX4_settle_44 : decode cX4_settle 44 = .ok (.iload_n 2, 1) := by decide +kernel
theorem dX4_settle_45 : decode cX4_settle 45 = .ok (.ifCond .lt 34, 3) := by decide +kernel
theorem dX4_settle_48 : decode cX4_settle 48 = .ok (.iload_n 2, 1) := by decide +kernel
theorem dX4_settle_49 : decode cX4_settle 49 = .ok (.bipush 16, 2) := by decide +kernel
theorem dX4_settle_51 : decode cX4_settle 51 = .ok (.if_icmp .ge 28, 3) := by decide +kernel
theorem dX4_settle_54 : decode cX4_settle 54 = .ok (.aload_n 0, 1) := by decide +kernel
theorem dX4_settle_55 : decode cX4_settle 55 = .ok (.getfield 15, 3) := by decide +kernel
theorem dX4_settle_58 : decode cX4_settle 58 = .ok (.iload_n 1, 1) := by decide +kernel
theorem dX4_settle_59 : decode cX4_settle 59 = .ok (.bipush 16, 2) := by decide +kernel
theorem dX4_settle_61 : decode cX4_settle 61 = .ok (.imul, 1) := by decide +kernel
theorem dX4_settle_62 : decode cX4_settle 62 = .ok (.iload_n 2, 1) := by decide +kernel
theorem dX4_settle_63 : decode cX4_settle 63 = .ok (.iadd, 1) := by decide +kernel
theorem dX4_settle_64 : decode cX4_settle 64 = .ok (.iconst 1, 1) := by decide +kernel
theorem dX4_settle_65 : decode cX4_settle 65 = .ok (.bastore, 1) := by decide +kernel
theorem dX4_settle_66 : decode cX4_settle 66 = .ok (.aload_n 0, 1) := by decide +kernel
theorem dX4_settle_67 : decode cX4_settle 67 = .ok (.getfield 11, 3) := by decide +kernel
theorem dX4_settle_70 : decode cX4_settle 70 = .ok (.iload_n 2, 1) := by decide +kernel
theorem dX4_settle_71 : decode cX4_settle 71 = .ok (.iaload, 1) := by decide +kernel
theorem dX4_settle_72 : decode cX4_settle 72 = .ok (.istore_n 2, 1) := by decide +kernel
theorem dX4_settle_73 : decode cX4_settle 73 = .ok (.iinc 3 1, 3) := by decide +kernel
theorem dX4_settle_76 : decode cX4_settle 76 = .ok (.goto (-38), 3) := by decide +kernel
theorem dX4_settle_79 : decode cX4_settle 79 = .ok (.iinc 1 1, 3) := by decide +kernel
theorem dX4_settle_82 : decode cX4_settle 82 = .ok (.goto (-80), 3) := by decide +kernel
theorem dX4_settle_85 : decode cX4_settle 85 = .ok (.return_, 1) := by decide +kernel
theorem rs_RX4_22 : mx_res RX4 22 = some (2, 600, 2) := by decide +kernel
theorem rs_RX4_28 : mx_res RX4 28 = some (1, 133, 0) := by decide +kernel
theorem mt_X4_forget : mx_mt 130 = some (yX4_forget, cX4_forget, 2, none) := rfl
theorem dX4_forget_0 : decode cX4_forget 0 = .ok (.aload_n 0, 1) := by decide +kernel
theorem dX4_forget_1 : decode cX4_forget 1 = .ok (.getfield 11, 3) := by decide +kernel
theorem dX4_forget_4 : decode cX4_forget 4 = .ok (.iconst (-1), 1) := by decide +kernel
theorem dX4_forget_5 : decode cX4_forget 5 = .ok (.invokestatic 22, 3) := by decide +kernel
theorem dX4_forget_8 : decode cX4_forget 8 = .ok (.iconst 1, 1) := by decide +kernel
theorem dX4_forget_9 : decode cX4_forget 9 = .ok (.istore_n 1, 1) := by decide +kernel
theorem dX4_forget_10 : decode cX4_forget 10 = .ok (.iload_n 1, 1) := by decide +kernel
theorem dX4_forget_11 : decode cX4_forget 11 = .ok (.bipush 8, 2) := by decide +kernel
theorem dX4_forget_13 : decode cX4_forget 13 = .ok (.if_icmp .ge 25, 3) := by decide +kernel
theorem dX4_forget_16 : decode cX4_forget 16 = .ok (.aload_n 0, 1) := by decide +kernel
theorem dX4_forget_17 : decode cX4_forget 17 = .ok (.getfield 11, 3) := by decide +kernel
theorem dX4_forget_20 : decode cX4_forget 20 = .ok (.iload_n 1, 1) := by decide +kernel
theorem dX4_forget_21 : decode cX4_forget 21 = .ok (.iload_n 1, 1) := by decide +kernel
theorem dX4_forget_22 : decode cX4_forget 22 = .ok (.iconst 1, 1) := by decide +kernel
theorem dX4_forget_23 : decode cX4_forget 23 = .ok (.if_icmp .ne 7, 3) := by decide +kernel
theorem dX4_forget_26 : decode cX4_forget 26 = .ok (.iconst 0, 1) := by decide +kernel
theorem dX4_forget_27 : decode cX4_forget 27 = .ok (.goto 4, 3) := by decide +kernel
theorem dX4_forget_30 : decode cX4_forget 30 = .ok (.iconst 1, 1) := by decide +kernel
theorem dX4_forget_31 : decode cX4_forget 31 = .ok (.iastore, 1) := by decide +kernel
theorem dX4_forget_32 : decode cX4_forget 32 = .ok (.iinc 1 1, 3) := by decide +kernel
theorem dX4_forget_35 : decode cX4_forget 35 = .ok (.goto (-25), 3) := by decide +kernel
theorem dX4_forget_38 : decode cX4_forget 38 = .ok (.aload_n 0, 1) := by decide +kernel
theorem dX4_forget_39 : decode cX4_forget 39 = .ok (.invokevirtual 28, 3) := by decide +kernel
theorem dX4_forget_42 : decode cX4_forget 42 = .ok (.return_, 1) := by decide +kernel
theorem rs_RX7_16 : mx_res RX7 16 = some (0, 7, 0) := by decide +kernel
theorem rs_RX7_41 : mx_res RX7 41 = some (0, 7, 3) := by decide +kernel
theorem rs_RX7_45 : mx_res RX7 45 = some (0, 7, 4) := by decide +kernel
theorem rs_RX7_49 : mx_res RX7 49 = some (1, 130, 0) := by decide +kernel
theorem ft_7_3 : mx_fty 7 3 = some (.int, false, "ClassMill$Space") := by decide +kernel
theorem ft_7_4 : mx_fty 7 4 = some (.boolean, false, "ClassMill$Space") := by decide +kernel
theorem mt_X7_forget : mx_mt 197 = some (yX7_forget, cX7_forget, 1, none) := rfl
theorem dX7_forget_0 : decode cX7_forget 0 = .ok (.aload_n 0, 1) := by decide +kernel
theorem dX7_forget_1 : decode cX7_forget 1 = .ok (.iconst 0, 1) := by decide +kernel
theorem dX7_forget_2 : decode cX7_forget 2 = .ok (.putfield 41, 3) := by decide +kernel
theorem dX7_forget_5 : decode cX7_forget 5 = .ok (.aload_n 0, 1) := by decide +kernel
theorem dX7_forget_6 : decode cX7_forget 6 = .ok (.iconst 0, 1) := by decide +kernel
theorem dX7_forget_7 : decode cX7_forget 7 = .ok (.putfield 45, 3) := by decide +kernel
theorem dX7_forget_10 : decode cX7_forget 10 = .ok (.aload_n 0, 1) := by decide +kernel
theorem dX7_forget_11 : decode cX7_forget 11 = .ok (.getfield 16, 3) := by decide +kernel
theorem dX7_forget_14 : decode cX7_forget 14 = .ok (.invokevirtual 49, 3) := by decide +kernel
theorem dX7_forget_17 : decode cX7_forget 17 = .ok (.return_, 1) := by decide +kernel
theorem rs_RX12_53 : mx_res RX12 53 = some (0, 12, 8) := by decide +kernel
theorem rs_RX12_69 : mx_res RX12 69 = some (0, 12, 10) := by decide +kernel
theorem rs_RX12_153 : mx_res RX12 153 = some (1, 143, 0) := by decide +kernel
theorem rs_RX12_158 : mx_res RX12 158 = some (1, 197, 0) := by decide +kernel
theorem mt_X12_clear : mx_mt 371 = some (yX12_clear, cX12_clear, 1, none) := rfl
theorem dX12_clear_0 : decode cX12_clear 0 = .ok (.aload_n 0, 1) := by decide +kernel
theorem dX12_clear_1 : decode cX12_clear 1 = .ok (.getfield 53, 3) := by decide +kernel
theorem dX12_clear_4 : decode cX12_clear 4 = .ok (.invokevirtual 158, 3) := by decide +kernel
theorem dX12_clear_7 : decode cX12_clear 7 = .ok (.aload_n 0, 1) := by decide +kernel
theorem dX12_clear_8 : decode cX12_clear 8 = .ok (.getfield 69, 3) := by decide +kernel
theorem dX12_clear_11 : decode cX12_clear 11 = .ok (.invokevirtual 153, 3) := by decide +kernel
theorem dX12_clear_14 : decode cX12_clear 14 = .ok (.return_, 1) := by decide +kernel
theorem mt_X2_isOwn : mx_mt 73 = some (yX2_isOwn, cX2_isOwn, 1, (some .boolean)) := rfl
theorem dX2_isOwn_0 : decode cX2_isOwn 0 = .ok (.iload_n 0, 1) := by decide +kernel
theorem dX2_isOwn_1 : decode cX2_isOwn 1 = .ok (.bipush 8, 2) := by decide +kernel
theorem dX2_isOwn_3 : decode cX2_isOwn 3 = .ok (.if_icmp .lt 13, 3) := by decide +kernel
theorem dX2_isOwn_6 : decode cX2_isOwn 6 = .ok (.iload_n 0, 1) := by decide +kernel
theorem dX2_isOwn_7 : decode cX2_isOwn 7 = .ok (.bipush 16, 2) := by decide +kernel
theorem dX2_isOwn_9 : decode cX2_isOwn 9 = .ok (.if_icmp .ge 7, 3) := by decide +kernel
theorem dX2_isOwn_12 : decode cX2_isOwn 12 = .ok (.iconst 1, 1) := by decide +kernel
theorem dX2_isOwn_13 : decode cX2_isOwn 13 = .ok (.goto 4, 3) := by decide +kernel
theorem dX2_isOwn_16 : decode cX2_isOwn 16 = .ok (.iconst 0, 1) := by decide +kernel
theorem dX2_isOwn_17 : decode cX2_isOwn 17 = .ok (.ireturn, 1) := by decide +kernel
theorem rs_RX2_27 : mx_res RX2 27 = some (0, 2, 5) := by decide +kernel
theorem rs_RX2_224 : mx_res RX2 224 = some (2, 73, 1) := by decide +kernel
theorem mt_X2_fieldsOf : mx_mt 76 = some (yX2_fieldsOf, cX2_fieldsOf, 2, (some .int)) := rfl
theorem dX2_fieldsOf_0 : decode cX2_fieldsOf 0 = .ok (.bipush 8, 2) := by decide +kernel
theorem dX2_fieldsOf_2 : decode cX2_fieldsOf 2 = .ok (.iload_n 1, 1) := by decide +kernel
theorem dX2_fieldsOf_3 : decode cX2_fieldsOf 3 = .ok (.iadd, 1) := by decide +kernel
theorem dX2_fieldsOf_4 : decode cX2_fieldsOf 4 = .ok (.invokestatic 224, 3) := by decide +kernel
theorem dX2_fieldsOf_7 : decode cX2_fieldsOf 7 = .ok (.ifCond .eq 12, 3) := by decide +kernel
theorem dX2_fieldsOf_10 : decode cX2_fieldsOf 10 = .ok (.aload_n 0, 1) := by decide +kernel
theorem dX2_fieldsOf_11 : decode cX2_fieldsOf 11 = .ok (.getfield 27, 3) := by decide +kernel
theorem dX2_fieldsOf_14 : decode cX2_fieldsOf 14 = .ok (.iload_n 1, 1) := by decide +kernel
theorem dX2_fieldsOf_15 : decode cX2_fieldsOf 15 = .ok (.iaload, 1) := by decide +kernel
theorem dX2_fieldsOf_16 : decode cX2_fieldsOf 16 = .ok (.goto 4, 3) := by decide +kernel
theorem dX2_fieldsOf_19 : decode cX2_fieldsOf 19 = .ok (.iconst 0, 1) := by decide +kernel
theorem dX2_fieldsOf_20 : decode cX2_fieldsOf 20 = .ok (.ireturn, 1) := by decide +kernel
theorem rs_RX2_36 : mx_res RX2 36 = some (0, 2, 8) := by decide +kernel
theorem mt_X2_kindOfField : mx_mt 80 = some (yX2_kindOfField, cX2_kindOfField, 2, (some .int)) := rfl
theorem dX2_kindOfField_0 : decode cX2_kindOfField 0 = .ok (.iload_n 1, 1) := by decide +kernel
theorem dX2_kindOfField_1 : decode cX2_kindOfField 1 = .ok (.ifCond .lt 21, 3) := by decide +kernel
theorem dX2_kindOfField_4 : decode cX2_kindOfField 4 = .ok (.iload_n 1, 1) := by decide +kernel
theorem dX2_kindOfField_5 : decode cX2_kindOfField 5 = .ok (.aload_n 0, 1) := by decide +kernel
theorem dX2_kindOfField_6 : decode cX2_kindOfField 6 = .ok (.getfield 36, 3) := by decide +kernel
theorem dX2_kindOfField_9 : decode cX2_kindOfField 9 = .ok (.arraylength, 1) := by decide +kernel
theorem dX2_kindOfField_10 : decode cX2_kindOfField 10 = .ok (.if_icmp .ge 12, 3) := by decide +kernel
theorem dX2_kindOfField_13 : decode cX2_kindOfField 13 = .ok (.aload_n 0, 1) := by decide +kernel
theorem dX2_kindOfField_14 : decode cX2_kindOfField 14 = .ok (.getfield 36, 3) := by decide +kernel
theorem dX2_kindOfField_17 : decode cX2_kindOfField 17 = .ok (.iload_n 1, 1) := by decide +kernel
theorem dX2_kindOfField_18 : decode cX2_kindOfField 18 = .ok (.iaload, 1) := by decide +kernel
theorem dX2_kindOfField_19 : decode cX2_kindOfField 19 = .ok (.goto 4, 3) := by decide +kernel
theorem dX2_kindOfField_22 : decode cX2_kindOfField 22 = .ok (.iconst (-1), 1) := by decide +kernel
theorem dX2_kindOfField_23 : decode cX2_kindOfField 23 = .ok (.ireturn, 1) := by decide +kernel
theorem rs_RX2_39 : mx_res RX2 39 = some (0, 2, 9) := by decide +kernel
theorem mt_X2_methodsOf : mx_mt 77 = some (yX2_methodsOf, cX2_methodsOf, 2, (some .int)) := rfl
theorem dX2_methodsOf_0 : decode cX2_methodsOf 0 = .ok (.bipush 8, 2) := by decide +kernel
theorem dX2_methodsOf_2 : decode cX2_methodsOf 2 = .ok (.iload_n 1, 1) := by decide +kernel
theorem dX2_methodsOf_3 : decode cX2_methodsOf 3 = .ok (.iadd, 1) := by decide +kernel
theorem dX2_methodsOf_4 : decode cX2_methodsOf 4 = .ok (.invokestatic 224, 3) := by decide +kernel
theorem dX2_methodsOf_7 : decode cX2_methodsOf 7 = .ok (.ifCond .eq 12, 3) := by decide +kernel
theorem dX2_methodsOf_10 : decode cX2_methodsOf 10 = .ok (.aload_n 0, 1) := by decide +kernel
theorem dX2_methodsOf_11 : decode cX2_methodsOf 11 = .ok (.getfield 39, 3) := by decide +kernel
theorem dX2_methodsOf_14 : decode cX2_methodsOf 14 = .ok (.iload_n 1, 1) := by decide +kernel
theorem dX2_methodsOf_15 : decode cX2_methodsOf 15 = .ok (.iaload, 1) := by decide +kernel
theorem dX2_methodsOf_16 : decode cX2_methodsOf 16 = .ok (.goto 4, 3) := by decide +kernel
theorem dX2_methodsOf_19 : decode cX2_methodsOf 19 = .ok (.iconst 0, 1) := by decide +kernel
theorem dX2_methodsOf_20 : decode cX2_methodsOf 20 = .ok (.ireturn, 1) := by decide +kernel
theorem rs_RX2_30 : mx_res RX2 30 = some (0, 2, 6) := by decide +kernel
theorem mt_X2_nameOfField : mx_mt 79 = some (yX2_nameOfField, cX2_nameOfField, 2, (some .int)) := rfl
theorem dX2_nameOfField_0 : decode cX2_nameOfField 0 = .ok (.iload_n 1, 1) := by decide +kernel
theorem dX2_nameOfField_1 : decode cX2_nameOfField 1 = .ok (.ifCond .lt 21, 3) := by decide +kernel
theorem dX2_nameOfField_4 : decode cX2_nameOfField 4 = .ok (.iload_n 1, 1) := by decide +kernel
theorem dX2_nameOfField_5 : decode cX2_nameOfField 5 = .ok (.aload_n 0, 1) := by decide +kernel
theorem dX2_nameOfField_6 : decode cX2_nameOfField 6 = .ok (.getfield 30, 3) := by decide +kernel
theorem dX2_nameOfField_9 : decode cX2_nameOfField 9 = .ok (.arraylength, 1) := by decide +kernel
theorem dX2_nameOfField_10 : decode cX2_nameOfField 10 = .ok (.if_icmp .ge 12, 3) := by decide +kernel
theorem dX2_nameOfField_13 : decode cX2_nameOfField 13 = .ok (.aload_n 0, 1) := by decide +kernel
theorem dX2_nameOfField_14 : decode cX2_nameOfField 14 = .ok (.getfield 30, 3) := by decide +kernel
theorem dX2_nameOfField_17 : decode cX2_nameOfField 17 = .ok (.iload_n 1, 1) := by decide +kernel
theorem dX2_nameOfField_18 : decode cX2_nameOfField 18 = .ok (.iaload, 1) := by decide +kernel
theorem dX2_nameOfField_19 : decode cX2_nameOfField 19 = .ok (.goto 4, 3) := by decide +kernel
theorem dX2_nameOfField_22 : decode cX2_nameOfField 22 = .ok (.iconst (-1), 1) := by decide +kernel
theorem dX2_nameOfField_23 : decode cX2_nameOfField 23 = .ok (.ireturn, 1) := by decide +kernel
theorem mt_X4_isClass : mx_mt 134 = some (yX4_isClass, cX4_isClass, 1, (some .boolean)) := rfl
theorem dX4_isClass_0 : decode cX4_isClass 0 = .ok (.iload_n 0, 1) := by decide +kernel
theorem dX4_isClass_1 : decode cX4_isClass 1 = .ok (.ifCond .lt 13, 3) := by decide +kernel
theorem dX4_isClass_4 : decode cX4_isClass 4 = .ok (.iload_n 0, 1) := by decide +kernel
theorem dX4_isClass_5 : decode cX4_isClass 5 = .ok (.bipush 16, 2) := by decide +kernel
theorem dX4_isClass_7 : decode cX4_isClass 7 = .ok (.if_icmp .ge 7, 3) := by decide +kernel
theorem dX4_isClass_10 : decode cX4_isClass 10 = .ok (.iconst 1, 1) := by decide +kernel
theorem dX4_isClass_11 : decode cX4_isClass 11 = .ok (.goto 4, 3) := by decide +kernel
theorem dX4_isClass_14 : decode cX4_isClass 14 = .ok (.iconst 0, 1) := by decide +kernel
theorem dX4_isClass_15 : decode cX4_isClass 15 = .ok (.ireturn, 1) := by decide +kernel
theorem rs_RX4_31 : mx_res RX4 31 = some (2, 134, 1) := by decide +kernel
theorem mt_X4_above : mx_mt 131 = some (yX4_above, cX4_above, 2, (some .int)) := rfl
theorem dX4_above_0 : decode cX4_above 0 = .ok (.iload_n 1, 1) := by decide +kernel
theorem dX4_above_1 : decode cX4_above 1 = .ok (.invokestatic 31, 3) := by decide +kernel
theorem dX4_above_4 : decode cX4_above 4 = .ok (.ifCond .eq 12, 3) := by decide +kernel
theorem dX4_above_7 : decode cX4_above 7 = .ok (.aload_n 0, 1) := by decide +kernel
theorem dX4_above_8 : decode cX4_above 8 = .ok (.getfield 11, 3) := by decide +kernel
theorem dX4_above_11 : decode cX4_above 11 = .ok (.iload_n 1, 1) := by decide +kernel
theorem dX4_above_12 : decode cX4_above 12 = .ok (.iaload, 1) := by decide +kernel
theorem dX4_above_13 : decode cX4_above 13 = .ok (.goto 4, 3) := by decide +kernel
theorem dX4_above_16 : decode cX4_above 16 = .ok (.iconst (-1), 1) := by decide +kernel
theorem dX4_above_17 : decode cX4_above 17 = .ok (.ireturn, 1) := by decide +kernel
theorem rs_RX2_67 : mx_res RX2 67 = some (0, 2, 18) := by decide +kernel
theorem mt_X2_nameOfType : mx_mt 59 = some (yX2_nameOfType, cX2_nameOfType, 3, (some .int)) := rfl
theorem dX2_nameOfType_0 : decode cX2_nameOfType 0 = .ok (.iload_n 1, 1) := by decide +kernel
theorem dX2_nameOfType_1 : decode cX2_nameOfType 1 = .ok (.ifCond .lt 16, 3) := by decide +kernel
theorem dX2_nameOfType_4 : decode cX2_nameOfType 4 = .ok (.iload_n 1, 1) := by decide +kernel
theorem dX2_nameOfType_5 : decode cX2_nameOfType 5 = .ok (.bipush 16, 2) := by decide +kernel
theorem dX2_nameOfType_7 : decode cX2_nameOfType 7 = .ok (.if_icmp .ge 10, 3) := by decide +kernel
theorem dX2_nameOfType_10 : decode cX2_nameOfType 10 = .ok (.aload_n 0, 1) := by decide +kernel
theorem dX2_nameOfType_11 : decode cX2_nameOfType 11 = .ok (.getfield 67, 3) := by decide +kernel
theorem dX2_nameOfType_14 : decode cX2_nameOfType 14 = .ok (.iload_n 1, 1) := by decide +kernel
theorem dX2_nameOfType_15 : decode cX2_nameOfType 15 = .ok (.iaload, 1) := by decide +kernel
theorem dX2_nameOfType_16 : decode cX2_nameOfType 16 = .ok (.ireturn, 1) := by decide +kernel
theorem dX2_nameOfType_17 : decode cX2_nameOfType 17 = .ok (.iload_n 1, 1) := by decide +kernel
theorem dX2_nameOfType_18 : decode cX2_nameOfType 18 = .ok (.bipush 100, 2) := by decide +kernel
theorem dX2_nameOfType_20 : decode cX2_nameOfType 20 = .ok (.if_icmp .lt 13, 3) := by decide +kernel
theorem dX2_nameOfType_23 : decode cX2_nameOfType 23 = .ok (.iload_n 1, 1) := by decide +kernel
theorem dX2_nameOfType_24 : decode cX2_nameOfType 24 = .ok (.bipush 116, 2) := by decide +kernel
theorem dX2_nameOfType_26 : decode cX2_nameOfType 26 = .ok (.if_icmp .ge 7, 3) := by decide +kernel
theorem dX2_nameOfType_29 : decode cX2_nameOfType 29 = .ok (.iconst 1, 1) := by decide +kernel
theorem dX2_nameOfType_30 : decode cX2_nameOfType 30 = .ok (.goto 4, 3) := by decide +kernel
theorem dX2_nameOfType_33 : decode cX2_nameOfType 33 = .ok (.iconst 0, 1) := by decide +kernel
theorem dX2_nameOfType_34 : decode cX2_nameOfType 34 = .ok (.istore_n 2, 1) := by decide +kernel
theorem dX2_nameOfType_35 : decode cX2_nameOfType 35 = .ok (.iload_n 2, 1) := by decide +kernel
theorem dX2_nameOfType_36 : decode cX2_nameOfType 36 = .ok (.ifCond .eq 18, 3) := by decide +kernel
theorem dX2_nameOfType_39 : decode cX2_nameOfType 39 = .ok (.aload_n 0, 1) := by decide +kernel
theorem dX2_nameOfType_40 : decode cX2_nameOfType 40 = .ok (.getfield 67, 3) := by decide +kernel
theorem dX2_nameOfType_43 : decode cX2_nameOfType 43 = .ok (.bipush 16, 2) := by decide +kernel
theorem dX2_nameOfType_45 : decode cX2_nameOfType 45 = .ok (.iload_n 1, 1) := by decide +kernel
theorem dX2_nameOfType_46 : decode cX2_nameOfType 46 = .ok (.iadd, 1) := by decide +kernel
theorem dX2_nameOfType_47 : decode cX2_nameOfType 47 = .ok (.bipush 100, 2) := by decide +kernel
theorem dX2_nameOfType_49 : decode cX2_nameOfType 49 = .ok (.isub, 1) := by decide +kernel
theorem dX2_nameOfType_50 : decode cX2_nameOfType 50 = .ok (.iaload, 1) := by decide +kernel
theorem dX2_nameOfType_51 : decode cX2_nameOfType 51 = .ok (.goto 5, 3) := by decide +kernel
theorem dX2_nameOfType_54 : decode cX2_nameOfType 54 = .ok (.bipush 31, 2) := by decide +kernel
theorem dX2_nameOfType_56 : decode cX2_nameOfType 56 = .ok (.ireturn, 1) := by decide +kernel
theorem rs_RX6_9 : mx_res RX6 9 = some (0, 6, 2) := by decide +kernel
theorem rs_RX6_13 : mx_res RX6 13 = some (0, 6, 3) := by decide +kernel
theorem rs_RX6_28 : mx_res RX6 28 = some (0, 6, 4) := by decide +kernel
theorem rs_RX6_32 : mx_res RX6 32 = some (0, 6, 5) := by decide +kernel
theorem ft_6_4 : mx_fty 6 4 = some (.int, false, "ClassMill$Pool") := by decide +kernel
theorem ft_6_5 : mx_fty 6 5 = some (.boolean, false, "ClassMill$Pool") := by decide +kernel
theorem mt_X6_constant : mx_mt 191 = some (yX6_constant, cX6_constant, 4, (some .int)) := rfl
theorem dX6_constant_0 : decode cX6_constant 0 = .ok (.iconst 1, 1) := by decide +kernel
theorem dX6_constant_1 : decode cX6_constant 1 = .ok (.istore_n 3, 1) := by decide +kernel
theorem dX6_constant_2 : decode cX6_constant 2 = .ok (.iload_n 3, 1) := by decide +kernel
theorem dX6_constant_3 : decode cX6_constant 3 = .ok (.aload_n 0, 1) := by decide +kernel
theorem dX6_constant_4 : decode cX6_constant 4 = .ok (.getfield 28, 3) := by decide +kernel
theorem dX6_constant_7 : decode cX6_constant 7 = .ok (.if_icmp .gt 31, 3) := by decide +kernel
theorem dX6_constant_10 : decode cX6_constant 10 = .ok (.aload_n 0, 1) := by decide +kernel
theorem dX6_constant_11 : decode cX6_constant 11 = .ok (.getfield 9, 3) := by decide +kernel
theorem dX6_constant_14 : decode cX6_constant 14 = .ok (.iload_n 3, 1) := by decide +kernel
theorem dX6_constant_15 : decode cX6_constant 15 = .ok (.iaload, 1) := by decide +kernel
theorem dX6_constant_16 : decode cX6_constant 16 = .ok (.iload_n 1, 1) := by decide +kernel
theorem dX6_constant_17 : decode cX6_constant 17 = .ok (.if_icmp .ne 15, 3) := by decide +kernel
theorem dX6_constant_20 : decode cX6_constant 20 = .ok (.aload_n 0, 1) := by decide +kernel
theorem dX6_constant_21 : decode cX6_constant 21 = .ok (.getfield 13, 3) := by decide +kernel
theorem dX6_constant_24 : decode cX6_constant 24 = .ok (.iload_n 3, 1) := by decide +kernel
theorem dX6_constant_25 : decode cX6_constant 25 = .ok (.iaload, 1) := by decide +kernel
theorem dX6_constant_26 : decode cX6_constant 26 = .ok (.iload_n 2, 1) := by decide +kernel
theorem dX6_constant_27 : decode cX6_constant 27 = .ok (.if_icmp .ne 5, 3) := by decide +kernel
theorem dX6_constant_30 : decode cX6_constant 30 = .ok (.iload_n 3, 1) := by decide +kernel
theorem dX6_constant_31 : decode cX6_constant 31 = .ok (.ireturn, 1) := by decide +kernel
theorem dX6_constant_32 : decode cX6_constant 32 = .ok (.iinc 3 1, 3) := by decide +kernel
theorem dX6_constant_35 : decode cX6_constant 35 = .ok (.goto (-33), 3) := by decide +kernel
theorem dX6_constant_38 : decode cX6_constant 38 = .ok (.aload_n 0, 1) := by decide +kernel
theorem dX6_constant_39 : decode cX6_constant 39 = .ok (.getfield 28, 3) := by decide +kernel
theorem dX6_constant_42 : decode cX6_constant 42 = .ok (.sipush 200, 3) := by decide +kernel
theorem dX6_constant_45 : decode cX6_constant 45 = .ok (.if_icmp .lt 10, 3) := by decide +kernel
theorem dX6_constant_48 : decode cX6_constant 48 = .ok (.aload_n 0, 1) := by decide +kernel
theorem dX6_constant_49 : decode cX6_constant 49 = .ok (.iconst 1, 1) := by decide +kernel
theorem dX6_constant_50 : decode cX6_constant 50 = .ok (.putfield 32, 3) := by decide +kernel
theorem dX6_constant_53 : decode cX6_constant 53 = .ok (.iconst 0, 1) := by decide +kernel
theorem dX6_constant_54 : decode cX6_constant 54 = .ok (.ireturn, 1) := by decide +kernel
theorem dX6_constant_55 : decode cX6_constant 55 = .ok (.aload_n 0, 1) := by decide +kernel
theorem dX6_constant_56 : decode cX6_constant 56 = .ok (.dup, 1) := by decide +kernel
theorem dX6_constant_57 : decode cX6_constant 57 = .ok (.getfield 28, 3) := by decide +kernel
theorem dX6_constant_60 : decode cX6_constant 60 = .ok (.iconst 1, 1) := by decide +kernel
theorem dX6_constant_61 : decode cX6_constant 61 = .ok (.iadd, 1) := by decide +kernel
theorem dX6_constant_62 : decode cX6_constant 62 = .ok (.putfield 28, 3) := by decide +kernel
theorem dX6_constant_65 : decode cX6_constant 65 = .ok (.aload_n 0, 1) := by decide +kernel
theorem dX6_constant_66 : decode cX6_constant 66 = .ok (.getfield 9, 3) := by decide +kernel
theorem dX6_constant_69 : decode cX6_constant 69 = .ok (.aload_n 0, 1) := by decide +kernel
theorem dX6_constant_70 : decode cX6_constant 70 = .ok (.getfield 28, 3) := by decide +kernel
theorem dX6_constant_73 : decode cX6_constant 73 = .ok (.iload_n 1, 1) := by decide +kernel
theorem dX6_constant_74 : decode cX6_constant 74 = .ok (.iastore, 1) := by decide +kernel
theorem dX6_constant_75 : decode cX6_constant 75 = .ok (.aload_n 0, 1) := by decide +kernel
theorem dX6_constant_76 : decode cX6_constant 76 = .ok (.getfield 13, 3) := by decide +kernel
theorem dX6_constant_79 : decode cX6_constant 79 = .ok (.aload_n 0, 1) := by decide +kernel
theorem dX6_constant_80 : decode cX6_constant 80 = .ok (.getfield 28, 3) := by decide +kernel
theorem dX6_constant_83 : decode cX6_constant 83 = .ok (.iload_n 2, 1) := by decide +kernel
theorem dX6_constant_84 : decode cX6_constant 84 = .ok (.iastore, 1) := by decide +kernel
theorem dX6_constant_85 : decode cX6_constant 85 = .ok (.aload_n 0, 1) := by decide +kernel
theorem dX6_constant_86 : decode cX6_constant 86 = .ok (.getfield 28, 3) := by decide +kernel
theorem dX6_constant_89 : decode cX6_constant 89 = .ok (.ireturn, 1) := by decide +kernel
theorem rs_RX6_24 : mx_res RX6 24 = some (0, 6, 1) := by decide +kernel
theorem rs_RX6_66 : mx_res RX6 66 = some (1, 191, 2) := by decide +kernel
theorem rs_RX6_115 : mx_res RX6 115 = some (1, 59, 1) := by decide +kernel
theorem mt_X6_classOf : mx_mt 192 = some (yX6_classOf, cX6_classOf, 2, (some .int)) := rfl
theorem dX6_classOf_0 : decode cX6_classOf 0 = .ok (.aload_n 0, 1) := by decide +kernel
theorem dX6_classOf_1 : decode cX6_classOf 1 = .ok (.iconst 3, 1) := by decide +kernel
theorem dX6_classOf_2 : decode cX6_classOf 2 = .ok (.aload_n 0, 1) := by decide +kernel
theorem dX6_classOf_3 : decode cX6_classOf 3 = .ok (.iconst 1, 1) := by decide +kernel
theorem dX6_classOf_4 : decode cX6_classOf 4 = .ok (.aload_n 0, 1) := by decide +kernel
theorem dX6_classOf_5 : decode cX6_classOf 5 = .ok (.getfield 24, 3) := by decide +kernel
theorem dX6_classOf_8 : decode cX6_classOf 8 = .ok (.iload_n 1, 1) := by decide +kernel
theorem dX6_classOf_9 : decode cX6_classOf 9 = .ok (.invokevirtual 115, 3) := by decide +kernel
theorem dX6_classOf_12 : decode cX6_classOf 12 = .ok (.invokevirtual 66, 3) := by decide +kernel
theorem dX6_classOf_15 : decode cX6_classOf 15 = .ok (.invokevirtual 66, 3) := by decide +kernel
theorem dX6_classOf_18 : decode cX6_classOf 18 = .ok (.ireturn, 1) := by decide +kernel
theorem rs_RX6_16 : mx_res RX6 16 = some (0, 6, 6) := by decide +kernel
theorem rs_RX6_36 : mx_res RX6 36 = some (0, 6, 7) := by decide +kernel
theorem ft_6_7 : mx_fty 6 7 = some (.int, false, "ClassMill$Pool") := by decide +kernel
theorem mt_X6_put : mx_mt 184 = some (yX6_put, cX6_put, 2, none) := rfl
theorem dX6_put_0 : decode cX6_put 0 = .ok (.aload_n 0, 1) := by decide +kernel
theorem dX6_put_1 : decode cX6_put 1 = .ok (.getfield 36, 3) := by decide +kernel
theorem dX6_put_4 : decode cX6_put 4 = .ok (.aload_n 0, 1) := by decide +kernel
theorem dX6_put_5 : decode cX6_put 5 = .ok (.getfield 16, 3) := by decide +kernel
theorem dX6_put_8 : decode cX6_put 8 = .ok (.arraylength, 1) := by decide +kernel
theorem dX6_put_9 : decode cX6_put 9 = .ok (.if_icmp .ge 14, 3) := by decide +kernel
theorem dX6_put_12 : decode cX6_put 12 = .ok (.aload_n 0, 1) := by decide +kernel
theorem dX6_put_13 : decode cX6_put 13 = .ok (.getfield 16, 3) := by decide +kernel
theorem dX6_put_16 : decode cX6_put 16 = .ok (.aload_n 0, 1) := by decide +kernel
theorem dX6_put_17 : decode cX6_put 17 = .ok (.getfield 36, 3) := by decide +kernel
theorem dX6_put_20 : decode cX6_put 20 = .ok (.iload_n 1, 1) := by decide +kernel
theorem dX6_put_21 : decode cX6_put 21 = .ok (.i2b, 1) := by decide +kernel
theorem dX6_put_22 : decode cX6_put 22 = .ok (.bastore, 1) := by decide +kernel
theorem dX6_put_23 : decode cX6_put 23 = .ok (.aload_n 0, 1) := by decide +kernel
theorem dX6_put_24 : decode cX6_put 24 = .ok (.dup, 1) := by decide +kernel
theorem dX6_put_25 : decode cX6_put 25 = .ok (.getfield 36, 3) := by decide +kernel
theorem dX6_put_28 : decode cX6_put 28 = .ok (.iconst 1, 1) := by decide +kernel
theorem dX6_put_29 : decode cX6_put 29 = .ok (.iadd, 1) := by decide +kernel
theorem dX6_put_30 : decode cX6_put 30 = .ok (.putfield 36, 3) := by decide +kernel
theorem dX6_put_33 : decode cX6_put 33 = .ok (.return_, 1) := by decide +kernel
theorem rs_RX6_41 : mx_res RX6 41 = some (1, 192, 1) := by decide +kernel
theorem rs_RX6_45 : mx_res RX6 45 = some (1, 184, 1) := by decide +kernel
theorem rs_RX6_49 : mx_res RX6 49 = some (0, 2, 1) := by decide +kernel
theorem rs_RX6_55 : mx_res RX6 55 = some (1, 131, 1) := by decide +kernel
theorem rs_RX6_58 : mx_res RX6 58 = some (1, 76, 1) := by decide +kernel
theorem rs_RX6_63 : mx_res RX6 63 = some (1, 79, 1) := by decide +kernel
theorem rs_RX6_70 : mx_res RX6 70 = some (1, 80, 1) := by decide +kernel
theorem rs_RX6_73 : mx_res RX6 73 = some (1, 77, 1) := by decide +kernel
theorem mt_X6_beginClass : mx_mt 182 = some (yX6_beginClass, cX6_beginClass, 5, none) := rfl
theorem dX6_beginClass_0 : decode cX6_beginClass 0 = .ok (.aload_n 0, 1) := by decide +kernel
theorem dX6_beginClass_1 : decode cX6_beginClass 1 = .ok (.iconst 0, 1) := by decide +kernel
theorem dX6_beginClass_2 : decode cX6_beginClass 2 = .ok (.putfield 28, 3) := by decide +kernel
theorem dX6_beginClass_5 : decode cX6_beginClass 5 = .ok (.aload_n 0, 1) := by decide +kernel
theorem dX6_beginClass_6 : decode cX6_beginClass 6 = .ok (.iconst 0, 1) := by decide +kernel
theorem dX6_beginClass_7 : decode cX6_beginClass 7 = .ok (.putfield 32, 3) := by decide +kernel
theorem dX6_beginClass_10 : decode cX6_beginClass 10 = .ok (.aload_n 0, 1) := by decide +kernel
theorem dX6_beginClass_11 : decode cX6_beginClass 11 = .ok (.iconst 0, 1) := by decide +kernel
theorem dX6_beginClass_12 : decode cX6_beginClass 12 = .ok (.putfield 36, 3) := by decide +kernel
theorem dX6_beginClass_15 : decode cX6_beginClass 15 = .ok (.bipush 8, 2) := by decide +kernel
theorem dX6_beginClass_17 : decode cX6_beginClass 17 = .ok (.iload_n 1, 1) := by decide +kernel
theorem dX6_beginClass_18 : decode cX6_beginClass 18 = .ok (.iadd, 1) := by decide +kernel
theorem dX6_beginClass_19 : decode cX6_beginClass 19 = .ok (.istore_n 2, 1) := by decide +kernel
theorem dX6_beginClass_20 : decode cX6_beginClass 20 = .ok (.aload_n 0, 1) := by decide +kernel
theorem dX6_beginClass_21 : decode cX6_beginClass 21 = .ok (.aload_n 0, 1) := by decide +kernel
theorem dX6_beginClass_22 : decode cX6_beginClass 22 = .ok (.iload_n 2, 1) := by decide +kernel
theorem dX6_beginClass_23 : decode cX6_beginClass 23 = .ok (.invokevirtual 41, 3) := by decide +kernel
theorem dX6_beginClass_26 : decode cX6_beginClass 26 = .ok (.invokevirtual 45, 3) := by decide +kernel
theorem dX6_beginClass_29 : decode cX6_beginClass 29 = .ok (.aload_n 0, 1) := by decide +kernel
theorem dX6_beginClass_30 : decode cX6_beginClass 30 = .ok (.aload_n 0, 1) := by decide +kernel
theorem dX6_beginClass_31 : decode cX6_beginClass 31 = .ok (.aload_n 0, 1) := by decide +kernel
theorem dX6_beginClass_32 : decode cX6_beginClass 32 = .ok (.getfield 24, 3) := by decide +kernel
theorem dX6_beginClass_35 : decode cX6_beginClass 35 = .ok (.getfield 49, 3) := by decide +kernel
theorem dX6_beginClass_38 : decode cX6_beginClass 38 = .ok (.iload_n 2, 1) := by decide +kernel
theorem dX6_beginClass_39 : decode cX6_beginClass 39 = .ok (.invokevirtual 55, 3) := by decide +kernel
theorem dX6_beginClass_42 : decode cX6_beginClass 42 = .ok (.invokevirtual 41, 3) := by decide +kernel
theorem dX6_beginClass_45 : decode cX6_beginClass 45 = .ok (.invokevirtual 45, 3) := by decide +kernel
theorem dX6_beginClass_48 : decode cX6_beginClass 48 = .ok (.aload_n 0, 1) := by decide +kernel
theorem dX6_beginClass_49 : decode cX6_beginClass 49 = .ok (.aload_n 0, 1) := by decide +kernel
theorem dX6_beginClass_50 : decode cX6_beginClass 50 = .ok (.getfield 24, 3) := by decide +kernel
theorem dX6_beginClass_53 : decode cX6_beginClass 53 = .ok (.iload_n 1, 1) := by decide +kernel
theorem dX6_beginClass_54 : decode cX6_beginClass 54 = .ok (.invokevirtual 58, 3) := by decide +kernel
theorem dX6_beginClass_57 : decode cX6_beginClass 57 = .ok (.invokevirtual 45, 3) := by decide +kernel
theorem dX6_beginClass_60 : decode cX6_beginClass 60 = .ok (.iconst 0, 1) := by decide +kernel
theorem dX6_beginClass_61 : decode cX6_beginClass 61 = .ok (.istore_n 3, 1) := by decide +kernel
theorem dX6_beginClass_62 : decode cX6_beginClass 62 = .ok (.iload_n 3, 1) := by decide +kernel
theorem dX6_beginClass_63 : decode cX6_beginClass 63 = .ok (.aload_n 0, 1) := by decide +kernel
theorem dX6_beginClass_64 : decode cX6_beginClass 64 = .ok (.getfield 24, 3) := by decide +kernel
theorem dX6_beginClass_67 : decode cX6_beginClass 67 = .ok (.iload_n 1, 1) := by decide +kernel
theorem dX6_beginClass_68 : decode cX6_beginClass 68 = .ok (.invokevirtual 58, 3) := by decide +kernel
theorem dX6_beginClass_71 : decode cX6_beginClass 71 = .ok (.if_icmp .ge 53, 3) := by decide +kernel
theorem dX6_beginClass_74 : decode cX6_beginClass 74 = .ok (.iload_n 1, 1) := by decide +kernel
theorem dX6_beginClass_75 : decode cX6_beginClass 75 = .ok (.bipush 12, 2) := by decide +kernel
theorem dX6_beginClass_77 : decode cX6_beginClass 77 = .ok (.imul, 1) := by decide +kernel
theorem dX6_beginClass_78 : decode cX6_beginClass 78 = .ok (.iload_n 3, 1) := by decide +kernel
theorem dX6_beginClass_79 : decode cX6_beginClass 79 = .ok (.iadd, 1) := by decide +kernel
theorem dX6_beginClass_80 : decode cX6_beginClass 80 = .ok (.istore 4, 2) := by decide +kernel
theorem dX6_beginClass_82 : decode cX6_beginClass 82 = .ok (.aload_n 0, 1) := by decide +kernel
theorem dX6_beginClass_83 : decode cX6_beginClass 83 = .ok (.aload_n 0, 1) := by decide +kernel
theorem dX6_beginClass_84 : decode cX6_beginClass 84 = .ok (.iconst 1, 1) := by decide +kernel
theorem dX6_beginClass_85 : decode cX6_beginClass 85 = .ok (.aload_n 0, 1) := by decide +kernel
theorem dX6_beginClass_86 : decode cX6_beginClass 86 = .ok (.getfield 24, 3) := by decide +kernel
theorem dX6_beginClass_89 : decode cX6_beginClass 89 = .ok (.iload 4, 2) := by decide +kernel
theorem dX6_beginClass_91 : decode cX6_beginClass 91 = .ok (.invokevirtual 63, 3) := by decide +kernel
theorem dX6_beginClass_94 : decode cX6_beginClass 94 = .ok (.invokevirtual 66, 3) := by decide +kernel
theorem dX6_beginClass_97 : decode cX6_beginClass 97 = .ok (.invokevirtual 45, 3) := by decide +kernel
theorem dX6_beginClass_100 : decode cX6_beginClass 100 = .ok (.aload_n 0, 1) := by decide +kernel
theorem dX6_beginClass_101 : decode cX6_beginClass 101 = .ok (.aload_n 0, 1) := by decide +kernel
theorem dX6_beginClass_102 : decode cX6_beginClass 102 = .ok (.iconst 1, 1) := by decide +kernel
theorem dX6_beginClass_103 : decode cX6_beginClass 103 = .ok (.aload_n 0, 1) := by decide +kernel
theorem dX6_beginClass_104 : decode cX6_beginClass 104 = .ok (.getfield 24, 3) := by decide +kernel
theorem dX6_beginClass_107 : decode cX6_beginClass 107 = .ok (.iload 4, 2) := by decide +kernel
theorem dX6_beginClass_109 : decode cX6_beginClass 109 = .ok (.invokevirtual 70, 3) := by decide +kernel
theorem dX6_beginClass_112 : decode cX6_beginClass 112 = .ok (.invokevirtual 66, 3) := by decide +kernel
theorem dX6_beginClass_115 : decode cX6_beginClass 115 = .ok (.invokevirtual 45, 3) := by decide +kernel
theorem dX6_beginClass_118 : decode cX6_beginClass 118 = .ok (.iinc 3 1, 3) := by decide +kernel
theorem dX6_beginClass_121 : decode cX6_beginClass 121 = .ok (.goto (-59), 3) := by decide +kernel
theorem dX6_beginClass_124 : decode cX6_beginClass 124 = .ok (.aload_n 0, 1) := by decide +kernel
theorem dX6_beginClass_125 : decode cX6_beginClass 125 = .ok (.aload_n 0, 1) := by decide +kernel
theorem dX6_beginClass_126 : decode cX6_beginClass 126 = .ok (.getfield 24, 3) := by decide +kernel
theorem dX6_beginClass_129 : decode cX6_beginClass 129 = .ok (.iload_n 1, 1) := by decide +kernel
theorem dX6_beginClass_130 : decode cX6_beginClass 130 = .ok (.invokevirtual 73, 3) := by decide +kernel
theorem dX6_beginClass_133 : decode cX6_beginClass 133 = .ok (.invokevirtual 45, 3) := by decide +kernel
theorem dX6_beginClass_136 : decode cX6_beginClass 136 = .ok (.return_, 1) := by decide +kernel
theorem rs_RX0_52 : mx_res RX0 52 = some (0, 0, 3) := by decide +kernel
theorem rs_RX0_73 : mx_res RX0 73 = some (1, 182, 1) := by decide +kernel
theorem mt_X0_beginClass : mx_mt 6 = some (yX0_beginClass, cX0_beginClass, 2, none) := rfl
theorem dX0_beginClass_0 : decode cX0_beginClass 0 = .ok (.aload_n 0, 1) := by decide +kernel
theorem dX0_beginClass_1 : decode cX0_beginClass 1 = .ok (.getfield 52, 3) := by decide +kernel
theorem dX0_beginClass_4 : decode cX0_beginClass 4 = .ok (.iload_n 1, 1) := by decide +kernel
theorem dX0_beginClass_5 : decode cX0_beginClass 5 = .ok (.invokevirtual 73, 3) := by decide +kernel
theorem dX0_beginClass_8 : decode cX0_beginClass 8 = .ok (.return_, 1) := by decide +kernel
theorem rs_RX0_65 : mx_res RX0 65 = some (0, 0, 7) := by decide +kernel
theorem ft_0_7 : mx_fty 0 7 = some (.int, false, "ClassMill$Bodies") := by decide +kernel
theorem mt_X0_beginProgram : mx_mt 3 = some (yX0_beginProgram, cX0_beginProgram, 1, none) := rfl
theorem dX0_beginProgram_0 : decode cX0_beginProgram 0 = .ok (.aload_n 0, 1) := by decide +kernel
theorem dX0_beginProgram_1 : decode cX0_beginProgram 1 = .ok (.iconst (-1), 1) := by decide +kernel
theorem dX0_beginProgram_2 : decode cX0_beginProgram 2 = .ok (.putfield 65, 3) := by decide +kernel
theorem dX0_beginProgram_5 : decode cX0_beginProgram 5 = .ok (.return_, 1) := by decide +kernel
theorem mt_X0_noteMuch : mx_mt 5 = some (yX0_noteMuch, cX0_noteMuch, 3, none) := rfl
theorem dX0_noteMuch_0 : decode cX0_noteMuch 0 = .ok (.iload_n 1, 1) := by decide +kernel
theorem dX0_noteMuch_1 : decode cX0_noteMuch 1 = .ok (.ifCond .eq 16, 3) := by decide +kernel
theorem dX0_noteMuch_4 : decode cX0_noteMuch 4 = .ok (.aload_n 0, 1) := by decide +kernel
theorem dX0_noteMuch_5 : decode cX0_noteMuch 5 = .ok (.getfield 65, 3) := by decide +kernel
theorem dX0_noteMuch_8 : decode cX0_noteMuch 8 = .ok (.iconst (-1), 1) := by decide +kernel
theorem dX0_noteMuch_9 : decode cX0_noteMuch 9 = .ok (.if_icmp .ne 8, 3) := by decide +kernel
theorem dX0_noteMuch_12 : decode cX0_noteMuch 12 = .ok (.aload_n 0, 1) := by decide +kernel
theorem dX0_noteMuch_13 : decode cX0_noteMuch 13 = .ok (.iload_n 2, 1) := by decide +kernel
theorem dX0_noteMuch_14 : decode cX0_noteMuch 14 = .ok (.putfield 65, 3) := by decide +kernel
theorem dX0_noteMuch_17 : decode cX0_noteMuch 17 = .ok (.return_, 1) := by decide +kernel
theorem rs_RX2_20 : mx_res RX2 20 = some (0, 2, 3) := by decide +kernel
theorem rs_RX2_78 : mx_res RX2 78 = some (0, 2, 2) := by decide +kernel
theorem mt_X2_tokenOfClass : mx_mt 60 = some (yX2_tokenOfClass, cX2_tokenOfClass, 2, (some .int)) := rfl
theorem dX2_tokenOfClass_0 : decode cX2_tokenOfClass 0 = .ok (.iload_n 1, 1) := by decide +kernel
theorem dX2_tokenOfClass_1 : decode cX2_tokenOfClass 1 = .ok (.ifCond .lt 20, 3) := by decide +kernel
theorem dX2_tokenOfClass_4 : decode cX2_tokenOfClass 4 = .ok (.iload_n 1, 1) := by decide +kernel
theorem dX2_tokenOfClass_5 : decode cX2_tokenOfClass 5 = .ok (.aload_n 0, 1) := by decide +kernel
theorem dX2_tokenOfClass_6 : decode cX2_tokenOfClass 6 = .ok (.getfield 78, 3) := by decide +kernel
theorem dX2_tokenOfClass_9 : decode cX2_tokenOfClass 9 = .ok (.if_icmp .ge 12, 3) := by decide +kernel
theorem dX2_tokenOfClass_12 : decode cX2_tokenOfClass 12 = .ok (.aload_n 0, 1) := by decide +kernel
theorem dX2_tokenOfClass_13 : decode cX2_tokenOfClass 13 = .ok (.getfield 20, 3) := by decide +kernel
theorem dX2_tokenOfClass_16 : decode cX2_tokenOfClass 16 = .ok (.iload_n 1, 1) := by decide +kernel
theorem dX2_tokenOfClass_17 : decode cX2_tokenOfClass 17 = .ok (.iaload, 1) := by decide +kernel
theorem dX2_tokenOfClass_18 : decode cX2_tokenOfClass 18 = .ok (.goto 4, 3) := by decide +kernel
theorem dX2_tokenOfClass_21 : decode cX2_tokenOfClass 21 = .ok (.iconst (-1), 1) := by decide +kernel
theorem dX2_tokenOfClass_22 : decode cX2_tokenOfClass 22 = .ok (.ireturn, 1) := by decide +kernel
theorem rs_RX9_29 : mx_res RX9 29 = some (0, 9, 5) := by decide +kernel
theorem rs_RX9_73 : mx_res RX9 73 = some (0, 9, 9) := by decide +kernel
theorem mt_X9_nameLength : mx_mt 250 = some (yX9_nameLength, cX9_nameLength, 2, (some .int)) := rfl
theorem dX9_nameLength_0 : decode cX9_nameLength 0 = .ok (.iload_n 1, 1) := by decide +kernel
theorem dX9_nameLength_1 : decode cX9_nameLength 1 = .ok (.ifCond .lt 29, 3) := by decide +kernel
theorem dX9_nameLength_4 : decode cX9_nameLength 4 = .ok (.iload_n 1, 1) := by decide +kernel
theorem dX9_nameLength_5 : decode cX9_nameLength 5 = .ok (.aload_n 0, 1) := by decide +kernel
theorem dX9_nameLength_6 : decode cX9_nameLength 6 = .ok (.getfield 73, 3) := by decide +kernel
theorem dX9_nameLength_9 : decode cX9_nameLength 9 = .ok (.if_icmp .ge 21, 3) := by decide +kernel
theorem dX9_nameLength_12 : decode cX9_nameLength 12 = .ok (.aload_n 0, 1) := by decide +kernel
theorem dX9_nameLength_13 : decode cX9_nameLength 13 = .ok (.getfield 29, 3) := by decide +kernel
theorem dX9_nameLength_16 : decode cX9_nameLength 16 = .ok (.iload_n 1, 1) := by decide +kernel
theorem dX9_nameLength_17 : decode cX9_nameLength 17 = .ok (.iconst 1, 1) := by decide +kernel
theorem dX9_nameLength_18 : decode cX9_nameLength 18 = .ok (.iadd, 1) := by decide +kernel
theorem dX9_nameLength_19 : decode cX9_nameLength 19 = .ok (.iaload, 1) := by decide +kernel
theorem dX9_nameLength_20 : decode cX9_nameLength 20 = .ok (.aload_n 0, 1) := by decide +kernel
theorem dX9_nameLength_21 : decode cX9_nameLength 21 = .ok (.getfield 29, 3) := by decide +kernel
theorem dX9_nameLength_24 : decode cX9_nameLength 24 = .ok (.iload_n 1, 1) := by decide +kernel
theorem dX9_nameLength_25 : decode cX9_nameLength 25 = .ok (.iaload, 1) := by decide +kernel
theorem dX9_nameLength_26 : decode cX9_nameLength 26 = .ok (.isub, 1) := by decide +kernel
theorem dX9_nameLength_27 : decode cX9_nameLength 27 = .ok (.goto 4, 3) := by decide +kernel
theorem dX9_nameLength_30 : decode cX9_nameLength 30 = .ok (.iconst 0, 1) := by decide +kernel
theorem dX9_nameLength_31 : decode cX9_nameLength 31 = .ok (.ireturn, 1) := by decide +kernel
theorem rs_RX6_20 : mx_res RX6 20 = some (0, 6, 0) := by decide +kernel
theorem rs_RX6_107 : mx_res RX6 107 = some (1, 250, 1) := by decide +kernel
theorem mt_X6_bytesOf : mx_mt 189 = some (yX6_bytesOf, cX6_bytesOf, 3, (some .int)) := rfl
theorem dX6_bytesOf_0 : decode cX6_bytesOf 0 = .ok (.iload_n 1, 1) := by decide +kernel
theorem dX6_bytesOf_1 : decode cX6_bytesOf 1 = .ok (.tableswitch 42 1 3 #[27, 38, 40], 27) := by decide +kernel
theorem dX6_bytesOf_28 : decode cX6_bytesOf 28 = .ok (.iconst 2, 1) := by decide +kernel
theorem dX6_bytesOf_29 : decode cX6_bytesOf 29 = .ok (.aload_n 0, 1) := by decide +kernel
theorem dX6_bytesOf_30 : decode cX6_bytesOf 30 = .ok (.getfield 20, 3) := by decide +kernel
theorem dX6_bytesOf_33 : decode cX6_bytesOf 33 = .ok (.iload_n 2, 1) := by decide +kernel
theorem dX6_bytesOf_34 : decode cX6_bytesOf 34 = .ok (.invokevirtual 107, 3) := by decide +kernel
theorem dX6_bytesOf_37 : decode cX6_bytesOf 37 = .ok (.iadd, 1) := by decide +kernel
theorem dX6_bytesOf_38 : decode cX6_bytesOf 38 = .ok (.ireturn, 1) := by decide +kernel
theorem dX6_bytesOf_39 : decode cX6_bytesOf 39 = .ok (.iconst 5, 1) := by decide +kernel
theorem dX6_bytesOf_40 : decode cX6_bytesOf 40 = .ok (.ireturn, 1) := by decide +kernel
theorem dX6_bytesOf_41 : decode cX6_bytesOf 41 = .ok (.iconst 2, 1) := by decide +kernel
theorem dX6_bytesOf_42 : decode cX6_bytesOf 42 = .ok (.ireturn, 1) := by decide +kernel
theorem dX6_bytesOf_43 : decode cX6_bytesOf 43 = .ok (.iconst 4, 1) := by decide +kernel
theorem dX6_bytesOf_44 : decode cX6_bytesOf 44 = .ok (.ireturn, 1) := by decide +kernel
theorem rs_RX6_90 : mx_res RX6 90 = some (1, 189, 2) := by decide +kernel
theorem mt_X6_imageSize : mx_mt 187 = some (yX6_imageSize, cX6_imageSize, 3, (some .int)) := rfl
theorem dX6_imageSize_0 : decode cX6_imageSize 0 = .ok (.iconst 3, 1) := by decide +kernel
theorem dX6_imageSize_1 : decode cX6_imageSize 1 = .ok (.aload_n 0, 1) := by decide +kernel
theorem dX6_imageSize_2 : decode cX6_imageSize 2 = .ok (.getfield 36, 3) := by decide +kernel
theorem dX6_imageSize_5 : decode cX6_imageSize 5 = .ok (.iadd, 1) := by decide +kernel
theorem dX6_imageSize_6 : decode cX6_imageSize 6 = .ok (.istore_n 1, 1) := by decide +kernel
theorem dX6_imageSize_7 : decode cX6_imageSize 7 = .ok (.iconst 1, 1) := by decide +kernel
theorem dX6_imageSize_8 : decode cX6_imageSize 8 = .ok (.istore_n 2, 1) := by decide +kernel
theorem dX6_imageSize_9 : decode cX6_imageSize 9 = .ok (.iload_n 2, 1) := by decide +kernel
theorem dX6_imageSize_10 : decode cX6_imageSize 10 = .ok (.aload_n 0, 1) := by decide +kernel
theorem dX6_imageSize_11 : decode cX6_imageSize 11 = .ok (.getfield 28, 3) := by decide +kernel
theorem dX6_imageSize_14 : decode cX6_imageSize 14 = .ok (.if_icmp .gt 28, 3) := by decide +kernel
theorem dX6_imageSize_17 : decode cX6_imageSize 17 = .ok (.iload_n 1, 1) := by decide +kernel
theorem dX6_imageSize_18 : decode cX6_imageSize 18 = .ok (.aload_n 0, 1) := by decide +kernel
theorem dX6_imageSize_19 : decode cX6_imageSize 19 = .ok (.aload_n 0, 1) := by decide +kernel
theorem dX6_imageSize_20 : decode cX6_imageSize 20 = .ok (.getfield 9, 3) := by decide +kernel
theorem dX6_imageSize_23 : decode cX6_imageSize 23 = .ok (.iload_n 2, 1) := by decide +kernel
theorem dX6_imageSize_24 : decode cX6_imageSize 24 = .ok (.iaload, 1) := by decide +kernel
theorem dX6_imageSize_25 : decode cX6_imageSize 25 = .ok (.aload_n 0, 1) := by decide +kernel
theorem dX6_imageSize_26 : decode cX6_imageSize 26 = .ok (.getfield 13, 3) := by decide +kernel
theorem dX6_imageSize_29 : decode cX6_imageSize 29 = .ok (.iload_n 2, 1) := by decide +kernel
theorem dX6_imageSize_30 : decode cX6_imageSize 30 = .ok (.iaload, 1) := by decide +kernel
theorem dX6_imageSize_31 : decode cX6_imageSize 31 = .ok (.invokevirtual 90, 3) := by decide +kernel
theorem dX6_imageSize_34 : decode cX6_imageSize 34 = .ok (.iadd, 1) := by decide +kernel
theorem dX6_imageSize_35 : decode cX6_imageSize 35 = .ok (.istore_n 1, 1) := by decide +kernel
theorem dX6_imageSize_36 : decode cX6_imageSize 36 = .ok (.iinc 2 1, 3) := by decide +kernel
theorem dX6_imageSize_39 : decode cX6_imageSize 39 = .ok (.goto (-30), 3) := by decide +kernel
theorem dX6_imageSize_42 : decode cX6_imageSize 42 = .ok (.iload_n 1, 1) := by decide +kernel
theorem dX6_imageSize_43 : decode cX6_imageSize 43 = .ok (.ireturn, 1) := by decide +kernel
theorem rs_RX6_86 : mx_res RX6 86 = some (1, 187, 0) := by decide +kernel
theorem mt_X6_isTooMuch : mx_mt 186 = some (yX6_isTooMuch, cX6_isTooMuch, 1, (some .boolean)) := rfl
theorem dX6_isTooMuch_0 : decode cX6_isTooMuch 0 = .ok (.aload_n 0, 1) := by decide +kernel
theorem dX6_isTooMuch_1 : decode cX6_isTooMuch 1 = .ok (.getfield 32, 3) := by decide +kernel
theorem dX6_isTooMuch_4 : decode cX6_isTooMuch 4 = .ok (.ifCond .ne 13, 3) := by decide +kernel
theorem dX6_isTooMuch_7 : decode cX6_isTooMuch 7 = .ok (.aload_n 0, 1) := by decide +kernel
theorem dX6_isTooMuch_8 : decode cX6_isTooMuch 8 = .ok (.invokevirtual 86, 3) := by decide +kernel
theorem dX6_isTooMuch_11 : decode cX6_isTooMuch 11 = .ok (.sipush 6000, 3) := by decide +kernel
theorem dX6_isTooMuch_14 : decode cX6_isTooMuch 14 = .ok (.if_icmp .le 7, 3) := by decide +kernel
theorem dX6_isTooMuch_17 : decode cX6_isTooMuch 17 = .ok (.iconst 1, 1) := by decide +kernel
theorem dX6_isTooMuch_18 : decode cX6_isTooMuch 18 = .ok (.goto 4, 3) := by decide +kernel
theorem dX6_isTooMuch_21 : decode cX6_isTooMuch 21 = .ok (.iconst 0, 1) := by decide +kernel
theorem dX6_isTooMuch_22 : decode cX6_isTooMuch 22 = .ok (.ireturn, 1) := by decide +kernel
theorem rs_RX9_25 : mx_res RX9 25 = some (0, 9, 4) := by decide +kernel
theorem rs_RX9_67 : mx_res RX9 67 = some (6, 0, 0) := by decide +kernel
theorem rs_RX9_89 : mx_res RX9 89 = some (1, 250, 1) := by decide +kernel
theorem mt_X9_copyName : mx_mt 251 = some (yX9_copyName, cX9_copyName, 5, none) := rfl
theorem dX9_copyName_0 : decode cX9_copyName 0 = .ok (.aload_n 0, 1) := by decide +kernel
theorem dX9_copyName_1 : decode cX9_copyName 1 = .ok (.iload_n 1, 1) := by decide +kernel
theorem dX9_copyName_2 : decode cX9_copyName 2 = .ok (.invokevirtual 89, 3) := by decide +kernel
theorem dX9_copyName_5 : decode cX9_copyName 5 = .ok (.istore 4, 2) := by decide +kernel
theorem dX9_copyName_7 : decode cX9_copyName 7 = .ok (.iload_n 3, 1) := by decide +kernel
theorem dX9_copyName_8 : decode cX9_copyName 8 = .ok (.ifCond .lt 34, 3) := by decide +kernel
theorem dX9_copyName_11 : decode cX9_copyName 11 = .ok (.iload_n 3, 1) := by decide +kernel
theorem dX9_copyName_12 : decode cX9_copyName 12 = .ok (.iload 4, 2) := by decide +kernel
theorem dX9_copyName_14 : decode cX9_copyName 14 = .ok (.iadd, 1) := by decide +kernel
theorem dX9_copyName_15 : decode cX9_copyName 15 = .ok (.aload_n 2, 1) := by decide +kernel
theorem dX9_copyName_16 : decode cX9_copyName 16 = .ok (.arraylength, 1) := by decide +kernel
theorem dX9_copyName_17 : decode cX9_copyName 17 = .ok (.if_icmp .gt 25, 3) := by decide +kernel
theorem dX9_copyName_20 : decode cX9_copyName 20 = .ok (.iload 4, 2) := by decide +kernel
theorem dX9_copyName_22 : decode cX9_copyName 22 = .ok (.ifCond .le 20, 3) := by decide +kernel
theorem dX9_copyName_25 : decode cX9_copyName 25 = .ok (.aload_n 0, 1) := by decide +kernel
theorem dX9_copyName_26 : decode cX9_copyName 26 = .ok (.getfield 25, 3) := by decide +kernel
theorem dX9_copyName_29 : decode cX9_copyName 29 = .ok (.aload_n 0, 1) := by decide +kernel
theorem dX9_copyName_30 : decode cX9_copyName 30 = .ok (.getfield 29, 3) := by decide +kernel
theorem dX9_copyName_33 : decode cX9_copyName 33 = .ok (.iload_n 1, 1) := by decide +kernel
theorem dX9_copyName_34 : decode cX9_copyName 34 = .ok (.iaload, 1) := by decide +kernel
theorem dX9_copyName_35 : decode cX9_copyName 35 = .ok (.aload_n 2, 1) := by decide +kernel
theorem dX9_copyName_36 : decode cX9_copyName 36 = .ok (.iload_n 3, 1) := by decide +kernel
theorem dX9_copyName_37 : decode cX9_copyName 37 = .ok (.iload 4, 2) := by decide +kernel
theorem dX9_copyName_39 : decode cX9_copyName 39 = .ok (.invokestatic 67, 3) := by decide +kernel
theorem dX9_copyName_42 : decode cX9_copyName 42 = .ok (.return_, 1) := by decide +kernel
theorem rs_RX6_112 : mx_res RX6 112 = some (1, 251, 3) := by decide +kernel
theorem mt_X6_writeConstant : mx_mt 190 = some (yX6_writeConstant, cX6_writeConstant, 6, none) := rfl
theorem dX6_writeConstant_0 : decode cX6_writeConstant 0 = .ok (.aload_n 0, 1) := by decide +kernel
theorem dX6_writeConstant_1 : decode cX6_writeConstant 1 = .ok (.aload_n 0, 1) := by decide +kernel
theorem dX6_writeConstant_2 : decode cX6_writeConstant 2 = .ok (.getfield 9, 3) := by decide +kernel
theorem dX6_writeConstant_5 : decode cX6_writeConstant 5 = .ok (.iload_n 1, 1) := by decide +kernel
theorem dX6_writeConstant_6 : decode cX6_writeConstant 6 = .ok (.iaload, 1) := by decide +kernel
theorem dX6_writeConstant_7 : decode cX6_writeConstant 7 = .ok (.aload_n 0, 1) := by decide +kernel
theorem dX6_writeConstant_8 : decode cX6_writeConstant 8 = .ok (.getfield 13, 3) := by decide +kernel
theorem dX6_writeConstant_11 : decode cX6_writeConstant 11 = .ok (.iload_n 1, 1) := by decide +kernel
theorem dX6_writeConstant_12 : decode cX6_writeConstant 12 = .ok (.iaload, 1) := by decide +kernel
theorem dX6_writeConstant_13 : decode cX6_writeConstant 13 = .ok (.invokevirtual 90, 3) := by decide +kernel
theorem dX6_writeConstant_16 : decode cX6_writeConstant 16 = .ok (.istore 4, 2) := by decide +kernel
theorem dX6_writeConstant_18 : decode cX6_writeConstant 18 = .ok (.iload_n 3, 1) := by decide +kernel
theorem dX6_writeConstant_19 : decode cX6_writeConstant 19 = .ok (.ifCond .lt 12, 3) := by decide +kernel
theorem dX6_writeConstant_22 : decode cX6_writeConstant 22 = .ok (.iload_n 3, 1) := by decide +kernel
theorem dX6_writeConstant_23 : decode cX6_writeConstant 23 = .ok (.iload 4, 2) := by decide +kernel
theorem dX6_writeConstant_25 : decode cX6_writeConstant 25 = .ok (.iadd, 1) := by decide +kernel
theorem dX6_writeConstant_26 : decode cX6_writeConstant 26 = .ok (.aload_n 2, 1) := by decide +kernel
theorem dX6_writeConstant_27 : decode cX6_writeConstant 27 = .ok (.arraylength, 1) := by decide +kernel
theorem dX6_writeConstant_28 : decode cX6_writeConstant 28 = .ok (.if_icmp .le 4, 3) := by decide +kernel
theorem dX6_writeConstant_31 : decode cX6_writeConstant 31 = .ok (.return_, 1) := by decide +kernel
theorem dX6_writeConstant_32 : decode cX6_writeConstant 32 = .ok (.aload_n 2, 1) := by decide +kernel
theorem dX6_writeConstant_33 : decode cX6_writeConstant 33 = .ok (.iload_n 3, 1) := by decide +kernel
theorem dX6_writeConstant_34 : decode cX6_writeConstant 34 = .ok (.aload_n 0, 1) := by decide +kernel
theorem dX6_writeConstant_35 : decode cX6_writeConstant 35 = .ok (.getfield 9, 3) := by decide +kernel
theorem dX6_writeConstant_38 : decode cX6_writeConstant 38 = .ok (.iload_n 1, 1) := by decide +kernel
theorem dX6_writeConstant_39 : decode cX6_writeConstant 39 = .ok (.iaload, 1) := by decide +kernel
theorem dX6_writeConstant_40 : decode cX6_writeConstant 40 = .ok (.i2b, 1) := by decide +kernel
theorem dX6_writeConstant_41 : decode cX6_writeConstant 41 = .ok (.bastore, 1) := by decide +kernel
theorem dX6_writeConstant_42 : decode cX6_writeConstant 42 = .ok (.aload_n 0, 1) := by decide +kernel
theorem dX6_writeConstant_43 : decode cX6_writeConstant 43 = .ok (.getfield 9, 3) := by decide +kernel
theorem dX6_writeConstant_46 : decode cX6_writeConstant 46 = .ok (.iload_n 1, 1) := by decide +kernel
theorem dX6_writeConstant_47 : decode cX6_writeConstant 47 = .ok (.iaload, 1) := by decide +kernel
theorem dX6_writeConstant_48 : decode cX6_writeConstant 48 = .ok (.iconst 1, 1) := by decide +kernel
theorem dX6_writeConstant_49 : decode cX6_writeConstant 49 = .ok (.if_icmp .ne 31, 3) := by decide +kernel
theorem dX6_writeConstant_52 : decode cX6_writeConstant 52 = .ok (.aload_n 2, 1) := by decide +kernel
theorem dX6_writeConstant_53 : decode cX6_writeConstant 53 = .ok (.iload_n 3, 1) := by decide +kernel
theorem dX6_writeConstant_54 : decode cX6_writeConstant 54 = .ok (.iconst 1, 1) := by decide +kernel
theorem dX6_writeConstant_55 : decode cX6_writeConstant 55 = .ok (.iadd, 1) := by decide +kernel
theorem dX6_writeConstant_56 : decode cX6_writeConstant 56 = .ok (.iload 4, 2) := by decide +kernel
theorem dX6_writeConstant_58 : decode cX6_writeConstant 58 = .ok (.iconst 2, 1) := by decide +kernel
theorem dX6_writeConstant_59 : decode cX6_writeConstant 59 = .ok (.isub, 1) := by decide +kernel
theorem dX6_writeConstant_60 : decode cX6_writeConstant 60 = .ok (.i2b, 1) := by decide +kernel
theorem dX6_writeConstant_61 : decode cX6_writeConstant 61 = .ok (.bastore, 1) := by decide +kernel
theorem dX6_writeConstant_62 : decode cX6_writeConstant 62 = .ok (.aload_n 0, 1) := by decide +kernel
theorem dX6_writeConstant_63 : decode cX6_writeConstant 63 = .ok (.getfield 20, 3) := by decide +kernel
theorem dX6_writeConstant_66 : decode cX6_writeConstant 66 = .ok (.aload_n 0, 1) := by decide +kernel
theorem dX6_writeConstant_67 : decode cX6_writeConstant 67 = .ok (.getfield 13, 3) := by decide +kernel
theorem dX6_writeConstant_70 : decode cX6_writeConstant 70 = .ok (.iload_n 1, 1) := by decide +kernel
theorem dX6_writeConstant_71 : decode cX6_writeConstant 71 = .ok (.iaload, 1) := by decide +kernel
theorem dX6_writeConstant_72 : decode cX6_writeConstant 72 = .ok (.aload_n 2, 1) := by decide +kernel
theorem dX6_writeConstant_73 : decode cX6_writeConstant 73 = .ok (.iload_n 3, 1) := by decide +kernel
theorem dX6_writeConstant_74 : decode cX6_writeConstant 74 = .ok (.iconst 2, 1) := by decide +kernel
theorem dX6_writeConstant_75 : decode cX6_writeConstant 75 = .ok (.iadd, 1) := by decide +kernel
theorem dX6_writeConstant_76 : decode cX6_writeConstant 76 = .ok (.invokevirtual 112, 3) := by decide +kernel
theorem dX6_writeConstant_79 : decode cX6_writeConstant 79 = .ok (.return_, 1) := by decide +kernel
theorem dX6_writeConstant_80 : decode cX6_writeConstant 80 = .ok (.iconst 1, 1) := by decide +kernel
theorem dX6_writeConstant_81 : decode cX6_writeConstant 81 = .ok (.istore 5, 2) := by decide +kernel
theorem dX6_writeConstant_83 : decode cX6_writeConstant 83 = .ok (.iload 5, 2) := by decide +kernel
theorem dX6_writeConstant_85 : decode cX6_writeConstant 85 = .ok (.iload 4, 2) := by decide +kernel
theorem dX6_writeConstant_87 : decode cX6_writeConstant 87 = .ok (.if_icmp .ge 33, 3) := by decide +kernel
theorem dX6_writeConstant_90 : decode cX6_writeConstant 90 = .ok (.aload_n 2, 1) := by decide +kernel
theorem dX6_writeConstant_91 : decode cX6_writeConstant 91 = .ok (.iload_n 3, 1) := by decide +kernel
theorem dX6_writeConstant_92 : decode cX6_writeConstant 92 = .ok (.iload 5, 2) := by decide +kernel
theorem dX6_writeConstant_94 : decode cX6_writeConstant 94 = .ok (.iadd, 1) := by decide +kernel
theorem dX6_writeConstant_95 : decode cX6_writeConstant 95 = .ok (.aload_n 0, 1) := by decide +kernel
theorem dX6_writeConstant_96 : decode cX6_writeConstant 96 = .ok (.getfield 13, 3) := by decide +kernel
theorem dX6_writeConstant_99 : decode cX6_writeConstant 99 = .ok (.iload_n 1, 1) := by decide +kernel
theorem dX6_writeConstant_100 : decode cX6_writeConstant 100 = .ok (.iaload, 1) := by decide +kernel
theorem dX6_writeConstant_101 : decode cX6_writeConstant 101 = .ok (.bipush 8, 2) := by decide +kernel
theorem dX6_writeConstant_103 : decode cX6_writeConstant 103 = .ok (.iload 4, 2) := by decide +kernel
theorem dX6_writeConstant_105 : decode cX6_writeConstant 105 = .ok (.iconst 1, 1) := by decide +kernel
theorem dX6_writeConstant_106 : decode cX6_writeConstant 106 = .ok (.isub, 1) := by decide +kernel
theorem dX6_writeConstant_107 : decode cX6_writeConstant 107 = .ok (.iload 5, 2) := by decide +kernel
theorem dX6_writeConstant_109 : decode cX6_writeConstant 109 = .ok (.isub, 1) := by decide +kernel
theorem dX6_writeConstant_110 : decode cX6_writeConstant 110 = .ok (.imul, 1) := by decide +kernel
theorem dX6_writeConstant_111 : decode cX6_writeConstant 111 = .ok (.ishr, 1) := by decide +kernel
theorem dX6_writeConstant_112 : decode cX6_writeConstant 112 = .ok (.i2b, 1) := by decide +kernel
theorem dX6_writeConstant_113 : decode cX6_writeConstant 113 = .ok (.bastore, 1) := by decide +kernel
theorem dX6_writeConstant_114 : decode cX6_writeConstant 114 = .ok (.iinc 5 1, 3) := by decide +kernel
theorem dX6_writeConstant_117 : decode cX6_writeConstant 117 = .ok (.goto (-34), 3) := by decide +kernel
theorem dX6_writeConstant_120 : decode cX6_writeConstant 120 = .ok (.return_, 1) := by decide +kernel
