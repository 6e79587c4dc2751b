theorem mt_X10_closeCast : mx_mt 290 = some (yX10_closeCast, cX10_closeCast, 3, none) := rfl
theorem dX10_closeCast_0 : decode cX10_closeCast 0 = .ok (.aload_n 0, 1) := by decide +kernel
theorem dX10_closeCast_1 : decode cX10_closeCast 1 = .ok (.iconst 0, 1) := by decide +kernel
theorem dX10_closeCast_2 : decode cX10_closeCast 2 = .ok (.putfield 133, 3) := by decide +kernel
theorem dX10_closeCast_5 : decode cX10_closeCast 5 = .ok (.iload_n 1, 1) := by decide +kernel
theorem dX10_closeCast_6 : decode cX10_closeCast 6 = .ok (.iconst (-1), 1) := by decide +kernel
theorem dX10_closeCast_7 : decode cX10_closeCast 7 = .ok (.if_icmp .ne 4, 3) := by decide +kernel
theorem dX10_closeCast_10 : decode cX10_closeCast 10 = .ok (.return_, 1) := by decide +kernel
theorem dX10_closeCast_11 : decode cX10_closeCast 11 = .ok (.aload_n 0, 1) := by decide +kernel
theorem dX10_closeCast_12 : decode cX10_closeCast 12 = .ok (.iload_n 1, 1) := by decide +kernel
theorem dX10_closeCast_13 : decode cX10_closeCast 13 = .ok (.iload_n 2, 1) := by decide +kernel
theorem dX10_closeCast_14 : decode cX10_closeCast 14 = .ok (.invokevirtual 171, 3) := by decide +kernel
theorem dX10_closeCast_17 : decode cX10_closeCast 17 = .ok (.aload_n 0, 1) := by decide +kernel
theorem dX10_closeCast_18 : decode cX10_closeCast 18 = .ok (.getfield 46, 3) := by decide +kernel
theorem dX10_closeCast_21 : decode cX10_closeCast 21 = .ok (.sipush 192, 3) := by decide +kernel
theorem dX10_closeCast_24 : decode cX10_closeCast 24 = .ok (.aload_n 0, 1) := by decide +kernel
theorem dX10_closeCast_25 : decode cX10_closeCast 25 = .ok (.getfield 50, 3) := by decide +kernel
theorem dX10_closeCast_28 : decode cX10_closeCast 28 = .ok (.iload_n 1, 1) := by decide +kernel
theorem dX10_closeCast_29 : decode cX10_closeCast 29 = .ok (.invokevirtual 174, 3) := by decide +kernel
theorem dX10_closeCast_32 : decode cX10_closeCast 32 = .ok (.invokevirtual 179, 3) := by decide +kernel
theorem dX10_closeCast_35 : decode cX10_closeCast 35 = .ok (.aload_n 0, 1) := by decide +kernel
theorem dX10_closeCast_36 : decode cX10_closeCast 36 = .ok (.getfield 46, 3) := by decide +kernel
theorem dX10_closeCast_39 : decode cX10_closeCast 39 = .ok (.iconst 1, 1) := by decide +kernel
theorem dX10_closeCast_40 : decode cX10_closeCast 40 = .ok (.invokevirtual 118, 3) := by decide +kernel
theorem dX10_closeCast_43 : decode cX10_closeCast 43 = .ok (.aload_n 0, 1) := by decide +kernel
theorem dX10_closeCast_44 : decode cX10_closeCast 44 = .ok (.getfield 46, 3) := by decide +kernel
theorem dX10_closeCast_47 : decode cX10_closeCast 47 = .ok (.iload_n 1, 1) := by decide +kernel
theorem dX10_closeCast_48 : decode cX10_closeCast 48 = .ok (.invokevirtual 130, 3) := by decide +kernel
theorem dX10_closeCast_51 : decode cX10_closeCast 51 = .ok (.aload_n 0, 1) := by decide +kernel
theorem dX10_closeCast_52 : decode cX10_closeCast 52 = .ok (.iload_n 1, 1) := by decide +kernel
theorem dX10_closeCast_53 : decode cX10_closeCast 53 = .ok (.putfield 75, 3) := by decide +kernel
theorem dX10_closeCast_56 : decode cX10_closeCast 56 = .ok (.return_, 1) := by decide +kernel
theorem mt_X10_closeUnary : mx_mt 289 = some (yX10_closeUnary, cX10_closeUnary, 3, none) := rfl
theorem dX10_closeUnary_0 : decode cX10_closeUnary 0 = .ok (.aload_n 0, 1) := by decide +kernel
theorem dX10_closeUnary_1 : decode cX10_closeUnary 1 = .ok (.iconst 0, 1) := by decide +kernel
theorem dX10_closeUnary_2 : decode cX10_closeUnary 2 = .ok (.putfield 133, 3) := by decide +kernel
theorem dX10_closeUnary_5 : decode cX10_closeUnary 5 = .ok (.iload_n 1, 1) := by decide +kernel
theorem dX10_closeUnary_6 : decode cX10_closeUnary 6 = .ok (.bipush 71, 2) := by decide +kernel
theorem dX10_closeUnary_8 : decode cX10_closeUnary 8 = .ok (.if_icmp .ne 38, 3) := by decide +kernel
theorem dX10_closeUnary_11 : decode cX10_closeUnary 11 = .ok (.aload_n 0, 1) := by decide +kernel
theorem dX10_closeUnary_12 : decode cX10_closeUnary 12 = .ok (.aload_n 0, 1) := by decide +kernel
theorem dX10_closeUnary_13 : decode cX10_closeUnary 13 = .ok (.getfield 75, 3) := by decide +kernel
theorem dX10_closeUnary_16 : decode cX10_closeUnary 16 = .ok (.sipush 302, 3) := by decide +kernel
theorem dX10_closeUnary_19 : decode cX10_closeUnary 19 = .ok (.if_icmp .ne 7, 3) := by decide +kernel
theorem dX10_closeUnary_22 : decode cX10_closeUnary 22 = .ok (.iconst 1, 1) := by decide +kernel
theorem dX10_closeUnary_23 : decode cX10_closeUnary 23 = .ok (.goto 4, 3) := by decide +kernel
theorem dX10_closeUnary_26 : decode cX10_closeUnary 26 = .ok (.iconst 0, 1) := by decide +kernel
theorem dX10_closeUnary_27 : decode cX10_closeUnary 27 = .ok (.aload_n 0, 1) := by decide +kernel
theorem dX10_closeUnary_28 : decode cX10_closeUnary 28 = .ok (.getfield 146, 3) := by decide +kernel
theorem dX10_closeUnary_31 : decode cX10_closeUnary 31 = .ok (.invokevirtual 80, 3) := by decide +kernel
theorem dX10_closeUnary_34 : decode cX10_closeUnary 34 = .ok (.aload_n 0, 1) := by decide +kernel
theorem dX10_closeUnary_35 : decode cX10_closeUnary 35 = .ok (.getfield 46, 3) := by decide +kernel
theorem dX10_closeUnary_38 : decode cX10_closeUnary 38 = .ok (.sipush 153, 3) := by decide +kernel
theorem dX10_closeUnary_41 : decode cX10_closeUnary 41 = .ok (.iconst 1, 1) := by decide +kernel
theorem dX10_closeUnary_42 : decode cX10_closeUnary 42 = .ok (.invokevirtual 156, 3) := by decide +kernel
theorem dX10_closeUnary_45 : decode cX10_closeUnary 45 = .ok (.return_, 1) := by decide +kernel
theorem dX10_closeUnary_46 : decode cX10_closeUnary 46 = .ok (.aload_n 0, 1) := by decide +kernel
theorem dX10_closeUnary_47 : decode cX10_closeUnary 47 = .ok (.aload_n 0, 1) := by decide +kernel
theorem dX10_closeUnary_48 : decode cX10_closeUnary 48 = .ok (.getfield 75, 3) := by decide +kernel
theorem dX10_closeUnary_51 : decode cX10_closeUnary 51 = .ok (.sipush 301, 3) := by decide +kernel
theorem dX10_closeUnary_54 : decode cX10_closeUnary 54 = .ok (.if_icmp .ne 7, 3) := by decide +kernel
theorem dX10_closeUnary_57 : decode cX10_closeUnary 57 = .ok (.iconst 1, 1) := by decide +kernel
theorem dX10_closeUnary_58 : decode cX10_closeUnary 58 = .ok (.goto 4, 3) := by decide +kernel
theorem dX10_closeUnary_61 : decode cX10_closeUnary 61 = .ok (.iconst 0, 1) := by decide +kernel
theorem dX10_closeUnary_62 : decode cX10_closeUnary 62 = .ok (.iload_n 2, 1) := by decide +kernel
theorem dX10_closeUnary_63 : decode cX10_closeUnary 63 = .ok (.invokevirtual 80, 3) := by decide +kernel
theorem dX10_closeUnary_66 : decode cX10_closeUnary 66 = .ok (.iload_n 1, 1) := by decide +kernel
theorem dX10_closeUnary_67 : decode cX10_closeUnary 67 = .ok (.bipush 62, 2) := by decide +kernel
theorem dX10_closeUnary_69 : decode cX10_closeUnary 69 = .ok (.if_icmp .ne 15, 3) := by decide +kernel
theorem dX10_closeUnary_72 : decode cX10_closeUnary 72 = .ok (.aload_n 0, 1) := by decide +kernel
theorem dX10_closeUnary_73 : decode cX10_closeUnary 73 = .ok (.getfield 46, 3) := by decide +kernel
theorem dX10_closeUnary_76 : decode cX10_closeUnary 76 = .ok (.bipush 116, 2) := by decide +kernel
theorem dX10_closeUnary_78 : decode cX10_closeUnary 78 = .ok (.invokevirtual 162, 3) := by decide +kernel
theorem dX10_closeUnary_81 : decode cX10_closeUnary 81 = .ok (.goto 32, 3) := by decide +kernel
theorem dX10_closeUnary_84 : decode cX10_closeUnary 84 = .ok (.aload_n 0, 1) := by decide +kernel
theorem dX10_closeUnary_85 : decode cX10_closeUnary 85 = .ok (.getfield 46, 3) := by decide +kernel
theorem dX10_closeUnary_88 : decode cX10_closeUnary 88 = .ok (.sipush 301, 3) := by decide +kernel
theorem dX10_closeUnary_91 : decode cX10_closeUnary 91 = .ok (.invokevirtual 130, 3) := by decide +kernel
theorem dX10_closeUnary_94 : decode cX10_closeUnary 94 = .ok (.aload_n 0, 1) := by decide +kernel
theorem dX10_closeUnary_95 : decode cX10_closeUnary 95 = .ok (.getfield 46, 3) := by decide +kernel
theorem dX10_closeUnary_98 : decode cX10_closeUnary 98 = .ok (.iconst 2, 1) := by decide +kernel
theorem dX10_closeUnary_99 : decode cX10_closeUnary 99 = .ok (.sipush 130, 3) := by decide +kernel
theorem dX10_closeUnary_102 : decode cX10_closeUnary 102 = .ok (.invokevirtual 179, 3) := by decide +kernel
theorem dX10_closeUnary_105 : decode cX10_closeUnary 105 = .ok (.aload_n 0, 1) := by decide +kernel
theorem dX10_closeUnary_106 : decode cX10_closeUnary 106 = .ok (.getfield 46, 3) := by decide +kernel
theorem dX10_closeUnary_109 : decode cX10_closeUnary 109 = .ok (.iconst 1, 1) := by decide +kernel
theorem dX10_closeUnary_110 : decode cX10_closeUnary 110 = .ok (.invokevirtual 118, 3) := by decide +kernel
theorem dX10_closeUnary_113 : decode cX10_closeUnary 113 = .ok (.return_, 1) := by decide +kernel
theorem mt_X6_fieldOf : mx_mt 194 = some (yX6_fieldOf, cX6_fieldOf, 5, (some .int)) := rfl
theorem dX6_fieldOf_0 : decode cX6_fieldOf 0 = .ok (.aload_n 0, 1) := by decide +kernel
theorem dX6_fieldOf_1 : decode cX6_fieldOf 1 = .ok (.iload_n 1, 1) := by decide +kernel
theorem dX6_fieldOf_2 : decode cX6_fieldOf 2 = .ok (.invokevirtual 41, 3) := by decide +kernel
theorem dX6_fieldOf_5 : decode cX6_fieldOf 5 = .ok (.istore_n 3, 1) := by decide +kernel
theorem dX6_fieldOf_6 : decode cX6_fieldOf 6 = .ok (.aload_n 0, 1) := by decide +kernel
theorem dX6_fieldOf_7 : decode cX6_fieldOf 7 = .ok (.iconst 1, 1) := by decide +kernel
theorem dX6_fieldOf_8 : decode cX6_fieldOf 8 = .ok (.aload_n 0, 1) := by decide +kernel
theorem dX6_fieldOf_9 : decode cX6_fieldOf 9 = .ok (.getfield 24, 3) := by decide +kernel
theorem dX6_fieldOf_12 : decode cX6_fieldOf 12 = .ok (.iload_n 2, 1) := by decide +kernel
theorem dX6_fieldOf_13 : decode cX6_fieldOf 13 = .ok (.invokevirtual 63, 3) := by decide +kernel
theorem dX6_fieldOf_16 : decode cX6_fieldOf 16 = .ok (.invokevirtual 66, 3) := by decide +kernel
theorem dX6_fieldOf_19 : decode cX6_fieldOf 19 = .ok (.istore 4, 2) := by decide +kernel
theorem dX6_fieldOf_21 : decode cX6_fieldOf 21 = .ok (.aload_n 0, 1) := by decide +kernel
theorem dX6_fieldOf_22 : decode cX6_fieldOf 22 = .ok (.iconst 4, 1) := by decide +kernel
theorem dX6_fieldOf_23 : decode cX6_fieldOf 23 = .ok (.iload_n 3, 1) := by decide +kernel
theorem dX6_fieldOf_24 : decode cX6_fieldOf 24 = .ok (.bipush 16, 2) := by decide +kernel
theorem dX6_fieldOf_26 : decode cX6_fieldOf 26 = .ok (.ishl, 1) := by decide +kernel
theorem dX6_fieldOf_27 : decode cX6_fieldOf 27 = .ok (.iload 4, 2) := by decide +kernel
theorem dX6_fieldOf_29 : decode cX6_fieldOf 29 = .ok (.bipush 8, 2) := by decide +kernel
theorem dX6_fieldOf_31 : decode cX6_fieldOf 31 = .ok (.ishl, 1) := by decide +kernel
theorem dX6_fieldOf_32 : decode cX6_fieldOf 32 = .ok (.ior, 1) := by decide +kernel
theorem dX6_fieldOf_33 : decode cX6_fieldOf 33 = .ok (.aload_n 0, 1) := by decide +kernel
theorem dX6_fieldOf_34 : decode cX6_fieldOf 34 = .ok (.iconst 1, 1) := by decide +kernel
theorem dX6_fieldOf_35 : decode cX6_fieldOf 35 = .ok (.aload_n 0, 1) := by decide +kernel
theorem dX6_fieldOf_36 : decode cX6_fieldOf 36 = .ok (.getfield 24, 3) := by decide +kernel
theorem dX6_fieldOf_39 : decode cX6_fieldOf 39 = .ok (.iload_n 2, 1) := by decide +kernel
theorem dX6_fieldOf_40 : decode cX6_fieldOf 40 = .ok (.invokevirtual 70, 3) := by decide +kernel
theorem dX6_fieldOf_43 : decode cX6_fieldOf 43 = .ok (.invokevirtual 66, 3) := by decide +kernel
theorem dX6_fieldOf_46 : decode cX6_fieldOf 46 = .ok (.ior, 1) := by decide +kernel
theorem dX6_fieldOf_47 : decode cX6_fieldOf 47 = .ok (.invokevirtual 66, 3) := by decide +kernel
theorem dX6_fieldOf_50 : decode cX6_fieldOf 50 = .ok (.ireturn, 1) := by decide +kernel
theorem rs_RX10_215 : mx_res RX10 215 = some (0, 10, 14) := by decide +kernel
theorem rs_RX10_218 : mx_res RX10 218 = some (0, 10, 13) := by decide +kernel
theorem rs_RX10_221 : mx_res RX10 221 = some (1, 194, 2) := by decide +kernel
theorem mt_X10_fetch : mx_mt 292 = some (yX10_fetch, cX10_fetch, 1, none) := rfl
theorem dX10_fetch_0 : decode cX10_fetch 0 = .ok (.aload_n 0, 1) := by decide +kernel
theorem dX10_fetch_1 : decode cX10_fetch 1 = .ok (.getfield 133, 3) := by decide +kernel
theorem dX10_fetch_4 : decode cX10_fetch 4 = .ok (.tableswitch 130 2 4 #[28, 59, 95], 28) := by decide +kernel
theorem dX10_fetch_32 : decode cX10_fetch 32 = .ok (.aload_n 0, 1) := by decide +kernel
theorem dX10_fetch_33 : decode cX10_fetch 33 = .ok (.getfield 46, 3) := by decide +kernel
theorem dX10_fetch_36 : decode cX10_fetch 36 = .ok (.aload_n 0, 1) := by decide +kernel
theorem dX10_fetch_37 : decode cX10_fetch 37 = .ok (.getfield 75, 3) := by decide +kernel
theorem dX10_fetch_40 : decode cX10_fetch 40 = .ok (.invokestatic 143, 3) := by decide +kernel
theorem dX10_fetch_43 : decode cX10_fetch 43 = .ok (.ifCond .eq 8, 3) := by decide +kernel
theorem dX10_fetch_46 : decode cX10_fetch 46 = .ok (.bipush 21, 2) := by decide +kernel
theorem dX10_fetch_48 : decode cX10_fetch 48 = .ok (.goto 5, 3) := by decide +kernel
theorem dX10_fetch_51 : decode cX10_fetch 51 = .ok (.bipush 25, 2) := by decide +kernel
theorem dX10_fetch_53 : decode cX10_fetch 53 = .ok (.aload_n 0, 1) := by decide +kernel
theorem dX10_fetch_54 : decode cX10_fetch 54 = .ok (.getfield 215, 3) := by decide +kernel
theorem dX10_fetch_57 : decode cX10_fetch 57 = .ok (.invokevirtual 179, 3) := by decide +kernel
theorem dX10_fetch_60 : decode cX10_fetch 60 = .ok (.goto 75, 3) := by decide +kernel
theorem dX10_fetch_63 : decode cX10_fetch 63 = .ok (.aload_n 0, 1) := by decide +kernel
theorem dX10_fetch_64 : decode cX10_fetch 64 = .ok (.getfield 46, 3) := by decide +kernel
theorem dX10_fetch_67 : decode cX10_fetch 67 = .ok (.sipush 180, 3) := by decide +kernel
theorem dX10_fetch_70 : decode cX10_fetch 70 = .ok (.aload_n 0, 1) := by decide +kernel
theorem dX10_fetch_71 : decode cX10_fetch 71 = .ok (.getfield 50, 3) := by decide +kernel
theorem dX10_fetch_74 : decode cX10_fetch 74 = .ok (.aload_n 0, 1) := by decide +kernel
theorem dX10_fetch_75 : decode cX10_fetch 75 = .ok (.getfield 218, 3) := by decide +kernel
theorem dX10_fetch_78 : decode cX10_fetch 78 = .ok (.aload_n 0, 1) := by decide +kernel
theorem dX10_fetch_79 : decode cX10_fetch 79 = .ok (.getfield 215, 3) := by decide +kernel
theorem dX10_fetch_82 : decode cX10_fetch 82 = .ok (.invokevirtual 221, 3) := by decide +kernel
theorem dX10_fetch_85 : decode cX10_fetch 85 = .ok (.invokevirtual 179, 3) := by decide +kernel
theorem dX10_fetch_88 : decode cX10_fetch 88 = .ok (.aload_n 0, 1) := by decide +kernel
theorem dX10_fetch_89 : decode cX10_fetch 89 = .ok (.getfield 46, 3) := by decide +kernel
theorem dX10_fetch_92 : decode cX10_fetch 92 = .ok (.iconst 1, 1) := by decide +kernel
theorem dX10_fetch_93 : decode cX10_fetch 93 = .ok (.invokevirtual 118, 3) := by decide +kernel
theorem dX10_fetch_96 : decode cX10_fetch 96 = .ok (.goto 39, 3) := by decide +kernel
theorem dX10_fetch_99 : decode cX10_fetch 99 = .ok (.aload_n 0, 1) := by decide +kernel
theorem dX10_fetch_100 : decode cX10_fetch 100 = .ok (.getfield 46, 3) := by decide +kernel
theorem dX10_fetch_103 : decode cX10_fetch 103 = .ok (.aload_n 0, 1) := by decide +kernel
theorem dX10_fetch_104 : decode cX10_fetch 104 = .ok (.getfield 75, 3) := by decide +kernel
theorem dX10_fetch_107 : decode cX10_fetch 107 = .ok (.sipush 301, 3) := by decide +kernel
theorem dX10_fetch_110 : decode cX10_fetch 110 = .ok (.if_icmp .ne 8, 3) := by decide +kernel
theorem dX10_fetch_113 : decode cX10_fetch 113 = .ok (.bipush 46, 2) := by decide +kernel
theorem dX10_fetch_115 : decode cX10_fetch 115 = .ok (.goto 5, 3) := by decide +kernel
theorem dX10_fetch_118 : decode cX10_fetch 118 = .ok (.bipush 50, 2) := by decide +kernel
theorem dX10_fetch_120 : decode cX10_fetch 120 = .ok (.invokevirtual 162, 3) := by decide +kernel
theorem dX10_fetch_123 : decode cX10_fetch 123 = .ok (.aload_n 0, 1) := by decide +kernel
theorem dX10_fetch_124 : decode cX10_fetch 124 = .ok (.getfield 46, 3) := by decide +kernel
theorem dX10_fetch_127 : decode cX10_fetch 127 = .ok (.iconst 2, 1) := by decide +kernel
theorem dX10_fetch_128 : decode cX10_fetch 128 = .ok (.invokevirtual 118, 3) := by decide +kernel
theorem dX10_fetch_131 : decode cX10_fetch 131 = .ok (.goto 4, 3) := by decide +kernel
theorem dX10_fetch_134 : decode cX10_fetch 134 = .ok (.return_, 1) := by decide +kernel
theorem dX10_fetch_135 : decode cX10_fetch 135 = .ok (.aload_n 0, 1) := by decide +kernel
theorem dX10_fetch_136 : decode cX10_fetch 136 = .ok (.getfield 46, 3) := by decide +kernel
theorem dX10_fetch_139 : decode cX10_fetch 139 = .ok (.aload_n 0, 1) := by decide +kernel
theorem dX10_fetch_140 : decode cX10_fetch 140 = .ok (.getfield 75, 3) := by decide +kernel
theorem dX10_fetch_143 : decode cX10_fetch 143 = .ok (.invokevirtual 130, 3) := by decide +kernel
theorem dX10_fetch_146 : decode cX10_fetch 146 = .ok (.aload_n 0, 1) := by decide +kernel
theorem dX10_fetch_147 : decode cX10_fetch 147 = .ok (.iconst 0, 1) := by decide +kernel
theorem dX10_fetch_148 : decode cX10_fetch 148 = .ok (.putfield 133, 3) := by decide +kernel
theorem dX10_fetch_151 : decode cX10_fetch 151 = .ok (.return_, 1) := by decide +kernel
theorem mt_X10_give : mx_mt 293 = some (yX10_give, cX10_give, 2, none) := rfl
theorem dX10_give_0 : decode cX10_give 0 = .ok (.aload_n 0, 1) := by decide +kernel
theorem dX10_give_1 : decode cX10_give 1 = .ok (.getfield 46, 3) := by decide +kernel
theorem dX10_give_4 : decode cX10_give 4 = .ok (.iload_n 1, 1) := by decide +kernel
theorem dX10_give_5 : decode cX10_give 5 = .ok (.invokevirtual 130, 3) := by decide +kernel
theorem dX10_give_8 : decode cX10_give 8 = .ok (.aload_n 0, 1) := by decide +kernel
theorem dX10_give_9 : decode cX10_give 9 = .ok (.iload_n 1, 1) := by decide +kernel
theorem dX10_give_10 : decode cX10_give 10 = .ok (.putfield 75, 3) := by decide +kernel
theorem dX10_give_13 : decode cX10_give 13 = .ok (.aload_n 0, 1) := by decide +kernel
theorem dX10_give_14 : decode cX10_give 14 = .ok (.iconst 0, 1) := by decide +kernel
theorem dX10_give_15 : decode cX10_give 15 = .ok (.putfield 133, 3) := by decide +kernel
theorem dX10_give_18 : decode cX10_give 18 = .ok (.return_, 1) := by decide +kernel
theorem rs_RX2_33 : mx_res RX2 33 = some (0, 2, 7) := by decide +kernel
theorem mt_X2_typeOfField : mx_mt 82 = some (yX2_typeOfField, cX2_typeOfField, 2, (some .int)) := rfl
theorem dX2_typeOfField_0 : decode cX2_typeOfField 0 = .ok (.iload_n 1, 1) := by decide +kernel
theorem dX2_typeOfField_1 : decode cX2_typeOfField 1 = .ok (.ifCond .lt 21, 3) := by decide +kernel
theorem dX2_typeOfField_4 : decode cX2_typeOfField 4 = .ok (.iload_n 1, 1) := by decide +kernel
theorem dX2_typeOfField_5 : decode cX2_typeOfField 5 = .ok (.aload_n 0, 1) := by decide +kernel
theorem dX2_typeOfField_6 : decode cX2_typeOfField 6 = .ok (.getfield 33, 3) := by decide +kernel
theorem dX2_typeOfField_9 : decode cX2_typeOfField 9 = .ok (.arraylength, 1) := by decide +kernel
theorem dX2_typeOfField_10 : decode cX2_typeOfField 10 = .ok (.if_icmp .ge 12, 3) := by decide +kernel
theorem dX2_typeOfField_13 : decode cX2_typeOfField 13 = .ok (.aload_n 0, 1) := by decide +kernel
theorem dX2_typeOfField_14 : decode cX2_typeOfField 14 = .ok (.getfield 33, 3) := by decide +kernel
theorem dX2_typeOfField_17 : decode cX2_typeOfField 17 = .ok (.iload_n 1, 1) := by decide +kernel
theorem dX2_typeOfField_18 : decode cX2_typeOfField 18 = .ok (.iaload, 1) := by decide +kernel
theorem dX2_typeOfField_19 : decode cX2_typeOfField 19 = .ok (.goto 6, 3) := by decide +kernel
theorem dX2_typeOfField_22 : decode cX2_typeOfField 22 = .ok (.sipush 305, 3) := by decide +kernel
theorem dX2_typeOfField_25 : decode cX2_typeOfField 25 = .ok (.ireturn, 1) := by decide +kernel
theorem rs_RX10_274 : mx_res RX10 274 = some (1, 82, 1) := by decide +kernel
theorem ft_10_13 : mx_fty 10 13 = some (.int, false, "ClassMill$Values") := by decide +kernel
theorem ft_10_14 : mx_fty 10 14 = some (.int, false, "ClassMill$Values") := by decide +kernel
theorem mt_X10_nameField : mx_mt 302 = some (yX10_nameField, cX10_nameField, 3, none) := rfl
theorem dX10_nameField_0 : decode cX10_nameField 0 = .ok (.aload_n 0, 1) := by decide +kernel
theorem dX10_nameField_1 : decode cX10_nameField 1 = .ok (.iconst 3, 1) := by decide +kernel
theorem dX10_nameField_2 : decode cX10_nameField 2 = .ok (.putfield 133, 3) := by decide +kernel
theorem dX10_nameField_5 : decode cX10_nameField 5 = .ok (.aload_n 0, 1) := by decide +kernel
theorem dX10_nameField_6 : decode cX10_nameField 6 = .ok (.iload_n 1, 1) := by decide +kernel
theorem dX10_nameField_7 : decode cX10_nameField 7 = .ok (.putfield 218, 3) := by decide +kernel
theorem dX10_nameField_10 : decode cX10_nameField 10 = .ok (.aload_n 0, 1) := by decide +kernel
theorem dX10_nameField_11 : decode cX10_nameField 11 = .ok (.iload_n 2, 1) := by decide +kernel
theorem dX10_nameField_12 : decode cX10_nameField 12 = .ok (.putfield 215, 3) := by decide +kernel
theorem dX10_nameField_15 : decode cX10_nameField 15 = .ok (.aload_n 0, 1) := by decide +kernel
theorem dX10_nameField_16 : decode cX10_nameField 16 = .ok (.aload_n 0, 1) := by decide +kernel
theorem dX10_nameField_17 : decode cX10_nameField 17 = .ok (.getfield 35, 3) := by decide +kernel
theorem dX10_nameField_20 : decode cX10_nameField 20 = .ok (.iload_n 2, 1) := by decide +kernel
theorem dX10_nameField_21 : decode cX10_nameField 21 = .ok (.invokevirtual 274, 3) := by decide +kernel
theorem dX10_nameField_24 : decode cX10_nameField 24 = .ok (.putfield 75, 3) := by decide +kernel
theorem dX10_nameField_27 : decode cX10_nameField 27 = .ok (.return_, 1) := by decide +kernel
theorem rs_RX10_62 : mx_res RX10 62 = some (0, 10, 18) := by decide +kernel
theorem rs_RX10_233 : mx_res RX10 233 = some (1, 293, 1) := by decide +kernel
theorem mt_X10_closeCall : mx_mt 305 = some (yX10_closeCall, cX10_closeCall, 4, none) := rfl
theorem dX10_closeCall_0 : decode cX10_closeCall 0 = .ok (.iload_n 1, 1) := by decide +kernel
theorem dX10_closeCall_1 : decode cX10_closeCall 1 = .ok (.sipush 303, 3) := by decide +kernel
theorem dX10_closeCall_4 : decode cX10_closeCall 4 = .ok (.if_icmp .eq 11, 3) := by decide +kernel
theorem dX10_closeCall_7 : decode cX10_closeCall 7 = .ok (.aload_n 0, 1) := by decide +kernel
theorem dX10_closeCall_8 : decode cX10_closeCall 8 = .ok (.iload_n 1, 1) := by decide +kernel
theorem dX10_closeCall_9 : decode cX10_closeCall 9 = .ok (.invokevirtual 233, 3) := by decide +kernel
theorem dX10_closeCall_12 : decode cX10_closeCall 12 = .ok (.goto 33, 3) := by decide +kernel
theorem dX10_closeCall_15 : decode cX10_closeCall 15 = .ok (.iload_n 3, 1) := by decide +kernel
theorem dX10_closeCall_16 : decode cX10_closeCall 16 = .ok (.aload_n 0, 1) := by decide +kernel
theorem dX10_closeCall_17 : decode cX10_closeCall 17 = .ok (.getfield 62, 3) := by decide +kernel
theorem dX10_closeCall_20 : decode cX10_closeCall 20 = .ok (.if_icmp .ne 15, 3) := by decide +kernel
theorem dX10_closeCall_23 : decode cX10_closeCall 23 = .ok (.aload_n 0, 1) := by decide +kernel
theorem dX10_closeCall_24 : decode cX10_closeCall 24 = .ok (.getfield 31, 3) := by decide +kernel
theorem dX10_closeCall_27 : decode cX10_closeCall 27 = .ok (.invokevirtual 93, 3) := by decide +kernel
theorem dX10_closeCall_30 : decode cX10_closeCall 30 = .ok (.bipush 46, 2) := by decide +kernel
theorem dX10_closeCall_32 : decode cX10_closeCall 32 = .ok (.if_icmp .eq 13, 3) := by decide +kernel
theorem dX10_closeCall_35 : decode cX10_closeCall 35 = .ok (.aload_n 0, 1) := by decide +kernel
theorem dX10_closeCall_36 : decode cX10_closeCall 36 = .ok (.getfield 31, 3) := by decide +kernel
theorem dX10_closeCall_39 : decode cX10_closeCall 39 = .ok (.bipush 6, 2) := by decide +kernel
theorem dX10_closeCall_41 : decode cX10_closeCall 41 = .ok (.iload_n 2, 1) := by decide +kernel
theorem dX10_closeCall_42 : decode cX10_closeCall 42 = .ok (.invokevirtual 165, 3) := by decide +kernel
theorem dX10_closeCall_45 : decode cX10_closeCall 45 = .ok (.aload_n 0, 1) := by decide +kernel
theorem dX10_closeCall_46 : decode cX10_closeCall 46 = .ok (.iload_n 1, 1) := by decide +kernel
theorem dX10_closeCall_47 : decode cX10_closeCall 47 = .ok (.putfield 75, 3) := by decide +kernel
theorem dX10_closeCall_50 : decode cX10_closeCall 50 = .ok (.aload_n 0, 1) := by decide +kernel
theorem dX10_closeCall_51 : decode cX10_closeCall 51 = .ok (.iconst 1, 1) := by decide +kernel
theorem dX10_closeCall_52 : decode cX10_closeCall 52 = .ok (.putfield 133, 3) := by decide +kernel
theorem dX10_closeCall_55 : decode cX10_closeCall 55 = .ok (.return_, 1) := by decide +kernel
theorem rs_RX2_42 : mx_res RX2 42 = some (0, 2, 10) := by decide +kernel
theorem mt_X2_isMethod : mx_mt 78 = some (yX2_isMethod, cX2_isMethod, 2, (some .boolean)) := rfl
theorem dX2_isMethod_0 : decode cX2_isMethod 0 = .ok (.iload_n 1, 1) := by decide +kernel
theorem dX2_isMethod_1 : decode cX2_isMethod 1 = .ok (.ifCond .lt 32, 3) := by decide +kernel
theorem dX2_isMethod_4 : decode cX2_isMethod 4 = .ok (.iload_n 1, 1) := by decide +kernel
theorem dX2_isMethod_5 : decode cX2_isMethod 5 = .ok (.aload_n 0, 1) := by decide +kernel
theorem dX2_isMethod_6 : decode cX2_isMethod 6 = .ok (.getfield 42, 3) := by decide +kernel
theorem dX2_isMethod_9 : decode cX2_isMethod 9 = .ok (.arraylength, 1) := by decide +kernel
theorem dX2_isMethod_10 : decode cX2_isMethod 10 = .ok (.if_icmp .ge 23, 3) := by decide +kernel
theorem dX2_isMethod_13 : decode cX2_isMethod 13 = .ok (.iload_n 1, 1) := by decide +kernel
theorem dX2_isMethod_14 : decode cX2_isMethod 14 = .ok (.bipush 12, 2) := by decide +kernel
theorem dX2_isMethod_16 : decode cX2_isMethod 16 = .ok (.irem, 1) := by decide +kernel
theorem dX2_isMethod_17 : decode cX2_isMethod 17 = .ok (.aload_n 0, 1) := by decide +kernel
theorem dX2_isMethod_18 : decode cX2_isMethod 18 = .ok (.getfield 39, 3) := by decide +kernel
theorem dX2_isMethod_21 : decode cX2_isMethod 21 = .ok (.iload_n 1, 1) := by decide +kernel
theorem dX2_isMethod_22 : decode cX2_isMethod 22 = .ok (.bipush 12, 2) := by decide +kernel
theorem dX2_isMethod_24 : decode cX2_isMethod 24 = .ok (.idiv, 1) := by decide +kernel
theorem dX2_isMethod_25 : decode cX2_isMethod 25 = .ok (.iaload, 1) := by decide +kernel
theorem dX2_isMethod_26 : decode cX2_isMethod 26 = .ok (.if_icmp .ge 7, 3) := by decide +kernel
theorem dX2_isMethod_29 : decode cX2_isMethod 29 = .ok (.iconst 1, 1) := by decide +kernel
theorem dX2_isMethod_30 : decode cX2_isMethod 30 = .ok (.goto 4, 3) := by decide +kernel
theorem dX2_isMethod_33 : decode cX2_isMethod 33 = .ok (.iconst 0, 1) := by decide +kernel
theorem dX2_isMethod_34 : decode cX2_isMethod 34 = .ok (.ireturn, 1) := by decide +kernel
theorem rs_RX2_51 : mx_res RX2 51 = some (0, 2, 13) := by decide +kernel
theorem rs_RX2_128 : mx_res RX2 128 = some (1, 78, 1) := by decide +kernel
theorem mt_X2_isFixed : mx_mt 87 = some (yX2_isFixed, cX2_isFixed, 2, (some .boolean)) := rfl
theorem dX2_isFixed_0 : decode cX2_isFixed 0 = .ok (.aload_n 0, 1) := by decide +kernel
theorem dX2_isFixed_1 : decode cX2_isFixed 1 = .ok (.iload_n 1, 1) := by decide +kernel
theorem dX2_isFixed_2 : decode cX2_isFixed 2 = .ok (.invokevirtual 128, 3) := by decide +kernel
theorem dX2_isFixed_5 : decode cX2_isFixed 5 = .ok (.ifCond .eq 16, 3) := by decide +kernel
theorem dX2_isFixed_8 : decode cX2_isFixed 8 = .ok (.aload_n 0, 1) := by decide +kernel
theorem dX2_isFixed_9 : decode cX2_isFixed 9 = .ok (.getfield 51, 3) := by decide +kernel
theorem dX2_isFixed_12 : decode cX2_isFixed 12 = .ok (.iload_n 1, 1) := by decide +kernel
theorem dX2_isFixed_13 : decode cX2_isFixed 13 = .ok (.baload, 1) := by decide +kernel
theorem dX2_isFixed_14 : decode cX2_isFixed 14 = .ok (.ifCond .eq 7, 3) := by decide +kernel
theorem dX2_isFixed_17 : decode cX2_isFixed 17 = .ok (.iconst 1, 1) := by decide +kernel
theorem dX2_isFixed_18 : decode cX2_isFixed 18 = .ok (.goto 4, 3) := by decide +kernel
theorem dX2_isFixed_21 : decode cX2_isFixed 21 = .ok (.iconst 0, 1) := by decide +kernel
theorem dX2_isFixed_22 : decode cX2_isFixed 22 = .ok (.ireturn, 1) := by decide +kernel
theorem rs_RX2_58 : mx_res RX2 58 = some (0, 2, 15) := by decide +kernel
theorem mt_X2_parametersOf : mx_mt 88 = some (yX2_parametersOf, cX2_parametersOf, 2, (some .int)) := rfl
theorem dX2_parametersOf_0 : decode cX2_parametersOf 0 = .ok (.aload_n 0, 1) := by decide +kernel
theorem dX2_parametersOf_1 : decode cX2_parametersOf 1 = .ok (.iload_n 1, 1) := by decide +kernel
theorem dX2_parametersOf_2 : decode cX2_parametersOf 2 = .ok (.invokevirtual 128, 3) := by decide +kernel
theorem dX2_parametersOf_5 : decode cX2_parametersOf 5 = .ok (.ifCond .eq 12, 3) := by decide +kernel
theorem dX2_parametersOf_8 : decode cX2_parametersOf 8 = .ok (.aload_n 0, 1) := by decide +kernel
theorem dX2_parametersOf_9 : decode cX2_parametersOf 9 = .ok (.getfield 58, 3) := by decide +kernel
theorem dX2_parametersOf_12 : decode cX2_parametersOf 12 = .ok (.iload_n 1, 1) := by decide +kernel
theorem dX2_parametersOf_13 : decode cX2_parametersOf 13 = .ok (.iaload, 1) := by decide +kernel
theorem dX2_parametersOf_14 : decode cX2_parametersOf 14 = .ok (.goto 4, 3) := by decide +kernel
theorem dX2_parametersOf_17 : decode cX2_parametersOf 17 = .ok (.iconst 0, 1) := by decide +kernel
theorem dX2_parametersOf_18 : decode cX2_parametersOf 18 = .ok (.ireturn, 1) := by decide +kernel
theorem rs_RX2_64 : mx_res RX2 64 = some (0, 2, 17) := by decide +kernel
theorem rs_RX2_227 : mx_res RX2 227 = some (1, 88, 1) := by decide +kernel
theorem mt_X2_parameterType : mx_mt 89 = some (yX2_parameterType, cX2_parameterType, 3, (some .int)) := rfl
theorem dX2_parameterType_0 : decode cX2_parameterType 0 = .ok (.iload_n 2, 1) := by decide +kernel
theorem dX2_parameterType_1 : decode cX2_parameterType 1 = .ok (.ifCond .lt 26, 3) := by decide +kernel
theorem dX2_parameterType_4 : decode cX2_parameterType 4 = .ok (.iload_n 2, 1) := by decide +kernel
theorem dX2_parameterType_5 : decode cX2_parameterType 5 = .ok (.aload_n 0, 1) := by decide +kernel
theorem dX2_parameterType_6 : decode cX2_parameterType 6 = .ok (.iload_n 1, 1) := by decide +kernel
theorem dX2_parameterType_7 : decode cX2_parameterType 7 = .ok (.invokevirtual 227, 3) := by decide +kernel
theorem dX2_parameterType_10 : decode cX2_parameterType 10 = .ok (.if_icmp .ge 17, 3) := by decide +kernel
theorem dX2_parameterType_13 : decode cX2_parameterType 13 = .ok (.aload_n 0, 1) := by decide +kernel
theorem dX2_parameterType_14 : decode cX2_parameterType 14 = .ok (.getfield 64, 3) := by decide +kernel
theorem dX2_parameterType_17 : decode cX2_parameterType 17 = .ok (.iload_n 1, 1) := by decide +kernel
theorem dX2_parameterType_18 : decode cX2_parameterType 18 = .ok (.bipush 6, 2) := by decide +kernel
theorem dX2_parameterType_20 : decode cX2_parameterType 20 = .ok (.imul, 1) := by decide +kernel
theorem dX2_parameterType_21 : decode cX2_parameterType 21 = .ok (.iload_n 2, 1) := by decide +kernel
theorem dX2_parameterType_22 : decode cX2_parameterType 22 = .ok (.iadd, 1) := by decide +kernel
theorem dX2_parameterType_23 : decode cX2_parameterType 23 = .ok (.iaload, 1) := by decide +kernel
theorem dX2_parameterType_24 : decode cX2_parameterType 24 = .ok (.goto 6, 3) := by decide +kernel
theorem dX2_parameterType_27 : decode cX2_parameterType 27 = .ok (.sipush 305, 3) := by decide +kernel
theorem dX2_parameterType_30 : decode cX2_parameterType 30 = .ok (.ireturn, 1) := by decide +kernel
theorem rs_RX2_48 : mx_res RX2 48 = some (0, 2, 12) := by decide +kernel
theorem mt_X2_resultOf : mx_mt 86 = some (yX2_resultOf, cX2_resultOf, 2, (some .int)) := rfl
theorem dX2_resultOf_0 : decode cX2_resultOf 0 = .ok (.aload_n 0, 1) := by decide +kernel
theorem dX2_resultOf_1 : decode cX2_resultOf 1 = .ok (.iload_n 1, 1) := by decide +kernel
theorem dX2_resultOf_2 : decode cX2_resultOf 2 = .ok (.invokevirtual 128, 3) := by decide +kernel
theorem dX2_resultOf_5 : decode cX2_resultOf 5 = .ok (.ifCond .eq 12, 3) := by decide +kernel
theorem dX2_resultOf_8 : decode cX2_resultOf 8 = .ok (.aload_n 0, 1) := by decide +kernel
theorem dX2_resultOf_9 : decode cX2_resultOf 9 = .ok (.getfield 48, 3) := by decide +kernel
theorem dX2_resultOf_12 : decode cX2_resultOf 12 = .ok (.iload_n 1, 1) := by decide +kernel
theorem dX2_resultOf_13 : decode cX2_resultOf 13 = .ok (.iaload, 1) := by decide +kernel
theorem dX2_resultOf_14 : decode cX2_resultOf 14 = .ok (.goto 6, 3) := by decide +kernel
theorem dX2_resultOf_17 : decode cX2_resultOf 17 = .ok (.sipush 305, 3) := by decide +kernel
theorem dX2_resultOf_20 : decode cX2_resultOf 20 = .ok (.ireturn, 1) := by decide +kernel
theorem rs_RX2_55 : mx_res RX2 55 = some (0, 2, 14) := by decide +kernel
theorem mt_X2_kindOfMethod : mx_mt 81 = some (yX2_kindOfMethod, cX2_kindOfMethod, 2, (some .int)) := rfl
theorem dX2_kindOfMethod_0 : decode cX2_kindOfMethod 0 = .ok (.iload_n 1, 1) := by decide +kernel
theorem dX2_kindOfMethod_1 : decode cX2_kindOfMethod 1 = .ok (.ifCond .lt 21, 3) := by decide +kernel
theorem dX2_kindOfMethod_4 : decode cX2_kindOfMethod 4 = .ok (.iload_n 1, 1) := by decide +kernel
theorem dX2_kindOfMethod_5 : decode cX2_kindOfMethod 5 = .ok (.aload_n 0, 1) := by decide +kernel
theorem dX2_kindOfMethod_6 : decode cX2_kindOfMethod 6 = .ok (.getfield 55, 3) := by decide +kernel
theorem dX2_kindOfMethod_9 : decode cX2_kindOfMethod 9 = .ok (.arraylength, 1) := by decide +kernel
theorem dX2_kindOfMethod_10 : decode cX2_kindOfMethod 10 = .ok (.if_icmp .ge 12, 3) := by decide +kernel
theorem dX2_kindOfMethod_13 : decode cX2_kindOfMethod 13 = .ok (.aload_n 0, 1) := by decide +kernel
theorem dX2_kindOfMethod_14 : decode cX2_kindOfMethod 14 = .ok (.getfield 55, 3) := by decide +kernel
theorem dX2_kindOfMethod_17 : decode cX2_kindOfMethod 17 = .ok (.iload_n 1, 1) := by decide +kernel
theorem dX2_kindOfMethod_18 : decode cX2_kindOfMethod 18 = .ok (.iaload, 1) := by decide +kernel
theorem dX2_kindOfMethod_19 : decode cX2_kindOfMethod 19 = .ok (.goto 4, 3) := by decide +kernel
theorem dX2_kindOfMethod_22 : decode cX2_kindOfMethod 22 = .ok (.iconst (-1), 1) := by decide +kernel
theorem dX2_kindOfMethod_23 : decode cX2_kindOfMethod 23 = .ok (.ireturn, 1) := by decide +kernel
theorem mt_X2_nameOfMethod : mx_mt 83 = some (yX2_nameOfMethod, cX2_nameOfMethod, 2, (some .int)) := rfl
theorem dX2_nameOfMethod_0 : decode cX2_nameOfMethod 0 = .ok (.aload_n 0, 1) := by decide +kernel
theorem dX2_nameOfMethod_1 : decode cX2_nameOfMethod 1 = .ok (.iload_n 1, 1) := by decide +kernel
theorem dX2_nameOfMethod_2 : decode cX2_nameOfMethod 2 = .ok (.invokevirtual 128, 3) := by decide +kernel
theorem dX2_nameOfMethod_5 : decode cX2_nameOfMethod 5 = .ok (.ifCond .eq 19, 3) := by decide +kernel
theorem dX2_nameOfMethod_8 : decode cX2_nameOfMethod 8 = .ok (.aload_n 0, 1) := by decide +kernel
theorem dX2_nameOfMethod_9 : decode cX2_nameOfMethod 9 = .ok (.getfield 74, 3) := by decide +kernel
theorem dX2_nameOfMethod_12 : decode cX2_nameOfMethod 12 = .ok (.aload_n 0, 1) := by decide +kernel
theorem dX2_nameOfMethod_13 : decode cX2_nameOfMethod 13 = .ok (.getfield 42, 3) := by decide +kernel
theorem dX2_nameOfMethod_16 : decode cX2_nameOfMethod 16 = .ok (.iload_n 1, 1) := by decide +kernel
theorem dX2_nameOfMethod_17 : decode cX2_nameOfMethod 17 = .ok (.iaload, 1) := by decide +kernel
theorem dX2_nameOfMethod_18 : decode cX2_nameOfMethod 18 = .ok (.invokevirtual 135, 3) := by decide +kernel
theorem dX2_nameOfMethod_21 : decode cX2_nameOfMethod 21 = .ok (.goto 4, 3) := by decide +kernel
theorem dX2_nameOfMethod_24 : decode cX2_nameOfMethod 24 = .ok (.iconst (-1), 1) := by decide +kernel
theorem dX2_nameOfMethod_25 : decode cX2_nameOfMethod 25 = .ok (.ireturn, 1) := by decide +kernel
theorem rs_RX6_80 : mx_res RX6 80 = some (1, 83, 1) := by decide +kernel
theorem rs_RX6_83 : mx_res RX6 83 = some (1, 81, 1) := by decide +kernel
theorem mt_X6_methodOf : mx_mt 195 = some (yX6_methodOf, cX6_methodOf, 5, (some .int)) := rfl
theorem dX6_methodOf_0 : decode cX6_methodOf 0 = .ok (.aload_n 0, 1) := by decide +kernel
theorem dX6_methodOf_1 : decode cX6_methodOf 1 = .ok (.iload_n 1, 1) := by decide +kernel
theorem dX6_methodOf_2 : decode cX6_methodOf 2 = .ok (.invokevirtual 41, 3) := by decide +kernel
theorem dX6_methodOf_5 : decode cX6_methodOf 5 = .ok (.istore_n 3, 1) := by decide +kernel
theorem dX6_methodOf_6 : decode cX6_methodOf 6 = .ok (.aload_n 0, 1) := by decide +kernel
theorem dX6_methodOf_7 : decode cX6_methodOf 7 = .ok (.iconst 1, 1) := by decide +kernel
theorem dX6_methodOf_8 : decode cX6_methodOf 8 = .ok (.aload_n 0, 1) := by decide +kernel
theorem dX6_methodOf_9 : decode cX6_methodOf 9 = .ok (.getfield 24, 3) := by decide +kernel
theorem dX6_methodOf_12 : decode cX6_methodOf 12 = .ok (.iload_n 2, 1) := by decide +kernel
theorem dX6_methodOf_13 : decode cX6_methodOf 13 = .ok (.invokevirtual 80, 3) := by decide +kernel
theorem dX6_methodOf_16 : decode cX6_methodOf 16 = .ok (.invokevirtual 66, 3) := by decide +kernel
theorem dX6_methodOf_19 : decode cX6_methodOf 19 = .ok (.istore 4, 2) := by decide +kernel
theorem dX6_methodOf_21 : decode cX6_methodOf 21 = .ok (.aload_n 0, 1) := by decide +kernel
theorem dX6_methodOf_22 : decode cX6_methodOf 22 = .ok (.iconst 4, 1) := by decide +kernel
theorem dX6_methodOf_23 : decode cX6_methodOf 23 = .ok (.iload_n 3, 1) := by decide +kernel
theorem dX6_methodOf_24 : decode cX6_methodOf 24 = .ok (.bipush 16, 2) := by decide +kernel
theorem dX6_methodOf_26 : decode cX6_methodOf 26 = .ok (.ishl, 1) := by decide +kernel
theorem dX6_methodOf_27 : decode cX6_methodOf 27 = .ok (.iload 4, 2) := by decide +kernel
theorem dX6_methodOf_29 : decode cX6_methodOf 29 = .ok (.bipush 8, 2) := by decide +kernel
theorem dX6_methodOf_31 : decode cX6_methodOf 31 = .ok (.ishl, 1) := by decide +kernel
theorem dX6_methodOf_32 : decode cX6_methodOf 32 = .ok (.ior, 1) := by decide +kernel
theorem dX6_methodOf_33 : decode cX6_methodOf 33 = .ok (.aload_n 0, 1) := by decide +kernel
theorem dX6_methodOf_34 : decode cX6_methodOf 34 = .ok (.iconst 1, 1) := by decide +kernel
theorem dX6_methodOf_35 : decode cX6_methodOf 35 = .ok (.aload_n 0, 1) := by decide +kernel
theorem dX6_methodOf_36 : decode cX6_methodOf 36 = .ok (.getfield 24, 3) := by decide +kernel
theorem dX6_methodOf_39 : decode cX6_methodOf 39 = .ok (.iload_n 2, 1) := by decide +kernel
theorem dX6_methodOf_40 : decode cX6_methodOf 40 = .ok (.invokevirtual 83, 3) := by decide +kernel
theorem dX6_methodOf_43 : decode cX6_methodOf 43 = .ok (.invokevirtual 66, 3) := by decide +kernel
theorem dX6_methodOf_46 : decode cX6_methodOf 46 = .ok (.ior, 1) := by decide +kernel
theorem dX6_methodOf_47 : decode cX6_methodOf 47 = .ok (.invokevirtual 66, 3) := by decide +kernel
theorem dX6_methodOf_50 : decode cX6_methodOf 50 = .ok (.ireturn, 1) := by decide +kernel
theorem mt_X2_fieldIn : mx_mt 71 = some (yX2_fieldIn, cX2_fieldIn, 4, (some .int)) := rfl
theorem dX2_fieldIn_0 : decode cX2_fieldIn 0 = .ok (.iconst 0, 1) := by decide +kernel
theorem dX2_fieldIn_1 : decode cX2_fieldIn 1 = .ok (.istore_n 3, 1) := by decide +kernel
theorem dX2_fieldIn_2 : decode cX2_fieldIn 2 = .ok (.iload_n 3, 1) := by decide +kernel
theorem dX2_fieldIn_3 : decode cX2_fieldIn 3 = .ok (.aload_n 0, 1) := by decide +kernel
theorem dX2_fieldIn_4 : decode cX2_fieldIn 4 = .ok (.getfield 27, 3) := by decide +kernel
theorem dX2_fieldIn_7 : decode cX2_fieldIn 7 = .ok (.iload_n 1, 1) := by decide +kernel
theorem dX2_fieldIn_8 : decode cX2_fieldIn 8 = .ok (.iaload, 1) := by decide +kernel
theorem dX2_fieldIn_9 : decode cX2_fieldIn 9 = .ok (.if_icmp .ge 31, 3) := by decide +kernel
theorem dX2_fieldIn_12 : decode cX2_fieldIn 12 = .ok (.aload_n 0, 1) := by decide +kernel
theorem dX2_fieldIn_13 : decode cX2_fieldIn 13 = .ok (.getfield 30, 3) := by decide +kernel
theorem dX2_fieldIn_16 : decode cX2_fieldIn 16 = .ok (.iload_n 1, 1) := by decide +kernel
theorem dX2_fieldIn_17 : decode cX2_fieldIn 17 = .ok (.bipush 12, 2) := by decide +kernel
theorem dX2_fieldIn_19 : decode cX2_fieldIn 19 = .ok (.imul, 1) := by decide +kernel
theorem dX2_fieldIn_20 : decode cX2_fieldIn 20 = .ok (.iload_n 3, 1) := by decide +kernel
theorem dX2_fieldIn_21 : decode cX2_fieldIn 21 = .ok (.iadd, 1) := by decide +kernel
theorem dX2_fieldIn_22 : decode cX2_fieldIn 22 = .ok (.iaload, 1) := by decide +kernel
theorem dX2_fieldIn_23 : decode cX2_fieldIn 23 = .ok (.iload_n 2, 1) := by decide +kernel
theorem dX2_fieldIn_24 : decode cX2_fieldIn 24 = .ok (.if_icmp .ne 10, 3) := by decide +kernel
theorem dX2_fieldIn_27 : decode cX2_fieldIn 27 = .ok (.iload_n 1, 1) := by decide +kernel
theorem dX2_fieldIn_28 : decode cX2_fieldIn 28 = .ok (.bipush 12, 2) := by decide +kernel
theorem dX2_fieldIn_30 : decode cX2_fieldIn 30 = .ok (.imul, 1) := by decide +kernel
theorem dX2_fieldIn_31 : decode cX2_fieldIn 31 = .ok (.iload_n 3, 1) := by decide +kernel
theorem dX2_fieldIn_32 : decode cX2_fieldIn 32 = .ok (.iadd, 1) := by decide +kernel
theorem dX2_fieldIn_33 : decode cX2_fieldIn 33 = .ok (.ireturn, 1) := by decide +kernel
theorem dX2_fieldIn_34 : decode cX2_fieldIn 34 = .ok (.iinc 3 1, 3) := by decide +kernel
theorem dX2_fieldIn_37 : decode cX2_fieldIn 37 = .ok (.goto (-35), 3) := by decide +kernel
theorem dX2_fieldIn_40 : decode cX2_fieldIn 40 = .ok (.iconst (-1), 1) := by decide +kernel
theorem dX2_fieldIn_41 : decode cX2_fieldIn 41 = .ok (.ireturn, 1) := by decide +kernel
theorem rs_RX2_14 : mx_res RX2 14 = some (0, 2, 1) := by decide +kernel
theorem rs_RX2_203 : mx_res RX2 203 = some (1, 71, 2) := by decide +kernel
theorem rs_RX2_215 : mx_res RX2 215 = some (1, 131, 1) := by decide +kernel
theorem mt_X2_fieldOf : mx_mt 74 = some (yX2_fieldOf, cX2_fieldOf, 6, (some .int)) := rfl
theorem dX2_fieldOf_0 : decode cX2_fieldOf 0 = .ok (.iconst (-1), 1) := by decide +kernel
theorem dX2_fieldOf_1 : decode cX2_fieldOf 1 = .ok (.istore_n 3, 1) := by decide +kernel
theorem dX2_fieldOf_2 : decode cX2_fieldOf 2 = .ok (.iload_n 1, 1) := by decide +kernel
theorem dX2_fieldOf_3 : decode cX2_fieldOf 3 = .ok (.istore 4, 2) := by decide +kernel
theorem dX2_fieldOf_5 : decode cX2_fieldOf 5 = .ok (.iconst 0, 1) := by decide +kernel
theorem dX2_fieldOf_6 : decode cX2_fieldOf 6 = .ok (.istore 5, 2) := by decide +kernel
theorem dX2_fieldOf_8 : decode cX2_fieldOf 8 = .ok (.iload 5, 2) := by decide +kernel
theorem dX2_fieldOf_10 : decode cX2_fieldOf 10 = .ok (.bipush 16, 2) := by decide +kernel
theorem dX2_fieldOf_12 : decode cX2_fieldOf 12 = .ok (.if_icmp .ge 44, 3) := by decide +kernel
theorem dX2_fieldOf_15 : decode cX2_fieldOf 15 = .ok (.iload 4, 2) := by decide +kernel
theorem dX2_fieldOf_17 : decode cX2_fieldOf 17 = .ok (.invokestatic 224, 3) := by decide +kernel
theorem dX2_fieldOf_20 : decode cX2_fieldOf 20 = .ok (.ifCond .eq 36, 3) := by decide +kernel
theorem dX2_fieldOf_23 : decode cX2_fieldOf 23 = .ok (.iload_n 3, 1) := by decide +kernel
theorem dX2_fieldOf_24 : decode cX2_fieldOf 24 = .ok (.iconst (-1), 1) := by decide +kernel
theorem dX2_fieldOf_25 : decode cX2_fieldOf 25 = .ok (.if_icmp .ne 31, 3) := by decide +kernel
theorem dX2_fieldOf_28 : decode cX2_fieldOf 28 = .ok (.aload_n 0, 1) := by decide +kernel
theorem dX2_fieldOf_29 : decode cX2_fieldOf 29 = .ok (.iload 4, 2) := by decide +kernel
theorem dX2_fieldOf_31 : decode cX2_fieldOf 31 = .ok (.bipush 8, 2) := by decide +kernel
theorem dX2_fieldOf_33 : decode cX2_fieldOf 33 = .ok (.isub, 1) := by decide +kernel
theorem dX2_fieldOf_34 : decode cX2_fieldOf 34 = .ok (.iload_n 2, 1) := by decide +kernel
theorem dX2_fieldOf_35 : decode cX2_fieldOf 35 = .ok (.invokevirtual 203, 3) := by decide +kernel
theorem dX2_fieldOf_38 : decode cX2_fieldOf 38 = .ok (.istore_n 3, 1) := by decide +kernel
theorem dX2_fieldOf_39 : decode cX2_fieldOf 39 = .ok (.aload_n 0, 1) := by decide +kernel
theorem dX2_fieldOf_40 : decode cX2_fieldOf 40 = .ok (.getfield 14, 3) := by decide +kernel
theorem dX2_fieldOf_43 : decode cX2_fieldOf 43 = .ok (.iload 4, 2) := by decide +kernel
theorem dX2_fieldOf_45 : decode cX2_fieldOf 45 = .ok (.invokevirtual 215, 3) := by decide +kernel
theorem dX2_fieldOf_48 : decode cX2_fieldOf 48 = .ok (.istore 4, 2) := by decide +kernel
theorem dX2_fieldOf_50 : decode cX2_fieldOf 50 = .ok (.iinc 5 1, 3) := by decide +kernel
theorem dX2_fieldOf_53 : decode cX2_fieldOf 53 = .ok (.goto (-45), 3) := by decide +kernel
theorem dX2_fieldOf_56 : decode cX2_fieldOf 56 = .ok (.iload_n 3, 1) := by decide +kernel
theorem dX2_fieldOf_57 : decode cX2_fieldOf 57 = .ok (.ireturn, 1) := by decide +kernel
theorem mt_X2_methodIn : mx_mt 72 = some (yX2_methodIn, cX2_methodIn, 4, (some .int)) := rfl
theorem dX2_methodIn_0 : decode cX2_methodIn 0 = .ok (.iconst 0, 1) := by decide +kernel
theorem dX2_methodIn_1 : decode cX2_methodIn 1 = .ok (.istore_n 3, 1) := by decide +kernel
theorem dX2_methodIn_2 : decode cX2_methodIn 2 = .ok (.iload_n 3, 1) := by decide +kernel
theorem dX2_methodIn_3 : decode cX2_methodIn 3 = .ok (.aload_n 0, 1) := by decide +kernel
theorem dX2_methodIn_4 : decode cX2_methodIn 4 = .ok (.getfield 39, 3) := by decide +kernel
theorem dX2_methodIn_7 : decode cX2_methodIn 7 = .ok (.iload_n 1, 1) := by decide +kernel
theorem dX2_methodIn_8 : decode cX2_methodIn 8 = .ok (.iaload, 1) := by decide +kernel
theorem dX2_methodIn_9 : decode cX2_methodIn 9 = .ok (.if_icmp .ge 38, 3) := by decide +kernel
theorem dX2_methodIn_12 : decode cX2_methodIn 12 = .ok (.aload_n 0, 1) := by decide +kernel
theorem dX2_methodIn_13 : decode cX2_methodIn 13 = .ok (.getfield 74, 3) := by decide +kernel
theorem dX2_methodIn_16 : decode cX2_methodIn 16 = .ok (.aload_n 0, 1) := by decide +kernel
theorem dX2_methodIn_17 : decode cX2_methodIn 17 = .ok (.getfield 42, 3) := by decide +kernel
theorem dX2_methodIn_20 : decode cX2_methodIn 20 = .ok (.iload_n 1, 1) := by decide +kernel
theorem dX2_methodIn_21 : decode cX2_methodIn 21 = .ok (.bipush 12, 2) := by decide +kernel
theorem dX2_methodIn_23 : decode cX2_methodIn 23 = .ok (.imul, 1) := by decide +kernel
theorem dX2_methodIn_24 : decode cX2_methodIn 24 = .ok (.iload_n 3, 1) := by decide +kernel
theorem dX2_methodIn_25 : decode cX2_methodIn 25 = .ok (.iadd, 1) := by decide +kernel
theorem dX2_methodIn_26 : decode cX2_methodIn 26 = .ok (.iaload, 1) := by decide +kernel
theorem dX2_methodIn_27 : decode cX2_methodIn 27 = .ok (.invokevirtual 135, 3) := by decide +kernel
theorem dX2_methodIn_30 : decode cX2_methodIn 30 = .ok (.iload_n 2, 1) := by decide +kernel
theorem dX2_methodIn_31 : decode cX2_methodIn 31 = .ok (.if_icmp .ne 10, 3) := by decide +kernel
theorem dX2_methodIn_34 : decode cX2_methodIn 34 = .ok (.iload_n 1, 1) := by decide +kernel
theorem dX2_methodIn_35 : decode cX2_methodIn 35 = .ok (.bipush 12, 2) := by decide +kernel
theorem dX2_methodIn_37 : decode cX2_methodIn 37 = .ok (.imul, 1) := by decide +kernel
theorem dX2_methodIn_38 : decode cX2_methodIn 38 = .ok (.iload_n 3, 1) := by decide +kernel
theorem dX2_methodIn_39 : decode cX2_methodIn 39 = .ok (.iadd, 1) := by decide +kernel
theorem dX2_methodIn_40 : decode cX2_methodIn 40 = .ok (.ireturn, 1) := by decide +kernel
theorem dX2_methodIn_41 : decode cX2_methodIn 41 = .ok (.iinc 3 1, 3) := by decide +kernel
theorem dX2_methodIn_44 : decode cX2_methodIn 44 = .ok (.goto (-42), 3) := by decide +kernel
theorem dX2_methodIn_47 : decode cX2_methodIn 47 = .ok (.iconst (-1), 1) := by decide +kernel
theorem dX2_methodIn_48 : decode cX2_methodIn 48 = .ok (.ireturn, 1) := by decide +kernel
theorem rs_RX2_206 : mx_res RX2 206 = some (1, 72, 2) := by decide +kernel
theorem mt_X2_methodOf : mx_mt 75 = some (yX2_methodOf, cX2_methodOf, 6, (some .int)) := rfl
theorem dX2_methodOf_0 : decode cX2_methodOf 0 = .ok (.iconst (-1), 1) := by decide +kernel
theorem dX2_methodOf_1 : decode cX2_methodOf 1 = .ok (.istore_n 3, 1) := by decide +kernel
theorem dX2_methodOf_2 : decode cX2_methodOf 2 = .ok (.iload_n 1, 1) := by decide +kernel
theorem dX2_methodOf_3 : decode cX2_methodOf 3 = .ok (.istore 4, 2) := by decide +kernel
theorem dX2_methodOf_5 : decode cX2_methodOf 5 = .ok (.iconst 0, 1) := by decide +kernel
theorem dX2_methodOf_6 : decode cX2_methodOf 6 = .ok (.istore 5, 2) := by decide +kernel
theorem dX2_methodOf_8 : decode cX2_methodOf 8 = .ok (.iload 5, 2) := by decide +kernel
theorem dX2_methodOf_10 : decode cX2_methodOf 10 = .ok (.bipush 16, 2) := by decide +kernel
theorem dX2_methodOf_12 : decode cX2_methodOf 12 = .ok (.if_icmp .ge 44, 3) := by decide +kernel
theorem dX2_methodOf_15 : decode cX2_methodOf 15 = .ok (.iload 4, 2) := by decide +kernel
theorem dX2_methodOf_17 : decode cX2_methodOf 17 = .ok (.invokestatic 224, 3) := by decide +kernel
theorem dX2_methodOf_20 : decode cX2_methodOf 20 = .ok (.ifCond .eq 36, 3) := by decide +kernel
theorem dX2_methodOf_23 : decode cX2_methodOf 23 = .ok (.iload_n 3, 1) := by decide +kernel
theorem dX2_methodOf_24 : decode cX2_methodOf 24 = .ok (.iconst (-1), 1) := by decide +kernel
theorem dX2_methodOf_25 : decode cX2_methodOf 25 = .ok (.if_icmp .ne 31, 3) := by decide +kernel
theorem dX2_methodOf_28 : decode cX2_methodOf 28 = .ok (.aload_n 0, 1) := by decide +kernel
theorem dX2_methodOf_29 : decode cX2_methodOf 29 = .ok (.iload 4, 2) := by decide +kernel
theorem dX2_methodOf_31 : decode cX2_methodOf 31 = .ok (.bipush 8, 2) := by decide +kernel
theorem dX2_methodOf_33 : decode cX2_methodOf 33 = .ok (.isub, 1) := by decide +kernel
theorem dX2_methodOf_34 : decode cX2_methodOf 34 = .ok (.iload_n 2, 1) := by decide +kernel
theorem dX2_methodOf_35 : decode cX2_methodOf 35 = .ok (.invokevirtual 206, 3) := by decide +kernel
theorem dX2_methodOf_38 : decode cX2_methodOf 38 = .ok (.istore_n 3, 1) := by decide +kernel
theorem dX2_methodOf_39 : decode cX2_methodOf 39 = .ok (.aload_n 0, 1) := by decide +kernel
theorem dX2_methodOf_40 : decode cX2_methodOf 40 = .ok (.getfield 14, 3) := by decide +kernel
theorem dX2_methodOf_43 : decode cX2_methodOf 43 = .ok (.iload 4, 2) := by decide +kernel
theorem dX2_methodOf_45 : decode cX2_methodOf 45 = .ok (.invokevirtual 215, 3) := by decide +kernel
theorem dX2_methodOf_48 : decode cX2_methodOf 48 = .ok (.istore 4, 2) := by decide +kernel
theorem dX2_methodOf_50 : decode cX2_methodOf 50 = .ok (.iinc 5 1, 3) := by decide +kernel
theorem dX2_methodOf_53 : decode cX2_methodOf 53 = .ok (.goto (-45), 3) := by decide +kernel
theorem dX2_methodOf_56 : decode cX2_methodOf 56 = .ok (.iload_n 3, 1) := by decide +kernel
theorem dX2_methodOf_57 : decode cX2_methodOf 57 = .ok (.ireturn, 1) := by decide +kernel
theorem mt_X4_isArray : mx_mt 135 = some (yX4_isArray, cX4_isArray, 1, (some .boolean)) := rfl
theorem dX4_isArray_0 : decode cX4_isArray 0 = .ok (.iload_n 0, 1) := by decide +kernel
theorem dX4_isArray_1 : decode cX4_isArray 1 = .ok (.bipush 100, 2) := by decide +kernel
theorem dX4_isArray_3 : decode cX4_isArray 3 = .ok (.if_icmp .lt 14, 3) := by decide +kernel
theorem dX4_isArray_6 : decode cX4_isArray 6 = .ok (.iload_n 0, 1) := by decide +kernel
theorem dX4_isArray_7 : decode cX4_isArray 7 = .ok (.sipush 200, 3) := by decide +kernel
theorem dX4_isArray_10 : decode cX4_isArray 10 = .ok (.if_icmp .gt 7, 3) := by decide +kernel
theorem dX4_isArray_13 : decode cX4_isArray 13 = .ok (.iconst 1, 1) := by decide +kernel
theorem dX4_isArray_14 : decode cX4_isArray 14 = .ok (.goto 4, 3) := by decide +kernel
theorem dX4_isArray_17 : decode cX4_isArray 17 = .ok (.iconst 0, 1) := by decide +kernel
theorem dX4_isArray_18 : decode cX4_isArray 18 = .ok (.ireturn, 1) := by decide +kernel
theorem rs_RX10_54 : mx_res RX10 54 = some (0, 10, 16) := by decide +kernel
theorem rs_RX10_58 : mx_res RX10 58 = some (0, 10, 17) := by decide +kernel
theorem mt_X10_giveThis : mx_mt 296 = some (yX10_giveThis, cX10_giveThis, 2, none) := rfl
theorem dX10_giveThis_0 : decode cX10_giveThis 0 = .ok (.aload_n 0, 1) := by decide +kernel
theorem dX10_giveThis_1 : decode cX10_giveThis 1 = .ok (.getfield 58, 3) := by decide +kernel
theorem dX10_giveThis_4 : decode cX10_giveThis 4 = .ok (.ifCond .eq 13, 3) := by decide +kernel
theorem dX10_giveThis_7 : decode cX10_giveThis 7 = .ok (.aload_n 0, 1) := by decide +kernel
theorem dX10_giveThis_8 : decode cX10_giveThis 8 = .ok (.getfield 31, 3) := by decide +kernel
theorem dX10_giveThis_11 : decode cX10_giveThis 11 = .ok (.bipush 7, 2) := by decide +kernel
theorem dX10_giveThis_13 : decode cX10_giveThis 13 = .ok (.iload_n 1, 1) := by decide +kernel
theorem dX10_giveThis_14 : decode cX10_giveThis 14 = .ok (.invokevirtual 165, 3) := by decide +kernel
theorem dX10_giveThis_17 : decode cX10_giveThis 17 = .ok (.aload_n 0, 1) := by decide +kernel
theorem dX10_giveThis_18 : decode cX10_giveThis 18 = .ok (.getfield 46, 3) := by decide +kernel
theorem dX10_giveThis_21 : decode cX10_giveThis 21 = .ok (.bipush 25, 2) := by decide +kernel
theorem dX10_giveThis_23 : decode cX10_giveThis 23 = .ok (.iconst 0, 1) := by decide +kernel
theorem dX10_giveThis_24 : decode cX10_giveThis 24 = .ok (.invokevirtual 179, 3) := by decide +kernel
theorem dX10_giveThis_27 : decode cX10_giveThis 27 = .ok (.aload_n 0, 1) := by decide +kernel
theorem dX10_giveThis_28 : decode cX10_giveThis 28 = .ok (.aload_n 0, 1) := by decide +kernel
theorem dX10_giveThis_29 : decode cX10_giveThis 29 = .ok (.getfield 54, 3) := by decide +kernel
theorem dX10_giveThis_32 : decode cX10_giveThis 32 = .ok (.invokevirtual 233, 3) := by decide +kernel
theorem dX10_giveThis_35 : decode cX10_giveThis 35 = .ok (.return_, 1) := by decide +kernel
theorem mt_X6_numberOf : mx_mt 193 = some (yX6_numberOf, cX6_numberOf, 2, (some .int)) := rfl
theorem dX6_numberOf_0 : decode cX6_numberOf 0 = .ok (.aload_n 0, 1) := by decide +kernel
theorem dX6_numberOf_1 : decode cX6_numberOf 1 = .ok (.iconst 2, 1) := by decide +kernel
theorem dX6_numberOf_2 : decode cX6_numberOf 2 = .ok (.iload_n 1, 1) := by decide +kernel
theorem dX6_numberOf_3 : decode cX6_numberOf 3 = .ok (.invokevirtual 66, 3) := by decide +kernel
theorem dX6_numberOf_6 : decode cX6_numberOf 6 = .ok (.ireturn, 1) := by decide +kernel
theorem rs_RX10_239 : mx_res RX10 239 = some (1, 193, 1) := by decide +kernel
theorem mt_X10_readNumber : mx_mt 295 = some (yX10_readNumber, cX10_readNumber, 2, none) := rfl
theorem dX10_readNumber_0 : decode cX10_readNumber 0 = .ok (.iload_n 1, 1) := by decide +kernel
theorem dX10_readNumber_1 : decode cX10_readNumber 1 = .ok (.iconst 5, 1) := by decide +kernel
theorem dX10_readNumber_2 : decode cX10_readNumber 2 = .ok (.if_icmp .gt 16, 3) := by decide +kernel
theorem dX10_readNumber_5 : decode cX10_readNumber 5 = .ok (.aload_n 0, 1) := by decide +kernel
theorem dX10_readNumber_6 : decode cX10_readNumber 6 = .ok (.getfield 46, 3) := by decide +kernel
theorem dX10_readNumber_9 : decode cX10_readNumber 9 = .ok (.iconst 3, 1) := by decide +kernel
theorem dX10_readNumber_10 : decode cX10_readNumber 10 = .ok (.iload_n 1, 1) := by decide +kernel
theorem dX10_readNumber_11 : decode cX10_readNumber 11 = .ok (.iadd, 1) := by decide +kernel
theorem dX10_readNumber_12 : decode cX10_readNumber 12 = .ok (.invokevirtual 162, 3) := by decide +kernel
theorem dX10_readNumber_15 : decode cX10_readNumber 15 = .ok (.goto 39, 3) := by decide +kernel
theorem dX10_readNumber_18 : decode cX10_readNumber 18 = .ok (.iload_n 1, 1) := by decide +kernel
theorem dX10_readNumber_19 : decode cX10_readNumber 19 = .ok (.bipush 127, 2) := by decide +kernel
theorem dX10_readNumber_21 : decode cX10_readNumber 21 = .ok (.if_icmp .gt 16, 3) := by decide +kernel
theorem dX10_readNumber_24 : decode cX10_readNumber 24 = .ok (.aload_n 0, 1) := by decide +kernel
theorem dX10_readNumber_25 : decode cX10_readNumber 25 = .ok (.getfield 46, 3) := by decide +kernel
theorem dX10_readNumber_28 : decode cX10_readNumber 28 = .ok (.bipush 16, 2) := by decide +kernel
theorem dX10_readNumber_30 : decode cX10_readNumber 30 = .ok (.iload_n 1, 1) := by decide +kernel
theorem dX10_readNumber_31 : decode cX10_readNumber 31 = .ok (.invokevirtual 179, 3) := by decide +kernel
theorem dX10_readNumber_34 : decode cX10_readNumber 34 = .ok (.goto 20, 3) := by decide +kernel
theorem dX10_readNumber_37 : decode cX10_readNumber 37 = .ok (.aload_n 0, 1) := by decide +kernel
theorem dX10_readNumber_38 : decode cX10_readNumber 38 = .ok (.getfield 46, 3) := by decide +kernel
theorem dX10_readNumber_41 : decode cX10_readNumber 41 = .ok (.bipush 18, 2) := by decide +kernel
theorem dX10_readNumber_43 : decode cX10_readNumber 43 = .ok (.aload_n 0, 1) := by decide +kernel
theorem dX10_readNumber_44 : decode cX10_readNumber 44 = .ok (.getfield 50, 3) := by decide +kernel
theorem dX10_readNumber_47 : decode cX10_readNumber 47 = .ok (.iload_n 1, 1) := by decide +kernel
theorem dX10_readNumber_48 : decode cX10_readNumber 48 = .ok (.invokevirtual 239, 3) := by decide +kernel
theorem dX10_readNumber_51 : decode cX10_readNumber 51 = .ok (.invokevirtual 179, 3) := by decide +kernel
theorem dX10_readNumber_54 : decode cX10_readNumber 54 = .ok (.aload_n 0, 1) := by decide +kernel
theorem dX10_readNumber_55 : decode cX10_readNumber 55 = .ok (.sipush 301, 3) := by decide +kernel
theorem dX10_readNumber_58 : decode cX10_readNumber 58 = .ok (.invokevirtual 233, 3) := by decide +kernel
theorem dX10_readNumber_61 : decode cX10_readNumber 61 = .ok (.return_, 1) := by decide +kernel
