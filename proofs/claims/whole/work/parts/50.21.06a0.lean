theorem mt_X10_readCondition : mx_mt 274 = some (yX10_readCondition, cX10_readCondition, 3, (some .int)) := rfl
theorem dX10_readCondition_0 : decode cX10_readCondition 0 = .ok (.aload_n 0, 1) := by decide +kernel
theorem dX10_readCondition_1 : decode cX10_readCondition 1 = .ok (.getfield 31, 3) := by decide +kernel
theorem dX10_readCondition_4 : decode cX10_readCondition 4 = .ok (.getfield 72, 3) := by decide +kernel
theorem dX10_readCondition_7 : decode cX10_readCondition 7 = .ok (.iconst 2, 1) := by decide +kernel
theorem dX10_readCondition_8 : decode cX10_readCondition 8 = .ok (.iadd, 1) := by decide +kernel
theorem dX10_readCondition_9 : decode cX10_readCondition 9 = .ok (.istore_n 2, 1) := by decide +kernel
theorem dX10_readCondition_10 : decode cX10_readCondition 10 = .ok (.aload_n 0, 1) := by decide +kernel
theorem dX10_readCondition_11 : decode cX10_readCondition 11 = .ok (.getfield 31, 3) := by decide +kernel
theorem dX10_readCondition_14 : decode cX10_readCondition 14 = .ok (.iload_n 2, 1) := by decide +kernel
theorem dX10_readCondition_15 : decode cX10_readCondition 15 = .ok (.putfield 72, 3) := by decide +kernel
theorem dX10_readCondition_18 : decode cX10_readCondition 18 = .ok (.aload_n 0, 1) := by decide +kernel
theorem dX10_readCondition_19 : decode cX10_readCondition 19 = .ok (.iload_n 1, 1) := by decide +kernel
theorem dX10_readCondition_20 : decode cX10_readCondition 20 = .ok (.invokevirtual 68, 3) := by decide +kernel
theorem dX10_readCondition_23 : decode cX10_readCondition 23 = .ok (.aload_n 0, 1) := by decide +kernel
theorem dX10_readCondition_24 : decode cX10_readCondition 24 = .ok (.aload_n 0, 1) := by decide +kernel
theorem dX10_readCondition_25 : decode cX10_readCondition 25 = .ok (.getfield 75, 3) := by decide +kernel
theorem dX10_readCondition_28 : decode cX10_readCondition 28 = .ok (.sipush 302, 3) := by decide +kernel
theorem dX10_readCondition_31 : decode cX10_readCondition 31 = .ok (.if_icmp .ne 7, 3) := by decide +kernel
theorem dX10_readCondition_34 : decode cX10_readCondition 34 = .ok (.iconst 1, 1) := by decide +kernel
theorem dX10_readCondition_35 : decode cX10_readCondition 35 = .ok (.goto 4, 3) := by decide +kernel
theorem dX10_readCondition_38 : decode cX10_readCondition 38 = .ok (.iconst 0, 1) := by decide +kernel
theorem dX10_readCondition_39 : decode cX10_readCondition 39 = .ok (.iload_n 2, 1) := by decide +kernel
theorem dX10_readCondition_40 : decode cX10_readCondition 40 = .ok (.invokevirtual 80, 3) := by decide +kernel
theorem dX10_readCondition_43 : decode cX10_readCondition 43 = .ok (.aload_n 0, 1) := by decide +kernel
theorem dX10_readCondition_44 : decode cX10_readCondition 44 = .ok (.getfield 31, 3) := by decide +kernel
theorem dX10_readCondition_47 : decode cX10_readCondition 47 = .ok (.dup, 1) := by decide +kernel
theorem dX10_readCondition_48 : decode cX10_readCondition 48 = .ok (.getfield 72, 3) := by decide +kernel
theorem dX10_readCondition_51 : decode cX10_readCondition 51 = .ok (.iconst 1, 1) := by decide +kernel
theorem dX10_readCondition_52 : decode cX10_readCondition 52 = .ok (.iadd, 1) := by decide +kernel
theorem dX10_readCondition_53 : decode cX10_readCondition 53 = .ok (.putfield 72, 3) := by decide +kernel
theorem dX10_readCondition_56 : decode cX10_readCondition 56 = .ok (.aload_n 0, 1) := by decide +kernel
theorem dX10_readCondition_57 : decode cX10_readCondition 57 = .ok (.getfield 46, 3) := by decide +kernel
theorem dX10_readCondition_60 : decode cX10_readCondition 60 = .ok (.sipush 153, 3) := by decide +kernel
theorem dX10_readCondition_63 : decode cX10_readCondition 63 = .ok (.iconst 1, 1) := by decide +kernel
theorem dX10_readCondition_64 : decode cX10_readCondition 64 = .ok (.invokevirtual 86, 3) := by decide +kernel
theorem dX10_readCondition_67 : decode cX10_readCondition 67 = .ok (.ireturn, 1) := by decide +kernel
theorem mt_X1_jumpBack : mx_mt 36 = some (yX1_jumpBack, cX1_jumpBack, 3, none) := rfl
theorem dX1_jumpBack_0 : decode cX1_jumpBack 0 = .ok (.aload_n 0, 1) := by decide +kernel
theorem dX1_jumpBack_1 : decode cX1_jumpBack 1 = .ok (.aload_n 0, 1) := by decide +kernel
theorem dX1_jumpBack_2 : decode cX1_jumpBack 2 = .ok (.sipush 167, 3) := by decide +kernel
theorem dX1_jumpBack_5 : decode cX1_jumpBack 5 = .ok (.iconst 0, 1) := by decide +kernel
theorem dX1_jumpBack_6 : decode cX1_jumpBack 6 = .ok (.invokevirtual 90, 3) := by decide +kernel
theorem dX1_jumpBack_9 : decode cX1_jumpBack 9 = .ok (.iload_n 1, 1) := by decide +kernel
theorem dX1_jumpBack_10 : decode cX1_jumpBack 10 = .ok (.invokevirtual 93, 3) := by decide +kernel
theorem dX1_jumpBack_13 : decode cX1_jumpBack 13 = .ok (.aload_n 0, 1) := by decide +kernel
theorem dX1_jumpBack_14 : decode cX1_jumpBack 14 = .ok (.aload_n 0, 1) := by decide +kernel
theorem dX1_jumpBack_15 : decode cX1_jumpBack 15 = .ok (.iload_n 1, 1) := by decide +kernel
theorem dX1_jumpBack_16 : decode cX1_jumpBack 16 = .ok (.invokevirtual 96, 3) := by decide +kernel
theorem dX1_jumpBack_19 : decode cX1_jumpBack 19 = .ok (.iload_n 2, 1) := by decide +kernel
theorem dX1_jumpBack_20 : decode cX1_jumpBack 20 = .ok (.iconst 0, 1) := by decide +kernel
theorem dX1_jumpBack_21 : decode cX1_jumpBack 21 = .ok (.invokevirtual 100, 3) := by decide +kernel
theorem dX1_jumpBack_24 : decode cX1_jumpBack 24 = .ok (.return_, 1) := by decide +kernel
theorem rs_RX0_16 : mx_res RX0 16 = some (0, 0, 4) := by decide +kernel
theorem rs_RX0_30 : mx_res RX0 30 = some (0, 0, 11) := by decide +kernel
theorem rs_RX0_129 : mx_res RX0 129 = some (0, 0, 9) := by decide +kernel
theorem rs_RX0_132 : mx_res RX0 132 = some (0, 0, 12) := by decide +kernel
theorem rs_RX0_138 : mx_res RX0 138 = some (0, 9, 10) := by decide +kernel
theorem rs_RX0_158 : mx_res RX0 158 = some (1, 249, 0) := by decide +kernel
theorem rs_RX0_204 : mx_res RX0 204 = some (1, 35, 2) := by decide +kernel
theorem rs_RX0_207 : mx_res RX0 207 = some (0, 0, 10) := by decide +kernel
theorem rs_RX0_216 : mx_res RX0 216 = some (1, 36, 2) := by decide +kernel
theorem ft_0_12 : mx_fty 0 12 = some (.int, false, "ClassMill$Bodies") := by decide +kernel
theorem mt_X0_readLeave : mx_mt 14 = some (yX0_readLeave, cX0_readLeave, 1, (some .boolean)) := rfl
theorem dX0_readLeave_0 : decode cX0_readLeave 0 = .ok (.aload_n 0, 1) := by decide +kernel
theorem dX0_readLeave_1 : decode cX0_readLeave 1 = .ok (.getfield 129, 3) := by decide +kernel
theorem dX0_readLeave_4 : decode cX0_readLeave 4 = .ok (.iconst (-1), 1) := by decide +kernel
theorem dX0_readLeave_5 : decode cX0_readLeave 5 = .ok (.if_icmp .ne 22, 3) := by decide +kernel
theorem dX0_readLeave_8 : decode cX0_readLeave 8 = .ok (.aload_n 0, 1) := by decide +kernel
theorem dX0_readLeave_9 : decode cX0_readLeave 9 = .ok (.getfield 34, 3) := by decide +kernel
theorem dX0_readLeave_12 : decode cX0_readLeave 12 = .ok (.bipush 7, 2) := by decide +kernel
theorem dX0_readLeave_14 : decode cX0_readLeave 14 = .ok (.aload_n 0, 1) := by decide +kernel
theorem dX0_readLeave_15 : decode cX0_readLeave 15 = .ok (.getfield 34, 3) := by decide +kernel
theorem dX0_readLeave_18 : decode cX0_readLeave 18 = .ok (.getfield 138, 3) := by decide +kernel
theorem dX0_readLeave_21 : decode cX0_readLeave 21 = .ok (.invokevirtual 69, 3) := by decide +kernel
theorem dX0_readLeave_24 : decode cX0_readLeave 24 = .ok (.goto 75, 3) := by decide +kernel
theorem dX0_readLeave_27 : decode cX0_readLeave 27 = .ok (.aload_n 0, 1) := by decide +kernel
theorem dX0_readLeave_28 : decode cX0_readLeave 28 = .ok (.getfield 34, 3) := by decide +kernel
theorem dX0_readLeave_31 : decode cX0_readLeave 31 = .ok (.invokevirtual 158, 3) := by decide +kernel
theorem dX0_readLeave_34 : decode cX0_readLeave 34 = .ok (.bipush 14, 2) := by decide +kernel
theorem dX0_readLeave_36 : decode cX0_readLeave 36 = .ok (.if_icmp .ne 21, 3) := by decide +kernel
theorem dX0_readLeave_39 : decode cX0_readLeave 39 = .ok (.aload_n 0, 1) := by decide +kernel
theorem dX0_readLeave_40 : decode cX0_readLeave 40 = .ok (.getfield 16, 3) := by decide +kernel
theorem dX0_readLeave_43 : decode cX0_readLeave 43 = .ok (.aload_n 0, 1) := by decide +kernel
theorem dX0_readLeave_44 : decode cX0_readLeave 44 = .ok (.getfield 129, 3) := by decide +kernel
theorem dX0_readLeave_47 : decode cX0_readLeave 47 = .ok (.aload_n 0, 1) := by decide +kernel
theorem dX0_readLeave_48 : decode cX0_readLeave 48 = .ok (.getfield 207, 3) := by decide +kernel
theorem dX0_readLeave_51 : decode cX0_readLeave 51 = .ok (.invokevirtual 216, 3) := by decide +kernel
theorem dX0_readLeave_54 : decode cX0_readLeave 54 = .ok (.goto 45, 3) := by decide +kernel
theorem dX0_readLeave_57 : decode cX0_readLeave 57 = .ok (.aload_n 0, 1) := by decide +kernel
theorem dX0_readLeave_58 : decode cX0_readLeave 58 = .ok (.getfield 132, 3) := by decide +kernel
theorem dX0_readLeave_61 : decode cX0_readLeave 61 = .ok (.aload_n 0, 1) := by decide +kernel
theorem dX0_readLeave_62 : decode cX0_readLeave 62 = .ok (.getfield 30, 3) := by decide +kernel
theorem dX0_readLeave_65 : decode cX0_readLeave 65 = .ok (.arraylength, 1) := by decide +kernel
theorem dX0_readLeave_66 : decode cX0_readLeave 66 = .ok (.if_icmp .ge 33, 3) := by decide +kernel
theorem dX0_readLeave_69 : decode cX0_readLeave 69 = .ok (.aload_n 0, 1) := by decide +kernel
theorem dX0_readLeave_70 : decode cX0_readLeave 70 = .ok (.getfield 30, 3) := by decide +kernel
theorem dX0_readLeave_73 : decode cX0_readLeave 73 = .ok (.aload_n 0, 1) := by decide +kernel
theorem dX0_readLeave_74 : decode cX0_readLeave 74 = .ok (.getfield 132, 3) := by decide +kernel
theorem dX0_readLeave_77 : decode cX0_readLeave 77 = .ok (.aload_n 0, 1) := by decide +kernel
theorem dX0_readLeave_78 : decode cX0_readLeave 78 = .ok (.getfield 16, 3) := by decide +kernel
theorem dX0_readLeave_81 : decode cX0_readLeave 81 = .ok (.sipush 167, 3) := by decide +kernel
theorem dX0_readLeave_84 : decode cX0_readLeave 84 = .ok (.iconst 0, 1) := by decide +kernel
theorem dX0_readLeave_85 : decode cX0_readLeave 85 = .ok (.invokevirtual 204, 3) := by decide +kernel
theorem dX0_readLeave_88 : decode cX0_readLeave 88 = .ok (.iastore, 1) := by decide +kernel
theorem dX0_readLeave_89 : decode cX0_readLeave 89 = .ok (.aload_n 0, 1) := by decide +kernel
theorem dX0_readLeave_90 : decode cX0_readLeave 90 = .ok (.dup, 1) := by decide +kernel
theorem dX0_readLeave_91 : decode cX0_readLeave 91 = .ok (.getfield 132, 3) := by decide +kernel
theorem dX0_readLeave_94 : decode cX0_readLeave 94 = .ok (.iconst 1, 1) := by decide +kernel
theorem dX0_readLeave_95 : decode cX0_readLeave 95 = .ok (.iadd, 1) := by decide +kernel
theorem dX0_readLeave_96 : decode cX0_readLeave 96 = .ok (.putfield 132, 3) := by decide +kernel
theorem dX0_readLeave_99 : decode cX0_readLeave 99 = .ok (.aload_n 0, 1) := by decide +kernel
theorem dX0_readLeave_100 : decode cX0_readLeave 100 = .ok (.getfield 34, 3) := by decide +kernel
theorem dX0_readLeave_103 : decode cX0_readLeave 103 = .ok (.dup, 1) := by decide +kernel
theorem dX0_readLeave_104 : decode cX0_readLeave 104 = .ok (.getfield 138, 3) := by decide +kernel
theorem dX0_readLeave_107 : decode cX0_readLeave 107 = .ok (.iconst 2, 1) := by decide +kernel
theorem dX0_readLeave_108 : decode cX0_readLeave 108 = .ok (.iadd, 1) := by decide +kernel
theorem dX0_readLeave_109 : decode cX0_readLeave 109 = .ok (.putfield 138, 3) := by decide +kernel
theorem dX0_readLeave_112 : decode cX0_readLeave 112 = .ok (.iconst 0, 1) := by decide +kernel
theorem dX0_readLeave_113 : decode cX0_readLeave 113 = .ok (.ireturn, 1) := by decide +kernel
theorem rs_RX0_61 : mx_res RX0 61 = some (0, 0, 5) := by decide +kernel
theorem rs_RX0_147 : mx_res RX0 147 = some (1, 27, 1) := by decide +kernel
theorem rs_RX0_245 : mx_res RX0 245 = some (0, 10, 12) := by decide +kernel
theorem rs_RX0_251 : mx_res RX0 251 = some (1, 30, 1) := by decide +kernel
theorem rs_RX0_260 : mx_res RX0 260 = some (0, 10, 11) := by decide +kernel
theorem mt_X0_closeAlone : mx_mt 22 = some (yX0_closeAlone, cX0_closeAlone, 2, none) := rfl
theorem dX0_closeAlone_0 : decode cX0_closeAlone 0 = .ok (.aload_n 0, 1) := by decide +kernel
theorem dX0_closeAlone_1 : decode cX0_closeAlone 1 = .ok (.getfield 61, 3) := by decide +kernel
theorem dX0_closeAlone_4 : decode cX0_closeAlone 4 = .ok (.getfield 260, 3) := by decide +kernel
theorem dX0_closeAlone_7 : decode cX0_closeAlone 7 = .ok (.iconst 1, 1) := by decide +kernel
theorem dX0_closeAlone_8 : decode cX0_closeAlone 8 = .ok (.if_icmp .eq 13, 3) := by decide +kernel
theorem dX0_closeAlone_11 : decode cX0_closeAlone 11 = .ok (.aload_n 0, 1) := by decide +kernel
theorem dX0_closeAlone_12 : decode cX0_closeAlone 12 = .ok (.getfield 34, 3) := by decide +kernel
theorem dX0_closeAlone_15 : decode cX0_closeAlone 15 = .ok (.bipush 6, 2) := by decide +kernel
theorem dX0_closeAlone_17 : decode cX0_closeAlone 17 = .ok (.iload_n 1, 1) := by decide +kernel
theorem dX0_closeAlone_18 : decode cX0_closeAlone 18 = .ok (.invokevirtual 69, 3) := by decide +kernel
theorem dX0_closeAlone_21 : decode cX0_closeAlone 21 = .ok (.aload_n 0, 1) := by decide +kernel
theorem dX0_closeAlone_22 : decode cX0_closeAlone 22 = .ok (.getfield 61, 3) := by decide +kernel
theorem dX0_closeAlone_25 : decode cX0_closeAlone 25 = .ok (.getfield 245, 3) := by decide +kernel
theorem dX0_closeAlone_28 : decode cX0_closeAlone 28 = .ok (.sipush 303, 3) := by decide +kernel
theorem dX0_closeAlone_31 : decode cX0_closeAlone 31 = .ok (.if_icmp .eq 20, 3) := by decide +kernel
theorem dX0_closeAlone_34 : decode cX0_closeAlone 34 = .ok (.aload_n 0, 1) := by decide +kernel
theorem dX0_closeAlone_35 : decode cX0_closeAlone 35 = .ok (.getfield 16, 3) := by decide +kernel
theorem dX0_closeAlone_38 : decode cX0_closeAlone 38 = .ok (.bipush 87, 2) := by decide +kernel
theorem dX0_closeAlone_40 : decode cX0_closeAlone 40 = .ok (.invokevirtual 147, 3) := by decide +kernel
theorem dX0_closeAlone_43 : decode cX0_closeAlone 43 = .ok (.aload_n 0, 1) := by decide +kernel
theorem dX0_closeAlone_44 : decode cX0_closeAlone 44 = .ok (.getfield 16, 3) := by decide +kernel
theorem dX0_closeAlone_47 : decode cX0_closeAlone 47 = .ok (.iconst 1, 1) := by decide +kernel
theorem dX0_closeAlone_48 : decode cX0_closeAlone 48 = .ok (.invokevirtual 251, 3) := by decide +kernel
theorem dX0_closeAlone_51 : decode cX0_closeAlone 51 = .ok (.return_, 1) := by decide +kernel
theorem rs_RX1_80 : mx_res RX1 80 = some (2, 137, 1) := by decide +kernel
theorem rs_RX1_84 : mx_res RX1 84 = some (1, 28, 2) := by decide +kernel
theorem mt_X1_store : mx_mt 34 = some (yX1_store, cX1_store, 3, none) := rfl
theorem dX1_store_0 : decode cX1_store 0 = .ok (.aload_n 0, 1) := by decide +kernel
theorem dX1_store_1 : decode cX1_store 1 = .ok (.iload_n 2, 1) := by decide +kernel
theorem dX1_store_2 : decode cX1_store 2 = .ok (.invokestatic 80, 3) := by decide +kernel
theorem dX1_store_5 : decode cX1_store 5 = .ok (.ifCond .eq 8, 3) := by decide +kernel
theorem dX1_store_8 : decode cX1_store 8 = .ok (.bipush 54, 2) := by decide +kernel
theorem dX1_store_10 : decode cX1_store 10 = .ok (.goto 5, 3) := by decide +kernel
theorem dX1_store_13 : decode cX1_store 13 = .ok (.bipush 58, 2) := by decide +kernel
theorem dX1_store_15 : decode cX1_store 15 = .ok (.iload_n 1, 1) := by decide +kernel
theorem dX1_store_16 : decode cX1_store 16 = .ok (.invokevirtual 84, 3) := by decide +kernel
theorem dX1_store_19 : decode cX1_store 19 = .ok (.aload_n 0, 1) := by decide +kernel
theorem dX1_store_20 : decode cX1_store 20 = .ok (.iconst 1, 1) := by decide +kernel
theorem dX1_store_21 : decode cX1_store 21 = .ok (.invokevirtual 87, 3) := by decide +kernel
theorem dX1_store_24 : decode cX1_store 24 = .ok (.return_, 1) := by decide +kernel
theorem rs_RX0_236 : mx_res RX0 236 = some (1, 34, 2) := by decide +kernel
theorem rs_RX0_276 : mx_res RX0 276 = some (1, 194, 2) := by decide +kernel
theorem rs_RX0_279 : mx_res RX0 279 = some (1, 28, 2) := by decide +kernel
theorem mt_X0_closeGiving : mx_mt 23 = some (yX0_closeGiving, cX0_closeGiving, 5, none) := rfl
theorem dX0_closeGiving_0 : decode cX0_closeGiving 0 = .ok (.iload_n 1, 1) := by decide +kernel
theorem dX0_closeGiving_1 : decode cX0_closeGiving 1 = .ok (.lookupswitch 71 #[(2, 27), (3, 40)], 27) := by decide +kernel
theorem dX0_closeGiving_28 : decode cX0_closeGiving 28 = .ok (.aload_n 0, 1) := by decide +kernel
theorem dX0_closeGiving_29 : decode cX0_closeGiving 29 = .ok (.getfield 16, 3) := by decide +kernel
theorem dX0_closeGiving_32 : decode cX0_closeGiving 32 = .ok (.iload 4, 2) := by decide +kernel
theorem dX0_closeGiving_34 : decode cX0_closeGiving 34 = .ok (.iload_n 2, 1) := by decide +kernel
theorem dX0_closeGiving_35 : decode cX0_closeGiving 35 = .ok (.invokevirtual 236, 3) := by decide +kernel
theorem dX0_closeGiving_38 : decode cX0_closeGiving 38 = .ok (.goto 63, 3) := by decide +kernel
theorem dX0_closeGiving_41 : decode cX0_closeGiving 41 = .ok (.aload_n 0, 1) := by decide +kernel
theorem dX0_closeGiving_42 : decode cX0_closeGiving 42 = .ok (.getfield 16, 3) := by decide +kernel
theorem dX0_closeGiving_45 : decode cX0_closeGiving 45 = .ok (.sipush 181, 3) := by decide +kernel
theorem dX0_closeGiving_48 : decode cX0_closeGiving 48 = .ok (.aload_n 0, 1) := by decide +kernel
theorem dX0_closeGiving_49 : decode cX0_closeGiving 49 = .ok (.getfield 52, 3) := by decide +kernel
theorem dX0_closeGiving_52 : decode cX0_closeGiving 52 = .ok (.iload_n 3, 1) := by decide +kernel
theorem dX0_closeGiving_53 : decode cX0_closeGiving 53 = .ok (.iload 4, 2) := by decide +kernel
theorem dX0_closeGiving_55 : decode cX0_closeGiving 55 = .ok (.invokevirtual 276, 3) := by decide +kernel
theorem dX0_closeGiving_58 : decode cX0_closeGiving 58 = .ok (.invokevirtual 279, 3) := by decide +kernel
theorem dX0_closeGiving_61 : decode cX0_closeGiving 61 = .ok (.aload_n 0, 1) := by decide +kernel
theorem dX0_closeGiving_62 : decode cX0_closeGiving 62 = .ok (.getfield 16, 3) := by decide +kernel
theorem dX0_closeGiving_65 : decode cX0_closeGiving 65 = .ok (.iconst 2, 1) := by decide +kernel
theorem dX0_closeGiving_66 : decode cX0_closeGiving 66 = .ok (.invokevirtual 251, 3) := by decide +kernel
theorem dX0_closeGiving_69 : decode cX0_closeGiving 69 = .ok (.goto 32, 3) := by decide +kernel
theorem dX0_closeGiving_72 : decode cX0_closeGiving 72 = .ok (.aload_n 0, 1) := by decide +kernel
theorem dX0_closeGiving_73 : decode cX0_closeGiving 73 = .ok (.getfield 16, 3) := by decide +kernel
theorem dX0_closeGiving_76 : decode cX0_closeGiving 76 = .ok (.iload_n 2, 1) := by decide +kernel
theorem dX0_closeGiving_77 : decode cX0_closeGiving 77 = .ok (.sipush 301, 3) := by decide +kernel
theorem dX0_closeGiving_80 : decode cX0_closeGiving 80 = .ok (.if_icmp .ne 8, 3) := by decide +kernel
theorem dX0_closeGiving_83 : decode cX0_closeGiving 83 = .ok (.bipush 79, 2) := by decide +kernel
theorem dX0_closeGiving_85 : decode cX0_closeGiving 85 = .ok (.goto 5, 3) := by decide +kernel
theorem dX0_closeGiving_88 : decode cX0_closeGiving 88 = .ok (.bipush 83, 2) := by decide +kernel
theorem dX0_closeGiving_90 : decode cX0_closeGiving 90 = .ok (.invokevirtual 147, 3) := by decide +kernel
theorem dX0_closeGiving_93 : decode cX0_closeGiving 93 = .ok (.aload_n 0, 1) := by decide +kernel
theorem dX0_closeGiving_94 : decode cX0_closeGiving 94 = .ok (.getfield 16, 3) := by decide +kernel
theorem dX0_closeGiving_97 : decode cX0_closeGiving 97 = .ok (.iconst 3, 1) := by decide +kernel
theorem dX0_closeGiving_98 : decode cX0_closeGiving 98 = .ok (.invokevirtual 251, 3) := by decide +kernel
theorem dX0_closeGiving_101 : decode cX0_closeGiving 101 = .ok (.return_, 1) := by decide +kernel
theorem mt_X10_readWhole : mx_mt 273 = some (yX10_readWhole, cX10_readWhole, 2, none) := rfl
theorem dX10_readWhole_0 : decode cX10_readWhole 0 = .ok (.aload_n 0, 1) := by decide +kernel
theorem dX10_readWhole_1 : decode cX10_readWhole 1 = .ok (.iload_n 1, 1) := by decide +kernel
theorem dX10_readWhole_2 : decode cX10_readWhole 2 = .ok (.invokevirtual 68, 3) := by decide +kernel
theorem dX10_readWhole_5 : decode cX10_readWhole 5 = .ok (.return_, 1) := by decide +kernel
theorem rs_RX0_46 : mx_res RX0 46 = some (0, 0, 2) := by decide +kernel
theorem rs_RX0_222 : mx_res RX0 222 = some (1, 139, 2) := by decide +kernel
theorem rs_RX0_242 : mx_res RX0 242 = some (1, 273, 1) := by decide +kernel
theorem rs_RX0_257 : mx_res RX0 257 = some (0, 10, 18) := by decide +kernel
theorem rs_RX0_263 : mx_res RX0 263 = some (0, 10, 13) := by decide +kernel
theorem rs_RX0_266 : mx_res RX0 266 = some (0, 10, 14) := by decide +kernel
theorem rs_RX0_269 : mx_res RX0 269 = some (1, 23, 4) := by decide +kernel
theorem rs_RX0_273 : mx_res RX0 273 = some (1, 22, 1) := by decide +kernel
theorem ft_10_18 : mx_fty 10 18 = some (.int, false, "ClassMill$Values") := by decide +kernel
theorem mt_X0_readPlain : mx_mt 21 = some (yX0_readPlain, cX0_readPlain, 8, (some .boolean)) := rfl
theorem dX0_readPlain_0 : decode cX0_readPlain 0 = .ok (.aload_n 0, 1) := by decide +kernel
theorem dX0_readPlain_1 : decode cX0_readPlain 1 = .ok (.getfield 34, 3) := by decide +kernel
theorem dX0_readPlain_4 : decode cX0_readPlain 4 = .ok (.getfield 138, 3) := by decide +kernel
theorem dX0_readPlain_7 : decode cX0_readPlain 7 = .ok (.istore_n 2, 1) := by decide +kernel
theorem dX0_readPlain_8 : decode cX0_readPlain 8 = .ok (.aload_n 0, 1) := by decide +kernel
theorem dX0_readPlain_9 : decode cX0_readPlain 9 = .ok (.getfield 61, 3) := by decide +kernel
theorem dX0_readPlain_12 : decode cX0_readPlain 12 = .ok (.iload_n 2, 1) := by decide +kernel
theorem dX0_readPlain_13 : decode cX0_readPlain 13 = .ok (.putfield 257, 3) := by decide +kernel
theorem dX0_readPlain_16 : decode cX0_readPlain 16 = .ok (.aload_n 0, 1) := by decide +kernel
theorem dX0_readPlain_17 : decode cX0_readPlain 17 = .ok (.getfield 61, 3) := by decide +kernel
theorem dX0_readPlain_20 : decode cX0_readPlain 20 = .ok (.iload_n 1, 1) := by decide +kernel
theorem dX0_readPlain_21 : decode cX0_readPlain 21 = .ok (.invokevirtual 242, 3) := by decide +kernel
theorem dX0_readPlain_24 : decode cX0_readPlain 24 = .ok (.aload_n 0, 1) := by decide +kernel
theorem dX0_readPlain_25 : decode cX0_readPlain 25 = .ok (.getfield 34, 3) := by decide +kernel
theorem dX0_readPlain_28 : decode cX0_readPlain 28 = .ok (.invokevirtual 158, 3) := by decide +kernel
theorem dX0_readPlain_31 : decode cX0_readPlain 31 = .ok (.bipush 51, 2) := by decide +kernel
theorem dX0_readPlain_33 : decode cX0_readPlain 33 = .ok (.if_icmp .ne 118, 3) := by decide +kernel
theorem dX0_readPlain_36 : decode cX0_readPlain 36 = .ok (.aload_n 0, 1) := by decide +kernel
theorem dX0_readPlain_37 : decode cX0_readPlain 37 = .ok (.getfield 34, 3) := by decide +kernel
theorem dX0_readPlain_40 : decode cX0_readPlain 40 = .ok (.getfield 138, 3) := by decide +kernel
theorem dX0_readPlain_43 : decode cX0_readPlain 43 = .ok (.istore_n 3, 1) := by decide +kernel
theorem dX0_readPlain_44 : decode cX0_readPlain 44 = .ok (.aload_n 0, 1) := by decide +kernel
theorem dX0_readPlain_45 : decode cX0_readPlain 45 = .ok (.getfield 61, 3) := by decide +kernel
theorem dX0_readPlain_48 : decode cX0_readPlain 48 = .ok (.getfield 260, 3) := by decide +kernel
theorem dX0_readPlain_51 : decode cX0_readPlain 51 = .ok (.istore 4, 2) := by decide +kernel
theorem dX0_readPlain_53 : decode cX0_readPlain 53 = .ok (.aload_n 0, 1) := by decide +kernel
theorem dX0_readPlain_54 : decode cX0_readPlain 54 = .ok (.getfield 61, 3) := by decide +kernel
theorem dX0_readPlain_57 : decode cX0_readPlain 57 = .ok (.getfield 245, 3) := by decide +kernel
theorem dX0_readPlain_60 : decode cX0_readPlain 60 = .ok (.istore 5, 2) := by decide +kernel
theorem dX0_readPlain_62 : decode cX0_readPlain 62 = .ok (.aload_n 0, 1) := by decide +kernel
theorem dX0_readPlain_63 : decode cX0_readPlain 63 = .ok (.getfield 61, 3) := by decide +kernel
theorem dX0_readPlain_66 : decode cX0_readPlain 66 = .ok (.getfield 263, 3) := by decide +kernel
theorem dX0_readPlain_69 : decode cX0_readPlain 69 = .ok (.istore 6, 2) := by decide +kernel
theorem dX0_readPlain_71 : decode cX0_readPlain 71 = .ok (.aload_n 0, 1) := by decide +kernel
theorem dX0_readPlain_72 : decode cX0_readPlain 72 = .ok (.getfield 61, 3) := by decide +kernel
theorem dX0_readPlain_75 : decode cX0_readPlain 75 = .ok (.getfield 266, 3) := by decide +kernel
theorem dX0_readPlain_78 : decode cX0_readPlain 78 = .ok (.istore 7, 2) := by decide +kernel
theorem dX0_readPlain_80 : decode cX0_readPlain 80 = .ok (.aload_n 0, 1) := by decide +kernel
theorem dX0_readPlain_81 : decode cX0_readPlain 81 = .ok (.getfield 34, 3) := by decide +kernel
theorem dX0_readPlain_84 : decode cX0_readPlain 84 = .ok (.dup, 1) := by decide +kernel
theorem dX0_readPlain_85 : decode cX0_readPlain 85 = .ok (.getfield 138, 3) := by decide +kernel
theorem dX0_readPlain_88 : decode cX0_readPlain 88 = .ok (.iconst 1, 1) := by decide +kernel
theorem dX0_readPlain_89 : decode cX0_readPlain 89 = .ok (.iadd, 1) := by decide +kernel
theorem dX0_readPlain_90 : decode cX0_readPlain 90 = .ok (.putfield 138, 3) := by decide +kernel
theorem dX0_readPlain_93 : decode cX0_readPlain 93 = .ok (.aload_n 0, 1) := by decide +kernel
theorem dX0_readPlain_94 : decode cX0_readPlain 94 = .ok (.getfield 61, 3) := by decide +kernel
theorem dX0_readPlain_97 : decode cX0_readPlain 97 = .ok (.iload_n 1, 1) := by decide +kernel
theorem dX0_readPlain_98 : decode cX0_readPlain 98 = .ok (.invokevirtual 242, 3) := by decide +kernel
theorem dX0_readPlain_101 : decode cX0_readPlain 101 = .ok (.iload 4, 2) := by decide +kernel
theorem dX0_readPlain_103 : decode cX0_readPlain 103 = .ok (.iconst 2, 1) := by decide +kernel
theorem dX0_readPlain_104 : decode cX0_readPlain 104 = .ok (.if_icmp .lt 22, 3) := by decide +kernel
theorem dX0_readPlain_107 : decode cX0_readPlain 107 = .ok (.aload_n 0, 1) := by decide +kernel
theorem dX0_readPlain_108 : decode cX0_readPlain 108 = .ok (.getfield 46, 3) := by decide +kernel
theorem dX0_readPlain_111 : decode cX0_readPlain 111 = .ok (.aload_n 0, 1) := by decide +kernel
theorem dX0_readPlain_112 : decode cX0_readPlain 112 = .ok (.getfield 61, 3) := by decide +kernel
theorem dX0_readPlain_115 : decode cX0_readPlain 115 = .ok (.getfield 245, 3) := by decide +kernel
theorem dX0_readPlain_118 : decode cX0_readPlain 118 = .ok (.iload 5, 2) := by decide +kernel
theorem dX0_readPlain_120 : decode cX0_readPlain 120 = .ok (.invokevirtual 222, 3) := by decide +kernel
theorem dX0_readPlain_123 : decode cX0_readPlain 123 = .ok (.ifCond .ne 13, 3) := by decide +kernel
theorem dX0_readPlain_126 : decode cX0_readPlain 126 = .ok (.aload_n 0, 1) := by decide +kernel
theorem dX0_readPlain_127 : decode cX0_readPlain 127 = .ok (.getfield 34, 3) := by decide +kernel
theorem dX0_readPlain_130 : decode cX0_readPlain 130 = .ok (.bipush 6, 2) := by decide +kernel
theorem dX0_readPlain_132 : decode cX0_readPlain 132 = .ok (.iload_n 3, 1) := by decide +kernel
theorem dX0_readPlain_133 : decode cX0_readPlain 133 = .ok (.invokevirtual 69, 3) := by decide +kernel
theorem dX0_readPlain_136 : decode cX0_readPlain 136 = .ok (.aload_n 0, 1) := by decide +kernel
theorem dX0_readPlain_137 : decode cX0_readPlain 137 = .ok (.iload 4, 2) := by decide +kernel
theorem dX0_readPlain_139 : decode cX0_readPlain 139 = .ok (.iload 5, 2) := by decide +kernel
theorem dX0_readPlain_141 : decode cX0_readPlain 141 = .ok (.iload 6, 2) := by decide +kernel
theorem dX0_readPlain_143 : decode cX0_readPlain 143 = .ok (.iload 7, 2) := by decide +kernel
theorem dX0_readPlain_145 : decode cX0_readPlain 145 = .ok (.invokevirtual 269, 3) := by decide +kernel
theorem dX0_readPlain_148 : decode cX0_readPlain 148 = .ok (.goto 8, 3) := by decide +kernel
theorem dX0_readPlain_151 : decode cX0_readPlain 151 = .ok (.aload_n 0, 1) := by decide +kernel
theorem dX0_readPlain_152 : decode cX0_readPlain 152 = .ok (.iload_n 2, 1) := by decide +kernel
theorem dX0_readPlain_153 : decode cX0_readPlain 153 = .ok (.invokevirtual 273, 3) := by decide +kernel
theorem dX0_readPlain_156 : decode cX0_readPlain 156 = .ok (.aload_n 0, 1) := by decide +kernel
theorem dX0_readPlain_157 : decode cX0_readPlain 157 = .ok (.getfield 34, 3) := by decide +kernel
theorem dX0_readPlain_160 : decode cX0_readPlain 160 = .ok (.dup, 1) := by decide +kernel
theorem dX0_readPlain_161 : decode cX0_readPlain 161 = .ok (.getfield 138, 3) := by decide +kernel
theorem dX0_readPlain_164 : decode cX0_readPlain 164 = .ok (.iconst 1, 1) := by decide +kernel
theorem dX0_readPlain_165 : decode cX0_readPlain 165 = .ok (.iadd, 1) := by decide +kernel
theorem dX0_readPlain_166 : decode cX0_readPlain 166 = .ok (.putfield 138, 3) := by decide +kernel
theorem dX0_readPlain_169 : decode cX0_readPlain 169 = .ok (.iconst 1, 1) := by decide +kernel
theorem dX0_readPlain_170 : decode cX0_readPlain 170 = .ok (.ireturn, 1) := by decide +kernel
theorem rs_RX0_248 : mx_res RX0 248 = some (2, 137, 1) := by decide +kernel
theorem mt_X0_readPrint : mx_mt 19 = some (yX0_readPrint, cX0_readPrint, 3, (some .boolean)) := rfl
theorem dX0_readPrint_0 : decode cX0_readPrint 0 = .ok (.aload_n 0, 1) := by decide +kernel
theorem dX0_readPrint_1 : decode cX0_readPrint 1 = .ok (.getfield 34, 3) := by decide +kernel
theorem dX0_readPrint_4 : decode cX0_readPrint 4 = .ok (.getfield 138, 3) := by decide +kernel
theorem dX0_readPrint_7 : decode cX0_readPrint 7 = .ok (.istore_n 2, 1) := by decide +kernel
theorem dX0_readPrint_8 : decode cX0_readPrint 8 = .ok (.aload_n 0, 1) := by decide +kernel
theorem dX0_readPrint_9 : decode cX0_readPrint 9 = .ok (.getfield 34, 3) := by decide +kernel
theorem dX0_readPrint_12 : decode cX0_readPrint 12 = .ok (.dup, 1) := by decide +kernel
theorem dX0_readPrint_13 : decode cX0_readPrint 13 = .ok (.getfield 138, 3) := by decide +kernel
theorem dX0_readPrint_16 : decode cX0_readPrint 16 = .ok (.iconst 2, 1) := by decide +kernel
theorem dX0_readPrint_17 : decode cX0_readPrint 17 = .ok (.iadd, 1) := by decide +kernel
theorem dX0_readPrint_18 : decode cX0_readPrint 18 = .ok (.putfield 138, 3) := by decide +kernel
theorem dX0_readPrint_21 : decode cX0_readPrint 21 = .ok (.aload_n 0, 1) := by decide +kernel
theorem dX0_readPrint_22 : decode cX0_readPrint 22 = .ok (.getfield 61, 3) := by decide +kernel
theorem dX0_readPrint_25 : decode cX0_readPrint 25 = .ok (.iload_n 1, 1) := by decide +kernel
theorem dX0_readPrint_26 : decode cX0_readPrint 26 = .ok (.invokevirtual 242, 3) := by decide +kernel
theorem dX0_readPrint_29 : decode cX0_readPrint 29 = .ok (.aload_n 0, 1) := by decide +kernel
theorem dX0_readPrint_30 : decode cX0_readPrint 30 = .ok (.getfield 61, 3) := by decide +kernel
theorem dX0_readPrint_33 : decode cX0_readPrint 33 = .ok (.getfield 245, 3) := by decide +kernel
theorem dX0_readPrint_36 : decode cX0_readPrint 36 = .ok (.invokestatic 248, 3) := by decide +kernel
theorem dX0_readPrint_39 : decode cX0_readPrint 39 = .ok (.ifCond .ne 13, 3) := by decide +kernel
theorem dX0_readPrint_42 : decode cX0_readPrint 42 = .ok (.aload_n 0, 1) := by decide +kernel
theorem dX0_readPrint_43 : decode cX0_readPrint 43 = .ok (.getfield 34, 3) := by decide +kernel
theorem dX0_readPrint_46 : decode cX0_readPrint 46 = .ok (.bipush 6, 2) := by decide +kernel
theorem dX0_readPrint_48 : decode cX0_readPrint 48 = .ok (.iload_n 2, 1) := by decide +kernel
theorem dX0_readPrint_49 : decode cX0_readPrint 49 = .ok (.invokevirtual 69, 3) := by decide +kernel
theorem dX0_readPrint_52 : decode cX0_readPrint 52 = .ok (.aload_n 0, 1) := by decide +kernel
theorem dX0_readPrint_53 : decode cX0_readPrint 53 = .ok (.getfield 16, 3) := by decide +kernel
theorem dX0_readPrint_56 : decode cX0_readPrint 56 = .ok (.sipush 186, 3) := by decide +kernel
theorem dX0_readPrint_59 : decode cX0_readPrint 59 = .ok (.invokevirtual 147, 3) := by decide +kernel
theorem dX0_readPrint_62 : decode cX0_readPrint 62 = .ok (.aload_n 0, 1) := by decide +kernel
theorem dX0_readPrint_63 : decode cX0_readPrint 63 = .ok (.getfield 16, 3) := by decide +kernel
theorem dX0_readPrint_66 : decode cX0_readPrint 66 = .ok (.iconst 1, 1) := by decide +kernel
theorem dX0_readPrint_67 : decode cX0_readPrint 67 = .ok (.invokevirtual 251, 3) := by decide +kernel
theorem dX0_readPrint_70 : decode cX0_readPrint 70 = .ok (.aload_n 0, 1) := by decide +kernel
theorem dX0_readPrint_71 : decode cX0_readPrint 71 = .ok (.getfield 34, 3) := by decide +kernel
theorem dX0_readPrint_74 : decode cX0_readPrint 74 = .ok (.dup, 1) := by decide +kernel
theorem dX0_readPrint_75 : decode cX0_readPrint 75 = .ok (.getfield 138, 3) := by decide +kernel
theorem dX0_readPrint_78 : decode cX0_readPrint 78 = .ok (.iconst 2, 1) := by decide +kernel
theorem dX0_readPrint_79 : decode cX0_readPrint 79 = .ok (.iadd, 1) := by decide +kernel
theorem dX0_readPrint_80 : decode cX0_readPrint 80 = .ok (.putfield 138, 3) := by decide +kernel
theorem dX0_readPrint_83 : decode cX0_readPrint 83 = .ok (.iconst 1, 1) := by decide +kernel
theorem dX0_readPrint_84 : decode cX0_readPrint 84 = .ok (.ireturn, 1) := by decide +kernel
theorem rs_RX0_126 : mx_res RX0 126 = some (0, 0, 8) := by decide +kernel
theorem mt_X0_readReturn : mx_mt 17 = some (yX0_readReturn, cX0_readReturn, 4, (some .boolean)) := rfl
theorem dX0_readReturn_0 : decode cX0_readReturn 0 = .ok (.aload_n 0, 1) := by decide +kernel
theorem dX0_readReturn_1 : decode cX0_readReturn 1 = .ok (.getfield 34, 3) := by decide +kernel
theorem dX0_readReturn_4 : decode cX0_readReturn 4 = .ok (.getfield 138, 3) := by decide +kernel
theorem dX0_readReturn_7 : decode cX0_readReturn 7 = .ok (.istore_n 2, 1) := by decide +kernel
theorem dX0_readReturn_8 : decode cX0_readReturn 8 = .ok (.aload_n 0, 1) := by decide +kernel
theorem dX0_readReturn_9 : decode cX0_readReturn 9 = .ok (.getfield 34, 3) := by decide +kernel
theorem dX0_readReturn_12 : decode cX0_readReturn 12 = .ok (.dup, 1) := by decide +kernel
theorem dX0_readReturn_13 : decode cX0_readReturn 13 = .ok (.getfield 138, 3) := by decide +kernel
theorem dX0_readReturn_16 : decode cX0_readReturn 16 = .ok (.iconst 1, 1) := by decide +kernel
theorem dX0_readReturn_17 : decode cX0_readReturn 17 = .ok (.iadd, 1) := by decide +kernel
theorem dX0_readReturn_18 : decode cX0_readReturn 18 = .ok (.putfield 138, 3) := by decide +kernel
theorem dX0_readReturn_21 : decode cX0_readReturn 21 = .ok (.aload_n 0, 1) := by decide +kernel
theorem dX0_readReturn_22 : decode cX0_readReturn 22 = .ok (.getfield 34, 3) := by decide +kernel
theorem dX0_readReturn_25 : decode cX0_readReturn 25 = .ok (.invokevirtual 158, 3) := by decide +kernel
theorem dX0_readReturn_28 : decode cX0_readReturn 28 = .ok (.bipush 46, 2) := by decide +kernel
theorem dX0_readReturn_30 : decode cX0_readReturn 30 = .ok (.if_icmp .ne 7, 3) := by decide +kernel
theorem dX0_readReturn_33 : decode cX0_readReturn 33 = .ok (.iconst 1, 1) := by decide +kernel
theorem dX0_readReturn_34 : decode cX0_readReturn 34 = .ok (.goto 4, 3) := by decide +kernel
theorem dX0_readReturn_37 : decode cX0_readReturn 37 = .ok (.iconst 0, 1) := by decide +kernel
theorem dX0_readReturn_38 : decode cX0_readReturn 38 = .ok (.istore_n 3, 1) := by decide +kernel
theorem dX0_readReturn_39 : decode cX0_readReturn 39 = .ok (.iload_n 3, 1) := by decide +kernel
theorem dX0_readReturn_40 : decode cX0_readReturn 40 = .ok (.aload_n 0, 1) := by decide +kernel
theorem dX0_readReturn_41 : decode cX0_readReturn 41 = .ok (.getfield 126, 3) := by decide +kernel
theorem dX0_readReturn_44 : decode cX0_readReturn 44 = .ok (.sipush 303, 3) := by decide +kernel
theorem dX0_readReturn_47 : decode cX0_readReturn 47 = .ok (.if_icmp .ne 7, 3) := by decide +kernel
theorem dX0_readReturn_50 : decode cX0_readReturn 50 = .ok (.iconst 1, 1) := by decide +kernel
theorem dX0_readReturn_51 : decode cX0_readReturn 51 = .ok (.goto 4, 3) := by decide +kernel
theorem dX0_readReturn_54 : decode cX0_readReturn 54 = .ok (.iconst 0, 1) := by decide +kernel
theorem dX0_readReturn_55 : decode cX0_readReturn 55 = .ok (.if_icmp .eq 13, 3) := by decide +kernel
theorem dX0_readReturn_58 : decode cX0_readReturn 58 = .ok (.aload_n 0, 1) := by decide +kernel
theorem dX0_readReturn_59 : decode cX0_readReturn 59 = .ok (.getfield 34, 3) := by decide +kernel
theorem dX0_readReturn_62 : decode cX0_readReturn 62 = .ok (.bipush 7, 2) := by decide +kernel
theorem dX0_readReturn_64 : decode cX0_readReturn 64 = .ok (.iload_n 2, 1) := by decide +kernel
theorem dX0_readReturn_65 : decode cX0_readReturn 65 = .ok (.invokevirtual 69, 3) := by decide +kernel
theorem dX0_readReturn_68 : decode cX0_readReturn 68 = .ok (.iload_n 3, 1) := by decide +kernel
theorem dX0_readReturn_69 : decode cX0_readReturn 69 = .ok (.ifCond .eq 16, 3) := by decide +kernel
theorem dX0_readReturn_72 : decode cX0_readReturn 72 = .ok (.aload_n 0, 1) := by decide +kernel
theorem dX0_readReturn_73 : decode cX0_readReturn 73 = .ok (.getfield 16, 3) := by decide +kernel
theorem dX0_readReturn_76 : decode cX0_readReturn 76 = .ok (.sipush 177, 3) := by decide +kernel
theorem dX0_readReturn_79 : decode cX0_readReturn 79 = .ok (.invokevirtual 147, 3) := by decide +kernel
theorem dX0_readReturn_82 : decode cX0_readReturn 82 = .ok (.goto 76, 3) := by decide +kernel
theorem dX0_readReturn_85 : decode cX0_readReturn 85 = .ok (.aload_n 0, 1) := by decide +kernel
theorem dX0_readReturn_86 : decode cX0_readReturn 86 = .ok (.getfield 61, 3) := by decide +kernel
theorem dX0_readReturn_89 : decode cX0_readReturn 89 = .ok (.iload_n 1, 1) := by decide +kernel
theorem dX0_readReturn_90 : decode cX0_readReturn 90 = .ok (.invokevirtual 242, 3) := by decide +kernel
theorem dX0_readReturn_93 : decode cX0_readReturn 93 = .ok (.aload_n 0, 1) := by decide +kernel
theorem dX0_readReturn_94 : decode cX0_readReturn 94 = .ok (.getfield 46, 3) := by decide +kernel
theorem dX0_readReturn_97 : decode cX0_readReturn 97 = .ok (.aload_n 0, 1) := by decide +kernel
theorem dX0_readReturn_98 : decode cX0_readReturn 98 = .ok (.getfield 61, 3) := by decide +kernel
theorem dX0_readReturn_101 : decode cX0_readReturn 101 = .ok (.getfield 245, 3) := by decide +kernel
theorem dX0_readReturn_104 : decode cX0_readReturn 104 = .ok (.aload_n 0, 1) := by decide +kernel
theorem dX0_readReturn_105 : decode cX0_readReturn 105 = .ok (.getfield 126, 3) := by decide +kernel
theorem dX0_readReturn_108 : decode cX0_readReturn 108 = .ok (.invokevirtual 222, 3) := by decide +kernel
theorem dX0_readReturn_111 : decode cX0_readReturn 111 = .ok (.ifCond .ne 13, 3) := by decide +kernel
theorem dX0_readReturn_114 : decode cX0_readReturn 114 = .ok (.aload_n 0, 1) := by decide +kernel
theorem dX0_readReturn_115 : decode cX0_readReturn 115 = .ok (.getfield 34, 3) := by decide +kernel
theorem dX0_readReturn_118 : decode cX0_readReturn 118 = .ok (.bipush 6, 2) := by decide +kernel
theorem dX0_readReturn_120 : decode cX0_readReturn 120 = .ok (.iload_n 2, 1) := by decide +kernel
theorem dX0_readReturn_121 : decode cX0_readReturn 121 = .ok (.invokevirtual 69, 3) := by decide +kernel
theorem dX0_readReturn_124 : decode cX0_readReturn 124 = .ok (.aload_n 0, 1) := by decide +kernel
theorem dX0_readReturn_125 : decode cX0_readReturn 125 = .ok (.getfield 16, 3) := by decide +kernel
theorem dX0_readReturn_128 : decode cX0_readReturn 128 = .ok (.aload_n 0, 1) := by decide +kernel
theorem dX0_readReturn_129 : decode cX0_readReturn 129 = .ok (.getfield 126, 3) := by decide +kernel
theorem dX0_readReturn_132 : decode cX0_readReturn 132 = .ok (.invokestatic 248, 3) := by decide +kernel
theorem dX0_readReturn_135 : decode cX0_readReturn 135 = .ok (.ifCond .eq 9, 3) := by decide +kernel
theorem dX0_readReturn_138 : decode cX0_readReturn 138 = .ok (.sipush 172, 3) := by decide +kernel
theorem dX0_readReturn_141 : decode cX0_readReturn 141 = .ok (.goto 6, 3) := by decide +kernel
theorem dX0_readReturn_144 : decode cX0_readReturn 144 = .ok (.sipush 176, 3) := by decide +kernel
theorem dX0_readReturn_147 : decode cX0_readReturn 147 = .ok (.invokevirtual 147, 3) := by decide +kernel
theorem dX0_readReturn_150 : decode cX0_readReturn 150 = .ok (.aload_n 0, 1) := by decide +kernel
theorem dX0_readReturn_151 : decode cX0_readReturn 151 = .ok (.getfield 16, 3) := by decide +kernel
theorem dX0_readReturn_154 : decode cX0_readReturn 154 = .ok (.iconst 1, 1) := by decide +kernel
theorem dX0_readReturn_155 : decode cX0_readReturn 155 = .ok (.invokevirtual 251, 3) := by decide +kernel
theorem dX0_readReturn_158 : decode cX0_readReturn 158 = .ok (.aload_n 0, 1) := by decide +kernel
theorem dX0_readReturn_159 : decode cX0_readReturn 159 = .ok (.getfield 34, 3) := by decide +kernel
theorem dX0_readReturn_162 : decode cX0_readReturn 162 = .ok (.dup, 1) := by decide +kernel
theorem dX0_readReturn_163 : decode cX0_readReturn 163 = .ok (.getfield 138, 3) := by decide +kernel
theorem dX0_readReturn_166 : decode cX0_readReturn 166 = .ok (.iconst 1, 1) := by decide +kernel
theorem dX0_readReturn_167 : decode cX0_readReturn 167 = .ok (.iadd, 1) := by decide +kernel
theorem dX0_readReturn_168 : decode cX0_readReturn 168 = .ok (.putfield 138, 3) := by decide +kernel
theorem dX0_readReturn_171 : decode cX0_readReturn 171 = .ok (.iconst 0, 1) := by decide +kernel
theorem dX0_readReturn_172 : decode cX0_readReturn 172 = .ok (.ireturn, 1) := by decide +kernel
theorem mt_X0_readThrow : mx_mt 18 = some (yX0_readThrow, cX0_readThrow, 3, (some .boolean)) := rfl
theorem dX0_readThrow_0 : decode cX0_readThrow 0 = .ok (.aload_n 0, 1) := by decide +kernel
theorem dX0_readThrow_1 : decode cX0_readThrow 1 = .ok (.getfield 34, 3) := by decide +kernel
theorem dX0_readThrow_4 : decode cX0_readThrow 4 = .ok (.getfield 138, 3) := by decide +kernel
theorem dX0_readThrow_7 : decode cX0_readThrow 7 = .ok (.istore_n 2, 1) := by decide +kernel
theorem dX0_readThrow_8 : decode cX0_readThrow 8 = .ok (.aload_n 0, 1) := by decide +kernel
theorem dX0_readThrow_9 : decode cX0_readThrow 9 = .ok (.getfield 34, 3) := by decide +kernel
theorem dX0_readThrow_12 : decode cX0_readThrow 12 = .ok (.dup, 1) := by decide +kernel
theorem dX0_readThrow_13 : decode cX0_readThrow 13 = .ok (.getfield 138, 3) := by decide +kernel
theorem dX0_readThrow_16 : decode cX0_readThrow 16 = .ok (.iconst 1, 1) := by decide +kernel
theorem dX0_readThrow_17 : decode cX0_readThrow 17 = .ok (.iadd, 1) := by decide +kernel
theorem dX0_readThrow_18 : decode cX0_readThrow 18 = .ok (.putfield 138, 3) := by decide +kernel
theorem dX0_readThrow_21 : decode cX0_readThrow 21 = .ok (.aload_n 0, 1) := by decide +kernel
theorem dX0_readThrow_22 : decode cX0_readThrow 22 = .ok (.getfield 61, 3) := by decide +kernel
theorem dX0_readThrow_25 : decode cX0_readThrow 25 = .ok (.iload_n 1, 1) := by decide +kernel
theorem dX0_readThrow_26 : decode cX0_readThrow 26 = .ok (.invokevirtual 242, 3) := by decide +kernel
theorem dX0_readThrow_29 : decode cX0_readThrow 29 = .ok (.aload_n 0, 1) := by decide +kernel
theorem dX0_readThrow_30 : decode cX0_readThrow 30 = .ok (.getfield 46, 3) := by decide +kernel
theorem dX0_readThrow_33 : decode cX0_readThrow 33 = .ok (.aload_n 0, 1) := by decide +kernel
theorem dX0_readThrow_34 : decode cX0_readThrow 34 = .ok (.getfield 61, 3) := by decide +kernel
theorem dX0_readThrow_37 : decode cX0_readThrow 37 = .ok (.getfield 245, 3) := by decide +kernel
theorem dX0_readThrow_40 : decode cX0_readThrow 40 = .ok (.iconst 1, 1) := by decide +kernel
theorem dX0_readThrow_41 : decode cX0_readThrow 41 = .ok (.invokevirtual 222, 3) := by decide +kernel
theorem dX0_readThrow_44 : decode cX0_readThrow 44 = .ok (.ifCond .ne 13, 3) := by decide +kernel
theorem dX0_readThrow_47 : decode cX0_readThrow 47 = .ok (.aload_n 0, 1) := by decide +kernel
theorem dX0_readThrow_48 : decode cX0_readThrow 48 = .ok (.getfield 34, 3) := by decide +kernel
theorem dX0_readThrow_51 : decode cX0_readThrow 51 = .ok (.bipush 6, 2) := by decide +kernel
theorem dX0_readThrow_53 : decode cX0_readThrow 53 = .ok (.iload_n 2, 1) := by decide +kernel
theorem dX0_readThrow_54 : decode cX0_readThrow 54 = .ok (.invokevirtual 69, 3) := by decide +kernel
theorem dX0_readThrow_57 : decode cX0_readThrow 57 = .ok (.aload_n 0, 1) := by decide +kernel
theorem dX0_readThrow_58 : decode cX0_readThrow 58 = .ok (.getfield 16, 3) := by decide +kernel
theorem dX0_readThrow_61 : decode cX0_readThrow 61 = .ok (.sipush 191, 3) := by decide +kernel
theorem dX0_readThrow_64 : decode cX0_readThrow 64 = .ok (.invokevirtual 147, 3) := by decide +kernel
theorem dX0_readThrow_67 : decode cX0_readThrow 67 = .ok (.aload_n 0, 1) := by decide +kernel
theorem dX0_readThrow_68 : decode cX0_readThrow 68 = .ok (.getfield 16, 3) := by decide +kernel
theorem dX0_readThrow_71 : decode cX0_readThrow 71 = .ok (.iconst 1, 1) := by decide +kernel
theorem dX0_readThrow_72 : decode cX0_readThrow 72 = .ok (.invokevirtual 251, 3) := by decide +kernel
theorem dX0_readThrow_75 : decode cX0_readThrow 75 = .ok (.aload_n 0, 1) := by decide +kernel
theorem dX0_readThrow_76 : decode cX0_readThrow 76 = .ok (.getfield 34, 3) := by decide +kernel
theorem dX0_readThrow_79 : decode cX0_readThrow 79 = .ok (.dup, 1) := by decide +kernel
theorem dX0_readThrow_80 : decode cX0_readThrow 80 = .ok (.getfield 138, 3) := by decide +kernel
theorem dX0_readThrow_83 : decode cX0_readThrow 83 = .ok (.iconst 1, 1) := by decide +kernel
theorem dX0_readThrow_84 : decode cX0_readThrow 84 = .ok (.iadd, 1) := by decide +kernel
theorem dX0_readThrow_85 : decode cX0_readThrow 85 = .ok (.putfield 138, 3) := by decide +kernel
theorem dX0_readThrow_88 : decode cX0_readThrow 88 = .ok (.iconst 0, 1) := by decide +kernel
theorem dX0_readThrow_89 : decode cX0_readThrow 89 = .ok (.ireturn, 1) := by decide +kernel
theorem rs_RX0_233 : mx_res RX0 233 = some (1, 248, 1) := by decide +kernel
theorem rs_RX0_239 : mx_res RX0 239 = some (1, 32, 1) := by decide +kernel
theorem mt_X0_checkTwice : mx_mt 16 = some (yX0_checkTwice, cX0_checkTwice, 2, none) := rfl
theorem dX0_checkTwice_0 : decode cX0_checkTwice 0 = .ok (.aload_n 0, 1) := by decide +kernel
theorem dX0_checkTwice_1 : decode cX0_checkTwice 1 = .ok (.getfield 16, 3) := by decide +kernel
theorem dX0_checkTwice_4 : decode cX0_checkTwice 4 = .ok (.aload_n 0, 1) := by decide +kernel
theorem dX0_checkTwice_5 : decode cX0_checkTwice 5 = .ok (.getfield 34, 3) := by decide +kernel
theorem dX0_checkTwice_8 : decode cX0_checkTwice 8 = .ok (.iload_n 1, 1) := by decide +kernel
theorem dX0_checkTwice_9 : decode cX0_checkTwice 9 = .ok (.invokevirtual 233, 3) := by decide +kernel
theorem dX0_checkTwice_12 : decode cX0_checkTwice 12 = .ok (.invokevirtual 239, 3) := by decide +kernel
theorem dX0_checkTwice_15 : decode cX0_checkTwice 15 = .ok (.iconst (-1), 1) := by decide +kernel
theorem dX0_checkTwice_16 : decode cX0_checkTwice 16 = .ok (.if_icmp .eq 12, 3) := by decide +kernel
theorem dX0_checkTwice_19 : decode cX0_checkTwice 19 = .ok (.aload_n 0, 1) := by decide +kernel
theorem dX0_checkTwice_20 : decode cX0_checkTwice 20 = .ok (.getfield 34, 3) := by decide +kernel
theorem dX0_checkTwice_23 : decode cX0_checkTwice 23 = .ok (.iconst 4, 1) := by decide +kernel
theorem dX0_checkTwice_24 : decode cX0_checkTwice 24 = .ok (.iload_n 1, 1) := by decide +kernel
theorem dX0_checkTwice_25 : decode cX0_checkTwice 25 = .ok (.invokevirtual 69, 3) := by decide +kernel
theorem dX0_checkTwice_28 : decode cX0_checkTwice 28 = .ok (.return_, 1) := by decide +kernel
theorem rs_RX1_27 : mx_res RX1 27 = some (0, 1, 9) := by decide +kernel
theorem rs_RX1_55 : mx_res RX1 55 = some (0, 1, 10) := by decide +kernel
theorem ft_1_10 : mx_fty 1 10 = some (.int, false, "ClassMill$Code") := by decide +kernel
theorem mt_X1_addHandler : mx_mt 40 = some (yX1_addHandler, cX1_addHandler, 5, none) := rfl
theorem dX1_addHandler_0 : decode cX1_addHandler 0 = .ok (.aload_n 0, 1) := by decide +kernel
theorem dX1_addHandler_1 : decode cX1_addHandler 1 = .ok (.getfield 55, 3) := by decide +kernel
theorem dX1_addHandler_4 : decode cX1_addHandler 4 = .ok (.bipush 20, 2) := by decide +kernel
theorem dX1_addHandler_6 : decode cX1_addHandler 6 = .ok (.if_icmp .lt 11, 3) := by decide +kernel
theorem dX1_addHandler_9 : decode cX1_addHandler 9 = .ok (.aload_n 0, 1) := by decide +kernel
theorem dX1_addHandler_10 : decode cX1_addHandler 10 = .ok (.iconst 1, 1) := by decide +kernel
theorem dX1_addHandler_11 : decode cX1_addHandler 11 = .ok (.putfield 61, 3) := by decide +kernel
theorem dX1_addHandler_14 : decode cX1_addHandler 14 = .ok (.goto 62, 3) := by decide +kernel
theorem dX1_addHandler_17 : decode cX1_addHandler 17 = .ok (.aload_n 0, 1) := by decide +kernel
theorem dX1_addHandler_18 : decode cX1_addHandler 18 = .ok (.getfield 55, 3) := by decide +kernel
theorem dX1_addHandler_21 : decode cX1_addHandler 21 = .ok (.iconst 4, 1) := by decide +kernel
theorem dX1_addHandler_22 : decode cX1_addHandler 22 = .ok (.imul, 1) := by decide +kernel
theorem dX1_addHandler_23 : decode cX1_addHandler 23 = .ok (.istore 4, 2) := by decide +kernel
theorem dX1_addHandler_25 : decode cX1_addHandler 25 = .ok (.aload_n 0, 1) := by decide +kernel
theorem dX1_addHandler_26 : decode cX1_addHandler 26 = .ok (.getfield 27, 3) := by decide +kernel
theorem dX1_addHandler_29 : decode cX1_addHandler 29 = .ok (.iload 4, 2) := by decide +kernel
theorem dX1_addHandler_31 : decode cX1_addHandler 31 = .ok (.iload_n 1, 1) := by decide +kernel
theorem dX1_addHandler_32 : decode cX1_addHandler 32 = .ok (.iastore, 1) := by decide +kernel
theorem dX1_addHandler_33 : decode cX1_addHandler 33 = .ok (.aload_n 0, 1) := by decide +kernel
theorem dX1_addHandler_34 : decode cX1_addHandler 34 = .ok (.getfield 27, 3) := by decide +kernel
theorem dX1_addHandler_37 : decode cX1_addHandler 37 = .ok (.iload 4, 2) := by decide +kernel
theorem dX1_addHandler_39 : decode cX1_addHandler 39 = .ok (.iconst 1, 1) := by decide +kernel
theorem dX1_addHandler_40 : decode cX1_addHandler 40 = .ok (.iadd, 1) := by decide +kernel
theorem dX1_addHandler_41 : decode cX1_addHandler 41 = .ok (.iload_n 2, 1) := by decide +kernel
theorem dX1_addHandler_42 : decode cX1_addHandler 42 = .ok (.iastore, 1) := by decide +kernel
theorem dX1_addHandler_43 : decode cX1_addHandler 43 = .ok (.aload_n 0, 1) := by decide +kernel
theorem dX1_addHandler_44 : decode cX1_addHandler 44 = .ok (.getfield 27, 3) := by decide +kernel
theorem dX1_addHandler_47 : decode cX1_addHandler 47 = .ok (.iload 4, 2) := by decide +kernel
theorem dX1_addHandler_49 : decode cX1_addHandler 49 = .ok (.iconst 2, 1) := by decide +kernel
theorem dX1_addHandler_50 : decode cX1_addHandler 50 = .ok (.iadd, 1) := by decide +kernel
theorem dX1_addHandler_51 : decode cX1_addHandler 51 = .ok (.aload_n 0, 1) := by decide +kernel
theorem dX1_addHandler_52 : decode cX1_addHandler 52 = .ok (.getfield 39, 3) := by decide +kernel
theorem dX1_addHandler_55 : decode cX1_addHandler 55 = .ok (.iastore, 1) := by decide +kernel
theorem dX1_addHandler_56 : decode cX1_addHandler 56 = .ok (.aload_n 0, 1) := by decide +kernel
theorem dX1_addHandler_57 : decode cX1_addHandler 57 = .ok (.getfield 27, 3) := by decide +kernel
theorem dX1_addHandler_60 : decode cX1_addHandler 60 = .ok (.iload 4, 2) := by decide +kernel
theorem dX1_addHandler_62 : decode cX1_addHandler 62 = .ok (.iconst 3, 1) := by decide +kernel
theorem dX1_addHandler_63 : decode cX1_addHandler 63 = .ok (.iadd, 1) := by decide +kernel
theorem dX1_addHandler_64 : decode cX1_addHandler 64 = .ok (.iload_n 3, 1) := by decide +kernel
theorem dX1_addHandler_65 : decode cX1_addHandler 65 = .ok (.iastore, 1) := by decide +kernel
theorem dX1_addHandler_66 : decode cX1_addHandler 66 = .ok (.aload_n 0, 1) := by decide +kernel
theorem dX1_addHandler_67 : decode cX1_addHandler 67 = .ok (.dup, 1) := by decide +kernel
theorem dX1_addHandler_68 : decode cX1_addHandler 68 = .ok (.getfield 55, 3) := by decide +kernel
theorem dX1_addHandler_71 : decode cX1_addHandler 71 = .ok (.iconst 1, 1) := by decide +kernel
theorem dX1_addHandler_72 : decode cX1_addHandler 72 = .ok (.iadd, 1) := by decide +kernel
theorem dX1_addHandler_73 : decode cX1_addHandler 73 = .ok (.putfield 55, 3) := by decide +kernel
theorem dX1_addHandler_76 : decode cX1_addHandler 76 = .ok (.aload_n 0, 1) := by decide +kernel
theorem dX1_addHandler_77 : decode cX1_addHandler 77 = .ok (.iload_n 3, 1) := by decide +kernel
theorem dX1_addHandler_78 : decode cX1_addHandler 78 = .ok (.invokevirtual 104, 3) := by decide +kernel
theorem dX1_addHandler_81 : decode cX1_addHandler 81 = .ok (.aload_n 0, 1) := by decide +kernel
theorem dX1_addHandler_82 : decode cX1_addHandler 82 = .ok (.aload_n 0, 1) := by decide +kernel
theorem dX1_addHandler_83 : decode cX1_addHandler 83 = .ok (.aload_n 0, 1) := by decide +kernel
theorem dX1_addHandler_84 : decode cX1_addHandler 84 = .ok (.getfield 39, 3) := by decide +kernel
theorem dX1_addHandler_87 : decode cX1_addHandler 87 = .ok (.invokevirtual 96, 3) := by decide +kernel
theorem dX1_addHandler_90 : decode cX1_addHandler 90 = .ok (.aload_n 0, 1) := by decide +kernel
theorem dX1_addHandler_91 : decode cX1_addHandler 91 = .ok (.getfield 49, 3) := by decide +kernel
theorem dX1_addHandler_94 : decode cX1_addHandler 94 = .ok (.aload_n 0, 1) := by decide +kernel
theorem dX1_addHandler_95 : decode cX1_addHandler 95 = .ok (.getfield 43, 3) := by decide +kernel
theorem dX1_addHandler_98 : decode cX1_addHandler 98 = .ok (.invokevirtual 100, 3) := by decide +kernel
theorem dX1_addHandler_101 : decode cX1_addHandler 101 = .ok (.return_, 1) := by decide +kernel
theorem rs_RX1_52 : mx_res RX1 52 = some (0, 1, 8) := by decide +kernel
theorem ft_1_7 : mx_fty 1 7 = some (.int, false, "ClassMill$Code") := by decide +kernel
theorem ft_1_8 : mx_fty 1 8 = some (.int, false, "ClassMill$Code") := by decide +kernel
theorem mt_X1_addLocal : mx_mt 31 = some (yX1_addLocal, cX1_addLocal, 4, (some .int)) := rfl
theorem dX1_addLocal_0 : decode cX1_addLocal 0 = .ok (.aload_n 0, 1) := by decide +kernel
theorem dX1_addLocal_1 : decode cX1_addLocal 1 = .ok (.getfield 49, 3) := by decide +kernel
theorem dX1_addLocal_4 : decode cX1_addLocal 4 = .ok (.istore_n 3, 1) := by decide +kernel
theorem dX1_addLocal_5 : decode cX1_addLocal 5 = .ok (.iload_n 3, 1) := by decide +kernel
theorem dX1_addLocal_6 : decode cX1_addLocal 6 = .ok (.aload_n 0, 1) := by decide +kernel
theorem dX1_addLocal_7 : decode cX1_addLocal 7 = .ok (.getfield 21, 3) := by decide +kernel
theorem dX1_addLocal_10 : decode cX1_addLocal 10 = .ok (.arraylength, 1) := by decide +kernel
theorem dX1_addLocal_11 : decode cX1_addLocal 11 = .ok (.if_icmp .ge 17, 3) := by decide +kernel
theorem dX1_addLocal_14 : decode cX1_addLocal 14 = .ok (.aload_n 0, 1) := by decide +kernel
theorem dX1_addLocal_15 : decode cX1_addLocal 15 = .ok (.getfield 21, 3) := by decide +kernel
theorem dX1_addLocal_18 : decode cX1_addLocal 18 = .ok (.iload_n 3, 1) := by decide +kernel
theorem dX1_addLocal_19 : decode cX1_addLocal 19 = .ok (.iload_n 1, 1) := by decide +kernel
theorem dX1_addLocal_20 : decode cX1_addLocal 20 = .ok (.iastore, 1) := by decide +kernel
theorem dX1_addLocal_21 : decode cX1_addLocal 21 = .ok (.aload_n 0, 1) := by decide +kernel
theorem dX1_addLocal_22 : decode cX1_addLocal 22 = .ok (.getfield 24, 3) := by decide +kernel
theorem dX1_addLocal_25 : decode cX1_addLocal 25 = .ok (.iload_n 3, 1) := by decide +kernel
theorem dX1_addLocal_26 : decode cX1_addLocal 26 = .ok (.iload_n 2, 1) := by decide +kernel
theorem dX1_addLocal_27 : decode cX1_addLocal 27 = .ok (.iastore, 1) := by decide +kernel
theorem dX1_addLocal_28 : decode cX1_addLocal 28 = .ok (.aload_n 0, 1) := by decide +kernel
theorem dX1_addLocal_29 : decode cX1_addLocal 29 = .ok (.dup, 1) := by decide +kernel
theorem dX1_addLocal_30 : decode cX1_addLocal 30 = .ok (.getfield 49, 3) := by decide +kernel
theorem dX1_addLocal_33 : decode cX1_addLocal 33 = .ok (.iconst 1, 1) := by decide +kernel
theorem dX1_addLocal_34 : decode cX1_addLocal 34 = .ok (.iadd, 1) := by decide +kernel
theorem dX1_addLocal_35 : decode cX1_addLocal 35 = .ok (.putfield 49, 3) := by decide +kernel
theorem dX1_addLocal_38 : decode cX1_addLocal 38 = .ok (.aload_n 0, 1) := by decide +kernel
theorem dX1_addLocal_39 : decode cX1_addLocal 39 = .ok (.aload_n 0, 1) := by decide +kernel
theorem dX1_addLocal_40 : decode cX1_addLocal 40 = .ok (.getfield 52, 3) := by decide +kernel
theorem dX1_addLocal_43 : decode cX1_addLocal 43 = .ok (.aload_n 0, 1) := by decide +kernel
theorem dX1_addLocal_44 : decode cX1_addLocal 44 = .ok (.getfield 49, 3) := by decide +kernel
theorem dX1_addLocal_47 : decode cX1_addLocal 47 = .ok (.invokestatic 69, 3) := by decide +kernel
theorem dX1_addLocal_50 : decode cX1_addLocal 50 = .ok (.putfield 52, 3) := by decide +kernel
theorem dX1_addLocal_53 : decode cX1_addLocal 53 = .ok (.iload_n 3, 1) := by decide +kernel
theorem dX1_addLocal_54 : decode cX1_addLocal 54 = .ok (.ireturn, 1) := by decide +kernel
theorem rs_RX2_118 : mx_res RX2 118 = some (0, 9, 10) := by decide +kernel
theorem rs_RX2_121 : mx_res RX2 121 = some (1, 249, 0) := by decide +kernel
theorem rs_RX2_184 : mx_res RX2 184 = some (1, 58, 1) := by decide +kernel
theorem rs_RX2_186 : mx_res RX2 186 = some (1, 245, 2) := by decide +kernel
theorem mt_X2_readType : mx_mt 65 = some (yX2_readType, cX2_readType, 5, (some .int)) := rfl
theorem dX2_readType_0 : decode cX2_readType 0 = .ok (.aload_n 0, 1) := by decide +kernel
theorem dX2_readType_1 : decode cX2_readType 1 = .ok (.getfield 74, 3) := by decide +kernel
theorem dX2_readType_4 : decode cX2_readType 4 = .ok (.invokevirtual 121, 3) := by decide +kernel
theorem dX2_readType_7 : decode cX2_readType 7 = .ok (.istore_n 1, 1) := by decide +kernel
theorem dX2_readType_8 : decode cX2_readType 8 = .ok (.aload_n 0, 1) := by decide +kernel
theorem dX2_readType_9 : decode cX2_readType 9 = .ok (.getfield 74, 3) := by decide +kernel
theorem dX2_readType_12 : decode cX2_readType 12 = .ok (.getfield 118, 3) := by decide +kernel
theorem dX2_readType_15 : decode cX2_readType 15 = .ok (.istore_n 2, 1) := by decide +kernel
theorem dX2_readType_16 : decode cX2_readType 16 = .ok (.aload_n 0, 1) := by decide +kernel
theorem dX2_readType_17 : decode cX2_readType 17 = .ok (.getfield 74, 3) := by decide +kernel
theorem dX2_readType_20 : decode cX2_readType 20 = .ok (.dup, 1) := by decide +kernel
theorem dX2_readType_21 : decode cX2_readType 21 = .ok (.getfield 118, 3) := by decide +kernel
theorem dX2_readType_24 : decode cX2_readType 24 = .ok (.iconst 1, 1) := by decide +kernel
theorem dX2_readType_25 : decode cX2_readType 25 = .ok (.iadd, 1) := by decide +kernel
theorem dX2_readType_26 : decode cX2_readType 26 = .ok (.putfield 118, 3) := by decide +kernel
theorem dX2_readType_29 : decode cX2_readType 29 = .ok (.iload_n 1, 1) := by decide +kernel
theorem dX2_readType_30 : decode cX2_readType 30 = .ok (.bipush 10, 2) := by decide +kernel
theorem dX2_readType_32 : decode cX2_readType 32 = .ok (.if_icmp .ne 7, 3) := by decide +kernel
theorem dX2_readType_35 : decode cX2_readType 35 = .ok (.sipush 302, 3) := by decide +kernel
theorem dX2_readType_38 : decode cX2_readType 38 = .ok (.ireturn, 1) := by decide +kernel
theorem dX2_readType_39 : decode cX2_readType 39 = .ok (.iload_n 1, 1) := by decide +kernel
theorem dX2_readType_40 : decode cX2_readType 40 = .ok (.iconst 2, 1) := by decide +kernel
theorem dX2_readType_41 : decode cX2_readType 41 = .ok (.if_icmp .ne 11, 3) := by decide +kernel
theorem dX2_readType_44 : decode cX2_readType 44 = .ok (.aload_n 0, 1) := by decide +kernel
theorem dX2_readType_45 : decode cX2_readType 45 = .ok (.iload_n 2, 1) := by decide +kernel
theorem dX2_readType_46 : decode cX2_readType 46 = .ok (.invokevirtual 184, 3) := by decide +kernel
theorem dX2_readType_49 : decode cX2_readType 49 = .ok (.goto 4, 3) := by decide +kernel
theorem dX2_readType_52 : decode cX2_readType 52 = .ok (.iconst 0, 1) := by decide +kernel
theorem dX2_readType_53 : decode cX2_readType 53 = .ok (.istore_n 3, 1) := by decide +kernel
theorem dX2_readType_54 : decode cX2_readType 54 = .ok (.iload_n 3, 1) := by decide +kernel
theorem dX2_readType_55 : decode cX2_readType 55 = .ok (.iconst (-1), 1) := by decide +kernel
theorem dX2_readType_56 : decode cX2_readType 56 = .ok (.if_icmp .ne 16, 3) := by decide +kernel
theorem dX2_readType_59 : decode cX2_readType 59 = .ok (.aload_n 0, 1) := by decide +kernel
theorem dX2_readType_60 : decode cX2_readType 60 = .ok (.getfield 74, 3) := by decide +kernel
theorem dX2_readType_63 : decode cX2_readType 63 = .ok (.iconst 5, 1) := by decide +kernel
theorem dX2_readType_64 : decode cX2_readType 64 = .ok (.iload_n 2, 1) := by decide +kernel
theorem dX2_readType_65 : decode cX2_readType 65 = .ok (.invokevirtual 186, 3) := by decide +kernel
theorem dX2_readType_68 : decode cX2_readType 68 = .ok (.sipush 305, 3) := by decide +kernel
theorem dX2_readType_71 : decode cX2_readType 71 = .ok (.ireturn, 1) := by decide +kernel
theorem dX2_readType_72 : decode cX2_readType 72 = .ok (.aload_n 0, 1) := by decide +kernel
theorem dX2_readType_73 : decode cX2_readType 73 = .ok (.getfield 74, 3) := by decide +kernel
theorem dX2_readType_76 : decode cX2_readType 76 = .ok (.invokevirtual 121, 3) := by decide +kernel
theorem dX2_readType_79 : decode cX2_readType 79 = .ok (.bipush 44, 2) := by decide +kernel
theorem dX2_readType_81 : decode cX2_readType 81 = .ok (.if_icmp .ne 7, 3) := by decide +kernel
theorem dX2_readType_84 : decode cX2_readType 84 = .ok (.iconst 1, 1) := by decide +kernel
theorem dX2_readType_85 : decode cX2_readType 85 = .ok (.goto 4, 3) := by decide +kernel
theorem dX2_readType_88 : decode cX2_readType 88 = .ok (.iconst 0, 1) := by decide +kernel
theorem dX2_readType_89 : decode cX2_readType 89 = .ok (.istore 4, 2) := by decide +kernel
theorem dX2_readType_91 : decode cX2_readType 91 = .ok (.iload 4, 2) := by decide +kernel
theorem dX2_readType_93 : decode cX2_readType 93 = .ok (.ifCond .eq 16, 3) := by decide +kernel
theorem dX2_readType_96 : decode cX2_readType 96 = .ok (.aload_n 0, 1) := by decide +kernel
theorem dX2_readType_97 : decode cX2_readType 97 = .ok (.getfield 74, 3) := by decide +kernel
theorem dX2_readType_100 : decode cX2_readType 100 = .ok (.dup, 1) := by decide +kernel
theorem dX2_readType_101 : decode cX2_readType 101 = .ok (.getfield 118, 3) := by decide +kernel
theorem dX2_readType_104 : decode cX2_readType 104 = .ok (.iconst 2, 1) := by decide +kernel
theorem dX2_readType_105 : decode cX2_readType 105 = .ok (.iadd, 1) := by decide +kernel
theorem dX2_readType_106 : decode cX2_readType 106 = .ok (.putfield 118, 3) := by decide +kernel
theorem dX2_readType_109 : decode cX2_readType 109 = .ok (.iload_n 1, 1) := by decide +kernel
theorem dX2_readType_110 : decode cX2_readType 110 = .ok (.bipush 20, 2) := by decide +kernel
theorem dX2_readType_112 : decode cX2_readType 112 = .ok (.if_icmp .ne 18, 3) := by decide +kernel
theorem dX2_readType_115 : decode cX2_readType 115 = .ok (.iload 4, 2) := by decide +kernel
theorem dX2_readType_117 : decode cX2_readType 117 = .ok (.ifCond .eq 9, 3) := by decide +kernel
theorem dX2_readType_120 : decode cX2_readType 120 = .ok (.sipush 200, 3) := by decide +kernel
theorem dX2_readType_123 : decode cX2_readType 123 = .ok (.goto 6, 3) := by decide +kernel
theorem dX2_readType_126 : decode cX2_readType 126 = .ok (.sipush 301, 3) := by decide +kernel
theorem dX2_readType_129 : decode cX2_readType 129 = .ok (.ireturn, 1) := by decide +kernel
theorem dX2_readType_130 : decode cX2_readType 130 = .ok (.iload 4, 2) := by decide +kernel
theorem dX2_readType_132 : decode cX2_readType 132 = .ok (.ifCond .eq 10, 3) := by decide +kernel
theorem dX2_readType_135 : decode cX2_readType 135 = .ok (.bipush 100, 2) := by decide +kernel
theorem dX2_readType_137 : decode cX2_readType 137 = .ok (.iload_n 3, 1) := by decide +kernel
theorem dX2_readType_138 : decode cX2_readType 138 = .ok (.iadd, 1) := by decide +kernel
theorem dX2_readType_139 : decode cX2_readType 139 = .ok (.goto 4, 3) := by decide +kernel
theorem dX2_readType_142 : decode cX2_readType 142 = .ok (.iload_n 3, 1) := by decide +kernel
theorem dX2_readType_143 : decode cX2_readType 143 = .ok (.ireturn, 1) := by decide +kernel
