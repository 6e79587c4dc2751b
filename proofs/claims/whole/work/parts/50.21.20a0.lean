theorem mt_X5_stepGiveField : mx_mt 169 = some (yX5_stepGiveField, cX5_stepGiveField, 5, none) := rfl
theorem dX5_stepGiveField_0 : decode cX5_stepGiveField 0 = .ok (.aload_n 0, 1) := by decide +kernel
theorem dX5_stepGiveField_1 : decode cX5_stepGiveField 1 = .ok (.invokevirtual 154, 3) := by decide +kernel
theorem dX5_stepGiveField_4 : decode cX5_stepGiveField 4 = .ok (.istore_n 2, 1) := by decide +kernel
theorem dX5_stepGiveField_5 : decode cX5_stepGiveField 5 = .ok (.aload_n 0, 1) := by decide +kernel
theorem dX5_stepGiveField_6 : decode cX5_stepGiveField 6 = .ok (.invokevirtual 154, 3) := by decide +kernel
theorem dX5_stepGiveField_9 : decode cX5_stepGiveField 9 = .ok (.istore_n 3, 1) := by decide +kernel
theorem dX5_stepGiveField_10 : decode cX5_stepGiveField 10 = .ok (.aload_n 0, 1) := by decide +kernel
theorem dX5_stepGiveField_11 : decode cX5_stepGiveField 11 = .ok (.iload_n 3, 1) := by decide +kernel
theorem dX5_stepGiveField_12 : decode cX5_stepGiveField 12 = .ok (.aload_n 0, 1) := by decide +kernel
theorem dX5_stepGiveField_13 : decode cX5_stepGiveField 13 = .ok (.iload_n 1, 1) := by decide +kernel
theorem dX5_stepGiveField_14 : decode cX5_stepGiveField 14 = .ok (.invokevirtual 149, 3) := by decide +kernel
theorem dX5_stepGiveField_17 : decode cX5_stepGiveField 17 = .ok (.invokevirtual 243, 3) := by decide +kernel
theorem dX5_stepGiveField_20 : decode cX5_stepGiveField 20 = .ok (.istore 4, 2) := by decide +kernel
theorem dX5_stepGiveField_22 : decode cX5_stepGiveField 22 = .ok (.iload 4, 2) := by decide +kernel
theorem dX5_stepGiveField_24 : decode cX5_stepGiveField 24 = .ok (.iconst (-1), 1) := by decide +kernel
theorem dX5_stepGiveField_25 : decode cX5_stepGiveField 25 = .ok (.if_icmp .ne 12, 3) := by decide +kernel
theorem dX5_stepGiveField_28 : decode cX5_stepGiveField 28 = .ok (.aload_n 0, 1) := by decide +kernel
theorem dX5_stepGiveField_29 : decode cX5_stepGiveField 29 = .ok (.bipush (-2), 2) := by decide +kernel
theorem dX5_stepGiveField_31 : decode cX5_stepGiveField 31 = .ok (.putfield 86, 3) := by decide +kernel
theorem dX5_stepGiveField_34 : decode cX5_stepGiveField 34 = .ok (.goto 16, 3) := by decide +kernel
theorem dX5_stepGiveField_37 : decode cX5_stepGiveField 37 = .ok (.aload_n 0, 1) := by decide +kernel
theorem dX5_stepGiveField_38 : decode cX5_stepGiveField 38 = .ok (.getfield 23, 3) := by decide +kernel
theorem dX5_stepGiveField_41 : decode cX5_stepGiveField 41 = .ok (.iload 4, 2) := by decide +kernel
theorem dX5_stepGiveField_43 : decode cX5_stepGiveField 43 = .ok (.iload_n 2, 1) := by decide +kernel
theorem dX5_stepGiveField_44 : decode cX5_stepGiveField 44 = .ok (.iastore, 1) := by decide +kernel
theorem dX5_stepGiveField_45 : decode cX5_stepGiveField 45 = .ok (.aload_n 0, 1) := by decide +kernel
theorem dX5_stepGiveField_46 : decode cX5_stepGiveField 46 = .ok (.iconst 2, 1) := by decide +kernel
theorem dX5_stepGiveField_47 : decode cX5_stepGiveField 47 = .ok (.invokevirtual 138, 3) := by decide +kernel
theorem dX5_stepGiveField_50 : decode cX5_stepGiveField 50 = .ok (.return_, 1) := by decide +kernel
theorem mt_X5_stepKin : mx_mt 177 = some (yX5_stepKin, cX5_stepKin, 5, none) := rfl
theorem dX5_stepKin_0 : decode cX5_stepKin 0 = .ok (.aload_n 0, 1) := by decide +kernel
theorem dX5_stepKin_1 : decode cX5_stepKin 1 = .ok (.invokevirtual 154, 3) := by decide +kernel
theorem dX5_stepKin_4 : decode cX5_stepKin 4 = .ok (.istore_n 3, 1) := by decide +kernel
theorem dX5_stepKin_5 : decode cX5_stepKin 5 = .ok (.aload_n 0, 1) := by decide +kernel
theorem dX5_stepKin_6 : decode cX5_stepKin 6 = .ok (.iload_n 3, 1) := by decide +kernel
theorem dX5_stepKin_7 : decode cX5_stepKin 7 = .ok (.invokevirtual 226, 3) := by decide +kernel
theorem dX5_stepKin_10 : decode cX5_stepKin 10 = .ok (.ifCond .eq 27, 3) := by decide +kernel
theorem dX5_stepKin_13 : decode cX5_stepKin 13 = .ok (.aload_n 0, 1) := by decide +kernel
theorem dX5_stepKin_14 : decode cX5_stepKin 14 = .ok (.getfield 41, 3) := by decide +kernel
theorem dX5_stepKin_17 : decode cX5_stepKin 17 = .ok (.getfield 232, 3) := by decide +kernel
theorem dX5_stepKin_20 : decode cX5_stepKin 20 = .ok (.aload_n 0, 1) := by decide +kernel
theorem dX5_stepKin_21 : decode cX5_stepKin 21 = .ok (.getfield 17, 3) := by decide +kernel
theorem dX5_stepKin_24 : decode cX5_stepKin 24 = .ok (.iload_n 3, 1) := by decide +kernel
theorem dX5_stepKin_25 : decode cX5_stepKin 25 = .ok (.iaload, 1) := by decide +kernel
theorem dX5_stepKin_26 : decode cX5_stepKin 26 = .ok (.iload_n 2, 1) := by decide +kernel
theorem dX5_stepKin_27 : decode cX5_stepKin 27 = .ok (.invokevirtual 239, 3) := by decide +kernel
theorem dX5_stepKin_30 : decode cX5_stepKin 30 = .ok (.ifCond .eq 7, 3) := by decide +kernel
theorem dX5_stepKin_33 : decode cX5_stepKin 33 = .ok (.iconst 1, 1) := by decide +kernel
theorem dX5_stepKin_34 : decode cX5_stepKin 34 = .ok (.goto 4, 3) := by decide +kernel
theorem dX5_stepKin_37 : decode cX5_stepKin 37 = .ok (.iconst 0, 1) := by decide +kernel
theorem dX5_stepKin_38 : decode cX5_stepKin 38 = .ok (.istore 4, 2) := by decide +kernel
theorem dX5_stepKin_40 : decode cX5_stepKin 40 = .ok (.iload_n 1, 1) := by decide +kernel
theorem dX5_stepKin_41 : decode cX5_stepKin 41 = .ok (.sipush 193, 3) := by decide +kernel
theorem dX5_stepKin_44 : decode cX5_stepKin 44 = .ok (.if_icmp .ne 21, 3) := by decide +kernel
theorem dX5_stepKin_47 : decode cX5_stepKin 47 = .ok (.aload_n 0, 1) := by decide +kernel
theorem dX5_stepKin_48 : decode cX5_stepKin 48 = .ok (.iload 4, 2) := by decide +kernel
theorem dX5_stepKin_50 : decode cX5_stepKin 50 = .ok (.ifCond .eq 7, 3) := by decide +kernel
theorem dX5_stepKin_53 : decode cX5_stepKin 53 = .ok (.iconst 1, 1) := by decide +kernel
theorem dX5_stepKin_54 : decode cX5_stepKin 54 = .ok (.goto 4, 3) := by decide +kernel
theorem dX5_stepKin_57 : decode cX5_stepKin 57 = .ok (.iconst 0, 1) := by decide +kernel
theorem dX5_stepKin_58 : decode cX5_stepKin 58 = .ok (.iconst 2, 1) := by decide +kernel
theorem dX5_stepKin_59 : decode cX5_stepKin 59 = .ok (.invokevirtual 145, 3) := by decide +kernel
theorem dX5_stepKin_62 : decode cX5_stepKin 62 = .ok (.goto 27, 3) := by decide +kernel
theorem dX5_stepKin_65 : decode cX5_stepKin 65 = .ok (.iload_n 3, 1) := by decide +kernel
theorem dX5_stepKin_66 : decode cX5_stepKin 66 = .ok (.ifCond .eq 8, 3) := by decide +kernel
theorem dX5_stepKin_69 : decode cX5_stepKin 69 = .ok (.iload 4, 2) := by decide +kernel
theorem dX5_stepKin_71 : decode cX5_stepKin 71 = .ok (.ifCond .eq 12, 3) := by decide +kernel
theorem dX5_stepKin_74 : decode cX5_stepKin 74 = .ok (.aload_n 0, 1) := by decide +kernel
theorem dX5_stepKin_75 : decode cX5_stepKin 75 = .ok (.iload_n 3, 1) := by decide +kernel
theorem dX5_stepKin_76 : decode cX5_stepKin 76 = .ok (.iconst 2, 1) := by decide +kernel
theorem dX5_stepKin_77 : decode cX5_stepKin 77 = .ok (.invokevirtual 145, 3) := by decide +kernel
theorem dX5_stepKin_80 : decode cX5_stepKin 80 = .ok (.goto 9, 3) := by decide +kernel
theorem dX5_stepKin_83 : decode cX5_stepKin 83 = .ok (.aload_n 0, 1) := by decide +kernel
theorem dX5_stepKin_84 : decode cX5_stepKin 84 = .ok (.bipush (-5), 2) := by decide +kernel
theorem dX5_stepKin_86 : decode cX5_stepKin 86 = .ok (.putfield 86, 3) := by decide +kernel
theorem dX5_stepKin_89 : decode cX5_stepKin 89 = .ok (.return_, 1) := by decide +kernel
theorem mt_X5_stepLength : mx_mt 176 = some (yX5_stepLength, cX5_stepLength, 2, none) := rfl
theorem dX5_stepLength_0 : decode cX5_stepLength 0 = .ok (.aload_n 0, 1) := by decide +kernel
theorem dX5_stepLength_1 : decode cX5_stepLength 1 = .ok (.invokevirtual 154, 3) := by decide +kernel
theorem dX5_stepLength_4 : decode cX5_stepLength 4 = .ok (.istore_n 1, 1) := by decide +kernel
theorem dX5_stepLength_5 : decode cX5_stepLength 5 = .ok (.aload_n 0, 1) := by decide +kernel
theorem dX5_stepLength_6 : decode cX5_stepLength 6 = .ok (.iload_n 1, 1) := by decide +kernel
theorem dX5_stepLength_7 : decode cX5_stepLength 7 = .ok (.invokevirtual 226, 3) := by decide +kernel
theorem dX5_stepLength_10 : decode cX5_stepLength 10 = .ok (.ifCond .eq 26, 3) := by decide +kernel
theorem dX5_stepLength_13 : decode cX5_stepLength 13 = .ok (.aload_n 0, 1) := by decide +kernel
theorem dX5_stepLength_14 : decode cX5_stepLength 14 = .ok (.aload_n 0, 1) := by decide +kernel
theorem dX5_stepLength_15 : decode cX5_stepLength 15 = .ok (.getfield 20, 3) := by decide +kernel
theorem dX5_stepLength_18 : decode cX5_stepLength 18 = .ok (.iload_n 1, 1) := by decide +kernel
theorem dX5_stepLength_19 : decode cX5_stepLength 19 = .ok (.iconst 1, 1) := by decide +kernel
theorem dX5_stepLength_20 : decode cX5_stepLength 20 = .ok (.iadd, 1) := by decide +kernel
theorem dX5_stepLength_21 : decode cX5_stepLength 21 = .ok (.iaload, 1) := by decide +kernel
theorem dX5_stepLength_22 : decode cX5_stepLength 22 = .ok (.aload_n 0, 1) := by decide +kernel
theorem dX5_stepLength_23 : decode cX5_stepLength 23 = .ok (.getfield 20, 3) := by decide +kernel
theorem dX5_stepLength_26 : decode cX5_stepLength 26 = .ok (.iload_n 1, 1) := by decide +kernel
theorem dX5_stepLength_27 : decode cX5_stepLength 27 = .ok (.iaload, 1) := by decide +kernel
theorem dX5_stepLength_28 : decode cX5_stepLength 28 = .ok (.isub, 1) := by decide +kernel
theorem dX5_stepLength_29 : decode cX5_stepLength 29 = .ok (.iconst 1, 1) := by decide +kernel
theorem dX5_stepLength_30 : decode cX5_stepLength 30 = .ok (.invokevirtual 145, 3) := by decide +kernel
theorem dX5_stepLength_33 : decode cX5_stepLength 33 = .ok (.goto 9, 3) := by decide +kernel
theorem dX5_stepLength_36 : decode cX5_stepLength 36 = .ok (.aload_n 0, 1) := by decide +kernel
theorem dX5_stepLength_37 : decode cX5_stepLength 37 = .ok (.bipush (-2), 2) := by decide +kernel
theorem dX5_stepLength_39 : decode cX5_stepLength 39 = .ok (.putfield 86, 3) := by decide +kernel
theorem dX5_stepLength_42 : decode cX5_stepLength 42 = .ok (.return_, 1) := by decide +kernel
theorem rs_RX5_211 : mx_res RX5 211 = some (1, 174, 2) := by decide +kernel
theorem mt_X5_stepNewArray : mx_mt 175 = some (yX5_stepNewArray, cX5_stepNewArray, 3, none) := rfl
theorem dX5_stepNewArray_0 : decode cX5_stepNewArray 0 = .ok (.aload_n 0, 1) := by decide +kernel
theorem dX5_stepNewArray_1 : decode cX5_stepNewArray 1 = .ok (.invokevirtual 154, 3) := by decide +kernel
theorem dX5_stepNewArray_4 : decode cX5_stepNewArray 4 = .ok (.istore_n 2, 1) := by decide +kernel
theorem dX5_stepNewArray_5 : decode cX5_stepNewArray 5 = .ok (.iload_n 2, 1) := by decide +kernel
theorem dX5_stepNewArray_6 : decode cX5_stepNewArray 6 = .ok (.ifCond .ge 12, 3) := by decide +kernel
theorem dX5_stepNewArray_9 : decode cX5_stepNewArray 9 = .ok (.aload_n 0, 1) := by decide +kernel
theorem dX5_stepNewArray_10 : decode cX5_stepNewArray 10 = .ok (.bipush (-6), 2) := by decide +kernel
theorem dX5_stepNewArray_12 : decode cX5_stepNewArray 12 = .ok (.putfield 86, 3) := by decide +kernel
theorem dX5_stepNewArray_15 : decode cX5_stepNewArray 15 = .ok (.goto 9, 3) := by decide +kernel
theorem dX5_stepNewArray_18 : decode cX5_stepNewArray 18 = .ok (.aload_n 0, 1) := by decide +kernel
theorem dX5_stepNewArray_19 : decode cX5_stepNewArray 19 = .ok (.iload_n 1, 1) := by decide +kernel
theorem dX5_stepNewArray_20 : decode cX5_stepNewArray 20 = .ok (.iload_n 2, 1) := by decide +kernel
theorem dX5_stepNewArray_21 : decode cX5_stepNewArray 21 = .ok (.invokevirtual 211, 3) := by decide +kernel
theorem dX5_stepNewArray_24 : decode cX5_stepNewArray 24 = .ok (.return_, 1) := by decide +kernel
theorem mt_X5_stepPrint : mx_mt 172 = some (yX5_stepPrint, cX5_stepPrint, 2, none) := rfl
theorem dX5_stepPrint_0 : decode cX5_stepPrint 0 = .ok (.aload_n 0, 1) := by decide +kernel
theorem dX5_stepPrint_1 : decode cX5_stepPrint 1 = .ok (.invokevirtual 154, 3) := by decide +kernel
theorem dX5_stepPrint_4 : decode cX5_stepPrint 4 = .ok (.istore_n 1, 1) := by decide +kernel
theorem dX5_stepPrint_5 : decode cX5_stepPrint 5 = .ok (.aload_n 0, 1) := by decide +kernel
theorem dX5_stepPrint_6 : decode cX5_stepPrint 6 = .ok (.getfield 69, 3) := by decide +kernel
theorem dX5_stepPrint_9 : decode cX5_stepPrint 9 = .ok (.sipush 1000, 3) := by decide +kernel
theorem dX5_stepPrint_12 : decode cX5_stepPrint 12 = .ok (.if_icmp .ge 13, 3) := by decide +kernel
theorem dX5_stepPrint_15 : decode cX5_stepPrint 15 = .ok (.aload_n 0, 1) := by decide +kernel
theorem dX5_stepPrint_16 : decode cX5_stepPrint 16 = .ok (.getfield 13, 3) := by decide +kernel
theorem dX5_stepPrint_19 : decode cX5_stepPrint 19 = .ok (.aload_n 0, 1) := by decide +kernel
theorem dX5_stepPrint_20 : decode cX5_stepPrint 20 = .ok (.getfield 69, 3) := by decide +kernel
theorem dX5_stepPrint_23 : decode cX5_stepPrint 23 = .ok (.iload_n 1, 1) := by decide +kernel
theorem dX5_stepPrint_24 : decode cX5_stepPrint 24 = .ok (.iastore, 1) := by decide +kernel
theorem dX5_stepPrint_25 : decode cX5_stepPrint 25 = .ok (.aload_n 0, 1) := by decide +kernel
theorem dX5_stepPrint_26 : decode cX5_stepPrint 26 = .ok (.dup, 1) := by decide +kernel
theorem dX5_stepPrint_27 : decode cX5_stepPrint 27 = .ok (.getfield 69, 3) := by decide +kernel
theorem dX5_stepPrint_30 : decode cX5_stepPrint 30 = .ok (.iconst 1, 1) := by decide +kernel
theorem dX5_stepPrint_31 : decode cX5_stepPrint 31 = .ok (.iadd, 1) := by decide +kernel
theorem dX5_stepPrint_32 : decode cX5_stepPrint 32 = .ok (.putfield 69, 3) := by decide +kernel
theorem dX5_stepPrint_35 : decode cX5_stepPrint 35 = .ok (.aload_n 0, 1) := by decide +kernel
theorem dX5_stepPrint_36 : decode cX5_stepPrint 36 = .ok (.iconst 1, 1) := by decide +kernel
theorem dX5_stepPrint_37 : decode cX5_stepPrint 37 = .ok (.invokevirtual 138, 3) := by decide +kernel
theorem dX5_stepPrint_40 : decode cX5_stepPrint 40 = .ok (.return_, 1) := by decide +kernel
theorem mt_X5_stepReturn : mx_mt 171 = some (yX5_stepReturn, cX5_stepReturn, 3, none) := rfl
theorem dX5_stepReturn_0 : decode cX5_stepReturn 0 = .ok (.iload_n 1, 1) := by decide +kernel
theorem dX5_stepReturn_1 : decode cX5_stepReturn 1 = .ok (.sipush 177, 3) := by decide +kernel
theorem dX5_stepReturn_4 : decode cX5_stepReturn 4 = .ok (.if_icmp .ne 7, 3) := by decide +kernel
theorem dX5_stepReturn_7 : decode cX5_stepReturn 7 = .ok (.iconst 0, 1) := by decide +kernel
theorem dX5_stepReturn_8 : decode cX5_stepReturn 8 = .ok (.goto 7, 3) := by decide +kernel
theorem dX5_stepReturn_11 : decode cX5_stepReturn 11 = .ok (.aload_n 0, 1) := by decide +kernel
theorem dX5_stepReturn_12 : decode cX5_stepReturn 12 = .ok (.invokevirtual 154, 3) := by decide +kernel
theorem dX5_stepReturn_15 : decode cX5_stepReturn 15 = .ok (.istore_n 2, 1) := by decide +kernel
theorem dX5_stepReturn_16 : decode cX5_stepReturn 16 = .ok (.aload_n 0, 1) := by decide +kernel
theorem dX5_stepReturn_17 : decode cX5_stepReturn 17 = .ok (.dup, 1) := by decide +kernel
theorem dX5_stepReturn_18 : decode cX5_stepReturn 18 = .ok (.getfield 66, 3) := by decide +kernel
theorem dX5_stepReturn_21 : decode cX5_stepReturn 21 = .ok (.iconst 1, 1) := by decide +kernel
theorem dX5_stepReturn_22 : decode cX5_stepReturn 22 = .ok (.isub, 1) := by decide +kernel
theorem dX5_stepReturn_23 : decode cX5_stepReturn 23 = .ok (.putfield 66, 3) := by decide +kernel
theorem dX5_stepReturn_26 : decode cX5_stepReturn 26 = .ok (.aload_n 0, 1) := by decide +kernel
theorem dX5_stepReturn_27 : decode cX5_stepReturn 27 = .ok (.getfield 66, 3) := by decide +kernel
theorem dX5_stepReturn_30 : decode cX5_stepReturn 30 = .ok (.ifCond .le 25, 3) := by decide +kernel
theorem dX5_stepReturn_33 : decode cX5_stepReturn 33 = .ok (.aload_n 0, 1) := by decide +kernel
theorem dX5_stepReturn_34 : decode cX5_stepReturn 34 = .ok (.invokevirtual 112, 3) := by decide +kernel
theorem dX5_stepReturn_37 : decode cX5_stepReturn 37 = .ok (.aload_n 0, 1) := by decide +kernel
theorem dX5_stepReturn_38 : decode cX5_stepReturn 38 = .ok (.iconst 2, 1) := by decide +kernel
theorem dX5_stepReturn_39 : decode cX5_stepReturn 39 = .ok (.invokevirtual 138, 3) := by decide +kernel
theorem dX5_stepReturn_42 : decode cX5_stepReturn 42 = .ok (.iload_n 1, 1) := by decide +kernel
theorem dX5_stepReturn_43 : decode cX5_stepReturn 43 = .ok (.sipush 177, 3) := by decide +kernel
theorem dX5_stepReturn_46 : decode cX5_stepReturn 46 = .ok (.if_icmp .eq 8, 3) := by decide +kernel
theorem dX5_stepReturn_49 : decode cX5_stepReturn 49 = .ok (.aload_n 0, 1) := by decide +kernel
theorem dX5_stepReturn_50 : decode cX5_stepReturn 50 = .ok (.iload_n 2, 1) := by decide +kernel
theorem dX5_stepReturn_51 : decode cX5_stepReturn 51 = .ok (.invokevirtual 135, 3) := by decide +kernel
theorem dX5_stepReturn_54 : decode cX5_stepReturn 54 = .ok (.return_, 1) := by decide +kernel
theorem dX5_stepReturn_55 : decode cX5_stepReturn 55 = .ok (.aload_n 0, 1) := by decide +kernel
theorem dX5_stepReturn_56 : decode cX5_stepReturn 56 = .ok (.iconst 2, 1) := by decide +kernel
theorem dX5_stepReturn_57 : decode cX5_stepReturn 57 = .ok (.putfield 54, 3) := by decide +kernel
theorem dX5_stepReturn_60 : decode cX5_stepReturn 60 = .ok (.aload_n 0, 1) := by decide +kernel
theorem dX5_stepReturn_61 : decode cX5_stepReturn 61 = .ok (.iload_n 1, 1) := by decide +kernel
theorem dX5_stepReturn_62 : decode cX5_stepReturn 62 = .ok (.sipush 172, 3) := by decide +kernel
theorem dX5_stepReturn_65 : decode cX5_stepReturn 65 = .ok (.if_icmp .ne 7, 3) := by decide +kernel
theorem dX5_stepReturn_68 : decode cX5_stepReturn 68 = .ok (.iload_n 2, 1) := by decide +kernel
theorem dX5_stepReturn_69 : decode cX5_stepReturn 69 = .ok (.goto 21, 3) := by decide +kernel
theorem dX5_stepReturn_72 : decode cX5_stepReturn 72 = .ok (.aload_n 0, 1) := by decide +kernel
theorem dX5_stepReturn_73 : decode cX5_stepReturn 73 = .ok (.iload_n 2, 1) := by decide +kernel
theorem dX5_stepReturn_74 : decode cX5_stepReturn 74 = .ok (.invokevirtual 226, 3) := by decide +kernel
theorem dX5_stepReturn_77 : decode cX5_stepReturn 77 = .ok (.ifCond .eq 12, 3) := by decide +kernel
theorem dX5_stepReturn_80 : decode cX5_stepReturn 80 = .ok (.aload_n 0, 1) := by decide +kernel
theorem dX5_stepReturn_81 : decode cX5_stepReturn 81 = .ok (.getfield 17, 3) := by decide +kernel
theorem dX5_stepReturn_84 : decode cX5_stepReturn 84 = .ok (.iload_n 2, 1) := by decide +kernel
theorem dX5_stepReturn_85 : decode cX5_stepReturn 85 = .ok (.iaload, 1) := by decide +kernel
theorem dX5_stepReturn_86 : decode cX5_stepReturn 86 = .ok (.goto 4, 3) := by decide +kernel
theorem dX5_stepReturn_89 : decode cX5_stepReturn 89 = .ok (.iconst (-1), 1) := by decide +kernel
theorem dX5_stepReturn_90 : decode cX5_stepReturn 90 = .ok (.putfield 50, 3) := by decide +kernel
theorem dX5_stepReturn_93 : decode cX5_stepReturn 93 = .ok (.return_, 1) := by decide +kernel
theorem mt_X5_stepThrow : mx_mt 178 = some (yX5_stepThrow, cX5_stepThrow, 2, none) := rfl
theorem dX5_stepThrow_0 : decode cX5_stepThrow 0 = .ok (.aload_n 0, 1) := by decide +kernel
theorem dX5_stepThrow_1 : decode cX5_stepThrow 1 = .ok (.invokevirtual 154, 3) := by decide +kernel
theorem dX5_stepThrow_4 : decode cX5_stepThrow 4 = .ok (.istore_n 1, 1) := by decide +kernel
theorem dX5_stepThrow_5 : decode cX5_stepThrow 5 = .ok (.aload_n 0, 1) := by decide +kernel
theorem dX5_stepThrow_6 : decode cX5_stepThrow 6 = .ok (.iload_n 1, 1) := by decide +kernel
theorem dX5_stepThrow_7 : decode cX5_stepThrow 7 = .ok (.ifCond .ne 8, 3) := by decide +kernel
theorem dX5_stepThrow_10 : decode cX5_stepThrow 10 = .ok (.bipush (-2), 2) := by decide +kernel
theorem dX5_stepThrow_12 : decode cX5_stepThrow 12 = .ok (.goto 4, 3) := by decide +kernel
theorem dX5_stepThrow_15 : decode cX5_stepThrow 15 = .ok (.iload_n 1, 1) := by decide +kernel
theorem dX5_stepThrow_16 : decode cX5_stepThrow 16 = .ok (.putfield 86, 3) := by decide +kernel
theorem dX5_stepThrow_19 : decode cX5_stepThrow 19 = .ok (.return_, 1) := by decide +kernel
theorem rs_RX7_175 : mx_res RX7 175 = some (2, 134, 1) := by decide +kernel
theorem mt_X7_cellsOf : mx_mt 217 = some (yX7_cellsOf, cX7_cellsOf, 2, (some .int)) := rfl
theorem dX7_cellsOf_0 : decode cX7_cellsOf 0 = .ok (.iload_n 1, 1) := by decide +kernel
theorem dX7_cellsOf_1 : decode cX7_cellsOf 1 = .ok (.invokestatic 175, 3) := by decide +kernel
theorem dX7_cellsOf_4 : decode cX7_cellsOf 4 = .ok (.ifCond .eq 12, 3) := by decide +kernel
theorem dX7_cellsOf_7 : decode cX7_cellsOf 7 = .ok (.aload_n 0, 1) := by decide +kernel
theorem dX7_cellsOf_8 : decode cX7_cellsOf 8 = .ok (.getfield 35, 3) := by decide +kernel
theorem dX7_cellsOf_11 : decode cX7_cellsOf 11 = .ok (.iload_n 1, 1) := by decide +kernel
theorem dX7_cellsOf_12 : decode cX7_cellsOf 12 = .ok (.iaload, 1) := by decide +kernel
theorem dX7_cellsOf_13 : decode cX7_cellsOf 13 = .ok (.goto 4, 3) := by decide +kernel
theorem dX7_cellsOf_16 : decode cX7_cellsOf 16 = .ok (.iconst 0, 1) := by decide +kernel
theorem dX7_cellsOf_17 : decode cX7_cellsOf 17 = .ok (.ireturn, 1) := by decide +kernel
theorem rs_RX5_187 : mx_res RX5 187 = some (1, 165, 0) := by decide +kernel
theorem rs_RX5_190 : mx_res RX5 190 = some (1, 166, 1) := by decide +kernel
theorem rs_RX5_193 : mx_res RX5 193 = some (1, 171, 1) := by decide +kernel
theorem rs_RX5_196 : mx_res RX5 196 = some (1, 168, 1) := by decide +kernel
theorem rs_RX5_199 : mx_res RX5 199 = some (1, 169, 1) := by decide +kernel
theorem rs_RX5_202 : mx_res RX5 202 = some (1, 170, 2) := by decide +kernel
theorem rs_RX5_205 : mx_res RX5 205 = some (1, 172, 0) := by decide +kernel
theorem rs_RX5_208 : mx_res RX5 208 = some (1, 217, 1) := by decide +kernel
theorem rs_RX5_214 : mx_res RX5 214 = some (1, 175, 1) := by decide +kernel
theorem rs_RX5_217 : mx_res RX5 217 = some (1, 176, 0) := by decide +kernel
theorem rs_RX5_220 : mx_res RX5 220 = some (1, 178, 0) := by decide +kernel
theorem rs_RX5_223 : mx_res RX5 223 = some (1, 177, 2) := by decide +kernel
theorem mt_X5_stepObject : mx_mt 162 = some (yX5_stepObject, cX5_stepObject, 3, none) := rfl
theorem dX5_stepObject_0 : decode cX5_stepObject 0 = .ok (.iload_n 1, 1) := by decide +kernel
theorem dX5_stepObject_1 : decode cX5_stepObject 1 = .ok (.lookupswitch 297 #[(46, 163), (50, 163), (79, 170), (83, 170), (172, 178), (176, 178), (177, 178), (180, 186), (181, 194), (182, 202), (184, 202), (186, 211), (187, 218), (188, 242), (189, 242), (190, 270), (191, 277), (192, 284), (193, 284)], 163) := by decide +kernel
theorem dX5_stepObject_164 : decode cX5_stepObject 164 = .ok (.aload_n 0, 1) := by decide +kernel
theorem dX5_stepObject_165 : decode cX5_stepObject 165 = .ok (.invokevirtual 187, 3) := by decide +kernel
theorem dX5_stepObject_168 : decode cX5_stepObject 168 = .ok (.goto 136, 3) := by decide +kernel
theorem dX5_stepObject_171 : decode cX5_stepObject 171 = .ok (.aload_n 0, 1) := by decide +kernel
theorem dX5_stepObject_172 : decode cX5_stepObject 172 = .ok (.iload_n 1, 1) := by decide +kernel
theorem dX5_stepObject_173 : decode cX5_stepObject 173 = .ok (.invokevirtual 190, 3) := by decide +kernel
theorem dX5_stepObject_176 : decode cX5_stepObject 176 = .ok (.goto 128, 3) := by decide +kernel
theorem dX5_stepObject_179 : decode cX5_stepObject 179 = .ok (.aload_n 0, 1) := by decide +kernel
theorem dX5_stepObject_180 : decode cX5_stepObject 180 = .ok (.iload_n 1, 1) := by decide +kernel
theorem dX5_stepObject_181 : decode cX5_stepObject 181 = .ok (.invokevirtual 193, 3) := by decide +kernel
theorem dX5_stepObject_184 : decode cX5_stepObject 184 = .ok (.goto 120, 3) := by decide +kernel
theorem dX5_stepObject_187 : decode cX5_stepObject 187 = .ok (.aload_n 0, 1) := by decide +kernel
theorem dX5_stepObject_188 : decode cX5_stepObject 188 = .ok (.iload_n 2, 1) := by decide +kernel
theorem dX5_stepObject_189 : decode cX5_stepObject 189 = .ok (.invokevirtual 196, 3) := by decide +kernel
theorem dX5_stepObject_192 : decode cX5_stepObject 192 = .ok (.goto 112, 3) := by decide +kernel
theorem dX5_stepObject_195 : decode cX5_stepObject 195 = .ok (.aload_n 0, 1) := by decide +kernel
theorem dX5_stepObject_196 : decode cX5_stepObject 196 = .ok (.iload_n 2, 1) := by decide +kernel
theorem dX5_stepObject_197 : decode cX5_stepObject 197 = .ok (.invokevirtual 199, 3) := by decide +kernel
theorem dX5_stepObject_200 : decode cX5_stepObject 200 = .ok (.goto 104, 3) := by decide +kernel
theorem dX5_stepObject_203 : decode cX5_stepObject 203 = .ok (.aload_n 0, 1) := by decide +kernel
theorem dX5_stepObject_204 : decode cX5_stepObject 204 = .ok (.iload_n 1, 1) := by decide +kernel
theorem dX5_stepObject_205 : decode cX5_stepObject 205 = .ok (.iload_n 2, 1) := by decide +kernel
theorem dX5_stepObject_206 : decode cX5_stepObject 206 = .ok (.invokevirtual 202, 3) := by decide +kernel
theorem dX5_stepObject_209 : decode cX5_stepObject 209 = .ok (.goto 95, 3) := by decide +kernel
theorem dX5_stepObject_212 : decode cX5_stepObject 212 = .ok (.aload_n 0, 1) := by decide +kernel
theorem dX5_stepObject_213 : decode cX5_stepObject 213 = .ok (.invokevirtual 205, 3) := by decide +kernel
theorem dX5_stepObject_216 : decode cX5_stepObject 216 = .ok (.goto 88, 3) := by decide +kernel
theorem dX5_stepObject_219 : decode cX5_stepObject 219 = .ok (.aload_n 0, 1) := by decide +kernel
theorem dX5_stepObject_220 : decode cX5_stepObject 220 = .ok (.aload_n 0, 1) := by decide +kernel
theorem dX5_stepObject_221 : decode cX5_stepObject 221 = .ok (.iload_n 2, 1) := by decide +kernel
theorem dX5_stepObject_222 : decode cX5_stepObject 222 = .ok (.invokevirtual 149, 3) := by decide +kernel
theorem dX5_stepObject_225 : decode cX5_stepObject 225 = .ok (.aload_n 0, 1) := by decide +kernel
theorem dX5_stepObject_226 : decode cX5_stepObject 226 = .ok (.getfield 41, 3) := by decide +kernel
theorem dX5_stepObject_229 : decode cX5_stepObject 229 = .ok (.aload_n 0, 1) := by decide +kernel
theorem dX5_stepObject_230 : decode cX5_stepObject 230 = .ok (.iload_n 2, 1) := by decide +kernel
theorem dX5_stepObject_231 : decode cX5_stepObject 231 = .ok (.invokevirtual 149, 3) := by decide +kernel
theorem dX5_stepObject_234 : decode cX5_stepObject 234 = .ok (.invokevirtual 208, 3) := by decide +kernel
theorem dX5_stepObject_237 : decode cX5_stepObject 237 = .ok (.invokevirtual 211, 3) := by decide +kernel
theorem dX5_stepObject_240 : decode cX5_stepObject 240 = .ok (.goto 64, 3) := by decide +kernel
theorem dX5_stepObject_243 : decode cX5_stepObject 243 = .ok (.aload_n 0, 1) := by decide +kernel
theorem dX5_stepObject_244 : decode cX5_stepObject 244 = .ok (.iload_n 1, 1) := by decide +kernel
theorem dX5_stepObject_245 : decode cX5_stepObject 245 = .ok (.sipush 188, 3) := by decide +kernel
theorem dX5_stepObject_248 : decode cX5_stepObject 248 = .ok (.if_icmp .ne 9, 3) := by decide +kernel
theorem dX5_stepObject_251 : decode cX5_stepObject 251 = .ok (.sipush 200, 3) := by decide +kernel
theorem dX5_stepObject_254 : decode cX5_stepObject 254 = .ok (.goto 11, 3) := by decide +kernel
theorem dX5_stepObject_257 : decode cX5_stepObject 257 = .ok (.bipush 100, 2) := by decide +kernel
theorem dX5_stepObject_259 : decode cX5_stepObject 259 = .ok (.aload_n 0, 1) := by decide +kernel
theorem dX5_stepObject_260 : decode cX5_stepObject 260 = .ok (.iload_n 2, 1) := by decide +kernel
theorem dX5_stepObject_261 : decode cX5_stepObject 261 = .ok (.invokevirtual 149, 3) := by decide +kernel
theorem dX5_stepObject_264 : decode cX5_stepObject 264 = .ok (.iadd, 1) := by decide +kernel
theorem dX5_stepObject_265 : decode cX5_stepObject 265 = .ok (.invokevirtual 214, 3) := by decide +kernel
theorem dX5_stepObject_268 : decode cX5_stepObject 268 = .ok (.goto 36, 3) := by decide +kernel
theorem dX5_stepObject_271 : decode cX5_stepObject 271 = .ok (.aload_n 0, 1) := by decide +kernel
theorem dX5_stepObject_272 : decode cX5_stepObject 272 = .ok (.invokevirtual 217, 3) := by decide +kernel
theorem dX5_stepObject_275 : decode cX5_stepObject 275 = .ok (.goto 29, 3) := by decide +kernel
theorem dX5_stepObject_278 : decode cX5_stepObject 278 = .ok (.aload_n 0, 1) := by decide +kernel
theorem dX5_stepObject_279 : decode cX5_stepObject 279 = .ok (.invokevirtual 220, 3) := by decide +kernel
theorem dX5_stepObject_282 : decode cX5_stepObject 282 = .ok (.goto 22, 3) := by decide +kernel
theorem dX5_stepObject_285 : decode cX5_stepObject 285 = .ok (.aload_n 0, 1) := by decide +kernel
theorem dX5_stepObject_286 : decode cX5_stepObject 286 = .ok (.iload_n 1, 1) := by decide +kernel
theorem dX5_stepObject_287 : decode cX5_stepObject 287 = .ok (.aload_n 0, 1) := by decide +kernel
theorem dX5_stepObject_288 : decode cX5_stepObject 288 = .ok (.iload_n 2, 1) := by decide +kernel
theorem dX5_stepObject_289 : decode cX5_stepObject 289 = .ok (.invokevirtual 149, 3) := by decide +kernel
theorem dX5_stepObject_292 : decode cX5_stepObject 292 = .ok (.invokevirtual 223, 3) := by decide +kernel
theorem dX5_stepObject_295 : decode cX5_stepObject 295 = .ok (.goto 9, 3) := by decide +kernel
theorem dX5_stepObject_298 : decode cX5_stepObject 298 = .ok (.aload_n 0, 1) := by decide +kernel
theorem dX5_stepObject_299 : decode cX5_stepObject 299 = .ok (.bipush 6, 2) := by decide +kernel
theorem dX5_stepObject_301 : decode cX5_stepObject 301 = .ok (.putfield 54, 3) := by decide +kernel
theorem dX5_stepObject_304 : decode cX5_stepObject 304 = .ok (.return_, 1) := by decide +kernel
theorem rs_RX5_141 : mx_res RX5 141 = some (1, 103, 1) := by decide +kernel
theorem rs_RX5_151 : mx_res RX5 151 = some (1, 157, 2) := by decide +kernel
theorem rs_RX5_158 : mx_res RX5 158 = some (2, 321, 1) := by decide +kernel
theorem rs_RX5_164 : mx_res RX5 164 = some (1, 160, 2) := by decide +kernel
theorem rs_RX5_167 : mx_res RX5 167 = some (2, 322, 1) := by decide +kernel
theorem rs_RX5_170 : mx_res RX5 170 = some (1, 158, 1) := by decide +kernel
theorem rs_RX5_173 : mx_res RX5 173 = some (1, 162, 2) := by decide +kernel
theorem mt_X5_step : mx_mt 156 = some (yX5_step, cX5_step, 5, none) := rfl
theorem dX5_step_0 : decode cX5_step 0 = .ok (.aload_n 0, 1) := by decide +kernel
theorem dX5_step_1 : decode cX5_step 1 = .ok (.getfield 29, 3) := by decide +kernel
theorem dX5_step_4 : decode cX5_step 4 = .ok (.aload_n 0, 1) := by decide +kernel
theorem dX5_step_5 : decode cX5_step 5 = .ok (.getfield 97, 3) := by decide +kernel
theorem dX5_step_8 : decode cX5_step 8 = .ok (.iaload, 1) := by decide +kernel
theorem dX5_step_9 : decode cX5_step 9 = .ok (.istore_n 1, 1) := by decide +kernel
theorem dX5_step_10 : decode cX5_step 10 = .ok (.aload_n 0, 1) := by decide +kernel
theorem dX5_step_11 : decode cX5_step 11 = .ok (.getfield 46, 3) := by decide +kernel
theorem dX5_step_14 : decode cX5_step 14 = .ok (.aload_n 0, 1) := by decide +kernel
theorem dX5_step_15 : decode cX5_step 15 = .ok (.getfield 129, 3) := by decide +kernel
theorem dX5_step_18 : decode cX5_step 18 = .ok (.iload_n 1, 1) := by decide +kernel
theorem dX5_step_19 : decode cX5_step 19 = .ok (.iadd, 1) := by decide +kernel
theorem dX5_step_20 : decode cX5_step 20 = .ok (.invokevirtual 141, 3) := by decide +kernel
theorem dX5_step_23 : decode cX5_step 23 = .ok (.istore_n 2, 1) := by decide +kernel
theorem dX5_step_24 : decode cX5_step 24 = .ok (.aload_n 0, 1) := by decide +kernel
theorem dX5_step_25 : decode cX5_step 25 = .ok (.getfield 46, 3) := by decide +kernel
theorem dX5_step_28 : decode cX5_step 28 = .ok (.aload_n 0, 1) := by decide +kernel
theorem dX5_step_29 : decode cX5_step 29 = .ok (.getfield 129, 3) := by decide +kernel
theorem dX5_step_32 : decode cX5_step 32 = .ok (.iload_n 1, 1) := by decide +kernel
theorem dX5_step_33 : decode cX5_step 33 = .ok (.iadd, 1) := by decide +kernel
theorem dX5_step_34 : decode cX5_step 34 = .ok (.iconst 1, 1) := by decide +kernel
theorem dX5_step_35 : decode cX5_step 35 = .ok (.iadd, 1) := by decide +kernel
theorem dX5_step_36 : decode cX5_step 36 = .ok (.invokevirtual 141, 3) := by decide +kernel
theorem dX5_step_39 : decode cX5_step 39 = .ok (.istore_n 3, 1) := by decide +kernel
theorem dX5_step_40 : decode cX5_step 40 = .ok (.iload_n 2, 1) := by decide +kernel
theorem dX5_step_41 : decode cX5_step 41 = .ok (.lookupswitch 263 #[(0, 155), (1, 163), (2, 172), (3, 172), (4, 172), (5, 172), (6, 172), (7, 172), (8, 172), (16, 183), (18, 193), (21, 206), (25, 206), (54, 206), (58, 206), (87, 215), (89, 228), (116, 250)], 155) := by decide +kernel
theorem dX5_step_196 : decode cX5_step 196 = .ok (.aload_n 0, 1) := by decide +kernel
theorem dX5_step_197 : decode cX5_step 197 = .ok (.iconst 1, 1) := by decide +kernel
theorem dX5_step_198 : decode cX5_step 198 = .ok (.invokevirtual 138, 3) := by decide +kernel
theorem dX5_step_201 : decode cX5_step 201 = .ok (.goto 140, 3) := by decide +kernel
theorem dX5_step_204 : decode cX5_step 204 = .ok (.aload_n 0, 1) := by decide +kernel
theorem dX5_step_205 : decode cX5_step 205 = .ok (.iconst 0, 1) := by decide +kernel
theorem dX5_step_206 : decode cX5_step 206 = .ok (.iconst 1, 1) := by decide +kernel
theorem dX5_step_207 : decode cX5_step 207 = .ok (.invokevirtual 145, 3) := by decide +kernel
theorem dX5_step_210 : decode cX5_step 210 = .ok (.goto 131, 3) := by decide +kernel
theorem dX5_step_213 : decode cX5_step 213 = .ok (.aload_n 0, 1) := by decide +kernel
theorem dX5_step_214 : decode cX5_step 214 = .ok (.iload_n 2, 1) := by decide +kernel
theorem dX5_step_215 : decode cX5_step 215 = .ok (.iconst 3, 1) := by decide +kernel
theorem dX5_step_216 : decode cX5_step 216 = .ok (.isub, 1) := by decide +kernel
theorem dX5_step_217 : decode cX5_step 217 = .ok (.iconst 1, 1) := by decide +kernel
theorem dX5_step_218 : decode cX5_step 218 = .ok (.invokevirtual 145, 3) := by decide +kernel
theorem dX5_step_221 : decode cX5_step 221 = .ok (.goto 120, 3) := by decide +kernel
theorem dX5_step_224 : decode cX5_step 224 = .ok (.aload_n 0, 1) := by decide +kernel
theorem dX5_step_225 : decode cX5_step 225 = .ok (.iload_n 3, 1) := by decide +kernel
theorem dX5_step_226 : decode cX5_step 226 = .ok (.i2b, 1) := by decide +kernel
theorem dX5_step_227 : decode cX5_step 227 = .ok (.iconst 2, 1) := by decide +kernel
theorem dX5_step_228 : decode cX5_step 228 = .ok (.invokevirtual 145, 3) := by decide +kernel
theorem dX5_step_231 : decode cX5_step 231 = .ok (.goto 110, 3) := by decide +kernel
theorem dX5_step_234 : decode cX5_step 234 = .ok (.aload_n 0, 1) := by decide +kernel
theorem dX5_step_235 : decode cX5_step 235 = .ok (.aload_n 0, 1) := by decide +kernel
theorem dX5_step_236 : decode cX5_step 236 = .ok (.iload_n 3, 1) := by decide +kernel
theorem dX5_step_237 : decode cX5_step 237 = .ok (.invokevirtual 149, 3) := by decide +kernel
theorem dX5_step_240 : decode cX5_step 240 = .ok (.iconst 2, 1) := by decide +kernel
theorem dX5_step_241 : decode cX5_step 241 = .ok (.invokevirtual 145, 3) := by decide +kernel
theorem dX5_step_244 : decode cX5_step 244 = .ok (.goto 97, 3) := by decide +kernel
theorem dX5_step_247 : decode cX5_step 247 = .ok (.aload_n 0, 1) := by decide +kernel
theorem dX5_step_248 : decode cX5_step 248 = .ok (.iload_n 2, 1) := by decide +kernel
theorem dX5_step_249 : decode cX5_step 249 = .ok (.iload_n 3, 1) := by decide +kernel
theorem dX5_step_250 : decode cX5_step 250 = .ok (.invokevirtual 151, 3) := by decide +kernel
theorem dX5_step_253 : decode cX5_step 253 = .ok (.goto 88, 3) := by decide +kernel
theorem dX5_step_256 : decode cX5_step 256 = .ok (.aload_n 0, 1) := by decide +kernel
theorem dX5_step_257 : decode cX5_step 257 = .ok (.invokevirtual 154, 3) := by decide +kernel
theorem dX5_step_260 : decode cX5_step 260 = .ok (.pop, 1) := by decide +kernel
theorem dX5_step_261 : decode cX5_step 261 = .ok (.aload_n 0, 1) := by decide +kernel
theorem dX5_step_262 : decode cX5_step 262 = .ok (.iconst 1, 1) := by decide +kernel
theorem dX5_step_263 : decode cX5_step 263 = .ok (.invokevirtual 138, 3) := by decide +kernel
theorem dX5_step_266 : decode cX5_step 266 = .ok (.goto 75, 3) := by decide +kernel
theorem dX5_step_269 : decode cX5_step 269 = .ok (.aload_n 0, 1) := by decide +kernel
theorem dX5_step_270 : decode cX5_step 270 = .ok (.invokevirtual 154, 3) := by decide +kernel
theorem dX5_step_273 : decode cX5_step 273 = .ok (.istore 4, 2) := by decide +kernel
theorem dX5_step_275 : decode cX5_step 275 = .ok (.aload_n 0, 1) := by decide +kernel
theorem dX5_step_276 : decode cX5_step 276 = .ok (.iload 4, 2) := by decide +kernel
theorem dX5_step_278 : decode cX5_step 278 = .ok (.invokevirtual 135, 3) := by decide +kernel
theorem dX5_step_281 : decode cX5_step 281 = .ok (.aload_n 0, 1) := by decide +kernel
theorem dX5_step_282 : decode cX5_step 282 = .ok (.iload 4, 2) := by decide +kernel
theorem dX5_step_284 : decode cX5_step 284 = .ok (.iconst 1, 1) := by decide +kernel
theorem dX5_step_285 : decode cX5_step 285 = .ok (.invokevirtual 145, 3) := by decide +kernel
theorem dX5_step_288 : decode cX5_step 288 = .ok (.goto 53, 3) := by decide +kernel
theorem dX5_step_291 : decode cX5_step 291 = .ok (.aload_n 0, 1) := by decide +kernel
theorem dX5_step_292 : decode cX5_step 292 = .ok (.aload_n 0, 1) := by decide +kernel
theorem dX5_step_293 : decode cX5_step 293 = .ok (.invokevirtual 154, 3) := by decide +kernel
theorem dX5_step_296 : decode cX5_step 296 = .ok (.ineg, 1) := by decide +kernel
theorem dX5_step_297 : decode cX5_step 297 = .ok (.iconst 1, 1) := by decide +kernel
theorem dX5_step_298 : decode cX5_step 298 = .ok (.invokevirtual 145, 3) := by decide +kernel
theorem dX5_step_301 : decode cX5_step 301 = .ok (.goto 40, 3) := by decide +kernel
theorem dX5_step_304 : decode cX5_step 304 = .ok (.iload_n 2, 1) := by decide +kernel
theorem dX5_step_305 : decode cX5_step 305 = .ok (.invokestatic 158, 3) := by decide +kernel
theorem dX5_step_308 : decode cX5_step 308 = .ok (.ifCond .eq 12, 3) := by decide +kernel
theorem dX5_step_311 : decode cX5_step 311 = .ok (.aload_n 0, 1) := by decide +kernel
theorem dX5_step_312 : decode cX5_step 312 = .ok (.iload_n 2, 1) := by decide +kernel
theorem dX5_step_313 : decode cX5_step 313 = .ok (.iload_n 1, 1) := by decide +kernel
theorem dX5_step_314 : decode cX5_step 314 = .ok (.invokevirtual 164, 3) := by decide +kernel
theorem dX5_step_317 : decode cX5_step 317 = .ok (.goto 24, 3) := by decide +kernel
theorem dX5_step_320 : decode cX5_step 320 = .ok (.iload_n 2, 1) := by decide +kernel
theorem dX5_step_321 : decode cX5_step 321 = .ok (.invokestatic 167, 3) := by decide +kernel
theorem dX5_step_324 : decode cX5_step 324 = .ok (.ifCond .eq 11, 3) := by decide +kernel
theorem dX5_step_327 : decode cX5_step 327 = .ok (.aload_n 0, 1) := by decide +kernel
theorem dX5_step_328 : decode cX5_step 328 = .ok (.iload_n 2, 1) := by decide +kernel
theorem dX5_step_329 : decode cX5_step 329 = .ok (.invokevirtual 170, 3) := by decide +kernel
theorem dX5_step_332 : decode cX5_step 332 = .ok (.goto 9, 3) := by decide +kernel
theorem dX5_step_335 : decode cX5_step 335 = .ok (.aload_n 0, 1) := by decide +kernel
theorem dX5_step_336 : decode cX5_step 336 = .ok (.iload_n 2, 1) := by decide +kernel
theorem dX5_step_337 : decode cX5_step 337 = .ok (.iload_n 3, 1) := by decide +kernel
theorem dX5_step_338 : decode cX5_step 338 = .ok (.invokevirtual 173, 3) := by decide +kernel
theorem dX5_step_341 : decode cX5_step 341 = .ok (.return_, 1) := by decide +kernel
