theorem mt_X13_typeOf : mx_mt 424 = some (yX13_typeOf, cX13_typeOf, 5, (some .int)) := rfl
theorem dX13_typeOf_0 : decode cX13_typeOf 0 = .ok (.aload_n 0, 1) := by decide +kernel
theorem dX13_typeOf_1 : decode cX13_typeOf 1 = .ok (.getfield 319, 3) := by decide +kernel
theorem dX13_typeOf_4 : decode cX13_typeOf 4 = .ok (.ifCond .eq 5, 3) := by decide +kernel
theorem dX13_typeOf_7 : decode cX13_typeOf 7 = .ok (.iconst 0, 1) := by decide +kernel
theorem dX13_typeOf_8 : decode cX13_typeOf 8 = .ok (.ireturn, 1) := by decide +kernel
theorem dX13_typeOf_9 : decode cX13_typeOf 9 = .ok (.iload_n 1, 1) := by decide +kernel
theorem dX13_typeOf_10 : decode cX13_typeOf 10 = .ok (.ifCond .ne 13, 3) := by decide +kernel
theorem dX13_typeOf_13 : decode cX13_typeOf 13 = .ok (.iload_n 3, 1) := by decide +kernel
theorem dX13_typeOf_14 : decode cX13_typeOf 14 = .ok (.ifCond .eq 7, 3) := by decide +kernel
theorem dX13_typeOf_17 : decode cX13_typeOf 17 = .ok (.iconst 4, 1) := by decide +kernel
theorem dX13_typeOf_18 : decode cX13_typeOf 18 = .ok (.goto 4, 3) := by decide +kernel
theorem dX13_typeOf_21 : decode cX13_typeOf 21 = .ok (.iconst 0, 1) := by decide +kernel
theorem dX13_typeOf_22 : decode cX13_typeOf 22 = .ok (.ireturn, 1) := by decide +kernel
theorem dX13_typeOf_23 : decode cX13_typeOf 23 = .ok (.iload_n 1, 1) := by decide +kernel
theorem dX13_typeOf_24 : decode cX13_typeOf 24 = .ok (.iconst 1, 1) := by decide +kernel
theorem dX13_typeOf_25 : decode cX13_typeOf 25 = .ok (.if_icmp .ne 5, 3) := by decide +kernel
theorem dX13_typeOf_28 : decode cX13_typeOf 28 = .ok (.iconst 1, 1) := by decide +kernel
theorem dX13_typeOf_29 : decode cX13_typeOf 29 = .ok (.ireturn, 1) := by decide +kernel
theorem dX13_typeOf_30 : decode cX13_typeOf 30 = .ok (.iload_n 1, 1) := by decide +kernel
theorem dX13_typeOf_31 : decode cX13_typeOf 31 = .ok (.iconst 2, 1) := by decide +kernel
theorem dX13_typeOf_32 : decode cX13_typeOf 32 = .ok (.if_icmp .ne 5, 3) := by decide +kernel
theorem dX13_typeOf_35 : decode cX13_typeOf 35 = .ok (.iconst 3, 1) := by decide +kernel
theorem dX13_typeOf_36 : decode cX13_typeOf 36 = .ok (.ireturn, 1) := by decide +kernel
theorem dX13_typeOf_37 : decode cX13_typeOf 37 = .ok (.aload_n 0, 1) := by decide +kernel
theorem dX13_typeOf_38 : decode cX13_typeOf 38 = .ok (.iload_n 2, 1) := by decide +kernel
theorem dX13_typeOf_39 : decode cX13_typeOf 39 = .ok (.invokevirtual 494, 3) := by decide +kernel
theorem dX13_typeOf_42 : decode cX13_typeOf 42 = .ok (.istore 4, 2) := by decide +kernel
theorem dX13_typeOf_44 : decode cX13_typeOf 44 = .ok (.iload 4, 2) := by decide +kernel
theorem dX13_typeOf_46 : decode cX13_typeOf 46 = .ok (.iconst (-1), 1) := by decide +kernel
theorem dX13_typeOf_47 : decode cX13_typeOf 47 = .ok (.if_icmp .ne 9, 3) := by decide +kernel
theorem dX13_typeOf_50 : decode cX13_typeOf 50 = .ok (.aload_n 0, 1) := by decide +kernel
theorem dX13_typeOf_51 : decode cX13_typeOf 51 = .ok (.iconst 5, 1) := by decide +kernel
theorem dX13_typeOf_52 : decode cX13_typeOf 52 = .ok (.iload_n 2, 1) := by decide +kernel
theorem dX13_typeOf_53 : decode cX13_typeOf 53 = .ok (.invokevirtual 379, 3) := by decide +kernel
theorem dX13_typeOf_56 : decode cX13_typeOf 56 = .ok (.bipush 8, 2) := by decide +kernel
theorem dX13_typeOf_58 : decode cX13_typeOf 58 = .ok (.iconst 2, 1) := by decide +kernel
theorem dX13_typeOf_59 : decode cX13_typeOf 59 = .ok (.iload 4, 2) := by decide +kernel
theorem dX13_typeOf_61 : decode cX13_typeOf 61 = .ok (.imul, 1) := by decide +kernel
theorem dX13_typeOf_62 : decode cX13_typeOf 62 = .ok (.iadd, 1) := by decide +kernel
theorem dX13_typeOf_63 : decode cX13_typeOf 63 = .ok (.iload_n 3, 1) := by decide +kernel
theorem dX13_typeOf_64 : decode cX13_typeOf 64 = .ok (.ifCond .eq 7, 3) := by decide +kernel
theorem dX13_typeOf_67 : decode cX13_typeOf 67 = .ok (.iconst 1, 1) := by decide +kernel
theorem dX13_typeOf_68 : decode cX13_typeOf 68 = .ok (.goto 4, 3) := by decide +kernel
theorem dX13_typeOf_71 : decode cX13_typeOf 71 = .ok (.iconst 0, 1) := by decide +kernel
theorem dX13_typeOf_72 : decode cX13_typeOf 72 = .ok (.iadd, 1) := by decide +kernel
theorem dX13_typeOf_73 : decode cX13_typeOf 73 = .ok (.ireturn, 1) := by decide +kernel
