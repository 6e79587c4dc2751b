theorem rs_RX2_70 : mx_res RX2 70 = some (0, 2, 19) := by decide +kernel
theorem rs_RX2_144 : mx_res RX2 144 = some (0, 2, 20) := by decide +kernel
theorem ft_2_20 : mx_fty 2 20 = some (.int, false, "ClassMill$Heads") := by decide +kernel
theorem mt_X2_addKindByte : mx_mt 55 = some (yX2_addKindByte, cX2_addKindByte, 2, none) := rfl
theorem dX2_addKindByte_0 : decode cX2_addKindByte 0 = .ok (.aload_n 0, 1) := by decide +kernel
theorem dX2_addKindByte_1 : decode cX2_addKindByte 1 = .ok (.getfield 144, 3) := by decide +kernel
theorem dX2_addKindByte_4 : decode cX2_addKindByte 4 = .ok (.aload_n 0, 1) := by decide +kernel
theorem dX2_addKindByte_5 : decode cX2_addKindByte 5 = .ok (.getfield 70, 3) := by decide +kernel
theorem dX2_addKindByte_8 : decode cX2_addKindByte 8 = .ok (.arraylength, 1) := by decide +kernel
theorem dX2_addKindByte_9 : decode cX2_addKindByte 9 = .ok (.if_icmp .ge 24, 3) := by decide +kernel
theorem dX2_addKindByte_12 : decode cX2_addKindByte 12 = .ok (.aload_n 0, 1) := by decide +kernel
theorem dX2_addKindByte_13 : decode cX2_addKindByte 13 = .ok (.getfield 70, 3) := by decide +kernel
theorem dX2_addKindByte_16 : decode cX2_addKindByte 16 = .ok (.aload_n 0, 1) := by decide +kernel
theorem dX2_addKindByte_17 : decode cX2_addKindByte 17 = .ok (.getfield 144, 3) := by decide +kernel
theorem dX2_addKindByte_20 : decode cX2_addKindByte 20 = .ok (.iload_n 1, 1) := by decide +kernel
theorem dX2_addKindByte_21 : decode cX2_addKindByte 21 = .ok (.i2b, 1) := by decide +kernel
theorem dX2_addKindByte_22 : decode cX2_addKindByte 22 = .ok (.bastore, 1) := by decide +kernel
theorem dX2_addKindByte_23 : decode cX2_addKindByte 23 = .ok (.aload_n 0, 1) := by decide +kernel
theorem dX2_addKindByte_24 : decode cX2_addKindByte 24 = .ok (.dup, 1) := by decide +kernel
theorem dX2_addKindByte_25 : decode cX2_addKindByte 25 = .ok (.getfield 144, 3) := by decide +kernel
theorem dX2_addKindByte_28 : decode cX2_addKindByte 28 = .ok (.iconst 1, 1) := by decide +kernel
theorem dX2_addKindByte_29 : decode cX2_addKindByte 29 = .ok (.iadd, 1) := by decide +kernel
theorem dX2_addKindByte_30 : decode cX2_addKindByte 30 = .ok (.putfield 144, 3) := by decide +kernel
theorem dX2_addKindByte_33 : decode cX2_addKindByte 33 = .ok (.return_, 1) := by decide +kernel
theorem rs_RX2_154 : mx_res RX2 154 = some (1, 55, 1) := by decide +kernel
theorem rs_RX2_160 : mx_res RX2 160 = some (2, 135, 1) := by decide +kernel
theorem rs_RX2_163 : mx_res RX2 163 = some (2, 138, 1) := by decide +kernel
theorem rs_RX2_166 : mx_res RX2 166 = some (2, 134, 1) := by decide +kernel
theorem rs_RX2_169 : mx_res RX2 169 = some (1, 251, 3) := by decide +kernel
theorem rs_RX2_173 : mx_res RX2 173 = some (1, 250, 1) := by decide +kernel
theorem rs_RX2_176 : mx_res RX2 176 = some (14, 0, 0) := by decide +kernel
theorem mt_X2_addKind : mx_mt 56 = some (yX2_addKind, cX2_addKind, 4, none) := rfl
theorem dX2_addKind_0 : decode cX2_addKind 0 = .ok (.iload_n 1, 1) := by decide +kernel
theorem dX2_addKind_1 : decode cX2_addKind 1 = .ok (.istore_n 2, 1) := by decide +kernel
theorem dX2_addKind_2 : decode cX2_addKind 2 = .ok (.iload_n 1, 1) := by decide +kernel
theorem dX2_addKind_3 : decode cX2_addKind 3 = .ok (.invokestatic 160, 3) := by decide +kernel
theorem dX2_addKind_6 : decode cX2_addKind 6 = .ok (.ifCond .eq 14, 3) := by decide +kernel
theorem dX2_addKind_9 : decode cX2_addKind 9 = .ok (.aload_n 0, 1) := by decide +kernel
theorem dX2_addKind_10 : decode cX2_addKind 10 = .ok (.bipush 91, 2) := by decide +kernel
theorem dX2_addKind_12 : decode cX2_addKind 12 = .ok (.invokevirtual 154, 3) := by decide +kernel
theorem dX2_addKind_15 : decode cX2_addKind 15 = .ok (.iload_n 1, 1) := by decide +kernel
theorem dX2_addKind_16 : decode cX2_addKind 16 = .ok (.invokestatic 163, 3) := by decide +kernel
theorem dX2_addKind_19 : decode cX2_addKind 19 = .ok (.istore_n 2, 1) := by decide +kernel
theorem dX2_addKind_20 : decode cX2_addKind 20 = .ok (.iload_n 2, 1) := by decide +kernel
theorem dX2_addKind_21 : decode cX2_addKind 21 = .ok (.invokestatic 166, 3) := by decide +kernel
theorem dX2_addKind_24 : decode cX2_addKind 24 = .ok (.ifCond .ne 34, 3) := by decide +kernel
theorem dX2_addKind_27 : decode cX2_addKind 27 = .ok (.aload_n 0, 1) := by decide +kernel
theorem dX2_addKind_28 : decode cX2_addKind 28 = .ok (.iload_n 2, 1) := by decide +kernel
theorem dX2_addKind_29 : decode cX2_addKind 29 = .ok (.sipush 301, 3) := by decide +kernel
theorem dX2_addKind_32 : decode cX2_addKind 32 = .ok (.if_icmp .ne 8, 3) := by decide +kernel
theorem dX2_addKind_35 : decode cX2_addKind 35 = .ok (.bipush 73, 2) := by decide +kernel
theorem dX2_addKind_37 : decode cX2_addKind 37 = .ok (.goto 17, 3) := by decide +kernel
theorem dX2_addKind_40 : decode cX2_addKind 40 = .ok (.iload_n 2, 1) := by decide +kernel
theorem dX2_addKind_41 : decode cX2_addKind 41 = .ok (.sipush 302, 3) := by decide +kernel
theorem dX2_addKind_44 : decode cX2_addKind 44 = .ok (.if_icmp .ne 8, 3) := by decide +kernel
theorem dX2_addKind_47 : decode cX2_addKind 47 = .ok (.bipush 90, 2) := by decide +kernel
theorem dX2_addKind_49 : decode cX2_addKind 49 = .ok (.goto 5, 3) := by decide +kernel
theorem dX2_addKind_52 : decode cX2_addKind 52 = .ok (.bipush 86, 2) := by decide +kernel
theorem dX2_addKind_54 : decode cX2_addKind 54 = .ok (.invokevirtual 154, 3) := by decide +kernel
theorem dX2_addKind_57 : decode cX2_addKind 57 = .ok (.return_, 1) := by decide +kernel
theorem dX2_addKind_58 : decode cX2_addKind 58 = .ok (.aload_n 0, 1) := by decide +kernel
theorem dX2_addKind_59 : decode cX2_addKind 59 = .ok (.bipush 76, 2) := by decide +kernel
theorem dX2_addKind_61 : decode cX2_addKind 61 = .ok (.invokevirtual 154, 3) := by decide +kernel
theorem dX2_addKind_64 : decode cX2_addKind 64 = .ok (.aload_n 0, 1) := by decide +kernel
theorem dX2_addKind_65 : decode cX2_addKind 65 = .ok (.getfield 67, 3) := by decide +kernel
theorem dX2_addKind_68 : decode cX2_addKind 68 = .ok (.iload_n 2, 1) := by decide +kernel
theorem dX2_addKind_69 : decode cX2_addKind 69 = .ok (.iaload, 1) := by decide +kernel
theorem dX2_addKind_70 : decode cX2_addKind 70 = .ok (.istore_n 3, 1) := by decide +kernel
theorem dX2_addKind_71 : decode cX2_addKind 71 = .ok (.aload_n 0, 1) := by decide +kernel
theorem dX2_addKind_72 : decode cX2_addKind 72 = .ok (.getfield 74, 3) := by decide +kernel
theorem dX2_addKind_75 : decode cX2_addKind 75 = .ok (.iload_n 3, 1) := by decide +kernel
theorem dX2_addKind_76 : decode cX2_addKind 76 = .ok (.aload_n 0, 1) := by decide +kernel
theorem dX2_addKind_77 : decode cX2_addKind 77 = .ok (.getfield 70, 3) := by decide +kernel
theorem dX2_addKind_80 : decode cX2_addKind 80 = .ok (.aload_n 0, 1) := by decide +kernel
theorem dX2_addKind_81 : decode cX2_addKind 81 = .ok (.getfield 144, 3) := by decide +kernel
theorem dX2_addKind_84 : decode cX2_addKind 84 = .ok (.invokevirtual 169, 3) := by decide +kernel
theorem dX2_addKind_87 : decode cX2_addKind 87 = .ok (.aload_n 0, 1) := by decide +kernel
theorem dX2_addKind_88 : decode cX2_addKind 88 = .ok (.aload_n 0, 1) := by decide +kernel
theorem dX2_addKind_89 : decode cX2_addKind 89 = .ok (.getfield 144, 3) := by decide +kernel
theorem dX2_addKind_92 : decode cX2_addKind 92 = .ok (.aload_n 0, 1) := by decide +kernel
theorem dX2_addKind_93 : decode cX2_addKind 93 = .ok (.getfield 74, 3) := by decide +kernel
theorem dX2_addKind_96 : decode cX2_addKind 96 = .ok (.iload_n 3, 1) := by decide +kernel
theorem dX2_addKind_97 : decode cX2_addKind 97 = .ok (.invokevirtual 173, 3) := by decide +kernel
theorem dX2_addKind_100 : decode cX2_addKind 100 = .ok (.iadd, 1) := by decide +kernel
theorem dX2_addKind_101 : decode cX2_addKind 101 = .ok (.aload_n 0, 1) := by decide +kernel
theorem dX2_addKind_102 : decode cX2_addKind 102 = .ok (.getfield 70, 3) := by decide +kernel
theorem dX2_addKind_105 : decode cX2_addKind 105 = .ok (.arraylength, 1) := by decide +kernel
theorem dX2_addKind_106 : decode cX2_addKind 106 = .ok (.invokestatic 176, 3) := by decide +kernel
theorem dX2_addKind_109 : decode cX2_addKind 109 = .ok (.putfield 144, 3) := by decide +kernel
theorem dX2_addKind_112 : decode cX2_addKind 112 = .ok (.aload_n 0, 1) := by decide +kernel
theorem dX2_addKind_113 : decode cX2_addKind 113 = .ok (.bipush 59, 2) := by decide +kernel
theorem dX2_addKind_115 : decode cX2_addKind 115 = .ok (.invokevirtual 154, 3) := by decide +kernel
theorem dX2_addKind_118 : decode cX2_addKind 118 = .ok (.return_, 1) := by decide +kernel
theorem mt_X9_bucketOf : mx_mt 243 = some (yX9_bucketOf, cX9_bucketOf, 3, (some .int)) := rfl
theorem dX9_bucketOf_0 : decode cX9_bucketOf 0 = .ok (.aload_n 0, 1) := by decide +kernel
theorem dX9_bucketOf_1 : decode cX9_bucketOf 1 = .ok (.iload_n 1, 1) := by decide +kernel
theorem dX9_bucketOf_2 : decode cX9_bucketOf 2 = .ok (.baload, 1) := by decide +kernel
theorem dX9_bucketOf_3 : decode cX9_bucketOf 3 = .ok (.iconst 5, 1) := by decide +kernel
theorem dX9_bucketOf_4 : decode cX9_bucketOf 4 = .ok (.imul, 1) := by decide +kernel
theorem dX9_bucketOf_5 : decode cX9_bucketOf 5 = .ok (.aload_n 0, 1) := by decide +kernel
theorem dX9_bucketOf_6 : decode cX9_bucketOf 6 = .ok (.iload_n 1, 1) := by decide +kernel
theorem dX9_bucketOf_7 : decode cX9_bucketOf 7 = .ok (.iload_n 2, 1) := by decide +kernel
theorem dX9_bucketOf_8 : decode cX9_bucketOf 8 = .ok (.iadd, 1) := by decide +kernel
theorem dX9_bucketOf_9 : decode cX9_bucketOf 9 = .ok (.iconst 1, 1) := by decide +kernel
theorem dX9_bucketOf_10 : decode cX9_bucketOf 10 = .ok (.isub, 1) := by decide +kernel
theorem dX9_bucketOf_11 : decode cX9_bucketOf 11 = .ok (.baload, 1) := by decide +kernel
theorem dX9_bucketOf_12 : decode cX9_bucketOf 12 = .ok (.iconst 3, 1) := by decide +kernel
theorem dX9_bucketOf_13 : decode cX9_bucketOf 13 = .ok (.imul, 1) := by decide +kernel
theorem dX9_bucketOf_14 : decode cX9_bucketOf 14 = .ok (.iadd, 1) := by decide +kernel
theorem dX9_bucketOf_15 : decode cX9_bucketOf 15 = .ok (.iload_n 2, 1) := by decide +kernel
theorem dX9_bucketOf_16 : decode cX9_bucketOf 16 = .ok (.iadd, 1) := by decide +kernel
theorem dX9_bucketOf_17 : decode cX9_bucketOf 17 = .ok (.bipush 63, 2) := by decide +kernel
theorem dX9_bucketOf_19 : decode cX9_bucketOf 19 = .ok (.iand, 1) := by decide +kernel
theorem dX9_bucketOf_20 : decode cX9_bucketOf 20 = .ok (.ireturn, 1) := by decide +kernel
theorem rs_RX9_32 : mx_res RX9 32 = some (0, 9, 6) := by decide +kernel
theorem rs_RX9_35 : mx_res RX9 35 = some (0, 9, 7) := by decide +kernel
theorem rs_RX9_76 : mx_res RX9 76 = some (2, 243, 3) := by decide +kernel
theorem ft_9_9 : mx_fty 9 9 = some (.int, false, "ClassMill$Text") := by decide +kernel
theorem mt_X9_closeName : mx_mt 242 = some (yX9_closeName, cX9_closeName, 4, none) := rfl
theorem dX9_closeName_0 : decode cX9_closeName 0 = .ok (.aload_n 0, 1) := by decide +kernel
theorem dX9_closeName_1 : decode cX9_closeName 1 = .ok (.getfield 29, 3) := by decide +kernel
theorem dX9_closeName_4 : decode cX9_closeName 4 = .ok (.aload_n 0, 1) := by decide +kernel
theorem dX9_closeName_5 : decode cX9_closeName 5 = .ok (.getfield 73, 3) := by decide +kernel
theorem dX9_closeName_8 : decode cX9_closeName 8 = .ok (.iaload, 1) := by decide +kernel
theorem dX9_closeName_9 : decode cX9_closeName 9 = .ok (.istore_n 2, 1) := by decide +kernel
theorem dX9_closeName_10 : decode cX9_closeName 10 = .ok (.aload_n 0, 1) := by decide +kernel
theorem dX9_closeName_11 : decode cX9_closeName 11 = .ok (.getfield 25, 3) := by decide +kernel
theorem dX9_closeName_14 : decode cX9_closeName 14 = .ok (.iload_n 2, 1) := by decide +kernel
theorem dX9_closeName_15 : decode cX9_closeName 15 = .ok (.iload_n 1, 1) := by decide +kernel
theorem dX9_closeName_16 : decode cX9_closeName 16 = .ok (.iload_n 2, 1) := by decide +kernel
theorem dX9_closeName_17 : decode cX9_closeName 17 = .ok (.isub, 1) := by decide +kernel
theorem dX9_closeName_18 : decode cX9_closeName 18 = .ok (.invokestatic 76, 3) := by decide +kernel
theorem dX9_closeName_21 : decode cX9_closeName 21 = .ok (.istore_n 3, 1) := by decide +kernel
theorem dX9_closeName_22 : decode cX9_closeName 22 = .ok (.aload_n 0, 1) := by decide +kernel
theorem dX9_closeName_23 : decode cX9_closeName 23 = .ok (.getfield 32, 3) := by decide +kernel
theorem dX9_closeName_26 : decode cX9_closeName 26 = .ok (.aload_n 0, 1) := by decide +kernel
theorem dX9_closeName_27 : decode cX9_closeName 27 = .ok (.getfield 73, 3) := by decide +kernel
theorem dX9_closeName_30 : decode cX9_closeName 30 = .ok (.aload_n 0, 1) := by decide +kernel
theorem dX9_closeName_31 : decode cX9_closeName 31 = .ok (.getfield 35, 3) := by decide +kernel
theorem dX9_closeName_34 : decode cX9_closeName 34 = .ok (.iload_n 3, 1) := by decide +kernel
theorem dX9_closeName_35 : decode cX9_closeName 35 = .ok (.iaload, 1) := by decide +kernel
theorem dX9_closeName_36 : decode cX9_closeName 36 = .ok (.iastore, 1) := by decide +kernel
theorem dX9_closeName_37 : decode cX9_closeName 37 = .ok (.aload_n 0, 1) := by decide +kernel
theorem dX9_closeName_38 : decode cX9_closeName 38 = .ok (.getfield 35, 3) := by decide +kernel
theorem dX9_closeName_41 : decode cX9_closeName 41 = .ok (.iload_n 3, 1) := by decide +kernel
theorem dX9_closeName_42 : decode cX9_closeName 42 = .ok (.aload_n 0, 1) := by decide +kernel
theorem dX9_closeName_43 : decode cX9_closeName 43 = .ok (.getfield 73, 3) := by decide +kernel
theorem dX9_closeName_46 : decode cX9_closeName 46 = .ok (.iastore, 1) := by decide +kernel
theorem dX9_closeName_47 : decode cX9_closeName 47 = .ok (.aload_n 0, 1) := by decide +kernel
theorem dX9_closeName_48 : decode cX9_closeName 48 = .ok (.dup, 1) := by decide +kernel
theorem dX9_closeName_49 : decode cX9_closeName 49 = .ok (.getfield 73, 3) := by decide +kernel
theorem dX9_closeName_52 : decode cX9_closeName 52 = .ok (.iconst 1, 1) := by decide +kernel
theorem dX9_closeName_53 : decode cX9_closeName 53 = .ok (.iadd, 1) := by decide +kernel
theorem dX9_closeName_54 : decode cX9_closeName 54 = .ok (.putfield 73, 3) := by decide +kernel
theorem dX9_closeName_57 : decode cX9_closeName 57 = .ok (.aload_n 0, 1) := by decide +kernel
theorem dX9_closeName_58 : decode cX9_closeName 58 = .ok (.getfield 29, 3) := by decide +kernel
theorem dX9_closeName_61 : decode cX9_closeName 61 = .ok (.aload_n 0, 1) := by decide +kernel
theorem dX9_closeName_62 : decode cX9_closeName 62 = .ok (.getfield 73, 3) := by decide +kernel
theorem dX9_closeName_65 : decode cX9_closeName 65 = .ok (.iload_n 1, 1) := by decide +kernel
theorem dX9_closeName_66 : decode cX9_closeName 66 = .ok (.iastore, 1) := by decide +kernel
theorem dX9_closeName_67 : decode cX9_closeName 67 = .ok (.return_, 1) := by decide +kernel
theorem mt_X9_isNamed : mx_mt 262 = some (yX9_isNamed, cX9_isNamed, 7, (some .boolean)) := rfl
theorem dX9_isNamed_0 : decode cX9_isNamed 0 = .ok (.aload_n 0, 1) := by decide +kernel
theorem dX9_isNamed_1 : decode cX9_isNamed 1 = .ok (.getfield 29, 3) := by decide +kernel
theorem dX9_isNamed_4 : decode cX9_isNamed 4 = .ok (.iload_n 1, 1) := by decide +kernel
theorem dX9_isNamed_5 : decode cX9_isNamed 5 = .ok (.iaload, 1) := by decide +kernel
theorem dX9_isNamed_6 : decode cX9_isNamed 6 = .ok (.istore 5, 2) := by decide +kernel
theorem dX9_isNamed_8 : decode cX9_isNamed 8 = .ok (.aload_n 0, 1) := by decide +kernel
theorem dX9_isNamed_9 : decode cX9_isNamed 9 = .ok (.getfield 29, 3) := by decide +kernel
theorem dX9_isNamed_12 : decode cX9_isNamed 12 = .ok (.iload_n 1, 1) := by decide +kernel
theorem dX9_isNamed_13 : decode cX9_isNamed 13 = .ok (.iconst 1, 1) := by decide +kernel
theorem dX9_isNamed_14 : decode cX9_isNamed 14 = .ok (.iadd, 1) := by decide +kernel
theorem dX9_isNamed_15 : decode cX9_isNamed 15 = .ok (.iaload, 1) := by decide +kernel
theorem dX9_isNamed_16 : decode cX9_isNamed 16 = .ok (.iload 5, 2) := by decide +kernel
theorem dX9_isNamed_18 : decode cX9_isNamed 18 = .ok (.isub, 1) := by decide +kernel
theorem dX9_isNamed_19 : decode cX9_isNamed 19 = .ok (.iload 4, 2) := by decide +kernel
theorem dX9_isNamed_21 : decode cX9_isNamed 21 = .ok (.if_icmp .eq 5, 3) := by decide +kernel
theorem dX9_isNamed_24 : decode cX9_isNamed 24 = .ok (.iconst 0, 1) := by decide +kernel
theorem dX9_isNamed_25 : decode cX9_isNamed 25 = .ok (.ireturn, 1) := by decide +kernel
theorem dX9_isNamed_26 : decode cX9_isNamed 26 = .ok (.iconst 0, 1) := by decide +kernel
theorem dX9_isNamed_27 : decode cX9_isNamed 27 = .ok (.istore 6, 2) := by decide +kernel
theorem dX9_isNamed_29 : decode cX9_isNamed 29 = .ok (.iload 6, 2) := by decide +kernel
theorem dX9_isNamed_31 : decode cX9_isNamed 31 = .ok (.iload 4, 2) := by decide +kernel
theorem dX9_isNamed_33 : decode cX9_isNamed 33 = .ok (.if_icmp .ge 30, 3) := by decide +kernel
theorem dX9_isNamed_36 : decode cX9_isNamed 36 = .ok (.aload_n 0, 1) := by decide +kernel
theorem dX9_isNamed_37 : decode cX9_isNamed 37 = .ok (.getfield 25, 3) := by decide +kernel
theorem dX9_isNamed_40 : decode cX9_isNamed 40 = .ok (.iload 5, 2) := by decide +kernel
theorem dX9_isNamed_42 : decode cX9_isNamed 42 = .ok (.iload 6, 2) := by decide +kernel
theorem dX9_isNamed_44 : decode cX9_isNamed 44 = .ok (.iadd, 1) := by decide +kernel
theorem dX9_isNamed_45 : decode cX9_isNamed 45 = .ok (.baload, 1) := by decide +kernel
theorem dX9_isNamed_46 : decode cX9_isNamed 46 = .ok (.aload_n 2, 1) := by decide +kernel
theorem dX9_isNamed_47 : decode cX9_isNamed 47 = .ok (.iload_n 3, 1) := by decide +kernel
theorem dX9_isNamed_48 : decode cX9_isNamed 48 = .ok (.iload 6, 2) := by decide +kernel
theorem dX9_isNamed_50 : decode cX9_isNamed 50 = .ok (.iadd, 1) := by decide +kernel
theorem dX9_isNamed_51 : decode cX9_isNamed 51 = .ok (.baload, 1) := by decide +kernel
theorem dX9_isNamed_52 : decode cX9_isNamed 52 = .ok (.if_icmp .eq 5, 3) := by decide +kernel
theorem dX9_isNamed_55 : decode cX9_isNamed 55 = .ok (.iconst 0, 1) := by decide +kernel
theorem dX9_isNamed_56 : decode cX9_isNamed 56 = .ok (.ireturn, 1) := by decide +kernel
theorem dX9_isNamed_57 : decode cX9_isNamed 57 = .ok (.iinc 6 1, 3) := by decide +kernel
theorem dX9_isNamed_60 : decode cX9_isNamed 60 = .ok (.goto (-31), 3) := by decide +kernel
theorem dX9_isNamed_63 : decode cX9_isNamed 63 = .ok (.iconst 1, 1) := by decide +kernel
theorem dX9_isNamed_64 : decode cX9_isNamed 64 = .ok (.ireturn, 1) := by decide +kernel
theorem rs_RX9_63 : mx_res RX9 63 = some (1, 242, 1) := by decide +kernel
theorem rs_RX9_129 : mx_res RX9 129 = some (1, 262, 4) := by decide +kernel
theorem mt_X9_nameOf : mx_mt 261 = some (yX9_nameOf, cX9_nameOf, 6, (some .int)) := rfl
theorem dX9_nameOf_0 : decode cX9_nameOf 0 = .ok (.iload_n 3, 1) := by decide +kernel
theorem dX9_nameOf_1 : decode cX9_nameOf 1 = .ok (.iconst 1, 1) := by decide +kernel
theorem dX9_nameOf_2 : decode cX9_nameOf 2 = .ok (.if_icmp .lt 15, 3) := by decide +kernel
theorem dX9_nameOf_5 : decode cX9_nameOf 5 = .ok (.iload_n 2, 1) := by decide +kernel
theorem dX9_nameOf_6 : decode cX9_nameOf 6 = .ok (.ifCond .lt 11, 3) := by decide +kernel
theorem dX9_nameOf_9 : decode cX9_nameOf 9 = .ok (.iload_n 2, 1) := by decide +kernel
theorem dX9_nameOf_10 : decode cX9_nameOf 10 = .ok (.iload_n 3, 1) := by decide +kernel
theorem dX9_nameOf_11 : decode cX9_nameOf 11 = .ok (.iadd, 1) := by decide +kernel
theorem dX9_nameOf_12 : decode cX9_nameOf 12 = .ok (.aload_n 1, 1) := by decide +kernel
theorem dX9_nameOf_13 : decode cX9_nameOf 13 = .ok (.arraylength, 1) := by decide +kernel
theorem dX9_nameOf_14 : decode cX9_nameOf 14 = .ok (.if_icmp .le 5, 3) := by decide +kernel
theorem dX9_nameOf_17 : decode cX9_nameOf 17 = .ok (.iconst 0, 1) := by decide +kernel
theorem dX9_nameOf_18 : decode cX9_nameOf 18 = .ok (.ireturn, 1) := by decide +kernel
theorem dX9_nameOf_19 : decode cX9_nameOf 19 = .ok (.aload_n 0, 1) := by decide +kernel
theorem dX9_nameOf_20 : decode cX9_nameOf 20 = .ok (.getfield 35, 3) := by decide +kernel
theorem dX9_nameOf_23 : decode cX9_nameOf 23 = .ok (.aload_n 1, 1) := by decide +kernel
theorem dX9_nameOf_24 : decode cX9_nameOf 24 = .ok (.iload_n 2, 1) := by decide +kernel
theorem dX9_nameOf_25 : decode cX9_nameOf 25 = .ok (.iload_n 3, 1) := by decide +kernel
theorem dX9_nameOf_26 : decode cX9_nameOf 26 = .ok (.invokestatic 76, 3) := by decide +kernel
theorem dX9_nameOf_29 : decode cX9_nameOf 29 = .ok (.iaload, 1) := by decide +kernel
theorem dX9_nameOf_30 : decode cX9_nameOf 30 = .ok (.istore 4, 2) := by decide +kernel
theorem dX9_nameOf_32 : decode cX9_nameOf 32 = .ok (.iconst 0, 1) := by decide +kernel
theorem dX9_nameOf_33 : decode cX9_nameOf 33 = .ok (.istore 5, 2) := by decide +kernel
theorem dX9_nameOf_35 : decode cX9_nameOf 35 = .ok (.iload 5, 2) := by decide +kernel
theorem dX9_nameOf_37 : decode cX9_nameOf 37 = .ok (.sipush 1740, 3) := by decide +kernel
theorem dX9_nameOf_40 : decode cX9_nameOf 40 = .ok (.if_icmp .ge 39, 3) := by decide +kernel
theorem dX9_nameOf_43 : decode cX9_nameOf 43 = .ok (.iload 4, 2) := by decide +kernel
theorem dX9_nameOf_45 : decode cX9_nameOf 45 = .ok (.iconst (-1), 1) := by decide +kernel
theorem dX9_nameOf_46 : decode cX9_nameOf 46 = .ok (.if_icmp .eq 33, 3) := by decide +kernel
theorem dX9_nameOf_49 : decode cX9_nameOf 49 = .ok (.aload_n 0, 1) := by decide +kernel
theorem dX9_nameOf_50 : decode cX9_nameOf 50 = .ok (.iload 4, 2) := by decide +kernel
theorem dX9_nameOf_52 : decode cX9_nameOf 52 = .ok (.aload_n 1, 1) := by decide +kernel
theorem dX9_nameOf_53 : decode cX9_nameOf 53 = .ok (.iload_n 2, 1) := by decide +kernel
theorem dX9_nameOf_54 : decode cX9_nameOf 54 = .ok (.iload_n 3, 1) := by decide +kernel
theorem dX9_nameOf_55 : decode cX9_nameOf 55 = .ok (.invokevirtual 129, 3) := by decide +kernel
theorem dX9_nameOf_58 : decode cX9_nameOf 58 = .ok (.ifCond .eq 6, 3) := by decide +kernel
theorem dX9_nameOf_61 : decode cX9_nameOf 61 = .ok (.iload 4, 2) := by decide +kernel
theorem dX9_nameOf_63 : decode cX9_nameOf 63 = .ok (.ireturn, 1) := by decide +kernel
theorem dX9_nameOf_64 : decode cX9_nameOf 64 = .ok (.aload_n 0, 1) := by decide +kernel
theorem dX9_nameOf_65 : decode cX9_nameOf 65 = .ok (.getfield 32, 3) := by decide +kernel
theorem dX9_nameOf_68 : decode cX9_nameOf 68 = .ok (.iload 4, 2) := by decide +kernel
theorem dX9_nameOf_70 : decode cX9_nameOf 70 = .ok (.iaload, 1) := by decide +kernel
theorem dX9_nameOf_71 : decode cX9_nameOf 71 = .ok (.istore 4, 2) := by decide +kernel
theorem dX9_nameOf_73 : decode cX9_nameOf 73 = .ok (.iinc 5 1, 3) := by decide +kernel
theorem dX9_nameOf_76 : decode cX9_nameOf 76 = .ok (.goto (-41), 3) := by decide +kernel
theorem dX9_nameOf_79 : decode cX9_nameOf 79 = .ok (.aload_n 0, 1) := by decide +kernel
theorem dX9_nameOf_80 : decode cX9_nameOf 80 = .ok (.getfield 29, 3) := by decide +kernel
theorem dX9_nameOf_83 : decode cX9_nameOf 83 = .ok (.aload_n 0, 1) := by decide +kernel
theorem dX9_nameOf_84 : decode cX9_nameOf 84 = .ok (.getfield 73, 3) := by decide +kernel
theorem dX9_nameOf_87 : decode cX9_nameOf 87 = .ok (.iaload, 1) := by decide +kernel
theorem dX9_nameOf_88 : decode cX9_nameOf 88 = .ok (.istore 5, 2) := by decide +kernel
theorem dX9_nameOf_90 : decode cX9_nameOf 90 = .ok (.aload_n 0, 1) := by decide +kernel
theorem dX9_nameOf_91 : decode cX9_nameOf 91 = .ok (.getfield 73, 3) := by decide +kernel
theorem dX9_nameOf_94 : decode cX9_nameOf 94 = .ok (.sipush 1740, 3) := by decide +kernel
theorem dX9_nameOf_97 : decode cX9_nameOf 97 = .ok (.if_icmp .ge 15, 3) := by decide +kernel
theorem dX9_nameOf_100 : decode cX9_nameOf 100 = .ok (.iload 5, 2) := by decide +kernel
theorem dX9_nameOf_102 : decode cX9_nameOf 102 = .ok (.iload_n 3, 1) := by decide +kernel
theorem dX9_nameOf_103 : decode cX9_nameOf 103 = .ok (.iadd, 1) := by decide +kernel
theorem dX9_nameOf_104 : decode cX9_nameOf 104 = .ok (.aload_n 0, 1) := by decide +kernel
theorem dX9_nameOf_105 : decode cX9_nameOf 105 = .ok (.getfield 25, 3) := by decide +kernel
theorem dX9_nameOf_108 : decode cX9_nameOf 108 = .ok (.arraylength, 1) := by decide +kernel
theorem dX9_nameOf_109 : decode cX9_nameOf 109 = .ok (.if_icmp .le 5, 3) := by decide +kernel
theorem dX9_nameOf_112 : decode cX9_nameOf 112 = .ok (.iconst 0, 1) := by decide +kernel
theorem dX9_nameOf_113 : decode cX9_nameOf 113 = .ok (.ireturn, 1) := by decide +kernel
theorem dX9_nameOf_114 : decode cX9_nameOf 114 = .ok (.aload_n 1, 1) := by decide +kernel
theorem dX9_nameOf_115 : decode cX9_nameOf 115 = .ok (.iload_n 2, 1) := by decide +kernel
theorem dX9_nameOf_116 : decode cX9_nameOf 116 = .ok (.aload_n 0, 1) := by decide +kernel
theorem dX9_nameOf_117 : decode cX9_nameOf 117 = .ok (.getfield 25, 3) := by decide +kernel
theorem dX9_nameOf_120 : decode cX9_nameOf 120 = .ok (.iload 5, 2) := by decide +kernel
theorem dX9_nameOf_122 : decode cX9_nameOf 122 = .ok (.iload_n 3, 1) := by decide +kernel
theorem dX9_nameOf_123 : decode cX9_nameOf 123 = .ok (.invokestatic 67, 3) := by decide +kernel
theorem dX9_nameOf_126 : decode cX9_nameOf 126 = .ok (.aload_n 0, 1) := by decide +kernel
theorem dX9_nameOf_127 : decode cX9_nameOf 127 = .ok (.iload 5, 2) := by decide +kernel
theorem dX9_nameOf_129 : decode cX9_nameOf 129 = .ok (.iload_n 3, 1) := by decide +kernel
theorem dX9_nameOf_130 : decode cX9_nameOf 130 = .ok (.iadd, 1) := by decide +kernel
theorem dX9_nameOf_131 : decode cX9_nameOf 131 = .ok (.invokevirtual 63, 3) := by decide +kernel
theorem dX9_nameOf_134 : decode cX9_nameOf 134 = .ok (.aload_n 0, 1) := by decide +kernel
theorem dX9_nameOf_135 : decode cX9_nameOf 135 = .ok (.getfield 73, 3) := by decide +kernel
theorem dX9_nameOf_138 : decode cX9_nameOf 138 = .ok (.iconst 1, 1) := by decide +kernel
theorem dX9_nameOf_139 : decode cX9_nameOf 139 = .ok (.isub, 1) := by decide +kernel
theorem dX9_nameOf_140 : decode cX9_nameOf 140 = .ok (.ireturn, 1) := by decide +kernel
theorem rs_RX2_147 : mx_res RX2 147 = some (1, 56, 1) := by decide +kernel
theorem rs_RX2_150 : mx_res RX2 150 = some (1, 261, 3) := by decide +kernel
theorem mt_X2_nameKind : mx_mt 53 = some (yX2_nameKind, cX2_nameKind, 2, (some .int)) := rfl
theorem dX2_nameKind_0 : decode cX2_nameKind 0 = .ok (.aload_n 0, 1) := by decide +kernel
theorem dX2_nameKind_1 : decode cX2_nameKind 1 = .ok (.iconst 0, 1) := by decide +kernel
theorem dX2_nameKind_2 : decode cX2_nameKind 2 = .ok (.putfield 144, 3) := by decide +kernel
theorem dX2_nameKind_5 : decode cX2_nameKind 5 = .ok (.aload_n 0, 1) := by decide +kernel
theorem dX2_nameKind_6 : decode cX2_nameKind 6 = .ok (.iload_n 1, 1) := by decide +kernel
theorem dX2_nameKind_7 : decode cX2_nameKind 7 = .ok (.invokevirtual 147, 3) := by decide +kernel
theorem dX2_nameKind_10 : decode cX2_nameKind 10 = .ok (.aload_n 0, 1) := by decide +kernel
theorem dX2_nameKind_11 : decode cX2_nameKind 11 = .ok (.getfield 74, 3) := by decide +kernel
theorem dX2_nameKind_14 : decode cX2_nameKind 14 = .ok (.aload_n 0, 1) := by decide +kernel
theorem dX2_nameKind_15 : decode cX2_nameKind 15 = .ok (.getfield 70, 3) := by decide +kernel
theorem dX2_nameKind_18 : decode cX2_nameKind 18 = .ok (.iconst 0, 1) := by decide +kernel
theorem dX2_nameKind_19 : decode cX2_nameKind 19 = .ok (.aload_n 0, 1) := by decide +kernel
theorem dX2_nameKind_20 : decode cX2_nameKind 20 = .ok (.getfield 144, 3) := by decide +kernel
theorem dX2_nameKind_23 : decode cX2_nameKind 23 = .ok (.invokevirtual 150, 3) := by decide +kernel
theorem dX2_nameKind_26 : decode cX2_nameKind 26 = .ok (.ireturn, 1) := by decide +kernel
theorem mt_X2_nameMethodKind : mx_mt 54 = some (yX2_nameMethodKind, cX2_nameMethodKind, 3, (some .int)) := rfl
theorem dX2_nameMethodKind_0 : decode cX2_nameMethodKind 0 = .ok (.aload_n 0, 1) := by decide +kernel
theorem dX2_nameMethodKind_1 : decode cX2_nameMethodKind 1 = .ok (.iconst 0, 1) := by decide +kernel
theorem dX2_nameMethodKind_2 : decode cX2_nameMethodKind 2 = .ok (.putfield 144, 3) := by decide +kernel
theorem dX2_nameMethodKind_5 : decode cX2_nameMethodKind 5 = .ok (.aload_n 0, 1) := by decide +kernel
theorem dX2_nameMethodKind_6 : decode cX2_nameMethodKind 6 = .ok (.bipush 40, 2) := by decide +kernel
theorem dX2_nameMethodKind_8 : decode cX2_nameMethodKind 8 = .ok (.invokevirtual 154, 3) := by decide +kernel
theorem dX2_nameMethodKind_11 : decode cX2_nameMethodKind 11 = .ok (.iconst 0, 1) := by decide +kernel
theorem dX2_nameMethodKind_12 : decode cX2_nameMethodKind 12 = .ok (.istore_n 2, 1) := by decide +kernel
theorem dX2_nameMethodKind_13 : decode cX2_nameMethodKind 13 = .ok (.iload_n 2, 1) := by decide +kernel
theorem dX2_nameMethodKind_14 : decode cX2_nameMethodKind 14 = .ok (.aload_n 0, 1) := by decide +kernel
theorem dX2_nameMethodKind_15 : decode cX2_nameMethodKind 15 = .ok (.getfield 58, 3) := by decide +kernel
theorem dX2_nameMethodKind_18 : decode cX2_nameMethodKind 18 = .ok (.iload_n 1, 1) := by decide +kernel
theorem dX2_nameMethodKind_19 : decode cX2_nameMethodKind 19 = .ok (.iaload, 1) := by decide +kernel
theorem dX2_nameMethodKind_20 : decode cX2_nameMethodKind 20 = .ok (.if_icmp .ge 19, 3) := by decide +kernel
theorem dX2_nameMethodKind_23 : decode cX2_nameMethodKind 23 = .ok (.aload_n 0, 1) := by decide +kernel
theorem dX2_nameMethodKind_24 : decode cX2_nameMethodKind 24 = .ok (.aload_n 0, 1) := by decide +kernel
theorem dX2_nameMethodKind_25 : decode cX2_nameMethodKind 25 = .ok (.iload_n 1, 1) := by decide +kernel
theorem dX2_nameMethodKind_26 : decode cX2_nameMethodKind 26 = .ok (.iload_n 2, 1) := by decide +kernel
theorem dX2_nameMethodKind_27 : decode cX2_nameMethodKind 27 = .ok (.invokevirtual 157, 3) := by decide +kernel
theorem dX2_nameMethodKind_30 : decode cX2_nameMethodKind 30 = .ok (.invokevirtual 147, 3) := by decide +kernel
theorem dX2_nameMethodKind_33 : decode cX2_nameMethodKind 33 = .ok (.iinc 2 1, 3) := by decide +kernel
theorem dX2_nameMethodKind_36 : decode cX2_nameMethodKind 36 = .ok (.goto (-23), 3) := by decide +kernel
theorem dX2_nameMethodKind_39 : decode cX2_nameMethodKind 39 = .ok (.aload_n 0, 1) := by decide +kernel
theorem dX2_nameMethodKind_40 : decode cX2_nameMethodKind 40 = .ok (.bipush 41, 2) := by decide +kernel
theorem dX2_nameMethodKind_42 : decode cX2_nameMethodKind 42 = .ok (.invokevirtual 154, 3) := by decide +kernel
theorem dX2_nameMethodKind_45 : decode cX2_nameMethodKind 45 = .ok (.aload_n 0, 1) := by decide +kernel
theorem dX2_nameMethodKind_46 : decode cX2_nameMethodKind 46 = .ok (.aload_n 0, 1) := by decide +kernel
theorem dX2_nameMethodKind_47 : decode cX2_nameMethodKind 47 = .ok (.getfield 48, 3) := by decide +kernel
theorem dX2_nameMethodKind_50 : decode cX2_nameMethodKind 50 = .ok (.iload_n 1, 1) := by decide +kernel
theorem dX2_nameMethodKind_51 : decode cX2_nameMethodKind 51 = .ok (.iaload, 1) := by decide +kernel
theorem dX2_nameMethodKind_52 : decode cX2_nameMethodKind 52 = .ok (.invokevirtual 147, 3) := by decide +kernel
theorem dX2_nameMethodKind_55 : decode cX2_nameMethodKind 55 = .ok (.aload_n 0, 1) := by decide +kernel
theorem dX2_nameMethodKind_56 : decode cX2_nameMethodKind 56 = .ok (.getfield 74, 3) := by decide +kernel
theorem dX2_nameMethodKind_59 : decode cX2_nameMethodKind 59 = .ok (.aload_n 0, 1) := by decide +kernel
theorem dX2_nameMethodKind_60 : decode cX2_nameMethodKind 60 = .ok (.getfield 70, 3) := by decide +kernel
theorem dX2_nameMethodKind_63 : decode cX2_nameMethodKind 63 = .ok (.iconst 0, 1) := by decide +kernel
theorem dX2_nameMethodKind_64 : decode cX2_nameMethodKind 64 = .ok (.aload_n 0, 1) := by decide +kernel
theorem dX2_nameMethodKind_65 : decode cX2_nameMethodKind 65 = .ok (.getfield 144, 3) := by decide +kernel
theorem dX2_nameMethodKind_68 : decode cX2_nameMethodKind 68 = .ok (.invokevirtual 150, 3) := by decide +kernel
theorem dX2_nameMethodKind_71 : decode cX2_nameMethodKind 71 = .ok (.ireturn, 1) := by decide +kernel
theorem rs_RX2_112 : mx_res RX2 112 = some (1, 60, 1) := by decide +kernel
theorem rs_RX2_138 : mx_res RX2 138 = some (1, 53, 1) := by decide +kernel
theorem rs_RX2_141 : mx_res RX2 141 = some (1, 54, 1) := by decide +kernel
theorem mt_X2_nameKinds : mx_mt 52 = some (yX2_nameKinds, cX2_nameKinds, 2, none) := rfl
theorem dX2_nameKinds_0 : decode cX2_nameKinds 0 = .ok (.iconst 0, 1) := by decide +kernel
theorem dX2_nameKinds_1 : decode cX2_nameKinds 1 = .ok (.istore_n 1, 1) := by decide +kernel
theorem dX2_nameKinds_2 : decode cX2_nameKinds 2 = .ok (.iload_n 1, 1) := by decide +kernel
theorem dX2_nameKinds_3 : decode cX2_nameKinds 3 = .ok (.bipush 8, 2) := by decide +kernel
theorem dX2_nameKinds_5 : decode cX2_nameKinds 5 = .ok (.aload_n 0, 1) := by decide +kernel
theorem dX2_nameKinds_6 : decode cX2_nameKinds 6 = .ok (.getfield 78, 3) := by decide +kernel
theorem dX2_nameKinds_9 : decode cX2_nameKinds 9 = .ok (.iadd, 1) := by decide +kernel
theorem dX2_nameKinds_10 : decode cX2_nameKinds 10 = .ok (.if_icmp .ge 73, 3) := by decide +kernel
theorem dX2_nameKinds_13 : decode cX2_nameKinds 13 = .ok (.iload_n 1, 1) := by decide +kernel
theorem dX2_nameKinds_14 : decode cX2_nameKinds 14 = .ok (.bipush 16, 2) := by decide +kernel
theorem dX2_nameKinds_16 : decode cX2_nameKinds 16 = .ok (.if_icmp .ge 67, 3) := by decide +kernel
theorem dX2_nameKinds_19 : decode cX2_nameKinds 19 = .ok (.aload_n 0, 1) := by decide +kernel
theorem dX2_nameKinds_20 : decode cX2_nameKinds 20 = .ok (.getfield 74, 3) := by decide +kernel
theorem dX2_nameKinds_23 : decode cX2_nameKinds 23 = .ok (.getfield 91, 3) := by decide +kernel
theorem dX2_nameKinds_26 : decode cX2_nameKinds 26 = .ok (.ifCond .ne 57, 3) := by decide +kernel
theorem dX2_nameKinds_29 : decode cX2_nameKinds 29 = .ok (.aload_n 0, 1) := by decide +kernel
theorem dX2_nameKinds_30 : decode cX2_nameKinds 30 = .ok (.getfield 67, 3) := by decide +kernel
theorem dX2_nameKinds_33 : decode cX2_nameKinds 33 = .ok (.iload_n 1, 1) := by decide +kernel
theorem dX2_nameKinds_34 : decode cX2_nameKinds 34 = .ok (.iload_n 1, 1) := by decide +kernel
theorem dX2_nameKinds_35 : decode cX2_nameKinds 35 = .ok (.bipush 8, 2) := by decide +kernel
theorem dX2_nameKinds_37 : decode cX2_nameKinds 37 = .ok (.if_icmp .ge 7, 3) := by decide +kernel
theorem dX2_nameKinds_40 : decode cX2_nameKinds 40 = .ok (.iload_n 1, 1) := by decide +kernel
theorem dX2_nameKinds_41 : decode cX2_nameKinds 41 = .ok (.goto 18, 3) := by decide +kernel
theorem dX2_nameKinds_44 : decode cX2_nameKinds 44 = .ok (.aload_n 0, 1) := by decide +kernel
theorem dX2_nameKinds_45 : decode cX2_nameKinds 45 = .ok (.getfield 74, 3) := by decide +kernel
theorem dX2_nameKinds_48 : decode cX2_nameKinds 48 = .ok (.aload_n 0, 1) := by decide +kernel
theorem dX2_nameKinds_49 : decode cX2_nameKinds 49 = .ok (.iload_n 1, 1) := by decide +kernel
theorem dX2_nameKinds_50 : decode cX2_nameKinds 50 = .ok (.bipush 8, 2) := by decide +kernel
theorem dX2_nameKinds_52 : decode cX2_nameKinds 52 = .ok (.isub, 1) := by decide +kernel
theorem dX2_nameKinds_53 : decode cX2_nameKinds 53 = .ok (.invokevirtual 112, 3) := by decide +kernel
theorem dX2_nameKinds_56 : decode cX2_nameKinds 56 = .ok (.invokevirtual 135, 3) := by decide +kernel
theorem dX2_nameKinds_59 : decode cX2_nameKinds 59 = .ok (.iastore, 1) := by decide +kernel
theorem dX2_nameKinds_60 : decode cX2_nameKinds 60 = .ok (.aload_n 0, 1) := by decide +kernel
theorem dX2_nameKinds_61 : decode cX2_nameKinds 61 = .ok (.getfield 67, 3) := by decide +kernel
theorem dX2_nameKinds_64 : decode cX2_nameKinds 64 = .ok (.bipush 16, 2) := by decide +kernel
theorem dX2_nameKinds_66 : decode cX2_nameKinds 66 = .ok (.iload_n 1, 1) := by decide +kernel
theorem dX2_nameKinds_67 : decode cX2_nameKinds 67 = .ok (.iadd, 1) := by decide +kernel
theorem dX2_nameKinds_68 : decode cX2_nameKinds 68 = .ok (.aload_n 0, 1) := by decide +kernel
theorem dX2_nameKinds_69 : decode cX2_nameKinds 69 = .ok (.bipush 100, 2) := by decide +kernel
theorem dX2_nameKinds_71 : decode cX2_nameKinds 71 = .ok (.iload_n 1, 1) := by decide +kernel
theorem dX2_nameKinds_72 : decode cX2_nameKinds 72 = .ok (.iadd, 1) := by decide +kernel
theorem dX2_nameKinds_73 : decode cX2_nameKinds 73 = .ok (.invokevirtual 138, 3) := by decide +kernel
theorem dX2_nameKinds_76 : decode cX2_nameKinds 76 = .ok (.iastore, 1) := by decide +kernel
theorem dX2_nameKinds_77 : decode cX2_nameKinds 77 = .ok (.iinc 1 1, 3) := by decide +kernel
theorem dX2_nameKinds_80 : decode cX2_nameKinds 80 = .ok (.goto (-78), 3) := by decide +kernel
theorem dX2_nameKinds_83 : decode cX2_nameKinds 83 = .ok (.iconst 0, 1) := by decide +kernel
theorem dX2_nameKinds_84 : decode cX2_nameKinds 84 = .ok (.istore_n 1, 1) := by decide +kernel
theorem dX2_nameKinds_85 : decode cX2_nameKinds 85 = .ok (.iload_n 1, 1) := by decide +kernel
theorem dX2_nameKinds_86 : decode cX2_nameKinds 86 = .ok (.aload_n 0, 1) := by decide +kernel
theorem dX2_nameKinds_87 : decode cX2_nameKinds 87 = .ok (.getfield 30, 3) := by decide +kernel
theorem dX2_nameKinds_90 : decode cX2_nameKinds 90 = .ok (.arraylength, 1) := by decide +kernel
theorem dX2_nameKinds_91 : decode cX2_nameKinds 91 = .ok (.if_icmp .ge 51, 3) := by decide +kernel
theorem dX2_nameKinds_94 : decode cX2_nameKinds 94 = .ok (.aload_n 0, 1) := by decide +kernel
theorem dX2_nameKinds_95 : decode cX2_nameKinds 95 = .ok (.getfield 74, 3) := by decide +kernel
theorem dX2_nameKinds_98 : decode cX2_nameKinds 98 = .ok (.getfield 91, 3) := by decide +kernel
theorem dX2_nameKinds_101 : decode cX2_nameKinds 101 = .ok (.ifCond .ne 41, 3) := by decide +kernel
theorem dX2_nameKinds_104 : decode cX2_nameKinds 104 = .ok (.iload_n 1, 1) := by decide +kernel
theorem dX2_nameKinds_105 : decode cX2_nameKinds 105 = .ok (.bipush 12, 2) := by decide +kernel
theorem dX2_nameKinds_107 : decode cX2_nameKinds 107 = .ok (.irem, 1) := by decide +kernel
theorem dX2_nameKinds_108 : decode cX2_nameKinds 108 = .ok (.aload_n 0, 1) := by decide +kernel
theorem dX2_nameKinds_109 : decode cX2_nameKinds 109 = .ok (.getfield 27, 3) := by decide +kernel
theorem dX2_nameKinds_112 : decode cX2_nameKinds 112 = .ok (.iload_n 1, 1) := by decide +kernel
theorem dX2_nameKinds_113 : decode cX2_nameKinds 113 = .ok (.bipush 12, 2) := by decide +kernel
theorem dX2_nameKinds_115 : decode cX2_nameKinds 115 = .ok (.idiv, 1) := by decide +kernel
theorem dX2_nameKinds_116 : decode cX2_nameKinds 116 = .ok (.iaload, 1) := by decide +kernel
theorem dX2_nameKinds_117 : decode cX2_nameKinds 117 = .ok (.if_icmp .ge 19, 3) := by decide +kernel
theorem dX2_nameKinds_120 : decode cX2_nameKinds 120 = .ok (.aload_n 0, 1) := by decide +kernel
theorem dX2_nameKinds_121 : decode cX2_nameKinds 121 = .ok (.getfield 36, 3) := by decide +kernel
theorem dX2_nameKinds_124 : decode cX2_nameKinds 124 = .ok (.iload_n 1, 1) := by decide +kernel
theorem dX2_nameKinds_125 : decode cX2_nameKinds 125 = .ok (.aload_n 0, 1) := by decide +kernel
theorem dX2_nameKinds_126 : decode cX2_nameKinds 126 = .ok (.aload_n 0, 1) := by decide +kernel
theorem dX2_nameKinds_127 : decode cX2_nameKinds 127 = .ok (.getfield 33, 3) := by decide +kernel
theorem dX2_nameKinds_130 : decode cX2_nameKinds 130 = .ok (.iload_n 1, 1) := by decide +kernel
theorem dX2_nameKinds_131 : decode cX2_nameKinds 131 = .ok (.iaload, 1) := by decide +kernel
theorem dX2_nameKinds_132 : decode cX2_nameKinds 132 = .ok (.invokevirtual 138, 3) := by decide +kernel
theorem dX2_nameKinds_135 : decode cX2_nameKinds 135 = .ok (.iastore, 1) := by decide +kernel
theorem dX2_nameKinds_136 : decode cX2_nameKinds 136 = .ok (.iinc 1 1, 3) := by decide +kernel
theorem dX2_nameKinds_139 : decode cX2_nameKinds 139 = .ok (.goto (-54), 3) := by decide +kernel
theorem dX2_nameKinds_142 : decode cX2_nameKinds 142 = .ok (.iconst 0, 1) := by decide +kernel
theorem dX2_nameKinds_143 : decode cX2_nameKinds 143 = .ok (.istore_n 1, 1) := by decide +kernel
theorem dX2_nameKinds_144 : decode cX2_nameKinds 144 = .ok (.iload_n 1, 1) := by decide +kernel
theorem dX2_nameKinds_145 : decode cX2_nameKinds 145 = .ok (.aload_n 0, 1) := by decide +kernel
theorem dX2_nameKinds_146 : decode cX2_nameKinds 146 = .ok (.getfield 42, 3) := by decide +kernel
theorem dX2_nameKinds_149 : decode cX2_nameKinds 149 = .ok (.arraylength, 1) := by decide +kernel
theorem dX2_nameKinds_150 : decode cX2_nameKinds 150 = .ok (.if_icmp .ge 38, 3) := by decide +kernel
theorem dX2_nameKinds_153 : decode cX2_nameKinds 153 = .ok (.aload_n 0, 1) := by decide +kernel
theorem dX2_nameKinds_154 : decode cX2_nameKinds 154 = .ok (.getfield 74, 3) := by decide +kernel
theorem dX2_nameKinds_157 : decode cX2_nameKinds 157 = .ok (.getfield 91, 3) := by decide +kernel
theorem dX2_nameKinds_160 : decode cX2_nameKinds 160 = .ok (.ifCond .ne 28, 3) := by decide +kernel
theorem dX2_nameKinds_163 : decode cX2_nameKinds 163 = .ok (.aload_n 0, 1) := by decide +kernel
theorem dX2_nameKinds_164 : decode cX2_nameKinds 164 = .ok (.iload_n 1, 1) := by decide +kernel
theorem dX2_nameKinds_165 : decode cX2_nameKinds 165 = .ok (.invokevirtual 128, 3) := by decide +kernel
theorem dX2_nameKinds_168 : decode cX2_nameKinds 168 = .ok (.ifCond .eq 14, 3) := by decide +kernel
theorem dX2_nameKinds_171 : decode cX2_nameKinds 171 = .ok (.aload_n 0, 1) := by decide +kernel
theorem dX2_nameKinds_172 : decode cX2_nameKinds 172 = .ok (.getfield 55, 3) := by decide +kernel
theorem dX2_nameKinds_175 : decode cX2_nameKinds 175 = .ok (.iload_n 1, 1) := by decide +kernel
theorem dX2_nameKinds_176 : decode cX2_nameKinds 176 = .ok (.aload_n 0, 1) := by decide +kernel
theorem dX2_nameKinds_177 : decode cX2_nameKinds 177 = .ok (.iload_n 1, 1) := by decide +kernel
theorem dX2_nameKinds_178 : decode cX2_nameKinds 178 = .ok (.invokevirtual 141, 3) := by decide +kernel
theorem dX2_nameKinds_181 : decode cX2_nameKinds 181 = .ok (.iastore, 1) := by decide +kernel
theorem dX2_nameKinds_182 : decode cX2_nameKinds 182 = .ok (.iinc 1 1, 3) := by decide +kernel
theorem dX2_nameKinds_185 : decode cX2_nameKinds 185 = .ok (.goto (-41), 3) := by decide +kernel
theorem dX2_nameKinds_188 : decode cX2_nameKinds 188 = .ok (.return_, 1) := by decide +kernel
theorem mt_X2_classAbove : mx_mt 61 = some (yX2_classAbove, cX2_classAbove, 3, (some .int)) := rfl
theorem dX2_classAbove_0 : decode cX2_classAbove 0 = .ok (.aload_n 0, 1) := by decide +kernel
theorem dX2_classAbove_1 : decode cX2_classAbove 1 = .ok (.iload_n 1, 1) := by decide +kernel
theorem dX2_classAbove_2 : decode cX2_classAbove 2 = .ok (.invokevirtual 112, 3) := by decide +kernel
theorem dX2_classAbove_5 : decode cX2_classAbove 5 = .ok (.istore_n 2, 1) := by decide +kernel
theorem dX2_classAbove_6 : decode cX2_classAbove 6 = .ok (.aload_n 0, 1) := by decide +kernel
theorem dX2_classAbove_7 : decode cX2_classAbove 7 = .ok (.getfield 74, 3) := by decide +kernel
theorem dX2_classAbove_10 : decode cX2_classAbove 10 = .ok (.iload_n 2, 1) := by decide +kernel
theorem dX2_classAbove_11 : decode cX2_classAbove 11 = .ok (.iconst 1, 1) := by decide +kernel
theorem dX2_classAbove_12 : decode cX2_classAbove 12 = .ok (.iadd, 1) := by decide +kernel
theorem dX2_classAbove_13 : decode cX2_classAbove 13 = .ok (.invokevirtual 115, 3) := by decide +kernel
theorem dX2_classAbove_16 : decode cX2_classAbove 16 = .ok (.bipush 16, 2) := by decide +kernel
theorem dX2_classAbove_18 : decode cX2_classAbove 18 = .ok (.if_icmp .ne 13, 3) := by decide +kernel
theorem dX2_classAbove_21 : decode cX2_classAbove 21 = .ok (.aload_n 0, 1) := by decide +kernel
theorem dX2_classAbove_22 : decode cX2_classAbove 22 = .ok (.iload_n 2, 1) := by decide +kernel
theorem dX2_classAbove_23 : decode cX2_classAbove 23 = .ok (.iconst 2, 1) := by decide +kernel
theorem dX2_classAbove_24 : decode cX2_classAbove 24 = .ok (.iadd, 1) := by decide +kernel
theorem dX2_classAbove_25 : decode cX2_classAbove 25 = .ok (.invokevirtual 184, 3) := by decide +kernel
theorem dX2_classAbove_28 : decode cX2_classAbove 28 = .ok (.goto 4, 3) := by decide +kernel
theorem dX2_classAbove_31 : decode cX2_classAbove 31 = .ok (.iconst 0, 1) := by decide +kernel
theorem dX2_classAbove_32 : decode cX2_classAbove 32 = .ok (.ireturn, 1) := by decide +kernel
theorem rs_RX2_101 : mx_res RX2 101 = some (1, 61, 1) := by decide +kernel
theorem mt_X2_endsAbove : mx_mt 63 = some (yX2_endsAbove, cX2_endsAbove, 4, (some .boolean)) := rfl
theorem dX2_endsAbove_0 : decode cX2_endsAbove 0 = .ok (.bipush 8, 2) := by decide +kernel
theorem dX2_endsAbove_2 : decode cX2_endsAbove 2 = .ok (.iload_n 1, 1) := by decide +kernel
theorem dX2_endsAbove_3 : decode cX2_endsAbove 3 = .ok (.iadd, 1) := by decide +kernel
theorem dX2_endsAbove_4 : decode cX2_endsAbove 4 = .ok (.istore_n 2, 1) := by decide +kernel
theorem dX2_endsAbove_5 : decode cX2_endsAbove 5 = .ok (.iconst 0, 1) := by decide +kernel
theorem dX2_endsAbove_6 : decode cX2_endsAbove 6 = .ok (.istore_n 3, 1) := by decide +kernel
theorem dX2_endsAbove_7 : decode cX2_endsAbove 7 = .ok (.iload_n 3, 1) := by decide +kernel
theorem dX2_endsAbove_8 : decode cX2_endsAbove 8 = .ok (.aload_n 0, 1) := by decide +kernel
theorem dX2_endsAbove_9 : decode cX2_endsAbove 9 = .ok (.getfield 78, 3) := by decide +kernel
theorem dX2_endsAbove_12 : decode cX2_endsAbove 12 = .ok (.if_icmp .gt 24, 3) := by decide +kernel
theorem dX2_endsAbove_15 : decode cX2_endsAbove 15 = .ok (.iload_n 2, 1) := by decide +kernel
theorem dX2_endsAbove_16 : decode cX2_endsAbove 16 = .ok (.bipush 8, 2) := by decide +kernel
theorem dX2_endsAbove_18 : decode cX2_endsAbove 18 = .ok (.if_icmp .lt 18, 3) := by decide +kernel
theorem dX2_endsAbove_21 : decode cX2_endsAbove 21 = .ok (.aload_n 0, 1) := by decide +kernel
theorem dX2_endsAbove_22 : decode cX2_endsAbove 22 = .ok (.iload_n 2, 1) := by decide +kernel
theorem dX2_endsAbove_23 : decode cX2_endsAbove 23 = .ok (.bipush 8, 2) := by decide +kernel
theorem dX2_endsAbove_25 : decode cX2_endsAbove 25 = .ok (.isub, 1) := by decide +kernel
theorem dX2_endsAbove_26 : decode cX2_endsAbove 26 = .ok (.invokevirtual 101, 3) := by decide +kernel
theorem dX2_endsAbove_29 : decode cX2_endsAbove 29 = .ok (.istore_n 2, 1) := by decide +kernel
theorem dX2_endsAbove_30 : decode cX2_endsAbove 30 = .ok (.iinc 3 1, 3) := by decide +kernel
theorem dX2_endsAbove_33 : decode cX2_endsAbove 33 = .ok (.goto (-26), 3) := by decide +kernel
theorem dX2_endsAbove_36 : decode cX2_endsAbove 36 = .ok (.iload_n 2, 1) := by decide +kernel
theorem dX2_endsAbove_37 : decode cX2_endsAbove 37 = .ok (.bipush 8, 2) := by decide +kernel
theorem dX2_endsAbove_39 : decode cX2_endsAbove 39 = .ok (.if_icmp .ge 7, 3) := by decide +kernel
theorem dX2_endsAbove_42 : decode cX2_endsAbove 42 = .ok (.iconst 1, 1) := by decide +kernel
theorem dX2_endsAbove_43 : decode cX2_endsAbove 43 = .ok (.goto 4, 3) := by decide +kernel
theorem dX2_endsAbove_46 : decode cX2_endsAbove 46 = .ok (.iconst 0, 1) := by decide +kernel
theorem dX2_endsAbove_47 : decode cX2_endsAbove 47 = .ok (.ireturn, 1) := by decide +kernel
theorem rs_RX2_189 : mx_res RX2 189 = some (1, 63, 1) := by decide +kernel
theorem mt_X2_checkClassHead : mx_mt 62 = some (yX2_checkClassHead, cX2_checkClassHead, 3, none) := rfl
theorem dX2_checkClassHead_0 : decode cX2_checkClassHead 0 = .ok (.aload_n 0, 1) := by decide +kernel
theorem dX2_checkClassHead_1 : decode cX2_checkClassHead 1 = .ok (.getfield 20, 3) := by decide +kernel
theorem dX2_checkClassHead_4 : decode cX2_checkClassHead 4 = .ok (.iload_n 1, 1) := by decide +kernel
theorem dX2_checkClassHead_5 : decode cX2_checkClassHead 5 = .ok (.iaload, 1) := by decide +kernel
theorem dX2_checkClassHead_6 : decode cX2_checkClassHead 6 = .ok (.istore_n 2, 1) := by decide +kernel
theorem dX2_checkClassHead_7 : decode cX2_checkClassHead 7 = .ok (.iload_n 1, 1) := by decide +kernel
theorem dX2_checkClassHead_8 : decode cX2_checkClassHead 8 = .ok (.bipush 8, 2) := by decide +kernel
theorem dX2_checkClassHead_10 : decode cX2_checkClassHead 10 = .ok (.if_icmp .lt 13, 3) := by decide +kernel
theorem dX2_checkClassHead_13 : decode cX2_checkClassHead 13 = .ok (.aload_n 0, 1) := by decide +kernel
theorem dX2_checkClassHead_14 : decode cX2_checkClassHead 14 = .ok (.getfield 74, 3) := by decide +kernel
theorem dX2_checkClassHead_17 : decode cX2_checkClassHead 17 = .ok (.bipush 11, 2) := by decide +kernel
theorem dX2_checkClassHead_19 : decode cX2_checkClassHead 19 = .ok (.iload_n 2, 1) := by decide +kernel
theorem dX2_checkClassHead_20 : decode cX2_checkClassHead 20 = .ok (.invokevirtual 186, 3) := by decide +kernel
theorem dX2_checkClassHead_23 : decode cX2_checkClassHead 23 = .ok (.aload_n 0, 1) := by decide +kernel
theorem dX2_checkClassHead_24 : decode cX2_checkClassHead 24 = .ok (.iload_n 2, 1) := by decide +kernel
theorem dX2_checkClassHead_25 : decode cX2_checkClassHead 25 = .ok (.invokevirtual 184, 3) := by decide +kernel
theorem dX2_checkClassHead_28 : decode cX2_checkClassHead 28 = .ok (.bipush 8, 2) := by decide +kernel
theorem dX2_checkClassHead_30 : decode cX2_checkClassHead 30 = .ok (.iload_n 1, 1) := by decide +kernel
theorem dX2_checkClassHead_31 : decode cX2_checkClassHead 31 = .ok (.iadd, 1) := by decide +kernel
theorem dX2_checkClassHead_32 : decode cX2_checkClassHead 32 = .ok (.if_icmp .eq 12, 3) := by decide +kernel
theorem dX2_checkClassHead_35 : decode cX2_checkClassHead 35 = .ok (.aload_n 0, 1) := by decide +kernel
theorem dX2_checkClassHead_36 : decode cX2_checkClassHead 36 = .ok (.getfield 74, 3) := by decide +kernel
theorem dX2_checkClassHead_39 : decode cX2_checkClassHead 39 = .ok (.iconst 4, 1) := by decide +kernel
theorem dX2_checkClassHead_40 : decode cX2_checkClassHead 40 = .ok (.iload_n 2, 1) := by decide +kernel
theorem dX2_checkClassHead_41 : decode cX2_checkClassHead 41 = .ok (.invokevirtual 186, 3) := by decide +kernel
theorem dX2_checkClassHead_44 : decode cX2_checkClassHead 44 = .ok (.aload_n 0, 1) := by decide +kernel
theorem dX2_checkClassHead_45 : decode cX2_checkClassHead 45 = .ok (.iload_n 1, 1) := by decide +kernel
theorem dX2_checkClassHead_46 : decode cX2_checkClassHead 46 = .ok (.invokevirtual 101, 3) := by decide +kernel
theorem dX2_checkClassHead_49 : decode cX2_checkClassHead 49 = .ok (.iconst (-1), 1) := by decide +kernel
theorem dX2_checkClassHead_50 : decode cX2_checkClassHead 50 = .ok (.if_icmp .ne 14, 3) := by decide +kernel
theorem dX2_checkClassHead_53 : decode cX2_checkClassHead 53 = .ok (.aload_n 0, 1) := by decide +kernel
theorem dX2_checkClassHead_54 : decode cX2_checkClassHead 54 = .ok (.getfield 74, 3) := by decide +kernel
theorem dX2_checkClassHead_57 : decode cX2_checkClassHead 57 = .ok (.iconst 5, 1) := by decide +kernel
theorem dX2_checkClassHead_58 : decode cX2_checkClassHead 58 = .ok (.iload_n 2, 1) := by decide +kernel
theorem dX2_checkClassHead_59 : decode cX2_checkClassHead 59 = .ok (.iconst 2, 1) := by decide +kernel
theorem dX2_checkClassHead_60 : decode cX2_checkClassHead 60 = .ok (.iadd, 1) := by decide +kernel
theorem dX2_checkClassHead_61 : decode cX2_checkClassHead 61 = .ok (.invokevirtual 186, 3) := by decide +kernel
theorem dX2_checkClassHead_64 : decode cX2_checkClassHead 64 = .ok (.aload_n 0, 1) := by decide +kernel
theorem dX2_checkClassHead_65 : decode cX2_checkClassHead 65 = .ok (.iload_n 1, 1) := by decide +kernel
theorem dX2_checkClassHead_66 : decode cX2_checkClassHead 66 = .ok (.invokevirtual 189, 3) := by decide +kernel
theorem dX2_checkClassHead_69 : decode cX2_checkClassHead 69 = .ok (.ifCond .ne 15, 3) := by decide +kernel
theorem dX2_checkClassHead_72 : decode cX2_checkClassHead 72 = .ok (.aload_n 0, 1) := by decide +kernel
theorem dX2_checkClassHead_73 : decode cX2_checkClassHead 73 = .ok (.getfield 74, 3) := by decide +kernel
theorem dX2_checkClassHead_76 : decode cX2_checkClassHead 76 = .ok (.bipush 6, 2) := by decide +kernel
theorem dX2_checkClassHead_78 : decode cX2_checkClassHead 78 = .ok (.iload_n 2, 1) := by decide +kernel
theorem dX2_checkClassHead_79 : decode cX2_checkClassHead 79 = .ok (.iconst 2, 1) := by decide +kernel
theorem dX2_checkClassHead_80 : decode cX2_checkClassHead 80 = .ok (.iadd, 1) := by decide +kernel
theorem dX2_checkClassHead_81 : decode cX2_checkClassHead 81 = .ok (.invokevirtual 186, 3) := by decide +kernel
theorem dX2_checkClassHead_84 : decode cX2_checkClassHead 84 = .ok (.return_, 1) := by decide +kernel
theorem rs_RX2_181 : mx_res RX2 181 = some (0, 9, 9) := by decide +kernel
theorem mt_X2_nameClasses : mx_mt 57 = some (yX2_nameClasses, cX2_nameClasses, 3, none) := rfl
theorem dX2_nameClasses_0 : decode cX2_nameClasses 0 = .ok (.iconst 0, 1) := by decide +kernel
theorem dX2_nameClasses_1 : decode cX2_nameClasses 1 = .ok (.istore_n 1, 1) := by decide +kernel
theorem dX2_nameClasses_2 : decode cX2_nameClasses 2 = .ok (.iload_n 1, 1) := by decide +kernel
theorem dX2_nameClasses_3 : decode cX2_nameClasses 3 = .ok (.aload_n 0, 1) := by decide +kernel
theorem dX2_nameClasses_4 : decode cX2_nameClasses 4 = .ok (.getfield 74, 3) := by decide +kernel
theorem dX2_nameClasses_7 : decode cX2_nameClasses 7 = .ok (.getfield 181, 3) := by decide +kernel
theorem dX2_nameClasses_10 : decode cX2_nameClasses 10 = .ok (.if_icmp .ge 35, 3) := by decide +kernel
theorem dX2_nameClasses_13 : decode cX2_nameClasses 13 = .ok (.iload_n 1, 1) := by decide +kernel
theorem dX2_nameClasses_14 : decode cX2_nameClasses 14 = .ok (.aload_n 0, 1) := by decide +kernel
theorem dX2_nameClasses_15 : decode cX2_nameClasses 15 = .ok (.getfield 24, 3) := by decide +kernel
theorem dX2_nameClasses_18 : decode cX2_nameClasses 18 = .ok (.arraylength, 1) := by decide +kernel
theorem dX2_nameClasses_19 : decode cX2_nameClasses 19 = .ok (.if_icmp .ge 26, 3) := by decide +kernel
theorem dX2_nameClasses_22 : decode cX2_nameClasses 22 = .ok (.aload_n 0, 1) := by decide +kernel
theorem dX2_nameClasses_23 : decode cX2_nameClasses 23 = .ok (.getfield 24, 3) := by decide +kernel
theorem dX2_nameClasses_26 : decode cX2_nameClasses 26 = .ok (.iload_n 1, 1) := by decide +kernel
theorem dX2_nameClasses_27 : decode cX2_nameClasses 27 = .ok (.iload_n 1, 1) := by decide +kernel
theorem dX2_nameClasses_28 : decode cX2_nameClasses 28 = .ok (.bipush 8, 2) := by decide +kernel
theorem dX2_nameClasses_30 : decode cX2_nameClasses 30 = .ok (.if_icmp .ge 7, 3) := by decide +kernel
theorem dX2_nameClasses_33 : decode cX2_nameClasses 33 = .ok (.iload_n 1, 1) := by decide +kernel
theorem dX2_nameClasses_34 : decode cX2_nameClasses 34 = .ok (.goto 4, 3) := by decide +kernel
theorem dX2_nameClasses_37 : decode cX2_nameClasses 37 = .ok (.iconst (-1), 1) := by decide +kernel
theorem dX2_nameClasses_38 : decode cX2_nameClasses 38 = .ok (.iastore, 1) := by decide +kernel
theorem dX2_nameClasses_39 : decode cX2_nameClasses 39 = .ok (.iinc 1 1, 3) := by decide +kernel
theorem dX2_nameClasses_42 : decode cX2_nameClasses 42 = .ok (.goto (-40), 3) := by decide +kernel
theorem dX2_nameClasses_45 : decode cX2_nameClasses 45 = .ok (.iconst 0, 1) := by decide +kernel
theorem dX2_nameClasses_46 : decode cX2_nameClasses 46 = .ok (.istore_n 1, 1) := by decide +kernel
theorem dX2_nameClasses_47 : decode cX2_nameClasses 47 = .ok (.iload_n 1, 1) := by decide +kernel
theorem dX2_nameClasses_48 : decode cX2_nameClasses 48 = .ok (.aload_n 0, 1) := by decide +kernel
theorem dX2_nameClasses_49 : decode cX2_nameClasses 49 = .ok (.getfield 78, 3) := by decide +kernel
theorem dX2_nameClasses_52 : decode cX2_nameClasses 52 = .ok (.if_icmp .ge 52, 3) := by decide +kernel
theorem dX2_nameClasses_55 : decode cX2_nameClasses 55 = .ok (.aload_n 0, 1) := by decide +kernel
theorem dX2_nameClasses_56 : decode cX2_nameClasses 56 = .ok (.getfield 74, 3) := by decide +kernel
theorem dX2_nameClasses_59 : decode cX2_nameClasses 59 = .ok (.aload_n 0, 1) := by decide +kernel
theorem dX2_nameClasses_60 : decode cX2_nameClasses 60 = .ok (.getfield 20, 3) := by decide +kernel
theorem dX2_nameClasses_63 : decode cX2_nameClasses 63 = .ok (.iload_n 1, 1) := by decide +kernel
theorem dX2_nameClasses_64 : decode cX2_nameClasses 64 = .ok (.iaload, 1) := by decide +kernel
theorem dX2_nameClasses_65 : decode cX2_nameClasses 65 = .ok (.invokevirtual 135, 3) := by decide +kernel
theorem dX2_nameClasses_68 : decode cX2_nameClasses 68 = .ok (.istore_n 2, 1) := by decide +kernel
theorem dX2_nameClasses_69 : decode cX2_nameClasses 69 = .ok (.iload_n 2, 1) := by decide +kernel
theorem dX2_nameClasses_70 : decode cX2_nameClasses 70 = .ok (.aload_n 0, 1) := by decide +kernel
theorem dX2_nameClasses_71 : decode cX2_nameClasses 71 = .ok (.getfield 24, 3) := by decide +kernel
theorem dX2_nameClasses_74 : decode cX2_nameClasses 74 = .ok (.arraylength, 1) := by decide +kernel
theorem dX2_nameClasses_75 : decode cX2_nameClasses 75 = .ok (.if_icmp .ge 23, 3) := by decide +kernel
theorem dX2_nameClasses_78 : decode cX2_nameClasses 78 = .ok (.aload_n 0, 1) := by decide +kernel
theorem dX2_nameClasses_79 : decode cX2_nameClasses 79 = .ok (.getfield 24, 3) := by decide +kernel
theorem dX2_nameClasses_82 : decode cX2_nameClasses 82 = .ok (.iload_n 2, 1) := by decide +kernel
theorem dX2_nameClasses_83 : decode cX2_nameClasses 83 = .ok (.iaload, 1) := by decide +kernel
theorem dX2_nameClasses_84 : decode cX2_nameClasses 84 = .ok (.iconst (-1), 1) := by decide +kernel
theorem dX2_nameClasses_85 : decode cX2_nameClasses 85 = .ok (.if_icmp .ne 13, 3) := by decide +kernel
theorem dX2_nameClasses_88 : decode cX2_nameClasses 88 = .ok (.aload_n 0, 1) := by decide +kernel
theorem dX2_nameClasses_89 : decode cX2_nameClasses 89 = .ok (.getfield 24, 3) := by decide +kernel
theorem dX2_nameClasses_92 : decode cX2_nameClasses 92 = .ok (.iload_n 2, 1) := by decide +kernel
theorem dX2_nameClasses_93 : decode cX2_nameClasses 93 = .ok (.bipush 8, 2) := by decide +kernel
theorem dX2_nameClasses_95 : decode cX2_nameClasses 95 = .ok (.iload_n 1, 1) := by decide +kernel
theorem dX2_nameClasses_96 : decode cX2_nameClasses 96 = .ok (.iadd, 1) := by decide +kernel
theorem dX2_nameClasses_97 : decode cX2_nameClasses 97 = .ok (.iastore, 1) := by decide +kernel
theorem dX2_nameClasses_98 : decode cX2_nameClasses 98 = .ok (.iinc 1 1, 3) := by decide +kernel
theorem dX2_nameClasses_101 : decode cX2_nameClasses 101 = .ok (.goto (-54), 3) := by decide +kernel
theorem dX2_nameClasses_104 : decode cX2_nameClasses 104 = .ok (.return_, 1) := by decide +kernel
theorem mt_X4_setAbove : mx_mt 132 = some (yX4_setAbove, cX4_setAbove, 3, none) := rfl
theorem dX4_setAbove_0 : decode cX4_setAbove 0 = .ok (.iload_n 1, 1) := by decide +kernel
theorem dX4_setAbove_1 : decode cX4_setAbove 1 = .ok (.invokestatic 31, 3) := by decide +kernel
theorem dX4_setAbove_4 : decode cX4_setAbove 4 = .ok (.ifCond .eq 10, 3) := by decide +kernel
theorem dX4_setAbove_7 : decode cX4_setAbove 7 = .ok (.aload_n 0, 1) := by decide +kernel
theorem dX4_setAbove_8 : decode cX4_setAbove 8 = .ok (.getfield 11, 3) := by decide +kernel
theorem dX4_setAbove_11 : decode cX4_setAbove 11 = .ok (.iload_n 1, 1) := by decide +kernel
theorem dX4_setAbove_12 : decode cX4_setAbove 12 = .ok (.iload_n 2, 1) := by decide +kernel
theorem dX4_setAbove_13 : decode cX4_setAbove 13 = .ok (.iastore, 1) := by decide +kernel
theorem dX4_setAbove_14 : decode cX4_setAbove 14 = .ok (.return_, 1) := by decide +kernel
