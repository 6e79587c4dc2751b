theorem rs_RX5_1 : mx_res RX5 1 = some (9, 3, 14) := by decide +kernel
theorem rs_RX5_5 : mx_res RX5 5 = some (5, 0, 0) := by decide +kernel
theorem rs_RX5_13 : mx_res RX5 13 = some (0, 5, 8) := by decide +kernel
theorem rs_RX5_17 : mx_res RX5 17 = some (0, 5, 9) := by decide +kernel
theorem rs_RX5_20 : mx_res RX5 20 = some (0, 5, 10) := by decide +kernel
theorem rs_RX5_23 : mx_res RX5 23 = some (0, 5, 11) := by decide +kernel
theorem rs_RX5_26 : mx_res RX5 26 = some (0, 5, 12) := by decide +kernel
theorem rs_RX5_29 : mx_res RX5 29 = some (0, 5, 13) := by decide +kernel
theorem rs_RX5_32 : mx_res RX5 32 = some (0, 5, 14) := by decide +kernel
theorem rs_RX5_35 : mx_res RX5 35 = some (0, 5, 15) := by decide +kernel
theorem rs_RX5_38 : mx_res RX5 38 = some (0, 5, 16) := by decide +kernel
theorem rs_RX5_41 : mx_res RX5 41 = some (0, 5, 0) := by decide +kernel
theorem rs_RX5_45 : mx_res RX5 45 = some (4, 91, 0) := by decide +kernel
theorem rs_RX5_46 : mx_res RX5 46 = some (0, 5, 18) := by decide +kernel
theorem ft_5_0 : mx_fty 5 0 = some ((.object "ClassMill$Space"), true, "ClassMill$Machine") := by decide +kernel
theorem ft_5_8 : mx_fty 5 8 = some ((.array .int), true, "ClassMill$Machine") := by decide +kernel
theorem ft_5_9 : mx_fty 5 9 = some ((.array .int), true, "ClassMill$Machine") := by decide +kernel
theorem ft_5_10 : mx_fty 5 10 = some ((.array .int), true, "ClassMill$Machine") := by decide +kernel
theorem ft_5_11 : mx_fty 5 11 = some ((.array .int), true, "ClassMill$Machine") := by decide +kernel
theorem ft_5_12 : mx_fty 5 12 = some ((.array .int), true, "ClassMill$Machine") := by decide +kernel
theorem ft_5_13 : mx_fty 5 13 = some ((.array .int), true, "ClassMill$Machine") := by decide +kernel
theorem ft_5_14 : mx_fty 5 14 = some ((.array .int), true, "ClassMill$Machine") := by decide +kernel
theorem ft_5_15 : mx_fty 5 15 = some ((.array .int), true, "ClassMill$Machine") := by decide +kernel
theorem ft_5_16 : mx_fty 5 16 = some ((.array .int), true, "ClassMill$Machine") := by decide +kernel
theorem ft_5_18 : mx_fty 5 18 = some ((.object "ClassMill$Image"), false, "ClassMill$Machine") := by decide +kernel
theorem mt_X5_init : mx_mt 142 = some (yX5_init, cX5_init, 2, none) := rfl
theorem dX5_init_0 : decode cX5_init 0 = .ok (.aload_n 0, 1) := by decide +kernel
theorem dX5_init_1 : decode cX5_init 1 = .ok (.invokespecial 5, 3) := by decide +kernel
theorem dX5_init_4 : decode cX5_init 4 = .ok (.aload_n 0, 1) := by decide +kernel
theorem dX5_init_5 : decode cX5_init 5 = .ok (.sipush 1000, 3) := by decide +kernel
theorem dX5_init_8 : decode cX5_init 8 = .ok (.newarray .int, 2) := by decide +kernel
theorem dX5_init_10 : decode cX5_init 10 = .ok (.putfield 13, 3) := by decide +kernel
theorem dX5_init_13 : decode cX5_init 13 = .ok (.aload_n 0, 1) := by decide +kernel
theorem dX5_init_14 : decode cX5_init 14 = .ok (.sipush 2001, 3) := by decide +kernel
theorem dX5_init_17 : decode cX5_init 17 = .ok (.newarray .int, 2) := by decide +kernel
theorem dX5_init_19 : decode cX5_init 19 = .ok (.putfield 17, 3) := by decide +kernel
theorem dX5_init_22 : decode cX5_init 22 = .ok (.aload_n 0, 1) := by decide +kernel
theorem dX5_init_23 : decode cX5_init 23 = .ok (.sipush 2002, 3) := by decide +kernel
theorem dX5_init_26 : decode cX5_init 26 = .ok (.newarray .int, 2) := by decide +kernel
theorem dX5_init_28 : decode cX5_init 28 = .ok (.putfield 20, 3) := by decide +kernel
theorem dX5_init_31 : decode cX5_init 31 = .ok (.aload_n 0, 1) := by decide +kernel
theorem dX5_init_32 : decode cX5_init 32 = .ok (.sipush 20000, 3) := by decide +kernel
theorem dX5_init_35 : decode cX5_init 35 = .ok (.newarray .int, 2) := by decide +kernel
theorem dX5_init_37 : decode cX5_init 37 = .ok (.putfield 23, 3) := by decide +kernel
theorem dX5_init_40 : decode cX5_init 40 = .ok (.aload_n 0, 1) := by decide +kernel
theorem dX5_init_41 : decode cX5_init 41 = .ok (.bipush 60, 2) := by decide +kernel
theorem dX5_init_43 : decode cX5_init 43 = .ok (.newarray .int, 2) := by decide +kernel
theorem dX5_init_45 : decode cX5_init 45 = .ok (.putfield 26, 3) := by decide +kernel
theorem dX5_init_48 : decode cX5_init 48 = .ok (.aload_n 0, 1) := by decide +kernel
theorem dX5_init_49 : decode cX5_init 49 = .ok (.bipush 60, 2) := by decide +kernel
theorem dX5_init_51 : decode cX5_init 51 = .ok (.newarray .int, 2) := by decide +kernel
theorem dX5_init_53 : decode cX5_init 53 = .ok (.putfield 29, 3) := by decide +kernel
theorem dX5_init_56 : decode cX5_init 56 = .ok (.aload_n 0, 1) := by decide +kernel
theorem dX5_init_57 : decode cX5_init 57 = .ok (.bipush 60, 2) := by decide +kernel
theorem dX5_init_59 : decode cX5_init 59 = .ok (.newarray .int, 2) := by decide +kernel
theorem dX5_init_61 : decode cX5_init 61 = .ok (.putfield 32, 3) := by decide +kernel
theorem dX5_init_64 : decode cX5_init 64 = .ok (.aload_n 0, 1) := by decide +kernel
theorem dX5_init_65 : decode cX5_init 65 = .ok (.sipush 1800, 3) := by decide +kernel
theorem dX5_init_68 : decode cX5_init 68 = .ok (.newarray .int, 2) := by decide +kernel
theorem dX5_init_70 : decode cX5_init 70 = .ok (.putfield 35, 3) := by decide +kernel
theorem dX5_init_73 : decode cX5_init 73 = .ok (.aload_n 0, 1) := by decide +kernel
theorem dX5_init_74 : decode cX5_init 74 = .ok (.sipush 1800, 3) := by decide +kernel
theorem dX5_init_77 : decode cX5_init 77 = .ok (.newarray .int, 2) := by decide +kernel
theorem dX5_init_79 : decode cX5_init 79 = .ok (.putfield 38, 3) := by decide +kernel
theorem dX5_init_82 : decode cX5_init 82 = .ok (.aload_n 0, 1) := by decide +kernel
theorem dX5_init_83 : decode cX5_init 83 = .ok (.aload_n 1, 1) := by decide +kernel
theorem dX5_init_84 : decode cX5_init 84 = .ok (.putfield 41, 3) := by decide +kernel
theorem dX5_init_87 : decode cX5_init 87 = .ok (.aload_n 0, 1) := by decide +kernel
theorem dX5_init_88 : decode cX5_init 88 = .ok (.new 1, 3) := by decide +kernel
theorem dX5_init_91 : decode cX5_init 91 = .ok (.dup, 1) := by decide +kernel
theorem dX5_init_92 : decode cX5_init 92 = .ok (.invokespecial 45, 3) := by decide +kernel
theorem dX5_init_95 : decode cX5_init 95 = .ok (.putfield 46, 3) := by decide +kernel
theorem dX5_init_98 : decode cX5_init 98 = .ok (.aload_n 0, 1) := by decide +kernel
theorem dX5_init_99 : decode cX5_init 99 = .ok (.iconst (-1), 1) := by decide +kernel
theorem dX5_init_100 : decode cX5_init 100 = .ok (.putfield 50, 3) := by decide +kernel
theorem dX5_init_103 : decode cX5_init 103 = .ok (.return_, 1) := by decide +kernel
theorem rs_RX7_7 : mx_res RX7 7 = some (5, 0, 0) := by decide +kernel
theorem rs_RX7_13 : mx_res RX7 13 = some (9, 4, 2) := by decide +kernel
theorem rs_RX7_15 : mx_res RX7 15 = some (3, 129, 0) := by decide +kernel
theorem rs_RX7_20 : mx_res RX7 20 = some (9, 3, 14) := by decide +kernel
theorem rs_RX7_22 : mx_res RX7 22 = some (0, 7, 1) := by decide +kernel
theorem rs_RX7_26 : mx_res RX7 26 = some (4, 91, 0) := by decide +kernel
theorem rs_RX7_27 : mx_res RX7 27 = some (0, 7, 2) := by decide +kernel
theorem rs_RX7_31 : mx_res RX7 31 = some (0, 7, 5) := by decide +kernel
theorem rs_RX7_35 : mx_res RX7 35 = some (0, 7, 6) := by decide +kernel
theorem rs_RX7_38 : mx_res RX7 38 = some (0, 7, 7) := by decide +kernel
theorem rs_RX7_100020 : mx_res RX7 100020 = some (10, 3, 0) := by decide +kernel
theorem ft_7_0 : mx_fty 7 0 = some ((.object "ClassMill$Kin"), true, "ClassMill$Space") := by decide +kernel
theorem ft_7_1 : mx_fty 7 1 = some ((.array (.object "ClassMill$Image")), true, "ClassMill$Space") := by decide +kernel
theorem ft_7_2 : mx_fty 7 2 = some ((.object "ClassMill$Image"), false, "ClassMill$Space") := by decide +kernel
theorem ft_7_5 : mx_fty 7 5 = some ((.array .int), true, "ClassMill$Space") := by decide +kernel
theorem ft_7_6 : mx_fty 7 6 = some ((.array .int), true, "ClassMill$Space") := by decide +kernel
theorem ft_7_7 : mx_fty 7 7 = some ((.array .int), true, "ClassMill$Space") := by decide +kernel
theorem mt_X7_init : mx_mt 196 = some (yX7_init, cX7_init, 2, none) := rfl
theorem dX7_init_0 : decode cX7_init 0 = .ok (.aload_n 0, 1) := by decide +kernel
theorem dX7_init_1 : decode cX7_init 1 = .ok (.invokespecial 7, 3) := by decide +kernel
theorem dX7_init_4 : decode cX7_init 4 = .ok (.aload_n 0, 1) := by decide +kernel
theorem dX7_init_5 : decode cX7_init 5 = .ok (.new 13, 3) := by decide +kernel
theorem dX7_init_8 : decode cX7_init 8 = .ok (.dup, 1) := by decide +kernel
theorem dX7_init_9 : decode cX7_init 9 = .ok (.invokespecial 15, 3) := by decide +kernel
theorem dX7_init_12 : decode cX7_init 12 = .ok (.putfield 16, 3) := by decide +kernel
theorem dX7_init_15 : decode cX7_init 15 = .ok (.aload_n 0, 1) := by decide +kernel
theorem dX7_init_16 : decode cX7_init 16 = .ok (.bipush 8, 2) := by decide +kernel
theorem dX7_init_18 : decode cX7_init 18 = .ok (.anewarray 20, 3) := by decide +kernel
theorem dX7_init_21 : decode cX7_init 21 = .ok (.putfield 22, 3) := by decide +kernel
theorem dX7_init_24 : decode cX7_init 24 = .ok (.aload_n 0, 1) := by decide +kernel
theorem dX7_init_25 : decode cX7_init 25 = .ok (.new 20, 3) := by decide +kernel
theorem dX7_init_28 : decode cX7_init 28 = .ok (.dup, 1) := by decide +kernel
theorem dX7_init_29 : decode cX7_init 29 = .ok (.invokespecial 26, 3) := by decide +kernel
theorem dX7_init_32 : decode cX7_init 32 = .ok (.putfield 27, 3) := by decide +kernel
theorem dX7_init_35 : decode cX7_init 35 = .ok (.aload_n 0, 1) := by decide +kernel
theorem dX7_init_36 : decode cX7_init 36 = .ok (.sipush 2048, 3) := by decide +kernel
theorem dX7_init_39 : decode cX7_init 39 = .ok (.newarray .int, 2) := by decide +kernel
theorem dX7_init_41 : decode cX7_init 41 = .ok (.putfield 31, 3) := by decide +kernel
theorem dX7_init_44 : decode cX7_init 44 = .ok (.aload_n 0, 1) := by decide +kernel
theorem dX7_init_45 : decode cX7_init 45 = .ok (.bipush 16, 2) := by decide +kernel
theorem dX7_init_47 : decode cX7_init 47 = .ok (.newarray .int, 2) := by decide +kernel
theorem dX7_init_49 : decode cX7_init 49 = .ok (.putfield 35, 3) := by decide +kernel
theorem dX7_init_52 : decode cX7_init 52 = .ok (.aload_n 0, 1) := by decide +kernel
theorem dX7_init_53 : decode cX7_init 53 = .ok (.sipush 768, 3) := by decide +kernel
theorem dX7_init_56 : decode cX7_init 56 = .ok (.newarray .int, 2) := by decide +kernel
theorem dX7_init_58 : decode cX7_init 58 = .ok (.putfield 38, 3) := by decide +kernel
theorem dX7_init_61 : decode cX7_init 61 = .ok (.iconst 0, 1) := by decide +kernel
theorem dX7_init_62 : decode cX7_init 62 = .ok (.istore_n 1, 1) := by decide +kernel
theorem dX7_init_63 : decode cX7_init 63 = .ok (.iload_n 1, 1) := by decide +kernel
theorem dX7_init_64 : decode cX7_init 64 = .ok (.bipush 8, 2) := by decide +kernel
theorem dX7_init_66 : decode cX7_init 66 = .ok (.if_icmp .ge 22, 3) := by decide +kernel
theorem dX7_init_69 : decode cX7_init 69 = .ok (.aload_n 0, 1) := by decide +kernel
theorem dX7_init_70 : decode cX7_init 70 = .ok (.getfield 22, 3) := by decide +kernel
theorem dX7_init_73 : decode cX7_init 73 = .ok (.iload_n 1, 1) := by decide +kernel
theorem dX7_init_74 : decode cX7_init 74 = .ok (.new 20, 3) := by decide +kernel
theorem dX7_init_77 : decode cX7_init 77 = .ok (.dup, 1) := by decide +kernel
theorem dX7_init_78 : decode cX7_init 78 = .ok (.invokespecial 26, 3) := by decide +kernel
theorem dX7_init_81 : decode cX7_init 81 = .ok (.aastore, 1) := by decide +kernel
theorem dX7_init_82 : decode cX7_init 82 = .ok (.iinc 1 1, 3) := by decide +kernel
theorem dX7_init_85 : decode cX7_init 85 = .ok (.goto (-22), 3) := by decide +kernel
theorem dX7_init_88 : decode cX7_init 88 = .ok (.return_, 1) := by decide +kernel
theorem rs_RX8_1 : mx_res RX8 1 = some (5, 0, 0) := by decide +kernel
theorem ft_8_0 : mx_fty 8 0 = some ((.object "ClassMill$Text"), true, "ClassMill$Syntax") := by decide +kernel
theorem ft_8_1 : mx_fty 8 1 = some ((.object "ClassMill$Heads"), true, "ClassMill$Syntax") := by decide +kernel
theorem mt_X8_init : mx_mt 219 = some (yX8_init, cX8_init, 3, none) := rfl
theorem dX8_init_0 : decode cX8_init 0 = .ok (.aload_n 0, 1) := by decide +kernel
theorem dX8_init_1 : decode cX8_init 1 = .ok (.invokespecial 1, 3) := by decide +kernel
theorem dX8_init_4 : decode cX8_init 4 = .ok (.aload_n 0, 1) := by decide +kernel
theorem dX8_init_5 : decode cX8_init 5 = .ok (.aload_n 1, 1) := by decide +kernel
theorem dX8_init_6 : decode cX8_init 6 = .ok (.putfield 7, 3) := by decide +kernel
theorem dX8_init_9 : decode cX8_init 9 = .ok (.aload_n 0, 1) := by decide +kernel
theorem dX8_init_10 : decode cX8_init 10 = .ok (.aload_n 2, 1) := by decide +kernel
theorem dX8_init_11 : decode cX8_init 11 = .ok (.putfield 13, 3) := by decide +kernel
theorem dX8_init_14 : decode cX8_init 14 = .ok (.return_, 1) := by decide +kernel
theorem rs_RX9_9 : mx_res RX9 9 = some (5, 0, 0) := by decide +kernel
theorem rs_RX9_45 : mx_res RX9 45 = some (2, 600, 2) := by decide +kernel
theorem rs_RX9_51 : mx_res RX9 51 = some (12, 0, 0) := by decide +kernel
theorem rs_RX9_53 : mx_res RX9 53 = some (17, 0, 0) := by decide +kernel
theorem rs_RX9_59 : mx_res RX9 59 = some (16, 0, 0) := by decide +kernel
theorem ft_9_0 : mx_fty 9 0 = some ((.array .int), true, "ClassMill$Text") := by decide +kernel
theorem ft_9_1 : mx_fty 9 1 = some ((.array .int), true, "ClassMill$Text") := by decide +kernel
theorem ft_9_2 : mx_fty 9 2 = some ((.array .int), true, "ClassMill$Text") := by decide +kernel
theorem ft_9_4 : mx_fty 9 4 = some ((.array .byte), true, "ClassMill$Text") := by decide +kernel
theorem ft_9_5 : mx_fty 9 5 = some ((.array .int), true, "ClassMill$Text") := by decide +kernel
theorem ft_9_6 : mx_fty 9 6 = some ((.array .int), true, "ClassMill$Text") := by decide +kernel
theorem ft_9_7 : mx_fty 9 7 = some ((.array .int), true, "ClassMill$Text") := by decide +kernel
theorem ft_9_8 : mx_fty 9 8 = some ((.array .int), true, "ClassMill$Text") := by decide +kernel
theorem mt_X9_init : mx_mt 241 = some (yX9_init, cX9_init, 3, none) := rfl
theorem dX9_init_0 : decode cX9_init 0 = .ok (.aload_n 0, 1) := by decide +kernel
theorem dX9_init_1 : decode cX9_init 1 = .ok (.invokespecial 9, 3) := by decide +kernel
theorem dX9_init_4 : decode cX9_init 4 = .ok (.aload_n 0, 1) := by decide +kernel
theorem dX9_init_5 : decode cX9_init 5 = .ok (.sipush 3001, 3) := by decide +kernel
theorem dX9_init_8 : decode cX9_init 8 = .ok (.newarray .int, 2) := by decide +kernel
theorem dX9_init_10 : decode cX9_init 10 = .ok (.putfield 15, 3) := by decide +kernel
theorem dX9_init_13 : decode cX9_init 13 = .ok (.aload_n 0, 1) := by decide +kernel
theorem dX9_init_14 : decode cX9_init 14 = .ok (.sipush 3001, 3) := by decide +kernel
theorem dX9_init_17 : decode cX9_init 17 = .ok (.newarray .int, 2) := by decide +kernel
theorem dX9_init_19 : decode cX9_init 19 = .ok (.putfield 19, 3) := by decide +kernel
theorem dX9_init_22 : decode cX9_init 22 = .ok (.aload_n 0, 1) := by decide +kernel
theorem dX9_init_23 : decode cX9_init 23 = .ok (.sipush 3001, 3) := by decide +kernel
theorem dX9_init_26 : decode cX9_init 26 = .ok (.newarray .int, 2) := by decide +kernel
theorem dX9_init_28 : decode cX9_init 28 = .ok (.putfield 22, 3) := by decide +kernel
theorem dX9_init_31 : decode cX9_init 31 = .ok (.aload_n 0, 1) := by decide +kernel
theorem dX9_init_32 : decode cX9_init 32 = .ok (.sipush 6400, 3) := by decide +kernel
theorem dX9_init_35 : decode cX9_init 35 = .ok (.newarray .byte, 2) := by decide +kernel
theorem dX9_init_37 : decode cX9_init 37 = .ok (.putfield 25, 3) := by decide +kernel
theorem dX9_init_40 : decode cX9_init 40 = .ok (.aload_n 0, 1) := by decide +kernel
theorem dX9_init_41 : decode cX9_init 41 = .ok (.sipush 1741, 3) := by decide +kernel
theorem dX9_init_44 : decode cX9_init 44 = .ok (.newarray .int, 2) := by decide +kernel
theorem dX9_init_46 : decode cX9_init 46 = .ok (.putfield 29, 3) := by decide +kernel
theorem dX9_init_49 : decode cX9_init 49 = .ok (.aload_n 0, 1) := by decide +kernel
theorem dX9_init_50 : decode cX9_init 50 = .ok (.sipush 1740, 3) := by decide +kernel
theorem dX9_init_53 : decode cX9_init 53 = .ok (.newarray .int, 2) := by decide +kernel
theorem dX9_init_55 : decode cX9_init 55 = .ok (.putfield 32, 3) := by decide +kernel
theorem dX9_init_58 : decode cX9_init 58 = .ok (.aload_n 0, 1) := by decide +kernel
theorem dX9_init_59 : decode cX9_init 59 = .ok (.bipush 64, 2) := by decide +kernel
theorem dX9_init_61 : decode cX9_init 61 = .ok (.newarray .int, 2) := by decide +kernel
theorem dX9_init_63 : decode cX9_init 63 = .ok (.putfield 35, 3) := by decide +kernel
theorem dX9_init_66 : decode cX9_init 66 = .ok (.aload_n 0, 1) := by decide +kernel
theorem dX9_init_67 : decode cX9_init 67 = .ok (.bipush 64, 2) := by decide +kernel
theorem dX9_init_69 : decode cX9_init 69 = .ok (.newarray .int, 2) := by decide +kernel
theorem dX9_init_71 : decode cX9_init 71 = .ok (.putfield 38, 3) := by decide +kernel
theorem dX9_init_74 : decode cX9_init 74 = .ok (.aload_n 0, 1) := by decide +kernel
theorem dX9_init_75 : decode cX9_init 75 = .ok (.iconst (-1), 1) := by decide +kernel
theorem dX9_init_76 : decode cX9_init 76 = .ok (.putfield 41, 3) := by decide +kernel
theorem dX9_init_79 : decode cX9_init 79 = .ok (.aload_n 0, 1) := by decide +kernel
theorem dX9_init_80 : decode cX9_init 80 = .ok (.getfield 35, 3) := by decide +kernel
theorem dX9_init_83 : decode cX9_init 83 = .ok (.iconst (-1), 1) := by decide +kernel
theorem dX9_init_84 : decode cX9_init 84 = .ok (.invokestatic 45, 3) := by decide +kernel
theorem dX9_init_87 : decode cX9_init 87 = .ok (.iconst 0, 1) := by decide +kernel
theorem dX9_init_88 : decode cX9_init 88 = .ok (.istore_n 1, 1) := by decide +kernel
theorem dX9_init_89 : decode cX9_init 89 = .ok (.iconst 0, 1) := by decide +kernel
theorem dX9_init_90 : decode cX9_init 90 = .ok (.istore_n 2, 1) := by decide +kernel
theorem dX9_init_91 : decode cX9_init 91 = .ok (.iload_n 2, 1) := by decide +kernel
theorem dX9_init_92 : decode cX9_init 92 = .ok (.ldc 51, 2) := by decide +kernel
theorem dX9_init_94 : decode cX9_init 94 = .ok (.invokevirtual 53, 3) := by decide +kernel
theorem dX9_init_97 : decode cX9_init 97 = .ok (.if_icmp .ge 44, 3) := by decide +kernel
theorem dX9_init_100 : decode cX9_init 100 = .ok (.ldc 51, 2) := by decide +kernel
theorem dX9_init_102 : decode cX9_init 102 = .ok (.iload_n 2, 1) := by decide +kernel
theorem dX9_init_103 : decode cX9_init 103 = .ok (.invokevirtual 59, 3) := by decide +kernel
theorem dX9_init_106 : decode cX9_init 106 = .ok (.bipush 32, 2) := by decide +kernel
theorem dX9_init_108 : decode cX9_init 108 = .ok (.if_icmp .ne 11, 3) := by decide +kernel
theorem dX9_init_111 : decode cX9_init 111 = .ok (.aload_n 0, 1) := by decide +kernel
theorem dX9_init_112 : decode cX9_init 112 = .ok (.iload_n 1, 1) := by decide +kernel
theorem dX9_init_113 : decode cX9_init 113 = .ok (.invokevirtual 63, 3) := by decide +kernel
theorem dX9_init_116 : decode cX9_init 116 = .ok (.goto 19, 3) := by decide +kernel
theorem dX9_init_119 : decode cX9_init 119 = .ok (.aload_n 0, 1) := by decide +kernel
theorem dX9_init_120 : decode cX9_init 120 = .ok (.getfield 25, 3) := by decide +kernel
theorem dX9_init_123 : decode cX9_init 123 = .ok (.iload_n 1, 1) := by decide +kernel
theorem dX9_init_124 : decode cX9_init 124 = .ok (.ldc 51, 2) := by decide +kernel
theorem dX9_init_126 : decode cX9_init 126 = .ok (.iload_n 2, 1) := by decide +kernel
theorem dX9_init_127 : decode cX9_init 127 = .ok (.invokevirtual 59, 3) := by decide +kernel
theorem dX9_init_130 : decode cX9_init 130 = .ok (.i2b, 1) := by decide +kernel
theorem dX9_init_131 : decode cX9_init 131 = .ok (.bastore, 1) := by decide +kernel
theorem dX9_init_132 : decode cX9_init 132 = .ok (.iinc 1 1, 3) := by decide +kernel
theorem dX9_init_135 : decode cX9_init 135 = .ok (.iinc 2 1, 3) := by decide +kernel
theorem dX9_init_138 : decode cX9_init 138 = .ok (.goto (-47), 3) := by decide +kernel
theorem dX9_init_141 : decode cX9_init 141 = .ok (.aload_n 0, 1) := by decide +kernel
theorem dX9_init_142 : decode cX9_init 142 = .ok (.getfield 35, 3) := by decide +kernel
theorem dX9_init_145 : decode cX9_init 145 = .ok (.iconst 0, 1) := by decide +kernel
theorem dX9_init_146 : decode cX9_init 146 = .ok (.aload_n 0, 1) := by decide +kernel
theorem dX9_init_147 : decode cX9_init 147 = .ok (.getfield 38, 3) := by decide +kernel
theorem dX9_init_150 : decode cX9_init 150 = .ok (.iconst 0, 1) := by decide +kernel
theorem dX9_init_151 : decode cX9_init 151 = .ok (.bipush 64, 2) := by decide +kernel
theorem dX9_init_153 : decode cX9_init 153 = .ok (.invokestatic 67, 3) := by decide +kernel
theorem dX9_init_156 : decode cX9_init 156 = .ok (.return_, 1) := by decide +kernel
theorem rs_RX12_1 : mx_res RX12 1 = some (5, 0, 0) := by decide +kernel
theorem rs_RX12_13 : mx_res RX12 13 = some (9, 9, 13) := by decide +kernel
theorem rs_RX12_15 : mx_res RX12 15 = some (3, 241, 0) := by decide +kernel
theorem rs_RX12_20 : mx_res RX12 20 = some (9, 2, 21) := by decide +kernel
theorem rs_RX12_22 : mx_res RX12 22 = some (3, 46, 1) := by decide +kernel
theorem rs_RX12_29 : mx_res RX12 29 = some (9, 8, 2) := by decide +kernel
theorem rs_RX12_31 : mx_res RX12 31 = some (3, 219, 2) := by decide +kernel
theorem rs_RX12_38 : mx_res RX12 38 = some (9, 0, 13) := by decide +kernel
theorem rs_RX12_40 : mx_res RX12 40 = some (3, 1, 2) := by decide +kernel
theorem rs_RX12_50 : mx_res RX12 50 = some (9, 7, 8) := by decide +kernel
theorem rs_RX12_52 : mx_res RX12 52 = some (3, 196, 0) := by decide +kernel
theorem rs_RX12_57 : mx_res RX12 57 = some (9, 11, 21) := by decide +kernel
theorem rs_RX12_59 : mx_res RX12 59 = some (3, 306, 1) := by decide +kernel
theorem rs_RX12_62 : mx_res RX12 62 = some (0, 12, 9) := by decide +kernel
theorem rs_RX12_66 : mx_res RX12 66 = some (9, 5, 21) := by decide +kernel
theorem rs_RX12_68 : mx_res RX12 68 = some (3, 142, 1) := by decide +kernel
theorem rs_RX12_100045 : mx_res RX12 100045 = some (11, 0, 0) := by decide +kernel
theorem ft_12_0 : mx_fty 12 0 = some ((.array .byte), true, "ClassMill") := by decide +kernel
theorem ft_12_2 : mx_fty 12 2 = some ((.object "ClassMill$Text"), true, "ClassMill") := by decide +kernel
theorem ft_12_3 : mx_fty 12 3 = some ((.object "ClassMill$Syntax"), true, "ClassMill") := by decide +kernel
theorem ft_12_4 : mx_fty 12 4 = some ((.object "ClassMill$Heads"), true, "ClassMill") := by decide +kernel
theorem ft_12_5 : mx_fty 12 5 = some ((.object "ClassMill$Bodies"), true, "ClassMill") := by decide +kernel
theorem ft_12_6 : mx_fty 12 6 = some ((.array (.array .byte)), true, "ClassMill") := by decide +kernel
theorem ft_12_8 : mx_fty 12 8 = some ((.object "ClassMill$Space"), true, "ClassMill") := by decide +kernel
theorem ft_12_9 : mx_fty 12 9 = some ((.object "ClassMill$Verifier"), true, "ClassMill") := by decide +kernel
theorem ft_12_10 : mx_fty 12 10 = some ((.object "ClassMill$Machine"), true, "ClassMill") := by decide +kernel
theorem dx_0 (X : Nat × (Nat → Int32)) : mx_dfl (mx_GG X) 0 13 = some dl_0 := (mx_dflX X (0, fun _ => 0) 0 13).trans (by decide +kernel)
theorem dx_2 (X : Nat × (Nat → Int32)) : mx_dfl (mx_GG X) 2 21 = some dl_2 := (mx_dflX X (0, fun _ => 0) 2 21).trans (by decide +kernel)
theorem dx_5 (X : Nat × (Nat → Int32)) : mx_dfl (mx_GG X) 5 21 = some dl_5 := (mx_dflX X (0, fun _ => 0) 5 21).trans (by decide +kernel)
theorem dx_7 (X : Nat × (Nat → Int32)) : mx_dfl (mx_GG X) 7 8 = some dl_7 := (mx_dflX X (0, fun _ => 0) 7 8).trans (by decide +kernel)
theorem dx_8 (X : Nat × (Nat → Int32)) : mx_dfl (mx_GG X) 8 2 = some dl_8 := (mx_dflX X (0, fun _ => 0) 8 2).trans (by decide +kernel)
theorem dx_9 (X : Nat × (Nat → Int32)) : mx_dfl (mx_GG X) 9 13 = some dl_9 := (mx_dflX X (0, fun _ => 0) 9 13).trans (by decide +kernel)
theorem dx_11 (X : Nat × (Nat → Int32)) : mx_dfl (mx_GG X) 11 21 = some dl_11 := (mx_dflX X (0, fun _ => 0) 11 21).trans (by decide +kernel)
theorem mt_X12_init : mx_mt 359 = some (yX12_init, cX12_init, 1, none) := rfl
theorem dX12_init_0 : decode cX12_init 0 = .ok (.aload_n 0, 1) := by decide +kernel
theorem dX12_init_1 : decode cX12_init 1 = .ok (.invokespecial 1, 3) := by decide +kernel
theorem dX12_init_4 : decode cX12_init 4 = .ok (.aload_n 0, 1) := by decide +kernel
theorem dX12_init_5 : decode cX12_init 5 = .ok (.sipush 6000, 3) := by decide +kernel
theorem dX12_init_8 : decode cX12_init 8 = .ok (.newarray .byte, 2) := by decide +kernel
theorem dX12_init_10 : decode cX12_init 10 = .ok (.putfield 9, 3) := by decide +kernel
theorem dX12_init_13 : decode cX12_init 13 = .ok (.aload_n 0, 1) := by decide +kernel
theorem dX12_init_14 : decode cX12_init 14 = .ok (.new 13, 3) := by decide +kernel
theorem dX12_init_17 : decode cX12_init 17 = .ok (.dup, 1) := by decide +kernel
theorem dX12_init_18 : decode cX12_init 18 = .ok (.invokespecial 15, 3) := by decide +kernel
theorem dX12_init_21 : decode cX12_init 21 = .ok (.putfield 16, 3) := by decide +kernel
theorem dX12_init_24 : decode cX12_init 24 = .ok (.aload_n 0, 1) := by decide +kernel
theorem dX12_init_25 : decode cX12_init 25 = .ok (.new 20, 3) := by decide +kernel
theorem dX12_init_28 : decode cX12_init 28 = .ok (.dup, 1) := by decide +kernel
theorem dX12_init_29 : decode cX12_init 29 = .ok (.aload_n 0, 1) := by decide +kernel
theorem dX12_init_30 : decode cX12_init 30 = .ok (.getfield 16, 3) := by decide +kernel
theorem dX12_init_33 : decode cX12_init 33 = .ok (.invokespecial 22, 3) := by decide +kernel
theorem dX12_init_36 : decode cX12_init 36 = .ok (.putfield 25, 3) := by decide +kernel
theorem dX12_init_39 : decode cX12_init 39 = .ok (.aload_n 0, 1) := by decide +kernel
theorem dX12_init_40 : decode cX12_init 40 = .ok (.new 29, 3) := by decide +kernel
theorem dX12_init_43 : decode cX12_init 43 = .ok (.dup, 1) := by decide +kernel
theorem dX12_init_44 : decode cX12_init 44 = .ok (.aload_n 0, 1) := by decide +kernel
theorem dX12_init_45 : decode cX12_init 45 = .ok (.getfield 16, 3) := by decide +kernel
theorem dX12_init_48 : decode cX12_init 48 = .ok (.aload_n 0, 1) := by decide +kernel
theorem dX12_init_49 : decode cX12_init 49 = .ok (.getfield 25, 3) := by decide +kernel
theorem dX12_init_52 : decode cX12_init 52 = .ok (.invokespecial 31, 3) := by decide +kernel
theorem dX12_init_55 : decode cX12_init 55 = .ok (.putfield 34, 3) := by decide +kernel
theorem dX12_init_58 : decode cX12_init 58 = .ok (.aload_n 0, 1) := by decide +kernel
theorem dX12_init_59 : decode cX12_init 59 = .ok (.new 38, 3) := by decide +kernel
theorem dX12_init_62 : decode cX12_init 62 = .ok (.dup, 1) := by decide +kernel
theorem dX12_init_63 : decode cX12_init 63 = .ok (.aload_n 0, 1) := by decide +kernel
theorem dX12_init_64 : decode cX12_init 64 = .ok (.getfield 16, 3) := by decide +kernel
theorem dX12_init_67 : decode cX12_init 67 = .ok (.aload_n 0, 1) := by decide +kernel
theorem dX12_init_68 : decode cX12_init 68 = .ok (.getfield 25, 3) := by decide +kernel
theorem dX12_init_71 : decode cX12_init 71 = .ok (.invokespecial 40, 3) := by decide +kernel
theorem dX12_init_74 : decode cX12_init 74 = .ok (.putfield 41, 3) := by decide +kernel
theorem dX12_init_77 : decode cX12_init 77 = .ok (.aload_n 0, 1) := by decide +kernel
theorem dX12_init_78 : decode cX12_init 78 = .ok (.bipush 8, 2) := by decide +kernel
theorem dX12_init_80 : decode cX12_init 80 = .ok (.anewarray 45, 3) := by decide +kernel
theorem dX12_init_83 : decode cX12_init 83 = .ok (.putfield 46, 3) := by decide +kernel
theorem dX12_init_86 : decode cX12_init 86 = .ok (.aload_n 0, 1) := by decide +kernel
theorem dX12_init_87 : decode cX12_init 87 = .ok (.new 50, 3) := by decide +kernel
theorem dX12_init_90 : decode cX12_init 90 = .ok (.dup, 1) := by decide +kernel
theorem dX12_init_91 : decode cX12_init 91 = .ok (.invokespecial 52, 3) := by decide +kernel
theorem dX12_init_94 : decode cX12_init 94 = .ok (.putfield 53, 3) := by decide +kernel
theorem dX12_init_97 : decode cX12_init 97 = .ok (.aload_n 0, 1) := by decide +kernel
theorem dX12_init_98 : decode cX12_init 98 = .ok (.new 57, 3) := by decide +kernel
theorem dX12_init_101 : decode cX12_init 101 = .ok (.dup, 1) := by decide +kernel
theorem dX12_init_102 : decode cX12_init 102 = .ok (.aload_n 0, 1) := by decide +kernel
theorem dX12_init_103 : decode cX12_init 103 = .ok (.getfield 53, 3) := by decide +kernel
theorem dX12_init_106 : decode cX12_init 106 = .ok (.invokespecial 59, 3) := by decide +kernel
theorem dX12_init_109 : decode cX12_init 109 = .ok (.putfield 62, 3) := by decide +kernel
theorem dX12_init_112 : decode cX12_init 112 = .ok (.aload_n 0, 1) := by decide +kernel
theorem dX12_init_113 : decode cX12_init 113 = .ok (.new 66, 3) := by decide +kernel
theorem dX12_init_116 : decode cX12_init 116 = .ok (.dup, 1) := by decide +kernel
theorem dX12_init_117 : decode cX12_init 117 = .ok (.aload_n 0, 1) := by decide +kernel
theorem dX12_init_118 : decode cX12_init 118 = .ok (.getfield 53, 3) := by decide +kernel
theorem dX12_init_121 : decode cX12_init 121 = .ok (.invokespecial 68, 3) := by decide +kernel
theorem dX12_init_124 : decode cX12_init 124 = .ok (.putfield 69, 3) := by decide +kernel
theorem dX12_init_127 : decode cX12_init 127 = .ok (.return_, 1) := by decide +kernel
theorem rs_RJ7_150 : mx_res RJ7 150 = some (6, 0, 0) := by decide +kernel
theorem rs_RJ7_304 : mx_res RJ7 304 = some (14, 0, 0) := by decide +kernel
theorem rs_RJ7_310 : mx_res RJ7 310 = some (18, 0, 0) := by decide +kernel
theorem rs_RJ7_200311 : mx_res RJ7 200311 = some (19, 0, 0) := by decide +kernel
theorem mt_J7_copyOf_9075b : mx_mt 602 = some (yJ7_copyOf_9075b, cJ7_copyOf_9075b, 3, (some (.array .byte))) := rfl
theorem dJ7_copyOf_9075b_0 : decode cJ7_copyOf_9075b 0 = .ok (.iload_n 1, 1) := by decide +kernel
theorem dJ7_copyOf_9075b_1 : decode cJ7_copyOf_9075b 1 = .ok (.aload_n 0, 1) := by decide +kernel
theorem dJ7_copyOf_9075b_2 : decode cJ7_copyOf_9075b 2 = .ok (.arraylength, 1) := by decide +kernel
theorem dJ7_copyOf_9075b_3 : decode cJ7_copyOf_9075b 3 = .ok (.if_icmp .ne 11, 3) := by decide +kernel
theorem dJ7_copyOf_9075b_6 : decode cJ7_copyOf_9075b 6 = .ok (.aload_n 0, 1) := by decide +kernel
theorem dJ7_copyOf_9075b_7 : decode cJ7_copyOf_9075b 7 = .ok (.invokevirtual 310, 3) := by decide +kernel
theorem dJ7_copyOf_9075b_10 : decode cJ7_copyOf_9075b 10 = .ok (.checkcast 311, 3) := by decide +kernel
theorem dJ7_copyOf_9075b_13 : decode cJ7_copyOf_9075b 13 = .ok (.areturn, 1) := by decide +kernel
theorem dJ7_copyOf_9075b_14 : decode cJ7_copyOf_9075b 14 = .ok (.iload_n 1, 1) := by decide +kernel
theorem dJ7_copyOf_9075b_15 : decode cJ7_copyOf_9075b 15 = .ok (.newarray .byte, 2) := by decide +kernel
theorem dJ7_copyOf_9075b_17 : decode cJ7_copyOf_9075b 17 = .ok (.astore_n 2, 1) := by decide +kernel
theorem dJ7_copyOf_9075b_18 : decode cJ7_copyOf_9075b 18 = .ok (.aload_n 0, 1) := by decide +kernel
theorem dJ7_copyOf_9075b_19 : decode cJ7_copyOf_9075b 19 = .ok (.iconst 0, 1) := by decide +kernel
theorem dJ7_copyOf_9075b_20 : decode cJ7_copyOf_9075b 20 = .ok (.aload_n 2, 1) := by decide +kernel
theorem dJ7_copyOf_9075b_21 : decode cJ7_copyOf_9075b 21 = .ok (.iconst 0, 1) := by decide +kernel
theorem dJ7_copyOf_9075b_22 : decode cJ7_copyOf_9075b 22 = .ok (.aload_n 0, 1) := by decide +kernel
theorem dJ7_copyOf_9075b_23 : decode cJ7_copyOf_9075b 23 = .ok (.arraylength, 1) := by decide +kernel
theorem dJ7_copyOf_9075b_24 : decode cJ7_copyOf_9075b 24 = .ok (.iload_n 1, 1) := by decide +kernel
theorem dJ7_copyOf_9075b_25 : decode cJ7_copyOf_9075b 25 = .ok (.invokestatic 304, 3) := by decide +kernel
theorem dJ7_copyOf_9075b_28 : decode cJ7_copyOf_9075b 28 = .ok (.invokestatic 150, 3) := by decide +kernel
theorem dJ7_copyOf_9075b_31 : decode cJ7_copyOf_9075b 31 = .ok (.aload_n 2, 1) := by decide +kernel
theorem dJ7_copyOf_9075b_32 : decode cJ7_copyOf_9075b 32 = .ok (.areturn, 1) := by decide +kernel
theorem rs_RX3_39 : mx_res RX3 39 = some (0, 3, 1) := by decide +kernel
theorem rs_RX3_81 : mx_res RX3 81 = some (2, 602, 2) := by decide +kernel
theorem mt_X3_keepOwn : mx_mt 93 = some (yX3_keepOwn, cX3_keepOwn, 1, none) := rfl
theorem dX3_keepOwn_0 : decode cX3_keepOwn 0 = .ok (.aload_n 0, 1) := by decide +kernel
theorem dX3_keepOwn_1 : decode cX3_keepOwn 1 = .ok (.aload_n 0, 1) := by decide +kernel
theorem dX3_keepOwn_2 : decode cX3_keepOwn 2 = .ok (.getfield 9, 3) := by decide +kernel
theorem dX3_keepOwn_5 : decode cX3_keepOwn 5 = .ok (.aload_n 0, 1) := by decide +kernel
theorem dX3_keepOwn_6 : decode cX3_keepOwn 6 = .ok (.getfield 39, 3) := by decide +kernel
theorem dX3_keepOwn_9 : decode cX3_keepOwn 9 = .ok (.invokestatic 81, 3) := by decide +kernel
theorem dX3_keepOwn_12 : decode cX3_keepOwn 12 = .ok (.putfield 9, 3) := by decide +kernel
theorem dX3_keepOwn_15 : decode cX3_keepOwn 15 = .ok (.return_, 1) := by decide +kernel
theorem rs_RX3_46 : mx_res RX3 46 = some (0, 3, 3) := by decide +kernel
theorem ft_3_3 : mx_fty 3 3 = some (.int, false, "ClassMill$Image") := by decide +kernel
theorem mt_X3_bad : mx_mt 95 = some (yX3_bad, cX3_bad, 2, none) := rfl
theorem dX3_bad_0 : decode cX3_bad 0 = .ok (.aload_n 0, 1) := by decide +kernel
theorem dX3_bad_1 : decode cX3_bad 1 = .ok (.getfield 46, 3) := by decide +kernel
theorem dX3_bad_4 : decode cX3_bad 4 = .ok (.iconst (-1), 1) := by decide +kernel
theorem dX3_bad_5 : decode cX3_bad 5 = .ok (.if_icmp .ne 8, 3) := by decide +kernel
theorem dX3_bad_8 : decode cX3_bad 8 = .ok (.aload_n 0, 1) := by decide +kernel
theorem dX3_bad_9 : decode cX3_bad 9 = .ok (.iload_n 1, 1) := by decide +kernel
theorem dX3_bad_10 : decode cX3_bad 10 = .ok (.putfield 46, 3) := by decide +kernel
theorem dX3_bad_13 : decode cX3_bad 13 = .ok (.return_, 1) := by decide +kernel
theorem mt_X3_byteAt : mx_mt 103 = some (yX3_byteAt, cX3_byteAt, 2, (some .int)) := rfl
theorem dX3_byteAt_0 : decode cX3_byteAt 0 = .ok (.iload_n 1, 1) := by decide +kernel
theorem dX3_byteAt_1 : decode cX3_byteAt 1 = .ok (.ifCond .lt 24, 3) := by decide +kernel
theorem dX3_byteAt_4 : decode cX3_byteAt 4 = .ok (.iload_n 1, 1) := by decide +kernel
theorem dX3_byteAt_5 : decode cX3_byteAt 5 = .ok (.aload_n 0, 1) := by decide +kernel
theorem dX3_byteAt_6 : decode cX3_byteAt 6 = .ok (.getfield 39, 3) := by decide +kernel
theorem dX3_byteAt_9 : decode cX3_byteAt 9 = .ok (.if_icmp .ge 16, 3) := by decide +kernel
theorem dX3_byteAt_12 : decode cX3_byteAt 12 = .ok (.aload_n 0, 1) := by decide +kernel
theorem dX3_byteAt_13 : decode cX3_byteAt 13 = .ok (.getfield 9, 3) := by decide +kernel
theorem dX3_byteAt_16 : decode cX3_byteAt 16 = .ok (.iload_n 1, 1) := by decide +kernel
theorem dX3_byteAt_17 : decode cX3_byteAt 17 = .ok (.baload, 1) := by decide +kernel
theorem dX3_byteAt_18 : decode cX3_byteAt 18 = .ok (.sipush 255, 3) := by decide +kernel
theorem dX3_byteAt_21 : decode cX3_byteAt 21 = .ok (.iand, 1) := by decide +kernel
theorem dX3_byteAt_22 : decode cX3_byteAt 22 = .ok (.goto 4, 3) := by decide +kernel
theorem dX3_byteAt_25 : decode cX3_byteAt 25 = .ok (.iconst 0, 1) := by decide +kernel
theorem dX3_byteAt_26 : decode cX3_byteAt 26 = .ok (.ireturn, 1) := by decide +kernel
theorem rs_RX3_90 : mx_res RX3 90 = some (0, 3, 7) := by decide +kernel
theorem mt_X3_tagOf : mx_mt 102 = some (yX3_tagOf, cX3_tagOf, 2, (some .int)) := rfl
theorem dX3_tagOf_0 : decode cX3_tagOf 0 = .ok (.iload_n 1, 1) := by decide +kernel
theorem dX3_tagOf_1 : decode cX3_tagOf 1 = .ok (.iconst 1, 1) := by decide +kernel
theorem dX3_tagOf_2 : decode cX3_tagOf 2 = .ok (.if_icmp .lt 29, 3) := by decide +kernel
theorem dX3_tagOf_5 : decode cX3_tagOf 5 = .ok (.iload_n 1, 1) := by decide +kernel
theorem dX3_tagOf_6 : decode cX3_tagOf 6 = .ok (.aload_n 0, 1) := by decide +kernel
theorem dX3_tagOf_7 : decode cX3_tagOf 7 = .ok (.getfield 90, 3) := by decide +kernel
theorem dX3_tagOf_10 : decode cX3_tagOf 10 = .ok (.if_icmp .gt 21, 3) := by decide +kernel
theorem dX3_tagOf_13 : decode cX3_tagOf 13 = .ok (.iload_n 1, 1) := by decide +kernel
theorem dX3_tagOf_14 : decode cX3_tagOf 14 = .ok (.aload_n 0, 1) := by decide +kernel
theorem dX3_tagOf_15 : decode cX3_tagOf 15 = .ok (.getfield 15, 3) := by decide +kernel
theorem dX3_tagOf_18 : decode cX3_tagOf 18 = .ok (.arraylength, 1) := by decide +kernel
theorem dX3_tagOf_19 : decode cX3_tagOf 19 = .ok (.if_icmp .ge 12, 3) := by decide +kernel
theorem dX3_tagOf_22 : decode cX3_tagOf 22 = .ok (.aload_n 0, 1) := by decide +kernel
theorem dX3_tagOf_23 : decode cX3_tagOf 23 = .ok (.getfield 15, 3) := by decide +kernel
theorem dX3_tagOf_26 : decode cX3_tagOf 26 = .ok (.iload_n 1, 1) := by decide +kernel
theorem dX3_tagOf_27 : decode cX3_tagOf 27 = .ok (.iaload, 1) := by decide +kernel
theorem dX3_tagOf_28 : decode cX3_tagOf 28 = .ok (.goto 4, 3) := by decide +kernel
theorem dX3_tagOf_31 : decode cX3_tagOf 31 = .ok (.iconst 0, 1) := by decide +kernel
theorem dX3_tagOf_32 : decode cX3_tagOf 32 = .ok (.ireturn, 1) := by decide +kernel
theorem rs_RX3_112 : mx_res RX3 112 = some (1, 102, 1) := by decide +kernel
theorem rs_RX3_119 : mx_res RX3 119 = some (1, 103, 1) := by decide +kernel
theorem mt_X3_isArrayText : mx_mt 113 = some (yX3_isArrayText, cX3_isArrayText, 2, (some .boolean)) := rfl
theorem dX3_isArrayText_0 : decode cX3_isArrayText 0 = .ok (.aload_n 0, 1) := by decide +kernel
theorem dX3_isArrayText_1 : decode cX3_isArrayText 1 = .ok (.iload_n 1, 1) := by decide +kernel
theorem dX3_isArrayText_2 : decode cX3_isArrayText 2 = .ok (.invokevirtual 112, 3) := by decide +kernel
theorem dX3_isArrayText_5 : decode cX3_isArrayText 5 = .ok (.iconst 1, 1) := by decide +kernel
theorem dX3_isArrayText_6 : decode cX3_isArrayText 6 = .ok (.if_icmp .ne 22, 3) := by decide +kernel
theorem dX3_isArrayText_9 : decode cX3_isArrayText 9 = .ok (.aload_n 0, 1) := by decide +kernel
theorem dX3_isArrayText_10 : decode cX3_isArrayText 10 = .ok (.aload_n 0, 1) := by decide +kernel
theorem dX3_isArrayText_11 : decode cX3_isArrayText 11 = .ok (.getfield 19, 3) := by decide +kernel
theorem dX3_isArrayText_14 : decode cX3_isArrayText 14 = .ok (.iload_n 1, 1) := by decide +kernel
theorem dX3_isArrayText_15 : decode cX3_isArrayText 15 = .ok (.iaload, 1) := by decide +kernel
theorem dX3_isArrayText_16 : decode cX3_isArrayText 16 = .ok (.invokevirtual 119, 3) := by decide +kernel
theorem dX3_isArrayText_19 : decode cX3_isArrayText 19 = .ok (.bipush 91, 2) := by decide +kernel
theorem dX3_isArrayText_21 : decode cX3_isArrayText 21 = .ok (.if_icmp .ne 7, 3) := by decide +kernel
theorem dX3_isArrayText_24 : decode cX3_isArrayText 24 = .ok (.iconst 1, 1) := by decide +kernel
theorem dX3_isArrayText_25 : decode cX3_isArrayText 25 = .ok (.goto 4, 3) := by decide +kernel
theorem dX3_isArrayText_28 : decode cX3_isArrayText 28 = .ok (.iconst 0, 1) := by decide +kernel
theorem dX3_isArrayText_29 : decode cX3_isArrayText 29 = .ok (.ireturn, 1) := by decide +kernel
theorem rs_RX3_43 : mx_res RX3 43 = some (0, 3, 2) := by decide +kernel
theorem ft_3_2 : mx_fty 3 2 = some (.int, false, "ClassMill$Image") := by decide +kernel
theorem mt_X3_next : mx_mt 96 = some (yX3_next, cX3_next, 1, (some .int)) := rfl
theorem dX3_next_0 : decode cX3_next 0 = .ok (.aload_n 0, 1) := by decide +kernel
theorem dX3_next_1 : decode cX3_next 1 = .ok (.getfield 43, 3) := by decide +kernel
theorem dX3_next_4 : decode cX3_next 4 = .ok (.aload_n 0, 1) := by decide +kernel
theorem dX3_next_5 : decode cX3_next 5 = .ok (.getfield 39, 3) := by decide +kernel
theorem dX3_next_8 : decode cX3_next 8 = .ok (.if_icmp .lt 28, 3) := by decide +kernel
theorem dX3_next_11 : decode cX3_next 11 = .ok (.aload_n 0, 1) := by decide +kernel
theorem dX3_next_12 : decode cX3_next 12 = .ok (.aload_n 0, 1) := by decide +kernel
theorem dX3_next_13 : decode cX3_next 13 = .ok (.getfield 46, 3) := by decide +kernel
theorem dX3_next_16 : decode cX3_next 16 = .ok (.iconst (-1), 1) := by decide +kernel
theorem dX3_next_17 : decode cX3_next 17 = .ok (.if_icmp .ne 10, 3) := by decide +kernel
theorem dX3_next_20 : decode cX3_next 20 = .ok (.aload_n 0, 1) := by decide +kernel
theorem dX3_next_21 : decode cX3_next 21 = .ok (.getfield 39, 3) := by decide +kernel
theorem dX3_next_24 : decode cX3_next 24 = .ok (.goto 7, 3) := by decide +kernel
theorem dX3_next_27 : decode cX3_next 27 = .ok (.aload_n 0, 1) := by decide +kernel
theorem dX3_next_28 : decode cX3_next 28 = .ok (.getfield 46, 3) := by decide +kernel
theorem dX3_next_31 : decode cX3_next 31 = .ok (.putfield 46, 3) := by decide +kernel
theorem dX3_next_34 : decode cX3_next 34 = .ok (.iconst 0, 1) := by decide +kernel
theorem dX3_next_35 : decode cX3_next 35 = .ok (.ireturn, 1) := by decide +kernel
theorem dX3_next_36 : decode cX3_next 36 = .ok (.aload_n 0, 1) := by decide +kernel
theorem dX3_next_37 : decode cX3_next 37 = .ok (.dup, 1) := by decide +kernel
theorem dX3_next_38 : decode cX3_next 38 = .ok (.getfield 43, 3) := by decide +kernel
theorem dX3_next_41 : decode cX3_next 41 = .ok (.iconst 1, 1) := by decide +kernel
theorem dX3_next_42 : decode cX3_next 42 = .ok (.iadd, 1) := by decide +kernel
theorem dX3_next_43 : decode cX3_next 43 = .ok (.putfield 43, 3) := by decide +kernel
theorem dX3_next_46 : decode cX3_next 46 = .ok (.aload_n 0, 1) := by decide +kernel
theorem dX3_next_47 : decode cX3_next 47 = .ok (.getfield 9, 3) := by decide +kernel
theorem dX3_next_50 : decode cX3_next 50 = .ok (.aload_n 0, 1) := by decide +kernel
theorem dX3_next_51 : decode cX3_next 51 = .ok (.getfield 43, 3) := by decide +kernel
theorem dX3_next_54 : decode cX3_next 54 = .ok (.iconst 1, 1) := by decide +kernel
theorem dX3_next_55 : decode cX3_next 55 = .ok (.isub, 1) := by decide +kernel
theorem dX3_next_56 : decode cX3_next 56 = .ok (.baload, 1) := by decide +kernel
theorem dX3_next_57 : decode cX3_next 57 = .ok (.sipush 255, 3) := by decide +kernel
theorem dX3_next_60 : decode cX3_next 60 = .ok (.iand, 1) := by decide +kernel
theorem dX3_next_61 : decode cX3_next 61 = .ok (.ireturn, 1) := by decide +kernel
theorem mt_X3_partOf : mx_mt 105 = some (yX3_partOf, cX3_partOf, 3, (some .int)) := rfl
theorem dX3_partOf_0 : decode cX3_partOf 0 = .ok (.iload_n 1, 1) := by decide +kernel
theorem dX3_partOf_1 : decode cX3_partOf 1 = .ok (.iconst 1, 1) := by decide +kernel
theorem dX3_partOf_2 : decode cX3_partOf 2 = .ok (.if_icmp .lt 35, 3) := by decide +kernel
theorem dX3_partOf_5 : decode cX3_partOf 5 = .ok (.iload_n 1, 1) := by decide +kernel
theorem dX3_partOf_6 : decode cX3_partOf 6 = .ok (.aload_n 0, 1) := by decide +kernel
theorem dX3_partOf_7 : decode cX3_partOf 7 = .ok (.getfield 90, 3) := by decide +kernel
theorem dX3_partOf_10 : decode cX3_partOf 10 = .ok (.if_icmp .gt 27, 3) := by decide +kernel
theorem dX3_partOf_13 : decode cX3_partOf 13 = .ok (.iload_n 1, 1) := by decide +kernel
theorem dX3_partOf_14 : decode cX3_partOf 14 = .ok (.aload_n 0, 1) := by decide +kernel
theorem dX3_partOf_15 : decode cX3_partOf 15 = .ok (.getfield 19, 3) := by decide +kernel
theorem dX3_partOf_18 : decode cX3_partOf 18 = .ok (.arraylength, 1) := by decide +kernel
theorem dX3_partOf_19 : decode cX3_partOf 19 = .ok (.if_icmp .ge 18, 3) := by decide +kernel
theorem dX3_partOf_22 : decode cX3_partOf 22 = .ok (.aload_n 0, 1) := by decide +kernel
theorem dX3_partOf_23 : decode cX3_partOf 23 = .ok (.aload_n 0, 1) := by decide +kernel
theorem dX3_partOf_24 : decode cX3_partOf 24 = .ok (.getfield 19, 3) := by decide +kernel
theorem dX3_partOf_27 : decode cX3_partOf 27 = .ok (.iload_n 1, 1) := by decide +kernel
theorem dX3_partOf_28 : decode cX3_partOf 28 = .ok (.iaload, 1) := by decide +kernel
theorem dX3_partOf_29 : decode cX3_partOf 29 = .ok (.iload_n 2, 1) := by decide +kernel
theorem dX3_partOf_30 : decode cX3_partOf 30 = .ok (.iadd, 1) := by decide +kernel
theorem dX3_partOf_31 : decode cX3_partOf 31 = .ok (.invokevirtual 119, 3) := by decide +kernel
theorem dX3_partOf_34 : decode cX3_partOf 34 = .ok (.goto 4, 3) := by decide +kernel
theorem dX3_partOf_37 : decode cX3_partOf 37 = .ok (.iconst 0, 1) := by decide +kernel
theorem dX3_partOf_38 : decode cX3_partOf 38 = .ok (.ireturn, 1) := by decide +kernel
theorem rs_RX3_78 : mx_res RX3 78 = some (1, 95, 1) := by decide +kernel
theorem rs_RX3_87 : mx_res RX3 87 = some (1, 96, 0) := by decide +kernel
theorem rs_RX3_99 : mx_res RX3 99 = some (1, 105, 2) := by decide +kernel
theorem rs_RX3_106 : mx_res RX3 106 = some (1, 113, 1) := by decide +kernel
theorem mt_X3_nextPlainClass : mx_mt 118 = some (yX3_nextPlainClass, cX3_nextPlainClass, 3, (some .int)) := rfl
theorem dX3_nextPlainClass_0 : decode cX3_nextPlainClass 0 = .ok (.aload_n 0, 1) := by decide +kernel
theorem dX3_nextPlainClass_1 : decode cX3_nextPlainClass 1 = .ok (.invokevirtual 87, 3) := by decide +kernel
theorem dX3_nextPlainClass_4 : decode cX3_nextPlainClass 4 = .ok (.istore_n 1, 1) := by decide +kernel
theorem dX3_nextPlainClass_5 : decode cX3_nextPlainClass 5 = .ok (.aload_n 0, 1) := by decide +kernel
theorem dX3_nextPlainClass_6 : decode cX3_nextPlainClass 6 = .ok (.iload_n 1, 1) := by decide +kernel
theorem dX3_nextPlainClass_7 : decode cX3_nextPlainClass 7 = .ok (.iconst 0, 1) := by decide +kernel
theorem dX3_nextPlainClass_8 : decode cX3_nextPlainClass 8 = .ok (.invokevirtual 99, 3) := by decide +kernel
theorem dX3_nextPlainClass_11 : decode cX3_nextPlainClass 11 = .ok (.istore_n 2, 1) := by decide +kernel
theorem dX3_nextPlainClass_12 : decode cX3_nextPlainClass 12 = .ok (.aload_n 0, 1) := by decide +kernel
theorem dX3_nextPlainClass_13 : decode cX3_nextPlainClass 13 = .ok (.iload_n 1, 1) := by decide +kernel
theorem dX3_nextPlainClass_14 : decode cX3_nextPlainClass 14 = .ok (.invokevirtual 112, 3) := by decide +kernel
theorem dX3_nextPlainClass_17 : decode cX3_nextPlainClass 17 = .ok (.iconst 3, 1) := by decide +kernel
theorem dX3_nextPlainClass_18 : decode cX3_nextPlainClass 18 = .ok (.if_icmp .ne 11, 3) := by decide +kernel
theorem dX3_nextPlainClass_21 : decode cX3_nextPlainClass 21 = .ok (.aload_n 0, 1) := by decide +kernel
theorem dX3_nextPlainClass_22 : decode cX3_nextPlainClass 22 = .ok (.iload_n 2, 1) := by decide +kernel
theorem dX3_nextPlainClass_23 : decode cX3_nextPlainClass 23 = .ok (.invokevirtual 106, 3) := by decide +kernel
theorem dX3_nextPlainClass_26 : decode cX3_nextPlainClass 26 = .ok (.ifCond .eq 13, 3) := by decide +kernel
theorem dX3_nextPlainClass_29 : decode cX3_nextPlainClass 29 = .ok (.aload_n 0, 1) := by decide +kernel
theorem dX3_nextPlainClass_30 : decode cX3_nextPlainClass 30 = .ok (.aload_n 0, 1) := by decide +kernel
theorem dX3_nextPlainClass_31 : decode cX3_nextPlainClass 31 = .ok (.getfield 43, 3) := by decide +kernel
theorem dX3_nextPlainClass_34 : decode cX3_nextPlainClass 34 = .ok (.iconst 1, 1) := by decide +kernel
theorem dX3_nextPlainClass_35 : decode cX3_nextPlainClass 35 = .ok (.isub, 1) := by decide +kernel
theorem dX3_nextPlainClass_36 : decode cX3_nextPlainClass 36 = .ok (.invokevirtual 78, 3) := by decide +kernel
theorem dX3_nextPlainClass_39 : decode cX3_nextPlainClass 39 = .ok (.iload_n 2, 1) := by decide +kernel
theorem dX3_nextPlainClass_40 : decode cX3_nextPlainClass 40 = .ok (.ireturn, 1) := by decide +kernel
theorem mt_X3_nextUpTo : mx_mt 97 = some (yX3_nextUpTo, cX3_nextUpTo, 4, (some .int)) := rfl
theorem dX3_nextUpTo_0 : decode cX3_nextUpTo 0 = .ok (.aload_n 0, 1) := by decide +kernel
theorem dX3_nextUpTo_1 : decode cX3_nextUpTo 1 = .ok (.invokevirtual 87, 3) := by decide +kernel
theorem dX3_nextUpTo_4 : decode cX3_nextUpTo 4 = .ok (.istore_n 3, 1) := by decide +kernel
theorem dX3_nextUpTo_5 : decode cX3_nextUpTo 5 = .ok (.iload_n 3, 1) := by decide +kernel
theorem dX3_nextUpTo_6 : decode cX3_nextUpTo 6 = .ok (.iload_n 1, 1) := by decide +kernel
theorem dX3_nextUpTo_7 : decode cX3_nextUpTo 7 = .ok (.if_icmp .lt 8, 3) := by decide +kernel
theorem dX3_nextUpTo_10 : decode cX3_nextUpTo 10 = .ok (.iload_n 3, 1) := by decide +kernel
theorem dX3_nextUpTo_11 : decode cX3_nextUpTo 11 = .ok (.iload_n 2, 1) := by decide +kernel
theorem dX3_nextUpTo_12 : decode cX3_nextUpTo 12 = .ok (.if_icmp .le 13, 3) := by decide +kernel
theorem dX3_nextUpTo_15 : decode cX3_nextUpTo 15 = .ok (.aload_n 0, 1) := by decide +kernel
theorem dX3_nextUpTo_16 : decode cX3_nextUpTo 16 = .ok (.aload_n 0, 1) := by decide +kernel
theorem dX3_nextUpTo_17 : decode cX3_nextUpTo 17 = .ok (.getfield 43, 3) := by decide +kernel
theorem dX3_nextUpTo_20 : decode cX3_nextUpTo 20 = .ok (.iconst 1, 1) := by decide +kernel
theorem dX3_nextUpTo_21 : decode cX3_nextUpTo 21 = .ok (.isub, 1) := by decide +kernel
theorem dX3_nextUpTo_22 : decode cX3_nextUpTo 22 = .ok (.invokevirtual 78, 3) := by decide +kernel
theorem dX3_nextUpTo_25 : decode cX3_nextUpTo 25 = .ok (.iload_n 3, 1) := by decide +kernel
theorem dX3_nextUpTo_26 : decode cX3_nextUpTo 26 = .ok (.ireturn, 1) := by decide +kernel
theorem mt_X9_isName : mx_mt 259 = some (yX9_isName, cX9_isName, 7, (some .boolean)) := rfl
theorem dX9_isName_0 : decode cX9_isName 0 = .ok (.iload_n 1, 1) := by decide +kernel
theorem dX9_isName_1 : decode cX9_isName 1 = .ok (.ifCond .lt 26, 3) := by decide +kernel
theorem dX9_isName_4 : decode cX9_isName 4 = .ok (.iload_n 1, 1) := by decide +kernel
theorem dX9_isName_5 : decode cX9_isName 5 = .ok (.iload_n 2, 1) := by decide +kernel
theorem dX9_isName_6 : decode cX9_isName 6 = .ok (.if_icmp .ge 21, 3) := by decide +kernel
theorem dX9_isName_9 : decode cX9_isName 9 = .ok (.iload_n 2, 1) := by decide +kernel
theorem dX9_isName_10 : decode cX9_isName 10 = .ok (.aload_n 0, 1) := by decide +kernel
theorem dX9_isName_11 : decode cX9_isName 11 = .ok (.arraylength, 1) := by decide +kernel
theorem dX9_isName_12 : decode cX9_isName 12 = .ok (.if_icmp .gt 15, 3) := by decide +kernel
theorem dX9_isName_15 : decode cX9_isName 15 = .ok (.iload_n 2, 1) := by decide +kernel
theorem dX9_isName_16 : decode cX9_isName 16 = .ok (.iload_n 1, 1) := by decide +kernel
theorem dX9_isName_17 : decode cX9_isName 17 = .ok (.isub, 1) := by decide +kernel
theorem dX9_isName_18 : decode cX9_isName 18 = .ok (.bipush 12, 2) := by decide +kernel
theorem dX9_isName_20 : decode cX9_isName 20 = .ok (.if_icmp .gt 7, 3) := by decide +kernel
theorem dX9_isName_23 : decode cX9_isName 23 = .ok (.iconst 1, 1) := by decide +kernel
theorem dX9_isName_24 : decode cX9_isName 24 = .ok (.goto 4, 3) := by decide +kernel
theorem dX9_isName_27 : decode cX9_isName 27 = .ok (.iconst 0, 1) := by decide +kernel
theorem dX9_isName_28 : decode cX9_isName 28 = .ok (.istore_n 3, 1) := by decide +kernel
theorem dX9_isName_29 : decode cX9_isName 29 = .ok (.iload_n 1, 1) := by decide +kernel
theorem dX9_isName_30 : decode cX9_isName 30 = .ok (.istore 4, 2) := by decide +kernel
theorem dX9_isName_32 : decode cX9_isName 32 = .ok (.iload 4, 2) := by decide +kernel
theorem dX9_isName_34 : decode cX9_isName 34 = .ok (.iload_n 2, 1) := by decide +kernel
theorem dX9_isName_35 : decode cX9_isName 35 = .ok (.if_icmp .ge 92, 3) := by decide +kernel
theorem dX9_isName_38 : decode cX9_isName 38 = .ok (.iload_n 3, 1) := by decide +kernel
theorem dX9_isName_39 : decode cX9_isName 39 = .ok (.ifCond .eq 88, 3) := by decide +kernel
theorem dX9_isName_42 : decode cX9_isName 42 = .ok (.aload_n 0, 1) := by decide +kernel
theorem dX9_isName_43 : decode cX9_isName 43 = .ok (.iload 4, 2) := by decide +kernel
theorem dX9_isName_45 : decode cX9_isName 45 = .ok (.baload, 1) := by decide +kernel
theorem dX9_isName_46 : decode cX9_isName 46 = .ok (.istore 5, 2) := by decide +kernel
theorem dX9_isName_48 : decode cX9_isName 48 = .ok (.iload 5, 2) := by decide +kernel
theorem dX9_isName_50 : decode cX9_isName 50 = .ok (.bipush 97, 2) := by decide +kernel
theorem dX9_isName_52 : decode cX9_isName 52 = .ok (.if_icmp .lt 10, 3) := by decide +kernel
theorem dX9_isName_55 : decode cX9_isName 55 = .ok (.iload 5, 2) := by decide +kernel
theorem dX9_isName_57 : decode cX9_isName 57 = .ok (.bipush 122, 2) := by decide +kernel
theorem dX9_isName_59 : decode cX9_isName 59 = .ok (.if_icmp .le 17, 3) := by decide +kernel
theorem dX9_isName_62 : decode cX9_isName 62 = .ok (.iload 5, 2) := by decide +kernel
theorem dX9_isName_64 : decode cX9_isName 64 = .ok (.bipush 65, 2) := by decide +kernel
theorem dX9_isName_66 : decode cX9_isName 66 = .ok (.if_icmp .lt 14, 3) := by decide +kernel
theorem dX9_isName_69 : decode cX9_isName 69 = .ok (.iload 5, 2) := by decide +kernel
theorem dX9_isName_71 : decode cX9_isName 71 = .ok (.bipush 90, 2) := by decide +kernel
theorem dX9_isName_73 : decode cX9_isName 73 = .ok (.if_icmp .gt 7, 3) := by decide +kernel
theorem dX9_isName_76 : decode cX9_isName 76 = .ok (.iconst 1, 1) := by decide +kernel
theorem dX9_isName_77 : decode cX9_isName 77 = .ok (.goto 4, 3) := by decide +kernel
theorem dX9_isName_80 : decode cX9_isName 80 = .ok (.iconst 0, 1) := by decide +kernel
theorem dX9_isName_81 : decode cX9_isName 81 = .ok (.istore 6, 2) := by decide +kernel
theorem dX9_isName_83 : decode cX9_isName 83 = .ok (.iload 6, 2) := by decide +kernel
theorem dX9_isName_85 : decode cX9_isName 85 = .ok (.ifCond .ne 30, 3) := by decide +kernel
theorem dX9_isName_88 : decode cX9_isName 88 = .ok (.iload 4, 2) := by decide +kernel
theorem dX9_isName_90 : decode cX9_isName 90 = .ok (.iload_n 1, 1) := by decide +kernel
theorem dX9_isName_91 : decode cX9_isName 91 = .ok (.if_icmp .le 28, 3) := by decide +kernel
theorem dX9_isName_94 : decode cX9_isName 94 = .ok (.iload 5, 2) := by decide +kernel
theorem dX9_isName_96 : decode cX9_isName 96 = .ok (.bipush 48, 2) := by decide +kernel
theorem dX9_isName_98 : decode cX9_isName 98 = .ok (.if_icmp .lt 10, 3) := by decide +kernel
theorem dX9_isName_101 : decode cX9_isName 101 = .ok (.iload 5, 2) := by decide +kernel
theorem dX9_isName_103 : decode cX9_isName 103 = .ok (.bipush 57, 2) := by decide +kernel
theorem dX9_isName_105 : decode cX9_isName 105 = .ok (.if_icmp .le 10, 3) := by decide +kernel
theorem dX9_isName_108 : decode cX9_isName 108 = .ok (.iload 5, 2) := by decide +kernel
theorem dX9_isName_110 : decode cX9_isName 110 = .ok (.bipush 95, 2) := by decide +kernel
theorem dX9_isName_112 : decode cX9_isName 112 = .ok (.if_icmp .ne 7, 3) := by decide +kernel
theorem dX9_isName_115 : decode cX9_isName 115 = .ok (.iconst 1, 1) := by decide +kernel
theorem dX9_isName_116 : decode cX9_isName 116 = .ok (.goto 4, 3) := by decide +kernel
theorem dX9_isName_119 : decode cX9_isName 119 = .ok (.iconst 0, 1) := by decide +kernel
theorem dX9_isName_120 : decode cX9_isName 120 = .ok (.istore_n 3, 1) := by decide +kernel
theorem dX9_isName_121 : decode cX9_isName 121 = .ok (.iinc 4 1, 3) := by decide +kernel
theorem dX9_isName_124 : decode cX9_isName 124 = .ok (.goto (-92), 3) := by decide +kernel
theorem dX9_isName_127 : decode cX9_isName 127 = .ok (.iload_n 3, 1) := by decide +kernel
theorem dX9_isName_128 : decode cX9_isName 128 = .ok (.ireturn, 1) := by decide +kernel
theorem rs_RX3_143 : mx_res RX3 143 = some (2, 259, 3) := by decide +kernel
theorem mt_X3_behindKind : mx_mt 115 = some (yX3_behindKind, cX3_behindKind, 6, (some .int)) := rfl
theorem dX3_behindKind_0 : decode cX3_behindKind 0 = .ok (.iload_n 1, 1) := by decide +kernel
theorem dX3_behindKind_1 : decode cX3_behindKind 1 = .ok (.iload_n 2, 1) := by decide +kernel
theorem dX3_behindKind_2 : decode cX3_behindKind 2 = .ok (.if_icmp .ge 11, 3) := by decide +kernel
theorem dX3_behindKind_5 : decode cX3_behindKind 5 = .ok (.aload_n 0, 1) := by decide +kernel
theorem dX3_behindKind_6 : decode cX3_behindKind 6 = .ok (.iload_n 1, 1) := by decide +kernel
theorem dX3_behindKind_7 : decode cX3_behindKind 7 = .ok (.invokevirtual 119, 3) := by decide +kernel
theorem dX3_behindKind_10 : decode cX3_behindKind 10 = .ok (.goto 4, 3) := by decide +kernel
theorem dX3_behindKind_13 : decode cX3_behindKind 13 = .ok (.iconst 0, 1) := by decide +kernel
theorem dX3_behindKind_14 : decode cX3_behindKind 14 = .ok (.istore_n 3, 1) := by decide +kernel
theorem dX3_behindKind_15 : decode cX3_behindKind 15 = .ok (.iload_n 3, 1) := by decide +kernel
theorem dX3_behindKind_16 : decode cX3_behindKind 16 = .ok (.bipush 73, 2) := by decide +kernel
theorem dX3_behindKind_18 : decode cX3_behindKind 18 = .ok (.if_icmp .eq 9, 3) := by decide +kernel
theorem dX3_behindKind_21 : decode cX3_behindKind 21 = .ok (.iload_n 3, 1) := by decide +kernel
theorem dX3_behindKind_22 : decode cX3_behindKind 22 = .ok (.bipush 90, 2) := by decide +kernel
theorem dX3_behindKind_24 : decode cX3_behindKind 24 = .ok (.if_icmp .ne 7, 3) := by decide +kernel
theorem dX3_behindKind_27 : decode cX3_behindKind 27 = .ok (.iload_n 1, 1) := by decide +kernel
theorem dX3_behindKind_28 : decode cX3_behindKind 28 = .ok (.iconst 1, 1) := by decide +kernel
theorem dX3_behindKind_29 : decode cX3_behindKind 29 = .ok (.iadd, 1) := by decide +kernel
theorem dX3_behindKind_30 : decode cX3_behindKind 30 = .ok (.ireturn, 1) := by decide +kernel
theorem dX3_behindKind_31 : decode cX3_behindKind 31 = .ok (.iload_n 3, 1) := by decide +kernel
theorem dX3_behindKind_32 : decode cX3_behindKind 32 = .ok (.bipush 91, 2) := by decide +kernel
theorem dX3_behindKind_34 : decode cX3_behindKind 34 = .ok (.if_icmp .ne 9, 3) := by decide +kernel
theorem dX3_behindKind_37 : decode cX3_behindKind 37 = .ok (.iload_n 1, 1) := by decide +kernel
theorem dX3_behindKind_38 : decode cX3_behindKind 38 = .ok (.iconst 1, 1) := by decide +kernel
theorem dX3_behindKind_39 : decode cX3_behindKind 39 = .ok (.iadd, 1) := by decide +kernel
theorem dX3_behindKind_40 : decode cX3_behindKind 40 = .ok (.goto 4, 3) := by decide +kernel
theorem dX3_behindKind_43 : decode cX3_behindKind 43 = .ok (.iload_n 1, 1) := by decide +kernel
theorem dX3_behindKind_44 : decode cX3_behindKind 44 = .ok (.istore 4, 2) := by decide +kernel
theorem dX3_behindKind_46 : decode cX3_behindKind 46 = .ok (.iload 4, 2) := by decide +kernel
theorem dX3_behindKind_48 : decode cX3_behindKind 48 = .ok (.iload_n 2, 1) := by decide +kernel
theorem dX3_behindKind_49 : decode cX3_behindKind 49 = .ok (.if_icmp .ge 12, 3) := by decide +kernel
theorem dX3_behindKind_52 : decode cX3_behindKind 52 = .ok (.aload_n 0, 1) := by decide +kernel
theorem dX3_behindKind_53 : decode cX3_behindKind 53 = .ok (.iload 4, 2) := by decide +kernel
theorem dX3_behindKind_55 : decode cX3_behindKind 55 = .ok (.invokevirtual 119, 3) := by decide +kernel
theorem dX3_behindKind_58 : decode cX3_behindKind 58 = .ok (.goto 4, 3) := by decide +kernel
theorem dX3_behindKind_61 : decode cX3_behindKind 61 = .ok (.iconst 0, 1) := by decide +kernel
theorem dX3_behindKind_62 : decode cX3_behindKind 62 = .ok (.istore_n 3, 1) := by decide +kernel
theorem dX3_behindKind_63 : decode cX3_behindKind 63 = .ok (.iload_n 3, 1) := by decide +kernel
theorem dX3_behindKind_64 : decode cX3_behindKind 64 = .ok (.bipush 73, 2) := by decide +kernel
theorem dX3_behindKind_66 : decode cX3_behindKind 66 = .ok (.if_icmp .ne 8, 3) := by decide +kernel
theorem dX3_behindKind_69 : decode cX3_behindKind 69 = .ok (.iload 4, 2) := by decide +kernel
theorem dX3_behindKind_71 : decode cX3_behindKind 71 = .ok (.iconst 1, 1) := by decide +kernel
theorem dX3_behindKind_72 : decode cX3_behindKind 72 = .ok (.iadd, 1) := by decide +kernel
theorem dX3_behindKind_73 : decode cX3_behindKind 73 = .ok (.ireturn, 1) := by decide +kernel
theorem dX3_behindKind_74 : decode cX3_behindKind 74 = .ok (.iload_n 3, 1) := by decide +kernel
theorem dX3_behindKind_75 : decode cX3_behindKind 75 = .ok (.bipush 76, 2) := by decide +kernel
theorem dX3_behindKind_77 : decode cX3_behindKind 77 = .ok (.if_icmp .eq 5, 3) := by decide +kernel
theorem dX3_behindKind_80 : decode cX3_behindKind 80 = .ok (.iconst (-1), 1) := by decide +kernel
theorem dX3_behindKind_81 : decode cX3_behindKind 81 = .ok (.ireturn, 1) := by decide +kernel
theorem dX3_behindKind_82 : decode cX3_behindKind 82 = .ok (.iload 4, 2) := by decide +kernel
theorem dX3_behindKind_84 : decode cX3_behindKind 84 = .ok (.iconst 1, 1) := by decide +kernel
theorem dX3_behindKind_85 : decode cX3_behindKind 85 = .ok (.iadd, 1) := by decide +kernel
theorem dX3_behindKind_86 : decode cX3_behindKind 86 = .ok (.istore 5, 2) := by decide +kernel
theorem dX3_behindKind_88 : decode cX3_behindKind 88 = .ok (.iload 5, 2) := by decide +kernel
theorem dX3_behindKind_90 : decode cX3_behindKind 90 = .ok (.iload_n 2, 1) := by decide +kernel
theorem dX3_behindKind_91 : decode cX3_behindKind 91 = .ok (.if_icmp .ge 20, 3) := by decide +kernel
theorem dX3_behindKind_94 : decode cX3_behindKind 94 = .ok (.aload_n 0, 1) := by decide +kernel
theorem dX3_behindKind_95 : decode cX3_behindKind 95 = .ok (.iload 5, 2) := by decide +kernel
theorem dX3_behindKind_97 : decode cX3_behindKind 97 = .ok (.invokevirtual 119, 3) := by decide +kernel
theorem dX3_behindKind_100 : decode cX3_behindKind 100 = .ok (.bipush 59, 2) := by decide +kernel
theorem dX3_behindKind_102 : decode cX3_behindKind 102 = .ok (.if_icmp .eq 9, 3) := by decide +kernel
theorem dX3_behindKind_105 : decode cX3_behindKind 105 = .ok (.iinc 5 1, 3) := by decide +kernel
theorem dX3_behindKind_108 : decode cX3_behindKind 108 = .ok (.goto (-20), 3) := by decide +kernel
theorem dX3_behindKind_111 : decode cX3_behindKind 111 = .ok (.iload 5, 2) := by decide +kernel
theorem dX3_behindKind_113 : decode cX3_behindKind 113 = .ok (.iload_n 2, 1) := by decide +kernel
theorem dX3_behindKind_114 : decode cX3_behindKind 114 = .ok (.if_icmp .ge 26, 3) := by decide +kernel
theorem dX3_behindKind_117 : decode cX3_behindKind 117 = .ok (.aload_n 0, 1) := by decide +kernel
theorem dX3_behindKind_118 : decode cX3_behindKind 118 = .ok (.getfield 9, 3) := by decide +kernel
theorem dX3_behindKind_121 : decode cX3_behindKind 121 = .ok (.iload 4, 2) := by decide +kernel
theorem dX3_behindKind_123 : decode cX3_behindKind 123 = .ok (.iconst 1, 1) := by decide +kernel
theorem dX3_behindKind_124 : decode cX3_behindKind 124 = .ok (.iadd, 1) := by decide +kernel
theorem dX3_behindKind_125 : decode cX3_behindKind 125 = .ok (.iload 5, 2) := by decide +kernel
theorem dX3_behindKind_127 : decode cX3_behindKind 127 = .ok (.invokestatic 143, 3) := by decide +kernel
theorem dX3_behindKind_130 : decode cX3_behindKind 130 = .ok (.ifCond .eq 10, 3) := by decide +kernel
theorem dX3_behindKind_133 : decode cX3_behindKind 133 = .ok (.iload 5, 2) := by decide +kernel
theorem dX3_behindKind_135 : decode cX3_behindKind 135 = .ok (.iconst 1, 1) := by decide +kernel
theorem dX3_behindKind_136 : decode cX3_behindKind 136 = .ok (.iadd, 1) := by decide +kernel
theorem dX3_behindKind_137 : decode cX3_behindKind 137 = .ok (.goto 4, 3) := by decide +kernel
theorem dX3_behindKind_140 : decode cX3_behindKind 140 = .ok (.iconst (-1), 1) := by decide +kernel
theorem dX3_behindKind_141 : decode cX3_behindKind 141 = .ok (.ireturn, 1) := by decide +kernel
theorem rs_RX3_149 : mx_res RX3 149 = some (1, 115, 2) := by decide +kernel
theorem mt_X3_isFieldKind : mx_mt 114 = some (yX3_isFieldKind, cX3_isFieldKind, 2, (some .boolean)) := rfl
theorem dX3_isFieldKind_0 : decode cX3_isFieldKind 0 = .ok (.aload_n 0, 1) := by decide +kernel
theorem dX3_isFieldKind_1 : decode cX3_isFieldKind 1 = .ok (.iload_n 1, 1) := by decide +kernel
theorem dX3_isFieldKind_2 : decode cX3_isFieldKind 2 = .ok (.invokevirtual 112, 3) := by decide +kernel
theorem dX3_isFieldKind_5 : decode cX3_isFieldKind 5 = .ok (.iconst 1, 1) := by decide +kernel
theorem dX3_isFieldKind_6 : decode cX3_isFieldKind 6 = .ok (.if_icmp .ne 32, 3) := by decide +kernel
theorem dX3_isFieldKind_9 : decode cX3_isFieldKind 9 = .ok (.aload_n 0, 1) := by decide +kernel
theorem dX3_isFieldKind_10 : decode cX3_isFieldKind 10 = .ok (.aload_n 0, 1) := by decide +kernel
theorem dX3_isFieldKind_11 : decode cX3_isFieldKind 11 = .ok (.getfield 19, 3) := by decide +kernel
theorem dX3_isFieldKind_14 : decode cX3_isFieldKind 14 = .ok (.iload_n 1, 1) := by decide +kernel
theorem dX3_isFieldKind_15 : decode cX3_isFieldKind 15 = .ok (.iaload, 1) := by decide +kernel
theorem dX3_isFieldKind_16 : decode cX3_isFieldKind 16 = .ok (.aload_n 0, 1) := by decide +kernel
theorem dX3_isFieldKind_17 : decode cX3_isFieldKind 17 = .ok (.getfield 22, 3) := by decide +kernel
theorem dX3_isFieldKind_20 : decode cX3_isFieldKind 20 = .ok (.iload_n 1, 1) := by decide +kernel
theorem dX3_isFieldKind_21 : decode cX3_isFieldKind 21 = .ok (.iaload, 1) := by decide +kernel
theorem dX3_isFieldKind_22 : decode cX3_isFieldKind 22 = .ok (.invokevirtual 149, 3) := by decide +kernel
theorem dX3_isFieldKind_25 : decode cX3_isFieldKind 25 = .ok (.aload_n 0, 1) := by decide +kernel
theorem dX3_isFieldKind_26 : decode cX3_isFieldKind 26 = .ok (.getfield 22, 3) := by decide +kernel
theorem dX3_isFieldKind_29 : decode cX3_isFieldKind 29 = .ok (.iload_n 1, 1) := by decide +kernel
theorem dX3_isFieldKind_30 : decode cX3_isFieldKind 30 = .ok (.iaload, 1) := by decide +kernel
theorem dX3_isFieldKind_31 : decode cX3_isFieldKind 31 = .ok (.if_icmp .ne 7, 3) := by decide +kernel
theorem dX3_isFieldKind_34 : decode cX3_isFieldKind 34 = .ok (.iconst 1, 1) := by decide +kernel
theorem dX3_isFieldKind_35 : decode cX3_isFieldKind 35 = .ok (.goto 4, 3) := by decide +kernel
theorem dX3_isFieldKind_38 : decode cX3_isFieldKind 38 = .ok (.iconst 0, 1) := by decide +kernel
theorem dX3_isFieldKind_39 : decode cX3_isFieldKind 39 = .ok (.ireturn, 1) := by decide +kernel
theorem mt_X3_isNameText : mx_mt 112 = some (yX3_isNameText, cX3_isNameText, 2, (some .boolean)) := rfl
theorem dX3_isNameText_0 : decode cX3_isNameText 0 = .ok (.aload_n 0, 1) := by decide +kernel
theorem dX3_isNameText_1 : decode cX3_isNameText 1 = .ok (.iload_n 1, 1) := by decide +kernel
theorem dX3_isNameText_2 : decode cX3_isNameText 2 = .ok (.invokevirtual 112, 3) := by decide +kernel
theorem dX3_isNameText_5 : decode cX3_isNameText 5 = .ok (.iconst 1, 1) := by decide +kernel
theorem dX3_isNameText_6 : decode cX3_isNameText 6 = .ok (.if_icmp .ne 29, 3) := by decide +kernel
theorem dX3_isNameText_9 : decode cX3_isNameText 9 = .ok (.aload_n 0, 1) := by decide +kernel
theorem dX3_isNameText_10 : decode cX3_isNameText 10 = .ok (.getfield 9, 3) := by decide +kernel
theorem dX3_isNameText_13 : decode cX3_isNameText 13 = .ok (.aload_n 0, 1) := by decide +kernel
theorem dX3_isNameText_14 : decode cX3_isNameText 14 = .ok (.getfield 19, 3) := by decide +kernel
theorem dX3_isNameText_17 : decode cX3_isNameText 17 = .ok (.iload_n 1, 1) := by decide +kernel
theorem dX3_isNameText_18 : decode cX3_isNameText 18 = .ok (.iaload, 1) := by decide +kernel
theorem dX3_isNameText_19 : decode cX3_isNameText 19 = .ok (.aload_n 0, 1) := by decide +kernel
theorem dX3_isNameText_20 : decode cX3_isNameText 20 = .ok (.getfield 22, 3) := by decide +kernel
theorem dX3_isNameText_23 : decode cX3_isNameText 23 = .ok (.iload_n 1, 1) := by decide +kernel
theorem dX3_isNameText_24 : decode cX3_isNameText 24 = .ok (.iaload, 1) := by decide +kernel
theorem dX3_isNameText_25 : decode cX3_isNameText 25 = .ok (.invokestatic 143, 3) := by decide +kernel
theorem dX3_isNameText_28 : decode cX3_isNameText 28 = .ok (.ifCond .eq 7, 3) := by decide +kernel
theorem dX3_isNameText_31 : decode cX3_isNameText 31 = .ok (.iconst 1, 1) := by decide +kernel
theorem dX3_isNameText_32 : decode cX3_isNameText 32 = .ok (.goto 4, 3) := by decide +kernel
theorem dX3_isNameText_35 : decode cX3_isNameText 35 = .ok (.iconst 0, 1) := by decide +kernel
theorem dX3_isNameText_36 : decode cX3_isNameText 36 = .ok (.ireturn, 1) := by decide +kernel
