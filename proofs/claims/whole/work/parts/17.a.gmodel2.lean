abbrev cX13_isTyped : ByteArray := prog_15_method_27_code
def yX13_isTyped : MethodName := ⟨RX13, "isTyped", "()Z"⟩
abbrev cX13_isLike : ByteArray := prog_15_method_39_code
def yX13_isLike : MethodName := ⟨RX13, "isLike", "(II)Z"⟩
abbrev cX13_extendsIt : ByteArray := prog_15_method_42_code
def yX13_extendsIt : MethodName := ⟨RX13, "extendsIt", "(II)Z"⟩
abbrev cX13_fits : ByteArray := prog_15_method_45_code
def yX13_fits : MethodName := ⟨RX13, "fits", "(II)Z"⟩
abbrev cX13_goTogether : ByteArray := prog_15_method_46_code
def yX13_goTogether : MethodName := ⟨RX13, "goTogether", "(II)Z"⟩
abbrev cX13_memberOf : ByteArray := prog_15_method_48_code
def yX13_memberOf : MethodName := ⟨RX13, "memberOf", "(IIZ)I"⟩
abbrev cX13_sightOf : ByteArray := prog_15_method_53_code
def yX13_sightOf : MethodName := ⟨RX13, "sightOf", "(I)I"⟩
abbrev cX13_isLed : ByteArray := prog_15_method_60_code
def yX13_isLed : MethodName := ⟨RX13, "isLed", "(I)Z"⟩
abbrev cX13_isByClass : ByteArray := prog_15_method_68_code
def yX13_isByClass : MethodName := ⟨RX13, "isByClass", "(I)Z"⟩
abbrev cX13_spellToken : ByteArray := prog_15_method_72_code
def yX13_spellToken : MethodName := ⟨RX13, "spellToken", "(I)V"⟩
abbrev cX13_operation : ByteArray := prog_15_method_103_code
def yX13_operation : MethodName := ⟨RX13, "operation", "(I)I"⟩
abbrev cX13_isClassConstant : ByteArray := prog_15_method_124_code
def yX13_isClassConstant : MethodName := ⟨RX13, "isClassConstant", "(IZ)Z"⟩
abbrev cX13_install : ByteArray := prog_15_method_136_code
def yX13_install : MethodName := ⟨RX13, "install", "(I)I"⟩
abbrev cX13_frameAt : ByteArray := prog_15_method_170_code
def yX13_frameAt : MethodName := ⟨RX13, "frameAt", "(I)I"⟩
abbrev cX13_typesEnd : ByteArray := prog_15_method_171_code
def yX13_typesEnd : MethodName := ⟨RX13, "typesEnd", "(I)I"⟩
abbrev cX13_frameFor : ByteArray := prog_15_method_173_code
def yX13_frameFor : MethodName := ⟨RX13, "frameFor", "(I)I"⟩
abbrev cX13_at_ : ByteArray := prog_15_method_178_code
def yX13_at_ : MethodName := ⟨RX13, "at", "(II)V"⟩
abbrev cX13_pullInts : ByteArray := prog_15_method_189_code
def yX13_pullInts : MethodName := ⟨RX13, "pullInts", "(I)Z"⟩
abbrev cX13_enter : ByteArray := prog_15_method_195_code
def yX13_enter : MethodName := ⟨RX13, "enter", "(II)V"⟩
abbrev cX13_intOf : ByteArray := prog_15_method_208_code
def yX13_intOf : MethodName := ⟨RX13, "intOf", "(I)I"⟩
abbrev cX13_back : ByteArray := prog_15_method_217_code
def yX13_back : MethodName := ⟨RX13, "back", "(I)V"⟩
theorem dX13_isTyped_0 : decode cX13_isTyped 0 = .ok (.aload_n 0, 1) := by decide +kernel
theorem dX13_isTyped_1 : decode cX13_isTyped 1 = .ok (.aload_n 0, 1) := by decide +kernel
theorem dX13_isTyped_2 : decode cX13_isTyped 2 = .ok (.getfield 376, 3) := by decide +kernel
theorem dX13_isTyped_5 : decode cX13_isTyped 5 = .ok (.bipush 10, 2) := by decide +kernel
theorem dX13_isTyped_7 : decode cX13_isTyped 7 = .ok (.invokevirtual 390, 3) := by decide +kernel
theorem dX13_isTyped_10 : decode cX13_isTyped 10 = .ok (.ifCond .ne 15, 3) := by decide +kernel
theorem dX13_isTyped_13 : decode cX13_isTyped 13 = .ok (.aload_n 0, 1) := by decide +kernel
theorem dX13_isTyped_14 : decode cX13_isTyped 14 = .ok (.aload_n 0, 1) := by decide +kernel
theorem dX13_isTyped_15 : decode cX13_isTyped 15 = .ok (.getfield 376, 3) := by decide +kernel
theorem dX13_isTyped_18 : decode cX13_isTyped 18 = .ok (.iconst 0, 1) := by decide +kernel
theorem dX13_isTyped_19 : decode cX13_isTyped 19 = .ok (.invokevirtual 390, 3) := by decide +kernel
theorem dX13_isTyped_22 : decode cX13_isTyped 22 = .ok (.ifCond .eq 5, 3) := by decide +kernel
theorem dX13_isTyped_25 : decode cX13_isTyped 25 = .ok (.iconst 1, 1) := by decide +kernel
theorem dX13_isTyped_26 : decode cX13_isTyped 26 = .ok (.ireturn, 1) := by decide +kernel
theorem dX13_isTyped_27 : decode cX13_isTyped 27 = .ok (.aload_n 0, 1) := by decide +kernel
theorem dX13_isTyped_28 : decode cX13_isTyped 28 = .ok (.getfield 16, 3) := by decide +kernel
theorem dX13_isTyped_31 : decode cX13_isTyped 31 = .ok (.aload_n 0, 1) := by decide +kernel
theorem dX13_isTyped_32 : decode cX13_isTyped 32 = .ok (.getfield 376, 3) := by decide +kernel
theorem dX13_isTyped_35 : decode cX13_isTyped 35 = .ok (.iaload, 1) := by decide +kernel
theorem dX13_isTyped_36 : decode cX13_isTyped 36 = .ok (.iconst 1, 1) := by decide +kernel
theorem dX13_isTyped_37 : decode cX13_isTyped 37 = .ok (.if_icmp .eq 5, 3) := by decide +kernel
theorem dX13_isTyped_40 : decode cX13_isTyped 40 = .ok (.iconst 0, 1) := by decide +kernel
theorem dX13_isTyped_41 : decode cX13_isTyped 41 = .ok (.ireturn, 1) := by decide +kernel
theorem dX13_isTyped_42 : decode cX13_isTyped 42 = .ok (.aload_n 0, 1) := by decide +kernel
theorem dX13_isTyped_43 : decode cX13_isTyped 43 = .ok (.getfield 16, 3) := by decide +kernel
theorem dX13_isTyped_46 : decode cX13_isTyped 46 = .ok (.aload_n 0, 1) := by decide +kernel
theorem dX13_isTyped_47 : decode cX13_isTyped 47 = .ok (.getfield 376, 3) := by decide +kernel
theorem dX13_isTyped_50 : decode cX13_isTyped 50 = .ok (.iconst 1, 1) := by decide +kernel
theorem dX13_isTyped_51 : decode cX13_isTyped 51 = .ok (.iadd, 1) := by decide +kernel
theorem dX13_isTyped_52 : decode cX13_isTyped 52 = .ok (.iaload, 1) := by decide +kernel
theorem dX13_isTyped_53 : decode cX13_isTyped 53 = .ok (.iconst 1, 1) := by decide +kernel
theorem dX13_isTyped_54 : decode cX13_isTyped 54 = .ok (.if_icmp .eq 33, 3) := by decide +kernel
theorem dX13_isTyped_57 : decode cX13_isTyped 57 = .ok (.aload_n 0, 1) := by decide +kernel
theorem dX13_isTyped_58 : decode cX13_isTyped 58 = .ok (.aload_n 0, 1) := by decide +kernel
theorem dX13_isTyped_59 : decode cX13_isTyped 59 = .ok (.getfield 376, 3) := by decide +kernel
theorem dX13_isTyped_62 : decode cX13_isTyped 62 = .ok (.iconst 1, 1) := by decide +kernel
theorem dX13_isTyped_63 : decode cX13_isTyped 63 = .ok (.iadd, 1) := by decide +kernel
theorem dX13_isTyped_64 : decode cX13_isTyped 64 = .ok (.bipush 91, 2) := by decide +kernel
theorem dX13_isTyped_66 : decode cX13_isTyped 66 = .ok (.invokevirtual 383, 3) := by decide +kernel
theorem dX13_isTyped_69 : decode cX13_isTyped 69 = .ok (.ifCond .eq 22, 3) := by decide +kernel
theorem dX13_isTyped_72 : decode cX13_isTyped 72 = .ok (.aload_n 0, 1) := by decide +kernel
theorem dX13_isTyped_73 : decode cX13_isTyped 73 = .ok (.aload_n 0, 1) := by decide +kernel
theorem dX13_isTyped_74 : decode cX13_isTyped 74 = .ok (.getfield 376, 3) := by decide +kernel
theorem dX13_isTyped_77 : decode cX13_isTyped 77 = .ok (.iconst 2, 1) := by decide +kernel
theorem dX13_isTyped_78 : decode cX13_isTyped 78 = .ok (.iadd, 1) := by decide +kernel
theorem dX13_isTyped_79 : decode cX13_isTyped 79 = .ok (.bipush 93, 2) := by decide +kernel
theorem dX13_isTyped_81 : decode cX13_isTyped 81 = .ok (.invokevirtual 383, 3) := by decide +kernel
theorem dX13_isTyped_84 : decode cX13_isTyped 84 = .ok (.ifCond .eq 7, 3) := by decide +kernel
theorem dX13_isTyped_87 : decode cX13_isTyped 87 = .ok (.iconst 1, 1) := by decide +kernel
theorem dX13_isTyped_88 : decode cX13_isTyped 88 = .ok (.goto 4, 3) := by decide +kernel
theorem dX13_isTyped_91 : decode cX13_isTyped 91 = .ok (.iconst 0, 1) := by decide +kernel
theorem dX13_isTyped_92 : decode cX13_isTyped 92 = .ok (.ireturn, 1) := by decide +kernel
theorem dX13_isLike_0 : decode cX13_isLike 0 = .ok (.aload_n 0, 1) := by decide +kernel
theorem dX13_isLike_1 : decode cX13_isLike 1 = .ok (.getfield 22, 3) := by decide +kernel
theorem dX13_isLike_4 : decode cX13_isLike 4 = .ok (.iload_n 1, 1) := by decide +kernel
theorem dX13_isLike_5 : decode cX13_isLike 5 = .ok (.iaload, 1) := by decide +kernel
theorem dX13_isLike_6 : decode cX13_isLike 6 = .ok (.aload_n 0, 1) := by decide +kernel
theorem dX13_isLike_7 : decode cX13_isLike 7 = .ok (.getfield 22, 3) := by decide +kernel
theorem dX13_isLike_10 : decode cX13_isLike 10 = .ok (.iload_n 2, 1) := by decide +kernel
theorem dX13_isLike_11 : decode cX13_isLike 11 = .ok (.iaload, 1) := by decide +kernel
theorem dX13_isLike_12 : decode cX13_isLike 12 = .ok (.if_icmp .ne 7, 3) := by decide +kernel
theorem dX13_isLike_15 : decode cX13_isLike 15 = .ok (.iconst 1, 1) := by decide +kernel
theorem dX13_isLike_16 : decode cX13_isLike 16 = .ok (.goto 4, 3) := by decide +kernel
theorem dX13_isLike_19 : decode cX13_isLike 19 = .ok (.iconst 0, 1) := by decide +kernel
theorem dX13_isLike_20 : decode cX13_isLike 20 = .ok (.istore_n 3, 1) := by decide +kernel
theorem dX13_isLike_21 : decode cX13_isLike 21 = .ok (.iconst 0, 1) := by decide +kernel
theorem dX13_isLike_22 : decode cX13_isLike 22 = .ok (.istore 4, 2) := by decide +kernel
theorem dX13_isLike_24 : decode cX13_isLike 24 = .ok (.iload 4, 2) := by decide +kernel
theorem dX13_isLike_26 : decode cX13_isLike 26 = .ok (.aload_n 0, 1) := by decide +kernel
theorem dX13_isLike_27 : decode cX13_isLike 27 = .ok (.getfield 22, 3) := by decide +kernel
theorem dX13_isLike_30 : decode cX13_isLike 30 = .ok (.iload_n 1, 1) := by decide +kernel
theorem dX13_isLike_31 : decode cX13_isLike 31 = .ok (.iaload, 1) := by decide +kernel
theorem dX13_isLike_32 : decode cX13_isLike 32 = .ok (.if_icmp .ge 50, 3) := by decide +kernel
theorem dX13_isLike_35 : decode cX13_isLike 35 = .ok (.iload_n 3, 1) := by decide +kernel
theorem dX13_isLike_36 : decode cX13_isLike 36 = .ok (.ifCond .eq 46, 3) := by decide +kernel
theorem dX13_isLike_39 : decode cX13_isLike 39 = .ok (.aload_n 0, 1) := by decide +kernel
theorem dX13_isLike_40 : decode cX13_isLike 40 = .ok (.getfield 13, 3) := by decide +kernel
theorem dX13_isLike_43 : decode cX13_isLike 43 = .ok (.aload_n 0, 1) := by decide +kernel
theorem dX13_isLike_44 : decode cX13_isLike 44 = .ok (.getfield 19, 3) := by decide +kernel
theorem dX13_isLike_47 : decode cX13_isLike 47 = .ok (.iload_n 1, 1) := by decide +kernel
theorem dX13_isLike_48 : decode cX13_isLike 48 = .ok (.iaload, 1) := by decide +kernel
theorem dX13_isLike_49 : decode cX13_isLike 49 = .ok (.iload 4, 2) := by decide +kernel
theorem dX13_isLike_51 : decode cX13_isLike 51 = .ok (.iadd, 1) := by decide +kernel
theorem dX13_isLike_52 : decode cX13_isLike 52 = .ok (.iaload, 1) := by decide +kernel
theorem dX13_isLike_53 : decode cX13_isLike 53 = .ok (.aload_n 0, 1) := by decide +kernel
theorem dX13_isLike_54 : decode cX13_isLike 54 = .ok (.getfield 13, 3) := by decide +kernel
theorem dX13_isLike_57 : decode cX13_isLike 57 = .ok (.aload_n 0, 1) := by decide +kernel
theorem dX13_isLike_58 : decode cX13_isLike 58 = .ok (.getfield 19, 3) := by decide +kernel
theorem dX13_isLike_61 : decode cX13_isLike 61 = .ok (.iload_n 2, 1) := by decide +kernel
theorem dX13_isLike_62 : decode cX13_isLike 62 = .ok (.iaload, 1) := by decide +kernel
theorem dX13_isLike_63 : decode cX13_isLike 63 = .ok (.iload 4, 2) := by decide +kernel
theorem dX13_isLike_65 : decode cX13_isLike 65 = .ok (.iadd, 1) := by decide +kernel
theorem dX13_isLike_66 : decode cX13_isLike 66 = .ok (.iaload, 1) := by decide +kernel
theorem dX13_isLike_67 : decode cX13_isLike 67 = .ok (.if_icmp .ne 7, 3) := by decide +kernel
theorem dX13_isLike_70 : decode cX13_isLike 70 = .ok (.iconst 1, 1) := by decide +kernel
theorem dX13_isLike_71 : decode cX13_isLike 71 = .ok (.goto 4, 3) := by decide +kernel
theorem dX13_isLike_74 : decode cX13_isLike 74 = .ok (.iconst 0, 1) := by decide +kernel
theorem dX13_isLike_75 : decode cX13_isLike 75 = .ok (.istore_n 3, 1) := by decide +kernel
theorem dX13_isLike_76 : decode cX13_isLike 76 = .ok (.iinc 4 1, 3) := by decide +kernel
theorem dX13_isLike_79 : decode cX13_isLike 79 = .ok (.goto (-55), 3) := by decide +kernel
theorem dX13_isLike_82 : decode cX13_isLike 82 = .ok (.iload_n 3, 1) := by decide +kernel
theorem dX13_isLike_83 : decode cX13_isLike 83 = .ok (.ireturn, 1) := by decide +kernel
theorem dX13_extendsIt_0 : decode cX13_extendsIt 0 = .ok (.iload_n 1, 1) := by decide +kernel
theorem dX13_extendsIt_1 : decode cX13_extendsIt 1 = .ok (.istore_n 3, 1) := by decide +kernel
theorem dX13_extendsIt_2 : decode cX13_extendsIt 2 = .ok (.iload_n 3, 1) := by decide +kernel
theorem dX13_extendsIt_3 : decode cX13_extendsIt 3 = .ok (.iconst (-1), 1) := by decide +kernel
theorem dX13_extendsIt_4 : decode cX13_extendsIt 4 = .ok (.if_icmp .eq 17, 3) := by decide +kernel
theorem dX13_extendsIt_7 : decode cX13_extendsIt 7 = .ok (.iload_n 3, 1) := by decide +kernel
theorem dX13_extendsIt_8 : decode cX13_extendsIt 8 = .ok (.iload_n 2, 1) := by decide +kernel
theorem dX13_extendsIt_9 : decode cX13_extendsIt 9 = .ok (.if_icmp .eq 12, 3) := by decide +kernel
theorem dX13_extendsIt_12 : decode cX13_extendsIt 12 = .ok (.aload_n 0, 1) := by decide +kernel
theorem dX13_extendsIt_13 : decode cX13_extendsIt 13 = .ok (.iload_n 3, 1) := by decide +kernel
theorem dX13_extendsIt_14 : decode cX13_extendsIt 14 = .ok (.invokevirtual 482, 3) := by decide +kernel
theorem dX13_extendsIt_17 : decode cX13_extendsIt 17 = .ok (.istore_n 3, 1) := by decide +kernel
theorem dX13_extendsIt_18 : decode cX13_extendsIt 18 = .ok (.goto (-16), 3) := by decide +kernel
theorem dX13_extendsIt_21 : decode cX13_extendsIt 21 = .ok (.iload_n 3, 1) := by decide +kernel
theorem dX13_extendsIt_22 : decode cX13_extendsIt 22 = .ok (.iload_n 2, 1) := by decide +kernel
theorem dX13_extendsIt_23 : decode cX13_extendsIt 23 = .ok (.if_icmp .ne 7, 3) := by decide +kernel
theorem dX13_extendsIt_26 : decode cX13_extendsIt 26 = .ok (.iconst 1, 1) := by decide +kernel
theorem dX13_extendsIt_27 : decode cX13_extendsIt 27 = .ok (.goto 4, 3) := by decide +kernel
theorem dX13_extendsIt_30 : decode cX13_extendsIt 30 = .ok (.iconst 0, 1) := by decide +kernel
theorem dX13_extendsIt_31 : decode cX13_extendsIt 31 = .ok (.ireturn, 1) := by decide +kernel
theorem dX13_fits_0 : decode cX13_fits 0 = .ok (.iload_n 1, 1) := by decide +kernel
theorem dX13_fits_1 : decode cX13_fits 1 = .ok (.iload_n 2, 1) := by decide +kernel
theorem dX13_fits_2 : decode cX13_fits 2 = .ok (.if_icmp .ne 5, 3) := by decide +kernel
theorem dX13_fits_5 : decode cX13_fits 5 = .ok (.iconst 1, 1) := by decide +kernel
theorem dX13_fits_6 : decode cX13_fits 6 = .ok (.ireturn, 1) := by decide +kernel
theorem dX13_fits_7 : decode cX13_fits 7 = .ok (.iload_n 1, 1) := by decide +kernel
theorem dX13_fits_8 : decode cX13_fits 8 = .ok (.iconst 2, 1) := by decide +kernel
theorem dX13_fits_9 : decode cX13_fits 9 = .ok (.if_icmp .ne 20, 3) := by decide +kernel
theorem dX13_fits_12 : decode cX13_fits 12 = .ok (.iload_n 2, 1) := by decide +kernel
theorem dX13_fits_13 : decode cX13_fits 13 = .ok (.iconst 4, 1) := by decide +kernel
theorem dX13_fits_14 : decode cX13_fits 14 = .ok (.if_icmp .eq 9, 3) := by decide +kernel
theorem dX13_fits_17 : decode cX13_fits 17 = .ok (.iload_n 2, 1) := by decide +kernel
theorem dX13_fits_18 : decode cX13_fits 18 = .ok (.bipush 8, 2) := by decide +kernel
theorem dX13_fits_20 : decode cX13_fits 20 = .ok (.if_icmp .lt 7, 3) := by decide +kernel
theorem dX13_fits_23 : decode cX13_fits 23 = .ok (.iconst 1, 1) := by decide +kernel
theorem dX13_fits_24 : decode cX13_fits 24 = .ok (.goto 4, 3) := by decide +kernel
theorem dX13_fits_27 : decode cX13_fits 27 = .ok (.iconst 0, 1) := by decide +kernel
theorem dX13_fits_28 : decode cX13_fits 28 = .ok (.ireturn, 1) := by decide +kernel
theorem dX13_fits_29 : decode cX13_fits 29 = .ok (.iload_n 1, 1) := by decide +kernel
theorem dX13_fits_30 : decode cX13_fits 30 = .ok (.invokestatic 485, 3) := by decide +kernel
theorem dX13_fits_33 : decode cX13_fits 33 = .ok (.ifCond .eq 11, 3) := by decide +kernel
theorem dX13_fits_36 : decode cX13_fits 36 = .ok (.iload_n 2, 1) := by decide +kernel
theorem dX13_fits_37 : decode cX13_fits 37 = .ok (.bipush 8, 2) := by decide +kernel
theorem dX13_fits_39 : decode cX13_fits 39 = .ok (.if_icmp .ne 5, 3) := by decide +kernel
theorem dX13_fits_42 : decode cX13_fits 42 = .ok (.iconst 1, 1) := by decide +kernel
theorem dX13_fits_43 : decode cX13_fits 43 = .ok (.ireturn, 1) := by decide +kernel
theorem dX13_fits_44 : decode cX13_fits 44 = .ok (.iload_n 1, 1) := by decide +kernel
theorem dX13_fits_45 : decode cX13_fits 45 = .ok (.bipush 8, 2) := by decide +kernel
theorem dX13_fits_47 : decode cX13_fits 47 = .ok (.if_icmp .lt 41, 3) := by decide +kernel
theorem dX13_fits_50 : decode cX13_fits 50 = .ok (.iload_n 2, 1) := by decide +kernel
theorem dX13_fits_51 : decode cX13_fits 51 = .ok (.bipush 8, 2) := by decide +kernel
theorem dX13_fits_53 : decode cX13_fits 53 = .ok (.if_icmp .lt 35, 3) := by decide +kernel
theorem dX13_fits_56 : decode cX13_fits 56 = .ok (.iload_n 1, 1) := by decide +kernel
theorem dX13_fits_57 : decode cX13_fits 57 = .ok (.iconst 2, 1) := by decide +kernel
theorem dX13_fits_58 : decode cX13_fits 58 = .ok (.irem, 1) := by decide +kernel
theorem dX13_fits_59 : decode cX13_fits 59 = .ok (.iload_n 2, 1) := by decide +kernel
theorem dX13_fits_60 : decode cX13_fits 60 = .ok (.iconst 2, 1) := by decide +kernel
theorem dX13_fits_61 : decode cX13_fits 61 = .ok (.irem, 1) := by decide +kernel
theorem dX13_fits_62 : decode cX13_fits 62 = .ok (.if_icmp .ne 26, 3) := by decide +kernel
theorem dX13_fits_65 : decode cX13_fits 65 = .ok (.aload_n 0, 1) := by decide +kernel
theorem dX13_fits_66 : decode cX13_fits 66 = .ok (.iload_n 1, 1) := by decide +kernel
theorem dX13_fits_67 : decode cX13_fits 67 = .ok (.bipush 8, 2) := by decide +kernel
theorem dX13_fits_69 : decode cX13_fits 69 = .ok (.isub, 1) := by decide +kernel
theorem dX13_fits_70 : decode cX13_fits 70 = .ok (.iconst 2, 1) := by decide +kernel
theorem dX13_fits_71 : decode cX13_fits 71 = .ok (.idiv, 1) := by decide +kernel
theorem dX13_fits_72 : decode cX13_fits 72 = .ok (.iload_n 2, 1) := by decide +kernel
theorem dX13_fits_73 : decode cX13_fits 73 = .ok (.bipush 8, 2) := by decide +kernel
theorem dX13_fits_75 : decode cX13_fits 75 = .ok (.isub, 1) := by decide +kernel
theorem dX13_fits_76 : decode cX13_fits 76 = .ok (.iconst 2, 1) := by decide +kernel
theorem dX13_fits_77 : decode cX13_fits 77 = .ok (.idiv, 1) := by decide +kernel
theorem dX13_fits_78 : decode cX13_fits 78 = .ok (.invokevirtual 488, 3) := by decide +kernel
theorem dX13_fits_81 : decode cX13_fits 81 = .ok (.ifCond .eq 7, 3) := by decide +kernel
theorem dX13_fits_84 : decode cX13_fits 84 = .ok (.iconst 1, 1) := by decide +kernel
theorem dX13_fits_85 : decode cX13_fits 85 = .ok (.goto 4, 3) := by decide +kernel
theorem dX13_fits_88 : decode cX13_fits 88 = .ok (.iconst 0, 1) := by decide +kernel
theorem dX13_fits_89 : decode cX13_fits 89 = .ok (.ireturn, 1) := by decide +kernel
theorem dX13_goTogether_0 : decode cX13_goTogether 0 = .ok (.iload_n 1, 1) := by decide +kernel
theorem dX13_goTogether_1 : decode cX13_goTogether 1 = .ok (.iconst 2, 1) := by decide +kernel
theorem dX13_goTogether_2 : decode cX13_goTogether 2 = .ok (.if_icmp .lt 8, 3) := by decide +kernel
theorem dX13_goTogether_5 : decode cX13_goTogether 5 = .ok (.iload_n 2, 1) := by decide +kernel
theorem dX13_goTogether_6 : decode cX13_goTogether 6 = .ok (.iconst 2, 1) := by decide +kernel
theorem dX13_goTogether_7 : decode cX13_goTogether 7 = .ok (.if_icmp .ge 14, 3) := by decide +kernel
theorem dX13_goTogether_10 : decode cX13_goTogether 10 = .ok (.iload_n 1, 1) := by decide +kernel
theorem dX13_goTogether_11 : decode cX13_goTogether 11 = .ok (.iload_n 2, 1) := by decide +kernel
theorem dX13_goTogether_12 : decode cX13_goTogether 12 = .ok (.if_icmp .ne 7, 3) := by decide +kernel
theorem dX13_goTogether_15 : decode cX13_goTogether 15 = .ok (.iconst 1, 1) := by decide +kernel
theorem dX13_goTogether_16 : decode cX13_goTogether 16 = .ok (.goto 4, 3) := by decide +kernel
theorem dX13_goTogether_19 : decode cX13_goTogether 19 = .ok (.iconst 0, 1) := by decide +kernel
theorem dX13_goTogether_20 : decode cX13_goTogether 20 = .ok (.ireturn, 1) := by decide +kernel
theorem dX13_goTogether_21 : decode cX13_goTogether 21 = .ok (.aload_n 0, 1) := by decide +kernel
theorem dX13_goTogether_22 : decode cX13_goTogether 22 = .ok (.iload_n 1, 1) := by decide +kernel
theorem dX13_goTogether_23 : decode cX13_goTogether 23 = .ok (.iload_n 2, 1) := by decide +kernel
theorem dX13_goTogether_24 : decode cX13_goTogether 24 = .ok (.invokevirtual 491, 3) := by decide +kernel
theorem dX13_goTogether_27 : decode cX13_goTogether 27 = .ok (.ifCond .ne 12, 3) := by decide +kernel
theorem dX13_goTogether_30 : decode cX13_goTogether 30 = .ok (.aload_n 0, 1) := by decide +kernel
theorem dX13_goTogether_31 : decode cX13_goTogether 31 = .ok (.iload_n 2, 1) := by decide +kernel
theorem dX13_goTogether_32 : decode cX13_goTogether 32 = .ok (.iload_n 1, 1) := by decide +kernel
theorem dX13_goTogether_33 : decode cX13_goTogether 33 = .ok (.invokevirtual 491, 3) := by decide +kernel
theorem dX13_goTogether_36 : decode cX13_goTogether 36 = .ok (.ifCond .eq 7, 3) := by decide +kernel
theorem dX13_goTogether_39 : decode cX13_goTogether 39 = .ok (.iconst 1, 1) := by decide +kernel
theorem dX13_goTogether_40 : decode cX13_goTogether 40 = .ok (.goto 4, 3) := by decide +kernel
theorem dX13_goTogether_43 : decode cX13_goTogether 43 = .ok (.iconst 0, 1) := by decide +kernel
theorem dX13_goTogether_44 : decode cX13_goTogether 44 = .ok (.ireturn, 1) := by decide +kernel
theorem dX13_memberOf_0 : decode cX13_memberOf 0 = .ok (.iload_n 1, 1) := by decide +kernel
theorem dX13_memberOf_1 : decode cX13_memberOf 1 = .ok (.istore 4, 2) := by decide +kernel
theorem dX13_memberOf_3 : decode cX13_memberOf 3 = .ok (.iload 4, 2) := by decide +kernel
theorem dX13_memberOf_5 : decode cX13_memberOf 5 = .ok (.iconst (-1), 1) := by decide +kernel
theorem dX13_memberOf_6 : decode cX13_memberOf 6 = .ok (.if_icmp .eq 84, 3) := by decide +kernel
theorem dX13_memberOf_9 : decode cX13_memberOf 9 = .ok (.iconst 0, 1) := by decide +kernel
theorem dX13_memberOf_10 : decode cX13_memberOf 10 = .ok (.istore 5, 2) := by decide +kernel
theorem dX13_memberOf_12 : decode cX13_memberOf 12 = .ok (.iload 5, 2) := by decide +kernel
theorem dX13_memberOf_14 : decode cX13_memberOf 14 = .ok (.aload_n 0, 1) := by decide +kernel
theorem dX13_memberOf_15 : decode cX13_memberOf 15 = .ok (.getfield 412, 3) := by decide +kernel
theorem dX13_memberOf_18 : decode cX13_memberOf 18 = .ok (.if_icmp .ge 61, 3) := by decide +kernel
theorem dX13_memberOf_21 : decode cX13_memberOf 21 = .ok (.aload_n 0, 1) := by decide +kernel
theorem dX13_memberOf_22 : decode cX13_memberOf 22 = .ok (.getfield 71, 3) := by decide +kernel
theorem dX13_memberOf_25 : decode cX13_memberOf 25 = .ok (.iload 5, 2) := by decide +kernel
theorem dX13_memberOf_27 : decode cX13_memberOf 27 = .ok (.iaload, 1) := by decide +kernel
theorem dX13_memberOf_28 : decode cX13_memberOf 28 = .ok (.iload 4, 2) := by decide +kernel
theorem dX13_memberOf_30 : decode cX13_memberOf 30 = .ok (.bipush 8, 2) := by decide +kernel
theorem dX13_memberOf_32 : decode cX13_memberOf 32 = .ok (.isub, 1) := by decide +kernel
theorem dX13_memberOf_33 : decode cX13_memberOf 33 = .ok (.if_icmp .ne 40, 3) := by decide +kernel
theorem dX13_memberOf_36 : decode cX13_memberOf 36 = .ok (.aload_n 0, 1) := by decide +kernel
theorem dX13_memberOf_37 : decode cX13_memberOf 37 = .ok (.getfield 74, 3) := by decide +kernel
theorem dX13_memberOf_40 : decode cX13_memberOf 40 = .ok (.iload 5, 2) := by decide +kernel
theorem dX13_memberOf_42 : decode cX13_memberOf 42 = .ok (.iaload, 1) := by decide +kernel
theorem dX13_memberOf_43 : decode cX13_memberOf 43 = .ok (.ifCond .le 7, 3) := by decide +kernel
theorem dX13_memberOf_46 : decode cX13_memberOf 46 = .ok (.iconst 1, 1) := by decide +kernel
theorem dX13_memberOf_47 : decode cX13_memberOf 47 = .ok (.goto 4, 3) := by decide +kernel
theorem dX13_memberOf_50 : decode cX13_memberOf 50 = .ok (.iconst 0, 1) := by decide +kernel
theorem dX13_memberOf_51 : decode cX13_memberOf 51 = .ok (.iload_n 3, 1) := by decide +kernel
theorem dX13_memberOf_52 : decode cX13_memberOf 52 = .ok (.if_icmp .ne 21, 3) := by decide +kernel
theorem dX13_memberOf_55 : decode cX13_memberOf 55 = .ok (.aload_n 0, 1) := by decide +kernel
theorem dX13_memberOf_56 : decode cX13_memberOf 56 = .ok (.aload_n 0, 1) := by decide +kernel
theorem dX13_memberOf_57 : decode cX13_memberOf 57 = .ok (.getfield 86, 3) := by decide +kernel
theorem dX13_memberOf_60 : decode cX13_memberOf 60 = .ok (.iload 5, 2) := by decide +kernel
theorem dX13_memberOf_62 : decode cX13_memberOf 62 = .ok (.iaload, 1) := by decide +kernel
theorem dX13_memberOf_63 : decode cX13_memberOf 63 = .ok (.iload_n 2, 1) := by decide +kernel
theorem dX13_memberOf_64 : decode cX13_memberOf 64 = .ok (.invokevirtual 479, 3) := by decide +kernel
theorem dX13_memberOf_67 : decode cX13_memberOf 67 = .ok (.ifCond .eq 6, 3) := by decide +kernel
theorem dX13_memberOf_70 : decode cX13_memberOf 70 = .ok (.iload 5, 2) := by decide +kernel
theorem dX13_memberOf_72 : decode cX13_memberOf 72 = .ok (.ireturn, 1) := by decide +kernel
theorem dX13_memberOf_73 : decode cX13_memberOf 73 = .ok (.iinc 5 1, 3) := by decide +kernel
theorem dX13_memberOf_76 : decode cX13_memberOf 76 = .ok (.goto (-64), 3) := by decide +kernel
theorem dX13_memberOf_79 : decode cX13_memberOf 79 = .ok (.aload_n 0, 1) := by decide +kernel
theorem dX13_memberOf_80 : decode cX13_memberOf 80 = .ok (.iload 4, 2) := by decide +kernel
theorem dX13_memberOf_82 : decode cX13_memberOf 82 = .ok (.invokevirtual 482, 3) := by decide +kernel
theorem dX13_memberOf_85 : decode cX13_memberOf 85 = .ok (.istore 4, 2) := by decide +kernel
theorem dX13_memberOf_87 : decode cX13_memberOf 87 = .ok (.goto (-84), 3) := by decide +kernel
theorem dX13_memberOf_90 : decode cX13_memberOf 90 = .ok (.iconst (-1), 1) := by decide +kernel
theorem dX13_memberOf_91 : decode cX13_memberOf 91 = .ok (.ireturn, 1) := by decide +kernel
theorem dX13_sightOf_0 : decode cX13_sightOf 0 = .ok (.aload_n 0, 1) := by decide +kernel
theorem dX13_sightOf_1 : decode cX13_sightOf 1 = .ok (.getfield 513, 3) := by decide +kernel
theorem dX13_sightOf_4 : decode cX13_sightOf 4 = .ok (.iconst 1, 1) := by decide +kernel
theorem dX13_sightOf_5 : decode cX13_sightOf 5 = .ok (.isub, 1) := by decide +kernel
theorem dX13_sightOf_6 : decode cX13_sightOf 6 = .ok (.istore_n 2, 1) := by decide +kernel
theorem dX13_sightOf_7 : decode cX13_sightOf 7 = .ok (.iload_n 2, 1) := by decide +kernel
theorem dX13_sightOf_8 : decode cX13_sightOf 8 = .ok (.ifCond .lt 25, 3) := by decide +kernel
theorem dX13_sightOf_11 : decode cX13_sightOf 11 = .ok (.aload_n 0, 1) := by decide +kernel
theorem dX13_sightOf_12 : decode cX13_sightOf 12 = .ok (.aload_n 0, 1) := by decide +kernel
theorem dX13_sightOf_13 : decode cX13_sightOf 13 = .ok (.getfield 116, 3) := by decide +kernel
theorem dX13_sightOf_16 : decode cX13_sightOf 16 = .ok (.iload_n 2, 1) := by decide +kernel
theorem dX13_sightOf_17 : decode cX13_sightOf 17 = .ok (.iaload, 1) := by decide +kernel
theorem dX13_sightOf_18 : decode cX13_sightOf 18 = .ok (.iload_n 1, 1) := by decide +kernel
theorem dX13_sightOf_19 : decode cX13_sightOf 19 = .ok (.invokevirtual 479, 3) := by decide +kernel
theorem dX13_sightOf_22 : decode cX13_sightOf 22 = .ok (.ifCond .eq 5, 3) := by decide +kernel
theorem dX13_sightOf_25 : decode cX13_sightOf 25 = .ok (.iload_n 2, 1) := by decide +kernel
theorem dX13_sightOf_26 : decode cX13_sightOf 26 = .ok (.ireturn, 1) := by decide +kernel
theorem dX13_sightOf_27 : decode cX13_sightOf 27 = .ok (.iinc 2 (-1), 3) := by decide +kernel
theorem dX13_sightOf_30 : decode cX13_sightOf 30 = .ok (.goto (-23), 3) := by decide +kernel
theorem dX13_sightOf_33 : decode cX13_sightOf 33 = .ok (.iconst (-1), 1) := by decide +kernel
theorem dX13_sightOf_34 : decode cX13_sightOf 34 = .ok (.ireturn, 1) := by decide +kernel
theorem dX13_isLed_0 : decode cX13_isLed 0 = .ok (.aload_n 0, 1) := by decide +kernel
theorem dX13_isLed_1 : decode cX13_isLed 1 = .ok (.getfield 28, 3) := by decide +kernel
theorem dX13_isLed_4 : decode cX13_isLed 4 = .ok (.iload_n 1, 1) := by decide +kernel
theorem dX13_isLed_5 : decode cX13_isLed 5 = .ok (.iaload, 1) := by decide +kernel
theorem dX13_isLed_6 : decode cX13_isLed 6 = .ok (.istore_n 2, 1) := by decide +kernel
theorem dX13_isLed_7 : decode cX13_isLed 7 = .ok (.iload_n 2, 1) := by decide +kernel
theorem dX13_isLed_8 : decode cX13_isLed 8 = .ok (.bipush 37, 2) := by decide +kernel
theorem dX13_isLed_10 : decode cX13_isLed 10 = .ok (.if_icmp .eq 35, 3) := by decide +kernel
theorem dX13_isLed_13 : decode cX13_isLed 13 = .ok (.iload_n 2, 1) := by decide +kernel
theorem dX13_isLed_14 : decode cX13_isLed 14 = .ok (.bipush 38, 2) := by decide +kernel
theorem dX13_isLed_16 : decode cX13_isLed 16 = .ok (.if_icmp .eq 29, 3) := by decide +kernel
theorem dX13_isLed_19 : decode cX13_isLed 19 = .ok (.iload_n 2, 1) := by decide +kernel
theorem dX13_isLed_20 : decode cX13_isLed 20 = .ok (.bipush 30, 2) := by decide +kernel
theorem dX13_isLed_22 : decode cX13_isLed 22 = .ok (.if_icmp .eq 23, 3) := by decide +kernel
theorem dX13_isLed_25 : decode cX13_isLed 25 = .ok (.iload_n 2, 1) := by decide +kernel
theorem dX13_isLed_26 : decode cX13_isLed 26 = .ok (.bipush 32, 2) := by decide +kernel
theorem dX13_isLed_28 : decode cX13_isLed 28 = .ok (.if_icmp .eq 17, 3) := by decide +kernel
theorem dX13_isLed_31 : decode cX13_isLed 31 = .ok (.iload_n 2, 1) := by decide +kernel
theorem dX13_isLed_32 : decode cX13_isLed 32 = .ok (.bipush 31, 2) := by decide +kernel
theorem dX13_isLed_34 : decode cX13_isLed 34 = .ok (.if_icmp .ne 15, 3) := by decide +kernel
theorem dX13_isLed_37 : decode cX13_isLed 37 = .ok (.aload_n 0, 1) := by decide +kernel
theorem dX13_isLed_38 : decode cX13_isLed 38 = .ok (.iload_n 1, 1) := by decide +kernel
theorem dX13_isLed_39 : decode cX13_isLed 39 = .ok (.invokevirtual 552, 3) := by decide +kernel
theorem dX13_isLed_42 : decode cX13_isLed 42 = .ok (.ifCond .ne 7, 3) := by decide +kernel
theorem dX13_isLed_45 : decode cX13_isLed 45 = .ok (.iconst 1, 1) := by decide +kernel
theorem dX13_isLed_46 : decode cX13_isLed 46 = .ok (.goto 4, 3) := by decide +kernel
theorem dX13_isLed_49 : decode cX13_isLed 49 = .ok (.iconst 0, 1) := by decide +kernel
theorem dX13_isLed_50 : decode cX13_isLed 50 = .ok (.ireturn, 1) := by decide +kernel
theorem dX13_isByClass_0 : decode cX13_isByClass 0 = .ok (.aload_n 0, 1) := by decide +kernel
theorem dX13_isByClass_1 : decode cX13_isByClass 1 = .ok (.getfield 37, 3) := by decide +kernel
theorem dX13_isByClass_4 : decode cX13_isByClass 4 = .ok (.iload_n 1, 1) := by decide +kernel
theorem dX13_isByClass_5 : decode cX13_isByClass 5 = .ok (.iaload, 1) := by decide +kernel
theorem dX13_isByClass_6 : decode cX13_isByClass 6 = .ok (.istore_n 2, 1) := by decide +kernel
theorem dX13_isByClass_7 : decode cX13_isByClass 7 = .ok (.aload_n 0, 1) := by decide +kernel
theorem dX13_isByClass_8 : decode cX13_isByClass 8 = .ok (.getfield 28, 3) := by decide +kernel
theorem dX13_isByClass_11 : decode cX13_isByClass 11 = .ok (.iload_n 2, 1) := by decide +kernel
theorem dX13_isByClass_12 : decode cX13_isByClass 12 = .ok (.iaload, 1) := by decide +kernel
theorem dX13_isByClass_13 : decode cX13_isByClass 13 = .ok (.bipush 25, 2) := by decide +kernel
theorem dX13_isByClass_15 : decode cX13_isByClass 15 = .ok (.if_icmp .ne 49, 3) := by decide +kernel
theorem dX13_isByClass_18 : decode cX13_isByClass 18 = .ok (.aload_n 0, 1) := by decide +kernel
theorem dX13_isByClass_19 : decode cX13_isByClass 19 = .ok (.getfield 58, 3) := by decide +kernel
theorem dX13_isByClass_22 : decode cX13_isByClass 22 = .ok (.iload_n 2, 1) := by decide +kernel
theorem dX13_isByClass_23 : decode cX13_isByClass 23 = .ok (.baload, 1) := by decide +kernel
theorem dX13_isByClass_24 : decode cX13_isByClass 24 = .ok (.ifCond .ne 40, 3) := by decide +kernel
theorem dX13_isByClass_27 : decode cX13_isByClass 27 = .ok (.aload_n 0, 1) := by decide +kernel
theorem dX13_isByClass_28 : decode cX13_isByClass 28 = .ok (.aload_n 0, 1) := by decide +kernel
theorem dX13_isByClass_29 : decode cX13_isByClass 29 = .ok (.getfield 31, 3) := by decide +kernel
theorem dX13_isByClass_32 : decode cX13_isByClass 32 = .ok (.iload_n 2, 1) := by decide +kernel
theorem dX13_isByClass_33 : decode cX13_isByClass 33 = .ok (.iaload, 1) := by decide +kernel
theorem dX13_isByClass_34 : decode cX13_isByClass 34 = .ok (.invokevirtual 534, 3) := by decide +kernel
theorem dX13_isByClass_37 : decode cX13_isByClass 37 = .ok (.iconst (-1), 1) := by decide +kernel
theorem dX13_isByClass_38 : decode cX13_isByClass 38 = .ok (.if_icmp .ne 26, 3) := by decide +kernel
theorem dX13_isByClass_41 : decode cX13_isByClass 41 = .ok (.aload_n 0, 1) := by decide +kernel
theorem dX13_isByClass_42 : decode cX13_isByClass 42 = .ok (.aload_n 0, 1) := by decide +kernel
theorem dX13_isByClass_43 : decode cX13_isByClass 43 = .ok (.getfield 519, 3) := by decide +kernel
theorem dX13_isByClass_46 : decode cX13_isByClass 46 = .ok (.aload_n 0, 1) := by decide +kernel
theorem dX13_isByClass_47 : decode cX13_isByClass 47 = .ok (.getfield 31, 3) := by decide +kernel
theorem dX13_isByClass_50 : decode cX13_isByClass 50 = .ok (.iload_n 2, 1) := by decide +kernel
theorem dX13_isByClass_51 : decode cX13_isByClass 51 = .ok (.iaload, 1) := by decide +kernel
theorem dX13_isByClass_52 : decode cX13_isByClass 52 = .ok (.iconst 0, 1) := by decide +kernel
theorem dX13_isByClass_53 : decode cX13_isByClass 53 = .ok (.invokevirtual 507, 3) := by decide +kernel
theorem dX13_isByClass_56 : decode cX13_isByClass 56 = .ok (.iconst (-1), 1) := by decide +kernel
theorem dX13_isByClass_57 : decode cX13_isByClass 57 = .ok (.if_icmp .ne 7, 3) := by decide +kernel
theorem dX13_isByClass_60 : decode cX13_isByClass 60 = .ok (.iconst 1, 1) := by decide +kernel
theorem dX13_isByClass_61 : decode cX13_isByClass 61 = .ok (.goto 4, 3) := by decide +kernel
theorem dX13_isByClass_64 : decode cX13_isByClass 64 = .ok (.iconst 0, 1) := by decide +kernel
theorem dX13_isByClass_65 : decode cX13_isByClass 65 = .ok (.ireturn, 1) := by decide +kernel
theorem dX13_spellToken_0 : decode cX13_spellToken 0 = .ok (.iconst 0, 1) := by decide +kernel
theorem dX13_spellToken_1 : decode cX13_spellToken 1 = .ok (.istore_n 2, 1) := by decide +kernel
theorem dX13_spellToken_2 : decode cX13_spellToken 2 = .ok (.iload_n 2, 1) := by decide +kernel
theorem dX13_spellToken_3 : decode cX13_spellToken 3 = .ok (.aload_n 0, 1) := by decide +kernel
theorem dX13_spellToken_4 : decode cX13_spellToken 4 = .ok (.getfield 22, 3) := by decide +kernel
theorem dX13_spellToken_7 : decode cX13_spellToken 7 = .ok (.iload_n 1, 1) := by decide +kernel
theorem dX13_spellToken_8 : decode cX13_spellToken 8 = .ok (.iaload, 1) := by decide +kernel
theorem dX13_spellToken_9 : decode cX13_spellToken 9 = .ok (.if_icmp .ge 26, 3) := by decide +kernel
theorem dX13_spellToken_12 : decode cX13_spellToken 12 = .ok (.aload_n 0, 1) := by decide +kernel
theorem dX13_spellToken_13 : decode cX13_spellToken 13 = .ok (.aload_n 0, 1) := by decide +kernel
theorem dX13_spellToken_14 : decode cX13_spellToken 14 = .ok (.getfield 13, 3) := by decide +kernel
theorem dX13_spellToken_17 : decode cX13_spellToken 17 = .ok (.aload_n 0, 1) := by decide +kernel
theorem dX13_spellToken_18 : decode cX13_spellToken 18 = .ok (.getfield 19, 3) := by decide +kernel
theorem dX13_spellToken_21 : decode cX13_spellToken 21 = .ok (.iload_n 1, 1) := by decide +kernel
theorem dX13_spellToken_22 : decode cX13_spellToken 22 = .ok (.iaload, 1) := by decide +kernel
theorem dX13_spellToken_23 : decode cX13_spellToken 23 = .ok (.iload_n 2, 1) := by decide +kernel
theorem dX13_spellToken_24 : decode cX13_spellToken 24 = .ok (.iadd, 1) := by decide +kernel
theorem dX13_spellToken_25 : decode cX13_spellToken 25 = .ok (.iaload, 1) := by decide +kernel
theorem dX13_spellToken_26 : decode cX13_spellToken 26 = .ok (.invokevirtual 593, 3) := by decide +kernel
theorem dX13_spellToken_29 : decode cX13_spellToken 29 = .ok (.iinc 2 1, 3) := by decide +kernel
theorem dX13_spellToken_32 : decode cX13_spellToken 32 = .ok (.goto (-30), 3) := by decide +kernel
theorem dX13_spellToken_35 : decode cX13_spellToken 35 = .ok (.return_, 1) := by decide +kernel
theorem dX13_operation_0 : decode cX13_operation 0 = .ok (.iload_n 0, 1) := by decide +kernel
theorem dX13_operation_1 : decode cX13_operation 1 = .ok (.bipush 43, 2) := by decide +kernel
theorem dX13_operation_3 : decode cX13_operation 3 = .ok (.if_icmp .ne 6, 3) := by decide +kernel
theorem dX13_operation_6 : decode cX13_operation 6 = .ok (.bipush 96, 2) := by decide +kernel
theorem dX13_operation_8 : decode cX13_operation 8 = .ok (.ireturn, 1) := by decide +kernel
theorem dX13_operation_9 : decode cX13_operation 9 = .ok (.iload_n 0, 1) := by decide +kernel
theorem dX13_operation_10 : decode cX13_operation 10 = .ok (.bipush 45, 2) := by decide +kernel
theorem dX13_operation_12 : decode cX13_operation 12 = .ok (.if_icmp .ne 6, 3) := by decide +kernel
theorem dX13_operation_15 : decode cX13_operation 15 = .ok (.bipush 100, 2) := by decide +kernel
theorem dX13_operation_17 : decode cX13_operation 17 = .ok (.ireturn, 1) := by decide +kernel
theorem dX13_operation_18 : decode cX13_operation 18 = .ok (.iload_n 0, 1) := by decide +kernel
theorem dX13_operation_19 : decode cX13_operation 19 = .ok (.bipush 42, 2) := by decide +kernel
theorem dX13_operation_21 : decode cX13_operation 21 = .ok (.if_icmp .ne 6, 3) := by decide +kernel
theorem dX13_operation_24 : decode cX13_operation 24 = .ok (.bipush 104, 2) := by decide +kernel
theorem dX13_operation_26 : decode cX13_operation 26 = .ok (.ireturn, 1) := by decide +kernel
theorem dX13_operation_27 : decode cX13_operation 27 = .ok (.iload_n 0, 1) := by decide +kernel
theorem dX13_operation_28 : decode cX13_operation 28 = .ok (.bipush 47, 2) := by decide +kernel
theorem dX13_operation_30 : decode cX13_operation 30 = .ok (.if_icmp .ne 6, 3) := by decide +kernel
theorem dX13_operation_33 : decode cX13_operation 33 = .ok (.bipush 108, 2) := by decide +kernel
theorem dX13_operation_35 : decode cX13_operation 35 = .ok (.ireturn, 1) := by decide +kernel
theorem dX13_operation_36 : decode cX13_operation 36 = .ok (.iload_n 0, 1) := by decide +kernel
theorem dX13_operation_37 : decode cX13_operation 37 = .ok (.bipush 37, 2) := by decide +kernel
theorem dX13_operation_39 : decode cX13_operation 39 = .ok (.if_icmp .ne 6, 3) := by decide +kernel
theorem dX13_operation_42 : decode cX13_operation 42 = .ok (.bipush 112, 2) := by decide +kernel
theorem dX13_operation_44 : decode cX13_operation 44 = .ok (.ireturn, 1) := by decide +kernel
theorem dX13_operation_45 : decode cX13_operation 45 = .ok (.iload_n 0, 1) := by decide +kernel
theorem dX13_operation_46 : decode cX13_operation 46 = .ok (.bipush 38, 2) := by decide +kernel
theorem dX13_operation_48 : decode cX13_operation 48 = .ok (.if_icmp .ne 6, 3) := by decide +kernel
theorem dX13_operation_51 : decode cX13_operation 51 = .ok (.bipush 126, 2) := by decide +kernel
theorem dX13_operation_53 : decode cX13_operation 53 = .ok (.ireturn, 1) := by decide +kernel
theorem dX13_operation_54 : decode cX13_operation 54 = .ok (.iload_n 0, 1) := by decide +kernel
theorem dX13_operation_55 : decode cX13_operation 55 = .ok (.bipush 124, 2) := by decide +kernel
theorem dX13_operation_57 : decode cX13_operation 57 = .ok (.if_icmp .ne 7, 3) := by decide +kernel
theorem dX13_operation_60 : decode cX13_operation 60 = .ok (.sipush 128, 3) := by decide +kernel
theorem dX13_operation_63 : decode cX13_operation 63 = .ok (.ireturn, 1) := by decide +kernel
theorem dX13_operation_64 : decode cX13_operation 64 = .ok (.iload_n 0, 1) := by decide +kernel
theorem dX13_operation_65 : decode cX13_operation 65 = .ok (.bipush 94, 2) := by decide +kernel
theorem dX13_operation_67 : decode cX13_operation 67 = .ok (.if_icmp .ne 7, 3) := by decide +kernel
theorem dX13_operation_70 : decode cX13_operation 70 = .ok (.sipush 130, 3) := by decide +kernel
theorem dX13_operation_73 : decode cX13_operation 73 = .ok (.ireturn, 1) := by decide +kernel
theorem dX13_operation_74 : decode cX13_operation 74 = .ok (.iload_n 0, 1) := by decide +kernel
theorem dX13_operation_75 : decode cX13_operation 75 = .ok (.iconst 0, 1) := by decide +kernel
theorem dX13_operation_76 : decode cX13_operation 76 = .ok (.bipush 60, 2) := by decide +kernel
theorem dX13_operation_78 : decode cX13_operation 78 = .ok (.bipush 60, 2) := by decide +kernel
theorem dX13_operation_80 : decode cX13_operation 80 = .ok (.invokestatic 454, 3) := by decide +kernel
theorem dX13_operation_83 : decode cX13_operation 83 = .ok (.if_icmp .ne 8, 3) := by decide +kernel
theorem dX13_operation_86 : decode cX13_operation 86 = .ok (.bipush 120, 2) := by decide +kernel
theorem dX13_operation_88 : decode cX13_operation 88 = .ok (.goto 22, 3) := by decide +kernel
theorem dX13_operation_91 : decode cX13_operation 91 = .ok (.iload_n 0, 1) := by decide +kernel
theorem dX13_operation_92 : decode cX13_operation 92 = .ok (.iconst 0, 1) := by decide +kernel
theorem dX13_operation_93 : decode cX13_operation 93 = .ok (.bipush 62, 2) := by decide +kernel
theorem dX13_operation_95 : decode cX13_operation 95 = .ok (.bipush 62, 2) := by decide +kernel
theorem dX13_operation_97 : decode cX13_operation 97 = .ok (.invokestatic 454, 3) := by decide +kernel
theorem dX13_operation_100 : decode cX13_operation 100 = .ok (.if_icmp .ne 8, 3) := by decide +kernel
theorem dX13_operation_103 : decode cX13_operation 103 = .ok (.bipush 122, 2) := by decide +kernel
theorem dX13_operation_105 : decode cX13_operation 105 = .ok (.goto 5, 3) := by decide +kernel
theorem dX13_operation_108 : decode cX13_operation 108 = .ok (.bipush 124, 2) := by decide +kernel
theorem dX13_operation_110 : decode cX13_operation 110 = .ok (.ireturn, 1) := by decide +kernel
theorem dX13_isClassConstant_0 : decode cX13_isClassConstant 0 = .ok (.aload_n 0, 1) := by decide +kernel
theorem dX13_isClassConstant_1 : decode cX13_isClassConstant 1 = .ok (.aload_n 0, 1) := by decide +kernel
theorem dX13_isClassConstant_2 : decode cX13_isClassConstant 2 = .ok (.getfield 788, 3) := by decide +kernel
theorem dX13_isClassConstant_5 : decode cX13_isClassConstant 5 = .ok (.iload_n 1, 1) := by decide +kernel
theorem dX13_isClassConstant_6 : decode cX13_isClassConstant 6 = .ok (.invokevirtual 791, 3) := by decide +kernel
theorem dX13_isClassConstant_9 : decode cX13_isClassConstant 9 = .ok (.istore_n 3, 1) := by decide +kernel
theorem dX13_isClassConstant_10 : decode cX13_isClassConstant 10 = .ok (.iload_n 3, 1) := by decide +kernel
theorem dX13_isClassConstant_11 : decode cX13_isClassConstant 11 = .ok (.ifCond .lt 13, 3) := by decide +kernel
theorem dX13_isClassConstant_14 : decode cX13_isClassConstant 14 = .ok (.aload_n 0, 1) := by decide +kernel
theorem dX13_isClassConstant_15 : decode cX13_isClassConstant 15 = .ok (.getfield 245, 3) := by decide +kernel
theorem dX13_isClassConstant_18 : decode cX13_isClassConstant 18 = .ok (.iload_n 3, 1) := by decide +kernel
theorem dX13_isClassConstant_19 : decode cX13_isClassConstant 19 = .ok (.iaload, 1) := by decide +kernel
theorem dX13_isClassConstant_20 : decode cX13_isClassConstant 20 = .ok (.iconst 3, 1) := by decide +kernel
theorem dX13_isClassConstant_21 : decode cX13_isClassConstant 21 = .ok (.if_icmp .eq 5, 3) := by decide +kernel
theorem dX13_isClassConstant_24 : decode cX13_isClassConstant 24 = .ok (.iconst 0, 1) := by decide +kernel
theorem dX13_isClassConstant_25 : decode cX13_isClassConstant 25 = .ok (.ireturn, 1) := by decide +kernel
theorem dX13_isClassConstant_26 : decode cX13_isClassConstant 26 = .ok (.aload_n 0, 1) := by decide +kernel
theorem dX13_isClassConstant_27 : decode cX13_isClassConstant 27 = .ok (.aload_n 0, 1) := by decide +kernel
theorem dX13_isClassConstant_28 : decode cX13_isClassConstant 28 = .ok (.getfield 788, 3) := by decide +kernel
theorem dX13_isClassConstant_31 : decode cX13_isClassConstant 31 = .ok (.aload_n 0, 1) := by decide +kernel
theorem dX13_isClassConstant_32 : decode cX13_isClassConstant 32 = .ok (.getfield 245, 3) := by decide +kernel
theorem dX13_isClassConstant_35 : decode cX13_isClassConstant 35 = .ok (.iload_n 3, 1) := by decide +kernel
theorem dX13_isClassConstant_36 : decode cX13_isClassConstant 36 = .ok (.iconst 1, 1) := by decide +kernel
theorem dX13_isClassConstant_37 : decode cX13_isClassConstant 37 = .ok (.iadd, 1) := by decide +kernel
theorem dX13_isClassConstant_38 : decode cX13_isClassConstant 38 = .ok (.iaload, 1) := by decide +kernel
theorem dX13_isClassConstant_39 : decode cX13_isClassConstant 39 = .ok (.invokevirtual 791, 3) := by decide +kernel
theorem dX13_isClassConstant_42 : decode cX13_isClassConstant 42 = .ok (.istore 4, 2) := by decide +kernel
theorem dX13_isClassConstant_44 : decode cX13_isClassConstant 44 = .ok (.iload_n 2, 1) := by decide +kernel
theorem dX13_isClassConstant_45 : decode cX13_isClassConstant 45 = .ok (.ifCond .ne 33, 3) := by decide +kernel
theorem dX13_isClassConstant_48 : decode cX13_isClassConstant 48 = .ok (.iload 4, 2) := by decide +kernel
theorem dX13_isClassConstant_50 : decode cX13_isClassConstant 50 = .ok (.ifCond .lt 32, 3) := by decide +kernel
theorem dX13_isClassConstant_53 : decode cX13_isClassConstant 53 = .ok (.aload_n 0, 1) := by decide +kernel
theorem dX13_isClassConstant_54 : decode cX13_isClassConstant 54 = .ok (.getfield 245, 3) := by decide +kernel
theorem dX13_isClassConstant_57 : decode cX13_isClassConstant 57 = .ok (.iload 4, 2) := by decide +kernel
theorem dX13_isClassConstant_59 : decode cX13_isClassConstant 59 = .ok (.iaload, 1) := by decide +kernel
theorem dX13_isClassConstant_60 : decode cX13_isClassConstant 60 = .ok (.iconst 1, 1) := by decide +kernel
theorem dX13_isClassConstant_61 : decode cX13_isClassConstant 61 = .ok (.if_icmp .ne 21, 3) := by decide +kernel
theorem dX13_isClassConstant_64 : decode cX13_isClassConstant 64 = .ok (.aload_n 0, 1) := by decide +kernel
theorem dX13_isClassConstant_65 : decode cX13_isClassConstant 65 = .ok (.getfield 245, 3) := by decide +kernel
theorem dX13_isClassConstant_68 : decode cX13_isClassConstant 68 = .ok (.iload 4, 2) := by decide +kernel
theorem dX13_isClassConstant_70 : decode cX13_isClassConstant 70 = .ok (.iconst 2, 1) := by decide +kernel
theorem dX13_isClassConstant_71 : decode cX13_isClassConstant 71 = .ok (.iadd, 1) := by decide +kernel
theorem dX13_isClassConstant_72 : decode cX13_isClassConstant 72 = .ok (.iaload, 1) := by decide +kernel
theorem dX13_isClassConstant_73 : decode cX13_isClassConstant 73 = .ok (.bipush 91, 2) := by decide +kernel
theorem dX13_isClassConstant_75 : decode cX13_isClassConstant 75 = .ok (.if_icmp .eq 7, 3) := by decide +kernel
theorem dX13_isClassConstant_78 : decode cX13_isClassConstant 78 = .ok (.iconst 1, 1) := by decide +kernel
theorem dX13_isClassConstant_79 : decode cX13_isClassConstant 79 = .ok (.goto 4, 3) := by decide +kernel
theorem dX13_isClassConstant_82 : decode cX13_isClassConstant 82 = .ok (.iconst 0, 1) := by decide +kernel
theorem dX13_isClassConstant_83 : decode cX13_isClassConstant 83 = .ok (.ireturn, 1) := by decide +kernel
theorem dX13_install_0 : decode cX13_install 0 = .ok (.iconst 0, 1) := by decide +kernel
theorem dX13_install_1 : decode cX13_install 1 = .ok (.istore_n 2, 1) := by decide +kernel
theorem dX13_install_2 : decode cX13_install 2 = .ok (.iload_n 2, 1) := by decide +kernel
theorem dX13_install_3 : decode cX13_install 3 = .ok (.aload_n 0, 1) := by decide +kernel
theorem dX13_install_4 : decode cX13_install 4 = .ok (.getfield 767, 3) := by decide +kernel
theorem dX13_install_7 : decode cX13_install 7 = .ok (.if_icmp .ge 27, 3) := by decide +kernel
theorem dX13_install_10 : decode cX13_install 10 = .ok (.aload_n 0, 1) := by decide +kernel
theorem dX13_install_11 : decode cX13_install 11 = .ok (.getfield 209, 3) := by decide +kernel
theorem dX13_install_14 : decode cX13_install 14 = .ok (.sipush 6000, 3) := by decide +kernel
theorem dX13_install_17 : decode cX13_install 17 = .ok (.iload_n 1, 1) := by decide +kernel
theorem dX13_install_18 : decode cX13_install 18 = .ok (.imul, 1) := by decide +kernel
theorem dX13_install_19 : decode cX13_install 19 = .ok (.iload_n 2, 1) := by decide +kernel
theorem dX13_install_20 : decode cX13_install 20 = .ok (.iadd, 1) := by decide +kernel
theorem dX13_install_21 : decode cX13_install 21 = .ok (.aload_n 0, 1) := by decide +kernel
theorem dX13_install_22 : decode cX13_install 22 = .ok (.getfield 245, 3) := by decide +kernel
theorem dX13_install_25 : decode cX13_install 25 = .ok (.iload_n 2, 1) := by decide +kernel
theorem dX13_install_26 : decode cX13_install 26 = .ok (.iaload, 1) := by decide +kernel
theorem dX13_install_27 : decode cX13_install 27 = .ok (.iastore, 1) := by decide +kernel
theorem dX13_install_28 : decode cX13_install 28 = .ok (.iinc 2 1, 3) := by decide +kernel
theorem dX13_install_31 : decode cX13_install 31 = .ok (.goto (-29), 3) := by decide +kernel
theorem dX13_install_34 : decode cX13_install 34 = .ok (.aload_n 0, 1) := by decide +kernel
theorem dX13_install_35 : decode cX13_install 35 = .ok (.getfield 212, 3) := by decide +kernel
theorem dX13_install_38 : decode cX13_install 38 = .ok (.iload_n 1, 1) := by decide +kernel
theorem dX13_install_39 : decode cX13_install 39 = .ok (.aload_n 0, 1) := by decide +kernel
theorem dX13_install_40 : decode cX13_install 40 = .ok (.getfield 767, 3) := by decide +kernel
theorem dX13_install_43 : decode cX13_install 43 = .ok (.iastore, 1) := by decide +kernel
theorem dX13_install_44 : decode cX13_install 44 = .ok (.bipush 8, 2) := by decide +kernel
theorem dX13_install_46 : decode cX13_install 46 = .ok (.iload_n 1, 1) := by decide +kernel
theorem dX13_install_47 : decode cX13_install 47 = .ok (.iadd, 1) := by decide +kernel
theorem dX13_install_48 : decode cX13_install 48 = .ok (.ireturn, 1) := by decide +kernel
theorem dX13_frameAt_0 : decode cX13_frameAt 0 = .ok (.aload_n 0, 1) := by decide +kernel
theorem dX13_frameAt_1 : decode cX13_frameAt 1 = .ok (.getfield 242, 3) := by decide +kernel
theorem dX13_frameAt_4 : decode cX13_frameAt 4 = .ok (.bipush 12, 2) := by decide +kernel
theorem dX13_frameAt_6 : decode cX13_frameAt 6 = .ok (.aload_n 0, 1) := by decide +kernel
theorem dX13_frameAt_7 : decode cX13_frameAt 7 = .ok (.getfield 932, 3) := by decide +kernel
theorem dX13_frameAt_10 : decode cX13_frameAt 10 = .ok (.imul, 1) := by decide +kernel
theorem dX13_frameAt_11 : decode cX13_frameAt 11 = .ok (.aload_n 0, 1) := by decide +kernel
theorem dX13_frameAt_12 : decode cX13_frameAt 12 = .ok (.getfield 940, 3) := by decide +kernel
theorem dX13_frameAt_15 : decode cX13_frameAt 15 = .ok (.iadd, 1) := by decide +kernel
theorem dX13_frameAt_16 : decode cX13_frameAt 16 = .ok (.iaload, 1) := by decide +kernel
theorem dX13_frameAt_17 : decode cX13_frameAt 17 = .ok (.iconst 1, 1) := by decide +kernel
theorem dX13_frameAt_18 : decode cX13_frameAt 18 = .ok (.iadd, 1) := by decide +kernel
theorem dX13_frameAt_19 : decode cX13_frameAt 19 = .ok (.istore_n 2, 1) := by decide +kernel
theorem dX13_frameAt_20 : decode cX13_frameAt 20 = .ok (.iconst 0, 1) := by decide +kernel
theorem dX13_frameAt_21 : decode cX13_frameAt 21 = .ok (.istore_n 3, 1) := by decide +kernel
theorem dX13_frameAt_22 : decode cX13_frameAt 22 = .ok (.iload_n 3, 1) := by decide +kernel
theorem dX13_frameAt_23 : decode cX13_frameAt 23 = .ok (.iload_n 1, 1) := by decide +kernel
theorem dX13_frameAt_24 : decode cX13_frameAt 24 = .ok (.if_icmp .ge 21, 3) := by decide +kernel
theorem dX13_frameAt_27 : decode cX13_frameAt 27 = .ok (.aload_n 0, 1) := by decide +kernel
theorem dX13_frameAt_28 : decode cX13_frameAt 28 = .ok (.aload_n 0, 1) := by decide +kernel
theorem dX13_frameAt_29 : decode cX13_frameAt 29 = .ok (.iload_n 2, 1) := by decide +kernel
theorem dX13_frameAt_30 : decode cX13_frameAt 30 = .ok (.iconst 2, 1) := by decide +kernel
theorem dX13_frameAt_31 : decode cX13_frameAt 31 = .ok (.iadd, 1) := by decide +kernel
theorem dX13_frameAt_32 : decode cX13_frameAt 32 = .ok (.invokevirtual 943, 3) := by decide +kernel
theorem dX13_frameAt_35 : decode cX13_frameAt 35 = .ok (.invokevirtual 943, 3) := by decide +kernel
theorem dX13_frameAt_38 : decode cX13_frameAt 38 = .ok (.istore_n 2, 1) := by decide +kernel
theorem dX13_frameAt_39 : decode cX13_frameAt 39 = .ok (.iinc 3 1, 3) := by decide +kernel
theorem dX13_frameAt_42 : decode cX13_frameAt 42 = .ok (.goto (-20), 3) := by decide +kernel
theorem dX13_frameAt_45 : decode cX13_frameAt 45 = .ok (.iload_n 2, 1) := by decide +kernel
theorem dX13_frameAt_46 : decode cX13_frameAt 46 = .ok (.ireturn, 1) := by decide +kernel
theorem dX13_typesEnd_0 : decode cX13_typesEnd 0 = .ok (.aload_n 0, 1) := by decide +kernel
theorem dX13_typesEnd_1 : decode cX13_typesEnd 1 = .ok (.aload_n 0, 1) := by decide +kernel
theorem dX13_typesEnd_2 : decode cX13_typesEnd 2 = .ok (.getfield 932, 3) := by decide +kernel
theorem dX13_typesEnd_5 : decode cX13_typesEnd 5 = .ok (.iload_n 1, 1) := by decide +kernel
theorem dX13_typesEnd_6 : decode cX13_typesEnd 6 = .ok (.invokevirtual 864, 3) := by decide +kernel
theorem dX13_typesEnd_9 : decode cX13_typesEnd 9 = .ok (.istore_n 2, 1) := by decide +kernel
theorem dX13_typesEnd_10 : decode cX13_typesEnd 10 = .ok (.iload_n 1, 1) := by decide +kernel
theorem dX13_typesEnd_11 : decode cX13_typesEnd 11 = .ok (.iconst 1, 1) := by decide +kernel
theorem dX13_typesEnd_12 : decode cX13_typesEnd 12 = .ok (.iadd, 1) := by decide +kernel
theorem dX13_typesEnd_13 : decode cX13_typesEnd 13 = .ok (.istore_n 3, 1) := by decide +kernel
theorem dX13_typesEnd_14 : decode cX13_typesEnd 14 = .ok (.iconst 0, 1) := by decide +kernel
theorem dX13_typesEnd_15 : decode cX13_typesEnd 15 = .ok (.istore 4, 2) := by decide +kernel
theorem dX13_typesEnd_17 : decode cX13_typesEnd 17 = .ok (.iload 4, 2) := by decide +kernel
theorem dX13_typesEnd_19 : decode cX13_typesEnd 19 = .ok (.iload_n 2, 1) := by decide +kernel
theorem dX13_typesEnd_20 : decode cX13_typesEnd 20 = .ok (.if_icmp .ge 30, 3) := by decide +kernel
theorem dX13_typesEnd_23 : decode cX13_typesEnd 23 = .ok (.iload_n 3, 1) := by decide +kernel
theorem dX13_typesEnd_24 : decode cX13_typesEnd 24 = .ok (.aload_n 0, 1) := by decide +kernel
theorem dX13_typesEnd_25 : decode cX13_typesEnd 25 = .ok (.aload_n 0, 1) := by decide +kernel
theorem dX13_typesEnd_26 : decode cX13_typesEnd 26 = .ok (.getfield 932, 3) := by decide +kernel
theorem dX13_typesEnd_29 : decode cX13_typesEnd 29 = .ok (.iload_n 3, 1) := by decide +kernel
theorem dX13_typesEnd_30 : decode cX13_typesEnd 30 = .ok (.invokevirtual 864, 3) := by decide +kernel
theorem dX13_typesEnd_33 : decode cX13_typesEnd 33 = .ok (.iconst 3, 1) := by decide +kernel
theorem dX13_typesEnd_34 : decode cX13_typesEnd 34 = .ok (.if_icmp .ne 7, 3) := by decide +kernel
theorem dX13_typesEnd_37 : decode cX13_typesEnd 37 = .ok (.iconst 2, 1) := by decide +kernel
theorem dX13_typesEnd_38 : decode cX13_typesEnd 38 = .ok (.goto 4, 3) := by decide +kernel
theorem dX13_typesEnd_41 : decode cX13_typesEnd 41 = .ok (.iconst 1, 1) := by decide +kernel
theorem dX13_typesEnd_42 : decode cX13_typesEnd 42 = .ok (.iadd, 1) := by decide +kernel
theorem dX13_typesEnd_43 : decode cX13_typesEnd 43 = .ok (.istore_n 3, 1) := by decide +kernel
theorem dX13_typesEnd_44 : decode cX13_typesEnd 44 = .ok (.iinc 4 1, 3) := by decide +kernel
theorem dX13_typesEnd_47 : decode cX13_typesEnd 47 = .ok (.goto (-30), 3) := by decide +kernel
theorem dX13_typesEnd_50 : decode cX13_typesEnd 50 = .ok (.iload_n 3, 1) := by decide +kernel
theorem dX13_typesEnd_51 : decode cX13_typesEnd 51 = .ok (.ireturn, 1) := by decide +kernel
theorem dX13_frameFor_0 : decode cX13_frameFor 0 = .ok (.aload_n 0, 1) := by decide +kernel
theorem dX13_frameFor_1 : decode cX13_frameFor 1 = .ok (.getfield 242, 3) := by decide +kernel
theorem dX13_frameFor_4 : decode cX13_frameFor 4 = .ok (.bipush 12, 2) := by decide +kernel
theorem dX13_frameFor_6 : decode cX13_frameFor 6 = .ok (.aload_n 0, 1) := by decide +kernel
theorem dX13_frameFor_7 : decode cX13_frameFor 7 = .ok (.getfield 932, 3) := by decide +kernel
theorem dX13_frameFor_10 : decode cX13_frameFor 10 = .ok (.imul, 1) := by decide +kernel
theorem dX13_frameFor_11 : decode cX13_frameFor 11 = .ok (.aload_n 0, 1) := by decide +kernel
theorem dX13_frameFor_12 : decode cX13_frameFor 12 = .ok (.getfield 940, 3) := by decide +kernel
theorem dX13_frameFor_15 : decode cX13_frameFor 15 = .ok (.iadd, 1) := by decide +kernel
theorem dX13_frameFor_16 : decode cX13_frameFor 16 = .ok (.iaload, 1) := by decide +kernel
theorem dX13_frameFor_17 : decode cX13_frameFor 17 = .ok (.iconst 1, 1) := by decide +kernel
theorem dX13_frameFor_18 : decode cX13_frameFor 18 = .ok (.iadd, 1) := by decide +kernel
theorem dX13_frameFor_19 : decode cX13_frameFor 19 = .ok (.istore_n 2, 1) := by decide +kernel
theorem dX13_frameFor_20 : decode cX13_frameFor 20 = .ok (.iconst 0, 1) := by decide +kernel
theorem dX13_frameFor_21 : decode cX13_frameFor 21 = .ok (.istore_n 3, 1) := by decide +kernel
theorem dX13_frameFor_22 : decode cX13_frameFor 22 = .ok (.iload_n 3, 1) := by decide +kernel
theorem dX13_frameFor_23 : decode cX13_frameFor 23 = .ok (.aload_n 0, 1) := by decide +kernel
theorem dX13_frameFor_24 : decode cX13_frameFor 24 = .ok (.invokevirtual 946, 3) := by decide +kernel
theorem dX13_frameFor_27 : decode cX13_frameFor 27 = .ok (.if_icmp .ge 32, 3) := by decide +kernel
theorem dX13_frameFor_30 : decode cX13_frameFor 30 = .ok (.aload_n 0, 1) := by decide +kernel
theorem dX13_frameFor_31 : decode cX13_frameFor 31 = .ok (.iload_n 2, 1) := by decide +kernel
theorem dX13_frameFor_32 : decode cX13_frameFor 32 = .ok (.invokevirtual 949, 3) := by decide +kernel
theorem dX13_frameFor_35 : decode cX13_frameFor 35 = .ok (.iload_n 1, 1) := by decide +kernel
theorem dX13_frameFor_36 : decode cX13_frameFor 36 = .ok (.if_icmp .ne 5, 3) := by decide +kernel
theorem dX13_frameFor_39 : decode cX13_frameFor 39 = .ok (.iload_n 2, 1) := by decide +kernel
theorem dX13_frameFor_40 : decode cX13_frameFor 40 = .ok (.ireturn, 1) := by decide +kernel
theorem dX13_frameFor_41 : decode cX13_frameFor 41 = .ok (.aload_n 0, 1) := by decide +kernel
theorem dX13_frameFor_42 : decode cX13_frameFor 42 = .ok (.aload_n 0, 1) := by decide +kernel
theorem dX13_frameFor_43 : decode cX13_frameFor 43 = .ok (.iload_n 2, 1) := by decide +kernel
theorem dX13_frameFor_44 : decode cX13_frameFor 44 = .ok (.iconst 2, 1) := by decide +kernel
theorem dX13_frameFor_45 : decode cX13_frameFor 45 = .ok (.iadd, 1) := by decide +kernel
theorem dX13_frameFor_46 : decode cX13_frameFor 46 = .ok (.invokevirtual 943, 3) := by decide +kernel
theorem dX13_frameFor_49 : decode cX13_frameFor 49 = .ok (.invokevirtual 943, 3) := by decide +kernel
theorem dX13_frameFor_52 : decode cX13_frameFor 52 = .ok (.istore_n 2, 1) := by decide +kernel
theorem dX13_frameFor_53 : decode cX13_frameFor 53 = .ok (.iinc 3 1, 3) := by decide +kernel
theorem dX13_frameFor_56 : decode cX13_frameFor 56 = .ok (.goto (-34), 3) := by decide +kernel
theorem dX13_frameFor_59 : decode cX13_frameFor 59 = .ok (.iconst (-1), 1) := by decide +kernel
theorem dX13_frameFor_60 : decode cX13_frameFor 60 = .ok (.ireturn, 1) := by decide +kernel
theorem dX13_at__0 : decode cX13_at_ 0 = .ok (.aload_n 0, 1) := by decide +kernel
theorem dX13_at__1 : decode cX13_at_ 1 = .ok (.iload_n 1, 1) := by decide +kernel
theorem dX13_at__2 : decode cX13_at_ 2 = .ok (.bipush 8, 2) := by decide +kernel
theorem dX13_at__4 : decode cX13_at_ 4 = .ok (.isub, 1) := by decide +kernel
theorem dX13_at__5 : decode cX13_at_ 5 = .ok (.putfield 932, 3) := by decide +kernel
theorem dX13_at__8 : decode cX13_at_ 8 = .ok (.aload_n 0, 1) := by decide +kernel
theorem dX13_at__9 : decode cX13_at_ 9 = .ok (.iload_n 2, 1) := by decide +kernel
theorem dX13_at__10 : decode cX13_at_ 10 = .ok (.putfield 940, 3) := by decide +kernel
theorem dX13_at__13 : decode cX13_at_ 13 = .ok (.aload_n 0, 1) := by decide +kernel
theorem dX13_at__14 : decode cX13_at_ 14 = .ok (.getfield 236, 3) := by decide +kernel
theorem dX13_at__17 : decode cX13_at_ 17 = .ok (.bipush 12, 2) := by decide +kernel
theorem dX13_at__19 : decode cX13_at_ 19 = .ok (.aload_n 0, 1) := by decide +kernel
theorem dX13_at__20 : decode cX13_at_ 20 = .ok (.getfield 932, 3) := by decide +kernel
theorem dX13_at__23 : decode cX13_at_ 23 = .ok (.imul, 1) := by decide +kernel
theorem dX13_at__24 : decode cX13_at_ 24 = .ok (.iload_n 2, 1) := by decide +kernel
theorem dX13_at__25 : decode cX13_at_ 25 = .ok (.iadd, 1) := by decide +kernel
theorem dX13_at__26 : decode cX13_at_ 26 = .ok (.iaload, 1) := by decide +kernel
theorem dX13_at__27 : decode cX13_at_ 27 = .ok (.istore_n 3, 1) := by decide +kernel
theorem dX13_at__28 : decode cX13_at_ 28 = .ok (.aload_n 0, 1) := by decide +kernel
theorem dX13_at__29 : decode cX13_at_ 29 = .ok (.aload_n 0, 1) := by decide +kernel
theorem dX13_at__30 : decode cX13_at_ 30 = .ok (.aload_n 0, 1) := by decide +kernel
theorem dX13_at__31 : decode cX13_at_ 31 = .ok (.getfield 932, 3) := by decide +kernel
theorem dX13_at__34 : decode cX13_at_ 34 = .ok (.iload_n 3, 1) := by decide +kernel
theorem dX13_at__35 : decode cX13_at_ 35 = .ok (.iconst 3, 1) := by decide +kernel
theorem dX13_at__36 : decode cX13_at_ 36 = .ok (.iadd, 1) := by decide +kernel
theorem dX13_at__37 : decode cX13_at_ 37 = .ok (.invokevirtual 864, 3) := by decide +kernel
theorem dX13_at__40 : decode cX13_at_ 40 = .ok (.putfield 967, 3) := by decide +kernel
theorem dX13_at__43 : decode cX13_at_ 43 = .ok (.aload_n 0, 1) := by decide +kernel
theorem dX13_at__44 : decode cX13_at_ 44 = .ok (.aload_n 0, 1) := by decide +kernel
theorem dX13_at__45 : decode cX13_at_ 45 = .ok (.aload_n 0, 1) := by decide +kernel
theorem dX13_at__46 : decode cX13_at_ 46 = .ok (.getfield 932, 3) := by decide +kernel
theorem dX13_at__49 : decode cX13_at_ 49 = .ok (.iload_n 3, 1) := by decide +kernel
theorem dX13_at__50 : decode cX13_at_ 50 = .ok (.iconst 4, 1) := by decide +kernel
theorem dX13_at__51 : decode cX13_at_ 51 = .ok (.iadd, 1) := by decide +kernel
theorem dX13_at__52 : decode cX13_at_ 52 = .ok (.invokevirtual 864, 3) := by decide +kernel
theorem dX13_at__55 : decode cX13_at_ 55 = .ok (.putfield 964, 3) := by decide +kernel
theorem dX13_at__58 : decode cX13_at_ 58 = .ok (.aload_n 0, 1) := by decide +kernel
theorem dX13_at__59 : decode cX13_at_ 59 = .ok (.aload_n 0, 1) := by decide +kernel
theorem dX13_at__60 : decode cX13_at_ 60 = .ok (.iload_n 3, 1) := by decide +kernel
theorem dX13_at__61 : decode cX13_at_ 61 = .ok (.iconst 5, 1) := by decide +kernel
theorem dX13_at__62 : decode cX13_at_ 62 = .ok (.iadd, 1) := by decide +kernel
theorem dX13_at__63 : decode cX13_at_ 63 = .ok (.invokevirtual 949, 3) := by decide +kernel
theorem dX13_at__66 : decode cX13_at_ 66 = .ok (.putfield 970, 3) := by decide +kernel
theorem dX13_at__69 : decode cX13_at_ 69 = .ok (.aload_n 0, 1) := by decide +kernel
theorem dX13_at__70 : decode cX13_at_ 70 = .ok (.iload_n 3, 1) := by decide +kernel
theorem dX13_at__71 : decode cX13_at_ 71 = .ok (.bipush 7, 2) := by decide +kernel
theorem dX13_at__73 : decode cX13_at_ 73 = .ok (.iadd, 1) := by decide +kernel
theorem dX13_at__74 : decode cX13_at_ 74 = .ok (.putfield 935, 3) := by decide +kernel
theorem dX13_at__77 : decode cX13_at_ 77 = .ok (.return_, 1) := by decide +kernel
theorem dX13_pullInts_0 : decode cX13_pullInts 0 = .ok (.iconst 0, 1) := by decide +kernel
theorem dX13_pullInts_1 : decode cX13_pullInts 1 = .ok (.istore_n 2, 1) := by decide +kernel
theorem dX13_pullInts_2 : decode cX13_pullInts 2 = .ok (.iload_n 2, 1) := by decide +kernel
theorem dX13_pullInts_3 : decode cX13_pullInts 3 = .ok (.iload_n 1, 1) := by decide +kernel
theorem dX13_pullInts_4 : decode cX13_pullInts 4 = .ok (.if_icmp .ge 19, 3) := by decide +kernel
theorem dX13_pullInts_7 : decode cX13_pullInts 7 = .ok (.aload_n 0, 1) := by decide +kernel
theorem dX13_pullInts_8 : decode cX13_pullInts 8 = .ok (.invokevirtual 1025, 3) := by decide +kernel
theorem dX13_pullInts_11 : decode cX13_pullInts 11 = .ok (.iconst 1, 1) := by decide +kernel
theorem dX13_pullInts_12 : decode cX13_pullInts 12 = .ok (.if_icmp .eq 5, 3) := by decide +kernel
theorem dX13_pullInts_15 : decode cX13_pullInts 15 = .ok (.iconst 0, 1) := by decide +kernel
theorem dX13_pullInts_16 : decode cX13_pullInts 16 = .ok (.ireturn, 1) := by decide +kernel
theorem dX13_pullInts_17 : decode cX13_pullInts 17 = .ok (.iinc 2 1, 3) := by decide +kernel
theorem dX13_pullInts_20 : decode cX13_pullInts 20 = .ok (.goto (-18), 3) := by decide +kernel
theorem dX13_pullInts_23 : decode cX13_pullInts 23 = .ok (.iconst 1, 1) := by decide +kernel
theorem dX13_pullInts_24 : decode cX13_pullInts 24 = .ok (.ireturn, 1) := by decide +kernel
theorem dX13_enter_0 : decode cX13_enter 0 = .ok (.aload_n 0, 1) := by decide +kernel
theorem dX13_enter_1 : decode cX13_enter 1 = .ok (.getfield 294, 3) := by decide +kernel
theorem dX13_enter_4 : decode cX13_enter 4 = .ok (.aload_n 0, 1) := by decide +kernel
theorem dX13_enter_5 : decode cX13_enter 5 = .ok (.getfield 1058, 3) := by decide +kernel
theorem dX13_enter_8 : decode cX13_enter 8 = .ok (.iload_n 1, 1) := by decide +kernel
theorem dX13_enter_9 : decode cX13_enter 9 = .ok (.iastore, 1) := by decide +kernel
theorem dX13_enter_10 : decode cX13_enter 10 = .ok (.aload_n 0, 1) := by decide +kernel
theorem dX13_enter_11 : decode cX13_enter 11 = .ok (.getfield 297, 3) := by decide +kernel
theorem dX13_enter_14 : decode cX13_enter 14 = .ok (.aload_n 0, 1) := by decide +kernel
theorem dX13_enter_15 : decode cX13_enter 15 = .ok (.getfield 1058, 3) := by decide +kernel
theorem dX13_enter_18 : decode cX13_enter 18 = .ok (.iload_n 2, 1) := by decide +kernel
theorem dX13_enter_19 : decode cX13_enter 19 = .ok (.iastore, 1) := by decide +kernel
theorem dX13_enter_20 : decode cX13_enter 20 = .ok (.aload_n 0, 1) := by decide +kernel
theorem dX13_enter_21 : decode cX13_enter 21 = .ok (.getfield 300, 3) := by decide +kernel
theorem dX13_enter_24 : decode cX13_enter 24 = .ok (.aload_n 0, 1) := by decide +kernel
theorem dX13_enter_25 : decode cX13_enter 25 = .ok (.getfield 1058, 3) := by decide +kernel
theorem dX13_enter_28 : decode cX13_enter 28 = .ok (.iconst 0, 1) := by decide +kernel
theorem dX13_enter_29 : decode cX13_enter 29 = .ok (.iastore, 1) := by decide +kernel
theorem dX13_enter_30 : decode cX13_enter 30 = .ok (.aload_n 0, 1) := by decide +kernel
theorem dX13_enter_31 : decode cX13_enter 31 = .ok (.getfield 303, 3) := by decide +kernel
theorem dX13_enter_34 : decode cX13_enter 34 = .ok (.aload_n 0, 1) := by decide +kernel
theorem dX13_enter_35 : decode cX13_enter 35 = .ok (.getfield 1058, 3) := by decide +kernel
theorem dX13_enter_38 : decode cX13_enter 38 = .ok (.iconst 0, 1) := by decide +kernel
theorem dX13_enter_39 : decode cX13_enter 39 = .ok (.iastore, 1) := by decide +kernel
theorem dX13_enter_40 : decode cX13_enter 40 = .ok (.iconst 0, 1) := by decide +kernel
theorem dX13_enter_41 : decode cX13_enter 41 = .ok (.istore_n 3, 1) := by decide +kernel
theorem dX13_enter_42 : decode cX13_enter 42 = .ok (.iload_n 3, 1) := by decide +kernel
theorem dX13_enter_43 : decode cX13_enter 43 = .ok (.bipush 60, 2) := by decide +kernel
theorem dX13_enter_45 : decode cX13_enter 45 = .ok (.if_icmp .ge 24, 3) := by decide +kernel
theorem dX13_enter_48 : decode cX13_enter 48 = .ok (.aload_n 0, 1) := by decide +kernel
theorem dX13_enter_49 : decode cX13_enter 49 = .ok (.getfield 306, 3) := by decide +kernel
theorem dX13_enter_52 : decode cX13_enter 52 = .ok (.bipush 60, 2) := by decide +kernel
theorem dX13_enter_54 : decode cX13_enter 54 = .ok (.aload_n 0, 1) := by decide +kernel
theorem dX13_enter_55 : decode cX13_enter 55 = .ok (.getfield 1058, 3) := by decide +kernel
theorem dX13_enter_58 : decode cX13_enter 58 = .ok (.imul, 1) := by decide +kernel
theorem dX13_enter_59 : decode cX13_enter 59 = .ok (.iload_n 3, 1) := by decide +kernel
theorem dX13_enter_60 : decode cX13_enter 60 = .ok (.iadd, 1) := by decide +kernel
theorem dX13_enter_61 : decode cX13_enter 61 = .ok (.iconst 0, 1) := by decide +kernel
theorem dX13_enter_62 : decode cX13_enter 62 = .ok (.iastore, 1) := by decide +kernel
theorem dX13_enter_63 : decode cX13_enter 63 = .ok (.iinc 3 1, 3) := by decide +kernel
theorem dX13_enter_66 : decode cX13_enter 66 = .ok (.goto (-24), 3) := by decide +kernel
theorem dX13_enter_69 : decode cX13_enter 69 = .ok (.aload_n 0, 1) := by decide +kernel
theorem dX13_enter_70 : decode cX13_enter 70 = .ok (.dup, 1) := by decide +kernel
theorem dX13_enter_71 : decode cX13_enter 71 = .ok (.getfield 1058, 3) := by decide +kernel
theorem dX13_enter_74 : decode cX13_enter 74 = .ok (.iconst 1, 1) := by decide +kernel
theorem dX13_enter_75 : decode cX13_enter 75 = .ok (.iadd, 1) := by decide +kernel
theorem dX13_enter_76 : decode cX13_enter 76 = .ok (.putfield 1058, 3) := by decide +kernel
theorem dX13_enter_79 : decode cX13_enter 79 = .ok (.return_, 1) := by decide +kernel
theorem dX13_intOf_0 : decode cX13_intOf 0 = .ok (.aload_n 0, 1) := by decide +kernel
theorem dX13_intOf_1 : decode cX13_intOf 1 = .ok (.getfield 294, 3) := by decide +kernel
theorem dX13_intOf_4 : decode cX13_intOf 4 = .ok (.aload_n 0, 1) := by decide +kernel
theorem dX13_intOf_5 : decode cX13_intOf 5 = .ok (.getfield 1058, 3) := by decide +kernel
theorem dX13_intOf_8 : decode cX13_intOf 8 = .ok (.iconst 1, 1) := by decide +kernel
theorem dX13_intOf_9 : decode cX13_intOf 9 = .ok (.isub, 1) := by decide +kernel
theorem dX13_intOf_10 : decode cX13_intOf 10 = .ok (.iaload, 1) := by decide +kernel
theorem dX13_intOf_11 : decode cX13_intOf 11 = .ok (.bipush 8, 2) := by decide +kernel
theorem dX13_intOf_13 : decode cX13_intOf 13 = .ok (.isub, 1) := by decide +kernel
theorem dX13_intOf_14 : decode cX13_intOf 14 = .ok (.istore_n 2, 1) := by decide +kernel
theorem dX13_intOf_15 : decode cX13_intOf 15 = .ok (.aload_n 0, 1) := by decide +kernel
theorem dX13_intOf_16 : decode cX13_intOf 16 = .ok (.getfield 215, 3) := by decide +kernel
theorem dX13_intOf_19 : decode cX13_intOf 19 = .ok (.sipush 256, 3) := by decide +kernel
theorem dX13_intOf_22 : decode cX13_intOf 22 = .ok (.iload_n 2, 1) := by decide +kernel
theorem dX13_intOf_23 : decode cX13_intOf 23 = .ok (.imul, 1) := by decide +kernel
theorem dX13_intOf_24 : decode cX13_intOf 24 = .ok (.iload_n 1, 1) := by decide +kernel
theorem dX13_intOf_25 : decode cX13_intOf 25 = .ok (.iadd, 1) := by decide +kernel
theorem dX13_intOf_26 : decode cX13_intOf 26 = .ok (.iaload, 1) := by decide +kernel
theorem dX13_intOf_27 : decode cX13_intOf 27 = .ok (.iconst 1, 1) := by decide +kernel
theorem dX13_intOf_28 : decode cX13_intOf 28 = .ok (.iadd, 1) := by decide +kernel
theorem dX13_intOf_29 : decode cX13_intOf 29 = .ok (.istore_n 3, 1) := by decide +kernel
theorem dX13_intOf_30 : decode cX13_intOf 30 = .ok (.aload_n 0, 1) := by decide +kernel
theorem dX13_intOf_31 : decode cX13_intOf 31 = .ok (.iload_n 2, 1) := by decide +kernel
theorem dX13_intOf_32 : decode cX13_intOf 32 = .ok (.iload_n 3, 1) := by decide +kernel
theorem dX13_intOf_33 : decode cX13_intOf 33 = .ok (.invokevirtual 864, 3) := by decide +kernel
theorem dX13_intOf_36 : decode cX13_intOf 36 = .ok (.bipush 24, 2) := by decide +kernel
theorem dX13_intOf_38 : decode cX13_intOf 38 = .ok (.ishl, 1) := by decide +kernel
theorem dX13_intOf_39 : decode cX13_intOf 39 = .ok (.aload_n 0, 1) := by decide +kernel
theorem dX13_intOf_40 : decode cX13_intOf 40 = .ok (.iload_n 2, 1) := by decide +kernel
theorem dX13_intOf_41 : decode cX13_intOf 41 = .ok (.iload_n 3, 1) := by decide +kernel
theorem dX13_intOf_42 : decode cX13_intOf 42 = .ok (.iconst 1, 1) := by decide +kernel
theorem dX13_intOf_43 : decode cX13_intOf 43 = .ok (.iadd, 1) := by decide +kernel
theorem dX13_intOf_44 : decode cX13_intOf 44 = .ok (.invokevirtual 864, 3) := by decide +kernel
theorem dX13_intOf_47 : decode cX13_intOf 47 = .ok (.bipush 16, 2) := by decide +kernel
theorem dX13_intOf_49 : decode cX13_intOf 49 = .ok (.ishl, 1) := by decide +kernel
theorem dX13_intOf_50 : decode cX13_intOf 50 = .ok (.ior, 1) := by decide +kernel
theorem dX13_intOf_51 : decode cX13_intOf 51 = .ok (.aload_n 0, 1) := by decide +kernel
theorem dX13_intOf_52 : decode cX13_intOf 52 = .ok (.iload_n 2, 1) := by decide +kernel
theorem dX13_intOf_53 : decode cX13_intOf 53 = .ok (.iload_n 3, 1) := by decide +kernel
theorem dX13_intOf_54 : decode cX13_intOf 54 = .ok (.iconst 2, 1) := by decide +kernel
theorem dX13_intOf_55 : decode cX13_intOf 55 = .ok (.iadd, 1) := by decide +kernel
theorem dX13_intOf_56 : decode cX13_intOf 56 = .ok (.invokevirtual 864, 3) := by decide +kernel
theorem dX13_intOf_59 : decode cX13_intOf 59 = .ok (.bipush 8, 2) := by decide +kernel
theorem dX13_intOf_61 : decode cX13_intOf 61 = .ok (.ishl, 1) := by decide +kernel
theorem dX13_intOf_62 : decode cX13_intOf 62 = .ok (.ior, 1) := by decide +kernel
theorem dX13_intOf_63 : decode cX13_intOf 63 = .ok (.aload_n 0, 1) := by decide +kernel
theorem dX13_intOf_64 : decode cX13_intOf 64 = .ok (.iload_n 2, 1) := by decide +kernel
theorem dX13_intOf_65 : decode cX13_intOf 65 = .ok (.iload_n 3, 1) := by decide +kernel
theorem dX13_intOf_66 : decode cX13_intOf 66 = .ok (.iconst 3, 1) := by decide +kernel
theorem dX13_intOf_67 : decode cX13_intOf 67 = .ok (.iadd, 1) := by decide +kernel
theorem dX13_intOf_68 : decode cX13_intOf 68 = .ok (.invokevirtual 864, 3) := by decide +kernel
theorem dX13_intOf_71 : decode cX13_intOf 71 = .ok (.ior, 1) := by decide +kernel
theorem dX13_intOf_72 : decode cX13_intOf 72 = .ok (.ireturn, 1) := by decide +kernel
theorem dX13_back_0 : decode cX13_back 0 = .ok (.iload_n 1, 1) := by decide +kernel
theorem dX13_back_1 : decode cX13_back 1 = .ok (.sipush 177, 3) := by decide +kernel
theorem dX13_back_4 : decode cX13_back 4 = .ok (.if_icmp .ne 7, 3) := by decide +kernel
theorem dX13_back_7 : decode cX13_back 7 = .ok (.iconst 0, 1) := by decide +kernel
theorem dX13_back_8 : decode cX13_back 8 = .ok (.goto 7, 3) := by decide +kernel
theorem dX13_back_11 : decode cX13_back 11 = .ok (.aload_n 0, 1) := by decide +kernel
theorem dX13_back_12 : decode cX13_back 12 = .ok (.invokevirtual 1087, 3) := by decide +kernel
theorem dX13_back_15 : decode cX13_back 15 = .ok (.istore_n 2, 1) := by decide +kernel
theorem dX13_back_16 : decode cX13_back 16 = .ok (.aload_n 0, 1) := by decide +kernel
theorem dX13_back_17 : decode cX13_back 17 = .ok (.dup, 1) := by decide +kernel
theorem dX13_back_18 : decode cX13_back 18 = .ok (.getfield 1058, 3) := by decide +kernel
theorem dX13_back_21 : decode cX13_back 21 = .ok (.iconst 1, 1) := by decide +kernel
theorem dX13_back_22 : decode cX13_back 22 = .ok (.isub, 1) := by decide +kernel
theorem dX13_back_23 : decode cX13_back 23 = .ok (.putfield 1058, 3) := by decide +kernel
theorem dX13_back_26 : decode cX13_back 26 = .ok (.aload_n 0, 1) := by decide +kernel
theorem dX13_back_27 : decode cX13_back 27 = .ok (.getfield 1058, 3) := by decide +kernel
theorem dX13_back_30 : decode cX13_back 30 = .ok (.ifCond .le 21, 3) := by decide +kernel
theorem dX13_back_33 : decode cX13_back 33 = .ok (.iload_n 1, 1) := by decide +kernel
theorem dX13_back_34 : decode cX13_back 34 = .ok (.sipush 177, 3) := by decide +kernel
theorem dX13_back_37 : decode cX13_back 37 = .ok (.if_icmp .eq 8, 3) := by decide +kernel
theorem dX13_back_40 : decode cX13_back 40 = .ok (.aload_n 0, 1) := by decide +kernel
theorem dX13_back_41 : decode cX13_back 41 = .ok (.iload_n 2, 1) := by decide +kernel
theorem dX13_back_42 : decode cX13_back 42 = .ok (.invokevirtual 1072, 3) := by decide +kernel
theorem dX13_back_45 : decode cX13_back 45 = .ok (.aload_n 0, 1) := by decide +kernel
theorem dX13_back_46 : decode cX13_back 46 = .ok (.iconst 2, 1) := by decide +kernel
theorem dX13_back_47 : decode cX13_back 47 = .ok (.invokevirtual 1116, 3) := by decide +kernel
theorem dX13_back_50 : decode cX13_back 50 = .ok (.return_, 1) := by decide +kernel
theorem dX13_back_51 : decode cX13_back 51 = .ok (.aload_n 0, 1) := by decide +kernel
theorem dX13_back_52 : decode cX13_back 52 = .ok (.iconst 2, 1) := by decide +kernel
theorem dX13_back_53 : decode cX13_back 53 = .ok (.putfield 858, 3) := by decide +kernel
theorem dX13_back_56 : decode cX13_back 56 = .ok (.iload_n 1, 1) := by decide +kernel
theorem dX13_back_57 : decode cX13_back 57 = .ok (.sipush 172, 3) := by decide +kernel
theorem dX13_back_60 : decode cX13_back 60 = .ok (.if_icmp .ne 11, 3) := by decide +kernel
theorem dX13_back_63 : decode cX13_back 63 = .ok (.aload_n 0, 1) := by decide +kernel
theorem dX13_back_64 : decode cX13_back 64 = .ok (.iload_n 2, 1) := by decide +kernel
theorem dX13_back_65 : decode cX13_back 65 = .ok (.putfield 1043, 3) := by decide +kernel
theorem dX13_back_68 : decode cX13_back 68 = .ok (.goto 23, 3) := by decide +kernel
theorem dX13_back_71 : decode cX13_back 71 = .ok (.iload_n 1, 1) := by decide +kernel
theorem dX13_back_72 : decode cX13_back 72 = .ok (.sipush 176, 3) := by decide +kernel
theorem dX13_back_75 : decode cX13_back 75 = .ok (.if_icmp .ne 16, 3) := by decide +kernel
theorem dX13_back_78 : decode cX13_back 78 = .ok (.iload_n 2, 1) := by decide +kernel
theorem dX13_back_79 : decode cX13_back 79 = .ok (.ifCond .eq 12, 3) := by decide +kernel
theorem dX13_back_82 : decode cX13_back 82 = .ok (.aload_n 0, 1) := by decide +kernel
theorem dX13_back_83 : decode cX13_back 83 = .ok (.aload_n 0, 1) := by decide +kernel
theorem dX13_back_84 : decode cX13_back 84 = .ok (.iload_n 2, 1) := by decide +kernel
theorem dX13_back_85 : decode cX13_back 85 = .ok (.invokevirtual 1131, 3) := by decide +kernel
theorem dX13_back_88 : decode cX13_back 88 = .ok (.putfield 1043, 3) := by decide +kernel
theorem dX13_back_91 : decode cX13_back 91 = .ok (.return_, 1) := by decide +kernel
def VS_h6_p0 : List Cond := [Cond.fieldLink RX13 9 "ClassMillModel" "tape" "[I", Cond.fieldLink RX13 312 "ClassMillModel" "taped" "I", Cond.code yX13_lay cX13_lay 3 none, Cond.methodLink RX13 315 yX13_lay, Cond.instanceMethod yX13_lay, Cond.selects RX13 yX13_lay yX13_lay, Cond.initialized RX13, Cond.code yX13_isWord cX13_isWord 3 (some .boolean), Cond.methodLink RX13 390 yX13_isWord, Cond.instanceMethod yX13_isWord, Cond.selects RX13 yX13_isWord yX13_isWord, Cond.code yX13_isSign cX13_isSign 3 (some .boolean), Cond.methodLink RX13 383 yX13_isSign, Cond.instanceMethod yX13_isSign, Cond.selects RX13 yX13_isSign yX13_isSign, Cond.fieldLink RX13 376 "ClassMillModel" "cursor" "I", Cond.fieldLink RX13 16 "ClassMillModel" "kind" "[I", Cond.fieldLink RX13 22 "ClassMillModel" "wide" "[I", Cond.fieldLink RX13 13 "ClassMillModel" "text" "[I", Cond.fieldLink RX13 19 "ClassMillModel" "from" "[I", Cond.code yX13_upperOf cX13_upperOf 2 (some .int), Cond.methodLink RX13 482 yX13_upperOf, Cond.instanceMethod yX13_upperOf, Cond.selects RX13 yX13_upperOf yX13_upperOf, Cond.code yX13_isArray cX13_isArray 1 (some .boolean), Cond.methodLink RX13 485 yX13_isArray, Cond.static yX13_isArray, Cond.code yX13_extendsIt cX13_extendsIt 4 (some .boolean), Cond.methodLink RX13 488 yX13_extendsIt, Cond.instanceMethod yX13_extendsIt, Cond.selects RX13 yX13_extendsIt yX13_extendsIt, Cond.code yX13_fits cX13_fits 3 (some .boolean), Cond.methodLink RX13 491 yX13_fits, Cond.instanceMethod yX13_fits, Cond.selects RX13 yX13_fits yX13_fits, Cond.code yX13_isLike cX13_isLike 5 (some .boolean), Cond.methodLink RX13 479 yX13_isLike, Cond.instanceMethod yX13_isLike, Cond.selects RX13 yX13_isLike yX13_isLike, Cond.fieldLink RX13 412 "ClassMillModel" "members" "I"]
def VS_h6_p1 : List Cond := [Cond.fieldLink RX13 71 "ClassMillModel" "memberClass" "[I", Cond.fieldLink RX13 74 "ClassMillModel" "memberSort" "[I", Cond.fieldLink RX13 86 "ClassMillModel" "memberName" "[I", Cond.fieldLink RX13 513 "ClassMillModel" "sight" "I", Cond.fieldLink RX13 116 "ClassMillModel" "sightName" "[I", Cond.code yX13_sightOf cX13_sightOf 3 (some .int), Cond.methodLink RX13 534 yX13_sightOf, Cond.instanceMethod yX13_sightOf, Cond.selects RX13 yX13_sightOf yX13_sightOf, Cond.code yX13_memberOf cX13_memberOf 6 (some .int), Cond.methodLink RX13 507 yX13_memberOf, Cond.instanceMethod yX13_memberOf, Cond.selects RX13 yX13_memberOf yX13_memberOf, Cond.fieldLink RX13 37 "ClassMillModel" "one" "[I", Cond.fieldLink RX13 28 "ClassMillModel" "node" "[I", Cond.fieldLink RX13 58 "ClassMillModel" "inBrackets" "[Z", Cond.fieldLink RX13 31 "ClassMillModel" "tok" "[I", Cond.fieldLink RX13 519 "ClassMillModel" "owner" "I", Cond.code yX13_spell cX13_spell 2 none, Cond.methodLink RX13 593 yX13_spell, Cond.instanceMethod yX13_spell, Cond.selects RX13 yX13_spell yX13_spell, Cond.code yX13_spellToken cX13_spellToken 3 none, Cond.methodLink RX13 596 yX13_spellToken, Cond.instanceMethod yX13_spellToken, Cond.selects RX13 yX13_spellToken yX13_spellToken, Cond.code yX13_put cX13_put 2 none, Cond.methodLink RX13 646 yX13_put, Cond.instanceMethod yX13_put, Cond.selects RX13 yX13_put yX13_put, Cond.code yX13_isLedInWords cX13_isLedInWords 3 (some .boolean), Cond.methodLink RX13 703 yX13_isLedInWords, Cond.instanceMethod yX13_isLedInWords, Cond.selects RX13 yX13_isLedInWords yX13_isLedInWords, Cond.code yX13_label cX13_label 1 (some .int), Cond.methodLink RX13 676 yX13_label, Cond.instanceMethod yX13_label, Cond.selects RX13 yX13_label yX13_label, Cond.code yX13_jump cX13_jump 3 none, Cond.methodLink RX13 679 yX13_jump]
def VS_h6_p2 : List Cond := [Cond.instanceMethod yX13_jump, Cond.selects RX13 yX13_jump yX13_jump, Cond.code yX13_push cX13_push 2 none, Cond.methodLink RX13 640 yX13_push, Cond.instanceMethod yX13_push, Cond.selects RX13 yX13_push yX13_push, Cond.code yX13_sign cX13_sign 3 (some .int), Cond.methodLink RX13 454 yX13_sign, Cond.static yX13_sign, Cond.code yX13_tell cX13_tell 2 none, Cond.methodLink RX13 731 yX13_tell, Cond.instanceMethod yX13_tell, Cond.selects RX13 yX13_tell yX13_tell, Cond.code yX13_isNamePart cX13_isNamePart 2 (some .boolean), Cond.methodLink RX13 770 yX13_isNamePart, Cond.static yX13_isNamePart, Cond.code yX13_constantOf cX13_constantOf 3 (some .int), Cond.methodLink RX13 791 yX13_constantOf, Cond.instanceMethod yX13_constantOf, Cond.selects RX13 yX13_constantOf yX13_constantOf, Cond.fieldLink RX13 788 "ClassMillModel" "into" "I", Cond.fieldLink RX13 245 "ClassMillModel" "look" "[I", Cond.fieldLink RX13 767 "ClassMillModel" "lookSize" "I", Cond.fieldLink RX13 212 "ClassMillModel" "byteMany" "[I", Cond.fieldLink RX13 209 "ClassMillModel" "bytes" "[I", Cond.code yX13_textOfClass cX13_textOfClass 3 (some .int), Cond.methodLink RX13 867 yX13_textOfClass, Cond.instanceMethod yX13_textOfClass, Cond.selects RX13 yX13_textOfClass yX13_textOfClass, Cond.code yX13_byteAt cX13_byteAt 3 (some .int), Cond.methodLink RX13 864 yX13_byteAt, Cond.instanceMethod yX13_byteAt, Cond.selects RX13 yX13_byteAt yX13_byteAt, Cond.fieldLink RX13 932 "ClassMillModel" "inClass" "I", Cond.code yX13_frameMany cX13_frameMany 1 (some .int), Cond.methodLink RX13 946 yX13_frameMany, Cond.instanceMethod yX13_frameMany, Cond.selects RX13 yX13_frameMany yX13_frameMany, Cond.code yX13_pairIn cX13_pairIn 2 (some .int), Cond.methodLink RX13 949 yX13_pairIn]
def VS_h6_p3 : List Cond := [Cond.instanceMethod yX13_pairIn, Cond.selects RX13 yX13_pairIn yX13_pairIn, Cond.code yX13_typesEnd cX13_typesEnd 5 (some .int), Cond.methodLink RX13 943 yX13_typesEnd, Cond.instanceMethod yX13_typesEnd, Cond.selects RX13 yX13_typesEnd yX13_typesEnd, Cond.fieldLink RX13 242 "ClassMillModel" "framesAt" "[I", Cond.fieldLink RX13 940 "ClassMillModel" "inMethod" "I", Cond.fieldLink RX13 236 "ClassMillModel" "methodAt" "[I", Cond.fieldLink RX13 967 "ClassMillModel" "stackMost" "I", Cond.fieldLink RX13 964 "ClassMillModel" "localMany" "I", Cond.fieldLink RX13 970 "ClassMillModel" "codeSize" "I", Cond.fieldLink RX13 935 "ClassMillModel" "codeAt" "I", Cond.code yX13_pull cX13_pull 1 (some .int), Cond.methodLink RX13 1025 yX13_pull, Cond.instanceMethod yX13_pull, Cond.selects RX13 yX13_pull yX13_pull, Cond.fieldLink RX13 294 "ClassMillModel" "runClass" "[I", Cond.fieldLink RX13 1058 "ClassMillModel" "depth" "I", Cond.fieldLink RX13 297 "ClassMillModel" "runMethod" "[I", Cond.fieldLink RX13 300 "ClassMillModel" "runPlace" "[I", Cond.fieldLink RX13 303 "ClassMillModel" "runStack" "[I", Cond.fieldLink RX13 306 "ClassMillModel" "cells" "[I", Cond.fieldLink RX13 215 "ClassMillModel" "constantAt" "[I", Cond.code yX13_drop cX13_drop 2 (some .int), Cond.methodLink RX13 1087 yX13_drop, Cond.instanceMethod yX13_drop, Cond.selects RX13 yX13_drop yX13_drop, Cond.code yX13_told cX13_told 2 (some .int), Cond.methodLink RX13 1131 yX13_told, Cond.instanceMethod yX13_told, Cond.selects RX13 yX13_told yX13_told, Cond.code yX13_on cX13_on 2 none, Cond.methodLink RX13 1116 yX13_on, Cond.instanceMethod yX13_on, Cond.selects RX13 yX13_on yX13_on, Cond.code yX13_give cX13_give 3 none, Cond.methodLink RX13 1072 yX13_give, Cond.instanceMethod yX13_give, Cond.selects RX13 yX13_give yX13_give]
def VS_h6_p4 : List Cond := [Cond.fieldLink RX13 858 "ClassMillModel" "state" "I", Cond.fieldLink RX13 1043 "ClassMillModel" "gave" "I", Cond.code yX13_isByClass cX13_isByClass 3 (some .boolean), Cond.methodLink RX13 552 yX13_isByClass, Cond.instanceMethod yX13_isByClass, Cond.selects RX13 yX13_isByClass yX13_isByClass]
def VS_h6 : List Cond := VS_h6_p0 ++ (VS_h6_p1 ++ (VS_h6_p2 ++ (VS_h6_p3 ++ (VS_h6_p4 ++ (wsX130 ++ (VS_h5))))))
theorem mw_h6_0 : Cond.fieldLink RX13 9 "ClassMillModel" "tape" "[I" ∈ VS_h6 := List.mem_append_left _ (List.mem_of_getElem? (i := 0) rfl)
theorem mw_h6_1 : Cond.fieldLink RX13 312 "ClassMillModel" "taped" "I" ∈ VS_h6 := List.mem_append_left _ (List.mem_of_getElem? (i := 1) rfl)
theorem mw_h6_2 : Cond.code yX13_lay cX13_lay 3 none ∈ VS_h6 := List.mem_append_left _ (List.mem_of_getElem? (i := 2) rfl)
theorem mw_h6_3 : Cond.methodLink RX13 315 yX13_lay ∈ VS_h6 := List.mem_append_left _ (List.mem_of_getElem? (i := 3) rfl)
theorem mw_h6_4 : Cond.instanceMethod yX13_lay ∈ VS_h6 := List.mem_append_left _ (List.mem_of_getElem? (i := 4) rfl)
theorem mw_h6_5 : Cond.selects RX13 yX13_lay yX13_lay ∈ VS_h6 := List.mem_append_left _ (List.mem_of_getElem? (i := 5) rfl)
theorem mw_h6_6 : Cond.initialized RX13 ∈ VS_h6 := List.mem_append_left _ (List.mem_of_getElem? (i := 6) rfl)
theorem mw_h6_7 : Cond.code yX13_isWord cX13_isWord 3 (some .boolean) ∈ VS_h6 := List.mem_append_left _ (List.mem_of_getElem? (i := 7) rfl)
theorem mw_h6_8 : Cond.methodLink RX13 390 yX13_isWord ∈ VS_h6 := List.mem_append_left _ (List.mem_of_getElem? (i := 8) rfl)
theorem mw_h6_9 : Cond.instanceMethod yX13_isWord ∈ VS_h6 := List.mem_append_left _ (List.mem_of_getElem? (i := 9) rfl)
theorem mw_h6_10 : Cond.selects RX13 yX13_isWord yX13_isWord ∈ VS_h6 := List.mem_append_left _ (List.mem_of_getElem? (i := 10) rfl)
theorem mw_h6_11 : Cond.code yX13_isSign cX13_isSign 3 (some .boolean) ∈ VS_h6 := List.mem_append_left _ (List.mem_of_getElem? (i := 11) rfl)
theorem mw_h6_12 : Cond.methodLink RX13 383 yX13_isSign ∈ VS_h6 := List.mem_append_left _ (List.mem_of_getElem? (i := 12) rfl)
theorem mw_h6_13 : Cond.instanceMethod yX13_isSign ∈ VS_h6 := List.mem_append_left _ (List.mem_of_getElem? (i := 13) rfl)
theorem mw_h6_14 : Cond.selects RX13 yX13_isSign yX13_isSign ∈ VS_h6 := List.mem_append_left _ (List.mem_of_getElem? (i := 14) rfl)
theorem mw_h6_15 : Cond.fieldLink RX13 376 "ClassMillModel" "cursor" "I" ∈ VS_h6 := List.mem_append_left _ (List.mem_of_getElem? (i := 15) rfl)
theorem mw_h6_16 : Cond.fieldLink RX13 16 "ClassMillModel" "kind" "[I" ∈ VS_h6 := List.mem_append_left _ (List.mem_of_getElem? (i := 16) rfl)
theorem mw_h6_17 : Cond.fieldLink RX13 22 "ClassMillModel" "wide" "[I" ∈ VS_h6 := List.mem_append_left _ (List.mem_of_getElem? (i := 17) rfl)
theorem mw_h6_18 : Cond.fieldLink RX13 13 "ClassMillModel" "text" "[I" ∈ VS_h6 := List.mem_append_left _ (List.mem_of_getElem? (i := 18) rfl)
theorem mw_h6_19 : Cond.fieldLink RX13 19 "ClassMillModel" "from" "[I" ∈ VS_h6 := List.mem_append_left _ (List.mem_of_getElem? (i := 19) rfl)
theorem mw_h6_20 : Cond.code yX13_upperOf cX13_upperOf 2 (some .int) ∈ VS_h6 := List.mem_append_left _ (List.mem_of_getElem? (i := 20) rfl)
theorem mw_h6_21 : Cond.methodLink RX13 482 yX13_upperOf ∈ VS_h6 := List.mem_append_left _ (List.mem_of_getElem? (i := 21) rfl)
theorem mw_h6_22 : Cond.instanceMethod yX13_upperOf ∈ VS_h6 := List.mem_append_left _ (List.mem_of_getElem? (i := 22) rfl)
theorem mw_h6_23 : Cond.selects RX13 yX13_upperOf yX13_upperOf ∈ VS_h6 := List.mem_append_left _ (List.mem_of_getElem? (i := 23) rfl)
theorem mw_h6_24 : Cond.code yX13_isArray cX13_isArray 1 (some .boolean) ∈ VS_h6 := List.mem_append_left _ (List.mem_of_getElem? (i := 24) rfl)
theorem mw_h6_25 : Cond.methodLink RX13 485 yX13_isArray ∈ VS_h6 := List.mem_append_left _ (List.mem_of_getElem? (i := 25) rfl)
theorem mw_h6_26 : Cond.static yX13_isArray ∈ VS_h6 := List.mem_append_left _ (List.mem_of_getElem? (i := 26) rfl)
theorem mw_h6_27 : Cond.code yX13_extendsIt cX13_extendsIt 4 (some .boolean) ∈ VS_h6 := List.mem_append_left _ (List.mem_of_getElem? (i := 27) rfl)
theorem mw_h6_28 : Cond.methodLink RX13 488 yX13_extendsIt ∈ VS_h6 := List.mem_append_left _ (List.mem_of_getElem? (i := 28) rfl)
theorem mw_h6_29 : Cond.instanceMethod yX13_extendsIt ∈ VS_h6 := List.mem_append_left _ (List.mem_of_getElem? (i := 29) rfl)
theorem mw_h6_30 : Cond.selects RX13 yX13_extendsIt yX13_extendsIt ∈ VS_h6 := List.mem_append_left _ (List.mem_of_getElem? (i := 30) rfl)
theorem mw_h6_31 : Cond.code yX13_fits cX13_fits 3 (some .boolean) ∈ VS_h6 := List.mem_append_left _ (List.mem_of_getElem? (i := 31) rfl)
theorem mw_h6_32 : Cond.methodLink RX13 491 yX13_fits ∈ VS_h6 := List.mem_append_left _ (List.mem_of_getElem? (i := 32) rfl)
theorem mw_h6_33 : Cond.instanceMethod yX13_fits ∈ VS_h6 := List.mem_append_left _ (List.mem_of_getElem? (i := 33) rfl)
theorem mw_h6_34 : Cond.selects RX13 yX13_fits yX13_fits ∈ VS_h6 := List.mem_append_left _ (List.mem_of_getElem? (i := 34) rfl)
theorem mw_h6_35 : Cond.code yX13_isLike cX13_isLike 5 (some .boolean) ∈ VS_h6 := List.mem_append_left _ (List.mem_of_getElem? (i := 35) rfl)
theorem mw_h6_36 : Cond.methodLink RX13 479 yX13_isLike ∈ VS_h6 := List.mem_append_left _ (List.mem_of_getElem? (i := 36) rfl)
theorem mw_h6_37 : Cond.instanceMethod yX13_isLike ∈ VS_h6 := List.mem_append_left _ (List.mem_of_getElem? (i := 37) rfl)
theorem mw_h6_38 : Cond.selects RX13 yX13_isLike yX13_isLike ∈ VS_h6 := List.mem_append_left _ (List.mem_of_getElem? (i := 38) rfl)
theorem mw_h6_39 : Cond.fieldLink RX13 412 "ClassMillModel" "members" "I" ∈ VS_h6 := List.mem_append_left _ (List.mem_of_getElem? (i := 39) rfl)
theorem mw_h6_40 : Cond.fieldLink RX13 71 "ClassMillModel" "memberClass" "[I" ∈ VS_h6 := List.mem_append_right _ (List.mem_append_left _ (List.mem_of_getElem? (i := 0) rfl))
theorem mw_h6_41 : Cond.fieldLink RX13 74 "ClassMillModel" "memberSort" "[I" ∈ VS_h6 := List.mem_append_right _ (List.mem_append_left _ (List.mem_of_getElem? (i := 1) rfl))
theorem mw_h6_42 : Cond.fieldLink RX13 86 "ClassMillModel" "memberName" "[I" ∈ VS_h6 := List.mem_append_right _ (List.mem_append_left _ (List.mem_of_getElem? (i := 2) rfl))
theorem mw_h6_43 : Cond.fieldLink RX13 513 "ClassMillModel" "sight" "I" ∈ VS_h6 := List.mem_append_right _ (List.mem_append_left _ (List.mem_of_getElem? (i := 3) rfl))
theorem mw_h6_44 : Cond.fieldLink RX13 116 "ClassMillModel" "sightName" "[I" ∈ VS_h6 := List.mem_append_right _ (List.mem_append_left _ (List.mem_of_getElem? (i := 4) rfl))
theorem mw_h6_45 : Cond.code yX13_sightOf cX13_sightOf 3 (some .int) ∈ VS_h6 := List.mem_append_right _ (List.mem_append_left _ (List.mem_of_getElem? (i := 5) rfl))
theorem mw_h6_46 : Cond.methodLink RX13 534 yX13_sightOf ∈ VS_h6 := List.mem_append_right _ (List.mem_append_left _ (List.mem_of_getElem? (i := 6) rfl))
theorem mw_h6_47 : Cond.instanceMethod yX13_sightOf ∈ VS_h6 := List.mem_append_right _ (List.mem_append_left _ (List.mem_of_getElem? (i := 7) rfl))
theorem mw_h6_48 : Cond.selects RX13 yX13_sightOf yX13_sightOf ∈ VS_h6 := List.mem_append_right _ (List.mem_append_left _ (List.mem_of_getElem? (i := 8) rfl))
theorem mw_h6_49 : Cond.code yX13_memberOf cX13_memberOf 6 (some .int) ∈ VS_h6 := List.mem_append_right _ (List.mem_append_left _ (List.mem_of_getElem? (i := 9) rfl))
theorem mw_h6_50 : Cond.methodLink RX13 507 yX13_memberOf ∈ VS_h6 := List.mem_append_right _ (List.mem_append_left _ (List.mem_of_getElem? (i := 10) rfl))
theorem mw_h6_51 : Cond.instanceMethod yX13_memberOf ∈ VS_h6 := List.mem_append_right _ (List.mem_append_left _ (List.mem_of_getElem? (i := 11) rfl))
theorem mw_h6_52 : Cond.selects RX13 yX13_memberOf yX13_memberOf ∈ VS_h6 := List.mem_append_right _ (List.mem_append_left _ (List.mem_of_getElem? (i := 12) rfl))
theorem mw_h6_53 : Cond.fieldLink RX13 37 "ClassMillModel" "one" "[I" ∈ VS_h6 := List.mem_append_right _ (List.mem_append_left _ (List.mem_of_getElem? (i := 13) rfl))
theorem mw_h6_54 : Cond.fieldLink RX13 28 "ClassMillModel" "node" "[I" ∈ VS_h6 := List.mem_append_right _ (List.mem_append_left _ (List.mem_of_getElem? (i := 14) rfl))
theorem mw_h6_55 : Cond.fieldLink RX13 58 "ClassMillModel" "inBrackets" "[Z" ∈ VS_h6 := List.mem_append_right _ (List.mem_append_left _ (List.mem_of_getElem? (i := 15) rfl))
theorem mw_h6_56 : Cond.fieldLink RX13 31 "ClassMillModel" "tok" "[I" ∈ VS_h6 := List.mem_append_right _ (List.mem_append_left _ (List.mem_of_getElem? (i := 16) rfl))
theorem mw_h6_57 : Cond.fieldLink RX13 519 "ClassMillModel" "owner" "I" ∈ VS_h6 := List.mem_append_right _ (List.mem_append_left _ (List.mem_of_getElem? (i := 17) rfl))
theorem mw_h6_58 : Cond.code yX13_spell cX13_spell 2 none ∈ VS_h6 := List.mem_append_right _ (List.mem_append_left _ (List.mem_of_getElem? (i := 18) rfl))
theorem mw_h6_59 : Cond.methodLink RX13 593 yX13_spell ∈ VS_h6 := List.mem_append_right _ (List.mem_append_left _ (List.mem_of_getElem? (i := 19) rfl))
theorem mw_h6_60 : Cond.instanceMethod yX13_spell ∈ VS_h6 := List.mem_append_right _ (List.mem_append_left _ (List.mem_of_getElem? (i := 20) rfl))
theorem mw_h6_61 : Cond.selects RX13 yX13_spell yX13_spell ∈ VS_h6 := List.mem_append_right _ (List.mem_append_left _ (List.mem_of_getElem? (i := 21) rfl))
theorem mw_h6_62 : Cond.code yX13_spellToken cX13_spellToken 3 none ∈ VS_h6 := List.mem_append_right _ (List.mem_append_left _ (List.mem_of_getElem? (i := 22) rfl))
theorem mw_h6_63 : Cond.methodLink RX13 596 yX13_spellToken ∈ VS_h6 := List.mem_append_right _ (List.mem_append_left _ (List.mem_of_getElem? (i := 23) rfl))
theorem mw_h6_64 : Cond.instanceMethod yX13_spellToken ∈ VS_h6 := List.mem_append_right _ (List.mem_append_left _ (List.mem_of_getElem? (i := 24) rfl))
theorem mw_h6_65 : Cond.selects RX13 yX13_spellToken yX13_spellToken ∈ VS_h6 := List.mem_append_right _ (List.mem_append_left _ (List.mem_of_getElem? (i := 25) rfl))
theorem mw_h6_66 : Cond.code yX13_put cX13_put 2 none ∈ VS_h6 := List.mem_append_right _ (List.mem_append_left _ (List.mem_of_getElem? (i := 26) rfl))
theorem mw_h6_67 : Cond.methodLink RX13 646 yX13_put ∈ VS_h6 := List.mem_append_right _ (List.mem_append_left _ (List.mem_of_getElem? (i := 27) rfl))
theorem mw_h6_68 : Cond.instanceMethod yX13_put ∈ VS_h6 := List.mem_append_right _ (List.mem_append_left _ (List.mem_of_getElem? (i := 28) rfl))
theorem mw_h6_69 : Cond.selects RX13 yX13_put yX13_put ∈ VS_h6 := List.mem_append_right _ (List.mem_append_left _ (List.mem_of_getElem? (i := 29) rfl))
theorem mw_h6_70 : Cond.code yX13_isLedInWords cX13_isLedInWords 3 (some .boolean) ∈ VS_h6 := List.mem_append_right _ (List.mem_append_left _ (List.mem_of_getElem? (i := 30) rfl))
theorem mw_h6_71 : Cond.methodLink RX13 703 yX13_isLedInWords ∈ VS_h6 := List.mem_append_right _ (List.mem_append_left _ (List.mem_of_getElem? (i := 31) rfl))
theorem mw_h6_72 : Cond.instanceMethod yX13_isLedInWords ∈ VS_h6 := List.mem_append_right _ (List.mem_append_left _ (List.mem_of_getElem? (i := 32) rfl))
theorem mw_h6_73 : Cond.selects RX13 yX13_isLedInWords yX13_isLedInWords ∈ VS_h6 := List.mem_append_right _ (List.mem_append_left _ (List.mem_of_getElem? (i := 33) rfl))
theorem mw_h6_74 : Cond.code yX13_label cX13_label 1 (some .int) ∈ VS_h6 := List.mem_append_right _ (List.mem_append_left _ (List.mem_of_getElem? (i := 34) rfl))
theorem mw_h6_75 : Cond.methodLink RX13 676 yX13_label ∈ VS_h6 := List.mem_append_right _ (List.mem_append_left _ (List.mem_of_getElem? (i := 35) rfl))
theorem mw_h6_76 : Cond.instanceMethod yX13_label ∈ VS_h6 := List.mem_append_right _ (List.mem_append_left _ (List.mem_of_getElem? (i := 36) rfl))
theorem mw_h6_77 : Cond.selects RX13 yX13_label yX13_label ∈ VS_h6 := List.mem_append_right _ (List.mem_append_left _ (List.mem_of_getElem? (i := 37) rfl))
theorem mw_h6_78 : Cond.code yX13_jump cX13_jump 3 none ∈ VS_h6 := List.mem_append_right _ (List.mem_append_left _ (List.mem_of_getElem? (i := 38) rfl))
theorem mw_h6_79 : Cond.methodLink RX13 679 yX13_jump ∈ VS_h6 := List.mem_append_right _ (List.mem_append_left _ (List.mem_of_getElem? (i := 39) rfl))
theorem mw_h6_80 : Cond.instanceMethod yX13_jump ∈ VS_h6 := List.mem_append_right _ (List.mem_append_right _ (List.mem_append_left _ (List.mem_of_getElem? (i := 0) rfl)))
theorem mw_h6_81 : Cond.selects RX13 yX13_jump yX13_jump ∈ VS_h6 := List.mem_append_right _ (List.mem_append_right _ (List.mem_append_left _ (List.mem_of_getElem? (i := 1) rfl)))
theorem mw_h6_82 : Cond.code yX13_push cX13_push 2 none ∈ VS_h6 := List.mem_append_right _ (List.mem_append_right _ (List.mem_append_left _ (List.mem_of_getElem? (i := 2) rfl)))
theorem mw_h6_83 : Cond.methodLink RX13 640 yX13_push ∈ VS_h6 := List.mem_append_right _ (List.mem_append_right _ (List.mem_append_left _ (List.mem_of_getElem? (i := 3) rfl)))
theorem mw_h6_84 : Cond.instanceMethod yX13_push ∈ VS_h6 := List.mem_append_right _ (List.mem_append_right _ (List.mem_append_left _ (List.mem_of_getElem? (i := 4) rfl)))
theorem mw_h6_85 : Cond.selects RX13 yX13_push yX13_push ∈ VS_h6 := List.mem_append_right _ (List.mem_append_right _ (List.mem_append_left _ (List.mem_of_getElem? (i := 5) rfl)))
theorem mw_h6_86 : Cond.code yX13_sign cX13_sign 3 (some .int) ∈ VS_h6 := List.mem_append_right _ (List.mem_append_right _ (List.mem_append_left _ (List.mem_of_getElem? (i := 6) rfl)))
theorem mw_h6_87 : Cond.methodLink RX13 454 yX13_sign ∈ VS_h6 := List.mem_append_right _ (List.mem_append_right _ (List.mem_append_left _ (List.mem_of_getElem? (i := 7) rfl)))
theorem mw_h6_88 : Cond.static yX13_sign ∈ VS_h6 := List.mem_append_right _ (List.mem_append_right _ (List.mem_append_left _ (List.mem_of_getElem? (i := 8) rfl)))
theorem mw_h6_89 : Cond.code yX13_tell cX13_tell 2 none ∈ VS_h6 := List.mem_append_right _ (List.mem_append_right _ (List.mem_append_left _ (List.mem_of_getElem? (i := 9) rfl)))
theorem mw_h6_90 : Cond.methodLink RX13 731 yX13_tell ∈ VS_h6 := List.mem_append_right _ (List.mem_append_right _ (List.mem_append_left _ (List.mem_of_getElem? (i := 10) rfl)))
theorem mw_h6_91 : Cond.instanceMethod yX13_tell ∈ VS_h6 := List.mem_append_right _ (List.mem_append_right _ (List.mem_append_left _ (List.mem_of_getElem? (i := 11) rfl)))
theorem mw_h6_92 : Cond.selects RX13 yX13_tell yX13_tell ∈ VS_h6 := List.mem_append_right _ (List.mem_append_right _ (List.mem_append_left _ (List.mem_of_getElem? (i := 12) rfl)))
theorem mw_h6_93 : Cond.code yX13_isNamePart cX13_isNamePart 2 (some .boolean) ∈ VS_h6 := List.mem_append_right _ (List.mem_append_right _ (List.mem_append_left _ (List.mem_of_getElem? (i := 13) rfl)))
theorem mw_h6_94 : Cond.methodLink RX13 770 yX13_isNamePart ∈ VS_h6 := List.mem_append_right _ (List.mem_append_right _ (List.mem_append_left _ (List.mem_of_getElem? (i := 14) rfl)))
theorem mw_h6_95 : Cond.static yX13_isNamePart ∈ VS_h6 := List.mem_append_right _ (List.mem_append_right _ (List.mem_append_left _ (List.mem_of_getElem? (i := 15) rfl)))
theorem mw_h6_96 : Cond.code yX13_constantOf cX13_constantOf 3 (some .int) ∈ VS_h6 := List.mem_append_right _ (List.mem_append_right _ (List.mem_append_left _ (List.mem_of_getElem? (i := 16) rfl)))
theorem mw_h6_97 : Cond.methodLink RX13 791 yX13_constantOf ∈ VS_h6 := List.mem_append_right _ (List.mem_append_right _ (List.mem_append_left _ (List.mem_of_getElem? (i := 17) rfl)))
theorem mw_h6_98 : Cond.instanceMethod yX13_constantOf ∈ VS_h6 := List.mem_append_right _ (List.mem_append_right _ (List.mem_append_left _ (List.mem_of_getElem? (i := 18) rfl)))
theorem mw_h6_99 : Cond.selects RX13 yX13_constantOf yX13_constantOf ∈ VS_h6 := List.mem_append_right _ (List.mem_append_right _ (List.mem_append_left _ (List.mem_of_getElem? (i := 19) rfl)))
theorem mw_h6_100 : Cond.fieldLink RX13 788 "ClassMillModel" "into" "I" ∈ VS_h6 := List.mem_append_right _ (List.mem_append_right _ (List.mem_append_left _ (List.mem_of_getElem? (i := 20) rfl)))
theorem mw_h6_101 : Cond.fieldLink RX13 245 "ClassMillModel" "look" "[I" ∈ VS_h6 := List.mem_append_right _ (List.mem_append_right _ (List.mem_append_left _ (List.mem_of_getElem? (i := 21) rfl)))
theorem mw_h6_102 : Cond.fieldLink RX13 767 "ClassMillModel" "lookSize" "I" ∈ VS_h6 := List.mem_append_right _ (List.mem_append_right _ (List.mem_append_left _ (List.mem_of_getElem? (i := 22) rfl)))
theorem mw_h6_103 : Cond.fieldLink RX13 212 "ClassMillModel" "byteMany" "[I" ∈ VS_h6 := List.mem_append_right _ (List.mem_append_right _ (List.mem_append_left _ (List.mem_of_getElem? (i := 23) rfl)))
theorem mw_h6_104 : Cond.fieldLink RX13 209 "ClassMillModel" "bytes" "[I" ∈ VS_h6 := List.mem_append_right _ (List.mem_append_right _ (List.mem_append_left _ (List.mem_of_getElem? (i := 24) rfl)))
theorem mw_h6_105 : Cond.code yX13_textOfClass cX13_textOfClass 3 (some .int) ∈ VS_h6 := List.mem_append_right _ (List.mem_append_right _ (List.mem_append_left _ (List.mem_of_getElem? (i := 25) rfl)))
theorem mw_h6_106 : Cond.methodLink RX13 867 yX13_textOfClass ∈ VS_h6 := List.mem_append_right _ (List.mem_append_right _ (List.mem_append_left _ (List.mem_of_getElem? (i := 26) rfl)))
theorem mw_h6_107 : Cond.instanceMethod yX13_textOfClass ∈ VS_h6 := List.mem_append_right _ (List.mem_append_right _ (List.mem_append_left _ (List.mem_of_getElem? (i := 27) rfl)))
theorem mw_h6_108 : Cond.selects RX13 yX13_textOfClass yX13_textOfClass ∈ VS_h6 := List.mem_append_right _ (List.mem_append_right _ (List.mem_append_left _ (List.mem_of_getElem? (i := 28) rfl)))
theorem mw_h6_109 : Cond.code yX13_byteAt cX13_byteAt 3 (some .int) ∈ VS_h6 := List.mem_append_right _ (List.mem_append_right _ (List.mem_append_left _ (List.mem_of_getElem? (i := 29) rfl)))
theorem mw_h6_110 : Cond.methodLink RX13 864 yX13_byteAt ∈ VS_h6 := List.mem_append_right _ (List.mem_append_right _ (List.mem_append_left _ (List.mem_of_getElem? (i := 30) rfl)))
theorem mw_h6_111 : Cond.instanceMethod yX13_byteAt ∈ VS_h6 := List.mem_append_right _ (List.mem_append_right _ (List.mem_append_left _ (List.mem_of_getElem? (i := 31) rfl)))
theorem mw_h6_112 : Cond.selects RX13 yX13_byteAt yX13_byteAt ∈ VS_h6 := List.mem_append_right _ (List.mem_append_right _ (List.mem_append_left _ (List.mem_of_getElem? (i := 32) rfl)))
theorem mw_h6_113 : Cond.fieldLink RX13 932 "ClassMillModel" "inClass" "I" ∈ VS_h6 := List.mem_append_right _ (List.mem_append_right _ (List.mem_append_left _ (List.mem_of_getElem? (i := 33) rfl)))
theorem mw_h6_114 : Cond.code yX13_frameMany cX13_frameMany 1 (some .int) ∈ VS_h6 := List.mem_append_right _ (List.mem_append_right _ (List.mem_append_left _ (List.mem_of_getElem? (i := 34) rfl)))
theorem mw_h6_115 : Cond.methodLink RX13 946 yX13_frameMany ∈ VS_h6 := List.mem_append_right _ (List.mem_append_right _ (List.mem_append_left _ (List.mem_of_getElem? (i := 35) rfl)))
theorem mw_h6_116 : Cond.instanceMethod yX13_frameMany ∈ VS_h6 := List.mem_append_right _ (List.mem_append_right _ (List.mem_append_left _ (List.mem_of_getElem? (i := 36) rfl)))
theorem mw_h6_117 : Cond.selects RX13 yX13_frameMany yX13_frameMany ∈ VS_h6 := List.mem_append_right _ (List.mem_append_right _ (List.mem_append_left _ (List.mem_of_getElem? (i := 37) rfl)))
theorem mw_h6_118 : Cond.code yX13_pairIn cX13_pairIn 2 (some .int) ∈ VS_h6 := List.mem_append_right _ (List.mem_append_right _ (List.mem_append_left _ (List.mem_of_getElem? (i := 38) rfl)))
theorem mw_h6_119 : Cond.methodLink RX13 949 yX13_pairIn ∈ VS_h6 := List.mem_append_right _ (List.mem_append_right _ (List.mem_append_left _ (List.mem_of_getElem? (i := 39) rfl)))
theorem mw_h6_120 : Cond.instanceMethod yX13_pairIn ∈ VS_h6 := List.mem_append_right _ (List.mem_append_right _ (List.mem_append_right _ (List.mem_append_left _ (List.mem_of_getElem? (i := 0) rfl))))
theorem mw_h6_121 : Cond.selects RX13 yX13_pairIn yX13_pairIn ∈ VS_h6 := List.mem_append_right _ (List.mem_append_right _ (List.mem_append_right _ (List.mem_append_left _ (List.mem_of_getElem? (i := 1) rfl))))
theorem mw_h6_122 : Cond.code yX13_typesEnd cX13_typesEnd 5 (some .int) ∈ VS_h6 := List.mem_append_right _ (List.mem_append_right _ (List.mem_append_right _ (List.mem_append_left _ (List.mem_of_getElem? (i := 2) rfl))))
theorem mw_h6_123 : Cond.methodLink RX13 943 yX13_typesEnd ∈ VS_h6 := List.mem_append_right _ (List.mem_append_right _ (List.mem_append_right _ (List.mem_append_left _ (List.mem_of_getElem? (i := 3) rfl))))
theorem mw_h6_124 : Cond.instanceMethod yX13_typesEnd ∈ VS_h6 := List.mem_append_right _ (List.mem_append_right _ (List.mem_append_right _ (List.mem_append_left _ (List.mem_of_getElem? (i := 4) rfl))))
theorem mw_h6_125 : Cond.selects RX13 yX13_typesEnd yX13_typesEnd ∈ VS_h6 := List.mem_append_right _ (List.mem_append_right _ (List.mem_append_right _ (List.mem_append_left _ (List.mem_of_getElem? (i := 5) rfl))))
theorem mw_h6_126 : Cond.fieldLink RX13 242 "ClassMillModel" "framesAt" "[I" ∈ VS_h6 := List.mem_append_right _ (List.mem_append_right _ (List.mem_append_right _ (List.mem_append_left _ (List.mem_of_getElem? (i := 6) rfl))))
theorem mw_h6_127 : Cond.fieldLink RX13 940 "ClassMillModel" "inMethod" "I" ∈ VS_h6 := List.mem_append_right _ (List.mem_append_right _ (List.mem_append_right _ (List.mem_append_left _ (List.mem_of_getElem? (i := 7) rfl))))
theorem mw_h6_128 : Cond.fieldLink RX13 236 "ClassMillModel" "methodAt" "[I" ∈ VS_h6 := List.mem_append_right _ (List.mem_append_right _ (List.mem_append_right _ (List.mem_append_left _ (List.mem_of_getElem? (i := 8) rfl))))
theorem mw_h6_129 : Cond.fieldLink RX13 967 "ClassMillModel" "stackMost" "I" ∈ VS_h6 := List.mem_append_right _ (List.mem_append_right _ (List.mem_append_right _ (List.mem_append_left _ (List.mem_of_getElem? (i := 9) rfl))))
theorem mw_h6_130 : Cond.fieldLink RX13 964 "ClassMillModel" "localMany" "I" ∈ VS_h6 := List.mem_append_right _ (List.mem_append_right _ (List.mem_append_right _ (List.mem_append_left _ (List.mem_of_getElem? (i := 10) rfl))))
theorem mw_h6_131 : Cond.fieldLink RX13 970 "ClassMillModel" "codeSize" "I" ∈ VS_h6 := List.mem_append_right _ (List.mem_append_right _ (List.mem_append_right _ (List.mem_append_left _ (List.mem_of_getElem? (i := 11) rfl))))
theorem mw_h6_132 : Cond.fieldLink RX13 935 "ClassMillModel" "codeAt" "I" ∈ VS_h6 := List.mem_append_right _ (List.mem_append_right _ (List.mem_append_right _ (List.mem_append_left _ (List.mem_of_getElem? (i := 12) rfl))))
theorem mw_h6_133 : Cond.code yX13_pull cX13_pull 1 (some .int) ∈ VS_h6 := List.mem_append_right _ (List.mem_append_right _ (List.mem_append_right _ (List.mem_append_left _ (List.mem_of_getElem? (i := 13) rfl))))
theorem mw_h6_134 : Cond.methodLink RX13 1025 yX13_pull ∈ VS_h6 := List.mem_append_right _ (List.mem_append_right _ (List.mem_append_right _ (List.mem_append_left _ (List.mem_of_getElem? (i := 14) rfl))))
theorem mw_h6_135 : Cond.instanceMethod yX13_pull ∈ VS_h6 := List.mem_append_right _ (List.mem_append_right _ (List.mem_append_right _ (List.mem_append_left _ (List.mem_of_getElem? (i := 15) rfl))))
theorem mw_h6_136 : Cond.selects RX13 yX13_pull yX13_pull ∈ VS_h6 := List.mem_append_right _ (List.mem_append_right _ (List.mem_append_right _ (List.mem_append_left _ (List.mem_of_getElem? (i := 16) rfl))))
theorem mw_h6_137 : Cond.fieldLink RX13 294 "ClassMillModel" "runClass" "[I" ∈ VS_h6 := List.mem_append_right _ (List.mem_append_right _ (List.mem_append_right _ (List.mem_append_left _ (List.mem_of_getElem? (i := 17) rfl))))
theorem mw_h6_138 : Cond.fieldLink RX13 1058 "ClassMillModel" "depth" "I" ∈ VS_h6 := List.mem_append_right _ (List.mem_append_right _ (List.mem_append_right _ (List.mem_append_left _ (List.mem_of_getElem? (i := 18) rfl))))
theorem mw_h6_139 : Cond.fieldLink RX13 297 "ClassMillModel" "runMethod" "[I" ∈ VS_h6 := List.mem_append_right _ (List.mem_append_right _ (List.mem_append_right _ (List.mem_append_left _ (List.mem_of_getElem? (i := 19) rfl))))
theorem mw_h6_140 : Cond.fieldLink RX13 300 "ClassMillModel" "runPlace" "[I" ∈ VS_h6 := List.mem_append_right _ (List.mem_append_right _ (List.mem_append_right _ (List.mem_append_left _ (List.mem_of_getElem? (i := 20) rfl))))
theorem mw_h6_141 : Cond.fieldLink RX13 303 "ClassMillModel" "runStack" "[I" ∈ VS_h6 := List.mem_append_right _ (List.mem_append_right _ (List.mem_append_right _ (List.mem_append_left _ (List.mem_of_getElem? (i := 21) rfl))))
theorem mw_h6_142 : Cond.fieldLink RX13 306 "ClassMillModel" "cells" "[I" ∈ VS_h6 := List.mem_append_right _ (List.mem_append_right _ (List.mem_append_right _ (List.mem_append_left _ (List.mem_of_getElem? (i := 22) rfl))))
theorem mw_h6_143 : Cond.fieldLink RX13 215 "ClassMillModel" "constantAt" "[I" ∈ VS_h6 := List.mem_append_right _ (List.mem_append_right _ (List.mem_append_right _ (List.mem_append_left _ (List.mem_of_getElem? (i := 23) rfl))))
theorem mw_h6_144 : Cond.code yX13_drop cX13_drop 2 (some .int) ∈ VS_h6 := List.mem_append_right _ (List.mem_append_right _ (List.mem_append_right _ (List.mem_append_left _ (List.mem_of_getElem? (i := 24) rfl))))
theorem mw_h6_145 : Cond.methodLink RX13 1087 yX13_drop ∈ VS_h6 := List.mem_append_right _ (List.mem_append_right _ (List.mem_append_right _ (List.mem_append_left _ (List.mem_of_getElem? (i := 25) rfl))))
theorem mw_h6_146 : Cond.instanceMethod yX13_drop ∈ VS_h6 := List.mem_append_right _ (List.mem_append_right _ (List.mem_append_right _ (List.mem_append_left _ (List.mem_of_getElem? (i := 26) rfl))))
theorem mw_h6_147 : Cond.selects RX13 yX13_drop yX13_drop ∈ VS_h6 := List.mem_append_right _ (List.mem_append_right _ (List.mem_append_right _ (List.mem_append_left _ (List.mem_of_getElem? (i := 27) rfl))))
theorem mw_h6_148 : Cond.code yX13_told cX13_told 2 (some .int) ∈ VS_h6 := List.mem_append_right _ (List.mem_append_right _ (List.mem_append_right _ (List.mem_append_left _ (List.mem_of_getElem? (i := 28) rfl))))
theorem mw_h6_149 : Cond.methodLink RX13 1131 yX13_told ∈ VS_h6 := List.mem_append_right _ (List.mem_append_right _ (List.mem_append_right _ (List.mem_append_left _ (List.mem_of_getElem? (i := 29) rfl))))
theorem mw_h6_150 : Cond.instanceMethod yX13_told ∈ VS_h6 := List.mem_append_right _ (List.mem_append_right _ (List.mem_append_right _ (List.mem_append_left _ (List.mem_of_getElem? (i := 30) rfl))))
theorem mw_h6_151 : Cond.selects RX13 yX13_told yX13_told ∈ VS_h6 := List.mem_append_right _ (List.mem_append_right _ (List.mem_append_right _ (List.mem_append_left _ (List.mem_of_getElem? (i := 31) rfl))))
theorem mw_h6_152 : Cond.code yX13_on cX13_on 2 none ∈ VS_h6 := List.mem_append_right _ (List.mem_append_right _ (List.mem_append_right _ (List.mem_append_left _ (List.mem_of_getElem? (i := 32) rfl))))
theorem mw_h6_153 : Cond.methodLink RX13 1116 yX13_on ∈ VS_h6 := List.mem_append_right _ (List.mem_append_right _ (List.mem_append_right _ (List.mem_append_left _ (List.mem_of_getElem? (i := 33) rfl))))
theorem mw_h6_154 : Cond.instanceMethod yX13_on ∈ VS_h6 := List.mem_append_right _ (List.mem_append_right _ (List.mem_append_right _ (List.mem_append_left _ (List.mem_of_getElem? (i := 34) rfl))))
theorem mw_h6_155 : Cond.selects RX13 yX13_on yX13_on ∈ VS_h6 := List.mem_append_right _ (List.mem_append_right _ (List.mem_append_right _ (List.mem_append_left _ (List.mem_of_getElem? (i := 35) rfl))))
theorem mw_h6_156 : Cond.code yX13_give cX13_give 3 none ∈ VS_h6 := List.mem_append_right _ (List.mem_append_right _ (List.mem_append_right _ (List.mem_append_left _ (List.mem_of_getElem? (i := 36) rfl))))
theorem mw_h6_157 : Cond.methodLink RX13 1072 yX13_give ∈ VS_h6 := List.mem_append_right _ (List.mem_append_right _ (List.mem_append_right _ (List.mem_append_left _ (List.mem_of_getElem? (i := 37) rfl))))
theorem mw_h6_158 : Cond.instanceMethod yX13_give ∈ VS_h6 := List.mem_append_right _ (List.mem_append_right _ (List.mem_append_right _ (List.mem_append_left _ (List.mem_of_getElem? (i := 38) rfl))))
theorem mw_h6_159 : Cond.selects RX13 yX13_give yX13_give ∈ VS_h6 := List.mem_append_right _ (List.mem_append_right _ (List.mem_append_right _ (List.mem_append_left _ (List.mem_of_getElem? (i := 39) rfl))))
theorem mw_h6_160 : Cond.fieldLink RX13 858 "ClassMillModel" "state" "I" ∈ VS_h6 := List.mem_append_right _ (List.mem_append_right _ (List.mem_append_right _ (List.mem_append_right _ (List.mem_append_left _ (List.mem_of_getElem? (i := 0) rfl)))))
theorem mw_h6_161 : Cond.fieldLink RX13 1043 "ClassMillModel" "gave" "I" ∈ VS_h6 := List.mem_append_right _ (List.mem_append_right _ (List.mem_append_right _ (List.mem_append_right _ (List.mem_append_left _ (List.mem_of_getElem? (i := 1) rfl)))))
theorem mw_h6_162 : Cond.code yX13_isByClass cX13_isByClass 3 (some .boolean) ∈ VS_h6 := List.mem_append_right _ (List.mem_append_right _ (List.mem_append_right _ (List.mem_append_right _ (List.mem_append_left _ (List.mem_of_getElem? (i := 2) rfl)))))
theorem mw_h6_163 : Cond.methodLink RX13 552 yX13_isByClass ∈ VS_h6 := List.mem_append_right _ (List.mem_append_right _ (List.mem_append_right _ (List.mem_append_right _ (List.mem_append_left _ (List.mem_of_getElem? (i := 3) rfl)))))
theorem mw_h6_164 : Cond.instanceMethod yX13_isByClass ∈ VS_h6 := List.mem_append_right _ (List.mem_append_right _ (List.mem_append_right _ (List.mem_append_right _ (List.mem_append_left _ (List.mem_of_getElem? (i := 4) rfl)))))
theorem mw_h6_165 : Cond.selects RX13 yX13_isByClass yX13_isByClass ∈ VS_h6 := List.mem_append_right _ (List.mem_append_right _ (List.mem_append_right _ (List.mem_append_right _ (List.mem_append_left _ (List.mem_of_getElem? (i := 5) rfl)))))
theorem uV_h6_X13 : ∀ w ∈ u_ws RX13 TX13 155, w ∈ VS_h6 := fun w h => List.mem_append_right _ (List.mem_append_right _ (List.mem_append_right _ (List.mem_append_right _ (List.mem_append_right _ (List.mem_append_left _ (h))))))
set_option maxRecDepth 100000 in
theorem gs_h6 : GoodIn VS_h6 VS_h6 := vs_self (by decide +kernel)
set_option maxRecDepth 100000 in
theorem in_h6_VS_h5 : GoodIn VS_h6 VS_h5 := goodIn_sub (fun w h => List.mem_append_right _ (List.mem_append_right _ (List.mem_append_right _ (List.mem_append_right _ (List.mem_append_right _ (List.mem_append_right _ (h))))))) (by decide +kernel)
theorem gv_h6_0 : GoodIn VS_h6 (wsV RX13 315 RX13 yX13_lay (.code yX13_lay cX13_lay 3 none :: VS_h6)) := goodIn_app (vs_in4 mw_h6_3 mw_h6_4 mw_h6_5 mw_h6_6 (by decide +kernel)) (vs_cons mw_h6_2 (by decide +kernel) gs_h6)
theorem gv_h6_1 : GoodIn VS_h6 (wsV RX13 390 RX13 yX13_isWord (.code yX13_isWord cX13_isWord 3 (some .boolean) :: VS_h5)) := goodIn_app (vs_in4 mw_h6_8 mw_h6_9 mw_h6_10 mw_h6_6 (by decide +kernel)) (vs_cons mw_h6_7 (by decide +kernel) in_h6_VS_h5)
theorem gv_h6_2 : GoodIn VS_h6 (wsV RX13 383 RX13 yX13_isSign (.code yX13_isSign cX13_isSign 3 (some .boolean) :: VS_h5)) := goodIn_app (vs_in4 mw_h6_12 mw_h6_13 mw_h6_14 mw_h6_6 (by decide +kernel)) (vs_cons mw_h6_11 (by decide +kernel) in_h6_VS_h5)
theorem gv_h6_3 : GoodIn VS_h6 (wsV RX13 482 RX13 yX13_upperOf (.code yX13_upperOf cX13_upperOf 2 (some .int) :: VS_h5)) := goodIn_app (vs_in4 mw_h6_21 mw_h6_22 mw_h6_23 mw_h6_6 (by decide +kernel)) (vs_cons mw_h6_20 (by decide +kernel) in_h6_VS_h5)
theorem gv_h6_4 : GoodIn VS_h6 (va_wsS RX13 485 yX13_isArray (.code yX13_isArray cX13_isArray 1 (some .boolean) :: VS_h5)) := goodIn_app (vs_in3 mw_h6_25 mw_h6_26 mw_h6_6 (by decide +kernel)) (vs_cons mw_h6_24 (by decide +kernel) in_h6_VS_h5)
theorem gv_h6_5 : GoodIn VS_h6 (wsV RX13 488 RX13 yX13_extendsIt (.code yX13_extendsIt cX13_extendsIt 4 (some .boolean) :: VS_h6)) := goodIn_app (vs_in4 mw_h6_28 mw_h6_29 mw_h6_30 mw_h6_6 (by decide +kernel)) (vs_cons mw_h6_27 (by decide +kernel) gs_h6)
theorem gv_h6_6 : GoodIn VS_h6 (wsV RX13 491 RX13 yX13_fits (.code yX13_fits cX13_fits 3 (some .boolean) :: VS_h6)) := goodIn_app (vs_in4 mw_h6_32 mw_h6_33 mw_h6_34 mw_h6_6 (by decide +kernel)) (vs_cons mw_h6_31 (by decide +kernel) gs_h6)
theorem gv_h6_7 : GoodIn VS_h6 (wsV RX13 479 RX13 yX13_isLike (.code yX13_isLike cX13_isLike 5 (some .boolean) :: VS_h6)) := goodIn_app (vs_in4 mw_h6_36 mw_h6_37 mw_h6_38 mw_h6_6 (by decide +kernel)) (vs_cons mw_h6_35 (by decide +kernel) gs_h6)
theorem gv_h6_8 : GoodIn VS_h6 (wsV RX13 534 RX13 yX13_sightOf (.code yX13_sightOf cX13_sightOf 3 (some .int) :: VS_h6)) := goodIn_app (vs_in4 mw_h6_46 mw_h6_47 mw_h6_48 mw_h6_6 (by decide +kernel)) (vs_cons mw_h6_45 (by decide +kernel) gs_h6)
theorem gv_h6_9 : GoodIn VS_h6 (wsV RX13 507 RX13 yX13_memberOf (.code yX13_memberOf cX13_memberOf 6 (some .int) :: VS_h6)) := goodIn_app (vs_in4 mw_h6_50 mw_h6_51 mw_h6_52 mw_h6_6 (by decide +kernel)) (vs_cons mw_h6_49 (by decide +kernel) gs_h6)
theorem gv_h6_10 : GoodIn VS_h6 (wsV RX13 593 RX13 yX13_spell (.code yX13_spell cX13_spell 2 none :: VS_h5)) := goodIn_app (vs_in4 mw_h6_59 mw_h6_60 mw_h6_61 mw_h6_6 (by decide +kernel)) (vs_cons mw_h6_58 (by decide +kernel) in_h6_VS_h5)
theorem gv_h6_11 : GoodIn VS_h6 (wsV RX13 596 RX13 yX13_spellToken (.code yX13_spellToken cX13_spellToken 3 none :: VS_h6)) := goodIn_app (vs_in4 mw_h6_63 mw_h6_64 mw_h6_65 mw_h6_6 (by decide +kernel)) (vs_cons mw_h6_62 (by decide +kernel) gs_h6)
theorem gv_h6_12 : GoodIn VS_h6 (wsV RX13 646 RX13 yX13_put (.code yX13_put cX13_put 2 none :: VS_h5)) := goodIn_app (vs_in4 mw_h6_67 mw_h6_68 mw_h6_69 mw_h6_6 (by decide +kernel)) (vs_cons mw_h6_66 (by decide +kernel) in_h6_VS_h5)
theorem gv_h6_13 : GoodIn VS_h6 (wsV RX13 703 RX13 yX13_isLedInWords (.code yX13_isLedInWords cX13_isLedInWords 3 (some .boolean) :: VS_h5)) := goodIn_app (vs_in4 mw_h6_71 mw_h6_72 mw_h6_73 mw_h6_6 (by decide +kernel)) (vs_cons mw_h6_70 (by decide +kernel) in_h6_VS_h5)
theorem gv_h6_14 : GoodIn VS_h6 (wsV RX13 676 RX13 yX13_label (.code yX13_label cX13_label 1 (some .int) :: VS_h5)) := goodIn_app (vs_in4 mw_h6_75 mw_h6_76 mw_h6_77 mw_h6_6 (by decide +kernel)) (vs_cons mw_h6_74 (by decide +kernel) in_h6_VS_h5)
theorem gv_h6_15 : GoodIn VS_h6 (wsV RX13 679 RX13 yX13_jump (.code yX13_jump cX13_jump 3 none :: VS_h5)) := goodIn_app (vs_in4 mw_h6_79 mw_h6_80 mw_h6_81 mw_h6_6 (by decide +kernel)) (vs_cons mw_h6_78 (by decide +kernel) in_h6_VS_h5)
theorem gv_h6_16 : GoodIn VS_h6 (wsV RX13 640 RX13 yX13_push (.code yX13_push cX13_push 2 none :: VS_h5)) := goodIn_app (vs_in4 mw_h6_83 mw_h6_84 mw_h6_85 mw_h6_6 (by decide +kernel)) (vs_cons mw_h6_82 (by decide +kernel) in_h6_VS_h5)
theorem gv_h6_17 : GoodIn VS_h6 (va_wsS RX13 454 yX13_sign (.code yX13_sign cX13_sign 3 (some .int) :: VS_h5)) := goodIn_app (vs_in3 mw_h6_87 mw_h6_88 mw_h6_6 (by decide +kernel)) (vs_cons mw_h6_86 (by decide +kernel) in_h6_VS_h5)
theorem gv_h6_18 : GoodIn VS_h6 (wsV RX13 731 RX13 yX13_tell (.code yX13_tell cX13_tell 2 none :: VS_h5)) := goodIn_app (vs_in4 mw_h6_90 mw_h6_91 mw_h6_92 mw_h6_6 (by decide +kernel)) (vs_cons mw_h6_89 (by decide +kernel) in_h6_VS_h5)
theorem gv_h6_19 : GoodIn VS_h6 (va_wsS RX13 770 yX13_isNamePart (.code yX13_isNamePart cX13_isNamePart 2 (some .boolean) :: VS_h5)) := goodIn_app (vs_in3 mw_h6_94 mw_h6_95 mw_h6_6 (by decide +kernel)) (vs_cons mw_h6_93 (by decide +kernel) in_h6_VS_h5)
theorem gv_h6_20 : GoodIn VS_h6 (wsV RX13 791 RX13 yX13_constantOf (.code yX13_constantOf cX13_constantOf 3 (some .int) :: VS_h5)) := goodIn_app (vs_in4 mw_h6_97 mw_h6_98 mw_h6_99 mw_h6_6 (by decide +kernel)) (vs_cons mw_h6_96 (by decide +kernel) in_h6_VS_h5)
theorem gv_h6_21 : GoodIn VS_h6 (wsV RX13 867 RX13 yX13_textOfClass (.code yX13_textOfClass cX13_textOfClass 3 (some .int) :: VS_h5)) := goodIn_app (vs_in4 mw_h6_106 mw_h6_107 mw_h6_108 mw_h6_6 (by decide +kernel)) (vs_cons mw_h6_105 (by decide +kernel) in_h6_VS_h5)
theorem gv_h6_22 : GoodIn VS_h6 (wsV RX13 864 RX13 yX13_byteAt (.code yX13_byteAt cX13_byteAt 3 (some .int) :: VS_h5)) := goodIn_app (vs_in4 mw_h6_110 mw_h6_111 mw_h6_112 mw_h6_6 (by decide +kernel)) (vs_cons mw_h6_109 (by decide +kernel) in_h6_VS_h5)
theorem gv_h6_23 : GoodIn VS_h6 (wsV RX13 946 RX13 yX13_frameMany (.code yX13_frameMany cX13_frameMany 1 (some .int) :: VS_h5)) := goodIn_app (vs_in4 mw_h6_115 mw_h6_116 mw_h6_117 mw_h6_6 (by decide +kernel)) (vs_cons mw_h6_114 (by decide +kernel) in_h6_VS_h5)
theorem gv_h6_24 : GoodIn VS_h6 (wsV RX13 949 RX13 yX13_pairIn (.code yX13_pairIn cX13_pairIn 2 (some .int) :: VS_h5)) := goodIn_app (vs_in4 mw_h6_119 mw_h6_120 mw_h6_121 mw_h6_6 (by decide +kernel)) (vs_cons mw_h6_118 (by decide +kernel) in_h6_VS_h5)
theorem gv_h6_25 : GoodIn VS_h6 (wsV RX13 943 RX13 yX13_typesEnd (.code yX13_typesEnd cX13_typesEnd 5 (some .int) :: VS_h6)) := goodIn_app (vs_in4 mw_h6_123 mw_h6_124 mw_h6_125 mw_h6_6 (by decide +kernel)) (vs_cons mw_h6_122 (by decide +kernel) gs_h6)
theorem gv_h6_26 : GoodIn VS_h6 (wsV RX13 1025 RX13 yX13_pull (.code yX13_pull cX13_pull 1 (some .int) :: VS_h5)) := goodIn_app (vs_in4 mw_h6_134 mw_h6_135 mw_h6_136 mw_h6_6 (by decide +kernel)) (vs_cons mw_h6_133 (by decide +kernel) in_h6_VS_h5)
theorem gv_h6_27 : GoodIn VS_h6 (wsV RX13 1087 RX13 yX13_drop (.code yX13_drop cX13_drop 2 (some .int) :: VS_h5)) := goodIn_app (vs_in4 mw_h6_145 mw_h6_146 mw_h6_147 mw_h6_6 (by decide +kernel)) (vs_cons mw_h6_144 (by decide +kernel) in_h6_VS_h5)
theorem gv_h6_28 : GoodIn VS_h6 (wsV RX13 1131 RX13 yX13_told (.code yX13_told cX13_told 2 (some .int) :: VS_h5)) := goodIn_app (vs_in4 mw_h6_149 mw_h6_150 mw_h6_151 mw_h6_6 (by decide +kernel)) (vs_cons mw_h6_148 (by decide +kernel) in_h6_VS_h5)
theorem gv_h6_29 : GoodIn VS_h6 (wsV RX13 1116 RX13 yX13_on (.code yX13_on cX13_on 2 none :: VS_h5)) := goodIn_app (vs_in4 mw_h6_153 mw_h6_154 mw_h6_155 mw_h6_6 (by decide +kernel)) (vs_cons mw_h6_152 (by decide +kernel) in_h6_VS_h5)
theorem gv_h6_30 : GoodIn VS_h6 (wsV RX13 1072 RX13 yX13_give (.code yX13_give cX13_give 3 none :: VS_h5)) := goodIn_app (vs_in4 mw_h6_157 mw_h6_158 mw_h6_159 mw_h6_6 (by decide +kernel)) (vs_cons mw_h6_156 (by decide +kernel) in_h6_VS_h5)
theorem gv_h6_31 : GoodIn VS_h6 (wsV RX13 552 RX13 yX13_isByClass (.code yX13_isByClass cX13_isByClass 3 (some .boolean) :: VS_h6)) := goodIn_app (vs_in4 mw_h6_163 mw_h6_164 mw_h6_165 mw_h6_6 (by decide +kernel)) (vs_cons mw_h6_162 (by decide +kernel) gs_h6)
