abbrev cX3_numberOf : ByteArray := prog_5_method_16_code
def yX3_numberOf : MethodName := ⟨RX3, "numberOf", "(I)I"⟩
abbrev cX3_sameBytes : ByteArray := prog_5_method_19_code
def yX3_sameBytes : MethodName := ⟨RX3, "sameBytes", "(IILClassMill$Image;II)Z"⟩
abbrev cX3_sameText : ByteArray := prog_5_method_20_code
def yX3_sameText : MethodName := ⟨RX3, "sameText", "(ILClassMill$Image;I)Z"⟩
abbrev cX3_isArrayText : ByteArray := prog_5_method_23_code
def yX3_isArrayText : MethodName := ⟨RX3, "isArrayText", "(I)Z"⟩
abbrev cX3_nextClass : ByteArray := prog_5_method_27_code
def yX3_nextClass : MethodName := ⟨RX3, "nextClass", "()V"⟩
abbrev cX3_nextPlainClass : ByteArray := prog_5_method_28_code
def yX3_nextPlainClass : MethodName := ⟨RX3, "nextPlainClass", "()I"⟩
abbrev cX3_readCode : ByteArray := prog_5_method_32_code
def yX3_readCode : MethodName := ⟨RX3, "readCode", "(I)V"⟩
abbrev cX3_readHandlers : ByteArray := prog_5_method_33_code
def yX3_readHandlers : MethodName := ⟨RX3, "readHandlers", "(I)V"⟩
abbrev cX3_readFrames : ByteArray := prog_5_method_34_code
def yX3_readFrames : MethodName := ⟨RX3, "readFrames", "(I)V"⟩
abbrev cX3_readFrameTypes : ByteArray := prog_5_method_35_code
def yX3_readFrameTypes : MethodName := ⟨RX3, "readFrameTypes", "()V"⟩
abbrev cX3_of : ByteArray := prog_5_method_36_code
def yX3_of : MethodName := ⟨RX3, "of", "(II)I"⟩
abbrev cX4_fits : ByteArray := prog_6_method_11_code
def yX4_fits : MethodName := ⟨RX4, "fits", "(II)Z"⟩
abbrev cX4_oneFits : ByteArray := prog_6_method_12_code
def yX4_oneFits : MethodName := ⟨RX4, "oneFits", "(II)Z"⟩
abbrev cX5_push : ByteArray := prog_7_method_11_code
def yX5_push : MethodName := ⟨RX5, "push", "(I)V"⟩
abbrev cX5_pop : ByteArray := prog_7_method_12_code
def yX5_pop : MethodName := ⟨RX5, "pop", "()I"⟩
abbrev cX5_goOn : ByteArray := prog_7_method_13_code
def yX5_goOn : MethodName := ⟨RX5, "goOn", "(I)V"⟩
abbrev cX5_give : ByteArray := prog_7_method_14_code
def yX5_give : MethodName := ⟨RX5, "give", "(II)V"⟩
abbrev cX5_stepLocal : ByteArray := prog_7_method_16_code
def yX5_stepLocal : MethodName := ⟨RX5, "stepLocal", "(II)V"⟩
abbrev cX5_stepJump : ByteArray := prog_7_method_19_code
def yX5_stepJump : MethodName := ⟨RX5, "stepJump", "(II)V"⟩
abbrev cX5_compares : ByteArray := prog_7_method_20_code
def yX5_compares : MethodName := ⟨RX5, "compares", "(III)Z"⟩
abbrev cX5_isObject : ByteArray := prog_7_method_22_code
def yX5_isObject : MethodName := ⟨RX5, "isObject", "(I)Z"⟩
abbrev cX5_cellOf : ByteArray := prog_7_method_23_code
def yX5_cellOf : MethodName := ⟨RX5, "cellOf", "(II)I"⟩
abbrev cX5_stepElement : ByteArray := prog_7_method_24_code
def yX5_stepElement : MethodName := ⟨RX5, "stepElement", "()V"⟩
abbrev cX5_stepGiveElement : ByteArray := prog_7_method_25_code
def yX5_stepGiveElement : MethodName := ⟨RX5, "stepGiveElement", "(I)V"⟩
abbrev cX5_fieldCell : ByteArray := prog_7_method_26_code
def yX5_fieldCell : MethodName := ⟨RX5, "fieldCell", "(II)I"⟩
abbrev cX5_stepPrint : ByteArray := prog_7_method_31_code
def yX5_stepPrint : MethodName := ⟨RX5, "stepPrint", "()V"⟩
abbrev cX5_stepLength : ByteArray := prog_7_method_35_code
def yX5_stepLength : MethodName := ⟨RX5, "stepLength", "()V"⟩
abbrev cX5_stepKin : ByteArray := prog_7_method_36_code
def yX5_stepKin : MethodName := ⟨RX5, "stepKin", "(II)V"⟩
abbrev cX5_stepThrow : ByteArray := prog_7_method_37_code
def yX5_stepThrow : MethodName := ⟨RX5, "stepThrow", "()V"⟩
abbrev cX11_tellNumber : ByteArray := prog_13_method_4_code
def yX11_tellNumber : MethodName := ⟨RX11, "tellNumber", "(IIII)I"⟩
abbrev cX11_at : ByteArray := prog_13_method_5_code
def yX11_at : MethodName := ⟨RX11, "at", "(II)I"⟩
abbrev cX11_info : ByteArray := prog_13_method_12_code
def yX11_info : MethodName := ⟨RX11, "info", "(I)I"⟩
abbrev cX11_codeAt : ByteArray := prog_13_method_13_code
def yX11_codeAt : MethodName := ⟨RX11, "codeAt", "(I)I"⟩
abbrev cX11_aimOf : ByteArray := prog_13_method_14_code
def yX11_aimOf : MethodName := ⟨RX11, "aimOf", "(I)I"⟩
abbrev cX11_widthOf : ByteArray := prog_13_method_15_code
def yX11_widthOf : MethodName := ⟨RX11, "widthOf", "(I)I"⟩
abbrev cX11_isArithmetic : ByteArray := prog_13_method_17_code
def yX11_isArithmetic : MethodName := ⟨RX11, "isArithmetic", "(I)Z"⟩
abbrev cX11_isBare : ByteArray := prog_13_method_18_code
def yX11_isBare : MethodName := ⟨RX11, "isBare", "(I)Z"⟩
abbrev cX11_begins : ByteArray := prog_13_method_21_code
def yX11_begins : MethodName := ⟨RX11, "begins", "(I)Z"⟩
abbrev cX11_frameAt : ByteArray := prog_13_method_22_code
def yX11_frameAt : MethodName := ⟨RX11, "frameAt", "(I)I"⟩
abbrev cX11_proveJumps : ByteArray := prog_13_method_23_code
def yX11_proveJumps : MethodName := ⟨RX11, "proveJumps", "()I"⟩
abbrev cX11_takeFrames : ByteArray := prog_13_method_24_code
def yX11_takeFrames : MethodName := ⟨RX11, "takeFrames", "(Z)V"⟩
abbrev cX11_takeTypes : ByteArray := prog_13_method_25_code
def yX11_takeTypes : MethodName := ⟨RX11, "takeTypes", "(II)I"⟩
abbrev cX11_typeOfTag : ByteArray := prog_13_method_26_code
def yX11_typeOfTag : MethodName := ⟨RX11, "typeOfTag", "(II)I"⟩
abbrev cX11_proveHandlers : ByteArray := prog_13_method_27_code
def yX11_proveHandlers : MethodName := ⟨RX11, "proveHandlers", "()I"⟩
abbrev cX11_handler : ByteArray := prog_13_method_28_code
def yX11_handler : MethodName := ⟨RX11, "handler", "(II)I"⟩
abbrev cX11_handlerClass : ByteArray := prog_13_method_29_code
def yX11_handlerClass : MethodName := ⟨RX11, "handlerClass", "(I)I"⟩
abbrev cX11_proveFrames : ByteArray := prog_13_method_30_code
def yX11_proveFrames : MethodName := ⟨RX11, "proveFrames", "()I"⟩
abbrev cX11_areThere : ByteArray := prog_13_method_31_code
def yX11_areThere : MethodName := ⟨RX11, "areThere", "(II)Z"⟩
abbrev cX11_fits : ByteArray := prog_13_method_35_code
def yX11_fits : MethodName := ⟨RX11, "fits", "(II)Z"⟩
abbrev cX11_fitsLocals : ByteArray := prog_13_method_36_code
def yX11_fitsLocals : MethodName := ⟨RX11, "fitsLocals", "(I)Z"⟩
abbrev cX11_fitsHandlers : ByteArray := prog_13_method_39_code
def yX11_fitsHandlers : MethodName := ⟨RX11, "fitsHandlers", "(I)Z"⟩
abbrev cX11_pop : ByteArray := prog_13_method_42_code
def yX11_pop : MethodName := ⟨RX11, "pop", "()I"⟩
abbrev cX11_want : ByteArray := prog_13_method_43_code
def yX11_want : MethodName := ⟨RX11, "want", "(I)V"⟩
abbrev cX11_wantReference : ByteArray := prog_13_method_44_code
def yX11_wantReference : MethodName := ⟨RX11, "wantReference", "()I"⟩
abbrev cX11_wantArray : ByteArray := prog_13_method_45_code
def yX11_wantArray : MethodName := ⟨RX11, "wantArray", "(ZZ)I"⟩
abbrev cX11_push : ByteArray := prog_13_method_46_code
def yX11_push : MethodName := ⟨RX11, "push", "(I)V"⟩
abbrev cX11_applySimple : ByteArray := prog_13_method_47_code
def yX11_applySimple : MethodName := ⟨RX11, "applySimple", "(II)V"⟩
abbrev cX11_applyLocal : ByteArray := prog_13_method_48_code
def yX11_applyLocal : MethodName := ⟨RX11, "applyLocal", "(II)V"⟩
abbrev cX11_applyJump : ByteArray := prog_13_method_49_code
def yX11_applyJump : MethodName := ⟨RX11, "applyJump", "(I)V"⟩
abbrev cX11_applyArray : ByteArray := prog_13_method_50_code
def yX11_applyArray : MethodName := ⟨RX11, "applyArray", "(I)V"⟩
abbrev cX11_applyReturn : ByteArray := prog_13_method_51_code
def yX11_applyReturn : MethodName := ⟨RX11, "applyReturn", "(I)V"⟩
abbrev cX11_applyMember : ByteArray := prog_13_method_52_code
def yX11_applyMember : MethodName := ⟨RX11, "applyMember", "(II)V"⟩
abbrev cX11_applyObject : ByteArray := prog_13_method_53_code
def yX11_applyObject : MethodName := ⟨RX11, "applyObject", "(II)V"⟩
def RJ9 : String := "java/lang/Math"
abbrev cJ9_min_7cf53 : ByteArray := prog_17_method_69_code
def yJ9_min_7cf53 : MethodName := ⟨RJ9, "min", "(II)I"⟩
theorem dX3_numberOf_0 : decode cX3_numberOf 0 = .ok (.aload_n 0, 1) := by decide +kernel
theorem dX3_numberOf_1 : decode cX3_numberOf 1 = .ok (.iload_n 1, 1) := by decide +kernel
theorem dX3_numberOf_2 : decode cX3_numberOf 2 = .ok (.iconst 0, 1) := by decide +kernel
theorem dX3_numberOf_3 : decode cX3_numberOf 3 = .ok (.invokevirtual 99, 3) := by decide +kernel
theorem dX3_numberOf_6 : decode cX3_numberOf 6 = .ok (.bipush 24, 2) := by decide +kernel
theorem dX3_numberOf_8 : decode cX3_numberOf 8 = .ok (.ishl, 1) := by decide +kernel
theorem dX3_numberOf_9 : decode cX3_numberOf 9 = .ok (.aload_n 0, 1) := by decide +kernel
theorem dX3_numberOf_10 : decode cX3_numberOf 10 = .ok (.iload_n 1, 1) := by decide +kernel
theorem dX3_numberOf_11 : decode cX3_numberOf 11 = .ok (.iconst 1, 1) := by decide +kernel
theorem dX3_numberOf_12 : decode cX3_numberOf 12 = .ok (.invokevirtual 99, 3) := by decide +kernel
theorem dX3_numberOf_15 : decode cX3_numberOf 15 = .ok (.bipush 16, 2) := by decide +kernel
theorem dX3_numberOf_17 : decode cX3_numberOf 17 = .ok (.ishl, 1) := by decide +kernel
theorem dX3_numberOf_18 : decode cX3_numberOf 18 = .ok (.ior, 1) := by decide +kernel
theorem dX3_numberOf_19 : decode cX3_numberOf 19 = .ok (.aload_n 0, 1) := by decide +kernel
theorem dX3_numberOf_20 : decode cX3_numberOf 20 = .ok (.iload_n 1, 1) := by decide +kernel
theorem dX3_numberOf_21 : decode cX3_numberOf 21 = .ok (.iconst 2, 1) := by decide +kernel
theorem dX3_numberOf_22 : decode cX3_numberOf 22 = .ok (.invokevirtual 99, 3) := by decide +kernel
theorem dX3_numberOf_25 : decode cX3_numberOf 25 = .ok (.bipush 8, 2) := by decide +kernel
theorem dX3_numberOf_27 : decode cX3_numberOf 27 = .ok (.ishl, 1) := by decide +kernel
theorem dX3_numberOf_28 : decode cX3_numberOf 28 = .ok (.ior, 1) := by decide +kernel
theorem dX3_numberOf_29 : decode cX3_numberOf 29 = .ok (.aload_n 0, 1) := by decide +kernel
theorem dX3_numberOf_30 : decode cX3_numberOf 30 = .ok (.iload_n 1, 1) := by decide +kernel
theorem dX3_numberOf_31 : decode cX3_numberOf 31 = .ok (.iconst 3, 1) := by decide +kernel
theorem dX3_numberOf_32 : decode cX3_numberOf 32 = .ok (.invokevirtual 99, 3) := by decide +kernel
theorem dX3_numberOf_35 : decode cX3_numberOf 35 = .ok (.ior, 1) := by decide +kernel
theorem dX3_numberOf_36 : decode cX3_numberOf 36 = .ok (.ireturn, 1) := by decide +kernel
theorem dX3_sameBytes_0 : decode cX3_sameBytes 0 = .ok (.iload_n 2, 1) := by decide +kernel
theorem dX3_sameBytes_1 : decode cX3_sameBytes 1 = .ok (.iload_n 1, 1) := by decide +kernel
theorem dX3_sameBytes_2 : decode cX3_sameBytes 2 = .ok (.isub, 1) := by decide +kernel
theorem dX3_sameBytes_3 : decode cX3_sameBytes 3 = .ok (.iload 5, 2) := by decide +kernel
theorem dX3_sameBytes_5 : decode cX3_sameBytes 5 = .ok (.iload 4, 2) := by decide +kernel
theorem dX3_sameBytes_7 : decode cX3_sameBytes 7 = .ok (.isub, 1) := by decide +kernel
theorem dX3_sameBytes_8 : decode cX3_sameBytes 8 = .ok (.if_icmp .ne 33, 3) := by decide +kernel
theorem dX3_sameBytes_11 : decode cX3_sameBytes 11 = .ok (.iload_n 1, 1) := by decide +kernel
theorem dX3_sameBytes_12 : decode cX3_sameBytes 12 = .ok (.ifCond .lt 29, 3) := by decide +kernel
theorem dX3_sameBytes_15 : decode cX3_sameBytes 15 = .ok (.iload_n 2, 1) := by decide +kernel
theorem dX3_sameBytes_16 : decode cX3_sameBytes 16 = .ok (.aload_n 0, 1) := by decide +kernel
theorem dX3_sameBytes_17 : decode cX3_sameBytes 17 = .ok (.getfield 39, 3) := by decide +kernel
theorem dX3_sameBytes_20 : decode cX3_sameBytes 20 = .ok (.if_icmp .gt 21, 3) := by decide +kernel
theorem dX3_sameBytes_23 : decode cX3_sameBytes 23 = .ok (.iload 4, 2) := by decide +kernel
theorem dX3_sameBytes_25 : decode cX3_sameBytes 25 = .ok (.ifCond .lt 16, 3) := by decide +kernel
theorem dX3_sameBytes_28 : decode cX3_sameBytes 28 = .ok (.iload 5, 2) := by decide +kernel
theorem dX3_sameBytes_30 : decode cX3_sameBytes 30 = .ok (.aload_n 3, 1) := by decide +kernel
theorem dX3_sameBytes_31 : decode cX3_sameBytes 31 = .ok (.getfield 39, 3) := by decide +kernel
theorem dX3_sameBytes_34 : decode cX3_sameBytes 34 = .ok (.if_icmp .gt 7, 3) := by decide +kernel
theorem dX3_sameBytes_37 : decode cX3_sameBytes 37 = .ok (.iconst 1, 1) := by decide +kernel
theorem dX3_sameBytes_38 : decode cX3_sameBytes 38 = .ok (.goto 4, 3) := by decide +kernel
theorem dX3_sameBytes_41 : decode cX3_sameBytes 41 = .ok (.iconst 0, 1) := by decide +kernel
theorem dX3_sameBytes_42 : decode cX3_sameBytes 42 = .ok (.istore 6, 2) := by decide +kernel
theorem dX3_sameBytes_44 : decode cX3_sameBytes 44 = .ok (.iconst 0, 1) := by decide +kernel
theorem dX3_sameBytes_45 : decode cX3_sameBytes 45 = .ok (.istore 7, 2) := by decide +kernel
theorem dX3_sameBytes_47 : decode cX3_sameBytes 47 = .ok (.iload 7, 2) := by decide +kernel
theorem dX3_sameBytes_49 : decode cX3_sameBytes 49 = .ok (.iload_n 2, 1) := by decide +kernel
theorem dX3_sameBytes_50 : decode cX3_sameBytes 50 = .ok (.iload_n 1, 1) := by decide +kernel
theorem dX3_sameBytes_51 : decode cX3_sameBytes 51 = .ok (.isub, 1) := by decide +kernel
theorem dX3_sameBytes_52 : decode cX3_sameBytes 52 = .ok (.if_icmp .ge 43, 3) := by decide +kernel
theorem dX3_sameBytes_55 : decode cX3_sameBytes 55 = .ok (.iload 6, 2) := by decide +kernel
theorem dX3_sameBytes_57 : decode cX3_sameBytes 57 = .ok (.ifCond .eq 38, 3) := by decide +kernel
theorem dX3_sameBytes_60 : decode cX3_sameBytes 60 = .ok (.aload_n 0, 1) := by decide +kernel
theorem dX3_sameBytes_61 : decode cX3_sameBytes 61 = .ok (.getfield 9, 3) := by decide +kernel
theorem dX3_sameBytes_64 : decode cX3_sameBytes 64 = .ok (.iload_n 1, 1) := by decide +kernel
theorem dX3_sameBytes_65 : decode cX3_sameBytes 65 = .ok (.iload 7, 2) := by decide +kernel
theorem dX3_sameBytes_67 : decode cX3_sameBytes 67 = .ok (.iadd, 1) := by decide +kernel
theorem dX3_sameBytes_68 : decode cX3_sameBytes 68 = .ok (.baload, 1) := by decide +kernel
theorem dX3_sameBytes_69 : decode cX3_sameBytes 69 = .ok (.aload_n 3, 1) := by decide +kernel
theorem dX3_sameBytes_70 : decode cX3_sameBytes 70 = .ok (.getfield 9, 3) := by decide +kernel
theorem dX3_sameBytes_73 : decode cX3_sameBytes 73 = .ok (.iload 4, 2) := by decide +kernel
theorem dX3_sameBytes_75 : decode cX3_sameBytes 75 = .ok (.iload 7, 2) := by decide +kernel
theorem dX3_sameBytes_77 : decode cX3_sameBytes 77 = .ok (.iadd, 1) := by decide +kernel
theorem dX3_sameBytes_78 : decode cX3_sameBytes 78 = .ok (.baload, 1) := by decide +kernel
theorem dX3_sameBytes_79 : decode cX3_sameBytes 79 = .ok (.if_icmp .ne 7, 3) := by decide +kernel
theorem dX3_sameBytes_82 : decode cX3_sameBytes 82 = .ok (.iconst 1, 1) := by decide +kernel
theorem dX3_sameBytes_83 : decode cX3_sameBytes 83 = .ok (.goto 4, 3) := by decide +kernel
theorem dX3_sameBytes_86 : decode cX3_sameBytes 86 = .ok (.iconst 0, 1) := by decide +kernel
theorem dX3_sameBytes_87 : decode cX3_sameBytes 87 = .ok (.istore 6, 2) := by decide +kernel
theorem dX3_sameBytes_89 : decode cX3_sameBytes 89 = .ok (.iinc 7 1, 3) := by decide +kernel
theorem dX3_sameBytes_92 : decode cX3_sameBytes 92 = .ok (.goto (-45), 3) := by decide +kernel
theorem dX3_sameBytes_95 : decode cX3_sameBytes 95 = .ok (.iload 6, 2) := by decide +kernel
theorem dX3_sameBytes_97 : decode cX3_sameBytes 97 = .ok (.ireturn, 1) := by decide +kernel
theorem dX3_sameText_0 : decode cX3_sameText 0 = .ok (.aload_n 0, 1) := by decide +kernel
theorem dX3_sameText_1 : decode cX3_sameText 1 = .ok (.aload_n 0, 1) := by decide +kernel
theorem dX3_sameText_2 : decode cX3_sameText 2 = .ok (.iload_n 1, 1) := by decide +kernel
theorem dX3_sameText_3 : decode cX3_sameText 3 = .ok (.invokevirtual 122, 3) := by decide +kernel
theorem dX3_sameText_6 : decode cX3_sameText 6 = .ok (.aload_n 0, 1) := by decide +kernel
theorem dX3_sameText_7 : decode cX3_sameText 7 = .ok (.iload_n 1, 1) := by decide +kernel
theorem dX3_sameText_8 : decode cX3_sameText 8 = .ok (.invokevirtual 125, 3) := by decide +kernel
theorem dX3_sameText_11 : decode cX3_sameText 11 = .ok (.aload_n 2, 1) := by decide +kernel
theorem dX3_sameText_12 : decode cX3_sameText 12 = .ok (.aload_n 2, 1) := by decide +kernel
theorem dX3_sameText_13 : decode cX3_sameText 13 = .ok (.iload_n 3, 1) := by decide +kernel
theorem dX3_sameText_14 : decode cX3_sameText 14 = .ok (.invokevirtual 122, 3) := by decide +kernel
theorem dX3_sameText_17 : decode cX3_sameText 17 = .ok (.aload_n 2, 1) := by decide +kernel
theorem dX3_sameText_18 : decode cX3_sameText 18 = .ok (.iload_n 3, 1) := by decide +kernel
theorem dX3_sameText_19 : decode cX3_sameText 19 = .ok (.invokevirtual 125, 3) := by decide +kernel
theorem dX3_sameText_22 : decode cX3_sameText 22 = .ok (.invokevirtual 128, 3) := by decide +kernel
theorem dX3_sameText_25 : decode cX3_sameText 25 = .ok (.ireturn, 1) := by decide +kernel
theorem dX3_isArrayText_0 : decode cX3_isArrayText 0 = .ok (.aload_n 0, 1) := by decide +kernel
theorem dX3_isArrayText_1 : decode cX3_isArrayText 1 = .ok (.iload_n 1, 1) := by decide +kernel
theorem dX3_isArrayText_2 : decode cX3_isArrayText 2 = .ok (.invokevirtual 112, 3) := by decide +kernel
theorem dX3_isArrayText_5 : decode cX3_isArrayText 5 = .ok (.iconst 1, 1) := by decide +kernel
theorem dX3_isArrayText_6 : decode cX3_isArrayText 6 = .ok (.if_icmp .ne 22, 3) := by decide +kernel
theorem dX3_isArrayText_9 : decode cX3_isArrayText 9 = .ok (.aload_n 0, 1) := by decide +kernel
theorem dX3_isArrayText_10 : decode cX3_isArrayText 10 = .ok (.aload_n 0, 1) := by decide +kernel
theorem dX3_isArrayText_11 : decode cX3_isArrayText 11 = .ok (.getfield 19, 3) := by decide +kernel
theorem dX3_isArrayText_14 : decode cX3_isArrayText 14 = .ok (.iload_n 1, 1) := by decide +kernel
theorem dX3_isArrayText_15 : decode cX3_isArrayText 15 = .ok (.iaload, 1) := by decide +kernel
theorem dX3_isArrayText_16 : decode cX3_isArrayText 16 = .ok (.invokevirtual 119, 3) := by decide +kernel
theorem dX3_isArrayText_19 : decode cX3_isArrayText 19 = .ok (.bipush 91, 2) := by decide +kernel
theorem dX3_isArrayText_21 : decode cX3_isArrayText 21 = .ok (.if_icmp .ne 7, 3) := by decide +kernel
theorem dX3_isArrayText_24 : decode cX3_isArrayText 24 = .ok (.iconst 1, 1) := by decide +kernel
theorem dX3_isArrayText_25 : decode cX3_isArrayText 25 = .ok (.goto 4, 3) := by decide +kernel
theorem dX3_isArrayText_28 : decode cX3_isArrayText 28 = .ok (.iconst 0, 1) := by decide +kernel
theorem dX3_isArrayText_29 : decode cX3_isArrayText 29 = .ok (.ireturn, 1) := by decide +kernel
theorem dX3_nextClass_0 : decode cX3_nextClass 0 = .ok (.aload_n 0, 1) := by decide +kernel
theorem dX3_nextClass_1 : decode cX3_nextClass 1 = .ok (.aload_n 0, 1) := by decide +kernel
theorem dX3_nextClass_2 : decode cX3_nextClass 2 = .ok (.invokevirtual 87, 3) := by decide +kernel
theorem dX3_nextClass_5 : decode cX3_nextClass 5 = .ok (.invokevirtual 112, 3) := by decide +kernel
theorem dX3_nextClass_8 : decode cX3_nextClass 8 = .ok (.iconst 3, 1) := by decide +kernel
theorem dX3_nextClass_9 : decode cX3_nextClass 9 = .ok (.if_icmp .eq 13, 3) := by decide +kernel
theorem dX3_nextClass_12 : decode cX3_nextClass 12 = .ok (.aload_n 0, 1) := by decide +kernel
theorem dX3_nextClass_13 : decode cX3_nextClass 13 = .ok (.aload_n 0, 1) := by decide +kernel
theorem dX3_nextClass_14 : decode cX3_nextClass 14 = .ok (.getfield 43, 3) := by decide +kernel
theorem dX3_nextClass_17 : decode cX3_nextClass 17 = .ok (.iconst 1, 1) := by decide +kernel
theorem dX3_nextClass_18 : decode cX3_nextClass 18 = .ok (.isub, 1) := by decide +kernel
theorem dX3_nextClass_19 : decode cX3_nextClass 19 = .ok (.invokevirtual 78, 3) := by decide +kernel
theorem dX3_nextClass_22 : decode cX3_nextClass 22 = .ok (.return_, 1) := by decide +kernel
theorem dX3_nextPlainClass_0 : decode cX3_nextPlainClass 0 = .ok (.aload_n 0, 1) := by decide +kernel
theorem dX3_nextPlainClass_1 : decode cX3_nextPlainClass 1 = .ok (.invokevirtual 87, 3) := by decide +kernel
theorem dX3_nextPlainClass_4 : decode cX3_nextPlainClass 4 = .ok (.istore_n 1, 1) := by decide +kernel
theorem dX3_nextPlainClass_5 : decode cX3_nextPlainClass 5 = .ok (.aload_n 0, 1) := by decide +kernel
theorem dX3_nextPlainClass_6 : decode cX3_nextPlainClass 6 = .ok (.iload_n 1, 1) := by decide +kernel
theorem dX3_nextPlainClass_7 : decode cX3_nextPlainClass 7 = .ok (.iconst 0, 1) := by decide +kernel
theorem dX3_nextPlainClass_8 : decode cX3_nextPlainClass 8 = .ok (.invokevirtual 99, 3) := by decide +kernel
theorem dX3_nextPlainClass_11 : decode cX3_nextPlainClass 11 = .ok (.istore_n 2, 1) := by decide +kernel
theorem dX3_nextPlainClass_12 : decode cX3_nextPlainClass 12 = .ok (.aload_n 0, 1) := by decide +kernel
theorem dX3_nextPlainClass_13 : decode cX3_nextPlainClass 13 = .ok (.iload_n 1, 1) := by decide +kernel
theorem dX3_nextPlainClass_14 : decode cX3_nextPlainClass 14 = .ok (.invokevirtual 112, 3) := by decide +kernel
theorem dX3_nextPlainClass_17 : decode cX3_nextPlainClass 17 = .ok (.iconst 3, 1) := by decide +kernel
theorem dX3_nextPlainClass_18 : decode cX3_nextPlainClass 18 = .ok (.if_icmp .ne 11, 3) := by decide +kernel
theorem dX3_nextPlainClass_21 : decode cX3_nextPlainClass 21 = .ok (.aload_n 0, 1) := by decide +kernel
theorem dX3_nextPlainClass_22 : decode cX3_nextPlainClass 22 = .ok (.iload_n 2, 1) := by decide +kernel
theorem dX3_nextPlainClass_23 : decode cX3_nextPlainClass 23 = .ok (.invokevirtual 106, 3) := by decide +kernel
theorem dX3_nextPlainClass_26 : decode cX3_nextPlainClass 26 = .ok (.ifCond .eq 13, 3) := by decide +kernel
theorem dX3_nextPlainClass_29 : decode cX3_nextPlainClass 29 = .ok (.aload_n 0, 1) := by decide +kernel
theorem dX3_nextPlainClass_30 : decode cX3_nextPlainClass 30 = .ok (.aload_n 0, 1) := by decide +kernel
theorem dX3_nextPlainClass_31 : decode cX3_nextPlainClass 31 = .ok (.getfield 43, 3) := by decide +kernel
theorem dX3_nextPlainClass_34 : decode cX3_nextPlainClass 34 = .ok (.iconst 1, 1) := by decide +kernel
theorem dX3_nextPlainClass_35 : decode cX3_nextPlainClass 35 = .ok (.isub, 1) := by decide +kernel
theorem dX3_nextPlainClass_36 : decode cX3_nextPlainClass 36 = .ok (.invokevirtual 78, 3) := by decide +kernel
theorem dX3_nextPlainClass_39 : decode cX3_nextPlainClass 39 = .ok (.iload_n 2, 1) := by decide +kernel
theorem dX3_nextPlainClass_40 : decode cX3_nextPlainClass 40 = .ok (.ireturn, 1) := by decide +kernel
theorem dX3_readCode_0 : decode cX3_readCode 0 = .ok (.aload_n 0, 1) := by decide +kernel
theorem dX3_readCode_1 : decode cX3_readCode 1 = .ok (.getfield 43, 3) := by decide +kernel
theorem dX3_readCode_4 : decode cX3_readCode 4 = .ok (.istore_n 2, 1) := by decide +kernel
theorem dX3_readCode_5 : decode cX3_readCode 5 = .ok (.aload_n 0, 1) := by decide +kernel
theorem dX3_readCode_6 : decode cX3_readCode 6 = .ok (.invokevirtual 87, 3) := by decide +kernel
theorem dX3_readCode_9 : decode cX3_readCode 9 = .ok (.istore_n 3, 1) := by decide +kernel
theorem dX3_readCode_10 : decode cX3_readCode 10 = .ok (.iload_n 3, 1) := by decide +kernel
theorem dX3_readCode_11 : decode cX3_readCode 11 = .ok (.bipush 8, 2) := by decide +kernel
theorem dX3_readCode_13 : decode cX3_readCode 13 = .ok (.ishl, 1) := by decide +kernel
theorem dX3_readCode_14 : decode cX3_readCode 14 = .ok (.aload_n 0, 1) := by decide +kernel
theorem dX3_readCode_15 : decode cX3_readCode 15 = .ok (.invokevirtual 87, 3) := by decide +kernel
theorem dX3_readCode_18 : decode cX3_readCode 18 = .ok (.ior, 1) := by decide +kernel
theorem dX3_readCode_19 : decode cX3_readCode 19 = .ok (.istore 4, 2) := by decide +kernel
theorem dX3_readCode_21 : decode cX3_readCode 21 = .ok (.iload 4, 2) := by decide +kernel
theorem dX3_readCode_23 : decode cX3_readCode 23 = .ok (.iconst 1, 1) := by decide +kernel
theorem dX3_readCode_24 : decode cX3_readCode 24 = .ok (.if_icmp .lt 11, 3) := by decide +kernel
theorem dX3_readCode_27 : decode cX3_readCode 27 = .ok (.iload 4, 2) := by decide +kernel
theorem dX3_readCode_29 : decode cX3_readCode 29 = .ok (.sipush 1500, 3) := by decide +kernel
theorem dX3_readCode_32 : decode cX3_readCode 32 = .ok (.if_icmp .le 8, 3) := by decide +kernel
theorem dX3_readCode_35 : decode cX3_readCode 35 = .ok (.aload_n 0, 1) := by decide +kernel
theorem dX3_readCode_36 : decode cX3_readCode 36 = .ok (.iload_n 2, 1) := by decide +kernel
theorem dX3_readCode_37 : decode cX3_readCode 37 = .ok (.invokevirtual 78, 3) := by decide +kernel
theorem dX3_readCode_40 : decode cX3_readCode 40 = .ok (.aload_n 0, 1) := by decide +kernel
theorem dX3_readCode_41 : decode cX3_readCode 41 = .ok (.getfield 30, 3) := by decide +kernel
theorem dX3_readCode_44 : decode cX3_readCode 44 = .ok (.iload_n 1, 1) := by decide +kernel
theorem dX3_readCode_45 : decode cX3_readCode 45 = .ok (.iconst 5, 1) := by decide +kernel
theorem dX3_readCode_46 : decode cX3_readCode 46 = .ok (.iadd, 1) := by decide +kernel
theorem dX3_readCode_47 : decode cX3_readCode 47 = .ok (.iload 4, 2) := by decide +kernel
theorem dX3_readCode_49 : decode cX3_readCode 49 = .ok (.iastore, 1) := by decide +kernel
theorem dX3_readCode_50 : decode cX3_readCode 50 = .ok (.aload_n 0, 1) := by decide +kernel
theorem dX3_readCode_51 : decode cX3_readCode 51 = .ok (.getfield 30, 3) := by decide +kernel
theorem dX3_readCode_54 : decode cX3_readCode 54 = .ok (.iload_n 1, 1) := by decide +kernel
theorem dX3_readCode_55 : decode cX3_readCode 55 = .ok (.bipush 6, 2) := by decide +kernel
theorem dX3_readCode_57 : decode cX3_readCode 57 = .ok (.iadd, 1) := by decide +kernel
theorem dX3_readCode_58 : decode cX3_readCode 58 = .ok (.aload_n 0, 1) := by decide +kernel
theorem dX3_readCode_59 : decode cX3_readCode 59 = .ok (.getfield 43, 3) := by decide +kernel
theorem dX3_readCode_62 : decode cX3_readCode 62 = .ok (.iastore, 1) := by decide +kernel
theorem dX3_readCode_63 : decode cX3_readCode 63 = .ok (.aload_n 0, 1) := by decide +kernel
theorem dX3_readCode_64 : decode cX3_readCode 64 = .ok (.getfield 43, 3) := by decide +kernel
theorem dX3_readCode_67 : decode cX3_readCode 67 = .ok (.iload 4, 2) := by decide +kernel
theorem dX3_readCode_69 : decode cX3_readCode 69 = .ok (.iadd, 1) := by decide +kernel
theorem dX3_readCode_70 : decode cX3_readCode 70 = .ok (.aload_n 0, 1) := by decide +kernel
theorem dX3_readCode_71 : decode cX3_readCode 71 = .ok (.getfield 39, 3) := by decide +kernel
theorem dX3_readCode_74 : decode cX3_readCode 74 = .ok (.if_icmp .le 11, 3) := by decide +kernel
theorem dX3_readCode_77 : decode cX3_readCode 77 = .ok (.aload_n 0, 1) := by decide +kernel
theorem dX3_readCode_78 : decode cX3_readCode 78 = .ok (.aload_n 0, 1) := by decide +kernel
theorem dX3_readCode_79 : decode cX3_readCode 79 = .ok (.getfield 39, 3) := by decide +kernel
theorem dX3_readCode_82 : decode cX3_readCode 82 = .ok (.invokevirtual 78, 3) := by decide +kernel
theorem dX3_readCode_85 : decode cX3_readCode 85 = .ok (.aload_n 0, 1) := by decide +kernel
theorem dX3_readCode_86 : decode cX3_readCode 86 = .ok (.aload_n 0, 1) := by decide +kernel
theorem dX3_readCode_87 : decode cX3_readCode 87 = .ok (.getfield 43, 3) := by decide +kernel
theorem dX3_readCode_90 : decode cX3_readCode 90 = .ok (.iload 4, 2) := by decide +kernel
theorem dX3_readCode_92 : decode cX3_readCode 92 = .ok (.iadd, 1) := by decide +kernel
theorem dX3_readCode_93 : decode cX3_readCode 93 = .ok (.aload_n 0, 1) := by decide +kernel
theorem dX3_readCode_94 : decode cX3_readCode 94 = .ok (.getfield 39, 3) := by decide +kernel
theorem dX3_readCode_97 : decode cX3_readCode 97 = .ok (.invokestatic 33, 3) := by decide +kernel
theorem dX3_readCode_100 : decode cX3_readCode 100 = .ok (.putfield 43, 3) := by decide +kernel
theorem dX3_readCode_103 : decode cX3_readCode 103 = .ok (.return_, 1) := by decide +kernel
theorem dX3_readHandlers_0 : decode cX3_readHandlers 0 = .ok (.aload_n 0, 1) := by decide +kernel
theorem dX3_readHandlers_1 : decode cX3_readHandlers 1 = .ok (.iconst 0, 1) := by decide +kernel
theorem dX3_readHandlers_2 : decode cX3_readHandlers 2 = .ok (.bipush 20, 2) := by decide +kernel
theorem dX3_readHandlers_4 : decode cX3_readHandlers 4 = .ok (.invokevirtual 71, 3) := by decide +kernel
theorem dX3_readHandlers_7 : decode cX3_readHandlers 7 = .ok (.istore_n 2, 1) := by decide +kernel
theorem dX3_readHandlers_8 : decode cX3_readHandlers 8 = .ok (.aload_n 0, 1) := by decide +kernel
theorem dX3_readHandlers_9 : decode cX3_readHandlers 9 = .ok (.getfield 30, 3) := by decide +kernel
theorem dX3_readHandlers_12 : decode cX3_readHandlers 12 = .ok (.iload_n 1, 1) := by decide +kernel
theorem dX3_readHandlers_13 : decode cX3_readHandlers 13 = .ok (.bipush 7, 2) := by decide +kernel
theorem dX3_readHandlers_15 : decode cX3_readHandlers 15 = .ok (.iadd, 1) := by decide +kernel
theorem dX3_readHandlers_16 : decode cX3_readHandlers 16 = .ok (.iload_n 2, 1) := by decide +kernel
theorem dX3_readHandlers_17 : decode cX3_readHandlers 17 = .ok (.iastore, 1) := by decide +kernel
theorem dX3_readHandlers_18 : decode cX3_readHandlers 18 = .ok (.aload_n 0, 1) := by decide +kernel
theorem dX3_readHandlers_19 : decode cX3_readHandlers 19 = .ok (.getfield 30, 3) := by decide +kernel
theorem dX3_readHandlers_22 : decode cX3_readHandlers 22 = .ok (.iload_n 1, 1) := by decide +kernel
theorem dX3_readHandlers_23 : decode cX3_readHandlers 23 = .ok (.bipush 8, 2) := by decide +kernel
theorem dX3_readHandlers_25 : decode cX3_readHandlers 25 = .ok (.iadd, 1) := by decide +kernel
theorem dX3_readHandlers_26 : decode cX3_readHandlers 26 = .ok (.aload_n 0, 1) := by decide +kernel
theorem dX3_readHandlers_27 : decode cX3_readHandlers 27 = .ok (.getfield 43, 3) := by decide +kernel
theorem dX3_readHandlers_30 : decode cX3_readHandlers 30 = .ok (.iastore, 1) := by decide +kernel
theorem dX3_readHandlers_31 : decode cX3_readHandlers 31 = .ok (.iconst 0, 1) := by decide +kernel
theorem dX3_readHandlers_32 : decode cX3_readHandlers 32 = .ok (.istore_n 3, 1) := by decide +kernel
theorem dX3_readHandlers_33 : decode cX3_readHandlers 33 = .ok (.iload_n 3, 1) := by decide +kernel
theorem dX3_readHandlers_34 : decode cX3_readHandlers 34 = .ok (.iload_n 2, 1) := by decide +kernel
theorem dX3_readHandlers_35 : decode cX3_readHandlers 35 = .ok (.if_icmp .ge 26, 3) := by decide +kernel
theorem dX3_readHandlers_38 : decode cX3_readHandlers 38 = .ok (.aload_n 0, 1) := by decide +kernel
theorem dX3_readHandlers_39 : decode cX3_readHandlers 39 = .ok (.getfield 46, 3) := by decide +kernel
theorem dX3_readHandlers_42 : decode cX3_readHandlers 42 = .ok (.iconst (-1), 1) := by decide +kernel
theorem dX3_readHandlers_43 : decode cX3_readHandlers 43 = .ok (.if_icmp .ne 18, 3) := by decide +kernel
theorem dX3_readHandlers_46 : decode cX3_readHandlers 46 = .ok (.aload_n 0, 1) := by decide +kernel
theorem dX3_readHandlers_47 : decode cX3_readHandlers 47 = .ok (.iconst 3, 1) := by decide +kernel
theorem dX3_readHandlers_48 : decode cX3_readHandlers 48 = .ok (.invokevirtual 164, 3) := by decide +kernel
theorem dX3_readHandlers_51 : decode cX3_readHandlers 51 = .ok (.aload_n 0, 1) := by decide +kernel
theorem dX3_readHandlers_52 : decode cX3_readHandlers 52 = .ok (.invokevirtual 167, 3) := by decide +kernel
theorem dX3_readHandlers_55 : decode cX3_readHandlers 55 = .ok (.iinc 3 1, 3) := by decide +kernel
theorem dX3_readHandlers_58 : decode cX3_readHandlers 58 = .ok (.goto (-25), 3) := by decide +kernel
theorem dX3_readHandlers_61 : decode cX3_readHandlers 61 = .ok (.return_, 1) := by decide +kernel
theorem dX3_readFrames_0 : decode cX3_readFrames 0 = .ok (.aload_n 0, 1) := by decide +kernel
theorem dX3_readFrames_1 : decode cX3_readFrames 1 = .ok (.iconst 0, 1) := by decide +kernel
theorem dX3_readFrames_2 : decode cX3_readFrames 2 = .ok (.bipush 100, 2) := by decide +kernel
theorem dX3_readFrames_4 : decode cX3_readFrames 4 = .ok (.invokevirtual 71, 3) := by decide +kernel
theorem dX3_readFrames_7 : decode cX3_readFrames 7 = .ok (.istore_n 2, 1) := by decide +kernel
theorem dX3_readFrames_8 : decode cX3_readFrames 8 = .ok (.aload_n 0, 1) := by decide +kernel
theorem dX3_readFrames_9 : decode cX3_readFrames 9 = .ok (.getfield 30, 3) := by decide +kernel
theorem dX3_readFrames_12 : decode cX3_readFrames 12 = .ok (.iload_n 1, 1) := by decide +kernel
theorem dX3_readFrames_13 : decode cX3_readFrames 13 = .ok (.bipush 9, 2) := by decide +kernel
theorem dX3_readFrames_15 : decode cX3_readFrames 15 = .ok (.iadd, 1) := by decide +kernel
theorem dX3_readFrames_16 : decode cX3_readFrames 16 = .ok (.iload_n 2, 1) := by decide +kernel
theorem dX3_readFrames_17 : decode cX3_readFrames 17 = .ok (.iastore, 1) := by decide +kernel
theorem dX3_readFrames_18 : decode cX3_readFrames 18 = .ok (.aload_n 0, 1) := by decide +kernel
theorem dX3_readFrames_19 : decode cX3_readFrames 19 = .ok (.getfield 30, 3) := by decide +kernel
theorem dX3_readFrames_22 : decode cX3_readFrames 22 = .ok (.iload_n 1, 1) := by decide +kernel
theorem dX3_readFrames_23 : decode cX3_readFrames 23 = .ok (.bipush 10, 2) := by decide +kernel
theorem dX3_readFrames_25 : decode cX3_readFrames 25 = .ok (.iadd, 1) := by decide +kernel
theorem dX3_readFrames_26 : decode cX3_readFrames 26 = .ok (.aload_n 0, 1) := by decide +kernel
theorem dX3_readFrames_27 : decode cX3_readFrames 27 = .ok (.getfield 43, 3) := by decide +kernel
theorem dX3_readFrames_30 : decode cX3_readFrames 30 = .ok (.iastore, 1) := by decide +kernel
theorem dX3_readFrames_31 : decode cX3_readFrames 31 = .ok (.iconst 0, 1) := by decide +kernel
theorem dX3_readFrames_32 : decode cX3_readFrames 32 = .ok (.istore_n 3, 1) := by decide +kernel
theorem dX3_readFrames_33 : decode cX3_readFrames 33 = .ok (.iload_n 3, 1) := by decide +kernel
theorem dX3_readFrames_34 : decode cX3_readFrames 34 = .ok (.iload_n 2, 1) := by decide +kernel
theorem dX3_readFrames_35 : decode cX3_readFrames 35 = .ok (.if_icmp .ge 30, 3) := by decide +kernel
theorem dX3_readFrames_38 : decode cX3_readFrames 38 = .ok (.aload_n 0, 1) := by decide +kernel
theorem dX3_readFrames_39 : decode cX3_readFrames 39 = .ok (.getfield 46, 3) := by decide +kernel
theorem dX3_readFrames_42 : decode cX3_readFrames 42 = .ok (.iconst (-1), 1) := by decide +kernel
theorem dX3_readFrames_43 : decode cX3_readFrames 43 = .ok (.if_icmp .ne 22, 3) := by decide +kernel
theorem dX3_readFrames_46 : decode cX3_readFrames 46 = .ok (.aload_n 0, 1) := by decide +kernel
theorem dX3_readFrames_47 : decode cX3_readFrames 47 = .ok (.iconst 1, 1) := by decide +kernel
theorem dX3_readFrames_48 : decode cX3_readFrames 48 = .ok (.invokevirtual 164, 3) := by decide +kernel
theorem dX3_readFrames_51 : decode cX3_readFrames 51 = .ok (.aload_n 0, 1) := by decide +kernel
theorem dX3_readFrames_52 : decode cX3_readFrames 52 = .ok (.invokevirtual 170, 3) := by decide +kernel
theorem dX3_readFrames_55 : decode cX3_readFrames 55 = .ok (.aload_n 0, 1) := by decide +kernel
theorem dX3_readFrames_56 : decode cX3_readFrames 56 = .ok (.invokevirtual 170, 3) := by decide +kernel
theorem dX3_readFrames_59 : decode cX3_readFrames 59 = .ok (.iinc 3 1, 3) := by decide +kernel
theorem dX3_readFrames_62 : decode cX3_readFrames 62 = .ok (.goto (-29), 3) := by decide +kernel
theorem dX3_readFrames_65 : decode cX3_readFrames 65 = .ok (.return_, 1) := by decide +kernel
theorem dX3_readFrameTypes_0 : decode cX3_readFrameTypes 0 = .ok (.aload_n 0, 1) := by decide +kernel
theorem dX3_readFrameTypes_1 : decode cX3_readFrameTypes 1 = .ok (.invokevirtual 87, 3) := by decide +kernel
theorem dX3_readFrameTypes_4 : decode cX3_readFrameTypes 4 = .ok (.istore_n 1, 1) := by decide +kernel
theorem dX3_readFrameTypes_5 : decode cX3_readFrameTypes 5 = .ok (.iconst 0, 1) := by decide +kernel
theorem dX3_readFrameTypes_6 : decode cX3_readFrameTypes 6 = .ok (.istore_n 2, 1) := by decide +kernel
theorem dX3_readFrameTypes_7 : decode cX3_readFrameTypes 7 = .ok (.iload_n 2, 1) := by decide +kernel
theorem dX3_readFrameTypes_8 : decode cX3_readFrameTypes 8 = .ok (.iload_n 1, 1) := by decide +kernel
theorem dX3_readFrameTypes_9 : decode cX3_readFrameTypes 9 = .ok (.if_icmp .ge 31, 3) := by decide +kernel
theorem dX3_readFrameTypes_12 : decode cX3_readFrameTypes 12 = .ok (.aload_n 0, 1) := by decide +kernel
theorem dX3_readFrameTypes_13 : decode cX3_readFrameTypes 13 = .ok (.getfield 46, 3) := by decide +kernel
theorem dX3_readFrameTypes_16 : decode cX3_readFrameTypes 16 = .ok (.iconst (-1), 1) := by decide +kernel
theorem dX3_readFrameTypes_17 : decode cX3_readFrameTypes 17 = .ok (.if_icmp .ne 23, 3) := by decide +kernel
theorem dX3_readFrameTypes_20 : decode cX3_readFrameTypes 20 = .ok (.aload_n 0, 1) := by decide +kernel
theorem dX3_readFrameTypes_21 : decode cX3_readFrameTypes 21 = .ok (.iconst 0, 1) := by decide +kernel
theorem dX3_readFrameTypes_22 : decode cX3_readFrameTypes 22 = .ok (.iconst 3, 1) := by decide +kernel
theorem dX3_readFrameTypes_23 : decode cX3_readFrameTypes 23 = .ok (.invokevirtual 71, 3) := by decide +kernel
theorem dX3_readFrameTypes_26 : decode cX3_readFrameTypes 26 = .ok (.iconst 3, 1) := by decide +kernel
theorem dX3_readFrameTypes_27 : decode cX3_readFrameTypes 27 = .ok (.if_icmp .ne 7, 3) := by decide +kernel
theorem dX3_readFrameTypes_30 : decode cX3_readFrameTypes 30 = .ok (.aload_n 0, 1) := by decide +kernel
theorem dX3_readFrameTypes_31 : decode cX3_readFrameTypes 31 = .ok (.invokevirtual 167, 3) := by decide +kernel
theorem dX3_readFrameTypes_34 : decode cX3_readFrameTypes 34 = .ok (.iinc 2 1, 3) := by decide +kernel
theorem dX3_readFrameTypes_37 : decode cX3_readFrameTypes 37 = .ok (.goto (-30), 3) := by decide +kernel
theorem dX3_readFrameTypes_40 : decode cX3_readFrameTypes 40 = .ok (.return_, 1) := by decide +kernel
theorem dX3_of_0 : decode cX3_of 0 = .ok (.iload_n 1, 1) := by decide +kernel
theorem dX3_of_1 : decode cX3_of 1 = .ok (.bipush 12, 2) := by decide +kernel
theorem dX3_of_3 : decode cX3_of 3 = .ok (.imul, 1) := by decide +kernel
theorem dX3_of_4 : decode cX3_of 4 = .ok (.iload_n 2, 1) := by decide +kernel
theorem dX3_of_5 : decode cX3_of 5 = .ok (.iadd, 1) := by decide +kernel
theorem dX3_of_6 : decode cX3_of 6 = .ok (.istore_n 3, 1) := by decide +kernel
theorem dX3_of_7 : decode cX3_of 7 = .ok (.iload_n 1, 1) := by decide +kernel
theorem dX3_of_8 : decode cX3_of 8 = .ok (.ifCond .lt 29, 3) := by decide +kernel
theorem dX3_of_11 : decode cX3_of 11 = .ok (.iload_n 1, 1) := by decide +kernel
theorem dX3_of_12 : decode cX3_of 12 = .ok (.aload_n 0, 1) := by decide +kernel
theorem dX3_of_13 : decode cX3_of 13 = .ok (.getfield 52, 3) := by decide +kernel
theorem dX3_of_16 : decode cX3_of 16 = .ok (.if_icmp .ge 21, 3) := by decide +kernel
theorem dX3_of_19 : decode cX3_of 19 = .ok (.iload_n 3, 1) := by decide +kernel
theorem dX3_of_20 : decode cX3_of 20 = .ok (.aload_n 0, 1) := by decide +kernel
theorem dX3_of_21 : decode cX3_of 21 = .ok (.getfield 30, 3) := by decide +kernel
theorem dX3_of_24 : decode cX3_of 24 = .ok (.arraylength, 1) := by decide +kernel
theorem dX3_of_25 : decode cX3_of 25 = .ok (.if_icmp .ge 12, 3) := by decide +kernel
theorem dX3_of_28 : decode cX3_of 28 = .ok (.aload_n 0, 1) := by decide +kernel
theorem dX3_of_29 : decode cX3_of 29 = .ok (.getfield 30, 3) := by decide +kernel
theorem dX3_of_32 : decode cX3_of 32 = .ok (.iload_n 3, 1) := by decide +kernel
theorem dX3_of_33 : decode cX3_of 33 = .ok (.iaload, 1) := by decide +kernel
theorem dX3_of_34 : decode cX3_of 34 = .ok (.goto 4, 3) := by decide +kernel
theorem dX3_of_37 : decode cX3_of 37 = .ok (.iconst 0, 1) := by decide +kernel
theorem dX3_of_38 : decode cX3_of 38 = .ok (.ireturn, 1) := by decide +kernel
theorem dX4_fits_0 : decode cX4_fits 0 = .ok (.iload_n 1, 1) := by decide +kernel
theorem dX4_fits_1 : decode cX4_fits 1 = .ok (.iload_n 2, 1) := by decide +kernel
theorem dX4_fits_2 : decode cX4_fits 2 = .ok (.if_icmp .ne 5, 3) := by decide +kernel
theorem dX4_fits_5 : decode cX4_fits 5 = .ok (.iconst 1, 1) := by decide +kernel
theorem dX4_fits_6 : decode cX4_fits 6 = .ok (.ireturn, 1) := by decide +kernel
theorem dX4_fits_7 : decode cX4_fits 7 = .ok (.iload_n 1, 1) := by decide +kernel
theorem dX4_fits_8 : decode cX4_fits 8 = .ok (.sipush 300, 3) := by decide +kernel
theorem dX4_fits_11 : decode cX4_fits 11 = .ok (.if_icmp .ne 20, 3) := by decide +kernel
theorem dX4_fits_14 : decode cX4_fits 14 = .ok (.iload_n 2, 1) := by decide +kernel
theorem dX4_fits_15 : decode cX4_fits 15 = .ok (.ifCond .lt 14, 3) := by decide +kernel
theorem dX4_fits_18 : decode cX4_fits 18 = .ok (.iload_n 2, 1) := by decide +kernel
theorem dX4_fits_19 : decode cX4_fits 19 = .ok (.sipush 200, 3) := by decide +kernel
theorem dX4_fits_22 : decode cX4_fits 22 = .ok (.if_icmp .gt 7, 3) := by decide +kernel
theorem dX4_fits_25 : decode cX4_fits 25 = .ok (.iconst 1, 1) := by decide +kernel
theorem dX4_fits_26 : decode cX4_fits 26 = .ok (.goto 4, 3) := by decide +kernel
theorem dX4_fits_29 : decode cX4_fits 29 = .ok (.iconst 0, 1) := by decide +kernel
theorem dX4_fits_30 : decode cX4_fits 30 = .ok (.ireturn, 1) := by decide +kernel
theorem dX4_fits_31 : decode cX4_fits 31 = .ok (.iload_n 1, 1) := by decide +kernel
theorem dX4_fits_32 : decode cX4_fits 32 = .ok (.ifCond .lt 39, 3) := by decide +kernel
theorem dX4_fits_35 : decode cX4_fits 35 = .ok (.iload_n 1, 1) := by decide +kernel
theorem dX4_fits_36 : decode cX4_fits 36 = .ok (.bipush 16, 2) := by decide +kernel
theorem dX4_fits_38 : decode cX4_fits 38 = .ok (.if_icmp .ge 33, 3) := by decide +kernel
theorem dX4_fits_41 : decode cX4_fits 41 = .ok (.iload_n 2, 1) := by decide +kernel
theorem dX4_fits_42 : decode cX4_fits 42 = .ok (.ifCond .lt 27, 3) := by decide +kernel
theorem dX4_fits_45 : decode cX4_fits 45 = .ok (.iload_n 2, 1) := by decide +kernel
theorem dX4_fits_46 : decode cX4_fits 46 = .ok (.bipush 16, 2) := by decide +kernel
theorem dX4_fits_48 : decode cX4_fits 48 = .ok (.if_icmp .ge 21, 3) := by decide +kernel
theorem dX4_fits_51 : decode cX4_fits 51 = .ok (.aload_n 0, 1) := by decide +kernel
theorem dX4_fits_52 : decode cX4_fits 52 = .ok (.getfield 15, 3) := by decide +kernel
theorem dX4_fits_55 : decode cX4_fits 55 = .ok (.iload_n 1, 1) := by decide +kernel
theorem dX4_fits_56 : decode cX4_fits 56 = .ok (.bipush 16, 2) := by decide +kernel
theorem dX4_fits_58 : decode cX4_fits 58 = .ok (.imul, 1) := by decide +kernel
theorem dX4_fits_59 : decode cX4_fits 59 = .ok (.iload_n 2, 1) := by decide +kernel
theorem dX4_fits_60 : decode cX4_fits 60 = .ok (.iadd, 1) := by decide +kernel
theorem dX4_fits_61 : decode cX4_fits 61 = .ok (.baload, 1) := by decide +kernel
theorem dX4_fits_62 : decode cX4_fits 62 = .ok (.ifCond .eq 7, 3) := by decide +kernel
theorem dX4_fits_65 : decode cX4_fits 65 = .ok (.iconst 1, 1) := by decide +kernel
theorem dX4_fits_66 : decode cX4_fits 66 = .ok (.goto 4, 3) := by decide +kernel
theorem dX4_fits_69 : decode cX4_fits 69 = .ok (.iconst 0, 1) := by decide +kernel
theorem dX4_fits_70 : decode cX4_fits 70 = .ok (.ireturn, 1) := by decide +kernel
theorem dX4_fits_71 : decode cX4_fits 71 = .ok (.iload_n 2, 1) := by decide +kernel
theorem dX4_fits_72 : decode cX4_fits 72 = .ok (.ifCond .ne 22, 3) := by decide +kernel
theorem dX4_fits_75 : decode cX4_fits 75 = .ok (.iload_n 1, 1) := by decide +kernel
theorem dX4_fits_76 : decode cX4_fits 76 = .ok (.bipush 100, 2) := by decide +kernel
theorem dX4_fits_78 : decode cX4_fits 78 = .ok (.if_icmp .lt 14, 3) := by decide +kernel
theorem dX4_fits_81 : decode cX4_fits 81 = .ok (.iload_n 1, 1) := by decide +kernel
theorem dX4_fits_82 : decode cX4_fits 82 = .ok (.sipush 200, 3) := by decide +kernel
theorem dX4_fits_85 : decode cX4_fits 85 = .ok (.if_icmp .gt 7, 3) := by decide +kernel
theorem dX4_fits_88 : decode cX4_fits 88 = .ok (.iconst 1, 1) := by decide +kernel
theorem dX4_fits_89 : decode cX4_fits 89 = .ok (.goto 4, 3) := by decide +kernel
theorem dX4_fits_92 : decode cX4_fits 92 = .ok (.iconst 0, 1) := by decide +kernel
theorem dX4_fits_93 : decode cX4_fits 93 = .ok (.ireturn, 1) := by decide +kernel
theorem dX4_fits_94 : decode cX4_fits 94 = .ok (.iload_n 1, 1) := by decide +kernel
theorem dX4_fits_95 : decode cX4_fits 95 = .ok (.bipush 100, 2) := by decide +kernel
theorem dX4_fits_97 : decode cX4_fits 97 = .ok (.if_icmp .lt 25, 3) := by decide +kernel
theorem dX4_fits_100 : decode cX4_fits 100 = .ok (.iload_n 1, 1) := by decide +kernel
theorem dX4_fits_101 : decode cX4_fits 101 = .ok (.bipush 116, 2) := by decide +kernel
theorem dX4_fits_103 : decode cX4_fits 103 = .ok (.if_icmp .ge 19, 3) := by decide +kernel
theorem dX4_fits_106 : decode cX4_fits 106 = .ok (.iload_n 2, 1) := by decide +kernel
theorem dX4_fits_107 : decode cX4_fits 107 = .ok (.bipush 100, 2) := by decide +kernel
theorem dX4_fits_109 : decode cX4_fits 109 = .ok (.if_icmp .lt 13, 3) := by decide +kernel
theorem dX4_fits_112 : decode cX4_fits 112 = .ok (.iload_n 2, 1) := by decide +kernel
theorem dX4_fits_113 : decode cX4_fits 113 = .ok (.bipush 116, 2) := by decide +kernel
theorem dX4_fits_115 : decode cX4_fits 115 = .ok (.if_icmp .ge 7, 3) := by decide +kernel
theorem dX4_fits_118 : decode cX4_fits 118 = .ok (.iconst 1, 1) := by decide +kernel
theorem dX4_fits_119 : decode cX4_fits 119 = .ok (.goto 4, 3) := by decide +kernel
theorem dX4_fits_122 : decode cX4_fits 122 = .ok (.iconst 0, 1) := by decide +kernel
theorem dX4_fits_123 : decode cX4_fits 123 = .ok (.istore_n 3, 1) := by decide +kernel
theorem dX4_fits_124 : decode cX4_fits 124 = .ok (.iload_n 3, 1) := by decide +kernel
theorem dX4_fits_125 : decode cX4_fits 125 = .ok (.ifCond .eq 27, 3) := by decide +kernel
theorem dX4_fits_128 : decode cX4_fits 128 = .ok (.aload_n 0, 1) := by decide +kernel
theorem dX4_fits_129 : decode cX4_fits 129 = .ok (.getfield 15, 3) := by decide +kernel
theorem dX4_fits_132 : decode cX4_fits 132 = .ok (.iload_n 1, 1) := by decide +kernel
theorem dX4_fits_133 : decode cX4_fits 133 = .ok (.bipush 100, 2) := by decide +kernel
theorem dX4_fits_135 : decode cX4_fits 135 = .ok (.isub, 1) := by decide +kernel
theorem dX4_fits_136 : decode cX4_fits 136 = .ok (.bipush 16, 2) := by decide +kernel
theorem dX4_fits_138 : decode cX4_fits 138 = .ok (.imul, 1) := by decide +kernel
theorem dX4_fits_139 : decode cX4_fits 139 = .ok (.iload_n 2, 1) := by decide +kernel
theorem dX4_fits_140 : decode cX4_fits 140 = .ok (.iadd, 1) := by decide +kernel
theorem dX4_fits_141 : decode cX4_fits 141 = .ok (.bipush 100, 2) := by decide +kernel
theorem dX4_fits_143 : decode cX4_fits 143 = .ok (.isub, 1) := by decide +kernel
theorem dX4_fits_144 : decode cX4_fits 144 = .ok (.baload, 1) := by decide +kernel
theorem dX4_fits_145 : decode cX4_fits 145 = .ok (.ifCond .eq 7, 3) := by decide +kernel
theorem dX4_fits_148 : decode cX4_fits 148 = .ok (.iconst 1, 1) := by decide +kernel
theorem dX4_fits_149 : decode cX4_fits 149 = .ok (.goto 4, 3) := by decide +kernel
theorem dX4_fits_152 : decode cX4_fits 152 = .ok (.iconst 0, 1) := by decide +kernel
theorem dX4_fits_153 : decode cX4_fits 153 = .ok (.ireturn, 1) := by decide +kernel
theorem dX4_oneFits_0 : decode cX4_oneFits 0 = .ok (.aload_n 0, 1) := by decide +kernel
theorem dX4_oneFits_1 : decode cX4_oneFits 1 = .ok (.iload_n 1, 1) := by decide +kernel
theorem dX4_oneFits_2 : decode cX4_oneFits 2 = .ok (.iload_n 2, 1) := by decide +kernel
theorem dX4_oneFits_3 : decode cX4_oneFits 3 = .ok (.invokevirtual 35, 3) := by decide +kernel
theorem dX4_oneFits_6 : decode cX4_oneFits 6 = .ok (.ifCond .ne 12, 3) := by decide +kernel
theorem dX4_oneFits_9 : decode cX4_oneFits 9 = .ok (.aload_n 0, 1) := by decide +kernel
theorem dX4_oneFits_10 : decode cX4_oneFits 10 = .ok (.iload_n 2, 1) := by decide +kernel
theorem dX4_oneFits_11 : decode cX4_oneFits 11 = .ok (.iload_n 1, 1) := by decide +kernel
theorem dX4_oneFits_12 : decode cX4_oneFits 12 = .ok (.invokevirtual 35, 3) := by decide +kernel
theorem dX4_oneFits_15 : decode cX4_oneFits 15 = .ok (.ifCond .eq 7, 3) := by decide +kernel
theorem dX4_oneFits_18 : decode cX4_oneFits 18 = .ok (.iconst 1, 1) := by decide +kernel
theorem dX4_oneFits_19 : decode cX4_oneFits 19 = .ok (.goto 4, 3) := by decide +kernel
theorem dX4_oneFits_22 : decode cX4_oneFits 22 = .ok (.iconst 0, 1) := by decide +kernel
theorem dX4_oneFits_23 : decode cX4_oneFits 23 = .ok (.ireturn, 1) := by decide +kernel
theorem dX5_push_0 : decode cX5_push 0 = .ok (.aload_n 0, 1) := by decide +kernel
theorem dX5_push_1 : decode cX5_push 1 = .ok (.getfield 32, 3) := by decide +kernel
theorem dX5_push_4 : decode cX5_push 4 = .ok (.aload_n 0, 1) := by decide +kernel
theorem dX5_push_5 : decode cX5_push 5 = .ok (.getfield 97, 3) := by decide +kernel
theorem dX5_push_8 : decode cX5_push 8 = .ok (.iaload, 1) := by decide +kernel
theorem dX5_push_9 : decode cX5_push 9 = .ok (.istore_n 2, 1) := by decide +kernel
theorem dX5_push_10 : decode cX5_push 10 = .ok (.iload_n 2, 1) := by decide +kernel
theorem dX5_push_11 : decode cX5_push 11 = .ok (.bipush 30, 2) := by decide +kernel
theorem dX5_push_13 : decode cX5_push 13 = .ok (.if_icmp .lt 10, 3) := by decide +kernel
theorem dX5_push_16 : decode cX5_push 16 = .ok (.aload_n 0, 1) := by decide +kernel
theorem dX5_push_17 : decode cX5_push 17 = .ok (.bipush 6, 2) := by decide +kernel
theorem dX5_push_19 : decode cX5_push 19 = .ok (.putfield 54, 3) := by decide +kernel
theorem dX5_push_22 : decode cX5_push 22 = .ok (.return_, 1) := by decide +kernel
theorem dX5_push_23 : decode cX5_push 23 = .ok (.aload_n 0, 1) := by decide +kernel
theorem dX5_push_24 : decode cX5_push 24 = .ok (.getfield 38, 3) := by decide +kernel
theorem dX5_push_27 : decode cX5_push 27 = .ok (.aload_n 0, 1) := by decide +kernel
theorem dX5_push_28 : decode cX5_push 28 = .ok (.getfield 97, 3) := by decide +kernel
theorem dX5_push_31 : decode cX5_push 31 = .ok (.bipush 30, 2) := by decide +kernel
theorem dX5_push_33 : decode cX5_push 33 = .ok (.imul, 1) := by decide +kernel
theorem dX5_push_34 : decode cX5_push 34 = .ok (.iload_n 2, 1) := by decide +kernel
theorem dX5_push_35 : decode cX5_push 35 = .ok (.iadd, 1) := by decide +kernel
theorem dX5_push_36 : decode cX5_push 36 = .ok (.iload_n 1, 1) := by decide +kernel
theorem dX5_push_37 : decode cX5_push 37 = .ok (.iastore, 1) := by decide +kernel
theorem dX5_push_38 : decode cX5_push 38 = .ok (.aload_n 0, 1) := by decide +kernel
theorem dX5_push_39 : decode cX5_push 39 = .ok (.getfield 32, 3) := by decide +kernel
theorem dX5_push_42 : decode cX5_push 42 = .ok (.aload_n 0, 1) := by decide +kernel
theorem dX5_push_43 : decode cX5_push 43 = .ok (.getfield 97, 3) := by decide +kernel
theorem dX5_push_46 : decode cX5_push 46 = .ok (.iload_n 2, 1) := by decide +kernel
theorem dX5_push_47 : decode cX5_push 47 = .ok (.iconst 1, 1) := by decide +kernel
theorem dX5_push_48 : decode cX5_push 48 = .ok (.iadd, 1) := by decide +kernel
theorem dX5_push_49 : decode cX5_push 49 = .ok (.iastore, 1) := by decide +kernel
theorem dX5_push_50 : decode cX5_push 50 = .ok (.return_, 1) := by decide +kernel
theorem dX5_pop_0 : decode cX5_pop 0 = .ok (.aload_n 0, 1) := by decide +kernel
theorem dX5_pop_1 : decode cX5_pop 1 = .ok (.getfield 32, 3) := by decide +kernel
theorem dX5_pop_4 : decode cX5_pop 4 = .ok (.aload_n 0, 1) := by decide +kernel
theorem dX5_pop_5 : decode cX5_pop 5 = .ok (.getfield 97, 3) := by decide +kernel
theorem dX5_pop_8 : decode cX5_pop 8 = .ok (.iaload, 1) := by decide +kernel
theorem dX5_pop_9 : decode cX5_pop 9 = .ok (.iconst 1, 1) := by decide +kernel
theorem dX5_pop_10 : decode cX5_pop 10 = .ok (.isub, 1) := by decide +kernel
theorem dX5_pop_11 : decode cX5_pop 11 = .ok (.istore_n 1, 1) := by decide +kernel
theorem dX5_pop_12 : decode cX5_pop 12 = .ok (.iload_n 1, 1) := by decide +kernel
theorem dX5_pop_13 : decode cX5_pop 13 = .ok (.ifCond .ge 11, 3) := by decide +kernel
theorem dX5_pop_16 : decode cX5_pop 16 = .ok (.aload_n 0, 1) := by decide +kernel
theorem dX5_pop_17 : decode cX5_pop 17 = .ok (.bipush 6, 2) := by decide +kernel
theorem dX5_pop_19 : decode cX5_pop 19 = .ok (.putfield 54, 3) := by decide +kernel
theorem dX5_pop_22 : decode cX5_pop 22 = .ok (.iconst 0, 1) := by decide +kernel
theorem dX5_pop_23 : decode cX5_pop 23 = .ok (.ireturn, 1) := by decide +kernel
theorem dX5_pop_24 : decode cX5_pop 24 = .ok (.aload_n 0, 1) := by decide +kernel
theorem dX5_pop_25 : decode cX5_pop 25 = .ok (.getfield 32, 3) := by decide +kernel
theorem dX5_pop_28 : decode cX5_pop 28 = .ok (.aload_n 0, 1) := by decide +kernel
theorem dX5_pop_29 : decode cX5_pop 29 = .ok (.getfield 97, 3) := by decide +kernel
theorem dX5_pop_32 : decode cX5_pop 32 = .ok (.iload_n 1, 1) := by decide +kernel
theorem dX5_pop_33 : decode cX5_pop 33 = .ok (.iastore, 1) := by decide +kernel
theorem dX5_pop_34 : decode cX5_pop 34 = .ok (.aload_n 0, 1) := by decide +kernel
theorem dX5_pop_35 : decode cX5_pop 35 = .ok (.getfield 38, 3) := by decide +kernel
theorem dX5_pop_38 : decode cX5_pop 38 = .ok (.aload_n 0, 1) := by decide +kernel
theorem dX5_pop_39 : decode cX5_pop 39 = .ok (.getfield 97, 3) := by decide +kernel
theorem dX5_pop_42 : decode cX5_pop 42 = .ok (.bipush 30, 2) := by decide +kernel
theorem dX5_pop_44 : decode cX5_pop 44 = .ok (.imul, 1) := by decide +kernel
theorem dX5_pop_45 : decode cX5_pop 45 = .ok (.iload_n 1, 1) := by decide +kernel
theorem dX5_pop_46 : decode cX5_pop 46 = .ok (.iadd, 1) := by decide +kernel
theorem dX5_pop_47 : decode cX5_pop 47 = .ok (.iaload, 1) := by decide +kernel
theorem dX5_pop_48 : decode cX5_pop 48 = .ok (.ireturn, 1) := by decide +kernel
theorem dX5_goOn_0 : decode cX5_goOn 0 = .ok (.aload_n 0, 1) := by decide +kernel
theorem dX5_goOn_1 : decode cX5_goOn 1 = .ok (.getfield 29, 3) := by decide +kernel
theorem dX5_goOn_4 : decode cX5_goOn 4 = .ok (.aload_n 0, 1) := by decide +kernel
theorem dX5_goOn_5 : decode cX5_goOn 5 = .ok (.getfield 97, 3) := by decide +kernel
theorem dX5_goOn_8 : decode cX5_goOn 8 = .ok (.dup2, 1) := by decide +kernel
theorem dX5_goOn_9 : decode cX5_goOn 9 = .ok (.iaload, 1) := by decide +kernel
theorem dX5_goOn_10 : decode cX5_goOn 10 = .ok (.iload_n 1, 1) := by decide +kernel
theorem dX5_goOn_11 : decode cX5_goOn 11 = .ok (.iadd, 1) := by decide +kernel
theorem dX5_goOn_12 : decode cX5_goOn 12 = .ok (.iastore, 1) := by decide +kernel
theorem dX5_goOn_13 : decode cX5_goOn 13 = .ok (.return_, 1) := by decide +kernel
theorem dX5_give_0 : decode cX5_give 0 = .ok (.aload_n 0, 1) := by decide +kernel
theorem dX5_give_1 : decode cX5_give 1 = .ok (.iload_n 1, 1) := by decide +kernel
theorem dX5_give_2 : decode cX5_give 2 = .ok (.invokevirtual 135, 3) := by decide +kernel
theorem dX5_give_5 : decode cX5_give 5 = .ok (.aload_n 0, 1) := by decide +kernel
theorem dX5_give_6 : decode cX5_give 6 = .ok (.iload_n 2, 1) := by decide +kernel
theorem dX5_give_7 : decode cX5_give 7 = .ok (.invokevirtual 138, 3) := by decide +kernel
theorem dX5_give_10 : decode cX5_give 10 = .ok (.return_, 1) := by decide +kernel
theorem dX5_stepLocal_0 : decode cX5_stepLocal 0 = .ok (.aload_n 0, 1) := by decide +kernel
theorem dX5_stepLocal_1 : decode cX5_stepLocal 1 = .ok (.getfield 97, 3) := by decide +kernel
theorem dX5_stepLocal_4 : decode cX5_stepLocal 4 = .ok (.bipush 30, 2) := by decide +kernel
theorem dX5_stepLocal_6 : decode cX5_stepLocal 6 = .ok (.imul, 1) := by decide +kernel
theorem dX5_stepLocal_7 : decode cX5_stepLocal 7 = .ok (.iload_n 2, 1) := by decide +kernel
theorem dX5_stepLocal_8 : decode cX5_stepLocal 8 = .ok (.iadd, 1) := by decide +kernel
theorem dX5_stepLocal_9 : decode cX5_stepLocal 9 = .ok (.istore_n 3, 1) := by decide +kernel
theorem dX5_stepLocal_10 : decode cX5_stepLocal 10 = .ok (.iload_n 2, 1) := by decide +kernel
theorem dX5_stepLocal_11 : decode cX5_stepLocal 11 = .ok (.bipush 30, 2) := by decide +kernel
theorem dX5_stepLocal_13 : decode cX5_stepLocal 13 = .ok (.if_icmp .lt 12, 3) := by decide +kernel
theorem dX5_stepLocal_16 : decode cX5_stepLocal 16 = .ok (.aload_n 0, 1) := by decide +kernel
theorem dX5_stepLocal_17 : decode cX5_stepLocal 17 = .ok (.bipush 6, 2) := by decide +kernel
theorem dX5_stepLocal_19 : decode cX5_stepLocal 19 = .ok (.putfield 54, 3) := by decide +kernel
theorem dX5_stepLocal_22 : decode cX5_stepLocal 22 = .ok (.goto 44, 3) := by decide +kernel
theorem dX5_stepLocal_25 : decode cX5_stepLocal 25 = .ok (.iload_n 1, 1) := by decide +kernel
theorem dX5_stepLocal_26 : decode cX5_stepLocal 26 = .ok (.bipush 21, 2) := by decide +kernel
theorem dX5_stepLocal_28 : decode cX5_stepLocal 28 = .ok (.if_icmp .eq 9, 3) := by decide +kernel
theorem dX5_stepLocal_31 : decode cX5_stepLocal 31 = .ok (.iload_n 1, 1) := by decide +kernel
theorem dX5_stepLocal_32 : decode cX5_stepLocal 32 = .ok (.bipush 25, 2) := by decide +kernel
theorem dX5_stepLocal_34 : decode cX5_stepLocal 34 = .ok (.if_icmp .ne 17, 3) := by decide +kernel
theorem dX5_stepLocal_37 : decode cX5_stepLocal 37 = .ok (.aload_n 0, 1) := by decide +kernel
theorem dX5_stepLocal_38 : decode cX5_stepLocal 38 = .ok (.aload_n 0, 1) := by decide +kernel
theorem dX5_stepLocal_39 : decode cX5_stepLocal 39 = .ok (.getfield 35, 3) := by decide +kernel
theorem dX5_stepLocal_42 : decode cX5_stepLocal 42 = .ok (.iload_n 3, 1) := by decide +kernel
theorem dX5_stepLocal_43 : decode cX5_stepLocal 43 = .ok (.iaload, 1) := by decide +kernel
theorem dX5_stepLocal_44 : decode cX5_stepLocal 44 = .ok (.iconst 2, 1) := by decide +kernel
theorem dX5_stepLocal_45 : decode cX5_stepLocal 45 = .ok (.invokevirtual 145, 3) := by decide +kernel
theorem dX5_stepLocal_48 : decode cX5_stepLocal 48 = .ok (.goto 18, 3) := by decide +kernel
theorem dX5_stepLocal_51 : decode cX5_stepLocal 51 = .ok (.aload_n 0, 1) := by decide +kernel
theorem dX5_stepLocal_52 : decode cX5_stepLocal 52 = .ok (.getfield 35, 3) := by decide +kernel
theorem dX5_stepLocal_55 : decode cX5_stepLocal 55 = .ok (.iload_n 3, 1) := by decide +kernel
theorem dX5_stepLocal_56 : decode cX5_stepLocal 56 = .ok (.aload_n 0, 1) := by decide +kernel
theorem dX5_stepLocal_57 : decode cX5_stepLocal 57 = .ok (.invokevirtual 154, 3) := by decide +kernel
theorem dX5_stepLocal_60 : decode cX5_stepLocal 60 = .ok (.iastore, 1) := by decide +kernel
theorem dX5_stepLocal_61 : decode cX5_stepLocal 61 = .ok (.aload_n 0, 1) := by decide +kernel
theorem dX5_stepLocal_62 : decode cX5_stepLocal 62 = .ok (.iconst 2, 1) := by decide +kernel
theorem dX5_stepLocal_63 : decode cX5_stepLocal 63 = .ok (.invokevirtual 138, 3) := by decide +kernel
theorem dX5_stepLocal_66 : decode cX5_stepLocal 66 = .ok (.return_, 1) := by decide +kernel
theorem dX5_stepJump_0 : decode cX5_stepJump 0 = .ok (.iconst 1, 1) := by decide +kernel
theorem dX5_stepJump_1 : decode cX5_stepJump 1 = .ok (.istore_n 3, 1) := by decide +kernel
theorem dX5_stepJump_2 : decode cX5_stepJump 2 = .ok (.iload_n 1, 1) := by decide +kernel
theorem dX5_stepJump_3 : decode cX5_stepJump 3 = .ok (.sipush 153, 3) := by decide +kernel
theorem dX5_stepJump_6 : decode cX5_stepJump 6 = .ok (.if_icmp .ne 19, 3) := by decide +kernel
theorem dX5_stepJump_9 : decode cX5_stepJump 9 = .ok (.aload_n 0, 1) := by decide +kernel
theorem dX5_stepJump_10 : decode cX5_stepJump 10 = .ok (.invokevirtual 154, 3) := by decide +kernel
theorem dX5_stepJump_13 : decode cX5_stepJump 13 = .ok (.ifCond .ne 7, 3) := by decide +kernel
theorem dX5_stepJump_16 : decode cX5_stepJump 16 = .ok (.iconst 1, 1) := by decide +kernel
theorem dX5_stepJump_17 : decode cX5_stepJump 17 = .ok (.goto 4, 3) := by decide +kernel
theorem dX5_stepJump_20 : decode cX5_stepJump 20 = .ok (.iconst 0, 1) := by decide +kernel
theorem dX5_stepJump_21 : decode cX5_stepJump 21 = .ok (.istore_n 3, 1) := by decide +kernel
theorem dX5_stepJump_22 : decode cX5_stepJump 22 = .ok (.goto 54, 3) := by decide +kernel
theorem dX5_stepJump_25 : decode cX5_stepJump 25 = .ok (.iload_n 1, 1) := by decide +kernel
theorem dX5_stepJump_26 : decode cX5_stepJump 26 = .ok (.sipush 154, 3) := by decide +kernel
theorem dX5_stepJump_29 : decode cX5_stepJump 29 = .ok (.if_icmp .ne 19, 3) := by decide +kernel
theorem dX5_stepJump_32 : decode cX5_stepJump 32 = .ok (.aload_n 0, 1) := by decide +kernel
theorem dX5_stepJump_33 : decode cX5_stepJump 33 = .ok (.invokevirtual 154, 3) := by decide +kernel
theorem dX5_stepJump_36 : decode cX5_stepJump 36 = .ok (.ifCond .eq 7, 3) := by decide +kernel
theorem dX5_stepJump_39 : decode cX5_stepJump 39 = .ok (.iconst 1, 1) := by decide +kernel
theorem dX5_stepJump_40 : decode cX5_stepJump 40 = .ok (.goto 4, 3) := by decide +kernel
theorem dX5_stepJump_43 : decode cX5_stepJump 43 = .ok (.iconst 0, 1) := by decide +kernel
theorem dX5_stepJump_44 : decode cX5_stepJump 44 = .ok (.istore_n 3, 1) := by decide +kernel
theorem dX5_stepJump_45 : decode cX5_stepJump 45 = .ok (.goto 31, 3) := by decide +kernel
theorem dX5_stepJump_48 : decode cX5_stepJump 48 = .ok (.iload_n 1, 1) := by decide +kernel
theorem dX5_stepJump_49 : decode cX5_stepJump 49 = .ok (.sipush 167, 3) := by decide +kernel
theorem dX5_stepJump_52 : decode cX5_stepJump 52 = .ok (.if_icmp .eq 24, 3) := by decide +kernel
theorem dX5_stepJump_55 : decode cX5_stepJump 55 = .ok (.aload_n 0, 1) := by decide +kernel
theorem dX5_stepJump_56 : decode cX5_stepJump 56 = .ok (.invokevirtual 154, 3) := by decide +kernel
theorem dX5_stepJump_59 : decode cX5_stepJump 59 = .ok (.istore 4, 2) := by decide +kernel
theorem dX5_stepJump_61 : decode cX5_stepJump 61 = .ok (.aload_n 0, 1) := by decide +kernel
theorem dX5_stepJump_62 : decode cX5_stepJump 62 = .ok (.invokevirtual 154, 3) := by decide +kernel
theorem dX5_stepJump_65 : decode cX5_stepJump 65 = .ok (.istore 5, 2) := by decide +kernel
theorem dX5_stepJump_67 : decode cX5_stepJump 67 = .ok (.iload_n 1, 1) := by decide +kernel
theorem dX5_stepJump_68 : decode cX5_stepJump 68 = .ok (.iload 5, 2) := by decide +kernel
theorem dX5_stepJump_70 : decode cX5_stepJump 70 = .ok (.iload 4, 2) := by decide +kernel
theorem dX5_stepJump_72 : decode cX5_stepJump 72 = .ok (.invokestatic 180, 3) := by decide +kernel
theorem dX5_stepJump_75 : decode cX5_stepJump 75 = .ok (.istore_n 3, 1) := by decide +kernel
theorem dX5_stepJump_76 : decode cX5_stepJump 76 = .ok (.aload_n 0, 1) := by decide +kernel
theorem dX5_stepJump_77 : decode cX5_stepJump 77 = .ok (.iload_n 3, 1) := by decide +kernel
theorem dX5_stepJump_78 : decode cX5_stepJump 78 = .ok (.ifCond .eq 22, 3) := by decide +kernel
theorem dX5_stepJump_81 : decode cX5_stepJump 81 = .ok (.aload_n 0, 1) := by decide +kernel
theorem dX5_stepJump_82 : decode cX5_stepJump 82 = .ok (.getfield 46, 3) := by decide +kernel
theorem dX5_stepJump_85 : decode cX5_stepJump 85 = .ok (.aload_n 0, 1) := by decide +kernel
theorem dX5_stepJump_86 : decode cX5_stepJump 86 = .ok (.getfield 129, 3) := by decide +kernel
theorem dX5_stepJump_89 : decode cX5_stepJump 89 = .ok (.iload_n 2, 1) := by decide +kernel
theorem dX5_stepJump_90 : decode cX5_stepJump 90 = .ok (.iadd, 1) := by decide +kernel
theorem dX5_stepJump_91 : decode cX5_stepJump 91 = .ok (.iconst 1, 1) := by decide +kernel
theorem dX5_stepJump_92 : decode cX5_stepJump 92 = .ok (.iadd, 1) := by decide +kernel
theorem dX5_stepJump_93 : decode cX5_stepJump 93 = .ok (.invokevirtual 184, 3) := by decide +kernel
theorem dX5_stepJump_96 : decode cX5_stepJump 96 = .ok (.i2s, 1) := by decide +kernel
theorem dX5_stepJump_97 : decode cX5_stepJump 97 = .ok (.goto 4, 3) := by decide +kernel
theorem dX5_stepJump_100 : decode cX5_stepJump 100 = .ok (.iconst 3, 1) := by decide +kernel
theorem dX5_stepJump_101 : decode cX5_stepJump 101 = .ok (.invokevirtual 138, 3) := by decide +kernel
theorem dX5_stepJump_104 : decode cX5_stepJump 104 = .ok (.return_, 1) := by decide +kernel
theorem dX5_compares_0 : decode cX5_compares 0 = .ok (.iload_n 0, 1) := by decide +kernel
theorem dX5_compares_1 : decode cX5_compares 1 = .ok (.tableswitch 102 159 166 #[47, 58, 69, 80, 91, 102, 47, 58], 47) := by decide +kernel
theorem dX5_compares_48 : decode cX5_compares 48 = .ok (.iload_n 1, 1) := by decide +kernel
theorem dX5_compares_49 : decode cX5_compares 49 = .ok (.iload_n 2, 1) := by decide +kernel
theorem dX5_compares_50 : decode cX5_compares 50 = .ok (.if_icmp .ne 7, 3) := by decide +kernel
theorem dX5_compares_53 : decode cX5_compares 53 = .ok (.iconst 1, 1) := by decide +kernel
theorem dX5_compares_54 : decode cX5_compares 54 = .ok (.goto 4, 3) := by decide +kernel
theorem dX5_compares_57 : decode cX5_compares 57 = .ok (.iconst 0, 1) := by decide +kernel
theorem dX5_compares_58 : decode cX5_compares 58 = .ok (.ireturn, 1) := by decide +kernel
theorem dX5_compares_59 : decode cX5_compares 59 = .ok (.iload_n 1, 1) := by decide +kernel
theorem dX5_compares_60 : decode cX5_compares 60 = .ok (.iload_n 2, 1) := by decide +kernel
theorem dX5_compares_61 : decode cX5_compares 61 = .ok (.if_icmp .eq 7, 3) := by decide +kernel
theorem dX5_compares_64 : decode cX5_compares 64 = .ok (.iconst 1, 1) := by decide +kernel
theorem dX5_compares_65 : decode cX5_compares 65 = .ok (.goto 4, 3) := by decide +kernel
theorem dX5_compares_68 : decode cX5_compares 68 = .ok (.iconst 0, 1) := by decide +kernel
theorem dX5_compares_69 : decode cX5_compares 69 = .ok (.ireturn, 1) := by decide +kernel
theorem dX5_compares_70 : decode cX5_compares 70 = .ok (.iload_n 1, 1) := by decide +kernel
theorem dX5_compares_71 : decode cX5_compares 71 = .ok (.iload_n 2, 1) := by decide +kernel
theorem dX5_compares_72 : decode cX5_compares 72 = .ok (.if_icmp .ge 7, 3) := by decide +kernel
theorem dX5_compares_75 : decode cX5_compares 75 = .ok (.iconst 1, 1) := by decide +kernel
theorem dX5_compares_76 : decode cX5_compares 76 = .ok (.goto 4, 3) := by decide +kernel
theorem dX5_compares_79 : decode cX5_compares 79 = .ok (.iconst 0, 1) := by decide +kernel
theorem dX5_compares_80 : decode cX5_compares 80 = .ok (.ireturn, 1) := by decide +kernel
theorem dX5_compares_81 : decode cX5_compares 81 = .ok (.iload_n 1, 1) := by decide +kernel
theorem dX5_compares_82 : decode cX5_compares 82 = .ok (.iload_n 2, 1) := by decide +kernel
theorem dX5_compares_83 : decode cX5_compares 83 = .ok (.if_icmp .lt 7, 3) := by decide +kernel
theorem dX5_compares_86 : decode cX5_compares 86 = .ok (.iconst 1, 1) := by decide +kernel
theorem dX5_compares_87 : decode cX5_compares 87 = .ok (.goto 4, 3) := by decide +kernel
theorem dX5_compares_90 : decode cX5_compares 90 = .ok (.iconst 0, 1) := by decide +kernel
theorem dX5_compares_91 : decode cX5_compares 91 = .ok (.ireturn, 1) := by decide +kernel
theorem dX5_compares_92 : decode cX5_compares 92 = .ok (.iload_n 1, 1) := by decide +kernel
theorem dX5_compares_93 : decode cX5_compares 93 = .ok (.iload_n 2, 1) := by decide +kernel
theorem dX5_compares_94 : decode cX5_compares 94 = .ok (.if_icmp .le 7, 3) := by decide +kernel
theorem dX5_compares_97 : decode cX5_compares 97 = .ok (.iconst 1, 1) := by decide +kernel
theorem dX5_compares_98 : decode cX5_compares 98 = .ok (.goto 4, 3) := by decide +kernel
theorem dX5_compares_101 : decode cX5_compares 101 = .ok (.iconst 0, 1) := by decide +kernel
theorem dX5_compares_102 : decode cX5_compares 102 = .ok (.ireturn, 1) := by decide +kernel
theorem dX5_compares_103 : decode cX5_compares 103 = .ok (.iload_n 1, 1) := by decide +kernel
theorem dX5_compares_104 : decode cX5_compares 104 = .ok (.iload_n 2, 1) := by decide +kernel
theorem dX5_compares_105 : decode cX5_compares 105 = .ok (.if_icmp .gt 7, 3) := by decide +kernel
theorem dX5_compares_108 : decode cX5_compares 108 = .ok (.iconst 1, 1) := by decide +kernel
theorem dX5_compares_109 : decode cX5_compares 109 = .ok (.goto 4, 3) := by decide +kernel
theorem dX5_compares_112 : decode cX5_compares 112 = .ok (.iconst 0, 1) := by decide +kernel
theorem dX5_compares_113 : decode cX5_compares 113 = .ok (.ireturn, 1) := by decide +kernel
theorem dX5_isObject_0 : decode cX5_isObject 0 = .ok (.iload_n 1, 1) := by decide +kernel
theorem dX5_isObject_1 : decode cX5_isObject 1 = .ok (.ifCond .le 22, 3) := by decide +kernel
theorem dX5_isObject_4 : decode cX5_isObject 4 = .ok (.iload_n 1, 1) := by decide +kernel
theorem dX5_isObject_5 : decode cX5_isObject 5 = .ok (.aload_n 0, 1) := by decide +kernel
theorem dX5_isObject_6 : decode cX5_isObject 6 = .ok (.getfield 60, 3) := by decide +kernel
theorem dX5_isObject_9 : decode cX5_isObject 9 = .ok (.if_icmp .gt 14, 3) := by decide +kernel
theorem dX5_isObject_12 : decode cX5_isObject 12 = .ok (.iload_n 1, 1) := by decide +kernel
theorem dX5_isObject_13 : decode cX5_isObject 13 = .ok (.sipush 2000, 3) := by decide +kernel
theorem dX5_isObject_16 : decode cX5_isObject 16 = .ok (.if_icmp .gt 7, 3) := by decide +kernel
theorem dX5_isObject_19 : decode cX5_isObject 19 = .ok (.iconst 1, 1) := by decide +kernel
theorem dX5_isObject_20 : decode cX5_isObject 20 = .ok (.goto 4, 3) := by decide +kernel
theorem dX5_isObject_23 : decode cX5_isObject 23 = .ok (.iconst 0, 1) := by decide +kernel
theorem dX5_isObject_24 : decode cX5_isObject 24 = .ok (.ireturn, 1) := by decide +kernel
theorem dX5_cellOf_0 : decode cX5_cellOf 0 = .ok (.aload_n 0, 1) := by decide +kernel
theorem dX5_cellOf_1 : decode cX5_cellOf 1 = .ok (.iload_n 1, 1) := by decide +kernel
theorem dX5_cellOf_2 : decode cX5_cellOf 2 = .ok (.invokevirtual 226, 3) := by decide +kernel
theorem dX5_cellOf_5 : decode cX5_cellOf 5 = .ok (.ifCond .ne 11, 3) := by decide +kernel
theorem dX5_cellOf_8 : decode cX5_cellOf 8 = .ok (.aload_n 0, 1) := by decide +kernel
theorem dX5_cellOf_9 : decode cX5_cellOf 9 = .ok (.bipush (-2), 2) := by decide +kernel
theorem dX5_cellOf_11 : decode cX5_cellOf 11 = .ok (.putfield 86, 3) := by decide +kernel
theorem dX5_cellOf_14 : decode cX5_cellOf 14 = .ok (.iconst (-1), 1) := by decide +kernel
theorem dX5_cellOf_15 : decode cX5_cellOf 15 = .ok (.ireturn, 1) := by decide +kernel
theorem dX5_cellOf_16 : decode cX5_cellOf 16 = .ok (.iload_n 2, 1) := by decide +kernel
theorem dX5_cellOf_17 : decode cX5_cellOf 17 = .ok (.ifCond .lt 22, 3) := by decide +kernel
theorem dX5_cellOf_20 : decode cX5_cellOf 20 = .ok (.iload_n 2, 1) := by decide +kernel
theorem dX5_cellOf_21 : decode cX5_cellOf 21 = .ok (.aload_n 0, 1) := by decide +kernel
theorem dX5_cellOf_22 : decode cX5_cellOf 22 = .ok (.getfield 20, 3) := by decide +kernel
theorem dX5_cellOf_25 : decode cX5_cellOf 25 = .ok (.iload_n 1, 1) := by decide +kernel
theorem dX5_cellOf_26 : decode cX5_cellOf 26 = .ok (.iconst 1, 1) := by decide +kernel
theorem dX5_cellOf_27 : decode cX5_cellOf 27 = .ok (.iadd, 1) := by decide +kernel
theorem dX5_cellOf_28 : decode cX5_cellOf 28 = .ok (.iaload, 1) := by decide +kernel
theorem dX5_cellOf_29 : decode cX5_cellOf 29 = .ok (.aload_n 0, 1) := by decide +kernel
theorem dX5_cellOf_30 : decode cX5_cellOf 30 = .ok (.getfield 20, 3) := by decide +kernel
theorem dX5_cellOf_33 : decode cX5_cellOf 33 = .ok (.iload_n 1, 1) := by decide +kernel
theorem dX5_cellOf_34 : decode cX5_cellOf 34 = .ok (.iaload, 1) := by decide +kernel
theorem dX5_cellOf_35 : decode cX5_cellOf 35 = .ok (.isub, 1) := by decide +kernel
theorem dX5_cellOf_36 : decode cX5_cellOf 36 = .ok (.if_icmp .lt 11, 3) := by decide +kernel
theorem dX5_cellOf_39 : decode cX5_cellOf 39 = .ok (.aload_n 0, 1) := by decide +kernel
theorem dX5_cellOf_40 : decode cX5_cellOf 40 = .ok (.bipush (-3), 2) := by decide +kernel
theorem dX5_cellOf_42 : decode cX5_cellOf 42 = .ok (.putfield 86, 3) := by decide +kernel
theorem dX5_cellOf_45 : decode cX5_cellOf 45 = .ok (.iconst (-1), 1) := by decide +kernel
theorem dX5_cellOf_46 : decode cX5_cellOf 46 = .ok (.ireturn, 1) := by decide +kernel
theorem dX5_cellOf_47 : decode cX5_cellOf 47 = .ok (.aload_n 0, 1) := by decide +kernel
theorem dX5_cellOf_48 : decode cX5_cellOf 48 = .ok (.getfield 20, 3) := by decide +kernel
theorem dX5_cellOf_51 : decode cX5_cellOf 51 = .ok (.iload_n 1, 1) := by decide +kernel
theorem dX5_cellOf_52 : decode cX5_cellOf 52 = .ok (.iaload, 1) := by decide +kernel
theorem dX5_cellOf_53 : decode cX5_cellOf 53 = .ok (.iload_n 2, 1) := by decide +kernel
theorem dX5_cellOf_54 : decode cX5_cellOf 54 = .ok (.iadd, 1) := by decide +kernel
theorem dX5_cellOf_55 : decode cX5_cellOf 55 = .ok (.ireturn, 1) := by decide +kernel
theorem dX5_stepElement_0 : decode cX5_stepElement 0 = .ok (.aload_n 0, 1) := by decide +kernel
theorem dX5_stepElement_1 : decode cX5_stepElement 1 = .ok (.invokevirtual 154, 3) := by decide +kernel
theorem dX5_stepElement_4 : decode cX5_stepElement 4 = .ok (.istore_n 1, 1) := by decide +kernel
theorem dX5_stepElement_5 : decode cX5_stepElement 5 = .ok (.aload_n 0, 1) := by decide +kernel
theorem dX5_stepElement_6 : decode cX5_stepElement 6 = .ok (.invokevirtual 154, 3) := by decide +kernel
theorem dX5_stepElement_9 : decode cX5_stepElement 9 = .ok (.istore_n 2, 1) := by decide +kernel
theorem dX5_stepElement_10 : decode cX5_stepElement 10 = .ok (.aload_n 0, 1) := by decide +kernel
theorem dX5_stepElement_11 : decode cX5_stepElement 11 = .ok (.iload_n 2, 1) := by decide +kernel
theorem dX5_stepElement_12 : decode cX5_stepElement 12 = .ok (.iload_n 1, 1) := by decide +kernel
theorem dX5_stepElement_13 : decode cX5_stepElement 13 = .ok (.invokevirtual 229, 3) := by decide +kernel
theorem dX5_stepElement_16 : decode cX5_stepElement 16 = .ok (.istore_n 3, 1) := by decide +kernel
theorem dX5_stepElement_17 : decode cX5_stepElement 17 = .ok (.iload_n 3, 1) := by decide +kernel
theorem dX5_stepElement_18 : decode cX5_stepElement 18 = .ok (.ifCond .lt 21, 3) := by decide +kernel
theorem dX5_stepElement_21 : decode cX5_stepElement 21 = .ok (.iload_n 3, 1) := by decide +kernel
theorem dX5_stepElement_22 : decode cX5_stepElement 22 = .ok (.sipush 20000, 3) := by decide +kernel
theorem dX5_stepElement_25 : decode cX5_stepElement 25 = .ok (.if_icmp .ge 14, 3) := by decide +kernel
theorem dX5_stepElement_28 : decode cX5_stepElement 28 = .ok (.aload_n 0, 1) := by decide +kernel
theorem dX5_stepElement_29 : decode cX5_stepElement 29 = .ok (.aload_n 0, 1) := by decide +kernel
theorem dX5_stepElement_30 : decode cX5_stepElement 30 = .ok (.getfield 23, 3) := by decide +kernel
theorem dX5_stepElement_33 : decode cX5_stepElement 33 = .ok (.iload_n 3, 1) := by decide +kernel
theorem dX5_stepElement_34 : decode cX5_stepElement 34 = .ok (.iaload, 1) := by decide +kernel
theorem dX5_stepElement_35 : decode cX5_stepElement 35 = .ok (.iconst 1, 1) := by decide +kernel
theorem dX5_stepElement_36 : decode cX5_stepElement 36 = .ok (.invokevirtual 145, 3) := by decide +kernel
theorem dX5_stepElement_39 : decode cX5_stepElement 39 = .ok (.return_, 1) := by decide +kernel
theorem dX5_stepGiveElement_0 : decode cX5_stepGiveElement 0 = .ok (.aload_n 0, 1) := by decide +kernel
theorem dX5_stepGiveElement_1 : decode cX5_stepGiveElement 1 = .ok (.invokevirtual 154, 3) := by decide +kernel
theorem dX5_stepGiveElement_4 : decode cX5_stepGiveElement 4 = .ok (.istore_n 2, 1) := by decide +kernel
theorem dX5_stepGiveElement_5 : decode cX5_stepGiveElement 5 = .ok (.aload_n 0, 1) := by decide +kernel
theorem dX5_stepGiveElement_6 : decode cX5_stepGiveElement 6 = .ok (.invokevirtual 154, 3) := by decide +kernel
theorem dX5_stepGiveElement_9 : decode cX5_stepGiveElement 9 = .ok (.istore_n 3, 1) := by decide +kernel
theorem dX5_stepGiveElement_10 : decode cX5_stepGiveElement 10 = .ok (.aload_n 0, 1) := by decide +kernel
theorem dX5_stepGiveElement_11 : decode cX5_stepGiveElement 11 = .ok (.invokevirtual 154, 3) := by decide +kernel
theorem dX5_stepGiveElement_14 : decode cX5_stepGiveElement 14 = .ok (.istore 4, 2) := by decide +kernel
theorem dX5_stepGiveElement_16 : decode cX5_stepGiveElement 16 = .ok (.aload_n 0, 1) := by decide +kernel
theorem dX5_stepGiveElement_17 : decode cX5_stepGiveElement 17 = .ok (.iload 4, 2) := by decide +kernel
theorem dX5_stepGiveElement_19 : decode cX5_stepGiveElement 19 = .ok (.iload_n 3, 1) := by decide +kernel
theorem dX5_stepGiveElement_20 : decode cX5_stepGiveElement 20 = .ok (.invokevirtual 229, 3) := by decide +kernel
theorem dX5_stepGiveElement_23 : decode cX5_stepGiveElement 23 = .ok (.istore 5, 2) := by decide +kernel
theorem dX5_stepGiveElement_25 : decode cX5_stepGiveElement 25 = .ok (.iload 5, 2) := by decide +kernel
theorem dX5_stepGiveElement_27 : decode cX5_stepGiveElement 27 = .ok (.ifCond .lt 11, 3) := by decide +kernel
theorem dX5_stepGiveElement_30 : decode cX5_stepGiveElement 30 = .ok (.iload 5, 2) := by decide +kernel
theorem dX5_stepGiveElement_32 : decode cX5_stepGiveElement 32 = .ok (.sipush 20000, 3) := by decide +kernel
theorem dX5_stepGiveElement_35 : decode cX5_stepGiveElement 35 = .ok (.if_icmp .lt 4, 3) := by decide +kernel
theorem dX5_stepGiveElement_38 : decode cX5_stepGiveElement 38 = .ok (.return_, 1) := by decide +kernel
theorem dX5_stepGiveElement_39 : decode cX5_stepGiveElement 39 = .ok (.iload_n 1, 1) := by decide +kernel
theorem dX5_stepGiveElement_40 : decode cX5_stepGiveElement 40 = .ok (.bipush 83, 2) := by decide +kernel
theorem dX5_stepGiveElement_42 : decode cX5_stepGiveElement 42 = .ok (.if_icmp .ne 47, 3) := by decide +kernel
theorem dX5_stepGiveElement_45 : decode cX5_stepGiveElement 45 = .ok (.aload_n 0, 1) := by decide +kernel
theorem dX5_stepGiveElement_46 : decode cX5_stepGiveElement 46 = .ok (.iload_n 2, 1) := by decide +kernel
theorem dX5_stepGiveElement_47 : decode cX5_stepGiveElement 47 = .ok (.invokevirtual 226, 3) := by decide +kernel
theorem dX5_stepGiveElement_50 : decode cX5_stepGiveElement 50 = .ok (.ifCond .eq 39, 3) := by decide +kernel
theorem dX5_stepGiveElement_53 : decode cX5_stepGiveElement 53 = .ok (.aload_n 0, 1) := by decide +kernel
theorem dX5_stepGiveElement_54 : decode cX5_stepGiveElement 54 = .ok (.getfield 41, 3) := by decide +kernel
theorem dX5_stepGiveElement_57 : decode cX5_stepGiveElement 57 = .ok (.getfield 232, 3) := by decide +kernel
theorem dX5_stepGiveElement_60 : decode cX5_stepGiveElement 60 = .ok (.aload_n 0, 1) := by decide +kernel
theorem dX5_stepGiveElement_61 : decode cX5_stepGiveElement 61 = .ok (.getfield 17, 3) := by decide +kernel
theorem dX5_stepGiveElement_64 : decode cX5_stepGiveElement 64 = .ok (.iload_n 2, 1) := by decide +kernel
theorem dX5_stepGiveElement_65 : decode cX5_stepGiveElement 65 = .ok (.iaload, 1) := by decide +kernel
theorem dX5_stepGiveElement_66 : decode cX5_stepGiveElement 66 = .ok (.aload_n 0, 1) := by decide +kernel
theorem dX5_stepGiveElement_67 : decode cX5_stepGiveElement 67 = .ok (.getfield 17, 3) := by decide +kernel
theorem dX5_stepGiveElement_70 : decode cX5_stepGiveElement 70 = .ok (.iload 4, 2) := by decide +kernel
theorem dX5_stepGiveElement_72 : decode cX5_stepGiveElement 72 = .ok (.iaload, 1) := by decide +kernel
theorem dX5_stepGiveElement_73 : decode cX5_stepGiveElement 73 = .ok (.invokestatic 236, 3) := by decide +kernel
theorem dX5_stepGiveElement_76 : decode cX5_stepGiveElement 76 = .ok (.invokevirtual 239, 3) := by decide +kernel
theorem dX5_stepGiveElement_79 : decode cX5_stepGiveElement 79 = .ok (.ifCond .ne 10, 3) := by decide +kernel
theorem dX5_stepGiveElement_82 : decode cX5_stepGiveElement 82 = .ok (.aload_n 0, 1) := by decide +kernel
theorem dX5_stepGiveElement_83 : decode cX5_stepGiveElement 83 = .ok (.bipush (-7), 2) := by decide +kernel
theorem dX5_stepGiveElement_85 : decode cX5_stepGiveElement 85 = .ok (.putfield 86, 3) := by decide +kernel
theorem dX5_stepGiveElement_88 : decode cX5_stepGiveElement 88 = .ok (.return_, 1) := by decide +kernel
theorem dX5_stepGiveElement_89 : decode cX5_stepGiveElement 89 = .ok (.aload_n 0, 1) := by decide +kernel
theorem dX5_stepGiveElement_90 : decode cX5_stepGiveElement 90 = .ok (.getfield 23, 3) := by decide +kernel
theorem dX5_stepGiveElement_93 : decode cX5_stepGiveElement 93 = .ok (.iload 5, 2) := by decide +kernel
theorem dX5_stepGiveElement_95 : decode cX5_stepGiveElement 95 = .ok (.iload_n 2, 1) := by decide +kernel
theorem dX5_stepGiveElement_96 : decode cX5_stepGiveElement 96 = .ok (.iastore, 1) := by decide +kernel
theorem dX5_stepGiveElement_97 : decode cX5_stepGiveElement 97 = .ok (.aload_n 0, 1) := by decide +kernel
theorem dX5_stepGiveElement_98 : decode cX5_stepGiveElement 98 = .ok (.iconst 1, 1) := by decide +kernel
theorem dX5_stepGiveElement_99 : decode cX5_stepGiveElement 99 = .ok (.invokevirtual 138, 3) := by decide +kernel
theorem dX5_stepGiveElement_102 : decode cX5_stepGiveElement 102 = .ok (.return_, 1) := by decide +kernel
theorem dX5_fieldCell_0 : decode cX5_fieldCell 0 = .ok (.aload_n 0, 1) := by decide +kernel
theorem dX5_fieldCell_1 : decode cX5_fieldCell 1 = .ok (.iload_n 1, 1) := by decide +kernel
theorem dX5_fieldCell_2 : decode cX5_fieldCell 2 = .ok (.invokevirtual 226, 3) := by decide +kernel
theorem dX5_fieldCell_5 : decode cX5_fieldCell 5 = .ok (.ifCond .eq 14, 3) := by decide +kernel
theorem dX5_fieldCell_8 : decode cX5_fieldCell 8 = .ok (.aload_n 0, 1) := by decide +kernel
theorem dX5_fieldCell_9 : decode cX5_fieldCell 9 = .ok (.getfield 20, 3) := by decide +kernel
theorem dX5_fieldCell_12 : decode cX5_fieldCell 12 = .ok (.iload_n 1, 1) := by decide +kernel
theorem dX5_fieldCell_13 : decode cX5_fieldCell 13 = .ok (.iaload, 1) := by decide +kernel
theorem dX5_fieldCell_14 : decode cX5_fieldCell 14 = .ok (.iload_n 2, 1) := by decide +kernel
theorem dX5_fieldCell_15 : decode cX5_fieldCell 15 = .ok (.iadd, 1) := by decide +kernel
theorem dX5_fieldCell_16 : decode cX5_fieldCell 16 = .ok (.goto 4, 3) := by decide +kernel
theorem dX5_fieldCell_19 : decode cX5_fieldCell 19 = .ok (.iconst (-1), 1) := by decide +kernel
theorem dX5_fieldCell_20 : decode cX5_fieldCell 20 = .ok (.istore_n 3, 1) := by decide +kernel
theorem dX5_fieldCell_21 : decode cX5_fieldCell 21 = .ok (.iload_n 2, 1) := by decide +kernel
theorem dX5_fieldCell_22 : decode cX5_fieldCell 22 = .ok (.ifCond .lt 14, 3) := by decide +kernel
theorem dX5_fieldCell_25 : decode cX5_fieldCell 25 = .ok (.iload_n 3, 1) := by decide +kernel
theorem dX5_fieldCell_26 : decode cX5_fieldCell 26 = .ok (.sipush 20000, 3) := by decide +kernel
theorem dX5_fieldCell_29 : decode cX5_fieldCell 29 = .ok (.if_icmp .ge 7, 3) := by decide +kernel
theorem dX5_fieldCell_32 : decode cX5_fieldCell 32 = .ok (.iload_n 3, 1) := by decide +kernel
theorem dX5_fieldCell_33 : decode cX5_fieldCell 33 = .ok (.goto 4, 3) := by decide +kernel
theorem dX5_fieldCell_36 : decode cX5_fieldCell 36 = .ok (.iconst (-1), 1) := by decide +kernel
theorem dX5_fieldCell_37 : decode cX5_fieldCell 37 = .ok (.ireturn, 1) := by decide +kernel
theorem dX5_stepPrint_0 : decode cX5_stepPrint 0 = .ok (.aload_n 0, 1) := by decide +kernel
theorem dX5_stepPrint_1 : decode cX5_stepPrint 1 = .ok (.invokevirtual 154, 3) := by decide +kernel
theorem dX5_stepPrint_4 : decode cX5_stepPrint 4 = .ok (.istore_n 1, 1) := by decide +kernel
theorem dX5_stepPrint_5 : decode cX5_stepPrint 5 = .ok (.aload_n 0, 1) := by decide +kernel
theorem dX5_stepPrint_6 : decode cX5_stepPrint 6 = .ok (.getfield 69, 3) := by decide +kernel
theorem dX5_stepPrint_9 : decode cX5_stepPrint 9 = .ok (.sipush 1000, 3) := by decide +kernel
theorem dX5_stepPrint_12 : decode cX5_stepPrint 12 = .ok (.if_icmp .ge 13, 3) := by decide +kernel
theorem dX5_stepPrint_15 : decode cX5_stepPrint 15 = .ok (.aload_n 0, 1) := by decide +kernel
theorem dX5_stepPrint_16 : decode cX5_stepPrint 16 = .ok (.getfield 13, 3) := by decide +kernel
theorem dX5_stepPrint_19 : decode cX5_stepPrint 19 = .ok (.aload_n 0, 1) := by decide +kernel
theorem dX5_stepPrint_20 : decode cX5_stepPrint 20 = .ok (.getfield 69, 3) := by decide +kernel
theorem dX5_stepPrint_23 : decode cX5_stepPrint 23 = .ok (.iload_n 1, 1) := by decide +kernel
theorem dX5_stepPrint_24 : decode cX5_stepPrint 24 = .ok (.iastore, 1) := by decide +kernel
theorem dX5_stepPrint_25 : decode cX5_stepPrint 25 = .ok (.aload_n 0, 1) := by decide +kernel
theorem dX5_stepPrint_26 : decode cX5_stepPrint 26 = .ok (.dup, 1) := by decide +kernel
theorem dX5_stepPrint_27 : decode cX5_stepPrint 27 = .ok (.getfield 69, 3) := by decide +kernel
theorem dX5_stepPrint_30 : decode cX5_stepPrint 30 = .ok (.iconst 1, 1) := by decide +kernel
theorem dX5_stepPrint_31 : decode cX5_stepPrint 31 = .ok (.iadd, 1) := by decide +kernel
theorem dX5_stepPrint_32 : decode cX5_stepPrint 32 = .ok (.putfield 69, 3) := by decide +kernel
theorem dX5_stepPrint_35 : decode cX5_stepPrint 35 = .ok (.aload_n 0, 1) := by decide +kernel
theorem dX5_stepPrint_36 : decode cX5_stepPrint 36 = .ok (.iconst 1, 1) := by decide +kernel
theorem dX5_stepPrint_37 : decode cX5_stepPrint 37 = .ok (.invokevirtual 138, 3) := by decide +kernel
theorem dX5_stepPrint_40 : decode cX5_stepPrint 40 = .ok (.return_, 1) := by decide +kernel
theorem dX5_stepLength_0 : decode cX5_stepLength 0 = .ok (.aload_n 0, 1) := by decide +kernel
theorem dX5_stepLength_1 : decode cX5_stepLength 1 = .ok (.invokevirtual 154, 3) := by decide +kernel
theorem dX5_stepLength_4 : decode cX5_stepLength 4 = .ok (.istore_n 1, 1) := by decide +kernel
theorem dX5_stepLength_5 : decode cX5_stepLength 5 = .ok (.aload_n 0, 1) := by decide +kernel
theorem dX5_stepLength_6 : decode cX5_stepLength 6 = .ok (.iload_n 1, 1) := by decide +kernel
theorem dX5_stepLength_7 : decode cX5_stepLength 7 = .ok (.invokevirtual 226, 3) := by decide +kernel
theorem dX5_stepLength_10 : decode cX5_stepLength 10 = .ok (.ifCond .eq 26, 3) := by decide +kernel
theorem dX5_stepLength_13 : decode cX5_stepLength 13 = .ok (.aload_n 0, 1) := by decide +kernel
theorem dX5_stepLength_14 : decode cX5_stepLength 14 = .ok (.aload_n 0, 1) := by decide +kernel
theorem dX5_stepLength_15 : decode cX5_stepLength 15 = .ok (.getfield 20, 3) := by decide +kernel
theorem dX5_stepLength_18 : decode cX5_stepLength 18 = .ok (.iload_n 1, 1) := by decide +kernel
theorem dX5_stepLength_19 : decode cX5_stepLength 19 = .ok (.iconst 1, 1) := by decide +kernel
theorem dX5_stepLength_20 : decode cX5_stepLength 20 = .ok (.iadd, 1) := by decide +kernel
theorem dX5_stepLength_21 : decode cX5_stepLength 21 = .ok (.iaload, 1) := by decide +kernel
theorem dX5_stepLength_22 : decode cX5_stepLength 22 = .ok (.aload_n 0, 1) := by decide +kernel
theorem dX5_stepLength_23 : decode cX5_stepLength 23 = .ok (.getfield 20, 3) := by decide +kernel
theorem dX5_stepLength_26 : decode cX5_stepLength 26 = .ok (.iload_n 1, 1) := by decide +kernel
theorem dX5_stepLength_27 : decode cX5_stepLength 27 = .ok (.iaload, 1) := by decide +kernel
theorem dX5_stepLength_28 : decode cX5_stepLength 28 = .ok (.isub, 1) := by decide +kernel
theorem dX5_stepLength_29 : decode cX5_stepLength 29 = .ok (.iconst 1, 1) := by decide +kernel
theorem dX5_stepLength_30 : decode cX5_stepLength 30 = .ok (.invokevirtual 145, 3) := by decide +kernel
theorem dX5_stepLength_33 : decode cX5_stepLength 33 = .ok (.goto 9, 3) := by decide +kernel
theorem dX5_stepLength_36 : decode cX5_stepLength 36 = .ok (.aload_n 0, 1) := by decide +kernel
theorem dX5_stepLength_37 : decode cX5_stepLength 37 = .ok (.bipush (-2), 2) := by decide +kernel
theorem dX5_stepLength_39 : decode cX5_stepLength 39 = .ok (.putfield 86, 3) := by decide +kernel
theorem dX5_stepLength_42 : decode cX5_stepLength 42 = .ok (.return_, 1) := by decide +kernel
theorem dX5_stepKin_0 : decode cX5_stepKin 0 = .ok (.aload_n 0, 1) := by decide +kernel
theorem dX5_stepKin_1 : decode cX5_stepKin 1 = .ok (.invokevirtual 154, 3) := by decide +kernel
theorem dX5_stepKin_4 : decode cX5_stepKin 4 = .ok (.istore_n 3, 1) := by decide +kernel
theorem dX5_stepKin_5 : decode cX5_stepKin 5 = .ok (.aload_n 0, 1) := by decide +kernel
theorem dX5_stepKin_6 : decode cX5_stepKin 6 = .ok (.iload_n 3, 1) := by decide +kernel
theorem dX5_stepKin_7 : decode cX5_stepKin 7 = .ok (.invokevirtual 226, 3) := by decide +kernel
theorem dX5_stepKin_10 : decode cX5_stepKin 10 = .ok (.ifCond .eq 27, 3) := by decide +kernel
theorem dX5_stepKin_13 : decode cX5_stepKin 13 = .ok (.aload_n 0, 1) := by decide +kernel
theorem dX5_stepKin_14 : decode cX5_stepKin 14 = .ok (.getfield 41, 3) := by decide +kernel
theorem dX5_stepKin_17 : decode cX5_stepKin 17 = .ok (.getfield 232, 3) := by decide +kernel
theorem dX5_stepKin_20 : decode cX5_stepKin 20 = .ok (.aload_n 0, 1) := by decide +kernel
theorem dX5_stepKin_21 : decode cX5_stepKin 21 = .ok (.getfield 17, 3) := by decide +kernel
theorem dX5_stepKin_24 : decode cX5_stepKin 24 = .ok (.iload_n 3, 1) := by decide +kernel
theorem dX5_stepKin_25 : decode cX5_stepKin 25 = .ok (.iaload, 1) := by decide +kernel
theorem dX5_stepKin_26 : decode cX5_stepKin 26 = .ok (.iload_n 2, 1) := by decide +kernel
theorem dX5_stepKin_27 : decode cX5_stepKin 27 = .ok (.invokevirtual 239, 3) := by decide +kernel
theorem dX5_stepKin_30 : decode cX5_stepKin 30 = .ok (.ifCond .eq 7, 3) := by decide +kernel
theorem dX5_stepKin_33 : decode cX5_stepKin 33 = .ok (.iconst 1, 1) := by decide +kernel
theorem dX5_stepKin_34 : decode cX5_stepKin 34 = .ok (.goto 4, 3) := by decide +kernel
theorem dX5_stepKin_37 : decode cX5_stepKin 37 = .ok (.iconst 0, 1) := by decide +kernel
theorem dX5_stepKin_38 : decode cX5_stepKin 38 = .ok (.istore 4, 2) := by decide +kernel
theorem dX5_stepKin_40 : decode cX5_stepKin 40 = .ok (.iload_n 1, 1) := by decide +kernel
theorem dX5_stepKin_41 : decode cX5_stepKin 41 = .ok (.sipush 193, 3) := by decide +kernel
theorem dX5_stepKin_44 : decode cX5_stepKin 44 = .ok (.if_icmp .ne 21, 3) := by decide +kernel
theorem dX5_stepKin_47 : decode cX5_stepKin 47 = .ok (.aload_n 0, 1) := by decide +kernel
theorem dX5_stepKin_48 : decode cX5_stepKin 48 = .ok (.iload 4, 2) := by decide +kernel
theorem dX5_stepKin_50 : decode cX5_stepKin 50 = .ok (.ifCond .eq 7, 3) := by decide +kernel
theorem dX5_stepKin_53 : decode cX5_stepKin 53 = .ok (.iconst 1, 1) := by decide +kernel
theorem dX5_stepKin_54 : decode cX5_stepKin 54 = .ok (.goto 4, 3) := by decide +kernel
theorem dX5_stepKin_57 : decode cX5_stepKin 57 = .ok (.iconst 0, 1) := by decide +kernel
theorem dX5_stepKin_58 : decode cX5_stepKin 58 = .ok (.iconst 2, 1) := by decide +kernel
theorem dX5_stepKin_59 : decode cX5_stepKin 59 = .ok (.invokevirtual 145, 3) := by decide +kernel
theorem dX5_stepKin_62 : decode cX5_stepKin 62 = .ok (.goto 27, 3) := by decide +kernel
theorem dX5_stepKin_65 : decode cX5_stepKin 65 = .ok (.iload_n 3, 1) := by decide +kernel
theorem dX5_stepKin_66 : decode cX5_stepKin 66 = .ok (.ifCond .eq 8, 3) := by decide +kernel
theorem dX5_stepKin_69 : decode cX5_stepKin 69 = .ok (.iload 4, 2) := by decide +kernel
theorem dX5_stepKin_71 : decode cX5_stepKin 71 = .ok (.ifCond .eq 12, 3) := by decide +kernel
theorem dX5_stepKin_74 : decode cX5_stepKin 74 = .ok (.aload_n 0, 1) := by decide +kernel
theorem dX5_stepKin_75 : decode cX5_stepKin 75 = .ok (.iload_n 3, 1) := by decide +kernel
theorem dX5_stepKin_76 : decode cX5_stepKin 76 = .ok (.iconst 2, 1) := by decide +kernel
theorem dX5_stepKin_77 : decode cX5_stepKin 77 = .ok (.invokevirtual 145, 3) := by decide +kernel
theorem dX5_stepKin_80 : decode cX5_stepKin 80 = .ok (.goto 9, 3) := by decide +kernel
theorem dX5_stepKin_83 : decode cX5_stepKin 83 = .ok (.aload_n 0, 1) := by decide +kernel
theorem dX5_stepKin_84 : decode cX5_stepKin 84 = .ok (.bipush (-5), 2) := by decide +kernel
theorem dX5_stepKin_86 : decode cX5_stepKin 86 = .ok (.putfield 86, 3) := by decide +kernel
theorem dX5_stepKin_89 : decode cX5_stepKin 89 = .ok (.return_, 1) := by decide +kernel
theorem dX5_stepThrow_0 : decode cX5_stepThrow 0 = .ok (.aload_n 0, 1) := by decide +kernel
theorem dX5_stepThrow_1 : decode cX5_stepThrow 1 = .ok (.invokevirtual 154, 3) := by decide +kernel
theorem dX5_stepThrow_4 : decode cX5_stepThrow 4 = .ok (.istore_n 1, 1) := by decide +kernel
theorem dX5_stepThrow_5 : decode cX5_stepThrow 5 = .ok (.aload_n 0, 1) := by decide +kernel
theorem dX5_stepThrow_6 : decode cX5_stepThrow 6 = .ok (.iload_n 1, 1) := by decide +kernel
theorem dX5_stepThrow_7 : decode cX5_stepThrow 7 = .ok (.ifCond .ne 8, 3) := by decide +kernel
theorem dX5_stepThrow_10 : decode cX5_stepThrow 10 = .ok (.bipush (-2), 2) := by decide +kernel
theorem dX5_stepThrow_12 : decode cX5_stepThrow 12 = .ok (.goto 4, 3) := by decide +kernel
theorem dX5_stepThrow_15 : decode cX5_stepThrow 15 = .ok (.iload_n 1, 1) := by decide +kernel
theorem dX5_stepThrow_16 : decode cX5_stepThrow 16 = .ok (.putfield 86, 3) := by decide +kernel
theorem dX5_stepThrow_19 : decode cX5_stepThrow 19 = .ok (.return_, 1) := by decide +kernel
theorem dX11_tellNumber_0 : decode cX11_tellNumber 0 = .ok (.aload_n 0, 1) := by decide +kernel
theorem dX11_tellNumber_1 : decode cX11_tellNumber 1 = .ok (.iload_n 2, 1) := by decide +kernel
theorem dX11_tellNumber_2 : decode cX11_tellNumber 2 = .ok (.putfield 11, 3) := by decide +kernel
theorem dX11_tellNumber_5 : decode cX11_tellNumber 5 = .ok (.aload_n 0, 1) := by decide +kernel
theorem dX11_tellNumber_6 : decode cX11_tellNumber 6 = .ok (.iload_n 3, 1) := by decide +kernel
theorem dX11_tellNumber_7 : decode cX11_tellNumber 7 = .ok (.putfield 17, 3) := by decide +kernel
theorem dX11_tellNumber_10 : decode cX11_tellNumber 10 = .ok (.aload_n 0, 1) := by decide +kernel
theorem dX11_tellNumber_11 : decode cX11_tellNumber 11 = .ok (.iload 4, 2) := by decide +kernel
theorem dX11_tellNumber_13 : decode cX11_tellNumber 13 = .ok (.putfield 20, 3) := by decide +kernel
theorem dX11_tellNumber_16 : decode cX11_tellNumber 16 = .ok (.iload_n 1, 1) := by decide +kernel
theorem dX11_tellNumber_17 : decode cX11_tellNumber 17 = .ok (.ireturn, 1) := by decide +kernel
theorem dX11_at_0 : decode cX11_at 0 = .ok (.aload_n 0, 1) := by decide +kernel
theorem dX11_at_1 : decode cX11_at 1 = .ok (.iload_n 2, 1) := by decide +kernel
theorem dX11_at_2 : decode cX11_at 2 = .ok (.putfield 129, 3) := by decide +kernel
theorem dX11_at_5 : decode cX11_at 5 = .ok (.iload_n 1, 1) := by decide +kernel
theorem dX11_at_6 : decode cX11_at 6 = .ok (.ireturn, 1) := by decide +kernel
theorem dX11_info_0 : decode cX11_info 0 = .ok (.aload_n 0, 1) := by decide +kernel
theorem dX11_info_1 : decode cX11_info 1 = .ok (.getfield 62, 3) := by decide +kernel
theorem dX11_info_4 : decode cX11_info 4 = .ok (.aload_n 0, 1) := by decide +kernel
theorem dX11_info_5 : decode cX11_info 5 = .ok (.getfield 103, 3) := by decide +kernel
theorem dX11_info_8 : decode cX11_info 8 = .ok (.iload_n 1, 1) := by decide +kernel
theorem dX11_info_9 : decode cX11_info 9 = .ok (.invokevirtual 146, 3) := by decide +kernel
theorem dX11_info_12 : decode cX11_info 12 = .ok (.ireturn, 1) := by decide +kernel
theorem dX11_codeAt_0 : decode cX11_codeAt 0 = .ok (.aload_n 0, 1) := by decide +kernel
theorem dX11_codeAt_1 : decode cX11_codeAt 1 = .ok (.getfield 62, 3) := by decide +kernel
theorem dX11_codeAt_4 : decode cX11_codeAt 4 = .ok (.aload_n 0, 1) := by decide +kernel
theorem dX11_codeAt_5 : decode cX11_codeAt 5 = .ok (.bipush 6, 2) := by decide +kernel
theorem dX11_codeAt_7 : decode cX11_codeAt 7 = .ok (.invokevirtual 189, 3) := by decide +kernel
theorem dX11_codeAt_10 : decode cX11_codeAt 10 = .ok (.iload_n 1, 1) := by decide +kernel
theorem dX11_codeAt_11 : decode cX11_codeAt 11 = .ok (.iadd, 1) := by decide +kernel
theorem dX11_codeAt_12 : decode cX11_codeAt 12 = .ok (.invokevirtual 183, 3) := by decide +kernel
theorem dX11_codeAt_15 : decode cX11_codeAt 15 = .ok (.ireturn, 1) := by decide +kernel
theorem dX11_aimOf_0 : decode cX11_aimOf 0 = .ok (.iload_n 1, 1) := by decide +kernel
theorem dX11_aimOf_1 : decode cX11_aimOf 1 = .ok (.aload_n 0, 1) := by decide +kernel
theorem dX11_aimOf_2 : decode cX11_aimOf 2 = .ok (.iload_n 1, 1) := by decide +kernel
theorem dX11_aimOf_3 : decode cX11_aimOf 3 = .ok (.iconst 1, 1) := by decide +kernel
theorem dX11_aimOf_4 : decode cX11_aimOf 4 = .ok (.iadd, 1) := by decide +kernel
theorem dX11_aimOf_5 : decode cX11_aimOf 5 = .ok (.invokevirtual 192, 3) := by decide +kernel
theorem dX11_aimOf_8 : decode cX11_aimOf 8 = .ok (.bipush 8, 2) := by decide +kernel
theorem dX11_aimOf_10 : decode cX11_aimOf 10 = .ok (.ishl, 1) := by decide +kernel
theorem dX11_aimOf_11 : decode cX11_aimOf 11 = .ok (.aload_n 0, 1) := by decide +kernel
theorem dX11_aimOf_12 : decode cX11_aimOf 12 = .ok (.iload_n 1, 1) := by decide +kernel
theorem dX11_aimOf_13 : decode cX11_aimOf 13 = .ok (.iconst 2, 1) := by decide +kernel
theorem dX11_aimOf_14 : decode cX11_aimOf 14 = .ok (.iadd, 1) := by decide +kernel
theorem dX11_aimOf_15 : decode cX11_aimOf 15 = .ok (.invokevirtual 192, 3) := by decide +kernel
theorem dX11_aimOf_18 : decode cX11_aimOf 18 = .ok (.ior, 1) := by decide +kernel
theorem dX11_aimOf_19 : decode cX11_aimOf 19 = .ok (.i2s, 1) := by decide +kernel
theorem dX11_aimOf_20 : decode cX11_aimOf 20 = .ok (.iadd, 1) := by decide +kernel
theorem dX11_aimOf_21 : decode cX11_aimOf 21 = .ok (.ireturn, 1) := by decide +kernel
theorem dX11_widthOf_0 : decode cX11_widthOf 0 = .ok (.iload_n 0, 1) := by decide +kernel
theorem dX11_widthOf_1 : decode cX11_widthOf 1 = .ok (.bipush 8, 2) := by decide +kernel
theorem dX11_widthOf_3 : decode cX11_widthOf 3 = .ok (.if_icmp .le 10, 3) := by decide +kernel
theorem dX11_widthOf_6 : decode cX11_widthOf 6 = .ok (.iload_n 0, 1) := by decide +kernel
theorem dX11_widthOf_7 : decode cX11_widthOf 7 = .ok (.invokestatic 195, 3) := by decide +kernel
theorem dX11_widthOf_10 : decode cX11_widthOf 10 = .ok (.ifCond .eq 5, 3) := by decide +kernel
theorem dX11_widthOf_13 : decode cX11_widthOf 13 = .ok (.iconst 1, 1) := by decide +kernel
theorem dX11_widthOf_14 : decode cX11_widthOf 14 = .ok (.ireturn, 1) := by decide +kernel
theorem dX11_widthOf_15 : decode cX11_widthOf 15 = .ok (.iload_n 0, 1) := by decide +kernel
theorem dX11_widthOf_16 : decode cX11_widthOf 16 = .ok (.invokestatic 198, 3) := by decide +kernel
theorem dX11_widthOf_19 : decode cX11_widthOf 19 = .ok (.ifCond .eq 5, 3) := by decide +kernel
theorem dX11_widthOf_22 : decode cX11_widthOf 22 = .ok (.iconst 3, 1) := by decide +kernel
theorem dX11_widthOf_23 : decode cX11_widthOf 23 = .ok (.ireturn, 1) := by decide +kernel
theorem dX11_widthOf_24 : decode cX11_widthOf 24 = .ok (.iload_n 0, 1) := by decide +kernel
theorem dX11_widthOf_25 : decode cX11_widthOf 25 = .ok (.lookupswitch 133 #[(16, 131), (18, 131), (21, 131), (25, 131), (54, 131), (58, 131), (180, 131), (181, 131), (182, 131), (184, 131), (187, 131), (188, 131), (189, 131), (192, 131), (193, 131)], 131) := by decide +kernel
theorem dX11_widthOf_156 : decode cX11_widthOf 156 = .ok (.iconst 2, 1) := by decide +kernel
theorem dX11_widthOf_157 : decode cX11_widthOf 157 = .ok (.ireturn, 1) := by decide +kernel
theorem dX11_widthOf_158 : decode cX11_widthOf 158 = .ok (.iconst 0, 1) := by decide +kernel
theorem dX11_widthOf_159 : decode cX11_widthOf 159 = .ok (.ireturn, 1) := by decide +kernel
theorem dX11_isArithmetic_0 : decode cX11_isArithmetic 0 = .ok (.iload_n 0, 1) := by decide +kernel
theorem dX11_isArithmetic_1 : decode cX11_isArithmetic 1 = .ok (.tableswitch 157 96 130 #[155, 157, 157, 157, 155, 157, 157, 157, 155, 157, 157, 157, 155, 157, 157, 157, 155, 157, 157, 157, 157, 157, 157, 157, 155, 157, 155, 157, 155, 157, 155, 157, 155, 157, 155], 155) := by decide +kernel
theorem dX11_isArithmetic_156 : decode cX11_isArithmetic 156 = .ok (.iconst 1, 1) := by decide +kernel
theorem dX11_isArithmetic_157 : decode cX11_isArithmetic 157 = .ok (.ireturn, 1) := by decide +kernel
theorem dX11_isArithmetic_158 : decode cX11_isArithmetic 158 = .ok (.iconst 0, 1) := by decide +kernel
theorem dX11_isArithmetic_159 : decode cX11_isArithmetic 159 = .ok (.ireturn, 1) := by decide +kernel
theorem dX11_isBare_0 : decode cX11_isBare 0 = .ok (.iload_n 0, 1) := by decide +kernel
theorem dX11_isBare_1 : decode cX11_isBare 1 = .ok (.lookupswitch 117 #[(46, 115), (50, 115), (79, 115), (83, 115), (87, 115), (89, 115), (116, 115), (172, 115), (176, 115), (177, 115), (186, 115), (190, 115), (191, 115)], 115) := by decide +kernel
theorem dX11_isBare_116 : decode cX11_isBare 116 = .ok (.iconst 1, 1) := by decide +kernel
theorem dX11_isBare_117 : decode cX11_isBare 117 = .ok (.ireturn, 1) := by decide +kernel
theorem dX11_isBare_118 : decode cX11_isBare 118 = .ok (.iload_n 0, 1) := by decide +kernel
theorem dX11_isBare_119 : decode cX11_isBare 119 = .ok (.invokestatic 201, 3) := by decide +kernel
theorem dX11_isBare_122 : decode cX11_isBare 122 = .ok (.ireturn, 1) := by decide +kernel
theorem dX11_begins_0 : decode cX11_begins 0 = .ok (.iload_n 1, 1) := by decide +kernel
theorem dX11_begins_1 : decode cX11_begins 1 = .ok (.ifCond .lt 26, 3) := by decide +kernel
theorem dX11_begins_4 : decode cX11_begins 4 = .ok (.iload_n 1, 1) := by decide +kernel
theorem dX11_begins_5 : decode cX11_begins 5 = .ok (.aload_n 0, 1) := by decide +kernel
theorem dX11_begins_6 : decode cX11_begins 6 = .ok (.getfield 209, 3) := by decide +kernel
theorem dX11_begins_9 : decode cX11_begins 9 = .ok (.if_icmp .ge 18, 3) := by decide +kernel
theorem dX11_begins_12 : decode cX11_begins 12 = .ok (.aload_n 0, 1) := by decide +kernel
theorem dX11_begins_13 : decode cX11_begins 13 = .ok (.getfield 38, 3) := by decide +kernel
theorem dX11_begins_16 : decode cX11_begins 16 = .ok (.iload_n 1, 1) := by decide +kernel
theorem dX11_begins_17 : decode cX11_begins 17 = .ok (.iaload, 1) := by decide +kernel
theorem dX11_begins_18 : decode cX11_begins 18 = .ok (.bipush (-2), 2) := by decide +kernel
theorem dX11_begins_20 : decode cX11_begins 20 = .ok (.if_icmp .eq 7, 3) := by decide +kernel
theorem dX11_begins_23 : decode cX11_begins 23 = .ok (.iconst 1, 1) := by decide +kernel
theorem dX11_begins_24 : decode cX11_begins 24 = .ok (.goto 4, 3) := by decide +kernel
theorem dX11_begins_27 : decode cX11_begins 27 = .ok (.iconst 0, 1) := by decide +kernel
theorem dX11_begins_28 : decode cX11_begins 28 = .ok (.ireturn, 1) := by decide +kernel
theorem dX11_frameAt_0 : decode cX11_frameAt 0 = .ok (.aload_n 0, 1) := by decide +kernel
theorem dX11_frameAt_1 : decode cX11_frameAt 1 = .ok (.iload_n 1, 1) := by decide +kernel
theorem dX11_frameAt_2 : decode cX11_frameAt 2 = .ok (.invokevirtual 224, 3) := by decide +kernel
theorem dX11_frameAt_5 : decode cX11_frameAt 5 = .ok (.ifCond .eq 12, 3) := by decide +kernel
theorem dX11_frameAt_8 : decode cX11_frameAt 8 = .ok (.aload_n 0, 1) := by decide +kernel
theorem dX11_frameAt_9 : decode cX11_frameAt 9 = .ok (.getfield 38, 3) := by decide +kernel
theorem dX11_frameAt_12 : decode cX11_frameAt 12 = .ok (.iload_n 1, 1) := by decide +kernel
theorem dX11_frameAt_13 : decode cX11_frameAt 13 = .ok (.iaload, 1) := by decide +kernel
theorem dX11_frameAt_14 : decode cX11_frameAt 14 = .ok (.goto 4, 3) := by decide +kernel
theorem dX11_frameAt_17 : decode cX11_frameAt 17 = .ok (.iconst (-1), 1) := by decide +kernel
theorem dX11_frameAt_18 : decode cX11_frameAt 18 = .ok (.ireturn, 1) := by decide +kernel
theorem dX11_proveJumps_0 : decode cX11_proveJumps 0 = .ok (.iconst 0, 1) := by decide +kernel
theorem dX11_proveJumps_1 : decode cX11_proveJumps 1 = .ok (.istore_n 1, 1) := by decide +kernel
theorem dX11_proveJumps_2 : decode cX11_proveJumps 2 = .ok (.iload_n 1, 1) := by decide +kernel
theorem dX11_proveJumps_3 : decode cX11_proveJumps 3 = .ok (.aload_n 0, 1) := by decide +kernel
theorem dX11_proveJumps_4 : decode cX11_proveJumps 4 = .ok (.getfield 209, 3) := by decide +kernel
theorem dX11_proveJumps_7 : decode cX11_proveJumps 7 = .ok (.if_icmp .ge 48, 3) := by decide +kernel
theorem dX11_proveJumps_10 : decode cX11_proveJumps 10 = .ok (.aload_n 0, 1) := by decide +kernel
theorem dX11_proveJumps_11 : decode cX11_proveJumps 11 = .ok (.iload_n 1, 1) := by decide +kernel
theorem dX11_proveJumps_12 : decode cX11_proveJumps 12 = .ok (.invokevirtual 224, 3) := by decide +kernel
theorem dX11_proveJumps_15 : decode cX11_proveJumps 15 = .ok (.ifCond .eq 34, 3) := by decide +kernel
theorem dX11_proveJumps_18 : decode cX11_proveJumps 18 = .ok (.aload_n 0, 1) := by decide +kernel
theorem dX11_proveJumps_19 : decode cX11_proveJumps 19 = .ok (.iload_n 1, 1) := by decide +kernel
theorem dX11_proveJumps_20 : decode cX11_proveJumps 20 = .ok (.invokevirtual 192, 3) := by decide +kernel
theorem dX11_proveJumps_23 : decode cX11_proveJumps 23 = .ok (.invokestatic 198, 3) := by decide +kernel
theorem dX11_proveJumps_26 : decode cX11_proveJumps 26 = .ok (.ifCond .eq 23, 3) := by decide +kernel
theorem dX11_proveJumps_29 : decode cX11_proveJumps 29 = .ok (.aload_n 0, 1) := by decide +kernel
theorem dX11_proveJumps_30 : decode cX11_proveJumps 30 = .ok (.aload_n 0, 1) := by decide +kernel
theorem dX11_proveJumps_31 : decode cX11_proveJumps 31 = .ok (.iload_n 1, 1) := by decide +kernel
theorem dX11_proveJumps_32 : decode cX11_proveJumps 32 = .ok (.invokevirtual 227, 3) := by decide +kernel
theorem dX11_proveJumps_35 : decode cX11_proveJumps 35 = .ok (.invokevirtual 224, 3) := by decide +kernel
theorem dX11_proveJumps_38 : decode cX11_proveJumps 38 = .ok (.ifCond .ne 11, 3) := by decide +kernel
theorem dX11_proveJumps_41 : decode cX11_proveJumps 41 = .ok (.aload_n 0, 1) := by decide +kernel
theorem dX11_proveJumps_42 : decode cX11_proveJumps 42 = .ok (.bipush 7, 2) := by decide +kernel
theorem dX11_proveJumps_44 : decode cX11_proveJumps 44 = .ok (.iload_n 1, 1) := by decide +kernel
theorem dX11_proveJumps_45 : decode cX11_proveJumps 45 = .ok (.invokevirtual 221, 3) := by decide +kernel
theorem dX11_proveJumps_48 : decode cX11_proveJumps 48 = .ok (.ireturn, 1) := by decide +kernel
theorem dX11_proveJumps_49 : decode cX11_proveJumps 49 = .ok (.iinc 1 1, 3) := by decide +kernel
theorem dX11_proveJumps_52 : decode cX11_proveJumps 52 = .ok (.goto (-50), 3) := by decide +kernel
theorem dX11_proveJumps_55 : decode cX11_proveJumps 55 = .ok (.iconst 0, 1) := by decide +kernel
theorem dX11_proveJumps_56 : decode cX11_proveJumps 56 = .ok (.ireturn, 1) := by decide +kernel
theorem dX11_takeFrames_0 : decode cX11_takeFrames 0 = .ok (.aload_n 0, 1) := by decide +kernel
theorem dX11_takeFrames_1 : decode cX11_takeFrames 1 = .ok (.bipush 10, 2) := by decide +kernel
theorem dX11_takeFrames_3 : decode cX11_takeFrames 3 = .ok (.invokevirtual 189, 3) := by decide +kernel
theorem dX11_takeFrames_6 : decode cX11_takeFrames 6 = .ok (.istore_n 2, 1) := by decide +kernel
theorem dX11_takeFrames_7 : decode cX11_takeFrames 7 = .ok (.iconst 0, 1) := by decide +kernel
theorem dX11_takeFrames_8 : decode cX11_takeFrames 8 = .ok (.istore_n 3, 1) := by decide +kernel
theorem dX11_takeFrames_9 : decode cX11_takeFrames 9 = .ok (.iload_n 3, 1) := by decide +kernel
theorem dX11_takeFrames_10 : decode cX11_takeFrames 10 = .ok (.aload_n 0, 1) := by decide +kernel
theorem dX11_takeFrames_11 : decode cX11_takeFrames 11 = .ok (.bipush 9, 2) := by decide +kernel
theorem dX11_takeFrames_13 : decode cX11_takeFrames 13 = .ok (.invokevirtual 189, 3) := by decide +kernel
theorem dX11_takeFrames_16 : decode cX11_takeFrames 16 = .ok (.if_icmp .ge 125, 3) := by decide +kernel
theorem dX11_takeFrames_19 : decode cX11_takeFrames 19 = .ok (.iload_n 1, 1) := by decide +kernel
theorem dX11_takeFrames_20 : decode cX11_takeFrames 20 = .ok (.ifCond .eq 121, 3) := by decide +kernel
theorem dX11_takeFrames_23 : decode cX11_takeFrames 23 = .ok (.iload_n 3, 1) := by decide +kernel
theorem dX11_takeFrames_24 : decode cX11_takeFrames 24 = .ok (.bipush 64, 2) := by decide +kernel
theorem dX11_takeFrames_26 : decode cX11_takeFrames 26 = .ok (.imul, 1) := by decide +kernel
theorem dX11_takeFrames_27 : decode cX11_takeFrames 27 = .ok (.istore 4, 2) := by decide +kernel
theorem dX11_takeFrames_29 : decode cX11_takeFrames 29 = .ok (.aload_n 0, 1) := by decide +kernel
theorem dX11_takeFrames_30 : decode cX11_takeFrames 30 = .ok (.getfield 62, 3) := by decide +kernel
theorem dX11_takeFrames_33 : decode cX11_takeFrames 33 = .ok (.iload_n 2, 1) := by decide +kernel
theorem dX11_takeFrames_34 : decode cX11_takeFrames 34 = .ok (.invokevirtual 230, 3) := by decide +kernel
theorem dX11_takeFrames_37 : decode cX11_takeFrames 37 = .ok (.istore 5, 2) := by decide +kernel
theorem dX11_takeFrames_39 : decode cX11_takeFrames 39 = .ok (.aload_n 0, 1) := by decide +kernel
theorem dX11_takeFrames_40 : decode cX11_takeFrames 40 = .ok (.getfield 41, 3) := by decide +kernel
theorem dX11_takeFrames_43 : decode cX11_takeFrames 43 = .ok (.iload 4, 2) := by decide +kernel
theorem dX11_takeFrames_45 : decode cX11_takeFrames 45 = .ok (.iload 5, 2) := by decide +kernel
theorem dX11_takeFrames_47 : decode cX11_takeFrames 47 = .ok (.iastore, 1) := by decide +kernel
theorem dX11_takeFrames_48 : decode cX11_takeFrames 48 = .ok (.aload_n 0, 1) := by decide +kernel
theorem dX11_takeFrames_49 : decode cX11_takeFrames 49 = .ok (.getfield 41, 3) := by decide +kernel
theorem dX11_takeFrames_52 : decode cX11_takeFrames 52 = .ok (.iload 4, 2) := by decide +kernel
theorem dX11_takeFrames_54 : decode cX11_takeFrames 54 = .ok (.iconst 1, 1) := by decide +kernel
theorem dX11_takeFrames_55 : decode cX11_takeFrames 55 = .ok (.iadd, 1) := by decide +kernel
theorem dX11_takeFrames_56 : decode cX11_takeFrames 56 = .ok (.aload_n 0, 1) := by decide +kernel
theorem dX11_takeFrames_57 : decode cX11_takeFrames 57 = .ok (.getfield 62, 3) := by decide +kernel
theorem dX11_takeFrames_60 : decode cX11_takeFrames 60 = .ok (.iload_n 2, 1) := by decide +kernel
theorem dX11_takeFrames_61 : decode cX11_takeFrames 61 = .ok (.iconst 2, 1) := by decide +kernel
theorem dX11_takeFrames_62 : decode cX11_takeFrames 62 = .ok (.iadd, 1) := by decide +kernel
theorem dX11_takeFrames_63 : decode cX11_takeFrames 63 = .ok (.invokevirtual 183, 3) := by decide +kernel
theorem dX11_takeFrames_66 : decode cX11_takeFrames 66 = .ok (.iastore, 1) := by decide +kernel
theorem dX11_takeFrames_67 : decode cX11_takeFrames 67 = .ok (.aload_n 0, 1) := by decide +kernel
theorem dX11_takeFrames_68 : decode cX11_takeFrames 68 = .ok (.iload_n 2, 1) := by decide +kernel
theorem dX11_takeFrames_69 : decode cX11_takeFrames 69 = .ok (.iconst 2, 1) := by decide +kernel
theorem dX11_takeFrames_70 : decode cX11_takeFrames 70 = .ok (.iadd, 1) := by decide +kernel
theorem dX11_takeFrames_71 : decode cX11_takeFrames 71 = .ok (.iload 4, 2) := by decide +kernel
theorem dX11_takeFrames_73 : decode cX11_takeFrames 73 = .ok (.iconst 3, 1) := by decide +kernel
theorem dX11_takeFrames_74 : decode cX11_takeFrames 74 = .ok (.iadd, 1) := by decide +kernel
theorem dX11_takeFrames_75 : decode cX11_takeFrames 75 = .ok (.invokevirtual 233, 3) := by decide +kernel
theorem dX11_takeFrames_78 : decode cX11_takeFrames 78 = .ok (.istore_n 2, 1) := by decide +kernel
theorem dX11_takeFrames_79 : decode cX11_takeFrames 79 = .ok (.aload_n 0, 1) := by decide +kernel
theorem dX11_takeFrames_80 : decode cX11_takeFrames 80 = .ok (.getfield 41, 3) := by decide +kernel
theorem dX11_takeFrames_83 : decode cX11_takeFrames 83 = .ok (.iload 4, 2) := by decide +kernel
theorem dX11_takeFrames_85 : decode cX11_takeFrames 85 = .ok (.iconst 2, 1) := by decide +kernel
theorem dX11_takeFrames_86 : decode cX11_takeFrames 86 = .ok (.iadd, 1) := by decide +kernel
theorem dX11_takeFrames_87 : decode cX11_takeFrames 87 = .ok (.aload_n 0, 1) := by decide +kernel
theorem dX11_takeFrames_88 : decode cX11_takeFrames 88 = .ok (.getfield 62, 3) := by decide +kernel
theorem dX11_takeFrames_91 : decode cX11_takeFrames 91 = .ok (.iload_n 2, 1) := by decide +kernel
theorem dX11_takeFrames_92 : decode cX11_takeFrames 92 = .ok (.invokevirtual 183, 3) := by decide +kernel
theorem dX11_takeFrames_95 : decode cX11_takeFrames 95 = .ok (.iastore, 1) := by decide +kernel
theorem dX11_takeFrames_96 : decode cX11_takeFrames 96 = .ok (.aload_n 0, 1) := by decide +kernel
theorem dX11_takeFrames_97 : decode cX11_takeFrames 97 = .ok (.iload_n 2, 1) := by decide +kernel
theorem dX11_takeFrames_98 : decode cX11_takeFrames 98 = .ok (.iload 4, 2) := by decide +kernel
theorem dX11_takeFrames_100 : decode cX11_takeFrames 100 = .ok (.bipush 33, 2) := by decide +kernel
theorem dX11_takeFrames_102 : decode cX11_takeFrames 102 = .ok (.iadd, 1) := by decide +kernel
theorem dX11_takeFrames_103 : decode cX11_takeFrames 103 = .ok (.invokevirtual 233, 3) := by decide +kernel
theorem dX11_takeFrames_106 : decode cX11_takeFrames 106 = .ok (.istore_n 2, 1) := by decide +kernel
theorem dX11_takeFrames_107 : decode cX11_takeFrames 107 = .ok (.aload_n 0, 1) := by decide +kernel
theorem dX11_takeFrames_108 : decode cX11_takeFrames 108 = .ok (.iload 5, 2) := by decide +kernel
theorem dX11_takeFrames_110 : decode cX11_takeFrames 110 = .ok (.invokevirtual 224, 3) := by decide +kernel
theorem dX11_takeFrames_113 : decode cX11_takeFrames 113 = .ok (.ifCond .eq 22, 3) := by decide +kernel
theorem dX11_takeFrames_116 : decode cX11_takeFrames 116 = .ok (.aload_n 0, 1) := by decide +kernel
theorem dX11_takeFrames_117 : decode cX11_takeFrames 117 = .ok (.getfield 38, 3) := by decide +kernel
theorem dX11_takeFrames_120 : decode cX11_takeFrames 120 = .ok (.iload 5, 2) := by decide +kernel
theorem dX11_takeFrames_122 : decode cX11_takeFrames 122 = .ok (.iaload, 1) := by decide +kernel
theorem dX11_takeFrames_123 : decode cX11_takeFrames 123 = .ok (.iconst (-1), 1) := by decide +kernel
theorem dX11_takeFrames_124 : decode cX11_takeFrames 124 = .ok (.if_icmp .ne 11, 3) := by decide +kernel
theorem dX11_takeFrames_127 : decode cX11_takeFrames 127 = .ok (.aload_n 0, 1) := by decide +kernel
theorem dX11_takeFrames_128 : decode cX11_takeFrames 128 = .ok (.getfield 38, 3) := by decide +kernel
theorem dX11_takeFrames_131 : decode cX11_takeFrames 131 = .ok (.iload 5, 2) := by decide +kernel
theorem dX11_takeFrames_133 : decode cX11_takeFrames 133 = .ok (.iload_n 3, 1) := by decide +kernel
theorem dX11_takeFrames_134 : decode cX11_takeFrames 134 = .ok (.iastore, 1) := by decide +kernel
theorem dX11_takeFrames_135 : decode cX11_takeFrames 135 = .ok (.iinc 3 1, 3) := by decide +kernel
theorem dX11_takeFrames_138 : decode cX11_takeFrames 138 = .ok (.goto (-129), 3) := by decide +kernel
theorem dX11_takeFrames_141 : decode cX11_takeFrames 141 = .ok (.return_, 1) := by decide +kernel
theorem dX11_takeTypes_0 : decode cX11_takeTypes 0 = .ok (.aload_n 0, 1) := by decide +kernel
theorem dX11_takeTypes_1 : decode cX11_takeTypes 1 = .ok (.getfield 62, 3) := by decide +kernel
theorem dX11_takeTypes_4 : decode cX11_takeTypes 4 = .ok (.iload_n 1, 1) := by decide +kernel
theorem dX11_takeTypes_5 : decode cX11_takeTypes 5 = .ok (.invokevirtual 183, 3) := by decide +kernel
theorem dX11_takeTypes_8 : decode cX11_takeTypes 8 = .ok (.istore_n 3, 1) := by decide +kernel
theorem dX11_takeTypes_9 : decode cX11_takeTypes 9 = .ok (.iload_n 1, 1) := by decide +kernel
theorem dX11_takeTypes_10 : decode cX11_takeTypes 10 = .ok (.iconst 1, 1) := by decide +kernel
theorem dX11_takeTypes_11 : decode cX11_takeTypes 11 = .ok (.iadd, 1) := by decide +kernel
theorem dX11_takeTypes_12 : decode cX11_takeTypes 12 = .ok (.istore 4, 2) := by decide +kernel
theorem dX11_takeTypes_14 : decode cX11_takeTypes 14 = .ok (.iconst 0, 1) := by decide +kernel
theorem dX11_takeTypes_15 : decode cX11_takeTypes 15 = .ok (.istore 5, 2) := by decide +kernel
theorem dX11_takeTypes_17 : decode cX11_takeTypes 17 = .ok (.iload 5, 2) := by decide +kernel
theorem dX11_takeTypes_19 : decode cX11_takeTypes 19 = .ok (.iload_n 3, 1) := by decide +kernel
theorem dX11_takeTypes_20 : decode cX11_takeTypes 20 = .ok (.if_icmp .ge 69, 3) := by decide +kernel
theorem dX11_takeTypes_23 : decode cX11_takeTypes 23 = .ok (.aload_n 0, 1) := by decide +kernel
theorem dX11_takeTypes_24 : decode cX11_takeTypes 24 = .ok (.getfield 62, 3) := by decide +kernel
theorem dX11_takeTypes_27 : decode cX11_takeTypes 27 = .ok (.iload 4, 2) := by decide +kernel
theorem dX11_takeTypes_29 : decode cX11_takeTypes 29 = .ok (.invokevirtual 183, 3) := by decide +kernel
theorem dX11_takeTypes_32 : decode cX11_takeTypes 32 = .ok (.istore 6, 2) := by decide +kernel
theorem dX11_takeTypes_34 : decode cX11_takeTypes 34 = .ok (.iload 5, 2) := by decide +kernel
theorem dX11_takeTypes_36 : decode cX11_takeTypes 36 = .ok (.bipush 30, 2) := by decide +kernel
theorem dX11_takeTypes_38 : decode cX11_takeTypes 38 = .ok (.if_icmp .ge 29, 3) := by decide +kernel
theorem dX11_takeTypes_41 : decode cX11_takeTypes 41 = .ok (.aload_n 0, 1) := by decide +kernel
theorem dX11_takeTypes_42 : decode cX11_takeTypes 42 = .ok (.getfield 41, 3) := by decide +kernel
theorem dX11_takeTypes_45 : decode cX11_takeTypes 45 = .ok (.iload_n 2, 1) := by decide +kernel
theorem dX11_takeTypes_46 : decode cX11_takeTypes 46 = .ok (.iload 5, 2) := by decide +kernel
theorem dX11_takeTypes_48 : decode cX11_takeTypes 48 = .ok (.iadd, 1) := by decide +kernel
theorem dX11_takeTypes_49 : decode cX11_takeTypes 49 = .ok (.aload_n 0, 1) := by decide +kernel
theorem dX11_takeTypes_50 : decode cX11_takeTypes 50 = .ok (.iload 6, 2) := by decide +kernel
theorem dX11_takeTypes_52 : decode cX11_takeTypes 52 = .ok (.aload_n 0, 1) := by decide +kernel
theorem dX11_takeTypes_53 : decode cX11_takeTypes 53 = .ok (.getfield 62, 3) := by decide +kernel
theorem dX11_takeTypes_56 : decode cX11_takeTypes 56 = .ok (.iload 4, 2) := by decide +kernel
theorem dX11_takeTypes_58 : decode cX11_takeTypes 58 = .ok (.iconst 1, 1) := by decide +kernel
theorem dX11_takeTypes_59 : decode cX11_takeTypes 59 = .ok (.iadd, 1) := by decide +kernel
theorem dX11_takeTypes_60 : decode cX11_takeTypes 60 = .ok (.invokevirtual 183, 3) := by decide +kernel
theorem dX11_takeTypes_63 : decode cX11_takeTypes 63 = .ok (.invokevirtual 236, 3) := by decide +kernel
theorem dX11_takeTypes_66 : decode cX11_takeTypes 66 = .ok (.iastore, 1) := by decide +kernel
theorem dX11_takeTypes_67 : decode cX11_takeTypes 67 = .ok (.iload 4, 2) := by decide +kernel
theorem dX11_takeTypes_69 : decode cX11_takeTypes 69 = .ok (.iload 6, 2) := by decide +kernel
theorem dX11_takeTypes_71 : decode cX11_takeTypes 71 = .ok (.iconst 3, 1) := by decide +kernel
theorem dX11_takeTypes_72 : decode cX11_takeTypes 72 = .ok (.if_icmp .ne 7, 3) := by decide +kernel
theorem dX11_takeTypes_75 : decode cX11_takeTypes 75 = .ok (.iconst 2, 1) := by decide +kernel
theorem dX11_takeTypes_76 : decode cX11_takeTypes 76 = .ok (.goto 4, 3) := by decide +kernel
theorem dX11_takeTypes_79 : decode cX11_takeTypes 79 = .ok (.iconst 1, 1) := by decide +kernel
theorem dX11_takeTypes_80 : decode cX11_takeTypes 80 = .ok (.iadd, 1) := by decide +kernel
theorem dX11_takeTypes_81 : decode cX11_takeTypes 81 = .ok (.istore 4, 2) := by decide +kernel
theorem dX11_takeTypes_83 : decode cX11_takeTypes 83 = .ok (.iinc 5 1, 3) := by decide +kernel
theorem dX11_takeTypes_86 : decode cX11_takeTypes 86 = .ok (.goto (-69), 3) := by decide +kernel
theorem dX11_takeTypes_89 : decode cX11_takeTypes 89 = .ok (.iload 4, 2) := by decide +kernel
theorem dX11_takeTypes_91 : decode cX11_takeTypes 91 = .ok (.ireturn, 1) := by decide +kernel
theorem dX11_typeOfTag_0 : decode cX11_typeOfTag 0 = .ok (.iload_n 1, 1) := by decide +kernel
theorem dX11_typeOfTag_1 : decode cX11_typeOfTag 1 = .ok (.tableswitch 39 0 2 #[27, 31, 35], 27) := by decide +kernel
theorem dX11_typeOfTag_28 : decode cX11_typeOfTag 28 = .ok (.sipush 304, 3) := by decide +kernel
theorem dX11_typeOfTag_31 : decode cX11_typeOfTag 31 = .ok (.ireturn, 1) := by decide +kernel
theorem dX11_typeOfTag_32 : decode cX11_typeOfTag 32 = .ok (.sipush 301, 3) := by decide +kernel
theorem dX11_typeOfTag_35 : decode cX11_typeOfTag 35 = .ok (.ireturn, 1) := by decide +kernel
theorem dX11_typeOfTag_36 : decode cX11_typeOfTag 36 = .ok (.sipush 300, 3) := by decide +kernel
theorem dX11_typeOfTag_39 : decode cX11_typeOfTag 39 = .ok (.ireturn, 1) := by decide +kernel
theorem dX11_typeOfTag_40 : decode cX11_typeOfTag 40 = .ok (.aload_n 0, 1) := by decide +kernel
theorem dX11_typeOfTag_41 : decode cX11_typeOfTag 41 = .ok (.getfield 23, 3) := by decide +kernel
theorem dX11_typeOfTag_44 : decode cX11_typeOfTag 44 = .ok (.iload_n 2, 1) := by decide +kernel
theorem dX11_typeOfTag_45 : decode cX11_typeOfTag 45 = .ok (.iaload, 1) := by decide +kernel
theorem dX11_typeOfTag_46 : decode cX11_typeOfTag 46 = .ok (.ireturn, 1) := by decide +kernel
theorem dX11_proveHandlers_0 : decode cX11_proveHandlers 0 = .ok (.iconst 0, 1) := by decide +kernel
theorem dX11_proveHandlers_1 : decode cX11_proveHandlers 1 = .ok (.istore_n 1, 1) := by decide +kernel
theorem dX11_proveHandlers_2 : decode cX11_proveHandlers 2 = .ok (.iload_n 1, 1) := by decide +kernel
theorem dX11_proveHandlers_3 : decode cX11_proveHandlers 3 = .ok (.aload_n 0, 1) := by decide +kernel
theorem dX11_proveHandlers_4 : decode cX11_proveHandlers 4 = .ok (.bipush 7, 2) := by decide +kernel
theorem dX11_proveHandlers_6 : decode cX11_proveHandlers 6 = .ok (.invokevirtual 189, 3) := by decide +kernel
theorem dX11_proveHandlers_9 : decode cX11_proveHandlers 9 = .ok (.if_icmp .ge 105, 3) := by decide +kernel
theorem dX11_proveHandlers_12 : decode cX11_proveHandlers 12 = .ok (.aload_n 0, 1) := by decide +kernel
theorem dX11_proveHandlers_13 : decode cX11_proveHandlers 13 = .ok (.iload_n 1, 1) := by decide +kernel
theorem dX11_proveHandlers_14 : decode cX11_proveHandlers 14 = .ok (.iconst 0, 1) := by decide +kernel
theorem dX11_proveHandlers_15 : decode cX11_proveHandlers 15 = .ok (.invokevirtual 239, 3) := by decide +kernel
theorem dX11_proveHandlers_18 : decode cX11_proveHandlers 18 = .ok (.istore_n 2, 1) := by decide +kernel
theorem dX11_proveHandlers_19 : decode cX11_proveHandlers 19 = .ok (.aload_n 0, 1) := by decide +kernel
theorem dX11_proveHandlers_20 : decode cX11_proveHandlers 20 = .ok (.iload_n 1, 1) := by decide +kernel
theorem dX11_proveHandlers_21 : decode cX11_proveHandlers 21 = .ok (.iconst 2, 1) := by decide +kernel
theorem dX11_proveHandlers_22 : decode cX11_proveHandlers 22 = .ok (.invokevirtual 239, 3) := by decide +kernel
theorem dX11_proveHandlers_25 : decode cX11_proveHandlers 25 = .ok (.istore_n 3, 1) := by decide +kernel
theorem dX11_proveHandlers_26 : decode cX11_proveHandlers 26 = .ok (.aload_n 0, 1) := by decide +kernel
theorem dX11_proveHandlers_27 : decode cX11_proveHandlers 27 = .ok (.iload_n 1, 1) := by decide +kernel
theorem dX11_proveHandlers_28 : decode cX11_proveHandlers 28 = .ok (.iconst 4, 1) := by decide +kernel
theorem dX11_proveHandlers_29 : decode cX11_proveHandlers 29 = .ok (.invokevirtual 239, 3) := by decide +kernel
theorem dX11_proveHandlers_32 : decode cX11_proveHandlers 32 = .ok (.istore 4, 2) := by decide +kernel
theorem dX11_proveHandlers_34 : decode cX11_proveHandlers 34 = .ok (.aload_n 0, 1) := by decide +kernel
theorem dX11_proveHandlers_35 : decode cX11_proveHandlers 35 = .ok (.iload_n 2, 1) := by decide +kernel
theorem dX11_proveHandlers_36 : decode cX11_proveHandlers 36 = .ok (.invokevirtual 224, 3) := by decide +kernel
theorem dX11_proveHandlers_39 : decode cX11_proveHandlers 39 = .ok (.ifCond .eq 28, 3) := by decide +kernel
theorem dX11_proveHandlers_42 : decode cX11_proveHandlers 42 = .ok (.aload_n 0, 1) := by decide +kernel
theorem dX11_proveHandlers_43 : decode cX11_proveHandlers 43 = .ok (.iload_n 3, 1) := by decide +kernel
theorem dX11_proveHandlers_44 : decode cX11_proveHandlers 44 = .ok (.invokevirtual 224, 3) := by decide +kernel
theorem dX11_proveHandlers_47 : decode cX11_proveHandlers 47 = .ok (.ifCond .ne 11, 3) := by decide +kernel
theorem dX11_proveHandlers_50 : decode cX11_proveHandlers 50 = .ok (.iload_n 3, 1) := by decide +kernel
theorem dX11_proveHandlers_51 : decode cX11_proveHandlers 51 = .ok (.aload_n 0, 1) := by decide +kernel
theorem dX11_proveHandlers_52 : decode cX11_proveHandlers 52 = .ok (.getfield 209, 3) := by decide +kernel
theorem dX11_proveHandlers_55 : decode cX11_proveHandlers 55 = .ok (.if_icmp .ne 12, 3) := by decide +kernel
theorem dX11_proveHandlers_58 : decode cX11_proveHandlers 58 = .ok (.iload_n 2, 1) := by decide +kernel
theorem dX11_proveHandlers_59 : decode cX11_proveHandlers 59 = .ok (.iload_n 3, 1) := by decide +kernel
theorem dX11_proveHandlers_60 : decode cX11_proveHandlers 60 = .ok (.if_icmp .ge 7, 3) := by decide +kernel
theorem dX11_proveHandlers_63 : decode cX11_proveHandlers 63 = .ok (.iconst 1, 1) := by decide +kernel
theorem dX11_proveHandlers_64 : decode cX11_proveHandlers 64 = .ok (.goto 4, 3) := by decide +kernel
theorem dX11_proveHandlers_67 : decode cX11_proveHandlers 67 = .ok (.iconst 0, 1) := by decide +kernel
theorem dX11_proveHandlers_68 : decode cX11_proveHandlers 68 = .ok (.istore 5, 2) := by decide +kernel
theorem dX11_proveHandlers_70 : decode cX11_proveHandlers 70 = .ok (.iload 5, 2) := by decide +kernel
theorem dX11_proveHandlers_72 : decode cX11_proveHandlers 72 = .ok (.ifCond .eq 28, 3) := by decide +kernel
theorem dX11_proveHandlers_75 : decode cX11_proveHandlers 75 = .ok (.aload_n 0, 1) := by decide +kernel
theorem dX11_proveHandlers_76 : decode cX11_proveHandlers 76 = .ok (.iload 4, 2) := by decide +kernel
theorem dX11_proveHandlers_78 : decode cX11_proveHandlers 78 = .ok (.invokevirtual 242, 3) := by decide +kernel
theorem dX11_proveHandlers_81 : decode cX11_proveHandlers 81 = .ok (.ifCond .lt 19, 3) := by decide +kernel
theorem dX11_proveHandlers_84 : decode cX11_proveHandlers 84 = .ok (.aload_n 0, 1) := by decide +kernel
theorem dX11_proveHandlers_85 : decode cX11_proveHandlers 85 = .ok (.getfield 60, 3) := by decide +kernel
theorem dX11_proveHandlers_88 : decode cX11_proveHandlers 88 = .ok (.aload_n 0, 1) := by decide +kernel
theorem dX11_proveHandlers_89 : decode cX11_proveHandlers 89 = .ok (.iload_n 1, 1) := by decide +kernel
theorem dX11_proveHandlers_90 : decode cX11_proveHandlers 90 = .ok (.invokevirtual 245, 3) := by decide +kernel
theorem dX11_proveHandlers_93 : decode cX11_proveHandlers 93 = .ok (.iconst 1, 1) := by decide +kernel
theorem dX11_proveHandlers_94 : decode cX11_proveHandlers 94 = .ok (.invokevirtual 248, 3) := by decide +kernel
theorem dX11_proveHandlers_97 : decode cX11_proveHandlers 97 = .ok (.ifCond .ne 11, 3) := by decide +kernel
theorem dX11_proveHandlers_100 : decode cX11_proveHandlers 100 = .ok (.aload_n 0, 1) := by decide +kernel
theorem dX11_proveHandlers_101 : decode cX11_proveHandlers 101 = .ok (.bipush 8, 2) := by decide +kernel
theorem dX11_proveHandlers_103 : decode cX11_proveHandlers 103 = .ok (.iload_n 1, 1) := by decide +kernel
theorem dX11_proveHandlers_104 : decode cX11_proveHandlers 104 = .ok (.invokevirtual 221, 3) := by decide +kernel
theorem dX11_proveHandlers_107 : decode cX11_proveHandlers 107 = .ok (.ireturn, 1) := by decide +kernel
theorem dX11_proveHandlers_108 : decode cX11_proveHandlers 108 = .ok (.iinc 1 1, 3) := by decide +kernel
theorem dX11_proveHandlers_111 : decode cX11_proveHandlers 111 = .ok (.goto (-109), 3) := by decide +kernel
theorem dX11_proveHandlers_114 : decode cX11_proveHandlers 114 = .ok (.iconst 0, 1) := by decide +kernel
theorem dX11_proveHandlers_115 : decode cX11_proveHandlers 115 = .ok (.ireturn, 1) := by decide +kernel
theorem dX11_handler_0 : decode cX11_handler 0 = .ok (.aload_n 0, 1) := by decide +kernel
theorem dX11_handler_1 : decode cX11_handler 1 = .ok (.getfield 62, 3) := by decide +kernel
theorem dX11_handler_4 : decode cX11_handler 4 = .ok (.aload_n 0, 1) := by decide +kernel
theorem dX11_handler_5 : decode cX11_handler 5 = .ok (.bipush 8, 2) := by decide +kernel
theorem dX11_handler_7 : decode cX11_handler 7 = .ok (.invokevirtual 189, 3) := by decide +kernel
theorem dX11_handler_10 : decode cX11_handler 10 = .ok (.iload_n 1, 1) := by decide +kernel
theorem dX11_handler_11 : decode cX11_handler 11 = .ok (.bipush 7, 2) := by decide +kernel
theorem dX11_handler_13 : decode cX11_handler 13 = .ok (.imul, 1) := by decide +kernel
theorem dX11_handler_14 : decode cX11_handler 14 = .ok (.iadd, 1) := by decide +kernel
theorem dX11_handler_15 : decode cX11_handler 15 = .ok (.iload_n 2, 1) := by decide +kernel
theorem dX11_handler_16 : decode cX11_handler 16 = .ok (.iadd, 1) := by decide +kernel
theorem dX11_handler_17 : decode cX11_handler 17 = .ok (.invokevirtual 230, 3) := by decide +kernel
theorem dX11_handler_20 : decode cX11_handler 20 = .ok (.ireturn, 1) := by decide +kernel
theorem dX11_handlerClass_0 : decode cX11_handlerClass 0 = .ok (.aload_n 0, 1) := by decide +kernel
theorem dX11_handlerClass_1 : decode cX11_handlerClass 1 = .ok (.getfield 23, 3) := by decide +kernel
theorem dX11_handlerClass_4 : decode cX11_handlerClass 4 = .ok (.aload_n 0, 1) := by decide +kernel
theorem dX11_handlerClass_5 : decode cX11_handlerClass 5 = .ok (.getfield 62, 3) := by decide +kernel
theorem dX11_handlerClass_8 : decode cX11_handlerClass 8 = .ok (.aload_n 0, 1) := by decide +kernel
theorem dX11_handlerClass_9 : decode cX11_handlerClass 9 = .ok (.bipush 8, 2) := by decide +kernel
theorem dX11_handlerClass_11 : decode cX11_handlerClass 11 = .ok (.invokevirtual 189, 3) := by decide +kernel
theorem dX11_handlerClass_14 : decode cX11_handlerClass 14 = .ok (.iload_n 1, 1) := by decide +kernel
theorem dX11_handlerClass_15 : decode cX11_handlerClass 15 = .ok (.bipush 7, 2) := by decide +kernel
theorem dX11_handlerClass_17 : decode cX11_handlerClass 17 = .ok (.imul, 1) := by decide +kernel
theorem dX11_handlerClass_18 : decode cX11_handlerClass 18 = .ok (.iadd, 1) := by decide +kernel
theorem dX11_handlerClass_19 : decode cX11_handlerClass 19 = .ok (.bipush 6, 2) := by decide +kernel
theorem dX11_handlerClass_21 : decode cX11_handlerClass 21 = .ok (.iadd, 1) := by decide +kernel
theorem dX11_handlerClass_22 : decode cX11_handlerClass 22 = .ok (.invokevirtual 183, 3) := by decide +kernel
theorem dX11_handlerClass_25 : decode cX11_handlerClass 25 = .ok (.iaload, 1) := by decide +kernel
theorem dX11_handlerClass_26 : decode cX11_handlerClass 26 = .ok (.ireturn, 1) := by decide +kernel
theorem dX11_proveFrames_0 : decode cX11_proveFrames 0 = .ok (.iconst (-1), 1) := by decide +kernel
theorem dX11_proveFrames_1 : decode cX11_proveFrames 1 = .ok (.istore_n 1, 1) := by decide +kernel
theorem dX11_proveFrames_2 : decode cX11_proveFrames 2 = .ok (.iconst 0, 1) := by decide +kernel
theorem dX11_proveFrames_3 : decode cX11_proveFrames 3 = .ok (.istore_n 2, 1) := by decide +kernel
theorem dX11_proveFrames_4 : decode cX11_proveFrames 4 = .ok (.iload_n 2, 1) := by decide +kernel
theorem dX11_proveFrames_5 : decode cX11_proveFrames 5 = .ok (.aload_n 0, 1) := by decide +kernel
theorem dX11_proveFrames_6 : decode cX11_proveFrames 6 = .ok (.bipush 9, 2) := by decide +kernel
theorem dX11_proveFrames_8 : decode cX11_proveFrames 8 = .ok (.invokevirtual 189, 3) := by decide +kernel
theorem dX11_proveFrames_11 : decode cX11_proveFrames 11 = .ok (.if_icmp .ge 133, 3) := by decide +kernel
theorem dX11_proveFrames_14 : decode cX11_proveFrames 14 = .ok (.iload_n 2, 1) := by decide +kernel
theorem dX11_proveFrames_15 : decode cX11_proveFrames 15 = .ok (.bipush 64, 2) := by decide +kernel
theorem dX11_proveFrames_17 : decode cX11_proveFrames 17 = .ok (.imul, 1) := by decide +kernel
theorem dX11_proveFrames_18 : decode cX11_proveFrames 18 = .ok (.istore_n 3, 1) := by decide +kernel
theorem dX11_proveFrames_19 : decode cX11_proveFrames 19 = .ok (.aload_n 0, 1) := by decide +kernel
theorem dX11_proveFrames_20 : decode cX11_proveFrames 20 = .ok (.aload_n 0, 1) := by decide +kernel
theorem dX11_proveFrames_21 : decode cX11_proveFrames 21 = .ok (.getfield 41, 3) := by decide +kernel
theorem dX11_proveFrames_24 : decode cX11_proveFrames 24 = .ok (.iload_n 3, 1) := by decide +kernel
theorem dX11_proveFrames_25 : decode cX11_proveFrames 25 = .ok (.iaload, 1) := by decide +kernel
theorem dX11_proveFrames_26 : decode cX11_proveFrames 26 = .ok (.invokevirtual 224, 3) := by decide +kernel
theorem dX11_proveFrames_29 : decode cX11_proveFrames 29 = .ok (.ifCond .eq 86, 3) := by decide +kernel
theorem dX11_proveFrames_32 : decode cX11_proveFrames 32 = .ok (.aload_n 0, 1) := by decide +kernel
theorem dX11_proveFrames_33 : decode cX11_proveFrames 33 = .ok (.getfield 41, 3) := by decide +kernel
theorem dX11_proveFrames_36 : decode cX11_proveFrames 36 = .ok (.iload_n 3, 1) := by decide +kernel
theorem dX11_proveFrames_37 : decode cX11_proveFrames 37 = .ok (.iaload, 1) := by decide +kernel
theorem dX11_proveFrames_38 : decode cX11_proveFrames 38 = .ok (.iload_n 1, 1) := by decide +kernel
theorem dX11_proveFrames_39 : decode cX11_proveFrames 39 = .ok (.if_icmp .le 76, 3) := by decide +kernel
theorem dX11_proveFrames_42 : decode cX11_proveFrames 42 = .ok (.aload_n 0, 1) := by decide +kernel
theorem dX11_proveFrames_43 : decode cX11_proveFrames 43 = .ok (.getfield 41, 3) := by decide +kernel
theorem dX11_proveFrames_46 : decode cX11_proveFrames 46 = .ok (.iload_n 3, 1) := by decide +kernel
theorem dX11_proveFrames_47 : decode cX11_proveFrames 47 = .ok (.iconst 1, 1) := by decide +kernel
theorem dX11_proveFrames_48 : decode cX11_proveFrames 48 = .ok (.iadd, 1) := by decide +kernel
theorem dX11_proveFrames_49 : decode cX11_proveFrames 49 = .ok (.iaload, 1) := by decide +kernel
theorem dX11_proveFrames_50 : decode cX11_proveFrames 50 = .ok (.aload_n 0, 1) := by decide +kernel
theorem dX11_proveFrames_51 : decode cX11_proveFrames 51 = .ok (.iconst 4, 1) := by decide +kernel
theorem dX11_proveFrames_52 : decode cX11_proveFrames 52 = .ok (.invokevirtual 189, 3) := by decide +kernel
theorem dX11_proveFrames_55 : decode cX11_proveFrames 55 = .ok (.if_icmp .gt 60, 3) := by decide +kernel
theorem dX11_proveFrames_58 : decode cX11_proveFrames 58 = .ok (.aload_n 0, 1) := by decide +kernel
theorem dX11_proveFrames_59 : decode cX11_proveFrames 59 = .ok (.getfield 41, 3) := by decide +kernel
theorem dX11_proveFrames_62 : decode cX11_proveFrames 62 = .ok (.iload_n 3, 1) := by decide +kernel
theorem dX11_proveFrames_63 : decode cX11_proveFrames 63 = .ok (.iconst 2, 1) := by decide +kernel
theorem dX11_proveFrames_64 : decode cX11_proveFrames 64 = .ok (.iadd, 1) := by decide +kernel
theorem dX11_proveFrames_65 : decode cX11_proveFrames 65 = .ok (.iaload, 1) := by decide +kernel
theorem dX11_proveFrames_66 : decode cX11_proveFrames 66 = .ok (.aload_n 0, 1) := by decide +kernel
theorem dX11_proveFrames_67 : decode cX11_proveFrames 67 = .ok (.iconst 3, 1) := by decide +kernel
theorem dX11_proveFrames_68 : decode cX11_proveFrames 68 = .ok (.invokevirtual 189, 3) := by decide +kernel
theorem dX11_proveFrames_71 : decode cX11_proveFrames 71 = .ok (.if_icmp .gt 44, 3) := by decide +kernel
theorem dX11_proveFrames_74 : decode cX11_proveFrames 74 = .ok (.aload_n 0, 1) := by decide +kernel
theorem dX11_proveFrames_75 : decode cX11_proveFrames 75 = .ok (.iload_n 3, 1) := by decide +kernel
theorem dX11_proveFrames_76 : decode cX11_proveFrames 76 = .ok (.iconst 3, 1) := by decide +kernel
theorem dX11_proveFrames_77 : decode cX11_proveFrames 77 = .ok (.iadd, 1) := by decide +kernel
theorem dX11_proveFrames_78 : decode cX11_proveFrames 78 = .ok (.aload_n 0, 1) := by decide +kernel
theorem dX11_proveFrames_79 : decode cX11_proveFrames 79 = .ok (.getfield 41, 3) := by decide +kernel
theorem dX11_proveFrames_82 : decode cX11_proveFrames 82 = .ok (.iload_n 3, 1) := by decide +kernel
theorem dX11_proveFrames_83 : decode cX11_proveFrames 83 = .ok (.iconst 1, 1) := by decide +kernel
theorem dX11_proveFrames_84 : decode cX11_proveFrames 84 = .ok (.iadd, 1) := by decide +kernel
theorem dX11_proveFrames_85 : decode cX11_proveFrames 85 = .ok (.iaload, 1) := by decide +kernel
theorem dX11_proveFrames_86 : decode cX11_proveFrames 86 = .ok (.invokevirtual 252, 3) := by decide +kernel
theorem dX11_proveFrames_89 : decode cX11_proveFrames 89 = .ok (.ifCond .eq 26, 3) := by decide +kernel
theorem dX11_proveFrames_92 : decode cX11_proveFrames 92 = .ok (.aload_n 0, 1) := by decide +kernel
theorem dX11_proveFrames_93 : decode cX11_proveFrames 93 = .ok (.iload_n 3, 1) := by decide +kernel
theorem dX11_proveFrames_94 : decode cX11_proveFrames 94 = .ok (.bipush 33, 2) := by decide +kernel
theorem dX11_proveFrames_96 : decode cX11_proveFrames 96 = .ok (.iadd, 1) := by decide +kernel
theorem dX11_proveFrames_97 : decode cX11_proveFrames 97 = .ok (.aload_n 0, 1) := by decide +kernel
theorem dX11_proveFrames_98 : decode cX11_proveFrames 98 = .ok (.getfield 41, 3) := by decide +kernel
theorem dX11_proveFrames_101 : decode cX11_proveFrames 101 = .ok (.iload_n 3, 1) := by decide +kernel
theorem dX11_proveFrames_102 : decode cX11_proveFrames 102 = .ok (.iconst 2, 1) := by decide +kernel
theorem dX11_proveFrames_103 : decode cX11_proveFrames 103 = .ok (.iadd, 1) := by decide +kernel
theorem dX11_proveFrames_104 : decode cX11_proveFrames 104 = .ok (.iaload, 1) := by decide +kernel
theorem dX11_proveFrames_105 : decode cX11_proveFrames 105 = .ok (.invokevirtual 252, 3) := by decide +kernel
theorem dX11_proveFrames_108 : decode cX11_proveFrames 108 = .ok (.ifCond .eq 7, 3) := by decide +kernel
theorem dX11_proveFrames_111 : decode cX11_proveFrames 111 = .ok (.iconst 1, 1) := by decide +kernel
theorem dX11_proveFrames_112 : decode cX11_proveFrames 112 = .ok (.goto 4, 3) := by decide +kernel
theorem dX11_proveFrames_115 : decode cX11_proveFrames 115 = .ok (.iconst 0, 1) := by decide +kernel
theorem dX11_proveFrames_116 : decode cX11_proveFrames 116 = .ok (.istore 4, 2) := by decide +kernel
theorem dX11_proveFrames_118 : decode cX11_proveFrames 118 = .ok (.iload 4, 2) := by decide +kernel
theorem dX11_proveFrames_120 : decode cX11_proveFrames 120 = .ok (.ifCond .ne 11, 3) := by decide +kernel
theorem dX11_proveFrames_123 : decode cX11_proveFrames 123 = .ok (.aload_n 0, 1) := by decide +kernel
theorem dX11_proveFrames_124 : decode cX11_proveFrames 124 = .ok (.bipush 9, 2) := by decide +kernel
theorem dX11_proveFrames_126 : decode cX11_proveFrames 126 = .ok (.iload_n 2, 1) := by decide +kernel
theorem dX11_proveFrames_127 : decode cX11_proveFrames 127 = .ok (.invokevirtual 221, 3) := by decide +kernel
theorem dX11_proveFrames_130 : decode cX11_proveFrames 130 = .ok (.ireturn, 1) := by decide +kernel
theorem dX11_proveFrames_131 : decode cX11_proveFrames 131 = .ok (.aload_n 0, 1) := by decide +kernel
theorem dX11_proveFrames_132 : decode cX11_proveFrames 132 = .ok (.getfield 41, 3) := by decide +kernel
theorem dX11_proveFrames_135 : decode cX11_proveFrames 135 = .ok (.iload_n 3, 1) := by decide +kernel
theorem dX11_proveFrames_136 : decode cX11_proveFrames 136 = .ok (.iaload, 1) := by decide +kernel
theorem dX11_proveFrames_137 : decode cX11_proveFrames 137 = .ok (.istore_n 1, 1) := by decide +kernel
theorem dX11_proveFrames_138 : decode cX11_proveFrames 138 = .ok (.iinc 2 1, 3) := by decide +kernel
theorem dX11_proveFrames_141 : decode cX11_proveFrames 141 = .ok (.goto (-137), 3) := by decide +kernel
theorem dX11_proveFrames_144 : decode cX11_proveFrames 144 = .ok (.iconst 0, 1) := by decide +kernel
theorem dX11_proveFrames_145 : decode cX11_proveFrames 145 = .ok (.ireturn, 1) := by decide +kernel
theorem dX11_areThere_0 : decode cX11_areThere 0 = .ok (.iconst 1, 1) := by decide +kernel
theorem dX11_areThere_1 : decode cX11_areThere 1 = .ok (.istore_n 3, 1) := by decide +kernel
theorem dX11_areThere_2 : decode cX11_areThere 2 = .ok (.iload_n 1, 1) := by decide +kernel
theorem dX11_areThere_3 : decode cX11_areThere 3 = .ok (.istore 4, 2) := by decide +kernel
theorem dX11_areThere_5 : decode cX11_areThere 5 = .ok (.iload 4, 2) := by decide +kernel
theorem dX11_areThere_7 : decode cX11_areThere 7 = .ok (.iload_n 1, 1) := by decide +kernel
theorem dX11_areThere_8 : decode cX11_areThere 8 = .ok (.iload_n 2, 1) := by decide +kernel
theorem dX11_areThere_9 : decode cX11_areThere 9 = .ok (.iadd, 1) := by decide +kernel
theorem dX11_areThere_10 : decode cX11_areThere 10 = .ok (.if_icmp .ge 39, 3) := by decide +kernel
theorem dX11_areThere_13 : decode cX11_areThere 13 = .ok (.iload 4, 2) := by decide +kernel
theorem dX11_areThere_15 : decode cX11_areThere 15 = .ok (.iload_n 1, 1) := by decide +kernel
theorem dX11_areThere_16 : decode cX11_areThere 16 = .ok (.bipush 30, 2) := by decide +kernel
theorem dX11_areThere_18 : decode cX11_areThere 18 = .ok (.iadd, 1) := by decide +kernel
theorem dX11_areThere_19 : decode cX11_areThere 19 = .ok (.if_icmp .ge 30, 3) := by decide +kernel
theorem dX11_areThere_22 : decode cX11_areThere 22 = .ok (.iload_n 3, 1) := by decide +kernel
theorem dX11_areThere_23 : decode cX11_areThere 23 = .ok (.ifCond .eq 18, 3) := by decide +kernel
theorem dX11_areThere_26 : decode cX11_areThere 26 = .ok (.aload_n 0, 1) := by decide +kernel
theorem dX11_areThere_27 : decode cX11_areThere 27 = .ok (.getfield 41, 3) := by decide +kernel
theorem dX11_areThere_30 : decode cX11_areThere 30 = .ok (.iload 4, 2) := by decide +kernel
theorem dX11_areThere_32 : decode cX11_areThere 32 = .ok (.iaload, 1) := by decide +kernel
theorem dX11_areThere_33 : decode cX11_areThere 33 = .ok (.iconst (-1), 1) := by decide +kernel
theorem dX11_areThere_34 : decode cX11_areThere 34 = .ok (.if_icmp .eq 7, 3) := by decide +kernel
theorem dX11_areThere_37 : decode cX11_areThere 37 = .ok (.iconst 1, 1) := by decide +kernel
theorem dX11_areThere_38 : decode cX11_areThere 38 = .ok (.goto 4, 3) := by decide +kernel
theorem dX11_areThere_41 : decode cX11_areThere 41 = .ok (.iconst 0, 1) := by decide +kernel
theorem dX11_areThere_42 : decode cX11_areThere 42 = .ok (.istore_n 3, 1) := by decide +kernel
theorem dX11_areThere_43 : decode cX11_areThere 43 = .ok (.iinc 4 1, 3) := by decide +kernel
theorem dX11_areThere_46 : decode cX11_areThere 46 = .ok (.goto (-41), 3) := by decide +kernel
theorem dX11_areThere_49 : decode cX11_areThere 49 = .ok (.iload_n 3, 1) := by decide +kernel
theorem dX11_areThere_50 : decode cX11_areThere 50 = .ok (.ireturn, 1) := by decide +kernel
theorem dX11_fits_0 : decode cX11_fits 0 = .ok (.iload_n 2, 1) := by decide +kernel
theorem dX11_fits_1 : decode cX11_fits 1 = .ok (.sipush 304, 3) := by decide +kernel
theorem dX11_fits_4 : decode cX11_fits 4 = .ok (.if_icmp .eq 15, 3) := by decide +kernel
theorem dX11_fits_7 : decode cX11_fits 7 = .ok (.aload_n 0, 1) := by decide +kernel
theorem dX11_fits_8 : decode cX11_fits 8 = .ok (.getfield 60, 3) := by decide +kernel
theorem dX11_fits_11 : decode cX11_fits 11 = .ok (.iload_n 1, 1) := by decide +kernel
theorem dX11_fits_12 : decode cX11_fits 12 = .ok (.iload_n 2, 1) := by decide +kernel
theorem dX11_fits_13 : decode cX11_fits 13 = .ok (.invokevirtual 248, 3) := by decide +kernel
theorem dX11_fits_16 : decode cX11_fits 16 = .ok (.ifCond .eq 7, 3) := by decide +kernel
theorem dX11_fits_19 : decode cX11_fits 19 = .ok (.iconst 1, 1) := by decide +kernel
theorem dX11_fits_20 : decode cX11_fits 20 = .ok (.goto 4, 3) := by decide +kernel
theorem dX11_fits_23 : decode cX11_fits 23 = .ok (.iconst 0, 1) := by decide +kernel
theorem dX11_fits_24 : decode cX11_fits 24 = .ok (.ireturn, 1) := by decide +kernel
theorem dX11_fitsLocals_0 : decode cX11_fitsLocals 0 = .ok (.iconst 1, 1) := by decide +kernel
theorem dX11_fitsLocals_1 : decode cX11_fitsLocals 1 = .ok (.istore_n 2, 1) := by decide +kernel
theorem dX11_fitsLocals_2 : decode cX11_fitsLocals 2 = .ok (.iconst 0, 1) := by decide +kernel
theorem dX11_fitsLocals_3 : decode cX11_fitsLocals 3 = .ok (.istore_n 3, 1) := by decide +kernel
theorem dX11_fitsLocals_4 : decode cX11_fitsLocals 4 = .ok (.iload_n 3, 1) := by decide +kernel
theorem dX11_fitsLocals_5 : decode cX11_fitsLocals 5 = .ok (.aload_n 0, 1) := by decide +kernel
theorem dX11_fitsLocals_6 : decode cX11_fitsLocals 6 = .ok (.getfield 41, 3) := by decide +kernel
theorem dX11_fitsLocals_9 : decode cX11_fitsLocals 9 = .ok (.iload_n 1, 1) := by decide +kernel
theorem dX11_fitsLocals_10 : decode cX11_fitsLocals 10 = .ok (.iconst 1, 1) := by decide +kernel
theorem dX11_fitsLocals_11 : decode cX11_fitsLocals 11 = .ok (.iadd, 1) := by decide +kernel
theorem dX11_fitsLocals_12 : decode cX11_fitsLocals 12 = .ok (.iaload, 1) := by decide +kernel
theorem dX11_fitsLocals_13 : decode cX11_fitsLocals 13 = .ok (.if_icmp .ge 34, 3) := by decide +kernel
theorem dX11_fitsLocals_16 : decode cX11_fitsLocals 16 = .ok (.iload_n 2, 1) := by decide +kernel
theorem dX11_fitsLocals_17 : decode cX11_fitsLocals 17 = .ok (.ifCond .eq 30, 3) := by decide +kernel
theorem dX11_fitsLocals_20 : decode cX11_fitsLocals 20 = .ok (.aload_n 0, 1) := by decide +kernel
theorem dX11_fitsLocals_21 : decode cX11_fitsLocals 21 = .ok (.aload_n 0, 1) := by decide +kernel
theorem dX11_fitsLocals_22 : decode cX11_fitsLocals 22 = .ok (.getfield 44, 3) := by decide +kernel
theorem dX11_fitsLocals_25 : decode cX11_fitsLocals 25 = .ok (.iload_n 3, 1) := by decide +kernel
theorem dX11_fitsLocals_26 : decode cX11_fitsLocals 26 = .ok (.iaload, 1) := by decide +kernel
theorem dX11_fitsLocals_27 : decode cX11_fitsLocals 27 = .ok (.aload_n 0, 1) := by decide +kernel
theorem dX11_fitsLocals_28 : decode cX11_fitsLocals 28 = .ok (.getfield 41, 3) := by decide +kernel
theorem dX11_fitsLocals_31 : decode cX11_fitsLocals 31 = .ok (.iload_n 1, 1) := by decide +kernel
theorem dX11_fitsLocals_32 : decode cX11_fitsLocals 32 = .ok (.iconst 3, 1) := by decide +kernel
theorem dX11_fitsLocals_33 : decode cX11_fitsLocals 33 = .ok (.iadd, 1) := by decide +kernel
theorem dX11_fitsLocals_34 : decode cX11_fitsLocals 34 = .ok (.iload_n 3, 1) := by decide +kernel
theorem dX11_fitsLocals_35 : decode cX11_fitsLocals 35 = .ok (.iadd, 1) := by decide +kernel
theorem dX11_fitsLocals_36 : decode cX11_fitsLocals 36 = .ok (.iaload, 1) := by decide +kernel
theorem dX11_fitsLocals_37 : decode cX11_fitsLocals 37 = .ok (.invokevirtual 303, 3) := by decide +kernel
theorem dX11_fitsLocals_40 : decode cX11_fitsLocals 40 = .ok (.istore_n 2, 1) := by decide +kernel
theorem dX11_fitsLocals_41 : decode cX11_fitsLocals 41 = .ok (.iinc 3 1, 3) := by decide +kernel
theorem dX11_fitsLocals_44 : decode cX11_fitsLocals 44 = .ok (.goto (-40), 3) := by decide +kernel
theorem dX11_fitsLocals_47 : decode cX11_fitsLocals 47 = .ok (.iload_n 2, 1) := by decide +kernel
theorem dX11_fitsLocals_48 : decode cX11_fitsLocals 48 = .ok (.ireturn, 1) := by decide +kernel
theorem dX11_fitsHandlers_0 : decode cX11_fitsHandlers 0 = .ok (.iconst 1, 1) := by decide +kernel
theorem dX11_fitsHandlers_1 : decode cX11_fitsHandlers 1 = .ok (.istore_n 2, 1) := by decide +kernel
theorem dX11_fitsHandlers_2 : decode cX11_fitsHandlers 2 = .ok (.iconst 0, 1) := by decide +kernel
theorem dX11_fitsHandlers_3 : decode cX11_fitsHandlers 3 = .ok (.istore_n 3, 1) := by decide +kernel
theorem dX11_fitsHandlers_4 : decode cX11_fitsHandlers 4 = .ok (.iload_n 3, 1) := by decide +kernel
theorem dX11_fitsHandlers_5 : decode cX11_fitsHandlers 5 = .ok (.aload_n 0, 1) := by decide +kernel
theorem dX11_fitsHandlers_6 : decode cX11_fitsHandlers 6 = .ok (.bipush 7, 2) := by decide +kernel
theorem dX11_fitsHandlers_8 : decode cX11_fitsHandlers 8 = .ok (.invokevirtual 189, 3) := by decide +kernel
theorem dX11_fitsHandlers_11 : decode cX11_fitsHandlers 11 = .ok (.if_icmp .ge 103, 3) := by decide +kernel
theorem dX11_fitsHandlers_14 : decode cX11_fitsHandlers 14 = .ok (.iload_n 2, 1) := by decide +kernel
theorem dX11_fitsHandlers_15 : decode cX11_fitsHandlers 15 = .ok (.ifCond .eq 99, 3) := by decide +kernel
theorem dX11_fitsHandlers_18 : decode cX11_fitsHandlers 18 = .ok (.iload_n 1, 1) := by decide +kernel
theorem dX11_fitsHandlers_19 : decode cX11_fitsHandlers 19 = .ok (.aload_n 0, 1) := by decide +kernel
theorem dX11_fitsHandlers_20 : decode cX11_fitsHandlers 20 = .ok (.iload_n 3, 1) := by decide +kernel
theorem dX11_fitsHandlers_21 : decode cX11_fitsHandlers 21 = .ok (.iconst 0, 1) := by decide +kernel
theorem dX11_fitsHandlers_22 : decode cX11_fitsHandlers 22 = .ok (.invokevirtual 239, 3) := by decide +kernel
theorem dX11_fitsHandlers_25 : decode cX11_fitsHandlers 25 = .ok (.if_icmp .lt 83, 3) := by decide +kernel
theorem dX11_fitsHandlers_28 : decode cX11_fitsHandlers 28 = .ok (.iload_n 1, 1) := by decide +kernel
theorem dX11_fitsHandlers_29 : decode cX11_fitsHandlers 29 = .ok (.aload_n 0, 1) := by decide +kernel
theorem dX11_fitsHandlers_30 : decode cX11_fitsHandlers 30 = .ok (.iload_n 3, 1) := by decide +kernel
theorem dX11_fitsHandlers_31 : decode cX11_fitsHandlers 31 = .ok (.iconst 2, 1) := by decide +kernel
theorem dX11_fitsHandlers_32 : decode cX11_fitsHandlers 32 = .ok (.invokevirtual 239, 3) := by decide +kernel
theorem dX11_fitsHandlers_35 : decode cX11_fitsHandlers 35 = .ok (.if_icmp .ge 73, 3) := by decide +kernel
theorem dX11_fitsHandlers_38 : decode cX11_fitsHandlers 38 = .ok (.aload_n 0, 1) := by decide +kernel
theorem dX11_fitsHandlers_39 : decode cX11_fitsHandlers 39 = .ok (.aload_n 0, 1) := by decide +kernel
theorem dX11_fitsHandlers_40 : decode cX11_fitsHandlers 40 = .ok (.iload_n 3, 1) := by decide +kernel
theorem dX11_fitsHandlers_41 : decode cX11_fitsHandlers 41 = .ok (.iconst 4, 1) := by decide +kernel
theorem dX11_fitsHandlers_42 : decode cX11_fitsHandlers 42 = .ok (.invokevirtual 239, 3) := by decide +kernel
theorem dX11_fitsHandlers_45 : decode cX11_fitsHandlers 45 = .ok (.invokevirtual 242, 3) := by decide +kernel
theorem dX11_fitsHandlers_48 : decode cX11_fitsHandlers 48 = .ok (.bipush 64, 2) := by decide +kernel
theorem dX11_fitsHandlers_50 : decode cX11_fitsHandlers 50 = .ok (.imul, 1) := by decide +kernel
theorem dX11_fitsHandlers_51 : decode cX11_fitsHandlers 51 = .ok (.istore 4, 2) := by decide +kernel
theorem dX11_fitsHandlers_53 : decode cX11_fitsHandlers 53 = .ok (.iload 4, 2) := by decide +kernel
theorem dX11_fitsHandlers_55 : decode cX11_fitsHandlers 55 = .ok (.ifCond .lt 51, 3) := by decide +kernel
theorem dX11_fitsHandlers_58 : decode cX11_fitsHandlers 58 = .ok (.aload_n 0, 1) := by decide +kernel
theorem dX11_fitsHandlers_59 : decode cX11_fitsHandlers 59 = .ok (.iload 4, 2) := by decide +kernel
theorem dX11_fitsHandlers_61 : decode cX11_fitsHandlers 61 = .ok (.invokevirtual 304, 3) := by decide +kernel
theorem dX11_fitsHandlers_64 : decode cX11_fitsHandlers 64 = .ok (.ifCond .eq 42, 3) := by decide +kernel
theorem dX11_fitsHandlers_67 : decode cX11_fitsHandlers 67 = .ok (.aload_n 0, 1) := by decide +kernel
theorem dX11_fitsHandlers_68 : decode cX11_fitsHandlers 68 = .ok (.getfield 41, 3) := by decide +kernel
theorem dX11_fitsHandlers_71 : decode cX11_fitsHandlers 71 = .ok (.iload 4, 2) := by decide +kernel
theorem dX11_fitsHandlers_73 : decode cX11_fitsHandlers 73 = .ok (.iconst 2, 1) := by decide +kernel
theorem dX11_fitsHandlers_74 : decode cX11_fitsHandlers 74 = .ok (.iadd, 1) := by decide +kernel
theorem dX11_fitsHandlers_75 : decode cX11_fitsHandlers 75 = .ok (.iaload, 1) := by decide +kernel
theorem dX11_fitsHandlers_76 : decode cX11_fitsHandlers 76 = .ok (.iconst 1, 1) := by decide +kernel
theorem dX11_fitsHandlers_77 : decode cX11_fitsHandlers 77 = .ok (.if_icmp .ne 29, 3) := by decide +kernel
theorem dX11_fitsHandlers_80 : decode cX11_fitsHandlers 80 = .ok (.aload_n 0, 1) := by decide +kernel
theorem dX11_fitsHandlers_81 : decode cX11_fitsHandlers 81 = .ok (.aload_n 0, 1) := by decide +kernel
theorem dX11_fitsHandlers_82 : decode cX11_fitsHandlers 82 = .ok (.iload_n 3, 1) := by decide +kernel
theorem dX11_fitsHandlers_83 : decode cX11_fitsHandlers 83 = .ok (.invokevirtual 245, 3) := by decide +kernel
theorem dX11_fitsHandlers_86 : decode cX11_fitsHandlers 86 = .ok (.aload_n 0, 1) := by decide +kernel
theorem dX11_fitsHandlers_87 : decode cX11_fitsHandlers 87 = .ok (.getfield 41, 3) := by decide +kernel
theorem dX11_fitsHandlers_90 : decode cX11_fitsHandlers 90 = .ok (.iload 4, 2) := by decide +kernel
theorem dX11_fitsHandlers_92 : decode cX11_fitsHandlers 92 = .ok (.bipush 33, 2) := by decide +kernel
theorem dX11_fitsHandlers_94 : decode cX11_fitsHandlers 94 = .ok (.iadd, 1) := by decide +kernel
theorem dX11_fitsHandlers_95 : decode cX11_fitsHandlers 95 = .ok (.iaload, 1) := by decide +kernel
theorem dX11_fitsHandlers_96 : decode cX11_fitsHandlers 96 = .ok (.invokevirtual 303, 3) := by decide +kernel
theorem dX11_fitsHandlers_99 : decode cX11_fitsHandlers 99 = .ok (.ifCond .eq 7, 3) := by decide +kernel
theorem dX11_fitsHandlers_102 : decode cX11_fitsHandlers 102 = .ok (.iconst 1, 1) := by decide +kernel
theorem dX11_fitsHandlers_103 : decode cX11_fitsHandlers 103 = .ok (.goto 4, 3) := by decide +kernel
theorem dX11_fitsHandlers_106 : decode cX11_fitsHandlers 106 = .ok (.iconst 0, 1) := by decide +kernel
theorem dX11_fitsHandlers_107 : decode cX11_fitsHandlers 107 = .ok (.istore_n 2, 1) := by decide +kernel
theorem dX11_fitsHandlers_108 : decode cX11_fitsHandlers 108 = .ok (.iinc 3 1, 3) := by decide +kernel
theorem dX11_fitsHandlers_111 : decode cX11_fitsHandlers 111 = .ok (.goto (-107), 3) := by decide +kernel
theorem dX11_fitsHandlers_114 : decode cX11_fitsHandlers 114 = .ok (.iload_n 2, 1) := by decide +kernel
theorem dX11_fitsHandlers_115 : decode cX11_fitsHandlers 115 = .ok (.ireturn, 1) := by decide +kernel
theorem dX11_pop_0 : decode cX11_pop 0 = .ok (.aload_n 0, 1) := by decide +kernel
theorem dX11_pop_1 : decode cX11_pop 1 = .ok (.getfield 255, 3) := by decide +kernel
theorem dX11_pop_4 : decode cX11_pop 4 = .ok (.ifCond .ne 12, 3) := by decide +kernel
theorem dX11_pop_7 : decode cX11_pop 7 = .ok (.aload_n 0, 1) := by decide +kernel
theorem dX11_pop_8 : decode cX11_pop 8 = .ok (.iconst 0, 1) := by decide +kernel
theorem dX11_pop_9 : decode cX11_pop 9 = .ok (.putfield 295, 3) := by decide +kernel
theorem dX11_pop_12 : decode cX11_pop 12 = .ok (.sipush 304, 3) := by decide +kernel
theorem dX11_pop_15 : decode cX11_pop 15 = .ok (.ireturn, 1) := by decide +kernel
theorem dX11_pop_16 : decode cX11_pop 16 = .ok (.aload_n 0, 1) := by decide +kernel
theorem dX11_pop_17 : decode cX11_pop 17 = .ok (.dup, 1) := by decide +kernel
theorem dX11_pop_18 : decode cX11_pop 18 = .ok (.getfield 255, 3) := by decide +kernel
theorem dX11_pop_21 : decode cX11_pop 21 = .ok (.iconst 1, 1) := by decide +kernel
theorem dX11_pop_22 : decode cX11_pop 22 = .ok (.isub, 1) := by decide +kernel
theorem dX11_pop_23 : decode cX11_pop 23 = .ok (.putfield 255, 3) := by decide +kernel
theorem dX11_pop_26 : decode cX11_pop 26 = .ok (.aload_n 0, 1) := by decide +kernel
theorem dX11_pop_27 : decode cX11_pop 27 = .ok (.getfield 47, 3) := by decide +kernel
theorem dX11_pop_30 : decode cX11_pop 30 = .ok (.aload_n 0, 1) := by decide +kernel
theorem dX11_pop_31 : decode cX11_pop 31 = .ok (.getfield 255, 3) := by decide +kernel
theorem dX11_pop_34 : decode cX11_pop 34 = .ok (.iaload, 1) := by decide +kernel
theorem dX11_pop_35 : decode cX11_pop 35 = .ok (.ireturn, 1) := by decide +kernel
theorem dX11_want_0 : decode cX11_want 0 = .ok (.aload_n 0, 1) := by decide +kernel
theorem dX11_want_1 : decode cX11_want 1 = .ok (.invokevirtual 313, 3) := by decide +kernel
theorem dX11_want_4 : decode cX11_want 4 = .ok (.istore_n 2, 1) := by decide +kernel
theorem dX11_want_5 : decode cX11_want 5 = .ok (.aload_n 0, 1) := by decide +kernel
theorem dX11_want_6 : decode cX11_want 6 = .ok (.aload_n 0, 1) := by decide +kernel
theorem dX11_want_7 : decode cX11_want 7 = .ok (.getfield 295, 3) := by decide +kernel
theorem dX11_want_10 : decode cX11_want 10 = .ok (.ifCond .eq 26, 3) := by decide +kernel
theorem dX11_want_13 : decode cX11_want 13 = .ok (.iload_n 1, 1) := by decide +kernel
theorem dX11_want_14 : decode cX11_want 14 = .ok (.sipush 304, 3) := by decide +kernel
theorem dX11_want_17 : decode cX11_want 17 = .ok (.if_icmp .eq 15, 3) := by decide +kernel
theorem dX11_want_20 : decode cX11_want 20 = .ok (.aload_n 0, 1) := by decide +kernel
theorem dX11_want_21 : decode cX11_want 21 = .ok (.getfield 60, 3) := by decide +kernel
theorem dX11_want_24 : decode cX11_want 24 = .ok (.iload_n 2, 1) := by decide +kernel
theorem dX11_want_25 : decode cX11_want 25 = .ok (.iload_n 1, 1) := by decide +kernel
theorem dX11_want_26 : decode cX11_want 26 = .ok (.invokevirtual 248, 3) := by decide +kernel
theorem dX11_want_29 : decode cX11_want 29 = .ok (.ifCond .eq 7, 3) := by decide +kernel
theorem dX11_want_32 : decode cX11_want 32 = .ok (.iconst 1, 1) := by decide +kernel
theorem dX11_want_33 : decode cX11_want 33 = .ok (.goto 4, 3) := by decide +kernel
theorem dX11_want_36 : decode cX11_want 36 = .ok (.iconst 0, 1) := by decide +kernel
theorem dX11_want_37 : decode cX11_want 37 = .ok (.putfield 295, 3) := by decide +kernel
theorem dX11_want_40 : decode cX11_want 40 = .ok (.return_, 1) := by decide +kernel
theorem dX11_wantReference_0 : decode cX11_wantReference 0 = .ok (.aload_n 0, 1) := by decide +kernel
theorem dX11_wantReference_1 : decode cX11_wantReference 1 = .ok (.invokevirtual 313, 3) := by decide +kernel
theorem dX11_wantReference_4 : decode cX11_wantReference 4 = .ok (.istore_n 1, 1) := by decide +kernel
theorem dX11_wantReference_5 : decode cX11_wantReference 5 = .ok (.aload_n 0, 1) := by decide +kernel
theorem dX11_wantReference_6 : decode cX11_wantReference 6 = .ok (.aload_n 0, 1) := by decide +kernel
theorem dX11_wantReference_7 : decode cX11_wantReference 7 = .ok (.getfield 295, 3) := by decide +kernel
theorem dX11_wantReference_10 : decode cX11_wantReference 10 = .ok (.ifCond .eq 14, 3) := by decide +kernel
theorem dX11_wantReference_13 : decode cX11_wantReference 13 = .ok (.iload_n 1, 1) := by decide +kernel
theorem dX11_wantReference_14 : decode cX11_wantReference 14 = .ok (.invokestatic 316, 3) := by decide +kernel
theorem dX11_wantReference_17 : decode cX11_wantReference 17 = .ok (.ifCond .eq 7, 3) := by decide +kernel
theorem dX11_wantReference_20 : decode cX11_wantReference 20 = .ok (.iconst 1, 1) := by decide +kernel
theorem dX11_wantReference_21 : decode cX11_wantReference 21 = .ok (.goto 4, 3) := by decide +kernel
theorem dX11_wantReference_24 : decode cX11_wantReference 24 = .ok (.iconst 0, 1) := by decide +kernel
theorem dX11_wantReference_25 : decode cX11_wantReference 25 = .ok (.putfield 295, 3) := by decide +kernel
theorem dX11_wantReference_28 : decode cX11_wantReference 28 = .ok (.iload_n 1, 1) := by decide +kernel
theorem dX11_wantReference_29 : decode cX11_wantReference 29 = .ok (.ireturn, 1) := by decide +kernel
theorem dX11_wantArray_0 : decode cX11_wantArray 0 = .ok (.aload_n 0, 1) := by decide +kernel
theorem dX11_wantArray_1 : decode cX11_wantArray 1 = .ok (.invokevirtual 313, 3) := by decide +kernel
theorem dX11_wantArray_4 : decode cX11_wantArray 4 = .ok (.istore_n 3, 1) := by decide +kernel
theorem dX11_wantArray_5 : decode cX11_wantArray 5 = .ok (.iload_n 3, 1) := by decide +kernel
theorem dX11_wantArray_6 : decode cX11_wantArray 6 = .ok (.sipush 300, 3) := by decide +kernel
theorem dX11_wantArray_9 : decode cX11_wantArray 9 = .ok (.if_icmp .eq 28, 3) := by decide +kernel
theorem dX11_wantArray_12 : decode cX11_wantArray 12 = .ok (.iload_n 3, 1) := by decide +kernel
theorem dX11_wantArray_13 : decode cX11_wantArray 13 = .ok (.sipush 200, 3) := by decide +kernel
theorem dX11_wantArray_16 : decode cX11_wantArray 16 = .ok (.if_icmp .ne 10, 3) := by decide +kernel
theorem dX11_wantArray_19 : decode cX11_wantArray 19 = .ok (.iload_n 1, 1) := by decide +kernel
theorem dX11_wantArray_20 : decode cX11_wantArray 20 = .ok (.ifCond .eq 21, 3) := by decide +kernel
theorem dX11_wantArray_23 : decode cX11_wantArray 23 = .ok (.goto 14, 3) := by decide +kernel
theorem dX11_wantArray_26 : decode cX11_wantArray 26 = .ok (.iload_n 2, 1) := by decide +kernel
theorem dX11_wantArray_27 : decode cX11_wantArray 27 = .ok (.ifCond .eq 14, 3) := by decide +kernel
theorem dX11_wantArray_30 : decode cX11_wantArray 30 = .ok (.iload_n 3, 1) := by decide +kernel
theorem dX11_wantArray_31 : decode cX11_wantArray 31 = .ok (.invokestatic 319, 3) := by decide +kernel
theorem dX11_wantArray_34 : decode cX11_wantArray 34 = .ok (.ifCond .eq 7, 3) := by decide +kernel
theorem dX11_wantArray_37 : decode cX11_wantArray 37 = .ok (.iconst 1, 1) := by decide +kernel
theorem dX11_wantArray_38 : decode cX11_wantArray 38 = .ok (.goto 4, 3) := by decide +kernel
theorem dX11_wantArray_41 : decode cX11_wantArray 41 = .ok (.iconst 0, 1) := by decide +kernel
theorem dX11_wantArray_42 : decode cX11_wantArray 42 = .ok (.istore 4, 2) := by decide +kernel
theorem dX11_wantArray_44 : decode cX11_wantArray 44 = .ok (.aload_n 0, 1) := by decide +kernel
theorem dX11_wantArray_45 : decode cX11_wantArray 45 = .ok (.aload_n 0, 1) := by decide +kernel
theorem dX11_wantArray_46 : decode cX11_wantArray 46 = .ok (.getfield 295, 3) := by decide +kernel
theorem dX11_wantArray_49 : decode cX11_wantArray 49 = .ok (.ifCond .eq 12, 3) := by decide +kernel
theorem dX11_wantArray_52 : decode cX11_wantArray 52 = .ok (.iload 4, 2) := by decide +kernel
theorem dX11_wantArray_54 : decode cX11_wantArray 54 = .ok (.ifCond .eq 7, 3) := by decide +kernel
theorem dX11_wantArray_57 : decode cX11_wantArray 57 = .ok (.iconst 1, 1) := by decide +kernel
theorem dX11_wantArray_58 : decode cX11_wantArray 58 = .ok (.goto 4, 3) := by decide +kernel
theorem dX11_wantArray_61 : decode cX11_wantArray 61 = .ok (.iconst 0, 1) := by decide +kernel
theorem dX11_wantArray_62 : decode cX11_wantArray 62 = .ok (.putfield 295, 3) := by decide +kernel
theorem dX11_wantArray_65 : decode cX11_wantArray 65 = .ok (.iload_n 3, 1) := by decide +kernel
theorem dX11_wantArray_66 : decode cX11_wantArray 66 = .ok (.ireturn, 1) := by decide +kernel
theorem dX11_push_0 : decode cX11_push 0 = .ok (.aload_n 0, 1) := by decide +kernel
theorem dX11_push_1 : decode cX11_push 1 = .ok (.getfield 255, 3) := by decide +kernel
theorem dX11_push_4 : decode cX11_push 4 = .ok (.aload_n 0, 1) := by decide +kernel
theorem dX11_push_5 : decode cX11_push 5 = .ok (.getfield 261, 3) := by decide +kernel
theorem dX11_push_8 : decode cX11_push 8 = .ok (.if_icmp .lt 9, 3) := by decide +kernel
theorem dX11_push_11 : decode cX11_push 11 = .ok (.aload_n 0, 1) := by decide +kernel
theorem dX11_push_12 : decode cX11_push 12 = .ok (.iconst 0, 1) := by decide +kernel
theorem dX11_push_13 : decode cX11_push 13 = .ok (.putfield 295, 3) := by decide +kernel
theorem dX11_push_16 : decode cX11_push 16 = .ok (.return_, 1) := by decide +kernel
theorem dX11_push_17 : decode cX11_push 17 = .ok (.aload_n 0, 1) := by decide +kernel
theorem dX11_push_18 : decode cX11_push 18 = .ok (.getfield 47, 3) := by decide +kernel
theorem dX11_push_21 : decode cX11_push 21 = .ok (.aload_n 0, 1) := by decide +kernel
theorem dX11_push_22 : decode cX11_push 22 = .ok (.getfield 255, 3) := by decide +kernel
theorem dX11_push_25 : decode cX11_push 25 = .ok (.iload_n 1, 1) := by decide +kernel
theorem dX11_push_26 : decode cX11_push 26 = .ok (.iastore, 1) := by decide +kernel
theorem dX11_push_27 : decode cX11_push 27 = .ok (.aload_n 0, 1) := by decide +kernel
theorem dX11_push_28 : decode cX11_push 28 = .ok (.dup, 1) := by decide +kernel
theorem dX11_push_29 : decode cX11_push 29 = .ok (.getfield 255, 3) := by decide +kernel
theorem dX11_push_32 : decode cX11_push 32 = .ok (.iconst 1, 1) := by decide +kernel
theorem dX11_push_33 : decode cX11_push 33 = .ok (.iadd, 1) := by decide +kernel
theorem dX11_push_34 : decode cX11_push 34 = .ok (.putfield 255, 3) := by decide +kernel
theorem dX11_push_37 : decode cX11_push 37 = .ok (.return_, 1) := by decide +kernel
theorem dX11_applySimple_0 : decode cX11_applySimple 0 = .ok (.iload_n 1, 1) := by decide +kernel
theorem dX11_applySimple_1 : decode cX11_applySimple 1 = .ok (.iconst 1, 1) := by decide +kernel
theorem dX11_applySimple_2 : decode cX11_applySimple 2 = .ok (.if_icmp .ne 13, 3) := by decide +kernel
theorem dX11_applySimple_5 : decode cX11_applySimple 5 = .ok (.aload_n 0, 1) := by decide +kernel
theorem dX11_applySimple_6 : decode cX11_applySimple 6 = .ok (.sipush 300, 3) := by decide +kernel
theorem dX11_applySimple_9 : decode cX11_applySimple 9 = .ok (.invokevirtual 322, 3) := by decide +kernel
theorem dX11_applySimple_12 : decode cX11_applySimple 12 = .ok (.goto 167, 3) := by decide +kernel
theorem dX11_applySimple_15 : decode cX11_applySimple 15 = .ok (.iload_n 1, 1) := by decide +kernel
theorem dX11_applySimple_16 : decode cX11_applySimple 16 = .ok (.iconst 2, 1) := by decide +kernel
theorem dX11_applySimple_17 : decode cX11_applySimple 17 = .ok (.if_icmp .lt 9, 3) := by decide +kernel
theorem dX11_applySimple_20 : decode cX11_applySimple 20 = .ok (.iload_n 1, 1) := by decide +kernel
theorem dX11_applySimple_21 : decode cX11_applySimple 21 = .ok (.bipush 8, 2) := by decide +kernel
theorem dX11_applySimple_23 : decode cX11_applySimple 23 = .ok (.if_icmp .le 15, 3) := by decide +kernel
theorem dX11_applySimple_26 : decode cX11_applySimple 26 = .ok (.iload_n 1, 1) := by decide +kernel
theorem dX11_applySimple_27 : decode cX11_applySimple 27 = .ok (.bipush 16, 2) := by decide +kernel
theorem dX11_applySimple_29 : decode cX11_applySimple 29 = .ok (.if_icmp .eq 9, 3) := by decide +kernel
theorem dX11_applySimple_32 : decode cX11_applySimple 32 = .ok (.iload_n 1, 1) := by decide +kernel
theorem dX11_applySimple_33 : decode cX11_applySimple 33 = .ok (.bipush 18, 2) := by decide +kernel
theorem dX11_applySimple_35 : decode cX11_applySimple 35 = .ok (.if_icmp .ne 13, 3) := by decide +kernel
theorem dX11_applySimple_38 : decode cX11_applySimple 38 = .ok (.aload_n 0, 1) := by decide +kernel
theorem dX11_applySimple_39 : decode cX11_applySimple 39 = .ok (.sipush 301, 3) := by decide +kernel
theorem dX11_applySimple_42 : decode cX11_applySimple 42 = .ok (.invokevirtual 322, 3) := by decide +kernel
theorem dX11_applySimple_45 : decode cX11_applySimple 45 = .ok (.goto 134, 3) := by decide +kernel
theorem dX11_applySimple_48 : decode cX11_applySimple 48 = .ok (.iload_n 1, 1) := by decide +kernel
theorem dX11_applySimple_49 : decode cX11_applySimple 49 = .ok (.invokestatic 201, 3) := by decide +kernel
theorem dX11_applySimple_52 : decode cX11_applySimple 52 = .ok (.ifCond .eq 27, 3) := by decide +kernel
theorem dX11_applySimple_55 : decode cX11_applySimple 55 = .ok (.aload_n 0, 1) := by decide +kernel
theorem dX11_applySimple_56 : decode cX11_applySimple 56 = .ok (.sipush 301, 3) := by decide +kernel
theorem dX11_applySimple_59 : decode cX11_applySimple 59 = .ok (.invokevirtual 325, 3) := by decide +kernel
theorem dX11_applySimple_62 : decode cX11_applySimple 62 = .ok (.aload_n 0, 1) := by decide +kernel
theorem dX11_applySimple_63 : decode cX11_applySimple 63 = .ok (.sipush 301, 3) := by decide +kernel
theorem dX11_applySimple_66 : decode cX11_applySimple 66 = .ok (.invokevirtual 325, 3) := by decide +kernel
theorem dX11_applySimple_69 : decode cX11_applySimple 69 = .ok (.aload_n 0, 1) := by decide +kernel
theorem dX11_applySimple_70 : decode cX11_applySimple 70 = .ok (.sipush 301, 3) := by decide +kernel
theorem dX11_applySimple_73 : decode cX11_applySimple 73 = .ok (.invokevirtual 322, 3) := by decide +kernel
theorem dX11_applySimple_76 : decode cX11_applySimple 76 = .ok (.goto 103, 3) := by decide +kernel
theorem dX11_applySimple_79 : decode cX11_applySimple 79 = .ok (.iload_n 1, 1) := by decide +kernel
theorem dX11_applySimple_80 : decode cX11_applySimple 80 = .ok (.bipush 21, 2) := by decide +kernel
theorem dX11_applySimple_82 : decode cX11_applySimple 82 = .ok (.if_icmp .eq 21, 3) := by decide +kernel
theorem dX11_applySimple_85 : decode cX11_applySimple 85 = .ok (.iload_n 1, 1) := by decide +kernel
theorem dX11_applySimple_86 : decode cX11_applySimple 86 = .ok (.bipush 25, 2) := by decide +kernel
theorem dX11_applySimple_88 : decode cX11_applySimple 88 = .ok (.if_icmp .eq 15, 3) := by decide +kernel
theorem dX11_applySimple_91 : decode cX11_applySimple 91 = .ok (.iload_n 1, 1) := by decide +kernel
theorem dX11_applySimple_92 : decode cX11_applySimple 92 = .ok (.bipush 54, 2) := by decide +kernel
theorem dX11_applySimple_94 : decode cX11_applySimple 94 = .ok (.if_icmp .eq 9, 3) := by decide +kernel
theorem dX11_applySimple_97 : decode cX11_applySimple 97 = .ok (.iload_n 1, 1) := by decide +kernel
theorem dX11_applySimple_98 : decode cX11_applySimple 98 = .ok (.bipush 58, 2) := by decide +kernel
theorem dX11_applySimple_100 : decode cX11_applySimple 100 = .ok (.if_icmp .ne 12, 3) := by decide +kernel
theorem dX11_applySimple_103 : decode cX11_applySimple 103 = .ok (.aload_n 0, 1) := by decide +kernel
theorem dX11_applySimple_104 : decode cX11_applySimple 104 = .ok (.iload_n 1, 1) := by decide +kernel
theorem dX11_applySimple_105 : decode cX11_applySimple 105 = .ok (.iload_n 2, 1) := by decide +kernel
theorem dX11_applySimple_106 : decode cX11_applySimple 106 = .ok (.invokevirtual 328, 3) := by decide +kernel
theorem dX11_applySimple_109 : decode cX11_applySimple 109 = .ok (.goto 70, 3) := by decide +kernel
theorem dX11_applySimple_112 : decode cX11_applySimple 112 = .ok (.iload_n 1, 1) := by decide +kernel
theorem dX11_applySimple_113 : decode cX11_applySimple 113 = .ok (.invokestatic 198, 3) := by decide +kernel
theorem dX11_applySimple_116 : decode cX11_applySimple 116 = .ok (.ifCond .eq 11, 3) := by decide +kernel
theorem dX11_applySimple_119 : decode cX11_applySimple 119 = .ok (.aload_n 0, 1) := by decide +kernel
theorem dX11_applySimple_120 : decode cX11_applySimple 120 = .ok (.iload_n 1, 1) := by decide +kernel
theorem dX11_applySimple_121 : decode cX11_applySimple 121 = .ok (.invokevirtual 331, 3) := by decide +kernel
theorem dX11_applySimple_124 : decode cX11_applySimple 124 = .ok (.goto 55, 3) := by decide +kernel
theorem dX11_applySimple_127 : decode cX11_applySimple 127 = .ok (.iload_n 1, 1) := by decide +kernel
theorem dX11_applySimple_128 : decode cX11_applySimple 128 = .ok (.sipush 172, 3) := by decide +kernel
theorem dX11_applySimple_131 : decode cX11_applySimple 131 = .ok (.if_icmp .ge 11, 3) := by decide +kernel
theorem dX11_applySimple_134 : decode cX11_applySimple 134 = .ok (.aload_n 0, 1) := by decide +kernel
theorem dX11_applySimple_135 : decode cX11_applySimple 135 = .ok (.iload_n 1, 1) := by decide +kernel
theorem dX11_applySimple_136 : decode cX11_applySimple 136 = .ok (.invokevirtual 334, 3) := by decide +kernel
theorem dX11_applySimple_139 : decode cX11_applySimple 139 = .ok (.goto 40, 3) := by decide +kernel
theorem dX11_applySimple_142 : decode cX11_applySimple 142 = .ok (.iload_n 1, 1) := by decide +kernel
theorem dX11_applySimple_143 : decode cX11_applySimple 143 = .ok (.sipush 180, 3) := by decide +kernel
theorem dX11_applySimple_146 : decode cX11_applySimple 146 = .ok (.if_icmp .ge 11, 3) := by decide +kernel
theorem dX11_applySimple_149 : decode cX11_applySimple 149 = .ok (.aload_n 0, 1) := by decide +kernel
theorem dX11_applySimple_150 : decode cX11_applySimple 150 = .ok (.iload_n 1, 1) := by decide +kernel
theorem dX11_applySimple_151 : decode cX11_applySimple 151 = .ok (.invokevirtual 337, 3) := by decide +kernel
theorem dX11_applySimple_154 : decode cX11_applySimple 154 = .ok (.goto 25, 3) := by decide +kernel
theorem dX11_applySimple_157 : decode cX11_applySimple 157 = .ok (.iload_n 1, 1) := by decide +kernel
theorem dX11_applySimple_158 : decode cX11_applySimple 158 = .ok (.sipush 184, 3) := by decide +kernel
theorem dX11_applySimple_161 : decode cX11_applySimple 161 = .ok (.if_icmp .gt 12, 3) := by decide +kernel
theorem dX11_applySimple_164 : decode cX11_applySimple 164 = .ok (.aload_n 0, 1) := by decide +kernel
theorem dX11_applySimple_165 : decode cX11_applySimple 165 = .ok (.iload_n 1, 1) := by decide +kernel
theorem dX11_applySimple_166 : decode cX11_applySimple 166 = .ok (.iload_n 2, 1) := by decide +kernel
theorem dX11_applySimple_167 : decode cX11_applySimple 167 = .ok (.invokevirtual 340, 3) := by decide +kernel
theorem dX11_applySimple_170 : decode cX11_applySimple 170 = .ok (.goto 9, 3) := by decide +kernel
theorem dX11_applySimple_173 : decode cX11_applySimple 173 = .ok (.aload_n 0, 1) := by decide +kernel
theorem dX11_applySimple_174 : decode cX11_applySimple 174 = .ok (.iload_n 1, 1) := by decide +kernel
theorem dX11_applySimple_175 : decode cX11_applySimple 175 = .ok (.iload_n 2, 1) := by decide +kernel
theorem dX11_applySimple_176 : decode cX11_applySimple 176 = .ok (.invokevirtual 343, 3) := by decide +kernel
theorem dX11_applySimple_179 : decode cX11_applySimple 179 = .ok (.return_, 1) := by decide +kernel
theorem dX11_applyLocal_0 : decode cX11_applyLocal 0 = .ok (.iload_n 2, 1) := by decide +kernel
theorem dX11_applyLocal_1 : decode cX11_applyLocal 1 = .ok (.aload_n 0, 1) := by decide +kernel
theorem dX11_applyLocal_2 : decode cX11_applyLocal 2 = .ok (.iconst 4, 1) := by decide +kernel
theorem dX11_applyLocal_3 : decode cX11_applyLocal 3 = .ok (.invokevirtual 189, 3) := by decide +kernel
theorem dX11_applyLocal_6 : decode cX11_applyLocal 6 = .ok (.if_icmp .ge 12, 3) := by decide +kernel
theorem dX11_applyLocal_9 : decode cX11_applyLocal 9 = .ok (.iload_n 2, 1) := by decide +kernel
theorem dX11_applyLocal_10 : decode cX11_applyLocal 10 = .ok (.aload_n 0, 1) := by decide +kernel
theorem dX11_applyLocal_11 : decode cX11_applyLocal 11 = .ok (.getfield 44, 3) := by decide +kernel
theorem dX11_applyLocal_14 : decode cX11_applyLocal 14 = .ok (.arraylength, 1) := by decide +kernel
theorem dX11_applyLocal_15 : decode cX11_applyLocal 15 = .ok (.if_icmp .lt 11, 3) := by decide +kernel
theorem dX11_applyLocal_18 : decode cX11_applyLocal 18 = .ok (.aload_n 0, 1) := by decide +kernel
theorem dX11_applyLocal_19 : decode cX11_applyLocal 19 = .ok (.iconst 0, 1) := by decide +kernel
theorem dX11_applyLocal_20 : decode cX11_applyLocal 20 = .ok (.putfield 295, 3) := by decide +kernel
theorem dX11_applyLocal_23 : decode cX11_applyLocal 23 = .ok (.goto 119, 3) := by decide +kernel
theorem dX11_applyLocal_26 : decode cX11_applyLocal 26 = .ok (.iload_n 1, 1) := by decide +kernel
theorem dX11_applyLocal_27 : decode cX11_applyLocal 27 = .ok (.bipush 21, 2) := by decide +kernel
theorem dX11_applyLocal_29 : decode cX11_applyLocal 29 = .ok (.if_icmp .eq 9, 3) := by decide +kernel
theorem dX11_applyLocal_32 : decode cX11_applyLocal 32 = .ok (.iload_n 1, 1) := by decide +kernel
theorem dX11_applyLocal_33 : decode cX11_applyLocal 33 = .ok (.bipush 25, 2) := by decide +kernel
theorem dX11_applyLocal_35 : decode cX11_applyLocal 35 = .ok (.if_icmp .ne 72, 3) := by decide +kernel
theorem dX11_applyLocal_38 : decode cX11_applyLocal 38 = .ok (.iload_n 1, 1) := by decide +kernel
theorem dX11_applyLocal_39 : decode cX11_applyLocal 39 = .ok (.bipush 21, 2) := by decide +kernel
theorem dX11_applyLocal_41 : decode cX11_applyLocal 41 = .ok (.if_icmp .ne 23, 3) := by decide +kernel
theorem dX11_applyLocal_44 : decode cX11_applyLocal 44 = .ok (.aload_n 0, 1) := by decide +kernel
theorem dX11_applyLocal_45 : decode cX11_applyLocal 45 = .ok (.getfield 44, 3) := by decide +kernel
theorem dX11_applyLocal_48 : decode cX11_applyLocal 48 = .ok (.iload_n 2, 1) := by decide +kernel
theorem dX11_applyLocal_49 : decode cX11_applyLocal 49 = .ok (.iaload, 1) := by decide +kernel
theorem dX11_applyLocal_50 : decode cX11_applyLocal 50 = .ok (.sipush 301, 3) := by decide +kernel
theorem dX11_applyLocal_53 : decode cX11_applyLocal 53 = .ok (.if_icmp .ne 7, 3) := by decide +kernel
theorem dX11_applyLocal_56 : decode cX11_applyLocal 56 = .ok (.iconst 1, 1) := by decide +kernel
theorem dX11_applyLocal_57 : decode cX11_applyLocal 57 = .ok (.goto 16, 3) := by decide +kernel
theorem dX11_applyLocal_60 : decode cX11_applyLocal 60 = .ok (.iconst 0, 1) := by decide +kernel
theorem dX11_applyLocal_61 : decode cX11_applyLocal 61 = .ok (.goto 12, 3) := by decide +kernel
theorem dX11_applyLocal_64 : decode cX11_applyLocal 64 = .ok (.aload_n 0, 1) := by decide +kernel
theorem dX11_applyLocal_65 : decode cX11_applyLocal 65 = .ok (.getfield 44, 3) := by decide +kernel
theorem dX11_applyLocal_68 : decode cX11_applyLocal 68 = .ok (.iload_n 2, 1) := by decide +kernel
theorem dX11_applyLocal_69 : decode cX11_applyLocal 69 = .ok (.iaload, 1) := by decide +kernel
theorem dX11_applyLocal_70 : decode cX11_applyLocal 70 = .ok (.invokestatic 316, 3) := by decide +kernel
theorem dX11_applyLocal_73 : decode cX11_applyLocal 73 = .ok (.istore_n 3, 1) := by decide +kernel
theorem dX11_applyLocal_74 : decode cX11_applyLocal 74 = .ok (.aload_n 0, 1) := by decide +kernel
theorem dX11_applyLocal_75 : decode cX11_applyLocal 75 = .ok (.aload_n 0, 1) := by decide +kernel
theorem dX11_applyLocal_76 : decode cX11_applyLocal 76 = .ok (.getfield 295, 3) := by decide +kernel
theorem dX11_applyLocal_79 : decode cX11_applyLocal 79 = .ok (.ifCond .eq 11, 3) := by decide +kernel
theorem dX11_applyLocal_82 : decode cX11_applyLocal 82 = .ok (.iload_n 3, 1) := by decide +kernel
theorem dX11_applyLocal_83 : decode cX11_applyLocal 83 = .ok (.ifCond .eq 7, 3) := by decide +kernel
theorem dX11_applyLocal_86 : decode cX11_applyLocal 86 = .ok (.iconst 1, 1) := by decide +kernel
theorem dX11_applyLocal_87 : decode cX11_applyLocal 87 = .ok (.goto 4, 3) := by decide +kernel
theorem dX11_applyLocal_90 : decode cX11_applyLocal 90 = .ok (.iconst 0, 1) := by decide +kernel
theorem dX11_applyLocal_91 : decode cX11_applyLocal 91 = .ok (.putfield 295, 3) := by decide +kernel
theorem dX11_applyLocal_94 : decode cX11_applyLocal 94 = .ok (.aload_n 0, 1) := by decide +kernel
theorem dX11_applyLocal_95 : decode cX11_applyLocal 95 = .ok (.aload_n 0, 1) := by decide +kernel
theorem dX11_applyLocal_96 : decode cX11_applyLocal 96 = .ok (.getfield 44, 3) := by decide +kernel
theorem dX11_applyLocal_99 : decode cX11_applyLocal 99 = .ok (.iload_n 2, 1) := by decide +kernel
theorem dX11_applyLocal_100 : decode cX11_applyLocal 100 = .ok (.iaload, 1) := by decide +kernel
theorem dX11_applyLocal_101 : decode cX11_applyLocal 101 = .ok (.invokevirtual 322, 3) := by decide +kernel
theorem dX11_applyLocal_104 : decode cX11_applyLocal 104 = .ok (.goto 38, 3) := by decide +kernel
theorem dX11_applyLocal_107 : decode cX11_applyLocal 107 = .ok (.iload_n 1, 1) := by decide +kernel
theorem dX11_applyLocal_108 : decode cX11_applyLocal 108 = .ok (.bipush 54, 2) := by decide +kernel
theorem dX11_applyLocal_110 : decode cX11_applyLocal 110 = .ok (.if_icmp .ne 22, 3) := by decide +kernel
theorem dX11_applyLocal_113 : decode cX11_applyLocal 113 = .ok (.aload_n 0, 1) := by decide +kernel
theorem dX11_applyLocal_114 : decode cX11_applyLocal 114 = .ok (.sipush 301, 3) := by decide +kernel
theorem dX11_applyLocal_117 : decode cX11_applyLocal 117 = .ok (.invokevirtual 325, 3) := by decide +kernel
theorem dX11_applyLocal_120 : decode cX11_applyLocal 120 = .ok (.aload_n 0, 1) := by decide +kernel
theorem dX11_applyLocal_121 : decode cX11_applyLocal 121 = .ok (.getfield 44, 3) := by decide +kernel
theorem dX11_applyLocal_124 : decode cX11_applyLocal 124 = .ok (.iload_n 2, 1) := by decide +kernel
theorem dX11_applyLocal_125 : decode cX11_applyLocal 125 = .ok (.sipush 301, 3) := by decide +kernel
theorem dX11_applyLocal_128 : decode cX11_applyLocal 128 = .ok (.iastore, 1) := by decide +kernel
theorem dX11_applyLocal_129 : decode cX11_applyLocal 129 = .ok (.goto 13, 3) := by decide +kernel
theorem dX11_applyLocal_132 : decode cX11_applyLocal 132 = .ok (.aload_n 0, 1) := by decide +kernel
theorem dX11_applyLocal_133 : decode cX11_applyLocal 133 = .ok (.getfield 44, 3) := by decide +kernel
theorem dX11_applyLocal_136 : decode cX11_applyLocal 136 = .ok (.iload_n 2, 1) := by decide +kernel
theorem dX11_applyLocal_137 : decode cX11_applyLocal 137 = .ok (.aload_n 0, 1) := by decide +kernel
theorem dX11_applyLocal_138 : decode cX11_applyLocal 138 = .ok (.invokevirtual 346, 3) := by decide +kernel
theorem dX11_applyLocal_141 : decode cX11_applyLocal 141 = .ok (.iastore, 1) := by decide +kernel
theorem dX11_applyLocal_142 : decode cX11_applyLocal 142 = .ok (.return_, 1) := by decide +kernel
theorem dX11_applyJump_0 : decode cX11_applyJump 0 = .ok (.iload_n 1, 1) := by decide +kernel
theorem dX11_applyJump_1 : decode cX11_applyJump 1 = .ok (.sipush 167, 3) := by decide +kernel
theorem dX11_applyJump_4 : decode cX11_applyJump 4 = .ok (.if_icmp .ne 4, 3) := by decide +kernel
theorem dX11_applyJump_7 : decode cX11_applyJump 7 = .ok (.return_, 1) := by decide +kernel
theorem dX11_applyJump_8 : decode cX11_applyJump 8 = .ok (.iload_n 1, 1) := by decide +kernel
theorem dX11_applyJump_9 : decode cX11_applyJump 9 = .ok (.sipush 165, 3) := by decide +kernel
theorem dX11_applyJump_12 : decode cX11_applyJump 12 = .ok (.if_icmp .eq 10, 3) := by decide +kernel
theorem dX11_applyJump_15 : decode cX11_applyJump 15 = .ok (.iload_n 1, 1) := by decide +kernel
theorem dX11_applyJump_16 : decode cX11_applyJump 16 = .ok (.sipush 166, 3) := by decide +kernel
theorem dX11_applyJump_19 : decode cX11_applyJump 19 = .ok (.if_icmp .ne 14, 3) := by decide +kernel
theorem dX11_applyJump_22 : decode cX11_applyJump 22 = .ok (.aload_n 0, 1) := by decide +kernel
theorem dX11_applyJump_23 : decode cX11_applyJump 23 = .ok (.invokevirtual 346, 3) := by decide +kernel
theorem dX11_applyJump_26 : decode cX11_applyJump 26 = .ok (.pop, 1) := by decide +kernel
theorem dX11_applyJump_27 : decode cX11_applyJump 27 = .ok (.aload_n 0, 1) := by decide +kernel
theorem dX11_applyJump_28 : decode cX11_applyJump 28 = .ok (.invokevirtual 346, 3) := by decide +kernel
theorem dX11_applyJump_31 : decode cX11_applyJump 31 = .ok (.pop, 1) := by decide +kernel
theorem dX11_applyJump_32 : decode cX11_applyJump 32 = .ok (.return_, 1) := by decide +kernel
theorem dX11_applyJump_33 : decode cX11_applyJump 33 = .ok (.aload_n 0, 1) := by decide +kernel
theorem dX11_applyJump_34 : decode cX11_applyJump 34 = .ok (.sipush 301, 3) := by decide +kernel
theorem dX11_applyJump_37 : decode cX11_applyJump 37 = .ok (.invokevirtual 325, 3) := by decide +kernel
theorem dX11_applyJump_40 : decode cX11_applyJump 40 = .ok (.iload_n 1, 1) := by decide +kernel
theorem dX11_applyJump_41 : decode cX11_applyJump 41 = .ok (.sipush 159, 3) := by decide +kernel
theorem dX11_applyJump_44 : decode cX11_applyJump 44 = .ok (.if_icmp .lt 10, 3) := by decide +kernel
theorem dX11_applyJump_47 : decode cX11_applyJump 47 = .ok (.aload_n 0, 1) := by decide +kernel
theorem dX11_applyJump_48 : decode cX11_applyJump 48 = .ok (.sipush 301, 3) := by decide +kernel
theorem dX11_applyJump_51 : decode cX11_applyJump 51 = .ok (.invokevirtual 325, 3) := by decide +kernel
theorem dX11_applyJump_54 : decode cX11_applyJump 54 = .ok (.return_, 1) := by decide +kernel
theorem dX11_applyArray_0 : decode cX11_applyArray 0 = .ok (.iload_n 1, 1) := by decide +kernel
theorem dX11_applyArray_1 : decode cX11_applyArray 1 = .ok (.lookupswitch 218 #[(46, 67), (50, 91), (79, 129), (83, 153), (87, 175), (89, 183), (116, 201)], 67) := by decide +kernel
theorem dX11_applyArray_68 : decode cX11_applyArray 68 = .ok (.aload_n 0, 1) := by decide +kernel
theorem dX11_applyArray_69 : decode cX11_applyArray 69 = .ok (.sipush 301, 3) := by decide +kernel
theorem dX11_applyArray_72 : decode cX11_applyArray 72 = .ok (.invokevirtual 325, 3) := by decide +kernel
theorem dX11_applyArray_75 : decode cX11_applyArray 75 = .ok (.aload_n 0, 1) := by decide +kernel
theorem dX11_applyArray_76 : decode cX11_applyArray 76 = .ok (.iconst 1, 1) := by decide +kernel
theorem dX11_applyArray_77 : decode cX11_applyArray 77 = .ok (.iconst 0, 1) := by decide +kernel
theorem dX11_applyArray_78 : decode cX11_applyArray 78 = .ok (.invokevirtual 349, 3) := by decide +kernel
theorem dX11_applyArray_81 : decode cX11_applyArray 81 = .ok (.pop, 1) := by decide +kernel
theorem dX11_applyArray_82 : decode cX11_applyArray 82 = .ok (.aload_n 0, 1) := by decide +kernel
theorem dX11_applyArray_83 : decode cX11_applyArray 83 = .ok (.sipush 301, 3) := by decide +kernel
theorem dX11_applyArray_86 : decode cX11_applyArray 86 = .ok (.invokevirtual 322, 3) := by decide +kernel
theorem dX11_applyArray_89 : decode cX11_applyArray 89 = .ok (.goto 130, 3) := by decide +kernel
theorem dX11_applyArray_92 : decode cX11_applyArray 92 = .ok (.aload_n 0, 1) := by decide +kernel
theorem dX11_applyArray_93 : decode cX11_applyArray 93 = .ok (.sipush 301, 3) := by decide +kernel
theorem dX11_applyArray_96 : decode cX11_applyArray 96 = .ok (.invokevirtual 325, 3) := by decide +kernel
theorem dX11_applyArray_99 : decode cX11_applyArray 99 = .ok (.aload_n 0, 1) := by decide +kernel
theorem dX11_applyArray_100 : decode cX11_applyArray 100 = .ok (.iconst 0, 1) := by decide +kernel
theorem dX11_applyArray_101 : decode cX11_applyArray 101 = .ok (.iconst 1, 1) := by decide +kernel
theorem dX11_applyArray_102 : decode cX11_applyArray 102 = .ok (.invokevirtual 349, 3) := by decide +kernel
theorem dX11_applyArray_105 : decode cX11_applyArray 105 = .ok (.istore_n 2, 1) := by decide +kernel
theorem dX11_applyArray_106 : decode cX11_applyArray 106 = .ok (.aload_n 0, 1) := by decide +kernel
theorem dX11_applyArray_107 : decode cX11_applyArray 107 = .ok (.iload_n 2, 1) := by decide +kernel
theorem dX11_applyArray_108 : decode cX11_applyArray 108 = .ok (.sipush 300, 3) := by decide +kernel
theorem dX11_applyArray_111 : decode cX11_applyArray 111 = .ok (.if_icmp .ne 9, 3) := by decide +kernel
theorem dX11_applyArray_114 : decode cX11_applyArray 114 = .ok (.sipush 300, 3) := by decide +kernel
theorem dX11_applyArray_117 : decode cX11_applyArray 117 = .ok (.goto 7, 3) := by decide +kernel
theorem dX11_applyArray_120 : decode cX11_applyArray 120 = .ok (.iload_n 2, 1) := by decide +kernel
theorem dX11_applyArray_121 : decode cX11_applyArray 121 = .ok (.invokestatic 353, 3) := by decide +kernel
theorem dX11_applyArray_124 : decode cX11_applyArray 124 = .ok (.invokevirtual 322, 3) := by decide +kernel
theorem dX11_applyArray_127 : decode cX11_applyArray 127 = .ok (.goto 92, 3) := by decide +kernel
theorem dX11_applyArray_130 : decode cX11_applyArray 130 = .ok (.aload_n 0, 1) := by decide +kernel
theorem dX11_applyArray_131 : decode cX11_applyArray 131 = .ok (.sipush 301, 3) := by decide +kernel
theorem dX11_applyArray_134 : decode cX11_applyArray 134 = .ok (.invokevirtual 325, 3) := by decide +kernel
theorem dX11_applyArray_137 : decode cX11_applyArray 137 = .ok (.aload_n 0, 1) := by decide +kernel
theorem dX11_applyArray_138 : decode cX11_applyArray 138 = .ok (.sipush 301, 3) := by decide +kernel
theorem dX11_applyArray_141 : decode cX11_applyArray 141 = .ok (.invokevirtual 325, 3) := by decide +kernel
theorem dX11_applyArray_144 : decode cX11_applyArray 144 = .ok (.aload_n 0, 1) := by decide +kernel
theorem dX11_applyArray_145 : decode cX11_applyArray 145 = .ok (.iconst 1, 1) := by decide +kernel
theorem dX11_applyArray_146 : decode cX11_applyArray 146 = .ok (.iconst 0, 1) := by decide +kernel
theorem dX11_applyArray_147 : decode cX11_applyArray 147 = .ok (.invokevirtual 349, 3) := by decide +kernel
theorem dX11_applyArray_150 : decode cX11_applyArray 150 = .ok (.pop, 1) := by decide +kernel
theorem dX11_applyArray_151 : decode cX11_applyArray 151 = .ok (.goto 68, 3) := by decide +kernel
theorem dX11_applyArray_154 : decode cX11_applyArray 154 = .ok (.aload_n 0, 1) := by decide +kernel
theorem dX11_applyArray_155 : decode cX11_applyArray 155 = .ok (.invokevirtual 346, 3) := by decide +kernel
theorem dX11_applyArray_158 : decode cX11_applyArray 158 = .ok (.pop, 1) := by decide +kernel
theorem dX11_applyArray_159 : decode cX11_applyArray 159 = .ok (.aload_n 0, 1) := by decide +kernel
theorem dX11_applyArray_160 : decode cX11_applyArray 160 = .ok (.sipush 301, 3) := by decide +kernel
theorem dX11_applyArray_163 : decode cX11_applyArray 163 = .ok (.invokevirtual 325, 3) := by decide +kernel
theorem dX11_applyArray_166 : decode cX11_applyArray 166 = .ok (.aload_n 0, 1) := by decide +kernel
theorem dX11_applyArray_167 : decode cX11_applyArray 167 = .ok (.iconst 0, 1) := by decide +kernel
theorem dX11_applyArray_168 : decode cX11_applyArray 168 = .ok (.iconst 1, 1) := by decide +kernel
theorem dX11_applyArray_169 : decode cX11_applyArray 169 = .ok (.invokevirtual 349, 3) := by decide +kernel
theorem dX11_applyArray_172 : decode cX11_applyArray 172 = .ok (.pop, 1) := by decide +kernel
theorem dX11_applyArray_173 : decode cX11_applyArray 173 = .ok (.goto 46, 3) := by decide +kernel
theorem dX11_applyArray_176 : decode cX11_applyArray 176 = .ok (.aload_n 0, 1) := by decide +kernel
theorem dX11_applyArray_177 : decode cX11_applyArray 177 = .ok (.invokevirtual 313, 3) := by decide +kernel
theorem dX11_applyArray_180 : decode cX11_applyArray 180 = .ok (.pop, 1) := by decide +kernel
theorem dX11_applyArray_181 : decode cX11_applyArray 181 = .ok (.goto 38, 3) := by decide +kernel
theorem dX11_applyArray_184 : decode cX11_applyArray 184 = .ok (.aload_n 0, 1) := by decide +kernel
theorem dX11_applyArray_185 : decode cX11_applyArray 185 = .ok (.invokevirtual 313, 3) := by decide +kernel
theorem dX11_applyArray_188 : decode cX11_applyArray 188 = .ok (.istore_n 3, 1) := by decide +kernel
theorem dX11_applyArray_189 : decode cX11_applyArray 189 = .ok (.aload_n 0, 1) := by decide +kernel
theorem dX11_applyArray_190 : decode cX11_applyArray 190 = .ok (.iload_n 3, 1) := by decide +kernel
theorem dX11_applyArray_191 : decode cX11_applyArray 191 = .ok (.invokevirtual 322, 3) := by decide +kernel
theorem dX11_applyArray_194 : decode cX11_applyArray 194 = .ok (.aload_n 0, 1) := by decide +kernel
theorem dX11_applyArray_195 : decode cX11_applyArray 195 = .ok (.iload_n 3, 1) := by decide +kernel
theorem dX11_applyArray_196 : decode cX11_applyArray 196 = .ok (.invokevirtual 322, 3) := by decide +kernel
theorem dX11_applyArray_199 : decode cX11_applyArray 199 = .ok (.goto 20, 3) := by decide +kernel
theorem dX11_applyArray_202 : decode cX11_applyArray 202 = .ok (.aload_n 0, 1) := by decide +kernel
theorem dX11_applyArray_203 : decode cX11_applyArray 203 = .ok (.sipush 301, 3) := by decide +kernel
theorem dX11_applyArray_206 : decode cX11_applyArray 206 = .ok (.invokevirtual 325, 3) := by decide +kernel
theorem dX11_applyArray_209 : decode cX11_applyArray 209 = .ok (.aload_n 0, 1) := by decide +kernel
theorem dX11_applyArray_210 : decode cX11_applyArray 210 = .ok (.sipush 301, 3) := by decide +kernel
theorem dX11_applyArray_213 : decode cX11_applyArray 213 = .ok (.invokevirtual 322, 3) := by decide +kernel
theorem dX11_applyArray_216 : decode cX11_applyArray 216 = .ok (.goto 3, 3) := by decide +kernel
theorem dX11_applyArray_219 : decode cX11_applyArray 219 = .ok (.return_, 1) := by decide +kernel
theorem dX11_applyReturn_0 : decode cX11_applyReturn 0 = .ok (.iload_n 1, 1) := by decide +kernel
theorem dX11_applyReturn_1 : decode cX11_applyReturn 1 = .ok (.sipush 177, 3) := by decide +kernel
theorem dX11_applyReturn_4 : decode cX11_applyReturn 4 = .ok (.if_icmp .ne 25, 3) := by decide +kernel
theorem dX11_applyReturn_7 : decode cX11_applyReturn 7 = .ok (.aload_n 0, 1) := by decide +kernel
theorem dX11_applyReturn_8 : decode cX11_applyReturn 8 = .ok (.aload_n 0, 1) := by decide +kernel
theorem dX11_applyReturn_9 : decode cX11_applyReturn 9 = .ok (.getfield 264, 3) := by decide +kernel
theorem dX11_applyReturn_12 : decode cX11_applyReturn 12 = .ok (.sipush 303, 3) := by decide +kernel
theorem dX11_applyReturn_15 : decode cX11_applyReturn 15 = .ok (.if_icmp .ne 7, 3) := by decide +kernel
theorem dX11_applyReturn_18 : decode cX11_applyReturn 18 = .ok (.iconst 1, 1) := by decide +kernel
theorem dX11_applyReturn_19 : decode cX11_applyReturn 19 = .ok (.goto 4, 3) := by decide +kernel
theorem dX11_applyReturn_22 : decode cX11_applyReturn 22 = .ok (.iconst 0, 1) := by decide +kernel
theorem dX11_applyReturn_23 : decode cX11_applyReturn 23 = .ok (.putfield 295, 3) := by decide +kernel
theorem dX11_applyReturn_26 : decode cX11_applyReturn 26 = .ok (.goto 90, 3) := by decide +kernel
theorem dX11_applyReturn_29 : decode cX11_applyReturn 29 = .ok (.iload_n 1, 1) := by decide +kernel
theorem dX11_applyReturn_30 : decode cX11_applyReturn 30 = .ok (.sipush 172, 3) := by decide +kernel
theorem dX11_applyReturn_33 : decode cX11_applyReturn 33 = .ok (.if_icmp .ne 39, 3) := by decide +kernel
theorem dX11_applyReturn_36 : decode cX11_applyReturn 36 = .ok (.aload_n 0, 1) := by decide +kernel
theorem dX11_applyReturn_37 : decode cX11_applyReturn 37 = .ok (.sipush 301, 3) := by decide +kernel
theorem dX11_applyReturn_40 : decode cX11_applyReturn 40 = .ok (.invokevirtual 325, 3) := by decide +kernel
theorem dX11_applyReturn_43 : decode cX11_applyReturn 43 = .ok (.aload_n 0, 1) := by decide +kernel
theorem dX11_applyReturn_44 : decode cX11_applyReturn 44 = .ok (.aload_n 0, 1) := by decide +kernel
theorem dX11_applyReturn_45 : decode cX11_applyReturn 45 = .ok (.getfield 295, 3) := by decide +kernel
theorem dX11_applyReturn_48 : decode cX11_applyReturn 48 = .ok (.ifCond .eq 17, 3) := by decide +kernel
theorem dX11_applyReturn_51 : decode cX11_applyReturn 51 = .ok (.aload_n 0, 1) := by decide +kernel
theorem dX11_applyReturn_52 : decode cX11_applyReturn 52 = .ok (.getfield 264, 3) := by decide +kernel
theorem dX11_applyReturn_55 : decode cX11_applyReturn 55 = .ok (.sipush 301, 3) := by decide +kernel
theorem dX11_applyReturn_58 : decode cX11_applyReturn 58 = .ok (.if_icmp .ne 7, 3) := by decide +kernel
theorem dX11_applyReturn_61 : decode cX11_applyReturn 61 = .ok (.iconst 1, 1) := by decide +kernel
theorem dX11_applyReturn_62 : decode cX11_applyReturn 62 = .ok (.goto 4, 3) := by decide +kernel
theorem dX11_applyReturn_65 : decode cX11_applyReturn 65 = .ok (.iconst 0, 1) := by decide +kernel
theorem dX11_applyReturn_66 : decode cX11_applyReturn 66 = .ok (.putfield 295, 3) := by decide +kernel
theorem dX11_applyReturn_69 : decode cX11_applyReturn 69 = .ok (.goto 47, 3) := by decide +kernel
theorem dX11_applyReturn_72 : decode cX11_applyReturn 72 = .ok (.aload_n 0, 1) := by decide +kernel
theorem dX11_applyReturn_73 : decode cX11_applyReturn 73 = .ok (.aload_n 0, 1) := by decide +kernel
theorem dX11_applyReturn_74 : decode cX11_applyReturn 74 = .ok (.getfield 264, 3) := by decide +kernel
theorem dX11_applyReturn_77 : decode cX11_applyReturn 77 = .ok (.invokevirtual 325, 3) := by decide +kernel
theorem dX11_applyReturn_80 : decode cX11_applyReturn 80 = .ok (.aload_n 0, 1) := by decide +kernel
theorem dX11_applyReturn_81 : decode cX11_applyReturn 81 = .ok (.aload_n 0, 1) := by decide +kernel
theorem dX11_applyReturn_82 : decode cX11_applyReturn 82 = .ok (.getfield 295, 3) := by decide +kernel
theorem dX11_applyReturn_85 : decode cX11_applyReturn 85 = .ok (.ifCond .eq 27, 3) := by decide +kernel
theorem dX11_applyReturn_88 : decode cX11_applyReturn 88 = .ok (.aload_n 0, 1) := by decide +kernel
theorem dX11_applyReturn_89 : decode cX11_applyReturn 89 = .ok (.getfield 264, 3) := by decide +kernel
theorem dX11_applyReturn_92 : decode cX11_applyReturn 92 = .ok (.sipush 301, 3) := by decide +kernel
theorem dX11_applyReturn_95 : decode cX11_applyReturn 95 = .ok (.if_icmp .eq 17, 3) := by decide +kernel
theorem dX11_applyReturn_98 : decode cX11_applyReturn 98 = .ok (.aload_n 0, 1) := by decide +kernel
theorem dX11_applyReturn_99 : decode cX11_applyReturn 99 = .ok (.getfield 264, 3) := by decide +kernel
theorem dX11_applyReturn_102 : decode cX11_applyReturn 102 = .ok (.sipush 303, 3) := by decide +kernel
theorem dX11_applyReturn_105 : decode cX11_applyReturn 105 = .ok (.if_icmp .eq 7, 3) := by decide +kernel
theorem dX11_applyReturn_108 : decode cX11_applyReturn 108 = .ok (.iconst 1, 1) := by decide +kernel
theorem dX11_applyReturn_109 : decode cX11_applyReturn 109 = .ok (.goto 4, 3) := by decide +kernel
theorem dX11_applyReturn_112 : decode cX11_applyReturn 112 = .ok (.iconst 0, 1) := by decide +kernel
theorem dX11_applyReturn_113 : decode cX11_applyReturn 113 = .ok (.putfield 295, 3) := by decide +kernel
theorem dX11_applyReturn_116 : decode cX11_applyReturn 116 = .ok (.return_, 1) := by decide +kernel
theorem dX11_applyMember_0 : decode cX11_applyMember 0 = .ok (.aload_n 0, 1) := by decide +kernel
theorem dX11_applyMember_1 : decode cX11_applyMember 1 = .ok (.getfield 23, 3) := by decide +kernel
theorem dX11_applyMember_4 : decode cX11_applyMember 4 = .ok (.aload_n 0, 1) := by decide +kernel
theorem dX11_applyMember_5 : decode cX11_applyMember 5 = .ok (.getfield 62, 3) := by decide +kernel
theorem dX11_applyMember_8 : decode cX11_applyMember 8 = .ok (.iload_n 2, 1) := by decide +kernel
theorem dX11_applyMember_9 : decode cX11_applyMember 9 = .ok (.iconst 0, 1) := by decide +kernel
theorem dX11_applyMember_10 : decode cX11_applyMember 10 = .ok (.invokevirtual 177, 3) := by decide +kernel
theorem dX11_applyMember_13 : decode cX11_applyMember 13 = .ok (.iaload, 1) := by decide +kernel
theorem dX11_applyMember_14 : decode cX11_applyMember 14 = .ok (.istore_n 3, 1) := by decide +kernel
theorem dX11_applyMember_15 : decode cX11_applyMember 15 = .ok (.iload_n 2, 1) := by decide +kernel
theorem dX11_applyMember_16 : decode cX11_applyMember 16 = .ok (.bipush 7, 2) := by decide +kernel
theorem dX11_applyMember_18 : decode cX11_applyMember 18 = .ok (.imul, 1) := by decide +kernel
theorem dX11_applyMember_19 : decode cX11_applyMember 19 = .ok (.istore 4, 2) := by decide +kernel
theorem dX11_applyMember_21 : decode cX11_applyMember 21 = .ok (.iload_n 1, 1) := by decide +kernel
theorem dX11_applyMember_22 : decode cX11_applyMember 22 = .ok (.lookupswitch 64 #[(180, 26), (181, 45)], 26) := by decide +kernel
theorem dX11_applyMember_48 : decode cX11_applyMember 48 = .ok (.aload_n 0, 1) := by decide +kernel
theorem dX11_applyMember_49 : decode cX11_applyMember 49 = .ok (.iload_n 3, 1) := by decide +kernel
theorem dX11_applyMember_50 : decode cX11_applyMember 50 = .ok (.invokevirtual 325, 3) := by decide +kernel
theorem dX11_applyMember_53 : decode cX11_applyMember 53 = .ok (.aload_n 0, 1) := by decide +kernel
theorem dX11_applyMember_54 : decode cX11_applyMember 54 = .ok (.aload_n 0, 1) := by decide +kernel
theorem dX11_applyMember_55 : decode cX11_applyMember 55 = .ok (.getfield 33, 3) := by decide +kernel
theorem dX11_applyMember_58 : decode cX11_applyMember 58 = .ok (.iload 4, 2) := by decide +kernel
theorem dX11_applyMember_60 : decode cX11_applyMember 60 = .ok (.iaload, 1) := by decide +kernel
theorem dX11_applyMember_61 : decode cX11_applyMember 61 = .ok (.invokevirtual 322, 3) := by decide +kernel
theorem dX11_applyMember_64 : decode cX11_applyMember 64 = .ok (.goto 91, 3) := by decide +kernel
theorem dX11_applyMember_67 : decode cX11_applyMember 67 = .ok (.aload_n 0, 1) := by decide +kernel
theorem dX11_applyMember_68 : decode cX11_applyMember 68 = .ok (.aload_n 0, 1) := by decide +kernel
theorem dX11_applyMember_69 : decode cX11_applyMember 69 = .ok (.getfield 33, 3) := by decide +kernel
theorem dX11_applyMember_72 : decode cX11_applyMember 72 = .ok (.iload 4, 2) := by decide +kernel
theorem dX11_applyMember_74 : decode cX11_applyMember 74 = .ok (.iaload, 1) := by decide +kernel
theorem dX11_applyMember_75 : decode cX11_applyMember 75 = .ok (.invokevirtual 325, 3) := by decide +kernel
theorem dX11_applyMember_78 : decode cX11_applyMember 78 = .ok (.aload_n 0, 1) := by decide +kernel
theorem dX11_applyMember_79 : decode cX11_applyMember 79 = .ok (.iload_n 3, 1) := by decide +kernel
theorem dX11_applyMember_80 : decode cX11_applyMember 80 = .ok (.invokevirtual 325, 3) := by decide +kernel
theorem dX11_applyMember_83 : decode cX11_applyMember 83 = .ok (.goto 72, 3) := by decide +kernel
theorem dX11_applyMember_86 : decode cX11_applyMember 86 = .ok (.aload_n 0, 1) := by decide +kernel
theorem dX11_applyMember_87 : decode cX11_applyMember 87 = .ok (.getfield 30, 3) := by decide +kernel
theorem dX11_applyMember_90 : decode cX11_applyMember 90 = .ok (.iload_n 2, 1) := by decide +kernel
theorem dX11_applyMember_91 : decode cX11_applyMember 91 = .ok (.iaload, 1) := by decide +kernel
theorem dX11_applyMember_92 : decode cX11_applyMember 92 = .ok (.istore 5, 2) := by decide +kernel
theorem dX11_applyMember_94 : decode cX11_applyMember 94 = .ok (.iload 5, 2) := by decide +kernel
theorem dX11_applyMember_96 : decode cX11_applyMember 96 = .ok (.ifCond .le 23, 3) := by decide +kernel
theorem dX11_applyMember_99 : decode cX11_applyMember 99 = .ok (.aload_n 0, 1) := by decide +kernel
theorem dX11_applyMember_100 : decode cX11_applyMember 100 = .ok (.aload_n 0, 1) := by decide +kernel
theorem dX11_applyMember_101 : decode cX11_applyMember 101 = .ok (.getfield 33, 3) := by decide +kernel
theorem dX11_applyMember_104 : decode cX11_applyMember 104 = .ok (.iload 4, 2) := by decide +kernel
theorem dX11_applyMember_106 : decode cX11_applyMember 106 = .ok (.iload 5, 2) := by decide +kernel
theorem dX11_applyMember_108 : decode cX11_applyMember 108 = .ok (.iadd, 1) := by decide +kernel
theorem dX11_applyMember_109 : decode cX11_applyMember 109 = .ok (.iaload, 1) := by decide +kernel
theorem dX11_applyMember_110 : decode cX11_applyMember 110 = .ok (.invokevirtual 325, 3) := by decide +kernel
theorem dX11_applyMember_113 : decode cX11_applyMember 113 = .ok (.iinc 5 (-1), 3) := by decide +kernel
theorem dX11_applyMember_116 : decode cX11_applyMember 116 = .ok (.goto (-22), 3) := by decide +kernel
theorem dX11_applyMember_119 : decode cX11_applyMember 119 = .ok (.iload_n 1, 1) := by decide +kernel
theorem dX11_applyMember_120 : decode cX11_applyMember 120 = .ok (.sipush 182, 3) := by decide +kernel
theorem dX11_applyMember_123 : decode cX11_applyMember 123 = .ok (.if_icmp .ne 8, 3) := by decide +kernel
theorem dX11_applyMember_126 : decode cX11_applyMember 126 = .ok (.aload_n 0, 1) := by decide +kernel
theorem dX11_applyMember_127 : decode cX11_applyMember 127 = .ok (.iload_n 3, 1) := by decide +kernel
theorem dX11_applyMember_128 : decode cX11_applyMember 128 = .ok (.invokevirtual 325, 3) := by decide +kernel
theorem dX11_applyMember_131 : decode cX11_applyMember 131 = .ok (.aload_n 0, 1) := by decide +kernel
theorem dX11_applyMember_132 : decode cX11_applyMember 132 = .ok (.getfield 33, 3) := by decide +kernel
theorem dX11_applyMember_135 : decode cX11_applyMember 135 = .ok (.iload 4, 2) := by decide +kernel
theorem dX11_applyMember_137 : decode cX11_applyMember 137 = .ok (.iaload, 1) := by decide +kernel
theorem dX11_applyMember_138 : decode cX11_applyMember 138 = .ok (.sipush 303, 3) := by decide +kernel
theorem dX11_applyMember_141 : decode cX11_applyMember 141 = .ok (.if_icmp .eq 14, 3) := by decide +kernel
theorem dX11_applyMember_144 : decode cX11_applyMember 144 = .ok (.aload_n 0, 1) := by decide +kernel
theorem dX11_applyMember_145 : decode cX11_applyMember 145 = .ok (.aload_n 0, 1) := by decide +kernel
theorem dX11_applyMember_146 : decode cX11_applyMember 146 = .ok (.getfield 33, 3) := by decide +kernel
theorem dX11_applyMember_149 : decode cX11_applyMember 149 = .ok (.iload 4, 2) := by decide +kernel
theorem dX11_applyMember_151 : decode cX11_applyMember 151 = .ok (.iaload, 1) := by decide +kernel
theorem dX11_applyMember_152 : decode cX11_applyMember 152 = .ok (.invokevirtual 322, 3) := by decide +kernel
theorem dX11_applyMember_155 : decode cX11_applyMember 155 = .ok (.return_, 1) := by decide +kernel
theorem dX11_applyObject_0 : decode cX11_applyObject 0 = .ok (.iload_n 1, 1) := by decide +kernel
theorem dX11_applyObject_1 : decode cX11_applyObject 1 = .ok (.tableswitch 149 186 192 #[43, 53, 66, 83, 106, 123, 131], 43) := by decide +kernel
theorem dX11_applyObject_44 : decode cX11_applyObject 44 = .ok (.aload_n 0, 1) := by decide +kernel
theorem dX11_applyObject_45 : decode cX11_applyObject 45 = .ok (.sipush 301, 3) := by decide +kernel
theorem dX11_applyObject_48 : decode cX11_applyObject 48 = .ok (.invokevirtual 325, 3) := by decide +kernel
theorem dX11_applyObject_51 : decode cX11_applyObject 51 = .ok (.goto 111, 3) := by decide +kernel
theorem dX11_applyObject_54 : decode cX11_applyObject 54 = .ok (.aload_n 0, 1) := by decide +kernel
theorem dX11_applyObject_55 : decode cX11_applyObject 55 = .ok (.aload_n 0, 1) := by decide +kernel
theorem dX11_applyObject_56 : decode cX11_applyObject 56 = .ok (.getfield 23, 3) := by decide +kernel
theorem dX11_applyObject_59 : decode cX11_applyObject 59 = .ok (.iload_n 2, 1) := by decide +kernel
theorem dX11_applyObject_60 : decode cX11_applyObject 60 = .ok (.iaload, 1) := by decide +kernel
theorem dX11_applyObject_61 : decode cX11_applyObject 61 = .ok (.invokevirtual 322, 3) := by decide +kernel
theorem dX11_applyObject_64 : decode cX11_applyObject 64 = .ok (.goto 98, 3) := by decide +kernel
theorem dX11_applyObject_67 : decode cX11_applyObject 67 = .ok (.aload_n 0, 1) := by decide +kernel
theorem dX11_applyObject_68 : decode cX11_applyObject 68 = .ok (.sipush 301, 3) := by decide +kernel
theorem dX11_applyObject_71 : decode cX11_applyObject 71 = .ok (.invokevirtual 325, 3) := by decide +kernel
theorem dX11_applyObject_74 : decode cX11_applyObject 74 = .ok (.aload_n 0, 1) := by decide +kernel
theorem dX11_applyObject_75 : decode cX11_applyObject 75 = .ok (.sipush 200, 3) := by decide +kernel
theorem dX11_applyObject_78 : decode cX11_applyObject 78 = .ok (.invokevirtual 322, 3) := by decide +kernel
theorem dX11_applyObject_81 : decode cX11_applyObject 81 = .ok (.goto 81, 3) := by decide +kernel
theorem dX11_applyObject_84 : decode cX11_applyObject 84 = .ok (.aload_n 0, 1) := by decide +kernel
theorem dX11_applyObject_85 : decode cX11_applyObject 85 = .ok (.sipush 301, 3) := by decide +kernel
theorem dX11_applyObject_88 : decode cX11_applyObject 88 = .ok (.invokevirtual 325, 3) := by decide +kernel
theorem dX11_applyObject_91 : decode cX11_applyObject 91 = .ok (.aload_n 0, 1) := by decide +kernel
theorem dX11_applyObject_92 : decode cX11_applyObject 92 = .ok (.bipush 100, 2) := by decide +kernel
theorem dX11_applyObject_94 : decode cX11_applyObject 94 = .ok (.aload_n 0, 1) := by decide +kernel
theorem dX11_applyObject_95 : decode cX11_applyObject 95 = .ok (.getfield 23, 3) := by decide +kernel
theorem dX11_applyObject_98 : decode cX11_applyObject 98 = .ok (.iload_n 2, 1) := by decide +kernel
theorem dX11_applyObject_99 : decode cX11_applyObject 99 = .ok (.iaload, 1) := by decide +kernel
theorem dX11_applyObject_100 : decode cX11_applyObject 100 = .ok (.iadd, 1) := by decide +kernel
theorem dX11_applyObject_101 : decode cX11_applyObject 101 = .ok (.invokevirtual 322, 3) := by decide +kernel
theorem dX11_applyObject_104 : decode cX11_applyObject 104 = .ok (.goto 58, 3) := by decide +kernel
theorem dX11_applyObject_107 : decode cX11_applyObject 107 = .ok (.aload_n 0, 1) := by decide +kernel
theorem dX11_applyObject_108 : decode cX11_applyObject 108 = .ok (.iconst 1, 1) := by decide +kernel
theorem dX11_applyObject_109 : decode cX11_applyObject 109 = .ok (.iconst 1, 1) := by decide +kernel
theorem dX11_applyObject_110 : decode cX11_applyObject 110 = .ok (.invokevirtual 349, 3) := by decide +kernel
theorem dX11_applyObject_113 : decode cX11_applyObject 113 = .ok (.pop, 1) := by decide +kernel
theorem dX11_applyObject_114 : decode cX11_applyObject 114 = .ok (.aload_n 0, 1) := by decide +kernel
theorem dX11_applyObject_115 : decode cX11_applyObject 115 = .ok (.sipush 301, 3) := by decide +kernel
theorem dX11_applyObject_118 : decode cX11_applyObject 118 = .ok (.invokevirtual 322, 3) := by decide +kernel
theorem dX11_applyObject_121 : decode cX11_applyObject 121 = .ok (.goto 41, 3) := by decide +kernel
theorem dX11_applyObject_124 : decode cX11_applyObject 124 = .ok (.aload_n 0, 1) := by decide +kernel
theorem dX11_applyObject_125 : decode cX11_applyObject 125 = .ok (.iconst 1, 1) := by decide +kernel
theorem dX11_applyObject_126 : decode cX11_applyObject 126 = .ok (.invokevirtual 325, 3) := by decide +kernel
theorem dX11_applyObject_129 : decode cX11_applyObject 129 = .ok (.goto 33, 3) := by decide +kernel
theorem dX11_applyObject_132 : decode cX11_applyObject 132 = .ok (.aload_n 0, 1) := by decide +kernel
theorem dX11_applyObject_133 : decode cX11_applyObject 133 = .ok (.invokevirtual 346, 3) := by decide +kernel
theorem dX11_applyObject_136 : decode cX11_applyObject 136 = .ok (.pop, 1) := by decide +kernel
theorem dX11_applyObject_137 : decode cX11_applyObject 137 = .ok (.aload_n 0, 1) := by decide +kernel
theorem dX11_applyObject_138 : decode cX11_applyObject 138 = .ok (.aload_n 0, 1) := by decide +kernel
theorem dX11_applyObject_139 : decode cX11_applyObject 139 = .ok (.getfield 23, 3) := by decide +kernel
theorem dX11_applyObject_142 : decode cX11_applyObject 142 = .ok (.iload_n 2, 1) := by decide +kernel
theorem dX11_applyObject_143 : decode cX11_applyObject 143 = .ok (.iaload, 1) := by decide +kernel
theorem dX11_applyObject_144 : decode cX11_applyObject 144 = .ok (.invokevirtual 322, 3) := by decide +kernel
theorem dX11_applyObject_147 : decode cX11_applyObject 147 = .ok (.goto 15, 3) := by decide +kernel
theorem dX11_applyObject_150 : decode cX11_applyObject 150 = .ok (.aload_n 0, 1) := by decide +kernel
theorem dX11_applyObject_151 : decode cX11_applyObject 151 = .ok (.invokevirtual 346, 3) := by decide +kernel
theorem dX11_applyObject_154 : decode cX11_applyObject 154 = .ok (.pop, 1) := by decide +kernel
theorem dX11_applyObject_155 : decode cX11_applyObject 155 = .ok (.aload_n 0, 1) := by decide +kernel
theorem dX11_applyObject_156 : decode cX11_applyObject 156 = .ok (.sipush 301, 3) := by decide +kernel
theorem dX11_applyObject_159 : decode cX11_applyObject 159 = .ok (.invokevirtual 322, 3) := by decide +kernel
theorem dX11_applyObject_162 : decode cX11_applyObject 162 = .ok (.return_, 1) := by decide +kernel
def VS_h3_p0 : List Cond := [Cond.fieldLink RX4 15 "ClassMill$Kin" "under" "[Z", Cond.fieldLink RX4 11 "ClassMill$Kin" "above" "[I", Cond.code yX4_fits cX4_fits 4 (some .boolean), Cond.methodLink RX4 35 yX4_fits, Cond.instanceMethod yX4_fits, Cond.selects RX4 yX4_fits yX4_fits, Cond.initialized RX4, Cond.code yX3_nextUpTo cX3_nextUpTo 4 (some .int), Cond.methodLink RX3 71 yX3_nextUpTo, Cond.instanceMethod yX3_nextUpTo, Cond.selects RX3 yX3_nextUpTo yX3_nextUpTo, Cond.initialized RX3, Cond.code yX3_next cX3_next 1 (some .int), Cond.methodLink RX3 87 yX3_next, Cond.instanceMethod yX3_next, Cond.selects RX3 yX3_next yX3_next, Cond.code yX3_partOf cX3_partOf 3 (some .int), Cond.methodLink RX3 99 yX3_partOf, Cond.instanceMethod yX3_partOf, Cond.selects RX3 yX3_partOf yX3_partOf, Cond.code yX3_tagOf cX3_tagOf 2 (some .int), Cond.methodLink RX3 112 yX3_tagOf, Cond.instanceMethod yX3_tagOf, Cond.selects RX3 yX3_tagOf yX3_tagOf, Cond.fieldLink RX3 9 "ClassMill$Image" "bytes" "[B", Cond.fieldLink RX3 39 "ClassMill$Image" "size" "I", Cond.code yX3_textAt cX3_textAt 2 (some .int), Cond.methodLink RX3 122 yX3_textAt, Cond.instanceMethod yX3_textAt, Cond.selects RX3 yX3_textAt yX3_textAt, Cond.code yX3_textEnd cX3_textEnd 2 (some .int), Cond.methodLink RX3 125 yX3_textEnd, Cond.instanceMethod yX3_textEnd, Cond.selects RX3 yX3_textEnd yX3_textEnd, Cond.code yX3_sameBytes cX3_sameBytes 8 (some .boolean), Cond.methodLink RX3 128 yX3_sameBytes, Cond.instanceMethod yX3_sameBytes, Cond.selects RX3 yX3_sameBytes yX3_sameBytes, Cond.code yX3_byteAt cX3_byteAt 2 (some .int), Cond.methodLink RX3 119 yX3_byteAt]
def VS_h3_p1 : List Cond := [Cond.instanceMethod yX3_byteAt, Cond.selects RX3 yX3_byteAt yX3_byteAt, Cond.fieldLink RX3 19 "ClassMill$Image" "at" "[I", Cond.code yX3_bad cX3_bad 2 none, Cond.methodLink RX3 78 yX3_bad, Cond.instanceMethod yX3_bad, Cond.selects RX3 yX3_bad yX3_bad, Cond.fieldLink RX3 43 "ClassMill$Image" "pos" "I", Cond.code yX3_isArrayText cX3_isArrayText 2 (some .boolean), Cond.methodLink RX3 106 yX3_isArrayText, Cond.instanceMethod yX3_isArrayText, Cond.selects RX3 yX3_isArrayText yX3_isArrayText, Cond.fieldLink RX3 30 "ClassMill$Image" "method" "[I", Cond.methodLink RX3 33 yJ9_min_7cf53, Cond.static yJ9_min_7cf53, Cond.initialized "java/lang/Math", Cond.code yJ9_min_7cf53 cJ9_min_7cf53 2 (some .int), Cond.code yX3_skipPairs cX3_skipPairs 3 none, Cond.methodLink RX3 164 yX3_skipPairs, Cond.instanceMethod yX3_skipPairs, Cond.selects RX3 yX3_skipPairs yX3_skipPairs, Cond.code yX3_nextClass cX3_nextClass 1 none, Cond.methodLink RX3 167 yX3_nextClass, Cond.instanceMethod yX3_nextClass, Cond.selects RX3 yX3_nextClass yX3_nextClass, Cond.fieldLink RX3 46 "ClassMill$Image" "form" "I", Cond.fieldLink RX3 52 "ClassMill$Image" "methods" "I", Cond.fieldLink RX3 49 "ClassMill$Image" "fields" "I", Cond.fieldLink RX3 27 "ClassMill$Image" "field" "[I", Cond.code yX3_readFrameTypes cX3_readFrameTypes 3 none, Cond.methodLink RX3 170 yX3_readFrameTypes, Cond.instanceMethod yX3_readFrameTypes, Cond.selects RX3 yX3_readFrameTypes yX3_readFrameTypes, Cond.fieldLink RX5 54 "ClassMill$Machine" "state" "I", Cond.fieldLink RX5 50 "ClassMill$Machine" "gave" "I", Cond.fieldLink RX5 57 "ClassMill$Machine" "steps" "I", Cond.fieldLink RX5 60 "ClassMill$Machine" "objects" "I", Cond.fieldLink RX5 63 "ClassMill$Machine" "cells" "I", Cond.fieldLink RX5 66 "ClassMill$Machine" "depth" "I", Cond.fieldLink RX5 69 "ClassMill$Machine" "prints" "I"]
def VS_h3_p2 : List Cond := [Cond.code yX5_forget cX5_forget 1 none, Cond.methodLink RX5 72 yX5_forget, Cond.instanceMethod yX5_forget, Cond.selects RX5 yX5_forget yX5_forget, Cond.initialized RX5, Cond.fieldLink RX5 26 "ClassMill$Machine" "methods" "[I", Cond.fieldLink RX5 97 "ClassMill$Machine" "top" "I", Cond.fieldLink RX5 29 "ClassMill$Machine" "places" "[I", Cond.fieldLink RX5 32 "ClassMill$Machine" "heights" "[I", Cond.fieldLink RX5 13 "ClassMill$Machine" "printed" "[I", Cond.fieldLink RX5 38 "ClassMill$Machine" "stack" "[I", Cond.code yX5_push cX5_push 3 none, Cond.methodLink RX5 135 yX5_push, Cond.instanceMethod yX5_push, Cond.selects RX5 yX5_push yX5_push, Cond.code yX5_goOn cX5_goOn 2 none, Cond.methodLink RX5 138 yX5_goOn, Cond.instanceMethod yX5_goOn, Cond.selects RX5 yX5_goOn yX5_goOn, Cond.methodLink RX5 141 yX3_byteAt, Cond.code yX5_give cX5_give 3 none, Cond.methodLink RX5 145 yX5_give, Cond.instanceMethod yX5_give, Cond.selects RX5 yX5_give yX5_give, Cond.code yX5_pop cX5_pop 2 (some .int), Cond.methodLink RX5 154 yX5_pop, Cond.instanceMethod yX5_pop, Cond.selects RX5 yX5_pop yX5_pop, Cond.fieldLink RX5 35 "ClassMill$Machine" "locals" "[I", Cond.code yX3_pairAt cX3_pairAt 2 (some .int), Cond.methodLink RX5 184 yX3_pairAt, Cond.instanceMethod yX3_pairAt, Cond.selects RX3 yX3_pairAt yX3_pairAt, Cond.code yX5_isObject cX5_isObject 2 (some .boolean), Cond.methodLink RX5 226 yX5_isObject, Cond.instanceMethod yX5_isObject, Cond.selects RX5 yX5_isObject yX5_isObject, Cond.fieldLink RX5 86 "ClassMill$Machine" "thrown" "I", Cond.fieldLink RX5 20 "ClassMill$Machine" "objectAt" "[I", Cond.code yX5_cellOf cX5_cellOf 3 (some .int)]
def VS_h3_p3 : List Cond := [Cond.methodLink RX5 229 yX5_cellOf, Cond.instanceMethod yX5_cellOf, Cond.selects RX5 yX5_cellOf yX5_cellOf, Cond.fieldLink RX5 23 "ClassMill$Machine" "cell" "[I", Cond.code yX4_elementOf cX4_elementOf 1 (some .int), Cond.methodLink RX5 236 yX4_elementOf, Cond.static yX4_elementOf, Cond.methodLink RX5 239 yX4_fits, Cond.fieldLink RX5 41 "ClassMill$Machine" "space" "LClassMill$Space;", Cond.fieldLink RX5 232 "ClassMill$Space" "kin" "LClassMill$Kin;", Cond.fieldLink RX5 17 "ClassMill$Machine" "objectType" "[I", Cond.code yX3_of cX3_of 4 (some .int), Cond.methodLink RX5 126 yX3_of, Cond.instanceMethod yX3_of, Cond.selects RX3 yX3_of yX3_of, Cond.code yX5_compares cX5_compares 3 (some .boolean), Cond.methodLink RX5 180 yX5_compares, Cond.static yX5_compares, Cond.fieldLink RX5 46 "ClassMill$Machine" "image" "LClassMill$Image;", Cond.fieldLink RX5 129 "ClassMill$Machine" "code" "I", Cond.code yX5_stepElement cX5_stepElement 4 none, Cond.methodLink RX5 187 yX5_stepElement, Cond.instanceMethod yX5_stepElement, Cond.selects RX5 yX5_stepElement yX5_stepElement, Cond.code yX5_stepGiveElement cX5_stepGiveElement 6 none, Cond.methodLink RX5 190 yX5_stepGiveElement, Cond.instanceMethod yX5_stepGiveElement, Cond.selects RX5 yX5_stepGiveElement yX5_stepGiveElement, Cond.fieldLink RX11 11 "ClassMill$Verifier" "toldClass" "I", Cond.fieldLink RX11 17 "ClassMill$Verifier" "toldMethod" "I", Cond.fieldLink RX11 20 "ClassMill$Verifier" "toldPlace" "I", Cond.fieldLink RX11 129 "ClassMill$Verifier" "place" "I", Cond.methodLink RX11 146 yX3_of, Cond.code yX4_above cX4_above 2 (some .int), Cond.methodLink RX11 75 yX4_above, Cond.instanceMethod yX4_above, Cond.selects RX4 yX4_above yX4_above, Cond.methodLink RX11 167 yX3_tagOf, Cond.methodLink RX11 177 yX3_partOf, Cond.methodLink RX11 180 yX3_textAt]
def VS_h3_p4 : List Cond := [Cond.methodLink RX11 183 yX3_byteAt, Cond.fieldLink RX11 62 "ClassMill$Verifier" "image" "LClassMill$Image;", Cond.fieldLink RX11 103 "ClassMill$Verifier" "method" "I", Cond.code yX11_info cX11_info 2 (some .int), Cond.methodLink RX11 189 yX11_info, Cond.instanceMethod yX11_info, Cond.selects RX11 yX11_info yX11_info, Cond.initialized RX11, Cond.code yX11_codeAt cX11_codeAt 2 (some .int), Cond.methodLink RX11 192 yX11_codeAt, Cond.instanceMethod yX11_codeAt, Cond.selects RX11 yX11_codeAt yX11_codeAt, Cond.code yX11_isArithmetic cX11_isArithmetic 1 (some .boolean), Cond.methodLink RX11 201 yX11_isArithmetic, Cond.static yX11_isArithmetic, Cond.fieldLink RX11 209 "ClassMill$Verifier" "length" "I", Cond.fieldLink RX11 38 "ClassMill$Verifier" "marks" "[I", Cond.code yX11_begins cX11_begins 2 (some .boolean), Cond.methodLink RX11 224 yX11_begins, Cond.instanceMethod yX11_begins, Cond.selects RX11 yX11_begins yX11_begins, Cond.code yX11_isJump cX11_isJump 1 (some .boolean), Cond.methodLink RX11 198 yX11_isJump, Cond.static yX11_isJump, Cond.code yX11_aimOf cX11_aimOf 2 (some .int), Cond.methodLink RX11 227 yX11_aimOf, Cond.instanceMethod yX11_aimOf, Cond.selects RX11 yX11_aimOf yX11_aimOf, Cond.code yX11_at cX11_at 3 (some .int), Cond.methodLink RX11 221 yX11_at, Cond.instanceMethod yX11_at, Cond.selects RX11 yX11_at yX11_at, Cond.methodLink RX11 230 yX3_pairAt, Cond.fieldLink RX11 23 "ClassMill$Verifier" "classTypes" "[I", Cond.fieldLink RX11 41 "ClassMill$Verifier" "frames" "[I", Cond.code yX11_frameAt cX11_frameAt 2 (some .int), Cond.methodLink RX11 242 yX11_frameAt, Cond.instanceMethod yX11_frameAt, Cond.selects RX11 yX11_frameAt yX11_frameAt, Cond.methodLink RX11 248 yX4_fits]
def VS_h3_p5 : List Cond := [Cond.fieldLink RX11 60 "ClassMill$Verifier" "kin" "LClassMill$Kin;", Cond.code yX11_fits cX11_fits 3 (some .boolean), Cond.methodLink RX11 303 yX11_fits, Cond.instanceMethod yX11_fits, Cond.selects RX11 yX11_fits yX11_fits, Cond.fieldLink RX11 44 "ClassMill$Verifier" "locals" "[I", Cond.code yX11_fitsLocals cX11_fitsLocals 4 (some .boolean), Cond.methodLink RX11 304 yX11_fitsLocals, Cond.instanceMethod yX11_fitsLocals, Cond.selects RX11 yX11_fitsLocals yX11_fitsLocals, Cond.code yX11_handler cX11_handler 3 (some .int), Cond.methodLink RX11 239 yX11_handler, Cond.instanceMethod yX11_handler, Cond.selects RX11 yX11_handler yX11_handler, Cond.code yX11_handlerClass cX11_handlerClass 2 (some .int), Cond.methodLink RX11 245 yX11_handlerClass, Cond.instanceMethod yX11_handlerClass, Cond.selects RX11 yX11_handlerClass yX11_handlerClass, Cond.fieldLink RX11 255 "ClassMill$Verifier" "height" "I", Cond.fieldLink RX11 47 "ClassMill$Verifier" "stack" "[I", Cond.fieldLink RX11 295 "ClassMill$Verifier" "fitting" "Z", Cond.code yX11_pop cX11_pop 1 (some .int), Cond.methodLink RX11 313 yX11_pop, Cond.instanceMethod yX11_pop, Cond.selects RX11 yX11_pop yX11_pop, Cond.code yX4_isReference cX4_isReference 1 (some .boolean), Cond.methodLink RX11 316 yX4_isReference, Cond.static yX4_isReference, Cond.code yX4_isArray cX4_isArray 1 (some .boolean), Cond.methodLink RX11 319 yX4_isArray, Cond.static yX4_isArray, Cond.fieldLink RX11 261 "ClassMill$Verifier" "mostHeight" "I", Cond.code yX11_push cX11_push 2 none, Cond.methodLink RX11 322 yX11_push, Cond.instanceMethod yX11_push, Cond.selects RX11 yX11_push yX11_push, Cond.code yX11_wantReference cX11_wantReference 2 (some .int), Cond.methodLink RX11 346 yX11_wantReference, Cond.instanceMethod yX11_wantReference, Cond.selects RX11 yX11_wantReference yX11_wantReference]
def VS_h3_p6 : List Cond := [Cond.code yX11_want cX11_want 3 none, Cond.methodLink RX11 325 yX11_want, Cond.instanceMethod yX11_want, Cond.selects RX11 yX11_want yX11_want, Cond.code yX11_wantArray cX11_wantArray 5 (some .int), Cond.methodLink RX11 349 yX11_wantArray, Cond.instanceMethod yX11_wantArray, Cond.selects RX11 yX11_wantArray yX11_wantArray, Cond.methodLink RX11 353 yX4_elementOf, Cond.fieldLink RX11 264 "ClassMill$Verifier" "result" "I", Cond.fieldLink RX11 33 "ClassMill$Verifier" "memberTypes" "[I", Cond.fieldLink RX11 30 "ClassMill$Verifier" "memberParameters" "[I", Cond.code yX11_isBare cX11_isBare 1 (some .boolean), Cond.methodLink RX11 195 yX11_isBare, Cond.static yX11_isBare, Cond.code yX11_typeOfTag cX11_typeOfTag 3 (some .int), Cond.methodLink RX11 236 yX11_typeOfTag, Cond.instanceMethod yX11_typeOfTag, Cond.selects RX11 yX11_typeOfTag yX11_typeOfTag, Cond.code yX11_areThere cX11_areThere 5 (some .boolean), Cond.methodLink RX11 252 yX11_areThere, Cond.instanceMethod yX11_areThere, Cond.selects RX11 yX11_areThere yX11_areThere, Cond.code yX11_fitsHandlers cX11_fitsHandlers 5 (some .boolean), Cond.methodLink RX11 289 yX11_fitsHandlers, Cond.instanceMethod yX11_fitsHandlers, Cond.selects RX11 yX11_fitsHandlers yX11_fitsHandlers, Cond.code yX11_applyLocal cX11_applyLocal 4 none, Cond.methodLink RX11 328 yX11_applyLocal, Cond.instanceMethod yX11_applyLocal, Cond.selects RX11 yX11_applyLocal yX11_applyLocal, Cond.code yX11_applyObject cX11_applyObject 3 none, Cond.methodLink RX11 343 yX11_applyObject, Cond.instanceMethod yX11_applyObject, Cond.selects RX11 yX11_applyObject yX11_applyObject, Cond.code yX11_applyMember cX11_applyMember 6 none, Cond.methodLink RX11 340 yX11_applyMember, Cond.instanceMethod yX11_applyMember, Cond.selects RX11 yX11_applyMember yX11_applyMember, Cond.code yX11_applyReturn cX11_applyReturn 2 none]
def VS_h3_p7 : List Cond := [Cond.methodLink RX11 337 yX11_applyReturn, Cond.instanceMethod yX11_applyReturn, Cond.selects RX11 yX11_applyReturn yX11_applyReturn, Cond.code yX11_applyArray cX11_applyArray 4 none, Cond.methodLink RX11 334 yX11_applyArray, Cond.instanceMethod yX11_applyArray, Cond.selects RX11 yX11_applyArray yX11_applyArray, Cond.code yX11_applyJump cX11_applyJump 2 none, Cond.methodLink RX11 331 yX11_applyJump, Cond.instanceMethod yX11_applyJump, Cond.selects RX11 yX11_applyJump yX11_applyJump, Cond.code yX11_takeTypes cX11_takeTypes 7 (some .int), Cond.methodLink RX11 233 yX11_takeTypes, Cond.instanceMethod yX11_takeTypes, Cond.selects RX11 yX11_takeTypes yX11_takeTypes]
def VS_h3 : List Cond := VS_h3_p0 ++ (VS_h3_p1 ++ (VS_h3_p2 ++ (VS_h3_p3 ++ (VS_h3_p4 ++ (VS_h3_p5 ++ (VS_h3_p6 ++ (VS_h3_p7 ++ (wsX40 ++ (wsX30 ++ (VS_h2 ++ (wsX50 ++ (wsX70 ++ (wsX110)))))))))))))
theorem mw_h3_0 : Cond.fieldLink RX4 15 "ClassMill$Kin" "under" "[Z" ∈ VS_h3 := List.mem_append_left _ (List.mem_of_getElem? (i := 0) rfl)
theorem mw_h3_1 : Cond.fieldLink RX4 11 "ClassMill$Kin" "above" "[I" ∈ VS_h3 := List.mem_append_left _ (List.mem_of_getElem? (i := 1) rfl)
theorem mw_h3_2 : Cond.code yX4_fits cX4_fits 4 (some .boolean) ∈ VS_h3 := List.mem_append_left _ (List.mem_of_getElem? (i := 2) rfl)
theorem mw_h3_3 : Cond.methodLink RX4 35 yX4_fits ∈ VS_h3 := List.mem_append_left _ (List.mem_of_getElem? (i := 3) rfl)
theorem mw_h3_4 : Cond.instanceMethod yX4_fits ∈ VS_h3 := List.mem_append_left _ (List.mem_of_getElem? (i := 4) rfl)
theorem mw_h3_5 : Cond.selects RX4 yX4_fits yX4_fits ∈ VS_h3 := List.mem_append_left _ (List.mem_of_getElem? (i := 5) rfl)
theorem mw_h3_6 : Cond.initialized RX4 ∈ VS_h3 := List.mem_append_left _ (List.mem_of_getElem? (i := 6) rfl)
theorem mw_h3_7 : Cond.code yX3_nextUpTo cX3_nextUpTo 4 (some .int) ∈ VS_h3 := List.mem_append_left _ (List.mem_of_getElem? (i := 7) rfl)
theorem mw_h3_8 : Cond.methodLink RX3 71 yX3_nextUpTo ∈ VS_h3 := List.mem_append_left _ (List.mem_of_getElem? (i := 8) rfl)
theorem mw_h3_9 : Cond.instanceMethod yX3_nextUpTo ∈ VS_h3 := List.mem_append_left _ (List.mem_of_getElem? (i := 9) rfl)
theorem mw_h3_10 : Cond.selects RX3 yX3_nextUpTo yX3_nextUpTo ∈ VS_h3 := List.mem_append_left _ (List.mem_of_getElem? (i := 10) rfl)
theorem mw_h3_11 : Cond.initialized RX3 ∈ VS_h3 := List.mem_append_left _ (List.mem_of_getElem? (i := 11) rfl)
theorem mw_h3_12 : Cond.code yX3_next cX3_next 1 (some .int) ∈ VS_h3 := List.mem_append_left _ (List.mem_of_getElem? (i := 12) rfl)
theorem mw_h3_13 : Cond.methodLink RX3 87 yX3_next ∈ VS_h3 := List.mem_append_left _ (List.mem_of_getElem? (i := 13) rfl)
theorem mw_h3_14 : Cond.instanceMethod yX3_next ∈ VS_h3 := List.mem_append_left _ (List.mem_of_getElem? (i := 14) rfl)
theorem mw_h3_15 : Cond.selects RX3 yX3_next yX3_next ∈ VS_h3 := List.mem_append_left _ (List.mem_of_getElem? (i := 15) rfl)
theorem mw_h3_16 : Cond.code yX3_partOf cX3_partOf 3 (some .int) ∈ VS_h3 := List.mem_append_left _ (List.mem_of_getElem? (i := 16) rfl)
theorem mw_h3_17 : Cond.methodLink RX3 99 yX3_partOf ∈ VS_h3 := List.mem_append_left _ (List.mem_of_getElem? (i := 17) rfl)
theorem mw_h3_18 : Cond.instanceMethod yX3_partOf ∈ VS_h3 := List.mem_append_left _ (List.mem_of_getElem? (i := 18) rfl)
theorem mw_h3_19 : Cond.selects RX3 yX3_partOf yX3_partOf ∈ VS_h3 := List.mem_append_left _ (List.mem_of_getElem? (i := 19) rfl)
theorem mw_h3_20 : Cond.code yX3_tagOf cX3_tagOf 2 (some .int) ∈ VS_h3 := List.mem_append_left _ (List.mem_of_getElem? (i := 20) rfl)
theorem mw_h3_21 : Cond.methodLink RX3 112 yX3_tagOf ∈ VS_h3 := List.mem_append_left _ (List.mem_of_getElem? (i := 21) rfl)
theorem mw_h3_22 : Cond.instanceMethod yX3_tagOf ∈ VS_h3 := List.mem_append_left _ (List.mem_of_getElem? (i := 22) rfl)
theorem mw_h3_23 : Cond.selects RX3 yX3_tagOf yX3_tagOf ∈ VS_h3 := List.mem_append_left _ (List.mem_of_getElem? (i := 23) rfl)
theorem mw_h3_24 : Cond.fieldLink RX3 9 "ClassMill$Image" "bytes" "[B" ∈ VS_h3 := List.mem_append_left _ (List.mem_of_getElem? (i := 24) rfl)
theorem mw_h3_25 : Cond.fieldLink RX3 39 "ClassMill$Image" "size" "I" ∈ VS_h3 := List.mem_append_left _ (List.mem_of_getElem? (i := 25) rfl)
theorem mw_h3_26 : Cond.code yX3_textAt cX3_textAt 2 (some .int) ∈ VS_h3 := List.mem_append_left _ (List.mem_of_getElem? (i := 26) rfl)
theorem mw_h3_27 : Cond.methodLink RX3 122 yX3_textAt ∈ VS_h3 := List.mem_append_left _ (List.mem_of_getElem? (i := 27) rfl)
theorem mw_h3_28 : Cond.instanceMethod yX3_textAt ∈ VS_h3 := List.mem_append_left _ (List.mem_of_getElem? (i := 28) rfl)
theorem mw_h3_29 : Cond.selects RX3 yX3_textAt yX3_textAt ∈ VS_h3 := List.mem_append_left _ (List.mem_of_getElem? (i := 29) rfl)
theorem mw_h3_30 : Cond.code yX3_textEnd cX3_textEnd 2 (some .int) ∈ VS_h3 := List.mem_append_left _ (List.mem_of_getElem? (i := 30) rfl)
theorem mw_h3_31 : Cond.methodLink RX3 125 yX3_textEnd ∈ VS_h3 := List.mem_append_left _ (List.mem_of_getElem? (i := 31) rfl)
theorem mw_h3_32 : Cond.instanceMethod yX3_textEnd ∈ VS_h3 := List.mem_append_left _ (List.mem_of_getElem? (i := 32) rfl)
theorem mw_h3_33 : Cond.selects RX3 yX3_textEnd yX3_textEnd ∈ VS_h3 := List.mem_append_left _ (List.mem_of_getElem? (i := 33) rfl)
theorem mw_h3_34 : Cond.code yX3_sameBytes cX3_sameBytes 8 (some .boolean) ∈ VS_h3 := List.mem_append_left _ (List.mem_of_getElem? (i := 34) rfl)
theorem mw_h3_35 : Cond.methodLink RX3 128 yX3_sameBytes ∈ VS_h3 := List.mem_append_left _ (List.mem_of_getElem? (i := 35) rfl)
theorem mw_h3_36 : Cond.instanceMethod yX3_sameBytes ∈ VS_h3 := List.mem_append_left _ (List.mem_of_getElem? (i := 36) rfl)
theorem mw_h3_37 : Cond.selects RX3 yX3_sameBytes yX3_sameBytes ∈ VS_h3 := List.mem_append_left _ (List.mem_of_getElem? (i := 37) rfl)
theorem mw_h3_38 : Cond.code yX3_byteAt cX3_byteAt 2 (some .int) ∈ VS_h3 := List.mem_append_left _ (List.mem_of_getElem? (i := 38) rfl)
theorem mw_h3_39 : Cond.methodLink RX3 119 yX3_byteAt ∈ VS_h3 := List.mem_append_left _ (List.mem_of_getElem? (i := 39) rfl)
theorem mw_h3_40 : Cond.instanceMethod yX3_byteAt ∈ VS_h3 := List.mem_append_right _ (List.mem_append_left _ (List.mem_of_getElem? (i := 0) rfl))
theorem mw_h3_41 : Cond.selects RX3 yX3_byteAt yX3_byteAt ∈ VS_h3 := List.mem_append_right _ (List.mem_append_left _ (List.mem_of_getElem? (i := 1) rfl))
theorem mw_h3_42 : Cond.fieldLink RX3 19 "ClassMill$Image" "at" "[I" ∈ VS_h3 := List.mem_append_right _ (List.mem_append_left _ (List.mem_of_getElem? (i := 2) rfl))
theorem mw_h3_43 : Cond.code yX3_bad cX3_bad 2 none ∈ VS_h3 := List.mem_append_right _ (List.mem_append_left _ (List.mem_of_getElem? (i := 3) rfl))
theorem mw_h3_44 : Cond.methodLink RX3 78 yX3_bad ∈ VS_h3 := List.mem_append_right _ (List.mem_append_left _ (List.mem_of_getElem? (i := 4) rfl))
theorem mw_h3_45 : Cond.instanceMethod yX3_bad ∈ VS_h3 := List.mem_append_right _ (List.mem_append_left _ (List.mem_of_getElem? (i := 5) rfl))
theorem mw_h3_46 : Cond.selects RX3 yX3_bad yX3_bad ∈ VS_h3 := List.mem_append_right _ (List.mem_append_left _ (List.mem_of_getElem? (i := 6) rfl))
theorem mw_h3_47 : Cond.fieldLink RX3 43 "ClassMill$Image" "pos" "I" ∈ VS_h3 := List.mem_append_right _ (List.mem_append_left _ (List.mem_of_getElem? (i := 7) rfl))
theorem mw_h3_48 : Cond.code yX3_isArrayText cX3_isArrayText 2 (some .boolean) ∈ VS_h3 := List.mem_append_right _ (List.mem_append_left _ (List.mem_of_getElem? (i := 8) rfl))
theorem mw_h3_49 : Cond.methodLink RX3 106 yX3_isArrayText ∈ VS_h3 := List.mem_append_right _ (List.mem_append_left _ (List.mem_of_getElem? (i := 9) rfl))
theorem mw_h3_50 : Cond.instanceMethod yX3_isArrayText ∈ VS_h3 := List.mem_append_right _ (List.mem_append_left _ (List.mem_of_getElem? (i := 10) rfl))
theorem mw_h3_51 : Cond.selects RX3 yX3_isArrayText yX3_isArrayText ∈ VS_h3 := List.mem_append_right _ (List.mem_append_left _ (List.mem_of_getElem? (i := 11) rfl))
theorem mw_h3_52 : Cond.fieldLink RX3 30 "ClassMill$Image" "method" "[I" ∈ VS_h3 := List.mem_append_right _ (List.mem_append_left _ (List.mem_of_getElem? (i := 12) rfl))
theorem mw_h3_53 : Cond.methodLink RX3 33 yJ9_min_7cf53 ∈ VS_h3 := List.mem_append_right _ (List.mem_append_left _ (List.mem_of_getElem? (i := 13) rfl))
theorem mw_h3_54 : Cond.static yJ9_min_7cf53 ∈ VS_h3 := List.mem_append_right _ (List.mem_append_left _ (List.mem_of_getElem? (i := 14) rfl))
theorem mw_h3_55 : Cond.initialized "java/lang/Math" ∈ VS_h3 := List.mem_append_right _ (List.mem_append_left _ (List.mem_of_getElem? (i := 15) rfl))
theorem mw_h3_56 : Cond.code yJ9_min_7cf53 cJ9_min_7cf53 2 (some .int) ∈ VS_h3 := List.mem_append_right _ (List.mem_append_left _ (List.mem_of_getElem? (i := 16) rfl))
theorem mw_h3_57 : Cond.code yX3_skipPairs cX3_skipPairs 3 none ∈ VS_h3 := List.mem_append_right _ (List.mem_append_left _ (List.mem_of_getElem? (i := 17) rfl))
theorem mw_h3_58 : Cond.methodLink RX3 164 yX3_skipPairs ∈ VS_h3 := List.mem_append_right _ (List.mem_append_left _ (List.mem_of_getElem? (i := 18) rfl))
theorem mw_h3_59 : Cond.instanceMethod yX3_skipPairs ∈ VS_h3 := List.mem_append_right _ (List.mem_append_left _ (List.mem_of_getElem? (i := 19) rfl))
theorem mw_h3_60 : Cond.selects RX3 yX3_skipPairs yX3_skipPairs ∈ VS_h3 := List.mem_append_right _ (List.mem_append_left _ (List.mem_of_getElem? (i := 20) rfl))
theorem mw_h3_61 : Cond.code yX3_nextClass cX3_nextClass 1 none ∈ VS_h3 := List.mem_append_right _ (List.mem_append_left _ (List.mem_of_getElem? (i := 21) rfl))
theorem mw_h3_62 : Cond.methodLink RX3 167 yX3_nextClass ∈ VS_h3 := List.mem_append_right _ (List.mem_append_left _ (List.mem_of_getElem? (i := 22) rfl))
theorem mw_h3_63 : Cond.instanceMethod yX3_nextClass ∈ VS_h3 := List.mem_append_right _ (List.mem_append_left _ (List.mem_of_getElem? (i := 23) rfl))
theorem mw_h3_64 : Cond.selects RX3 yX3_nextClass yX3_nextClass ∈ VS_h3 := List.mem_append_right _ (List.mem_append_left _ (List.mem_of_getElem? (i := 24) rfl))
theorem mw_h3_65 : Cond.fieldLink RX3 46 "ClassMill$Image" "form" "I" ∈ VS_h3 := List.mem_append_right _ (List.mem_append_left _ (List.mem_of_getElem? (i := 25) rfl))
theorem mw_h3_66 : Cond.fieldLink RX3 52 "ClassMill$Image" "methods" "I" ∈ VS_h3 := List.mem_append_right _ (List.mem_append_left _ (List.mem_of_getElem? (i := 26) rfl))
theorem mw_h3_67 : Cond.fieldLink RX3 49 "ClassMill$Image" "fields" "I" ∈ VS_h3 := List.mem_append_right _ (List.mem_append_left _ (List.mem_of_getElem? (i := 27) rfl))
theorem mw_h3_68 : Cond.fieldLink RX3 27 "ClassMill$Image" "field" "[I" ∈ VS_h3 := List.mem_append_right _ (List.mem_append_left _ (List.mem_of_getElem? (i := 28) rfl))
theorem mw_h3_69 : Cond.code yX3_readFrameTypes cX3_readFrameTypes 3 none ∈ VS_h3 := List.mem_append_right _ (List.mem_append_left _ (List.mem_of_getElem? (i := 29) rfl))
theorem mw_h3_70 : Cond.methodLink RX3 170 yX3_readFrameTypes ∈ VS_h3 := List.mem_append_right _ (List.mem_append_left _ (List.mem_of_getElem? (i := 30) rfl))
theorem mw_h3_71 : Cond.instanceMethod yX3_readFrameTypes ∈ VS_h3 := List.mem_append_right _ (List.mem_append_left _ (List.mem_of_getElem? (i := 31) rfl))
theorem mw_h3_72 : Cond.selects RX3 yX3_readFrameTypes yX3_readFrameTypes ∈ VS_h3 := List.mem_append_right _ (List.mem_append_left _ (List.mem_of_getElem? (i := 32) rfl))
theorem mw_h3_73 : Cond.fieldLink RX5 54 "ClassMill$Machine" "state" "I" ∈ VS_h3 := List.mem_append_right _ (List.mem_append_left _ (List.mem_of_getElem? (i := 33) rfl))
theorem mw_h3_74 : Cond.fieldLink RX5 50 "ClassMill$Machine" "gave" "I" ∈ VS_h3 := List.mem_append_right _ (List.mem_append_left _ (List.mem_of_getElem? (i := 34) rfl))
theorem mw_h3_75 : Cond.fieldLink RX5 57 "ClassMill$Machine" "steps" "I" ∈ VS_h3 := List.mem_append_right _ (List.mem_append_left _ (List.mem_of_getElem? (i := 35) rfl))
theorem mw_h3_76 : Cond.fieldLink RX5 60 "ClassMill$Machine" "objects" "I" ∈ VS_h3 := List.mem_append_right _ (List.mem_append_left _ (List.mem_of_getElem? (i := 36) rfl))
theorem mw_h3_77 : Cond.fieldLink RX5 63 "ClassMill$Machine" "cells" "I" ∈ VS_h3 := List.mem_append_right _ (List.mem_append_left _ (List.mem_of_getElem? (i := 37) rfl))
theorem mw_h3_78 : Cond.fieldLink RX5 66 "ClassMill$Machine" "depth" "I" ∈ VS_h3 := List.mem_append_right _ (List.mem_append_left _ (List.mem_of_getElem? (i := 38) rfl))
theorem mw_h3_79 : Cond.fieldLink RX5 69 "ClassMill$Machine" "prints" "I" ∈ VS_h3 := List.mem_append_right _ (List.mem_append_left _ (List.mem_of_getElem? (i := 39) rfl))
theorem mw_h3_80 : Cond.code yX5_forget cX5_forget 1 none ∈ VS_h3 := List.mem_append_right _ (List.mem_append_right _ (List.mem_append_left _ (List.mem_of_getElem? (i := 0) rfl)))
theorem mw_h3_81 : Cond.methodLink RX5 72 yX5_forget ∈ VS_h3 := List.mem_append_right _ (List.mem_append_right _ (List.mem_append_left _ (List.mem_of_getElem? (i := 1) rfl)))
theorem mw_h3_82 : Cond.instanceMethod yX5_forget ∈ VS_h3 := List.mem_append_right _ (List.mem_append_right _ (List.mem_append_left _ (List.mem_of_getElem? (i := 2) rfl)))
theorem mw_h3_83 : Cond.selects RX5 yX5_forget yX5_forget ∈ VS_h3 := List.mem_append_right _ (List.mem_append_right _ (List.mem_append_left _ (List.mem_of_getElem? (i := 3) rfl)))
theorem mw_h3_84 : Cond.initialized RX5 ∈ VS_h3 := List.mem_append_right _ (List.mem_append_right _ (List.mem_append_left _ (List.mem_of_getElem? (i := 4) rfl)))
theorem mw_h3_85 : Cond.fieldLink RX5 26 "ClassMill$Machine" "methods" "[I" ∈ VS_h3 := List.mem_append_right _ (List.mem_append_right _ (List.mem_append_left _ (List.mem_of_getElem? (i := 5) rfl)))
theorem mw_h3_86 : Cond.fieldLink RX5 97 "ClassMill$Machine" "top" "I" ∈ VS_h3 := List.mem_append_right _ (List.mem_append_right _ (List.mem_append_left _ (List.mem_of_getElem? (i := 6) rfl)))
theorem mw_h3_87 : Cond.fieldLink RX5 29 "ClassMill$Machine" "places" "[I" ∈ VS_h3 := List.mem_append_right _ (List.mem_append_right _ (List.mem_append_left _ (List.mem_of_getElem? (i := 7) rfl)))
theorem mw_h3_88 : Cond.fieldLink RX5 32 "ClassMill$Machine" "heights" "[I" ∈ VS_h3 := List.mem_append_right _ (List.mem_append_right _ (List.mem_append_left _ (List.mem_of_getElem? (i := 8) rfl)))
theorem mw_h3_89 : Cond.fieldLink RX5 13 "ClassMill$Machine" "printed" "[I" ∈ VS_h3 := List.mem_append_right _ (List.mem_append_right _ (List.mem_append_left _ (List.mem_of_getElem? (i := 9) rfl)))
theorem mw_h3_90 : Cond.fieldLink RX5 38 "ClassMill$Machine" "stack" "[I" ∈ VS_h3 := List.mem_append_right _ (List.mem_append_right _ (List.mem_append_left _ (List.mem_of_getElem? (i := 10) rfl)))
theorem mw_h3_91 : Cond.code yX5_push cX5_push 3 none ∈ VS_h3 := List.mem_append_right _ (List.mem_append_right _ (List.mem_append_left _ (List.mem_of_getElem? (i := 11) rfl)))
theorem mw_h3_92 : Cond.methodLink RX5 135 yX5_push ∈ VS_h3 := List.mem_append_right _ (List.mem_append_right _ (List.mem_append_left _ (List.mem_of_getElem? (i := 12) rfl)))
theorem mw_h3_93 : Cond.instanceMethod yX5_push ∈ VS_h3 := List.mem_append_right _ (List.mem_append_right _ (List.mem_append_left _ (List.mem_of_getElem? (i := 13) rfl)))
theorem mw_h3_94 : Cond.selects RX5 yX5_push yX5_push ∈ VS_h3 := List.mem_append_right _ (List.mem_append_right _ (List.mem_append_left _ (List.mem_of_getElem? (i := 14) rfl)))
theorem mw_h3_95 : Cond.code yX5_goOn cX5_goOn 2 none ∈ VS_h3 := List.mem_append_right _ (List.mem_append_right _ (List.mem_append_left _ (List.mem_of_getElem? (i := 15) rfl)))
theorem mw_h3_96 : Cond.methodLink RX5 138 yX5_goOn ∈ VS_h3 := List.mem_append_right _ (List.mem_append_right _ (List.mem_append_left _ (List.mem_of_getElem? (i := 16) rfl)))
theorem mw_h3_97 : Cond.instanceMethod yX5_goOn ∈ VS_h3 := List.mem_append_right _ (List.mem_append_right _ (List.mem_append_left _ (List.mem_of_getElem? (i := 17) rfl)))
theorem mw_h3_98 : Cond.selects RX5 yX5_goOn yX5_goOn ∈ VS_h3 := List.mem_append_right _ (List.mem_append_right _ (List.mem_append_left _ (List.mem_of_getElem? (i := 18) rfl)))
theorem mw_h3_99 : Cond.methodLink RX5 141 yX3_byteAt ∈ VS_h3 := List.mem_append_right _ (List.mem_append_right _ (List.mem_append_left _ (List.mem_of_getElem? (i := 19) rfl)))
theorem mw_h3_100 : Cond.code yX5_give cX5_give 3 none ∈ VS_h3 := List.mem_append_right _ (List.mem_append_right _ (List.mem_append_left _ (List.mem_of_getElem? (i := 20) rfl)))
theorem mw_h3_101 : Cond.methodLink RX5 145 yX5_give ∈ VS_h3 := List.mem_append_right _ (List.mem_append_right _ (List.mem_append_left _ (List.mem_of_getElem? (i := 21) rfl)))
theorem mw_h3_102 : Cond.instanceMethod yX5_give ∈ VS_h3 := List.mem_append_right _ (List.mem_append_right _ (List.mem_append_left _ (List.mem_of_getElem? (i := 22) rfl)))
theorem mw_h3_103 : Cond.selects RX5 yX5_give yX5_give ∈ VS_h3 := List.mem_append_right _ (List.mem_append_right _ (List.mem_append_left _ (List.mem_of_getElem? (i := 23) rfl)))
theorem mw_h3_104 : Cond.code yX5_pop cX5_pop 2 (some .int) ∈ VS_h3 := List.mem_append_right _ (List.mem_append_right _ (List.mem_append_left _ (List.mem_of_getElem? (i := 24) rfl)))
theorem mw_h3_105 : Cond.methodLink RX5 154 yX5_pop ∈ VS_h3 := List.mem_append_right _ (List.mem_append_right _ (List.mem_append_left _ (List.mem_of_getElem? (i := 25) rfl)))
theorem mw_h3_106 : Cond.instanceMethod yX5_pop ∈ VS_h3 := List.mem_append_right _ (List.mem_append_right _ (List.mem_append_left _ (List.mem_of_getElem? (i := 26) rfl)))
theorem mw_h3_107 : Cond.selects RX5 yX5_pop yX5_pop ∈ VS_h3 := List.mem_append_right _ (List.mem_append_right _ (List.mem_append_left _ (List.mem_of_getElem? (i := 27) rfl)))
theorem mw_h3_108 : Cond.fieldLink RX5 35 "ClassMill$Machine" "locals" "[I" ∈ VS_h3 := List.mem_append_right _ (List.mem_append_right _ (List.mem_append_left _ (List.mem_of_getElem? (i := 28) rfl)))
theorem mw_h3_109 : Cond.code yX3_pairAt cX3_pairAt 2 (some .int) ∈ VS_h3 := List.mem_append_right _ (List.mem_append_right _ (List.mem_append_left _ (List.mem_of_getElem? (i := 29) rfl)))
theorem mw_h3_110 : Cond.methodLink RX5 184 yX3_pairAt ∈ VS_h3 := List.mem_append_right _ (List.mem_append_right _ (List.mem_append_left _ (List.mem_of_getElem? (i := 30) rfl)))
theorem mw_h3_111 : Cond.instanceMethod yX3_pairAt ∈ VS_h3 := List.mem_append_right _ (List.mem_append_right _ (List.mem_append_left _ (List.mem_of_getElem? (i := 31) rfl)))
theorem mw_h3_112 : Cond.selects RX3 yX3_pairAt yX3_pairAt ∈ VS_h3 := List.mem_append_right _ (List.mem_append_right _ (List.mem_append_left _ (List.mem_of_getElem? (i := 32) rfl)))
theorem mw_h3_113 : Cond.code yX5_isObject cX5_isObject 2 (some .boolean) ∈ VS_h3 := List.mem_append_right _ (List.mem_append_right _ (List.mem_append_left _ (List.mem_of_getElem? (i := 33) rfl)))
theorem mw_h3_114 : Cond.methodLink RX5 226 yX5_isObject ∈ VS_h3 := List.mem_append_right _ (List.mem_append_right _ (List.mem_append_left _ (List.mem_of_getElem? (i := 34) rfl)))
theorem mw_h3_115 : Cond.instanceMethod yX5_isObject ∈ VS_h3 := List.mem_append_right _ (List.mem_append_right _ (List.mem_append_left _ (List.mem_of_getElem? (i := 35) rfl)))
theorem mw_h3_116 : Cond.selects RX5 yX5_isObject yX5_isObject ∈ VS_h3 := List.mem_append_right _ (List.mem_append_right _ (List.mem_append_left _ (List.mem_of_getElem? (i := 36) rfl)))
theorem mw_h3_117 : Cond.fieldLink RX5 86 "ClassMill$Machine" "thrown" "I" ∈ VS_h3 := List.mem_append_right _ (List.mem_append_right _ (List.mem_append_left _ (List.mem_of_getElem? (i := 37) rfl)))
theorem mw_h3_118 : Cond.fieldLink RX5 20 "ClassMill$Machine" "objectAt" "[I" ∈ VS_h3 := List.mem_append_right _ (List.mem_append_right _ (List.mem_append_left _ (List.mem_of_getElem? (i := 38) rfl)))
theorem mw_h3_119 : Cond.code yX5_cellOf cX5_cellOf 3 (some .int) ∈ VS_h3 := List.mem_append_right _ (List.mem_append_right _ (List.mem_append_left _ (List.mem_of_getElem? (i := 39) rfl)))
theorem mw_h3_120 : Cond.methodLink RX5 229 yX5_cellOf ∈ VS_h3 := List.mem_append_right _ (List.mem_append_right _ (List.mem_append_right _ (List.mem_append_left _ (List.mem_of_getElem? (i := 0) rfl))))
theorem mw_h3_121 : Cond.instanceMethod yX5_cellOf ∈ VS_h3 := List.mem_append_right _ (List.mem_append_right _ (List.mem_append_right _ (List.mem_append_left _ (List.mem_of_getElem? (i := 1) rfl))))
theorem mw_h3_122 : Cond.selects RX5 yX5_cellOf yX5_cellOf ∈ VS_h3 := List.mem_append_right _ (List.mem_append_right _ (List.mem_append_right _ (List.mem_append_left _ (List.mem_of_getElem? (i := 2) rfl))))
theorem mw_h3_123 : Cond.fieldLink RX5 23 "ClassMill$Machine" "cell" "[I" ∈ VS_h3 := List.mem_append_right _ (List.mem_append_right _ (List.mem_append_right _ (List.mem_append_left _ (List.mem_of_getElem? (i := 3) rfl))))
theorem mw_h3_124 : Cond.code yX4_elementOf cX4_elementOf 1 (some .int) ∈ VS_h3 := List.mem_append_right _ (List.mem_append_right _ (List.mem_append_right _ (List.mem_append_left _ (List.mem_of_getElem? (i := 4) rfl))))
theorem mw_h3_125 : Cond.methodLink RX5 236 yX4_elementOf ∈ VS_h3 := List.mem_append_right _ (List.mem_append_right _ (List.mem_append_right _ (List.mem_append_left _ (List.mem_of_getElem? (i := 5) rfl))))
theorem mw_h3_126 : Cond.static yX4_elementOf ∈ VS_h3 := List.mem_append_right _ (List.mem_append_right _ (List.mem_append_right _ (List.mem_append_left _ (List.mem_of_getElem? (i := 6) rfl))))
theorem mw_h3_127 : Cond.methodLink RX5 239 yX4_fits ∈ VS_h3 := List.mem_append_right _ (List.mem_append_right _ (List.mem_append_right _ (List.mem_append_left _ (List.mem_of_getElem? (i := 7) rfl))))
theorem mw_h3_128 : Cond.fieldLink RX5 41 "ClassMill$Machine" "space" "LClassMill$Space;" ∈ VS_h3 := List.mem_append_right _ (List.mem_append_right _ (List.mem_append_right _ (List.mem_append_left _ (List.mem_of_getElem? (i := 8) rfl))))
theorem mw_h3_129 : Cond.fieldLink RX5 232 "ClassMill$Space" "kin" "LClassMill$Kin;" ∈ VS_h3 := List.mem_append_right _ (List.mem_append_right _ (List.mem_append_right _ (List.mem_append_left _ (List.mem_of_getElem? (i := 9) rfl))))
theorem mw_h3_130 : Cond.fieldLink RX5 17 "ClassMill$Machine" "objectType" "[I" ∈ VS_h3 := List.mem_append_right _ (List.mem_append_right _ (List.mem_append_right _ (List.mem_append_left _ (List.mem_of_getElem? (i := 10) rfl))))
theorem mw_h3_131 : Cond.code yX3_of cX3_of 4 (some .int) ∈ VS_h3 := List.mem_append_right _ (List.mem_append_right _ (List.mem_append_right _ (List.mem_append_left _ (List.mem_of_getElem? (i := 11) rfl))))
theorem mw_h3_132 : Cond.methodLink RX5 126 yX3_of ∈ VS_h3 := List.mem_append_right _ (List.mem_append_right _ (List.mem_append_right _ (List.mem_append_left _ (List.mem_of_getElem? (i := 12) rfl))))
theorem mw_h3_133 : Cond.instanceMethod yX3_of ∈ VS_h3 := List.mem_append_right _ (List.mem_append_right _ (List.mem_append_right _ (List.mem_append_left _ (List.mem_of_getElem? (i := 13) rfl))))
theorem mw_h3_134 : Cond.selects RX3 yX3_of yX3_of ∈ VS_h3 := List.mem_append_right _ (List.mem_append_right _ (List.mem_append_right _ (List.mem_append_left _ (List.mem_of_getElem? (i := 14) rfl))))
theorem mw_h3_135 : Cond.code yX5_compares cX5_compares 3 (some .boolean) ∈ VS_h3 := List.mem_append_right _ (List.mem_append_right _ (List.mem_append_right _ (List.mem_append_left _ (List.mem_of_getElem? (i := 15) rfl))))
theorem mw_h3_136 : Cond.methodLink RX5 180 yX5_compares ∈ VS_h3 := List.mem_append_right _ (List.mem_append_right _ (List.mem_append_right _ (List.mem_append_left _ (List.mem_of_getElem? (i := 16) rfl))))
theorem mw_h3_137 : Cond.static yX5_compares ∈ VS_h3 := List.mem_append_right _ (List.mem_append_right _ (List.mem_append_right _ (List.mem_append_left _ (List.mem_of_getElem? (i := 17) rfl))))
theorem mw_h3_138 : Cond.fieldLink RX5 46 "ClassMill$Machine" "image" "LClassMill$Image;" ∈ VS_h3 := List.mem_append_right _ (List.mem_append_right _ (List.mem_append_right _ (List.mem_append_left _ (List.mem_of_getElem? (i := 18) rfl))))
theorem mw_h3_139 : Cond.fieldLink RX5 129 "ClassMill$Machine" "code" "I" ∈ VS_h3 := List.mem_append_right _ (List.mem_append_right _ (List.mem_append_right _ (List.mem_append_left _ (List.mem_of_getElem? (i := 19) rfl))))
theorem mw_h3_140 : Cond.code yX5_stepElement cX5_stepElement 4 none ∈ VS_h3 := List.mem_append_right _ (List.mem_append_right _ (List.mem_append_right _ (List.mem_append_left _ (List.mem_of_getElem? (i := 20) rfl))))
theorem mw_h3_141 : Cond.methodLink RX5 187 yX5_stepElement ∈ VS_h3 := List.mem_append_right _ (List.mem_append_right _ (List.mem_append_right _ (List.mem_append_left _ (List.mem_of_getElem? (i := 21) rfl))))
theorem mw_h3_142 : Cond.instanceMethod yX5_stepElement ∈ VS_h3 := List.mem_append_right _ (List.mem_append_right _ (List.mem_append_right _ (List.mem_append_left _ (List.mem_of_getElem? (i := 22) rfl))))
theorem mw_h3_143 : Cond.selects RX5 yX5_stepElement yX5_stepElement ∈ VS_h3 := List.mem_append_right _ (List.mem_append_right _ (List.mem_append_right _ (List.mem_append_left _ (List.mem_of_getElem? (i := 23) rfl))))
theorem mw_h3_144 : Cond.code yX5_stepGiveElement cX5_stepGiveElement 6 none ∈ VS_h3 := List.mem_append_right _ (List.mem_append_right _ (List.mem_append_right _ (List.mem_append_left _ (List.mem_of_getElem? (i := 24) rfl))))
theorem mw_h3_145 : Cond.methodLink RX5 190 yX5_stepGiveElement ∈ VS_h3 := List.mem_append_right _ (List.mem_append_right _ (List.mem_append_right _ (List.mem_append_left _ (List.mem_of_getElem? (i := 25) rfl))))
theorem mw_h3_146 : Cond.instanceMethod yX5_stepGiveElement ∈ VS_h3 := List.mem_append_right _ (List.mem_append_right _ (List.mem_append_right _ (List.mem_append_left _ (List.mem_of_getElem? (i := 26) rfl))))
theorem mw_h3_147 : Cond.selects RX5 yX5_stepGiveElement yX5_stepGiveElement ∈ VS_h3 := List.mem_append_right _ (List.mem_append_right _ (List.mem_append_right _ (List.mem_append_left _ (List.mem_of_getElem? (i := 27) rfl))))
theorem mw_h3_148 : Cond.fieldLink RX11 11 "ClassMill$Verifier" "toldClass" "I" ∈ VS_h3 := List.mem_append_right _ (List.mem_append_right _ (List.mem_append_right _ (List.mem_append_left _ (List.mem_of_getElem? (i := 28) rfl))))
theorem mw_h3_149 : Cond.fieldLink RX11 17 "ClassMill$Verifier" "toldMethod" "I" ∈ VS_h3 := List.mem_append_right _ (List.mem_append_right _ (List.mem_append_right _ (List.mem_append_left _ (List.mem_of_getElem? (i := 29) rfl))))
theorem mw_h3_150 : Cond.fieldLink RX11 20 "ClassMill$Verifier" "toldPlace" "I" ∈ VS_h3 := List.mem_append_right _ (List.mem_append_right _ (List.mem_append_right _ (List.mem_append_left _ (List.mem_of_getElem? (i := 30) rfl))))
theorem mw_h3_151 : Cond.fieldLink RX11 129 "ClassMill$Verifier" "place" "I" ∈ VS_h3 := List.mem_append_right _ (List.mem_append_right _ (List.mem_append_right _ (List.mem_append_left _ (List.mem_of_getElem? (i := 31) rfl))))
theorem mw_h3_152 : Cond.methodLink RX11 146 yX3_of ∈ VS_h3 := List.mem_append_right _ (List.mem_append_right _ (List.mem_append_right _ (List.mem_append_left _ (List.mem_of_getElem? (i := 32) rfl))))
theorem mw_h3_153 : Cond.code yX4_above cX4_above 2 (some .int) ∈ VS_h3 := List.mem_append_right _ (List.mem_append_right _ (List.mem_append_right _ (List.mem_append_left _ (List.mem_of_getElem? (i := 33) rfl))))
theorem mw_h3_154 : Cond.methodLink RX11 75 yX4_above ∈ VS_h3 := List.mem_append_right _ (List.mem_append_right _ (List.mem_append_right _ (List.mem_append_left _ (List.mem_of_getElem? (i := 34) rfl))))
theorem mw_h3_155 : Cond.instanceMethod yX4_above ∈ VS_h3 := List.mem_append_right _ (List.mem_append_right _ (List.mem_append_right _ (List.mem_append_left _ (List.mem_of_getElem? (i := 35) rfl))))
theorem mw_h3_156 : Cond.selects RX4 yX4_above yX4_above ∈ VS_h3 := List.mem_append_right _ (List.mem_append_right _ (List.mem_append_right _ (List.mem_append_left _ (List.mem_of_getElem? (i := 36) rfl))))
theorem mw_h3_157 : Cond.methodLink RX11 167 yX3_tagOf ∈ VS_h3 := List.mem_append_right _ (List.mem_append_right _ (List.mem_append_right _ (List.mem_append_left _ (List.mem_of_getElem? (i := 37) rfl))))
theorem mw_h3_158 : Cond.methodLink RX11 177 yX3_partOf ∈ VS_h3 := List.mem_append_right _ (List.mem_append_right _ (List.mem_append_right _ (List.mem_append_left _ (List.mem_of_getElem? (i := 38) rfl))))
theorem mw_h3_159 : Cond.methodLink RX11 180 yX3_textAt ∈ VS_h3 := List.mem_append_right _ (List.mem_append_right _ (List.mem_append_right _ (List.mem_append_left _ (List.mem_of_getElem? (i := 39) rfl))))
theorem mw_h3_160 : Cond.methodLink RX11 183 yX3_byteAt ∈ VS_h3 := List.mem_append_right _ (List.mem_append_right _ (List.mem_append_right _ (List.mem_append_right _ (List.mem_append_left _ (List.mem_of_getElem? (i := 0) rfl)))))
theorem mw_h3_161 : Cond.fieldLink RX11 62 "ClassMill$Verifier" "image" "LClassMill$Image;" ∈ VS_h3 := List.mem_append_right _ (List.mem_append_right _ (List.mem_append_right _ (List.mem_append_right _ (List.mem_append_left _ (List.mem_of_getElem? (i := 1) rfl)))))
theorem mw_h3_162 : Cond.fieldLink RX11 103 "ClassMill$Verifier" "method" "I" ∈ VS_h3 := List.mem_append_right _ (List.mem_append_right _ (List.mem_append_right _ (List.mem_append_right _ (List.mem_append_left _ (List.mem_of_getElem? (i := 2) rfl)))))
theorem mw_h3_163 : Cond.code yX11_info cX11_info 2 (some .int) ∈ VS_h3 := List.mem_append_right _ (List.mem_append_right _ (List.mem_append_right _ (List.mem_append_right _ (List.mem_append_left _ (List.mem_of_getElem? (i := 3) rfl)))))
theorem mw_h3_164 : Cond.methodLink RX11 189 yX11_info ∈ VS_h3 := List.mem_append_right _ (List.mem_append_right _ (List.mem_append_right _ (List.mem_append_right _ (List.mem_append_left _ (List.mem_of_getElem? (i := 4) rfl)))))
theorem mw_h3_165 : Cond.instanceMethod yX11_info ∈ VS_h3 := List.mem_append_right _ (List.mem_append_right _ (List.mem_append_right _ (List.mem_append_right _ (List.mem_append_left _ (List.mem_of_getElem? (i := 5) rfl)))))
theorem mw_h3_166 : Cond.selects RX11 yX11_info yX11_info ∈ VS_h3 := List.mem_append_right _ (List.mem_append_right _ (List.mem_append_right _ (List.mem_append_right _ (List.mem_append_left _ (List.mem_of_getElem? (i := 6) rfl)))))
theorem mw_h3_167 : Cond.initialized RX11 ∈ VS_h3 := List.mem_append_right _ (List.mem_append_right _ (List.mem_append_right _ (List.mem_append_right _ (List.mem_append_left _ (List.mem_of_getElem? (i := 7) rfl)))))
theorem mw_h3_168 : Cond.code yX11_codeAt cX11_codeAt 2 (some .int) ∈ VS_h3 := List.mem_append_right _ (List.mem_append_right _ (List.mem_append_right _ (List.mem_append_right _ (List.mem_append_left _ (List.mem_of_getElem? (i := 8) rfl)))))
theorem mw_h3_169 : Cond.methodLink RX11 192 yX11_codeAt ∈ VS_h3 := List.mem_append_right _ (List.mem_append_right _ (List.mem_append_right _ (List.mem_append_right _ (List.mem_append_left _ (List.mem_of_getElem? (i := 9) rfl)))))
theorem mw_h3_170 : Cond.instanceMethod yX11_codeAt ∈ VS_h3 := List.mem_append_right _ (List.mem_append_right _ (List.mem_append_right _ (List.mem_append_right _ (List.mem_append_left _ (List.mem_of_getElem? (i := 10) rfl)))))
theorem mw_h3_171 : Cond.selects RX11 yX11_codeAt yX11_codeAt ∈ VS_h3 := List.mem_append_right _ (List.mem_append_right _ (List.mem_append_right _ (List.mem_append_right _ (List.mem_append_left _ (List.mem_of_getElem? (i := 11) rfl)))))
theorem mw_h3_172 : Cond.code yX11_isArithmetic cX11_isArithmetic 1 (some .boolean) ∈ VS_h3 := List.mem_append_right _ (List.mem_append_right _ (List.mem_append_right _ (List.mem_append_right _ (List.mem_append_left _ (List.mem_of_getElem? (i := 12) rfl)))))
theorem mw_h3_173 : Cond.methodLink RX11 201 yX11_isArithmetic ∈ VS_h3 := List.mem_append_right _ (List.mem_append_right _ (List.mem_append_right _ (List.mem_append_right _ (List.mem_append_left _ (List.mem_of_getElem? (i := 13) rfl)))))
theorem mw_h3_174 : Cond.static yX11_isArithmetic ∈ VS_h3 := List.mem_append_right _ (List.mem_append_right _ (List.mem_append_right _ (List.mem_append_right _ (List.mem_append_left _ (List.mem_of_getElem? (i := 14) rfl)))))
theorem mw_h3_175 : Cond.fieldLink RX11 209 "ClassMill$Verifier" "length" "I" ∈ VS_h3 := List.mem_append_right _ (List.mem_append_right _ (List.mem_append_right _ (List.mem_append_right _ (List.mem_append_left _ (List.mem_of_getElem? (i := 15) rfl)))))
theorem mw_h3_176 : Cond.fieldLink RX11 38 "ClassMill$Verifier" "marks" "[I" ∈ VS_h3 := List.mem_append_right _ (List.mem_append_right _ (List.mem_append_right _ (List.mem_append_right _ (List.mem_append_left _ (List.mem_of_getElem? (i := 16) rfl)))))
theorem mw_h3_177 : Cond.code yX11_begins cX11_begins 2 (some .boolean) ∈ VS_h3 := List.mem_append_right _ (List.mem_append_right _ (List.mem_append_right _ (List.mem_append_right _ (List.mem_append_left _ (List.mem_of_getElem? (i := 17) rfl)))))
theorem mw_h3_178 : Cond.methodLink RX11 224 yX11_begins ∈ VS_h3 := List.mem_append_right _ (List.mem_append_right _ (List.mem_append_right _ (List.mem_append_right _ (List.mem_append_left _ (List.mem_of_getElem? (i := 18) rfl)))))
theorem mw_h3_179 : Cond.instanceMethod yX11_begins ∈ VS_h3 := List.mem_append_right _ (List.mem_append_right _ (List.mem_append_right _ (List.mem_append_right _ (List.mem_append_left _ (List.mem_of_getElem? (i := 19) rfl)))))
theorem mw_h3_180 : Cond.selects RX11 yX11_begins yX11_begins ∈ VS_h3 := List.mem_append_right _ (List.mem_append_right _ (List.mem_append_right _ (List.mem_append_right _ (List.mem_append_left _ (List.mem_of_getElem? (i := 20) rfl)))))
theorem mw_h3_181 : Cond.code yX11_isJump cX11_isJump 1 (some .boolean) ∈ VS_h3 := List.mem_append_right _ (List.mem_append_right _ (List.mem_append_right _ (List.mem_append_right _ (List.mem_append_left _ (List.mem_of_getElem? (i := 21) rfl)))))
theorem mw_h3_182 : Cond.methodLink RX11 198 yX11_isJump ∈ VS_h3 := List.mem_append_right _ (List.mem_append_right _ (List.mem_append_right _ (List.mem_append_right _ (List.mem_append_left _ (List.mem_of_getElem? (i := 22) rfl)))))
theorem mw_h3_183 : Cond.static yX11_isJump ∈ VS_h3 := List.mem_append_right _ (List.mem_append_right _ (List.mem_append_right _ (List.mem_append_right _ (List.mem_append_left _ (List.mem_of_getElem? (i := 23) rfl)))))
theorem mw_h3_184 : Cond.code yX11_aimOf cX11_aimOf 2 (some .int) ∈ VS_h3 := List.mem_append_right _ (List.mem_append_right _ (List.mem_append_right _ (List.mem_append_right _ (List.mem_append_left _ (List.mem_of_getElem? (i := 24) rfl)))))
theorem mw_h3_185 : Cond.methodLink RX11 227 yX11_aimOf ∈ VS_h3 := List.mem_append_right _ (List.mem_append_right _ (List.mem_append_right _ (List.mem_append_right _ (List.mem_append_left _ (List.mem_of_getElem? (i := 25) rfl)))))
theorem mw_h3_186 : Cond.instanceMethod yX11_aimOf ∈ VS_h3 := List.mem_append_right _ (List.mem_append_right _ (List.mem_append_right _ (List.mem_append_right _ (List.mem_append_left _ (List.mem_of_getElem? (i := 26) rfl)))))
theorem mw_h3_187 : Cond.selects RX11 yX11_aimOf yX11_aimOf ∈ VS_h3 := List.mem_append_right _ (List.mem_append_right _ (List.mem_append_right _ (List.mem_append_right _ (List.mem_append_left _ (List.mem_of_getElem? (i := 27) rfl)))))
theorem mw_h3_188 : Cond.code yX11_at cX11_at 3 (some .int) ∈ VS_h3 := List.mem_append_right _ (List.mem_append_right _ (List.mem_append_right _ (List.mem_append_right _ (List.mem_append_left _ (List.mem_of_getElem? (i := 28) rfl)))))
theorem mw_h3_189 : Cond.methodLink RX11 221 yX11_at ∈ VS_h3 := List.mem_append_right _ (List.mem_append_right _ (List.mem_append_right _ (List.mem_append_right _ (List.mem_append_left _ (List.mem_of_getElem? (i := 29) rfl)))))
theorem mw_h3_190 : Cond.instanceMethod yX11_at ∈ VS_h3 := List.mem_append_right _ (List.mem_append_right _ (List.mem_append_right _ (List.mem_append_right _ (List.mem_append_left _ (List.mem_of_getElem? (i := 30) rfl)))))
theorem mw_h3_191 : Cond.selects RX11 yX11_at yX11_at ∈ VS_h3 := List.mem_append_right _ (List.mem_append_right _ (List.mem_append_right _ (List.mem_append_right _ (List.mem_append_left _ (List.mem_of_getElem? (i := 31) rfl)))))
theorem mw_h3_192 : Cond.methodLink RX11 230 yX3_pairAt ∈ VS_h3 := List.mem_append_right _ (List.mem_append_right _ (List.mem_append_right _ (List.mem_append_right _ (List.mem_append_left _ (List.mem_of_getElem? (i := 32) rfl)))))
theorem mw_h3_193 : Cond.fieldLink RX11 23 "ClassMill$Verifier" "classTypes" "[I" ∈ VS_h3 := List.mem_append_right _ (List.mem_append_right _ (List.mem_append_right _ (List.mem_append_right _ (List.mem_append_left _ (List.mem_of_getElem? (i := 33) rfl)))))
theorem mw_h3_194 : Cond.fieldLink RX11 41 "ClassMill$Verifier" "frames" "[I" ∈ VS_h3 := List.mem_append_right _ (List.mem_append_right _ (List.mem_append_right _ (List.mem_append_right _ (List.mem_append_left _ (List.mem_of_getElem? (i := 34) rfl)))))
theorem mw_h3_195 : Cond.code yX11_frameAt cX11_frameAt 2 (some .int) ∈ VS_h3 := List.mem_append_right _ (List.mem_append_right _ (List.mem_append_right _ (List.mem_append_right _ (List.mem_append_left _ (List.mem_of_getElem? (i := 35) rfl)))))
theorem mw_h3_196 : Cond.methodLink RX11 242 yX11_frameAt ∈ VS_h3 := List.mem_append_right _ (List.mem_append_right _ (List.mem_append_right _ (List.mem_append_right _ (List.mem_append_left _ (List.mem_of_getElem? (i := 36) rfl)))))
theorem mw_h3_197 : Cond.instanceMethod yX11_frameAt ∈ VS_h3 := List.mem_append_right _ (List.mem_append_right _ (List.mem_append_right _ (List.mem_append_right _ (List.mem_append_left _ (List.mem_of_getElem? (i := 37) rfl)))))
theorem mw_h3_198 : Cond.selects RX11 yX11_frameAt yX11_frameAt ∈ VS_h3 := List.mem_append_right _ (List.mem_append_right _ (List.mem_append_right _ (List.mem_append_right _ (List.mem_append_left _ (List.mem_of_getElem? (i := 38) rfl)))))
theorem mw_h3_199 : Cond.methodLink RX11 248 yX4_fits ∈ VS_h3 := List.mem_append_right _ (List.mem_append_right _ (List.mem_append_right _ (List.mem_append_right _ (List.mem_append_left _ (List.mem_of_getElem? (i := 39) rfl)))))
theorem mw_h3_200 : Cond.fieldLink RX11 60 "ClassMill$Verifier" "kin" "LClassMill$Kin;" ∈ VS_h3 := List.mem_append_right _ (List.mem_append_right _ (List.mem_append_right _ (List.mem_append_right _ (List.mem_append_right _ (List.mem_append_left _ (List.mem_of_getElem? (i := 0) rfl))))))
theorem mw_h3_201 : Cond.code yX11_fits cX11_fits 3 (some .boolean) ∈ VS_h3 := List.mem_append_right _ (List.mem_append_right _ (List.mem_append_right _ (List.mem_append_right _ (List.mem_append_right _ (List.mem_append_left _ (List.mem_of_getElem? (i := 1) rfl))))))
theorem mw_h3_202 : Cond.methodLink RX11 303 yX11_fits ∈ VS_h3 := List.mem_append_right _ (List.mem_append_right _ (List.mem_append_right _ (List.mem_append_right _ (List.mem_append_right _ (List.mem_append_left _ (List.mem_of_getElem? (i := 2) rfl))))))
theorem mw_h3_203 : Cond.instanceMethod yX11_fits ∈ VS_h3 := List.mem_append_right _ (List.mem_append_right _ (List.mem_append_right _ (List.mem_append_right _ (List.mem_append_right _ (List.mem_append_left _ (List.mem_of_getElem? (i := 3) rfl))))))
theorem mw_h3_204 : Cond.selects RX11 yX11_fits yX11_fits ∈ VS_h3 := List.mem_append_right _ (List.mem_append_right _ (List.mem_append_right _ (List.mem_append_right _ (List.mem_append_right _ (List.mem_append_left _ (List.mem_of_getElem? (i := 4) rfl))))))
theorem mw_h3_205 : Cond.fieldLink RX11 44 "ClassMill$Verifier" "locals" "[I" ∈ VS_h3 := List.mem_append_right _ (List.mem_append_right _ (List.mem_append_right _ (List.mem_append_right _ (List.mem_append_right _ (List.mem_append_left _ (List.mem_of_getElem? (i := 5) rfl))))))
theorem mw_h3_206 : Cond.code yX11_fitsLocals cX11_fitsLocals 4 (some .boolean) ∈ VS_h3 := List.mem_append_right _ (List.mem_append_right _ (List.mem_append_right _ (List.mem_append_right _ (List.mem_append_right _ (List.mem_append_left _ (List.mem_of_getElem? (i := 6) rfl))))))
theorem mw_h3_207 : Cond.methodLink RX11 304 yX11_fitsLocals ∈ VS_h3 := List.mem_append_right _ (List.mem_append_right _ (List.mem_append_right _ (List.mem_append_right _ (List.mem_append_right _ (List.mem_append_left _ (List.mem_of_getElem? (i := 7) rfl))))))
theorem mw_h3_208 : Cond.instanceMethod yX11_fitsLocals ∈ VS_h3 := List.mem_append_right _ (List.mem_append_right _ (List.mem_append_right _ (List.mem_append_right _ (List.mem_append_right _ (List.mem_append_left _ (List.mem_of_getElem? (i := 8) rfl))))))
theorem mw_h3_209 : Cond.selects RX11 yX11_fitsLocals yX11_fitsLocals ∈ VS_h3 := List.mem_append_right _ (List.mem_append_right _ (List.mem_append_right _ (List.mem_append_right _ (List.mem_append_right _ (List.mem_append_left _ (List.mem_of_getElem? (i := 9) rfl))))))
theorem mw_h3_210 : Cond.code yX11_handler cX11_handler 3 (some .int) ∈ VS_h3 := List.mem_append_right _ (List.mem_append_right _ (List.mem_append_right _ (List.mem_append_right _ (List.mem_append_right _ (List.mem_append_left _ (List.mem_of_getElem? (i := 10) rfl))))))
theorem mw_h3_211 : Cond.methodLink RX11 239 yX11_handler ∈ VS_h3 := List.mem_append_right _ (List.mem_append_right _ (List.mem_append_right _ (List.mem_append_right _ (List.mem_append_right _ (List.mem_append_left _ (List.mem_of_getElem? (i := 11) rfl))))))
theorem mw_h3_212 : Cond.instanceMethod yX11_handler ∈ VS_h3 := List.mem_append_right _ (List.mem_append_right _ (List.mem_append_right _ (List.mem_append_right _ (List.mem_append_right _ (List.mem_append_left _ (List.mem_of_getElem? (i := 12) rfl))))))
theorem mw_h3_213 : Cond.selects RX11 yX11_handler yX11_handler ∈ VS_h3 := List.mem_append_right _ (List.mem_append_right _ (List.mem_append_right _ (List.mem_append_right _ (List.mem_append_right _ (List.mem_append_left _ (List.mem_of_getElem? (i := 13) rfl))))))
theorem mw_h3_214 : Cond.code yX11_handlerClass cX11_handlerClass 2 (some .int) ∈ VS_h3 := List.mem_append_right _ (List.mem_append_right _ (List.mem_append_right _ (List.mem_append_right _ (List.mem_append_right _ (List.mem_append_left _ (List.mem_of_getElem? (i := 14) rfl))))))
theorem mw_h3_215 : Cond.methodLink RX11 245 yX11_handlerClass ∈ VS_h3 := List.mem_append_right _ (List.mem_append_right _ (List.mem_append_right _ (List.mem_append_right _ (List.mem_append_right _ (List.mem_append_left _ (List.mem_of_getElem? (i := 15) rfl))))))
theorem mw_h3_216 : Cond.instanceMethod yX11_handlerClass ∈ VS_h3 := List.mem_append_right _ (List.mem_append_right _ (List.mem_append_right _ (List.mem_append_right _ (List.mem_append_right _ (List.mem_append_left _ (List.mem_of_getElem? (i := 16) rfl))))))
theorem mw_h3_217 : Cond.selects RX11 yX11_handlerClass yX11_handlerClass ∈ VS_h3 := List.mem_append_right _ (List.mem_append_right _ (List.mem_append_right _ (List.mem_append_right _ (List.mem_append_right _ (List.mem_append_left _ (List.mem_of_getElem? (i := 17) rfl))))))
theorem mw_h3_218 : Cond.fieldLink RX11 255 "ClassMill$Verifier" "height" "I" ∈ VS_h3 := List.mem_append_right _ (List.mem_append_right _ (List.mem_append_right _ (List.mem_append_right _ (List.mem_append_right _ (List.mem_append_left _ (List.mem_of_getElem? (i := 18) rfl))))))
theorem mw_h3_219 : Cond.fieldLink RX11 47 "ClassMill$Verifier" "stack" "[I" ∈ VS_h3 := List.mem_append_right _ (List.mem_append_right _ (List.mem_append_right _ (List.mem_append_right _ (List.mem_append_right _ (List.mem_append_left _ (List.mem_of_getElem? (i := 19) rfl))))))
theorem mw_h3_220 : Cond.fieldLink RX11 295 "ClassMill$Verifier" "fitting" "Z" ∈ VS_h3 := List.mem_append_right _ (List.mem_append_right _ (List.mem_append_right _ (List.mem_append_right _ (List.mem_append_right _ (List.mem_append_left _ (List.mem_of_getElem? (i := 20) rfl))))))
theorem mw_h3_221 : Cond.code yX11_pop cX11_pop 1 (some .int) ∈ VS_h3 := List.mem_append_right _ (List.mem_append_right _ (List.mem_append_right _ (List.mem_append_right _ (List.mem_append_right _ (List.mem_append_left _ (List.mem_of_getElem? (i := 21) rfl))))))
theorem mw_h3_222 : Cond.methodLink RX11 313 yX11_pop ∈ VS_h3 := List.mem_append_right _ (List.mem_append_right _ (List.mem_append_right _ (List.mem_append_right _ (List.mem_append_right _ (List.mem_append_left _ (List.mem_of_getElem? (i := 22) rfl))))))
theorem mw_h3_223 : Cond.instanceMethod yX11_pop ∈ VS_h3 := List.mem_append_right _ (List.mem_append_right _ (List.mem_append_right _ (List.mem_append_right _ (List.mem_append_right _ (List.mem_append_left _ (List.mem_of_getElem? (i := 23) rfl))))))
theorem mw_h3_224 : Cond.selects RX11 yX11_pop yX11_pop ∈ VS_h3 := List.mem_append_right _ (List.mem_append_right _ (List.mem_append_right _ (List.mem_append_right _ (List.mem_append_right _ (List.mem_append_left _ (List.mem_of_getElem? (i := 24) rfl))))))
theorem mw_h3_225 : Cond.code yX4_isReference cX4_isReference 1 (some .boolean) ∈ VS_h3 := List.mem_append_right _ (List.mem_append_right _ (List.mem_append_right _ (List.mem_append_right _ (List.mem_append_right _ (List.mem_append_left _ (List.mem_of_getElem? (i := 25) rfl))))))
theorem mw_h3_226 : Cond.methodLink RX11 316 yX4_isReference ∈ VS_h3 := List.mem_append_right _ (List.mem_append_right _ (List.mem_append_right _ (List.mem_append_right _ (List.mem_append_right _ (List.mem_append_left _ (List.mem_of_getElem? (i := 26) rfl))))))
theorem mw_h3_227 : Cond.static yX4_isReference ∈ VS_h3 := List.mem_append_right _ (List.mem_append_right _ (List.mem_append_right _ (List.mem_append_right _ (List.mem_append_right _ (List.mem_append_left _ (List.mem_of_getElem? (i := 27) rfl))))))
theorem mw_h3_228 : Cond.code yX4_isArray cX4_isArray 1 (some .boolean) ∈ VS_h3 := List.mem_append_right _ (List.mem_append_right _ (List.mem_append_right _ (List.mem_append_right _ (List.mem_append_right _ (List.mem_append_left _ (List.mem_of_getElem? (i := 28) rfl))))))
theorem mw_h3_229 : Cond.methodLink RX11 319 yX4_isArray ∈ VS_h3 := List.mem_append_right _ (List.mem_append_right _ (List.mem_append_right _ (List.mem_append_right _ (List.mem_append_right _ (List.mem_append_left _ (List.mem_of_getElem? (i := 29) rfl))))))
theorem mw_h3_230 : Cond.static yX4_isArray ∈ VS_h3 := List.mem_append_right _ (List.mem_append_right _ (List.mem_append_right _ (List.mem_append_right _ (List.mem_append_right _ (List.mem_append_left _ (List.mem_of_getElem? (i := 30) rfl))))))
theorem mw_h3_231 : Cond.fieldLink RX11 261 "ClassMill$Verifier" "mostHeight" "I" ∈ VS_h3 := List.mem_append_right _ (List.mem_append_right _ (List.mem_append_right _ (List.mem_append_right _ (List.mem_append_right _ (List.mem_append_left _ (List.mem_of_getElem? (i := 31) rfl))))))
theorem mw_h3_232 : Cond.code yX11_push cX11_push 2 none ∈ VS_h3 := List.mem_append_right _ (List.mem_append_right _ (List.mem_append_right _ (List.mem_append_right _ (List.mem_append_right _ (List.mem_append_left _ (List.mem_of_getElem? (i := 32) rfl))))))
theorem mw_h3_233 : Cond.methodLink RX11 322 yX11_push ∈ VS_h3 := List.mem_append_right _ (List.mem_append_right _ (List.mem_append_right _ (List.mem_append_right _ (List.mem_append_right _ (List.mem_append_left _ (List.mem_of_getElem? (i := 33) rfl))))))
theorem mw_h3_234 : Cond.instanceMethod yX11_push ∈ VS_h3 := List.mem_append_right _ (List.mem_append_right _ (List.mem_append_right _ (List.mem_append_right _ (List.mem_append_right _ (List.mem_append_left _ (List.mem_of_getElem? (i := 34) rfl))))))
theorem mw_h3_235 : Cond.selects RX11 yX11_push yX11_push ∈ VS_h3 := List.mem_append_right _ (List.mem_append_right _ (List.mem_append_right _ (List.mem_append_right _ (List.mem_append_right _ (List.mem_append_left _ (List.mem_of_getElem? (i := 35) rfl))))))
theorem mw_h3_236 : Cond.code yX11_wantReference cX11_wantReference 2 (some .int) ∈ VS_h3 := List.mem_append_right _ (List.mem_append_right _ (List.mem_append_right _ (List.mem_append_right _ (List.mem_append_right _ (List.mem_append_left _ (List.mem_of_getElem? (i := 36) rfl))))))
theorem mw_h3_237 : Cond.methodLink RX11 346 yX11_wantReference ∈ VS_h3 := List.mem_append_right _ (List.mem_append_right _ (List.mem_append_right _ (List.mem_append_right _ (List.mem_append_right _ (List.mem_append_left _ (List.mem_of_getElem? (i := 37) rfl))))))
theorem mw_h3_238 : Cond.instanceMethod yX11_wantReference ∈ VS_h3 := List.mem_append_right _ (List.mem_append_right _ (List.mem_append_right _ (List.mem_append_right _ (List.mem_append_right _ (List.mem_append_left _ (List.mem_of_getElem? (i := 38) rfl))))))
theorem mw_h3_239 : Cond.selects RX11 yX11_wantReference yX11_wantReference ∈ VS_h3 := List.mem_append_right _ (List.mem_append_right _ (List.mem_append_right _ (List.mem_append_right _ (List.mem_append_right _ (List.mem_append_left _ (List.mem_of_getElem? (i := 39) rfl))))))
theorem mw_h3_240 : Cond.code yX11_want cX11_want 3 none ∈ VS_h3 := List.mem_append_right _ (List.mem_append_right _ (List.mem_append_right _ (List.mem_append_right _ (List.mem_append_right _ (List.mem_append_right _ (List.mem_append_left _ (List.mem_of_getElem? (i := 0) rfl)))))))
theorem mw_h3_241 : Cond.methodLink RX11 325 yX11_want ∈ VS_h3 := List.mem_append_right _ (List.mem_append_right _ (List.mem_append_right _ (List.mem_append_right _ (List.mem_append_right _ (List.mem_append_right _ (List.mem_append_left _ (List.mem_of_getElem? (i := 1) rfl)))))))
theorem mw_h3_242 : Cond.instanceMethod yX11_want ∈ VS_h3 := List.mem_append_right _ (List.mem_append_right _ (List.mem_append_right _ (List.mem_append_right _ (List.mem_append_right _ (List.mem_append_right _ (List.mem_append_left _ (List.mem_of_getElem? (i := 2) rfl)))))))
theorem mw_h3_243 : Cond.selects RX11 yX11_want yX11_want ∈ VS_h3 := List.mem_append_right _ (List.mem_append_right _ (List.mem_append_right _ (List.mem_append_right _ (List.mem_append_right _ (List.mem_append_right _ (List.mem_append_left _ (List.mem_of_getElem? (i := 3) rfl)))))))
theorem mw_h3_244 : Cond.code yX11_wantArray cX11_wantArray 5 (some .int) ∈ VS_h3 := List.mem_append_right _ (List.mem_append_right _ (List.mem_append_right _ (List.mem_append_right _ (List.mem_append_right _ (List.mem_append_right _ (List.mem_append_left _ (List.mem_of_getElem? (i := 4) rfl)))))))
theorem mw_h3_245 : Cond.methodLink RX11 349 yX11_wantArray ∈ VS_h3 := List.mem_append_right _ (List.mem_append_right _ (List.mem_append_right _ (List.mem_append_right _ (List.mem_append_right _ (List.mem_append_right _ (List.mem_append_left _ (List.mem_of_getElem? (i := 5) rfl)))))))
theorem mw_h3_246 : Cond.instanceMethod yX11_wantArray ∈ VS_h3 := List.mem_append_right _ (List.mem_append_right _ (List.mem_append_right _ (List.mem_append_right _ (List.mem_append_right _ (List.mem_append_right _ (List.mem_append_left _ (List.mem_of_getElem? (i := 6) rfl)))))))
theorem mw_h3_247 : Cond.selects RX11 yX11_wantArray yX11_wantArray ∈ VS_h3 := List.mem_append_right _ (List.mem_append_right _ (List.mem_append_right _ (List.mem_append_right _ (List.mem_append_right _ (List.mem_append_right _ (List.mem_append_left _ (List.mem_of_getElem? (i := 7) rfl)))))))
theorem mw_h3_248 : Cond.methodLink RX11 353 yX4_elementOf ∈ VS_h3 := List.mem_append_right _ (List.mem_append_right _ (List.mem_append_right _ (List.mem_append_right _ (List.mem_append_right _ (List.mem_append_right _ (List.mem_append_left _ (List.mem_of_getElem? (i := 8) rfl)))))))
theorem mw_h3_249 : Cond.fieldLink RX11 264 "ClassMill$Verifier" "result" "I" ∈ VS_h3 := List.mem_append_right _ (List.mem_append_right _ (List.mem_append_right _ (List.mem_append_right _ (List.mem_append_right _ (List.mem_append_right _ (List.mem_append_left _ (List.mem_of_getElem? (i := 9) rfl)))))))
theorem mw_h3_250 : Cond.fieldLink RX11 33 "ClassMill$Verifier" "memberTypes" "[I" ∈ VS_h3 := List.mem_append_right _ (List.mem_append_right _ (List.mem_append_right _ (List.mem_append_right _ (List.mem_append_right _ (List.mem_append_right _ (List.mem_append_left _ (List.mem_of_getElem? (i := 10) rfl)))))))
theorem mw_h3_251 : Cond.fieldLink RX11 30 "ClassMill$Verifier" "memberParameters" "[I" ∈ VS_h3 := List.mem_append_right _ (List.mem_append_right _ (List.mem_append_right _ (List.mem_append_right _ (List.mem_append_right _ (List.mem_append_right _ (List.mem_append_left _ (List.mem_of_getElem? (i := 11) rfl)))))))
theorem mw_h3_252 : Cond.code yX11_isBare cX11_isBare 1 (some .boolean) ∈ VS_h3 := List.mem_append_right _ (List.mem_append_right _ (List.mem_append_right _ (List.mem_append_right _ (List.mem_append_right _ (List.mem_append_right _ (List.mem_append_left _ (List.mem_of_getElem? (i := 12) rfl)))))))
theorem mw_h3_253 : Cond.methodLink RX11 195 yX11_isBare ∈ VS_h3 := List.mem_append_right _ (List.mem_append_right _ (List.mem_append_right _ (List.mem_append_right _ (List.mem_append_right _ (List.mem_append_right _ (List.mem_append_left _ (List.mem_of_getElem? (i := 13) rfl)))))))
theorem mw_h3_254 : Cond.static yX11_isBare ∈ VS_h3 := List.mem_append_right _ (List.mem_append_right _ (List.mem_append_right _ (List.mem_append_right _ (List.mem_append_right _ (List.mem_append_right _ (List.mem_append_left _ (List.mem_of_getElem? (i := 14) rfl)))))))
theorem mw_h3_255 : Cond.code yX11_typeOfTag cX11_typeOfTag 3 (some .int) ∈ VS_h3 := List.mem_append_right _ (List.mem_append_right _ (List.mem_append_right _ (List.mem_append_right _ (List.mem_append_right _ (List.mem_append_right _ (List.mem_append_left _ (List.mem_of_getElem? (i := 15) rfl)))))))
theorem mw_h3_256 : Cond.methodLink RX11 236 yX11_typeOfTag ∈ VS_h3 := List.mem_append_right _ (List.mem_append_right _ (List.mem_append_right _ (List.mem_append_right _ (List.mem_append_right _ (List.mem_append_right _ (List.mem_append_left _ (List.mem_of_getElem? (i := 16) rfl)))))))
theorem mw_h3_257 : Cond.instanceMethod yX11_typeOfTag ∈ VS_h3 := List.mem_append_right _ (List.mem_append_right _ (List.mem_append_right _ (List.mem_append_right _ (List.mem_append_right _ (List.mem_append_right _ (List.mem_append_left _ (List.mem_of_getElem? (i := 17) rfl)))))))
theorem mw_h3_258 : Cond.selects RX11 yX11_typeOfTag yX11_typeOfTag ∈ VS_h3 := List.mem_append_right _ (List.mem_append_right _ (List.mem_append_right _ (List.mem_append_right _ (List.mem_append_right _ (List.mem_append_right _ (List.mem_append_left _ (List.mem_of_getElem? (i := 18) rfl)))))))
theorem mw_h3_259 : Cond.code yX11_areThere cX11_areThere 5 (some .boolean) ∈ VS_h3 := List.mem_append_right _ (List.mem_append_right _ (List.mem_append_right _ (List.mem_append_right _ (List.mem_append_right _ (List.mem_append_right _ (List.mem_append_left _ (List.mem_of_getElem? (i := 19) rfl)))))))
theorem mw_h3_260 : Cond.methodLink RX11 252 yX11_areThere ∈ VS_h3 := List.mem_append_right _ (List.mem_append_right _ (List.mem_append_right _ (List.mem_append_right _ (List.mem_append_right _ (List.mem_append_right _ (List.mem_append_left _ (List.mem_of_getElem? (i := 20) rfl)))))))
theorem mw_h3_261 : Cond.instanceMethod yX11_areThere ∈ VS_h3 := List.mem_append_right _ (List.mem_append_right _ (List.mem_append_right _ (List.mem_append_right _ (List.mem_append_right _ (List.mem_append_right _ (List.mem_append_left _ (List.mem_of_getElem? (i := 21) rfl)))))))
theorem mw_h3_262 : Cond.selects RX11 yX11_areThere yX11_areThere ∈ VS_h3 := List.mem_append_right _ (List.mem_append_right _ (List.mem_append_right _ (List.mem_append_right _ (List.mem_append_right _ (List.mem_append_right _ (List.mem_append_left _ (List.mem_of_getElem? (i := 22) rfl)))))))
theorem mw_h3_263 : Cond.code yX11_fitsHandlers cX11_fitsHandlers 5 (some .boolean) ∈ VS_h3 := List.mem_append_right _ (List.mem_append_right _ (List.mem_append_right _ (List.mem_append_right _ (List.mem_append_right _ (List.mem_append_right _ (List.mem_append_left _ (List.mem_of_getElem? (i := 23) rfl)))))))
theorem mw_h3_264 : Cond.methodLink RX11 289 yX11_fitsHandlers ∈ VS_h3 := List.mem_append_right _ (List.mem_append_right _ (List.mem_append_right _ (List.mem_append_right _ (List.mem_append_right _ (List.mem_append_right _ (List.mem_append_left _ (List.mem_of_getElem? (i := 24) rfl)))))))
theorem mw_h3_265 : Cond.instanceMethod yX11_fitsHandlers ∈ VS_h3 := List.mem_append_right _ (List.mem_append_right _ (List.mem_append_right _ (List.mem_append_right _ (List.mem_append_right _ (List.mem_append_right _ (List.mem_append_left _ (List.mem_of_getElem? (i := 25) rfl)))))))
theorem mw_h3_266 : Cond.selects RX11 yX11_fitsHandlers yX11_fitsHandlers ∈ VS_h3 := List.mem_append_right _ (List.mem_append_right _ (List.mem_append_right _ (List.mem_append_right _ (List.mem_append_right _ (List.mem_append_right _ (List.mem_append_left _ (List.mem_of_getElem? (i := 26) rfl)))))))
theorem mw_h3_267 : Cond.code yX11_applyLocal cX11_applyLocal 4 none ∈ VS_h3 := List.mem_append_right _ (List.mem_append_right _ (List.mem_append_right _ (List.mem_append_right _ (List.mem_append_right _ (List.mem_append_right _ (List.mem_append_left _ (List.mem_of_getElem? (i := 27) rfl)))))))
theorem mw_h3_268 : Cond.methodLink RX11 328 yX11_applyLocal ∈ VS_h3 := List.mem_append_right _ (List.mem_append_right _ (List.mem_append_right _ (List.mem_append_right _ (List.mem_append_right _ (List.mem_append_right _ (List.mem_append_left _ (List.mem_of_getElem? (i := 28) rfl)))))))
theorem mw_h3_269 : Cond.instanceMethod yX11_applyLocal ∈ VS_h3 := List.mem_append_right _ (List.mem_append_right _ (List.mem_append_right _ (List.mem_append_right _ (List.mem_append_right _ (List.mem_append_right _ (List.mem_append_left _ (List.mem_of_getElem? (i := 29) rfl)))))))
theorem mw_h3_270 : Cond.selects RX11 yX11_applyLocal yX11_applyLocal ∈ VS_h3 := List.mem_append_right _ (List.mem_append_right _ (List.mem_append_right _ (List.mem_append_right _ (List.mem_append_right _ (List.mem_append_right _ (List.mem_append_left _ (List.mem_of_getElem? (i := 30) rfl)))))))
theorem mw_h3_271 : Cond.code yX11_applyObject cX11_applyObject 3 none ∈ VS_h3 := List.mem_append_right _ (List.mem_append_right _ (List.mem_append_right _ (List.mem_append_right _ (List.mem_append_right _ (List.mem_append_right _ (List.mem_append_left _ (List.mem_of_getElem? (i := 31) rfl)))))))
theorem mw_h3_272 : Cond.methodLink RX11 343 yX11_applyObject ∈ VS_h3 := List.mem_append_right _ (List.mem_append_right _ (List.mem_append_right _ (List.mem_append_right _ (List.mem_append_right _ (List.mem_append_right _ (List.mem_append_left _ (List.mem_of_getElem? (i := 32) rfl)))))))
theorem mw_h3_273 : Cond.instanceMethod yX11_applyObject ∈ VS_h3 := List.mem_append_right _ (List.mem_append_right _ (List.mem_append_right _ (List.mem_append_right _ (List.mem_append_right _ (List.mem_append_right _ (List.mem_append_left _ (List.mem_of_getElem? (i := 33) rfl)))))))
theorem mw_h3_274 : Cond.selects RX11 yX11_applyObject yX11_applyObject ∈ VS_h3 := List.mem_append_right _ (List.mem_append_right _ (List.mem_append_right _ (List.mem_append_right _ (List.mem_append_right _ (List.mem_append_right _ (List.mem_append_left _ (List.mem_of_getElem? (i := 34) rfl)))))))
theorem mw_h3_275 : Cond.code yX11_applyMember cX11_applyMember 6 none ∈ VS_h3 := List.mem_append_right _ (List.mem_append_right _ (List.mem_append_right _ (List.mem_append_right _ (List.mem_append_right _ (List.mem_append_right _ (List.mem_append_left _ (List.mem_of_getElem? (i := 35) rfl)))))))
theorem mw_h3_276 : Cond.methodLink RX11 340 yX11_applyMember ∈ VS_h3 := List.mem_append_right _ (List.mem_append_right _ (List.mem_append_right _ (List.mem_append_right _ (List.mem_append_right _ (List.mem_append_right _ (List.mem_append_left _ (List.mem_of_getElem? (i := 36) rfl)))))))
theorem mw_h3_277 : Cond.instanceMethod yX11_applyMember ∈ VS_h3 := List.mem_append_right _ (List.mem_append_right _ (List.mem_append_right _ (List.mem_append_right _ (List.mem_append_right _ (List.mem_append_right _ (List.mem_append_left _ (List.mem_of_getElem? (i := 37) rfl)))))))
theorem mw_h3_278 : Cond.selects RX11 yX11_applyMember yX11_applyMember ∈ VS_h3 := List.mem_append_right _ (List.mem_append_right _ (List.mem_append_right _ (List.mem_append_right _ (List.mem_append_right _ (List.mem_append_right _ (List.mem_append_left _ (List.mem_of_getElem? (i := 38) rfl)))))))
theorem mw_h3_279 : Cond.code yX11_applyReturn cX11_applyReturn 2 none ∈ VS_h3 := List.mem_append_right _ (List.mem_append_right _ (List.mem_append_right _ (List.mem_append_right _ (List.mem_append_right _ (List.mem_append_right _ (List.mem_append_left _ (List.mem_of_getElem? (i := 39) rfl)))))))
theorem mw_h3_280 : Cond.methodLink RX11 337 yX11_applyReturn ∈ VS_h3 := List.mem_append_right _ (List.mem_append_right _ (List.mem_append_right _ (List.mem_append_right _ (List.mem_append_right _ (List.mem_append_right _ (List.mem_append_right _ (List.mem_append_left _ (List.mem_of_getElem? (i := 0) rfl))))))))
theorem mw_h3_281 : Cond.instanceMethod yX11_applyReturn ∈ VS_h3 := List.mem_append_right _ (List.mem_append_right _ (List.mem_append_right _ (List.mem_append_right _ (List.mem_append_right _ (List.mem_append_right _ (List.mem_append_right _ (List.mem_append_left _ (List.mem_of_getElem? (i := 1) rfl))))))))
theorem mw_h3_282 : Cond.selects RX11 yX11_applyReturn yX11_applyReturn ∈ VS_h3 := List.mem_append_right _ (List.mem_append_right _ (List.mem_append_right _ (List.mem_append_right _ (List.mem_append_right _ (List.mem_append_right _ (List.mem_append_right _ (List.mem_append_left _ (List.mem_of_getElem? (i := 2) rfl))))))))
theorem mw_h3_283 : Cond.code yX11_applyArray cX11_applyArray 4 none ∈ VS_h3 := List.mem_append_right _ (List.mem_append_right _ (List.mem_append_right _ (List.mem_append_right _ (List.mem_append_right _ (List.mem_append_right _ (List.mem_append_right _ (List.mem_append_left _ (List.mem_of_getElem? (i := 3) rfl))))))))
theorem mw_h3_284 : Cond.methodLink RX11 334 yX11_applyArray ∈ VS_h3 := List.mem_append_right _ (List.mem_append_right _ (List.mem_append_right _ (List.mem_append_right _ (List.mem_append_right _ (List.mem_append_right _ (List.mem_append_right _ (List.mem_append_left _ (List.mem_of_getElem? (i := 4) rfl))))))))
theorem mw_h3_285 : Cond.instanceMethod yX11_applyArray ∈ VS_h3 := List.mem_append_right _ (List.mem_append_right _ (List.mem_append_right _ (List.mem_append_right _ (List.mem_append_right _ (List.mem_append_right _ (List.mem_append_right _ (List.mem_append_left _ (List.mem_of_getElem? (i := 5) rfl))))))))
theorem mw_h3_286 : Cond.selects RX11 yX11_applyArray yX11_applyArray ∈ VS_h3 := List.mem_append_right _ (List.mem_append_right _ (List.mem_append_right _ (List.mem_append_right _ (List.mem_append_right _ (List.mem_append_right _ (List.mem_append_right _ (List.mem_append_left _ (List.mem_of_getElem? (i := 6) rfl))))))))
theorem mw_h3_287 : Cond.code yX11_applyJump cX11_applyJump 2 none ∈ VS_h3 := List.mem_append_right _ (List.mem_append_right _ (List.mem_append_right _ (List.mem_append_right _ (List.mem_append_right _ (List.mem_append_right _ (List.mem_append_right _ (List.mem_append_left _ (List.mem_of_getElem? (i := 7) rfl))))))))
theorem mw_h3_288 : Cond.methodLink RX11 331 yX11_applyJump ∈ VS_h3 := List.mem_append_right _ (List.mem_append_right _ (List.mem_append_right _ (List.mem_append_right _ (List.mem_append_right _ (List.mem_append_right _ (List.mem_append_right _ (List.mem_append_left _ (List.mem_of_getElem? (i := 8) rfl))))))))
theorem mw_h3_289 : Cond.instanceMethod yX11_applyJump ∈ VS_h3 := List.mem_append_right _ (List.mem_append_right _ (List.mem_append_right _ (List.mem_append_right _ (List.mem_append_right _ (List.mem_append_right _ (List.mem_append_right _ (List.mem_append_left _ (List.mem_of_getElem? (i := 9) rfl))))))))
theorem mw_h3_290 : Cond.selects RX11 yX11_applyJump yX11_applyJump ∈ VS_h3 := List.mem_append_right _ (List.mem_append_right _ (List.mem_append_right _ (List.mem_append_right _ (List.mem_append_right _ (List.mem_append_right _ (List.mem_append_right _ (List.mem_append_left _ (List.mem_of_getElem? (i := 10) rfl))))))))
theorem mw_h3_291 : Cond.code yX11_takeTypes cX11_takeTypes 7 (some .int) ∈ VS_h3 := List.mem_append_right _ (List.mem_append_right _ (List.mem_append_right _ (List.mem_append_right _ (List.mem_append_right _ (List.mem_append_right _ (List.mem_append_right _ (List.mem_append_left _ (List.mem_of_getElem? (i := 11) rfl))))))))
theorem mw_h3_292 : Cond.methodLink RX11 233 yX11_takeTypes ∈ VS_h3 := List.mem_append_right _ (List.mem_append_right _ (List.mem_append_right _ (List.mem_append_right _ (List.mem_append_right _ (List.mem_append_right _ (List.mem_append_right _ (List.mem_append_left _ (List.mem_of_getElem? (i := 12) rfl))))))))
theorem mw_h3_293 : Cond.instanceMethod yX11_takeTypes ∈ VS_h3 := List.mem_append_right _ (List.mem_append_right _ (List.mem_append_right _ (List.mem_append_right _ (List.mem_append_right _ (List.mem_append_right _ (List.mem_append_right _ (List.mem_append_left _ (List.mem_of_getElem? (i := 13) rfl))))))))
theorem mw_h3_294 : Cond.selects RX11 yX11_takeTypes yX11_takeTypes ∈ VS_h3 := List.mem_append_right _ (List.mem_append_right _ (List.mem_append_right _ (List.mem_append_right _ (List.mem_append_right _ (List.mem_append_right _ (List.mem_append_right _ (List.mem_append_left _ (List.mem_of_getElem? (i := 14) rfl))))))))
theorem uV_h3_X4 : ∀ w ∈ u_ws RX4 TX4 2, w ∈ VS_h3 := fun w h => List.mem_append_right _ (List.mem_append_right _ (List.mem_append_right _ (List.mem_append_right _ (List.mem_append_right _ (List.mem_append_right _ (List.mem_append_right _ (List.mem_append_right _ (List.mem_append_left _ (h)))))))))
theorem uV_h3_X3 : ∀ w ∈ u_ws RX3 TX3 14, w ∈ VS_h3 := fun w h => List.mem_append_right _ (List.mem_append_right _ (List.mem_append_right _ (List.mem_append_right _ (List.mem_append_right _ (List.mem_append_right _ (List.mem_append_right _ (List.mem_append_right _ (List.mem_append_right _ (List.mem_append_left _ (h))))))))))
theorem uV_h3_X5 : ∀ w ∈ u_ws RX5 TX5 21, w ∈ VS_h3 := fun w h => List.mem_append_right _ (List.mem_append_right _ (List.mem_append_right _ (List.mem_append_right _ (List.mem_append_right _ (List.mem_append_right _ (List.mem_append_right _ (List.mem_append_right _ (List.mem_append_right _ (List.mem_append_right _ (List.mem_append_right _ (List.mem_append_left _ (h))))))))))))
theorem uV_h3_X7 : ∀ w ∈ u_ws RX7 TX7 8, w ∈ VS_h3 := fun w h => List.mem_append_right _ (List.mem_append_right _ (List.mem_append_right _ (List.mem_append_right _ (List.mem_append_right _ (List.mem_append_right _ (List.mem_append_right _ (List.mem_append_right _ (List.mem_append_right _ (List.mem_append_right _ (List.mem_append_right _ (List.mem_append_right _ (List.mem_append_left _ (h)))))))))))))
theorem uV_h3_X11 : ∀ w ∈ u_ws RX11 TX11 21, w ∈ VS_h3 := fun w h => List.mem_append_right _ (List.mem_append_right _ (List.mem_append_right _ (List.mem_append_right _ (List.mem_append_right _ (List.mem_append_right _ (List.mem_append_right _ (List.mem_append_right _ (List.mem_append_right _ (List.mem_append_right _ (List.mem_append_right _ (List.mem_append_right _ (List.mem_append_right _ (h)))))))))))))
set_option maxRecDepth 100000 in
theorem gs_h3 : GoodIn VS_h3 VS_h3 := vs_self (by decide +kernel)
set_option maxRecDepth 100000 in
theorem in_h3_VS_h2 : GoodIn VS_h3 VS_h2 := goodIn_sub (fun w h => List.mem_append_right _ (List.mem_append_right _ (List.mem_append_right _ (List.mem_append_right _ (List.mem_append_right _ (List.mem_append_right _ (List.mem_append_right _ (List.mem_append_right _ (List.mem_append_right _ (List.mem_append_right _ (List.mem_append_left _ (h)))))))))))) (by decide +kernel)
theorem gv_h3_0 : GoodIn VS_h3 (wsV RX4 35 RX4 yX4_fits (.code yX4_fits cX4_fits 4 (some .boolean) :: VS_h3)) := goodIn_app (vs_in4 mw_h3_3 mw_h3_4 mw_h3_5 mw_h3_6 (by decide +kernel)) (vs_cons mw_h3_2 (by decide +kernel) gs_h3)
theorem gv_h3_1 : GoodIn VS_h3 (wsV RX3 71 RX3 yX3_nextUpTo (.code yX3_nextUpTo cX3_nextUpTo 4 (some .int) :: VS_h2)) := goodIn_app (vs_in4 mw_h3_8 mw_h3_9 mw_h3_10 mw_h3_11 (by decide +kernel)) (vs_cons mw_h3_7 (by decide +kernel) in_h3_VS_h2)
theorem gv_h3_2 : GoodIn VS_h3 (wsV RX3 87 RX3 yX3_next (.code yX3_next cX3_next 1 (some .int) :: VS_h2)) := goodIn_app (vs_in4 mw_h3_13 mw_h3_14 mw_h3_15 mw_h3_11 (by decide +kernel)) (vs_cons mw_h3_12 (by decide +kernel) in_h3_VS_h2)
theorem gv_h3_3 : GoodIn VS_h3 (wsV RX3 99 RX3 yX3_partOf (.code yX3_partOf cX3_partOf 3 (some .int) :: VS_h2)) := goodIn_app (vs_in4 mw_h3_17 mw_h3_18 mw_h3_19 mw_h3_11 (by decide +kernel)) (vs_cons mw_h3_16 (by decide +kernel) in_h3_VS_h2)
theorem gv_h3_4 : GoodIn VS_h3 (wsV RX3 112 RX3 yX3_tagOf (.code yX3_tagOf cX3_tagOf 2 (some .int) :: VS_h2)) := goodIn_app (vs_in4 mw_h3_21 mw_h3_22 mw_h3_23 mw_h3_11 (by decide +kernel)) (vs_cons mw_h3_20 (by decide +kernel) in_h3_VS_h2)
theorem gv_h3_5 : GoodIn VS_h3 (wsV RX3 122 RX3 yX3_textAt (.code yX3_textAt cX3_textAt 2 (some .int) :: VS_h2)) := goodIn_app (vs_in4 mw_h3_27 mw_h3_28 mw_h3_29 mw_h3_11 (by decide +kernel)) (vs_cons mw_h3_26 (by decide +kernel) in_h3_VS_h2)
theorem gv_h3_6 : GoodIn VS_h3 (wsV RX3 125 RX3 yX3_textEnd (.code yX3_textEnd cX3_textEnd 2 (some .int) :: VS_h2)) := goodIn_app (vs_in4 mw_h3_31 mw_h3_32 mw_h3_33 mw_h3_11 (by decide +kernel)) (vs_cons mw_h3_30 (by decide +kernel) in_h3_VS_h2)
theorem gv_h3_7 : GoodIn VS_h3 (wsV RX3 128 RX3 yX3_sameBytes (.code yX3_sameBytes cX3_sameBytes 8 (some .boolean) :: VS_h3)) := goodIn_app (vs_in4 mw_h3_35 mw_h3_36 mw_h3_37 mw_h3_11 (by decide +kernel)) (vs_cons mw_h3_34 (by decide +kernel) gs_h3)
theorem gv_h3_8 : GoodIn VS_h3 (wsV RX3 119 RX3 yX3_byteAt (.code yX3_byteAt cX3_byteAt 2 (some .int) :: VS_h2)) := goodIn_app (vs_in4 mw_h3_39 mw_h3_40 mw_h3_41 mw_h3_11 (by decide +kernel)) (vs_cons mw_h3_38 (by decide +kernel) in_h3_VS_h2)
theorem gv_h3_9 : GoodIn VS_h3 (wsV RX3 78 RX3 yX3_bad (.code yX3_bad cX3_bad 2 none :: VS_h2)) := goodIn_app (vs_in4 mw_h3_44 mw_h3_45 mw_h3_46 mw_h3_11 (by decide +kernel)) (vs_cons mw_h3_43 (by decide +kernel) in_h3_VS_h2)
theorem gv_h3_10 : GoodIn VS_h3 (wsV RX3 106 RX3 yX3_isArrayText (.code yX3_isArrayText cX3_isArrayText 2 (some .boolean) :: VS_h3)) := goodIn_app (vs_in4 mw_h3_49 mw_h3_50 mw_h3_51 mw_h3_11 (by decide +kernel)) (vs_cons mw_h3_48 (by decide +kernel) gs_h3)
theorem gv_h3_11 : GoodIn VS_h3 (wsV RX3 164 RX3 yX3_skipPairs (.code yX3_skipPairs cX3_skipPairs 3 none :: VS_h2)) := goodIn_app (vs_in4 mw_h3_58 mw_h3_59 mw_h3_60 mw_h3_11 (by decide +kernel)) (vs_cons mw_h3_57 (by decide +kernel) in_h3_VS_h2)
theorem gv_h3_12 : GoodIn VS_h3 (wsV RX3 167 RX3 yX3_nextClass (.code yX3_nextClass cX3_nextClass 1 none :: VS_h3)) := goodIn_app (vs_in4 mw_h3_62 mw_h3_63 mw_h3_64 mw_h3_11 (by decide +kernel)) (vs_cons mw_h3_61 (by decide +kernel) gs_h3)
theorem gv_h3_13 : GoodIn VS_h3 (wsV RX3 170 RX3 yX3_readFrameTypes (.code yX3_readFrameTypes cX3_readFrameTypes 3 none :: VS_h3)) := goodIn_app (vs_in4 mw_h3_70 mw_h3_71 mw_h3_72 mw_h3_11 (by decide +kernel)) (vs_cons mw_h3_69 (by decide +kernel) gs_h3)
theorem gv_h3_14 : GoodIn VS_h3 (wsV RX5 72 RX5 yX5_forget (.code yX5_forget cX5_forget 1 none :: VS_h3)) := goodIn_app (vs_in4 mw_h3_81 mw_h3_82 mw_h3_83 mw_h3_84 (by decide +kernel)) (vs_cons mw_h3_80 (by decide +kernel) gs_h3)
theorem gv_h3_15 : GoodIn VS_h3 (wsV RX5 135 RX5 yX5_push (.code yX5_push cX5_push 3 none :: VS_h3)) := goodIn_app (vs_in4 mw_h3_92 mw_h3_93 mw_h3_94 mw_h3_84 (by decide +kernel)) (vs_cons mw_h3_91 (by decide +kernel) gs_h3)
theorem gv_h3_16 : GoodIn VS_h3 (wsV RX5 138 RX5 yX5_goOn (.code yX5_goOn cX5_goOn 2 none :: VS_h3)) := goodIn_app (vs_in4 mw_h3_96 mw_h3_97 mw_h3_98 mw_h3_84 (by decide +kernel)) (vs_cons mw_h3_95 (by decide +kernel) gs_h3)
theorem gv_h3_17 : GoodIn VS_h3 (wsV RX5 141 RX3 yX3_byteAt (.code yX3_byteAt cX3_byteAt 2 (some .int) :: VS_h2)) := goodIn_app (vs_in4 mw_h3_99 mw_h3_40 mw_h3_41 mw_h3_11 (by decide +kernel)) (vs_cons mw_h3_38 (by decide +kernel) in_h3_VS_h2)
theorem gv_h3_18 : GoodIn VS_h3 (wsV RX5 145 RX5 yX5_give (.code yX5_give cX5_give 3 none :: VS_h3)) := goodIn_app (vs_in4 mw_h3_101 mw_h3_102 mw_h3_103 mw_h3_84 (by decide +kernel)) (vs_cons mw_h3_100 (by decide +kernel) gs_h3)
theorem gv_h3_19 : GoodIn VS_h3 (wsV RX5 154 RX5 yX5_pop (.code yX5_pop cX5_pop 2 (some .int) :: VS_h3)) := goodIn_app (vs_in4 mw_h3_105 mw_h3_106 mw_h3_107 mw_h3_84 (by decide +kernel)) (vs_cons mw_h3_104 (by decide +kernel) gs_h3)
theorem gv_h3_20 : GoodIn VS_h3 (wsV RX5 184 RX3 yX3_pairAt (.code yX3_pairAt cX3_pairAt 2 (some .int) :: VS_h2)) := goodIn_app (vs_in4 mw_h3_110 mw_h3_111 mw_h3_112 mw_h3_11 (by decide +kernel)) (vs_cons mw_h3_109 (by decide +kernel) in_h3_VS_h2)
theorem gv_h3_21 : GoodIn VS_h3 (wsV RX5 226 RX5 yX5_isObject (.code yX5_isObject cX5_isObject 2 (some .boolean) :: VS_h3)) := goodIn_app (vs_in4 mw_h3_114 mw_h3_115 mw_h3_116 mw_h3_84 (by decide +kernel)) (vs_cons mw_h3_113 (by decide +kernel) gs_h3)
theorem gv_h3_22 : GoodIn VS_h3 (wsV RX5 229 RX5 yX5_cellOf (.code yX5_cellOf cX5_cellOf 3 (some .int) :: VS_h3)) := goodIn_app (vs_in4 mw_h3_120 mw_h3_121 mw_h3_122 mw_h3_84 (by decide +kernel)) (vs_cons mw_h3_119 (by decide +kernel) gs_h3)
theorem gv_h3_23 : GoodIn VS_h3 (va_wsS RX5 236 yX4_elementOf (.code yX4_elementOf cX4_elementOf 1 (some .int) :: VS_h3)) := goodIn_app (vs_in3 mw_h3_125 mw_h3_126 mw_h3_6 (by decide +kernel)) (vs_cons mw_h3_124 (by decide +kernel) gs_h3)
theorem gv_h3_24 : GoodIn VS_h3 (wsV RX5 239 RX4 yX4_fits (.code yX4_fits cX4_fits 4 (some .boolean) :: VS_h3)) := goodIn_app (vs_in4 mw_h3_127 mw_h3_4 mw_h3_5 mw_h3_6 (by decide +kernel)) (vs_cons mw_h3_2 (by decide +kernel) gs_h3)
theorem gv_h3_25 : GoodIn VS_h3 (wsV RX5 126 RX3 yX3_of (.code yX3_of cX3_of 4 (some .int) :: VS_h3)) := goodIn_app (vs_in4 mw_h3_132 mw_h3_133 mw_h3_134 mw_h3_11 (by decide +kernel)) (vs_cons mw_h3_131 (by decide +kernel) gs_h3)
theorem gv_h3_26 : GoodIn VS_h3 (va_wsS RX5 180 yX5_compares (.code yX5_compares cX5_compares 3 (some .boolean) :: VS_h3)) := goodIn_app (vs_in3 mw_h3_136 mw_h3_137 mw_h3_84 (by decide +kernel)) (vs_cons mw_h3_135 (by decide +kernel) gs_h3)
theorem gv_h3_27 : GoodIn VS_h3 (wsV RX5 187 RX5 yX5_stepElement (.code yX5_stepElement cX5_stepElement 4 none :: VS_h3)) := goodIn_app (vs_in4 mw_h3_141 mw_h3_142 mw_h3_143 mw_h3_84 (by decide +kernel)) (vs_cons mw_h3_140 (by decide +kernel) gs_h3)
theorem gv_h3_28 : GoodIn VS_h3 (wsV RX5 190 RX5 yX5_stepGiveElement (.code yX5_stepGiveElement cX5_stepGiveElement 6 none :: VS_h3)) := goodIn_app (vs_in4 mw_h3_145 mw_h3_146 mw_h3_147 mw_h3_84 (by decide +kernel)) (vs_cons mw_h3_144 (by decide +kernel) gs_h3)
theorem gv_h3_29 : GoodIn VS_h3 (wsV RX11 146 RX3 yX3_of (.code yX3_of cX3_of 4 (some .int) :: VS_h3)) := goodIn_app (vs_in4 mw_h3_152 mw_h3_133 mw_h3_134 mw_h3_11 (by decide +kernel)) (vs_cons mw_h3_131 (by decide +kernel) gs_h3)
theorem gv_h3_30 : GoodIn VS_h3 (wsV RX11 75 RX4 yX4_above (.code yX4_above cX4_above 2 (some .int) :: VS_h2)) := goodIn_app (vs_in4 mw_h3_154 mw_h3_155 mw_h3_156 mw_h3_6 (by decide +kernel)) (vs_cons mw_h3_153 (by decide +kernel) in_h3_VS_h2)
theorem gv_h3_31 : GoodIn VS_h3 (wsV RX11 167 RX3 yX3_tagOf (.code yX3_tagOf cX3_tagOf 2 (some .int) :: VS_h2)) := goodIn_app (vs_in4 mw_h3_157 mw_h3_22 mw_h3_23 mw_h3_11 (by decide +kernel)) (vs_cons mw_h3_20 (by decide +kernel) in_h3_VS_h2)
theorem gv_h3_32 : GoodIn VS_h3 (wsV RX11 177 RX3 yX3_partOf (.code yX3_partOf cX3_partOf 3 (some .int) :: VS_h2)) := goodIn_app (vs_in4 mw_h3_158 mw_h3_18 mw_h3_19 mw_h3_11 (by decide +kernel)) (vs_cons mw_h3_16 (by decide +kernel) in_h3_VS_h2)
theorem gv_h3_33 : GoodIn VS_h3 (wsV RX11 180 RX3 yX3_textAt (.code yX3_textAt cX3_textAt 2 (some .int) :: VS_h2)) := goodIn_app (vs_in4 mw_h3_159 mw_h3_28 mw_h3_29 mw_h3_11 (by decide +kernel)) (vs_cons mw_h3_26 (by decide +kernel) in_h3_VS_h2)
theorem gv_h3_34 : GoodIn VS_h3 (wsV RX11 183 RX3 yX3_byteAt (.code yX3_byteAt cX3_byteAt 2 (some .int) :: VS_h2)) := goodIn_app (vs_in4 mw_h3_160 mw_h3_40 mw_h3_41 mw_h3_11 (by decide +kernel)) (vs_cons mw_h3_38 (by decide +kernel) in_h3_VS_h2)
theorem gv_h3_35 : GoodIn VS_h3 (wsV RX11 189 RX11 yX11_info (.code yX11_info cX11_info 2 (some .int) :: VS_h3)) := goodIn_app (vs_in4 mw_h3_164 mw_h3_165 mw_h3_166 mw_h3_167 (by decide +kernel)) (vs_cons mw_h3_163 (by decide +kernel) gs_h3)
theorem gv_h3_36 : GoodIn VS_h3 (wsV RX11 192 RX11 yX11_codeAt (.code yX11_codeAt cX11_codeAt 2 (some .int) :: VS_h3)) := goodIn_app (vs_in4 mw_h3_169 mw_h3_170 mw_h3_171 mw_h3_167 (by decide +kernel)) (vs_cons mw_h3_168 (by decide +kernel) gs_h3)
theorem gv_h3_37 : GoodIn VS_h3 (va_wsS RX11 201 yX11_isArithmetic (.code yX11_isArithmetic cX11_isArithmetic 1 (some .boolean) :: VS_h3)) := goodIn_app (vs_in3 mw_h3_173 mw_h3_174 mw_h3_167 (by decide +kernel)) (vs_cons mw_h3_172 (by decide +kernel) gs_h3)
theorem gv_h3_38 : GoodIn VS_h3 (wsV RX11 224 RX11 yX11_begins (.code yX11_begins cX11_begins 2 (some .boolean) :: VS_h3)) := goodIn_app (vs_in4 mw_h3_178 mw_h3_179 mw_h3_180 mw_h3_167 (by decide +kernel)) (vs_cons mw_h3_177 (by decide +kernel) gs_h3)
theorem gv_h3_39 : GoodIn VS_h3 (va_wsS RX11 198 yX11_isJump (.code yX11_isJump cX11_isJump 1 (some .boolean) :: VS_h3)) := goodIn_app (vs_in3 mw_h3_182 mw_h3_183 mw_h3_167 (by decide +kernel)) (vs_cons mw_h3_181 (by decide +kernel) gs_h3)
theorem gv_h3_40 : GoodIn VS_h3 (wsV RX11 227 RX11 yX11_aimOf (.code yX11_aimOf cX11_aimOf 2 (some .int) :: VS_h3)) := goodIn_app (vs_in4 mw_h3_185 mw_h3_186 mw_h3_187 mw_h3_167 (by decide +kernel)) (vs_cons mw_h3_184 (by decide +kernel) gs_h3)
theorem gv_h3_41 : GoodIn VS_h3 (wsV RX11 221 RX11 yX11_at (.code yX11_at cX11_at 3 (some .int) :: VS_h3)) := goodIn_app (vs_in4 mw_h3_189 mw_h3_190 mw_h3_191 mw_h3_167 (by decide +kernel)) (vs_cons mw_h3_188 (by decide +kernel) gs_h3)
theorem gv_h3_42 : GoodIn VS_h3 (wsV RX11 230 RX3 yX3_pairAt (.code yX3_pairAt cX3_pairAt 2 (some .int) :: VS_h2)) := goodIn_app (vs_in4 mw_h3_192 mw_h3_111 mw_h3_112 mw_h3_11 (by decide +kernel)) (vs_cons mw_h3_109 (by decide +kernel) in_h3_VS_h2)
theorem gv_h3_43 : GoodIn VS_h3 (wsV RX11 242 RX11 yX11_frameAt (.code yX11_frameAt cX11_frameAt 2 (some .int) :: VS_h3)) := goodIn_app (vs_in4 mw_h3_196 mw_h3_197 mw_h3_198 mw_h3_167 (by decide +kernel)) (vs_cons mw_h3_195 (by decide +kernel) gs_h3)
theorem gv_h3_44 : GoodIn VS_h3 (wsV RX11 248 RX4 yX4_fits (.code yX4_fits cX4_fits 4 (some .boolean) :: VS_h3)) := goodIn_app (vs_in4 mw_h3_199 mw_h3_4 mw_h3_5 mw_h3_6 (by decide +kernel)) (vs_cons mw_h3_2 (by decide +kernel) gs_h3)
theorem gv_h3_45 : GoodIn VS_h3 (wsV RX11 303 RX11 yX11_fits (.code yX11_fits cX11_fits 3 (some .boolean) :: VS_h3)) := goodIn_app (vs_in4 mw_h3_202 mw_h3_203 mw_h3_204 mw_h3_167 (by decide +kernel)) (vs_cons mw_h3_201 (by decide +kernel) gs_h3)
theorem gv_h3_46 : GoodIn VS_h3 (wsV RX11 304 RX11 yX11_fitsLocals (.code yX11_fitsLocals cX11_fitsLocals 4 (some .boolean) :: VS_h3)) := goodIn_app (vs_in4 mw_h3_207 mw_h3_208 mw_h3_209 mw_h3_167 (by decide +kernel)) (vs_cons mw_h3_206 (by decide +kernel) gs_h3)
theorem gv_h3_47 : GoodIn VS_h3 (wsV RX11 239 RX11 yX11_handler (.code yX11_handler cX11_handler 3 (some .int) :: VS_h3)) := goodIn_app (vs_in4 mw_h3_211 mw_h3_212 mw_h3_213 mw_h3_167 (by decide +kernel)) (vs_cons mw_h3_210 (by decide +kernel) gs_h3)
theorem gv_h3_48 : GoodIn VS_h3 (wsV RX11 245 RX11 yX11_handlerClass (.code yX11_handlerClass cX11_handlerClass 2 (some .int) :: VS_h3)) := goodIn_app (vs_in4 mw_h3_215 mw_h3_216 mw_h3_217 mw_h3_167 (by decide +kernel)) (vs_cons mw_h3_214 (by decide +kernel) gs_h3)
theorem gv_h3_49 : GoodIn VS_h3 (wsV RX11 313 RX11 yX11_pop (.code yX11_pop cX11_pop 1 (some .int) :: VS_h3)) := goodIn_app (vs_in4 mw_h3_222 mw_h3_223 mw_h3_224 mw_h3_167 (by decide +kernel)) (vs_cons mw_h3_221 (by decide +kernel) gs_h3)
theorem gv_h3_50 : GoodIn VS_h3 (va_wsS RX11 316 yX4_isReference (.code yX4_isReference cX4_isReference 1 (some .boolean) :: VS_h3)) := goodIn_app (vs_in3 mw_h3_226 mw_h3_227 mw_h3_6 (by decide +kernel)) (vs_cons mw_h3_225 (by decide +kernel) gs_h3)
theorem gv_h3_51 : GoodIn VS_h3 (va_wsS RX11 319 yX4_isArray (.code yX4_isArray cX4_isArray 1 (some .boolean) :: VS_h3)) := goodIn_app (vs_in3 mw_h3_229 mw_h3_230 mw_h3_6 (by decide +kernel)) (vs_cons mw_h3_228 (by decide +kernel) gs_h3)
theorem gv_h3_52 : GoodIn VS_h3 (wsV RX11 322 RX11 yX11_push (.code yX11_push cX11_push 2 none :: VS_h3)) := goodIn_app (vs_in4 mw_h3_233 mw_h3_234 mw_h3_235 mw_h3_167 (by decide +kernel)) (vs_cons mw_h3_232 (by decide +kernel) gs_h3)
theorem gv_h3_53 : GoodIn VS_h3 (wsV RX11 346 RX11 yX11_wantReference (.code yX11_wantReference cX11_wantReference 2 (some .int) :: VS_h3)) := goodIn_app (vs_in4 mw_h3_237 mw_h3_238 mw_h3_239 mw_h3_167 (by decide +kernel)) (vs_cons mw_h3_236 (by decide +kernel) gs_h3)
theorem gv_h3_54 : GoodIn VS_h3 (wsV RX11 325 RX11 yX11_want (.code yX11_want cX11_want 3 none :: VS_h3)) := goodIn_app (vs_in4 mw_h3_241 mw_h3_242 mw_h3_243 mw_h3_167 (by decide +kernel)) (vs_cons mw_h3_240 (by decide +kernel) gs_h3)
theorem gv_h3_55 : GoodIn VS_h3 (wsV RX11 349 RX11 yX11_wantArray (.code yX11_wantArray cX11_wantArray 5 (some .int) :: VS_h3)) := goodIn_app (vs_in4 mw_h3_245 mw_h3_246 mw_h3_247 mw_h3_167 (by decide +kernel)) (vs_cons mw_h3_244 (by decide +kernel) gs_h3)
theorem gv_h3_56 : GoodIn VS_h3 (va_wsS RX11 353 yX4_elementOf (.code yX4_elementOf cX4_elementOf 1 (some .int) :: VS_h3)) := goodIn_app (vs_in3 mw_h3_248 mw_h3_126 mw_h3_6 (by decide +kernel)) (vs_cons mw_h3_124 (by decide +kernel) gs_h3)
theorem gv_h3_57 : GoodIn VS_h3 (va_wsS RX11 195 yX11_isBare (.code yX11_isBare cX11_isBare 1 (some .boolean) :: VS_h3)) := goodIn_app (vs_in3 mw_h3_253 mw_h3_254 mw_h3_167 (by decide +kernel)) (vs_cons mw_h3_252 (by decide +kernel) gs_h3)
theorem gv_h3_58 : GoodIn VS_h3 (wsV RX11 236 RX11 yX11_typeOfTag (.code yX11_typeOfTag cX11_typeOfTag 3 (some .int) :: VS_h3)) := goodIn_app (vs_in4 mw_h3_256 mw_h3_257 mw_h3_258 mw_h3_167 (by decide +kernel)) (vs_cons mw_h3_255 (by decide +kernel) gs_h3)
theorem gv_h3_59 : GoodIn VS_h3 (wsV RX11 252 RX11 yX11_areThere (.code yX11_areThere cX11_areThere 5 (some .boolean) :: VS_h3)) := goodIn_app (vs_in4 mw_h3_260 mw_h3_261 mw_h3_262 mw_h3_167 (by decide +kernel)) (vs_cons mw_h3_259 (by decide +kernel) gs_h3)
theorem gv_h3_60 : GoodIn VS_h3 (wsV RX11 289 RX11 yX11_fitsHandlers (.code yX11_fitsHandlers cX11_fitsHandlers 5 (some .boolean) :: VS_h3)) := goodIn_app (vs_in4 mw_h3_264 mw_h3_265 mw_h3_266 mw_h3_167 (by decide +kernel)) (vs_cons mw_h3_263 (by decide +kernel) gs_h3)
theorem gv_h3_61 : GoodIn VS_h3 (wsV RX11 328 RX11 yX11_applyLocal (.code yX11_applyLocal cX11_applyLocal 4 none :: VS_h3)) := goodIn_app (vs_in4 mw_h3_268 mw_h3_269 mw_h3_270 mw_h3_167 (by decide +kernel)) (vs_cons mw_h3_267 (by decide +kernel) gs_h3)
theorem gv_h3_62 : GoodIn VS_h3 (wsV RX11 343 RX11 yX11_applyObject (.code yX11_applyObject cX11_applyObject 3 none :: VS_h3)) := goodIn_app (vs_in4 mw_h3_272 mw_h3_273 mw_h3_274 mw_h3_167 (by decide +kernel)) (vs_cons mw_h3_271 (by decide +kernel) gs_h3)
theorem gv_h3_63 : GoodIn VS_h3 (wsV RX11 340 RX11 yX11_applyMember (.code yX11_applyMember cX11_applyMember 6 none :: VS_h3)) := goodIn_app (vs_in4 mw_h3_276 mw_h3_277 mw_h3_278 mw_h3_167 (by decide +kernel)) (vs_cons mw_h3_275 (by decide +kernel) gs_h3)
theorem gv_h3_64 : GoodIn VS_h3 (wsV RX11 337 RX11 yX11_applyReturn (.code yX11_applyReturn cX11_applyReturn 2 none :: VS_h3)) := goodIn_app (vs_in4 mw_h3_280 mw_h3_281 mw_h3_282 mw_h3_167 (by decide +kernel)) (vs_cons mw_h3_279 (by decide +kernel) gs_h3)
theorem gv_h3_65 : GoodIn VS_h3 (wsV RX11 334 RX11 yX11_applyArray (.code yX11_applyArray cX11_applyArray 4 none :: VS_h3)) := goodIn_app (vs_in4 mw_h3_284 mw_h3_285 mw_h3_286 mw_h3_167 (by decide +kernel)) (vs_cons mw_h3_283 (by decide +kernel) gs_h3)
theorem gv_h3_66 : GoodIn VS_h3 (wsV RX11 331 RX11 yX11_applyJump (.code yX11_applyJump cX11_applyJump 2 none :: VS_h3)) := goodIn_app (vs_in4 mw_h3_288 mw_h3_289 mw_h3_290 mw_h3_167 (by decide +kernel)) (vs_cons mw_h3_287 (by decide +kernel) gs_h3)
theorem gv_h3_67 : GoodIn VS_h3 (wsV RX11 233 RX11 yX11_takeTypes (.code yX11_takeTypes cX11_takeTypes 7 (some .int) :: VS_h3)) := goodIn_app (vs_in4 mw_h3_292 mw_h3_293 mw_h3_294 mw_h3_167 (by decide +kernel)) (vs_cons mw_h3_291 (by decide +kernel) gs_h3)
