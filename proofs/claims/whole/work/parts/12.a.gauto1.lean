abbrev cX3_bad : ByteArray := prog_5_method_5_code
def yX3_bad : MethodName := ⟨RX3, "bad", "(I)V"⟩
abbrev cX3_next : ByteArray := prog_5_method_6_code
def yX3_next : MethodName := ⟨RX3, "next", "()I"⟩
abbrev cX3_tagOf : ByteArray := prog_5_method_12_code
def yX3_tagOf : MethodName := ⟨RX3, "tagOf", "(I)I"⟩
abbrev cX3_byteAt : ByteArray := prog_5_method_13_code
def yX3_byteAt : MethodName := ⟨RX3, "byteAt", "(I)I"⟩
abbrev cX3_textAt : ByteArray := prog_5_method_17_code
def yX3_textAt : MethodName := ⟨RX3, "textAt", "(I)I"⟩
abbrev cX3_textEnd : ByteArray := prog_5_method_18_code
def yX3_textEnd : MethodName := ⟨RX3, "textEnd", "(I)I"⟩
abbrev cX3_fieldName : ByteArray := prog_5_method_37_code
def yX3_fieldName : MethodName := ⟨RX3, "fieldName", "(I)I"⟩
abbrev cX3_fieldKind : ByteArray := prog_5_method_38_code
def yX3_fieldKind : MethodName := ⟨RX3, "fieldKind", "(I)I"⟩
abbrev cX4_above : ByteArray := prog_6_method_3_code
def yX4_above : MethodName := ⟨RX4, "above", "(I)I"⟩
abbrev cX4_isClass : ByteArray := prog_6_method_6_code
def yX4_isClass : MethodName := ⟨RX4, "isClass", "(I)Z"⟩
abbrev cX4_isArray : ByteArray := prog_6_method_7_code
def yX4_isArray : MethodName := ⟨RX4, "isArray", "(I)Z"⟩
abbrev cX4_isReference : ByteArray := prog_6_method_8_code
def yX4_isReference : MethodName := ⟨RX4, "isReference", "(I)Z"⟩
abbrev cX4_isNumber : ByteArray := prog_6_method_9_code
def yX4_isNumber : MethodName := ⟨RX4, "isNumber", "(I)Z"⟩
abbrev cX4_elementOf : ByteArray := prog_6_method_10_code
def yX4_elementOf : MethodName := ⟨RX4, "elementOf", "(I)I"⟩
abbrev cX11_isJump : ByteArray := prog_13_method_16_code
def yX11_isJump : MethodName := ⟨RX11, "isJump", "(I)Z"⟩
abbrev cX11_isLast : ByteArray := prog_13_method_19_code
def yX11_isLast : MethodName := ⟨RX11, "isLast", "(I)Z"⟩
theorem dX3_bad_0 : decode cX3_bad 0 = .ok (.aload_n 0, 1) := by decide +kernel
theorem dX3_bad_1 : decode cX3_bad 1 = .ok (.getfield 46, 3) := by decide +kernel
theorem dX3_bad_4 : decode cX3_bad 4 = .ok (.iconst (-1), 1) := by decide +kernel
theorem dX3_bad_5 : decode cX3_bad 5 = .ok (.if_icmp .ne 8, 3) := by decide +kernel
theorem dX3_bad_8 : decode cX3_bad 8 = .ok (.aload_n 0, 1) := by decide +kernel
theorem dX3_bad_9 : decode cX3_bad 9 = .ok (.iload_n 1, 1) := by decide +kernel
theorem dX3_bad_10 : decode cX3_bad 10 = .ok (.putfield 46, 3) := by decide +kernel
theorem dX3_bad_13 : decode cX3_bad 13 = .ok (.return_, 1) := by decide +kernel
theorem dX3_next_0 : decode cX3_next 0 = .ok (.aload_n 0, 1) := by decide +kernel
theorem dX3_next_1 : decode cX3_next 1 = .ok (.getfield 43, 3) := by decide +kernel
theorem dX3_next_4 : decode cX3_next 4 = .ok (.aload_n 0, 1) := by decide +kernel
theorem dX3_next_5 : decode cX3_next 5 = .ok (.getfield 39, 3) := by decide +kernel
theorem dX3_next_8 : decode cX3_next 8 = .ok (.if_icmp .lt 28, 3) := by decide +kernel
theorem dX3_next_11 : decode cX3_next 11 = .ok (.aload_n 0, 1) := by decide +kernel
theorem dX3_next_12 : decode cX3_next 12 = .ok (.aload_n 0, 1) := by decide +kernel
theorem dX3_next_13 : decode cX3_next 13 = .ok (.getfield 46, 3) := by decide +kernel
theorem dX3_next_16 : decode cX3_next 16 = .ok (.iconst (-1), 1) := by decide +kernel
theorem dX3_next_17 : decode cX3_next 17 = .ok (.if_icmp .ne 10, 3) := by decide +kernel
theorem dX3_next_20 : decode cX3_next 20 = .ok (.aload_n 0, 1) := by decide +kernel
theorem dX3_next_21 : decode cX3_next 21 = .ok (.getfield 39, 3) := by decide +kernel
theorem dX3_next_24 : decode cX3_next 24 = .ok (.goto 7, 3) := by decide +kernel
theorem dX3_next_27 : decode cX3_next 27 = .ok (.aload_n 0, 1) := by decide +kernel
theorem dX3_next_28 : decode cX3_next 28 = .ok (.getfield 46, 3) := by decide +kernel
theorem dX3_next_31 : decode cX3_next 31 = .ok (.putfield 46, 3) := by decide +kernel
theorem dX3_next_34 : decode cX3_next 34 = .ok (.iconst 0, 1) := by decide +kernel
theorem dX3_next_35 : decode cX3_next 35 = .ok (.ireturn, 1) := by decide +kernel
theorem dX3_next_36 : decode cX3_next 36 = .ok (.aload_n 0, 1) := by decide +kernel
theorem dX3_next_37 : decode cX3_next 37 = .ok (.dup, 1) := by decide +kernel
theorem dX3_next_38 : decode cX3_next 38 = .ok (.getfield 43, 3) := by decide +kernel
theorem dX3_next_41 : decode cX3_next 41 = .ok (.iconst 1, 1) := by decide +kernel
theorem dX3_next_42 : decode cX3_next 42 = .ok (.iadd, 1) := by decide +kernel
theorem dX3_next_43 : decode cX3_next 43 = .ok (.putfield 43, 3) := by decide +kernel
theorem dX3_next_46 : decode cX3_next 46 = .ok (.aload_n 0, 1) := by decide +kernel
theorem dX3_next_47 : decode cX3_next 47 = .ok (.getfield 9, 3) := by decide +kernel
theorem dX3_next_50 : decode cX3_next 50 = .ok (.aload_n 0, 1) := by decide +kernel
theorem dX3_next_51 : decode cX3_next 51 = .ok (.getfield 43, 3) := by decide +kernel
theorem dX3_next_54 : decode cX3_next 54 = .ok (.iconst 1, 1) := by decide +kernel
theorem dX3_next_55 : decode cX3_next 55 = .ok (.isub, 1) := by decide +kernel
theorem dX3_next_56 : decode cX3_next 56 = .ok (.baload, 1) := by decide +kernel
theorem dX3_next_57 : decode cX3_next 57 = .ok (.sipush 255, 3) := by decide +kernel
theorem dX3_next_60 : decode cX3_next 60 = .ok (.iand, 1) := by decide +kernel
theorem dX3_next_61 : decode cX3_next 61 = .ok (.ireturn, 1) := by decide +kernel
theorem dX3_tagOf_0 : decode cX3_tagOf 0 = .ok (.iload_n 1, 1) := by decide +kernel
theorem dX3_tagOf_1 : decode cX3_tagOf 1 = .ok (.iconst 1, 1) := by decide +kernel
theorem dX3_tagOf_2 : decode cX3_tagOf 2 = .ok (.if_icmp .lt 29, 3) := by decide +kernel
theorem dX3_tagOf_5 : decode cX3_tagOf 5 = .ok (.iload_n 1, 1) := by decide +kernel
theorem dX3_tagOf_6 : decode cX3_tagOf 6 = .ok (.aload_n 0, 1) := by decide +kernel
theorem dX3_tagOf_7 : decode cX3_tagOf 7 = .ok (.getfield 90, 3) := by decide +kernel
theorem dX3_tagOf_10 : decode cX3_tagOf 10 = .ok (.if_icmp .gt 21, 3) := by decide +kernel
theorem dX3_tagOf_13 : decode cX3_tagOf 13 = .ok (.iload_n 1, 1) := by decide +kernel
theorem dX3_tagOf_14 : decode cX3_tagOf 14 = .ok (.aload_n 0, 1) := by decide +kernel
theorem dX3_tagOf_15 : decode cX3_tagOf 15 = .ok (.getfield 15, 3) := by decide +kernel
theorem dX3_tagOf_18 : decode cX3_tagOf 18 = .ok (.arraylength, 1) := by decide +kernel
theorem dX3_tagOf_19 : decode cX3_tagOf 19 = .ok (.if_icmp .ge 12, 3) := by decide +kernel
theorem dX3_tagOf_22 : decode cX3_tagOf 22 = .ok (.aload_n 0, 1) := by decide +kernel
theorem dX3_tagOf_23 : decode cX3_tagOf 23 = .ok (.getfield 15, 3) := by decide +kernel
theorem dX3_tagOf_26 : decode cX3_tagOf 26 = .ok (.iload_n 1, 1) := by decide +kernel
theorem dX3_tagOf_27 : decode cX3_tagOf 27 = .ok (.iaload, 1) := by decide +kernel
theorem dX3_tagOf_28 : decode cX3_tagOf 28 = .ok (.goto 4, 3) := by decide +kernel
theorem dX3_tagOf_31 : decode cX3_tagOf 31 = .ok (.iconst 0, 1) := by decide +kernel
theorem dX3_tagOf_32 : decode cX3_tagOf 32 = .ok (.ireturn, 1) := by decide +kernel
theorem dX3_byteAt_0 : decode cX3_byteAt 0 = .ok (.iload_n 1, 1) := by decide +kernel
theorem dX3_byteAt_1 : decode cX3_byteAt 1 = .ok (.ifCond .lt 24, 3) := by decide +kernel
theorem dX3_byteAt_4 : decode cX3_byteAt 4 = .ok (.iload_n 1, 1) := by decide +kernel
theorem dX3_byteAt_5 : decode cX3_byteAt 5 = .ok (.aload_n 0, 1) := by decide +kernel
theorem dX3_byteAt_6 : decode cX3_byteAt 6 = .ok (.getfield 39, 3) := by decide +kernel
theorem dX3_byteAt_9 : decode cX3_byteAt 9 = .ok (.if_icmp .ge 16, 3) := by decide +kernel
theorem dX3_byteAt_12 : decode cX3_byteAt 12 = .ok (.aload_n 0, 1) := by decide +kernel
theorem dX3_byteAt_13 : decode cX3_byteAt 13 = .ok (.getfield 9, 3) := by decide +kernel
theorem dX3_byteAt_16 : decode cX3_byteAt 16 = .ok (.iload_n 1, 1) := by decide +kernel
theorem dX3_byteAt_17 : decode cX3_byteAt 17 = .ok (.baload, 1) := by decide +kernel
theorem dX3_byteAt_18 : decode cX3_byteAt 18 = .ok (.sipush 255, 3) := by decide +kernel
theorem dX3_byteAt_21 : decode cX3_byteAt 21 = .ok (.iand, 1) := by decide +kernel
theorem dX3_byteAt_22 : decode cX3_byteAt 22 = .ok (.goto 4, 3) := by decide +kernel
theorem dX3_byteAt_25 : decode cX3_byteAt 25 = .ok (.iconst 0, 1) := by decide +kernel
theorem dX3_byteAt_26 : decode cX3_byteAt 26 = .ok (.ireturn, 1) := by decide +kernel
theorem dX3_textAt_0 : decode cX3_textAt 0 = .ok (.iload_n 1, 1) := by decide +kernel
theorem dX3_textAt_1 : decode cX3_textAt 1 = .ok (.iconst 1, 1) := by decide +kernel
theorem dX3_textAt_2 : decode cX3_textAt 2 = .ok (.if_icmp .lt 29, 3) := by decide +kernel
theorem dX3_textAt_5 : decode cX3_textAt 5 = .ok (.iload_n 1, 1) := by decide +kernel
theorem dX3_textAt_6 : decode cX3_textAt 6 = .ok (.aload_n 0, 1) := by decide +kernel
theorem dX3_textAt_7 : decode cX3_textAt 7 = .ok (.getfield 90, 3) := by decide +kernel
theorem dX3_textAt_10 : decode cX3_textAt 10 = .ok (.if_icmp .gt 21, 3) := by decide +kernel
theorem dX3_textAt_13 : decode cX3_textAt 13 = .ok (.iload_n 1, 1) := by decide +kernel
theorem dX3_textAt_14 : decode cX3_textAt 14 = .ok (.aload_n 0, 1) := by decide +kernel
theorem dX3_textAt_15 : decode cX3_textAt 15 = .ok (.getfield 19, 3) := by decide +kernel
theorem dX3_textAt_18 : decode cX3_textAt 18 = .ok (.arraylength, 1) := by decide +kernel
theorem dX3_textAt_19 : decode cX3_textAt 19 = .ok (.if_icmp .ge 12, 3) := by decide +kernel
theorem dX3_textAt_22 : decode cX3_textAt 22 = .ok (.aload_n 0, 1) := by decide +kernel
theorem dX3_textAt_23 : decode cX3_textAt 23 = .ok (.getfield 19, 3) := by decide +kernel
theorem dX3_textAt_26 : decode cX3_textAt 26 = .ok (.iload_n 1, 1) := by decide +kernel
theorem dX3_textAt_27 : decode cX3_textAt 27 = .ok (.iaload, 1) := by decide +kernel
theorem dX3_textAt_28 : decode cX3_textAt 28 = .ok (.goto 4, 3) := by decide +kernel
theorem dX3_textAt_31 : decode cX3_textAt 31 = .ok (.iconst 0, 1) := by decide +kernel
theorem dX3_textAt_32 : decode cX3_textAt 32 = .ok (.ireturn, 1) := by decide +kernel
theorem dX3_textEnd_0 : decode cX3_textEnd 0 = .ok (.iload_n 1, 1) := by decide +kernel
theorem dX3_textEnd_1 : decode cX3_textEnd 1 = .ok (.iconst 1, 1) := by decide +kernel
theorem dX3_textEnd_2 : decode cX3_textEnd 2 = .ok (.if_icmp .lt 29, 3) := by decide +kernel
theorem dX3_textEnd_5 : decode cX3_textEnd 5 = .ok (.iload_n 1, 1) := by decide +kernel
theorem dX3_textEnd_6 : decode cX3_textEnd 6 = .ok (.aload_n 0, 1) := by decide +kernel
theorem dX3_textEnd_7 : decode cX3_textEnd 7 = .ok (.getfield 90, 3) := by decide +kernel
theorem dX3_textEnd_10 : decode cX3_textEnd 10 = .ok (.if_icmp .gt 21, 3) := by decide +kernel
theorem dX3_textEnd_13 : decode cX3_textEnd 13 = .ok (.iload_n 1, 1) := by decide +kernel
theorem dX3_textEnd_14 : decode cX3_textEnd 14 = .ok (.aload_n 0, 1) := by decide +kernel
theorem dX3_textEnd_15 : decode cX3_textEnd 15 = .ok (.getfield 22, 3) := by decide +kernel
theorem dX3_textEnd_18 : decode cX3_textEnd 18 = .ok (.arraylength, 1) := by decide +kernel
theorem dX3_textEnd_19 : decode cX3_textEnd 19 = .ok (.if_icmp .ge 12, 3) := by decide +kernel
theorem dX3_textEnd_22 : decode cX3_textEnd 22 = .ok (.aload_n 0, 1) := by decide +kernel
theorem dX3_textEnd_23 : decode cX3_textEnd 23 = .ok (.getfield 22, 3) := by decide +kernel
theorem dX3_textEnd_26 : decode cX3_textEnd 26 = .ok (.iload_n 1, 1) := by decide +kernel
theorem dX3_textEnd_27 : decode cX3_textEnd 27 = .ok (.iaload, 1) := by decide +kernel
theorem dX3_textEnd_28 : decode cX3_textEnd 28 = .ok (.goto 4, 3) := by decide +kernel
theorem dX3_textEnd_31 : decode cX3_textEnd 31 = .ok (.iconst 0, 1) := by decide +kernel
theorem dX3_textEnd_32 : decode cX3_textEnd 32 = .ok (.ireturn, 1) := by decide +kernel
theorem dX3_fieldName_0 : decode cX3_fieldName 0 = .ok (.iload_n 1, 1) := by decide +kernel
theorem dX3_fieldName_1 : decode cX3_fieldName 1 = .ok (.ifCond .lt 22, 3) := by decide +kernel
theorem dX3_fieldName_4 : decode cX3_fieldName 4 = .ok (.iload_n 1, 1) := by decide +kernel
theorem dX3_fieldName_5 : decode cX3_fieldName 5 = .ok (.aload_n 0, 1) := by decide +kernel
theorem dX3_fieldName_6 : decode cX3_fieldName 6 = .ok (.getfield 49, 3) := by decide +kernel
theorem dX3_fieldName_9 : decode cX3_fieldName 9 = .ok (.if_icmp .ge 14, 3) := by decide +kernel
theorem dX3_fieldName_12 : decode cX3_fieldName 12 = .ok (.aload_n 0, 1) := by decide +kernel
theorem dX3_fieldName_13 : decode cX3_fieldName 13 = .ok (.getfield 27, 3) := by decide +kernel
theorem dX3_fieldName_16 : decode cX3_fieldName 16 = .ok (.iload_n 1, 1) := by decide +kernel
theorem dX3_fieldName_17 : decode cX3_fieldName 17 = .ok (.iconst 2, 1) := by decide +kernel
theorem dX3_fieldName_18 : decode cX3_fieldName 18 = .ok (.imul, 1) := by decide +kernel
theorem dX3_fieldName_19 : decode cX3_fieldName 19 = .ok (.iaload, 1) := by decide +kernel
theorem dX3_fieldName_20 : decode cX3_fieldName 20 = .ok (.goto 4, 3) := by decide +kernel
theorem dX3_fieldName_23 : decode cX3_fieldName 23 = .ok (.iconst 0, 1) := by decide +kernel
theorem dX3_fieldName_24 : decode cX3_fieldName 24 = .ok (.ireturn, 1) := by decide +kernel
theorem dX3_fieldKind_0 : decode cX3_fieldKind 0 = .ok (.iload_n 1, 1) := by decide +kernel
theorem dX3_fieldKind_1 : decode cX3_fieldKind 1 = .ok (.ifCond .lt 24, 3) := by decide +kernel
theorem dX3_fieldKind_4 : decode cX3_fieldKind 4 = .ok (.iload_n 1, 1) := by decide +kernel
theorem dX3_fieldKind_5 : decode cX3_fieldKind 5 = .ok (.aload_n 0, 1) := by decide +kernel
theorem dX3_fieldKind_6 : decode cX3_fieldKind 6 = .ok (.getfield 49, 3) := by decide +kernel
theorem dX3_fieldKind_9 : decode cX3_fieldKind 9 = .ok (.if_icmp .ge 16, 3) := by decide +kernel
theorem dX3_fieldKind_12 : decode cX3_fieldKind 12 = .ok (.aload_n 0, 1) := by decide +kernel
theorem dX3_fieldKind_13 : decode cX3_fieldKind 13 = .ok (.getfield 27, 3) := by decide +kernel
theorem dX3_fieldKind_16 : decode cX3_fieldKind 16 = .ok (.iload_n 1, 1) := by decide +kernel
theorem dX3_fieldKind_17 : decode cX3_fieldKind 17 = .ok (.iconst 2, 1) := by decide +kernel
theorem dX3_fieldKind_18 : decode cX3_fieldKind 18 = .ok (.imul, 1) := by decide +kernel
theorem dX3_fieldKind_19 : decode cX3_fieldKind 19 = .ok (.iconst 1, 1) := by decide +kernel
theorem dX3_fieldKind_20 : decode cX3_fieldKind 20 = .ok (.iadd, 1) := by decide +kernel
theorem dX3_fieldKind_21 : decode cX3_fieldKind 21 = .ok (.iaload, 1) := by decide +kernel
theorem dX3_fieldKind_22 : decode cX3_fieldKind 22 = .ok (.goto 4, 3) := by decide +kernel
theorem dX3_fieldKind_25 : decode cX3_fieldKind 25 = .ok (.iconst 0, 1) := by decide +kernel
theorem dX3_fieldKind_26 : decode cX3_fieldKind 26 = .ok (.ireturn, 1) := by decide +kernel
theorem dX4_above_0 : decode cX4_above 0 = .ok (.iload_n 1, 1) := by decide +kernel
theorem dX4_above_1 : decode cX4_above 1 = .ok (.invokestatic 31, 3) := by decide +kernel
theorem dX4_above_4 : decode cX4_above 4 = .ok (.ifCond .eq 12, 3) := by decide +kernel
theorem dX4_above_7 : decode cX4_above 7 = .ok (.aload_n 0, 1) := by decide +kernel
theorem dX4_above_8 : decode cX4_above 8 = .ok (.getfield 11, 3) := by decide +kernel
theorem dX4_above_11 : decode cX4_above 11 = .ok (.iload_n 1, 1) := by decide +kernel
theorem dX4_above_12 : decode cX4_above 12 = .ok (.iaload, 1) := by decide +kernel
theorem dX4_above_13 : decode cX4_above 13 = .ok (.goto 4, 3) := by decide +kernel
theorem dX4_above_16 : decode cX4_above 16 = .ok (.iconst (-1), 1) := by decide +kernel
theorem dX4_above_17 : decode cX4_above 17 = .ok (.ireturn, 1) := by decide +kernel
theorem dX4_isClass_0 : decode cX4_isClass 0 = .ok (.iload_n 0, 1) := by decide +kernel
theorem dX4_isClass_1 : decode cX4_isClass 1 = .ok (.ifCond .lt 13, 3) := by decide +kernel
theorem dX4_isClass_4 : decode cX4_isClass 4 = .ok (.iload_n 0, 1) := by decide +kernel
theorem dX4_isClass_5 : decode cX4_isClass 5 = .ok (.bipush 16, 2) := by decide +kernel
theorem dX4_isClass_7 : decode cX4_isClass 7 = .ok (.if_icmp .ge 7, 3) := by decide +kernel
theorem dX4_isClass_10 : decode cX4_isClass 10 = .ok (.iconst 1, 1) := by decide +kernel
theorem dX4_isClass_11 : decode cX4_isClass 11 = .ok (.goto 4, 3) := by decide +kernel
theorem dX4_isClass_14 : decode cX4_isClass 14 = .ok (.iconst 0, 1) := by decide +kernel
theorem dX4_isClass_15 : decode cX4_isClass 15 = .ok (.ireturn, 1) := by decide +kernel
theorem dX4_isArray_0 : decode cX4_isArray 0 = .ok (.iload_n 0, 1) := by decide +kernel
theorem dX4_isArray_1 : decode cX4_isArray 1 = .ok (.bipush 100, 2) := by decide +kernel
theorem dX4_isArray_3 : decode cX4_isArray 3 = .ok (.if_icmp .lt 14, 3) := by decide +kernel
theorem dX4_isArray_6 : decode cX4_isArray 6 = .ok (.iload_n 0, 1) := by decide +kernel
theorem dX4_isArray_7 : decode cX4_isArray 7 = .ok (.sipush 200, 3) := by decide +kernel
theorem dX4_isArray_10 : decode cX4_isArray 10 = .ok (.if_icmp .gt 7, 3) := by decide +kernel
theorem dX4_isArray_13 : decode cX4_isArray 13 = .ok (.iconst 1, 1) := by decide +kernel
theorem dX4_isArray_14 : decode cX4_isArray 14 = .ok (.goto 4, 3) := by decide +kernel
theorem dX4_isArray_17 : decode cX4_isArray 17 = .ok (.iconst 0, 1) := by decide +kernel
theorem dX4_isArray_18 : decode cX4_isArray 18 = .ok (.ireturn, 1) := by decide +kernel
theorem dX4_isReference_0 : decode cX4_isReference 0 = .ok (.iload_n 0, 1) := by decide +kernel
theorem dX4_isReference_1 : decode cX4_isReference 1 = .ok (.sipush 300, 3) := by decide +kernel
theorem dX4_isReference_4 : decode cX4_isReference 4 = .ok (.if_icmp .eq 14, 3) := by decide +kernel
theorem dX4_isReference_7 : decode cX4_isReference 7 = .ok (.iload_n 0, 1) := by decide +kernel
theorem dX4_isReference_8 : decode cX4_isReference 8 = .ok (.ifCond .lt 14, 3) := by decide +kernel
theorem dX4_isReference_11 : decode cX4_isReference 11 = .ok (.iload_n 0, 1) := by decide +kernel
theorem dX4_isReference_12 : decode cX4_isReference 12 = .ok (.sipush 200, 3) := by decide +kernel
theorem dX4_isReference_15 : decode cX4_isReference 15 = .ok (.if_icmp .gt 7, 3) := by decide +kernel
theorem dX4_isReference_18 : decode cX4_isReference 18 = .ok (.iconst 1, 1) := by decide +kernel
theorem dX4_isReference_19 : decode cX4_isReference 19 = .ok (.goto 4, 3) := by decide +kernel
theorem dX4_isReference_22 : decode cX4_isReference 22 = .ok (.iconst 0, 1) := by decide +kernel
theorem dX4_isReference_23 : decode cX4_isReference 23 = .ok (.ireturn, 1) := by decide +kernel
theorem dX4_isNumber_0 : decode cX4_isNumber 0 = .ok (.iload_n 0, 1) := by decide +kernel
theorem dX4_isNumber_1 : decode cX4_isNumber 1 = .ok (.sipush 301, 3) := by decide +kernel
theorem dX4_isNumber_4 : decode cX4_isNumber 4 = .ok (.if_icmp .eq 10, 3) := by decide +kernel
theorem dX4_isNumber_7 : decode cX4_isNumber 7 = .ok (.iload_n 0, 1) := by decide +kernel
theorem dX4_isNumber_8 : decode cX4_isNumber 8 = .ok (.sipush 302, 3) := by decide +kernel
theorem dX4_isNumber_11 : decode cX4_isNumber 11 = .ok (.if_icmp .ne 7, 3) := by decide +kernel
theorem dX4_isNumber_14 : decode cX4_isNumber 14 = .ok (.iconst 1, 1) := by decide +kernel
theorem dX4_isNumber_15 : decode cX4_isNumber 15 = .ok (.goto 4, 3) := by decide +kernel
theorem dX4_isNumber_18 : decode cX4_isNumber 18 = .ok (.iconst 0, 1) := by decide +kernel
theorem dX4_isNumber_19 : decode cX4_isNumber 19 = .ok (.ireturn, 1) := by decide +kernel
theorem dX4_elementOf_0 : decode cX4_elementOf 0 = .ok (.iload_n 0, 1) := by decide +kernel
theorem dX4_elementOf_1 : decode cX4_elementOf 1 = .ok (.sipush 200, 3) := by decide +kernel
theorem dX4_elementOf_4 : decode cX4_elementOf 4 = .ok (.if_icmp .ne 7, 3) := by decide +kernel
theorem dX4_elementOf_7 : decode cX4_elementOf 7 = .ok (.sipush 301, 3) := by decide +kernel
theorem dX4_elementOf_10 : decode cX4_elementOf 10 = .ok (.ireturn, 1) := by decide +kernel
theorem dX4_elementOf_11 : decode cX4_elementOf 11 = .ok (.iload_n 0, 1) := by decide +kernel
theorem dX4_elementOf_12 : decode cX4_elementOf 12 = .ok (.bipush 100, 2) := by decide +kernel
theorem dX4_elementOf_14 : decode cX4_elementOf 14 = .ok (.if_icmp .lt 17, 3) := by decide +kernel
theorem dX4_elementOf_17 : decode cX4_elementOf 17 = .ok (.iload_n 0, 1) := by decide +kernel
theorem dX4_elementOf_18 : decode cX4_elementOf 18 = .ok (.sipush 200, 3) := by decide +kernel
theorem dX4_elementOf_21 : decode cX4_elementOf 21 = .ok (.if_icmp .ge 10, 3) := by decide +kernel
theorem dX4_elementOf_24 : decode cX4_elementOf 24 = .ok (.iload_n 0, 1) := by decide +kernel
theorem dX4_elementOf_25 : decode cX4_elementOf 25 = .ok (.bipush 100, 2) := by decide +kernel
theorem dX4_elementOf_27 : decode cX4_elementOf 27 = .ok (.isub, 1) := by decide +kernel
theorem dX4_elementOf_28 : decode cX4_elementOf 28 = .ok (.goto 6, 3) := by decide +kernel
theorem dX4_elementOf_31 : decode cX4_elementOf 31 = .ok (.sipush 305, 3) := by decide +kernel
theorem dX4_elementOf_34 : decode cX4_elementOf 34 = .ok (.ireturn, 1) := by decide +kernel
theorem dX11_isJump_0 : decode cX11_isJump 0 = .ok (.iload_n 0, 1) := by decide +kernel
theorem dX11_isJump_1 : decode cX11_isJump 1 = .ok (.sipush 153, 3) := by decide +kernel
theorem dX11_isJump_4 : decode cX11_isJump 4 = .ok (.if_icmp .eq 24, 3) := by decide +kernel
theorem dX11_isJump_7 : decode cX11_isJump 7 = .ok (.iload_n 0, 1) := by decide +kernel
theorem dX11_isJump_8 : decode cX11_isJump 8 = .ok (.sipush 154, 3) := by decide +kernel
theorem dX11_isJump_11 : decode cX11_isJump 11 = .ok (.if_icmp .eq 17, 3) := by decide +kernel
theorem dX11_isJump_14 : decode cX11_isJump 14 = .ok (.iload_n 0, 1) := by decide +kernel
theorem dX11_isJump_15 : decode cX11_isJump 15 = .ok (.sipush 159, 3) := by decide +kernel
theorem dX11_isJump_18 : decode cX11_isJump 18 = .ok (.if_icmp .lt 14, 3) := by decide +kernel
theorem dX11_isJump_21 : decode cX11_isJump 21 = .ok (.iload_n 0, 1) := by decide +kernel
theorem dX11_isJump_22 : decode cX11_isJump 22 = .ok (.sipush 167, 3) := by decide +kernel
theorem dX11_isJump_25 : decode cX11_isJump 25 = .ok (.if_icmp .gt 7, 3) := by decide +kernel
theorem dX11_isJump_28 : decode cX11_isJump 28 = .ok (.iconst 1, 1) := by decide +kernel
theorem dX11_isJump_29 : decode cX11_isJump 29 = .ok (.goto 4, 3) := by decide +kernel
theorem dX11_isJump_32 : decode cX11_isJump 32 = .ok (.iconst 0, 1) := by decide +kernel
theorem dX11_isJump_33 : decode cX11_isJump 33 = .ok (.ireturn, 1) := by decide +kernel
theorem dX11_isLast_0 : decode cX11_isLast 0 = .ok (.iload_n 0, 1) := by decide +kernel
theorem dX11_isLast_1 : decode cX11_isLast 1 = .ok (.sipush 167, 3) := by decide +kernel
theorem dX11_isLast_4 : decode cX11_isLast 4 = .ok (.if_icmp .eq 31, 3) := by decide +kernel
theorem dX11_isLast_7 : decode cX11_isLast 7 = .ok (.iload_n 0, 1) := by decide +kernel
theorem dX11_isLast_8 : decode cX11_isLast 8 = .ok (.sipush 172, 3) := by decide +kernel
theorem dX11_isLast_11 : decode cX11_isLast 11 = .ok (.if_icmp .eq 24, 3) := by decide +kernel
theorem dX11_isLast_14 : decode cX11_isLast 14 = .ok (.iload_n 0, 1) := by decide +kernel
theorem dX11_isLast_15 : decode cX11_isLast 15 = .ok (.sipush 176, 3) := by decide +kernel
theorem dX11_isLast_18 : decode cX11_isLast 18 = .ok (.if_icmp .eq 17, 3) := by decide +kernel
theorem dX11_isLast_21 : decode cX11_isLast 21 = .ok (.iload_n 0, 1) := by decide +kernel
theorem dX11_isLast_22 : decode cX11_isLast 22 = .ok (.sipush 177, 3) := by decide +kernel
theorem dX11_isLast_25 : decode cX11_isLast 25 = .ok (.if_icmp .eq 10, 3) := by decide +kernel
theorem dX11_isLast_28 : decode cX11_isLast 28 = .ok (.iload_n 0, 1) := by decide +kernel
theorem dX11_isLast_29 : decode cX11_isLast 29 = .ok (.sipush 191, 3) := by decide +kernel
theorem dX11_isLast_32 : decode cX11_isLast 32 = .ok (.if_icmp .ne 7, 3) := by decide +kernel
theorem dX11_isLast_35 : decode cX11_isLast 35 = .ok (.iconst 1, 1) := by decide +kernel
theorem dX11_isLast_36 : decode cX11_isLast 36 = .ok (.goto 4, 3) := by decide +kernel
theorem dX11_isLast_39 : decode cX11_isLast 39 = .ok (.iconst 0, 1) := by decide +kernel
theorem dX11_isLast_40 : decode cX11_isLast 40 = .ok (.ireturn, 1) := by decide +kernel
def VS_h1_p0 : List Cond := [Cond.code yX4_isClass cX4_isClass 1 (some .boolean), Cond.methodLink RX4 31 yX4_isClass, Cond.static yX4_isClass, Cond.initialized RX4, Cond.fieldLink RX4 11 "ClassMill$Kin" "above" "[I", Cond.fieldLink RX3 46 "ClassMill$Image" "form" "I", Cond.fieldLink RX3 39 "ClassMill$Image" "size" "I", Cond.fieldLink RX3 9 "ClassMill$Image" "bytes" "[B", Cond.fieldLink RX3 90 "ClassMill$Image" "constants" "I", Cond.fieldLink RX3 15 "ClassMill$Image" "tags" "[I", Cond.fieldLink RX3 19 "ClassMill$Image" "at" "[I", Cond.fieldLink RX3 22 "ClassMill$Image" "textStop" "[I", Cond.fieldLink RX3 43 "ClassMill$Image" "pos" "I", Cond.fieldLink RX3 49 "ClassMill$Image" "fields" "I", Cond.fieldLink RX3 27 "ClassMill$Image" "field" "[I"]
def VS_h1 : List Cond := VS_h1_p0 ++ (wsX40 ++ (wsX30))
theorem mw_h1_0 : Cond.code yX4_isClass cX4_isClass 1 (some .boolean) ∈ VS_h1 := List.mem_append_left _ (List.mem_of_getElem? (i := 0) rfl)
theorem mw_h1_1 : Cond.methodLink RX4 31 yX4_isClass ∈ VS_h1 := List.mem_append_left _ (List.mem_of_getElem? (i := 1) rfl)
theorem mw_h1_2 : Cond.static yX4_isClass ∈ VS_h1 := List.mem_append_left _ (List.mem_of_getElem? (i := 2) rfl)
theorem mw_h1_3 : Cond.initialized RX4 ∈ VS_h1 := List.mem_append_left _ (List.mem_of_getElem? (i := 3) rfl)
theorem mw_h1_4 : Cond.fieldLink RX4 11 "ClassMill$Kin" "above" "[I" ∈ VS_h1 := List.mem_append_left _ (List.mem_of_getElem? (i := 4) rfl)
theorem mw_h1_5 : Cond.fieldLink RX3 46 "ClassMill$Image" "form" "I" ∈ VS_h1 := List.mem_append_left _ (List.mem_of_getElem? (i := 5) rfl)
theorem mw_h1_6 : Cond.fieldLink RX3 39 "ClassMill$Image" "size" "I" ∈ VS_h1 := List.mem_append_left _ (List.mem_of_getElem? (i := 6) rfl)
theorem mw_h1_7 : Cond.fieldLink RX3 9 "ClassMill$Image" "bytes" "[B" ∈ VS_h1 := List.mem_append_left _ (List.mem_of_getElem? (i := 7) rfl)
theorem mw_h1_8 : Cond.fieldLink RX3 90 "ClassMill$Image" "constants" "I" ∈ VS_h1 := List.mem_append_left _ (List.mem_of_getElem? (i := 8) rfl)
theorem mw_h1_9 : Cond.fieldLink RX3 15 "ClassMill$Image" "tags" "[I" ∈ VS_h1 := List.mem_append_left _ (List.mem_of_getElem? (i := 9) rfl)
theorem mw_h1_10 : Cond.fieldLink RX3 19 "ClassMill$Image" "at" "[I" ∈ VS_h1 := List.mem_append_left _ (List.mem_of_getElem? (i := 10) rfl)
theorem mw_h1_11 : Cond.fieldLink RX3 22 "ClassMill$Image" "textStop" "[I" ∈ VS_h1 := List.mem_append_left _ (List.mem_of_getElem? (i := 11) rfl)
theorem mw_h1_12 : Cond.fieldLink RX3 43 "ClassMill$Image" "pos" "I" ∈ VS_h1 := List.mem_append_left _ (List.mem_of_getElem? (i := 12) rfl)
theorem mw_h1_13 : Cond.fieldLink RX3 49 "ClassMill$Image" "fields" "I" ∈ VS_h1 := List.mem_append_left _ (List.mem_of_getElem? (i := 13) rfl)
theorem mw_h1_14 : Cond.fieldLink RX3 27 "ClassMill$Image" "field" "[I" ∈ VS_h1 := List.mem_append_left _ (List.mem_of_getElem? (i := 14) rfl)
theorem uV_h1_X4 : ∀ w ∈ u_ws RX4 TX4 2, w ∈ VS_h1 := fun w h => List.mem_append_right _ (List.mem_append_left _ (h))
theorem uV_h1_X3 : ∀ w ∈ u_ws RX3 TX3 14, w ∈ VS_h1 := fun w h => List.mem_append_right _ (List.mem_append_right _ (h))
set_option maxRecDepth 100000 in
theorem gs_h1 : GoodIn VS_h1 VS_h1 := vs_self (by decide +kernel)
theorem gv_h1_0 : GoodIn VS_h1 (va_wsS RX4 31 yX4_isClass (.code yX4_isClass cX4_isClass 1 (some .boolean) :: VS_h1)) := goodIn_app (vs_in3 mw_h1_1 mw_h1_2 mw_h1_3 (by decide +kernel)) (vs_cons mw_h1_0 (by decide +kernel) gs_h1)
