abbrev cX1_jumpBack : ByteArray := prog_3_method_13_code
def yX1_jumpBack : MethodName := ⟨RX1, "jumpBack", "(II)V"⟩
abbrev cX1_aimHere : ByteArray := prog_3_method_14_code
def yX1_aimHere : MethodName := ⟨RX1, "aimHere", "(I)V"⟩
abbrev cX1_truth : ByteArray := prog_3_method_16_code
def yX1_truth : MethodName := ⟨RX1, "truth", "(II)V"⟩
abbrev cX1_addHandler : ByteArray := prog_3_method_17_code
def yX1_addHandler : MethodName := ⟨RX1, "addHandler", "(III)V"⟩
abbrev cX1_fillFrame : ByteArray := prog_3_method_18_code
def yX1_fillFrame : MethodName := ⟨RX1, "fillFrame", "(III)V"⟩
abbrev cX1_slotOfFrame : ByteArray := prog_3_method_19_code
def yX1_slotOfFrame : MethodName := ⟨RX1, "slotOfFrame", "(I)I"⟩
abbrev cX1_writeTo : ByteArray := prog_3_method_20_code
def yX1_writeTo : MethodName := ⟨RX1, "writeTo", "(LClassMill$Pool;)V"⟩
abbrev cX2_forget : ByteArray := prog_4_method_2_code
def yX2_forget : MethodName := ⟨RX2, "forget", "()V"⟩
abbrev cX2_readClasses : ByteArray := prog_4_method_4_code
def yX2_readClasses : MethodName := ⟨RX2, "readClasses", "()V"⟩
abbrev cX2_readMembers : ByteArray := prog_4_method_5_code
def yX2_readMembers : MethodName := ⟨RX2, "readMembers", "()V"⟩
abbrev cX2_checkOverrides : ByteArray := prog_4_method_6_code
def yX2_checkOverrides : MethodName := ⟨RX2, "checkOverrides", "()V"⟩
abbrev cX2_nameKinds : ByteArray := prog_4_method_7_code
def yX2_nameKinds : MethodName := ⟨RX2, "nameKinds", "()V"⟩
abbrev cX2_nameKind : ByteArray := prog_4_method_8_code
def yX2_nameKind : MethodName := ⟨RX2, "nameKind", "(I)I"⟩
abbrev cX2_nameMethodKind : ByteArray := prog_4_method_9_code
def yX2_nameMethodKind : MethodName := ⟨RX2, "nameMethodKind", "(I)I"⟩
abbrev cX2_addKind : ByteArray := prog_4_method_11_code
def yX2_addKind : MethodName := ⟨RX2, "addKind", "(I)V"⟩
abbrev cX2_nameClasses : ByteArray := prog_4_method_12_code
def yX2_nameClasses : MethodName := ⟨RX2, "nameClasses", "()V"⟩
abbrev cX2_readMember : ByteArray := prog_4_method_19_code
def yX2_readMember : MethodName := ⟨RX2, "readMember", "(I)V"⟩
abbrev cX2_addMethod : ByteArray := prog_4_method_22_code
def yX2_addMethod : MethodName := ⟨RX2, "addMethod", "(IIIZ)V"⟩
abbrev cX2_checkOverride : ByteArray := prog_4_method_25_code
def yX2_checkOverride : MethodName := ⟨RX2, "checkOverride", "(I)V"⟩
abbrev cX3_read : ByteArray := prog_5_method_2_code
def yX3_read : MethodName := ⟨RX3, "read", "([BI)I"⟩
abbrev cX3_readConstants : ByteArray := prog_5_method_9_code
def yX3_readConstants : MethodName := ⟨RX3, "readConstants", "()V"⟩
abbrev cX3_readConstant : ByteArray := prog_5_method_10_code
def yX3_readConstant : MethodName := ⟨RX3, "readConstant", "(I)V"⟩
abbrev cX3_checkConstant : ByteArray := prog_5_method_11_code
def yX3_checkConstant : MethodName := ⟨RX3, "checkConstant", "(I)V"⟩
abbrev cX3_builtIn : ByteArray := prog_5_method_21_code
def yX3_builtIn : MethodName := ⟨RX3, "builtIn", "(II)I"⟩
abbrev cX3_isNameText : ByteArray := prog_5_method_22_code
def yX3_isNameText : MethodName := ⟨RX3, "isNameText", "(I)Z"⟩
abbrev cX3_isFieldKind : ByteArray := prog_5_method_24_code
def yX3_isFieldKind : MethodName := ⟨RX3, "isFieldKind", "(I)Z"⟩
abbrev cX3_behindKind : ByteArray := prog_5_method_25_code
def yX3_behindKind : MethodName := ⟨RX3, "behindKind", "(II)I"⟩
abbrev cX3_parametersIn : ByteArray := prog_5_method_26_code
def yX3_parametersIn : MethodName := ⟨RX3, "parametersIn", "(I)I"⟩
abbrev cX3_nextName : ByteArray := prog_5_method_29_code
def yX3_nextName : MethodName := ⟨RX3, "nextName", "()I"⟩
abbrev cX3_readFields : ByteArray := prog_5_method_30_code
def yX3_readFields : MethodName := ⟨RX3, "readFields", "()V"⟩
abbrev cX3_readMethod : ByteArray := prog_5_method_31_code
def yX3_readMethod : MethodName := ⟨RX3, "readMethod", "(I)V"⟩
abbrev cX5_stepArithmetic : ByteArray := prog_7_method_17_code
def yX5_stepArithmetic : MethodName := ⟨RX5, "stepArithmetic", "(I)V"⟩
abbrev cX5_computed : ByteArray := prog_7_method_18_code
def yX5_computed : MethodName := ⟨RX5, "computed", "(III)I"⟩
abbrev cX5_make : ByteArray := prog_7_method_32_code
def yX5_make : MethodName := ⟨RX5, "make", "(II)I"⟩
abbrev cX5_giveNew : ByteArray := prog_7_method_33_code
def yX5_giveNew : MethodName := ⟨RX5, "giveNew", "(II)V"⟩
abbrev cX5_stepNewArray : ByteArray := prog_7_method_34_code
def yX5_stepNewArray : MethodName := ⟨RX5, "stepNewArray", "(I)V"⟩
abbrev cX6_writeConstant : ByteArray := prog_8_method_10_code
def yX6_writeConstant : MethodName := ⟨RX6, "writeConstant", "(I[BI)V"⟩
abbrev cX9_copyName : ByteArray := prog_11_method_11_code
def yX9_copyName : MethodName := ⟨RX9, "copyName", "(I[BI)V"⟩
abbrev cX9_scan : ByteArray := prog_11_method_12_code
def yX9_scan : MethodName := ⟨RX9, "scan", "([BI)V"⟩
abbrev cX9_scanToken : ByteArray := prog_11_method_15_code
def yX9_scanToken : MethodName := ⟨RX9, "scanToken", "([BII)I"⟩
abbrev cX9_scanWord : ByteArray := prog_11_method_20_code
def yX9_scanWord : MethodName := ⟨RX9, "scanWord", "([BII)I"⟩
abbrev cX9_nameOf : ByteArray := prog_11_method_21_code
def yX9_nameOf : MethodName := ⟨RX9, "nameOf", "([BII)I"⟩
abbrev cX9_scanNumber : ByteArray := prog_11_method_23_code
def yX9_scanNumber : MethodName := ⟨RX9, "scanNumber", "([BII)I"⟩
abbrev cX10_closeSign : ByteArray := prog_12_method_10_code
def yX10_closeSign : MethodName := ⟨RX10, "closeSign", "()V"⟩
abbrev cX10_closeShort : ByteArray := prog_12_method_12_code
def yX10_closeShort : MethodName := ⟨RX10, "closeShort", "(II)V"⟩
abbrev cX10_closeUnary : ByteArray := prog_12_method_19_code
def yX10_closeUnary : MethodName := ⟨RX10, "closeUnary", "(II)V"⟩
abbrev cX11_proveInstructions : ByteArray := prog_13_method_20_code
def yX11_proveInstructions : MethodName := ⟨RX11, "proveInstructions", "()I"⟩
abbrev cX11_fitsFrame : ByteArray := prog_13_method_37_code
def yX11_fitsFrame : MethodName := ⟨RX11, "fitsFrame", "(I)Z"⟩
abbrev cX11_takeFrame : ByteArray := prog_13_method_38_code
def yX11_takeFrame : MethodName := ⟨RX11, "takeFrame", "(I)V"⟩
abbrev cJ9_min_f86c9 : ByteArray := prog_17_method_70_code
def yJ9_min_f86c9 : MethodName := ⟨RJ9, "min", "(JJ)J"⟩
abbrev cJ7_rangeCheck_23922 : ByteArray := prog_22_method_30_code
def yJ7_rangeCheck_23922 : MethodName := ⟨RJ7, "rangeCheck", "(III)V"⟩
abbrev cJ7_fill_fda19 : ByteArray := prog_22_method_104_code
def yJ7_fill_fda19 : MethodName := ⟨RJ7, "fill", "([IIII)V"⟩
theorem dX1_jumpBack_0 : decode cX1_jumpBack 0 = .ok (.aload_n 0, 1) := by decide +kernel
theorem dX1_jumpBack_1 : decode cX1_jumpBack 1 = .ok (.aload_n 0, 1) := by decide +kernel
theorem dX1_jumpBack_2 : decode cX1_jumpBack 2 = .ok (.sipush 167, 3) := by decide +kernel
theorem dX1_jumpBack_5 : decode cX1_jumpBack 5 = .ok (.iconst 0, 1) := by decide +kernel
theorem dX1_jumpBack_6 : decode cX1_jumpBack 6 = .ok (.invokevirtual 90, 3) := by decide +kernel
theorem dX1_jumpBack_9 : decode cX1_jumpBack 9 = .ok (.iload_n 1, 1) := by decide +kernel
theorem dX1_jumpBack_10 : decode cX1_jumpBack 10 = .ok (.invokevirtual 93, 3) := by decide +kernel
theorem dX1_jumpBack_13 : decode cX1_jumpBack 13 = .ok (.aload_n 0, 1) := by decide +kernel
theorem dX1_jumpBack_14 : decode cX1_jumpBack 14 = .ok (.aload_n 0, 1) := by decide +kernel
theorem dX1_jumpBack_15 : decode cX1_jumpBack 15 = .ok (.iload_n 1, 1) := by decide +kernel
theorem dX1_jumpBack_16 : decode cX1_jumpBack 16 = .ok (.invokevirtual 96, 3) := by decide +kernel
theorem dX1_jumpBack_19 : decode cX1_jumpBack 19 = .ok (.iload_n 2, 1) := by decide +kernel
theorem dX1_jumpBack_20 : decode cX1_jumpBack 20 = .ok (.iconst 0, 1) := by decide +kernel
theorem dX1_jumpBack_21 : decode cX1_jumpBack 21 = .ok (.invokevirtual 100, 3) := by decide +kernel
theorem dX1_jumpBack_24 : decode cX1_jumpBack 24 = .ok (.return_, 1) := by decide +kernel
theorem dX1_aimHere_0 : decode cX1_aimHere 0 = .ok (.aload_n 0, 1) := by decide +kernel
theorem dX1_aimHere_1 : decode cX1_aimHere 1 = .ok (.iload_n 1, 1) := by decide +kernel
theorem dX1_aimHere_2 : decode cX1_aimHere 2 = .ok (.aload_n 0, 1) := by decide +kernel
theorem dX1_aimHere_3 : decode cX1_aimHere 3 = .ok (.getfield 39, 3) := by decide +kernel
theorem dX1_aimHere_6 : decode cX1_aimHere 6 = .ok (.invokevirtual 93, 3) := by decide +kernel
theorem dX1_aimHere_9 : decode cX1_aimHere 9 = .ok (.aload_n 0, 1) := by decide +kernel
theorem dX1_aimHere_10 : decode cX1_aimHere 10 = .ok (.aload_n 0, 1) := by decide +kernel
theorem dX1_aimHere_11 : decode cX1_aimHere 11 = .ok (.aload_n 0, 1) := by decide +kernel
theorem dX1_aimHere_12 : decode cX1_aimHere 12 = .ok (.getfield 39, 3) := by decide +kernel
theorem dX1_aimHere_15 : decode cX1_aimHere 15 = .ok (.invokevirtual 96, 3) := by decide +kernel
theorem dX1_aimHere_18 : decode cX1_aimHere 18 = .ok (.aload_n 0, 1) := by decide +kernel
theorem dX1_aimHere_19 : decode cX1_aimHere 19 = .ok (.getfield 49, 3) := by decide +kernel
theorem dX1_aimHere_22 : decode cX1_aimHere 22 = .ok (.aload_n 0, 1) := by decide +kernel
theorem dX1_aimHere_23 : decode cX1_aimHere 23 = .ok (.getfield 43, 3) := by decide +kernel
theorem dX1_aimHere_26 : decode cX1_aimHere 26 = .ok (.invokevirtual 100, 3) := by decide +kernel
theorem dX1_aimHere_29 : decode cX1_aimHere 29 = .ok (.return_, 1) := by decide +kernel
theorem dX1_truth_0 : decode cX1_truth 0 = .ok (.aload_n 0, 1) := by decide +kernel
theorem dX1_truth_1 : decode cX1_truth 1 = .ok (.iload_n 1, 1) := by decide +kernel
theorem dX1_truth_2 : decode cX1_truth 2 = .ok (.iload_n 2, 1) := by decide +kernel
theorem dX1_truth_3 : decode cX1_truth 3 = .ok (.invokevirtual 90, 3) := by decide +kernel
theorem dX1_truth_6 : decode cX1_truth 6 = .ok (.istore_n 3, 1) := by decide +kernel
theorem dX1_truth_7 : decode cX1_truth 7 = .ok (.aload_n 0, 1) := by decide +kernel
theorem dX1_truth_8 : decode cX1_truth 8 = .ok (.sipush 302, 3) := by decide +kernel
theorem dX1_truth_11 : decode cX1_truth 11 = .ok (.invokevirtual 104, 3) := by decide +kernel
theorem dX1_truth_14 : decode cX1_truth 14 = .ok (.aload_n 0, 1) := by decide +kernel
theorem dX1_truth_15 : decode cX1_truth 15 = .ok (.iconst 3, 1) := by decide +kernel
theorem dX1_truth_16 : decode cX1_truth 16 = .ok (.invokevirtual 65, 3) := by decide +kernel
theorem dX1_truth_19 : decode cX1_truth 19 = .ok (.aload_n 0, 1) := by decide +kernel
theorem dX1_truth_20 : decode cX1_truth 20 = .ok (.sipush 167, 3) := by decide +kernel
theorem dX1_truth_23 : decode cX1_truth 23 = .ok (.iconst 0, 1) := by decide +kernel
theorem dX1_truth_24 : decode cX1_truth 24 = .ok (.invokevirtual 90, 3) := by decide +kernel
theorem dX1_truth_27 : decode cX1_truth 27 = .ok (.istore 4, 2) := by decide +kernel
theorem dX1_truth_29 : decode cX1_truth 29 = .ok (.aload_n 0, 1) := by decide +kernel
theorem dX1_truth_30 : decode cX1_truth 30 = .ok (.iconst 1, 1) := by decide +kernel
theorem dX1_truth_31 : decode cX1_truth 31 = .ok (.invokevirtual 87, 3) := by decide +kernel
theorem dX1_truth_34 : decode cX1_truth 34 = .ok (.aload_n 0, 1) := by decide +kernel
theorem dX1_truth_35 : decode cX1_truth 35 = .ok (.iload_n 3, 1) := by decide +kernel
theorem dX1_truth_36 : decode cX1_truth 36 = .ok (.invokevirtual 107, 3) := by decide +kernel
theorem dX1_truth_39 : decode cX1_truth 39 = .ok (.aload_n 0, 1) := by decide +kernel
theorem dX1_truth_40 : decode cX1_truth 40 = .ok (.sipush 302, 3) := by decide +kernel
theorem dX1_truth_43 : decode cX1_truth 43 = .ok (.invokevirtual 104, 3) := by decide +kernel
theorem dX1_truth_46 : decode cX1_truth 46 = .ok (.aload_n 0, 1) := by decide +kernel
theorem dX1_truth_47 : decode cX1_truth 47 = .ok (.iconst 4, 1) := by decide +kernel
theorem dX1_truth_48 : decode cX1_truth 48 = .ok (.invokevirtual 65, 3) := by decide +kernel
theorem dX1_truth_51 : decode cX1_truth 51 = .ok (.aload_n 0, 1) := by decide +kernel
theorem dX1_truth_52 : decode cX1_truth 52 = .ok (.iload 4, 2) := by decide +kernel
theorem dX1_truth_54 : decode cX1_truth 54 = .ok (.invokevirtual 107, 3) := by decide +kernel
theorem dX1_truth_57 : decode cX1_truth 57 = .ok (.return_, 1) := by decide +kernel
theorem dX1_addHandler_0 : decode cX1_addHandler 0 = .ok (.aload_n 0, 1) := by decide +kernel
theorem dX1_addHandler_1 : decode cX1_addHandler 1 = .ok (.getfield 55, 3) := by decide +kernel
theorem dX1_addHandler_4 : decode cX1_addHandler 4 = .ok (.bipush 20, 2) := by decide +kernel
theorem dX1_addHandler_6 : decode cX1_addHandler 6 = .ok (.if_icmp .lt 11, 3) := by decide +kernel
theorem dX1_addHandler_9 : decode cX1_addHandler 9 = .ok (.aload_n 0, 1) := by decide +kernel
theorem dX1_addHandler_10 : decode cX1_addHandler 10 = .ok (.iconst 1, 1) := by decide +kernel
theorem dX1_addHandler_11 : decode cX1_addHandler 11 = .ok (.putfield 61, 3) := by decide +kernel
theorem dX1_addHandler_14 : decode cX1_addHandler 14 = .ok (.goto 62, 3) := by decide +kernel
theorem dX1_addHandler_17 : decode cX1_addHandler 17 = .ok (.aload_n 0, 1) := by decide +kernel
theorem dX1_addHandler_18 : decode cX1_addHandler 18 = .ok (.getfield 55, 3) := by decide +kernel
theorem dX1_addHandler_21 : decode cX1_addHandler 21 = .ok (.iconst 4, 1) := by decide +kernel
theorem dX1_addHandler_22 : decode cX1_addHandler 22 = .ok (.imul, 1) := by decide +kernel
theorem dX1_addHandler_23 : decode cX1_addHandler 23 = .ok (.istore 4, 2) := by decide +kernel
theorem dX1_addHandler_25 : decode cX1_addHandler 25 = .ok (.aload_n 0, 1) := by decide +kernel
theorem dX1_addHandler_26 : decode cX1_addHandler 26 = .ok (.getfield 27, 3) := by decide +kernel
theorem dX1_addHandler_29 : decode cX1_addHandler 29 = .ok (.iload 4, 2) := by decide +kernel
theorem dX1_addHandler_31 : decode cX1_addHandler 31 = .ok (.iload_n 1, 1) := by decide +kernel
theorem dX1_addHandler_32 : decode cX1_addHandler 32 = .ok (.iastore, 1) := by decide +kernel
theorem dX1_addHandler_33 : decode cX1_addHandler 33 = .ok (.aload_n 0, 1) := by decide +kernel
theorem dX1_addHandler_34 : decode cX1_addHandler 34 = .ok (.getfield 27, 3) := by decide +kernel
theorem dX1_addHandler_37 : decode cX1_addHandler 37 = .ok (.iload 4, 2) := by decide +kernel
theorem dX1_addHandler_39 : decode cX1_addHandler 39 = .ok (.iconst 1, 1) := by decide +kernel
theorem dX1_addHandler_40 : decode cX1_addHandler 40 = .ok (.iadd, 1) := by decide +kernel
theorem dX1_addHandler_41 : decode cX1_addHandler 41 = .ok (.iload_n 2, 1) := by decide +kernel
theorem dX1_addHandler_42 : decode cX1_addHandler 42 = .ok (.iastore, 1) := by decide +kernel
theorem dX1_addHandler_43 : decode cX1_addHandler 43 = .ok (.aload_n 0, 1) := by decide +kernel
theorem dX1_addHandler_44 : decode cX1_addHandler 44 = .ok (.getfield 27, 3) := by decide +kernel
theorem dX1_addHandler_47 : decode cX1_addHandler 47 = .ok (.iload 4, 2) := by decide +kernel
theorem dX1_addHandler_49 : decode cX1_addHandler 49 = .ok (.iconst 2, 1) := by decide +kernel
theorem dX1_addHandler_50 : decode cX1_addHandler 50 = .ok (.iadd, 1) := by decide +kernel
theorem dX1_addHandler_51 : decode cX1_addHandler 51 = .ok (.aload_n 0, 1) := by decide +kernel
theorem dX1_addHandler_52 : decode cX1_addHandler 52 = .ok (.getfield 39, 3) := by decide +kernel
theorem dX1_addHandler_55 : decode cX1_addHandler 55 = .ok (.iastore, 1) := by decide +kernel
theorem dX1_addHandler_56 : decode cX1_addHandler 56 = .ok (.aload_n 0, 1) := by decide +kernel
theorem dX1_addHandler_57 : decode cX1_addHandler 57 = .ok (.getfield 27, 3) := by decide +kernel
theorem dX1_addHandler_60 : decode cX1_addHandler 60 = .ok (.iload 4, 2) := by decide +kernel
theorem dX1_addHandler_62 : decode cX1_addHandler 62 = .ok (.iconst 3, 1) := by decide +kernel
theorem dX1_addHandler_63 : decode cX1_addHandler 63 = .ok (.iadd, 1) := by decide +kernel
theorem dX1_addHandler_64 : decode cX1_addHandler 64 = .ok (.iload_n 3, 1) := by decide +kernel
theorem dX1_addHandler_65 : decode cX1_addHandler 65 = .ok (.iastore, 1) := by decide +kernel
theorem dX1_addHandler_66 : decode cX1_addHandler 66 = .ok (.aload_n 0, 1) := by decide +kernel
theorem dX1_addHandler_67 : decode cX1_addHandler 67 = .ok (.dup, 1) := by decide +kernel
theorem dX1_addHandler_68 : decode cX1_addHandler 68 = .ok (.getfield 55, 3) := by decide +kernel
theorem dX1_addHandler_71 : decode cX1_addHandler 71 = .ok (.iconst 1, 1) := by decide +kernel
theorem dX1_addHandler_72 : decode cX1_addHandler 72 = .ok (.iadd, 1) := by decide +kernel
theorem dX1_addHandler_73 : decode cX1_addHandler 73 = .ok (.putfield 55, 3) := by decide +kernel
theorem dX1_addHandler_76 : decode cX1_addHandler 76 = .ok (.aload_n 0, 1) := by decide +kernel
theorem dX1_addHandler_77 : decode cX1_addHandler 77 = .ok (.iload_n 3, 1) := by decide +kernel
theorem dX1_addHandler_78 : decode cX1_addHandler 78 = .ok (.invokevirtual 104, 3) := by decide +kernel
theorem dX1_addHandler_81 : decode cX1_addHandler 81 = .ok (.aload_n 0, 1) := by decide +kernel
theorem dX1_addHandler_82 : decode cX1_addHandler 82 = .ok (.aload_n 0, 1) := by decide +kernel
theorem dX1_addHandler_83 : decode cX1_addHandler 83 = .ok (.aload_n 0, 1) := by decide +kernel
theorem dX1_addHandler_84 : decode cX1_addHandler 84 = .ok (.getfield 39, 3) := by decide +kernel
theorem dX1_addHandler_87 : decode cX1_addHandler 87 = .ok (.invokevirtual 96, 3) := by decide +kernel
theorem dX1_addHandler_90 : decode cX1_addHandler 90 = .ok (.aload_n 0, 1) := by decide +kernel
theorem dX1_addHandler_91 : decode cX1_addHandler 91 = .ok (.getfield 49, 3) := by decide +kernel
theorem dX1_addHandler_94 : decode cX1_addHandler 94 = .ok (.aload_n 0, 1) := by decide +kernel
theorem dX1_addHandler_95 : decode cX1_addHandler 95 = .ok (.getfield 43, 3) := by decide +kernel
theorem dX1_addHandler_98 : decode cX1_addHandler 98 = .ok (.invokevirtual 100, 3) := by decide +kernel
theorem dX1_addHandler_101 : decode cX1_addHandler 101 = .ok (.return_, 1) := by decide +kernel
theorem dX1_fillFrame_0 : decode cX1_fillFrame 0 = .ok (.iload_n 1, 1) := by decide +kernel
theorem dX1_fillFrame_1 : decode cX1_fillFrame 1 = .ok (.bipush 52, 2) := by decide +kernel
theorem dX1_fillFrame_3 : decode cX1_fillFrame 3 = .ok (.imul, 1) := by decide +kernel
theorem dX1_fillFrame_4 : decode cX1_fillFrame 4 = .ok (.istore 4, 2) := by decide +kernel
theorem dX1_fillFrame_6 : decode cX1_fillFrame 6 = .ok (.iload_n 1, 1) := by decide +kernel
theorem dX1_fillFrame_7 : decode cX1_fillFrame 7 = .ok (.iconst (-1), 1) := by decide +kernel
theorem dX1_fillFrame_8 : decode cX1_fillFrame 8 = .ok (.if_icmp .eq 15, 3) := by decide +kernel
theorem dX1_fillFrame_11 : decode cX1_fillFrame 11 = .ok (.iload_n 2, 1) := by decide +kernel
theorem dX1_fillFrame_12 : decode cX1_fillFrame 12 = .ok (.bipush 30, 2) := by decide +kernel
theorem dX1_fillFrame_14 : decode cX1_fillFrame 14 = .ok (.if_icmp .gt 9, 3) := by decide +kernel
theorem dX1_fillFrame_17 : decode cX1_fillFrame 17 = .ok (.iload_n 3, 1) := by decide +kernel
theorem dX1_fillFrame_18 : decode cX1_fillFrame 18 = .ok (.bipush 20, 2) := by decide +kernel
theorem dX1_fillFrame_20 : decode cX1_fillFrame 20 = .ok (.if_icmp .le 9, 3) := by decide +kernel
theorem dX1_fillFrame_23 : decode cX1_fillFrame 23 = .ok (.aload_n 0, 1) := by decide +kernel
theorem dX1_fillFrame_24 : decode cX1_fillFrame 24 = .ok (.iconst 1, 1) := by decide +kernel
theorem dX1_fillFrame_25 : decode cX1_fillFrame 25 = .ok (.putfield 61, 3) := by decide +kernel
theorem dX1_fillFrame_28 : decode cX1_fillFrame 28 = .ok (.return_, 1) := by decide +kernel
theorem dX1_fillFrame_29 : decode cX1_fillFrame 29 = .ok (.aload_n 0, 1) := by decide +kernel
theorem dX1_fillFrame_30 : decode cX1_fillFrame 30 = .ok (.getfield 33, 3) := by decide +kernel
theorem dX1_fillFrame_33 : decode cX1_fillFrame 33 = .ok (.iload 4, 2) := by decide +kernel
theorem dX1_fillFrame_35 : decode cX1_fillFrame 35 = .ok (.iload_n 2, 1) := by decide +kernel
theorem dX1_fillFrame_36 : decode cX1_fillFrame 36 = .ok (.iastore, 1) := by decide +kernel
theorem dX1_fillFrame_37 : decode cX1_fillFrame 37 = .ok (.aload_n 0, 1) := by decide +kernel
theorem dX1_fillFrame_38 : decode cX1_fillFrame 38 = .ok (.getfield 33, 3) := by decide +kernel
theorem dX1_fillFrame_41 : decode cX1_fillFrame 41 = .ok (.iload 4, 2) := by decide +kernel
theorem dX1_fillFrame_43 : decode cX1_fillFrame 43 = .ok (.iconst 1, 1) := by decide +kernel
theorem dX1_fillFrame_44 : decode cX1_fillFrame 44 = .ok (.iadd, 1) := by decide +kernel
theorem dX1_fillFrame_45 : decode cX1_fillFrame 45 = .ok (.iload_n 3, 1) := by decide +kernel
theorem dX1_fillFrame_46 : decode cX1_fillFrame 46 = .ok (.iastore, 1) := by decide +kernel
theorem dX1_fillFrame_47 : decode cX1_fillFrame 47 = .ok (.aload_n 0, 1) := by decide +kernel
theorem dX1_fillFrame_48 : decode cX1_fillFrame 48 = .ok (.getfield 24, 3) := by decide +kernel
theorem dX1_fillFrame_51 : decode cX1_fillFrame 51 = .ok (.iconst 0, 1) := by decide +kernel
theorem dX1_fillFrame_52 : decode cX1_fillFrame 52 = .ok (.aload_n 0, 1) := by decide +kernel
theorem dX1_fillFrame_53 : decode cX1_fillFrame 53 = .ok (.getfield 33, 3) := by decide +kernel
theorem dX1_fillFrame_56 : decode cX1_fillFrame 56 = .ok (.iload 4, 2) := by decide +kernel
theorem dX1_fillFrame_58 : decode cX1_fillFrame 58 = .ok (.iconst 2, 1) := by decide +kernel
theorem dX1_fillFrame_59 : decode cX1_fillFrame 59 = .ok (.iadd, 1) := by decide +kernel
theorem dX1_fillFrame_60 : decode cX1_fillFrame 60 = .ok (.iload_n 2, 1) := by decide +kernel
theorem dX1_fillFrame_61 : decode cX1_fillFrame 61 = .ok (.invokestatic 110, 3) := by decide +kernel
theorem dX1_fillFrame_64 : decode cX1_fillFrame 64 = .ok (.aload_n 0, 1) := by decide +kernel
theorem dX1_fillFrame_65 : decode cX1_fillFrame 65 = .ok (.getfield 17, 3) := by decide +kernel
theorem dX1_fillFrame_68 : decode cX1_fillFrame 68 = .ok (.iconst 0, 1) := by decide +kernel
theorem dX1_fillFrame_69 : decode cX1_fillFrame 69 = .ok (.aload_n 0, 1) := by decide +kernel
theorem dX1_fillFrame_70 : decode cX1_fillFrame 70 = .ok (.getfield 33, 3) := by decide +kernel
theorem dX1_fillFrame_73 : decode cX1_fillFrame 73 = .ok (.iload 4, 2) := by decide +kernel
theorem dX1_fillFrame_75 : decode cX1_fillFrame 75 = .ok (.iconst 2, 1) := by decide +kernel
theorem dX1_fillFrame_76 : decode cX1_fillFrame 76 = .ok (.iadd, 1) := by decide +kernel
theorem dX1_fillFrame_77 : decode cX1_fillFrame 77 = .ok (.iload_n 2, 1) := by decide +kernel
theorem dX1_fillFrame_78 : decode cX1_fillFrame 78 = .ok (.iadd, 1) := by decide +kernel
theorem dX1_fillFrame_79 : decode cX1_fillFrame 79 = .ok (.iload_n 3, 1) := by decide +kernel
theorem dX1_fillFrame_80 : decode cX1_fillFrame 80 = .ok (.invokestatic 110, 3) := by decide +kernel
theorem dX1_fillFrame_83 : decode cX1_fillFrame 83 = .ok (.return_, 1) := by decide +kernel
theorem dX1_slotOfFrame_0 : decode cX1_slotOfFrame 0 = .ok (.aload_n 0, 1) := by decide +kernel
theorem dX1_slotOfFrame_1 : decode cX1_slotOfFrame 1 = .ok (.getfield 58, 3) := by decide +kernel
theorem dX1_slotOfFrame_4 : decode cX1_slotOfFrame 4 = .ok (.istore_n 2, 1) := by decide +kernel
theorem dX1_slotOfFrame_5 : decode cX1_slotOfFrame 5 = .ok (.iload_n 2, 1) := by decide +kernel
theorem dX1_slotOfFrame_6 : decode cX1_slotOfFrame 6 = .ok (.ifCond .le 26, 3) := by decide +kernel
theorem dX1_slotOfFrame_9 : decode cX1_slotOfFrame 9 = .ok (.aload_n 0, 1) := by decide +kernel
theorem dX1_slotOfFrame_10 : decode cX1_slotOfFrame 10 = .ok (.getfield 30, 3) := by decide +kernel
theorem dX1_slotOfFrame_13 : decode cX1_slotOfFrame 13 = .ok (.aload_n 0, 1) := by decide +kernel
theorem dX1_slotOfFrame_14 : decode cX1_slotOfFrame 14 = .ok (.getfield 36, 3) := by decide +kernel
theorem dX1_slotOfFrame_17 : decode cX1_slotOfFrame 17 = .ok (.iload_n 2, 1) := by decide +kernel
theorem dX1_slotOfFrame_18 : decode cX1_slotOfFrame 18 = .ok (.iconst 1, 1) := by decide +kernel
theorem dX1_slotOfFrame_19 : decode cX1_slotOfFrame 19 = .ok (.isub, 1) := by decide +kernel
theorem dX1_slotOfFrame_20 : decode cX1_slotOfFrame 20 = .ok (.iaload, 1) := by decide +kernel
theorem dX1_slotOfFrame_21 : decode cX1_slotOfFrame 21 = .ok (.iaload, 1) := by decide +kernel
theorem dX1_slotOfFrame_22 : decode cX1_slotOfFrame 22 = .ok (.iload_n 1, 1) := by decide +kernel
theorem dX1_slotOfFrame_23 : decode cX1_slotOfFrame 23 = .ok (.if_icmp .le 9, 3) := by decide +kernel
theorem dX1_slotOfFrame_26 : decode cX1_slotOfFrame 26 = .ok (.iinc 2 (-1), 3) := by decide +kernel
theorem dX1_slotOfFrame_29 : decode cX1_slotOfFrame 29 = .ok (.goto (-24), 3) := by decide +kernel
theorem dX1_slotOfFrame_32 : decode cX1_slotOfFrame 32 = .ok (.iload_n 2, 1) := by decide +kernel
theorem dX1_slotOfFrame_33 : decode cX1_slotOfFrame 33 = .ok (.ifCond .le 29, 3) := by decide +kernel
theorem dX1_slotOfFrame_36 : decode cX1_slotOfFrame 36 = .ok (.aload_n 0, 1) := by decide +kernel
theorem dX1_slotOfFrame_37 : decode cX1_slotOfFrame 37 = .ok (.getfield 30, 3) := by decide +kernel
theorem dX1_slotOfFrame_40 : decode cX1_slotOfFrame 40 = .ok (.aload_n 0, 1) := by decide +kernel
theorem dX1_slotOfFrame_41 : decode cX1_slotOfFrame 41 = .ok (.getfield 36, 3) := by decide +kernel
theorem dX1_slotOfFrame_44 : decode cX1_slotOfFrame 44 = .ok (.iload_n 2, 1) := by decide +kernel
theorem dX1_slotOfFrame_45 : decode cX1_slotOfFrame 45 = .ok (.iconst 1, 1) := by decide +kernel
theorem dX1_slotOfFrame_46 : decode cX1_slotOfFrame 46 = .ok (.isub, 1) := by decide +kernel
theorem dX1_slotOfFrame_47 : decode cX1_slotOfFrame 47 = .ok (.iaload, 1) := by decide +kernel
theorem dX1_slotOfFrame_48 : decode cX1_slotOfFrame 48 = .ok (.iaload, 1) := by decide +kernel
theorem dX1_slotOfFrame_49 : decode cX1_slotOfFrame 49 = .ok (.iload_n 1, 1) := by decide +kernel
theorem dX1_slotOfFrame_50 : decode cX1_slotOfFrame 50 = .ok (.if_icmp .ne 12, 3) := by decide +kernel
theorem dX1_slotOfFrame_53 : decode cX1_slotOfFrame 53 = .ok (.aload_n 0, 1) := by decide +kernel
theorem dX1_slotOfFrame_54 : decode cX1_slotOfFrame 54 = .ok (.getfield 36, 3) := by decide +kernel
theorem dX1_slotOfFrame_57 : decode cX1_slotOfFrame 57 = .ok (.iload_n 2, 1) := by decide +kernel
theorem dX1_slotOfFrame_58 : decode cX1_slotOfFrame 58 = .ok (.iconst 1, 1) := by decide +kernel
theorem dX1_slotOfFrame_59 : decode cX1_slotOfFrame 59 = .ok (.isub, 1) := by decide +kernel
theorem dX1_slotOfFrame_60 : decode cX1_slotOfFrame 60 = .ok (.iaload, 1) := by decide +kernel
theorem dX1_slotOfFrame_61 : decode cX1_slotOfFrame 61 = .ok (.ireturn, 1) := by decide +kernel
theorem dX1_slotOfFrame_62 : decode cX1_slotOfFrame 62 = .ok (.aload_n 0, 1) := by decide +kernel
theorem dX1_slotOfFrame_63 : decode cX1_slotOfFrame 63 = .ok (.getfield 58, 3) := by decide +kernel
theorem dX1_slotOfFrame_66 : decode cX1_slotOfFrame 66 = .ok (.bipush 100, 2) := by decide +kernel
theorem dX1_slotOfFrame_68 : decode cX1_slotOfFrame 68 = .ok (.if_icmp .lt 5, 3) := by decide +kernel
theorem dX1_slotOfFrame_71 : decode cX1_slotOfFrame 71 = .ok (.iconst (-1), 1) := by decide +kernel
theorem dX1_slotOfFrame_72 : decode cX1_slotOfFrame 72 = .ok (.ireturn, 1) := by decide +kernel
theorem dX1_slotOfFrame_73 : decode cX1_slotOfFrame 73 = .ok (.aload_n 0, 1) := by decide +kernel
theorem dX1_slotOfFrame_74 : decode cX1_slotOfFrame 74 = .ok (.getfield 36, 3) := by decide +kernel
theorem dX1_slotOfFrame_77 : decode cX1_slotOfFrame 77 = .ok (.iload_n 2, 1) := by decide +kernel
theorem dX1_slotOfFrame_78 : decode cX1_slotOfFrame 78 = .ok (.aload_n 0, 1) := by decide +kernel
theorem dX1_slotOfFrame_79 : decode cX1_slotOfFrame 79 = .ok (.getfield 36, 3) := by decide +kernel
theorem dX1_slotOfFrame_82 : decode cX1_slotOfFrame 82 = .ok (.iload_n 2, 1) := by decide +kernel
theorem dX1_slotOfFrame_83 : decode cX1_slotOfFrame 83 = .ok (.iconst 1, 1) := by decide +kernel
theorem dX1_slotOfFrame_84 : decode cX1_slotOfFrame 84 = .ok (.iadd, 1) := by decide +kernel
theorem dX1_slotOfFrame_85 : decode cX1_slotOfFrame 85 = .ok (.aload_n 0, 1) := by decide +kernel
theorem dX1_slotOfFrame_86 : decode cX1_slotOfFrame 86 = .ok (.getfield 58, 3) := by decide +kernel
theorem dX1_slotOfFrame_89 : decode cX1_slotOfFrame 89 = .ok (.iload_n 2, 1) := by decide +kernel
theorem dX1_slotOfFrame_90 : decode cX1_slotOfFrame 90 = .ok (.isub, 1) := by decide +kernel
theorem dX1_slotOfFrame_91 : decode cX1_slotOfFrame 91 = .ok (.invokestatic 110, 3) := by decide +kernel
theorem dX1_slotOfFrame_94 : decode cX1_slotOfFrame 94 = .ok (.aload_n 0, 1) := by decide +kernel
theorem dX1_slotOfFrame_95 : decode cX1_slotOfFrame 95 = .ok (.getfield 36, 3) := by decide +kernel
theorem dX1_slotOfFrame_98 : decode cX1_slotOfFrame 98 = .ok (.iload_n 2, 1) := by decide +kernel
theorem dX1_slotOfFrame_99 : decode cX1_slotOfFrame 99 = .ok (.aload_n 0, 1) := by decide +kernel
theorem dX1_slotOfFrame_100 : decode cX1_slotOfFrame 100 = .ok (.getfield 58, 3) := by decide +kernel
theorem dX1_slotOfFrame_103 : decode cX1_slotOfFrame 103 = .ok (.iastore, 1) := by decide +kernel
theorem dX1_slotOfFrame_104 : decode cX1_slotOfFrame 104 = .ok (.aload_n 0, 1) := by decide +kernel
theorem dX1_slotOfFrame_105 : decode cX1_slotOfFrame 105 = .ok (.getfield 30, 3) := by decide +kernel
theorem dX1_slotOfFrame_108 : decode cX1_slotOfFrame 108 = .ok (.aload_n 0, 1) := by decide +kernel
theorem dX1_slotOfFrame_109 : decode cX1_slotOfFrame 109 = .ok (.getfield 58, 3) := by decide +kernel
theorem dX1_slotOfFrame_112 : decode cX1_slotOfFrame 112 = .ok (.iload_n 1, 1) := by decide +kernel
theorem dX1_slotOfFrame_113 : decode cX1_slotOfFrame 113 = .ok (.iastore, 1) := by decide +kernel
theorem dX1_slotOfFrame_114 : decode cX1_slotOfFrame 114 = .ok (.aload_n 0, 1) := by decide +kernel
theorem dX1_slotOfFrame_115 : decode cX1_slotOfFrame 115 = .ok (.dup, 1) := by decide +kernel
theorem dX1_slotOfFrame_116 : decode cX1_slotOfFrame 116 = .ok (.getfield 58, 3) := by decide +kernel
theorem dX1_slotOfFrame_119 : decode cX1_slotOfFrame 119 = .ok (.iconst 1, 1) := by decide +kernel
theorem dX1_slotOfFrame_120 : decode cX1_slotOfFrame 120 = .ok (.iadd, 1) := by decide +kernel
theorem dX1_slotOfFrame_121 : decode cX1_slotOfFrame 121 = .ok (.putfield 58, 3) := by decide +kernel
theorem dX1_slotOfFrame_124 : decode cX1_slotOfFrame 124 = .ok (.aload_n 0, 1) := by decide +kernel
theorem dX1_slotOfFrame_125 : decode cX1_slotOfFrame 125 = .ok (.getfield 36, 3) := by decide +kernel
theorem dX1_slotOfFrame_128 : decode cX1_slotOfFrame 128 = .ok (.iload_n 2, 1) := by decide +kernel
theorem dX1_slotOfFrame_129 : decode cX1_slotOfFrame 129 = .ok (.iaload, 1) := by decide +kernel
theorem dX1_slotOfFrame_130 : decode cX1_slotOfFrame 130 = .ok (.ireturn, 1) := by decide +kernel
theorem dX1_writeTo_0 : decode cX1_writeTo 0 = .ok (.aload_n 1, 1) := by decide +kernel
theorem dX1_writeTo_1 : decode cX1_writeTo 1 = .ok (.aload_n 0, 1) := by decide +kernel
theorem dX1_writeTo_2 : decode cX1_writeTo 2 = .ok (.getfield 46, 3) := by decide +kernel
theorem dX1_writeTo_5 : decode cX1_writeTo 5 = .ok (.invokevirtual 116, 3) := by decide +kernel
theorem dX1_writeTo_8 : decode cX1_writeTo 8 = .ok (.aload_n 1, 1) := by decide +kernel
theorem dX1_writeTo_9 : decode cX1_writeTo 9 = .ok (.aload_n 0, 1) := by decide +kernel
theorem dX1_writeTo_10 : decode cX1_writeTo 10 = .ok (.getfield 52, 3) := by decide +kernel
theorem dX1_writeTo_13 : decode cX1_writeTo 13 = .ok (.invokevirtual 116, 3) := by decide +kernel
theorem dX1_writeTo_16 : decode cX1_writeTo 16 = .ok (.aload_n 1, 1) := by decide +kernel
theorem dX1_writeTo_17 : decode cX1_writeTo 17 = .ok (.aload_n 0, 1) := by decide +kernel
theorem dX1_writeTo_18 : decode cX1_writeTo 18 = .ok (.getfield 39, 3) := by decide +kernel
theorem dX1_writeTo_21 : decode cX1_writeTo 21 = .ok (.invokevirtual 121, 3) := by decide +kernel
theorem dX1_writeTo_24 : decode cX1_writeTo 24 = .ok (.iconst 0, 1) := by decide +kernel
theorem dX1_writeTo_25 : decode cX1_writeTo 25 = .ok (.istore_n 2, 1) := by decide +kernel
theorem dX1_writeTo_26 : decode cX1_writeTo 26 = .ok (.iload_n 2, 1) := by decide +kernel
theorem dX1_writeTo_27 : decode cX1_writeTo 27 = .ok (.aload_n 0, 1) := by decide +kernel
theorem dX1_writeTo_28 : decode cX1_writeTo 28 = .ok (.getfield 39, 3) := by decide +kernel
theorem dX1_writeTo_31 : decode cX1_writeTo 31 = .ok (.if_icmp .ge 28, 3) := by decide +kernel
theorem dX1_writeTo_34 : decode cX1_writeTo 34 = .ok (.iload_n 2, 1) := by decide +kernel
theorem dX1_writeTo_35 : decode cX1_writeTo 35 = .ok (.aload_n 0, 1) := by decide +kernel
theorem dX1_writeTo_36 : decode cX1_writeTo 36 = .ok (.getfield 13, 3) := by decide +kernel
theorem dX1_writeTo_39 : decode cX1_writeTo 39 = .ok (.arraylength, 1) := by decide +kernel
theorem dX1_writeTo_40 : decode cX1_writeTo 40 = .ok (.if_icmp .ge 19, 3) := by decide +kernel
theorem dX1_writeTo_43 : decode cX1_writeTo 43 = .ok (.aload_n 1, 1) := by decide +kernel
theorem dX1_writeTo_44 : decode cX1_writeTo 44 = .ok (.aload_n 0, 1) := by decide +kernel
theorem dX1_writeTo_45 : decode cX1_writeTo 45 = .ok (.getfield 13, 3) := by decide +kernel
theorem dX1_writeTo_48 : decode cX1_writeTo 48 = .ok (.iload_n 2, 1) := by decide +kernel
theorem dX1_writeTo_49 : decode cX1_writeTo 49 = .ok (.baload, 1) := by decide +kernel
theorem dX1_writeTo_50 : decode cX1_writeTo 50 = .ok (.invokevirtual 116, 3) := by decide +kernel
theorem dX1_writeTo_53 : decode cX1_writeTo 53 = .ok (.iinc 2 1, 3) := by decide +kernel
theorem dX1_writeTo_56 : decode cX1_writeTo 56 = .ok (.goto (-30), 3) := by decide +kernel
theorem dX1_writeTo_59 : decode cX1_writeTo 59 = .ok (.aload_n 1, 1) := by decide +kernel
theorem dX1_writeTo_60 : decode cX1_writeTo 60 = .ok (.aload_n 0, 1) := by decide +kernel
theorem dX1_writeTo_61 : decode cX1_writeTo 61 = .ok (.getfield 55, 3) := by decide +kernel
theorem dX1_writeTo_64 : decode cX1_writeTo 64 = .ok (.invokevirtual 116, 3) := by decide +kernel
theorem dX1_writeTo_67 : decode cX1_writeTo 67 = .ok (.iconst 0, 1) := by decide +kernel
theorem dX1_writeTo_68 : decode cX1_writeTo 68 = .ok (.istore_n 2, 1) := by decide +kernel
theorem dX1_writeTo_69 : decode cX1_writeTo 69 = .ok (.iload_n 2, 1) := by decide +kernel
theorem dX1_writeTo_70 : decode cX1_writeTo 70 = .ok (.aload_n 0, 1) := by decide +kernel
theorem dX1_writeTo_71 : decode cX1_writeTo 71 = .ok (.getfield 55, 3) := by decide +kernel
theorem dX1_writeTo_74 : decode cX1_writeTo 74 = .ok (.if_icmp .ge 63, 3) := by decide +kernel
theorem dX1_writeTo_77 : decode cX1_writeTo 77 = .ok (.iload_n 2, 1) := by decide +kernel
theorem dX1_writeTo_78 : decode cX1_writeTo 78 = .ok (.iconst 4, 1) := by decide +kernel
theorem dX1_writeTo_79 : decode cX1_writeTo 79 = .ok (.imul, 1) := by decide +kernel
theorem dX1_writeTo_80 : decode cX1_writeTo 80 = .ok (.istore_n 3, 1) := by decide +kernel
theorem dX1_writeTo_81 : decode cX1_writeTo 81 = .ok (.aload_n 1, 1) := by decide +kernel
theorem dX1_writeTo_82 : decode cX1_writeTo 82 = .ok (.aload_n 0, 1) := by decide +kernel
theorem dX1_writeTo_83 : decode cX1_writeTo 83 = .ok (.getfield 27, 3) := by decide +kernel
theorem dX1_writeTo_86 : decode cX1_writeTo 86 = .ok (.iload_n 3, 1) := by decide +kernel
theorem dX1_writeTo_87 : decode cX1_writeTo 87 = .ok (.iaload, 1) := by decide +kernel
theorem dX1_writeTo_88 : decode cX1_writeTo 88 = .ok (.invokevirtual 121, 3) := by decide +kernel
theorem dX1_writeTo_91 : decode cX1_writeTo 91 = .ok (.aload_n 1, 1) := by decide +kernel
theorem dX1_writeTo_92 : decode cX1_writeTo 92 = .ok (.aload_n 0, 1) := by decide +kernel
theorem dX1_writeTo_93 : decode cX1_writeTo 93 = .ok (.getfield 27, 3) := by decide +kernel
theorem dX1_writeTo_96 : decode cX1_writeTo 96 = .ok (.iload_n 3, 1) := by decide +kernel
theorem dX1_writeTo_97 : decode cX1_writeTo 97 = .ok (.iconst 1, 1) := by decide +kernel
theorem dX1_writeTo_98 : decode cX1_writeTo 98 = .ok (.iadd, 1) := by decide +kernel
theorem dX1_writeTo_99 : decode cX1_writeTo 99 = .ok (.iaload, 1) := by decide +kernel
theorem dX1_writeTo_100 : decode cX1_writeTo 100 = .ok (.invokevirtual 121, 3) := by decide +kernel
theorem dX1_writeTo_103 : decode cX1_writeTo 103 = .ok (.aload_n 1, 1) := by decide +kernel
theorem dX1_writeTo_104 : decode cX1_writeTo 104 = .ok (.aload_n 0, 1) := by decide +kernel
theorem dX1_writeTo_105 : decode cX1_writeTo 105 = .ok (.getfield 27, 3) := by decide +kernel
theorem dX1_writeTo_108 : decode cX1_writeTo 108 = .ok (.iload_n 3, 1) := by decide +kernel
theorem dX1_writeTo_109 : decode cX1_writeTo 109 = .ok (.iconst 2, 1) := by decide +kernel
theorem dX1_writeTo_110 : decode cX1_writeTo 110 = .ok (.iadd, 1) := by decide +kernel
theorem dX1_writeTo_111 : decode cX1_writeTo 111 = .ok (.iaload, 1) := by decide +kernel
theorem dX1_writeTo_112 : decode cX1_writeTo 112 = .ok (.invokevirtual 121, 3) := by decide +kernel
theorem dX1_writeTo_115 : decode cX1_writeTo 115 = .ok (.aload_n 1, 1) := by decide +kernel
theorem dX1_writeTo_116 : decode cX1_writeTo 116 = .ok (.aload_n 1, 1) := by decide +kernel
theorem dX1_writeTo_117 : decode cX1_writeTo 117 = .ok (.aload_n 0, 1) := by decide +kernel
theorem dX1_writeTo_118 : decode cX1_writeTo 118 = .ok (.getfield 27, 3) := by decide +kernel
theorem dX1_writeTo_121 : decode cX1_writeTo 121 = .ok (.iload_n 3, 1) := by decide +kernel
theorem dX1_writeTo_122 : decode cX1_writeTo 122 = .ok (.iconst 3, 1) := by decide +kernel
theorem dX1_writeTo_123 : decode cX1_writeTo 123 = .ok (.iadd, 1) := by decide +kernel
theorem dX1_writeTo_124 : decode cX1_writeTo 124 = .ok (.iaload, 1) := by decide +kernel
theorem dX1_writeTo_125 : decode cX1_writeTo 125 = .ok (.invokevirtual 124, 3) := by decide +kernel
theorem dX1_writeTo_128 : decode cX1_writeTo 128 = .ok (.invokevirtual 116, 3) := by decide +kernel
theorem dX1_writeTo_131 : decode cX1_writeTo 131 = .ok (.iinc 2 1, 3) := by decide +kernel
theorem dX1_writeTo_134 : decode cX1_writeTo 134 = .ok (.goto (-65), 3) := by decide +kernel
theorem dX1_writeTo_137 : decode cX1_writeTo 137 = .ok (.aload_n 1, 1) := by decide +kernel
theorem dX1_writeTo_138 : decode cX1_writeTo 138 = .ok (.aload_n 0, 1) := by decide +kernel
theorem dX1_writeTo_139 : decode cX1_writeTo 139 = .ok (.getfield 58, 3) := by decide +kernel
theorem dX1_writeTo_142 : decode cX1_writeTo 142 = .ok (.invokevirtual 116, 3) := by decide +kernel
theorem dX1_writeTo_145 : decode cX1_writeTo 145 = .ok (.iconst 0, 1) := by decide +kernel
theorem dX1_writeTo_146 : decode cX1_writeTo 146 = .ok (.istore_n 2, 1) := by decide +kernel
theorem dX1_writeTo_147 : decode cX1_writeTo 147 = .ok (.iload_n 2, 1) := by decide +kernel
theorem dX1_writeTo_148 : decode cX1_writeTo 148 = .ok (.aload_n 0, 1) := by decide +kernel
theorem dX1_writeTo_149 : decode cX1_writeTo 149 = .ok (.getfield 58, 3) := by decide +kernel
theorem dX1_writeTo_152 : decode cX1_writeTo 152 = .ok (.if_icmp .ge 20, 3) := by decide +kernel
theorem dX1_writeTo_155 : decode cX1_writeTo 155 = .ok (.aload_n 0, 1) := by decide +kernel
theorem dX1_writeTo_156 : decode cX1_writeTo 156 = .ok (.aload_n 1, 1) := by decide +kernel
theorem dX1_writeTo_157 : decode cX1_writeTo 157 = .ok (.aload_n 0, 1) := by decide +kernel
theorem dX1_writeTo_158 : decode cX1_writeTo 158 = .ok (.getfield 36, 3) := by decide +kernel
theorem dX1_writeTo_161 : decode cX1_writeTo 161 = .ok (.iload_n 2, 1) := by decide +kernel
theorem dX1_writeTo_162 : decode cX1_writeTo 162 = .ok (.iaload, 1) := by decide +kernel
theorem dX1_writeTo_163 : decode cX1_writeTo 163 = .ok (.invokevirtual 127, 3) := by decide +kernel
theorem dX1_writeTo_166 : decode cX1_writeTo 166 = .ok (.iinc 2 1, 3) := by decide +kernel
theorem dX1_writeTo_169 : decode cX1_writeTo 169 = .ok (.goto (-22), 3) := by decide +kernel
theorem dX1_writeTo_172 : decode cX1_writeTo 172 = .ok (.return_, 1) := by decide +kernel
theorem dX2_forget_0 : decode cX2_forget 0 = .ok (.aload_n 0, 1) := by decide +kernel
theorem dX2_forget_1 : decode cX2_forget 1 = .ok (.iconst 0, 1) := by decide +kernel
theorem dX2_forget_2 : decode cX2_forget 2 = .ok (.putfield 78, 3) := by decide +kernel
theorem dX2_forget_5 : decode cX2_forget 5 = .ok (.aload_n 0, 1) := by decide +kernel
theorem dX2_forget_6 : decode cX2_forget 6 = .ok (.getfield 27, 3) := by decide +kernel
theorem dX2_forget_9 : decode cX2_forget 9 = .ok (.iconst 0, 1) := by decide +kernel
theorem dX2_forget_10 : decode cX2_forget 10 = .ok (.invokestatic 82, 3) := by decide +kernel
theorem dX2_forget_13 : decode cX2_forget 13 = .ok (.aload_n 0, 1) := by decide +kernel
theorem dX2_forget_14 : decode cX2_forget 14 = .ok (.getfield 39, 3) := by decide +kernel
theorem dX2_forget_17 : decode cX2_forget 17 = .ok (.iconst 0, 1) := by decide +kernel
theorem dX2_forget_18 : decode cX2_forget 18 = .ok (.invokestatic 82, 3) := by decide +kernel
theorem dX2_forget_21 : decode cX2_forget 21 = .ok (.aload_n 0, 1) := by decide +kernel
theorem dX2_forget_22 : decode cX2_forget 22 = .ok (.getfield 14, 3) := by decide +kernel
theorem dX2_forget_25 : decode cX2_forget 25 = .ok (.invokevirtual 88, 3) := by decide +kernel
theorem dX2_forget_28 : decode cX2_forget 28 = .ok (.return_, 1) := by decide +kernel
theorem dX2_readClasses_0 : decode cX2_readClasses 0 = .ok (.aload_n 0, 1) := by decide +kernel
theorem dX2_readClasses_1 : decode cX2_readClasses 1 = .ok (.getfield 74, 3) := by decide +kernel
theorem dX2_readClasses_4 : decode cX2_readClasses 4 = .ok (.getfield 91, 3) := by decide +kernel
theorem dX2_readClasses_7 : decode cX2_readClasses 7 = .ok (.ifCond .eq 4, 3) := by decide +kernel
theorem dX2_readClasses_10 : decode cX2_readClasses 10 = .ok (.return_, 1) := by decide +kernel
theorem dX2_readClasses_11 : decode cX2_readClasses 11 = .ok (.aload_n 0, 1) := by decide +kernel
theorem dX2_readClasses_12 : decode cX2_readClasses 12 = .ok (.invokevirtual 94, 3) := by decide +kernel
theorem dX2_readClasses_15 : decode cX2_readClasses 15 = .ok (.iconst 0, 1) := by decide +kernel
theorem dX2_readClasses_16 : decode cX2_readClasses 16 = .ok (.istore_n 1, 1) := by decide +kernel
theorem dX2_readClasses_17 : decode cX2_readClasses 17 = .ok (.iload_n 1, 1) := by decide +kernel
theorem dX2_readClasses_18 : decode cX2_readClasses 18 = .ok (.aload_n 0, 1) := by decide +kernel
theorem dX2_readClasses_19 : decode cX2_readClasses 19 = .ok (.getfield 78, 3) := by decide +kernel
theorem dX2_readClasses_22 : decode cX2_readClasses 22 = .ok (.if_icmp .ge 24, 3) := by decide +kernel
theorem dX2_readClasses_25 : decode cX2_readClasses 25 = .ok (.aload_n 0, 1) := by decide +kernel
theorem dX2_readClasses_26 : decode cX2_readClasses 26 = .ok (.getfield 74, 3) := by decide +kernel
theorem dX2_readClasses_29 : decode cX2_readClasses 29 = .ok (.getfield 91, 3) := by decide +kernel
theorem dX2_readClasses_32 : decode cX2_readClasses 32 = .ok (.ifCond .ne 14, 3) := by decide +kernel
theorem dX2_readClasses_35 : decode cX2_readClasses 35 = .ok (.aload_n 0, 1) := by decide +kernel
theorem dX2_readClasses_36 : decode cX2_readClasses 36 = .ok (.iload_n 1, 1) := by decide +kernel
theorem dX2_readClasses_37 : decode cX2_readClasses 37 = .ok (.invokevirtual 97, 3) := by decide +kernel
theorem dX2_readClasses_40 : decode cX2_readClasses 40 = .ok (.iinc 1 1, 3) := by decide +kernel
theorem dX2_readClasses_43 : decode cX2_readClasses 43 = .ok (.goto (-26), 3) := by decide +kernel
theorem dX2_readClasses_46 : decode cX2_readClasses 46 = .ok (.iconst 0, 1) := by decide +kernel
theorem dX2_readClasses_47 : decode cX2_readClasses 47 = .ok (.istore_n 1, 1) := by decide +kernel
theorem dX2_readClasses_48 : decode cX2_readClasses 48 = .ok (.iload_n 1, 1) := by decide +kernel
theorem dX2_readClasses_49 : decode cX2_readClasses 49 = .ok (.aload_n 0, 1) := by decide +kernel
theorem dX2_readClasses_50 : decode cX2_readClasses 50 = .ok (.getfield 78, 3) := by decide +kernel
theorem dX2_readClasses_53 : decode cX2_readClasses 53 = .ok (.if_icmp .ge 35, 3) := by decide +kernel
theorem dX2_readClasses_56 : decode cX2_readClasses 56 = .ok (.aload_n 0, 1) := by decide +kernel
theorem dX2_readClasses_57 : decode cX2_readClasses 57 = .ok (.getfield 74, 3) := by decide +kernel
theorem dX2_readClasses_60 : decode cX2_readClasses 60 = .ok (.getfield 91, 3) := by decide +kernel
theorem dX2_readClasses_63 : decode cX2_readClasses 63 = .ok (.ifCond .ne 25, 3) := by decide +kernel
theorem dX2_readClasses_66 : decode cX2_readClasses 66 = .ok (.aload_n 0, 1) := by decide +kernel
theorem dX2_readClasses_67 : decode cX2_readClasses 67 = .ok (.getfield 14, 3) := by decide +kernel
theorem dX2_readClasses_70 : decode cX2_readClasses 70 = .ok (.bipush 8, 2) := by decide +kernel
theorem dX2_readClasses_72 : decode cX2_readClasses 72 = .ok (.iload_n 1, 1) := by decide +kernel
theorem dX2_readClasses_73 : decode cX2_readClasses 73 = .ok (.iadd, 1) := by decide +kernel
theorem dX2_readClasses_74 : decode cX2_readClasses 74 = .ok (.aload_n 0, 1) := by decide +kernel
theorem dX2_readClasses_75 : decode cX2_readClasses 75 = .ok (.iload_n 1, 1) := by decide +kernel
theorem dX2_readClasses_76 : decode cX2_readClasses 76 = .ok (.invokevirtual 101, 3) := by decide +kernel
theorem dX2_readClasses_79 : decode cX2_readClasses 79 = .ok (.invokevirtual 105, 3) := by decide +kernel
theorem dX2_readClasses_82 : decode cX2_readClasses 82 = .ok (.iinc 1 1, 3) := by decide +kernel
theorem dX2_readClasses_85 : decode cX2_readClasses 85 = .ok (.goto (-37), 3) := by decide +kernel
theorem dX2_readClasses_88 : decode cX2_readClasses 88 = .ok (.aload_n 0, 1) := by decide +kernel
theorem dX2_readClasses_89 : decode cX2_readClasses 89 = .ok (.getfield 14, 3) := by decide +kernel
theorem dX2_readClasses_92 : decode cX2_readClasses 92 = .ok (.invokevirtual 109, 3) := by decide +kernel
theorem dX2_readClasses_95 : decode cX2_readClasses 95 = .ok (.return_, 1) := by decide +kernel
theorem dX2_readMembers_0 : decode cX2_readMembers 0 = .ok (.iconst 0, 1) := by decide +kernel
theorem dX2_readMembers_1 : decode cX2_readMembers 1 = .ok (.istore_n 1, 1) := by decide +kernel
theorem dX2_readMembers_2 : decode cX2_readMembers 2 = .ok (.iload_n 1, 1) := by decide +kernel
theorem dX2_readMembers_3 : decode cX2_readMembers 3 = .ok (.aload_n 0, 1) := by decide +kernel
theorem dX2_readMembers_4 : decode cX2_readMembers 4 = .ok (.getfield 78, 3) := by decide +kernel
theorem dX2_readMembers_7 : decode cX2_readMembers 7 = .ok (.if_icmp .ge 96, 3) := by decide +kernel
theorem dX2_readMembers_10 : decode cX2_readMembers 10 = .ok (.aload_n 0, 1) := by decide +kernel
theorem dX2_readMembers_11 : decode cX2_readMembers 11 = .ok (.getfield 74, 3) := by decide +kernel
theorem dX2_readMembers_14 : decode cX2_readMembers 14 = .ok (.getfield 91, 3) := by decide +kernel
theorem dX2_readMembers_17 : decode cX2_readMembers 17 = .ok (.ifCond .ne 86, 3) := by decide +kernel
theorem dX2_readMembers_20 : decode cX2_readMembers 20 = .ok (.aload_n 0, 1) := by decide +kernel
theorem dX2_readMembers_21 : decode cX2_readMembers 21 = .ok (.iload_n 1, 1) := by decide +kernel
theorem dX2_readMembers_22 : decode cX2_readMembers 22 = .ok (.invokevirtual 112, 3) := by decide +kernel
theorem dX2_readMembers_25 : decode cX2_readMembers 25 = .ok (.istore_n 2, 1) := by decide +kernel
theorem dX2_readMembers_26 : decode cX2_readMembers 26 = .ok (.aload_n 0, 1) := by decide +kernel
theorem dX2_readMembers_27 : decode cX2_readMembers 27 = .ok (.getfield 74, 3) := by decide +kernel
theorem dX2_readMembers_30 : decode cX2_readMembers 30 = .ok (.iload_n 2, 1) := by decide +kernel
theorem dX2_readMembers_31 : decode cX2_readMembers 31 = .ok (.aload_n 0, 1) := by decide +kernel
theorem dX2_readMembers_32 : decode cX2_readMembers 32 = .ok (.getfield 74, 3) := by decide +kernel
theorem dX2_readMembers_35 : decode cX2_readMembers 35 = .ok (.iload_n 2, 1) := by decide +kernel
theorem dX2_readMembers_36 : decode cX2_readMembers 36 = .ok (.iconst 1, 1) := by decide +kernel
theorem dX2_readMembers_37 : decode cX2_readMembers 37 = .ok (.iadd, 1) := by decide +kernel
theorem dX2_readMembers_38 : decode cX2_readMembers 38 = .ok (.invokevirtual 115, 3) := by decide +kernel
theorem dX2_readMembers_41 : decode cX2_readMembers 41 = .ok (.bipush 16, 2) := by decide +kernel
theorem dX2_readMembers_43 : decode cX2_readMembers 43 = .ok (.if_icmp .ne 7, 3) := by decide +kernel
theorem dX2_readMembers_46 : decode cX2_readMembers 46 = .ok (.iconst 4, 1) := by decide +kernel
theorem dX2_readMembers_47 : decode cX2_readMembers 47 = .ok (.goto 4, 3) := by decide +kernel
theorem dX2_readMembers_50 : decode cX2_readMembers 50 = .ok (.iconst 2, 1) := by decide +kernel
theorem dX2_readMembers_51 : decode cX2_readMembers 51 = .ok (.iadd, 1) := by decide +kernel
theorem dX2_readMembers_52 : decode cX2_readMembers 52 = .ok (.putfield 118, 3) := by decide +kernel
theorem dX2_readMembers_55 : decode cX2_readMembers 55 = .ok (.iconst 0, 1) := by decide +kernel
theorem dX2_readMembers_56 : decode cX2_readMembers 56 = .ok (.istore_n 3, 1) := by decide +kernel
theorem dX2_readMembers_57 : decode cX2_readMembers 57 = .ok (.iload_n 3, 1) := by decide +kernel
theorem dX2_readMembers_58 : decode cX2_readMembers 58 = .ok (.sipush 3000, 3) := by decide +kernel
theorem dX2_readMembers_61 : decode cX2_readMembers 61 = .ok (.if_icmp .ge 36, 3) := by decide +kernel
theorem dX2_readMembers_64 : decode cX2_readMembers 64 = .ok (.aload_n 0, 1) := by decide +kernel
theorem dX2_readMembers_65 : decode cX2_readMembers 65 = .ok (.getfield 74, 3) := by decide +kernel
theorem dX2_readMembers_68 : decode cX2_readMembers 68 = .ok (.getfield 91, 3) := by decide +kernel
theorem dX2_readMembers_71 : decode cX2_readMembers 71 = .ok (.ifCond .ne 26, 3) := by decide +kernel
theorem dX2_readMembers_74 : decode cX2_readMembers 74 = .ok (.aload_n 0, 1) := by decide +kernel
theorem dX2_readMembers_75 : decode cX2_readMembers 75 = .ok (.getfield 74, 3) := by decide +kernel
theorem dX2_readMembers_78 : decode cX2_readMembers 78 = .ok (.invokevirtual 121, 3) := by decide +kernel
theorem dX2_readMembers_81 : decode cX2_readMembers 81 = .ok (.bipush 43, 2) := by decide +kernel
theorem dX2_readMembers_83 : decode cX2_readMembers 83 = .ok (.if_icmp .eq 14, 3) := by decide +kernel
theorem dX2_readMembers_86 : decode cX2_readMembers 86 = .ok (.aload_n 0, 1) := by decide +kernel
theorem dX2_readMembers_87 : decode cX2_readMembers 87 = .ok (.iload_n 1, 1) := by decide +kernel
theorem dX2_readMembers_88 : decode cX2_readMembers 88 = .ok (.invokevirtual 125, 3) := by decide +kernel
theorem dX2_readMembers_91 : decode cX2_readMembers 91 = .ok (.iinc 3 1, 3) := by decide +kernel
theorem dX2_readMembers_94 : decode cX2_readMembers 94 = .ok (.goto (-37), 3) := by decide +kernel
theorem dX2_readMembers_97 : decode cX2_readMembers 97 = .ok (.iinc 1 1, 3) := by decide +kernel
theorem dX2_readMembers_100 : decode cX2_readMembers 100 = .ok (.goto (-98), 3) := by decide +kernel
theorem dX2_readMembers_103 : decode cX2_readMembers 103 = .ok (.return_, 1) := by decide +kernel
theorem dX2_checkOverrides_0 : decode cX2_checkOverrides 0 = .ok (.iconst 0, 1) := by decide +kernel
theorem dX2_checkOverrides_1 : decode cX2_checkOverrides 1 = .ok (.istore_n 1, 1) := by decide +kernel
theorem dX2_checkOverrides_2 : decode cX2_checkOverrides 2 = .ok (.iload_n 1, 1) := by decide +kernel
theorem dX2_checkOverrides_3 : decode cX2_checkOverrides 3 = .ok (.aload_n 0, 1) := by decide +kernel
theorem dX2_checkOverrides_4 : decode cX2_checkOverrides 4 = .ok (.getfield 42, 3) := by decide +kernel
theorem dX2_checkOverrides_7 : decode cX2_checkOverrides 7 = .ok (.arraylength, 1) := by decide +kernel
theorem dX2_checkOverrides_8 : decode cX2_checkOverrides 8 = .ok (.if_icmp .ge 32, 3) := by decide +kernel
theorem dX2_checkOverrides_11 : decode cX2_checkOverrides 11 = .ok (.aload_n 0, 1) := by decide +kernel
theorem dX2_checkOverrides_12 : decode cX2_checkOverrides 12 = .ok (.getfield 74, 3) := by decide +kernel
theorem dX2_checkOverrides_15 : decode cX2_checkOverrides 15 = .ok (.getfield 91, 3) := by decide +kernel
theorem dX2_checkOverrides_18 : decode cX2_checkOverrides 18 = .ok (.ifCond .ne 22, 3) := by decide +kernel
theorem dX2_checkOverrides_21 : decode cX2_checkOverrides 21 = .ok (.aload_n 0, 1) := by decide +kernel
theorem dX2_checkOverrides_22 : decode cX2_checkOverrides 22 = .ok (.iload_n 1, 1) := by decide +kernel
theorem dX2_checkOverrides_23 : decode cX2_checkOverrides 23 = .ok (.invokevirtual 128, 3) := by decide +kernel
theorem dX2_checkOverrides_26 : decode cX2_checkOverrides 26 = .ok (.ifCond .eq 8, 3) := by decide +kernel
theorem dX2_checkOverrides_29 : decode cX2_checkOverrides 29 = .ok (.aload_n 0, 1) := by decide +kernel
theorem dX2_checkOverrides_30 : decode cX2_checkOverrides 30 = .ok (.iload_n 1, 1) := by decide +kernel
theorem dX2_checkOverrides_31 : decode cX2_checkOverrides 31 = .ok (.invokevirtual 132, 3) := by decide +kernel
theorem dX2_checkOverrides_34 : decode cX2_checkOverrides 34 = .ok (.iinc 1 1, 3) := by decide +kernel
theorem dX2_checkOverrides_37 : decode cX2_checkOverrides 37 = .ok (.goto (-35), 3) := by decide +kernel
theorem dX2_checkOverrides_40 : decode cX2_checkOverrides 40 = .ok (.return_, 1) := by decide +kernel
theorem dX2_nameKinds_0 : decode cX2_nameKinds 0 = .ok (.iconst 0, 1) := by decide +kernel
theorem dX2_nameKinds_1 : decode cX2_nameKinds 1 = .ok (.istore_n 1, 1) := by decide +kernel
theorem dX2_nameKinds_2 : decode cX2_nameKinds 2 = .ok (.iload_n 1, 1) := by decide +kernel
theorem dX2_nameKinds_3 : decode cX2_nameKinds 3 = .ok (.bipush 8, 2) := by decide +kernel
theorem dX2_nameKinds_5 : decode cX2_nameKinds 5 = .ok (.aload_n 0, 1) := by decide +kernel
theorem dX2_nameKinds_6 : decode cX2_nameKinds 6 = .ok (.getfield 78, 3) := by decide +kernel
theorem dX2_nameKinds_9 : decode cX2_nameKinds 9 = .ok (.iadd, 1) := by decide +kernel
theorem dX2_nameKinds_10 : decode cX2_nameKinds 10 = .ok (.if_icmp .ge 73, 3) := by decide +kernel
theorem dX2_nameKinds_13 : decode cX2_nameKinds 13 = .ok (.iload_n 1, 1) := by decide +kernel
theorem dX2_nameKinds_14 : decode cX2_nameKinds 14 = .ok (.bipush 16, 2) := by decide +kernel
theorem dX2_nameKinds_16 : decode cX2_nameKinds 16 = .ok (.if_icmp .ge 67, 3) := by decide +kernel
theorem dX2_nameKinds_19 : decode cX2_nameKinds 19 = .ok (.aload_n 0, 1) := by decide +kernel
theorem dX2_nameKinds_20 : decode cX2_nameKinds 20 = .ok (.getfield 74, 3) := by decide +kernel
theorem dX2_nameKinds_23 : decode cX2_nameKinds 23 = .ok (.getfield 91, 3) := by decide +kernel
theorem dX2_nameKinds_26 : decode cX2_nameKinds 26 = .ok (.ifCond .ne 57, 3) := by decide +kernel
theorem dX2_nameKinds_29 : decode cX2_nameKinds 29 = .ok (.aload_n 0, 1) := by decide +kernel
theorem dX2_nameKinds_30 : decode cX2_nameKinds 30 = .ok (.getfield 67, 3) := by decide +kernel
theorem dX2_nameKinds_33 : decode cX2_nameKinds 33 = .ok (.iload_n 1, 1) := by decide +kernel
theorem dX2_nameKinds_34 : decode cX2_nameKinds 34 = .ok (.iload_n 1, 1) := by decide +kernel
theorem dX2_nameKinds_35 : decode cX2_nameKinds 35 = .ok (.bipush 8, 2) := by decide +kernel
theorem dX2_nameKinds_37 : decode cX2_nameKinds 37 = .ok (.if_icmp .ge 7, 3) := by decide +kernel
theorem dX2_nameKinds_40 : decode cX2_nameKinds 40 = .ok (.iload_n 1, 1) := by decide +kernel
theorem dX2_nameKinds_41 : decode cX2_nameKinds 41 = .ok (.goto 18, 3) := by decide +kernel
theorem dX2_nameKinds_44 : decode cX2_nameKinds 44 = .ok (.aload_n 0, 1) := by decide +kernel
theorem dX2_nameKinds_45 : decode cX2_nameKinds 45 = .ok (.getfield 74, 3) := by decide +kernel
theorem dX2_nameKinds_48 : decode cX2_nameKinds 48 = .ok (.aload_n 0, 1) := by decide +kernel
theorem dX2_nameKinds_49 : decode cX2_nameKinds 49 = .ok (.iload_n 1, 1) := by decide +kernel
theorem dX2_nameKinds_50 : decode cX2_nameKinds 50 = .ok (.bipush 8, 2) := by decide +kernel
theorem dX2_nameKinds_52 : decode cX2_nameKinds 52 = .ok (.isub, 1) := by decide +kernel
theorem dX2_nameKinds_53 : decode cX2_nameKinds 53 = .ok (.invokevirtual 112, 3) := by decide +kernel
theorem dX2_nameKinds_56 : decode cX2_nameKinds 56 = .ok (.invokevirtual 135, 3) := by decide +kernel
theorem dX2_nameKinds_59 : decode cX2_nameKinds 59 = .ok (.iastore, 1) := by decide +kernel
theorem dX2_nameKinds_60 : decode cX2_nameKinds 60 = .ok (.aload_n 0, 1) := by decide +kernel
theorem dX2_nameKinds_61 : decode cX2_nameKinds 61 = .ok (.getfield 67, 3) := by decide +kernel
theorem dX2_nameKinds_64 : decode cX2_nameKinds 64 = .ok (.bipush 16, 2) := by decide +kernel
theorem dX2_nameKinds_66 : decode cX2_nameKinds 66 = .ok (.iload_n 1, 1) := by decide +kernel
theorem dX2_nameKinds_67 : decode cX2_nameKinds 67 = .ok (.iadd, 1) := by decide +kernel
theorem dX2_nameKinds_68 : decode cX2_nameKinds 68 = .ok (.aload_n 0, 1) := by decide +kernel
theorem dX2_nameKinds_69 : decode cX2_nameKinds 69 = .ok (.bipush 100, 2) := by decide +kernel
theorem dX2_nameKinds_71 : decode cX2_nameKinds 71 = .ok (.iload_n 1, 1) := by decide +kernel
theorem dX2_nameKinds_72 : decode cX2_nameKinds 72 = .ok (.iadd, 1) := by decide +kernel
theorem dX2_nameKinds_73 : decode cX2_nameKinds 73 = .ok (.invokevirtual 138, 3) := by decide +kernel
theorem dX2_nameKinds_76 : decode cX2_nameKinds 76 = .ok (.iastore, 1) := by decide +kernel
theorem dX2_nameKinds_77 : decode cX2_nameKinds 77 = .ok (.iinc 1 1, 3) := by decide +kernel
theorem dX2_nameKinds_80 : decode cX2_nameKinds 80 = .ok (.goto (-78), 3) := by decide +kernel
theorem dX2_nameKinds_83 : decode cX2_nameKinds 83 = .ok (.iconst 0, 1) := by decide +kernel
theorem dX2_nameKinds_84 : decode cX2_nameKinds 84 = .ok (.istore_n 1, 1) := by decide +kernel
theorem dX2_nameKinds_85 : decode cX2_nameKinds 85 = .ok (.iload_n 1, 1) := by decide +kernel
theorem dX2_nameKinds_86 : decode cX2_nameKinds 86 = .ok (.aload_n 0, 1) := by decide +kernel
theorem dX2_nameKinds_87 : decode cX2_nameKinds 87 = .ok (.getfield 30, 3) := by decide +kernel
theorem dX2_nameKinds_90 : decode cX2_nameKinds 90 = .ok (.arraylength, 1) := by decide +kernel
theorem dX2_nameKinds_91 : decode cX2_nameKinds 91 = .ok (.if_icmp .ge 51, 3) := by decide +kernel
theorem dX2_nameKinds_94 : decode cX2_nameKinds 94 = .ok (.aload_n 0, 1) := by decide +kernel
theorem dX2_nameKinds_95 : decode cX2_nameKinds 95 = .ok (.getfield 74, 3) := by decide +kernel
theorem dX2_nameKinds_98 : decode cX2_nameKinds 98 = .ok (.getfield 91, 3) := by decide +kernel
theorem dX2_nameKinds_101 : decode cX2_nameKinds 101 = .ok (.ifCond .ne 41, 3) := by decide +kernel
theorem dX2_nameKinds_104 : decode cX2_nameKinds 104 = .ok (.iload_n 1, 1) := by decide +kernel
theorem dX2_nameKinds_105 : decode cX2_nameKinds 105 = .ok (.bipush 12, 2) := by decide +kernel
theorem dX2_nameKinds_107 : decode cX2_nameKinds 107 = .ok (.irem, 1) := by decide +kernel
theorem dX2_nameKinds_108 : decode cX2_nameKinds 108 = .ok (.aload_n 0, 1) := by decide +kernel
theorem dX2_nameKinds_109 : decode cX2_nameKinds 109 = .ok (.getfield 27, 3) := by decide +kernel
theorem dX2_nameKinds_112 : decode cX2_nameKinds 112 = .ok (.iload_n 1, 1) := by decide +kernel
theorem dX2_nameKinds_113 : decode cX2_nameKinds 113 = .ok (.bipush 12, 2) := by decide +kernel
theorem dX2_nameKinds_115 : decode cX2_nameKinds 115 = .ok (.idiv, 1) := by decide +kernel
theorem dX2_nameKinds_116 : decode cX2_nameKinds 116 = .ok (.iaload, 1) := by decide +kernel
theorem dX2_nameKinds_117 : decode cX2_nameKinds 117 = .ok (.if_icmp .ge 19, 3) := by decide +kernel
theorem dX2_nameKinds_120 : decode cX2_nameKinds 120 = .ok (.aload_n 0, 1) := by decide +kernel
theorem dX2_nameKinds_121 : decode cX2_nameKinds 121 = .ok (.getfield 36, 3) := by decide +kernel
theorem dX2_nameKinds_124 : decode cX2_nameKinds 124 = .ok (.iload_n 1, 1) := by decide +kernel
theorem dX2_nameKinds_125 : decode cX2_nameKinds 125 = .ok (.aload_n 0, 1) := by decide +kernel
theorem dX2_nameKinds_126 : decode cX2_nameKinds 126 = .ok (.aload_n 0, 1) := by decide +kernel
theorem dX2_nameKinds_127 : decode cX2_nameKinds 127 = .ok (.getfield 33, 3) := by decide +kernel
theorem dX2_nameKinds_130 : decode cX2_nameKinds 130 = .ok (.iload_n 1, 1) := by decide +kernel
theorem dX2_nameKinds_131 : decode cX2_nameKinds 131 = .ok (.iaload, 1) := by decide +kernel
theorem dX2_nameKinds_132 : decode cX2_nameKinds 132 = .ok (.invokevirtual 138, 3) := by decide +kernel
theorem dX2_nameKinds_135 : decode cX2_nameKinds 135 = .ok (.iastore, 1) := by decide +kernel
theorem dX2_nameKinds_136 : decode cX2_nameKinds 136 = .ok (.iinc 1 1, 3) := by decide +kernel
theorem dX2_nameKinds_139 : decode cX2_nameKinds 139 = .ok (.goto (-54), 3) := by decide +kernel
theorem dX2_nameKinds_142 : decode cX2_nameKinds 142 = .ok (.iconst 0, 1) := by decide +kernel
theorem dX2_nameKinds_143 : decode cX2_nameKinds 143 = .ok (.istore_n 1, 1) := by decide +kernel
theorem dX2_nameKinds_144 : decode cX2_nameKinds 144 = .ok (.iload_n 1, 1) := by decide +kernel
theorem dX2_nameKinds_145 : decode cX2_nameKinds 145 = .ok (.aload_n 0, 1) := by decide +kernel
theorem dX2_nameKinds_146 : decode cX2_nameKinds 146 = .ok (.getfield 42, 3) := by decide +kernel
theorem dX2_nameKinds_149 : decode cX2_nameKinds 149 = .ok (.arraylength, 1) := by decide +kernel
theorem dX2_nameKinds_150 : decode cX2_nameKinds 150 = .ok (.if_icmp .ge 38, 3) := by decide +kernel
theorem dX2_nameKinds_153 : decode cX2_nameKinds 153 = .ok (.aload_n 0, 1) := by decide +kernel
theorem dX2_nameKinds_154 : decode cX2_nameKinds 154 = .ok (.getfield 74, 3) := by decide +kernel
theorem dX2_nameKinds_157 : decode cX2_nameKinds 157 = .ok (.getfield 91, 3) := by decide +kernel
theorem dX2_nameKinds_160 : decode cX2_nameKinds 160 = .ok (.ifCond .ne 28, 3) := by decide +kernel
theorem dX2_nameKinds_163 : decode cX2_nameKinds 163 = .ok (.aload_n 0, 1) := by decide +kernel
theorem dX2_nameKinds_164 : decode cX2_nameKinds 164 = .ok (.iload_n 1, 1) := by decide +kernel
theorem dX2_nameKinds_165 : decode cX2_nameKinds 165 = .ok (.invokevirtual 128, 3) := by decide +kernel
theorem dX2_nameKinds_168 : decode cX2_nameKinds 168 = .ok (.ifCond .eq 14, 3) := by decide +kernel
theorem dX2_nameKinds_171 : decode cX2_nameKinds 171 = .ok (.aload_n 0, 1) := by decide +kernel
theorem dX2_nameKinds_172 : decode cX2_nameKinds 172 = .ok (.getfield 55, 3) := by decide +kernel
theorem dX2_nameKinds_175 : decode cX2_nameKinds 175 = .ok (.iload_n 1, 1) := by decide +kernel
theorem dX2_nameKinds_176 : decode cX2_nameKinds 176 = .ok (.aload_n 0, 1) := by decide +kernel
theorem dX2_nameKinds_177 : decode cX2_nameKinds 177 = .ok (.iload_n 1, 1) := by decide +kernel
theorem dX2_nameKinds_178 : decode cX2_nameKinds 178 = .ok (.invokevirtual 141, 3) := by decide +kernel
theorem dX2_nameKinds_181 : decode cX2_nameKinds 181 = .ok (.iastore, 1) := by decide +kernel
theorem dX2_nameKinds_182 : decode cX2_nameKinds 182 = .ok (.iinc 1 1, 3) := by decide +kernel
theorem dX2_nameKinds_185 : decode cX2_nameKinds 185 = .ok (.goto (-41), 3) := by decide +kernel
theorem dX2_nameKinds_188 : decode cX2_nameKinds 188 = .ok (.return_, 1) := by decide +kernel
theorem dX2_nameKind_0 : decode cX2_nameKind 0 = .ok (.aload_n 0, 1) := by decide +kernel
theorem dX2_nameKind_1 : decode cX2_nameKind 1 = .ok (.iconst 0, 1) := by decide +kernel
theorem dX2_nameKind_2 : decode cX2_nameKind 2 = .ok (.putfield 144, 3) := by decide +kernel
theorem dX2_nameKind_5 : decode cX2_nameKind 5 = .ok (.aload_n 0, 1) := by decide +kernel
theorem dX2_nameKind_6 : decode cX2_nameKind 6 = .ok (.iload_n 1, 1) := by decide +kernel
theorem dX2_nameKind_7 : decode cX2_nameKind 7 = .ok (.invokevirtual 147, 3) := by decide +kernel
theorem dX2_nameKind_10 : decode cX2_nameKind 10 = .ok (.aload_n 0, 1) := by decide +kernel
theorem dX2_nameKind_11 : decode cX2_nameKind 11 = .ok (.getfield 74, 3) := by decide +kernel
theorem dX2_nameKind_14 : decode cX2_nameKind 14 = .ok (.aload_n 0, 1) := by decide +kernel
theorem dX2_nameKind_15 : decode cX2_nameKind 15 = .ok (.getfield 70, 3) := by decide +kernel
theorem dX2_nameKind_18 : decode cX2_nameKind 18 = .ok (.iconst 0, 1) := by decide +kernel
theorem dX2_nameKind_19 : decode cX2_nameKind 19 = .ok (.aload_n 0, 1) := by decide +kernel
theorem dX2_nameKind_20 : decode cX2_nameKind 20 = .ok (.getfield 144, 3) := by decide +kernel
theorem dX2_nameKind_23 : decode cX2_nameKind 23 = .ok (.invokevirtual 150, 3) := by decide +kernel
theorem dX2_nameKind_26 : decode cX2_nameKind 26 = .ok (.ireturn, 1) := by decide +kernel
theorem dX2_nameMethodKind_0 : decode cX2_nameMethodKind 0 = .ok (.aload_n 0, 1) := by decide +kernel
theorem dX2_nameMethodKind_1 : decode cX2_nameMethodKind 1 = .ok (.iconst 0, 1) := by decide +kernel
theorem dX2_nameMethodKind_2 : decode cX2_nameMethodKind 2 = .ok (.putfield 144, 3) := by decide +kernel
theorem dX2_nameMethodKind_5 : decode cX2_nameMethodKind 5 = .ok (.aload_n 0, 1) := by decide +kernel
theorem dX2_nameMethodKind_6 : decode cX2_nameMethodKind 6 = .ok (.bipush 40, 2) := by decide +kernel
theorem dX2_nameMethodKind_8 : decode cX2_nameMethodKind 8 = .ok (.invokevirtual 154, 3) := by decide +kernel
theorem dX2_nameMethodKind_11 : decode cX2_nameMethodKind 11 = .ok (.iconst 0, 1) := by decide +kernel
theorem dX2_nameMethodKind_12 : decode cX2_nameMethodKind 12 = .ok (.istore_n 2, 1) := by decide +kernel
theorem dX2_nameMethodKind_13 : decode cX2_nameMethodKind 13 = .ok (.iload_n 2, 1) := by decide +kernel
theorem dX2_nameMethodKind_14 : decode cX2_nameMethodKind 14 = .ok (.aload_n 0, 1) := by decide +kernel
theorem dX2_nameMethodKind_15 : decode cX2_nameMethodKind 15 = .ok (.getfield 58, 3) := by decide +kernel
theorem dX2_nameMethodKind_18 : decode cX2_nameMethodKind 18 = .ok (.iload_n 1, 1) := by decide +kernel
theorem dX2_nameMethodKind_19 : decode cX2_nameMethodKind 19 = .ok (.iaload, 1) := by decide +kernel
theorem dX2_nameMethodKind_20 : decode cX2_nameMethodKind 20 = .ok (.if_icmp .ge 19, 3) := by decide +kernel
theorem dX2_nameMethodKind_23 : decode cX2_nameMethodKind 23 = .ok (.aload_n 0, 1) := by decide +kernel
theorem dX2_nameMethodKind_24 : decode cX2_nameMethodKind 24 = .ok (.aload_n 0, 1) := by decide +kernel
theorem dX2_nameMethodKind_25 : decode cX2_nameMethodKind 25 = .ok (.iload_n 1, 1) := by decide +kernel
theorem dX2_nameMethodKind_26 : decode cX2_nameMethodKind 26 = .ok (.iload_n 2, 1) := by decide +kernel
theorem dX2_nameMethodKind_27 : decode cX2_nameMethodKind 27 = .ok (.invokevirtual 157, 3) := by decide +kernel
theorem dX2_nameMethodKind_30 : decode cX2_nameMethodKind 30 = .ok (.invokevirtual 147, 3) := by decide +kernel
theorem dX2_nameMethodKind_33 : decode cX2_nameMethodKind 33 = .ok (.iinc 2 1, 3) := by decide +kernel
theorem dX2_nameMethodKind_36 : decode cX2_nameMethodKind 36 = .ok (.goto (-23), 3) := by decide +kernel
theorem dX2_nameMethodKind_39 : decode cX2_nameMethodKind 39 = .ok (.aload_n 0, 1) := by decide +kernel
theorem dX2_nameMethodKind_40 : decode cX2_nameMethodKind 40 = .ok (.bipush 41, 2) := by decide +kernel
theorem dX2_nameMethodKind_42 : decode cX2_nameMethodKind 42 = .ok (.invokevirtual 154, 3) := by decide +kernel
theorem dX2_nameMethodKind_45 : decode cX2_nameMethodKind 45 = .ok (.aload_n 0, 1) := by decide +kernel
theorem dX2_nameMethodKind_46 : decode cX2_nameMethodKind 46 = .ok (.aload_n 0, 1) := by decide +kernel
theorem dX2_nameMethodKind_47 : decode cX2_nameMethodKind 47 = .ok (.getfield 48, 3) := by decide +kernel
theorem dX2_nameMethodKind_50 : decode cX2_nameMethodKind 50 = .ok (.iload_n 1, 1) := by decide +kernel
theorem dX2_nameMethodKind_51 : decode cX2_nameMethodKind 51 = .ok (.iaload, 1) := by decide +kernel
theorem dX2_nameMethodKind_52 : decode cX2_nameMethodKind 52 = .ok (.invokevirtual 147, 3) := by decide +kernel
theorem dX2_nameMethodKind_55 : decode cX2_nameMethodKind 55 = .ok (.aload_n 0, 1) := by decide +kernel
theorem dX2_nameMethodKind_56 : decode cX2_nameMethodKind 56 = .ok (.getfield 74, 3) := by decide +kernel
theorem dX2_nameMethodKind_59 : decode cX2_nameMethodKind 59 = .ok (.aload_n 0, 1) := by decide +kernel
theorem dX2_nameMethodKind_60 : decode cX2_nameMethodKind 60 = .ok (.getfield 70, 3) := by decide +kernel
theorem dX2_nameMethodKind_63 : decode cX2_nameMethodKind 63 = .ok (.iconst 0, 1) := by decide +kernel
theorem dX2_nameMethodKind_64 : decode cX2_nameMethodKind 64 = .ok (.aload_n 0, 1) := by decide +kernel
theorem dX2_nameMethodKind_65 : decode cX2_nameMethodKind 65 = .ok (.getfield 144, 3) := by decide +kernel
theorem dX2_nameMethodKind_68 : decode cX2_nameMethodKind 68 = .ok (.invokevirtual 150, 3) := by decide +kernel
theorem dX2_nameMethodKind_71 : decode cX2_nameMethodKind 71 = .ok (.ireturn, 1) := by decide +kernel
theorem dX2_addKind_0 : decode cX2_addKind 0 = .ok (.iload_n 1, 1) := by decide +kernel
theorem dX2_addKind_1 : decode cX2_addKind 1 = .ok (.istore_n 2, 1) := by decide +kernel
theorem dX2_addKind_2 : decode cX2_addKind 2 = .ok (.iload_n 1, 1) := by decide +kernel
theorem dX2_addKind_3 : decode cX2_addKind 3 = .ok (.invokestatic 160, 3) := by decide +kernel
theorem dX2_addKind_6 : decode cX2_addKind 6 = .ok (.ifCond .eq 14, 3) := by decide +kernel
theorem dX2_addKind_9 : decode cX2_addKind 9 = .ok (.aload_n 0, 1) := by decide +kernel
theorem dX2_addKind_10 : decode cX2_addKind 10 = .ok (.bipush 91, 2) := by decide +kernel
theorem dX2_addKind_12 : decode cX2_addKind 12 = .ok (.invokevirtual 154, 3) := by decide +kernel
theorem dX2_addKind_15 : decode cX2_addKind 15 = .ok (.iload_n 1, 1) := by decide +kernel
theorem dX2_addKind_16 : decode cX2_addKind 16 = .ok (.invokestatic 163, 3) := by decide +kernel
theorem dX2_addKind_19 : decode cX2_addKind 19 = .ok (.istore_n 2, 1) := by decide +kernel
theorem dX2_addKind_20 : decode cX2_addKind 20 = .ok (.iload_n 2, 1) := by decide +kernel
theorem dX2_addKind_21 : decode cX2_addKind 21 = .ok (.invokestatic 166, 3) := by decide +kernel
theorem dX2_addKind_24 : decode cX2_addKind 24 = .ok (.ifCond .ne 34, 3) := by decide +kernel
theorem dX2_addKind_27 : decode cX2_addKind 27 = .ok (.aload_n 0, 1) := by decide +kernel
theorem dX2_addKind_28 : decode cX2_addKind 28 = .ok (.iload_n 2, 1) := by decide +kernel
theorem dX2_addKind_29 : decode cX2_addKind 29 = .ok (.sipush 301, 3) := by decide +kernel
theorem dX2_addKind_32 : decode cX2_addKind 32 = .ok (.if_icmp .ne 8, 3) := by decide +kernel
theorem dX2_addKind_35 : decode cX2_addKind 35 = .ok (.bipush 73, 2) := by decide +kernel
theorem dX2_addKind_37 : decode cX2_addKind 37 = .ok (.goto 17, 3) := by decide +kernel
theorem dX2_addKind_40 : decode cX2_addKind 40 = .ok (.iload_n 2, 1) := by decide +kernel
theorem dX2_addKind_41 : decode cX2_addKind 41 = .ok (.sipush 302, 3) := by decide +kernel
theorem dX2_addKind_44 : decode cX2_addKind 44 = .ok (.if_icmp .ne 8, 3) := by decide +kernel
theorem dX2_addKind_47 : decode cX2_addKind 47 = .ok (.bipush 90, 2) := by decide +kernel
theorem dX2_addKind_49 : decode cX2_addKind 49 = .ok (.goto 5, 3) := by decide +kernel
theorem dX2_addKind_52 : decode cX2_addKind 52 = .ok (.bipush 86, 2) := by decide +kernel
theorem dX2_addKind_54 : decode cX2_addKind 54 = .ok (.invokevirtual 154, 3) := by decide +kernel
theorem dX2_addKind_57 : decode cX2_addKind 57 = .ok (.return_, 1) := by decide +kernel
theorem dX2_addKind_58 : decode cX2_addKind 58 = .ok (.aload_n 0, 1) := by decide +kernel
theorem dX2_addKind_59 : decode cX2_addKind 59 = .ok (.bipush 76, 2) := by decide +kernel
theorem dX2_addKind_61 : decode cX2_addKind 61 = .ok (.invokevirtual 154, 3) := by decide +kernel
theorem dX2_addKind_64 : decode cX2_addKind 64 = .ok (.aload_n 0, 1) := by decide +kernel
theorem dX2_addKind_65 : decode cX2_addKind 65 = .ok (.getfield 67, 3) := by decide +kernel
theorem dX2_addKind_68 : decode cX2_addKind 68 = .ok (.iload_n 2, 1) := by decide +kernel
theorem dX2_addKind_69 : decode cX2_addKind 69 = .ok (.iaload, 1) := by decide +kernel
theorem dX2_addKind_70 : decode cX2_addKind 70 = .ok (.istore_n 3, 1) := by decide +kernel
theorem dX2_addKind_71 : decode cX2_addKind 71 = .ok (.aload_n 0, 1) := by decide +kernel
theorem dX2_addKind_72 : decode cX2_addKind 72 = .ok (.getfield 74, 3) := by decide +kernel
theorem dX2_addKind_75 : decode cX2_addKind 75 = .ok (.iload_n 3, 1) := by decide +kernel
theorem dX2_addKind_76 : decode cX2_addKind 76 = .ok (.aload_n 0, 1) := by decide +kernel
theorem dX2_addKind_77 : decode cX2_addKind 77 = .ok (.getfield 70, 3) := by decide +kernel
theorem dX2_addKind_80 : decode cX2_addKind 80 = .ok (.aload_n 0, 1) := by decide +kernel
theorem dX2_addKind_81 : decode cX2_addKind 81 = .ok (.getfield 144, 3) := by decide +kernel
theorem dX2_addKind_84 : decode cX2_addKind 84 = .ok (.invokevirtual 169, 3) := by decide +kernel
theorem dX2_addKind_87 : decode cX2_addKind 87 = .ok (.aload_n 0, 1) := by decide +kernel
theorem dX2_addKind_88 : decode cX2_addKind 88 = .ok (.aload_n 0, 1) := by decide +kernel
theorem dX2_addKind_89 : decode cX2_addKind 89 = .ok (.getfield 144, 3) := by decide +kernel
theorem dX2_addKind_92 : decode cX2_addKind 92 = .ok (.aload_n 0, 1) := by decide +kernel
theorem dX2_addKind_93 : decode cX2_addKind 93 = .ok (.getfield 74, 3) := by decide +kernel
theorem dX2_addKind_96 : decode cX2_addKind 96 = .ok (.iload_n 3, 1) := by decide +kernel
theorem dX2_addKind_97 : decode cX2_addKind 97 = .ok (.invokevirtual 173, 3) := by decide +kernel
theorem dX2_addKind_100 : decode cX2_addKind 100 = .ok (.iadd, 1) := by decide +kernel
theorem dX2_addKind_101 : decode cX2_addKind 101 = .ok (.aload_n 0, 1) := by decide +kernel
theorem dX2_addKind_102 : decode cX2_addKind 102 = .ok (.getfield 70, 3) := by decide +kernel
theorem dX2_addKind_105 : decode cX2_addKind 105 = .ok (.arraylength, 1) := by decide +kernel
theorem dX2_addKind_106 : decode cX2_addKind 106 = .ok (.invokestatic 176, 3) := by decide +kernel
theorem dX2_addKind_109 : decode cX2_addKind 109 = .ok (.putfield 144, 3) := by decide +kernel
theorem dX2_addKind_112 : decode cX2_addKind 112 = .ok (.aload_n 0, 1) := by decide +kernel
theorem dX2_addKind_113 : decode cX2_addKind 113 = .ok (.bipush 59, 2) := by decide +kernel
theorem dX2_addKind_115 : decode cX2_addKind 115 = .ok (.invokevirtual 154, 3) := by decide +kernel
theorem dX2_addKind_118 : decode cX2_addKind 118 = .ok (.return_, 1) := by decide +kernel
theorem dX2_nameClasses_0 : decode cX2_nameClasses 0 = .ok (.iconst 0, 1) := by decide +kernel
theorem dX2_nameClasses_1 : decode cX2_nameClasses 1 = .ok (.istore_n 1, 1) := by decide +kernel
theorem dX2_nameClasses_2 : decode cX2_nameClasses 2 = .ok (.iload_n 1, 1) := by decide +kernel
theorem dX2_nameClasses_3 : decode cX2_nameClasses 3 = .ok (.aload_n 0, 1) := by decide +kernel
theorem dX2_nameClasses_4 : decode cX2_nameClasses 4 = .ok (.getfield 74, 3) := by decide +kernel
theorem dX2_nameClasses_7 : decode cX2_nameClasses 7 = .ok (.getfield 181, 3) := by decide +kernel
theorem dX2_nameClasses_10 : decode cX2_nameClasses 10 = .ok (.if_icmp .ge 35, 3) := by decide +kernel
theorem dX2_nameClasses_13 : decode cX2_nameClasses 13 = .ok (.iload_n 1, 1) := by decide +kernel
theorem dX2_nameClasses_14 : decode cX2_nameClasses 14 = .ok (.aload_n 0, 1) := by decide +kernel
theorem dX2_nameClasses_15 : decode cX2_nameClasses 15 = .ok (.getfield 24, 3) := by decide +kernel
theorem dX2_nameClasses_18 : decode cX2_nameClasses 18 = .ok (.arraylength, 1) := by decide +kernel
theorem dX2_nameClasses_19 : decode cX2_nameClasses 19 = .ok (.if_icmp .ge 26, 3) := by decide +kernel
theorem dX2_nameClasses_22 : decode cX2_nameClasses 22 = .ok (.aload_n 0, 1) := by decide +kernel
theorem dX2_nameClasses_23 : decode cX2_nameClasses 23 = .ok (.getfield 24, 3) := by decide +kernel
theorem dX2_nameClasses_26 : decode cX2_nameClasses 26 = .ok (.iload_n 1, 1) := by decide +kernel
theorem dX2_nameClasses_27 : decode cX2_nameClasses 27 = .ok (.iload_n 1, 1) := by decide +kernel
theorem dX2_nameClasses_28 : decode cX2_nameClasses 28 = .ok (.bipush 8, 2) := by decide +kernel
theorem dX2_nameClasses_30 : decode cX2_nameClasses 30 = .ok (.if_icmp .ge 7, 3) := by decide +kernel
theorem dX2_nameClasses_33 : decode cX2_nameClasses 33 = .ok (.iload_n 1, 1) := by decide +kernel
theorem dX2_nameClasses_34 : decode cX2_nameClasses 34 = .ok (.goto 4, 3) := by decide +kernel
theorem dX2_nameClasses_37 : decode cX2_nameClasses 37 = .ok (.iconst (-1), 1) := by decide +kernel
theorem dX2_nameClasses_38 : decode cX2_nameClasses 38 = .ok (.iastore, 1) := by decide +kernel
theorem dX2_nameClasses_39 : decode cX2_nameClasses 39 = .ok (.iinc 1 1, 3) := by decide +kernel
theorem dX2_nameClasses_42 : decode cX2_nameClasses 42 = .ok (.goto (-40), 3) := by decide +kernel
theorem dX2_nameClasses_45 : decode cX2_nameClasses 45 = .ok (.iconst 0, 1) := by decide +kernel
theorem dX2_nameClasses_46 : decode cX2_nameClasses 46 = .ok (.istore_n 1, 1) := by decide +kernel
theorem dX2_nameClasses_47 : decode cX2_nameClasses 47 = .ok (.iload_n 1, 1) := by decide +kernel
theorem dX2_nameClasses_48 : decode cX2_nameClasses 48 = .ok (.aload_n 0, 1) := by decide +kernel
theorem dX2_nameClasses_49 : decode cX2_nameClasses 49 = .ok (.getfield 78, 3) := by decide +kernel
theorem dX2_nameClasses_52 : decode cX2_nameClasses 52 = .ok (.if_icmp .ge 52, 3) := by decide +kernel
theorem dX2_nameClasses_55 : decode cX2_nameClasses 55 = .ok (.aload_n 0, 1) := by decide +kernel
theorem dX2_nameClasses_56 : decode cX2_nameClasses 56 = .ok (.getfield 74, 3) := by decide +kernel
theorem dX2_nameClasses_59 : decode cX2_nameClasses 59 = .ok (.aload_n 0, 1) := by decide +kernel
theorem dX2_nameClasses_60 : decode cX2_nameClasses 60 = .ok (.getfield 20, 3) := by decide +kernel
theorem dX2_nameClasses_63 : decode cX2_nameClasses 63 = .ok (.iload_n 1, 1) := by decide +kernel
theorem dX2_nameClasses_64 : decode cX2_nameClasses 64 = .ok (.iaload, 1) := by decide +kernel
theorem dX2_nameClasses_65 : decode cX2_nameClasses 65 = .ok (.invokevirtual 135, 3) := by decide +kernel
theorem dX2_nameClasses_68 : decode cX2_nameClasses 68 = .ok (.istore_n 2, 1) := by decide +kernel
theorem dX2_nameClasses_69 : decode cX2_nameClasses 69 = .ok (.iload_n 2, 1) := by decide +kernel
theorem dX2_nameClasses_70 : decode cX2_nameClasses 70 = .ok (.aload_n 0, 1) := by decide +kernel
theorem dX2_nameClasses_71 : decode cX2_nameClasses 71 = .ok (.getfield 24, 3) := by decide +kernel
theorem dX2_nameClasses_74 : decode cX2_nameClasses 74 = .ok (.arraylength, 1) := by decide +kernel
theorem dX2_nameClasses_75 : decode cX2_nameClasses 75 = .ok (.if_icmp .ge 23, 3) := by decide +kernel
theorem dX2_nameClasses_78 : decode cX2_nameClasses 78 = .ok (.aload_n 0, 1) := by decide +kernel
theorem dX2_nameClasses_79 : decode cX2_nameClasses 79 = .ok (.getfield 24, 3) := by decide +kernel
theorem dX2_nameClasses_82 : decode cX2_nameClasses 82 = .ok (.iload_n 2, 1) := by decide +kernel
theorem dX2_nameClasses_83 : decode cX2_nameClasses 83 = .ok (.iaload, 1) := by decide +kernel
theorem dX2_nameClasses_84 : decode cX2_nameClasses 84 = .ok (.iconst (-1), 1) := by decide +kernel
theorem dX2_nameClasses_85 : decode cX2_nameClasses 85 = .ok (.if_icmp .ne 13, 3) := by decide +kernel
theorem dX2_nameClasses_88 : decode cX2_nameClasses 88 = .ok (.aload_n 0, 1) := by decide +kernel
theorem dX2_nameClasses_89 : decode cX2_nameClasses 89 = .ok (.getfield 24, 3) := by decide +kernel
theorem dX2_nameClasses_92 : decode cX2_nameClasses 92 = .ok (.iload_n 2, 1) := by decide +kernel
theorem dX2_nameClasses_93 : decode cX2_nameClasses 93 = .ok (.bipush 8, 2) := by decide +kernel
theorem dX2_nameClasses_95 : decode cX2_nameClasses 95 = .ok (.iload_n 1, 1) := by decide +kernel
theorem dX2_nameClasses_96 : decode cX2_nameClasses 96 = .ok (.iadd, 1) := by decide +kernel
theorem dX2_nameClasses_97 : decode cX2_nameClasses 97 = .ok (.iastore, 1) := by decide +kernel
theorem dX2_nameClasses_98 : decode cX2_nameClasses 98 = .ok (.iinc 1 1, 3) := by decide +kernel
theorem dX2_nameClasses_101 : decode cX2_nameClasses 101 = .ok (.goto (-54), 3) := by decide +kernel
theorem dX2_nameClasses_104 : decode cX2_nameClasses 104 = .ok (.return_, 1) := by decide +kernel
theorem dX2_readMember_0 : decode cX2_readMember 0 = .ok (.aload_n 0, 1) := by decide +kernel
theorem dX2_readMember_1 : decode cX2_readMember 1 = .ok (.getfield 74, 3) := by decide +kernel
theorem dX2_readMember_4 : decode cX2_readMember 4 = .ok (.invokevirtual 121, 3) := by decide +kernel
theorem dX2_readMember_7 : decode cX2_readMember 7 = .ok (.bipush 25, 2) := by decide +kernel
theorem dX2_readMember_9 : decode cX2_readMember 9 = .ok (.if_icmp .ne 7, 3) := by decide +kernel
theorem dX2_readMember_12 : decode cX2_readMember 12 = .ok (.iconst 1, 1) := by decide +kernel
theorem dX2_readMember_13 : decode cX2_readMember 13 = .ok (.goto 4, 3) := by decide +kernel
theorem dX2_readMember_16 : decode cX2_readMember 16 = .ok (.iconst 0, 1) := by decide +kernel
theorem dX2_readMember_17 : decode cX2_readMember 17 = .ok (.istore_n 2, 1) := by decide +kernel
theorem dX2_readMember_18 : decode cX2_readMember 18 = .ok (.iload_n 2, 1) := by decide +kernel
theorem dX2_readMember_19 : decode cX2_readMember 19 = .ok (.ifCond .eq 16, 3) := by decide +kernel
theorem dX2_readMember_22 : decode cX2_readMember 22 = .ok (.aload_n 0, 1) := by decide +kernel
theorem dX2_readMember_23 : decode cX2_readMember 23 = .ok (.getfield 74, 3) := by decide +kernel
theorem dX2_readMember_26 : decode cX2_readMember 26 = .ok (.dup, 1) := by decide +kernel
theorem dX2_readMember_27 : decode cX2_readMember 27 = .ok (.getfield 118, 3) := by decide +kernel
theorem dX2_readMember_30 : decode cX2_readMember 30 = .ok (.iconst 1, 1) := by decide +kernel
theorem dX2_readMember_31 : decode cX2_readMember 31 = .ok (.iadd, 1) := by decide +kernel
theorem dX2_readMember_32 : decode cX2_readMember 32 = .ok (.putfield 118, 3) := by decide +kernel
theorem dX2_readMember_35 : decode cX2_readMember 35 = .ok (.sipush 303, 3) := by decide +kernel
theorem dX2_readMember_38 : decode cX2_readMember 38 = .ok (.istore_n 3, 1) := by decide +kernel
theorem dX2_readMember_39 : decode cX2_readMember 39 = .ok (.aload_n 0, 1) := by decide +kernel
theorem dX2_readMember_40 : decode cX2_readMember 40 = .ok (.getfield 74, 3) := by decide +kernel
theorem dX2_readMember_43 : decode cX2_readMember 43 = .ok (.invokevirtual 121, 3) := by decide +kernel
theorem dX2_readMember_46 : decode cX2_readMember 46 = .ok (.bipush 30, 2) := by decide +kernel
theorem dX2_readMember_48 : decode cX2_readMember 48 = .ok (.if_icmp .ne 19, 3) := by decide +kernel
theorem dX2_readMember_51 : decode cX2_readMember 51 = .ok (.aload_n 0, 1) := by decide +kernel
theorem dX2_readMember_52 : decode cX2_readMember 52 = .ok (.getfield 74, 3) := by decide +kernel
theorem dX2_readMember_55 : decode cX2_readMember 55 = .ok (.dup, 1) := by decide +kernel
theorem dX2_readMember_56 : decode cX2_readMember 56 = .ok (.getfield 118, 3) := by decide +kernel
theorem dX2_readMember_59 : decode cX2_readMember 59 = .ok (.iconst 1, 1) := by decide +kernel
theorem dX2_readMember_60 : decode cX2_readMember 60 = .ok (.iadd, 1) := by decide +kernel
theorem dX2_readMember_61 : decode cX2_readMember 61 = .ok (.putfield 118, 3) := by decide +kernel
theorem dX2_readMember_64 : decode cX2_readMember 64 = .ok (.goto 8, 3) := by decide +kernel
theorem dX2_readMember_67 : decode cX2_readMember 67 = .ok (.aload_n 0, 1) := by decide +kernel
theorem dX2_readMember_68 : decode cX2_readMember 68 = .ok (.invokevirtual 192, 3) := by decide +kernel
theorem dX2_readMember_71 : decode cX2_readMember 71 = .ok (.istore_n 3, 1) := by decide +kernel
theorem dX2_readMember_72 : decode cX2_readMember 72 = .ok (.aload_n 0, 1) := by decide +kernel
theorem dX2_readMember_73 : decode cX2_readMember 73 = .ok (.getfield 74, 3) := by decide +kernel
theorem dX2_readMember_76 : decode cX2_readMember 76 = .ok (.getfield 118, 3) := by decide +kernel
theorem dX2_readMember_79 : decode cX2_readMember 79 = .ok (.istore 4, 2) := by decide +kernel
theorem dX2_readMember_81 : decode cX2_readMember 81 = .ok (.aload_n 0, 1) := by decide +kernel
theorem dX2_readMember_82 : decode cX2_readMember 82 = .ok (.getfield 74, 3) := by decide +kernel
theorem dX2_readMember_85 : decode cX2_readMember 85 = .ok (.dup, 1) := by decide +kernel
theorem dX2_readMember_86 : decode cX2_readMember 86 = .ok (.getfield 118, 3) := by decide +kernel
theorem dX2_readMember_89 : decode cX2_readMember 89 = .ok (.iconst 1, 1) := by decide +kernel
theorem dX2_readMember_90 : decode cX2_readMember 90 = .ok (.iadd, 1) := by decide +kernel
theorem dX2_readMember_91 : decode cX2_readMember 91 = .ok (.putfield 118, 3) := by decide +kernel
theorem dX2_readMember_94 : decode cX2_readMember 94 = .ok (.aload_n 0, 1) := by decide +kernel
theorem dX2_readMember_95 : decode cX2_readMember 95 = .ok (.getfield 74, 3) := by decide +kernel
theorem dX2_readMember_98 : decode cX2_readMember 98 = .ok (.invokevirtual 121, 3) := by decide +kernel
theorem dX2_readMember_101 : decode cX2_readMember 101 = .ok (.bipush 46, 2) := by decide +kernel
theorem dX2_readMember_103 : decode cX2_readMember 103 = .ok (.if_icmp .ne 27, 3) := by decide +kernel
theorem dX2_readMember_106 : decode cX2_readMember 106 = .ok (.aload_n 0, 1) := by decide +kernel
theorem dX2_readMember_107 : decode cX2_readMember 107 = .ok (.getfield 74, 3) := by decide +kernel
theorem dX2_readMember_110 : decode cX2_readMember 110 = .ok (.dup, 1) := by decide +kernel
theorem dX2_readMember_111 : decode cX2_readMember 111 = .ok (.getfield 118, 3) := by decide +kernel
theorem dX2_readMember_114 : decode cX2_readMember 114 = .ok (.iconst 1, 1) := by decide +kernel
theorem dX2_readMember_115 : decode cX2_readMember 115 = .ok (.iadd, 1) := by decide +kernel
theorem dX2_readMember_116 : decode cX2_readMember 116 = .ok (.putfield 118, 3) := by decide +kernel
theorem dX2_readMember_119 : decode cX2_readMember 119 = .ok (.aload_n 0, 1) := by decide +kernel
theorem dX2_readMember_120 : decode cX2_readMember 120 = .ok (.iload_n 1, 1) := by decide +kernel
theorem dX2_readMember_121 : decode cX2_readMember 121 = .ok (.iload 4, 2) := by decide +kernel
theorem dX2_readMember_123 : decode cX2_readMember 123 = .ok (.iload_n 3, 1) := by decide +kernel
theorem dX2_readMember_124 : decode cX2_readMember 124 = .ok (.invokevirtual 195, 3) := by decide +kernel
theorem dX2_readMember_127 : decode cX2_readMember 127 = .ok (.goto 22, 3) := by decide +kernel
theorem dX2_readMember_130 : decode cX2_readMember 130 = .ok (.aload_n 0, 1) := by decide +kernel
theorem dX2_readMember_131 : decode cX2_readMember 131 = .ok (.getfield 74, 3) := by decide +kernel
theorem dX2_readMember_134 : decode cX2_readMember 134 = .ok (.getfield 91, 3) := by decide +kernel
theorem dX2_readMember_137 : decode cX2_readMember 137 = .ok (.ifCond .ne 12, 3) := by decide +kernel
theorem dX2_readMember_140 : decode cX2_readMember 140 = .ok (.aload_n 0, 1) := by decide +kernel
theorem dX2_readMember_141 : decode cX2_readMember 141 = .ok (.iload_n 1, 1) := by decide +kernel
theorem dX2_readMember_142 : decode cX2_readMember 142 = .ok (.iload 4, 2) := by decide +kernel
theorem dX2_readMember_144 : decode cX2_readMember 144 = .ok (.iload_n 3, 1) := by decide +kernel
theorem dX2_readMember_145 : decode cX2_readMember 145 = .ok (.iload_n 2, 1) := by decide +kernel
theorem dX2_readMember_146 : decode cX2_readMember 146 = .ok (.invokevirtual 199, 3) := by decide +kernel
theorem dX2_readMember_149 : decode cX2_readMember 149 = .ok (.return_, 1) := by decide +kernel
theorem dX2_addMethod_0 : decode cX2_addMethod 0 = .ok (.aload_n 0, 1) := by decide +kernel
theorem dX2_addMethod_1 : decode cX2_addMethod 1 = .ok (.getfield 39, 3) := by decide +kernel
theorem dX2_addMethod_4 : decode cX2_addMethod 4 = .ok (.iload_n 1, 1) := by decide +kernel
theorem dX2_addMethod_5 : decode cX2_addMethod 5 = .ok (.iaload, 1) := by decide +kernel
theorem dX2_addMethod_6 : decode cX2_addMethod 6 = .ok (.bipush 12, 2) := by decide +kernel
theorem dX2_addMethod_8 : decode cX2_addMethod 8 = .ok (.if_icmp .lt 14, 3) := by decide +kernel
theorem dX2_addMethod_11 : decode cX2_addMethod 11 = .ok (.aload_n 0, 1) := by decide +kernel
theorem dX2_addMethod_12 : decode cX2_addMethod 12 = .ok (.getfield 74, 3) := by decide +kernel
theorem dX2_addMethod_15 : decode cX2_addMethod 15 = .ok (.bipush 11, 2) := by decide +kernel
theorem dX2_addMethod_17 : decode cX2_addMethod 17 = .ok (.iload_n 2, 1) := by decide +kernel
theorem dX2_addMethod_18 : decode cX2_addMethod 18 = .ok (.invokevirtual 186, 3) := by decide +kernel
theorem dX2_addMethod_21 : decode cX2_addMethod 21 = .ok (.return_, 1) := by decide +kernel
theorem dX2_addMethod_22 : decode cX2_addMethod 22 = .ok (.aload_n 0, 1) := by decide +kernel
theorem dX2_addMethod_23 : decode cX2_addMethod 23 = .ok (.iload_n 1, 1) := by decide +kernel
theorem dX2_addMethod_24 : decode cX2_addMethod 24 = .ok (.aload_n 0, 1) := by decide +kernel
theorem dX2_addMethod_25 : decode cX2_addMethod 25 = .ok (.getfield 74, 3) := by decide +kernel
theorem dX2_addMethod_28 : decode cX2_addMethod 28 = .ok (.iload_n 2, 1) := by decide +kernel
theorem dX2_addMethod_29 : decode cX2_addMethod 29 = .ok (.invokevirtual 135, 3) := by decide +kernel
theorem dX2_addMethod_32 : decode cX2_addMethod 32 = .ok (.invokevirtual 206, 3) := by decide +kernel
theorem dX2_addMethod_35 : decode cX2_addMethod 35 = .ok (.iconst (-1), 1) := by decide +kernel
theorem dX2_addMethod_36 : decode cX2_addMethod 36 = .ok (.if_icmp .eq 12, 3) := by decide +kernel
theorem dX2_addMethod_39 : decode cX2_addMethod 39 = .ok (.aload_n 0, 1) := by decide +kernel
theorem dX2_addMethod_40 : decode cX2_addMethod 40 = .ok (.getfield 74, 3) := by decide +kernel
theorem dX2_addMethod_43 : decode cX2_addMethod 43 = .ok (.iconst 4, 1) := by decide +kernel
theorem dX2_addMethod_44 : decode cX2_addMethod 44 = .ok (.iload_n 2, 1) := by decide +kernel
theorem dX2_addMethod_45 : decode cX2_addMethod 45 = .ok (.invokevirtual 186, 3) := by decide +kernel
theorem dX2_addMethod_48 : decode cX2_addMethod 48 = .ok (.iload_n 1, 1) := by decide +kernel
theorem dX2_addMethod_49 : decode cX2_addMethod 49 = .ok (.bipush 12, 2) := by decide +kernel
theorem dX2_addMethod_51 : decode cX2_addMethod 51 = .ok (.imul, 1) := by decide +kernel
theorem dX2_addMethod_52 : decode cX2_addMethod 52 = .ok (.aload_n 0, 1) := by decide +kernel
theorem dX2_addMethod_53 : decode cX2_addMethod 53 = .ok (.getfield 39, 3) := by decide +kernel
theorem dX2_addMethod_56 : decode cX2_addMethod 56 = .ok (.iload_n 1, 1) := by decide +kernel
theorem dX2_addMethod_57 : decode cX2_addMethod 57 = .ok (.iaload, 1) := by decide +kernel
theorem dX2_addMethod_58 : decode cX2_addMethod 58 = .ok (.iadd, 1) := by decide +kernel
theorem dX2_addMethod_59 : decode cX2_addMethod 59 = .ok (.istore 5, 2) := by decide +kernel
theorem dX2_addMethod_61 : decode cX2_addMethod 61 = .ok (.aload_n 0, 1) := by decide +kernel
theorem dX2_addMethod_62 : decode cX2_addMethod 62 = .ok (.getfield 42, 3) := by decide +kernel
theorem dX2_addMethod_65 : decode cX2_addMethod 65 = .ok (.iload 5, 2) := by decide +kernel
theorem dX2_addMethod_67 : decode cX2_addMethod 67 = .ok (.iload_n 2, 1) := by decide +kernel
theorem dX2_addMethod_68 : decode cX2_addMethod 68 = .ok (.iastore, 1) := by decide +kernel
theorem dX2_addMethod_69 : decode cX2_addMethod 69 = .ok (.aload_n 0, 1) := by decide +kernel
theorem dX2_addMethod_70 : decode cX2_addMethod 70 = .ok (.getfield 48, 3) := by decide +kernel
theorem dX2_addMethod_73 : decode cX2_addMethod 73 = .ok (.iload 5, 2) := by decide +kernel
theorem dX2_addMethod_75 : decode cX2_addMethod 75 = .ok (.iload_n 3, 1) := by decide +kernel
theorem dX2_addMethod_76 : decode cX2_addMethod 76 = .ok (.iastore, 1) := by decide +kernel
theorem dX2_addMethod_77 : decode cX2_addMethod 77 = .ok (.aload_n 0, 1) := by decide +kernel
theorem dX2_addMethod_78 : decode cX2_addMethod 78 = .ok (.getfield 51, 3) := by decide +kernel
theorem dX2_addMethod_81 : decode cX2_addMethod 81 = .ok (.iload 5, 2) := by decide +kernel
theorem dX2_addMethod_83 : decode cX2_addMethod 83 = .ok (.iload 4, 2) := by decide +kernel
theorem dX2_addMethod_85 : decode cX2_addMethod 85 = .ok (.bastore, 1) := by decide +kernel
theorem dX2_addMethod_86 : decode cX2_addMethod 86 = .ok (.aload_n 0, 1) := by decide +kernel
theorem dX2_addMethod_87 : decode cX2_addMethod 87 = .ok (.getfield 58, 3) := by decide +kernel
theorem dX2_addMethod_90 : decode cX2_addMethod 90 = .ok (.iload 5, 2) := by decide +kernel
theorem dX2_addMethod_92 : decode cX2_addMethod 92 = .ok (.iconst 0, 1) := by decide +kernel
theorem dX2_addMethod_93 : decode cX2_addMethod 93 = .ok (.iastore, 1) := by decide +kernel
theorem dX2_addMethod_94 : decode cX2_addMethod 94 = .ok (.aload_n 0, 1) := by decide +kernel
theorem dX2_addMethod_95 : decode cX2_addMethod 95 = .ok (.getfield 39, 3) := by decide +kernel
theorem dX2_addMethod_98 : decode cX2_addMethod 98 = .ok (.iload_n 1, 1) := by decide +kernel
theorem dX2_addMethod_99 : decode cX2_addMethod 99 = .ok (.dup2, 1) := by decide +kernel
theorem dX2_addMethod_100 : decode cX2_addMethod 100 = .ok (.iaload, 1) := by decide +kernel
theorem dX2_addMethod_101 : decode cX2_addMethod 101 = .ok (.iconst 1, 1) := by decide +kernel
theorem dX2_addMethod_102 : decode cX2_addMethod 102 = .ok (.iadd, 1) := by decide +kernel
theorem dX2_addMethod_103 : decode cX2_addMethod 103 = .ok (.iastore, 1) := by decide +kernel
theorem dX2_addMethod_104 : decode cX2_addMethod 104 = .ok (.aload_n 0, 1) := by decide +kernel
theorem dX2_addMethod_105 : decode cX2_addMethod 105 = .ok (.getfield 74, 3) := by decide +kernel
theorem dX2_addMethod_108 : decode cX2_addMethod 108 = .ok (.dup, 1) := by decide +kernel
theorem dX2_addMethod_109 : decode cX2_addMethod 109 = .ok (.getfield 118, 3) := by decide +kernel
theorem dX2_addMethod_112 : decode cX2_addMethod 112 = .ok (.iconst 1, 1) := by decide +kernel
theorem dX2_addMethod_113 : decode cX2_addMethod 113 = .ok (.iadd, 1) := by decide +kernel
theorem dX2_addMethod_114 : decode cX2_addMethod 114 = .ok (.putfield 118, 3) := by decide +kernel
theorem dX2_addMethod_117 : decode cX2_addMethod 117 = .ok (.iconst 0, 1) := by decide +kernel
theorem dX2_addMethod_118 : decode cX2_addMethod 118 = .ok (.istore 6, 2) := by decide +kernel
theorem dX2_addMethod_120 : decode cX2_addMethod 120 = .ok (.iload 6, 2) := by decide +kernel
theorem dX2_addMethod_122 : decode cX2_addMethod 122 = .ok (.sipush 3000, 3) := by decide +kernel
theorem dX2_addMethod_125 : decode cX2_addMethod 125 = .ok (.if_icmp .ge 37, 3) := by decide +kernel
theorem dX2_addMethod_128 : decode cX2_addMethod 128 = .ok (.aload_n 0, 1) := by decide +kernel
theorem dX2_addMethod_129 : decode cX2_addMethod 129 = .ok (.getfield 74, 3) := by decide +kernel
theorem dX2_addMethod_132 : decode cX2_addMethod 132 = .ok (.getfield 91, 3) := by decide +kernel
theorem dX2_addMethod_135 : decode cX2_addMethod 135 = .ok (.ifCond .ne 27, 3) := by decide +kernel
theorem dX2_addMethod_138 : decode cX2_addMethod 138 = .ok (.aload_n 0, 1) := by decide +kernel
theorem dX2_addMethod_139 : decode cX2_addMethod 139 = .ok (.getfield 74, 3) := by decide +kernel
theorem dX2_addMethod_142 : decode cX2_addMethod 142 = .ok (.invokevirtual 121, 3) := by decide +kernel
theorem dX2_addMethod_145 : decode cX2_addMethod 145 = .ok (.bipush 41, 2) := by decide +kernel
theorem dX2_addMethod_147 : decode cX2_addMethod 147 = .ok (.if_icmp .eq 15, 3) := by decide +kernel
theorem dX2_addMethod_150 : decode cX2_addMethod 150 = .ok (.aload_n 0, 1) := by decide +kernel
theorem dX2_addMethod_151 : decode cX2_addMethod 151 = .ok (.iload 5, 2) := by decide +kernel
theorem dX2_addMethod_153 : decode cX2_addMethod 153 = .ok (.invokevirtual 209, 3) := by decide +kernel
theorem dX2_addMethod_156 : decode cX2_addMethod 156 = .ok (.iinc 6 1, 3) := by decide +kernel
theorem dX2_addMethod_159 : decode cX2_addMethod 159 = .ok (.goto (-39), 3) := by decide +kernel
theorem dX2_addMethod_162 : decode cX2_addMethod 162 = .ok (.aload_n 0, 1) := by decide +kernel
theorem dX2_addMethod_163 : decode cX2_addMethod 163 = .ok (.getfield 74, 3) := by decide +kernel
theorem dX2_addMethod_166 : decode cX2_addMethod 166 = .ok (.dup, 1) := by decide +kernel
theorem dX2_addMethod_167 : decode cX2_addMethod 167 = .ok (.getfield 118, 3) := by decide +kernel
theorem dX2_addMethod_170 : decode cX2_addMethod 170 = .ok (.iconst 1, 1) := by decide +kernel
theorem dX2_addMethod_171 : decode cX2_addMethod 171 = .ok (.iadd, 1) := by decide +kernel
theorem dX2_addMethod_172 : decode cX2_addMethod 172 = .ok (.putfield 118, 3) := by decide +kernel
theorem dX2_addMethod_175 : decode cX2_addMethod 175 = .ok (.aload_n 0, 1) := by decide +kernel
theorem dX2_addMethod_176 : decode cX2_addMethod 176 = .ok (.getfield 45, 3) := by decide +kernel
theorem dX2_addMethod_179 : decode cX2_addMethod 179 = .ok (.iload 5, 2) := by decide +kernel
theorem dX2_addMethod_181 : decode cX2_addMethod 181 = .ok (.aload_n 0, 1) := by decide +kernel
theorem dX2_addMethod_182 : decode cX2_addMethod 182 = .ok (.getfield 74, 3) := by decide +kernel
theorem dX2_addMethod_185 : decode cX2_addMethod 185 = .ok (.getfield 118, 3) := by decide +kernel
theorem dX2_addMethod_188 : decode cX2_addMethod 188 = .ok (.iastore, 1) := by decide +kernel
theorem dX2_addMethod_189 : decode cX2_addMethod 189 = .ok (.aload_n 0, 1) := by decide +kernel
theorem dX2_addMethod_190 : decode cX2_addMethod 190 = .ok (.invokevirtual 212, 3) := by decide +kernel
theorem dX2_addMethod_193 : decode cX2_addMethod 193 = .ok (.return_, 1) := by decide +kernel
theorem dX2_checkOverride_0 : decode cX2_checkOverride 0 = .ok (.aload_n 0, 1) := by decide +kernel
theorem dX2_checkOverride_1 : decode cX2_checkOverride 1 = .ok (.aload_n 0, 1) := by decide +kernel
theorem dX2_checkOverride_2 : decode cX2_checkOverride 2 = .ok (.getfield 14, 3) := by decide +kernel
theorem dX2_checkOverride_5 : decode cX2_checkOverride 5 = .ok (.bipush 8, 2) := by decide +kernel
theorem dX2_checkOverride_7 : decode cX2_checkOverride 7 = .ok (.iload_n 1, 1) := by decide +kernel
theorem dX2_checkOverride_8 : decode cX2_checkOverride 8 = .ok (.bipush 12, 2) := by decide +kernel
theorem dX2_checkOverride_10 : decode cX2_checkOverride 10 = .ok (.idiv, 1) := by decide +kernel
theorem dX2_checkOverride_11 : decode cX2_checkOverride 11 = .ok (.iadd, 1) := by decide +kernel
theorem dX2_checkOverride_12 : decode cX2_checkOverride 12 = .ok (.invokevirtual 215, 3) := by decide +kernel
theorem dX2_checkOverride_15 : decode cX2_checkOverride 15 = .ok (.aload_n 0, 1) := by decide +kernel
theorem dX2_checkOverride_16 : decode cX2_checkOverride 16 = .ok (.iload_n 1, 1) := by decide +kernel
theorem dX2_checkOverride_17 : decode cX2_checkOverride 17 = .ok (.invokevirtual 218, 3) := by decide +kernel
theorem dX2_checkOverride_20 : decode cX2_checkOverride 20 = .ok (.invokevirtual 221, 3) := by decide +kernel
theorem dX2_checkOverride_23 : decode cX2_checkOverride 23 = .ok (.istore_n 2, 1) := by decide +kernel
theorem dX2_checkOverride_24 : decode cX2_checkOverride 24 = .ok (.iload_n 2, 1) := by decide +kernel
theorem dX2_checkOverride_25 : decode cX2_checkOverride 25 = .ok (.iconst (-1), 1) := by decide +kernel
theorem dX2_checkOverride_26 : decode cX2_checkOverride 26 = .ok (.if_icmp .ne 4, 3) := by decide +kernel
theorem dX2_checkOverride_29 : decode cX2_checkOverride 29 = .ok (.return_, 1) := by decide +kernel
theorem dX2_checkOverride_30 : decode cX2_checkOverride 30 = .ok (.aload_n 0, 1) := by decide +kernel
theorem dX2_checkOverride_31 : decode cX2_checkOverride 31 = .ok (.getfield 51, 3) := by decide +kernel
theorem dX2_checkOverride_34 : decode cX2_checkOverride 34 = .ok (.iload_n 1, 1) := by decide +kernel
theorem dX2_checkOverride_35 : decode cX2_checkOverride 35 = .ok (.baload, 1) := by decide +kernel
theorem dX2_checkOverride_36 : decode cX2_checkOverride 36 = .ok (.ifCond .ne 46, 3) := by decide +kernel
theorem dX2_checkOverride_39 : decode cX2_checkOverride 39 = .ok (.aload_n 0, 1) := by decide +kernel
theorem dX2_checkOverride_40 : decode cX2_checkOverride 40 = .ok (.getfield 51, 3) := by decide +kernel
theorem dX2_checkOverride_43 : decode cX2_checkOverride 43 = .ok (.iload_n 2, 1) := by decide +kernel
theorem dX2_checkOverride_44 : decode cX2_checkOverride 44 = .ok (.baload, 1) := by decide +kernel
theorem dX2_checkOverride_45 : decode cX2_checkOverride 45 = .ok (.ifCond .ne 37, 3) := by decide +kernel
theorem dX2_checkOverride_48 : decode cX2_checkOverride 48 = .ok (.aload_n 0, 1) := by decide +kernel
theorem dX2_checkOverride_49 : decode cX2_checkOverride 49 = .ok (.getfield 48, 3) := by decide +kernel
theorem dX2_checkOverride_52 : decode cX2_checkOverride 52 = .ok (.iload_n 1, 1) := by decide +kernel
theorem dX2_checkOverride_53 : decode cX2_checkOverride 53 = .ok (.iaload, 1) := by decide +kernel
theorem dX2_checkOverride_54 : decode cX2_checkOverride 54 = .ok (.aload_n 0, 1) := by decide +kernel
theorem dX2_checkOverride_55 : decode cX2_checkOverride 55 = .ok (.getfield 48, 3) := by decide +kernel
theorem dX2_checkOverride_58 : decode cX2_checkOverride 58 = .ok (.iload_n 2, 1) := by decide +kernel
theorem dX2_checkOverride_59 : decode cX2_checkOverride 59 = .ok (.iaload, 1) := by decide +kernel
theorem dX2_checkOverride_60 : decode cX2_checkOverride 60 = .ok (.if_icmp .ne 22, 3) := by decide +kernel
theorem dX2_checkOverride_63 : decode cX2_checkOverride 63 = .ok (.aload_n 0, 1) := by decide +kernel
theorem dX2_checkOverride_64 : decode cX2_checkOverride 64 = .ok (.getfield 58, 3) := by decide +kernel
theorem dX2_checkOverride_67 : decode cX2_checkOverride 67 = .ok (.iload_n 1, 1) := by decide +kernel
theorem dX2_checkOverride_68 : decode cX2_checkOverride 68 = .ok (.iaload, 1) := by decide +kernel
theorem dX2_checkOverride_69 : decode cX2_checkOverride 69 = .ok (.aload_n 0, 1) := by decide +kernel
theorem dX2_checkOverride_70 : decode cX2_checkOverride 70 = .ok (.getfield 58, 3) := by decide +kernel
theorem dX2_checkOverride_73 : decode cX2_checkOverride 73 = .ok (.iload_n 2, 1) := by decide +kernel
theorem dX2_checkOverride_74 : decode cX2_checkOverride 74 = .ok (.iaload, 1) := by decide +kernel
theorem dX2_checkOverride_75 : decode cX2_checkOverride 75 = .ok (.if_icmp .ne 7, 3) := by decide +kernel
theorem dX2_checkOverride_78 : decode cX2_checkOverride 78 = .ok (.iconst 1, 1) := by decide +kernel
theorem dX2_checkOverride_79 : decode cX2_checkOverride 79 = .ok (.goto 4, 3) := by decide +kernel
theorem dX2_checkOverride_82 : decode cX2_checkOverride 82 = .ok (.iconst 0, 1) := by decide +kernel
theorem dX2_checkOverride_83 : decode cX2_checkOverride 83 = .ok (.istore_n 3, 1) := by decide +kernel
theorem dX2_checkOverride_84 : decode cX2_checkOverride 84 = .ok (.iconst 0, 1) := by decide +kernel
theorem dX2_checkOverride_85 : decode cX2_checkOverride 85 = .ok (.istore 4, 2) := by decide +kernel
theorem dX2_checkOverride_87 : decode cX2_checkOverride 87 = .ok (.iload 4, 2) := by decide +kernel
theorem dX2_checkOverride_89 : decode cX2_checkOverride 89 = .ok (.aload_n 0, 1) := by decide +kernel
theorem dX2_checkOverride_90 : decode cX2_checkOverride 90 = .ok (.getfield 58, 3) := by decide +kernel
theorem dX2_checkOverride_93 : decode cX2_checkOverride 93 = .ok (.iload_n 1, 1) := by decide +kernel
theorem dX2_checkOverride_94 : decode cX2_checkOverride 94 = .ok (.iaload, 1) := by decide +kernel
theorem dX2_checkOverride_95 : decode cX2_checkOverride 95 = .ok (.if_icmp .ge 36, 3) := by decide +kernel
theorem dX2_checkOverride_98 : decode cX2_checkOverride 98 = .ok (.iload_n 3, 1) := by decide +kernel
theorem dX2_checkOverride_99 : decode cX2_checkOverride 99 = .ok (.ifCond .eq 32, 3) := by decide +kernel
theorem dX2_checkOverride_102 : decode cX2_checkOverride 102 = .ok (.aload_n 0, 1) := by decide +kernel
theorem dX2_checkOverride_103 : decode cX2_checkOverride 103 = .ok (.iload_n 1, 1) := by decide +kernel
theorem dX2_checkOverride_104 : decode cX2_checkOverride 104 = .ok (.iload 4, 2) := by decide +kernel
theorem dX2_checkOverride_106 : decode cX2_checkOverride 106 = .ok (.invokevirtual 157, 3) := by decide +kernel
theorem dX2_checkOverride_109 : decode cX2_checkOverride 109 = .ok (.aload_n 0, 1) := by decide +kernel
theorem dX2_checkOverride_110 : decode cX2_checkOverride 110 = .ok (.iload_n 2, 1) := by decide +kernel
theorem dX2_checkOverride_111 : decode cX2_checkOverride 111 = .ok (.iload 4, 2) := by decide +kernel
theorem dX2_checkOverride_113 : decode cX2_checkOverride 113 = .ok (.invokevirtual 157, 3) := by decide +kernel
theorem dX2_checkOverride_116 : decode cX2_checkOverride 116 = .ok (.if_icmp .ne 7, 3) := by decide +kernel
theorem dX2_checkOverride_119 : decode cX2_checkOverride 119 = .ok (.iconst 1, 1) := by decide +kernel
theorem dX2_checkOverride_120 : decode cX2_checkOverride 120 = .ok (.goto 4, 3) := by decide +kernel
theorem dX2_checkOverride_123 : decode cX2_checkOverride 123 = .ok (.iconst 0, 1) := by decide +kernel
theorem dX2_checkOverride_124 : decode cX2_checkOverride 124 = .ok (.istore_n 3, 1) := by decide +kernel
theorem dX2_checkOverride_125 : decode cX2_checkOverride 125 = .ok (.iinc 4 1, 3) := by decide +kernel
theorem dX2_checkOverride_128 : decode cX2_checkOverride 128 = .ok (.goto (-41), 3) := by decide +kernel
theorem dX2_checkOverride_131 : decode cX2_checkOverride 131 = .ok (.iload_n 3, 1) := by decide +kernel
theorem dX2_checkOverride_132 : decode cX2_checkOverride 132 = .ok (.ifCond .ne 18, 3) := by decide +kernel
theorem dX2_checkOverride_135 : decode cX2_checkOverride 135 = .ok (.aload_n 0, 1) := by decide +kernel
theorem dX2_checkOverride_136 : decode cX2_checkOverride 136 = .ok (.getfield 74, 3) := by decide +kernel
theorem dX2_checkOverride_139 : decode cX2_checkOverride 139 = .ok (.bipush 10, 2) := by decide +kernel
theorem dX2_checkOverride_141 : decode cX2_checkOverride 141 = .ok (.aload_n 0, 1) := by decide +kernel
theorem dX2_checkOverride_142 : decode cX2_checkOverride 142 = .ok (.getfield 42, 3) := by decide +kernel
theorem dX2_checkOverride_145 : decode cX2_checkOverride 145 = .ok (.iload_n 1, 1) := by decide +kernel
theorem dX2_checkOverride_146 : decode cX2_checkOverride 146 = .ok (.iaload, 1) := by decide +kernel
theorem dX2_checkOverride_147 : decode cX2_checkOverride 147 = .ok (.invokevirtual 186, 3) := by decide +kernel
theorem dX2_checkOverride_150 : decode cX2_checkOverride 150 = .ok (.return_, 1) := by decide +kernel
theorem dX3_read_0 : decode cX3_read 0 = .ok (.aload_n 0, 1) := by decide +kernel
theorem dX3_read_1 : decode cX3_read 1 = .ok (.aload_n 1, 1) := by decide +kernel
theorem dX3_read_2 : decode cX3_read 2 = .ok (.putfield 9, 3) := by decide +kernel
theorem dX3_read_5 : decode cX3_read 5 = .ok (.aload_n 0, 1) := by decide +kernel
theorem dX3_read_6 : decode cX3_read 6 = .ok (.iload_n 2, 1) := by decide +kernel
theorem dX3_read_7 : decode cX3_read 7 = .ok (.aload_n 1, 1) := by decide +kernel
theorem dX3_read_8 : decode cX3_read 8 = .ok (.arraylength, 1) := by decide +kernel
theorem dX3_read_9 : decode cX3_read 9 = .ok (.invokestatic 33, 3) := by decide +kernel
theorem dX3_read_12 : decode cX3_read 12 = .ok (.putfield 39, 3) := by decide +kernel
theorem dX3_read_15 : decode cX3_read 15 = .ok (.aload_n 0, 1) := by decide +kernel
theorem dX3_read_16 : decode cX3_read 16 = .ok (.iconst 0, 1) := by decide +kernel
theorem dX3_read_17 : decode cX3_read 17 = .ok (.putfield 43, 3) := by decide +kernel
theorem dX3_read_20 : decode cX3_read 20 = .ok (.aload_n 0, 1) := by decide +kernel
theorem dX3_read_21 : decode cX3_read 21 = .ok (.iconst (-1), 1) := by decide +kernel
theorem dX3_read_22 : decode cX3_read 22 = .ok (.putfield 46, 3) := by decide +kernel
theorem dX3_read_25 : decode cX3_read 25 = .ok (.aload_n 0, 1) := by decide +kernel
theorem dX3_read_26 : decode cX3_read 26 = .ok (.iconst 0, 1) := by decide +kernel
theorem dX3_read_27 : decode cX3_read 27 = .ok (.putfield 49, 3) := by decide +kernel
theorem dX3_read_30 : decode cX3_read 30 = .ok (.aload_n 0, 1) := by decide +kernel
theorem dX3_read_31 : decode cX3_read 31 = .ok (.iconst 0, 1) := by decide +kernel
theorem dX3_read_32 : decode cX3_read 32 = .ok (.putfield 52, 3) := by decide +kernel
theorem dX3_read_35 : decode cX3_read 35 = .ok (.aload_n 0, 1) := by decide +kernel
theorem dX3_read_36 : decode cX3_read 36 = .ok (.invokevirtual 55, 3) := by decide +kernel
theorem dX3_read_39 : decode cX3_read 39 = .ok (.aload_n 0, 1) := by decide +kernel
theorem dX3_read_40 : decode cX3_read 40 = .ok (.aload_n 0, 1) := by decide +kernel
theorem dX3_read_41 : decode cX3_read 41 = .ok (.invokevirtual 58, 3) := by decide +kernel
theorem dX3_read_44 : decode cX3_read 44 = .ok (.putfield 62, 3) := by decide +kernel
theorem dX3_read_47 : decode cX3_read 47 = .ok (.aload_n 0, 1) := by decide +kernel
theorem dX3_read_48 : decode cX3_read 48 = .ok (.aload_n 0, 1) := by decide +kernel
theorem dX3_read_49 : decode cX3_read 49 = .ok (.invokevirtual 58, 3) := by decide +kernel
theorem dX3_read_52 : decode cX3_read 52 = .ok (.putfield 65, 3) := by decide +kernel
theorem dX3_read_55 : decode cX3_read 55 = .ok (.aload_n 0, 1) := by decide +kernel
theorem dX3_read_56 : decode cX3_read 56 = .ok (.invokevirtual 68, 3) := by decide +kernel
theorem dX3_read_59 : decode cX3_read 59 = .ok (.aload_n 0, 1) := by decide +kernel
theorem dX3_read_60 : decode cX3_read 60 = .ok (.iconst 0, 1) := by decide +kernel
theorem dX3_read_61 : decode cX3_read 61 = .ok (.bipush 12, 2) := by decide +kernel
theorem dX3_read_63 : decode cX3_read 63 = .ok (.invokevirtual 71, 3) := by decide +kernel
theorem dX3_read_66 : decode cX3_read 66 = .ok (.istore_n 3, 1) := by decide +kernel
theorem dX3_read_67 : decode cX3_read 67 = .ok (.iconst 0, 1) := by decide +kernel
theorem dX3_read_68 : decode cX3_read 68 = .ok (.istore 4, 2) := by decide +kernel
theorem dX3_read_70 : decode cX3_read 70 = .ok (.iload 4, 2) := by decide +kernel
theorem dX3_read_72 : decode cX3_read 72 = .ok (.iload_n 3, 1) := by decide +kernel
theorem dX3_read_73 : decode cX3_read 73 = .ok (.if_icmp .ge 36, 3) := by decide +kernel
theorem dX3_read_76 : decode cX3_read 76 = .ok (.aload_n 0, 1) := by decide +kernel
theorem dX3_read_77 : decode cX3_read 77 = .ok (.getfield 46, 3) := by decide +kernel
theorem dX3_read_80 : decode cX3_read 80 = .ok (.iconst (-1), 1) := by decide +kernel
theorem dX3_read_81 : decode cX3_read 81 = .ok (.if_icmp .ne 28, 3) := by decide +kernel
theorem dX3_read_84 : decode cX3_read 84 = .ok (.aload_n 0, 1) := by decide +kernel
theorem dX3_read_85 : decode cX3_read 85 = .ok (.iload 4, 2) := by decide +kernel
theorem dX3_read_87 : decode cX3_read 87 = .ok (.bipush 12, 2) := by decide +kernel
theorem dX3_read_89 : decode cX3_read 89 = .ok (.imul, 1) := by decide +kernel
theorem dX3_read_90 : decode cX3_read 90 = .ok (.invokevirtual 74, 3) := by decide +kernel
theorem dX3_read_93 : decode cX3_read 93 = .ok (.aload_n 0, 1) := by decide +kernel
theorem dX3_read_94 : decode cX3_read 94 = .ok (.dup, 1) := by decide +kernel
theorem dX3_read_95 : decode cX3_read 95 = .ok (.getfield 52, 3) := by decide +kernel
theorem dX3_read_98 : decode cX3_read 98 = .ok (.iconst 1, 1) := by decide +kernel
theorem dX3_read_99 : decode cX3_read 99 = .ok (.iadd, 1) := by decide +kernel
theorem dX3_read_100 : decode cX3_read 100 = .ok (.putfield 52, 3) := by decide +kernel
theorem dX3_read_103 : decode cX3_read 103 = .ok (.iinc 4 1, 3) := by decide +kernel
theorem dX3_read_106 : decode cX3_read 106 = .ok (.goto (-36), 3) := by decide +kernel
theorem dX3_read_109 : decode cX3_read 109 = .ok (.aload_n 0, 1) := by decide +kernel
theorem dX3_read_110 : decode cX3_read 110 = .ok (.getfield 43, 3) := by decide +kernel
theorem dX3_read_113 : decode cX3_read 113 = .ok (.aload_n 0, 1) := by decide +kernel
theorem dX3_read_114 : decode cX3_read 114 = .ok (.getfield 39, 3) := by decide +kernel
theorem dX3_read_117 : decode cX3_read 117 = .ok (.if_icmp .ge 11, 3) := by decide +kernel
theorem dX3_read_120 : decode cX3_read 120 = .ok (.aload_n 0, 1) := by decide +kernel
theorem dX3_read_121 : decode cX3_read 121 = .ok (.aload_n 0, 1) := by decide +kernel
theorem dX3_read_122 : decode cX3_read 122 = .ok (.getfield 43, 3) := by decide +kernel
theorem dX3_read_125 : decode cX3_read 125 = .ok (.invokevirtual 78, 3) := by decide +kernel
theorem dX3_read_128 : decode cX3_read 128 = .ok (.aload_n 0, 1) := by decide +kernel
theorem dX3_read_129 : decode cX3_read 129 = .ok (.getfield 46, 3) := by decide +kernel
theorem dX3_read_132 : decode cX3_read 132 = .ok (.ireturn, 1) := by decide +kernel
theorem dX3_readConstants_0 : decode cX3_readConstants 0 = .ok (.aload_n 0, 1) := by decide +kernel
theorem dX3_readConstants_1 : decode cX3_readConstants 1 = .ok (.bipush 74, 2) := by decide +kernel
theorem dX3_readConstants_3 : decode cX3_readConstants 3 = .ok (.bipush 74, 2) := by decide +kernel
theorem dX3_readConstants_5 : decode cX3_readConstants 5 = .ok (.invokevirtual 71, 3) := by decide +kernel
theorem dX3_readConstants_8 : decode cX3_readConstants 8 = .ok (.pop, 1) := by decide +kernel
theorem dX3_readConstants_9 : decode cX3_readConstants 9 = .ok (.aload_n 0, 1) := by decide +kernel
theorem dX3_readConstants_10 : decode cX3_readConstants 10 = .ok (.bipush 77, 2) := by decide +kernel
theorem dX3_readConstants_12 : decode cX3_readConstants 12 = .ok (.bipush 77, 2) := by decide +kernel
theorem dX3_readConstants_14 : decode cX3_readConstants 14 = .ok (.invokevirtual 71, 3) := by decide +kernel
theorem dX3_readConstants_17 : decode cX3_readConstants 17 = .ok (.pop, 1) := by decide +kernel
theorem dX3_readConstants_18 : decode cX3_readConstants 18 = .ok (.aload_n 0, 1) := by decide +kernel
theorem dX3_readConstants_19 : decode cX3_readConstants 19 = .ok (.aload_n 0, 1) := by decide +kernel
theorem dX3_readConstants_20 : decode cX3_readConstants 20 = .ok (.invokevirtual 87, 3) := by decide +kernel
theorem dX3_readConstants_23 : decode cX3_readConstants 23 = .ok (.putfield 90, 3) := by decide +kernel
theorem dX3_readConstants_26 : decode cX3_readConstants 26 = .ok (.iconst 1, 1) := by decide +kernel
theorem dX3_readConstants_27 : decode cX3_readConstants 27 = .ok (.istore_n 1, 1) := by decide +kernel
theorem dX3_readConstants_28 : decode cX3_readConstants 28 = .ok (.iload_n 1, 1) := by decide +kernel
theorem dX3_readConstants_29 : decode cX3_readConstants 29 = .ok (.aload_n 0, 1) := by decide +kernel
theorem dX3_readConstants_30 : decode cX3_readConstants 30 = .ok (.getfield 90, 3) := by decide +kernel
theorem dX3_readConstants_33 : decode cX3_readConstants 33 = .ok (.if_icmp .gt 22, 3) := by decide +kernel
theorem dX3_readConstants_36 : decode cX3_readConstants 36 = .ok (.aload_n 0, 1) := by decide +kernel
theorem dX3_readConstants_37 : decode cX3_readConstants 37 = .ok (.getfield 46, 3) := by decide +kernel
theorem dX3_readConstants_40 : decode cX3_readConstants 40 = .ok (.iconst (-1), 1) := by decide +kernel
theorem dX3_readConstants_41 : decode cX3_readConstants 41 = .ok (.if_icmp .ne 14, 3) := by decide +kernel
theorem dX3_readConstants_44 : decode cX3_readConstants 44 = .ok (.aload_n 0, 1) := by decide +kernel
theorem dX3_readConstants_45 : decode cX3_readConstants 45 = .ok (.iload_n 1, 1) := by decide +kernel
theorem dX3_readConstants_46 : decode cX3_readConstants 46 = .ok (.invokevirtual 93, 3) := by decide +kernel
theorem dX3_readConstants_49 : decode cX3_readConstants 49 = .ok (.iinc 1 1, 3) := by decide +kernel
theorem dX3_readConstants_52 : decode cX3_readConstants 52 = .ok (.goto (-24), 3) := by decide +kernel
theorem dX3_readConstants_55 : decode cX3_readConstants 55 = .ok (.iconst 1, 1) := by decide +kernel
theorem dX3_readConstants_56 : decode cX3_readConstants 56 = .ok (.istore_n 1, 1) := by decide +kernel
theorem dX3_readConstants_57 : decode cX3_readConstants 57 = .ok (.iload_n 1, 1) := by decide +kernel
theorem dX3_readConstants_58 : decode cX3_readConstants 58 = .ok (.aload_n 0, 1) := by decide +kernel
theorem dX3_readConstants_59 : decode cX3_readConstants 59 = .ok (.getfield 90, 3) := by decide +kernel
theorem dX3_readConstants_62 : decode cX3_readConstants 62 = .ok (.if_icmp .gt 22, 3) := by decide +kernel
theorem dX3_readConstants_65 : decode cX3_readConstants 65 = .ok (.aload_n 0, 1) := by decide +kernel
theorem dX3_readConstants_66 : decode cX3_readConstants 66 = .ok (.getfield 46, 3) := by decide +kernel
theorem dX3_readConstants_69 : decode cX3_readConstants 69 = .ok (.iconst (-1), 1) := by decide +kernel
theorem dX3_readConstants_70 : decode cX3_readConstants 70 = .ok (.if_icmp .ne 14, 3) := by decide +kernel
theorem dX3_readConstants_73 : decode cX3_readConstants 73 = .ok (.aload_n 0, 1) := by decide +kernel
theorem dX3_readConstants_74 : decode cX3_readConstants 74 = .ok (.iload_n 1, 1) := by decide +kernel
theorem dX3_readConstants_75 : decode cX3_readConstants 75 = .ok (.invokevirtual 96, 3) := by decide +kernel
theorem dX3_readConstants_78 : decode cX3_readConstants 78 = .ok (.iinc 1 1, 3) := by decide +kernel
theorem dX3_readConstants_81 : decode cX3_readConstants 81 = .ok (.goto (-24), 3) := by decide +kernel
theorem dX3_readConstants_84 : decode cX3_readConstants 84 = .ok (.return_, 1) := by decide +kernel
theorem dX3_readConstant_0 : decode cX3_readConstant 0 = .ok (.aload_n 0, 1) := by decide +kernel
theorem dX3_readConstant_1 : decode cX3_readConstant 1 = .ok (.iconst 1, 1) := by decide +kernel
theorem dX3_readConstant_2 : decode cX3_readConstant 2 = .ok (.iconst 4, 1) := by decide +kernel
theorem dX3_readConstant_3 : decode cX3_readConstant 3 = .ok (.invokevirtual 71, 3) := by decide +kernel
theorem dX3_readConstant_6 : decode cX3_readConstant 6 = .ok (.istore_n 2, 1) := by decide +kernel
theorem dX3_readConstant_7 : decode cX3_readConstant 7 = .ok (.iload_n 2, 1) := by decide +kernel
theorem dX3_readConstant_8 : decode cX3_readConstant 8 = .ok (.iconst 2, 1) := by decide +kernel
theorem dX3_readConstant_9 : decode cX3_readConstant 9 = .ok (.if_icmp .ne 7, 3) := by decide +kernel
theorem dX3_readConstant_12 : decode cX3_readConstant 12 = .ok (.iconst 4, 1) := by decide +kernel
theorem dX3_readConstant_13 : decode cX3_readConstant 13 = .ok (.goto 13, 3) := by decide +kernel
theorem dX3_readConstant_16 : decode cX3_readConstant 16 = .ok (.iload_n 2, 1) := by decide +kernel
theorem dX3_readConstant_17 : decode cX3_readConstant 17 = .ok (.iconst 3, 1) := by decide +kernel
theorem dX3_readConstant_18 : decode cX3_readConstant 18 = .ok (.if_icmp .ne 7, 3) := by decide +kernel
theorem dX3_readConstant_21 : decode cX3_readConstant 21 = .ok (.iconst 1, 1) := by decide +kernel
theorem dX3_readConstant_22 : decode cX3_readConstant 22 = .ok (.goto 4, 3) := by decide +kernel
theorem dX3_readConstant_25 : decode cX3_readConstant 25 = .ok (.iconst 3, 1) := by decide +kernel
theorem dX3_readConstant_26 : decode cX3_readConstant 26 = .ok (.istore_n 3, 1) := by decide +kernel
theorem dX3_readConstant_27 : decode cX3_readConstant 27 = .ok (.iload_n 2, 1) := by decide +kernel
theorem dX3_readConstant_28 : decode cX3_readConstant 28 = .ok (.iconst 1, 1) := by decide +kernel
theorem dX3_readConstant_29 : decode cX3_readConstant 29 = .ok (.if_icmp .ne 11, 3) := by decide +kernel
theorem dX3_readConstant_32 : decode cX3_readConstant 32 = .ok (.aload_n 0, 1) := by decide +kernel
theorem dX3_readConstant_33 : decode cX3_readConstant 33 = .ok (.iconst 1, 1) := by decide +kernel
theorem dX3_readConstant_34 : decode cX3_readConstant 34 = .ok (.bipush 120, 2) := by decide +kernel
theorem dX3_readConstant_36 : decode cX3_readConstant 36 = .ok (.invokevirtual 71, 3) := by decide +kernel
theorem dX3_readConstant_39 : decode cX3_readConstant 39 = .ok (.istore_n 3, 1) := by decide +kernel
theorem dX3_readConstant_40 : decode cX3_readConstant 40 = .ok (.aload_n 0, 1) := by decide +kernel
theorem dX3_readConstant_41 : decode cX3_readConstant 41 = .ok (.getfield 15, 3) := by decide +kernel
theorem dX3_readConstant_44 : decode cX3_readConstant 44 = .ok (.iload_n 1, 1) := by decide +kernel
theorem dX3_readConstant_45 : decode cX3_readConstant 45 = .ok (.iload_n 2, 1) := by decide +kernel
theorem dX3_readConstant_46 : decode cX3_readConstant 46 = .ok (.iastore, 1) := by decide +kernel
theorem dX3_readConstant_47 : decode cX3_readConstant 47 = .ok (.aload_n 0, 1) := by decide +kernel
theorem dX3_readConstant_48 : decode cX3_readConstant 48 = .ok (.getfield 19, 3) := by decide +kernel
theorem dX3_readConstant_51 : decode cX3_readConstant 51 = .ok (.iload_n 1, 1) := by decide +kernel
theorem dX3_readConstant_52 : decode cX3_readConstant 52 = .ok (.aload_n 0, 1) := by decide +kernel
theorem dX3_readConstant_53 : decode cX3_readConstant 53 = .ok (.getfield 43, 3) := by decide +kernel
theorem dX3_readConstant_56 : decode cX3_readConstant 56 = .ok (.iastore, 1) := by decide +kernel
theorem dX3_readConstant_57 : decode cX3_readConstant 57 = .ok (.aload_n 0, 1) := by decide +kernel
theorem dX3_readConstant_58 : decode cX3_readConstant 58 = .ok (.getfield 22, 3) := by decide +kernel
theorem dX3_readConstant_61 : decode cX3_readConstant 61 = .ok (.iload_n 1, 1) := by decide +kernel
theorem dX3_readConstant_62 : decode cX3_readConstant 62 = .ok (.iload_n 2, 1) := by decide +kernel
theorem dX3_readConstant_63 : decode cX3_readConstant 63 = .ok (.iconst 1, 1) := by decide +kernel
theorem dX3_readConstant_64 : decode cX3_readConstant 64 = .ok (.if_icmp .ne 12, 3) := by decide +kernel
theorem dX3_readConstant_67 : decode cX3_readConstant 67 = .ok (.aload_n 0, 1) := by decide +kernel
theorem dX3_readConstant_68 : decode cX3_readConstant 68 = .ok (.getfield 43, 3) := by decide +kernel
theorem dX3_readConstant_71 : decode cX3_readConstant 71 = .ok (.iload_n 3, 1) := by decide +kernel
theorem dX3_readConstant_72 : decode cX3_readConstant 72 = .ok (.iadd, 1) := by decide +kernel
theorem dX3_readConstant_73 : decode cX3_readConstant 73 = .ok (.goto 7, 3) := by decide +kernel
theorem dX3_readConstant_76 : decode cX3_readConstant 76 = .ok (.aload_n 0, 1) := by decide +kernel
theorem dX3_readConstant_77 : decode cX3_readConstant 77 = .ok (.getfield 43, 3) := by decide +kernel
theorem dX3_readConstant_80 : decode cX3_readConstant 80 = .ok (.iastore, 1) := by decide +kernel
theorem dX3_readConstant_81 : decode cX3_readConstant 81 = .ok (.iconst 0, 1) := by decide +kernel
theorem dX3_readConstant_82 : decode cX3_readConstant 82 = .ok (.istore 4, 2) := by decide +kernel
theorem dX3_readConstant_84 : decode cX3_readConstant 84 = .ok (.iload 4, 2) := by decide +kernel
theorem dX3_readConstant_86 : decode cX3_readConstant 86 = .ok (.iload_n 3, 1) := by decide +kernel
theorem dX3_readConstant_87 : decode cX3_readConstant 87 = .ok (.if_icmp .ge 39, 3) := by decide +kernel
theorem dX3_readConstant_90 : decode cX3_readConstant 90 = .ok (.aload_n 0, 1) := by decide +kernel
theorem dX3_readConstant_91 : decode cX3_readConstant 91 = .ok (.getfield 46, 3) := by decide +kernel
theorem dX3_readConstant_94 : decode cX3_readConstant 94 = .ok (.iconst (-1), 1) := by decide +kernel
theorem dX3_readConstant_95 : decode cX3_readConstant 95 = .ok (.if_icmp .ne 31, 3) := by decide +kernel
theorem dX3_readConstant_98 : decode cX3_readConstant 98 = .ok (.iload_n 2, 1) := by decide +kernel
theorem dX3_readConstant_99 : decode cX3_readConstant 99 = .ok (.iconst 1, 1) := by decide +kernel
theorem dX3_readConstant_100 : decode cX3_readConstant 100 = .ok (.if_icmp .ne 15, 3) := by decide +kernel
theorem dX3_readConstant_103 : decode cX3_readConstant 103 = .ok (.aload_n 0, 1) := by decide +kernel
theorem dX3_readConstant_104 : decode cX3_readConstant 104 = .ok (.bipush 33, 2) := by decide +kernel
theorem dX3_readConstant_106 : decode cX3_readConstant 106 = .ok (.bipush 126, 2) := by decide +kernel
theorem dX3_readConstant_108 : decode cX3_readConstant 108 = .ok (.invokevirtual 71, 3) := by decide +kernel
theorem dX3_readConstant_111 : decode cX3_readConstant 111 = .ok (.pop, 1) := by decide +kernel
theorem dX3_readConstant_112 : decode cX3_readConstant 112 = .ok (.goto 8, 3) := by decide +kernel
theorem dX3_readConstant_115 : decode cX3_readConstant 115 = .ok (.aload_n 0, 1) := by decide +kernel
theorem dX3_readConstant_116 : decode cX3_readConstant 116 = .ok (.invokevirtual 87, 3) := by decide +kernel
theorem dX3_readConstant_119 : decode cX3_readConstant 119 = .ok (.pop, 1) := by decide +kernel
theorem dX3_readConstant_120 : decode cX3_readConstant 120 = .ok (.iinc 4 1, 3) := by decide +kernel
theorem dX3_readConstant_123 : decode cX3_readConstant 123 = .ok (.goto (-39), 3) := by decide +kernel
theorem dX3_readConstant_126 : decode cX3_readConstant 126 = .ok (.return_, 1) := by decide +kernel
theorem dX3_checkConstant_0 : decode cX3_checkConstant 0 = .ok (.aload_n 0, 1) := by decide +kernel
theorem dX3_checkConstant_1 : decode cX3_checkConstant 1 = .ok (.getfield 19, 3) := by decide +kernel
theorem dX3_checkConstant_4 : decode cX3_checkConstant 4 = .ok (.iload_n 1, 1) := by decide +kernel
theorem dX3_checkConstant_5 : decode cX3_checkConstant 5 = .ok (.iaload, 1) := by decide +kernel
theorem dX3_checkConstant_6 : decode cX3_checkConstant 6 = .ok (.istore_n 2, 1) := by decide +kernel
theorem dX3_checkConstant_7 : decode cX3_checkConstant 7 = .ok (.aload_n 0, 1) := by decide +kernel
theorem dX3_checkConstant_8 : decode cX3_checkConstant 8 = .ok (.getfield 15, 3) := by decide +kernel
theorem dX3_checkConstant_11 : decode cX3_checkConstant 11 = .ok (.iload_n 1, 1) := by decide +kernel
theorem dX3_checkConstant_12 : decode cX3_checkConstant 12 = .ok (.iaload, 1) := by decide +kernel
theorem dX3_checkConstant_13 : decode cX3_checkConstant 13 = .ok (.iconst 3, 1) := by decide +kernel
theorem dX3_checkConstant_14 : decode cX3_checkConstant 14 = .ok (.if_icmp .ne 39, 3) := by decide +kernel
theorem dX3_checkConstant_17 : decode cX3_checkConstant 17 = .ok (.aload_n 0, 1) := by decide +kernel
theorem dX3_checkConstant_18 : decode cX3_checkConstant 18 = .ok (.iload_n 1, 1) := by decide +kernel
theorem dX3_checkConstant_19 : decode cX3_checkConstant 19 = .ok (.iconst 0, 1) := by decide +kernel
theorem dX3_checkConstant_20 : decode cX3_checkConstant 20 = .ok (.invokevirtual 99, 3) := by decide +kernel
theorem dX3_checkConstant_23 : decode cX3_checkConstant 23 = .ok (.istore_n 3, 1) := by decide +kernel
theorem dX3_checkConstant_24 : decode cX3_checkConstant 24 = .ok (.aload_n 0, 1) := by decide +kernel
theorem dX3_checkConstant_25 : decode cX3_checkConstant 25 = .ok (.iload_n 3, 1) := by decide +kernel
theorem dX3_checkConstant_26 : decode cX3_checkConstant 26 = .ok (.invokevirtual 102, 3) := by decide +kernel
theorem dX3_checkConstant_29 : decode cX3_checkConstant 29 = .ok (.ifCond .ne 24, 3) := by decide +kernel
theorem dX3_checkConstant_32 : decode cX3_checkConstant 32 = .ok (.aload_n 0, 1) := by decide +kernel
theorem dX3_checkConstant_33 : decode cX3_checkConstant 33 = .ok (.iload_n 3, 1) := by decide +kernel
theorem dX3_checkConstant_34 : decode cX3_checkConstant 34 = .ok (.invokevirtual 106, 3) := by decide +kernel
theorem dX3_checkConstant_37 : decode cX3_checkConstant 37 = .ok (.ifCond .eq 11, 3) := by decide +kernel
theorem dX3_checkConstant_40 : decode cX3_checkConstant 40 = .ok (.aload_n 0, 1) := by decide +kernel
theorem dX3_checkConstant_41 : decode cX3_checkConstant 41 = .ok (.iload_n 3, 1) := by decide +kernel
theorem dX3_checkConstant_42 : decode cX3_checkConstant 42 = .ok (.invokevirtual 109, 3) := by decide +kernel
theorem dX3_checkConstant_45 : decode cX3_checkConstant 45 = .ok (.ifCond .ne 8, 3) := by decide +kernel
theorem dX3_checkConstant_48 : decode cX3_checkConstant 48 = .ok (.aload_n 0, 1) := by decide +kernel
theorem dX3_checkConstant_49 : decode cX3_checkConstant 49 = .ok (.iload_n 2, 1) := by decide +kernel
theorem dX3_checkConstant_50 : decode cX3_checkConstant 50 = .ok (.invokevirtual 78, 3) := by decide +kernel
theorem dX3_checkConstant_53 : decode cX3_checkConstant 53 = .ok (.aload_n 0, 1) := by decide +kernel
theorem dX3_checkConstant_54 : decode cX3_checkConstant 54 = .ok (.getfield 15, 3) := by decide +kernel
theorem dX3_checkConstant_57 : decode cX3_checkConstant 57 = .ok (.iload_n 1, 1) := by decide +kernel
theorem dX3_checkConstant_58 : decode cX3_checkConstant 58 = .ok (.iaload, 1) := by decide +kernel
theorem dX3_checkConstant_59 : decode cX3_checkConstant 59 = .ok (.iconst 4, 1) := by decide +kernel
theorem dX3_checkConstant_60 : decode cX3_checkConstant 60 = .ok (.if_icmp .ne 73, 3) := by decide +kernel
theorem dX3_checkConstant_63 : decode cX3_checkConstant 63 = .ok (.aload_n 0, 1) := by decide +kernel
theorem dX3_checkConstant_64 : decode cX3_checkConstant 64 = .ok (.iload_n 1, 1) := by decide +kernel
theorem dX3_checkConstant_65 : decode cX3_checkConstant 65 = .ok (.iconst 2, 1) := by decide +kernel
theorem dX3_checkConstant_66 : decode cX3_checkConstant 66 = .ok (.invokevirtual 99, 3) := by decide +kernel
theorem dX3_checkConstant_69 : decode cX3_checkConstant 69 = .ok (.istore_n 3, 1) := by decide +kernel
theorem dX3_checkConstant_70 : decode cX3_checkConstant 70 = .ok (.aload_n 0, 1) := by decide +kernel
theorem dX3_checkConstant_71 : decode cX3_checkConstant 71 = .ok (.aload_n 0, 1) := by decide +kernel
theorem dX3_checkConstant_72 : decode cX3_checkConstant 72 = .ok (.iload_n 1, 1) := by decide +kernel
theorem dX3_checkConstant_73 : decode cX3_checkConstant 73 = .ok (.iconst 0, 1) := by decide +kernel
theorem dX3_checkConstant_74 : decode cX3_checkConstant 74 = .ok (.invokevirtual 99, 3) := by decide +kernel
theorem dX3_checkConstant_77 : decode cX3_checkConstant 77 = .ok (.invokevirtual 112, 3) := by decide +kernel
theorem dX3_checkConstant_80 : decode cX3_checkConstant 80 = .ok (.iconst 3, 1) := by decide +kernel
theorem dX3_checkConstant_81 : decode cX3_checkConstant 81 = .ok (.if_icmp .eq 8, 3) := by decide +kernel
theorem dX3_checkConstant_84 : decode cX3_checkConstant 84 = .ok (.aload_n 0, 1) := by decide +kernel
theorem dX3_checkConstant_85 : decode cX3_checkConstant 85 = .ok (.iload_n 2, 1) := by decide +kernel
theorem dX3_checkConstant_86 : decode cX3_checkConstant 86 = .ok (.invokevirtual 78, 3) := by decide +kernel
theorem dX3_checkConstant_89 : decode cX3_checkConstant 89 = .ok (.aload_n 0, 1) := by decide +kernel
theorem dX3_checkConstant_90 : decode cX3_checkConstant 90 = .ok (.aload_n 0, 1) := by decide +kernel
theorem dX3_checkConstant_91 : decode cX3_checkConstant 91 = .ok (.iload_n 1, 1) := by decide +kernel
theorem dX3_checkConstant_92 : decode cX3_checkConstant 92 = .ok (.iconst 1, 1) := by decide +kernel
theorem dX3_checkConstant_93 : decode cX3_checkConstant 93 = .ok (.invokevirtual 99, 3) := by decide +kernel
theorem dX3_checkConstant_96 : decode cX3_checkConstant 96 = .ok (.invokevirtual 102, 3) := by decide +kernel
theorem dX3_checkConstant_99 : decode cX3_checkConstant 99 = .ok (.ifCond .ne 10, 3) := by decide +kernel
theorem dX3_checkConstant_102 : decode cX3_checkConstant 102 = .ok (.aload_n 0, 1) := by decide +kernel
theorem dX3_checkConstant_103 : decode cX3_checkConstant 103 = .ok (.iload_n 2, 1) := by decide +kernel
theorem dX3_checkConstant_104 : decode cX3_checkConstant 104 = .ok (.iconst 1, 1) := by decide +kernel
theorem dX3_checkConstant_105 : decode cX3_checkConstant 105 = .ok (.iadd, 1) := by decide +kernel
theorem dX3_checkConstant_106 : decode cX3_checkConstant 106 = .ok (.invokevirtual 78, 3) := by decide +kernel
theorem dX3_checkConstant_109 : decode cX3_checkConstant 109 = .ok (.aload_n 0, 1) := by decide +kernel
theorem dX3_checkConstant_110 : decode cX3_checkConstant 110 = .ok (.iload_n 3, 1) := by decide +kernel
theorem dX3_checkConstant_111 : decode cX3_checkConstant 111 = .ok (.invokevirtual 109, 3) := by decide +kernel
theorem dX3_checkConstant_114 : decode cX3_checkConstant 114 = .ok (.ifCond .ne 19, 3) := by decide +kernel
theorem dX3_checkConstant_117 : decode cX3_checkConstant 117 = .ok (.aload_n 0, 1) := by decide +kernel
theorem dX3_checkConstant_118 : decode cX3_checkConstant 118 = .ok (.iload_n 3, 1) := by decide +kernel
theorem dX3_checkConstant_119 : decode cX3_checkConstant 119 = .ok (.invokevirtual 116, 3) := by decide +kernel
theorem dX3_checkConstant_122 : decode cX3_checkConstant 122 = .ok (.iconst (-1), 1) := by decide +kernel
theorem dX3_checkConstant_123 : decode cX3_checkConstant 123 = .ok (.if_icmp .ne 10, 3) := by decide +kernel
theorem dX3_checkConstant_126 : decode cX3_checkConstant 126 = .ok (.aload_n 0, 1) := by decide +kernel
theorem dX3_checkConstant_127 : decode cX3_checkConstant 127 = .ok (.iload_n 2, 1) := by decide +kernel
theorem dX3_checkConstant_128 : decode cX3_checkConstant 128 = .ok (.iconst 2, 1) := by decide +kernel
theorem dX3_checkConstant_129 : decode cX3_checkConstant 129 = .ok (.iadd, 1) := by decide +kernel
theorem dX3_checkConstant_130 : decode cX3_checkConstant 130 = .ok (.invokevirtual 78, 3) := by decide +kernel
theorem dX3_checkConstant_133 : decode cX3_checkConstant 133 = .ok (.return_, 1) := by decide +kernel
theorem dX3_builtIn_0 : decode cX3_builtIn 0 = .ok (.iconst 0, 1) := by decide +kernel
theorem dX3_builtIn_1 : decode cX3_builtIn 1 = .ok (.istore_n 3, 1) := by decide +kernel
theorem dX3_builtIn_2 : decode cX3_builtIn 2 = .ok (.iload_n 1, 1) := by decide +kernel
theorem dX3_builtIn_3 : decode cX3_builtIn 3 = .ok (.istore 4, 2) := by decide +kernel
theorem dX3_builtIn_5 : decode cX3_builtIn 5 = .ok (.iconst 0, 1) := by decide +kernel
theorem dX3_builtIn_6 : decode cX3_builtIn 6 = .ok (.istore 5, 2) := by decide +kernel
theorem dX3_builtIn_8 : decode cX3_builtIn 8 = .ok (.iload 5, 2) := by decide +kernel
theorem dX3_builtIn_10 : decode cX3_builtIn 10 = .ok (.ldc 132, 2) := by decide +kernel
theorem dX3_builtIn_12 : decode cX3_builtIn 12 = .ok (.invokevirtual 134, 3) := by decide +kernel
theorem dX3_builtIn_15 : decode cX3_builtIn 15 = .ok (.if_icmp .ge 96, 3) := by decide +kernel
theorem dX3_builtIn_18 : decode cX3_builtIn 18 = .ok (.ldc 132, 2) := by decide +kernel
theorem dX3_builtIn_20 : decode cX3_builtIn 20 = .ok (.iload 5, 2) := by decide +kernel
theorem dX3_builtIn_22 : decode cX3_builtIn 22 = .ok (.invokevirtual 139, 3) := by decide +kernel
theorem dX3_builtIn_25 : decode cX3_builtIn 25 = .ok (.istore 6, 2) := by decide +kernel
theorem dX3_builtIn_27 : decode cX3_builtIn 27 = .ok (.iload 6, 2) := by decide +kernel
theorem dX3_builtIn_29 : decode cX3_builtIn 29 = .ok (.bipush 32, 2) := by decide +kernel
theorem dX3_builtIn_31 : decode cX3_builtIn 31 = .ok (.if_icmp .eq 60, 3) := by decide +kernel
theorem dX3_builtIn_34 : decode cX3_builtIn 34 = .ok (.iload 4, 2) := by decide +kernel
theorem dX3_builtIn_36 : decode cX3_builtIn 36 = .ok (.ifCond .lt 34, 3) := by decide +kernel
theorem dX3_builtIn_39 : decode cX3_builtIn 39 = .ok (.iload 4, 2) := by decide +kernel
theorem dX3_builtIn_41 : decode cX3_builtIn 41 = .ok (.iload_n 2, 1) := by decide +kernel
theorem dX3_builtIn_42 : decode cX3_builtIn 42 = .ok (.if_icmp .ge 28, 3) := by decide +kernel
theorem dX3_builtIn_45 : decode cX3_builtIn 45 = .ok (.iload 4, 2) := by decide +kernel
theorem dX3_builtIn_47 : decode cX3_builtIn 47 = .ok (.aload_n 0, 1) := by decide +kernel
theorem dX3_builtIn_48 : decode cX3_builtIn 48 = .ok (.getfield 39, 3) := by decide +kernel
theorem dX3_builtIn_51 : decode cX3_builtIn 51 = .ok (.if_icmp .ge 19, 3) := by decide +kernel
theorem dX3_builtIn_54 : decode cX3_builtIn 54 = .ok (.aload_n 0, 1) := by decide +kernel
theorem dX3_builtIn_55 : decode cX3_builtIn 55 = .ok (.getfield 9, 3) := by decide +kernel
theorem dX3_builtIn_58 : decode cX3_builtIn 58 = .ok (.iload 4, 2) := by decide +kernel
theorem dX3_builtIn_60 : decode cX3_builtIn 60 = .ok (.baload, 1) := by decide +kernel
theorem dX3_builtIn_61 : decode cX3_builtIn 61 = .ok (.iload 6, 2) := by decide +kernel
theorem dX3_builtIn_63 : decode cX3_builtIn 63 = .ok (.if_icmp .ne 7, 3) := by decide +kernel
theorem dX3_builtIn_66 : decode cX3_builtIn 66 = .ok (.iconst 1, 1) := by decide +kernel
theorem dX3_builtIn_67 : decode cX3_builtIn 67 = .ok (.goto 4, 3) := by decide +kernel
theorem dX3_builtIn_70 : decode cX3_builtIn 70 = .ok (.iconst 0, 1) := by decide +kernel
theorem dX3_builtIn_71 : decode cX3_builtIn 71 = .ok (.istore 7, 2) := by decide +kernel
theorem dX3_builtIn_73 : decode cX3_builtIn 73 = .ok (.iload 7, 2) := by decide +kernel
theorem dX3_builtIn_75 : decode cX3_builtIn 75 = .ok (.ifCond .eq 10, 3) := by decide +kernel
theorem dX3_builtIn_78 : decode cX3_builtIn 78 = .ok (.iload 4, 2) := by decide +kernel
theorem dX3_builtIn_80 : decode cX3_builtIn 80 = .ok (.iconst 1, 1) := by decide +kernel
theorem dX3_builtIn_81 : decode cX3_builtIn 81 = .ok (.iadd, 1) := by decide +kernel
theorem dX3_builtIn_82 : decode cX3_builtIn 82 = .ok (.goto 4, 3) := by decide +kernel
theorem dX3_builtIn_85 : decode cX3_builtIn 85 = .ok (.iconst (-1), 1) := by decide +kernel
theorem dX3_builtIn_86 : decode cX3_builtIn 86 = .ok (.istore 4, 2) := by decide +kernel
theorem dX3_builtIn_88 : decode cX3_builtIn 88 = .ok (.goto 17, 3) := by decide +kernel
theorem dX3_builtIn_91 : decode cX3_builtIn 91 = .ok (.iload 4, 2) := by decide +kernel
theorem dX3_builtIn_93 : decode cX3_builtIn 93 = .ok (.iload_n 2, 1) := by decide +kernel
theorem dX3_builtIn_94 : decode cX3_builtIn 94 = .ok (.if_icmp .ne 5, 3) := by decide +kernel
theorem dX3_builtIn_97 : decode cX3_builtIn 97 = .ok (.iload_n 3, 1) := by decide +kernel
theorem dX3_builtIn_98 : decode cX3_builtIn 98 = .ok (.ireturn, 1) := by decide +kernel
theorem dX3_builtIn_99 : decode cX3_builtIn 99 = .ok (.iload_n 1, 1) := by decide +kernel
theorem dX3_builtIn_100 : decode cX3_builtIn 100 = .ok (.istore 4, 2) := by decide +kernel
theorem dX3_builtIn_102 : decode cX3_builtIn 102 = .ok (.iinc 3 1, 3) := by decide +kernel
theorem dX3_builtIn_105 : decode cX3_builtIn 105 = .ok (.iinc 5 1, 3) := by decide +kernel
theorem dX3_builtIn_108 : decode cX3_builtIn 108 = .ok (.goto (-100), 3) := by decide +kernel
theorem dX3_builtIn_111 : decode cX3_builtIn 111 = .ok (.iconst (-1), 1) := by decide +kernel
theorem dX3_builtIn_112 : decode cX3_builtIn 112 = .ok (.ireturn, 1) := by decide +kernel
theorem dX3_isNameText_0 : decode cX3_isNameText 0 = .ok (.aload_n 0, 1) := by decide +kernel
theorem dX3_isNameText_1 : decode cX3_isNameText 1 = .ok (.iload_n 1, 1) := by decide +kernel
theorem dX3_isNameText_2 : decode cX3_isNameText 2 = .ok (.invokevirtual 112, 3) := by decide +kernel
theorem dX3_isNameText_5 : decode cX3_isNameText 5 = .ok (.iconst 1, 1) := by decide +kernel
theorem dX3_isNameText_6 : decode cX3_isNameText 6 = .ok (.if_icmp .ne 29, 3) := by decide +kernel
theorem dX3_isNameText_9 : decode cX3_isNameText 9 = .ok (.aload_n 0, 1) := by decide +kernel
theorem dX3_isNameText_10 : decode cX3_isNameText 10 = .ok (.getfield 9, 3) := by decide +kernel
theorem dX3_isNameText_13 : decode cX3_isNameText 13 = .ok (.aload_n 0, 1) := by decide +kernel
theorem dX3_isNameText_14 : decode cX3_isNameText 14 = .ok (.getfield 19, 3) := by decide +kernel
theorem dX3_isNameText_17 : decode cX3_isNameText 17 = .ok (.iload_n 1, 1) := by decide +kernel
theorem dX3_isNameText_18 : decode cX3_isNameText 18 = .ok (.iaload, 1) := by decide +kernel
theorem dX3_isNameText_19 : decode cX3_isNameText 19 = .ok (.aload_n 0, 1) := by decide +kernel
theorem dX3_isNameText_20 : decode cX3_isNameText 20 = .ok (.getfield 22, 3) := by decide +kernel
theorem dX3_isNameText_23 : decode cX3_isNameText 23 = .ok (.iload_n 1, 1) := by decide +kernel
theorem dX3_isNameText_24 : decode cX3_isNameText 24 = .ok (.iaload, 1) := by decide +kernel
theorem dX3_isNameText_25 : decode cX3_isNameText 25 = .ok (.invokestatic 143, 3) := by decide +kernel
theorem dX3_isNameText_28 : decode cX3_isNameText 28 = .ok (.ifCond .eq 7, 3) := by decide +kernel
theorem dX3_isNameText_31 : decode cX3_isNameText 31 = .ok (.iconst 1, 1) := by decide +kernel
theorem dX3_isNameText_32 : decode cX3_isNameText 32 = .ok (.goto 4, 3) := by decide +kernel
theorem dX3_isNameText_35 : decode cX3_isNameText 35 = .ok (.iconst 0, 1) := by decide +kernel
theorem dX3_isNameText_36 : decode cX3_isNameText 36 = .ok (.ireturn, 1) := by decide +kernel
theorem dX3_isFieldKind_0 : decode cX3_isFieldKind 0 = .ok (.aload_n 0, 1) := by decide +kernel
theorem dX3_isFieldKind_1 : decode cX3_isFieldKind 1 = .ok (.iload_n 1, 1) := by decide +kernel
theorem dX3_isFieldKind_2 : decode cX3_isFieldKind 2 = .ok (.invokevirtual 112, 3) := by decide +kernel
theorem dX3_isFieldKind_5 : decode cX3_isFieldKind 5 = .ok (.iconst 1, 1) := by decide +kernel
theorem dX3_isFieldKind_6 : decode cX3_isFieldKind 6 = .ok (.if_icmp .ne 32, 3) := by decide +kernel
theorem dX3_isFieldKind_9 : decode cX3_isFieldKind 9 = .ok (.aload_n 0, 1) := by decide +kernel
theorem dX3_isFieldKind_10 : decode cX3_isFieldKind 10 = .ok (.aload_n 0, 1) := by decide +kernel
theorem dX3_isFieldKind_11 : decode cX3_isFieldKind 11 = .ok (.getfield 19, 3) := by decide +kernel
theorem dX3_isFieldKind_14 : decode cX3_isFieldKind 14 = .ok (.iload_n 1, 1) := by decide +kernel
theorem dX3_isFieldKind_15 : decode cX3_isFieldKind 15 = .ok (.iaload, 1) := by decide +kernel
theorem dX3_isFieldKind_16 : decode cX3_isFieldKind 16 = .ok (.aload_n 0, 1) := by decide +kernel
theorem dX3_isFieldKind_17 : decode cX3_isFieldKind 17 = .ok (.getfield 22, 3) := by decide +kernel
theorem dX3_isFieldKind_20 : decode cX3_isFieldKind 20 = .ok (.iload_n 1, 1) := by decide +kernel
theorem dX3_isFieldKind_21 : decode cX3_isFieldKind 21 = .ok (.iaload, 1) := by decide +kernel
theorem dX3_isFieldKind_22 : decode cX3_isFieldKind 22 = .ok (.invokevirtual 149, 3) := by decide +kernel
theorem dX3_isFieldKind_25 : decode cX3_isFieldKind 25 = .ok (.aload_n 0, 1) := by decide +kernel
theorem dX3_isFieldKind_26 : decode cX3_isFieldKind 26 = .ok (.getfield 22, 3) := by decide +kernel
theorem dX3_isFieldKind_29 : decode cX3_isFieldKind 29 = .ok (.iload_n 1, 1) := by decide +kernel
theorem dX3_isFieldKind_30 : decode cX3_isFieldKind 30 = .ok (.iaload, 1) := by decide +kernel
theorem dX3_isFieldKind_31 : decode cX3_isFieldKind 31 = .ok (.if_icmp .ne 7, 3) := by decide +kernel
theorem dX3_isFieldKind_34 : decode cX3_isFieldKind 34 = .ok (.iconst 1, 1) := by decide +kernel
theorem dX3_isFieldKind_35 : decode cX3_isFieldKind 35 = .ok (.goto 4, 3) := by decide +kernel
theorem dX3_isFieldKind_38 : decode cX3_isFieldKind 38 = .ok (.iconst 0, 1) := by decide +kernel
theorem dX3_isFieldKind_39 : decode cX3_isFieldKind 39 = .ok (.ireturn, 1) := by decide +kernel
theorem dX3_behindKind_0 : decode cX3_behindKind 0 = .ok (.iload_n 1, 1) := by decide +kernel
theorem dX3_behindKind_1 : decode cX3_behindKind 1 = .ok (.iload_n 2, 1) := by decide +kernel
theorem dX3_behindKind_2 : decode cX3_behindKind 2 = .ok (.if_icmp .ge 11, 3) := by decide +kernel
theorem dX3_behindKind_5 : decode cX3_behindKind 5 = .ok (.aload_n 0, 1) := by decide +kernel
theorem dX3_behindKind_6 : decode cX3_behindKind 6 = .ok (.iload_n 1, 1) := by decide +kernel
theorem dX3_behindKind_7 : decode cX3_behindKind 7 = .ok (.invokevirtual 119, 3) := by decide +kernel
theorem dX3_behindKind_10 : decode cX3_behindKind 10 = .ok (.goto 4, 3) := by decide +kernel
theorem dX3_behindKind_13 : decode cX3_behindKind 13 = .ok (.iconst 0, 1) := by decide +kernel
theorem dX3_behindKind_14 : decode cX3_behindKind 14 = .ok (.istore_n 3, 1) := by decide +kernel
theorem dX3_behindKind_15 : decode cX3_behindKind 15 = .ok (.iload_n 3, 1) := by decide +kernel
theorem dX3_behindKind_16 : decode cX3_behindKind 16 = .ok (.bipush 73, 2) := by decide +kernel
theorem dX3_behindKind_18 : decode cX3_behindKind 18 = .ok (.if_icmp .eq 9, 3) := by decide +kernel
theorem dX3_behindKind_21 : decode cX3_behindKind 21 = .ok (.iload_n 3, 1) := by decide +kernel
theorem dX3_behindKind_22 : decode cX3_behindKind 22 = .ok (.bipush 90, 2) := by decide +kernel
theorem dX3_behindKind_24 : decode cX3_behindKind 24 = .ok (.if_icmp .ne 7, 3) := by decide +kernel
theorem dX3_behindKind_27 : decode cX3_behindKind 27 = .ok (.iload_n 1, 1) := by decide +kernel
theorem dX3_behindKind_28 : decode cX3_behindKind 28 = .ok (.iconst 1, 1) := by decide +kernel
theorem dX3_behindKind_29 : decode cX3_behindKind 29 = .ok (.iadd, 1) := by decide +kernel
theorem dX3_behindKind_30 : decode cX3_behindKind 30 = .ok (.ireturn, 1) := by decide +kernel
theorem dX3_behindKind_31 : decode cX3_behindKind 31 = .ok (.iload_n 3, 1) := by decide +kernel
theorem dX3_behindKind_32 : decode cX3_behindKind 32 = .ok (.bipush 91, 2) := by decide +kernel
theorem dX3_behindKind_34 : decode cX3_behindKind 34 = .ok (.if_icmp .ne 9, 3) := by decide +kernel
theorem dX3_behindKind_37 : decode cX3_behindKind 37 = .ok (.iload_n 1, 1) := by decide +kernel
theorem dX3_behindKind_38 : decode cX3_behindKind 38 = .ok (.iconst 1, 1) := by decide +kernel
theorem dX3_behindKind_39 : decode cX3_behindKind 39 = .ok (.iadd, 1) := by decide +kernel
theorem dX3_behindKind_40 : decode cX3_behindKind 40 = .ok (.goto 4, 3) := by decide +kernel
theorem dX3_behindKind_43 : decode cX3_behindKind 43 = .ok (.iload_n 1, 1) := by decide +kernel
theorem dX3_behindKind_44 : decode cX3_behindKind 44 = .ok (.istore 4, 2) := by decide +kernel
theorem dX3_behindKind_46 : decode cX3_behindKind 46 = .ok (.iload 4, 2) := by decide +kernel
theorem dX3_behindKind_48 : decode cX3_behindKind 48 = .ok (.iload_n 2, 1) := by decide +kernel
theorem dX3_behindKind_49 : decode cX3_behindKind 49 = .ok (.if_icmp .ge 12, 3) := by decide +kernel
theorem dX3_behindKind_52 : decode cX3_behindKind 52 = .ok (.aload_n 0, 1) := by decide +kernel
theorem dX3_behindKind_53 : decode cX3_behindKind 53 = .ok (.iload 4, 2) := by decide +kernel
theorem dX3_behindKind_55 : decode cX3_behindKind 55 = .ok (.invokevirtual 119, 3) := by decide +kernel
theorem dX3_behindKind_58 : decode cX3_behindKind 58 = .ok (.goto 4, 3) := by decide +kernel
theorem dX3_behindKind_61 : decode cX3_behindKind 61 = .ok (.iconst 0, 1) := by decide +kernel
theorem dX3_behindKind_62 : decode cX3_behindKind 62 = .ok (.istore_n 3, 1) := by decide +kernel
theorem dX3_behindKind_63 : decode cX3_behindKind 63 = .ok (.iload_n 3, 1) := by decide +kernel
theorem dX3_behindKind_64 : decode cX3_behindKind 64 = .ok (.bipush 73, 2) := by decide +kernel
theorem dX3_behindKind_66 : decode cX3_behindKind 66 = .ok (.if_icmp .ne 8, 3) := by decide +kernel
theorem dX3_behindKind_69 : decode cX3_behindKind 69 = .ok (.iload 4, 2) := by decide +kernel
theorem dX3_behindKind_71 : decode cX3_behindKind 71 = .ok (.iconst 1, 1) := by decide +kernel
theorem dX3_behindKind_72 : decode cX3_behindKind 72 = .ok (.iadd, 1) := by decide +kernel
theorem dX3_behindKind_73 : decode cX3_behindKind 73 = .ok (.ireturn, 1) := by decide +kernel
theorem dX3_behindKind_74 : decode cX3_behindKind 74 = .ok (.iload_n 3, 1) := by decide +kernel
theorem dX3_behindKind_75 : decode cX3_behindKind 75 = .ok (.bipush 76, 2) := by decide +kernel
theorem dX3_behindKind_77 : decode cX3_behindKind 77 = .ok (.if_icmp .eq 5, 3) := by decide +kernel
theorem dX3_behindKind_80 : decode cX3_behindKind 80 = .ok (.iconst (-1), 1) := by decide +kernel
theorem dX3_behindKind_81 : decode cX3_behindKind 81 = .ok (.ireturn, 1) := by decide +kernel
theorem dX3_behindKind_82 : decode cX3_behindKind 82 = .ok (.iload 4, 2) := by decide +kernel
theorem dX3_behindKind_84 : decode cX3_behindKind 84 = .ok (.iconst 1, 1) := by decide +kernel
theorem dX3_behindKind_85 : decode cX3_behindKind 85 = .ok (.iadd, 1) := by decide +kernel
theorem dX3_behindKind_86 : decode cX3_behindKind 86 = .ok (.istore 5, 2) := by decide +kernel
theorem dX3_behindKind_88 : decode cX3_behindKind 88 = .ok (.iload 5, 2) := by decide +kernel
theorem dX3_behindKind_90 : decode cX3_behindKind 90 = .ok (.iload_n 2, 1) := by decide +kernel
theorem dX3_behindKind_91 : decode cX3_behindKind 91 = .ok (.if_icmp .ge 20, 3) := by decide +kernel
theorem dX3_behindKind_94 : decode cX3_behindKind 94 = .ok (.aload_n 0, 1) := by decide +kernel
theorem dX3_behindKind_95 : decode cX3_behindKind 95 = .ok (.iload 5, 2) := by decide +kernel
theorem dX3_behindKind_97 : decode cX3_behindKind 97 = .ok (.invokevirtual 119, 3) := by decide +kernel
theorem dX3_behindKind_100 : decode cX3_behindKind 100 = .ok (.bipush 59, 2) := by decide +kernel
theorem dX3_behindKind_102 : decode cX3_behindKind 102 = .ok (.if_icmp .eq 9, 3) := by decide +kernel
theorem dX3_behindKind_105 : decode cX3_behindKind 105 = .ok (.iinc 5 1, 3) := by decide +kernel
theorem dX3_behindKind_108 : decode cX3_behindKind 108 = .ok (.goto (-20), 3) := by decide +kernel
theorem dX3_behindKind_111 : decode cX3_behindKind 111 = .ok (.iload 5, 2) := by decide +kernel
theorem dX3_behindKind_113 : decode cX3_behindKind 113 = .ok (.iload_n 2, 1) := by decide +kernel
theorem dX3_behindKind_114 : decode cX3_behindKind 114 = .ok (.if_icmp .ge 26, 3) := by decide +kernel
theorem dX3_behindKind_117 : decode cX3_behindKind 117 = .ok (.aload_n 0, 1) := by decide +kernel
theorem dX3_behindKind_118 : decode cX3_behindKind 118 = .ok (.getfield 9, 3) := by decide +kernel
theorem dX3_behindKind_121 : decode cX3_behindKind 121 = .ok (.iload 4, 2) := by decide +kernel
theorem dX3_behindKind_123 : decode cX3_behindKind 123 = .ok (.iconst 1, 1) := by decide +kernel
theorem dX3_behindKind_124 : decode cX3_behindKind 124 = .ok (.iadd, 1) := by decide +kernel
theorem dX3_behindKind_125 : decode cX3_behindKind 125 = .ok (.iload 5, 2) := by decide +kernel
theorem dX3_behindKind_127 : decode cX3_behindKind 127 = .ok (.invokestatic 143, 3) := by decide +kernel
theorem dX3_behindKind_130 : decode cX3_behindKind 130 = .ok (.ifCond .eq 10, 3) := by decide +kernel
theorem dX3_behindKind_133 : decode cX3_behindKind 133 = .ok (.iload 5, 2) := by decide +kernel
theorem dX3_behindKind_135 : decode cX3_behindKind 135 = .ok (.iconst 1, 1) := by decide +kernel
theorem dX3_behindKind_136 : decode cX3_behindKind 136 = .ok (.iadd, 1) := by decide +kernel
theorem dX3_behindKind_137 : decode cX3_behindKind 137 = .ok (.goto 4, 3) := by decide +kernel
theorem dX3_behindKind_140 : decode cX3_behindKind 140 = .ok (.iconst (-1), 1) := by decide +kernel
theorem dX3_behindKind_141 : decode cX3_behindKind 141 = .ok (.ireturn, 1) := by decide +kernel
theorem dX3_parametersIn_0 : decode cX3_parametersIn 0 = .ok (.aload_n 0, 1) := by decide +kernel
theorem dX3_parametersIn_1 : decode cX3_parametersIn 1 = .ok (.iload_n 1, 1) := by decide +kernel
theorem dX3_parametersIn_2 : decode cX3_parametersIn 2 = .ok (.invokevirtual 112, 3) := by decide +kernel
theorem dX3_parametersIn_5 : decode cX3_parametersIn 5 = .ok (.iconst 1, 1) := by decide +kernel
theorem dX3_parametersIn_6 : decode cX3_parametersIn 6 = .ok (.if_icmp .ne 18, 3) := by decide +kernel
theorem dX3_parametersIn_9 : decode cX3_parametersIn 9 = .ok (.aload_n 0, 1) := by decide +kernel
theorem dX3_parametersIn_10 : decode cX3_parametersIn 10 = .ok (.aload_n 0, 1) := by decide +kernel
theorem dX3_parametersIn_11 : decode cX3_parametersIn 11 = .ok (.getfield 19, 3) := by decide +kernel
theorem dX3_parametersIn_14 : decode cX3_parametersIn 14 = .ok (.iload_n 1, 1) := by decide +kernel
theorem dX3_parametersIn_15 : decode cX3_parametersIn 15 = .ok (.iaload, 1) := by decide +kernel
theorem dX3_parametersIn_16 : decode cX3_parametersIn 16 = .ok (.invokevirtual 119, 3) := by decide +kernel
theorem dX3_parametersIn_19 : decode cX3_parametersIn 19 = .ok (.bipush 40, 2) := by decide +kernel
theorem dX3_parametersIn_21 : decode cX3_parametersIn 21 = .ok (.if_icmp .eq 5, 3) := by decide +kernel
theorem dX3_parametersIn_24 : decode cX3_parametersIn 24 = .ok (.iconst (-1), 1) := by decide +kernel
theorem dX3_parametersIn_25 : decode cX3_parametersIn 25 = .ok (.ireturn, 1) := by decide +kernel
theorem dX3_parametersIn_26 : decode cX3_parametersIn 26 = .ok (.aload_n 0, 1) := by decide +kernel
theorem dX3_parametersIn_27 : decode cX3_parametersIn 27 = .ok (.getfield 22, 3) := by decide +kernel
theorem dX3_parametersIn_30 : decode cX3_parametersIn 30 = .ok (.iload_n 1, 1) := by decide +kernel
theorem dX3_parametersIn_31 : decode cX3_parametersIn 31 = .ok (.iaload, 1) := by decide +kernel
theorem dX3_parametersIn_32 : decode cX3_parametersIn 32 = .ok (.istore_n 2, 1) := by decide +kernel
theorem dX3_parametersIn_33 : decode cX3_parametersIn 33 = .ok (.aload_n 0, 1) := by decide +kernel
theorem dX3_parametersIn_34 : decode cX3_parametersIn 34 = .ok (.getfield 19, 3) := by decide +kernel
theorem dX3_parametersIn_37 : decode cX3_parametersIn 37 = .ok (.iload_n 1, 1) := by decide +kernel
theorem dX3_parametersIn_38 : decode cX3_parametersIn 38 = .ok (.iaload, 1) := by decide +kernel
theorem dX3_parametersIn_39 : decode cX3_parametersIn 39 = .ok (.iconst 1, 1) := by decide +kernel
theorem dX3_parametersIn_40 : decode cX3_parametersIn 40 = .ok (.iadd, 1) := by decide +kernel
theorem dX3_parametersIn_41 : decode cX3_parametersIn 41 = .ok (.istore_n 3, 1) := by decide +kernel
theorem dX3_parametersIn_42 : decode cX3_parametersIn 42 = .ok (.iconst 0, 1) := by decide +kernel
theorem dX3_parametersIn_43 : decode cX3_parametersIn 43 = .ok (.istore 4, 2) := by decide +kernel
theorem dX3_parametersIn_45 : decode cX3_parametersIn 45 = .ok (.iload 4, 2) := by decide +kernel
theorem dX3_parametersIn_47 : decode cX3_parametersIn 47 = .ok (.bipush 6, 2) := by decide +kernel
theorem dX3_parametersIn_49 : decode cX3_parametersIn 49 = .ok (.if_icmp .gt 36, 3) := by decide +kernel
theorem dX3_parametersIn_52 : decode cX3_parametersIn 52 = .ok (.iload_n 3, 1) := by decide +kernel
theorem dX3_parametersIn_53 : decode cX3_parametersIn 53 = .ok (.iconst (-1), 1) := by decide +kernel
theorem dX3_parametersIn_54 : decode cX3_parametersIn 54 = .ok (.if_icmp .eq 31, 3) := by decide +kernel
theorem dX3_parametersIn_57 : decode cX3_parametersIn 57 = .ok (.iload_n 3, 1) := by decide +kernel
theorem dX3_parametersIn_58 : decode cX3_parametersIn 58 = .ok (.iload_n 2, 1) := by decide +kernel
theorem dX3_parametersIn_59 : decode cX3_parametersIn 59 = .ok (.if_icmp .ge 26, 3) := by decide +kernel
theorem dX3_parametersIn_62 : decode cX3_parametersIn 62 = .ok (.aload_n 0, 1) := by decide +kernel
theorem dX3_parametersIn_63 : decode cX3_parametersIn 63 = .ok (.iload_n 3, 1) := by decide +kernel
theorem dX3_parametersIn_64 : decode cX3_parametersIn 64 = .ok (.invokevirtual 119, 3) := by decide +kernel
theorem dX3_parametersIn_67 : decode cX3_parametersIn 67 = .ok (.bipush 41, 2) := by decide +kernel
theorem dX3_parametersIn_69 : decode cX3_parametersIn 69 = .ok (.if_icmp .eq 16, 3) := by decide +kernel
theorem dX3_parametersIn_72 : decode cX3_parametersIn 72 = .ok (.aload_n 0, 1) := by decide +kernel
theorem dX3_parametersIn_73 : decode cX3_parametersIn 73 = .ok (.iload_n 3, 1) := by decide +kernel
theorem dX3_parametersIn_74 : decode cX3_parametersIn 74 = .ok (.iload_n 2, 1) := by decide +kernel
theorem dX3_parametersIn_75 : decode cX3_parametersIn 75 = .ok (.invokevirtual 149, 3) := by decide +kernel
theorem dX3_parametersIn_78 : decode cX3_parametersIn 78 = .ok (.istore_n 3, 1) := by decide +kernel
theorem dX3_parametersIn_79 : decode cX3_parametersIn 79 = .ok (.iinc 4 1, 3) := by decide +kernel
theorem dX3_parametersIn_82 : decode cX3_parametersIn 82 = .ok (.goto (-37), 3) := by decide +kernel
theorem dX3_parametersIn_85 : decode cX3_parametersIn 85 = .ok (.iload_n 3, 1) := by decide +kernel
theorem dX3_parametersIn_86 : decode cX3_parametersIn 86 = .ok (.iconst (-1), 1) := by decide +kernel
theorem dX3_parametersIn_87 : decode cX3_parametersIn 87 = .ok (.if_icmp .eq 15, 3) := by decide +kernel
theorem dX3_parametersIn_90 : decode cX3_parametersIn 90 = .ok (.iload_n 3, 1) := by decide +kernel
theorem dX3_parametersIn_91 : decode cX3_parametersIn 91 = .ok (.iload_n 2, 1) := by decide +kernel
theorem dX3_parametersIn_92 : decode cX3_parametersIn 92 = .ok (.if_icmp .ge 10, 3) := by decide +kernel
theorem dX3_parametersIn_95 : decode cX3_parametersIn 95 = .ok (.iload 4, 2) := by decide +kernel
theorem dX3_parametersIn_97 : decode cX3_parametersIn 97 = .ok (.bipush 6, 2) := by decide +kernel
theorem dX3_parametersIn_99 : decode cX3_parametersIn 99 = .ok (.if_icmp .le 5, 3) := by decide +kernel
theorem dX3_parametersIn_102 : decode cX3_parametersIn 102 = .ok (.iconst (-1), 1) := by decide +kernel
theorem dX3_parametersIn_103 : decode cX3_parametersIn 103 = .ok (.ireturn, 1) := by decide +kernel
theorem dX3_parametersIn_104 : decode cX3_parametersIn 104 = .ok (.iload_n 3, 1) := by decide +kernel
theorem dX3_parametersIn_105 : decode cX3_parametersIn 105 = .ok (.iconst 2, 1) := by decide +kernel
theorem dX3_parametersIn_106 : decode cX3_parametersIn 106 = .ok (.iadd, 1) := by decide +kernel
theorem dX3_parametersIn_107 : decode cX3_parametersIn 107 = .ok (.iload_n 2, 1) := by decide +kernel
theorem dX3_parametersIn_108 : decode cX3_parametersIn 108 = .ok (.if_icmp .ne 19, 3) := by decide +kernel
theorem dX3_parametersIn_111 : decode cX3_parametersIn 111 = .ok (.aload_n 0, 1) := by decide +kernel
theorem dX3_parametersIn_112 : decode cX3_parametersIn 112 = .ok (.iload_n 3, 1) := by decide +kernel
theorem dX3_parametersIn_113 : decode cX3_parametersIn 113 = .ok (.iconst 1, 1) := by decide +kernel
theorem dX3_parametersIn_114 : decode cX3_parametersIn 114 = .ok (.iadd, 1) := by decide +kernel
theorem dX3_parametersIn_115 : decode cX3_parametersIn 115 = .ok (.invokevirtual 119, 3) := by decide +kernel
theorem dX3_parametersIn_118 : decode cX3_parametersIn 118 = .ok (.bipush 86, 2) := by decide +kernel
theorem dX3_parametersIn_120 : decode cX3_parametersIn 120 = .ok (.if_icmp .ne 7, 3) := by decide +kernel
theorem dX3_parametersIn_123 : decode cX3_parametersIn 123 = .ok (.iconst 1, 1) := by decide +kernel
theorem dX3_parametersIn_124 : decode cX3_parametersIn 124 = .ok (.goto 4, 3) := by decide +kernel
theorem dX3_parametersIn_127 : decode cX3_parametersIn 127 = .ok (.iconst 0, 1) := by decide +kernel
theorem dX3_parametersIn_128 : decode cX3_parametersIn 128 = .ok (.istore 5, 2) := by decide +kernel
theorem dX3_parametersIn_130 : decode cX3_parametersIn 130 = .ok (.iload 5, 2) := by decide +kernel
theorem dX3_parametersIn_132 : decode cX3_parametersIn 132 = .ok (.ifCond .ne 15, 3) := by decide +kernel
theorem dX3_parametersIn_135 : decode cX3_parametersIn 135 = .ok (.aload_n 0, 1) := by decide +kernel
theorem dX3_parametersIn_136 : decode cX3_parametersIn 136 = .ok (.iload_n 3, 1) := by decide +kernel
theorem dX3_parametersIn_137 : decode cX3_parametersIn 137 = .ok (.iconst 1, 1) := by decide +kernel
theorem dX3_parametersIn_138 : decode cX3_parametersIn 138 = .ok (.iadd, 1) := by decide +kernel
theorem dX3_parametersIn_139 : decode cX3_parametersIn 139 = .ok (.iload_n 2, 1) := by decide +kernel
theorem dX3_parametersIn_140 : decode cX3_parametersIn 140 = .ok (.invokevirtual 149, 3) := by decide +kernel
theorem dX3_parametersIn_143 : decode cX3_parametersIn 143 = .ok (.iload_n 2, 1) := by decide +kernel
theorem dX3_parametersIn_144 : decode cX3_parametersIn 144 = .ok (.if_icmp .ne 8, 3) := by decide +kernel
theorem dX3_parametersIn_147 : decode cX3_parametersIn 147 = .ok (.iload 4, 2) := by decide +kernel
theorem dX3_parametersIn_149 : decode cX3_parametersIn 149 = .ok (.goto 4, 3) := by decide +kernel
theorem dX3_parametersIn_152 : decode cX3_parametersIn 152 = .ok (.iconst (-1), 1) := by decide +kernel
theorem dX3_parametersIn_153 : decode cX3_parametersIn 153 = .ok (.ireturn, 1) := by decide +kernel
theorem dX3_nextName_0 : decode cX3_nextName 0 = .ok (.aload_n 0, 1) := by decide +kernel
theorem dX3_nextName_1 : decode cX3_nextName 1 = .ok (.invokevirtual 87, 3) := by decide +kernel
theorem dX3_nextName_4 : decode cX3_nextName 4 = .ok (.istore_n 1, 1) := by decide +kernel
theorem dX3_nextName_5 : decode cX3_nextName 5 = .ok (.aload_n 0, 1) := by decide +kernel
theorem dX3_nextName_6 : decode cX3_nextName 6 = .ok (.iload_n 1, 1) := by decide +kernel
theorem dX3_nextName_7 : decode cX3_nextName 7 = .ok (.invokevirtual 102, 3) := by decide +kernel
theorem dX3_nextName_10 : decode cX3_nextName 10 = .ok (.ifCond .ne 13, 3) := by decide +kernel
theorem dX3_nextName_13 : decode cX3_nextName 13 = .ok (.aload_n 0, 1) := by decide +kernel
theorem dX3_nextName_14 : decode cX3_nextName 14 = .ok (.aload_n 0, 1) := by decide +kernel
theorem dX3_nextName_15 : decode cX3_nextName 15 = .ok (.getfield 43, 3) := by decide +kernel
theorem dX3_nextName_18 : decode cX3_nextName 18 = .ok (.iconst 1, 1) := by decide +kernel
theorem dX3_nextName_19 : decode cX3_nextName 19 = .ok (.isub, 1) := by decide +kernel
theorem dX3_nextName_20 : decode cX3_nextName 20 = .ok (.invokevirtual 78, 3) := by decide +kernel
theorem dX3_nextName_23 : decode cX3_nextName 23 = .ok (.iload_n 1, 1) := by decide +kernel
theorem dX3_nextName_24 : decode cX3_nextName 24 = .ok (.ireturn, 1) := by decide +kernel
theorem dX3_readFields_0 : decode cX3_readFields 0 = .ok (.aload_n 0, 1) := by decide +kernel
theorem dX3_readFields_1 : decode cX3_readFields 1 = .ok (.iconst 0, 1) := by decide +kernel
theorem dX3_readFields_2 : decode cX3_readFields 2 = .ok (.bipush 12, 2) := by decide +kernel
theorem dX3_readFields_4 : decode cX3_readFields 4 = .ok (.invokevirtual 71, 3) := by decide +kernel
theorem dX3_readFields_7 : decode cX3_readFields 7 = .ok (.istore_n 1, 1) := by decide +kernel
theorem dX3_readFields_8 : decode cX3_readFields 8 = .ok (.iconst 0, 1) := by decide +kernel
theorem dX3_readFields_9 : decode cX3_readFields 9 = .ok (.istore_n 2, 1) := by decide +kernel
theorem dX3_readFields_10 : decode cX3_readFields 10 = .ok (.iload_n 2, 1) := by decide +kernel
theorem dX3_readFields_11 : decode cX3_readFields 11 = .ok (.iload_n 1, 1) := by decide +kernel
theorem dX3_readFields_12 : decode cX3_readFields 12 = .ok (.if_icmp .ge 73, 3) := by decide +kernel
theorem dX3_readFields_15 : decode cX3_readFields 15 = .ok (.aload_n 0, 1) := by decide +kernel
theorem dX3_readFields_16 : decode cX3_readFields 16 = .ok (.getfield 46, 3) := by decide +kernel
theorem dX3_readFields_19 : decode cX3_readFields 19 = .ok (.iconst (-1), 1) := by decide +kernel
theorem dX3_readFields_20 : decode cX3_readFields 20 = .ok (.if_icmp .ne 65, 3) := by decide +kernel
theorem dX3_readFields_23 : decode cX3_readFields 23 = .ok (.aload_n 0, 1) := by decide +kernel
theorem dX3_readFields_24 : decode cX3_readFields 24 = .ok (.getfield 27, 3) := by decide +kernel
theorem dX3_readFields_27 : decode cX3_readFields 27 = .ok (.iload_n 2, 1) := by decide +kernel
theorem dX3_readFields_28 : decode cX3_readFields 28 = .ok (.iconst 2, 1) := by decide +kernel
theorem dX3_readFields_29 : decode cX3_readFields 29 = .ok (.imul, 1) := by decide +kernel
theorem dX3_readFields_30 : decode cX3_readFields 30 = .ok (.aload_n 0, 1) := by decide +kernel
theorem dX3_readFields_31 : decode cX3_readFields 31 = .ok (.invokevirtual 152, 3) := by decide +kernel
theorem dX3_readFields_34 : decode cX3_readFields 34 = .ok (.iastore, 1) := by decide +kernel
theorem dX3_readFields_35 : decode cX3_readFields 35 = .ok (.aload_n 0, 1) := by decide +kernel
theorem dX3_readFields_36 : decode cX3_readFields 36 = .ok (.invokevirtual 87, 3) := by decide +kernel
theorem dX3_readFields_39 : decode cX3_readFields 39 = .ok (.istore_n 3, 1) := by decide +kernel
theorem dX3_readFields_40 : decode cX3_readFields 40 = .ok (.aload_n 0, 1) := by decide +kernel
theorem dX3_readFields_41 : decode cX3_readFields 41 = .ok (.iload_n 3, 1) := by decide +kernel
theorem dX3_readFields_42 : decode cX3_readFields 42 = .ok (.invokevirtual 109, 3) := by decide +kernel
theorem dX3_readFields_45 : decode cX3_readFields 45 = .ok (.ifCond .ne 13, 3) := by decide +kernel
theorem dX3_readFields_48 : decode cX3_readFields 48 = .ok (.aload_n 0, 1) := by decide +kernel
theorem dX3_readFields_49 : decode cX3_readFields 49 = .ok (.aload_n 0, 1) := by decide +kernel
theorem dX3_readFields_50 : decode cX3_readFields 50 = .ok (.getfield 43, 3) := by decide +kernel
theorem dX3_readFields_53 : decode cX3_readFields 53 = .ok (.iconst 1, 1) := by decide +kernel
theorem dX3_readFields_54 : decode cX3_readFields 54 = .ok (.isub, 1) := by decide +kernel
theorem dX3_readFields_55 : decode cX3_readFields 55 = .ok (.invokevirtual 78, 3) := by decide +kernel
theorem dX3_readFields_58 : decode cX3_readFields 58 = .ok (.aload_n 0, 1) := by decide +kernel
theorem dX3_readFields_59 : decode cX3_readFields 59 = .ok (.getfield 27, 3) := by decide +kernel
theorem dX3_readFields_62 : decode cX3_readFields 62 = .ok (.iload_n 2, 1) := by decide +kernel
theorem dX3_readFields_63 : decode cX3_readFields 63 = .ok (.iconst 2, 1) := by decide +kernel
theorem dX3_readFields_64 : decode cX3_readFields 64 = .ok (.imul, 1) := by decide +kernel
theorem dX3_readFields_65 : decode cX3_readFields 65 = .ok (.iconst 1, 1) := by decide +kernel
theorem dX3_readFields_66 : decode cX3_readFields 66 = .ok (.iadd, 1) := by decide +kernel
theorem dX3_readFields_67 : decode cX3_readFields 67 = .ok (.iload_n 3, 1) := by decide +kernel
theorem dX3_readFields_68 : decode cX3_readFields 68 = .ok (.iastore, 1) := by decide +kernel
theorem dX3_readFields_69 : decode cX3_readFields 69 = .ok (.aload_n 0, 1) := by decide +kernel
theorem dX3_readFields_70 : decode cX3_readFields 70 = .ok (.dup, 1) := by decide +kernel
theorem dX3_readFields_71 : decode cX3_readFields 71 = .ok (.getfield 49, 3) := by decide +kernel
theorem dX3_readFields_74 : decode cX3_readFields 74 = .ok (.iconst 1, 1) := by decide +kernel
theorem dX3_readFields_75 : decode cX3_readFields 75 = .ok (.iadd, 1) := by decide +kernel
theorem dX3_readFields_76 : decode cX3_readFields 76 = .ok (.putfield 49, 3) := by decide +kernel
theorem dX3_readFields_79 : decode cX3_readFields 79 = .ok (.iinc 2 1, 3) := by decide +kernel
theorem dX3_readFields_82 : decode cX3_readFields 82 = .ok (.goto (-72), 3) := by decide +kernel
theorem dX3_readFields_85 : decode cX3_readFields 85 = .ok (.return_, 1) := by decide +kernel
theorem dX3_readMethod_0 : decode cX3_readMethod 0 = .ok (.aload_n 0, 1) := by decide +kernel
theorem dX3_readMethod_1 : decode cX3_readMethod 1 = .ok (.getfield 30, 3) := by decide +kernel
theorem dX3_readMethod_4 : decode cX3_readMethod 4 = .ok (.iload_n 1, 1) := by decide +kernel
theorem dX3_readMethod_5 : decode cX3_readMethod 5 = .ok (.iconst 0, 1) := by decide +kernel
theorem dX3_readMethod_6 : decode cX3_readMethod 6 = .ok (.iadd, 1) := by decide +kernel
theorem dX3_readMethod_7 : decode cX3_readMethod 7 = .ok (.aload_n 0, 1) := by decide +kernel
theorem dX3_readMethod_8 : decode cX3_readMethod 8 = .ok (.iconst 0, 1) := by decide +kernel
theorem dX3_readMethod_9 : decode cX3_readMethod 9 = .ok (.iconst 1, 1) := by decide +kernel
theorem dX3_readMethod_10 : decode cX3_readMethod 10 = .ok (.invokevirtual 71, 3) := by decide +kernel
theorem dX3_readMethod_13 : decode cX3_readMethod 13 = .ok (.iastore, 1) := by decide +kernel
theorem dX3_readMethod_14 : decode cX3_readMethod 14 = .ok (.aload_n 0, 1) := by decide +kernel
theorem dX3_readMethod_15 : decode cX3_readMethod 15 = .ok (.getfield 30, 3) := by decide +kernel
theorem dX3_readMethod_18 : decode cX3_readMethod 18 = .ok (.iload_n 1, 1) := by decide +kernel
theorem dX3_readMethod_19 : decode cX3_readMethod 19 = .ok (.iconst 1, 1) := by decide +kernel
theorem dX3_readMethod_20 : decode cX3_readMethod 20 = .ok (.iadd, 1) := by decide +kernel
theorem dX3_readMethod_21 : decode cX3_readMethod 21 = .ok (.aload_n 0, 1) := by decide +kernel
theorem dX3_readMethod_22 : decode cX3_readMethod 22 = .ok (.invokevirtual 152, 3) := by decide +kernel
theorem dX3_readMethod_25 : decode cX3_readMethod 25 = .ok (.iastore, 1) := by decide +kernel
theorem dX3_readMethod_26 : decode cX3_readMethod 26 = .ok (.aload_n 0, 1) := by decide +kernel
theorem dX3_readMethod_27 : decode cX3_readMethod 27 = .ok (.invokevirtual 87, 3) := by decide +kernel
theorem dX3_readMethod_30 : decode cX3_readMethod 30 = .ok (.istore_n 2, 1) := by decide +kernel
theorem dX3_readMethod_31 : decode cX3_readMethod 31 = .ok (.aload_n 0, 1) := by decide +kernel
theorem dX3_readMethod_32 : decode cX3_readMethod 32 = .ok (.iload_n 2, 1) := by decide +kernel
theorem dX3_readMethod_33 : decode cX3_readMethod 33 = .ok (.invokevirtual 116, 3) := by decide +kernel
theorem dX3_readMethod_36 : decode cX3_readMethod 36 = .ok (.istore_n 3, 1) := by decide +kernel
theorem dX3_readMethod_37 : decode cX3_readMethod 37 = .ok (.iload_n 3, 1) := by decide +kernel
theorem dX3_readMethod_38 : decode cX3_readMethod 38 = .ok (.iconst (-1), 1) := by decide +kernel
theorem dX3_readMethod_39 : decode cX3_readMethod 39 = .ok (.if_icmp .ne 13, 3) := by decide +kernel
theorem dX3_readMethod_42 : decode cX3_readMethod 42 = .ok (.aload_n 0, 1) := by decide +kernel
theorem dX3_readMethod_43 : decode cX3_readMethod 43 = .ok (.aload_n 0, 1) := by decide +kernel
theorem dX3_readMethod_44 : decode cX3_readMethod 44 = .ok (.getfield 43, 3) := by decide +kernel
theorem dX3_readMethod_47 : decode cX3_readMethod 47 = .ok (.iconst 1, 1) := by decide +kernel
theorem dX3_readMethod_48 : decode cX3_readMethod 48 = .ok (.isub, 1) := by decide +kernel
theorem dX3_readMethod_49 : decode cX3_readMethod 49 = .ok (.invokevirtual 78, 3) := by decide +kernel
theorem dX3_readMethod_52 : decode cX3_readMethod 52 = .ok (.aload_n 0, 1) := by decide +kernel
theorem dX3_readMethod_53 : decode cX3_readMethod 53 = .ok (.getfield 30, 3) := by decide +kernel
theorem dX3_readMethod_56 : decode cX3_readMethod 56 = .ok (.iload_n 1, 1) := by decide +kernel
theorem dX3_readMethod_57 : decode cX3_readMethod 57 = .ok (.iconst 2, 1) := by decide +kernel
theorem dX3_readMethod_58 : decode cX3_readMethod 58 = .ok (.iadd, 1) := by decide +kernel
theorem dX3_readMethod_59 : decode cX3_readMethod 59 = .ok (.iload_n 2, 1) := by decide +kernel
theorem dX3_readMethod_60 : decode cX3_readMethod 60 = .ok (.iastore, 1) := by decide +kernel
theorem dX3_readMethod_61 : decode cX3_readMethod 61 = .ok (.aload_n 0, 1) := by decide +kernel
theorem dX3_readMethod_62 : decode cX3_readMethod 62 = .ok (.getfield 30, 3) := by decide +kernel
theorem dX3_readMethod_65 : decode cX3_readMethod 65 = .ok (.iload_n 1, 1) := by decide +kernel
theorem dX3_readMethod_66 : decode cX3_readMethod 66 = .ok (.bipush 11, 2) := by decide +kernel
theorem dX3_readMethod_68 : decode cX3_readMethod 68 = .ok (.iadd, 1) := by decide +kernel
theorem dX3_readMethod_69 : decode cX3_readMethod 69 = .ok (.iload_n 3, 1) := by decide +kernel
theorem dX3_readMethod_70 : decode cX3_readMethod 70 = .ok (.iastore, 1) := by decide +kernel
theorem dX3_readMethod_71 : decode cX3_readMethod 71 = .ok (.aload_n 0, 1) := by decide +kernel
theorem dX3_readMethod_72 : decode cX3_readMethod 72 = .ok (.getfield 30, 3) := by decide +kernel
theorem dX3_readMethod_75 : decode cX3_readMethod 75 = .ok (.iload_n 1, 1) := by decide +kernel
theorem dX3_readMethod_76 : decode cX3_readMethod 76 = .ok (.iconst 3, 1) := by decide +kernel
theorem dX3_readMethod_77 : decode cX3_readMethod 77 = .ok (.iadd, 1) := by decide +kernel
theorem dX3_readMethod_78 : decode cX3_readMethod 78 = .ok (.aload_n 0, 1) := by decide +kernel
theorem dX3_readMethod_79 : decode cX3_readMethod 79 = .ok (.iconst 0, 1) := by decide +kernel
theorem dX3_readMethod_80 : decode cX3_readMethod 80 = .ok (.bipush 30, 2) := by decide +kernel
theorem dX3_readMethod_82 : decode cX3_readMethod 82 = .ok (.invokevirtual 71, 3) := by decide +kernel
theorem dX3_readMethod_85 : decode cX3_readMethod 85 = .ok (.iastore, 1) := by decide +kernel
theorem dX3_readMethod_86 : decode cX3_readMethod 86 = .ok (.aload_n 0, 1) := by decide +kernel
theorem dX3_readMethod_87 : decode cX3_readMethod 87 = .ok (.getfield 30, 3) := by decide +kernel
theorem dX3_readMethod_90 : decode cX3_readMethod 90 = .ok (.iload_n 1, 1) := by decide +kernel
theorem dX3_readMethod_91 : decode cX3_readMethod 91 = .ok (.iconst 4, 1) := by decide +kernel
theorem dX3_readMethod_92 : decode cX3_readMethod 92 = .ok (.iadd, 1) := by decide +kernel
theorem dX3_readMethod_93 : decode cX3_readMethod 93 = .ok (.aload_n 0, 1) := by decide +kernel
theorem dX3_readMethod_94 : decode cX3_readMethod 94 = .ok (.iload_n 3, 1) := by decide +kernel
theorem dX3_readMethod_95 : decode cX3_readMethod 95 = .ok (.iconst 1, 1) := by decide +kernel
theorem dX3_readMethod_96 : decode cX3_readMethod 96 = .ok (.iadd, 1) := by decide +kernel
theorem dX3_readMethod_97 : decode cX3_readMethod 97 = .ok (.aload_n 0, 1) := by decide +kernel
theorem dX3_readMethod_98 : decode cX3_readMethod 98 = .ok (.getfield 30, 3) := by decide +kernel
theorem dX3_readMethod_101 : decode cX3_readMethod 101 = .ok (.iload_n 1, 1) := by decide +kernel
theorem dX3_readMethod_102 : decode cX3_readMethod 102 = .ok (.iconst 0, 1) := by decide +kernel
theorem dX3_readMethod_103 : decode cX3_readMethod 103 = .ok (.iadd, 1) := by decide +kernel
theorem dX3_readMethod_104 : decode cX3_readMethod 104 = .ok (.iaload, 1) := by decide +kernel
theorem dX3_readMethod_105 : decode cX3_readMethod 105 = .ok (.isub, 1) := by decide +kernel
theorem dX3_readMethod_106 : decode cX3_readMethod 106 = .ok (.bipush 30, 2) := by decide +kernel
theorem dX3_readMethod_108 : decode cX3_readMethod 108 = .ok (.invokevirtual 71, 3) := by decide +kernel
theorem dX3_readMethod_111 : decode cX3_readMethod 111 = .ok (.iastore, 1) := by decide +kernel
theorem dX3_readMethod_112 : decode cX3_readMethod 112 = .ok (.aload_n 0, 1) := by decide +kernel
theorem dX3_readMethod_113 : decode cX3_readMethod 113 = .ok (.iload_n 1, 1) := by decide +kernel
theorem dX3_readMethod_114 : decode cX3_readMethod 114 = .ok (.invokevirtual 155, 3) := by decide +kernel
theorem dX3_readMethod_117 : decode cX3_readMethod 117 = .ok (.aload_n 0, 1) := by decide +kernel
theorem dX3_readMethod_118 : decode cX3_readMethod 118 = .ok (.iload_n 1, 1) := by decide +kernel
theorem dX3_readMethod_119 : decode cX3_readMethod 119 = .ok (.invokevirtual 158, 3) := by decide +kernel
theorem dX3_readMethod_122 : decode cX3_readMethod 122 = .ok (.aload_n 0, 1) := by decide +kernel
theorem dX3_readMethod_123 : decode cX3_readMethod 123 = .ok (.iload_n 1, 1) := by decide +kernel
theorem dX3_readMethod_124 : decode cX3_readMethod 124 = .ok (.invokevirtual 161, 3) := by decide +kernel
theorem dX3_readMethod_127 : decode cX3_readMethod 127 = .ok (.return_, 1) := by decide +kernel
theorem dX5_stepArithmetic_0 : decode cX5_stepArithmetic 0 = .ok (.aload_n 0, 1) := by decide +kernel
theorem dX5_stepArithmetic_1 : decode cX5_stepArithmetic 1 = .ok (.invokevirtual 154, 3) := by decide +kernel
theorem dX5_stepArithmetic_4 : decode cX5_stepArithmetic 4 = .ok (.istore_n 2, 1) := by decide +kernel
theorem dX5_stepArithmetic_5 : decode cX5_stepArithmetic 5 = .ok (.aload_n 0, 1) := by decide +kernel
theorem dX5_stepArithmetic_6 : decode cX5_stepArithmetic 6 = .ok (.invokevirtual 154, 3) := by decide +kernel
theorem dX5_stepArithmetic_9 : decode cX5_stepArithmetic 9 = .ok (.istore_n 3, 1) := by decide +kernel
theorem dX5_stepArithmetic_10 : decode cX5_stepArithmetic 10 = .ok (.iload_n 2, 1) := by decide +kernel
theorem dX5_stepArithmetic_11 : decode cX5_stepArithmetic 11 = .ok (.ifCond .ne 24, 3) := by decide +kernel
theorem dX5_stepArithmetic_14 : decode cX5_stepArithmetic 14 = .ok (.iload_n 1, 1) := by decide +kernel
theorem dX5_stepArithmetic_15 : decode cX5_stepArithmetic 15 = .ok (.bipush 108, 2) := by decide +kernel
theorem dX5_stepArithmetic_17 : decode cX5_stepArithmetic 17 = .ok (.if_icmp .eq 9, 3) := by decide +kernel
theorem dX5_stepArithmetic_20 : decode cX5_stepArithmetic 20 = .ok (.iload_n 1, 1) := by decide +kernel
theorem dX5_stepArithmetic_21 : decode cX5_stepArithmetic 21 = .ok (.bipush 112, 2) := by decide +kernel
theorem dX5_stepArithmetic_23 : decode cX5_stepArithmetic 23 = .ok (.if_icmp .ne 12, 3) := by decide +kernel
theorem dX5_stepArithmetic_26 : decode cX5_stepArithmetic 26 = .ok (.aload_n 0, 1) := by decide +kernel
theorem dX5_stepArithmetic_27 : decode cX5_stepArithmetic 27 = .ok (.bipush (-4), 2) := by decide +kernel
theorem dX5_stepArithmetic_29 : decode cX5_stepArithmetic 29 = .ok (.putfield 86, 3) := by decide +kernel
theorem dX5_stepArithmetic_32 : decode cX5_stepArithmetic 32 = .ok (.goto 14, 3) := by decide +kernel
theorem dX5_stepArithmetic_35 : decode cX5_stepArithmetic 35 = .ok (.aload_n 0, 1) := by decide +kernel
theorem dX5_stepArithmetic_36 : decode cX5_stepArithmetic 36 = .ok (.iload_n 1, 1) := by decide +kernel
theorem dX5_stepArithmetic_37 : decode cX5_stepArithmetic 37 = .ok (.iload_n 3, 1) := by decide +kernel
theorem dX5_stepArithmetic_38 : decode cX5_stepArithmetic 38 = .ok (.iload_n 2, 1) := by decide +kernel
theorem dX5_stepArithmetic_39 : decode cX5_stepArithmetic 39 = .ok (.invokestatic 176, 3) := by decide +kernel
theorem dX5_stepArithmetic_42 : decode cX5_stepArithmetic 42 = .ok (.iconst 1, 1) := by decide +kernel
theorem dX5_stepArithmetic_43 : decode cX5_stepArithmetic 43 = .ok (.invokevirtual 145, 3) := by decide +kernel
theorem dX5_stepArithmetic_46 : decode cX5_stepArithmetic 46 = .ok (.return_, 1) := by decide +kernel
theorem dX5_computed_0 : decode cX5_computed 0 = .ok (.iload_n 0, 1) := by decide +kernel
theorem dX5_computed_1 : decode cX5_computed 1 = .ok (.tableswitch 203 96 128 #[147, 203, 203, 203, 151, 203, 203, 203, 155, 203, 203, 203, 159, 203, 203, 203, 171, 203, 203, 203, 203, 203, 203, 203, 183, 203, 187, 203, 191, 203, 195, 203, 199], 147) := by decide +kernel
theorem dX5_computed_148 : decode cX5_computed 148 = .ok (.iload_n 1, 1) := by decide +kernel
theorem dX5_computed_149 : decode cX5_computed 149 = .ok (.iload_n 2, 1) := by decide +kernel
theorem dX5_computed_150 : decode cX5_computed 150 = .ok (.iadd, 1) := by decide +kernel
theorem dX5_computed_151 : decode cX5_computed 151 = .ok (.ireturn, 1) := by decide +kernel
theorem dX5_computed_152 : decode cX5_computed 152 = .ok (.iload_n 1, 1) := by decide +kernel
theorem dX5_computed_153 : decode cX5_computed 153 = .ok (.iload_n 2, 1) := by decide +kernel
theorem dX5_computed_154 : decode cX5_computed 154 = .ok (.isub, 1) := by decide +kernel
theorem dX5_computed_155 : decode cX5_computed 155 = .ok (.ireturn, 1) := by decide +kernel
theorem dX5_computed_156 : decode cX5_computed 156 = .ok (.iload_n 1, 1) := by decide +kernel
theorem dX5_computed_157 : decode cX5_computed 157 = .ok (.iload_n 2, 1) := by decide +kernel
theorem dX5_computed_158 : decode cX5_computed 158 = .ok (.imul, 1) := by decide +kernel
theorem dX5_computed_159 : decode cX5_computed 159 = .ok (.ireturn, 1) := by decide +kernel
theorem dX5_computed_160 : decode cX5_computed 160 = .ok (.iload_n 2, 1) := by decide +kernel
theorem dX5_computed_161 : decode cX5_computed 161 = .ok (.ifCond .ne 7, 3) := by decide +kernel
theorem dX5_computed_164 : decode cX5_computed 164 = .ok (.iconst 0, 1) := by decide +kernel
theorem dX5_computed_165 : decode cX5_computed 165 = .ok (.goto 6, 3) := by decide +kernel
theorem dX5_computed_168 : decode cX5_computed 168 = .ok (.iload_n 1, 1) := by decide +kernel
theorem dX5_computed_169 : decode cX5_computed 169 = .ok (.iload_n 2, 1) := by decide +kernel
theorem dX5_computed_170 : decode cX5_computed 170 = .ok (.idiv, 1) := by decide +kernel
theorem dX5_computed_171 : decode cX5_computed 171 = .ok (.ireturn, 1) := by decide +kernel
theorem dX5_computed_172 : decode cX5_computed 172 = .ok (.iload_n 2, 1) := by decide +kernel
theorem dX5_computed_173 : decode cX5_computed 173 = .ok (.ifCond .ne 7, 3) := by decide +kernel
theorem dX5_computed_176 : decode cX5_computed 176 = .ok (.iconst 0, 1) := by decide +kernel
theorem dX5_computed_177 : decode cX5_computed 177 = .ok (.goto 6, 3) := by decide +kernel
theorem dX5_computed_180 : decode cX5_computed 180 = .ok (.iload_n 1, 1) := by decide +kernel
theorem dX5_computed_181 : decode cX5_computed 181 = .ok (.iload_n 2, 1) := by decide +kernel
theorem dX5_computed_182 : decode cX5_computed 182 = .ok (.irem, 1) := by decide +kernel
theorem dX5_computed_183 : decode cX5_computed 183 = .ok (.ireturn, 1) := by decide +kernel
theorem dX5_computed_184 : decode cX5_computed 184 = .ok (.iload_n 1, 1) := by decide +kernel
theorem dX5_computed_185 : decode cX5_computed 185 = .ok (.iload_n 2, 1) := by decide +kernel
theorem dX5_computed_186 : decode cX5_computed 186 = .ok (.ishl, 1) := by decide +kernel
theorem dX5_computed_187 : decode cX5_computed 187 = .ok (.ireturn, 1) := by decide +kernel
theorem dX5_computed_188 : decode cX5_computed 188 = .ok (.iload_n 1, 1) := by decide +kernel
theorem dX5_computed_189 : decode cX5_computed 189 = .ok (.iload_n 2, 1) := by decide +kernel
theorem dX5_computed_190 : decode cX5_computed 190 = .ok (.ishr, 1) := by decide +kernel
theorem dX5_computed_191 : decode cX5_computed 191 = .ok (.ireturn, 1) := by decide +kernel
theorem dX5_computed_192 : decode cX5_computed 192 = .ok (.iload_n 1, 1) := by decide +kernel
theorem dX5_computed_193 : decode cX5_computed 193 = .ok (.iload_n 2, 1) := by decide +kernel
theorem dX5_computed_194 : decode cX5_computed 194 = .ok (.iushr, 1) := by decide +kernel
theorem dX5_computed_195 : decode cX5_computed 195 = .ok (.ireturn, 1) := by decide +kernel
theorem dX5_computed_196 : decode cX5_computed 196 = .ok (.iload_n 1, 1) := by decide +kernel
theorem dX5_computed_197 : decode cX5_computed 197 = .ok (.iload_n 2, 1) := by decide +kernel
theorem dX5_computed_198 : decode cX5_computed 198 = .ok (.iand, 1) := by decide +kernel
theorem dX5_computed_199 : decode cX5_computed 199 = .ok (.ireturn, 1) := by decide +kernel
theorem dX5_computed_200 : decode cX5_computed 200 = .ok (.iload_n 1, 1) := by decide +kernel
theorem dX5_computed_201 : decode cX5_computed 201 = .ok (.iload_n 2, 1) := by decide +kernel
theorem dX5_computed_202 : decode cX5_computed 202 = .ok (.ior, 1) := by decide +kernel
theorem dX5_computed_203 : decode cX5_computed 203 = .ok (.ireturn, 1) := by decide +kernel
theorem dX5_computed_204 : decode cX5_computed 204 = .ok (.iload_n 1, 1) := by decide +kernel
theorem dX5_computed_205 : decode cX5_computed 205 = .ok (.iload_n 2, 1) := by decide +kernel
theorem dX5_computed_206 : decode cX5_computed 206 = .ok (.ixor, 1) := by decide +kernel
theorem dX5_computed_207 : decode cX5_computed 207 = .ok (.ireturn, 1) := by decide +kernel
theorem dX5_make_0 : decode cX5_make 0 = .ok (.aload_n 0, 1) := by decide +kernel
theorem dX5_make_1 : decode cX5_make 1 = .ok (.getfield 60, 3) := by decide +kernel
theorem dX5_make_4 : decode cX5_make 4 = .ok (.sipush 2000, 3) := by decide +kernel
theorem dX5_make_7 : decode cX5_make 7 = .ok (.if_icmp .ge 19, 3) := by decide +kernel
theorem dX5_make_10 : decode cX5_make 10 = .ok (.iload_n 2, 1) := by decide +kernel
theorem dX5_make_11 : decode cX5_make 11 = .ok (.ifCond .lt 15, 3) := by decide +kernel
theorem dX5_make_14 : decode cX5_make 14 = .ok (.iload_n 2, 1) := by decide +kernel
theorem dX5_make_15 : decode cX5_make 15 = .ok (.sipush 20000, 3) := by decide +kernel
theorem dX5_make_18 : decode cX5_make 18 = .ok (.aload_n 0, 1) := by decide +kernel
theorem dX5_make_19 : decode cX5_make 19 = .ok (.getfield 63, 3) := by decide +kernel
theorem dX5_make_22 : decode cX5_make 22 = .ok (.isub, 1) := by decide +kernel
theorem dX5_make_23 : decode cX5_make 23 = .ok (.if_icmp .le 10, 3) := by decide +kernel
theorem dX5_make_26 : decode cX5_make 26 = .ok (.aload_n 0, 1) := by decide +kernel
theorem dX5_make_27 : decode cX5_make 27 = .ok (.iconst 4, 1) := by decide +kernel
theorem dX5_make_28 : decode cX5_make 28 = .ok (.putfield 54, 3) := by decide +kernel
theorem dX5_make_31 : decode cX5_make 31 = .ok (.iconst 0, 1) := by decide +kernel
theorem dX5_make_32 : decode cX5_make 32 = .ok (.ireturn, 1) := by decide +kernel
theorem dX5_make_33 : decode cX5_make 33 = .ok (.aload_n 0, 1) := by decide +kernel
theorem dX5_make_34 : decode cX5_make 34 = .ok (.dup, 1) := by decide +kernel
theorem dX5_make_35 : decode cX5_make 35 = .ok (.getfield 60, 3) := by decide +kernel
theorem dX5_make_38 : decode cX5_make 38 = .ok (.iconst 1, 1) := by decide +kernel
theorem dX5_make_39 : decode cX5_make 39 = .ok (.iadd, 1) := by decide +kernel
theorem dX5_make_40 : decode cX5_make 40 = .ok (.putfield 60, 3) := by decide +kernel
theorem dX5_make_43 : decode cX5_make 43 = .ok (.aload_n 0, 1) := by decide +kernel
theorem dX5_make_44 : decode cX5_make 44 = .ok (.getfield 17, 3) := by decide +kernel
theorem dX5_make_47 : decode cX5_make 47 = .ok (.aload_n 0, 1) := by decide +kernel
theorem dX5_make_48 : decode cX5_make 48 = .ok (.getfield 60, 3) := by decide +kernel
theorem dX5_make_51 : decode cX5_make 51 = .ok (.iload_n 1, 1) := by decide +kernel
theorem dX5_make_52 : decode cX5_make 52 = .ok (.iastore, 1) := by decide +kernel
theorem dX5_make_53 : decode cX5_make 53 = .ok (.aload_n 0, 1) := by decide +kernel
theorem dX5_make_54 : decode cX5_make 54 = .ok (.getfield 20, 3) := by decide +kernel
theorem dX5_make_57 : decode cX5_make 57 = .ok (.aload_n 0, 1) := by decide +kernel
theorem dX5_make_58 : decode cX5_make 58 = .ok (.getfield 60, 3) := by decide +kernel
theorem dX5_make_61 : decode cX5_make 61 = .ok (.aload_n 0, 1) := by decide +kernel
theorem dX5_make_62 : decode cX5_make 62 = .ok (.getfield 63, 3) := by decide +kernel
theorem dX5_make_65 : decode cX5_make 65 = .ok (.iastore, 1) := by decide +kernel
theorem dX5_make_66 : decode cX5_make 66 = .ok (.aload_n 0, 1) := by decide +kernel
theorem dX5_make_67 : decode cX5_make 67 = .ok (.getfield 23, 3) := by decide +kernel
theorem dX5_make_70 : decode cX5_make 70 = .ok (.aload_n 0, 1) := by decide +kernel
theorem dX5_make_71 : decode cX5_make 71 = .ok (.getfield 63, 3) := by decide +kernel
theorem dX5_make_74 : decode cX5_make 74 = .ok (.aload_n 0, 1) := by decide +kernel
theorem dX5_make_75 : decode cX5_make 75 = .ok (.getfield 63, 3) := by decide +kernel
theorem dX5_make_78 : decode cX5_make 78 = .ok (.iload_n 2, 1) := by decide +kernel
theorem dX5_make_79 : decode cX5_make 79 = .ok (.iadd, 1) := by decide +kernel
theorem dX5_make_80 : decode cX5_make 80 = .ok (.iconst 0, 1) := by decide +kernel
theorem dX5_make_81 : decode cX5_make 81 = .ok (.invokestatic 100, 3) := by decide +kernel
theorem dX5_make_84 : decode cX5_make 84 = .ok (.aload_n 0, 1) := by decide +kernel
theorem dX5_make_85 : decode cX5_make 85 = .ok (.dup, 1) := by decide +kernel
theorem dX5_make_86 : decode cX5_make 86 = .ok (.getfield 63, 3) := by decide +kernel
theorem dX5_make_89 : decode cX5_make 89 = .ok (.iload_n 2, 1) := by decide +kernel
theorem dX5_make_90 : decode cX5_make 90 = .ok (.iadd, 1) := by decide +kernel
theorem dX5_make_91 : decode cX5_make 91 = .ok (.putfield 63, 3) := by decide +kernel
theorem dX5_make_94 : decode cX5_make 94 = .ok (.aload_n 0, 1) := by decide +kernel
theorem dX5_make_95 : decode cX5_make 95 = .ok (.getfield 20, 3) := by decide +kernel
theorem dX5_make_98 : decode cX5_make 98 = .ok (.aload_n 0, 1) := by decide +kernel
theorem dX5_make_99 : decode cX5_make 99 = .ok (.getfield 60, 3) := by decide +kernel
theorem dX5_make_102 : decode cX5_make 102 = .ok (.iconst 1, 1) := by decide +kernel
theorem dX5_make_103 : decode cX5_make 103 = .ok (.iadd, 1) := by decide +kernel
theorem dX5_make_104 : decode cX5_make 104 = .ok (.aload_n 0, 1) := by decide +kernel
theorem dX5_make_105 : decode cX5_make 105 = .ok (.getfield 63, 3) := by decide +kernel
theorem dX5_make_108 : decode cX5_make 108 = .ok (.iastore, 1) := by decide +kernel
theorem dX5_make_109 : decode cX5_make 109 = .ok (.aload_n 0, 1) := by decide +kernel
theorem dX5_make_110 : decode cX5_make 110 = .ok (.getfield 60, 3) := by decide +kernel
theorem dX5_make_113 : decode cX5_make 113 = .ok (.ireturn, 1) := by decide +kernel
theorem dX5_giveNew_0 : decode cX5_giveNew 0 = .ok (.aload_n 0, 1) := by decide +kernel
theorem dX5_giveNew_1 : decode cX5_giveNew 1 = .ok (.iload_n 1, 1) := by decide +kernel
theorem dX5_giveNew_2 : decode cX5_giveNew 2 = .ok (.iload_n 2, 1) := by decide +kernel
theorem dX5_giveNew_3 : decode cX5_giveNew 3 = .ok (.invokevirtual 89, 3) := by decide +kernel
theorem dX5_giveNew_6 : decode cX5_giveNew 6 = .ok (.istore_n 3, 1) := by decide +kernel
theorem dX5_giveNew_7 : decode cX5_giveNew 7 = .ok (.iload_n 3, 1) := by decide +kernel
theorem dX5_giveNew_8 : decode cX5_giveNew 8 = .ok (.ifCond .eq 9, 3) := by decide +kernel
theorem dX5_giveNew_11 : decode cX5_giveNew 11 = .ok (.aload_n 0, 1) := by decide +kernel
theorem dX5_giveNew_12 : decode cX5_giveNew 12 = .ok (.iload_n 3, 1) := by decide +kernel
theorem dX5_giveNew_13 : decode cX5_giveNew 13 = .ok (.iconst 2, 1) := by decide +kernel
theorem dX5_giveNew_14 : decode cX5_giveNew 14 = .ok (.invokevirtual 145, 3) := by decide +kernel
theorem dX5_giveNew_17 : decode cX5_giveNew 17 = .ok (.return_, 1) := by decide +kernel
theorem dX5_stepNewArray_0 : decode cX5_stepNewArray 0 = .ok (.aload_n 0, 1) := by decide +kernel
theorem dX5_stepNewArray_1 : decode cX5_stepNewArray 1 = .ok (.invokevirtual 154, 3) := by decide +kernel
theorem dX5_stepNewArray_4 : decode cX5_stepNewArray 4 = .ok (.istore_n 2, 1) := by decide +kernel
theorem dX5_stepNewArray_5 : decode cX5_stepNewArray 5 = .ok (.iload_n 2, 1) := by decide +kernel
theorem dX5_stepNewArray_6 : decode cX5_stepNewArray 6 = .ok (.ifCond .ge 12, 3) := by decide +kernel
theorem dX5_stepNewArray_9 : decode cX5_stepNewArray 9 = .ok (.aload_n 0, 1) := by decide +kernel
theorem dX5_stepNewArray_10 : decode cX5_stepNewArray 10 = .ok (.bipush (-6), 2) := by decide +kernel
theorem dX5_stepNewArray_12 : decode cX5_stepNewArray 12 = .ok (.putfield 86, 3) := by decide +kernel
theorem dX5_stepNewArray_15 : decode cX5_stepNewArray 15 = .ok (.goto 9, 3) := by decide +kernel
theorem dX5_stepNewArray_18 : decode cX5_stepNewArray 18 = .ok (.aload_n 0, 1) := by decide +kernel
theorem dX5_stepNewArray_19 : decode cX5_stepNewArray 19 = .ok (.iload_n 1, 1) := by decide +kernel
theorem dX5_stepNewArray_20 : decode cX5_stepNewArray 20 = .ok (.iload_n 2, 1) := by decide +kernel
theorem dX5_stepNewArray_21 : decode cX5_stepNewArray 21 = .ok (.invokevirtual 211, 3) := by decide +kernel
theorem dX5_stepNewArray_24 : decode cX5_stepNewArray 24 = .ok (.return_, 1) := by decide +kernel
theorem dX6_writeConstant_0 : decode cX6_writeConstant 0 = .ok (.aload_n 0, 1) := by decide +kernel
theorem dX6_writeConstant_1 : decode cX6_writeConstant 1 = .ok (.aload_n 0, 1) := by decide +kernel
theorem dX6_writeConstant_2 : decode cX6_writeConstant 2 = .ok (.getfield 9, 3) := by decide +kernel
theorem dX6_writeConstant_5 : decode cX6_writeConstant 5 = .ok (.iload_n 1, 1) := by decide +kernel
theorem dX6_writeConstant_6 : decode cX6_writeConstant 6 = .ok (.iaload, 1) := by decide +kernel
theorem dX6_writeConstant_7 : decode cX6_writeConstant 7 = .ok (.aload_n 0, 1) := by decide +kernel
theorem dX6_writeConstant_8 : decode cX6_writeConstant 8 = .ok (.getfield 13, 3) := by decide +kernel
theorem dX6_writeConstant_11 : decode cX6_writeConstant 11 = .ok (.iload_n 1, 1) := by decide +kernel
theorem dX6_writeConstant_12 : decode cX6_writeConstant 12 = .ok (.iaload, 1) := by decide +kernel
theorem dX6_writeConstant_13 : decode cX6_writeConstant 13 = .ok (.invokevirtual 90, 3) := by decide +kernel
theorem dX6_writeConstant_16 : decode cX6_writeConstant 16 = .ok (.istore 4, 2) := by decide +kernel
theorem dX6_writeConstant_18 : decode cX6_writeConstant 18 = .ok (.iload_n 3, 1) := by decide +kernel
theorem dX6_writeConstant_19 : decode cX6_writeConstant 19 = .ok (.ifCond .lt 12, 3) := by decide +kernel
theorem dX6_writeConstant_22 : decode cX6_writeConstant 22 = .ok (.iload_n 3, 1) := by decide +kernel
theorem dX6_writeConstant_23 : decode cX6_writeConstant 23 = .ok (.iload 4, 2) := by decide +kernel
theorem dX6_writeConstant_25 : decode cX6_writeConstant 25 = .ok (.iadd, 1) := by decide +kernel
theorem dX6_writeConstant_26 : decode cX6_writeConstant 26 = .ok (.aload_n 2, 1) := by decide +kernel
theorem dX6_writeConstant_27 : decode cX6_writeConstant 27 = .ok (.arraylength, 1) := by decide +kernel
theorem dX6_writeConstant_28 : decode cX6_writeConstant 28 = .ok (.if_icmp .le 4, 3) := by decide +kernel
theorem dX6_writeConstant_31 : decode cX6_writeConstant 31 = .ok (.return_, 1) := by decide +kernel
theorem dX6_writeConstant_32 : decode cX6_writeConstant 32 = .ok (.aload_n 2, 1) := by decide +kernel
theorem dX6_writeConstant_33 : decode cX6_writeConstant 33 = .ok (.iload_n 3, 1) := by decide +kernel
theorem dX6_writeConstant_34 : decode cX6_writeConstant 34 = .ok (.aload_n 0, 1) := by decide +kernel
theorem dX6_writeConstant_35 : decode cX6_writeConstant 35 = .ok (.getfield 9, 3) := by decide +kernel
theorem dX6_writeConstant_38 : decode cX6_writeConstant 38 = .ok (.iload_n 1, 1) := by decide +kernel
theorem dX6_writeConstant_39 : decode cX6_writeConstant 39 = .ok (.iaload, 1) := by decide +kernel
theorem dX6_writeConstant_40 : decode cX6_writeConstant 40 = .ok (.i2b, 1) := by decide +kernel
theorem dX6_writeConstant_41 : decode cX6_writeConstant 41 = .ok (.bastore, 1) := by decide +kernel
theorem dX6_writeConstant_42 : decode cX6_writeConstant 42 = .ok (.aload_n 0, 1) := by decide +kernel
theorem dX6_writeConstant_43 : decode cX6_writeConstant 43 = .ok (.getfield 9, 3) := by decide +kernel
theorem dX6_writeConstant_46 : decode cX6_writeConstant 46 = .ok (.iload_n 1, 1) := by decide +kernel
theorem dX6_writeConstant_47 : decode cX6_writeConstant 47 = .ok (.iaload, 1) := by decide +kernel
theorem dX6_writeConstant_48 : decode cX6_writeConstant 48 = .ok (.iconst 1, 1) := by decide +kernel
theorem dX6_writeConstant_49 : decode cX6_writeConstant 49 = .ok (.if_icmp .ne 31, 3) := by decide +kernel
theorem dX6_writeConstant_52 : decode cX6_writeConstant 52 = .ok (.aload_n 2, 1) := by decide +kernel
theorem dX6_writeConstant_53 : decode cX6_writeConstant 53 = .ok (.iload_n 3, 1) := by decide +kernel
theorem dX6_writeConstant_54 : decode cX6_writeConstant 54 = .ok (.iconst 1, 1) := by decide +kernel
theorem dX6_writeConstant_55 : decode cX6_writeConstant 55 = .ok (.iadd, 1) := by decide +kernel
theorem dX6_writeConstant_56 : decode cX6_writeConstant 56 = .ok (.iload 4, 2) := by decide +kernel
theorem dX6_writeConstant_58 : decode cX6_writeConstant 58 = .ok (.iconst 2, 1) := by decide +kernel
theorem dX6_writeConstant_59 : decode cX6_writeConstant 59 = .ok (.isub, 1) := by decide +kernel
theorem dX6_writeConstant_60 : decode cX6_writeConstant 60 = .ok (.i2b, 1) := by decide +kernel
theorem dX6_writeConstant_61 : decode cX6_writeConstant 61 = .ok (.bastore, 1) := by decide +kernel
theorem dX6_writeConstant_62 : decode cX6_writeConstant 62 = .ok (.aload_n 0, 1) := by decide +kernel
theorem dX6_writeConstant_63 : decode cX6_writeConstant 63 = .ok (.getfield 20, 3) := by decide +kernel
theorem dX6_writeConstant_66 : decode cX6_writeConstant 66 = .ok (.aload_n 0, 1) := by decide +kernel
theorem dX6_writeConstant_67 : decode cX6_writeConstant 67 = .ok (.getfield 13, 3) := by decide +kernel
theorem dX6_writeConstant_70 : decode cX6_writeConstant 70 = .ok (.iload_n 1, 1) := by decide +kernel
theorem dX6_writeConstant_71 : decode cX6_writeConstant 71 = .ok (.iaload, 1) := by decide +kernel
theorem dX6_writeConstant_72 : decode cX6_writeConstant 72 = .ok (.aload_n 2, 1) := by decide +kernel
theorem dX6_writeConstant_73 : decode cX6_writeConstant 73 = .ok (.iload_n 3, 1) := by decide +kernel
theorem dX6_writeConstant_74 : decode cX6_writeConstant 74 = .ok (.iconst 2, 1) := by decide +kernel
theorem dX6_writeConstant_75 : decode cX6_writeConstant 75 = .ok (.iadd, 1) := by decide +kernel
theorem dX6_writeConstant_76 : decode cX6_writeConstant 76 = .ok (.invokevirtual 112, 3) := by decide +kernel
theorem dX6_writeConstant_79 : decode cX6_writeConstant 79 = .ok (.return_, 1) := by decide +kernel
theorem dX6_writeConstant_80 : decode cX6_writeConstant 80 = .ok (.iconst 1, 1) := by decide +kernel
theorem dX6_writeConstant_81 : decode cX6_writeConstant 81 = .ok (.istore 5, 2) := by decide +kernel
theorem dX6_writeConstant_83 : decode cX6_writeConstant 83 = .ok (.iload 5, 2) := by decide +kernel
theorem dX6_writeConstant_85 : decode cX6_writeConstant 85 = .ok (.iload 4, 2) := by decide +kernel
theorem dX6_writeConstant_87 : decode cX6_writeConstant 87 = .ok (.if_icmp .ge 33, 3) := by decide +kernel
theorem dX6_writeConstant_90 : decode cX6_writeConstant 90 = .ok (.aload_n 2, 1) := by decide +kernel
theorem dX6_writeConstant_91 : decode cX6_writeConstant 91 = .ok (.iload_n 3, 1) := by decide +kernel
theorem dX6_writeConstant_92 : decode cX6_writeConstant 92 = .ok (.iload 5, 2) := by decide +kernel
theorem dX6_writeConstant_94 : decode cX6_writeConstant 94 = .ok (.iadd, 1) := by decide +kernel
theorem dX6_writeConstant_95 : decode cX6_writeConstant 95 = .ok (.aload_n 0, 1) := by decide +kernel
theorem dX6_writeConstant_96 : decode cX6_writeConstant 96 = .ok (.getfield 13, 3) := by decide +kernel
theorem dX6_writeConstant_99 : decode cX6_writeConstant 99 = .ok (.iload_n 1, 1) := by decide +kernel
theorem dX6_writeConstant_100 : decode cX6_writeConstant 100 = .ok (.iaload, 1) := by decide +kernel
theorem dX6_writeConstant_101 : decode cX6_writeConstant 101 = .ok (.bipush 8, 2) := by decide +kernel
theorem dX6_writeConstant_103 : decode cX6_writeConstant 103 = .ok (.iload 4, 2) := by decide +kernel
theorem dX6_writeConstant_105 : decode cX6_writeConstant 105 = .ok (.iconst 1, 1) := by decide +kernel
theorem dX6_writeConstant_106 : decode cX6_writeConstant 106 = .ok (.isub, 1) := by decide +kernel
theorem dX6_writeConstant_107 : decode cX6_writeConstant 107 = .ok (.iload 5, 2) := by decide +kernel
theorem dX6_writeConstant_109 : decode cX6_writeConstant 109 = .ok (.isub, 1) := by decide +kernel
theorem dX6_writeConstant_110 : decode cX6_writeConstant 110 = .ok (.imul, 1) := by decide +kernel
theorem dX6_writeConstant_111 : decode cX6_writeConstant 111 = .ok (.ishr, 1) := by decide +kernel
theorem dX6_writeConstant_112 : decode cX6_writeConstant 112 = .ok (.i2b, 1) := by decide +kernel
theorem dX6_writeConstant_113 : decode cX6_writeConstant 113 = .ok (.bastore, 1) := by decide +kernel
theorem dX6_writeConstant_114 : decode cX6_writeConstant 114 = .ok (.iinc 5 1, 3) := by decide +kernel
theorem dX6_writeConstant_117 : decode cX6_writeConstant 117 = .ok (.goto (-34), 3) := by decide +kernel
theorem dX6_writeConstant_120 : decode cX6_writeConstant 120 = .ok (.return_, 1) := by decide +kernel
theorem dX9_copyName_0 : decode cX9_copyName 0 = .ok (.aload_n 0, 1) := by decide +kernel
theorem dX9_copyName_1 : decode cX9_copyName 1 = .ok (.iload_n 1, 1) := by decide +kernel
theorem dX9_copyName_2 : decode cX9_copyName 2 = .ok (.invokevirtual 89, 3) := by decide +kernel
theorem dX9_copyName_5 : decode cX9_copyName 5 = .ok (.istore 4, 2) := by decide +kernel
theorem dX9_copyName_7 : decode cX9_copyName 7 = .ok (.iload_n 3, 1) := by decide +kernel
theorem dX9_copyName_8 : decode cX9_copyName 8 = .ok (.ifCond .lt 34, 3) := by decide +kernel
theorem dX9_copyName_11 : decode cX9_copyName 11 = .ok (.iload_n 3, 1) := by decide +kernel
theorem dX9_copyName_12 : decode cX9_copyName 12 = .ok (.iload 4, 2) := by decide +kernel
theorem dX9_copyName_14 : decode cX9_copyName 14 = .ok (.iadd, 1) := by decide +kernel
theorem dX9_copyName_15 : decode cX9_copyName 15 = .ok (.aload_n 2, 1) := by decide +kernel
theorem dX9_copyName_16 : decode cX9_copyName 16 = .ok (.arraylength, 1) := by decide +kernel
theorem dX9_copyName_17 : decode cX9_copyName 17 = .ok (.if_icmp .gt 25, 3) := by decide +kernel
theorem dX9_copyName_20 : decode cX9_copyName 20 = .ok (.iload 4, 2) := by decide +kernel
theorem dX9_copyName_22 : decode cX9_copyName 22 = .ok (.ifCond .le 20, 3) := by decide +kernel
theorem dX9_copyName_25 : decode cX9_copyName 25 = .ok (.aload_n 0, 1) := by decide +kernel
theorem dX9_copyName_26 : decode cX9_copyName 26 = .ok (.getfield 25, 3) := by decide +kernel
theorem dX9_copyName_29 : decode cX9_copyName 29 = .ok (.aload_n 0, 1) := by decide +kernel
theorem dX9_copyName_30 : decode cX9_copyName 30 = .ok (.getfield 29, 3) := by decide +kernel
theorem dX9_copyName_33 : decode cX9_copyName 33 = .ok (.iload_n 1, 1) := by decide +kernel
theorem dX9_copyName_34 : decode cX9_copyName 34 = .ok (.iaload, 1) := by decide +kernel
theorem dX9_copyName_35 : decode cX9_copyName 35 = .ok (.aload_n 2, 1) := by decide +kernel
theorem dX9_copyName_36 : decode cX9_copyName 36 = .ok (.iload_n 3, 1) := by decide +kernel
theorem dX9_copyName_37 : decode cX9_copyName 37 = .ok (.iload 4, 2) := by decide +kernel
theorem dX9_copyName_39 : decode cX9_copyName 39 = .ok (.invokestatic 67, 3) := by decide +kernel
theorem dX9_copyName_42 : decode cX9_copyName 42 = .ok (.return_, 1) := by decide +kernel
theorem dX9_scan_0 : decode cX9_scan 0 = .ok (.aload_n 0, 1) := by decide +kernel
theorem dX9_scan_1 : decode cX9_scan 1 = .ok (.bipush 32, 2) := by decide +kernel
theorem dX9_scan_3 : decode cX9_scan 3 = .ok (.putfield 73, 3) := by decide +kernel
theorem dX9_scan_6 : decode cX9_scan 6 = .ok (.aload_n 0, 1) := by decide +kernel
theorem dX9_scan_7 : decode cX9_scan 7 = .ok (.getfield 38, 3) := by decide +kernel
theorem dX9_scan_10 : decode cX9_scan 10 = .ok (.iconst 0, 1) := by decide +kernel
theorem dX9_scan_11 : decode cX9_scan 11 = .ok (.aload_n 0, 1) := by decide +kernel
theorem dX9_scan_12 : decode cX9_scan 12 = .ok (.getfield 35, 3) := by decide +kernel
theorem dX9_scan_15 : decode cX9_scan 15 = .ok (.iconst 0, 1) := by decide +kernel
theorem dX9_scan_16 : decode cX9_scan 16 = .ok (.bipush 64, 2) := by decide +kernel
theorem dX9_scan_18 : decode cX9_scan 18 = .ok (.invokestatic 67, 3) := by decide +kernel
theorem dX9_scan_21 : decode cX9_scan 21 = .ok (.aload_n 0, 1) := by decide +kernel
theorem dX9_scan_22 : decode cX9_scan 22 = .ok (.iconst 0, 1) := by decide +kernel
theorem dX9_scan_23 : decode cX9_scan 23 = .ok (.putfield 83, 3) := by decide +kernel
theorem dX9_scan_26 : decode cX9_scan 26 = .ok (.aload_n 0, 1) := by decide +kernel
theorem dX9_scan_27 : decode cX9_scan 27 = .ok (.iconst 0, 1) := by decide +kernel
theorem dX9_scan_28 : decode cX9_scan 28 = .ok (.putfield 86, 3) := by decide +kernel
theorem dX9_scan_31 : decode cX9_scan 31 = .ok (.aload_n 0, 1) := by decide +kernel
theorem dX9_scan_32 : decode cX9_scan 32 = .ok (.iconst 0, 1) := by decide +kernel
theorem dX9_scan_33 : decode cX9_scan 33 = .ok (.putfield 80, 3) := by decide +kernel
theorem dX9_scan_36 : decode cX9_scan 36 = .ok (.aload_n 0, 1) := by decide +kernel
theorem dX9_scan_37 : decode cX9_scan 37 = .ok (.iconst (-1), 1) := by decide +kernel
theorem dX9_scan_38 : decode cX9_scan 38 = .ok (.putfield 41, 3) := by decide +kernel
theorem dX9_scan_41 : decode cX9_scan 41 = .ok (.aload_n 1, 1) := by decide +kernel
theorem dX9_scan_42 : decode cX9_scan 42 = .ok (.iload_n 2, 1) := by decide +kernel
theorem dX9_scan_43 : decode cX9_scan 43 = .ok (.iconst 0, 1) := by decide +kernel
theorem dX9_scan_44 : decode cX9_scan 44 = .ok (.invokestatic 93, 3) := by decide +kernel
theorem dX9_scan_47 : decode cX9_scan 47 = .ok (.istore_n 3, 1) := by decide +kernel
theorem dX9_scan_48 : decode cX9_scan 48 = .ok (.iconst 0, 1) := by decide +kernel
theorem dX9_scan_49 : decode cX9_scan 49 = .ok (.istore 4, 2) := by decide +kernel
theorem dX9_scan_51 : decode cX9_scan 51 = .ok (.iload 4, 2) := by decide +kernel
theorem dX9_scan_53 : decode cX9_scan 53 = .ok (.sipush 3000, 3) := by decide +kernel
theorem dX9_scan_56 : decode cX9_scan 56 = .ok (.if_icmp .ge 46, 3) := by decide +kernel
theorem dX9_scan_59 : decode cX9_scan 59 = .ok (.iload_n 3, 1) := by decide +kernel
theorem dX9_scan_60 : decode cX9_scan 60 = .ok (.iload_n 2, 1) := by decide +kernel
theorem dX9_scan_61 : decode cX9_scan 61 = .ok (.if_icmp .ge 41, 3) := by decide +kernel
theorem dX9_scan_64 : decode cX9_scan 64 = .ok (.aload_n 0, 1) := by decide +kernel
theorem dX9_scan_65 : decode cX9_scan 65 = .ok (.aload_n 1, 1) := by decide +kernel
theorem dX9_scan_66 : decode cX9_scan 66 = .ok (.iload_n 2, 1) := by decide +kernel
theorem dX9_scan_67 : decode cX9_scan 67 = .ok (.iload_n 3, 1) := by decide +kernel
theorem dX9_scan_68 : decode cX9_scan 68 = .ok (.invokevirtual 96, 3) := by decide +kernel
theorem dX9_scan_71 : decode cX9_scan 71 = .ok (.istore 5, 2) := by decide +kernel
theorem dX9_scan_73 : decode cX9_scan 73 = .ok (.iload 5, 2) := by decide +kernel
theorem dX9_scan_75 : decode cX9_scan 75 = .ok (.ifCond .ne 11, 3) := by decide +kernel
theorem dX9_scan_78 : decode cX9_scan 78 = .ok (.aload_n 0, 1) := by decide +kernel
theorem dX9_scan_79 : decode cX9_scan 79 = .ok (.iconst 1, 1) := by decide +kernel
theorem dX9_scan_80 : decode cX9_scan 80 = .ok (.iload_n 3, 1) := by decide +kernel
theorem dX9_scan_81 : decode cX9_scan 81 = .ok (.iconst 0, 1) := by decide +kernel
theorem dX9_scan_82 : decode cX9_scan 82 = .ok (.invokevirtual 99, 3) := by decide +kernel
theorem dX9_scan_85 : decode cX9_scan 85 = .ok (.return_, 1) := by decide +kernel
theorem dX9_scan_86 : decode cX9_scan 86 = .ok (.aload_n 1, 1) := by decide +kernel
theorem dX9_scan_87 : decode cX9_scan 87 = .ok (.iload_n 2, 1) := by decide +kernel
theorem dX9_scan_88 : decode cX9_scan 88 = .ok (.iload_n 3, 1) := by decide +kernel
theorem dX9_scan_89 : decode cX9_scan 89 = .ok (.iload 5, 2) := by decide +kernel
theorem dX9_scan_91 : decode cX9_scan 91 = .ok (.iadd, 1) := by decide +kernel
theorem dX9_scan_92 : decode cX9_scan 92 = .ok (.invokestatic 93, 3) := by decide +kernel
theorem dX9_scan_95 : decode cX9_scan 95 = .ok (.istore_n 3, 1) := by decide +kernel
theorem dX9_scan_96 : decode cX9_scan 96 = .ok (.iinc 4 1, 3) := by decide +kernel
theorem dX9_scan_99 : decode cX9_scan 99 = .ok (.goto (-48), 3) := by decide +kernel
theorem dX9_scan_102 : decode cX9_scan 102 = .ok (.aload_n 0, 1) := by decide +kernel
theorem dX9_scan_103 : decode cX9_scan 103 = .ok (.iconst 0, 1) := by decide +kernel
theorem dX9_scan_104 : decode cX9_scan 104 = .ok (.iload_n 2, 1) := by decide +kernel
theorem dX9_scan_105 : decode cX9_scan 105 = .ok (.iconst 0, 1) := by decide +kernel
theorem dX9_scan_106 : decode cX9_scan 106 = .ok (.invokevirtual 99, 3) := by decide +kernel
theorem dX9_scan_109 : decode cX9_scan 109 = .ok (.return_, 1) := by decide +kernel
theorem dX9_scanToken_0 : decode cX9_scanToken 0 = .ok (.aload_n 1, 1) := by decide +kernel
theorem dX9_scanToken_1 : decode cX9_scanToken 1 = .ok (.iload_n 3, 1) := by decide +kernel
theorem dX9_scanToken_2 : decode cX9_scanToken 2 = .ok (.baload, 1) := by decide +kernel
theorem dX9_scanToken_3 : decode cX9_scanToken 3 = .ok (.istore 4, 2) := by decide +kernel
theorem dX9_scanToken_5 : decode cX9_scanToken 5 = .ok (.iload 4, 2) := by decide +kernel
theorem dX9_scanToken_7 : decode cX9_scanToken 7 = .ok (.invokestatic 103, 3) := by decide +kernel
theorem dX9_scanToken_10 : decode cX9_scanToken 10 = .ok (.ifCond .eq 11, 3) := by decide +kernel
theorem dX9_scanToken_13 : decode cX9_scanToken 13 = .ok (.aload_n 0, 1) := by decide +kernel
theorem dX9_scanToken_14 : decode cX9_scanToken 14 = .ok (.aload_n 1, 1) := by decide +kernel
theorem dX9_scanToken_15 : decode cX9_scanToken 15 = .ok (.iload_n 2, 1) := by decide +kernel
theorem dX9_scanToken_16 : decode cX9_scanToken 16 = .ok (.iload_n 3, 1) := by decide +kernel
theorem dX9_scanToken_17 : decode cX9_scanToken 17 = .ok (.invokevirtual 107, 3) := by decide +kernel
theorem dX9_scanToken_20 : decode cX9_scanToken 20 = .ok (.ireturn, 1) := by decide +kernel
theorem dX9_scanToken_21 : decode cX9_scanToken 21 = .ok (.iload 4, 2) := by decide +kernel
theorem dX9_scanToken_23 : decode cX9_scanToken 23 = .ok (.invokestatic 110, 3) := by decide +kernel
theorem dX9_scanToken_26 : decode cX9_scanToken 26 = .ok (.ifCond .eq 11, 3) := by decide +kernel
theorem dX9_scanToken_29 : decode cX9_scanToken 29 = .ok (.aload_n 0, 1) := by decide +kernel
theorem dX9_scanToken_30 : decode cX9_scanToken 30 = .ok (.aload_n 1, 1) := by decide +kernel
theorem dX9_scanToken_31 : decode cX9_scanToken 31 = .ok (.iload_n 2, 1) := by decide +kernel
theorem dX9_scanToken_32 : decode cX9_scanToken 32 = .ok (.iload_n 3, 1) := by decide +kernel
theorem dX9_scanToken_33 : decode cX9_scanToken 33 = .ok (.invokevirtual 113, 3) := by decide +kernel
theorem dX9_scanToken_36 : decode cX9_scanToken 36 = .ok (.ireturn, 1) := by decide +kernel
theorem dX9_scanToken_37 : decode cX9_scanToken 37 = .ok (.iload_n 3, 1) := by decide +kernel
theorem dX9_scanToken_38 : decode cX9_scanToken 38 = .ok (.iconst 1, 1) := by decide +kernel
theorem dX9_scanToken_39 : decode cX9_scanToken 39 = .ok (.iadd, 1) := by decide +kernel
theorem dX9_scanToken_40 : decode cX9_scanToken 40 = .ok (.iload_n 2, 1) := by decide +kernel
theorem dX9_scanToken_41 : decode cX9_scanToken 41 = .ok (.if_icmp .ge 11, 3) := by decide +kernel
theorem dX9_scanToken_44 : decode cX9_scanToken 44 = .ok (.aload_n 1, 1) := by decide +kernel
theorem dX9_scanToken_45 : decode cX9_scanToken 45 = .ok (.iload_n 3, 1) := by decide +kernel
theorem dX9_scanToken_46 : decode cX9_scanToken 46 = .ok (.iconst 1, 1) := by decide +kernel
theorem dX9_scanToken_47 : decode cX9_scanToken 47 = .ok (.iadd, 1) := by decide +kernel
theorem dX9_scanToken_48 : decode cX9_scanToken 48 = .ok (.baload, 1) := by decide +kernel
theorem dX9_scanToken_49 : decode cX9_scanToken 49 = .ok (.goto 4, 3) := by decide +kernel
theorem dX9_scanToken_52 : decode cX9_scanToken 52 = .ok (.iconst 0, 1) := by decide +kernel
theorem dX9_scanToken_53 : decode cX9_scanToken 53 = .ok (.istore 5, 2) := by decide +kernel
theorem dX9_scanToken_55 : decode cX9_scanToken 55 = .ok (.iload 5, 2) := by decide +kernel
theorem dX9_scanToken_57 : decode cX9_scanToken 57 = .ok (.bipush 62, 2) := by decide +kernel
theorem dX9_scanToken_59 : decode cX9_scanToken 59 = .ok (.if_icmp .ne 24, 3) := by decide +kernel
theorem dX9_scanToken_62 : decode cX9_scanToken 62 = .ok (.iload_n 3, 1) := by decide +kernel
theorem dX9_scanToken_63 : decode cX9_scanToken 63 = .ok (.iconst 2, 1) := by decide +kernel
theorem dX9_scanToken_64 : decode cX9_scanToken 64 = .ok (.iadd, 1) := by decide +kernel
theorem dX9_scanToken_65 : decode cX9_scanToken 65 = .ok (.iload_n 2, 1) := by decide +kernel
theorem dX9_scanToken_66 : decode cX9_scanToken 66 = .ok (.if_icmp .ge 17, 3) := by decide +kernel
theorem dX9_scanToken_69 : decode cX9_scanToken 69 = .ok (.aload_n 1, 1) := by decide +kernel
theorem dX9_scanToken_70 : decode cX9_scanToken 70 = .ok (.iload_n 3, 1) := by decide +kernel
theorem dX9_scanToken_71 : decode cX9_scanToken 71 = .ok (.iconst 2, 1) := by decide +kernel
theorem dX9_scanToken_72 : decode cX9_scanToken 72 = .ok (.iadd, 1) := by decide +kernel
theorem dX9_scanToken_73 : decode cX9_scanToken 73 = .ok (.baload, 1) := by decide +kernel
theorem dX9_scanToken_74 : decode cX9_scanToken 74 = .ok (.bipush 62, 2) := by decide +kernel
theorem dX9_scanToken_76 : decode cX9_scanToken 76 = .ok (.if_icmp .ne 7, 3) := by decide +kernel
theorem dX9_scanToken_79 : decode cX9_scanToken 79 = .ok (.iconst 1, 1) := by decide +kernel
theorem dX9_scanToken_80 : decode cX9_scanToken 80 = .ok (.goto 4, 3) := by decide +kernel
theorem dX9_scanToken_83 : decode cX9_scanToken 83 = .ok (.iconst 0, 1) := by decide +kernel
theorem dX9_scanToken_84 : decode cX9_scanToken 84 = .ok (.istore 6, 2) := by decide +kernel
theorem dX9_scanToken_86 : decode cX9_scanToken 86 = .ok (.iload 4, 2) := by decide +kernel
theorem dX9_scanToken_88 : decode cX9_scanToken 88 = .ok (.bipush 62, 2) := by decide +kernel
theorem dX9_scanToken_90 : decode cX9_scanToken 90 = .ok (.if_icmp .ne 13, 3) := by decide +kernel
theorem dX9_scanToken_93 : decode cX9_scanToken 93 = .ok (.iload 6, 2) := by decide +kernel
theorem dX9_scanToken_95 : decode cX9_scanToken 95 = .ok (.ifCond .eq 8, 3) := by decide +kernel
theorem dX9_scanToken_98 : decode cX9_scanToken 98 = .ok (.bipush 60, 2) := by decide +kernel
theorem dX9_scanToken_100 : decode cX9_scanToken 100 = .ok (.goto 10, 3) := by decide +kernel
theorem dX9_scanToken_103 : decode cX9_scanToken 103 = .ok (.iload 4, 2) := by decide +kernel
theorem dX9_scanToken_105 : decode cX9_scanToken 105 = .ok (.iload 5, 2) := by decide +kernel
theorem dX9_scanToken_107 : decode cX9_scanToken 107 = .ok (.invokestatic 116, 3) := by decide +kernel
theorem dX9_scanToken_110 : decode cX9_scanToken 110 = .ok (.istore 7, 2) := by decide +kernel
theorem dX9_scanToken_112 : decode cX9_scanToken 112 = .ok (.iload 7, 2) := by decide +kernel
theorem dX9_scanToken_114 : decode cX9_scanToken 114 = .ok (.ifCond .eq 11, 3) := by decide +kernel
theorem dX9_scanToken_117 : decode cX9_scanToken 117 = .ok (.aload_n 0, 1) := by decide +kernel
theorem dX9_scanToken_118 : decode cX9_scanToken 118 = .ok (.iload 7, 2) := by decide +kernel
theorem dX9_scanToken_120 : decode cX9_scanToken 120 = .ok (.iload_n 3, 1) := by decide +kernel
theorem dX9_scanToken_121 : decode cX9_scanToken 121 = .ok (.iconst 0, 1) := by decide +kernel
theorem dX9_scanToken_122 : decode cX9_scanToken 122 = .ok (.invokevirtual 99, 3) := by decide +kernel
theorem dX9_scanToken_125 : decode cX9_scanToken 125 = .ok (.iload 7, 2) := by decide +kernel
theorem dX9_scanToken_127 : decode cX9_scanToken 127 = .ok (.invokestatic 120, 3) := by decide +kernel
theorem dX9_scanToken_130 : decode cX9_scanToken 130 = .ok (.ireturn, 1) := by decide +kernel
theorem dX9_scanWord_0 : decode cX9_scanWord 0 = .ok (.iload_n 3, 1) := by decide +kernel
theorem dX9_scanWord_1 : decode cX9_scanWord 1 = .ok (.istore 4, 2) := by decide +kernel
theorem dX9_scanWord_3 : decode cX9_scanWord 3 = .ok (.iload 4, 2) := by decide +kernel
theorem dX9_scanWord_5 : decode cX9_scanWord 5 = .ok (.iload_n 2, 1) := by decide +kernel
theorem dX9_scanWord_6 : decode cX9_scanWord 6 = .ok (.if_icmp .ge 19, 3) := by decide +kernel
theorem dX9_scanWord_9 : decode cX9_scanWord 9 = .ok (.aload_n 1, 1) := by decide +kernel
theorem dX9_scanWord_10 : decode cX9_scanWord 10 = .ok (.iload 4, 2) := by decide +kernel
theorem dX9_scanWord_12 : decode cX9_scanWord 12 = .ok (.baload, 1) := by decide +kernel
theorem dX9_scanWord_13 : decode cX9_scanWord 13 = .ok (.invokestatic 123, 3) := by decide +kernel
theorem dX9_scanWord_16 : decode cX9_scanWord 16 = .ok (.ifCond .eq 9, 3) := by decide +kernel
theorem dX9_scanWord_19 : decode cX9_scanWord 19 = .ok (.iinc 4 1, 3) := by decide +kernel
theorem dX9_scanWord_22 : decode cX9_scanWord 22 = .ok (.goto (-19), 3) := by decide +kernel
theorem dX9_scanWord_25 : decode cX9_scanWord 25 = .ok (.iload 4, 2) := by decide +kernel
theorem dX9_scanWord_27 : decode cX9_scanWord 27 = .ok (.iload_n 3, 1) := by decide +kernel
theorem dX9_scanWord_28 : decode cX9_scanWord 28 = .ok (.isub, 1) := by decide +kernel
theorem dX9_scanWord_29 : decode cX9_scanWord 29 = .ok (.istore 5, 2) := by decide +kernel
theorem dX9_scanWord_31 : decode cX9_scanWord 31 = .ok (.iload 5, 2) := by decide +kernel
theorem dX9_scanWord_33 : decode cX9_scanWord 33 = .ok (.bipush 12, 2) := by decide +kernel
theorem dX9_scanWord_35 : decode cX9_scanWord 35 = .ok (.if_icmp .le 5, 3) := by decide +kernel
theorem dX9_scanWord_38 : decode cX9_scanWord 38 = .ok (.iconst 0, 1) := by decide +kernel
theorem dX9_scanWord_39 : decode cX9_scanWord 39 = .ok (.ireturn, 1) := by decide +kernel
theorem dX9_scanWord_40 : decode cX9_scanWord 40 = .ok (.aload_n 0, 1) := by decide +kernel
theorem dX9_scanWord_41 : decode cX9_scanWord 41 = .ok (.aload_n 1, 1) := by decide +kernel
theorem dX9_scanWord_42 : decode cX9_scanWord 42 = .ok (.iload_n 3, 1) := by decide +kernel
theorem dX9_scanWord_43 : decode cX9_scanWord 43 = .ok (.iload 5, 2) := by decide +kernel
theorem dX9_scanWord_45 : decode cX9_scanWord 45 = .ok (.invokevirtual 126, 3) := by decide +kernel
theorem dX9_scanWord_48 : decode cX9_scanWord 48 = .ok (.istore 6, 2) := by decide +kernel
theorem dX9_scanWord_50 : decode cX9_scanWord 50 = .ok (.iload 6, 2) := by decide +kernel
theorem dX9_scanWord_52 : decode cX9_scanWord 52 = .ok (.bipush 9, 2) := by decide +kernel
theorem dX9_scanWord_54 : decode cX9_scanWord 54 = .ok (.if_icmp .lt 14, 3) := by decide +kernel
theorem dX9_scanWord_57 : decode cX9_scanWord 57 = .ok (.iload 6, 2) := by decide +kernel
theorem dX9_scanWord_59 : decode cX9_scanWord 59 = .ok (.bipush 31, 2) := by decide +kernel
theorem dX9_scanWord_61 : decode cX9_scanWord 61 = .ok (.if_icmp .ge 7, 3) := by decide +kernel
theorem dX9_scanWord_64 : decode cX9_scanWord 64 = .ok (.iconst 1, 1) := by decide +kernel
theorem dX9_scanWord_65 : decode cX9_scanWord 65 = .ok (.goto 4, 3) := by decide +kernel
theorem dX9_scanWord_68 : decode cX9_scanWord 68 = .ok (.iconst 0, 1) := by decide +kernel
theorem dX9_scanWord_69 : decode cX9_scanWord 69 = .ok (.istore 7, 2) := by decide +kernel
theorem dX9_scanWord_71 : decode cX9_scanWord 71 = .ok (.aload_n 0, 1) := by decide +kernel
theorem dX9_scanWord_72 : decode cX9_scanWord 72 = .ok (.iload 7, 2) := by decide +kernel
theorem dX9_scanWord_74 : decode cX9_scanWord 74 = .ok (.ifCond .eq 14, 3) := by decide +kernel
theorem dX9_scanWord_77 : decode cX9_scanWord 77 = .ok (.bipush 10, 2) := by decide +kernel
theorem dX9_scanWord_79 : decode cX9_scanWord 79 = .ok (.iload 6, 2) := by decide +kernel
theorem dX9_scanWord_81 : decode cX9_scanWord 81 = .ok (.iadd, 1) := by decide +kernel
theorem dX9_scanWord_82 : decode cX9_scanWord 82 = .ok (.bipush 9, 2) := by decide +kernel
theorem dX9_scanWord_84 : decode cX9_scanWord 84 = .ok (.isub, 1) := by decide +kernel
theorem dX9_scanWord_85 : decode cX9_scanWord 85 = .ok (.goto 4, 3) := by decide +kernel
theorem dX9_scanWord_88 : decode cX9_scanWord 88 = .ok (.iconst 2, 1) := by decide +kernel
theorem dX9_scanWord_89 : decode cX9_scanWord 89 = .ok (.iload_n 3, 1) := by decide +kernel
theorem dX9_scanWord_90 : decode cX9_scanWord 90 = .ok (.iload 6, 2) := by decide +kernel
theorem dX9_scanWord_92 : decode cX9_scanWord 92 = .ok (.invokevirtual 99, 3) := by decide +kernel
theorem dX9_scanWord_95 : decode cX9_scanWord 95 = .ok (.iload 5, 2) := by decide +kernel
theorem dX9_scanWord_97 : decode cX9_scanWord 97 = .ok (.ireturn, 1) := by decide +kernel
theorem dX9_nameOf_0 : decode cX9_nameOf 0 = .ok (.iload_n 3, 1) := by decide +kernel
theorem dX9_nameOf_1 : decode cX9_nameOf 1 = .ok (.iconst 1, 1) := by decide +kernel
theorem dX9_nameOf_2 : decode cX9_nameOf 2 = .ok (.if_icmp .lt 15, 3) := by decide +kernel
theorem dX9_nameOf_5 : decode cX9_nameOf 5 = .ok (.iload_n 2, 1) := by decide +kernel
theorem dX9_nameOf_6 : decode cX9_nameOf 6 = .ok (.ifCond .lt 11, 3) := by decide +kernel
theorem dX9_nameOf_9 : decode cX9_nameOf 9 = .ok (.iload_n 2, 1) := by decide +kernel
theorem dX9_nameOf_10 : decode cX9_nameOf 10 = .ok (.iload_n 3, 1) := by decide +kernel
theorem dX9_nameOf_11 : decode cX9_nameOf 11 = .ok (.iadd, 1) := by decide +kernel
theorem dX9_nameOf_12 : decode cX9_nameOf 12 = .ok (.aload_n 1, 1) := by decide +kernel
theorem dX9_nameOf_13 : decode cX9_nameOf 13 = .ok (.arraylength, 1) := by decide +kernel
theorem dX9_nameOf_14 : decode cX9_nameOf 14 = .ok (.if_icmp .le 5, 3) := by decide +kernel
theorem dX9_nameOf_17 : decode cX9_nameOf 17 = .ok (.iconst 0, 1) := by decide +kernel
theorem dX9_nameOf_18 : decode cX9_nameOf 18 = .ok (.ireturn, 1) := by decide +kernel
theorem dX9_nameOf_19 : decode cX9_nameOf 19 = .ok (.aload_n 0, 1) := by decide +kernel
theorem dX9_nameOf_20 : decode cX9_nameOf 20 = .ok (.getfield 35, 3) := by decide +kernel
theorem dX9_nameOf_23 : decode cX9_nameOf 23 = .ok (.aload_n 1, 1) := by decide +kernel
theorem dX9_nameOf_24 : decode cX9_nameOf 24 = .ok (.iload_n 2, 1) := by decide +kernel
theorem dX9_nameOf_25 : decode cX9_nameOf 25 = .ok (.iload_n 3, 1) := by decide +kernel
theorem dX9_nameOf_26 : decode cX9_nameOf 26 = .ok (.invokestatic 76, 3) := by decide +kernel
theorem dX9_nameOf_29 : decode cX9_nameOf 29 = .ok (.iaload, 1) := by decide +kernel
theorem dX9_nameOf_30 : decode cX9_nameOf 30 = .ok (.istore 4, 2) := by decide +kernel
theorem dX9_nameOf_32 : decode cX9_nameOf 32 = .ok (.iconst 0, 1) := by decide +kernel
theorem dX9_nameOf_33 : decode cX9_nameOf 33 = .ok (.istore 5, 2) := by decide +kernel
theorem dX9_nameOf_35 : decode cX9_nameOf 35 = .ok (.iload 5, 2) := by decide +kernel
theorem dX9_nameOf_37 : decode cX9_nameOf 37 = .ok (.sipush 1740, 3) := by decide +kernel
theorem dX9_nameOf_40 : decode cX9_nameOf 40 = .ok (.if_icmp .ge 39, 3) := by decide +kernel
theorem dX9_nameOf_43 : decode cX9_nameOf 43 = .ok (.iload 4, 2) := by decide +kernel
theorem dX9_nameOf_45 : decode cX9_nameOf 45 = .ok (.iconst (-1), 1) := by decide +kernel
theorem dX9_nameOf_46 : decode cX9_nameOf 46 = .ok (.if_icmp .eq 33, 3) := by decide +kernel
theorem dX9_nameOf_49 : decode cX9_nameOf 49 = .ok (.aload_n 0, 1) := by decide +kernel
theorem dX9_nameOf_50 : decode cX9_nameOf 50 = .ok (.iload 4, 2) := by decide +kernel
theorem dX9_nameOf_52 : decode cX9_nameOf 52 = .ok (.aload_n 1, 1) := by decide +kernel
theorem dX9_nameOf_53 : decode cX9_nameOf 53 = .ok (.iload_n 2, 1) := by decide +kernel
theorem dX9_nameOf_54 : decode cX9_nameOf 54 = .ok (.iload_n 3, 1) := by decide +kernel
theorem dX9_nameOf_55 : decode cX9_nameOf 55 = .ok (.invokevirtual 129, 3) := by decide +kernel
theorem dX9_nameOf_58 : decode cX9_nameOf 58 = .ok (.ifCond .eq 6, 3) := by decide +kernel
theorem dX9_nameOf_61 : decode cX9_nameOf 61 = .ok (.iload 4, 2) := by decide +kernel
theorem dX9_nameOf_63 : decode cX9_nameOf 63 = .ok (.ireturn, 1) := by decide +kernel
theorem dX9_nameOf_64 : decode cX9_nameOf 64 = .ok (.aload_n 0, 1) := by decide +kernel
theorem dX9_nameOf_65 : decode cX9_nameOf 65 = .ok (.getfield 32, 3) := by decide +kernel
theorem dX9_nameOf_68 : decode cX9_nameOf 68 = .ok (.iload 4, 2) := by decide +kernel
theorem dX9_nameOf_70 : decode cX9_nameOf 70 = .ok (.iaload, 1) := by decide +kernel
theorem dX9_nameOf_71 : decode cX9_nameOf 71 = .ok (.istore 4, 2) := by decide +kernel
theorem dX9_nameOf_73 : decode cX9_nameOf 73 = .ok (.iinc 5 1, 3) := by decide +kernel
theorem dX9_nameOf_76 : decode cX9_nameOf 76 = .ok (.goto (-41), 3) := by decide +kernel
theorem dX9_nameOf_79 : decode cX9_nameOf 79 = .ok (.aload_n 0, 1) := by decide +kernel
theorem dX9_nameOf_80 : decode cX9_nameOf 80 = .ok (.getfield 29, 3) := by decide +kernel
theorem dX9_nameOf_83 : decode cX9_nameOf 83 = .ok (.aload_n 0, 1) := by decide +kernel
theorem dX9_nameOf_84 : decode cX9_nameOf 84 = .ok (.getfield 73, 3) := by decide +kernel
theorem dX9_nameOf_87 : decode cX9_nameOf 87 = .ok (.iaload, 1) := by decide +kernel
theorem dX9_nameOf_88 : decode cX9_nameOf 88 = .ok (.istore 5, 2) := by decide +kernel
theorem dX9_nameOf_90 : decode cX9_nameOf 90 = .ok (.aload_n 0, 1) := by decide +kernel
theorem dX9_nameOf_91 : decode cX9_nameOf 91 = .ok (.getfield 73, 3) := by decide +kernel
theorem dX9_nameOf_94 : decode cX9_nameOf 94 = .ok (.sipush 1740, 3) := by decide +kernel
theorem dX9_nameOf_97 : decode cX9_nameOf 97 = .ok (.if_icmp .ge 15, 3) := by decide +kernel
theorem dX9_nameOf_100 : decode cX9_nameOf 100 = .ok (.iload 5, 2) := by decide +kernel
theorem dX9_nameOf_102 : decode cX9_nameOf 102 = .ok (.iload_n 3, 1) := by decide +kernel
theorem dX9_nameOf_103 : decode cX9_nameOf 103 = .ok (.iadd, 1) := by decide +kernel
theorem dX9_nameOf_104 : decode cX9_nameOf 104 = .ok (.aload_n 0, 1) := by decide +kernel
theorem dX9_nameOf_105 : decode cX9_nameOf 105 = .ok (.getfield 25, 3) := by decide +kernel
theorem dX9_nameOf_108 : decode cX9_nameOf 108 = .ok (.arraylength, 1) := by decide +kernel
theorem dX9_nameOf_109 : decode cX9_nameOf 109 = .ok (.if_icmp .le 5, 3) := by decide +kernel
theorem dX9_nameOf_112 : decode cX9_nameOf 112 = .ok (.iconst 0, 1) := by decide +kernel
theorem dX9_nameOf_113 : decode cX9_nameOf 113 = .ok (.ireturn, 1) := by decide +kernel
theorem dX9_nameOf_114 : decode cX9_nameOf 114 = .ok (.aload_n 1, 1) := by decide +kernel
theorem dX9_nameOf_115 : decode cX9_nameOf 115 = .ok (.iload_n 2, 1) := by decide +kernel
theorem dX9_nameOf_116 : decode cX9_nameOf 116 = .ok (.aload_n 0, 1) := by decide +kernel
theorem dX9_nameOf_117 : decode cX9_nameOf 117 = .ok (.getfield 25, 3) := by decide +kernel
theorem dX9_nameOf_120 : decode cX9_nameOf 120 = .ok (.iload 5, 2) := by decide +kernel
theorem dX9_nameOf_122 : decode cX9_nameOf 122 = .ok (.iload_n 3, 1) := by decide +kernel
theorem dX9_nameOf_123 : decode cX9_nameOf 123 = .ok (.invokestatic 67, 3) := by decide +kernel
theorem dX9_nameOf_126 : decode cX9_nameOf 126 = .ok (.aload_n 0, 1) := by decide +kernel
theorem dX9_nameOf_127 : decode cX9_nameOf 127 = .ok (.iload 5, 2) := by decide +kernel
theorem dX9_nameOf_129 : decode cX9_nameOf 129 = .ok (.iload_n 3, 1) := by decide +kernel
theorem dX9_nameOf_130 : decode cX9_nameOf 130 = .ok (.iadd, 1) := by decide +kernel
theorem dX9_nameOf_131 : decode cX9_nameOf 131 = .ok (.invokevirtual 63, 3) := by decide +kernel
theorem dX9_nameOf_134 : decode cX9_nameOf 134 = .ok (.aload_n 0, 1) := by decide +kernel
theorem dX9_nameOf_135 : decode cX9_nameOf 135 = .ok (.getfield 73, 3) := by decide +kernel
theorem dX9_nameOf_138 : decode cX9_nameOf 138 = .ok (.iconst 1, 1) := by decide +kernel
theorem dX9_nameOf_139 : decode cX9_nameOf 139 = .ok (.isub, 1) := by decide +kernel
theorem dX9_nameOf_140 : decode cX9_nameOf 140 = .ok (.ireturn, 1) := by decide +kernel
theorem dX9_scanNumber_0 : decode cX9_scanNumber 0 = .ok (.lconst 0, 1) := by decide +kernel
theorem dX9_scanNumber_1 : decode cX9_scanNumber 1 = .ok (.lstore 4, 2) := by decide +kernel
theorem dX9_scanNumber_3 : decode cX9_scanNumber 3 = .ok (.iload_n 3, 1) := by decide +kernel
theorem dX9_scanNumber_4 : decode cX9_scanNumber 4 = .ok (.istore 6, 2) := by decide +kernel
theorem dX9_scanNumber_6 : decode cX9_scanNumber 6 = .ok (.iload 6, 2) := by decide +kernel
theorem dX9_scanNumber_8 : decode cX9_scanNumber 8 = .ok (.iload_n 2, 1) := by decide +kernel
theorem dX9_scanNumber_9 : decode cX9_scanNumber 9 = .ok (.if_icmp .ge 43, 3) := by decide +kernel
theorem dX9_scanNumber_12 : decode cX9_scanNumber 12 = .ok (.aload_n 1, 1) := by decide +kernel
theorem dX9_scanNumber_13 : decode cX9_scanNumber 13 = .ok (.iload 6, 2) := by decide +kernel
theorem dX9_scanNumber_15 : decode cX9_scanNumber 15 = .ok (.baload, 1) := by decide +kernel
theorem dX9_scanNumber_16 : decode cX9_scanNumber 16 = .ok (.invokestatic 110, 3) := by decide +kernel
theorem dX9_scanNumber_19 : decode cX9_scanNumber 19 = .ok (.ifCond .eq 33, 3) := by decide +kernel
theorem dX9_scanNumber_22 : decode cX9_scanNumber 22 = .ok (.lload 4, 2) := by decide +kernel
theorem dX9_scanNumber_24 : decode cX9_scanNumber 24 = .ok (.ldc2_w 133, 3) := by decide +kernel
theorem dX9_scanNumber_27 : decode cX9_scanNumber 27 = .ok (.lmul, 1) := by decide +kernel
theorem dX9_scanNumber_28 : decode cX9_scanNumber 28 = .ok (.aload_n 1, 1) := by decide +kernel
theorem dX9_scanNumber_29 : decode cX9_scanNumber 29 = .ok (.iload 6, 2) := by decide +kernel
theorem dX9_scanNumber_31 : decode cX9_scanNumber 31 = .ok (.baload, 1) := by decide +kernel
theorem dX9_scanNumber_32 : decode cX9_scanNumber 32 = .ok (.i2l, 1) := by decide +kernel
theorem dX9_scanNumber_33 : decode cX9_scanNumber 33 = .ok (.ladd, 1) := by decide +kernel
theorem dX9_scanNumber_34 : decode cX9_scanNumber 34 = .ok (.ldc2_w 135, 3) := by decide +kernel
theorem dX9_scanNumber_37 : decode cX9_scanNumber 37 = .ok (.lsub, 1) := by decide +kernel
theorem dX9_scanNumber_38 : decode cX9_scanNumber 38 = .ok (.ldc2_w 137, 3) := by decide +kernel
theorem dX9_scanNumber_41 : decode cX9_scanNumber 41 = .ok (.invokestatic 139, 3) := by decide +kernel
theorem dX9_scanNumber_44 : decode cX9_scanNumber 44 = .ok (.lstore 4, 2) := by decide +kernel
theorem dX9_scanNumber_46 : decode cX9_scanNumber 46 = .ok (.iinc 6 1, 3) := by decide +kernel
theorem dX9_scanNumber_49 : decode cX9_scanNumber 49 = .ok (.goto (-43), 3) := by decide +kernel
theorem dX9_scanNumber_52 : decode cX9_scanNumber 52 = .ok (.aload_n 1, 1) := by decide +kernel
theorem dX9_scanNumber_53 : decode cX9_scanNumber 53 = .ok (.iload_n 3, 1) := by decide +kernel
theorem dX9_scanNumber_54 : decode cX9_scanNumber 54 = .ok (.baload, 1) := by decide +kernel
theorem dX9_scanNumber_55 : decode cX9_scanNumber 55 = .ok (.bipush 48, 2) := by decide +kernel
theorem dX9_scanNumber_57 : decode cX9_scanNumber 57 = .ok (.if_icmp .ne 15, 3) := by decide +kernel
theorem dX9_scanNumber_60 : decode cX9_scanNumber 60 = .ok (.iload 6, 2) := by decide +kernel
theorem dX9_scanNumber_62 : decode cX9_scanNumber 62 = .ok (.iload_n 3, 1) := by decide +kernel
theorem dX9_scanNumber_63 : decode cX9_scanNumber 63 = .ok (.iconst 1, 1) := by decide +kernel
theorem dX9_scanNumber_64 : decode cX9_scanNumber 64 = .ok (.iadd, 1) := by decide +kernel
theorem dX9_scanNumber_65 : decode cX9_scanNumber 65 = .ok (.if_icmp .le 7, 3) := by decide +kernel
theorem dX9_scanNumber_68 : decode cX9_scanNumber 68 = .ok (.iconst 1, 1) := by decide +kernel
theorem dX9_scanNumber_69 : decode cX9_scanNumber 69 = .ok (.goto 4, 3) := by decide +kernel
theorem dX9_scanNumber_72 : decode cX9_scanNumber 72 = .ok (.iconst 0, 1) := by decide +kernel
theorem dX9_scanNumber_73 : decode cX9_scanNumber 73 = .ok (.istore 7, 2) := by decide +kernel
theorem dX9_scanNumber_75 : decode cX9_scanNumber 75 = .ok (.iload 6, 2) := by decide +kernel
theorem dX9_scanNumber_77 : decode cX9_scanNumber 77 = .ok (.iload_n 2, 1) := by decide +kernel
theorem dX9_scanNumber_78 : decode cX9_scanNumber 78 = .ok (.if_icmp .ge 17, 3) := by decide +kernel
theorem dX9_scanNumber_81 : decode cX9_scanNumber 81 = .ok (.aload_n 1, 1) := by decide +kernel
theorem dX9_scanNumber_82 : decode cX9_scanNumber 82 = .ok (.iload 6, 2) := by decide +kernel
theorem dX9_scanNumber_84 : decode cX9_scanNumber 84 = .ok (.baload, 1) := by decide +kernel
theorem dX9_scanNumber_85 : decode cX9_scanNumber 85 = .ok (.invokestatic 123, 3) := by decide +kernel
theorem dX9_scanNumber_88 : decode cX9_scanNumber 88 = .ok (.ifCond .eq 7, 3) := by decide +kernel
theorem dX9_scanNumber_91 : decode cX9_scanNumber 91 = .ok (.iconst 1, 1) := by decide +kernel
theorem dX9_scanNumber_92 : decode cX9_scanNumber 92 = .ok (.goto 4, 3) := by decide +kernel
theorem dX9_scanNumber_95 : decode cX9_scanNumber 95 = .ok (.iconst 0, 1) := by decide +kernel
theorem dX9_scanNumber_96 : decode cX9_scanNumber 96 = .ok (.istore 8, 2) := by decide +kernel
theorem dX9_scanNumber_98 : decode cX9_scanNumber 98 = .ok (.iload 7, 2) := by decide +kernel
theorem dX9_scanNumber_100 : decode cX9_scanNumber 100 = .ok (.ifCond .ne 17, 3) := by decide +kernel
theorem dX9_scanNumber_103 : decode cX9_scanNumber 103 = .ok (.iload 8, 2) := by decide +kernel
theorem dX9_scanNumber_105 : decode cX9_scanNumber 105 = .ok (.ifCond .ne 12, 3) := by decide +kernel
theorem dX9_scanNumber_108 : decode cX9_scanNumber 108 = .ok (.lload 4, 2) := by decide +kernel
theorem dX9_scanNumber_110 : decode cX9_scanNumber 110 = .ok (.ldc2_w 145, 3) := by decide +kernel
theorem dX9_scanNumber_113 : decode cX9_scanNumber 113 = .ok (.lcmp, 1) := by decide +kernel
theorem dX9_scanNumber_114 : decode cX9_scanNumber 114 = .ok (.ifCond .le 5, 3) := by decide +kernel
theorem dX9_scanNumber_117 : decode cX9_scanNumber 117 = .ok (.iconst 0, 1) := by decide +kernel
theorem dX9_scanNumber_118 : decode cX9_scanNumber 118 = .ok (.ireturn, 1) := by decide +kernel
theorem dX9_scanNumber_119 : decode cX9_scanNumber 119 = .ok (.aload_n 0, 1) := by decide +kernel
theorem dX9_scanNumber_120 : decode cX9_scanNumber 120 = .ok (.iconst 3, 1) := by decide +kernel
theorem dX9_scanNumber_121 : decode cX9_scanNumber 121 = .ok (.iload_n 3, 1) := by decide +kernel
theorem dX9_scanNumber_122 : decode cX9_scanNumber 122 = .ok (.lload 4, 2) := by decide +kernel
theorem dX9_scanNumber_124 : decode cX9_scanNumber 124 = .ok (.l2i, 1) := by decide +kernel
theorem dX9_scanNumber_125 : decode cX9_scanNumber 125 = .ok (.invokevirtual 99, 3) := by decide +kernel
theorem dX9_scanNumber_128 : decode cX9_scanNumber 128 = .ok (.iload 6, 2) := by decide +kernel
theorem dX9_scanNumber_130 : decode cX9_scanNumber 130 = .ok (.iload_n 3, 1) := by decide +kernel
theorem dX9_scanNumber_131 : decode cX9_scanNumber 131 = .ok (.isub, 1) := by decide +kernel
theorem dX9_scanNumber_132 : decode cX9_scanNumber 132 = .ok (.ireturn, 1) := by decide +kernel
theorem dX10_closeSign_0 : decode cX10_closeSign 0 = .ok (.aload_n 0, 1) := by decide +kernel
theorem dX10_closeSign_1 : decode cX10_closeSign 1 = .ok (.dup, 1) := by decide +kernel
theorem dX10_closeSign_2 : decode cX10_closeSign 2 = .ok (.getfield 65, 3) := by decide +kernel
theorem dX10_closeSign_5 : decode cX10_closeSign 5 = .ok (.iconst 1, 1) := by decide +kernel
theorem dX10_closeSign_6 : decode cX10_closeSign 6 = .ok (.isub, 1) := by decide +kernel
theorem dX10_closeSign_7 : decode cX10_closeSign 7 = .ok (.putfield 65, 3) := by decide +kernel
theorem dX10_closeSign_10 : decode cX10_closeSign 10 = .ok (.aload_n 0, 1) := by decide +kernel
theorem dX10_closeSign_11 : decode cX10_closeSign 11 = .ok (.getfield 15, 3) := by decide +kernel
theorem dX10_closeSign_14 : decode cX10_closeSign 14 = .ok (.aload_n 0, 1) := by decide +kernel
theorem dX10_closeSign_15 : decode cX10_closeSign 15 = .ok (.getfield 65, 3) := by decide +kernel
theorem dX10_closeSign_18 : decode cX10_closeSign 18 = .ok (.iaload, 1) := by decide +kernel
theorem dX10_closeSign_19 : decode cX10_closeSign 19 = .ok (.istore_n 1, 1) := by decide +kernel
theorem dX10_closeSign_20 : decode cX10_closeSign 20 = .ok (.aload_n 0, 1) := by decide +kernel
theorem dX10_closeSign_21 : decode cX10_closeSign 21 = .ok (.getfield 25, 3) := by decide +kernel
theorem dX10_closeSign_24 : decode cX10_closeSign 24 = .ok (.aload_n 0, 1) := by decide +kernel
theorem dX10_closeSign_25 : decode cX10_closeSign 25 = .ok (.getfield 65, 3) := by decide +kernel
theorem dX10_closeSign_28 : decode cX10_closeSign 28 = .ok (.iaload, 1) := by decide +kernel
theorem dX10_closeSign_29 : decode cX10_closeSign 29 = .ok (.istore_n 2, 1) := by decide +kernel
theorem dX10_closeSign_30 : decode cX10_closeSign 30 = .ok (.iload_n 1, 1) := by decide +kernel
theorem dX10_closeSign_31 : decode cX10_closeSign 31 = .ok (.bipush 67, 2) := by decide +kernel
theorem dX10_closeSign_33 : decode cX10_closeSign 33 = .ok (.if_icmp .eq 9, 3) := by decide +kernel
theorem dX10_closeSign_36 : decode cX10_closeSign 36 = .ok (.iload_n 1, 1) := by decide +kernel
theorem dX10_closeSign_37 : decode cX10_closeSign 37 = .ok (.bipush 69, 2) := by decide +kernel
theorem dX10_closeSign_39 : decode cX10_closeSign 39 = .ok (.if_icmp .ne 20, 3) := by decide +kernel
theorem dX10_closeSign_42 : decode cX10_closeSign 42 = .ok (.aload_n 0, 1) := by decide +kernel
theorem dX10_closeSign_43 : decode cX10_closeSign 43 = .ok (.iload_n 1, 1) := by decide +kernel
theorem dX10_closeSign_44 : decode cX10_closeSign 44 = .ok (.aload_n 0, 1) := by decide +kernel
theorem dX10_closeSign_45 : decode cX10_closeSign 45 = .ok (.getfield 28, 3) := by decide +kernel
theorem dX10_closeSign_48 : decode cX10_closeSign 48 = .ok (.aload_n 0, 1) := by decide +kernel
theorem dX10_closeSign_49 : decode cX10_closeSign 49 = .ok (.getfield 65, 3) := by decide +kernel
theorem dX10_closeSign_52 : decode cX10_closeSign 52 = .ok (.iaload, 1) := by decide +kernel
theorem dX10_closeSign_53 : decode cX10_closeSign 53 = .ok (.invokevirtual 149, 3) := by decide +kernel
theorem dX10_closeSign_56 : decode cX10_closeSign 56 = .ok (.goto 237, 3) := by decide +kernel
theorem dX10_closeSign_59 : decode cX10_closeSign 59 = .ok (.iload_n 1, 1) := by decide +kernel
theorem dX10_closeSign_60 : decode cX10_closeSign 60 = .ok (.bipush 52, 2) := by decide +kernel
theorem dX10_closeSign_62 : decode cX10_closeSign 62 = .ok (.if_icmp .eq 9, 3) := by decide +kernel
theorem dX10_closeSign_65 : decode cX10_closeSign 65 = .ok (.iload_n 1, 1) := by decide +kernel
theorem dX10_closeSign_66 : decode cX10_closeSign 66 = .ok (.bipush 53, 2) := by decide +kernel
theorem dX10_closeSign_68 : decode cX10_closeSign 68 = .ok (.if_icmp .ne 54, 3) := by decide +kernel
theorem dX10_closeSign_71 : decode cX10_closeSign 71 = .ok (.aload_n 0, 1) := by decide +kernel
theorem dX10_closeSign_72 : decode cX10_closeSign 72 = .ok (.aload_n 0, 1) := by decide +kernel
theorem dX10_closeSign_73 : decode cX10_closeSign 73 = .ok (.iload_n 2, 1) := by decide +kernel
theorem dX10_closeSign_74 : decode cX10_closeSign 74 = .ok (.aload_n 0, 1) := by decide +kernel
theorem dX10_closeSign_75 : decode cX10_closeSign 75 = .ok (.getfield 75, 3) := by decide +kernel
theorem dX10_closeSign_78 : decode cX10_closeSign 78 = .ok (.invokevirtual 124, 3) := by decide +kernel
theorem dX10_closeSign_81 : decode cX10_closeSign 81 = .ok (.aload_n 0, 1) := by decide +kernel
theorem dX10_closeSign_82 : decode cX10_closeSign 82 = .ok (.getfield 19, 3) := by decide +kernel
theorem dX10_closeSign_85 : decode cX10_closeSign 85 = .ok (.aload_n 0, 1) := by decide +kernel
theorem dX10_closeSign_86 : decode cX10_closeSign 86 = .ok (.getfield 65, 3) := by decide +kernel
theorem dX10_closeSign_89 : decode cX10_closeSign 89 = .ok (.iaload, 1) := by decide +kernel
theorem dX10_closeSign_90 : decode cX10_closeSign 90 = .ok (.invokevirtual 80, 3) := by decide +kernel
theorem dX10_closeSign_93 : decode cX10_closeSign 93 = .ok (.aload_n 0, 1) := by decide +kernel
theorem dX10_closeSign_94 : decode cX10_closeSign 94 = .ok (.getfield 46, 3) := by decide +kernel
theorem dX10_closeSign_97 : decode cX10_closeSign 97 = .ok (.iload_n 1, 1) := by decide +kernel
theorem dX10_closeSign_98 : decode cX10_closeSign 98 = .ok (.aload_n 0, 1) := by decide +kernel
theorem dX10_closeSign_99 : decode cX10_closeSign 99 = .ok (.getfield 75, 3) := by decide +kernel
theorem dX10_closeSign_102 : decode cX10_closeSign 102 = .ok (.invokestatic 143, 3) := by decide +kernel
theorem dX10_closeSign_105 : decode cX10_closeSign 105 = .ok (.invokestatic 152, 3) := by decide +kernel
theorem dX10_closeSign_108 : decode cX10_closeSign 108 = .ok (.iconst 2, 1) := by decide +kernel
theorem dX10_closeSign_109 : decode cX10_closeSign 109 = .ok (.invokevirtual 156, 3) := by decide +kernel
theorem dX10_closeSign_112 : decode cX10_closeSign 112 = .ok (.aload_n 0, 1) := by decide +kernel
theorem dX10_closeSign_113 : decode cX10_closeSign 113 = .ok (.sipush 302, 3) := by decide +kernel
theorem dX10_closeSign_116 : decode cX10_closeSign 116 = .ok (.putfield 75, 3) := by decide +kernel
theorem dX10_closeSign_119 : decode cX10_closeSign 119 = .ok (.goto 174, 3) := by decide +kernel
theorem dX10_closeSign_122 : decode cX10_closeSign 122 = .ok (.iload_n 1, 1) := by decide +kernel
theorem dX10_closeSign_123 : decode cX10_closeSign 123 = .ok (.invokestatic 97, 3) := by decide +kernel
theorem dX10_closeSign_126 : decode cX10_closeSign 126 = .ok (.bipush 7, 2) := by decide +kernel
theorem dX10_closeSign_128 : decode cX10_closeSign 128 = .ok (.if_icmp .ne 61, 3) := by decide +kernel
theorem dX10_closeSign_131 : decode cX10_closeSign 131 = .ok (.aload_n 0, 1) := by decide +kernel
theorem dX10_closeSign_132 : decode cX10_closeSign 132 = .ok (.iload_n 2, 1) := by decide +kernel
theorem dX10_closeSign_133 : decode cX10_closeSign 133 = .ok (.sipush 301, 3) := by decide +kernel
theorem dX10_closeSign_136 : decode cX10_closeSign 136 = .ok (.if_icmp .ne 17, 3) := by decide +kernel
theorem dX10_closeSign_139 : decode cX10_closeSign 139 = .ok (.aload_n 0, 1) := by decide +kernel
theorem dX10_closeSign_140 : decode cX10_closeSign 140 = .ok (.getfield 75, 3) := by decide +kernel
theorem dX10_closeSign_143 : decode cX10_closeSign 143 = .ok (.sipush 301, 3) := by decide +kernel
theorem dX10_closeSign_146 : decode cX10_closeSign 146 = .ok (.if_icmp .ne 7, 3) := by decide +kernel
theorem dX10_closeSign_149 : decode cX10_closeSign 149 = .ok (.iconst 1, 1) := by decide +kernel
theorem dX10_closeSign_150 : decode cX10_closeSign 150 = .ok (.goto 4, 3) := by decide +kernel
theorem dX10_closeSign_153 : decode cX10_closeSign 153 = .ok (.iconst 0, 1) := by decide +kernel
theorem dX10_closeSign_154 : decode cX10_closeSign 154 = .ok (.aload_n 0, 1) := by decide +kernel
theorem dX10_closeSign_155 : decode cX10_closeSign 155 = .ok (.getfield 19, 3) := by decide +kernel
theorem dX10_closeSign_158 : decode cX10_closeSign 158 = .ok (.aload_n 0, 1) := by decide +kernel
theorem dX10_closeSign_159 : decode cX10_closeSign 159 = .ok (.getfield 65, 3) := by decide +kernel
theorem dX10_closeSign_162 : decode cX10_closeSign 162 = .ok (.iaload, 1) := by decide +kernel
theorem dX10_closeSign_163 : decode cX10_closeSign 163 = .ok (.invokevirtual 80, 3) := by decide +kernel
theorem dX10_closeSign_166 : decode cX10_closeSign 166 = .ok (.aload_n 0, 1) := by decide +kernel
theorem dX10_closeSign_167 : decode cX10_closeSign 167 = .ok (.getfield 46, 3) := by decide +kernel
theorem dX10_closeSign_170 : decode cX10_closeSign 170 = .ok (.iload_n 1, 1) := by decide +kernel
theorem dX10_closeSign_171 : decode cX10_closeSign 171 = .ok (.iconst 1, 1) := by decide +kernel
theorem dX10_closeSign_172 : decode cX10_closeSign 172 = .ok (.invokestatic 152, 3) := by decide +kernel
theorem dX10_closeSign_175 : decode cX10_closeSign 175 = .ok (.iconst 2, 1) := by decide +kernel
theorem dX10_closeSign_176 : decode cX10_closeSign 176 = .ok (.invokevirtual 156, 3) := by decide +kernel
theorem dX10_closeSign_179 : decode cX10_closeSign 179 = .ok (.aload_n 0, 1) := by decide +kernel
theorem dX10_closeSign_180 : decode cX10_closeSign 180 = .ok (.sipush 302, 3) := by decide +kernel
theorem dX10_closeSign_183 : decode cX10_closeSign 183 = .ok (.putfield 75, 3) := by decide +kernel
theorem dX10_closeSign_186 : decode cX10_closeSign 186 = .ok (.goto 107, 3) := by decide +kernel
theorem dX10_closeSign_189 : decode cX10_closeSign 189 = .ok (.iload_n 1, 1) := by decide +kernel
theorem dX10_closeSign_190 : decode cX10_closeSign 190 = .ok (.bipush 66, 2) := by decide +kernel
theorem dX10_closeSign_192 : decode cX10_closeSign 192 = .ok (.if_icmp .eq 15, 3) := by decide +kernel
theorem dX10_closeSign_195 : decode cX10_closeSign 195 = .ok (.iload_n 1, 1) := by decide +kernel
theorem dX10_closeSign_196 : decode cX10_closeSign 196 = .ok (.bipush 68, 2) := by decide +kernel
theorem dX10_closeSign_198 : decode cX10_closeSign 198 = .ok (.if_icmp .eq 9, 3) := by decide +kernel
theorem dX10_closeSign_201 : decode cX10_closeSign 201 = .ok (.iload_n 1, 1) := by decide +kernel
theorem dX10_closeSign_202 : decode cX10_closeSign 202 = .ok (.bipush 70, 2) := by decide +kernel
theorem dX10_closeSign_204 : decode cX10_closeSign 204 = .ok (.if_icmp .ne 7, 3) := by decide +kernel
theorem dX10_closeSign_207 : decode cX10_closeSign 207 = .ok (.iconst 1, 1) := by decide +kernel
theorem dX10_closeSign_208 : decode cX10_closeSign 208 = .ok (.goto 4, 3) := by decide +kernel
theorem dX10_closeSign_211 : decode cX10_closeSign 211 = .ok (.iconst 0, 1) := by decide +kernel
theorem dX10_closeSign_212 : decode cX10_closeSign 212 = .ok (.istore_n 3, 1) := by decide +kernel
theorem dX10_closeSign_213 : decode cX10_closeSign 213 = .ok (.aload_n 0, 1) := by decide +kernel
theorem dX10_closeSign_214 : decode cX10_closeSign 214 = .ok (.iload_n 2, 1) := by decide +kernel
theorem dX10_closeSign_215 : decode cX10_closeSign 215 = .ok (.aload_n 0, 1) := by decide +kernel
theorem dX10_closeSign_216 : decode cX10_closeSign 216 = .ok (.getfield 75, 3) := by decide +kernel
theorem dX10_closeSign_219 : decode cX10_closeSign 219 = .ok (.if_icmp .ne 31, 3) := by decide +kernel
theorem dX10_closeSign_222 : decode cX10_closeSign 222 = .ok (.aload_n 0, 1) := by decide +kernel
theorem dX10_closeSign_223 : decode cX10_closeSign 223 = .ok (.getfield 75, 3) := by decide +kernel
theorem dX10_closeSign_226 : decode cX10_closeSign 226 = .ok (.sipush 301, 3) := by decide +kernel
theorem dX10_closeSign_229 : decode cX10_closeSign 229 = .ok (.if_icmp .eq 17, 3) := by decide +kernel
theorem dX10_closeSign_232 : decode cX10_closeSign 232 = .ok (.iload_n 3, 1) := by decide +kernel
theorem dX10_closeSign_233 : decode cX10_closeSign 233 = .ok (.ifCond .eq 17, 3) := by decide +kernel
theorem dX10_closeSign_236 : decode cX10_closeSign 236 = .ok (.aload_n 0, 1) := by decide +kernel
theorem dX10_closeSign_237 : decode cX10_closeSign 237 = .ok (.getfield 75, 3) := by decide +kernel
theorem dX10_closeSign_240 : decode cX10_closeSign 240 = .ok (.sipush 302, 3) := by decide +kernel
theorem dX10_closeSign_243 : decode cX10_closeSign 243 = .ok (.if_icmp .ne 7, 3) := by decide +kernel
theorem dX10_closeSign_246 : decode cX10_closeSign 246 = .ok (.iconst 1, 1) := by decide +kernel
theorem dX10_closeSign_247 : decode cX10_closeSign 247 = .ok (.goto 4, 3) := by decide +kernel
theorem dX10_closeSign_250 : decode cX10_closeSign 250 = .ok (.iconst 0, 1) := by decide +kernel
theorem dX10_closeSign_251 : decode cX10_closeSign 251 = .ok (.aload_n 0, 1) := by decide +kernel
theorem dX10_closeSign_252 : decode cX10_closeSign 252 = .ok (.getfield 19, 3) := by decide +kernel
theorem dX10_closeSign_255 : decode cX10_closeSign 255 = .ok (.aload_n 0, 1) := by decide +kernel
theorem dX10_closeSign_256 : decode cX10_closeSign 256 = .ok (.getfield 65, 3) := by decide +kernel
theorem dX10_closeSign_259 : decode cX10_closeSign 259 = .ok (.iaload, 1) := by decide +kernel
theorem dX10_closeSign_260 : decode cX10_closeSign 260 = .ok (.invokevirtual 80, 3) := by decide +kernel
theorem dX10_closeSign_263 : decode cX10_closeSign 263 = .ok (.aload_n 0, 1) := by decide +kernel
theorem dX10_closeSign_264 : decode cX10_closeSign 264 = .ok (.getfield 46, 3) := by decide +kernel
theorem dX10_closeSign_267 : decode cX10_closeSign 267 = .ok (.iload_n 1, 1) := by decide +kernel
theorem dX10_closeSign_268 : decode cX10_closeSign 268 = .ok (.invokestatic 159, 3) := by decide +kernel
theorem dX10_closeSign_271 : decode cX10_closeSign 271 = .ok (.invokevirtual 162, 3) := by decide +kernel
theorem dX10_closeSign_274 : decode cX10_closeSign 274 = .ok (.aload_n 0, 1) := by decide +kernel
theorem dX10_closeSign_275 : decode cX10_closeSign 275 = .ok (.getfield 46, 3) := by decide +kernel
theorem dX10_closeSign_278 : decode cX10_closeSign 278 = .ok (.iconst 2, 1) := by decide +kernel
theorem dX10_closeSign_279 : decode cX10_closeSign 279 = .ok (.invokevirtual 118, 3) := by decide +kernel
theorem dX10_closeSign_282 : decode cX10_closeSign 282 = .ok (.aload_n 0, 1) := by decide +kernel
theorem dX10_closeSign_283 : decode cX10_closeSign 283 = .ok (.getfield 46, 3) := by decide +kernel
theorem dX10_closeSign_286 : decode cX10_closeSign 286 = .ok (.aload_n 0, 1) := by decide +kernel
theorem dX10_closeSign_287 : decode cX10_closeSign 287 = .ok (.getfield 75, 3) := by decide +kernel
theorem dX10_closeSign_290 : decode cX10_closeSign 290 = .ok (.invokevirtual 130, 3) := by decide +kernel
theorem dX10_closeSign_293 : decode cX10_closeSign 293 = .ok (.aload_n 0, 1) := by decide +kernel
theorem dX10_closeSign_294 : decode cX10_closeSign 294 = .ok (.aload_n 0, 1) := by decide +kernel
theorem dX10_closeSign_295 : decode cX10_closeSign 295 = .ok (.getfield 22, 3) := by decide +kernel
theorem dX10_closeSign_298 : decode cX10_closeSign 298 = .ok (.aload_n 0, 1) := by decide +kernel
theorem dX10_closeSign_299 : decode cX10_closeSign 299 = .ok (.getfield 65, 3) := by decide +kernel
theorem dX10_closeSign_302 : decode cX10_closeSign 302 = .ok (.iaload, 1) := by decide +kernel
theorem dX10_closeSign_303 : decode cX10_closeSign 303 = .ok (.putfield 146, 3) := by decide +kernel
theorem dX10_closeSign_306 : decode cX10_closeSign 306 = .ok (.aload_n 0, 1) := by decide +kernel
theorem dX10_closeSign_307 : decode cX10_closeSign 307 = .ok (.iconst 0, 1) := by decide +kernel
theorem dX10_closeSign_308 : decode cX10_closeSign 308 = .ok (.putfield 133, 3) := by decide +kernel
theorem dX10_closeSign_311 : decode cX10_closeSign 311 = .ok (.return_, 1) := by decide +kernel
theorem dX10_closeShort_0 : decode cX10_closeShort 0 = .ok (.aload_n 0, 1) := by decide +kernel
theorem dX10_closeShort_1 : decode cX10_closeShort 1 = .ok (.aload_n 0, 1) := by decide +kernel
theorem dX10_closeShort_2 : decode cX10_closeShort 2 = .ok (.getfield 75, 3) := by decide +kernel
theorem dX10_closeShort_5 : decode cX10_closeShort 5 = .ok (.sipush 302, 3) := by decide +kernel
theorem dX10_closeShort_8 : decode cX10_closeShort 8 = .ok (.if_icmp .ne 7, 3) := by decide +kernel
theorem dX10_closeShort_11 : decode cX10_closeShort 11 = .ok (.iconst 1, 1) := by decide +kernel
theorem dX10_closeShort_12 : decode cX10_closeShort 12 = .ok (.goto 4, 3) := by decide +kernel
theorem dX10_closeShort_15 : decode cX10_closeShort 15 = .ok (.iconst 0, 1) := by decide +kernel
theorem dX10_closeShort_16 : decode cX10_closeShort 16 = .ok (.aload_n 0, 1) := by decide +kernel
theorem dX10_closeShort_17 : decode cX10_closeShort 17 = .ok (.getfield 146, 3) := by decide +kernel
theorem dX10_closeShort_20 : decode cX10_closeShort 20 = .ok (.invokevirtual 80, 3) := by decide +kernel
theorem dX10_closeShort_23 : decode cX10_closeShort 23 = .ok (.aload_n 0, 1) := by decide +kernel
theorem dX10_closeShort_24 : decode cX10_closeShort 24 = .ok (.getfield 46, 3) := by decide +kernel
theorem dX10_closeShort_27 : decode cX10_closeShort 27 = .ok (.sipush 167, 3) := by decide +kernel
theorem dX10_closeShort_30 : decode cX10_closeShort 30 = .ok (.iconst 0, 1) := by decide +kernel
theorem dX10_closeShort_31 : decode cX10_closeShort 31 = .ok (.invokevirtual 86, 3) := by decide +kernel
theorem dX10_closeShort_34 : decode cX10_closeShort 34 = .ok (.istore_n 3, 1) := by decide +kernel
theorem dX10_closeShort_35 : decode cX10_closeShort 35 = .ok (.aload_n 0, 1) := by decide +kernel
theorem dX10_closeShort_36 : decode cX10_closeShort 36 = .ok (.getfield 46, 3) := by decide +kernel
theorem dX10_closeShort_39 : decode cX10_closeShort 39 = .ok (.iconst 1, 1) := by decide +kernel
theorem dX10_closeShort_40 : decode cX10_closeShort 40 = .ok (.invokevirtual 118, 3) := by decide +kernel
theorem dX10_closeShort_43 : decode cX10_closeShort 43 = .ok (.aload_n 0, 1) := by decide +kernel
theorem dX10_closeShort_44 : decode cX10_closeShort 44 = .ok (.getfield 46, 3) := by decide +kernel
theorem dX10_closeShort_47 : decode cX10_closeShort 47 = .ok (.iload_n 2, 1) := by decide +kernel
theorem dX10_closeShort_48 : decode cX10_closeShort 48 = .ok (.invokevirtual 121, 3) := by decide +kernel
theorem dX10_closeShort_51 : decode cX10_closeShort 51 = .ok (.aload_n 0, 1) := by decide +kernel
theorem dX10_closeShort_52 : decode cX10_closeShort 52 = .ok (.getfield 46, 3) := by decide +kernel
theorem dX10_closeShort_55 : decode cX10_closeShort 55 = .ok (.iload_n 1, 1) := by decide +kernel
theorem dX10_closeShort_56 : decode cX10_closeShort 56 = .ok (.bipush 67, 2) := by decide +kernel
theorem dX10_closeShort_58 : decode cX10_closeShort 58 = .ok (.if_icmp .ne 7, 3) := by decide +kernel
theorem dX10_closeShort_61 : decode cX10_closeShort 61 = .ok (.iconst 3, 1) := by decide +kernel
theorem dX10_closeShort_62 : decode cX10_closeShort 62 = .ok (.goto 4, 3) := by decide +kernel
theorem dX10_closeShort_65 : decode cX10_closeShort 65 = .ok (.iconst 4, 1) := by decide +kernel
theorem dX10_closeShort_66 : decode cX10_closeShort 66 = .ok (.invokevirtual 162, 3) := by decide +kernel
theorem dX10_closeShort_69 : decode cX10_closeShort 69 = .ok (.aload_n 0, 1) := by decide +kernel
theorem dX10_closeShort_70 : decode cX10_closeShort 70 = .ok (.getfield 46, 3) := by decide +kernel
theorem dX10_closeShort_73 : decode cX10_closeShort 73 = .ok (.sipush 302, 3) := by decide +kernel
theorem dX10_closeShort_76 : decode cX10_closeShort 76 = .ok (.invokevirtual 130, 3) := by decide +kernel
theorem dX10_closeShort_79 : decode cX10_closeShort 79 = .ok (.aload_n 0, 1) := by decide +kernel
theorem dX10_closeShort_80 : decode cX10_closeShort 80 = .ok (.getfield 46, 3) := by decide +kernel
theorem dX10_closeShort_83 : decode cX10_closeShort 83 = .ok (.iload_n 3, 1) := by decide +kernel
theorem dX10_closeShort_84 : decode cX10_closeShort 84 = .ok (.invokevirtual 121, 3) := by decide +kernel
theorem dX10_closeShort_87 : decode cX10_closeShort 87 = .ok (.aload_n 0, 1) := by decide +kernel
theorem dX10_closeShort_88 : decode cX10_closeShort 88 = .ok (.sipush 302, 3) := by decide +kernel
theorem dX10_closeShort_91 : decode cX10_closeShort 91 = .ok (.putfield 75, 3) := by decide +kernel
theorem dX10_closeShort_94 : decode cX10_closeShort 94 = .ok (.return_, 1) := by decide +kernel
theorem dX10_closeUnary_0 : decode cX10_closeUnary 0 = .ok (.aload_n 0, 1) := by decide +kernel
theorem dX10_closeUnary_1 : decode cX10_closeUnary 1 = .ok (.iconst 0, 1) := by decide +kernel
theorem dX10_closeUnary_2 : decode cX10_closeUnary 2 = .ok (.putfield 133, 3) := by decide +kernel
theorem dX10_closeUnary_5 : decode cX10_closeUnary 5 = .ok (.iload_n 1, 1) := by decide +kernel
theorem dX10_closeUnary_6 : decode cX10_closeUnary 6 = .ok (.bipush 71, 2) := by decide +kernel
theorem dX10_closeUnary_8 : decode cX10_closeUnary 8 = .ok (.if_icmp .ne 38, 3) := by decide +kernel
theorem dX10_closeUnary_11 : decode cX10_closeUnary 11 = .ok (.aload_n 0, 1) := by decide +kernel
theorem dX10_closeUnary_12 : decode cX10_closeUnary 12 = .ok (.aload_n 0, 1) := by decide +kernel
theorem dX10_closeUnary_13 : decode cX10_closeUnary 13 = .ok (.getfield 75, 3) := by decide +kernel
theorem dX10_closeUnary_16 : decode cX10_closeUnary 16 = .ok (.sipush 302, 3) := by decide +kernel
theorem dX10_closeUnary_19 : decode cX10_closeUnary 19 = .ok (.if_icmp .ne 7, 3) := by decide +kernel
theorem dX10_closeUnary_22 : decode cX10_closeUnary 22 = .ok (.iconst 1, 1) := by decide +kernel
theorem dX10_closeUnary_23 : decode cX10_closeUnary 23 = .ok (.goto 4, 3) := by decide +kernel
theorem dX10_closeUnary_26 : decode cX10_closeUnary 26 = .ok (.iconst 0, 1) := by decide +kernel
theorem dX10_closeUnary_27 : decode cX10_closeUnary 27 = .ok (.aload_n 0, 1) := by decide +kernel
theorem dX10_closeUnary_28 : decode cX10_closeUnary 28 = .ok (.getfield 146, 3) := by decide +kernel
theorem dX10_closeUnary_31 : decode cX10_closeUnary 31 = .ok (.invokevirtual 80, 3) := by decide +kernel
theorem dX10_closeUnary_34 : decode cX10_closeUnary 34 = .ok (.aload_n 0, 1) := by decide +kernel
theorem dX10_closeUnary_35 : decode cX10_closeUnary 35 = .ok (.getfield 46, 3) := by decide +kernel
theorem dX10_closeUnary_38 : decode cX10_closeUnary 38 = .ok (.sipush 153, 3) := by decide +kernel
theorem dX10_closeUnary_41 : decode cX10_closeUnary 41 = .ok (.iconst 1, 1) := by decide +kernel
theorem dX10_closeUnary_42 : decode cX10_closeUnary 42 = .ok (.invokevirtual 156, 3) := by decide +kernel
theorem dX10_closeUnary_45 : decode cX10_closeUnary 45 = .ok (.return_, 1) := by decide +kernel
theorem dX10_closeUnary_46 : decode cX10_closeUnary 46 = .ok (.aload_n 0, 1) := by decide +kernel
theorem dX10_closeUnary_47 : decode cX10_closeUnary 47 = .ok (.aload_n 0, 1) := by decide +kernel
theorem dX10_closeUnary_48 : decode cX10_closeUnary 48 = .ok (.getfield 75, 3) := by decide +kernel
theorem dX10_closeUnary_51 : decode cX10_closeUnary 51 = .ok (.sipush 301, 3) := by decide +kernel
theorem dX10_closeUnary_54 : decode cX10_closeUnary 54 = .ok (.if_icmp .ne 7, 3) := by decide +kernel
theorem dX10_closeUnary_57 : decode cX10_closeUnary 57 = .ok (.iconst 1, 1) := by decide +kernel
theorem dX10_closeUnary_58 : decode cX10_closeUnary 58 = .ok (.goto 4, 3) := by decide +kernel
theorem dX10_closeUnary_61 : decode cX10_closeUnary 61 = .ok (.iconst 0, 1) := by decide +kernel
theorem dX10_closeUnary_62 : decode cX10_closeUnary 62 = .ok (.iload_n 2, 1) := by decide +kernel
theorem dX10_closeUnary_63 : decode cX10_closeUnary 63 = .ok (.invokevirtual 80, 3) := by decide +kernel
theorem dX10_closeUnary_66 : decode cX10_closeUnary 66 = .ok (.iload_n 1, 1) := by decide +kernel
theorem dX10_closeUnary_67 : decode cX10_closeUnary 67 = .ok (.bipush 62, 2) := by decide +kernel
theorem dX10_closeUnary_69 : decode cX10_closeUnary 69 = .ok (.if_icmp .ne 15, 3) := by decide +kernel
theorem dX10_closeUnary_72 : decode cX10_closeUnary 72 = .ok (.aload_n 0, 1) := by decide +kernel
theorem dX10_closeUnary_73 : decode cX10_closeUnary 73 = .ok (.getfield 46, 3) := by decide +kernel
theorem dX10_closeUnary_76 : decode cX10_closeUnary 76 = .ok (.bipush 116, 2) := by decide +kernel
theorem dX10_closeUnary_78 : decode cX10_closeUnary 78 = .ok (.invokevirtual 162, 3) := by decide +kernel
theorem dX10_closeUnary_81 : decode cX10_closeUnary 81 = .ok (.goto 32, 3) := by decide +kernel
theorem dX10_closeUnary_84 : decode cX10_closeUnary 84 = .ok (.aload_n 0, 1) := by decide +kernel
theorem dX10_closeUnary_85 : decode cX10_closeUnary 85 = .ok (.getfield 46, 3) := by decide +kernel
theorem dX10_closeUnary_88 : decode cX10_closeUnary 88 = .ok (.sipush 301, 3) := by decide +kernel
theorem dX10_closeUnary_91 : decode cX10_closeUnary 91 = .ok (.invokevirtual 130, 3) := by decide +kernel
theorem dX10_closeUnary_94 : decode cX10_closeUnary 94 = .ok (.aload_n 0, 1) := by decide +kernel
theorem dX10_closeUnary_95 : decode cX10_closeUnary 95 = .ok (.getfield 46, 3) := by decide +kernel
theorem dX10_closeUnary_98 : decode cX10_closeUnary 98 = .ok (.iconst 2, 1) := by decide +kernel
theorem dX10_closeUnary_99 : decode cX10_closeUnary 99 = .ok (.sipush 130, 3) := by decide +kernel
theorem dX10_closeUnary_102 : decode cX10_closeUnary 102 = .ok (.invokevirtual 179, 3) := by decide +kernel
theorem dX10_closeUnary_105 : decode cX10_closeUnary 105 = .ok (.aload_n 0, 1) := by decide +kernel
theorem dX10_closeUnary_106 : decode cX10_closeUnary 106 = .ok (.getfield 46, 3) := by decide +kernel
theorem dX10_closeUnary_109 : decode cX10_closeUnary 109 = .ok (.iconst 1, 1) := by decide +kernel
theorem dX10_closeUnary_110 : decode cX10_closeUnary 110 = .ok (.invokevirtual 118, 3) := by decide +kernel
theorem dX10_closeUnary_113 : decode cX10_closeUnary 113 = .ok (.return_, 1) := by decide +kernel
theorem dX11_proveInstructions_0 : decode cX11_proveInstructions 0 = .ok (.aload_n 0, 1) := by decide +kernel
theorem dX11_proveInstructions_1 : decode cX11_proveInstructions 1 = .ok (.aload_n 0, 1) := by decide +kernel
theorem dX11_proveInstructions_2 : decode cX11_proveInstructions 2 = .ok (.iconst 5, 1) := by decide +kernel
theorem dX11_proveInstructions_3 : decode cX11_proveInstructions 3 = .ok (.invokevirtual 189, 3) := by decide +kernel
theorem dX11_proveInstructions_6 : decode cX11_proveInstructions 6 = .ok (.aload_n 0, 1) := by decide +kernel
theorem dX11_proveInstructions_7 : decode cX11_proveInstructions 7 = .ok (.getfield 38, 3) := by decide +kernel
theorem dX11_proveInstructions_10 : decode cX11_proveInstructions 10 = .ok (.arraylength, 1) := by decide +kernel
theorem dX11_proveInstructions_11 : decode cX11_proveInstructions 11 = .ok (.invokestatic 204, 3) := by decide +kernel
theorem dX11_proveInstructions_14 : decode cX11_proveInstructions 14 = .ok (.putfield 209, 3) := by decide +kernel
theorem dX11_proveInstructions_17 : decode cX11_proveInstructions 17 = .ok (.aload_n 0, 1) := by decide +kernel
theorem dX11_proveInstructions_18 : decode cX11_proveInstructions 18 = .ok (.getfield 38, 3) := by decide +kernel
theorem dX11_proveInstructions_21 : decode cX11_proveInstructions 21 = .ok (.iconst 0, 1) := by decide +kernel
theorem dX11_proveInstructions_22 : decode cX11_proveInstructions 22 = .ok (.aload_n 0, 1) := by decide +kernel
theorem dX11_proveInstructions_23 : decode cX11_proveInstructions 23 = .ok (.getfield 209, 3) := by decide +kernel
theorem dX11_proveInstructions_26 : decode cX11_proveInstructions 26 = .ok (.bipush (-2), 2) := by decide +kernel
theorem dX11_proveInstructions_28 : decode cX11_proveInstructions 28 = .ok (.invokestatic 212, 3) := by decide +kernel
theorem dX11_proveInstructions_31 : decode cX11_proveInstructions 31 = .ok (.iconst 0, 1) := by decide +kernel
theorem dX11_proveInstructions_32 : decode cX11_proveInstructions 32 = .ok (.istore_n 1, 1) := by decide +kernel
theorem dX11_proveInstructions_33 : decode cX11_proveInstructions 33 = .ok (.iload_n 1, 1) := by decide +kernel
theorem dX11_proveInstructions_34 : decode cX11_proveInstructions 34 = .ok (.aload_n 0, 1) := by decide +kernel
theorem dX11_proveInstructions_35 : decode cX11_proveInstructions 35 = .ok (.getfield 209, 3) := by decide +kernel
theorem dX11_proveInstructions_38 : decode cX11_proveInstructions 38 = .ok (.if_icmp .ge 48, 3) := by decide +kernel
theorem dX11_proveInstructions_41 : decode cX11_proveInstructions 41 = .ok (.aload_n 0, 1) := by decide +kernel
theorem dX11_proveInstructions_42 : decode cX11_proveInstructions 42 = .ok (.iload_n 1, 1) := by decide +kernel
theorem dX11_proveInstructions_43 : decode cX11_proveInstructions 43 = .ok (.invokevirtual 192, 3) := by decide +kernel
theorem dX11_proveInstructions_46 : decode cX11_proveInstructions 46 = .ok (.invokestatic 218, 3) := by decide +kernel
theorem dX11_proveInstructions_49 : decode cX11_proveInstructions 49 = .ok (.istore_n 2, 1) := by decide +kernel
theorem dX11_proveInstructions_50 : decode cX11_proveInstructions 50 = .ok (.iload_n 2, 1) := by decide +kernel
theorem dX11_proveInstructions_51 : decode cX11_proveInstructions 51 = .ok (.ifCond .eq 13, 3) := by decide +kernel
theorem dX11_proveInstructions_54 : decode cX11_proveInstructions 54 = .ok (.iload_n 1, 1) := by decide +kernel
theorem dX11_proveInstructions_55 : decode cX11_proveInstructions 55 = .ok (.iload_n 2, 1) := by decide +kernel
theorem dX11_proveInstructions_56 : decode cX11_proveInstructions 56 = .ok (.iadd, 1) := by decide +kernel
theorem dX11_proveInstructions_57 : decode cX11_proveInstructions 57 = .ok (.aload_n 0, 1) := by decide +kernel
theorem dX11_proveInstructions_58 : decode cX11_proveInstructions 58 = .ok (.getfield 209, 3) := by decide +kernel
theorem dX11_proveInstructions_61 : decode cX11_proveInstructions 61 = .ok (.if_icmp .le 11, 3) := by decide +kernel
theorem dX11_proveInstructions_64 : decode cX11_proveInstructions 64 = .ok (.aload_n 0, 1) := by decide +kernel
theorem dX11_proveInstructions_65 : decode cX11_proveInstructions 65 = .ok (.bipush 6, 2) := by decide +kernel
theorem dX11_proveInstructions_67 : decode cX11_proveInstructions 67 = .ok (.iload_n 1, 1) := by decide +kernel
theorem dX11_proveInstructions_68 : decode cX11_proveInstructions 68 = .ok (.invokevirtual 221, 3) := by decide +kernel
theorem dX11_proveInstructions_71 : decode cX11_proveInstructions 71 = .ok (.ireturn, 1) := by decide +kernel
theorem dX11_proveInstructions_72 : decode cX11_proveInstructions 72 = .ok (.aload_n 0, 1) := by decide +kernel
theorem dX11_proveInstructions_73 : decode cX11_proveInstructions 73 = .ok (.getfield 38, 3) := by decide +kernel
theorem dX11_proveInstructions_76 : decode cX11_proveInstructions 76 = .ok (.iload_n 1, 1) := by decide +kernel
theorem dX11_proveInstructions_77 : decode cX11_proveInstructions 77 = .ok (.iconst (-1), 1) := by decide +kernel
theorem dX11_proveInstructions_78 : decode cX11_proveInstructions 78 = .ok (.iastore, 1) := by decide +kernel
theorem dX11_proveInstructions_79 : decode cX11_proveInstructions 79 = .ok (.iload_n 1, 1) := by decide +kernel
theorem dX11_proveInstructions_80 : decode cX11_proveInstructions 80 = .ok (.iload_n 2, 1) := by decide +kernel
theorem dX11_proveInstructions_81 : decode cX11_proveInstructions 81 = .ok (.iadd, 1) := by decide +kernel
theorem dX11_proveInstructions_82 : decode cX11_proveInstructions 82 = .ok (.istore_n 1, 1) := by decide +kernel
theorem dX11_proveInstructions_83 : decode cX11_proveInstructions 83 = .ok (.goto (-50), 3) := by decide +kernel
theorem dX11_proveInstructions_86 : decode cX11_proveInstructions 86 = .ok (.iconst 0, 1) := by decide +kernel
theorem dX11_proveInstructions_87 : decode cX11_proveInstructions 87 = .ok (.ireturn, 1) := by decide +kernel
theorem dX11_fitsFrame_0 : decode cX11_fitsFrame 0 = .ok (.iload_n 1, 1) := by decide +kernel
theorem dX11_fitsFrame_1 : decode cX11_fitsFrame 1 = .ok (.bipush 64, 2) := by decide +kernel
theorem dX11_fitsFrame_3 : decode cX11_fitsFrame 3 = .ok (.imul, 1) := by decide +kernel
theorem dX11_fitsFrame_4 : decode cX11_fitsFrame 4 = .ok (.istore_n 2, 1) := by decide +kernel
theorem dX11_fitsFrame_5 : decode cX11_fitsFrame 5 = .ok (.aload_n 0, 1) := by decide +kernel
theorem dX11_fitsFrame_6 : decode cX11_fitsFrame 6 = .ok (.getfield 41, 3) := by decide +kernel
theorem dX11_fitsFrame_9 : decode cX11_fitsFrame 9 = .ok (.iload_n 2, 1) := by decide +kernel
theorem dX11_fitsFrame_10 : decode cX11_fitsFrame 10 = .ok (.iconst 2, 1) := by decide +kernel
theorem dX11_fitsFrame_11 : decode cX11_fitsFrame 11 = .ok (.iadd, 1) := by decide +kernel
theorem dX11_fitsFrame_12 : decode cX11_fitsFrame 12 = .ok (.iaload, 1) := by decide +kernel
theorem dX11_fitsFrame_13 : decode cX11_fitsFrame 13 = .ok (.aload_n 0, 1) := by decide +kernel
theorem dX11_fitsFrame_14 : decode cX11_fitsFrame 14 = .ok (.getfield 255, 3) := by decide +kernel
theorem dX11_fitsFrame_17 : decode cX11_fitsFrame 17 = .ok (.if_icmp .ne 15, 3) := by decide +kernel
theorem dX11_fitsFrame_20 : decode cX11_fitsFrame 20 = .ok (.aload_n 0, 1) := by decide +kernel
theorem dX11_fitsFrame_21 : decode cX11_fitsFrame 21 = .ok (.iload_n 2, 1) := by decide +kernel
theorem dX11_fitsFrame_22 : decode cX11_fitsFrame 22 = .ok (.invokevirtual 304, 3) := by decide +kernel
theorem dX11_fitsFrame_25 : decode cX11_fitsFrame 25 = .ok (.ifCond .eq 7, 3) := by decide +kernel
theorem dX11_fitsFrame_28 : decode cX11_fitsFrame 28 = .ok (.iconst 1, 1) := by decide +kernel
theorem dX11_fitsFrame_29 : decode cX11_fitsFrame 29 = .ok (.goto 4, 3) := by decide +kernel
theorem dX11_fitsFrame_32 : decode cX11_fitsFrame 32 = .ok (.iconst 0, 1) := by decide +kernel
theorem dX11_fitsFrame_33 : decode cX11_fitsFrame 33 = .ok (.istore_n 3, 1) := by decide +kernel
theorem dX11_fitsFrame_34 : decode cX11_fitsFrame 34 = .ok (.iconst 0, 1) := by decide +kernel
theorem dX11_fitsFrame_35 : decode cX11_fitsFrame 35 = .ok (.istore 4, 2) := by decide +kernel
theorem dX11_fitsFrame_37 : decode cX11_fitsFrame 37 = .ok (.iload 4, 2) := by decide +kernel
theorem dX11_fitsFrame_39 : decode cX11_fitsFrame 39 = .ok (.aload_n 0, 1) := by decide +kernel
theorem dX11_fitsFrame_40 : decode cX11_fitsFrame 40 = .ok (.getfield 255, 3) := by decide +kernel
theorem dX11_fitsFrame_43 : decode cX11_fitsFrame 43 = .ok (.if_icmp .ge 37, 3) := by decide +kernel
theorem dX11_fitsFrame_46 : decode cX11_fitsFrame 46 = .ok (.iload_n 3, 1) := by decide +kernel
theorem dX11_fitsFrame_47 : decode cX11_fitsFrame 47 = .ok (.ifCond .eq 33, 3) := by decide +kernel
theorem dX11_fitsFrame_50 : decode cX11_fitsFrame 50 = .ok (.aload_n 0, 1) := by decide +kernel
theorem dX11_fitsFrame_51 : decode cX11_fitsFrame 51 = .ok (.aload_n 0, 1) := by decide +kernel
theorem dX11_fitsFrame_52 : decode cX11_fitsFrame 52 = .ok (.getfield 47, 3) := by decide +kernel
theorem dX11_fitsFrame_55 : decode cX11_fitsFrame 55 = .ok (.iload 4, 2) := by decide +kernel
theorem dX11_fitsFrame_57 : decode cX11_fitsFrame 57 = .ok (.iaload, 1) := by decide +kernel
theorem dX11_fitsFrame_58 : decode cX11_fitsFrame 58 = .ok (.aload_n 0, 1) := by decide +kernel
theorem dX11_fitsFrame_59 : decode cX11_fitsFrame 59 = .ok (.getfield 41, 3) := by decide +kernel
theorem dX11_fitsFrame_62 : decode cX11_fitsFrame 62 = .ok (.iload_n 2, 1) := by decide +kernel
theorem dX11_fitsFrame_63 : decode cX11_fitsFrame 63 = .ok (.bipush 33, 2) := by decide +kernel
theorem dX11_fitsFrame_65 : decode cX11_fitsFrame 65 = .ok (.iadd, 1) := by decide +kernel
theorem dX11_fitsFrame_66 : decode cX11_fitsFrame 66 = .ok (.iload 4, 2) := by decide +kernel
theorem dX11_fitsFrame_68 : decode cX11_fitsFrame 68 = .ok (.iadd, 1) := by decide +kernel
theorem dX11_fitsFrame_69 : decode cX11_fitsFrame 69 = .ok (.iaload, 1) := by decide +kernel
theorem dX11_fitsFrame_70 : decode cX11_fitsFrame 70 = .ok (.invokevirtual 303, 3) := by decide +kernel
theorem dX11_fitsFrame_73 : decode cX11_fitsFrame 73 = .ok (.istore_n 3, 1) := by decide +kernel
theorem dX11_fitsFrame_74 : decode cX11_fitsFrame 74 = .ok (.iinc 4 1, 3) := by decide +kernel
theorem dX11_fitsFrame_77 : decode cX11_fitsFrame 77 = .ok (.goto (-40), 3) := by decide +kernel
theorem dX11_fitsFrame_80 : decode cX11_fitsFrame 80 = .ok (.iload_n 3, 1) := by decide +kernel
theorem dX11_fitsFrame_81 : decode cX11_fitsFrame 81 = .ok (.ireturn, 1) := by decide +kernel
theorem dX11_takeFrame_0 : decode cX11_takeFrame 0 = .ok (.iload_n 1, 1) := by decide +kernel
theorem dX11_takeFrame_1 : decode cX11_takeFrame 1 = .ok (.bipush 64, 2) := by decide +kernel
theorem dX11_takeFrame_3 : decode cX11_takeFrame 3 = .ok (.imul, 1) := by decide +kernel
theorem dX11_takeFrame_4 : decode cX11_takeFrame 4 = .ok (.istore_n 2, 1) := by decide +kernel
theorem dX11_takeFrame_5 : decode cX11_takeFrame 5 = .ok (.aload_n 0, 1) := by decide +kernel
theorem dX11_takeFrame_6 : decode cX11_takeFrame 6 = .ok (.getfield 44, 3) := by decide +kernel
theorem dX11_takeFrame_9 : decode cX11_takeFrame 9 = .ok (.sipush 304, 3) := by decide +kernel
theorem dX11_takeFrame_12 : decode cX11_takeFrame 12 = .ok (.invokestatic 258, 3) := by decide +kernel
theorem dX11_takeFrame_15 : decode cX11_takeFrame 15 = .ok (.aload_n 0, 1) := by decide +kernel
theorem dX11_takeFrame_16 : decode cX11_takeFrame 16 = .ok (.getfield 41, 3) := by decide +kernel
theorem dX11_takeFrame_19 : decode cX11_takeFrame 19 = .ok (.iload_n 2, 1) := by decide +kernel
theorem dX11_takeFrame_20 : decode cX11_takeFrame 20 = .ok (.iconst 3, 1) := by decide +kernel
theorem dX11_takeFrame_21 : decode cX11_takeFrame 21 = .ok (.iadd, 1) := by decide +kernel
theorem dX11_takeFrame_22 : decode cX11_takeFrame 22 = .ok (.aload_n 0, 1) := by decide +kernel
theorem dX11_takeFrame_23 : decode cX11_takeFrame 23 = .ok (.getfield 44, 3) := by decide +kernel
theorem dX11_takeFrame_26 : decode cX11_takeFrame 26 = .ok (.iconst 0, 1) := by decide +kernel
theorem dX11_takeFrame_27 : decode cX11_takeFrame 27 = .ok (.aload_n 0, 1) := by decide +kernel
theorem dX11_takeFrame_28 : decode cX11_takeFrame 28 = .ok (.getfield 41, 3) := by decide +kernel
theorem dX11_takeFrame_31 : decode cX11_takeFrame 31 = .ok (.iload_n 2, 1) := by decide +kernel
theorem dX11_takeFrame_32 : decode cX11_takeFrame 32 = .ok (.iconst 1, 1) := by decide +kernel
theorem dX11_takeFrame_33 : decode cX11_takeFrame 33 = .ok (.iadd, 1) := by decide +kernel
theorem dX11_takeFrame_34 : decode cX11_takeFrame 34 = .ok (.iaload, 1) := by decide +kernel
theorem dX11_takeFrame_35 : decode cX11_takeFrame 35 = .ok (.invokestatic 267, 3) := by decide +kernel
theorem dX11_takeFrame_38 : decode cX11_takeFrame 38 = .ok (.aload_n 0, 1) := by decide +kernel
theorem dX11_takeFrame_39 : decode cX11_takeFrame 39 = .ok (.aload_n 0, 1) := by decide +kernel
theorem dX11_takeFrame_40 : decode cX11_takeFrame 40 = .ok (.getfield 41, 3) := by decide +kernel
theorem dX11_takeFrame_43 : decode cX11_takeFrame 43 = .ok (.iload_n 2, 1) := by decide +kernel
theorem dX11_takeFrame_44 : decode cX11_takeFrame 44 = .ok (.iconst 2, 1) := by decide +kernel
theorem dX11_takeFrame_45 : decode cX11_takeFrame 45 = .ok (.iadd, 1) := by decide +kernel
theorem dX11_takeFrame_46 : decode cX11_takeFrame 46 = .ok (.iaload, 1) := by decide +kernel
theorem dX11_takeFrame_47 : decode cX11_takeFrame 47 = .ok (.putfield 255, 3) := by decide +kernel
theorem dX11_takeFrame_50 : decode cX11_takeFrame 50 = .ok (.aload_n 0, 1) := by decide +kernel
theorem dX11_takeFrame_51 : decode cX11_takeFrame 51 = .ok (.getfield 41, 3) := by decide +kernel
theorem dX11_takeFrame_54 : decode cX11_takeFrame 54 = .ok (.iload_n 2, 1) := by decide +kernel
theorem dX11_takeFrame_55 : decode cX11_takeFrame 55 = .ok (.bipush 33, 2) := by decide +kernel
theorem dX11_takeFrame_57 : decode cX11_takeFrame 57 = .ok (.iadd, 1) := by decide +kernel
theorem dX11_takeFrame_58 : decode cX11_takeFrame 58 = .ok (.aload_n 0, 1) := by decide +kernel
theorem dX11_takeFrame_59 : decode cX11_takeFrame 59 = .ok (.getfield 47, 3) := by decide +kernel
theorem dX11_takeFrame_62 : decode cX11_takeFrame 62 = .ok (.iconst 0, 1) := by decide +kernel
theorem dX11_takeFrame_63 : decode cX11_takeFrame 63 = .ok (.aload_n 0, 1) := by decide +kernel
theorem dX11_takeFrame_64 : decode cX11_takeFrame 64 = .ok (.getfield 255, 3) := by decide +kernel
theorem dX11_takeFrame_67 : decode cX11_takeFrame 67 = .ok (.invokestatic 267, 3) := by decide +kernel
theorem dX11_takeFrame_70 : decode cX11_takeFrame 70 = .ok (.return_, 1) := by decide +kernel
theorem dJ7_rangeCheck_23922_0 : decode cJ7_rangeCheck_23922 0 = .ok (.iload_n 1, 1) := by decide +kernel
theorem dJ7_rangeCheck_23922_1 : decode cJ7_rangeCheck_23922 1 = .ok (.iload_n 2, 1) := by decide +kernel
theorem dJ7_rangeCheck_23922_2 : decode cJ7_rangeCheck_23922 2 = .ok (.if_icmp .le 44, 3) := by decide +kernel
theorem dJ7_rangeCheck_23922_46 : decode cJ7_rangeCheck_23922 46 = .ok (.iload_n 1, 1) := by decide +kernel
theorem dJ7_rangeCheck_23922_47 : decode cJ7_rangeCheck_23922 47 = .ok (.ifCond .ge 12, 3) := by decide +kernel
theorem dJ7_rangeCheck_23922_59 : decode cJ7_rangeCheck_23922 59 = .ok (.iload_n 2, 1) := by decide +kernel
theorem dJ7_rangeCheck_23922_60 : decode cJ7_rangeCheck_23922 60 = .ok (.iload_n 0, 1) := by decide +kernel
theorem dJ7_rangeCheck_23922_61 : decode cJ7_rangeCheck_23922 61 = .ok (.if_icmp .le 12, 3) := by decide +kernel
theorem dJ7_rangeCheck_23922_73 : decode cJ7_rangeCheck_23922 73 = .ok (.return_, 1) := by decide +kernel
theorem dJ7_fill_fda19_0 : decode cJ7_fill_fda19 0 = .ok (.aload_n 0, 1) := by decide +kernel
theorem dJ7_fill_fda19_1 : decode cJ7_fill_fda19 1 = .ok (.arraylength, 1) := by decide +kernel
theorem dJ7_fill_fda19_2 : decode cJ7_fill_fda19 2 = .ok (.iload_n 1, 1) := by decide +kernel
theorem dJ7_fill_fda19_3 : decode cJ7_fill_fda19 3 = .ok (.iload_n 2, 1) := by decide +kernel
theorem dJ7_fill_fda19_4 : decode cJ7_fill_fda19 4 = .ok (.invokestatic 13, 3) := by decide +kernel
theorem dJ7_fill_fda19_7 : decode cJ7_fill_fda19 7 = .ok (.iload_n 1, 1) := by decide +kernel
theorem dJ7_fill_fda19_8 : decode cJ7_fill_fda19 8 = .ok (.istore 4, 2) := by decide +kernel
theorem dJ7_fill_fda19_10 : decode cJ7_fill_fda19 10 = .ok (.iload 4, 2) := by decide +kernel
theorem dJ7_fill_fda19_12 : decode cJ7_fill_fda19 12 = .ok (.iload_n 2, 1) := by decide +kernel
theorem dJ7_fill_fda19_13 : decode cJ7_fill_fda19 13 = .ok (.if_icmp .ge 14, 3) := by decide +kernel
theorem dJ7_fill_fda19_16 : decode cJ7_fill_fda19 16 = .ok (.aload_n 0, 1) := by decide +kernel
theorem dJ7_fill_fda19_17 : decode cJ7_fill_fda19 17 = .ok (.iload 4, 2) := by decide +kernel
theorem dJ7_fill_fda19_19 : decode cJ7_fill_fda19 19 = .ok (.iload_n 3, 1) := by decide +kernel
theorem dJ7_fill_fda19_20 : decode cJ7_fill_fda19 20 = .ok (.iastore, 1) := by decide +kernel
theorem dJ7_fill_fda19_21 : decode cJ7_fill_fda19 21 = .ok (.iinc 4 1, 3) := by decide +kernel
theorem dJ7_fill_fda19_24 : decode cJ7_fill_fda19 24 = .ok (.goto (-14), 3) := by decide +kernel
theorem dJ7_fill_fda19_27 : decode cJ7_fill_fda19 27 = .ok (.return_, 1) := by decide +kernel
def VS_h7_p0 : List Cond := [Cond.code yJ7_rangeCheck_23922 cJ7_rangeCheck_23922 3 none, Cond.methodLink RJ7 13 yJ7_rangeCheck_23922, Cond.static yJ7_rangeCheck_23922, Cond.initialized RJ7, Cond.code yX1_jump cX1_jump 4 (some .int), Cond.methodLink RX1 90 yX1_jump, Cond.instanceMethod yX1_jump, Cond.selects RX1 yX1_jump yX1_jump, Cond.initialized RX1, Cond.code yX1_aimAt cX1_aimAt 4 none, Cond.methodLink RX1 93 yX1_aimAt, Cond.instanceMethod yX1_aimAt, Cond.selects RX1 yX1_aimAt yX1_aimAt, Cond.code yX1_push cX1_push 2 none, Cond.methodLink RX1 104 yX1_push, Cond.instanceMethod yX1_push, Cond.selects RX1 yX1_push yX1_push, Cond.code yX1_op cX1_op 2 none, Cond.methodLink RX1 65 yX1_op, Cond.instanceMethod yX1_op, Cond.selects RX1 yX1_op yX1_op, Cond.code yX1_pop cX1_pop 2 none, Cond.methodLink RX1 87 yX1_pop, Cond.instanceMethod yX1_pop, Cond.selects RX1 yX1_pop yX1_pop, Cond.fieldLink RX1 61 "ClassMill$Code" "full" "Z", Cond.fieldLink RX1 33 "ClassMill$Code" "frameRow" "[I", Cond.fieldLink RX1 24 "ClassMill$Code" "localType" "[I", Cond.methodLink RX1 110 arraycopyName, Cond.native arraycopyName, Cond.static arraycopyName, Cond.initialized "java/lang/System", Cond.fieldLink RX1 17 "ClassMill$Code" "stack" "[I", Cond.fieldLink RX1 58 "ClassMill$Code" "frameCount" "I", Cond.fieldLink RX1 36 "ClassMill$Code" "frameOrder" "[I", Cond.fieldLink RX1 30 "ClassMill$Code" "framePlace" "[I", Cond.code yX6_put cX6_put 2 none, Cond.methodLink RX1 116 yX6_put, Cond.instanceMethod yX6_put, Cond.selects RX6 yX6_put yX6_put]
def VS_h7_p1 : List Cond := [Cond.initialized RX6, Cond.code yX6_putPair cX6_putPair 2 none, Cond.methodLink RX1 121 yX6_putPair, Cond.instanceMethod yX6_putPair, Cond.selects RX6 yX6_putPair yX6_putPair, Cond.code yX1_writeFrame cX1_writeFrame 6 none, Cond.methodLink RX1 127 yX1_writeFrame, Cond.instanceMethod yX1_writeFrame, Cond.selects RX1 yX1_writeFrame yX1_writeFrame, Cond.code yX6_classOf cX6_classOf 2 (some .int), Cond.methodLink RX1 124 yX6_classOf, Cond.instanceMethod yX6_classOf, Cond.selects RX6 yX6_classOf yX6_classOf, Cond.fieldLink RX1 55 "ClassMill$Code" "handlerCount" "I", Cond.fieldLink RX1 27 "ClassMill$Code" "handlers" "[I", Cond.fieldLink RX1 46 "ClassMill$Code" "mostHeight" "I", Cond.fieldLink RX1 52 "ClassMill$Code" "mostLocals" "I", Cond.fieldLink RX1 39 "ClassMill$Code" "length" "I", Cond.fieldLink RX1 13 "ClassMill$Code" "bytes" "[B", Cond.code yJ7_fill_53178 cJ7_fill_53178 4 none, Cond.methodLink RX2 82 yJ7_fill_53178, Cond.static yJ7_fill_53178, Cond.code yX2_tokenOfClass cX2_tokenOfClass 2 (some .int), Cond.methodLink RX2 112 yX2_tokenOfClass, Cond.instanceMethod yX2_tokenOfClass, Cond.selects RX2 yX2_tokenOfClass yX2_tokenOfClass, Cond.initialized RX2, Cond.code yX9_kindAt cX9_kindAt 2 (some .int), Cond.methodLink RX2 115 yX9_kindAt, Cond.instanceMethod yX9_kindAt, Cond.selects RX9 yX9_kindAt yX9_kindAt, Cond.initialized RX9, Cond.code yX9_kind cX9_kind 1 (some .int), Cond.methodLink RX2 121 yX9_kind, Cond.instanceMethod yX9_kind, Cond.selects RX9 yX9_kind yX9_kind, Cond.code yX2_isMethod cX2_isMethod 2 (some .boolean), Cond.methodLink RX2 128 yX2_isMethod, Cond.instanceMethod yX2_isMethod, Cond.selects RX2 yX2_isMethod yX2_isMethod]
def VS_h7_p2 : List Cond := [Cond.code yX9_valueAt cX9_valueAt 2 (some .int), Cond.methodLink RX2 135 yX9_valueAt, Cond.instanceMethod yX9_valueAt, Cond.selects RX9 yX9_valueAt yX9_valueAt, Cond.code yX2_addKindByte cX2_addKindByte 2 none, Cond.methodLink RX2 154 yX2_addKindByte, Cond.instanceMethod yX2_addKindByte, Cond.selects RX2 yX2_addKindByte yX2_addKindByte, Cond.code yX4_isArray cX4_isArray 1 (some .boolean), Cond.methodLink RX2 160 yX4_isArray, Cond.static yX4_isArray, Cond.initialized RX4, Cond.code yX4_elementOf cX4_elementOf 1 (some .int), Cond.methodLink RX2 163 yX4_elementOf, Cond.static yX4_elementOf, Cond.code yX4_isClass cX4_isClass 1 (some .boolean), Cond.methodLink RX2 166 yX4_isClass, Cond.static yX4_isClass, Cond.fieldLink RX2 78 "ClassMill$Heads" "classes" "I", Cond.fieldLink RX2 74 "ClassMill$Heads" "text" "LClassMill$Text;", Cond.fieldLink RX2 20 "ClassMill$Heads" "classAt" "[I", Cond.fieldLink RX2 24 "ClassMill$Heads" "classOfName" "[I", Cond.fieldLink RX2 181 "ClassMill$Text" "names" "I", Cond.code yX2_readType cX2_readType 5 (some .int), Cond.methodLink RX2 192 yX2_readType, Cond.instanceMethod yX2_readType, Cond.selects RX2 yX2_readType yX2_readType, Cond.code yX2_methodIn cX2_methodIn 4 (some .int), Cond.methodLink RX2 206 yX2_methodIn, Cond.instanceMethod yX2_methodIn, Cond.selects RX2 yX2_methodIn yX2_methodIn, Cond.code yX9_tell cX9_tell 3 none, Cond.methodLink RX2 186 yX9_tell, Cond.instanceMethod yX9_tell, Cond.selects RX9 yX9_tell yX9_tell, Cond.code yX2_addParameter cX2_addParameter 7 none, Cond.methodLink RX2 209 yX2_addParameter, Cond.instanceMethod yX2_addParameter, Cond.selects RX2 yX2_addParameter yX2_addParameter, Cond.code yX2_skipBlock cX2_skipBlock 4 none]
def VS_h7_p3 : List Cond := [Cond.methodLink RX2 212 yX2_skipBlock, Cond.instanceMethod yX2_skipBlock, Cond.selects RX2 yX2_skipBlock yX2_skipBlock, Cond.fieldLink RX2 118 "ClassMill$Text" "pos" "I", Cond.fieldLink RX2 45 "ClassMill$Heads" "methodBody" "[I", Cond.fieldLink RX2 39 "ClassMill$Heads" "methods" "[I", Cond.fieldLink RX2 42 "ClassMill$Heads" "methodAt" "[I", Cond.fieldLink RX2 48 "ClassMill$Heads" "methodType" "[I", Cond.fieldLink RX2 51 "ClassMill$Heads" "methodFixed" "[Z", Cond.fieldLink RX2 58 "ClassMill$Heads" "parameters" "[I", Cond.fieldLink RX2 91 "ClassMill$Text" "fault" "I", Cond.code yX4_above cX4_above 2 (some .int), Cond.methodLink RX2 215 yX4_above, Cond.instanceMethod yX4_above, Cond.selects RX4 yX4_above yX4_above, Cond.code yX2_nameOfMethod cX2_nameOfMethod 2 (some .int), Cond.methodLink RX2 218 yX2_nameOfMethod, Cond.instanceMethod yX2_nameOfMethod, Cond.selects RX2 yX2_nameOfMethod yX2_nameOfMethod, Cond.code yX2_methodOf cX2_methodOf 6 (some .int), Cond.methodLink RX2 221 yX2_methodOf, Cond.instanceMethod yX2_methodOf, Cond.selects RX2 yX2_methodOf yX2_methodOf, Cond.code yX2_parameterType cX2_parameterType 3 (some .int), Cond.methodLink RX2 157 yX2_parameterType, Cond.instanceMethod yX2_parameterType, Cond.selects RX2 yX2_parameterType yX2_parameterType, Cond.fieldLink RX2 14 "ClassMill$Heads" "kin" "LClassMill$Kin;", Cond.code yX3_nextUpTo cX3_nextUpTo 4 (some .int), Cond.methodLink RX3 71 yX3_nextUpTo, Cond.instanceMethod yX3_nextUpTo, Cond.selects RX3 yX3_nextUpTo yX3_nextUpTo, Cond.initialized RX3, Cond.code yX3_next cX3_next 1 (some .int), Cond.methodLink RX3 87 yX3_next, Cond.instanceMethod yX3_next, Cond.selects RX3 yX3_next yX3_next, Cond.fieldLink RX3 46 "ClassMill$Image" "form" "I", Cond.fieldLink RX3 15 "ClassMill$Image" "tags" "[I", Cond.fieldLink RX3 19 "ClassMill$Image" "at" "[I"]
def VS_h7_p4 : List Cond := [Cond.fieldLink RX3 43 "ClassMill$Image" "pos" "I", Cond.fieldLink RX3 22 "ClassMill$Image" "textStop" "[I", Cond.code yX3_partOf cX3_partOf 3 (some .int), Cond.methodLink RX3 99 yX3_partOf, Cond.instanceMethod yX3_partOf, Cond.selects RX3 yX3_partOf yX3_partOf, Cond.methodLink RX3 134 yJ0_length_8abf5, Cond.instanceMethod yJ0_length_8abf5, Cond.selects RJ0 yJ0_length_8abf5 yJ0_length_8abf5, Cond.initialized RJ0, Cond.methodLink RX3 139 yJ0_charAt_5068e, Cond.instanceMethod yJ0_charAt_5068e, Cond.selects RJ0 yJ0_charAt_5068e yJ0_charAt_5068e, Cond.fieldLink RX3 39 "ClassMill$Image" "size" "I", Cond.fieldLink RX3 9 "ClassMill$Image" "bytes" "[B", Cond.code yX3_tagOf cX3_tagOf 2 (some .int), Cond.methodLink RX3 112 yX3_tagOf, Cond.instanceMethod yX3_tagOf, Cond.selects RX3 yX3_tagOf yX3_tagOf, Cond.code yX9_isName cX9_isName 7 (some .boolean), Cond.methodLink RX3 143 yX9_isName, Cond.static yX9_isName, Cond.code yX3_byteAt cX3_byteAt 2 (some .int), Cond.methodLink RX3 119 yX3_byteAt, Cond.instanceMethod yX3_byteAt, Cond.selects RX3 yX3_byteAt yX3_byteAt, Cond.code yX3_behindKind cX3_behindKind 6 (some .int), Cond.methodLink RX3 149 yX3_behindKind, Cond.instanceMethod yX3_behindKind, Cond.selects RX3 yX3_behindKind yX3_behindKind, Cond.code yX3_isNameText cX3_isNameText 2 (some .boolean), Cond.methodLink RX3 102 yX3_isNameText, Cond.instanceMethod yX3_isNameText, Cond.selects RX3 yX3_isNameText yX3_isNameText, Cond.code yX3_bad cX3_bad 2 none, Cond.methodLink RX3 78 yX3_bad, Cond.instanceMethod yX3_bad, Cond.selects RX3 yX3_bad yX3_bad, Cond.code yX3_nextName cX3_nextName 2 (some .int), Cond.methodLink RX3 152 yX3_nextName]
def VS_h7_p5 : List Cond := [Cond.instanceMethod yX3_nextName, Cond.selects RX3 yX3_nextName yX3_nextName, Cond.code yX3_parametersIn cX3_parametersIn 6 (some .int), Cond.methodLink RX3 116 yX3_parametersIn, Cond.instanceMethod yX3_parametersIn, Cond.selects RX3 yX3_parametersIn yX3_parametersIn, Cond.code yX3_readCode cX3_readCode 5 none, Cond.methodLink RX3 155 yX3_readCode, Cond.instanceMethod yX3_readCode, Cond.selects RX3 yX3_readCode yX3_readCode, Cond.code yX3_readHandlers cX3_readHandlers 4 none, Cond.methodLink RX3 158 yX3_readHandlers, Cond.instanceMethod yX3_readHandlers, Cond.selects RX3 yX3_readHandlers yX3_readHandlers, Cond.code yX3_readFrames cX3_readFrames 4 none, Cond.methodLink RX3 161 yX3_readFrames, Cond.instanceMethod yX3_readFrames, Cond.selects RX3 yX3_readFrames yX3_readFrames, Cond.fieldLink RX3 30 "ClassMill$Image" "method" "[I", Cond.methodLink RX4 22 yJ7_fill_53178, Cond.code yX4_settle cX4_settle 4 none, Cond.methodLink RX4 28 yX4_settle, Cond.instanceMethod yX4_settle, Cond.selects RX4 yX4_settle yX4_settle, Cond.fieldLink RX4 11 "ClassMill$Kin" "above" "[I", Cond.code yX5_forget cX5_forget 1 none, Cond.methodLink RX5 72 yX5_forget, Cond.instanceMethod yX5_forget, Cond.selects RX5 yX5_forget yX5_forget, Cond.initialized RX5, Cond.code yJ7_fill_fda19 cJ7_fill_fda19 5 none, Cond.methodLink RX5 100 yJ7_fill_fda19, Cond.static yJ7_fill_fda19, Cond.methodLink RX5 141 yX3_byteAt, Cond.code yX5_goOn cX5_goOn 2 none, Cond.methodLink RX5 138 yX5_goOn, Cond.instanceMethod yX5_goOn, Cond.selects RX5 yX5_goOn yX5_goOn, Cond.code yX5_give cX5_give 3 none, Cond.methodLink RX5 145 yX5_give]
def VS_h7_p6 : List Cond := [Cond.instanceMethod yX5_give, Cond.selects RX5 yX5_give yX5_give, Cond.code yX5_pop cX5_pop 2 (some .int), Cond.methodLink RX5 154 yX5_pop, Cond.instanceMethod yX5_pop, Cond.selects RX5 yX5_pop yX5_pop, Cond.code yX5_stepElement cX5_stepElement 4 none, Cond.methodLink RX5 187 yX5_stepElement, Cond.instanceMethod yX5_stepElement, Cond.selects RX5 yX5_stepElement yX5_stepElement, Cond.code yX5_stepGiveElement cX5_stepGiveElement 6 none, Cond.methodLink RX5 190 yX5_stepGiveElement, Cond.instanceMethod yX5_stepGiveElement, Cond.selects RX5 yX5_stepGiveElement yX5_stepGiveElement, Cond.code yX5_isObject cX5_isObject 2 (some .boolean), Cond.methodLink RX5 226 yX5_isObject, Cond.instanceMethod yX5_isObject, Cond.selects RX5 yX5_isObject yX5_isObject, Cond.fieldLink RX5 60 "ClassMill$Machine" "objects" "I", Cond.fieldLink RX5 54 "ClassMill$Machine" "state" "I", Cond.fieldLink RX5 63 "ClassMill$Machine" "cells" "I", Cond.fieldLink RX5 17 "ClassMill$Machine" "objectType" "[I", Cond.fieldLink RX5 20 "ClassMill$Machine" "objectAt" "[I", Cond.fieldLink RX5 23 "ClassMill$Machine" "cell" "[I", Cond.code yX5_make cX5_make 3 (some .int), Cond.methodLink RX5 89 yX5_make, Cond.instanceMethod yX5_make, Cond.selects RX5 yX5_make yX5_make, Cond.code yX5_giveNew cX5_giveNew 4 none, Cond.methodLink RX5 211 yX5_giveNew, Cond.instanceMethod yX5_giveNew, Cond.selects RX5 yX5_giveNew yX5_giveNew, Cond.fieldLink RX5 86 "ClassMill$Machine" "thrown" "I", Cond.code yX3_of cX3_of 4 (some .int), Cond.methodLink RX5 126 yX3_of, Cond.instanceMethod yX3_of, Cond.selects RX3 yX3_of yX3_of, Cond.code yX3_pairAt cX3_pairAt 2 (some .int), Cond.methodLink RX5 184 yX3_pairAt, Cond.instanceMethod yX3_pairAt]
def VS_h7_p7 : List Cond := [Cond.selects RX3 yX3_pairAt yX3_pairAt, Cond.code yX6_bytesOf cX6_bytesOf 3 (some .int), Cond.methodLink RX6 90 yX6_bytesOf, Cond.instanceMethod yX6_bytesOf, Cond.selects RX6 yX6_bytesOf yX6_bytesOf, Cond.code yX9_nameLength cX9_nameLength 2 (some .int), Cond.methodLink RX9 89 yX9_nameLength, Cond.instanceMethod yX9_nameLength, Cond.selects RX9 yX9_nameLength yX9_nameLength, Cond.fieldLink RX9 25 "ClassMill$Text" "letters" "[B", Cond.fieldLink RX9 29 "ClassMill$Text" "nameAt" "[I", Cond.methodLink RX9 67 arraycopyName, Cond.code yX9_behindBlanks cX9_behindBlanks 6 (some .int), Cond.methodLink RX9 93 yX9_behindBlanks, Cond.static yX9_behindBlanks, Cond.code yX9_addToken cX9_addToken 4 none, Cond.methodLink RX9 99 yX9_addToken, Cond.instanceMethod yX9_addToken, Cond.selects RX9 yX9_addToken yX9_addToken, Cond.code yX9_isLetter cX9_isLetter 1 (some .boolean), Cond.methodLink RX9 103 yX9_isLetter, Cond.static yX9_isLetter, Cond.code yX9_isDigit cX9_isDigit 1 (some .boolean), Cond.methodLink RX9 110 yX9_isDigit, Cond.static yX9_isDigit, Cond.code yX9_isNamePart cX9_isNamePart 1 (some .boolean), Cond.methodLink RX9 123 yX9_isNamePart, Cond.static yX9_isNamePart, Cond.code yX9_bucketOf cX9_bucketOf 3 (some .int), Cond.methodLink RX9 76 yX9_bucketOf, Cond.static yX9_bucketOf, Cond.code yX9_isNamed cX9_isNamed 7 (some .boolean), Cond.methodLink RX9 129 yX9_isNamed, Cond.instanceMethod yX9_isNamed, Cond.selects RX9 yX9_isNamed yX9_isNamed, Cond.code yX9_closeName cX9_closeName 4 none, Cond.methodLink RX9 63 yX9_closeName, Cond.instanceMethod yX9_closeName, Cond.selects RX9 yX9_closeName yX9_closeName, Cond.fieldLink RX9 73 "ClassMill$Text" "names" "I"]
def VS_h7_p8 : List Cond := [Cond.fieldLink RX9 35 "ClassMill$Text" "bucket" "[I", Cond.fieldLink RX9 32 "ClassMill$Text" "sameBucket" "[I", Cond.constantLong RX9 145 2147483647, Cond.constantLong RX9 133 10, Cond.constantLong RX9 135 48, Cond.constantLong RX9 137 2147483648, Cond.methodLink RX9 139 yJ9_min_f86c9, Cond.static yJ9_min_f86c9, Cond.initialized "java/lang/Math", Cond.code yJ9_min_f86c9 cJ9_min_f86c9 4 (some .long), Cond.code yX10_wantType cX10_wantType 3 none, Cond.methodLink RX10 80 yX10_wantType, Cond.instanceMethod yX10_wantType, Cond.selects RX10 yX10_wantType yX10_wantType, Cond.initialized RX10, Cond.methodLink RX10 86 yX1_jump, Cond.code yX9_level cX9_level 1 (some .int), Cond.methodLink RX10 97 yX9_level, Cond.static yX9_level, Cond.methodLink RX10 118 yX1_pop, Cond.methodLink RX10 93 yX9_kind, Cond.code yX9_beginsCast cX9_beginsCast 1 (some .boolean), Cond.methodLink RX10 187 yX9_beginsCast, Cond.instanceMethod yX9_beginsCast, Cond.selects RX9 yX9_beginsCast yX9_beginsCast, Cond.methodLink RX10 224 yX9_kindAt, Cond.code yX10_readNamedClass cX10_readNamedClass 4 (some .int), Cond.methodLink RX10 168 yX10_readNamedClass, Cond.instanceMethod yX10_readNamedClass, Cond.selects RX10 yX10_readNamedClass yX10_readNamedClass, Cond.methodLink RX10 227 yX9_valueAt, Cond.code yX1_localOf cX1_localOf 3 (some .int), Cond.methodLink RX10 258 yX1_localOf, Cond.instanceMethod yX1_localOf, Cond.selects RX1 yX1_localOf yX1_localOf, Cond.code yX2_fieldOf cX2_fieldOf 6 (some .int), Cond.methodLink RX10 261 yX2_fieldOf, Cond.instanceMethod yX2_fieldOf, Cond.selects RX2 yX2_fieldOf yX2_fieldOf, Cond.code yX10_methodNamed cX10_methodNamed 4 (some .int)]
def VS_h7_p9 : List Cond := [Cond.methodLink RX10 248 yX10_methodNamed, Cond.instanceMethod yX10_methodNamed, Cond.selects RX10 yX10_methodNamed yX10_methodNamed, Cond.code yX2_isFixed cX2_isFixed 2 (some .boolean), Cond.methodLink RX10 251 yX2_isFixed, Cond.instanceMethod yX2_isFixed, Cond.selects RX2 yX2_isFixed yX2_isFixed, Cond.code yX10_giveThis cX10_giveThis 2 none, Cond.methodLink RX10 236 yX10_giveThis, Cond.instanceMethod yX10_giveThis, Cond.selects RX10 yX10_giveThis yX10_giveThis, Cond.methodLink RX10 242 yX4_isArray, Cond.methodLink RX10 277 yX4_isClass, Cond.methodLink RX10 271 yX2_methodOf, Cond.methodLink RX10 165 yX9_tell, Cond.code yX10_nameField cX10_nameField 3 none, Cond.methodLink RX10 265 yX10_nameField, Cond.instanceMethod yX10_nameField, Cond.selects RX10 yX10_nameField yX10_nameField, Cond.methodLink RX10 162 yX1_op, Cond.code yX10_give cX10_give 2 none, Cond.methodLink RX10 233 yX10_give, Cond.instanceMethod yX10_give, Cond.selects RX10 yX10_give yX10_give, Cond.methodLink RX11 146 yX3_of, Cond.methodLink RX11 75 yX4_above, Cond.methodLink RX11 167 yX3_tagOf, Cond.methodLink RX11 177 yX3_partOf, Cond.code yX3_textAt cX3_textAt 2 (some .int), Cond.methodLink RX11 180 yX3_textAt, Cond.instanceMethod yX3_textAt, Cond.selects RX3 yX3_textAt yX3_textAt, Cond.methodLink RX11 183 yX3_byteAt, Cond.code yX11_info cX11_info 2 (some .int), Cond.methodLink RX11 189 yX11_info, Cond.instanceMethod yX11_info, Cond.selects RX11 yX11_info yX11_info, Cond.initialized RX11, Cond.methodLink RX11 212 yJ7_fill_fda19, Cond.code yX11_codeAt cX11_codeAt 2 (some .int)]
def VS_h7_p10 : List Cond := [Cond.methodLink RX11 192 yX11_codeAt, Cond.instanceMethod yX11_codeAt, Cond.selects RX11 yX11_codeAt yX11_codeAt, Cond.code yX11_widthOf cX11_widthOf 1 (some .int), Cond.methodLink RX11 218 yX11_widthOf, Cond.static yX11_widthOf, Cond.code yX11_at cX11_at 3 (some .int), Cond.methodLink RX11 221 yX11_at, Cond.instanceMethod yX11_at, Cond.selects RX11 yX11_at yX11_at, Cond.fieldLink RX11 38 "ClassMill$Verifier" "marks" "[I", Cond.methodLink RX11 204 yJ9_min_7cf53, Cond.static yJ9_min_7cf53, Cond.code yJ9_min_7cf53 cJ9_min_7cf53 2 (some .int), Cond.fieldLink RX11 209 "ClassMill$Verifier" "length" "I", Cond.methodLink RX11 258 yJ7_fill_53178, Cond.code yX11_frameAt cX11_frameAt 2 (some .int), Cond.methodLink RX11 242 yX11_frameAt, Cond.instanceMethod yX11_frameAt, Cond.selects RX11 yX11_frameAt yX11_frameAt, Cond.code yX11_fitsLocals cX11_fitsLocals 4 (some .boolean), Cond.methodLink RX11 304 yX11_fitsLocals, Cond.instanceMethod yX11_fitsLocals, Cond.selects RX11 yX11_fitsLocals yX11_fitsLocals, Cond.code yX11_fits cX11_fits 3 (some .boolean), Cond.methodLink RX11 303 yX11_fits, Cond.instanceMethod yX11_fits, Cond.selects RX11 yX11_fits yX11_fits, Cond.fieldLink RX11 255 "ClassMill$Verifier" "height" "I", Cond.fieldLink RX11 47 "ClassMill$Verifier" "stack" "[I", Cond.fieldLink RX11 41 "ClassMill$Verifier" "frames" "[I", Cond.fieldLink RX11 44 "ClassMill$Verifier" "locals" "[I", Cond.methodLink RX11 267 arraycopyName, Cond.code yX1_slotOfFrame cX1_slotOfFrame 3 (some .int), Cond.methodLink RX1 96 yX1_slotOfFrame, Cond.instanceMethod yX1_slotOfFrame, Cond.selects RX1 yX1_slotOfFrame yX1_slotOfFrame, Cond.code yX1_fillFrame cX1_fillFrame 5 none, Cond.methodLink RX1 100 yX1_fillFrame, Cond.instanceMethod yX1_fillFrame]
def VS_h7_p11 : List Cond := [Cond.selects RX1 yX1_fillFrame yX1_fillFrame, Cond.fieldLink RX1 49 "ClassMill$Code" "sight" "I", Cond.fieldLink RX1 43 "ClassMill$Code" "height" "I", Cond.code yX1_aimHere cX1_aimHere 2 none, Cond.methodLink RX1 107 yX1_aimHere, Cond.instanceMethod yX1_aimHere, Cond.selects RX1 yX1_aimHere yX1_aimHere, Cond.code yX4_forget cX4_forget 2 none, Cond.methodLink RX2 88 yX4_forget, Cond.instanceMethod yX4_forget, Cond.selects RX4 yX4_forget yX4_forget, Cond.fieldLink RX2 27 "ClassMill$Heads" "fields" "[I", Cond.code yX2_nameClasses cX2_nameClasses 3 none, Cond.methodLink RX2 94 yX2_nameClasses, Cond.instanceMethod yX2_nameClasses, Cond.selects RX2 yX2_nameClasses yX2_nameClasses, Cond.code yX2_checkClassHead cX2_checkClassHead 3 none, Cond.methodLink RX2 97 yX2_checkClassHead, Cond.instanceMethod yX2_checkClassHead, Cond.selects RX2 yX2_checkClassHead yX2_checkClassHead, Cond.methodLink RX2 109 yX4_settle, Cond.code yX2_classAbove cX2_classAbove 3 (some .int), Cond.methodLink RX2 101 yX2_classAbove, Cond.instanceMethod yX2_classAbove, Cond.selects RX2 yX2_classAbove yX2_classAbove, Cond.code yX4_setAbove cX4_setAbove 3 none, Cond.methodLink RX2 105 yX4_setAbove, Cond.instanceMethod yX4_setAbove, Cond.selects RX4 yX4_setAbove yX4_setAbove, Cond.code yX2_checkOverride cX2_checkOverride 5 none, Cond.methodLink RX2 132 yX2_checkOverride, Cond.instanceMethod yX2_checkOverride, Cond.selects RX2 yX2_checkOverride yX2_checkOverride, Cond.code yX9_copyName cX9_copyName 5 none, Cond.methodLink RX2 169 yX9_copyName, Cond.instanceMethod yX9_copyName, Cond.selects RX9 yX9_copyName yX9_copyName, Cond.methodLink RX2 173 yX9_nameLength, Cond.fieldLink RX2 67 "ClassMill$Heads" "typeName" "[I", Cond.fieldLink RX2 70 "ClassMill$Heads" "kindBytes" "[B"]
def VS_h7_p12 : List Cond := [Cond.fieldLink RX2 144 "ClassMill$Heads" "kindSize" "I", Cond.methodLink RX2 176 yJ9_min_7cf53, Cond.code yX2_addMethod cX2_addMethod 7 none, Cond.methodLink RX2 199 yX2_addMethod, Cond.instanceMethod yX2_addMethod, Cond.selects RX2 yX2_addMethod yX2_addMethod, Cond.code yX2_addField cX2_addField 6 none, Cond.methodLink RX2 195 yX2_addField, Cond.instanceMethod yX2_addField, Cond.selects RX2 yX2_addField yX2_addField, Cond.code yX3_readConstant cX3_readConstant 5 none, Cond.methodLink RX3 93 yX3_readConstant, Cond.instanceMethod yX3_readConstant, Cond.selects RX3 yX3_readConstant yX3_readConstant, Cond.code yX3_isArrayText cX3_isArrayText 2 (some .boolean), Cond.methodLink RX3 106 yX3_isArrayText, Cond.instanceMethod yX3_isArrayText, Cond.selects RX3 yX3_isArrayText yX3_isArrayText, Cond.code yX3_isFieldKind cX3_isFieldKind 2 (some .boolean), Cond.methodLink RX3 109 yX3_isFieldKind, Cond.instanceMethod yX3_isFieldKind, Cond.selects RX3 yX3_isFieldKind yX3_isFieldKind, Cond.fieldLink RX3 27 "ClassMill$Image" "field" "[I", Cond.fieldLink RX3 49 "ClassMill$Image" "fields" "I", Cond.code yX5_computed cX5_computed 3 (some .int), Cond.methodLink RX5 176 yX5_computed, Cond.static yX5_computed, Cond.methodLink RX6 112 yX9_copyName, Cond.fieldLink RX6 9 "ClassMill$Pool" "tags" "[I", Cond.fieldLink RX6 13 "ClassMill$Pool" "values" "[I", Cond.fieldLink RX6 20 "ClassMill$Pool" "text" "LClassMill$Text;", Cond.code yX9_scanNumber cX9_scanNumber 9 (some .int), Cond.methodLink RX9 113 yX9_scanNumber, Cond.instanceMethod yX9_scanNumber, Cond.selects RX9 yX9_scanNumber yX9_scanNumber, Cond.code yX9_nameOf cX9_nameOf 6 (some .int), Cond.methodLink RX9 126 yX9_nameOf, Cond.instanceMethod yX9_nameOf, Cond.selects RX9 yX9_nameOf yX9_nameOf, Cond.methodLink RX10 121 yX1_aimHere]
def VS_h7_p13 : List Cond := [Cond.methodLink RX10 130 yX1_push, Cond.fieldLink RX10 46 "ClassMill$Values" "code" "LClassMill$Code;", Cond.fieldLink RX10 75 "ClassMill$Values" "type" "I", Cond.fieldLink RX10 146 "ClassMill$Values" "first" "I", Cond.code yX1_truth cX1_truth 5 none, Cond.methodLink RX10 156 yX1_truth, Cond.instanceMethod yX1_truth, Cond.selects RX1 yX1_truth yX1_truth, Cond.code yX1_op_ cX1_op_ 3 none, Cond.methodLink RX10 179 yX1_op_, Cond.instanceMethod yX1_op_, Cond.selects RX1 yX1_op_ yX1_op_, Cond.fieldLink RX10 133 "ClassMill$Values" "form" "I", Cond.code yX11_fitsFrame cX11_fitsFrame 5 (some .boolean), Cond.methodLink RX11 283 yX11_fitsFrame, Cond.instanceMethod yX11_fitsFrame, Cond.selects RX11 yX11_fitsFrame yX11_fitsFrame, Cond.code yX11_takeFrame cX11_takeFrame 3 none, Cond.methodLink RX11 286 yX11_takeFrame, Cond.instanceMethod yX11_takeFrame, Cond.selects RX11 yX11_takeFrame yX11_takeFrame, Cond.code yX11_fitsHandlers cX11_fitsHandlers 5 (some .boolean), Cond.methodLink RX11 289 yX11_fitsHandlers, Cond.instanceMethod yX11_fitsHandlers, Cond.selects RX11 yX11_fitsHandlers yX11_fitsHandlers, Cond.code yX2_readMember cX2_readMember 5 none, Cond.methodLink RX2 125 yX2_readMember, Cond.instanceMethod yX2_readMember, Cond.selects RX2 yX2_readMember yX2_readMember, Cond.code yX2_addKind cX2_addKind 4 none, Cond.methodLink RX2 147 yX2_addKind, Cond.instanceMethod yX2_addKind, Cond.selects RX2 yX2_addKind yX2_addKind, Cond.methodLink RX2 150 yX9_nameOf, Cond.code yX9_scanWord cX9_scanWord 8 (some .int), Cond.methodLink RX9 107 yX9_scanWord, Cond.instanceMethod yX9_scanWord, Cond.selects RX9 yX9_scanWord yX9_scanWord, Cond.code yX9_signOf cX9_signOf 2 (some .int), Cond.methodLink RX9 116 yX9_signOf]
def VS_h7_p14 : List Cond := [Cond.static yX9_signOf, Cond.code yX9_signLength cX9_signLength 1 (some .int), Cond.methodLink RX9 120 yX9_signLength, Cond.static yX9_signLength, Cond.code yX10_closeShort cX10_closeShort 4 none, Cond.methodLink RX10 149 yX10_closeShort, Cond.instanceMethod yX10_closeShort, Cond.selects RX10 yX10_closeShort yX10_closeShort, Cond.code yX10_isPair cX10_isPair 3 (some .boolean), Cond.methodLink RX10 124 yX10_isPair, Cond.instanceMethod yX10_isPair, Cond.selects RX10 yX10_isPair yX10_isPair, Cond.code yX4_isNumber cX4_isNumber 1 (some .boolean), Cond.methodLink RX10 143 yX4_isNumber, Cond.static yX4_isNumber, Cond.code yX10_compareOp cX10_compareOp 2 (some .int), Cond.methodLink RX10 152 yX10_compareOp, Cond.static yX10_compareOp, Cond.code yX10_arithmeticOp cX10_arithmeticOp 1 (some .int), Cond.methodLink RX10 159 yX10_arithmeticOp, Cond.static yX10_arithmeticOp, Cond.fieldLink RX10 22 "ClassMill$Values" "leftFirst" "[I", Cond.fieldLink RX10 65 "ClassMill$Values" "open" "I", Cond.fieldLink RX10 19 "ClassMill$Values" "signAt" "[I", Cond.fieldLink RX10 28 "ClassMill$Values" "leftJump" "[I", Cond.fieldLink RX10 15 "ClassMill$Values" "signs" "[I", Cond.fieldLink RX10 25 "ClassMill$Values" "leftType" "[I", Cond.code yX2_nameKind cX2_nameKind 2 (some .int), Cond.methodLink RX2 138 yX2_nameKind, Cond.instanceMethod yX2_nameKind, Cond.selects RX2 yX2_nameKind yX2_nameKind, Cond.code yX2_nameMethodKind cX2_nameMethodKind 3 (some .int), Cond.methodLink RX2 141 yX2_nameMethodKind, Cond.instanceMethod yX2_nameMethodKind, Cond.selects RX2 yX2_nameMethodKind yX2_nameMethodKind, Cond.fieldLink RX2 55 "ClassMill$Heads" "methodKind" "[I", Cond.fieldLink RX2 30 "ClassMill$Heads" "fieldName" "[I", Cond.fieldLink RX2 36 "ClassMill$Heads" "fieldKind" "[I", Cond.fieldLink RX2 33 "ClassMill$Heads" "fieldType" "[I", Cond.code yX3_checkConstant cX3_checkConstant 4 none]
def VS_h7_p15 : List Cond := [Cond.methodLink RX3 96 yX3_checkConstant, Cond.instanceMethod yX3_checkConstant, Cond.selects RX3 yX3_checkConstant yX3_checkConstant, Cond.fieldLink RX3 90 "ClassMill$Image" "constants" "I", Cond.code yX9_scanToken cX9_scanToken 8 (some .int), Cond.methodLink RX9 96 yX9_scanToken, Cond.instanceMethod yX9_scanToken, Cond.selects RX9 yX9_scanToken yX9_scanToken, Cond.fieldLink RX9 38 "ClassMill$Text" "knownBucket" "[I", Cond.fieldLink RX9 83 "ClassMill$Text" "count" "I", Cond.fieldLink RX9 86 "ClassMill$Text" "pos" "I", Cond.fieldLink RX9 80 "ClassMill$Text" "fault" "I", Cond.fieldLink RX9 41 "ClassMill$Text" "place" "I", Cond.code yX3_readConstants cX3_readConstants 2 none, Cond.methodLink RX3 55 yX3_readConstants, Cond.instanceMethod yX3_readConstants, Cond.selects RX3 yX3_readConstants yX3_readConstants, Cond.code yX3_nextPlainClass cX3_nextPlainClass 3 (some .int), Cond.methodLink RX3 58 yX3_nextPlainClass, Cond.instanceMethod yX3_nextPlainClass, Cond.selects RX3 yX3_nextPlainClass yX3_nextPlainClass, Cond.code yX3_readFields cX3_readFields 4 none, Cond.methodLink RX3 68 yX3_readFields, Cond.instanceMethod yX3_readFields, Cond.selects RX3 yX3_readFields yX3_readFields, Cond.code yX3_readMethod cX3_readMethod 4 none, Cond.methodLink RX3 74 yX3_readMethod, Cond.instanceMethod yX3_readMethod, Cond.selects RX3 yX3_readMethod yX3_readMethod, Cond.methodLink RX3 33 yJ9_min_7cf53, Cond.fieldLink RX3 52 "ClassMill$Image" "methods" "I", Cond.fieldLink RX3 62 "ClassMill$Image" "selfText" "I", Cond.fieldLink RX3 65 "ClassMill$Image" "aboveText" "I"]
def VS_h7 : List Cond := VS_h7_p0 ++ (VS_h7_p1 ++ (VS_h7_p2 ++ (VS_h7_p3 ++ (VS_h7_p4 ++ (VS_h7_p5 ++ (VS_h7_p6 ++ (VS_h7_p7 ++ (VS_h7_p8 ++ (VS_h7_p9 ++ (VS_h7_p10 ++ (VS_h7_p11 ++ (VS_h7_p12 ++ (VS_h7_p13 ++ (VS_h7_p14 ++ (VS_h7_p15 ++ (VS_h4 ++ (wsX10 ++ (wsX20 ++ (wsX90 ++ (VS_h3 ++ (VS_h2 ++ (wsX30 ++ (wsJ0_length_8abf5 ++ (wsJ0_charAt_5068e ++ (wsX40 ++ (wsX50 ++ (wsX70 ++ (wsX60 ++ (wsX100 ++ (wsX110))))))))))))))))))))))))))))))
theorem mw_h7_0 : Cond.code yJ7_rangeCheck_23922 cJ7_rangeCheck_23922 3 none ∈ VS_h7 := List.mem_append_left _ (List.mem_of_getElem? (i := 0) rfl)
theorem mw_h7_1 : Cond.methodLink RJ7 13 yJ7_rangeCheck_23922 ∈ VS_h7 := List.mem_append_left _ (List.mem_of_getElem? (i := 1) rfl)
theorem mw_h7_2 : Cond.static yJ7_rangeCheck_23922 ∈ VS_h7 := List.mem_append_left _ (List.mem_of_getElem? (i := 2) rfl)
theorem mw_h7_3 : Cond.initialized RJ7 ∈ VS_h7 := List.mem_append_left _ (List.mem_of_getElem? (i := 3) rfl)
theorem mw_h7_4 : Cond.code yX1_jump cX1_jump 4 (some .int) ∈ VS_h7 := List.mem_append_left _ (List.mem_of_getElem? (i := 4) rfl)
theorem mw_h7_5 : Cond.methodLink RX1 90 yX1_jump ∈ VS_h7 := List.mem_append_left _ (List.mem_of_getElem? (i := 5) rfl)
theorem mw_h7_6 : Cond.instanceMethod yX1_jump ∈ VS_h7 := List.mem_append_left _ (List.mem_of_getElem? (i := 6) rfl)
theorem mw_h7_7 : Cond.selects RX1 yX1_jump yX1_jump ∈ VS_h7 := List.mem_append_left _ (List.mem_of_getElem? (i := 7) rfl)
theorem mw_h7_8 : Cond.initialized RX1 ∈ VS_h7 := List.mem_append_left _ (List.mem_of_getElem? (i := 8) rfl)
theorem mw_h7_9 : Cond.code yX1_aimAt cX1_aimAt 4 none ∈ VS_h7 := List.mem_append_left _ (List.mem_of_getElem? (i := 9) rfl)
theorem mw_h7_10 : Cond.methodLink RX1 93 yX1_aimAt ∈ VS_h7 := List.mem_append_left _ (List.mem_of_getElem? (i := 10) rfl)
theorem mw_h7_11 : Cond.instanceMethod yX1_aimAt ∈ VS_h7 := List.mem_append_left _ (List.mem_of_getElem? (i := 11) rfl)
theorem mw_h7_12 : Cond.selects RX1 yX1_aimAt yX1_aimAt ∈ VS_h7 := List.mem_append_left _ (List.mem_of_getElem? (i := 12) rfl)
theorem mw_h7_13 : Cond.code yX1_push cX1_push 2 none ∈ VS_h7 := List.mem_append_left _ (List.mem_of_getElem? (i := 13) rfl)
theorem mw_h7_14 : Cond.methodLink RX1 104 yX1_push ∈ VS_h7 := List.mem_append_left _ (List.mem_of_getElem? (i := 14) rfl)
theorem mw_h7_15 : Cond.instanceMethod yX1_push ∈ VS_h7 := List.mem_append_left _ (List.mem_of_getElem? (i := 15) rfl)
theorem mw_h7_16 : Cond.selects RX1 yX1_push yX1_push ∈ VS_h7 := List.mem_append_left _ (List.mem_of_getElem? (i := 16) rfl)
theorem mw_h7_17 : Cond.code yX1_op cX1_op 2 none ∈ VS_h7 := List.mem_append_left _ (List.mem_of_getElem? (i := 17) rfl)
theorem mw_h7_18 : Cond.methodLink RX1 65 yX1_op ∈ VS_h7 := List.mem_append_left _ (List.mem_of_getElem? (i := 18) rfl)
theorem mw_h7_19 : Cond.instanceMethod yX1_op ∈ VS_h7 := List.mem_append_left _ (List.mem_of_getElem? (i := 19) rfl)
theorem mw_h7_20 : Cond.selects RX1 yX1_op yX1_op ∈ VS_h7 := List.mem_append_left _ (List.mem_of_getElem? (i := 20) rfl)
theorem mw_h7_21 : Cond.code yX1_pop cX1_pop 2 none ∈ VS_h7 := List.mem_append_left _ (List.mem_of_getElem? (i := 21) rfl)
theorem mw_h7_22 : Cond.methodLink RX1 87 yX1_pop ∈ VS_h7 := List.mem_append_left _ (List.mem_of_getElem? (i := 22) rfl)
theorem mw_h7_23 : Cond.instanceMethod yX1_pop ∈ VS_h7 := List.mem_append_left _ (List.mem_of_getElem? (i := 23) rfl)
theorem mw_h7_24 : Cond.selects RX1 yX1_pop yX1_pop ∈ VS_h7 := List.mem_append_left _ (List.mem_of_getElem? (i := 24) rfl)
theorem mw_h7_25 : Cond.fieldLink RX1 61 "ClassMill$Code" "full" "Z" ∈ VS_h7 := List.mem_append_left _ (List.mem_of_getElem? (i := 25) rfl)
theorem mw_h7_26 : Cond.fieldLink RX1 33 "ClassMill$Code" "frameRow" "[I" ∈ VS_h7 := List.mem_append_left _ (List.mem_of_getElem? (i := 26) rfl)
theorem mw_h7_27 : Cond.fieldLink RX1 24 "ClassMill$Code" "localType" "[I" ∈ VS_h7 := List.mem_append_left _ (List.mem_of_getElem? (i := 27) rfl)
theorem mw_h7_28 : Cond.methodLink RX1 110 arraycopyName ∈ VS_h7 := List.mem_append_left _ (List.mem_of_getElem? (i := 28) rfl)
theorem mw_h7_29 : Cond.native arraycopyName ∈ VS_h7 := List.mem_append_left _ (List.mem_of_getElem? (i := 29) rfl)
theorem mw_h7_30 : Cond.static arraycopyName ∈ VS_h7 := List.mem_append_left _ (List.mem_of_getElem? (i := 30) rfl)
theorem mw_h7_31 : Cond.initialized "java/lang/System" ∈ VS_h7 := List.mem_append_left _ (List.mem_of_getElem? (i := 31) rfl)
theorem mw_h7_32 : Cond.fieldLink RX1 17 "ClassMill$Code" "stack" "[I" ∈ VS_h7 := List.mem_append_left _ (List.mem_of_getElem? (i := 32) rfl)
theorem mw_h7_33 : Cond.fieldLink RX1 58 "ClassMill$Code" "frameCount" "I" ∈ VS_h7 := List.mem_append_left _ (List.mem_of_getElem? (i := 33) rfl)
theorem mw_h7_34 : Cond.fieldLink RX1 36 "ClassMill$Code" "frameOrder" "[I" ∈ VS_h7 := List.mem_append_left _ (List.mem_of_getElem? (i := 34) rfl)
theorem mw_h7_35 : Cond.fieldLink RX1 30 "ClassMill$Code" "framePlace" "[I" ∈ VS_h7 := List.mem_append_left _ (List.mem_of_getElem? (i := 35) rfl)
theorem mw_h7_36 : Cond.code yX6_put cX6_put 2 none ∈ VS_h7 := List.mem_append_left _ (List.mem_of_getElem? (i := 36) rfl)
theorem mw_h7_37 : Cond.methodLink RX1 116 yX6_put ∈ VS_h7 := List.mem_append_left _ (List.mem_of_getElem? (i := 37) rfl)
theorem mw_h7_38 : Cond.instanceMethod yX6_put ∈ VS_h7 := List.mem_append_left _ (List.mem_of_getElem? (i := 38) rfl)
theorem mw_h7_39 : Cond.selects RX6 yX6_put yX6_put ∈ VS_h7 := List.mem_append_left _ (List.mem_of_getElem? (i := 39) rfl)
theorem mw_h7_40 : Cond.initialized RX6 ∈ VS_h7 := List.mem_append_right _ (List.mem_append_left _ (List.mem_of_getElem? (i := 0) rfl))
theorem mw_h7_41 : Cond.code yX6_putPair cX6_putPair 2 none ∈ VS_h7 := List.mem_append_right _ (List.mem_append_left _ (List.mem_of_getElem? (i := 1) rfl))
theorem mw_h7_42 : Cond.methodLink RX1 121 yX6_putPair ∈ VS_h7 := List.mem_append_right _ (List.mem_append_left _ (List.mem_of_getElem? (i := 2) rfl))
theorem mw_h7_43 : Cond.instanceMethod yX6_putPair ∈ VS_h7 := List.mem_append_right _ (List.mem_append_left _ (List.mem_of_getElem? (i := 3) rfl))
theorem mw_h7_44 : Cond.selects RX6 yX6_putPair yX6_putPair ∈ VS_h7 := List.mem_append_right _ (List.mem_append_left _ (List.mem_of_getElem? (i := 4) rfl))
theorem mw_h7_45 : Cond.code yX1_writeFrame cX1_writeFrame 6 none ∈ VS_h7 := List.mem_append_right _ (List.mem_append_left _ (List.mem_of_getElem? (i := 5) rfl))
theorem mw_h7_46 : Cond.methodLink RX1 127 yX1_writeFrame ∈ VS_h7 := List.mem_append_right _ (List.mem_append_left _ (List.mem_of_getElem? (i := 6) rfl))
theorem mw_h7_47 : Cond.instanceMethod yX1_writeFrame ∈ VS_h7 := List.mem_append_right _ (List.mem_append_left _ (List.mem_of_getElem? (i := 7) rfl))
theorem mw_h7_48 : Cond.selects RX1 yX1_writeFrame yX1_writeFrame ∈ VS_h7 := List.mem_append_right _ (List.mem_append_left _ (List.mem_of_getElem? (i := 8) rfl))
theorem mw_h7_49 : Cond.code yX6_classOf cX6_classOf 2 (some .int) ∈ VS_h7 := List.mem_append_right _ (List.mem_append_left _ (List.mem_of_getElem? (i := 9) rfl))
theorem mw_h7_50 : Cond.methodLink RX1 124 yX6_classOf ∈ VS_h7 := List.mem_append_right _ (List.mem_append_left _ (List.mem_of_getElem? (i := 10) rfl))
theorem mw_h7_51 : Cond.instanceMethod yX6_classOf ∈ VS_h7 := List.mem_append_right _ (List.mem_append_left _ (List.mem_of_getElem? (i := 11) rfl))
theorem mw_h7_52 : Cond.selects RX6 yX6_classOf yX6_classOf ∈ VS_h7 := List.mem_append_right _ (List.mem_append_left _ (List.mem_of_getElem? (i := 12) rfl))
theorem mw_h7_53 : Cond.fieldLink RX1 55 "ClassMill$Code" "handlerCount" "I" ∈ VS_h7 := List.mem_append_right _ (List.mem_append_left _ (List.mem_of_getElem? (i := 13) rfl))
theorem mw_h7_54 : Cond.fieldLink RX1 27 "ClassMill$Code" "handlers" "[I" ∈ VS_h7 := List.mem_append_right _ (List.mem_append_left _ (List.mem_of_getElem? (i := 14) rfl))
theorem mw_h7_55 : Cond.fieldLink RX1 46 "ClassMill$Code" "mostHeight" "I" ∈ VS_h7 := List.mem_append_right _ (List.mem_append_left _ (List.mem_of_getElem? (i := 15) rfl))
theorem mw_h7_56 : Cond.fieldLink RX1 52 "ClassMill$Code" "mostLocals" "I" ∈ VS_h7 := List.mem_append_right _ (List.mem_append_left _ (List.mem_of_getElem? (i := 16) rfl))
theorem mw_h7_57 : Cond.fieldLink RX1 39 "ClassMill$Code" "length" "I" ∈ VS_h7 := List.mem_append_right _ (List.mem_append_left _ (List.mem_of_getElem? (i := 17) rfl))
theorem mw_h7_58 : Cond.fieldLink RX1 13 "ClassMill$Code" "bytes" "[B" ∈ VS_h7 := List.mem_append_right _ (List.mem_append_left _ (List.mem_of_getElem? (i := 18) rfl))
theorem mw_h7_59 : Cond.code yJ7_fill_53178 cJ7_fill_53178 4 none ∈ VS_h7 := List.mem_append_right _ (List.mem_append_left _ (List.mem_of_getElem? (i := 19) rfl))
theorem mw_h7_60 : Cond.methodLink RX2 82 yJ7_fill_53178 ∈ VS_h7 := List.mem_append_right _ (List.mem_append_left _ (List.mem_of_getElem? (i := 20) rfl))
theorem mw_h7_61 : Cond.static yJ7_fill_53178 ∈ VS_h7 := List.mem_append_right _ (List.mem_append_left _ (List.mem_of_getElem? (i := 21) rfl))
theorem mw_h7_62 : Cond.code yX2_tokenOfClass cX2_tokenOfClass 2 (some .int) ∈ VS_h7 := List.mem_append_right _ (List.mem_append_left _ (List.mem_of_getElem? (i := 22) rfl))
theorem mw_h7_63 : Cond.methodLink RX2 112 yX2_tokenOfClass ∈ VS_h7 := List.mem_append_right _ (List.mem_append_left _ (List.mem_of_getElem? (i := 23) rfl))
theorem mw_h7_64 : Cond.instanceMethod yX2_tokenOfClass ∈ VS_h7 := List.mem_append_right _ (List.mem_append_left _ (List.mem_of_getElem? (i := 24) rfl))
theorem mw_h7_65 : Cond.selects RX2 yX2_tokenOfClass yX2_tokenOfClass ∈ VS_h7 := List.mem_append_right _ (List.mem_append_left _ (List.mem_of_getElem? (i := 25) rfl))
theorem mw_h7_66 : Cond.initialized RX2 ∈ VS_h7 := List.mem_append_right _ (List.mem_append_left _ (List.mem_of_getElem? (i := 26) rfl))
theorem mw_h7_67 : Cond.code yX9_kindAt cX9_kindAt 2 (some .int) ∈ VS_h7 := List.mem_append_right _ (List.mem_append_left _ (List.mem_of_getElem? (i := 27) rfl))
theorem mw_h7_68 : Cond.methodLink RX2 115 yX9_kindAt ∈ VS_h7 := List.mem_append_right _ (List.mem_append_left _ (List.mem_of_getElem? (i := 28) rfl))
theorem mw_h7_69 : Cond.instanceMethod yX9_kindAt ∈ VS_h7 := List.mem_append_right _ (List.mem_append_left _ (List.mem_of_getElem? (i := 29) rfl))
theorem mw_h7_70 : Cond.selects RX9 yX9_kindAt yX9_kindAt ∈ VS_h7 := List.mem_append_right _ (List.mem_append_left _ (List.mem_of_getElem? (i := 30) rfl))
theorem mw_h7_71 : Cond.initialized RX9 ∈ VS_h7 := List.mem_append_right _ (List.mem_append_left _ (List.mem_of_getElem? (i := 31) rfl))
theorem mw_h7_72 : Cond.code yX9_kind cX9_kind 1 (some .int) ∈ VS_h7 := List.mem_append_right _ (List.mem_append_left _ (List.mem_of_getElem? (i := 32) rfl))
theorem mw_h7_73 : Cond.methodLink RX2 121 yX9_kind ∈ VS_h7 := List.mem_append_right _ (List.mem_append_left _ (List.mem_of_getElem? (i := 33) rfl))
theorem mw_h7_74 : Cond.instanceMethod yX9_kind ∈ VS_h7 := List.mem_append_right _ (List.mem_append_left _ (List.mem_of_getElem? (i := 34) rfl))
theorem mw_h7_75 : Cond.selects RX9 yX9_kind yX9_kind ∈ VS_h7 := List.mem_append_right _ (List.mem_append_left _ (List.mem_of_getElem? (i := 35) rfl))
theorem mw_h7_76 : Cond.code yX2_isMethod cX2_isMethod 2 (some .boolean) ∈ VS_h7 := List.mem_append_right _ (List.mem_append_left _ (List.mem_of_getElem? (i := 36) rfl))
theorem mw_h7_77 : Cond.methodLink RX2 128 yX2_isMethod ∈ VS_h7 := List.mem_append_right _ (List.mem_append_left _ (List.mem_of_getElem? (i := 37) rfl))
theorem mw_h7_78 : Cond.instanceMethod yX2_isMethod ∈ VS_h7 := List.mem_append_right _ (List.mem_append_left _ (List.mem_of_getElem? (i := 38) rfl))
theorem mw_h7_79 : Cond.selects RX2 yX2_isMethod yX2_isMethod ∈ VS_h7 := List.mem_append_right _ (List.mem_append_left _ (List.mem_of_getElem? (i := 39) rfl))
theorem mw_h7_80 : Cond.code yX9_valueAt cX9_valueAt 2 (some .int) ∈ VS_h7 := List.mem_append_right _ (List.mem_append_right _ (List.mem_append_left _ (List.mem_of_getElem? (i := 0) rfl)))
theorem mw_h7_81 : Cond.methodLink RX2 135 yX9_valueAt ∈ VS_h7 := List.mem_append_right _ (List.mem_append_right _ (List.mem_append_left _ (List.mem_of_getElem? (i := 1) rfl)))
theorem mw_h7_82 : Cond.instanceMethod yX9_valueAt ∈ VS_h7 := List.mem_append_right _ (List.mem_append_right _ (List.mem_append_left _ (List.mem_of_getElem? (i := 2) rfl)))
theorem mw_h7_83 : Cond.selects RX9 yX9_valueAt yX9_valueAt ∈ VS_h7 := List.mem_append_right _ (List.mem_append_right _ (List.mem_append_left _ (List.mem_of_getElem? (i := 3) rfl)))
theorem mw_h7_84 : Cond.code yX2_addKindByte cX2_addKindByte 2 none ∈ VS_h7 := List.mem_append_right _ (List.mem_append_right _ (List.mem_append_left _ (List.mem_of_getElem? (i := 4) rfl)))
theorem mw_h7_85 : Cond.methodLink RX2 154 yX2_addKindByte ∈ VS_h7 := List.mem_append_right _ (List.mem_append_right _ (List.mem_append_left _ (List.mem_of_getElem? (i := 5) rfl)))
theorem mw_h7_86 : Cond.instanceMethod yX2_addKindByte ∈ VS_h7 := List.mem_append_right _ (List.mem_append_right _ (List.mem_append_left _ (List.mem_of_getElem? (i := 6) rfl)))
theorem mw_h7_87 : Cond.selects RX2 yX2_addKindByte yX2_addKindByte ∈ VS_h7 := List.mem_append_right _ (List.mem_append_right _ (List.mem_append_left _ (List.mem_of_getElem? (i := 7) rfl)))
theorem mw_h7_88 : Cond.code yX4_isArray cX4_isArray 1 (some .boolean) ∈ VS_h7 := List.mem_append_right _ (List.mem_append_right _ (List.mem_append_left _ (List.mem_of_getElem? (i := 8) rfl)))
theorem mw_h7_89 : Cond.methodLink RX2 160 yX4_isArray ∈ VS_h7 := List.mem_append_right _ (List.mem_append_right _ (List.mem_append_left _ (List.mem_of_getElem? (i := 9) rfl)))
theorem mw_h7_90 : Cond.static yX4_isArray ∈ VS_h7 := List.mem_append_right _ (List.mem_append_right _ (List.mem_append_left _ (List.mem_of_getElem? (i := 10) rfl)))
theorem mw_h7_91 : Cond.initialized RX4 ∈ VS_h7 := List.mem_append_right _ (List.mem_append_right _ (List.mem_append_left _ (List.mem_of_getElem? (i := 11) rfl)))
theorem mw_h7_92 : Cond.code yX4_elementOf cX4_elementOf 1 (some .int) ∈ VS_h7 := List.mem_append_right _ (List.mem_append_right _ (List.mem_append_left _ (List.mem_of_getElem? (i := 12) rfl)))
theorem mw_h7_93 : Cond.methodLink RX2 163 yX4_elementOf ∈ VS_h7 := List.mem_append_right _ (List.mem_append_right _ (List.mem_append_left _ (List.mem_of_getElem? (i := 13) rfl)))
theorem mw_h7_94 : Cond.static yX4_elementOf ∈ VS_h7 := List.mem_append_right _ (List.mem_append_right _ (List.mem_append_left _ (List.mem_of_getElem? (i := 14) rfl)))
theorem mw_h7_95 : Cond.code yX4_isClass cX4_isClass 1 (some .boolean) ∈ VS_h7 := List.mem_append_right _ (List.mem_append_right _ (List.mem_append_left _ (List.mem_of_getElem? (i := 15) rfl)))
theorem mw_h7_96 : Cond.methodLink RX2 166 yX4_isClass ∈ VS_h7 := List.mem_append_right _ (List.mem_append_right _ (List.mem_append_left _ (List.mem_of_getElem? (i := 16) rfl)))
theorem mw_h7_97 : Cond.static yX4_isClass ∈ VS_h7 := List.mem_append_right _ (List.mem_append_right _ (List.mem_append_left _ (List.mem_of_getElem? (i := 17) rfl)))
theorem mw_h7_98 : Cond.fieldLink RX2 78 "ClassMill$Heads" "classes" "I" ∈ VS_h7 := List.mem_append_right _ (List.mem_append_right _ (List.mem_append_left _ (List.mem_of_getElem? (i := 18) rfl)))
theorem mw_h7_99 : Cond.fieldLink RX2 74 "ClassMill$Heads" "text" "LClassMill$Text;" ∈ VS_h7 := List.mem_append_right _ (List.mem_append_right _ (List.mem_append_left _ (List.mem_of_getElem? (i := 19) rfl)))
theorem mw_h7_100 : Cond.fieldLink RX2 20 "ClassMill$Heads" "classAt" "[I" ∈ VS_h7 := List.mem_append_right _ (List.mem_append_right _ (List.mem_append_left _ (List.mem_of_getElem? (i := 20) rfl)))
theorem mw_h7_101 : Cond.fieldLink RX2 24 "ClassMill$Heads" "classOfName" "[I" ∈ VS_h7 := List.mem_append_right _ (List.mem_append_right _ (List.mem_append_left _ (List.mem_of_getElem? (i := 21) rfl)))
theorem mw_h7_102 : Cond.fieldLink RX2 181 "ClassMill$Text" "names" "I" ∈ VS_h7 := List.mem_append_right _ (List.mem_append_right _ (List.mem_append_left _ (List.mem_of_getElem? (i := 22) rfl)))
theorem mw_h7_103 : Cond.code yX2_readType cX2_readType 5 (some .int) ∈ VS_h7 := List.mem_append_right _ (List.mem_append_right _ (List.mem_append_left _ (List.mem_of_getElem? (i := 23) rfl)))
theorem mw_h7_104 : Cond.methodLink RX2 192 yX2_readType ∈ VS_h7 := List.mem_append_right _ (List.mem_append_right _ (List.mem_append_left _ (List.mem_of_getElem? (i := 24) rfl)))
theorem mw_h7_105 : Cond.instanceMethod yX2_readType ∈ VS_h7 := List.mem_append_right _ (List.mem_append_right _ (List.mem_append_left _ (List.mem_of_getElem? (i := 25) rfl)))
theorem mw_h7_106 : Cond.selects RX2 yX2_readType yX2_readType ∈ VS_h7 := List.mem_append_right _ (List.mem_append_right _ (List.mem_append_left _ (List.mem_of_getElem? (i := 26) rfl)))
theorem mw_h7_107 : Cond.code yX2_methodIn cX2_methodIn 4 (some .int) ∈ VS_h7 := List.mem_append_right _ (List.mem_append_right _ (List.mem_append_left _ (List.mem_of_getElem? (i := 27) rfl)))
theorem mw_h7_108 : Cond.methodLink RX2 206 yX2_methodIn ∈ VS_h7 := List.mem_append_right _ (List.mem_append_right _ (List.mem_append_left _ (List.mem_of_getElem? (i := 28) rfl)))
theorem mw_h7_109 : Cond.instanceMethod yX2_methodIn ∈ VS_h7 := List.mem_append_right _ (List.mem_append_right _ (List.mem_append_left _ (List.mem_of_getElem? (i := 29) rfl)))
theorem mw_h7_110 : Cond.selects RX2 yX2_methodIn yX2_methodIn ∈ VS_h7 := List.mem_append_right _ (List.mem_append_right _ (List.mem_append_left _ (List.mem_of_getElem? (i := 30) rfl)))
theorem mw_h7_111 : Cond.code yX9_tell cX9_tell 3 none ∈ VS_h7 := List.mem_append_right _ (List.mem_append_right _ (List.mem_append_left _ (List.mem_of_getElem? (i := 31) rfl)))
theorem mw_h7_112 : Cond.methodLink RX2 186 yX9_tell ∈ VS_h7 := List.mem_append_right _ (List.mem_append_right _ (List.mem_append_left _ (List.mem_of_getElem? (i := 32) rfl)))
theorem mw_h7_113 : Cond.instanceMethod yX9_tell ∈ VS_h7 := List.mem_append_right _ (List.mem_append_right _ (List.mem_append_left _ (List.mem_of_getElem? (i := 33) rfl)))
theorem mw_h7_114 : Cond.selects RX9 yX9_tell yX9_tell ∈ VS_h7 := List.mem_append_right _ (List.mem_append_right _ (List.mem_append_left _ (List.mem_of_getElem? (i := 34) rfl)))
theorem mw_h7_115 : Cond.code yX2_addParameter cX2_addParameter 7 none ∈ VS_h7 := List.mem_append_right _ (List.mem_append_right _ (List.mem_append_left _ (List.mem_of_getElem? (i := 35) rfl)))
theorem mw_h7_116 : Cond.methodLink RX2 209 yX2_addParameter ∈ VS_h7 := List.mem_append_right _ (List.mem_append_right _ (List.mem_append_left _ (List.mem_of_getElem? (i := 36) rfl)))
theorem mw_h7_117 : Cond.instanceMethod yX2_addParameter ∈ VS_h7 := List.mem_append_right _ (List.mem_append_right _ (List.mem_append_left _ (List.mem_of_getElem? (i := 37) rfl)))
theorem mw_h7_118 : Cond.selects RX2 yX2_addParameter yX2_addParameter ∈ VS_h7 := List.mem_append_right _ (List.mem_append_right _ (List.mem_append_left _ (List.mem_of_getElem? (i := 38) rfl)))
theorem mw_h7_119 : Cond.code yX2_skipBlock cX2_skipBlock 4 none ∈ VS_h7 := List.mem_append_right _ (List.mem_append_right _ (List.mem_append_left _ (List.mem_of_getElem? (i := 39) rfl)))
theorem mw_h7_120 : Cond.methodLink RX2 212 yX2_skipBlock ∈ VS_h7 := List.mem_append_right _ (List.mem_append_right _ (List.mem_append_right _ (List.mem_append_left _ (List.mem_of_getElem? (i := 0) rfl))))
theorem mw_h7_121 : Cond.instanceMethod yX2_skipBlock ∈ VS_h7 := List.mem_append_right _ (List.mem_append_right _ (List.mem_append_right _ (List.mem_append_left _ (List.mem_of_getElem? (i := 1) rfl))))
theorem mw_h7_122 : Cond.selects RX2 yX2_skipBlock yX2_skipBlock ∈ VS_h7 := List.mem_append_right _ (List.mem_append_right _ (List.mem_append_right _ (List.mem_append_left _ (List.mem_of_getElem? (i := 2) rfl))))
theorem mw_h7_123 : Cond.fieldLink RX2 118 "ClassMill$Text" "pos" "I" ∈ VS_h7 := List.mem_append_right _ (List.mem_append_right _ (List.mem_append_right _ (List.mem_append_left _ (List.mem_of_getElem? (i := 3) rfl))))
theorem mw_h7_124 : Cond.fieldLink RX2 45 "ClassMill$Heads" "methodBody" "[I" ∈ VS_h7 := List.mem_append_right _ (List.mem_append_right _ (List.mem_append_right _ (List.mem_append_left _ (List.mem_of_getElem? (i := 4) rfl))))
theorem mw_h7_125 : Cond.fieldLink RX2 39 "ClassMill$Heads" "methods" "[I" ∈ VS_h7 := List.mem_append_right _ (List.mem_append_right _ (List.mem_append_right _ (List.mem_append_left _ (List.mem_of_getElem? (i := 5) rfl))))
theorem mw_h7_126 : Cond.fieldLink RX2 42 "ClassMill$Heads" "methodAt" "[I" ∈ VS_h7 := List.mem_append_right _ (List.mem_append_right _ (List.mem_append_right _ (List.mem_append_left _ (List.mem_of_getElem? (i := 6) rfl))))
theorem mw_h7_127 : Cond.fieldLink RX2 48 "ClassMill$Heads" "methodType" "[I" ∈ VS_h7 := List.mem_append_right _ (List.mem_append_right _ (List.mem_append_right _ (List.mem_append_left _ (List.mem_of_getElem? (i := 7) rfl))))
theorem mw_h7_128 : Cond.fieldLink RX2 51 "ClassMill$Heads" "methodFixed" "[Z" ∈ VS_h7 := List.mem_append_right _ (List.mem_append_right _ (List.mem_append_right _ (List.mem_append_left _ (List.mem_of_getElem? (i := 8) rfl))))
theorem mw_h7_129 : Cond.fieldLink RX2 58 "ClassMill$Heads" "parameters" "[I" ∈ VS_h7 := List.mem_append_right _ (List.mem_append_right _ (List.mem_append_right _ (List.mem_append_left _ (List.mem_of_getElem? (i := 9) rfl))))
theorem mw_h7_130 : Cond.fieldLink RX2 91 "ClassMill$Text" "fault" "I" ∈ VS_h7 := List.mem_append_right _ (List.mem_append_right _ (List.mem_append_right _ (List.mem_append_left _ (List.mem_of_getElem? (i := 10) rfl))))
theorem mw_h7_131 : Cond.code yX4_above cX4_above 2 (some .int) ∈ VS_h7 := List.mem_append_right _ (List.mem_append_right _ (List.mem_append_right _ (List.mem_append_left _ (List.mem_of_getElem? (i := 11) rfl))))
theorem mw_h7_132 : Cond.methodLink RX2 215 yX4_above ∈ VS_h7 := List.mem_append_right _ (List.mem_append_right _ (List.mem_append_right _ (List.mem_append_left _ (List.mem_of_getElem? (i := 12) rfl))))
theorem mw_h7_133 : Cond.instanceMethod yX4_above ∈ VS_h7 := List.mem_append_right _ (List.mem_append_right _ (List.mem_append_right _ (List.mem_append_left _ (List.mem_of_getElem? (i := 13) rfl))))
theorem mw_h7_134 : Cond.selects RX4 yX4_above yX4_above ∈ VS_h7 := List.mem_append_right _ (List.mem_append_right _ (List.mem_append_right _ (List.mem_append_left _ (List.mem_of_getElem? (i := 14) rfl))))
theorem mw_h7_135 : Cond.code yX2_nameOfMethod cX2_nameOfMethod 2 (some .int) ∈ VS_h7 := List.mem_append_right _ (List.mem_append_right _ (List.mem_append_right _ (List.mem_append_left _ (List.mem_of_getElem? (i := 15) rfl))))
theorem mw_h7_136 : Cond.methodLink RX2 218 yX2_nameOfMethod ∈ VS_h7 := List.mem_append_right _ (List.mem_append_right _ (List.mem_append_right _ (List.mem_append_left _ (List.mem_of_getElem? (i := 16) rfl))))
theorem mw_h7_137 : Cond.instanceMethod yX2_nameOfMethod ∈ VS_h7 := List.mem_append_right _ (List.mem_append_right _ (List.mem_append_right _ (List.mem_append_left _ (List.mem_of_getElem? (i := 17) rfl))))
theorem mw_h7_138 : Cond.selects RX2 yX2_nameOfMethod yX2_nameOfMethod ∈ VS_h7 := List.mem_append_right _ (List.mem_append_right _ (List.mem_append_right _ (List.mem_append_left _ (List.mem_of_getElem? (i := 18) rfl))))
theorem mw_h7_139 : Cond.code yX2_methodOf cX2_methodOf 6 (some .int) ∈ VS_h7 := List.mem_append_right _ (List.mem_append_right _ (List.mem_append_right _ (List.mem_append_left _ (List.mem_of_getElem? (i := 19) rfl))))
theorem mw_h7_140 : Cond.methodLink RX2 221 yX2_methodOf ∈ VS_h7 := List.mem_append_right _ (List.mem_append_right _ (List.mem_append_right _ (List.mem_append_left _ (List.mem_of_getElem? (i := 20) rfl))))
theorem mw_h7_141 : Cond.instanceMethod yX2_methodOf ∈ VS_h7 := List.mem_append_right _ (List.mem_append_right _ (List.mem_append_right _ (List.mem_append_left _ (List.mem_of_getElem? (i := 21) rfl))))
theorem mw_h7_142 : Cond.selects RX2 yX2_methodOf yX2_methodOf ∈ VS_h7 := List.mem_append_right _ (List.mem_append_right _ (List.mem_append_right _ (List.mem_append_left _ (List.mem_of_getElem? (i := 22) rfl))))
theorem mw_h7_143 : Cond.code yX2_parameterType cX2_parameterType 3 (some .int) ∈ VS_h7 := List.mem_append_right _ (List.mem_append_right _ (List.mem_append_right _ (List.mem_append_left _ (List.mem_of_getElem? (i := 23) rfl))))
theorem mw_h7_144 : Cond.methodLink RX2 157 yX2_parameterType ∈ VS_h7 := List.mem_append_right _ (List.mem_append_right _ (List.mem_append_right _ (List.mem_append_left _ (List.mem_of_getElem? (i := 24) rfl))))
theorem mw_h7_145 : Cond.instanceMethod yX2_parameterType ∈ VS_h7 := List.mem_append_right _ (List.mem_append_right _ (List.mem_append_right _ (List.mem_append_left _ (List.mem_of_getElem? (i := 25) rfl))))
theorem mw_h7_146 : Cond.selects RX2 yX2_parameterType yX2_parameterType ∈ VS_h7 := List.mem_append_right _ (List.mem_append_right _ (List.mem_append_right _ (List.mem_append_left _ (List.mem_of_getElem? (i := 26) rfl))))
theorem mw_h7_147 : Cond.fieldLink RX2 14 "ClassMill$Heads" "kin" "LClassMill$Kin;" ∈ VS_h7 := List.mem_append_right _ (List.mem_append_right _ (List.mem_append_right _ (List.mem_append_left _ (List.mem_of_getElem? (i := 27) rfl))))
theorem mw_h7_148 : Cond.code yX3_nextUpTo cX3_nextUpTo 4 (some .int) ∈ VS_h7 := List.mem_append_right _ (List.mem_append_right _ (List.mem_append_right _ (List.mem_append_left _ (List.mem_of_getElem? (i := 28) rfl))))
theorem mw_h7_149 : Cond.methodLink RX3 71 yX3_nextUpTo ∈ VS_h7 := List.mem_append_right _ (List.mem_append_right _ (List.mem_append_right _ (List.mem_append_left _ (List.mem_of_getElem? (i := 29) rfl))))
theorem mw_h7_150 : Cond.instanceMethod yX3_nextUpTo ∈ VS_h7 := List.mem_append_right _ (List.mem_append_right _ (List.mem_append_right _ (List.mem_append_left _ (List.mem_of_getElem? (i := 30) rfl))))
theorem mw_h7_151 : Cond.selects RX3 yX3_nextUpTo yX3_nextUpTo ∈ VS_h7 := List.mem_append_right _ (List.mem_append_right _ (List.mem_append_right _ (List.mem_append_left _ (List.mem_of_getElem? (i := 31) rfl))))
theorem mw_h7_152 : Cond.initialized RX3 ∈ VS_h7 := List.mem_append_right _ (List.mem_append_right _ (List.mem_append_right _ (List.mem_append_left _ (List.mem_of_getElem? (i := 32) rfl))))
theorem mw_h7_153 : Cond.code yX3_next cX3_next 1 (some .int) ∈ VS_h7 := List.mem_append_right _ (List.mem_append_right _ (List.mem_append_right _ (List.mem_append_left _ (List.mem_of_getElem? (i := 33) rfl))))
theorem mw_h7_154 : Cond.methodLink RX3 87 yX3_next ∈ VS_h7 := List.mem_append_right _ (List.mem_append_right _ (List.mem_append_right _ (List.mem_append_left _ (List.mem_of_getElem? (i := 34) rfl))))
theorem mw_h7_155 : Cond.instanceMethod yX3_next ∈ VS_h7 := List.mem_append_right _ (List.mem_append_right _ (List.mem_append_right _ (List.mem_append_left _ (List.mem_of_getElem? (i := 35) rfl))))
theorem mw_h7_156 : Cond.selects RX3 yX3_next yX3_next ∈ VS_h7 := List.mem_append_right _ (List.mem_append_right _ (List.mem_append_right _ (List.mem_append_left _ (List.mem_of_getElem? (i := 36) rfl))))
theorem mw_h7_157 : Cond.fieldLink RX3 46 "ClassMill$Image" "form" "I" ∈ VS_h7 := List.mem_append_right _ (List.mem_append_right _ (List.mem_append_right _ (List.mem_append_left _ (List.mem_of_getElem? (i := 37) rfl))))
theorem mw_h7_158 : Cond.fieldLink RX3 15 "ClassMill$Image" "tags" "[I" ∈ VS_h7 := List.mem_append_right _ (List.mem_append_right _ (List.mem_append_right _ (List.mem_append_left _ (List.mem_of_getElem? (i := 38) rfl))))
theorem mw_h7_159 : Cond.fieldLink RX3 19 "ClassMill$Image" "at" "[I" ∈ VS_h7 := List.mem_append_right _ (List.mem_append_right _ (List.mem_append_right _ (List.mem_append_left _ (List.mem_of_getElem? (i := 39) rfl))))
theorem mw_h7_160 : Cond.fieldLink RX3 43 "ClassMill$Image" "pos" "I" ∈ VS_h7 := List.mem_append_right _ (List.mem_append_right _ (List.mem_append_right _ (List.mem_append_right _ (List.mem_append_left _ (List.mem_of_getElem? (i := 0) rfl)))))
theorem mw_h7_161 : Cond.fieldLink RX3 22 "ClassMill$Image" "textStop" "[I" ∈ VS_h7 := List.mem_append_right _ (List.mem_append_right _ (List.mem_append_right _ (List.mem_append_right _ (List.mem_append_left _ (List.mem_of_getElem? (i := 1) rfl)))))
theorem mw_h7_162 : Cond.code yX3_partOf cX3_partOf 3 (some .int) ∈ VS_h7 := List.mem_append_right _ (List.mem_append_right _ (List.mem_append_right _ (List.mem_append_right _ (List.mem_append_left _ (List.mem_of_getElem? (i := 2) rfl)))))
theorem mw_h7_163 : Cond.methodLink RX3 99 yX3_partOf ∈ VS_h7 := List.mem_append_right _ (List.mem_append_right _ (List.mem_append_right _ (List.mem_append_right _ (List.mem_append_left _ (List.mem_of_getElem? (i := 3) rfl)))))
theorem mw_h7_164 : Cond.instanceMethod yX3_partOf ∈ VS_h7 := List.mem_append_right _ (List.mem_append_right _ (List.mem_append_right _ (List.mem_append_right _ (List.mem_append_left _ (List.mem_of_getElem? (i := 4) rfl)))))
theorem mw_h7_165 : Cond.selects RX3 yX3_partOf yX3_partOf ∈ VS_h7 := List.mem_append_right _ (List.mem_append_right _ (List.mem_append_right _ (List.mem_append_right _ (List.mem_append_left _ (List.mem_of_getElem? (i := 5) rfl)))))
theorem mw_h7_166 : Cond.methodLink RX3 134 yJ0_length_8abf5 ∈ VS_h7 := List.mem_append_right _ (List.mem_append_right _ (List.mem_append_right _ (List.mem_append_right _ (List.mem_append_left _ (List.mem_of_getElem? (i := 6) rfl)))))
theorem mw_h7_167 : Cond.instanceMethod yJ0_length_8abf5 ∈ VS_h7 := List.mem_append_right _ (List.mem_append_right _ (List.mem_append_right _ (List.mem_append_right _ (List.mem_append_left _ (List.mem_of_getElem? (i := 7) rfl)))))
theorem mw_h7_168 : Cond.selects RJ0 yJ0_length_8abf5 yJ0_length_8abf5 ∈ VS_h7 := List.mem_append_right _ (List.mem_append_right _ (List.mem_append_right _ (List.mem_append_right _ (List.mem_append_left _ (List.mem_of_getElem? (i := 8) rfl)))))
theorem mw_h7_169 : Cond.initialized RJ0 ∈ VS_h7 := List.mem_append_right _ (List.mem_append_right _ (List.mem_append_right _ (List.mem_append_right _ (List.mem_append_left _ (List.mem_of_getElem? (i := 9) rfl)))))
theorem mw_h7_170 : Cond.methodLink RX3 139 yJ0_charAt_5068e ∈ VS_h7 := List.mem_append_right _ (List.mem_append_right _ (List.mem_append_right _ (List.mem_append_right _ (List.mem_append_left _ (List.mem_of_getElem? (i := 10) rfl)))))
theorem mw_h7_171 : Cond.instanceMethod yJ0_charAt_5068e ∈ VS_h7 := List.mem_append_right _ (List.mem_append_right _ (List.mem_append_right _ (List.mem_append_right _ (List.mem_append_left _ (List.mem_of_getElem? (i := 11) rfl)))))
theorem mw_h7_172 : Cond.selects RJ0 yJ0_charAt_5068e yJ0_charAt_5068e ∈ VS_h7 := List.mem_append_right _ (List.mem_append_right _ (List.mem_append_right _ (List.mem_append_right _ (List.mem_append_left _ (List.mem_of_getElem? (i := 12) rfl)))))
theorem mw_h7_173 : Cond.fieldLink RX3 39 "ClassMill$Image" "size" "I" ∈ VS_h7 := List.mem_append_right _ (List.mem_append_right _ (List.mem_append_right _ (List.mem_append_right _ (List.mem_append_left _ (List.mem_of_getElem? (i := 13) rfl)))))
theorem mw_h7_174 : Cond.fieldLink RX3 9 "ClassMill$Image" "bytes" "[B" ∈ VS_h7 := List.mem_append_right _ (List.mem_append_right _ (List.mem_append_right _ (List.mem_append_right _ (List.mem_append_left _ (List.mem_of_getElem? (i := 14) rfl)))))
theorem mw_h7_175 : Cond.code yX3_tagOf cX3_tagOf 2 (some .int) ∈ VS_h7 := List.mem_append_right _ (List.mem_append_right _ (List.mem_append_right _ (List.mem_append_right _ (List.mem_append_left _ (List.mem_of_getElem? (i := 15) rfl)))))
theorem mw_h7_176 : Cond.methodLink RX3 112 yX3_tagOf ∈ VS_h7 := List.mem_append_right _ (List.mem_append_right _ (List.mem_append_right _ (List.mem_append_right _ (List.mem_append_left _ (List.mem_of_getElem? (i := 16) rfl)))))
theorem mw_h7_177 : Cond.instanceMethod yX3_tagOf ∈ VS_h7 := List.mem_append_right _ (List.mem_append_right _ (List.mem_append_right _ (List.mem_append_right _ (List.mem_append_left _ (List.mem_of_getElem? (i := 17) rfl)))))
theorem mw_h7_178 : Cond.selects RX3 yX3_tagOf yX3_tagOf ∈ VS_h7 := List.mem_append_right _ (List.mem_append_right _ (List.mem_append_right _ (List.mem_append_right _ (List.mem_append_left _ (List.mem_of_getElem? (i := 18) rfl)))))
theorem mw_h7_179 : Cond.code yX9_isName cX9_isName 7 (some .boolean) ∈ VS_h7 := List.mem_append_right _ (List.mem_append_right _ (List.mem_append_right _ (List.mem_append_right _ (List.mem_append_left _ (List.mem_of_getElem? (i := 19) rfl)))))
theorem mw_h7_180 : Cond.methodLink RX3 143 yX9_isName ∈ VS_h7 := List.mem_append_right _ (List.mem_append_right _ (List.mem_append_right _ (List.mem_append_right _ (List.mem_append_left _ (List.mem_of_getElem? (i := 20) rfl)))))
theorem mw_h7_181 : Cond.static yX9_isName ∈ VS_h7 := List.mem_append_right _ (List.mem_append_right _ (List.mem_append_right _ (List.mem_append_right _ (List.mem_append_left _ (List.mem_of_getElem? (i := 21) rfl)))))
theorem mw_h7_182 : Cond.code yX3_byteAt cX3_byteAt 2 (some .int) ∈ VS_h7 := List.mem_append_right _ (List.mem_append_right _ (List.mem_append_right _ (List.mem_append_right _ (List.mem_append_left _ (List.mem_of_getElem? (i := 22) rfl)))))
theorem mw_h7_183 : Cond.methodLink RX3 119 yX3_byteAt ∈ VS_h7 := List.mem_append_right _ (List.mem_append_right _ (List.mem_append_right _ (List.mem_append_right _ (List.mem_append_left _ (List.mem_of_getElem? (i := 23) rfl)))))
theorem mw_h7_184 : Cond.instanceMethod yX3_byteAt ∈ VS_h7 := List.mem_append_right _ (List.mem_append_right _ (List.mem_append_right _ (List.mem_append_right _ (List.mem_append_left _ (List.mem_of_getElem? (i := 24) rfl)))))
theorem mw_h7_185 : Cond.selects RX3 yX3_byteAt yX3_byteAt ∈ VS_h7 := List.mem_append_right _ (List.mem_append_right _ (List.mem_append_right _ (List.mem_append_right _ (List.mem_append_left _ (List.mem_of_getElem? (i := 25) rfl)))))
theorem mw_h7_186 : Cond.code yX3_behindKind cX3_behindKind 6 (some .int) ∈ VS_h7 := List.mem_append_right _ (List.mem_append_right _ (List.mem_append_right _ (List.mem_append_right _ (List.mem_append_left _ (List.mem_of_getElem? (i := 26) rfl)))))
theorem mw_h7_187 : Cond.methodLink RX3 149 yX3_behindKind ∈ VS_h7 := List.mem_append_right _ (List.mem_append_right _ (List.mem_append_right _ (List.mem_append_right _ (List.mem_append_left _ (List.mem_of_getElem? (i := 27) rfl)))))
theorem mw_h7_188 : Cond.instanceMethod yX3_behindKind ∈ VS_h7 := List.mem_append_right _ (List.mem_append_right _ (List.mem_append_right _ (List.mem_append_right _ (List.mem_append_left _ (List.mem_of_getElem? (i := 28) rfl)))))
theorem mw_h7_189 : Cond.selects RX3 yX3_behindKind yX3_behindKind ∈ VS_h7 := List.mem_append_right _ (List.mem_append_right _ (List.mem_append_right _ (List.mem_append_right _ (List.mem_append_left _ (List.mem_of_getElem? (i := 29) rfl)))))
theorem mw_h7_190 : Cond.code yX3_isNameText cX3_isNameText 2 (some .boolean) ∈ VS_h7 := List.mem_append_right _ (List.mem_append_right _ (List.mem_append_right _ (List.mem_append_right _ (List.mem_append_left _ (List.mem_of_getElem? (i := 30) rfl)))))
theorem mw_h7_191 : Cond.methodLink RX3 102 yX3_isNameText ∈ VS_h7 := List.mem_append_right _ (List.mem_append_right _ (List.mem_append_right _ (List.mem_append_right _ (List.mem_append_left _ (List.mem_of_getElem? (i := 31) rfl)))))
theorem mw_h7_192 : Cond.instanceMethod yX3_isNameText ∈ VS_h7 := List.mem_append_right _ (List.mem_append_right _ (List.mem_append_right _ (List.mem_append_right _ (List.mem_append_left _ (List.mem_of_getElem? (i := 32) rfl)))))
theorem mw_h7_193 : Cond.selects RX3 yX3_isNameText yX3_isNameText ∈ VS_h7 := List.mem_append_right _ (List.mem_append_right _ (List.mem_append_right _ (List.mem_append_right _ (List.mem_append_left _ (List.mem_of_getElem? (i := 33) rfl)))))
theorem mw_h7_194 : Cond.code yX3_bad cX3_bad 2 none ∈ VS_h7 := List.mem_append_right _ (List.mem_append_right _ (List.mem_append_right _ (List.mem_append_right _ (List.mem_append_left _ (List.mem_of_getElem? (i := 34) rfl)))))
theorem mw_h7_195 : Cond.methodLink RX3 78 yX3_bad ∈ VS_h7 := List.mem_append_right _ (List.mem_append_right _ (List.mem_append_right _ (List.mem_append_right _ (List.mem_append_left _ (List.mem_of_getElem? (i := 35) rfl)))))
theorem mw_h7_196 : Cond.instanceMethod yX3_bad ∈ VS_h7 := List.mem_append_right _ (List.mem_append_right _ (List.mem_append_right _ (List.mem_append_right _ (List.mem_append_left _ (List.mem_of_getElem? (i := 36) rfl)))))
theorem mw_h7_197 : Cond.selects RX3 yX3_bad yX3_bad ∈ VS_h7 := List.mem_append_right _ (List.mem_append_right _ (List.mem_append_right _ (List.mem_append_right _ (List.mem_append_left _ (List.mem_of_getElem? (i := 37) rfl)))))
theorem mw_h7_198 : Cond.code yX3_nextName cX3_nextName 2 (some .int) ∈ VS_h7 := List.mem_append_right _ (List.mem_append_right _ (List.mem_append_right _ (List.mem_append_right _ (List.mem_append_left _ (List.mem_of_getElem? (i := 38) rfl)))))
theorem mw_h7_199 : Cond.methodLink RX3 152 yX3_nextName ∈ VS_h7 := List.mem_append_right _ (List.mem_append_right _ (List.mem_append_right _ (List.mem_append_right _ (List.mem_append_left _ (List.mem_of_getElem? (i := 39) rfl)))))
theorem mw_h7_200 : Cond.instanceMethod yX3_nextName ∈ VS_h7 := List.mem_append_right _ (List.mem_append_right _ (List.mem_append_right _ (List.mem_append_right _ (List.mem_append_right _ (List.mem_append_left _ (List.mem_of_getElem? (i := 0) rfl))))))
theorem mw_h7_201 : Cond.selects RX3 yX3_nextName yX3_nextName ∈ VS_h7 := List.mem_append_right _ (List.mem_append_right _ (List.mem_append_right _ (List.mem_append_right _ (List.mem_append_right _ (List.mem_append_left _ (List.mem_of_getElem? (i := 1) rfl))))))
theorem mw_h7_202 : Cond.code yX3_parametersIn cX3_parametersIn 6 (some .int) ∈ VS_h7 := List.mem_append_right _ (List.mem_append_right _ (List.mem_append_right _ (List.mem_append_right _ (List.mem_append_right _ (List.mem_append_left _ (List.mem_of_getElem? (i := 2) rfl))))))
theorem mw_h7_203 : Cond.methodLink RX3 116 yX3_parametersIn ∈ VS_h7 := List.mem_append_right _ (List.mem_append_right _ (List.mem_append_right _ (List.mem_append_right _ (List.mem_append_right _ (List.mem_append_left _ (List.mem_of_getElem? (i := 3) rfl))))))
theorem mw_h7_204 : Cond.instanceMethod yX3_parametersIn ∈ VS_h7 := List.mem_append_right _ (List.mem_append_right _ (List.mem_append_right _ (List.mem_append_right _ (List.mem_append_right _ (List.mem_append_left _ (List.mem_of_getElem? (i := 4) rfl))))))
theorem mw_h7_205 : Cond.selects RX3 yX3_parametersIn yX3_parametersIn ∈ VS_h7 := List.mem_append_right _ (List.mem_append_right _ (List.mem_append_right _ (List.mem_append_right _ (List.mem_append_right _ (List.mem_append_left _ (List.mem_of_getElem? (i := 5) rfl))))))
theorem mw_h7_206 : Cond.code yX3_readCode cX3_readCode 5 none ∈ VS_h7 := List.mem_append_right _ (List.mem_append_right _ (List.mem_append_right _ (List.mem_append_right _ (List.mem_append_right _ (List.mem_append_left _ (List.mem_of_getElem? (i := 6) rfl))))))
theorem mw_h7_207 : Cond.methodLink RX3 155 yX3_readCode ∈ VS_h7 := List.mem_append_right _ (List.mem_append_right _ (List.mem_append_right _ (List.mem_append_right _ (List.mem_append_right _ (List.mem_append_left _ (List.mem_of_getElem? (i := 7) rfl))))))
theorem mw_h7_208 : Cond.instanceMethod yX3_readCode ∈ VS_h7 := List.mem_append_right _ (List.mem_append_right _ (List.mem_append_right _ (List.mem_append_right _ (List.mem_append_right _ (List.mem_append_left _ (List.mem_of_getElem? (i := 8) rfl))))))
theorem mw_h7_209 : Cond.selects RX3 yX3_readCode yX3_readCode ∈ VS_h7 := List.mem_append_right _ (List.mem_append_right _ (List.mem_append_right _ (List.mem_append_right _ (List.mem_append_right _ (List.mem_append_left _ (List.mem_of_getElem? (i := 9) rfl))))))
theorem mw_h7_210 : Cond.code yX3_readHandlers cX3_readHandlers 4 none ∈ VS_h7 := List.mem_append_right _ (List.mem_append_right _ (List.mem_append_right _ (List.mem_append_right _ (List.mem_append_right _ (List.mem_append_left _ (List.mem_of_getElem? (i := 10) rfl))))))
theorem mw_h7_211 : Cond.methodLink RX3 158 yX3_readHandlers ∈ VS_h7 := List.mem_append_right _ (List.mem_append_right _ (List.mem_append_right _ (List.mem_append_right _ (List.mem_append_right _ (List.mem_append_left _ (List.mem_of_getElem? (i := 11) rfl))))))
theorem mw_h7_212 : Cond.instanceMethod yX3_readHandlers ∈ VS_h7 := List.mem_append_right _ (List.mem_append_right _ (List.mem_append_right _ (List.mem_append_right _ (List.mem_append_right _ (List.mem_append_left _ (List.mem_of_getElem? (i := 12) rfl))))))
theorem mw_h7_213 : Cond.selects RX3 yX3_readHandlers yX3_readHandlers ∈ VS_h7 := List.mem_append_right _ (List.mem_append_right _ (List.mem_append_right _ (List.mem_append_right _ (List.mem_append_right _ (List.mem_append_left _ (List.mem_of_getElem? (i := 13) rfl))))))
theorem mw_h7_214 : Cond.code yX3_readFrames cX3_readFrames 4 none ∈ VS_h7 := List.mem_append_right _ (List.mem_append_right _ (List.mem_append_right _ (List.mem_append_right _ (List.mem_append_right _ (List.mem_append_left _ (List.mem_of_getElem? (i := 14) rfl))))))
theorem mw_h7_215 : Cond.methodLink RX3 161 yX3_readFrames ∈ VS_h7 := List.mem_append_right _ (List.mem_append_right _ (List.mem_append_right _ (List.mem_append_right _ (List.mem_append_right _ (List.mem_append_left _ (List.mem_of_getElem? (i := 15) rfl))))))
theorem mw_h7_216 : Cond.instanceMethod yX3_readFrames ∈ VS_h7 := List.mem_append_right _ (List.mem_append_right _ (List.mem_append_right _ (List.mem_append_right _ (List.mem_append_right _ (List.mem_append_left _ (List.mem_of_getElem? (i := 16) rfl))))))
theorem mw_h7_217 : Cond.selects RX3 yX3_readFrames yX3_readFrames ∈ VS_h7 := List.mem_append_right _ (List.mem_append_right _ (List.mem_append_right _ (List.mem_append_right _ (List.mem_append_right _ (List.mem_append_left _ (List.mem_of_getElem? (i := 17) rfl))))))
theorem mw_h7_218 : Cond.fieldLink RX3 30 "ClassMill$Image" "method" "[I" ∈ VS_h7 := List.mem_append_right _ (List.mem_append_right _ (List.mem_append_right _ (List.mem_append_right _ (List.mem_append_right _ (List.mem_append_left _ (List.mem_of_getElem? (i := 18) rfl))))))
theorem mw_h7_219 : Cond.methodLink RX4 22 yJ7_fill_53178 ∈ VS_h7 := List.mem_append_right _ (List.mem_append_right _ (List.mem_append_right _ (List.mem_append_right _ (List.mem_append_right _ (List.mem_append_left _ (List.mem_of_getElem? (i := 19) rfl))))))
theorem mw_h7_220 : Cond.code yX4_settle cX4_settle 4 none ∈ VS_h7 := List.mem_append_right _ (List.mem_append_right _ (List.mem_append_right _ (List.mem_append_right _ (List.mem_append_right _ (List.mem_append_left _ (List.mem_of_getElem? (i := 20) rfl))))))
theorem mw_h7_221 : Cond.methodLink RX4 28 yX4_settle ∈ VS_h7 := List.mem_append_right _ (List.mem_append_right _ (List.mem_append_right _ (List.mem_append_right _ (List.mem_append_right _ (List.mem_append_left _ (List.mem_of_getElem? (i := 21) rfl))))))
theorem mw_h7_222 : Cond.instanceMethod yX4_settle ∈ VS_h7 := List.mem_append_right _ (List.mem_append_right _ (List.mem_append_right _ (List.mem_append_right _ (List.mem_append_right _ (List.mem_append_left _ (List.mem_of_getElem? (i := 22) rfl))))))
theorem mw_h7_223 : Cond.selects RX4 yX4_settle yX4_settle ∈ VS_h7 := List.mem_append_right _ (List.mem_append_right _ (List.mem_append_right _ (List.mem_append_right _ (List.mem_append_right _ (List.mem_append_left _ (List.mem_of_getElem? (i := 23) rfl))))))
theorem mw_h7_224 : Cond.fieldLink RX4 11 "ClassMill$Kin" "above" "[I" ∈ VS_h7 := List.mem_append_right _ (List.mem_append_right _ (List.mem_append_right _ (List.mem_append_right _ (List.mem_append_right _ (List.mem_append_left _ (List.mem_of_getElem? (i := 24) rfl))))))
theorem mw_h7_225 : Cond.code yX5_forget cX5_forget 1 none ∈ VS_h7 := List.mem_append_right _ (List.mem_append_right _ (List.mem_append_right _ (List.mem_append_right _ (List.mem_append_right _ (List.mem_append_left _ (List.mem_of_getElem? (i := 25) rfl))))))
theorem mw_h7_226 : Cond.methodLink RX5 72 yX5_forget ∈ VS_h7 := List.mem_append_right _ (List.mem_append_right _ (List.mem_append_right _ (List.mem_append_right _ (List.mem_append_right _ (List.mem_append_left _ (List.mem_of_getElem? (i := 26) rfl))))))
theorem mw_h7_227 : Cond.instanceMethod yX5_forget ∈ VS_h7 := List.mem_append_right _ (List.mem_append_right _ (List.mem_append_right _ (List.mem_append_right _ (List.mem_append_right _ (List.mem_append_left _ (List.mem_of_getElem? (i := 27) rfl))))))
theorem mw_h7_228 : Cond.selects RX5 yX5_forget yX5_forget ∈ VS_h7 := List.mem_append_right _ (List.mem_append_right _ (List.mem_append_right _ (List.mem_append_right _ (List.mem_append_right _ (List.mem_append_left _ (List.mem_of_getElem? (i := 28) rfl))))))
theorem mw_h7_229 : Cond.initialized RX5 ∈ VS_h7 := List.mem_append_right _ (List.mem_append_right _ (List.mem_append_right _ (List.mem_append_right _ (List.mem_append_right _ (List.mem_append_left _ (List.mem_of_getElem? (i := 29) rfl))))))
theorem mw_h7_230 : Cond.code yJ7_fill_fda19 cJ7_fill_fda19 5 none ∈ VS_h7 := List.mem_append_right _ (List.mem_append_right _ (List.mem_append_right _ (List.mem_append_right _ (List.mem_append_right _ (List.mem_append_left _ (List.mem_of_getElem? (i := 30) rfl))))))
theorem mw_h7_231 : Cond.methodLink RX5 100 yJ7_fill_fda19 ∈ VS_h7 := List.mem_append_right _ (List.mem_append_right _ (List.mem_append_right _ (List.mem_append_right _ (List.mem_append_right _ (List.mem_append_left _ (List.mem_of_getElem? (i := 31) rfl))))))
theorem mw_h7_232 : Cond.static yJ7_fill_fda19 ∈ VS_h7 := List.mem_append_right _ (List.mem_append_right _ (List.mem_append_right _ (List.mem_append_right _ (List.mem_append_right _ (List.mem_append_left _ (List.mem_of_getElem? (i := 32) rfl))))))
theorem mw_h7_233 : Cond.methodLink RX5 141 yX3_byteAt ∈ VS_h7 := List.mem_append_right _ (List.mem_append_right _ (List.mem_append_right _ (List.mem_append_right _ (List.mem_append_right _ (List.mem_append_left _ (List.mem_of_getElem? (i := 33) rfl))))))
theorem mw_h7_234 : Cond.code yX5_goOn cX5_goOn 2 none ∈ VS_h7 := List.mem_append_right _ (List.mem_append_right _ (List.mem_append_right _ (List.mem_append_right _ (List.mem_append_right _ (List.mem_append_left _ (List.mem_of_getElem? (i := 34) rfl))))))
theorem mw_h7_235 : Cond.methodLink RX5 138 yX5_goOn ∈ VS_h7 := List.mem_append_right _ (List.mem_append_right _ (List.mem_append_right _ (List.mem_append_right _ (List.mem_append_right _ (List.mem_append_left _ (List.mem_of_getElem? (i := 35) rfl))))))
theorem mw_h7_236 : Cond.instanceMethod yX5_goOn ∈ VS_h7 := List.mem_append_right _ (List.mem_append_right _ (List.mem_append_right _ (List.mem_append_right _ (List.mem_append_right _ (List.mem_append_left _ (List.mem_of_getElem? (i := 36) rfl))))))
theorem mw_h7_237 : Cond.selects RX5 yX5_goOn yX5_goOn ∈ VS_h7 := List.mem_append_right _ (List.mem_append_right _ (List.mem_append_right _ (List.mem_append_right _ (List.mem_append_right _ (List.mem_append_left _ (List.mem_of_getElem? (i := 37) rfl))))))
theorem mw_h7_238 : Cond.code yX5_give cX5_give 3 none ∈ VS_h7 := List.mem_append_right _ (List.mem_append_right _ (List.mem_append_right _ (List.mem_append_right _ (List.mem_append_right _ (List.mem_append_left _ (List.mem_of_getElem? (i := 38) rfl))))))
theorem mw_h7_239 : Cond.methodLink RX5 145 yX5_give ∈ VS_h7 := List.mem_append_right _ (List.mem_append_right _ (List.mem_append_right _ (List.mem_append_right _ (List.mem_append_right _ (List.mem_append_left _ (List.mem_of_getElem? (i := 39) rfl))))))
theorem mw_h7_240 : Cond.instanceMethod yX5_give ∈ VS_h7 := List.mem_append_right _ (List.mem_append_right _ (List.mem_append_right _ (List.mem_append_right _ (List.mem_append_right _ (List.mem_append_right _ (List.mem_append_left _ (List.mem_of_getElem? (i := 0) rfl)))))))
theorem mw_h7_241 : Cond.selects RX5 yX5_give yX5_give ∈ VS_h7 := List.mem_append_right _ (List.mem_append_right _ (List.mem_append_right _ (List.mem_append_right _ (List.mem_append_right _ (List.mem_append_right _ (List.mem_append_left _ (List.mem_of_getElem? (i := 1) rfl)))))))
theorem mw_h7_242 : Cond.code yX5_pop cX5_pop 2 (some .int) ∈ VS_h7 := List.mem_append_right _ (List.mem_append_right _ (List.mem_append_right _ (List.mem_append_right _ (List.mem_append_right _ (List.mem_append_right _ (List.mem_append_left _ (List.mem_of_getElem? (i := 2) rfl)))))))
theorem mw_h7_243 : Cond.methodLink RX5 154 yX5_pop ∈ VS_h7 := List.mem_append_right _ (List.mem_append_right _ (List.mem_append_right _ (List.mem_append_right _ (List.mem_append_right _ (List.mem_append_right _ (List.mem_append_left _ (List.mem_of_getElem? (i := 3) rfl)))))))
theorem mw_h7_244 : Cond.instanceMethod yX5_pop ∈ VS_h7 := List.mem_append_right _ (List.mem_append_right _ (List.mem_append_right _ (List.mem_append_right _ (List.mem_append_right _ (List.mem_append_right _ (List.mem_append_left _ (List.mem_of_getElem? (i := 4) rfl)))))))
theorem mw_h7_245 : Cond.selects RX5 yX5_pop yX5_pop ∈ VS_h7 := List.mem_append_right _ (List.mem_append_right _ (List.mem_append_right _ (List.mem_append_right _ (List.mem_append_right _ (List.mem_append_right _ (List.mem_append_left _ (List.mem_of_getElem? (i := 5) rfl)))))))
theorem mw_h7_246 : Cond.code yX5_stepElement cX5_stepElement 4 none ∈ VS_h7 := List.mem_append_right _ (List.mem_append_right _ (List.mem_append_right _ (List.mem_append_right _ (List.mem_append_right _ (List.mem_append_right _ (List.mem_append_left _ (List.mem_of_getElem? (i := 6) rfl)))))))
theorem mw_h7_247 : Cond.methodLink RX5 187 yX5_stepElement ∈ VS_h7 := List.mem_append_right _ (List.mem_append_right _ (List.mem_append_right _ (List.mem_append_right _ (List.mem_append_right _ (List.mem_append_right _ (List.mem_append_left _ (List.mem_of_getElem? (i := 7) rfl)))))))
theorem mw_h7_248 : Cond.instanceMethod yX5_stepElement ∈ VS_h7 := List.mem_append_right _ (List.mem_append_right _ (List.mem_append_right _ (List.mem_append_right _ (List.mem_append_right _ (List.mem_append_right _ (List.mem_append_left _ (List.mem_of_getElem? (i := 8) rfl)))))))
theorem mw_h7_249 : Cond.selects RX5 yX5_stepElement yX5_stepElement ∈ VS_h7 := List.mem_append_right _ (List.mem_append_right _ (List.mem_append_right _ (List.mem_append_right _ (List.mem_append_right _ (List.mem_append_right _ (List.mem_append_left _ (List.mem_of_getElem? (i := 9) rfl)))))))
theorem mw_h7_250 : Cond.code yX5_stepGiveElement cX5_stepGiveElement 6 none ∈ VS_h7 := List.mem_append_right _ (List.mem_append_right _ (List.mem_append_right _ (List.mem_append_right _ (List.mem_append_right _ (List.mem_append_right _ (List.mem_append_left _ (List.mem_of_getElem? (i := 10) rfl)))))))
theorem mw_h7_251 : Cond.methodLink RX5 190 yX5_stepGiveElement ∈ VS_h7 := List.mem_append_right _ (List.mem_append_right _ (List.mem_append_right _ (List.mem_append_right _ (List.mem_append_right _ (List.mem_append_right _ (List.mem_append_left _ (List.mem_of_getElem? (i := 11) rfl)))))))
theorem mw_h7_252 : Cond.instanceMethod yX5_stepGiveElement ∈ VS_h7 := List.mem_append_right _ (List.mem_append_right _ (List.mem_append_right _ (List.mem_append_right _ (List.mem_append_right _ (List.mem_append_right _ (List.mem_append_left _ (List.mem_of_getElem? (i := 12) rfl)))))))
theorem mw_h7_253 : Cond.selects RX5 yX5_stepGiveElement yX5_stepGiveElement ∈ VS_h7 := List.mem_append_right _ (List.mem_append_right _ (List.mem_append_right _ (List.mem_append_right _ (List.mem_append_right _ (List.mem_append_right _ (List.mem_append_left _ (List.mem_of_getElem? (i := 13) rfl)))))))
theorem mw_h7_254 : Cond.code yX5_isObject cX5_isObject 2 (some .boolean) ∈ VS_h7 := List.mem_append_right _ (List.mem_append_right _ (List.mem_append_right _ (List.mem_append_right _ (List.mem_append_right _ (List.mem_append_right _ (List.mem_append_left _ (List.mem_of_getElem? (i := 14) rfl)))))))
theorem mw_h7_255 : Cond.methodLink RX5 226 yX5_isObject ∈ VS_h7 := List.mem_append_right _ (List.mem_append_right _ (List.mem_append_right _ (List.mem_append_right _ (List.mem_append_right _ (List.mem_append_right _ (List.mem_append_left _ (List.mem_of_getElem? (i := 15) rfl)))))))
theorem mw_h7_256 : Cond.instanceMethod yX5_isObject ∈ VS_h7 := List.mem_append_right _ (List.mem_append_right _ (List.mem_append_right _ (List.mem_append_right _ (List.mem_append_right _ (List.mem_append_right _ (List.mem_append_left _ (List.mem_of_getElem? (i := 16) rfl)))))))
theorem mw_h7_257 : Cond.selects RX5 yX5_isObject yX5_isObject ∈ VS_h7 := List.mem_append_right _ (List.mem_append_right _ (List.mem_append_right _ (List.mem_append_right _ (List.mem_append_right _ (List.mem_append_right _ (List.mem_append_left _ (List.mem_of_getElem? (i := 17) rfl)))))))
theorem mw_h7_258 : Cond.fieldLink RX5 60 "ClassMill$Machine" "objects" "I" ∈ VS_h7 := List.mem_append_right _ (List.mem_append_right _ (List.mem_append_right _ (List.mem_append_right _ (List.mem_append_right _ (List.mem_append_right _ (List.mem_append_left _ (List.mem_of_getElem? (i := 18) rfl)))))))
theorem mw_h7_259 : Cond.fieldLink RX5 54 "ClassMill$Machine" "state" "I" ∈ VS_h7 := List.mem_append_right _ (List.mem_append_right _ (List.mem_append_right _ (List.mem_append_right _ (List.mem_append_right _ (List.mem_append_right _ (List.mem_append_left _ (List.mem_of_getElem? (i := 19) rfl)))))))
theorem mw_h7_260 : Cond.fieldLink RX5 63 "ClassMill$Machine" "cells" "I" ∈ VS_h7 := List.mem_append_right _ (List.mem_append_right _ (List.mem_append_right _ (List.mem_append_right _ (List.mem_append_right _ (List.mem_append_right _ (List.mem_append_left _ (List.mem_of_getElem? (i := 20) rfl)))))))
theorem mw_h7_261 : Cond.fieldLink RX5 17 "ClassMill$Machine" "objectType" "[I" ∈ VS_h7 := List.mem_append_right _ (List.mem_append_right _ (List.mem_append_right _ (List.mem_append_right _ (List.mem_append_right _ (List.mem_append_right _ (List.mem_append_left _ (List.mem_of_getElem? (i := 21) rfl)))))))
theorem mw_h7_262 : Cond.fieldLink RX5 20 "ClassMill$Machine" "objectAt" "[I" ∈ VS_h7 := List.mem_append_right _ (List.mem_append_right _ (List.mem_append_right _ (List.mem_append_right _ (List.mem_append_right _ (List.mem_append_right _ (List.mem_append_left _ (List.mem_of_getElem? (i := 22) rfl)))))))
theorem mw_h7_263 : Cond.fieldLink RX5 23 "ClassMill$Machine" "cell" "[I" ∈ VS_h7 := List.mem_append_right _ (List.mem_append_right _ (List.mem_append_right _ (List.mem_append_right _ (List.mem_append_right _ (List.mem_append_right _ (List.mem_append_left _ (List.mem_of_getElem? (i := 23) rfl)))))))
theorem mw_h7_264 : Cond.code yX5_make cX5_make 3 (some .int) ∈ VS_h7 := List.mem_append_right _ (List.mem_append_right _ (List.mem_append_right _ (List.mem_append_right _ (List.mem_append_right _ (List.mem_append_right _ (List.mem_append_left _ (List.mem_of_getElem? (i := 24) rfl)))))))
theorem mw_h7_265 : Cond.methodLink RX5 89 yX5_make ∈ VS_h7 := List.mem_append_right _ (List.mem_append_right _ (List.mem_append_right _ (List.mem_append_right _ (List.mem_append_right _ (List.mem_append_right _ (List.mem_append_left _ (List.mem_of_getElem? (i := 25) rfl)))))))
theorem mw_h7_266 : Cond.instanceMethod yX5_make ∈ VS_h7 := List.mem_append_right _ (List.mem_append_right _ (List.mem_append_right _ (List.mem_append_right _ (List.mem_append_right _ (List.mem_append_right _ (List.mem_append_left _ (List.mem_of_getElem? (i := 26) rfl)))))))
theorem mw_h7_267 : Cond.selects RX5 yX5_make yX5_make ∈ VS_h7 := List.mem_append_right _ (List.mem_append_right _ (List.mem_append_right _ (List.mem_append_right _ (List.mem_append_right _ (List.mem_append_right _ (List.mem_append_left _ (List.mem_of_getElem? (i := 27) rfl)))))))
theorem mw_h7_268 : Cond.code yX5_giveNew cX5_giveNew 4 none ∈ VS_h7 := List.mem_append_right _ (List.mem_append_right _ (List.mem_append_right _ (List.mem_append_right _ (List.mem_append_right _ (List.mem_append_right _ (List.mem_append_left _ (List.mem_of_getElem? (i := 28) rfl)))))))
theorem mw_h7_269 : Cond.methodLink RX5 211 yX5_giveNew ∈ VS_h7 := List.mem_append_right _ (List.mem_append_right _ (List.mem_append_right _ (List.mem_append_right _ (List.mem_append_right _ (List.mem_append_right _ (List.mem_append_left _ (List.mem_of_getElem? (i := 29) rfl)))))))
theorem mw_h7_270 : Cond.instanceMethod yX5_giveNew ∈ VS_h7 := List.mem_append_right _ (List.mem_append_right _ (List.mem_append_right _ (List.mem_append_right _ (List.mem_append_right _ (List.mem_append_right _ (List.mem_append_left _ (List.mem_of_getElem? (i := 30) rfl)))))))
theorem mw_h7_271 : Cond.selects RX5 yX5_giveNew yX5_giveNew ∈ VS_h7 := List.mem_append_right _ (List.mem_append_right _ (List.mem_append_right _ (List.mem_append_right _ (List.mem_append_right _ (List.mem_append_right _ (List.mem_append_left _ (List.mem_of_getElem? (i := 31) rfl)))))))
theorem mw_h7_272 : Cond.fieldLink RX5 86 "ClassMill$Machine" "thrown" "I" ∈ VS_h7 := List.mem_append_right _ (List.mem_append_right _ (List.mem_append_right _ (List.mem_append_right _ (List.mem_append_right _ (List.mem_append_right _ (List.mem_append_left _ (List.mem_of_getElem? (i := 32) rfl)))))))
theorem mw_h7_273 : Cond.code yX3_of cX3_of 4 (some .int) ∈ VS_h7 := List.mem_append_right _ (List.mem_append_right _ (List.mem_append_right _ (List.mem_append_right _ (List.mem_append_right _ (List.mem_append_right _ (List.mem_append_left _ (List.mem_of_getElem? (i := 33) rfl)))))))
theorem mw_h7_274 : Cond.methodLink RX5 126 yX3_of ∈ VS_h7 := List.mem_append_right _ (List.mem_append_right _ (List.mem_append_right _ (List.mem_append_right _ (List.mem_append_right _ (List.mem_append_right _ (List.mem_append_left _ (List.mem_of_getElem? (i := 34) rfl)))))))
theorem mw_h7_275 : Cond.instanceMethod yX3_of ∈ VS_h7 := List.mem_append_right _ (List.mem_append_right _ (List.mem_append_right _ (List.mem_append_right _ (List.mem_append_right _ (List.mem_append_right _ (List.mem_append_left _ (List.mem_of_getElem? (i := 35) rfl)))))))
theorem mw_h7_276 : Cond.selects RX3 yX3_of yX3_of ∈ VS_h7 := List.mem_append_right _ (List.mem_append_right _ (List.mem_append_right _ (List.mem_append_right _ (List.mem_append_right _ (List.mem_append_right _ (List.mem_append_left _ (List.mem_of_getElem? (i := 36) rfl)))))))
theorem mw_h7_277 : Cond.code yX3_pairAt cX3_pairAt 2 (some .int) ∈ VS_h7 := List.mem_append_right _ (List.mem_append_right _ (List.mem_append_right _ (List.mem_append_right _ (List.mem_append_right _ (List.mem_append_right _ (List.mem_append_left _ (List.mem_of_getElem? (i := 37) rfl)))))))
theorem mw_h7_278 : Cond.methodLink RX5 184 yX3_pairAt ∈ VS_h7 := List.mem_append_right _ (List.mem_append_right _ (List.mem_append_right _ (List.mem_append_right _ (List.mem_append_right _ (List.mem_append_right _ (List.mem_append_left _ (List.mem_of_getElem? (i := 38) rfl)))))))
theorem mw_h7_279 : Cond.instanceMethod yX3_pairAt ∈ VS_h7 := List.mem_append_right _ (List.mem_append_right _ (List.mem_append_right _ (List.mem_append_right _ (List.mem_append_right _ (List.mem_append_right _ (List.mem_append_left _ (List.mem_of_getElem? (i := 39) rfl)))))))
theorem mw_h7_280 : Cond.selects RX3 yX3_pairAt yX3_pairAt ∈ VS_h7 := List.mem_append_right _ (List.mem_append_right _ (List.mem_append_right _ (List.mem_append_right _ (List.mem_append_right _ (List.mem_append_right _ (List.mem_append_right _ (List.mem_append_left _ (List.mem_of_getElem? (i := 0) rfl))))))))
theorem mw_h7_281 : Cond.code yX6_bytesOf cX6_bytesOf 3 (some .int) ∈ VS_h7 := List.mem_append_right _ (List.mem_append_right _ (List.mem_append_right _ (List.mem_append_right _ (List.mem_append_right _ (List.mem_append_right _ (List.mem_append_right _ (List.mem_append_left _ (List.mem_of_getElem? (i := 1) rfl))))))))
theorem mw_h7_282 : Cond.methodLink RX6 90 yX6_bytesOf ∈ VS_h7 := List.mem_append_right _ (List.mem_append_right _ (List.mem_append_right _ (List.mem_append_right _ (List.mem_append_right _ (List.mem_append_right _ (List.mem_append_right _ (List.mem_append_left _ (List.mem_of_getElem? (i := 2) rfl))))))))
theorem mw_h7_283 : Cond.instanceMethod yX6_bytesOf ∈ VS_h7 := List.mem_append_right _ (List.mem_append_right _ (List.mem_append_right _ (List.mem_append_right _ (List.mem_append_right _ (List.mem_append_right _ (List.mem_append_right _ (List.mem_append_left _ (List.mem_of_getElem? (i := 3) rfl))))))))
theorem mw_h7_284 : Cond.selects RX6 yX6_bytesOf yX6_bytesOf ∈ VS_h7 := List.mem_append_right _ (List.mem_append_right _ (List.mem_append_right _ (List.mem_append_right _ (List.mem_append_right _ (List.mem_append_right _ (List.mem_append_right _ (List.mem_append_left _ (List.mem_of_getElem? (i := 4) rfl))))))))
theorem mw_h7_285 : Cond.code yX9_nameLength cX9_nameLength 2 (some .int) ∈ VS_h7 := List.mem_append_right _ (List.mem_append_right _ (List.mem_append_right _ (List.mem_append_right _ (List.mem_append_right _ (List.mem_append_right _ (List.mem_append_right _ (List.mem_append_left _ (List.mem_of_getElem? (i := 5) rfl))))))))
theorem mw_h7_286 : Cond.methodLink RX9 89 yX9_nameLength ∈ VS_h7 := List.mem_append_right _ (List.mem_append_right _ (List.mem_append_right _ (List.mem_append_right _ (List.mem_append_right _ (List.mem_append_right _ (List.mem_append_right _ (List.mem_append_left _ (List.mem_of_getElem? (i := 6) rfl))))))))
theorem mw_h7_287 : Cond.instanceMethod yX9_nameLength ∈ VS_h7 := List.mem_append_right _ (List.mem_append_right _ (List.mem_append_right _ (List.mem_append_right _ (List.mem_append_right _ (List.mem_append_right _ (List.mem_append_right _ (List.mem_append_left _ (List.mem_of_getElem? (i := 7) rfl))))))))
theorem mw_h7_288 : Cond.selects RX9 yX9_nameLength yX9_nameLength ∈ VS_h7 := List.mem_append_right _ (List.mem_append_right _ (List.mem_append_right _ (List.mem_append_right _ (List.mem_append_right _ (List.mem_append_right _ (List.mem_append_right _ (List.mem_append_left _ (List.mem_of_getElem? (i := 8) rfl))))))))
theorem mw_h7_289 : Cond.fieldLink RX9 25 "ClassMill$Text" "letters" "[B" ∈ VS_h7 := List.mem_append_right _ (List.mem_append_right _ (List.mem_append_right _ (List.mem_append_right _ (List.mem_append_right _ (List.mem_append_right _ (List.mem_append_right _ (List.mem_append_left _ (List.mem_of_getElem? (i := 9) rfl))))))))
theorem mw_h7_290 : Cond.fieldLink RX9 29 "ClassMill$Text" "nameAt" "[I" ∈ VS_h7 := List.mem_append_right _ (List.mem_append_right _ (List.mem_append_right _ (List.mem_append_right _ (List.mem_append_right _ (List.mem_append_right _ (List.mem_append_right _ (List.mem_append_left _ (List.mem_of_getElem? (i := 10) rfl))))))))
theorem mw_h7_291 : Cond.methodLink RX9 67 arraycopyName ∈ VS_h7 := List.mem_append_right _ (List.mem_append_right _ (List.mem_append_right _ (List.mem_append_right _ (List.mem_append_right _ (List.mem_append_right _ (List.mem_append_right _ (List.mem_append_left _ (List.mem_of_getElem? (i := 11) rfl))))))))
theorem mw_h7_292 : Cond.code yX9_behindBlanks cX9_behindBlanks 6 (some .int) ∈ VS_h7 := List.mem_append_right _ (List.mem_append_right _ (List.mem_append_right _ (List.mem_append_right _ (List.mem_append_right _ (List.mem_append_right _ (List.mem_append_right _ (List.mem_append_left _ (List.mem_of_getElem? (i := 12) rfl))))))))
theorem mw_h7_293 : Cond.methodLink RX9 93 yX9_behindBlanks ∈ VS_h7 := List.mem_append_right _ (List.mem_append_right _ (List.mem_append_right _ (List.mem_append_right _ (List.mem_append_right _ (List.mem_append_right _ (List.mem_append_right _ (List.mem_append_left _ (List.mem_of_getElem? (i := 13) rfl))))))))
theorem mw_h7_294 : Cond.static yX9_behindBlanks ∈ VS_h7 := List.mem_append_right _ (List.mem_append_right _ (List.mem_append_right _ (List.mem_append_right _ (List.mem_append_right _ (List.mem_append_right _ (List.mem_append_right _ (List.mem_append_left _ (List.mem_of_getElem? (i := 14) rfl))))))))
theorem mw_h7_295 : Cond.code yX9_addToken cX9_addToken 4 none ∈ VS_h7 := List.mem_append_right _ (List.mem_append_right _ (List.mem_append_right _ (List.mem_append_right _ (List.mem_append_right _ (List.mem_append_right _ (List.mem_append_right _ (List.mem_append_left _ (List.mem_of_getElem? (i := 15) rfl))))))))
theorem mw_h7_296 : Cond.methodLink RX9 99 yX9_addToken ∈ VS_h7 := List.mem_append_right _ (List.mem_append_right _ (List.mem_append_right _ (List.mem_append_right _ (List.mem_append_right _ (List.mem_append_right _ (List.mem_append_right _ (List.mem_append_left _ (List.mem_of_getElem? (i := 16) rfl))))))))
theorem mw_h7_297 : Cond.instanceMethod yX9_addToken ∈ VS_h7 := List.mem_append_right _ (List.mem_append_right _ (List.mem_append_right _ (List.mem_append_right _ (List.mem_append_right _ (List.mem_append_right _ (List.mem_append_right _ (List.mem_append_left _ (List.mem_of_getElem? (i := 17) rfl))))))))
theorem mw_h7_298 : Cond.selects RX9 yX9_addToken yX9_addToken ∈ VS_h7 := List.mem_append_right _ (List.mem_append_right _ (List.mem_append_right _ (List.mem_append_right _ (List.mem_append_right _ (List.mem_append_right _ (List.mem_append_right _ (List.mem_append_left _ (List.mem_of_getElem? (i := 18) rfl))))))))
theorem mw_h7_299 : Cond.code yX9_isLetter cX9_isLetter 1 (some .boolean) ∈ VS_h7 := List.mem_append_right _ (List.mem_append_right _ (List.mem_append_right _ (List.mem_append_right _ (List.mem_append_right _ (List.mem_append_right _ (List.mem_append_right _ (List.mem_append_left _ (List.mem_of_getElem? (i := 19) rfl))))))))
theorem mw_h7_300 : Cond.methodLink RX9 103 yX9_isLetter ∈ VS_h7 := List.mem_append_right _ (List.mem_append_right _ (List.mem_append_right _ (List.mem_append_right _ (List.mem_append_right _ (List.mem_append_right _ (List.mem_append_right _ (List.mem_append_left _ (List.mem_of_getElem? (i := 20) rfl))))))))
theorem mw_h7_301 : Cond.static yX9_isLetter ∈ VS_h7 := List.mem_append_right _ (List.mem_append_right _ (List.mem_append_right _ (List.mem_append_right _ (List.mem_append_right _ (List.mem_append_right _ (List.mem_append_right _ (List.mem_append_left _ (List.mem_of_getElem? (i := 21) rfl))))))))
theorem mw_h7_302 : Cond.code yX9_isDigit cX9_isDigit 1 (some .boolean) ∈ VS_h7 := List.mem_append_right _ (List.mem_append_right _ (List.mem_append_right _ (List.mem_append_right _ (List.mem_append_right _ (List.mem_append_right _ (List.mem_append_right _ (List.mem_append_left _ (List.mem_of_getElem? (i := 22) rfl))))))))
theorem mw_h7_303 : Cond.methodLink RX9 110 yX9_isDigit ∈ VS_h7 := List.mem_append_right _ (List.mem_append_right _ (List.mem_append_right _ (List.mem_append_right _ (List.mem_append_right _ (List.mem_append_right _ (List.mem_append_right _ (List.mem_append_left _ (List.mem_of_getElem? (i := 23) rfl))))))))
theorem mw_h7_304 : Cond.static yX9_isDigit ∈ VS_h7 := List.mem_append_right _ (List.mem_append_right _ (List.mem_append_right _ (List.mem_append_right _ (List.mem_append_right _ (List.mem_append_right _ (List.mem_append_right _ (List.mem_append_left _ (List.mem_of_getElem? (i := 24) rfl))))))))
theorem mw_h7_305 : Cond.code yX9_isNamePart cX9_isNamePart 1 (some .boolean) ∈ VS_h7 := List.mem_append_right _ (List.mem_append_right _ (List.mem_append_right _ (List.mem_append_right _ (List.mem_append_right _ (List.mem_append_right _ (List.mem_append_right _ (List.mem_append_left _ (List.mem_of_getElem? (i := 25) rfl))))))))
theorem mw_h7_306 : Cond.methodLink RX9 123 yX9_isNamePart ∈ VS_h7 := List.mem_append_right _ (List.mem_append_right _ (List.mem_append_right _ (List.mem_append_right _ (List.mem_append_right _ (List.mem_append_right _ (List.mem_append_right _ (List.mem_append_left _ (List.mem_of_getElem? (i := 26) rfl))))))))
theorem mw_h7_307 : Cond.static yX9_isNamePart ∈ VS_h7 := List.mem_append_right _ (List.mem_append_right _ (List.mem_append_right _ (List.mem_append_right _ (List.mem_append_right _ (List.mem_append_right _ (List.mem_append_right _ (List.mem_append_left _ (List.mem_of_getElem? (i := 27) rfl))))))))
theorem mw_h7_308 : Cond.code yX9_bucketOf cX9_bucketOf 3 (some .int) ∈ VS_h7 := List.mem_append_right _ (List.mem_append_right _ (List.mem_append_right _ (List.mem_append_right _ (List.mem_append_right _ (List.mem_append_right _ (List.mem_append_right _ (List.mem_append_left _ (List.mem_of_getElem? (i := 28) rfl))))))))
theorem mw_h7_309 : Cond.methodLink RX9 76 yX9_bucketOf ∈ VS_h7 := List.mem_append_right _ (List.mem_append_right _ (List.mem_append_right _ (List.mem_append_right _ (List.mem_append_right _ (List.mem_append_right _ (List.mem_append_right _ (List.mem_append_left _ (List.mem_of_getElem? (i := 29) rfl))))))))
theorem mw_h7_310 : Cond.static yX9_bucketOf ∈ VS_h7 := List.mem_append_right _ (List.mem_append_right _ (List.mem_append_right _ (List.mem_append_right _ (List.mem_append_right _ (List.mem_append_right _ (List.mem_append_right _ (List.mem_append_left _ (List.mem_of_getElem? (i := 30) rfl))))))))
theorem mw_h7_311 : Cond.code yX9_isNamed cX9_isNamed 7 (some .boolean) ∈ VS_h7 := List.mem_append_right _ (List.mem_append_right _ (List.mem_append_right _ (List.mem_append_right _ (List.mem_append_right _ (List.mem_append_right _ (List.mem_append_right _ (List.mem_append_left _ (List.mem_of_getElem? (i := 31) rfl))))))))
theorem mw_h7_312 : Cond.methodLink RX9 129 yX9_isNamed ∈ VS_h7 := List.mem_append_right _ (List.mem_append_right _ (List.mem_append_right _ (List.mem_append_right _ (List.mem_append_right _ (List.mem_append_right _ (List.mem_append_right _ (List.mem_append_left _ (List.mem_of_getElem? (i := 32) rfl))))))))
theorem mw_h7_313 : Cond.instanceMethod yX9_isNamed ∈ VS_h7 := List.mem_append_right _ (List.mem_append_right _ (List.mem_append_right _ (List.mem_append_right _ (List.mem_append_right _ (List.mem_append_right _ (List.mem_append_right _ (List.mem_append_left _ (List.mem_of_getElem? (i := 33) rfl))))))))
theorem mw_h7_314 : Cond.selects RX9 yX9_isNamed yX9_isNamed ∈ VS_h7 := List.mem_append_right _ (List.mem_append_right _ (List.mem_append_right _ (List.mem_append_right _ (List.mem_append_right _ (List.mem_append_right _ (List.mem_append_right _ (List.mem_append_left _ (List.mem_of_getElem? (i := 34) rfl))))))))
theorem mw_h7_315 : Cond.code yX9_closeName cX9_closeName 4 none ∈ VS_h7 := List.mem_append_right _ (List.mem_append_right _ (List.mem_append_right _ (List.mem_append_right _ (List.mem_append_right _ (List.mem_append_right _ (List.mem_append_right _ (List.mem_append_left _ (List.mem_of_getElem? (i := 35) rfl))))))))
theorem mw_h7_316 : Cond.methodLink RX9 63 yX9_closeName ∈ VS_h7 := List.mem_append_right _ (List.mem_append_right _ (List.mem_append_right _ (List.mem_append_right _ (List.mem_append_right _ (List.mem_append_right _ (List.mem_append_right _ (List.mem_append_left _ (List.mem_of_getElem? (i := 36) rfl))))))))
theorem mw_h7_317 : Cond.instanceMethod yX9_closeName ∈ VS_h7 := List.mem_append_right _ (List.mem_append_right _ (List.mem_append_right _ (List.mem_append_right _ (List.mem_append_right _ (List.mem_append_right _ (List.mem_append_right _ (List.mem_append_left _ (List.mem_of_getElem? (i := 37) rfl))))))))
theorem mw_h7_318 : Cond.selects RX9 yX9_closeName yX9_closeName ∈ VS_h7 := List.mem_append_right _ (List.mem_append_right _ (List.mem_append_right _ (List.mem_append_right _ (List.mem_append_right _ (List.mem_append_right _ (List.mem_append_right _ (List.mem_append_left _ (List.mem_of_getElem? (i := 38) rfl))))))))
theorem mw_h7_319 : Cond.fieldLink RX9 73 "ClassMill$Text" "names" "I" ∈ VS_h7 := List.mem_append_right _ (List.mem_append_right _ (List.mem_append_right _ (List.mem_append_right _ (List.mem_append_right _ (List.mem_append_right _ (List.mem_append_right _ (List.mem_append_left _ (List.mem_of_getElem? (i := 39) rfl))))))))
theorem mw_h7_320 : Cond.fieldLink RX9 35 "ClassMill$Text" "bucket" "[I" ∈ VS_h7 := List.mem_append_right _ (List.mem_append_right _ (List.mem_append_right _ (List.mem_append_right _ (List.mem_append_right _ (List.mem_append_right _ (List.mem_append_right _ (List.mem_append_right _ (List.mem_append_left _ (List.mem_of_getElem? (i := 0) rfl)))))))))
theorem mw_h7_321 : Cond.fieldLink RX9 32 "ClassMill$Text" "sameBucket" "[I" ∈ VS_h7 := List.mem_append_right _ (List.mem_append_right _ (List.mem_append_right _ (List.mem_append_right _ (List.mem_append_right _ (List.mem_append_right _ (List.mem_append_right _ (List.mem_append_right _ (List.mem_append_left _ (List.mem_of_getElem? (i := 1) rfl)))))))))
theorem mw_h7_322 : Cond.constantLong RX9 145 2147483647 ∈ VS_h7 := List.mem_append_right _ (List.mem_append_right _ (List.mem_append_right _ (List.mem_append_right _ (List.mem_append_right _ (List.mem_append_right _ (List.mem_append_right _ (List.mem_append_right _ (List.mem_append_left _ (List.mem_of_getElem? (i := 2) rfl)))))))))
theorem mw_h7_323 : Cond.constantLong RX9 133 10 ∈ VS_h7 := List.mem_append_right _ (List.mem_append_right _ (List.mem_append_right _ (List.mem_append_right _ (List.mem_append_right _ (List.mem_append_right _ (List.mem_append_right _ (List.mem_append_right _ (List.mem_append_left _ (List.mem_of_getElem? (i := 3) rfl)))))))))
theorem mw_h7_324 : Cond.constantLong RX9 135 48 ∈ VS_h7 := List.mem_append_right _ (List.mem_append_right _ (List.mem_append_right _ (List.mem_append_right _ (List.mem_append_right _ (List.mem_append_right _ (List.mem_append_right _ (List.mem_append_right _ (List.mem_append_left _ (List.mem_of_getElem? (i := 4) rfl)))))))))
theorem mw_h7_325 : Cond.constantLong RX9 137 2147483648 ∈ VS_h7 := List.mem_append_right _ (List.mem_append_right _ (List.mem_append_right _ (List.mem_append_right _ (List.mem_append_right _ (List.mem_append_right _ (List.mem_append_right _ (List.mem_append_right _ (List.mem_append_left _ (List.mem_of_getElem? (i := 5) rfl)))))))))
theorem mw_h7_326 : Cond.methodLink RX9 139 yJ9_min_f86c9 ∈ VS_h7 := List.mem_append_right _ (List.mem_append_right _ (List.mem_append_right _ (List.mem_append_right _ (List.mem_append_right _ (List.mem_append_right _ (List.mem_append_right _ (List.mem_append_right _ (List.mem_append_left _ (List.mem_of_getElem? (i := 6) rfl)))))))))
theorem mw_h7_327 : Cond.static yJ9_min_f86c9 ∈ VS_h7 := List.mem_append_right _ (List.mem_append_right _ (List.mem_append_right _ (List.mem_append_right _ (List.mem_append_right _ (List.mem_append_right _ (List.mem_append_right _ (List.mem_append_right _ (List.mem_append_left _ (List.mem_of_getElem? (i := 7) rfl)))))))))
theorem mw_h7_328 : Cond.initialized "java/lang/Math" ∈ VS_h7 := List.mem_append_right _ (List.mem_append_right _ (List.mem_append_right _ (List.mem_append_right _ (List.mem_append_right _ (List.mem_append_right _ (List.mem_append_right _ (List.mem_append_right _ (List.mem_append_left _ (List.mem_of_getElem? (i := 8) rfl)))))))))
theorem mw_h7_329 : Cond.code yJ9_min_f86c9 cJ9_min_f86c9 4 (some .long) ∈ VS_h7 := List.mem_append_right _ (List.mem_append_right _ (List.mem_append_right _ (List.mem_append_right _ (List.mem_append_right _ (List.mem_append_right _ (List.mem_append_right _ (List.mem_append_right _ (List.mem_append_left _ (List.mem_of_getElem? (i := 9) rfl)))))))))
theorem mw_h7_330 : Cond.code yX10_wantType cX10_wantType 3 none ∈ VS_h7 := List.mem_append_right _ (List.mem_append_right _ (List.mem_append_right _ (List.mem_append_right _ (List.mem_append_right _ (List.mem_append_right _ (List.mem_append_right _ (List.mem_append_right _ (List.mem_append_left _ (List.mem_of_getElem? (i := 10) rfl)))))))))
theorem mw_h7_331 : Cond.methodLink RX10 80 yX10_wantType ∈ VS_h7 := List.mem_append_right _ (List.mem_append_right _ (List.mem_append_right _ (List.mem_append_right _ (List.mem_append_right _ (List.mem_append_right _ (List.mem_append_right _ (List.mem_append_right _ (List.mem_append_left _ (List.mem_of_getElem? (i := 11) rfl)))))))))
theorem mw_h7_332 : Cond.instanceMethod yX10_wantType ∈ VS_h7 := List.mem_append_right _ (List.mem_append_right _ (List.mem_append_right _ (List.mem_append_right _ (List.mem_append_right _ (List.mem_append_right _ (List.mem_append_right _ (List.mem_append_right _ (List.mem_append_left _ (List.mem_of_getElem? (i := 12) rfl)))))))))
theorem mw_h7_333 : Cond.selects RX10 yX10_wantType yX10_wantType ∈ VS_h7 := List.mem_append_right _ (List.mem_append_right _ (List.mem_append_right _ (List.mem_append_right _ (List.mem_append_right _ (List.mem_append_right _ (List.mem_append_right _ (List.mem_append_right _ (List.mem_append_left _ (List.mem_of_getElem? (i := 13) rfl)))))))))
theorem mw_h7_334 : Cond.initialized RX10 ∈ VS_h7 := List.mem_append_right _ (List.mem_append_right _ (List.mem_append_right _ (List.mem_append_right _ (List.mem_append_right _ (List.mem_append_right _ (List.mem_append_right _ (List.mem_append_right _ (List.mem_append_left _ (List.mem_of_getElem? (i := 14) rfl)))))))))
theorem mw_h7_335 : Cond.methodLink RX10 86 yX1_jump ∈ VS_h7 := List.mem_append_right _ (List.mem_append_right _ (List.mem_append_right _ (List.mem_append_right _ (List.mem_append_right _ (List.mem_append_right _ (List.mem_append_right _ (List.mem_append_right _ (List.mem_append_left _ (List.mem_of_getElem? (i := 15) rfl)))))))))
theorem mw_h7_336 : Cond.code yX9_level cX9_level 1 (some .int) ∈ VS_h7 := List.mem_append_right _ (List.mem_append_right _ (List.mem_append_right _ (List.mem_append_right _ (List.mem_append_right _ (List.mem_append_right _ (List.mem_append_right _ (List.mem_append_right _ (List.mem_append_left _ (List.mem_of_getElem? (i := 16) rfl)))))))))
theorem mw_h7_337 : Cond.methodLink RX10 97 yX9_level ∈ VS_h7 := List.mem_append_right _ (List.mem_append_right _ (List.mem_append_right _ (List.mem_append_right _ (List.mem_append_right _ (List.mem_append_right _ (List.mem_append_right _ (List.mem_append_right _ (List.mem_append_left _ (List.mem_of_getElem? (i := 17) rfl)))))))))
theorem mw_h7_338 : Cond.static yX9_level ∈ VS_h7 := List.mem_append_right _ (List.mem_append_right _ (List.mem_append_right _ (List.mem_append_right _ (List.mem_append_right _ (List.mem_append_right _ (List.mem_append_right _ (List.mem_append_right _ (List.mem_append_left _ (List.mem_of_getElem? (i := 18) rfl)))))))))
theorem mw_h7_339 : Cond.methodLink RX10 118 yX1_pop ∈ VS_h7 := List.mem_append_right _ (List.mem_append_right _ (List.mem_append_right _ (List.mem_append_right _ (List.mem_append_right _ (List.mem_append_right _ (List.mem_append_right _ (List.mem_append_right _ (List.mem_append_left _ (List.mem_of_getElem? (i := 19) rfl)))))))))
theorem mw_h7_340 : Cond.methodLink RX10 93 yX9_kind ∈ VS_h7 := List.mem_append_right _ (List.mem_append_right _ (List.mem_append_right _ (List.mem_append_right _ (List.mem_append_right _ (List.mem_append_right _ (List.mem_append_right _ (List.mem_append_right _ (List.mem_append_left _ (List.mem_of_getElem? (i := 20) rfl)))))))))
theorem mw_h7_341 : Cond.code yX9_beginsCast cX9_beginsCast 1 (some .boolean) ∈ VS_h7 := List.mem_append_right _ (List.mem_append_right _ (List.mem_append_right _ (List.mem_append_right _ (List.mem_append_right _ (List.mem_append_right _ (List.mem_append_right _ (List.mem_append_right _ (List.mem_append_left _ (List.mem_of_getElem? (i := 21) rfl)))))))))
theorem mw_h7_342 : Cond.methodLink RX10 187 yX9_beginsCast ∈ VS_h7 := List.mem_append_right _ (List.mem_append_right _ (List.mem_append_right _ (List.mem_append_right _ (List.mem_append_right _ (List.mem_append_right _ (List.mem_append_right _ (List.mem_append_right _ (List.mem_append_left _ (List.mem_of_getElem? (i := 22) rfl)))))))))
theorem mw_h7_343 : Cond.instanceMethod yX9_beginsCast ∈ VS_h7 := List.mem_append_right _ (List.mem_append_right _ (List.mem_append_right _ (List.mem_append_right _ (List.mem_append_right _ (List.mem_append_right _ (List.mem_append_right _ (List.mem_append_right _ (List.mem_append_left _ (List.mem_of_getElem? (i := 23) rfl)))))))))
theorem mw_h7_344 : Cond.selects RX9 yX9_beginsCast yX9_beginsCast ∈ VS_h7 := List.mem_append_right _ (List.mem_append_right _ (List.mem_append_right _ (List.mem_append_right _ (List.mem_append_right _ (List.mem_append_right _ (List.mem_append_right _ (List.mem_append_right _ (List.mem_append_left _ (List.mem_of_getElem? (i := 24) rfl)))))))))
theorem mw_h7_345 : Cond.methodLink RX10 224 yX9_kindAt ∈ VS_h7 := List.mem_append_right _ (List.mem_append_right _ (List.mem_append_right _ (List.mem_append_right _ (List.mem_append_right _ (List.mem_append_right _ (List.mem_append_right _ (List.mem_append_right _ (List.mem_append_left _ (List.mem_of_getElem? (i := 25) rfl)))))))))
theorem mw_h7_346 : Cond.code yX10_readNamedClass cX10_readNamedClass 4 (some .int) ∈ VS_h7 := List.mem_append_right _ (List.mem_append_right _ (List.mem_append_right _ (List.mem_append_right _ (List.mem_append_right _ (List.mem_append_right _ (List.mem_append_right _ (List.mem_append_right _ (List.mem_append_left _ (List.mem_of_getElem? (i := 26) rfl)))))))))
theorem mw_h7_347 : Cond.methodLink RX10 168 yX10_readNamedClass ∈ VS_h7 := List.mem_append_right _ (List.mem_append_right _ (List.mem_append_right _ (List.mem_append_right _ (List.mem_append_right _ (List.mem_append_right _ (List.mem_append_right _ (List.mem_append_right _ (List.mem_append_left _ (List.mem_of_getElem? (i := 27) rfl)))))))))
theorem mw_h7_348 : Cond.instanceMethod yX10_readNamedClass ∈ VS_h7 := List.mem_append_right _ (List.mem_append_right _ (List.mem_append_right _ (List.mem_append_right _ (List.mem_append_right _ (List.mem_append_right _ (List.mem_append_right _ (List.mem_append_right _ (List.mem_append_left _ (List.mem_of_getElem? (i := 28) rfl)))))))))
theorem mw_h7_349 : Cond.selects RX10 yX10_readNamedClass yX10_readNamedClass ∈ VS_h7 := List.mem_append_right _ (List.mem_append_right _ (List.mem_append_right _ (List.mem_append_right _ (List.mem_append_right _ (List.mem_append_right _ (List.mem_append_right _ (List.mem_append_right _ (List.mem_append_left _ (List.mem_of_getElem? (i := 29) rfl)))))))))
theorem mw_h7_350 : Cond.methodLink RX10 227 yX9_valueAt ∈ VS_h7 := List.mem_append_right _ (List.mem_append_right _ (List.mem_append_right _ (List.mem_append_right _ (List.mem_append_right _ (List.mem_append_right _ (List.mem_append_right _ (List.mem_append_right _ (List.mem_append_left _ (List.mem_of_getElem? (i := 30) rfl)))))))))
theorem mw_h7_351 : Cond.code yX1_localOf cX1_localOf 3 (some .int) ∈ VS_h7 := List.mem_append_right _ (List.mem_append_right _ (List.mem_append_right _ (List.mem_append_right _ (List.mem_append_right _ (List.mem_append_right _ (List.mem_append_right _ (List.mem_append_right _ (List.mem_append_left _ (List.mem_of_getElem? (i := 31) rfl)))))))))
theorem mw_h7_352 : Cond.methodLink RX10 258 yX1_localOf ∈ VS_h7 := List.mem_append_right _ (List.mem_append_right _ (List.mem_append_right _ (List.mem_append_right _ (List.mem_append_right _ (List.mem_append_right _ (List.mem_append_right _ (List.mem_append_right _ (List.mem_append_left _ (List.mem_of_getElem? (i := 32) rfl)))))))))
theorem mw_h7_353 : Cond.instanceMethod yX1_localOf ∈ VS_h7 := List.mem_append_right _ (List.mem_append_right _ (List.mem_append_right _ (List.mem_append_right _ (List.mem_append_right _ (List.mem_append_right _ (List.mem_append_right _ (List.mem_append_right _ (List.mem_append_left _ (List.mem_of_getElem? (i := 33) rfl)))))))))
theorem mw_h7_354 : Cond.selects RX1 yX1_localOf yX1_localOf ∈ VS_h7 := List.mem_append_right _ (List.mem_append_right _ (List.mem_append_right _ (List.mem_append_right _ (List.mem_append_right _ (List.mem_append_right _ (List.mem_append_right _ (List.mem_append_right _ (List.mem_append_left _ (List.mem_of_getElem? (i := 34) rfl)))))))))
theorem mw_h7_355 : Cond.code yX2_fieldOf cX2_fieldOf 6 (some .int) ∈ VS_h7 := List.mem_append_right _ (List.mem_append_right _ (List.mem_append_right _ (List.mem_append_right _ (List.mem_append_right _ (List.mem_append_right _ (List.mem_append_right _ (List.mem_append_right _ (List.mem_append_left _ (List.mem_of_getElem? (i := 35) rfl)))))))))
theorem mw_h7_356 : Cond.methodLink RX10 261 yX2_fieldOf ∈ VS_h7 := List.mem_append_right _ (List.mem_append_right _ (List.mem_append_right _ (List.mem_append_right _ (List.mem_append_right _ (List.mem_append_right _ (List.mem_append_right _ (List.mem_append_right _ (List.mem_append_left _ (List.mem_of_getElem? (i := 36) rfl)))))))))
theorem mw_h7_357 : Cond.instanceMethod yX2_fieldOf ∈ VS_h7 := List.mem_append_right _ (List.mem_append_right _ (List.mem_append_right _ (List.mem_append_right _ (List.mem_append_right _ (List.mem_append_right _ (List.mem_append_right _ (List.mem_append_right _ (List.mem_append_left _ (List.mem_of_getElem? (i := 37) rfl)))))))))
theorem mw_h7_358 : Cond.selects RX2 yX2_fieldOf yX2_fieldOf ∈ VS_h7 := List.mem_append_right _ (List.mem_append_right _ (List.mem_append_right _ (List.mem_append_right _ (List.mem_append_right _ (List.mem_append_right _ (List.mem_append_right _ (List.mem_append_right _ (List.mem_append_left _ (List.mem_of_getElem? (i := 38) rfl)))))))))
theorem mw_h7_359 : Cond.code yX10_methodNamed cX10_methodNamed 4 (some .int) ∈ VS_h7 := List.mem_append_right _ (List.mem_append_right _ (List.mem_append_right _ (List.mem_append_right _ (List.mem_append_right _ (List.mem_append_right _ (List.mem_append_right _ (List.mem_append_right _ (List.mem_append_left _ (List.mem_of_getElem? (i := 39) rfl)))))))))
theorem mw_h7_360 : Cond.methodLink RX10 248 yX10_methodNamed ∈ VS_h7 := List.mem_append_right _ (List.mem_append_right _ (List.mem_append_right _ (List.mem_append_right _ (List.mem_append_right _ (List.mem_append_right _ (List.mem_append_right _ (List.mem_append_right _ (List.mem_append_right _ (List.mem_append_left _ (List.mem_of_getElem? (i := 0) rfl))))))))))
theorem mw_h7_361 : Cond.instanceMethod yX10_methodNamed ∈ VS_h7 := List.mem_append_right _ (List.mem_append_right _ (List.mem_append_right _ (List.mem_append_right _ (List.mem_append_right _ (List.mem_append_right _ (List.mem_append_right _ (List.mem_append_right _ (List.mem_append_right _ (List.mem_append_left _ (List.mem_of_getElem? (i := 1) rfl))))))))))
theorem mw_h7_362 : Cond.selects RX10 yX10_methodNamed yX10_methodNamed ∈ VS_h7 := List.mem_append_right _ (List.mem_append_right _ (List.mem_append_right _ (List.mem_append_right _ (List.mem_append_right _ (List.mem_append_right _ (List.mem_append_right _ (List.mem_append_right _ (List.mem_append_right _ (List.mem_append_left _ (List.mem_of_getElem? (i := 2) rfl))))))))))
theorem mw_h7_363 : Cond.code yX2_isFixed cX2_isFixed 2 (some .boolean) ∈ VS_h7 := List.mem_append_right _ (List.mem_append_right _ (List.mem_append_right _ (List.mem_append_right _ (List.mem_append_right _ (List.mem_append_right _ (List.mem_append_right _ (List.mem_append_right _ (List.mem_append_right _ (List.mem_append_left _ (List.mem_of_getElem? (i := 3) rfl))))))))))
theorem mw_h7_364 : Cond.methodLink RX10 251 yX2_isFixed ∈ VS_h7 := List.mem_append_right _ (List.mem_append_right _ (List.mem_append_right _ (List.mem_append_right _ (List.mem_append_right _ (List.mem_append_right _ (List.mem_append_right _ (List.mem_append_right _ (List.mem_append_right _ (List.mem_append_left _ (List.mem_of_getElem? (i := 4) rfl))))))))))
theorem mw_h7_365 : Cond.instanceMethod yX2_isFixed ∈ VS_h7 := List.mem_append_right _ (List.mem_append_right _ (List.mem_append_right _ (List.mem_append_right _ (List.mem_append_right _ (List.mem_append_right _ (List.mem_append_right _ (List.mem_append_right _ (List.mem_append_right _ (List.mem_append_left _ (List.mem_of_getElem? (i := 5) rfl))))))))))
theorem mw_h7_366 : Cond.selects RX2 yX2_isFixed yX2_isFixed ∈ VS_h7 := List.mem_append_right _ (List.mem_append_right _ (List.mem_append_right _ (List.mem_append_right _ (List.mem_append_right _ (List.mem_append_right _ (List.mem_append_right _ (List.mem_append_right _ (List.mem_append_right _ (List.mem_append_left _ (List.mem_of_getElem? (i := 6) rfl))))))))))
theorem mw_h7_367 : Cond.code yX10_giveThis cX10_giveThis 2 none ∈ VS_h7 := List.mem_append_right _ (List.mem_append_right _ (List.mem_append_right _ (List.mem_append_right _ (List.mem_append_right _ (List.mem_append_right _ (List.mem_append_right _ (List.mem_append_right _ (List.mem_append_right _ (List.mem_append_left _ (List.mem_of_getElem? (i := 7) rfl))))))))))
theorem mw_h7_368 : Cond.methodLink RX10 236 yX10_giveThis ∈ VS_h7 := List.mem_append_right _ (List.mem_append_right _ (List.mem_append_right _ (List.mem_append_right _ (List.mem_append_right _ (List.mem_append_right _ (List.mem_append_right _ (List.mem_append_right _ (List.mem_append_right _ (List.mem_append_left _ (List.mem_of_getElem? (i := 8) rfl))))))))))
theorem mw_h7_369 : Cond.instanceMethod yX10_giveThis ∈ VS_h7 := List.mem_append_right _ (List.mem_append_right _ (List.mem_append_right _ (List.mem_append_right _ (List.mem_append_right _ (List.mem_append_right _ (List.mem_append_right _ (List.mem_append_right _ (List.mem_append_right _ (List.mem_append_left _ (List.mem_of_getElem? (i := 9) rfl))))))))))
theorem mw_h7_370 : Cond.selects RX10 yX10_giveThis yX10_giveThis ∈ VS_h7 := List.mem_append_right _ (List.mem_append_right _ (List.mem_append_right _ (List.mem_append_right _ (List.mem_append_right _ (List.mem_append_right _ (List.mem_append_right _ (List.mem_append_right _ (List.mem_append_right _ (List.mem_append_left _ (List.mem_of_getElem? (i := 10) rfl))))))))))
theorem mw_h7_371 : Cond.methodLink RX10 242 yX4_isArray ∈ VS_h7 := List.mem_append_right _ (List.mem_append_right _ (List.mem_append_right _ (List.mem_append_right _ (List.mem_append_right _ (List.mem_append_right _ (List.mem_append_right _ (List.mem_append_right _ (List.mem_append_right _ (List.mem_append_left _ (List.mem_of_getElem? (i := 11) rfl))))))))))
theorem mw_h7_372 : Cond.methodLink RX10 277 yX4_isClass ∈ VS_h7 := List.mem_append_right _ (List.mem_append_right _ (List.mem_append_right _ (List.mem_append_right _ (List.mem_append_right _ (List.mem_append_right _ (List.mem_append_right _ (List.mem_append_right _ (List.mem_append_right _ (List.mem_append_left _ (List.mem_of_getElem? (i := 12) rfl))))))))))
theorem mw_h7_373 : Cond.methodLink RX10 271 yX2_methodOf ∈ VS_h7 := List.mem_append_right _ (List.mem_append_right _ (List.mem_append_right _ (List.mem_append_right _ (List.mem_append_right _ (List.mem_append_right _ (List.mem_append_right _ (List.mem_append_right _ (List.mem_append_right _ (List.mem_append_left _ (List.mem_of_getElem? (i := 13) rfl))))))))))
theorem mw_h7_374 : Cond.methodLink RX10 165 yX9_tell ∈ VS_h7 := List.mem_append_right _ (List.mem_append_right _ (List.mem_append_right _ (List.mem_append_right _ (List.mem_append_right _ (List.mem_append_right _ (List.mem_append_right _ (List.mem_append_right _ (List.mem_append_right _ (List.mem_append_left _ (List.mem_of_getElem? (i := 14) rfl))))))))))
theorem mw_h7_375 : Cond.code yX10_nameField cX10_nameField 3 none ∈ VS_h7 := List.mem_append_right _ (List.mem_append_right _ (List.mem_append_right _ (List.mem_append_right _ (List.mem_append_right _ (List.mem_append_right _ (List.mem_append_right _ (List.mem_append_right _ (List.mem_append_right _ (List.mem_append_left _ (List.mem_of_getElem? (i := 15) rfl))))))))))
theorem mw_h7_376 : Cond.methodLink RX10 265 yX10_nameField ∈ VS_h7 := List.mem_append_right _ (List.mem_append_right _ (List.mem_append_right _ (List.mem_append_right _ (List.mem_append_right _ (List.mem_append_right _ (List.mem_append_right _ (List.mem_append_right _ (List.mem_append_right _ (List.mem_append_left _ (List.mem_of_getElem? (i := 16) rfl))))))))))
theorem mw_h7_377 : Cond.instanceMethod yX10_nameField ∈ VS_h7 := List.mem_append_right _ (List.mem_append_right _ (List.mem_append_right _ (List.mem_append_right _ (List.mem_append_right _ (List.mem_append_right _ (List.mem_append_right _ (List.mem_append_right _ (List.mem_append_right _ (List.mem_append_left _ (List.mem_of_getElem? (i := 17) rfl))))))))))
theorem mw_h7_378 : Cond.selects RX10 yX10_nameField yX10_nameField ∈ VS_h7 := List.mem_append_right _ (List.mem_append_right _ (List.mem_append_right _ (List.mem_append_right _ (List.mem_append_right _ (List.mem_append_right _ (List.mem_append_right _ (List.mem_append_right _ (List.mem_append_right _ (List.mem_append_left _ (List.mem_of_getElem? (i := 18) rfl))))))))))
theorem mw_h7_379 : Cond.methodLink RX10 162 yX1_op ∈ VS_h7 := List.mem_append_right _ (List.mem_append_right _ (List.mem_append_right _ (List.mem_append_right _ (List.mem_append_right _ (List.mem_append_right _ (List.mem_append_right _ (List.mem_append_right _ (List.mem_append_right _ (List.mem_append_left _ (List.mem_of_getElem? (i := 19) rfl))))))))))
theorem mw_h7_380 : Cond.code yX10_give cX10_give 2 none ∈ VS_h7 := List.mem_append_right _ (List.mem_append_right _ (List.mem_append_right _ (List.mem_append_right _ (List.mem_append_right _ (List.mem_append_right _ (List.mem_append_right _ (List.mem_append_right _ (List.mem_append_right _ (List.mem_append_left _ (List.mem_of_getElem? (i := 20) rfl))))))))))
theorem mw_h7_381 : Cond.methodLink RX10 233 yX10_give ∈ VS_h7 := List.mem_append_right _ (List.mem_append_right _ (List.mem_append_right _ (List.mem_append_right _ (List.mem_append_right _ (List.mem_append_right _ (List.mem_append_right _ (List.mem_append_right _ (List.mem_append_right _ (List.mem_append_left _ (List.mem_of_getElem? (i := 21) rfl))))))))))
theorem mw_h7_382 : Cond.instanceMethod yX10_give ∈ VS_h7 := List.mem_append_right _ (List.mem_append_right _ (List.mem_append_right _ (List.mem_append_right _ (List.mem_append_right _ (List.mem_append_right _ (List.mem_append_right _ (List.mem_append_right _ (List.mem_append_right _ (List.mem_append_left _ (List.mem_of_getElem? (i := 22) rfl))))))))))
theorem mw_h7_383 : Cond.selects RX10 yX10_give yX10_give ∈ VS_h7 := List.mem_append_right _ (List.mem_append_right _ (List.mem_append_right _ (List.mem_append_right _ (List.mem_append_right _ (List.mem_append_right _ (List.mem_append_right _ (List.mem_append_right _ (List.mem_append_right _ (List.mem_append_left _ (List.mem_of_getElem? (i := 23) rfl))))))))))
theorem mw_h7_384 : Cond.methodLink RX11 146 yX3_of ∈ VS_h7 := List.mem_append_right _ (List.mem_append_right _ (List.mem_append_right _ (List.mem_append_right _ (List.mem_append_right _ (List.mem_append_right _ (List.mem_append_right _ (List.mem_append_right _ (List.mem_append_right _ (List.mem_append_left _ (List.mem_of_getElem? (i := 24) rfl))))))))))
theorem mw_h7_385 : Cond.methodLink RX11 75 yX4_above ∈ VS_h7 := List.mem_append_right _ (List.mem_append_right _ (List.mem_append_right _ (List.mem_append_right _ (List.mem_append_right _ (List.mem_append_right _ (List.mem_append_right _ (List.mem_append_right _ (List.mem_append_right _ (List.mem_append_left _ (List.mem_of_getElem? (i := 25) rfl))))))))))
theorem mw_h7_386 : Cond.methodLink RX11 167 yX3_tagOf ∈ VS_h7 := List.mem_append_right _ (List.mem_append_right _ (List.mem_append_right _ (List.mem_append_right _ (List.mem_append_right _ (List.mem_append_right _ (List.mem_append_right _ (List.mem_append_right _ (List.mem_append_right _ (List.mem_append_left _ (List.mem_of_getElem? (i := 26) rfl))))))))))
theorem mw_h7_387 : Cond.methodLink RX11 177 yX3_partOf ∈ VS_h7 := List.mem_append_right _ (List.mem_append_right _ (List.mem_append_right _ (List.mem_append_right _ (List.mem_append_right _ (List.mem_append_right _ (List.mem_append_right _ (List.mem_append_right _ (List.mem_append_right _ (List.mem_append_left _ (List.mem_of_getElem? (i := 27) rfl))))))))))
theorem mw_h7_388 : Cond.code yX3_textAt cX3_textAt 2 (some .int) ∈ VS_h7 := List.mem_append_right _ (List.mem_append_right _ (List.mem_append_right _ (List.mem_append_right _ (List.mem_append_right _ (List.mem_append_right _ (List.mem_append_right _ (List.mem_append_right _ (List.mem_append_right _ (List.mem_append_left _ (List.mem_of_getElem? (i := 28) rfl))))))))))
theorem mw_h7_389 : Cond.methodLink RX11 180 yX3_textAt ∈ VS_h7 := List.mem_append_right _ (List.mem_append_right _ (List.mem_append_right _ (List.mem_append_right _ (List.mem_append_right _ (List.mem_append_right _ (List.mem_append_right _ (List.mem_append_right _ (List.mem_append_right _ (List.mem_append_left _ (List.mem_of_getElem? (i := 29) rfl))))))))))
theorem mw_h7_390 : Cond.instanceMethod yX3_textAt ∈ VS_h7 := List.mem_append_right _ (List.mem_append_right _ (List.mem_append_right _ (List.mem_append_right _ (List.mem_append_right _ (List.mem_append_right _ (List.mem_append_right _ (List.mem_append_right _ (List.mem_append_right _ (List.mem_append_left _ (List.mem_of_getElem? (i := 30) rfl))))))))))
theorem mw_h7_391 : Cond.selects RX3 yX3_textAt yX3_textAt ∈ VS_h7 := List.mem_append_right _ (List.mem_append_right _ (List.mem_append_right _ (List.mem_append_right _ (List.mem_append_right _ (List.mem_append_right _ (List.mem_append_right _ (List.mem_append_right _ (List.mem_append_right _ (List.mem_append_left _ (List.mem_of_getElem? (i := 31) rfl))))))))))
theorem mw_h7_392 : Cond.methodLink RX11 183 yX3_byteAt ∈ VS_h7 := List.mem_append_right _ (List.mem_append_right _ (List.mem_append_right _ (List.mem_append_right _ (List.mem_append_right _ (List.mem_append_right _ (List.mem_append_right _ (List.mem_append_right _ (List.mem_append_right _ (List.mem_append_left _ (List.mem_of_getElem? (i := 32) rfl))))))))))
theorem mw_h7_393 : Cond.code yX11_info cX11_info 2 (some .int) ∈ VS_h7 := List.mem_append_right _ (List.mem_append_right _ (List.mem_append_right _ (List.mem_append_right _ (List.mem_append_right _ (List.mem_append_right _ (List.mem_append_right _ (List.mem_append_right _ (List.mem_append_right _ (List.mem_append_left _ (List.mem_of_getElem? (i := 33) rfl))))))))))
theorem mw_h7_394 : Cond.methodLink RX11 189 yX11_info ∈ VS_h7 := List.mem_append_right _ (List.mem_append_right _ (List.mem_append_right _ (List.mem_append_right _ (List.mem_append_right _ (List.mem_append_right _ (List.mem_append_right _ (List.mem_append_right _ (List.mem_append_right _ (List.mem_append_left _ (List.mem_of_getElem? (i := 34) rfl))))))))))
theorem mw_h7_395 : Cond.instanceMethod yX11_info ∈ VS_h7 := List.mem_append_right _ (List.mem_append_right _ (List.mem_append_right _ (List.mem_append_right _ (List.mem_append_right _ (List.mem_append_right _ (List.mem_append_right _ (List.mem_append_right _ (List.mem_append_right _ (List.mem_append_left _ (List.mem_of_getElem? (i := 35) rfl))))))))))
theorem mw_h7_396 : Cond.selects RX11 yX11_info yX11_info ∈ VS_h7 := List.mem_append_right _ (List.mem_append_right _ (List.mem_append_right _ (List.mem_append_right _ (List.mem_append_right _ (List.mem_append_right _ (List.mem_append_right _ (List.mem_append_right _ (List.mem_append_right _ (List.mem_append_left _ (List.mem_of_getElem? (i := 36) rfl))))))))))
theorem mw_h7_397 : Cond.initialized RX11 ∈ VS_h7 := List.mem_append_right _ (List.mem_append_right _ (List.mem_append_right _ (List.mem_append_right _ (List.mem_append_right _ (List.mem_append_right _ (List.mem_append_right _ (List.mem_append_right _ (List.mem_append_right _ (List.mem_append_left _ (List.mem_of_getElem? (i := 37) rfl))))))))))
theorem mw_h7_398 : Cond.methodLink RX11 212 yJ7_fill_fda19 ∈ VS_h7 := List.mem_append_right _ (List.mem_append_right _ (List.mem_append_right _ (List.mem_append_right _ (List.mem_append_right _ (List.mem_append_right _ (List.mem_append_right _ (List.mem_append_right _ (List.mem_append_right _ (List.mem_append_left _ (List.mem_of_getElem? (i := 38) rfl))))))))))
theorem mw_h7_399 : Cond.code yX11_codeAt cX11_codeAt 2 (some .int) ∈ VS_h7 := List.mem_append_right _ (List.mem_append_right _ (List.mem_append_right _ (List.mem_append_right _ (List.mem_append_right _ (List.mem_append_right _ (List.mem_append_right _ (List.mem_append_right _ (List.mem_append_right _ (List.mem_append_left _ (List.mem_of_getElem? (i := 39) rfl))))))))))
theorem mw_h7_400 : Cond.methodLink RX11 192 yX11_codeAt ∈ VS_h7 := List.mem_append_right _ (List.mem_append_right _ (List.mem_append_right _ (List.mem_append_right _ (List.mem_append_right _ (List.mem_append_right _ (List.mem_append_right _ (List.mem_append_right _ (List.mem_append_right _ (List.mem_append_right _ (List.mem_append_left _ (List.mem_of_getElem? (i := 0) rfl)))))))))))
theorem mw_h7_401 : Cond.instanceMethod yX11_codeAt ∈ VS_h7 := List.mem_append_right _ (List.mem_append_right _ (List.mem_append_right _ (List.mem_append_right _ (List.mem_append_right _ (List.mem_append_right _ (List.mem_append_right _ (List.mem_append_right _ (List.mem_append_right _ (List.mem_append_right _ (List.mem_append_left _ (List.mem_of_getElem? (i := 1) rfl)))))))))))
theorem mw_h7_402 : Cond.selects RX11 yX11_codeAt yX11_codeAt ∈ VS_h7 := List.mem_append_right _ (List.mem_append_right _ (List.mem_append_right _ (List.mem_append_right _ (List.mem_append_right _ (List.mem_append_right _ (List.mem_append_right _ (List.mem_append_right _ (List.mem_append_right _ (List.mem_append_right _ (List.mem_append_left _ (List.mem_of_getElem? (i := 2) rfl)))))))))))
theorem mw_h7_403 : Cond.code yX11_widthOf cX11_widthOf 1 (some .int) ∈ VS_h7 := List.mem_append_right _ (List.mem_append_right _ (List.mem_append_right _ (List.mem_append_right _ (List.mem_append_right _ (List.mem_append_right _ (List.mem_append_right _ (List.mem_append_right _ (List.mem_append_right _ (List.mem_append_right _ (List.mem_append_left _ (List.mem_of_getElem? (i := 3) rfl)))))))))))
theorem mw_h7_404 : Cond.methodLink RX11 218 yX11_widthOf ∈ VS_h7 := List.mem_append_right _ (List.mem_append_right _ (List.mem_append_right _ (List.mem_append_right _ (List.mem_append_right _ (List.mem_append_right _ (List.mem_append_right _ (List.mem_append_right _ (List.mem_append_right _ (List.mem_append_right _ (List.mem_append_left _ (List.mem_of_getElem? (i := 4) rfl)))))))))))
theorem mw_h7_405 : Cond.static yX11_widthOf ∈ VS_h7 := List.mem_append_right _ (List.mem_append_right _ (List.mem_append_right _ (List.mem_append_right _ (List.mem_append_right _ (List.mem_append_right _ (List.mem_append_right _ (List.mem_append_right _ (List.mem_append_right _ (List.mem_append_right _ (List.mem_append_left _ (List.mem_of_getElem? (i := 5) rfl)))))))))))
theorem mw_h7_406 : Cond.code yX11_at cX11_at 3 (some .int) ∈ VS_h7 := List.mem_append_right _ (List.mem_append_right _ (List.mem_append_right _ (List.mem_append_right _ (List.mem_append_right _ (List.mem_append_right _ (List.mem_append_right _ (List.mem_append_right _ (List.mem_append_right _ (List.mem_append_right _ (List.mem_append_left _ (List.mem_of_getElem? (i := 6) rfl)))))))))))
theorem mw_h7_407 : Cond.methodLink RX11 221 yX11_at ∈ VS_h7 := List.mem_append_right _ (List.mem_append_right _ (List.mem_append_right _ (List.mem_append_right _ (List.mem_append_right _ (List.mem_append_right _ (List.mem_append_right _ (List.mem_append_right _ (List.mem_append_right _ (List.mem_append_right _ (List.mem_append_left _ (List.mem_of_getElem? (i := 7) rfl)))))))))))
theorem mw_h7_408 : Cond.instanceMethod yX11_at ∈ VS_h7 := List.mem_append_right _ (List.mem_append_right _ (List.mem_append_right _ (List.mem_append_right _ (List.mem_append_right _ (List.mem_append_right _ (List.mem_append_right _ (List.mem_append_right _ (List.mem_append_right _ (List.mem_append_right _ (List.mem_append_left _ (List.mem_of_getElem? (i := 8) rfl)))))))))))
theorem mw_h7_409 : Cond.selects RX11 yX11_at yX11_at ∈ VS_h7 := List.mem_append_right _ (List.mem_append_right _ (List.mem_append_right _ (List.mem_append_right _ (List.mem_append_right _ (List.mem_append_right _ (List.mem_append_right _ (List.mem_append_right _ (List.mem_append_right _ (List.mem_append_right _ (List.mem_append_left _ (List.mem_of_getElem? (i := 9) rfl)))))))))))
theorem mw_h7_410 : Cond.fieldLink RX11 38 "ClassMill$Verifier" "marks" "[I" ∈ VS_h7 := List.mem_append_right _ (List.mem_append_right _ (List.mem_append_right _ (List.mem_append_right _ (List.mem_append_right _ (List.mem_append_right _ (List.mem_append_right _ (List.mem_append_right _ (List.mem_append_right _ (List.mem_append_right _ (List.mem_append_left _ (List.mem_of_getElem? (i := 10) rfl)))))))))))
theorem mw_h7_411 : Cond.methodLink RX11 204 yJ9_min_7cf53 ∈ VS_h7 := List.mem_append_right _ (List.mem_append_right _ (List.mem_append_right _ (List.mem_append_right _ (List.mem_append_right _ (List.mem_append_right _ (List.mem_append_right _ (List.mem_append_right _ (List.mem_append_right _ (List.mem_append_right _ (List.mem_append_left _ (List.mem_of_getElem? (i := 11) rfl)))))))))))
theorem mw_h7_412 : Cond.static yJ9_min_7cf53 ∈ VS_h7 := List.mem_append_right _ (List.mem_append_right _ (List.mem_append_right _ (List.mem_append_right _ (List.mem_append_right _ (List.mem_append_right _ (List.mem_append_right _ (List.mem_append_right _ (List.mem_append_right _ (List.mem_append_right _ (List.mem_append_left _ (List.mem_of_getElem? (i := 12) rfl)))))))))))
theorem mw_h7_413 : Cond.code yJ9_min_7cf53 cJ9_min_7cf53 2 (some .int) ∈ VS_h7 := List.mem_append_right _ (List.mem_append_right _ (List.mem_append_right _ (List.mem_append_right _ (List.mem_append_right _ (List.mem_append_right _ (List.mem_append_right _ (List.mem_append_right _ (List.mem_append_right _ (List.mem_append_right _ (List.mem_append_left _ (List.mem_of_getElem? (i := 13) rfl)))))))))))
theorem mw_h7_414 : Cond.fieldLink RX11 209 "ClassMill$Verifier" "length" "I" ∈ VS_h7 := List.mem_append_right _ (List.mem_append_right _ (List.mem_append_right _ (List.mem_append_right _ (List.mem_append_right _ (List.mem_append_right _ (List.mem_append_right _ (List.mem_append_right _ (List.mem_append_right _ (List.mem_append_right _ (List.mem_append_left _ (List.mem_of_getElem? (i := 14) rfl)))))))))))
theorem mw_h7_415 : Cond.methodLink RX11 258 yJ7_fill_53178 ∈ VS_h7 := List.mem_append_right _ (List.mem_append_right _ (List.mem_append_right _ (List.mem_append_right _ (List.mem_append_right _ (List.mem_append_right _ (List.mem_append_right _ (List.mem_append_right _ (List.mem_append_right _ (List.mem_append_right _ (List.mem_append_left _ (List.mem_of_getElem? (i := 15) rfl)))))))))))
theorem mw_h7_416 : Cond.code yX11_frameAt cX11_frameAt 2 (some .int) ∈ VS_h7 := List.mem_append_right _ (List.mem_append_right _ (List.mem_append_right _ (List.mem_append_right _ (List.mem_append_right _ (List.mem_append_right _ (List.mem_append_right _ (List.mem_append_right _ (List.mem_append_right _ (List.mem_append_right _ (List.mem_append_left _ (List.mem_of_getElem? (i := 16) rfl)))))))))))
theorem mw_h7_417 : Cond.methodLink RX11 242 yX11_frameAt ∈ VS_h7 := List.mem_append_right _ (List.mem_append_right _ (List.mem_append_right _ (List.mem_append_right _ (List.mem_append_right _ (List.mem_append_right _ (List.mem_append_right _ (List.mem_append_right _ (List.mem_append_right _ (List.mem_append_right _ (List.mem_append_left _ (List.mem_of_getElem? (i := 17) rfl)))))))))))
theorem mw_h7_418 : Cond.instanceMethod yX11_frameAt ∈ VS_h7 := List.mem_append_right _ (List.mem_append_right _ (List.mem_append_right _ (List.mem_append_right _ (List.mem_append_right _ (List.mem_append_right _ (List.mem_append_right _ (List.mem_append_right _ (List.mem_append_right _ (List.mem_append_right _ (List.mem_append_left _ (List.mem_of_getElem? (i := 18) rfl)))))))))))
theorem mw_h7_419 : Cond.selects RX11 yX11_frameAt yX11_frameAt ∈ VS_h7 := List.mem_append_right _ (List.mem_append_right _ (List.mem_append_right _ (List.mem_append_right _ (List.mem_append_right _ (List.mem_append_right _ (List.mem_append_right _ (List.mem_append_right _ (List.mem_append_right _ (List.mem_append_right _ (List.mem_append_left _ (List.mem_of_getElem? (i := 19) rfl)))))))))))
theorem mw_h7_420 : Cond.code yX11_fitsLocals cX11_fitsLocals 4 (some .boolean) ∈ VS_h7 := List.mem_append_right _ (List.mem_append_right _ (List.mem_append_right _ (List.mem_append_right _ (List.mem_append_right _ (List.mem_append_right _ (List.mem_append_right _ (List.mem_append_right _ (List.mem_append_right _ (List.mem_append_right _ (List.mem_append_left _ (List.mem_of_getElem? (i := 20) rfl)))))))))))
theorem mw_h7_421 : Cond.methodLink RX11 304 yX11_fitsLocals ∈ VS_h7 := List.mem_append_right _ (List.mem_append_right _ (List.mem_append_right _ (List.mem_append_right _ (List.mem_append_right _ (List.mem_append_right _ (List.mem_append_right _ (List.mem_append_right _ (List.mem_append_right _ (List.mem_append_right _ (List.mem_append_left _ (List.mem_of_getElem? (i := 21) rfl)))))))))))
theorem mw_h7_422 : Cond.instanceMethod yX11_fitsLocals ∈ VS_h7 := List.mem_append_right _ (List.mem_append_right _ (List.mem_append_right _ (List.mem_append_right _ (List.mem_append_right _ (List.mem_append_right _ (List.mem_append_right _ (List.mem_append_right _ (List.mem_append_right _ (List.mem_append_right _ (List.mem_append_left _ (List.mem_of_getElem? (i := 22) rfl)))))))))))
theorem mw_h7_423 : Cond.selects RX11 yX11_fitsLocals yX11_fitsLocals ∈ VS_h7 := List.mem_append_right _ (List.mem_append_right _ (List.mem_append_right _ (List.mem_append_right _ (List.mem_append_right _ (List.mem_append_right _ (List.mem_append_right _ (List.mem_append_right _ (List.mem_append_right _ (List.mem_append_right _ (List.mem_append_left _ (List.mem_of_getElem? (i := 23) rfl)))))))))))
theorem mw_h7_424 : Cond.code yX11_fits cX11_fits 3 (some .boolean) ∈ VS_h7 := List.mem_append_right _ (List.mem_append_right _ (List.mem_append_right _ (List.mem_append_right _ (List.mem_append_right _ (List.mem_append_right _ (List.mem_append_right _ (List.mem_append_right _ (List.mem_append_right _ (List.mem_append_right _ (List.mem_append_left _ (List.mem_of_getElem? (i := 24) rfl)))))))))))
theorem mw_h7_425 : Cond.methodLink RX11 303 yX11_fits ∈ VS_h7 := List.mem_append_right _ (List.mem_append_right _ (List.mem_append_right _ (List.mem_append_right _ (List.mem_append_right _ (List.mem_append_right _ (List.mem_append_right _ (List.mem_append_right _ (List.mem_append_right _ (List.mem_append_right _ (List.mem_append_left _ (List.mem_of_getElem? (i := 25) rfl)))))))))))
theorem mw_h7_426 : Cond.instanceMethod yX11_fits ∈ VS_h7 := List.mem_append_right _ (List.mem_append_right _ (List.mem_append_right _ (List.mem_append_right _ (List.mem_append_right _ (List.mem_append_right _ (List.mem_append_right _ (List.mem_append_right _ (List.mem_append_right _ (List.mem_append_right _ (List.mem_append_left _ (List.mem_of_getElem? (i := 26) rfl)))))))))))
theorem mw_h7_427 : Cond.selects RX11 yX11_fits yX11_fits ∈ VS_h7 := List.mem_append_right _ (List.mem_append_right _ (List.mem_append_right _ (List.mem_append_right _ (List.mem_append_right _ (List.mem_append_right _ (List.mem_append_right _ (List.mem_append_right _ (List.mem_append_right _ (List.mem_append_right _ (List.mem_append_left _ (List.mem_of_getElem? (i := 27) rfl)))))))))))
theorem mw_h7_428 : Cond.fieldLink RX11 255 "ClassMill$Verifier" "height" "I" ∈ VS_h7 := List.mem_append_right _ (List.mem_append_right _ (List.mem_append_right _ (List.mem_append_right _ (List.mem_append_right _ (List.mem_append_right _ (List.mem_append_right _ (List.mem_append_right _ (List.mem_append_right _ (List.mem_append_right _ (List.mem_append_left _ (List.mem_of_getElem? (i := 28) rfl)))))))))))
theorem mw_h7_429 : Cond.fieldLink RX11 47 "ClassMill$Verifier" "stack" "[I" ∈ VS_h7 := List.mem_append_right _ (List.mem_append_right _ (List.mem_append_right _ (List.mem_append_right _ (List.mem_append_right _ (List.mem_append_right _ (List.mem_append_right _ (List.mem_append_right _ (List.mem_append_right _ (List.mem_append_right _ (List.mem_append_left _ (List.mem_of_getElem? (i := 29) rfl)))))))))))
theorem mw_h7_430 : Cond.fieldLink RX11 41 "ClassMill$Verifier" "frames" "[I" ∈ VS_h7 := List.mem_append_right _ (List.mem_append_right _ (List.mem_append_right _ (List.mem_append_right _ (List.mem_append_right _ (List.mem_append_right _ (List.mem_append_right _ (List.mem_append_right _ (List.mem_append_right _ (List.mem_append_right _ (List.mem_append_left _ (List.mem_of_getElem? (i := 30) rfl)))))))))))
theorem mw_h7_431 : Cond.fieldLink RX11 44 "ClassMill$Verifier" "locals" "[I" ∈ VS_h7 := List.mem_append_right _ (List.mem_append_right _ (List.mem_append_right _ (List.mem_append_right _ (List.mem_append_right _ (List.mem_append_right _ (List.mem_append_right _ (List.mem_append_right _ (List.mem_append_right _ (List.mem_append_right _ (List.mem_append_left _ (List.mem_of_getElem? (i := 31) rfl)))))))))))
theorem mw_h7_432 : Cond.methodLink RX11 267 arraycopyName ∈ VS_h7 := List.mem_append_right _ (List.mem_append_right _ (List.mem_append_right _ (List.mem_append_right _ (List.mem_append_right _ (List.mem_append_right _ (List.mem_append_right _ (List.mem_append_right _ (List.mem_append_right _ (List.mem_append_right _ (List.mem_append_left _ (List.mem_of_getElem? (i := 32) rfl)))))))))))
theorem mw_h7_433 : Cond.code yX1_slotOfFrame cX1_slotOfFrame 3 (some .int) ∈ VS_h7 := List.mem_append_right _ (List.mem_append_right _ (List.mem_append_right _ (List.mem_append_right _ (List.mem_append_right _ (List.mem_append_right _ (List.mem_append_right _ (List.mem_append_right _ (List.mem_append_right _ (List.mem_append_right _ (List.mem_append_left _ (List.mem_of_getElem? (i := 33) rfl)))))))))))
theorem mw_h7_434 : Cond.methodLink RX1 96 yX1_slotOfFrame ∈ VS_h7 := List.mem_append_right _ (List.mem_append_right _ (List.mem_append_right _ (List.mem_append_right _ (List.mem_append_right _ (List.mem_append_right _ (List.mem_append_right _ (List.mem_append_right _ (List.mem_append_right _ (List.mem_append_right _ (List.mem_append_left _ (List.mem_of_getElem? (i := 34) rfl)))))))))))
theorem mw_h7_435 : Cond.instanceMethod yX1_slotOfFrame ∈ VS_h7 := List.mem_append_right _ (List.mem_append_right _ (List.mem_append_right _ (List.mem_append_right _ (List.mem_append_right _ (List.mem_append_right _ (List.mem_append_right _ (List.mem_append_right _ (List.mem_append_right _ (List.mem_append_right _ (List.mem_append_left _ (List.mem_of_getElem? (i := 35) rfl)))))))))))
theorem mw_h7_436 : Cond.selects RX1 yX1_slotOfFrame yX1_slotOfFrame ∈ VS_h7 := List.mem_append_right _ (List.mem_append_right _ (List.mem_append_right _ (List.mem_append_right _ (List.mem_append_right _ (List.mem_append_right _ (List.mem_append_right _ (List.mem_append_right _ (List.mem_append_right _ (List.mem_append_right _ (List.mem_append_left _ (List.mem_of_getElem? (i := 36) rfl)))))))))))
theorem mw_h7_437 : Cond.code yX1_fillFrame cX1_fillFrame 5 none ∈ VS_h7 := List.mem_append_right _ (List.mem_append_right _ (List.mem_append_right _ (List.mem_append_right _ (List.mem_append_right _ (List.mem_append_right _ (List.mem_append_right _ (List.mem_append_right _ (List.mem_append_right _ (List.mem_append_right _ (List.mem_append_left _ (List.mem_of_getElem? (i := 37) rfl)))))))))))
theorem mw_h7_438 : Cond.methodLink RX1 100 yX1_fillFrame ∈ VS_h7 := List.mem_append_right _ (List.mem_append_right _ (List.mem_append_right _ (List.mem_append_right _ (List.mem_append_right _ (List.mem_append_right _ (List.mem_append_right _ (List.mem_append_right _ (List.mem_append_right _ (List.mem_append_right _ (List.mem_append_left _ (List.mem_of_getElem? (i := 38) rfl)))))))))))
theorem mw_h7_439 : Cond.instanceMethod yX1_fillFrame ∈ VS_h7 := List.mem_append_right _ (List.mem_append_right _ (List.mem_append_right _ (List.mem_append_right _ (List.mem_append_right _ (List.mem_append_right _ (List.mem_append_right _ (List.mem_append_right _ (List.mem_append_right _ (List.mem_append_right _ (List.mem_append_left _ (List.mem_of_getElem? (i := 39) rfl)))))))))))
theorem mw_h7_440 : Cond.selects RX1 yX1_fillFrame yX1_fillFrame ∈ VS_h7 := List.mem_append_right _ (List.mem_append_right _ (List.mem_append_right _ (List.mem_append_right _ (List.mem_append_right _ (List.mem_append_right _ (List.mem_append_right _ (List.mem_append_right _ (List.mem_append_right _ (List.mem_append_right _ (List.mem_append_right _ (List.mem_append_left _ (List.mem_of_getElem? (i := 0) rfl))))))))))))
theorem mw_h7_441 : Cond.fieldLink RX1 49 "ClassMill$Code" "sight" "I" ∈ VS_h7 := List.mem_append_right _ (List.mem_append_right _ (List.mem_append_right _ (List.mem_append_right _ (List.mem_append_right _ (List.mem_append_right _ (List.mem_append_right _ (List.mem_append_right _ (List.mem_append_right _ (List.mem_append_right _ (List.mem_append_right _ (List.mem_append_left _ (List.mem_of_getElem? (i := 1) rfl))))))))))))
theorem mw_h7_442 : Cond.fieldLink RX1 43 "ClassMill$Code" "height" "I" ∈ VS_h7 := List.mem_append_right _ (List.mem_append_right _ (List.mem_append_right _ (List.mem_append_right _ (List.mem_append_right _ (List.mem_append_right _ (List.mem_append_right _ (List.mem_append_right _ (List.mem_append_right _ (List.mem_append_right _ (List.mem_append_right _ (List.mem_append_left _ (List.mem_of_getElem? (i := 2) rfl))))))))))))
theorem mw_h7_443 : Cond.code yX1_aimHere cX1_aimHere 2 none ∈ VS_h7 := List.mem_append_right _ (List.mem_append_right _ (List.mem_append_right _ (List.mem_append_right _ (List.mem_append_right _ (List.mem_append_right _ (List.mem_append_right _ (List.mem_append_right _ (List.mem_append_right _ (List.mem_append_right _ (List.mem_append_right _ (List.mem_append_left _ (List.mem_of_getElem? (i := 3) rfl))))))))))))
theorem mw_h7_444 : Cond.methodLink RX1 107 yX1_aimHere ∈ VS_h7 := List.mem_append_right _ (List.mem_append_right _ (List.mem_append_right _ (List.mem_append_right _ (List.mem_append_right _ (List.mem_append_right _ (List.mem_append_right _ (List.mem_append_right _ (List.mem_append_right _ (List.mem_append_right _ (List.mem_append_right _ (List.mem_append_left _ (List.mem_of_getElem? (i := 4) rfl))))))))))))
theorem mw_h7_445 : Cond.instanceMethod yX1_aimHere ∈ VS_h7 := List.mem_append_right _ (List.mem_append_right _ (List.mem_append_right _ (List.mem_append_right _ (List.mem_append_right _ (List.mem_append_right _ (List.mem_append_right _ (List.mem_append_right _ (List.mem_append_right _ (List.mem_append_right _ (List.mem_append_right _ (List.mem_append_left _ (List.mem_of_getElem? (i := 5) rfl))))))))))))
theorem mw_h7_446 : Cond.selects RX1 yX1_aimHere yX1_aimHere ∈ VS_h7 := List.mem_append_right _ (List.mem_append_right _ (List.mem_append_right _ (List.mem_append_right _ (List.mem_append_right _ (List.mem_append_right _ (List.mem_append_right _ (List.mem_append_right _ (List.mem_append_right _ (List.mem_append_right _ (List.mem_append_right _ (List.mem_append_left _ (List.mem_of_getElem? (i := 6) rfl))))))))))))
theorem mw_h7_447 : Cond.code yX4_forget cX4_forget 2 none ∈ VS_h7 := List.mem_append_right _ (List.mem_append_right _ (List.mem_append_right _ (List.mem_append_right _ (List.mem_append_right _ (List.mem_append_right _ (List.mem_append_right _ (List.mem_append_right _ (List.mem_append_right _ (List.mem_append_right _ (List.mem_append_right _ (List.mem_append_left _ (List.mem_of_getElem? (i := 7) rfl))))))))))))
theorem mw_h7_448 : Cond.methodLink RX2 88 yX4_forget ∈ VS_h7 := List.mem_append_right _ (List.mem_append_right _ (List.mem_append_right _ (List.mem_append_right _ (List.mem_append_right _ (List.mem_append_right _ (List.mem_append_right _ (List.mem_append_right _ (List.mem_append_right _ (List.mem_append_right _ (List.mem_append_right _ (List.mem_append_left _ (List.mem_of_getElem? (i := 8) rfl))))))))))))
theorem mw_h7_449 : Cond.instanceMethod yX4_forget ∈ VS_h7 := List.mem_append_right _ (List.mem_append_right _ (List.mem_append_right _ (List.mem_append_right _ (List.mem_append_right _ (List.mem_append_right _ (List.mem_append_right _ (List.mem_append_right _ (List.mem_append_right _ (List.mem_append_right _ (List.mem_append_right _ (List.mem_append_left _ (List.mem_of_getElem? (i := 9) rfl))))))))))))
theorem mw_h7_450 : Cond.selects RX4 yX4_forget yX4_forget ∈ VS_h7 := List.mem_append_right _ (List.mem_append_right _ (List.mem_append_right _ (List.mem_append_right _ (List.mem_append_right _ (List.mem_append_right _ (List.mem_append_right _ (List.mem_append_right _ (List.mem_append_right _ (List.mem_append_right _ (List.mem_append_right _ (List.mem_append_left _ (List.mem_of_getElem? (i := 10) rfl))))))))))))
theorem mw_h7_451 : Cond.fieldLink RX2 27 "ClassMill$Heads" "fields" "[I" ∈ VS_h7 := List.mem_append_right _ (List.mem_append_right _ (List.mem_append_right _ (List.mem_append_right _ (List.mem_append_right _ (List.mem_append_right _ (List.mem_append_right _ (List.mem_append_right _ (List.mem_append_right _ (List.mem_append_right _ (List.mem_append_right _ (List.mem_append_left _ (List.mem_of_getElem? (i := 11) rfl))))))))))))
theorem mw_h7_452 : Cond.code yX2_nameClasses cX2_nameClasses 3 none ∈ VS_h7 := List.mem_append_right _ (List.mem_append_right _ (List.mem_append_right _ (List.mem_append_right _ (List.mem_append_right _ (List.mem_append_right _ (List.mem_append_right _ (List.mem_append_right _ (List.mem_append_right _ (List.mem_append_right _ (List.mem_append_right _ (List.mem_append_left _ (List.mem_of_getElem? (i := 12) rfl))))))))))))
theorem mw_h7_453 : Cond.methodLink RX2 94 yX2_nameClasses ∈ VS_h7 := List.mem_append_right _ (List.mem_append_right _ (List.mem_append_right _ (List.mem_append_right _ (List.mem_append_right _ (List.mem_append_right _ (List.mem_append_right _ (List.mem_append_right _ (List.mem_append_right _ (List.mem_append_right _ (List.mem_append_right _ (List.mem_append_left _ (List.mem_of_getElem? (i := 13) rfl))))))))))))
theorem mw_h7_454 : Cond.instanceMethod yX2_nameClasses ∈ VS_h7 := List.mem_append_right _ (List.mem_append_right _ (List.mem_append_right _ (List.mem_append_right _ (List.mem_append_right _ (List.mem_append_right _ (List.mem_append_right _ (List.mem_append_right _ (List.mem_append_right _ (List.mem_append_right _ (List.mem_append_right _ (List.mem_append_left _ (List.mem_of_getElem? (i := 14) rfl))))))))))))
theorem mw_h7_455 : Cond.selects RX2 yX2_nameClasses yX2_nameClasses ∈ VS_h7 := List.mem_append_right _ (List.mem_append_right _ (List.mem_append_right _ (List.mem_append_right _ (List.mem_append_right _ (List.mem_append_right _ (List.mem_append_right _ (List.mem_append_right _ (List.mem_append_right _ (List.mem_append_right _ (List.mem_append_right _ (List.mem_append_left _ (List.mem_of_getElem? (i := 15) rfl))))))))))))
theorem mw_h7_456 : Cond.code yX2_checkClassHead cX2_checkClassHead 3 none ∈ VS_h7 := List.mem_append_right _ (List.mem_append_right _ (List.mem_append_right _ (List.mem_append_right _ (List.mem_append_right _ (List.mem_append_right _ (List.mem_append_right _ (List.mem_append_right _ (List.mem_append_right _ (List.mem_append_right _ (List.mem_append_right _ (List.mem_append_left _ (List.mem_of_getElem? (i := 16) rfl))))))))))))
theorem mw_h7_457 : Cond.methodLink RX2 97 yX2_checkClassHead ∈ VS_h7 := List.mem_append_right _ (List.mem_append_right _ (List.mem_append_right _ (List.mem_append_right _ (List.mem_append_right _ (List.mem_append_right _ (List.mem_append_right _ (List.mem_append_right _ (List.mem_append_right _ (List.mem_append_right _ (List.mem_append_right _ (List.mem_append_left _ (List.mem_of_getElem? (i := 17) rfl))))))))))))
theorem mw_h7_458 : Cond.instanceMethod yX2_checkClassHead ∈ VS_h7 := List.mem_append_right _ (List.mem_append_right _ (List.mem_append_right _ (List.mem_append_right _ (List.mem_append_right _ (List.mem_append_right _ (List.mem_append_right _ (List.mem_append_right _ (List.mem_append_right _ (List.mem_append_right _ (List.mem_append_right _ (List.mem_append_left _ (List.mem_of_getElem? (i := 18) rfl))))))))))))
theorem mw_h7_459 : Cond.selects RX2 yX2_checkClassHead yX2_checkClassHead ∈ VS_h7 := List.mem_append_right _ (List.mem_append_right _ (List.mem_append_right _ (List.mem_append_right _ (List.mem_append_right _ (List.mem_append_right _ (List.mem_append_right _ (List.mem_append_right _ (List.mem_append_right _ (List.mem_append_right _ (List.mem_append_right _ (List.mem_append_left _ (List.mem_of_getElem? (i := 19) rfl))))))))))))
theorem mw_h7_460 : Cond.methodLink RX2 109 yX4_settle ∈ VS_h7 := List.mem_append_right _ (List.mem_append_right _ (List.mem_append_right _ (List.mem_append_right _ (List.mem_append_right _ (List.mem_append_right _ (List.mem_append_right _ (List.mem_append_right _ (List.mem_append_right _ (List.mem_append_right _ (List.mem_append_right _ (List.mem_append_left _ (List.mem_of_getElem? (i := 20) rfl))))))))))))
theorem mw_h7_461 : Cond.code yX2_classAbove cX2_classAbove 3 (some .int) ∈ VS_h7 := List.mem_append_right _ (List.mem_append_right _ (List.mem_append_right _ (List.mem_append_right _ (List.mem_append_right _ (List.mem_append_right _ (List.mem_append_right _ (List.mem_append_right _ (List.mem_append_right _ (List.mem_append_right _ (List.mem_append_right _ (List.mem_append_left _ (List.mem_of_getElem? (i := 21) rfl))))))))))))
theorem mw_h7_462 : Cond.methodLink RX2 101 yX2_classAbove ∈ VS_h7 := List.mem_append_right _ (List.mem_append_right _ (List.mem_append_right _ (List.mem_append_right _ (List.mem_append_right _ (List.mem_append_right _ (List.mem_append_right _ (List.mem_append_right _ (List.mem_append_right _ (List.mem_append_right _ (List.mem_append_right _ (List.mem_append_left _ (List.mem_of_getElem? (i := 22) rfl))))))))))))
theorem mw_h7_463 : Cond.instanceMethod yX2_classAbove ∈ VS_h7 := List.mem_append_right _ (List.mem_append_right _ (List.mem_append_right _ (List.mem_append_right _ (List.mem_append_right _ (List.mem_append_right _ (List.mem_append_right _ (List.mem_append_right _ (List.mem_append_right _ (List.mem_append_right _ (List.mem_append_right _ (List.mem_append_left _ (List.mem_of_getElem? (i := 23) rfl))))))))))))
theorem mw_h7_464 : Cond.selects RX2 yX2_classAbove yX2_classAbove ∈ VS_h7 := List.mem_append_right _ (List.mem_append_right _ (List.mem_append_right _ (List.mem_append_right _ (List.mem_append_right _ (List.mem_append_right _ (List.mem_append_right _ (List.mem_append_right _ (List.mem_append_right _ (List.mem_append_right _ (List.mem_append_right _ (List.mem_append_left _ (List.mem_of_getElem? (i := 24) rfl))))))))))))
theorem mw_h7_465 : Cond.code yX4_setAbove cX4_setAbove 3 none ∈ VS_h7 := List.mem_append_right _ (List.mem_append_right _ (List.mem_append_right _ (List.mem_append_right _ (List.mem_append_right _ (List.mem_append_right _ (List.mem_append_right _ (List.mem_append_right _ (List.mem_append_right _ (List.mem_append_right _ (List.mem_append_right _ (List.mem_append_left _ (List.mem_of_getElem? (i := 25) rfl))))))))))))
theorem mw_h7_466 : Cond.methodLink RX2 105 yX4_setAbove ∈ VS_h7 := List.mem_append_right _ (List.mem_append_right _ (List.mem_append_right _ (List.mem_append_right _ (List.mem_append_right _ (List.mem_append_right _ (List.mem_append_right _ (List.mem_append_right _ (List.mem_append_right _ (List.mem_append_right _ (List.mem_append_right _ (List.mem_append_left _ (List.mem_of_getElem? (i := 26) rfl))))))))))))
theorem mw_h7_467 : Cond.instanceMethod yX4_setAbove ∈ VS_h7 := List.mem_append_right _ (List.mem_append_right _ (List.mem_append_right _ (List.mem_append_right _ (List.mem_append_right _ (List.mem_append_right _ (List.mem_append_right _ (List.mem_append_right _ (List.mem_append_right _ (List.mem_append_right _ (List.mem_append_right _ (List.mem_append_left _ (List.mem_of_getElem? (i := 27) rfl))))))))))))
theorem mw_h7_468 : Cond.selects RX4 yX4_setAbove yX4_setAbove ∈ VS_h7 := List.mem_append_right _ (List.mem_append_right _ (List.mem_append_right _ (List.mem_append_right _ (List.mem_append_right _ (List.mem_append_right _ (List.mem_append_right _ (List.mem_append_right _ (List.mem_append_right _ (List.mem_append_right _ (List.mem_append_right _ (List.mem_append_left _ (List.mem_of_getElem? (i := 28) rfl))))))))))))
theorem mw_h7_469 : Cond.code yX2_checkOverride cX2_checkOverride 5 none ∈ VS_h7 := List.mem_append_right _ (List.mem_append_right _ (List.mem_append_right _ (List.mem_append_right _ (List.mem_append_right _ (List.mem_append_right _ (List.mem_append_right _ (List.mem_append_right _ (List.mem_append_right _ (List.mem_append_right _ (List.mem_append_right _ (List.mem_append_left _ (List.mem_of_getElem? (i := 29) rfl))))))))))))
theorem mw_h7_470 : Cond.methodLink RX2 132 yX2_checkOverride ∈ VS_h7 := List.mem_append_right _ (List.mem_append_right _ (List.mem_append_right _ (List.mem_append_right _ (List.mem_append_right _ (List.mem_append_right _ (List.mem_append_right _ (List.mem_append_right _ (List.mem_append_right _ (List.mem_append_right _ (List.mem_append_right _ (List.mem_append_left _ (List.mem_of_getElem? (i := 30) rfl))))))))))))
theorem mw_h7_471 : Cond.instanceMethod yX2_checkOverride ∈ VS_h7 := List.mem_append_right _ (List.mem_append_right _ (List.mem_append_right _ (List.mem_append_right _ (List.mem_append_right _ (List.mem_append_right _ (List.mem_append_right _ (List.mem_append_right _ (List.mem_append_right _ (List.mem_append_right _ (List.mem_append_right _ (List.mem_append_left _ (List.mem_of_getElem? (i := 31) rfl))))))))))))
theorem mw_h7_472 : Cond.selects RX2 yX2_checkOverride yX2_checkOverride ∈ VS_h7 := List.mem_append_right _ (List.mem_append_right _ (List.mem_append_right _ (List.mem_append_right _ (List.mem_append_right _ (List.mem_append_right _ (List.mem_append_right _ (List.mem_append_right _ (List.mem_append_right _ (List.mem_append_right _ (List.mem_append_right _ (List.mem_append_left _ (List.mem_of_getElem? (i := 32) rfl))))))))))))
theorem mw_h7_473 : Cond.code yX9_copyName cX9_copyName 5 none ∈ VS_h7 := List.mem_append_right _ (List.mem_append_right _ (List.mem_append_right _ (List.mem_append_right _ (List.mem_append_right _ (List.mem_append_right _ (List.mem_append_right _ (List.mem_append_right _ (List.mem_append_right _ (List.mem_append_right _ (List.mem_append_right _ (List.mem_append_left _ (List.mem_of_getElem? (i := 33) rfl))))))))))))
theorem mw_h7_474 : Cond.methodLink RX2 169 yX9_copyName ∈ VS_h7 := List.mem_append_right _ (List.mem_append_right _ (List.mem_append_right _ (List.mem_append_right _ (List.mem_append_right _ (List.mem_append_right _ (List.mem_append_right _ (List.mem_append_right _ (List.mem_append_right _ (List.mem_append_right _ (List.mem_append_right _ (List.mem_append_left _ (List.mem_of_getElem? (i := 34) rfl))))))))))))
theorem mw_h7_475 : Cond.instanceMethod yX9_copyName ∈ VS_h7 := List.mem_append_right _ (List.mem_append_right _ (List.mem_append_right _ (List.mem_append_right _ (List.mem_append_right _ (List.mem_append_right _ (List.mem_append_right _ (List.mem_append_right _ (List.mem_append_right _ (List.mem_append_right _ (List.mem_append_right _ (List.mem_append_left _ (List.mem_of_getElem? (i := 35) rfl))))))))))))
theorem mw_h7_476 : Cond.selects RX9 yX9_copyName yX9_copyName ∈ VS_h7 := List.mem_append_right _ (List.mem_append_right _ (List.mem_append_right _ (List.mem_append_right _ (List.mem_append_right _ (List.mem_append_right _ (List.mem_append_right _ (List.mem_append_right _ (List.mem_append_right _ (List.mem_append_right _ (List.mem_append_right _ (List.mem_append_left _ (List.mem_of_getElem? (i := 36) rfl))))))))))))
theorem mw_h7_477 : Cond.methodLink RX2 173 yX9_nameLength ∈ VS_h7 := List.mem_append_right _ (List.mem_append_right _ (List.mem_append_right _ (List.mem_append_right _ (List.mem_append_right _ (List.mem_append_right _ (List.mem_append_right _ (List.mem_append_right _ (List.mem_append_right _ (List.mem_append_right _ (List.mem_append_right _ (List.mem_append_left _ (List.mem_of_getElem? (i := 37) rfl))))))))))))
theorem mw_h7_478 : Cond.fieldLink RX2 67 "ClassMill$Heads" "typeName" "[I" ∈ VS_h7 := List.mem_append_right _ (List.mem_append_right _ (List.mem_append_right _ (List.mem_append_right _ (List.mem_append_right _ (List.mem_append_right _ (List.mem_append_right _ (List.mem_append_right _ (List.mem_append_right _ (List.mem_append_right _ (List.mem_append_right _ (List.mem_append_left _ (List.mem_of_getElem? (i := 38) rfl))))))))))))
theorem mw_h7_479 : Cond.fieldLink RX2 70 "ClassMill$Heads" "kindBytes" "[B" ∈ VS_h7 := List.mem_append_right _ (List.mem_append_right _ (List.mem_append_right _ (List.mem_append_right _ (List.mem_append_right _ (List.mem_append_right _ (List.mem_append_right _ (List.mem_append_right _ (List.mem_append_right _ (List.mem_append_right _ (List.mem_append_right _ (List.mem_append_left _ (List.mem_of_getElem? (i := 39) rfl))))))))))))
theorem mw_h7_480 : Cond.fieldLink RX2 144 "ClassMill$Heads" "kindSize" "I" ∈ VS_h7 := List.mem_append_right _ (List.mem_append_right _ (List.mem_append_right _ (List.mem_append_right _ (List.mem_append_right _ (List.mem_append_right _ (List.mem_append_right _ (List.mem_append_right _ (List.mem_append_right _ (List.mem_append_right _ (List.mem_append_right _ (List.mem_append_right _ (List.mem_append_left _ (List.mem_of_getElem? (i := 0) rfl)))))))))))))
theorem mw_h7_481 : Cond.methodLink RX2 176 yJ9_min_7cf53 ∈ VS_h7 := List.mem_append_right _ (List.mem_append_right _ (List.mem_append_right _ (List.mem_append_right _ (List.mem_append_right _ (List.mem_append_right _ (List.mem_append_right _ (List.mem_append_right _ (List.mem_append_right _ (List.mem_append_right _ (List.mem_append_right _ (List.mem_append_right _ (List.mem_append_left _ (List.mem_of_getElem? (i := 1) rfl)))))))))))))
theorem mw_h7_482 : Cond.code yX2_addMethod cX2_addMethod 7 none ∈ VS_h7 := List.mem_append_right _ (List.mem_append_right _ (List.mem_append_right _ (List.mem_append_right _ (List.mem_append_right _ (List.mem_append_right _ (List.mem_append_right _ (List.mem_append_right _ (List.mem_append_right _ (List.mem_append_right _ (List.mem_append_right _ (List.mem_append_right _ (List.mem_append_left _ (List.mem_of_getElem? (i := 2) rfl)))))))))))))
theorem mw_h7_483 : Cond.methodLink RX2 199 yX2_addMethod ∈ VS_h7 := List.mem_append_right _ (List.mem_append_right _ (List.mem_append_right _ (List.mem_append_right _ (List.mem_append_right _ (List.mem_append_right _ (List.mem_append_right _ (List.mem_append_right _ (List.mem_append_right _ (List.mem_append_right _ (List.mem_append_right _ (List.mem_append_right _ (List.mem_append_left _ (List.mem_of_getElem? (i := 3) rfl)))))))))))))
theorem mw_h7_484 : Cond.instanceMethod yX2_addMethod ∈ VS_h7 := List.mem_append_right _ (List.mem_append_right _ (List.mem_append_right _ (List.mem_append_right _ (List.mem_append_right _ (List.mem_append_right _ (List.mem_append_right _ (List.mem_append_right _ (List.mem_append_right _ (List.mem_append_right _ (List.mem_append_right _ (List.mem_append_right _ (List.mem_append_left _ (List.mem_of_getElem? (i := 4) rfl)))))))))))))
theorem mw_h7_485 : Cond.selects RX2 yX2_addMethod yX2_addMethod ∈ VS_h7 := List.mem_append_right _ (List.mem_append_right _ (List.mem_append_right _ (List.mem_append_right _ (List.mem_append_right _ (List.mem_append_right _ (List.mem_append_right _ (List.mem_append_right _ (List.mem_append_right _ (List.mem_append_right _ (List.mem_append_right _ (List.mem_append_right _ (List.mem_append_left _ (List.mem_of_getElem? (i := 5) rfl)))))))))))))
theorem mw_h7_486 : Cond.code yX2_addField cX2_addField 6 none ∈ VS_h7 := List.mem_append_right _ (List.mem_append_right _ (List.mem_append_right _ (List.mem_append_right _ (List.mem_append_right _ (List.mem_append_right _ (List.mem_append_right _ (List.mem_append_right _ (List.mem_append_right _ (List.mem_append_right _ (List.mem_append_right _ (List.mem_append_right _ (List.mem_append_left _ (List.mem_of_getElem? (i := 6) rfl)))))))))))))
theorem mw_h7_487 : Cond.methodLink RX2 195 yX2_addField ∈ VS_h7 := List.mem_append_right _ (List.mem_append_right _ (List.mem_append_right _ (List.mem_append_right _ (List.mem_append_right _ (List.mem_append_right _ (List.mem_append_right _ (List.mem_append_right _ (List.mem_append_right _ (List.mem_append_right _ (List.mem_append_right _ (List.mem_append_right _ (List.mem_append_left _ (List.mem_of_getElem? (i := 7) rfl)))))))))))))
theorem mw_h7_488 : Cond.instanceMethod yX2_addField ∈ VS_h7 := List.mem_append_right _ (List.mem_append_right _ (List.mem_append_right _ (List.mem_append_right _ (List.mem_append_right _ (List.mem_append_right _ (List.mem_append_right _ (List.mem_append_right _ (List.mem_append_right _ (List.mem_append_right _ (List.mem_append_right _ (List.mem_append_right _ (List.mem_append_left _ (List.mem_of_getElem? (i := 8) rfl)))))))))))))
theorem mw_h7_489 : Cond.selects RX2 yX2_addField yX2_addField ∈ VS_h7 := List.mem_append_right _ (List.mem_append_right _ (List.mem_append_right _ (List.mem_append_right _ (List.mem_append_right _ (List.mem_append_right _ (List.mem_append_right _ (List.mem_append_right _ (List.mem_append_right _ (List.mem_append_right _ (List.mem_append_right _ (List.mem_append_right _ (List.mem_append_left _ (List.mem_of_getElem? (i := 9) rfl)))))))))))))
theorem mw_h7_490 : Cond.code yX3_readConstant cX3_readConstant 5 none ∈ VS_h7 := List.mem_append_right _ (List.mem_append_right _ (List.mem_append_right _ (List.mem_append_right _ (List.mem_append_right _ (List.mem_append_right _ (List.mem_append_right _ (List.mem_append_right _ (List.mem_append_right _ (List.mem_append_right _ (List.mem_append_right _ (List.mem_append_right _ (List.mem_append_left _ (List.mem_of_getElem? (i := 10) rfl)))))))))))))
theorem mw_h7_491 : Cond.methodLink RX3 93 yX3_readConstant ∈ VS_h7 := List.mem_append_right _ (List.mem_append_right _ (List.mem_append_right _ (List.mem_append_right _ (List.mem_append_right _ (List.mem_append_right _ (List.mem_append_right _ (List.mem_append_right _ (List.mem_append_right _ (List.mem_append_right _ (List.mem_append_right _ (List.mem_append_right _ (List.mem_append_left _ (List.mem_of_getElem? (i := 11) rfl)))))))))))))
theorem mw_h7_492 : Cond.instanceMethod yX3_readConstant ∈ VS_h7 := List.mem_append_right _ (List.mem_append_right _ (List.mem_append_right _ (List.mem_append_right _ (List.mem_append_right _ (List.mem_append_right _ (List.mem_append_right _ (List.mem_append_right _ (List.mem_append_right _ (List.mem_append_right _ (List.mem_append_right _ (List.mem_append_right _ (List.mem_append_left _ (List.mem_of_getElem? (i := 12) rfl)))))))))))))
theorem mw_h7_493 : Cond.selects RX3 yX3_readConstant yX3_readConstant ∈ VS_h7 := List.mem_append_right _ (List.mem_append_right _ (List.mem_append_right _ (List.mem_append_right _ (List.mem_append_right _ (List.mem_append_right _ (List.mem_append_right _ (List.mem_append_right _ (List.mem_append_right _ (List.mem_append_right _ (List.mem_append_right _ (List.mem_append_right _ (List.mem_append_left _ (List.mem_of_getElem? (i := 13) rfl)))))))))))))
theorem mw_h7_494 : Cond.code yX3_isArrayText cX3_isArrayText 2 (some .boolean) ∈ VS_h7 := List.mem_append_right _ (List.mem_append_right _ (List.mem_append_right _ (List.mem_append_right _ (List.mem_append_right _ (List.mem_append_right _ (List.mem_append_right _ (List.mem_append_right _ (List.mem_append_right _ (List.mem_append_right _ (List.mem_append_right _ (List.mem_append_right _ (List.mem_append_left _ (List.mem_of_getElem? (i := 14) rfl)))))))))))))
theorem mw_h7_495 : Cond.methodLink RX3 106 yX3_isArrayText ∈ VS_h7 := List.mem_append_right _ (List.mem_append_right _ (List.mem_append_right _ (List.mem_append_right _ (List.mem_append_right _ (List.mem_append_right _ (List.mem_append_right _ (List.mem_append_right _ (List.mem_append_right _ (List.mem_append_right _ (List.mem_append_right _ (List.mem_append_right _ (List.mem_append_left _ (List.mem_of_getElem? (i := 15) rfl)))))))))))))
theorem mw_h7_496 : Cond.instanceMethod yX3_isArrayText ∈ VS_h7 := List.mem_append_right _ (List.mem_append_right _ (List.mem_append_right _ (List.mem_append_right _ (List.mem_append_right _ (List.mem_append_right _ (List.mem_append_right _ (List.mem_append_right _ (List.mem_append_right _ (List.mem_append_right _ (List.mem_append_right _ (List.mem_append_right _ (List.mem_append_left _ (List.mem_of_getElem? (i := 16) rfl)))))))))))))
theorem mw_h7_497 : Cond.selects RX3 yX3_isArrayText yX3_isArrayText ∈ VS_h7 := List.mem_append_right _ (List.mem_append_right _ (List.mem_append_right _ (List.mem_append_right _ (List.mem_append_right _ (List.mem_append_right _ (List.mem_append_right _ (List.mem_append_right _ (List.mem_append_right _ (List.mem_append_right _ (List.mem_append_right _ (List.mem_append_right _ (List.mem_append_left _ (List.mem_of_getElem? (i := 17) rfl)))))))))))))
theorem mw_h7_498 : Cond.code yX3_isFieldKind cX3_isFieldKind 2 (some .boolean) ∈ VS_h7 := List.mem_append_right _ (List.mem_append_right _ (List.mem_append_right _ (List.mem_append_right _ (List.mem_append_right _ (List.mem_append_right _ (List.mem_append_right _ (List.mem_append_right _ (List.mem_append_right _ (List.mem_append_right _ (List.mem_append_right _ (List.mem_append_right _ (List.mem_append_left _ (List.mem_of_getElem? (i := 18) rfl)))))))))))))
theorem mw_h7_499 : Cond.methodLink RX3 109 yX3_isFieldKind ∈ VS_h7 := List.mem_append_right _ (List.mem_append_right _ (List.mem_append_right _ (List.mem_append_right _ (List.mem_append_right _ (List.mem_append_right _ (List.mem_append_right _ (List.mem_append_right _ (List.mem_append_right _ (List.mem_append_right _ (List.mem_append_right _ (List.mem_append_right _ (List.mem_append_left _ (List.mem_of_getElem? (i := 19) rfl)))))))))))))
theorem mw_h7_500 : Cond.instanceMethod yX3_isFieldKind ∈ VS_h7 := List.mem_append_right _ (List.mem_append_right _ (List.mem_append_right _ (List.mem_append_right _ (List.mem_append_right _ (List.mem_append_right _ (List.mem_append_right _ (List.mem_append_right _ (List.mem_append_right _ (List.mem_append_right _ (List.mem_append_right _ (List.mem_append_right _ (List.mem_append_left _ (List.mem_of_getElem? (i := 20) rfl)))))))))))))
theorem mw_h7_501 : Cond.selects RX3 yX3_isFieldKind yX3_isFieldKind ∈ VS_h7 := List.mem_append_right _ (List.mem_append_right _ (List.mem_append_right _ (List.mem_append_right _ (List.mem_append_right _ (List.mem_append_right _ (List.mem_append_right _ (List.mem_append_right _ (List.mem_append_right _ (List.mem_append_right _ (List.mem_append_right _ (List.mem_append_right _ (List.mem_append_left _ (List.mem_of_getElem? (i := 21) rfl)))))))))))))
theorem mw_h7_502 : Cond.fieldLink RX3 27 "ClassMill$Image" "field" "[I" ∈ VS_h7 := List.mem_append_right _ (List.mem_append_right _ (List.mem_append_right _ (List.mem_append_right _ (List.mem_append_right _ (List.mem_append_right _ (List.mem_append_right _ (List.mem_append_right _ (List.mem_append_right _ (List.mem_append_right _ (List.mem_append_right _ (List.mem_append_right _ (List.mem_append_left _ (List.mem_of_getElem? (i := 22) rfl)))))))))))))
theorem mw_h7_503 : Cond.fieldLink RX3 49 "ClassMill$Image" "fields" "I" ∈ VS_h7 := List.mem_append_right _ (List.mem_append_right _ (List.mem_append_right _ (List.mem_append_right _ (List.mem_append_right _ (List.mem_append_right _ (List.mem_append_right _ (List.mem_append_right _ (List.mem_append_right _ (List.mem_append_right _ (List.mem_append_right _ (List.mem_append_right _ (List.mem_append_left _ (List.mem_of_getElem? (i := 23) rfl)))))))))))))
theorem mw_h7_504 : Cond.code yX5_computed cX5_computed 3 (some .int) ∈ VS_h7 := List.mem_append_right _ (List.mem_append_right _ (List.mem_append_right _ (List.mem_append_right _ (List.mem_append_right _ (List.mem_append_right _ (List.mem_append_right _ (List.mem_append_right _ (List.mem_append_right _ (List.mem_append_right _ (List.mem_append_right _ (List.mem_append_right _ (List.mem_append_left _ (List.mem_of_getElem? (i := 24) rfl)))))))))))))
theorem mw_h7_505 : Cond.methodLink RX5 176 yX5_computed ∈ VS_h7 := List.mem_append_right _ (List.mem_append_right _ (List.mem_append_right _ (List.mem_append_right _ (List.mem_append_right _ (List.mem_append_right _ (List.mem_append_right _ (List.mem_append_right _ (List.mem_append_right _ (List.mem_append_right _ (List.mem_append_right _ (List.mem_append_right _ (List.mem_append_left _ (List.mem_of_getElem? (i := 25) rfl)))))))))))))
theorem mw_h7_506 : Cond.static yX5_computed ∈ VS_h7 := List.mem_append_right _ (List.mem_append_right _ (List.mem_append_right _ (List.mem_append_right _ (List.mem_append_right _ (List.mem_append_right _ (List.mem_append_right _ (List.mem_append_right _ (List.mem_append_right _ (List.mem_append_right _ (List.mem_append_right _ (List.mem_append_right _ (List.mem_append_left _ (List.mem_of_getElem? (i := 26) rfl)))))))))))))
theorem mw_h7_507 : Cond.methodLink RX6 112 yX9_copyName ∈ VS_h7 := List.mem_append_right _ (List.mem_append_right _ (List.mem_append_right _ (List.mem_append_right _ (List.mem_append_right _ (List.mem_append_right _ (List.mem_append_right _ (List.mem_append_right _ (List.mem_append_right _ (List.mem_append_right _ (List.mem_append_right _ (List.mem_append_right _ (List.mem_append_left _ (List.mem_of_getElem? (i := 27) rfl)))))))))))))
theorem mw_h7_508 : Cond.fieldLink RX6 9 "ClassMill$Pool" "tags" "[I" ∈ VS_h7 := List.mem_append_right _ (List.mem_append_right _ (List.mem_append_right _ (List.mem_append_right _ (List.mem_append_right _ (List.mem_append_right _ (List.mem_append_right _ (List.mem_append_right _ (List.mem_append_right _ (List.mem_append_right _ (List.mem_append_right _ (List.mem_append_right _ (List.mem_append_left _ (List.mem_of_getElem? (i := 28) rfl)))))))))))))
theorem mw_h7_509 : Cond.fieldLink RX6 13 "ClassMill$Pool" "values" "[I" ∈ VS_h7 := List.mem_append_right _ (List.mem_append_right _ (List.mem_append_right _ (List.mem_append_right _ (List.mem_append_right _ (List.mem_append_right _ (List.mem_append_right _ (List.mem_append_right _ (List.mem_append_right _ (List.mem_append_right _ (List.mem_append_right _ (List.mem_append_right _ (List.mem_append_left _ (List.mem_of_getElem? (i := 29) rfl)))))))))))))
theorem mw_h7_510 : Cond.fieldLink RX6 20 "ClassMill$Pool" "text" "LClassMill$Text;" ∈ VS_h7 := List.mem_append_right _ (List.mem_append_right _ (List.mem_append_right _ (List.mem_append_right _ (List.mem_append_right _ (List.mem_append_right _ (List.mem_append_right _ (List.mem_append_right _ (List.mem_append_right _ (List.mem_append_right _ (List.mem_append_right _ (List.mem_append_right _ (List.mem_append_left _ (List.mem_of_getElem? (i := 30) rfl)))))))))))))
theorem mw_h7_511 : Cond.code yX9_scanNumber cX9_scanNumber 9 (some .int) ∈ VS_h7 := List.mem_append_right _ (List.mem_append_right _ (List.mem_append_right _ (List.mem_append_right _ (List.mem_append_right _ (List.mem_append_right _ (List.mem_append_right _ (List.mem_append_right _ (List.mem_append_right _ (List.mem_append_right _ (List.mem_append_right _ (List.mem_append_right _ (List.mem_append_left _ (List.mem_of_getElem? (i := 31) rfl)))))))))))))
theorem mw_h7_512 : Cond.methodLink RX9 113 yX9_scanNumber ∈ VS_h7 := List.mem_append_right _ (List.mem_append_right _ (List.mem_append_right _ (List.mem_append_right _ (List.mem_append_right _ (List.mem_append_right _ (List.mem_append_right _ (List.mem_append_right _ (List.mem_append_right _ (List.mem_append_right _ (List.mem_append_right _ (List.mem_append_right _ (List.mem_append_left _ (List.mem_of_getElem? (i := 32) rfl)))))))))))))
theorem mw_h7_513 : Cond.instanceMethod yX9_scanNumber ∈ VS_h7 := List.mem_append_right _ (List.mem_append_right _ (List.mem_append_right _ (List.mem_append_right _ (List.mem_append_right _ (List.mem_append_right _ (List.mem_append_right _ (List.mem_append_right _ (List.mem_append_right _ (List.mem_append_right _ (List.mem_append_right _ (List.mem_append_right _ (List.mem_append_left _ (List.mem_of_getElem? (i := 33) rfl)))))))))))))
theorem mw_h7_514 : Cond.selects RX9 yX9_scanNumber yX9_scanNumber ∈ VS_h7 := List.mem_append_right _ (List.mem_append_right _ (List.mem_append_right _ (List.mem_append_right _ (List.mem_append_right _ (List.mem_append_right _ (List.mem_append_right _ (List.mem_append_right _ (List.mem_append_right _ (List.mem_append_right _ (List.mem_append_right _ (List.mem_append_right _ (List.mem_append_left _ (List.mem_of_getElem? (i := 34) rfl)))))))))))))
theorem mw_h7_515 : Cond.code yX9_nameOf cX9_nameOf 6 (some .int) ∈ VS_h7 := List.mem_append_right _ (List.mem_append_right _ (List.mem_append_right _ (List.mem_append_right _ (List.mem_append_right _ (List.mem_append_right _ (List.mem_append_right _ (List.mem_append_right _ (List.mem_append_right _ (List.mem_append_right _ (List.mem_append_right _ (List.mem_append_right _ (List.mem_append_left _ (List.mem_of_getElem? (i := 35) rfl)))))))))))))
theorem mw_h7_516 : Cond.methodLink RX9 126 yX9_nameOf ∈ VS_h7 := List.mem_append_right _ (List.mem_append_right _ (List.mem_append_right _ (List.mem_append_right _ (List.mem_append_right _ (List.mem_append_right _ (List.mem_append_right _ (List.mem_append_right _ (List.mem_append_right _ (List.mem_append_right _ (List.mem_append_right _ (List.mem_append_right _ (List.mem_append_left _ (List.mem_of_getElem? (i := 36) rfl)))))))))))))
theorem mw_h7_517 : Cond.instanceMethod yX9_nameOf ∈ VS_h7 := List.mem_append_right _ (List.mem_append_right _ (List.mem_append_right _ (List.mem_append_right _ (List.mem_append_right _ (List.mem_append_right _ (List.mem_append_right _ (List.mem_append_right _ (List.mem_append_right _ (List.mem_append_right _ (List.mem_append_right _ (List.mem_append_right _ (List.mem_append_left _ (List.mem_of_getElem? (i := 37) rfl)))))))))))))
theorem mw_h7_518 : Cond.selects RX9 yX9_nameOf yX9_nameOf ∈ VS_h7 := List.mem_append_right _ (List.mem_append_right _ (List.mem_append_right _ (List.mem_append_right _ (List.mem_append_right _ (List.mem_append_right _ (List.mem_append_right _ (List.mem_append_right _ (List.mem_append_right _ (List.mem_append_right _ (List.mem_append_right _ (List.mem_append_right _ (List.mem_append_left _ (List.mem_of_getElem? (i := 38) rfl)))))))))))))
theorem mw_h7_519 : Cond.methodLink RX10 121 yX1_aimHere ∈ VS_h7 := List.mem_append_right _ (List.mem_append_right _ (List.mem_append_right _ (List.mem_append_right _ (List.mem_append_right _ (List.mem_append_right _ (List.mem_append_right _ (List.mem_append_right _ (List.mem_append_right _ (List.mem_append_right _ (List.mem_append_right _ (List.mem_append_right _ (List.mem_append_left _ (List.mem_of_getElem? (i := 39) rfl)))))))))))))
theorem mw_h7_520 : Cond.methodLink RX10 130 yX1_push ∈ VS_h7 := List.mem_append_right _ (List.mem_append_right _ (List.mem_append_right _ (List.mem_append_right _ (List.mem_append_right _ (List.mem_append_right _ (List.mem_append_right _ (List.mem_append_right _ (List.mem_append_right _ (List.mem_append_right _ (List.mem_append_right _ (List.mem_append_right _ (List.mem_append_right _ (List.mem_append_left _ (List.mem_of_getElem? (i := 0) rfl))))))))))))))
theorem mw_h7_521 : Cond.fieldLink RX10 46 "ClassMill$Values" "code" "LClassMill$Code;" ∈ VS_h7 := List.mem_append_right _ (List.mem_append_right _ (List.mem_append_right _ (List.mem_append_right _ (List.mem_append_right _ (List.mem_append_right _ (List.mem_append_right _ (List.mem_append_right _ (List.mem_append_right _ (List.mem_append_right _ (List.mem_append_right _ (List.mem_append_right _ (List.mem_append_right _ (List.mem_append_left _ (List.mem_of_getElem? (i := 1) rfl))))))))))))))
theorem mw_h7_522 : Cond.fieldLink RX10 75 "ClassMill$Values" "type" "I" ∈ VS_h7 := List.mem_append_right _ (List.mem_append_right _ (List.mem_append_right _ (List.mem_append_right _ (List.mem_append_right _ (List.mem_append_right _ (List.mem_append_right _ (List.mem_append_right _ (List.mem_append_right _ (List.mem_append_right _ (List.mem_append_right _ (List.mem_append_right _ (List.mem_append_right _ (List.mem_append_left _ (List.mem_of_getElem? (i := 2) rfl))))))))))))))
theorem mw_h7_523 : Cond.fieldLink RX10 146 "ClassMill$Values" "first" "I" ∈ VS_h7 := List.mem_append_right _ (List.mem_append_right _ (List.mem_append_right _ (List.mem_append_right _ (List.mem_append_right _ (List.mem_append_right _ (List.mem_append_right _ (List.mem_append_right _ (List.mem_append_right _ (List.mem_append_right _ (List.mem_append_right _ (List.mem_append_right _ (List.mem_append_right _ (List.mem_append_left _ (List.mem_of_getElem? (i := 3) rfl))))))))))))))
theorem mw_h7_524 : Cond.code yX1_truth cX1_truth 5 none ∈ VS_h7 := List.mem_append_right _ (List.mem_append_right _ (List.mem_append_right _ (List.mem_append_right _ (List.mem_append_right _ (List.mem_append_right _ (List.mem_append_right _ (List.mem_append_right _ (List.mem_append_right _ (List.mem_append_right _ (List.mem_append_right _ (List.mem_append_right _ (List.mem_append_right _ (List.mem_append_left _ (List.mem_of_getElem? (i := 4) rfl))))))))))))))
theorem mw_h7_525 : Cond.methodLink RX10 156 yX1_truth ∈ VS_h7 := List.mem_append_right _ (List.mem_append_right _ (List.mem_append_right _ (List.mem_append_right _ (List.mem_append_right _ (List.mem_append_right _ (List.mem_append_right _ (List.mem_append_right _ (List.mem_append_right _ (List.mem_append_right _ (List.mem_append_right _ (List.mem_append_right _ (List.mem_append_right _ (List.mem_append_left _ (List.mem_of_getElem? (i := 5) rfl))))))))))))))
theorem mw_h7_526 : Cond.instanceMethod yX1_truth ∈ VS_h7 := List.mem_append_right _ (List.mem_append_right _ (List.mem_append_right _ (List.mem_append_right _ (List.mem_append_right _ (List.mem_append_right _ (List.mem_append_right _ (List.mem_append_right _ (List.mem_append_right _ (List.mem_append_right _ (List.mem_append_right _ (List.mem_append_right _ (List.mem_append_right _ (List.mem_append_left _ (List.mem_of_getElem? (i := 6) rfl))))))))))))))
theorem mw_h7_527 : Cond.selects RX1 yX1_truth yX1_truth ∈ VS_h7 := List.mem_append_right _ (List.mem_append_right _ (List.mem_append_right _ (List.mem_append_right _ (List.mem_append_right _ (List.mem_append_right _ (List.mem_append_right _ (List.mem_append_right _ (List.mem_append_right _ (List.mem_append_right _ (List.mem_append_right _ (List.mem_append_right _ (List.mem_append_right _ (List.mem_append_left _ (List.mem_of_getElem? (i := 7) rfl))))))))))))))
theorem mw_h7_528 : Cond.code yX1_op_ cX1_op_ 3 none ∈ VS_h7 := List.mem_append_right _ (List.mem_append_right _ (List.mem_append_right _ (List.mem_append_right _ (List.mem_append_right _ (List.mem_append_right _ (List.mem_append_right _ (List.mem_append_right _ (List.mem_append_right _ (List.mem_append_right _ (List.mem_append_right _ (List.mem_append_right _ (List.mem_append_right _ (List.mem_append_left _ (List.mem_of_getElem? (i := 8) rfl))))))))))))))
theorem mw_h7_529 : Cond.methodLink RX10 179 yX1_op_ ∈ VS_h7 := List.mem_append_right _ (List.mem_append_right _ (List.mem_append_right _ (List.mem_append_right _ (List.mem_append_right _ (List.mem_append_right _ (List.mem_append_right _ (List.mem_append_right _ (List.mem_append_right _ (List.mem_append_right _ (List.mem_append_right _ (List.mem_append_right _ (List.mem_append_right _ (List.mem_append_left _ (List.mem_of_getElem? (i := 9) rfl))))))))))))))
theorem mw_h7_530 : Cond.instanceMethod yX1_op_ ∈ VS_h7 := List.mem_append_right _ (List.mem_append_right _ (List.mem_append_right _ (List.mem_append_right _ (List.mem_append_right _ (List.mem_append_right _ (List.mem_append_right _ (List.mem_append_right _ (List.mem_append_right _ (List.mem_append_right _ (List.mem_append_right _ (List.mem_append_right _ (List.mem_append_right _ (List.mem_append_left _ (List.mem_of_getElem? (i := 10) rfl))))))))))))))
theorem mw_h7_531 : Cond.selects RX1 yX1_op_ yX1_op_ ∈ VS_h7 := List.mem_append_right _ (List.mem_append_right _ (List.mem_append_right _ (List.mem_append_right _ (List.mem_append_right _ (List.mem_append_right _ (List.mem_append_right _ (List.mem_append_right _ (List.mem_append_right _ (List.mem_append_right _ (List.mem_append_right _ (List.mem_append_right _ (List.mem_append_right _ (List.mem_append_left _ (List.mem_of_getElem? (i := 11) rfl))))))))))))))
theorem mw_h7_532 : Cond.fieldLink RX10 133 "ClassMill$Values" "form" "I" ∈ VS_h7 := List.mem_append_right _ (List.mem_append_right _ (List.mem_append_right _ (List.mem_append_right _ (List.mem_append_right _ (List.mem_append_right _ (List.mem_append_right _ (List.mem_append_right _ (List.mem_append_right _ (List.mem_append_right _ (List.mem_append_right _ (List.mem_append_right _ (List.mem_append_right _ (List.mem_append_left _ (List.mem_of_getElem? (i := 12) rfl))))))))))))))
theorem mw_h7_533 : Cond.code yX11_fitsFrame cX11_fitsFrame 5 (some .boolean) ∈ VS_h7 := List.mem_append_right _ (List.mem_append_right _ (List.mem_append_right _ (List.mem_append_right _ (List.mem_append_right _ (List.mem_append_right _ (List.mem_append_right _ (List.mem_append_right _ (List.mem_append_right _ (List.mem_append_right _ (List.mem_append_right _ (List.mem_append_right _ (List.mem_append_right _ (List.mem_append_left _ (List.mem_of_getElem? (i := 13) rfl))))))))))))))
theorem mw_h7_534 : Cond.methodLink RX11 283 yX11_fitsFrame ∈ VS_h7 := List.mem_append_right _ (List.mem_append_right _ (List.mem_append_right _ (List.mem_append_right _ (List.mem_append_right _ (List.mem_append_right _ (List.mem_append_right _ (List.mem_append_right _ (List.mem_append_right _ (List.mem_append_right _ (List.mem_append_right _ (List.mem_append_right _ (List.mem_append_right _ (List.mem_append_left _ (List.mem_of_getElem? (i := 14) rfl))))))))))))))
theorem mw_h7_535 : Cond.instanceMethod yX11_fitsFrame ∈ VS_h7 := List.mem_append_right _ (List.mem_append_right _ (List.mem_append_right _ (List.mem_append_right _ (List.mem_append_right _ (List.mem_append_right _ (List.mem_append_right _ (List.mem_append_right _ (List.mem_append_right _ (List.mem_append_right _ (List.mem_append_right _ (List.mem_append_right _ (List.mem_append_right _ (List.mem_append_left _ (List.mem_of_getElem? (i := 15) rfl))))))))))))))
theorem mw_h7_536 : Cond.selects RX11 yX11_fitsFrame yX11_fitsFrame ∈ VS_h7 := List.mem_append_right _ (List.mem_append_right _ (List.mem_append_right _ (List.mem_append_right _ (List.mem_append_right _ (List.mem_append_right _ (List.mem_append_right _ (List.mem_append_right _ (List.mem_append_right _ (List.mem_append_right _ (List.mem_append_right _ (List.mem_append_right _ (List.mem_append_right _ (List.mem_append_left _ (List.mem_of_getElem? (i := 16) rfl))))))))))))))
theorem mw_h7_537 : Cond.code yX11_takeFrame cX11_takeFrame 3 none ∈ VS_h7 := List.mem_append_right _ (List.mem_append_right _ (List.mem_append_right _ (List.mem_append_right _ (List.mem_append_right _ (List.mem_append_right _ (List.mem_append_right _ (List.mem_append_right _ (List.mem_append_right _ (List.mem_append_right _ (List.mem_append_right _ (List.mem_append_right _ (List.mem_append_right _ (List.mem_append_left _ (List.mem_of_getElem? (i := 17) rfl))))))))))))))
theorem mw_h7_538 : Cond.methodLink RX11 286 yX11_takeFrame ∈ VS_h7 := List.mem_append_right _ (List.mem_append_right _ (List.mem_append_right _ (List.mem_append_right _ (List.mem_append_right _ (List.mem_append_right _ (List.mem_append_right _ (List.mem_append_right _ (List.mem_append_right _ (List.mem_append_right _ (List.mem_append_right _ (List.mem_append_right _ (List.mem_append_right _ (List.mem_append_left _ (List.mem_of_getElem? (i := 18) rfl))))))))))))))
theorem mw_h7_539 : Cond.instanceMethod yX11_takeFrame ∈ VS_h7 := List.mem_append_right _ (List.mem_append_right _ (List.mem_append_right _ (List.mem_append_right _ (List.mem_append_right _ (List.mem_append_right _ (List.mem_append_right _ (List.mem_append_right _ (List.mem_append_right _ (List.mem_append_right _ (List.mem_append_right _ (List.mem_append_right _ (List.mem_append_right _ (List.mem_append_left _ (List.mem_of_getElem? (i := 19) rfl))))))))))))))
theorem mw_h7_540 : Cond.selects RX11 yX11_takeFrame yX11_takeFrame ∈ VS_h7 := List.mem_append_right _ (List.mem_append_right _ (List.mem_append_right _ (List.mem_append_right _ (List.mem_append_right _ (List.mem_append_right _ (List.mem_append_right _ (List.mem_append_right _ (List.mem_append_right _ (List.mem_append_right _ (List.mem_append_right _ (List.mem_append_right _ (List.mem_append_right _ (List.mem_append_left _ (List.mem_of_getElem? (i := 20) rfl))))))))))))))
theorem mw_h7_541 : Cond.code yX11_fitsHandlers cX11_fitsHandlers 5 (some .boolean) ∈ VS_h7 := List.mem_append_right _ (List.mem_append_right _ (List.mem_append_right _ (List.mem_append_right _ (List.mem_append_right _ (List.mem_append_right _ (List.mem_append_right _ (List.mem_append_right _ (List.mem_append_right _ (List.mem_append_right _ (List.mem_append_right _ (List.mem_append_right _ (List.mem_append_right _ (List.mem_append_left _ (List.mem_of_getElem? (i := 21) rfl))))))))))))))
theorem mw_h7_542 : Cond.methodLink RX11 289 yX11_fitsHandlers ∈ VS_h7 := List.mem_append_right _ (List.mem_append_right _ (List.mem_append_right _ (List.mem_append_right _ (List.mem_append_right _ (List.mem_append_right _ (List.mem_append_right _ (List.mem_append_right _ (List.mem_append_right _ (List.mem_append_right _ (List.mem_append_right _ (List.mem_append_right _ (List.mem_append_right _ (List.mem_append_left _ (List.mem_of_getElem? (i := 22) rfl))))))))))))))
theorem mw_h7_543 : Cond.instanceMethod yX11_fitsHandlers ∈ VS_h7 := List.mem_append_right _ (List.mem_append_right _ (List.mem_append_right _ (List.mem_append_right _ (List.mem_append_right _ (List.mem_append_right _ (List.mem_append_right _ (List.mem_append_right _ (List.mem_append_right _ (List.mem_append_right _ (List.mem_append_right _ (List.mem_append_right _ (List.mem_append_right _ (List.mem_append_left _ (List.mem_of_getElem? (i := 23) rfl))))))))))))))
theorem mw_h7_544 : Cond.selects RX11 yX11_fitsHandlers yX11_fitsHandlers ∈ VS_h7 := List.mem_append_right _ (List.mem_append_right _ (List.mem_append_right _ (List.mem_append_right _ (List.mem_append_right _ (List.mem_append_right _ (List.mem_append_right _ (List.mem_append_right _ (List.mem_append_right _ (List.mem_append_right _ (List.mem_append_right _ (List.mem_append_right _ (List.mem_append_right _ (List.mem_append_left _ (List.mem_of_getElem? (i := 24) rfl))))))))))))))
theorem mw_h7_545 : Cond.code yX2_readMember cX2_readMember 5 none ∈ VS_h7 := List.mem_append_right _ (List.mem_append_right _ (List.mem_append_right _ (List.mem_append_right _ (List.mem_append_right _ (List.mem_append_right _ (List.mem_append_right _ (List.mem_append_right _ (List.mem_append_right _ (List.mem_append_right _ (List.mem_append_right _ (List.mem_append_right _ (List.mem_append_right _ (List.mem_append_left _ (List.mem_of_getElem? (i := 25) rfl))))))))))))))
theorem mw_h7_546 : Cond.methodLink RX2 125 yX2_readMember ∈ VS_h7 := List.mem_append_right _ (List.mem_append_right _ (List.mem_append_right _ (List.mem_append_right _ (List.mem_append_right _ (List.mem_append_right _ (List.mem_append_right _ (List.mem_append_right _ (List.mem_append_right _ (List.mem_append_right _ (List.mem_append_right _ (List.mem_append_right _ (List.mem_append_right _ (List.mem_append_left _ (List.mem_of_getElem? (i := 26) rfl))))))))))))))
theorem mw_h7_547 : Cond.instanceMethod yX2_readMember ∈ VS_h7 := List.mem_append_right _ (List.mem_append_right _ (List.mem_append_right _ (List.mem_append_right _ (List.mem_append_right _ (List.mem_append_right _ (List.mem_append_right _ (List.mem_append_right _ (List.mem_append_right _ (List.mem_append_right _ (List.mem_append_right _ (List.mem_append_right _ (List.mem_append_right _ (List.mem_append_left _ (List.mem_of_getElem? (i := 27) rfl))))))))))))))
theorem mw_h7_548 : Cond.selects RX2 yX2_readMember yX2_readMember ∈ VS_h7 := List.mem_append_right _ (List.mem_append_right _ (List.mem_append_right _ (List.mem_append_right _ (List.mem_append_right _ (List.mem_append_right _ (List.mem_append_right _ (List.mem_append_right _ (List.mem_append_right _ (List.mem_append_right _ (List.mem_append_right _ (List.mem_append_right _ (List.mem_append_right _ (List.mem_append_left _ (List.mem_of_getElem? (i := 28) rfl))))))))))))))
theorem mw_h7_549 : Cond.code yX2_addKind cX2_addKind 4 none ∈ VS_h7 := List.mem_append_right _ (List.mem_append_right _ (List.mem_append_right _ (List.mem_append_right _ (List.mem_append_right _ (List.mem_append_right _ (List.mem_append_right _ (List.mem_append_right _ (List.mem_append_right _ (List.mem_append_right _ (List.mem_append_right _ (List.mem_append_right _ (List.mem_append_right _ (List.mem_append_left _ (List.mem_of_getElem? (i := 29) rfl))))))))))))))
theorem mw_h7_550 : Cond.methodLink RX2 147 yX2_addKind ∈ VS_h7 := List.mem_append_right _ (List.mem_append_right _ (List.mem_append_right _ (List.mem_append_right _ (List.mem_append_right _ (List.mem_append_right _ (List.mem_append_right _ (List.mem_append_right _ (List.mem_append_right _ (List.mem_append_right _ (List.mem_append_right _ (List.mem_append_right _ (List.mem_append_right _ (List.mem_append_left _ (List.mem_of_getElem? (i := 30) rfl))))))))))))))
theorem mw_h7_551 : Cond.instanceMethod yX2_addKind ∈ VS_h7 := List.mem_append_right _ (List.mem_append_right _ (List.mem_append_right _ (List.mem_append_right _ (List.mem_append_right _ (List.mem_append_right _ (List.mem_append_right _ (List.mem_append_right _ (List.mem_append_right _ (List.mem_append_right _ (List.mem_append_right _ (List.mem_append_right _ (List.mem_append_right _ (List.mem_append_left _ (List.mem_of_getElem? (i := 31) rfl))))))))))))))
theorem mw_h7_552 : Cond.selects RX2 yX2_addKind yX2_addKind ∈ VS_h7 := List.mem_append_right _ (List.mem_append_right _ (List.mem_append_right _ (List.mem_append_right _ (List.mem_append_right _ (List.mem_append_right _ (List.mem_append_right _ (List.mem_append_right _ (List.mem_append_right _ (List.mem_append_right _ (List.mem_append_right _ (List.mem_append_right _ (List.mem_append_right _ (List.mem_append_left _ (List.mem_of_getElem? (i := 32) rfl))))))))))))))
theorem mw_h7_553 : Cond.methodLink RX2 150 yX9_nameOf ∈ VS_h7 := List.mem_append_right _ (List.mem_append_right _ (List.mem_append_right _ (List.mem_append_right _ (List.mem_append_right _ (List.mem_append_right _ (List.mem_append_right _ (List.mem_append_right _ (List.mem_append_right _ (List.mem_append_right _ (List.mem_append_right _ (List.mem_append_right _ (List.mem_append_right _ (List.mem_append_left _ (List.mem_of_getElem? (i := 33) rfl))))))))))))))
theorem mw_h7_554 : Cond.code yX9_scanWord cX9_scanWord 8 (some .int) ∈ VS_h7 := List.mem_append_right _ (List.mem_append_right _ (List.mem_append_right _ (List.mem_append_right _ (List.mem_append_right _ (List.mem_append_right _ (List.mem_append_right _ (List.mem_append_right _ (List.mem_append_right _ (List.mem_append_right _ (List.mem_append_right _ (List.mem_append_right _ (List.mem_append_right _ (List.mem_append_left _ (List.mem_of_getElem? (i := 34) rfl))))))))))))))
theorem mw_h7_555 : Cond.methodLink RX9 107 yX9_scanWord ∈ VS_h7 := List.mem_append_right _ (List.mem_append_right _ (List.mem_append_right _ (List.mem_append_right _ (List.mem_append_right _ (List.mem_append_right _ (List.mem_append_right _ (List.mem_append_right _ (List.mem_append_right _ (List.mem_append_right _ (List.mem_append_right _ (List.mem_append_right _ (List.mem_append_right _ (List.mem_append_left _ (List.mem_of_getElem? (i := 35) rfl))))))))))))))
theorem mw_h7_556 : Cond.instanceMethod yX9_scanWord ∈ VS_h7 := List.mem_append_right _ (List.mem_append_right _ (List.mem_append_right _ (List.mem_append_right _ (List.mem_append_right _ (List.mem_append_right _ (List.mem_append_right _ (List.mem_append_right _ (List.mem_append_right _ (List.mem_append_right _ (List.mem_append_right _ (List.mem_append_right _ (List.mem_append_right _ (List.mem_append_left _ (List.mem_of_getElem? (i := 36) rfl))))))))))))))
theorem mw_h7_557 : Cond.selects RX9 yX9_scanWord yX9_scanWord ∈ VS_h7 := List.mem_append_right _ (List.mem_append_right _ (List.mem_append_right _ (List.mem_append_right _ (List.mem_append_right _ (List.mem_append_right _ (List.mem_append_right _ (List.mem_append_right _ (List.mem_append_right _ (List.mem_append_right _ (List.mem_append_right _ (List.mem_append_right _ (List.mem_append_right _ (List.mem_append_left _ (List.mem_of_getElem? (i := 37) rfl))))))))))))))
theorem mw_h7_558 : Cond.code yX9_signOf cX9_signOf 2 (some .int) ∈ VS_h7 := List.mem_append_right _ (List.mem_append_right _ (List.mem_append_right _ (List.mem_append_right _ (List.mem_append_right _ (List.mem_append_right _ (List.mem_append_right _ (List.mem_append_right _ (List.mem_append_right _ (List.mem_append_right _ (List.mem_append_right _ (List.mem_append_right _ (List.mem_append_right _ (List.mem_append_left _ (List.mem_of_getElem? (i := 38) rfl))))))))))))))
theorem mw_h7_559 : Cond.methodLink RX9 116 yX9_signOf ∈ VS_h7 := List.mem_append_right _ (List.mem_append_right _ (List.mem_append_right _ (List.mem_append_right _ (List.mem_append_right _ (List.mem_append_right _ (List.mem_append_right _ (List.mem_append_right _ (List.mem_append_right _ (List.mem_append_right _ (List.mem_append_right _ (List.mem_append_right _ (List.mem_append_right _ (List.mem_append_left _ (List.mem_of_getElem? (i := 39) rfl))))))))))))))
theorem mw_h7_560 : Cond.static yX9_signOf ∈ VS_h7 := List.mem_append_right _ (List.mem_append_right _ (List.mem_append_right _ (List.mem_append_right _ (List.mem_append_right _ (List.mem_append_right _ (List.mem_append_right _ (List.mem_append_right _ (List.mem_append_right _ (List.mem_append_right _ (List.mem_append_right _ (List.mem_append_right _ (List.mem_append_right _ (List.mem_append_right _ (List.mem_append_left _ (List.mem_of_getElem? (i := 0) rfl)))))))))))))))
theorem mw_h7_561 : Cond.code yX9_signLength cX9_signLength 1 (some .int) ∈ VS_h7 := List.mem_append_right _ (List.mem_append_right _ (List.mem_append_right _ (List.mem_append_right _ (List.mem_append_right _ (List.mem_append_right _ (List.mem_append_right _ (List.mem_append_right _ (List.mem_append_right _ (List.mem_append_right _ (List.mem_append_right _ (List.mem_append_right _ (List.mem_append_right _ (List.mem_append_right _ (List.mem_append_left _ (List.mem_of_getElem? (i := 1) rfl)))))))))))))))
theorem mw_h7_562 : Cond.methodLink RX9 120 yX9_signLength ∈ VS_h7 := List.mem_append_right _ (List.mem_append_right _ (List.mem_append_right _ (List.mem_append_right _ (List.mem_append_right _ (List.mem_append_right _ (List.mem_append_right _ (List.mem_append_right _ (List.mem_append_right _ (List.mem_append_right _ (List.mem_append_right _ (List.mem_append_right _ (List.mem_append_right _ (List.mem_append_right _ (List.mem_append_left _ (List.mem_of_getElem? (i := 2) rfl)))))))))))))))
theorem mw_h7_563 : Cond.static yX9_signLength ∈ VS_h7 := List.mem_append_right _ (List.mem_append_right _ (List.mem_append_right _ (List.mem_append_right _ (List.mem_append_right _ (List.mem_append_right _ (List.mem_append_right _ (List.mem_append_right _ (List.mem_append_right _ (List.mem_append_right _ (List.mem_append_right _ (List.mem_append_right _ (List.mem_append_right _ (List.mem_append_right _ (List.mem_append_left _ (List.mem_of_getElem? (i := 3) rfl)))))))))))))))
theorem mw_h7_564 : Cond.code yX10_closeShort cX10_closeShort 4 none ∈ VS_h7 := List.mem_append_right _ (List.mem_append_right _ (List.mem_append_right _ (List.mem_append_right _ (List.mem_append_right _ (List.mem_append_right _ (List.mem_append_right _ (List.mem_append_right _ (List.mem_append_right _ (List.mem_append_right _ (List.mem_append_right _ (List.mem_append_right _ (List.mem_append_right _ (List.mem_append_right _ (List.mem_append_left _ (List.mem_of_getElem? (i := 4) rfl)))))))))))))))
theorem mw_h7_565 : Cond.methodLink RX10 149 yX10_closeShort ∈ VS_h7 := List.mem_append_right _ (List.mem_append_right _ (List.mem_append_right _ (List.mem_append_right _ (List.mem_append_right _ (List.mem_append_right _ (List.mem_append_right _ (List.mem_append_right _ (List.mem_append_right _ (List.mem_append_right _ (List.mem_append_right _ (List.mem_append_right _ (List.mem_append_right _ (List.mem_append_right _ (List.mem_append_left _ (List.mem_of_getElem? (i := 5) rfl)))))))))))))))
theorem mw_h7_566 : Cond.instanceMethod yX10_closeShort ∈ VS_h7 := List.mem_append_right _ (List.mem_append_right _ (List.mem_append_right _ (List.mem_append_right _ (List.mem_append_right _ (List.mem_append_right _ (List.mem_append_right _ (List.mem_append_right _ (List.mem_append_right _ (List.mem_append_right _ (List.mem_append_right _ (List.mem_append_right _ (List.mem_append_right _ (List.mem_append_right _ (List.mem_append_left _ (List.mem_of_getElem? (i := 6) rfl)))))))))))))))
theorem mw_h7_567 : Cond.selects RX10 yX10_closeShort yX10_closeShort ∈ VS_h7 := List.mem_append_right _ (List.mem_append_right _ (List.mem_append_right _ (List.mem_append_right _ (List.mem_append_right _ (List.mem_append_right _ (List.mem_append_right _ (List.mem_append_right _ (List.mem_append_right _ (List.mem_append_right _ (List.mem_append_right _ (List.mem_append_right _ (List.mem_append_right _ (List.mem_append_right _ (List.mem_append_left _ (List.mem_of_getElem? (i := 7) rfl)))))))))))))))
theorem mw_h7_568 : Cond.code yX10_isPair cX10_isPair 3 (some .boolean) ∈ VS_h7 := List.mem_append_right _ (List.mem_append_right _ (List.mem_append_right _ (List.mem_append_right _ (List.mem_append_right _ (List.mem_append_right _ (List.mem_append_right _ (List.mem_append_right _ (List.mem_append_right _ (List.mem_append_right _ (List.mem_append_right _ (List.mem_append_right _ (List.mem_append_right _ (List.mem_append_right _ (List.mem_append_left _ (List.mem_of_getElem? (i := 8) rfl)))))))))))))))
theorem mw_h7_569 : Cond.methodLink RX10 124 yX10_isPair ∈ VS_h7 := List.mem_append_right _ (List.mem_append_right _ (List.mem_append_right _ (List.mem_append_right _ (List.mem_append_right _ (List.mem_append_right _ (List.mem_append_right _ (List.mem_append_right _ (List.mem_append_right _ (List.mem_append_right _ (List.mem_append_right _ (List.mem_append_right _ (List.mem_append_right _ (List.mem_append_right _ (List.mem_append_left _ (List.mem_of_getElem? (i := 9) rfl)))))))))))))))
theorem mw_h7_570 : Cond.instanceMethod yX10_isPair ∈ VS_h7 := List.mem_append_right _ (List.mem_append_right _ (List.mem_append_right _ (List.mem_append_right _ (List.mem_append_right _ (List.mem_append_right _ (List.mem_append_right _ (List.mem_append_right _ (List.mem_append_right _ (List.mem_append_right _ (List.mem_append_right _ (List.mem_append_right _ (List.mem_append_right _ (List.mem_append_right _ (List.mem_append_left _ (List.mem_of_getElem? (i := 10) rfl)))))))))))))))
theorem mw_h7_571 : Cond.selects RX10 yX10_isPair yX10_isPair ∈ VS_h7 := List.mem_append_right _ (List.mem_append_right _ (List.mem_append_right _ (List.mem_append_right _ (List.mem_append_right _ (List.mem_append_right _ (List.mem_append_right _ (List.mem_append_right _ (List.mem_append_right _ (List.mem_append_right _ (List.mem_append_right _ (List.mem_append_right _ (List.mem_append_right _ (List.mem_append_right _ (List.mem_append_left _ (List.mem_of_getElem? (i := 11) rfl)))))))))))))))
theorem mw_h7_572 : Cond.code yX4_isNumber cX4_isNumber 1 (some .boolean) ∈ VS_h7 := List.mem_append_right _ (List.mem_append_right _ (List.mem_append_right _ (List.mem_append_right _ (List.mem_append_right _ (List.mem_append_right _ (List.mem_append_right _ (List.mem_append_right _ (List.mem_append_right _ (List.mem_append_right _ (List.mem_append_right _ (List.mem_append_right _ (List.mem_append_right _ (List.mem_append_right _ (List.mem_append_left _ (List.mem_of_getElem? (i := 12) rfl)))))))))))))))
theorem mw_h7_573 : Cond.methodLink RX10 143 yX4_isNumber ∈ VS_h7 := List.mem_append_right _ (List.mem_append_right _ (List.mem_append_right _ (List.mem_append_right _ (List.mem_append_right _ (List.mem_append_right _ (List.mem_append_right _ (List.mem_append_right _ (List.mem_append_right _ (List.mem_append_right _ (List.mem_append_right _ (List.mem_append_right _ (List.mem_append_right _ (List.mem_append_right _ (List.mem_append_left _ (List.mem_of_getElem? (i := 13) rfl)))))))))))))))
theorem mw_h7_574 : Cond.static yX4_isNumber ∈ VS_h7 := List.mem_append_right _ (List.mem_append_right _ (List.mem_append_right _ (List.mem_append_right _ (List.mem_append_right _ (List.mem_append_right _ (List.mem_append_right _ (List.mem_append_right _ (List.mem_append_right _ (List.mem_append_right _ (List.mem_append_right _ (List.mem_append_right _ (List.mem_append_right _ (List.mem_append_right _ (List.mem_append_left _ (List.mem_of_getElem? (i := 14) rfl)))))))))))))))
theorem mw_h7_575 : Cond.code yX10_compareOp cX10_compareOp 2 (some .int) ∈ VS_h7 := List.mem_append_right _ (List.mem_append_right _ (List.mem_append_right _ (List.mem_append_right _ (List.mem_append_right _ (List.mem_append_right _ (List.mem_append_right _ (List.mem_append_right _ (List.mem_append_right _ (List.mem_append_right _ (List.mem_append_right _ (List.mem_append_right _ (List.mem_append_right _ (List.mem_append_right _ (List.mem_append_left _ (List.mem_of_getElem? (i := 15) rfl)))))))))))))))
theorem mw_h7_576 : Cond.methodLink RX10 152 yX10_compareOp ∈ VS_h7 := List.mem_append_right _ (List.mem_append_right _ (List.mem_append_right _ (List.mem_append_right _ (List.mem_append_right _ (List.mem_append_right _ (List.mem_append_right _ (List.mem_append_right _ (List.mem_append_right _ (List.mem_append_right _ (List.mem_append_right _ (List.mem_append_right _ (List.mem_append_right _ (List.mem_append_right _ (List.mem_append_left _ (List.mem_of_getElem? (i := 16) rfl)))))))))))))))
theorem mw_h7_577 : Cond.static yX10_compareOp ∈ VS_h7 := List.mem_append_right _ (List.mem_append_right _ (List.mem_append_right _ (List.mem_append_right _ (List.mem_append_right _ (List.mem_append_right _ (List.mem_append_right _ (List.mem_append_right _ (List.mem_append_right _ (List.mem_append_right _ (List.mem_append_right _ (List.mem_append_right _ (List.mem_append_right _ (List.mem_append_right _ (List.mem_append_left _ (List.mem_of_getElem? (i := 17) rfl)))))))))))))))
theorem mw_h7_578 : Cond.code yX10_arithmeticOp cX10_arithmeticOp 1 (some .int) ∈ VS_h7 := List.mem_append_right _ (List.mem_append_right _ (List.mem_append_right _ (List.mem_append_right _ (List.mem_append_right _ (List.mem_append_right _ (List.mem_append_right _ (List.mem_append_right _ (List.mem_append_right _ (List.mem_append_right _ (List.mem_append_right _ (List.mem_append_right _ (List.mem_append_right _ (List.mem_append_right _ (List.mem_append_left _ (List.mem_of_getElem? (i := 18) rfl)))))))))))))))
theorem mw_h7_579 : Cond.methodLink RX10 159 yX10_arithmeticOp ∈ VS_h7 := List.mem_append_right _ (List.mem_append_right _ (List.mem_append_right _ (List.mem_append_right _ (List.mem_append_right _ (List.mem_append_right _ (List.mem_append_right _ (List.mem_append_right _ (List.mem_append_right _ (List.mem_append_right _ (List.mem_append_right _ (List.mem_append_right _ (List.mem_append_right _ (List.mem_append_right _ (List.mem_append_left _ (List.mem_of_getElem? (i := 19) rfl)))))))))))))))
theorem mw_h7_580 : Cond.static yX10_arithmeticOp ∈ VS_h7 := List.mem_append_right _ (List.mem_append_right _ (List.mem_append_right _ (List.mem_append_right _ (List.mem_append_right _ (List.mem_append_right _ (List.mem_append_right _ (List.mem_append_right _ (List.mem_append_right _ (List.mem_append_right _ (List.mem_append_right _ (List.mem_append_right _ (List.mem_append_right _ (List.mem_append_right _ (List.mem_append_left _ (List.mem_of_getElem? (i := 20) rfl)))))))))))))))
theorem mw_h7_581 : Cond.fieldLink RX10 22 "ClassMill$Values" "leftFirst" "[I" ∈ VS_h7 := List.mem_append_right _ (List.mem_append_right _ (List.mem_append_right _ (List.mem_append_right _ (List.mem_append_right _ (List.mem_append_right _ (List.mem_append_right _ (List.mem_append_right _ (List.mem_append_right _ (List.mem_append_right _ (List.mem_append_right _ (List.mem_append_right _ (List.mem_append_right _ (List.mem_append_right _ (List.mem_append_left _ (List.mem_of_getElem? (i := 21) rfl)))))))))))))))
theorem mw_h7_582 : Cond.fieldLink RX10 65 "ClassMill$Values" "open" "I" ∈ VS_h7 := List.mem_append_right _ (List.mem_append_right _ (List.mem_append_right _ (List.mem_append_right _ (List.mem_append_right _ (List.mem_append_right _ (List.mem_append_right _ (List.mem_append_right _ (List.mem_append_right _ (List.mem_append_right _ (List.mem_append_right _ (List.mem_append_right _ (List.mem_append_right _ (List.mem_append_right _ (List.mem_append_left _ (List.mem_of_getElem? (i := 22) rfl)))))))))))))))
theorem mw_h7_583 : Cond.fieldLink RX10 19 "ClassMill$Values" "signAt" "[I" ∈ VS_h7 := List.mem_append_right _ (List.mem_append_right _ (List.mem_append_right _ (List.mem_append_right _ (List.mem_append_right _ (List.mem_append_right _ (List.mem_append_right _ (List.mem_append_right _ (List.mem_append_right _ (List.mem_append_right _ (List.mem_append_right _ (List.mem_append_right _ (List.mem_append_right _ (List.mem_append_right _ (List.mem_append_left _ (List.mem_of_getElem? (i := 23) rfl)))))))))))))))
theorem mw_h7_584 : Cond.fieldLink RX10 28 "ClassMill$Values" "leftJump" "[I" ∈ VS_h7 := List.mem_append_right _ (List.mem_append_right _ (List.mem_append_right _ (List.mem_append_right _ (List.mem_append_right _ (List.mem_append_right _ (List.mem_append_right _ (List.mem_append_right _ (List.mem_append_right _ (List.mem_append_right _ (List.mem_append_right _ (List.mem_append_right _ (List.mem_append_right _ (List.mem_append_right _ (List.mem_append_left _ (List.mem_of_getElem? (i := 24) rfl)))))))))))))))
theorem mw_h7_585 : Cond.fieldLink RX10 15 "ClassMill$Values" "signs" "[I" ∈ VS_h7 := List.mem_append_right _ (List.mem_append_right _ (List.mem_append_right _ (List.mem_append_right _ (List.mem_append_right _ (List.mem_append_right _ (List.mem_append_right _ (List.mem_append_right _ (List.mem_append_right _ (List.mem_append_right _ (List.mem_append_right _ (List.mem_append_right _ (List.mem_append_right _ (List.mem_append_right _ (List.mem_append_left _ (List.mem_of_getElem? (i := 25) rfl)))))))))))))))
theorem mw_h7_586 : Cond.fieldLink RX10 25 "ClassMill$Values" "leftType" "[I" ∈ VS_h7 := List.mem_append_right _ (List.mem_append_right _ (List.mem_append_right _ (List.mem_append_right _ (List.mem_append_right _ (List.mem_append_right _ (List.mem_append_right _ (List.mem_append_right _ (List.mem_append_right _ (List.mem_append_right _ (List.mem_append_right _ (List.mem_append_right _ (List.mem_append_right _ (List.mem_append_right _ (List.mem_append_left _ (List.mem_of_getElem? (i := 26) rfl)))))))))))))))
theorem mw_h7_587 : Cond.code yX2_nameKind cX2_nameKind 2 (some .int) ∈ VS_h7 := List.mem_append_right _ (List.mem_append_right _ (List.mem_append_right _ (List.mem_append_right _ (List.mem_append_right _ (List.mem_append_right _ (List.mem_append_right _ (List.mem_append_right _ (List.mem_append_right _ (List.mem_append_right _ (List.mem_append_right _ (List.mem_append_right _ (List.mem_append_right _ (List.mem_append_right _ (List.mem_append_left _ (List.mem_of_getElem? (i := 27) rfl)))))))))))))))
theorem mw_h7_588 : Cond.methodLink RX2 138 yX2_nameKind ∈ VS_h7 := List.mem_append_right _ (List.mem_append_right _ (List.mem_append_right _ (List.mem_append_right _ (List.mem_append_right _ (List.mem_append_right _ (List.mem_append_right _ (List.mem_append_right _ (List.mem_append_right _ (List.mem_append_right _ (List.mem_append_right _ (List.mem_append_right _ (List.mem_append_right _ (List.mem_append_right _ (List.mem_append_left _ (List.mem_of_getElem? (i := 28) rfl)))))))))))))))
theorem mw_h7_589 : Cond.instanceMethod yX2_nameKind ∈ VS_h7 := List.mem_append_right _ (List.mem_append_right _ (List.mem_append_right _ (List.mem_append_right _ (List.mem_append_right _ (List.mem_append_right _ (List.mem_append_right _ (List.mem_append_right _ (List.mem_append_right _ (List.mem_append_right _ (List.mem_append_right _ (List.mem_append_right _ (List.mem_append_right _ (List.mem_append_right _ (List.mem_append_left _ (List.mem_of_getElem? (i := 29) rfl)))))))))))))))
theorem mw_h7_590 : Cond.selects RX2 yX2_nameKind yX2_nameKind ∈ VS_h7 := List.mem_append_right _ (List.mem_append_right _ (List.mem_append_right _ (List.mem_append_right _ (List.mem_append_right _ (List.mem_append_right _ (List.mem_append_right _ (List.mem_append_right _ (List.mem_append_right _ (List.mem_append_right _ (List.mem_append_right _ (List.mem_append_right _ (List.mem_append_right _ (List.mem_append_right _ (List.mem_append_left _ (List.mem_of_getElem? (i := 30) rfl)))))))))))))))
theorem mw_h7_591 : Cond.code yX2_nameMethodKind cX2_nameMethodKind 3 (some .int) ∈ VS_h7 := List.mem_append_right _ (List.mem_append_right _ (List.mem_append_right _ (List.mem_append_right _ (List.mem_append_right _ (List.mem_append_right _ (List.mem_append_right _ (List.mem_append_right _ (List.mem_append_right _ (List.mem_append_right _ (List.mem_append_right _ (List.mem_append_right _ (List.mem_append_right _ (List.mem_append_right _ (List.mem_append_left _ (List.mem_of_getElem? (i := 31) rfl)))))))))))))))
theorem mw_h7_592 : Cond.methodLink RX2 141 yX2_nameMethodKind ∈ VS_h7 := List.mem_append_right _ (List.mem_append_right _ (List.mem_append_right _ (List.mem_append_right _ (List.mem_append_right _ (List.mem_append_right _ (List.mem_append_right _ (List.mem_append_right _ (List.mem_append_right _ (List.mem_append_right _ (List.mem_append_right _ (List.mem_append_right _ (List.mem_append_right _ (List.mem_append_right _ (List.mem_append_left _ (List.mem_of_getElem? (i := 32) rfl)))))))))))))))
theorem mw_h7_593 : Cond.instanceMethod yX2_nameMethodKind ∈ VS_h7 := List.mem_append_right _ (List.mem_append_right _ (List.mem_append_right _ (List.mem_append_right _ (List.mem_append_right _ (List.mem_append_right _ (List.mem_append_right _ (List.mem_append_right _ (List.mem_append_right _ (List.mem_append_right _ (List.mem_append_right _ (List.mem_append_right _ (List.mem_append_right _ (List.mem_append_right _ (List.mem_append_left _ (List.mem_of_getElem? (i := 33) rfl)))))))))))))))
theorem mw_h7_594 : Cond.selects RX2 yX2_nameMethodKind yX2_nameMethodKind ∈ VS_h7 := List.mem_append_right _ (List.mem_append_right _ (List.mem_append_right _ (List.mem_append_right _ (List.mem_append_right _ (List.mem_append_right _ (List.mem_append_right _ (List.mem_append_right _ (List.mem_append_right _ (List.mem_append_right _ (List.mem_append_right _ (List.mem_append_right _ (List.mem_append_right _ (List.mem_append_right _ (List.mem_append_left _ (List.mem_of_getElem? (i := 34) rfl)))))))))))))))
theorem mw_h7_595 : Cond.fieldLink RX2 55 "ClassMill$Heads" "methodKind" "[I" ∈ VS_h7 := List.mem_append_right _ (List.mem_append_right _ (List.mem_append_right _ (List.mem_append_right _ (List.mem_append_right _ (List.mem_append_right _ (List.mem_append_right _ (List.mem_append_right _ (List.mem_append_right _ (List.mem_append_right _ (List.mem_append_right _ (List.mem_append_right _ (List.mem_append_right _ (List.mem_append_right _ (List.mem_append_left _ (List.mem_of_getElem? (i := 35) rfl)))))))))))))))
theorem mw_h7_596 : Cond.fieldLink RX2 30 "ClassMill$Heads" "fieldName" "[I" ∈ VS_h7 := List.mem_append_right _ (List.mem_append_right _ (List.mem_append_right _ (List.mem_append_right _ (List.mem_append_right _ (List.mem_append_right _ (List.mem_append_right _ (List.mem_append_right _ (List.mem_append_right _ (List.mem_append_right _ (List.mem_append_right _ (List.mem_append_right _ (List.mem_append_right _ (List.mem_append_right _ (List.mem_append_left _ (List.mem_of_getElem? (i := 36) rfl)))))))))))))))
theorem mw_h7_597 : Cond.fieldLink RX2 36 "ClassMill$Heads" "fieldKind" "[I" ∈ VS_h7 := List.mem_append_right _ (List.mem_append_right _ (List.mem_append_right _ (List.mem_append_right _ (List.mem_append_right _ (List.mem_append_right _ (List.mem_append_right _ (List.mem_append_right _ (List.mem_append_right _ (List.mem_append_right _ (List.mem_append_right _ (List.mem_append_right _ (List.mem_append_right _ (List.mem_append_right _ (List.mem_append_left _ (List.mem_of_getElem? (i := 37) rfl)))))))))))))))
theorem mw_h7_598 : Cond.fieldLink RX2 33 "ClassMill$Heads" "fieldType" "[I" ∈ VS_h7 := List.mem_append_right _ (List.mem_append_right _ (List.mem_append_right _ (List.mem_append_right _ (List.mem_append_right _ (List.mem_append_right _ (List.mem_append_right _ (List.mem_append_right _ (List.mem_append_right _ (List.mem_append_right _ (List.mem_append_right _ (List.mem_append_right _ (List.mem_append_right _ (List.mem_append_right _ (List.mem_append_left _ (List.mem_of_getElem? (i := 38) rfl)))))))))))))))
theorem mw_h7_599 : Cond.code yX3_checkConstant cX3_checkConstant 4 none ∈ VS_h7 := List.mem_append_right _ (List.mem_append_right _ (List.mem_append_right _ (List.mem_append_right _ (List.mem_append_right _ (List.mem_append_right _ (List.mem_append_right _ (List.mem_append_right _ (List.mem_append_right _ (List.mem_append_right _ (List.mem_append_right _ (List.mem_append_right _ (List.mem_append_right _ (List.mem_append_right _ (List.mem_append_left _ (List.mem_of_getElem? (i := 39) rfl)))))))))))))))
theorem mw_h7_600 : Cond.methodLink RX3 96 yX3_checkConstant ∈ VS_h7 := List.mem_append_right _ (List.mem_append_right _ (List.mem_append_right _ (List.mem_append_right _ (List.mem_append_right _ (List.mem_append_right _ (List.mem_append_right _ (List.mem_append_right _ (List.mem_append_right _ (List.mem_append_right _ (List.mem_append_right _ (List.mem_append_right _ (List.mem_append_right _ (List.mem_append_right _ (List.mem_append_right _ (List.mem_append_left _ (List.mem_of_getElem? (i := 0) rfl))))))))))))))))
theorem mw_h7_601 : Cond.instanceMethod yX3_checkConstant ∈ VS_h7 := List.mem_append_right _ (List.mem_append_right _ (List.mem_append_right _ (List.mem_append_right _ (List.mem_append_right _ (List.mem_append_right _ (List.mem_append_right _ (List.mem_append_right _ (List.mem_append_right _ (List.mem_append_right _ (List.mem_append_right _ (List.mem_append_right _ (List.mem_append_right _ (List.mem_append_right _ (List.mem_append_right _ (List.mem_append_left _ (List.mem_of_getElem? (i := 1) rfl))))))))))))))))
theorem mw_h7_602 : Cond.selects RX3 yX3_checkConstant yX3_checkConstant ∈ VS_h7 := List.mem_append_right _ (List.mem_append_right _ (List.mem_append_right _ (List.mem_append_right _ (List.mem_append_right _ (List.mem_append_right _ (List.mem_append_right _ (List.mem_append_right _ (List.mem_append_right _ (List.mem_append_right _ (List.mem_append_right _ (List.mem_append_right _ (List.mem_append_right _ (List.mem_append_right _ (List.mem_append_right _ (List.mem_append_left _ (List.mem_of_getElem? (i := 2) rfl))))))))))))))))
theorem mw_h7_603 : Cond.fieldLink RX3 90 "ClassMill$Image" "constants" "I" ∈ VS_h7 := List.mem_append_right _ (List.mem_append_right _ (List.mem_append_right _ (List.mem_append_right _ (List.mem_append_right _ (List.mem_append_right _ (List.mem_append_right _ (List.mem_append_right _ (List.mem_append_right _ (List.mem_append_right _ (List.mem_append_right _ (List.mem_append_right _ (List.mem_append_right _ (List.mem_append_right _ (List.mem_append_right _ (List.mem_append_left _ (List.mem_of_getElem? (i := 3) rfl))))))))))))))))
theorem mw_h7_604 : Cond.code yX9_scanToken cX9_scanToken 8 (some .int) ∈ VS_h7 := List.mem_append_right _ (List.mem_append_right _ (List.mem_append_right _ (List.mem_append_right _ (List.mem_append_right _ (List.mem_append_right _ (List.mem_append_right _ (List.mem_append_right _ (List.mem_append_right _ (List.mem_append_right _ (List.mem_append_right _ (List.mem_append_right _ (List.mem_append_right _ (List.mem_append_right _ (List.mem_append_right _ (List.mem_append_left _ (List.mem_of_getElem? (i := 4) rfl))))))))))))))))
theorem mw_h7_605 : Cond.methodLink RX9 96 yX9_scanToken ∈ VS_h7 := List.mem_append_right _ (List.mem_append_right _ (List.mem_append_right _ (List.mem_append_right _ (List.mem_append_right _ (List.mem_append_right _ (List.mem_append_right _ (List.mem_append_right _ (List.mem_append_right _ (List.mem_append_right _ (List.mem_append_right _ (List.mem_append_right _ (List.mem_append_right _ (List.mem_append_right _ (List.mem_append_right _ (List.mem_append_left _ (List.mem_of_getElem? (i := 5) rfl))))))))))))))))
theorem mw_h7_606 : Cond.instanceMethod yX9_scanToken ∈ VS_h7 := List.mem_append_right _ (List.mem_append_right _ (List.mem_append_right _ (List.mem_append_right _ (List.mem_append_right _ (List.mem_append_right _ (List.mem_append_right _ (List.mem_append_right _ (List.mem_append_right _ (List.mem_append_right _ (List.mem_append_right _ (List.mem_append_right _ (List.mem_append_right _ (List.mem_append_right _ (List.mem_append_right _ (List.mem_append_left _ (List.mem_of_getElem? (i := 6) rfl))))))))))))))))
theorem mw_h7_607 : Cond.selects RX9 yX9_scanToken yX9_scanToken ∈ VS_h7 := List.mem_append_right _ (List.mem_append_right _ (List.mem_append_right _ (List.mem_append_right _ (List.mem_append_right _ (List.mem_append_right _ (List.mem_append_right _ (List.mem_append_right _ (List.mem_append_right _ (List.mem_append_right _ (List.mem_append_right _ (List.mem_append_right _ (List.mem_append_right _ (List.mem_append_right _ (List.mem_append_right _ (List.mem_append_left _ (List.mem_of_getElem? (i := 7) rfl))))))))))))))))
theorem mw_h7_608 : Cond.fieldLink RX9 38 "ClassMill$Text" "knownBucket" "[I" ∈ VS_h7 := List.mem_append_right _ (List.mem_append_right _ (List.mem_append_right _ (List.mem_append_right _ (List.mem_append_right _ (List.mem_append_right _ (List.mem_append_right _ (List.mem_append_right _ (List.mem_append_right _ (List.mem_append_right _ (List.mem_append_right _ (List.mem_append_right _ (List.mem_append_right _ (List.mem_append_right _ (List.mem_append_right _ (List.mem_append_left _ (List.mem_of_getElem? (i := 8) rfl))))))))))))))))
theorem mw_h7_609 : Cond.fieldLink RX9 83 "ClassMill$Text" "count" "I" ∈ VS_h7 := List.mem_append_right _ (List.mem_append_right _ (List.mem_append_right _ (List.mem_append_right _ (List.mem_append_right _ (List.mem_append_right _ (List.mem_append_right _ (List.mem_append_right _ (List.mem_append_right _ (List.mem_append_right _ (List.mem_append_right _ (List.mem_append_right _ (List.mem_append_right _ (List.mem_append_right _ (List.mem_append_right _ (List.mem_append_left _ (List.mem_of_getElem? (i := 9) rfl))))))))))))))))
theorem mw_h7_610 : Cond.fieldLink RX9 86 "ClassMill$Text" "pos" "I" ∈ VS_h7 := List.mem_append_right _ (List.mem_append_right _ (List.mem_append_right _ (List.mem_append_right _ (List.mem_append_right _ (List.mem_append_right _ (List.mem_append_right _ (List.mem_append_right _ (List.mem_append_right _ (List.mem_append_right _ (List.mem_append_right _ (List.mem_append_right _ (List.mem_append_right _ (List.mem_append_right _ (List.mem_append_right _ (List.mem_append_left _ (List.mem_of_getElem? (i := 10) rfl))))))))))))))))
theorem mw_h7_611 : Cond.fieldLink RX9 80 "ClassMill$Text" "fault" "I" ∈ VS_h7 := List.mem_append_right _ (List.mem_append_right _ (List.mem_append_right _ (List.mem_append_right _ (List.mem_append_right _ (List.mem_append_right _ (List.mem_append_right _ (List.mem_append_right _ (List.mem_append_right _ (List.mem_append_right _ (List.mem_append_right _ (List.mem_append_right _ (List.mem_append_right _ (List.mem_append_right _ (List.mem_append_right _ (List.mem_append_left _ (List.mem_of_getElem? (i := 11) rfl))))))))))))))))
theorem mw_h7_612 : Cond.fieldLink RX9 41 "ClassMill$Text" "place" "I" ∈ VS_h7 := List.mem_append_right _ (List.mem_append_right _ (List.mem_append_right _ (List.mem_append_right _ (List.mem_append_right _ (List.mem_append_right _ (List.mem_append_right _ (List.mem_append_right _ (List.mem_append_right _ (List.mem_append_right _ (List.mem_append_right _ (List.mem_append_right _ (List.mem_append_right _ (List.mem_append_right _ (List.mem_append_right _ (List.mem_append_left _ (List.mem_of_getElem? (i := 12) rfl))))))))))))))))
theorem mw_h7_613 : Cond.code yX3_readConstants cX3_readConstants 2 none ∈ VS_h7 := List.mem_append_right _ (List.mem_append_right _ (List.mem_append_right _ (List.mem_append_right _ (List.mem_append_right _ (List.mem_append_right _ (List.mem_append_right _ (List.mem_append_right _ (List.mem_append_right _ (List.mem_append_right _ (List.mem_append_right _ (List.mem_append_right _ (List.mem_append_right _ (List.mem_append_right _ (List.mem_append_right _ (List.mem_append_left _ (List.mem_of_getElem? (i := 13) rfl))))))))))))))))
theorem mw_h7_614 : Cond.methodLink RX3 55 yX3_readConstants ∈ VS_h7 := List.mem_append_right _ (List.mem_append_right _ (List.mem_append_right _ (List.mem_append_right _ (List.mem_append_right _ (List.mem_append_right _ (List.mem_append_right _ (List.mem_append_right _ (List.mem_append_right _ (List.mem_append_right _ (List.mem_append_right _ (List.mem_append_right _ (List.mem_append_right _ (List.mem_append_right _ (List.mem_append_right _ (List.mem_append_left _ (List.mem_of_getElem? (i := 14) rfl))))))))))))))))
theorem mw_h7_615 : Cond.instanceMethod yX3_readConstants ∈ VS_h7 := List.mem_append_right _ (List.mem_append_right _ (List.mem_append_right _ (List.mem_append_right _ (List.mem_append_right _ (List.mem_append_right _ (List.mem_append_right _ (List.mem_append_right _ (List.mem_append_right _ (List.mem_append_right _ (List.mem_append_right _ (List.mem_append_right _ (List.mem_append_right _ (List.mem_append_right _ (List.mem_append_right _ (List.mem_append_left _ (List.mem_of_getElem? (i := 15) rfl))))))))))))))))
theorem mw_h7_616 : Cond.selects RX3 yX3_readConstants yX3_readConstants ∈ VS_h7 := List.mem_append_right _ (List.mem_append_right _ (List.mem_append_right _ (List.mem_append_right _ (List.mem_append_right _ (List.mem_append_right _ (List.mem_append_right _ (List.mem_append_right _ (List.mem_append_right _ (List.mem_append_right _ (List.mem_append_right _ (List.mem_append_right _ (List.mem_append_right _ (List.mem_append_right _ (List.mem_append_right _ (List.mem_append_left _ (List.mem_of_getElem? (i := 16) rfl))))))))))))))))
theorem mw_h7_617 : Cond.code yX3_nextPlainClass cX3_nextPlainClass 3 (some .int) ∈ VS_h7 := List.mem_append_right _ (List.mem_append_right _ (List.mem_append_right _ (List.mem_append_right _ (List.mem_append_right _ (List.mem_append_right _ (List.mem_append_right _ (List.mem_append_right _ (List.mem_append_right _ (List.mem_append_right _ (List.mem_append_right _ (List.mem_append_right _ (List.mem_append_right _ (List.mem_append_right _ (List.mem_append_right _ (List.mem_append_left _ (List.mem_of_getElem? (i := 17) rfl))))))))))))))))
theorem mw_h7_618 : Cond.methodLink RX3 58 yX3_nextPlainClass ∈ VS_h7 := List.mem_append_right _ (List.mem_append_right _ (List.mem_append_right _ (List.mem_append_right _ (List.mem_append_right _ (List.mem_append_right _ (List.mem_append_right _ (List.mem_append_right _ (List.mem_append_right _ (List.mem_append_right _ (List.mem_append_right _ (List.mem_append_right _ (List.mem_append_right _ (List.mem_append_right _ (List.mem_append_right _ (List.mem_append_left _ (List.mem_of_getElem? (i := 18) rfl))))))))))))))))
theorem mw_h7_619 : Cond.instanceMethod yX3_nextPlainClass ∈ VS_h7 := List.mem_append_right _ (List.mem_append_right _ (List.mem_append_right _ (List.mem_append_right _ (List.mem_append_right _ (List.mem_append_right _ (List.mem_append_right _ (List.mem_append_right _ (List.mem_append_right _ (List.mem_append_right _ (List.mem_append_right _ (List.mem_append_right _ (List.mem_append_right _ (List.mem_append_right _ (List.mem_append_right _ (List.mem_append_left _ (List.mem_of_getElem? (i := 19) rfl))))))))))))))))
theorem mw_h7_620 : Cond.selects RX3 yX3_nextPlainClass yX3_nextPlainClass ∈ VS_h7 := List.mem_append_right _ (List.mem_append_right _ (List.mem_append_right _ (List.mem_append_right _ (List.mem_append_right _ (List.mem_append_right _ (List.mem_append_right _ (List.mem_append_right _ (List.mem_append_right _ (List.mem_append_right _ (List.mem_append_right _ (List.mem_append_right _ (List.mem_append_right _ (List.mem_append_right _ (List.mem_append_right _ (List.mem_append_left _ (List.mem_of_getElem? (i := 20) rfl))))))))))))))))
theorem mw_h7_621 : Cond.code yX3_readFields cX3_readFields 4 none ∈ VS_h7 := List.mem_append_right _ (List.mem_append_right _ (List.mem_append_right _ (List.mem_append_right _ (List.mem_append_right _ (List.mem_append_right _ (List.mem_append_right _ (List.mem_append_right _ (List.mem_append_right _ (List.mem_append_right _ (List.mem_append_right _ (List.mem_append_right _ (List.mem_append_right _ (List.mem_append_right _ (List.mem_append_right _ (List.mem_append_left _ (List.mem_of_getElem? (i := 21) rfl))))))))))))))))
theorem mw_h7_622 : Cond.methodLink RX3 68 yX3_readFields ∈ VS_h7 := List.mem_append_right _ (List.mem_append_right _ (List.mem_append_right _ (List.mem_append_right _ (List.mem_append_right _ (List.mem_append_right _ (List.mem_append_right _ (List.mem_append_right _ (List.mem_append_right _ (List.mem_append_right _ (List.mem_append_right _ (List.mem_append_right _ (List.mem_append_right _ (List.mem_append_right _ (List.mem_append_right _ (List.mem_append_left _ (List.mem_of_getElem? (i := 22) rfl))))))))))))))))
theorem mw_h7_623 : Cond.instanceMethod yX3_readFields ∈ VS_h7 := List.mem_append_right _ (List.mem_append_right _ (List.mem_append_right _ (List.mem_append_right _ (List.mem_append_right _ (List.mem_append_right _ (List.mem_append_right _ (List.mem_append_right _ (List.mem_append_right _ (List.mem_append_right _ (List.mem_append_right _ (List.mem_append_right _ (List.mem_append_right _ (List.mem_append_right _ (List.mem_append_right _ (List.mem_append_left _ (List.mem_of_getElem? (i := 23) rfl))))))))))))))))
theorem mw_h7_624 : Cond.selects RX3 yX3_readFields yX3_readFields ∈ VS_h7 := List.mem_append_right _ (List.mem_append_right _ (List.mem_append_right _ (List.mem_append_right _ (List.mem_append_right _ (List.mem_append_right _ (List.mem_append_right _ (List.mem_append_right _ (List.mem_append_right _ (List.mem_append_right _ (List.mem_append_right _ (List.mem_append_right _ (List.mem_append_right _ (List.mem_append_right _ (List.mem_append_right _ (List.mem_append_left _ (List.mem_of_getElem? (i := 24) rfl))))))))))))))))
theorem mw_h7_625 : Cond.code yX3_readMethod cX3_readMethod 4 none ∈ VS_h7 := List.mem_append_right _ (List.mem_append_right _ (List.mem_append_right _ (List.mem_append_right _ (List.mem_append_right _ (List.mem_append_right _ (List.mem_append_right _ (List.mem_append_right _ (List.mem_append_right _ (List.mem_append_right _ (List.mem_append_right _ (List.mem_append_right _ (List.mem_append_right _ (List.mem_append_right _ (List.mem_append_right _ (List.mem_append_left _ (List.mem_of_getElem? (i := 25) rfl))))))))))))))))
theorem mw_h7_626 : Cond.methodLink RX3 74 yX3_readMethod ∈ VS_h7 := List.mem_append_right _ (List.mem_append_right _ (List.mem_append_right _ (List.mem_append_right _ (List.mem_append_right _ (List.mem_append_right _ (List.mem_append_right _ (List.mem_append_right _ (List.mem_append_right _ (List.mem_append_right _ (List.mem_append_right _ (List.mem_append_right _ (List.mem_append_right _ (List.mem_append_right _ (List.mem_append_right _ (List.mem_append_left _ (List.mem_of_getElem? (i := 26) rfl))))))))))))))))
theorem mw_h7_627 : Cond.instanceMethod yX3_readMethod ∈ VS_h7 := List.mem_append_right _ (List.mem_append_right _ (List.mem_append_right _ (List.mem_append_right _ (List.mem_append_right _ (List.mem_append_right _ (List.mem_append_right _ (List.mem_append_right _ (List.mem_append_right _ (List.mem_append_right _ (List.mem_append_right _ (List.mem_append_right _ (List.mem_append_right _ (List.mem_append_right _ (List.mem_append_right _ (List.mem_append_left _ (List.mem_of_getElem? (i := 27) rfl))))))))))))))))
theorem mw_h7_628 : Cond.selects RX3 yX3_readMethod yX3_readMethod ∈ VS_h7 := List.mem_append_right _ (List.mem_append_right _ (List.mem_append_right _ (List.mem_append_right _ (List.mem_append_right _ (List.mem_append_right _ (List.mem_append_right _ (List.mem_append_right _ (List.mem_append_right _ (List.mem_append_right _ (List.mem_append_right _ (List.mem_append_right _ (List.mem_append_right _ (List.mem_append_right _ (List.mem_append_right _ (List.mem_append_left _ (List.mem_of_getElem? (i := 28) rfl))))))))))))))))
theorem mw_h7_629 : Cond.methodLink RX3 33 yJ9_min_7cf53 ∈ VS_h7 := List.mem_append_right _ (List.mem_append_right _ (List.mem_append_right _ (List.mem_append_right _ (List.mem_append_right _ (List.mem_append_right _ (List.mem_append_right _ (List.mem_append_right _ (List.mem_append_right _ (List.mem_append_right _ (List.mem_append_right _ (List.mem_append_right _ (List.mem_append_right _ (List.mem_append_right _ (List.mem_append_right _ (List.mem_append_left _ (List.mem_of_getElem? (i := 29) rfl))))))))))))))))
theorem mw_h7_630 : Cond.fieldLink RX3 52 "ClassMill$Image" "methods" "I" ∈ VS_h7 := List.mem_append_right _ (List.mem_append_right _ (List.mem_append_right _ (List.mem_append_right _ (List.mem_append_right _ (List.mem_append_right _ (List.mem_append_right _ (List.mem_append_right _ (List.mem_append_right _ (List.mem_append_right _ (List.mem_append_right _ (List.mem_append_right _ (List.mem_append_right _ (List.mem_append_right _ (List.mem_append_right _ (List.mem_append_left _ (List.mem_of_getElem? (i := 30) rfl))))))))))))))))
theorem mw_h7_631 : Cond.fieldLink RX3 62 "ClassMill$Image" "selfText" "I" ∈ VS_h7 := List.mem_append_right _ (List.mem_append_right _ (List.mem_append_right _ (List.mem_append_right _ (List.mem_append_right _ (List.mem_append_right _ (List.mem_append_right _ (List.mem_append_right _ (List.mem_append_right _ (List.mem_append_right _ (List.mem_append_right _ (List.mem_append_right _ (List.mem_append_right _ (List.mem_append_right _ (List.mem_append_right _ (List.mem_append_left _ (List.mem_of_getElem? (i := 31) rfl))))))))))))))))
theorem mw_h7_632 : Cond.fieldLink RX3 65 "ClassMill$Image" "aboveText" "I" ∈ VS_h7 := List.mem_append_right _ (List.mem_append_right _ (List.mem_append_right _ (List.mem_append_right _ (List.mem_append_right _ (List.mem_append_right _ (List.mem_append_right _ (List.mem_append_right _ (List.mem_append_right _ (List.mem_append_right _ (List.mem_append_right _ (List.mem_append_right _ (List.mem_append_right _ (List.mem_append_right _ (List.mem_append_right _ (List.mem_append_left _ (List.mem_of_getElem? (i := 32) rfl))))))))))))))))
theorem uV_h7_X1 : ∀ w ∈ u_ws RX1 TX1 16, w ∈ VS_h7 := fun w h => List.mem_append_right _ (List.mem_append_right _ (List.mem_append_right _ (List.mem_append_right _ (List.mem_append_right _ (List.mem_append_right _ (List.mem_append_right _ (List.mem_append_right _ (List.mem_append_right _ (List.mem_append_right _ (List.mem_append_right _ (List.mem_append_right _ (List.mem_append_right _ (List.mem_append_right _ (List.mem_append_right _ (List.mem_append_right _ (List.mem_append_right _ (List.mem_append_left _ (h))))))))))))))))))
theorem uV_h7_X2 : ∀ w ∈ u_ws RX2 TX2 21, w ∈ VS_h7 := fun w h => List.mem_append_right _ (List.mem_append_right _ (List.mem_append_right _ (List.mem_append_right _ (List.mem_append_right _ (List.mem_append_right _ (List.mem_append_right _ (List.mem_append_right _ (List.mem_append_right _ (List.mem_append_right _ (List.mem_append_right _ (List.mem_append_right _ (List.mem_append_right _ (List.mem_append_right _ (List.mem_append_right _ (List.mem_append_right _ (List.mem_append_right _ (List.mem_append_right _ (List.mem_append_left _ (h)))))))))))))))))))
theorem uV_h7_X9 : ∀ w ∈ u_ws RX9 TX9 13, w ∈ VS_h7 := fun w h => List.mem_append_right _ (List.mem_append_right _ (List.mem_append_right _ (List.mem_append_right _ (List.mem_append_right _ (List.mem_append_right _ (List.mem_append_right _ (List.mem_append_right _ (List.mem_append_right _ (List.mem_append_right _ (List.mem_append_right _ (List.mem_append_right _ (List.mem_append_right _ (List.mem_append_right _ (List.mem_append_right _ (List.mem_append_right _ (List.mem_append_right _ (List.mem_append_right _ (List.mem_append_right _ (List.mem_append_left _ (h))))))))))))))))))))
theorem uV_h7_X3 : ∀ w ∈ u_ws RX3 TX3 14, w ∈ VS_h7 := fun w h => List.mem_append_right _ (List.mem_append_right _ (List.mem_append_right _ (List.mem_append_right _ (List.mem_append_right _ (List.mem_append_right _ (List.mem_append_right _ (List.mem_append_right _ (List.mem_append_right _ (List.mem_append_right _ (List.mem_append_right _ (List.mem_append_right _ (List.mem_append_right _ (List.mem_append_right _ (List.mem_append_right _ (List.mem_append_right _ (List.mem_append_right _ (List.mem_append_right _ (List.mem_append_right _ (List.mem_append_right _ (List.mem_append_right _ (List.mem_append_right _ (List.mem_append_left _ (h)))))))))))))))))))))))
theorem uV_h7_X4 : ∀ w ∈ u_ws RX4 TX4 2, w ∈ VS_h7 := fun w h => List.mem_append_right _ (List.mem_append_right _ (List.mem_append_right _ (List.mem_append_right _ (List.mem_append_right _ (List.mem_append_right _ (List.mem_append_right _ (List.mem_append_right _ (List.mem_append_right _ (List.mem_append_right _ (List.mem_append_right _ (List.mem_append_right _ (List.mem_append_right _ (List.mem_append_right _ (List.mem_append_right _ (List.mem_append_right _ (List.mem_append_right _ (List.mem_append_right _ (List.mem_append_right _ (List.mem_append_right _ (List.mem_append_right _ (List.mem_append_right _ (List.mem_append_right _ (List.mem_append_right _ (List.mem_append_right _ (List.mem_append_left _ (h))))))))))))))))))))))))))
theorem uV_h7_X5 : ∀ w ∈ u_ws RX5 TX5 21, w ∈ VS_h7 := fun w h => List.mem_append_right _ (List.mem_append_right _ (List.mem_append_right _ (List.mem_append_right _ (List.mem_append_right _ (List.mem_append_right _ (List.mem_append_right _ (List.mem_append_right _ (List.mem_append_right _ (List.mem_append_right _ (List.mem_append_right _ (List.mem_append_right _ (List.mem_append_right _ (List.mem_append_right _ (List.mem_append_right _ (List.mem_append_right _ (List.mem_append_right _ (List.mem_append_right _ (List.mem_append_right _ (List.mem_append_right _ (List.mem_append_right _ (List.mem_append_right _ (List.mem_append_right _ (List.mem_append_right _ (List.mem_append_right _ (List.mem_append_right _ (List.mem_append_left _ (h)))))))))))))))))))))))))))
theorem uV_h7_X7 : ∀ w ∈ u_ws RX7 TX7 8, w ∈ VS_h7 := fun w h => List.mem_append_right _ (List.mem_append_right _ (List.mem_append_right _ (List.mem_append_right _ (List.mem_append_right _ (List.mem_append_right _ (List.mem_append_right _ (List.mem_append_right _ (List.mem_append_right _ (List.mem_append_right _ (List.mem_append_right _ (List.mem_append_right _ (List.mem_append_right _ (List.mem_append_right _ (List.mem_append_right _ (List.mem_append_right _ (List.mem_append_right _ (List.mem_append_right _ (List.mem_append_right _ (List.mem_append_right _ (List.mem_append_right _ (List.mem_append_right _ (List.mem_append_right _ (List.mem_append_right _ (List.mem_append_right _ (List.mem_append_right _ (List.mem_append_right _ (List.mem_append_left _ (h))))))))))))))))))))))))))))
theorem uV_h7_X6 : ∀ w ∈ u_ws RX6 TX6 8, w ∈ VS_h7 := fun w h => List.mem_append_right _ (List.mem_append_right _ (List.mem_append_right _ (List.mem_append_right _ (List.mem_append_right _ (List.mem_append_right _ (List.mem_append_right _ (List.mem_append_right _ (List.mem_append_right _ (List.mem_append_right _ (List.mem_append_right _ (List.mem_append_right _ (List.mem_append_right _ (List.mem_append_right _ (List.mem_append_right _ (List.mem_append_right _ (List.mem_append_right _ (List.mem_append_right _ (List.mem_append_right _ (List.mem_append_right _ (List.mem_append_right _ (List.mem_append_right _ (List.mem_append_right _ (List.mem_append_right _ (List.mem_append_right _ (List.mem_append_right _ (List.mem_append_right _ (List.mem_append_right _ (List.mem_append_left _ (h)))))))))))))))))))))))))))))
theorem uV_h7_X10 : ∀ w ∈ u_ws RX10 TX10 19, w ∈ VS_h7 := fun w h => List.mem_append_right _ (List.mem_append_right _ (List.mem_append_right _ (List.mem_append_right _ (List.mem_append_right _ (List.mem_append_right _ (List.mem_append_right _ (List.mem_append_right _ (List.mem_append_right _ (List.mem_append_right _ (List.mem_append_right _ (List.mem_append_right _ (List.mem_append_right _ (List.mem_append_right _ (List.mem_append_right _ (List.mem_append_right _ (List.mem_append_right _ (List.mem_append_right _ (List.mem_append_right _ (List.mem_append_right _ (List.mem_append_right _ (List.mem_append_right _ (List.mem_append_right _ (List.mem_append_right _ (List.mem_append_right _ (List.mem_append_right _ (List.mem_append_right _ (List.mem_append_right _ (List.mem_append_right _ (List.mem_append_left _ (h))))))))))))))))))))))))))))))
theorem uV_h7_X11 : ∀ w ∈ u_ws RX11 TX11 21, w ∈ VS_h7 := fun w h => List.mem_append_right _ (List.mem_append_right _ (List.mem_append_right _ (List.mem_append_right _ (List.mem_append_right _ (List.mem_append_right _ (List.mem_append_right _ (List.mem_append_right _ (List.mem_append_right _ (List.mem_append_right _ (List.mem_append_right _ (List.mem_append_right _ (List.mem_append_right _ (List.mem_append_right _ (List.mem_append_right _ (List.mem_append_right _ (List.mem_append_right _ (List.mem_append_right _ (List.mem_append_right _ (List.mem_append_right _ (List.mem_append_right _ (List.mem_append_right _ (List.mem_append_right _ (List.mem_append_right _ (List.mem_append_right _ (List.mem_append_right _ (List.mem_append_right _ (List.mem_append_right _ (List.mem_append_right _ (List.mem_append_right _ (h))))))))))))))))))))))))))))))
set_option maxRecDepth 100000 in
theorem gs_h7 : GoodIn VS_h7 VS_h7 := vs_self (by decide +kernel)
set_option maxRecDepth 100000 in
theorem in_h7_VS_h4 : GoodIn VS_h7 VS_h4 := goodIn_sub (fun w h => List.mem_append_right _ (List.mem_append_right _ (List.mem_append_right _ (List.mem_append_right _ (List.mem_append_right _ (List.mem_append_right _ (List.mem_append_right _ (List.mem_append_right _ (List.mem_append_right _ (List.mem_append_right _ (List.mem_append_right _ (List.mem_append_right _ (List.mem_append_right _ (List.mem_append_right _ (List.mem_append_right _ (List.mem_append_right _ (List.mem_append_left _ (h)))))))))))))))))) (by decide +kernel)
set_option maxRecDepth 100000 in
theorem in_h7_VS_h3 : GoodIn VS_h7 VS_h3 := goodIn_sub (fun w h => List.mem_append_right _ (List.mem_append_right _ (List.mem_append_right _ (List.mem_append_right _ (List.mem_append_right _ (List.mem_append_right _ (List.mem_append_right _ (List.mem_append_right _ (List.mem_append_right _ (List.mem_append_right _ (List.mem_append_right _ (List.mem_append_right _ (List.mem_append_right _ (List.mem_append_right _ (List.mem_append_right _ (List.mem_append_right _ (List.mem_append_right _ (List.mem_append_right _ (List.mem_append_right _ (List.mem_append_right _ (List.mem_append_left _ (h)))))))))))))))))))))) (by decide +kernel)
set_option maxRecDepth 100000 in
theorem in_h7_VS_h2 : GoodIn VS_h7 VS_h2 := goodIn_sub (fun w h => List.mem_append_right _ (List.mem_append_right _ (List.mem_append_right _ (List.mem_append_right _ (List.mem_append_right _ (List.mem_append_right _ (List.mem_append_right _ (List.mem_append_right _ (List.mem_append_right _ (List.mem_append_right _ (List.mem_append_right _ (List.mem_append_right _ (List.mem_append_right _ (List.mem_append_right _ (List.mem_append_right _ (List.mem_append_right _ (List.mem_append_right _ (List.mem_append_right _ (List.mem_append_right _ (List.mem_append_right _ (List.mem_append_right _ (List.mem_append_left _ (h))))))))))))))))))))))) (by decide +kernel)
set_option maxRecDepth 100000 in
theorem in_h7_wsJ0_length_8abf5 : GoodIn VS_h7 wsJ0_length_8abf5 := goodIn_sub (fun w h => List.mem_append_right _ (List.mem_append_right _ (List.mem_append_right _ (List.mem_append_right _ (List.mem_append_right _ (List.mem_append_right _ (List.mem_append_right _ (List.mem_append_right _ (List.mem_append_right _ (List.mem_append_right _ (List.mem_append_right _ (List.mem_append_right _ (List.mem_append_right _ (List.mem_append_right _ (List.mem_append_right _ (List.mem_append_right _ (List.mem_append_right _ (List.mem_append_right _ (List.mem_append_right _ (List.mem_append_right _ (List.mem_append_right _ (List.mem_append_right _ (List.mem_append_right _ (List.mem_append_left _ (h))))))))))))))))))))))))) (by decide +kernel)
set_option maxRecDepth 100000 in
theorem in_h7_wsJ0_charAt_5068e : GoodIn VS_h7 wsJ0_charAt_5068e := goodIn_sub (fun w h => List.mem_append_right _ (List.mem_append_right _ (List.mem_append_right _ (List.mem_append_right _ (List.mem_append_right _ (List.mem_append_right _ (List.mem_append_right _ (List.mem_append_right _ (List.mem_append_right _ (List.mem_append_right _ (List.mem_append_right _ (List.mem_append_right _ (List.mem_append_right _ (List.mem_append_right _ (List.mem_append_right _ (List.mem_append_right _ (List.mem_append_right _ (List.mem_append_right _ (List.mem_append_right _ (List.mem_append_right _ (List.mem_append_right _ (List.mem_append_right _ (List.mem_append_right _ (List.mem_append_right _ (List.mem_append_left _ (h)))))))))))))))))))))))))) (by decide +kernel)
theorem gv_h7_0 : GoodIn VS_h7 (va_wsS RJ7 13 yJ7_rangeCheck_23922 (.code yJ7_rangeCheck_23922 cJ7_rangeCheck_23922 3 none :: VS_h7)) := goodIn_app (vs_in3 mw_h7_1 mw_h7_2 mw_h7_3 (by decide +kernel)) (vs_cons mw_h7_0 (by decide +kernel) gs_h7)
theorem gv_h7_1 : GoodIn VS_h7 (wsV RX1 90 RX1 yX1_jump (.code yX1_jump cX1_jump 4 (some .int) :: VS_h4)) := goodIn_app (vs_in4 mw_h7_5 mw_h7_6 mw_h7_7 mw_h7_8 (by decide +kernel)) (vs_cons mw_h7_4 (by decide +kernel) in_h7_VS_h4)
theorem gv_h7_2 : GoodIn VS_h7 (wsV RX1 93 RX1 yX1_aimAt (.code yX1_aimAt cX1_aimAt 4 none :: VS_h4)) := goodIn_app (vs_in4 mw_h7_10 mw_h7_11 mw_h7_12 mw_h7_8 (by decide +kernel)) (vs_cons mw_h7_9 (by decide +kernel) in_h7_VS_h4)
theorem gv_h7_3 : GoodIn VS_h7 (wsV RX1 104 RX1 yX1_push (.code yX1_push cX1_push 2 none :: VS_h4)) := goodIn_app (vs_in4 mw_h7_14 mw_h7_15 mw_h7_16 mw_h7_8 (by decide +kernel)) (vs_cons mw_h7_13 (by decide +kernel) in_h7_VS_h4)
theorem gv_h7_4 : GoodIn VS_h7 (wsV RX1 65 RX1 yX1_op (.code yX1_op cX1_op 2 none :: VS_h4)) := goodIn_app (vs_in4 mw_h7_18 mw_h7_19 mw_h7_20 mw_h7_8 (by decide +kernel)) (vs_cons mw_h7_17 (by decide +kernel) in_h7_VS_h4)
theorem gv_h7_5 : GoodIn VS_h7 (wsV RX1 87 RX1 yX1_pop (.code yX1_pop cX1_pop 2 none :: VS_h4)) := goodIn_app (vs_in4 mw_h7_22 mw_h7_23 mw_h7_24 mw_h7_8 (by decide +kernel)) (vs_cons mw_h7_21 (by decide +kernel) in_h7_VS_h4)
theorem gv_h7_6 : GoodIn VS_h7 (wsV RX1 116 RX6 yX6_put (.code yX6_put cX6_put 2 none :: VS_h4)) := goodIn_app (vs_in4 mw_h7_37 mw_h7_38 mw_h7_39 mw_h7_40 (by decide +kernel)) (vs_cons mw_h7_36 (by decide +kernel) in_h7_VS_h4)
theorem gv_h7_7 : GoodIn VS_h7 (wsV RX1 121 RX6 yX6_putPair (.code yX6_putPair cX6_putPair 2 none :: VS_h4)) := goodIn_app (vs_in4 mw_h7_42 mw_h7_43 mw_h7_44 mw_h7_40 (by decide +kernel)) (vs_cons mw_h7_41 (by decide +kernel) in_h7_VS_h4)
theorem gv_h7_8 : GoodIn VS_h7 (wsV RX1 127 RX1 yX1_writeFrame (.code yX1_writeFrame cX1_writeFrame 6 none :: VS_h4)) := goodIn_app (vs_in4 mw_h7_46 mw_h7_47 mw_h7_48 mw_h7_8 (by decide +kernel)) (vs_cons mw_h7_45 (by decide +kernel) in_h7_VS_h4)
theorem gv_h7_9 : GoodIn VS_h7 (wsV RX1 124 RX6 yX6_classOf (.code yX6_classOf cX6_classOf 2 (some .int) :: VS_h4)) := goodIn_app (vs_in4 mw_h7_50 mw_h7_51 mw_h7_52 mw_h7_40 (by decide +kernel)) (vs_cons mw_h7_49 (by decide +kernel) in_h7_VS_h4)
theorem gv_h7_10 : GoodIn VS_h7 (va_wsS RX2 82 yJ7_fill_53178 (.code yJ7_fill_53178 cJ7_fill_53178 4 none :: VS_h7)) := goodIn_app (vs_in3 mw_h7_60 mw_h7_61 mw_h7_3 (by decide +kernel)) (vs_cons mw_h7_59 (by decide +kernel) gs_h7)
theorem gv_h7_11 : GoodIn VS_h7 (wsV RX2 112 RX2 yX2_tokenOfClass (.code yX2_tokenOfClass cX2_tokenOfClass 2 (some .int) :: VS_h4)) := goodIn_app (vs_in4 mw_h7_63 mw_h7_64 mw_h7_65 mw_h7_66 (by decide +kernel)) (vs_cons mw_h7_62 (by decide +kernel) in_h7_VS_h4)
theorem gv_h7_12 : GoodIn VS_h7 (wsV RX2 115 RX9 yX9_kindAt (.code yX9_kindAt cX9_kindAt 2 (some .int) :: VS_h4)) := goodIn_app (vs_in4 mw_h7_68 mw_h7_69 mw_h7_70 mw_h7_71 (by decide +kernel)) (vs_cons mw_h7_67 (by decide +kernel) in_h7_VS_h4)
theorem gv_h7_13 : GoodIn VS_h7 (wsV RX2 121 RX9 yX9_kind (.code yX9_kind cX9_kind 1 (some .int) :: VS_h4)) := goodIn_app (vs_in4 mw_h7_73 mw_h7_74 mw_h7_75 mw_h7_71 (by decide +kernel)) (vs_cons mw_h7_72 (by decide +kernel) in_h7_VS_h4)
theorem gv_h7_14 : GoodIn VS_h7 (wsV RX2 128 RX2 yX2_isMethod (.code yX2_isMethod cX2_isMethod 2 (some .boolean) :: VS_h4)) := goodIn_app (vs_in4 mw_h7_77 mw_h7_78 mw_h7_79 mw_h7_66 (by decide +kernel)) (vs_cons mw_h7_76 (by decide +kernel) in_h7_VS_h4)
theorem gv_h7_15 : GoodIn VS_h7 (wsV RX2 135 RX9 yX9_valueAt (.code yX9_valueAt cX9_valueAt 2 (some .int) :: VS_h4)) := goodIn_app (vs_in4 mw_h7_81 mw_h7_82 mw_h7_83 mw_h7_71 (by decide +kernel)) (vs_cons mw_h7_80 (by decide +kernel) in_h7_VS_h4)
theorem gv_h7_16 : GoodIn VS_h7 (wsV RX2 154 RX2 yX2_addKindByte (.code yX2_addKindByte cX2_addKindByte 2 none :: VS_h4)) := goodIn_app (vs_in4 mw_h7_85 mw_h7_86 mw_h7_87 mw_h7_66 (by decide +kernel)) (vs_cons mw_h7_84 (by decide +kernel) in_h7_VS_h4)
theorem gv_h7_17 : GoodIn VS_h7 (va_wsS RX2 160 yX4_isArray (.code yX4_isArray cX4_isArray 1 (some .boolean) :: VS_h3)) := goodIn_app (vs_in3 mw_h7_89 mw_h7_90 mw_h7_91 (by decide +kernel)) (vs_cons mw_h7_88 (by decide +kernel) in_h7_VS_h3)
theorem gv_h7_18 : GoodIn VS_h7 (va_wsS RX2 163 yX4_elementOf (.code yX4_elementOf cX4_elementOf 1 (some .int) :: VS_h3)) := goodIn_app (vs_in3 mw_h7_93 mw_h7_94 mw_h7_91 (by decide +kernel)) (vs_cons mw_h7_92 (by decide +kernel) in_h7_VS_h3)
theorem gv_h7_19 : GoodIn VS_h7 (va_wsS RX2 166 yX4_isClass (.code yX4_isClass cX4_isClass 1 (some .boolean) :: VS_h2)) := goodIn_app (vs_in3 mw_h7_96 mw_h7_97 mw_h7_91 (by decide +kernel)) (vs_cons mw_h7_95 (by decide +kernel) in_h7_VS_h2)
theorem gv_h7_20 : GoodIn VS_h7 (wsV RX2 192 RX2 yX2_readType (.code yX2_readType cX2_readType 5 (some .int) :: VS_h4)) := goodIn_app (vs_in4 mw_h7_104 mw_h7_105 mw_h7_106 mw_h7_66 (by decide +kernel)) (vs_cons mw_h7_103 (by decide +kernel) in_h7_VS_h4)
theorem gv_h7_21 : GoodIn VS_h7 (wsV RX2 206 RX2 yX2_methodIn (.code yX2_methodIn cX2_methodIn 4 (some .int) :: VS_h4)) := goodIn_app (vs_in4 mw_h7_108 mw_h7_109 mw_h7_110 mw_h7_66 (by decide +kernel)) (vs_cons mw_h7_107 (by decide +kernel) in_h7_VS_h4)
theorem gv_h7_22 : GoodIn VS_h7 (wsV RX2 186 RX9 yX9_tell (.code yX9_tell cX9_tell 3 none :: VS_h4)) := goodIn_app (vs_in4 mw_h7_112 mw_h7_113 mw_h7_114 mw_h7_71 (by decide +kernel)) (vs_cons mw_h7_111 (by decide +kernel) in_h7_VS_h4)
theorem gv_h7_23 : GoodIn VS_h7 (wsV RX2 209 RX2 yX2_addParameter (.code yX2_addParameter cX2_addParameter 7 none :: VS_h4)) := goodIn_app (vs_in4 mw_h7_116 mw_h7_117 mw_h7_118 mw_h7_66 (by decide +kernel)) (vs_cons mw_h7_115 (by decide +kernel) in_h7_VS_h4)
theorem gv_h7_24 : GoodIn VS_h7 (wsV RX2 212 RX2 yX2_skipBlock (.code yX2_skipBlock cX2_skipBlock 4 none :: VS_h4)) := goodIn_app (vs_in4 mw_h7_120 mw_h7_121 mw_h7_122 mw_h7_66 (by decide +kernel)) (vs_cons mw_h7_119 (by decide +kernel) in_h7_VS_h4)
theorem gv_h7_25 : GoodIn VS_h7 (wsV RX2 215 RX4 yX4_above (.code yX4_above cX4_above 2 (some .int) :: VS_h2)) := goodIn_app (vs_in4 mw_h7_132 mw_h7_133 mw_h7_134 mw_h7_91 (by decide +kernel)) (vs_cons mw_h7_131 (by decide +kernel) in_h7_VS_h2)
theorem gv_h7_26 : GoodIn VS_h7 (wsV RX2 218 RX2 yX2_nameOfMethod (.code yX2_nameOfMethod cX2_nameOfMethod 2 (some .int) :: VS_h4)) := goodIn_app (vs_in4 mw_h7_136 mw_h7_137 mw_h7_138 mw_h7_66 (by decide +kernel)) (vs_cons mw_h7_135 (by decide +kernel) in_h7_VS_h4)
theorem gv_h7_27 : GoodIn VS_h7 (wsV RX2 221 RX2 yX2_methodOf (.code yX2_methodOf cX2_methodOf 6 (some .int) :: VS_h4)) := goodIn_app (vs_in4 mw_h7_140 mw_h7_141 mw_h7_142 mw_h7_66 (by decide +kernel)) (vs_cons mw_h7_139 (by decide +kernel) in_h7_VS_h4)
theorem gv_h7_28 : GoodIn VS_h7 (wsV RX2 157 RX2 yX2_parameterType (.code yX2_parameterType cX2_parameterType 3 (some .int) :: VS_h4)) := goodIn_app (vs_in4 mw_h7_144 mw_h7_145 mw_h7_146 mw_h7_66 (by decide +kernel)) (vs_cons mw_h7_143 (by decide +kernel) in_h7_VS_h4)
theorem gv_h7_29 : GoodIn VS_h7 (wsV RX3 71 RX3 yX3_nextUpTo (.code yX3_nextUpTo cX3_nextUpTo 4 (some .int) :: VS_h2)) := goodIn_app (vs_in4 mw_h7_149 mw_h7_150 mw_h7_151 mw_h7_152 (by decide +kernel)) (vs_cons mw_h7_148 (by decide +kernel) in_h7_VS_h2)
theorem gv_h7_30 : GoodIn VS_h7 (wsV RX3 87 RX3 yX3_next (.code yX3_next cX3_next 1 (some .int) :: VS_h2)) := goodIn_app (vs_in4 mw_h7_154 mw_h7_155 mw_h7_156 mw_h7_152 (by decide +kernel)) (vs_cons mw_h7_153 (by decide +kernel) in_h7_VS_h2)
theorem gv_h7_31 : GoodIn VS_h7 (wsV RX3 99 RX3 yX3_partOf (.code yX3_partOf cX3_partOf 3 (some .int) :: VS_h2)) := goodIn_app (vs_in4 mw_h7_163 mw_h7_164 mw_h7_165 mw_h7_152 (by decide +kernel)) (vs_cons mw_h7_162 (by decide +kernel) in_h7_VS_h2)
theorem gv_h7_32 : GoodIn VS_h7 (wsV RX3 134 RJ0 yJ0_length_8abf5 wsJ0_length_8abf5) := goodIn_app (vs_in4 mw_h7_166 mw_h7_167 mw_h7_168 mw_h7_169 (by decide +kernel)) (in_h7_wsJ0_length_8abf5)
theorem gv_h7_33 : GoodIn VS_h7 (wsV RX3 139 RJ0 yJ0_charAt_5068e wsJ0_charAt_5068e) := goodIn_app (vs_in4 mw_h7_170 mw_h7_171 mw_h7_172 mw_h7_169 (by decide +kernel)) (in_h7_wsJ0_charAt_5068e)
theorem gv_h7_34 : GoodIn VS_h7 (wsV RX3 112 RX3 yX3_tagOf (.code yX3_tagOf cX3_tagOf 2 (some .int) :: VS_h2)) := goodIn_app (vs_in4 mw_h7_176 mw_h7_177 mw_h7_178 mw_h7_152 (by decide +kernel)) (vs_cons mw_h7_175 (by decide +kernel) in_h7_VS_h2)
theorem gv_h7_35 : GoodIn VS_h7 (va_wsS RX3 143 yX9_isName (.code yX9_isName cX9_isName 7 (some .boolean) :: VS_h4)) := goodIn_app (vs_in3 mw_h7_180 mw_h7_181 mw_h7_71 (by decide +kernel)) (vs_cons mw_h7_179 (by decide +kernel) in_h7_VS_h4)
theorem gv_h7_36 : GoodIn VS_h7 (wsV RX3 119 RX3 yX3_byteAt (.code yX3_byteAt cX3_byteAt 2 (some .int) :: VS_h2)) := goodIn_app (vs_in4 mw_h7_183 mw_h7_184 mw_h7_185 mw_h7_152 (by decide +kernel)) (vs_cons mw_h7_182 (by decide +kernel) in_h7_VS_h2)
theorem gv_h7_37 : GoodIn VS_h7 (wsV RX3 149 RX3 yX3_behindKind (.code yX3_behindKind cX3_behindKind 6 (some .int) :: VS_h7)) := goodIn_app (vs_in4 mw_h7_187 mw_h7_188 mw_h7_189 mw_h7_152 (by decide +kernel)) (vs_cons mw_h7_186 (by decide +kernel) gs_h7)
theorem gv_h7_38 : GoodIn VS_h7 (wsV RX3 102 RX3 yX3_isNameText (.code yX3_isNameText cX3_isNameText 2 (some .boolean) :: VS_h7)) := goodIn_app (vs_in4 mw_h7_191 mw_h7_192 mw_h7_193 mw_h7_152 (by decide +kernel)) (vs_cons mw_h7_190 (by decide +kernel) gs_h7)
theorem gv_h7_39 : GoodIn VS_h7 (wsV RX3 78 RX3 yX3_bad (.code yX3_bad cX3_bad 2 none :: VS_h2)) := goodIn_app (vs_in4 mw_h7_195 mw_h7_196 mw_h7_197 mw_h7_152 (by decide +kernel)) (vs_cons mw_h7_194 (by decide +kernel) in_h7_VS_h2)
theorem gv_h7_40 : GoodIn VS_h7 (wsV RX3 152 RX3 yX3_nextName (.code yX3_nextName cX3_nextName 2 (some .int) :: VS_h7)) := goodIn_app (vs_in4 mw_h7_199 mw_h7_200 mw_h7_201 mw_h7_152 (by decide +kernel)) (vs_cons mw_h7_198 (by decide +kernel) gs_h7)
theorem gv_h7_41 : GoodIn VS_h7 (wsV RX3 116 RX3 yX3_parametersIn (.code yX3_parametersIn cX3_parametersIn 6 (some .int) :: VS_h7)) := goodIn_app (vs_in4 mw_h7_203 mw_h7_204 mw_h7_205 mw_h7_152 (by decide +kernel)) (vs_cons mw_h7_202 (by decide +kernel) gs_h7)
theorem gv_h7_42 : GoodIn VS_h7 (wsV RX3 155 RX3 yX3_readCode (.code yX3_readCode cX3_readCode 5 none :: VS_h3)) := goodIn_app (vs_in4 mw_h7_207 mw_h7_208 mw_h7_209 mw_h7_152 (by decide +kernel)) (vs_cons mw_h7_206 (by decide +kernel) in_h7_VS_h3)
theorem gv_h7_43 : GoodIn VS_h7 (wsV RX3 158 RX3 yX3_readHandlers (.code yX3_readHandlers cX3_readHandlers 4 none :: VS_h3)) := goodIn_app (vs_in4 mw_h7_211 mw_h7_212 mw_h7_213 mw_h7_152 (by decide +kernel)) (vs_cons mw_h7_210 (by decide +kernel) in_h7_VS_h3)
theorem gv_h7_44 : GoodIn VS_h7 (wsV RX3 161 RX3 yX3_readFrames (.code yX3_readFrames cX3_readFrames 4 none :: VS_h3)) := goodIn_app (vs_in4 mw_h7_215 mw_h7_216 mw_h7_217 mw_h7_152 (by decide +kernel)) (vs_cons mw_h7_214 (by decide +kernel) in_h7_VS_h3)
theorem gv_h7_45 : GoodIn VS_h7 (va_wsS RX4 22 yJ7_fill_53178 (.code yJ7_fill_53178 cJ7_fill_53178 4 none :: VS_h7)) := goodIn_app (vs_in3 mw_h7_219 mw_h7_61 mw_h7_3 (by decide +kernel)) (vs_cons mw_h7_59 (by decide +kernel) gs_h7)
theorem gv_h7_46 : GoodIn VS_h7 (wsV RX4 28 RX4 yX4_settle (.code yX4_settle cX4_settle 4 none :: VS_h3)) := goodIn_app (vs_in4 mw_h7_221 mw_h7_222 mw_h7_223 mw_h7_91 (by decide +kernel)) (vs_cons mw_h7_220 (by decide +kernel) in_h7_VS_h3)
theorem gv_h7_47 : GoodIn VS_h7 (wsV RX5 72 RX5 yX5_forget (.code yX5_forget cX5_forget 1 none :: VS_h3)) := goodIn_app (vs_in4 mw_h7_226 mw_h7_227 mw_h7_228 mw_h7_229 (by decide +kernel)) (vs_cons mw_h7_225 (by decide +kernel) in_h7_VS_h3)
theorem gv_h7_48 : GoodIn VS_h7 (va_wsS RX5 100 yJ7_fill_fda19 (.code yJ7_fill_fda19 cJ7_fill_fda19 5 none :: VS_h7)) := goodIn_app (vs_in3 mw_h7_231 mw_h7_232 mw_h7_3 (by decide +kernel)) (vs_cons mw_h7_230 (by decide +kernel) gs_h7)
theorem gv_h7_49 : GoodIn VS_h7 (wsV RX5 141 RX3 yX3_byteAt (.code yX3_byteAt cX3_byteAt 2 (some .int) :: VS_h2)) := goodIn_app (vs_in4 mw_h7_233 mw_h7_184 mw_h7_185 mw_h7_152 (by decide +kernel)) (vs_cons mw_h7_182 (by decide +kernel) in_h7_VS_h2)
theorem gv_h7_50 : GoodIn VS_h7 (wsV RX5 138 RX5 yX5_goOn (.code yX5_goOn cX5_goOn 2 none :: VS_h3)) := goodIn_app (vs_in4 mw_h7_235 mw_h7_236 mw_h7_237 mw_h7_229 (by decide +kernel)) (vs_cons mw_h7_234 (by decide +kernel) in_h7_VS_h3)
theorem gv_h7_51 : GoodIn VS_h7 (wsV RX5 145 RX5 yX5_give (.code yX5_give cX5_give 3 none :: VS_h3)) := goodIn_app (vs_in4 mw_h7_239 mw_h7_240 mw_h7_241 mw_h7_229 (by decide +kernel)) (vs_cons mw_h7_238 (by decide +kernel) in_h7_VS_h3)
theorem gv_h7_52 : GoodIn VS_h7 (wsV RX5 154 RX5 yX5_pop (.code yX5_pop cX5_pop 2 (some .int) :: VS_h3)) := goodIn_app (vs_in4 mw_h7_243 mw_h7_244 mw_h7_245 mw_h7_229 (by decide +kernel)) (vs_cons mw_h7_242 (by decide +kernel) in_h7_VS_h3)
theorem gv_h7_53 : GoodIn VS_h7 (wsV RX5 187 RX5 yX5_stepElement (.code yX5_stepElement cX5_stepElement 4 none :: VS_h3)) := goodIn_app (vs_in4 mw_h7_247 mw_h7_248 mw_h7_249 mw_h7_229 (by decide +kernel)) (vs_cons mw_h7_246 (by decide +kernel) in_h7_VS_h3)
theorem gv_h7_54 : GoodIn VS_h7 (wsV RX5 190 RX5 yX5_stepGiveElement (.code yX5_stepGiveElement cX5_stepGiveElement 6 none :: VS_h3)) := goodIn_app (vs_in4 mw_h7_251 mw_h7_252 mw_h7_253 mw_h7_229 (by decide +kernel)) (vs_cons mw_h7_250 (by decide +kernel) in_h7_VS_h3)
theorem gv_h7_55 : GoodIn VS_h7 (wsV RX5 226 RX5 yX5_isObject (.code yX5_isObject cX5_isObject 2 (some .boolean) :: VS_h3)) := goodIn_app (vs_in4 mw_h7_255 mw_h7_256 mw_h7_257 mw_h7_229 (by decide +kernel)) (vs_cons mw_h7_254 (by decide +kernel) in_h7_VS_h3)
theorem gv_h7_56 : GoodIn VS_h7 (wsV RX5 89 RX5 yX5_make (.code yX5_make cX5_make 3 (some .int) :: VS_h7)) := goodIn_app (vs_in4 mw_h7_265 mw_h7_266 mw_h7_267 mw_h7_229 (by decide +kernel)) (vs_cons mw_h7_264 (by decide +kernel) gs_h7)
theorem gv_h7_57 : GoodIn VS_h7 (wsV RX5 211 RX5 yX5_giveNew (.code yX5_giveNew cX5_giveNew 4 none :: VS_h7)) := goodIn_app (vs_in4 mw_h7_269 mw_h7_270 mw_h7_271 mw_h7_229 (by decide +kernel)) (vs_cons mw_h7_268 (by decide +kernel) gs_h7)
theorem gv_h7_58 : GoodIn VS_h7 (wsV RX5 126 RX3 yX3_of (.code yX3_of cX3_of 4 (some .int) :: VS_h3)) := goodIn_app (vs_in4 mw_h7_274 mw_h7_275 mw_h7_276 mw_h7_152 (by decide +kernel)) (vs_cons mw_h7_273 (by decide +kernel) in_h7_VS_h3)
theorem gv_h7_59 : GoodIn VS_h7 (wsV RX5 184 RX3 yX3_pairAt (.code yX3_pairAt cX3_pairAt 2 (some .int) :: VS_h2)) := goodIn_app (vs_in4 mw_h7_278 mw_h7_279 mw_h7_280 mw_h7_152 (by decide +kernel)) (vs_cons mw_h7_277 (by decide +kernel) in_h7_VS_h2)
theorem gv_h7_60 : GoodIn VS_h7 (wsV RX6 90 RX6 yX6_bytesOf (.code yX6_bytesOf cX6_bytesOf 3 (some .int) :: VS_h4)) := goodIn_app (vs_in4 mw_h7_282 mw_h7_283 mw_h7_284 mw_h7_40 (by decide +kernel)) (vs_cons mw_h7_281 (by decide +kernel) in_h7_VS_h4)
theorem gv_h7_61 : GoodIn VS_h7 (wsV RX9 89 RX9 yX9_nameLength (.code yX9_nameLength cX9_nameLength 2 (some .int) :: VS_h4)) := goodIn_app (vs_in4 mw_h7_286 mw_h7_287 mw_h7_288 mw_h7_71 (by decide +kernel)) (vs_cons mw_h7_285 (by decide +kernel) in_h7_VS_h4)
theorem gv_h7_62 : GoodIn VS_h7 (va_wsS RX9 93 yX9_behindBlanks (.code yX9_behindBlanks cX9_behindBlanks 6 (some .int) :: VS_h4)) := goodIn_app (vs_in3 mw_h7_293 mw_h7_294 mw_h7_71 (by decide +kernel)) (vs_cons mw_h7_292 (by decide +kernel) in_h7_VS_h4)
theorem gv_h7_63 : GoodIn VS_h7 (wsV RX9 99 RX9 yX9_addToken (.code yX9_addToken cX9_addToken 4 none :: VS_h4)) := goodIn_app (vs_in4 mw_h7_296 mw_h7_297 mw_h7_298 mw_h7_71 (by decide +kernel)) (vs_cons mw_h7_295 (by decide +kernel) in_h7_VS_h4)
theorem gv_h7_64 : GoodIn VS_h7 (va_wsS RX9 103 yX9_isLetter (.code yX9_isLetter cX9_isLetter 1 (some .boolean) :: VS_h4)) := goodIn_app (vs_in3 mw_h7_300 mw_h7_301 mw_h7_71 (by decide +kernel)) (vs_cons mw_h7_299 (by decide +kernel) in_h7_VS_h4)
theorem gv_h7_65 : GoodIn VS_h7 (va_wsS RX9 110 yX9_isDigit (.code yX9_isDigit cX9_isDigit 1 (some .boolean) :: VS_h4)) := goodIn_app (vs_in3 mw_h7_303 mw_h7_304 mw_h7_71 (by decide +kernel)) (vs_cons mw_h7_302 (by decide +kernel) in_h7_VS_h4)
theorem gv_h7_66 : GoodIn VS_h7 (va_wsS RX9 123 yX9_isNamePart (.code yX9_isNamePart cX9_isNamePart 1 (some .boolean) :: VS_h4)) := goodIn_app (vs_in3 mw_h7_306 mw_h7_307 mw_h7_71 (by decide +kernel)) (vs_cons mw_h7_305 (by decide +kernel) in_h7_VS_h4)
theorem gv_h7_67 : GoodIn VS_h7 (va_wsS RX9 76 yX9_bucketOf (.code yX9_bucketOf cX9_bucketOf 3 (some .int) :: VS_h4)) := goodIn_app (vs_in3 mw_h7_309 mw_h7_310 mw_h7_71 (by decide +kernel)) (vs_cons mw_h7_308 (by decide +kernel) in_h7_VS_h4)
theorem gv_h7_68 : GoodIn VS_h7 (wsV RX9 129 RX9 yX9_isNamed (.code yX9_isNamed cX9_isNamed 7 (some .boolean) :: VS_h4)) := goodIn_app (vs_in4 mw_h7_312 mw_h7_313 mw_h7_314 mw_h7_71 (by decide +kernel)) (vs_cons mw_h7_311 (by decide +kernel) in_h7_VS_h4)
theorem gv_h7_69 : GoodIn VS_h7 (wsV RX9 63 RX9 yX9_closeName (.code yX9_closeName cX9_closeName 4 none :: VS_h4)) := goodIn_app (vs_in4 mw_h7_316 mw_h7_317 mw_h7_318 mw_h7_71 (by decide +kernel)) (vs_cons mw_h7_315 (by decide +kernel) in_h7_VS_h4)
theorem gv_h7_70 : GoodIn VS_h7 (wsV RX10 80 RX10 yX10_wantType (.code yX10_wantType cX10_wantType 3 none :: VS_h4)) := goodIn_app (vs_in4 mw_h7_331 mw_h7_332 mw_h7_333 mw_h7_334 (by decide +kernel)) (vs_cons mw_h7_330 (by decide +kernel) in_h7_VS_h4)
theorem gv_h7_71 : GoodIn VS_h7 (wsV RX10 86 RX1 yX1_jump (.code yX1_jump cX1_jump 4 (some .int) :: VS_h4)) := goodIn_app (vs_in4 mw_h7_335 mw_h7_6 mw_h7_7 mw_h7_8 (by decide +kernel)) (vs_cons mw_h7_4 (by decide +kernel) in_h7_VS_h4)
theorem gv_h7_72 : GoodIn VS_h7 (va_wsS RX10 97 yX9_level (.code yX9_level cX9_level 1 (some .int) :: VS_h4)) := goodIn_app (vs_in3 mw_h7_337 mw_h7_338 mw_h7_71 (by decide +kernel)) (vs_cons mw_h7_336 (by decide +kernel) in_h7_VS_h4)
theorem gv_h7_73 : GoodIn VS_h7 (wsV RX10 118 RX1 yX1_pop (.code yX1_pop cX1_pop 2 none :: VS_h4)) := goodIn_app (vs_in4 mw_h7_339 mw_h7_23 mw_h7_24 mw_h7_8 (by decide +kernel)) (vs_cons mw_h7_21 (by decide +kernel) in_h7_VS_h4)
theorem gv_h7_74 : GoodIn VS_h7 (wsV RX10 93 RX9 yX9_kind (.code yX9_kind cX9_kind 1 (some .int) :: VS_h4)) := goodIn_app (vs_in4 mw_h7_340 mw_h7_74 mw_h7_75 mw_h7_71 (by decide +kernel)) (vs_cons mw_h7_72 (by decide +kernel) in_h7_VS_h4)
theorem gv_h7_75 : GoodIn VS_h7 (wsV RX10 187 RX9 yX9_beginsCast (.code yX9_beginsCast cX9_beginsCast 1 (some .boolean) :: VS_h4)) := goodIn_app (vs_in4 mw_h7_342 mw_h7_343 mw_h7_344 mw_h7_71 (by decide +kernel)) (vs_cons mw_h7_341 (by decide +kernel) in_h7_VS_h4)
theorem gv_h7_76 : GoodIn VS_h7 (wsV RX10 224 RX9 yX9_kindAt (.code yX9_kindAt cX9_kindAt 2 (some .int) :: VS_h4)) := goodIn_app (vs_in4 mw_h7_345 mw_h7_69 mw_h7_70 mw_h7_71 (by decide +kernel)) (vs_cons mw_h7_67 (by decide +kernel) in_h7_VS_h4)
theorem gv_h7_77 : GoodIn VS_h7 (wsV RX10 168 RX10 yX10_readNamedClass (.code yX10_readNamedClass cX10_readNamedClass 4 (some .int) :: VS_h4)) := goodIn_app (vs_in4 mw_h7_347 mw_h7_348 mw_h7_349 mw_h7_334 (by decide +kernel)) (vs_cons mw_h7_346 (by decide +kernel) in_h7_VS_h4)
theorem gv_h7_78 : GoodIn VS_h7 (wsV RX10 227 RX9 yX9_valueAt (.code yX9_valueAt cX9_valueAt 2 (some .int) :: VS_h4)) := goodIn_app (vs_in4 mw_h7_350 mw_h7_82 mw_h7_83 mw_h7_71 (by decide +kernel)) (vs_cons mw_h7_80 (by decide +kernel) in_h7_VS_h4)
theorem gv_h7_79 : GoodIn VS_h7 (wsV RX10 258 RX1 yX1_localOf (.code yX1_localOf cX1_localOf 3 (some .int) :: VS_h4)) := goodIn_app (vs_in4 mw_h7_352 mw_h7_353 mw_h7_354 mw_h7_8 (by decide +kernel)) (vs_cons mw_h7_351 (by decide +kernel) in_h7_VS_h4)
theorem gv_h7_80 : GoodIn VS_h7 (wsV RX10 261 RX2 yX2_fieldOf (.code yX2_fieldOf cX2_fieldOf 6 (some .int) :: VS_h4)) := goodIn_app (vs_in4 mw_h7_356 mw_h7_357 mw_h7_358 mw_h7_66 (by decide +kernel)) (vs_cons mw_h7_355 (by decide +kernel) in_h7_VS_h4)
theorem gv_h7_81 : GoodIn VS_h7 (wsV RX10 248 RX10 yX10_methodNamed (.code yX10_methodNamed cX10_methodNamed 4 (some .int) :: VS_h4)) := goodIn_app (vs_in4 mw_h7_360 mw_h7_361 mw_h7_362 mw_h7_334 (by decide +kernel)) (vs_cons mw_h7_359 (by decide +kernel) in_h7_VS_h4)
theorem gv_h7_82 : GoodIn VS_h7 (wsV RX10 251 RX2 yX2_isFixed (.code yX2_isFixed cX2_isFixed 2 (some .boolean) :: VS_h4)) := goodIn_app (vs_in4 mw_h7_364 mw_h7_365 mw_h7_366 mw_h7_66 (by decide +kernel)) (vs_cons mw_h7_363 (by decide +kernel) in_h7_VS_h4)
theorem gv_h7_83 : GoodIn VS_h7 (wsV RX10 236 RX10 yX10_giveThis (.code yX10_giveThis cX10_giveThis 2 none :: VS_h4)) := goodIn_app (vs_in4 mw_h7_368 mw_h7_369 mw_h7_370 mw_h7_334 (by decide +kernel)) (vs_cons mw_h7_367 (by decide +kernel) in_h7_VS_h4)
theorem gv_h7_84 : GoodIn VS_h7 (va_wsS RX10 242 yX4_isArray (.code yX4_isArray cX4_isArray 1 (some .boolean) :: VS_h3)) := goodIn_app (vs_in3 mw_h7_371 mw_h7_90 mw_h7_91 (by decide +kernel)) (vs_cons mw_h7_88 (by decide +kernel) in_h7_VS_h3)
theorem gv_h7_85 : GoodIn VS_h7 (va_wsS RX10 277 yX4_isClass (.code yX4_isClass cX4_isClass 1 (some .boolean) :: VS_h2)) := goodIn_app (vs_in3 mw_h7_372 mw_h7_97 mw_h7_91 (by decide +kernel)) (vs_cons mw_h7_95 (by decide +kernel) in_h7_VS_h2)
theorem gv_h7_86 : GoodIn VS_h7 (wsV RX10 271 RX2 yX2_methodOf (.code yX2_methodOf cX2_methodOf 6 (some .int) :: VS_h4)) := goodIn_app (vs_in4 mw_h7_373 mw_h7_141 mw_h7_142 mw_h7_66 (by decide +kernel)) (vs_cons mw_h7_139 (by decide +kernel) in_h7_VS_h4)
theorem gv_h7_87 : GoodIn VS_h7 (wsV RX10 165 RX9 yX9_tell (.code yX9_tell cX9_tell 3 none :: VS_h4)) := goodIn_app (vs_in4 mw_h7_374 mw_h7_113 mw_h7_114 mw_h7_71 (by decide +kernel)) (vs_cons mw_h7_111 (by decide +kernel) in_h7_VS_h4)
theorem gv_h7_88 : GoodIn VS_h7 (wsV RX10 265 RX10 yX10_nameField (.code yX10_nameField cX10_nameField 3 none :: VS_h4)) := goodIn_app (vs_in4 mw_h7_376 mw_h7_377 mw_h7_378 mw_h7_334 (by decide +kernel)) (vs_cons mw_h7_375 (by decide +kernel) in_h7_VS_h4)
theorem gv_h7_89 : GoodIn VS_h7 (wsV RX10 162 RX1 yX1_op (.code yX1_op cX1_op 2 none :: VS_h4)) := goodIn_app (vs_in4 mw_h7_379 mw_h7_19 mw_h7_20 mw_h7_8 (by decide +kernel)) (vs_cons mw_h7_17 (by decide +kernel) in_h7_VS_h4)
theorem gv_h7_90 : GoodIn VS_h7 (wsV RX10 233 RX10 yX10_give (.code yX10_give cX10_give 2 none :: VS_h4)) := goodIn_app (vs_in4 mw_h7_381 mw_h7_382 mw_h7_383 mw_h7_334 (by decide +kernel)) (vs_cons mw_h7_380 (by decide +kernel) in_h7_VS_h4)
theorem gv_h7_91 : GoodIn VS_h7 (wsV RX11 146 RX3 yX3_of (.code yX3_of cX3_of 4 (some .int) :: VS_h3)) := goodIn_app (vs_in4 mw_h7_384 mw_h7_275 mw_h7_276 mw_h7_152 (by decide +kernel)) (vs_cons mw_h7_273 (by decide +kernel) in_h7_VS_h3)
theorem gv_h7_92 : GoodIn VS_h7 (wsV RX11 75 RX4 yX4_above (.code yX4_above cX4_above 2 (some .int) :: VS_h2)) := goodIn_app (vs_in4 mw_h7_385 mw_h7_133 mw_h7_134 mw_h7_91 (by decide +kernel)) (vs_cons mw_h7_131 (by decide +kernel) in_h7_VS_h2)
theorem gv_h7_93 : GoodIn VS_h7 (wsV RX11 167 RX3 yX3_tagOf (.code yX3_tagOf cX3_tagOf 2 (some .int) :: VS_h2)) := goodIn_app (vs_in4 mw_h7_386 mw_h7_177 mw_h7_178 mw_h7_152 (by decide +kernel)) (vs_cons mw_h7_175 (by decide +kernel) in_h7_VS_h2)
theorem gv_h7_94 : GoodIn VS_h7 (wsV RX11 177 RX3 yX3_partOf (.code yX3_partOf cX3_partOf 3 (some .int) :: VS_h2)) := goodIn_app (vs_in4 mw_h7_387 mw_h7_164 mw_h7_165 mw_h7_152 (by decide +kernel)) (vs_cons mw_h7_162 (by decide +kernel) in_h7_VS_h2)
theorem gv_h7_95 : GoodIn VS_h7 (wsV RX11 180 RX3 yX3_textAt (.code yX3_textAt cX3_textAt 2 (some .int) :: VS_h2)) := goodIn_app (vs_in4 mw_h7_389 mw_h7_390 mw_h7_391 mw_h7_152 (by decide +kernel)) (vs_cons mw_h7_388 (by decide +kernel) in_h7_VS_h2)
theorem gv_h7_96 : GoodIn VS_h7 (wsV RX11 183 RX3 yX3_byteAt (.code yX3_byteAt cX3_byteAt 2 (some .int) :: VS_h2)) := goodIn_app (vs_in4 mw_h7_392 mw_h7_184 mw_h7_185 mw_h7_152 (by decide +kernel)) (vs_cons mw_h7_182 (by decide +kernel) in_h7_VS_h2)
theorem gv_h7_97 : GoodIn VS_h7 (wsV RX11 189 RX11 yX11_info (.code yX11_info cX11_info 2 (some .int) :: VS_h3)) := goodIn_app (vs_in4 mw_h7_394 mw_h7_395 mw_h7_396 mw_h7_397 (by decide +kernel)) (vs_cons mw_h7_393 (by decide +kernel) in_h7_VS_h3)
theorem gv_h7_98 : GoodIn VS_h7 (va_wsS RX11 212 yJ7_fill_fda19 (.code yJ7_fill_fda19 cJ7_fill_fda19 5 none :: VS_h7)) := goodIn_app (vs_in3 mw_h7_398 mw_h7_232 mw_h7_3 (by decide +kernel)) (vs_cons mw_h7_230 (by decide +kernel) gs_h7)
theorem gv_h7_99 : GoodIn VS_h7 (wsV RX11 192 RX11 yX11_codeAt (.code yX11_codeAt cX11_codeAt 2 (some .int) :: VS_h3)) := goodIn_app (vs_in4 mw_h7_400 mw_h7_401 mw_h7_402 mw_h7_397 (by decide +kernel)) (vs_cons mw_h7_399 (by decide +kernel) in_h7_VS_h3)
theorem gv_h7_100 : GoodIn VS_h7 (va_wsS RX11 218 yX11_widthOf (.code yX11_widthOf cX11_widthOf 1 (some .int) :: VS_h3)) := goodIn_app (vs_in3 mw_h7_404 mw_h7_405 mw_h7_397 (by decide +kernel)) (vs_cons mw_h7_403 (by decide +kernel) in_h7_VS_h3)
theorem gv_h7_101 : GoodIn VS_h7 (wsV RX11 221 RX11 yX11_at (.code yX11_at cX11_at 3 (some .int) :: VS_h3)) := goodIn_app (vs_in4 mw_h7_407 mw_h7_408 mw_h7_409 mw_h7_397 (by decide +kernel)) (vs_cons mw_h7_406 (by decide +kernel) in_h7_VS_h3)
theorem gv_h7_102 : GoodIn VS_h7 (va_wsS RX11 258 yJ7_fill_53178 (.code yJ7_fill_53178 cJ7_fill_53178 4 none :: VS_h7)) := goodIn_app (vs_in3 mw_h7_415 mw_h7_61 mw_h7_3 (by decide +kernel)) (vs_cons mw_h7_59 (by decide +kernel) gs_h7)
theorem gv_h7_103 : GoodIn VS_h7 (wsV RX11 242 RX11 yX11_frameAt (.code yX11_frameAt cX11_frameAt 2 (some .int) :: VS_h3)) := goodIn_app (vs_in4 mw_h7_417 mw_h7_418 mw_h7_419 mw_h7_397 (by decide +kernel)) (vs_cons mw_h7_416 (by decide +kernel) in_h7_VS_h3)
theorem gv_h7_104 : GoodIn VS_h7 (wsV RX11 304 RX11 yX11_fitsLocals (.code yX11_fitsLocals cX11_fitsLocals 4 (some .boolean) :: VS_h3)) := goodIn_app (vs_in4 mw_h7_421 mw_h7_422 mw_h7_423 mw_h7_397 (by decide +kernel)) (vs_cons mw_h7_420 (by decide +kernel) in_h7_VS_h3)
theorem gv_h7_105 : GoodIn VS_h7 (wsV RX11 303 RX11 yX11_fits (.code yX11_fits cX11_fits 3 (some .boolean) :: VS_h3)) := goodIn_app (vs_in4 mw_h7_425 mw_h7_426 mw_h7_427 mw_h7_397 (by decide +kernel)) (vs_cons mw_h7_424 (by decide +kernel) in_h7_VS_h3)
theorem gv_h7_106 : GoodIn VS_h7 (wsV RX1 96 RX1 yX1_slotOfFrame (.code yX1_slotOfFrame cX1_slotOfFrame 3 (some .int) :: VS_h7)) := goodIn_app (vs_in4 mw_h7_434 mw_h7_435 mw_h7_436 mw_h7_8 (by decide +kernel)) (vs_cons mw_h7_433 (by decide +kernel) gs_h7)
theorem gv_h7_107 : GoodIn VS_h7 (wsV RX1 100 RX1 yX1_fillFrame (.code yX1_fillFrame cX1_fillFrame 5 none :: VS_h7)) := goodIn_app (vs_in4 mw_h7_438 mw_h7_439 mw_h7_440 mw_h7_8 (by decide +kernel)) (vs_cons mw_h7_437 (by decide +kernel) gs_h7)
theorem gv_h7_108 : GoodIn VS_h7 (wsV RX1 107 RX1 yX1_aimHere (.code yX1_aimHere cX1_aimHere 2 none :: VS_h7)) := goodIn_app (vs_in4 mw_h7_444 mw_h7_445 mw_h7_446 mw_h7_8 (by decide +kernel)) (vs_cons mw_h7_443 (by decide +kernel) gs_h7)
theorem gv_h7_109 : GoodIn VS_h7 (wsV RX2 88 RX4 yX4_forget (.code yX4_forget cX4_forget 2 none :: VS_h7)) := goodIn_app (vs_in4 mw_h7_448 mw_h7_449 mw_h7_450 mw_h7_91 (by decide +kernel)) (vs_cons mw_h7_447 (by decide +kernel) gs_h7)
theorem gv_h7_110 : GoodIn VS_h7 (wsV RX2 94 RX2 yX2_nameClasses (.code yX2_nameClasses cX2_nameClasses 3 none :: VS_h7)) := goodIn_app (vs_in4 mw_h7_453 mw_h7_454 mw_h7_455 mw_h7_66 (by decide +kernel)) (vs_cons mw_h7_452 (by decide +kernel) gs_h7)
theorem gv_h7_111 : GoodIn VS_h7 (wsV RX2 97 RX2 yX2_checkClassHead (.code yX2_checkClassHead cX2_checkClassHead 3 none :: VS_h4)) := goodIn_app (vs_in4 mw_h7_457 mw_h7_458 mw_h7_459 mw_h7_66 (by decide +kernel)) (vs_cons mw_h7_456 (by decide +kernel) in_h7_VS_h4)
theorem gv_h7_112 : GoodIn VS_h7 (wsV RX2 109 RX4 yX4_settle (.code yX4_settle cX4_settle 4 none :: VS_h3)) := goodIn_app (vs_in4 mw_h7_460 mw_h7_222 mw_h7_223 mw_h7_91 (by decide +kernel)) (vs_cons mw_h7_220 (by decide +kernel) in_h7_VS_h3)
theorem gv_h7_113 : GoodIn VS_h7 (wsV RX2 101 RX2 yX2_classAbove (.code yX2_classAbove cX2_classAbove 3 (some .int) :: VS_h4)) := goodIn_app (vs_in4 mw_h7_462 mw_h7_463 mw_h7_464 mw_h7_66 (by decide +kernel)) (vs_cons mw_h7_461 (by decide +kernel) in_h7_VS_h4)
theorem gv_h7_114 : GoodIn VS_h7 (wsV RX2 105 RX4 yX4_setAbove (.code yX4_setAbove cX4_setAbove 3 none :: VS_h2)) := goodIn_app (vs_in4 mw_h7_466 mw_h7_467 mw_h7_468 mw_h7_91 (by decide +kernel)) (vs_cons mw_h7_465 (by decide +kernel) in_h7_VS_h2)
theorem gv_h7_115 : GoodIn VS_h7 (wsV RX2 132 RX2 yX2_checkOverride (.code yX2_checkOverride cX2_checkOverride 5 none :: VS_h7)) := goodIn_app (vs_in4 mw_h7_470 mw_h7_471 mw_h7_472 mw_h7_66 (by decide +kernel)) (vs_cons mw_h7_469 (by decide +kernel) gs_h7)
theorem gv_h7_116 : GoodIn VS_h7 (wsV RX2 169 RX9 yX9_copyName (.code yX9_copyName cX9_copyName 5 none :: VS_h7)) := goodIn_app (vs_in4 mw_h7_474 mw_h7_475 mw_h7_476 mw_h7_71 (by decide +kernel)) (vs_cons mw_h7_473 (by decide +kernel) gs_h7)
theorem gv_h7_117 : GoodIn VS_h7 (wsV RX2 173 RX9 yX9_nameLength (.code yX9_nameLength cX9_nameLength 2 (some .int) :: VS_h4)) := goodIn_app (vs_in4 mw_h7_477 mw_h7_287 mw_h7_288 mw_h7_71 (by decide +kernel)) (vs_cons mw_h7_285 (by decide +kernel) in_h7_VS_h4)
theorem gv_h7_118 : GoodIn VS_h7 (wsV RX2 199 RX2 yX2_addMethod (.code yX2_addMethod cX2_addMethod 7 none :: VS_h7)) := goodIn_app (vs_in4 mw_h7_483 mw_h7_484 mw_h7_485 mw_h7_66 (by decide +kernel)) (vs_cons mw_h7_482 (by decide +kernel) gs_h7)
theorem gv_h7_119 : GoodIn VS_h7 (wsV RX2 195 RX2 yX2_addField (.code yX2_addField cX2_addField 6 none :: VS_h4)) := goodIn_app (vs_in4 mw_h7_487 mw_h7_488 mw_h7_489 mw_h7_66 (by decide +kernel)) (vs_cons mw_h7_486 (by decide +kernel) in_h7_VS_h4)
theorem gv_h7_120 : GoodIn VS_h7 (wsV RX3 93 RX3 yX3_readConstant (.code yX3_readConstant cX3_readConstant 5 none :: VS_h7)) := goodIn_app (vs_in4 mw_h7_491 mw_h7_492 mw_h7_493 mw_h7_152 (by decide +kernel)) (vs_cons mw_h7_490 (by decide +kernel) gs_h7)
theorem gv_h7_121 : GoodIn VS_h7 (wsV RX3 106 RX3 yX3_isArrayText (.code yX3_isArrayText cX3_isArrayText 2 (some .boolean) :: VS_h3)) := goodIn_app (vs_in4 mw_h7_495 mw_h7_496 mw_h7_497 mw_h7_152 (by decide +kernel)) (vs_cons mw_h7_494 (by decide +kernel) in_h7_VS_h3)
theorem gv_h7_122 : GoodIn VS_h7 (wsV RX3 109 RX3 yX3_isFieldKind (.code yX3_isFieldKind cX3_isFieldKind 2 (some .boolean) :: VS_h7)) := goodIn_app (vs_in4 mw_h7_499 mw_h7_500 mw_h7_501 mw_h7_152 (by decide +kernel)) (vs_cons mw_h7_498 (by decide +kernel) gs_h7)
theorem gv_h7_123 : GoodIn VS_h7 (va_wsS RX5 176 yX5_computed (.code yX5_computed cX5_computed 3 (some .int) :: VS_h7)) := goodIn_app (vs_in3 mw_h7_505 mw_h7_506 mw_h7_229 (by decide +kernel)) (vs_cons mw_h7_504 (by decide +kernel) gs_h7)
theorem gv_h7_124 : GoodIn VS_h7 (wsV RX6 112 RX9 yX9_copyName (.code yX9_copyName cX9_copyName 5 none :: VS_h7)) := goodIn_app (vs_in4 mw_h7_507 mw_h7_475 mw_h7_476 mw_h7_71 (by decide +kernel)) (vs_cons mw_h7_473 (by decide +kernel) gs_h7)
theorem gv_h7_125 : GoodIn VS_h7 (wsV RX9 113 RX9 yX9_scanNumber (.code yX9_scanNumber cX9_scanNumber 9 (some .int) :: VS_h7)) := goodIn_app (vs_in4 mw_h7_512 mw_h7_513 mw_h7_514 mw_h7_71 (by decide +kernel)) (vs_cons mw_h7_511 (by decide +kernel) gs_h7)
theorem gv_h7_126 : GoodIn VS_h7 (wsV RX9 126 RX9 yX9_nameOf (.code yX9_nameOf cX9_nameOf 6 (some .int) :: VS_h7)) := goodIn_app (vs_in4 mw_h7_516 mw_h7_517 mw_h7_518 mw_h7_71 (by decide +kernel)) (vs_cons mw_h7_515 (by decide +kernel) gs_h7)
theorem gv_h7_127 : GoodIn VS_h7 (wsV RX10 121 RX1 yX1_aimHere (.code yX1_aimHere cX1_aimHere 2 none :: VS_h7)) := goodIn_app (vs_in4 mw_h7_519 mw_h7_445 mw_h7_446 mw_h7_8 (by decide +kernel)) (vs_cons mw_h7_443 (by decide +kernel) gs_h7)
theorem gv_h7_128 : GoodIn VS_h7 (wsV RX10 130 RX1 yX1_push (.code yX1_push cX1_push 2 none :: VS_h4)) := goodIn_app (vs_in4 mw_h7_520 mw_h7_15 mw_h7_16 mw_h7_8 (by decide +kernel)) (vs_cons mw_h7_13 (by decide +kernel) in_h7_VS_h4)
theorem gv_h7_129 : GoodIn VS_h7 (wsV RX10 156 RX1 yX1_truth (.code yX1_truth cX1_truth 5 none :: VS_h7)) := goodIn_app (vs_in4 mw_h7_525 mw_h7_526 mw_h7_527 mw_h7_8 (by decide +kernel)) (vs_cons mw_h7_524 (by decide +kernel) gs_h7)
theorem gv_h7_130 : GoodIn VS_h7 (wsV RX10 179 RX1 yX1_op_ (.code yX1_op_ cX1_op_ 3 none :: VS_h4)) := goodIn_app (vs_in4 mw_h7_529 mw_h7_530 mw_h7_531 mw_h7_8 (by decide +kernel)) (vs_cons mw_h7_528 (by decide +kernel) in_h7_VS_h4)
theorem gv_h7_131 : GoodIn VS_h7 (wsV RX11 283 RX11 yX11_fitsFrame (.code yX11_fitsFrame cX11_fitsFrame 5 (some .boolean) :: VS_h7)) := goodIn_app (vs_in4 mw_h7_534 mw_h7_535 mw_h7_536 mw_h7_397 (by decide +kernel)) (vs_cons mw_h7_533 (by decide +kernel) gs_h7)
theorem gv_h7_132 : GoodIn VS_h7 (wsV RX11 286 RX11 yX11_takeFrame (.code yX11_takeFrame cX11_takeFrame 3 none :: VS_h7)) := goodIn_app (vs_in4 mw_h7_538 mw_h7_539 mw_h7_540 mw_h7_397 (by decide +kernel)) (vs_cons mw_h7_537 (by decide +kernel) gs_h7)
theorem gv_h7_133 : GoodIn VS_h7 (wsV RX11 289 RX11 yX11_fitsHandlers (.code yX11_fitsHandlers cX11_fitsHandlers 5 (some .boolean) :: VS_h3)) := goodIn_app (vs_in4 mw_h7_542 mw_h7_543 mw_h7_544 mw_h7_397 (by decide +kernel)) (vs_cons mw_h7_541 (by decide +kernel) in_h7_VS_h3)
theorem gv_h7_134 : GoodIn VS_h7 (wsV RX2 125 RX2 yX2_readMember (.code yX2_readMember cX2_readMember 5 none :: VS_h7)) := goodIn_app (vs_in4 mw_h7_546 mw_h7_547 mw_h7_548 mw_h7_66 (by decide +kernel)) (vs_cons mw_h7_545 (by decide +kernel) gs_h7)
theorem gv_h7_135 : GoodIn VS_h7 (wsV RX2 147 RX2 yX2_addKind (.code yX2_addKind cX2_addKind 4 none :: VS_h7)) := goodIn_app (vs_in4 mw_h7_550 mw_h7_551 mw_h7_552 mw_h7_66 (by decide +kernel)) (vs_cons mw_h7_549 (by decide +kernel) gs_h7)
theorem gv_h7_136 : GoodIn VS_h7 (wsV RX2 150 RX9 yX9_nameOf (.code yX9_nameOf cX9_nameOf 6 (some .int) :: VS_h7)) := goodIn_app (vs_in4 mw_h7_553 mw_h7_517 mw_h7_518 mw_h7_71 (by decide +kernel)) (vs_cons mw_h7_515 (by decide +kernel) gs_h7)
theorem gv_h7_137 : GoodIn VS_h7 (wsV RX9 107 RX9 yX9_scanWord (.code yX9_scanWord cX9_scanWord 8 (some .int) :: VS_h7)) := goodIn_app (vs_in4 mw_h7_555 mw_h7_556 mw_h7_557 mw_h7_71 (by decide +kernel)) (vs_cons mw_h7_554 (by decide +kernel) gs_h7)
theorem gv_h7_138 : GoodIn VS_h7 (va_wsS RX9 116 yX9_signOf (.code yX9_signOf cX9_signOf 2 (some .int) :: VS_h4)) := goodIn_app (vs_in3 mw_h7_559 mw_h7_560 mw_h7_71 (by decide +kernel)) (vs_cons mw_h7_558 (by decide +kernel) in_h7_VS_h4)
theorem gv_h7_139 : GoodIn VS_h7 (va_wsS RX9 120 yX9_signLength (.code yX9_signLength cX9_signLength 1 (some .int) :: VS_h4)) := goodIn_app (vs_in3 mw_h7_562 mw_h7_563 mw_h7_71 (by decide +kernel)) (vs_cons mw_h7_561 (by decide +kernel) in_h7_VS_h4)
theorem gv_h7_140 : GoodIn VS_h7 (wsV RX10 149 RX10 yX10_closeShort (.code yX10_closeShort cX10_closeShort 4 none :: VS_h7)) := goodIn_app (vs_in4 mw_h7_565 mw_h7_566 mw_h7_567 mw_h7_334 (by decide +kernel)) (vs_cons mw_h7_564 (by decide +kernel) gs_h7)
theorem gv_h7_141 : GoodIn VS_h7 (wsV RX10 124 RX10 yX10_isPair (.code yX10_isPair cX10_isPair 3 (some .boolean) :: VS_h4)) := goodIn_app (vs_in4 mw_h7_569 mw_h7_570 mw_h7_571 mw_h7_334 (by decide +kernel)) (vs_cons mw_h7_568 (by decide +kernel) in_h7_VS_h4)
theorem gv_h7_142 : GoodIn VS_h7 (va_wsS RX10 143 yX4_isNumber (.code yX4_isNumber cX4_isNumber 1 (some .boolean) :: VS_h3)) := goodIn_app (vs_in3 mw_h7_573 mw_h7_574 mw_h7_91 (by decide +kernel)) (vs_cons mw_h7_572 (by decide +kernel) in_h7_VS_h3)
theorem gv_h7_143 : GoodIn VS_h7 (va_wsS RX10 152 yX10_compareOp (.code yX10_compareOp cX10_compareOp 2 (some .int) :: VS_h4)) := goodIn_app (vs_in3 mw_h7_576 mw_h7_577 mw_h7_334 (by decide +kernel)) (vs_cons mw_h7_575 (by decide +kernel) in_h7_VS_h4)
theorem gv_h7_144 : GoodIn VS_h7 (va_wsS RX10 159 yX10_arithmeticOp (.code yX10_arithmeticOp cX10_arithmeticOp 1 (some .int) :: VS_h4)) := goodIn_app (vs_in3 mw_h7_579 mw_h7_580 mw_h7_334 (by decide +kernel)) (vs_cons mw_h7_578 (by decide +kernel) in_h7_VS_h4)
theorem gv_h7_145 : GoodIn VS_h7 (wsV RX2 138 RX2 yX2_nameKind (.code yX2_nameKind cX2_nameKind 2 (some .int) :: VS_h7)) := goodIn_app (vs_in4 mw_h7_588 mw_h7_589 mw_h7_590 mw_h7_66 (by decide +kernel)) (vs_cons mw_h7_587 (by decide +kernel) gs_h7)
theorem gv_h7_146 : GoodIn VS_h7 (wsV RX2 141 RX2 yX2_nameMethodKind (.code yX2_nameMethodKind cX2_nameMethodKind 3 (some .int) :: VS_h7)) := goodIn_app (vs_in4 mw_h7_592 mw_h7_593 mw_h7_594 mw_h7_66 (by decide +kernel)) (vs_cons mw_h7_591 (by decide +kernel) gs_h7)
theorem gv_h7_147 : GoodIn VS_h7 (wsV RX3 96 RX3 yX3_checkConstant (.code yX3_checkConstant cX3_checkConstant 4 none :: VS_h7)) := goodIn_app (vs_in4 mw_h7_600 mw_h7_601 mw_h7_602 mw_h7_152 (by decide +kernel)) (vs_cons mw_h7_599 (by decide +kernel) gs_h7)
theorem gv_h7_148 : GoodIn VS_h7 (wsV RX9 96 RX9 yX9_scanToken (.code yX9_scanToken cX9_scanToken 8 (some .int) :: VS_h7)) := goodIn_app (vs_in4 mw_h7_605 mw_h7_606 mw_h7_607 mw_h7_71 (by decide +kernel)) (vs_cons mw_h7_604 (by decide +kernel) gs_h7)
theorem gv_h7_149 : GoodIn VS_h7 (wsV RX3 55 RX3 yX3_readConstants (.code yX3_readConstants cX3_readConstants 2 none :: VS_h7)) := goodIn_app (vs_in4 mw_h7_614 mw_h7_615 mw_h7_616 mw_h7_152 (by decide +kernel)) (vs_cons mw_h7_613 (by decide +kernel) gs_h7)
theorem gv_h7_150 : GoodIn VS_h7 (wsV RX3 58 RX3 yX3_nextPlainClass (.code yX3_nextPlainClass cX3_nextPlainClass 3 (some .int) :: VS_h3)) := goodIn_app (vs_in4 mw_h7_618 mw_h7_619 mw_h7_620 mw_h7_152 (by decide +kernel)) (vs_cons mw_h7_617 (by decide +kernel) in_h7_VS_h3)
theorem gv_h7_151 : GoodIn VS_h7 (wsV RX3 68 RX3 yX3_readFields (.code yX3_readFields cX3_readFields 4 none :: VS_h7)) := goodIn_app (vs_in4 mw_h7_622 mw_h7_623 mw_h7_624 mw_h7_152 (by decide +kernel)) (vs_cons mw_h7_621 (by decide +kernel) gs_h7)
theorem gv_h7_152 : GoodIn VS_h7 (wsV RX3 74 RX3 yX3_readMethod (.code yX3_readMethod cX3_readMethod 4 none :: VS_h7)) := goodIn_app (vs_in4 mw_h7_626 mw_h7_627 mw_h7_628 mw_h7_152 (by decide +kernel)) (vs_cons mw_h7_625 (by decide +kernel) gs_h7)
