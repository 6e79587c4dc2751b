abbrev cX0_beginProgram : ByteArray := prog_2_method_3_code
def yX0_beginProgram : MethodName := ⟨RX0, "beginProgram", "()V"⟩
abbrev cX0_closeProgram : ByteArray := prog_2_method_4_code
def yX0_closeProgram : MethodName := ⟨RX0, "closeProgram", "()V"⟩
abbrev cX0_noteMuch : ByteArray := prog_2_method_5_code
def yX0_noteMuch : MethodName := ⟨RX0, "noteMuch", "(ZI)V"⟩
abbrev cX0_beginClass : ByteArray := prog_2_method_6_code
def yX0_beginClass : MethodName := ⟨RX0, "beginClass", "(I)V"⟩
abbrev cX0_checkTwice : ByteArray := prog_2_method_16_code
def yX0_checkTwice : MethodName := ⟨RX0, "checkTwice", "(I)V"⟩
abbrev cX0_closeAlone : ByteArray := prog_2_method_22_code
def yX0_closeAlone : MethodName := ⟨RX0, "closeAlone", "(I)V"⟩
abbrev cX0_closeGiving : ByteArray := prog_2_method_23_code
def yX0_closeGiving : MethodName := ⟨RX0, "closeGiving", "(IIII)V"⟩
abbrev cX1_beginMethod : ByteArray := prog_3_method_2_code
def yX1_beginMethod : MethodName := ⟨RX1, "beginMethod", "()V"⟩
abbrev cX1_isTooMuch : ByteArray := prog_3_method_3_code
def yX1_isTooMuch : MethodName := ⟨RX1, "isTooMuch", "()Z"⟩
abbrev cX1_op : ByteArray := prog_3_method_4_code
def yX1_op : MethodName := ⟨RX1, "op", "(I)V"⟩
abbrev cX1_op_ : ByteArray := prog_3_method_5_code
def yX1_op_ : MethodName := ⟨RX1, "op", "(II)V"⟩
abbrev cX1_push : ByteArray := prog_3_method_6_code
def yX1_push : MethodName := ⟨RX1, "push", "(I)V"⟩
abbrev cX1_pop : ByteArray := prog_3_method_7_code
def yX1_pop : MethodName := ⟨RX1, "pop", "(I)V"⟩
abbrev cX1_addLocal : ByteArray := prog_3_method_8_code
def yX1_addLocal : MethodName := ⟨RX1, "addLocal", "(II)I"⟩
abbrev cX1_localOf : ByteArray := prog_3_method_9_code
def yX1_localOf : MethodName := ⟨RX1, "localOf", "(I)I"⟩
abbrev cX1_typeOfLocal : ByteArray := prog_3_method_10_code
def yX1_typeOfLocal : MethodName := ⟨RX1, "typeOfLocal", "(I)I"⟩
abbrev cX1_store : ByteArray := prog_3_method_11_code
def yX1_store : MethodName := ⟨RX1, "store", "(II)V"⟩
abbrev cX1_jump : ByteArray := prog_3_method_12_code
def yX1_jump : MethodName := ⟨RX1, "jump", "(II)I"⟩
abbrev cX1_aimAt : ByteArray := prog_3_method_15_code
def yX1_aimAt : MethodName := ⟨RX1, "aimAt", "(II)V"⟩
abbrev cX1_writeFrame : ByteArray := prog_3_method_21_code
def yX1_writeFrame : MethodName := ⟨RX1, "writeFrame", "(LClassMill$Pool;I)V"⟩
abbrev cX1_writeTypes : ByteArray := prog_3_method_22_code
def yX1_writeTypes : MethodName := ⟨RX1, "writeTypes", "(LClassMill$Pool;II)V"⟩
abbrev cX2_addClass : ByteArray := prog_4_method_3_code
def yX2_addClass : MethodName := ⟨RX2, "addClass", "(I)V"⟩
abbrev cX2_addKindByte : ByteArray := prog_4_method_10_code
def yX2_addKindByte : MethodName := ⟨RX2, "addKindByte", "(I)V"⟩
abbrev cX2_classAt : ByteArray := prog_4_method_13_code
def yX2_classAt : MethodName := ⟨RX2, "classAt", "(I)I"⟩
abbrev cX2_nameOfType : ByteArray := prog_4_method_14_code
def yX2_nameOfType : MethodName := ⟨RX2, "nameOfType", "(I)I"⟩
abbrev cX2_tokenOfClass : ByteArray := prog_4_method_15_code
def yX2_tokenOfClass : MethodName := ⟨RX2, "tokenOfClass", "(I)I"⟩
abbrev cX2_classAbove : ByteArray := prog_4_method_16_code
def yX2_classAbove : MethodName := ⟨RX2, "classAbove", "(I)I"⟩
abbrev cX2_checkClassHead : ByteArray := prog_4_method_17_code
def yX2_checkClassHead : MethodName := ⟨RX2, "checkClassHead", "(I)V"⟩
abbrev cX2_endsAbove : ByteArray := prog_4_method_18_code
def yX2_endsAbove : MethodName := ⟨RX2, "endsAbove", "(I)Z"⟩
abbrev cX2_readType : ByteArray := prog_4_method_20_code
def yX2_readType : MethodName := ⟨RX2, "readType", "()I"⟩
abbrev cX2_addField : ByteArray := prog_4_method_21_code
def yX2_addField : MethodName := ⟨RX2, "addField", "(III)V"⟩
abbrev cX2_addParameter : ByteArray := prog_4_method_23_code
def yX2_addParameter : MethodName := ⟨RX2, "addParameter", "(I)V"⟩
abbrev cX2_skipBlock : ByteArray := prog_4_method_24_code
def yX2_skipBlock : MethodName := ⟨RX2, "skipBlock", "()V"⟩
abbrev cX2_fieldIn : ByteArray := prog_4_method_26_code
def yX2_fieldIn : MethodName := ⟨RX2, "fieldIn", "(II)I"⟩
abbrev cX2_methodIn : ByteArray := prog_4_method_27_code
def yX2_methodIn : MethodName := ⟨RX2, "methodIn", "(II)I"⟩
abbrev cX2_isOwn : ByteArray := prog_4_method_28_code
def yX2_isOwn : MethodName := ⟨RX2, "isOwn", "(I)Z"⟩
abbrev cX2_fieldOf : ByteArray := prog_4_method_29_code
def yX2_fieldOf : MethodName := ⟨RX2, "fieldOf", "(II)I"⟩
abbrev cX2_methodOf : ByteArray := prog_4_method_30_code
def yX2_methodOf : MethodName := ⟨RX2, "methodOf", "(II)I"⟩
abbrev cX2_fieldsOf : ByteArray := prog_4_method_31_code
def yX2_fieldsOf : MethodName := ⟨RX2, "fieldsOf", "(I)I"⟩
abbrev cX2_methodsOf : ByteArray := prog_4_method_32_code
def yX2_methodsOf : MethodName := ⟨RX2, "methodsOf", "(I)I"⟩
abbrev cX2_isMethod : ByteArray := prog_4_method_33_code
def yX2_isMethod : MethodName := ⟨RX2, "isMethod", "(I)Z"⟩
abbrev cX2_nameOfField : ByteArray := prog_4_method_34_code
def yX2_nameOfField : MethodName := ⟨RX2, "nameOfField", "(I)I"⟩
abbrev cX2_kindOfField : ByteArray := prog_4_method_35_code
def yX2_kindOfField : MethodName := ⟨RX2, "kindOfField", "(I)I"⟩
abbrev cX2_kindOfMethod : ByteArray := prog_4_method_36_code
def yX2_kindOfMethod : MethodName := ⟨RX2, "kindOfMethod", "(I)I"⟩
abbrev cX2_typeOfField : ByteArray := prog_4_method_37_code
def yX2_typeOfField : MethodName := ⟨RX2, "typeOfField", "(I)I"⟩
abbrev cX2_nameOfMethod : ByteArray := prog_4_method_38_code
def yX2_nameOfMethod : MethodName := ⟨RX2, "nameOfMethod", "(I)I"⟩
abbrev cX2_tokenOfMethod : ByteArray := prog_4_method_39_code
def yX2_tokenOfMethod : MethodName := ⟨RX2, "tokenOfMethod", "(I)I"⟩
abbrev cX2_bodyOf : ByteArray := prog_4_method_40_code
def yX2_bodyOf : MethodName := ⟨RX2, "bodyOf", "(I)I"⟩
abbrev cX2_resultOf : ByteArray := prog_4_method_41_code
def yX2_resultOf : MethodName := ⟨RX2, "resultOf", "(I)I"⟩
abbrev cX2_isFixed : ByteArray := prog_4_method_42_code
def yX2_isFixed : MethodName := ⟨RX2, "isFixed", "(I)Z"⟩
abbrev cX2_parametersOf : ByteArray := prog_4_method_43_code
def yX2_parametersOf : MethodName := ⟨RX2, "parametersOf", "(I)I"⟩
abbrev cX2_parameterType : ByteArray := prog_4_method_44_code
def yX2_parameterType : MethodName := ⟨RX2, "parameterType", "(II)I"⟩
abbrev cX2_parameterName : ByteArray := prog_4_method_45_code
def yX2_parameterName : MethodName := ⟨RX2, "parameterName", "(II)I"⟩
abbrev cX6_beginClass : ByteArray := prog_8_method_2_code
def yX6_beginClass : MethodName := ⟨RX6, "beginClass", "(I)V"⟩
abbrev cX6_beginMethod : ByteArray := prog_8_method_3_code
def yX6_beginMethod : MethodName := ⟨RX6, "beginMethod", "(I)V"⟩
abbrev cX6_put : ByteArray := prog_8_method_4_code
def yX6_put : MethodName := ⟨RX6, "put", "(I)V"⟩
abbrev cX6_putPair : ByteArray := prog_8_method_5_code
def yX6_putPair : MethodName := ⟨RX6, "putPair", "(I)V"⟩
abbrev cX6_isTooMuch : ByteArray := prog_8_method_6_code
def yX6_isTooMuch : MethodName := ⟨RX6, "isTooMuch", "()Z"⟩
abbrev cX6_imageSize : ByteArray := prog_8_method_7_code
def yX6_imageSize : MethodName := ⟨RX6, "imageSize", "()I"⟩
abbrev cX6_bytesOf : ByteArray := prog_8_method_9_code
def yX6_bytesOf : MethodName := ⟨RX6, "bytesOf", "(II)I"⟩
abbrev cX6_constant : ByteArray := prog_8_method_11_code
def yX6_constant : MethodName := ⟨RX6, "constant", "(II)I"⟩
abbrev cX6_classOf : ByteArray := prog_8_method_12_code
def yX6_classOf : MethodName := ⟨RX6, "classOf", "(I)I"⟩
abbrev cX6_numberOf : ByteArray := prog_8_method_13_code
def yX6_numberOf : MethodName := ⟨RX6, "numberOf", "(I)I"⟩
abbrev cX6_fieldOf : ByteArray := prog_8_method_14_code
def yX6_fieldOf : MethodName := ⟨RX6, "fieldOf", "(II)I"⟩
abbrev cX6_methodOf : ByteArray := prog_8_method_15_code
def yX6_methodOf : MethodName := ⟨RX6, "methodOf", "(II)I"⟩
abbrev cX8_need : ByteArray := prog_10_method_3_code
def yX8_need : MethodName := ⟨RX8, "need", "(I)V"⟩
abbrev cX8_accept : ByteArray := prog_10_method_4_code
def yX8_accept : MethodName := ⟨RX8, "accept", "(I)Z"⟩
abbrev cX8_tooDeep : ByteArray := prog_10_method_5_code
def yX8_tooDeep : MethodName := ⟨RX8, "tooDeep", "(I)Z"⟩
abbrev cX8_readParameters : ByteArray := prog_10_method_8_code
def yX8_readParameters : MethodName := ⟨RX8, "readParameters", "()V"⟩
abbrev cX8_readType : ByteArray := prog_10_method_9_code
def yX8_readType : MethodName := ⟨RX8, "readType", "()V"⟩
abbrev cX8_binaryAhead : ByteArray := prog_10_method_17_code
def yX8_binaryAhead : MethodName := ⟨RX8, "binaryAhead", "(Z)Z"⟩
abbrev cX9_refuse : ByteArray := prog_11_method_4_code
def yX9_refuse : MethodName := ⟨RX9, "refuse", "(II)V"⟩
abbrev cX9_tell : ByteArray := prog_11_method_5_code
def yX9_tell : MethodName := ⟨RX9, "tell", "(II)V"⟩
abbrev cX9_tellHere : ByteArray := prog_11_method_6_code
def yX9_tellHere : MethodName := ⟨RX9, "tellHere", "(I)V"⟩
abbrev cX9_kindAt : ByteArray := prog_11_method_7_code
def yX9_kindAt : MethodName := ⟨RX9, "kindAt", "(I)I"⟩
abbrev cX9_valueAt : ByteArray := prog_11_method_8_code
def yX9_valueAt : MethodName := ⟨RX9, "valueAt", "(I)I"⟩
abbrev cX9_kind : ByteArray := prog_11_method_9_code
def yX9_kind : MethodName := ⟨RX9, "kind", "()I"⟩
abbrev cX9_nameLength : ByteArray := prog_11_method_10_code
def yX9_nameLength : MethodName := ⟨RX9, "nameLength", "(I)I"⟩
abbrev cX9_addToken : ByteArray := prog_11_method_13_code
def yX9_addToken : MethodName := ⟨RX9, "addToken", "(III)V"⟩
abbrev cX9_behindBlanks : ByteArray := prog_11_method_14_code
def yX9_behindBlanks : MethodName := ⟨RX9, "behindBlanks", "([BII)I"⟩
abbrev cX9_isLetter : ByteArray := prog_11_method_16_code
def yX9_isLetter : MethodName := ⟨RX9, "isLetter", "(I)Z"⟩
abbrev cX9_isDigit : ByteArray := prog_11_method_17_code
def yX9_isDigit : MethodName := ⟨RX9, "isDigit", "(I)Z"⟩
abbrev cX9_isNamePart : ByteArray := prog_11_method_18_code
def yX9_isNamePart : MethodName := ⟨RX9, "isNamePart", "(I)Z"⟩
abbrev cX9_isName : ByteArray := prog_11_method_19_code
def yX9_isName : MethodName := ⟨RX9, "isName", "([BII)Z"⟩
abbrev cX9_isNamed : ByteArray := prog_11_method_22_code
def yX9_isNamed : MethodName := ⟨RX9, "isNamed", "(I[BII)Z"⟩
abbrev cX9_signOf : ByteArray := prog_11_method_24_code
def yX9_signOf : MethodName := ⟨RX9, "signOf", "(II)I"⟩
abbrev cX9_plainSignOf : ByteArray := prog_11_method_25_code
def yX9_plainSignOf : MethodName := ⟨RX9, "plainSignOf", "(I)I"⟩
abbrev cX9_signLength : ByteArray := prog_11_method_26_code
def yX9_signLength : MethodName := ⟨RX9, "signLength", "(I)I"⟩
abbrev cX9_level : ByteArray := prog_11_method_27_code
def yX9_level : MethodName := ⟨RX9, "level", "(I)I"⟩
abbrev cX9_beginsVariable : ByteArray := prog_11_method_28_code
def yX9_beginsVariable : MethodName := ⟨RX9, "beginsVariable", "()Z"⟩
abbrev cX9_beginsCast : ByteArray := prog_11_method_29_code
def yX9_beginsCast : MethodName := ⟨RX9, "beginsCast", "()Z"⟩
abbrev cX9_isWhileTrue : ByteArray := prog_11_method_30_code
def yX9_isWhileTrue : MethodName := ⟨RX9, "isWhileTrue", "()Z"⟩
abbrev cX10_beginMethod : ByteArray := prog_12_method_2_code
def yX10_beginMethod : MethodName := ⟨RX10, "beginMethod", "(IZ)V"⟩
abbrev cX10_isPair : ByteArray := prog_12_method_7_code
def yX10_isPair : MethodName := ⟨RX10, "isPair", "(II)Z"⟩
abbrev cX10_openSign : ByteArray := prog_12_method_8_code
def yX10_openSign : MethodName := ⟨RX10, "openSign", "()V"⟩
abbrev cX10_isSignDue : ByteArray := prog_12_method_9_code
def yX10_isSignDue : MethodName := ⟨RX10, "isSignDue", "(II)Z"⟩
abbrev cX10_wantType : ByteArray := prog_12_method_11_code
def yX10_wantType : MethodName := ⟨RX10, "wantType", "(ZI)V"⟩
abbrev cX10_compareOp : ByteArray := prog_12_method_13_code
def yX10_compareOp : MethodName := ⟨RX10, "compareOp", "(IZ)I"⟩
abbrev cX10_arithmeticOp : ByteArray := prog_12_method_14_code
def yX10_arithmeticOp : MethodName := ⟨RX10, "arithmeticOp", "(I)I"⟩
abbrev cX10_readInstanceof : ByteArray := prog_12_method_15_code
def yX10_readInstanceof : MethodName := ⟨RX10, "readInstanceof", "()V"⟩
abbrev cX10_readNamedClass : ByteArray := prog_12_method_16_code
def yX10_readNamedClass : MethodName := ⟨RX10, "readNamedClass", "(II)I"⟩
abbrev cX10_wantKinOf : ByteArray := prog_12_method_17_code
def yX10_wantKinOf : MethodName := ⟨RX10, "wantKinOf", "(II)V"⟩
abbrev cX10_closeCast : ByteArray := prog_12_method_20_code
def yX10_closeCast : MethodName := ⟨RX10, "closeCast", "(II)V"⟩
abbrev cX10_fetch : ByteArray := prog_12_method_22_code
def yX10_fetch : MethodName := ⟨RX10, "fetch", "()V"⟩
abbrev cX10_give : ByteArray := prog_12_method_23_code
def yX10_give : MethodName := ⟨RX10, "give", "(I)V"⟩
abbrev cX10_readConstant : ByteArray := prog_12_method_24_code
def yX10_readConstant : MethodName := ⟨RX10, "readConstant", "()V"⟩
abbrev cX10_readNumber : ByteArray := prog_12_method_25_code
def yX10_readNumber : MethodName := ⟨RX10, "readNumber", "(I)V"⟩
abbrev cX10_giveThis : ByteArray := prog_12_method_26_code
def yX10_giveThis : MethodName := ⟨RX10, "giveThis", "(I)V"⟩
abbrev cX10_methodNamed : ByteArray := prog_12_method_30_code
def yX10_methodNamed : MethodName := ⟨RX10, "methodNamed", "(II)I"⟩
abbrev cX10_isCallBehindPoint : ByteArray := prog_12_method_31_code
def yX10_isCallBehindPoint : MethodName := ⟨RX10, "isCallBehindPoint", "(I)Z"⟩
abbrev cX10_nameField : ByteArray := prog_12_method_32_code
def yX10_nameField : MethodName := ⟨RX10, "nameField", "(II)V"⟩
abbrev cX10_closeCall : ByteArray := prog_12_method_35_code
def yX10_closeCall : MethodName := ⟨RX10, "closeCall", "(III)V"⟩
abbrev cJ9_max_7cf53 : ByteArray := prog_17_method_65_code
def yJ9_max_7cf53 : MethodName := ⟨RJ9, "max", "(II)I"⟩
theorem dX0_beginProgram_0 : decode cX0_beginProgram 0 = .ok (.aload_n 0, 1) := by decide +kernel
theorem dX0_beginProgram_1 : decode cX0_beginProgram 1 = .ok (.iconst (-1), 1) := by decide +kernel
theorem dX0_beginProgram_2 : decode cX0_beginProgram 2 = .ok (.putfield 65, 3) := by decide +kernel
theorem dX0_beginProgram_5 : decode cX0_beginProgram 5 = .ok (.return_, 1) := by decide +kernel
theorem dX0_closeProgram_0 : decode cX0_closeProgram 0 = .ok (.aload_n 0, 1) := by decide +kernel
theorem dX0_closeProgram_1 : decode cX0_closeProgram 1 = .ok (.getfield 65, 3) := by decide +kernel
theorem dX0_closeProgram_4 : decode cX0_closeProgram 4 = .ok (.iconst (-1), 1) := by decide +kernel
theorem dX0_closeProgram_5 : decode cX0_closeProgram 5 = .ok (.if_icmp .eq 16, 3) := by decide +kernel
theorem dX0_closeProgram_8 : decode cX0_closeProgram 8 = .ok (.aload_n 0, 1) := by decide +kernel
theorem dX0_closeProgram_9 : decode cX0_closeProgram 9 = .ok (.getfield 34, 3) := by decide +kernel
theorem dX0_closeProgram_12 : decode cX0_closeProgram 12 = .ok (.bipush 11, 2) := by decide +kernel
theorem dX0_closeProgram_14 : decode cX0_closeProgram 14 = .ok (.aload_n 0, 1) := by decide +kernel
theorem dX0_closeProgram_15 : decode cX0_closeProgram 15 = .ok (.getfield 65, 3) := by decide +kernel
theorem dX0_closeProgram_18 : decode cX0_closeProgram 18 = .ok (.invokevirtual 69, 3) := by decide +kernel
theorem dX0_closeProgram_21 : decode cX0_closeProgram 21 = .ok (.return_, 1) := by decide +kernel
theorem dX0_noteMuch_0 : decode cX0_noteMuch 0 = .ok (.iload_n 1, 1) := by decide +kernel
theorem dX0_noteMuch_1 : decode cX0_noteMuch 1 = .ok (.ifCond .eq 16, 3) := by decide +kernel
theorem dX0_noteMuch_4 : decode cX0_noteMuch 4 = .ok (.aload_n 0, 1) := by decide +kernel
theorem dX0_noteMuch_5 : decode cX0_noteMuch 5 = .ok (.getfield 65, 3) := by decide +kernel
theorem dX0_noteMuch_8 : decode cX0_noteMuch 8 = .ok (.iconst (-1), 1) := by decide +kernel
theorem dX0_noteMuch_9 : decode cX0_noteMuch 9 = .ok (.if_icmp .ne 8, 3) := by decide +kernel
theorem dX0_noteMuch_12 : decode cX0_noteMuch 12 = .ok (.aload_n 0, 1) := by decide +kernel
theorem dX0_noteMuch_13 : decode cX0_noteMuch 13 = .ok (.iload_n 2, 1) := by decide +kernel
theorem dX0_noteMuch_14 : decode cX0_noteMuch 14 = .ok (.putfield 65, 3) := by decide +kernel
theorem dX0_noteMuch_17 : decode cX0_noteMuch 17 = .ok (.return_, 1) := by decide +kernel
theorem dX0_beginClass_0 : decode cX0_beginClass 0 = .ok (.aload_n 0, 1) := by decide +kernel
theorem dX0_beginClass_1 : decode cX0_beginClass 1 = .ok (.getfield 52, 3) := by decide +kernel
theorem dX0_beginClass_4 : decode cX0_beginClass 4 = .ok (.iload_n 1, 1) := by decide +kernel
theorem dX0_beginClass_5 : decode cX0_beginClass 5 = .ok (.invokevirtual 73, 3) := by decide +kernel
theorem dX0_beginClass_8 : decode cX0_beginClass 8 = .ok (.return_, 1) := by decide +kernel
theorem dX0_checkTwice_0 : decode cX0_checkTwice 0 = .ok (.aload_n 0, 1) := by decide +kernel
theorem dX0_checkTwice_1 : decode cX0_checkTwice 1 = .ok (.getfield 16, 3) := by decide +kernel
theorem dX0_checkTwice_4 : decode cX0_checkTwice 4 = .ok (.aload_n 0, 1) := by decide +kernel
theorem dX0_checkTwice_5 : decode cX0_checkTwice 5 = .ok (.getfield 34, 3) := by decide +kernel
theorem dX0_checkTwice_8 : decode cX0_checkTwice 8 = .ok (.iload_n 1, 1) := by decide +kernel
theorem dX0_checkTwice_9 : decode cX0_checkTwice 9 = .ok (.invokevirtual 233, 3) := by decide +kernel
theorem dX0_checkTwice_12 : decode cX0_checkTwice 12 = .ok (.invokevirtual 239, 3) := by decide +kernel
theorem dX0_checkTwice_15 : decode cX0_checkTwice 15 = .ok (.iconst (-1), 1) := by decide +kernel
theorem dX0_checkTwice_16 : decode cX0_checkTwice 16 = .ok (.if_icmp .eq 12, 3) := by decide +kernel
theorem dX0_checkTwice_19 : decode cX0_checkTwice 19 = .ok (.aload_n 0, 1) := by decide +kernel
theorem dX0_checkTwice_20 : decode cX0_checkTwice 20 = .ok (.getfield 34, 3) := by decide +kernel
theorem dX0_checkTwice_23 : decode cX0_checkTwice 23 = .ok (.iconst 4, 1) := by decide +kernel
theorem dX0_checkTwice_24 : decode cX0_checkTwice 24 = .ok (.iload_n 1, 1) := by decide +kernel
theorem dX0_checkTwice_25 : decode cX0_checkTwice 25 = .ok (.invokevirtual 69, 3) := by decide +kernel
theorem dX0_checkTwice_28 : decode cX0_checkTwice 28 = .ok (.return_, 1) := by decide +kernel
theorem dX0_closeAlone_0 : decode cX0_closeAlone 0 = .ok (.aload_n 0, 1) := by decide +kernel
theorem dX0_closeAlone_1 : decode cX0_closeAlone 1 = .ok (.getfield 61, 3) := by decide +kernel
theorem dX0_closeAlone_4 : decode cX0_closeAlone 4 = .ok (.getfield 260, 3) := by decide +kernel
theorem dX0_closeAlone_7 : decode cX0_closeAlone 7 = .ok (.iconst 1, 1) := by decide +kernel
theorem dX0_closeAlone_8 : decode cX0_closeAlone 8 = .ok (.if_icmp .eq 13, 3) := by decide +kernel
theorem dX0_closeAlone_11 : decode cX0_closeAlone 11 = .ok (.aload_n 0, 1) := by decide +kernel
theorem dX0_closeAlone_12 : decode cX0_closeAlone 12 = .ok (.getfield 34, 3) := by decide +kernel
theorem dX0_closeAlone_15 : decode cX0_closeAlone 15 = .ok (.bipush 6, 2) := by decide +kernel
theorem dX0_closeAlone_17 : decode cX0_closeAlone 17 = .ok (.iload_n 1, 1) := by decide +kernel
theorem dX0_closeAlone_18 : decode cX0_closeAlone 18 = .ok (.invokevirtual 69, 3) := by decide +kernel
theorem dX0_closeAlone_21 : decode cX0_closeAlone 21 = .ok (.aload_n 0, 1) := by decide +kernel
theorem dX0_closeAlone_22 : decode cX0_closeAlone 22 = .ok (.getfield 61, 3) := by decide +kernel
theorem dX0_closeAlone_25 : decode cX0_closeAlone 25 = .ok (.getfield 245, 3) := by decide +kernel
theorem dX0_closeAlone_28 : decode cX0_closeAlone 28 = .ok (.sipush 303, 3) := by decide +kernel
theorem dX0_closeAlone_31 : decode cX0_closeAlone 31 = .ok (.if_icmp .eq 20, 3) := by decide +kernel
theorem dX0_closeAlone_34 : decode cX0_closeAlone 34 = .ok (.aload_n 0, 1) := by decide +kernel
theorem dX0_closeAlone_35 : decode cX0_closeAlone 35 = .ok (.getfield 16, 3) := by decide +kernel
theorem dX0_closeAlone_38 : decode cX0_closeAlone 38 = .ok (.bipush 87, 2) := by decide +kernel
theorem dX0_closeAlone_40 : decode cX0_closeAlone 40 = .ok (.invokevirtual 147, 3) := by decide +kernel
theorem dX0_closeAlone_43 : decode cX0_closeAlone 43 = .ok (.aload_n 0, 1) := by decide +kernel
theorem dX0_closeAlone_44 : decode cX0_closeAlone 44 = .ok (.getfield 16, 3) := by decide +kernel
theorem dX0_closeAlone_47 : decode cX0_closeAlone 47 = .ok (.iconst 1, 1) := by decide +kernel
theorem dX0_closeAlone_48 : decode cX0_closeAlone 48 = .ok (.invokevirtual 251, 3) := by decide +kernel
theorem dX0_closeAlone_51 : decode cX0_closeAlone 51 = .ok (.return_, 1) := by decide +kernel
theorem dX0_closeGiving_0 : decode cX0_closeGiving 0 = .ok (.iload_n 1, 1) := by decide +kernel
theorem dX0_closeGiving_1 : decode cX0_closeGiving 1 = .ok (.lookupswitch 71 #[(2, 27), (3, 40)], 27) := by decide +kernel
theorem dX0_closeGiving_28 : decode cX0_closeGiving 28 = .ok (.aload_n 0, 1) := by decide +kernel
theorem dX0_closeGiving_29 : decode cX0_closeGiving 29 = .ok (.getfield 16, 3) := by decide +kernel
theorem dX0_closeGiving_32 : decode cX0_closeGiving 32 = .ok (.iload 4, 2) := by decide +kernel
theorem dX0_closeGiving_34 : decode cX0_closeGiving 34 = .ok (.iload_n 2, 1) := by decide +kernel
theorem dX0_closeGiving_35 : decode cX0_closeGiving 35 = .ok (.invokevirtual 236, 3) := by decide +kernel
theorem dX0_closeGiving_38 : decode cX0_closeGiving 38 = .ok (.goto 63, 3) := by decide +kernel
theorem dX0_closeGiving_41 : decode cX0_closeGiving 41 = .ok (.aload_n 0, 1) := by decide +kernel
theorem dX0_closeGiving_42 : decode cX0_closeGiving 42 = .ok (.getfield 16, 3) := by decide +kernel
theorem dX0_closeGiving_45 : decode cX0_closeGiving 45 = .ok (.sipush 181, 3) := by decide +kernel
theorem dX0_closeGiving_48 : decode cX0_closeGiving 48 = .ok (.aload_n 0, 1) := by decide +kernel
theorem dX0_closeGiving_49 : decode cX0_closeGiving 49 = .ok (.getfield 52, 3) := by decide +kernel
theorem dX0_closeGiving_52 : decode cX0_closeGiving 52 = .ok (.iload_n 3, 1) := by decide +kernel
theorem dX0_closeGiving_53 : decode cX0_closeGiving 53 = .ok (.iload 4, 2) := by decide +kernel
theorem dX0_closeGiving_55 : decode cX0_closeGiving 55 = .ok (.invokevirtual 276, 3) := by decide +kernel
theorem dX0_closeGiving_58 : decode cX0_closeGiving 58 = .ok (.invokevirtual 279, 3) := by decide +kernel
theorem dX0_closeGiving_61 : decode cX0_closeGiving 61 = .ok (.aload_n 0, 1) := by decide +kernel
theorem dX0_closeGiving_62 : decode cX0_closeGiving 62 = .ok (.getfield 16, 3) := by decide +kernel
theorem dX0_closeGiving_65 : decode cX0_closeGiving 65 = .ok (.iconst 2, 1) := by decide +kernel
theorem dX0_closeGiving_66 : decode cX0_closeGiving 66 = .ok (.invokevirtual 251, 3) := by decide +kernel
theorem dX0_closeGiving_69 : decode cX0_closeGiving 69 = .ok (.goto 32, 3) := by decide +kernel
theorem dX0_closeGiving_72 : decode cX0_closeGiving 72 = .ok (.aload_n 0, 1) := by decide +kernel
theorem dX0_closeGiving_73 : decode cX0_closeGiving 73 = .ok (.getfield 16, 3) := by decide +kernel
theorem dX0_closeGiving_76 : decode cX0_closeGiving 76 = .ok (.iload_n 2, 1) := by decide +kernel
theorem dX0_closeGiving_77 : decode cX0_closeGiving 77 = .ok (.sipush 301, 3) := by decide +kernel
theorem dX0_closeGiving_80 : decode cX0_closeGiving 80 = .ok (.if_icmp .ne 8, 3) := by decide +kernel
theorem dX0_closeGiving_83 : decode cX0_closeGiving 83 = .ok (.bipush 79, 2) := by decide +kernel
theorem dX0_closeGiving_85 : decode cX0_closeGiving 85 = .ok (.goto 5, 3) := by decide +kernel
theorem dX0_closeGiving_88 : decode cX0_closeGiving 88 = .ok (.bipush 83, 2) := by decide +kernel
theorem dX0_closeGiving_90 : decode cX0_closeGiving 90 = .ok (.invokevirtual 147, 3) := by decide +kernel
theorem dX0_closeGiving_93 : decode cX0_closeGiving 93 = .ok (.aload_n 0, 1) := by decide +kernel
theorem dX0_closeGiving_94 : decode cX0_closeGiving 94 = .ok (.getfield 16, 3) := by decide +kernel
theorem dX0_closeGiving_97 : decode cX0_closeGiving 97 = .ok (.iconst 3, 1) := by decide +kernel
theorem dX0_closeGiving_98 : decode cX0_closeGiving 98 = .ok (.invokevirtual 251, 3) := by decide +kernel
theorem dX0_closeGiving_101 : decode cX0_closeGiving 101 = .ok (.return_, 1) := by decide +kernel
theorem dX1_beginMethod_0 : decode cX1_beginMethod 0 = .ok (.aload_n 0, 1) := by decide +kernel
theorem dX1_beginMethod_1 : decode cX1_beginMethod 1 = .ok (.iconst 0, 1) := by decide +kernel
theorem dX1_beginMethod_2 : decode cX1_beginMethod 2 = .ok (.putfield 39, 3) := by decide +kernel
theorem dX1_beginMethod_5 : decode cX1_beginMethod 5 = .ok (.aload_n 0, 1) := by decide +kernel
theorem dX1_beginMethod_6 : decode cX1_beginMethod 6 = .ok (.iconst 0, 1) := by decide +kernel
theorem dX1_beginMethod_7 : decode cX1_beginMethod 7 = .ok (.putfield 43, 3) := by decide +kernel
theorem dX1_beginMethod_10 : decode cX1_beginMethod 10 = .ok (.aload_n 0, 1) := by decide +kernel
theorem dX1_beginMethod_11 : decode cX1_beginMethod 11 = .ok (.iconst 0, 1) := by decide +kernel
theorem dX1_beginMethod_12 : decode cX1_beginMethod 12 = .ok (.putfield 46, 3) := by decide +kernel
theorem dX1_beginMethod_15 : decode cX1_beginMethod 15 = .ok (.aload_n 0, 1) := by decide +kernel
theorem dX1_beginMethod_16 : decode cX1_beginMethod 16 = .ok (.iconst 0, 1) := by decide +kernel
theorem dX1_beginMethod_17 : decode cX1_beginMethod 17 = .ok (.putfield 49, 3) := by decide +kernel
theorem dX1_beginMethod_20 : decode cX1_beginMethod 20 = .ok (.aload_n 0, 1) := by decide +kernel
theorem dX1_beginMethod_21 : decode cX1_beginMethod 21 = .ok (.iconst 0, 1) := by decide +kernel
theorem dX1_beginMethod_22 : decode cX1_beginMethod 22 = .ok (.putfield 52, 3) := by decide +kernel
theorem dX1_beginMethod_25 : decode cX1_beginMethod 25 = .ok (.aload_n 0, 1) := by decide +kernel
theorem dX1_beginMethod_26 : decode cX1_beginMethod 26 = .ok (.iconst 0, 1) := by decide +kernel
theorem dX1_beginMethod_27 : decode cX1_beginMethod 27 = .ok (.putfield 55, 3) := by decide +kernel
theorem dX1_beginMethod_30 : decode cX1_beginMethod 30 = .ok (.aload_n 0, 1) := by decide +kernel
theorem dX1_beginMethod_31 : decode cX1_beginMethod 31 = .ok (.iconst 0, 1) := by decide +kernel
theorem dX1_beginMethod_32 : decode cX1_beginMethod 32 = .ok (.putfield 58, 3) := by decide +kernel
theorem dX1_beginMethod_35 : decode cX1_beginMethod 35 = .ok (.aload_n 0, 1) := by decide +kernel
theorem dX1_beginMethod_36 : decode cX1_beginMethod 36 = .ok (.iconst 0, 1) := by decide +kernel
theorem dX1_beginMethod_37 : decode cX1_beginMethod 37 = .ok (.putfield 61, 3) := by decide +kernel
theorem dX1_beginMethod_40 : decode cX1_beginMethod 40 = .ok (.return_, 1) := by decide +kernel
theorem dX1_isTooMuch_0 : decode cX1_isTooMuch 0 = .ok (.aload_n 0, 1) := by decide +kernel
theorem dX1_isTooMuch_1 : decode cX1_isTooMuch 1 = .ok (.getfield 61, 3) := by decide +kernel
theorem dX1_isTooMuch_4 : decode cX1_isTooMuch 4 = .ok (.ifCond .ne 31, 3) := by decide +kernel
theorem dX1_isTooMuch_7 : decode cX1_isTooMuch 7 = .ok (.aload_n 0, 1) := by decide +kernel
theorem dX1_isTooMuch_8 : decode cX1_isTooMuch 8 = .ok (.getfield 39, 3) := by decide +kernel
theorem dX1_isTooMuch_11 : decode cX1_isTooMuch 11 = .ok (.sipush 1500, 3) := by decide +kernel
theorem dX1_isTooMuch_14 : decode cX1_isTooMuch 14 = .ok (.if_icmp .gt 21, 3) := by decide +kernel
theorem dX1_isTooMuch_17 : decode cX1_isTooMuch 17 = .ok (.aload_n 0, 1) := by decide +kernel
theorem dX1_isTooMuch_18 : decode cX1_isTooMuch 18 = .ok (.getfield 52, 3) := by decide +kernel
theorem dX1_isTooMuch_21 : decode cX1_isTooMuch 21 = .ok (.bipush 30, 2) := by decide +kernel
theorem dX1_isTooMuch_23 : decode cX1_isTooMuch 23 = .ok (.if_icmp .gt 12, 3) := by decide +kernel
theorem dX1_isTooMuch_26 : decode cX1_isTooMuch 26 = .ok (.aload_n 0, 1) := by decide +kernel
theorem dX1_isTooMuch_27 : decode cX1_isTooMuch 27 = .ok (.getfield 46, 3) := by decide +kernel
theorem dX1_isTooMuch_30 : decode cX1_isTooMuch 30 = .ok (.bipush 20, 2) := by decide +kernel
theorem dX1_isTooMuch_32 : decode cX1_isTooMuch 32 = .ok (.if_icmp .le 7, 3) := by decide +kernel
theorem dX1_isTooMuch_35 : decode cX1_isTooMuch 35 = .ok (.iconst 1, 1) := by decide +kernel
theorem dX1_isTooMuch_36 : decode cX1_isTooMuch 36 = .ok (.goto 4, 3) := by decide +kernel
theorem dX1_isTooMuch_39 : decode cX1_isTooMuch 39 = .ok (.iconst 0, 1) := by decide +kernel
theorem dX1_isTooMuch_40 : decode cX1_isTooMuch 40 = .ok (.ireturn, 1) := by decide +kernel
theorem dX1_op_0 : decode cX1_op 0 = .ok (.aload_n 0, 1) := by decide +kernel
theorem dX1_op_1 : decode cX1_op 1 = .ok (.getfield 39, 3) := by decide +kernel
theorem dX1_op_4 : decode cX1_op 4 = .ok (.aload_n 0, 1) := by decide +kernel
theorem dX1_op_5 : decode cX1_op 5 = .ok (.getfield 13, 3) := by decide +kernel
theorem dX1_op_8 : decode cX1_op 8 = .ok (.arraylength, 1) := by decide +kernel
theorem dX1_op_9 : decode cX1_op 9 = .ok (.if_icmp .ge 14, 3) := by decide +kernel
theorem dX1_op_12 : decode cX1_op 12 = .ok (.aload_n 0, 1) := by decide +kernel
theorem dX1_op_13 : decode cX1_op 13 = .ok (.getfield 13, 3) := by decide +kernel
theorem dX1_op_16 : decode cX1_op 16 = .ok (.aload_n 0, 1) := by decide +kernel
theorem dX1_op_17 : decode cX1_op 17 = .ok (.getfield 39, 3) := by decide +kernel
theorem dX1_op_20 : decode cX1_op 20 = .ok (.iload_n 1, 1) := by decide +kernel
theorem dX1_op_21 : decode cX1_op 21 = .ok (.i2b, 1) := by decide +kernel
theorem dX1_op_22 : decode cX1_op 22 = .ok (.bastore, 1) := by decide +kernel
theorem dX1_op_23 : decode cX1_op 23 = .ok (.aload_n 0, 1) := by decide +kernel
theorem dX1_op_24 : decode cX1_op 24 = .ok (.dup, 1) := by decide +kernel
theorem dX1_op_25 : decode cX1_op 25 = .ok (.getfield 39, 3) := by decide +kernel
theorem dX1_op_28 : decode cX1_op 28 = .ok (.iconst 1, 1) := by decide +kernel
theorem dX1_op_29 : decode cX1_op 29 = .ok (.iadd, 1) := by decide +kernel
theorem dX1_op_30 : decode cX1_op 30 = .ok (.putfield 39, 3) := by decide +kernel
theorem dX1_op_33 : decode cX1_op 33 = .ok (.return_, 1) := by decide +kernel
theorem dX1_op__0 : decode cX1_op_ 0 = .ok (.aload_n 0, 1) := by decide +kernel
theorem dX1_op__1 : decode cX1_op_ 1 = .ok (.iload_n 1, 1) := by decide +kernel
theorem dX1_op__2 : decode cX1_op_ 2 = .ok (.invokevirtual 65, 3) := by decide +kernel
theorem dX1_op__5 : decode cX1_op_ 5 = .ok (.aload_n 0, 1) := by decide +kernel
theorem dX1_op__6 : decode cX1_op_ 6 = .ok (.iload_n 2, 1) := by decide +kernel
theorem dX1_op__7 : decode cX1_op_ 7 = .ok (.invokevirtual 65, 3) := by decide +kernel
theorem dX1_op__10 : decode cX1_op_ 10 = .ok (.return_, 1) := by decide +kernel
theorem dX1_push_0 : decode cX1_push 0 = .ok (.aload_n 0, 1) := by decide +kernel
theorem dX1_push_1 : decode cX1_push 1 = .ok (.getfield 43, 3) := by decide +kernel
theorem dX1_push_4 : decode cX1_push 4 = .ok (.aload_n 0, 1) := by decide +kernel
theorem dX1_push_5 : decode cX1_push 5 = .ok (.getfield 17, 3) := by decide +kernel
theorem dX1_push_8 : decode cX1_push 8 = .ok (.arraylength, 1) := by decide +kernel
theorem dX1_push_9 : decode cX1_push 9 = .ok (.if_icmp .ge 13, 3) := by decide +kernel
theorem dX1_push_12 : decode cX1_push 12 = .ok (.aload_n 0, 1) := by decide +kernel
theorem dX1_push_13 : decode cX1_push 13 = .ok (.getfield 17, 3) := by decide +kernel
theorem dX1_push_16 : decode cX1_push 16 = .ok (.aload_n 0, 1) := by decide +kernel
theorem dX1_push_17 : decode cX1_push 17 = .ok (.getfield 43, 3) := by decide +kernel
theorem dX1_push_20 : decode cX1_push 20 = .ok (.iload_n 1, 1) := by decide +kernel
theorem dX1_push_21 : decode cX1_push 21 = .ok (.iastore, 1) := by decide +kernel
theorem dX1_push_22 : decode cX1_push 22 = .ok (.aload_n 0, 1) := by decide +kernel
theorem dX1_push_23 : decode cX1_push 23 = .ok (.dup, 1) := by decide +kernel
theorem dX1_push_24 : decode cX1_push 24 = .ok (.getfield 43, 3) := by decide +kernel
theorem dX1_push_27 : decode cX1_push 27 = .ok (.iconst 1, 1) := by decide +kernel
theorem dX1_push_28 : decode cX1_push 28 = .ok (.iadd, 1) := by decide +kernel
theorem dX1_push_29 : decode cX1_push 29 = .ok (.putfield 43, 3) := by decide +kernel
theorem dX1_push_32 : decode cX1_push 32 = .ok (.aload_n 0, 1) := by decide +kernel
theorem dX1_push_33 : decode cX1_push 33 = .ok (.aload_n 0, 1) := by decide +kernel
theorem dX1_push_34 : decode cX1_push 34 = .ok (.getfield 46, 3) := by decide +kernel
theorem dX1_push_37 : decode cX1_push 37 = .ok (.aload_n 0, 1) := by decide +kernel
theorem dX1_push_38 : decode cX1_push 38 = .ok (.getfield 43, 3) := by decide +kernel
theorem dX1_push_41 : decode cX1_push 41 = .ok (.invokestatic 69, 3) := by decide +kernel
theorem dX1_push_44 : decode cX1_push 44 = .ok (.putfield 46, 3) := by decide +kernel
theorem dX1_push_47 : decode cX1_push 47 = .ok (.return_, 1) := by decide +kernel
theorem dX1_pop_0 : decode cX1_pop 0 = .ok (.aload_n 0, 1) := by decide +kernel
theorem dX1_pop_1 : decode cX1_pop 1 = .ok (.iconst 0, 1) := by decide +kernel
theorem dX1_pop_2 : decode cX1_pop 2 = .ok (.aload_n 0, 1) := by decide +kernel
theorem dX1_pop_3 : decode cX1_pop 3 = .ok (.getfield 43, 3) := by decide +kernel
theorem dX1_pop_6 : decode cX1_pop 6 = .ok (.iload_n 1, 1) := by decide +kernel
theorem dX1_pop_7 : decode cX1_pop 7 = .ok (.isub, 1) := by decide +kernel
theorem dX1_pop_8 : decode cX1_pop 8 = .ok (.invokestatic 69, 3) := by decide +kernel
theorem dX1_pop_11 : decode cX1_pop 11 = .ok (.putfield 43, 3) := by decide +kernel
theorem dX1_pop_14 : decode cX1_pop 14 = .ok (.return_, 1) := by decide +kernel
theorem dX1_addLocal_0 : decode cX1_addLocal 0 = .ok (.aload_n 0, 1) := by decide +kernel
theorem dX1_addLocal_1 : decode cX1_addLocal 1 = .ok (.getfield 49, 3) := by decide +kernel
theorem dX1_addLocal_4 : decode cX1_addLocal 4 = .ok (.istore_n 3, 1) := by decide +kernel
theorem dX1_addLocal_5 : decode cX1_addLocal 5 = .ok (.iload_n 3, 1) := by decide +kernel
theorem dX1_addLocal_6 : decode cX1_addLocal 6 = .ok (.aload_n 0, 1) := by decide +kernel
theorem dX1_addLocal_7 : decode cX1_addLocal 7 = .ok (.getfield 21, 3) := by decide +kernel
theorem dX1_addLocal_10 : decode cX1_addLocal 10 = .ok (.arraylength, 1) := by decide +kernel
theorem dX1_addLocal_11 : decode cX1_addLocal 11 = .ok (.if_icmp .ge 17, 3) := by decide +kernel
theorem dX1_addLocal_14 : decode cX1_addLocal 14 = .ok (.aload_n 0, 1) := by decide +kernel
theorem dX1_addLocal_15 : decode cX1_addLocal 15 = .ok (.getfield 21, 3) := by decide +kernel
theorem dX1_addLocal_18 : decode cX1_addLocal 18 = .ok (.iload_n 3, 1) := by decide +kernel
theorem dX1_addLocal_19 : decode cX1_addLocal 19 = .ok (.iload_n 1, 1) := by decide +kernel
theorem dX1_addLocal_20 : decode cX1_addLocal 20 = .ok (.iastore, 1) := by decide +kernel
theorem dX1_addLocal_21 : decode cX1_addLocal 21 = .ok (.aload_n 0, 1) := by decide +kernel
theorem dX1_addLocal_22 : decode cX1_addLocal 22 = .ok (.getfield 24, 3) := by decide +kernel
theorem dX1_addLocal_25 : decode cX1_addLocal 25 = .ok (.iload_n 3, 1) := by decide +kernel
theorem dX1_addLocal_26 : decode cX1_addLocal 26 = .ok (.iload_n 2, 1) := by decide +kernel
theorem dX1_addLocal_27 : decode cX1_addLocal 27 = .ok (.iastore, 1) := by decide +kernel
theorem dX1_addLocal_28 : decode cX1_addLocal 28 = .ok (.aload_n 0, 1) := by decide +kernel
theorem dX1_addLocal_29 : decode cX1_addLocal 29 = .ok (.dup, 1) := by decide +kernel
theorem dX1_addLocal_30 : decode cX1_addLocal 30 = .ok (.getfield 49, 3) := by decide +kernel
theorem dX1_addLocal_33 : decode cX1_addLocal 33 = .ok (.iconst 1, 1) := by decide +kernel
theorem dX1_addLocal_34 : decode cX1_addLocal 34 = .ok (.iadd, 1) := by decide +kernel
theorem dX1_addLocal_35 : decode cX1_addLocal 35 = .ok (.putfield 49, 3) := by decide +kernel
theorem dX1_addLocal_38 : decode cX1_addLocal 38 = .ok (.aload_n 0, 1) := by decide +kernel
theorem dX1_addLocal_39 : decode cX1_addLocal 39 = .ok (.aload_n 0, 1) := by decide +kernel
theorem dX1_addLocal_40 : decode cX1_addLocal 40 = .ok (.getfield 52, 3) := by decide +kernel
theorem dX1_addLocal_43 : decode cX1_addLocal 43 = .ok (.aload_n 0, 1) := by decide +kernel
theorem dX1_addLocal_44 : decode cX1_addLocal 44 = .ok (.getfield 49, 3) := by decide +kernel
theorem dX1_addLocal_47 : decode cX1_addLocal 47 = .ok (.invokestatic 69, 3) := by decide +kernel
theorem dX1_addLocal_50 : decode cX1_addLocal 50 = .ok (.putfield 52, 3) := by decide +kernel
theorem dX1_addLocal_53 : decode cX1_addLocal 53 = .ok (.iload_n 3, 1) := by decide +kernel
theorem dX1_addLocal_54 : decode cX1_addLocal 54 = .ok (.ireturn, 1) := by decide +kernel
theorem dX1_localOf_0 : decode cX1_localOf 0 = .ok (.aload_n 0, 1) := by decide +kernel
theorem dX1_localOf_1 : decode cX1_localOf 1 = .ok (.getfield 49, 3) := by decide +kernel
theorem dX1_localOf_4 : decode cX1_localOf 4 = .ok (.aload_n 0, 1) := by decide +kernel
theorem dX1_localOf_5 : decode cX1_localOf 5 = .ok (.getfield 21, 3) := by decide +kernel
theorem dX1_localOf_8 : decode cX1_localOf 8 = .ok (.arraylength, 1) := by decide +kernel
theorem dX1_localOf_9 : decode cX1_localOf 9 = .ok (.invokestatic 75, 3) := by decide +kernel
theorem dX1_localOf_12 : decode cX1_localOf 12 = .ok (.iconst 1, 1) := by decide +kernel
theorem dX1_localOf_13 : decode cX1_localOf 13 = .ok (.isub, 1) := by decide +kernel
theorem dX1_localOf_14 : decode cX1_localOf 14 = .ok (.istore_n 2, 1) := by decide +kernel
theorem dX1_localOf_15 : decode cX1_localOf 15 = .ok (.iload_n 2, 1) := by decide +kernel
theorem dX1_localOf_16 : decode cX1_localOf 16 = .ok (.ifCond .lt 21, 3) := by decide +kernel
theorem dX1_localOf_19 : decode cX1_localOf 19 = .ok (.aload_n 0, 1) := by decide +kernel
theorem dX1_localOf_20 : decode cX1_localOf 20 = .ok (.getfield 21, 3) := by decide +kernel
theorem dX1_localOf_23 : decode cX1_localOf 23 = .ok (.iload_n 2, 1) := by decide +kernel
theorem dX1_localOf_24 : decode cX1_localOf 24 = .ok (.iaload, 1) := by decide +kernel
theorem dX1_localOf_25 : decode cX1_localOf 25 = .ok (.iload_n 1, 1) := by decide +kernel
theorem dX1_localOf_26 : decode cX1_localOf 26 = .ok (.if_icmp .ne 5, 3) := by decide +kernel
theorem dX1_localOf_29 : decode cX1_localOf 29 = .ok (.iload_n 2, 1) := by decide +kernel
theorem dX1_localOf_30 : decode cX1_localOf 30 = .ok (.ireturn, 1) := by decide +kernel
theorem dX1_localOf_31 : decode cX1_localOf 31 = .ok (.iinc 2 (-1), 3) := by decide +kernel
theorem dX1_localOf_34 : decode cX1_localOf 34 = .ok (.goto (-19), 3) := by decide +kernel
theorem dX1_localOf_37 : decode cX1_localOf 37 = .ok (.iconst (-1), 1) := by decide +kernel
theorem dX1_localOf_38 : decode cX1_localOf 38 = .ok (.ireturn, 1) := by decide +kernel
theorem dX1_typeOfLocal_0 : decode cX1_typeOfLocal 0 = .ok (.iload_n 1, 1) := by decide +kernel
theorem dX1_typeOfLocal_1 : decode cX1_typeOfLocal 1 = .ok (.ifCond .lt 21, 3) := by decide +kernel
theorem dX1_typeOfLocal_4 : decode cX1_typeOfLocal 4 = .ok (.iload_n 1, 1) := by decide +kernel
theorem dX1_typeOfLocal_5 : decode cX1_typeOfLocal 5 = .ok (.aload_n 0, 1) := by decide +kernel
theorem dX1_typeOfLocal_6 : decode cX1_typeOfLocal 6 = .ok (.getfield 24, 3) := by decide +kernel
theorem dX1_typeOfLocal_9 : decode cX1_typeOfLocal 9 = .ok (.arraylength, 1) := by decide +kernel
theorem dX1_typeOfLocal_10 : decode cX1_typeOfLocal 10 = .ok (.if_icmp .ge 12, 3) := by decide +kernel
theorem dX1_typeOfLocal_13 : decode cX1_typeOfLocal 13 = .ok (.aload_n 0, 1) := by decide +kernel
theorem dX1_typeOfLocal_14 : decode cX1_typeOfLocal 14 = .ok (.getfield 24, 3) := by decide +kernel
theorem dX1_typeOfLocal_17 : decode cX1_typeOfLocal 17 = .ok (.iload_n 1, 1) := by decide +kernel
theorem dX1_typeOfLocal_18 : decode cX1_typeOfLocal 18 = .ok (.iaload, 1) := by decide +kernel
theorem dX1_typeOfLocal_19 : decode cX1_typeOfLocal 19 = .ok (.goto 6, 3) := by decide +kernel
theorem dX1_typeOfLocal_22 : decode cX1_typeOfLocal 22 = .ok (.sipush 305, 3) := by decide +kernel
theorem dX1_typeOfLocal_25 : decode cX1_typeOfLocal 25 = .ok (.ireturn, 1) := by decide +kernel
theorem dX1_store_0 : decode cX1_store 0 = .ok (.aload_n 0, 1) := by decide +kernel
theorem dX1_store_1 : decode cX1_store 1 = .ok (.iload_n 2, 1) := by decide +kernel
theorem dX1_store_2 : decode cX1_store 2 = .ok (.invokestatic 80, 3) := by decide +kernel
theorem dX1_store_5 : decode cX1_store 5 = .ok (.ifCond .eq 8, 3) := by decide +kernel
theorem dX1_store_8 : decode cX1_store 8 = .ok (.bipush 54, 2) := by decide +kernel
theorem dX1_store_10 : decode cX1_store 10 = .ok (.goto 5, 3) := by decide +kernel
theorem dX1_store_13 : decode cX1_store 13 = .ok (.bipush 58, 2) := by decide +kernel
theorem dX1_store_15 : decode cX1_store 15 = .ok (.iload_n 1, 1) := by decide +kernel
theorem dX1_store_16 : decode cX1_store 16 = .ok (.invokevirtual 84, 3) := by decide +kernel
theorem dX1_store_19 : decode cX1_store 19 = .ok (.aload_n 0, 1) := by decide +kernel
theorem dX1_store_20 : decode cX1_store 20 = .ok (.iconst 1, 1) := by decide +kernel
theorem dX1_store_21 : decode cX1_store 21 = .ok (.invokevirtual 87, 3) := by decide +kernel
theorem dX1_store_24 : decode cX1_store 24 = .ok (.return_, 1) := by decide +kernel
theorem dX1_jump_0 : decode cX1_jump 0 = .ok (.aload_n 0, 1) := by decide +kernel
theorem dX1_jump_1 : decode cX1_jump 1 = .ok (.getfield 39, 3) := by decide +kernel
theorem dX1_jump_4 : decode cX1_jump 4 = .ok (.istore_n 3, 1) := by decide +kernel
theorem dX1_jump_5 : decode cX1_jump 5 = .ok (.aload_n 0, 1) := by decide +kernel
theorem dX1_jump_6 : decode cX1_jump 6 = .ok (.iload_n 2, 1) := by decide +kernel
theorem dX1_jump_7 : decode cX1_jump 7 = .ok (.invokevirtual 87, 3) := by decide +kernel
theorem dX1_jump_10 : decode cX1_jump 10 = .ok (.aload_n 0, 1) := by decide +kernel
theorem dX1_jump_11 : decode cX1_jump 11 = .ok (.iload_n 1, 1) := by decide +kernel
theorem dX1_jump_12 : decode cX1_jump 12 = .ok (.invokevirtual 65, 3) := by decide +kernel
theorem dX1_jump_15 : decode cX1_jump 15 = .ok (.aload_n 0, 1) := by decide +kernel
theorem dX1_jump_16 : decode cX1_jump 16 = .ok (.iconst 0, 1) := by decide +kernel
theorem dX1_jump_17 : decode cX1_jump 17 = .ok (.invokevirtual 65, 3) := by decide +kernel
theorem dX1_jump_20 : decode cX1_jump 20 = .ok (.aload_n 0, 1) := by decide +kernel
theorem dX1_jump_21 : decode cX1_jump 21 = .ok (.iconst 0, 1) := by decide +kernel
theorem dX1_jump_22 : decode cX1_jump 22 = .ok (.invokevirtual 65, 3) := by decide +kernel
theorem dX1_jump_25 : decode cX1_jump 25 = .ok (.iload_n 3, 1) := by decide +kernel
theorem dX1_jump_26 : decode cX1_jump 26 = .ok (.ireturn, 1) := by decide +kernel
theorem dX1_aimAt_0 : decode cX1_aimAt 0 = .ok (.iload_n 2, 1) := by decide +kernel
theorem dX1_aimAt_1 : decode cX1_aimAt 1 = .ok (.iload_n 1, 1) := by decide +kernel
theorem dX1_aimAt_2 : decode cX1_aimAt 2 = .ok (.isub, 1) := by decide +kernel
theorem dX1_aimAt_3 : decode cX1_aimAt 3 = .ok (.istore_n 3, 1) := by decide +kernel
theorem dX1_aimAt_4 : decode cX1_aimAt 4 = .ok (.iload_n 1, 1) := by decide +kernel
theorem dX1_aimAt_5 : decode cX1_aimAt 5 = .ok (.ifCond .lt 37, 3) := by decide +kernel
theorem dX1_aimAt_8 : decode cX1_aimAt 8 = .ok (.iload_n 1, 1) := by decide +kernel
theorem dX1_aimAt_9 : decode cX1_aimAt 9 = .ok (.iconst 2, 1) := by decide +kernel
theorem dX1_aimAt_10 : decode cX1_aimAt 10 = .ok (.iadd, 1) := by decide +kernel
theorem dX1_aimAt_11 : decode cX1_aimAt 11 = .ok (.aload_n 0, 1) := by decide +kernel
theorem dX1_aimAt_12 : decode cX1_aimAt 12 = .ok (.getfield 13, 3) := by decide +kernel
theorem dX1_aimAt_15 : decode cX1_aimAt 15 = .ok (.arraylength, 1) := by decide +kernel
theorem dX1_aimAt_16 : decode cX1_aimAt 16 = .ok (.if_icmp .ge 26, 3) := by decide +kernel
theorem dX1_aimAt_19 : decode cX1_aimAt 19 = .ok (.aload_n 0, 1) := by decide +kernel
theorem dX1_aimAt_20 : decode cX1_aimAt 20 = .ok (.getfield 13, 3) := by decide +kernel
theorem dX1_aimAt_23 : decode cX1_aimAt 23 = .ok (.iload_n 1, 1) := by decide +kernel
theorem dX1_aimAt_24 : decode cX1_aimAt 24 = .ok (.iconst 1, 1) := by decide +kernel
theorem dX1_aimAt_25 : decode cX1_aimAt 25 = .ok (.iadd, 1) := by decide +kernel
theorem dX1_aimAt_26 : decode cX1_aimAt 26 = .ok (.iload_n 3, 1) := by decide +kernel
theorem dX1_aimAt_27 : decode cX1_aimAt 27 = .ok (.bipush 8, 2) := by decide +kernel
theorem dX1_aimAt_29 : decode cX1_aimAt 29 = .ok (.ishr, 1) := by decide +kernel
theorem dX1_aimAt_30 : decode cX1_aimAt 30 = .ok (.i2b, 1) := by decide +kernel
theorem dX1_aimAt_31 : decode cX1_aimAt 31 = .ok (.bastore, 1) := by decide +kernel
theorem dX1_aimAt_32 : decode cX1_aimAt 32 = .ok (.aload_n 0, 1) := by decide +kernel
theorem dX1_aimAt_33 : decode cX1_aimAt 33 = .ok (.getfield 13, 3) := by decide +kernel
theorem dX1_aimAt_36 : decode cX1_aimAt 36 = .ok (.iload_n 1, 1) := by decide +kernel
theorem dX1_aimAt_37 : decode cX1_aimAt 37 = .ok (.iconst 2, 1) := by decide +kernel
theorem dX1_aimAt_38 : decode cX1_aimAt 38 = .ok (.iadd, 1) := by decide +kernel
theorem dX1_aimAt_39 : decode cX1_aimAt 39 = .ok (.iload_n 3, 1) := by decide +kernel
theorem dX1_aimAt_40 : decode cX1_aimAt 40 = .ok (.i2b, 1) := by decide +kernel
theorem dX1_aimAt_41 : decode cX1_aimAt 41 = .ok (.bastore, 1) := by decide +kernel
theorem dX1_aimAt_42 : decode cX1_aimAt 42 = .ok (.return_, 1) := by decide +kernel
theorem dX1_writeFrame_0 : decode cX1_writeFrame 0 = .ok (.iload_n 2, 1) := by decide +kernel
theorem dX1_writeFrame_1 : decode cX1_writeFrame 1 = .ok (.bipush 52, 2) := by decide +kernel
theorem dX1_writeFrame_3 : decode cX1_writeFrame 3 = .ok (.imul, 1) := by decide +kernel
theorem dX1_writeFrame_4 : decode cX1_writeFrame 4 = .ok (.istore_n 3, 1) := by decide +kernel
theorem dX1_writeFrame_5 : decode cX1_writeFrame 5 = .ok (.aload_n 0, 1) := by decide +kernel
theorem dX1_writeFrame_6 : decode cX1_writeFrame 6 = .ok (.getfield 33, 3) := by decide +kernel
theorem dX1_writeFrame_9 : decode cX1_writeFrame 9 = .ok (.iload_n 3, 1) := by decide +kernel
theorem dX1_writeFrame_10 : decode cX1_writeFrame 10 = .ok (.iaload, 1) := by decide +kernel
theorem dX1_writeFrame_11 : decode cX1_writeFrame 11 = .ok (.istore 4, 2) := by decide +kernel
theorem dX1_writeFrame_13 : decode cX1_writeFrame 13 = .ok (.aload_n 0, 1) := by decide +kernel
theorem dX1_writeFrame_14 : decode cX1_writeFrame 14 = .ok (.getfield 33, 3) := by decide +kernel
theorem dX1_writeFrame_17 : decode cX1_writeFrame 17 = .ok (.iload_n 3, 1) := by decide +kernel
theorem dX1_writeFrame_18 : decode cX1_writeFrame 18 = .ok (.iconst 1, 1) := by decide +kernel
theorem dX1_writeFrame_19 : decode cX1_writeFrame 19 = .ok (.iadd, 1) := by decide +kernel
theorem dX1_writeFrame_20 : decode cX1_writeFrame 20 = .ok (.iaload, 1) := by decide +kernel
theorem dX1_writeFrame_21 : decode cX1_writeFrame 21 = .ok (.istore 5, 2) := by decide +kernel
theorem dX1_writeFrame_23 : decode cX1_writeFrame 23 = .ok (.aload_n 1, 1) := by decide +kernel
theorem dX1_writeFrame_24 : decode cX1_writeFrame 24 = .ok (.aload_n 0, 1) := by decide +kernel
theorem dX1_writeFrame_25 : decode cX1_writeFrame 25 = .ok (.getfield 30, 3) := by decide +kernel
theorem dX1_writeFrame_28 : decode cX1_writeFrame 28 = .ok (.iload_n 2, 1) := by decide +kernel
theorem dX1_writeFrame_29 : decode cX1_writeFrame 29 = .ok (.iaload, 1) := by decide +kernel
theorem dX1_writeFrame_30 : decode cX1_writeFrame 30 = .ok (.invokevirtual 121, 3) := by decide +kernel
theorem dX1_writeFrame_33 : decode cX1_writeFrame 33 = .ok (.aload_n 1, 1) := by decide +kernel
theorem dX1_writeFrame_34 : decode cX1_writeFrame 34 = .ok (.iload 4, 2) := by decide +kernel
theorem dX1_writeFrame_36 : decode cX1_writeFrame 36 = .ok (.invokevirtual 116, 3) := by decide +kernel
theorem dX1_writeFrame_39 : decode cX1_writeFrame 39 = .ok (.aload_n 0, 1) := by decide +kernel
theorem dX1_writeFrame_40 : decode cX1_writeFrame 40 = .ok (.aload_n 1, 1) := by decide +kernel
theorem dX1_writeFrame_41 : decode cX1_writeFrame 41 = .ok (.iload_n 3, 1) := by decide +kernel
theorem dX1_writeFrame_42 : decode cX1_writeFrame 42 = .ok (.iconst 2, 1) := by decide +kernel
theorem dX1_writeFrame_43 : decode cX1_writeFrame 43 = .ok (.iadd, 1) := by decide +kernel
theorem dX1_writeFrame_44 : decode cX1_writeFrame 44 = .ok (.iload 4, 2) := by decide +kernel
theorem dX1_writeFrame_46 : decode cX1_writeFrame 46 = .ok (.invokevirtual 131, 3) := by decide +kernel
theorem dX1_writeFrame_49 : decode cX1_writeFrame 49 = .ok (.aload_n 1, 1) := by decide +kernel
theorem dX1_writeFrame_50 : decode cX1_writeFrame 50 = .ok (.iload 5, 2) := by decide +kernel
theorem dX1_writeFrame_52 : decode cX1_writeFrame 52 = .ok (.invokevirtual 116, 3) := by decide +kernel
theorem dX1_writeFrame_55 : decode cX1_writeFrame 55 = .ok (.aload_n 0, 1) := by decide +kernel
theorem dX1_writeFrame_56 : decode cX1_writeFrame 56 = .ok (.aload_n 1, 1) := by decide +kernel
theorem dX1_writeFrame_57 : decode cX1_writeFrame 57 = .ok (.iload_n 3, 1) := by decide +kernel
theorem dX1_writeFrame_58 : decode cX1_writeFrame 58 = .ok (.iconst 2, 1) := by decide +kernel
theorem dX1_writeFrame_59 : decode cX1_writeFrame 59 = .ok (.iadd, 1) := by decide +kernel
theorem dX1_writeFrame_60 : decode cX1_writeFrame 60 = .ok (.iload 4, 2) := by decide +kernel
theorem dX1_writeFrame_62 : decode cX1_writeFrame 62 = .ok (.iadd, 1) := by decide +kernel
theorem dX1_writeFrame_63 : decode cX1_writeFrame 63 = .ok (.iload 5, 2) := by decide +kernel
theorem dX1_writeFrame_65 : decode cX1_writeFrame 65 = .ok (.invokevirtual 131, 3) := by decide +kernel
theorem dX1_writeFrame_68 : decode cX1_writeFrame 68 = .ok (.return_, 1) := by decide +kernel
theorem dX1_writeTypes_0 : decode cX1_writeTypes 0 = .ok (.iload_n 2, 1) := by decide +kernel
theorem dX1_writeTypes_1 : decode cX1_writeTypes 1 = .ok (.istore 4, 2) := by decide +kernel
theorem dX1_writeTypes_3 : decode cX1_writeTypes 3 = .ok (.iload 4, 2) := by decide +kernel
theorem dX1_writeTypes_5 : decode cX1_writeTypes 5 = .ok (.iload_n 2, 1) := by decide +kernel
theorem dX1_writeTypes_6 : decode cX1_writeTypes 6 = .ok (.iload_n 3, 1) := by decide +kernel
theorem dX1_writeTypes_7 : decode cX1_writeTypes 7 = .ok (.iadd, 1) := by decide +kernel
theorem dX1_writeTypes_8 : decode cX1_writeTypes 8 = .ok (.if_icmp .ge 75, 3) := by decide +kernel
theorem dX1_writeTypes_11 : decode cX1_writeTypes 11 = .ok (.iload 4, 2) := by decide +kernel
theorem dX1_writeTypes_13 : decode cX1_writeTypes 13 = .ok (.aload_n 0, 1) := by decide +kernel
theorem dX1_writeTypes_14 : decode cX1_writeTypes 14 = .ok (.getfield 33, 3) := by decide +kernel
theorem dX1_writeTypes_17 : decode cX1_writeTypes 17 = .ok (.arraylength, 1) := by decide +kernel
theorem dX1_writeTypes_18 : decode cX1_writeTypes 18 = .ok (.if_icmp .ge 65, 3) := by decide +kernel
theorem dX1_writeTypes_21 : decode cX1_writeTypes 21 = .ok (.aload_n 0, 1) := by decide +kernel
theorem dX1_writeTypes_22 : decode cX1_writeTypes 22 = .ok (.getfield 33, 3) := by decide +kernel
theorem dX1_writeTypes_25 : decode cX1_writeTypes 25 = .ok (.iload 4, 2) := by decide +kernel
theorem dX1_writeTypes_27 : decode cX1_writeTypes 27 = .ok (.iaload, 1) := by decide +kernel
theorem dX1_writeTypes_28 : decode cX1_writeTypes 28 = .ok (.istore 5, 2) := by decide +kernel
theorem dX1_writeTypes_30 : decode cX1_writeTypes 30 = .ok (.iload 5, 2) := by decide +kernel
theorem dX1_writeTypes_32 : decode cX1_writeTypes 32 = .ok (.invokestatic 80, 3) := by decide +kernel
theorem dX1_writeTypes_35 : decode cX1_writeTypes 35 = .ok (.ifCond .eq 11, 3) := by decide +kernel
theorem dX1_writeTypes_38 : decode cX1_writeTypes 38 = .ok (.aload_n 1, 1) := by decide +kernel
theorem dX1_writeTypes_39 : decode cX1_writeTypes 39 = .ok (.iconst 1, 1) := by decide +kernel
theorem dX1_writeTypes_40 : decode cX1_writeTypes 40 = .ok (.invokevirtual 116, 3) := by decide +kernel
theorem dX1_writeTypes_43 : decode cX1_writeTypes 43 = .ok (.goto 34, 3) := by decide +kernel
theorem dX1_writeTypes_46 : decode cX1_writeTypes 46 = .ok (.iload 5, 2) := by decide +kernel
theorem dX1_writeTypes_48 : decode cX1_writeTypes 48 = .ok (.sipush 300, 3) := by decide +kernel
theorem dX1_writeTypes_51 : decode cX1_writeTypes 51 = .ok (.if_icmp .ne 11, 3) := by decide +kernel
theorem dX1_writeTypes_54 : decode cX1_writeTypes 54 = .ok (.aload_n 1, 1) := by decide +kernel
theorem dX1_writeTypes_55 : decode cX1_writeTypes 55 = .ok (.iconst 2, 1) := by decide +kernel
theorem dX1_writeTypes_56 : decode cX1_writeTypes 56 = .ok (.invokevirtual 116, 3) := by decide +kernel
theorem dX1_writeTypes_59 : decode cX1_writeTypes 59 = .ok (.goto 18, 3) := by decide +kernel
theorem dX1_writeTypes_62 : decode cX1_writeTypes 62 = .ok (.aload_n 1, 1) := by decide +kernel
theorem dX1_writeTypes_63 : decode cX1_writeTypes 63 = .ok (.iconst 3, 1) := by decide +kernel
theorem dX1_writeTypes_64 : decode cX1_writeTypes 64 = .ok (.invokevirtual 116, 3) := by decide +kernel
theorem dX1_writeTypes_67 : decode cX1_writeTypes 67 = .ok (.aload_n 1, 1) := by decide +kernel
theorem dX1_writeTypes_68 : decode cX1_writeTypes 68 = .ok (.aload_n 1, 1) := by decide +kernel
theorem dX1_writeTypes_69 : decode cX1_writeTypes 69 = .ok (.iload 5, 2) := by decide +kernel
theorem dX1_writeTypes_71 : decode cX1_writeTypes 71 = .ok (.invokevirtual 124, 3) := by decide +kernel
theorem dX1_writeTypes_74 : decode cX1_writeTypes 74 = .ok (.invokevirtual 116, 3) := by decide +kernel
theorem dX1_writeTypes_77 : decode cX1_writeTypes 77 = .ok (.iinc 4 1, 3) := by decide +kernel
theorem dX1_writeTypes_80 : decode cX1_writeTypes 80 = .ok (.goto (-77), 3) := by decide +kernel
theorem dX1_writeTypes_83 : decode cX1_writeTypes 83 = .ok (.return_, 1) := by decide +kernel
theorem dX2_addClass_0 : decode cX2_addClass 0 = .ok (.aload_n 0, 1) := by decide +kernel
theorem dX2_addClass_1 : decode cX2_addClass 1 = .ok (.getfield 78, 3) := by decide +kernel
theorem dX2_addClass_4 : decode cX2_addClass 4 = .ok (.aload_n 0, 1) := by decide +kernel
theorem dX2_addClass_5 : decode cX2_addClass 5 = .ok (.getfield 20, 3) := by decide +kernel
theorem dX2_addClass_8 : decode cX2_addClass 8 = .ok (.arraylength, 1) := by decide +kernel
theorem dX2_addClass_9 : decode cX2_addClass 9 = .ok (.if_icmp .ge 23, 3) := by decide +kernel
theorem dX2_addClass_12 : decode cX2_addClass 12 = .ok (.aload_n 0, 1) := by decide +kernel
theorem dX2_addClass_13 : decode cX2_addClass 13 = .ok (.getfield 20, 3) := by decide +kernel
theorem dX2_addClass_16 : decode cX2_addClass 16 = .ok (.aload_n 0, 1) := by decide +kernel
theorem dX2_addClass_17 : decode cX2_addClass 17 = .ok (.getfield 78, 3) := by decide +kernel
theorem dX2_addClass_20 : decode cX2_addClass 20 = .ok (.iload_n 1, 1) := by decide +kernel
theorem dX2_addClass_21 : decode cX2_addClass 21 = .ok (.iastore, 1) := by decide +kernel
theorem dX2_addClass_22 : decode cX2_addClass 22 = .ok (.aload_n 0, 1) := by decide +kernel
theorem dX2_addClass_23 : decode cX2_addClass 23 = .ok (.dup, 1) := by decide +kernel
theorem dX2_addClass_24 : decode cX2_addClass 24 = .ok (.getfield 78, 3) := by decide +kernel
theorem dX2_addClass_27 : decode cX2_addClass 27 = .ok (.iconst 1, 1) := by decide +kernel
theorem dX2_addClass_28 : decode cX2_addClass 28 = .ok (.iadd, 1) := by decide +kernel
theorem dX2_addClass_29 : decode cX2_addClass 29 = .ok (.putfield 78, 3) := by decide +kernel
theorem dX2_addClass_32 : decode cX2_addClass 32 = .ok (.return_, 1) := by decide +kernel
theorem dX2_addKindByte_0 : decode cX2_addKindByte 0 = .ok (.aload_n 0, 1) := by decide +kernel
theorem dX2_addKindByte_1 : decode cX2_addKindByte 1 = .ok (.getfield 144, 3) := by decide +kernel
theorem dX2_addKindByte_4 : decode cX2_addKindByte 4 = .ok (.aload_n 0, 1) := by decide +kernel
theorem dX2_addKindByte_5 : decode cX2_addKindByte 5 = .ok (.getfield 70, 3) := by decide +kernel
theorem dX2_addKindByte_8 : decode cX2_addKindByte 8 = .ok (.arraylength, 1) := by decide +kernel
theorem dX2_addKindByte_9 : decode cX2_addKindByte 9 = .ok (.if_icmp .ge 24, 3) := by decide +kernel
theorem dX2_addKindByte_12 : decode cX2_addKindByte 12 = .ok (.aload_n 0, 1) := by decide +kernel
theorem dX2_addKindByte_13 : decode cX2_addKindByte 13 = .ok (.getfield 70, 3) := by decide +kernel
theorem dX2_addKindByte_16 : decode cX2_addKindByte 16 = .ok (.aload_n 0, 1) := by decide +kernel
theorem dX2_addKindByte_17 : decode cX2_addKindByte 17 = .ok (.getfield 144, 3) := by decide +kernel
theorem dX2_addKindByte_20 : decode cX2_addKindByte 20 = .ok (.iload_n 1, 1) := by decide +kernel
theorem dX2_addKindByte_21 : decode cX2_addKindByte 21 = .ok (.i2b, 1) := by decide +kernel
theorem dX2_addKindByte_22 : decode cX2_addKindByte 22 = .ok (.bastore, 1) := by decide +kernel
theorem dX2_addKindByte_23 : decode cX2_addKindByte 23 = .ok (.aload_n 0, 1) := by decide +kernel
theorem dX2_addKindByte_24 : decode cX2_addKindByte 24 = .ok (.dup, 1) := by decide +kernel
theorem dX2_addKindByte_25 : decode cX2_addKindByte 25 = .ok (.getfield 144, 3) := by decide +kernel
theorem dX2_addKindByte_28 : decode cX2_addKindByte 28 = .ok (.iconst 1, 1) := by decide +kernel
theorem dX2_addKindByte_29 : decode cX2_addKindByte 29 = .ok (.iadd, 1) := by decide +kernel
theorem dX2_addKindByte_30 : decode cX2_addKindByte 30 = .ok (.putfield 144, 3) := by decide +kernel
theorem dX2_addKindByte_33 : decode cX2_addKindByte 33 = .ok (.return_, 1) := by decide +kernel
theorem dX2_classAt_0 : decode cX2_classAt 0 = .ok (.aload_n 0, 1) := by decide +kernel
theorem dX2_classAt_1 : decode cX2_classAt 1 = .ok (.getfield 74, 3) := by decide +kernel
theorem dX2_classAt_4 : decode cX2_classAt 4 = .ok (.iload_n 1, 1) := by decide +kernel
theorem dX2_classAt_5 : decode cX2_classAt 5 = .ok (.invokevirtual 135, 3) := by decide +kernel
theorem dX2_classAt_8 : decode cX2_classAt 8 = .ok (.istore_n 2, 1) := by decide +kernel
theorem dX2_classAt_9 : decode cX2_classAt 9 = .ok (.aload_n 0, 1) := by decide +kernel
theorem dX2_classAt_10 : decode cX2_classAt 10 = .ok (.getfield 74, 3) := by decide +kernel
theorem dX2_classAt_13 : decode cX2_classAt 13 = .ok (.iload_n 1, 1) := by decide +kernel
theorem dX2_classAt_14 : decode cX2_classAt 14 = .ok (.invokevirtual 115, 3) := by decide +kernel
theorem dX2_classAt_17 : decode cX2_classAt 17 = .ok (.iconst 2, 1) := by decide +kernel
theorem dX2_classAt_18 : decode cX2_classAt 18 = .ok (.if_icmp .ne 21, 3) := by decide +kernel
theorem dX2_classAt_21 : decode cX2_classAt 21 = .ok (.iload_n 2, 1) := by decide +kernel
theorem dX2_classAt_22 : decode cX2_classAt 22 = .ok (.aload_n 0, 1) := by decide +kernel
theorem dX2_classAt_23 : decode cX2_classAt 23 = .ok (.getfield 24, 3) := by decide +kernel
theorem dX2_classAt_26 : decode cX2_classAt 26 = .ok (.arraylength, 1) := by decide +kernel
theorem dX2_classAt_27 : decode cX2_classAt 27 = .ok (.if_icmp .ge 12, 3) := by decide +kernel
theorem dX2_classAt_30 : decode cX2_classAt 30 = .ok (.aload_n 0, 1) := by decide +kernel
theorem dX2_classAt_31 : decode cX2_classAt 31 = .ok (.getfield 24, 3) := by decide +kernel
theorem dX2_classAt_34 : decode cX2_classAt 34 = .ok (.iload_n 2, 1) := by decide +kernel
theorem dX2_classAt_35 : decode cX2_classAt 35 = .ok (.iaload, 1) := by decide +kernel
theorem dX2_classAt_36 : decode cX2_classAt 36 = .ok (.goto 4, 3) := by decide +kernel
theorem dX2_classAt_39 : decode cX2_classAt 39 = .ok (.iconst (-1), 1) := by decide +kernel
theorem dX2_classAt_40 : decode cX2_classAt 40 = .ok (.ireturn, 1) := by decide +kernel
theorem dX2_nameOfType_0 : decode cX2_nameOfType 0 = .ok (.iload_n 1, 1) := by decide +kernel
theorem dX2_nameOfType_1 : decode cX2_nameOfType 1 = .ok (.ifCond .lt 16, 3) := by decide +kernel
theorem dX2_nameOfType_4 : decode cX2_nameOfType 4 = .ok (.iload_n 1, 1) := by decide +kernel
theorem dX2_nameOfType_5 : decode cX2_nameOfType 5 = .ok (.bipush 16, 2) := by decide +kernel
theorem dX2_nameOfType_7 : decode cX2_nameOfType 7 = .ok (.if_icmp .ge 10, 3) := by decide +kernel
theorem dX2_nameOfType_10 : decode cX2_nameOfType 10 = .ok (.aload_n 0, 1) := by decide +kernel
theorem dX2_nameOfType_11 : decode cX2_nameOfType 11 = .ok (.getfield 67, 3) := by decide +kernel
theorem dX2_nameOfType_14 : decode cX2_nameOfType 14 = .ok (.iload_n 1, 1) := by decide +kernel
theorem dX2_nameOfType_15 : decode cX2_nameOfType 15 = .ok (.iaload, 1) := by decide +kernel
theorem dX2_nameOfType_16 : decode cX2_nameOfType 16 = .ok (.ireturn, 1) := by decide +kernel
theorem dX2_nameOfType_17 : decode cX2_nameOfType 17 = .ok (.iload_n 1, 1) := by decide +kernel
theorem dX2_nameOfType_18 : decode cX2_nameOfType 18 = .ok (.bipush 100, 2) := by decide +kernel
theorem dX2_nameOfType_20 : decode cX2_nameOfType 20 = .ok (.if_icmp .lt 13, 3) := by decide +kernel
theorem dX2_nameOfType_23 : decode cX2_nameOfType 23 = .ok (.iload_n 1, 1) := by decide +kernel
theorem dX2_nameOfType_24 : decode cX2_nameOfType 24 = .ok (.bipush 116, 2) := by decide +kernel
theorem dX2_nameOfType_26 : decode cX2_nameOfType 26 = .ok (.if_icmp .ge 7, 3) := by decide +kernel
theorem dX2_nameOfType_29 : decode cX2_nameOfType 29 = .ok (.iconst 1, 1) := by decide +kernel
theorem dX2_nameOfType_30 : decode cX2_nameOfType 30 = .ok (.goto 4, 3) := by decide +kernel
theorem dX2_nameOfType_33 : decode cX2_nameOfType 33 = .ok (.iconst 0, 1) := by decide +kernel
theorem dX2_nameOfType_34 : decode cX2_nameOfType 34 = .ok (.istore_n 2, 1) := by decide +kernel
theorem dX2_nameOfType_35 : decode cX2_nameOfType 35 = .ok (.iload_n 2, 1) := by decide +kernel
theorem dX2_nameOfType_36 : decode cX2_nameOfType 36 = .ok (.ifCond .eq 18, 3) := by decide +kernel
theorem dX2_nameOfType_39 : decode cX2_nameOfType 39 = .ok (.aload_n 0, 1) := by decide +kernel
theorem dX2_nameOfType_40 : decode cX2_nameOfType 40 = .ok (.getfield 67, 3) := by decide +kernel
theorem dX2_nameOfType_43 : decode cX2_nameOfType 43 = .ok (.bipush 16, 2) := by decide +kernel
theorem dX2_nameOfType_45 : decode cX2_nameOfType 45 = .ok (.iload_n 1, 1) := by decide +kernel
theorem dX2_nameOfType_46 : decode cX2_nameOfType 46 = .ok (.iadd, 1) := by decide +kernel
theorem dX2_nameOfType_47 : decode cX2_nameOfType 47 = .ok (.bipush 100, 2) := by decide +kernel
theorem dX2_nameOfType_49 : decode cX2_nameOfType 49 = .ok (.isub, 1) := by decide +kernel
theorem dX2_nameOfType_50 : decode cX2_nameOfType 50 = .ok (.iaload, 1) := by decide +kernel
theorem dX2_nameOfType_51 : decode cX2_nameOfType 51 = .ok (.goto 5, 3) := by decide +kernel
theorem dX2_nameOfType_54 : decode cX2_nameOfType 54 = .ok (.bipush 31, 2) := by decide +kernel
theorem dX2_nameOfType_56 : decode cX2_nameOfType 56 = .ok (.ireturn, 1) := by decide +kernel
theorem dX2_tokenOfClass_0 : decode cX2_tokenOfClass 0 = .ok (.iload_n 1, 1) := by decide +kernel
theorem dX2_tokenOfClass_1 : decode cX2_tokenOfClass 1 = .ok (.ifCond .lt 20, 3) := by decide +kernel
theorem dX2_tokenOfClass_4 : decode cX2_tokenOfClass 4 = .ok (.iload_n 1, 1) := by decide +kernel
theorem dX2_tokenOfClass_5 : decode cX2_tokenOfClass 5 = .ok (.aload_n 0, 1) := by decide +kernel
theorem dX2_tokenOfClass_6 : decode cX2_tokenOfClass 6 = .ok (.getfield 78, 3) := by decide +kernel
theorem dX2_tokenOfClass_9 : decode cX2_tokenOfClass 9 = .ok (.if_icmp .ge 12, 3) := by decide +kernel
theorem dX2_tokenOfClass_12 : decode cX2_tokenOfClass 12 = .ok (.aload_n 0, 1) := by decide +kernel
theorem dX2_tokenOfClass_13 : decode cX2_tokenOfClass 13 = .ok (.getfield 20, 3) := by decide +kernel
theorem dX2_tokenOfClass_16 : decode cX2_tokenOfClass 16 = .ok (.iload_n 1, 1) := by decide +kernel
theorem dX2_tokenOfClass_17 : decode cX2_tokenOfClass 17 = .ok (.iaload, 1) := by decide +kernel
theorem dX2_tokenOfClass_18 : decode cX2_tokenOfClass 18 = .ok (.goto 4, 3) := by decide +kernel
theorem dX2_tokenOfClass_21 : decode cX2_tokenOfClass 21 = .ok (.iconst (-1), 1) := by decide +kernel
theorem dX2_tokenOfClass_22 : decode cX2_tokenOfClass 22 = .ok (.ireturn, 1) := by decide +kernel
theorem dX2_classAbove_0 : decode cX2_classAbove 0 = .ok (.aload_n 0, 1) := by decide +kernel
theorem dX2_classAbove_1 : decode cX2_classAbove 1 = .ok (.iload_n 1, 1) := by decide +kernel
theorem dX2_classAbove_2 : decode cX2_classAbove 2 = .ok (.invokevirtual 112, 3) := by decide +kernel
theorem dX2_classAbove_5 : decode cX2_classAbove 5 = .ok (.istore_n 2, 1) := by decide +kernel
theorem dX2_classAbove_6 : decode cX2_classAbove 6 = .ok (.aload_n 0, 1) := by decide +kernel
theorem dX2_classAbove_7 : decode cX2_classAbove 7 = .ok (.getfield 74, 3) := by decide +kernel
theorem dX2_classAbove_10 : decode cX2_classAbove 10 = .ok (.iload_n 2, 1) := by decide +kernel
theorem dX2_classAbove_11 : decode cX2_classAbove 11 = .ok (.iconst 1, 1) := by decide +kernel
theorem dX2_classAbove_12 : decode cX2_classAbove 12 = .ok (.iadd, 1) := by decide +kernel
theorem dX2_classAbove_13 : decode cX2_classAbove 13 = .ok (.invokevirtual 115, 3) := by decide +kernel
theorem dX2_classAbove_16 : decode cX2_classAbove 16 = .ok (.bipush 16, 2) := by decide +kernel
theorem dX2_classAbove_18 : decode cX2_classAbove 18 = .ok (.if_icmp .ne 13, 3) := by decide +kernel
theorem dX2_classAbove_21 : decode cX2_classAbove 21 = .ok (.aload_n 0, 1) := by decide +kernel
theorem dX2_classAbove_22 : decode cX2_classAbove 22 = .ok (.iload_n 2, 1) := by decide +kernel
theorem dX2_classAbove_23 : decode cX2_classAbove 23 = .ok (.iconst 2, 1) := by decide +kernel
theorem dX2_classAbove_24 : decode cX2_classAbove 24 = .ok (.iadd, 1) := by decide +kernel
theorem dX2_classAbove_25 : decode cX2_classAbove 25 = .ok (.invokevirtual 184, 3) := by decide +kernel
theorem dX2_classAbove_28 : decode cX2_classAbove 28 = .ok (.goto 4, 3) := by decide +kernel
theorem dX2_classAbove_31 : decode cX2_classAbove 31 = .ok (.iconst 0, 1) := by decide +kernel
theorem dX2_classAbove_32 : decode cX2_classAbove 32 = .ok (.ireturn, 1) := by decide +kernel
theorem dX2_checkClassHead_0 : decode cX2_checkClassHead 0 = .ok (.aload_n 0, 1) := by decide +kernel
theorem dX2_checkClassHead_1 : decode cX2_checkClassHead 1 = .ok (.getfield 20, 3) := by decide +kernel
theorem dX2_checkClassHead_4 : decode cX2_checkClassHead 4 = .ok (.iload_n 1, 1) := by decide +kernel
theorem dX2_checkClassHead_5 : decode cX2_checkClassHead 5 = .ok (.iaload, 1) := by decide +kernel
theorem dX2_checkClassHead_6 : decode cX2_checkClassHead 6 = .ok (.istore_n 2, 1) := by decide +kernel
theorem dX2_checkClassHead_7 : decode cX2_checkClassHead 7 = .ok (.iload_n 1, 1) := by decide +kernel
theorem dX2_checkClassHead_8 : decode cX2_checkClassHead 8 = .ok (.bipush 8, 2) := by decide +kernel
theorem dX2_checkClassHead_10 : decode cX2_checkClassHead 10 = .ok (.if_icmp .lt 13, 3) := by decide +kernel
theorem dX2_checkClassHead_13 : decode cX2_checkClassHead 13 = .ok (.aload_n 0, 1) := by decide +kernel
theorem dX2_checkClassHead_14 : decode cX2_checkClassHead 14 = .ok (.getfield 74, 3) := by decide +kernel
theorem dX2_checkClassHead_17 : decode cX2_checkClassHead 17 = .ok (.bipush 11, 2) := by decide +kernel
theorem dX2_checkClassHead_19 : decode cX2_checkClassHead 19 = .ok (.iload_n 2, 1) := by decide +kernel
theorem dX2_checkClassHead_20 : decode cX2_checkClassHead 20 = .ok (.invokevirtual 186, 3) := by decide +kernel
theorem dX2_checkClassHead_23 : decode cX2_checkClassHead 23 = .ok (.aload_n 0, 1) := by decide +kernel
theorem dX2_checkClassHead_24 : decode cX2_checkClassHead 24 = .ok (.iload_n 2, 1) := by decide +kernel
theorem dX2_checkClassHead_25 : decode cX2_checkClassHead 25 = .ok (.invokevirtual 184, 3) := by decide +kernel
theorem dX2_checkClassHead_28 : decode cX2_checkClassHead 28 = .ok (.bipush 8, 2) := by decide +kernel
theorem dX2_checkClassHead_30 : decode cX2_checkClassHead 30 = .ok (.iload_n 1, 1) := by decide +kernel
theorem dX2_checkClassHead_31 : decode cX2_checkClassHead 31 = .ok (.iadd, 1) := by decide +kernel
theorem dX2_checkClassHead_32 : decode cX2_checkClassHead 32 = .ok (.if_icmp .eq 12, 3) := by decide +kernel
theorem dX2_checkClassHead_35 : decode cX2_checkClassHead 35 = .ok (.aload_n 0, 1) := by decide +kernel
theorem dX2_checkClassHead_36 : decode cX2_checkClassHead 36 = .ok (.getfield 74, 3) := by decide +kernel
theorem dX2_checkClassHead_39 : decode cX2_checkClassHead 39 = .ok (.iconst 4, 1) := by decide +kernel
theorem dX2_checkClassHead_40 : decode cX2_checkClassHead 40 = .ok (.iload_n 2, 1) := by decide +kernel
theorem dX2_checkClassHead_41 : decode cX2_checkClassHead 41 = .ok (.invokevirtual 186, 3) := by decide +kernel
theorem dX2_checkClassHead_44 : decode cX2_checkClassHead 44 = .ok (.aload_n 0, 1) := by decide +kernel
theorem dX2_checkClassHead_45 : decode cX2_checkClassHead 45 = .ok (.iload_n 1, 1) := by decide +kernel
theorem dX2_checkClassHead_46 : decode cX2_checkClassHead 46 = .ok (.invokevirtual 101, 3) := by decide +kernel
theorem dX2_checkClassHead_49 : decode cX2_checkClassHead 49 = .ok (.iconst (-1), 1) := by decide +kernel
theorem dX2_checkClassHead_50 : decode cX2_checkClassHead 50 = .ok (.if_icmp .ne 14, 3) := by decide +kernel
theorem dX2_checkClassHead_53 : decode cX2_checkClassHead 53 = .ok (.aload_n 0, 1) := by decide +kernel
theorem dX2_checkClassHead_54 : decode cX2_checkClassHead 54 = .ok (.getfield 74, 3) := by decide +kernel
theorem dX2_checkClassHead_57 : decode cX2_checkClassHead 57 = .ok (.iconst 5, 1) := by decide +kernel
theorem dX2_checkClassHead_58 : decode cX2_checkClassHead 58 = .ok (.iload_n 2, 1) := by decide +kernel
theorem dX2_checkClassHead_59 : decode cX2_checkClassHead 59 = .ok (.iconst 2, 1) := by decide +kernel
theorem dX2_checkClassHead_60 : decode cX2_checkClassHead 60 = .ok (.iadd, 1) := by decide +kernel
theorem dX2_checkClassHead_61 : decode cX2_checkClassHead 61 = .ok (.invokevirtual 186, 3) := by decide +kernel
theorem dX2_checkClassHead_64 : decode cX2_checkClassHead 64 = .ok (.aload_n 0, 1) := by decide +kernel
theorem dX2_checkClassHead_65 : decode cX2_checkClassHead 65 = .ok (.iload_n 1, 1) := by decide +kernel
theorem dX2_checkClassHead_66 : decode cX2_checkClassHead 66 = .ok (.invokevirtual 189, 3) := by decide +kernel
theorem dX2_checkClassHead_69 : decode cX2_checkClassHead 69 = .ok (.ifCond .ne 15, 3) := by decide +kernel
theorem dX2_checkClassHead_72 : decode cX2_checkClassHead 72 = .ok (.aload_n 0, 1) := by decide +kernel
theorem dX2_checkClassHead_73 : decode cX2_checkClassHead 73 = .ok (.getfield 74, 3) := by decide +kernel
theorem dX2_checkClassHead_76 : decode cX2_checkClassHead 76 = .ok (.bipush 6, 2) := by decide +kernel
theorem dX2_checkClassHead_78 : decode cX2_checkClassHead 78 = .ok (.iload_n 2, 1) := by decide +kernel
theorem dX2_checkClassHead_79 : decode cX2_checkClassHead 79 = .ok (.iconst 2, 1) := by decide +kernel
theorem dX2_checkClassHead_80 : decode cX2_checkClassHead 80 = .ok (.iadd, 1) := by decide +kernel
theorem dX2_checkClassHead_81 : decode cX2_checkClassHead 81 = .ok (.invokevirtual 186, 3) := by decide +kernel
theorem dX2_checkClassHead_84 : decode cX2_checkClassHead 84 = .ok (.return_, 1) := by decide +kernel
theorem dX2_endsAbove_0 : decode cX2_endsAbove 0 = .ok (.bipush 8, 2) := by decide +kernel
theorem dX2_endsAbove_2 : decode cX2_endsAbove 2 = .ok (.iload_n 1, 1) := by decide +kernel
theorem dX2_endsAbove_3 : decode cX2_endsAbove 3 = .ok (.iadd, 1) := by decide +kernel
theorem dX2_endsAbove_4 : decode cX2_endsAbove 4 = .ok (.istore_n 2, 1) := by decide +kernel
theorem dX2_endsAbove_5 : decode cX2_endsAbove 5 = .ok (.iconst 0, 1) := by decide +kernel
theorem dX2_endsAbove_6 : decode cX2_endsAbove 6 = .ok (.istore_n 3, 1) := by decide +kernel
theorem dX2_endsAbove_7 : decode cX2_endsAbove 7 = .ok (.iload_n 3, 1) := by decide +kernel
theorem dX2_endsAbove_8 : decode cX2_endsAbove 8 = .ok (.aload_n 0, 1) := by decide +kernel
theorem dX2_endsAbove_9 : decode cX2_endsAbove 9 = .ok (.getfield 78, 3) := by decide +kernel
theorem dX2_endsAbove_12 : decode cX2_endsAbove 12 = .ok (.if_icmp .gt 24, 3) := by decide +kernel
theorem dX2_endsAbove_15 : decode cX2_endsAbove 15 = .ok (.iload_n 2, 1) := by decide +kernel
theorem dX2_endsAbove_16 : decode cX2_endsAbove 16 = .ok (.bipush 8, 2) := by decide +kernel
theorem dX2_endsAbove_18 : decode cX2_endsAbove 18 = .ok (.if_icmp .lt 18, 3) := by decide +kernel
theorem dX2_endsAbove_21 : decode cX2_endsAbove 21 = .ok (.aload_n 0, 1) := by decide +kernel
theorem dX2_endsAbove_22 : decode cX2_endsAbove 22 = .ok (.iload_n 2, 1) := by decide +kernel
theorem dX2_endsAbove_23 : decode cX2_endsAbove 23 = .ok (.bipush 8, 2) := by decide +kernel
theorem dX2_endsAbove_25 : decode cX2_endsAbove 25 = .ok (.isub, 1) := by decide +kernel
theorem dX2_endsAbove_26 : decode cX2_endsAbove 26 = .ok (.invokevirtual 101, 3) := by decide +kernel
theorem dX2_endsAbove_29 : decode cX2_endsAbove 29 = .ok (.istore_n 2, 1) := by decide +kernel
theorem dX2_endsAbove_30 : decode cX2_endsAbove 30 = .ok (.iinc 3 1, 3) := by decide +kernel
theorem dX2_endsAbove_33 : decode cX2_endsAbove 33 = .ok (.goto (-26), 3) := by decide +kernel
theorem dX2_endsAbove_36 : decode cX2_endsAbove 36 = .ok (.iload_n 2, 1) := by decide +kernel
theorem dX2_endsAbove_37 : decode cX2_endsAbove 37 = .ok (.bipush 8, 2) := by decide +kernel
theorem dX2_endsAbove_39 : decode cX2_endsAbove 39 = .ok (.if_icmp .ge 7, 3) := by decide +kernel
theorem dX2_endsAbove_42 : decode cX2_endsAbove 42 = .ok (.iconst 1, 1) := by decide +kernel
theorem dX2_endsAbove_43 : decode cX2_endsAbove 43 = .ok (.goto 4, 3) := by decide +kernel
theorem dX2_endsAbove_46 : decode cX2_endsAbove 46 = .ok (.iconst 0, 1) := by decide +kernel
theorem dX2_endsAbove_47 : decode cX2_endsAbove 47 = .ok (.ireturn, 1) := by decide +kernel
theorem dX2_readType_0 : decode cX2_readType 0 = .ok (.aload_n 0, 1) := by decide +kernel
theorem dX2_readType_1 : decode cX2_readType 1 = .ok (.getfield 74, 3) := by decide +kernel
theorem dX2_readType_4 : decode cX2_readType 4 = .ok (.invokevirtual 121, 3) := by decide +kernel
theorem dX2_readType_7 : decode cX2_readType 7 = .ok (.istore_n 1, 1) := by decide +kernel
theorem dX2_readType_8 : decode cX2_readType 8 = .ok (.aload_n 0, 1) := by decide +kernel
theorem dX2_readType_9 : decode cX2_readType 9 = .ok (.getfield 74, 3) := by decide +kernel
theorem dX2_readType_12 : decode cX2_readType 12 = .ok (.getfield 118, 3) := by decide +kernel
theorem dX2_readType_15 : decode cX2_readType 15 = .ok (.istore_n 2, 1) := by decide +kernel
theorem dX2_readType_16 : decode cX2_readType 16 = .ok (.aload_n 0, 1) := by decide +kernel
theorem dX2_readType_17 : decode cX2_readType 17 = .ok (.getfield 74, 3) := by decide +kernel
theorem dX2_readType_20 : decode cX2_readType 20 = .ok (.dup, 1) := by decide +kernel
theorem dX2_readType_21 : decode cX2_readType 21 = .ok (.getfield 118, 3) := by decide +kernel
theorem dX2_readType_24 : decode cX2_readType 24 = .ok (.iconst 1, 1) := by decide +kernel
theorem dX2_readType_25 : decode cX2_readType 25 = .ok (.iadd, 1) := by decide +kernel
theorem dX2_readType_26 : decode cX2_readType 26 = .ok (.putfield 118, 3) := by decide +kernel
theorem dX2_readType_29 : decode cX2_readType 29 = .ok (.iload_n 1, 1) := by decide +kernel
theorem dX2_readType_30 : decode cX2_readType 30 = .ok (.bipush 10, 2) := by decide +kernel
theorem dX2_readType_32 : decode cX2_readType 32 = .ok (.if_icmp .ne 7, 3) := by decide +kernel
theorem dX2_readType_35 : decode cX2_readType 35 = .ok (.sipush 302, 3) := by decide +kernel
theorem dX2_readType_38 : decode cX2_readType 38 = .ok (.ireturn, 1) := by decide +kernel
theorem dX2_readType_39 : decode cX2_readType 39 = .ok (.iload_n 1, 1) := by decide +kernel
theorem dX2_readType_40 : decode cX2_readType 40 = .ok (.iconst 2, 1) := by decide +kernel
theorem dX2_readType_41 : decode cX2_readType 41 = .ok (.if_icmp .ne 11, 3) := by decide +kernel
theorem dX2_readType_44 : decode cX2_readType 44 = .ok (.aload_n 0, 1) := by decide +kernel
theorem dX2_readType_45 : decode cX2_readType 45 = .ok (.iload_n 2, 1) := by decide +kernel
theorem dX2_readType_46 : decode cX2_readType 46 = .ok (.invokevirtual 184, 3) := by decide +kernel
theorem dX2_readType_49 : decode cX2_readType 49 = .ok (.goto 4, 3) := by decide +kernel
theorem dX2_readType_52 : decode cX2_readType 52 = .ok (.iconst 0, 1) := by decide +kernel
theorem dX2_readType_53 : decode cX2_readType 53 = .ok (.istore_n 3, 1) := by decide +kernel
theorem dX2_readType_54 : decode cX2_readType 54 = .ok (.iload_n 3, 1) := by decide +kernel
theorem dX2_readType_55 : decode cX2_readType 55 = .ok (.iconst (-1), 1) := by decide +kernel
theorem dX2_readType_56 : decode cX2_readType 56 = .ok (.if_icmp .ne 16, 3) := by decide +kernel
theorem dX2_readType_59 : decode cX2_readType 59 = .ok (.aload_n 0, 1) := by decide +kernel
theorem dX2_readType_60 : decode cX2_readType 60 = .ok (.getfield 74, 3) := by decide +kernel
theorem dX2_readType_63 : decode cX2_readType 63 = .ok (.iconst 5, 1) := by decide +kernel
theorem dX2_readType_64 : decode cX2_readType 64 = .ok (.iload_n 2, 1) := by decide +kernel
theorem dX2_readType_65 : decode cX2_readType 65 = .ok (.invokevirtual 186, 3) := by decide +kernel
theorem dX2_readType_68 : decode cX2_readType 68 = .ok (.sipush 305, 3) := by decide +kernel
theorem dX2_readType_71 : decode cX2_readType 71 = .ok (.ireturn, 1) := by decide +kernel
theorem dX2_readType_72 : decode cX2_readType 72 = .ok (.aload_n 0, 1) := by decide +kernel
theorem dX2_readType_73 : decode cX2_readType 73 = .ok (.getfield 74, 3) := by decide +kernel
theorem dX2_readType_76 : decode cX2_readType 76 = .ok (.invokevirtual 121, 3) := by decide +kernel
theorem dX2_readType_79 : decode cX2_readType 79 = .ok (.bipush 44, 2) := by decide +kernel
theorem dX2_readType_81 : decode cX2_readType 81 = .ok (.if_icmp .ne 7, 3) := by decide +kernel
theorem dX2_readType_84 : decode cX2_readType 84 = .ok (.iconst 1, 1) := by decide +kernel
theorem dX2_readType_85 : decode cX2_readType 85 = .ok (.goto 4, 3) := by decide +kernel
theorem dX2_readType_88 : decode cX2_readType 88 = .ok (.iconst 0, 1) := by decide +kernel
theorem dX2_readType_89 : decode cX2_readType 89 = .ok (.istore 4, 2) := by decide +kernel
theorem dX2_readType_91 : decode cX2_readType 91 = .ok (.iload 4, 2) := by decide +kernel
theorem dX2_readType_93 : decode cX2_readType 93 = .ok (.ifCond .eq 16, 3) := by decide +kernel
theorem dX2_readType_96 : decode cX2_readType 96 = .ok (.aload_n 0, 1) := by decide +kernel
theorem dX2_readType_97 : decode cX2_readType 97 = .ok (.getfield 74, 3) := by decide +kernel
theorem dX2_readType_100 : decode cX2_readType 100 = .ok (.dup, 1) := by decide +kernel
theorem dX2_readType_101 : decode cX2_readType 101 = .ok (.getfield 118, 3) := by decide +kernel
theorem dX2_readType_104 : decode cX2_readType 104 = .ok (.iconst 2, 1) := by decide +kernel
theorem dX2_readType_105 : decode cX2_readType 105 = .ok (.iadd, 1) := by decide +kernel
theorem dX2_readType_106 : decode cX2_readType 106 = .ok (.putfield 118, 3) := by decide +kernel
theorem dX2_readType_109 : decode cX2_readType 109 = .ok (.iload_n 1, 1) := by decide +kernel
theorem dX2_readType_110 : decode cX2_readType 110 = .ok (.bipush 20, 2) := by decide +kernel
theorem dX2_readType_112 : decode cX2_readType 112 = .ok (.if_icmp .ne 18, 3) := by decide +kernel
theorem dX2_readType_115 : decode cX2_readType 115 = .ok (.iload 4, 2) := by decide +kernel
theorem dX2_readType_117 : decode cX2_readType 117 = .ok (.ifCond .eq 9, 3) := by decide +kernel
theorem dX2_readType_120 : decode cX2_readType 120 = .ok (.sipush 200, 3) := by decide +kernel
theorem dX2_readType_123 : decode cX2_readType 123 = .ok (.goto 6, 3) := by decide +kernel
theorem dX2_readType_126 : decode cX2_readType 126 = .ok (.sipush 301, 3) := by decide +kernel
theorem dX2_readType_129 : decode cX2_readType 129 = .ok (.ireturn, 1) := by decide +kernel
theorem dX2_readType_130 : decode cX2_readType 130 = .ok (.iload 4, 2) := by decide +kernel
theorem dX2_readType_132 : decode cX2_readType 132 = .ok (.ifCond .eq 10, 3) := by decide +kernel
theorem dX2_readType_135 : decode cX2_readType 135 = .ok (.bipush 100, 2) := by decide +kernel
theorem dX2_readType_137 : decode cX2_readType 137 = .ok (.iload_n 3, 1) := by decide +kernel
theorem dX2_readType_138 : decode cX2_readType 138 = .ok (.iadd, 1) := by decide +kernel
theorem dX2_readType_139 : decode cX2_readType 139 = .ok (.goto 4, 3) := by decide +kernel
theorem dX2_readType_142 : decode cX2_readType 142 = .ok (.iload_n 3, 1) := by decide +kernel
theorem dX2_readType_143 : decode cX2_readType 143 = .ok (.ireturn, 1) := by decide +kernel
theorem dX2_addField_0 : decode cX2_addField 0 = .ok (.aload_n 0, 1) := by decide +kernel
theorem dX2_addField_1 : decode cX2_addField 1 = .ok (.getfield 27, 3) := by decide +kernel
theorem dX2_addField_4 : decode cX2_addField 4 = .ok (.iload_n 1, 1) := by decide +kernel
theorem dX2_addField_5 : decode cX2_addField 5 = .ok (.iaload, 1) := by decide +kernel
theorem dX2_addField_6 : decode cX2_addField 6 = .ok (.bipush 12, 2) := by decide +kernel
theorem dX2_addField_8 : decode cX2_addField 8 = .ok (.if_icmp .lt 14, 3) := by decide +kernel
theorem dX2_addField_11 : decode cX2_addField 11 = .ok (.aload_n 0, 1) := by decide +kernel
theorem dX2_addField_12 : decode cX2_addField 12 = .ok (.getfield 74, 3) := by decide +kernel
theorem dX2_addField_15 : decode cX2_addField 15 = .ok (.bipush 11, 2) := by decide +kernel
theorem dX2_addField_17 : decode cX2_addField 17 = .ok (.iload_n 2, 1) := by decide +kernel
theorem dX2_addField_18 : decode cX2_addField 18 = .ok (.invokevirtual 186, 3) := by decide +kernel
theorem dX2_addField_21 : decode cX2_addField 21 = .ok (.return_, 1) := by decide +kernel
theorem dX2_addField_22 : decode cX2_addField 22 = .ok (.aload_n 0, 1) := by decide +kernel
theorem dX2_addField_23 : decode cX2_addField 23 = .ok (.getfield 74, 3) := by decide +kernel
theorem dX2_addField_26 : decode cX2_addField 26 = .ok (.iload_n 2, 1) := by decide +kernel
theorem dX2_addField_27 : decode cX2_addField 27 = .ok (.invokevirtual 135, 3) := by decide +kernel
theorem dX2_addField_30 : decode cX2_addField 30 = .ok (.istore 4, 2) := by decide +kernel
theorem dX2_addField_32 : decode cX2_addField 32 = .ok (.aload_n 0, 1) := by decide +kernel
theorem dX2_addField_33 : decode cX2_addField 33 = .ok (.iload_n 1, 1) := by decide +kernel
theorem dX2_addField_34 : decode cX2_addField 34 = .ok (.iload 4, 2) := by decide +kernel
theorem dX2_addField_36 : decode cX2_addField 36 = .ok (.invokevirtual 203, 3) := by decide +kernel
theorem dX2_addField_39 : decode cX2_addField 39 = .ok (.iconst (-1), 1) := by decide +kernel
theorem dX2_addField_40 : decode cX2_addField 40 = .ok (.if_icmp .eq 12, 3) := by decide +kernel
theorem dX2_addField_43 : decode cX2_addField 43 = .ok (.aload_n 0, 1) := by decide +kernel
theorem dX2_addField_44 : decode cX2_addField 44 = .ok (.getfield 74, 3) := by decide +kernel
theorem dX2_addField_47 : decode cX2_addField 47 = .ok (.iconst 4, 1) := by decide +kernel
theorem dX2_addField_48 : decode cX2_addField 48 = .ok (.iload_n 2, 1) := by decide +kernel
theorem dX2_addField_49 : decode cX2_addField 49 = .ok (.invokevirtual 186, 3) := by decide +kernel
theorem dX2_addField_52 : decode cX2_addField 52 = .ok (.iload_n 1, 1) := by decide +kernel
theorem dX2_addField_53 : decode cX2_addField 53 = .ok (.bipush 12, 2) := by decide +kernel
theorem dX2_addField_55 : decode cX2_addField 55 = .ok (.imul, 1) := by decide +kernel
theorem dX2_addField_56 : decode cX2_addField 56 = .ok (.aload_n 0, 1) := by decide +kernel
theorem dX2_addField_57 : decode cX2_addField 57 = .ok (.getfield 27, 3) := by decide +kernel
theorem dX2_addField_60 : decode cX2_addField 60 = .ok (.iload_n 1, 1) := by decide +kernel
theorem dX2_addField_61 : decode cX2_addField 61 = .ok (.iaload, 1) := by decide +kernel
theorem dX2_addField_62 : decode cX2_addField 62 = .ok (.iadd, 1) := by decide +kernel
theorem dX2_addField_63 : decode cX2_addField 63 = .ok (.istore 5, 2) := by decide +kernel
theorem dX2_addField_65 : decode cX2_addField 65 = .ok (.aload_n 0, 1) := by decide +kernel
theorem dX2_addField_66 : decode cX2_addField 66 = .ok (.getfield 30, 3) := by decide +kernel
theorem dX2_addField_69 : decode cX2_addField 69 = .ok (.iload 5, 2) := by decide +kernel
theorem dX2_addField_71 : decode cX2_addField 71 = .ok (.iload 4, 2) := by decide +kernel
theorem dX2_addField_73 : decode cX2_addField 73 = .ok (.iastore, 1) := by decide +kernel
theorem dX2_addField_74 : decode cX2_addField 74 = .ok (.aload_n 0, 1) := by decide +kernel
theorem dX2_addField_75 : decode cX2_addField 75 = .ok (.getfield 33, 3) := by decide +kernel
theorem dX2_addField_78 : decode cX2_addField 78 = .ok (.iload 5, 2) := by decide +kernel
theorem dX2_addField_80 : decode cX2_addField 80 = .ok (.iload_n 3, 1) := by decide +kernel
theorem dX2_addField_81 : decode cX2_addField 81 = .ok (.iastore, 1) := by decide +kernel
theorem dX2_addField_82 : decode cX2_addField 82 = .ok (.aload_n 0, 1) := by decide +kernel
theorem dX2_addField_83 : decode cX2_addField 83 = .ok (.getfield 27, 3) := by decide +kernel
theorem dX2_addField_86 : decode cX2_addField 86 = .ok (.iload_n 1, 1) := by decide +kernel
theorem dX2_addField_87 : decode cX2_addField 87 = .ok (.dup2, 1) := by decide +kernel
theorem dX2_addField_88 : decode cX2_addField 88 = .ok (.iaload, 1) := by decide +kernel
theorem dX2_addField_89 : decode cX2_addField 89 = .ok (.iconst 1, 1) := by decide +kernel
theorem dX2_addField_90 : decode cX2_addField 90 = .ok (.iadd, 1) := by decide +kernel
theorem dX2_addField_91 : decode cX2_addField 91 = .ok (.iastore, 1) := by decide +kernel
theorem dX2_addField_92 : decode cX2_addField 92 = .ok (.return_, 1) := by decide +kernel
theorem dX2_addParameter_0 : decode cX2_addParameter 0 = .ok (.aload_n 0, 1) := by decide +kernel
theorem dX2_addParameter_1 : decode cX2_addParameter 1 = .ok (.invokevirtual 192, 3) := by decide +kernel
theorem dX2_addParameter_4 : decode cX2_addParameter 4 = .ok (.istore_n 2, 1) := by decide +kernel
theorem dX2_addParameter_5 : decode cX2_addParameter 5 = .ok (.aload_n 0, 1) := by decide +kernel
theorem dX2_addParameter_6 : decode cX2_addParameter 6 = .ok (.getfield 74, 3) := by decide +kernel
theorem dX2_addParameter_9 : decode cX2_addParameter 9 = .ok (.getfield 118, 3) := by decide +kernel
theorem dX2_addParameter_12 : decode cX2_addParameter 12 = .ok (.istore_n 3, 1) := by decide +kernel
theorem dX2_addParameter_13 : decode cX2_addParameter 13 = .ok (.aload_n 0, 1) := by decide +kernel
theorem dX2_addParameter_14 : decode cX2_addParameter 14 = .ok (.getfield 74, 3) := by decide +kernel
theorem dX2_addParameter_17 : decode cX2_addParameter 17 = .ok (.iload_n 3, 1) := by decide +kernel
theorem dX2_addParameter_18 : decode cX2_addParameter 18 = .ok (.invokevirtual 135, 3) := by decide +kernel
theorem dX2_addParameter_21 : decode cX2_addParameter 21 = .ok (.istore 4, 2) := by decide +kernel
theorem dX2_addParameter_23 : decode cX2_addParameter 23 = .ok (.iload_n 1, 1) := by decide +kernel
theorem dX2_addParameter_24 : decode cX2_addParameter 24 = .ok (.bipush 6, 2) := by decide +kernel
theorem dX2_addParameter_26 : decode cX2_addParameter 26 = .ok (.imul, 1) := by decide +kernel
theorem dX2_addParameter_27 : decode cX2_addParameter 27 = .ok (.istore 5, 2) := by decide +kernel
theorem dX2_addParameter_29 : decode cX2_addParameter 29 = .ok (.aload_n 0, 1) := by decide +kernel
theorem dX2_addParameter_30 : decode cX2_addParameter 30 = .ok (.getfield 58, 3) := by decide +kernel
theorem dX2_addParameter_33 : decode cX2_addParameter 33 = .ok (.iload_n 1, 1) := by decide +kernel
theorem dX2_addParameter_34 : decode cX2_addParameter 34 = .ok (.iaload, 1) := by decide +kernel
theorem dX2_addParameter_35 : decode cX2_addParameter 35 = .ok (.bipush 6, 2) := by decide +kernel
theorem dX2_addParameter_37 : decode cX2_addParameter 37 = .ok (.if_icmp .lt 14, 3) := by decide +kernel
theorem dX2_addParameter_40 : decode cX2_addParameter 40 = .ok (.aload_n 0, 1) := by decide +kernel
theorem dX2_addParameter_41 : decode cX2_addParameter 41 = .ok (.getfield 74, 3) := by decide +kernel
theorem dX2_addParameter_44 : decode cX2_addParameter 44 = .ok (.bipush 11, 2) := by decide +kernel
theorem dX2_addParameter_46 : decode cX2_addParameter 46 = .ok (.iload_n 3, 1) := by decide +kernel
theorem dX2_addParameter_47 : decode cX2_addParameter 47 = .ok (.invokevirtual 186, 3) := by decide +kernel
theorem dX2_addParameter_50 : decode cX2_addParameter 50 = .ok (.return_, 1) := by decide +kernel
theorem dX2_addParameter_51 : decode cX2_addParameter 51 = .ok (.iconst 0, 1) := by decide +kernel
theorem dX2_addParameter_52 : decode cX2_addParameter 52 = .ok (.istore 6, 2) := by decide +kernel
theorem dX2_addParameter_54 : decode cX2_addParameter 54 = .ok (.iload 6, 2) := by decide +kernel
theorem dX2_addParameter_56 : decode cX2_addParameter 56 = .ok (.aload_n 0, 1) := by decide +kernel
theorem dX2_addParameter_57 : decode cX2_addParameter 57 = .ok (.getfield 58, 3) := by decide +kernel
theorem dX2_addParameter_60 : decode cX2_addParameter 60 = .ok (.iload_n 1, 1) := by decide +kernel
theorem dX2_addParameter_61 : decode cX2_addParameter 61 = .ok (.iaload, 1) := by decide +kernel
theorem dX2_addParameter_62 : decode cX2_addParameter 62 = .ok (.if_icmp .ge 33, 3) := by decide +kernel
theorem dX2_addParameter_65 : decode cX2_addParameter 65 = .ok (.aload_n 0, 1) := by decide +kernel
theorem dX2_addParameter_66 : decode cX2_addParameter 66 = .ok (.getfield 61, 3) := by decide +kernel
theorem dX2_addParameter_69 : decode cX2_addParameter 69 = .ok (.iload 5, 2) := by decide +kernel
theorem dX2_addParameter_71 : decode cX2_addParameter 71 = .ok (.iload 6, 2) := by decide +kernel
theorem dX2_addParameter_73 : decode cX2_addParameter 73 = .ok (.iadd, 1) := by decide +kernel
theorem dX2_addParameter_74 : decode cX2_addParameter 74 = .ok (.iaload, 1) := by decide +kernel
theorem dX2_addParameter_75 : decode cX2_addParameter 75 = .ok (.iload 4, 2) := by decide +kernel
theorem dX2_addParameter_77 : decode cX2_addParameter 77 = .ok (.if_icmp .ne 12, 3) := by decide +kernel
theorem dX2_addParameter_80 : decode cX2_addParameter 80 = .ok (.aload_n 0, 1) := by decide +kernel
theorem dX2_addParameter_81 : decode cX2_addParameter 81 = .ok (.getfield 74, 3) := by decide +kernel
theorem dX2_addParameter_84 : decode cX2_addParameter 84 = .ok (.iconst 4, 1) := by decide +kernel
theorem dX2_addParameter_85 : decode cX2_addParameter 85 = .ok (.iload_n 3, 1) := by decide +kernel
theorem dX2_addParameter_86 : decode cX2_addParameter 86 = .ok (.invokevirtual 186, 3) := by decide +kernel
theorem dX2_addParameter_89 : decode cX2_addParameter 89 = .ok (.iinc 6 1, 3) := by decide +kernel
theorem dX2_addParameter_92 : decode cX2_addParameter 92 = .ok (.goto (-38), 3) := by decide +kernel
theorem dX2_addParameter_95 : decode cX2_addParameter 95 = .ok (.aload_n 0, 1) := by decide +kernel
theorem dX2_addParameter_96 : decode cX2_addParameter 96 = .ok (.getfield 61, 3) := by decide +kernel
theorem dX2_addParameter_99 : decode cX2_addParameter 99 = .ok (.iload 5, 2) := by decide +kernel
theorem dX2_addParameter_101 : decode cX2_addParameter 101 = .ok (.aload_n 0, 1) := by decide +kernel
theorem dX2_addParameter_102 : decode cX2_addParameter 102 = .ok (.getfield 58, 3) := by decide +kernel
theorem dX2_addParameter_105 : decode cX2_addParameter 105 = .ok (.iload_n 1, 1) := by decide +kernel
theorem dX2_addParameter_106 : decode cX2_addParameter 106 = .ok (.iaload, 1) := by decide +kernel
theorem dX2_addParameter_107 : decode cX2_addParameter 107 = .ok (.iadd, 1) := by decide +kernel
theorem dX2_addParameter_108 : decode cX2_addParameter 108 = .ok (.iload 4, 2) := by decide +kernel
theorem dX2_addParameter_110 : decode cX2_addParameter 110 = .ok (.iastore, 1) := by decide +kernel
theorem dX2_addParameter_111 : decode cX2_addParameter 111 = .ok (.aload_n 0, 1) := by decide +kernel
theorem dX2_addParameter_112 : decode cX2_addParameter 112 = .ok (.getfield 64, 3) := by decide +kernel
theorem dX2_addParameter_115 : decode cX2_addParameter 115 = .ok (.iload 5, 2) := by decide +kernel
theorem dX2_addParameter_117 : decode cX2_addParameter 117 = .ok (.aload_n 0, 1) := by decide +kernel
theorem dX2_addParameter_118 : decode cX2_addParameter 118 = .ok (.getfield 58, 3) := by decide +kernel
theorem dX2_addParameter_121 : decode cX2_addParameter 121 = .ok (.iload_n 1, 1) := by decide +kernel
theorem dX2_addParameter_122 : decode cX2_addParameter 122 = .ok (.iaload, 1) := by decide +kernel
theorem dX2_addParameter_123 : decode cX2_addParameter 123 = .ok (.iadd, 1) := by decide +kernel
theorem dX2_addParameter_124 : decode cX2_addParameter 124 = .ok (.iload_n 2, 1) := by decide +kernel
theorem dX2_addParameter_125 : decode cX2_addParameter 125 = .ok (.iastore, 1) := by decide +kernel
theorem dX2_addParameter_126 : decode cX2_addParameter 126 = .ok (.aload_n 0, 1) := by decide +kernel
theorem dX2_addParameter_127 : decode cX2_addParameter 127 = .ok (.getfield 58, 3) := by decide +kernel
theorem dX2_addParameter_130 : decode cX2_addParameter 130 = .ok (.iload_n 1, 1) := by decide +kernel
theorem dX2_addParameter_131 : decode cX2_addParameter 131 = .ok (.dup2, 1) := by decide +kernel
theorem dX2_addParameter_132 : decode cX2_addParameter 132 = .ok (.iaload, 1) := by decide +kernel
theorem dX2_addParameter_133 : decode cX2_addParameter 133 = .ok (.iconst 1, 1) := by decide +kernel
theorem dX2_addParameter_134 : decode cX2_addParameter 134 = .ok (.iadd, 1) := by decide +kernel
theorem dX2_addParameter_135 : decode cX2_addParameter 135 = .ok (.iastore, 1) := by decide +kernel
theorem dX2_addParameter_136 : decode cX2_addParameter 136 = .ok (.aload_n 0, 1) := by decide +kernel
theorem dX2_addParameter_137 : decode cX2_addParameter 137 = .ok (.getfield 74, 3) := by decide +kernel
theorem dX2_addParameter_140 : decode cX2_addParameter 140 = .ok (.dup, 1) := by decide +kernel
theorem dX2_addParameter_141 : decode cX2_addParameter 141 = .ok (.getfield 118, 3) := by decide +kernel
theorem dX2_addParameter_144 : decode cX2_addParameter 144 = .ok (.iconst 1, 1) := by decide +kernel
theorem dX2_addParameter_145 : decode cX2_addParameter 145 = .ok (.iadd, 1) := by decide +kernel
theorem dX2_addParameter_146 : decode cX2_addParameter 146 = .ok (.putfield 118, 3) := by decide +kernel
theorem dX2_addParameter_149 : decode cX2_addParameter 149 = .ok (.aload_n 0, 1) := by decide +kernel
theorem dX2_addParameter_150 : decode cX2_addParameter 150 = .ok (.getfield 74, 3) := by decide +kernel
theorem dX2_addParameter_153 : decode cX2_addParameter 153 = .ok (.invokevirtual 121, 3) := by decide +kernel
theorem dX2_addParameter_156 : decode cX2_addParameter 156 = .ok (.bipush 47, 2) := by decide +kernel
theorem dX2_addParameter_158 : decode cX2_addParameter 158 = .ok (.if_icmp .ne 16, 3) := by decide +kernel
theorem dX2_addParameter_161 : decode cX2_addParameter 161 = .ok (.aload_n 0, 1) := by decide +kernel
theorem dX2_addParameter_162 : decode cX2_addParameter 162 = .ok (.getfield 74, 3) := by decide +kernel
theorem dX2_addParameter_165 : decode cX2_addParameter 165 = .ok (.dup, 1) := by decide +kernel
theorem dX2_addParameter_166 : decode cX2_addParameter 166 = .ok (.getfield 118, 3) := by decide +kernel
theorem dX2_addParameter_169 : decode cX2_addParameter 169 = .ok (.iconst 1, 1) := by decide +kernel
theorem dX2_addParameter_170 : decode cX2_addParameter 170 = .ok (.iadd, 1) := by decide +kernel
theorem dX2_addParameter_171 : decode cX2_addParameter 171 = .ok (.putfield 118, 3) := by decide +kernel
theorem dX2_addParameter_174 : decode cX2_addParameter 174 = .ok (.return_, 1) := by decide +kernel
theorem dX2_skipBlock_0 : decode cX2_skipBlock 0 = .ok (.iconst 0, 1) := by decide +kernel
theorem dX2_skipBlock_1 : decode cX2_skipBlock 1 = .ok (.istore_n 1, 1) := by decide +kernel
theorem dX2_skipBlock_2 : decode cX2_skipBlock 2 = .ok (.iconst 1, 1) := by decide +kernel
theorem dX2_skipBlock_3 : decode cX2_skipBlock 3 = .ok (.istore_n 2, 1) := by decide +kernel
theorem dX2_skipBlock_4 : decode cX2_skipBlock 4 = .ok (.iconst 0, 1) := by decide +kernel
theorem dX2_skipBlock_5 : decode cX2_skipBlock 5 = .ok (.istore_n 3, 1) := by decide +kernel
theorem dX2_skipBlock_6 : decode cX2_skipBlock 6 = .ok (.iload_n 3, 1) := by decide +kernel
theorem dX2_skipBlock_7 : decode cX2_skipBlock 7 = .ok (.sipush 3000, 3) := by decide +kernel
theorem dX2_skipBlock_10 : decode cX2_skipBlock 10 = .ok (.if_icmp .ge 79, 3) := by decide +kernel
theorem dX2_skipBlock_13 : decode cX2_skipBlock 13 = .ok (.iload_n 2, 1) := by decide +kernel
theorem dX2_skipBlock_14 : decode cX2_skipBlock 14 = .ok (.ifCond .eq 75, 3) := by decide +kernel
theorem dX2_skipBlock_17 : decode cX2_skipBlock 17 = .ok (.aload_n 0, 1) := by decide +kernel
theorem dX2_skipBlock_18 : decode cX2_skipBlock 18 = .ok (.getfield 74, 3) := by decide +kernel
theorem dX2_skipBlock_21 : decode cX2_skipBlock 21 = .ok (.invokevirtual 121, 3) := by decide +kernel
theorem dX2_skipBlock_24 : decode cX2_skipBlock 24 = .ok (.ifCond .eq 65, 3) := by decide +kernel
theorem dX2_skipBlock_27 : decode cX2_skipBlock 27 = .ok (.aload_n 0, 1) := by decide +kernel
theorem dX2_skipBlock_28 : decode cX2_skipBlock 28 = .ok (.getfield 74, 3) := by decide +kernel
theorem dX2_skipBlock_31 : decode cX2_skipBlock 31 = .ok (.invokevirtual 121, 3) := by decide +kernel
theorem dX2_skipBlock_34 : decode cX2_skipBlock 34 = .ok (.bipush 42, 2) := by decide +kernel
theorem dX2_skipBlock_36 : decode cX2_skipBlock 36 = .ok (.if_icmp .ne 9, 3) := by decide +kernel
theorem dX2_skipBlock_39 : decode cX2_skipBlock 39 = .ok (.iinc 1 1, 3) := by decide +kernel
theorem dX2_skipBlock_42 : decode cX2_skipBlock 42 = .ok (.goto 18, 3) := by decide +kernel
theorem dX2_skipBlock_45 : decode cX2_skipBlock 45 = .ok (.aload_n 0, 1) := by decide +kernel
theorem dX2_skipBlock_46 : decode cX2_skipBlock 46 = .ok (.getfield 74, 3) := by decide +kernel
theorem dX2_skipBlock_49 : decode cX2_skipBlock 49 = .ok (.invokevirtual 121, 3) := by decide +kernel
theorem dX2_skipBlock_52 : decode cX2_skipBlock 52 = .ok (.bipush 43, 2) := by decide +kernel
theorem dX2_skipBlock_54 : decode cX2_skipBlock 54 = .ok (.if_icmp .ne 6, 3) := by decide +kernel
theorem dX2_skipBlock_57 : decode cX2_skipBlock 57 = .ok (.iinc 1 (-1), 3) := by decide +kernel
theorem dX2_skipBlock_60 : decode cX2_skipBlock 60 = .ok (.aload_n 0, 1) := by decide +kernel
theorem dX2_skipBlock_61 : decode cX2_skipBlock 61 = .ok (.getfield 74, 3) := by decide +kernel
theorem dX2_skipBlock_64 : decode cX2_skipBlock 64 = .ok (.dup, 1) := by decide +kernel
theorem dX2_skipBlock_65 : decode cX2_skipBlock 65 = .ok (.getfield 118, 3) := by decide +kernel
theorem dX2_skipBlock_68 : decode cX2_skipBlock 68 = .ok (.iconst 1, 1) := by decide +kernel
theorem dX2_skipBlock_69 : decode cX2_skipBlock 69 = .ok (.iadd, 1) := by decide +kernel
theorem dX2_skipBlock_70 : decode cX2_skipBlock 70 = .ok (.putfield 118, 3) := by decide +kernel
theorem dX2_skipBlock_73 : decode cX2_skipBlock 73 = .ok (.iload_n 1, 1) := by decide +kernel
theorem dX2_skipBlock_74 : decode cX2_skipBlock 74 = .ok (.ifCond .le 7, 3) := by decide +kernel
theorem dX2_skipBlock_77 : decode cX2_skipBlock 77 = .ok (.iconst 1, 1) := by decide +kernel
theorem dX2_skipBlock_78 : decode cX2_skipBlock 78 = .ok (.goto 4, 3) := by decide +kernel
theorem dX2_skipBlock_81 : decode cX2_skipBlock 81 = .ok (.iconst 0, 1) := by decide +kernel
theorem dX2_skipBlock_82 : decode cX2_skipBlock 82 = .ok (.istore_n 2, 1) := by decide +kernel
theorem dX2_skipBlock_83 : decode cX2_skipBlock 83 = .ok (.iinc 3 1, 3) := by decide +kernel
theorem dX2_skipBlock_86 : decode cX2_skipBlock 86 = .ok (.goto (-80), 3) := by decide +kernel
theorem dX2_skipBlock_89 : decode cX2_skipBlock 89 = .ok (.return_, 1) := by decide +kernel
theorem dX2_fieldIn_0 : decode cX2_fieldIn 0 = .ok (.iconst 0, 1) := by decide +kernel
theorem dX2_fieldIn_1 : decode cX2_fieldIn 1 = .ok (.istore_n 3, 1) := by decide +kernel
theorem dX2_fieldIn_2 : decode cX2_fieldIn 2 = .ok (.iload_n 3, 1) := by decide +kernel
theorem dX2_fieldIn_3 : decode cX2_fieldIn 3 = .ok (.aload_n 0, 1) := by decide +kernel
theorem dX2_fieldIn_4 : decode cX2_fieldIn 4 = .ok (.getfield 27, 3) := by decide +kernel
theorem dX2_fieldIn_7 : decode cX2_fieldIn 7 = .ok (.iload_n 1, 1) := by decide +kernel
theorem dX2_fieldIn_8 : decode cX2_fieldIn 8 = .ok (.iaload, 1) := by decide +kernel
theorem dX2_fieldIn_9 : decode cX2_fieldIn 9 = .ok (.if_icmp .ge 31, 3) := by decide +kernel
theorem dX2_fieldIn_12 : decode cX2_fieldIn 12 = .ok (.aload_n 0, 1) := by decide +kernel
theorem dX2_fieldIn_13 : decode cX2_fieldIn 13 = .ok (.getfield 30, 3) := by decide +kernel
theorem dX2_fieldIn_16 : decode cX2_fieldIn 16 = .ok (.iload_n 1, 1) := by decide +kernel
theorem dX2_fieldIn_17 : decode cX2_fieldIn 17 = .ok (.bipush 12, 2) := by decide +kernel
theorem dX2_fieldIn_19 : decode cX2_fieldIn 19 = .ok (.imul, 1) := by decide +kernel
theorem dX2_fieldIn_20 : decode cX2_fieldIn 20 = .ok (.iload_n 3, 1) := by decide +kernel
theorem dX2_fieldIn_21 : decode cX2_fieldIn 21 = .ok (.iadd, 1) := by decide +kernel
theorem dX2_fieldIn_22 : decode cX2_fieldIn 22 = .ok (.iaload, 1) := by decide +kernel
theorem dX2_fieldIn_23 : decode cX2_fieldIn 23 = .ok (.iload_n 2, 1) := by decide +kernel
theorem dX2_fieldIn_24 : decode cX2_fieldIn 24 = .ok (.if_icmp .ne 10, 3) := by decide +kernel
theorem dX2_fieldIn_27 : decode cX2_fieldIn 27 = .ok (.iload_n 1, 1) := by decide +kernel
theorem dX2_fieldIn_28 : decode cX2_fieldIn 28 = .ok (.bipush 12, 2) := by decide +kernel
theorem dX2_fieldIn_30 : decode cX2_fieldIn 30 = .ok (.imul, 1) := by decide +kernel
theorem dX2_fieldIn_31 : decode cX2_fieldIn 31 = .ok (.iload_n 3, 1) := by decide +kernel
theorem dX2_fieldIn_32 : decode cX2_fieldIn 32 = .ok (.iadd, 1) := by decide +kernel
theorem dX2_fieldIn_33 : decode cX2_fieldIn 33 = .ok (.ireturn, 1) := by decide +kernel
theorem dX2_fieldIn_34 : decode cX2_fieldIn 34 = .ok (.iinc 3 1, 3) := by decide +kernel
theorem dX2_fieldIn_37 : decode cX2_fieldIn 37 = .ok (.goto (-35), 3) := by decide +kernel
theorem dX2_fieldIn_40 : decode cX2_fieldIn 40 = .ok (.iconst (-1), 1) := by decide +kernel
theorem dX2_fieldIn_41 : decode cX2_fieldIn 41 = .ok (.ireturn, 1) := by decide +kernel
theorem dX2_methodIn_0 : decode cX2_methodIn 0 = .ok (.iconst 0, 1) := by decide +kernel
theorem dX2_methodIn_1 : decode cX2_methodIn 1 = .ok (.istore_n 3, 1) := by decide +kernel
theorem dX2_methodIn_2 : decode cX2_methodIn 2 = .ok (.iload_n 3, 1) := by decide +kernel
theorem dX2_methodIn_3 : decode cX2_methodIn 3 = .ok (.aload_n 0, 1) := by decide +kernel
theorem dX2_methodIn_4 : decode cX2_methodIn 4 = .ok (.getfield 39, 3) := by decide +kernel
theorem dX2_methodIn_7 : decode cX2_methodIn 7 = .ok (.iload_n 1, 1) := by decide +kernel
theorem dX2_methodIn_8 : decode cX2_methodIn 8 = .ok (.iaload, 1) := by decide +kernel
theorem dX2_methodIn_9 : decode cX2_methodIn 9 = .ok (.if_icmp .ge 38, 3) := by decide +kernel
theorem dX2_methodIn_12 : decode cX2_methodIn 12 = .ok (.aload_n 0, 1) := by decide +kernel
theorem dX2_methodIn_13 : decode cX2_methodIn 13 = .ok (.getfield 74, 3) := by decide +kernel
theorem dX2_methodIn_16 : decode cX2_methodIn 16 = .ok (.aload_n 0, 1) := by decide +kernel
theorem dX2_methodIn_17 : decode cX2_methodIn 17 = .ok (.getfield 42, 3) := by decide +kernel
theorem dX2_methodIn_20 : decode cX2_methodIn 20 = .ok (.iload_n 1, 1) := by decide +kernel
theorem dX2_methodIn_21 : decode cX2_methodIn 21 = .ok (.bipush 12, 2) := by decide +kernel
theorem dX2_methodIn_23 : decode cX2_methodIn 23 = .ok (.imul, 1) := by decide +kernel
theorem dX2_methodIn_24 : decode cX2_methodIn 24 = .ok (.iload_n 3, 1) := by decide +kernel
theorem dX2_methodIn_25 : decode cX2_methodIn 25 = .ok (.iadd, 1) := by decide +kernel
theorem dX2_methodIn_26 : decode cX2_methodIn 26 = .ok (.iaload, 1) := by decide +kernel
theorem dX2_methodIn_27 : decode cX2_methodIn 27 = .ok (.invokevirtual 135, 3) := by decide +kernel
theorem dX2_methodIn_30 : decode cX2_methodIn 30 = .ok (.iload_n 2, 1) := by decide +kernel
theorem dX2_methodIn_31 : decode cX2_methodIn 31 = .ok (.if_icmp .ne 10, 3) := by decide +kernel
theorem dX2_methodIn_34 : decode cX2_methodIn 34 = .ok (.iload_n 1, 1) := by decide +kernel
theorem dX2_methodIn_35 : decode cX2_methodIn 35 = .ok (.bipush 12, 2) := by decide +kernel
theorem dX2_methodIn_37 : decode cX2_methodIn 37 = .ok (.imul, 1) := by decide +kernel
theorem dX2_methodIn_38 : decode cX2_methodIn 38 = .ok (.iload_n 3, 1) := by decide +kernel
theorem dX2_methodIn_39 : decode cX2_methodIn 39 = .ok (.iadd, 1) := by decide +kernel
theorem dX2_methodIn_40 : decode cX2_methodIn 40 = .ok (.ireturn, 1) := by decide +kernel
theorem dX2_methodIn_41 : decode cX2_methodIn 41 = .ok (.iinc 3 1, 3) := by decide +kernel
theorem dX2_methodIn_44 : decode cX2_methodIn 44 = .ok (.goto (-42), 3) := by decide +kernel
theorem dX2_methodIn_47 : decode cX2_methodIn 47 = .ok (.iconst (-1), 1) := by decide +kernel
theorem dX2_methodIn_48 : decode cX2_methodIn 48 = .ok (.ireturn, 1) := by decide +kernel
theorem dX2_isOwn_0 : decode cX2_isOwn 0 = .ok (.iload_n 0, 1) := by decide +kernel
theorem dX2_isOwn_1 : decode cX2_isOwn 1 = .ok (.bipush 8, 2) := by decide +kernel
theorem dX2_isOwn_3 : decode cX2_isOwn 3 = .ok (.if_icmp .lt 13, 3) := by decide +kernel
theorem dX2_isOwn_6 : decode cX2_isOwn 6 = .ok (.iload_n 0, 1) := by decide +kernel
theorem dX2_isOwn_7 : decode cX2_isOwn 7 = .ok (.bipush 16, 2) := by decide +kernel
theorem dX2_isOwn_9 : decode cX2_isOwn 9 = .ok (.if_icmp .ge 7, 3) := by decide +kernel
theorem dX2_isOwn_12 : decode cX2_isOwn 12 = .ok (.iconst 1, 1) := by decide +kernel
theorem dX2_isOwn_13 : decode cX2_isOwn 13 = .ok (.goto 4, 3) := by decide +kernel
theorem dX2_isOwn_16 : decode cX2_isOwn 16 = .ok (.iconst 0, 1) := by decide +kernel
theorem dX2_isOwn_17 : decode cX2_isOwn 17 = .ok (.ireturn, 1) := by decide +kernel
theorem dX2_fieldOf_0 : decode cX2_fieldOf 0 = .ok (.iconst (-1), 1) := by decide +kernel
theorem dX2_fieldOf_1 : decode cX2_fieldOf 1 = .ok (.istore_n 3, 1) := by decide +kernel
theorem dX2_fieldOf_2 : decode cX2_fieldOf 2 = .ok (.iload_n 1, 1) := by decide +kernel
theorem dX2_fieldOf_3 : decode cX2_fieldOf 3 = .ok (.istore 4, 2) := by decide +kernel
theorem dX2_fieldOf_5 : decode cX2_fieldOf 5 = .ok (.iconst 0, 1) := by decide +kernel
theorem dX2_fieldOf_6 : decode cX2_fieldOf 6 = .ok (.istore 5, 2) := by decide +kernel
theorem dX2_fieldOf_8 : decode cX2_fieldOf 8 = .ok (.iload 5, 2) := by decide +kernel
theorem dX2_fieldOf_10 : decode cX2_fieldOf 10 = .ok (.bipush 16, 2) := by decide +kernel
theorem dX2_fieldOf_12 : decode cX2_fieldOf 12 = .ok (.if_icmp .ge 44, 3) := by decide +kernel
theorem dX2_fieldOf_15 : decode cX2_fieldOf 15 = .ok (.iload 4, 2) := by decide +kernel
theorem dX2_fieldOf_17 : decode cX2_fieldOf 17 = .ok (.invokestatic 224, 3) := by decide +kernel
theorem dX2_fieldOf_20 : decode cX2_fieldOf 20 = .ok (.ifCond .eq 36, 3) := by decide +kernel
theorem dX2_fieldOf_23 : decode cX2_fieldOf 23 = .ok (.iload_n 3, 1) := by decide +kernel
theorem dX2_fieldOf_24 : decode cX2_fieldOf 24 = .ok (.iconst (-1), 1) := by decide +kernel
theorem dX2_fieldOf_25 : decode cX2_fieldOf 25 = .ok (.if_icmp .ne 31, 3) := by decide +kernel
theorem dX2_fieldOf_28 : decode cX2_fieldOf 28 = .ok (.aload_n 0, 1) := by decide +kernel
theorem dX2_fieldOf_29 : decode cX2_fieldOf 29 = .ok (.iload 4, 2) := by decide +kernel
theorem dX2_fieldOf_31 : decode cX2_fieldOf 31 = .ok (.bipush 8, 2) := by decide +kernel
theorem dX2_fieldOf_33 : decode cX2_fieldOf 33 = .ok (.isub, 1) := by decide +kernel
theorem dX2_fieldOf_34 : decode cX2_fieldOf 34 = .ok (.iload_n 2, 1) := by decide +kernel
theorem dX2_fieldOf_35 : decode cX2_fieldOf 35 = .ok (.invokevirtual 203, 3) := by decide +kernel
theorem dX2_fieldOf_38 : decode cX2_fieldOf 38 = .ok (.istore_n 3, 1) := by decide +kernel
theorem dX2_fieldOf_39 : decode cX2_fieldOf 39 = .ok (.aload_n 0, 1) := by decide +kernel
theorem dX2_fieldOf_40 : decode cX2_fieldOf 40 = .ok (.getfield 14, 3) := by decide +kernel
theorem dX2_fieldOf_43 : decode cX2_fieldOf 43 = .ok (.iload 4, 2) := by decide +kernel
theorem dX2_fieldOf_45 : decode cX2_fieldOf 45 = .ok (.invokevirtual 215, 3) := by decide +kernel
theorem dX2_fieldOf_48 : decode cX2_fieldOf 48 = .ok (.istore 4, 2) := by decide +kernel
theorem dX2_fieldOf_50 : decode cX2_fieldOf 50 = .ok (.iinc 5 1, 3) := by decide +kernel
theorem dX2_fieldOf_53 : decode cX2_fieldOf 53 = .ok (.goto (-45), 3) := by decide +kernel
theorem dX2_fieldOf_56 : decode cX2_fieldOf 56 = .ok (.iload_n 3, 1) := by decide +kernel
theorem dX2_fieldOf_57 : decode cX2_fieldOf 57 = .ok (.ireturn, 1) := by decide +kernel
theorem dX2_methodOf_0 : decode cX2_methodOf 0 = .ok (.iconst (-1), 1) := by decide +kernel
theorem dX2_methodOf_1 : decode cX2_methodOf 1 = .ok (.istore_n 3, 1) := by decide +kernel
theorem dX2_methodOf_2 : decode cX2_methodOf 2 = .ok (.iload_n 1, 1) := by decide +kernel
theorem dX2_methodOf_3 : decode cX2_methodOf 3 = .ok (.istore 4, 2) := by decide +kernel
theorem dX2_methodOf_5 : decode cX2_methodOf 5 = .ok (.iconst 0, 1) := by decide +kernel
theorem dX2_methodOf_6 : decode cX2_methodOf 6 = .ok (.istore 5, 2) := by decide +kernel
theorem dX2_methodOf_8 : decode cX2_methodOf 8 = .ok (.iload 5, 2) := by decide +kernel
theorem dX2_methodOf_10 : decode cX2_methodOf 10 = .ok (.bipush 16, 2) := by decide +kernel
theorem dX2_methodOf_12 : decode cX2_methodOf 12 = .ok (.if_icmp .ge 44, 3) := by decide +kernel
theorem dX2_methodOf_15 : decode cX2_methodOf 15 = .ok (.iload 4, 2) := by decide +kernel
theorem dX2_methodOf_17 : decode cX2_methodOf 17 = .ok (.invokestatic 224, 3) := by decide +kernel
theorem dX2_methodOf_20 : decode cX2_methodOf 20 = .ok (.ifCond .eq 36, 3) := by decide +kernel
theorem dX2_methodOf_23 : decode cX2_methodOf 23 = .ok (.iload_n 3, 1) := by decide +kernel
theorem dX2_methodOf_24 : decode cX2_methodOf 24 = .ok (.iconst (-1), 1) := by decide +kernel
theorem dX2_methodOf_25 : decode cX2_methodOf 25 = .ok (.if_icmp .ne 31, 3) := by decide +kernel
theorem dX2_methodOf_28 : decode cX2_methodOf 28 = .ok (.aload_n 0, 1) := by decide +kernel
theorem dX2_methodOf_29 : decode cX2_methodOf 29 = .ok (.iload 4, 2) := by decide +kernel
theorem dX2_methodOf_31 : decode cX2_methodOf 31 = .ok (.bipush 8, 2) := by decide +kernel
theorem dX2_methodOf_33 : decode cX2_methodOf 33 = .ok (.isub, 1) := by decide +kernel
theorem dX2_methodOf_34 : decode cX2_methodOf 34 = .ok (.iload_n 2, 1) := by decide +kernel
theorem dX2_methodOf_35 : decode cX2_methodOf 35 = .ok (.invokevirtual 206, 3) := by decide +kernel
theorem dX2_methodOf_38 : decode cX2_methodOf 38 = .ok (.istore_n 3, 1) := by decide +kernel
theorem dX2_methodOf_39 : decode cX2_methodOf 39 = .ok (.aload_n 0, 1) := by decide +kernel
theorem dX2_methodOf_40 : decode cX2_methodOf 40 = .ok (.getfield 14, 3) := by decide +kernel
theorem dX2_methodOf_43 : decode cX2_methodOf 43 = .ok (.iload 4, 2) := by decide +kernel
theorem dX2_methodOf_45 : decode cX2_methodOf 45 = .ok (.invokevirtual 215, 3) := by decide +kernel
theorem dX2_methodOf_48 : decode cX2_methodOf 48 = .ok (.istore 4, 2) := by decide +kernel
theorem dX2_methodOf_50 : decode cX2_methodOf 50 = .ok (.iinc 5 1, 3) := by decide +kernel
theorem dX2_methodOf_53 : decode cX2_methodOf 53 = .ok (.goto (-45), 3) := by decide +kernel
theorem dX2_methodOf_56 : decode cX2_methodOf 56 = .ok (.iload_n 3, 1) := by decide +kernel
theorem dX2_methodOf_57 : decode cX2_methodOf 57 = .ok (.ireturn, 1) := by decide +kernel
theorem dX2_fieldsOf_0 : decode cX2_fieldsOf 0 = .ok (.bipush 8, 2) := by decide +kernel
theorem dX2_fieldsOf_2 : decode cX2_fieldsOf 2 = .ok (.iload_n 1, 1) := by decide +kernel
theorem dX2_fieldsOf_3 : decode cX2_fieldsOf 3 = .ok (.iadd, 1) := by decide +kernel
theorem dX2_fieldsOf_4 : decode cX2_fieldsOf 4 = .ok (.invokestatic 224, 3) := by decide +kernel
theorem dX2_fieldsOf_7 : decode cX2_fieldsOf 7 = .ok (.ifCond .eq 12, 3) := by decide +kernel
theorem dX2_fieldsOf_10 : decode cX2_fieldsOf 10 = .ok (.aload_n 0, 1) := by decide +kernel
theorem dX2_fieldsOf_11 : decode cX2_fieldsOf 11 = .ok (.getfield 27, 3) := by decide +kernel
theorem dX2_fieldsOf_14 : decode cX2_fieldsOf 14 = .ok (.iload_n 1, 1) := by decide +kernel
theorem dX2_fieldsOf_15 : decode cX2_fieldsOf 15 = .ok (.iaload, 1) := by decide +kernel
theorem dX2_fieldsOf_16 : decode cX2_fieldsOf 16 = .ok (.goto 4, 3) := by decide +kernel
theorem dX2_fieldsOf_19 : decode cX2_fieldsOf 19 = .ok (.iconst 0, 1) := by decide +kernel
theorem dX2_fieldsOf_20 : decode cX2_fieldsOf 20 = .ok (.ireturn, 1) := by decide +kernel
theorem dX2_methodsOf_0 : decode cX2_methodsOf 0 = .ok (.bipush 8, 2) := by decide +kernel
theorem dX2_methodsOf_2 : decode cX2_methodsOf 2 = .ok (.iload_n 1, 1) := by decide +kernel
theorem dX2_methodsOf_3 : decode cX2_methodsOf 3 = .ok (.iadd, 1) := by decide +kernel
theorem dX2_methodsOf_4 : decode cX2_methodsOf 4 = .ok (.invokestatic 224, 3) := by decide +kernel
theorem dX2_methodsOf_7 : decode cX2_methodsOf 7 = .ok (.ifCond .eq 12, 3) := by decide +kernel
theorem dX2_methodsOf_10 : decode cX2_methodsOf 10 = .ok (.aload_n 0, 1) := by decide +kernel
theorem dX2_methodsOf_11 : decode cX2_methodsOf 11 = .ok (.getfield 39, 3) := by decide +kernel
theorem dX2_methodsOf_14 : decode cX2_methodsOf 14 = .ok (.iload_n 1, 1) := by decide +kernel
theorem dX2_methodsOf_15 : decode cX2_methodsOf 15 = .ok (.iaload, 1) := by decide +kernel
theorem dX2_methodsOf_16 : decode cX2_methodsOf 16 = .ok (.goto 4, 3) := by decide +kernel
theorem dX2_methodsOf_19 : decode cX2_methodsOf 19 = .ok (.iconst 0, 1) := by decide +kernel
theorem dX2_methodsOf_20 : decode cX2_methodsOf 20 = .ok (.ireturn, 1) := by decide +kernel
theorem dX2_isMethod_0 : decode cX2_isMethod 0 = .ok (.iload_n 1, 1) := by decide +kernel
theorem dX2_isMethod_1 : decode cX2_isMethod 1 = .ok (.ifCond .lt 32, 3) := by decide +kernel
theorem dX2_isMethod_4 : decode cX2_isMethod 4 = .ok (.iload_n 1, 1) := by decide +kernel
theorem dX2_isMethod_5 : decode cX2_isMethod 5 = .ok (.aload_n 0, 1) := by decide +kernel
theorem dX2_isMethod_6 : decode cX2_isMethod 6 = .ok (.getfield 42, 3) := by decide +kernel
theorem dX2_isMethod_9 : decode cX2_isMethod 9 = .ok (.arraylength, 1) := by decide +kernel
theorem dX2_isMethod_10 : decode cX2_isMethod 10 = .ok (.if_icmp .ge 23, 3) := by decide +kernel
theorem dX2_isMethod_13 : decode cX2_isMethod 13 = .ok (.iload_n 1, 1) := by decide +kernel
theorem dX2_isMethod_14 : decode cX2_isMethod 14 = .ok (.bipush 12, 2) := by decide +kernel
theorem dX2_isMethod_16 : decode cX2_isMethod 16 = .ok (.irem, 1) := by decide +kernel
theorem dX2_isMethod_17 : decode cX2_isMethod 17 = .ok (.aload_n 0, 1) := by decide +kernel
theorem dX2_isMethod_18 : decode cX2_isMethod 18 = .ok (.getfield 39, 3) := by decide +kernel
theorem dX2_isMethod_21 : decode cX2_isMethod 21 = .ok (.iload_n 1, 1) := by decide +kernel
theorem dX2_isMethod_22 : decode cX2_isMethod 22 = .ok (.bipush 12, 2) := by decide +kernel
theorem dX2_isMethod_24 : decode cX2_isMethod 24 = .ok (.idiv, 1) := by decide +kernel
theorem dX2_isMethod_25 : decode cX2_isMethod 25 = .ok (.iaload, 1) := by decide +kernel
theorem dX2_isMethod_26 : decode cX2_isMethod 26 = .ok (.if_icmp .ge 7, 3) := by decide +kernel
theorem dX2_isMethod_29 : decode cX2_isMethod 29 = .ok (.iconst 1, 1) := by decide +kernel
theorem dX2_isMethod_30 : decode cX2_isMethod 30 = .ok (.goto 4, 3) := by decide +kernel
theorem dX2_isMethod_33 : decode cX2_isMethod 33 = .ok (.iconst 0, 1) := by decide +kernel
theorem dX2_isMethod_34 : decode cX2_isMethod 34 = .ok (.ireturn, 1) := by decide +kernel
theorem dX2_nameOfField_0 : decode cX2_nameOfField 0 = .ok (.iload_n 1, 1) := by decide +kernel
theorem dX2_nameOfField_1 : decode cX2_nameOfField 1 = .ok (.ifCond .lt 21, 3) := by decide +kernel
theorem dX2_nameOfField_4 : decode cX2_nameOfField 4 = .ok (.iload_n 1, 1) := by decide +kernel
theorem dX2_nameOfField_5 : decode cX2_nameOfField 5 = .ok (.aload_n 0, 1) := by decide +kernel
theorem dX2_nameOfField_6 : decode cX2_nameOfField 6 = .ok (.getfield 30, 3) := by decide +kernel
theorem dX2_nameOfField_9 : decode cX2_nameOfField 9 = .ok (.arraylength, 1) := by decide +kernel
theorem dX2_nameOfField_10 : decode cX2_nameOfField 10 = .ok (.if_icmp .ge 12, 3) := by decide +kernel
theorem dX2_nameOfField_13 : decode cX2_nameOfField 13 = .ok (.aload_n 0, 1) := by decide +kernel
theorem dX2_nameOfField_14 : decode cX2_nameOfField 14 = .ok (.getfield 30, 3) := by decide +kernel
theorem dX2_nameOfField_17 : decode cX2_nameOfField 17 = .ok (.iload_n 1, 1) := by decide +kernel
theorem dX2_nameOfField_18 : decode cX2_nameOfField 18 = .ok (.iaload, 1) := by decide +kernel
theorem dX2_nameOfField_19 : decode cX2_nameOfField 19 = .ok (.goto 4, 3) := by decide +kernel
theorem dX2_nameOfField_22 : decode cX2_nameOfField 22 = .ok (.iconst (-1), 1) := by decide +kernel
theorem dX2_nameOfField_23 : decode cX2_nameOfField 23 = .ok (.ireturn, 1) := by decide +kernel
theorem dX2_kindOfField_0 : decode cX2_kindOfField 0 = .ok (.iload_n 1, 1) := by decide +kernel
theorem dX2_kindOfField_1 : decode cX2_kindOfField 1 = .ok (.ifCond .lt 21, 3) := by decide +kernel
theorem dX2_kindOfField_4 : decode cX2_kindOfField 4 = .ok (.iload_n 1, 1) := by decide +kernel
theorem dX2_kindOfField_5 : decode cX2_kindOfField 5 = .ok (.aload_n 0, 1) := by decide +kernel
theorem dX2_kindOfField_6 : decode cX2_kindOfField 6 = .ok (.getfield 36, 3) := by decide +kernel
theorem dX2_kindOfField_9 : decode cX2_kindOfField 9 = .ok (.arraylength, 1) := by decide +kernel
theorem dX2_kindOfField_10 : decode cX2_kindOfField 10 = .ok (.if_icmp .ge 12, 3) := by decide +kernel
theorem dX2_kindOfField_13 : decode cX2_kindOfField 13 = .ok (.aload_n 0, 1) := by decide +kernel
theorem dX2_kindOfField_14 : decode cX2_kindOfField 14 = .ok (.getfield 36, 3) := by decide +kernel
theorem dX2_kindOfField_17 : decode cX2_kindOfField 17 = .ok (.iload_n 1, 1) := by decide +kernel
theorem dX2_kindOfField_18 : decode cX2_kindOfField 18 = .ok (.iaload, 1) := by decide +kernel
theorem dX2_kindOfField_19 : decode cX2_kindOfField 19 = .ok (.goto 4, 3) := by decide +kernel
theorem dX2_kindOfField_22 : decode cX2_kindOfField 22 = .ok (.iconst (-1), 1) := by decide +kernel
theorem dX2_kindOfField_23 : decode cX2_kindOfField 23 = .ok (.ireturn, 1) := by decide +kernel
theorem dX2_kindOfMethod_0 : decode cX2_kindOfMethod 0 = .ok (.iload_n 1, 1) := by decide +kernel
theorem dX2_kindOfMethod_1 : decode cX2_kindOfMethod 1 = .ok (.ifCond .lt 21, 3) := by decide +kernel
theorem dX2_kindOfMethod_4 : decode cX2_kindOfMethod 4 = .ok (.iload_n 1, 1) := by decide +kernel
theorem dX2_kindOfMethod_5 : decode cX2_kindOfMethod 5 = .ok (.aload_n 0, 1) := by decide +kernel
theorem dX2_kindOfMethod_6 : decode cX2_kindOfMethod 6 = .ok (.getfield 55, 3) := by decide +kernel
theorem dX2_kindOfMethod_9 : decode cX2_kindOfMethod 9 = .ok (.arraylength, 1) := by decide +kernel
theorem dX2_kindOfMethod_10 : decode cX2_kindOfMethod 10 = .ok (.if_icmp .ge 12, 3) := by decide +kernel
theorem dX2_kindOfMethod_13 : decode cX2_kindOfMethod 13 = .ok (.aload_n 0, 1) := by decide +kernel
theorem dX2_kindOfMethod_14 : decode cX2_kindOfMethod 14 = .ok (.getfield 55, 3) := by decide +kernel
theorem dX2_kindOfMethod_17 : decode cX2_kindOfMethod 17 = .ok (.iload_n 1, 1) := by decide +kernel
theorem dX2_kindOfMethod_18 : decode cX2_kindOfMethod 18 = .ok (.iaload, 1) := by decide +kernel
theorem dX2_kindOfMethod_19 : decode cX2_kindOfMethod 19 = .ok (.goto 4, 3) := by decide +kernel
theorem dX2_kindOfMethod_22 : decode cX2_kindOfMethod 22 = .ok (.iconst (-1), 1) := by decide +kernel
theorem dX2_kindOfMethod_23 : decode cX2_kindOfMethod 23 = .ok (.ireturn, 1) := by decide +kernel
theorem dX2_typeOfField_0 : decode cX2_typeOfField 0 = .ok (.iload_n 1, 1) := by decide +kernel
theorem dX2_typeOfField_1 : decode cX2_typeOfField 1 = .ok (.ifCond .lt 21, 3) := by decide +kernel
theorem dX2_typeOfField_4 : decode cX2_typeOfField 4 = .ok (.iload_n 1, 1) := by decide +kernel
theorem dX2_typeOfField_5 : decode cX2_typeOfField 5 = .ok (.aload_n 0, 1) := by decide +kernel
theorem dX2_typeOfField_6 : decode cX2_typeOfField 6 = .ok (.getfield 33, 3) := by decide +kernel
theorem dX2_typeOfField_9 : decode cX2_typeOfField 9 = .ok (.arraylength, 1) := by decide +kernel
theorem dX2_typeOfField_10 : decode cX2_typeOfField 10 = .ok (.if_icmp .ge 12, 3) := by decide +kernel
theorem dX2_typeOfField_13 : decode cX2_typeOfField 13 = .ok (.aload_n 0, 1) := by decide +kernel
theorem dX2_typeOfField_14 : decode cX2_typeOfField 14 = .ok (.getfield 33, 3) := by decide +kernel
theorem dX2_typeOfField_17 : decode cX2_typeOfField 17 = .ok (.iload_n 1, 1) := by decide +kernel
theorem dX2_typeOfField_18 : decode cX2_typeOfField 18 = .ok (.iaload, 1) := by decide +kernel
theorem dX2_typeOfField_19 : decode cX2_typeOfField 19 = .ok (.goto 6, 3) := by decide +kernel
theorem dX2_typeOfField_22 : decode cX2_typeOfField 22 = .ok (.sipush 305, 3) := by decide +kernel
theorem dX2_typeOfField_25 : decode cX2_typeOfField 25 = .ok (.ireturn, 1) := by decide +kernel
theorem dX2_nameOfMethod_0 : decode cX2_nameOfMethod 0 = .ok (.aload_n 0, 1) := by decide +kernel
theorem dX2_nameOfMethod_1 : decode cX2_nameOfMethod 1 = .ok (.iload_n 1, 1) := by decide +kernel
theorem dX2_nameOfMethod_2 : decode cX2_nameOfMethod 2 = .ok (.invokevirtual 128, 3) := by decide +kernel
theorem dX2_nameOfMethod_5 : decode cX2_nameOfMethod 5 = .ok (.ifCond .eq 19, 3) := by decide +kernel
theorem dX2_nameOfMethod_8 : decode cX2_nameOfMethod 8 = .ok (.aload_n 0, 1) := by decide +kernel
theorem dX2_nameOfMethod_9 : decode cX2_nameOfMethod 9 = .ok (.getfield 74, 3) := by decide +kernel
theorem dX2_nameOfMethod_12 : decode cX2_nameOfMethod 12 = .ok (.aload_n 0, 1) := by decide +kernel
theorem dX2_nameOfMethod_13 : decode cX2_nameOfMethod 13 = .ok (.getfield 42, 3) := by decide +kernel
theorem dX2_nameOfMethod_16 : decode cX2_nameOfMethod 16 = .ok (.iload_n 1, 1) := by decide +kernel
theorem dX2_nameOfMethod_17 : decode cX2_nameOfMethod 17 = .ok (.iaload, 1) := by decide +kernel
theorem dX2_nameOfMethod_18 : decode cX2_nameOfMethod 18 = .ok (.invokevirtual 135, 3) := by decide +kernel
theorem dX2_nameOfMethod_21 : decode cX2_nameOfMethod 21 = .ok (.goto 4, 3) := by decide +kernel
theorem dX2_nameOfMethod_24 : decode cX2_nameOfMethod 24 = .ok (.iconst (-1), 1) := by decide +kernel
theorem dX2_nameOfMethod_25 : decode cX2_nameOfMethod 25 = .ok (.ireturn, 1) := by decide +kernel
theorem dX2_tokenOfMethod_0 : decode cX2_tokenOfMethod 0 = .ok (.aload_n 0, 1) := by decide +kernel
theorem dX2_tokenOfMethod_1 : decode cX2_tokenOfMethod 1 = .ok (.iload_n 1, 1) := by decide +kernel
theorem dX2_tokenOfMethod_2 : decode cX2_tokenOfMethod 2 = .ok (.invokevirtual 128, 3) := by decide +kernel
theorem dX2_tokenOfMethod_5 : decode cX2_tokenOfMethod 5 = .ok (.ifCond .eq 12, 3) := by decide +kernel
theorem dX2_tokenOfMethod_8 : decode cX2_tokenOfMethod 8 = .ok (.aload_n 0, 1) := by decide +kernel
theorem dX2_tokenOfMethod_9 : decode cX2_tokenOfMethod 9 = .ok (.getfield 42, 3) := by decide +kernel
theorem dX2_tokenOfMethod_12 : decode cX2_tokenOfMethod 12 = .ok (.iload_n 1, 1) := by decide +kernel
theorem dX2_tokenOfMethod_13 : decode cX2_tokenOfMethod 13 = .ok (.iaload, 1) := by decide +kernel
theorem dX2_tokenOfMethod_14 : decode cX2_tokenOfMethod 14 = .ok (.goto 4, 3) := by decide +kernel
theorem dX2_tokenOfMethod_17 : decode cX2_tokenOfMethod 17 = .ok (.iconst (-1), 1) := by decide +kernel
theorem dX2_tokenOfMethod_18 : decode cX2_tokenOfMethod 18 = .ok (.ireturn, 1) := by decide +kernel
theorem dX2_bodyOf_0 : decode cX2_bodyOf 0 = .ok (.aload_n 0, 1) := by decide +kernel
theorem dX2_bodyOf_1 : decode cX2_bodyOf 1 = .ok (.iload_n 1, 1) := by decide +kernel
theorem dX2_bodyOf_2 : decode cX2_bodyOf 2 = .ok (.invokevirtual 128, 3) := by decide +kernel
theorem dX2_bodyOf_5 : decode cX2_bodyOf 5 = .ok (.ifCond .eq 12, 3) := by decide +kernel
theorem dX2_bodyOf_8 : decode cX2_bodyOf 8 = .ok (.aload_n 0, 1) := by decide +kernel
theorem dX2_bodyOf_9 : decode cX2_bodyOf 9 = .ok (.getfield 45, 3) := by decide +kernel
theorem dX2_bodyOf_12 : decode cX2_bodyOf 12 = .ok (.iload_n 1, 1) := by decide +kernel
theorem dX2_bodyOf_13 : decode cX2_bodyOf 13 = .ok (.iaload, 1) := by decide +kernel
theorem dX2_bodyOf_14 : decode cX2_bodyOf 14 = .ok (.goto 4, 3) := by decide +kernel
theorem dX2_bodyOf_17 : decode cX2_bodyOf 17 = .ok (.iconst (-1), 1) := by decide +kernel
theorem dX2_bodyOf_18 : decode cX2_bodyOf 18 = .ok (.ireturn, 1) := by decide +kernel
theorem dX2_resultOf_0 : decode cX2_resultOf 0 = .ok (.aload_n 0, 1) := by decide +kernel
theorem dX2_resultOf_1 : decode cX2_resultOf 1 = .ok (.iload_n 1, 1) := by decide +kernel
theorem dX2_resultOf_2 : decode cX2_resultOf 2 = .ok (.invokevirtual 128, 3) := by decide +kernel
theorem dX2_resultOf_5 : decode cX2_resultOf 5 = .ok (.ifCond .eq 12, 3) := by decide +kernel
theorem dX2_resultOf_8 : decode cX2_resultOf 8 = .ok (.aload_n 0, 1) := by decide +kernel
theorem dX2_resultOf_9 : decode cX2_resultOf 9 = .ok (.getfield 48, 3) := by decide +kernel
theorem dX2_resultOf_12 : decode cX2_resultOf 12 = .ok (.iload_n 1, 1) := by decide +kernel
theorem dX2_resultOf_13 : decode cX2_resultOf 13 = .ok (.iaload, 1) := by decide +kernel
theorem dX2_resultOf_14 : decode cX2_resultOf 14 = .ok (.goto 6, 3) := by decide +kernel
theorem dX2_resultOf_17 : decode cX2_resultOf 17 = .ok (.sipush 305, 3) := by decide +kernel
theorem dX2_resultOf_20 : decode cX2_resultOf 20 = .ok (.ireturn, 1) := by decide +kernel
theorem dX2_isFixed_0 : decode cX2_isFixed 0 = .ok (.aload_n 0, 1) := by decide +kernel
theorem dX2_isFixed_1 : decode cX2_isFixed 1 = .ok (.iload_n 1, 1) := by decide +kernel
theorem dX2_isFixed_2 : decode cX2_isFixed 2 = .ok (.invokevirtual 128, 3) := by decide +kernel
theorem dX2_isFixed_5 : decode cX2_isFixed 5 = .ok (.ifCond .eq 16, 3) := by decide +kernel
theorem dX2_isFixed_8 : decode cX2_isFixed 8 = .ok (.aload_n 0, 1) := by decide +kernel
theorem dX2_isFixed_9 : decode cX2_isFixed 9 = .ok (.getfield 51, 3) := by decide +kernel
theorem dX2_isFixed_12 : decode cX2_isFixed 12 = .ok (.iload_n 1, 1) := by decide +kernel
theorem dX2_isFixed_13 : decode cX2_isFixed 13 = .ok (.baload, 1) := by decide +kernel
theorem dX2_isFixed_14 : decode cX2_isFixed 14 = .ok (.ifCond .eq 7, 3) := by decide +kernel
theorem dX2_isFixed_17 : decode cX2_isFixed 17 = .ok (.iconst 1, 1) := by decide +kernel
theorem dX2_isFixed_18 : decode cX2_isFixed 18 = .ok (.goto 4, 3) := by decide +kernel
theorem dX2_isFixed_21 : decode cX2_isFixed 21 = .ok (.iconst 0, 1) := by decide +kernel
theorem dX2_isFixed_22 : decode cX2_isFixed 22 = .ok (.ireturn, 1) := by decide +kernel
theorem dX2_parametersOf_0 : decode cX2_parametersOf 0 = .ok (.aload_n 0, 1) := by decide +kernel
theorem dX2_parametersOf_1 : decode cX2_parametersOf 1 = .ok (.iload_n 1, 1) := by decide +kernel
theorem dX2_parametersOf_2 : decode cX2_parametersOf 2 = .ok (.invokevirtual 128, 3) := by decide +kernel
theorem dX2_parametersOf_5 : decode cX2_parametersOf 5 = .ok (.ifCond .eq 12, 3) := by decide +kernel
theorem dX2_parametersOf_8 : decode cX2_parametersOf 8 = .ok (.aload_n 0, 1) := by decide +kernel
theorem dX2_parametersOf_9 : decode cX2_parametersOf 9 = .ok (.getfield 58, 3) := by decide +kernel
theorem dX2_parametersOf_12 : decode cX2_parametersOf 12 = .ok (.iload_n 1, 1) := by decide +kernel
theorem dX2_parametersOf_13 : decode cX2_parametersOf 13 = .ok (.iaload, 1) := by decide +kernel
theorem dX2_parametersOf_14 : decode cX2_parametersOf 14 = .ok (.goto 4, 3) := by decide +kernel
theorem dX2_parametersOf_17 : decode cX2_parametersOf 17 = .ok (.iconst 0, 1) := by decide +kernel
theorem dX2_parametersOf_18 : decode cX2_parametersOf 18 = .ok (.ireturn, 1) := by decide +kernel
theorem dX2_parameterType_0 : decode cX2_parameterType 0 = .ok (.iload_n 2, 1) := by decide +kernel
theorem dX2_parameterType_1 : decode cX2_parameterType 1 = .ok (.ifCond .lt 26, 3) := by decide +kernel
theorem dX2_parameterType_4 : decode cX2_parameterType 4 = .ok (.iload_n 2, 1) := by decide +kernel
theorem dX2_parameterType_5 : decode cX2_parameterType 5 = .ok (.aload_n 0, 1) := by decide +kernel
theorem dX2_parameterType_6 : decode cX2_parameterType 6 = .ok (.iload_n 1, 1) := by decide +kernel
theorem dX2_parameterType_7 : decode cX2_parameterType 7 = .ok (.invokevirtual 227, 3) := by decide +kernel
theorem dX2_parameterType_10 : decode cX2_parameterType 10 = .ok (.if_icmp .ge 17, 3) := by decide +kernel
theorem dX2_parameterType_13 : decode cX2_parameterType 13 = .ok (.aload_n 0, 1) := by decide +kernel
theorem dX2_parameterType_14 : decode cX2_parameterType 14 = .ok (.getfield 64, 3) := by decide +kernel
theorem dX2_parameterType_17 : decode cX2_parameterType 17 = .ok (.iload_n 1, 1) := by decide +kernel
theorem dX2_parameterType_18 : decode cX2_parameterType 18 = .ok (.bipush 6, 2) := by decide +kernel
theorem dX2_parameterType_20 : decode cX2_parameterType 20 = .ok (.imul, 1) := by decide +kernel
theorem dX2_parameterType_21 : decode cX2_parameterType 21 = .ok (.iload_n 2, 1) := by decide +kernel
theorem dX2_parameterType_22 : decode cX2_parameterType 22 = .ok (.iadd, 1) := by decide +kernel
theorem dX2_parameterType_23 : decode cX2_parameterType 23 = .ok (.iaload, 1) := by decide +kernel
theorem dX2_parameterType_24 : decode cX2_parameterType 24 = .ok (.goto 6, 3) := by decide +kernel
theorem dX2_parameterType_27 : decode cX2_parameterType 27 = .ok (.sipush 305, 3) := by decide +kernel
theorem dX2_parameterType_30 : decode cX2_parameterType 30 = .ok (.ireturn, 1) := by decide +kernel
theorem dX2_parameterName_0 : decode cX2_parameterName 0 = .ok (.iload_n 2, 1) := by decide +kernel
theorem dX2_parameterName_1 : decode cX2_parameterName 1 = .ok (.ifCond .lt 26, 3) := by decide +kernel
theorem dX2_parameterName_4 : decode cX2_parameterName 4 = .ok (.iload_n 2, 1) := by decide +kernel
theorem dX2_parameterName_5 : decode cX2_parameterName 5 = .ok (.aload_n 0, 1) := by decide +kernel
theorem dX2_parameterName_6 : decode cX2_parameterName 6 = .ok (.iload_n 1, 1) := by decide +kernel
theorem dX2_parameterName_7 : decode cX2_parameterName 7 = .ok (.invokevirtual 227, 3) := by decide +kernel
theorem dX2_parameterName_10 : decode cX2_parameterName 10 = .ok (.if_icmp .ge 17, 3) := by decide +kernel
theorem dX2_parameterName_13 : decode cX2_parameterName 13 = .ok (.aload_n 0, 1) := by decide +kernel
theorem dX2_parameterName_14 : decode cX2_parameterName 14 = .ok (.getfield 61, 3) := by decide +kernel
theorem dX2_parameterName_17 : decode cX2_parameterName 17 = .ok (.iload_n 1, 1) := by decide +kernel
theorem dX2_parameterName_18 : decode cX2_parameterName 18 = .ok (.bipush 6, 2) := by decide +kernel
theorem dX2_parameterName_20 : decode cX2_parameterName 20 = .ok (.imul, 1) := by decide +kernel
theorem dX2_parameterName_21 : decode cX2_parameterName 21 = .ok (.iload_n 2, 1) := by decide +kernel
theorem dX2_parameterName_22 : decode cX2_parameterName 22 = .ok (.iadd, 1) := by decide +kernel
theorem dX2_parameterName_23 : decode cX2_parameterName 23 = .ok (.iaload, 1) := by decide +kernel
theorem dX2_parameterName_24 : decode cX2_parameterName 24 = .ok (.goto 4, 3) := by decide +kernel
theorem dX2_parameterName_27 : decode cX2_parameterName 27 = .ok (.iconst (-1), 1) := by decide +kernel
theorem dX2_parameterName_28 : decode cX2_parameterName 28 = .ok (.ireturn, 1) := by decide +kernel
theorem dX6_beginClass_0 : decode cX6_beginClass 0 = .ok (.aload_n 0, 1) := by decide +kernel
theorem dX6_beginClass_1 : decode cX6_beginClass 1 = .ok (.iconst 0, 1) := by decide +kernel
theorem dX6_beginClass_2 : decode cX6_beginClass 2 = .ok (.putfield 28, 3) := by decide +kernel
theorem dX6_beginClass_5 : decode cX6_beginClass 5 = .ok (.aload_n 0, 1) := by decide +kernel
theorem dX6_beginClass_6 : decode cX6_beginClass 6 = .ok (.iconst 0, 1) := by decide +kernel
theorem dX6_beginClass_7 : decode cX6_beginClass 7 = .ok (.putfield 32, 3) := by decide +kernel
theorem dX6_beginClass_10 : decode cX6_beginClass 10 = .ok (.aload_n 0, 1) := by decide +kernel
theorem dX6_beginClass_11 : decode cX6_beginClass 11 = .ok (.iconst 0, 1) := by decide +kernel
theorem dX6_beginClass_12 : decode cX6_beginClass 12 = .ok (.putfield 36, 3) := by decide +kernel
theorem dX6_beginClass_15 : decode cX6_beginClass 15 = .ok (.bipush 8, 2) := by decide +kernel
theorem dX6_beginClass_17 : decode cX6_beginClass 17 = .ok (.iload_n 1, 1) := by decide +kernel
theorem dX6_beginClass_18 : decode cX6_beginClass 18 = .ok (.iadd, 1) := by decide +kernel
theorem dX6_beginClass_19 : decode cX6_beginClass 19 = .ok (.istore_n 2, 1) := by decide +kernel
theorem dX6_beginClass_20 : decode cX6_beginClass 20 = .ok (.aload_n 0, 1) := by decide +kernel
theorem dX6_beginClass_21 : decode cX6_beginClass 21 = .ok (.aload_n 0, 1) := by decide +kernel
theorem dX6_beginClass_22 : decode cX6_beginClass 22 = .ok (.iload_n 2, 1) := by decide +kernel
theorem dX6_beginClass_23 : decode cX6_beginClass 23 = .ok (.invokevirtual 41, 3) := by decide +kernel
theorem dX6_beginClass_26 : decode cX6_beginClass 26 = .ok (.invokevirtual 45, 3) := by decide +kernel
theorem dX6_beginClass_29 : decode cX6_beginClass 29 = .ok (.aload_n 0, 1) := by decide +kernel
theorem dX6_beginClass_30 : decode cX6_beginClass 30 = .ok (.aload_n 0, 1) := by decide +kernel
theorem dX6_beginClass_31 : decode cX6_beginClass 31 = .ok (.aload_n 0, 1) := by decide +kernel
theorem dX6_beginClass_32 : decode cX6_beginClass 32 = .ok (.getfield 24, 3) := by decide +kernel
theorem dX6_beginClass_35 : decode cX6_beginClass 35 = .ok (.getfield 49, 3) := by decide +kernel
theorem dX6_beginClass_38 : decode cX6_beginClass 38 = .ok (.iload_n 2, 1) := by decide +kernel
theorem dX6_beginClass_39 : decode cX6_beginClass 39 = .ok (.invokevirtual 55, 3) := by decide +kernel
theorem dX6_beginClass_42 : decode cX6_beginClass 42 = .ok (.invokevirtual 41, 3) := by decide +kernel
theorem dX6_beginClass_45 : decode cX6_beginClass 45 = .ok (.invokevirtual 45, 3) := by decide +kernel
theorem dX6_beginClass_48 : decode cX6_beginClass 48 = .ok (.aload_n 0, 1) := by decide +kernel
theorem dX6_beginClass_49 : decode cX6_beginClass 49 = .ok (.aload_n 0, 1) := by decide +kernel
theorem dX6_beginClass_50 : decode cX6_beginClass 50 = .ok (.getfield 24, 3) := by decide +kernel
theorem dX6_beginClass_53 : decode cX6_beginClass 53 = .ok (.iload_n 1, 1) := by decide +kernel
theorem dX6_beginClass_54 : decode cX6_beginClass 54 = .ok (.invokevirtual 58, 3) := by decide +kernel
theorem dX6_beginClass_57 : decode cX6_beginClass 57 = .ok (.invokevirtual 45, 3) := by decide +kernel
theorem dX6_beginClass_60 : decode cX6_beginClass 60 = .ok (.iconst 0, 1) := by decide +kernel
theorem dX6_beginClass_61 : decode cX6_beginClass 61 = .ok (.istore_n 3, 1) := by decide +kernel
theorem dX6_beginClass_62 : decode cX6_beginClass 62 = .ok (.iload_n 3, 1) := by decide +kernel
theorem dX6_beginClass_63 : decode cX6_beginClass 63 = .ok (.aload_n 0, 1) := by decide +kernel
theorem dX6_beginClass_64 : decode cX6_beginClass 64 = .ok (.getfield 24, 3) := by decide +kernel
theorem dX6_beginClass_67 : decode cX6_beginClass 67 = .ok (.iload_n 1, 1) := by decide +kernel
theorem dX6_beginClass_68 : decode cX6_beginClass 68 = .ok (.invokevirtual 58, 3) := by decide +kernel
theorem dX6_beginClass_71 : decode cX6_beginClass 71 = .ok (.if_icmp .ge 53, 3) := by decide +kernel
theorem dX6_beginClass_74 : decode cX6_beginClass 74 = .ok (.iload_n 1, 1) := by decide +kernel
theorem dX6_beginClass_75 : decode cX6_beginClass 75 = .ok (.bipush 12, 2) := by decide +kernel
theorem dX6_beginClass_77 : decode cX6_beginClass 77 = .ok (.imul, 1) := by decide +kernel
theorem dX6_beginClass_78 : decode cX6_beginClass 78 = .ok (.iload_n 3, 1) := by decide +kernel
theorem dX6_beginClass_79 : decode cX6_beginClass 79 = .ok (.iadd, 1) := by decide +kernel
theorem dX6_beginClass_80 : decode cX6_beginClass 80 = .ok (.istore 4, 2) := by decide +kernel
theorem dX6_beginClass_82 : decode cX6_beginClass 82 = .ok (.aload_n 0, 1) := by decide +kernel
theorem dX6_beginClass_83 : decode cX6_beginClass 83 = .ok (.aload_n 0, 1) := by decide +kernel
theorem dX6_beginClass_84 : decode cX6_beginClass 84 = .ok (.iconst 1, 1) := by decide +kernel
theorem dX6_beginClass_85 : decode cX6_beginClass 85 = .ok (.aload_n 0, 1) := by decide +kernel
theorem dX6_beginClass_86 : decode cX6_beginClass 86 = .ok (.getfield 24, 3) := by decide +kernel
theorem dX6_beginClass_89 : decode cX6_beginClass 89 = .ok (.iload 4, 2) := by decide +kernel
theorem dX6_beginClass_91 : decode cX6_beginClass 91 = .ok (.invokevirtual 63, 3) := by decide +kernel
theorem dX6_beginClass_94 : decode cX6_beginClass 94 = .ok (.invokevirtual 66, 3) := by decide +kernel
theorem dX6_beginClass_97 : decode cX6_beginClass 97 = .ok (.invokevirtual 45, 3) := by decide +kernel
theorem dX6_beginClass_100 : decode cX6_beginClass 100 = .ok (.aload_n 0, 1) := by decide +kernel
theorem dX6_beginClass_101 : decode cX6_beginClass 101 = .ok (.aload_n 0, 1) := by decide +kernel
theorem dX6_beginClass_102 : decode cX6_beginClass 102 = .ok (.iconst 1, 1) := by decide +kernel
theorem dX6_beginClass_103 : decode cX6_beginClass 103 = .ok (.aload_n 0, 1) := by decide +kernel
theorem dX6_beginClass_104 : decode cX6_beginClass 104 = .ok (.getfield 24, 3) := by decide +kernel
theorem dX6_beginClass_107 : decode cX6_beginClass 107 = .ok (.iload 4, 2) := by decide +kernel
theorem dX6_beginClass_109 : decode cX6_beginClass 109 = .ok (.invokevirtual 70, 3) := by decide +kernel
theorem dX6_beginClass_112 : decode cX6_beginClass 112 = .ok (.invokevirtual 66, 3) := by decide +kernel
theorem dX6_beginClass_115 : decode cX6_beginClass 115 = .ok (.invokevirtual 45, 3) := by decide +kernel
theorem dX6_beginClass_118 : decode cX6_beginClass 118 = .ok (.iinc 3 1, 3) := by decide +kernel
theorem dX6_beginClass_121 : decode cX6_beginClass 121 = .ok (.goto (-59), 3) := by decide +kernel
theorem dX6_beginClass_124 : decode cX6_beginClass 124 = .ok (.aload_n 0, 1) := by decide +kernel
theorem dX6_beginClass_125 : decode cX6_beginClass 125 = .ok (.aload_n 0, 1) := by decide +kernel
theorem dX6_beginClass_126 : decode cX6_beginClass 126 = .ok (.getfield 24, 3) := by decide +kernel
theorem dX6_beginClass_129 : decode cX6_beginClass 129 = .ok (.iload_n 1, 1) := by decide +kernel
theorem dX6_beginClass_130 : decode cX6_beginClass 130 = .ok (.invokevirtual 73, 3) := by decide +kernel
theorem dX6_beginClass_133 : decode cX6_beginClass 133 = .ok (.invokevirtual 45, 3) := by decide +kernel
theorem dX6_beginClass_136 : decode cX6_beginClass 136 = .ok (.return_, 1) := by decide +kernel
theorem dX6_beginMethod_0 : decode cX6_beginMethod 0 = .ok (.aload_n 0, 1) := by decide +kernel
theorem dX6_beginMethod_1 : decode cX6_beginMethod 1 = .ok (.aload_n 0, 1) := by decide +kernel
theorem dX6_beginMethod_2 : decode cX6_beginMethod 2 = .ok (.getfield 24, 3) := by decide +kernel
theorem dX6_beginMethod_5 : decode cX6_beginMethod 5 = .ok (.iload_n 1, 1) := by decide +kernel
theorem dX6_beginMethod_6 : decode cX6_beginMethod 6 = .ok (.invokevirtual 76, 3) := by decide +kernel
theorem dX6_beginMethod_9 : decode cX6_beginMethod 9 = .ok (.ifCond .eq 7, 3) := by decide +kernel
theorem dX6_beginMethod_12 : decode cX6_beginMethod 12 = .ok (.iconst 1, 1) := by decide +kernel
theorem dX6_beginMethod_13 : decode cX6_beginMethod 13 = .ok (.goto 4, 3) := by decide +kernel
theorem dX6_beginMethod_16 : decode cX6_beginMethod 16 = .ok (.iconst 0, 1) := by decide +kernel
theorem dX6_beginMethod_17 : decode cX6_beginMethod 17 = .ok (.invokevirtual 45, 3) := by decide +kernel
theorem dX6_beginMethod_20 : decode cX6_beginMethod 20 = .ok (.aload_n 0, 1) := by decide +kernel
theorem dX6_beginMethod_21 : decode cX6_beginMethod 21 = .ok (.aload_n 0, 1) := by decide +kernel
theorem dX6_beginMethod_22 : decode cX6_beginMethod 22 = .ok (.iconst 1, 1) := by decide +kernel
theorem dX6_beginMethod_23 : decode cX6_beginMethod 23 = .ok (.aload_n 0, 1) := by decide +kernel
theorem dX6_beginMethod_24 : decode cX6_beginMethod 24 = .ok (.getfield 24, 3) := by decide +kernel
theorem dX6_beginMethod_27 : decode cX6_beginMethod 27 = .ok (.iload_n 1, 1) := by decide +kernel
theorem dX6_beginMethod_28 : decode cX6_beginMethod 28 = .ok (.invokevirtual 80, 3) := by decide +kernel
theorem dX6_beginMethod_31 : decode cX6_beginMethod 31 = .ok (.invokevirtual 66, 3) := by decide +kernel
theorem dX6_beginMethod_34 : decode cX6_beginMethod 34 = .ok (.invokevirtual 45, 3) := by decide +kernel
theorem dX6_beginMethod_37 : decode cX6_beginMethod 37 = .ok (.aload_n 0, 1) := by decide +kernel
theorem dX6_beginMethod_38 : decode cX6_beginMethod 38 = .ok (.aload_n 0, 1) := by decide +kernel
theorem dX6_beginMethod_39 : decode cX6_beginMethod 39 = .ok (.iconst 1, 1) := by decide +kernel
theorem dX6_beginMethod_40 : decode cX6_beginMethod 40 = .ok (.aload_n 0, 1) := by decide +kernel
theorem dX6_beginMethod_41 : decode cX6_beginMethod 41 = .ok (.getfield 24, 3) := by decide +kernel
theorem dX6_beginMethod_44 : decode cX6_beginMethod 44 = .ok (.iload_n 1, 1) := by decide +kernel
theorem dX6_beginMethod_45 : decode cX6_beginMethod 45 = .ok (.invokevirtual 83, 3) := by decide +kernel
theorem dX6_beginMethod_48 : decode cX6_beginMethod 48 = .ok (.invokevirtual 66, 3) := by decide +kernel
theorem dX6_beginMethod_51 : decode cX6_beginMethod 51 = .ok (.invokevirtual 45, 3) := by decide +kernel
theorem dX6_beginMethod_54 : decode cX6_beginMethod 54 = .ok (.return_, 1) := by decide +kernel
theorem dX6_put_0 : decode cX6_put 0 = .ok (.aload_n 0, 1) := by decide +kernel
theorem dX6_put_1 : decode cX6_put 1 = .ok (.getfield 36, 3) := by decide +kernel
theorem dX6_put_4 : decode cX6_put 4 = .ok (.aload_n 0, 1) := by decide +kernel
theorem dX6_put_5 : decode cX6_put 5 = .ok (.getfield 16, 3) := by decide +kernel
theorem dX6_put_8 : decode cX6_put 8 = .ok (.arraylength, 1) := by decide +kernel
theorem dX6_put_9 : decode cX6_put 9 = .ok (.if_icmp .ge 14, 3) := by decide +kernel
theorem dX6_put_12 : decode cX6_put 12 = .ok (.aload_n 0, 1) := by decide +kernel
theorem dX6_put_13 : decode cX6_put 13 = .ok (.getfield 16, 3) := by decide +kernel
theorem dX6_put_16 : decode cX6_put 16 = .ok (.aload_n 0, 1) := by decide +kernel
theorem dX6_put_17 : decode cX6_put 17 = .ok (.getfield 36, 3) := by decide +kernel
theorem dX6_put_20 : decode cX6_put 20 = .ok (.iload_n 1, 1) := by decide +kernel
theorem dX6_put_21 : decode cX6_put 21 = .ok (.i2b, 1) := by decide +kernel
theorem dX6_put_22 : decode cX6_put 22 = .ok (.bastore, 1) := by decide +kernel
theorem dX6_put_23 : decode cX6_put 23 = .ok (.aload_n 0, 1) := by decide +kernel
theorem dX6_put_24 : decode cX6_put 24 = .ok (.dup, 1) := by decide +kernel
theorem dX6_put_25 : decode cX6_put 25 = .ok (.getfield 36, 3) := by decide +kernel
theorem dX6_put_28 : decode cX6_put 28 = .ok (.iconst 1, 1) := by decide +kernel
theorem dX6_put_29 : decode cX6_put 29 = .ok (.iadd, 1) := by decide +kernel
theorem dX6_put_30 : decode cX6_put 30 = .ok (.putfield 36, 3) := by decide +kernel
theorem dX6_put_33 : decode cX6_put 33 = .ok (.return_, 1) := by decide +kernel
theorem dX6_putPair_0 : decode cX6_putPair 0 = .ok (.aload_n 0, 1) := by decide +kernel
theorem dX6_putPair_1 : decode cX6_putPair 1 = .ok (.iload_n 1, 1) := by decide +kernel
theorem dX6_putPair_2 : decode cX6_putPair 2 = .ok (.bipush 8, 2) := by decide +kernel
theorem dX6_putPair_4 : decode cX6_putPair 4 = .ok (.ishr, 1) := by decide +kernel
theorem dX6_putPair_5 : decode cX6_putPair 5 = .ok (.invokevirtual 45, 3) := by decide +kernel
theorem dX6_putPair_8 : decode cX6_putPair 8 = .ok (.aload_n 0, 1) := by decide +kernel
theorem dX6_putPair_9 : decode cX6_putPair 9 = .ok (.iload_n 1, 1) := by decide +kernel
theorem dX6_putPair_10 : decode cX6_putPair 10 = .ok (.invokevirtual 45, 3) := by decide +kernel
theorem dX6_putPair_13 : decode cX6_putPair 13 = .ok (.return_, 1) := by decide +kernel
theorem dX6_isTooMuch_0 : decode cX6_isTooMuch 0 = .ok (.aload_n 0, 1) := by decide +kernel
theorem dX6_isTooMuch_1 : decode cX6_isTooMuch 1 = .ok (.getfield 32, 3) := by decide +kernel
theorem dX6_isTooMuch_4 : decode cX6_isTooMuch 4 = .ok (.ifCond .ne 13, 3) := by decide +kernel
theorem dX6_isTooMuch_7 : decode cX6_isTooMuch 7 = .ok (.aload_n 0, 1) := by decide +kernel
theorem dX6_isTooMuch_8 : decode cX6_isTooMuch 8 = .ok (.invokevirtual 86, 3) := by decide +kernel
theorem dX6_isTooMuch_11 : decode cX6_isTooMuch 11 = .ok (.sipush 6000, 3) := by decide +kernel
theorem dX6_isTooMuch_14 : decode cX6_isTooMuch 14 = .ok (.if_icmp .le 7, 3) := by decide +kernel
theorem dX6_isTooMuch_17 : decode cX6_isTooMuch 17 = .ok (.iconst 1, 1) := by decide +kernel
theorem dX6_isTooMuch_18 : decode cX6_isTooMuch 18 = .ok (.goto 4, 3) := by decide +kernel
theorem dX6_isTooMuch_21 : decode cX6_isTooMuch 21 = .ok (.iconst 0, 1) := by decide +kernel
theorem dX6_isTooMuch_22 : decode cX6_isTooMuch 22 = .ok (.ireturn, 1) := by decide +kernel
theorem dX6_imageSize_0 : decode cX6_imageSize 0 = .ok (.iconst 3, 1) := by decide +kernel
theorem dX6_imageSize_1 : decode cX6_imageSize 1 = .ok (.aload_n 0, 1) := by decide +kernel
theorem dX6_imageSize_2 : decode cX6_imageSize 2 = .ok (.getfield 36, 3) := by decide +kernel
theorem dX6_imageSize_5 : decode cX6_imageSize 5 = .ok (.iadd, 1) := by decide +kernel
theorem dX6_imageSize_6 : decode cX6_imageSize 6 = .ok (.istore_n 1, 1) := by decide +kernel
theorem dX6_imageSize_7 : decode cX6_imageSize 7 = .ok (.iconst 1, 1) := by decide +kernel
theorem dX6_imageSize_8 : decode cX6_imageSize 8 = .ok (.istore_n 2, 1) := by decide +kernel
theorem dX6_imageSize_9 : decode cX6_imageSize 9 = .ok (.iload_n 2, 1) := by decide +kernel
theorem dX6_imageSize_10 : decode cX6_imageSize 10 = .ok (.aload_n 0, 1) := by decide +kernel
theorem dX6_imageSize_11 : decode cX6_imageSize 11 = .ok (.getfield 28, 3) := by decide +kernel
theorem dX6_imageSize_14 : decode cX6_imageSize 14 = .ok (.if_icmp .gt 28, 3) := by decide +kernel
theorem dX6_imageSize_17 : decode cX6_imageSize 17 = .ok (.iload_n 1, 1) := by decide +kernel
theorem dX6_imageSize_18 : decode cX6_imageSize 18 = .ok (.aload_n 0, 1) := by decide +kernel
theorem dX6_imageSize_19 : decode cX6_imageSize 19 = .ok (.aload_n 0, 1) := by decide +kernel
theorem dX6_imageSize_20 : decode cX6_imageSize 20 = .ok (.getfield 9, 3) := by decide +kernel
theorem dX6_imageSize_23 : decode cX6_imageSize 23 = .ok (.iload_n 2, 1) := by decide +kernel
theorem dX6_imageSize_24 : decode cX6_imageSize 24 = .ok (.iaload, 1) := by decide +kernel
theorem dX6_imageSize_25 : decode cX6_imageSize 25 = .ok (.aload_n 0, 1) := by decide +kernel
theorem dX6_imageSize_26 : decode cX6_imageSize 26 = .ok (.getfield 13, 3) := by decide +kernel
theorem dX6_imageSize_29 : decode cX6_imageSize 29 = .ok (.iload_n 2, 1) := by decide +kernel
theorem dX6_imageSize_30 : decode cX6_imageSize 30 = .ok (.iaload, 1) := by decide +kernel
theorem dX6_imageSize_31 : decode cX6_imageSize 31 = .ok (.invokevirtual 90, 3) := by decide +kernel
theorem dX6_imageSize_34 : decode cX6_imageSize 34 = .ok (.iadd, 1) := by decide +kernel
theorem dX6_imageSize_35 : decode cX6_imageSize 35 = .ok (.istore_n 1, 1) := by decide +kernel
theorem dX6_imageSize_36 : decode cX6_imageSize 36 = .ok (.iinc 2 1, 3) := by decide +kernel
theorem dX6_imageSize_39 : decode cX6_imageSize 39 = .ok (.goto (-30), 3) := by decide +kernel
theorem dX6_imageSize_42 : decode cX6_imageSize 42 = .ok (.iload_n 1, 1) := by decide +kernel
theorem dX6_imageSize_43 : decode cX6_imageSize 43 = .ok (.ireturn, 1) := by decide +kernel
theorem dX6_bytesOf_0 : decode cX6_bytesOf 0 = .ok (.iload_n 1, 1) := by decide +kernel
theorem dX6_bytesOf_1 : decode cX6_bytesOf 1 = .ok (.tableswitch 42 1 3 #[27, 38, 40], 27) := by decide +kernel
theorem dX6_bytesOf_28 : decode cX6_bytesOf 28 = .ok (.iconst 2, 1) := by decide +kernel
theorem dX6_bytesOf_29 : decode cX6_bytesOf 29 = .ok (.aload_n 0, 1) := by decide +kernel
theorem dX6_bytesOf_30 : decode cX6_bytesOf 30 = .ok (.getfield 20, 3) := by decide +kernel
theorem dX6_bytesOf_33 : decode cX6_bytesOf 33 = .ok (.iload_n 2, 1) := by decide +kernel
theorem dX6_bytesOf_34 : decode cX6_bytesOf 34 = .ok (.invokevirtual 107, 3) := by decide +kernel
theorem dX6_bytesOf_37 : decode cX6_bytesOf 37 = .ok (.iadd, 1) := by decide +kernel
theorem dX6_bytesOf_38 : decode cX6_bytesOf 38 = .ok (.ireturn, 1) := by decide +kernel
theorem dX6_bytesOf_39 : decode cX6_bytesOf 39 = .ok (.iconst 5, 1) := by decide +kernel
theorem dX6_bytesOf_40 : decode cX6_bytesOf 40 = .ok (.ireturn, 1) := by decide +kernel
theorem dX6_bytesOf_41 : decode cX6_bytesOf 41 = .ok (.iconst 2, 1) := by decide +kernel
theorem dX6_bytesOf_42 : decode cX6_bytesOf 42 = .ok (.ireturn, 1) := by decide +kernel
theorem dX6_bytesOf_43 : decode cX6_bytesOf 43 = .ok (.iconst 4, 1) := by decide +kernel
theorem dX6_bytesOf_44 : decode cX6_bytesOf 44 = .ok (.ireturn, 1) := by decide +kernel
theorem dX6_constant_0 : decode cX6_constant 0 = .ok (.iconst 1, 1) := by decide +kernel
theorem dX6_constant_1 : decode cX6_constant 1 = .ok (.istore_n 3, 1) := by decide +kernel
theorem dX6_constant_2 : decode cX6_constant 2 = .ok (.iload_n 3, 1) := by decide +kernel
theorem dX6_constant_3 : decode cX6_constant 3 = .ok (.aload_n 0, 1) := by decide +kernel
theorem dX6_constant_4 : decode cX6_constant 4 = .ok (.getfield 28, 3) := by decide +kernel
theorem dX6_constant_7 : decode cX6_constant 7 = .ok (.if_icmp .gt 31, 3) := by decide +kernel
theorem dX6_constant_10 : decode cX6_constant 10 = .ok (.aload_n 0, 1) := by decide +kernel
theorem dX6_constant_11 : decode cX6_constant 11 = .ok (.getfield 9, 3) := by decide +kernel
theorem dX6_constant_14 : decode cX6_constant 14 = .ok (.iload_n 3, 1) := by decide +kernel
theorem dX6_constant_15 : decode cX6_constant 15 = .ok (.iaload, 1) := by decide +kernel
theorem dX6_constant_16 : decode cX6_constant 16 = .ok (.iload_n 1, 1) := by decide +kernel
theorem dX6_constant_17 : decode cX6_constant 17 = .ok (.if_icmp .ne 15, 3) := by decide +kernel
theorem dX6_constant_20 : decode cX6_constant 20 = .ok (.aload_n 0, 1) := by decide +kernel
theorem dX6_constant_21 : decode cX6_constant 21 = .ok (.getfield 13, 3) := by decide +kernel
theorem dX6_constant_24 : decode cX6_constant 24 = .ok (.iload_n 3, 1) := by decide +kernel
theorem dX6_constant_25 : decode cX6_constant 25 = .ok (.iaload, 1) := by decide +kernel
theorem dX6_constant_26 : decode cX6_constant 26 = .ok (.iload_n 2, 1) := by decide +kernel
theorem dX6_constant_27 : decode cX6_constant 27 = .ok (.if_icmp .ne 5, 3) := by decide +kernel
theorem dX6_constant_30 : decode cX6_constant 30 = .ok (.iload_n 3, 1) := by decide +kernel
theorem dX6_constant_31 : decode cX6_constant 31 = .ok (.ireturn, 1) := by decide +kernel
theorem dX6_constant_32 : decode cX6_constant 32 = .ok (.iinc 3 1, 3) := by decide +kernel
theorem dX6_constant_35 : decode cX6_constant 35 = .ok (.goto (-33), 3) := by decide +kernel
theorem dX6_constant_38 : decode cX6_constant 38 = .ok (.aload_n 0, 1) := by decide +kernel
theorem dX6_constant_39 : decode cX6_constant 39 = .ok (.getfield 28, 3) := by decide +kernel
theorem dX6_constant_42 : decode cX6_constant 42 = .ok (.sipush 200, 3) := by decide +kernel
theorem dX6_constant_45 : decode cX6_constant 45 = .ok (.if_icmp .lt 10, 3) := by decide +kernel
theorem dX6_constant_48 : decode cX6_constant 48 = .ok (.aload_n 0, 1) := by decide +kernel
theorem dX6_constant_49 : decode cX6_constant 49 = .ok (.iconst 1, 1) := by decide +kernel
theorem dX6_constant_50 : decode cX6_constant 50 = .ok (.putfield 32, 3) := by decide +kernel
theorem dX6_constant_53 : decode cX6_constant 53 = .ok (.iconst 0, 1) := by decide +kernel
theorem dX6_constant_54 : decode cX6_constant 54 = .ok (.ireturn, 1) := by decide +kernel
theorem dX6_constant_55 : decode cX6_constant 55 = .ok (.aload_n 0, 1) := by decide +kernel
theorem dX6_constant_56 : decode cX6_constant 56 = .ok (.dup, 1) := by decide +kernel
theorem dX6_constant_57 : decode cX6_constant 57 = .ok (.getfield 28, 3) := by decide +kernel
theorem dX6_constant_60 : decode cX6_constant 60 = .ok (.iconst 1, 1) := by decide +kernel
theorem dX6_constant_61 : decode cX6_constant 61 = .ok (.iadd, 1) := by decide +kernel
theorem dX6_constant_62 : decode cX6_constant 62 = .ok (.putfield 28, 3) := by decide +kernel
theorem dX6_constant_65 : decode cX6_constant 65 = .ok (.aload_n 0, 1) := by decide +kernel
theorem dX6_constant_66 : decode cX6_constant 66 = .ok (.getfield 9, 3) := by decide +kernel
theorem dX6_constant_69 : decode cX6_constant 69 = .ok (.aload_n 0, 1) := by decide +kernel
theorem dX6_constant_70 : decode cX6_constant 70 = .ok (.getfield 28, 3) := by decide +kernel
theorem dX6_constant_73 : decode cX6_constant 73 = .ok (.iload_n 1, 1) := by decide +kernel
theorem dX6_constant_74 : decode cX6_constant 74 = .ok (.iastore, 1) := by decide +kernel
theorem dX6_constant_75 : decode cX6_constant 75 = .ok (.aload_n 0, 1) := by decide +kernel
theorem dX6_constant_76 : decode cX6_constant 76 = .ok (.getfield 13, 3) := by decide +kernel
theorem dX6_constant_79 : decode cX6_constant 79 = .ok (.aload_n 0, 1) := by decide +kernel
theorem dX6_constant_80 : decode cX6_constant 80 = .ok (.getfield 28, 3) := by decide +kernel
theorem dX6_constant_83 : decode cX6_constant 83 = .ok (.iload_n 2, 1) := by decide +kernel
theorem dX6_constant_84 : decode cX6_constant 84 = .ok (.iastore, 1) := by decide +kernel
theorem dX6_constant_85 : decode cX6_constant 85 = .ok (.aload_n 0, 1) := by decide +kernel
theorem dX6_constant_86 : decode cX6_constant 86 = .ok (.getfield 28, 3) := by decide +kernel
theorem dX6_constant_89 : decode cX6_constant 89 = .ok (.ireturn, 1) := by decide +kernel
theorem dX6_classOf_0 : decode cX6_classOf 0 = .ok (.aload_n 0, 1) := by decide +kernel
theorem dX6_classOf_1 : decode cX6_classOf 1 = .ok (.iconst 3, 1) := by decide +kernel
theorem dX6_classOf_2 : decode cX6_classOf 2 = .ok (.aload_n 0, 1) := by decide +kernel
theorem dX6_classOf_3 : decode cX6_classOf 3 = .ok (.iconst 1, 1) := by decide +kernel
theorem dX6_classOf_4 : decode cX6_classOf 4 = .ok (.aload_n 0, 1) := by decide +kernel
theorem dX6_classOf_5 : decode cX6_classOf 5 = .ok (.getfield 24, 3) := by decide +kernel
theorem dX6_classOf_8 : decode cX6_classOf 8 = .ok (.iload_n 1, 1) := by decide +kernel
theorem dX6_classOf_9 : decode cX6_classOf 9 = .ok (.invokevirtual 115, 3) := by decide +kernel
theorem dX6_classOf_12 : decode cX6_classOf 12 = .ok (.invokevirtual 66, 3) := by decide +kernel
theorem dX6_classOf_15 : decode cX6_classOf 15 = .ok (.invokevirtual 66, 3) := by decide +kernel
theorem dX6_classOf_18 : decode cX6_classOf 18 = .ok (.ireturn, 1) := by decide +kernel
theorem dX6_numberOf_0 : decode cX6_numberOf 0 = .ok (.aload_n 0, 1) := by decide +kernel
theorem dX6_numberOf_1 : decode cX6_numberOf 1 = .ok (.iconst 2, 1) := by decide +kernel
theorem dX6_numberOf_2 : decode cX6_numberOf 2 = .ok (.iload_n 1, 1) := by decide +kernel
theorem dX6_numberOf_3 : decode cX6_numberOf 3 = .ok (.invokevirtual 66, 3) := by decide +kernel
theorem dX6_numberOf_6 : decode cX6_numberOf 6 = .ok (.ireturn, 1) := by decide +kernel
theorem dX6_fieldOf_0 : decode cX6_fieldOf 0 = .ok (.aload_n 0, 1) := by decide +kernel
theorem dX6_fieldOf_1 : decode cX6_fieldOf 1 = .ok (.iload_n 1, 1) := by decide +kernel
theorem dX6_fieldOf_2 : decode cX6_fieldOf 2 = .ok (.invokevirtual 41, 3) := by decide +kernel
theorem dX6_fieldOf_5 : decode cX6_fieldOf 5 = .ok (.istore_n 3, 1) := by decide +kernel
theorem dX6_fieldOf_6 : decode cX6_fieldOf 6 = .ok (.aload_n 0, 1) := by decide +kernel
theorem dX6_fieldOf_7 : decode cX6_fieldOf 7 = .ok (.iconst 1, 1) := by decide +kernel
theorem dX6_fieldOf_8 : decode cX6_fieldOf 8 = .ok (.aload_n 0, 1) := by decide +kernel
theorem dX6_fieldOf_9 : decode cX6_fieldOf 9 = .ok (.getfield 24, 3) := by decide +kernel
theorem dX6_fieldOf_12 : decode cX6_fieldOf 12 = .ok (.iload_n 2, 1) := by decide +kernel
theorem dX6_fieldOf_13 : decode cX6_fieldOf 13 = .ok (.invokevirtual 63, 3) := by decide +kernel
theorem dX6_fieldOf_16 : decode cX6_fieldOf 16 = .ok (.invokevirtual 66, 3) := by decide +kernel
theorem dX6_fieldOf_19 : decode cX6_fieldOf 19 = .ok (.istore 4, 2) := by decide +kernel
theorem dX6_fieldOf_21 : decode cX6_fieldOf 21 = .ok (.aload_n 0, 1) := by decide +kernel
theorem dX6_fieldOf_22 : decode cX6_fieldOf 22 = .ok (.iconst 4, 1) := by decide +kernel
theorem dX6_fieldOf_23 : decode cX6_fieldOf 23 = .ok (.iload_n 3, 1) := by decide +kernel
theorem dX6_fieldOf_24 : decode cX6_fieldOf 24 = .ok (.bipush 16, 2) := by decide +kernel
theorem dX6_fieldOf_26 : decode cX6_fieldOf 26 = .ok (.ishl, 1) := by decide +kernel
theorem dX6_fieldOf_27 : decode cX6_fieldOf 27 = .ok (.iload 4, 2) := by decide +kernel
theorem dX6_fieldOf_29 : decode cX6_fieldOf 29 = .ok (.bipush 8, 2) := by decide +kernel
theorem dX6_fieldOf_31 : decode cX6_fieldOf 31 = .ok (.ishl, 1) := by decide +kernel
theorem dX6_fieldOf_32 : decode cX6_fieldOf 32 = .ok (.ior, 1) := by decide +kernel
theorem dX6_fieldOf_33 : decode cX6_fieldOf 33 = .ok (.aload_n 0, 1) := by decide +kernel
theorem dX6_fieldOf_34 : decode cX6_fieldOf 34 = .ok (.iconst 1, 1) := by decide +kernel
theorem dX6_fieldOf_35 : decode cX6_fieldOf 35 = .ok (.aload_n 0, 1) := by decide +kernel
theorem dX6_fieldOf_36 : decode cX6_fieldOf 36 = .ok (.getfield 24, 3) := by decide +kernel
theorem dX6_fieldOf_39 : decode cX6_fieldOf 39 = .ok (.iload_n 2, 1) := by decide +kernel
theorem dX6_fieldOf_40 : decode cX6_fieldOf 40 = .ok (.invokevirtual 70, 3) := by decide +kernel
theorem dX6_fieldOf_43 : decode cX6_fieldOf 43 = .ok (.invokevirtual 66, 3) := by decide +kernel
theorem dX6_fieldOf_46 : decode cX6_fieldOf 46 = .ok (.ior, 1) := by decide +kernel
theorem dX6_fieldOf_47 : decode cX6_fieldOf 47 = .ok (.invokevirtual 66, 3) := by decide +kernel
theorem dX6_fieldOf_50 : decode cX6_fieldOf 50 = .ok (.ireturn, 1) := by decide +kernel
theorem dX6_methodOf_0 : decode cX6_methodOf 0 = .ok (.aload_n 0, 1) := by decide +kernel
theorem dX6_methodOf_1 : decode cX6_methodOf 1 = .ok (.iload_n 1, 1) := by decide +kernel
theorem dX6_methodOf_2 : decode cX6_methodOf 2 = .ok (.invokevirtual 41, 3) := by decide +kernel
theorem dX6_methodOf_5 : decode cX6_methodOf 5 = .ok (.istore_n 3, 1) := by decide +kernel
theorem dX6_methodOf_6 : decode cX6_methodOf 6 = .ok (.aload_n 0, 1) := by decide +kernel
theorem dX6_methodOf_7 : decode cX6_methodOf 7 = .ok (.iconst 1, 1) := by decide +kernel
theorem dX6_methodOf_8 : decode cX6_methodOf 8 = .ok (.aload_n 0, 1) := by decide +kernel
theorem dX6_methodOf_9 : decode cX6_methodOf 9 = .ok (.getfield 24, 3) := by decide +kernel
theorem dX6_methodOf_12 : decode cX6_methodOf 12 = .ok (.iload_n 2, 1) := by decide +kernel
theorem dX6_methodOf_13 : decode cX6_methodOf 13 = .ok (.invokevirtual 80, 3) := by decide +kernel
theorem dX6_methodOf_16 : decode cX6_methodOf 16 = .ok (.invokevirtual 66, 3) := by decide +kernel
theorem dX6_methodOf_19 : decode cX6_methodOf 19 = .ok (.istore 4, 2) := by decide +kernel
theorem dX6_methodOf_21 : decode cX6_methodOf 21 = .ok (.aload_n 0, 1) := by decide +kernel
theorem dX6_methodOf_22 : decode cX6_methodOf 22 = .ok (.iconst 4, 1) := by decide +kernel
theorem dX6_methodOf_23 : decode cX6_methodOf 23 = .ok (.iload_n 3, 1) := by decide +kernel
theorem dX6_methodOf_24 : decode cX6_methodOf 24 = .ok (.bipush 16, 2) := by decide +kernel
theorem dX6_methodOf_26 : decode cX6_methodOf 26 = .ok (.ishl, 1) := by decide +kernel
theorem dX6_methodOf_27 : decode cX6_methodOf 27 = .ok (.iload 4, 2) := by decide +kernel
theorem dX6_methodOf_29 : decode cX6_methodOf 29 = .ok (.bipush 8, 2) := by decide +kernel
theorem dX6_methodOf_31 : decode cX6_methodOf 31 = .ok (.ishl, 1) := by decide +kernel
theorem dX6_methodOf_32 : decode cX6_methodOf 32 = .ok (.ior, 1) := by decide +kernel
theorem dX6_methodOf_33 : decode cX6_methodOf 33 = .ok (.aload_n 0, 1) := by decide +kernel
theorem dX6_methodOf_34 : decode cX6_methodOf 34 = .ok (.iconst 1, 1) := by decide +kernel
theorem dX6_methodOf_35 : decode cX6_methodOf 35 = .ok (.aload_n 0, 1) := by decide +kernel
theorem dX6_methodOf_36 : decode cX6_methodOf 36 = .ok (.getfield 24, 3) := by decide +kernel
theorem dX6_methodOf_39 : decode cX6_methodOf 39 = .ok (.iload_n 2, 1) := by decide +kernel
theorem dX6_methodOf_40 : decode cX6_methodOf 40 = .ok (.invokevirtual 83, 3) := by decide +kernel
theorem dX6_methodOf_43 : decode cX6_methodOf 43 = .ok (.invokevirtual 66, 3) := by decide +kernel
theorem dX6_methodOf_46 : decode cX6_methodOf 46 = .ok (.ior, 1) := by decide +kernel
theorem dX6_methodOf_47 : decode cX6_methodOf 47 = .ok (.invokevirtual 66, 3) := by decide +kernel
theorem dX6_methodOf_50 : decode cX6_methodOf 50 = .ok (.ireturn, 1) := by decide +kernel
theorem dX8_need_0 : decode cX8_need 0 = .ok (.aload_n 0, 1) := by decide +kernel
theorem dX8_need_1 : decode cX8_need 1 = .ok (.getfield 7, 3) := by decide +kernel
theorem dX8_need_4 : decode cX8_need 4 = .ok (.invokevirtual 23, 3) := by decide +kernel
theorem dX8_need_7 : decode cX8_need 7 = .ok (.iload_n 1, 1) := by decide +kernel
theorem dX8_need_8 : decode cX8_need 8 = .ok (.if_icmp .ne 19, 3) := by decide +kernel
theorem dX8_need_11 : decode cX8_need 11 = .ok (.aload_n 0, 1) := by decide +kernel
theorem dX8_need_12 : decode cX8_need 12 = .ok (.getfield 7, 3) := by decide +kernel
theorem dX8_need_15 : decode cX8_need 15 = .ok (.dup, 1) := by decide +kernel
theorem dX8_need_16 : decode cX8_need 16 = .ok (.getfield 30, 3) := by decide +kernel
theorem dX8_need_19 : decode cX8_need 19 = .ok (.iconst 1, 1) := by decide +kernel
theorem dX8_need_20 : decode cX8_need 20 = .ok (.iadd, 1) := by decide +kernel
theorem dX8_need_21 : decode cX8_need 21 = .ok (.putfield 30, 3) := by decide +kernel
theorem dX8_need_24 : decode cX8_need 24 = .ok (.goto 11, 3) := by decide +kernel
theorem dX8_need_27 : decode cX8_need 27 = .ok (.aload_n 0, 1) := by decide +kernel
theorem dX8_need_28 : decode cX8_need 28 = .ok (.getfield 7, 3) := by decide +kernel
theorem dX8_need_31 : decode cX8_need 31 = .ok (.iconst 2, 1) := by decide +kernel
theorem dX8_need_32 : decode cX8_need 32 = .ok (.invokevirtual 33, 3) := by decide +kernel
theorem dX8_need_35 : decode cX8_need 35 = .ok (.return_, 1) := by decide +kernel
theorem dX8_accept_0 : decode cX8_accept 0 = .ok (.aload_n 0, 1) := by decide +kernel
theorem dX8_accept_1 : decode cX8_accept 1 = .ok (.getfield 7, 3) := by decide +kernel
theorem dX8_accept_4 : decode cX8_accept 4 = .ok (.invokevirtual 23, 3) := by decide +kernel
theorem dX8_accept_7 : decode cX8_accept 7 = .ok (.iload_n 1, 1) := by decide +kernel
theorem dX8_accept_8 : decode cX8_accept 8 = .ok (.if_icmp .eq 5, 3) := by decide +kernel
theorem dX8_accept_11 : decode cX8_accept 11 = .ok (.iconst 0, 1) := by decide +kernel
theorem dX8_accept_12 : decode cX8_accept 12 = .ok (.ireturn, 1) := by decide +kernel
theorem dX8_accept_13 : decode cX8_accept 13 = .ok (.aload_n 0, 1) := by decide +kernel
theorem dX8_accept_14 : decode cX8_accept 14 = .ok (.getfield 7, 3) := by decide +kernel
theorem dX8_accept_17 : decode cX8_accept 17 = .ok (.dup, 1) := by decide +kernel
theorem dX8_accept_18 : decode cX8_accept 18 = .ok (.getfield 30, 3) := by decide +kernel
theorem dX8_accept_21 : decode cX8_accept 21 = .ok (.iconst 1, 1) := by decide +kernel
theorem dX8_accept_22 : decode cX8_accept 22 = .ok (.iadd, 1) := by decide +kernel
theorem dX8_accept_23 : decode cX8_accept 23 = .ok (.putfield 30, 3) := by decide +kernel
theorem dX8_accept_26 : decode cX8_accept 26 = .ok (.iconst 1, 1) := by decide +kernel
theorem dX8_accept_27 : decode cX8_accept 27 = .ok (.ireturn, 1) := by decide +kernel
theorem dX8_tooDeep_0 : decode cX8_tooDeep 0 = .ok (.iload_n 1, 1) := by decide +kernel
theorem dX8_tooDeep_1 : decode cX8_tooDeep 1 = .ok (.bipush 40, 2) := by decide +kernel
theorem dX8_tooDeep_3 : decode cX8_tooDeep 3 = .ok (.if_icmp .lt 11, 3) := by decide +kernel
theorem dX8_tooDeep_6 : decode cX8_tooDeep 6 = .ok (.aload_n 0, 1) := by decide +kernel
theorem dX8_tooDeep_7 : decode cX8_tooDeep 7 = .ok (.getfield 7, 3) := by decide +kernel
theorem dX8_tooDeep_10 : decode cX8_tooDeep 10 = .ok (.iconst 3, 1) := by decide +kernel
theorem dX8_tooDeep_11 : decode cX8_tooDeep 11 = .ok (.invokevirtual 33, 3) := by decide +kernel
theorem dX8_tooDeep_14 : decode cX8_tooDeep 14 = .ok (.aload_n 0, 1) := by decide +kernel
theorem dX8_tooDeep_15 : decode cX8_tooDeep 15 = .ok (.getfield 7, 3) := by decide +kernel
theorem dX8_tooDeep_18 : decode cX8_tooDeep 18 = .ok (.getfield 19, 3) := by decide +kernel
theorem dX8_tooDeep_21 : decode cX8_tooDeep 21 = .ok (.ifCond .eq 7, 3) := by decide +kernel
theorem dX8_tooDeep_24 : decode cX8_tooDeep 24 = .ok (.iconst 1, 1) := by decide +kernel
theorem dX8_tooDeep_25 : decode cX8_tooDeep 25 = .ok (.goto 4, 3) := by decide +kernel
theorem dX8_tooDeep_28 : decode cX8_tooDeep 28 = .ok (.iconst 0, 1) := by decide +kernel
theorem dX8_tooDeep_29 : decode cX8_tooDeep 29 = .ok (.ireturn, 1) := by decide +kernel
theorem dX8_readParameters_0 : decode cX8_readParameters 0 = .ok (.iconst 1, 1) := by decide +kernel
theorem dX8_readParameters_1 : decode cX8_readParameters 1 = .ok (.istore_n 1, 1) := by decide +kernel
theorem dX8_readParameters_2 : decode cX8_readParameters 2 = .ok (.iconst 0, 1) := by decide +kernel
theorem dX8_readParameters_3 : decode cX8_readParameters 3 = .ok (.istore_n 2, 1) := by decide +kernel
theorem dX8_readParameters_4 : decode cX8_readParameters 4 = .ok (.iload_n 2, 1) := by decide +kernel
theorem dX8_readParameters_5 : decode cX8_readParameters 5 = .ok (.sipush 3000, 3) := by decide +kernel
theorem dX8_readParameters_8 : decode cX8_readParameters 8 = .ok (.if_icmp .ge 29, 3) := by decide +kernel
theorem dX8_readParameters_11 : decode cX8_readParameters 11 = .ok (.iload_n 1, 1) := by decide +kernel
theorem dX8_readParameters_12 : decode cX8_readParameters 12 = .ok (.ifCond .eq 25, 3) := by decide +kernel
theorem dX8_readParameters_15 : decode cX8_readParameters 15 = .ok (.aload_n 0, 1) := by decide +kernel
theorem dX8_readParameters_16 : decode cX8_readParameters 16 = .ok (.invokevirtual 52, 3) := by decide +kernel
theorem dX8_readParameters_19 : decode cX8_readParameters 19 = .ok (.aload_n 0, 1) := by decide +kernel
theorem dX8_readParameters_20 : decode cX8_readParameters 20 = .ok (.iconst 2, 1) := by decide +kernel
theorem dX8_readParameters_21 : decode cX8_readParameters 21 = .ok (.invokevirtual 37, 3) := by decide +kernel
theorem dX8_readParameters_24 : decode cX8_readParameters 24 = .ok (.aload_n 0, 1) := by decide +kernel
theorem dX8_readParameters_25 : decode cX8_readParameters 25 = .ok (.bipush 47, 2) := by decide +kernel
theorem dX8_readParameters_27 : decode cX8_readParameters 27 = .ok (.invokevirtual 45, 3) := by decide +kernel
theorem dX8_readParameters_30 : decode cX8_readParameters 30 = .ok (.istore_n 1, 1) := by decide +kernel
theorem dX8_readParameters_31 : decode cX8_readParameters 31 = .ok (.iinc 2 1, 3) := by decide +kernel
theorem dX8_readParameters_34 : decode cX8_readParameters 34 = .ok (.goto (-30), 3) := by decide +kernel
theorem dX8_readParameters_37 : decode cX8_readParameters 37 = .ok (.return_, 1) := by decide +kernel
theorem dX8_readType_0 : decode cX8_readType 0 = .ok (.aload_n 0, 1) := by decide +kernel
theorem dX8_readType_1 : decode cX8_readType 1 = .ok (.bipush 10, 2) := by decide +kernel
theorem dX8_readType_3 : decode cX8_readType 3 = .ok (.invokevirtual 45, 3) := by decide +kernel
theorem dX8_readType_6 : decode cX8_readType 6 = .ok (.ifCond .eq 4, 3) := by decide +kernel
theorem dX8_readType_9 : decode cX8_readType 9 = .ok (.return_, 1) := by decide +kernel
theorem dX8_readType_10 : decode cX8_readType 10 = .ok (.aload_n 0, 1) := by decide +kernel
theorem dX8_readType_11 : decode cX8_readType 11 = .ok (.bipush 20, 2) := by decide +kernel
theorem dX8_readType_13 : decode cX8_readType 13 = .ok (.invokevirtual 45, 3) := by decide +kernel
theorem dX8_readType_16 : decode cX8_readType 16 = .ok (.ifCond .ne 8, 3) := by decide +kernel
theorem dX8_readType_19 : decode cX8_readType 19 = .ok (.aload_n 0, 1) := by decide +kernel
theorem dX8_readType_20 : decode cX8_readType 20 = .ok (.iconst 2, 1) := by decide +kernel
theorem dX8_readType_21 : decode cX8_readType 21 = .ok (.invokevirtual 37, 3) := by decide +kernel
theorem dX8_readType_24 : decode cX8_readType 24 = .ok (.aload_n 0, 1) := by decide +kernel
theorem dX8_readType_25 : decode cX8_readType 25 = .ok (.bipush 44, 2) := by decide +kernel
theorem dX8_readType_27 : decode cX8_readType 27 = .ok (.invokevirtual 45, 3) := by decide +kernel
theorem dX8_readType_30 : decode cX8_readType 30 = .ok (.ifCond .eq 9, 3) := by decide +kernel
theorem dX8_readType_33 : decode cX8_readType 33 = .ok (.aload_n 0, 1) := by decide +kernel
theorem dX8_readType_34 : decode cX8_readType 34 = .ok (.bipush 45, 2) := by decide +kernel
theorem dX8_readType_36 : decode cX8_readType 36 = .ok (.invokevirtual 37, 3) := by decide +kernel
theorem dX8_readType_39 : decode cX8_readType 39 = .ok (.return_, 1) := by decide +kernel
theorem dX8_binaryAhead_0 : decode cX8_binaryAhead 0 = .ok (.aload_n 0, 1) := by decide +kernel
theorem dX8_binaryAhead_1 : decode cX8_binaryAhead 1 = .ok (.getfield 7, 3) := by decide +kernel
theorem dX8_binaryAhead_4 : decode cX8_binaryAhead 4 = .ok (.invokevirtual 23, 3) := by decide +kernel
theorem dX8_binaryAhead_7 : decode cX8_binaryAhead 7 = .ok (.invokestatic 93, 3) := by decide +kernel
theorem dX8_binaryAhead_10 : decode cX8_binaryAhead 10 = .ok (.istore_n 2, 1) := by decide +kernel
theorem dX8_binaryAhead_11 : decode cX8_binaryAhead 11 = .ok (.iload_n 2, 1) := by decide +kernel
theorem dX8_binaryAhead_12 : decode cX8_binaryAhead 12 = .ok (.ifCond .le 17, 3) := by decide +kernel
theorem dX8_binaryAhead_15 : decode cX8_binaryAhead 15 = .ok (.iload_n 1, 1) := by decide +kernel
theorem dX8_binaryAhead_16 : decode cX8_binaryAhead 16 = .ok (.ifCond .ne 9, 3) := by decide +kernel
theorem dX8_binaryAhead_19 : decode cX8_binaryAhead 19 = .ok (.iload_n 2, 1) := by decide +kernel
theorem dX8_binaryAhead_20 : decode cX8_binaryAhead 20 = .ok (.bipush 7, 2) := by decide +kernel
theorem dX8_binaryAhead_22 : decode cX8_binaryAhead 22 = .ok (.if_icmp .gt 7, 3) := by decide +kernel
theorem dX8_binaryAhead_25 : decode cX8_binaryAhead 25 = .ok (.iconst 1, 1) := by decide +kernel
theorem dX8_binaryAhead_26 : decode cX8_binaryAhead 26 = .ok (.goto 4, 3) := by decide +kernel
theorem dX8_binaryAhead_29 : decode cX8_binaryAhead 29 = .ok (.iconst 0, 1) := by decide +kernel
theorem dX8_binaryAhead_30 : decode cX8_binaryAhead 30 = .ok (.ireturn, 1) := by decide +kernel
theorem dX9_refuse_0 : decode cX9_refuse 0 = .ok (.aload_n 0, 1) := by decide +kernel
theorem dX9_refuse_1 : decode cX9_refuse 1 = .ok (.iload_n 1, 1) := by decide +kernel
theorem dX9_refuse_2 : decode cX9_refuse 2 = .ok (.putfield 80, 3) := by decide +kernel
theorem dX9_refuse_5 : decode cX9_refuse 5 = .ok (.aload_n 0, 1) := by decide +kernel
theorem dX9_refuse_6 : decode cX9_refuse 6 = .ok (.iload_n 2, 1) := by decide +kernel
theorem dX9_refuse_7 : decode cX9_refuse 7 = .ok (.putfield 41, 3) := by decide +kernel
theorem dX9_refuse_10 : decode cX9_refuse 10 = .ok (.return_, 1) := by decide +kernel
theorem dX9_tell_0 : decode cX9_tell 0 = .ok (.aload_n 0, 1) := by decide +kernel
theorem dX9_tell_1 : decode cX9_tell 1 = .ok (.getfield 80, 3) := by decide +kernel
theorem dX9_tell_4 : decode cX9_tell 4 = .ok (.ifCond .ne 30, 3) := by decide +kernel
theorem dX9_tell_7 : decode cX9_tell 7 = .ok (.iload_n 2, 1) := by decide +kernel
theorem dX9_tell_8 : decode cX9_tell 8 = .ok (.ifCond .lt 26, 3) := by decide +kernel
theorem dX9_tell_11 : decode cX9_tell 11 = .ok (.iload_n 2, 1) := by decide +kernel
theorem dX9_tell_12 : decode cX9_tell 12 = .ok (.aload_n 0, 1) := by decide +kernel
theorem dX9_tell_13 : decode cX9_tell 13 = .ok (.getfield 83, 3) := by decide +kernel
theorem dX9_tell_16 : decode cX9_tell 16 = .ok (.if_icmp .ge 18, 3) := by decide +kernel
theorem dX9_tell_19 : decode cX9_tell 19 = .ok (.aload_n 0, 1) := by decide +kernel
theorem dX9_tell_20 : decode cX9_tell 20 = .ok (.iload_n 1, 1) := by decide +kernel
theorem dX9_tell_21 : decode cX9_tell 21 = .ok (.putfield 80, 3) := by decide +kernel
theorem dX9_tell_24 : decode cX9_tell 24 = .ok (.aload_n 0, 1) := by decide +kernel
theorem dX9_tell_25 : decode cX9_tell 25 = .ok (.aload_n 0, 1) := by decide +kernel
theorem dX9_tell_26 : decode cX9_tell 26 = .ok (.getfield 19, 3) := by decide +kernel
theorem dX9_tell_29 : decode cX9_tell 29 = .ok (.iload_n 2, 1) := by decide +kernel
theorem dX9_tell_30 : decode cX9_tell 30 = .ok (.iaload, 1) := by decide +kernel
theorem dX9_tell_31 : decode cX9_tell 31 = .ok (.putfield 41, 3) := by decide +kernel
theorem dX9_tell_34 : decode cX9_tell 34 = .ok (.return_, 1) := by decide +kernel
theorem dX9_tellHere_0 : decode cX9_tellHere 0 = .ok (.aload_n 0, 1) := by decide +kernel
theorem dX9_tellHere_1 : decode cX9_tellHere 1 = .ok (.getfield 80, 3) := by decide +kernel
theorem dX9_tellHere_4 : decode cX9_tellHere 4 = .ok (.ifCond .ne 56, 3) := by decide +kernel
theorem dX9_tellHere_7 : decode cX9_tellHere 7 = .ok (.aload_n 0, 1) := by decide +kernel
theorem dX9_tellHere_8 : decode cX9_tellHere 8 = .ok (.getfield 86, 3) := by decide +kernel
theorem dX9_tellHere_11 : decode cX9_tellHere 11 = .ok (.ifCond .lt 49, 3) := by decide +kernel
theorem dX9_tellHere_14 : decode cX9_tellHere 14 = .ok (.aload_n 0, 1) := by decide +kernel
theorem dX9_tellHere_15 : decode cX9_tellHere 15 = .ok (.getfield 86, 3) := by decide +kernel
theorem dX9_tellHere_18 : decode cX9_tellHere 18 = .ok (.aload_n 0, 1) := by decide +kernel
theorem dX9_tellHere_19 : decode cX9_tellHere 19 = .ok (.getfield 83, 3) := by decide +kernel
theorem dX9_tellHere_22 : decode cX9_tellHere 22 = .ok (.if_icmp .ge 38, 3) := by decide +kernel
theorem dX9_tellHere_25 : decode cX9_tellHere 25 = .ok (.aload_n 0, 1) := by decide +kernel
theorem dX9_tellHere_26 : decode cX9_tellHere 26 = .ok (.aload_n 0, 1) := by decide +kernel
theorem dX9_tellHere_27 : decode cX9_tellHere 27 = .ok (.getfield 15, 3) := by decide +kernel
theorem dX9_tellHere_30 : decode cX9_tellHere 30 = .ok (.aload_n 0, 1) := by decide +kernel
theorem dX9_tellHere_31 : decode cX9_tellHere 31 = .ok (.getfield 86, 3) := by decide +kernel
theorem dX9_tellHere_34 : decode cX9_tellHere 34 = .ok (.iaload, 1) := by decide +kernel
theorem dX9_tellHere_35 : decode cX9_tellHere 35 = .ok (.iconst 1, 1) := by decide +kernel
theorem dX9_tellHere_36 : decode cX9_tellHere 36 = .ok (.if_icmp .ne 7, 3) := by decide +kernel
theorem dX9_tellHere_39 : decode cX9_tellHere 39 = .ok (.iconst 1, 1) := by decide +kernel
theorem dX9_tellHere_40 : decode cX9_tellHere 40 = .ok (.goto 4, 3) := by decide +kernel
theorem dX9_tellHere_43 : decode cX9_tellHere 43 = .ok (.iload_n 1, 1) := by decide +kernel
theorem dX9_tellHere_44 : decode cX9_tellHere 44 = .ok (.putfield 80, 3) := by decide +kernel
theorem dX9_tellHere_47 : decode cX9_tellHere 47 = .ok (.aload_n 0, 1) := by decide +kernel
theorem dX9_tellHere_48 : decode cX9_tellHere 48 = .ok (.aload_n 0, 1) := by decide +kernel
theorem dX9_tellHere_49 : decode cX9_tellHere 49 = .ok (.getfield 19, 3) := by decide +kernel
theorem dX9_tellHere_52 : decode cX9_tellHere 52 = .ok (.aload_n 0, 1) := by decide +kernel
theorem dX9_tellHere_53 : decode cX9_tellHere 53 = .ok (.getfield 86, 3) := by decide +kernel
theorem dX9_tellHere_56 : decode cX9_tellHere 56 = .ok (.iaload, 1) := by decide +kernel
theorem dX9_tellHere_57 : decode cX9_tellHere 57 = .ok (.putfield 41, 3) := by decide +kernel
theorem dX9_tellHere_60 : decode cX9_tellHere 60 = .ok (.return_, 1) := by decide +kernel
theorem dX9_kindAt_0 : decode cX9_kindAt 0 = .ok (.iload_n 1, 1) := by decide +kernel
theorem dX9_kindAt_1 : decode cX9_kindAt 1 = .ok (.ifCond .lt 20, 3) := by decide +kernel
theorem dX9_kindAt_4 : decode cX9_kindAt 4 = .ok (.iload_n 1, 1) := by decide +kernel
theorem dX9_kindAt_5 : decode cX9_kindAt 5 = .ok (.aload_n 0, 1) := by decide +kernel
theorem dX9_kindAt_6 : decode cX9_kindAt 6 = .ok (.getfield 83, 3) := by decide +kernel
theorem dX9_kindAt_9 : decode cX9_kindAt 9 = .ok (.if_icmp .ge 12, 3) := by decide +kernel
theorem dX9_kindAt_12 : decode cX9_kindAt 12 = .ok (.aload_n 0, 1) := by decide +kernel
theorem dX9_kindAt_13 : decode cX9_kindAt 13 = .ok (.getfield 15, 3) := by decide +kernel
theorem dX9_kindAt_16 : decode cX9_kindAt 16 = .ok (.iload_n 1, 1) := by decide +kernel
theorem dX9_kindAt_17 : decode cX9_kindAt 17 = .ok (.iaload, 1) := by decide +kernel
theorem dX9_kindAt_18 : decode cX9_kindAt 18 = .ok (.goto 4, 3) := by decide +kernel
theorem dX9_kindAt_21 : decode cX9_kindAt 21 = .ok (.iconst 0, 1) := by decide +kernel
theorem dX9_kindAt_22 : decode cX9_kindAt 22 = .ok (.ireturn, 1) := by decide +kernel
theorem dX9_valueAt_0 : decode cX9_valueAt 0 = .ok (.iload_n 1, 1) := by decide +kernel
theorem dX9_valueAt_1 : decode cX9_valueAt 1 = .ok (.ifCond .lt 20, 3) := by decide +kernel
theorem dX9_valueAt_4 : decode cX9_valueAt 4 = .ok (.iload_n 1, 1) := by decide +kernel
theorem dX9_valueAt_5 : decode cX9_valueAt 5 = .ok (.aload_n 0, 1) := by decide +kernel
theorem dX9_valueAt_6 : decode cX9_valueAt 6 = .ok (.getfield 83, 3) := by decide +kernel
theorem dX9_valueAt_9 : decode cX9_valueAt 9 = .ok (.if_icmp .ge 12, 3) := by decide +kernel
theorem dX9_valueAt_12 : decode cX9_valueAt 12 = .ok (.aload_n 0, 1) := by decide +kernel
theorem dX9_valueAt_13 : decode cX9_valueAt 13 = .ok (.getfield 22, 3) := by decide +kernel
theorem dX9_valueAt_16 : decode cX9_valueAt 16 = .ok (.iload_n 1, 1) := by decide +kernel
theorem dX9_valueAt_17 : decode cX9_valueAt 17 = .ok (.iaload, 1) := by decide +kernel
theorem dX9_valueAt_18 : decode cX9_valueAt 18 = .ok (.goto 4, 3) := by decide +kernel
theorem dX9_valueAt_21 : decode cX9_valueAt 21 = .ok (.iconst 0, 1) := by decide +kernel
theorem dX9_valueAt_22 : decode cX9_valueAt 22 = .ok (.ireturn, 1) := by decide +kernel
theorem dX9_kind_0 : decode cX9_kind 0 = .ok (.aload_n 0, 1) := by decide +kernel
theorem dX9_kind_1 : decode cX9_kind 1 = .ok (.getfield 80, 3) := by decide +kernel
theorem dX9_kind_4 : decode cX9_kind 4 = .ok (.ifCond .ne 33, 3) := by decide +kernel
theorem dX9_kind_7 : decode cX9_kind 7 = .ok (.aload_n 0, 1) := by decide +kernel
theorem dX9_kind_8 : decode cX9_kind 8 = .ok (.getfield 86, 3) := by decide +kernel
theorem dX9_kind_11 : decode cX9_kind 11 = .ok (.ifCond .lt 26, 3) := by decide +kernel
theorem dX9_kind_14 : decode cX9_kind 14 = .ok (.aload_n 0, 1) := by decide +kernel
theorem dX9_kind_15 : decode cX9_kind 15 = .ok (.getfield 86, 3) := by decide +kernel
theorem dX9_kind_18 : decode cX9_kind 18 = .ok (.aload_n 0, 1) := by decide +kernel
theorem dX9_kind_19 : decode cX9_kind 19 = .ok (.getfield 83, 3) := by decide +kernel
theorem dX9_kind_22 : decode cX9_kind 22 = .ok (.if_icmp .ge 15, 3) := by decide +kernel
theorem dX9_kind_25 : decode cX9_kind 25 = .ok (.aload_n 0, 1) := by decide +kernel
theorem dX9_kind_26 : decode cX9_kind 26 = .ok (.getfield 15, 3) := by decide +kernel
theorem dX9_kind_29 : decode cX9_kind 29 = .ok (.aload_n 0, 1) := by decide +kernel
theorem dX9_kind_30 : decode cX9_kind 30 = .ok (.getfield 86, 3) := by decide +kernel
theorem dX9_kind_33 : decode cX9_kind 33 = .ok (.iaload, 1) := by decide +kernel
theorem dX9_kind_34 : decode cX9_kind 34 = .ok (.goto 4, 3) := by decide +kernel
theorem dX9_kind_37 : decode cX9_kind 37 = .ok (.iconst 0, 1) := by decide +kernel
theorem dX9_kind_38 : decode cX9_kind 38 = .ok (.ireturn, 1) := by decide +kernel
theorem dX9_nameLength_0 : decode cX9_nameLength 0 = .ok (.iload_n 1, 1) := by decide +kernel
theorem dX9_nameLength_1 : decode cX9_nameLength 1 = .ok (.ifCond .lt 29, 3) := by decide +kernel
theorem dX9_nameLength_4 : decode cX9_nameLength 4 = .ok (.iload_n 1, 1) := by decide +kernel
theorem dX9_nameLength_5 : decode cX9_nameLength 5 = .ok (.aload_n 0, 1) := by decide +kernel
theorem dX9_nameLength_6 : decode cX9_nameLength 6 = .ok (.getfield 73, 3) := by decide +kernel
theorem dX9_nameLength_9 : decode cX9_nameLength 9 = .ok (.if_icmp .ge 21, 3) := by decide +kernel
theorem dX9_nameLength_12 : decode cX9_nameLength 12 = .ok (.aload_n 0, 1) := by decide +kernel
theorem dX9_nameLength_13 : decode cX9_nameLength 13 = .ok (.getfield 29, 3) := by decide +kernel
theorem dX9_nameLength_16 : decode cX9_nameLength 16 = .ok (.iload_n 1, 1) := by decide +kernel
theorem dX9_nameLength_17 : decode cX9_nameLength 17 = .ok (.iconst 1, 1) := by decide +kernel
theorem dX9_nameLength_18 : decode cX9_nameLength 18 = .ok (.iadd, 1) := by decide +kernel
theorem dX9_nameLength_19 : decode cX9_nameLength 19 = .ok (.iaload, 1) := by decide +kernel
theorem dX9_nameLength_20 : decode cX9_nameLength 20 = .ok (.aload_n 0, 1) := by decide +kernel
theorem dX9_nameLength_21 : decode cX9_nameLength 21 = .ok (.getfield 29, 3) := by decide +kernel
theorem dX9_nameLength_24 : decode cX9_nameLength 24 = .ok (.iload_n 1, 1) := by decide +kernel
theorem dX9_nameLength_25 : decode cX9_nameLength 25 = .ok (.iaload, 1) := by decide +kernel
theorem dX9_nameLength_26 : decode cX9_nameLength 26 = .ok (.isub, 1) := by decide +kernel
theorem dX9_nameLength_27 : decode cX9_nameLength 27 = .ok (.goto 4, 3) := by decide +kernel
theorem dX9_nameLength_30 : decode cX9_nameLength 30 = .ok (.iconst 0, 1) := by decide +kernel
theorem dX9_nameLength_31 : decode cX9_nameLength 31 = .ok (.ireturn, 1) := by decide +kernel
theorem dX9_addToken_0 : decode cX9_addToken 0 = .ok (.aload_n 0, 1) := by decide +kernel
theorem dX9_addToken_1 : decode cX9_addToken 1 = .ok (.getfield 83, 3) := by decide +kernel
theorem dX9_addToken_4 : decode cX9_addToken 4 = .ok (.aload_n 0, 1) := by decide +kernel
theorem dX9_addToken_5 : decode cX9_addToken 5 = .ok (.getfield 15, 3) := by decide +kernel
theorem dX9_addToken_8 : decode cX9_addToken 8 = .ok (.arraylength, 1) := by decide +kernel
theorem dX9_addToken_9 : decode cX9_addToken 9 = .ok (.if_icmp .ge 43, 3) := by decide +kernel
theorem dX9_addToken_12 : decode cX9_addToken 12 = .ok (.aload_n 0, 1) := by decide +kernel
theorem dX9_addToken_13 : decode cX9_addToken 13 = .ok (.getfield 15, 3) := by decide +kernel
theorem dX9_addToken_16 : decode cX9_addToken 16 = .ok (.aload_n 0, 1) := by decide +kernel
theorem dX9_addToken_17 : decode cX9_addToken 17 = .ok (.getfield 83, 3) := by decide +kernel
theorem dX9_addToken_20 : decode cX9_addToken 20 = .ok (.iload_n 1, 1) := by decide +kernel
theorem dX9_addToken_21 : decode cX9_addToken 21 = .ok (.iastore, 1) := by decide +kernel
theorem dX9_addToken_22 : decode cX9_addToken 22 = .ok (.aload_n 0, 1) := by decide +kernel
theorem dX9_addToken_23 : decode cX9_addToken 23 = .ok (.getfield 19, 3) := by decide +kernel
theorem dX9_addToken_26 : decode cX9_addToken 26 = .ok (.aload_n 0, 1) := by decide +kernel
theorem dX9_addToken_27 : decode cX9_addToken 27 = .ok (.getfield 83, 3) := by decide +kernel
theorem dX9_addToken_30 : decode cX9_addToken 30 = .ok (.iload_n 2, 1) := by decide +kernel
theorem dX9_addToken_31 : decode cX9_addToken 31 = .ok (.iastore, 1) := by decide +kernel
theorem dX9_addToken_32 : decode cX9_addToken 32 = .ok (.aload_n 0, 1) := by decide +kernel
theorem dX9_addToken_33 : decode cX9_addToken 33 = .ok (.getfield 22, 3) := by decide +kernel
theorem dX9_addToken_36 : decode cX9_addToken 36 = .ok (.aload_n 0, 1) := by decide +kernel
theorem dX9_addToken_37 : decode cX9_addToken 37 = .ok (.getfield 83, 3) := by decide +kernel
theorem dX9_addToken_40 : decode cX9_addToken 40 = .ok (.iload_n 3, 1) := by decide +kernel
theorem dX9_addToken_41 : decode cX9_addToken 41 = .ok (.iastore, 1) := by decide +kernel
theorem dX9_addToken_42 : decode cX9_addToken 42 = .ok (.aload_n 0, 1) := by decide +kernel
theorem dX9_addToken_43 : decode cX9_addToken 43 = .ok (.dup, 1) := by decide +kernel
theorem dX9_addToken_44 : decode cX9_addToken 44 = .ok (.getfield 83, 3) := by decide +kernel
theorem dX9_addToken_47 : decode cX9_addToken 47 = .ok (.iconst 1, 1) := by decide +kernel
theorem dX9_addToken_48 : decode cX9_addToken 48 = .ok (.iadd, 1) := by decide +kernel
theorem dX9_addToken_49 : decode cX9_addToken 49 = .ok (.putfield 83, 3) := by decide +kernel
theorem dX9_addToken_52 : decode cX9_addToken 52 = .ok (.return_, 1) := by decide +kernel
theorem dX9_behindBlanks_0 : decode cX9_behindBlanks 0 = .ok (.iload_n 2, 1) := by decide +kernel
theorem dX9_behindBlanks_1 : decode cX9_behindBlanks 1 = .ok (.istore_n 3, 1) := by decide +kernel
theorem dX9_behindBlanks_2 : decode cX9_behindBlanks 2 = .ok (.iconst 0, 1) := by decide +kernel
theorem dX9_behindBlanks_3 : decode cX9_behindBlanks 3 = .ok (.istore 4, 2) := by decide +kernel
theorem dX9_behindBlanks_5 : decode cX9_behindBlanks 5 = .ok (.iload_n 3, 1) := by decide +kernel
theorem dX9_behindBlanks_6 : decode cX9_behindBlanks 6 = .ok (.iload_n 1, 1) := by decide +kernel
theorem dX9_behindBlanks_7 : decode cX9_behindBlanks 7 = .ok (.if_icmp .ge 71, 3) := by decide +kernel
theorem dX9_behindBlanks_10 : decode cX9_behindBlanks 10 = .ok (.aload_n 0, 1) := by decide +kernel
theorem dX9_behindBlanks_11 : decode cX9_behindBlanks 11 = .ok (.iload_n 3, 1) := by decide +kernel
theorem dX9_behindBlanks_12 : decode cX9_behindBlanks 12 = .ok (.baload, 1) := by decide +kernel
theorem dX9_behindBlanks_13 : decode cX9_behindBlanks 13 = .ok (.istore 5, 2) := by decide +kernel
theorem dX9_behindBlanks_15 : decode cX9_behindBlanks 15 = .ok (.iload 5, 2) := by decide +kernel
theorem dX9_behindBlanks_17 : decode cX9_behindBlanks 17 = .ok (.bipush 47, 2) := by decide +kernel
theorem dX9_behindBlanks_19 : decode cX9_behindBlanks 19 = .ok (.if_icmp .ne 26, 3) := by decide +kernel
theorem dX9_behindBlanks_22 : decode cX9_behindBlanks 22 = .ok (.iload_n 3, 1) := by decide +kernel
theorem dX9_behindBlanks_23 : decode cX9_behindBlanks 23 = .ok (.iconst 1, 1) := by decide +kernel
theorem dX9_behindBlanks_24 : decode cX9_behindBlanks 24 = .ok (.iadd, 1) := by decide +kernel
theorem dX9_behindBlanks_25 : decode cX9_behindBlanks 25 = .ok (.iload_n 1, 1) := by decide +kernel
theorem dX9_behindBlanks_26 : decode cX9_behindBlanks 26 = .ok (.if_icmp .ge 19, 3) := by decide +kernel
theorem dX9_behindBlanks_29 : decode cX9_behindBlanks 29 = .ok (.aload_n 0, 1) := by decide +kernel
theorem dX9_behindBlanks_30 : decode cX9_behindBlanks 30 = .ok (.iload_n 3, 1) := by decide +kernel
theorem dX9_behindBlanks_31 : decode cX9_behindBlanks 31 = .ok (.iconst 1, 1) := by decide +kernel
theorem dX9_behindBlanks_32 : decode cX9_behindBlanks 32 = .ok (.iadd, 1) := by decide +kernel
theorem dX9_behindBlanks_33 : decode cX9_behindBlanks 33 = .ok (.baload, 1) := by decide +kernel
theorem dX9_behindBlanks_34 : decode cX9_behindBlanks 34 = .ok (.bipush 47, 2) := by decide +kernel
theorem dX9_behindBlanks_36 : decode cX9_behindBlanks 36 = .ok (.if_icmp .ne 9, 3) := by decide +kernel
theorem dX9_behindBlanks_39 : decode cX9_behindBlanks 39 = .ok (.iconst 1, 1) := by decide +kernel
theorem dX9_behindBlanks_40 : decode cX9_behindBlanks 40 = .ok (.istore 4, 2) := by decide +kernel
theorem dX9_behindBlanks_42 : decode cX9_behindBlanks 42 = .ok (.goto 30, 3) := by decide +kernel
theorem dX9_behindBlanks_45 : decode cX9_behindBlanks 45 = .ok (.iload 5, 2) := by decide +kernel
theorem dX9_behindBlanks_47 : decode cX9_behindBlanks 47 = .ok (.bipush 10, 2) := by decide +kernel
theorem dX9_behindBlanks_49 : decode cX9_behindBlanks 49 = .ok (.if_icmp .ne 9, 3) := by decide +kernel
theorem dX9_behindBlanks_52 : decode cX9_behindBlanks 52 = .ok (.iconst 0, 1) := by decide +kernel
theorem dX9_behindBlanks_53 : decode cX9_behindBlanks 53 = .ok (.istore 4, 2) := by decide +kernel
theorem dX9_behindBlanks_55 : decode cX9_behindBlanks 55 = .ok (.goto 17, 3) := by decide +kernel
theorem dX9_behindBlanks_58 : decode cX9_behindBlanks 58 = .ok (.iload 5, 2) := by decide +kernel
theorem dX9_behindBlanks_60 : decode cX9_behindBlanks 60 = .ok (.bipush 32, 2) := by decide +kernel
theorem dX9_behindBlanks_62 : decode cX9_behindBlanks 62 = .ok (.if_icmp .eq 10, 3) := by decide +kernel
theorem dX9_behindBlanks_65 : decode cX9_behindBlanks 65 = .ok (.iload 4, 2) := by decide +kernel
theorem dX9_behindBlanks_67 : decode cX9_behindBlanks 67 = .ok (.ifCond .ne 5, 3) := by decide +kernel
theorem dX9_behindBlanks_70 : decode cX9_behindBlanks 70 = .ok (.iload_n 3, 1) := by decide +kernel
theorem dX9_behindBlanks_71 : decode cX9_behindBlanks 71 = .ok (.ireturn, 1) := by decide +kernel
theorem dX9_behindBlanks_72 : decode cX9_behindBlanks 72 = .ok (.iinc 3 1, 3) := by decide +kernel
theorem dX9_behindBlanks_75 : decode cX9_behindBlanks 75 = .ok (.goto (-70), 3) := by decide +kernel
theorem dX9_behindBlanks_78 : decode cX9_behindBlanks 78 = .ok (.iload_n 3, 1) := by decide +kernel
theorem dX9_behindBlanks_79 : decode cX9_behindBlanks 79 = .ok (.ireturn, 1) := by decide +kernel
theorem dX9_isLetter_0 : decode cX9_isLetter 0 = .ok (.iload_n 0, 1) := by decide +kernel
theorem dX9_isLetter_1 : decode cX9_isLetter 1 = .ok (.bipush 97, 2) := by decide +kernel
theorem dX9_isLetter_3 : decode cX9_isLetter 3 = .ok (.if_icmp .lt 9, 3) := by decide +kernel
theorem dX9_isLetter_6 : decode cX9_isLetter 6 = .ok (.iload_n 0, 1) := by decide +kernel
theorem dX9_isLetter_7 : decode cX9_isLetter 7 = .ok (.bipush 122, 2) := by decide +kernel
theorem dX9_isLetter_9 : decode cX9_isLetter 9 = .ok (.if_icmp .le 15, 3) := by decide +kernel
theorem dX9_isLetter_12 : decode cX9_isLetter 12 = .ok (.iload_n 0, 1) := by decide +kernel
theorem dX9_isLetter_13 : decode cX9_isLetter 13 = .ok (.bipush 65, 2) := by decide +kernel
theorem dX9_isLetter_15 : decode cX9_isLetter 15 = .ok (.if_icmp .lt 13, 3) := by decide +kernel
theorem dX9_isLetter_18 : decode cX9_isLetter 18 = .ok (.iload_n 0, 1) := by decide +kernel
theorem dX9_isLetter_19 : decode cX9_isLetter 19 = .ok (.bipush 90, 2) := by decide +kernel
theorem dX9_isLetter_21 : decode cX9_isLetter 21 = .ok (.if_icmp .gt 7, 3) := by decide +kernel
theorem dX9_isLetter_24 : decode cX9_isLetter 24 = .ok (.iconst 1, 1) := by decide +kernel
theorem dX9_isLetter_25 : decode cX9_isLetter 25 = .ok (.goto 4, 3) := by decide +kernel
theorem dX9_isLetter_28 : decode cX9_isLetter 28 = .ok (.iconst 0, 1) := by decide +kernel
theorem dX9_isLetter_29 : decode cX9_isLetter 29 = .ok (.ireturn, 1) := by decide +kernel
theorem dX9_isDigit_0 : decode cX9_isDigit 0 = .ok (.iload_n 0, 1) := by decide +kernel
theorem dX9_isDigit_1 : decode cX9_isDigit 1 = .ok (.bipush 48, 2) := by decide +kernel
theorem dX9_isDigit_3 : decode cX9_isDigit 3 = .ok (.if_icmp .lt 13, 3) := by decide +kernel
theorem dX9_isDigit_6 : decode cX9_isDigit 6 = .ok (.iload_n 0, 1) := by decide +kernel
theorem dX9_isDigit_7 : decode cX9_isDigit 7 = .ok (.bipush 57, 2) := by decide +kernel
theorem dX9_isDigit_9 : decode cX9_isDigit 9 = .ok (.if_icmp .gt 7, 3) := by decide +kernel
theorem dX9_isDigit_12 : decode cX9_isDigit 12 = .ok (.iconst 1, 1) := by decide +kernel
theorem dX9_isDigit_13 : decode cX9_isDigit 13 = .ok (.goto 4, 3) := by decide +kernel
theorem dX9_isDigit_16 : decode cX9_isDigit 16 = .ok (.iconst 0, 1) := by decide +kernel
theorem dX9_isDigit_17 : decode cX9_isDigit 17 = .ok (.ireturn, 1) := by decide +kernel
theorem dX9_isNamePart_0 : decode cX9_isNamePart 0 = .ok (.iload_n 0, 1) := by decide +kernel
theorem dX9_isNamePart_1 : decode cX9_isNamePart 1 = .ok (.invokestatic 103, 3) := by decide +kernel
theorem dX9_isNamePart_4 : decode cX9_isNamePart 4 = .ok (.ifCond .ne 16, 3) := by decide +kernel
theorem dX9_isNamePart_7 : decode cX9_isNamePart 7 = .ok (.iload_n 0, 1) := by decide +kernel
theorem dX9_isNamePart_8 : decode cX9_isNamePart 8 = .ok (.invokestatic 110, 3) := by decide +kernel
theorem dX9_isNamePart_11 : decode cX9_isNamePart 11 = .ok (.ifCond .ne 9, 3) := by decide +kernel
theorem dX9_isNamePart_14 : decode cX9_isNamePart 14 = .ok (.iload_n 0, 1) := by decide +kernel
theorem dX9_isNamePart_15 : decode cX9_isNamePart 15 = .ok (.bipush 95, 2) := by decide +kernel
theorem dX9_isNamePart_17 : decode cX9_isNamePart 17 = .ok (.if_icmp .ne 7, 3) := by decide +kernel
theorem dX9_isNamePart_20 : decode cX9_isNamePart 20 = .ok (.iconst 1, 1) := by decide +kernel
theorem dX9_isNamePart_21 : decode cX9_isNamePart 21 = .ok (.goto 4, 3) := by decide +kernel
theorem dX9_isNamePart_24 : decode cX9_isNamePart 24 = .ok (.iconst 0, 1) := by decide +kernel
theorem dX9_isNamePart_25 : decode cX9_isNamePart 25 = .ok (.ireturn, 1) := by decide +kernel
theorem dX9_isName_0 : decode cX9_isName 0 = .ok (.iload_n 1, 1) := by decide +kernel
theorem dX9_isName_1 : decode cX9_isName 1 = .ok (.ifCond .lt 26, 3) := by decide +kernel
theorem dX9_isName_4 : decode cX9_isName 4 = .ok (.iload_n 1, 1) := by decide +kernel
theorem dX9_isName_5 : decode cX9_isName 5 = .ok (.iload_n 2, 1) := by decide +kernel
theorem dX9_isName_6 : decode cX9_isName 6 = .ok (.if_icmp .ge 21, 3) := by decide +kernel
theorem dX9_isName_9 : decode cX9_isName 9 = .ok (.iload_n 2, 1) := by decide +kernel
theorem dX9_isName_10 : decode cX9_isName 10 = .ok (.aload_n 0, 1) := by decide +kernel
theorem dX9_isName_11 : decode cX9_isName 11 = .ok (.arraylength, 1) := by decide +kernel
theorem dX9_isName_12 : decode cX9_isName 12 = .ok (.if_icmp .gt 15, 3) := by decide +kernel
theorem dX9_isName_15 : decode cX9_isName 15 = .ok (.iload_n 2, 1) := by decide +kernel
theorem dX9_isName_16 : decode cX9_isName 16 = .ok (.iload_n 1, 1) := by decide +kernel
theorem dX9_isName_17 : decode cX9_isName 17 = .ok (.isub, 1) := by decide +kernel
theorem dX9_isName_18 : decode cX9_isName 18 = .ok (.bipush 12, 2) := by decide +kernel
theorem dX9_isName_20 : decode cX9_isName 20 = .ok (.if_icmp .gt 7, 3) := by decide +kernel
theorem dX9_isName_23 : decode cX9_isName 23 = .ok (.iconst 1, 1) := by decide +kernel
theorem dX9_isName_24 : decode cX9_isName 24 = .ok (.goto 4, 3) := by decide +kernel
theorem dX9_isName_27 : decode cX9_isName 27 = .ok (.iconst 0, 1) := by decide +kernel
theorem dX9_isName_28 : decode cX9_isName 28 = .ok (.istore_n 3, 1) := by decide +kernel
theorem dX9_isName_29 : decode cX9_isName 29 = .ok (.iload_n 1, 1) := by decide +kernel
theorem dX9_isName_30 : decode cX9_isName 30 = .ok (.istore 4, 2) := by decide +kernel
theorem dX9_isName_32 : decode cX9_isName 32 = .ok (.iload 4, 2) := by decide +kernel
theorem dX9_isName_34 : decode cX9_isName 34 = .ok (.iload_n 2, 1) := by decide +kernel
theorem dX9_isName_35 : decode cX9_isName 35 = .ok (.if_icmp .ge 92, 3) := by decide +kernel
theorem dX9_isName_38 : decode cX9_isName 38 = .ok (.iload_n 3, 1) := by decide +kernel
theorem dX9_isName_39 : decode cX9_isName 39 = .ok (.ifCond .eq 88, 3) := by decide +kernel
theorem dX9_isName_42 : decode cX9_isName 42 = .ok (.aload_n 0, 1) := by decide +kernel
theorem dX9_isName_43 : decode cX9_isName 43 = .ok (.iload 4, 2) := by decide +kernel
theorem dX9_isName_45 : decode cX9_isName 45 = .ok (.baload, 1) := by decide +kernel
theorem dX9_isName_46 : decode cX9_isName 46 = .ok (.istore 5, 2) := by decide +kernel
theorem dX9_isName_48 : decode cX9_isName 48 = .ok (.iload 5, 2) := by decide +kernel
theorem dX9_isName_50 : decode cX9_isName 50 = .ok (.bipush 97, 2) := by decide +kernel
theorem dX9_isName_52 : decode cX9_isName 52 = .ok (.if_icmp .lt 10, 3) := by decide +kernel
theorem dX9_isName_55 : decode cX9_isName 55 = .ok (.iload 5, 2) := by decide +kernel
theorem dX9_isName_57 : decode cX9_isName 57 = .ok (.bipush 122, 2) := by decide +kernel
theorem dX9_isName_59 : decode cX9_isName 59 = .ok (.if_icmp .le 17, 3) := by decide +kernel
theorem dX9_isName_62 : decode cX9_isName 62 = .ok (.iload 5, 2) := by decide +kernel
theorem dX9_isName_64 : decode cX9_isName 64 = .ok (.bipush 65, 2) := by decide +kernel
theorem dX9_isName_66 : decode cX9_isName 66 = .ok (.if_icmp .lt 14, 3) := by decide +kernel
theorem dX9_isName_69 : decode cX9_isName 69 = .ok (.iload 5, 2) := by decide +kernel
theorem dX9_isName_71 : decode cX9_isName 71 = .ok (.bipush 90, 2) := by decide +kernel
theorem dX9_isName_73 : decode cX9_isName 73 = .ok (.if_icmp .gt 7, 3) := by decide +kernel
theorem dX9_isName_76 : decode cX9_isName 76 = .ok (.iconst 1, 1) := by decide +kernel
theorem dX9_isName_77 : decode cX9_isName 77 = .ok (.goto 4, 3) := by decide +kernel
theorem dX9_isName_80 : decode cX9_isName 80 = .ok (.iconst 0, 1) := by decide +kernel
theorem dX9_isName_81 : decode cX9_isName 81 = .ok (.istore 6, 2) := by decide +kernel
theorem dX9_isName_83 : decode cX9_isName 83 = .ok (.iload 6, 2) := by decide +kernel
theorem dX9_isName_85 : decode cX9_isName 85 = .ok (.ifCond .ne 30, 3) := by decide +kernel
theorem dX9_isName_88 : decode cX9_isName 88 = .ok (.iload 4, 2) := by decide +kernel
theorem dX9_isName_90 : decode cX9_isName 90 = .ok (.iload_n 1, 1) := by decide +kernel
theorem dX9_isName_91 : decode cX9_isName 91 = .ok (.if_icmp .le 28, 3) := by decide +kernel
theorem dX9_isName_94 : decode cX9_isName 94 = .ok (.iload 5, 2) := by decide +kernel
theorem dX9_isName_96 : decode cX9_isName 96 = .ok (.bipush 48, 2) := by decide +kernel
theorem dX9_isName_98 : decode cX9_isName 98 = .ok (.if_icmp .lt 10, 3) := by decide +kernel
theorem dX9_isName_101 : decode cX9_isName 101 = .ok (.iload 5, 2) := by decide +kernel
theorem dX9_isName_103 : decode cX9_isName 103 = .ok (.bipush 57, 2) := by decide +kernel
theorem dX9_isName_105 : decode cX9_isName 105 = .ok (.if_icmp .le 10, 3) := by decide +kernel
theorem dX9_isName_108 : decode cX9_isName 108 = .ok (.iload 5, 2) := by decide +kernel
theorem dX9_isName_110 : decode cX9_isName 110 = .ok (.bipush 95, 2) := by decide +kernel
theorem dX9_isName_112 : decode cX9_isName 112 = .ok (.if_icmp .ne 7, 3) := by decide +kernel
theorem dX9_isName_115 : decode cX9_isName 115 = .ok (.iconst 1, 1) := by decide +kernel
theorem dX9_isName_116 : decode cX9_isName 116 = .ok (.goto 4, 3) := by decide +kernel
theorem dX9_isName_119 : decode cX9_isName 119 = .ok (.iconst 0, 1) := by decide +kernel
theorem dX9_isName_120 : decode cX9_isName 120 = .ok (.istore_n 3, 1) := by decide +kernel
theorem dX9_isName_121 : decode cX9_isName 121 = .ok (.iinc 4 1, 3) := by decide +kernel
theorem dX9_isName_124 : decode cX9_isName 124 = .ok (.goto (-92), 3) := by decide +kernel
theorem dX9_isName_127 : decode cX9_isName 127 = .ok (.iload_n 3, 1) := by decide +kernel
theorem dX9_isName_128 : decode cX9_isName 128 = .ok (.ireturn, 1) := by decide +kernel
theorem dX9_isNamed_0 : decode cX9_isNamed 0 = .ok (.aload_n 0, 1) := by decide +kernel
theorem dX9_isNamed_1 : decode cX9_isNamed 1 = .ok (.getfield 29, 3) := by decide +kernel
theorem dX9_isNamed_4 : decode cX9_isNamed 4 = .ok (.iload_n 1, 1) := by decide +kernel
theorem dX9_isNamed_5 : decode cX9_isNamed 5 = .ok (.iaload, 1) := by decide +kernel
theorem dX9_isNamed_6 : decode cX9_isNamed 6 = .ok (.istore 5, 2) := by decide +kernel
theorem dX9_isNamed_8 : decode cX9_isNamed 8 = .ok (.aload_n 0, 1) := by decide +kernel
theorem dX9_isNamed_9 : decode cX9_isNamed 9 = .ok (.getfield 29, 3) := by decide +kernel
theorem dX9_isNamed_12 : decode cX9_isNamed 12 = .ok (.iload_n 1, 1) := by decide +kernel
theorem dX9_isNamed_13 : decode cX9_isNamed 13 = .ok (.iconst 1, 1) := by decide +kernel
theorem dX9_isNamed_14 : decode cX9_isNamed 14 = .ok (.iadd, 1) := by decide +kernel
theorem dX9_isNamed_15 : decode cX9_isNamed 15 = .ok (.iaload, 1) := by decide +kernel
theorem dX9_isNamed_16 : decode cX9_isNamed 16 = .ok (.iload 5, 2) := by decide +kernel
theorem dX9_isNamed_18 : decode cX9_isNamed 18 = .ok (.isub, 1) := by decide +kernel
theorem dX9_isNamed_19 : decode cX9_isNamed 19 = .ok (.iload 4, 2) := by decide +kernel
theorem dX9_isNamed_21 : decode cX9_isNamed 21 = .ok (.if_icmp .eq 5, 3) := by decide +kernel
theorem dX9_isNamed_24 : decode cX9_isNamed 24 = .ok (.iconst 0, 1) := by decide +kernel
theorem dX9_isNamed_25 : decode cX9_isNamed 25 = .ok (.ireturn, 1) := by decide +kernel
theorem dX9_isNamed_26 : decode cX9_isNamed 26 = .ok (.iconst 0, 1) := by decide +kernel
theorem dX9_isNamed_27 : decode cX9_isNamed 27 = .ok (.istore 6, 2) := by decide +kernel
theorem dX9_isNamed_29 : decode cX9_isNamed 29 = .ok (.iload 6, 2) := by decide +kernel
theorem dX9_isNamed_31 : decode cX9_isNamed 31 = .ok (.iload 4, 2) := by decide +kernel
theorem dX9_isNamed_33 : decode cX9_isNamed 33 = .ok (.if_icmp .ge 30, 3) := by decide +kernel
theorem dX9_isNamed_36 : decode cX9_isNamed 36 = .ok (.aload_n 0, 1) := by decide +kernel
theorem dX9_isNamed_37 : decode cX9_isNamed 37 = .ok (.getfield 25, 3) := by decide +kernel
theorem dX9_isNamed_40 : decode cX9_isNamed 40 = .ok (.iload 5, 2) := by decide +kernel
theorem dX9_isNamed_42 : decode cX9_isNamed 42 = .ok (.iload 6, 2) := by decide +kernel
theorem dX9_isNamed_44 : decode cX9_isNamed 44 = .ok (.iadd, 1) := by decide +kernel
theorem dX9_isNamed_45 : decode cX9_isNamed 45 = .ok (.baload, 1) := by decide +kernel
theorem dX9_isNamed_46 : decode cX9_isNamed 46 = .ok (.aload_n 2, 1) := by decide +kernel
theorem dX9_isNamed_47 : decode cX9_isNamed 47 = .ok (.iload_n 3, 1) := by decide +kernel
theorem dX9_isNamed_48 : decode cX9_isNamed 48 = .ok (.iload 6, 2) := by decide +kernel
theorem dX9_isNamed_50 : decode cX9_isNamed 50 = .ok (.iadd, 1) := by decide +kernel
theorem dX9_isNamed_51 : decode cX9_isNamed 51 = .ok (.baload, 1) := by decide +kernel
theorem dX9_isNamed_52 : decode cX9_isNamed 52 = .ok (.if_icmp .eq 5, 3) := by decide +kernel
theorem dX9_isNamed_55 : decode cX9_isNamed 55 = .ok (.iconst 0, 1) := by decide +kernel
theorem dX9_isNamed_56 : decode cX9_isNamed 56 = .ok (.ireturn, 1) := by decide +kernel
theorem dX9_isNamed_57 : decode cX9_isNamed 57 = .ok (.iinc 6 1, 3) := by decide +kernel
theorem dX9_isNamed_60 : decode cX9_isNamed 60 = .ok (.goto (-31), 3) := by decide +kernel
theorem dX9_isNamed_63 : decode cX9_isNamed 63 = .ok (.iconst 1, 1) := by decide +kernel
theorem dX9_isNamed_64 : decode cX9_isNamed 64 = .ok (.ireturn, 1) := by decide +kernel
theorem dX9_signOf_0 : decode cX9_signOf 0 = .ok (.iload_n 0, 1) := by decide +kernel
theorem dX9_signOf_1 : decode cX9_signOf 1 = .ok (.lookupswitch 165 #[(33, 73), (38, 137), (60, 87), (61, 59), (62, 112), (124, 151)], 59) := by decide +kernel
theorem dX9_signOf_60 : decode cX9_signOf 60 = .ok (.iload_n 1, 1) := by decide +kernel
theorem dX9_signOf_61 : decode cX9_signOf 61 = .ok (.bipush 61, 2) := by decide +kernel
theorem dX9_signOf_63 : decode cX9_signOf 63 = .ok (.if_icmp .ne 8, 3) := by decide +kernel
theorem dX9_signOf_66 : decode cX9_signOf 66 = .ok (.bipush 52, 2) := by decide +kernel
theorem dX9_signOf_68 : decode cX9_signOf 68 = .ok (.goto 5, 3) := by decide +kernel
theorem dX9_signOf_71 : decode cX9_signOf 71 = .ok (.bipush 51, 2) := by decide +kernel
theorem dX9_signOf_73 : decode cX9_signOf 73 = .ok (.ireturn, 1) := by decide +kernel
theorem dX9_signOf_74 : decode cX9_signOf 74 = .ok (.iload_n 1, 1) := by decide +kernel
theorem dX9_signOf_75 : decode cX9_signOf 75 = .ok (.bipush 61, 2) := by decide +kernel
theorem dX9_signOf_77 : decode cX9_signOf 77 = .ok (.if_icmp .ne 8, 3) := by decide +kernel
theorem dX9_signOf_80 : decode cX9_signOf 80 = .ok (.bipush 53, 2) := by decide +kernel
theorem dX9_signOf_82 : decode cX9_signOf 82 = .ok (.goto 5, 3) := by decide +kernel
theorem dX9_signOf_85 : decode cX9_signOf 85 = .ok (.bipush 71, 2) := by decide +kernel
theorem dX9_signOf_87 : decode cX9_signOf 87 = .ok (.ireturn, 1) := by decide +kernel
theorem dX9_signOf_88 : decode cX9_signOf 88 = .ok (.iload_n 1, 1) := by decide +kernel
theorem dX9_signOf_89 : decode cX9_signOf 89 = .ok (.bipush 61, 2) := by decide +kernel
theorem dX9_signOf_91 : decode cX9_signOf 91 = .ok (.if_icmp .ne 8, 3) := by decide +kernel
theorem dX9_signOf_94 : decode cX9_signOf 94 = .ok (.bipush 55, 2) := by decide +kernel
theorem dX9_signOf_96 : decode cX9_signOf 96 = .ok (.goto 16, 3) := by decide +kernel
theorem dX9_signOf_99 : decode cX9_signOf 99 = .ok (.iload_n 1, 1) := by decide +kernel
theorem dX9_signOf_100 : decode cX9_signOf 100 = .ok (.bipush 60, 2) := by decide +kernel
theorem dX9_signOf_102 : decode cX9_signOf 102 = .ok (.if_icmp .ne 8, 3) := by decide +kernel
theorem dX9_signOf_105 : decode cX9_signOf 105 = .ok (.bipush 58, 2) := by decide +kernel
theorem dX9_signOf_107 : decode cX9_signOf 107 = .ok (.goto 5, 3) := by decide +kernel
theorem dX9_signOf_110 : decode cX9_signOf 110 = .ok (.bipush 54, 2) := by decide +kernel
theorem dX9_signOf_112 : decode cX9_signOf 112 = .ok (.ireturn, 1) := by decide +kernel
theorem dX9_signOf_113 : decode cX9_signOf 113 = .ok (.iload_n 1, 1) := by decide +kernel
theorem dX9_signOf_114 : decode cX9_signOf 114 = .ok (.bipush 61, 2) := by decide +kernel
theorem dX9_signOf_116 : decode cX9_signOf 116 = .ok (.if_icmp .ne 8, 3) := by decide +kernel
theorem dX9_signOf_119 : decode cX9_signOf 119 = .ok (.bipush 57, 2) := by decide +kernel
theorem dX9_signOf_121 : decode cX9_signOf 121 = .ok (.goto 16, 3) := by decide +kernel
theorem dX9_signOf_124 : decode cX9_signOf 124 = .ok (.iload_n 1, 1) := by decide +kernel
theorem dX9_signOf_125 : decode cX9_signOf 125 = .ok (.bipush 62, 2) := by decide +kernel
theorem dX9_signOf_127 : decode cX9_signOf 127 = .ok (.if_icmp .ne 8, 3) := by decide +kernel
theorem dX9_signOf_130 : decode cX9_signOf 130 = .ok (.bipush 59, 2) := by decide +kernel
theorem dX9_signOf_132 : decode cX9_signOf 132 = .ok (.goto 5, 3) := by decide +kernel
theorem dX9_signOf_135 : decode cX9_signOf 135 = .ok (.bipush 56, 2) := by decide +kernel
theorem dX9_signOf_137 : decode cX9_signOf 137 = .ok (.ireturn, 1) := by decide +kernel
theorem dX9_signOf_138 : decode cX9_signOf 138 = .ok (.iload_n 1, 1) := by decide +kernel
theorem dX9_signOf_139 : decode cX9_signOf 139 = .ok (.bipush 38, 2) := by decide +kernel
theorem dX9_signOf_141 : decode cX9_signOf 141 = .ok (.if_icmp .ne 8, 3) := by decide +kernel
theorem dX9_signOf_144 : decode cX9_signOf 144 = .ok (.bipush 67, 2) := by decide +kernel
theorem dX9_signOf_146 : decode cX9_signOf 146 = .ok (.goto 5, 3) := by decide +kernel
theorem dX9_signOf_149 : decode cX9_signOf 149 = .ok (.bipush 66, 2) := by decide +kernel
theorem dX9_signOf_151 : decode cX9_signOf 151 = .ok (.ireturn, 1) := by decide +kernel
theorem dX9_signOf_152 : decode cX9_signOf 152 = .ok (.iload_n 1, 1) := by decide +kernel
theorem dX9_signOf_153 : decode cX9_signOf 153 = .ok (.bipush 124, 2) := by decide +kernel
theorem dX9_signOf_155 : decode cX9_signOf 155 = .ok (.if_icmp .ne 8, 3) := by decide +kernel
theorem dX9_signOf_158 : decode cX9_signOf 158 = .ok (.bipush 69, 2) := by decide +kernel
theorem dX9_signOf_160 : decode cX9_signOf 160 = .ok (.goto 5, 3) := by decide +kernel
theorem dX9_signOf_163 : decode cX9_signOf 163 = .ok (.bipush 68, 2) := by decide +kernel
theorem dX9_signOf_165 : decode cX9_signOf 165 = .ok (.ireturn, 1) := by decide +kernel
theorem dX9_signOf_166 : decode cX9_signOf 166 = .ok (.iload_n 0, 1) := by decide +kernel
theorem dX9_signOf_167 : decode cX9_signOf 167 = .ok (.invokestatic 147, 3) := by decide +kernel
theorem dX9_signOf_170 : decode cX9_signOf 170 = .ok (.ireturn, 1) := by decide +kernel
theorem dX9_plainSignOf_0 : decode cX9_plainSignOf 0 = .ok (.iload_n 0, 1) := by decide +kernel
theorem dX9_plainSignOf_1 : decode cX9_plainSignOf 1 = .ok (.lookupswitch 209 #[(37, 200), (40, 155), (41, 158), (42, 194), (43, 188), (44, 176), (45, 191), (46, 179), (47, 197), (58, 185), (59, 173), (63, 182), (91, 167), (93, 170), (94, 203), (123, 161), (125, 164), (126, 206)], 155) := by decide +kernel
theorem dX9_plainSignOf_156 : decode cX9_plainSignOf 156 = .ok (.bipush 40, 2) := by decide +kernel
theorem dX9_plainSignOf_158 : decode cX9_plainSignOf 158 = .ok (.ireturn, 1) := by decide +kernel
theorem dX9_plainSignOf_159 : decode cX9_plainSignOf 159 = .ok (.bipush 41, 2) := by decide +kernel
theorem dX9_plainSignOf_161 : decode cX9_plainSignOf 161 = .ok (.ireturn, 1) := by decide +kernel
theorem dX9_plainSignOf_162 : decode cX9_plainSignOf 162 = .ok (.bipush 42, 2) := by decide +kernel
theorem dX9_plainSignOf_164 : decode cX9_plainSignOf 164 = .ok (.ireturn, 1) := by decide +kernel
theorem dX9_plainSignOf_165 : decode cX9_plainSignOf 165 = .ok (.bipush 43, 2) := by decide +kernel
theorem dX9_plainSignOf_167 : decode cX9_plainSignOf 167 = .ok (.ireturn, 1) := by decide +kernel
theorem dX9_plainSignOf_168 : decode cX9_plainSignOf 168 = .ok (.bipush 44, 2) := by decide +kernel
theorem dX9_plainSignOf_170 : decode cX9_plainSignOf 170 = .ok (.ireturn, 1) := by decide +kernel
theorem dX9_plainSignOf_171 : decode cX9_plainSignOf 171 = .ok (.bipush 45, 2) := by decide +kernel
theorem dX9_plainSignOf_173 : decode cX9_plainSignOf 173 = .ok (.ireturn, 1) := by decide +kernel
theorem dX9_plainSignOf_174 : decode cX9_plainSignOf 174 = .ok (.bipush 46, 2) := by decide +kernel
theorem dX9_plainSignOf_176 : decode cX9_plainSignOf 176 = .ok (.ireturn, 1) := by decide +kernel
theorem dX9_plainSignOf_177 : decode cX9_plainSignOf 177 = .ok (.bipush 47, 2) := by decide +kernel
theorem dX9_plainSignOf_179 : decode cX9_plainSignOf 179 = .ok (.ireturn, 1) := by decide +kernel
theorem dX9_plainSignOf_180 : decode cX9_plainSignOf 180 = .ok (.bipush 48, 2) := by decide +kernel
theorem dX9_plainSignOf_182 : decode cX9_plainSignOf 182 = .ok (.ireturn, 1) := by decide +kernel
theorem dX9_plainSignOf_183 : decode cX9_plainSignOf 183 = .ok (.bipush 49, 2) := by decide +kernel
theorem dX9_plainSignOf_185 : decode cX9_plainSignOf 185 = .ok (.ireturn, 1) := by decide +kernel
theorem dX9_plainSignOf_186 : decode cX9_plainSignOf 186 = .ok (.bipush 50, 2) := by decide +kernel
theorem dX9_plainSignOf_188 : decode cX9_plainSignOf 188 = .ok (.ireturn, 1) := by decide +kernel
theorem dX9_plainSignOf_189 : decode cX9_plainSignOf 189 = .ok (.bipush 61, 2) := by decide +kernel
theorem dX9_plainSignOf_191 : decode cX9_plainSignOf 191 = .ok (.ireturn, 1) := by decide +kernel
theorem dX9_plainSignOf_192 : decode cX9_plainSignOf 192 = .ok (.bipush 62, 2) := by decide +kernel
theorem dX9_plainSignOf_194 : decode cX9_plainSignOf 194 = .ok (.ireturn, 1) := by decide +kernel
theorem dX9_plainSignOf_195 : decode cX9_plainSignOf 195 = .ok (.bipush 63, 2) := by decide +kernel
theorem dX9_plainSignOf_197 : decode cX9_plainSignOf 197 = .ok (.ireturn, 1) := by decide +kernel
theorem dX9_plainSignOf_198 : decode cX9_plainSignOf 198 = .ok (.bipush 64, 2) := by decide +kernel
theorem dX9_plainSignOf_200 : decode cX9_plainSignOf 200 = .ok (.ireturn, 1) := by decide +kernel
theorem dX9_plainSignOf_201 : decode cX9_plainSignOf 201 = .ok (.bipush 65, 2) := by decide +kernel
theorem dX9_plainSignOf_203 : decode cX9_plainSignOf 203 = .ok (.ireturn, 1) := by decide +kernel
theorem dX9_plainSignOf_204 : decode cX9_plainSignOf 204 = .ok (.bipush 70, 2) := by decide +kernel
theorem dX9_plainSignOf_206 : decode cX9_plainSignOf 206 = .ok (.ireturn, 1) := by decide +kernel
theorem dX9_plainSignOf_207 : decode cX9_plainSignOf 207 = .ok (.bipush 72, 2) := by decide +kernel
theorem dX9_plainSignOf_209 : decode cX9_plainSignOf 209 = .ok (.ireturn, 1) := by decide +kernel
theorem dX9_plainSignOf_210 : decode cX9_plainSignOf 210 = .ok (.iconst 0, 1) := by decide +kernel
theorem dX9_plainSignOf_211 : decode cX9_plainSignOf 211 = .ok (.ireturn, 1) := by decide +kernel
theorem dX9_signLength_0 : decode cX9_signLength 0 = .ok (.iload_n 0, 1) := by decide +kernel
theorem dX9_signLength_1 : decode cX9_signLength 1 = .ok (.lookupswitch 97 #[(0, 91), (52, 95), (53, 95), (55, 95), (57, 95), (58, 95), (59, 95), (60, 93), (67, 95), (69, 95)], 91) := by decide +kernel
theorem dX9_signLength_92 : decode cX9_signLength 92 = .ok (.iconst 0, 1) := by decide +kernel
theorem dX9_signLength_93 : decode cX9_signLength 93 = .ok (.ireturn, 1) := by decide +kernel
theorem dX9_signLength_94 : decode cX9_signLength 94 = .ok (.iconst 3, 1) := by decide +kernel
theorem dX9_signLength_95 : decode cX9_signLength 95 = .ok (.ireturn, 1) := by decide +kernel
theorem dX9_signLength_96 : decode cX9_signLength 96 = .ok (.iconst 2, 1) := by decide +kernel
theorem dX9_signLength_97 : decode cX9_signLength 97 = .ok (.ireturn, 1) := by decide +kernel
theorem dX9_signLength_98 : decode cX9_signLength 98 = .ok (.iconst 1, 1) := by decide +kernel
theorem dX9_signLength_99 : decode cX9_signLength 99 = .ok (.ireturn, 1) := by decide +kernel
theorem dX9_level_0 : decode cX9_level 0 = .ok (.iload_n 0, 1) := by decide +kernel
theorem dX9_level_1 : decode cX9_level 1 = .ok (.tableswitch 248 19 70 #[236, 248, 248, 248, 248, 248, 248, 248, 248, 248, 248, 248, 248, 248, 248, 248, 248, 248, 248, 248, 248, 248, 248, 248, 248, 248, 248, 248, 248, 248, 248, 248, 248, 233, 233, 236, 236, 236, 236, 239, 239, 239, 242, 242, 245, 245, 245, 231, 225, 227, 223, 229], 223) := by decide +kernel
theorem dX9_level_224 : decode cX9_level 224 = .ok (.iconst 1, 1) := by decide +kernel
theorem dX9_level_225 : decode cX9_level 225 = .ok (.ireturn, 1) := by decide +kernel
theorem dX9_level_226 : decode cX9_level 226 = .ok (.iconst 2, 1) := by decide +kernel
theorem dX9_level_227 : decode cX9_level 227 = .ok (.ireturn, 1) := by decide +kernel
theorem dX9_level_228 : decode cX9_level 228 = .ok (.iconst 3, 1) := by decide +kernel
theorem dX9_level_229 : decode cX9_level 229 = .ok (.ireturn, 1) := by decide +kernel
theorem dX9_level_230 : decode cX9_level 230 = .ok (.iconst 4, 1) := by decide +kernel
theorem dX9_level_231 : decode cX9_level 231 = .ok (.ireturn, 1) := by decide +kernel
theorem dX9_level_232 : decode cX9_level 232 = .ok (.iconst 5, 1) := by decide +kernel
theorem dX9_level_233 : decode cX9_level 233 = .ok (.ireturn, 1) := by decide +kernel
theorem dX9_level_234 : decode cX9_level 234 = .ok (.bipush 6, 2) := by decide +kernel
theorem dX9_level_236 : decode cX9_level 236 = .ok (.ireturn, 1) := by decide +kernel
theorem dX9_level_237 : decode cX9_level 237 = .ok (.bipush 7, 2) := by decide +kernel
theorem dX9_level_239 : decode cX9_level 239 = .ok (.ireturn, 1) := by decide +kernel
theorem dX9_level_240 : decode cX9_level 240 = .ok (.bipush 8, 2) := by decide +kernel
theorem dX9_level_242 : decode cX9_level 242 = .ok (.ireturn, 1) := by decide +kernel
theorem dX9_level_243 : decode cX9_level 243 = .ok (.bipush 9, 2) := by decide +kernel
theorem dX9_level_245 : decode cX9_level 245 = .ok (.ireturn, 1) := by decide +kernel
theorem dX9_level_246 : decode cX9_level 246 = .ok (.bipush 10, 2) := by decide +kernel
theorem dX9_level_248 : decode cX9_level 248 = .ok (.ireturn, 1) := by decide +kernel
theorem dX9_level_249 : decode cX9_level 249 = .ok (.iconst 0, 1) := by decide +kernel
theorem dX9_level_250 : decode cX9_level 250 = .ok (.ireturn, 1) := by decide +kernel
theorem dX9_beginsVariable_0 : decode cX9_beginsVariable 0 = .ok (.aload_n 0, 1) := by decide +kernel
theorem dX9_beginsVariable_1 : decode cX9_beginsVariable 1 = .ok (.invokevirtual 150, 3) := by decide +kernel
theorem dX9_beginsVariable_4 : decode cX9_beginsVariable 4 = .ok (.istore_n 1, 1) := by decide +kernel
theorem dX9_beginsVariable_5 : decode cX9_beginsVariable 5 = .ok (.iload_n 1, 1) := by decide +kernel
theorem dX9_beginsVariable_6 : decode cX9_beginsVariable 6 = .ok (.iconst 2, 1) := by decide +kernel
theorem dX9_beginsVariable_7 : decode cX9_beginsVariable 7 = .ok (.if_icmp .eq 21, 3) := by decide +kernel
theorem dX9_beginsVariable_10 : decode cX9_beginsVariable 10 = .ok (.iload_n 1, 1) := by decide +kernel
theorem dX9_beginsVariable_11 : decode cX9_beginsVariable 11 = .ok (.bipush 20, 2) := by decide +kernel
theorem dX9_beginsVariable_13 : decode cX9_beginsVariable 13 = .ok (.if_icmp .eq 9, 3) := by decide +kernel
theorem dX9_beginsVariable_16 : decode cX9_beginsVariable 16 = .ok (.iload_n 1, 1) := by decide +kernel
theorem dX9_beginsVariable_17 : decode cX9_beginsVariable 17 = .ok (.bipush 10, 2) := by decide +kernel
theorem dX9_beginsVariable_19 : decode cX9_beginsVariable 19 = .ok (.if_icmp .ne 7, 3) := by decide +kernel
theorem dX9_beginsVariable_22 : decode cX9_beginsVariable 22 = .ok (.iconst 1, 1) := by decide +kernel
theorem dX9_beginsVariable_23 : decode cX9_beginsVariable 23 = .ok (.goto 4, 3) := by decide +kernel
theorem dX9_beginsVariable_26 : decode cX9_beginsVariable 26 = .ok (.iconst 0, 1) := by decide +kernel
theorem dX9_beginsVariable_27 : decode cX9_beginsVariable 27 = .ok (.ireturn, 1) := by decide +kernel
theorem dX9_beginsVariable_28 : decode cX9_beginsVariable 28 = .ok (.aload_n 0, 1) := by decide +kernel
theorem dX9_beginsVariable_29 : decode cX9_beginsVariable 29 = .ok (.aload_n 0, 1) := by decide +kernel
theorem dX9_beginsVariable_30 : decode cX9_beginsVariable 30 = .ok (.getfield 86, 3) := by decide +kernel
theorem dX9_beginsVariable_33 : decode cX9_beginsVariable 33 = .ok (.iconst 1, 1) := by decide +kernel
theorem dX9_beginsVariable_34 : decode cX9_beginsVariable 34 = .ok (.iadd, 1) := by decide +kernel
theorem dX9_beginsVariable_35 : decode cX9_beginsVariable 35 = .ok (.invokevirtual 153, 3) := by decide +kernel
theorem dX9_beginsVariable_38 : decode cX9_beginsVariable 38 = .ok (.istore_n 2, 1) := by decide +kernel
theorem dX9_beginsVariable_39 : decode cX9_beginsVariable 39 = .ok (.iload_n 2, 1) := by decide +kernel
theorem dX9_beginsVariable_40 : decode cX9_beginsVariable 40 = .ok (.iconst 2, 1) := by decide +kernel
theorem dX9_beginsVariable_41 : decode cX9_beginsVariable 41 = .ok (.if_icmp .eq 24, 3) := by decide +kernel
theorem dX9_beginsVariable_44 : decode cX9_beginsVariable 44 = .ok (.iload_n 2, 1) := by decide +kernel
theorem dX9_beginsVariable_45 : decode cX9_beginsVariable 45 = .ok (.bipush 44, 2) := by decide +kernel
theorem dX9_beginsVariable_47 : decode cX9_beginsVariable 47 = .ok (.if_icmp .ne 22, 3) := by decide +kernel
theorem dX9_beginsVariable_50 : decode cX9_beginsVariable 50 = .ok (.aload_n 0, 1) := by decide +kernel
theorem dX9_beginsVariable_51 : decode cX9_beginsVariable 51 = .ok (.aload_n 0, 1) := by decide +kernel
theorem dX9_beginsVariable_52 : decode cX9_beginsVariable 52 = .ok (.getfield 86, 3) := by decide +kernel
theorem dX9_beginsVariable_55 : decode cX9_beginsVariable 55 = .ok (.iconst 2, 1) := by decide +kernel
theorem dX9_beginsVariable_56 : decode cX9_beginsVariable 56 = .ok (.iadd, 1) := by decide +kernel
theorem dX9_beginsVariable_57 : decode cX9_beginsVariable 57 = .ok (.invokevirtual 153, 3) := by decide +kernel
theorem dX9_beginsVariable_60 : decode cX9_beginsVariable 60 = .ok (.bipush 45, 2) := by decide +kernel
theorem dX9_beginsVariable_62 : decode cX9_beginsVariable 62 = .ok (.if_icmp .ne 7, 3) := by decide +kernel
theorem dX9_beginsVariable_65 : decode cX9_beginsVariable 65 = .ok (.iconst 1, 1) := by decide +kernel
theorem dX9_beginsVariable_66 : decode cX9_beginsVariable 66 = .ok (.goto 4, 3) := by decide +kernel
theorem dX9_beginsVariable_69 : decode cX9_beginsVariable 69 = .ok (.iconst 0, 1) := by decide +kernel
theorem dX9_beginsVariable_70 : decode cX9_beginsVariable 70 = .ok (.ireturn, 1) := by decide +kernel
theorem dX9_beginsCast_0 : decode cX9_beginsCast 0 = .ok (.aload_n 0, 1) := by decide +kernel
theorem dX9_beginsCast_1 : decode cX9_beginsCast 1 = .ok (.invokevirtual 150, 3) := by decide +kernel
theorem dX9_beginsCast_4 : decode cX9_beginsCast 4 = .ok (.bipush 40, 2) := by decide +kernel
theorem dX9_beginsCast_6 : decode cX9_beginsCast 6 = .ok (.if_icmp .ne 32, 3) := by decide +kernel
theorem dX9_beginsCast_9 : decode cX9_beginsCast 9 = .ok (.aload_n 0, 1) := by decide +kernel
theorem dX9_beginsCast_10 : decode cX9_beginsCast 10 = .ok (.aload_n 0, 1) := by decide +kernel
theorem dX9_beginsCast_11 : decode cX9_beginsCast 11 = .ok (.getfield 86, 3) := by decide +kernel
theorem dX9_beginsCast_14 : decode cX9_beginsCast 14 = .ok (.iconst 1, 1) := by decide +kernel
theorem dX9_beginsCast_15 : decode cX9_beginsCast 15 = .ok (.iadd, 1) := by decide +kernel
theorem dX9_beginsCast_16 : decode cX9_beginsCast 16 = .ok (.invokevirtual 153, 3) := by decide +kernel
theorem dX9_beginsCast_19 : decode cX9_beginsCast 19 = .ok (.iconst 2, 1) := by decide +kernel
theorem dX9_beginsCast_20 : decode cX9_beginsCast 20 = .ok (.if_icmp .ne 18, 3) := by decide +kernel
theorem dX9_beginsCast_23 : decode cX9_beginsCast 23 = .ok (.aload_n 0, 1) := by decide +kernel
theorem dX9_beginsCast_24 : decode cX9_beginsCast 24 = .ok (.aload_n 0, 1) := by decide +kernel
theorem dX9_beginsCast_25 : decode cX9_beginsCast 25 = .ok (.getfield 86, 3) := by decide +kernel
theorem dX9_beginsCast_28 : decode cX9_beginsCast 28 = .ok (.iconst 2, 1) := by decide +kernel
theorem dX9_beginsCast_29 : decode cX9_beginsCast 29 = .ok (.iadd, 1) := by decide +kernel
theorem dX9_beginsCast_30 : decode cX9_beginsCast 30 = .ok (.invokevirtual 153, 3) := by decide +kernel
theorem dX9_beginsCast_33 : decode cX9_beginsCast 33 = .ok (.bipush 41, 2) := by decide +kernel
theorem dX9_beginsCast_35 : decode cX9_beginsCast 35 = .ok (.if_icmp .eq 5, 3) := by decide +kernel
theorem dX9_beginsCast_38 : decode cX9_beginsCast 38 = .ok (.iconst 0, 1) := by decide +kernel
theorem dX9_beginsCast_39 : decode cX9_beginsCast 39 = .ok (.ireturn, 1) := by decide +kernel
theorem dX9_beginsCast_40 : decode cX9_beginsCast 40 = .ok (.aload_n 0, 1) := by decide +kernel
theorem dX9_beginsCast_41 : decode cX9_beginsCast 41 = .ok (.aload_n 0, 1) := by decide +kernel
theorem dX9_beginsCast_42 : decode cX9_beginsCast 42 = .ok (.getfield 86, 3) := by decide +kernel
theorem dX9_beginsCast_45 : decode cX9_beginsCast 45 = .ok (.iconst 3, 1) := by decide +kernel
theorem dX9_beginsCast_46 : decode cX9_beginsCast 46 = .ok (.iadd, 1) := by decide +kernel
theorem dX9_beginsCast_47 : decode cX9_beginsCast 47 = .ok (.invokevirtual 153, 3) := by decide +kernel
theorem dX9_beginsCast_50 : decode cX9_beginsCast 50 = .ok (.lookupswitch 92 #[(2, 90), (3, 90), (17, 90), (21, 90), (22, 90), (26, 90), (28, 90), (40, 90), (71, 90), (72, 90)], 90) := by decide +kernel
theorem dX9_beginsCast_140 : decode cX9_beginsCast 140 = .ok (.iconst 1, 1) := by decide +kernel
theorem dX9_beginsCast_141 : decode cX9_beginsCast 141 = .ok (.ireturn, 1) := by decide +kernel
theorem dX9_beginsCast_142 : decode cX9_beginsCast 142 = .ok (.iconst 0, 1) := by decide +kernel
theorem dX9_beginsCast_143 : decode cX9_beginsCast 143 = .ok (.ireturn, 1) := by decide +kernel
theorem dX9_isWhileTrue_0 : decode cX9_isWhileTrue 0 = .ok (.aload_n 0, 1) := by decide +kernel
theorem dX9_isWhileTrue_1 : decode cX9_isWhileTrue 1 = .ok (.aload_n 0, 1) := by decide +kernel
theorem dX9_isWhileTrue_2 : decode cX9_isWhileTrue 2 = .ok (.getfield 86, 3) := by decide +kernel
theorem dX9_isWhileTrue_5 : decode cX9_isWhileTrue 5 = .ok (.iconst 1, 1) := by decide +kernel
theorem dX9_isWhileTrue_6 : decode cX9_isWhileTrue 6 = .ok (.iadd, 1) := by decide +kernel
theorem dX9_isWhileTrue_7 : decode cX9_isWhileTrue 7 = .ok (.invokevirtual 153, 3) := by decide +kernel
theorem dX9_isWhileTrue_10 : decode cX9_isWhileTrue 10 = .ok (.bipush 40, 2) := by decide +kernel
theorem dX9_isWhileTrue_12 : decode cX9_isWhileTrue 12 = .ok (.if_icmp .ne 37, 3) := by decide +kernel
theorem dX9_isWhileTrue_15 : decode cX9_isWhileTrue 15 = .ok (.aload_n 0, 1) := by decide +kernel
theorem dX9_isWhileTrue_16 : decode cX9_isWhileTrue 16 = .ok (.aload_n 0, 1) := by decide +kernel
theorem dX9_isWhileTrue_17 : decode cX9_isWhileTrue 17 = .ok (.getfield 86, 3) := by decide +kernel
theorem dX9_isWhileTrue_20 : decode cX9_isWhileTrue 20 = .ok (.iconst 2, 1) := by decide +kernel
theorem dX9_isWhileTrue_21 : decode cX9_isWhileTrue 21 = .ok (.iadd, 1) := by decide +kernel
theorem dX9_isWhileTrue_22 : decode cX9_isWhileTrue 22 = .ok (.invokevirtual 153, 3) := by decide +kernel
theorem dX9_isWhileTrue_25 : decode cX9_isWhileTrue 25 = .ok (.bipush 28, 2) := by decide +kernel
theorem dX9_isWhileTrue_27 : decode cX9_isWhileTrue 27 = .ok (.if_icmp .ne 22, 3) := by decide +kernel
theorem dX9_isWhileTrue_30 : decode cX9_isWhileTrue 30 = .ok (.aload_n 0, 1) := by decide +kernel
theorem dX9_isWhileTrue_31 : decode cX9_isWhileTrue 31 = .ok (.aload_n 0, 1) := by decide +kernel
theorem dX9_isWhileTrue_32 : decode cX9_isWhileTrue 32 = .ok (.getfield 86, 3) := by decide +kernel
theorem dX9_isWhileTrue_35 : decode cX9_isWhileTrue 35 = .ok (.iconst 3, 1) := by decide +kernel
theorem dX9_isWhileTrue_36 : decode cX9_isWhileTrue 36 = .ok (.iadd, 1) := by decide +kernel
theorem dX9_isWhileTrue_37 : decode cX9_isWhileTrue 37 = .ok (.invokevirtual 153, 3) := by decide +kernel
theorem dX9_isWhileTrue_40 : decode cX9_isWhileTrue 40 = .ok (.bipush 41, 2) := by decide +kernel
theorem dX9_isWhileTrue_42 : decode cX9_isWhileTrue 42 = .ok (.if_icmp .ne 7, 3) := by decide +kernel
theorem dX9_isWhileTrue_45 : decode cX9_isWhileTrue 45 = .ok (.iconst 1, 1) := by decide +kernel
theorem dX9_isWhileTrue_46 : decode cX9_isWhileTrue 46 = .ok (.goto 4, 3) := by decide +kernel
theorem dX9_isWhileTrue_49 : decode cX9_isWhileTrue 49 = .ok (.iconst 0, 1) := by decide +kernel
theorem dX9_isWhileTrue_50 : decode cX9_isWhileTrue 50 = .ok (.ireturn, 1) := by decide +kernel
theorem dX10_beginMethod_0 : decode cX10_beginMethod 0 = .ok (.aload_n 0, 1) := by decide +kernel
theorem dX10_beginMethod_1 : decode cX10_beginMethod 1 = .ok (.iload_n 1, 1) := by decide +kernel
theorem dX10_beginMethod_2 : decode cX10_beginMethod 2 = .ok (.putfield 54, 3) := by decide +kernel
theorem dX10_beginMethod_5 : decode cX10_beginMethod 5 = .ok (.aload_n 0, 1) := by decide +kernel
theorem dX10_beginMethod_6 : decode cX10_beginMethod 6 = .ok (.iload_n 2, 1) := by decide +kernel
theorem dX10_beginMethod_7 : decode cX10_beginMethod 7 = .ok (.putfield 58, 3) := by decide +kernel
theorem dX10_beginMethod_10 : decode cX10_beginMethod 10 = .ok (.aload_n 0, 1) := by decide +kernel
theorem dX10_beginMethod_11 : decode cX10_beginMethod 11 = .ok (.iconst (-1), 1) := by decide +kernel
theorem dX10_beginMethod_12 : decode cX10_beginMethod 12 = .ok (.putfield 62, 3) := by decide +kernel
theorem dX10_beginMethod_15 : decode cX10_beginMethod 15 = .ok (.aload_n 0, 1) := by decide +kernel
theorem dX10_beginMethod_16 : decode cX10_beginMethod 16 = .ok (.iconst 0, 1) := by decide +kernel
theorem dX10_beginMethod_17 : decode cX10_beginMethod 17 = .ok (.putfield 65, 3) := by decide +kernel
theorem dX10_beginMethod_20 : decode cX10_beginMethod 20 = .ok (.return_, 1) := by decide +kernel
theorem dX10_isPair_0 : decode cX10_isPair 0 = .ok (.iload_n 1, 1) := by decide +kernel
theorem dX10_isPair_1 : decode cX10_isPair 1 = .ok (.invokestatic 136, 3) := by decide +kernel
theorem dX10_isPair_4 : decode cX10_isPair 4 = .ok (.ifCond .eq 20, 3) := by decide +kernel
theorem dX10_isPair_7 : decode cX10_isPair 7 = .ok (.iload_n 2, 1) := by decide +kernel
theorem dX10_isPair_8 : decode cX10_isPair 8 = .ok (.invokestatic 136, 3) := by decide +kernel
theorem dX10_isPair_11 : decode cX10_isPair 11 = .ok (.ifCond .eq 13, 3) := by decide +kernel
theorem dX10_isPair_14 : decode cX10_isPair 14 = .ok (.aload_n 0, 1) := by decide +kernel
theorem dX10_isPair_15 : decode cX10_isPair 15 = .ok (.getfield 45, 3) := by decide +kernel
theorem dX10_isPair_18 : decode cX10_isPair 18 = .ok (.iload_n 1, 1) := by decide +kernel
theorem dX10_isPair_19 : decode cX10_isPair 19 = .ok (.iload_n 2, 1) := by decide +kernel
theorem dX10_isPair_20 : decode cX10_isPair 20 = .ok (.invokevirtual 140, 3) := by decide +kernel
theorem dX10_isPair_23 : decode cX10_isPair 23 = .ok (.ireturn, 1) := by decide +kernel
theorem dX10_isPair_24 : decode cX10_isPair 24 = .ok (.iload_n 1, 1) := by decide +kernel
theorem dX10_isPair_25 : decode cX10_isPair 25 = .ok (.iload_n 2, 1) := by decide +kernel
theorem dX10_isPair_26 : decode cX10_isPair 26 = .ok (.if_icmp .ne 14, 3) := by decide +kernel
theorem dX10_isPair_29 : decode cX10_isPair 29 = .ok (.iload_n 1, 1) := by decide +kernel
theorem dX10_isPair_30 : decode cX10_isPair 30 = .ok (.invokestatic 143, 3) := by decide +kernel
theorem dX10_isPair_33 : decode cX10_isPair 33 = .ok (.ifCond .eq 7, 3) := by decide +kernel
theorem dX10_isPair_36 : decode cX10_isPair 36 = .ok (.iconst 1, 1) := by decide +kernel
theorem dX10_isPair_37 : decode cX10_isPair 37 = .ok (.goto 4, 3) := by decide +kernel
theorem dX10_isPair_40 : decode cX10_isPair 40 = .ok (.iconst 0, 1) := by decide +kernel
theorem dX10_isPair_41 : decode cX10_isPair 41 = .ok (.ireturn, 1) := by decide +kernel
theorem dX10_openSign_0 : decode cX10_openSign 0 = .ok (.aload_n 0, 1) := by decide +kernel
theorem dX10_openSign_1 : decode cX10_openSign 1 = .ok (.getfield 31, 3) := by decide +kernel
theorem dX10_openSign_4 : decode cX10_openSign 4 = .ok (.invokevirtual 93, 3) := by decide +kernel
theorem dX10_openSign_7 : decode cX10_openSign 7 = .ok (.istore_n 1, 1) := by decide +kernel
theorem dX10_openSign_8 : decode cX10_openSign 8 = .ok (.aload_n 0, 1) := by decide +kernel
theorem dX10_openSign_9 : decode cX10_openSign 9 = .ok (.getfield 65, 3) := by decide +kernel
theorem dX10_openSign_12 : decode cX10_openSign 12 = .ok (.aload_n 0, 1) := by decide +kernel
theorem dX10_openSign_13 : decode cX10_openSign 13 = .ok (.getfield 15, 3) := by decide +kernel
theorem dX10_openSign_16 : decode cX10_openSign 16 = .ok (.arraylength, 1) := by decide +kernel
theorem dX10_openSign_17 : decode cX10_openSign 17 = .ok (.if_icmp .ge 142, 3) := by decide +kernel
theorem dX10_openSign_20 : decode cX10_openSign 20 = .ok (.aload_n 0, 1) := by decide +kernel
theorem dX10_openSign_21 : decode cX10_openSign 21 = .ok (.getfield 15, 3) := by decide +kernel
theorem dX10_openSign_24 : decode cX10_openSign 24 = .ok (.aload_n 0, 1) := by decide +kernel
theorem dX10_openSign_25 : decode cX10_openSign 25 = .ok (.getfield 65, 3) := by decide +kernel
theorem dX10_openSign_28 : decode cX10_openSign 28 = .ok (.iload_n 1, 1) := by decide +kernel
theorem dX10_openSign_29 : decode cX10_openSign 29 = .ok (.iastore, 1) := by decide +kernel
theorem dX10_openSign_30 : decode cX10_openSign 30 = .ok (.aload_n 0, 1) := by decide +kernel
theorem dX10_openSign_31 : decode cX10_openSign 31 = .ok (.getfield 19, 3) := by decide +kernel
theorem dX10_openSign_34 : decode cX10_openSign 34 = .ok (.aload_n 0, 1) := by decide +kernel
theorem dX10_openSign_35 : decode cX10_openSign 35 = .ok (.getfield 65, 3) := by decide +kernel
theorem dX10_openSign_38 : decode cX10_openSign 38 = .ok (.aload_n 0, 1) := by decide +kernel
theorem dX10_openSign_39 : decode cX10_openSign 39 = .ok (.getfield 31, 3) := by decide +kernel
theorem dX10_openSign_42 : decode cX10_openSign 42 = .ok (.getfield 72, 3) := by decide +kernel
theorem dX10_openSign_45 : decode cX10_openSign 45 = .ok (.iastore, 1) := by decide +kernel
theorem dX10_openSign_46 : decode cX10_openSign 46 = .ok (.aload_n 0, 1) := by decide +kernel
theorem dX10_openSign_47 : decode cX10_openSign 47 = .ok (.getfield 22, 3) := by decide +kernel
theorem dX10_openSign_50 : decode cX10_openSign 50 = .ok (.aload_n 0, 1) := by decide +kernel
theorem dX10_openSign_51 : decode cX10_openSign 51 = .ok (.getfield 65, 3) := by decide +kernel
theorem dX10_openSign_54 : decode cX10_openSign 54 = .ok (.aload_n 0, 1) := by decide +kernel
theorem dX10_openSign_55 : decode cX10_openSign 55 = .ok (.getfield 146, 3) := by decide +kernel
theorem dX10_openSign_58 : decode cX10_openSign 58 = .ok (.iastore, 1) := by decide +kernel
theorem dX10_openSign_59 : decode cX10_openSign 59 = .ok (.aload_n 0, 1) := by decide +kernel
theorem dX10_openSign_60 : decode cX10_openSign 60 = .ok (.getfield 25, 3) := by decide +kernel
theorem dX10_openSign_63 : decode cX10_openSign 63 = .ok (.aload_n 0, 1) := by decide +kernel
theorem dX10_openSign_64 : decode cX10_openSign 64 = .ok (.getfield 65, 3) := by decide +kernel
theorem dX10_openSign_67 : decode cX10_openSign 67 = .ok (.aload_n 0, 1) := by decide +kernel
theorem dX10_openSign_68 : decode cX10_openSign 68 = .ok (.getfield 75, 3) := by decide +kernel
theorem dX10_openSign_71 : decode cX10_openSign 71 = .ok (.iastore, 1) := by decide +kernel
theorem dX10_openSign_72 : decode cX10_openSign 72 = .ok (.aload_n 0, 1) := by decide +kernel
theorem dX10_openSign_73 : decode cX10_openSign 73 = .ok (.getfield 28, 3) := by decide +kernel
theorem dX10_openSign_76 : decode cX10_openSign 76 = .ok (.aload_n 0, 1) := by decide +kernel
theorem dX10_openSign_77 : decode cX10_openSign 77 = .ok (.getfield 65, 3) := by decide +kernel
theorem dX10_openSign_80 : decode cX10_openSign 80 = .ok (.iconst (-1), 1) := by decide +kernel
theorem dX10_openSign_81 : decode cX10_openSign 81 = .ok (.iastore, 1) := by decide +kernel
theorem dX10_openSign_82 : decode cX10_openSign 82 = .ok (.iload_n 1, 1) := by decide +kernel
theorem dX10_openSign_83 : decode cX10_openSign 83 = .ok (.bipush 67, 2) := by decide +kernel
theorem dX10_openSign_85 : decode cX10_openSign 85 = .ok (.if_icmp .eq 9, 3) := by decide +kernel
theorem dX10_openSign_88 : decode cX10_openSign 88 = .ok (.iload_n 1, 1) := by decide +kernel
theorem dX10_openSign_89 : decode cX10_openSign 89 = .ok (.bipush 69, 2) := by decide +kernel
theorem dX10_openSign_91 : decode cX10_openSign 91 = .ok (.if_icmp .ne 58, 3) := by decide +kernel
theorem dX10_openSign_94 : decode cX10_openSign 94 = .ok (.aload_n 0, 1) := by decide +kernel
theorem dX10_openSign_95 : decode cX10_openSign 95 = .ok (.aload_n 0, 1) := by decide +kernel
theorem dX10_openSign_96 : decode cX10_openSign 96 = .ok (.getfield 75, 3) := by decide +kernel
theorem dX10_openSign_99 : decode cX10_openSign 99 = .ok (.sipush 302, 3) := by decide +kernel
theorem dX10_openSign_102 : decode cX10_openSign 102 = .ok (.if_icmp .ne 7, 3) := by decide +kernel
theorem dX10_openSign_105 : decode cX10_openSign 105 = .ok (.iconst 1, 1) := by decide +kernel
theorem dX10_openSign_106 : decode cX10_openSign 106 = .ok (.goto 4, 3) := by decide +kernel
theorem dX10_openSign_109 : decode cX10_openSign 109 = .ok (.iconst 0, 1) := by decide +kernel
theorem dX10_openSign_110 : decode cX10_openSign 110 = .ok (.aload_n 0, 1) := by decide +kernel
theorem dX10_openSign_111 : decode cX10_openSign 111 = .ok (.getfield 146, 3) := by decide +kernel
theorem dX10_openSign_114 : decode cX10_openSign 114 = .ok (.invokevirtual 80, 3) := by decide +kernel
theorem dX10_openSign_117 : decode cX10_openSign 117 = .ok (.aload_n 0, 1) := by decide +kernel
theorem dX10_openSign_118 : decode cX10_openSign 118 = .ok (.getfield 28, 3) := by decide +kernel
theorem dX10_openSign_121 : decode cX10_openSign 121 = .ok (.aload_n 0, 1) := by decide +kernel
theorem dX10_openSign_122 : decode cX10_openSign 122 = .ok (.getfield 65, 3) := by decide +kernel
theorem dX10_openSign_125 : decode cX10_openSign 125 = .ok (.aload_n 0, 1) := by decide +kernel
theorem dX10_openSign_126 : decode cX10_openSign 126 = .ok (.getfield 46, 3) := by decide +kernel
theorem dX10_openSign_129 : decode cX10_openSign 129 = .ok (.iload_n 1, 1) := by decide +kernel
theorem dX10_openSign_130 : decode cX10_openSign 130 = .ok (.bipush 67, 2) := by decide +kernel
theorem dX10_openSign_132 : decode cX10_openSign 132 = .ok (.if_icmp .ne 9, 3) := by decide +kernel
theorem dX10_openSign_135 : decode cX10_openSign 135 = .ok (.sipush 153, 3) := by decide +kernel
theorem dX10_openSign_138 : decode cX10_openSign 138 = .ok (.goto 6, 3) := by decide +kernel
theorem dX10_openSign_141 : decode cX10_openSign 141 = .ok (.sipush 154, 3) := by decide +kernel
theorem dX10_openSign_144 : decode cX10_openSign 144 = .ok (.iconst 1, 1) := by decide +kernel
theorem dX10_openSign_145 : decode cX10_openSign 145 = .ok (.invokevirtual 86, 3) := by decide +kernel
theorem dX10_openSign_148 : decode cX10_openSign 148 = .ok (.iastore, 1) := by decide +kernel
theorem dX10_openSign_149 : decode cX10_openSign 149 = .ok (.aload_n 0, 1) := by decide +kernel
theorem dX10_openSign_150 : decode cX10_openSign 150 = .ok (.dup, 1) := by decide +kernel
theorem dX10_openSign_151 : decode cX10_openSign 151 = .ok (.getfield 65, 3) := by decide +kernel
theorem dX10_openSign_154 : decode cX10_openSign 154 = .ok (.iconst 1, 1) := by decide +kernel
theorem dX10_openSign_155 : decode cX10_openSign 155 = .ok (.iadd, 1) := by decide +kernel
theorem dX10_openSign_156 : decode cX10_openSign 156 = .ok (.putfield 65, 3) := by decide +kernel
theorem dX10_openSign_159 : decode cX10_openSign 159 = .ok (.aload_n 0, 1) := by decide +kernel
theorem dX10_openSign_160 : decode cX10_openSign 160 = .ok (.getfield 31, 3) := by decide +kernel
theorem dX10_openSign_163 : decode cX10_openSign 163 = .ok (.dup, 1) := by decide +kernel
theorem dX10_openSign_164 : decode cX10_openSign 164 = .ok (.getfield 72, 3) := by decide +kernel
theorem dX10_openSign_167 : decode cX10_openSign 167 = .ok (.iconst 1, 1) := by decide +kernel
theorem dX10_openSign_168 : decode cX10_openSign 168 = .ok (.iadd, 1) := by decide +kernel
theorem dX10_openSign_169 : decode cX10_openSign 169 = .ok (.putfield 72, 3) := by decide +kernel
theorem dX10_openSign_172 : decode cX10_openSign 172 = .ok (.return_, 1) := by decide +kernel
theorem dX10_isSignDue_0 : decode cX10_isSignDue 0 = .ok (.aload_n 0, 1) := by decide +kernel
theorem dX10_isSignDue_1 : decode cX10_isSignDue 1 = .ok (.getfield 65, 3) := by decide +kernel
theorem dX10_isSignDue_4 : decode cX10_isSignDue 4 = .ok (.iload_n 1, 1) := by decide +kernel
theorem dX10_isSignDue_5 : decode cX10_isSignDue 5 = .ok (.if_icmp .le 25, 3) := by decide +kernel
theorem dX10_isSignDue_8 : decode cX10_isSignDue 8 = .ok (.aload_n 0, 1) := by decide +kernel
theorem dX10_isSignDue_9 : decode cX10_isSignDue 9 = .ok (.getfield 15, 3) := by decide +kernel
theorem dX10_isSignDue_12 : decode cX10_isSignDue 12 = .ok (.aload_n 0, 1) := by decide +kernel
theorem dX10_isSignDue_13 : decode cX10_isSignDue 13 = .ok (.getfield 65, 3) := by decide +kernel
theorem dX10_isSignDue_16 : decode cX10_isSignDue 16 = .ok (.iconst 1, 1) := by decide +kernel
theorem dX10_isSignDue_17 : decode cX10_isSignDue 17 = .ok (.isub, 1) := by decide +kernel
theorem dX10_isSignDue_18 : decode cX10_isSignDue 18 = .ok (.iaload, 1) := by decide +kernel
theorem dX10_isSignDue_19 : decode cX10_isSignDue 19 = .ok (.invokestatic 97, 3) := by decide +kernel
theorem dX10_isSignDue_22 : decode cX10_isSignDue 22 = .ok (.iload_n 2, 1) := by decide +kernel
theorem dX10_isSignDue_23 : decode cX10_isSignDue 23 = .ok (.if_icmp .lt 7, 3) := by decide +kernel
theorem dX10_isSignDue_26 : decode cX10_isSignDue 26 = .ok (.iconst 1, 1) := by decide +kernel
theorem dX10_isSignDue_27 : decode cX10_isSignDue 27 = .ok (.goto 4, 3) := by decide +kernel
theorem dX10_isSignDue_30 : decode cX10_isSignDue 30 = .ok (.iconst 0, 1) := by decide +kernel
theorem dX10_isSignDue_31 : decode cX10_isSignDue 31 = .ok (.ireturn, 1) := by decide +kernel
theorem dX10_wantType_0 : decode cX10_wantType 0 = .ok (.iload_n 1, 1) := by decide +kernel
theorem dX10_wantType_1 : decode cX10_wantType 1 = .ok (.ifCond .ne 13, 3) := by decide +kernel
theorem dX10_wantType_4 : decode cX10_wantType 4 = .ok (.aload_n 0, 1) := by decide +kernel
theorem dX10_wantType_5 : decode cX10_wantType 5 = .ok (.getfield 31, 3) := by decide +kernel
theorem dX10_wantType_8 : decode cX10_wantType 8 = .ok (.bipush 6, 2) := by decide +kernel
theorem dX10_wantType_10 : decode cX10_wantType 10 = .ok (.iload_n 2, 1) := by decide +kernel
theorem dX10_wantType_11 : decode cX10_wantType 11 = .ok (.invokevirtual 165, 3) := by decide +kernel
theorem dX10_wantType_14 : decode cX10_wantType 14 = .ok (.return_, 1) := by decide +kernel
theorem dX10_compareOp_0 : decode cX10_compareOp 0 = .ok (.iload_n 0, 1) := by decide +kernel
theorem dX10_compareOp_1 : decode cX10_compareOp 1 = .ok (.tableswitch 79 52 57 #[39, 53, 67, 79, 75, 71], 39) := by decide +kernel
theorem dX10_compareOp_40 : decode cX10_compareOp 40 = .ok (.iload_n 1, 1) := by decide +kernel
theorem dX10_compareOp_41 : decode cX10_compareOp 41 = .ok (.ifCond .eq 9, 3) := by decide +kernel
theorem dX10_compareOp_44 : decode cX10_compareOp 44 = .ok (.sipush 159, 3) := by decide +kernel
theorem dX10_compareOp_47 : decode cX10_compareOp 47 = .ok (.goto 6, 3) := by decide +kernel
theorem dX10_compareOp_50 : decode cX10_compareOp 50 = .ok (.sipush 165, 3) := by decide +kernel
theorem dX10_compareOp_53 : decode cX10_compareOp 53 = .ok (.ireturn, 1) := by decide +kernel
theorem dX10_compareOp_54 : decode cX10_compareOp 54 = .ok (.iload_n 1, 1) := by decide +kernel
theorem dX10_compareOp_55 : decode cX10_compareOp 55 = .ok (.ifCond .eq 9, 3) := by decide +kernel
theorem dX10_compareOp_58 : decode cX10_compareOp 58 = .ok (.sipush 160, 3) := by decide +kernel
theorem dX10_compareOp_61 : decode cX10_compareOp 61 = .ok (.goto 6, 3) := by decide +kernel
theorem dX10_compareOp_64 : decode cX10_compareOp 64 = .ok (.sipush 166, 3) := by decide +kernel
theorem dX10_compareOp_67 : decode cX10_compareOp 67 = .ok (.ireturn, 1) := by decide +kernel
theorem dX10_compareOp_68 : decode cX10_compareOp 68 = .ok (.sipush 161, 3) := by decide +kernel
theorem dX10_compareOp_71 : decode cX10_compareOp 71 = .ok (.ireturn, 1) := by decide +kernel
theorem dX10_compareOp_72 : decode cX10_compareOp 72 = .ok (.sipush 162, 3) := by decide +kernel
theorem dX10_compareOp_75 : decode cX10_compareOp 75 = .ok (.ireturn, 1) := by decide +kernel
theorem dX10_compareOp_76 : decode cX10_compareOp 76 = .ok (.sipush 163, 3) := by decide +kernel
theorem dX10_compareOp_79 : decode cX10_compareOp 79 = .ok (.ireturn, 1) := by decide +kernel
theorem dX10_compareOp_80 : decode cX10_compareOp 80 = .ok (.sipush 164, 3) := by decide +kernel
theorem dX10_compareOp_83 : decode cX10_compareOp 83 = .ok (.ireturn, 1) := by decide +kernel
theorem dX10_arithmeticOp_0 : decode cX10_arithmeticOp 0 = .ok (.iload_n 0, 1) := by decide +kernel
theorem dX10_arithmeticOp_1 : decode cX10_arithmeticOp 1 = .ok (.tableswitch 90 58 68 #[74, 77, 80, 59, 62, 65, 68, 71, 83, 90, 86], 59) := by decide +kernel
theorem dX10_arithmeticOp_60 : decode cX10_arithmeticOp 60 = .ok (.bipush 96, 2) := by decide +kernel
theorem dX10_arithmeticOp_62 : decode cX10_arithmeticOp 62 = .ok (.ireturn, 1) := by decide +kernel
theorem dX10_arithmeticOp_63 : decode cX10_arithmeticOp 63 = .ok (.bipush 100, 2) := by decide +kernel
theorem dX10_arithmeticOp_65 : decode cX10_arithmeticOp 65 = .ok (.ireturn, 1) := by decide +kernel
theorem dX10_arithmeticOp_66 : decode cX10_arithmeticOp 66 = .ok (.bipush 104, 2) := by decide +kernel
theorem dX10_arithmeticOp_68 : decode cX10_arithmeticOp 68 = .ok (.ireturn, 1) := by decide +kernel
theorem dX10_arithmeticOp_69 : decode cX10_arithmeticOp 69 = .ok (.bipush 108, 2) := by decide +kernel
theorem dX10_arithmeticOp_71 : decode cX10_arithmeticOp 71 = .ok (.ireturn, 1) := by decide +kernel
theorem dX10_arithmeticOp_72 : decode cX10_arithmeticOp 72 = .ok (.bipush 112, 2) := by decide +kernel
theorem dX10_arithmeticOp_74 : decode cX10_arithmeticOp 74 = .ok (.ireturn, 1) := by decide +kernel
theorem dX10_arithmeticOp_75 : decode cX10_arithmeticOp 75 = .ok (.bipush 120, 2) := by decide +kernel
theorem dX10_arithmeticOp_77 : decode cX10_arithmeticOp 77 = .ok (.ireturn, 1) := by decide +kernel
theorem dX10_arithmeticOp_78 : decode cX10_arithmeticOp 78 = .ok (.bipush 122, 2) := by decide +kernel
theorem dX10_arithmeticOp_80 : decode cX10_arithmeticOp 80 = .ok (.ireturn, 1) := by decide +kernel
theorem dX10_arithmeticOp_81 : decode cX10_arithmeticOp 81 = .ok (.bipush 124, 2) := by decide +kernel
theorem dX10_arithmeticOp_83 : decode cX10_arithmeticOp 83 = .ok (.ireturn, 1) := by decide +kernel
theorem dX10_arithmeticOp_84 : decode cX10_arithmeticOp 84 = .ok (.bipush 126, 2) := by decide +kernel
theorem dX10_arithmeticOp_86 : decode cX10_arithmeticOp 86 = .ok (.ireturn, 1) := by decide +kernel
theorem dX10_arithmeticOp_87 : decode cX10_arithmeticOp 87 = .ok (.sipush 128, 3) := by decide +kernel
theorem dX10_arithmeticOp_90 : decode cX10_arithmeticOp 90 = .ok (.ireturn, 1) := by decide +kernel
theorem dX10_arithmeticOp_91 : decode cX10_arithmeticOp 91 = .ok (.sipush 130, 3) := by decide +kernel
theorem dX10_arithmeticOp_94 : decode cX10_arithmeticOp 94 = .ok (.ireturn, 1) := by decide +kernel
theorem dX10_readInstanceof_0 : decode cX10_readInstanceof 0 = .ok (.aload_n 0, 1) := by decide +kernel
theorem dX10_readInstanceof_1 : decode cX10_readInstanceof 1 = .ok (.getfield 31, 3) := by decide +kernel
theorem dX10_readInstanceof_4 : decode cX10_readInstanceof 4 = .ok (.getfield 72, 3) := by decide +kernel
theorem dX10_readInstanceof_7 : decode cX10_readInstanceof 7 = .ok (.iconst 1, 1) := by decide +kernel
theorem dX10_readInstanceof_8 : decode cX10_readInstanceof 8 = .ok (.iadd, 1) := by decide +kernel
theorem dX10_readInstanceof_9 : decode cX10_readInstanceof 9 = .ok (.istore_n 1, 1) := by decide +kernel
theorem dX10_readInstanceof_10 : decode cX10_readInstanceof 10 = .ok (.aload_n 0, 1) := by decide +kernel
theorem dX10_readInstanceof_11 : decode cX10_readInstanceof 11 = .ok (.iload_n 1, 1) := by decide +kernel
theorem dX10_readInstanceof_12 : decode cX10_readInstanceof 12 = .ok (.iload_n 1, 1) := by decide +kernel
theorem dX10_readInstanceof_13 : decode cX10_readInstanceof 13 = .ok (.iconst 1, 1) := by decide +kernel
theorem dX10_readInstanceof_14 : decode cX10_readInstanceof 14 = .ok (.iadd, 1) := by decide +kernel
theorem dX10_readInstanceof_15 : decode cX10_readInstanceof 15 = .ok (.invokevirtual 168, 3) := by decide +kernel
theorem dX10_readInstanceof_18 : decode cX10_readInstanceof 18 = .ok (.istore_n 2, 1) := by decide +kernel
theorem dX10_readInstanceof_19 : decode cX10_readInstanceof 19 = .ok (.iload_n 2, 1) := by decide +kernel
theorem dX10_readInstanceof_20 : decode cX10_readInstanceof 20 = .ok (.iconst (-1), 1) := by decide +kernel
theorem dX10_readInstanceof_21 : decode cX10_readInstanceof 21 = .ok (.if_icmp .eq 45, 3) := by decide +kernel
theorem dX10_readInstanceof_24 : decode cX10_readInstanceof 24 = .ok (.aload_n 0, 1) := by decide +kernel
theorem dX10_readInstanceof_25 : decode cX10_readInstanceof 25 = .ok (.iload_n 2, 1) := by decide +kernel
theorem dX10_readInstanceof_26 : decode cX10_readInstanceof 26 = .ok (.iload_n 1, 1) := by decide +kernel
theorem dX10_readInstanceof_27 : decode cX10_readInstanceof 27 = .ok (.invokevirtual 171, 3) := by decide +kernel
theorem dX10_readInstanceof_30 : decode cX10_readInstanceof 30 = .ok (.aload_n 0, 1) := by decide +kernel
theorem dX10_readInstanceof_31 : decode cX10_readInstanceof 31 = .ok (.getfield 46, 3) := by decide +kernel
theorem dX10_readInstanceof_34 : decode cX10_readInstanceof 34 = .ok (.sipush 193, 3) := by decide +kernel
theorem dX10_readInstanceof_37 : decode cX10_readInstanceof 37 = .ok (.aload_n 0, 1) := by decide +kernel
theorem dX10_readInstanceof_38 : decode cX10_readInstanceof 38 = .ok (.getfield 50, 3) := by decide +kernel
theorem dX10_readInstanceof_41 : decode cX10_readInstanceof 41 = .ok (.iload_n 2, 1) := by decide +kernel
theorem dX10_readInstanceof_42 : decode cX10_readInstanceof 42 = .ok (.invokevirtual 174, 3) := by decide +kernel
theorem dX10_readInstanceof_45 : decode cX10_readInstanceof 45 = .ok (.invokevirtual 179, 3) := by decide +kernel
theorem dX10_readInstanceof_48 : decode cX10_readInstanceof 48 = .ok (.aload_n 0, 1) := by decide +kernel
theorem dX10_readInstanceof_49 : decode cX10_readInstanceof 49 = .ok (.getfield 46, 3) := by decide +kernel
theorem dX10_readInstanceof_52 : decode cX10_readInstanceof 52 = .ok (.iconst 1, 1) := by decide +kernel
theorem dX10_readInstanceof_53 : decode cX10_readInstanceof 53 = .ok (.invokevirtual 118, 3) := by decide +kernel
theorem dX10_readInstanceof_56 : decode cX10_readInstanceof 56 = .ok (.aload_n 0, 1) := by decide +kernel
theorem dX10_readInstanceof_57 : decode cX10_readInstanceof 57 = .ok (.getfield 46, 3) := by decide +kernel
theorem dX10_readInstanceof_60 : decode cX10_readInstanceof 60 = .ok (.sipush 302, 3) := by decide +kernel
theorem dX10_readInstanceof_63 : decode cX10_readInstanceof 63 = .ok (.invokevirtual 130, 3) := by decide +kernel
theorem dX10_readInstanceof_66 : decode cX10_readInstanceof 66 = .ok (.aload_n 0, 1) := by decide +kernel
theorem dX10_readInstanceof_67 : decode cX10_readInstanceof 67 = .ok (.sipush 302, 3) := by decide +kernel
theorem dX10_readInstanceof_70 : decode cX10_readInstanceof 70 = .ok (.putfield 75, 3) := by decide +kernel
theorem dX10_readInstanceof_73 : decode cX10_readInstanceof 73 = .ok (.aload_n 0, 1) := by decide +kernel
theorem dX10_readInstanceof_74 : decode cX10_readInstanceof 74 = .ok (.iconst 0, 1) := by decide +kernel
theorem dX10_readInstanceof_75 : decode cX10_readInstanceof 75 = .ok (.putfield 133, 3) := by decide +kernel
theorem dX10_readInstanceof_78 : decode cX10_readInstanceof 78 = .ok (.return_, 1) := by decide +kernel
theorem dX10_readNamedClass_0 : decode cX10_readNamedClass 0 = .ok (.aload_n 0, 1) := by decide +kernel
theorem dX10_readNamedClass_1 : decode cX10_readNamedClass 1 = .ok (.getfield 35, 3) := by decide +kernel
theorem dX10_readNamedClass_4 : decode cX10_readNamedClass 4 = .ok (.iload_n 1, 1) := by decide +kernel
theorem dX10_readNamedClass_5 : decode cX10_readNamedClass 5 = .ok (.invokevirtual 181, 3) := by decide +kernel
theorem dX10_readNamedClass_8 : decode cX10_readNamedClass 8 = .ok (.istore_n 3, 1) := by decide +kernel
theorem dX10_readNamedClass_9 : decode cX10_readNamedClass 9 = .ok (.iload_n 3, 1) := by decide +kernel
theorem dX10_readNamedClass_10 : decode cX10_readNamedClass 10 = .ok (.iconst (-1), 1) := by decide +kernel
theorem dX10_readNamedClass_11 : decode cX10_readNamedClass 11 = .ok (.if_icmp .ne 12, 3) := by decide +kernel
theorem dX10_readNamedClass_14 : decode cX10_readNamedClass 14 = .ok (.aload_n 0, 1) := by decide +kernel
theorem dX10_readNamedClass_15 : decode cX10_readNamedClass 15 = .ok (.getfield 31, 3) := by decide +kernel
theorem dX10_readNamedClass_18 : decode cX10_readNamedClass 18 = .ok (.iconst 5, 1) := by decide +kernel
theorem dX10_readNamedClass_19 : decode cX10_readNamedClass 19 = .ok (.iload_n 1, 1) := by decide +kernel
theorem dX10_readNamedClass_20 : decode cX10_readNamedClass 20 = .ok (.invokevirtual 165, 3) := by decide +kernel
theorem dX10_readNamedClass_23 : decode cX10_readNamedClass 23 = .ok (.aload_n 0, 1) := by decide +kernel
theorem dX10_readNamedClass_24 : decode cX10_readNamedClass 24 = .ok (.getfield 31, 3) := by decide +kernel
theorem dX10_readNamedClass_27 : decode cX10_readNamedClass 27 = .ok (.iload_n 2, 1) := by decide +kernel
theorem dX10_readNamedClass_28 : decode cX10_readNamedClass 28 = .ok (.putfield 72, 3) := by decide +kernel
theorem dX10_readNamedClass_31 : decode cX10_readNamedClass 31 = .ok (.iload_n 3, 1) := by decide +kernel
theorem dX10_readNamedClass_32 : decode cX10_readNamedClass 32 = .ok (.ireturn, 1) := by decide +kernel
theorem dX10_wantKinOf_0 : decode cX10_wantKinOf 0 = .ok (.aload_n 0, 1) := by decide +kernel
theorem dX10_wantKinOf_1 : decode cX10_wantKinOf 1 = .ok (.aload_n 0, 1) := by decide +kernel
theorem dX10_wantKinOf_2 : decode cX10_wantKinOf 2 = .ok (.getfield 75, 3) := by decide +kernel
theorem dX10_wantKinOf_5 : decode cX10_wantKinOf 5 = .ok (.invokestatic 136, 3) := by decide +kernel
theorem dX10_wantKinOf_8 : decode cX10_wantKinOf 8 = .ok (.ifCond .eq 22, 3) := by decide +kernel
theorem dX10_wantKinOf_11 : decode cX10_wantKinOf 11 = .ok (.aload_n 0, 1) := by decide +kernel
theorem dX10_wantKinOf_12 : decode cX10_wantKinOf 12 = .ok (.getfield 45, 3) := by decide +kernel
theorem dX10_wantKinOf_15 : decode cX10_wantKinOf 15 = .ok (.aload_n 0, 1) := by decide +kernel
theorem dX10_wantKinOf_16 : decode cX10_wantKinOf 16 = .ok (.getfield 75, 3) := by decide +kernel
theorem dX10_wantKinOf_19 : decode cX10_wantKinOf 19 = .ok (.iload_n 1, 1) := by decide +kernel
theorem dX10_wantKinOf_20 : decode cX10_wantKinOf 20 = .ok (.invokevirtual 140, 3) := by decide +kernel
theorem dX10_wantKinOf_23 : decode cX10_wantKinOf 23 = .ok (.ifCond .eq 7, 3) := by decide +kernel
theorem dX10_wantKinOf_26 : decode cX10_wantKinOf 26 = .ok (.iconst 1, 1) := by decide +kernel
theorem dX10_wantKinOf_27 : decode cX10_wantKinOf 27 = .ok (.goto 4, 3) := by decide +kernel
theorem dX10_wantKinOf_30 : decode cX10_wantKinOf 30 = .ok (.iconst 0, 1) := by decide +kernel
theorem dX10_wantKinOf_31 : decode cX10_wantKinOf 31 = .ok (.iload_n 2, 1) := by decide +kernel
theorem dX10_wantKinOf_32 : decode cX10_wantKinOf 32 = .ok (.invokevirtual 80, 3) := by decide +kernel
theorem dX10_wantKinOf_35 : decode cX10_wantKinOf 35 = .ok (.return_, 1) := by decide +kernel
theorem dX10_closeCast_0 : decode cX10_closeCast 0 = .ok (.aload_n 0, 1) := by decide +kernel
theorem dX10_closeCast_1 : decode cX10_closeCast 1 = .ok (.iconst 0, 1) := by decide +kernel
theorem dX10_closeCast_2 : decode cX10_closeCast 2 = .ok (.putfield 133, 3) := by decide +kernel
theorem dX10_closeCast_5 : decode cX10_closeCast 5 = .ok (.iload_n 1, 1) := by decide +kernel
theorem dX10_closeCast_6 : decode cX10_closeCast 6 = .ok (.iconst (-1), 1) := by decide +kernel
theorem dX10_closeCast_7 : decode cX10_closeCast 7 = .ok (.if_icmp .ne 4, 3) := by decide +kernel
theorem dX10_closeCast_10 : decode cX10_closeCast 10 = .ok (.return_, 1) := by decide +kernel
theorem dX10_closeCast_11 : decode cX10_closeCast 11 = .ok (.aload_n 0, 1) := by decide +kernel
theorem dX10_closeCast_12 : decode cX10_closeCast 12 = .ok (.iload_n 1, 1) := by decide +kernel
theorem dX10_closeCast_13 : decode cX10_closeCast 13 = .ok (.iload_n 2, 1) := by decide +kernel
theorem dX10_closeCast_14 : decode cX10_closeCast 14 = .ok (.invokevirtual 171, 3) := by decide +kernel
theorem dX10_closeCast_17 : decode cX10_closeCast 17 = .ok (.aload_n 0, 1) := by decide +kernel
theorem dX10_closeCast_18 : decode cX10_closeCast 18 = .ok (.getfield 46, 3) := by decide +kernel
theorem dX10_closeCast_21 : decode cX10_closeCast 21 = .ok (.sipush 192, 3) := by decide +kernel
theorem dX10_closeCast_24 : decode cX10_closeCast 24 = .ok (.aload_n 0, 1) := by decide +kernel
theorem dX10_closeCast_25 : decode cX10_closeCast 25 = .ok (.getfield 50, 3) := by decide +kernel
theorem dX10_closeCast_28 : decode cX10_closeCast 28 = .ok (.iload_n 1, 1) := by decide +kernel
theorem dX10_closeCast_29 : decode cX10_closeCast 29 = .ok (.invokevirtual 174, 3) := by decide +kernel
theorem dX10_closeCast_32 : decode cX10_closeCast 32 = .ok (.invokevirtual 179, 3) := by decide +kernel
theorem dX10_closeCast_35 : decode cX10_closeCast 35 = .ok (.aload_n 0, 1) := by decide +kernel
theorem dX10_closeCast_36 : decode cX10_closeCast 36 = .ok (.getfield 46, 3) := by decide +kernel
theorem dX10_closeCast_39 : decode cX10_closeCast 39 = .ok (.iconst 1, 1) := by decide +kernel
theorem dX10_closeCast_40 : decode cX10_closeCast 40 = .ok (.invokevirtual 118, 3) := by decide +kernel
theorem dX10_closeCast_43 : decode cX10_closeCast 43 = .ok (.aload_n 0, 1) := by decide +kernel
theorem dX10_closeCast_44 : decode cX10_closeCast 44 = .ok (.getfield 46, 3) := by decide +kernel
theorem dX10_closeCast_47 : decode cX10_closeCast 47 = .ok (.iload_n 1, 1) := by decide +kernel
theorem dX10_closeCast_48 : decode cX10_closeCast 48 = .ok (.invokevirtual 130, 3) := by decide +kernel
theorem dX10_closeCast_51 : decode cX10_closeCast 51 = .ok (.aload_n 0, 1) := by decide +kernel
theorem dX10_closeCast_52 : decode cX10_closeCast 52 = .ok (.iload_n 1, 1) := by decide +kernel
theorem dX10_closeCast_53 : decode cX10_closeCast 53 = .ok (.putfield 75, 3) := by decide +kernel
theorem dX10_closeCast_56 : decode cX10_closeCast 56 = .ok (.return_, 1) := by decide +kernel
theorem dX10_fetch_0 : decode cX10_fetch 0 = .ok (.aload_n 0, 1) := by decide +kernel
theorem dX10_fetch_1 : decode cX10_fetch 1 = .ok (.getfield 133, 3) := by decide +kernel
theorem dX10_fetch_4 : decode cX10_fetch 4 = .ok (.tableswitch 130 2 4 #[28, 59, 95], 28) := by decide +kernel
theorem dX10_fetch_32 : decode cX10_fetch 32 = .ok (.aload_n 0, 1) := by decide +kernel
theorem dX10_fetch_33 : decode cX10_fetch 33 = .ok (.getfield 46, 3) := by decide +kernel
theorem dX10_fetch_36 : decode cX10_fetch 36 = .ok (.aload_n 0, 1) := by decide +kernel
theorem dX10_fetch_37 : decode cX10_fetch 37 = .ok (.getfield 75, 3) := by decide +kernel
theorem dX10_fetch_40 : decode cX10_fetch 40 = .ok (.invokestatic 143, 3) := by decide +kernel
theorem dX10_fetch_43 : decode cX10_fetch 43 = .ok (.ifCond .eq 8, 3) := by decide +kernel
theorem dX10_fetch_46 : decode cX10_fetch 46 = .ok (.bipush 21, 2) := by decide +kernel
theorem dX10_fetch_48 : decode cX10_fetch 48 = .ok (.goto 5, 3) := by decide +kernel
theorem dX10_fetch_51 : decode cX10_fetch 51 = .ok (.bipush 25, 2) := by decide +kernel
theorem dX10_fetch_53 : decode cX10_fetch 53 = .ok (.aload_n 0, 1) := by decide +kernel
theorem dX10_fetch_54 : decode cX10_fetch 54 = .ok (.getfield 215, 3) := by decide +kernel
theorem dX10_fetch_57 : decode cX10_fetch 57 = .ok (.invokevirtual 179, 3) := by decide +kernel
theorem dX10_fetch_60 : decode cX10_fetch 60 = .ok (.goto 75, 3) := by decide +kernel
theorem dX10_fetch_63 : decode cX10_fetch 63 = .ok (.aload_n 0, 1) := by decide +kernel
theorem dX10_fetch_64 : decode cX10_fetch 64 = .ok (.getfield 46, 3) := by decide +kernel
theorem dX10_fetch_67 : decode cX10_fetch 67 = .ok (.sipush 180, 3) := by decide +kernel
theorem dX10_fetch_70 : decode cX10_fetch 70 = .ok (.aload_n 0, 1) := by decide +kernel
theorem dX10_fetch_71 : decode cX10_fetch 71 = .ok (.getfield 50, 3) := by decide +kernel
theorem dX10_fetch_74 : decode cX10_fetch 74 = .ok (.aload_n 0, 1) := by decide +kernel
theorem dX10_fetch_75 : decode cX10_fetch 75 = .ok (.getfield 218, 3) := by decide +kernel
theorem dX10_fetch_78 : decode cX10_fetch 78 = .ok (.aload_n 0, 1) := by decide +kernel
theorem dX10_fetch_79 : decode cX10_fetch 79 = .ok (.getfield 215, 3) := by decide +kernel
theorem dX10_fetch_82 : decode cX10_fetch 82 = .ok (.invokevirtual 221, 3) := by decide +kernel
theorem dX10_fetch_85 : decode cX10_fetch 85 = .ok (.invokevirtual 179, 3) := by decide +kernel
theorem dX10_fetch_88 : decode cX10_fetch 88 = .ok (.aload_n 0, 1) := by decide +kernel
theorem dX10_fetch_89 : decode cX10_fetch 89 = .ok (.getfield 46, 3) := by decide +kernel
theorem dX10_fetch_92 : decode cX10_fetch 92 = .ok (.iconst 1, 1) := by decide +kernel
theorem dX10_fetch_93 : decode cX10_fetch 93 = .ok (.invokevirtual 118, 3) := by decide +kernel
theorem dX10_fetch_96 : decode cX10_fetch 96 = .ok (.goto 39, 3) := by decide +kernel
theorem dX10_fetch_99 : decode cX10_fetch 99 = .ok (.aload_n 0, 1) := by decide +kernel
theorem dX10_fetch_100 : decode cX10_fetch 100 = .ok (.getfield 46, 3) := by decide +kernel
theorem dX10_fetch_103 : decode cX10_fetch 103 = .ok (.aload_n 0, 1) := by decide +kernel
theorem dX10_fetch_104 : decode cX10_fetch 104 = .ok (.getfield 75, 3) := by decide +kernel
theorem dX10_fetch_107 : decode cX10_fetch 107 = .ok (.sipush 301, 3) := by decide +kernel
theorem dX10_fetch_110 : decode cX10_fetch 110 = .ok (.if_icmp .ne 8, 3) := by decide +kernel
theorem dX10_fetch_113 : decode cX10_fetch 113 = .ok (.bipush 46, 2) := by decide +kernel
theorem dX10_fetch_115 : decode cX10_fetch 115 = .ok (.goto 5, 3) := by decide +kernel
theorem dX10_fetch_118 : decode cX10_fetch 118 = .ok (.bipush 50, 2) := by decide +kernel
theorem dX10_fetch_120 : decode cX10_fetch 120 = .ok (.invokevirtual 162, 3) := by decide +kernel
theorem dX10_fetch_123 : decode cX10_fetch 123 = .ok (.aload_n 0, 1) := by decide +kernel
theorem dX10_fetch_124 : decode cX10_fetch 124 = .ok (.getfield 46, 3) := by decide +kernel
theorem dX10_fetch_127 : decode cX10_fetch 127 = .ok (.iconst 2, 1) := by decide +kernel
theorem dX10_fetch_128 : decode cX10_fetch 128 = .ok (.invokevirtual 118, 3) := by decide +kernel
theorem dX10_fetch_131 : decode cX10_fetch 131 = .ok (.goto 4, 3) := by decide +kernel
theorem dX10_fetch_134 : decode cX10_fetch 134 = .ok (.return_, 1) := by decide +kernel
theorem dX10_fetch_135 : decode cX10_fetch 135 = .ok (.aload_n 0, 1) := by decide +kernel
theorem dX10_fetch_136 : decode cX10_fetch 136 = .ok (.getfield 46, 3) := by decide +kernel
theorem dX10_fetch_139 : decode cX10_fetch 139 = .ok (.aload_n 0, 1) := by decide +kernel
theorem dX10_fetch_140 : decode cX10_fetch 140 = .ok (.getfield 75, 3) := by decide +kernel
theorem dX10_fetch_143 : decode cX10_fetch 143 = .ok (.invokevirtual 130, 3) := by decide +kernel
theorem dX10_fetch_146 : decode cX10_fetch 146 = .ok (.aload_n 0, 1) := by decide +kernel
theorem dX10_fetch_147 : decode cX10_fetch 147 = .ok (.iconst 0, 1) := by decide +kernel
theorem dX10_fetch_148 : decode cX10_fetch 148 = .ok (.putfield 133, 3) := by decide +kernel
theorem dX10_fetch_151 : decode cX10_fetch 151 = .ok (.return_, 1) := by decide +kernel
theorem dX10_give_0 : decode cX10_give 0 = .ok (.aload_n 0, 1) := by decide +kernel
theorem dX10_give_1 : decode cX10_give 1 = .ok (.getfield 46, 3) := by decide +kernel
theorem dX10_give_4 : decode cX10_give 4 = .ok (.iload_n 1, 1) := by decide +kernel
theorem dX10_give_5 : decode cX10_give 5 = .ok (.invokevirtual 130, 3) := by decide +kernel
theorem dX10_give_8 : decode cX10_give 8 = .ok (.aload_n 0, 1) := by decide +kernel
theorem dX10_give_9 : decode cX10_give 9 = .ok (.iload_n 1, 1) := by decide +kernel
theorem dX10_give_10 : decode cX10_give 10 = .ok (.putfield 75, 3) := by decide +kernel
theorem dX10_give_13 : decode cX10_give 13 = .ok (.aload_n 0, 1) := by decide +kernel
theorem dX10_give_14 : decode cX10_give 14 = .ok (.iconst 0, 1) := by decide +kernel
theorem dX10_give_15 : decode cX10_give 15 = .ok (.putfield 133, 3) := by decide +kernel
theorem dX10_give_18 : decode cX10_give 18 = .ok (.return_, 1) := by decide +kernel
theorem dX10_readConstant_0 : decode cX10_readConstant 0 = .ok (.aload_n 0, 1) := by decide +kernel
theorem dX10_readConstant_1 : decode cX10_readConstant 1 = .ok (.getfield 31, 3) := by decide +kernel
theorem dX10_readConstant_4 : decode cX10_readConstant 4 = .ok (.getfield 72, 3) := by decide +kernel
theorem dX10_readConstant_7 : decode cX10_readConstant 7 = .ok (.istore_n 1, 1) := by decide +kernel
theorem dX10_readConstant_8 : decode cX10_readConstant 8 = .ok (.aload_n 0, 1) := by decide +kernel
theorem dX10_readConstant_9 : decode cX10_readConstant 9 = .ok (.getfield 31, 3) := by decide +kernel
theorem dX10_readConstant_12 : decode cX10_readConstant 12 = .ok (.dup, 1) := by decide +kernel
theorem dX10_readConstant_13 : decode cX10_readConstant 13 = .ok (.getfield 72, 3) := by decide +kernel
theorem dX10_readConstant_16 : decode cX10_readConstant 16 = .ok (.iconst 1, 1) := by decide +kernel
theorem dX10_readConstant_17 : decode cX10_readConstant 17 = .ok (.iadd, 1) := by decide +kernel
theorem dX10_readConstant_18 : decode cX10_readConstant 18 = .ok (.putfield 72, 3) := by decide +kernel
theorem dX10_readConstant_21 : decode cX10_readConstant 21 = .ok (.aload_n 0, 1) := by decide +kernel
theorem dX10_readConstant_22 : decode cX10_readConstant 22 = .ok (.getfield 31, 3) := by decide +kernel
theorem dX10_readConstant_25 : decode cX10_readConstant 25 = .ok (.iload_n 1, 1) := by decide +kernel
theorem dX10_readConstant_26 : decode cX10_readConstant 26 = .ok (.invokevirtual 224, 3) := by decide +kernel
theorem dX10_readConstant_29 : decode cX10_readConstant 29 = .ok (.lookupswitch 112 #[(3, 43), (17, 76), (22, 94), (28, 58)], 43) := by decide +kernel
theorem dX10_readConstant_72 : decode cX10_readConstant 72 = .ok (.aload_n 0, 1) := by decide +kernel
theorem dX10_readConstant_73 : decode cX10_readConstant 73 = .ok (.aload_n 0, 1) := by decide +kernel
theorem dX10_readConstant_74 : decode cX10_readConstant 74 = .ok (.getfield 31, 3) := by decide +kernel
theorem dX10_readConstant_77 : decode cX10_readConstant 77 = .ok (.iload_n 1, 1) := by decide +kernel
theorem dX10_readConstant_78 : decode cX10_readConstant 78 = .ok (.invokevirtual 227, 3) := by decide +kernel
theorem dX10_readConstant_81 : decode cX10_readConstant 81 = .ok (.invokevirtual 230, 3) := by decide +kernel
theorem dX10_readConstant_84 : decode cX10_readConstant 84 = .ok (.goto 62, 3) := by decide +kernel
theorem dX10_readConstant_87 : decode cX10_readConstant 87 = .ok (.aload_n 0, 1) := by decide +kernel
theorem dX10_readConstant_88 : decode cX10_readConstant 88 = .ok (.getfield 46, 3) := by decide +kernel
theorem dX10_readConstant_91 : decode cX10_readConstant 91 = .ok (.iconst 4, 1) := by decide +kernel
theorem dX10_readConstant_92 : decode cX10_readConstant 92 = .ok (.invokevirtual 162, 3) := by decide +kernel
theorem dX10_readConstant_95 : decode cX10_readConstant 95 = .ok (.aload_n 0, 1) := by decide +kernel
theorem dX10_readConstant_96 : decode cX10_readConstant 96 = .ok (.sipush 302, 3) := by decide +kernel
theorem dX10_readConstant_99 : decode cX10_readConstant 99 = .ok (.invokevirtual 233, 3) := by decide +kernel
theorem dX10_readConstant_102 : decode cX10_readConstant 102 = .ok (.goto 44, 3) := by decide +kernel
theorem dX10_readConstant_105 : decode cX10_readConstant 105 = .ok (.aload_n 0, 1) := by decide +kernel
theorem dX10_readConstant_106 : decode cX10_readConstant 106 = .ok (.getfield 46, 3) := by decide +kernel
theorem dX10_readConstant_109 : decode cX10_readConstant 109 = .ok (.iconst 3, 1) := by decide +kernel
theorem dX10_readConstant_110 : decode cX10_readConstant 110 = .ok (.invokevirtual 162, 3) := by decide +kernel
theorem dX10_readConstant_113 : decode cX10_readConstant 113 = .ok (.aload_n 0, 1) := by decide +kernel
theorem dX10_readConstant_114 : decode cX10_readConstant 114 = .ok (.sipush 302, 3) := by decide +kernel
theorem dX10_readConstant_117 : decode cX10_readConstant 117 = .ok (.invokevirtual 233, 3) := by decide +kernel
theorem dX10_readConstant_120 : decode cX10_readConstant 120 = .ok (.goto 26, 3) := by decide +kernel
theorem dX10_readConstant_123 : decode cX10_readConstant 123 = .ok (.aload_n 0, 1) := by decide +kernel
theorem dX10_readConstant_124 : decode cX10_readConstant 124 = .ok (.getfield 46, 3) := by decide +kernel
theorem dX10_readConstant_127 : decode cX10_readConstant 127 = .ok (.iconst 1, 1) := by decide +kernel
theorem dX10_readConstant_128 : decode cX10_readConstant 128 = .ok (.invokevirtual 162, 3) := by decide +kernel
theorem dX10_readConstant_131 : decode cX10_readConstant 131 = .ok (.aload_n 0, 1) := by decide +kernel
theorem dX10_readConstant_132 : decode cX10_readConstant 132 = .ok (.sipush 300, 3) := by decide +kernel
theorem dX10_readConstant_135 : decode cX10_readConstant 135 = .ok (.invokevirtual 233, 3) := by decide +kernel
theorem dX10_readConstant_138 : decode cX10_readConstant 138 = .ok (.goto 8, 3) := by decide +kernel
theorem dX10_readConstant_141 : decode cX10_readConstant 141 = .ok (.aload_n 0, 1) := by decide +kernel
theorem dX10_readConstant_142 : decode cX10_readConstant 142 = .ok (.iload_n 1, 1) := by decide +kernel
theorem dX10_readConstant_143 : decode cX10_readConstant 143 = .ok (.invokevirtual 236, 3) := by decide +kernel
theorem dX10_readConstant_146 : decode cX10_readConstant 146 = .ok (.return_, 1) := by decide +kernel
theorem dX10_readNumber_0 : decode cX10_readNumber 0 = .ok (.iload_n 1, 1) := by decide +kernel
theorem dX10_readNumber_1 : decode cX10_readNumber 1 = .ok (.iconst 5, 1) := by decide +kernel
theorem dX10_readNumber_2 : decode cX10_readNumber 2 = .ok (.if_icmp .gt 16, 3) := by decide +kernel
theorem dX10_readNumber_5 : decode cX10_readNumber 5 = .ok (.aload_n 0, 1) := by decide +kernel
theorem dX10_readNumber_6 : decode cX10_readNumber 6 = .ok (.getfield 46, 3) := by decide +kernel
theorem dX10_readNumber_9 : decode cX10_readNumber 9 = .ok (.iconst 3, 1) := by decide +kernel
theorem dX10_readNumber_10 : decode cX10_readNumber 10 = .ok (.iload_n 1, 1) := by decide +kernel
theorem dX10_readNumber_11 : decode cX10_readNumber 11 = .ok (.iadd, 1) := by decide +kernel
theorem dX10_readNumber_12 : decode cX10_readNumber 12 = .ok (.invokevirtual 162, 3) := by decide +kernel
theorem dX10_readNumber_15 : decode cX10_readNumber 15 = .ok (.goto 39, 3) := by decide +kernel
theorem dX10_readNumber_18 : decode cX10_readNumber 18 = .ok (.iload_n 1, 1) := by decide +kernel
theorem dX10_readNumber_19 : decode cX10_readNumber 19 = .ok (.bipush 127, 2) := by decide +kernel
theorem dX10_readNumber_21 : decode cX10_readNumber 21 = .ok (.if_icmp .gt 16, 3) := by decide +kernel
theorem dX10_readNumber_24 : decode cX10_readNumber 24 = .ok (.aload_n 0, 1) := by decide +kernel
theorem dX10_readNumber_25 : decode cX10_readNumber 25 = .ok (.getfield 46, 3) := by decide +kernel
theorem dX10_readNumber_28 : decode cX10_readNumber 28 = .ok (.bipush 16, 2) := by decide +kernel
theorem dX10_readNumber_30 : decode cX10_readNumber 30 = .ok (.iload_n 1, 1) := by decide +kernel
theorem dX10_readNumber_31 : decode cX10_readNumber 31 = .ok (.invokevirtual 179, 3) := by decide +kernel
theorem dX10_readNumber_34 : decode cX10_readNumber 34 = .ok (.goto 20, 3) := by decide +kernel
theorem dX10_readNumber_37 : decode cX10_readNumber 37 = .ok (.aload_n 0, 1) := by decide +kernel
theorem dX10_readNumber_38 : decode cX10_readNumber 38 = .ok (.getfield 46, 3) := by decide +kernel
theorem dX10_readNumber_41 : decode cX10_readNumber 41 = .ok (.bipush 18, 2) := by decide +kernel
theorem dX10_readNumber_43 : decode cX10_readNumber 43 = .ok (.aload_n 0, 1) := by decide +kernel
theorem dX10_readNumber_44 : decode cX10_readNumber 44 = .ok (.getfield 50, 3) := by decide +kernel
theorem dX10_readNumber_47 : decode cX10_readNumber 47 = .ok (.iload_n 1, 1) := by decide +kernel
theorem dX10_readNumber_48 : decode cX10_readNumber 48 = .ok (.invokevirtual 239, 3) := by decide +kernel
theorem dX10_readNumber_51 : decode cX10_readNumber 51 = .ok (.invokevirtual 179, 3) := by decide +kernel
theorem dX10_readNumber_54 : decode cX10_readNumber 54 = .ok (.aload_n 0, 1) := by decide +kernel
theorem dX10_readNumber_55 : decode cX10_readNumber 55 = .ok (.sipush 301, 3) := by decide +kernel
theorem dX10_readNumber_58 : decode cX10_readNumber 58 = .ok (.invokevirtual 233, 3) := by decide +kernel
theorem dX10_readNumber_61 : decode cX10_readNumber 61 = .ok (.return_, 1) := by decide +kernel
theorem dX10_giveThis_0 : decode cX10_giveThis 0 = .ok (.aload_n 0, 1) := by decide +kernel
theorem dX10_giveThis_1 : decode cX10_giveThis 1 = .ok (.getfield 58, 3) := by decide +kernel
theorem dX10_giveThis_4 : decode cX10_giveThis 4 = .ok (.ifCond .eq 13, 3) := by decide +kernel
theorem dX10_giveThis_7 : decode cX10_giveThis 7 = .ok (.aload_n 0, 1) := by decide +kernel
theorem dX10_giveThis_8 : decode cX10_giveThis 8 = .ok (.getfield 31, 3) := by decide +kernel
theorem dX10_giveThis_11 : decode cX10_giveThis 11 = .ok (.bipush 7, 2) := by decide +kernel
theorem dX10_giveThis_13 : decode cX10_giveThis 13 = .ok (.iload_n 1, 1) := by decide +kernel
theorem dX10_giveThis_14 : decode cX10_giveThis 14 = .ok (.invokevirtual 165, 3) := by decide +kernel
theorem dX10_giveThis_17 : decode cX10_giveThis 17 = .ok (.aload_n 0, 1) := by decide +kernel
theorem dX10_giveThis_18 : decode cX10_giveThis 18 = .ok (.getfield 46, 3) := by decide +kernel
theorem dX10_giveThis_21 : decode cX10_giveThis 21 = .ok (.bipush 25, 2) := by decide +kernel
theorem dX10_giveThis_23 : decode cX10_giveThis 23 = .ok (.iconst 0, 1) := by decide +kernel
theorem dX10_giveThis_24 : decode cX10_giveThis 24 = .ok (.invokevirtual 179, 3) := by decide +kernel
theorem dX10_giveThis_27 : decode cX10_giveThis 27 = .ok (.aload_n 0, 1) := by decide +kernel
theorem dX10_giveThis_28 : decode cX10_giveThis 28 = .ok (.aload_n 0, 1) := by decide +kernel
theorem dX10_giveThis_29 : decode cX10_giveThis 29 = .ok (.getfield 54, 3) := by decide +kernel
theorem dX10_giveThis_32 : decode cX10_giveThis 32 = .ok (.invokevirtual 233, 3) := by decide +kernel
theorem dX10_giveThis_35 : decode cX10_giveThis 35 = .ok (.return_, 1) := by decide +kernel
theorem dX10_methodNamed_0 : decode cX10_methodNamed 0 = .ok (.aload_n 0, 1) := by decide +kernel
theorem dX10_methodNamed_1 : decode cX10_methodNamed 1 = .ok (.getfield 35, 3) := by decide +kernel
theorem dX10_methodNamed_4 : decode cX10_methodNamed 4 = .ok (.iload_n 1, 1) := by decide +kernel
theorem dX10_methodNamed_5 : decode cX10_methodNamed 5 = .ok (.aload_n 0, 1) := by decide +kernel
theorem dX10_methodNamed_6 : decode cX10_methodNamed 6 = .ok (.getfield 31, 3) := by decide +kernel
theorem dX10_methodNamed_9 : decode cX10_methodNamed 9 = .ok (.iload_n 2, 1) := by decide +kernel
theorem dX10_methodNamed_10 : decode cX10_methodNamed 10 = .ok (.invokevirtual 227, 3) := by decide +kernel
theorem dX10_methodNamed_13 : decode cX10_methodNamed 13 = .ok (.invokevirtual 271, 3) := by decide +kernel
theorem dX10_methodNamed_16 : decode cX10_methodNamed 16 = .ok (.istore_n 3, 1) := by decide +kernel
theorem dX10_methodNamed_17 : decode cX10_methodNamed 17 = .ok (.iload_n 3, 1) := by decide +kernel
theorem dX10_methodNamed_18 : decode cX10_methodNamed 18 = .ok (.iconst (-1), 1) := by decide +kernel
theorem dX10_methodNamed_19 : decode cX10_methodNamed 19 = .ok (.if_icmp .ne 12, 3) := by decide +kernel
theorem dX10_methodNamed_22 : decode cX10_methodNamed 22 = .ok (.aload_n 0, 1) := by decide +kernel
theorem dX10_methodNamed_23 : decode cX10_methodNamed 23 = .ok (.getfield 31, 3) := by decide +kernel
theorem dX10_methodNamed_26 : decode cX10_methodNamed 26 = .ok (.iconst 5, 1) := by decide +kernel
theorem dX10_methodNamed_27 : decode cX10_methodNamed 27 = .ok (.iload_n 2, 1) := by decide +kernel
theorem dX10_methodNamed_28 : decode cX10_methodNamed 28 = .ok (.invokevirtual 165, 3) := by decide +kernel
theorem dX10_methodNamed_31 : decode cX10_methodNamed 31 = .ok (.iload_n 3, 1) := by decide +kernel
theorem dX10_methodNamed_32 : decode cX10_methodNamed 32 = .ok (.ireturn, 1) := by decide +kernel
theorem dX10_isCallBehindPoint_0 : decode cX10_isCallBehindPoint 0 = .ok (.aload_n 0, 1) := by decide +kernel
theorem dX10_isCallBehindPoint_1 : decode cX10_isCallBehindPoint 1 = .ok (.getfield 31, 3) := by decide +kernel
theorem dX10_isCallBehindPoint_4 : decode cX10_isCallBehindPoint 4 = .ok (.iload_n 1, 1) := by decide +kernel
theorem dX10_isCallBehindPoint_5 : decode cX10_isCallBehindPoint 5 = .ok (.invokevirtual 224, 3) := by decide +kernel
theorem dX10_isCallBehindPoint_8 : decode cX10_isCallBehindPoint 8 = .ok (.bipush 48, 2) := by decide +kernel
theorem dX10_isCallBehindPoint_10 : decode cX10_isCallBehindPoint 10 = .ok (.if_icmp .ne 36, 3) := by decide +kernel
theorem dX10_isCallBehindPoint_13 : decode cX10_isCallBehindPoint 13 = .ok (.aload_n 0, 1) := by decide +kernel
theorem dX10_isCallBehindPoint_14 : decode cX10_isCallBehindPoint 14 = .ok (.getfield 31, 3) := by decide +kernel
theorem dX10_isCallBehindPoint_17 : decode cX10_isCallBehindPoint 17 = .ok (.iload_n 1, 1) := by decide +kernel
theorem dX10_isCallBehindPoint_18 : decode cX10_isCallBehindPoint 18 = .ok (.iconst 1, 1) := by decide +kernel
theorem dX10_isCallBehindPoint_19 : decode cX10_isCallBehindPoint 19 = .ok (.iadd, 1) := by decide +kernel
theorem dX10_isCallBehindPoint_20 : decode cX10_isCallBehindPoint 20 = .ok (.invokevirtual 224, 3) := by decide +kernel
theorem dX10_isCallBehindPoint_23 : decode cX10_isCallBehindPoint 23 = .ok (.iconst 2, 1) := by decide +kernel
theorem dX10_isCallBehindPoint_24 : decode cX10_isCallBehindPoint 24 = .ok (.if_icmp .ne 22, 3) := by decide +kernel
theorem dX10_isCallBehindPoint_27 : decode cX10_isCallBehindPoint 27 = .ok (.aload_n 0, 1) := by decide +kernel
theorem dX10_isCallBehindPoint_28 : decode cX10_isCallBehindPoint 28 = .ok (.getfield 31, 3) := by decide +kernel
theorem dX10_isCallBehindPoint_31 : decode cX10_isCallBehindPoint 31 = .ok (.iload_n 1, 1) := by decide +kernel
theorem dX10_isCallBehindPoint_32 : decode cX10_isCallBehindPoint 32 = .ok (.iconst 2, 1) := by decide +kernel
theorem dX10_isCallBehindPoint_33 : decode cX10_isCallBehindPoint 33 = .ok (.iadd, 1) := by decide +kernel
theorem dX10_isCallBehindPoint_34 : decode cX10_isCallBehindPoint 34 = .ok (.invokevirtual 224, 3) := by decide +kernel
theorem dX10_isCallBehindPoint_37 : decode cX10_isCallBehindPoint 37 = .ok (.bipush 40, 2) := by decide +kernel
theorem dX10_isCallBehindPoint_39 : decode cX10_isCallBehindPoint 39 = .ok (.if_icmp .ne 7, 3) := by decide +kernel
theorem dX10_isCallBehindPoint_42 : decode cX10_isCallBehindPoint 42 = .ok (.iconst 1, 1) := by decide +kernel
theorem dX10_isCallBehindPoint_43 : decode cX10_isCallBehindPoint 43 = .ok (.goto 4, 3) := by decide +kernel
theorem dX10_isCallBehindPoint_46 : decode cX10_isCallBehindPoint 46 = .ok (.iconst 0, 1) := by decide +kernel
theorem dX10_isCallBehindPoint_47 : decode cX10_isCallBehindPoint 47 = .ok (.ireturn, 1) := by decide +kernel
theorem dX10_nameField_0 : decode cX10_nameField 0 = .ok (.aload_n 0, 1) := by decide +kernel
theorem dX10_nameField_1 : decode cX10_nameField 1 = .ok (.iconst 3, 1) := by decide +kernel
theorem dX10_nameField_2 : decode cX10_nameField 2 = .ok (.putfield 133, 3) := by decide +kernel
theorem dX10_nameField_5 : decode cX10_nameField 5 = .ok (.aload_n 0, 1) := by decide +kernel
theorem dX10_nameField_6 : decode cX10_nameField 6 = .ok (.iload_n 1, 1) := by decide +kernel
theorem dX10_nameField_7 : decode cX10_nameField 7 = .ok (.putfield 218, 3) := by decide +kernel
theorem dX10_nameField_10 : decode cX10_nameField 10 = .ok (.aload_n 0, 1) := by decide +kernel
theorem dX10_nameField_11 : decode cX10_nameField 11 = .ok (.iload_n 2, 1) := by decide +kernel
theorem dX10_nameField_12 : decode cX10_nameField 12 = .ok (.putfield 215, 3) := by decide +kernel
theorem dX10_nameField_15 : decode cX10_nameField 15 = .ok (.aload_n 0, 1) := by decide +kernel
theorem dX10_nameField_16 : decode cX10_nameField 16 = .ok (.aload_n 0, 1) := by decide +kernel
theorem dX10_nameField_17 : decode cX10_nameField 17 = .ok (.getfield 35, 3) := by decide +kernel
theorem dX10_nameField_20 : decode cX10_nameField 20 = .ok (.iload_n 2, 1) := by decide +kernel
theorem dX10_nameField_21 : decode cX10_nameField 21 = .ok (.invokevirtual 274, 3) := by decide +kernel
theorem dX10_nameField_24 : decode cX10_nameField 24 = .ok (.putfield 75, 3) := by decide +kernel
theorem dX10_nameField_27 : decode cX10_nameField 27 = .ok (.return_, 1) := by decide +kernel
theorem dX10_closeCall_0 : decode cX10_closeCall 0 = .ok (.iload_n 1, 1) := by decide +kernel
theorem dX10_closeCall_1 : decode cX10_closeCall 1 = .ok (.sipush 303, 3) := by decide +kernel
theorem dX10_closeCall_4 : decode cX10_closeCall 4 = .ok (.if_icmp .eq 11, 3) := by decide +kernel
theorem dX10_closeCall_7 : decode cX10_closeCall 7 = .ok (.aload_n 0, 1) := by decide +kernel
theorem dX10_closeCall_8 : decode cX10_closeCall 8 = .ok (.iload_n 1, 1) := by decide +kernel
theorem dX10_closeCall_9 : decode cX10_closeCall 9 = .ok (.invokevirtual 233, 3) := by decide +kernel
theorem dX10_closeCall_12 : decode cX10_closeCall 12 = .ok (.goto 33, 3) := by decide +kernel
theorem dX10_closeCall_15 : decode cX10_closeCall 15 = .ok (.iload_n 3, 1) := by decide +kernel
theorem dX10_closeCall_16 : decode cX10_closeCall 16 = .ok (.aload_n 0, 1) := by decide +kernel
theorem dX10_closeCall_17 : decode cX10_closeCall 17 = .ok (.getfield 62, 3) := by decide +kernel
theorem dX10_closeCall_20 : decode cX10_closeCall 20 = .ok (.if_icmp .ne 15, 3) := by decide +kernel
theorem dX10_closeCall_23 : decode cX10_closeCall 23 = .ok (.aload_n 0, 1) := by decide +kernel
theorem dX10_closeCall_24 : decode cX10_closeCall 24 = .ok (.getfield 31, 3) := by decide +kernel
theorem dX10_closeCall_27 : decode cX10_closeCall 27 = .ok (.invokevirtual 93, 3) := by decide +kernel
theorem dX10_closeCall_30 : decode cX10_closeCall 30 = .ok (.bipush 46, 2) := by decide +kernel
theorem dX10_closeCall_32 : decode cX10_closeCall 32 = .ok (.if_icmp .eq 13, 3) := by decide +kernel
theorem dX10_closeCall_35 : decode cX10_closeCall 35 = .ok (.aload_n 0, 1) := by decide +kernel
theorem dX10_closeCall_36 : decode cX10_closeCall 36 = .ok (.getfield 31, 3) := by decide +kernel
theorem dX10_closeCall_39 : decode cX10_closeCall 39 = .ok (.bipush 6, 2) := by decide +kernel
theorem dX10_closeCall_41 : decode cX10_closeCall 41 = .ok (.iload_n 2, 1) := by decide +kernel
theorem dX10_closeCall_42 : decode cX10_closeCall 42 = .ok (.invokevirtual 165, 3) := by decide +kernel
theorem dX10_closeCall_45 : decode cX10_closeCall 45 = .ok (.aload_n 0, 1) := by decide +kernel
theorem dX10_closeCall_46 : decode cX10_closeCall 46 = .ok (.iload_n 1, 1) := by decide +kernel
theorem dX10_closeCall_47 : decode cX10_closeCall 47 = .ok (.putfield 75, 3) := by decide +kernel
theorem dX10_closeCall_50 : decode cX10_closeCall 50 = .ok (.aload_n 0, 1) := by decide +kernel
theorem dX10_closeCall_51 : decode cX10_closeCall 51 = .ok (.iconst 1, 1) := by decide +kernel
theorem dX10_closeCall_52 : decode cX10_closeCall 52 = .ok (.putfield 133, 3) := by decide +kernel
theorem dX10_closeCall_55 : decode cX10_closeCall 55 = .ok (.return_, 1) := by decide +kernel
def VS_h4_p0 : List Cond := [Cond.fieldLink RX9 80 "ClassMill$Text" "fault" "I", Cond.fieldLink RX9 41 "ClassMill$Text" "place" "I", Cond.fieldLink RX9 83 "ClassMill$Text" "count" "I", Cond.fieldLink RX9 19 "ClassMill$Text" "places" "[I", Cond.fieldLink RX9 86 "ClassMill$Text" "pos" "I", Cond.fieldLink RX9 15 "ClassMill$Text" "kinds" "[I", Cond.fieldLink RX9 22 "ClassMill$Text" "values" "[I", Cond.fieldLink RX9 73 "ClassMill$Text" "names" "I", Cond.fieldLink RX9 29 "ClassMill$Text" "nameAt" "[I", Cond.code yX9_nameLength cX9_nameLength 2 (some .int), Cond.methodLink RX9 89 yX9_nameLength, Cond.instanceMethod yX9_nameLength, Cond.selects RX9 yX9_nameLength yX9_nameLength, Cond.initialized RX9, Cond.code yX9_isLetter cX9_isLetter 1 (some .boolean), Cond.methodLink RX9 103 yX9_isLetter, Cond.static yX9_isLetter, Cond.code yX9_isDigit cX9_isDigit 1 (some .boolean), Cond.methodLink RX9 110 yX9_isDigit, Cond.static yX9_isDigit, Cond.code yX9_bucketOf cX9_bucketOf 3 (some .int), Cond.methodLink RX9 76 yX9_bucketOf, Cond.static yX9_bucketOf, Cond.fieldLink RX9 25 "ClassMill$Text" "letters" "[B", Cond.code yX9_kind cX9_kind 1 (some .int), Cond.methodLink RX9 150 yX9_kind, Cond.instanceMethod yX9_kind, Cond.selects RX9 yX9_kind yX9_kind, Cond.code yX9_kindAt cX9_kindAt 2 (some .int), Cond.methodLink RX9 153 yX9_kindAt, Cond.instanceMethod yX9_kindAt, Cond.selects RX9 yX9_kindAt yX9_kindAt, Cond.fieldLink RX9 32 "ClassMill$Text" "sameBucket" "[I", Cond.fieldLink RX9 35 "ClassMill$Text" "bucket" "[I", Cond.code yX9_plainSignOf cX9_plainSignOf 1 (some .int), Cond.methodLink RX9 147 yX9_plainSignOf, Cond.static yX9_plainSignOf, Cond.code yX9_signOf cX9_signOf 2 (some .int), Cond.methodLink RX9 116 yX9_signOf, Cond.static yX9_signOf]
def VS_h4_p1 : List Cond := [Cond.code yX9_signLength cX9_signLength 1 (some .int), Cond.methodLink RX9 120 yX9_signLength, Cond.static yX9_signLength, Cond.code yX9_addToken cX9_addToken 4 none, Cond.methodLink RX9 99 yX9_addToken, Cond.instanceMethod yX9_addToken, Cond.selects RX9 yX9_addToken yX9_addToken, Cond.fieldLink RX6 36 "ClassMill$Pool" "bodySize" "I", Cond.fieldLink RX6 16 "ClassMill$Pool" "body" "[B", Cond.code yX6_put cX6_put 2 none, Cond.methodLink RX6 45 yX6_put, Cond.instanceMethod yX6_put, Cond.selects RX6 yX6_put yX6_put, Cond.initialized RX6, Cond.methodLink RX6 107 yX9_nameLength, Cond.fieldLink RX6 20 "ClassMill$Pool" "text" "LClassMill$Text;", Cond.code yX6_bytesOf cX6_bytesOf 3 (some .int), Cond.methodLink RX6 90 yX6_bytesOf, Cond.instanceMethod yX6_bytesOf, Cond.selects RX6 yX6_bytesOf yX6_bytesOf, Cond.fieldLink RX6 28 "ClassMill$Pool" "count" "I", Cond.fieldLink RX6 9 "ClassMill$Pool" "tags" "[I", Cond.fieldLink RX6 13 "ClassMill$Pool" "values" "[I", Cond.fieldLink RX6 32 "ClassMill$Pool" "full" "Z", Cond.code yX6_constant cX6_constant 4 (some .int), Cond.methodLink RX6 66 yX6_constant, Cond.instanceMethod yX6_constant, Cond.selects RX6 yX6_constant yX6_constant, Cond.code yX6_imageSize cX6_imageSize 3 (some .int), Cond.methodLink RX6 86 yX6_imageSize, Cond.instanceMethod yX6_imageSize, Cond.selects RX6 yX6_imageSize yX6_imageSize, Cond.fieldLink RX1 39 "ClassMill$Code" "length" "I", Cond.fieldLink RX1 43 "ClassMill$Code" "height" "I", Cond.fieldLink RX1 46 "ClassMill$Code" "mostHeight" "I", Cond.fieldLink RX1 49 "ClassMill$Code" "sight" "I", Cond.fieldLink RX1 52 "ClassMill$Code" "mostLocals" "I", Cond.fieldLink RX1 55 "ClassMill$Code" "handlerCount" "I", Cond.fieldLink RX1 58 "ClassMill$Code" "frameCount" "I", Cond.fieldLink RX1 61 "ClassMill$Code" "full" "Z"]
def VS_h4_p2 : List Cond := [Cond.fieldLink RX1 13 "ClassMill$Code" "bytes" "[B", Cond.code yX1_op cX1_op 2 none, Cond.methodLink RX1 65 yX1_op, Cond.instanceMethod yX1_op, Cond.selects RX1 yX1_op yX1_op, Cond.initialized RX1, Cond.fieldLink RX1 17 "ClassMill$Code" "stack" "[I", Cond.methodLink RX1 69 yJ9_max_7cf53, Cond.static yJ9_max_7cf53, Cond.initialized "java/lang/Math", Cond.code yJ9_max_7cf53 cJ9_max_7cf53 2 (some .int), Cond.fieldLink RX1 21 "ClassMill$Code" "localName" "[I", Cond.fieldLink RX1 24 "ClassMill$Code" "localType" "[I", Cond.methodLink RX1 75 yJ9_min_7cf53, Cond.static yJ9_min_7cf53, Cond.code yJ9_min_7cf53 cJ9_min_7cf53 2 (some .int), Cond.code yX4_isNumber cX4_isNumber 1 (some .boolean), Cond.methodLink RX1 80 yX4_isNumber, Cond.static yX4_isNumber, Cond.initialized RX4, Cond.code yX1_op_ cX1_op_ 3 none, Cond.methodLink RX1 84 yX1_op_, Cond.instanceMethod yX1_op_, Cond.selects RX1 yX1_op_ yX1_op_, Cond.code yX1_pop cX1_pop 2 none, Cond.methodLink RX1 87 yX1_pop, Cond.instanceMethod yX1_pop, Cond.selects RX1 yX1_pop yX1_pop, Cond.code yX1_jump cX1_jump 4 (some .int), Cond.methodLink RX1 90 yX1_jump, Cond.instanceMethod yX1_jump, Cond.selects RX1 yX1_jump yX1_jump, Cond.code yX1_push cX1_push 2 none, Cond.methodLink RX1 104 yX1_push, Cond.instanceMethod yX1_push, Cond.selects RX1 yX1_push yX1_push, Cond.methodLink RX1 116 yX6_put, Cond.code yX6_putPair cX6_putPair 2 none, Cond.methodLink RX1 121 yX6_putPair, Cond.instanceMethod yX6_putPair]
def VS_h4_p3 : List Cond := [Cond.selects RX6 yX6_putPair yX6_putPair, Cond.code yX1_aimAt cX1_aimAt 4 none, Cond.methodLink RX1 93 yX1_aimAt, Cond.instanceMethod yX1_aimAt, Cond.selects RX1 yX1_aimAt yX1_aimAt, Cond.fieldLink RX2 78 "ClassMill$Heads" "classes" "I", Cond.fieldLink RX2 20 "ClassMill$Heads" "classAt" "[I", Cond.fieldLink RX2 144 "ClassMill$Heads" "kindSize" "I", Cond.fieldLink RX2 70 "ClassMill$Heads" "kindBytes" "[B", Cond.code yX4_isArray cX4_isArray 1 (some .boolean), Cond.methodLink RX2 160 yX4_isArray, Cond.static yX4_isArray, Cond.code yX4_isClass cX4_isClass 1 (some .boolean), Cond.methodLink RX2 166 yX4_isClass, Cond.static yX4_isClass, Cond.code yX2_addKindByte cX2_addKindByte 2 none, Cond.methodLink RX2 154 yX2_addKindByte, Cond.instanceMethod yX2_addKindByte, Cond.selects RX2 yX2_addKindByte yX2_addKindByte, Cond.initialized RX2, Cond.code yX9_valueAt cX9_valueAt 2 (some .int), Cond.methodLink RX2 135 yX9_valueAt, Cond.instanceMethod yX9_valueAt, Cond.selects RX9 yX9_valueAt yX9_valueAt, Cond.methodLink RX2 115 yX9_kindAt, Cond.fieldLink RX2 74 "ClassMill$Heads" "text" "LClassMill$Text;", Cond.fieldLink RX2 24 "ClassMill$Heads" "classOfName" "[I", Cond.fieldLink RX2 67 "ClassMill$Heads" "typeName" "[I", Cond.code yX2_tokenOfClass cX2_tokenOfClass 2 (some .int), Cond.methodLink RX2 112 yX2_tokenOfClass, Cond.instanceMethod yX2_tokenOfClass, Cond.selects RX2 yX2_tokenOfClass yX2_tokenOfClass, Cond.code yX2_classAt cX2_classAt 3 (some .int), Cond.methodLink RX2 184 yX2_classAt, Cond.instanceMethod yX2_classAt, Cond.selects RX2 yX2_classAt yX2_classAt, Cond.code yX2_classAbove cX2_classAbove 3 (some .int), Cond.methodLink RX2 101 yX2_classAbove, Cond.instanceMethod yX2_classAbove, Cond.selects RX2 yX2_classAbove yX2_classAbove]
def VS_h4_p4 : List Cond := [Cond.methodLink RX2 121 yX9_kind, Cond.code yX9_tell cX9_tell 3 none, Cond.methodLink RX2 186 yX9_tell, Cond.instanceMethod yX9_tell, Cond.selects RX9 yX9_tell yX9_tell, Cond.fieldLink RX2 118 "ClassMill$Text" "pos" "I", Cond.code yX2_readType cX2_readType 5 (some .int), Cond.methodLink RX2 192 yX2_readType, Cond.instanceMethod yX2_readType, Cond.selects RX2 yX2_readType yX2_readType, Cond.fieldLink RX2 58 "ClassMill$Heads" "parameters" "[I", Cond.fieldLink RX2 61 "ClassMill$Heads" "parameterName" "[I", Cond.fieldLink RX2 64 "ClassMill$Heads" "parameterType" "[I", Cond.code yX4_above cX4_above 2 (some .int), Cond.methodLink RX2 215 yX4_above, Cond.instanceMethod yX4_above, Cond.selects RX4 yX4_above yX4_above, Cond.fieldLink RX2 27 "ClassMill$Heads" "fields" "[I", Cond.fieldLink RX2 30 "ClassMill$Heads" "fieldName" "[I", Cond.fieldLink RX2 39 "ClassMill$Heads" "methods" "[I", Cond.fieldLink RX2 42 "ClassMill$Heads" "methodAt" "[I", Cond.code yX2_isOwn cX2_isOwn 1 (some .boolean), Cond.methodLink RX2 224 yX2_isOwn, Cond.static yX2_isOwn, Cond.code yX2_fieldIn cX2_fieldIn 4 (some .int), Cond.methodLink RX2 203 yX2_fieldIn, Cond.instanceMethod yX2_fieldIn, Cond.selects RX2 yX2_fieldIn yX2_fieldIn, Cond.fieldLink RX2 14 "ClassMill$Heads" "kin" "LClassMill$Kin;", Cond.code yX2_methodIn cX2_methodIn 4 (some .int), Cond.methodLink RX2 206 yX2_methodIn, Cond.instanceMethod yX2_methodIn, Cond.selects RX2 yX2_methodIn yX2_methodIn, Cond.fieldLink RX2 36 "ClassMill$Heads" "fieldKind" "[I", Cond.fieldLink RX2 55 "ClassMill$Heads" "methodKind" "[I", Cond.fieldLink RX2 33 "ClassMill$Heads" "fieldType" "[I", Cond.code yX2_isMethod cX2_isMethod 2 (some .boolean), Cond.methodLink RX2 128 yX2_isMethod, Cond.instanceMethod yX2_isMethod, Cond.selects RX2 yX2_isMethod yX2_isMethod]
def VS_h4_p5 : List Cond := [Cond.fieldLink RX2 45 "ClassMill$Heads" "methodBody" "[I", Cond.fieldLink RX2 48 "ClassMill$Heads" "methodType" "[I", Cond.fieldLink RX2 51 "ClassMill$Heads" "methodFixed" "[Z", Cond.code yX2_parametersOf cX2_parametersOf 2 (some .int), Cond.methodLink RX2 227 yX2_parametersOf, Cond.instanceMethod yX2_parametersOf, Cond.selects RX2 yX2_parametersOf yX2_parametersOf, Cond.code yX2_endsAbove cX2_endsAbove 4 (some .boolean), Cond.methodLink RX2 189 yX2_endsAbove, Cond.instanceMethod yX2_endsAbove, Cond.selects RX2 yX2_endsAbove yX2_endsAbove, Cond.code yX2_skipBlock cX2_skipBlock 4 none, Cond.methodLink RX2 212 yX2_skipBlock, Cond.instanceMethod yX2_skipBlock, Cond.selects RX2 yX2_skipBlock yX2_skipBlock, Cond.code yX2_addParameter cX2_addParameter 7 none, Cond.methodLink RX2 209 yX2_addParameter, Cond.instanceMethod yX2_addParameter, Cond.selects RX2 yX2_addParameter yX2_addParameter, Cond.code yX2_nameOfMethod cX2_nameOfMethod 2 (some .int), Cond.methodLink RX2 218 yX2_nameOfMethod, Cond.instanceMethod yX2_nameOfMethod, Cond.selects RX2 yX2_nameOfMethod yX2_nameOfMethod, Cond.code yX2_methodOf cX2_methodOf 6 (some .int), Cond.methodLink RX2 221 yX2_methodOf, Cond.instanceMethod yX2_methodOf, Cond.selects RX2 yX2_methodOf yX2_methodOf, Cond.code yX2_parameterType cX2_parameterType 3 (some .int), Cond.methodLink RX2 157 yX2_parameterType, Cond.instanceMethod yX2_parameterType, Cond.selects RX2 yX2_parameterType yX2_parameterType, Cond.code yX2_isFixed cX2_isFixed 2 (some .boolean), Cond.methodLink RX6 76 yX2_isFixed, Cond.instanceMethod yX2_isFixed, Cond.selects RX2 yX2_isFixed yX2_isFixed, Cond.methodLink RX6 80 yX2_nameOfMethod, Cond.code yX2_kindOfMethod cX2_kindOfMethod 2 (some .int), Cond.methodLink RX6 83 yX2_kindOfMethod, Cond.instanceMethod yX2_kindOfMethod, Cond.selects RX2 yX2_kindOfMethod yX2_kindOfMethod]
def VS_h4_p6 : List Cond := [Cond.fieldLink RX6 24 "ClassMill$Pool" "heads" "LClassMill$Heads;", Cond.code yX2_nameOfType cX2_nameOfType 3 (some .int), Cond.methodLink RX6 115 yX2_nameOfType, Cond.instanceMethod yX2_nameOfType, Cond.selects RX2 yX2_nameOfType yX2_nameOfType, Cond.code yX6_classOf cX6_classOf 2 (some .int), Cond.methodLink RX6 41 yX6_classOf, Cond.instanceMethod yX6_classOf, Cond.selects RX6 yX6_classOf yX6_classOf, Cond.code yX2_nameOfField cX2_nameOfField 2 (some .int), Cond.methodLink RX6 63 yX2_nameOfField, Cond.instanceMethod yX2_nameOfField, Cond.selects RX2 yX2_nameOfField yX2_nameOfField, Cond.code yX2_kindOfField cX2_kindOfField 2 (some .int), Cond.methodLink RX6 70 yX2_kindOfField, Cond.instanceMethod yX2_kindOfField, Cond.selects RX2 yX2_kindOfField yX2_kindOfField, Cond.methodLink RX6 55 yX4_above, Cond.code yX2_fieldsOf cX2_fieldsOf 2 (some .int), Cond.methodLink RX6 58 yX2_fieldsOf, Cond.instanceMethod yX2_fieldsOf, Cond.selects RX2 yX2_fieldsOf yX2_fieldsOf, Cond.code yX2_methodsOf cX2_methodsOf 2 (some .int), Cond.methodLink RX6 73 yX2_methodsOf, Cond.instanceMethod yX2_methodsOf, Cond.selects RX2 yX2_methodsOf yX2_methodsOf, Cond.fieldLink RX6 49 "ClassMill$Heads" "kin" "LClassMill$Kin;", Cond.methodLink RX1 124 yX6_classOf, Cond.fieldLink RX1 33 "ClassMill$Code" "frameRow" "[I", Cond.code yX1_writeTypes cX1_writeTypes 6 none, Cond.methodLink RX1 131 yX1_writeTypes, Cond.instanceMethod yX1_writeTypes, Cond.selects RX1 yX1_writeTypes yX1_writeTypes, Cond.fieldLink RX1 30 "ClassMill$Code" "framePlace" "[I", Cond.code yX1_writeFrame cX1_writeFrame 6 none, Cond.methodLink RX1 127 yX1_writeFrame, Cond.instanceMethod yX1_writeFrame, Cond.selects RX1 yX1_writeFrame yX1_writeFrame, Cond.fieldLink RX10 54 "ClassMill$Values" "own" "I", Cond.fieldLink RX10 58 "ClassMill$Values" "fixed" "Z"]
def VS_h4_p7 : List Cond := [Cond.fieldLink RX10 62 "ClassMill$Values" "alone" "I", Cond.fieldLink RX10 65 "ClassMill$Values" "open" "I", Cond.code yX4_isReference cX4_isReference 1 (some .boolean), Cond.methodLink RX10 136 yX4_isReference, Cond.static yX4_isReference, Cond.methodLink RX10 143 yX4_isNumber, Cond.code yX4_oneFits cX4_oneFits 3 (some .boolean), Cond.methodLink RX10 140 yX4_oneFits, Cond.instanceMethod yX4_oneFits, Cond.selects RX4 yX4_oneFits yX4_oneFits, Cond.fieldLink RX10 45 "ClassMill$Values" "kin" "LClassMill$Kin;", Cond.methodLink RX10 93 yX9_kind, Cond.code yX9_level cX9_level 1 (some .int), Cond.methodLink RX10 97 yX9_level, Cond.static yX9_level, Cond.fieldLink RX10 15 "ClassMill$Values" "signs" "[I", Cond.methodLink RX10 165 yX9_tell, Cond.fieldLink RX10 31 "ClassMill$Values" "text" "LClassMill$Text;", Cond.code yX10_wantType cX10_wantType 3 none, Cond.methodLink RX10 80 yX10_wantType, Cond.instanceMethod yX10_wantType, Cond.selects RX10 yX10_wantType yX10_wantType, Cond.initialized RX10, Cond.methodLink RX10 86 yX1_jump, Cond.methodLink RX10 118 yX1_pop, Cond.methodLink RX10 181 yX2_classAt, Cond.fieldLink RX10 35 "ClassMill$Values" "heads" "LClassMill$Heads;", Cond.fieldLink RX10 72 "ClassMill$Text" "pos" "I", Cond.fieldLink RX10 75 "ClassMill$Values" "type" "I", Cond.methodLink RX10 130 yX1_push, Cond.methodLink RX10 179 yX1_op_, Cond.methodLink RX10 162 yX1_op, Cond.code yX10_wantKinOf cX10_wantKinOf 3 none, Cond.methodLink RX10 171 yX10_wantKinOf, Cond.instanceMethod yX10_wantKinOf, Cond.selects RX10 yX10_wantKinOf yX10_wantKinOf, Cond.methodLink RX10 174 yX6_classOf, Cond.fieldLink RX10 133 "ClassMill$Values" "form" "I", Cond.fieldLink RX10 46 "ClassMill$Values" "code" "LClassMill$Code;", Cond.fieldLink RX10 50 "ClassMill$Values" "pool" "LClassMill$Pool;"]
def VS_h4_p8 : List Cond := [Cond.code yX6_fieldOf cX6_fieldOf 5 (some .int), Cond.methodLink RX10 221 yX6_fieldOf, Cond.instanceMethod yX6_fieldOf, Cond.selects RX6 yX6_fieldOf yX6_fieldOf, Cond.fieldLink RX10 215 "ClassMill$Values" "member" "I", Cond.fieldLink RX10 218 "ClassMill$Values" "owner" "I", Cond.methodLink RX10 224 yX9_kindAt, Cond.methodLink RX10 227 yX9_valueAt, Cond.code yX6_numberOf cX6_numberOf 2 (some .int), Cond.methodLink RX10 239 yX6_numberOf, Cond.instanceMethod yX6_numberOf, Cond.selects RX6 yX6_numberOf yX6_numberOf, Cond.code yX10_give cX10_give 2 none, Cond.methodLink RX10 233 yX10_give, Cond.instanceMethod yX10_give, Cond.selects RX10 yX10_give yX10_give, Cond.code yX10_readNamedClass cX10_readNamedClass 4 (some .int), Cond.methodLink RX10 168 yX10_readNamedClass, Cond.instanceMethod yX10_readNamedClass, Cond.selects RX10 yX10_readNamedClass yX10_readNamedClass, Cond.code yX1_localOf cX1_localOf 3 (some .int), Cond.methodLink RX10 258 yX1_localOf, Cond.instanceMethod yX1_localOf, Cond.selects RX1 yX1_localOf yX1_localOf, Cond.methodLink RX10 271 yX2_methodOf, Cond.code yX2_typeOfField cX2_typeOfField 2 (some .int), Cond.methodLink RX10 274 yX2_typeOfField, Cond.instanceMethod yX2_typeOfField, Cond.selects RX2 yX2_typeOfField yX2_typeOfField, Cond.methodLink RX10 242 yX4_isArray, Cond.methodLink RX10 277 yX4_isClass, Cond.code yX2_fieldOf cX2_fieldOf 6 (some .int), Cond.methodLink RX10 261 yX2_fieldOf, Cond.instanceMethod yX2_fieldOf, Cond.selects RX2 yX2_fieldOf yX2_fieldOf, Cond.code yX10_nameField cX10_nameField 3 none, Cond.methodLink RX10 265 yX10_nameField, Cond.instanceMethod yX10_nameField, Cond.selects RX10 yX10_nameField yX10_nameField, Cond.methodLink RX10 251 yX2_isFixed]
def VS_h4_p9 : List Cond := [Cond.code yX6_methodOf cX6_methodOf 5 (some .int), Cond.methodLink RX10 289 yX6_methodOf, Cond.instanceMethod yX6_methodOf, Cond.selects RX6 yX6_methodOf yX6_methodOf, Cond.code yX2_resultOf cX2_resultOf 2 (some .int), Cond.methodLink RX10 290 yX2_resultOf, Cond.instanceMethod yX2_resultOf, Cond.selects RX2 yX2_resultOf yX2_resultOf, Cond.fieldLink RX10 19 "ClassMill$Values" "signAt" "[I", Cond.fieldLink RX10 22 "ClassMill$Values" "leftFirst" "[I", Cond.fieldLink RX10 146 "ClassMill$Values" "first" "I", Cond.fieldLink RX10 25 "ClassMill$Values" "leftType" "[I", Cond.fieldLink RX10 28 "ClassMill$Values" "leftJump" "[I", Cond.code yX10_readNumber cX10_readNumber 2 none, Cond.methodLink RX10 230 yX10_readNumber, Cond.instanceMethod yX10_readNumber, Cond.selects RX10 yX10_readNumber yX10_readNumber, Cond.code yX10_giveThis cX10_giveThis 2 none, Cond.methodLink RX10 236 yX10_giveThis, Cond.instanceMethod yX10_giveThis, Cond.selects RX10 yX10_giveThis yX10_giveThis, Cond.code yX10_isCallBehindPoint cX10_isCallBehindPoint 2 (some .boolean), Cond.methodLink RX10 268 yX10_isCallBehindPoint, Cond.instanceMethod yX10_isCallBehindPoint, Cond.selects RX10 yX10_isCallBehindPoint yX10_isCallBehindPoint, Cond.code yX10_methodNamed cX10_methodNamed 4 (some .int), Cond.methodLink RX10 248 yX10_methodNamed, Cond.instanceMethod yX10_methodNamed, Cond.selects RX10 yX10_methodNamed yX10_methodNamed, Cond.code yX10_closeCall cX10_closeCall 4 none, Cond.methodLink RX10 293 yX10_closeCall, Cond.instanceMethod yX10_closeCall, Cond.selects RX10 yX10_closeCall yX10_closeCall, Cond.methodLink RX10 286 yX2_parametersOf, Cond.fieldLink RX0 65 "ClassMill$Bodies" "muchAt" "I", Cond.methodLink RX0 69 yX9_tell, Cond.fieldLink RX0 34 "ClassMill$Bodies" "text" "LClassMill$Text;", Cond.code yX6_beginClass cX6_beginClass 5 none, Cond.methodLink RX0 73 yX6_beginClass, Cond.instanceMethod yX6_beginClass]
def VS_h4_p10 : List Cond := [Cond.selects RX6 yX6_beginClass yX6_beginClass, Cond.fieldLink RX0 52 "ClassMill$Bodies" "pool" "LClassMill$Pool;", Cond.code yX6_isTooMuch cX6_isTooMuch 1 (some .boolean), Cond.methodLink RX0 77 yX6_isTooMuch, Cond.instanceMethod yX6_isTooMuch, Cond.selects RX6 yX6_isTooMuch yX6_isTooMuch, Cond.methodLink RX0 81 yX2_tokenOfClass, Cond.code yX0_noteMuch cX0_noteMuch 3 none, Cond.methodLink RX0 85 yX0_noteMuch, Cond.instanceMethod yX0_noteMuch, Cond.selects RX0 yX0_noteMuch yX0_noteMuch, Cond.initialized RX0, Cond.code yX6_beginMethod cX6_beginMethod 2 none, Cond.methodLink RX0 98 yX6_beginMethod, Cond.instanceMethod yX6_beginMethod, Cond.selects RX6 yX6_beginMethod yX6_beginMethod, Cond.code yX1_beginMethod cX1_beginMethod 1 none, Cond.methodLink RX0 101 yX1_beginMethod, Cond.instanceMethod yX1_beginMethod, Cond.selects RX1 yX1_beginMethod yX1_beginMethod, Cond.methodLink RX0 103 yX2_isFixed, Cond.code yX10_beginMethod cX10_beginMethod 3 none, Cond.methodLink RX0 107 yX10_beginMethod, Cond.instanceMethod yX10_beginMethod, Cond.selects RX10 yX10_beginMethod yX10_beginMethod, Cond.code yX1_addLocal cX1_addLocal 4 (some .int), Cond.methodLink RX0 110 yX1_addLocal, Cond.instanceMethod yX1_addLocal, Cond.selects RX1 yX1_addLocal yX1_addLocal, Cond.methodLink RX0 114 yX2_parametersOf, Cond.methodLink RX0 123 yX2_resultOf, Cond.code yX2_bodyOf cX2_bodyOf 2 (some .int), Cond.methodLink RX0 135 yX2_bodyOf, Cond.instanceMethod yX2_bodyOf, Cond.selects RX2 yX2_bodyOf yX2_bodyOf, Cond.methodLink RX0 158 yX9_kind, Cond.code yX9_isWhileTrue cX9_isWhileTrue 1 (some .boolean), Cond.methodLink RX0 210 yX9_isWhileTrue, Cond.instanceMethod yX9_isWhileTrue, Cond.selects RX9 yX9_isWhileTrue yX9_isWhileTrue]
def VS_h4_p11 : List Cond := [Cond.methodLink RX0 204 yX1_jump, Cond.methodLink RX0 147 yX1_op, Cond.methodLink RX0 233 yX9_valueAt, Cond.methodLink RX0 239 yX1_localOf, Cond.fieldLink RX0 16 "ClassMill$Bodies" "code" "LClassMill$Code;", Cond.methodLink RX0 254 yX2_readType, Cond.code yX0_checkTwice cX0_checkTwice 2 none, Cond.methodLink RX0 226 yX0_checkTwice, Cond.instanceMethod yX0_checkTwice, Cond.selects RX0 yX0_checkTwice yX0_checkTwice, Cond.methodLink RX0 251 yX1_pop, Cond.fieldLink RX0 61 "ClassMill$Bodies" "values" "LClassMill$Values;", Cond.fieldLink RX0 260 "ClassMill$Values" "form" "I", Cond.fieldLink RX0 245 "ClassMill$Values" "type" "I", Cond.code yX1_store cX1_store 3 none, Cond.methodLink RX0 236 yX1_store, Cond.instanceMethod yX1_store, Cond.selects RX1 yX1_store yX1_store, Cond.methodLink RX0 276 yX6_fieldOf, Cond.methodLink RX0 279 yX1_op_, Cond.methodLink RX8 23 yX9_kind, Cond.code yX9_tellHere cX9_tellHere 2 none, Cond.methodLink RX8 33 yX9_tellHere, Cond.instanceMethod yX9_tellHere, Cond.selects RX9 yX9_tellHere yX9_tellHere, Cond.fieldLink RX8 7 "ClassMill$Syntax" "text" "LClassMill$Text;", Cond.fieldLink RX8 30 "ClassMill$Text" "pos" "I", Cond.fieldLink RX8 19 "ClassMill$Text" "fault" "I", Cond.code yX8_need cX8_need 2 none, Cond.methodLink RX8 37 yX8_need, Cond.instanceMethod yX8_need, Cond.selects RX8 yX8_need yX8_need, Cond.initialized RX8, Cond.code yX2_addClass cX2_addClass 2 none, Cond.methodLink RX8 40 yX2_addClass, Cond.instanceMethod yX2_addClass, Cond.selects RX2 yX2_addClass yX2_addClass, Cond.code yX8_accept cX8_accept 2 (some .boolean), Cond.methodLink RX8 45 yX8_accept, Cond.instanceMethod yX8_accept]
def VS_h4_p12 : List Cond := [Cond.selects RX8 yX8_accept yX8_accept, Cond.code yX8_tooDeep cX8_tooDeep 2 (some .boolean), Cond.methodLink RX8 64 yX8_tooDeep, Cond.instanceMethod yX8_tooDeep, Cond.selects RX8 yX8_tooDeep yX8_tooDeep, Cond.code yX8_readType cX8_readType 1 none, Cond.methodLink RX8 52 yX8_readType, Cond.instanceMethod yX8_readType, Cond.selects RX8 yX8_readType yX8_readType, Cond.methodLink RX8 93 yX9_level, Cond.code yX9_beginsCast cX9_beginsCast 1 (some .boolean), Cond.methodLink RX8 97 yX9_beginsCast, Cond.instanceMethod yX9_beginsCast, Cond.selects RX9 yX9_beginsCast yX9_beginsCast]
def VS_h4 : List Cond := VS_h4_p0 ++ (VS_h4_p1 ++ (VS_h4_p2 ++ (VS_h4_p3 ++ (VS_h4_p4 ++ (VS_h4_p5 ++ (VS_h4_p6 ++ (VS_h4_p7 ++ (VS_h4_p8 ++ (VS_h4_p9 ++ (VS_h4_p10 ++ (VS_h4_p11 ++ (VS_h4_p12 ++ (wsX90 ++ (wsX60 ++ (wsX10 ++ (VS_h3 ++ (wsX20 ++ (VS_h2 ++ (wsX100 ++ (wsX00 ++ (wsX80)))))))))))))))))))))
theorem mw_h4_0 : Cond.fieldLink RX9 80 "ClassMill$Text" "fault" "I" ∈ VS_h4 := List.mem_append_left _ (List.mem_of_getElem? (i := 0) rfl)
theorem mw_h4_1 : Cond.fieldLink RX9 41 "ClassMill$Text" "place" "I" ∈ VS_h4 := List.mem_append_left _ (List.mem_of_getElem? (i := 1) rfl)
theorem mw_h4_2 : Cond.fieldLink RX9 83 "ClassMill$Text" "count" "I" ∈ VS_h4 := List.mem_append_left _ (List.mem_of_getElem? (i := 2) rfl)
theorem mw_h4_3 : Cond.fieldLink RX9 19 "ClassMill$Text" "places" "[I" ∈ VS_h4 := List.mem_append_left _ (List.mem_of_getElem? (i := 3) rfl)
theorem mw_h4_4 : Cond.fieldLink RX9 86 "ClassMill$Text" "pos" "I" ∈ VS_h4 := List.mem_append_left _ (List.mem_of_getElem? (i := 4) rfl)
theorem mw_h4_5 : Cond.fieldLink RX9 15 "ClassMill$Text" "kinds" "[I" ∈ VS_h4 := List.mem_append_left _ (List.mem_of_getElem? (i := 5) rfl)
theorem mw_h4_6 : Cond.fieldLink RX9 22 "ClassMill$Text" "values" "[I" ∈ VS_h4 := List.mem_append_left _ (List.mem_of_getElem? (i := 6) rfl)
theorem mw_h4_7 : Cond.fieldLink RX9 73 "ClassMill$Text" "names" "I" ∈ VS_h4 := List.mem_append_left _ (List.mem_of_getElem? (i := 7) rfl)
theorem mw_h4_8 : Cond.fieldLink RX9 29 "ClassMill$Text" "nameAt" "[I" ∈ VS_h4 := List.mem_append_left _ (List.mem_of_getElem? (i := 8) rfl)
theorem mw_h4_9 : Cond.code yX9_nameLength cX9_nameLength 2 (some .int) ∈ VS_h4 := List.mem_append_left _ (List.mem_of_getElem? (i := 9) rfl)
theorem mw_h4_10 : Cond.methodLink RX9 89 yX9_nameLength ∈ VS_h4 := List.mem_append_left _ (List.mem_of_getElem? (i := 10) rfl)
theorem mw_h4_11 : Cond.instanceMethod yX9_nameLength ∈ VS_h4 := List.mem_append_left _ (List.mem_of_getElem? (i := 11) rfl)
theorem mw_h4_12 : Cond.selects RX9 yX9_nameLength yX9_nameLength ∈ VS_h4 := List.mem_append_left _ (List.mem_of_getElem? (i := 12) rfl)
theorem mw_h4_13 : Cond.initialized RX9 ∈ VS_h4 := List.mem_append_left _ (List.mem_of_getElem? (i := 13) rfl)
theorem mw_h4_14 : Cond.code yX9_isLetter cX9_isLetter 1 (some .boolean) ∈ VS_h4 := List.mem_append_left _ (List.mem_of_getElem? (i := 14) rfl)
theorem mw_h4_15 : Cond.methodLink RX9 103 yX9_isLetter ∈ VS_h4 := List.mem_append_left _ (List.mem_of_getElem? (i := 15) rfl)
theorem mw_h4_16 : Cond.static yX9_isLetter ∈ VS_h4 := List.mem_append_left _ (List.mem_of_getElem? (i := 16) rfl)
theorem mw_h4_17 : Cond.code yX9_isDigit cX9_isDigit 1 (some .boolean) ∈ VS_h4 := List.mem_append_left _ (List.mem_of_getElem? (i := 17) rfl)
theorem mw_h4_18 : Cond.methodLink RX9 110 yX9_isDigit ∈ VS_h4 := List.mem_append_left _ (List.mem_of_getElem? (i := 18) rfl)
theorem mw_h4_19 : Cond.static yX9_isDigit ∈ VS_h4 := List.mem_append_left _ (List.mem_of_getElem? (i := 19) rfl)
theorem mw_h4_20 : Cond.code yX9_bucketOf cX9_bucketOf 3 (some .int) ∈ VS_h4 := List.mem_append_left _ (List.mem_of_getElem? (i := 20) rfl)
theorem mw_h4_21 : Cond.methodLink RX9 76 yX9_bucketOf ∈ VS_h4 := List.mem_append_left _ (List.mem_of_getElem? (i := 21) rfl)
theorem mw_h4_22 : Cond.static yX9_bucketOf ∈ VS_h4 := List.mem_append_left _ (List.mem_of_getElem? (i := 22) rfl)
theorem mw_h4_23 : Cond.fieldLink RX9 25 "ClassMill$Text" "letters" "[B" ∈ VS_h4 := List.mem_append_left _ (List.mem_of_getElem? (i := 23) rfl)
theorem mw_h4_24 : Cond.code yX9_kind cX9_kind 1 (some .int) ∈ VS_h4 := List.mem_append_left _ (List.mem_of_getElem? (i := 24) rfl)
theorem mw_h4_25 : Cond.methodLink RX9 150 yX9_kind ∈ VS_h4 := List.mem_append_left _ (List.mem_of_getElem? (i := 25) rfl)
theorem mw_h4_26 : Cond.instanceMethod yX9_kind ∈ VS_h4 := List.mem_append_left _ (List.mem_of_getElem? (i := 26) rfl)
theorem mw_h4_27 : Cond.selects RX9 yX9_kind yX9_kind ∈ VS_h4 := List.mem_append_left _ (List.mem_of_getElem? (i := 27) rfl)
theorem mw_h4_28 : Cond.code yX9_kindAt cX9_kindAt 2 (some .int) ∈ VS_h4 := List.mem_append_left _ (List.mem_of_getElem? (i := 28) rfl)
theorem mw_h4_29 : Cond.methodLink RX9 153 yX9_kindAt ∈ VS_h4 := List.mem_append_left _ (List.mem_of_getElem? (i := 29) rfl)
theorem mw_h4_30 : Cond.instanceMethod yX9_kindAt ∈ VS_h4 := List.mem_append_left _ (List.mem_of_getElem? (i := 30) rfl)
theorem mw_h4_31 : Cond.selects RX9 yX9_kindAt yX9_kindAt ∈ VS_h4 := List.mem_append_left _ (List.mem_of_getElem? (i := 31) rfl)
theorem mw_h4_32 : Cond.fieldLink RX9 32 "ClassMill$Text" "sameBucket" "[I" ∈ VS_h4 := List.mem_append_left _ (List.mem_of_getElem? (i := 32) rfl)
theorem mw_h4_33 : Cond.fieldLink RX9 35 "ClassMill$Text" "bucket" "[I" ∈ VS_h4 := List.mem_append_left _ (List.mem_of_getElem? (i := 33) rfl)
theorem mw_h4_34 : Cond.code yX9_plainSignOf cX9_plainSignOf 1 (some .int) ∈ VS_h4 := List.mem_append_left _ (List.mem_of_getElem? (i := 34) rfl)
theorem mw_h4_35 : Cond.methodLink RX9 147 yX9_plainSignOf ∈ VS_h4 := List.mem_append_left _ (List.mem_of_getElem? (i := 35) rfl)
theorem mw_h4_36 : Cond.static yX9_plainSignOf ∈ VS_h4 := List.mem_append_left _ (List.mem_of_getElem? (i := 36) rfl)
theorem mw_h4_37 : Cond.code yX9_signOf cX9_signOf 2 (some .int) ∈ VS_h4 := List.mem_append_left _ (List.mem_of_getElem? (i := 37) rfl)
theorem mw_h4_38 : Cond.methodLink RX9 116 yX9_signOf ∈ VS_h4 := List.mem_append_left _ (List.mem_of_getElem? (i := 38) rfl)
theorem mw_h4_39 : Cond.static yX9_signOf ∈ VS_h4 := List.mem_append_left _ (List.mem_of_getElem? (i := 39) rfl)
theorem mw_h4_40 : Cond.code yX9_signLength cX9_signLength 1 (some .int) ∈ VS_h4 := List.mem_append_right _ (List.mem_append_left _ (List.mem_of_getElem? (i := 0) rfl))
theorem mw_h4_41 : Cond.methodLink RX9 120 yX9_signLength ∈ VS_h4 := List.mem_append_right _ (List.mem_append_left _ (List.mem_of_getElem? (i := 1) rfl))
theorem mw_h4_42 : Cond.static yX9_signLength ∈ VS_h4 := List.mem_append_right _ (List.mem_append_left _ (List.mem_of_getElem? (i := 2) rfl))
theorem mw_h4_43 : Cond.code yX9_addToken cX9_addToken 4 none ∈ VS_h4 := List.mem_append_right _ (List.mem_append_left _ (List.mem_of_getElem? (i := 3) rfl))
theorem mw_h4_44 : Cond.methodLink RX9 99 yX9_addToken ∈ VS_h4 := List.mem_append_right _ (List.mem_append_left _ (List.mem_of_getElem? (i := 4) rfl))
theorem mw_h4_45 : Cond.instanceMethod yX9_addToken ∈ VS_h4 := List.mem_append_right _ (List.mem_append_left _ (List.mem_of_getElem? (i := 5) rfl))
theorem mw_h4_46 : Cond.selects RX9 yX9_addToken yX9_addToken ∈ VS_h4 := List.mem_append_right _ (List.mem_append_left _ (List.mem_of_getElem? (i := 6) rfl))
theorem mw_h4_47 : Cond.fieldLink RX6 36 "ClassMill$Pool" "bodySize" "I" ∈ VS_h4 := List.mem_append_right _ (List.mem_append_left _ (List.mem_of_getElem? (i := 7) rfl))
theorem mw_h4_48 : Cond.fieldLink RX6 16 "ClassMill$Pool" "body" "[B" ∈ VS_h4 := List.mem_append_right _ (List.mem_append_left _ (List.mem_of_getElem? (i := 8) rfl))
theorem mw_h4_49 : Cond.code yX6_put cX6_put 2 none ∈ VS_h4 := List.mem_append_right _ (List.mem_append_left _ (List.mem_of_getElem? (i := 9) rfl))
theorem mw_h4_50 : Cond.methodLink RX6 45 yX6_put ∈ VS_h4 := List.mem_append_right _ (List.mem_append_left _ (List.mem_of_getElem? (i := 10) rfl))
theorem mw_h4_51 : Cond.instanceMethod yX6_put ∈ VS_h4 := List.mem_append_right _ (List.mem_append_left _ (List.mem_of_getElem? (i := 11) rfl))
theorem mw_h4_52 : Cond.selects RX6 yX6_put yX6_put ∈ VS_h4 := List.mem_append_right _ (List.mem_append_left _ (List.mem_of_getElem? (i := 12) rfl))
theorem mw_h4_53 : Cond.initialized RX6 ∈ VS_h4 := List.mem_append_right _ (List.mem_append_left _ (List.mem_of_getElem? (i := 13) rfl))
theorem mw_h4_54 : Cond.methodLink RX6 107 yX9_nameLength ∈ VS_h4 := List.mem_append_right _ (List.mem_append_left _ (List.mem_of_getElem? (i := 14) rfl))
theorem mw_h4_55 : Cond.fieldLink RX6 20 "ClassMill$Pool" "text" "LClassMill$Text;" ∈ VS_h4 := List.mem_append_right _ (List.mem_append_left _ (List.mem_of_getElem? (i := 15) rfl))
theorem mw_h4_56 : Cond.code yX6_bytesOf cX6_bytesOf 3 (some .int) ∈ VS_h4 := List.mem_append_right _ (List.mem_append_left _ (List.mem_of_getElem? (i := 16) rfl))
theorem mw_h4_57 : Cond.methodLink RX6 90 yX6_bytesOf ∈ VS_h4 := List.mem_append_right _ (List.mem_append_left _ (List.mem_of_getElem? (i := 17) rfl))
theorem mw_h4_58 : Cond.instanceMethod yX6_bytesOf ∈ VS_h4 := List.mem_append_right _ (List.mem_append_left _ (List.mem_of_getElem? (i := 18) rfl))
theorem mw_h4_59 : Cond.selects RX6 yX6_bytesOf yX6_bytesOf ∈ VS_h4 := List.mem_append_right _ (List.mem_append_left _ (List.mem_of_getElem? (i := 19) rfl))
theorem mw_h4_60 : Cond.fieldLink RX6 28 "ClassMill$Pool" "count" "I" ∈ VS_h4 := List.mem_append_right _ (List.mem_append_left _ (List.mem_of_getElem? (i := 20) rfl))
theorem mw_h4_61 : Cond.fieldLink RX6 9 "ClassMill$Pool" "tags" "[I" ∈ VS_h4 := List.mem_append_right _ (List.mem_append_left _ (List.mem_of_getElem? (i := 21) rfl))
theorem mw_h4_62 : Cond.fieldLink RX6 13 "ClassMill$Pool" "values" "[I" ∈ VS_h4 := List.mem_append_right _ (List.mem_append_left _ (List.mem_of_getElem? (i := 22) rfl))
theorem mw_h4_63 : Cond.fieldLink RX6 32 "ClassMill$Pool" "full" "Z" ∈ VS_h4 := List.mem_append_right _ (List.mem_append_left _ (List.mem_of_getElem? (i := 23) rfl))
theorem mw_h4_64 : Cond.code yX6_constant cX6_constant 4 (some .int) ∈ VS_h4 := List.mem_append_right _ (List.mem_append_left _ (List.mem_of_getElem? (i := 24) rfl))
theorem mw_h4_65 : Cond.methodLink RX6 66 yX6_constant ∈ VS_h4 := List.mem_append_right _ (List.mem_append_left _ (List.mem_of_getElem? (i := 25) rfl))
theorem mw_h4_66 : Cond.instanceMethod yX6_constant ∈ VS_h4 := List.mem_append_right _ (List.mem_append_left _ (List.mem_of_getElem? (i := 26) rfl))
theorem mw_h4_67 : Cond.selects RX6 yX6_constant yX6_constant ∈ VS_h4 := List.mem_append_right _ (List.mem_append_left _ (List.mem_of_getElem? (i := 27) rfl))
theorem mw_h4_68 : Cond.code yX6_imageSize cX6_imageSize 3 (some .int) ∈ VS_h4 := List.mem_append_right _ (List.mem_append_left _ (List.mem_of_getElem? (i := 28) rfl))
theorem mw_h4_69 : Cond.methodLink RX6 86 yX6_imageSize ∈ VS_h4 := List.mem_append_right _ (List.mem_append_left _ (List.mem_of_getElem? (i := 29) rfl))
theorem mw_h4_70 : Cond.instanceMethod yX6_imageSize ∈ VS_h4 := List.mem_append_right _ (List.mem_append_left _ (List.mem_of_getElem? (i := 30) rfl))
theorem mw_h4_71 : Cond.selects RX6 yX6_imageSize yX6_imageSize ∈ VS_h4 := List.mem_append_right _ (List.mem_append_left _ (List.mem_of_getElem? (i := 31) rfl))
theorem mw_h4_72 : Cond.fieldLink RX1 39 "ClassMill$Code" "length" "I" ∈ VS_h4 := List.mem_append_right _ (List.mem_append_left _ (List.mem_of_getElem? (i := 32) rfl))
theorem mw_h4_73 : Cond.fieldLink RX1 43 "ClassMill$Code" "height" "I" ∈ VS_h4 := List.mem_append_right _ (List.mem_append_left _ (List.mem_of_getElem? (i := 33) rfl))
theorem mw_h4_74 : Cond.fieldLink RX1 46 "ClassMill$Code" "mostHeight" "I" ∈ VS_h4 := List.mem_append_right _ (List.mem_append_left _ (List.mem_of_getElem? (i := 34) rfl))
theorem mw_h4_75 : Cond.fieldLink RX1 49 "ClassMill$Code" "sight" "I" ∈ VS_h4 := List.mem_append_right _ (List.mem_append_left _ (List.mem_of_getElem? (i := 35) rfl))
theorem mw_h4_76 : Cond.fieldLink RX1 52 "ClassMill$Code" "mostLocals" "I" ∈ VS_h4 := List.mem_append_right _ (List.mem_append_left _ (List.mem_of_getElem? (i := 36) rfl))
theorem mw_h4_77 : Cond.fieldLink RX1 55 "ClassMill$Code" "handlerCount" "I" ∈ VS_h4 := List.mem_append_right _ (List.mem_append_left _ (List.mem_of_getElem? (i := 37) rfl))
theorem mw_h4_78 : Cond.fieldLink RX1 58 "ClassMill$Code" "frameCount" "I" ∈ VS_h4 := List.mem_append_right _ (List.mem_append_left _ (List.mem_of_getElem? (i := 38) rfl))
theorem mw_h4_79 : Cond.fieldLink RX1 61 "ClassMill$Code" "full" "Z" ∈ VS_h4 := List.mem_append_right _ (List.mem_append_left _ (List.mem_of_getElem? (i := 39) rfl))
theorem mw_h4_80 : Cond.fieldLink RX1 13 "ClassMill$Code" "bytes" "[B" ∈ VS_h4 := List.mem_append_right _ (List.mem_append_right _ (List.mem_append_left _ (List.mem_of_getElem? (i := 0) rfl)))
theorem mw_h4_81 : Cond.code yX1_op cX1_op 2 none ∈ VS_h4 := List.mem_append_right _ (List.mem_append_right _ (List.mem_append_left _ (List.mem_of_getElem? (i := 1) rfl)))
theorem mw_h4_82 : Cond.methodLink RX1 65 yX1_op ∈ VS_h4 := List.mem_append_right _ (List.mem_append_right _ (List.mem_append_left _ (List.mem_of_getElem? (i := 2) rfl)))
theorem mw_h4_83 : Cond.instanceMethod yX1_op ∈ VS_h4 := List.mem_append_right _ (List.mem_append_right _ (List.mem_append_left _ (List.mem_of_getElem? (i := 3) rfl)))
theorem mw_h4_84 : Cond.selects RX1 yX1_op yX1_op ∈ VS_h4 := List.mem_append_right _ (List.mem_append_right _ (List.mem_append_left _ (List.mem_of_getElem? (i := 4) rfl)))
theorem mw_h4_85 : Cond.initialized RX1 ∈ VS_h4 := List.mem_append_right _ (List.mem_append_right _ (List.mem_append_left _ (List.mem_of_getElem? (i := 5) rfl)))
theorem mw_h4_86 : Cond.fieldLink RX1 17 "ClassMill$Code" "stack" "[I" ∈ VS_h4 := List.mem_append_right _ (List.mem_append_right _ (List.mem_append_left _ (List.mem_of_getElem? (i := 6) rfl)))
theorem mw_h4_87 : Cond.methodLink RX1 69 yJ9_max_7cf53 ∈ VS_h4 := List.mem_append_right _ (List.mem_append_right _ (List.mem_append_left _ (List.mem_of_getElem? (i := 7) rfl)))
theorem mw_h4_88 : Cond.static yJ9_max_7cf53 ∈ VS_h4 := List.mem_append_right _ (List.mem_append_right _ (List.mem_append_left _ (List.mem_of_getElem? (i := 8) rfl)))
theorem mw_h4_89 : Cond.initialized "java/lang/Math" ∈ VS_h4 := List.mem_append_right _ (List.mem_append_right _ (List.mem_append_left _ (List.mem_of_getElem? (i := 9) rfl)))
theorem mw_h4_90 : Cond.code yJ9_max_7cf53 cJ9_max_7cf53 2 (some .int) ∈ VS_h4 := List.mem_append_right _ (List.mem_append_right _ (List.mem_append_left _ (List.mem_of_getElem? (i := 10) rfl)))
theorem mw_h4_91 : Cond.fieldLink RX1 21 "ClassMill$Code" "localName" "[I" ∈ VS_h4 := List.mem_append_right _ (List.mem_append_right _ (List.mem_append_left _ (List.mem_of_getElem? (i := 11) rfl)))
theorem mw_h4_92 : Cond.fieldLink RX1 24 "ClassMill$Code" "localType" "[I" ∈ VS_h4 := List.mem_append_right _ (List.mem_append_right _ (List.mem_append_left _ (List.mem_of_getElem? (i := 12) rfl)))
theorem mw_h4_93 : Cond.methodLink RX1 75 yJ9_min_7cf53 ∈ VS_h4 := List.mem_append_right _ (List.mem_append_right _ (List.mem_append_left _ (List.mem_of_getElem? (i := 13) rfl)))
theorem mw_h4_94 : Cond.static yJ9_min_7cf53 ∈ VS_h4 := List.mem_append_right _ (List.mem_append_right _ (List.mem_append_left _ (List.mem_of_getElem? (i := 14) rfl)))
theorem mw_h4_95 : Cond.code yJ9_min_7cf53 cJ9_min_7cf53 2 (some .int) ∈ VS_h4 := List.mem_append_right _ (List.mem_append_right _ (List.mem_append_left _ (List.mem_of_getElem? (i := 15) rfl)))
theorem mw_h4_96 : Cond.code yX4_isNumber cX4_isNumber 1 (some .boolean) ∈ VS_h4 := List.mem_append_right _ (List.mem_append_right _ (List.mem_append_left _ (List.mem_of_getElem? (i := 16) rfl)))
theorem mw_h4_97 : Cond.methodLink RX1 80 yX4_isNumber ∈ VS_h4 := List.mem_append_right _ (List.mem_append_right _ (List.mem_append_left _ (List.mem_of_getElem? (i := 17) rfl)))
theorem mw_h4_98 : Cond.static yX4_isNumber ∈ VS_h4 := List.mem_append_right _ (List.mem_append_right _ (List.mem_append_left _ (List.mem_of_getElem? (i := 18) rfl)))
theorem mw_h4_99 : Cond.initialized RX4 ∈ VS_h4 := List.mem_append_right _ (List.mem_append_right _ (List.mem_append_left _ (List.mem_of_getElem? (i := 19) rfl)))
theorem mw_h4_100 : Cond.code yX1_op_ cX1_op_ 3 none ∈ VS_h4 := List.mem_append_right _ (List.mem_append_right _ (List.mem_append_left _ (List.mem_of_getElem? (i := 20) rfl)))
theorem mw_h4_101 : Cond.methodLink RX1 84 yX1_op_ ∈ VS_h4 := List.mem_append_right _ (List.mem_append_right _ (List.mem_append_left _ (List.mem_of_getElem? (i := 21) rfl)))
theorem mw_h4_102 : Cond.instanceMethod yX1_op_ ∈ VS_h4 := List.mem_append_right _ (List.mem_append_right _ (List.mem_append_left _ (List.mem_of_getElem? (i := 22) rfl)))
theorem mw_h4_103 : Cond.selects RX1 yX1_op_ yX1_op_ ∈ VS_h4 := List.mem_append_right _ (List.mem_append_right _ (List.mem_append_left _ (List.mem_of_getElem? (i := 23) rfl)))
theorem mw_h4_104 : Cond.code yX1_pop cX1_pop 2 none ∈ VS_h4 := List.mem_append_right _ (List.mem_append_right _ (List.mem_append_left _ (List.mem_of_getElem? (i := 24) rfl)))
theorem mw_h4_105 : Cond.methodLink RX1 87 yX1_pop ∈ VS_h4 := List.mem_append_right _ (List.mem_append_right _ (List.mem_append_left _ (List.mem_of_getElem? (i := 25) rfl)))
theorem mw_h4_106 : Cond.instanceMethod yX1_pop ∈ VS_h4 := List.mem_append_right _ (List.mem_append_right _ (List.mem_append_left _ (List.mem_of_getElem? (i := 26) rfl)))
theorem mw_h4_107 : Cond.selects RX1 yX1_pop yX1_pop ∈ VS_h4 := List.mem_append_right _ (List.mem_append_right _ (List.mem_append_left _ (List.mem_of_getElem? (i := 27) rfl)))
theorem mw_h4_108 : Cond.code yX1_jump cX1_jump 4 (some .int) ∈ VS_h4 := List.mem_append_right _ (List.mem_append_right _ (List.mem_append_left _ (List.mem_of_getElem? (i := 28) rfl)))
theorem mw_h4_109 : Cond.methodLink RX1 90 yX1_jump ∈ VS_h4 := List.mem_append_right _ (List.mem_append_right _ (List.mem_append_left _ (List.mem_of_getElem? (i := 29) rfl)))
theorem mw_h4_110 : Cond.instanceMethod yX1_jump ∈ VS_h4 := List.mem_append_right _ (List.mem_append_right _ (List.mem_append_left _ (List.mem_of_getElem? (i := 30) rfl)))
theorem mw_h4_111 : Cond.selects RX1 yX1_jump yX1_jump ∈ VS_h4 := List.mem_append_right _ (List.mem_append_right _ (List.mem_append_left _ (List.mem_of_getElem? (i := 31) rfl)))
theorem mw_h4_112 : Cond.code yX1_push cX1_push 2 none ∈ VS_h4 := List.mem_append_right _ (List.mem_append_right _ (List.mem_append_left _ (List.mem_of_getElem? (i := 32) rfl)))
theorem mw_h4_113 : Cond.methodLink RX1 104 yX1_push ∈ VS_h4 := List.mem_append_right _ (List.mem_append_right _ (List.mem_append_left _ (List.mem_of_getElem? (i := 33) rfl)))
theorem mw_h4_114 : Cond.instanceMethod yX1_push ∈ VS_h4 := List.mem_append_right _ (List.mem_append_right _ (List.mem_append_left _ (List.mem_of_getElem? (i := 34) rfl)))
theorem mw_h4_115 : Cond.selects RX1 yX1_push yX1_push ∈ VS_h4 := List.mem_append_right _ (List.mem_append_right _ (List.mem_append_left _ (List.mem_of_getElem? (i := 35) rfl)))
theorem mw_h4_116 : Cond.methodLink RX1 116 yX6_put ∈ VS_h4 := List.mem_append_right _ (List.mem_append_right _ (List.mem_append_left _ (List.mem_of_getElem? (i := 36) rfl)))
theorem mw_h4_117 : Cond.code yX6_putPair cX6_putPair 2 none ∈ VS_h4 := List.mem_append_right _ (List.mem_append_right _ (List.mem_append_left _ (List.mem_of_getElem? (i := 37) rfl)))
theorem mw_h4_118 : Cond.methodLink RX1 121 yX6_putPair ∈ VS_h4 := List.mem_append_right _ (List.mem_append_right _ (List.mem_append_left _ (List.mem_of_getElem? (i := 38) rfl)))
theorem mw_h4_119 : Cond.instanceMethod yX6_putPair ∈ VS_h4 := List.mem_append_right _ (List.mem_append_right _ (List.mem_append_left _ (List.mem_of_getElem? (i := 39) rfl)))
theorem mw_h4_120 : Cond.selects RX6 yX6_putPair yX6_putPair ∈ VS_h4 := List.mem_append_right _ (List.mem_append_right _ (List.mem_append_right _ (List.mem_append_left _ (List.mem_of_getElem? (i := 0) rfl))))
theorem mw_h4_121 : Cond.code yX1_aimAt cX1_aimAt 4 none ∈ VS_h4 := List.mem_append_right _ (List.mem_append_right _ (List.mem_append_right _ (List.mem_append_left _ (List.mem_of_getElem? (i := 1) rfl))))
theorem mw_h4_122 : Cond.methodLink RX1 93 yX1_aimAt ∈ VS_h4 := List.mem_append_right _ (List.mem_append_right _ (List.mem_append_right _ (List.mem_append_left _ (List.mem_of_getElem? (i := 2) rfl))))
theorem mw_h4_123 : Cond.instanceMethod yX1_aimAt ∈ VS_h4 := List.mem_append_right _ (List.mem_append_right _ (List.mem_append_right _ (List.mem_append_left _ (List.mem_of_getElem? (i := 3) rfl))))
theorem mw_h4_124 : Cond.selects RX1 yX1_aimAt yX1_aimAt ∈ VS_h4 := List.mem_append_right _ (List.mem_append_right _ (List.mem_append_right _ (List.mem_append_left _ (List.mem_of_getElem? (i := 4) rfl))))
theorem mw_h4_125 : Cond.fieldLink RX2 78 "ClassMill$Heads" "classes" "I" ∈ VS_h4 := List.mem_append_right _ (List.mem_append_right _ (List.mem_append_right _ (List.mem_append_left _ (List.mem_of_getElem? (i := 5) rfl))))
theorem mw_h4_126 : Cond.fieldLink RX2 20 "ClassMill$Heads" "classAt" "[I" ∈ VS_h4 := List.mem_append_right _ (List.mem_append_right _ (List.mem_append_right _ (List.mem_append_left _ (List.mem_of_getElem? (i := 6) rfl))))
theorem mw_h4_127 : Cond.fieldLink RX2 144 "ClassMill$Heads" "kindSize" "I" ∈ VS_h4 := List.mem_append_right _ (List.mem_append_right _ (List.mem_append_right _ (List.mem_append_left _ (List.mem_of_getElem? (i := 7) rfl))))
theorem mw_h4_128 : Cond.fieldLink RX2 70 "ClassMill$Heads" "kindBytes" "[B" ∈ VS_h4 := List.mem_append_right _ (List.mem_append_right _ (List.mem_append_right _ (List.mem_append_left _ (List.mem_of_getElem? (i := 8) rfl))))
theorem mw_h4_129 : Cond.code yX4_isArray cX4_isArray 1 (some .boolean) ∈ VS_h4 := List.mem_append_right _ (List.mem_append_right _ (List.mem_append_right _ (List.mem_append_left _ (List.mem_of_getElem? (i := 9) rfl))))
theorem mw_h4_130 : Cond.methodLink RX2 160 yX4_isArray ∈ VS_h4 := List.mem_append_right _ (List.mem_append_right _ (List.mem_append_right _ (List.mem_append_left _ (List.mem_of_getElem? (i := 10) rfl))))
theorem mw_h4_131 : Cond.static yX4_isArray ∈ VS_h4 := List.mem_append_right _ (List.mem_append_right _ (List.mem_append_right _ (List.mem_append_left _ (List.mem_of_getElem? (i := 11) rfl))))
theorem mw_h4_132 : Cond.code yX4_isClass cX4_isClass 1 (some .boolean) ∈ VS_h4 := List.mem_append_right _ (List.mem_append_right _ (List.mem_append_right _ (List.mem_append_left _ (List.mem_of_getElem? (i := 12) rfl))))
theorem mw_h4_133 : Cond.methodLink RX2 166 yX4_isClass ∈ VS_h4 := List.mem_append_right _ (List.mem_append_right _ (List.mem_append_right _ (List.mem_append_left _ (List.mem_of_getElem? (i := 13) rfl))))
theorem mw_h4_134 : Cond.static yX4_isClass ∈ VS_h4 := List.mem_append_right _ (List.mem_append_right _ (List.mem_append_right _ (List.mem_append_left _ (List.mem_of_getElem? (i := 14) rfl))))
theorem mw_h4_135 : Cond.code yX2_addKindByte cX2_addKindByte 2 none ∈ VS_h4 := List.mem_append_right _ (List.mem_append_right _ (List.mem_append_right _ (List.mem_append_left _ (List.mem_of_getElem? (i := 15) rfl))))
theorem mw_h4_136 : Cond.methodLink RX2 154 yX2_addKindByte ∈ VS_h4 := List.mem_append_right _ (List.mem_append_right _ (List.mem_append_right _ (List.mem_append_left _ (List.mem_of_getElem? (i := 16) rfl))))
theorem mw_h4_137 : Cond.instanceMethod yX2_addKindByte ∈ VS_h4 := List.mem_append_right _ (List.mem_append_right _ (List.mem_append_right _ (List.mem_append_left _ (List.mem_of_getElem? (i := 17) rfl))))
theorem mw_h4_138 : Cond.selects RX2 yX2_addKindByte yX2_addKindByte ∈ VS_h4 := List.mem_append_right _ (List.mem_append_right _ (List.mem_append_right _ (List.mem_append_left _ (List.mem_of_getElem? (i := 18) rfl))))
theorem mw_h4_139 : Cond.initialized RX2 ∈ VS_h4 := List.mem_append_right _ (List.mem_append_right _ (List.mem_append_right _ (List.mem_append_left _ (List.mem_of_getElem? (i := 19) rfl))))
theorem mw_h4_140 : Cond.code yX9_valueAt cX9_valueAt 2 (some .int) ∈ VS_h4 := List.mem_append_right _ (List.mem_append_right _ (List.mem_append_right _ (List.mem_append_left _ (List.mem_of_getElem? (i := 20) rfl))))
theorem mw_h4_141 : Cond.methodLink RX2 135 yX9_valueAt ∈ VS_h4 := List.mem_append_right _ (List.mem_append_right _ (List.mem_append_right _ (List.mem_append_left _ (List.mem_of_getElem? (i := 21) rfl))))
theorem mw_h4_142 : Cond.instanceMethod yX9_valueAt ∈ VS_h4 := List.mem_append_right _ (List.mem_append_right _ (List.mem_append_right _ (List.mem_append_left _ (List.mem_of_getElem? (i := 22) rfl))))
theorem mw_h4_143 : Cond.selects RX9 yX9_valueAt yX9_valueAt ∈ VS_h4 := List.mem_append_right _ (List.mem_append_right _ (List.mem_append_right _ (List.mem_append_left _ (List.mem_of_getElem? (i := 23) rfl))))
theorem mw_h4_144 : Cond.methodLink RX2 115 yX9_kindAt ∈ VS_h4 := List.mem_append_right _ (List.mem_append_right _ (List.mem_append_right _ (List.mem_append_left _ (List.mem_of_getElem? (i := 24) rfl))))
theorem mw_h4_145 : Cond.fieldLink RX2 74 "ClassMill$Heads" "text" "LClassMill$Text;" ∈ VS_h4 := List.mem_append_right _ (List.mem_append_right _ (List.mem_append_right _ (List.mem_append_left _ (List.mem_of_getElem? (i := 25) rfl))))
theorem mw_h4_146 : Cond.fieldLink RX2 24 "ClassMill$Heads" "classOfName" "[I" ∈ VS_h4 := List.mem_append_right _ (List.mem_append_right _ (List.mem_append_right _ (List.mem_append_left _ (List.mem_of_getElem? (i := 26) rfl))))
theorem mw_h4_147 : Cond.fieldLink RX2 67 "ClassMill$Heads" "typeName" "[I" ∈ VS_h4 := List.mem_append_right _ (List.mem_append_right _ (List.mem_append_right _ (List.mem_append_left _ (List.mem_of_getElem? (i := 27) rfl))))
theorem mw_h4_148 : Cond.code yX2_tokenOfClass cX2_tokenOfClass 2 (some .int) ∈ VS_h4 := List.mem_append_right _ (List.mem_append_right _ (List.mem_append_right _ (List.mem_append_left _ (List.mem_of_getElem? (i := 28) rfl))))
theorem mw_h4_149 : Cond.methodLink RX2 112 yX2_tokenOfClass ∈ VS_h4 := List.mem_append_right _ (List.mem_append_right _ (List.mem_append_right _ (List.mem_append_left _ (List.mem_of_getElem? (i := 29) rfl))))
theorem mw_h4_150 : Cond.instanceMethod yX2_tokenOfClass ∈ VS_h4 := List.mem_append_right _ (List.mem_append_right _ (List.mem_append_right _ (List.mem_append_left _ (List.mem_of_getElem? (i := 30) rfl))))
theorem mw_h4_151 : Cond.selects RX2 yX2_tokenOfClass yX2_tokenOfClass ∈ VS_h4 := List.mem_append_right _ (List.mem_append_right _ (List.mem_append_right _ (List.mem_append_left _ (List.mem_of_getElem? (i := 31) rfl))))
theorem mw_h4_152 : Cond.code yX2_classAt cX2_classAt 3 (some .int) ∈ VS_h4 := List.mem_append_right _ (List.mem_append_right _ (List.mem_append_right _ (List.mem_append_left _ (List.mem_of_getElem? (i := 32) rfl))))
theorem mw_h4_153 : Cond.methodLink RX2 184 yX2_classAt ∈ VS_h4 := List.mem_append_right _ (List.mem_append_right _ (List.mem_append_right _ (List.mem_append_left _ (List.mem_of_getElem? (i := 33) rfl))))
theorem mw_h4_154 : Cond.instanceMethod yX2_classAt ∈ VS_h4 := List.mem_append_right _ (List.mem_append_right _ (List.mem_append_right _ (List.mem_append_left _ (List.mem_of_getElem? (i := 34) rfl))))
theorem mw_h4_155 : Cond.selects RX2 yX2_classAt yX2_classAt ∈ VS_h4 := List.mem_append_right _ (List.mem_append_right _ (List.mem_append_right _ (List.mem_append_left _ (List.mem_of_getElem? (i := 35) rfl))))
theorem mw_h4_156 : Cond.code yX2_classAbove cX2_classAbove 3 (some .int) ∈ VS_h4 := List.mem_append_right _ (List.mem_append_right _ (List.mem_append_right _ (List.mem_append_left _ (List.mem_of_getElem? (i := 36) rfl))))
theorem mw_h4_157 : Cond.methodLink RX2 101 yX2_classAbove ∈ VS_h4 := List.mem_append_right _ (List.mem_append_right _ (List.mem_append_right _ (List.mem_append_left _ (List.mem_of_getElem? (i := 37) rfl))))
theorem mw_h4_158 : Cond.instanceMethod yX2_classAbove ∈ VS_h4 := List.mem_append_right _ (List.mem_append_right _ (List.mem_append_right _ (List.mem_append_left _ (List.mem_of_getElem? (i := 38) rfl))))
theorem mw_h4_159 : Cond.selects RX2 yX2_classAbove yX2_classAbove ∈ VS_h4 := List.mem_append_right _ (List.mem_append_right _ (List.mem_append_right _ (List.mem_append_left _ (List.mem_of_getElem? (i := 39) rfl))))
theorem mw_h4_160 : Cond.methodLink RX2 121 yX9_kind ∈ VS_h4 := List.mem_append_right _ (List.mem_append_right _ (List.mem_append_right _ (List.mem_append_right _ (List.mem_append_left _ (List.mem_of_getElem? (i := 0) rfl)))))
theorem mw_h4_161 : Cond.code yX9_tell cX9_tell 3 none ∈ VS_h4 := List.mem_append_right _ (List.mem_append_right _ (List.mem_append_right _ (List.mem_append_right _ (List.mem_append_left _ (List.mem_of_getElem? (i := 1) rfl)))))
theorem mw_h4_162 : Cond.methodLink RX2 186 yX9_tell ∈ VS_h4 := List.mem_append_right _ (List.mem_append_right _ (List.mem_append_right _ (List.mem_append_right _ (List.mem_append_left _ (List.mem_of_getElem? (i := 2) rfl)))))
theorem mw_h4_163 : Cond.instanceMethod yX9_tell ∈ VS_h4 := List.mem_append_right _ (List.mem_append_right _ (List.mem_append_right _ (List.mem_append_right _ (List.mem_append_left _ (List.mem_of_getElem? (i := 3) rfl)))))
theorem mw_h4_164 : Cond.selects RX9 yX9_tell yX9_tell ∈ VS_h4 := List.mem_append_right _ (List.mem_append_right _ (List.mem_append_right _ (List.mem_append_right _ (List.mem_append_left _ (List.mem_of_getElem? (i := 4) rfl)))))
theorem mw_h4_165 : Cond.fieldLink RX2 118 "ClassMill$Text" "pos" "I" ∈ VS_h4 := List.mem_append_right _ (List.mem_append_right _ (List.mem_append_right _ (List.mem_append_right _ (List.mem_append_left _ (List.mem_of_getElem? (i := 5) rfl)))))
theorem mw_h4_166 : Cond.code yX2_readType cX2_readType 5 (some .int) ∈ VS_h4 := List.mem_append_right _ (List.mem_append_right _ (List.mem_append_right _ (List.mem_append_right _ (List.mem_append_left _ (List.mem_of_getElem? (i := 6) rfl)))))
theorem mw_h4_167 : Cond.methodLink RX2 192 yX2_readType ∈ VS_h4 := List.mem_append_right _ (List.mem_append_right _ (List.mem_append_right _ (List.mem_append_right _ (List.mem_append_left _ (List.mem_of_getElem? (i := 7) rfl)))))
theorem mw_h4_168 : Cond.instanceMethod yX2_readType ∈ VS_h4 := List.mem_append_right _ (List.mem_append_right _ (List.mem_append_right _ (List.mem_append_right _ (List.mem_append_left _ (List.mem_of_getElem? (i := 8) rfl)))))
theorem mw_h4_169 : Cond.selects RX2 yX2_readType yX2_readType ∈ VS_h4 := List.mem_append_right _ (List.mem_append_right _ (List.mem_append_right _ (List.mem_append_right _ (List.mem_append_left _ (List.mem_of_getElem? (i := 9) rfl)))))
theorem mw_h4_170 : Cond.fieldLink RX2 58 "ClassMill$Heads" "parameters" "[I" ∈ VS_h4 := List.mem_append_right _ (List.mem_append_right _ (List.mem_append_right _ (List.mem_append_right _ (List.mem_append_left _ (List.mem_of_getElem? (i := 10) rfl)))))
theorem mw_h4_171 : Cond.fieldLink RX2 61 "ClassMill$Heads" "parameterName" "[I" ∈ VS_h4 := List.mem_append_right _ (List.mem_append_right _ (List.mem_append_right _ (List.mem_append_right _ (List.mem_append_left _ (List.mem_of_getElem? (i := 11) rfl)))))
theorem mw_h4_172 : Cond.fieldLink RX2 64 "ClassMill$Heads" "parameterType" "[I" ∈ VS_h4 := List.mem_append_right _ (List.mem_append_right _ (List.mem_append_right _ (List.mem_append_right _ (List.mem_append_left _ (List.mem_of_getElem? (i := 12) rfl)))))
theorem mw_h4_173 : Cond.code yX4_above cX4_above 2 (some .int) ∈ VS_h4 := List.mem_append_right _ (List.mem_append_right _ (List.mem_append_right _ (List.mem_append_right _ (List.mem_append_left _ (List.mem_of_getElem? (i := 13) rfl)))))
theorem mw_h4_174 : Cond.methodLink RX2 215 yX4_above ∈ VS_h4 := List.mem_append_right _ (List.mem_append_right _ (List.mem_append_right _ (List.mem_append_right _ (List.mem_append_left _ (List.mem_of_getElem? (i := 14) rfl)))))
theorem mw_h4_175 : Cond.instanceMethod yX4_above ∈ VS_h4 := List.mem_append_right _ (List.mem_append_right _ (List.mem_append_right _ (List.mem_append_right _ (List.mem_append_left _ (List.mem_of_getElem? (i := 15) rfl)))))
theorem mw_h4_176 : Cond.selects RX4 yX4_above yX4_above ∈ VS_h4 := List.mem_append_right _ (List.mem_append_right _ (List.mem_append_right _ (List.mem_append_right _ (List.mem_append_left _ (List.mem_of_getElem? (i := 16) rfl)))))
theorem mw_h4_177 : Cond.fieldLink RX2 27 "ClassMill$Heads" "fields" "[I" ∈ VS_h4 := List.mem_append_right _ (List.mem_append_right _ (List.mem_append_right _ (List.mem_append_right _ (List.mem_append_left _ (List.mem_of_getElem? (i := 17) rfl)))))
theorem mw_h4_178 : Cond.fieldLink RX2 30 "ClassMill$Heads" "fieldName" "[I" ∈ VS_h4 := List.mem_append_right _ (List.mem_append_right _ (List.mem_append_right _ (List.mem_append_right _ (List.mem_append_left _ (List.mem_of_getElem? (i := 18) rfl)))))
theorem mw_h4_179 : Cond.fieldLink RX2 39 "ClassMill$Heads" "methods" "[I" ∈ VS_h4 := List.mem_append_right _ (List.mem_append_right _ (List.mem_append_right _ (List.mem_append_right _ (List.mem_append_left _ (List.mem_of_getElem? (i := 19) rfl)))))
theorem mw_h4_180 : Cond.fieldLink RX2 42 "ClassMill$Heads" "methodAt" "[I" ∈ VS_h4 := List.mem_append_right _ (List.mem_append_right _ (List.mem_append_right _ (List.mem_append_right _ (List.mem_append_left _ (List.mem_of_getElem? (i := 20) rfl)))))
theorem mw_h4_181 : Cond.code yX2_isOwn cX2_isOwn 1 (some .boolean) ∈ VS_h4 := List.mem_append_right _ (List.mem_append_right _ (List.mem_append_right _ (List.mem_append_right _ (List.mem_append_left _ (List.mem_of_getElem? (i := 21) rfl)))))
theorem mw_h4_182 : Cond.methodLink RX2 224 yX2_isOwn ∈ VS_h4 := List.mem_append_right _ (List.mem_append_right _ (List.mem_append_right _ (List.mem_append_right _ (List.mem_append_left _ (List.mem_of_getElem? (i := 22) rfl)))))
theorem mw_h4_183 : Cond.static yX2_isOwn ∈ VS_h4 := List.mem_append_right _ (List.mem_append_right _ (List.mem_append_right _ (List.mem_append_right _ (List.mem_append_left _ (List.mem_of_getElem? (i := 23) rfl)))))
theorem mw_h4_184 : Cond.code yX2_fieldIn cX2_fieldIn 4 (some .int) ∈ VS_h4 := List.mem_append_right _ (List.mem_append_right _ (List.mem_append_right _ (List.mem_append_right _ (List.mem_append_left _ (List.mem_of_getElem? (i := 24) rfl)))))
theorem mw_h4_185 : Cond.methodLink RX2 203 yX2_fieldIn ∈ VS_h4 := List.mem_append_right _ (List.mem_append_right _ (List.mem_append_right _ (List.mem_append_right _ (List.mem_append_left _ (List.mem_of_getElem? (i := 25) rfl)))))
theorem mw_h4_186 : Cond.instanceMethod yX2_fieldIn ∈ VS_h4 := List.mem_append_right _ (List.mem_append_right _ (List.mem_append_right _ (List.mem_append_right _ (List.mem_append_left _ (List.mem_of_getElem? (i := 26) rfl)))))
theorem mw_h4_187 : Cond.selects RX2 yX2_fieldIn yX2_fieldIn ∈ VS_h4 := List.mem_append_right _ (List.mem_append_right _ (List.mem_append_right _ (List.mem_append_right _ (List.mem_append_left _ (List.mem_of_getElem? (i := 27) rfl)))))
theorem mw_h4_188 : Cond.fieldLink RX2 14 "ClassMill$Heads" "kin" "LClassMill$Kin;" ∈ VS_h4 := List.mem_append_right _ (List.mem_append_right _ (List.mem_append_right _ (List.mem_append_right _ (List.mem_append_left _ (List.mem_of_getElem? (i := 28) rfl)))))
theorem mw_h4_189 : Cond.code yX2_methodIn cX2_methodIn 4 (some .int) ∈ VS_h4 := List.mem_append_right _ (List.mem_append_right _ (List.mem_append_right _ (List.mem_append_right _ (List.mem_append_left _ (List.mem_of_getElem? (i := 29) rfl)))))
theorem mw_h4_190 : Cond.methodLink RX2 206 yX2_methodIn ∈ VS_h4 := List.mem_append_right _ (List.mem_append_right _ (List.mem_append_right _ (List.mem_append_right _ (List.mem_append_left _ (List.mem_of_getElem? (i := 30) rfl)))))
theorem mw_h4_191 : Cond.instanceMethod yX2_methodIn ∈ VS_h4 := List.mem_append_right _ (List.mem_append_right _ (List.mem_append_right _ (List.mem_append_right _ (List.mem_append_left _ (List.mem_of_getElem? (i := 31) rfl)))))
theorem mw_h4_192 : Cond.selects RX2 yX2_methodIn yX2_methodIn ∈ VS_h4 := List.mem_append_right _ (List.mem_append_right _ (List.mem_append_right _ (List.mem_append_right _ (List.mem_append_left _ (List.mem_of_getElem? (i := 32) rfl)))))
theorem mw_h4_193 : Cond.fieldLink RX2 36 "ClassMill$Heads" "fieldKind" "[I" ∈ VS_h4 := List.mem_append_right _ (List.mem_append_right _ (List.mem_append_right _ (List.mem_append_right _ (List.mem_append_left _ (List.mem_of_getElem? (i := 33) rfl)))))
theorem mw_h4_194 : Cond.fieldLink RX2 55 "ClassMill$Heads" "methodKind" "[I" ∈ VS_h4 := List.mem_append_right _ (List.mem_append_right _ (List.mem_append_right _ (List.mem_append_right _ (List.mem_append_left _ (List.mem_of_getElem? (i := 34) rfl)))))
theorem mw_h4_195 : Cond.fieldLink RX2 33 "ClassMill$Heads" "fieldType" "[I" ∈ VS_h4 := List.mem_append_right _ (List.mem_append_right _ (List.mem_append_right _ (List.mem_append_right _ (List.mem_append_left _ (List.mem_of_getElem? (i := 35) rfl)))))
theorem mw_h4_196 : Cond.code yX2_isMethod cX2_isMethod 2 (some .boolean) ∈ VS_h4 := List.mem_append_right _ (List.mem_append_right _ (List.mem_append_right _ (List.mem_append_right _ (List.mem_append_left _ (List.mem_of_getElem? (i := 36) rfl)))))
theorem mw_h4_197 : Cond.methodLink RX2 128 yX2_isMethod ∈ VS_h4 := List.mem_append_right _ (List.mem_append_right _ (List.mem_append_right _ (List.mem_append_right _ (List.mem_append_left _ (List.mem_of_getElem? (i := 37) rfl)))))
theorem mw_h4_198 : Cond.instanceMethod yX2_isMethod ∈ VS_h4 := List.mem_append_right _ (List.mem_append_right _ (List.mem_append_right _ (List.mem_append_right _ (List.mem_append_left _ (List.mem_of_getElem? (i := 38) rfl)))))
theorem mw_h4_199 : Cond.selects RX2 yX2_isMethod yX2_isMethod ∈ VS_h4 := List.mem_append_right _ (List.mem_append_right _ (List.mem_append_right _ (List.mem_append_right _ (List.mem_append_left _ (List.mem_of_getElem? (i := 39) rfl)))))
theorem mw_h4_200 : Cond.fieldLink RX2 45 "ClassMill$Heads" "methodBody" "[I" ∈ VS_h4 := List.mem_append_right _ (List.mem_append_right _ (List.mem_append_right _ (List.mem_append_right _ (List.mem_append_right _ (List.mem_append_left _ (List.mem_of_getElem? (i := 0) rfl))))))
theorem mw_h4_201 : Cond.fieldLink RX2 48 "ClassMill$Heads" "methodType" "[I" ∈ VS_h4 := List.mem_append_right _ (List.mem_append_right _ (List.mem_append_right _ (List.mem_append_right _ (List.mem_append_right _ (List.mem_append_left _ (List.mem_of_getElem? (i := 1) rfl))))))
theorem mw_h4_202 : Cond.fieldLink RX2 51 "ClassMill$Heads" "methodFixed" "[Z" ∈ VS_h4 := List.mem_append_right _ (List.mem_append_right _ (List.mem_append_right _ (List.mem_append_right _ (List.mem_append_right _ (List.mem_append_left _ (List.mem_of_getElem? (i := 2) rfl))))))
theorem mw_h4_203 : Cond.code yX2_parametersOf cX2_parametersOf 2 (some .int) ∈ VS_h4 := List.mem_append_right _ (List.mem_append_right _ (List.mem_append_right _ (List.mem_append_right _ (List.mem_append_right _ (List.mem_append_left _ (List.mem_of_getElem? (i := 3) rfl))))))
theorem mw_h4_204 : Cond.methodLink RX2 227 yX2_parametersOf ∈ VS_h4 := List.mem_append_right _ (List.mem_append_right _ (List.mem_append_right _ (List.mem_append_right _ (List.mem_append_right _ (List.mem_append_left _ (List.mem_of_getElem? (i := 4) rfl))))))
theorem mw_h4_205 : Cond.instanceMethod yX2_parametersOf ∈ VS_h4 := List.mem_append_right _ (List.mem_append_right _ (List.mem_append_right _ (List.mem_append_right _ (List.mem_append_right _ (List.mem_append_left _ (List.mem_of_getElem? (i := 5) rfl))))))
theorem mw_h4_206 : Cond.selects RX2 yX2_parametersOf yX2_parametersOf ∈ VS_h4 := List.mem_append_right _ (List.mem_append_right _ (List.mem_append_right _ (List.mem_append_right _ (List.mem_append_right _ (List.mem_append_left _ (List.mem_of_getElem? (i := 6) rfl))))))
theorem mw_h4_207 : Cond.code yX2_endsAbove cX2_endsAbove 4 (some .boolean) ∈ VS_h4 := List.mem_append_right _ (List.mem_append_right _ (List.mem_append_right _ (List.mem_append_right _ (List.mem_append_right _ (List.mem_append_left _ (List.mem_of_getElem? (i := 7) rfl))))))
theorem mw_h4_208 : Cond.methodLink RX2 189 yX2_endsAbove ∈ VS_h4 := List.mem_append_right _ (List.mem_append_right _ (List.mem_append_right _ (List.mem_append_right _ (List.mem_append_right _ (List.mem_append_left _ (List.mem_of_getElem? (i := 8) rfl))))))
theorem mw_h4_209 : Cond.instanceMethod yX2_endsAbove ∈ VS_h4 := List.mem_append_right _ (List.mem_append_right _ (List.mem_append_right _ (List.mem_append_right _ (List.mem_append_right _ (List.mem_append_left _ (List.mem_of_getElem? (i := 9) rfl))))))
theorem mw_h4_210 : Cond.selects RX2 yX2_endsAbove yX2_endsAbove ∈ VS_h4 := List.mem_append_right _ (List.mem_append_right _ (List.mem_append_right _ (List.mem_append_right _ (List.mem_append_right _ (List.mem_append_left _ (List.mem_of_getElem? (i := 10) rfl))))))
theorem mw_h4_211 : Cond.code yX2_skipBlock cX2_skipBlock 4 none ∈ VS_h4 := List.mem_append_right _ (List.mem_append_right _ (List.mem_append_right _ (List.mem_append_right _ (List.mem_append_right _ (List.mem_append_left _ (List.mem_of_getElem? (i := 11) rfl))))))
theorem mw_h4_212 : Cond.methodLink RX2 212 yX2_skipBlock ∈ VS_h4 := List.mem_append_right _ (List.mem_append_right _ (List.mem_append_right _ (List.mem_append_right _ (List.mem_append_right _ (List.mem_append_left _ (List.mem_of_getElem? (i := 12) rfl))))))
theorem mw_h4_213 : Cond.instanceMethod yX2_skipBlock ∈ VS_h4 := List.mem_append_right _ (List.mem_append_right _ (List.mem_append_right _ (List.mem_append_right _ (List.mem_append_right _ (List.mem_append_left _ (List.mem_of_getElem? (i := 13) rfl))))))
theorem mw_h4_214 : Cond.selects RX2 yX2_skipBlock yX2_skipBlock ∈ VS_h4 := List.mem_append_right _ (List.mem_append_right _ (List.mem_append_right _ (List.mem_append_right _ (List.mem_append_right _ (List.mem_append_left _ (List.mem_of_getElem? (i := 14) rfl))))))
theorem mw_h4_215 : Cond.code yX2_addParameter cX2_addParameter 7 none ∈ VS_h4 := List.mem_append_right _ (List.mem_append_right _ (List.mem_append_right _ (List.mem_append_right _ (List.mem_append_right _ (List.mem_append_left _ (List.mem_of_getElem? (i := 15) rfl))))))
theorem mw_h4_216 : Cond.methodLink RX2 209 yX2_addParameter ∈ VS_h4 := List.mem_append_right _ (List.mem_append_right _ (List.mem_append_right _ (List.mem_append_right _ (List.mem_append_right _ (List.mem_append_left _ (List.mem_of_getElem? (i := 16) rfl))))))
theorem mw_h4_217 : Cond.instanceMethod yX2_addParameter ∈ VS_h4 := List.mem_append_right _ (List.mem_append_right _ (List.mem_append_right _ (List.mem_append_right _ (List.mem_append_right _ (List.mem_append_left _ (List.mem_of_getElem? (i := 17) rfl))))))
theorem mw_h4_218 : Cond.selects RX2 yX2_addParameter yX2_addParameter ∈ VS_h4 := List.mem_append_right _ (List.mem_append_right _ (List.mem_append_right _ (List.mem_append_right _ (List.mem_append_right _ (List.mem_append_left _ (List.mem_of_getElem? (i := 18) rfl))))))
theorem mw_h4_219 : Cond.code yX2_nameOfMethod cX2_nameOfMethod 2 (some .int) ∈ VS_h4 := List.mem_append_right _ (List.mem_append_right _ (List.mem_append_right _ (List.mem_append_right _ (List.mem_append_right _ (List.mem_append_left _ (List.mem_of_getElem? (i := 19) rfl))))))
theorem mw_h4_220 : Cond.methodLink RX2 218 yX2_nameOfMethod ∈ VS_h4 := List.mem_append_right _ (List.mem_append_right _ (List.mem_append_right _ (List.mem_append_right _ (List.mem_append_right _ (List.mem_append_left _ (List.mem_of_getElem? (i := 20) rfl))))))
theorem mw_h4_221 : Cond.instanceMethod yX2_nameOfMethod ∈ VS_h4 := List.mem_append_right _ (List.mem_append_right _ (List.mem_append_right _ (List.mem_append_right _ (List.mem_append_right _ (List.mem_append_left _ (List.mem_of_getElem? (i := 21) rfl))))))
theorem mw_h4_222 : Cond.selects RX2 yX2_nameOfMethod yX2_nameOfMethod ∈ VS_h4 := List.mem_append_right _ (List.mem_append_right _ (List.mem_append_right _ (List.mem_append_right _ (List.mem_append_right _ (List.mem_append_left _ (List.mem_of_getElem? (i := 22) rfl))))))
theorem mw_h4_223 : Cond.code yX2_methodOf cX2_methodOf 6 (some .int) ∈ VS_h4 := List.mem_append_right _ (List.mem_append_right _ (List.mem_append_right _ (List.mem_append_right _ (List.mem_append_right _ (List.mem_append_left _ (List.mem_of_getElem? (i := 23) rfl))))))
theorem mw_h4_224 : Cond.methodLink RX2 221 yX2_methodOf ∈ VS_h4 := List.mem_append_right _ (List.mem_append_right _ (List.mem_append_right _ (List.mem_append_right _ (List.mem_append_right _ (List.mem_append_left _ (List.mem_of_getElem? (i := 24) rfl))))))
theorem mw_h4_225 : Cond.instanceMethod yX2_methodOf ∈ VS_h4 := List.mem_append_right _ (List.mem_append_right _ (List.mem_append_right _ (List.mem_append_right _ (List.mem_append_right _ (List.mem_append_left _ (List.mem_of_getElem? (i := 25) rfl))))))
theorem mw_h4_226 : Cond.selects RX2 yX2_methodOf yX2_methodOf ∈ VS_h4 := List.mem_append_right _ (List.mem_append_right _ (List.mem_append_right _ (List.mem_append_right _ (List.mem_append_right _ (List.mem_append_left _ (List.mem_of_getElem? (i := 26) rfl))))))
theorem mw_h4_227 : Cond.code yX2_parameterType cX2_parameterType 3 (some .int) ∈ VS_h4 := List.mem_append_right _ (List.mem_append_right _ (List.mem_append_right _ (List.mem_append_right _ (List.mem_append_right _ (List.mem_append_left _ (List.mem_of_getElem? (i := 27) rfl))))))
theorem mw_h4_228 : Cond.methodLink RX2 157 yX2_parameterType ∈ VS_h4 := List.mem_append_right _ (List.mem_append_right _ (List.mem_append_right _ (List.mem_append_right _ (List.mem_append_right _ (List.mem_append_left _ (List.mem_of_getElem? (i := 28) rfl))))))
theorem mw_h4_229 : Cond.instanceMethod yX2_parameterType ∈ VS_h4 := List.mem_append_right _ (List.mem_append_right _ (List.mem_append_right _ (List.mem_append_right _ (List.mem_append_right _ (List.mem_append_left _ (List.mem_of_getElem? (i := 29) rfl))))))
theorem mw_h4_230 : Cond.selects RX2 yX2_parameterType yX2_parameterType ∈ VS_h4 := List.mem_append_right _ (List.mem_append_right _ (List.mem_append_right _ (List.mem_append_right _ (List.mem_append_right _ (List.mem_append_left _ (List.mem_of_getElem? (i := 30) rfl))))))
theorem mw_h4_231 : Cond.code yX2_isFixed cX2_isFixed 2 (some .boolean) ∈ VS_h4 := List.mem_append_right _ (List.mem_append_right _ (List.mem_append_right _ (List.mem_append_right _ (List.mem_append_right _ (List.mem_append_left _ (List.mem_of_getElem? (i := 31) rfl))))))
theorem mw_h4_232 : Cond.methodLink RX6 76 yX2_isFixed ∈ VS_h4 := List.mem_append_right _ (List.mem_append_right _ (List.mem_append_right _ (List.mem_append_right _ (List.mem_append_right _ (List.mem_append_left _ (List.mem_of_getElem? (i := 32) rfl))))))
theorem mw_h4_233 : Cond.instanceMethod yX2_isFixed ∈ VS_h4 := List.mem_append_right _ (List.mem_append_right _ (List.mem_append_right _ (List.mem_append_right _ (List.mem_append_right _ (List.mem_append_left _ (List.mem_of_getElem? (i := 33) rfl))))))
theorem mw_h4_234 : Cond.selects RX2 yX2_isFixed yX2_isFixed ∈ VS_h4 := List.mem_append_right _ (List.mem_append_right _ (List.mem_append_right _ (List.mem_append_right _ (List.mem_append_right _ (List.mem_append_left _ (List.mem_of_getElem? (i := 34) rfl))))))
theorem mw_h4_235 : Cond.methodLink RX6 80 yX2_nameOfMethod ∈ VS_h4 := List.mem_append_right _ (List.mem_append_right _ (List.mem_append_right _ (List.mem_append_right _ (List.mem_append_right _ (List.mem_append_left _ (List.mem_of_getElem? (i := 35) rfl))))))
theorem mw_h4_236 : Cond.code yX2_kindOfMethod cX2_kindOfMethod 2 (some .int) ∈ VS_h4 := List.mem_append_right _ (List.mem_append_right _ (List.mem_append_right _ (List.mem_append_right _ (List.mem_append_right _ (List.mem_append_left _ (List.mem_of_getElem? (i := 36) rfl))))))
theorem mw_h4_237 : Cond.methodLink RX6 83 yX2_kindOfMethod ∈ VS_h4 := List.mem_append_right _ (List.mem_append_right _ (List.mem_append_right _ (List.mem_append_right _ (List.mem_append_right _ (List.mem_append_left _ (List.mem_of_getElem? (i := 37) rfl))))))
theorem mw_h4_238 : Cond.instanceMethod yX2_kindOfMethod ∈ VS_h4 := List.mem_append_right _ (List.mem_append_right _ (List.mem_append_right _ (List.mem_append_right _ (List.mem_append_right _ (List.mem_append_left _ (List.mem_of_getElem? (i := 38) rfl))))))
theorem mw_h4_239 : Cond.selects RX2 yX2_kindOfMethod yX2_kindOfMethod ∈ VS_h4 := List.mem_append_right _ (List.mem_append_right _ (List.mem_append_right _ (List.mem_append_right _ (List.mem_append_right _ (List.mem_append_left _ (List.mem_of_getElem? (i := 39) rfl))))))
theorem mw_h4_240 : Cond.fieldLink RX6 24 "ClassMill$Pool" "heads" "LClassMill$Heads;" ∈ VS_h4 := List.mem_append_right _ (List.mem_append_right _ (List.mem_append_right _ (List.mem_append_right _ (List.mem_append_right _ (List.mem_append_right _ (List.mem_append_left _ (List.mem_of_getElem? (i := 0) rfl)))))))
theorem mw_h4_241 : Cond.code yX2_nameOfType cX2_nameOfType 3 (some .int) ∈ VS_h4 := List.mem_append_right _ (List.mem_append_right _ (List.mem_append_right _ (List.mem_append_right _ (List.mem_append_right _ (List.mem_append_right _ (List.mem_append_left _ (List.mem_of_getElem? (i := 1) rfl)))))))
theorem mw_h4_242 : Cond.methodLink RX6 115 yX2_nameOfType ∈ VS_h4 := List.mem_append_right _ (List.mem_append_right _ (List.mem_append_right _ (List.mem_append_right _ (List.mem_append_right _ (List.mem_append_right _ (List.mem_append_left _ (List.mem_of_getElem? (i := 2) rfl)))))))
theorem mw_h4_243 : Cond.instanceMethod yX2_nameOfType ∈ VS_h4 := List.mem_append_right _ (List.mem_append_right _ (List.mem_append_right _ (List.mem_append_right _ (List.mem_append_right _ (List.mem_append_right _ (List.mem_append_left _ (List.mem_of_getElem? (i := 3) rfl)))))))
theorem mw_h4_244 : Cond.selects RX2 yX2_nameOfType yX2_nameOfType ∈ VS_h4 := List.mem_append_right _ (List.mem_append_right _ (List.mem_append_right _ (List.mem_append_right _ (List.mem_append_right _ (List.mem_append_right _ (List.mem_append_left _ (List.mem_of_getElem? (i := 4) rfl)))))))
theorem mw_h4_245 : Cond.code yX6_classOf cX6_classOf 2 (some .int) ∈ VS_h4 := List.mem_append_right _ (List.mem_append_right _ (List.mem_append_right _ (List.mem_append_right _ (List.mem_append_right _ (List.mem_append_right _ (List.mem_append_left _ (List.mem_of_getElem? (i := 5) rfl)))))))
theorem mw_h4_246 : Cond.methodLink RX6 41 yX6_classOf ∈ VS_h4 := List.mem_append_right _ (List.mem_append_right _ (List.mem_append_right _ (List.mem_append_right _ (List.mem_append_right _ (List.mem_append_right _ (List.mem_append_left _ (List.mem_of_getElem? (i := 6) rfl)))))))
theorem mw_h4_247 : Cond.instanceMethod yX6_classOf ∈ VS_h4 := List.mem_append_right _ (List.mem_append_right _ (List.mem_append_right _ (List.mem_append_right _ (List.mem_append_right _ (List.mem_append_right _ (List.mem_append_left _ (List.mem_of_getElem? (i := 7) rfl)))))))
theorem mw_h4_248 : Cond.selects RX6 yX6_classOf yX6_classOf ∈ VS_h4 := List.mem_append_right _ (List.mem_append_right _ (List.mem_append_right _ (List.mem_append_right _ (List.mem_append_right _ (List.mem_append_right _ (List.mem_append_left _ (List.mem_of_getElem? (i := 8) rfl)))))))
theorem mw_h4_249 : Cond.code yX2_nameOfField cX2_nameOfField 2 (some .int) ∈ VS_h4 := List.mem_append_right _ (List.mem_append_right _ (List.mem_append_right _ (List.mem_append_right _ (List.mem_append_right _ (List.mem_append_right _ (List.mem_append_left _ (List.mem_of_getElem? (i := 9) rfl)))))))
theorem mw_h4_250 : Cond.methodLink RX6 63 yX2_nameOfField ∈ VS_h4 := List.mem_append_right _ (List.mem_append_right _ (List.mem_append_right _ (List.mem_append_right _ (List.mem_append_right _ (List.mem_append_right _ (List.mem_append_left _ (List.mem_of_getElem? (i := 10) rfl)))))))
theorem mw_h4_251 : Cond.instanceMethod yX2_nameOfField ∈ VS_h4 := List.mem_append_right _ (List.mem_append_right _ (List.mem_append_right _ (List.mem_append_right _ (List.mem_append_right _ (List.mem_append_right _ (List.mem_append_left _ (List.mem_of_getElem? (i := 11) rfl)))))))
theorem mw_h4_252 : Cond.selects RX2 yX2_nameOfField yX2_nameOfField ∈ VS_h4 := List.mem_append_right _ (List.mem_append_right _ (List.mem_append_right _ (List.mem_append_right _ (List.mem_append_right _ (List.mem_append_right _ (List.mem_append_left _ (List.mem_of_getElem? (i := 12) rfl)))))))
theorem mw_h4_253 : Cond.code yX2_kindOfField cX2_kindOfField 2 (some .int) ∈ VS_h4 := List.mem_append_right _ (List.mem_append_right _ (List.mem_append_right _ (List.mem_append_right _ (List.mem_append_right _ (List.mem_append_right _ (List.mem_append_left _ (List.mem_of_getElem? (i := 13) rfl)))))))
theorem mw_h4_254 : Cond.methodLink RX6 70 yX2_kindOfField ∈ VS_h4 := List.mem_append_right _ (List.mem_append_right _ (List.mem_append_right _ (List.mem_append_right _ (List.mem_append_right _ (List.mem_append_right _ (List.mem_append_left _ (List.mem_of_getElem? (i := 14) rfl)))))))
theorem mw_h4_255 : Cond.instanceMethod yX2_kindOfField ∈ VS_h4 := List.mem_append_right _ (List.mem_append_right _ (List.mem_append_right _ (List.mem_append_right _ (List.mem_append_right _ (List.mem_append_right _ (List.mem_append_left _ (List.mem_of_getElem? (i := 15) rfl)))))))
theorem mw_h4_256 : Cond.selects RX2 yX2_kindOfField yX2_kindOfField ∈ VS_h4 := List.mem_append_right _ (List.mem_append_right _ (List.mem_append_right _ (List.mem_append_right _ (List.mem_append_right _ (List.mem_append_right _ (List.mem_append_left _ (List.mem_of_getElem? (i := 16) rfl)))))))
theorem mw_h4_257 : Cond.methodLink RX6 55 yX4_above ∈ VS_h4 := List.mem_append_right _ (List.mem_append_right _ (List.mem_append_right _ (List.mem_append_right _ (List.mem_append_right _ (List.mem_append_right _ (List.mem_append_left _ (List.mem_of_getElem? (i := 17) rfl)))))))
theorem mw_h4_258 : Cond.code yX2_fieldsOf cX2_fieldsOf 2 (some .int) ∈ VS_h4 := List.mem_append_right _ (List.mem_append_right _ (List.mem_append_right _ (List.mem_append_right _ (List.mem_append_right _ (List.mem_append_right _ (List.mem_append_left _ (List.mem_of_getElem? (i := 18) rfl)))))))
theorem mw_h4_259 : Cond.methodLink RX6 58 yX2_fieldsOf ∈ VS_h4 := List.mem_append_right _ (List.mem_append_right _ (List.mem_append_right _ (List.mem_append_right _ (List.mem_append_right _ (List.mem_append_right _ (List.mem_append_left _ (List.mem_of_getElem? (i := 19) rfl)))))))
theorem mw_h4_260 : Cond.instanceMethod yX2_fieldsOf ∈ VS_h4 := List.mem_append_right _ (List.mem_append_right _ (List.mem_append_right _ (List.mem_append_right _ (List.mem_append_right _ (List.mem_append_right _ (List.mem_append_left _ (List.mem_of_getElem? (i := 20) rfl)))))))
theorem mw_h4_261 : Cond.selects RX2 yX2_fieldsOf yX2_fieldsOf ∈ VS_h4 := List.mem_append_right _ (List.mem_append_right _ (List.mem_append_right _ (List.mem_append_right _ (List.mem_append_right _ (List.mem_append_right _ (List.mem_append_left _ (List.mem_of_getElem? (i := 21) rfl)))))))
theorem mw_h4_262 : Cond.code yX2_methodsOf cX2_methodsOf 2 (some .int) ∈ VS_h4 := List.mem_append_right _ (List.mem_append_right _ (List.mem_append_right _ (List.mem_append_right _ (List.mem_append_right _ (List.mem_append_right _ (List.mem_append_left _ (List.mem_of_getElem? (i := 22) rfl)))))))
theorem mw_h4_263 : Cond.methodLink RX6 73 yX2_methodsOf ∈ VS_h4 := List.mem_append_right _ (List.mem_append_right _ (List.mem_append_right _ (List.mem_append_right _ (List.mem_append_right _ (List.mem_append_right _ (List.mem_append_left _ (List.mem_of_getElem? (i := 23) rfl)))))))
theorem mw_h4_264 : Cond.instanceMethod yX2_methodsOf ∈ VS_h4 := List.mem_append_right _ (List.mem_append_right _ (List.mem_append_right _ (List.mem_append_right _ (List.mem_append_right _ (List.mem_append_right _ (List.mem_append_left _ (List.mem_of_getElem? (i := 24) rfl)))))))
theorem mw_h4_265 : Cond.selects RX2 yX2_methodsOf yX2_methodsOf ∈ VS_h4 := List.mem_append_right _ (List.mem_append_right _ (List.mem_append_right _ (List.mem_append_right _ (List.mem_append_right _ (List.mem_append_right _ (List.mem_append_left _ (List.mem_of_getElem? (i := 25) rfl)))))))
theorem mw_h4_266 : Cond.fieldLink RX6 49 "ClassMill$Heads" "kin" "LClassMill$Kin;" ∈ VS_h4 := List.mem_append_right _ (List.mem_append_right _ (List.mem_append_right _ (List.mem_append_right _ (List.mem_append_right _ (List.mem_append_right _ (List.mem_append_left _ (List.mem_of_getElem? (i := 26) rfl)))))))
theorem mw_h4_267 : Cond.methodLink RX1 124 yX6_classOf ∈ VS_h4 := List.mem_append_right _ (List.mem_append_right _ (List.mem_append_right _ (List.mem_append_right _ (List.mem_append_right _ (List.mem_append_right _ (List.mem_append_left _ (List.mem_of_getElem? (i := 27) rfl)))))))
theorem mw_h4_268 : Cond.fieldLink RX1 33 "ClassMill$Code" "frameRow" "[I" ∈ VS_h4 := List.mem_append_right _ (List.mem_append_right _ (List.mem_append_right _ (List.mem_append_right _ (List.mem_append_right _ (List.mem_append_right _ (List.mem_append_left _ (List.mem_of_getElem? (i := 28) rfl)))))))
theorem mw_h4_269 : Cond.code yX1_writeTypes cX1_writeTypes 6 none ∈ VS_h4 := List.mem_append_right _ (List.mem_append_right _ (List.mem_append_right _ (List.mem_append_right _ (List.mem_append_right _ (List.mem_append_right _ (List.mem_append_left _ (List.mem_of_getElem? (i := 29) rfl)))))))
theorem mw_h4_270 : Cond.methodLink RX1 131 yX1_writeTypes ∈ VS_h4 := List.mem_append_right _ (List.mem_append_right _ (List.mem_append_right _ (List.mem_append_right _ (List.mem_append_right _ (List.mem_append_right _ (List.mem_append_left _ (List.mem_of_getElem? (i := 30) rfl)))))))
theorem mw_h4_271 : Cond.instanceMethod yX1_writeTypes ∈ VS_h4 := List.mem_append_right _ (List.mem_append_right _ (List.mem_append_right _ (List.mem_append_right _ (List.mem_append_right _ (List.mem_append_right _ (List.mem_append_left _ (List.mem_of_getElem? (i := 31) rfl)))))))
theorem mw_h4_272 : Cond.selects RX1 yX1_writeTypes yX1_writeTypes ∈ VS_h4 := List.mem_append_right _ (List.mem_append_right _ (List.mem_append_right _ (List.mem_append_right _ (List.mem_append_right _ (List.mem_append_right _ (List.mem_append_left _ (List.mem_of_getElem? (i := 32) rfl)))))))
theorem mw_h4_273 : Cond.fieldLink RX1 30 "ClassMill$Code" "framePlace" "[I" ∈ VS_h4 := List.mem_append_right _ (List.mem_append_right _ (List.mem_append_right _ (List.mem_append_right _ (List.mem_append_right _ (List.mem_append_right _ (List.mem_append_left _ (List.mem_of_getElem? (i := 33) rfl)))))))
theorem mw_h4_274 : Cond.code yX1_writeFrame cX1_writeFrame 6 none ∈ VS_h4 := List.mem_append_right _ (List.mem_append_right _ (List.mem_append_right _ (List.mem_append_right _ (List.mem_append_right _ (List.mem_append_right _ (List.mem_append_left _ (List.mem_of_getElem? (i := 34) rfl)))))))
theorem mw_h4_275 : Cond.methodLink RX1 127 yX1_writeFrame ∈ VS_h4 := List.mem_append_right _ (List.mem_append_right _ (List.mem_append_right _ (List.mem_append_right _ (List.mem_append_right _ (List.mem_append_right _ (List.mem_append_left _ (List.mem_of_getElem? (i := 35) rfl)))))))
theorem mw_h4_276 : Cond.instanceMethod yX1_writeFrame ∈ VS_h4 := List.mem_append_right _ (List.mem_append_right _ (List.mem_append_right _ (List.mem_append_right _ (List.mem_append_right _ (List.mem_append_right _ (List.mem_append_left _ (List.mem_of_getElem? (i := 36) rfl)))))))
theorem mw_h4_277 : Cond.selects RX1 yX1_writeFrame yX1_writeFrame ∈ VS_h4 := List.mem_append_right _ (List.mem_append_right _ (List.mem_append_right _ (List.mem_append_right _ (List.mem_append_right _ (List.mem_append_right _ (List.mem_append_left _ (List.mem_of_getElem? (i := 37) rfl)))))))
theorem mw_h4_278 : Cond.fieldLink RX10 54 "ClassMill$Values" "own" "I" ∈ VS_h4 := List.mem_append_right _ (List.mem_append_right _ (List.mem_append_right _ (List.mem_append_right _ (List.mem_append_right _ (List.mem_append_right _ (List.mem_append_left _ (List.mem_of_getElem? (i := 38) rfl)))))))
theorem mw_h4_279 : Cond.fieldLink RX10 58 "ClassMill$Values" "fixed" "Z" ∈ VS_h4 := List.mem_append_right _ (List.mem_append_right _ (List.mem_append_right _ (List.mem_append_right _ (List.mem_append_right _ (List.mem_append_right _ (List.mem_append_left _ (List.mem_of_getElem? (i := 39) rfl)))))))
theorem mw_h4_280 : Cond.fieldLink RX10 62 "ClassMill$Values" "alone" "I" ∈ VS_h4 := List.mem_append_right _ (List.mem_append_right _ (List.mem_append_right _ (List.mem_append_right _ (List.mem_append_right _ (List.mem_append_right _ (List.mem_append_right _ (List.mem_append_left _ (List.mem_of_getElem? (i := 0) rfl))))))))
theorem mw_h4_281 : Cond.fieldLink RX10 65 "ClassMill$Values" "open" "I" ∈ VS_h4 := List.mem_append_right _ (List.mem_append_right _ (List.mem_append_right _ (List.mem_append_right _ (List.mem_append_right _ (List.mem_append_right _ (List.mem_append_right _ (List.mem_append_left _ (List.mem_of_getElem? (i := 1) rfl))))))))
theorem mw_h4_282 : Cond.code yX4_isReference cX4_isReference 1 (some .boolean) ∈ VS_h4 := List.mem_append_right _ (List.mem_append_right _ (List.mem_append_right _ (List.mem_append_right _ (List.mem_append_right _ (List.mem_append_right _ (List.mem_append_right _ (List.mem_append_left _ (List.mem_of_getElem? (i := 2) rfl))))))))
theorem mw_h4_283 : Cond.methodLink RX10 136 yX4_isReference ∈ VS_h4 := List.mem_append_right _ (List.mem_append_right _ (List.mem_append_right _ (List.mem_append_right _ (List.mem_append_right _ (List.mem_append_right _ (List.mem_append_right _ (List.mem_append_left _ (List.mem_of_getElem? (i := 3) rfl))))))))
theorem mw_h4_284 : Cond.static yX4_isReference ∈ VS_h4 := List.mem_append_right _ (List.mem_append_right _ (List.mem_append_right _ (List.mem_append_right _ (List.mem_append_right _ (List.mem_append_right _ (List.mem_append_right _ (List.mem_append_left _ (List.mem_of_getElem? (i := 4) rfl))))))))
theorem mw_h4_285 : Cond.methodLink RX10 143 yX4_isNumber ∈ VS_h4 := List.mem_append_right _ (List.mem_append_right _ (List.mem_append_right _ (List.mem_append_right _ (List.mem_append_right _ (List.mem_append_right _ (List.mem_append_right _ (List.mem_append_left _ (List.mem_of_getElem? (i := 5) rfl))))))))
theorem mw_h4_286 : Cond.code yX4_oneFits cX4_oneFits 3 (some .boolean) ∈ VS_h4 := List.mem_append_right _ (List.mem_append_right _ (List.mem_append_right _ (List.mem_append_right _ (List.mem_append_right _ (List.mem_append_right _ (List.mem_append_right _ (List.mem_append_left _ (List.mem_of_getElem? (i := 6) rfl))))))))
theorem mw_h4_287 : Cond.methodLink RX10 140 yX4_oneFits ∈ VS_h4 := List.mem_append_right _ (List.mem_append_right _ (List.mem_append_right _ (List.mem_append_right _ (List.mem_append_right _ (List.mem_append_right _ (List.mem_append_right _ (List.mem_append_left _ (List.mem_of_getElem? (i := 7) rfl))))))))
theorem mw_h4_288 : Cond.instanceMethod yX4_oneFits ∈ VS_h4 := List.mem_append_right _ (List.mem_append_right _ (List.mem_append_right _ (List.mem_append_right _ (List.mem_append_right _ (List.mem_append_right _ (List.mem_append_right _ (List.mem_append_left _ (List.mem_of_getElem? (i := 8) rfl))))))))
theorem mw_h4_289 : Cond.selects RX4 yX4_oneFits yX4_oneFits ∈ VS_h4 := List.mem_append_right _ (List.mem_append_right _ (List.mem_append_right _ (List.mem_append_right _ (List.mem_append_right _ (List.mem_append_right _ (List.mem_append_right _ (List.mem_append_left _ (List.mem_of_getElem? (i := 9) rfl))))))))
theorem mw_h4_290 : Cond.fieldLink RX10 45 "ClassMill$Values" "kin" "LClassMill$Kin;" ∈ VS_h4 := List.mem_append_right _ (List.mem_append_right _ (List.mem_append_right _ (List.mem_append_right _ (List.mem_append_right _ (List.mem_append_right _ (List.mem_append_right _ (List.mem_append_left _ (List.mem_of_getElem? (i := 10) rfl))))))))
theorem mw_h4_291 : Cond.methodLink RX10 93 yX9_kind ∈ VS_h4 := List.mem_append_right _ (List.mem_append_right _ (List.mem_append_right _ (List.mem_append_right _ (List.mem_append_right _ (List.mem_append_right _ (List.mem_append_right _ (List.mem_append_left _ (List.mem_of_getElem? (i := 11) rfl))))))))
theorem mw_h4_292 : Cond.code yX9_level cX9_level 1 (some .int) ∈ VS_h4 := List.mem_append_right _ (List.mem_append_right _ (List.mem_append_right _ (List.mem_append_right _ (List.mem_append_right _ (List.mem_append_right _ (List.mem_append_right _ (List.mem_append_left _ (List.mem_of_getElem? (i := 12) rfl))))))))
theorem mw_h4_293 : Cond.methodLink RX10 97 yX9_level ∈ VS_h4 := List.mem_append_right _ (List.mem_append_right _ (List.mem_append_right _ (List.mem_append_right _ (List.mem_append_right _ (List.mem_append_right _ (List.mem_append_right _ (List.mem_append_left _ (List.mem_of_getElem? (i := 13) rfl))))))))
theorem mw_h4_294 : Cond.static yX9_level ∈ VS_h4 := List.mem_append_right _ (List.mem_append_right _ (List.mem_append_right _ (List.mem_append_right _ (List.mem_append_right _ (List.mem_append_right _ (List.mem_append_right _ (List.mem_append_left _ (List.mem_of_getElem? (i := 14) rfl))))))))
theorem mw_h4_295 : Cond.fieldLink RX10 15 "ClassMill$Values" "signs" "[I" ∈ VS_h4 := List.mem_append_right _ (List.mem_append_right _ (List.mem_append_right _ (List.mem_append_right _ (List.mem_append_right _ (List.mem_append_right _ (List.mem_append_right _ (List.mem_append_left _ (List.mem_of_getElem? (i := 15) rfl))))))))
theorem mw_h4_296 : Cond.methodLink RX10 165 yX9_tell ∈ VS_h4 := List.mem_append_right _ (List.mem_append_right _ (List.mem_append_right _ (List.mem_append_right _ (List.mem_append_right _ (List.mem_append_right _ (List.mem_append_right _ (List.mem_append_left _ (List.mem_of_getElem? (i := 16) rfl))))))))
theorem mw_h4_297 : Cond.fieldLink RX10 31 "ClassMill$Values" "text" "LClassMill$Text;" ∈ VS_h4 := List.mem_append_right _ (List.mem_append_right _ (List.mem_append_right _ (List.mem_append_right _ (List.mem_append_right _ (List.mem_append_right _ (List.mem_append_right _ (List.mem_append_left _ (List.mem_of_getElem? (i := 17) rfl))))))))
theorem mw_h4_298 : Cond.code yX10_wantType cX10_wantType 3 none ∈ VS_h4 := List.mem_append_right _ (List.mem_append_right _ (List.mem_append_right _ (List.mem_append_right _ (List.mem_append_right _ (List.mem_append_right _ (List.mem_append_right _ (List.mem_append_left _ (List.mem_of_getElem? (i := 18) rfl))))))))
theorem mw_h4_299 : Cond.methodLink RX10 80 yX10_wantType ∈ VS_h4 := List.mem_append_right _ (List.mem_append_right _ (List.mem_append_right _ (List.mem_append_right _ (List.mem_append_right _ (List.mem_append_right _ (List.mem_append_right _ (List.mem_append_left _ (List.mem_of_getElem? (i := 19) rfl))))))))
theorem mw_h4_300 : Cond.instanceMethod yX10_wantType ∈ VS_h4 := List.mem_append_right _ (List.mem_append_right _ (List.mem_append_right _ (List.mem_append_right _ (List.mem_append_right _ (List.mem_append_right _ (List.mem_append_right _ (List.mem_append_left _ (List.mem_of_getElem? (i := 20) rfl))))))))
theorem mw_h4_301 : Cond.selects RX10 yX10_wantType yX10_wantType ∈ VS_h4 := List.mem_append_right _ (List.mem_append_right _ (List.mem_append_right _ (List.mem_append_right _ (List.mem_append_right _ (List.mem_append_right _ (List.mem_append_right _ (List.mem_append_left _ (List.mem_of_getElem? (i := 21) rfl))))))))
theorem mw_h4_302 : Cond.initialized RX10 ∈ VS_h4 := List.mem_append_right _ (List.mem_append_right _ (List.mem_append_right _ (List.mem_append_right _ (List.mem_append_right _ (List.mem_append_right _ (List.mem_append_right _ (List.mem_append_left _ (List.mem_of_getElem? (i := 22) rfl))))))))
theorem mw_h4_303 : Cond.methodLink RX10 86 yX1_jump ∈ VS_h4 := List.mem_append_right _ (List.mem_append_right _ (List.mem_append_right _ (List.mem_append_right _ (List.mem_append_right _ (List.mem_append_right _ (List.mem_append_right _ (List.mem_append_left _ (List.mem_of_getElem? (i := 23) rfl))))))))
theorem mw_h4_304 : Cond.methodLink RX10 118 yX1_pop ∈ VS_h4 := List.mem_append_right _ (List.mem_append_right _ (List.mem_append_right _ (List.mem_append_right _ (List.mem_append_right _ (List.mem_append_right _ (List.mem_append_right _ (List.mem_append_left _ (List.mem_of_getElem? (i := 24) rfl))))))))
theorem mw_h4_305 : Cond.methodLink RX10 181 yX2_classAt ∈ VS_h4 := List.mem_append_right _ (List.mem_append_right _ (List.mem_append_right _ (List.mem_append_right _ (List.mem_append_right _ (List.mem_append_right _ (List.mem_append_right _ (List.mem_append_left _ (List.mem_of_getElem? (i := 25) rfl))))))))
theorem mw_h4_306 : Cond.fieldLink RX10 35 "ClassMill$Values" "heads" "LClassMill$Heads;" ∈ VS_h4 := List.mem_append_right _ (List.mem_append_right _ (List.mem_append_right _ (List.mem_append_right _ (List.mem_append_right _ (List.mem_append_right _ (List.mem_append_right _ (List.mem_append_left _ (List.mem_of_getElem? (i := 26) rfl))))))))
theorem mw_h4_307 : Cond.fieldLink RX10 72 "ClassMill$Text" "pos" "I" ∈ VS_h4 := List.mem_append_right _ (List.mem_append_right _ (List.mem_append_right _ (List.mem_append_right _ (List.mem_append_right _ (List.mem_append_right _ (List.mem_append_right _ (List.mem_append_left _ (List.mem_of_getElem? (i := 27) rfl))))))))
theorem mw_h4_308 : Cond.fieldLink RX10 75 "ClassMill$Values" "type" "I" ∈ VS_h4 := List.mem_append_right _ (List.mem_append_right _ (List.mem_append_right _ (List.mem_append_right _ (List.mem_append_right _ (List.mem_append_right _ (List.mem_append_right _ (List.mem_append_left _ (List.mem_of_getElem? (i := 28) rfl))))))))
theorem mw_h4_309 : Cond.methodLink RX10 130 yX1_push ∈ VS_h4 := List.mem_append_right _ (List.mem_append_right _ (List.mem_append_right _ (List.mem_append_right _ (List.mem_append_right _ (List.mem_append_right _ (List.mem_append_right _ (List.mem_append_left _ (List.mem_of_getElem? (i := 29) rfl))))))))
theorem mw_h4_310 : Cond.methodLink RX10 179 yX1_op_ ∈ VS_h4 := List.mem_append_right _ (List.mem_append_right _ (List.mem_append_right _ (List.mem_append_right _ (List.mem_append_right _ (List.mem_append_right _ (List.mem_append_right _ (List.mem_append_left _ (List.mem_of_getElem? (i := 30) rfl))))))))
theorem mw_h4_311 : Cond.methodLink RX10 162 yX1_op ∈ VS_h4 := List.mem_append_right _ (List.mem_append_right _ (List.mem_append_right _ (List.mem_append_right _ (List.mem_append_right _ (List.mem_append_right _ (List.mem_append_right _ (List.mem_append_left _ (List.mem_of_getElem? (i := 31) rfl))))))))
theorem mw_h4_312 : Cond.code yX10_wantKinOf cX10_wantKinOf 3 none ∈ VS_h4 := List.mem_append_right _ (List.mem_append_right _ (List.mem_append_right _ (List.mem_append_right _ (List.mem_append_right _ (List.mem_append_right _ (List.mem_append_right _ (List.mem_append_left _ (List.mem_of_getElem? (i := 32) rfl))))))))
theorem mw_h4_313 : Cond.methodLink RX10 171 yX10_wantKinOf ∈ VS_h4 := List.mem_append_right _ (List.mem_append_right _ (List.mem_append_right _ (List.mem_append_right _ (List.mem_append_right _ (List.mem_append_right _ (List.mem_append_right _ (List.mem_append_left _ (List.mem_of_getElem? (i := 33) rfl))))))))
theorem mw_h4_314 : Cond.instanceMethod yX10_wantKinOf ∈ VS_h4 := List.mem_append_right _ (List.mem_append_right _ (List.mem_append_right _ (List.mem_append_right _ (List.mem_append_right _ (List.mem_append_right _ (List.mem_append_right _ (List.mem_append_left _ (List.mem_of_getElem? (i := 34) rfl))))))))
theorem mw_h4_315 : Cond.selects RX10 yX10_wantKinOf yX10_wantKinOf ∈ VS_h4 := List.mem_append_right _ (List.mem_append_right _ (List.mem_append_right _ (List.mem_append_right _ (List.mem_append_right _ (List.mem_append_right _ (List.mem_append_right _ (List.mem_append_left _ (List.mem_of_getElem? (i := 35) rfl))))))))
theorem mw_h4_316 : Cond.methodLink RX10 174 yX6_classOf ∈ VS_h4 := List.mem_append_right _ (List.mem_append_right _ (List.mem_append_right _ (List.mem_append_right _ (List.mem_append_right _ (List.mem_append_right _ (List.mem_append_right _ (List.mem_append_left _ (List.mem_of_getElem? (i := 36) rfl))))))))
theorem mw_h4_317 : Cond.fieldLink RX10 133 "ClassMill$Values" "form" "I" ∈ VS_h4 := List.mem_append_right _ (List.mem_append_right _ (List.mem_append_right _ (List.mem_append_right _ (List.mem_append_right _ (List.mem_append_right _ (List.mem_append_right _ (List.mem_append_left _ (List.mem_of_getElem? (i := 37) rfl))))))))
theorem mw_h4_318 : Cond.fieldLink RX10 46 "ClassMill$Values" "code" "LClassMill$Code;" ∈ VS_h4 := List.mem_append_right _ (List.mem_append_right _ (List.mem_append_right _ (List.mem_append_right _ (List.mem_append_right _ (List.mem_append_right _ (List.mem_append_right _ (List.mem_append_left _ (List.mem_of_getElem? (i := 38) rfl))))))))
theorem mw_h4_319 : Cond.fieldLink RX10 50 "ClassMill$Values" "pool" "LClassMill$Pool;" ∈ VS_h4 := List.mem_append_right _ (List.mem_append_right _ (List.mem_append_right _ (List.mem_append_right _ (List.mem_append_right _ (List.mem_append_right _ (List.mem_append_right _ (List.mem_append_left _ (List.mem_of_getElem? (i := 39) rfl))))))))
theorem mw_h4_320 : Cond.code yX6_fieldOf cX6_fieldOf 5 (some .int) ∈ VS_h4 := List.mem_append_right _ (List.mem_append_right _ (List.mem_append_right _ (List.mem_append_right _ (List.mem_append_right _ (List.mem_append_right _ (List.mem_append_right _ (List.mem_append_right _ (List.mem_append_left _ (List.mem_of_getElem? (i := 0) rfl)))))))))
theorem mw_h4_321 : Cond.methodLink RX10 221 yX6_fieldOf ∈ VS_h4 := List.mem_append_right _ (List.mem_append_right _ (List.mem_append_right _ (List.mem_append_right _ (List.mem_append_right _ (List.mem_append_right _ (List.mem_append_right _ (List.mem_append_right _ (List.mem_append_left _ (List.mem_of_getElem? (i := 1) rfl)))))))))
theorem mw_h4_322 : Cond.instanceMethod yX6_fieldOf ∈ VS_h4 := List.mem_append_right _ (List.mem_append_right _ (List.mem_append_right _ (List.mem_append_right _ (List.mem_append_right _ (List.mem_append_right _ (List.mem_append_right _ (List.mem_append_right _ (List.mem_append_left _ (List.mem_of_getElem? (i := 2) rfl)))))))))
theorem mw_h4_323 : Cond.selects RX6 yX6_fieldOf yX6_fieldOf ∈ VS_h4 := List.mem_append_right _ (List.mem_append_right _ (List.mem_append_right _ (List.mem_append_right _ (List.mem_append_right _ (List.mem_append_right _ (List.mem_append_right _ (List.mem_append_right _ (List.mem_append_left _ (List.mem_of_getElem? (i := 3) rfl)))))))))
theorem mw_h4_324 : Cond.fieldLink RX10 215 "ClassMill$Values" "member" "I" ∈ VS_h4 := List.mem_append_right _ (List.mem_append_right _ (List.mem_append_right _ (List.mem_append_right _ (List.mem_append_right _ (List.mem_append_right _ (List.mem_append_right _ (List.mem_append_right _ (List.mem_append_left _ (List.mem_of_getElem? (i := 4) rfl)))))))))
theorem mw_h4_325 : Cond.fieldLink RX10 218 "ClassMill$Values" "owner" "I" ∈ VS_h4 := List.mem_append_right _ (List.mem_append_right _ (List.mem_append_right _ (List.mem_append_right _ (List.mem_append_right _ (List.mem_append_right _ (List.mem_append_right _ (List.mem_append_right _ (List.mem_append_left _ (List.mem_of_getElem? (i := 5) rfl)))))))))
theorem mw_h4_326 : Cond.methodLink RX10 224 yX9_kindAt ∈ VS_h4 := List.mem_append_right _ (List.mem_append_right _ (List.mem_append_right _ (List.mem_append_right _ (List.mem_append_right _ (List.mem_append_right _ (List.mem_append_right _ (List.mem_append_right _ (List.mem_append_left _ (List.mem_of_getElem? (i := 6) rfl)))))))))
theorem mw_h4_327 : Cond.methodLink RX10 227 yX9_valueAt ∈ VS_h4 := List.mem_append_right _ (List.mem_append_right _ (List.mem_append_right _ (List.mem_append_right _ (List.mem_append_right _ (List.mem_append_right _ (List.mem_append_right _ (List.mem_append_right _ (List.mem_append_left _ (List.mem_of_getElem? (i := 7) rfl)))))))))
theorem mw_h4_328 : Cond.code yX6_numberOf cX6_numberOf 2 (some .int) ∈ VS_h4 := List.mem_append_right _ (List.mem_append_right _ (List.mem_append_right _ (List.mem_append_right _ (List.mem_append_right _ (List.mem_append_right _ (List.mem_append_right _ (List.mem_append_right _ (List.mem_append_left _ (List.mem_of_getElem? (i := 8) rfl)))))))))
theorem mw_h4_329 : Cond.methodLink RX10 239 yX6_numberOf ∈ VS_h4 := List.mem_append_right _ (List.mem_append_right _ (List.mem_append_right _ (List.mem_append_right _ (List.mem_append_right _ (List.mem_append_right _ (List.mem_append_right _ (List.mem_append_right _ (List.mem_append_left _ (List.mem_of_getElem? (i := 9) rfl)))))))))
theorem mw_h4_330 : Cond.instanceMethod yX6_numberOf ∈ VS_h4 := List.mem_append_right _ (List.mem_append_right _ (List.mem_append_right _ (List.mem_append_right _ (List.mem_append_right _ (List.mem_append_right _ (List.mem_append_right _ (List.mem_append_right _ (List.mem_append_left _ (List.mem_of_getElem? (i := 10) rfl)))))))))
theorem mw_h4_331 : Cond.selects RX6 yX6_numberOf yX6_numberOf ∈ VS_h4 := List.mem_append_right _ (List.mem_append_right _ (List.mem_append_right _ (List.mem_append_right _ (List.mem_append_right _ (List.mem_append_right _ (List.mem_append_right _ (List.mem_append_right _ (List.mem_append_left _ (List.mem_of_getElem? (i := 11) rfl)))))))))
theorem mw_h4_332 : Cond.code yX10_give cX10_give 2 none ∈ VS_h4 := List.mem_append_right _ (List.mem_append_right _ (List.mem_append_right _ (List.mem_append_right _ (List.mem_append_right _ (List.mem_append_right _ (List.mem_append_right _ (List.mem_append_right _ (List.mem_append_left _ (List.mem_of_getElem? (i := 12) rfl)))))))))
theorem mw_h4_333 : Cond.methodLink RX10 233 yX10_give ∈ VS_h4 := List.mem_append_right _ (List.mem_append_right _ (List.mem_append_right _ (List.mem_append_right _ (List.mem_append_right _ (List.mem_append_right _ (List.mem_append_right _ (List.mem_append_right _ (List.mem_append_left _ (List.mem_of_getElem? (i := 13) rfl)))))))))
theorem mw_h4_334 : Cond.instanceMethod yX10_give ∈ VS_h4 := List.mem_append_right _ (List.mem_append_right _ (List.mem_append_right _ (List.mem_append_right _ (List.mem_append_right _ (List.mem_append_right _ (List.mem_append_right _ (List.mem_append_right _ (List.mem_append_left _ (List.mem_of_getElem? (i := 14) rfl)))))))))
theorem mw_h4_335 : Cond.selects RX10 yX10_give yX10_give ∈ VS_h4 := List.mem_append_right _ (List.mem_append_right _ (List.mem_append_right _ (List.mem_append_right _ (List.mem_append_right _ (List.mem_append_right _ (List.mem_append_right _ (List.mem_append_right _ (List.mem_append_left _ (List.mem_of_getElem? (i := 15) rfl)))))))))
theorem mw_h4_336 : Cond.code yX10_readNamedClass cX10_readNamedClass 4 (some .int) ∈ VS_h4 := List.mem_append_right _ (List.mem_append_right _ (List.mem_append_right _ (List.mem_append_right _ (List.mem_append_right _ (List.mem_append_right _ (List.mem_append_right _ (List.mem_append_right _ (List.mem_append_left _ (List.mem_of_getElem? (i := 16) rfl)))))))))
theorem mw_h4_337 : Cond.methodLink RX10 168 yX10_readNamedClass ∈ VS_h4 := List.mem_append_right _ (List.mem_append_right _ (List.mem_append_right _ (List.mem_append_right _ (List.mem_append_right _ (List.mem_append_right _ (List.mem_append_right _ (List.mem_append_right _ (List.mem_append_left _ (List.mem_of_getElem? (i := 17) rfl)))))))))
theorem mw_h4_338 : Cond.instanceMethod yX10_readNamedClass ∈ VS_h4 := List.mem_append_right _ (List.mem_append_right _ (List.mem_append_right _ (List.mem_append_right _ (List.mem_append_right _ (List.mem_append_right _ (List.mem_append_right _ (List.mem_append_right _ (List.mem_append_left _ (List.mem_of_getElem? (i := 18) rfl)))))))))
theorem mw_h4_339 : Cond.selects RX10 yX10_readNamedClass yX10_readNamedClass ∈ VS_h4 := List.mem_append_right _ (List.mem_append_right _ (List.mem_append_right _ (List.mem_append_right _ (List.mem_append_right _ (List.mem_append_right _ (List.mem_append_right _ (List.mem_append_right _ (List.mem_append_left _ (List.mem_of_getElem? (i := 19) rfl)))))))))
theorem mw_h4_340 : Cond.code yX1_localOf cX1_localOf 3 (some .int) ∈ VS_h4 := List.mem_append_right _ (List.mem_append_right _ (List.mem_append_right _ (List.mem_append_right _ (List.mem_append_right _ (List.mem_append_right _ (List.mem_append_right _ (List.mem_append_right _ (List.mem_append_left _ (List.mem_of_getElem? (i := 20) rfl)))))))))
theorem mw_h4_341 : Cond.methodLink RX10 258 yX1_localOf ∈ VS_h4 := List.mem_append_right _ (List.mem_append_right _ (List.mem_append_right _ (List.mem_append_right _ (List.mem_append_right _ (List.mem_append_right _ (List.mem_append_right _ (List.mem_append_right _ (List.mem_append_left _ (List.mem_of_getElem? (i := 21) rfl)))))))))
theorem mw_h4_342 : Cond.instanceMethod yX1_localOf ∈ VS_h4 := List.mem_append_right _ (List.mem_append_right _ (List.mem_append_right _ (List.mem_append_right _ (List.mem_append_right _ (List.mem_append_right _ (List.mem_append_right _ (List.mem_append_right _ (List.mem_append_left _ (List.mem_of_getElem? (i := 22) rfl)))))))))
theorem mw_h4_343 : Cond.selects RX1 yX1_localOf yX1_localOf ∈ VS_h4 := List.mem_append_right _ (List.mem_append_right _ (List.mem_append_right _ (List.mem_append_right _ (List.mem_append_right _ (List.mem_append_right _ (List.mem_append_right _ (List.mem_append_right _ (List.mem_append_left _ (List.mem_of_getElem? (i := 23) rfl)))))))))
theorem mw_h4_344 : Cond.methodLink RX10 271 yX2_methodOf ∈ VS_h4 := List.mem_append_right _ (List.mem_append_right _ (List.mem_append_right _ (List.mem_append_right _ (List.mem_append_right _ (List.mem_append_right _ (List.mem_append_right _ (List.mem_append_right _ (List.mem_append_left _ (List.mem_of_getElem? (i := 24) rfl)))))))))
theorem mw_h4_345 : Cond.code yX2_typeOfField cX2_typeOfField 2 (some .int) ∈ VS_h4 := List.mem_append_right _ (List.mem_append_right _ (List.mem_append_right _ (List.mem_append_right _ (List.mem_append_right _ (List.mem_append_right _ (List.mem_append_right _ (List.mem_append_right _ (List.mem_append_left _ (List.mem_of_getElem? (i := 25) rfl)))))))))
theorem mw_h4_346 : Cond.methodLink RX10 274 yX2_typeOfField ∈ VS_h4 := List.mem_append_right _ (List.mem_append_right _ (List.mem_append_right _ (List.mem_append_right _ (List.mem_append_right _ (List.mem_append_right _ (List.mem_append_right _ (List.mem_append_right _ (List.mem_append_left _ (List.mem_of_getElem? (i := 26) rfl)))))))))
theorem mw_h4_347 : Cond.instanceMethod yX2_typeOfField ∈ VS_h4 := List.mem_append_right _ (List.mem_append_right _ (List.mem_append_right _ (List.mem_append_right _ (List.mem_append_right _ (List.mem_append_right _ (List.mem_append_right _ (List.mem_append_right _ (List.mem_append_left _ (List.mem_of_getElem? (i := 27) rfl)))))))))
theorem mw_h4_348 : Cond.selects RX2 yX2_typeOfField yX2_typeOfField ∈ VS_h4 := List.mem_append_right _ (List.mem_append_right _ (List.mem_append_right _ (List.mem_append_right _ (List.mem_append_right _ (List.mem_append_right _ (List.mem_append_right _ (List.mem_append_right _ (List.mem_append_left _ (List.mem_of_getElem? (i := 28) rfl)))))))))
theorem mw_h4_349 : Cond.methodLink RX10 242 yX4_isArray ∈ VS_h4 := List.mem_append_right _ (List.mem_append_right _ (List.mem_append_right _ (List.mem_append_right _ (List.mem_append_right _ (List.mem_append_right _ (List.mem_append_right _ (List.mem_append_right _ (List.mem_append_left _ (List.mem_of_getElem? (i := 29) rfl)))))))))
theorem mw_h4_350 : Cond.methodLink RX10 277 yX4_isClass ∈ VS_h4 := List.mem_append_right _ (List.mem_append_right _ (List.mem_append_right _ (List.mem_append_right _ (List.mem_append_right _ (List.mem_append_right _ (List.mem_append_right _ (List.mem_append_right _ (List.mem_append_left _ (List.mem_of_getElem? (i := 30) rfl)))))))))
theorem mw_h4_351 : Cond.code yX2_fieldOf cX2_fieldOf 6 (some .int) ∈ VS_h4 := List.mem_append_right _ (List.mem_append_right _ (List.mem_append_right _ (List.mem_append_right _ (List.mem_append_right _ (List.mem_append_right _ (List.mem_append_right _ (List.mem_append_right _ (List.mem_append_left _ (List.mem_of_getElem? (i := 31) rfl)))))))))
theorem mw_h4_352 : Cond.methodLink RX10 261 yX2_fieldOf ∈ VS_h4 := List.mem_append_right _ (List.mem_append_right _ (List.mem_append_right _ (List.mem_append_right _ (List.mem_append_right _ (List.mem_append_right _ (List.mem_append_right _ (List.mem_append_right _ (List.mem_append_left _ (List.mem_of_getElem? (i := 32) rfl)))))))))
theorem mw_h4_353 : Cond.instanceMethod yX2_fieldOf ∈ VS_h4 := List.mem_append_right _ (List.mem_append_right _ (List.mem_append_right _ (List.mem_append_right _ (List.mem_append_right _ (List.mem_append_right _ (List.mem_append_right _ (List.mem_append_right _ (List.mem_append_left _ (List.mem_of_getElem? (i := 33) rfl)))))))))
theorem mw_h4_354 : Cond.selects RX2 yX2_fieldOf yX2_fieldOf ∈ VS_h4 := List.mem_append_right _ (List.mem_append_right _ (List.mem_append_right _ (List.mem_append_right _ (List.mem_append_right _ (List.mem_append_right _ (List.mem_append_right _ (List.mem_append_right _ (List.mem_append_left _ (List.mem_of_getElem? (i := 34) rfl)))))))))
theorem mw_h4_355 : Cond.code yX10_nameField cX10_nameField 3 none ∈ VS_h4 := List.mem_append_right _ (List.mem_append_right _ (List.mem_append_right _ (List.mem_append_right _ (List.mem_append_right _ (List.mem_append_right _ (List.mem_append_right _ (List.mem_append_right _ (List.mem_append_left _ (List.mem_of_getElem? (i := 35) rfl)))))))))
theorem mw_h4_356 : Cond.methodLink RX10 265 yX10_nameField ∈ VS_h4 := List.mem_append_right _ (List.mem_append_right _ (List.mem_append_right _ (List.mem_append_right _ (List.mem_append_right _ (List.mem_append_right _ (List.mem_append_right _ (List.mem_append_right _ (List.mem_append_left _ (List.mem_of_getElem? (i := 36) rfl)))))))))
theorem mw_h4_357 : Cond.instanceMethod yX10_nameField ∈ VS_h4 := List.mem_append_right _ (List.mem_append_right _ (List.mem_append_right _ (List.mem_append_right _ (List.mem_append_right _ (List.mem_append_right _ (List.mem_append_right _ (List.mem_append_right _ (List.mem_append_left _ (List.mem_of_getElem? (i := 37) rfl)))))))))
theorem mw_h4_358 : Cond.selects RX10 yX10_nameField yX10_nameField ∈ VS_h4 := List.mem_append_right _ (List.mem_append_right _ (List.mem_append_right _ (List.mem_append_right _ (List.mem_append_right _ (List.mem_append_right _ (List.mem_append_right _ (List.mem_append_right _ (List.mem_append_left _ (List.mem_of_getElem? (i := 38) rfl)))))))))
theorem mw_h4_359 : Cond.methodLink RX10 251 yX2_isFixed ∈ VS_h4 := List.mem_append_right _ (List.mem_append_right _ (List.mem_append_right _ (List.mem_append_right _ (List.mem_append_right _ (List.mem_append_right _ (List.mem_append_right _ (List.mem_append_right _ (List.mem_append_left _ (List.mem_of_getElem? (i := 39) rfl)))))))))
theorem mw_h4_360 : Cond.code yX6_methodOf cX6_methodOf 5 (some .int) ∈ VS_h4 := List.mem_append_right _ (List.mem_append_right _ (List.mem_append_right _ (List.mem_append_right _ (List.mem_append_right _ (List.mem_append_right _ (List.mem_append_right _ (List.mem_append_right _ (List.mem_append_right _ (List.mem_append_left _ (List.mem_of_getElem? (i := 0) rfl))))))))))
theorem mw_h4_361 : Cond.methodLink RX10 289 yX6_methodOf ∈ VS_h4 := List.mem_append_right _ (List.mem_append_right _ (List.mem_append_right _ (List.mem_append_right _ (List.mem_append_right _ (List.mem_append_right _ (List.mem_append_right _ (List.mem_append_right _ (List.mem_append_right _ (List.mem_append_left _ (List.mem_of_getElem? (i := 1) rfl))))))))))
theorem mw_h4_362 : Cond.instanceMethod yX6_methodOf ∈ VS_h4 := List.mem_append_right _ (List.mem_append_right _ (List.mem_append_right _ (List.mem_append_right _ (List.mem_append_right _ (List.mem_append_right _ (List.mem_append_right _ (List.mem_append_right _ (List.mem_append_right _ (List.mem_append_left _ (List.mem_of_getElem? (i := 2) rfl))))))))))
theorem mw_h4_363 : Cond.selects RX6 yX6_methodOf yX6_methodOf ∈ VS_h4 := List.mem_append_right _ (List.mem_append_right _ (List.mem_append_right _ (List.mem_append_right _ (List.mem_append_right _ (List.mem_append_right _ (List.mem_append_right _ (List.mem_append_right _ (List.mem_append_right _ (List.mem_append_left _ (List.mem_of_getElem? (i := 3) rfl))))))))))
theorem mw_h4_364 : Cond.code yX2_resultOf cX2_resultOf 2 (some .int) ∈ VS_h4 := List.mem_append_right _ (List.mem_append_right _ (List.mem_append_right _ (List.mem_append_right _ (List.mem_append_right _ (List.mem_append_right _ (List.mem_append_right _ (List.mem_append_right _ (List.mem_append_right _ (List.mem_append_left _ (List.mem_of_getElem? (i := 4) rfl))))))))))
theorem mw_h4_365 : Cond.methodLink RX10 290 yX2_resultOf ∈ VS_h4 := List.mem_append_right _ (List.mem_append_right _ (List.mem_append_right _ (List.mem_append_right _ (List.mem_append_right _ (List.mem_append_right _ (List.mem_append_right _ (List.mem_append_right _ (List.mem_append_right _ (List.mem_append_left _ (List.mem_of_getElem? (i := 5) rfl))))))))))
theorem mw_h4_366 : Cond.instanceMethod yX2_resultOf ∈ VS_h4 := List.mem_append_right _ (List.mem_append_right _ (List.mem_append_right _ (List.mem_append_right _ (List.mem_append_right _ (List.mem_append_right _ (List.mem_append_right _ (List.mem_append_right _ (List.mem_append_right _ (List.mem_append_left _ (List.mem_of_getElem? (i := 6) rfl))))))))))
theorem mw_h4_367 : Cond.selects RX2 yX2_resultOf yX2_resultOf ∈ VS_h4 := List.mem_append_right _ (List.mem_append_right _ (List.mem_append_right _ (List.mem_append_right _ (List.mem_append_right _ (List.mem_append_right _ (List.mem_append_right _ (List.mem_append_right _ (List.mem_append_right _ (List.mem_append_left _ (List.mem_of_getElem? (i := 7) rfl))))))))))
theorem mw_h4_368 : Cond.fieldLink RX10 19 "ClassMill$Values" "signAt" "[I" ∈ VS_h4 := List.mem_append_right _ (List.mem_append_right _ (List.mem_append_right _ (List.mem_append_right _ (List.mem_append_right _ (List.mem_append_right _ (List.mem_append_right _ (List.mem_append_right _ (List.mem_append_right _ (List.mem_append_left _ (List.mem_of_getElem? (i := 8) rfl))))))))))
theorem mw_h4_369 : Cond.fieldLink RX10 22 "ClassMill$Values" "leftFirst" "[I" ∈ VS_h4 := List.mem_append_right _ (List.mem_append_right _ (List.mem_append_right _ (List.mem_append_right _ (List.mem_append_right _ (List.mem_append_right _ (List.mem_append_right _ (List.mem_append_right _ (List.mem_append_right _ (List.mem_append_left _ (List.mem_of_getElem? (i := 9) rfl))))))))))
theorem mw_h4_370 : Cond.fieldLink RX10 146 "ClassMill$Values" "first" "I" ∈ VS_h4 := List.mem_append_right _ (List.mem_append_right _ (List.mem_append_right _ (List.mem_append_right _ (List.mem_append_right _ (List.mem_append_right _ (List.mem_append_right _ (List.mem_append_right _ (List.mem_append_right _ (List.mem_append_left _ (List.mem_of_getElem? (i := 10) rfl))))))))))
theorem mw_h4_371 : Cond.fieldLink RX10 25 "ClassMill$Values" "leftType" "[I" ∈ VS_h4 := List.mem_append_right _ (List.mem_append_right _ (List.mem_append_right _ (List.mem_append_right _ (List.mem_append_right _ (List.mem_append_right _ (List.mem_append_right _ (List.mem_append_right _ (List.mem_append_right _ (List.mem_append_left _ (List.mem_of_getElem? (i := 11) rfl))))))))))
theorem mw_h4_372 : Cond.fieldLink RX10 28 "ClassMill$Values" "leftJump" "[I" ∈ VS_h4 := List.mem_append_right _ (List.mem_append_right _ (List.mem_append_right _ (List.mem_append_right _ (List.mem_append_right _ (List.mem_append_right _ (List.mem_append_right _ (List.mem_append_right _ (List.mem_append_right _ (List.mem_append_left _ (List.mem_of_getElem? (i := 12) rfl))))))))))
theorem mw_h4_373 : Cond.code yX10_readNumber cX10_readNumber 2 none ∈ VS_h4 := List.mem_append_right _ (List.mem_append_right _ (List.mem_append_right _ (List.mem_append_right _ (List.mem_append_right _ (List.mem_append_right _ (List.mem_append_right _ (List.mem_append_right _ (List.mem_append_right _ (List.mem_append_left _ (List.mem_of_getElem? (i := 13) rfl))))))))))
theorem mw_h4_374 : Cond.methodLink RX10 230 yX10_readNumber ∈ VS_h4 := List.mem_append_right _ (List.mem_append_right _ (List.mem_append_right _ (List.mem_append_right _ (List.mem_append_right _ (List.mem_append_right _ (List.mem_append_right _ (List.mem_append_right _ (List.mem_append_right _ (List.mem_append_left _ (List.mem_of_getElem? (i := 14) rfl))))))))))
theorem mw_h4_375 : Cond.instanceMethod yX10_readNumber ∈ VS_h4 := List.mem_append_right _ (List.mem_append_right _ (List.mem_append_right _ (List.mem_append_right _ (List.mem_append_right _ (List.mem_append_right _ (List.mem_append_right _ (List.mem_append_right _ (List.mem_append_right _ (List.mem_append_left _ (List.mem_of_getElem? (i := 15) rfl))))))))))
theorem mw_h4_376 : Cond.selects RX10 yX10_readNumber yX10_readNumber ∈ VS_h4 := List.mem_append_right _ (List.mem_append_right _ (List.mem_append_right _ (List.mem_append_right _ (List.mem_append_right _ (List.mem_append_right _ (List.mem_append_right _ (List.mem_append_right _ (List.mem_append_right _ (List.mem_append_left _ (List.mem_of_getElem? (i := 16) rfl))))))))))
theorem mw_h4_377 : Cond.code yX10_giveThis cX10_giveThis 2 none ∈ VS_h4 := List.mem_append_right _ (List.mem_append_right _ (List.mem_append_right _ (List.mem_append_right _ (List.mem_append_right _ (List.mem_append_right _ (List.mem_append_right _ (List.mem_append_right _ (List.mem_append_right _ (List.mem_append_left _ (List.mem_of_getElem? (i := 17) rfl))))))))))
theorem mw_h4_378 : Cond.methodLink RX10 236 yX10_giveThis ∈ VS_h4 := List.mem_append_right _ (List.mem_append_right _ (List.mem_append_right _ (List.mem_append_right _ (List.mem_append_right _ (List.mem_append_right _ (List.mem_append_right _ (List.mem_append_right _ (List.mem_append_right _ (List.mem_append_left _ (List.mem_of_getElem? (i := 18) rfl))))))))))
theorem mw_h4_379 : Cond.instanceMethod yX10_giveThis ∈ VS_h4 := List.mem_append_right _ (List.mem_append_right _ (List.mem_append_right _ (List.mem_append_right _ (List.mem_append_right _ (List.mem_append_right _ (List.mem_append_right _ (List.mem_append_right _ (List.mem_append_right _ (List.mem_append_left _ (List.mem_of_getElem? (i := 19) rfl))))))))))
theorem mw_h4_380 : Cond.selects RX10 yX10_giveThis yX10_giveThis ∈ VS_h4 := List.mem_append_right _ (List.mem_append_right _ (List.mem_append_right _ (List.mem_append_right _ (List.mem_append_right _ (List.mem_append_right _ (List.mem_append_right _ (List.mem_append_right _ (List.mem_append_right _ (List.mem_append_left _ (List.mem_of_getElem? (i := 20) rfl))))))))))
theorem mw_h4_381 : Cond.code yX10_isCallBehindPoint cX10_isCallBehindPoint 2 (some .boolean) ∈ VS_h4 := List.mem_append_right _ (List.mem_append_right _ (List.mem_append_right _ (List.mem_append_right _ (List.mem_append_right _ (List.mem_append_right _ (List.mem_append_right _ (List.mem_append_right _ (List.mem_append_right _ (List.mem_append_left _ (List.mem_of_getElem? (i := 21) rfl))))))))))
theorem mw_h4_382 : Cond.methodLink RX10 268 yX10_isCallBehindPoint ∈ VS_h4 := List.mem_append_right _ (List.mem_append_right _ (List.mem_append_right _ (List.mem_append_right _ (List.mem_append_right _ (List.mem_append_right _ (List.mem_append_right _ (List.mem_append_right _ (List.mem_append_right _ (List.mem_append_left _ (List.mem_of_getElem? (i := 22) rfl))))))))))
theorem mw_h4_383 : Cond.instanceMethod yX10_isCallBehindPoint ∈ VS_h4 := List.mem_append_right _ (List.mem_append_right _ (List.mem_append_right _ (List.mem_append_right _ (List.mem_append_right _ (List.mem_append_right _ (List.mem_append_right _ (List.mem_append_right _ (List.mem_append_right _ (List.mem_append_left _ (List.mem_of_getElem? (i := 23) rfl))))))))))
theorem mw_h4_384 : Cond.selects RX10 yX10_isCallBehindPoint yX10_isCallBehindPoint ∈ VS_h4 := List.mem_append_right _ (List.mem_append_right _ (List.mem_append_right _ (List.mem_append_right _ (List.mem_append_right _ (List.mem_append_right _ (List.mem_append_right _ (List.mem_append_right _ (List.mem_append_right _ (List.mem_append_left _ (List.mem_of_getElem? (i := 24) rfl))))))))))
theorem mw_h4_385 : Cond.code yX10_methodNamed cX10_methodNamed 4 (some .int) ∈ VS_h4 := List.mem_append_right _ (List.mem_append_right _ (List.mem_append_right _ (List.mem_append_right _ (List.mem_append_right _ (List.mem_append_right _ (List.mem_append_right _ (List.mem_append_right _ (List.mem_append_right _ (List.mem_append_left _ (List.mem_of_getElem? (i := 25) rfl))))))))))
theorem mw_h4_386 : Cond.methodLink RX10 248 yX10_methodNamed ∈ VS_h4 := List.mem_append_right _ (List.mem_append_right _ (List.mem_append_right _ (List.mem_append_right _ (List.mem_append_right _ (List.mem_append_right _ (List.mem_append_right _ (List.mem_append_right _ (List.mem_append_right _ (List.mem_append_left _ (List.mem_of_getElem? (i := 26) rfl))))))))))
theorem mw_h4_387 : Cond.instanceMethod yX10_methodNamed ∈ VS_h4 := List.mem_append_right _ (List.mem_append_right _ (List.mem_append_right _ (List.mem_append_right _ (List.mem_append_right _ (List.mem_append_right _ (List.mem_append_right _ (List.mem_append_right _ (List.mem_append_right _ (List.mem_append_left _ (List.mem_of_getElem? (i := 27) rfl))))))))))
theorem mw_h4_388 : Cond.selects RX10 yX10_methodNamed yX10_methodNamed ∈ VS_h4 := List.mem_append_right _ (List.mem_append_right _ (List.mem_append_right _ (List.mem_append_right _ (List.mem_append_right _ (List.mem_append_right _ (List.mem_append_right _ (List.mem_append_right _ (List.mem_append_right _ (List.mem_append_left _ (List.mem_of_getElem? (i := 28) rfl))))))))))
theorem mw_h4_389 : Cond.code yX10_closeCall cX10_closeCall 4 none ∈ VS_h4 := List.mem_append_right _ (List.mem_append_right _ (List.mem_append_right _ (List.mem_append_right _ (List.mem_append_right _ (List.mem_append_right _ (List.mem_append_right _ (List.mem_append_right _ (List.mem_append_right _ (List.mem_append_left _ (List.mem_of_getElem? (i := 29) rfl))))))))))
theorem mw_h4_390 : Cond.methodLink RX10 293 yX10_closeCall ∈ VS_h4 := List.mem_append_right _ (List.mem_append_right _ (List.mem_append_right _ (List.mem_append_right _ (List.mem_append_right _ (List.mem_append_right _ (List.mem_append_right _ (List.mem_append_right _ (List.mem_append_right _ (List.mem_append_left _ (List.mem_of_getElem? (i := 30) rfl))))))))))
theorem mw_h4_391 : Cond.instanceMethod yX10_closeCall ∈ VS_h4 := List.mem_append_right _ (List.mem_append_right _ (List.mem_append_right _ (List.mem_append_right _ (List.mem_append_right _ (List.mem_append_right _ (List.mem_append_right _ (List.mem_append_right _ (List.mem_append_right _ (List.mem_append_left _ (List.mem_of_getElem? (i := 31) rfl))))))))))
theorem mw_h4_392 : Cond.selects RX10 yX10_closeCall yX10_closeCall ∈ VS_h4 := List.mem_append_right _ (List.mem_append_right _ (List.mem_append_right _ (List.mem_append_right _ (List.mem_append_right _ (List.mem_append_right _ (List.mem_append_right _ (List.mem_append_right _ (List.mem_append_right _ (List.mem_append_left _ (List.mem_of_getElem? (i := 32) rfl))))))))))
theorem mw_h4_393 : Cond.methodLink RX10 286 yX2_parametersOf ∈ VS_h4 := List.mem_append_right _ (List.mem_append_right _ (List.mem_append_right _ (List.mem_append_right _ (List.mem_append_right _ (List.mem_append_right _ (List.mem_append_right _ (List.mem_append_right _ (List.mem_append_right _ (List.mem_append_left _ (List.mem_of_getElem? (i := 33) rfl))))))))))
theorem mw_h4_394 : Cond.fieldLink RX0 65 "ClassMill$Bodies" "muchAt" "I" ∈ VS_h4 := List.mem_append_right _ (List.mem_append_right _ (List.mem_append_right _ (List.mem_append_right _ (List.mem_append_right _ (List.mem_append_right _ (List.mem_append_right _ (List.mem_append_right _ (List.mem_append_right _ (List.mem_append_left _ (List.mem_of_getElem? (i := 34) rfl))))))))))
theorem mw_h4_395 : Cond.methodLink RX0 69 yX9_tell ∈ VS_h4 := List.mem_append_right _ (List.mem_append_right _ (List.mem_append_right _ (List.mem_append_right _ (List.mem_append_right _ (List.mem_append_right _ (List.mem_append_right _ (List.mem_append_right _ (List.mem_append_right _ (List.mem_append_left _ (List.mem_of_getElem? (i := 35) rfl))))))))))
theorem mw_h4_396 : Cond.fieldLink RX0 34 "ClassMill$Bodies" "text" "LClassMill$Text;" ∈ VS_h4 := List.mem_append_right _ (List.mem_append_right _ (List.mem_append_right _ (List.mem_append_right _ (List.mem_append_right _ (List.mem_append_right _ (List.mem_append_right _ (List.mem_append_right _ (List.mem_append_right _ (List.mem_append_left _ (List.mem_of_getElem? (i := 36) rfl))))))))))
theorem mw_h4_397 : Cond.code yX6_beginClass cX6_beginClass 5 none ∈ VS_h4 := List.mem_append_right _ (List.mem_append_right _ (List.mem_append_right _ (List.mem_append_right _ (List.mem_append_right _ (List.mem_append_right _ (List.mem_append_right _ (List.mem_append_right _ (List.mem_append_right _ (List.mem_append_left _ (List.mem_of_getElem? (i := 37) rfl))))))))))
theorem mw_h4_398 : Cond.methodLink RX0 73 yX6_beginClass ∈ VS_h4 := List.mem_append_right _ (List.mem_append_right _ (List.mem_append_right _ (List.mem_append_right _ (List.mem_append_right _ (List.mem_append_right _ (List.mem_append_right _ (List.mem_append_right _ (List.mem_append_right _ (List.mem_append_left _ (List.mem_of_getElem? (i := 38) rfl))))))))))
theorem mw_h4_399 : Cond.instanceMethod yX6_beginClass ∈ VS_h4 := List.mem_append_right _ (List.mem_append_right _ (List.mem_append_right _ (List.mem_append_right _ (List.mem_append_right _ (List.mem_append_right _ (List.mem_append_right _ (List.mem_append_right _ (List.mem_append_right _ (List.mem_append_left _ (List.mem_of_getElem? (i := 39) rfl))))))))))
theorem mw_h4_400 : Cond.selects RX6 yX6_beginClass yX6_beginClass ∈ VS_h4 := List.mem_append_right _ (List.mem_append_right _ (List.mem_append_right _ (List.mem_append_right _ (List.mem_append_right _ (List.mem_append_right _ (List.mem_append_right _ (List.mem_append_right _ (List.mem_append_right _ (List.mem_append_right _ (List.mem_append_left _ (List.mem_of_getElem? (i := 0) rfl)))))))))))
theorem mw_h4_401 : Cond.fieldLink RX0 52 "ClassMill$Bodies" "pool" "LClassMill$Pool;" ∈ VS_h4 := List.mem_append_right _ (List.mem_append_right _ (List.mem_append_right _ (List.mem_append_right _ (List.mem_append_right _ (List.mem_append_right _ (List.mem_append_right _ (List.mem_append_right _ (List.mem_append_right _ (List.mem_append_right _ (List.mem_append_left _ (List.mem_of_getElem? (i := 1) rfl)))))))))))
theorem mw_h4_402 : Cond.code yX6_isTooMuch cX6_isTooMuch 1 (some .boolean) ∈ VS_h4 := List.mem_append_right _ (List.mem_append_right _ (List.mem_append_right _ (List.mem_append_right _ (List.mem_append_right _ (List.mem_append_right _ (List.mem_append_right _ (List.mem_append_right _ (List.mem_append_right _ (List.mem_append_right _ (List.mem_append_left _ (List.mem_of_getElem? (i := 2) rfl)))))))))))
theorem mw_h4_403 : Cond.methodLink RX0 77 yX6_isTooMuch ∈ VS_h4 := List.mem_append_right _ (List.mem_append_right _ (List.mem_append_right _ (List.mem_append_right _ (List.mem_append_right _ (List.mem_append_right _ (List.mem_append_right _ (List.mem_append_right _ (List.mem_append_right _ (List.mem_append_right _ (List.mem_append_left _ (List.mem_of_getElem? (i := 3) rfl)))))))))))
theorem mw_h4_404 : Cond.instanceMethod yX6_isTooMuch ∈ VS_h4 := List.mem_append_right _ (List.mem_append_right _ (List.mem_append_right _ (List.mem_append_right _ (List.mem_append_right _ (List.mem_append_right _ (List.mem_append_right _ (List.mem_append_right _ (List.mem_append_right _ (List.mem_append_right _ (List.mem_append_left _ (List.mem_of_getElem? (i := 4) rfl)))))))))))
theorem mw_h4_405 : Cond.selects RX6 yX6_isTooMuch yX6_isTooMuch ∈ VS_h4 := List.mem_append_right _ (List.mem_append_right _ (List.mem_append_right _ (List.mem_append_right _ (List.mem_append_right _ (List.mem_append_right _ (List.mem_append_right _ (List.mem_append_right _ (List.mem_append_right _ (List.mem_append_right _ (List.mem_append_left _ (List.mem_of_getElem? (i := 5) rfl)))))))))))
theorem mw_h4_406 : Cond.methodLink RX0 81 yX2_tokenOfClass ∈ VS_h4 := List.mem_append_right _ (List.mem_append_right _ (List.mem_append_right _ (List.mem_append_right _ (List.mem_append_right _ (List.mem_append_right _ (List.mem_append_right _ (List.mem_append_right _ (List.mem_append_right _ (List.mem_append_right _ (List.mem_append_left _ (List.mem_of_getElem? (i := 6) rfl)))))))))))
theorem mw_h4_407 : Cond.code yX0_noteMuch cX0_noteMuch 3 none ∈ VS_h4 := List.mem_append_right _ (List.mem_append_right _ (List.mem_append_right _ (List.mem_append_right _ (List.mem_append_right _ (List.mem_append_right _ (List.mem_append_right _ (List.mem_append_right _ (List.mem_append_right _ (List.mem_append_right _ (List.mem_append_left _ (List.mem_of_getElem? (i := 7) rfl)))))))))))
theorem mw_h4_408 : Cond.methodLink RX0 85 yX0_noteMuch ∈ VS_h4 := List.mem_append_right _ (List.mem_append_right _ (List.mem_append_right _ (List.mem_append_right _ (List.mem_append_right _ (List.mem_append_right _ (List.mem_append_right _ (List.mem_append_right _ (List.mem_append_right _ (List.mem_append_right _ (List.mem_append_left _ (List.mem_of_getElem? (i := 8) rfl)))))))))))
theorem mw_h4_409 : Cond.instanceMethod yX0_noteMuch ∈ VS_h4 := List.mem_append_right _ (List.mem_append_right _ (List.mem_append_right _ (List.mem_append_right _ (List.mem_append_right _ (List.mem_append_right _ (List.mem_append_right _ (List.mem_append_right _ (List.mem_append_right _ (List.mem_append_right _ (List.mem_append_left _ (List.mem_of_getElem? (i := 9) rfl)))))))))))
theorem mw_h4_410 : Cond.selects RX0 yX0_noteMuch yX0_noteMuch ∈ VS_h4 := List.mem_append_right _ (List.mem_append_right _ (List.mem_append_right _ (List.mem_append_right _ (List.mem_append_right _ (List.mem_append_right _ (List.mem_append_right _ (List.mem_append_right _ (List.mem_append_right _ (List.mem_append_right _ (List.mem_append_left _ (List.mem_of_getElem? (i := 10) rfl)))))))))))
theorem mw_h4_411 : Cond.initialized RX0 ∈ VS_h4 := List.mem_append_right _ (List.mem_append_right _ (List.mem_append_right _ (List.mem_append_right _ (List.mem_append_right _ (List.mem_append_right _ (List.mem_append_right _ (List.mem_append_right _ (List.mem_append_right _ (List.mem_append_right _ (List.mem_append_left _ (List.mem_of_getElem? (i := 11) rfl)))))))))))
theorem mw_h4_412 : Cond.code yX6_beginMethod cX6_beginMethod 2 none ∈ VS_h4 := List.mem_append_right _ (List.mem_append_right _ (List.mem_append_right _ (List.mem_append_right _ (List.mem_append_right _ (List.mem_append_right _ (List.mem_append_right _ (List.mem_append_right _ (List.mem_append_right _ (List.mem_append_right _ (List.mem_append_left _ (List.mem_of_getElem? (i := 12) rfl)))))))))))
theorem mw_h4_413 : Cond.methodLink RX0 98 yX6_beginMethod ∈ VS_h4 := List.mem_append_right _ (List.mem_append_right _ (List.mem_append_right _ (List.mem_append_right _ (List.mem_append_right _ (List.mem_append_right _ (List.mem_append_right _ (List.mem_append_right _ (List.mem_append_right _ (List.mem_append_right _ (List.mem_append_left _ (List.mem_of_getElem? (i := 13) rfl)))))))))))
theorem mw_h4_414 : Cond.instanceMethod yX6_beginMethod ∈ VS_h4 := List.mem_append_right _ (List.mem_append_right _ (List.mem_append_right _ (List.mem_append_right _ (List.mem_append_right _ (List.mem_append_right _ (List.mem_append_right _ (List.mem_append_right _ (List.mem_append_right _ (List.mem_append_right _ (List.mem_append_left _ (List.mem_of_getElem? (i := 14) rfl)))))))))))
theorem mw_h4_415 : Cond.selects RX6 yX6_beginMethod yX6_beginMethod ∈ VS_h4 := List.mem_append_right _ (List.mem_append_right _ (List.mem_append_right _ (List.mem_append_right _ (List.mem_append_right _ (List.mem_append_right _ (List.mem_append_right _ (List.mem_append_right _ (List.mem_append_right _ (List.mem_append_right _ (List.mem_append_left _ (List.mem_of_getElem? (i := 15) rfl)))))))))))
theorem mw_h4_416 : Cond.code yX1_beginMethod cX1_beginMethod 1 none ∈ VS_h4 := List.mem_append_right _ (List.mem_append_right _ (List.mem_append_right _ (List.mem_append_right _ (List.mem_append_right _ (List.mem_append_right _ (List.mem_append_right _ (List.mem_append_right _ (List.mem_append_right _ (List.mem_append_right _ (List.mem_append_left _ (List.mem_of_getElem? (i := 16) rfl)))))))))))
theorem mw_h4_417 : Cond.methodLink RX0 101 yX1_beginMethod ∈ VS_h4 := List.mem_append_right _ (List.mem_append_right _ (List.mem_append_right _ (List.mem_append_right _ (List.mem_append_right _ (List.mem_append_right _ (List.mem_append_right _ (List.mem_append_right _ (List.mem_append_right _ (List.mem_append_right _ (List.mem_append_left _ (List.mem_of_getElem? (i := 17) rfl)))))))))))
theorem mw_h4_418 : Cond.instanceMethod yX1_beginMethod ∈ VS_h4 := List.mem_append_right _ (List.mem_append_right _ (List.mem_append_right _ (List.mem_append_right _ (List.mem_append_right _ (List.mem_append_right _ (List.mem_append_right _ (List.mem_append_right _ (List.mem_append_right _ (List.mem_append_right _ (List.mem_append_left _ (List.mem_of_getElem? (i := 18) rfl)))))))))))
theorem mw_h4_419 : Cond.selects RX1 yX1_beginMethod yX1_beginMethod ∈ VS_h4 := List.mem_append_right _ (List.mem_append_right _ (List.mem_append_right _ (List.mem_append_right _ (List.mem_append_right _ (List.mem_append_right _ (List.mem_append_right _ (List.mem_append_right _ (List.mem_append_right _ (List.mem_append_right _ (List.mem_append_left _ (List.mem_of_getElem? (i := 19) rfl)))))))))))
theorem mw_h4_420 : Cond.methodLink RX0 103 yX2_isFixed ∈ VS_h4 := List.mem_append_right _ (List.mem_append_right _ (List.mem_append_right _ (List.mem_append_right _ (List.mem_append_right _ (List.mem_append_right _ (List.mem_append_right _ (List.mem_append_right _ (List.mem_append_right _ (List.mem_append_right _ (List.mem_append_left _ (List.mem_of_getElem? (i := 20) rfl)))))))))))
theorem mw_h4_421 : Cond.code yX10_beginMethod cX10_beginMethod 3 none ∈ VS_h4 := List.mem_append_right _ (List.mem_append_right _ (List.mem_append_right _ (List.mem_append_right _ (List.mem_append_right _ (List.mem_append_right _ (List.mem_append_right _ (List.mem_append_right _ (List.mem_append_right _ (List.mem_append_right _ (List.mem_append_left _ (List.mem_of_getElem? (i := 21) rfl)))))))))))
theorem mw_h4_422 : Cond.methodLink RX0 107 yX10_beginMethod ∈ VS_h4 := List.mem_append_right _ (List.mem_append_right _ (List.mem_append_right _ (List.mem_append_right _ (List.mem_append_right _ (List.mem_append_right _ (List.mem_append_right _ (List.mem_append_right _ (List.mem_append_right _ (List.mem_append_right _ (List.mem_append_left _ (List.mem_of_getElem? (i := 22) rfl)))))))))))
theorem mw_h4_423 : Cond.instanceMethod yX10_beginMethod ∈ VS_h4 := List.mem_append_right _ (List.mem_append_right _ (List.mem_append_right _ (List.mem_append_right _ (List.mem_append_right _ (List.mem_append_right _ (List.mem_append_right _ (List.mem_append_right _ (List.mem_append_right _ (List.mem_append_right _ (List.mem_append_left _ (List.mem_of_getElem? (i := 23) rfl)))))))))))
theorem mw_h4_424 : Cond.selects RX10 yX10_beginMethod yX10_beginMethod ∈ VS_h4 := List.mem_append_right _ (List.mem_append_right _ (List.mem_append_right _ (List.mem_append_right _ (List.mem_append_right _ (List.mem_append_right _ (List.mem_append_right _ (List.mem_append_right _ (List.mem_append_right _ (List.mem_append_right _ (List.mem_append_left _ (List.mem_of_getElem? (i := 24) rfl)))))))))))
theorem mw_h4_425 : Cond.code yX1_addLocal cX1_addLocal 4 (some .int) ∈ VS_h4 := List.mem_append_right _ (List.mem_append_right _ (List.mem_append_right _ (List.mem_append_right _ (List.mem_append_right _ (List.mem_append_right _ (List.mem_append_right _ (List.mem_append_right _ (List.mem_append_right _ (List.mem_append_right _ (List.mem_append_left _ (List.mem_of_getElem? (i := 25) rfl)))))))))))
theorem mw_h4_426 : Cond.methodLink RX0 110 yX1_addLocal ∈ VS_h4 := List.mem_append_right _ (List.mem_append_right _ (List.mem_append_right _ (List.mem_append_right _ (List.mem_append_right _ (List.mem_append_right _ (List.mem_append_right _ (List.mem_append_right _ (List.mem_append_right _ (List.mem_append_right _ (List.mem_append_left _ (List.mem_of_getElem? (i := 26) rfl)))))))))))
theorem mw_h4_427 : Cond.instanceMethod yX1_addLocal ∈ VS_h4 := List.mem_append_right _ (List.mem_append_right _ (List.mem_append_right _ (List.mem_append_right _ (List.mem_append_right _ (List.mem_append_right _ (List.mem_append_right _ (List.mem_append_right _ (List.mem_append_right _ (List.mem_append_right _ (List.mem_append_left _ (List.mem_of_getElem? (i := 27) rfl)))))))))))
theorem mw_h4_428 : Cond.selects RX1 yX1_addLocal yX1_addLocal ∈ VS_h4 := List.mem_append_right _ (List.mem_append_right _ (List.mem_append_right _ (List.mem_append_right _ (List.mem_append_right _ (List.mem_append_right _ (List.mem_append_right _ (List.mem_append_right _ (List.mem_append_right _ (List.mem_append_right _ (List.mem_append_left _ (List.mem_of_getElem? (i := 28) rfl)))))))))))
theorem mw_h4_429 : Cond.methodLink RX0 114 yX2_parametersOf ∈ VS_h4 := List.mem_append_right _ (List.mem_append_right _ (List.mem_append_right _ (List.mem_append_right _ (List.mem_append_right _ (List.mem_append_right _ (List.mem_append_right _ (List.mem_append_right _ (List.mem_append_right _ (List.mem_append_right _ (List.mem_append_left _ (List.mem_of_getElem? (i := 29) rfl)))))))))))
theorem mw_h4_430 : Cond.methodLink RX0 123 yX2_resultOf ∈ VS_h4 := List.mem_append_right _ (List.mem_append_right _ (List.mem_append_right _ (List.mem_append_right _ (List.mem_append_right _ (List.mem_append_right _ (List.mem_append_right _ (List.mem_append_right _ (List.mem_append_right _ (List.mem_append_right _ (List.mem_append_left _ (List.mem_of_getElem? (i := 30) rfl)))))))))))
theorem mw_h4_431 : Cond.code yX2_bodyOf cX2_bodyOf 2 (some .int) ∈ VS_h4 := List.mem_append_right _ (List.mem_append_right _ (List.mem_append_right _ (List.mem_append_right _ (List.mem_append_right _ (List.mem_append_right _ (List.mem_append_right _ (List.mem_append_right _ (List.mem_append_right _ (List.mem_append_right _ (List.mem_append_left _ (List.mem_of_getElem? (i := 31) rfl)))))))))))
theorem mw_h4_432 : Cond.methodLink RX0 135 yX2_bodyOf ∈ VS_h4 := List.mem_append_right _ (List.mem_append_right _ (List.mem_append_right _ (List.mem_append_right _ (List.mem_append_right _ (List.mem_append_right _ (List.mem_append_right _ (List.mem_append_right _ (List.mem_append_right _ (List.mem_append_right _ (List.mem_append_left _ (List.mem_of_getElem? (i := 32) rfl)))))))))))
theorem mw_h4_433 : Cond.instanceMethod yX2_bodyOf ∈ VS_h4 := List.mem_append_right _ (List.mem_append_right _ (List.mem_append_right _ (List.mem_append_right _ (List.mem_append_right _ (List.mem_append_right _ (List.mem_append_right _ (List.mem_append_right _ (List.mem_append_right _ (List.mem_append_right _ (List.mem_append_left _ (List.mem_of_getElem? (i := 33) rfl)))))))))))
theorem mw_h4_434 : Cond.selects RX2 yX2_bodyOf yX2_bodyOf ∈ VS_h4 := List.mem_append_right _ (List.mem_append_right _ (List.mem_append_right _ (List.mem_append_right _ (List.mem_append_right _ (List.mem_append_right _ (List.mem_append_right _ (List.mem_append_right _ (List.mem_append_right _ (List.mem_append_right _ (List.mem_append_left _ (List.mem_of_getElem? (i := 34) rfl)))))))))))
theorem mw_h4_435 : Cond.methodLink RX0 158 yX9_kind ∈ VS_h4 := List.mem_append_right _ (List.mem_append_right _ (List.mem_append_right _ (List.mem_append_right _ (List.mem_append_right _ (List.mem_append_right _ (List.mem_append_right _ (List.mem_append_right _ (List.mem_append_right _ (List.mem_append_right _ (List.mem_append_left _ (List.mem_of_getElem? (i := 35) rfl)))))))))))
theorem mw_h4_436 : Cond.code yX9_isWhileTrue cX9_isWhileTrue 1 (some .boolean) ∈ VS_h4 := List.mem_append_right _ (List.mem_append_right _ (List.mem_append_right _ (List.mem_append_right _ (List.mem_append_right _ (List.mem_append_right _ (List.mem_append_right _ (List.mem_append_right _ (List.mem_append_right _ (List.mem_append_right _ (List.mem_append_left _ (List.mem_of_getElem? (i := 36) rfl)))))))))))
theorem mw_h4_437 : Cond.methodLink RX0 210 yX9_isWhileTrue ∈ VS_h4 := List.mem_append_right _ (List.mem_append_right _ (List.mem_append_right _ (List.mem_append_right _ (List.mem_append_right _ (List.mem_append_right _ (List.mem_append_right _ (List.mem_append_right _ (List.mem_append_right _ (List.mem_append_right _ (List.mem_append_left _ (List.mem_of_getElem? (i := 37) rfl)))))))))))
theorem mw_h4_438 : Cond.instanceMethod yX9_isWhileTrue ∈ VS_h4 := List.mem_append_right _ (List.mem_append_right _ (List.mem_append_right _ (List.mem_append_right _ (List.mem_append_right _ (List.mem_append_right _ (List.mem_append_right _ (List.mem_append_right _ (List.mem_append_right _ (List.mem_append_right _ (List.mem_append_left _ (List.mem_of_getElem? (i := 38) rfl)))))))))))
theorem mw_h4_439 : Cond.selects RX9 yX9_isWhileTrue yX9_isWhileTrue ∈ VS_h4 := List.mem_append_right _ (List.mem_append_right _ (List.mem_append_right _ (List.mem_append_right _ (List.mem_append_right _ (List.mem_append_right _ (List.mem_append_right _ (List.mem_append_right _ (List.mem_append_right _ (List.mem_append_right _ (List.mem_append_left _ (List.mem_of_getElem? (i := 39) rfl)))))))))))
theorem mw_h4_440 : Cond.methodLink RX0 204 yX1_jump ∈ VS_h4 := List.mem_append_right _ (List.mem_append_right _ (List.mem_append_right _ (List.mem_append_right _ (List.mem_append_right _ (List.mem_append_right _ (List.mem_append_right _ (List.mem_append_right _ (List.mem_append_right _ (List.mem_append_right _ (List.mem_append_right _ (List.mem_append_left _ (List.mem_of_getElem? (i := 0) rfl))))))))))))
theorem mw_h4_441 : Cond.methodLink RX0 147 yX1_op ∈ VS_h4 := List.mem_append_right _ (List.mem_append_right _ (List.mem_append_right _ (List.mem_append_right _ (List.mem_append_right _ (List.mem_append_right _ (List.mem_append_right _ (List.mem_append_right _ (List.mem_append_right _ (List.mem_append_right _ (List.mem_append_right _ (List.mem_append_left _ (List.mem_of_getElem? (i := 1) rfl))))))))))))
theorem mw_h4_442 : Cond.methodLink RX0 233 yX9_valueAt ∈ VS_h4 := List.mem_append_right _ (List.mem_append_right _ (List.mem_append_right _ (List.mem_append_right _ (List.mem_append_right _ (List.mem_append_right _ (List.mem_append_right _ (List.mem_append_right _ (List.mem_append_right _ (List.mem_append_right _ (List.mem_append_right _ (List.mem_append_left _ (List.mem_of_getElem? (i := 2) rfl))))))))))))
theorem mw_h4_443 : Cond.methodLink RX0 239 yX1_localOf ∈ VS_h4 := List.mem_append_right _ (List.mem_append_right _ (List.mem_append_right _ (List.mem_append_right _ (List.mem_append_right _ (List.mem_append_right _ (List.mem_append_right _ (List.mem_append_right _ (List.mem_append_right _ (List.mem_append_right _ (List.mem_append_right _ (List.mem_append_left _ (List.mem_of_getElem? (i := 3) rfl))))))))))))
theorem mw_h4_444 : Cond.fieldLink RX0 16 "ClassMill$Bodies" "code" "LClassMill$Code;" ∈ VS_h4 := List.mem_append_right _ (List.mem_append_right _ (List.mem_append_right _ (List.mem_append_right _ (List.mem_append_right _ (List.mem_append_right _ (List.mem_append_right _ (List.mem_append_right _ (List.mem_append_right _ (List.mem_append_right _ (List.mem_append_right _ (List.mem_append_left _ (List.mem_of_getElem? (i := 4) rfl))))))))))))
theorem mw_h4_445 : Cond.methodLink RX0 254 yX2_readType ∈ VS_h4 := List.mem_append_right _ (List.mem_append_right _ (List.mem_append_right _ (List.mem_append_right _ (List.mem_append_right _ (List.mem_append_right _ (List.mem_append_right _ (List.mem_append_right _ (List.mem_append_right _ (List.mem_append_right _ (List.mem_append_right _ (List.mem_append_left _ (List.mem_of_getElem? (i := 5) rfl))))))))))))
theorem mw_h4_446 : Cond.code yX0_checkTwice cX0_checkTwice 2 none ∈ VS_h4 := List.mem_append_right _ (List.mem_append_right _ (List.mem_append_right _ (List.mem_append_right _ (List.mem_append_right _ (List.mem_append_right _ (List.mem_append_right _ (List.mem_append_right _ (List.mem_append_right _ (List.mem_append_right _ (List.mem_append_right _ (List.mem_append_left _ (List.mem_of_getElem? (i := 6) rfl))))))))))))
theorem mw_h4_447 : Cond.methodLink RX0 226 yX0_checkTwice ∈ VS_h4 := List.mem_append_right _ (List.mem_append_right _ (List.mem_append_right _ (List.mem_append_right _ (List.mem_append_right _ (List.mem_append_right _ (List.mem_append_right _ (List.mem_append_right _ (List.mem_append_right _ (List.mem_append_right _ (List.mem_append_right _ (List.mem_append_left _ (List.mem_of_getElem? (i := 7) rfl))))))))))))
theorem mw_h4_448 : Cond.instanceMethod yX0_checkTwice ∈ VS_h4 := List.mem_append_right _ (List.mem_append_right _ (List.mem_append_right _ (List.mem_append_right _ (List.mem_append_right _ (List.mem_append_right _ (List.mem_append_right _ (List.mem_append_right _ (List.mem_append_right _ (List.mem_append_right _ (List.mem_append_right _ (List.mem_append_left _ (List.mem_of_getElem? (i := 8) rfl))))))))))))
theorem mw_h4_449 : Cond.selects RX0 yX0_checkTwice yX0_checkTwice ∈ VS_h4 := List.mem_append_right _ (List.mem_append_right _ (List.mem_append_right _ (List.mem_append_right _ (List.mem_append_right _ (List.mem_append_right _ (List.mem_append_right _ (List.mem_append_right _ (List.mem_append_right _ (List.mem_append_right _ (List.mem_append_right _ (List.mem_append_left _ (List.mem_of_getElem? (i := 9) rfl))))))))))))
theorem mw_h4_450 : Cond.methodLink RX0 251 yX1_pop ∈ VS_h4 := List.mem_append_right _ (List.mem_append_right _ (List.mem_append_right _ (List.mem_append_right _ (List.mem_append_right _ (List.mem_append_right _ (List.mem_append_right _ (List.mem_append_right _ (List.mem_append_right _ (List.mem_append_right _ (List.mem_append_right _ (List.mem_append_left _ (List.mem_of_getElem? (i := 10) rfl))))))))))))
theorem mw_h4_451 : Cond.fieldLink RX0 61 "ClassMill$Bodies" "values" "LClassMill$Values;" ∈ VS_h4 := List.mem_append_right _ (List.mem_append_right _ (List.mem_append_right _ (List.mem_append_right _ (List.mem_append_right _ (List.mem_append_right _ (List.mem_append_right _ (List.mem_append_right _ (List.mem_append_right _ (List.mem_append_right _ (List.mem_append_right _ (List.mem_append_left _ (List.mem_of_getElem? (i := 11) rfl))))))))))))
theorem mw_h4_452 : Cond.fieldLink RX0 260 "ClassMill$Values" "form" "I" ∈ VS_h4 := List.mem_append_right _ (List.mem_append_right _ (List.mem_append_right _ (List.mem_append_right _ (List.mem_append_right _ (List.mem_append_right _ (List.mem_append_right _ (List.mem_append_right _ (List.mem_append_right _ (List.mem_append_right _ (List.mem_append_right _ (List.mem_append_left _ (List.mem_of_getElem? (i := 12) rfl))))))))))))
theorem mw_h4_453 : Cond.fieldLink RX0 245 "ClassMill$Values" "type" "I" ∈ VS_h4 := List.mem_append_right _ (List.mem_append_right _ (List.mem_append_right _ (List.mem_append_right _ (List.mem_append_right _ (List.mem_append_right _ (List.mem_append_right _ (List.mem_append_right _ (List.mem_append_right _ (List.mem_append_right _ (List.mem_append_right _ (List.mem_append_left _ (List.mem_of_getElem? (i := 13) rfl))))))))))))
theorem mw_h4_454 : Cond.code yX1_store cX1_store 3 none ∈ VS_h4 := List.mem_append_right _ (List.mem_append_right _ (List.mem_append_right _ (List.mem_append_right _ (List.mem_append_right _ (List.mem_append_right _ (List.mem_append_right _ (List.mem_append_right _ (List.mem_append_right _ (List.mem_append_right _ (List.mem_append_right _ (List.mem_append_left _ (List.mem_of_getElem? (i := 14) rfl))))))))))))
theorem mw_h4_455 : Cond.methodLink RX0 236 yX1_store ∈ VS_h4 := List.mem_append_right _ (List.mem_append_right _ (List.mem_append_right _ (List.mem_append_right _ (List.mem_append_right _ (List.mem_append_right _ (List.mem_append_right _ (List.mem_append_right _ (List.mem_append_right _ (List.mem_append_right _ (List.mem_append_right _ (List.mem_append_left _ (List.mem_of_getElem? (i := 15) rfl))))))))))))
theorem mw_h4_456 : Cond.instanceMethod yX1_store ∈ VS_h4 := List.mem_append_right _ (List.mem_append_right _ (List.mem_append_right _ (List.mem_append_right _ (List.mem_append_right _ (List.mem_append_right _ (List.mem_append_right _ (List.mem_append_right _ (List.mem_append_right _ (List.mem_append_right _ (List.mem_append_right _ (List.mem_append_left _ (List.mem_of_getElem? (i := 16) rfl))))))))))))
theorem mw_h4_457 : Cond.selects RX1 yX1_store yX1_store ∈ VS_h4 := List.mem_append_right _ (List.mem_append_right _ (List.mem_append_right _ (List.mem_append_right _ (List.mem_append_right _ (List.mem_append_right _ (List.mem_append_right _ (List.mem_append_right _ (List.mem_append_right _ (List.mem_append_right _ (List.mem_append_right _ (List.mem_append_left _ (List.mem_of_getElem? (i := 17) rfl))))))))))))
theorem mw_h4_458 : Cond.methodLink RX0 276 yX6_fieldOf ∈ VS_h4 := List.mem_append_right _ (List.mem_append_right _ (List.mem_append_right _ (List.mem_append_right _ (List.mem_append_right _ (List.mem_append_right _ (List.mem_append_right _ (List.mem_append_right _ (List.mem_append_right _ (List.mem_append_right _ (List.mem_append_right _ (List.mem_append_left _ (List.mem_of_getElem? (i := 18) rfl))))))))))))
theorem mw_h4_459 : Cond.methodLink RX0 279 yX1_op_ ∈ VS_h4 := List.mem_append_right _ (List.mem_append_right _ (List.mem_append_right _ (List.mem_append_right _ (List.mem_append_right _ (List.mem_append_right _ (List.mem_append_right _ (List.mem_append_right _ (List.mem_append_right _ (List.mem_append_right _ (List.mem_append_right _ (List.mem_append_left _ (List.mem_of_getElem? (i := 19) rfl))))))))))))
theorem mw_h4_460 : Cond.methodLink RX8 23 yX9_kind ∈ VS_h4 := List.mem_append_right _ (List.mem_append_right _ (List.mem_append_right _ (List.mem_append_right _ (List.mem_append_right _ (List.mem_append_right _ (List.mem_append_right _ (List.mem_append_right _ (List.mem_append_right _ (List.mem_append_right _ (List.mem_append_right _ (List.mem_append_left _ (List.mem_of_getElem? (i := 20) rfl))))))))))))
theorem mw_h4_461 : Cond.code yX9_tellHere cX9_tellHere 2 none ∈ VS_h4 := List.mem_append_right _ (List.mem_append_right _ (List.mem_append_right _ (List.mem_append_right _ (List.mem_append_right _ (List.mem_append_right _ (List.mem_append_right _ (List.mem_append_right _ (List.mem_append_right _ (List.mem_append_right _ (List.mem_append_right _ (List.mem_append_left _ (List.mem_of_getElem? (i := 21) rfl))))))))))))
theorem mw_h4_462 : Cond.methodLink RX8 33 yX9_tellHere ∈ VS_h4 := List.mem_append_right _ (List.mem_append_right _ (List.mem_append_right _ (List.mem_append_right _ (List.mem_append_right _ (List.mem_append_right _ (List.mem_append_right _ (List.mem_append_right _ (List.mem_append_right _ (List.mem_append_right _ (List.mem_append_right _ (List.mem_append_left _ (List.mem_of_getElem? (i := 22) rfl))))))))))))
theorem mw_h4_463 : Cond.instanceMethod yX9_tellHere ∈ VS_h4 := List.mem_append_right _ (List.mem_append_right _ (List.mem_append_right _ (List.mem_append_right _ (List.mem_append_right _ (List.mem_append_right _ (List.mem_append_right _ (List.mem_append_right _ (List.mem_append_right _ (List.mem_append_right _ (List.mem_append_right _ (List.mem_append_left _ (List.mem_of_getElem? (i := 23) rfl))))))))))))
theorem mw_h4_464 : Cond.selects RX9 yX9_tellHere yX9_tellHere ∈ VS_h4 := List.mem_append_right _ (List.mem_append_right _ (List.mem_append_right _ (List.mem_append_right _ (List.mem_append_right _ (List.mem_append_right _ (List.mem_append_right _ (List.mem_append_right _ (List.mem_append_right _ (List.mem_append_right _ (List.mem_append_right _ (List.mem_append_left _ (List.mem_of_getElem? (i := 24) rfl))))))))))))
theorem mw_h4_465 : Cond.fieldLink RX8 7 "ClassMill$Syntax" "text" "LClassMill$Text;" ∈ VS_h4 := List.mem_append_right _ (List.mem_append_right _ (List.mem_append_right _ (List.mem_append_right _ (List.mem_append_right _ (List.mem_append_right _ (List.mem_append_right _ (List.mem_append_right _ (List.mem_append_right _ (List.mem_append_right _ (List.mem_append_right _ (List.mem_append_left _ (List.mem_of_getElem? (i := 25) rfl))))))))))))
theorem mw_h4_466 : Cond.fieldLink RX8 30 "ClassMill$Text" "pos" "I" ∈ VS_h4 := List.mem_append_right _ (List.mem_append_right _ (List.mem_append_right _ (List.mem_append_right _ (List.mem_append_right _ (List.mem_append_right _ (List.mem_append_right _ (List.mem_append_right _ (List.mem_append_right _ (List.mem_append_right _ (List.mem_append_right _ (List.mem_append_left _ (List.mem_of_getElem? (i := 26) rfl))))))))))))
theorem mw_h4_467 : Cond.fieldLink RX8 19 "ClassMill$Text" "fault" "I" ∈ VS_h4 := List.mem_append_right _ (List.mem_append_right _ (List.mem_append_right _ (List.mem_append_right _ (List.mem_append_right _ (List.mem_append_right _ (List.mem_append_right _ (List.mem_append_right _ (List.mem_append_right _ (List.mem_append_right _ (List.mem_append_right _ (List.mem_append_left _ (List.mem_of_getElem? (i := 27) rfl))))))))))))
theorem mw_h4_468 : Cond.code yX8_need cX8_need 2 none ∈ VS_h4 := List.mem_append_right _ (List.mem_append_right _ (List.mem_append_right _ (List.mem_append_right _ (List.mem_append_right _ (List.mem_append_right _ (List.mem_append_right _ (List.mem_append_right _ (List.mem_append_right _ (List.mem_append_right _ (List.mem_append_right _ (List.mem_append_left _ (List.mem_of_getElem? (i := 28) rfl))))))))))))
theorem mw_h4_469 : Cond.methodLink RX8 37 yX8_need ∈ VS_h4 := List.mem_append_right _ (List.mem_append_right _ (List.mem_append_right _ (List.mem_append_right _ (List.mem_append_right _ (List.mem_append_right _ (List.mem_append_right _ (List.mem_append_right _ (List.mem_append_right _ (List.mem_append_right _ (List.mem_append_right _ (List.mem_append_left _ (List.mem_of_getElem? (i := 29) rfl))))))))))))
theorem mw_h4_470 : Cond.instanceMethod yX8_need ∈ VS_h4 := List.mem_append_right _ (List.mem_append_right _ (List.mem_append_right _ (List.mem_append_right _ (List.mem_append_right _ (List.mem_append_right _ (List.mem_append_right _ (List.mem_append_right _ (List.mem_append_right _ (List.mem_append_right _ (List.mem_append_right _ (List.mem_append_left _ (List.mem_of_getElem? (i := 30) rfl))))))))))))
theorem mw_h4_471 : Cond.selects RX8 yX8_need yX8_need ∈ VS_h4 := List.mem_append_right _ (List.mem_append_right _ (List.mem_append_right _ (List.mem_append_right _ (List.mem_append_right _ (List.mem_append_right _ (List.mem_append_right _ (List.mem_append_right _ (List.mem_append_right _ (List.mem_append_right _ (List.mem_append_right _ (List.mem_append_left _ (List.mem_of_getElem? (i := 31) rfl))))))))))))
theorem mw_h4_472 : Cond.initialized RX8 ∈ VS_h4 := List.mem_append_right _ (List.mem_append_right _ (List.mem_append_right _ (List.mem_append_right _ (List.mem_append_right _ (List.mem_append_right _ (List.mem_append_right _ (List.mem_append_right _ (List.mem_append_right _ (List.mem_append_right _ (List.mem_append_right _ (List.mem_append_left _ (List.mem_of_getElem? (i := 32) rfl))))))))))))
theorem mw_h4_473 : Cond.code yX2_addClass cX2_addClass 2 none ∈ VS_h4 := List.mem_append_right _ (List.mem_append_right _ (List.mem_append_right _ (List.mem_append_right _ (List.mem_append_right _ (List.mem_append_right _ (List.mem_append_right _ (List.mem_append_right _ (List.mem_append_right _ (List.mem_append_right _ (List.mem_append_right _ (List.mem_append_left _ (List.mem_of_getElem? (i := 33) rfl))))))))))))
theorem mw_h4_474 : Cond.methodLink RX8 40 yX2_addClass ∈ VS_h4 := List.mem_append_right _ (List.mem_append_right _ (List.mem_append_right _ (List.mem_append_right _ (List.mem_append_right _ (List.mem_append_right _ (List.mem_append_right _ (List.mem_append_right _ (List.mem_append_right _ (List.mem_append_right _ (List.mem_append_right _ (List.mem_append_left _ (List.mem_of_getElem? (i := 34) rfl))))))))))))
theorem mw_h4_475 : Cond.instanceMethod yX2_addClass ∈ VS_h4 := List.mem_append_right _ (List.mem_append_right _ (List.mem_append_right _ (List.mem_append_right _ (List.mem_append_right _ (List.mem_append_right _ (List.mem_append_right _ (List.mem_append_right _ (List.mem_append_right _ (List.mem_append_right _ (List.mem_append_right _ (List.mem_append_left _ (List.mem_of_getElem? (i := 35) rfl))))))))))))
theorem mw_h4_476 : Cond.selects RX2 yX2_addClass yX2_addClass ∈ VS_h4 := List.mem_append_right _ (List.mem_append_right _ (List.mem_append_right _ (List.mem_append_right _ (List.mem_append_right _ (List.mem_append_right _ (List.mem_append_right _ (List.mem_append_right _ (List.mem_append_right _ (List.mem_append_right _ (List.mem_append_right _ (List.mem_append_left _ (List.mem_of_getElem? (i := 36) rfl))))))))))))
theorem mw_h4_477 : Cond.code yX8_accept cX8_accept 2 (some .boolean) ∈ VS_h4 := List.mem_append_right _ (List.mem_append_right _ (List.mem_append_right _ (List.mem_append_right _ (List.mem_append_right _ (List.mem_append_right _ (List.mem_append_right _ (List.mem_append_right _ (List.mem_append_right _ (List.mem_append_right _ (List.mem_append_right _ (List.mem_append_left _ (List.mem_of_getElem? (i := 37) rfl))))))))))))
theorem mw_h4_478 : Cond.methodLink RX8 45 yX8_accept ∈ VS_h4 := List.mem_append_right _ (List.mem_append_right _ (List.mem_append_right _ (List.mem_append_right _ (List.mem_append_right _ (List.mem_append_right _ (List.mem_append_right _ (List.mem_append_right _ (List.mem_append_right _ (List.mem_append_right _ (List.mem_append_right _ (List.mem_append_left _ (List.mem_of_getElem? (i := 38) rfl))))))))))))
theorem mw_h4_479 : Cond.instanceMethod yX8_accept ∈ VS_h4 := List.mem_append_right _ (List.mem_append_right _ (List.mem_append_right _ (List.mem_append_right _ (List.mem_append_right _ (List.mem_append_right _ (List.mem_append_right _ (List.mem_append_right _ (List.mem_append_right _ (List.mem_append_right _ (List.mem_append_right _ (List.mem_append_left _ (List.mem_of_getElem? (i := 39) rfl))))))))))))
theorem mw_h4_480 : Cond.selects RX8 yX8_accept yX8_accept ∈ VS_h4 := List.mem_append_right _ (List.mem_append_right _ (List.mem_append_right _ (List.mem_append_right _ (List.mem_append_right _ (List.mem_append_right _ (List.mem_append_right _ (List.mem_append_right _ (List.mem_append_right _ (List.mem_append_right _ (List.mem_append_right _ (List.mem_append_right _ (List.mem_append_left _ (List.mem_of_getElem? (i := 0) rfl)))))))))))))
theorem mw_h4_481 : Cond.code yX8_tooDeep cX8_tooDeep 2 (some .boolean) ∈ VS_h4 := List.mem_append_right _ (List.mem_append_right _ (List.mem_append_right _ (List.mem_append_right _ (List.mem_append_right _ (List.mem_append_right _ (List.mem_append_right _ (List.mem_append_right _ (List.mem_append_right _ (List.mem_append_right _ (List.mem_append_right _ (List.mem_append_right _ (List.mem_append_left _ (List.mem_of_getElem? (i := 1) rfl)))))))))))))
theorem mw_h4_482 : Cond.methodLink RX8 64 yX8_tooDeep ∈ VS_h4 := List.mem_append_right _ (List.mem_append_right _ (List.mem_append_right _ (List.mem_append_right _ (List.mem_append_right _ (List.mem_append_right _ (List.mem_append_right _ (List.mem_append_right _ (List.mem_append_right _ (List.mem_append_right _ (List.mem_append_right _ (List.mem_append_right _ (List.mem_append_left _ (List.mem_of_getElem? (i := 2) rfl)))))))))))))
theorem mw_h4_483 : Cond.instanceMethod yX8_tooDeep ∈ VS_h4 := List.mem_append_right _ (List.mem_append_right _ (List.mem_append_right _ (List.mem_append_right _ (List.mem_append_right _ (List.mem_append_right _ (List.mem_append_right _ (List.mem_append_right _ (List.mem_append_right _ (List.mem_append_right _ (List.mem_append_right _ (List.mem_append_right _ (List.mem_append_left _ (List.mem_of_getElem? (i := 3) rfl)))))))))))))
theorem mw_h4_484 : Cond.selects RX8 yX8_tooDeep yX8_tooDeep ∈ VS_h4 := List.mem_append_right _ (List.mem_append_right _ (List.mem_append_right _ (List.mem_append_right _ (List.mem_append_right _ (List.mem_append_right _ (List.mem_append_right _ (List.mem_append_right _ (List.mem_append_right _ (List.mem_append_right _ (List.mem_append_right _ (List.mem_append_right _ (List.mem_append_left _ (List.mem_of_getElem? (i := 4) rfl)))))))))))))
theorem mw_h4_485 : Cond.code yX8_readType cX8_readType 1 none ∈ VS_h4 := List.mem_append_right _ (List.mem_append_right _ (List.mem_append_right _ (List.mem_append_right _ (List.mem_append_right _ (List.mem_append_right _ (List.mem_append_right _ (List.mem_append_right _ (List.mem_append_right _ (List.mem_append_right _ (List.mem_append_right _ (List.mem_append_right _ (List.mem_append_left _ (List.mem_of_getElem? (i := 5) rfl)))))))))))))
theorem mw_h4_486 : Cond.methodLink RX8 52 yX8_readType ∈ VS_h4 := List.mem_append_right _ (List.mem_append_right _ (List.mem_append_right _ (List.mem_append_right _ (List.mem_append_right _ (List.mem_append_right _ (List.mem_append_right _ (List.mem_append_right _ (List.mem_append_right _ (List.mem_append_right _ (List.mem_append_right _ (List.mem_append_right _ (List.mem_append_left _ (List.mem_of_getElem? (i := 6) rfl)))))))))))))
theorem mw_h4_487 : Cond.instanceMethod yX8_readType ∈ VS_h4 := List.mem_append_right _ (List.mem_append_right _ (List.mem_append_right _ (List.mem_append_right _ (List.mem_append_right _ (List.mem_append_right _ (List.mem_append_right _ (List.mem_append_right _ (List.mem_append_right _ (List.mem_append_right _ (List.mem_append_right _ (List.mem_append_right _ (List.mem_append_left _ (List.mem_of_getElem? (i := 7) rfl)))))))))))))
theorem mw_h4_488 : Cond.selects RX8 yX8_readType yX8_readType ∈ VS_h4 := List.mem_append_right _ (List.mem_append_right _ (List.mem_append_right _ (List.mem_append_right _ (List.mem_append_right _ (List.mem_append_right _ (List.mem_append_right _ (List.mem_append_right _ (List.mem_append_right _ (List.mem_append_right _ (List.mem_append_right _ (List.mem_append_right _ (List.mem_append_left _ (List.mem_of_getElem? (i := 8) rfl)))))))))))))
theorem mw_h4_489 : Cond.methodLink RX8 93 yX9_level ∈ VS_h4 := List.mem_append_right _ (List.mem_append_right _ (List.mem_append_right _ (List.mem_append_right _ (List.mem_append_right _ (List.mem_append_right _ (List.mem_append_right _ (List.mem_append_right _ (List.mem_append_right _ (List.mem_append_right _ (List.mem_append_right _ (List.mem_append_right _ (List.mem_append_left _ (List.mem_of_getElem? (i := 9) rfl)))))))))))))
theorem mw_h4_490 : Cond.code yX9_beginsCast cX9_beginsCast 1 (some .boolean) ∈ VS_h4 := List.mem_append_right _ (List.mem_append_right _ (List.mem_append_right _ (List.mem_append_right _ (List.mem_append_right _ (List.mem_append_right _ (List.mem_append_right _ (List.mem_append_right _ (List.mem_append_right _ (List.mem_append_right _ (List.mem_append_right _ (List.mem_append_right _ (List.mem_append_left _ (List.mem_of_getElem? (i := 10) rfl)))))))))))))
theorem mw_h4_491 : Cond.methodLink RX8 97 yX9_beginsCast ∈ VS_h4 := List.mem_append_right _ (List.mem_append_right _ (List.mem_append_right _ (List.mem_append_right _ (List.mem_append_right _ (List.mem_append_right _ (List.mem_append_right _ (List.mem_append_right _ (List.mem_append_right _ (List.mem_append_right _ (List.mem_append_right _ (List.mem_append_right _ (List.mem_append_left _ (List.mem_of_getElem? (i := 11) rfl)))))))))))))
theorem mw_h4_492 : Cond.instanceMethod yX9_beginsCast ∈ VS_h4 := List.mem_append_right _ (List.mem_append_right _ (List.mem_append_right _ (List.mem_append_right _ (List.mem_append_right _ (List.mem_append_right _ (List.mem_append_right _ (List.mem_append_right _ (List.mem_append_right _ (List.mem_append_right _ (List.mem_append_right _ (List.mem_append_right _ (List.mem_append_left _ (List.mem_of_getElem? (i := 12) rfl)))))))))))))
theorem mw_h4_493 : Cond.selects RX9 yX9_beginsCast yX9_beginsCast ∈ VS_h4 := List.mem_append_right _ (List.mem_append_right _ (List.mem_append_right _ (List.mem_append_right _ (List.mem_append_right _ (List.mem_append_right _ (List.mem_append_right _ (List.mem_append_right _ (List.mem_append_right _ (List.mem_append_right _ (List.mem_append_right _ (List.mem_append_right _ (List.mem_append_left _ (List.mem_of_getElem? (i := 13) rfl)))))))))))))
theorem uV_h4_X9 : ∀ w ∈ u_ws RX9 TX9 13, w ∈ VS_h4 := fun w h => List.mem_append_right _ (List.mem_append_right _ (List.mem_append_right _ (List.mem_append_right _ (List.mem_append_right _ (List.mem_append_right _ (List.mem_append_right _ (List.mem_append_right _ (List.mem_append_right _ (List.mem_append_right _ (List.mem_append_right _ (List.mem_append_right _ (List.mem_append_right _ (List.mem_append_left _ (h))))))))))))))
theorem uV_h4_X6 : ∀ w ∈ u_ws RX6 TX6 8, w ∈ VS_h4 := fun w h => List.mem_append_right _ (List.mem_append_right _ (List.mem_append_right _ (List.mem_append_right _ (List.mem_append_right _ (List.mem_append_right _ (List.mem_append_right _ (List.mem_append_right _ (List.mem_append_right _ (List.mem_append_right _ (List.mem_append_right _ (List.mem_append_right _ (List.mem_append_right _ (List.mem_append_right _ (List.mem_append_left _ (h)))))))))))))))
theorem uV_h4_X1 : ∀ w ∈ u_ws RX1 TX1 16, w ∈ VS_h4 := fun w h => List.mem_append_right _ (List.mem_append_right _ (List.mem_append_right _ (List.mem_append_right _ (List.mem_append_right _ (List.mem_append_right _ (List.mem_append_right _ (List.mem_append_right _ (List.mem_append_right _ (List.mem_append_right _ (List.mem_append_right _ (List.mem_append_right _ (List.mem_append_right _ (List.mem_append_right _ (List.mem_append_right _ (List.mem_append_left _ (h))))))))))))))))
theorem uV_h4_X2 : ∀ w ∈ u_ws RX2 TX2 21, w ∈ VS_h4 := fun w h => List.mem_append_right _ (List.mem_append_right _ (List.mem_append_right _ (List.mem_append_right _ (List.mem_append_right _ (List.mem_append_right _ (List.mem_append_right _ (List.mem_append_right _ (List.mem_append_right _ (List.mem_append_right _ (List.mem_append_right _ (List.mem_append_right _ (List.mem_append_right _ (List.mem_append_right _ (List.mem_append_right _ (List.mem_append_right _ (List.mem_append_right _ (List.mem_append_left _ (h))))))))))))))))))
theorem uV_h4_X10 : ∀ w ∈ u_ws RX10 TX10 19, w ∈ VS_h4 := fun w h => List.mem_append_right _ (List.mem_append_right _ (List.mem_append_right _ (List.mem_append_right _ (List.mem_append_right _ (List.mem_append_right _ (List.mem_append_right _ (List.mem_append_right _ (List.mem_append_right _ (List.mem_append_right _ (List.mem_append_right _ (List.mem_append_right _ (List.mem_append_right _ (List.mem_append_right _ (List.mem_append_right _ (List.mem_append_right _ (List.mem_append_right _ (List.mem_append_right _ (List.mem_append_right _ (List.mem_append_left _ (h))))))))))))))))))))
theorem uV_h4_X0 : ∀ w ∈ u_ws RX0 TX0 13, w ∈ VS_h4 := fun w h => List.mem_append_right _ (List.mem_append_right _ (List.mem_append_right _ (List.mem_append_right _ (List.mem_append_right _ (List.mem_append_right _ (List.mem_append_right _ (List.mem_append_right _ (List.mem_append_right _ (List.mem_append_right _ (List.mem_append_right _ (List.mem_append_right _ (List.mem_append_right _ (List.mem_append_right _ (List.mem_append_right _ (List.mem_append_right _ (List.mem_append_right _ (List.mem_append_right _ (List.mem_append_right _ (List.mem_append_right _ (List.mem_append_left _ (h)))))))))))))))))))))
theorem uV_h4_X8 : ∀ w ∈ u_ws RX8 TX8 2, w ∈ VS_h4 := fun w h => List.mem_append_right _ (List.mem_append_right _ (List.mem_append_right _ (List.mem_append_right _ (List.mem_append_right _ (List.mem_append_right _ (List.mem_append_right _ (List.mem_append_right _ (List.mem_append_right _ (List.mem_append_right _ (List.mem_append_right _ (List.mem_append_right _ (List.mem_append_right _ (List.mem_append_right _ (List.mem_append_right _ (List.mem_append_right _ (List.mem_append_right _ (List.mem_append_right _ (List.mem_append_right _ (List.mem_append_right _ (List.mem_append_right _ (h)))))))))))))))))))))
set_option maxRecDepth 100000 in
theorem gs_h4 : GoodIn VS_h4 VS_h4 := vs_self (by decide +kernel)
set_option maxRecDepth 100000 in
theorem in_h4_VS_h3 : GoodIn VS_h4 VS_h3 := goodIn_sub (fun w h => List.mem_append_right _ (List.mem_append_right _ (List.mem_append_right _ (List.mem_append_right _ (List.mem_append_right _ (List.mem_append_right _ (List.mem_append_right _ (List.mem_append_right _ (List.mem_append_right _ (List.mem_append_right _ (List.mem_append_right _ (List.mem_append_right _ (List.mem_append_right _ (List.mem_append_right _ (List.mem_append_right _ (List.mem_append_right _ (List.mem_append_left _ (h)))))))))))))))))) (by decide +kernel)
set_option maxRecDepth 100000 in
theorem in_h4_VS_h2 : GoodIn VS_h4 VS_h2 := goodIn_sub (fun w h => List.mem_append_right _ (List.mem_append_right _ (List.mem_append_right _ (List.mem_append_right _ (List.mem_append_right _ (List.mem_append_right _ (List.mem_append_right _ (List.mem_append_right _ (List.mem_append_right _ (List.mem_append_right _ (List.mem_append_right _ (List.mem_append_right _ (List.mem_append_right _ (List.mem_append_right _ (List.mem_append_right _ (List.mem_append_right _ (List.mem_append_right _ (List.mem_append_right _ (List.mem_append_left _ (h)))))))))))))))))))) (by decide +kernel)
theorem gv_h4_0 : GoodIn VS_h4 (wsV RX9 89 RX9 yX9_nameLength (.code yX9_nameLength cX9_nameLength 2 (some .int) :: VS_h4)) := goodIn_app (vs_in4 mw_h4_10 mw_h4_11 mw_h4_12 mw_h4_13 (by decide +kernel)) (vs_cons mw_h4_9 (by decide +kernel) gs_h4)
theorem gv_h4_1 : GoodIn VS_h4 (va_wsS RX9 103 yX9_isLetter (.code yX9_isLetter cX9_isLetter 1 (some .boolean) :: VS_h4)) := goodIn_app (vs_in3 mw_h4_15 mw_h4_16 mw_h4_13 (by decide +kernel)) (vs_cons mw_h4_14 (by decide +kernel) gs_h4)
theorem gv_h4_2 : GoodIn VS_h4 (va_wsS RX9 110 yX9_isDigit (.code yX9_isDigit cX9_isDigit 1 (some .boolean) :: VS_h4)) := goodIn_app (vs_in3 mw_h4_18 mw_h4_19 mw_h4_13 (by decide +kernel)) (vs_cons mw_h4_17 (by decide +kernel) gs_h4)
theorem gv_h4_3 : GoodIn VS_h4 (va_wsS RX9 76 yX9_bucketOf (.code yX9_bucketOf cX9_bucketOf 3 (some .int) :: VS_h4)) := goodIn_app (vs_in3 mw_h4_21 mw_h4_22 mw_h4_13 (by decide +kernel)) (vs_cons mw_h4_20 (by decide +kernel) gs_h4)
theorem gv_h4_4 : GoodIn VS_h4 (wsV RX9 150 RX9 yX9_kind (.code yX9_kind cX9_kind 1 (some .int) :: VS_h4)) := goodIn_app (vs_in4 mw_h4_25 mw_h4_26 mw_h4_27 mw_h4_13 (by decide +kernel)) (vs_cons mw_h4_24 (by decide +kernel) gs_h4)
theorem gv_h4_5 : GoodIn VS_h4 (wsV RX9 153 RX9 yX9_kindAt (.code yX9_kindAt cX9_kindAt 2 (some .int) :: VS_h4)) := goodIn_app (vs_in4 mw_h4_29 mw_h4_30 mw_h4_31 mw_h4_13 (by decide +kernel)) (vs_cons mw_h4_28 (by decide +kernel) gs_h4)
theorem gv_h4_6 : GoodIn VS_h4 (va_wsS RX9 147 yX9_plainSignOf (.code yX9_plainSignOf cX9_plainSignOf 1 (some .int) :: VS_h4)) := goodIn_app (vs_in3 mw_h4_35 mw_h4_36 mw_h4_13 (by decide +kernel)) (vs_cons mw_h4_34 (by decide +kernel) gs_h4)
theorem gv_h4_7 : GoodIn VS_h4 (va_wsS RX9 116 yX9_signOf (.code yX9_signOf cX9_signOf 2 (some .int) :: VS_h4)) := goodIn_app (vs_in3 mw_h4_38 mw_h4_39 mw_h4_13 (by decide +kernel)) (vs_cons mw_h4_37 (by decide +kernel) gs_h4)
theorem gv_h4_8 : GoodIn VS_h4 (va_wsS RX9 120 yX9_signLength (.code yX9_signLength cX9_signLength 1 (some .int) :: VS_h4)) := goodIn_app (vs_in3 mw_h4_41 mw_h4_42 mw_h4_13 (by decide +kernel)) (vs_cons mw_h4_40 (by decide +kernel) gs_h4)
theorem gv_h4_9 : GoodIn VS_h4 (wsV RX9 99 RX9 yX9_addToken (.code yX9_addToken cX9_addToken 4 none :: VS_h4)) := goodIn_app (vs_in4 mw_h4_44 mw_h4_45 mw_h4_46 mw_h4_13 (by decide +kernel)) (vs_cons mw_h4_43 (by decide +kernel) gs_h4)
theorem gv_h4_10 : GoodIn VS_h4 (wsV RX6 45 RX6 yX6_put (.code yX6_put cX6_put 2 none :: VS_h4)) := goodIn_app (vs_in4 mw_h4_50 mw_h4_51 mw_h4_52 mw_h4_53 (by decide +kernel)) (vs_cons mw_h4_49 (by decide +kernel) gs_h4)
theorem gv_h4_11 : GoodIn VS_h4 (wsV RX6 107 RX9 yX9_nameLength (.code yX9_nameLength cX9_nameLength 2 (some .int) :: VS_h4)) := goodIn_app (vs_in4 mw_h4_54 mw_h4_11 mw_h4_12 mw_h4_13 (by decide +kernel)) (vs_cons mw_h4_9 (by decide +kernel) gs_h4)
theorem gv_h4_12 : GoodIn VS_h4 (wsV RX6 90 RX6 yX6_bytesOf (.code yX6_bytesOf cX6_bytesOf 3 (some .int) :: VS_h4)) := goodIn_app (vs_in4 mw_h4_57 mw_h4_58 mw_h4_59 mw_h4_53 (by decide +kernel)) (vs_cons mw_h4_56 (by decide +kernel) gs_h4)
theorem gv_h4_13 : GoodIn VS_h4 (wsV RX6 66 RX6 yX6_constant (.code yX6_constant cX6_constant 4 (some .int) :: VS_h4)) := goodIn_app (vs_in4 mw_h4_65 mw_h4_66 mw_h4_67 mw_h4_53 (by decide +kernel)) (vs_cons mw_h4_64 (by decide +kernel) gs_h4)
theorem gv_h4_14 : GoodIn VS_h4 (wsV RX6 86 RX6 yX6_imageSize (.code yX6_imageSize cX6_imageSize 3 (some .int) :: VS_h4)) := goodIn_app (vs_in4 mw_h4_69 mw_h4_70 mw_h4_71 mw_h4_53 (by decide +kernel)) (vs_cons mw_h4_68 (by decide +kernel) gs_h4)
theorem gv_h4_15 : GoodIn VS_h4 (wsV RX1 65 RX1 yX1_op (.code yX1_op cX1_op 2 none :: VS_h4)) := goodIn_app (vs_in4 mw_h4_82 mw_h4_83 mw_h4_84 mw_h4_85 (by decide +kernel)) (vs_cons mw_h4_81 (by decide +kernel) gs_h4)
theorem gv_h4_16 : GoodIn VS_h4 (va_wsS RX1 80 yX4_isNumber (.code yX4_isNumber cX4_isNumber 1 (some .boolean) :: VS_h3)) := goodIn_app (vs_in3 mw_h4_97 mw_h4_98 mw_h4_99 (by decide +kernel)) (vs_cons mw_h4_96 (by decide +kernel) in_h4_VS_h3)
theorem gv_h4_17 : GoodIn VS_h4 (wsV RX1 84 RX1 yX1_op_ (.code yX1_op_ cX1_op_ 3 none :: VS_h4)) := goodIn_app (vs_in4 mw_h4_101 mw_h4_102 mw_h4_103 mw_h4_85 (by decide +kernel)) (vs_cons mw_h4_100 (by decide +kernel) gs_h4)
theorem gv_h4_18 : GoodIn VS_h4 (wsV RX1 87 RX1 yX1_pop (.code yX1_pop cX1_pop 2 none :: VS_h4)) := goodIn_app (vs_in4 mw_h4_105 mw_h4_106 mw_h4_107 mw_h4_85 (by decide +kernel)) (vs_cons mw_h4_104 (by decide +kernel) gs_h4)
theorem gv_h4_19 : GoodIn VS_h4 (wsV RX1 90 RX1 yX1_jump (.code yX1_jump cX1_jump 4 (some .int) :: VS_h4)) := goodIn_app (vs_in4 mw_h4_109 mw_h4_110 mw_h4_111 mw_h4_85 (by decide +kernel)) (vs_cons mw_h4_108 (by decide +kernel) gs_h4)
theorem gv_h4_20 : GoodIn VS_h4 (wsV RX1 104 RX1 yX1_push (.code yX1_push cX1_push 2 none :: VS_h4)) := goodIn_app (vs_in4 mw_h4_113 mw_h4_114 mw_h4_115 mw_h4_85 (by decide +kernel)) (vs_cons mw_h4_112 (by decide +kernel) gs_h4)
theorem gv_h4_21 : GoodIn VS_h4 (wsV RX1 116 RX6 yX6_put (.code yX6_put cX6_put 2 none :: VS_h4)) := goodIn_app (vs_in4 mw_h4_116 mw_h4_51 mw_h4_52 mw_h4_53 (by decide +kernel)) (vs_cons mw_h4_49 (by decide +kernel) gs_h4)
theorem gv_h4_22 : GoodIn VS_h4 (wsV RX1 121 RX6 yX6_putPair (.code yX6_putPair cX6_putPair 2 none :: VS_h4)) := goodIn_app (vs_in4 mw_h4_118 mw_h4_119 mw_h4_120 mw_h4_53 (by decide +kernel)) (vs_cons mw_h4_117 (by decide +kernel) gs_h4)
theorem gv_h4_23 : GoodIn VS_h4 (wsV RX1 93 RX1 yX1_aimAt (.code yX1_aimAt cX1_aimAt 4 none :: VS_h4)) := goodIn_app (vs_in4 mw_h4_122 mw_h4_123 mw_h4_124 mw_h4_85 (by decide +kernel)) (vs_cons mw_h4_121 (by decide +kernel) gs_h4)
theorem gv_h4_24 : GoodIn VS_h4 (va_wsS RX2 160 yX4_isArray (.code yX4_isArray cX4_isArray 1 (some .boolean) :: VS_h3)) := goodIn_app (vs_in3 mw_h4_130 mw_h4_131 mw_h4_99 (by decide +kernel)) (vs_cons mw_h4_129 (by decide +kernel) in_h4_VS_h3)
theorem gv_h4_25 : GoodIn VS_h4 (va_wsS RX2 166 yX4_isClass (.code yX4_isClass cX4_isClass 1 (some .boolean) :: VS_h2)) := goodIn_app (vs_in3 mw_h4_133 mw_h4_134 mw_h4_99 (by decide +kernel)) (vs_cons mw_h4_132 (by decide +kernel) in_h4_VS_h2)
theorem gv_h4_26 : GoodIn VS_h4 (wsV RX2 154 RX2 yX2_addKindByte (.code yX2_addKindByte cX2_addKindByte 2 none :: VS_h4)) := goodIn_app (vs_in4 mw_h4_136 mw_h4_137 mw_h4_138 mw_h4_139 (by decide +kernel)) (vs_cons mw_h4_135 (by decide +kernel) gs_h4)
theorem gv_h4_27 : GoodIn VS_h4 (wsV RX2 135 RX9 yX9_valueAt (.code yX9_valueAt cX9_valueAt 2 (some .int) :: VS_h4)) := goodIn_app (vs_in4 mw_h4_141 mw_h4_142 mw_h4_143 mw_h4_13 (by decide +kernel)) (vs_cons mw_h4_140 (by decide +kernel) gs_h4)
theorem gv_h4_28 : GoodIn VS_h4 (wsV RX2 115 RX9 yX9_kindAt (.code yX9_kindAt cX9_kindAt 2 (some .int) :: VS_h4)) := goodIn_app (vs_in4 mw_h4_144 mw_h4_30 mw_h4_31 mw_h4_13 (by decide +kernel)) (vs_cons mw_h4_28 (by decide +kernel) gs_h4)
theorem gv_h4_29 : GoodIn VS_h4 (wsV RX2 112 RX2 yX2_tokenOfClass (.code yX2_tokenOfClass cX2_tokenOfClass 2 (some .int) :: VS_h4)) := goodIn_app (vs_in4 mw_h4_149 mw_h4_150 mw_h4_151 mw_h4_139 (by decide +kernel)) (vs_cons mw_h4_148 (by decide +kernel) gs_h4)
theorem gv_h4_30 : GoodIn VS_h4 (wsV RX2 184 RX2 yX2_classAt (.code yX2_classAt cX2_classAt 3 (some .int) :: VS_h4)) := goodIn_app (vs_in4 mw_h4_153 mw_h4_154 mw_h4_155 mw_h4_139 (by decide +kernel)) (vs_cons mw_h4_152 (by decide +kernel) gs_h4)
theorem gv_h4_31 : GoodIn VS_h4 (wsV RX2 101 RX2 yX2_classAbove (.code yX2_classAbove cX2_classAbove 3 (some .int) :: VS_h4)) := goodIn_app (vs_in4 mw_h4_157 mw_h4_158 mw_h4_159 mw_h4_139 (by decide +kernel)) (vs_cons mw_h4_156 (by decide +kernel) gs_h4)
theorem gv_h4_32 : GoodIn VS_h4 (wsV RX2 121 RX9 yX9_kind (.code yX9_kind cX9_kind 1 (some .int) :: VS_h4)) := goodIn_app (vs_in4 mw_h4_160 mw_h4_26 mw_h4_27 mw_h4_13 (by decide +kernel)) (vs_cons mw_h4_24 (by decide +kernel) gs_h4)
theorem gv_h4_33 : GoodIn VS_h4 (wsV RX2 186 RX9 yX9_tell (.code yX9_tell cX9_tell 3 none :: VS_h4)) := goodIn_app (vs_in4 mw_h4_162 mw_h4_163 mw_h4_164 mw_h4_13 (by decide +kernel)) (vs_cons mw_h4_161 (by decide +kernel) gs_h4)
theorem gv_h4_34 : GoodIn VS_h4 (wsV RX2 192 RX2 yX2_readType (.code yX2_readType cX2_readType 5 (some .int) :: VS_h4)) := goodIn_app (vs_in4 mw_h4_167 mw_h4_168 mw_h4_169 mw_h4_139 (by decide +kernel)) (vs_cons mw_h4_166 (by decide +kernel) gs_h4)
theorem gv_h4_35 : GoodIn VS_h4 (wsV RX2 215 RX4 yX4_above (.code yX4_above cX4_above 2 (some .int) :: VS_h2)) := goodIn_app (vs_in4 mw_h4_174 mw_h4_175 mw_h4_176 mw_h4_99 (by decide +kernel)) (vs_cons mw_h4_173 (by decide +kernel) in_h4_VS_h2)
theorem gv_h4_36 : GoodIn VS_h4 (va_wsS RX2 224 yX2_isOwn (.code yX2_isOwn cX2_isOwn 1 (some .boolean) :: VS_h4)) := goodIn_app (vs_in3 mw_h4_182 mw_h4_183 mw_h4_139 (by decide +kernel)) (vs_cons mw_h4_181 (by decide +kernel) gs_h4)
theorem gv_h4_37 : GoodIn VS_h4 (wsV RX2 203 RX2 yX2_fieldIn (.code yX2_fieldIn cX2_fieldIn 4 (some .int) :: VS_h4)) := goodIn_app (vs_in4 mw_h4_185 mw_h4_186 mw_h4_187 mw_h4_139 (by decide +kernel)) (vs_cons mw_h4_184 (by decide +kernel) gs_h4)
theorem gv_h4_38 : GoodIn VS_h4 (wsV RX2 206 RX2 yX2_methodIn (.code yX2_methodIn cX2_methodIn 4 (some .int) :: VS_h4)) := goodIn_app (vs_in4 mw_h4_190 mw_h4_191 mw_h4_192 mw_h4_139 (by decide +kernel)) (vs_cons mw_h4_189 (by decide +kernel) gs_h4)
theorem gv_h4_39 : GoodIn VS_h4 (wsV RX2 128 RX2 yX2_isMethod (.code yX2_isMethod cX2_isMethod 2 (some .boolean) :: VS_h4)) := goodIn_app (vs_in4 mw_h4_197 mw_h4_198 mw_h4_199 mw_h4_139 (by decide +kernel)) (vs_cons mw_h4_196 (by decide +kernel) gs_h4)
theorem gv_h4_40 : GoodIn VS_h4 (wsV RX2 227 RX2 yX2_parametersOf (.code yX2_parametersOf cX2_parametersOf 2 (some .int) :: VS_h4)) := goodIn_app (vs_in4 mw_h4_204 mw_h4_205 mw_h4_206 mw_h4_139 (by decide +kernel)) (vs_cons mw_h4_203 (by decide +kernel) gs_h4)
theorem gv_h4_41 : GoodIn VS_h4 (wsV RX2 189 RX2 yX2_endsAbove (.code yX2_endsAbove cX2_endsAbove 4 (some .boolean) :: VS_h4)) := goodIn_app (vs_in4 mw_h4_208 mw_h4_209 mw_h4_210 mw_h4_139 (by decide +kernel)) (vs_cons mw_h4_207 (by decide +kernel) gs_h4)
theorem gv_h4_42 : GoodIn VS_h4 (wsV RX2 212 RX2 yX2_skipBlock (.code yX2_skipBlock cX2_skipBlock 4 none :: VS_h4)) := goodIn_app (vs_in4 mw_h4_212 mw_h4_213 mw_h4_214 mw_h4_139 (by decide +kernel)) (vs_cons mw_h4_211 (by decide +kernel) gs_h4)
theorem gv_h4_43 : GoodIn VS_h4 (wsV RX2 209 RX2 yX2_addParameter (.code yX2_addParameter cX2_addParameter 7 none :: VS_h4)) := goodIn_app (vs_in4 mw_h4_216 mw_h4_217 mw_h4_218 mw_h4_139 (by decide +kernel)) (vs_cons mw_h4_215 (by decide +kernel) gs_h4)
theorem gv_h4_44 : GoodIn VS_h4 (wsV RX2 218 RX2 yX2_nameOfMethod (.code yX2_nameOfMethod cX2_nameOfMethod 2 (some .int) :: VS_h4)) := goodIn_app (vs_in4 mw_h4_220 mw_h4_221 mw_h4_222 mw_h4_139 (by decide +kernel)) (vs_cons mw_h4_219 (by decide +kernel) gs_h4)
theorem gv_h4_45 : GoodIn VS_h4 (wsV RX2 221 RX2 yX2_methodOf (.code yX2_methodOf cX2_methodOf 6 (some .int) :: VS_h4)) := goodIn_app (vs_in4 mw_h4_224 mw_h4_225 mw_h4_226 mw_h4_139 (by decide +kernel)) (vs_cons mw_h4_223 (by decide +kernel) gs_h4)
theorem gv_h4_46 : GoodIn VS_h4 (wsV RX2 157 RX2 yX2_parameterType (.code yX2_parameterType cX2_parameterType 3 (some .int) :: VS_h4)) := goodIn_app (vs_in4 mw_h4_228 mw_h4_229 mw_h4_230 mw_h4_139 (by decide +kernel)) (vs_cons mw_h4_227 (by decide +kernel) gs_h4)
theorem gv_h4_47 : GoodIn VS_h4 (wsV RX6 76 RX2 yX2_isFixed (.code yX2_isFixed cX2_isFixed 2 (some .boolean) :: VS_h4)) := goodIn_app (vs_in4 mw_h4_232 mw_h4_233 mw_h4_234 mw_h4_139 (by decide +kernel)) (vs_cons mw_h4_231 (by decide +kernel) gs_h4)
theorem gv_h4_48 : GoodIn VS_h4 (wsV RX6 80 RX2 yX2_nameOfMethod (.code yX2_nameOfMethod cX2_nameOfMethod 2 (some .int) :: VS_h4)) := goodIn_app (vs_in4 mw_h4_235 mw_h4_221 mw_h4_222 mw_h4_139 (by decide +kernel)) (vs_cons mw_h4_219 (by decide +kernel) gs_h4)
theorem gv_h4_49 : GoodIn VS_h4 (wsV RX6 83 RX2 yX2_kindOfMethod (.code yX2_kindOfMethod cX2_kindOfMethod 2 (some .int) :: VS_h4)) := goodIn_app (vs_in4 mw_h4_237 mw_h4_238 mw_h4_239 mw_h4_139 (by decide +kernel)) (vs_cons mw_h4_236 (by decide +kernel) gs_h4)
theorem gv_h4_50 : GoodIn VS_h4 (wsV RX6 115 RX2 yX2_nameOfType (.code yX2_nameOfType cX2_nameOfType 3 (some .int) :: VS_h4)) := goodIn_app (vs_in4 mw_h4_242 mw_h4_243 mw_h4_244 mw_h4_139 (by decide +kernel)) (vs_cons mw_h4_241 (by decide +kernel) gs_h4)
theorem gv_h4_51 : GoodIn VS_h4 (wsV RX6 41 RX6 yX6_classOf (.code yX6_classOf cX6_classOf 2 (some .int) :: VS_h4)) := goodIn_app (vs_in4 mw_h4_246 mw_h4_247 mw_h4_248 mw_h4_53 (by decide +kernel)) (vs_cons mw_h4_245 (by decide +kernel) gs_h4)
theorem gv_h4_52 : GoodIn VS_h4 (wsV RX6 63 RX2 yX2_nameOfField (.code yX2_nameOfField cX2_nameOfField 2 (some .int) :: VS_h4)) := goodIn_app (vs_in4 mw_h4_250 mw_h4_251 mw_h4_252 mw_h4_139 (by decide +kernel)) (vs_cons mw_h4_249 (by decide +kernel) gs_h4)
theorem gv_h4_53 : GoodIn VS_h4 (wsV RX6 70 RX2 yX2_kindOfField (.code yX2_kindOfField cX2_kindOfField 2 (some .int) :: VS_h4)) := goodIn_app (vs_in4 mw_h4_254 mw_h4_255 mw_h4_256 mw_h4_139 (by decide +kernel)) (vs_cons mw_h4_253 (by decide +kernel) gs_h4)
theorem gv_h4_54 : GoodIn VS_h4 (wsV RX6 55 RX4 yX4_above (.code yX4_above cX4_above 2 (some .int) :: VS_h2)) := goodIn_app (vs_in4 mw_h4_257 mw_h4_175 mw_h4_176 mw_h4_99 (by decide +kernel)) (vs_cons mw_h4_173 (by decide +kernel) in_h4_VS_h2)
theorem gv_h4_55 : GoodIn VS_h4 (wsV RX6 58 RX2 yX2_fieldsOf (.code yX2_fieldsOf cX2_fieldsOf 2 (some .int) :: VS_h4)) := goodIn_app (vs_in4 mw_h4_259 mw_h4_260 mw_h4_261 mw_h4_139 (by decide +kernel)) (vs_cons mw_h4_258 (by decide +kernel) gs_h4)
theorem gv_h4_56 : GoodIn VS_h4 (wsV RX6 73 RX2 yX2_methodsOf (.code yX2_methodsOf cX2_methodsOf 2 (some .int) :: VS_h4)) := goodIn_app (vs_in4 mw_h4_263 mw_h4_264 mw_h4_265 mw_h4_139 (by decide +kernel)) (vs_cons mw_h4_262 (by decide +kernel) gs_h4)
theorem gv_h4_57 : GoodIn VS_h4 (wsV RX1 124 RX6 yX6_classOf (.code yX6_classOf cX6_classOf 2 (some .int) :: VS_h4)) := goodIn_app (vs_in4 mw_h4_267 mw_h4_247 mw_h4_248 mw_h4_53 (by decide +kernel)) (vs_cons mw_h4_245 (by decide +kernel) gs_h4)
theorem gv_h4_58 : GoodIn VS_h4 (wsV RX1 131 RX1 yX1_writeTypes (.code yX1_writeTypes cX1_writeTypes 6 none :: VS_h4)) := goodIn_app (vs_in4 mw_h4_270 mw_h4_271 mw_h4_272 mw_h4_85 (by decide +kernel)) (vs_cons mw_h4_269 (by decide +kernel) gs_h4)
theorem gv_h4_59 : GoodIn VS_h4 (wsV RX1 127 RX1 yX1_writeFrame (.code yX1_writeFrame cX1_writeFrame 6 none :: VS_h4)) := goodIn_app (vs_in4 mw_h4_275 mw_h4_276 mw_h4_277 mw_h4_85 (by decide +kernel)) (vs_cons mw_h4_274 (by decide +kernel) gs_h4)
theorem gv_h4_60 : GoodIn VS_h4 (va_wsS RX10 136 yX4_isReference (.code yX4_isReference cX4_isReference 1 (some .boolean) :: VS_h3)) := goodIn_app (vs_in3 mw_h4_283 mw_h4_284 mw_h4_99 (by decide +kernel)) (vs_cons mw_h4_282 (by decide +kernel) in_h4_VS_h3)
theorem gv_h4_61 : GoodIn VS_h4 (va_wsS RX10 143 yX4_isNumber (.code yX4_isNumber cX4_isNumber 1 (some .boolean) :: VS_h3)) := goodIn_app (vs_in3 mw_h4_285 mw_h4_98 mw_h4_99 (by decide +kernel)) (vs_cons mw_h4_96 (by decide +kernel) in_h4_VS_h3)
theorem gv_h4_62 : GoodIn VS_h4 (wsV RX10 140 RX4 yX4_oneFits (.code yX4_oneFits cX4_oneFits 3 (some .boolean) :: VS_h3)) := goodIn_app (vs_in4 mw_h4_287 mw_h4_288 mw_h4_289 mw_h4_99 (by decide +kernel)) (vs_cons mw_h4_286 (by decide +kernel) in_h4_VS_h3)
theorem gv_h4_63 : GoodIn VS_h4 (wsV RX10 93 RX9 yX9_kind (.code yX9_kind cX9_kind 1 (some .int) :: VS_h4)) := goodIn_app (vs_in4 mw_h4_291 mw_h4_26 mw_h4_27 mw_h4_13 (by decide +kernel)) (vs_cons mw_h4_24 (by decide +kernel) gs_h4)
theorem gv_h4_64 : GoodIn VS_h4 (va_wsS RX10 97 yX9_level (.code yX9_level cX9_level 1 (some .int) :: VS_h4)) := goodIn_app (vs_in3 mw_h4_293 mw_h4_294 mw_h4_13 (by decide +kernel)) (vs_cons mw_h4_292 (by decide +kernel) gs_h4)
theorem gv_h4_65 : GoodIn VS_h4 (wsV RX10 165 RX9 yX9_tell (.code yX9_tell cX9_tell 3 none :: VS_h4)) := goodIn_app (vs_in4 mw_h4_296 mw_h4_163 mw_h4_164 mw_h4_13 (by decide +kernel)) (vs_cons mw_h4_161 (by decide +kernel) gs_h4)
theorem gv_h4_66 : GoodIn VS_h4 (wsV RX10 80 RX10 yX10_wantType (.code yX10_wantType cX10_wantType 3 none :: VS_h4)) := goodIn_app (vs_in4 mw_h4_299 mw_h4_300 mw_h4_301 mw_h4_302 (by decide +kernel)) (vs_cons mw_h4_298 (by decide +kernel) gs_h4)
theorem gv_h4_67 : GoodIn VS_h4 (wsV RX10 86 RX1 yX1_jump (.code yX1_jump cX1_jump 4 (some .int) :: VS_h4)) := goodIn_app (vs_in4 mw_h4_303 mw_h4_110 mw_h4_111 mw_h4_85 (by decide +kernel)) (vs_cons mw_h4_108 (by decide +kernel) gs_h4)
theorem gv_h4_68 : GoodIn VS_h4 (wsV RX10 118 RX1 yX1_pop (.code yX1_pop cX1_pop 2 none :: VS_h4)) := goodIn_app (vs_in4 mw_h4_304 mw_h4_106 mw_h4_107 mw_h4_85 (by decide +kernel)) (vs_cons mw_h4_104 (by decide +kernel) gs_h4)
theorem gv_h4_69 : GoodIn VS_h4 (wsV RX10 181 RX2 yX2_classAt (.code yX2_classAt cX2_classAt 3 (some .int) :: VS_h4)) := goodIn_app (vs_in4 mw_h4_305 mw_h4_154 mw_h4_155 mw_h4_139 (by decide +kernel)) (vs_cons mw_h4_152 (by decide +kernel) gs_h4)
theorem gv_h4_70 : GoodIn VS_h4 (wsV RX10 130 RX1 yX1_push (.code yX1_push cX1_push 2 none :: VS_h4)) := goodIn_app (vs_in4 mw_h4_309 mw_h4_114 mw_h4_115 mw_h4_85 (by decide +kernel)) (vs_cons mw_h4_112 (by decide +kernel) gs_h4)
theorem gv_h4_71 : GoodIn VS_h4 (wsV RX10 179 RX1 yX1_op_ (.code yX1_op_ cX1_op_ 3 none :: VS_h4)) := goodIn_app (vs_in4 mw_h4_310 mw_h4_102 mw_h4_103 mw_h4_85 (by decide +kernel)) (vs_cons mw_h4_100 (by decide +kernel) gs_h4)
theorem gv_h4_72 : GoodIn VS_h4 (wsV RX10 162 RX1 yX1_op (.code yX1_op cX1_op 2 none :: VS_h4)) := goodIn_app (vs_in4 mw_h4_311 mw_h4_83 mw_h4_84 mw_h4_85 (by decide +kernel)) (vs_cons mw_h4_81 (by decide +kernel) gs_h4)
theorem gv_h4_73 : GoodIn VS_h4 (wsV RX10 171 RX10 yX10_wantKinOf (.code yX10_wantKinOf cX10_wantKinOf 3 none :: VS_h4)) := goodIn_app (vs_in4 mw_h4_313 mw_h4_314 mw_h4_315 mw_h4_302 (by decide +kernel)) (vs_cons mw_h4_312 (by decide +kernel) gs_h4)
theorem gv_h4_74 : GoodIn VS_h4 (wsV RX10 174 RX6 yX6_classOf (.code yX6_classOf cX6_classOf 2 (some .int) :: VS_h4)) := goodIn_app (vs_in4 mw_h4_316 mw_h4_247 mw_h4_248 mw_h4_53 (by decide +kernel)) (vs_cons mw_h4_245 (by decide +kernel) gs_h4)
theorem gv_h4_75 : GoodIn VS_h4 (wsV RX10 221 RX6 yX6_fieldOf (.code yX6_fieldOf cX6_fieldOf 5 (some .int) :: VS_h4)) := goodIn_app (vs_in4 mw_h4_321 mw_h4_322 mw_h4_323 mw_h4_53 (by decide +kernel)) (vs_cons mw_h4_320 (by decide +kernel) gs_h4)
theorem gv_h4_76 : GoodIn VS_h4 (wsV RX10 224 RX9 yX9_kindAt (.code yX9_kindAt cX9_kindAt 2 (some .int) :: VS_h4)) := goodIn_app (vs_in4 mw_h4_326 mw_h4_30 mw_h4_31 mw_h4_13 (by decide +kernel)) (vs_cons mw_h4_28 (by decide +kernel) gs_h4)
theorem gv_h4_77 : GoodIn VS_h4 (wsV RX10 227 RX9 yX9_valueAt (.code yX9_valueAt cX9_valueAt 2 (some .int) :: VS_h4)) := goodIn_app (vs_in4 mw_h4_327 mw_h4_142 mw_h4_143 mw_h4_13 (by decide +kernel)) (vs_cons mw_h4_140 (by decide +kernel) gs_h4)
theorem gv_h4_78 : GoodIn VS_h4 (wsV RX10 239 RX6 yX6_numberOf (.code yX6_numberOf cX6_numberOf 2 (some .int) :: VS_h4)) := goodIn_app (vs_in4 mw_h4_329 mw_h4_330 mw_h4_331 mw_h4_53 (by decide +kernel)) (vs_cons mw_h4_328 (by decide +kernel) gs_h4)
theorem gv_h4_79 : GoodIn VS_h4 (wsV RX10 233 RX10 yX10_give (.code yX10_give cX10_give 2 none :: VS_h4)) := goodIn_app (vs_in4 mw_h4_333 mw_h4_334 mw_h4_335 mw_h4_302 (by decide +kernel)) (vs_cons mw_h4_332 (by decide +kernel) gs_h4)
theorem gv_h4_80 : GoodIn VS_h4 (wsV RX10 168 RX10 yX10_readNamedClass (.code yX10_readNamedClass cX10_readNamedClass 4 (some .int) :: VS_h4)) := goodIn_app (vs_in4 mw_h4_337 mw_h4_338 mw_h4_339 mw_h4_302 (by decide +kernel)) (vs_cons mw_h4_336 (by decide +kernel) gs_h4)
theorem gv_h4_81 : GoodIn VS_h4 (wsV RX10 258 RX1 yX1_localOf (.code yX1_localOf cX1_localOf 3 (some .int) :: VS_h4)) := goodIn_app (vs_in4 mw_h4_341 mw_h4_342 mw_h4_343 mw_h4_85 (by decide +kernel)) (vs_cons mw_h4_340 (by decide +kernel) gs_h4)
theorem gv_h4_82 : GoodIn VS_h4 (wsV RX10 271 RX2 yX2_methodOf (.code yX2_methodOf cX2_methodOf 6 (some .int) :: VS_h4)) := goodIn_app (vs_in4 mw_h4_344 mw_h4_225 mw_h4_226 mw_h4_139 (by decide +kernel)) (vs_cons mw_h4_223 (by decide +kernel) gs_h4)
theorem gv_h4_83 : GoodIn VS_h4 (wsV RX10 274 RX2 yX2_typeOfField (.code yX2_typeOfField cX2_typeOfField 2 (some .int) :: VS_h4)) := goodIn_app (vs_in4 mw_h4_346 mw_h4_347 mw_h4_348 mw_h4_139 (by decide +kernel)) (vs_cons mw_h4_345 (by decide +kernel) gs_h4)
theorem gv_h4_84 : GoodIn VS_h4 (va_wsS RX10 242 yX4_isArray (.code yX4_isArray cX4_isArray 1 (some .boolean) :: VS_h3)) := goodIn_app (vs_in3 mw_h4_349 mw_h4_131 mw_h4_99 (by decide +kernel)) (vs_cons mw_h4_129 (by decide +kernel) in_h4_VS_h3)
theorem gv_h4_85 : GoodIn VS_h4 (va_wsS RX10 277 yX4_isClass (.code yX4_isClass cX4_isClass 1 (some .boolean) :: VS_h2)) := goodIn_app (vs_in3 mw_h4_350 mw_h4_134 mw_h4_99 (by decide +kernel)) (vs_cons mw_h4_132 (by decide +kernel) in_h4_VS_h2)
theorem gv_h4_86 : GoodIn VS_h4 (wsV RX10 261 RX2 yX2_fieldOf (.code yX2_fieldOf cX2_fieldOf 6 (some .int) :: VS_h4)) := goodIn_app (vs_in4 mw_h4_352 mw_h4_353 mw_h4_354 mw_h4_139 (by decide +kernel)) (vs_cons mw_h4_351 (by decide +kernel) gs_h4)
theorem gv_h4_87 : GoodIn VS_h4 (wsV RX10 265 RX10 yX10_nameField (.code yX10_nameField cX10_nameField 3 none :: VS_h4)) := goodIn_app (vs_in4 mw_h4_356 mw_h4_357 mw_h4_358 mw_h4_302 (by decide +kernel)) (vs_cons mw_h4_355 (by decide +kernel) gs_h4)
theorem gv_h4_88 : GoodIn VS_h4 (wsV RX10 251 RX2 yX2_isFixed (.code yX2_isFixed cX2_isFixed 2 (some .boolean) :: VS_h4)) := goodIn_app (vs_in4 mw_h4_359 mw_h4_233 mw_h4_234 mw_h4_139 (by decide +kernel)) (vs_cons mw_h4_231 (by decide +kernel) gs_h4)
theorem gv_h4_89 : GoodIn VS_h4 (wsV RX10 289 RX6 yX6_methodOf (.code yX6_methodOf cX6_methodOf 5 (some .int) :: VS_h4)) := goodIn_app (vs_in4 mw_h4_361 mw_h4_362 mw_h4_363 mw_h4_53 (by decide +kernel)) (vs_cons mw_h4_360 (by decide +kernel) gs_h4)
theorem gv_h4_90 : GoodIn VS_h4 (wsV RX10 290 RX2 yX2_resultOf (.code yX2_resultOf cX2_resultOf 2 (some .int) :: VS_h4)) := goodIn_app (vs_in4 mw_h4_365 mw_h4_366 mw_h4_367 mw_h4_139 (by decide +kernel)) (vs_cons mw_h4_364 (by decide +kernel) gs_h4)
theorem gv_h4_91 : GoodIn VS_h4 (wsV RX10 230 RX10 yX10_readNumber (.code yX10_readNumber cX10_readNumber 2 none :: VS_h4)) := goodIn_app (vs_in4 mw_h4_374 mw_h4_375 mw_h4_376 mw_h4_302 (by decide +kernel)) (vs_cons mw_h4_373 (by decide +kernel) gs_h4)
theorem gv_h4_92 : GoodIn VS_h4 (wsV RX10 236 RX10 yX10_giveThis (.code yX10_giveThis cX10_giveThis 2 none :: VS_h4)) := goodIn_app (vs_in4 mw_h4_378 mw_h4_379 mw_h4_380 mw_h4_302 (by decide +kernel)) (vs_cons mw_h4_377 (by decide +kernel) gs_h4)
theorem gv_h4_93 : GoodIn VS_h4 (wsV RX10 268 RX10 yX10_isCallBehindPoint (.code yX10_isCallBehindPoint cX10_isCallBehindPoint 2 (some .boolean) :: VS_h4)) := goodIn_app (vs_in4 mw_h4_382 mw_h4_383 mw_h4_384 mw_h4_302 (by decide +kernel)) (vs_cons mw_h4_381 (by decide +kernel) gs_h4)
theorem gv_h4_94 : GoodIn VS_h4 (wsV RX10 248 RX10 yX10_methodNamed (.code yX10_methodNamed cX10_methodNamed 4 (some .int) :: VS_h4)) := goodIn_app (vs_in4 mw_h4_386 mw_h4_387 mw_h4_388 mw_h4_302 (by decide +kernel)) (vs_cons mw_h4_385 (by decide +kernel) gs_h4)
theorem gv_h4_95 : GoodIn VS_h4 (wsV RX10 293 RX10 yX10_closeCall (.code yX10_closeCall cX10_closeCall 4 none :: VS_h4)) := goodIn_app (vs_in4 mw_h4_390 mw_h4_391 mw_h4_392 mw_h4_302 (by decide +kernel)) (vs_cons mw_h4_389 (by decide +kernel) gs_h4)
theorem gv_h4_96 : GoodIn VS_h4 (wsV RX10 286 RX2 yX2_parametersOf (.code yX2_parametersOf cX2_parametersOf 2 (some .int) :: VS_h4)) := goodIn_app (vs_in4 mw_h4_393 mw_h4_205 mw_h4_206 mw_h4_139 (by decide +kernel)) (vs_cons mw_h4_203 (by decide +kernel) gs_h4)
theorem gv_h4_97 : GoodIn VS_h4 (wsV RX0 69 RX9 yX9_tell (.code yX9_tell cX9_tell 3 none :: VS_h4)) := goodIn_app (vs_in4 mw_h4_395 mw_h4_163 mw_h4_164 mw_h4_13 (by decide +kernel)) (vs_cons mw_h4_161 (by decide +kernel) gs_h4)
theorem gv_h4_98 : GoodIn VS_h4 (wsV RX0 73 RX6 yX6_beginClass (.code yX6_beginClass cX6_beginClass 5 none :: VS_h4)) := goodIn_app (vs_in4 mw_h4_398 mw_h4_399 mw_h4_400 mw_h4_53 (by decide +kernel)) (vs_cons mw_h4_397 (by decide +kernel) gs_h4)
theorem gv_h4_99 : GoodIn VS_h4 (wsV RX0 77 RX6 yX6_isTooMuch (.code yX6_isTooMuch cX6_isTooMuch 1 (some .boolean) :: VS_h4)) := goodIn_app (vs_in4 mw_h4_403 mw_h4_404 mw_h4_405 mw_h4_53 (by decide +kernel)) (vs_cons mw_h4_402 (by decide +kernel) gs_h4)
theorem gv_h4_100 : GoodIn VS_h4 (wsV RX0 81 RX2 yX2_tokenOfClass (.code yX2_tokenOfClass cX2_tokenOfClass 2 (some .int) :: VS_h4)) := goodIn_app (vs_in4 mw_h4_406 mw_h4_150 mw_h4_151 mw_h4_139 (by decide +kernel)) (vs_cons mw_h4_148 (by decide +kernel) gs_h4)
theorem gv_h4_101 : GoodIn VS_h4 (wsV RX0 85 RX0 yX0_noteMuch (.code yX0_noteMuch cX0_noteMuch 3 none :: VS_h4)) := goodIn_app (vs_in4 mw_h4_408 mw_h4_409 mw_h4_410 mw_h4_411 (by decide +kernel)) (vs_cons mw_h4_407 (by decide +kernel) gs_h4)
theorem gv_h4_102 : GoodIn VS_h4 (wsV RX0 98 RX6 yX6_beginMethod (.code yX6_beginMethod cX6_beginMethod 2 none :: VS_h4)) := goodIn_app (vs_in4 mw_h4_413 mw_h4_414 mw_h4_415 mw_h4_53 (by decide +kernel)) (vs_cons mw_h4_412 (by decide +kernel) gs_h4)
theorem gv_h4_103 : GoodIn VS_h4 (wsV RX0 101 RX1 yX1_beginMethod (.code yX1_beginMethod cX1_beginMethod 1 none :: VS_h4)) := goodIn_app (vs_in4 mw_h4_417 mw_h4_418 mw_h4_419 mw_h4_85 (by decide +kernel)) (vs_cons mw_h4_416 (by decide +kernel) gs_h4)
theorem gv_h4_104 : GoodIn VS_h4 (wsV RX0 103 RX2 yX2_isFixed (.code yX2_isFixed cX2_isFixed 2 (some .boolean) :: VS_h4)) := goodIn_app (vs_in4 mw_h4_420 mw_h4_233 mw_h4_234 mw_h4_139 (by decide +kernel)) (vs_cons mw_h4_231 (by decide +kernel) gs_h4)
theorem gv_h4_105 : GoodIn VS_h4 (wsV RX0 107 RX10 yX10_beginMethod (.code yX10_beginMethod cX10_beginMethod 3 none :: VS_h4)) := goodIn_app (vs_in4 mw_h4_422 mw_h4_423 mw_h4_424 mw_h4_302 (by decide +kernel)) (vs_cons mw_h4_421 (by decide +kernel) gs_h4)
theorem gv_h4_106 : GoodIn VS_h4 (wsV RX0 110 RX1 yX1_addLocal (.code yX1_addLocal cX1_addLocal 4 (some .int) :: VS_h4)) := goodIn_app (vs_in4 mw_h4_426 mw_h4_427 mw_h4_428 mw_h4_85 (by decide +kernel)) (vs_cons mw_h4_425 (by decide +kernel) gs_h4)
theorem gv_h4_107 : GoodIn VS_h4 (wsV RX0 114 RX2 yX2_parametersOf (.code yX2_parametersOf cX2_parametersOf 2 (some .int) :: VS_h4)) := goodIn_app (vs_in4 mw_h4_429 mw_h4_205 mw_h4_206 mw_h4_139 (by decide +kernel)) (vs_cons mw_h4_203 (by decide +kernel) gs_h4)
theorem gv_h4_108 : GoodIn VS_h4 (wsV RX0 123 RX2 yX2_resultOf (.code yX2_resultOf cX2_resultOf 2 (some .int) :: VS_h4)) := goodIn_app (vs_in4 mw_h4_430 mw_h4_366 mw_h4_367 mw_h4_139 (by decide +kernel)) (vs_cons mw_h4_364 (by decide +kernel) gs_h4)
theorem gv_h4_109 : GoodIn VS_h4 (wsV RX0 135 RX2 yX2_bodyOf (.code yX2_bodyOf cX2_bodyOf 2 (some .int) :: VS_h4)) := goodIn_app (vs_in4 mw_h4_432 mw_h4_433 mw_h4_434 mw_h4_139 (by decide +kernel)) (vs_cons mw_h4_431 (by decide +kernel) gs_h4)
theorem gv_h4_110 : GoodIn VS_h4 (wsV RX0 158 RX9 yX9_kind (.code yX9_kind cX9_kind 1 (some .int) :: VS_h4)) := goodIn_app (vs_in4 mw_h4_435 mw_h4_26 mw_h4_27 mw_h4_13 (by decide +kernel)) (vs_cons mw_h4_24 (by decide +kernel) gs_h4)
theorem gv_h4_111 : GoodIn VS_h4 (wsV RX0 210 RX9 yX9_isWhileTrue (.code yX9_isWhileTrue cX9_isWhileTrue 1 (some .boolean) :: VS_h4)) := goodIn_app (vs_in4 mw_h4_437 mw_h4_438 mw_h4_439 mw_h4_13 (by decide +kernel)) (vs_cons mw_h4_436 (by decide +kernel) gs_h4)
theorem gv_h4_112 : GoodIn VS_h4 (wsV RX0 204 RX1 yX1_jump (.code yX1_jump cX1_jump 4 (some .int) :: VS_h4)) := goodIn_app (vs_in4 mw_h4_440 mw_h4_110 mw_h4_111 mw_h4_85 (by decide +kernel)) (vs_cons mw_h4_108 (by decide +kernel) gs_h4)
theorem gv_h4_113 : GoodIn VS_h4 (wsV RX0 147 RX1 yX1_op (.code yX1_op cX1_op 2 none :: VS_h4)) := goodIn_app (vs_in4 mw_h4_441 mw_h4_83 mw_h4_84 mw_h4_85 (by decide +kernel)) (vs_cons mw_h4_81 (by decide +kernel) gs_h4)
theorem gv_h4_114 : GoodIn VS_h4 (wsV RX0 233 RX9 yX9_valueAt (.code yX9_valueAt cX9_valueAt 2 (some .int) :: VS_h4)) := goodIn_app (vs_in4 mw_h4_442 mw_h4_142 mw_h4_143 mw_h4_13 (by decide +kernel)) (vs_cons mw_h4_140 (by decide +kernel) gs_h4)
theorem gv_h4_115 : GoodIn VS_h4 (wsV RX0 239 RX1 yX1_localOf (.code yX1_localOf cX1_localOf 3 (some .int) :: VS_h4)) := goodIn_app (vs_in4 mw_h4_443 mw_h4_342 mw_h4_343 mw_h4_85 (by decide +kernel)) (vs_cons mw_h4_340 (by decide +kernel) gs_h4)
theorem gv_h4_116 : GoodIn VS_h4 (wsV RX0 254 RX2 yX2_readType (.code yX2_readType cX2_readType 5 (some .int) :: VS_h4)) := goodIn_app (vs_in4 mw_h4_445 mw_h4_168 mw_h4_169 mw_h4_139 (by decide +kernel)) (vs_cons mw_h4_166 (by decide +kernel) gs_h4)
theorem gv_h4_117 : GoodIn VS_h4 (wsV RX0 226 RX0 yX0_checkTwice (.code yX0_checkTwice cX0_checkTwice 2 none :: VS_h4)) := goodIn_app (vs_in4 mw_h4_447 mw_h4_448 mw_h4_449 mw_h4_411 (by decide +kernel)) (vs_cons mw_h4_446 (by decide +kernel) gs_h4)
theorem gv_h4_118 : GoodIn VS_h4 (wsV RX0 251 RX1 yX1_pop (.code yX1_pop cX1_pop 2 none :: VS_h4)) := goodIn_app (vs_in4 mw_h4_450 mw_h4_106 mw_h4_107 mw_h4_85 (by decide +kernel)) (vs_cons mw_h4_104 (by decide +kernel) gs_h4)
theorem gv_h4_119 : GoodIn VS_h4 (wsV RX0 236 RX1 yX1_store (.code yX1_store cX1_store 3 none :: VS_h4)) := goodIn_app (vs_in4 mw_h4_455 mw_h4_456 mw_h4_457 mw_h4_85 (by decide +kernel)) (vs_cons mw_h4_454 (by decide +kernel) gs_h4)
theorem gv_h4_120 : GoodIn VS_h4 (wsV RX0 276 RX6 yX6_fieldOf (.code yX6_fieldOf cX6_fieldOf 5 (some .int) :: VS_h4)) := goodIn_app (vs_in4 mw_h4_458 mw_h4_322 mw_h4_323 mw_h4_53 (by decide +kernel)) (vs_cons mw_h4_320 (by decide +kernel) gs_h4)
theorem gv_h4_121 : GoodIn VS_h4 (wsV RX0 279 RX1 yX1_op_ (.code yX1_op_ cX1_op_ 3 none :: VS_h4)) := goodIn_app (vs_in4 mw_h4_459 mw_h4_102 mw_h4_103 mw_h4_85 (by decide +kernel)) (vs_cons mw_h4_100 (by decide +kernel) gs_h4)
theorem gv_h4_122 : GoodIn VS_h4 (wsV RX8 23 RX9 yX9_kind (.code yX9_kind cX9_kind 1 (some .int) :: VS_h4)) := goodIn_app (vs_in4 mw_h4_460 mw_h4_26 mw_h4_27 mw_h4_13 (by decide +kernel)) (vs_cons mw_h4_24 (by decide +kernel) gs_h4)
theorem gv_h4_123 : GoodIn VS_h4 (wsV RX8 33 RX9 yX9_tellHere (.code yX9_tellHere cX9_tellHere 2 none :: VS_h4)) := goodIn_app (vs_in4 mw_h4_462 mw_h4_463 mw_h4_464 mw_h4_13 (by decide +kernel)) (vs_cons mw_h4_461 (by decide +kernel) gs_h4)
theorem gv_h4_124 : GoodIn VS_h4 (wsV RX8 37 RX8 yX8_need (.code yX8_need cX8_need 2 none :: VS_h4)) := goodIn_app (vs_in4 mw_h4_469 mw_h4_470 mw_h4_471 mw_h4_472 (by decide +kernel)) (vs_cons mw_h4_468 (by decide +kernel) gs_h4)
theorem gv_h4_125 : GoodIn VS_h4 (wsV RX8 40 RX2 yX2_addClass (.code yX2_addClass cX2_addClass 2 none :: VS_h4)) := goodIn_app (vs_in4 mw_h4_474 mw_h4_475 mw_h4_476 mw_h4_139 (by decide +kernel)) (vs_cons mw_h4_473 (by decide +kernel) gs_h4)
theorem gv_h4_126 : GoodIn VS_h4 (wsV RX8 45 RX8 yX8_accept (.code yX8_accept cX8_accept 2 (some .boolean) :: VS_h4)) := goodIn_app (vs_in4 mw_h4_478 mw_h4_479 mw_h4_480 mw_h4_472 (by decide +kernel)) (vs_cons mw_h4_477 (by decide +kernel) gs_h4)
theorem gv_h4_127 : GoodIn VS_h4 (wsV RX8 64 RX8 yX8_tooDeep (.code yX8_tooDeep cX8_tooDeep 2 (some .boolean) :: VS_h4)) := goodIn_app (vs_in4 mw_h4_482 mw_h4_483 mw_h4_484 mw_h4_472 (by decide +kernel)) (vs_cons mw_h4_481 (by decide +kernel) gs_h4)
theorem gv_h4_128 : GoodIn VS_h4 (wsV RX8 52 RX8 yX8_readType (.code yX8_readType cX8_readType 1 none :: VS_h4)) := goodIn_app (vs_in4 mw_h4_486 mw_h4_487 mw_h4_488 mw_h4_472 (by decide +kernel)) (vs_cons mw_h4_485 (by decide +kernel) gs_h4)
theorem gv_h4_129 : GoodIn VS_h4 (va_wsS RX8 93 yX9_level (.code yX9_level cX9_level 1 (some .int) :: VS_h4)) := goodIn_app (vs_in3 mw_h4_489 mw_h4_294 mw_h4_13 (by decide +kernel)) (vs_cons mw_h4_292 (by decide +kernel) gs_h4)
theorem gv_h4_130 : GoodIn VS_h4 (wsV RX8 97 RX9 yX9_beginsCast (.code yX9_beginsCast cX9_beginsCast 1 (some .boolean) :: VS_h4)) := goodIn_app (vs_in4 mw_h4_491 mw_h4_492 mw_h4_493 mw_h4_13 (by decide +kernel)) (vs_cons mw_h4_490 (by decide +kernel) gs_h4)
