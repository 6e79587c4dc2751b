abbrev cX13_among : ByteArray := prog_15_method_10_code
def yX13_among : MethodName := ⟨RX13, "among", "(Ljava/lang/String;II)I"⟩
abbrev cX13_signAt : ByteArray := prog_15_method_12_code
def yX13_signAt : MethodName := ⟨RX13, "signAt", "(I)I"⟩
abbrev cX13_tokenize : ByteArray := prog_15_method_13_code
def yX13_tokenize : MethodName := ⟨RX13, "tokenize", "()V"⟩
abbrev cX13_add : ByteArray := prog_15_method_14_code
def yX13_add : MethodName := ⟨RX13, "add", "(III)I"⟩
abbrev cX13_type : ByteArray := prog_15_method_23_code
def yX13_type : MethodName := ⟨RX13, "type", "()V"⟩
abbrev cX13_strength : ByteArray := prog_15_method_31_code
def yX13_strength : MethodName := ⟨RX13, "strength", "(I)I"⟩
abbrev cX13_isCast : ByteArray := prog_15_method_33_code
def yX13_isCast : MethodName := ⟨RX13, "isCast", "()Z"⟩
abbrev cX13_classOf : ByteArray := prog_15_method_40_code
def yX13_classOf : MethodName := ⟨RX13, "classOf", "(I)I"⟩
abbrev cX13_typeOf : ByteArray := prog_15_method_47_code
def yX13_typeOf : MethodName := ⟨RX13, "typeOf", "(IIZ)I"⟩
abbrev cX13_heads : ByteArray := prog_15_method_49_code
def yX13_heads : MethodName := ⟨RX13, "heads", "()V"⟩
abbrev cX13_memberHead : ByteArray := prog_15_method_50_code
def yX13_memberHead : MethodName := ⟨RX13, "memberHead", "(I)V"⟩
abbrev cX13_overrides : ByteArray := prog_15_method_51_code
def yX13_overrides : MethodName := ⟨RX13, "overrides", "(I)V"⟩
abbrev cX13_named : ByteArray := prog_15_method_65_code
def yX13_named : MethodName := ⟨RX13, "named", "(I)I"⟩
abbrev cX13_field : ByteArray := prog_15_method_67_code
def yX13_field : MethodName := ⟨RX13, "field", "(I)I"⟩
abbrev cX13_spellClass : ByteArray := prog_15_method_73_code
def yX13_spellClass : MethodName := ⟨RX13, "spellClass", "(I)V"⟩
abbrev cX13_spellKind : ByteArray := prog_15_method_74_code
def yX13_spellKind : MethodName := ⟨RX13, "spellKind", "(I)V"⟩
abbrev cX13_spelling : ByteArray := prog_15_method_75_code
def yX13_spelling : MethodName := ⟨RX13, "spelling", "()I"⟩
abbrev cX13_constant : ByteArray := prog_15_method_76_code
def yX13_constant : MethodName := ⟨RX13, "constant", "(IIII)I"⟩
abbrev cX13_classConstant : ByteArray := prog_15_method_77_code
def yX13_classConstant : MethodName := ⟨RX13, "classConstant", "(I)I"⟩
abbrev cX13_textOf : ByteArray := prog_15_method_78_code
def yX13_textOf : MethodName := ⟨RX13, "textOf", "(I)I"⟩
abbrev cX13_kindOf : ByteArray := prog_15_method_79_code
def yX13_kindOf : MethodName := ⟨RX13, "kindOf", "(I)I"⟩
abbrev cX13_memberConstant : ByteArray := prog_15_method_80_code
def yX13_memberConstant : MethodName := ⟨RX13, "memberConstant", "(II)I"⟩
abbrev cX13_stands : ByteArray := prog_15_method_86_code
def yX13_stands : MethodName := ⟨RX13, "stands", "(II)V"⟩
abbrev cX13_frame : ByteArray := prog_15_method_87_code
def yX13_frame : MethodName := ⟨RX13, "frame", "(I)V"⟩
abbrev cX13_number : ByteArray := prog_15_method_96_code
def yX13_number : MethodName := ⟨RX13, "number", "(I)V"⟩
abbrev cX13_truth : ByteArray := prog_15_method_101_code
def yX13_truth : MethodName := ⟨RX13, "truth", "(II)V"⟩
abbrev cX13_tellType : ByteArray := prog_15_method_107_code
def yX13_tellType : MethodName := ⟨RX13, "tellType", "(I)V"⟩
abbrev cX13_writeConstant : ByteArray := prog_15_method_109_code
def yX13_writeConstant : MethodName := ⟨RX13, "writeConstant", "(II)I"⟩
abbrev cX13_isName : ByteArray := prog_15_method_117_code
def yX13_isName : MethodName := ⟨RX13, "isName", "([III)Z"⟩
abbrev cX13_kindBytes : ByteArray := prog_15_method_118_code
def yX13_kindBytes : MethodName := ⟨RX13, "kindBytes", "([III)I"⟩
abbrev cX13_isFieldKind : ByteArray := prog_15_method_119_code
def yX13_isFieldKind : MethodName := ⟨RX13, "isFieldKind", "([III)Z"⟩
abbrev cX13_parametersIn : ByteArray := prog_15_method_120_code
def yX13_parametersIn : MethodName := ⟨RX13, "parametersIn", "([III)I"⟩
abbrev cX13_isMethodKind : ByteArray := prog_15_method_121_code
def yX13_isMethodKind : MethodName := ⟨RX13, "isMethodKind", "([III)Z"⟩
abbrev cX13_isClassText : ByteArray := prog_15_method_122_code
def yX13_isClassText : MethodName := ⟨RX13, "isClassText", "([III)Z"⟩
abbrev cX13_isText : ByteArray := prog_15_method_123_code
def yX13_isText : MethodName := ⟨RX13, "isText", "(II)Z"⟩
abbrev cX13_scan : ByteArray := prog_15_method_126_code
def yX13_scan : MethodName := ⟨RX13, "scan", "(I)V"⟩
abbrev cX13_scanConstant : ByteArray := prog_15_method_127_code
def yX13_scanConstant : MethodName := ⟨RX13, "scanConstant", "(I)I"⟩
abbrev cX13_checkConstant : ByteArray := prog_15_method_128_code
def yX13_checkConstant : MethodName := ⟨RX13, "checkConstant", "(I)V"⟩
abbrev cX13_scanFields : ByteArray := prog_15_method_129_code
def yX13_scanFields : MethodName := ⟨RX13, "scanFields", "(II)I"⟩
abbrev cX13_scanMethod : ByteArray := prog_15_method_130_code
def yX13_scanMethod : MethodName := ⟨RX13, "scanMethod", "(III)I"⟩
abbrev cX13_scanTypes : ByteArray := prog_15_method_131_code
def yX13_scanTypes : MethodName := ⟨RX13, "scanTypes", "(I)I"⟩
abbrev cX13_sameText : ByteArray := prog_15_method_132_code
def yX13_sameText : MethodName := ⟨RX13, "sameText", "(IIII)Z"⟩
abbrev cX13_isNamed : ByteArray := prog_15_method_133_code
def yX13_isNamed : MethodName := ⟨RX13, "isNamed", "(I[III)Z"⟩
abbrev cX13_classNamed : ByteArray := prog_15_method_135_code
def yX13_classNamed : MethodName := ⟨RX13, "classNamed", "([III)I"⟩
abbrev cX13_loaded : ByteArray := prog_15_method_137_code
def yX13_loaded : MethodName := ⟨RX13, "loaded", "()I"⟩
abbrev cX13_aside : ByteArray := prog_15_method_138_code
def yX13_aside : MethodName := ⟨RX13, "aside", "(I)V"⟩
abbrev cX13_again : ByteArray := prog_15_method_139_code
def yX13_again : MethodName := ⟨RX13, "again", "(I)V"⟩
abbrev cX13_load : ByteArray := prog_15_method_140_code
def yX13_load : MethodName := ⟨RX13, "load", "()I"⟩
abbrev cX13_keep : ByteArray := prog_15_method_141_code
def yX13_keep : MethodName := ⟨RX13, "keep", "(I)I"⟩
abbrev cX13_patch : ByteArray := prog_15_method_142_code
def yX13_patch : MethodName := ⟨RX13, "patch", "(III)Z"⟩
abbrev cX13_classAtText : ByteArray := prog_15_method_145_code
def yX13_classAtText : MethodName := ⟨RX13, "classAtText", "(II)I"⟩
abbrev cX13_superOf : ByteArray := prog_15_method_147_code
def yX13_superOf : MethodName := ⟨RX13, "superOf", "(I)I"⟩
abbrev cX13_isUnder : ByteArray := prog_15_method_148_code
def yX13_isUnder : MethodName := ⟨RX13, "isUnder", "(II)Z"⟩
abbrev cX13_nameNumber : ByteArray := prog_15_method_149_code
def yX13_nameNumber : MethodName := ⟨RX13, "nameNumber", "(II)I"⟩
abbrev cX13_typeAt : ByteArray := prog_15_method_150_code
def yX13_typeAt : MethodName := ⟨RX13, "typeAt", "(I)I"⟩
abbrev cX13_typeOfClass : ByteArray := prog_15_method_151_code
def yX13_typeOfClass : MethodName := ⟨RX13, "typeOfClass", "(II)I"⟩
abbrev cX13_kindType : ByteArray := prog_15_method_152_code
def yX13_kindType : MethodName := ⟨RX13, "kindType", "(II)I"⟩
abbrev cX13_goes : ByteArray := prog_15_method_155_code
def yX13_goes : MethodName := ⟨RX13, "goes", "(II)Z"⟩
abbrev cX13_holder : ByteArray := prog_15_method_157_code
def yX13_holder : MethodName := ⟨RX13, "holder", "(IIIZ)I"⟩
abbrev cX13_verify : ByteArray := prog_15_method_161_code
def yX13_verify : MethodName := ⟨RX13, "verify", "()I"⟩
abbrev cX13_kindsAreThere : ByteArray := prog_15_method_163_code
def yX13_kindsAreThere : MethodName := ⟨RX13, "kindsAreThere", "(I)Z"⟩
abbrev cX13_classFits : ByteArray := prog_15_method_164_code
def yX13_classFits : MethodName := ⟨RX13, "classFits", "(I)Z"⟩
abbrev cX13_framed : ByteArray := prog_15_method_174_code
def yX13_framed : MethodName := ⟨RX13, "framed", "(I)I"⟩
abbrev cX13_localsFit : ByteArray := prog_15_method_175_code
def yX13_localsFit : MethodName := ⟨RX13, "localsFit", "(I)Z"⟩
abbrev cX13_stackFits : ByteArray := prog_15_method_176_code
def yX13_stackFits : MethodName := ⟨RX13, "stackFits", "(I)Z"⟩
abbrev cX13_becomes : ByteArray := prog_15_method_177_code
def yX13_becomes : MethodName := ⟨RX13, "becomes", "(I)V"⟩
abbrev cX13_methodFits : ByteArray := prog_15_method_179_code
def yX13_methodFits : MethodName := ⟨RX13, "methodFits", "(II)Z"⟩
abbrev cX13_handlerFits : ByteArray := prog_15_method_180_code
def yX13_handlerFits : MethodName := ⟨RX13, "handlerFits", "(I)Z"⟩
abbrev cX13_frameIsThere : ByteArray := prog_15_method_181_code
def yX13_frameIsThere : MethodName := ⟨RX13, "frameIsThere", "(I)Z"⟩
abbrev cX13_flows : ByteArray := prog_15_method_182_code
def yX13_flows : MethodName := ⟨RX13, "flows", "(II)Z"⟩
abbrev cX13_handled : ByteArray := prog_15_method_183_code
def yX13_handled : MethodName := ⟨RX13, "handled", "(I)Z"⟩
abbrev cX13_right : ByteArray := prog_15_method_186_code
def yX13_right : MethodName := ⟨RX13, "right", "(I)Z"⟩
abbrev cX13_pullFit : ByteArray := prog_15_method_190_code
def yX13_pullFit : MethodName := ⟨RX13, "pullFit", "(I)Z"⟩
abbrev cX13_wanted : ByteArray := prog_15_method_192_code
def yX13_wanted : MethodName := ⟨RX13, "wanted", "(I)Z"⟩
abbrev cX13_calls : ByteArray := prog_15_method_193_code
def yX13_calls : MethodName := ⟨RX13, "calls", "(IZ)Z"⟩
abbrev cX13_start : ByteArray := prog_15_method_194_code
def yX13_start : MethodName := ⟨RX13, "start", "(II)Z"⟩
abbrev cX13_fieldsOf : ByteArray := prog_15_method_198_code
def yX13_fieldsOf : MethodName := ⟨RX13, "fieldsOf", "(I)I"⟩
abbrev cX13_make_ : ByteArray := prog_15_method_199_code
def yX13_make_ : MethodName := ⟨RX13, "make", "(II)I"⟩
abbrev cX13_isOne : ByteArray := prog_15_method_200_code
def yX13_isOne : MethodName := ⟨RX13, "isOne", "(II)Z"⟩
abbrev cX13_fails : ByteArray := prog_15_method_201_code
def yX13_fails : MethodName := ⟨RX13, "fails", "(I)V"⟩
abbrev cX13_thrown : ByteArray := prog_15_method_202_code
def yX13_thrown : MethodName := ⟨RX13, "thrown", "(I)V"⟩
abbrev cX13_reckon : ByteArray := prog_15_method_209_code
def yX13_reckon : MethodName := ⟨RX13, "reckon", "(III)I"⟩
abbrev cX13_jumps : ByteArray := prog_15_method_210_code
def yX13_jumps : MethodName := ⟨RX13, "jumps", "(I)Z"⟩
abbrev cX13_element : ByteArray := prog_15_method_211_code
def yX13_element : MethodName := ⟨RX13, "element", "(I)V"⟩
abbrev cX13_storesIn : ByteArray := prog_15_method_212_code
def yX13_storesIn : MethodName := ⟨RX13, "storesIn", "(II)Z"⟩
abbrev cX13_classIn : ByteArray := prog_15_method_213_code
def yX13_classIn : MethodName := ⟨RX13, "classIn", "(I)I"⟩
abbrev cX13_fieldOf : ByteArray := prog_15_method_215_code
def yX13_fieldOf : MethodName := ⟨RX13, "fieldOf", "(III)V"⟩
abbrev cX13_call : ByteArray := prog_15_method_216_code
def yX13_call : MethodName := ⟨RX13, "call", "(II)V"⟩
abbrev cX13_fresh_ : ByteArray := prog_15_method_219_code
def yX13_fresh_ : MethodName := ⟨RX13, "fresh", "(II)V"⟩
abbrev cX13_is : ByteArray := prog_15_method_220_code
def yX13_is : MethodName := ⟨RX13, "is", "(II)Z"⟩
abbrev cX13_look : ByteArray := prog_15_method_221_code
def yX13_look : MethodName := ⟨RX13, "look", "(I)I"⟩
abbrev cX13_type_ : ByteArray := prog_15_method_223_code
def yX13_type_ : MethodName := ⟨RX13, "type", "(II)I"⟩
theorem dX13_among_0 : decode cX13_among 0 = .ok (.iconst (-1), 1) := by decide +kernel
theorem dX13_among_1 : decode cX13_among 1 = .ok (.istore 4, 2) := by decide +kernel
theorem dX13_among_3 : decode cX13_among 3 = .ok (.iconst 0, 1) := by decide +kernel
theorem dX13_among_4 : decode cX13_among 4 = .ok (.istore 5, 2) := by decide +kernel
theorem dX13_among_6 : decode cX13_among 6 = .ok (.iload 5, 2) := by decide +kernel
theorem dX13_among_8 : decode cX13_among 8 = .ok (.iconst 1, 1) := by decide +kernel
theorem dX13_among_9 : decode cX13_among 9 = .ok (.iadd, 1) := by decide +kernel
theorem dX13_among_10 : decode cX13_among 10 = .ok (.aload_n 1, 1) := by decide +kernel
theorem dX13_among_11 : decode cX13_among 11 = .ok (.invokevirtual 328, 3) := by decide +kernel
theorem dX13_among_14 : decode cX13_among 14 = .ok (.if_icmp .ge 119, 3) := by decide +kernel
theorem dX13_among_17 : decode cX13_among 17 = .ok (.aload_n 1, 1) := by decide +kernel
theorem dX13_among_18 : decode cX13_among 18 = .ok (.iload 5, 2) := by decide +kernel
theorem dX13_among_20 : decode cX13_among 20 = .ok (.invokevirtual 334, 3) := by decide +kernel
theorem dX13_among_23 : decode cX13_among 23 = .ok (.bipush 32, 2) := by decide +kernel
theorem dX13_among_25 : decode cX13_among 25 = .ok (.if_icmp .eq 6, 3) := by decide +kernel
theorem dX13_among_28 : decode cX13_among 28 = .ok (.goto 99, 3) := by decide +kernel
theorem dX13_among_31 : decode cX13_among 31 = .ok (.iinc 4 1, 3) := by decide +kernel
theorem dX13_among_34 : decode cX13_among 34 = .ok (.iload 5, 2) := by decide +kernel
theorem dX13_among_36 : decode cX13_among 36 = .ok (.iload_n 3, 1) := by decide +kernel
theorem dX13_among_37 : decode cX13_among 37 = .ok (.iadd, 1) := by decide +kernel
theorem dX13_among_38 : decode cX13_among 38 = .ok (.iconst 1, 1) := by decide +kernel
theorem dX13_among_39 : decode cX13_among 39 = .ok (.iadd, 1) := by decide +kernel
theorem dX13_among_40 : decode cX13_among 40 = .ok (.aload_n 1, 1) := by decide +kernel
theorem dX13_among_41 : decode cX13_among 41 = .ok (.invokevirtual 328, 3) := by decide +kernel
theorem dX13_among_44 : decode cX13_among 44 = .ok (.if_icmp .ge 22, 3) := by decide +kernel
theorem dX13_among_47 : decode cX13_among 47 = .ok (.aload_n 1, 1) := by decide +kernel
theorem dX13_among_48 : decode cX13_among 48 = .ok (.iload 5, 2) := by decide +kernel
theorem dX13_among_50 : decode cX13_among 50 = .ok (.iload_n 3, 1) := by decide +kernel
theorem dX13_among_51 : decode cX13_among 51 = .ok (.iadd, 1) := by decide +kernel
theorem dX13_among_52 : decode cX13_among 52 = .ok (.iconst 1, 1) := by decide +kernel
theorem dX13_among_53 : decode cX13_among 53 = .ok (.iadd, 1) := by decide +kernel
theorem dX13_among_54 : decode cX13_among 54 = .ok (.invokevirtual 334, 3) := by decide +kernel
theorem dX13_among_57 : decode cX13_among 57 = .ok (.bipush 32, 2) := by decide +kernel
theorem dX13_among_59 : decode cX13_among 59 = .ok (.if_icmp .ne 7, 3) := by decide +kernel
theorem dX13_among_62 : decode cX13_among 62 = .ok (.iconst 1, 1) := by decide +kernel
theorem dX13_among_63 : decode cX13_among 63 = .ok (.goto 4, 3) := by decide +kernel
theorem dX13_among_66 : decode cX13_among 66 = .ok (.iconst 0, 1) := by decide +kernel
theorem dX13_among_67 : decode cX13_among 67 = .ok (.istore 6, 2) := by decide +kernel
theorem dX13_among_69 : decode cX13_among 69 = .ok (.iconst 0, 1) := by decide +kernel
theorem dX13_among_70 : decode cX13_among 70 = .ok (.istore 7, 2) := by decide +kernel
theorem dX13_among_72 : decode cX13_among 72 = .ok (.iload 7, 2) := by decide +kernel
theorem dX13_among_74 : decode cX13_among 74 = .ok (.iload_n 3, 1) := by decide +kernel
theorem dX13_among_75 : decode cX13_among 75 = .ok (.if_icmp .ge 44, 3) := by decide +kernel
theorem dX13_among_78 : decode cX13_among 78 = .ok (.iload 6, 2) := by decide +kernel
theorem dX13_among_80 : decode cX13_among 80 = .ok (.ifCond .eq 39, 3) := by decide +kernel
theorem dX13_among_83 : decode cX13_among 83 = .ok (.aload_n 1, 1) := by decide +kernel
theorem dX13_among_84 : decode cX13_among 84 = .ok (.iload 5, 2) := by decide +kernel
theorem dX13_among_86 : decode cX13_among 86 = .ok (.iconst 1, 1) := by decide +kernel
theorem dX13_among_87 : decode cX13_among 87 = .ok (.iadd, 1) := by decide +kernel
theorem dX13_among_88 : decode cX13_among 88 = .ok (.iload 7, 2) := by decide +kernel
theorem dX13_among_90 : decode cX13_among 90 = .ok (.iadd, 1) := by decide +kernel
theorem dX13_among_91 : decode cX13_among 91 = .ok (.invokevirtual 334, 3) := by decide +kernel
theorem dX13_among_94 : decode cX13_among 94 = .ok (.aload_n 0, 1) := by decide +kernel
theorem dX13_among_95 : decode cX13_among 95 = .ok (.getfield 13, 3) := by decide +kernel
theorem dX13_among_98 : decode cX13_among 98 = .ok (.iload_n 2, 1) := by decide +kernel
theorem dX13_among_99 : decode cX13_among 99 = .ok (.iload 7, 2) := by decide +kernel
theorem dX13_among_101 : decode cX13_among 101 = .ok (.iadd, 1) := by decide +kernel
theorem dX13_among_102 : decode cX13_among 102 = .ok (.iaload, 1) := by decide +kernel
theorem dX13_among_103 : decode cX13_among 103 = .ok (.if_icmp .ne 7, 3) := by decide +kernel
theorem dX13_among_106 : decode cX13_among 106 = .ok (.iconst 1, 1) := by decide +kernel
theorem dX13_among_107 : decode cX13_among 107 = .ok (.goto 4, 3) := by decide +kernel
theorem dX13_among_110 : decode cX13_among 110 = .ok (.iconst 0, 1) := by decide +kernel
theorem dX13_among_111 : decode cX13_among 111 = .ok (.istore 6, 2) := by decide +kernel
theorem dX13_among_113 : decode cX13_among 113 = .ok (.iinc 7 1, 3) := by decide +kernel
theorem dX13_among_116 : decode cX13_among 116 = .ok (.goto (-44), 3) := by decide +kernel
theorem dX13_among_119 : decode cX13_among 119 = .ok (.iload 6, 2) := by decide +kernel
theorem dX13_among_121 : decode cX13_among 121 = .ok (.ifCond .eq 6, 3) := by decide +kernel
theorem dX13_among_124 : decode cX13_among 124 = .ok (.iload 4, 2) := by decide +kernel
theorem dX13_among_126 : decode cX13_among 126 = .ok (.ireturn, 1) := by decide +kernel
theorem dX13_among_127 : decode cX13_among 127 = .ok (.iinc 5 1, 3) := by decide +kernel
theorem dX13_among_130 : decode cX13_among 130 = .ok (.goto (-124), 3) := by decide +kernel
theorem dX13_among_133 : decode cX13_among 133 = .ok (.iconst (-1), 1) := by decide +kernel
theorem dX13_among_134 : decode cX13_among 134 = .ok (.ireturn, 1) := by decide +kernel
theorem dX13_signAt_0 : decode cX13_signAt 0 = .ok (.aload_n 0, 1) := by decide +kernel
theorem dX13_signAt_1 : decode cX13_signAt 1 = .ok (.iload_n 1, 1) := by decide +kernel
theorem dX13_signAt_2 : decode cX13_signAt 2 = .ok (.invokevirtual 341, 3) := by decide +kernel
theorem dX13_signAt_5 : decode cX13_signAt 5 = .ok (.istore_n 2, 1) := by decide +kernel
theorem dX13_signAt_6 : decode cX13_signAt 6 = .ok (.aload_n 0, 1) := by decide +kernel
theorem dX13_signAt_7 : decode cX13_signAt 7 = .ok (.iload_n 1, 1) := by decide +kernel
theorem dX13_signAt_8 : decode cX13_signAt 8 = .ok (.iconst 1, 1) := by decide +kernel
theorem dX13_signAt_9 : decode cX13_signAt 9 = .ok (.iadd, 1) := by decide +kernel
theorem dX13_signAt_10 : decode cX13_signAt 10 = .ok (.invokevirtual 341, 3) := by decide +kernel
theorem dX13_signAt_13 : decode cX13_signAt 13 = .ok (.istore_n 3, 1) := by decide +kernel
theorem dX13_signAt_14 : decode cX13_signAt 14 = .ok (.iload_n 2, 1) := by decide +kernel
theorem dX13_signAt_15 : decode cX13_signAt 15 = .ok (.tableswitch 470 33 126 #[391, 470, 470, 470, 389, 459, 470, 389, 389, 389, 389, 389, 389, 389, 389, 470, 470, 470, 470, 470, 470, 470, 470, 470, 470, 389, 389, 403, 391, 421, 389, 470, 470, 470, 470, 470, 470, 470, 470, 470, 470, 470, 470, 470, 470, 470, 470, 470, 470, 470, 470, 470, 470, 470, 470, 470, 470, 470, 389, 470, 389, 389, 470, 470, 470, 470, 470, 470, 470, 470, 470, 470, 470, 470, 470, 470, 470, 470, 470, 470, 470, 470, 470, 470, 470, 470, 470, 470, 470, 470, 389, 459, 389, 389], 389) := by decide +kernel
theorem dX13_signAt_404 : decode cX13_signAt 404 = .ok (.iconst 1, 1) := by decide +kernel
theorem dX13_signAt_405 : decode cX13_signAt 405 = .ok (.ireturn, 1) := by decide +kernel
theorem dX13_signAt_406 : decode cX13_signAt 406 = .ok (.iload_n 3, 1) := by decide +kernel
theorem dX13_signAt_407 : decode cX13_signAt 407 = .ok (.bipush 61, 2) := by decide +kernel
theorem dX13_signAt_409 : decode cX13_signAt 409 = .ok (.if_icmp .ne 7, 3) := by decide +kernel
theorem dX13_signAt_412 : decode cX13_signAt 412 = .ok (.iconst 2, 1) := by decide +kernel
theorem dX13_signAt_413 : decode cX13_signAt 413 = .ok (.goto 4, 3) := by decide +kernel
theorem dX13_signAt_416 : decode cX13_signAt 416 = .ok (.iconst 1, 1) := by decide +kernel
theorem dX13_signAt_417 : decode cX13_signAt 417 = .ok (.ireturn, 1) := by decide +kernel
theorem dX13_signAt_418 : decode cX13_signAt 418 = .ok (.iload_n 3, 1) := by decide +kernel
theorem dX13_signAt_419 : decode cX13_signAt 419 = .ok (.bipush 61, 2) := by decide +kernel
theorem dX13_signAt_421 : decode cX13_signAt 421 = .ok (.if_icmp .eq 9, 3) := by decide +kernel
theorem dX13_signAt_424 : decode cX13_signAt 424 = .ok (.iload_n 3, 1) := by decide +kernel
theorem dX13_signAt_425 : decode cX13_signAt 425 = .ok (.bipush 60, 2) := by decide +kernel
theorem dX13_signAt_427 : decode cX13_signAt 427 = .ok (.if_icmp .ne 7, 3) := by decide +kernel
theorem dX13_signAt_430 : decode cX13_signAt 430 = .ok (.iconst 2, 1) := by decide +kernel
theorem dX13_signAt_431 : decode cX13_signAt 431 = .ok (.goto 4, 3) := by decide +kernel
theorem dX13_signAt_434 : decode cX13_signAt 434 = .ok (.iconst 1, 1) := by decide +kernel
theorem dX13_signAt_435 : decode cX13_signAt 435 = .ok (.ireturn, 1) := by decide +kernel
theorem dX13_signAt_436 : decode cX13_signAt 436 = .ok (.iload_n 3, 1) := by decide +kernel
theorem dX13_signAt_437 : decode cX13_signAt 437 = .ok (.bipush 62, 2) := by decide +kernel
theorem dX13_signAt_439 : decode cX13_signAt 439 = .ok (.if_icmp .ne 23, 3) := by decide +kernel
theorem dX13_signAt_442 : decode cX13_signAt 442 = .ok (.aload_n 0, 1) := by decide +kernel
theorem dX13_signAt_443 : decode cX13_signAt 443 = .ok (.iload_n 1, 1) := by decide +kernel
theorem dX13_signAt_444 : decode cX13_signAt 444 = .ok (.iconst 2, 1) := by decide +kernel
theorem dX13_signAt_445 : decode cX13_signAt 445 = .ok (.iadd, 1) := by decide +kernel
theorem dX13_signAt_446 : decode cX13_signAt 446 = .ok (.invokevirtual 341, 3) := by decide +kernel
theorem dX13_signAt_449 : decode cX13_signAt 449 = .ok (.bipush 62, 2) := by decide +kernel
theorem dX13_signAt_451 : decode cX13_signAt 451 = .ok (.if_icmp .ne 7, 3) := by decide +kernel
theorem dX13_signAt_454 : decode cX13_signAt 454 = .ok (.iconst 3, 1) := by decide +kernel
theorem dX13_signAt_455 : decode cX13_signAt 455 = .ok (.goto 18, 3) := by decide +kernel
theorem dX13_signAt_458 : decode cX13_signAt 458 = .ok (.iconst 2, 1) := by decide +kernel
theorem dX13_signAt_459 : decode cX13_signAt 459 = .ok (.goto 14, 3) := by decide +kernel
theorem dX13_signAt_462 : decode cX13_signAt 462 = .ok (.iload_n 3, 1) := by decide +kernel
theorem dX13_signAt_463 : decode cX13_signAt 463 = .ok (.bipush 61, 2) := by decide +kernel
theorem dX13_signAt_465 : decode cX13_signAt 465 = .ok (.if_icmp .ne 7, 3) := by decide +kernel
theorem dX13_signAt_468 : decode cX13_signAt 468 = .ok (.iconst 2, 1) := by decide +kernel
theorem dX13_signAt_469 : decode cX13_signAt 469 = .ok (.goto 4, 3) := by decide +kernel
theorem dX13_signAt_472 : decode cX13_signAt 472 = .ok (.iconst 1, 1) := by decide +kernel
theorem dX13_signAt_473 : decode cX13_signAt 473 = .ok (.ireturn, 1) := by decide +kernel
theorem dX13_signAt_474 : decode cX13_signAt 474 = .ok (.iload_n 3, 1) := by decide +kernel
theorem dX13_signAt_475 : decode cX13_signAt 475 = .ok (.iload_n 2, 1) := by decide +kernel
theorem dX13_signAt_476 : decode cX13_signAt 476 = .ok (.if_icmp .ne 7, 3) := by decide +kernel
theorem dX13_signAt_479 : decode cX13_signAt 479 = .ok (.iconst 2, 1) := by decide +kernel
theorem dX13_signAt_480 : decode cX13_signAt 480 = .ok (.goto 4, 3) := by decide +kernel
theorem dX13_signAt_483 : decode cX13_signAt 483 = .ok (.iconst 1, 1) := by decide +kernel
theorem dX13_signAt_484 : decode cX13_signAt 484 = .ok (.ireturn, 1) := by decide +kernel
theorem dX13_signAt_485 : decode cX13_signAt 485 = .ok (.iconst 0, 1) := by decide +kernel
theorem dX13_signAt_486 : decode cX13_signAt 486 = .ok (.ireturn, 1) := by decide +kernel
theorem dX13_tokenize_0 : decode cX13_tokenize 0 = .ok (.aload_n 0, 1) := by decide +kernel
theorem dX13_tokenize_1 : decode cX13_tokenize 1 = .ok (.iconst 0, 1) := by decide +kernel
theorem dX13_tokenize_2 : decode cX13_tokenize 2 = .ok (.putfield 338, 3) := by decide +kernel
theorem dX13_tokenize_5 : decode cX13_tokenize 5 = .ok (.iconst 0, 1) := by decide +kernel
theorem dX13_tokenize_6 : decode cX13_tokenize 6 = .ok (.istore_n 1, 1) := by decide +kernel
theorem dX13_tokenize_7 : decode cX13_tokenize 7 = .ok (.iload_n 1, 1) := by decide +kernel
theorem dX13_tokenize_8 : decode cX13_tokenize 8 = .ok (.aload_n 0, 1) := by decide +kernel
theorem dX13_tokenize_9 : decode cX13_tokenize 9 = .ok (.getfield 325, 3) := by decide +kernel
theorem dX13_tokenize_12 : decode cX13_tokenize 12 = .ok (.if_icmp .ge 421, 3) := by decide +kernel
theorem dX13_tokenize_15 : decode cX13_tokenize 15 = .ok (.aload_n 0, 1) := by decide +kernel
theorem dX13_tokenize_16 : decode cX13_tokenize 16 = .ok (.getfield 13, 3) := by decide +kernel
theorem dX13_tokenize_19 : decode cX13_tokenize 19 = .ok (.iload_n 1, 1) := by decide +kernel
theorem dX13_tokenize_20 : decode cX13_tokenize 20 = .ok (.iaload, 1) := by decide +kernel
theorem dX13_tokenize_21 : decode cX13_tokenize 21 = .ok (.istore_n 2, 1) := by decide +kernel
theorem dX13_tokenize_22 : decode cX13_tokenize 22 = .ok (.iload_n 2, 1) := by decide +kernel
theorem dX13_tokenize_23 : decode cX13_tokenize 23 = .ok (.bipush 32, 2) := by decide +kernel
theorem dX13_tokenize_25 : decode cX13_tokenize 25 = .ok (.if_icmp .eq 9, 3) := by decide +kernel
theorem dX13_tokenize_28 : decode cX13_tokenize 28 = .ok (.iload_n 2, 1) := by decide +kernel
theorem dX13_tokenize_29 : decode cX13_tokenize 29 = .ok (.bipush 10, 2) := by decide +kernel
theorem dX13_tokenize_31 : decode cX13_tokenize 31 = .ok (.if_icmp .ne 9, 3) := by decide +kernel
theorem dX13_tokenize_34 : decode cX13_tokenize 34 = .ok (.iinc 1 1, 3) := by decide +kernel
theorem dX13_tokenize_37 : decode cX13_tokenize 37 = .ok (.goto (-30), 3) := by decide +kernel
theorem dX13_tokenize_40 : decode cX13_tokenize 40 = .ok (.iload_n 2, 1) := by decide +kernel
theorem dX13_tokenize_41 : decode cX13_tokenize 41 = .ok (.bipush 47, 2) := by decide +kernel
theorem dX13_tokenize_43 : decode cX13_tokenize 43 = .ok (.if_icmp .ne 40, 3) := by decide +kernel
theorem dX13_tokenize_46 : decode cX13_tokenize 46 = .ok (.aload_n 0, 1) := by decide +kernel
theorem dX13_tokenize_47 : decode cX13_tokenize 47 = .ok (.iload_n 1, 1) := by decide +kernel
theorem dX13_tokenize_48 : decode cX13_tokenize 48 = .ok (.iconst 1, 1) := by decide +kernel
theorem dX13_tokenize_49 : decode cX13_tokenize 49 = .ok (.iadd, 1) := by decide +kernel
theorem dX13_tokenize_50 : decode cX13_tokenize 50 = .ok (.invokevirtual 341, 3) := by decide +kernel
theorem dX13_tokenize_53 : decode cX13_tokenize 53 = .ok (.bipush 47, 2) := by decide +kernel
theorem dX13_tokenize_55 : decode cX13_tokenize 55 = .ok (.if_icmp .ne 28, 3) := by decide +kernel
theorem dX13_tokenize_58 : decode cX13_tokenize 58 = .ok (.iload_n 1, 1) := by decide +kernel
theorem dX13_tokenize_59 : decode cX13_tokenize 59 = .ok (.aload_n 0, 1) := by decide +kernel
theorem dX13_tokenize_60 : decode cX13_tokenize 60 = .ok (.getfield 325, 3) := by decide +kernel
theorem dX13_tokenize_63 : decode cX13_tokenize 63 = .ok (.if_icmp .ge (-56), 3) := by decide +kernel
theorem dX13_tokenize_66 : decode cX13_tokenize 66 = .ok (.aload_n 0, 1) := by decide +kernel
theorem dX13_tokenize_67 : decode cX13_tokenize 67 = .ok (.getfield 13, 3) := by decide +kernel
theorem dX13_tokenize_70 : decode cX13_tokenize 70 = .ok (.iload_n 1, 1) := by decide +kernel
theorem dX13_tokenize_71 : decode cX13_tokenize 71 = .ok (.iaload, 1) := by decide +kernel
theorem dX13_tokenize_72 : decode cX13_tokenize 72 = .ok (.bipush 10, 2) := by decide +kernel
theorem dX13_tokenize_74 : decode cX13_tokenize 74 = .ok (.if_icmp .eq (-67), 3) := by decide +kernel
theorem dX13_tokenize_77 : decode cX13_tokenize 77 = .ok (.iinc 1 1, 3) := by decide +kernel
theorem dX13_tokenize_80 : decode cX13_tokenize 80 = .ok (.goto (-22), 3) := by decide +kernel
theorem dX13_tokenize_83 : decode cX13_tokenize 83 = .ok (.iconst 0, 1) := by decide +kernel
theorem dX13_tokenize_84 : decode cX13_tokenize 84 = .ok (.istore_n 3, 1) := by decide +kernel
theorem dX13_tokenize_85 : decode cX13_tokenize 85 = .ok (.iload_n 2, 1) := by decide +kernel
theorem dX13_tokenize_86 : decode cX13_tokenize 86 = .ok (.invokestatic 345, 3) := by decide +kernel
theorem dX13_tokenize_89 : decode cX13_tokenize 89 = .ok (.ifCond .eq 90, 3) := by decide +kernel
theorem dX13_tokenize_92 : decode cX13_tokenize 92 = .ok (.aload_n 0, 1) := by decide +kernel
theorem dX13_tokenize_93 : decode cX13_tokenize 93 = .ok (.iload_n 1, 1) := by decide +kernel
theorem dX13_tokenize_94 : decode cX13_tokenize 94 = .ok (.iload_n 3, 1) := by decide +kernel
theorem dX13_tokenize_95 : decode cX13_tokenize 95 = .ok (.iadd, 1) := by decide +kernel
theorem dX13_tokenize_96 : decode cX13_tokenize 96 = .ok (.invokevirtual 341, 3) := by decide +kernel
theorem dX13_tokenize_99 : decode cX13_tokenize 99 = .ok (.invokestatic 345, 3) := by decide +kernel
theorem dX13_tokenize_102 : decode cX13_tokenize 102 = .ok (.ifCond .ne 28, 3) := by decide +kernel
theorem dX13_tokenize_105 : decode cX13_tokenize 105 = .ok (.aload_n 0, 1) := by decide +kernel
theorem dX13_tokenize_106 : decode cX13_tokenize 106 = .ok (.iload_n 1, 1) := by decide +kernel
theorem dX13_tokenize_107 : decode cX13_tokenize 107 = .ok (.iload_n 3, 1) := by decide +kernel
theorem dX13_tokenize_108 : decode cX13_tokenize 108 = .ok (.iadd, 1) := by decide +kernel
theorem dX13_tokenize_109 : decode cX13_tokenize 109 = .ok (.invokevirtual 341, 3) := by decide +kernel
theorem dX13_tokenize_112 : decode cX13_tokenize 112 = .ok (.invokestatic 349, 3) := by decide +kernel
theorem dX13_tokenize_115 : decode cX13_tokenize 115 = .ok (.ifCond .ne 15, 3) := by decide +kernel
theorem dX13_tokenize_118 : decode cX13_tokenize 118 = .ok (.aload_n 0, 1) := by decide +kernel
theorem dX13_tokenize_119 : decode cX13_tokenize 119 = .ok (.iload_n 1, 1) := by decide +kernel
theorem dX13_tokenize_120 : decode cX13_tokenize 120 = .ok (.iload_n 3, 1) := by decide +kernel
theorem dX13_tokenize_121 : decode cX13_tokenize 121 = .ok (.iadd, 1) := by decide +kernel
theorem dX13_tokenize_122 : decode cX13_tokenize 122 = .ok (.invokevirtual 341, 3) := by decide +kernel
theorem dX13_tokenize_125 : decode cX13_tokenize 125 = .ok (.bipush 95, 2) := by decide +kernel
theorem dX13_tokenize_127 : decode cX13_tokenize 127 = .ok (.if_icmp .ne 9, 3) := by decide +kernel
theorem dX13_tokenize_130 : decode cX13_tokenize 130 = .ok (.iinc 3 1, 3) := by decide +kernel
theorem dX13_tokenize_133 : decode cX13_tokenize 133 = .ok (.goto (-41), 3) := by decide +kernel
theorem dX13_tokenize_136 : decode cX13_tokenize 136 = .ok (.aload_n 0, 1) := by decide +kernel
theorem dX13_tokenize_137 : decode cX13_tokenize 137 = .ok (.ldc_w 352, 3) := by decide +kernel
theorem dX13_tokenize_140 : decode cX13_tokenize 140 = .ok (.iload_n 1, 1) := by decide +kernel
theorem dX13_tokenize_141 : decode cX13_tokenize 141 = .ok (.iload_n 3, 1) := by decide +kernel
theorem dX13_tokenize_142 : decode cX13_tokenize 142 = .ok (.invokevirtual 354, 3) := by decide +kernel
theorem dX13_tokenize_145 : decode cX13_tokenize 145 = .ok (.istore 4, 2) := by decide +kernel
theorem dX13_tokenize_147 : decode cX13_tokenize 147 = .ok (.aload_n 0, 1) := by decide +kernel
theorem dX13_tokenize_148 : decode cX13_tokenize 148 = .ok (.iload 4, 2) := by decide +kernel
theorem dX13_tokenize_150 : decode cX13_tokenize 150 = .ok (.ifCond .lt 7, 3) := by decide +kernel
theorem dX13_tokenize_153 : decode cX13_tokenize 153 = .ok (.iconst 3, 1) := by decide +kernel
theorem dX13_tokenize_154 : decode cX13_tokenize 154 = .ok (.goto 15, 3) := by decide +kernel
theorem dX13_tokenize_157 : decode cX13_tokenize 157 = .ok (.iload_n 3, 1) := by decide +kernel
theorem dX13_tokenize_158 : decode cX13_tokenize 158 = .ok (.bipush 12, 2) := by decide +kernel
theorem dX13_tokenize_160 : decode cX13_tokenize 160 = .ok (.if_icmp .gt 7, 3) := by decide +kernel
theorem dX13_tokenize_163 : decode cX13_tokenize 163 = .ok (.iconst 1, 1) := by decide +kernel
theorem dX13_tokenize_164 : decode cX13_tokenize 164 = .ok (.goto 5, 3) := by decide +kernel
theorem dX13_tokenize_167 : decode cX13_tokenize 167 = .ok (.bipush 6, 2) := by decide +kernel
theorem dX13_tokenize_169 : decode cX13_tokenize 169 = .ok (.iload_n 1, 1) := by decide +kernel
theorem dX13_tokenize_170 : decode cX13_tokenize 170 = .ok (.iload_n 3, 1) := by decide +kernel
theorem dX13_tokenize_171 : decode cX13_tokenize 171 = .ok (.iload 4, 2) := by decide +kernel
theorem dX13_tokenize_173 : decode cX13_tokenize 173 = .ok (.invokevirtual 358, 3) := by decide +kernel
theorem dX13_tokenize_176 : decode cX13_tokenize 176 = .ok (.goto 202, 3) := by decide +kernel
theorem dX13_tokenize_179 : decode cX13_tokenize 179 = .ok (.iload_n 2, 1) := by decide +kernel
theorem dX13_tokenize_180 : decode cX13_tokenize 180 = .ok (.invokestatic 349, 3) := by decide +kernel
theorem dX13_tokenize_183 : decode cX13_tokenize 183 = .ok (.ifCond .eq 135, 3) := by decide +kernel
theorem dX13_tokenize_186 : decode cX13_tokenize 186 = .ok (.lconst 0, 1) := by decide +kernel
theorem dX13_tokenize_187 : decode cX13_tokenize 187 = .ok (.lstore 4, 2) := by decide +kernel
theorem dX13_tokenize_189 : decode cX13_tokenize 189 = .ok (.aload_n 0, 1) := by decide +kernel
theorem dX13_tokenize_190 : decode cX13_tokenize 190 = .ok (.iload_n 1, 1) := by decide +kernel
theorem dX13_tokenize_191 : decode cX13_tokenize 191 = .ok (.iload_n 3, 1) := by decide +kernel
theorem dX13_tokenize_192 : decode cX13_tokenize 192 = .ok (.iadd, 1) := by decide +kernel
theorem dX13_tokenize_193 : decode cX13_tokenize 193 = .ok (.invokevirtual 341, 3) := by decide +kernel
theorem dX13_tokenize_196 : decode cX13_tokenize 196 = .ok (.invokestatic 349, 3) := by decide +kernel
theorem dX13_tokenize_199 : decode cX13_tokenize 199 = .ok (.ifCond .eq 44, 3) := by decide +kernel
theorem dX13_tokenize_202 : decode cX13_tokenize 202 = .ok (.lload 4, 2) := by decide +kernel
theorem dX13_tokenize_204 : decode cX13_tokenize 204 = .ok (.ldc2_w 362, 3) := by decide +kernel
theorem dX13_tokenize_207 : decode cX13_tokenize 207 = .ok (.lcmp, 1) := by decide +kernel
theorem dX13_tokenize_208 : decode cX13_tokenize 208 = .ok (.ifCond .le 8, 3) := by decide +kernel
theorem dX13_tokenize_211 : decode cX13_tokenize 211 = .ok (.lload 4, 2) := by decide +kernel
theorem dX13_tokenize_213 : decode cX13_tokenize 213 = .ok (.goto 22, 3) := by decide +kernel
theorem dX13_tokenize_216 : decode cX13_tokenize 216 = .ok (.ldc2_w 364, 3) := by decide +kernel
theorem dX13_tokenize_219 : decode cX13_tokenize 219 = .ok (.lload 4, 2) := by decide +kernel
theorem dX13_tokenize_221 : decode cX13_tokenize 221 = .ok (.lmul, 1) := by decide +kernel
theorem dX13_tokenize_222 : decode cX13_tokenize 222 = .ok (.aload_n 0, 1) := by decide +kernel
theorem dX13_tokenize_223 : decode cX13_tokenize 223 = .ok (.iload_n 1, 1) := by decide +kernel
theorem dX13_tokenize_224 : decode cX13_tokenize 224 = .ok (.iload_n 3, 1) := by decide +kernel
theorem dX13_tokenize_225 : decode cX13_tokenize 225 = .ok (.iadd, 1) := by decide +kernel
theorem dX13_tokenize_226 : decode cX13_tokenize 226 = .ok (.invokevirtual 341, 3) := by decide +kernel
theorem dX13_tokenize_229 : decode cX13_tokenize 229 = .ok (.i2l, 1) := by decide +kernel
theorem dX13_tokenize_230 : decode cX13_tokenize 230 = .ok (.ladd, 1) := by decide +kernel
theorem dX13_tokenize_231 : decode cX13_tokenize 231 = .ok (.ldc2_w 366, 3) := by decide +kernel
theorem dX13_tokenize_234 : decode cX13_tokenize 234 = .ok (.lsub, 1) := by decide +kernel
theorem dX13_tokenize_235 : decode cX13_tokenize 235 = .ok (.lstore 4, 2) := by decide +kernel
theorem dX13_tokenize_237 : decode cX13_tokenize 237 = .ok (.iinc 3 1, 3) := by decide +kernel
theorem dX13_tokenize_240 : decode cX13_tokenize 240 = .ok (.goto (-51), 3) := by decide +kernel
theorem dX13_tokenize_243 : decode cX13_tokenize 243 = .ok (.lload 4, 2) := by decide +kernel
theorem dX13_tokenize_245 : decode cX13_tokenize 245 = .ok (.ldc2_w 368, 3) := by decide +kernel
theorem dX13_tokenize_248 : decode cX13_tokenize 248 = .ok (.lcmp, 1) := by decide +kernel
theorem dX13_tokenize_249 : decode cX13_tokenize 249 = .ok (.ifCond .gt 43, 3) := by decide +kernel
theorem dX13_tokenize_252 : decode cX13_tokenize 252 = .ok (.iload_n 3, 1) := by decide +kernel
theorem dX13_tokenize_253 : decode cX13_tokenize 253 = .ok (.iconst 1, 1) := by decide +kernel
theorem dX13_tokenize_254 : decode cX13_tokenize 254 = .ok (.if_icmp .eq 9, 3) := by decide +kernel
theorem dX13_tokenize_257 : decode cX13_tokenize 257 = .ok (.iload_n 2, 1) := by decide +kernel
theorem dX13_tokenize_258 : decode cX13_tokenize 258 = .ok (.bipush 48, 2) := by decide +kernel
theorem dX13_tokenize_260 : decode cX13_tokenize 260 = .ok (.if_icmp .eq 32, 3) := by decide +kernel
theorem dX13_tokenize_263 : decode cX13_tokenize 263 = .ok (.aload_n 0, 1) := by decide +kernel
theorem dX13_tokenize_264 : decode cX13_tokenize 264 = .ok (.iload_n 1, 1) := by decide +kernel
theorem dX13_tokenize_265 : decode cX13_tokenize 265 = .ok (.iload_n 3, 1) := by decide +kernel
theorem dX13_tokenize_266 : decode cX13_tokenize 266 = .ok (.iadd, 1) := by decide +kernel
theorem dX13_tokenize_267 : decode cX13_tokenize 267 = .ok (.invokevirtual 341, 3) := by decide +kernel
theorem dX13_tokenize_270 : decode cX13_tokenize 270 = .ok (.invokestatic 345, 3) := by decide +kernel
theorem dX13_tokenize_273 : decode cX13_tokenize 273 = .ok (.ifCond .ne 19, 3) := by decide +kernel
theorem dX13_tokenize_276 : decode cX13_tokenize 276 = .ok (.aload_n 0, 1) := by decide +kernel
theorem dX13_tokenize_277 : decode cX13_tokenize 277 = .ok (.iload_n 1, 1) := by decide +kernel
theorem dX13_tokenize_278 : decode cX13_tokenize 278 = .ok (.iload_n 3, 1) := by decide +kernel
theorem dX13_tokenize_279 : decode cX13_tokenize 279 = .ok (.iadd, 1) := by decide +kernel
theorem dX13_tokenize_280 : decode cX13_tokenize 280 = .ok (.invokevirtual 341, 3) := by decide +kernel
theorem dX13_tokenize_283 : decode cX13_tokenize 283 = .ok (.bipush 95, 2) := by decide +kernel
theorem dX13_tokenize_285 : decode cX13_tokenize 285 = .ok (.if_icmp .eq 7, 3) := by decide +kernel
theorem dX13_tokenize_288 : decode cX13_tokenize 288 = .ok (.iconst 1, 1) := by decide +kernel
theorem dX13_tokenize_289 : decode cX13_tokenize 289 = .ok (.goto 4, 3) := by decide +kernel
theorem dX13_tokenize_292 : decode cX13_tokenize 292 = .ok (.iconst 0, 1) := by decide +kernel
theorem dX13_tokenize_293 : decode cX13_tokenize 293 = .ok (.istore 6, 2) := by decide +kernel
theorem dX13_tokenize_295 : decode cX13_tokenize 295 = .ok (.aload_n 0, 1) := by decide +kernel
theorem dX13_tokenize_296 : decode cX13_tokenize 296 = .ok (.iload 6, 2) := by decide +kernel
theorem dX13_tokenize_298 : decode cX13_tokenize 298 = .ok (.ifCond .eq 7, 3) := by decide +kernel
theorem dX13_tokenize_301 : decode cX13_tokenize 301 = .ok (.iconst 2, 1) := by decide +kernel
theorem dX13_tokenize_302 : decode cX13_tokenize 302 = .ok (.goto 5, 3) := by decide +kernel
theorem dX13_tokenize_305 : decode cX13_tokenize 305 = .ok (.bipush 6, 2) := by decide +kernel
theorem dX13_tokenize_307 : decode cX13_tokenize 307 = .ok (.iload_n 1, 1) := by decide +kernel
theorem dX13_tokenize_308 : decode cX13_tokenize 308 = .ok (.iload_n 3, 1) := by decide +kernel
theorem dX13_tokenize_309 : decode cX13_tokenize 309 = .ok (.lload 4, 2) := by decide +kernel
theorem dX13_tokenize_311 : decode cX13_tokenize 311 = .ok (.l2i, 1) := by decide +kernel
theorem dX13_tokenize_312 : decode cX13_tokenize 312 = .ok (.invokevirtual 358, 3) := by decide +kernel
theorem dX13_tokenize_315 : decode cX13_tokenize 315 = .ok (.goto 63, 3) := by decide +kernel
theorem dX13_tokenize_318 : decode cX13_tokenize 318 = .ok (.aload_n 0, 1) := by decide +kernel
theorem dX13_tokenize_319 : decode cX13_tokenize 319 = .ok (.iload_n 1, 1) := by decide +kernel
theorem dX13_tokenize_320 : decode cX13_tokenize 320 = .ok (.invokevirtual 370, 3) := by decide +kernel
theorem dX13_tokenize_323 : decode cX13_tokenize 323 = .ok (.istore_n 3, 1) := by decide +kernel
theorem dX13_tokenize_324 : decode cX13_tokenize 324 = .ok (.iconst 0, 1) := by decide +kernel
theorem dX13_tokenize_325 : decode cX13_tokenize 325 = .ok (.istore 4, 2) := by decide +kernel
theorem dX13_tokenize_327 : decode cX13_tokenize 327 = .ok (.iconst 0, 1) := by decide +kernel
theorem dX13_tokenize_328 : decode cX13_tokenize 328 = .ok (.istore 5, 2) := by decide +kernel
theorem dX13_tokenize_330 : decode cX13_tokenize 330 = .ok (.iload 5, 2) := by decide +kernel
theorem dX13_tokenize_332 : decode cX13_tokenize 332 = .ok (.iload_n 3, 1) := by decide +kernel
theorem dX13_tokenize_333 : decode cX13_tokenize 333 = .ok (.if_icmp .ge 27, 3) := by decide +kernel
theorem dX13_tokenize_336 : decode cX13_tokenize 336 = .ok (.sipush 128, 3) := by decide +kernel
theorem dX13_tokenize_339 : decode cX13_tokenize 339 = .ok (.iload 4, 2) := by decide +kernel
theorem dX13_tokenize_341 : decode cX13_tokenize 341 = .ok (.imul, 1) := by decide +kernel
theorem dX13_tokenize_342 : decode cX13_tokenize 342 = .ok (.aload_n 0, 1) := by decide +kernel
theorem dX13_tokenize_343 : decode cX13_tokenize 343 = .ok (.getfield 13, 3) := by decide +kernel
theorem dX13_tokenize_346 : decode cX13_tokenize 346 = .ok (.iload_n 1, 1) := by decide +kernel
theorem dX13_tokenize_347 : decode cX13_tokenize 347 = .ok (.iload 5, 2) := by decide +kernel
theorem dX13_tokenize_349 : decode cX13_tokenize 349 = .ok (.iadd, 1) := by decide +kernel
theorem dX13_tokenize_350 : decode cX13_tokenize 350 = .ok (.iaload, 1) := by decide +kernel
theorem dX13_tokenize_351 : decode cX13_tokenize 351 = .ok (.iadd, 1) := by decide +kernel
theorem dX13_tokenize_352 : decode cX13_tokenize 352 = .ok (.istore 4, 2) := by decide +kernel
theorem dX13_tokenize_354 : decode cX13_tokenize 354 = .ok (.iinc 5 1, 3) := by decide +kernel
theorem dX13_tokenize_357 : decode cX13_tokenize 357 = .ok (.goto (-27), 3) := by decide +kernel
theorem dX13_tokenize_360 : decode cX13_tokenize 360 = .ok (.aload_n 0, 1) := by decide +kernel
theorem dX13_tokenize_361 : decode cX13_tokenize 361 = .ok (.iload_n 3, 1) := by decide +kernel
theorem dX13_tokenize_362 : decode cX13_tokenize 362 = .ok (.ifCond .le 7, 3) := by decide +kernel
theorem dX13_tokenize_365 : decode cX13_tokenize 365 = .ok (.iconst 4, 1) := by decide +kernel
theorem dX13_tokenize_366 : decode cX13_tokenize 366 = .ok (.goto 5, 3) := by decide +kernel
theorem dX13_tokenize_369 : decode cX13_tokenize 369 = .ok (.bipush 6, 2) := by decide +kernel
theorem dX13_tokenize_371 : decode cX13_tokenize 371 = .ok (.iload_n 1, 1) := by decide +kernel
theorem dX13_tokenize_372 : decode cX13_tokenize 372 = .ok (.iload_n 3, 1) := by decide +kernel
theorem dX13_tokenize_373 : decode cX13_tokenize 373 = .ok (.iload 4, 2) := by decide +kernel
theorem dX13_tokenize_375 : decode cX13_tokenize 375 = .ok (.invokevirtual 358, 3) := by decide +kernel
theorem dX13_tokenize_378 : decode cX13_tokenize 378 = .ok (.aload_n 0, 1) := by decide +kernel
theorem dX13_tokenize_379 : decode cX13_tokenize 379 = .ok (.getfield 16, 3) := by decide +kernel
theorem dX13_tokenize_382 : decode cX13_tokenize 382 = .ok (.aload_n 0, 1) := by decide +kernel
theorem dX13_tokenize_383 : decode cX13_tokenize 383 = .ok (.getfield 338, 3) := by decide +kernel
theorem dX13_tokenize_386 : decode cX13_tokenize 386 = .ok (.iconst 1, 1) := by decide +kernel
theorem dX13_tokenize_387 : decode cX13_tokenize 387 = .ok (.isub, 1) := by decide +kernel
theorem dX13_tokenize_388 : decode cX13_tokenize 388 = .ok (.iaload, 1) := by decide +kernel
theorem dX13_tokenize_389 : decode cX13_tokenize 389 = .ok (.bipush 6, 2) := by decide +kernel
theorem dX13_tokenize_391 : decode cX13_tokenize 391 = .ok (.if_icmp .ne 35, 3) := by decide +kernel
theorem dX13_tokenize_394 : decode cX13_tokenize 394 = .ok (.aload_n 0, 1) := by decide +kernel
theorem dX13_tokenize_395 : decode cX13_tokenize 395 = .ok (.getfield 338, 3) := by decide +kernel
theorem dX13_tokenize_398 : decode cX13_tokenize 398 = .ok (.istore 4, 2) := by decide +kernel
theorem dX13_tokenize_400 : decode cX13_tokenize 400 = .ok (.iload 4, 2) := by decide +kernel
theorem dX13_tokenize_402 : decode cX13_tokenize 402 = .ok (.aload_n 0, 1) := by decide +kernel
theorem dX13_tokenize_403 : decode cX13_tokenize 403 = .ok (.getfield 338, 3) := by decide +kernel
theorem dX13_tokenize_406 : decode cX13_tokenize 406 = .ok (.iconst 4, 1) := by decide +kernel
theorem dX13_tokenize_407 : decode cX13_tokenize 407 = .ok (.iadd, 1) := by decide +kernel
theorem dX13_tokenize_408 : decode cX13_tokenize 408 = .ok (.if_icmp .ge 17, 3) := by decide +kernel
theorem dX13_tokenize_411 : decode cX13_tokenize 411 = .ok (.aload_n 0, 1) := by decide +kernel
theorem dX13_tokenize_412 : decode cX13_tokenize 412 = .ok (.getfield 16, 3) := by decide +kernel
theorem dX13_tokenize_415 : decode cX13_tokenize 415 = .ok (.iload 4, 2) := by decide +kernel
theorem dX13_tokenize_417 : decode cX13_tokenize 417 = .ok (.iconst 5, 1) := by decide +kernel
theorem dX13_tokenize_418 : decode cX13_tokenize 418 = .ok (.iastore, 1) := by decide +kernel
theorem dX13_tokenize_419 : decode cX13_tokenize 419 = .ok (.iinc 4 1, 3) := by decide +kernel
theorem dX13_tokenize_422 : decode cX13_tokenize 422 = .ok (.goto (-22), 3) := by decide +kernel
theorem dX13_tokenize_425 : decode cX13_tokenize 425 = .ok (.return_, 1) := by decide +kernel
theorem dX13_tokenize_426 : decode cX13_tokenize 426 = .ok (.iload_n 1, 1) := by decide +kernel
theorem dX13_tokenize_427 : decode cX13_tokenize 427 = .ok (.iload_n 3, 1) := by decide +kernel
theorem dX13_tokenize_428 : decode cX13_tokenize 428 = .ok (.iadd, 1) := by decide +kernel
theorem dX13_tokenize_429 : decode cX13_tokenize 429 = .ok (.istore_n 1, 1) := by decide +kernel
theorem dX13_tokenize_430 : decode cX13_tokenize 430 = .ok (.goto (-423), 3) := by decide +kernel
theorem dX13_tokenize_433 : decode cX13_tokenize 433 = .ok (.aload_n 0, 1) := by decide +kernel
theorem dX13_tokenize_434 : decode cX13_tokenize 434 = .ok (.iconst 5, 1) := by decide +kernel
theorem dX13_tokenize_435 : decode cX13_tokenize 435 = .ok (.aload_n 0, 1) := by decide +kernel
theorem dX13_tokenize_436 : decode cX13_tokenize 436 = .ok (.getfield 325, 3) := by decide +kernel
theorem dX13_tokenize_439 : decode cX13_tokenize 439 = .ok (.iconst 0, 1) := by decide +kernel
theorem dX13_tokenize_440 : decode cX13_tokenize 440 = .ok (.iconst 0, 1) := by decide +kernel
theorem dX13_tokenize_441 : decode cX13_tokenize 441 = .ok (.invokevirtual 358, 3) := by decide +kernel
theorem dX13_tokenize_444 : decode cX13_tokenize 444 = .ok (.aload_n 0, 1) := by decide +kernel
theorem dX13_tokenize_445 : decode cX13_tokenize 445 = .ok (.getfield 338, 3) := by decide +kernel
theorem dX13_tokenize_448 : decode cX13_tokenize 448 = .ok (.istore_n 2, 1) := by decide +kernel
theorem dX13_tokenize_449 : decode cX13_tokenize 449 = .ok (.iload_n 2, 1) := by decide +kernel
theorem dX13_tokenize_450 : decode cX13_tokenize 450 = .ok (.aload_n 0, 1) := by decide +kernel
theorem dX13_tokenize_451 : decode cX13_tokenize 451 = .ok (.getfield 338, 3) := by decide +kernel
theorem dX13_tokenize_454 : decode cX13_tokenize 454 = .ok (.iconst 4, 1) := by decide +kernel
theorem dX13_tokenize_455 : decode cX13_tokenize 455 = .ok (.iadd, 1) := by decide +kernel
theorem dX13_tokenize_456 : decode cX13_tokenize 456 = .ok (.if_icmp .ge 16, 3) := by decide +kernel
theorem dX13_tokenize_459 : decode cX13_tokenize 459 = .ok (.aload_n 0, 1) := by decide +kernel
theorem dX13_tokenize_460 : decode cX13_tokenize 460 = .ok (.getfield 16, 3) := by decide +kernel
theorem dX13_tokenize_463 : decode cX13_tokenize 463 = .ok (.iload_n 2, 1) := by decide +kernel
theorem dX13_tokenize_464 : decode cX13_tokenize 464 = .ok (.iconst 5, 1) := by decide +kernel
theorem dX13_tokenize_465 : decode cX13_tokenize 465 = .ok (.iastore, 1) := by decide +kernel
theorem dX13_tokenize_466 : decode cX13_tokenize 466 = .ok (.iinc 2 1, 3) := by decide +kernel
theorem dX13_tokenize_469 : decode cX13_tokenize 469 = .ok (.goto (-20), 3) := by decide +kernel
theorem dX13_tokenize_472 : decode cX13_tokenize 472 = .ok (.return_, 1) := by decide +kernel
theorem dX13_add_0 : decode cX13_add 0 = .ok (.aload_n 0, 1) := by decide +kernel
theorem dX13_add_1 : decode cX13_add 1 = .ok (.getfield 28, 3) := by decide +kernel
theorem dX13_add_4 : decode cX13_add 4 = .ok (.aload_n 0, 1) := by decide +kernel
theorem dX13_add_5 : decode cX13_add 5 = .ok (.getfield 373, 3) := by decide +kernel
theorem dX13_add_8 : decode cX13_add 8 = .ok (.iload_n 1, 1) := by decide +kernel
theorem dX13_add_9 : decode cX13_add 9 = .ok (.iastore, 1) := by decide +kernel
theorem dX13_add_10 : decode cX13_add 10 = .ok (.aload_n 0, 1) := by decide +kernel
theorem dX13_add_11 : decode cX13_add 11 = .ok (.getfield 31, 3) := by decide +kernel
theorem dX13_add_14 : decode cX13_add 14 = .ok (.aload_n 0, 1) := by decide +kernel
theorem dX13_add_15 : decode cX13_add 15 = .ok (.getfield 373, 3) := by decide +kernel
theorem dX13_add_18 : decode cX13_add 18 = .ok (.iload_n 2, 1) := by decide +kernel
theorem dX13_add_19 : decode cX13_add 19 = .ok (.iastore, 1) := by decide +kernel
theorem dX13_add_20 : decode cX13_add 20 = .ok (.aload_n 0, 1) := by decide +kernel
theorem dX13_add_21 : decode cX13_add 21 = .ok (.getfield 34, 3) := by decide +kernel
theorem dX13_add_24 : decode cX13_add 24 = .ok (.aload_n 0, 1) := by decide +kernel
theorem dX13_add_25 : decode cX13_add 25 = .ok (.getfield 373, 3) := by decide +kernel
theorem dX13_add_28 : decode cX13_add 28 = .ok (.iload_n 3, 1) := by decide +kernel
theorem dX13_add_29 : decode cX13_add 29 = .ok (.iastore, 1) := by decide +kernel
theorem dX13_add_30 : decode cX13_add 30 = .ok (.aload_n 0, 1) := by decide +kernel
theorem dX13_add_31 : decode cX13_add 31 = .ok (.getfield 37, 3) := by decide +kernel
theorem dX13_add_34 : decode cX13_add 34 = .ok (.aload_n 0, 1) := by decide +kernel
theorem dX13_add_35 : decode cX13_add 35 = .ok (.getfield 373, 3) := by decide +kernel
theorem dX13_add_38 : decode cX13_add 38 = .ok (.iconst (-1), 1) := by decide +kernel
theorem dX13_add_39 : decode cX13_add 39 = .ok (.iastore, 1) := by decide +kernel
theorem dX13_add_40 : decode cX13_add 40 = .ok (.aload_n 0, 1) := by decide +kernel
theorem dX13_add_41 : decode cX13_add 41 = .ok (.getfield 40, 3) := by decide +kernel
theorem dX13_add_44 : decode cX13_add 44 = .ok (.aload_n 0, 1) := by decide +kernel
theorem dX13_add_45 : decode cX13_add 45 = .ok (.getfield 373, 3) := by decide +kernel
theorem dX13_add_48 : decode cX13_add 48 = .ok (.iconst (-1), 1) := by decide +kernel
theorem dX13_add_49 : decode cX13_add 49 = .ok (.iastore, 1) := by decide +kernel
theorem dX13_add_50 : decode cX13_add 50 = .ok (.aload_n 0, 1) := by decide +kernel
theorem dX13_add_51 : decode cX13_add 51 = .ok (.getfield 43, 3) := by decide +kernel
theorem dX13_add_54 : decode cX13_add 54 = .ok (.aload_n 0, 1) := by decide +kernel
theorem dX13_add_55 : decode cX13_add 55 = .ok (.getfield 373, 3) := by decide +kernel
theorem dX13_add_58 : decode cX13_add 58 = .ok (.iconst (-1), 1) := by decide +kernel
theorem dX13_add_59 : decode cX13_add 59 = .ok (.iastore, 1) := by decide +kernel
theorem dX13_add_60 : decode cX13_add 60 = .ok (.aload_n 0, 1) := by decide +kernel
theorem dX13_add_61 : decode cX13_add 61 = .ok (.getfield 46, 3) := by decide +kernel
theorem dX13_add_64 : decode cX13_add 64 = .ok (.aload_n 0, 1) := by decide +kernel
theorem dX13_add_65 : decode cX13_add 65 = .ok (.getfield 373, 3) := by decide +kernel
theorem dX13_add_68 : decode cX13_add 68 = .ok (.iconst (-1), 1) := by decide +kernel
theorem dX13_add_69 : decode cX13_add 69 = .ok (.iastore, 1) := by decide +kernel
theorem dX13_add_70 : decode cX13_add 70 = .ok (.aload_n 0, 1) := by decide +kernel
theorem dX13_add_71 : decode cX13_add 71 = .ok (.getfield 49, 3) := by decide +kernel
theorem dX13_add_74 : decode cX13_add 74 = .ok (.aload_n 0, 1) := by decide +kernel
theorem dX13_add_75 : decode cX13_add 75 = .ok (.getfield 373, 3) := by decide +kernel
theorem dX13_add_78 : decode cX13_add 78 = .ok (.iconst 0, 1) := by decide +kernel
theorem dX13_add_79 : decode cX13_add 79 = .ok (.iastore, 1) := by decide +kernel
theorem dX13_add_80 : decode cX13_add 80 = .ok (.aload_n 0, 1) := by decide +kernel
theorem dX13_add_81 : decode cX13_add 81 = .ok (.getfield 52, 3) := by decide +kernel
theorem dX13_add_84 : decode cX13_add 84 = .ok (.aload_n 0, 1) := by decide +kernel
theorem dX13_add_85 : decode cX13_add 85 = .ok (.getfield 373, 3) := by decide +kernel
theorem dX13_add_88 : decode cX13_add 88 = .ok (.iconst 0, 1) := by decide +kernel
theorem dX13_add_89 : decode cX13_add 89 = .ok (.iastore, 1) := by decide +kernel
theorem dX13_add_90 : decode cX13_add 90 = .ok (.aload_n 0, 1) := by decide +kernel
theorem dX13_add_91 : decode cX13_add 91 = .ok (.getfield 55, 3) := by decide +kernel
theorem dX13_add_94 : decode cX13_add 94 = .ok (.aload_n 0, 1) := by decide +kernel
theorem dX13_add_95 : decode cX13_add 95 = .ok (.getfield 373, 3) := by decide +kernel
theorem dX13_add_98 : decode cX13_add 98 = .ok (.iconst 0, 1) := by decide +kernel
theorem dX13_add_99 : decode cX13_add 99 = .ok (.iastore, 1) := by decide +kernel
theorem dX13_add_100 : decode cX13_add 100 = .ok (.aload_n 0, 1) := by decide +kernel
theorem dX13_add_101 : decode cX13_add 101 = .ok (.getfield 58, 3) := by decide +kernel
theorem dX13_add_104 : decode cX13_add 104 = .ok (.aload_n 0, 1) := by decide +kernel
theorem dX13_add_105 : decode cX13_add 105 = .ok (.getfield 373, 3) := by decide +kernel
theorem dX13_add_108 : decode cX13_add 108 = .ok (.iconst 0, 1) := by decide +kernel
theorem dX13_add_109 : decode cX13_add 109 = .ok (.bastore, 1) := by decide +kernel
theorem dX13_add_110 : decode cX13_add 110 = .ok (.aload_n 0, 1) := by decide +kernel
theorem dX13_add_111 : decode cX13_add 111 = .ok (.dup, 1) := by decide +kernel
theorem dX13_add_112 : decode cX13_add 112 = .ok (.getfield 373, 3) := by decide +kernel
theorem dX13_add_115 : decode cX13_add 115 = .ok (.iconst 1, 1) := by decide +kernel
theorem dX13_add_116 : decode cX13_add 116 = .ok (.iadd, 1) := by decide +kernel
theorem dX13_add_117 : decode cX13_add 117 = .ok (.putfield 373, 3) := by decide +kernel
theorem dX13_add_120 : decode cX13_add 120 = .ok (.aload_n 0, 1) := by decide +kernel
theorem dX13_add_121 : decode cX13_add 121 = .ok (.getfield 373, 3) := by decide +kernel
theorem dX13_add_124 : decode cX13_add 124 = .ok (.iconst 1, 1) := by decide +kernel
theorem dX13_add_125 : decode cX13_add 125 = .ok (.isub, 1) := by decide +kernel
theorem dX13_add_126 : decode cX13_add 126 = .ok (.ireturn, 1) := by decide +kernel
theorem dX13_type_0 : decode cX13_type 0 = .ok (.aload_n 0, 1) := by decide +kernel
theorem dX13_type_1 : decode cX13_type 1 = .ok (.getfield 319, 3) := by decide +kernel
theorem dX13_type_4 : decode cX13_type 4 = .ok (.ifCond .eq 4, 3) := by decide +kernel
theorem dX13_type_7 : decode cX13_type 7 = .ok (.return_, 1) := by decide +kernel
theorem dX13_type_8 : decode cX13_type 8 = .ok (.aload_n 0, 1) := by decide +kernel
theorem dX13_type_9 : decode cX13_type 9 = .ok (.aload_n 0, 1) := by decide +kernel
theorem dX13_type_10 : decode cX13_type 10 = .ok (.getfield 376, 3) := by decide +kernel
theorem dX13_type_13 : decode cX13_type 13 = .ok (.putfield 393, 3) := by decide +kernel
theorem dX13_type_16 : decode cX13_type 16 = .ok (.aload_n 0, 1) := by decide +kernel
theorem dX13_type_17 : decode cX13_type 17 = .ok (.iconst 0, 1) := by decide +kernel
theorem dX13_type_18 : decode cX13_type 18 = .ok (.putfield 396, 3) := by decide +kernel
theorem dX13_type_21 : decode cX13_type 21 = .ok (.aload_n 0, 1) := by decide +kernel
theorem dX13_type_22 : decode cX13_type 22 = .ok (.aload_n 0, 1) := by decide +kernel
theorem dX13_type_23 : decode cX13_type 23 = .ok (.getfield 376, 3) := by decide +kernel
theorem dX13_type_26 : decode cX13_type 26 = .ok (.iconst 0, 1) := by decide +kernel
theorem dX13_type_27 : decode cX13_type 27 = .ok (.invokevirtual 390, 3) := by decide +kernel
theorem dX13_type_30 : decode cX13_type 30 = .ok (.ifCond .eq 19, 3) := by decide +kernel
theorem dX13_type_33 : decode cX13_type 33 = .ok (.aload_n 0, 1) := by decide +kernel
theorem dX13_type_34 : decode cX13_type 34 = .ok (.iconst 1, 1) := by decide +kernel
theorem dX13_type_35 : decode cX13_type 35 = .ok (.putfield 400, 3) := by decide +kernel
theorem dX13_type_38 : decode cX13_type 38 = .ok (.aload_n 0, 1) := by decide +kernel
theorem dX13_type_39 : decode cX13_type 39 = .ok (.dup, 1) := by decide +kernel
theorem dX13_type_40 : decode cX13_type 40 = .ok (.getfield 376, 3) := by decide +kernel
theorem dX13_type_43 : decode cX13_type 43 = .ok (.iconst 1, 1) := by decide +kernel
theorem dX13_type_44 : decode cX13_type 44 = .ok (.iadd, 1) := by decide +kernel
theorem dX13_type_45 : decode cX13_type 45 = .ok (.putfield 376, 3) := by decide +kernel
theorem dX13_type_48 : decode cX13_type 48 = .ok (.return_, 1) := by decide +kernel
theorem dX13_type_49 : decode cX13_type 49 = .ok (.aload_n 0, 1) := by decide +kernel
theorem dX13_type_50 : decode cX13_type 50 = .ok (.aload_n 0, 1) := by decide +kernel
theorem dX13_type_51 : decode cX13_type 51 = .ok (.aload_n 0, 1) := by decide +kernel
theorem dX13_type_52 : decode cX13_type 52 = .ok (.getfield 376, 3) := by decide +kernel
theorem dX13_type_55 : decode cX13_type 55 = .ok (.bipush 10, 2) := by decide +kernel
theorem dX13_type_57 : decode cX13_type 57 = .ok (.invokevirtual 390, 3) := by decide +kernel
theorem dX13_type_60 : decode cX13_type 60 = .ok (.ifCond .eq 7, 3) := by decide +kernel
theorem dX13_type_63 : decode cX13_type 63 = .ok (.iconst 0, 1) := by decide +kernel
theorem dX13_type_64 : decode cX13_type 64 = .ok (.goto 4, 3) := by decide +kernel
theorem dX13_type_67 : decode cX13_type 67 = .ok (.iconst 3, 1) := by decide +kernel
theorem dX13_type_68 : decode cX13_type 68 = .ok (.putfield 400, 3) := by decide +kernel
theorem dX13_type_71 : decode cX13_type 71 = .ok (.aload_n 0, 1) := by decide +kernel
theorem dX13_type_72 : decode cX13_type 72 = .ok (.getfield 400, 3) := by decide +kernel
theorem dX13_type_75 : decode cX13_type 75 = .ok (.ifCond .ne 16, 3) := by decide +kernel
theorem dX13_type_78 : decode cX13_type 78 = .ok (.aload_n 0, 1) := by decide +kernel
theorem dX13_type_79 : decode cX13_type 79 = .ok (.dup, 1) := by decide +kernel
theorem dX13_type_80 : decode cX13_type 80 = .ok (.getfield 376, 3) := by decide +kernel
theorem dX13_type_83 : decode cX13_type 83 = .ok (.iconst 1, 1) := by decide +kernel
theorem dX13_type_84 : decode cX13_type 84 = .ok (.iadd, 1) := by decide +kernel
theorem dX13_type_85 : decode cX13_type 85 = .ok (.putfield 376, 3) := by decide +kernel
theorem dX13_type_88 : decode cX13_type 88 = .ok (.goto 8, 3) := by decide +kernel
theorem dX13_type_91 : decode cX13_type 91 = .ok (.aload_n 0, 1) := by decide +kernel
theorem dX13_type_92 : decode cX13_type 92 = .ok (.invokevirtual 403, 3) := by decide +kernel
theorem dX13_type_95 : decode cX13_type 95 = .ok (.pop, 1) := by decide +kernel
theorem dX13_type_96 : decode cX13_type 96 = .ok (.aload_n 0, 1) := by decide +kernel
theorem dX13_type_97 : decode cX13_type 97 = .ok (.getfield 319, 3) := by decide +kernel
theorem dX13_type_100 : decode cX13_type 100 = .ok (.ifCond .ne 16, 3) := by decide +kernel
theorem dX13_type_103 : decode cX13_type 103 = .ok (.aload_n 0, 1) := by decide +kernel
theorem dX13_type_104 : decode cX13_type 104 = .ok (.aload_n 0, 1) := by decide +kernel
theorem dX13_type_105 : decode cX13_type 105 = .ok (.getfield 376, 3) := by decide +kernel
theorem dX13_type_108 : decode cX13_type 108 = .ok (.bipush 91, 2) := by decide +kernel
theorem dX13_type_110 : decode cX13_type 110 = .ok (.invokevirtual 383, 3) := by decide +kernel
theorem dX13_type_113 : decode cX13_type 113 = .ok (.ifCond .ne 4, 3) := by decide +kernel
theorem dX13_type_116 : decode cX13_type 116 = .ok (.return_, 1) := by decide +kernel
theorem dX13_type_117 : decode cX13_type 117 = .ok (.aload_n 0, 1) := by decide +kernel
theorem dX13_type_118 : decode cX13_type 118 = .ok (.dup, 1) := by decide +kernel
theorem dX13_type_119 : decode cX13_type 119 = .ok (.getfield 376, 3) := by decide +kernel
theorem dX13_type_122 : decode cX13_type 122 = .ok (.iconst 1, 1) := by decide +kernel
theorem dX13_type_123 : decode cX13_type 123 = .ok (.iadd, 1) := by decide +kernel
theorem dX13_type_124 : decode cX13_type 124 = .ok (.putfield 376, 3) := by decide +kernel
theorem dX13_type_127 : decode cX13_type 127 = .ok (.aload_n 0, 1) := by decide +kernel
theorem dX13_type_128 : decode cX13_type 128 = .ok (.bipush 93, 2) := by decide +kernel
theorem dX13_type_130 : decode cX13_type 130 = .ok (.invokevirtual 406, 3) := by decide +kernel
theorem dX13_type_133 : decode cX13_type 133 = .ok (.aload_n 0, 1) := by decide +kernel
theorem dX13_type_134 : decode cX13_type 134 = .ok (.iconst 1, 1) := by decide +kernel
theorem dX13_type_135 : decode cX13_type 135 = .ok (.putfield 396, 3) := by decide +kernel
theorem dX13_type_138 : decode cX13_type 138 = .ok (.return_, 1) := by decide +kernel
theorem dX13_strength_0 : decode cX13_strength 0 = .ok (.aload_n 0, 1) := by decide +kernel
theorem dX13_strength_1 : decode cX13_strength 1 = .ok (.iload_n 1, 1) := by decide +kernel
theorem dX13_strength_2 : decode cX13_strength 2 = .ok (.bipush 9, 2) := by decide +kernel
theorem dX13_strength_4 : decode cX13_strength 4 = .ok (.invokevirtual 390, 3) := by decide +kernel
theorem dX13_strength_7 : decode cX13_strength 7 = .ok (.ifCond .eq 6, 3) := by decide +kernel
theorem dX13_strength_10 : decode cX13_strength 10 = .ok (.bipush 6, 2) := by decide +kernel
theorem dX13_strength_12 : decode cX13_strength 12 = .ok (.ireturn, 1) := by decide +kernel
theorem dX13_strength_13 : decode cX13_strength 13 = .ok (.aload_n 0, 1) := by decide +kernel
theorem dX13_strength_14 : decode cX13_strength 14 = .ok (.getfield 16, 3) := by decide +kernel
theorem dX13_strength_17 : decode cX13_strength 17 = .ok (.iload_n 1, 1) := by decide +kernel
theorem dX13_strength_18 : decode cX13_strength 18 = .ok (.iaload, 1) := by decide +kernel
theorem dX13_strength_19 : decode cX13_strength 19 = .ok (.iconst 4, 1) := by decide +kernel
theorem dX13_strength_20 : decode cX13_strength 20 = .ok (.if_icmp .eq 5, 3) := by decide +kernel
theorem dX13_strength_23 : decode cX13_strength 23 = .ok (.iconst (-1), 1) := by decide +kernel
theorem dX13_strength_24 : decode cX13_strength 24 = .ok (.ireturn, 1) := by decide +kernel
theorem dX13_strength_25 : decode cX13_strength 25 = .ok (.aload_n 0, 1) := by decide +kernel
theorem dX13_strength_26 : decode cX13_strength 26 = .ok (.getfield 25, 3) := by decide +kernel
theorem dX13_strength_29 : decode cX13_strength 29 = .ok (.iload_n 1, 1) := by decide +kernel
theorem dX13_strength_30 : decode cX13_strength 30 = .ok (.iaload, 1) := by decide +kernel
theorem dX13_strength_31 : decode cX13_strength 31 = .ok (.istore_n 2, 1) := by decide +kernel
theorem dX13_strength_32 : decode cX13_strength 32 = .ok (.iload_n 2, 1) := by decide +kernel
theorem dX13_strength_33 : decode cX13_strength 33 = .ok (.iconst 0, 1) := by decide +kernel
theorem dX13_strength_34 : decode cX13_strength 34 = .ok (.bipush 124, 2) := by decide +kernel
theorem dX13_strength_36 : decode cX13_strength 36 = .ok (.bipush 124, 2) := by decide +kernel
theorem dX13_strength_38 : decode cX13_strength 38 = .ok (.invokestatic 454, 3) := by decide +kernel
theorem dX13_strength_41 : decode cX13_strength 41 = .ok (.if_icmp .ne 5, 3) := by decide +kernel
theorem dX13_strength_44 : decode cX13_strength 44 = .ok (.iconst 0, 1) := by decide +kernel
theorem dX13_strength_45 : decode cX13_strength 45 = .ok (.ireturn, 1) := by decide +kernel
theorem dX13_strength_46 : decode cX13_strength 46 = .ok (.iload_n 2, 1) := by decide +kernel
theorem dX13_strength_47 : decode cX13_strength 47 = .ok (.iconst 0, 1) := by decide +kernel
theorem dX13_strength_48 : decode cX13_strength 48 = .ok (.bipush 38, 2) := by decide +kernel
theorem dX13_strength_50 : decode cX13_strength 50 = .ok (.bipush 38, 2) := by decide +kernel
theorem dX13_strength_52 : decode cX13_strength 52 = .ok (.invokestatic 454, 3) := by decide +kernel
theorem dX13_strength_55 : decode cX13_strength 55 = .ok (.if_icmp .ne 5, 3) := by decide +kernel
theorem dX13_strength_58 : decode cX13_strength 58 = .ok (.iconst 1, 1) := by decide +kernel
theorem dX13_strength_59 : decode cX13_strength 59 = .ok (.ireturn, 1) := by decide +kernel
theorem dX13_strength_60 : decode cX13_strength 60 = .ok (.iload_n 2, 1) := by decide +kernel
theorem dX13_strength_61 : decode cX13_strength 61 = .ok (.bipush 124, 2) := by decide +kernel
theorem dX13_strength_63 : decode cX13_strength 63 = .ok (.if_icmp .ne 5, 3) := by decide +kernel
theorem dX13_strength_66 : decode cX13_strength 66 = .ok (.iconst 2, 1) := by decide +kernel
theorem dX13_strength_67 : decode cX13_strength 67 = .ok (.ireturn, 1) := by decide +kernel
theorem dX13_strength_68 : decode cX13_strength 68 = .ok (.iload_n 2, 1) := by decide +kernel
theorem dX13_strength_69 : decode cX13_strength 69 = .ok (.bipush 94, 2) := by decide +kernel
theorem dX13_strength_71 : decode cX13_strength 71 = .ok (.if_icmp .ne 5, 3) := by decide +kernel
theorem dX13_strength_74 : decode cX13_strength 74 = .ok (.iconst 3, 1) := by decide +kernel
theorem dX13_strength_75 : decode cX13_strength 75 = .ok (.ireturn, 1) := by decide +kernel
theorem dX13_strength_76 : decode cX13_strength 76 = .ok (.iload_n 2, 1) := by decide +kernel
theorem dX13_strength_77 : decode cX13_strength 77 = .ok (.bipush 38, 2) := by decide +kernel
theorem dX13_strength_79 : decode cX13_strength 79 = .ok (.if_icmp .ne 5, 3) := by decide +kernel
theorem dX13_strength_82 : decode cX13_strength 82 = .ok (.iconst 4, 1) := by decide +kernel
theorem dX13_strength_83 : decode cX13_strength 83 = .ok (.ireturn, 1) := by decide +kernel
theorem dX13_strength_84 : decode cX13_strength 84 = .ok (.iload_n 2, 1) := by decide +kernel
theorem dX13_strength_85 : decode cX13_strength 85 = .ok (.iconst 0, 1) := by decide +kernel
theorem dX13_strength_86 : decode cX13_strength 86 = .ok (.bipush 61, 2) := by decide +kernel
theorem dX13_strength_88 : decode cX13_strength 88 = .ok (.bipush 61, 2) := by decide +kernel
theorem dX13_strength_90 : decode cX13_strength 90 = .ok (.invokestatic 454, 3) := by decide +kernel
theorem dX13_strength_93 : decode cX13_strength 93 = .ok (.if_icmp .eq 15, 3) := by decide +kernel
theorem dX13_strength_96 : decode cX13_strength 96 = .ok (.iload_n 2, 1) := by decide +kernel
theorem dX13_strength_97 : decode cX13_strength 97 = .ok (.iconst 0, 1) := by decide +kernel
theorem dX13_strength_98 : decode cX13_strength 98 = .ok (.bipush 33, 2) := by decide +kernel
theorem dX13_strength_100 : decode cX13_strength 100 = .ok (.bipush 61, 2) := by decide +kernel
theorem dX13_strength_102 : decode cX13_strength 102 = .ok (.invokestatic 454, 3) := by decide +kernel
theorem dX13_strength_105 : decode cX13_strength 105 = .ok (.if_icmp .ne 5, 3) := by decide +kernel
theorem dX13_strength_108 : decode cX13_strength 108 = .ok (.iconst 5, 1) := by decide +kernel
theorem dX13_strength_109 : decode cX13_strength 109 = .ok (.ireturn, 1) := by decide +kernel
theorem dX13_strength_110 : decode cX13_strength 110 = .ok (.iload_n 2, 1) := by decide +kernel
theorem dX13_strength_111 : decode cX13_strength 111 = .ok (.bipush 60, 2) := by decide +kernel
theorem dX13_strength_113 : decode cX13_strength 113 = .ok (.if_icmp .eq 33, 3) := by decide +kernel
theorem dX13_strength_116 : decode cX13_strength 116 = .ok (.iload_n 2, 1) := by decide +kernel
theorem dX13_strength_117 : decode cX13_strength 117 = .ok (.bipush 62, 2) := by decide +kernel
theorem dX13_strength_119 : decode cX13_strength 119 = .ok (.if_icmp .eq 27, 3) := by decide +kernel
theorem dX13_strength_122 : decode cX13_strength 122 = .ok (.iload_n 2, 1) := by decide +kernel
theorem dX13_strength_123 : decode cX13_strength 123 = .ok (.iconst 0, 1) := by decide +kernel
theorem dX13_strength_124 : decode cX13_strength 124 = .ok (.bipush 60, 2) := by decide +kernel
theorem dX13_strength_126 : decode cX13_strength 126 = .ok (.bipush 61, 2) := by decide +kernel
theorem dX13_strength_128 : decode cX13_strength 128 = .ok (.invokestatic 454, 3) := by decide +kernel
theorem dX13_strength_131 : decode cX13_strength 131 = .ok (.if_icmp .eq 15, 3) := by decide +kernel
theorem dX13_strength_134 : decode cX13_strength 134 = .ok (.iload_n 2, 1) := by decide +kernel
theorem dX13_strength_135 : decode cX13_strength 135 = .ok (.iconst 0, 1) := by decide +kernel
theorem dX13_strength_136 : decode cX13_strength 136 = .ok (.bipush 62, 2) := by decide +kernel
theorem dX13_strength_138 : decode cX13_strength 138 = .ok (.bipush 61, 2) := by decide +kernel
theorem dX13_strength_140 : decode cX13_strength 140 = .ok (.invokestatic 454, 3) := by decide +kernel
theorem dX13_strength_143 : decode cX13_strength 143 = .ok (.if_icmp .ne 6, 3) := by decide +kernel
theorem dX13_strength_146 : decode cX13_strength 146 = .ok (.bipush 6, 2) := by decide +kernel
theorem dX13_strength_148 : decode cX13_strength 148 = .ok (.ireturn, 1) := by decide +kernel
theorem dX13_strength_149 : decode cX13_strength 149 = .ok (.iload_n 2, 1) := by decide +kernel
theorem dX13_strength_150 : decode cX13_strength 150 = .ok (.iconst 0, 1) := by decide +kernel
theorem dX13_strength_151 : decode cX13_strength 151 = .ok (.bipush 60, 2) := by decide +kernel
theorem dX13_strength_153 : decode cX13_strength 153 = .ok (.bipush 60, 2) := by decide +kernel
theorem dX13_strength_155 : decode cX13_strength 155 = .ok (.invokestatic 454, 3) := by decide +kernel
theorem dX13_strength_158 : decode cX13_strength 158 = .ok (.if_icmp .eq 28, 3) := by decide +kernel
theorem dX13_strength_161 : decode cX13_strength 161 = .ok (.iload_n 2, 1) := by decide +kernel
theorem dX13_strength_162 : decode cX13_strength 162 = .ok (.iconst 0, 1) := by decide +kernel
theorem dX13_strength_163 : decode cX13_strength 163 = .ok (.bipush 62, 2) := by decide +kernel
theorem dX13_strength_165 : decode cX13_strength 165 = .ok (.bipush 62, 2) := by decide +kernel
theorem dX13_strength_167 : decode cX13_strength 167 = .ok (.invokestatic 454, 3) := by decide +kernel
theorem dX13_strength_170 : decode cX13_strength 170 = .ok (.if_icmp .eq 16, 3) := by decide +kernel
theorem dX13_strength_173 : decode cX13_strength 173 = .ok (.iload_n 2, 1) := by decide +kernel
theorem dX13_strength_174 : decode cX13_strength 174 = .ok (.bipush 62, 2) := by decide +kernel
theorem dX13_strength_176 : decode cX13_strength 176 = .ok (.bipush 62, 2) := by decide +kernel
theorem dX13_strength_178 : decode cX13_strength 178 = .ok (.bipush 62, 2) := by decide +kernel
theorem dX13_strength_180 : decode cX13_strength 180 = .ok (.invokestatic 454, 3) := by decide +kernel
theorem dX13_strength_183 : decode cX13_strength 183 = .ok (.if_icmp .ne 6, 3) := by decide +kernel
theorem dX13_strength_186 : decode cX13_strength 186 = .ok (.bipush 7, 2) := by decide +kernel
theorem dX13_strength_188 : decode cX13_strength 188 = .ok (.ireturn, 1) := by decide +kernel
theorem dX13_strength_189 : decode cX13_strength 189 = .ok (.iload_n 2, 1) := by decide +kernel
theorem dX13_strength_190 : decode cX13_strength 190 = .ok (.bipush 43, 2) := by decide +kernel
theorem dX13_strength_192 : decode cX13_strength 192 = .ok (.if_icmp .eq 9, 3) := by decide +kernel
theorem dX13_strength_195 : decode cX13_strength 195 = .ok (.iload_n 2, 1) := by decide +kernel
theorem dX13_strength_196 : decode cX13_strength 196 = .ok (.bipush 45, 2) := by decide +kernel
theorem dX13_strength_198 : decode cX13_strength 198 = .ok (.if_icmp .ne 6, 3) := by decide +kernel
theorem dX13_strength_201 : decode cX13_strength 201 = .ok (.bipush 8, 2) := by decide +kernel
theorem dX13_strength_203 : decode cX13_strength 203 = .ok (.ireturn, 1) := by decide +kernel
theorem dX13_strength_204 : decode cX13_strength 204 = .ok (.iload_n 2, 1) := by decide +kernel
theorem dX13_strength_205 : decode cX13_strength 205 = .ok (.bipush 42, 2) := by decide +kernel
theorem dX13_strength_207 : decode cX13_strength 207 = .ok (.if_icmp .eq 15, 3) := by decide +kernel
theorem dX13_strength_210 : decode cX13_strength 210 = .ok (.iload_n 2, 1) := by decide +kernel
theorem dX13_strength_211 : decode cX13_strength 211 = .ok (.bipush 47, 2) := by decide +kernel
theorem dX13_strength_213 : decode cX13_strength 213 = .ok (.if_icmp .eq 9, 3) := by decide +kernel
theorem dX13_strength_216 : decode cX13_strength 216 = .ok (.iload_n 2, 1) := by decide +kernel
theorem dX13_strength_217 : decode cX13_strength 217 = .ok (.bipush 37, 2) := by decide +kernel
theorem dX13_strength_219 : decode cX13_strength 219 = .ok (.if_icmp .ne 8, 3) := by decide +kernel
theorem dX13_strength_222 : decode cX13_strength 222 = .ok (.bipush 9, 2) := by decide +kernel
theorem dX13_strength_224 : decode cX13_strength 224 = .ok (.goto 4, 3) := by decide +kernel
theorem dX13_strength_227 : decode cX13_strength 227 = .ok (.iconst (-1), 1) := by decide +kernel
theorem dX13_strength_228 : decode cX13_strength 228 = .ok (.ireturn, 1) := by decide +kernel
theorem dX13_isCast_0 : decode cX13_isCast 0 = .ok (.aload_n 0, 1) := by decide +kernel
theorem dX13_isCast_1 : decode cX13_isCast 1 = .ok (.aload_n 0, 1) := by decide +kernel
theorem dX13_isCast_2 : decode cX13_isCast 2 = .ok (.getfield 376, 3) := by decide +kernel
theorem dX13_isCast_5 : decode cX13_isCast 5 = .ok (.bipush 40, 2) := by decide +kernel
theorem dX13_isCast_7 : decode cX13_isCast 7 = .ok (.invokevirtual 383, 3) := by decide +kernel
theorem dX13_isCast_10 : decode cX13_isCast 10 = .ok (.ifCond .eq 33, 3) := by decide +kernel
theorem dX13_isCast_13 : decode cX13_isCast 13 = .ok (.aload_n 0, 1) := by decide +kernel
theorem dX13_isCast_14 : decode cX13_isCast 14 = .ok (.getfield 16, 3) := by decide +kernel
theorem dX13_isCast_17 : decode cX13_isCast 17 = .ok (.aload_n 0, 1) := by decide +kernel
theorem dX13_isCast_18 : decode cX13_isCast 18 = .ok (.getfield 376, 3) := by decide +kernel
theorem dX13_isCast_21 : decode cX13_isCast 21 = .ok (.iconst 1, 1) := by decide +kernel
theorem dX13_isCast_22 : decode cX13_isCast 22 = .ok (.iadd, 1) := by decide +kernel
theorem dX13_isCast_23 : decode cX13_isCast 23 = .ok (.iaload, 1) := by decide +kernel
theorem dX13_isCast_24 : decode cX13_isCast 24 = .ok (.iconst 1, 1) := by decide +kernel
theorem dX13_isCast_25 : decode cX13_isCast 25 = .ok (.if_icmp .ne 18, 3) := by decide +kernel
theorem dX13_isCast_28 : decode cX13_isCast 28 = .ok (.aload_n 0, 1) := by decide +kernel
theorem dX13_isCast_29 : decode cX13_isCast 29 = .ok (.aload_n 0, 1) := by decide +kernel
theorem dX13_isCast_30 : decode cX13_isCast 30 = .ok (.getfield 376, 3) := by decide +kernel
theorem dX13_isCast_33 : decode cX13_isCast 33 = .ok (.iconst 2, 1) := by decide +kernel
theorem dX13_isCast_34 : decode cX13_isCast 34 = .ok (.iadd, 1) := by decide +kernel
theorem dX13_isCast_35 : decode cX13_isCast 35 = .ok (.bipush 41, 2) := by decide +kernel
theorem dX13_isCast_37 : decode cX13_isCast 37 = .ok (.invokevirtual 383, 3) := by decide +kernel
theorem dX13_isCast_40 : decode cX13_isCast 40 = .ok (.ifCond .ne 5, 3) := by decide +kernel
theorem dX13_isCast_43 : decode cX13_isCast 43 = .ok (.iconst 0, 1) := by decide +kernel
theorem dX13_isCast_44 : decode cX13_isCast 44 = .ok (.ireturn, 1) := by decide +kernel
theorem dX13_isCast_45 : decode cX13_isCast 45 = .ok (.aload_n 0, 1) := by decide +kernel
theorem dX13_isCast_46 : decode cX13_isCast 46 = .ok (.getfield 376, 3) := by decide +kernel
theorem dX13_isCast_49 : decode cX13_isCast 49 = .ok (.iconst 3, 1) := by decide +kernel
theorem dX13_isCast_50 : decode cX13_isCast 50 = .ok (.iadd, 1) := by decide +kernel
theorem dX13_isCast_51 : decode cX13_isCast 51 = .ok (.istore_n 1, 1) := by decide +kernel
theorem dX13_isCast_52 : decode cX13_isCast 52 = .ok (.aload_n 0, 1) := by decide +kernel
theorem dX13_isCast_53 : decode cX13_isCast 53 = .ok (.getfield 16, 3) := by decide +kernel
theorem dX13_isCast_56 : decode cX13_isCast 56 = .ok (.iload_n 1, 1) := by decide +kernel
theorem dX13_isCast_57 : decode cX13_isCast 57 = .ok (.iaload, 1) := by decide +kernel
theorem dX13_isCast_58 : decode cX13_isCast 58 = .ok (.iconst 1, 1) := by decide +kernel
theorem dX13_isCast_59 : decode cX13_isCast 59 = .ok (.if_icmp .eq 13, 3) := by decide +kernel
theorem dX13_isCast_62 : decode cX13_isCast 62 = .ok (.aload_n 0, 1) := by decide +kernel
theorem dX13_isCast_63 : decode cX13_isCast 63 = .ok (.getfield 16, 3) := by decide +kernel
theorem dX13_isCast_66 : decode cX13_isCast 66 = .ok (.iload_n 1, 1) := by decide +kernel
theorem dX13_isCast_67 : decode cX13_isCast 67 = .ok (.iaload, 1) := by decide +kernel
theorem dX13_isCast_68 : decode cX13_isCast 68 = .ok (.iconst 2, 1) := by decide +kernel
theorem dX13_isCast_69 : decode cX13_isCast 69 = .ok (.if_icmp .ne 5, 3) := by decide +kernel
theorem dX13_isCast_72 : decode cX13_isCast 72 = .ok (.iconst 1, 1) := by decide +kernel
theorem dX13_isCast_73 : decode cX13_isCast 73 = .ok (.ireturn, 1) := by decide +kernel
theorem dX13_isCast_74 : decode cX13_isCast 74 = .ok (.aload_n 0, 1) := by decide +kernel
theorem dX13_isCast_75 : decode cX13_isCast 75 = .ok (.iload_n 1, 1) := by decide +kernel
theorem dX13_isCast_76 : decode cX13_isCast 76 = .ok (.bipush 40, 2) := by decide +kernel
theorem dX13_isCast_78 : decode cX13_isCast 78 = .ok (.invokevirtual 383, 3) := by decide +kernel
theorem dX13_isCast_81 : decode cX13_isCast 81 = .ok (.ifCond .ne 73, 3) := by decide +kernel
theorem dX13_isCast_84 : decode cX13_isCast 84 = .ok (.aload_n 0, 1) := by decide +kernel
theorem dX13_isCast_85 : decode cX13_isCast 85 = .ok (.iload_n 1, 1) := by decide +kernel
theorem dX13_isCast_86 : decode cX13_isCast 86 = .ok (.bipush 33, 2) := by decide +kernel
theorem dX13_isCast_88 : decode cX13_isCast 88 = .ok (.invokevirtual 383, 3) := by decide +kernel
theorem dX13_isCast_91 : decode cX13_isCast 91 = .ok (.ifCond .ne 63, 3) := by decide +kernel
theorem dX13_isCast_94 : decode cX13_isCast 94 = .ok (.aload_n 0, 1) := by decide +kernel
theorem dX13_isCast_95 : decode cX13_isCast 95 = .ok (.iload_n 1, 1) := by decide +kernel
theorem dX13_isCast_96 : decode cX13_isCast 96 = .ok (.bipush 126, 2) := by decide +kernel
theorem dX13_isCast_98 : decode cX13_isCast 98 = .ok (.invokevirtual 383, 3) := by decide +kernel
theorem dX13_isCast_101 : decode cX13_isCast 101 = .ok (.ifCond .ne 53, 3) := by decide +kernel
theorem dX13_isCast_104 : decode cX13_isCast 104 = .ok (.aload_n 0, 1) := by decide +kernel
theorem dX13_isCast_105 : decode cX13_isCast 105 = .ok (.iload_n 1, 1) := by decide +kernel
theorem dX13_isCast_106 : decode cX13_isCast 106 = .ok (.bipush 16, 2) := by decide +kernel
theorem dX13_isCast_108 : decode cX13_isCast 108 = .ok (.invokevirtual 390, 3) := by decide +kernel
theorem dX13_isCast_111 : decode cX13_isCast 111 = .ok (.ifCond .ne 43, 3) := by decide +kernel
theorem dX13_isCast_114 : decode cX13_isCast 114 = .ok (.aload_n 0, 1) := by decide +kernel
theorem dX13_isCast_115 : decode cX13_isCast 115 = .ok (.iload_n 1, 1) := by decide +kernel
theorem dX13_isCast_116 : decode cX13_isCast 116 = .ok (.bipush 11, 2) := by decide +kernel
theorem dX13_isCast_118 : decode cX13_isCast 118 = .ok (.invokevirtual 390, 3) := by decide +kernel
theorem dX13_isCast_121 : decode cX13_isCast 121 = .ok (.ifCond .ne 33, 3) := by decide +kernel
theorem dX13_isCast_124 : decode cX13_isCast 124 = .ok (.aload_n 0, 1) := by decide +kernel
theorem dX13_isCast_125 : decode cX13_isCast 125 = .ok (.iload_n 1, 1) := by decide +kernel
theorem dX13_isCast_126 : decode cX13_isCast 126 = .ok (.bipush 12, 2) := by decide +kernel
theorem dX13_isCast_128 : decode cX13_isCast 128 = .ok (.invokevirtual 390, 3) := by decide +kernel
theorem dX13_isCast_131 : decode cX13_isCast 131 = .ok (.ifCond .ne 23, 3) := by decide +kernel
theorem dX13_isCast_134 : decode cX13_isCast 134 = .ok (.aload_n 0, 1) := by decide +kernel
theorem dX13_isCast_135 : decode cX13_isCast 135 = .ok (.iload_n 1, 1) := by decide +kernel
theorem dX13_isCast_136 : decode cX13_isCast 136 = .ok (.bipush 18, 2) := by decide +kernel
theorem dX13_isCast_138 : decode cX13_isCast 138 = .ok (.invokevirtual 390, 3) := by decide +kernel
theorem dX13_isCast_141 : decode cX13_isCast 141 = .ok (.ifCond .ne 13, 3) := by decide +kernel
theorem dX13_isCast_144 : decode cX13_isCast 144 = .ok (.aload_n 0, 1) := by decide +kernel
theorem dX13_isCast_145 : decode cX13_isCast 145 = .ok (.iload_n 1, 1) := by decide +kernel
theorem dX13_isCast_146 : decode cX13_isCast 146 = .ok (.bipush 7, 2) := by decide +kernel
theorem dX13_isCast_148 : decode cX13_isCast 148 = .ok (.invokevirtual 390, 3) := by decide +kernel
theorem dX13_isCast_151 : decode cX13_isCast 151 = .ok (.ifCond .eq 7, 3) := by decide +kernel
theorem dX13_isCast_154 : decode cX13_isCast 154 = .ok (.iconst 1, 1) := by decide +kernel
theorem dX13_isCast_155 : decode cX13_isCast 155 = .ok (.goto 4, 3) := by decide +kernel
theorem dX13_isCast_158 : decode cX13_isCast 158 = .ok (.iconst 0, 1) := by decide +kernel
theorem dX13_isCast_159 : decode cX13_isCast 159 = .ok (.ireturn, 1) := by decide +kernel
theorem dX13_classOf_0 : decode cX13_classOf 0 = .ok (.aload_n 0, 1) := by decide +kernel
theorem dX13_classOf_1 : decode cX13_classOf 1 = .ok (.ldc_w 477, 3) := by decide +kernel
theorem dX13_classOf_4 : decode cX13_classOf 4 = .ok (.aload_n 0, 1) := by decide +kernel
theorem dX13_classOf_5 : decode cX13_classOf 5 = .ok (.getfield 19, 3) := by decide +kernel
theorem dX13_classOf_8 : decode cX13_classOf 8 = .ok (.iload_n 1, 1) := by decide +kernel
theorem dX13_classOf_9 : decode cX13_classOf 9 = .ok (.iaload, 1) := by decide +kernel
theorem dX13_classOf_10 : decode cX13_classOf 10 = .ok (.aload_n 0, 1) := by decide +kernel
theorem dX13_classOf_11 : decode cX13_classOf 11 = .ok (.getfield 22, 3) := by decide +kernel
theorem dX13_classOf_14 : decode cX13_classOf 14 = .ok (.iload_n 1, 1) := by decide +kernel
theorem dX13_classOf_15 : decode cX13_classOf 15 = .ok (.iaload, 1) := by decide +kernel
theorem dX13_classOf_16 : decode cX13_classOf 16 = .ok (.invokevirtual 354, 3) := by decide +kernel
theorem dX13_classOf_19 : decode cX13_classOf 19 = .ok (.istore_n 2, 1) := by decide +kernel
theorem dX13_classOf_20 : decode cX13_classOf 20 = .ok (.iload_n 2, 1) := by decide +kernel
theorem dX13_classOf_21 : decode cX13_classOf 21 = .ok (.ifCond .lt 5, 3) := by decide +kernel
theorem dX13_classOf_24 : decode cX13_classOf 24 = .ok (.iload_n 2, 1) := by decide +kernel
theorem dX13_classOf_25 : decode cX13_classOf 25 = .ok (.ireturn, 1) := by decide +kernel
theorem dX13_classOf_26 : decode cX13_classOf 26 = .ok (.iconst 0, 1) := by decide +kernel
theorem dX13_classOf_27 : decode cX13_classOf 27 = .ok (.istore_n 3, 1) := by decide +kernel
theorem dX13_classOf_28 : decode cX13_classOf 28 = .ok (.iload_n 3, 1) := by decide +kernel
theorem dX13_classOf_29 : decode cX13_classOf 29 = .ok (.aload_n 0, 1) := by decide +kernel
theorem dX13_classOf_30 : decode cX13_classOf 30 = .ok (.getfield 409, 3) := by decide +kernel
theorem dX13_classOf_33 : decode cX13_classOf 33 = .ok (.if_icmp .ge 28, 3) := by decide +kernel
theorem dX13_classOf_36 : decode cX13_classOf 36 = .ok (.aload_n 0, 1) := by decide +kernel
theorem dX13_classOf_37 : decode cX13_classOf 37 = .ok (.aload_n 0, 1) := by decide +kernel
theorem dX13_classOf_38 : decode cX13_classOf 38 = .ok (.getfield 62, 3) := by decide +kernel
theorem dX13_classOf_41 : decode cX13_classOf 41 = .ok (.iload_n 3, 1) := by decide +kernel
theorem dX13_classOf_42 : decode cX13_classOf 42 = .ok (.iaload, 1) := by decide +kernel
theorem dX13_classOf_43 : decode cX13_classOf 43 = .ok (.iload_n 1, 1) := by decide +kernel
theorem dX13_classOf_44 : decode cX13_classOf 44 = .ok (.invokevirtual 479, 3) := by decide +kernel
theorem dX13_classOf_47 : decode cX13_classOf 47 = .ok (.ifCond .eq 8, 3) := by decide +kernel
theorem dX13_classOf_50 : decode cX13_classOf 50 = .ok (.bipush 8, 2) := by decide +kernel
theorem dX13_classOf_52 : decode cX13_classOf 52 = .ok (.iload_n 3, 1) := by decide +kernel
theorem dX13_classOf_53 : decode cX13_classOf 53 = .ok (.iadd, 1) := by decide +kernel
theorem dX13_classOf_54 : decode cX13_classOf 54 = .ok (.ireturn, 1) := by decide +kernel
theorem dX13_classOf_55 : decode cX13_classOf 55 = .ok (.iinc 3 1, 3) := by decide +kernel
theorem dX13_classOf_58 : decode cX13_classOf 58 = .ok (.goto (-30), 3) := by decide +kernel
theorem dX13_classOf_61 : decode cX13_classOf 61 = .ok (.iconst (-1), 1) := by decide +kernel
theorem dX13_classOf_62 : decode cX13_classOf 62 = .ok (.ireturn, 1) := by decide +kernel
theorem dX13_typeOf_0 : decode cX13_typeOf 0 = .ok (.aload_n 0, 1) := by decide +kernel
theorem dX13_typeOf_1 : decode cX13_typeOf 1 = .ok (.getfield 319, 3) := by decide +kernel
theorem dX13_typeOf_4 : decode cX13_typeOf 4 = .ok (.ifCond .eq 5, 3) := by decide +kernel
theorem dX13_typeOf_7 : decode cX13_typeOf 7 = .ok (.iconst 0, 1) := by decide +kernel
theorem dX13_typeOf_8 : decode cX13_typeOf 8 = .ok (.ireturn, 1) := by decide +kernel
theorem dX13_typeOf_9 : decode cX13_typeOf 9 = .ok (.iload_n 1, 1) := by decide +kernel
theorem dX13_typeOf_10 : decode cX13_typeOf 10 = .ok (.ifCond .ne 13, 3) := by decide +kernel
theorem dX13_typeOf_13 : decode cX13_typeOf 13 = .ok (.iload_n 3, 1) := by decide +kernel
theorem dX13_typeOf_14 : decode cX13_typeOf 14 = .ok (.ifCond .eq 7, 3) := by decide +kernel
theorem dX13_typeOf_17 : decode cX13_typeOf 17 = .ok (.iconst 4, 1) := by decide +kernel
theorem dX13_typeOf_18 : decode cX13_typeOf 18 = .ok (.goto 4, 3) := by decide +kernel
theorem dX13_typeOf_21 : decode cX13_typeOf 21 = .ok (.iconst 0, 1) := by decide +kernel
theorem dX13_typeOf_22 : decode cX13_typeOf 22 = .ok (.ireturn, 1) := by decide +kernel
theorem dX13_typeOf_23 : decode cX13_typeOf 23 = .ok (.iload_n 1, 1) := by decide +kernel
theorem dX13_typeOf_24 : decode cX13_typeOf 24 = .ok (.iconst 1, 1) := by decide +kernel
theorem dX13_typeOf_25 : decode cX13_typeOf 25 = .ok (.if_icmp .ne 5, 3) := by decide +kernel
theorem dX13_typeOf_28 : decode cX13_typeOf 28 = .ok (.iconst 1, 1) := by decide +kernel
theorem dX13_typeOf_29 : decode cX13_typeOf 29 = .ok (.ireturn, 1) := by decide +kernel
theorem dX13_typeOf_30 : decode cX13_typeOf 30 = .ok (.iload_n 1, 1) := by decide +kernel
theorem dX13_typeOf_31 : decode cX13_typeOf 31 = .ok (.iconst 2, 1) := by decide +kernel
theorem dX13_typeOf_32 : decode cX13_typeOf 32 = .ok (.if_icmp .ne 5, 3) := by decide +kernel
theorem dX13_typeOf_35 : decode cX13_typeOf 35 = .ok (.iconst 3, 1) := by decide +kernel
theorem dX13_typeOf_36 : decode cX13_typeOf 36 = .ok (.ireturn, 1) := by decide +kernel
theorem dX13_typeOf_37 : decode cX13_typeOf 37 = .ok (.aload_n 0, 1) := by decide +kernel
theorem dX13_typeOf_38 : decode cX13_typeOf 38 = .ok (.iload_n 2, 1) := by decide +kernel
theorem dX13_typeOf_39 : decode cX13_typeOf 39 = .ok (.invokevirtual 494, 3) := by decide +kernel
theorem dX13_typeOf_42 : decode cX13_typeOf 42 = .ok (.istore 4, 2) := by decide +kernel
theorem dX13_typeOf_44 : decode cX13_typeOf 44 = .ok (.iload 4, 2) := by decide +kernel
theorem dX13_typeOf_46 : decode cX13_typeOf 46 = .ok (.iconst (-1), 1) := by decide +kernel
theorem dX13_typeOf_47 : decode cX13_typeOf 47 = .ok (.if_icmp .ne 9, 3) := by decide +kernel
theorem dX13_typeOf_50 : decode cX13_typeOf 50 = .ok (.aload_n 0, 1) := by decide +kernel
theorem dX13_typeOf_51 : decode cX13_typeOf 51 = .ok (.iconst 5, 1) := by decide +kernel
theorem dX13_typeOf_52 : decode cX13_typeOf 52 = .ok (.iload_n 2, 1) := by decide +kernel
theorem dX13_typeOf_53 : decode cX13_typeOf 53 = .ok (.invokevirtual 379, 3) := by decide +kernel
theorem dX13_typeOf_56 : decode cX13_typeOf 56 = .ok (.bipush 8, 2) := by decide +kernel
theorem dX13_typeOf_58 : decode cX13_typeOf 58 = .ok (.iconst 2, 1) := by decide +kernel
theorem dX13_typeOf_59 : decode cX13_typeOf 59 = .ok (.iload 4, 2) := by decide +kernel
theorem dX13_typeOf_61 : decode cX13_typeOf 61 = .ok (.imul, 1) := by decide +kernel
theorem dX13_typeOf_62 : decode cX13_typeOf 62 = .ok (.iadd, 1) := by decide +kernel
theorem dX13_typeOf_63 : decode cX13_typeOf 63 = .ok (.iload_n 3, 1) := by decide +kernel
theorem dX13_typeOf_64 : decode cX13_typeOf 64 = .ok (.ifCond .eq 7, 3) := by decide +kernel
theorem dX13_typeOf_67 : decode cX13_typeOf 67 = .ok (.iconst 1, 1) := by decide +kernel
theorem dX13_typeOf_68 : decode cX13_typeOf 68 = .ok (.goto 4, 3) := by decide +kernel
theorem dX13_typeOf_71 : decode cX13_typeOf 71 = .ok (.iconst 0, 1) := by decide +kernel
theorem dX13_typeOf_72 : decode cX13_typeOf 72 = .ok (.iadd, 1) := by decide +kernel
theorem dX13_typeOf_73 : decode cX13_typeOf 73 = .ok (.ireturn, 1) := by decide +kernel
theorem dX13_heads_0 : decode cX13_heads 0 = .ok (.iconst 0, 1) := by decide +kernel
theorem dX13_heads_1 : decode cX13_heads 1 = .ok (.istore_n 1, 1) := by decide +kernel
theorem dX13_heads_2 : decode cX13_heads 2 = .ok (.iload_n 1, 1) := by decide +kernel
theorem dX13_heads_3 : decode cX13_heads 3 = .ok (.aload_n 0, 1) := by decide +kernel
theorem dX13_heads_4 : decode cX13_heads 4 = .ok (.getfield 409, 3) := by decide +kernel
theorem dX13_heads_7 : decode cX13_heads 7 = .ok (.if_icmp .ge 41, 3) := by decide +kernel
theorem dX13_heads_10 : decode cX13_heads 10 = .ok (.aload_n 0, 1) := by decide +kernel
theorem dX13_heads_11 : decode cX13_heads 11 = .ok (.getfield 65, 3) := by decide +kernel
theorem dX13_heads_14 : decode cX13_heads 14 = .ok (.iload_n 1, 1) := by decide +kernel
theorem dX13_heads_15 : decode cX13_heads 15 = .ok (.iaload, 1) := by decide +kernel
theorem dX13_heads_16 : decode cX13_heads 16 = .ok (.iconst (-1), 1) := by decide +kernel
theorem dX13_heads_17 : decode cX13_heads 17 = .ok (.if_icmp .ne 7, 3) := by decide +kernel
theorem dX13_heads_20 : decode cX13_heads 20 = .ok (.iconst 0, 1) := by decide +kernel
theorem dX13_heads_21 : decode cX13_heads 21 = .ok (.goto 13, 3) := by decide +kernel
theorem dX13_heads_24 : decode cX13_heads 24 = .ok (.aload_n 0, 1) := by decide +kernel
theorem dX13_heads_25 : decode cX13_heads 25 = .ok (.aload_n 0, 1) := by decide +kernel
theorem dX13_heads_26 : decode cX13_heads 26 = .ok (.getfield 65, 3) := by decide +kernel
theorem dX13_heads_29 : decode cX13_heads 29 = .ok (.iload_n 1, 1) := by decide +kernel
theorem dX13_heads_30 : decode cX13_heads 30 = .ok (.iaload, 1) := by decide +kernel
theorem dX13_heads_31 : decode cX13_heads 31 = .ok (.invokevirtual 494, 3) := by decide +kernel
theorem dX13_heads_34 : decode cX13_heads 34 = .ok (.istore_n 2, 1) := by decide +kernel
theorem dX13_heads_35 : decode cX13_heads 35 = .ok (.aload_n 0, 1) := by decide +kernel
theorem dX13_heads_36 : decode cX13_heads 36 = .ok (.getfield 68, 3) := by decide +kernel
theorem dX13_heads_39 : decode cX13_heads 39 = .ok (.iload_n 1, 1) := by decide +kernel
theorem dX13_heads_40 : decode cX13_heads 40 = .ok (.iload_n 2, 1) := by decide +kernel
theorem dX13_heads_41 : decode cX13_heads 41 = .ok (.iastore, 1) := by decide +kernel
theorem dX13_heads_42 : decode cX13_heads 42 = .ok (.iinc 1 1, 3) := by decide +kernel
theorem dX13_heads_45 : decode cX13_heads 45 = .ok (.goto (-43), 3) := by decide +kernel
theorem dX13_heads_48 : decode cX13_heads 48 = .ok (.iconst 0, 1) := by decide +kernel
theorem dX13_heads_49 : decode cX13_heads 49 = .ok (.istore_n 1, 1) := by decide +kernel
theorem dX13_heads_50 : decode cX13_heads 50 = .ok (.iload_n 1, 1) := by decide +kernel
theorem dX13_heads_51 : decode cX13_heads 51 = .ok (.aload_n 0, 1) := by decide +kernel
theorem dX13_heads_52 : decode cX13_heads 52 = .ok (.getfield 409, 3) := by decide +kernel
theorem dX13_heads_55 : decode cX13_heads 55 = .ok (.if_icmp .ge 135, 3) := by decide +kernel
theorem dX13_heads_58 : decode cX13_heads 58 = .ok (.aload_n 0, 1) := by decide +kernel
theorem dX13_heads_59 : decode cX13_heads 59 = .ok (.getfield 319, 3) := by decide +kernel
theorem dX13_heads_62 : decode cX13_heads 62 = .ok (.ifCond .ne 128, 3) := by decide +kernel
theorem dX13_heads_65 : decode cX13_heads 65 = .ok (.iload_n 1, 1) := by decide +kernel
theorem dX13_heads_66 : decode cX13_heads 66 = .ok (.bipush 8, 2) := by decide +kernel
theorem dX13_heads_68 : decode cX13_heads 68 = .ok (.if_icmp .ne 15, 3) := by decide +kernel
theorem dX13_heads_71 : decode cX13_heads 71 = .ok (.aload_n 0, 1) := by decide +kernel
theorem dX13_heads_72 : decode cX13_heads 72 = .ok (.bipush 11, 2) := by decide +kernel
theorem dX13_heads_74 : decode cX13_heads 74 = .ok (.aload_n 0, 1) := by decide +kernel
theorem dX13_heads_75 : decode cX13_heads 75 = .ok (.getfield 62, 3) := by decide +kernel
theorem dX13_heads_78 : decode cX13_heads 78 = .ok (.iload_n 1, 1) := by decide +kernel
theorem dX13_heads_79 : decode cX13_heads 79 = .ok (.iaload, 1) := by decide +kernel
theorem dX13_heads_80 : decode cX13_heads 80 = .ok (.invokevirtual 379, 3) := by decide +kernel
theorem dX13_heads_83 : decode cX13_heads 83 = .ok (.aload_n 0, 1) := by decide +kernel
theorem dX13_heads_84 : decode cX13_heads 84 = .ok (.aload_n 0, 1) := by decide +kernel
theorem dX13_heads_85 : decode cX13_heads 85 = .ok (.getfield 62, 3) := by decide +kernel
theorem dX13_heads_88 : decode cX13_heads 88 = .ok (.iload_n 1, 1) := by decide +kernel
theorem dX13_heads_89 : decode cX13_heads 89 = .ok (.iaload, 1) := by decide +kernel
theorem dX13_heads_90 : decode cX13_heads 90 = .ok (.invokevirtual 494, 3) := by decide +kernel
theorem dX13_heads_93 : decode cX13_heads 93 = .ok (.bipush 8, 2) := by decide +kernel
theorem dX13_heads_95 : decode cX13_heads 95 = .ok (.iload_n 1, 1) := by decide +kernel
theorem dX13_heads_96 : decode cX13_heads 96 = .ok (.iadd, 1) := by decide +kernel
theorem dX13_heads_97 : decode cX13_heads 97 = .ok (.if_icmp .eq 14, 3) := by decide +kernel
theorem dX13_heads_100 : decode cX13_heads 100 = .ok (.aload_n 0, 1) := by decide +kernel
theorem dX13_heads_101 : decode cX13_heads 101 = .ok (.iconst 4, 1) := by decide +kernel
theorem dX13_heads_102 : decode cX13_heads 102 = .ok (.aload_n 0, 1) := by decide +kernel
theorem dX13_heads_103 : decode cX13_heads 103 = .ok (.getfield 62, 3) := by decide +kernel
theorem dX13_heads_106 : decode cX13_heads 106 = .ok (.iload_n 1, 1) := by decide +kernel
theorem dX13_heads_107 : decode cX13_heads 107 = .ok (.iaload, 1) := by decide +kernel
theorem dX13_heads_108 : decode cX13_heads 108 = .ok (.invokevirtual 379, 3) := by decide +kernel
theorem dX13_heads_111 : decode cX13_heads 111 = .ok (.aload_n 0, 1) := by decide +kernel
theorem dX13_heads_112 : decode cX13_heads 112 = .ok (.getfield 68, 3) := by decide +kernel
theorem dX13_heads_115 : decode cX13_heads 115 = .ok (.iload_n 1, 1) := by decide +kernel
theorem dX13_heads_116 : decode cX13_heads 116 = .ok (.iaload, 1) := by decide +kernel
theorem dX13_heads_117 : decode cX13_heads 117 = .ok (.iconst (-1), 1) := by decide +kernel
theorem dX13_heads_118 : decode cX13_heads 118 = .ok (.if_icmp .ne 14, 3) := by decide +kernel
theorem dX13_heads_121 : decode cX13_heads 121 = .ok (.aload_n 0, 1) := by decide +kernel
theorem dX13_heads_122 : decode cX13_heads 122 = .ok (.iconst 5, 1) := by decide +kernel
theorem dX13_heads_123 : decode cX13_heads 123 = .ok (.aload_n 0, 1) := by decide +kernel
theorem dX13_heads_124 : decode cX13_heads 124 = .ok (.getfield 65, 3) := by decide +kernel
theorem dX13_heads_127 : decode cX13_heads 127 = .ok (.iload_n 1, 1) := by decide +kernel
theorem dX13_heads_128 : decode cX13_heads 128 = .ok (.iaload, 1) := by decide +kernel
theorem dX13_heads_129 : decode cX13_heads 129 = .ok (.invokevirtual 379, 3) := by decide +kernel
theorem dX13_heads_132 : decode cX13_heads 132 = .ok (.bipush 8, 2) := by decide +kernel
theorem dX13_heads_134 : decode cX13_heads 134 = .ok (.iload_n 1, 1) := by decide +kernel
theorem dX13_heads_135 : decode cX13_heads 135 = .ok (.iadd, 1) := by decide +kernel
theorem dX13_heads_136 : decode cX13_heads 136 = .ok (.istore_n 2, 1) := by decide +kernel
theorem dX13_heads_137 : decode cX13_heads 137 = .ok (.iconst 0, 1) := by decide +kernel
theorem dX13_heads_138 : decode cX13_heads 138 = .ok (.istore_n 3, 1) := by decide +kernel
theorem dX13_heads_139 : decode cX13_heads 139 = .ok (.iload_n 3, 1) := by decide +kernel
theorem dX13_heads_140 : decode cX13_heads 140 = .ok (.aload_n 0, 1) := by decide +kernel
theorem dX13_heads_141 : decode cX13_heads 141 = .ok (.getfield 409, 3) := by decide +kernel
theorem dX13_heads_144 : decode cX13_heads 144 = .ok (.bipush 9, 2) := by decide +kernel
theorem dX13_heads_146 : decode cX13_heads 146 = .ok (.iadd, 1) := by decide +kernel
theorem dX13_heads_147 : decode cX13_heads 147 = .ok (.if_icmp .gt 20, 3) := by decide +kernel
theorem dX13_heads_150 : decode cX13_heads 150 = .ok (.iload_n 2, 1) := by decide +kernel
theorem dX13_heads_151 : decode cX13_heads 151 = .ok (.iconst (-1), 1) := by decide +kernel
theorem dX13_heads_152 : decode cX13_heads 152 = .ok (.if_icmp .eq 15, 3) := by decide +kernel
theorem dX13_heads_155 : decode cX13_heads 155 = .ok (.aload_n 0, 1) := by decide +kernel
theorem dX13_heads_156 : decode cX13_heads 156 = .ok (.iload_n 2, 1) := by decide +kernel
theorem dX13_heads_157 : decode cX13_heads 157 = .ok (.invokevirtual 482, 3) := by decide +kernel
theorem dX13_heads_160 : decode cX13_heads 160 = .ok (.istore_n 2, 1) := by decide +kernel
theorem dX13_heads_161 : decode cX13_heads 161 = .ok (.iinc 3 1, 3) := by decide +kernel
theorem dX13_heads_164 : decode cX13_heads 164 = .ok (.goto (-25), 3) := by decide +kernel
theorem dX13_heads_167 : decode cX13_heads 167 = .ok (.iload_n 2, 1) := by decide +kernel
theorem dX13_heads_168 : decode cX13_heads 168 = .ok (.iconst (-1), 1) := by decide +kernel
theorem dX13_heads_169 : decode cX13_heads 169 = .ok (.if_icmp .eq 15, 3) := by decide +kernel
theorem dX13_heads_172 : decode cX13_heads 172 = .ok (.aload_n 0, 1) := by decide +kernel
theorem dX13_heads_173 : decode cX13_heads 173 = .ok (.bipush 6, 2) := by decide +kernel
theorem dX13_heads_175 : decode cX13_heads 175 = .ok (.aload_n 0, 1) := by decide +kernel
theorem dX13_heads_176 : decode cX13_heads 176 = .ok (.getfield 65, 3) := by decide +kernel
theorem dX13_heads_179 : decode cX13_heads 179 = .ok (.iload_n 1, 1) := by decide +kernel
theorem dX13_heads_180 : decode cX13_heads 180 = .ok (.iaload, 1) := by decide +kernel
theorem dX13_heads_181 : decode cX13_heads 181 = .ok (.invokevirtual 379, 3) := by decide +kernel
theorem dX13_heads_184 : decode cX13_heads 184 = .ok (.iinc 1 1, 3) := by decide +kernel
theorem dX13_heads_187 : decode cX13_heads 187 = .ok (.goto (-137), 3) := by decide +kernel
theorem dX13_heads_190 : decode cX13_heads 190 = .ok (.iconst 0, 1) := by decide +kernel
theorem dX13_heads_191 : decode cX13_heads 191 = .ok (.istore_n 1, 1) := by decide +kernel
theorem dX13_heads_192 : decode cX13_heads 192 = .ok (.iload_n 1, 1) := by decide +kernel
theorem dX13_heads_193 : decode cX13_heads 193 = .ok (.aload_n 0, 1) := by decide +kernel
theorem dX13_heads_194 : decode cX13_heads 194 = .ok (.getfield 412, 3) := by decide +kernel
theorem dX13_heads_197 : decode cX13_heads 197 = .ok (.if_icmp .ge 21, 3) := by decide +kernel
theorem dX13_heads_200 : decode cX13_heads 200 = .ok (.aload_n 0, 1) := by decide +kernel
theorem dX13_heads_201 : decode cX13_heads 201 = .ok (.getfield 319, 3) := by decide +kernel
theorem dX13_heads_204 : decode cX13_heads 204 = .ok (.ifCond .ne 14, 3) := by decide +kernel
theorem dX13_heads_207 : decode cX13_heads 207 = .ok (.aload_n 0, 1) := by decide +kernel
theorem dX13_heads_208 : decode cX13_heads 208 = .ok (.iload_n 1, 1) := by decide +kernel
theorem dX13_heads_209 : decode cX13_heads 209 = .ok (.invokevirtual 497, 3) := by decide +kernel
theorem dX13_heads_212 : decode cX13_heads 212 = .ok (.iinc 1 1, 3) := by decide +kernel
theorem dX13_heads_215 : decode cX13_heads 215 = .ok (.goto (-23), 3) := by decide +kernel
theorem dX13_heads_218 : decode cX13_heads 218 = .ok (.iconst 0, 1) := by decide +kernel
theorem dX13_heads_219 : decode cX13_heads 219 = .ok (.istore_n 1, 1) := by decide +kernel
theorem dX13_heads_220 : decode cX13_heads 220 = .ok (.iload_n 1, 1) := by decide +kernel
theorem dX13_heads_221 : decode cX13_heads 221 = .ok (.aload_n 0, 1) := by decide +kernel
theorem dX13_heads_222 : decode cX13_heads 222 = .ok (.getfield 412, 3) := by decide +kernel
theorem dX13_heads_225 : decode cX13_heads 225 = .ok (.if_icmp .ge 30, 3) := by decide +kernel
theorem dX13_heads_228 : decode cX13_heads 228 = .ok (.aload_n 0, 1) := by decide +kernel
theorem dX13_heads_229 : decode cX13_heads 229 = .ok (.getfield 319, 3) := by decide +kernel
theorem dX13_heads_232 : decode cX13_heads 232 = .ok (.ifCond .ne 23, 3) := by decide +kernel
theorem dX13_heads_235 : decode cX13_heads 235 = .ok (.aload_n 0, 1) := by decide +kernel
theorem dX13_heads_236 : decode cX13_heads 236 = .ok (.getfield 74, 3) := by decide +kernel
theorem dX13_heads_239 : decode cX13_heads 239 = .ok (.iload_n 1, 1) := by decide +kernel
theorem dX13_heads_240 : decode cX13_heads 240 = .ok (.iaload, 1) := by decide +kernel
theorem dX13_heads_241 : decode cX13_heads 241 = .ok (.ifCond .le 8, 3) := by decide +kernel
theorem dX13_heads_244 : decode cX13_heads 244 = .ok (.aload_n 0, 1) := by decide +kernel
theorem dX13_heads_245 : decode cX13_heads 245 = .ok (.iload_n 1, 1) := by decide +kernel
theorem dX13_heads_246 : decode cX13_heads 246 = .ok (.invokevirtual 500, 3) := by decide +kernel
theorem dX13_heads_249 : decode cX13_heads 249 = .ok (.iinc 1 1, 3) := by decide +kernel
theorem dX13_heads_252 : decode cX13_heads 252 = .ok (.goto (-32), 3) := by decide +kernel
theorem dX13_heads_255 : decode cX13_heads 255 = .ok (.return_, 1) := by decide +kernel
theorem dX13_memberHead_0 : decode cX13_memberHead 0 = .ok (.aload_n 0, 1) := by decide +kernel
theorem dX13_memberHead_1 : decode cX13_memberHead 1 = .ok (.getfield 89, 3) := by decide +kernel
theorem dX13_memberHead_4 : decode cX13_memberHead 4 = .ok (.iload_n 1, 1) := by decide +kernel
theorem dX13_memberHead_5 : decode cX13_memberHead 5 = .ok (.aload_n 0, 1) := by decide +kernel
theorem dX13_memberHead_6 : decode cX13_memberHead 6 = .ok (.aload_n 0, 1) := by decide +kernel
theorem dX13_memberHead_7 : decode cX13_memberHead 7 = .ok (.getfield 77, 3) := by decide +kernel
theorem dX13_memberHead_10 : decode cX13_memberHead 10 = .ok (.iload_n 1, 1) := by decide +kernel
theorem dX13_memberHead_11 : decode cX13_memberHead 11 = .ok (.iaload, 1) := by decide +kernel
theorem dX13_memberHead_12 : decode cX13_memberHead 12 = .ok (.aload_n 0, 1) := by decide +kernel
theorem dX13_memberHead_13 : decode cX13_memberHead 13 = .ok (.getfield 80, 3) := by decide +kernel
theorem dX13_memberHead_16 : decode cX13_memberHead 16 = .ok (.iload_n 1, 1) := by decide +kernel
theorem dX13_memberHead_17 : decode cX13_memberHead 17 = .ok (.iaload, 1) := by decide +kernel
theorem dX13_memberHead_18 : decode cX13_memberHead 18 = .ok (.aload_n 0, 1) := by decide +kernel
theorem dX13_memberHead_19 : decode cX13_memberHead 19 = .ok (.getfield 83, 3) := by decide +kernel
theorem dX13_memberHead_22 : decode cX13_memberHead 22 = .ok (.iload_n 1, 1) := by decide +kernel
theorem dX13_memberHead_23 : decode cX13_memberHead 23 = .ok (.baload, 1) := by decide +kernel
theorem dX13_memberHead_24 : decode cX13_memberHead 24 = .ok (.invokevirtual 503, 3) := by decide +kernel
theorem dX13_memberHead_27 : decode cX13_memberHead 27 = .ok (.iastore, 1) := by decide +kernel
theorem dX13_memberHead_28 : decode cX13_memberHead 28 = .ok (.iconst 0, 1) := by decide +kernel
theorem dX13_memberHead_29 : decode cX13_memberHead 29 = .ok (.istore_n 2, 1) := by decide +kernel
theorem dX13_memberHead_30 : decode cX13_memberHead 30 = .ok (.iconst 0, 1) := by decide +kernel
theorem dX13_memberHead_31 : decode cX13_memberHead 31 = .ok (.istore_n 3, 1) := by decide +kernel
theorem dX13_memberHead_32 : decode cX13_memberHead 32 = .ok (.iconst 0, 1) := by decide +kernel
theorem dX13_memberHead_33 : decode cX13_memberHead 33 = .ok (.istore 4, 2) := by decide +kernel
theorem dX13_memberHead_35 : decode cX13_memberHead 35 = .ok (.iload 4, 2) := by decide +kernel
theorem dX13_memberHead_37 : decode cX13_memberHead 37 = .ok (.iload_n 1, 1) := by decide +kernel
theorem dX13_memberHead_38 : decode cX13_memberHead 38 = .ok (.if_icmp .ge 83, 3) := by decide +kernel
theorem dX13_memberHead_41 : decode cX13_memberHead 41 = .ok (.aload_n 0, 1) := by decide +kernel
theorem dX13_memberHead_42 : decode cX13_memberHead 42 = .ok (.getfield 71, 3) := by decide +kernel
theorem dX13_memberHead_45 : decode cX13_memberHead 45 = .ok (.iload 4, 2) := by decide +kernel
theorem dX13_memberHead_47 : decode cX13_memberHead 47 = .ok (.iaload, 1) := by decide +kernel
theorem dX13_memberHead_48 : decode cX13_memberHead 48 = .ok (.aload_n 0, 1) := by decide +kernel
theorem dX13_memberHead_49 : decode cX13_memberHead 49 = .ok (.getfield 71, 3) := by decide +kernel
theorem dX13_memberHead_52 : decode cX13_memberHead 52 = .ok (.iload_n 1, 1) := by decide +kernel
theorem dX13_memberHead_53 : decode cX13_memberHead 53 = .ok (.iaload, 1) := by decide +kernel
theorem dX13_memberHead_54 : decode cX13_memberHead 54 = .ok (.if_icmp .ne 61, 3) := by decide +kernel
theorem dX13_memberHead_57 : decode cX13_memberHead 57 = .ok (.aload_n 0, 1) := by decide +kernel
theorem dX13_memberHead_58 : decode cX13_memberHead 58 = .ok (.getfield 74, 3) := by decide +kernel
theorem dX13_memberHead_61 : decode cX13_memberHead 61 = .ok (.iload 4, 2) := by decide +kernel
theorem dX13_memberHead_63 : decode cX13_memberHead 63 = .ok (.iaload, 1) := by decide +kernel
theorem dX13_memberHead_64 : decode cX13_memberHead 64 = .ok (.ifCond .le 7, 3) := by decide +kernel
theorem dX13_memberHead_67 : decode cX13_memberHead 67 = .ok (.iconst 1, 1) := by decide +kernel
theorem dX13_memberHead_68 : decode cX13_memberHead 68 = .ok (.goto 4, 3) := by decide +kernel
theorem dX13_memberHead_71 : decode cX13_memberHead 71 = .ok (.iconst 0, 1) := by decide +kernel
theorem dX13_memberHead_72 : decode cX13_memberHead 72 = .ok (.aload_n 0, 1) := by decide +kernel
theorem dX13_memberHead_73 : decode cX13_memberHead 73 = .ok (.getfield 74, 3) := by decide +kernel
theorem dX13_memberHead_76 : decode cX13_memberHead 76 = .ok (.iload_n 1, 1) := by decide +kernel
theorem dX13_memberHead_77 : decode cX13_memberHead 77 = .ok (.iaload, 1) := by decide +kernel
theorem dX13_memberHead_78 : decode cX13_memberHead 78 = .ok (.ifCond .le 7, 3) := by decide +kernel
theorem dX13_memberHead_81 : decode cX13_memberHead 81 = .ok (.iconst 1, 1) := by decide +kernel
theorem dX13_memberHead_82 : decode cX13_memberHead 82 = .ok (.goto 4, 3) := by decide +kernel
theorem dX13_memberHead_85 : decode cX13_memberHead 85 = .ok (.iconst 0, 1) := by decide +kernel
theorem dX13_memberHead_86 : decode cX13_memberHead 86 = .ok (.if_icmp .eq 6, 3) := by decide +kernel
theorem dX13_memberHead_89 : decode cX13_memberHead 89 = .ok (.goto 26, 3) := by decide +kernel
theorem dX13_memberHead_92 : decode cX13_memberHead 92 = .ok (.iinc 2 1, 3) := by decide +kernel
theorem dX13_memberHead_95 : decode cX13_memberHead 95 = .ok (.iload_n 3, 1) := by decide +kernel
theorem dX13_memberHead_96 : decode cX13_memberHead 96 = .ok (.aload_n 0, 1) := by decide +kernel
theorem dX13_memberHead_97 : decode cX13_memberHead 97 = .ok (.aload_n 0, 1) := by decide +kernel
theorem dX13_memberHead_98 : decode cX13_memberHead 98 = .ok (.getfield 86, 3) := by decide +kernel
theorem dX13_memberHead_101 : decode cX13_memberHead 101 = .ok (.iload 4, 2) := by decide +kernel
theorem dX13_memberHead_103 : decode cX13_memberHead 103 = .ok (.iaload, 1) := by decide +kernel
theorem dX13_memberHead_104 : decode cX13_memberHead 104 = .ok (.aload_n 0, 1) := by decide +kernel
theorem dX13_memberHead_105 : decode cX13_memberHead 105 = .ok (.getfield 86, 3) := by decide +kernel
theorem dX13_memberHead_108 : decode cX13_memberHead 108 = .ok (.iload_n 1, 1) := by decide +kernel
theorem dX13_memberHead_109 : decode cX13_memberHead 109 = .ok (.iaload, 1) := by decide +kernel
theorem dX13_memberHead_110 : decode cX13_memberHead 110 = .ok (.invokevirtual 479, 3) := by decide +kernel
theorem dX13_memberHead_113 : decode cX13_memberHead 113 = .ok (.ior, 1) := by decide +kernel
theorem dX13_memberHead_114 : decode cX13_memberHead 114 = .ok (.istore_n 3, 1) := by decide +kernel
theorem dX13_memberHead_115 : decode cX13_memberHead 115 = .ok (.iinc 4 1, 3) := by decide +kernel
theorem dX13_memberHead_118 : decode cX13_memberHead 118 = .ok (.goto (-83), 3) := by decide +kernel
theorem dX13_memberHead_121 : decode cX13_memberHead 121 = .ok (.iload_n 2, 1) := by decide +kernel
theorem dX13_memberHead_122 : decode cX13_memberHead 122 = .ok (.bipush 12, 2) := by decide +kernel
theorem dX13_memberHead_124 : decode cX13_memberHead 124 = .ok (.if_icmp .ne 15, 3) := by decide +kernel
theorem dX13_memberHead_127 : decode cX13_memberHead 127 = .ok (.aload_n 0, 1) := by decide +kernel
theorem dX13_memberHead_128 : decode cX13_memberHead 128 = .ok (.bipush 11, 2) := by decide +kernel
theorem dX13_memberHead_130 : decode cX13_memberHead 130 = .ok (.aload_n 0, 1) := by decide +kernel
theorem dX13_memberHead_131 : decode cX13_memberHead 131 = .ok (.getfield 86, 3) := by decide +kernel
theorem dX13_memberHead_134 : decode cX13_memberHead 134 = .ok (.iload_n 1, 1) := by decide +kernel
theorem dX13_memberHead_135 : decode cX13_memberHead 135 = .ok (.iaload, 1) := by decide +kernel
theorem dX13_memberHead_136 : decode cX13_memberHead 136 = .ok (.invokevirtual 379, 3) := by decide +kernel
theorem dX13_memberHead_139 : decode cX13_memberHead 139 = .ok (.iload_n 3, 1) := by decide +kernel
theorem dX13_memberHead_140 : decode cX13_memberHead 140 = .ok (.ifCond .eq 14, 3) := by decide +kernel
theorem dX13_memberHead_143 : decode cX13_memberHead 143 = .ok (.aload_n 0, 1) := by decide +kernel
theorem dX13_memberHead_144 : decode cX13_memberHead 144 = .ok (.iconst 4, 1) := by decide +kernel
theorem dX13_memberHead_145 : decode cX13_memberHead 145 = .ok (.aload_n 0, 1) := by decide +kernel
theorem dX13_memberHead_146 : decode cX13_memberHead 146 = .ok (.getfield 86, 3) := by decide +kernel
theorem dX13_memberHead_149 : decode cX13_memberHead 149 = .ok (.iload_n 1, 1) := by decide +kernel
theorem dX13_memberHead_150 : decode cX13_memberHead 150 = .ok (.iaload, 1) := by decide +kernel
theorem dX13_memberHead_151 : decode cX13_memberHead 151 = .ok (.invokevirtual 379, 3) := by decide +kernel
theorem dX13_memberHead_154 : decode cX13_memberHead 154 = .ok (.iconst 0, 1) := by decide +kernel
theorem dX13_memberHead_155 : decode cX13_memberHead 155 = .ok (.istore 4, 2) := by decide +kernel
theorem dX13_memberHead_157 : decode cX13_memberHead 157 = .ok (.iload 4, 2) := by decide +kernel
theorem dX13_memberHead_159 : decode cX13_memberHead 159 = .ok (.aload_n 0, 1) := by decide +kernel
theorem dX13_memberHead_160 : decode cX13_memberHead 160 = .ok (.getfield 95, 3) := by decide +kernel
theorem dX13_memberHead_163 : decode cX13_memberHead 163 = .ok (.iload_n 1, 1) := by decide +kernel
theorem dX13_memberHead_164 : decode cX13_memberHead 164 = .ok (.iaload, 1) := by decide +kernel
theorem dX13_memberHead_165 : decode cX13_memberHead 165 = .ok (.if_icmp .ge 126, 3) := by decide +kernel
theorem dX13_memberHead_168 : decode cX13_memberHead 168 = .ok (.aload_n 0, 1) := by decide +kernel
theorem dX13_memberHead_169 : decode cX13_memberHead 169 = .ok (.getfield 92, 3) := by decide +kernel
theorem dX13_memberHead_172 : decode cX13_memberHead 172 = .ok (.iload_n 1, 1) := by decide +kernel
theorem dX13_memberHead_173 : decode cX13_memberHead 173 = .ok (.iaload, 1) := by decide +kernel
theorem dX13_memberHead_174 : decode cX13_memberHead 174 = .ok (.iload 4, 2) := by decide +kernel
theorem dX13_memberHead_176 : decode cX13_memberHead 176 = .ok (.iadd, 1) := by decide +kernel
theorem dX13_memberHead_177 : decode cX13_memberHead 177 = .ok (.istore 5, 2) := by decide +kernel
theorem dX13_memberHead_179 : decode cX13_memberHead 179 = .ok (.aload_n 0, 1) := by decide +kernel
theorem dX13_memberHead_180 : decode cX13_memberHead 180 = .ok (.getfield 113, 3) := by decide +kernel
theorem dX13_memberHead_183 : decode cX13_memberHead 183 = .ok (.iload 5, 2) := by decide +kernel
theorem dX13_memberHead_185 : decode cX13_memberHead 185 = .ok (.aload_n 0, 1) := by decide +kernel
theorem dX13_memberHead_186 : decode cX13_memberHead 186 = .ok (.aload_n 0, 1) := by decide +kernel
theorem dX13_memberHead_187 : decode cX13_memberHead 187 = .ok (.getfield 101, 3) := by decide +kernel
theorem dX13_memberHead_190 : decode cX13_memberHead 190 = .ok (.iload 5, 2) := by decide +kernel
theorem dX13_memberHead_192 : decode cX13_memberHead 192 = .ok (.iaload, 1) := by decide +kernel
theorem dX13_memberHead_193 : decode cX13_memberHead 193 = .ok (.aload_n 0, 1) := by decide +kernel
theorem dX13_memberHead_194 : decode cX13_memberHead 194 = .ok (.getfield 104, 3) := by decide +kernel
theorem dX13_memberHead_197 : decode cX13_memberHead 197 = .ok (.iload 5, 2) := by decide +kernel
theorem dX13_memberHead_199 : decode cX13_memberHead 199 = .ok (.iaload, 1) := by decide +kernel
theorem dX13_memberHead_200 : decode cX13_memberHead 200 = .ok (.aload_n 0, 1) := by decide +kernel
theorem dX13_memberHead_201 : decode cX13_memberHead 201 = .ok (.getfield 107, 3) := by decide +kernel
theorem dX13_memberHead_204 : decode cX13_memberHead 204 = .ok (.iload 5, 2) := by decide +kernel
theorem dX13_memberHead_206 : decode cX13_memberHead 206 = .ok (.baload, 1) := by decide +kernel
theorem dX13_memberHead_207 : decode cX13_memberHead 207 = .ok (.invokevirtual 503, 3) := by decide +kernel
theorem dX13_memberHead_210 : decode cX13_memberHead 210 = .ok (.iastore, 1) := by decide +kernel
theorem dX13_memberHead_211 : decode cX13_memberHead 211 = .ok (.iload 4, 2) := by decide +kernel
theorem dX13_memberHead_213 : decode cX13_memberHead 213 = .ok (.bipush 6, 2) := by decide +kernel
theorem dX13_memberHead_215 : decode cX13_memberHead 215 = .ok (.if_icmp .ne 16, 3) := by decide +kernel
theorem dX13_memberHead_218 : decode cX13_memberHead 218 = .ok (.aload_n 0, 1) := by decide +kernel
theorem dX13_memberHead_219 : decode cX13_memberHead 219 = .ok (.bipush 11, 2) := by decide +kernel
theorem dX13_memberHead_221 : decode cX13_memberHead 221 = .ok (.aload_n 0, 1) := by decide +kernel
theorem dX13_memberHead_222 : decode cX13_memberHead 222 = .ok (.getfield 110, 3) := by decide +kernel
theorem dX13_memberHead_225 : decode cX13_memberHead 225 = .ok (.iload 5, 2) := by decide +kernel
theorem dX13_memberHead_227 : decode cX13_memberHead 227 = .ok (.iaload, 1) := by decide +kernel
theorem dX13_memberHead_228 : decode cX13_memberHead 228 = .ok (.invokevirtual 379, 3) := by decide +kernel
theorem dX13_memberHead_231 : decode cX13_memberHead 231 = .ok (.aload_n 0, 1) := by decide +kernel
theorem dX13_memberHead_232 : decode cX13_memberHead 232 = .ok (.getfield 92, 3) := by decide +kernel
