abbrev cX13_lay : ByteArray := prog_15_method_3_code
def yX13_lay : MethodName := ⟨RX13, "lay", "(I)V"⟩
abbrev cX13_feed : ByteArray := prog_15_method_4_code
def yX13_feed : MethodName := ⟨RX13, "feed", "(IIIII)I"⟩
abbrev cX13_type_ : ByteArray := prog_15_method_223_code
def yX13_type_ : MethodName := ⟨RX13, "type", "(II)I"⟩
def wsX13_lay : List Cond := .code yX13_lay cX13_lay 3 none :: ([.fieldLink RX13 9 "ClassMillModel" "tape" "[I", .fieldLink RX13 312 "ClassMillModel" "taped" "I"] ++ wsX130)
def wsX13_feed : List Cond := .code yX13_feed cX13_feed 6 (some .int) :: ([.fieldLink RX13 312 "ClassMillModel" "taped" "I", .methodLink RX13 315 yX13_lay, .instanceMethod yX13_lay, .selects RX13 yX13_lay yX13_lay, .initialized RX13, .code yX13_lay cX13_lay 3 none, .fieldLink RX13 9 "ClassMillModel" "tape" "[I"] ++ wsX130)
def wsX13_isByte : List Cond := .code yX13_isByte cX13_isByte 2 (some .boolean) :: ([.fieldLink RX13 764 "ClassMillModel" "form" "I", .fieldLink RX13 767 "ClassMillModel" "lookSize" "I"] ++ wsX130)
def wsX13_scan_r1 : List Cond := [Cond.fieldLink RX13 788 "ClassMillModel" "into" "I", Cond.fieldLink RX13 764 "ClassMillModel" "form" "I", Cond.fieldLink RX13 218 "ClassMillModel" "constantMany" "[I", Cond.fieldLink RX13 245 "ClassMillModel" "look" "[I", Cond.fieldLink RX13 215 "ClassMillModel" "constantAt" "[I", Cond.fieldLink RX13 221 "ClassMillModel" "ownClass" "[I", Cond.fieldLink RX13 224 "ClassMillModel" "ownUpper" "[I", Cond.fieldLink RX13 233 "ClassMillModel" "methodMany" "[I", Cond.fieldLink RX13 236 "ClassMillModel" "methodAt" "[I", Cond.fieldLink RX13 767 "ClassMillModel" "lookSize" "I", Cond.methodLink RX13 800 yX13_isByte, Cond.instanceMethod yX13_isByte, Cond.selects RX13 yX13_isByte yX13_isByte, Cond.initialized RX13, Cond.code yX13_isByte cX13_isByte 2 (some .boolean), Cond.methodLink RX13 803 yX13_unfit, Cond.instanceMethod yX13_unfit, Cond.selects RX13 yX13_unfit yX13_unfit, Cond.code yX13_unfit cX13_unfit 2 none, Cond.methodLink RX13 806 yX13_scanConstant, Cond.instanceMethod yX13_scanConstant, Cond.selects RX13 yX13_scanConstant yX13_scanConstant, Cond.code yX13_scanConstant cX13_scanConstant 4 (some .int), Cond.methodLink RX13 809 yX13_checkConstant]
def wsX13_scan_r2 : List Cond := [Cond.instanceMethod yX13_checkConstant, Cond.selects RX13 yX13_checkConstant yX13_checkConstant, Cond.code yX13_checkConstant cX13_checkConstant 3 none, Cond.methodLink RX13 821 yX13_isText, Cond.instanceMethod yX13_isText, Cond.selects RX13 yX13_isText yX13_isText, Cond.code yX13_isText cX13_isText 5 (some .boolean), Cond.methodLink RX13 791 yX13_constantOf, Cond.instanceMethod yX13_constantOf, Cond.selects RX13 yX13_constantOf yX13_constantOf, Cond.code yX13_constantOf cX13_constantOf 3 (some .int), Cond.methodLink RX13 774 yX13_isName, Cond.static yX13_isName, Cond.code yX13_isName cX13_isName 5 (some .boolean), Cond.methodLink RX13 770 yX13_isNamePart, Cond.static yX13_isNamePart, Cond.code yX13_isNamePart cX13_isNamePart 2 (some .boolean), Cond.methodLink RX13 345 yX13_isLetter, Cond.static yX13_isLetter, Cond.code yX13_isLetter cX13_isLetter 1 (some .boolean), Cond.methodLink RX13 349 yX13_isDigit, Cond.static yX13_isDigit, Cond.code yX13_isDigit cX13_isDigit 1 (some .boolean), Cond.methodLink RX13 782 yX13_isFieldKind]
def wsX13_scan_r3 : List Cond := [Cond.static yX13_isFieldKind, Cond.code yX13_isFieldKind cX13_isFieldKind 3 (some .boolean), Cond.methodLink RX13 778 yX13_kindBytes, Cond.static yX13_kindBytes, Cond.code yX13_kindBytes cX13_kindBytes 5 (some .int), Cond.methodLink RX13 794 yX13_isMethodKind, Cond.static yX13_isMethodKind, Cond.code yX13_isMethodKind cX13_isMethodKind 4 (some .boolean), Cond.methodLink RX13 785 yX13_parametersIn, Cond.static yX13_parametersIn, Cond.code yX13_parametersIn cX13_parametersIn 7 (some .int), Cond.methodLink RX13 797 yX13_isClassText, Cond.static yX13_isClassText, Cond.code yX13_isClassText cX13_isClassText 3 (some .boolean), Cond.methodLink RX13 812 yX13_isClassConstant, Cond.instanceMethod yX13_isClassConstant, Cond.selects RX13 yX13_isClassConstant yX13_isClassConstant, Cond.code yX13_isClassConstant cX13_isClassConstant 5 (some .boolean), Cond.methodLink RX13 815 yX13_scanFields, Cond.instanceMethod yX13_scanFields, Cond.selects RX13 yX13_scanFields yX13_scanFields, Cond.code yX13_scanFields cX13_scanFields 5 (some .int), Cond.fieldLink RX13 227 "ClassMillModel" "fieldMany" "[I", Cond.fieldLink RX13 230 "ClassMillModel" "fieldAt" "[I"]
def wsX13_scan_r4 : List Cond := [Cond.methodLink RX13 818 yX13_scanMethod, Cond.instanceMethod yX13_scanMethod, Cond.selects RX13 yX13_scanMethod yX13_scanMethod, Cond.code yX13_scanMethod cX13_scanMethod 11 (some .int), Cond.fieldLink RX13 239 "ClassMillModel" "handlersAt" "[I", Cond.fieldLink RX13 242 "ClassMillModel" "framesAt" "[I", Cond.methodLink RX13 824 yX13_pairAt, Cond.instanceMethod yX13_pairAt, Cond.selects RX13 yX13_pairAt yX13_pairAt, Cond.code yX13_pairAt cX13_pairAt 2 (some .int), Cond.methodLink RX13 827 yX13_scanTypes, Cond.instanceMethod yX13_scanTypes, Cond.selects RX13 yX13_scanTypes yX13_scanTypes, Cond.code yX13_scanTypes cX13_scanTypes 5 (some .int)]
def wsX13_scan : List Cond := .code yX13_scan cX13_scan 5 none :: ((wsX13_scan_r1 ++ (wsX13_scan_r2 ++ (wsX13_scan_r3 ++ wsX13_scan_r4))) ++ wsX130)
def wsX13_superOf_r1 : List Cond := [Cond.fieldLink RX13 224 "ClassMillModel" "ownUpper" "[I", Cond.methodLink RX13 867 yX13_textOfClass, Cond.instanceMethod yX13_textOfClass, Cond.selects RX13 yX13_textOfClass yX13_textOfClass, Cond.initialized RX13, Cond.code yX13_textOfClass cX13_textOfClass 3 (some .int), Cond.fieldLink RX13 215 "ClassMillModel" "constantAt" "[I", Cond.methodLink RX13 864 yX13_byteAt, Cond.instanceMethod yX13_byteAt, Cond.selects RX13 yX13_byteAt yX13_byteAt, Cond.code yX13_byteAt cX13_byteAt 3 (some .int), Cond.fieldLink RX13 209 "ClassMillModel" "bytes" "[I", Cond.methodLink RX13 870 yX13_classAtText, Cond.instanceMethod yX13_classAtText, Cond.selects RX13 yX13_classAtText yX13_classAtText, Cond.code yX13_classAtText cX13_classAtText 4 (some .int), Cond.methodLink RX13 849 yX13_classNamed, Cond.instanceMethod yX13_classNamed, Cond.selects RX13 yX13_classNamed yX13_classNamed, Cond.code yX13_classNamed cX13_classNamed 5 (some .int), Cond.fieldLink RX13 833 "ClassMillModel" "there" "I", Cond.methodLink RX13 836 yX13_isNamed, Cond.instanceMethod yX13_isNamed, Cond.selects RX13 yX13_isNamed yX13_isNamed]
def wsX13_superOf_r2 : List Cond := [Cond.code yX13_isNamed cX13_isNamed 9 (some .boolean), Cond.methodLink RX13 328 yJ0_length_8abf5, Cond.instanceMethod yJ0_length_8abf5, Cond.selects RJ0 yJ0_length_8abf5 yJ0_length_8abf5, Cond.initialized RJ0, Cond.code yJ0_length_8abf5 cJ0_length_8abf5 1 (some .int), Cond.fieldLink RJ0 9 "java/lang/String" "value" "[B", Cond.methodLink RJ0 335 yJ0_coder_7d493, Cond.instanceMethod yJ0_coder_7d493, Cond.selects RJ0 yJ0_coder_7d493 yJ0_coder_7d493, Cond.code yJ0_coder_7d493 cJ0_coder_7d493 1 (some .byte), Cond.fieldLink RJ0 38 "java/lang/String" "COMPACT_STRINGS" "Z", Cond.fieldLink RJ0 15 "java/lang/String" "coder" "B", Cond.methodLink RX13 334 yJ0_charAt_5068e, Cond.instanceMethod yJ0_charAt_5068e, Cond.selects RJ0 yJ0_charAt_5068e yJ0_charAt_5068e, Cond.code yJ0_charAt_5068e cJ0_charAt_5068e 2 (some .char), Cond.methodLink RJ0 492 yJ0_isLatin1_aae02, Cond.instanceMethod yJ0_isLatin1_aae02, Cond.selects RJ0 yJ0_isLatin1_aae02 yJ0_isLatin1_aae02, Cond.code yJ0_isLatin1_aae02 cJ0_isLatin1_aae02 1 (some .boolean), Cond.methodLink RJ0 495 yJ1_charAt_3b067, Cond.static yJ1_charAt_3b067, Cond.initialized RJ1]
def wsX13_superOf_r3 : List Cond := [Cond.code yJ1_charAt_3b067 cJ1_charAt_3b067 2 (some .char), Cond.methodLink RJ1 9 yJ0_checkIndex_df160, Cond.static yJ0_checkIndex_df160, Cond.code yJ0_checkIndex_df160 cJ0_checkIndex_df160 2 none, Cond.fieldLink RJ0 1053 "jdk/internal/util/Preconditions" "SIOOBE_FORMATTER" "Ljava/util/function/BiFunction;", Cond.methodLink RJ0 1059 yJ3_checkIndex_8e157, Cond.static yJ3_checkIndex_8e157, Cond.initialized RJ3, Cond.code yJ3_checkIndex_8e157 cJ3_checkIndex_8e157 3 (some .int), Cond.methodLink RJ0 498 yJ2_charAt_3b067, Cond.static yJ2_charAt_3b067, Cond.initialized RJ2, Cond.code yJ2_charAt_3b067 cJ2_charAt_3b067 2 (some .char), Cond.methodLink RJ2 67 yJ2_checkIndex_2214a, Cond.static yJ2_checkIndex_2214a, Cond.code yJ2_checkIndex_2214a cJ2_checkIndex_2214a 2 none, Cond.methodLink RJ2 48 yJ2_length_9d52b, Cond.static yJ2_length_9d52b, Cond.code yJ2_length_9d52b cJ2_length_9d52b 1 (some .int), Cond.methodLink RJ2 414 yJ0_checkIndex_df160, Cond.methodLink RJ2 71 yJ2_getChar_3b067, Cond.static yJ2_getChar_3b067, Cond.code yJ2_getChar_3b067 cJ2_getChar_3b067 2 (some .char), Cond.fieldLink RJ2 44 "java/lang/StringUTF16" "$assertionsDisabled" "Z"]
def wsX13_superOf_r4 : List Cond := [Cond.fieldLink RJ2 59 "java/lang/StringUTF16" "HI_BYTE_SHIFT" "I", Cond.fieldLink RJ2 63 "java/lang/StringUTF16" "LO_BYTE_SHIFT" "I", Cond.methodLink RX13 830 yX13_nameAt, Cond.instanceMethod yX13_nameAt, Cond.selects RX13 yX13_nameAt yX13_nameAt, Cond.code yX13_nameAt cX13_nameAt 4 (some .int), Cond.fieldLink RX13 221 "ClassMillModel" "ownClass" "[I"]
def wsX13_superOf : List Cond := .code yX13_superOf cX13_superOf 2 (some .int) :: ((wsX13_superOf_r1 ++ (wsX13_superOf_r2 ++ (wsX13_superOf_r3 ++ wsX13_superOf_r4))) ++ wsX130)
def wsX13_type__r1 : List Cond := [Cond.fieldLink RX13 833 "ClassMillModel" "there" "I", Cond.fieldLink RX13 227 "ClassMillModel" "fieldMany" "[I", Cond.fieldLink RX13 233 "ClassMillModel" "methodMany" "[I", Cond.fieldLink RX13 212 "ClassMillModel" "byteMany" "[I", Cond.fieldLink RX13 218 "ClassMillModel" "constantMany" "[I", Cond.methodLink RX13 873 yX13_superOf, Cond.instanceMethod yX13_superOf, Cond.selects RX13 yX13_superOf yX13_superOf, Cond.initialized RX13, Cond.code yX13_superOf cX13_superOf 2 (some .int), Cond.fieldLink RX13 224 "ClassMillModel" "ownUpper" "[I", Cond.methodLink RX13 867 yX13_textOfClass, Cond.instanceMethod yX13_textOfClass, Cond.selects RX13 yX13_textOfClass yX13_textOfClass, Cond.code yX13_textOfClass cX13_textOfClass 3 (some .int), Cond.fieldLink RX13 215 "ClassMillModel" "constantAt" "[I", Cond.methodLink RX13 864 yX13_byteAt, Cond.instanceMethod yX13_byteAt, Cond.selects RX13 yX13_byteAt yX13_byteAt, Cond.code yX13_byteAt cX13_byteAt 3 (some .int), Cond.fieldLink RX13 209 "ClassMillModel" "bytes" "[I", Cond.methodLink RX13 870 yX13_classAtText, Cond.instanceMethod yX13_classAtText, Cond.selects RX13 yX13_classAtText yX13_classAtText]
def wsX13_type__r2 : List Cond := [Cond.code yX13_classAtText cX13_classAtText 4 (some .int), Cond.methodLink RX13 849 yX13_classNamed, Cond.instanceMethod yX13_classNamed, Cond.selects RX13 yX13_classNamed yX13_classNamed, Cond.code yX13_classNamed cX13_classNamed 5 (some .int), Cond.methodLink RX13 836 yX13_isNamed, Cond.instanceMethod yX13_isNamed, Cond.selects RX13 yX13_isNamed yX13_isNamed, Cond.code yX13_isNamed cX13_isNamed 9 (some .boolean), Cond.methodLink RX13 328 yJ0_length_8abf5, Cond.instanceMethod yJ0_length_8abf5, Cond.selects RJ0 yJ0_length_8abf5 yJ0_length_8abf5, Cond.initialized RJ0, Cond.code yJ0_length_8abf5 cJ0_length_8abf5 1 (some .int), Cond.fieldLink RJ0 9 "java/lang/String" "value" "[B", Cond.methodLink RJ0 335 yJ0_coder_7d493, Cond.instanceMethod yJ0_coder_7d493, Cond.selects RJ0 yJ0_coder_7d493 yJ0_coder_7d493, Cond.code yJ0_coder_7d493 cJ0_coder_7d493 1 (some .byte), Cond.fieldLink RJ0 38 "java/lang/String" "COMPACT_STRINGS" "Z", Cond.fieldLink RJ0 15 "java/lang/String" "coder" "B", Cond.methodLink RX13 334 yJ0_charAt_5068e, Cond.instanceMethod yJ0_charAt_5068e, Cond.selects RJ0 yJ0_charAt_5068e yJ0_charAt_5068e]
def wsX13_type__r3 : List Cond := [Cond.code yJ0_charAt_5068e cJ0_charAt_5068e 2 (some .char), Cond.methodLink RJ0 492 yJ0_isLatin1_aae02, Cond.instanceMethod yJ0_isLatin1_aae02, Cond.selects RJ0 yJ0_isLatin1_aae02 yJ0_isLatin1_aae02, Cond.code yJ0_isLatin1_aae02 cJ0_isLatin1_aae02 1 (some .boolean), Cond.methodLink RJ0 495 yJ1_charAt_3b067, Cond.static yJ1_charAt_3b067, Cond.initialized RJ1, Cond.code yJ1_charAt_3b067 cJ1_charAt_3b067 2 (some .char), Cond.methodLink RJ1 9 yJ0_checkIndex_df160, Cond.static yJ0_checkIndex_df160, Cond.code yJ0_checkIndex_df160 cJ0_checkIndex_df160 2 none, Cond.fieldLink RJ0 1053 "jdk/internal/util/Preconditions" "SIOOBE_FORMATTER" "Ljava/util/function/BiFunction;", Cond.methodLink RJ0 1059 yJ3_checkIndex_8e157, Cond.static yJ3_checkIndex_8e157, Cond.initialized RJ3, Cond.code yJ3_checkIndex_8e157 cJ3_checkIndex_8e157 3 (some .int), Cond.methodLink RJ0 498 yJ2_charAt_3b067, Cond.static yJ2_charAt_3b067, Cond.initialized RJ2, Cond.code yJ2_charAt_3b067 cJ2_charAt_3b067 2 (some .char), Cond.methodLink RJ2 67 yJ2_checkIndex_2214a, Cond.static yJ2_checkIndex_2214a, Cond.code yJ2_checkIndex_2214a cJ2_checkIndex_2214a 2 none]
def wsX13_type__r4 : List Cond := [Cond.methodLink RJ2 48 yJ2_length_9d52b, Cond.static yJ2_length_9d52b, Cond.code yJ2_length_9d52b cJ2_length_9d52b 1 (some .int), Cond.methodLink RJ2 414 yJ0_checkIndex_df160, Cond.methodLink RJ2 71 yJ2_getChar_3b067, Cond.static yJ2_getChar_3b067, Cond.code yJ2_getChar_3b067 cJ2_getChar_3b067 2 (some .char), Cond.fieldLink RJ2 44 "java/lang/StringUTF16" "$assertionsDisabled" "Z", Cond.fieldLink RJ2 59 "java/lang/StringUTF16" "HI_BYTE_SHIFT" "I", Cond.fieldLink RJ2 63 "java/lang/StringUTF16" "LO_BYTE_SHIFT" "I", Cond.methodLink RX13 830 yX13_nameAt, Cond.instanceMethod yX13_nameAt, Cond.selects RX13 yX13_nameAt yX13_nameAt, Cond.code yX13_nameAt cX13_nameAt 4 (some .int), Cond.fieldLink RX13 221 "ClassMillModel" "ownClass" "[I"]
def wsX13_type_ : List Cond := .code yX13_type_ cX13_type_ 4 (some .int) :: ((wsX13_type__r1 ++ (wsX13_type__r2 ++ (wsX13_type__r3 ++ wsX13_type__r4))) ++ wsX130)
theorem dX13_lay_0 : decode cX13_lay 0 = .ok (.bipush 24, 2) := by decide +kernel
theorem dX13_lay_2 : decode cX13_lay 2 = .ok (.istore_n 2, 1) := by decide +kernel
theorem dX13_lay_3 : decode cX13_lay 3 = .ok (.iload_n 2, 1) := by decide +kernel
theorem dX13_lay_4 : decode cX13_lay 4 = .ok (.ifCond .lt 35, 3) := by decide +kernel
theorem dX13_lay_7 : decode cX13_lay 7 = .ok (.aload_n 0, 1) := by decide +kernel
theorem dX13_lay_8 : decode cX13_lay 8 = .ok (.getfield 9, 3) := by decide +kernel
theorem dX13_lay_11 : decode cX13_lay 11 = .ok (.aload_n 0, 1) := by decide +kernel
theorem dX13_lay_12 : decode cX13_lay 12 = .ok (.getfield 312, 3) := by decide +kernel
theorem dX13_lay_15 : decode cX13_lay 15 = .ok (.iload_n 1, 1) := by decide +kernel
theorem dX13_lay_16 : decode cX13_lay 16 = .ok (.iload_n 2, 1) := by decide +kernel
theorem dX13_lay_17 : decode cX13_lay 17 = .ok (.ishr, 1) := by decide +kernel
theorem dX13_lay_18 : decode cX13_lay 18 = .ok (.sipush 255, 3) := by decide +kernel
theorem dX13_lay_21 : decode cX13_lay 21 = .ok (.iand, 1) := by decide +kernel
theorem dX13_lay_22 : decode cX13_lay 22 = .ok (.iastore, 1) := by decide +kernel
theorem dX13_lay_23 : decode cX13_lay 23 = .ok (.aload_n 0, 1) := by decide +kernel
theorem dX13_lay_24 : decode cX13_lay 24 = .ok (.dup, 1) := by decide +kernel
theorem dX13_lay_25 : decode cX13_lay 25 = .ok (.getfield 312, 3) := by decide +kernel
theorem dX13_lay_28 : decode cX13_lay 28 = .ok (.iconst 1, 1) := by decide +kernel
theorem dX13_lay_29 : decode cX13_lay 29 = .ok (.iadd, 1) := by decide +kernel
theorem dX13_lay_30 : decode cX13_lay 30 = .ok (.putfield 312, 3) := by decide +kernel
theorem dX13_lay_33 : decode cX13_lay 33 = .ok (.iinc 2 (-8), 3) := by decide +kernel
theorem dX13_lay_36 : decode cX13_lay 36 = .ok (.goto (-33), 3) := by decide +kernel
theorem dX13_lay_39 : decode cX13_lay 39 = .ok (.return_, 1) := by decide +kernel
set_option maxRecDepth 20000 in
theorem ggX13_feed_X13_lay : GoodIn wsX13_feed wsX13_lay := goodIn_r _ [6, 7, 1, 8, 9, 10, 11, 12, 13, 14, 15, 16, 17, 18, 19, 20, 21, 22, 23, 24, 25, 26, 27, 28, 29, 30, 31, 32, 33, 34, 35, 36, 37, 38, 39, 40, 41, 42, 43, 44, 45, 46, 47, 48, 49, 50, 51, 52, 53, 54, 55, 56, 57, 58, 59, 60, 61, 62, 63, 64, 65, 66, 67, 68, 69, 70, 71, 72, 73, 74, 75, 76, 77, 78, 79, 80, 81, 82, 83, 84, 85, 86, 87, 88, 89, 90, 91, 92, 93, 94, 95, 96, 97, 98, 99, 100, 101, 102, 103, 104, 105, 106, 107, 108, 109, 110, 111, 112, 113, 114, 115, 116, 117, 118, 119, 120, 121, 122, 123, 124, 125, 126, 127, 128, 129, 130, 131, 132, 133, 134, 135, 136, 137, 138, 139, 140, 141, 142, 143, 144, 145, 146, 147, 148, 149, 150, 151, 152, 153, 154, 155, 156, 157, 158, 159, 160, 161, 162] (by decide +kernel) (by decide +kernel)
set_option maxRecDepth 20000 in
theorem gX13_feed_X13_lay : GoodIn wsX13_feed (wsV RX13 315 RX13 yX13_lay wsX13_lay) := goodIn_app (goodIn_of _ (by decide +kernel)) ggX13_feed_X13_lay
theorem dX13_feed_0 : decode cX13_feed 0 = .ok (.aload_n 0, 1) := by decide +kernel
theorem dX13_feed_1 : decode cX13_feed 1 = .ok (.getfield 312, 3) := by decide +kernel
theorem dX13_feed_4 : decode cX13_feed 4 = .ok (.bipush 20, 2) := by decide +kernel
theorem dX13_feed_6 : decode cX13_feed 6 = .ok (.iadd, 1) := by decide +kernel
theorem dX13_feed_7 : decode cX13_feed 7 = .ok (.sipush 6000, 3) := by decide +kernel
theorem dX13_feed_10 : decode cX13_feed 10 = .ok (.if_icmp .le 5, 3) := by decide +kernel
theorem dX13_feed_15 : decode cX13_feed 15 = .ok (.aload_n 0, 1) := by decide +kernel
theorem dX13_feed_16 : decode cX13_feed 16 = .ok (.iload_n 1, 1) := by decide +kernel
theorem dX13_feed_17 : decode cX13_feed 17 = .ok (.invokevirtual 315, 3) := by decide +kernel
theorem dX13_feed_20 : decode cX13_feed 20 = .ok (.aload_n 0, 1) := by decide +kernel
theorem dX13_feed_21 : decode cX13_feed 21 = .ok (.iload_n 2, 1) := by decide +kernel
theorem dX13_feed_22 : decode cX13_feed 22 = .ok (.invokevirtual 315, 3) := by decide +kernel
theorem dX13_feed_25 : decode cX13_feed 25 = .ok (.aload_n 0, 1) := by decide +kernel
theorem dX13_feed_26 : decode cX13_feed 26 = .ok (.iload_n 3, 1) := by decide +kernel
theorem dX13_feed_27 : decode cX13_feed 27 = .ok (.invokevirtual 315, 3) := by decide +kernel
theorem dX13_feed_30 : decode cX13_feed 30 = .ok (.aload_n 0, 1) := by decide +kernel
theorem dX13_feed_31 : decode cX13_feed 31 = .ok (.iload 4, 2) := by decide +kernel
theorem dX13_feed_33 : decode cX13_feed 33 = .ok (.invokevirtual 315, 3) := by decide +kernel
theorem dX13_feed_36 : decode cX13_feed 36 = .ok (.aload_n 0, 1) := by decide +kernel
theorem dX13_feed_37 : decode cX13_feed 37 = .ok (.iload 5, 2) := by decide +kernel
theorem dX13_feed_39 : decode cX13_feed 39 = .ok (.invokevirtual 315, 3) := by decide +kernel
theorem dX13_feed_42 : decode cX13_feed 42 = .ok (.aload_n 0, 1) := by decide +kernel
theorem dX13_feed_43 : decode cX13_feed 43 = .ok (.getfield 312, 3) := by decide +kernel
theorem dX13_feed_46 : decode cX13_feed 46 = .ok (.ireturn, 1) := by decide +kernel
theorem dX13_isByte_0 : decode cX13_isByte 0 = .ok (.aload_n 0, 1) := by decide +kernel
theorem dX13_isByte_1 : decode cX13_isByte 1 = .ok (.getfield 764, 3) := by decide +kernel
theorem dX13_isByte_4 : decode cX13_isByte 4 = .ok (.iconst (-1), 1) := by decide +kernel
theorem dX13_isByte_5 : decode cX13_isByte 5 = .ok (.if_icmp .eq 5, 3) := by decide +kernel
theorem dX13_isByte_8 : decode cX13_isByte 8 = .ok (.iconst 0, 1) := by decide +kernel
theorem dX13_isByte_9 : decode cX13_isByte 9 = .ok (.ireturn, 1) := by decide +kernel
theorem dX13_isByte_10 : decode cX13_isByte 10 = .ok (.iload_n 1, 1) := by decide +kernel
theorem dX13_isByte_11 : decode cX13_isByte 11 = .ok (.aload_n 0, 1) := by decide +kernel
theorem dX13_isByte_12 : decode cX13_isByte 12 = .ok (.getfield 767, 3) := by decide +kernel
theorem dX13_isByte_15 : decode cX13_isByte 15 = .ok (.if_icmp .lt 11, 3) := by decide +kernel
theorem dX13_isByte_18 : decode cX13_isByte 18 = .ok (.aload_n 0, 1) := by decide +kernel
theorem dX13_isByte_19 : decode cX13_isByte 19 = .ok (.aload_n 0, 1) := by decide +kernel
theorem dX13_isByte_20 : decode cX13_isByte 20 = .ok (.getfield 767, 3) := by decide +kernel
theorem dX13_isByte_23 : decode cX13_isByte 23 = .ok (.putfield 764, 3) := by decide +kernel
theorem dX13_isByte_26 : decode cX13_isByte 26 = .ok (.aload_n 0, 1) := by decide +kernel
theorem dX13_isByte_27 : decode cX13_isByte 27 = .ok (.getfield 764, 3) := by decide +kernel
theorem dX13_isByte_30 : decode cX13_isByte 30 = .ok (.iconst (-1), 1) := by decide +kernel
theorem dX13_isByte_31 : decode cX13_isByte 31 = .ok (.if_icmp .ne 7, 3) := by decide +kernel
theorem dX13_isByte_38 : decode cX13_isByte 38 = .ok (.iconst 0, 1) := by decide +kernel
theorem dX13_isByte_39 : decode cX13_isByte 39 = .ok (.ireturn, 1) := by decide +kernel
set_option maxRecDepth 20000 in
theorem ggX13_scan_X13_isByte : GoodIn wsX13_scan wsX13_isByte := goodIn_r _ [15, 2, 10, 87, 88, 89, 90, 91, 92, 93, 94, 95, 96, 97, 98, 99, 100, 101, 102, 103, 104, 105, 106, 107, 108, 109, 110, 111, 112, 113, 114, 115, 116, 117, 118, 119, 120, 121, 122, 123, 124, 125, 126, 127, 128, 129, 130, 131, 132, 133, 134, 135, 136, 137, 138, 139, 140, 141, 142, 143, 144, 145, 146, 147, 148, 149, 150, 151, 152, 153, 154, 155, 156, 157, 158, 159, 160, 161, 162, 163, 164, 165, 166, 167, 168, 169, 170, 171, 172, 173, 174, 175, 176, 177, 178, 179, 180, 181, 182, 183, 184, 185, 186, 187, 188, 189, 190, 191, 192, 193, 194, 195, 196, 197, 198, 199, 200, 201, 202, 203, 204, 205, 206, 207, 208, 209, 210, 211, 212, 213, 214, 215, 216, 217, 218, 219, 220, 221, 222, 223, 224, 225, 226, 227, 228, 229, 230, 231, 232, 233, 234, 235, 236, 237, 238, 239, 240, 241] (by decide +kernel) (by decide +kernel)
set_option maxRecDepth 20000 in
theorem gX13_scan_X13_isByte : GoodIn wsX13_scan (wsV RX13 800 RX13 yX13_isByte wsX13_isByte) := goodIn_app (goodIn_of _ (by decide +kernel)) ggX13_scan_X13_isByte
theorem dX13_scan_0 : decode cX13_scan 0 = .ok (.aload_n 0, 1) := by decide +kernel
theorem dX13_scan_1 : decode cX13_scan 1 = .ok (.iload_n 1, 1) := by decide +kernel
theorem dX13_scan_2 : decode cX13_scan 2 = .ok (.putfield 788, 3) := by decide +kernel
theorem dX13_scan_5 : decode cX13_scan 5 = .ok (.aload_n 0, 1) := by decide +kernel
theorem dX13_scan_6 : decode cX13_scan 6 = .ok (.iconst (-1), 1) := by decide +kernel
theorem dX13_scan_7 : decode cX13_scan 7 = .ok (.putfield 764, 3) := by decide +kernel
theorem dX13_scan_10 : decode cX13_scan 10 = .ok (.aload_n 0, 1) := by decide +kernel
theorem dX13_scan_11 : decode cX13_scan 11 = .ok (.getfield 218, 3) := by decide +kernel
theorem dX13_scan_14 : decode cX13_scan 14 = .ok (.iload_n 1, 1) := by decide +kernel
theorem dX13_scan_15 : decode cX13_scan 15 = .ok (.iconst 0, 1) := by decide +kernel
theorem dX13_scan_16 : decode cX13_scan 16 = .ok (.iastore, 1) := by decide +kernel
theorem dX13_scan_17 : decode cX13_scan 17 = .ok (.aload_n 0, 1) := by decide +kernel
theorem dX13_scan_18 : decode cX13_scan 18 = .ok (.iconst 0, 1) := by decide +kernel
theorem dX13_scan_19 : decode cX13_scan 19 = .ok (.invokevirtual 800, 3) := by decide +kernel
theorem dX13_scan_22 : decode cX13_scan 22 = .ok (.ifCond .eq 19, 3) := by decide +kernel
theorem dX13_scan_41 : decode cX13_scan 41 = .ok (.aload_n 0, 1) := by decide +kernel
theorem dX13_scan_42 : decode cX13_scan 42 = .ok (.iconst 1, 1) := by decide +kernel
theorem dX13_scan_43 : decode cX13_scan 43 = .ok (.invokevirtual 800, 3) := by decide +kernel
theorem dX13_scan_46 : decode cX13_scan 46 = .ok (.ifCond .eq 19, 3) := by decide +kernel
theorem dX13_scan_65 : decode cX13_scan 65 = .ok (.aload_n 0, 1) := by decide +kernel
theorem dX13_scan_66 : decode cX13_scan 66 = .ok (.iconst 2, 1) := by decide +kernel
theorem dX13_scan_67 : decode cX13_scan 67 = .ok (.invokevirtual 800, 3) := by decide +kernel
theorem dX13_scan_70 : decode cX13_scan 70 = .ok (.ifCond .ne 4, 3) := by decide +kernel
theorem dX13_scan_73 : decode cX13_scan 73 = .ok (.return_, 1) := by decide +kernel
theorem dX13_superOf_0 : decode cX13_superOf 0 = .ok (.iload_n 1, 1) := by decide +kernel
theorem dX13_superOf_1 : decode cX13_superOf 1 = .ok (.bipush 8, 2) := by decide +kernel
theorem dX13_superOf_3 : decode cX13_superOf 3 = .ok (.if_icmp .ge 22, 3) := by decide +kernel
theorem dX13_superOf_6 : decode cX13_superOf 6 = .ok (.iload_n 1, 1) := by decide +kernel
theorem dX13_superOf_7 : decode cX13_superOf 7 = .ok (.ifCond .ne 7, 3) := by decide +kernel
theorem dX13_superOf_10 : decode cX13_superOf 10 = .ok (.iconst (-1), 1) := by decide +kernel
theorem dX13_superOf_11 : decode cX13_superOf 11 = .ok (.goto 13, 3) := by decide +kernel
theorem dX13_superOf_14 : decode cX13_superOf 14 = .ok (.iload_n 1, 1) := by decide +kernel
theorem dX13_superOf_15 : decode cX13_superOf 15 = .ok (.iconst 1, 1) := by decide +kernel
theorem dX13_superOf_16 : decode cX13_superOf 16 = .ok (.if_icmp .ne 7, 3) := by decide +kernel
theorem dX13_superOf_19 : decode cX13_superOf 19 = .ok (.iconst 0, 1) := by decide +kernel
theorem dX13_superOf_20 : decode cX13_superOf 20 = .ok (.goto 4, 3) := by decide +kernel
theorem dX13_superOf_23 : decode cX13_superOf 23 = .ok (.iconst 1, 1) := by decide +kernel
theorem dX13_superOf_24 : decode cX13_superOf 24 = .ok (.ireturn, 1) := by decide +kernel
set_option maxRecDepth 20000 in
theorem ggX13_type__X13_superOf : GoodIn wsX13_type_ wsX13_superOf := goodIn_r _ [10, 11, 12, 13, 14, 9, 15, 16, 17, 18, 19, 20, 21, 22, 23, 24, 25, 26, 27, 28, 29, 1, 30, 31, 32, 33, 34, 35, 36, 37, 38, 39, 40, 41, 42, 43, 44, 45, 46, 47, 48, 49, 50, 51, 52, 53, 54, 55, 56, 57, 58, 59, 60, 61, 62, 63, 64, 65, 66, 67, 68, 69, 70, 71, 72, 73, 74, 75, 76, 77, 78, 79, 80, 81, 82, 83, 84, 85, 86, 87, 88, 89, 90, 91, 92, 93, 94, 95, 96, 97, 98, 99, 100, 101, 102, 103, 104, 105, 106, 107, 108, 109, 110, 111, 112, 113, 114, 115, 116, 117, 118, 119, 120, 121, 122, 123, 124, 125, 126, 127, 128, 129, 130, 131, 132, 133, 134, 135, 136, 137, 138, 139, 140, 141, 142, 143, 144, 145, 146, 147, 148, 149, 150, 151, 152, 153, 154, 155, 156, 157, 158, 159, 160, 161, 162, 163, 164, 165, 166, 167, 168, 169, 170, 171, 172, 173, 174, 175, 176, 177, 178, 179, 180, 181, 182, 183, 184, 185, 186, 187, 188, 189, 190, 191, 192, 193, 194, 195, 196, 197, 198, 199, 200, 201, 202, 203, 204, 205, 206, 207, 208, 209, 210, 211, 212, 213, 214, 215, 216, 217, 218, 219, 220, 221, 222, 223, 224, 225, 226, 227, 228, 229, 230, 231, 232, 233, 234, 235, 236, 237, 238, 239, 240, 241, 242] (by decide +kernel) (by decide +kernel)
set_option maxRecDepth 20000 in
theorem gX13_type__X13_superOf : GoodIn wsX13_type_ (wsV RX13 873 RX13 yX13_superOf wsX13_superOf) := goodIn_app (goodIn_of _ (by decide +kernel)) ggX13_type__X13_superOf
theorem dX13_type__0 : decode cX13_type_ 0 = .ok (.iload_n 1, 1) := by decide +kernel
theorem dX13_type__1 : decode cX13_type_ 1 = .ok (.ifCond .lt 23, 3) := by decide +kernel
theorem dX13_type__4 : decode cX13_type_ 4 = .ok (.iload_n 1, 1) := by decide +kernel
theorem dX13_type__5 : decode cX13_type_ 5 = .ok (.bipush 8, 2) := by decide +kernel
theorem dX13_type__7 : decode cX13_type_ 7 = .ok (.aload_n 0, 1) := by decide +kernel
theorem dX13_type__8 : decode cX13_type_ 8 = .ok (.getfield 833, 3) := by decide +kernel
theorem dX13_type__11 : decode cX13_type_ 11 = .ok (.iadd, 1) := by decide +kernel
theorem dX13_type__12 : decode cX13_type_ 12 = .ok (.if_icmp .ge 12, 3) := by decide +kernel
theorem dX13_type__15 : decode cX13_type_ 15 = .ok (.iload_n 2, 1) := by decide +kernel
theorem dX13_type__16 : decode cX13_type_ 16 = .ok (.ifCond .lt 8, 3) := by decide +kernel
theorem dX13_type__19 : decode cX13_type_ 19 = .ok (.iload_n 2, 1) := by decide +kernel
theorem dX13_type__20 : decode cX13_type_ 20 = .ok (.iconst 4, 1) := by decide +kernel
theorem dX13_type__21 : decode cX13_type_ 21 = .ok (.if_icmp .le 5, 3) := by decide +kernel
theorem dX13_type__24 : decode cX13_type_ 24 = .ok (.iconst (-1), 1) := by decide +kernel
theorem dX13_type__25 : decode cX13_type_ 25 = .ok (.ireturn, 1) := by decide +kernel
theorem dX13_type__26 : decode cX13_type_ 26 = .ok (.iload_n 2, 1) := by decide +kernel
theorem dX13_type__27 : decode cX13_type_ 27 = .ok (.ifCond .ne 9, 3) := by decide +kernel
theorem dX13_type__30 : decode cX13_type_ 30 = .ok (.aload_n 0, 1) := by decide +kernel
theorem dX13_type__31 : decode cX13_type_ 31 = .ok (.iload_n 1, 1) := by decide +kernel
theorem dX13_type__32 : decode cX13_type_ 32 = .ok (.invokevirtual 873, 3) := by decide +kernel
theorem dX13_type__35 : decode cX13_type_ 35 = .ok (.ireturn, 1) := by decide +kernel
theorem dX13_type__36 : decode cX13_type_ 36 = .ok (.iload_n 1, 1) := by decide +kernel
theorem dX13_type__37 : decode cX13_type_ 37 = .ok (.bipush 8, 2) := by decide +kernel
theorem dX13_type__39 : decode cX13_type_ 39 = .ok (.isub, 1) := by decide +kernel
theorem dX13_type__40 : decode cX13_type_ 40 = .ok (.istore_n 3, 1) := by decide +kernel
theorem dX13_type__41 : decode cX13_type_ 41 = .ok (.iload_n 3, 1) := by decide +kernel
theorem dX13_type__42 : decode cX13_type_ 42 = .ok (.ifCond .ge 5, 3) := by decide +kernel
theorem dX13_type__45 : decode cX13_type_ 45 = .ok (.iconst 0, 1) := by decide +kernel
theorem dX13_type__46 : decode cX13_type_ 46 = .ok (.ireturn, 1) := by decide +kernel
set_option maxRecDepth 20000 in
theorem uX13_feed_X13 : ∀ w ∈ u_ws RX13 TX13 155, w ∈ wsX13_feed := by decide +kernel
theorem uX13_isByte_X13 : ∀ w ∈ u_ws RX13 TX13 155, w ∈ wsX13_isByte := fun w h => List.mem_cons_of_mem _ (List.mem_append_right _ h)
set_option maxRecDepth 20000 in
theorem uX13_lay_X13 : ∀ w ∈ u_ws RX13 TX13 155, w ∈ wsX13_lay := by decide +kernel
theorem uX13_scan_X13 : ∀ w ∈ u_ws RX13 TX13 155, w ∈ wsX13_scan := fun w h => List.mem_cons_of_mem _ (List.mem_append_right _ h)
theorem uX13_type__X13 : ∀ w ∈ u_ws RX13 TX13 155, w ∈ wsX13_type_ := fun w h => List.mem_cons_of_mem _ (List.mem_append_right _ h)
