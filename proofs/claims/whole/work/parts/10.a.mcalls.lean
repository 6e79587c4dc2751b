abbrev cX13_end : ByteArray := prog_15_method_5_code
def yX13_end : MethodName := ⟨RX13, "end", "(I)Z"⟩
abbrev cX13_isLetter : ByteArray := prog_15_method_7_code
def yX13_isLetter : MethodName := ⟨RX13, "isLetter", "(I)Z"⟩
abbrev cX13_isDigit : ByteArray := prog_15_method_8_code
def yX13_isDigit : MethodName := ⟨RX13, "isDigit", "(I)Z"⟩
abbrev cX13_fault : ByteArray := prog_15_method_111_code
def yX13_fault : MethodName := ⟨RX13, "fault", "(I)I"⟩
abbrev cX13_image : ByteArray := prog_15_method_112_code
def yX13_image : MethodName := ⟨RX13, "image", "(II)I"⟩
abbrev cX13_isByte : ByteArray := prog_15_method_113_code
def yX13_isByte : MethodName := ⟨RX13, "isByte", "(I)Z"⟩
abbrev cX13_unfit : ByteArray := prog_15_method_114_code
def yX13_unfit : MethodName := ⟨RX13, "unfit", "(I)V"⟩
abbrev cX13_constantOf : ByteArray := prog_15_method_115_code
def yX13_constantOf : MethodName := ⟨RX13, "constantOf", "(II)I"⟩
abbrev cX13_isNamePart : ByteArray := prog_15_method_116_code
def yX13_isNamePart : MethodName := ⟨RX13, "isNamePart", "(IZ)Z"⟩
abbrev cX13_isName : ByteArray := prog_15_method_117_code
def yX13_isName : MethodName := ⟨RX13, "isName", "([III)Z"⟩
abbrev cX13_kindBytes : ByteArray := prog_15_method_118_code
def yX13_kindBytes : MethodName := ⟨RX13, "kindBytes", "([III)I"⟩
abbrev cX13_isFieldKind : ByteArray := prog_15_method_119_code
def yX13_isFieldKind : MethodName := ⟨RX13, "isFieldKind", "([III)Z"⟩
abbrev cX13_parametersIn : ByteArray := prog_15_method_120_code
def yX13_parametersIn : MethodName := ⟨RX13, "parametersIn", "([III)I"⟩
abbrev cX13_isMethodKind : ByteArray := prog_15_method_121_code
def yX13_isMethodKind : MethodName := ⟨RX13, "isMethodKind", "([III)Z"⟩
abbrev cX13_isClassText : ByteArray := prog_15_method_122_code
def yX13_isClassText : MethodName := ⟨RX13, "isClassText", "([III)Z"⟩
abbrev cX13_isText : ByteArray := prog_15_method_123_code
def yX13_isText : MethodName := ⟨RX13, "isText", "(II)Z"⟩
abbrev cX13_isClassConstant : ByteArray := prog_15_method_124_code
def yX13_isClassConstant : MethodName := ⟨RX13, "isClassConstant", "(IZ)Z"⟩
abbrev cX13_pairAt : ByteArray := prog_15_method_125_code
def yX13_pairAt : MethodName := ⟨RX13, "pairAt", "(I)I"⟩
abbrev cX13_scan : ByteArray := prog_15_method_126_code
def yX13_scan : MethodName := ⟨RX13, "scan", "(I)V"⟩
abbrev cX13_scanConstant : ByteArray := prog_15_method_127_code
def yX13_scanConstant : MethodName := ⟨RX13, "scanConstant", "(I)I"⟩
abbrev cX13_checkConstant : ByteArray := prog_15_method_128_code
def yX13_checkConstant : MethodName := ⟨RX13, "checkConstant", "(I)V"⟩
abbrev cX13_scanFields : ByteArray := prog_15_method_129_code
def yX13_scanFields : MethodName := ⟨RX13, "scanFields", "(II)I"⟩
abbrev cX13_scanMethod : ByteArray := prog_15_method_130_code
def yX13_scanMethod : MethodName := ⟨RX13, "scanMethod", "(III)I"⟩
abbrev cX13_scanTypes : ByteArray := prog_15_method_131_code
def yX13_scanTypes : MethodName := ⟨RX13, "scanTypes", "(I)I"⟩
abbrev cX13_sameText : ByteArray := prog_15_method_132_code
def yX13_sameText : MethodName := ⟨RX13, "sameText", "(IIII)Z"⟩
abbrev cX13_isNamed : ByteArray := prog_15_method_133_code
def yX13_isNamed : MethodName := ⟨RX13, "isNamed", "(I[III)Z"⟩
abbrev cX13_nameAt : ByteArray := prog_15_method_134_code
def yX13_nameAt : MethodName := ⟨RX13, "nameAt", "(I)I"⟩
abbrev cX13_classNamed : ByteArray := prog_15_method_135_code
def yX13_classNamed : MethodName := ⟨RX13, "classNamed", "([III)I"⟩
abbrev cX13_install : ByteArray := prog_15_method_136_code
def yX13_install : MethodName := ⟨RX13, "install", "(I)I"⟩
abbrev cX13_loaded : ByteArray := prog_15_method_137_code
def yX13_loaded : MethodName := ⟨RX13, "loaded", "()I"⟩
abbrev cX13_aside : ByteArray := prog_15_method_138_code
def yX13_aside : MethodName := ⟨RX13, "aside", "(I)V"⟩
abbrev cX13_again : ByteArray := prog_15_method_139_code
def yX13_again : MethodName := ⟨RX13, "again", "(I)V"⟩
abbrev cX13_keep : ByteArray := prog_15_method_141_code
def yX13_keep : MethodName := ⟨RX13, "keep", "(I)I"⟩
abbrev cX13_patch : ByteArray := prog_15_method_142_code
def yX13_patch : MethodName := ⟨RX13, "patch", "(III)Z"⟩
abbrev cX13_byteAt : ByteArray := prog_15_method_144_code
def yX13_byteAt : MethodName := ⟨RX13, "byteAt", "(II)I"⟩
abbrev cX13_classAtText : ByteArray := prog_15_method_145_code
def yX13_classAtText : MethodName := ⟨RX13, "classAtText", "(II)I"⟩
abbrev cX13_textOfClass : ByteArray := prog_15_method_146_code
def yX13_textOfClass : MethodName := ⟨RX13, "textOfClass", "(II)I"⟩
abbrev cX13_superOf : ByteArray := prog_15_method_147_code
def yX13_superOf : MethodName := ⟨RX13, "superOf", "(I)I"⟩
abbrev cX13_isUnder : ByteArray := prog_15_method_148_code
def yX13_isUnder : MethodName := ⟨RX13, "isUnder", "(II)Z"⟩
abbrev cX13_nameNumber : ByteArray := prog_15_method_149_code
def yX13_nameNumber : MethodName := ⟨RX13, "nameNumber", "(II)I"⟩
abbrev cX13_typeAt : ByteArray := prog_15_method_150_code
def yX13_typeAt : MethodName := ⟨RX13, "typeAt", "(I)I"⟩
abbrev cX13_typeOfClass : ByteArray := prog_15_method_151_code
def yX13_typeOfClass : MethodName := ⟨RX13, "typeOfClass", "(II)I"⟩
abbrev cX13_kindType : ByteArray := prog_15_method_152_code
def yX13_kindType : MethodName := ⟨RX13, "kindType", "(II)I"⟩
abbrev cX13_isRow : ByteArray := prog_15_method_153_code
def yX13_isRow : MethodName := ⟨RX13, "isRow", "(I)Z"⟩
abbrev cX13_goes : ByteArray := prog_15_method_155_code
def yX13_goes : MethodName := ⟨RX13, "goes", "(II)Z"⟩
abbrev cX13_isThere : ByteArray := prog_15_method_156_code
def yX13_isThere : MethodName := ⟨RX13, "isThere", "(I)Z"⟩
abbrev cX13_holder : ByteArray := prog_15_method_157_code
def yX13_holder : MethodName := ⟨RX13, "holder", "(IIIZ)I"⟩
abbrev cX13_nameText : ByteArray := prog_15_method_158_code
def yX13_nameText : MethodName := ⟨RX13, "nameText", "(IIZ)I"⟩
abbrev cX13_kindText : ByteArray := prog_15_method_159_code
def yX13_kindText : MethodName := ⟨RX13, "kindText", "(IIZ)I"⟩
abbrev cX13_bad : ByteArray := prog_15_method_160_code
def yX13_bad : MethodName := ⟨RX13, "bad", "(IIII)Z"⟩
abbrev cX13_verify : ByteArray := prog_15_method_161_code
def yX13_verify : MethodName := ⟨RX13, "verify", "()I"⟩
abbrev cX13_where : ByteArray := prog_15_method_162_code
def yX13_where : MethodName := ⟨RX13, "where", "(I)I"⟩
abbrev cX13_kindsAreThere : ByteArray := prog_15_method_163_code
def yX13_kindsAreThere : MethodName := ⟨RX13, "kindsAreThere", "(I)Z"⟩
abbrev cX13_classFits : ByteArray := prog_15_method_164_code
def yX13_classFits : MethodName := ⟨RX13, "classFits", "(I)Z"⟩
abbrev cX13_widthOf : ByteArray := prog_15_method_165_code
def yX13_widthOf : MethodName := ⟨RX13, "widthOf", "(I)I"⟩
abbrev cX13_isJump : ByteArray := prog_15_method_166_code
def yX13_isJump : MethodName := ⟨RX13, "isJump", "(I)Z"⟩
abbrev cX13_code : ByteArray := prog_15_method_167_code
def yX13_code : MethodName := ⟨RX13, "code", "(I)I"⟩
abbrev cX13_aimOf : ByteArray := prog_15_method_168_code
def yX13_aimOf : MethodName := ⟨RX13, "aimOf", "(I)I"⟩
abbrev cX13_pairIn : ByteArray := prog_15_method_169_code
def yX13_pairIn : MethodName := ⟨RX13, "pairIn", "(I)I"⟩
abbrev cX13_frameAt : ByteArray := prog_15_method_170_code
def yX13_frameAt : MethodName := ⟨RX13, "frameAt", "(I)I"⟩
abbrev cX13_typesEnd : ByteArray := prog_15_method_171_code
def yX13_typesEnd : MethodName := ⟨RX13, "typesEnd", "(I)I"⟩
abbrev cX13_frameMany : ByteArray := prog_15_method_172_code
def yX13_frameMany : MethodName := ⟨RX13, "frameMany", "()I"⟩
abbrev cX13_frameFor : ByteArray := prog_15_method_173_code
def yX13_frameFor : MethodName := ⟨RX13, "frameFor", "(I)I"⟩
abbrev cX13_framed : ByteArray := prog_15_method_174_code
def yX13_framed : MethodName := ⟨RX13, "framed", "(I)I"⟩
abbrev cX13_localsFit : ByteArray := prog_15_method_175_code
def yX13_localsFit : MethodName := ⟨RX13, "localsFit", "(I)Z"⟩
abbrev cX13_stackFits : ByteArray := prog_15_method_176_code
def yX13_stackFits : MethodName := ⟨RX13, "stackFits", "(I)Z"⟩
abbrev cX13_becomes : ByteArray := prog_15_method_177_code
def yX13_becomes : MethodName := ⟨RX13, "becomes", "(I)V"⟩
abbrev cX13_at_ : ByteArray := prog_15_method_178_code
def yX13_at_ : MethodName := ⟨RX13, "at", "(II)V"⟩
abbrev cX13_methodFits : ByteArray := prog_15_method_179_code
def yX13_methodFits : MethodName := ⟨RX13, "methodFits", "(II)Z"⟩
abbrev cX13_handlerFits : ByteArray := prog_15_method_180_code
def yX13_handlerFits : MethodName := ⟨RX13, "handlerFits", "(I)Z"⟩
abbrev cX13_frameIsThere : ByteArray := prog_15_method_181_code
def yX13_frameIsThere : MethodName := ⟨RX13, "frameIsThere", "(I)Z"⟩
abbrev cX13_flows : ByteArray := prog_15_method_182_code
def yX13_flows : MethodName := ⟨RX13, "flows", "(II)Z"⟩
abbrev cX13_handled : ByteArray := prog_15_method_183_code
def yX13_handled : MethodName := ⟨RX13, "handled", "(I)Z"⟩
abbrev cX13_sortOf : ByteArray := prog_15_method_184_code
def yX13_sortOf : MethodName := ⟨RX13, "sortOf", "(I)I"⟩
abbrev cX13_partOf : ByteArray := prog_15_method_185_code
def yX13_partOf : MethodName := ⟨RX13, "partOf", "(II)I"⟩
abbrev cX13_right : ByteArray := prog_15_method_186_code
def yX13_right : MethodName := ⟨RX13, "right", "(I)Z"⟩
abbrev cX13_comesBack : ByteArray := prog_15_method_187_code
def yX13_comesBack : MethodName := ⟨RX13, "comesBack", "(I)Z"⟩
abbrev cX13_pull : ByteArray := prog_15_method_188_code
def yX13_pull : MethodName := ⟨RX13, "pull", "()I"⟩
abbrev cX13_pullInts : ByteArray := prog_15_method_189_code
def yX13_pullInts : MethodName := ⟨RX13, "pullInts", "(I)Z"⟩
abbrev cX13_pullFit : ByteArray := prog_15_method_190_code
def yX13_pullFit : MethodName := ⟨RX13, "pullFit", "(I)Z"⟩
abbrev cX13_pullThing : ByteArray := prog_15_method_191_code
def yX13_pullThing : MethodName := ⟨RX13, "pullThing", "()Z"⟩
abbrev cX13_wanted : ByteArray := prog_15_method_192_code
def yX13_wanted : MethodName := ⟨RX13, "wanted", "(I)Z"⟩
abbrev cX13_calls : ByteArray := prog_15_method_193_code
def yX13_calls : MethodName := ⟨RX13, "calls", "(IZ)Z"⟩
abbrev cX13_start : ByteArray := prog_15_method_194_code
def yX13_start : MethodName := ⟨RX13, "start", "(II)Z"⟩
abbrev cX13_enter : ByteArray := prog_15_method_195_code
def yX13_enter : MethodName := ⟨RX13, "enter", "(II)V"⟩
abbrev cX13_give : ByteArray := prog_15_method_196_code
def yX13_give : MethodName := ⟨RX13, "give", "(I)V"⟩
abbrev cX13_drop : ByteArray := prog_15_method_197_code
def yX13_drop : MethodName := ⟨RX13, "drop", "()I"⟩
abbrev cX13_fieldsOf : ByteArray := prog_15_method_198_code
def yX13_fieldsOf : MethodName := ⟨RX13, "fieldsOf", "(I)I"⟩
abbrev cX13_make_ : ByteArray := prog_15_method_199_code
def yX13_make_ : MethodName := ⟨RX13, "make", "(II)I"⟩
abbrev cX13_isOne : ByteArray := prog_15_method_200_code
def yX13_isOne : MethodName := ⟨RX13, "isOne", "(II)Z"⟩
abbrev cX13_fails : ByteArray := prog_15_method_201_code
def yX13_fails : MethodName := ⟨RX13, "fails", "(I)V"⟩
abbrev cX13_thrown : ByteArray := prog_15_method_202_code
def yX13_thrown : MethodName := ⟨RX13, "thrown", "(I)V"⟩
abbrev cX13_run : ByteArray := prog_15_method_203_code
def yX13_run : MethodName := ⟨RX13, "run", "(I)I"⟩
abbrev cX13_opAt : ByteArray := prog_15_method_204_code
def yX13_opAt : MethodName := ⟨RX13, "opAt", "(I)I"⟩
abbrev cX13_on : ByteArray := prog_15_method_205_code
def yX13_on : MethodName := ⟨RX13, "on", "(I)V"⟩
abbrev cX13_cell : ByteArray := prog_15_method_206_code
def yX13_cell : MethodName := ⟨RX13, "cell", "(I)I"⟩
abbrev cX13_step : ByteArray := prog_15_method_207_code
def yX13_step : MethodName := ⟨RX13, "step", "()V"⟩
abbrev cX13_intOf : ByteArray := prog_15_method_208_code
def yX13_intOf : MethodName := ⟨RX13, "intOf", "(I)I"⟩
abbrev cX13_reckon : ByteArray := prog_15_method_209_code
def yX13_reckon : MethodName := ⟨RX13, "reckon", "(III)I"⟩
abbrev cX13_jumps : ByteArray := prog_15_method_210_code
def yX13_jumps : MethodName := ⟨RX13, "jumps", "(I)Z"⟩
abbrev cX13_element : ByteArray := prog_15_method_211_code
def yX13_element : MethodName := ⟨RX13, "element", "(I)V"⟩
abbrev cX13_storesIn : ByteArray := prog_15_method_212_code
def yX13_storesIn : MethodName := ⟨RX13, "storesIn", "(II)Z"⟩
abbrev cX13_classIn : ByteArray := prog_15_method_213_code
def yX13_classIn : MethodName := ⟨RX13, "classIn", "(I)I"⟩
abbrev cX13_memberPart : ByteArray := prog_15_method_214_code
def yX13_memberPart : MethodName := ⟨RX13, "memberPart", "(II)I"⟩
abbrev cX13_fieldOf : ByteArray := prog_15_method_215_code
def yX13_fieldOf : MethodName := ⟨RX13, "fieldOf", "(III)V"⟩
abbrev cX13_call : ByteArray := prog_15_method_216_code
def yX13_call : MethodName := ⟨RX13, "call", "(II)V"⟩
abbrev cX13_back : ByteArray := prog_15_method_217_code
def yX13_back : MethodName := ⟨RX13, "back", "(I)V"⟩
abbrev cX13_told : ByteArray := prog_15_method_218_code
def yX13_told : MethodName := ⟨RX13, "told", "(I)I"⟩
abbrev cX13_fresh_ : ByteArray := prog_15_method_219_code
def yX13_fresh_ : MethodName := ⟨RX13, "fresh", "(II)V"⟩
abbrev cX13_is : ByteArray := prog_15_method_220_code
def yX13_is : MethodName := ⟨RX13, "is", "(II)Z"⟩
abbrev cX13_look : ByteArray := prog_15_method_221_code
def yX13_look : MethodName := ⟨RX13, "look", "(I)I"⟩
abbrev cX13_out : ByteArray := prog_15_method_222_code
def yX13_out : MethodName := ⟨RX13, "out", "(I)I"⟩
def wsX13_end : List Cond := .code yX13_end cX13_end 2 (some .boolean) :: ([.fieldLink RX13 312 "ClassMillModel" "taped" "I"] ++ wsX130)
def wsX13_fault : List Cond := .code yX13_fault cX13_fault 2 (some .int) :: ([.fieldLink RX13 319 "ClassMillModel" "fault" "I", .fieldLink RX13 322 "ClassMillModel" "place" "I"] ++ wsX130)
def wsX13_image : List Cond := .code yX13_image cX13_image 3 (some .int) :: ([.fieldLink RX13 761 "ClassMillModel" "imageMany" "I", .fieldLink RX13 197 "ClassMillModel" "imageSize" "[I", .fieldLink RX13 194 "ClassMillModel" "images" "[I"] ++ wsX130)
def wsX13_keep_r1 : List Cond := [Cond.fieldLink RX13 761 "ClassMillModel" "imageMany" "I", Cond.fieldLink RX13 197 "ClassMillModel" "imageSize" "[I", Cond.fieldLink RX13 767 "ClassMillModel" "lookSize" "I", Cond.fieldLink RX13 245 "ClassMillModel" "look" "[I", Cond.fieldLink RX13 194 "ClassMillModel" "images" "[I", Cond.methodLink RX13 861 yX13_loaded, Cond.instanceMethod yX13_loaded, Cond.selects RX13 yX13_loaded yX13_loaded, Cond.initialized RX13, Cond.code yX13_loaded cX13_loaded 3 (some .int), Cond.fieldLink RX13 833 "ClassMillModel" "there" "I", Cond.fieldLink RX13 764 "ClassMillModel" "form" "I", Cond.fieldLink RX13 215 "ClassMillModel" "constantAt" "[I", Cond.fieldLink RX13 221 "ClassMillModel" "ownClass" "[I", Cond.fieldLink RX13 855 "ClassMillModel" "verified" "Z", Cond.fieldLink RX13 858 "ClassMillModel" "state" "I", Cond.methodLink RX13 840 yX13_aside, Cond.instanceMethod yX13_aside, Cond.selects RX13 yX13_aside yX13_aside, Cond.code yX13_aside cX13_aside 4 none, Cond.fieldLink RX13 248 "ClassMillModel" "kept" "[I", Cond.fieldLink RX13 218 "ClassMillModel" "constantMany" "[I", Cond.fieldLink RX13 224 "ClassMillModel" "ownUpper" "[I", Cond.fieldLink RX13 227 "ClassMillModel" "fieldMany" "[I"]
def wsX13_keep_r2 : List Cond := [Cond.fieldLink RX13 233 "ClassMillModel" "methodMany" "[I", Cond.fieldLink RX13 230 "ClassMillModel" "fieldAt" "[I", Cond.fieldLink RX13 236 "ClassMillModel" "methodAt" "[I", Cond.fieldLink RX13 239 "ClassMillModel" "handlersAt" "[I", Cond.fieldLink RX13 242 "ClassMillModel" "framesAt" "[I", Cond.methodLink RX13 843 yX13_scan, Cond.instanceMethod yX13_scan, Cond.selects RX13 yX13_scan yX13_scan, Cond.code yX13_scan cX13_scan 5 none, Cond.fieldLink RX13 788 "ClassMillModel" "into" "I", Cond.methodLink RX13 800 yX13_isByte, Cond.instanceMethod yX13_isByte, Cond.selects RX13 yX13_isByte yX13_isByte, Cond.code yX13_isByte cX13_isByte 2 (some .boolean), Cond.methodLink RX13 803 yX13_unfit, Cond.instanceMethod yX13_unfit, Cond.selects RX13 yX13_unfit yX13_unfit, Cond.code yX13_unfit cX13_unfit 2 none, Cond.methodLink RX13 806 yX13_scanConstant, Cond.instanceMethod yX13_scanConstant, Cond.selects RX13 yX13_scanConstant yX13_scanConstant, Cond.code yX13_scanConstant cX13_scanConstant 4 (some .int), Cond.methodLink RX13 809 yX13_checkConstant, Cond.instanceMethod yX13_checkConstant]
def wsX13_keep_r3 : List Cond := [Cond.selects RX13 yX13_checkConstant yX13_checkConstant, Cond.code yX13_checkConstant cX13_checkConstant 3 none, Cond.methodLink RX13 821 yX13_isText, Cond.instanceMethod yX13_isText, Cond.selects RX13 yX13_isText yX13_isText, Cond.code yX13_isText cX13_isText 5 (some .boolean), Cond.methodLink RX13 791 yX13_constantOf, Cond.instanceMethod yX13_constantOf, Cond.selects RX13 yX13_constantOf yX13_constantOf, Cond.code yX13_constantOf cX13_constantOf 3 (some .int), Cond.methodLink RX13 774 yX13_isName, Cond.static yX13_isName, Cond.code yX13_isName cX13_isName 5 (some .boolean), Cond.methodLink RX13 770 yX13_isNamePart, Cond.static yX13_isNamePart, Cond.code yX13_isNamePart cX13_isNamePart 2 (some .boolean), Cond.methodLink RX13 345 yX13_isLetter, Cond.static yX13_isLetter, Cond.code yX13_isLetter cX13_isLetter 1 (some .boolean), Cond.methodLink RX13 349 yX13_isDigit, Cond.static yX13_isDigit, Cond.code yX13_isDigit cX13_isDigit 1 (some .boolean), Cond.methodLink RX13 782 yX13_isFieldKind, Cond.static yX13_isFieldKind]
def wsX13_keep_r4 : List Cond := [Cond.code yX13_isFieldKind cX13_isFieldKind 3 (some .boolean), Cond.methodLink RX13 778 yX13_kindBytes, Cond.static yX13_kindBytes, Cond.code yX13_kindBytes cX13_kindBytes 5 (some .int), Cond.methodLink RX13 794 yX13_isMethodKind, Cond.static yX13_isMethodKind, Cond.code yX13_isMethodKind cX13_isMethodKind 4 (some .boolean), Cond.methodLink RX13 785 yX13_parametersIn, Cond.static yX13_parametersIn, Cond.code yX13_parametersIn cX13_parametersIn 7 (some .int), Cond.methodLink RX13 797 yX13_isClassText, Cond.static yX13_isClassText, Cond.code yX13_isClassText cX13_isClassText 3 (some .boolean), Cond.methodLink RX13 812 yX13_isClassConstant, Cond.instanceMethod yX13_isClassConstant, Cond.selects RX13 yX13_isClassConstant yX13_isClassConstant, Cond.code yX13_isClassConstant cX13_isClassConstant 5 (some .boolean), Cond.methodLink RX13 815 yX13_scanFields, Cond.instanceMethod yX13_scanFields, Cond.selects RX13 yX13_scanFields yX13_scanFields, Cond.code yX13_scanFields cX13_scanFields 5 (some .int), Cond.methodLink RX13 818 yX13_scanMethod, Cond.instanceMethod yX13_scanMethod, Cond.selects RX13 yX13_scanMethod yX13_scanMethod]
def wsX13_keep_r5 : List Cond := [Cond.code yX13_scanMethod cX13_scanMethod 11 (some .int), Cond.methodLink RX13 824 yX13_pairAt, Cond.instanceMethod yX13_pairAt, Cond.selects RX13 yX13_pairAt yX13_pairAt, Cond.code yX13_pairAt cX13_pairAt 2 (some .int), Cond.methodLink RX13 827 yX13_scanTypes, Cond.instanceMethod yX13_scanTypes, Cond.selects RX13 yX13_scanTypes yX13_scanTypes, Cond.code yX13_scanTypes cX13_scanTypes 5 (some .int), Cond.methodLink RX13 846 yX13_again, Cond.instanceMethod yX13_again, Cond.selects RX13 yX13_again yX13_again, Cond.code yX13_again cX13_again 4 none, Cond.methodLink RX13 849 yX13_classNamed, Cond.instanceMethod yX13_classNamed, Cond.selects RX13 yX13_classNamed yX13_classNamed, Cond.code yX13_classNamed cX13_classNamed 5 (some .int), Cond.methodLink RX13 836 yX13_isNamed, Cond.instanceMethod yX13_isNamed, Cond.selects RX13 yX13_isNamed yX13_isNamed, Cond.code yX13_isNamed cX13_isNamed 9 (some .boolean), Cond.fieldLink RX13 209 "ClassMillModel" "bytes" "[I", Cond.methodLink RX13 328 yJ0_length_8abf5, Cond.instanceMethod yJ0_length_8abf5]
def wsX13_keep_r6 : List Cond := [Cond.selects RJ0 yJ0_length_8abf5 yJ0_length_8abf5, Cond.initialized RJ0, Cond.code yJ0_length_8abf5 cJ0_length_8abf5 1 (some .int), Cond.fieldLink RJ0 9 "java/lang/String" "value" "[B", Cond.methodLink RJ0 335 yJ0_coder_7d493, Cond.instanceMethod yJ0_coder_7d493, Cond.selects RJ0 yJ0_coder_7d493 yJ0_coder_7d493, Cond.code yJ0_coder_7d493 cJ0_coder_7d493 1 (some .byte), Cond.fieldLink RJ0 38 "java/lang/String" "COMPACT_STRINGS" "Z", Cond.fieldLink RJ0 15 "java/lang/String" "coder" "B", Cond.methodLink RX13 334 yJ0_charAt_5068e, Cond.instanceMethod yJ0_charAt_5068e, Cond.selects RJ0 yJ0_charAt_5068e yJ0_charAt_5068e, Cond.code yJ0_charAt_5068e cJ0_charAt_5068e 2 (some .char), Cond.methodLink RJ0 492 yJ0_isLatin1_aae02, Cond.instanceMethod yJ0_isLatin1_aae02, Cond.selects RJ0 yJ0_isLatin1_aae02 yJ0_isLatin1_aae02, Cond.code yJ0_isLatin1_aae02 cJ0_isLatin1_aae02 1 (some .boolean), Cond.methodLink RJ0 495 yJ1_charAt_3b067, Cond.static yJ1_charAt_3b067, Cond.initialized RJ1, Cond.code yJ1_charAt_3b067 cJ1_charAt_3b067 2 (some .char), Cond.methodLink RJ1 9 yJ0_checkIndex_df160, Cond.static yJ0_checkIndex_df160]
def wsX13_keep_r7 : List Cond := [Cond.code yJ0_checkIndex_df160 cJ0_checkIndex_df160 2 none, Cond.fieldLink RJ0 1053 "jdk/internal/util/Preconditions" "SIOOBE_FORMATTER" "Ljava/util/function/BiFunction;", Cond.methodLink RJ0 1059 yJ3_checkIndex_8e157, Cond.static yJ3_checkIndex_8e157, Cond.initialized RJ3, Cond.code yJ3_checkIndex_8e157 cJ3_checkIndex_8e157 3 (some .int), Cond.methodLink RJ0 498 yJ2_charAt_3b067, Cond.static yJ2_charAt_3b067, Cond.initialized RJ2, Cond.code yJ2_charAt_3b067 cJ2_charAt_3b067 2 (some .char), Cond.methodLink RJ2 67 yJ2_checkIndex_2214a, Cond.static yJ2_checkIndex_2214a, Cond.code yJ2_checkIndex_2214a cJ2_checkIndex_2214a 2 none, Cond.methodLink RJ2 48 yJ2_length_9d52b, Cond.static yJ2_length_9d52b, Cond.code yJ2_length_9d52b cJ2_length_9d52b 1 (some .int), Cond.methodLink RJ2 414 yJ0_checkIndex_df160, Cond.methodLink RJ2 71 yJ2_getChar_3b067, Cond.static yJ2_getChar_3b067, Cond.code yJ2_getChar_3b067 cJ2_getChar_3b067 2 (some .char), Cond.fieldLink RJ2 44 "java/lang/StringUTF16" "$assertionsDisabled" "Z", Cond.fieldLink RJ2 59 "java/lang/StringUTF16" "HI_BYTE_SHIFT" "I", Cond.fieldLink RJ2 63 "java/lang/StringUTF16" "LO_BYTE_SHIFT" "I", Cond.methodLink RX13 830 yX13_nameAt]
def wsX13_keep_r8 : List Cond := [Cond.instanceMethod yX13_nameAt, Cond.selects RX13 yX13_nameAt yX13_nameAt, Cond.code yX13_nameAt cX13_nameAt 4 (some .int), Cond.methodLink RX13 852 yX13_install, Cond.instanceMethod yX13_install, Cond.selects RX13 yX13_install yX13_install, Cond.code yX13_install cX13_install 3 (some .int), Cond.fieldLink RX13 212 "ClassMillModel" "byteMany" "[I"]
def wsX13_keep : List Cond := .code yX13_keep cX13_keep 3 (some .int) :: ((wsX13_keep_r1 ++ (wsX13_keep_r2 ++ (wsX13_keep_r3 ++ (wsX13_keep_r4 ++ (wsX13_keep_r5 ++ (wsX13_keep_r6 ++ (wsX13_keep_r7 ++ wsX13_keep_r8))))))) ++ wsX130)
def wsX13_patch_r1 : List Cond := [Cond.fieldLink RX13 833 "ClassMillModel" "there" "I", Cond.fieldLink RX13 212 "ClassMillModel" "byteMany" "[I", Cond.fieldLink RX13 767 "ClassMillModel" "lookSize" "I", Cond.fieldLink RX13 245 "ClassMillModel" "look" "[I", Cond.fieldLink RX13 209 "ClassMillModel" "bytes" "[I", Cond.fieldLink RX13 764 "ClassMillModel" "form" "I", Cond.fieldLink RX13 215 "ClassMillModel" "constantAt" "[I", Cond.fieldLink RX13 221 "ClassMillModel" "ownClass" "[I", Cond.fieldLink RX13 855 "ClassMillModel" "verified" "Z", Cond.fieldLink RX13 858 "ClassMillModel" "state" "I", Cond.methodLink RX13 840 yX13_aside, Cond.instanceMethod yX13_aside, Cond.selects RX13 yX13_aside yX13_aside, Cond.initialized RX13, Cond.code yX13_aside cX13_aside 4 none, Cond.fieldLink RX13 248 "ClassMillModel" "kept" "[I", Cond.fieldLink RX13 218 "ClassMillModel" "constantMany" "[I", Cond.fieldLink RX13 224 "ClassMillModel" "ownUpper" "[I", Cond.fieldLink RX13 227 "ClassMillModel" "fieldMany" "[I", Cond.fieldLink RX13 233 "ClassMillModel" "methodMany" "[I", Cond.fieldLink RX13 230 "ClassMillModel" "fieldAt" "[I", Cond.fieldLink RX13 236 "ClassMillModel" "methodAt" "[I", Cond.fieldLink RX13 239 "ClassMillModel" "handlersAt" "[I", Cond.fieldLink RX13 242 "ClassMillModel" "framesAt" "[I"]
def wsX13_patch_r2 : List Cond := [Cond.methodLink RX13 843 yX13_scan, Cond.instanceMethod yX13_scan, Cond.selects RX13 yX13_scan yX13_scan, Cond.code yX13_scan cX13_scan 5 none, Cond.fieldLink RX13 788 "ClassMillModel" "into" "I", Cond.methodLink RX13 800 yX13_isByte, Cond.instanceMethod yX13_isByte, Cond.selects RX13 yX13_isByte yX13_isByte, Cond.code yX13_isByte cX13_isByte 2 (some .boolean), Cond.methodLink RX13 803 yX13_unfit, Cond.instanceMethod yX13_unfit, Cond.selects RX13 yX13_unfit yX13_unfit, Cond.code yX13_unfit cX13_unfit 2 none, Cond.methodLink RX13 806 yX13_scanConstant, Cond.instanceMethod yX13_scanConstant, Cond.selects RX13 yX13_scanConstant yX13_scanConstant, Cond.code yX13_scanConstant cX13_scanConstant 4 (some .int), Cond.methodLink RX13 809 yX13_checkConstant, Cond.instanceMethod yX13_checkConstant, Cond.selects RX13 yX13_checkConstant yX13_checkConstant, Cond.code yX13_checkConstant cX13_checkConstant 3 none, Cond.methodLink RX13 821 yX13_isText, Cond.instanceMethod yX13_isText, Cond.selects RX13 yX13_isText yX13_isText]
def wsX13_patch_r3 : List Cond := [Cond.code yX13_isText cX13_isText 5 (some .boolean), Cond.methodLink RX13 791 yX13_constantOf, Cond.instanceMethod yX13_constantOf, Cond.selects RX13 yX13_constantOf yX13_constantOf, Cond.code yX13_constantOf cX13_constantOf 3 (some .int), Cond.methodLink RX13 774 yX13_isName, Cond.static yX13_isName, Cond.code yX13_isName cX13_isName 5 (some .boolean), Cond.methodLink RX13 770 yX13_isNamePart, Cond.static yX13_isNamePart, Cond.code yX13_isNamePart cX13_isNamePart 2 (some .boolean), Cond.methodLink RX13 345 yX13_isLetter, Cond.static yX13_isLetter, Cond.code yX13_isLetter cX13_isLetter 1 (some .boolean), Cond.methodLink RX13 349 yX13_isDigit, Cond.static yX13_isDigit, Cond.code yX13_isDigit cX13_isDigit 1 (some .boolean), Cond.methodLink RX13 782 yX13_isFieldKind, Cond.static yX13_isFieldKind, Cond.code yX13_isFieldKind cX13_isFieldKind 3 (some .boolean), Cond.methodLink RX13 778 yX13_kindBytes, Cond.static yX13_kindBytes, Cond.code yX13_kindBytes cX13_kindBytes 5 (some .int), Cond.methodLink RX13 794 yX13_isMethodKind]
def wsX13_patch_r4 : List Cond := [Cond.static yX13_isMethodKind, Cond.code yX13_isMethodKind cX13_isMethodKind 4 (some .boolean), Cond.methodLink RX13 785 yX13_parametersIn, Cond.static yX13_parametersIn, Cond.code yX13_parametersIn cX13_parametersIn 7 (some .int), Cond.methodLink RX13 797 yX13_isClassText, Cond.static yX13_isClassText, Cond.code yX13_isClassText cX13_isClassText 3 (some .boolean), Cond.methodLink RX13 812 yX13_isClassConstant, Cond.instanceMethod yX13_isClassConstant, Cond.selects RX13 yX13_isClassConstant yX13_isClassConstant, Cond.code yX13_isClassConstant cX13_isClassConstant 5 (some .boolean), Cond.methodLink RX13 815 yX13_scanFields, Cond.instanceMethod yX13_scanFields, Cond.selects RX13 yX13_scanFields yX13_scanFields, Cond.code yX13_scanFields cX13_scanFields 5 (some .int), Cond.methodLink RX13 818 yX13_scanMethod, Cond.instanceMethod yX13_scanMethod, Cond.selects RX13 yX13_scanMethod yX13_scanMethod, Cond.code yX13_scanMethod cX13_scanMethod 11 (some .int), Cond.methodLink RX13 824 yX13_pairAt, Cond.instanceMethod yX13_pairAt, Cond.selects RX13 yX13_pairAt yX13_pairAt, Cond.code yX13_pairAt cX13_pairAt 2 (some .int)]
def wsX13_patch_r5 : List Cond := [Cond.methodLink RX13 827 yX13_scanTypes, Cond.instanceMethod yX13_scanTypes, Cond.selects RX13 yX13_scanTypes yX13_scanTypes, Cond.code yX13_scanTypes cX13_scanTypes 5 (some .int), Cond.methodLink RX13 836 yX13_isNamed, Cond.instanceMethod yX13_isNamed, Cond.selects RX13 yX13_isNamed yX13_isNamed, Cond.code yX13_isNamed cX13_isNamed 9 (some .boolean), Cond.methodLink RX13 328 yJ0_length_8abf5, Cond.instanceMethod yJ0_length_8abf5, Cond.selects RJ0 yJ0_length_8abf5 yJ0_length_8abf5, Cond.initialized RJ0, Cond.code yJ0_length_8abf5 cJ0_length_8abf5 1 (some .int), Cond.fieldLink RJ0 9 "java/lang/String" "value" "[B", Cond.methodLink RJ0 335 yJ0_coder_7d493, Cond.instanceMethod yJ0_coder_7d493, Cond.selects RJ0 yJ0_coder_7d493 yJ0_coder_7d493, Cond.code yJ0_coder_7d493 cJ0_coder_7d493 1 (some .byte), Cond.fieldLink RJ0 38 "java/lang/String" "COMPACT_STRINGS" "Z", Cond.fieldLink RJ0 15 "java/lang/String" "coder" "B", Cond.methodLink RX13 334 yJ0_charAt_5068e, Cond.instanceMethod yJ0_charAt_5068e, Cond.selects RJ0 yJ0_charAt_5068e yJ0_charAt_5068e, Cond.code yJ0_charAt_5068e cJ0_charAt_5068e 2 (some .char)]
def wsX13_patch_r6 : List Cond := [Cond.methodLink RJ0 492 yJ0_isLatin1_aae02, Cond.instanceMethod yJ0_isLatin1_aae02, Cond.selects RJ0 yJ0_isLatin1_aae02 yJ0_isLatin1_aae02, Cond.code yJ0_isLatin1_aae02 cJ0_isLatin1_aae02 1 (some .boolean), Cond.methodLink RJ0 495 yJ1_charAt_3b067, Cond.static yJ1_charAt_3b067, Cond.initialized RJ1, Cond.code yJ1_charAt_3b067 cJ1_charAt_3b067 2 (some .char), Cond.methodLink RJ1 9 yJ0_checkIndex_df160, Cond.static yJ0_checkIndex_df160, Cond.code yJ0_checkIndex_df160 cJ0_checkIndex_df160 2 none, Cond.fieldLink RJ0 1053 "jdk/internal/util/Preconditions" "SIOOBE_FORMATTER" "Ljava/util/function/BiFunction;", Cond.methodLink RJ0 1059 yJ3_checkIndex_8e157, Cond.static yJ3_checkIndex_8e157, Cond.initialized RJ3, Cond.code yJ3_checkIndex_8e157 cJ3_checkIndex_8e157 3 (some .int), Cond.methodLink RJ0 498 yJ2_charAt_3b067, Cond.static yJ2_charAt_3b067, Cond.initialized RJ2, Cond.code yJ2_charAt_3b067 cJ2_charAt_3b067 2 (some .char), Cond.methodLink RJ2 67 yJ2_checkIndex_2214a, Cond.static yJ2_checkIndex_2214a, Cond.code yJ2_checkIndex_2214a cJ2_checkIndex_2214a 2 none, Cond.methodLink RJ2 48 yJ2_length_9d52b]
def wsX13_patch_r7 : List Cond := [Cond.static yJ2_length_9d52b, Cond.code yJ2_length_9d52b cJ2_length_9d52b 1 (some .int), Cond.methodLink RJ2 414 yJ0_checkIndex_df160, Cond.methodLink RJ2 71 yJ2_getChar_3b067, Cond.static yJ2_getChar_3b067, Cond.code yJ2_getChar_3b067 cJ2_getChar_3b067 2 (some .char), Cond.fieldLink RJ2 44 "java/lang/StringUTF16" "$assertionsDisabled" "Z", Cond.fieldLink RJ2 59 "java/lang/StringUTF16" "HI_BYTE_SHIFT" "I", Cond.fieldLink RJ2 63 "java/lang/StringUTF16" "LO_BYTE_SHIFT" "I", Cond.methodLink RX13 830 yX13_nameAt, Cond.instanceMethod yX13_nameAt, Cond.selects RX13 yX13_nameAt yX13_nameAt, Cond.code yX13_nameAt cX13_nameAt 4 (some .int), Cond.methodLink RX13 846 yX13_again, Cond.instanceMethod yX13_again, Cond.selects RX13 yX13_again yX13_again, Cond.code yX13_again cX13_again 4 none, Cond.methodLink RX13 852 yX13_install, Cond.instanceMethod yX13_install, Cond.selects RX13 yX13_install yX13_install, Cond.code yX13_install cX13_install 3 (some .int)]
def wsX13_patch : List Cond := .code yX13_patch cX13_patch 8 (some .boolean) :: ((wsX13_patch_r1 ++ (wsX13_patch_r2 ++ (wsX13_patch_r3 ++ (wsX13_patch_r4 ++ (wsX13_patch_r5 ++ (wsX13_patch_r6 ++ wsX13_patch_r7)))))) ++ wsX130)
def wsX13_verify_r1 : List Cond := [Cond.fieldLink RX13 855 "ClassMillModel" "verified" "Z", Cond.fieldLink RX13 901 "ClassMillModel" "why" "I", Cond.fieldLink RX13 876 "ClassMillModel" "others" "I", Cond.fieldLink RX13 833 "ClassMillModel" "there" "I", Cond.fieldLink RX13 233 "ClassMillModel" "methodMany" "[I", Cond.methodLink RX13 904 yX13_classFits, Cond.instanceMethod yX13_classFits, Cond.selects RX13 yX13_classFits yX13_classFits, Cond.initialized RX13, Cond.code yX13_classFits cX13_classFits 8 (some .boolean), Cond.fieldLink RX13 227 "ClassMillModel" "fieldMany" "[I", Cond.fieldLink RX13 898 "ClassMillModel" "found" "I", Cond.fieldLink RX13 236 "ClassMillModel" "methodAt" "[I", Cond.methodLink RX13 873 yX13_superOf, Cond.instanceMethod yX13_superOf, Cond.selects RX13 yX13_superOf yX13_superOf, Cond.code yX13_superOf cX13_superOf 2 (some .int), Cond.fieldLink RX13 224 "ClassMillModel" "ownUpper" "[I", Cond.methodLink RX13 867 yX13_textOfClass, Cond.instanceMethod yX13_textOfClass, Cond.selects RX13 yX13_textOfClass yX13_textOfClass, Cond.code yX13_textOfClass cX13_textOfClass 3 (some .int), Cond.fieldLink RX13 215 "ClassMillModel" "constantAt" "[I", Cond.methodLink RX13 864 yX13_byteAt]
def wsX13_verify_r2 : List Cond := [Cond.instanceMethod yX13_byteAt, Cond.selects RX13 yX13_byteAt yX13_byteAt, Cond.code yX13_byteAt cX13_byteAt 3 (some .int), Cond.fieldLink RX13 209 "ClassMillModel" "bytes" "[I", Cond.methodLink RX13 870 yX13_classAtText, Cond.instanceMethod yX13_classAtText, Cond.selects RX13 yX13_classAtText yX13_classAtText, Cond.code yX13_classAtText cX13_classAtText 4 (some .int), Cond.methodLink RX13 849 yX13_classNamed, Cond.instanceMethod yX13_classNamed, Cond.selects RX13 yX13_classNamed yX13_classNamed, Cond.code yX13_classNamed cX13_classNamed 5 (some .int), Cond.methodLink RX13 836 yX13_isNamed, Cond.instanceMethod yX13_isNamed, Cond.selects RX13 yX13_isNamed yX13_isNamed, Cond.code yX13_isNamed cX13_isNamed 9 (some .boolean), Cond.methodLink RX13 328 yJ0_length_8abf5, Cond.instanceMethod yJ0_length_8abf5, Cond.selects RJ0 yJ0_length_8abf5 yJ0_length_8abf5, Cond.initialized RJ0, Cond.code yJ0_length_8abf5 cJ0_length_8abf5 1 (some .int), Cond.fieldLink RJ0 9 "java/lang/String" "value" "[B", Cond.methodLink RJ0 335 yJ0_coder_7d493, Cond.instanceMethod yJ0_coder_7d493]
def wsX13_verify_r3 : List Cond := [Cond.selects RJ0 yJ0_coder_7d493 yJ0_coder_7d493, Cond.code yJ0_coder_7d493 cJ0_coder_7d493 1 (some .byte), Cond.fieldLink RJ0 38 "java/lang/String" "COMPACT_STRINGS" "Z", Cond.fieldLink RJ0 15 "java/lang/String" "coder" "B", Cond.methodLink RX13 334 yJ0_charAt_5068e, Cond.instanceMethod yJ0_charAt_5068e, Cond.selects RJ0 yJ0_charAt_5068e yJ0_charAt_5068e, Cond.code yJ0_charAt_5068e cJ0_charAt_5068e 2 (some .char), Cond.methodLink RJ0 492 yJ0_isLatin1_aae02, Cond.instanceMethod yJ0_isLatin1_aae02, Cond.selects RJ0 yJ0_isLatin1_aae02 yJ0_isLatin1_aae02, Cond.code yJ0_isLatin1_aae02 cJ0_isLatin1_aae02 1 (some .boolean), Cond.methodLink RJ0 495 yJ1_charAt_3b067, Cond.static yJ1_charAt_3b067, Cond.initialized RJ1, Cond.code yJ1_charAt_3b067 cJ1_charAt_3b067 2 (some .char), Cond.methodLink RJ1 9 yJ0_checkIndex_df160, Cond.static yJ0_checkIndex_df160, Cond.code yJ0_checkIndex_df160 cJ0_checkIndex_df160 2 none, Cond.fieldLink RJ0 1053 "jdk/internal/util/Preconditions" "SIOOBE_FORMATTER" "Ljava/util/function/BiFunction;", Cond.methodLink RJ0 1059 yJ3_checkIndex_8e157, Cond.static yJ3_checkIndex_8e157, Cond.initialized RJ3, Cond.code yJ3_checkIndex_8e157 cJ3_checkIndex_8e157 3 (some .int)]
def wsX13_verify_r4 : List Cond := [Cond.methodLink RJ0 498 yJ2_charAt_3b067, Cond.static yJ2_charAt_3b067, Cond.initialized RJ2, Cond.code yJ2_charAt_3b067 cJ2_charAt_3b067 2 (some .char), Cond.methodLink RJ2 67 yJ2_checkIndex_2214a, Cond.static yJ2_checkIndex_2214a, Cond.code yJ2_checkIndex_2214a cJ2_checkIndex_2214a 2 none, Cond.methodLink RJ2 48 yJ2_length_9d52b, Cond.static yJ2_length_9d52b, Cond.code yJ2_length_9d52b cJ2_length_9d52b 1 (some .int), Cond.methodLink RJ2 414 yJ0_checkIndex_df160, Cond.methodLink RJ2 71 yJ2_getChar_3b067, Cond.static yJ2_getChar_3b067, Cond.code yJ2_getChar_3b067 cJ2_getChar_3b067 2 (some .char), Cond.fieldLink RJ2 44 "java/lang/StringUTF16" "$assertionsDisabled" "Z", Cond.fieldLink RJ2 59 "java/lang/StringUTF16" "HI_BYTE_SHIFT" "I", Cond.fieldLink RJ2 63 "java/lang/StringUTF16" "LO_BYTE_SHIFT" "I", Cond.methodLink RX13 830 yX13_nameAt, Cond.instanceMethod yX13_nameAt, Cond.selects RX13 yX13_nameAt yX13_nameAt, Cond.code yX13_nameAt cX13_nameAt 4 (some .int), Cond.fieldLink RX13 221 "ClassMillModel" "ownClass" "[I", Cond.methodLink RX13 919 yX13_kindsAreThere, Cond.instanceMethod yX13_kindsAreThere]
def wsX13_verify_r5 : List Cond := [Cond.selects RX13 yX13_kindsAreThere yX13_kindsAreThere, Cond.code yX13_kindsAreThere cX13_kindsAreThere 5 (some .boolean), Cond.fieldLink RX13 879 "ClassMillModel" "kindEnd" "I", Cond.methodLink RX13 910 yX13_kindText, Cond.instanceMethod yX13_kindText, Cond.selects RX13 yX13_kindText yX13_kindText, Cond.code yX13_kindText cX13_kindText 4 (some .int), Cond.fieldLink RX13 230 "ClassMillModel" "fieldAt" "[I", Cond.methodLink RX13 913 yX13_kindType, Cond.instanceMethod yX13_kindType, Cond.selects RX13 yX13_kindType yX13_kindType, Cond.code yX13_kindType cX13_kindType 3 (some .int), Cond.methodLink RX13 885 yX13_typeAt, Cond.instanceMethod yX13_typeAt, Cond.selects RX13 yX13_typeAt yX13_typeAt, Cond.code yX13_typeAt cX13_typeAt 5 (some .int), Cond.methodLink RX13 882 yX13_nameNumber, Cond.instanceMethod yX13_nameNumber, Cond.selects RX13 yX13_nameNumber yX13_nameNumber, Cond.code yX13_nameNumber cX13_nameNumber 7 (some .int), Cond.fieldLink RX13 254 "ClassMillModel" "otherSize" "[I", Cond.fieldLink RX13 251 "ClassMillModel" "otherAt" "[I", Cond.methodLink RX13 916 yX13_isThere, Cond.static yX13_isThere]
def wsX13_verify_r6 : List Cond := [Cond.code yX13_isThere cX13_isThere 1 (some .boolean), Cond.methodLink RX13 922 yX13_bad, Cond.instanceMethod yX13_bad, Cond.selects RX13 yX13_bad yX13_bad, Cond.code yX13_bad cX13_bad 5 (some .boolean), Cond.fieldLink RX13 257 "ClassMillModel" "whyClass" "I", Cond.fieldLink RX13 261 "ClassMillModel" "whyMethod" "I", Cond.fieldLink RX13 264 "ClassMillModel" "whyPlace" "I", Cond.methodLink RX13 925 yX13_nameText, Cond.instanceMethod yX13_nameText, Cond.selects RX13 yX13_nameText yX13_nameText, Cond.code yX13_nameText cX13_nameText 4 (some .int), Cond.methodLink RX13 894 yX13_sameText, Cond.instanceMethod yX13_sameText, Cond.selects RX13 yX13_sameText yX13_sameText, Cond.code yX13_sameText cX13_sameText 9 (some .boolean), Cond.methodLink RX13 928 yX13_holder, Cond.instanceMethod yX13_holder, Cond.selects RX13 yX13_holder yX13_holder, Cond.code yX13_holder cX13_holder 11 (some .int), Cond.methodLink RX13 907 yX13_methodFits, Cond.instanceMethod yX13_methodFits, Cond.selects RX13 yX13_methodFits yX13_methodFits, Cond.code yX13_methodFits cX13_methodFits 8 (some .boolean)]
def wsX13_verify_r7 : List Cond := [Cond.fieldLink RX13 267 "ClassMillModel" "begins" "[Z", Cond.fieldLink RX13 970 "ClassMillModel" "codeSize" "I", Cond.fieldLink RX13 239 "ClassMillModel" "handlersAt" "[I", Cond.fieldLink RX13 932 "ClassMillModel" "inClass" "I", Cond.methodLink RX13 973 yX13_at_, Cond.instanceMethod yX13_at_, Cond.selects RX13 yX13_at_ yX13_at_, Cond.code yX13_at_ cX13_at_ 4 none, Cond.fieldLink RX13 940 "ClassMillModel" "inMethod" "I", Cond.fieldLink RX13 967 "ClassMillModel" "stackMost" "I", Cond.fieldLink RX13 964 "ClassMillModel" "localMany" "I", Cond.fieldLink RX13 935 "ClassMillModel" "codeAt" "I", Cond.methodLink RX13 949 yX13_pairIn, Cond.instanceMethod yX13_pairIn, Cond.selects RX13 yX13_pairIn yX13_pairIn, Cond.code yX13_pairIn cX13_pairIn 2 (some .int), Cond.methodLink RX13 938 yX13_code, Cond.instanceMethod yX13_code, Cond.selects RX13 yX13_code yX13_code, Cond.code yX13_code cX13_code 2 (some .int), Cond.methodLink RX13 975 yX13_widthOf, Cond.static yX13_widthOf, Cond.code yX13_widthOf cX13_widthOf 1 (some .int), Cond.methodLink RX13 978 yX13_isJump]
def wsX13_verify_r8 : List Cond := [Cond.static yX13_isJump, Cond.code yX13_isJump cX13_isJump 1 (some .boolean), Cond.methodLink RX13 981 yX13_aimOf, Cond.instanceMethod yX13_aimOf, Cond.selects RX13 yX13_aimOf yX13_aimOf, Cond.code yX13_aimOf cX13_aimOf 2 (some .int), Cond.methodLink RX13 984 yX13_handlerFits, Cond.instanceMethod yX13_handlerFits, Cond.selects RX13 yX13_handlerFits yX13_handlerFits, Cond.code yX13_handlerFits cX13_handlerFits 7 (some .boolean), Cond.methodLink RX13 952 yX13_typeOfClass, Cond.instanceMethod yX13_typeOfClass, Cond.selects RX13 yX13_typeOfClass yX13_typeOfClass, Cond.code yX13_typeOfClass cX13_typeOfClass 5 (some .int), Cond.methodLink RX13 995 yX13_frameFor, Cond.instanceMethod yX13_frameFor, Cond.selects RX13 yX13_frameFor yX13_frameFor, Cond.code yX13_frameFor cX13_frameFor 4 (some .int), Cond.fieldLink RX13 242 "ClassMillModel" "framesAt" "[I", Cond.methodLink RX13 946 yX13_frameMany, Cond.instanceMethod yX13_frameMany, Cond.selects RX13 yX13_frameMany yX13_frameMany, Cond.code yX13_frameMany cX13_frameMany 1 (some .int), Cond.methodLink RX13 943 yX13_typesEnd]
def wsX13_verify_r9 : List Cond := [Cond.instanceMethod yX13_typesEnd, Cond.selects RX13 yX13_typesEnd yX13_typesEnd, Cond.code yX13_typesEnd cX13_typesEnd 5 (some .int), Cond.methodLink RX13 958 yX13_goes, Cond.instanceMethod yX13_goes, Cond.selects RX13 yX13_goes yX13_goes, Cond.code yX13_goes cX13_goes 5 (some .boolean), Cond.methodLink RX13 888 yX13_isRow, Cond.static yX13_isRow, Cond.code yX13_isRow cX13_isRow 1 (some .boolean), Cond.methodLink RX13 891 yX13_isUnder, Cond.instanceMethod yX13_isUnder, Cond.selects RX13 yX13_isUnder yX13_isUnder, Cond.code yX13_isUnder cX13_isUnder 5 (some .boolean), Cond.methodLink RX13 987 yX13_frameAt, Cond.instanceMethod yX13_frameAt, Cond.selects RX13 yX13_frameAt yX13_frameAt, Cond.code yX13_frameAt cX13_frameAt 4 (some .int), Cond.methodLink RX13 989 yX13_frameIsThere, Cond.instanceMethod yX13_frameIsThere, Cond.selects RX13 yX13_frameIsThere yX13_frameIsThere, Cond.code yX13_frameIsThere cX13_frameIsThere 6 (some .boolean), Cond.methodLink RX13 955 yX13_framed, Cond.instanceMethod yX13_framed]
def wsX13_verify_r10 : List Cond := [Cond.selects RX13 yX13_framed yX13_framed, Cond.code yX13_framed cX13_framed 2 (some .int), Cond.methodLink RX13 992 yX13_flows, Cond.instanceMethod yX13_flows, Cond.selects RX13 yX13_flows yX13_flows, Cond.code yX13_flows cX13_flows 10 (some .boolean), Cond.fieldLink RX13 270 "ClassMillModel" "locals" "[I", Cond.fieldLink RX13 961 "ClassMillModel" "stackMany" "I", Cond.fieldLink RX13 998 "ClassMillModel" "resultAt" "I", Cond.methodLink RX13 1001 yX13_localsFit, Cond.instanceMethod yX13_localsFit, Cond.selects RX13 yX13_localsFit yX13_localsFit, Cond.code yX13_localsFit cX13_localsFit 5 (some .boolean), Cond.methodLink RX13 1004 yX13_stackFits, Cond.instanceMethod yX13_stackFits, Cond.selects RX13 yX13_stackFits yX13_stackFits, Cond.code yX13_stackFits cX13_stackFits 5 (some .boolean), Cond.fieldLink RX13 273 "ClassMillModel" "stack" "[I", Cond.methodLink RX13 1007 yX13_becomes, Cond.instanceMethod yX13_becomes, Cond.selects RX13 yX13_becomes yX13_becomes, Cond.code yX13_becomes cX13_becomes 5 none, Cond.methodLink RX13 1010 yX13_handled, Cond.instanceMethod yX13_handled]
def wsX13_verify_r11 : List Cond := [Cond.selects RX13 yX13_handled yX13_handled, Cond.code yX13_handled cX13_handled 7 (some .boolean), Cond.methodLink RX13 1013 yX13_right, Cond.instanceMethod yX13_right, Cond.selects RX13 yX13_right yX13_right, Cond.code yX13_right cX13_right 9 (some .boolean), Cond.methodLink RX13 1019 yX13_sortOf, Cond.instanceMethod yX13_sortOf, Cond.selects RX13 yX13_sortOf yX13_sortOf, Cond.code yX13_sortOf cX13_sortOf 2 (some .int), Cond.fieldLink RX13 218 "ClassMillModel" "constantMany" "[I", Cond.methodLink RX13 1022 yX13_partOf, Cond.instanceMethod yX13_partOf, Cond.selects RX13 yX13_partOf yX13_partOf, Cond.code yX13_partOf cX13_partOf 3 (some .int), Cond.methodLink RX13 1016 yX13_wanted, Cond.instanceMethod yX13_wanted, Cond.selects RX13 yX13_wanted yX13_wanted, Cond.code yX13_wanted cX13_wanted 5 (some .boolean), Cond.methodLink RX13 1028 yX13_comesBack, Cond.instanceMethod yX13_comesBack, Cond.selects RX13 yX13_comesBack yX13_comesBack, Cond.code yX13_comesBack cX13_comesBack 2 (some .boolean), Cond.methodLink RX13 1025 yX13_pull]
def wsX13_verify_r12 : List Cond := [Cond.instanceMethod yX13_pull, Cond.selects RX13 yX13_pull yX13_pull, Cond.code yX13_pull cX13_pull 1 (some .int), Cond.methodLink RX13 1031 yX13_pullInts, Cond.instanceMethod yX13_pullInts, Cond.selects RX13 yX13_pullInts yX13_pullInts, Cond.code yX13_pullInts cX13_pullInts 3 (some .boolean), Cond.methodLink RX13 1034 yX13_pullThing, Cond.instanceMethod yX13_pullThing, Cond.selects RX13 yX13_pullThing yX13_pullThing, Cond.code yX13_pullThing cX13_pullThing 1 (some .boolean), Cond.methodLink RX13 1037 yX13_pullFit, Cond.instanceMethod yX13_pullFit, Cond.selects RX13 yX13_pullFit yX13_pullFit, Cond.code yX13_pullFit cX13_pullFit 3 (some .boolean), Cond.methodLink RX13 1040 yX13_calls, Cond.instanceMethod yX13_calls, Cond.selects RX13 yX13_calls yX13_calls, Cond.code yX13_calls cX13_calls 6 (some .boolean), Cond.fieldLink RX13 276 "ClassMillModel" "wants" "[I"]
def wsX13_verify : List Cond := .code yX13_verify cX13_verify 4 (some .int) :: ((wsX13_verify_r1 ++ (wsX13_verify_r2 ++ (wsX13_verify_r3 ++ (wsX13_verify_r4 ++ (wsX13_verify_r5 ++ (wsX13_verify_r6 ++ (wsX13_verify_r7 ++ (wsX13_verify_r8 ++ (wsX13_verify_r9 ++ (wsX13_verify_r10 ++ (wsX13_verify_r11 ++ wsX13_verify_r12))))))))))) ++ wsX130)
def wsX13_where : List Cond := .code yX13_where cX13_where 2 (some .int) :: ([.fieldLink RX13 257 "ClassMillModel" "whyClass" "I", .fieldLink RX13 261 "ClassMillModel" "whyMethod" "I", .fieldLink RX13 264 "ClassMillModel" "whyPlace" "I"] ++ wsX130)
def wsX13_start_r1 : List Cond := [Cond.fieldLink RX13 855 "ClassMillModel" "verified" "Z", Cond.fieldLink RX13 833 "ClassMillModel" "there" "I", Cond.fieldLink RX13 233 "ClassMillModel" "methodMany" "[I", Cond.fieldLink RX13 215 "ClassMillModel" "constantAt" "[I", Cond.fieldLink RX13 236 "ClassMillModel" "methodAt" "[I", Cond.fieldLink RX13 209 "ClassMillModel" "bytes" "[I", Cond.fieldLink RX13 858 "ClassMillModel" "state" "I", Cond.fieldLink RX13 1043 "ClassMillModel" "gave" "I", Cond.fieldLink RX13 1046 "ClassMillModel" "steps" "I", Cond.fieldLink RX13 1049 "ClassMillModel" "objects" "I", Cond.fieldLink RX13 1052 "ClassMillModel" "fieldsMade" "I", Cond.fieldLink RX13 1055 "ClassMillModel" "printedMany" "I", Cond.fieldLink RX13 1058 "ClassMillModel" "depth" "I", Cond.methodLink RX13 910 yX13_kindText, Cond.instanceMethod yX13_kindText, Cond.selects RX13 yX13_kindText yX13_kindText, Cond.initialized RX13, Cond.code yX13_kindText cX13_kindText 4 (some .int), Cond.fieldLink RX13 230 "ClassMillModel" "fieldAt" "[I", Cond.methodLink RX13 864 yX13_byteAt, Cond.instanceMethod yX13_byteAt, Cond.selects RX13 yX13_byteAt yX13_byteAt, Cond.code yX13_byteAt cX13_byteAt 3 (some .int), Cond.methodLink RX13 1061 yX13_enter]
def wsX13_start_r2 : List Cond := [Cond.instanceMethod yX13_enter, Cond.selects RX13 yX13_enter yX13_enter, Cond.code yX13_enter cX13_enter 4 none, Cond.fieldLink RX13 294 "ClassMillModel" "runClass" "[I", Cond.fieldLink RX13 297 "ClassMillModel" "runMethod" "[I", Cond.fieldLink RX13 300 "ClassMillModel" "runPlace" "[I", Cond.fieldLink RX13 303 "ClassMillModel" "runStack" "[I", Cond.fieldLink RX13 306 "ClassMillModel" "cells" "[I"]
def wsX13_start : List Cond := .code yX13_start cX13_start 5 (some .boolean) :: ((wsX13_start_r1 ++ wsX13_start_r2) ++ wsX130)
def wsX13_run_r1 : List Cond := [Cond.fieldLink RX13 858 "ClassMillModel" "state" "I", Cond.fieldLink RX13 1046 "ClassMillModel" "steps" "I", Cond.methodLink RX13 1075 yX13_step, Cond.instanceMethod yX13_step, Cond.selects RX13 yX13_step yX13_step, Cond.initialized RX13, Cond.code yX13_step cX13_step 7 none, Cond.fieldLink RX13 300 "ClassMillModel" "runPlace" "[I", Cond.fieldLink RX13 1058 "ClassMillModel" "depth" "I", Cond.fieldLink RX13 306 "ClassMillModel" "cells" "[I", Cond.fieldLink RX13 1055 "ClassMillModel" "printedMany" "I", Cond.fieldLink RX13 291 "ClassMillModel" "printed" "[I", Cond.methodLink RX13 1078 yX13_opAt, Cond.instanceMethod yX13_opAt, Cond.selects RX13 yX13_opAt yX13_opAt, Cond.code yX13_opAt cX13_opAt 2 (some .int), Cond.fieldLink RX13 294 "ClassMillModel" "runClass" "[I", Cond.fieldLink RX13 236 "ClassMillModel" "methodAt" "[I", Cond.fieldLink RX13 297 "ClassMillModel" "runMethod" "[I", Cond.methodLink RX13 864 yX13_byteAt, Cond.instanceMethod yX13_byteAt, Cond.selects RX13 yX13_byteAt yX13_byteAt, Cond.code yX13_byteAt cX13_byteAt 3 (some .int), Cond.fieldLink RX13 209 "ClassMillModel" "bytes" "[I"]
def wsX13_run_r2 : List Cond := [Cond.methodLink RX13 975 yX13_widthOf, Cond.static yX13_widthOf, Cond.code yX13_widthOf cX13_widthOf 1 (some .int), Cond.methodLink RX13 1072 yX13_give, Cond.instanceMethod yX13_give, Cond.selects RX13 yX13_give yX13_give, Cond.code yX13_give cX13_give 3 none, Cond.fieldLink RX13 303 "ClassMillModel" "runStack" "[I", Cond.methodLink RX13 1081 yX13_intOf, Cond.instanceMethod yX13_intOf, Cond.selects RX13 yX13_intOf yX13_intOf, Cond.code yX13_intOf cX13_intOf 4 (some .int), Cond.fieldLink RX13 215 "ClassMillModel" "constantAt" "[I", Cond.methodLink RX13 1084 yX13_cell, Cond.instanceMethod yX13_cell, Cond.selects RX13 yX13_cell yX13_cell, Cond.code yX13_cell cX13_cell 2 (some .int), Cond.methodLink RX13 1087 yX13_drop, Cond.instanceMethod yX13_drop, Cond.selects RX13 yX13_drop yX13_drop, Cond.code yX13_drop cX13_drop 2 (some .int), Cond.methodLink RX13 1090 yX13_element, Cond.instanceMethod yX13_element, Cond.selects RX13 yX13_element yX13_element]
def wsX13_run_r3 : List Cond := [Cond.code yX13_element cX13_element 5 none, Cond.fieldLink RX13 285 "ClassMillModel" "count" "[I", Cond.fieldLink RX13 279 "ClassMillModel" "sort" "[I", Cond.fieldLink RX13 288 "ClassMillModel" "values" "[I", Cond.fieldLink RX13 282 "ClassMillModel" "begin" "[I", Cond.methodLink RX13 1093 yX13_fails, Cond.instanceMethod yX13_fails, Cond.selects RX13 yX13_fails yX13_fails, Cond.code yX13_fails cX13_fails 3 none, Cond.methodLink RX13 1064 yX13_make_, Cond.instanceMethod yX13_make_, Cond.selects RX13 yX13_make_ yX13_make_, Cond.code yX13_make_ cX13_make_ 4 (some .int), Cond.fieldLink RX13 1049 "ClassMillModel" "objects" "I", Cond.fieldLink RX13 1052 "ClassMillModel" "fieldsMade" "I", Cond.methodLink RX13 1066 yX13_thrown, Cond.instanceMethod yX13_thrown, Cond.selects RX13 yX13_thrown yX13_thrown, Cond.code yX13_thrown cX13_thrown 9 none, Cond.fieldLink RX13 239 "ClassMillModel" "handlersAt" "[I", Cond.fieldLink RX13 1043 "ClassMillModel" "gave" "I", Cond.methodLink RX13 867 yX13_textOfClass, Cond.instanceMethod yX13_textOfClass, Cond.selects RX13 yX13_textOfClass yX13_textOfClass]
def wsX13_run_r4 : List Cond := [Cond.code yX13_textOfClass cX13_textOfClass 3 (some .int), Cond.methodLink RX13 870 yX13_classAtText, Cond.instanceMethod yX13_classAtText, Cond.selects RX13 yX13_classAtText yX13_classAtText, Cond.code yX13_classAtText cX13_classAtText 4 (some .int), Cond.methodLink RX13 849 yX13_classNamed, Cond.instanceMethod yX13_classNamed, Cond.selects RX13 yX13_classNamed yX13_classNamed, Cond.code yX13_classNamed cX13_classNamed 5 (some .int), Cond.fieldLink RX13 833 "ClassMillModel" "there" "I", Cond.methodLink RX13 836 yX13_isNamed, Cond.instanceMethod yX13_isNamed, Cond.selects RX13 yX13_isNamed yX13_isNamed, Cond.code yX13_isNamed cX13_isNamed 9 (some .boolean), Cond.methodLink RX13 328 yJ0_length_8abf5, Cond.instanceMethod yJ0_length_8abf5, Cond.selects RJ0 yJ0_length_8abf5 yJ0_length_8abf5, Cond.initialized RJ0, Cond.code yJ0_length_8abf5 cJ0_length_8abf5 1 (some .int), Cond.fieldLink RJ0 9 "java/lang/String" "value" "[B", Cond.methodLink RJ0 335 yJ0_coder_7d493, Cond.instanceMethod yJ0_coder_7d493, Cond.selects RJ0 yJ0_coder_7d493 yJ0_coder_7d493, Cond.code yJ0_coder_7d493 cJ0_coder_7d493 1 (some .byte)]
def wsX13_run_r5 : List Cond := [Cond.fieldLink RJ0 38 "java/lang/String" "COMPACT_STRINGS" "Z", Cond.fieldLink RJ0 15 "java/lang/String" "coder" "B", Cond.methodLink RX13 334 yJ0_charAt_5068e, Cond.instanceMethod yJ0_charAt_5068e, Cond.selects RJ0 yJ0_charAt_5068e yJ0_charAt_5068e, Cond.code yJ0_charAt_5068e cJ0_charAt_5068e 2 (some .char), Cond.methodLink RJ0 492 yJ0_isLatin1_aae02, Cond.instanceMethod yJ0_isLatin1_aae02, Cond.selects RJ0 yJ0_isLatin1_aae02 yJ0_isLatin1_aae02, Cond.code yJ0_isLatin1_aae02 cJ0_isLatin1_aae02 1 (some .boolean), Cond.methodLink RJ0 495 yJ1_charAt_3b067, Cond.static yJ1_charAt_3b067, Cond.initialized RJ1, Cond.code yJ1_charAt_3b067 cJ1_charAt_3b067 2 (some .char), Cond.methodLink RJ1 9 yJ0_checkIndex_df160, Cond.static yJ0_checkIndex_df160, Cond.code yJ0_checkIndex_df160 cJ0_checkIndex_df160 2 none, Cond.fieldLink RJ0 1053 "jdk/internal/util/Preconditions" "SIOOBE_FORMATTER" "Ljava/util/function/BiFunction;", Cond.methodLink RJ0 1059 yJ3_checkIndex_8e157, Cond.static yJ3_checkIndex_8e157, Cond.initialized RJ3, Cond.code yJ3_checkIndex_8e157 cJ3_checkIndex_8e157 3 (some .int), Cond.methodLink RJ0 498 yJ2_charAt_3b067, Cond.static yJ2_charAt_3b067]
def wsX13_run_r6 : List Cond := [Cond.initialized RJ2, Cond.code yJ2_charAt_3b067 cJ2_charAt_3b067 2 (some .char), Cond.methodLink RJ2 67 yJ2_checkIndex_2214a, Cond.static yJ2_checkIndex_2214a, Cond.code yJ2_checkIndex_2214a cJ2_checkIndex_2214a 2 none, Cond.methodLink RJ2 48 yJ2_length_9d52b, Cond.static yJ2_length_9d52b, Cond.code yJ2_length_9d52b cJ2_length_9d52b 1 (some .int), Cond.methodLink RJ2 414 yJ0_checkIndex_df160, Cond.methodLink RJ2 71 yJ2_getChar_3b067, Cond.static yJ2_getChar_3b067, Cond.code yJ2_getChar_3b067 cJ2_getChar_3b067 2 (some .char), Cond.fieldLink RJ2 44 "java/lang/StringUTF16" "$assertionsDisabled" "Z", Cond.fieldLink RJ2 59 "java/lang/StringUTF16" "HI_BYTE_SHIFT" "I", Cond.fieldLink RJ2 63 "java/lang/StringUTF16" "LO_BYTE_SHIFT" "I", Cond.methodLink RX13 830 yX13_nameAt, Cond.instanceMethod yX13_nameAt, Cond.selects RX13 yX13_nameAt yX13_nameAt, Cond.code yX13_nameAt cX13_nameAt 4 (some .int), Cond.fieldLink RX13 221 "ClassMillModel" "ownClass" "[I", Cond.methodLink RX13 1069 yX13_isOne, Cond.instanceMethod yX13_isOne, Cond.selects RX13 yX13_isOne yX13_isOne, Cond.code yX13_isOne cX13_isOne 3 (some .boolean)]
def wsX13_run_r7 : List Cond := [Cond.methodLink RX13 891 yX13_isUnder, Cond.instanceMethod yX13_isUnder, Cond.selects RX13 yX13_isUnder yX13_isUnder, Cond.code yX13_isUnder cX13_isUnder 5 (some .boolean), Cond.methodLink RX13 873 yX13_superOf, Cond.instanceMethod yX13_superOf, Cond.selects RX13 yX13_superOf yX13_superOf, Cond.code yX13_superOf cX13_superOf 2 (some .int), Cond.fieldLink RX13 224 "ClassMillModel" "ownUpper" "[I", Cond.methodLink RX13 1119 yX13_storesIn, Cond.instanceMethod yX13_storesIn, Cond.selects RX13 yX13_storesIn yX13_storesIn, Cond.code yX13_storesIn cX13_storesIn 3 (some .boolean), Cond.methodLink RX13 1116 yX13_on, Cond.instanceMethod yX13_on, Cond.selects RX13 yX13_on yX13_on, Cond.code yX13_on cX13_on 2 none, Cond.methodLink RX13 1096 yX13_reckon, Cond.static yX13_reckon, Cond.code yX13_reckon cX13_reckon 3 (some .int), Cond.methodLink RX13 1099 yX13_back, Cond.instanceMethod yX13_back, Cond.selects RX13 yX13_back yX13_back, Cond.code yX13_back cX13_back 3 none]
def wsX13_run_r8 : List Cond := [Cond.methodLink RX13 1131 yX13_told, Cond.instanceMethod yX13_told, Cond.selects RX13 yX13_told yX13_told, Cond.code yX13_told cX13_told 2 (some .int), Cond.methodLink RX13 1102 yX13_fieldOf, Cond.instanceMethod yX13_fieldOf, Cond.selects RX13 yX13_fieldOf yX13_fieldOf, Cond.code yX13_fieldOf cX13_fieldOf 8 none, Cond.fieldLink RX13 898 "ClassMillModel" "found" "I", Cond.methodLink RX13 1122 yX13_memberPart, Cond.instanceMethod yX13_memberPart, Cond.selects RX13 yX13_memberPart yX13_memberPart, Cond.code yX13_memberPart cX13_memberPart 4 (some .int), Cond.methodLink RX13 1125 yX13_classIn, Cond.instanceMethod yX13_classIn, Cond.selects RX13 yX13_classIn yX13_classIn, Cond.code yX13_classIn cX13_classIn 3 (some .int), Cond.methodLink RX13 928 yX13_holder, Cond.instanceMethod yX13_holder, Cond.selects RX13 yX13_holder yX13_holder, Cond.code yX13_holder cX13_holder 11 (some .int), Cond.fieldLink RX13 233 "ClassMillModel" "methodMany" "[I", Cond.fieldLink RX13 227 "ClassMillModel" "fieldMany" "[I", Cond.fieldLink RX13 230 "ClassMillModel" "fieldAt" "[I"]
def wsX13_run_r9 : List Cond := [Cond.methodLink RX13 894 yX13_sameText, Cond.instanceMethod yX13_sameText, Cond.selects RX13 yX13_sameText yX13_sameText, Cond.code yX13_sameText cX13_sameText 9 (some .boolean), Cond.methodLink RX13 1128 yX13_fieldsOf, Cond.instanceMethod yX13_fieldsOf, Cond.selects RX13 yX13_fieldsOf yX13_fieldsOf, Cond.code yX13_fieldsOf cX13_fieldsOf 4 (some .int), Cond.methodLink RX13 1106 yX13_call, Cond.instanceMethod yX13_call, Cond.selects RX13 yX13_call yX13_call, Cond.code yX13_call cX13_call 12 none, Cond.methodLink RX13 785 yX13_parametersIn, Cond.static yX13_parametersIn, Cond.code yX13_parametersIn cX13_parametersIn 7 (some .int), Cond.methodLink RX13 778 yX13_kindBytes, Cond.static yX13_kindBytes, Cond.code yX13_kindBytes cX13_kindBytes 5 (some .int), Cond.methodLink RX13 774 yX13_isName, Cond.static yX13_isName, Cond.code yX13_isName cX13_isName 5 (some .boolean), Cond.methodLink RX13 770 yX13_isNamePart, Cond.static yX13_isNamePart, Cond.code yX13_isNamePart cX13_isNamePart 2 (some .boolean)]
def wsX13_run_r10 : List Cond := [Cond.methodLink RX13 345 yX13_isLetter, Cond.static yX13_isLetter, Cond.code yX13_isLetter cX13_isLetter 1 (some .boolean), Cond.methodLink RX13 349 yX13_isDigit, Cond.static yX13_isDigit, Cond.code yX13_isDigit cX13_isDigit 1 (some .boolean), Cond.methodLink RX13 782 yX13_isFieldKind, Cond.static yX13_isFieldKind, Cond.code yX13_isFieldKind cX13_isFieldKind 3 (some .boolean), Cond.methodLink RX13 1061 yX13_enter, Cond.instanceMethod yX13_enter, Cond.selects RX13 yX13_enter yX13_enter, Cond.code yX13_enter cX13_enter 4 none, Cond.methodLink RX13 1109 yX13_fresh_, Cond.instanceMethod yX13_fresh_, Cond.selects RX13 yX13_fresh_ yX13_fresh_, Cond.code yX13_fresh_ cX13_fresh_ 6 none, Cond.methodLink RX13 1111 yX13_is, Cond.instanceMethod yX13_is, Cond.selects RX13 yX13_is yX13_is, Cond.code yX13_is cX13_is 5 (some .boolean), Cond.methodLink RX13 1114 yX13_jumps, Cond.instanceMethod yX13_jumps, Cond.selects RX13 yX13_jumps yX13_jumps]
def wsX13_run_r11 : List Cond := [Cond.code yX13_jumps cX13_jumps 4 (some .boolean)]
def wsX13_run : List Cond := .code yX13_run cX13_run 3 (some .int) :: ((wsX13_run_r1 ++ (wsX13_run_r2 ++ (wsX13_run_r3 ++ (wsX13_run_r4 ++ (wsX13_run_r5 ++ (wsX13_run_r6 ++ (wsX13_run_r7 ++ (wsX13_run_r8 ++ (wsX13_run_r9 ++ (wsX13_run_r10 ++ wsX13_run_r11)))))))))) ++ wsX130)
def wsX13_look : List Cond := .code yX13_look cX13_look 2 (some .int) :: ([.fieldLink RX13 858 "ClassMillModel" "state" "I", .fieldLink RX13 1043 "ClassMillModel" "gave" "I", .fieldLink RX13 1046 "ClassMillModel" "steps" "I", .fieldLink RX13 1049 "ClassMillModel" "objects" "I", .fieldLink RX13 1052 "ClassMillModel" "fieldsMade" "I", .fieldLink RX13 1058 "ClassMillModel" "depth" "I", .fieldLink RX13 1055 "ClassMillModel" "printedMany" "I", .fieldLink RX13 294 "ClassMillModel" "runClass" "[I", .fieldLink RX13 297 "ClassMillModel" "runMethod" "[I", .fieldLink RX13 300 "ClassMillModel" "runPlace" "[I", .fieldLink RX13 303 "ClassMillModel" "runStack" "[I", .fieldLink RX13 833 "ClassMillModel" "there" "I", .fieldLink RX13 855 "ClassMillModel" "verified" "Z", .fieldLink RX13 312 "ClassMillModel" "taped" "I"] ++ wsX130)
def wsX13_out : List Cond := .code yX13_out cX13_out 2 (some .int) :: ([.fieldLink RX13 858 "ClassMillModel" "state" "I", .fieldLink RX13 1055 "ClassMillModel" "printedMany" "I", .fieldLink RX13 291 "ClassMillModel" "printed" "[I"] ++ wsX130)
theorem dX13_end_0 : decode cX13_end 0 = .ok (.iload_n 1, 1) := by decide +kernel
theorem dX13_end_1 : decode cX13_end 1 = .ok (.ifCond .lt 11, 3) := by decide +kernel
theorem dX13_end_4 : decode cX13_end 4 = .ok (.iload_n 1, 1) := by decide +kernel
theorem dX13_end_5 : decode cX13_end 5 = .ok (.aload_n 0, 1) := by decide +kernel
theorem dX13_end_6 : decode cX13_end 6 = .ok (.getfield 312, 3) := by decide +kernel
theorem dX13_end_9 : decode cX13_end 9 = .ok (.if_icmp .le 5, 3) := by decide +kernel
theorem dX13_end_12 : decode cX13_end 12 = .ok (.iconst 0, 1) := by decide +kernel
theorem dX13_end_13 : decode cX13_end 13 = .ok (.ireturn, 1) := by decide +kernel
theorem dX13_end_14 : decode cX13_end 14 = .ok (.aload_n 0, 1) := by decide +kernel
theorem dX13_end_15 : decode cX13_end 15 = .ok (.iload_n 1, 1) := by decide +kernel
theorem dX13_end_16 : decode cX13_end 16 = .ok (.putfield 312, 3) := by decide +kernel
theorem dX13_end_19 : decode cX13_end 19 = .ok (.iconst 1, 1) := by decide +kernel
theorem dX13_end_20 : decode cX13_end 20 = .ok (.ireturn, 1) := by decide +kernel
theorem dX13_fault_0 : decode cX13_fault 0 = .ok (.iload_n 1, 1) := by decide +kernel
theorem dX13_fault_1 : decode cX13_fault 1 = .ok (.ifCond .ne 10, 3) := by decide +kernel
theorem dX13_fault_4 : decode cX13_fault 4 = .ok (.aload_n 0, 1) := by decide +kernel
theorem dX13_fault_5 : decode cX13_fault 5 = .ok (.getfield 319, 3) := by decide +kernel
theorem dX13_fault_8 : decode cX13_fault 8 = .ok (.goto 23, 3) := by decide +kernel
theorem dX13_fault_11 : decode cX13_fault 11 = .ok (.iload_n 1, 1) := by decide +kernel
theorem dX13_fault_12 : decode cX13_fault 12 = .ok (.iconst 1, 1) := by decide +kernel
theorem dX13_fault_13 : decode cX13_fault 13 = .ok (.if_icmp .ne 17, 3) := by decide +kernel
theorem dX13_fault_16 : decode cX13_fault 16 = .ok (.aload_n 0, 1) := by decide +kernel
theorem dX13_fault_17 : decode cX13_fault 17 = .ok (.getfield 319, 3) := by decide +kernel
theorem dX13_fault_20 : decode cX13_fault 20 = .ok (.ifCond .le 10, 3) := by decide +kernel
theorem dX13_fault_30 : decode cX13_fault 30 = .ok (.iconst (-1), 1) := by decide +kernel
theorem dX13_fault_31 : decode cX13_fault 31 = .ok (.ireturn, 1) := by decide +kernel
theorem dX13_image_0 : decode cX13_image 0 = .ok (.iload_n 1, 1) := by decide +kernel
theorem dX13_image_1 : decode cX13_image 1 = .ok (.ifCond .lt 26, 3) := by decide +kernel
theorem dX13_image_4 : decode cX13_image 4 = .ok (.iload_n 1, 1) := by decide +kernel
theorem dX13_image_5 : decode cX13_image 5 = .ok (.aload_n 0, 1) := by decide +kernel
theorem dX13_image_6 : decode cX13_image 6 = .ok (.getfield 761, 3) := by decide +kernel
theorem dX13_image_9 : decode cX13_image 9 = .ok (.if_icmp .ge 18, 3) := by decide +kernel
theorem dX13_image_27 : decode cX13_image 27 = .ok (.iconst (-1), 1) := by decide +kernel
theorem dX13_image_28 : decode cX13_image 28 = .ok (.ireturn, 1) := by decide +kernel
theorem dX13_keep_0 : decode cX13_keep 0 = .ok (.iload_n 1, 1) := by decide +kernel
theorem dX13_keep_1 : decode cX13_keep 1 = .ok (.ifCond .lt 11, 3) := by decide +kernel
theorem dX13_keep_4 : decode cX13_keep 4 = .ok (.iload_n 1, 1) := by decide +kernel
theorem dX13_keep_5 : decode cX13_keep 5 = .ok (.aload_n 0, 1) := by decide +kernel
theorem dX13_keep_6 : decode cX13_keep 6 = .ok (.getfield 761, 3) := by decide +kernel
theorem dX13_keep_9 : decode cX13_keep 9 = .ok (.if_icmp .lt 5, 3) := by decide +kernel
theorem dX13_keep_12 : decode cX13_keep 12 = .ok (.iconst (-1), 1) := by decide +kernel
theorem dX13_keep_13 : decode cX13_keep 13 = .ok (.ireturn, 1) := by decide +kernel
theorem dX13_patch_0 : decode cX13_patch 0 = .ok (.iload_n 1, 1) := by decide +kernel
theorem dX13_patch_1 : decode cX13_patch 1 = .ok (.bipush 8, 2) := by decide +kernel
theorem dX13_patch_3 : decode cX13_patch 3 = .ok (.isub, 1) := by decide +kernel
theorem dX13_patch_4 : decode cX13_patch 4 = .ok (.istore 4, 2) := by decide +kernel
theorem dX13_patch_6 : decode cX13_patch 6 = .ok (.iload 4, 2) := by decide +kernel
theorem dX13_patch_8 : decode cX13_patch 8 = .ok (.ifCond .lt 27, 3) := by decide +kernel
theorem dX13_patch_11 : decode cX13_patch 11 = .ok (.iload 4, 2) := by decide +kernel
theorem dX13_patch_13 : decode cX13_patch 13 = .ok (.aload_n 0, 1) := by decide +kernel
theorem dX13_patch_14 : decode cX13_patch 14 = .ok (.getfield 833, 3) := by decide +kernel
theorem dX13_patch_17 : decode cX13_patch 17 = .ok (.if_icmp .ge 18, 3) := by decide +kernel
theorem dX13_patch_35 : decode cX13_patch 35 = .ok (.iconst 0, 1) := by decide +kernel
theorem dX13_patch_36 : decode cX13_patch 36 = .ok (.ireturn, 1) := by decide +kernel
theorem dX13_verify_0 : decode cX13_verify 0 = .ok (.aload_n 0, 1) := by decide +kernel
theorem dX13_verify_1 : decode cX13_verify 1 = .ok (.iconst 0, 1) := by decide +kernel
theorem dX13_verify_2 : decode cX13_verify 2 = .ok (.putfield 855, 3) := by decide +kernel
theorem dX13_verify_5 : decode cX13_verify 5 = .ok (.aload_n 0, 1) := by decide +kernel
theorem dX13_verify_6 : decode cX13_verify 6 = .ok (.iconst 0, 1) := by decide +kernel
theorem dX13_verify_7 : decode cX13_verify 7 = .ok (.putfield 901, 3) := by decide +kernel
theorem dX13_verify_10 : decode cX13_verify 10 = .ok (.aload_n 0, 1) := by decide +kernel
theorem dX13_verify_11 : decode cX13_verify 11 = .ok (.iconst 0, 1) := by decide +kernel
theorem dX13_verify_12 : decode cX13_verify 12 = .ok (.putfield 876, 3) := by decide +kernel
theorem dX13_verify_15 : decode cX13_verify 15 = .ok (.iconst 1, 1) := by decide +kernel
theorem dX13_verify_16 : decode cX13_verify 16 = .ok (.istore_n 1, 1) := by decide +kernel
theorem dX13_verify_17 : decode cX13_verify 17 = .ok (.bipush 8, 2) := by decide +kernel
theorem dX13_verify_19 : decode cX13_verify 19 = .ok (.istore_n 2, 1) := by decide +kernel
theorem dX13_verify_20 : decode cX13_verify 20 = .ok (.iload_n 2, 1) := by decide +kernel
theorem dX13_verify_21 : decode cX13_verify 21 = .ok (.bipush 8, 2) := by decide +kernel
theorem dX13_verify_23 : decode cX13_verify 23 = .ok (.aload_n 0, 1) := by decide +kernel
theorem dX13_verify_24 : decode cX13_verify 24 = .ok (.getfield 833, 3) := by decide +kernel
theorem dX13_verify_27 : decode cX13_verify 27 = .ok (.iadd, 1) := by decide +kernel
theorem dX13_verify_28 : decode cX13_verify 28 = .ok (.if_icmp .ge 19, 3) := by decide +kernel
theorem dX13_verify_47 : decode cX13_verify 47 = .ok (.bipush 8, 2) := by decide +kernel
theorem dX13_verify_49 : decode cX13_verify 49 = .ok (.istore_n 2, 1) := by decide +kernel
theorem dX13_verify_50 : decode cX13_verify 50 = .ok (.iload_n 2, 1) := by decide +kernel
theorem dX13_verify_51 : decode cX13_verify 51 = .ok (.bipush 8, 2) := by decide +kernel
theorem dX13_verify_53 : decode cX13_verify 53 = .ok (.aload_n 0, 1) := by decide +kernel
theorem dX13_verify_54 : decode cX13_verify 54 = .ok (.getfield 833, 3) := by decide +kernel
theorem dX13_verify_57 : decode cX13_verify 57 = .ok (.iadd, 1) := by decide +kernel
theorem dX13_verify_58 : decode cX13_verify 58 = .ok (.if_icmp .ge 45, 3) := by decide +kernel
theorem dX13_verify_103 : decode cX13_verify 103 = .ok (.aload_n 0, 1) := by decide +kernel
theorem dX13_verify_104 : decode cX13_verify 104 = .ok (.iload_n 1, 1) := by decide +kernel
theorem dX13_verify_105 : decode cX13_verify 105 = .ok (.putfield 855, 3) := by decide +kernel
theorem dX13_verify_108 : decode cX13_verify 108 = .ok (.aload_n 0, 1) := by decide +kernel
theorem dX13_verify_109 : decode cX13_verify 109 = .ok (.getfield 901, 3) := by decide +kernel
theorem dX13_verify_112 : decode cX13_verify 112 = .ok (.ireturn, 1) := by decide +kernel
theorem dX13_where_0 : decode cX13_where 0 = .ok (.iload_n 1, 1) := by decide +kernel
theorem dX13_where_1 : decode cX13_where 1 = .ok (.ifCond .ne 10, 3) := by decide +kernel
theorem dX13_where_4 : decode cX13_where 4 = .ok (.aload_n 0, 1) := by decide +kernel
theorem dX13_where_5 : decode cX13_where 5 = .ok (.getfield 257, 3) := by decide +kernel
theorem dX13_where_8 : decode cX13_where 8 = .ok (.goto 28, 3) := by decide +kernel
theorem dX13_where_11 : decode cX13_where 11 = .ok (.iload_n 1, 1) := by decide +kernel
theorem dX13_where_12 : decode cX13_where 12 = .ok (.iconst 1, 1) := by decide +kernel
theorem dX13_where_13 : decode cX13_where 13 = .ok (.if_icmp .ne 10, 3) := by decide +kernel
theorem dX13_where_16 : decode cX13_where 16 = .ok (.aload_n 0, 1) := by decide +kernel
theorem dX13_where_17 : decode cX13_where 17 = .ok (.getfield 261, 3) := by decide +kernel
theorem dX13_where_20 : decode cX13_where 20 = .ok (.goto 16, 3) := by decide +kernel
theorem dX13_where_23 : decode cX13_where 23 = .ok (.iload_n 1, 1) := by decide +kernel
theorem dX13_where_24 : decode cX13_where 24 = .ok (.iconst 2, 1) := by decide +kernel
theorem dX13_where_25 : decode cX13_where 25 = .ok (.if_icmp .ne 10, 3) := by decide +kernel
theorem dX13_where_28 : decode cX13_where 28 = .ok (.aload_n 0, 1) := by decide +kernel
theorem dX13_where_29 : decode cX13_where 29 = .ok (.getfield 264, 3) := by decide +kernel
theorem dX13_where_32 : decode cX13_where 32 = .ok (.goto 4, 3) := by decide +kernel
theorem dX13_where_35 : decode cX13_where 35 = .ok (.iconst (-1), 1) := by decide +kernel
theorem dX13_where_36 : decode cX13_where 36 = .ok (.ireturn, 1) := by decide +kernel
theorem dX13_start_0 : decode cX13_start 0 = .ok (.iload_n 1, 1) := by decide +kernel
theorem dX13_start_1 : decode cX13_start 1 = .ok (.bipush 8, 2) := by decide +kernel
theorem dX13_start_3 : decode cX13_start 3 = .ok (.isub, 1) := by decide +kernel
theorem dX13_start_4 : decode cX13_start 4 = .ok (.istore_n 3, 1) := by decide +kernel
theorem dX13_start_5 : decode cX13_start 5 = .ok (.aload_n 0, 1) := by decide +kernel
theorem dX13_start_6 : decode cX13_start 6 = .ok (.getfield 855, 3) := by decide +kernel
theorem dX13_start_9 : decode cX13_start 9 = .ok (.ifCond .eq 29, 3) := by decide +kernel
theorem dX13_start_38 : decode cX13_start 38 = .ok (.iconst 0, 1) := by decide +kernel
theorem dX13_start_39 : decode cX13_start 39 = .ok (.ireturn, 1) := by decide +kernel
theorem dX13_run_0 : decode cX13_run 0 = .ok (.iload_n 1, 1) := by decide +kernel
theorem dX13_run_1 : decode cX13_run 1 = .ok (.iconst 1, 1) := by decide +kernel
theorem dX13_run_2 : decode cX13_run 2 = .ok (.if_icmp .lt 10, 3) := by decide +kernel
theorem dX13_run_5 : decode cX13_run 5 = .ok (.iload_n 1, 1) := by decide +kernel
theorem dX13_run_6 : decode cX13_run 6 = .ok (.sipush 20000, 3) := by decide +kernel
theorem dX13_run_9 : decode cX13_run 9 = .ok (.if_icmp .le 5, 3) := by decide +kernel
theorem dX13_run_12 : decode cX13_run 12 = .ok (.iconst (-1), 1) := by decide +kernel
theorem dX13_run_13 : decode cX13_run 13 = .ok (.ireturn, 1) := by decide +kernel
theorem dX13_run_14 : decode cX13_run 14 = .ok (.iconst 0, 1) := by decide +kernel
theorem dX13_run_15 : decode cX13_run 15 = .ok (.istore_n 2, 1) := by decide +kernel
theorem dX13_run_16 : decode cX13_run 16 = .ok (.iload_n 2, 1) := by decide +kernel
theorem dX13_run_17 : decode cX13_run 17 = .ok (.iload_n 1, 1) := by decide +kernel
theorem dX13_run_18 : decode cX13_run 18 = .ok (.if_icmp .ge 21, 3) := by decide +kernel
theorem dX13_run_21 : decode cX13_run 21 = .ok (.aload_n 0, 1) := by decide +kernel
theorem dX13_run_22 : decode cX13_run 22 = .ok (.getfield 858, 3) := by decide +kernel
theorem dX13_run_25 : decode cX13_run 25 = .ok (.iconst 1, 1) := by decide +kernel
theorem dX13_run_26 : decode cX13_run 26 = .ok (.if_icmp .ne 13, 3) := by decide +kernel
theorem dX13_run_39 : decode cX13_run 39 = .ok (.aload_n 0, 1) := by decide +kernel
theorem dX13_run_40 : decode cX13_run 40 = .ok (.dup, 1) := by decide +kernel
theorem dX13_run_41 : decode cX13_run 41 = .ok (.getfield 1046, 3) := by decide +kernel
theorem dX13_run_44 : decode cX13_run 44 = .ok (.iload_n 2, 1) := by decide +kernel
theorem dX13_run_45 : decode cX13_run 45 = .ok (.iadd, 1) := by decide +kernel
theorem dX13_run_46 : decode cX13_run 46 = .ok (.putfield 1046, 3) := by decide +kernel
theorem dX13_run_49 : decode cX13_run 49 = .ok (.iload_n 2, 1) := by decide +kernel
theorem dX13_run_50 : decode cX13_run 50 = .ok (.ireturn, 1) := by decide +kernel
theorem dX13_look_0 : decode cX13_look 0 = .ok (.iload_n 1, 1) := by decide +kernel
theorem dX13_look_1 : decode cX13_look 1 = .ok (.tableswitch 300 0 13 #[71, 76, 101, 117, 133, 149, 165, 181, 205, 229, 253, 277, 282, 295], 71) := by decide +kernel
theorem dX13_look_72 : decode cX13_look 72 = .ok (.aload_n 0, 1) := by decide +kernel
theorem dX13_look_73 : decode cX13_look 73 = .ok (.getfield 858, 3) := by decide +kernel
theorem dX13_look_76 : decode cX13_look 76 = .ok (.ireturn, 1) := by decide +kernel
theorem dX13_look_77 : decode cX13_look 77 = .ok (.aload_n 0, 1) := by decide +kernel
theorem dX13_look_78 : decode cX13_look 78 = .ok (.getfield 858, 3) := by decide +kernel
theorem dX13_look_81 : decode cX13_look 81 = .ok (.iconst 2, 1) := by decide +kernel
theorem dX13_look_82 : decode cX13_look 82 = .ok (.if_icmp .eq 11, 3) := by decide +kernel
theorem dX13_look_85 : decode cX13_look 85 = .ok (.aload_n 0, 1) := by decide +kernel
theorem dX13_look_86 : decode cX13_look 86 = .ok (.getfield 858, 3) := by decide +kernel
theorem dX13_look_89 : decode cX13_look 89 = .ok (.iconst 3, 1) := by decide +kernel
theorem dX13_look_90 : decode cX13_look 90 = .ok (.if_icmp .ne 10, 3) := by decide +kernel
theorem dX13_look_100 : decode cX13_look 100 = .ok (.iconst (-1), 1) := by decide +kernel
theorem dX13_look_101 : decode cX13_look 101 = .ok (.ireturn, 1) := by decide +kernel
theorem dX13_look_102 : decode cX13_look 102 = .ok (.aload_n 0, 1) := by decide +kernel
theorem dX13_look_103 : decode cX13_look 103 = .ok (.getfield 858, 3) := by decide +kernel
theorem dX13_look_106 : decode cX13_look 106 = .ok (.ifCond .ne 7, 3) := by decide +kernel
theorem dX13_look_109 : decode cX13_look 109 = .ok (.iconst 0, 1) := by decide +kernel
theorem dX13_look_110 : decode cX13_look 110 = .ok (.goto 7, 3) := by decide +kernel
theorem dX13_look_117 : decode cX13_look 117 = .ok (.ireturn, 1) := by decide +kernel
theorem dX13_look_118 : decode cX13_look 118 = .ok (.aload_n 0, 1) := by decide +kernel
theorem dX13_look_119 : decode cX13_look 119 = .ok (.getfield 858, 3) := by decide +kernel
theorem dX13_look_122 : decode cX13_look 122 = .ok (.ifCond .ne 7, 3) := by decide +kernel
theorem dX13_look_125 : decode cX13_look 125 = .ok (.iconst 0, 1) := by decide +kernel
theorem dX13_look_126 : decode cX13_look 126 = .ok (.goto 7, 3) := by decide +kernel
theorem dX13_look_133 : decode cX13_look 133 = .ok (.ireturn, 1) := by decide +kernel
theorem dX13_look_134 : decode cX13_look 134 = .ok (.aload_n 0, 1) := by decide +kernel
theorem dX13_look_135 : decode cX13_look 135 = .ok (.getfield 858, 3) := by decide +kernel
theorem dX13_look_138 : decode cX13_look 138 = .ok (.ifCond .ne 7, 3) := by decide +kernel
theorem dX13_look_141 : decode cX13_look 141 = .ok (.iconst 0, 1) := by decide +kernel
theorem dX13_look_142 : decode cX13_look 142 = .ok (.goto 7, 3) := by decide +kernel
theorem dX13_look_149 : decode cX13_look 149 = .ok (.ireturn, 1) := by decide +kernel
theorem dX13_look_150 : decode cX13_look 150 = .ok (.aload_n 0, 1) := by decide +kernel
theorem dX13_look_151 : decode cX13_look 151 = .ok (.getfield 858, 3) := by decide +kernel
theorem dX13_look_154 : decode cX13_look 154 = .ok (.ifCond .ne 7, 3) := by decide +kernel
theorem dX13_look_157 : decode cX13_look 157 = .ok (.iconst 0, 1) := by decide +kernel
theorem dX13_look_158 : decode cX13_look 158 = .ok (.goto 7, 3) := by decide +kernel
theorem dX13_look_165 : decode cX13_look 165 = .ok (.ireturn, 1) := by decide +kernel
theorem dX13_look_166 : decode cX13_look 166 = .ok (.aload_n 0, 1) := by decide +kernel
theorem dX13_look_167 : decode cX13_look 167 = .ok (.getfield 858, 3) := by decide +kernel
theorem dX13_look_170 : decode cX13_look 170 = .ok (.ifCond .ne 7, 3) := by decide +kernel
theorem dX13_look_173 : decode cX13_look 173 = .ok (.iconst 0, 1) := by decide +kernel
theorem dX13_look_174 : decode cX13_look 174 = .ok (.goto 7, 3) := by decide +kernel
theorem dX13_look_181 : decode cX13_look 181 = .ok (.ireturn, 1) := by decide +kernel
theorem dX13_look_182 : decode cX13_look 182 = .ok (.aload_n 0, 1) := by decide +kernel
theorem dX13_look_183 : decode cX13_look 183 = .ok (.getfield 858, 3) := by decide +kernel
theorem dX13_look_186 : decode cX13_look 186 = .ok (.iconst 1, 1) := by decide +kernel
theorem dX13_look_187 : decode cX13_look 187 = .ok (.if_icmp .ne 17, 3) := by decide +kernel
theorem dX13_look_204 : decode cX13_look 204 = .ok (.iconst (-1), 1) := by decide +kernel
theorem dX13_look_205 : decode cX13_look 205 = .ok (.ireturn, 1) := by decide +kernel
theorem dX13_look_206 : decode cX13_look 206 = .ok (.aload_n 0, 1) := by decide +kernel
theorem dX13_look_207 : decode cX13_look 207 = .ok (.getfield 858, 3) := by decide +kernel
theorem dX13_look_210 : decode cX13_look 210 = .ok (.iconst 1, 1) := by decide +kernel
theorem dX13_look_211 : decode cX13_look 211 = .ok (.if_icmp .ne 17, 3) := by decide +kernel
theorem dX13_look_228 : decode cX13_look 228 = .ok (.iconst (-1), 1) := by decide +kernel
theorem dX13_look_229 : decode cX13_look 229 = .ok (.ireturn, 1) := by decide +kernel
theorem dX13_look_230 : decode cX13_look 230 = .ok (.aload_n 0, 1) := by decide +kernel
theorem dX13_look_231 : decode cX13_look 231 = .ok (.getfield 858, 3) := by decide +kernel
theorem dX13_look_234 : decode cX13_look 234 = .ok (.iconst 1, 1) := by decide +kernel
theorem dX13_look_235 : decode cX13_look 235 = .ok (.if_icmp .ne 17, 3) := by decide +kernel
theorem dX13_look_252 : decode cX13_look 252 = .ok (.iconst (-1), 1) := by decide +kernel
theorem dX13_look_253 : decode cX13_look 253 = .ok (.ireturn, 1) := by decide +kernel
theorem dX13_look_254 : decode cX13_look 254 = .ok (.aload_n 0, 1) := by decide +kernel
theorem dX13_look_255 : decode cX13_look 255 = .ok (.getfield 858, 3) := by decide +kernel
theorem dX13_look_258 : decode cX13_look 258 = .ok (.iconst 1, 1) := by decide +kernel
theorem dX13_look_259 : decode cX13_look 259 = .ok (.if_icmp .ne 17, 3) := by decide +kernel
theorem dX13_look_276 : decode cX13_look 276 = .ok (.iconst (-1), 1) := by decide +kernel
theorem dX13_look_277 : decode cX13_look 277 = .ok (.ireturn, 1) := by decide +kernel
theorem dX13_look_278 : decode cX13_look 278 = .ok (.aload_n 0, 1) := by decide +kernel
theorem dX13_look_279 : decode cX13_look 279 = .ok (.getfield 833, 3) := by decide +kernel
theorem dX13_look_282 : decode cX13_look 282 = .ok (.ireturn, 1) := by decide +kernel
theorem dX13_look_283 : decode cX13_look 283 = .ok (.aload_n 0, 1) := by decide +kernel
theorem dX13_look_284 : decode cX13_look 284 = .ok (.getfield 855, 3) := by decide +kernel
theorem dX13_look_287 : decode cX13_look 287 = .ok (.ifCond .eq 7, 3) := by decide +kernel
theorem dX13_look_294 : decode cX13_look 294 = .ok (.iconst 0, 1) := by decide +kernel
theorem dX13_look_295 : decode cX13_look 295 = .ok (.ireturn, 1) := by decide +kernel
theorem dX13_look_296 : decode cX13_look 296 = .ok (.aload_n 0, 1) := by decide +kernel
theorem dX13_look_297 : decode cX13_look 297 = .ok (.getfield 312, 3) := by decide +kernel
theorem dX13_look_300 : decode cX13_look 300 = .ok (.ireturn, 1) := by decide +kernel
theorem dX13_look_301 : decode cX13_look 301 = .ok (.iconst (-1), 1) := by decide +kernel
theorem dX13_look_302 : decode cX13_look 302 = .ok (.ireturn, 1) := by decide +kernel
theorem dX13_out_0 : decode cX13_out 0 = .ok (.aload_n 0, 1) := by decide +kernel
theorem dX13_out_1 : decode cX13_out 1 = .ok (.getfield 858, 3) := by decide +kernel
theorem dX13_out_4 : decode cX13_out 4 = .ok (.ifCond .le 31, 3) := by decide +kernel
theorem dX13_out_35 : decode cX13_out 35 = .ok (.iconst 0, 1) := by decide +kernel
theorem dX13_out_36 : decode cX13_out 36 = .ok (.ireturn, 1) := by decide +kernel
theorem uX13_end_X13 : ∀ w ∈ u_ws RX13 TX13 155, w ∈ wsX13_end := fun w h => List.mem_cons_of_mem _ (List.mem_append_right _ h)
theorem uX13_fault_X13 : ∀ w ∈ u_ws RX13 TX13 155, w ∈ wsX13_fault := fun w h => List.mem_cons_of_mem _ (List.mem_append_right _ h)
set_option maxRecDepth 20000 in
theorem uX13_image_X13 : ∀ w ∈ u_ws RX13 TX13 155, w ∈ wsX13_image := by decide +kernel
theorem uX13_keep_X13 : ∀ w ∈ u_ws RX13 TX13 155, w ∈ wsX13_keep := fun w h => List.mem_cons_of_mem _ (List.mem_append_right _ h)
set_option maxRecDepth 20000 in
theorem uX13_look_X13 : ∀ w ∈ u_ws RX13 TX13 155, w ∈ wsX13_look := by decide +kernel
set_option maxRecDepth 20000 in
theorem uX13_out_X13 : ∀ w ∈ u_ws RX13 TX13 155, w ∈ wsX13_out := by decide +kernel
theorem uX13_patch_X13 : ∀ w ∈ u_ws RX13 TX13 155, w ∈ wsX13_patch := fun w h => List.mem_cons_of_mem _ (List.mem_append_right _ h)
theorem uX13_run_X13 : ∀ w ∈ u_ws RX13 TX13 155, w ∈ wsX13_run := fun w h => List.mem_cons_of_mem _ (List.mem_append_right _ h)
theorem uX13_start_X13 : ∀ w ∈ u_ws RX13 TX13 155, w ∈ wsX13_start := fun w h => List.mem_cons_of_mem _ (List.mem_append_right _ h)
theorem uX13_verify_X13 : ∀ w ∈ u_ws RX13 TX13 155, w ∈ wsX13_verify := fun w h => List.mem_cons_of_mem _ (List.mem_append_right _ h)
theorem uX13_where_X13 : ∀ w ∈ u_ws RX13 TX13 155, w ∈ wsX13_where := fun w h => List.mem_cons_of_mem _ (List.mem_append_right _ h)
