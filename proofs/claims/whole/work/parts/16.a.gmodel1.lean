abbrev cX13_wrong : ByteArray := prog_15_method_6_code
def yX13_wrong : MethodName := ⟨RX13, "wrong", "(II)V"⟩
abbrev cX13_isLetter : ByteArray := prog_15_method_7_code
def yX13_isLetter : MethodName := ⟨RX13, "isLetter", "(I)Z"⟩
abbrev cX13_isDigit : ByteArray := prog_15_method_8_code
def yX13_isDigit : MethodName := ⟨RX13, "isDigit", "(I)Z"⟩
abbrev cX13_at : ByteArray := prog_15_method_9_code
def yX13_at : MethodName := ⟨RX13, "at", "(I)I"⟩
abbrev cX13_token : ByteArray := prog_15_method_11_code
def yX13_token : MethodName := ⟨RX13, "token", "(IIII)V"⟩
abbrev cX13_sign : ByteArray := prog_15_method_15_code
def yX13_sign : MethodName := ⟨RX13, "sign", "(III)I"⟩
abbrev cX13_isSign : ByteArray := prog_15_method_16_code
def yX13_isSign : MethodName := ⟨RX13, "isSign", "(II)Z"⟩
abbrev cX13_isWord : ByteArray := prog_15_method_17_code
def yX13_isWord : MethodName := ⟨RX13, "isWord", "(II)Z"⟩
abbrev cX13_misplaced : ByteArray := prog_15_method_18_code
def yX13_misplaced : MethodName := ⟨RX13, "misplaced", "()V"⟩
abbrev cX13_sign_ : ByteArray := prog_15_method_19_code
def yX13_sign_ : MethodName := ⟨RX13, "sign", "(I)V"⟩
abbrev cX13_word : ByteArray := prog_15_method_20_code
def yX13_word : MethodName := ⟨RX13, "word", "(I)V"⟩
abbrev cX13_name : ByteArray := prog_15_method_21_code
def yX13_name : MethodName := ⟨RX13, "name", "()I"⟩
abbrev cX13_isDeep : ByteArray := prog_15_method_22_code
def yX13_isDeep : MethodName := ⟨RX13, "isDeep", "(I)Z"⟩
abbrev cX13_upperOf : ByteArray := prog_15_method_41_code
def yX13_upperOf : MethodName := ⟨RX13, "upperOf", "(I)I"⟩
abbrev cX13_isArray : ByteArray := prog_15_method_43_code
def yX13_isArray : MethodName := ⟨RX13, "isArray", "(I)Z"⟩
abbrev cX13_isThing : ByteArray := prog_15_method_44_code
def yX13_isThing : MethodName := ⟨RX13, "isThing", "(I)Z"⟩
abbrev cX13_local : ByteArray := prog_15_method_52_code
def yX13_local : MethodName := ⟨RX13, "local", "(I)I"⟩
abbrev cX13_come : ByteArray := prog_15_method_54_code
def yX13_come : MethodName := ⟨RX13, "come", "(II)V"⟩
abbrev cX13_canTake : ByteArray := prog_15_method_57_code
def yX13_canTake : MethodName := ⟨RX13, "canTake", "(I)Z"⟩
abbrev cX13_side : ByteArray := prog_15_method_62_code
def yX13_side : MethodName := ⟨RX13, "side", "(II)I"⟩
abbrev cX13_led : ByteArray := prog_15_method_63_code
def yX13_led : MethodName := ⟨RX13, "led", "(I)I"⟩
abbrev cX13_spell : ByteArray := prog_15_method_71_code
def yX13_spell : MethodName := ⟨RX13, "spell", "(I)V"⟩
abbrev cX13_put : ByteArray := prog_15_method_81_code
def yX13_put : MethodName := ⟨RX13, "put", "(I)V"⟩
abbrev cX13_push : ByteArray := prog_15_method_82_code
def yX13_push : MethodName := ⟨RX13, "push", "(I)V"⟩
abbrev cX13_turn : ByteArray := prog_15_method_83_code
def yX13_turn : MethodName := ⟨RX13, "turn", "(II)V"⟩
abbrev cX13_jump : ByteArray := prog_15_method_84_code
def yX13_jump : MethodName := ⟨RX13, "jump", "(II)V"⟩
abbrev cX13_label : ByteArray := prog_15_method_88_code
def yX13_label : MethodName := ⟨RX13, "label", "()I"⟩
abbrev cX13_comes : ByteArray := prog_15_method_89_code
def yX13_comes : MethodName := ⟨RX13, "comes", "(II)V"⟩
abbrev cX13_store : ByteArray := prog_15_method_90_code
def yX13_store : MethodName := ⟨RX13, "store", "(II)V"⟩
abbrev cX13_self : ByteArray := prog_15_method_95_code
def yX13_self : MethodName := ⟨RX13, "self", "()V"⟩
abbrev cX13_isLedInWords : ByteArray := prog_15_method_97_code
def yX13_isLedInWords : MethodName := ⟨RX13, "isLedInWords", "(I)Z"⟩
abbrev cX13_tell : ByteArray := prog_15_method_104_code
def yX13_tell : MethodName := ⟨RX13, "tell", "(I)V"⟩
abbrev cX13_tellPair : ByteArray := prog_15_method_105_code
def yX13_tellPair : MethodName := ⟨RX13, "tellPair", "(I)V"⟩
abbrev cX13_image : ByteArray := prog_15_method_112_code
def yX13_image : MethodName := ⟨RX13, "image", "(II)I"⟩
abbrev cX13_isByte : ByteArray := prog_15_method_113_code
def yX13_isByte : MethodName := ⟨RX13, "isByte", "(I)Z"⟩
abbrev cX13_unfit : ByteArray := prog_15_method_114_code
def yX13_unfit : MethodName := ⟨RX13, "unfit", "(I)V"⟩
abbrev cX13_constantOf : ByteArray := prog_15_method_115_code
def yX13_constantOf : MethodName := ⟨RX13, "constantOf", "(II)I"⟩
abbrev cX13_isNamePart : ByteArray := prog_15_method_116_code
def yX13_isNamePart : MethodName := ⟨RX13, "isNamePart", "(IZ)Z"⟩
abbrev cX13_pairAt : ByteArray := prog_15_method_125_code
def yX13_pairAt : MethodName := ⟨RX13, "pairAt", "(I)I"⟩
abbrev cX13_nameAt : ByteArray := prog_15_method_134_code
def yX13_nameAt : MethodName := ⟨RX13, "nameAt", "(I)I"⟩
abbrev cX13_byteAt : ByteArray := prog_15_method_144_code
def yX13_byteAt : MethodName := ⟨RX13, "byteAt", "(II)I"⟩
abbrev cX13_textOfClass : ByteArray := prog_15_method_146_code
def yX13_textOfClass : MethodName := ⟨RX13, "textOfClass", "(II)I"⟩
abbrev cX13_isRow : ByteArray := prog_15_method_153_code
def yX13_isRow : MethodName := ⟨RX13, "isRow", "(I)Z"⟩
abbrev cX13_isThere : ByteArray := prog_15_method_156_code
def yX13_isThere : MethodName := ⟨RX13, "isThere", "(I)Z"⟩
abbrev cX13_nameText : ByteArray := prog_15_method_158_code
def yX13_nameText : MethodName := ⟨RX13, "nameText", "(IIZ)I"⟩
abbrev cX13_kindText : ByteArray := prog_15_method_159_code
def yX13_kindText : MethodName := ⟨RX13, "kindText", "(IIZ)I"⟩
abbrev cX13_bad : ByteArray := prog_15_method_160_code
def yX13_bad : MethodName := ⟨RX13, "bad", "(IIII)Z"⟩
abbrev cX13_widthOf : ByteArray := prog_15_method_165_code
def yX13_widthOf : MethodName := ⟨RX13, "widthOf", "(I)I"⟩
abbrev cX13_isJump : ByteArray := prog_15_method_166_code
def yX13_isJump : MethodName := ⟨RX13, "isJump", "(I)Z"⟩
abbrev cX13_code : ByteArray := prog_15_method_167_code
def yX13_code : MethodName := ⟨RX13, "code", "(I)I"⟩
abbrev cX13_aimOf : ByteArray := prog_15_method_168_code
def yX13_aimOf : MethodName := ⟨RX13, "aimOf", "(I)I"⟩
abbrev cX13_pairIn : ByteArray := prog_15_method_169_code
def yX13_pairIn : MethodName := ⟨RX13, "pairIn", "(I)I"⟩
abbrev cX13_frameMany : ByteArray := prog_15_method_172_code
def yX13_frameMany : MethodName := ⟨RX13, "frameMany", "()I"⟩
abbrev cX13_sortOf : ByteArray := prog_15_method_184_code
def yX13_sortOf : MethodName := ⟨RX13, "sortOf", "(I)I"⟩
abbrev cX13_partOf : ByteArray := prog_15_method_185_code
def yX13_partOf : MethodName := ⟨RX13, "partOf", "(II)I"⟩
abbrev cX13_comesBack : ByteArray := prog_15_method_187_code
def yX13_comesBack : MethodName := ⟨RX13, "comesBack", "(I)Z"⟩
abbrev cX13_pull : ByteArray := prog_15_method_188_code
def yX13_pull : MethodName := ⟨RX13, "pull", "()I"⟩
abbrev cX13_pullThing : ByteArray := prog_15_method_191_code
def yX13_pullThing : MethodName := ⟨RX13, "pullThing", "()Z"⟩
abbrev cX13_give : ByteArray := prog_15_method_196_code
def yX13_give : MethodName := ⟨RX13, "give", "(I)V"⟩
abbrev cX13_drop : ByteArray := prog_15_method_197_code
def yX13_drop : MethodName := ⟨RX13, "drop", "()I"⟩
abbrev cX13_opAt : ByteArray := prog_15_method_204_code
def yX13_opAt : MethodName := ⟨RX13, "opAt", "(I)I"⟩
abbrev cX13_on : ByteArray := prog_15_method_205_code
def yX13_on : MethodName := ⟨RX13, "on", "(I)V"⟩
abbrev cX13_cell : ByteArray := prog_15_method_206_code
def yX13_cell : MethodName := ⟨RX13, "cell", "(I)I"⟩
abbrev cX13_memberPart : ByteArray := prog_15_method_214_code
def yX13_memberPart : MethodName := ⟨RX13, "memberPart", "(II)I"⟩
abbrev cX13_told : ByteArray := prog_15_method_218_code
def yX13_told : MethodName := ⟨RX13, "told", "(I)I"⟩
theorem dX13_wrong_0 : decode cX13_wrong 0 = .ok (.aload_n 0, 1) := by decide +kernel
theorem dX13_wrong_1 : decode cX13_wrong 1 = .ok (.getfield 319, 3) := by decide +kernel
theorem dX13_wrong_4 : decode cX13_wrong 4 = .ok (.ifCond .eq 4, 3) := by decide +kernel
theorem dX13_wrong_7 : decode cX13_wrong 7 = .ok (.return_, 1) := by decide +kernel
theorem dX13_wrong_8 : decode cX13_wrong 8 = .ok (.aload_n 0, 1) := by decide +kernel
theorem dX13_wrong_9 : decode cX13_wrong 9 = .ok (.iload_n 1, 1) := by decide +kernel
theorem dX13_wrong_10 : decode cX13_wrong 10 = .ok (.putfield 319, 3) := by decide +kernel
theorem dX13_wrong_13 : decode cX13_wrong 13 = .ok (.aload_n 0, 1) := by decide +kernel
theorem dX13_wrong_14 : decode cX13_wrong 14 = .ok (.aload_n 0, 1) := by decide +kernel
theorem dX13_wrong_15 : decode cX13_wrong 15 = .ok (.getfield 19, 3) := by decide +kernel
theorem dX13_wrong_18 : decode cX13_wrong 18 = .ok (.iload_n 2, 1) := by decide +kernel
theorem dX13_wrong_19 : decode cX13_wrong 19 = .ok (.iaload, 1) := by decide +kernel
theorem dX13_wrong_20 : decode cX13_wrong 20 = .ok (.putfield 322, 3) := by decide +kernel
theorem dX13_wrong_23 : decode cX13_wrong 23 = .ok (.return_, 1) := by decide +kernel
theorem dX13_isLetter_0 : decode cX13_isLetter 0 = .ok (.iload_n 0, 1) := by decide +kernel
theorem dX13_isLetter_1 : decode cX13_isLetter 1 = .ok (.bipush 97, 2) := by decide +kernel
theorem dX13_isLetter_3 : decode cX13_isLetter 3 = .ok (.if_icmp .lt 9, 3) := by decide +kernel
theorem dX13_isLetter_6 : decode cX13_isLetter 6 = .ok (.iload_n 0, 1) := by decide +kernel
theorem dX13_isLetter_7 : decode cX13_isLetter 7 = .ok (.bipush 122, 2) := by decide +kernel
theorem dX13_isLetter_9 : decode cX13_isLetter 9 = .ok (.if_icmp .le 15, 3) := by decide +kernel
theorem dX13_isLetter_12 : decode cX13_isLetter 12 = .ok (.iload_n 0, 1) := by decide +kernel
theorem dX13_isLetter_13 : decode cX13_isLetter 13 = .ok (.bipush 65, 2) := by decide +kernel
theorem dX13_isLetter_15 : decode cX13_isLetter 15 = .ok (.if_icmp .lt 13, 3) := by decide +kernel
theorem dX13_isLetter_18 : decode cX13_isLetter 18 = .ok (.iload_n 0, 1) := by decide +kernel
theorem dX13_isLetter_19 : decode cX13_isLetter 19 = .ok (.bipush 90, 2) := by decide +kernel
theorem dX13_isLetter_21 : decode cX13_isLetter 21 = .ok (.if_icmp .gt 7, 3) := by decide +kernel
theorem dX13_isLetter_24 : decode cX13_isLetter 24 = .ok (.iconst 1, 1) := by decide +kernel
theorem dX13_isLetter_25 : decode cX13_isLetter 25 = .ok (.goto 4, 3) := by decide +kernel
theorem dX13_isLetter_28 : decode cX13_isLetter 28 = .ok (.iconst 0, 1) := by decide +kernel
theorem dX13_isLetter_29 : decode cX13_isLetter 29 = .ok (.ireturn, 1) := by decide +kernel
theorem dX13_isDigit_0 : decode cX13_isDigit 0 = .ok (.iload_n 0, 1) := by decide +kernel
theorem dX13_isDigit_1 : decode cX13_isDigit 1 = .ok (.bipush 48, 2) := by decide +kernel
theorem dX13_isDigit_3 : decode cX13_isDigit 3 = .ok (.if_icmp .lt 13, 3) := by decide +kernel
theorem dX13_isDigit_6 : decode cX13_isDigit 6 = .ok (.iload_n 0, 1) := by decide +kernel
theorem dX13_isDigit_7 : decode cX13_isDigit 7 = .ok (.bipush 57, 2) := by decide +kernel
theorem dX13_isDigit_9 : decode cX13_isDigit 9 = .ok (.if_icmp .gt 7, 3) := by decide +kernel
theorem dX13_isDigit_12 : decode cX13_isDigit 12 = .ok (.iconst 1, 1) := by decide +kernel
theorem dX13_isDigit_13 : decode cX13_isDigit 13 = .ok (.goto 4, 3) := by decide +kernel
theorem dX13_isDigit_16 : decode cX13_isDigit 16 = .ok (.iconst 0, 1) := by decide +kernel
theorem dX13_isDigit_17 : decode cX13_isDigit 17 = .ok (.ireturn, 1) := by decide +kernel
theorem dX13_at_0 : decode cX13_at 0 = .ok (.iload_n 1, 1) := by decide +kernel
theorem dX13_at_1 : decode cX13_at 1 = .ok (.aload_n 0, 1) := by decide +kernel
theorem dX13_at_2 : decode cX13_at 2 = .ok (.getfield 325, 3) := by decide +kernel
theorem dX13_at_5 : decode cX13_at 5 = .ok (.if_icmp .ge 12, 3) := by decide +kernel
theorem dX13_at_8 : decode cX13_at 8 = .ok (.aload_n 0, 1) := by decide +kernel
theorem dX13_at_9 : decode cX13_at 9 = .ok (.getfield 13, 3) := by decide +kernel
theorem dX13_at_12 : decode cX13_at 12 = .ok (.iload_n 1, 1) := by decide +kernel
theorem dX13_at_13 : decode cX13_at 13 = .ok (.iaload, 1) := by decide +kernel
theorem dX13_at_14 : decode cX13_at 14 = .ok (.goto 4, 3) := by decide +kernel
theorem dX13_at_17 : decode cX13_at 17 = .ok (.iconst 0, 1) := by decide +kernel
theorem dX13_at_18 : decode cX13_at 18 = .ok (.ireturn, 1) := by decide +kernel
theorem dX13_token_0 : decode cX13_token 0 = .ok (.aload_n 0, 1) := by decide +kernel
theorem dX13_token_1 : decode cX13_token 1 = .ok (.getfield 16, 3) := by decide +kernel
theorem dX13_token_4 : decode cX13_token 4 = .ok (.aload_n 0, 1) := by decide +kernel
theorem dX13_token_5 : decode cX13_token 5 = .ok (.getfield 338, 3) := by decide +kernel
theorem dX13_token_8 : decode cX13_token 8 = .ok (.iload_n 1, 1) := by decide +kernel
theorem dX13_token_9 : decode cX13_token 9 = .ok (.iastore, 1) := by decide +kernel
theorem dX13_token_10 : decode cX13_token 10 = .ok (.aload_n 0, 1) := by decide +kernel
theorem dX13_token_11 : decode cX13_token 11 = .ok (.getfield 19, 3) := by decide +kernel
theorem dX13_token_14 : decode cX13_token 14 = .ok (.aload_n 0, 1) := by decide +kernel
theorem dX13_token_15 : decode cX13_token 15 = .ok (.getfield 338, 3) := by decide +kernel
theorem dX13_token_18 : decode cX13_token 18 = .ok (.iload_n 2, 1) := by decide +kernel
theorem dX13_token_19 : decode cX13_token 19 = .ok (.iastore, 1) := by decide +kernel
theorem dX13_token_20 : decode cX13_token 20 = .ok (.aload_n 0, 1) := by decide +kernel
theorem dX13_token_21 : decode cX13_token 21 = .ok (.getfield 22, 3) := by decide +kernel
theorem dX13_token_24 : decode cX13_token 24 = .ok (.aload_n 0, 1) := by decide +kernel
theorem dX13_token_25 : decode cX13_token 25 = .ok (.getfield 338, 3) := by decide +kernel
theorem dX13_token_28 : decode cX13_token 28 = .ok (.iload_n 3, 1) := by decide +kernel
theorem dX13_token_29 : decode cX13_token 29 = .ok (.iastore, 1) := by decide +kernel
theorem dX13_token_30 : decode cX13_token 30 = .ok (.aload_n 0, 1) := by decide +kernel
theorem dX13_token_31 : decode cX13_token 31 = .ok (.getfield 25, 3) := by decide +kernel
theorem dX13_token_34 : decode cX13_token 34 = .ok (.aload_n 0, 1) := by decide +kernel
theorem dX13_token_35 : decode cX13_token 35 = .ok (.getfield 338, 3) := by decide +kernel
theorem dX13_token_38 : decode cX13_token 38 = .ok (.iload 4, 2) := by decide +kernel
theorem dX13_token_40 : decode cX13_token 40 = .ok (.iastore, 1) := by decide +kernel
theorem dX13_token_41 : decode cX13_token 41 = .ok (.aload_n 0, 1) := by decide +kernel
theorem dX13_token_42 : decode cX13_token 42 = .ok (.dup, 1) := by decide +kernel
theorem dX13_token_43 : decode cX13_token 43 = .ok (.getfield 338, 3) := by decide +kernel
theorem dX13_token_46 : decode cX13_token 46 = .ok (.iconst 1, 1) := by decide +kernel
theorem dX13_token_47 : decode cX13_token 47 = .ok (.iadd, 1) := by decide +kernel
theorem dX13_token_48 : decode cX13_token 48 = .ok (.putfield 338, 3) := by decide +kernel
theorem dX13_token_51 : decode cX13_token 51 = .ok (.return_, 1) := by decide +kernel
theorem dX13_sign_0 : decode cX13_sign 0 = .ok (.iload_n 0, 1) := by decide +kernel
theorem dX13_sign_1 : decode cX13_sign 1 = .ok (.sipush 128, 3) := by decide +kernel
theorem dX13_sign_4 : decode cX13_sign 4 = .ok (.imul, 1) := by decide +kernel
theorem dX13_sign_5 : decode cX13_sign 5 = .ok (.iload_n 1, 1) := by decide +kernel
theorem dX13_sign_6 : decode cX13_sign 6 = .ok (.iadd, 1) := by decide +kernel
theorem dX13_sign_7 : decode cX13_sign 7 = .ok (.sipush 128, 3) := by decide +kernel
theorem dX13_sign_10 : decode cX13_sign 10 = .ok (.imul, 1) := by decide +kernel
theorem dX13_sign_11 : decode cX13_sign 11 = .ok (.iload_n 2, 1) := by decide +kernel
theorem dX13_sign_12 : decode cX13_sign 12 = .ok (.iadd, 1) := by decide +kernel
theorem dX13_sign_13 : decode cX13_sign 13 = .ok (.ireturn, 1) := by decide +kernel
theorem dX13_isSign_0 : decode cX13_isSign 0 = .ok (.aload_n 0, 1) := by decide +kernel
theorem dX13_isSign_1 : decode cX13_isSign 1 = .ok (.getfield 16, 3) := by decide +kernel
theorem dX13_isSign_4 : decode cX13_isSign 4 = .ok (.iload_n 1, 1) := by decide +kernel
theorem dX13_isSign_5 : decode cX13_isSign 5 = .ok (.iaload, 1) := by decide +kernel
theorem dX13_isSign_6 : decode cX13_isSign 6 = .ok (.iconst 4, 1) := by decide +kernel
theorem dX13_isSign_7 : decode cX13_isSign 7 = .ok (.if_icmp .ne 17, 3) := by decide +kernel
theorem dX13_isSign_10 : decode cX13_isSign 10 = .ok (.aload_n 0, 1) := by decide +kernel
theorem dX13_isSign_11 : decode cX13_isSign 11 = .ok (.getfield 25, 3) := by decide +kernel
theorem dX13_isSign_14 : decode cX13_isSign 14 = .ok (.iload_n 1, 1) := by decide +kernel
theorem dX13_isSign_15 : decode cX13_isSign 15 = .ok (.iaload, 1) := by decide +kernel
theorem dX13_isSign_16 : decode cX13_isSign 16 = .ok (.iload_n 2, 1) := by decide +kernel
theorem dX13_isSign_17 : decode cX13_isSign 17 = .ok (.if_icmp .ne 7, 3) := by decide +kernel
theorem dX13_isSign_20 : decode cX13_isSign 20 = .ok (.iconst 1, 1) := by decide +kernel
theorem dX13_isSign_21 : decode cX13_isSign 21 = .ok (.goto 4, 3) := by decide +kernel
theorem dX13_isSign_24 : decode cX13_isSign 24 = .ok (.iconst 0, 1) := by decide +kernel
theorem dX13_isSign_25 : decode cX13_isSign 25 = .ok (.ireturn, 1) := by decide +kernel
theorem dX13_isWord_0 : decode cX13_isWord 0 = .ok (.aload_n 0, 1) := by decide +kernel
theorem dX13_isWord_1 : decode cX13_isWord 1 = .ok (.getfield 16, 3) := by decide +kernel
theorem dX13_isWord_4 : decode cX13_isWord 4 = .ok (.iload_n 1, 1) := by decide +kernel
theorem dX13_isWord_5 : decode cX13_isWord 5 = .ok (.iaload, 1) := by decide +kernel
theorem dX13_isWord_6 : decode cX13_isWord 6 = .ok (.iconst 3, 1) := by decide +kernel
theorem dX13_isWord_7 : decode cX13_isWord 7 = .ok (.if_icmp .ne 17, 3) := by decide +kernel
theorem dX13_isWord_10 : decode cX13_isWord 10 = .ok (.aload_n 0, 1) := by decide +kernel
theorem dX13_isWord_11 : decode cX13_isWord 11 = .ok (.getfield 25, 3) := by decide +kernel
theorem dX13_isWord_14 : decode cX13_isWord 14 = .ok (.iload_n 1, 1) := by decide +kernel
theorem dX13_isWord_15 : decode cX13_isWord 15 = .ok (.iaload, 1) := by decide +kernel
theorem dX13_isWord_16 : decode cX13_isWord 16 = .ok (.iload_n 2, 1) := by decide +kernel
theorem dX13_isWord_17 : decode cX13_isWord 17 = .ok (.if_icmp .ne 7, 3) := by decide +kernel
theorem dX13_isWord_20 : decode cX13_isWord 20 = .ok (.iconst 1, 1) := by decide +kernel
theorem dX13_isWord_21 : decode cX13_isWord 21 = .ok (.goto 4, 3) := by decide +kernel
theorem dX13_isWord_24 : decode cX13_isWord 24 = .ok (.iconst 0, 1) := by decide +kernel
theorem dX13_isWord_25 : decode cX13_isWord 25 = .ok (.ireturn, 1) := by decide +kernel
theorem dX13_misplaced_0 : decode cX13_misplaced 0 = .ok (.aload_n 0, 1) := by decide +kernel
theorem dX13_misplaced_1 : decode cX13_misplaced 1 = .ok (.aload_n 0, 1) := by decide +kernel
theorem dX13_misplaced_2 : decode cX13_misplaced 2 = .ok (.getfield 16, 3) := by decide +kernel
theorem dX13_misplaced_5 : decode cX13_misplaced 5 = .ok (.aload_n 0, 1) := by decide +kernel
theorem dX13_misplaced_6 : decode cX13_misplaced 6 = .ok (.getfield 376, 3) := by decide +kernel
theorem dX13_misplaced_9 : decode cX13_misplaced 9 = .ok (.iaload, 1) := by decide +kernel
theorem dX13_misplaced_10 : decode cX13_misplaced 10 = .ok (.bipush 6, 2) := by decide +kernel
theorem dX13_misplaced_12 : decode cX13_misplaced 12 = .ok (.if_icmp .ne 7, 3) := by decide +kernel
theorem dX13_misplaced_15 : decode cX13_misplaced 15 = .ok (.iconst 1, 1) := by decide +kernel
theorem dX13_misplaced_16 : decode cX13_misplaced 16 = .ok (.goto 4, 3) := by decide +kernel
theorem dX13_misplaced_19 : decode cX13_misplaced 19 = .ok (.iconst 2, 1) := by decide +kernel
theorem dX13_misplaced_20 : decode cX13_misplaced 20 = .ok (.aload_n 0, 1) := by decide +kernel
theorem dX13_misplaced_21 : decode cX13_misplaced 21 = .ok (.getfield 376, 3) := by decide +kernel
theorem dX13_misplaced_24 : decode cX13_misplaced 24 = .ok (.invokevirtual 379, 3) := by decide +kernel
theorem dX13_misplaced_27 : decode cX13_misplaced 27 = .ok (.return_, 1) := by decide +kernel
theorem dX13_sign__0 : decode cX13_sign_ 0 = .ok (.aload_n 0, 1) := by decide +kernel
theorem dX13_sign__1 : decode cX13_sign_ 1 = .ok (.getfield 319, 3) := by decide +kernel
theorem dX13_sign__4 : decode cX13_sign_ 4 = .ok (.ifCond .eq 4, 3) := by decide +kernel
theorem dX13_sign__7 : decode cX13_sign_ 7 = .ok (.return_, 1) := by decide +kernel
theorem dX13_sign__8 : decode cX13_sign_ 8 = .ok (.aload_n 0, 1) := by decide +kernel
theorem dX13_sign__9 : decode cX13_sign_ 9 = .ok (.aload_n 0, 1) := by decide +kernel
theorem dX13_sign__10 : decode cX13_sign_ 10 = .ok (.getfield 376, 3) := by decide +kernel
theorem dX13_sign__13 : decode cX13_sign_ 13 = .ok (.iload_n 1, 1) := by decide +kernel
theorem dX13_sign__14 : decode cX13_sign_ 14 = .ok (.invokevirtual 383, 3) := by decide +kernel
theorem dX13_sign__17 : decode cX13_sign_ 17 = .ok (.ifCond .eq 16, 3) := by decide +kernel
theorem dX13_sign__20 : decode cX13_sign_ 20 = .ok (.aload_n 0, 1) := by decide +kernel
theorem dX13_sign__21 : decode cX13_sign_ 21 = .ok (.dup, 1) := by decide +kernel
theorem dX13_sign__22 : decode cX13_sign_ 22 = .ok (.getfield 376, 3) := by decide +kernel
theorem dX13_sign__25 : decode cX13_sign_ 25 = .ok (.iconst 1, 1) := by decide +kernel
theorem dX13_sign__26 : decode cX13_sign_ 26 = .ok (.iadd, 1) := by decide +kernel
theorem dX13_sign__27 : decode cX13_sign_ 27 = .ok (.putfield 376, 3) := by decide +kernel
theorem dX13_sign__30 : decode cX13_sign_ 30 = .ok (.goto 7, 3) := by decide +kernel
theorem dX13_sign__33 : decode cX13_sign_ 33 = .ok (.aload_n 0, 1) := by decide +kernel
theorem dX13_sign__34 : decode cX13_sign_ 34 = .ok (.invokevirtual 387, 3) := by decide +kernel
theorem dX13_sign__37 : decode cX13_sign_ 37 = .ok (.return_, 1) := by decide +kernel
theorem dX13_word_0 : decode cX13_word 0 = .ok (.aload_n 0, 1) := by decide +kernel
theorem dX13_word_1 : decode cX13_word 1 = .ok (.getfield 319, 3) := by decide +kernel
theorem dX13_word_4 : decode cX13_word 4 = .ok (.ifCond .eq 4, 3) := by decide +kernel
theorem dX13_word_7 : decode cX13_word 7 = .ok (.return_, 1) := by decide +kernel
theorem dX13_word_8 : decode cX13_word 8 = .ok (.aload_n 0, 1) := by decide +kernel
theorem dX13_word_9 : decode cX13_word 9 = .ok (.aload_n 0, 1) := by decide +kernel
theorem dX13_word_10 : decode cX13_word 10 = .ok (.getfield 376, 3) := by decide +kernel
theorem dX13_word_13 : decode cX13_word 13 = .ok (.iload_n 1, 1) := by decide +kernel
theorem dX13_word_14 : decode cX13_word 14 = .ok (.invokevirtual 390, 3) := by decide +kernel
theorem dX13_word_17 : decode cX13_word 17 = .ok (.ifCond .eq 16, 3) := by decide +kernel
theorem dX13_word_20 : decode cX13_word 20 = .ok (.aload_n 0, 1) := by decide +kernel
theorem dX13_word_21 : decode cX13_word 21 = .ok (.dup, 1) := by decide +kernel
theorem dX13_word_22 : decode cX13_word 22 = .ok (.getfield 376, 3) := by decide +kernel
theorem dX13_word_25 : decode cX13_word 25 = .ok (.iconst 1, 1) := by decide +kernel
theorem dX13_word_26 : decode cX13_word 26 = .ok (.iadd, 1) := by decide +kernel
theorem dX13_word_27 : decode cX13_word 27 = .ok (.putfield 376, 3) := by decide +kernel
theorem dX13_word_30 : decode cX13_word 30 = .ok (.goto 7, 3) := by decide +kernel
theorem dX13_word_33 : decode cX13_word 33 = .ok (.aload_n 0, 1) := by decide +kernel
theorem dX13_word_34 : decode cX13_word 34 = .ok (.invokevirtual 387, 3) := by decide +kernel
theorem dX13_word_37 : decode cX13_word 37 = .ok (.return_, 1) := by decide +kernel
theorem dX13_name_0 : decode cX13_name 0 = .ok (.aload_n 0, 1) := by decide +kernel
theorem dX13_name_1 : decode cX13_name 1 = .ok (.getfield 319, 3) := by decide +kernel
theorem dX13_name_4 : decode cX13_name 4 = .ok (.ifCond .eq 5, 3) := by decide +kernel
theorem dX13_name_7 : decode cX13_name 7 = .ok (.iconst 0, 1) := by decide +kernel
theorem dX13_name_8 : decode cX13_name 8 = .ok (.ireturn, 1) := by decide +kernel
theorem dX13_name_9 : decode cX13_name 9 = .ok (.aload_n 0, 1) := by decide +kernel
theorem dX13_name_10 : decode cX13_name 10 = .ok (.getfield 16, 3) := by decide +kernel
theorem dX13_name_13 : decode cX13_name 13 = .ok (.aload_n 0, 1) := by decide +kernel
theorem dX13_name_14 : decode cX13_name 14 = .ok (.getfield 376, 3) := by decide +kernel
theorem dX13_name_17 : decode cX13_name 17 = .ok (.iaload, 1) := by decide +kernel
theorem dX13_name_18 : decode cX13_name 18 = .ok (.iconst 1, 1) := by decide +kernel
theorem dX13_name_19 : decode cX13_name 19 = .ok (.if_icmp .eq 9, 3) := by decide +kernel
theorem dX13_name_22 : decode cX13_name 22 = .ok (.aload_n 0, 1) := by decide +kernel
theorem dX13_name_23 : decode cX13_name 23 = .ok (.invokevirtual 387, 3) := by decide +kernel
theorem dX13_name_26 : decode cX13_name 26 = .ok (.iconst 0, 1) := by decide +kernel
theorem dX13_name_27 : decode cX13_name 27 = .ok (.ireturn, 1) := by decide +kernel
theorem dX13_name_28 : decode cX13_name 28 = .ok (.aload_n 0, 1) := by decide +kernel
theorem dX13_name_29 : decode cX13_name 29 = .ok (.dup, 1) := by decide +kernel
theorem dX13_name_30 : decode cX13_name 30 = .ok (.getfield 376, 3) := by decide +kernel
theorem dX13_name_33 : decode cX13_name 33 = .ok (.iconst 1, 1) := by decide +kernel
theorem dX13_name_34 : decode cX13_name 34 = .ok (.iadd, 1) := by decide +kernel
theorem dX13_name_35 : decode cX13_name 35 = .ok (.putfield 376, 3) := by decide +kernel
theorem dX13_name_38 : decode cX13_name 38 = .ok (.aload_n 0, 1) := by decide +kernel
theorem dX13_name_39 : decode cX13_name 39 = .ok (.getfield 376, 3) := by decide +kernel
theorem dX13_name_42 : decode cX13_name 42 = .ok (.iconst 1, 1) := by decide +kernel
theorem dX13_name_43 : decode cX13_name 43 = .ok (.isub, 1) := by decide +kernel
theorem dX13_name_44 : decode cX13_name 44 = .ok (.ireturn, 1) := by decide +kernel
theorem dX13_isDeep_0 : decode cX13_isDeep 0 = .ok (.aload_n 0, 1) := by decide +kernel
theorem dX13_isDeep_1 : decode cX13_isDeep 1 = .ok (.getfield 319, 3) := by decide +kernel
theorem dX13_isDeep_4 : decode cX13_isDeep 4 = .ok (.ifCond .eq 5, 3) := by decide +kernel
theorem dX13_isDeep_7 : decode cX13_isDeep 7 = .ok (.iconst 1, 1) := by decide +kernel
theorem dX13_isDeep_8 : decode cX13_isDeep 8 = .ok (.ireturn, 1) := by decide +kernel
theorem dX13_isDeep_9 : decode cX13_isDeep 9 = .ok (.iload_n 1, 1) := by decide +kernel
theorem dX13_isDeep_10 : decode cX13_isDeep 10 = .ok (.bipush 40, 2) := by decide +kernel
theorem dX13_isDeep_12 : decode cX13_isDeep 12 = .ok (.if_icmp .ge 5, 3) := by decide +kernel
theorem dX13_isDeep_15 : decode cX13_isDeep 15 = .ok (.iconst 0, 1) := by decide +kernel
theorem dX13_isDeep_16 : decode cX13_isDeep 16 = .ok (.ireturn, 1) := by decide +kernel
theorem dX13_isDeep_17 : decode cX13_isDeep 17 = .ok (.aload_n 0, 1) := by decide +kernel
theorem dX13_isDeep_18 : decode cX13_isDeep 18 = .ok (.aload_n 0, 1) := by decide +kernel
theorem dX13_isDeep_19 : decode cX13_isDeep 19 = .ok (.getfield 16, 3) := by decide +kernel
theorem dX13_isDeep_22 : decode cX13_isDeep 22 = .ok (.aload_n 0, 1) := by decide +kernel
theorem dX13_isDeep_23 : decode cX13_isDeep 23 = .ok (.getfield 376, 3) := by decide +kernel
theorem dX13_isDeep_26 : decode cX13_isDeep 26 = .ok (.iaload, 1) := by decide +kernel
theorem dX13_isDeep_27 : decode cX13_isDeep 27 = .ok (.bipush 6, 2) := by decide +kernel
theorem dX13_isDeep_29 : decode cX13_isDeep 29 = .ok (.if_icmp .ne 7, 3) := by decide +kernel
theorem dX13_isDeep_32 : decode cX13_isDeep 32 = .ok (.iconst 1, 1) := by decide +kernel
theorem dX13_isDeep_33 : decode cX13_isDeep 33 = .ok (.goto 4, 3) := by decide +kernel
theorem dX13_isDeep_36 : decode cX13_isDeep 36 = .ok (.iconst 3, 1) := by decide +kernel
theorem dX13_isDeep_37 : decode cX13_isDeep 37 = .ok (.aload_n 0, 1) := by decide +kernel
theorem dX13_isDeep_38 : decode cX13_isDeep 38 = .ok (.getfield 376, 3) := by decide +kernel
theorem dX13_isDeep_41 : decode cX13_isDeep 41 = .ok (.invokevirtual 379, 3) := by decide +kernel
theorem dX13_isDeep_44 : decode cX13_isDeep 44 = .ok (.iconst 1, 1) := by decide +kernel
theorem dX13_isDeep_45 : decode cX13_isDeep 45 = .ok (.ireturn, 1) := by decide +kernel
theorem dX13_upperOf_0 : decode cX13_upperOf 0 = .ok (.iload_n 1, 1) := by decide +kernel
theorem dX13_upperOf_1 : decode cX13_upperOf 1 = .ok (.ifCond .ne 7, 3) := by decide +kernel
theorem dX13_upperOf_4 : decode cX13_upperOf 4 = .ok (.iconst (-1), 1) := by decide +kernel
theorem dX13_upperOf_5 : decode cX13_upperOf 5 = .ok (.goto 31, 3) := by decide +kernel
theorem dX13_upperOf_8 : decode cX13_upperOf 8 = .ok (.iload_n 1, 1) := by decide +kernel
theorem dX13_upperOf_9 : decode cX13_upperOf 9 = .ok (.iconst 1, 1) := by decide +kernel
theorem dX13_upperOf_10 : decode cX13_upperOf 10 = .ok (.if_icmp .ne 7, 3) := by decide +kernel
theorem dX13_upperOf_13 : decode cX13_upperOf 13 = .ok (.iconst 0, 1) := by decide +kernel
theorem dX13_upperOf_14 : decode cX13_upperOf 14 = .ok (.goto 22, 3) := by decide +kernel
theorem dX13_upperOf_17 : decode cX13_upperOf 17 = .ok (.iload_n 1, 1) := by decide +kernel
theorem dX13_upperOf_18 : decode cX13_upperOf 18 = .ok (.bipush 8, 2) := by decide +kernel
theorem dX13_upperOf_20 : decode cX13_upperOf 20 = .ok (.if_icmp .ge 7, 3) := by decide +kernel
theorem dX13_upperOf_23 : decode cX13_upperOf 23 = .ok (.iconst 1, 1) := by decide +kernel
theorem dX13_upperOf_24 : decode cX13_upperOf 24 = .ok (.goto 12, 3) := by decide +kernel
theorem dX13_upperOf_27 : decode cX13_upperOf 27 = .ok (.aload_n 0, 1) := by decide +kernel
theorem dX13_upperOf_28 : decode cX13_upperOf 28 = .ok (.getfield 68, 3) := by decide +kernel
theorem dX13_upperOf_31 : decode cX13_upperOf 31 = .ok (.iload_n 1, 1) := by decide +kernel
theorem dX13_upperOf_32 : decode cX13_upperOf 32 = .ok (.bipush 8, 2) := by decide +kernel
theorem dX13_upperOf_34 : decode cX13_upperOf 34 = .ok (.isub, 1) := by decide +kernel
theorem dX13_upperOf_35 : decode cX13_upperOf 35 = .ok (.iaload, 1) := by decide +kernel
theorem dX13_upperOf_36 : decode cX13_upperOf 36 = .ok (.ireturn, 1) := by decide +kernel
theorem dX13_isArray_0 : decode cX13_isArray 0 = .ok (.iload_n 0, 1) := by decide +kernel
theorem dX13_isArray_1 : decode cX13_isArray 1 = .ok (.iconst 4, 1) := by decide +kernel
theorem dX13_isArray_2 : decode cX13_isArray 2 = .ok (.if_icmp .eq 16, 3) := by decide +kernel
theorem dX13_isArray_5 : decode cX13_isArray 5 = .ok (.iload_n 0, 1) := by decide +kernel
theorem dX13_isArray_6 : decode cX13_isArray 6 = .ok (.bipush 8, 2) := by decide +kernel
theorem dX13_isArray_8 : decode cX13_isArray 8 = .ok (.if_icmp .lt 14, 3) := by decide +kernel
theorem dX13_isArray_11 : decode cX13_isArray 11 = .ok (.iload_n 0, 1) := by decide +kernel
theorem dX13_isArray_12 : decode cX13_isArray 12 = .ok (.iconst 2, 1) := by decide +kernel
theorem dX13_isArray_13 : decode cX13_isArray 13 = .ok (.irem, 1) := by decide +kernel
theorem dX13_isArray_14 : decode cX13_isArray 14 = .ok (.iconst 1, 1) := by decide +kernel
theorem dX13_isArray_15 : decode cX13_isArray 15 = .ok (.if_icmp .ne 7, 3) := by decide +kernel
theorem dX13_isArray_18 : decode cX13_isArray 18 = .ok (.iconst 1, 1) := by decide +kernel
theorem dX13_isArray_19 : decode cX13_isArray 19 = .ok (.goto 4, 3) := by decide +kernel
theorem dX13_isArray_22 : decode cX13_isArray 22 = .ok (.iconst 0, 1) := by decide +kernel
theorem dX13_isArray_23 : decode cX13_isArray 23 = .ok (.ireturn, 1) := by decide +kernel
theorem dX13_isThing_0 : decode cX13_isThing 0 = .ok (.iload_n 0, 1) := by decide +kernel
theorem dX13_isThing_1 : decode cX13_isThing 1 = .ok (.iconst 2, 1) := by decide +kernel
theorem dX13_isThing_2 : decode cX13_isThing 2 = .ok (.if_icmp .eq 14, 3) := by decide +kernel
theorem dX13_isThing_5 : decode cX13_isThing 5 = .ok (.iload_n 0, 1) := by decide +kernel
theorem dX13_isThing_6 : decode cX13_isThing 6 = .ok (.iconst 4, 1) := by decide +kernel
theorem dX13_isThing_7 : decode cX13_isThing 7 = .ok (.if_icmp .eq 9, 3) := by decide +kernel
theorem dX13_isThing_10 : decode cX13_isThing 10 = .ok (.iload_n 0, 1) := by decide +kernel
theorem dX13_isThing_11 : decode cX13_isThing 11 = .ok (.bipush 8, 2) := by decide +kernel
theorem dX13_isThing_13 : decode cX13_isThing 13 = .ok (.if_icmp .lt 7, 3) := by decide +kernel
theorem dX13_isThing_16 : decode cX13_isThing 16 = .ok (.iconst 1, 1) := by decide +kernel
theorem dX13_isThing_17 : decode cX13_isThing 17 = .ok (.goto 4, 3) := by decide +kernel
theorem dX13_isThing_20 : decode cX13_isThing 20 = .ok (.iconst 0, 1) := by decide +kernel
theorem dX13_isThing_21 : decode cX13_isThing 21 = .ok (.ireturn, 1) := by decide +kernel
theorem dX13_local_0 : decode cX13_local 0 = .ok (.aload_n 0, 1) := by decide +kernel
theorem dX13_local_1 : decode cX13_local 1 = .ok (.getfield 510, 3) := by decide +kernel
theorem dX13_local_4 : decode cX13_local 4 = .ok (.ifCond .eq 7, 3) := by decide +kernel
theorem dX13_local_7 : decode cX13_local 7 = .ok (.iload_n 1, 1) := by decide +kernel
theorem dX13_local_8 : decode cX13_local 8 = .ok (.goto 6, 3) := by decide +kernel
theorem dX13_local_11 : decode cX13_local 11 = .ok (.iload_n 1, 1) := by decide +kernel
theorem dX13_local_12 : decode cX13_local 12 = .ok (.iconst 1, 1) := by decide +kernel
theorem dX13_local_13 : decode cX13_local 13 = .ok (.iadd, 1) := by decide +kernel
theorem dX13_local_14 : decode cX13_local 14 = .ok (.ireturn, 1) := by decide +kernel
theorem dX13_come_0 : decode cX13_come 0 = .ok (.aload_n 0, 1) := by decide +kernel
theorem dX13_come_1 : decode cX13_come 1 = .ok (.getfield 116, 3) := by decide +kernel
theorem dX13_come_4 : decode cX13_come 4 = .ok (.aload_n 0, 1) := by decide +kernel
theorem dX13_come_5 : decode cX13_come 5 = .ok (.getfield 513, 3) := by decide +kernel
theorem dX13_come_8 : decode cX13_come 8 = .ok (.iload_n 1, 1) := by decide +kernel
theorem dX13_come_9 : decode cX13_come 9 = .ok (.iastore, 1) := by decide +kernel
theorem dX13_come_10 : decode cX13_come 10 = .ok (.aload_n 0, 1) := by decide +kernel
theorem dX13_come_11 : decode cX13_come 11 = .ok (.getfield 119, 3) := by decide +kernel
theorem dX13_come_14 : decode cX13_come 14 = .ok (.aload_n 0, 1) := by decide +kernel
theorem dX13_come_15 : decode cX13_come 15 = .ok (.getfield 513, 3) := by decide +kernel
theorem dX13_come_18 : decode cX13_come 18 = .ok (.iload_n 2, 1) := by decide +kernel
theorem dX13_come_19 : decode cX13_come 19 = .ok (.iastore, 1) := by decide +kernel
theorem dX13_come_20 : decode cX13_come 20 = .ok (.aload_n 0, 1) := by decide +kernel
theorem dX13_come_21 : decode cX13_come 21 = .ok (.dup, 1) := by decide +kernel
theorem dX13_come_22 : decode cX13_come 22 = .ok (.getfield 513, 3) := by decide +kernel
theorem dX13_come_25 : decode cX13_come 25 = .ok (.iconst 1, 1) := by decide +kernel
theorem dX13_come_26 : decode cX13_come 26 = .ok (.iadd, 1) := by decide +kernel
theorem dX13_come_27 : decode cX13_come 27 = .ok (.putfield 513, 3) := by decide +kernel
theorem dX13_come_30 : decode cX13_come 30 = .ok (.return_, 1) := by decide +kernel
theorem dX13_canTake_0 : decode cX13_canTake 0 = .ok (.aload_n 0, 1) := by decide +kernel
theorem dX13_canTake_1 : decode cX13_canTake 1 = .ok (.getfield 319, 3) := by decide +kernel
theorem dX13_canTake_4 : decode cX13_canTake 4 = .ok (.ifCond .eq 5, 3) := by decide +kernel
theorem dX13_canTake_7 : decode cX13_canTake 7 = .ok (.iconst 1, 1) := by decide +kernel
theorem dX13_canTake_8 : decode cX13_canTake 8 = .ok (.ireturn, 1) := by decide +kernel
theorem dX13_canTake_9 : decode cX13_canTake 9 = .ok (.aload_n 0, 1) := by decide +kernel
theorem dX13_canTake_10 : decode cX13_canTake 10 = .ok (.getfield 58, 3) := by decide +kernel
theorem dX13_canTake_13 : decode cX13_canTake 13 = .ok (.iload_n 1, 1) := by decide +kernel
theorem dX13_canTake_14 : decode cX13_canTake 14 = .ok (.baload, 1) := by decide +kernel
theorem dX13_canTake_15 : decode cX13_canTake 15 = .ok (.ifCond .eq 5, 3) := by decide +kernel
theorem dX13_canTake_18 : decode cX13_canTake 18 = .ok (.iconst 0, 1) := by decide +kernel
theorem dX13_canTake_19 : decode cX13_canTake 19 = .ok (.ireturn, 1) := by decide +kernel
theorem dX13_canTake_20 : decode cX13_canTake 20 = .ok (.aload_n 0, 1) := by decide +kernel
theorem dX13_canTake_21 : decode cX13_canTake 21 = .ok (.getfield 28, 3) := by decide +kernel
theorem dX13_canTake_24 : decode cX13_canTake 24 = .ok (.iload_n 1, 1) := by decide +kernel
theorem dX13_canTake_25 : decode cX13_canTake 25 = .ok (.iaload, 1) := by decide +kernel
theorem dX13_canTake_26 : decode cX13_canTake 26 = .ok (.bipush 25, 2) := by decide +kernel
theorem dX13_canTake_28 : decode cX13_canTake 28 = .ok (.if_icmp .eq 14, 3) := by decide +kernel
theorem dX13_canTake_31 : decode cX13_canTake 31 = .ok (.aload_n 0, 1) := by decide +kernel
theorem dX13_canTake_32 : decode cX13_canTake 32 = .ok (.getfield 28, 3) := by decide +kernel
theorem dX13_canTake_35 : decode cX13_canTake 35 = .ok (.iload_n 1, 1) := by decide +kernel
theorem dX13_canTake_36 : decode cX13_canTake 36 = .ok (.iaload, 1) := by decide +kernel
theorem dX13_canTake_37 : decode cX13_canTake 37 = .ok (.bipush 32, 2) := by decide +kernel
theorem dX13_canTake_39 : decode cX13_canTake 39 = .ok (.if_icmp .ne 5, 3) := by decide +kernel
theorem dX13_canTake_42 : decode cX13_canTake 42 = .ok (.iconst 1, 1) := by decide +kernel
theorem dX13_canTake_43 : decode cX13_canTake 43 = .ok (.ireturn, 1) := by decide +kernel
theorem dX13_canTake_44 : decode cX13_canTake 44 = .ok (.aload_n 0, 1) := by decide +kernel
theorem dX13_canTake_45 : decode cX13_canTake 45 = .ok (.getfield 28, 3) := by decide +kernel
theorem dX13_canTake_48 : decode cX13_canTake 48 = .ok (.iload_n 1, 1) := by decide +kernel
theorem dX13_canTake_49 : decode cX13_canTake 49 = .ok (.iaload, 1) := by decide +kernel
theorem dX13_canTake_50 : decode cX13_canTake 50 = .ok (.bipush 30, 2) := by decide +kernel
theorem dX13_canTake_52 : decode cX13_canTake 52 = .ok (.if_icmp .ne 17, 3) := by decide +kernel
theorem dX13_canTake_55 : decode cX13_canTake 55 = .ok (.aload_n 0, 1) := by decide +kernel
theorem dX13_canTake_56 : decode cX13_canTake 56 = .ok (.getfield 52, 3) := by decide +kernel
theorem dX13_canTake_59 : decode cX13_canTake 59 = .ok (.iload_n 1, 1) := by decide +kernel
theorem dX13_canTake_60 : decode cX13_canTake 60 = .ok (.iaload, 1) := by decide +kernel
theorem dX13_canTake_61 : decode cX13_canTake 61 = .ok (.iconst (-1), 1) := by decide +kernel
theorem dX13_canTake_62 : decode cX13_canTake 62 = .ok (.if_icmp .eq 7, 3) := by decide +kernel
theorem dX13_canTake_65 : decode cX13_canTake 65 = .ok (.iconst 1, 1) := by decide +kernel
theorem dX13_canTake_66 : decode cX13_canTake 66 = .ok (.goto 4, 3) := by decide +kernel
theorem dX13_canTake_69 : decode cX13_canTake 69 = .ok (.iconst 0, 1) := by decide +kernel
theorem dX13_canTake_70 : decode cX13_canTake 70 = .ok (.ireturn, 1) := by decide +kernel
theorem dX13_side_0 : decode cX13_side 0 = .ok (.iload_n 2, 1) := by decide +kernel
theorem dX13_side_1 : decode cX13_side 1 = .ok (.iconst 3, 1) := by decide +kernel
theorem dX13_side_2 : decode cX13_side 2 = .ok (.if_icmp .ne 15, 3) := by decide +kernel
theorem dX13_side_5 : decode cX13_side 5 = .ok (.aload_n 0, 1) := by decide +kernel
theorem dX13_side_6 : decode cX13_side 6 = .ok (.bipush 6, 2) := by decide +kernel
theorem dX13_side_8 : decode cX13_side 8 = .ok (.aload_n 0, 1) := by decide +kernel
theorem dX13_side_9 : decode cX13_side 9 = .ok (.getfield 31, 3) := by decide +kernel
theorem dX13_side_12 : decode cX13_side 12 = .ok (.iload_n 1, 1) := by decide +kernel
theorem dX13_side_13 : decode cX13_side 13 = .ok (.iaload, 1) := by decide +kernel
theorem dX13_side_14 : decode cX13_side 14 = .ok (.invokevirtual 379, 3) := by decide +kernel
theorem dX13_side_17 : decode cX13_side 17 = .ok (.iload_n 2, 1) := by decide +kernel
theorem dX13_side_18 : decode cX13_side 18 = .ok (.ireturn, 1) := by decide +kernel
theorem dX13_led_0 : decode cX13_led 0 = .ok (.aload_n 0, 1) := by decide +kernel
theorem dX13_led_1 : decode cX13_led 1 = .ok (.getfield 319, 3) := by decide +kernel
theorem dX13_led_4 : decode cX13_led 4 = .ok (.ifCond .eq 5, 3) := by decide +kernel
theorem dX13_led_7 : decode cX13_led 7 = .ok (.iconst 0, 1) := by decide +kernel
theorem dX13_led_8 : decode cX13_led 8 = .ok (.ireturn, 1) := by decide +kernel
theorem dX13_led_9 : decode cX13_led 9 = .ok (.aload_n 0, 1) := by decide +kernel
theorem dX13_led_10 : decode cX13_led 10 = .ok (.getfield 49, 3) := by decide +kernel
theorem dX13_led_13 : decode cX13_led 13 = .ok (.aload_n 0, 1) := by decide +kernel
theorem dX13_led_14 : decode cX13_led 14 = .ok (.getfield 37, 3) := by decide +kernel
theorem dX13_led_17 : decode cX13_led 17 = .ok (.iload_n 1, 1) := by decide +kernel
theorem dX13_led_18 : decode cX13_led 18 = .ok (.iaload, 1) := by decide +kernel
theorem dX13_led_19 : decode cX13_led 19 = .ok (.iaload, 1) := by decide +kernel
theorem dX13_led_20 : decode cX13_led 20 = .ok (.istore_n 2, 1) := by decide +kernel
theorem dX13_led_21 : decode cX13_led 21 = .ok (.iload_n 2, 1) := by decide +kernel
theorem dX13_led_22 : decode cX13_led 22 = .ok (.iconst 3, 1) := by decide +kernel
theorem dX13_led_23 : decode cX13_led 23 = .ok (.if_icmp .ne 20, 3) := by decide +kernel
theorem dX13_led_26 : decode cX13_led 26 = .ok (.aload_n 0, 1) := by decide +kernel
theorem dX13_led_27 : decode cX13_led 27 = .ok (.bipush 6, 2) := by decide +kernel
theorem dX13_led_29 : decode cX13_led 29 = .ok (.aload_n 0, 1) := by decide +kernel
theorem dX13_led_30 : decode cX13_led 30 = .ok (.getfield 31, 3) := by decide +kernel
theorem dX13_led_33 : decode cX13_led 33 = .ok (.aload_n 0, 1) := by decide +kernel
theorem dX13_led_34 : decode cX13_led 34 = .ok (.getfield 37, 3) := by decide +kernel
theorem dX13_led_37 : decode cX13_led 37 = .ok (.iload_n 1, 1) := by decide +kernel
theorem dX13_led_38 : decode cX13_led 38 = .ok (.iaload, 1) := by decide +kernel
theorem dX13_led_39 : decode cX13_led 39 = .ok (.iaload, 1) := by decide +kernel
theorem dX13_led_40 : decode cX13_led 40 = .ok (.invokevirtual 379, 3) := by decide +kernel
theorem dX13_led_43 : decode cX13_led 43 = .ok (.iload_n 2, 1) := by decide +kernel
theorem dX13_led_44 : decode cX13_led 44 = .ok (.ireturn, 1) := by decide +kernel
theorem dX13_spell_0 : decode cX13_spell 0 = .ok (.aload_n 0, 1) := by decide +kernel
theorem dX13_spell_1 : decode cX13_spell 1 = .ok (.getfield 144, 3) := by decide +kernel
theorem dX13_spell_4 : decode cX13_spell 4 = .ok (.aload_n 0, 1) := by decide +kernel
theorem dX13_spell_5 : decode cX13_spell 5 = .ok (.getfield 590, 3) := by decide +kernel
theorem dX13_spell_8 : decode cX13_spell 8 = .ok (.iload_n 1, 1) := by decide +kernel
theorem dX13_spell_9 : decode cX13_spell 9 = .ok (.iastore, 1) := by decide +kernel
theorem dX13_spell_10 : decode cX13_spell 10 = .ok (.aload_n 0, 1) := by decide +kernel
theorem dX13_spell_11 : decode cX13_spell 11 = .ok (.dup, 1) := by decide +kernel
theorem dX13_spell_12 : decode cX13_spell 12 = .ok (.getfield 590, 3) := by decide +kernel
theorem dX13_spell_15 : decode cX13_spell 15 = .ok (.iconst 1, 1) := by decide +kernel
theorem dX13_spell_16 : decode cX13_spell 16 = .ok (.iadd, 1) := by decide +kernel
theorem dX13_spell_17 : decode cX13_spell 17 = .ok (.putfield 590, 3) := by decide +kernel
theorem dX13_spell_20 : decode cX13_spell 20 = .ok (.return_, 1) := by decide +kernel
theorem dX13_put_0 : decode cX13_put 0 = .ok (.aload_n 0, 1) := by decide +kernel
theorem dX13_put_1 : decode cX13_put 1 = .ok (.getfield 627, 3) := by decide +kernel
theorem dX13_put_4 : decode cX13_put 4 = .ok (.sipush 12000, 3) := by decide +kernel
theorem dX13_put_7 : decode cX13_put 7 = .ok (.if_icmp .ge 17, 3) := by decide +kernel
theorem dX13_put_10 : decode cX13_put 10 = .ok (.aload_n 0, 1) := by decide +kernel
theorem dX13_put_11 : decode cX13_put 11 = .ok (.getfield 147, 3) := by decide +kernel
theorem dX13_put_14 : decode cX13_put 14 = .ok (.aload_n 0, 1) := by decide +kernel
theorem dX13_put_15 : decode cX13_put 15 = .ok (.getfield 627, 3) := by decide +kernel
theorem dX13_put_18 : decode cX13_put 18 = .ok (.iload_n 1, 1) := by decide +kernel
theorem dX13_put_19 : decode cX13_put 19 = .ok (.sipush 255, 3) := by decide +kernel
theorem dX13_put_22 : decode cX13_put 22 = .ok (.iand, 1) := by decide +kernel
theorem dX13_put_23 : decode cX13_put 23 = .ok (.iastore, 1) := by decide +kernel
theorem dX13_put_24 : decode cX13_put 24 = .ok (.aload_n 0, 1) := by decide +kernel
theorem dX13_put_25 : decode cX13_put 25 = .ok (.dup, 1) := by decide +kernel
theorem dX13_put_26 : decode cX13_put 26 = .ok (.getfield 627, 3) := by decide +kernel
theorem dX13_put_29 : decode cX13_put 29 = .ok (.iconst 1, 1) := by decide +kernel
theorem dX13_put_30 : decode cX13_put 30 = .ok (.iadd, 1) := by decide +kernel
theorem dX13_put_31 : decode cX13_put 31 = .ok (.putfield 627, 3) := by decide +kernel
theorem dX13_put_34 : decode cX13_put 34 = .ok (.return_, 1) := by decide +kernel
theorem dX13_push_0 : decode cX13_push 0 = .ok (.aload_n 0, 1) := by decide +kernel
theorem dX13_push_1 : decode cX13_push 1 = .ok (.getfield 150, 3) := by decide +kernel
theorem dX13_push_4 : decode cX13_push 4 = .ok (.aload_n 0, 1) := by decide +kernel
theorem dX13_push_5 : decode cX13_push 5 = .ok (.getfield 629, 3) := by decide +kernel
theorem dX13_push_8 : decode cX13_push 8 = .ok (.iload_n 1, 1) := by decide +kernel
theorem dX13_push_9 : decode cX13_push 9 = .ok (.iastore, 1) := by decide +kernel
theorem dX13_push_10 : decode cX13_push 10 = .ok (.aload_n 0, 1) := by decide +kernel
theorem dX13_push_11 : decode cX13_push 11 = .ok (.dup, 1) := by decide +kernel
theorem dX13_push_12 : decode cX13_push 12 = .ok (.getfield 629, 3) := by decide +kernel
theorem dX13_push_15 : decode cX13_push 15 = .ok (.iconst 1, 1) := by decide +kernel
theorem dX13_push_16 : decode cX13_push 16 = .ok (.iadd, 1) := by decide +kernel
theorem dX13_push_17 : decode cX13_push 17 = .ok (.putfield 629, 3) := by decide +kernel
theorem dX13_push_20 : decode cX13_push 20 = .ok (.aload_n 0, 1) := by decide +kernel
theorem dX13_push_21 : decode cX13_push 21 = .ok (.aload_n 0, 1) := by decide +kernel
theorem dX13_push_22 : decode cX13_push 22 = .ok (.getfield 632, 3) := by decide +kernel
theorem dX13_push_25 : decode cX13_push 25 = .ok (.aload_n 0, 1) := by decide +kernel
theorem dX13_push_26 : decode cX13_push 26 = .ok (.getfield 629, 3) := by decide +kernel
theorem dX13_push_29 : decode cX13_push 29 = .ok (.invokestatic 635, 3) := by decide +kernel
theorem dX13_push_32 : decode cX13_push 32 = .ok (.putfield 632, 3) := by decide +kernel
theorem dX13_push_35 : decode cX13_push 35 = .ok (.return_, 1) := by decide +kernel
theorem dX13_turn_0 : decode cX13_turn 0 = .ok (.aload_n 0, 1) := by decide +kernel
theorem dX13_turn_1 : decode cX13_turn 1 = .ok (.dup, 1) := by decide +kernel
theorem dX13_turn_2 : decode cX13_turn 2 = .ok (.getfield 629, 3) := by decide +kernel
theorem dX13_turn_5 : decode cX13_turn 5 = .ok (.iload_n 1, 1) := by decide +kernel
theorem dX13_turn_6 : decode cX13_turn 6 = .ok (.isub, 1) := by decide +kernel
theorem dX13_turn_7 : decode cX13_turn 7 = .ok (.putfield 629, 3) := by decide +kernel
theorem dX13_turn_10 : decode cX13_turn 10 = .ok (.iload_n 2, 1) := by decide +kernel
theorem dX13_turn_11 : decode cX13_turn 11 = .ok (.iconst 3, 1) := by decide +kernel
theorem dX13_turn_12 : decode cX13_turn 12 = .ok (.if_icmp .eq 8, 3) := by decide +kernel
theorem dX13_turn_15 : decode cX13_turn 15 = .ok (.aload_n 0, 1) := by decide +kernel
theorem dX13_turn_16 : decode cX13_turn 16 = .ok (.iload_n 2, 1) := by decide +kernel
theorem dX13_turn_17 : decode cX13_turn 17 = .ok (.invokevirtual 640, 3) := by decide +kernel
theorem dX13_turn_20 : decode cX13_turn 20 = .ok (.return_, 1) := by decide +kernel
theorem dX13_jump_0 : decode cX13_jump 0 = .ok (.aload_n 0, 1) := by decide +kernel
theorem dX13_jump_1 : decode cX13_jump 1 = .ok (.getfield 181, 3) := by decide +kernel
theorem dX13_jump_4 : decode cX13_jump 4 = .ok (.aload_n 0, 1) := by decide +kernel
theorem dX13_jump_5 : decode cX13_jump 5 = .ok (.getfield 643, 3) := by decide +kernel
theorem dX13_jump_8 : decode cX13_jump 8 = .ok (.aload_n 0, 1) := by decide +kernel
theorem dX13_jump_9 : decode cX13_jump 9 = .ok (.getfield 627, 3) := by decide +kernel
theorem dX13_jump_12 : decode cX13_jump 12 = .ok (.iastore, 1) := by decide +kernel
theorem dX13_jump_13 : decode cX13_jump 13 = .ok (.aload_n 0, 1) := by decide +kernel
theorem dX13_jump_14 : decode cX13_jump 14 = .ok (.getfield 184, 3) := by decide +kernel
theorem dX13_jump_17 : decode cX13_jump 17 = .ok (.aload_n 0, 1) := by decide +kernel
theorem dX13_jump_18 : decode cX13_jump 18 = .ok (.getfield 643, 3) := by decide +kernel
theorem dX13_jump_21 : decode cX13_jump 21 = .ok (.iload_n 2, 1) := by decide +kernel
theorem dX13_jump_22 : decode cX13_jump 22 = .ok (.iastore, 1) := by decide +kernel
theorem dX13_jump_23 : decode cX13_jump 23 = .ok (.aload_n 0, 1) := by decide +kernel
theorem dX13_jump_24 : decode cX13_jump 24 = .ok (.dup, 1) := by decide +kernel
theorem dX13_jump_25 : decode cX13_jump 25 = .ok (.getfield 643, 3) := by decide +kernel
theorem dX13_jump_28 : decode cX13_jump 28 = .ok (.iconst 1, 1) := by decide +kernel
theorem dX13_jump_29 : decode cX13_jump 29 = .ok (.iadd, 1) := by decide +kernel
theorem dX13_jump_30 : decode cX13_jump 30 = .ok (.putfield 643, 3) := by decide +kernel
theorem dX13_jump_33 : decode cX13_jump 33 = .ok (.aload_n 0, 1) := by decide +kernel
theorem dX13_jump_34 : decode cX13_jump 34 = .ok (.iload_n 1, 1) := by decide +kernel
theorem dX13_jump_35 : decode cX13_jump 35 = .ok (.invokevirtual 646, 3) := by decide +kernel
theorem dX13_jump_38 : decode cX13_jump 38 = .ok (.aload_n 0, 1) := by decide +kernel
theorem dX13_jump_39 : decode cX13_jump 39 = .ok (.iconst 0, 1) := by decide +kernel
theorem dX13_jump_40 : decode cX13_jump 40 = .ok (.invokevirtual 646, 3) := by decide +kernel
theorem dX13_jump_43 : decode cX13_jump 43 = .ok (.aload_n 0, 1) := by decide +kernel
theorem dX13_jump_44 : decode cX13_jump 44 = .ok (.iconst 0, 1) := by decide +kernel
theorem dX13_jump_45 : decode cX13_jump 45 = .ok (.invokevirtual 646, 3) := by decide +kernel
theorem dX13_jump_48 : decode cX13_jump 48 = .ok (.return_, 1) := by decide +kernel
theorem dX13_label_0 : decode cX13_label 0 = .ok (.aload_n 0, 1) := by decide +kernel
theorem dX13_label_1 : decode cX13_label 1 = .ok (.dup, 1) := by decide +kernel
theorem dX13_label_2 : decode cX13_label 2 = .ok (.getfield 658, 3) := by decide +kernel
theorem dX13_label_5 : decode cX13_label 5 = .ok (.iconst 1, 1) := by decide +kernel
theorem dX13_label_6 : decode cX13_label 6 = .ok (.iadd, 1) := by decide +kernel
theorem dX13_label_7 : decode cX13_label 7 = .ok (.putfield 658, 3) := by decide +kernel
theorem dX13_label_10 : decode cX13_label 10 = .ok (.aload_n 0, 1) := by decide +kernel
theorem dX13_label_11 : decode cX13_label 11 = .ok (.getfield 658, 3) := by decide +kernel
theorem dX13_label_14 : decode cX13_label 14 = .ok (.ireturn, 1) := by decide +kernel
theorem dX13_comes_0 : decode cX13_comes 0 = .ok (.aload_n 0, 1) := by decide +kernel
theorem dX13_comes_1 : decode cX13_comes 1 = .ok (.iload_n 1, 1) := by decide +kernel
theorem dX13_comes_2 : decode cX13_comes 2 = .ok (.iload_n 2, 1) := by decide +kernel
theorem dX13_comes_3 : decode cX13_comes 3 = .ok (.invokevirtual 528, 3) := by decide +kernel
theorem dX13_comes_6 : decode cX13_comes 6 = .ok (.aload_n 0, 1) := by decide +kernel
theorem dX13_comes_7 : decode cX13_comes 7 = .ok (.aload_n 0, 1) := by decide +kernel
theorem dX13_comes_8 : decode cX13_comes 8 = .ok (.getfield 661, 3) := by decide +kernel
theorem dX13_comes_11 : decode cX13_comes 11 = .ok (.aload_n 0, 1) := by decide +kernel
theorem dX13_comes_12 : decode cX13_comes 12 = .ok (.getfield 513, 3) := by decide +kernel
theorem dX13_comes_15 : decode cX13_comes 15 = .ok (.invokestatic 635, 3) := by decide +kernel
theorem dX13_comes_18 : decode cX13_comes 18 = .ok (.putfield 661, 3) := by decide +kernel
theorem dX13_comes_21 : decode cX13_comes 21 = .ok (.return_, 1) := by decide +kernel
theorem dX13_store_0 : decode cX13_store 0 = .ok (.aload_n 0, 1) := by decide +kernel
theorem dX13_store_1 : decode cX13_store 1 = .ok (.iload_n 1, 1) := by decide +kernel
theorem dX13_store_2 : decode cX13_store 2 = .ok (.iconst 1, 1) := by decide +kernel
theorem dX13_store_3 : decode cX13_store 3 = .ok (.if_icmp .gt 8, 3) := by decide +kernel
theorem dX13_store_6 : decode cX13_store 6 = .ok (.bipush 54, 2) := by decide +kernel
theorem dX13_store_8 : decode cX13_store 8 = .ok (.goto 5, 3) := by decide +kernel
theorem dX13_store_11 : decode cX13_store 11 = .ok (.bipush 58, 2) := by decide +kernel
theorem dX13_store_13 : decode cX13_store 13 = .ok (.invokevirtual 646, 3) := by decide +kernel
theorem dX13_store_16 : decode cX13_store 16 = .ok (.aload_n 0, 1) := by decide +kernel
theorem dX13_store_17 : decode cX13_store 17 = .ok (.aload_n 0, 1) := by decide +kernel
theorem dX13_store_18 : decode cX13_store 18 = .ok (.iload_n 2, 1) := by decide +kernel
theorem dX13_store_19 : decode cX13_store 19 = .ok (.invokevirtual 582, 3) := by decide +kernel
theorem dX13_store_22 : decode cX13_store 22 = .ok (.invokevirtual 646, 3) := by decide +kernel
theorem dX13_store_25 : decode cX13_store 25 = .ok (.aload_n 0, 1) := by decide +kernel
theorem dX13_store_26 : decode cX13_store 26 = .ok (.dup, 1) := by decide +kernel
theorem dX13_store_27 : decode cX13_store 27 = .ok (.getfield 629, 3) := by decide +kernel
theorem dX13_store_30 : decode cX13_store 30 = .ok (.iconst 1, 1) := by decide +kernel
theorem dX13_store_31 : decode cX13_store 31 = .ok (.isub, 1) := by decide +kernel
theorem dX13_store_32 : decode cX13_store 32 = .ok (.putfield 629, 3) := by decide +kernel
theorem dX13_store_35 : decode cX13_store 35 = .ok (.return_, 1) := by decide +kernel
theorem dX13_self_0 : decode cX13_self 0 = .ok (.aload_n 0, 1) := by decide +kernel
theorem dX13_self_1 : decode cX13_self 1 = .ok (.bipush 25, 2) := by decide +kernel
theorem dX13_self_3 : decode cX13_self 3 = .ok (.invokevirtual 646, 3) := by decide +kernel
theorem dX13_self_6 : decode cX13_self 6 = .ok (.aload_n 0, 1) := by decide +kernel
theorem dX13_self_7 : decode cX13_self 7 = .ok (.iconst 0, 1) := by decide +kernel
theorem dX13_self_8 : decode cX13_self 8 = .ok (.invokevirtual 646, 3) := by decide +kernel
theorem dX13_self_11 : decode cX13_self 11 = .ok (.aload_n 0, 1) := by decide +kernel
theorem dX13_self_12 : decode cX13_self 12 = .ok (.bipush 8, 2) := by decide +kernel
theorem dX13_self_14 : decode cX13_self 14 = .ok (.iconst 2, 1) := by decide +kernel
theorem dX13_self_15 : decode cX13_self 15 = .ok (.aload_n 0, 1) := by decide +kernel
theorem dX13_self_16 : decode cX13_self 16 = .ok (.getfield 519, 3) := by decide +kernel
theorem dX13_self_19 : decode cX13_self 19 = .ok (.imul, 1) := by decide +kernel
theorem dX13_self_20 : decode cX13_self 20 = .ok (.iadd, 1) := by decide +kernel
theorem dX13_self_21 : decode cX13_self 21 = .ok (.invokevirtual 640, 3) := by decide +kernel
theorem dX13_self_24 : decode cX13_self 24 = .ok (.return_, 1) := by decide +kernel
theorem dX13_isLedInWords_0 : decode cX13_isLedInWords 0 = .ok (.aload_n 0, 1) := by decide +kernel
theorem dX13_isLedInWords_1 : decode cX13_isLedInWords 1 = .ok (.getfield 28, 3) := by decide +kernel
theorem dX13_isLedInWords_4 : decode cX13_isLedInWords 4 = .ok (.iload_n 1, 1) := by decide +kernel
theorem dX13_isLedInWords_5 : decode cX13_isLedInWords 5 = .ok (.iaload, 1) := by decide +kernel
theorem dX13_isLedInWords_6 : decode cX13_isLedInWords 6 = .ok (.istore_n 2, 1) := by decide +kernel
theorem dX13_isLedInWords_7 : decode cX13_isLedInWords 7 = .ok (.iload_n 2, 1) := by decide +kernel
theorem dX13_isLedInWords_8 : decode cX13_isLedInWords 8 = .ok (.bipush 37, 2) := by decide +kernel
theorem dX13_isLedInWords_10 : decode cX13_isLedInWords 10 = .ok (.if_icmp .eq 37, 3) := by decide +kernel
theorem dX13_isLedInWords_13 : decode cX13_isLedInWords 13 = .ok (.iload_n 2, 1) := by decide +kernel
theorem dX13_isLedInWords_14 : decode cX13_isLedInWords 14 = .ok (.bipush 38, 2) := by decide +kernel
theorem dX13_isLedInWords_16 : decode cX13_isLedInWords 16 = .ok (.if_icmp .eq 31, 3) := by decide +kernel
theorem dX13_isLedInWords_19 : decode cX13_isLedInWords 19 = .ok (.iload_n 2, 1) := by decide +kernel
theorem dX13_isLedInWords_20 : decode cX13_isLedInWords 20 = .ok (.bipush 30, 2) := by decide +kernel
theorem dX13_isLedInWords_22 : decode cX13_isLedInWords 22 = .ok (.if_icmp .eq 25, 3) := by decide +kernel
theorem dX13_isLedInWords_25 : decode cX13_isLedInWords 25 = .ok (.iload_n 2, 1) := by decide +kernel
theorem dX13_isLedInWords_26 : decode cX13_isLedInWords 26 = .ok (.bipush 32, 2) := by decide +kernel
theorem dX13_isLedInWords_28 : decode cX13_isLedInWords 28 = .ok (.if_icmp .eq 19, 3) := by decide +kernel
theorem dX13_isLedInWords_31 : decode cX13_isLedInWords 31 = .ok (.iload_n 2, 1) := by decide +kernel
theorem dX13_isLedInWords_32 : decode cX13_isLedInWords 32 = .ok (.bipush 31, 2) := by decide +kernel
theorem dX13_isLedInWords_34 : decode cX13_isLedInWords 34 = .ok (.if_icmp .ne 17, 3) := by decide +kernel
theorem dX13_isLedInWords_37 : decode cX13_isLedInWords 37 = .ok (.aload_n 0, 1) := by decide +kernel
theorem dX13_isLedInWords_38 : decode cX13_isLedInWords 38 = .ok (.getfield 55, 3) := by decide +kernel
theorem dX13_isLedInWords_41 : decode cX13_isLedInWords 41 = .ok (.iload_n 1, 1) := by decide +kernel
theorem dX13_isLedInWords_42 : decode cX13_isLedInWords 42 = .ok (.iaload, 1) := by decide +kernel
theorem dX13_isLedInWords_43 : decode cX13_isLedInWords 43 = .ok (.iconst (-1), 1) := by decide +kernel
theorem dX13_isLedInWords_44 : decode cX13_isLedInWords 44 = .ok (.if_icmp .ne 7, 3) := by decide +kernel
theorem dX13_isLedInWords_47 : decode cX13_isLedInWords 47 = .ok (.iconst 1, 1) := by decide +kernel
theorem dX13_isLedInWords_48 : decode cX13_isLedInWords 48 = .ok (.goto 4, 3) := by decide +kernel
theorem dX13_isLedInWords_51 : decode cX13_isLedInWords 51 = .ok (.iconst 0, 1) := by decide +kernel
theorem dX13_isLedInWords_52 : decode cX13_isLedInWords 52 = .ok (.ireturn, 1) := by decide +kernel
theorem dX13_tell_0 : decode cX13_tell 0 = .ok (.aload_n 0, 1) := by decide +kernel
theorem dX13_tell_1 : decode cX13_tell 1 = .ok (.getfield 728, 3) := by decide +kernel
theorem dX13_tell_4 : decode cX13_tell 4 = .ok (.aload_n 0, 1) := by decide +kernel
theorem dX13_tell_5 : decode cX13_tell 5 = .ok (.getfield 206, 3) := by decide +kernel
theorem dX13_tell_8 : decode cX13_tell 8 = .ok (.arraylength, 1) := by decide +kernel
theorem dX13_tell_9 : decode cX13_tell 9 = .ok (.if_icmp .ge 17, 3) := by decide +kernel
theorem dX13_tell_12 : decode cX13_tell 12 = .ok (.aload_n 0, 1) := by decide +kernel
theorem dX13_tell_13 : decode cX13_tell 13 = .ok (.getfield 206, 3) := by decide +kernel
theorem dX13_tell_16 : decode cX13_tell 16 = .ok (.aload_n 0, 1) := by decide +kernel
theorem dX13_tell_17 : decode cX13_tell 17 = .ok (.getfield 728, 3) := by decide +kernel
theorem dX13_tell_20 : decode cX13_tell 20 = .ok (.iload_n 1, 1) := by decide +kernel
theorem dX13_tell_21 : decode cX13_tell 21 = .ok (.sipush 255, 3) := by decide +kernel
theorem dX13_tell_24 : decode cX13_tell 24 = .ok (.iand, 1) := by decide +kernel
theorem dX13_tell_25 : decode cX13_tell 25 = .ok (.iastore, 1) := by decide +kernel
theorem dX13_tell_26 : decode cX13_tell 26 = .ok (.aload_n 0, 1) := by decide +kernel
theorem dX13_tell_27 : decode cX13_tell 27 = .ok (.dup, 1) := by decide +kernel
theorem dX13_tell_28 : decode cX13_tell 28 = .ok (.getfield 728, 3) := by decide +kernel
theorem dX13_tell_31 : decode cX13_tell 31 = .ok (.iconst 1, 1) := by decide +kernel
theorem dX13_tell_32 : decode cX13_tell 32 = .ok (.iadd, 1) := by decide +kernel
theorem dX13_tell_33 : decode cX13_tell 33 = .ok (.putfield 728, 3) := by decide +kernel
theorem dX13_tell_36 : decode cX13_tell 36 = .ok (.return_, 1) := by decide +kernel
theorem dX13_tellPair_0 : decode cX13_tellPair 0 = .ok (.aload_n 0, 1) := by decide +kernel
theorem dX13_tellPair_1 : decode cX13_tellPair 1 = .ok (.iload_n 1, 1) := by decide +kernel
theorem dX13_tellPair_2 : decode cX13_tellPair 2 = .ok (.bipush 8, 2) := by decide +kernel
theorem dX13_tellPair_4 : decode cX13_tellPair 4 = .ok (.ishr, 1) := by decide +kernel
theorem dX13_tellPair_5 : decode cX13_tellPair 5 = .ok (.invokevirtual 731, 3) := by decide +kernel
theorem dX13_tellPair_8 : decode cX13_tellPair 8 = .ok (.aload_n 0, 1) := by decide +kernel
theorem dX13_tellPair_9 : decode cX13_tellPair 9 = .ok (.iload_n 1, 1) := by decide +kernel
theorem dX13_tellPair_10 : decode cX13_tellPair 10 = .ok (.invokevirtual 731, 3) := by decide +kernel
theorem dX13_tellPair_13 : decode cX13_tellPair 13 = .ok (.return_, 1) := by decide +kernel
theorem dX13_image_0 : decode cX13_image 0 = .ok (.iload_n 1, 1) := by decide +kernel
theorem dX13_image_1 : decode cX13_image 1 = .ok (.ifCond .lt 26, 3) := by decide +kernel
theorem dX13_image_4 : decode cX13_image 4 = .ok (.iload_n 1, 1) := by decide +kernel
theorem dX13_image_5 : decode cX13_image 5 = .ok (.aload_n 0, 1) := by decide +kernel
theorem dX13_image_6 : decode cX13_image 6 = .ok (.getfield 761, 3) := by decide +kernel
theorem dX13_image_9 : decode cX13_image 9 = .ok (.if_icmp .ge 18, 3) := by decide +kernel
theorem dX13_image_12 : decode cX13_image 12 = .ok (.iload_n 2, 1) := by decide +kernel
theorem dX13_image_13 : decode cX13_image 13 = .ok (.iconst (-1), 1) := by decide +kernel
theorem dX13_image_14 : decode cX13_image 14 = .ok (.if_icmp .lt 13, 3) := by decide +kernel
theorem dX13_image_17 : decode cX13_image 17 = .ok (.iload_n 2, 1) := by decide +kernel
theorem dX13_image_18 : decode cX13_image 18 = .ok (.aload_n 0, 1) := by decide +kernel
theorem dX13_image_19 : decode cX13_image 19 = .ok (.getfield 197, 3) := by decide +kernel
theorem dX13_image_22 : decode cX13_image 22 = .ok (.iload_n 1, 1) := by decide +kernel
theorem dX13_image_23 : decode cX13_image 23 = .ok (.iaload, 1) := by decide +kernel
theorem dX13_image_24 : decode cX13_image 24 = .ok (.if_icmp .lt 5, 3) := by decide +kernel
theorem dX13_image_27 : decode cX13_image 27 = .ok (.iconst (-1), 1) := by decide +kernel
theorem dX13_image_28 : decode cX13_image 28 = .ok (.ireturn, 1) := by decide +kernel
theorem dX13_image_29 : decode cX13_image 29 = .ok (.iload_n 2, 1) := by decide +kernel
theorem dX13_image_30 : decode cX13_image 30 = .ok (.iconst (-1), 1) := by decide +kernel
theorem dX13_image_31 : decode cX13_image 31 = .ok (.if_icmp .ne 12, 3) := by decide +kernel
theorem dX13_image_34 : decode cX13_image 34 = .ok (.aload_n 0, 1) := by decide +kernel
theorem dX13_image_35 : decode cX13_image 35 = .ok (.getfield 197, 3) := by decide +kernel
theorem dX13_image_38 : decode cX13_image 38 = .ok (.iload_n 1, 1) := by decide +kernel
theorem dX13_image_39 : decode cX13_image 39 = .ok (.iaload, 1) := by decide +kernel
theorem dX13_image_40 : decode cX13_image 40 = .ok (.goto 15, 3) := by decide +kernel
theorem dX13_image_43 : decode cX13_image 43 = .ok (.aload_n 0, 1) := by decide +kernel
theorem dX13_image_44 : decode cX13_image 44 = .ok (.getfield 194, 3) := by decide +kernel
theorem dX13_image_47 : decode cX13_image 47 = .ok (.sipush 6000, 3) := by decide +kernel
theorem dX13_image_50 : decode cX13_image 50 = .ok (.iload_n 1, 1) := by decide +kernel
theorem dX13_image_51 : decode cX13_image 51 = .ok (.imul, 1) := by decide +kernel
theorem dX13_image_52 : decode cX13_image 52 = .ok (.iload_n 2, 1) := by decide +kernel
theorem dX13_image_53 : decode cX13_image 53 = .ok (.iadd, 1) := by decide +kernel
theorem dX13_image_54 : decode cX13_image 54 = .ok (.iaload, 1) := by decide +kernel
theorem dX13_image_55 : decode cX13_image 55 = .ok (.ireturn, 1) := by decide +kernel
theorem dX13_isByte_0 : decode cX13_isByte 0 = .ok (.aload_n 0, 1) := by decide +kernel
theorem dX13_isByte_1 : decode cX13_isByte 1 = .ok (.getfield 764, 3) := by decide +kernel
theorem dX13_isByte_4 : decode cX13_isByte 4 = .ok (.iconst (-1), 1) := by decide +kernel
theorem dX13_isByte_5 : decode cX13_isByte 5 = .ok (.if_icmp .eq 5, 3) := by decide +kernel
theorem dX13_isByte_8 : decode cX13_isByte 8 = .ok (.iconst 0, 1) := by decide +kernel
theorem dX13_isByte_9 : decode cX13_isByte 9 = .ok (.ireturn, 1) := by decide +kernel
theorem dX13_isByte_10 : decode cX13_isByte 10 = .ok (.iload_n 1, 1) := by decide +kernel
theorem dX13_isByte_11 : decode cX13_isByte 11 = .ok (.aload_n 0, 1) := by decide +kernel
theorem dX13_isByte_12 : decode cX13_isByte 12 = .ok (.getfield 767, 3) := by decide +kernel
theorem dX13_isByte_15 : decode cX13_isByte 15 = .ok (.if_icmp .lt 11, 3) := by decide +kernel
theorem dX13_isByte_18 : decode cX13_isByte 18 = .ok (.aload_n 0, 1) := by decide +kernel
theorem dX13_isByte_19 : decode cX13_isByte 19 = .ok (.aload_n 0, 1) := by decide +kernel
theorem dX13_isByte_20 : decode cX13_isByte 20 = .ok (.getfield 767, 3) := by decide +kernel
theorem dX13_isByte_23 : decode cX13_isByte 23 = .ok (.putfield 764, 3) := by decide +kernel
theorem dX13_isByte_26 : decode cX13_isByte 26 = .ok (.aload_n 0, 1) := by decide +kernel
theorem dX13_isByte_27 : decode cX13_isByte 27 = .ok (.getfield 764, 3) := by decide +kernel
theorem dX13_isByte_30 : decode cX13_isByte 30 = .ok (.iconst (-1), 1) := by decide +kernel
theorem dX13_isByte_31 : decode cX13_isByte 31 = .ok (.if_icmp .ne 7, 3) := by decide +kernel
theorem dX13_isByte_34 : decode cX13_isByte 34 = .ok (.iconst 1, 1) := by decide +kernel
theorem dX13_isByte_35 : decode cX13_isByte 35 = .ok (.goto 4, 3) := by decide +kernel
theorem dX13_isByte_38 : decode cX13_isByte 38 = .ok (.iconst 0, 1) := by decide +kernel
theorem dX13_isByte_39 : decode cX13_isByte 39 = .ok (.ireturn, 1) := by decide +kernel
theorem dX13_unfit_0 : decode cX13_unfit 0 = .ok (.aload_n 0, 1) := by decide +kernel
theorem dX13_unfit_1 : decode cX13_unfit 1 = .ok (.getfield 764, 3) := by decide +kernel
theorem dX13_unfit_4 : decode cX13_unfit 4 = .ok (.iconst (-1), 1) := by decide +kernel
theorem dX13_unfit_5 : decode cX13_unfit 5 = .ok (.if_icmp .ne 8, 3) := by decide +kernel
theorem dX13_unfit_8 : decode cX13_unfit 8 = .ok (.aload_n 0, 1) := by decide +kernel
theorem dX13_unfit_9 : decode cX13_unfit 9 = .ok (.iload_n 1, 1) := by decide +kernel
theorem dX13_unfit_10 : decode cX13_unfit 10 = .ok (.putfield 764, 3) := by decide +kernel
theorem dX13_unfit_13 : decode cX13_unfit 13 = .ok (.return_, 1) := by decide +kernel
theorem dX13_constantOf_0 : decode cX13_constantOf 0 = .ok (.iload_n 2, 1) := by decide +kernel
theorem dX13_constantOf_1 : decode cX13_constantOf 1 = .ok (.iconst 1, 1) := by decide +kernel
theorem dX13_constantOf_2 : decode cX13_constantOf 2 = .ok (.if_icmp .lt 28, 3) := by decide +kernel
theorem dX13_constantOf_5 : decode cX13_constantOf 5 = .ok (.iload_n 2, 1) := by decide +kernel
theorem dX13_constantOf_6 : decode cX13_constantOf 6 = .ok (.aload_n 0, 1) := by decide +kernel
theorem dX13_constantOf_7 : decode cX13_constantOf 7 = .ok (.getfield 218, 3) := by decide +kernel
theorem dX13_constantOf_10 : decode cX13_constantOf 10 = .ok (.iload_n 1, 1) := by decide +kernel
theorem dX13_constantOf_11 : decode cX13_constantOf 11 = .ok (.iaload, 1) := by decide +kernel
theorem dX13_constantOf_12 : decode cX13_constantOf 12 = .ok (.if_icmp .gt 18, 3) := by decide +kernel
theorem dX13_constantOf_15 : decode cX13_constantOf 15 = .ok (.aload_n 0, 1) := by decide +kernel
theorem dX13_constantOf_16 : decode cX13_constantOf 16 = .ok (.getfield 215, 3) := by decide +kernel
theorem dX13_constantOf_19 : decode cX13_constantOf 19 = .ok (.sipush 256, 3) := by decide +kernel
theorem dX13_constantOf_22 : decode cX13_constantOf 22 = .ok (.iload_n 1, 1) := by decide +kernel
theorem dX13_constantOf_23 : decode cX13_constantOf 23 = .ok (.imul, 1) := by decide +kernel
theorem dX13_constantOf_24 : decode cX13_constantOf 24 = .ok (.iload_n 2, 1) := by decide +kernel
theorem dX13_constantOf_25 : decode cX13_constantOf 25 = .ok (.iadd, 1) := by decide +kernel
theorem dX13_constantOf_26 : decode cX13_constantOf 26 = .ok (.iaload, 1) := by decide +kernel
theorem dX13_constantOf_27 : decode cX13_constantOf 27 = .ok (.goto 4, 3) := by decide +kernel
theorem dX13_constantOf_30 : decode cX13_constantOf 30 = .ok (.iconst (-1), 1) := by decide +kernel
theorem dX13_constantOf_31 : decode cX13_constantOf 31 = .ok (.ireturn, 1) := by decide +kernel
theorem dX13_isNamePart_0 : decode cX13_isNamePart 0 = .ok (.iload_n 0, 1) := by decide +kernel
theorem dX13_isNamePart_1 : decode cX13_isNamePart 1 = .ok (.invokestatic 345, 3) := by decide +kernel
theorem dX13_isNamePart_4 : decode cX13_isNamePart 4 = .ok (.ifCond .ne 20, 3) := by decide +kernel
theorem dX13_isNamePart_7 : decode cX13_isNamePart 7 = .ok (.iload_n 1, 1) := by decide +kernel
theorem dX13_isNamePart_8 : decode cX13_isNamePart 8 = .ok (.ifCond .ne 20, 3) := by decide +kernel
theorem dX13_isNamePart_11 : decode cX13_isNamePart 11 = .ok (.iload_n 0, 1) := by decide +kernel
theorem dX13_isNamePart_12 : decode cX13_isNamePart 12 = .ok (.invokestatic 349, 3) := by decide +kernel
theorem dX13_isNamePart_15 : decode cX13_isNamePart 15 = .ok (.ifCond .ne 9, 3) := by decide +kernel
theorem dX13_isNamePart_18 : decode cX13_isNamePart 18 = .ok (.iload_n 0, 1) := by decide +kernel
theorem dX13_isNamePart_19 : decode cX13_isNamePart 19 = .ok (.bipush 95, 2) := by decide +kernel
theorem dX13_isNamePart_21 : decode cX13_isNamePart 21 = .ok (.if_icmp .ne 7, 3) := by decide +kernel
theorem dX13_isNamePart_24 : decode cX13_isNamePart 24 = .ok (.iconst 1, 1) := by decide +kernel
theorem dX13_isNamePart_25 : decode cX13_isNamePart 25 = .ok (.goto 4, 3) := by decide +kernel
theorem dX13_isNamePart_28 : decode cX13_isNamePart 28 = .ok (.iconst 0, 1) := by decide +kernel
theorem dX13_isNamePart_29 : decode cX13_isNamePart 29 = .ok (.ireturn, 1) := by decide +kernel
theorem dX13_pairAt_0 : decode cX13_pairAt 0 = .ok (.aload_n 0, 1) := by decide +kernel
theorem dX13_pairAt_1 : decode cX13_pairAt 1 = .ok (.getfield 245, 3) := by decide +kernel
theorem dX13_pairAt_4 : decode cX13_pairAt 4 = .ok (.iload_n 1, 1) := by decide +kernel
theorem dX13_pairAt_5 : decode cX13_pairAt 5 = .ok (.iaload, 1) := by decide +kernel
theorem dX13_pairAt_6 : decode cX13_pairAt 6 = .ok (.bipush 8, 2) := by decide +kernel
theorem dX13_pairAt_8 : decode cX13_pairAt 8 = .ok (.ishl, 1) := by decide +kernel
theorem dX13_pairAt_9 : decode cX13_pairAt 9 = .ok (.aload_n 0, 1) := by decide +kernel
theorem dX13_pairAt_10 : decode cX13_pairAt 10 = .ok (.getfield 245, 3) := by decide +kernel
theorem dX13_pairAt_13 : decode cX13_pairAt 13 = .ok (.iload_n 1, 1) := by decide +kernel
theorem dX13_pairAt_14 : decode cX13_pairAt 14 = .ok (.iconst 1, 1) := by decide +kernel
theorem dX13_pairAt_15 : decode cX13_pairAt 15 = .ok (.iadd, 1) := by decide +kernel
theorem dX13_pairAt_16 : decode cX13_pairAt 16 = .ok (.iaload, 1) := by decide +kernel
theorem dX13_pairAt_17 : decode cX13_pairAt 17 = .ok (.ior, 1) := by decide +kernel
theorem dX13_pairAt_18 : decode cX13_pairAt 18 = .ok (.ireturn, 1) := by decide +kernel
theorem dX13_nameAt_0 : decode cX13_nameAt 0 = .ok (.iload_n 1, 1) := by decide +kernel
theorem dX13_nameAt_1 : decode cX13_nameAt 1 = .ok (.bipush 8, 2) := by decide +kernel
theorem dX13_nameAt_3 : decode cX13_nameAt 3 = .ok (.isub, 1) := by decide +kernel
theorem dX13_nameAt_4 : decode cX13_nameAt 4 = .ok (.istore_n 2, 1) := by decide +kernel
theorem dX13_nameAt_5 : decode cX13_nameAt 5 = .ok (.sipush 6000, 3) := by decide +kernel
theorem dX13_nameAt_8 : decode cX13_nameAt 8 = .ok (.iload_n 2, 1) := by decide +kernel
theorem dX13_nameAt_9 : decode cX13_nameAt 9 = .ok (.imul, 1) := by decide +kernel
theorem dX13_nameAt_10 : decode cX13_nameAt 10 = .ok (.aload_n 0, 1) := by decide +kernel
theorem dX13_nameAt_11 : decode cX13_nameAt 11 = .ok (.getfield 215, 3) := by decide +kernel
theorem dX13_nameAt_14 : decode cX13_nameAt 14 = .ok (.sipush 256, 3) := by decide +kernel
theorem dX13_nameAt_17 : decode cX13_nameAt 17 = .ok (.iload_n 2, 1) := by decide +kernel
theorem dX13_nameAt_18 : decode cX13_nameAt 18 = .ok (.imul, 1) := by decide +kernel
theorem dX13_nameAt_19 : decode cX13_nameAt 19 = .ok (.aload_n 0, 1) := by decide +kernel
theorem dX13_nameAt_20 : decode cX13_nameAt 20 = .ok (.getfield 221, 3) := by decide +kernel
theorem dX13_nameAt_23 : decode cX13_nameAt 23 = .ok (.iload_n 2, 1) := by decide +kernel
theorem dX13_nameAt_24 : decode cX13_nameAt 24 = .ok (.iaload, 1) := by decide +kernel
theorem dX13_nameAt_25 : decode cX13_nameAt 25 = .ok (.iadd, 1) := by decide +kernel
theorem dX13_nameAt_26 : decode cX13_nameAt 26 = .ok (.iaload, 1) := by decide +kernel
theorem dX13_nameAt_27 : decode cX13_nameAt 27 = .ok (.iadd, 1) := by decide +kernel
theorem dX13_nameAt_28 : decode cX13_nameAt 28 = .ok (.istore_n 3, 1) := by decide +kernel
theorem dX13_nameAt_29 : decode cX13_nameAt 29 = .ok (.sipush 6000, 3) := by decide +kernel
theorem dX13_nameAt_32 : decode cX13_nameAt 32 = .ok (.iload_n 2, 1) := by decide +kernel
theorem dX13_nameAt_33 : decode cX13_nameAt 33 = .ok (.imul, 1) := by decide +kernel
theorem dX13_nameAt_34 : decode cX13_nameAt 34 = .ok (.aload_n 0, 1) := by decide +kernel
theorem dX13_nameAt_35 : decode cX13_nameAt 35 = .ok (.getfield 215, 3) := by decide +kernel
theorem dX13_nameAt_38 : decode cX13_nameAt 38 = .ok (.sipush 256, 3) := by decide +kernel
theorem dX13_nameAt_41 : decode cX13_nameAt 41 = .ok (.iload_n 2, 1) := by decide +kernel
theorem dX13_nameAt_42 : decode cX13_nameAt 42 = .ok (.imul, 1) := by decide +kernel
theorem dX13_nameAt_43 : decode cX13_nameAt 43 = .ok (.aload_n 0, 1) := by decide +kernel
theorem dX13_nameAt_44 : decode cX13_nameAt 44 = .ok (.getfield 209, 3) := by decide +kernel
theorem dX13_nameAt_47 : decode cX13_nameAt 47 = .ok (.iload_n 3, 1) := by decide +kernel
theorem dX13_nameAt_48 : decode cX13_nameAt 48 = .ok (.iconst 1, 1) := by decide +kernel
theorem dX13_nameAt_49 : decode cX13_nameAt 49 = .ok (.iadd, 1) := by decide +kernel
theorem dX13_nameAt_50 : decode cX13_nameAt 50 = .ok (.iaload, 1) := by decide +kernel
theorem dX13_nameAt_51 : decode cX13_nameAt 51 = .ok (.iadd, 1) := by decide +kernel
theorem dX13_nameAt_52 : decode cX13_nameAt 52 = .ok (.iaload, 1) := by decide +kernel
theorem dX13_nameAt_53 : decode cX13_nameAt 53 = .ok (.iadd, 1) := by decide +kernel
theorem dX13_nameAt_54 : decode cX13_nameAt 54 = .ok (.iconst 1, 1) := by decide +kernel
theorem dX13_nameAt_55 : decode cX13_nameAt 55 = .ok (.iadd, 1) := by decide +kernel
theorem dX13_nameAt_56 : decode cX13_nameAt 56 = .ok (.ireturn, 1) := by decide +kernel
theorem dX13_byteAt_0 : decode cX13_byteAt 0 = .ok (.aload_n 0, 1) := by decide +kernel
theorem dX13_byteAt_1 : decode cX13_byteAt 1 = .ok (.getfield 209, 3) := by decide +kernel
theorem dX13_byteAt_4 : decode cX13_byteAt 4 = .ok (.sipush 6000, 3) := by decide +kernel
theorem dX13_byteAt_7 : decode cX13_byteAt 7 = .ok (.iload_n 1, 1) := by decide +kernel
theorem dX13_byteAt_8 : decode cX13_byteAt 8 = .ok (.imul, 1) := by decide +kernel
theorem dX13_byteAt_9 : decode cX13_byteAt 9 = .ok (.iload_n 2, 1) := by decide +kernel
theorem dX13_byteAt_10 : decode cX13_byteAt 10 = .ok (.iadd, 1) := by decide +kernel
theorem dX13_byteAt_11 : decode cX13_byteAt 11 = .ok (.iaload, 1) := by decide +kernel
theorem dX13_byteAt_12 : decode cX13_byteAt 12 = .ok (.ireturn, 1) := by decide +kernel
theorem dX13_textOfClass_0 : decode cX13_textOfClass 0 = .ok (.aload_n 0, 1) := by decide +kernel
theorem dX13_textOfClass_1 : decode cX13_textOfClass 1 = .ok (.iload_n 1, 1) := by decide +kernel
theorem dX13_textOfClass_2 : decode cX13_textOfClass 2 = .ok (.aload_n 0, 1) := by decide +kernel
theorem dX13_textOfClass_3 : decode cX13_textOfClass 3 = .ok (.getfield 215, 3) := by decide +kernel
theorem dX13_textOfClass_6 : decode cX13_textOfClass 6 = .ok (.sipush 256, 3) := by decide +kernel
theorem dX13_textOfClass_9 : decode cX13_textOfClass 9 = .ok (.iload_n 1, 1) := by decide +kernel
theorem dX13_textOfClass_10 : decode cX13_textOfClass 10 = .ok (.imul, 1) := by decide +kernel
theorem dX13_textOfClass_11 : decode cX13_textOfClass 11 = .ok (.iload_n 2, 1) := by decide +kernel
theorem dX13_textOfClass_12 : decode cX13_textOfClass 12 = .ok (.iadd, 1) := by decide +kernel
theorem dX13_textOfClass_13 : decode cX13_textOfClass 13 = .ok (.iaload, 1) := by decide +kernel
theorem dX13_textOfClass_14 : decode cX13_textOfClass 14 = .ok (.iconst 1, 1) := by decide +kernel
theorem dX13_textOfClass_15 : decode cX13_textOfClass 15 = .ok (.iadd, 1) := by decide +kernel
theorem dX13_textOfClass_16 : decode cX13_textOfClass 16 = .ok (.invokevirtual 864, 3) := by decide +kernel
theorem dX13_textOfClass_19 : decode cX13_textOfClass 19 = .ok (.ireturn, 1) := by decide +kernel
theorem dX13_isRow_0 : decode cX13_isRow 0 = .ok (.iload_n 0, 1) := by decide +kernel
theorem dX13_isRow_1 : decode cX13_isRow 1 = .ok (.iconst 3, 1) := by decide +kernel
theorem dX13_isRow_2 : decode cX13_isRow 2 = .ok (.if_icmp .eq 15, 3) := by decide +kernel
theorem dX13_isRow_5 : decode cX13_isRow 5 = .ok (.iload_n 0, 1) := by decide +kernel
theorem dX13_isRow_6 : decode cX13_isRow 6 = .ok (.iconst 4, 1) := by decide +kernel
theorem dX13_isRow_7 : decode cX13_isRow 7 = .ok (.if_icmp .lt 14, 3) := by decide +kernel
theorem dX13_isRow_10 : decode cX13_isRow 10 = .ok (.iload_n 0, 1) := by decide +kernel
theorem dX13_isRow_11 : decode cX13_isRow 11 = .ok (.iconst 2, 1) := by decide +kernel
theorem dX13_isRow_12 : decode cX13_isRow 12 = .ok (.irem, 1) := by decide +kernel
theorem dX13_isRow_13 : decode cX13_isRow 13 = .ok (.iconst 1, 1) := by decide +kernel
theorem dX13_isRow_14 : decode cX13_isRow 14 = .ok (.if_icmp .ne 7, 3) := by decide +kernel
theorem dX13_isRow_17 : decode cX13_isRow 17 = .ok (.iconst 1, 1) := by decide +kernel
theorem dX13_isRow_18 : decode cX13_isRow 18 = .ok (.goto 4, 3) := by decide +kernel
theorem dX13_isRow_21 : decode cX13_isRow 21 = .ok (.iconst 0, 1) := by decide +kernel
theorem dX13_isRow_22 : decode cX13_isRow 22 = .ok (.ireturn, 1) := by decide +kernel
theorem dX13_isThere_0 : decode cX13_isThere 0 = .ok (.iload_n 0, 1) := by decide +kernel
theorem dX13_isThere_1 : decode cX13_isThere 1 = .ok (.iconst 4, 1) := by decide +kernel
theorem dX13_isThere_2 : decode cX13_isThere 2 = .ok (.if_icmp .lt 13, 3) := by decide +kernel
theorem dX13_isThere_5 : decode cX13_isThere 5 = .ok (.iload_n 0, 1) := by decide +kernel
theorem dX13_isThere_6 : decode cX13_isThere 6 = .ok (.iconst 4, 1) := by decide +kernel
theorem dX13_isThere_7 : decode cX13_isThere 7 = .ok (.isub, 1) := by decide +kernel
theorem dX13_isThere_8 : decode cX13_isThere 8 = .ok (.iconst 2, 1) := by decide +kernel
theorem dX13_isThere_9 : decode cX13_isThere 9 = .ok (.idiv, 1) := by decide +kernel
theorem dX13_isThere_10 : decode cX13_isThere 10 = .ok (.bipush 16, 2) := by decide +kernel
theorem dX13_isThere_12 : decode cX13_isThere 12 = .ok (.if_icmp .ge 7, 3) := by decide +kernel
theorem dX13_isThere_15 : decode cX13_isThere 15 = .ok (.iconst 1, 1) := by decide +kernel
theorem dX13_isThere_16 : decode cX13_isThere 16 = .ok (.goto 4, 3) := by decide +kernel
theorem dX13_isThere_19 : decode cX13_isThere 19 = .ok (.iconst 0, 1) := by decide +kernel
theorem dX13_isThere_20 : decode cX13_isThere 20 = .ok (.ireturn, 1) := by decide +kernel
theorem dX13_nameText_0 : decode cX13_nameText 0 = .ok (.iload_n 3, 1) := by decide +kernel
theorem dX13_nameText_1 : decode cX13_nameText 1 = .ok (.ifCond .eq 24, 3) := by decide +kernel
theorem dX13_nameText_4 : decode cX13_nameText 4 = .ok (.aload_n 0, 1) := by decide +kernel
theorem dX13_nameText_5 : decode cX13_nameText 5 = .ok (.iload_n 1, 1) := by decide +kernel
theorem dX13_nameText_6 : decode cX13_nameText 6 = .ok (.aload_n 0, 1) := by decide +kernel
theorem dX13_nameText_7 : decode cX13_nameText 7 = .ok (.getfield 236, 3) := by decide +kernel
theorem dX13_nameText_10 : decode cX13_nameText 10 = .ok (.bipush 12, 2) := by decide +kernel
theorem dX13_nameText_12 : decode cX13_nameText 12 = .ok (.iload_n 1, 1) := by decide +kernel
theorem dX13_nameText_13 : decode cX13_nameText 13 = .ok (.imul, 1) := by decide +kernel
theorem dX13_nameText_14 : decode cX13_nameText 14 = .ok (.iload_n 2, 1) := by decide +kernel
theorem dX13_nameText_15 : decode cX13_nameText 15 = .ok (.iadd, 1) := by decide +kernel
theorem dX13_nameText_16 : decode cX13_nameText 16 = .ok (.iaload, 1) := by decide +kernel
theorem dX13_nameText_17 : decode cX13_nameText 17 = .ok (.iconst 1, 1) := by decide +kernel
theorem dX13_nameText_18 : decode cX13_nameText 18 = .ok (.iadd, 1) := by decide +kernel
theorem dX13_nameText_19 : decode cX13_nameText 19 = .ok (.invokevirtual 864, 3) := by decide +kernel
theorem dX13_nameText_22 : decode cX13_nameText 22 = .ok (.goto 19, 3) := by decide +kernel
theorem dX13_nameText_25 : decode cX13_nameText 25 = .ok (.aload_n 0, 1) := by decide +kernel
theorem dX13_nameText_26 : decode cX13_nameText 26 = .ok (.iload_n 1, 1) := by decide +kernel
theorem dX13_nameText_27 : decode cX13_nameText 27 = .ok (.aload_n 0, 1) := by decide +kernel
theorem dX13_nameText_28 : decode cX13_nameText 28 = .ok (.getfield 230, 3) := by decide +kernel
theorem dX13_nameText_31 : decode cX13_nameText 31 = .ok (.bipush 12, 2) := by decide +kernel
theorem dX13_nameText_33 : decode cX13_nameText 33 = .ok (.iload_n 1, 1) := by decide +kernel
theorem dX13_nameText_34 : decode cX13_nameText 34 = .ok (.imul, 1) := by decide +kernel
theorem dX13_nameText_35 : decode cX13_nameText 35 = .ok (.iload_n 2, 1) := by decide +kernel
theorem dX13_nameText_36 : decode cX13_nameText 36 = .ok (.iadd, 1) := by decide +kernel
theorem dX13_nameText_37 : decode cX13_nameText 37 = .ok (.iaload, 1) := by decide +kernel
theorem dX13_nameText_38 : decode cX13_nameText 38 = .ok (.invokevirtual 864, 3) := by decide +kernel
theorem dX13_nameText_41 : decode cX13_nameText 41 = .ok (.ireturn, 1) := by decide +kernel
theorem dX13_kindText_0 : decode cX13_kindText 0 = .ok (.iload_n 3, 1) := by decide +kernel
theorem dX13_kindText_1 : decode cX13_kindText 1 = .ok (.ifCond .eq 24, 3) := by decide +kernel
theorem dX13_kindText_4 : decode cX13_kindText 4 = .ok (.aload_n 0, 1) := by decide +kernel
theorem dX13_kindText_5 : decode cX13_kindText 5 = .ok (.iload_n 1, 1) := by decide +kernel
theorem dX13_kindText_6 : decode cX13_kindText 6 = .ok (.aload_n 0, 1) := by decide +kernel
theorem dX13_kindText_7 : decode cX13_kindText 7 = .ok (.getfield 236, 3) := by decide +kernel
theorem dX13_kindText_10 : decode cX13_kindText 10 = .ok (.bipush 12, 2) := by decide +kernel
theorem dX13_kindText_12 : decode cX13_kindText 12 = .ok (.iload_n 1, 1) := by decide +kernel
theorem dX13_kindText_13 : decode cX13_kindText 13 = .ok (.imul, 1) := by decide +kernel
theorem dX13_kindText_14 : decode cX13_kindText 14 = .ok (.iload_n 2, 1) := by decide +kernel
theorem dX13_kindText_15 : decode cX13_kindText 15 = .ok (.iadd, 1) := by decide +kernel
theorem dX13_kindText_16 : decode cX13_kindText 16 = .ok (.iaload, 1) := by decide +kernel
theorem dX13_kindText_17 : decode cX13_kindText 17 = .ok (.iconst 2, 1) := by decide +kernel
theorem dX13_kindText_18 : decode cX13_kindText 18 = .ok (.iadd, 1) := by decide +kernel
theorem dX13_kindText_19 : decode cX13_kindText 19 = .ok (.invokevirtual 864, 3) := by decide +kernel
theorem dX13_kindText_22 : decode cX13_kindText 22 = .ok (.goto 21, 3) := by decide +kernel
theorem dX13_kindText_25 : decode cX13_kindText 25 = .ok (.aload_n 0, 1) := by decide +kernel
theorem dX13_kindText_26 : decode cX13_kindText 26 = .ok (.iload_n 1, 1) := by decide +kernel
theorem dX13_kindText_27 : decode cX13_kindText 27 = .ok (.aload_n 0, 1) := by decide +kernel
theorem dX13_kindText_28 : decode cX13_kindText 28 = .ok (.getfield 230, 3) := by decide +kernel
theorem dX13_kindText_31 : decode cX13_kindText 31 = .ok (.bipush 12, 2) := by decide +kernel
theorem dX13_kindText_33 : decode cX13_kindText 33 = .ok (.iload_n 1, 1) := by decide +kernel
theorem dX13_kindText_34 : decode cX13_kindText 34 = .ok (.imul, 1) := by decide +kernel
theorem dX13_kindText_35 : decode cX13_kindText 35 = .ok (.iload_n 2, 1) := by decide +kernel
theorem dX13_kindText_36 : decode cX13_kindText 36 = .ok (.iadd, 1) := by decide +kernel
theorem dX13_kindText_37 : decode cX13_kindText 37 = .ok (.iaload, 1) := by decide +kernel
theorem dX13_kindText_38 : decode cX13_kindText 38 = .ok (.iconst 1, 1) := by decide +kernel
theorem dX13_kindText_39 : decode cX13_kindText 39 = .ok (.iadd, 1) := by decide +kernel
theorem dX13_kindText_40 : decode cX13_kindText 40 = .ok (.invokevirtual 864, 3) := by decide +kernel
theorem dX13_kindText_43 : decode cX13_kindText 43 = .ok (.ireturn, 1) := by decide +kernel
theorem dX13_bad_0 : decode cX13_bad 0 = .ok (.aload_n 0, 1) := by decide +kernel
theorem dX13_bad_1 : decode cX13_bad 1 = .ok (.iload_n 1, 1) := by decide +kernel
theorem dX13_bad_2 : decode cX13_bad 2 = .ok (.putfield 901, 3) := by decide +kernel
theorem dX13_bad_5 : decode cX13_bad 5 = .ok (.aload_n 0, 1) := by decide +kernel
theorem dX13_bad_6 : decode cX13_bad 6 = .ok (.iload_n 2, 1) := by decide +kernel
theorem dX13_bad_7 : decode cX13_bad 7 = .ok (.putfield 257, 3) := by decide +kernel
theorem dX13_bad_10 : decode cX13_bad 10 = .ok (.aload_n 0, 1) := by decide +kernel
theorem dX13_bad_11 : decode cX13_bad 11 = .ok (.iload_n 3, 1) := by decide +kernel
theorem dX13_bad_12 : decode cX13_bad 12 = .ok (.putfield 261, 3) := by decide +kernel
theorem dX13_bad_15 : decode cX13_bad 15 = .ok (.aload_n 0, 1) := by decide +kernel
theorem dX13_bad_16 : decode cX13_bad 16 = .ok (.iload 4, 2) := by decide +kernel
theorem dX13_bad_18 : decode cX13_bad 18 = .ok (.putfield 264, 3) := by decide +kernel
theorem dX13_bad_21 : decode cX13_bad 21 = .ok (.iconst 0, 1) := by decide +kernel
theorem dX13_bad_22 : decode cX13_bad 22 = .ok (.ireturn, 1) := by decide +kernel
theorem dX13_widthOf_0 : decode cX13_widthOf 0 = .ok (.iload_n 0, 1) := by decide +kernel
theorem dX13_widthOf_1 : decode cX13_widthOf 1 = .ok (.bipush 8, 2) := by decide +kernel
theorem dX13_widthOf_3 : decode cX13_widthOf 3 = .ok (.if_icmp .gt 5, 3) := by decide +kernel
theorem dX13_widthOf_6 : decode cX13_widthOf 6 = .ok (.iconst 1, 1) := by decide +kernel
theorem dX13_widthOf_7 : decode cX13_widthOf 7 = .ok (.ireturn, 1) := by decide +kernel
theorem dX13_widthOf_8 : decode cX13_widthOf 8 = .ok (.iload_n 0, 1) := by decide +kernel
theorem dX13_widthOf_9 : decode cX13_widthOf 9 = .ok (.tableswitch 733 16 193 #[727, 733, 727, 733, 733, 727, 733, 733, 733, 727, 733, 733, 733, 733, 733, 733, 733, 733, 733, 733, 733, 733, 733, 733, 733, 733, 733, 733, 733, 733, 729, 733, 733, 733, 729, 733, 733, 733, 727, 733, 733, 733, 727, 733, 733, 733, 733, 733, 733, 733, 733, 733, 733, 733, 733, 733, 733, 733, 733, 733, 733, 733, 733, 729, 733, 733, 733, 729, 733, 733, 733, 729, 733, 729, 733, 733, 733, 733, 733, 733, 729, 733, 733, 733, 729, 733, 733, 733, 729, 733, 733, 733, 729, 733, 733, 733, 729, 733, 733, 733, 729, 733, 733, 733, 729, 733, 729, 733, 729, 733, 729, 733, 729, 733, 729, 733, 733, 733, 733, 733, 733, 733, 733, 733, 733, 733, 733, 733, 733, 733, 733, 733, 733, 733, 733, 733, 733, 731, 731, 733, 733, 733, 733, 731, 731, 731, 731, 731, 731, 731, 731, 731, 733, 733, 733, 733, 729, 733, 733, 733, 729, 729, 733, 733, 727, 727, 727, 733, 727, 733, 729, 727, 727, 727, 729, 729, 727, 727], 727) := by decide +kernel
theorem dX13_widthOf_736 : decode cX13_widthOf 736 = .ok (.iconst 2, 1) := by decide +kernel
theorem dX13_widthOf_737 : decode cX13_widthOf 737 = .ok (.ireturn, 1) := by decide +kernel
theorem dX13_widthOf_738 : decode cX13_widthOf 738 = .ok (.iconst 1, 1) := by decide +kernel
theorem dX13_widthOf_739 : decode cX13_widthOf 739 = .ok (.ireturn, 1) := by decide +kernel
theorem dX13_widthOf_740 : decode cX13_widthOf 740 = .ok (.iconst 3, 1) := by decide +kernel
theorem dX13_widthOf_741 : decode cX13_widthOf 741 = .ok (.ireturn, 1) := by decide +kernel
theorem dX13_widthOf_742 : decode cX13_widthOf 742 = .ok (.iconst 0, 1) := by decide +kernel
theorem dX13_widthOf_743 : decode cX13_widthOf 743 = .ok (.ireturn, 1) := by decide +kernel
theorem dX13_isJump_0 : decode cX13_isJump 0 = .ok (.iload_n 0, 1) := by decide +kernel
theorem dX13_isJump_1 : decode cX13_isJump 1 = .ok (.sipush 153, 3) := by decide +kernel
theorem dX13_isJump_4 : decode cX13_isJump 4 = .ok (.if_icmp .lt 14, 3) := by decide +kernel
theorem dX13_isJump_7 : decode cX13_isJump 7 = .ok (.iload_n 0, 1) := by decide +kernel
theorem dX13_isJump_8 : decode cX13_isJump 8 = .ok (.sipush 167, 3) := by decide +kernel
theorem dX13_isJump_11 : decode cX13_isJump 11 = .ok (.if_icmp .gt 7, 3) := by decide +kernel
theorem dX13_isJump_14 : decode cX13_isJump 14 = .ok (.iconst 1, 1) := by decide +kernel
theorem dX13_isJump_15 : decode cX13_isJump 15 = .ok (.goto 4, 3) := by decide +kernel
theorem dX13_isJump_18 : decode cX13_isJump 18 = .ok (.iconst 0, 1) := by decide +kernel
theorem dX13_isJump_19 : decode cX13_isJump 19 = .ok (.ireturn, 1) := by decide +kernel
theorem dX13_code_0 : decode cX13_code 0 = .ok (.aload_n 0, 1) := by decide +kernel
theorem dX13_code_1 : decode cX13_code 1 = .ok (.aload_n 0, 1) := by decide +kernel
theorem dX13_code_2 : decode cX13_code 2 = .ok (.getfield 932, 3) := by decide +kernel
theorem dX13_code_5 : decode cX13_code 5 = .ok (.aload_n 0, 1) := by decide +kernel
theorem dX13_code_6 : decode cX13_code 6 = .ok (.getfield 935, 3) := by decide +kernel
theorem dX13_code_9 : decode cX13_code 9 = .ok (.iload_n 1, 1) := by decide +kernel
theorem dX13_code_10 : decode cX13_code 10 = .ok (.iadd, 1) := by decide +kernel
theorem dX13_code_11 : decode cX13_code 11 = .ok (.invokevirtual 864, 3) := by decide +kernel
theorem dX13_code_14 : decode cX13_code 14 = .ok (.ireturn, 1) := by decide +kernel
theorem dX13_aimOf_0 : decode cX13_aimOf 0 = .ok (.iload_n 1, 1) := by decide +kernel
theorem dX13_aimOf_1 : decode cX13_aimOf 1 = .ok (.aload_n 0, 1) := by decide +kernel
theorem dX13_aimOf_2 : decode cX13_aimOf 2 = .ok (.iload_n 1, 1) := by decide +kernel
theorem dX13_aimOf_3 : decode cX13_aimOf 3 = .ok (.iconst 1, 1) := by decide +kernel
theorem dX13_aimOf_4 : decode cX13_aimOf 4 = .ok (.iadd, 1) := by decide +kernel
theorem dX13_aimOf_5 : decode cX13_aimOf 5 = .ok (.invokevirtual 938, 3) := by decide +kernel
theorem dX13_aimOf_8 : decode cX13_aimOf 8 = .ok (.bipush 8, 2) := by decide +kernel
theorem dX13_aimOf_10 : decode cX13_aimOf 10 = .ok (.ishl, 1) := by decide +kernel
theorem dX13_aimOf_11 : decode cX13_aimOf 11 = .ok (.aload_n 0, 1) := by decide +kernel
theorem dX13_aimOf_12 : decode cX13_aimOf 12 = .ok (.iload_n 1, 1) := by decide +kernel
theorem dX13_aimOf_13 : decode cX13_aimOf 13 = .ok (.iconst 2, 1) := by decide +kernel
theorem dX13_aimOf_14 : decode cX13_aimOf 14 = .ok (.iadd, 1) := by decide +kernel
theorem dX13_aimOf_15 : decode cX13_aimOf 15 = .ok (.invokevirtual 938, 3) := by decide +kernel
theorem dX13_aimOf_18 : decode cX13_aimOf 18 = .ok (.ior, 1) := by decide +kernel
theorem dX13_aimOf_19 : decode cX13_aimOf 19 = .ok (.i2s, 1) := by decide +kernel
theorem dX13_aimOf_20 : decode cX13_aimOf 20 = .ok (.iadd, 1) := by decide +kernel
theorem dX13_aimOf_21 : decode cX13_aimOf 21 = .ok (.ireturn, 1) := by decide +kernel
theorem dX13_pairIn_0 : decode cX13_pairIn 0 = .ok (.aload_n 0, 1) := by decide +kernel
theorem dX13_pairIn_1 : decode cX13_pairIn 1 = .ok (.aload_n 0, 1) := by decide +kernel
theorem dX13_pairIn_2 : decode cX13_pairIn 2 = .ok (.getfield 932, 3) := by decide +kernel
theorem dX13_pairIn_5 : decode cX13_pairIn 5 = .ok (.iload_n 1, 1) := by decide +kernel
theorem dX13_pairIn_6 : decode cX13_pairIn 6 = .ok (.invokevirtual 864, 3) := by decide +kernel
theorem dX13_pairIn_9 : decode cX13_pairIn 9 = .ok (.bipush 8, 2) := by decide +kernel
theorem dX13_pairIn_11 : decode cX13_pairIn 11 = .ok (.ishl, 1) := by decide +kernel
theorem dX13_pairIn_12 : decode cX13_pairIn 12 = .ok (.aload_n 0, 1) := by decide +kernel
theorem dX13_pairIn_13 : decode cX13_pairIn 13 = .ok (.aload_n 0, 1) := by decide +kernel
theorem dX13_pairIn_14 : decode cX13_pairIn 14 = .ok (.getfield 932, 3) := by decide +kernel
theorem dX13_pairIn_17 : decode cX13_pairIn 17 = .ok (.iload_n 1, 1) := by decide +kernel
theorem dX13_pairIn_18 : decode cX13_pairIn 18 = .ok (.iconst 1, 1) := by decide +kernel
theorem dX13_pairIn_19 : decode cX13_pairIn 19 = .ok (.iadd, 1) := by decide +kernel
theorem dX13_pairIn_20 : decode cX13_pairIn 20 = .ok (.invokevirtual 864, 3) := by decide +kernel
theorem dX13_pairIn_23 : decode cX13_pairIn 23 = .ok (.ior, 1) := by decide +kernel
theorem dX13_pairIn_24 : decode cX13_pairIn 24 = .ok (.ireturn, 1) := by decide +kernel
theorem dX13_frameMany_0 : decode cX13_frameMany 0 = .ok (.aload_n 0, 1) := by decide +kernel
theorem dX13_frameMany_1 : decode cX13_frameMany 1 = .ok (.aload_n 0, 1) := by decide +kernel
theorem dX13_frameMany_2 : decode cX13_frameMany 2 = .ok (.getfield 932, 3) := by decide +kernel
theorem dX13_frameMany_5 : decode cX13_frameMany 5 = .ok (.aload_n 0, 1) := by decide +kernel
theorem dX13_frameMany_6 : decode cX13_frameMany 6 = .ok (.getfield 242, 3) := by decide +kernel
theorem dX13_frameMany_9 : decode cX13_frameMany 9 = .ok (.bipush 12, 2) := by decide +kernel
theorem dX13_frameMany_11 : decode cX13_frameMany 11 = .ok (.aload_n 0, 1) := by decide +kernel
theorem dX13_frameMany_12 : decode cX13_frameMany 12 = .ok (.getfield 932, 3) := by decide +kernel
theorem dX13_frameMany_15 : decode cX13_frameMany 15 = .ok (.imul, 1) := by decide +kernel
theorem dX13_frameMany_16 : decode cX13_frameMany 16 = .ok (.aload_n 0, 1) := by decide +kernel
theorem dX13_frameMany_17 : decode cX13_frameMany 17 = .ok (.getfield 940, 3) := by decide +kernel
theorem dX13_frameMany_20 : decode cX13_frameMany 20 = .ok (.iadd, 1) := by decide +kernel
theorem dX13_frameMany_21 : decode cX13_frameMany 21 = .ok (.iaload, 1) := by decide +kernel
theorem dX13_frameMany_22 : decode cX13_frameMany 22 = .ok (.invokevirtual 864, 3) := by decide +kernel
theorem dX13_frameMany_25 : decode cX13_frameMany 25 = .ok (.ireturn, 1) := by decide +kernel
theorem dX13_sortOf_0 : decode cX13_sortOf 0 = .ok (.iload_n 1, 1) := by decide +kernel
theorem dX13_sortOf_1 : decode cX13_sortOf 1 = .ok (.iconst 1, 1) := by decide +kernel
theorem dX13_sortOf_2 : decode cX13_sortOf 2 = .ok (.if_icmp .lt 42, 3) := by decide +kernel
theorem dX13_sortOf_5 : decode cX13_sortOf 5 = .ok (.iload_n 1, 1) := by decide +kernel
theorem dX13_sortOf_6 : decode cX13_sortOf 6 = .ok (.aload_n 0, 1) := by decide +kernel
theorem dX13_sortOf_7 : decode cX13_sortOf 7 = .ok (.getfield 218, 3) := by decide +kernel
theorem dX13_sortOf_10 : decode cX13_sortOf 10 = .ok (.aload_n 0, 1) := by decide +kernel
theorem dX13_sortOf_11 : decode cX13_sortOf 11 = .ok (.getfield 932, 3) := by decide +kernel
theorem dX13_sortOf_14 : decode cX13_sortOf 14 = .ok (.iaload, 1) := by decide +kernel
theorem dX13_sortOf_15 : decode cX13_sortOf 15 = .ok (.if_icmp .gt 29, 3) := by decide +kernel
theorem dX13_sortOf_18 : decode cX13_sortOf 18 = .ok (.aload_n 0, 1) := by decide +kernel
theorem dX13_sortOf_19 : decode cX13_sortOf 19 = .ok (.aload_n 0, 1) := by decide +kernel
theorem dX13_sortOf_20 : decode cX13_sortOf 20 = .ok (.getfield 932, 3) := by decide +kernel
theorem dX13_sortOf_23 : decode cX13_sortOf 23 = .ok (.aload_n 0, 1) := by decide +kernel
theorem dX13_sortOf_24 : decode cX13_sortOf 24 = .ok (.getfield 215, 3) := by decide +kernel
theorem dX13_sortOf_27 : decode cX13_sortOf 27 = .ok (.sipush 256, 3) := by decide +kernel
theorem dX13_sortOf_30 : decode cX13_sortOf 30 = .ok (.aload_n 0, 1) := by decide +kernel
theorem dX13_sortOf_31 : decode cX13_sortOf 31 = .ok (.getfield 932, 3) := by decide +kernel
theorem dX13_sortOf_34 : decode cX13_sortOf 34 = .ok (.imul, 1) := by decide +kernel
theorem dX13_sortOf_35 : decode cX13_sortOf 35 = .ok (.iload_n 1, 1) := by decide +kernel
theorem dX13_sortOf_36 : decode cX13_sortOf 36 = .ok (.iadd, 1) := by decide +kernel
theorem dX13_sortOf_37 : decode cX13_sortOf 37 = .ok (.iaload, 1) := by decide +kernel
theorem dX13_sortOf_38 : decode cX13_sortOf 38 = .ok (.invokevirtual 864, 3) := by decide +kernel
theorem dX13_sortOf_41 : decode cX13_sortOf 41 = .ok (.goto 4, 3) := by decide +kernel
theorem dX13_sortOf_44 : decode cX13_sortOf 44 = .ok (.iconst 0, 1) := by decide +kernel
theorem dX13_sortOf_45 : decode cX13_sortOf 45 = .ok (.ireturn, 1) := by decide +kernel
theorem dX13_partOf_0 : decode cX13_partOf 0 = .ok (.aload_n 0, 1) := by decide +kernel
theorem dX13_partOf_1 : decode cX13_partOf 1 = .ok (.aload_n 0, 1) := by decide +kernel
theorem dX13_partOf_2 : decode cX13_partOf 2 = .ok (.getfield 932, 3) := by decide +kernel
theorem dX13_partOf_5 : decode cX13_partOf 5 = .ok (.aload_n 0, 1) := by decide +kernel
theorem dX13_partOf_6 : decode cX13_partOf 6 = .ok (.getfield 215, 3) := by decide +kernel
theorem dX13_partOf_9 : decode cX13_partOf 9 = .ok (.sipush 256, 3) := by decide +kernel
theorem dX13_partOf_12 : decode cX13_partOf 12 = .ok (.aload_n 0, 1) := by decide +kernel
theorem dX13_partOf_13 : decode cX13_partOf 13 = .ok (.getfield 932, 3) := by decide +kernel
theorem dX13_partOf_16 : decode cX13_partOf 16 = .ok (.imul, 1) := by decide +kernel
theorem dX13_partOf_17 : decode cX13_partOf 17 = .ok (.iload_n 1, 1) := by decide +kernel
theorem dX13_partOf_18 : decode cX13_partOf 18 = .ok (.iadd, 1) := by decide +kernel
theorem dX13_partOf_19 : decode cX13_partOf 19 = .ok (.iaload, 1) := by decide +kernel
theorem dX13_partOf_20 : decode cX13_partOf 20 = .ok (.iconst 1, 1) := by decide +kernel
theorem dX13_partOf_21 : decode cX13_partOf 21 = .ok (.iadd, 1) := by decide +kernel
theorem dX13_partOf_22 : decode cX13_partOf 22 = .ok (.iload_n 2, 1) := by decide +kernel
theorem dX13_partOf_23 : decode cX13_partOf 23 = .ok (.iadd, 1) := by decide +kernel
theorem dX13_partOf_24 : decode cX13_partOf 24 = .ok (.invokevirtual 864, 3) := by decide +kernel
theorem dX13_partOf_27 : decode cX13_partOf 27 = .ok (.ireturn, 1) := by decide +kernel
theorem dX13_comesBack_0 : decode cX13_comesBack 0 = .ok (.aload_n 0, 1) := by decide +kernel
theorem dX13_comesBack_1 : decode cX13_comesBack 1 = .ok (.getfield 961, 3) := by decide +kernel
theorem dX13_comesBack_4 : decode cX13_comesBack 4 = .ok (.aload_n 0, 1) := by decide +kernel
theorem dX13_comesBack_5 : decode cX13_comesBack 5 = .ok (.getfield 967, 3) := by decide +kernel
theorem dX13_comesBack_8 : decode cX13_comesBack 8 = .ok (.if_icmp .lt 5, 3) := by decide +kernel
theorem dX13_comesBack_11 : decode cX13_comesBack 11 = .ok (.iconst 0, 1) := by decide +kernel
theorem dX13_comesBack_12 : decode cX13_comesBack 12 = .ok (.ireturn, 1) := by decide +kernel
theorem dX13_comesBack_13 : decode cX13_comesBack 13 = .ok (.aload_n 0, 1) := by decide +kernel
theorem dX13_comesBack_14 : decode cX13_comesBack 14 = .ok (.getfield 273, 3) := by decide +kernel
theorem dX13_comesBack_17 : decode cX13_comesBack 17 = .ok (.aload_n 0, 1) := by decide +kernel
theorem dX13_comesBack_18 : decode cX13_comesBack 18 = .ok (.getfield 961, 3) := by decide +kernel
theorem dX13_comesBack_21 : decode cX13_comesBack 21 = .ok (.iload_n 1, 1) := by decide +kernel
theorem dX13_comesBack_22 : decode cX13_comesBack 22 = .ok (.iastore, 1) := by decide +kernel
theorem dX13_comesBack_23 : decode cX13_comesBack 23 = .ok (.aload_n 0, 1) := by decide +kernel
theorem dX13_comesBack_24 : decode cX13_comesBack 24 = .ok (.dup, 1) := by decide +kernel
theorem dX13_comesBack_25 : decode cX13_comesBack 25 = .ok (.getfield 961, 3) := by decide +kernel
theorem dX13_comesBack_28 : decode cX13_comesBack 28 = .ok (.iconst 1, 1) := by decide +kernel
theorem dX13_comesBack_29 : decode cX13_comesBack 29 = .ok (.iadd, 1) := by decide +kernel
theorem dX13_comesBack_30 : decode cX13_comesBack 30 = .ok (.putfield 961, 3) := by decide +kernel
theorem dX13_comesBack_33 : decode cX13_comesBack 33 = .ok (.iconst 1, 1) := by decide +kernel
theorem dX13_comesBack_34 : decode cX13_comesBack 34 = .ok (.ireturn, 1) := by decide +kernel
theorem dX13_pull_0 : decode cX13_pull 0 = .ok (.aload_n 0, 1) := by decide +kernel
theorem dX13_pull_1 : decode cX13_pull 1 = .ok (.getfield 961, 3) := by decide +kernel
theorem dX13_pull_4 : decode cX13_pull 4 = .ok (.ifCond .ne 5, 3) := by decide +kernel
theorem dX13_pull_7 : decode cX13_pull 7 = .ok (.iconst (-1), 1) := by decide +kernel
theorem dX13_pull_8 : decode cX13_pull 8 = .ok (.ireturn, 1) := by decide +kernel
theorem dX13_pull_9 : decode cX13_pull 9 = .ok (.aload_n 0, 1) := by decide +kernel
theorem dX13_pull_10 : decode cX13_pull 10 = .ok (.dup, 1) := by decide +kernel
theorem dX13_pull_11 : decode cX13_pull 11 = .ok (.getfield 961, 3) := by decide +kernel
theorem dX13_pull_14 : decode cX13_pull 14 = .ok (.iconst 1, 1) := by decide +kernel
theorem dX13_pull_15 : decode cX13_pull 15 = .ok (.isub, 1) := by decide +kernel
theorem dX13_pull_16 : decode cX13_pull 16 = .ok (.putfield 961, 3) := by decide +kernel
theorem dX13_pull_19 : decode cX13_pull 19 = .ok (.aload_n 0, 1) := by decide +kernel
theorem dX13_pull_20 : decode cX13_pull 20 = .ok (.getfield 273, 3) := by decide +kernel
theorem dX13_pull_23 : decode cX13_pull 23 = .ok (.aload_n 0, 1) := by decide +kernel
theorem dX13_pull_24 : decode cX13_pull 24 = .ok (.getfield 961, 3) := by decide +kernel
theorem dX13_pull_27 : decode cX13_pull 27 = .ok (.iaload, 1) := by decide +kernel
theorem dX13_pull_28 : decode cX13_pull 28 = .ok (.ireturn, 1) := by decide +kernel
theorem dX13_pullThing_0 : decode cX13_pullThing 0 = .ok (.aload_n 0, 1) := by decide +kernel
theorem dX13_pullThing_1 : decode cX13_pullThing 1 = .ok (.invokevirtual 1025, 3) := by decide +kernel
theorem dX13_pullThing_4 : decode cX13_pullThing 4 = .ok (.iconst 2, 1) := by decide +kernel
theorem dX13_pullThing_5 : decode cX13_pullThing 5 = .ok (.if_icmp .lt 7, 3) := by decide +kernel
theorem dX13_pullThing_8 : decode cX13_pullThing 8 = .ok (.iconst 1, 1) := by decide +kernel
theorem dX13_pullThing_9 : decode cX13_pullThing 9 = .ok (.goto 4, 3) := by decide +kernel
theorem dX13_pullThing_12 : decode cX13_pullThing 12 = .ok (.iconst 0, 1) := by decide +kernel
theorem dX13_pullThing_13 : decode cX13_pullThing 13 = .ok (.ireturn, 1) := by decide +kernel
theorem dX13_give_0 : decode cX13_give 0 = .ok (.aload_n 0, 1) := by decide +kernel
theorem dX13_give_1 : decode cX13_give 1 = .ok (.getfield 1058, 3) := by decide +kernel
theorem dX13_give_4 : decode cX13_give 4 = .ok (.iconst 1, 1) := by decide +kernel
theorem dX13_give_5 : decode cX13_give 5 = .ok (.isub, 1) := by decide +kernel
theorem dX13_give_6 : decode cX13_give 6 = .ok (.istore_n 2, 1) := by decide +kernel
theorem dX13_give_7 : decode cX13_give 7 = .ok (.aload_n 0, 1) := by decide +kernel
theorem dX13_give_8 : decode cX13_give 8 = .ok (.getfield 306, 3) := by decide +kernel
theorem dX13_give_11 : decode cX13_give 11 = .ok (.bipush 60, 2) := by decide +kernel
theorem dX13_give_13 : decode cX13_give 13 = .ok (.iload_n 2, 1) := by decide +kernel
theorem dX13_give_14 : decode cX13_give 14 = .ok (.imul, 1) := by decide +kernel
theorem dX13_give_15 : decode cX13_give 15 = .ok (.bipush 30, 2) := by decide +kernel
theorem dX13_give_17 : decode cX13_give 17 = .ok (.iadd, 1) := by decide +kernel
theorem dX13_give_18 : decode cX13_give 18 = .ok (.aload_n 0, 1) := by decide +kernel
theorem dX13_give_19 : decode cX13_give 19 = .ok (.getfield 303, 3) := by decide +kernel
theorem dX13_give_22 : decode cX13_give 22 = .ok (.iload_n 2, 1) := by decide +kernel
theorem dX13_give_23 : decode cX13_give 23 = .ok (.iaload, 1) := by decide +kernel
theorem dX13_give_24 : decode cX13_give 24 = .ok (.iadd, 1) := by decide +kernel
theorem dX13_give_25 : decode cX13_give 25 = .ok (.iload_n 1, 1) := by decide +kernel
theorem dX13_give_26 : decode cX13_give 26 = .ok (.iastore, 1) := by decide +kernel
theorem dX13_give_27 : decode cX13_give 27 = .ok (.aload_n 0, 1) := by decide +kernel
theorem dX13_give_28 : decode cX13_give 28 = .ok (.getfield 303, 3) := by decide +kernel
theorem dX13_give_31 : decode cX13_give 31 = .ok (.iload_n 2, 1) := by decide +kernel
theorem dX13_give_32 : decode cX13_give 32 = .ok (.dup2, 1) := by decide +kernel
theorem dX13_give_33 : decode cX13_give 33 = .ok (.iaload, 1) := by decide +kernel
theorem dX13_give_34 : decode cX13_give 34 = .ok (.iconst 1, 1) := by decide +kernel
theorem dX13_give_35 : decode cX13_give 35 = .ok (.iadd, 1) := by decide +kernel
theorem dX13_give_36 : decode cX13_give 36 = .ok (.iastore, 1) := by decide +kernel
theorem dX13_give_37 : decode cX13_give 37 = .ok (.return_, 1) := by decide +kernel
theorem dX13_drop_0 : decode cX13_drop 0 = .ok (.aload_n 0, 1) := by decide +kernel
theorem dX13_drop_1 : decode cX13_drop 1 = .ok (.getfield 1058, 3) := by decide +kernel
theorem dX13_drop_4 : decode cX13_drop 4 = .ok (.iconst 1, 1) := by decide +kernel
theorem dX13_drop_5 : decode cX13_drop 5 = .ok (.isub, 1) := by decide +kernel
theorem dX13_drop_6 : decode cX13_drop 6 = .ok (.istore_n 1, 1) := by decide +kernel
theorem dX13_drop_7 : decode cX13_drop 7 = .ok (.aload_n 0, 1) := by decide +kernel
theorem dX13_drop_8 : decode cX13_drop 8 = .ok (.getfield 303, 3) := by decide +kernel
theorem dX13_drop_11 : decode cX13_drop 11 = .ok (.iload_n 1, 1) := by decide +kernel
theorem dX13_drop_12 : decode cX13_drop 12 = .ok (.dup2, 1) := by decide +kernel
theorem dX13_drop_13 : decode cX13_drop 13 = .ok (.iaload, 1) := by decide +kernel
theorem dX13_drop_14 : decode cX13_drop 14 = .ok (.iconst 1, 1) := by decide +kernel
theorem dX13_drop_15 : decode cX13_drop 15 = .ok (.isub, 1) := by decide +kernel
theorem dX13_drop_16 : decode cX13_drop 16 = .ok (.iastore, 1) := by decide +kernel
theorem dX13_drop_17 : decode cX13_drop 17 = .ok (.aload_n 0, 1) := by decide +kernel
theorem dX13_drop_18 : decode cX13_drop 18 = .ok (.getfield 306, 3) := by decide +kernel
theorem dX13_drop_21 : decode cX13_drop 21 = .ok (.bipush 60, 2) := by decide +kernel
theorem dX13_drop_23 : decode cX13_drop 23 = .ok (.iload_n 1, 1) := by decide +kernel
theorem dX13_drop_24 : decode cX13_drop 24 = .ok (.imul, 1) := by decide +kernel
theorem dX13_drop_25 : decode cX13_drop 25 = .ok (.bipush 30, 2) := by decide +kernel
theorem dX13_drop_27 : decode cX13_drop 27 = .ok (.iadd, 1) := by decide +kernel
theorem dX13_drop_28 : decode cX13_drop 28 = .ok (.aload_n 0, 1) := by decide +kernel
theorem dX13_drop_29 : decode cX13_drop 29 = .ok (.getfield 303, 3) := by decide +kernel
theorem dX13_drop_32 : decode cX13_drop 32 = .ok (.iload_n 1, 1) := by decide +kernel
theorem dX13_drop_33 : decode cX13_drop 33 = .ok (.iaload, 1) := by decide +kernel
theorem dX13_drop_34 : decode cX13_drop 34 = .ok (.iadd, 1) := by decide +kernel
theorem dX13_drop_35 : decode cX13_drop 35 = .ok (.iaload, 1) := by decide +kernel
theorem dX13_drop_36 : decode cX13_drop 36 = .ok (.ireturn, 1) := by decide +kernel
theorem dX13_opAt_0 : decode cX13_opAt 0 = .ok (.aload_n 0, 1) := by decide +kernel
theorem dX13_opAt_1 : decode cX13_opAt 1 = .ok (.aload_n 0, 1) := by decide +kernel
theorem dX13_opAt_2 : decode cX13_opAt 2 = .ok (.getfield 294, 3) := by decide +kernel
theorem dX13_opAt_5 : decode cX13_opAt 5 = .ok (.aload_n 0, 1) := by decide +kernel
theorem dX13_opAt_6 : decode cX13_opAt 6 = .ok (.getfield 1058, 3) := by decide +kernel
theorem dX13_opAt_9 : decode cX13_opAt 9 = .ok (.iconst 1, 1) := by decide +kernel
theorem dX13_opAt_10 : decode cX13_opAt 10 = .ok (.isub, 1) := by decide +kernel
theorem dX13_opAt_11 : decode cX13_opAt 11 = .ok (.iaload, 1) := by decide +kernel
theorem dX13_opAt_12 : decode cX13_opAt 12 = .ok (.bipush 8, 2) := by decide +kernel
theorem dX13_opAt_14 : decode cX13_opAt 14 = .ok (.isub, 1) := by decide +kernel
theorem dX13_opAt_15 : decode cX13_opAt 15 = .ok (.aload_n 0, 1) := by decide +kernel
theorem dX13_opAt_16 : decode cX13_opAt 16 = .ok (.getfield 236, 3) := by decide +kernel
theorem dX13_opAt_19 : decode cX13_opAt 19 = .ok (.bipush 12, 2) := by decide +kernel
theorem dX13_opAt_21 : decode cX13_opAt 21 = .ok (.aload_n 0, 1) := by decide +kernel
theorem dX13_opAt_22 : decode cX13_opAt 22 = .ok (.getfield 294, 3) := by decide +kernel
theorem dX13_opAt_25 : decode cX13_opAt 25 = .ok (.aload_n 0, 1) := by decide +kernel
theorem dX13_opAt_26 : decode cX13_opAt 26 = .ok (.getfield 1058, 3) := by decide +kernel
theorem dX13_opAt_29 : decode cX13_opAt 29 = .ok (.iconst 1, 1) := by decide +kernel
theorem dX13_opAt_30 : decode cX13_opAt 30 = .ok (.isub, 1) := by decide +kernel
theorem dX13_opAt_31 : decode cX13_opAt 31 = .ok (.iaload, 1) := by decide +kernel
theorem dX13_opAt_32 : decode cX13_opAt 32 = .ok (.bipush 8, 2) := by decide +kernel
theorem dX13_opAt_34 : decode cX13_opAt 34 = .ok (.isub, 1) := by decide +kernel
theorem dX13_opAt_35 : decode cX13_opAt 35 = .ok (.imul, 1) := by decide +kernel
theorem dX13_opAt_36 : decode cX13_opAt 36 = .ok (.aload_n 0, 1) := by decide +kernel
theorem dX13_opAt_37 : decode cX13_opAt 37 = .ok (.getfield 297, 3) := by decide +kernel
theorem dX13_opAt_40 : decode cX13_opAt 40 = .ok (.aload_n 0, 1) := by decide +kernel
theorem dX13_opAt_41 : decode cX13_opAt 41 = .ok (.getfield 1058, 3) := by decide +kernel
theorem dX13_opAt_44 : decode cX13_opAt 44 = .ok (.iconst 1, 1) := by decide +kernel
theorem dX13_opAt_45 : decode cX13_opAt 45 = .ok (.isub, 1) := by decide +kernel
theorem dX13_opAt_46 : decode cX13_opAt 46 = .ok (.iaload, 1) := by decide +kernel
theorem dX13_opAt_47 : decode cX13_opAt 47 = .ok (.iadd, 1) := by decide +kernel
theorem dX13_opAt_48 : decode cX13_opAt 48 = .ok (.iaload, 1) := by decide +kernel
theorem dX13_opAt_49 : decode cX13_opAt 49 = .ok (.bipush 7, 2) := by decide +kernel
theorem dX13_opAt_51 : decode cX13_opAt 51 = .ok (.iadd, 1) := by decide +kernel
theorem dX13_opAt_52 : decode cX13_opAt 52 = .ok (.iload_n 1, 1) := by decide +kernel
theorem dX13_opAt_53 : decode cX13_opAt 53 = .ok (.iadd, 1) := by decide +kernel
theorem dX13_opAt_54 : decode cX13_opAt 54 = .ok (.invokevirtual 864, 3) := by decide +kernel
theorem dX13_opAt_57 : decode cX13_opAt 57 = .ok (.ireturn, 1) := by decide +kernel
theorem dX13_on_0 : decode cX13_on 0 = .ok (.aload_n 0, 1) := by decide +kernel
theorem dX13_on_1 : decode cX13_on 1 = .ok (.getfield 300, 3) := by decide +kernel
theorem dX13_on_4 : decode cX13_on 4 = .ok (.aload_n 0, 1) := by decide +kernel
theorem dX13_on_5 : decode cX13_on 5 = .ok (.getfield 1058, 3) := by decide +kernel
theorem dX13_on_8 : decode cX13_on 8 = .ok (.iconst 1, 1) := by decide +kernel
theorem dX13_on_9 : decode cX13_on 9 = .ok (.isub, 1) := by decide +kernel
theorem dX13_on_10 : decode cX13_on 10 = .ok (.dup2, 1) := by decide +kernel
theorem dX13_on_11 : decode cX13_on 11 = .ok (.iaload, 1) := by decide +kernel
theorem dX13_on_12 : decode cX13_on 12 = .ok (.iload_n 1, 1) := by decide +kernel
theorem dX13_on_13 : decode cX13_on 13 = .ok (.iadd, 1) := by decide +kernel
theorem dX13_on_14 : decode cX13_on 14 = .ok (.iastore, 1) := by decide +kernel
theorem dX13_on_15 : decode cX13_on 15 = .ok (.return_, 1) := by decide +kernel
theorem dX13_cell_0 : decode cX13_cell 0 = .ok (.aload_n 0, 1) := by decide +kernel
theorem dX13_cell_1 : decode cX13_cell 1 = .ok (.getfield 306, 3) := by decide +kernel
theorem dX13_cell_4 : decode cX13_cell 4 = .ok (.bipush 60, 2) := by decide +kernel
theorem dX13_cell_6 : decode cX13_cell 6 = .ok (.aload_n 0, 1) := by decide +kernel
theorem dX13_cell_7 : decode cX13_cell 7 = .ok (.getfield 1058, 3) := by decide +kernel
theorem dX13_cell_10 : decode cX13_cell 10 = .ok (.iconst 1, 1) := by decide +kernel
theorem dX13_cell_11 : decode cX13_cell 11 = .ok (.isub, 1) := by decide +kernel
theorem dX13_cell_12 : decode cX13_cell 12 = .ok (.imul, 1) := by decide +kernel
theorem dX13_cell_13 : decode cX13_cell 13 = .ok (.iload_n 1, 1) := by decide +kernel
theorem dX13_cell_14 : decode cX13_cell 14 = .ok (.iadd, 1) := by decide +kernel
theorem dX13_cell_15 : decode cX13_cell 15 = .ok (.iaload, 1) := by decide +kernel
theorem dX13_cell_16 : decode cX13_cell 16 = .ok (.ireturn, 1) := by decide +kernel
theorem dX13_memberPart_0 : decode cX13_memberPart 0 = .ok (.aload_n 0, 1) := by decide +kernel
theorem dX13_memberPart_1 : decode cX13_memberPart 1 = .ok (.getfield 294, 3) := by decide +kernel
theorem dX13_memberPart_4 : decode cX13_memberPart 4 = .ok (.aload_n 0, 1) := by decide +kernel
theorem dX13_memberPart_5 : decode cX13_memberPart 5 = .ok (.getfield 1058, 3) := by decide +kernel
theorem dX13_memberPart_8 : decode cX13_memberPart 8 = .ok (.iconst 1, 1) := by decide +kernel
theorem dX13_memberPart_9 : decode cX13_memberPart 9 = .ok (.isub, 1) := by decide +kernel
theorem dX13_memberPart_10 : decode cX13_memberPart 10 = .ok (.iaload, 1) := by decide +kernel
theorem dX13_memberPart_11 : decode cX13_memberPart 11 = .ok (.bipush 8, 2) := by decide +kernel
theorem dX13_memberPart_13 : decode cX13_memberPart 13 = .ok (.isub, 1) := by decide +kernel
theorem dX13_memberPart_14 : decode cX13_memberPart 14 = .ok (.istore_n 3, 1) := by decide +kernel
theorem dX13_memberPart_15 : decode cX13_memberPart 15 = .ok (.aload_n 0, 1) := by decide +kernel
theorem dX13_memberPart_16 : decode cX13_memberPart 16 = .ok (.iload_n 3, 1) := by decide +kernel
theorem dX13_memberPart_17 : decode cX13_memberPart 17 = .ok (.aload_n 0, 1) := by decide +kernel
theorem dX13_memberPart_18 : decode cX13_memberPart 18 = .ok (.getfield 215, 3) := by decide +kernel
theorem dX13_memberPart_21 : decode cX13_memberPart 21 = .ok (.sipush 256, 3) := by decide +kernel
theorem dX13_memberPart_24 : decode cX13_memberPart 24 = .ok (.iload_n 3, 1) := by decide +kernel
theorem dX13_memberPart_25 : decode cX13_memberPart 25 = .ok (.imul, 1) := by decide +kernel
theorem dX13_memberPart_26 : decode cX13_memberPart 26 = .ok (.iload_n 1, 1) := by decide +kernel
theorem dX13_memberPart_27 : decode cX13_memberPart 27 = .ok (.iadd, 1) := by decide +kernel
theorem dX13_memberPart_28 : decode cX13_memberPart 28 = .ok (.iaload, 1) := by decide +kernel
theorem dX13_memberPart_29 : decode cX13_memberPart 29 = .ok (.iconst 1, 1) := by decide +kernel
theorem dX13_memberPart_30 : decode cX13_memberPart 30 = .ok (.iadd, 1) := by decide +kernel
theorem dX13_memberPart_31 : decode cX13_memberPart 31 = .ok (.iload_n 2, 1) := by decide +kernel
theorem dX13_memberPart_32 : decode cX13_memberPart 32 = .ok (.iadd, 1) := by decide +kernel
theorem dX13_memberPart_33 : decode cX13_memberPart 33 = .ok (.invokevirtual 864, 3) := by decide +kernel
theorem dX13_memberPart_36 : decode cX13_memberPart 36 = .ok (.ireturn, 1) := by decide +kernel
theorem dX13_told_0 : decode cX13_told 0 = .ok (.aload_n 0, 1) := by decide +kernel
theorem dX13_told_1 : decode cX13_told 1 = .ok (.getfield 279, 3) := by decide +kernel
theorem dX13_told_4 : decode cX13_told 4 = .ok (.iload_n 1, 1) := by decide +kernel
theorem dX13_told_5 : decode cX13_told 5 = .ok (.iaload, 1) := by decide +kernel
theorem dX13_told_6 : decode cX13_told 6 = .ok (.bipush 99, 2) := by decide +kernel
theorem dX13_told_8 : decode cX13_told 8 = .ok (.if_icmp .ne 9, 3) := by decide +kernel
theorem dX13_told_11 : decode cX13_told 11 = .ok (.sipush 200, 3) := by decide +kernel
theorem dX13_told_14 : decode cX13_told 14 = .ok (.goto 9, 3) := by decide +kernel
theorem dX13_told_17 : decode cX13_told 17 = .ok (.aload_n 0, 1) := by decide +kernel
theorem dX13_told_18 : decode cX13_told 18 = .ok (.getfield 279, 3) := by decide +kernel
theorem dX13_told_21 : decode cX13_told 21 = .ok (.iload_n 1, 1) := by decide +kernel
theorem dX13_told_22 : decode cX13_told 22 = .ok (.iaload, 1) := by decide +kernel
theorem dX13_told_23 : decode cX13_told 23 = .ok (.ireturn, 1) := by decide +kernel
def VS_h5_p0 : List Cond := [Cond.fieldLink RX13 312 "ClassMillModel" "taped" "I", Cond.fieldLink RX13 319 "ClassMillModel" "fault" "I", Cond.fieldLink RX13 19 "ClassMillModel" "from" "[I", Cond.fieldLink RX13 322 "ClassMillModel" "place" "I", Cond.fieldLink RX13 325 "ClassMillModel" "size" "I", Cond.fieldLink RX13 13 "ClassMillModel" "text" "[I", Cond.fieldLink RX13 16 "ClassMillModel" "kind" "[I", Cond.fieldLink RX13 338 "ClassMillModel" "tokens" "I", Cond.fieldLink RX13 22 "ClassMillModel" "wide" "[I", Cond.fieldLink RX13 25 "ClassMillModel" "value" "[I", Cond.code yX13_wrong cX13_wrong 3 none, Cond.methodLink RX13 379 yX13_wrong, Cond.instanceMethod yX13_wrong, Cond.selects RX13 yX13_wrong yX13_wrong, Cond.initialized RX13, Cond.fieldLink RX13 376 "ClassMillModel" "cursor" "I", Cond.code yX13_isSign cX13_isSign 3 (some .boolean), Cond.methodLink RX13 383 yX13_isSign, Cond.instanceMethod yX13_isSign, Cond.selects RX13 yX13_isSign yX13_isSign, Cond.code yX13_misplaced cX13_misplaced 1 none, Cond.methodLink RX13 387 yX13_misplaced, Cond.instanceMethod yX13_misplaced, Cond.selects RX13 yX13_misplaced yX13_misplaced, Cond.code yX13_isWord cX13_isWord 3 (some .boolean), Cond.methodLink RX13 390 yX13_isWord, Cond.instanceMethod yX13_isWord, Cond.selects RX13 yX13_isWord yX13_isWord, Cond.fieldLink RX13 68 "ClassMillModel" "classUpper" "[I", Cond.fieldLink RX13 510 "ClassMillModel" "still" "Z", Cond.fieldLink RX13 116 "ClassMillModel" "sightName" "[I", Cond.fieldLink RX13 513 "ClassMillModel" "sight" "I", Cond.fieldLink RX13 119 "ClassMillModel" "sightType" "[I", Cond.fieldLink RX13 58 "ClassMillModel" "inBrackets" "[Z", Cond.fieldLink RX13 28 "ClassMillModel" "node" "[I", Cond.fieldLink RX13 52 "ClassMillModel" "means" "[I", Cond.fieldLink RX13 31 "ClassMillModel" "tok" "[I", Cond.fieldLink RX13 49 "ClassMillModel" "gives" "[I", Cond.fieldLink RX13 37 "ClassMillModel" "one" "[I", Cond.fieldLink RX13 144 "ClassMillModel" "spelled" "[I"]
def VS_h5_p1 : List Cond := [Cond.fieldLink RX13 590 "ClassMillModel" "spells" "I", Cond.code yX13_isArray cX13_isArray 1 (some .boolean), Cond.methodLink RX13 485 yX13_isArray, Cond.static yX13_isArray, Cond.fieldLink RX13 627 "ClassMillModel" "length" "I", Cond.fieldLink RX13 147 "ClassMillModel" "code" "[I", Cond.fieldLink RX13 150 "ClassMillModel" "pile" "[I", Cond.fieldLink RX13 629 "ClassMillModel" "piled" "I", Cond.fieldLink RX13 632 "ClassMillModel" "pileMost" "I", Cond.methodLink RX13 635 yJ9_max_7cf53, Cond.static yJ9_max_7cf53, Cond.initialized "java/lang/Math", Cond.code yJ9_max_7cf53 cJ9_max_7cf53 2 (some .int), Cond.code yX13_push cX13_push 2 none, Cond.methodLink RX13 640 yX13_push, Cond.instanceMethod yX13_push, Cond.selects RX13 yX13_push yX13_push, Cond.code yX13_put cX13_put 2 none, Cond.methodLink RX13 646 yX13_put, Cond.instanceMethod yX13_put, Cond.selects RX13 yX13_put yX13_put, Cond.fieldLink RX13 181 "ClassMillModel" "jumpAt" "[I", Cond.fieldLink RX13 643 "ClassMillModel" "jumps" "I", Cond.fieldLink RX13 184 "ClassMillModel" "jumpLabel" "[I", Cond.fieldLink RX13 658 "ClassMillModel" "labels" "I", Cond.code yX13_come cX13_come 3 none, Cond.methodLink RX13 528 yX13_come, Cond.instanceMethod yX13_come, Cond.selects RX13 yX13_come yX13_come, Cond.fieldLink RX13 661 "ClassMillModel" "sightMost" "I", Cond.code yX13_local cX13_local 2 (some .int), Cond.methodLink RX13 582 yX13_local, Cond.instanceMethod yX13_local, Cond.selects RX13 yX13_local yX13_local, Cond.fieldLink RX13 519 "ClassMillModel" "owner" "I", Cond.fieldLink RX13 55 "ClassMillModel" "slot" "[I", Cond.fieldLink RX13 728 "ClassMillModel" "behindSize" "I", Cond.fieldLink RX13 206 "ClassMillModel" "behind" "[I", Cond.code yX13_tell cX13_tell 2 none, Cond.methodLink RX13 731 yX13_tell]
def VS_h5_p2 : List Cond := [Cond.instanceMethod yX13_tell, Cond.selects RX13 yX13_tell yX13_tell, Cond.fieldLink RX13 761 "ClassMillModel" "imageMany" "I", Cond.fieldLink RX13 197 "ClassMillModel" "imageSize" "[I", Cond.fieldLink RX13 194 "ClassMillModel" "images" "[I", Cond.fieldLink RX13 764 "ClassMillModel" "form" "I", Cond.fieldLink RX13 767 "ClassMillModel" "lookSize" "I", Cond.fieldLink RX13 218 "ClassMillModel" "constantMany" "[I", Cond.fieldLink RX13 215 "ClassMillModel" "constantAt" "[I", Cond.code yX13_isLetter cX13_isLetter 1 (some .boolean), Cond.methodLink RX13 345 yX13_isLetter, Cond.static yX13_isLetter, Cond.code yX13_isDigit cX13_isDigit 1 (some .boolean), Cond.methodLink RX13 349 yX13_isDigit, Cond.static yX13_isDigit, Cond.code yX13_isNamePart cX13_isNamePart 2 (some .boolean), Cond.methodLink RX13 770 yX13_isNamePart, Cond.static yX13_isNamePart, Cond.fieldLink RX13 245 "ClassMillModel" "look" "[I", Cond.fieldLink RX13 221 "ClassMillModel" "ownClass" "[I", Cond.fieldLink RX13 209 "ClassMillModel" "bytes" "[I", Cond.fieldLink RX13 833 "ClassMillModel" "there" "I", Cond.fieldLink RX13 855 "ClassMillModel" "verified" "Z", Cond.fieldLink RX13 858 "ClassMillModel" "state" "I", Cond.code yX13_byteAt cX13_byteAt 3 (some .int), Cond.methodLink RX13 864 yX13_byteAt, Cond.instanceMethod yX13_byteAt, Cond.selects RX13 yX13_byteAt yX13_byteAt, Cond.code yX13_textOfClass cX13_textOfClass 3 (some .int), Cond.methodLink RX13 867 yX13_textOfClass, Cond.instanceMethod yX13_textOfClass, Cond.selects RX13 yX13_textOfClass yX13_textOfClass, Cond.fieldLink RX13 230 "ClassMillModel" "fieldAt" "[I", Cond.fieldLink RX13 236 "ClassMillModel" "methodAt" "[I", Cond.fieldLink RX13 901 "ClassMillModel" "why" "I", Cond.fieldLink RX13 257 "ClassMillModel" "whyClass" "I", Cond.fieldLink RX13 261 "ClassMillModel" "whyMethod" "I", Cond.fieldLink RX13 264 "ClassMillModel" "whyPlace" "I", Cond.fieldLink RX13 932 "ClassMillModel" "inClass" "I", Cond.fieldLink RX13 935 "ClassMillModel" "codeAt" "I"]
def VS_h5_p3 : List Cond := [Cond.code yX13_code cX13_code 2 (some .int), Cond.methodLink RX13 938 yX13_code, Cond.instanceMethod yX13_code, Cond.selects RX13 yX13_code yX13_code, Cond.fieldLink RX13 242 "ClassMillModel" "framesAt" "[I", Cond.fieldLink RX13 940 "ClassMillModel" "inMethod" "I", Cond.fieldLink RX13 961 "ClassMillModel" "stackMany" "I", Cond.fieldLink RX13 967 "ClassMillModel" "stackMost" "I", Cond.fieldLink RX13 273 "ClassMillModel" "stack" "[I", Cond.code yX13_pull cX13_pull 1 (some .int), Cond.methodLink RX13 1025 yX13_pull, Cond.instanceMethod yX13_pull, Cond.selects RX13 yX13_pull yX13_pull, Cond.fieldLink RX13 1058 "ClassMillModel" "depth" "I", Cond.fieldLink RX13 306 "ClassMillModel" "cells" "[I", Cond.fieldLink RX13 303 "ClassMillModel" "runStack" "[I", Cond.fieldLink RX13 294 "ClassMillModel" "runClass" "[I", Cond.fieldLink RX13 297 "ClassMillModel" "runMethod" "[I", Cond.fieldLink RX13 300 "ClassMillModel" "runPlace" "[I", Cond.fieldLink RX13 279 "ClassMillModel" "sort" "[I", Cond.code yX13_drop cX13_drop 2 (some .int), Cond.methodLink RX13 1087 yX13_drop, Cond.instanceMethod yX13_drop, Cond.selects RX13 yX13_drop yX13_drop, Cond.code yX13_give cX13_give 3 none, Cond.methodLink RX13 1072 yX13_give, Cond.instanceMethod yX13_give, Cond.selects RX13 yX13_give yX13_give, Cond.fieldLink RX13 1055 "ClassMillModel" "printedMany" "I", Cond.fieldLink RX13 291 "ClassMillModel" "printed" "[I"]
def VS_h5 : List Cond := VS_h5_p0 ++ (VS_h5_p1 ++ (VS_h5_p2 ++ (VS_h5_p3 ++ (wsX130))))
theorem mw_h5_0 : Cond.fieldLink RX13 312 "ClassMillModel" "taped" "I" ∈ VS_h5 := List.mem_append_left _ (List.mem_of_getElem? (i := 0) rfl)
theorem mw_h5_1 : Cond.fieldLink RX13 319 "ClassMillModel" "fault" "I" ∈ VS_h5 := List.mem_append_left _ (List.mem_of_getElem? (i := 1) rfl)
theorem mw_h5_2 : Cond.fieldLink RX13 19 "ClassMillModel" "from" "[I" ∈ VS_h5 := List.mem_append_left _ (List.mem_of_getElem? (i := 2) rfl)
theorem mw_h5_3 : Cond.fieldLink RX13 322 "ClassMillModel" "place" "I" ∈ VS_h5 := List.mem_append_left _ (List.mem_of_getElem? (i := 3) rfl)
theorem mw_h5_4 : Cond.fieldLink RX13 325 "ClassMillModel" "size" "I" ∈ VS_h5 := List.mem_append_left _ (List.mem_of_getElem? (i := 4) rfl)
theorem mw_h5_5 : Cond.fieldLink RX13 13 "ClassMillModel" "text" "[I" ∈ VS_h5 := List.mem_append_left _ (List.mem_of_getElem? (i := 5) rfl)
theorem mw_h5_6 : Cond.fieldLink RX13 16 "ClassMillModel" "kind" "[I" ∈ VS_h5 := List.mem_append_left _ (List.mem_of_getElem? (i := 6) rfl)
theorem mw_h5_7 : Cond.fieldLink RX13 338 "ClassMillModel" "tokens" "I" ∈ VS_h5 := List.mem_append_left _ (List.mem_of_getElem? (i := 7) rfl)
theorem mw_h5_8 : Cond.fieldLink RX13 22 "ClassMillModel" "wide" "[I" ∈ VS_h5 := List.mem_append_left _ (List.mem_of_getElem? (i := 8) rfl)
theorem mw_h5_9 : Cond.fieldLink RX13 25 "ClassMillModel" "value" "[I" ∈ VS_h5 := List.mem_append_left _ (List.mem_of_getElem? (i := 9) rfl)
theorem mw_h5_10 : Cond.code yX13_wrong cX13_wrong 3 none ∈ VS_h5 := List.mem_append_left _ (List.mem_of_getElem? (i := 10) rfl)
theorem mw_h5_11 : Cond.methodLink RX13 379 yX13_wrong ∈ VS_h5 := List.mem_append_left _ (List.mem_of_getElem? (i := 11) rfl)
theorem mw_h5_12 : Cond.instanceMethod yX13_wrong ∈ VS_h5 := List.mem_append_left _ (List.mem_of_getElem? (i := 12) rfl)
theorem mw_h5_13 : Cond.selects RX13 yX13_wrong yX13_wrong ∈ VS_h5 := List.mem_append_left _ (List.mem_of_getElem? (i := 13) rfl)
theorem mw_h5_14 : Cond.initialized RX13 ∈ VS_h5 := List.mem_append_left _ (List.mem_of_getElem? (i := 14) rfl)
theorem mw_h5_15 : Cond.fieldLink RX13 376 "ClassMillModel" "cursor" "I" ∈ VS_h5 := List.mem_append_left _ (List.mem_of_getElem? (i := 15) rfl)
theorem mw_h5_16 : Cond.code yX13_isSign cX13_isSign 3 (some .boolean) ∈ VS_h5 := List.mem_append_left _ (List.mem_of_getElem? (i := 16) rfl)
theorem mw_h5_17 : Cond.methodLink RX13 383 yX13_isSign ∈ VS_h5 := List.mem_append_left _ (List.mem_of_getElem? (i := 17) rfl)
theorem mw_h5_18 : Cond.instanceMethod yX13_isSign ∈ VS_h5 := List.mem_append_left _ (List.mem_of_getElem? (i := 18) rfl)
theorem mw_h5_19 : Cond.selects RX13 yX13_isSign yX13_isSign ∈ VS_h5 := List.mem_append_left _ (List.mem_of_getElem? (i := 19) rfl)
theorem mw_h5_20 : Cond.code yX13_misplaced cX13_misplaced 1 none ∈ VS_h5 := List.mem_append_left _ (List.mem_of_getElem? (i := 20) rfl)
theorem mw_h5_21 : Cond.methodLink RX13 387 yX13_misplaced ∈ VS_h5 := List.mem_append_left _ (List.mem_of_getElem? (i := 21) rfl)
theorem mw_h5_22 : Cond.instanceMethod yX13_misplaced ∈ VS_h5 := List.mem_append_left _ (List.mem_of_getElem? (i := 22) rfl)
theorem mw_h5_23 : Cond.selects RX13 yX13_misplaced yX13_misplaced ∈ VS_h5 := List.mem_append_left _ (List.mem_of_getElem? (i := 23) rfl)
theorem mw_h5_24 : Cond.code yX13_isWord cX13_isWord 3 (some .boolean) ∈ VS_h5 := List.mem_append_left _ (List.mem_of_getElem? (i := 24) rfl)
theorem mw_h5_25 : Cond.methodLink RX13 390 yX13_isWord ∈ VS_h5 := List.mem_append_left _ (List.mem_of_getElem? (i := 25) rfl)
theorem mw_h5_26 : Cond.instanceMethod yX13_isWord ∈ VS_h5 := List.mem_append_left _ (List.mem_of_getElem? (i := 26) rfl)
theorem mw_h5_27 : Cond.selects RX13 yX13_isWord yX13_isWord ∈ VS_h5 := List.mem_append_left _ (List.mem_of_getElem? (i := 27) rfl)
theorem mw_h5_28 : Cond.fieldLink RX13 68 "ClassMillModel" "classUpper" "[I" ∈ VS_h5 := List.mem_append_left _ (List.mem_of_getElem? (i := 28) rfl)
theorem mw_h5_29 : Cond.fieldLink RX13 510 "ClassMillModel" "still" "Z" ∈ VS_h5 := List.mem_append_left _ (List.mem_of_getElem? (i := 29) rfl)
theorem mw_h5_30 : Cond.fieldLink RX13 116 "ClassMillModel" "sightName" "[I" ∈ VS_h5 := List.mem_append_left _ (List.mem_of_getElem? (i := 30) rfl)
theorem mw_h5_31 : Cond.fieldLink RX13 513 "ClassMillModel" "sight" "I" ∈ VS_h5 := List.mem_append_left _ (List.mem_of_getElem? (i := 31) rfl)
theorem mw_h5_32 : Cond.fieldLink RX13 119 "ClassMillModel" "sightType" "[I" ∈ VS_h5 := List.mem_append_left _ (List.mem_of_getElem? (i := 32) rfl)
theorem mw_h5_33 : Cond.fieldLink RX13 58 "ClassMillModel" "inBrackets" "[Z" ∈ VS_h5 := List.mem_append_left _ (List.mem_of_getElem? (i := 33) rfl)
theorem mw_h5_34 : Cond.fieldLink RX13 28 "ClassMillModel" "node" "[I" ∈ VS_h5 := List.mem_append_left _ (List.mem_of_getElem? (i := 34) rfl)
theorem mw_h5_35 : Cond.fieldLink RX13 52 "ClassMillModel" "means" "[I" ∈ VS_h5 := List.mem_append_left _ (List.mem_of_getElem? (i := 35) rfl)
theorem mw_h5_36 : Cond.fieldLink RX13 31 "ClassMillModel" "tok" "[I" ∈ VS_h5 := List.mem_append_left _ (List.mem_of_getElem? (i := 36) rfl)
theorem mw_h5_37 : Cond.fieldLink RX13 49 "ClassMillModel" "gives" "[I" ∈ VS_h5 := List.mem_append_left _ (List.mem_of_getElem? (i := 37) rfl)
theorem mw_h5_38 : Cond.fieldLink RX13 37 "ClassMillModel" "one" "[I" ∈ VS_h5 := List.mem_append_left _ (List.mem_of_getElem? (i := 38) rfl)
theorem mw_h5_39 : Cond.fieldLink RX13 144 "ClassMillModel" "spelled" "[I" ∈ VS_h5 := List.mem_append_left _ (List.mem_of_getElem? (i := 39) rfl)
theorem mw_h5_40 : Cond.fieldLink RX13 590 "ClassMillModel" "spells" "I" ∈ VS_h5 := List.mem_append_right _ (List.mem_append_left _ (List.mem_of_getElem? (i := 0) rfl))
theorem mw_h5_41 : Cond.code yX13_isArray cX13_isArray 1 (some .boolean) ∈ VS_h5 := List.mem_append_right _ (List.mem_append_left _ (List.mem_of_getElem? (i := 1) rfl))
theorem mw_h5_42 : Cond.methodLink RX13 485 yX13_isArray ∈ VS_h5 := List.mem_append_right _ (List.mem_append_left _ (List.mem_of_getElem? (i := 2) rfl))
theorem mw_h5_43 : Cond.static yX13_isArray ∈ VS_h5 := List.mem_append_right _ (List.mem_append_left _ (List.mem_of_getElem? (i := 3) rfl))
theorem mw_h5_44 : Cond.fieldLink RX13 627 "ClassMillModel" "length" "I" ∈ VS_h5 := List.mem_append_right _ (List.mem_append_left _ (List.mem_of_getElem? (i := 4) rfl))
theorem mw_h5_45 : Cond.fieldLink RX13 147 "ClassMillModel" "code" "[I" ∈ VS_h5 := List.mem_append_right _ (List.mem_append_left _ (List.mem_of_getElem? (i := 5) rfl))
theorem mw_h5_46 : Cond.fieldLink RX13 150 "ClassMillModel" "pile" "[I" ∈ VS_h5 := List.mem_append_right _ (List.mem_append_left _ (List.mem_of_getElem? (i := 6) rfl))
theorem mw_h5_47 : Cond.fieldLink RX13 629 "ClassMillModel" "piled" "I" ∈ VS_h5 := List.mem_append_right _ (List.mem_append_left _ (List.mem_of_getElem? (i := 7) rfl))
theorem mw_h5_48 : Cond.fieldLink RX13 632 "ClassMillModel" "pileMost" "I" ∈ VS_h5 := List.mem_append_right _ (List.mem_append_left _ (List.mem_of_getElem? (i := 8) rfl))
theorem mw_h5_49 : Cond.methodLink RX13 635 yJ9_max_7cf53 ∈ VS_h5 := List.mem_append_right _ (List.mem_append_left _ (List.mem_of_getElem? (i := 9) rfl))
theorem mw_h5_50 : Cond.static yJ9_max_7cf53 ∈ VS_h5 := List.mem_append_right _ (List.mem_append_left _ (List.mem_of_getElem? (i := 10) rfl))
theorem mw_h5_51 : Cond.initialized "java/lang/Math" ∈ VS_h5 := List.mem_append_right _ (List.mem_append_left _ (List.mem_of_getElem? (i := 11) rfl))
theorem mw_h5_52 : Cond.code yJ9_max_7cf53 cJ9_max_7cf53 2 (some .int) ∈ VS_h5 := List.mem_append_right _ (List.mem_append_left _ (List.mem_of_getElem? (i := 12) rfl))
theorem mw_h5_53 : Cond.code yX13_push cX13_push 2 none ∈ VS_h5 := List.mem_append_right _ (List.mem_append_left _ (List.mem_of_getElem? (i := 13) rfl))
theorem mw_h5_54 : Cond.methodLink RX13 640 yX13_push ∈ VS_h5 := List.mem_append_right _ (List.mem_append_left _ (List.mem_of_getElem? (i := 14) rfl))
theorem mw_h5_55 : Cond.instanceMethod yX13_push ∈ VS_h5 := List.mem_append_right _ (List.mem_append_left _ (List.mem_of_getElem? (i := 15) rfl))
theorem mw_h5_56 : Cond.selects RX13 yX13_push yX13_push ∈ VS_h5 := List.mem_append_right _ (List.mem_append_left _ (List.mem_of_getElem? (i := 16) rfl))
theorem mw_h5_57 : Cond.code yX13_put cX13_put 2 none ∈ VS_h5 := List.mem_append_right _ (List.mem_append_left _ (List.mem_of_getElem? (i := 17) rfl))
theorem mw_h5_58 : Cond.methodLink RX13 646 yX13_put ∈ VS_h5 := List.mem_append_right _ (List.mem_append_left _ (List.mem_of_getElem? (i := 18) rfl))
theorem mw_h5_59 : Cond.instanceMethod yX13_put ∈ VS_h5 := List.mem_append_right _ (List.mem_append_left _ (List.mem_of_getElem? (i := 19) rfl))
theorem mw_h5_60 : Cond.selects RX13 yX13_put yX13_put ∈ VS_h5 := List.mem_append_right _ (List.mem_append_left _ (List.mem_of_getElem? (i := 20) rfl))
theorem mw_h5_61 : Cond.fieldLink RX13 181 "ClassMillModel" "jumpAt" "[I" ∈ VS_h5 := List.mem_append_right _ (List.mem_append_left _ (List.mem_of_getElem? (i := 21) rfl))
theorem mw_h5_62 : Cond.fieldLink RX13 643 "ClassMillModel" "jumps" "I" ∈ VS_h5 := List.mem_append_right _ (List.mem_append_left _ (List.mem_of_getElem? (i := 22) rfl))
theorem mw_h5_63 : Cond.fieldLink RX13 184 "ClassMillModel" "jumpLabel" "[I" ∈ VS_h5 := List.mem_append_right _ (List.mem_append_left _ (List.mem_of_getElem? (i := 23) rfl))
theorem mw_h5_64 : Cond.fieldLink RX13 658 "ClassMillModel" "labels" "I" ∈ VS_h5 := List.mem_append_right _ (List.mem_append_left _ (List.mem_of_getElem? (i := 24) rfl))
theorem mw_h5_65 : Cond.code yX13_come cX13_come 3 none ∈ VS_h5 := List.mem_append_right _ (List.mem_append_left _ (List.mem_of_getElem? (i := 25) rfl))
theorem mw_h5_66 : Cond.methodLink RX13 528 yX13_come ∈ VS_h5 := List.mem_append_right _ (List.mem_append_left _ (List.mem_of_getElem? (i := 26) rfl))
theorem mw_h5_67 : Cond.instanceMethod yX13_come ∈ VS_h5 := List.mem_append_right _ (List.mem_append_left _ (List.mem_of_getElem? (i := 27) rfl))
theorem mw_h5_68 : Cond.selects RX13 yX13_come yX13_come ∈ VS_h5 := List.mem_append_right _ (List.mem_append_left _ (List.mem_of_getElem? (i := 28) rfl))
theorem mw_h5_69 : Cond.fieldLink RX13 661 "ClassMillModel" "sightMost" "I" ∈ VS_h5 := List.mem_append_right _ (List.mem_append_left _ (List.mem_of_getElem? (i := 29) rfl))
theorem mw_h5_70 : Cond.code yX13_local cX13_local 2 (some .int) ∈ VS_h5 := List.mem_append_right _ (List.mem_append_left _ (List.mem_of_getElem? (i := 30) rfl))
theorem mw_h5_71 : Cond.methodLink RX13 582 yX13_local ∈ VS_h5 := List.mem_append_right _ (List.mem_append_left _ (List.mem_of_getElem? (i := 31) rfl))
theorem mw_h5_72 : Cond.instanceMethod yX13_local ∈ VS_h5 := List.mem_append_right _ (List.mem_append_left _ (List.mem_of_getElem? (i := 32) rfl))
theorem mw_h5_73 : Cond.selects RX13 yX13_local yX13_local ∈ VS_h5 := List.mem_append_right _ (List.mem_append_left _ (List.mem_of_getElem? (i := 33) rfl))
theorem mw_h5_74 : Cond.fieldLink RX13 519 "ClassMillModel" "owner" "I" ∈ VS_h5 := List.mem_append_right _ (List.mem_append_left _ (List.mem_of_getElem? (i := 34) rfl))
theorem mw_h5_75 : Cond.fieldLink RX13 55 "ClassMillModel" "slot" "[I" ∈ VS_h5 := List.mem_append_right _ (List.mem_append_left _ (List.mem_of_getElem? (i := 35) rfl))
theorem mw_h5_76 : Cond.fieldLink RX13 728 "ClassMillModel" "behindSize" "I" ∈ VS_h5 := List.mem_append_right _ (List.mem_append_left _ (List.mem_of_getElem? (i := 36) rfl))
theorem mw_h5_77 : Cond.fieldLink RX13 206 "ClassMillModel" "behind" "[I" ∈ VS_h5 := List.mem_append_right _ (List.mem_append_left _ (List.mem_of_getElem? (i := 37) rfl))
theorem mw_h5_78 : Cond.code yX13_tell cX13_tell 2 none ∈ VS_h5 := List.mem_append_right _ (List.mem_append_left _ (List.mem_of_getElem? (i := 38) rfl))
theorem mw_h5_79 : Cond.methodLink RX13 731 yX13_tell ∈ VS_h5 := List.mem_append_right _ (List.mem_append_left _ (List.mem_of_getElem? (i := 39) rfl))
theorem mw_h5_80 : Cond.instanceMethod yX13_tell ∈ VS_h5 := List.mem_append_right _ (List.mem_append_right _ (List.mem_append_left _ (List.mem_of_getElem? (i := 0) rfl)))
theorem mw_h5_81 : Cond.selects RX13 yX13_tell yX13_tell ∈ VS_h5 := List.mem_append_right _ (List.mem_append_right _ (List.mem_append_left _ (List.mem_of_getElem? (i := 1) rfl)))
theorem mw_h5_82 : Cond.fieldLink RX13 761 "ClassMillModel" "imageMany" "I" ∈ VS_h5 := List.mem_append_right _ (List.mem_append_right _ (List.mem_append_left _ (List.mem_of_getElem? (i := 2) rfl)))
theorem mw_h5_83 : Cond.fieldLink RX13 197 "ClassMillModel" "imageSize" "[I" ∈ VS_h5 := List.mem_append_right _ (List.mem_append_right _ (List.mem_append_left _ (List.mem_of_getElem? (i := 3) rfl)))
theorem mw_h5_84 : Cond.fieldLink RX13 194 "ClassMillModel" "images" "[I" ∈ VS_h5 := List.mem_append_right _ (List.mem_append_right _ (List.mem_append_left _ (List.mem_of_getElem? (i := 4) rfl)))
theorem mw_h5_85 : Cond.fieldLink RX13 764 "ClassMillModel" "form" "I" ∈ VS_h5 := List.mem_append_right _ (List.mem_append_right _ (List.mem_append_left _ (List.mem_of_getElem? (i := 5) rfl)))
theorem mw_h5_86 : Cond.fieldLink RX13 767 "ClassMillModel" "lookSize" "I" ∈ VS_h5 := List.mem_append_right _ (List.mem_append_right _ (List.mem_append_left _ (List.mem_of_getElem? (i := 6) rfl)))
theorem mw_h5_87 : Cond.fieldLink RX13 218 "ClassMillModel" "constantMany" "[I" ∈ VS_h5 := List.mem_append_right _ (List.mem_append_right _ (List.mem_append_left _ (List.mem_of_getElem? (i := 7) rfl)))
theorem mw_h5_88 : Cond.fieldLink RX13 215 "ClassMillModel" "constantAt" "[I" ∈ VS_h5 := List.mem_append_right _ (List.mem_append_right _ (List.mem_append_left _ (List.mem_of_getElem? (i := 8) rfl)))
theorem mw_h5_89 : Cond.code yX13_isLetter cX13_isLetter 1 (some .boolean) ∈ VS_h5 := List.mem_append_right _ (List.mem_append_right _ (List.mem_append_left _ (List.mem_of_getElem? (i := 9) rfl)))
theorem mw_h5_90 : Cond.methodLink RX13 345 yX13_isLetter ∈ VS_h5 := List.mem_append_right _ (List.mem_append_right _ (List.mem_append_left _ (List.mem_of_getElem? (i := 10) rfl)))
theorem mw_h5_91 : Cond.static yX13_isLetter ∈ VS_h5 := List.mem_append_right _ (List.mem_append_right _ (List.mem_append_left _ (List.mem_of_getElem? (i := 11) rfl)))
theorem mw_h5_92 : Cond.code yX13_isDigit cX13_isDigit 1 (some .boolean) ∈ VS_h5 := List.mem_append_right _ (List.mem_append_right _ (List.mem_append_left _ (List.mem_of_getElem? (i := 12) rfl)))
theorem mw_h5_93 : Cond.methodLink RX13 349 yX13_isDigit ∈ VS_h5 := List.mem_append_right _ (List.mem_append_right _ (List.mem_append_left _ (List.mem_of_getElem? (i := 13) rfl)))
theorem mw_h5_94 : Cond.static yX13_isDigit ∈ VS_h5 := List.mem_append_right _ (List.mem_append_right _ (List.mem_append_left _ (List.mem_of_getElem? (i := 14) rfl)))
theorem mw_h5_95 : Cond.code yX13_isNamePart cX13_isNamePart 2 (some .boolean) ∈ VS_h5 := List.mem_append_right _ (List.mem_append_right _ (List.mem_append_left _ (List.mem_of_getElem? (i := 15) rfl)))
theorem mw_h5_96 : Cond.methodLink RX13 770 yX13_isNamePart ∈ VS_h5 := List.mem_append_right _ (List.mem_append_right _ (List.mem_append_left _ (List.mem_of_getElem? (i := 16) rfl)))
theorem mw_h5_97 : Cond.static yX13_isNamePart ∈ VS_h5 := List.mem_append_right _ (List.mem_append_right _ (List.mem_append_left _ (List.mem_of_getElem? (i := 17) rfl)))
theorem mw_h5_98 : Cond.fieldLink RX13 245 "ClassMillModel" "look" "[I" ∈ VS_h5 := List.mem_append_right _ (List.mem_append_right _ (List.mem_append_left _ (List.mem_of_getElem? (i := 18) rfl)))
theorem mw_h5_99 : Cond.fieldLink RX13 221 "ClassMillModel" "ownClass" "[I" ∈ VS_h5 := List.mem_append_right _ (List.mem_append_right _ (List.mem_append_left _ (List.mem_of_getElem? (i := 19) rfl)))
theorem mw_h5_100 : Cond.fieldLink RX13 209 "ClassMillModel" "bytes" "[I" ∈ VS_h5 := List.mem_append_right _ (List.mem_append_right _ (List.mem_append_left _ (List.mem_of_getElem? (i := 20) rfl)))
theorem mw_h5_101 : Cond.fieldLink RX13 833 "ClassMillModel" "there" "I" ∈ VS_h5 := List.mem_append_right _ (List.mem_append_right _ (List.mem_append_left _ (List.mem_of_getElem? (i := 21) rfl)))
theorem mw_h5_102 : Cond.fieldLink RX13 855 "ClassMillModel" "verified" "Z" ∈ VS_h5 := List.mem_append_right _ (List.mem_append_right _ (List.mem_append_left _ (List.mem_of_getElem? (i := 22) rfl)))
theorem mw_h5_103 : Cond.fieldLink RX13 858 "ClassMillModel" "state" "I" ∈ VS_h5 := List.mem_append_right _ (List.mem_append_right _ (List.mem_append_left _ (List.mem_of_getElem? (i := 23) rfl)))
theorem mw_h5_104 : Cond.code yX13_byteAt cX13_byteAt 3 (some .int) ∈ VS_h5 := List.mem_append_right _ (List.mem_append_right _ (List.mem_append_left _ (List.mem_of_getElem? (i := 24) rfl)))
theorem mw_h5_105 : Cond.methodLink RX13 864 yX13_byteAt ∈ VS_h5 := List.mem_append_right _ (List.mem_append_right _ (List.mem_append_left _ (List.mem_of_getElem? (i := 25) rfl)))
theorem mw_h5_106 : Cond.instanceMethod yX13_byteAt ∈ VS_h5 := List.mem_append_right _ (List.mem_append_right _ (List.mem_append_left _ (List.mem_of_getElem? (i := 26) rfl)))
theorem mw_h5_107 : Cond.selects RX13 yX13_byteAt yX13_byteAt ∈ VS_h5 := List.mem_append_right _ (List.mem_append_right _ (List.mem_append_left _ (List.mem_of_getElem? (i := 27) rfl)))
theorem mw_h5_108 : Cond.code yX13_textOfClass cX13_textOfClass 3 (some .int) ∈ VS_h5 := List.mem_append_right _ (List.mem_append_right _ (List.mem_append_left _ (List.mem_of_getElem? (i := 28) rfl)))
theorem mw_h5_109 : Cond.methodLink RX13 867 yX13_textOfClass ∈ VS_h5 := List.mem_append_right _ (List.mem_append_right _ (List.mem_append_left _ (List.mem_of_getElem? (i := 29) rfl)))
theorem mw_h5_110 : Cond.instanceMethod yX13_textOfClass ∈ VS_h5 := List.mem_append_right _ (List.mem_append_right _ (List.mem_append_left _ (List.mem_of_getElem? (i := 30) rfl)))
theorem mw_h5_111 : Cond.selects RX13 yX13_textOfClass yX13_textOfClass ∈ VS_h5 := List.mem_append_right _ (List.mem_append_right _ (List.mem_append_left _ (List.mem_of_getElem? (i := 31) rfl)))
theorem mw_h5_112 : Cond.fieldLink RX13 230 "ClassMillModel" "fieldAt" "[I" ∈ VS_h5 := List.mem_append_right _ (List.mem_append_right _ (List.mem_append_left _ (List.mem_of_getElem? (i := 32) rfl)))
theorem mw_h5_113 : Cond.fieldLink RX13 236 "ClassMillModel" "methodAt" "[I" ∈ VS_h5 := List.mem_append_right _ (List.mem_append_right _ (List.mem_append_left _ (List.mem_of_getElem? (i := 33) rfl)))
theorem mw_h5_114 : Cond.fieldLink RX13 901 "ClassMillModel" "why" "I" ∈ VS_h5 := List.mem_append_right _ (List.mem_append_right _ (List.mem_append_left _ (List.mem_of_getElem? (i := 34) rfl)))
theorem mw_h5_115 : Cond.fieldLink RX13 257 "ClassMillModel" "whyClass" "I" ∈ VS_h5 := List.mem_append_right _ (List.mem_append_right _ (List.mem_append_left _ (List.mem_of_getElem? (i := 35) rfl)))
theorem mw_h5_116 : Cond.fieldLink RX13 261 "ClassMillModel" "whyMethod" "I" ∈ VS_h5 := List.mem_append_right _ (List.mem_append_right _ (List.mem_append_left _ (List.mem_of_getElem? (i := 36) rfl)))
theorem mw_h5_117 : Cond.fieldLink RX13 264 "ClassMillModel" "whyPlace" "I" ∈ VS_h5 := List.mem_append_right _ (List.mem_append_right _ (List.mem_append_left _ (List.mem_of_getElem? (i := 37) rfl)))
theorem mw_h5_118 : Cond.fieldLink RX13 932 "ClassMillModel" "inClass" "I" ∈ VS_h5 := List.mem_append_right _ (List.mem_append_right _ (List.mem_append_left _ (List.mem_of_getElem? (i := 38) rfl)))
theorem mw_h5_119 : Cond.fieldLink RX13 935 "ClassMillModel" "codeAt" "I" ∈ VS_h5 := List.mem_append_right _ (List.mem_append_right _ (List.mem_append_left _ (List.mem_of_getElem? (i := 39) rfl)))
theorem mw_h5_120 : Cond.code yX13_code cX13_code 2 (some .int) ∈ VS_h5 := List.mem_append_right _ (List.mem_append_right _ (List.mem_append_right _ (List.mem_append_left _ (List.mem_of_getElem? (i := 0) rfl))))
theorem mw_h5_121 : Cond.methodLink RX13 938 yX13_code ∈ VS_h5 := List.mem_append_right _ (List.mem_append_right _ (List.mem_append_right _ (List.mem_append_left _ (List.mem_of_getElem? (i := 1) rfl))))
theorem mw_h5_122 : Cond.instanceMethod yX13_code ∈ VS_h5 := List.mem_append_right _ (List.mem_append_right _ (List.mem_append_right _ (List.mem_append_left _ (List.mem_of_getElem? (i := 2) rfl))))
theorem mw_h5_123 : Cond.selects RX13 yX13_code yX13_code ∈ VS_h5 := List.mem_append_right _ (List.mem_append_right _ (List.mem_append_right _ (List.mem_append_left _ (List.mem_of_getElem? (i := 3) rfl))))
theorem mw_h5_124 : Cond.fieldLink RX13 242 "ClassMillModel" "framesAt" "[I" ∈ VS_h5 := List.mem_append_right _ (List.mem_append_right _ (List.mem_append_right _ (List.mem_append_left _ (List.mem_of_getElem? (i := 4) rfl))))
theorem mw_h5_125 : Cond.fieldLink RX13 940 "ClassMillModel" "inMethod" "I" ∈ VS_h5 := List.mem_append_right _ (List.mem_append_right _ (List.mem_append_right _ (List.mem_append_left _ (List.mem_of_getElem? (i := 5) rfl))))
theorem mw_h5_126 : Cond.fieldLink RX13 961 "ClassMillModel" "stackMany" "I" ∈ VS_h5 := List.mem_append_right _ (List.mem_append_right _ (List.mem_append_right _ (List.mem_append_left _ (List.mem_of_getElem? (i := 6) rfl))))
theorem mw_h5_127 : Cond.fieldLink RX13 967 "ClassMillModel" "stackMost" "I" ∈ VS_h5 := List.mem_append_right _ (List.mem_append_right _ (List.mem_append_right _ (List.mem_append_left _ (List.mem_of_getElem? (i := 7) rfl))))
theorem mw_h5_128 : Cond.fieldLink RX13 273 "ClassMillModel" "stack" "[I" ∈ VS_h5 := List.mem_append_right _ (List.mem_append_right _ (List.mem_append_right _ (List.mem_append_left _ (List.mem_of_getElem? (i := 8) rfl))))
theorem mw_h5_129 : Cond.code yX13_pull cX13_pull 1 (some .int) ∈ VS_h5 := List.mem_append_right _ (List.mem_append_right _ (List.mem_append_right _ (List.mem_append_left _ (List.mem_of_getElem? (i := 9) rfl))))
theorem mw_h5_130 : Cond.methodLink RX13 1025 yX13_pull ∈ VS_h5 := List.mem_append_right _ (List.mem_append_right _ (List.mem_append_right _ (List.mem_append_left _ (List.mem_of_getElem? (i := 10) rfl))))
theorem mw_h5_131 : Cond.instanceMethod yX13_pull ∈ VS_h5 := List.mem_append_right _ (List.mem_append_right _ (List.mem_append_right _ (List.mem_append_left _ (List.mem_of_getElem? (i := 11) rfl))))
theorem mw_h5_132 : Cond.selects RX13 yX13_pull yX13_pull ∈ VS_h5 := List.mem_append_right _ (List.mem_append_right _ (List.mem_append_right _ (List.mem_append_left _ (List.mem_of_getElem? (i := 12) rfl))))
theorem mw_h5_133 : Cond.fieldLink RX13 1058 "ClassMillModel" "depth" "I" ∈ VS_h5 := List.mem_append_right _ (List.mem_append_right _ (List.mem_append_right _ (List.mem_append_left _ (List.mem_of_getElem? (i := 13) rfl))))
theorem mw_h5_134 : Cond.fieldLink RX13 306 "ClassMillModel" "cells" "[I" ∈ VS_h5 := List.mem_append_right _ (List.mem_append_right _ (List.mem_append_right _ (List.mem_append_left _ (List.mem_of_getElem? (i := 14) rfl))))
theorem mw_h5_135 : Cond.fieldLink RX13 303 "ClassMillModel" "runStack" "[I" ∈ VS_h5 := List.mem_append_right _ (List.mem_append_right _ (List.mem_append_right _ (List.mem_append_left _ (List.mem_of_getElem? (i := 15) rfl))))
theorem mw_h5_136 : Cond.fieldLink RX13 294 "ClassMillModel" "runClass" "[I" ∈ VS_h5 := List.mem_append_right _ (List.mem_append_right _ (List.mem_append_right _ (List.mem_append_left _ (List.mem_of_getElem? (i := 16) rfl))))
theorem mw_h5_137 : Cond.fieldLink RX13 297 "ClassMillModel" "runMethod" "[I" ∈ VS_h5 := List.mem_append_right _ (List.mem_append_right _ (List.mem_append_right _ (List.mem_append_left _ (List.mem_of_getElem? (i := 17) rfl))))
theorem mw_h5_138 : Cond.fieldLink RX13 300 "ClassMillModel" "runPlace" "[I" ∈ VS_h5 := List.mem_append_right _ (List.mem_append_right _ (List.mem_append_right _ (List.mem_append_left _ (List.mem_of_getElem? (i := 18) rfl))))
theorem mw_h5_139 : Cond.fieldLink RX13 279 "ClassMillModel" "sort" "[I" ∈ VS_h5 := List.mem_append_right _ (List.mem_append_right _ (List.mem_append_right _ (List.mem_append_left _ (List.mem_of_getElem? (i := 19) rfl))))
theorem mw_h5_140 : Cond.code yX13_drop cX13_drop 2 (some .int) ∈ VS_h5 := List.mem_append_right _ (List.mem_append_right _ (List.mem_append_right _ (List.mem_append_left _ (List.mem_of_getElem? (i := 20) rfl))))
theorem mw_h5_141 : Cond.methodLink RX13 1087 yX13_drop ∈ VS_h5 := List.mem_append_right _ (List.mem_append_right _ (List.mem_append_right _ (List.mem_append_left _ (List.mem_of_getElem? (i := 21) rfl))))
theorem mw_h5_142 : Cond.instanceMethod yX13_drop ∈ VS_h5 := List.mem_append_right _ (List.mem_append_right _ (List.mem_append_right _ (List.mem_append_left _ (List.mem_of_getElem? (i := 22) rfl))))
theorem mw_h5_143 : Cond.selects RX13 yX13_drop yX13_drop ∈ VS_h5 := List.mem_append_right _ (List.mem_append_right _ (List.mem_append_right _ (List.mem_append_left _ (List.mem_of_getElem? (i := 23) rfl))))
theorem mw_h5_144 : Cond.code yX13_give cX13_give 3 none ∈ VS_h5 := List.mem_append_right _ (List.mem_append_right _ (List.mem_append_right _ (List.mem_append_left _ (List.mem_of_getElem? (i := 24) rfl))))
theorem mw_h5_145 : Cond.methodLink RX13 1072 yX13_give ∈ VS_h5 := List.mem_append_right _ (List.mem_append_right _ (List.mem_append_right _ (List.mem_append_left _ (List.mem_of_getElem? (i := 25) rfl))))
theorem mw_h5_146 : Cond.instanceMethod yX13_give ∈ VS_h5 := List.mem_append_right _ (List.mem_append_right _ (List.mem_append_right _ (List.mem_append_left _ (List.mem_of_getElem? (i := 26) rfl))))
theorem mw_h5_147 : Cond.selects RX13 yX13_give yX13_give ∈ VS_h5 := List.mem_append_right _ (List.mem_append_right _ (List.mem_append_right _ (List.mem_append_left _ (List.mem_of_getElem? (i := 27) rfl))))
theorem mw_h5_148 : Cond.fieldLink RX13 1055 "ClassMillModel" "printedMany" "I" ∈ VS_h5 := List.mem_append_right _ (List.mem_append_right _ (List.mem_append_right _ (List.mem_append_left _ (List.mem_of_getElem? (i := 28) rfl))))
theorem mw_h5_149 : Cond.fieldLink RX13 291 "ClassMillModel" "printed" "[I" ∈ VS_h5 := List.mem_append_right _ (List.mem_append_right _ (List.mem_append_right _ (List.mem_append_left _ (List.mem_of_getElem? (i := 29) rfl))))
theorem uV_h5_X13 : ∀ w ∈ u_ws RX13 TX13 155, w ∈ VS_h5 := fun w h => List.mem_append_right _ (List.mem_append_right _ (List.mem_append_right _ (List.mem_append_right _ (h))))
set_option maxRecDepth 100000 in
theorem gs_h5 : GoodIn VS_h5 VS_h5 := vs_self (by decide +kernel)
theorem gv_h5_0 : GoodIn VS_h5 (wsV RX13 379 RX13 yX13_wrong (.code yX13_wrong cX13_wrong 3 none :: VS_h5)) := goodIn_app (vs_in4 mw_h5_11 mw_h5_12 mw_h5_13 mw_h5_14 (by decide +kernel)) (vs_cons mw_h5_10 (by decide +kernel) gs_h5)
theorem gv_h5_1 : GoodIn VS_h5 (wsV RX13 383 RX13 yX13_isSign (.code yX13_isSign cX13_isSign 3 (some .boolean) :: VS_h5)) := goodIn_app (vs_in4 mw_h5_17 mw_h5_18 mw_h5_19 mw_h5_14 (by decide +kernel)) (vs_cons mw_h5_16 (by decide +kernel) gs_h5)
theorem gv_h5_2 : GoodIn VS_h5 (wsV RX13 387 RX13 yX13_misplaced (.code yX13_misplaced cX13_misplaced 1 none :: VS_h5)) := goodIn_app (vs_in4 mw_h5_21 mw_h5_22 mw_h5_23 mw_h5_14 (by decide +kernel)) (vs_cons mw_h5_20 (by decide +kernel) gs_h5)
theorem gv_h5_3 : GoodIn VS_h5 (wsV RX13 390 RX13 yX13_isWord (.code yX13_isWord cX13_isWord 3 (some .boolean) :: VS_h5)) := goodIn_app (vs_in4 mw_h5_25 mw_h5_26 mw_h5_27 mw_h5_14 (by decide +kernel)) (vs_cons mw_h5_24 (by decide +kernel) gs_h5)
theorem gv_h5_4 : GoodIn VS_h5 (va_wsS RX13 485 yX13_isArray (.code yX13_isArray cX13_isArray 1 (some .boolean) :: VS_h5)) := goodIn_app (vs_in3 mw_h5_42 mw_h5_43 mw_h5_14 (by decide +kernel)) (vs_cons mw_h5_41 (by decide +kernel) gs_h5)
theorem gv_h5_5 : GoodIn VS_h5 (wsV RX13 640 RX13 yX13_push (.code yX13_push cX13_push 2 none :: VS_h5)) := goodIn_app (vs_in4 mw_h5_54 mw_h5_55 mw_h5_56 mw_h5_14 (by decide +kernel)) (vs_cons mw_h5_53 (by decide +kernel) gs_h5)
theorem gv_h5_6 : GoodIn VS_h5 (wsV RX13 646 RX13 yX13_put (.code yX13_put cX13_put 2 none :: VS_h5)) := goodIn_app (vs_in4 mw_h5_58 mw_h5_59 mw_h5_60 mw_h5_14 (by decide +kernel)) (vs_cons mw_h5_57 (by decide +kernel) gs_h5)
theorem gv_h5_7 : GoodIn VS_h5 (wsV RX13 528 RX13 yX13_come (.code yX13_come cX13_come 3 none :: VS_h5)) := goodIn_app (vs_in4 mw_h5_66 mw_h5_67 mw_h5_68 mw_h5_14 (by decide +kernel)) (vs_cons mw_h5_65 (by decide +kernel) gs_h5)
theorem gv_h5_8 : GoodIn VS_h5 (wsV RX13 582 RX13 yX13_local (.code yX13_local cX13_local 2 (some .int) :: VS_h5)) := goodIn_app (vs_in4 mw_h5_71 mw_h5_72 mw_h5_73 mw_h5_14 (by decide +kernel)) (vs_cons mw_h5_70 (by decide +kernel) gs_h5)
theorem gv_h5_9 : GoodIn VS_h5 (wsV RX13 731 RX13 yX13_tell (.code yX13_tell cX13_tell 2 none :: VS_h5)) := goodIn_app (vs_in4 mw_h5_79 mw_h5_80 mw_h5_81 mw_h5_14 (by decide +kernel)) (vs_cons mw_h5_78 (by decide +kernel) gs_h5)
theorem gv_h5_10 : GoodIn VS_h5 (va_wsS RX13 345 yX13_isLetter (.code yX13_isLetter cX13_isLetter 1 (some .boolean) :: VS_h5)) := goodIn_app (vs_in3 mw_h5_90 mw_h5_91 mw_h5_14 (by decide +kernel)) (vs_cons mw_h5_89 (by decide +kernel) gs_h5)
theorem gv_h5_11 : GoodIn VS_h5 (va_wsS RX13 349 yX13_isDigit (.code yX13_isDigit cX13_isDigit 1 (some .boolean) :: VS_h5)) := goodIn_app (vs_in3 mw_h5_93 mw_h5_94 mw_h5_14 (by decide +kernel)) (vs_cons mw_h5_92 (by decide +kernel) gs_h5)
theorem gv_h5_12 : GoodIn VS_h5 (va_wsS RX13 770 yX13_isNamePart (.code yX13_isNamePart cX13_isNamePart 2 (some .boolean) :: VS_h5)) := goodIn_app (vs_in3 mw_h5_96 mw_h5_97 mw_h5_14 (by decide +kernel)) (vs_cons mw_h5_95 (by decide +kernel) gs_h5)
theorem gv_h5_13 : GoodIn VS_h5 (wsV RX13 864 RX13 yX13_byteAt (.code yX13_byteAt cX13_byteAt 3 (some .int) :: VS_h5)) := goodIn_app (vs_in4 mw_h5_105 mw_h5_106 mw_h5_107 mw_h5_14 (by decide +kernel)) (vs_cons mw_h5_104 (by decide +kernel) gs_h5)
theorem gv_h5_14 : GoodIn VS_h5 (wsV RX13 867 RX13 yX13_textOfClass (.code yX13_textOfClass cX13_textOfClass 3 (some .int) :: VS_h5)) := goodIn_app (vs_in4 mw_h5_109 mw_h5_110 mw_h5_111 mw_h5_14 (by decide +kernel)) (vs_cons mw_h5_108 (by decide +kernel) gs_h5)
theorem gv_h5_15 : GoodIn VS_h5 (wsV RX13 938 RX13 yX13_code (.code yX13_code cX13_code 2 (some .int) :: VS_h5)) := goodIn_app (vs_in4 mw_h5_121 mw_h5_122 mw_h5_123 mw_h5_14 (by decide +kernel)) (vs_cons mw_h5_120 (by decide +kernel) gs_h5)
theorem gv_h5_16 : GoodIn VS_h5 (wsV RX13 1025 RX13 yX13_pull (.code yX13_pull cX13_pull 1 (some .int) :: VS_h5)) := goodIn_app (vs_in4 mw_h5_130 mw_h5_131 mw_h5_132 mw_h5_14 (by decide +kernel)) (vs_cons mw_h5_129 (by decide +kernel) gs_h5)
theorem gv_h5_17 : GoodIn VS_h5 (wsV RX13 1087 RX13 yX13_drop (.code yX13_drop cX13_drop 2 (some .int) :: VS_h5)) := goodIn_app (vs_in4 mw_h5_141 mw_h5_142 mw_h5_143 mw_h5_14 (by decide +kernel)) (vs_cons mw_h5_140 (by decide +kernel) gs_h5)
theorem gv_h5_18 : GoodIn VS_h5 (wsV RX13 1072 RX13 yX13_give (.code yX13_give cX13_give 3 none :: VS_h5)) := goodIn_app (vs_in4 mw_h5_145 mw_h5_146 mw_h5_147 mw_h5_14 (by decide +kernel)) (vs_cons mw_h5_144 (by decide +kernel) gs_h5)
