def tyX9 : Nat → FieldType := fun k => match k with
  | 0 => .array .int
  | 1 => .array .int
  | 2 => .array .int
  | 3 => .int
  | 4 => .array .byte
  | 5 => .array .int
  | 6 => .array .int
  | 7 => .array .int
  | 8 => .array .int
  | 9 => .int
  | 10 => .int
  | 11 => .int
  | _ => .int
abbrev wsX90 : List Cond := u_ws RX9 TX9 13
theorem nmX9 : ∀ a, a < 13 → ∀ b, b < 13 → a ≠ b → (TX9 a).2.1 ≠ (TX9 b).2.1 := by decide +kernel
theorem tyX9_ok : ∀ k, k < 13 → parseFieldDescriptor (TX9 k).2.2.1 = some (tyX9 k) := by decide +kernel
abbrev cX9_init : ByteArray := prog_11_method_1_code
def yX9_init : MethodName := ⟨RX9, "<init>", "()V"⟩
abbrev cX9_closeName : ByteArray := prog_11_method_2_code
def yX9_closeName : MethodName := ⟨RX9, "closeName", "(I)V"⟩
abbrev cX9_bucketOf : ByteArray := prog_11_method_3_code
def yX9_bucketOf : MethodName := ⟨RX9, "bucketOf", "([BII)I"⟩
def wsX9_bucketOf : List Cond := .code yX9_bucketOf cX9_bucketOf 3 (some .int) :: ([])
def wsX9_closeName : List Cond := .code yX9_closeName cX9_closeName 4 none :: ([.fieldLink RX9 29 "ClassMill$Text" "nameAt" "[I", .fieldLink RX9 73 "ClassMill$Text" "names" "I", .fieldLink RX9 25 "ClassMill$Text" "letters" "[B", .fieldLink RX9 32 "ClassMill$Text" "sameBucket" "[I", .fieldLink RX9 35 "ClassMill$Text" "bucket" "[I", .methodLink RX9 76 yX9_bucketOf, .static yX9_bucketOf, .initialized RX9, .code yX9_bucketOf cX9_bucketOf 3 (some .int)] ++ wsX90)
def wsX9_init_r1 : List Cond := [Cond.methodLink RX9 9 objectInit, Cond.instanceMethod objectInit, Cond.code objectInit ⟨#[0xb1]⟩ 1 none, Cond.arrayClass .int, Cond.fieldLink RX9 15 "ClassMill$Text" "kinds" "[I", Cond.fieldLink RX9 19 "ClassMill$Text" "places" "[I", Cond.fieldLink RX9 22 "ClassMill$Text" "values" "[I", Cond.arrayClass .byte, Cond.fieldLink RX9 25 "ClassMill$Text" "letters" "[B", Cond.fieldLink RX9 29 "ClassMill$Text" "nameAt" "[I", Cond.fieldLink RX9 32 "ClassMill$Text" "sameBucket" "[I", Cond.fieldLink RX9 35 "ClassMill$Text" "bucket" "[I", Cond.fieldLink RX9 38 "ClassMill$Text" "knownBucket" "[I", Cond.fieldLink RX9 41 "ClassMill$Text" "place" "I", Cond.methodLink RX9 67 arraycopyName, Cond.native arraycopyName, Cond.static arraycopyName, Cond.initialized "java/lang/System", Cond.methodLink RX9 45 yJ7_fill_53178, Cond.static yJ7_fill_53178, Cond.initialized RJ7, Cond.code yJ7_fill_53178 cJ7_fill_53178 4 none, Cond.methodLink RX9 53 yJ0_length_8abf5, Cond.instanceMethod yJ0_length_8abf5]
def wsX9_init_r2 : List Cond := [Cond.selects RJ0 yJ0_length_8abf5 yJ0_length_8abf5, Cond.initialized RJ0, Cond.code yJ0_length_8abf5 cJ0_length_8abf5 1 (some .int), Cond.fieldLink RJ0 9 "java/lang/String" "value" "[B", Cond.methodLink RJ0 335 yJ0_coder_7d493, Cond.instanceMethod yJ0_coder_7d493, Cond.selects RJ0 yJ0_coder_7d493 yJ0_coder_7d493, Cond.code yJ0_coder_7d493 cJ0_coder_7d493 1 (some .byte), Cond.fieldLink RJ0 38 "java/lang/String" "COMPACT_STRINGS" "Z", Cond.fieldLink RJ0 15 "java/lang/String" "coder" "B", Cond.methodLink RX9 59 yJ0_charAt_5068e, Cond.instanceMethod yJ0_charAt_5068e, Cond.selects RJ0 yJ0_charAt_5068e yJ0_charAt_5068e, Cond.code yJ0_charAt_5068e cJ0_charAt_5068e 2 (some .char), Cond.methodLink RJ0 492 yJ0_isLatin1_aae02, Cond.instanceMethod yJ0_isLatin1_aae02, Cond.selects RJ0 yJ0_isLatin1_aae02 yJ0_isLatin1_aae02, Cond.code yJ0_isLatin1_aae02 cJ0_isLatin1_aae02 1 (some .boolean), Cond.methodLink RJ0 495 yJ1_charAt_3b067, Cond.static yJ1_charAt_3b067, Cond.initialized RJ1, Cond.code yJ1_charAt_3b067 cJ1_charAt_3b067 2 (some .char), Cond.methodLink RJ1 9 yJ0_checkIndex_df160, Cond.static yJ0_checkIndex_df160]
def wsX9_init_r3 : List Cond := [Cond.code yJ0_checkIndex_df160 cJ0_checkIndex_df160 2 none, Cond.fieldLink RJ0 1053 "jdk/internal/util/Preconditions" "SIOOBE_FORMATTER" "Ljava/util/function/BiFunction;", Cond.methodLink RJ0 1059 yJ3_checkIndex_8e157, Cond.static yJ3_checkIndex_8e157, Cond.initialized RJ3, Cond.code yJ3_checkIndex_8e157 cJ3_checkIndex_8e157 3 (some .int), Cond.methodLink RJ0 498 yJ2_charAt_3b067, Cond.static yJ2_charAt_3b067, Cond.initialized RJ2, Cond.code yJ2_charAt_3b067 cJ2_charAt_3b067 2 (some .char), Cond.methodLink RJ2 67 yJ2_checkIndex_2214a, Cond.static yJ2_checkIndex_2214a, Cond.code yJ2_checkIndex_2214a cJ2_checkIndex_2214a 2 none, Cond.methodLink RJ2 48 yJ2_length_9d52b, Cond.static yJ2_length_9d52b, Cond.code yJ2_length_9d52b cJ2_length_9d52b 1 (some .int), Cond.methodLink RJ2 414 yJ0_checkIndex_df160, Cond.methodLink RJ2 71 yJ2_getChar_3b067, Cond.static yJ2_getChar_3b067, Cond.code yJ2_getChar_3b067 cJ2_getChar_3b067 2 (some .char), Cond.fieldLink RJ2 44 "java/lang/StringUTF16" "$assertionsDisabled" "Z", Cond.fieldLink RJ2 59 "java/lang/StringUTF16" "HI_BYTE_SHIFT" "I", Cond.fieldLink RJ2 63 "java/lang/StringUTF16" "LO_BYTE_SHIFT" "I", Cond.methodLink RX9 63 yX9_closeName]
def wsX9_init_r4 : List Cond := [Cond.instanceMethod yX9_closeName, Cond.selects RX9 yX9_closeName yX9_closeName, Cond.initialized RX9, Cond.code yX9_closeName cX9_closeName 4 none, Cond.fieldLink RX9 73 "ClassMill$Text" "names" "I", Cond.methodLink RX9 76 yX9_bucketOf, Cond.static yX9_bucketOf, Cond.code yX9_bucketOf cX9_bucketOf 3 (some .int)]
def wsX9_init : List Cond := .code yX9_init cX9_init 3 none :: ((wsX9_init_r1 ++ (wsX9_init_r2 ++ (wsX9_init_r3 ++ wsX9_init_r4))) ++ wsX90)
set_option maxRecDepth 20000 in
theorem ggX9_init_J7_fill_53178 : GoodIn wsX9_init wsJ7_fill_53178 := goodIn_r _ [22] (by decide +kernel) (by decide +kernel)
set_option maxRecDepth 20000 in
theorem gX9_init_J7_fill_53178 : GoodIn wsX9_init (va_wsS RX9 45 yJ7_fill_53178 wsJ7_fill_53178) := goodIn_app (goodIn_of _ (by decide +kernel)) ggX9_init_J7_fill_53178
set_option maxRecDepth 20000 in
theorem ggX9_init_J0_length_8abf5 : GoodIn wsX9_init wsJ0_length_8abf5 := goodIn_r _ [27, 28, 29, 30, 31, 26, 32, 33, 34] (by decide +kernel) (by decide +kernel)
set_option maxRecDepth 20000 in
theorem gX9_init_J0_length_8abf5 : GoodIn wsX9_init (wsV RX9 53 RJ0 yJ0_length_8abf5 wsJ0_length_8abf5) := goodIn_app (goodIn_of _ (by decide +kernel)) ggX9_init_J0_length_8abf5
set_option maxRecDepth 20000 in
theorem ggX9_init_J0_charAt_5068e : GoodIn wsX9_init wsJ0_charAt_5068e := goodIn_r _ [38, 28, 39, 40, 41, 26, 42, 33, 34, 43, 44, 45, 46, 47, 48, 49, 50, 51, 52, 53, 54, 55, 56, 57, 58, 59, 60, 61, 62, 63, 64, 65, 66, 67, 68, 69, 70, 71] (by decide +kernel) (by decide +kernel)
set_option maxRecDepth 20000 in
theorem gX9_init_J0_charAt_5068e : GoodIn wsX9_init (wsV RX9 59 RJ0 yJ0_charAt_5068e wsJ0_charAt_5068e) := goodIn_app (goodIn_of _ (by decide +kernel)) ggX9_init_J0_charAt_5068e
set_option maxRecDepth 20000 in
theorem ggX9_init_X9_closeName : GoodIn wsX9_init wsX9_closeName := goodIn_r _ [76, 10, 77, 9, 11, 12, 78, 79, 75, 80, 81, 82, 83, 84, 85, 86, 87, 88, 89, 90, 91, 92, 93] (by decide +kernel) (by decide +kernel)
set_option maxRecDepth 20000 in
theorem gX9_init_X9_closeName : GoodIn wsX9_init (wsV RX9 63 RX9 yX9_closeName wsX9_closeName) := goodIn_app (goodIn_of _ (by decide +kernel)) ggX9_init_X9_closeName
theorem dX9_init_0 : decode cX9_init 0 = .ok (.aload_n 0, 1) := by decide +kernel
theorem dX9_init_1 : decode cX9_init 1 = .ok (.invokespecial 9, 3) := by decide +kernel
theorem dX9_init_4 : decode cX9_init 4 = .ok (.aload_n 0, 1) := by decide +kernel
theorem dX9_init_5 : decode cX9_init 5 = .ok (.sipush 3001, 3) := by decide +kernel
theorem dX9_init_8 : decode cX9_init 8 = .ok (.newarray .int, 2) := by decide +kernel
theorem dX9_init_10 : decode cX9_init 10 = .ok (.putfield 15, 3) := by decide +kernel
theorem dX9_init_13 : decode cX9_init 13 = .ok (.aload_n 0, 1) := by decide +kernel
theorem dX9_init_14 : decode cX9_init 14 = .ok (.sipush 3001, 3) := by decide +kernel
theorem dX9_init_17 : decode cX9_init 17 = .ok (.newarray .int, 2) := by decide +kernel
theorem dX9_init_19 : decode cX9_init 19 = .ok (.putfield 19, 3) := by decide +kernel
theorem dX9_init_22 : decode cX9_init 22 = .ok (.aload_n 0, 1) := by decide +kernel
theorem dX9_init_23 : decode cX9_init 23 = .ok (.sipush 3001, 3) := by decide +kernel
theorem dX9_init_26 : decode cX9_init 26 = .ok (.newarray .int, 2) := by decide +kernel
theorem dX9_init_28 : decode cX9_init 28 = .ok (.putfield 22, 3) := by decide +kernel
theorem dX9_init_31 : decode cX9_init 31 = .ok (.aload_n 0, 1) := by decide +kernel
theorem dX9_init_32 : decode cX9_init 32 = .ok (.sipush 6400, 3) := by decide +kernel
theorem dX9_init_35 : decode cX9_init 35 = .ok (.newarray .byte, 2) := by decide +kernel
theorem dX9_init_37 : decode cX9_init 37 = .ok (.putfield 25, 3) := by decide +kernel
theorem dX9_init_40 : decode cX9_init 40 = .ok (.aload_n 0, 1) := by decide +kernel
theorem dX9_init_41 : decode cX9_init 41 = .ok (.sipush 1741, 3) := by decide +kernel
theorem dX9_init_44 : decode cX9_init 44 = .ok (.newarray .int, 2) := by decide +kernel
theorem dX9_init_46 : decode cX9_init 46 = .ok (.putfield 29, 3) := by decide +kernel
theorem dX9_init_49 : decode cX9_init 49 = .ok (.aload_n 0, 1) := by decide +kernel
theorem dX9_init_50 : decode cX9_init 50 = .ok (.sipush 1740, 3) := by decide +kernel
theorem dX9_init_53 : decode cX9_init 53 = .ok (.newarray .int, 2) := by decide +kernel
theorem dX9_init_55 : decode cX9_init 55 = .ok (.putfield 32, 3) := by decide +kernel
theorem dX9_init_58 : decode cX9_init 58 = .ok (.aload_n 0, 1) := by decide +kernel
theorem dX9_init_59 : decode cX9_init 59 = .ok (.bipush 64, 2) := by decide +kernel
theorem dX9_init_61 : decode cX9_init 61 = .ok (.newarray .int, 2) := by decide +kernel
theorem dX9_init_63 : decode cX9_init 63 = .ok (.putfield 35, 3) := by decide +kernel
theorem dX9_init_66 : decode cX9_init 66 = .ok (.aload_n 0, 1) := by decide +kernel
theorem dX9_init_67 : decode cX9_init 67 = .ok (.bipush 64, 2) := by decide +kernel
theorem dX9_init_69 : decode cX9_init 69 = .ok (.newarray .int, 2) := by decide +kernel
theorem dX9_init_71 : decode cX9_init 71 = .ok (.putfield 38, 3) := by decide +kernel
theorem dX9_init_74 : decode cX9_init 74 = .ok (.aload_n 0, 1) := by decide +kernel
theorem dX9_init_75 : decode cX9_init 75 = .ok (.iconst (-1), 1) := by decide +kernel
theorem dX9_init_76 : decode cX9_init 76 = .ok (.putfield 41, 3) := by decide +kernel
theorem dX9_init_79 : decode cX9_init 79 = .ok (.aload_n 0, 1) := by decide +kernel
theorem dX9_init_80 : decode cX9_init 80 = .ok (.getfield 35, 3) := by decide +kernel
theorem dX9_init_83 : decode cX9_init 83 = .ok (.iconst (-1), 1) := by decide +kernel
theorem dX9_init_84 : decode cX9_init 84 = .ok (.invokestatic 45, 3) := by decide +kernel
theorem dX9_init_87 : decode cX9_init 87 = .ok (.iconst 0, 1) := by decide +kernel
theorem dX9_init_88 : decode cX9_init 88 = .ok (.istore_n 1, 1) := by decide +kernel
theorem dX9_init_89 : decode cX9_init 89 = .ok (.iconst 0, 1) := by decide +kernel
theorem dX9_init_90 : decode cX9_init 90 = .ok (.istore_n 2, 1) := by decide +kernel
theorem dX9_init_91 : decode cX9_init 91 = .ok (.iload_n 2, 1) := by decide +kernel
theorem dX9_init_92 : decode cX9_init 92 = .ok (.ldc 51, 2) := by decide +kernel
theorem dX9_init_94 : decode cX9_init 94 = .ok (.invokevirtual 53, 3) := by decide +kernel
theorem dX9_init_97 : decode cX9_init 97 = .ok (.if_icmp .ge 44, 3) := by decide +kernel
theorem dX9_init_100 : decode cX9_init 100 = .ok (.ldc 51, 2) := by decide +kernel
theorem dX9_init_102 : decode cX9_init 102 = .ok (.iload_n 2, 1) := by decide +kernel
theorem dX9_init_103 : decode cX9_init 103 = .ok (.invokevirtual 59, 3) := by decide +kernel
theorem dX9_init_106 : decode cX9_init 106 = .ok (.bipush 32, 2) := by decide +kernel
theorem dX9_init_108 : decode cX9_init 108 = .ok (.if_icmp .ne 11, 3) := by decide +kernel
theorem dX9_init_111 : decode cX9_init 111 = .ok (.aload_n 0, 1) := by decide +kernel
theorem dX9_init_112 : decode cX9_init 112 = .ok (.iload_n 1, 1) := by decide +kernel
theorem dX9_init_113 : decode cX9_init 113 = .ok (.invokevirtual 63, 3) := by decide +kernel
theorem dX9_init_116 : decode cX9_init 116 = .ok (.goto 19, 3) := by decide +kernel
theorem dX9_init_119 : decode cX9_init 119 = .ok (.aload_n 0, 1) := by decide +kernel
theorem dX9_init_120 : decode cX9_init 120 = .ok (.getfield 25, 3) := by decide +kernel
theorem dX9_init_123 : decode cX9_init 123 = .ok (.iload_n 1, 1) := by decide +kernel
theorem dX9_init_124 : decode cX9_init 124 = .ok (.ldc 51, 2) := by decide +kernel
theorem dX9_init_126 : decode cX9_init 126 = .ok (.iload_n 2, 1) := by decide +kernel
theorem dX9_init_127 : decode cX9_init 127 = .ok (.invokevirtual 59, 3) := by decide +kernel
theorem dX9_init_130 : decode cX9_init 130 = .ok (.i2b, 1) := by decide +kernel
theorem dX9_init_131 : decode cX9_init 131 = .ok (.bastore, 1) := by decide +kernel
theorem dX9_init_132 : decode cX9_init 132 = .ok (.iinc 1 1, 3) := by decide +kernel
theorem dX9_init_135 : decode cX9_init 135 = .ok (.iinc 2 1, 3) := by decide +kernel
theorem dX9_init_138 : decode cX9_init 138 = .ok (.goto (-47), 3) := by decide +kernel
theorem dX9_init_141 : decode cX9_init 141 = .ok (.aload_n 0, 1) := by decide +kernel
theorem dX9_init_142 : decode cX9_init 142 = .ok (.getfield 35, 3) := by decide +kernel
theorem dX9_init_145 : decode cX9_init 145 = .ok (.iconst 0, 1) := by decide +kernel
theorem dX9_init_146 : decode cX9_init 146 = .ok (.aload_n 0, 1) := by decide +kernel
theorem dX9_init_147 : decode cX9_init 147 = .ok (.getfield 38, 3) := by decide +kernel
theorem dX9_init_150 : decode cX9_init 150 = .ok (.iconst 0, 1) := by decide +kernel
theorem dX9_init_151 : decode cX9_init 151 = .ok (.bipush 64, 2) := by decide +kernel
theorem dX9_init_153 : decode cX9_init 153 = .ok (.invokestatic 67, 3) := by decide +kernel
theorem dX9_init_156 : decode cX9_init 156 = .ok (.return_, 1) := by decide +kernel
set_option maxRecDepth 20000 in
theorem ggX9_closeName_X9_bucketOf : GoodIn wsX9_closeName wsX9_bucketOf := goodIn_r _ [9] (by decide +kernel) (by decide +kernel)
set_option maxRecDepth 20000 in
theorem gX9_closeName_X9_bucketOf : GoodIn wsX9_closeName (va_wsS RX9 76 yX9_bucketOf wsX9_bucketOf) := goodIn_app (goodIn_of _ (by decide +kernel)) ggX9_closeName_X9_bucketOf
theorem dX9_closeName_0 : decode cX9_closeName 0 = .ok (.aload_n 0, 1) := by decide +kernel
theorem dX9_closeName_1 : decode cX9_closeName 1 = .ok (.getfield 29, 3) := by decide +kernel
theorem dX9_closeName_4 : decode cX9_closeName 4 = .ok (.aload_n 0, 1) := by decide +kernel
theorem dX9_closeName_5 : decode cX9_closeName 5 = .ok (.getfield 73, 3) := by decide +kernel
theorem dX9_closeName_8 : decode cX9_closeName 8 = .ok (.iaload, 1) := by decide +kernel
theorem dX9_closeName_9 : decode cX9_closeName 9 = .ok (.istore_n 2, 1) := by decide +kernel
theorem dX9_closeName_10 : decode cX9_closeName 10 = .ok (.aload_n 0, 1) := by decide +kernel
theorem dX9_closeName_11 : decode cX9_closeName 11 = .ok (.getfield 25, 3) := by decide +kernel
theorem dX9_closeName_14 : decode cX9_closeName 14 = .ok (.iload_n 2, 1) := by decide +kernel
theorem dX9_closeName_15 : decode cX9_closeName 15 = .ok (.iload_n 1, 1) := by decide +kernel
theorem dX9_closeName_16 : decode cX9_closeName 16 = .ok (.iload_n 2, 1) := by decide +kernel
theorem dX9_closeName_17 : decode cX9_closeName 17 = .ok (.isub, 1) := by decide +kernel
theorem dX9_closeName_18 : decode cX9_closeName 18 = .ok (.invokestatic 76, 3) := by decide +kernel
theorem dX9_closeName_21 : decode cX9_closeName 21 = .ok (.istore_n 3, 1) := by decide +kernel
theorem dX9_closeName_22 : decode cX9_closeName 22 = .ok (.aload_n 0, 1) := by decide +kernel
theorem dX9_closeName_23 : decode cX9_closeName 23 = .ok (.getfield 32, 3) := by decide +kernel
theorem dX9_closeName_26 : decode cX9_closeName 26 = .ok (.aload_n 0, 1) := by decide +kernel
theorem dX9_closeName_27 : decode cX9_closeName 27 = .ok (.getfield 73, 3) := by decide +kernel
theorem dX9_closeName_30 : decode cX9_closeName 30 = .ok (.aload_n 0, 1) := by decide +kernel
theorem dX9_closeName_31 : decode cX9_closeName 31 = .ok (.getfield 35, 3) := by decide +kernel
theorem dX9_closeName_34 : decode cX9_closeName 34 = .ok (.iload_n 3, 1) := by decide +kernel
theorem dX9_closeName_35 : decode cX9_closeName 35 = .ok (.iaload, 1) := by decide +kernel
theorem dX9_closeName_36 : decode cX9_closeName 36 = .ok (.iastore, 1) := by decide +kernel
theorem dX9_closeName_37 : decode cX9_closeName 37 = .ok (.aload_n 0, 1) := by decide +kernel
theorem dX9_closeName_38 : decode cX9_closeName 38 = .ok (.getfield 35, 3) := by decide +kernel
theorem dX9_closeName_41 : decode cX9_closeName 41 = .ok (.iload_n 3, 1) := by decide +kernel
theorem dX9_closeName_42 : decode cX9_closeName 42 = .ok (.aload_n 0, 1) := by decide +kernel
theorem dX9_closeName_43 : decode cX9_closeName 43 = .ok (.getfield 73, 3) := by decide +kernel
theorem dX9_closeName_46 : decode cX9_closeName 46 = .ok (.iastore, 1) := by decide +kernel
theorem dX9_closeName_47 : decode cX9_closeName 47 = .ok (.aload_n 0, 1) := by decide +kernel
theorem dX9_closeName_48 : decode cX9_closeName 48 = .ok (.dup, 1) := by decide +kernel
theorem dX9_closeName_49 : decode cX9_closeName 49 = .ok (.getfield 73, 3) := by decide +kernel
theorem dX9_closeName_52 : decode cX9_closeName 52 = .ok (.iconst 1, 1) := by decide +kernel
theorem dX9_closeName_53 : decode cX9_closeName 53 = .ok (.iadd, 1) := by decide +kernel
theorem dX9_closeName_54 : decode cX9_closeName 54 = .ok (.putfield 73, 3) := by decide +kernel
theorem dX9_closeName_57 : decode cX9_closeName 57 = .ok (.aload_n 0, 1) := by decide +kernel
theorem dX9_closeName_58 : decode cX9_closeName 58 = .ok (.getfield 29, 3) := by decide +kernel
theorem dX9_closeName_61 : decode cX9_closeName 61 = .ok (.aload_n 0, 1) := by decide +kernel
theorem dX9_closeName_62 : decode cX9_closeName 62 = .ok (.getfield 73, 3) := by decide +kernel
theorem dX9_closeName_65 : decode cX9_closeName 65 = .ok (.iload_n 1, 1) := by decide +kernel
theorem dX9_closeName_66 : decode cX9_closeName 66 = .ok (.iastore, 1) := by decide +kernel
theorem dX9_closeName_67 : decode cX9_closeName 67 = .ok (.return_, 1) := by decide +kernel
theorem dX9_bucketOf_0 : decode cX9_bucketOf 0 = .ok (.aload_n 0, 1) := by decide +kernel
theorem dX9_bucketOf_1 : decode cX9_bucketOf 1 = .ok (.iload_n 1, 1) := by decide +kernel
theorem dX9_bucketOf_2 : decode cX9_bucketOf 2 = .ok (.baload, 1) := by decide +kernel
theorem dX9_bucketOf_3 : decode cX9_bucketOf 3 = .ok (.iconst 5, 1) := by decide +kernel
theorem dX9_bucketOf_4 : decode cX9_bucketOf 4 = .ok (.imul, 1) := by decide +kernel
theorem dX9_bucketOf_5 : decode cX9_bucketOf 5 = .ok (.aload_n 0, 1) := by decide +kernel
theorem dX9_bucketOf_6 : decode cX9_bucketOf 6 = .ok (.iload_n 1, 1) := by decide +kernel
theorem dX9_bucketOf_7 : decode cX9_bucketOf 7 = .ok (.iload_n 2, 1) := by decide +kernel
theorem dX9_bucketOf_8 : decode cX9_bucketOf 8 = .ok (.iadd, 1) := by decide +kernel
theorem dX9_bucketOf_9 : decode cX9_bucketOf 9 = .ok (.iconst 1, 1) := by decide +kernel
theorem dX9_bucketOf_10 : decode cX9_bucketOf 10 = .ok (.isub, 1) := by decide +kernel
theorem dX9_bucketOf_11 : decode cX9_bucketOf 11 = .ok (.baload, 1) := by decide +kernel
theorem dX9_bucketOf_12 : decode cX9_bucketOf 12 = .ok (.iconst 3, 1) := by decide +kernel
theorem dX9_bucketOf_13 : decode cX9_bucketOf 13 = .ok (.imul, 1) := by decide +kernel
theorem dX9_bucketOf_14 : decode cX9_bucketOf 14 = .ok (.iadd, 1) := by decide +kernel
theorem dX9_bucketOf_15 : decode cX9_bucketOf 15 = .ok (.iload_n 2, 1) := by decide +kernel
theorem dX9_bucketOf_16 : decode cX9_bucketOf 16 = .ok (.iadd, 1) := by decide +kernel
theorem dX9_bucketOf_17 : decode cX9_bucketOf 17 = .ok (.bipush 63, 2) := by decide +kernel
theorem dX9_bucketOf_19 : decode cX9_bucketOf 19 = .ok (.iand, 1) := by decide +kernel
theorem dX9_bucketOf_20 : decode cX9_bucketOf 20 = .ok (.ireturn, 1) := by decide +kernel
set_option maxRecDepth 20000 in
theorem uX9_closeName_X9 : ∀ w ∈ u_ws RX9 TX9 13, w ∈ wsX9_closeName := by decide +kernel
theorem uX9_init_X9 : ∀ w ∈ u_ws RX9 TX9 13, w ∈ wsX9_init := fun w h => List.mem_cons_of_mem _ (List.mem_append_right _ h)
