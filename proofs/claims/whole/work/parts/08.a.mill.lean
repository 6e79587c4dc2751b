def tyX12 : Nat → FieldType := fun k => match k with
  | 0 => .array .byte
  | 1 => .int
  | 2 => .object "ClassMill$Text"
  | 3 => .object "ClassMill$Syntax"
  | 4 => .object "ClassMill$Heads"
  | 5 => .object "ClassMill$Bodies"
  | 6 => .array (.array .byte)
  | 7 => .int
  | 8 => .object "ClassMill$Space"
  | 9 => .object "ClassMill$Verifier"
  | _ => .object "ClassMill$Machine"
abbrev wsX120 : List Cond := u_ws RX12 TX12 11
theorem nmX12 : ∀ a, a < 11 → ∀ b, b < 11 → a ≠ b → (TX12 a).2.1 ≠ (TX12 b).2.1 := by decide +kernel
theorem tyX12_ok : ∀ k, k < 11 → parseFieldDescriptor (TX12 k).2.2.1 = some (tyX12 k) := by decide +kernel
abbrev cX12_init : ByteArray := prog_1_method_1_code
def yX12_init : MethodName := ⟨RX12, "<init>", "()V"⟩
def wsX12_init_r1 : List Cond := [Cond.methodLink RX12 1 objectInit, Cond.instanceMethod objectInit, Cond.code objectInit ⟨#[0xb1]⟩ 1 none, Cond.arrayClass .byte, Cond.fieldLink RX12 9 "ClassMill" "tape" "[B", Cond.classLink RX12 13 RX9, Cond.instantiable RX9 13, Cond.initialized RX9, Cond.fieldLink RX12 16 "ClassMill" "text" "LClassMill$Text;", Cond.classLink RX12 20 RX2, Cond.instantiable RX2 21, Cond.initialized RX2, Cond.fieldLink RX12 25 "ClassMill" "heads" "LClassMill$Heads;", Cond.classLink RX12 29 RX8, Cond.instantiable RX8 2, Cond.initialized RX8, Cond.fieldLink RX12 34 "ClassMill" "syntax" "LClassMill$Syntax;", Cond.classLink RX12 38 RX0, Cond.instantiable RX0 13, Cond.initialized RX0, Cond.fieldLink RX12 41 "ClassMill" "bodies" "LClassMill$Bodies;", Cond.classLink RX12 45 "[B", Cond.fieldLink RX12 46 "ClassMill" "images" "[[B", Cond.classLink RX12 50 RX7]
def wsX12_init_r2 : List Cond := [Cond.instantiable RX7 8, Cond.initialized RX7, Cond.fieldLink RX12 53 "ClassMill" "space" "LClassMill$Space;", Cond.classLink RX12 57 RX11, Cond.instantiable RX11 21, Cond.initialized RX11, Cond.fieldLink RX12 62 "ClassMill" "verifier" "LClassMill$Verifier;", Cond.classLink RX12 66 RX5, Cond.instantiable RX5 21, Cond.initialized RX5, Cond.fieldLink RX12 69 "ClassMill" "machine" "LClassMill$Machine;", Cond.methodLink RX12 15 yX9_init, Cond.instanceMethod yX9_init, Cond.code yX9_init cX9_init 3 none, Cond.methodLink RX9 3 objectInit, Cond.arrayClass .int, Cond.fieldLink RX9 11 "ClassMill$Text" "kinds" "[I", Cond.fieldLink RX9 15 "ClassMill$Text" "places" "[I", Cond.fieldLink RX9 18 "ClassMill$Text" "values" "[I", Cond.fieldLink RX9 21 "ClassMill$Text" "letters" "[B", Cond.fieldLink RX9 25 "ClassMill$Text" "nameAt" "[I", Cond.fieldLink RX9 28 "ClassMill$Text" "sameBucket" "[I", Cond.fieldLink RX9 31 "ClassMill$Text" "bucket" "[I", Cond.fieldLink RX9 34 "ClassMill$Text" "knownBucket" "[I"]
def wsX12_init_r3 : List Cond := [Cond.fieldLink RX9 37 "ClassMill$Text" "place" "I", Cond.methodLink RX9 63 arraycopyName, Cond.native arraycopyName, Cond.static arraycopyName, Cond.initialized "java/lang/System", Cond.methodLink RX9 41 yJ7_fill_53178, Cond.static yJ7_fill_53178, Cond.initialized RJ7, Cond.code yJ7_fill_53178 cJ7_fill_53178 4 none, Cond.methodLink RX9 49 yJ0_length_8abf5, Cond.instanceMethod yJ0_length_8abf5, Cond.selects RJ0 yJ0_length_8abf5 yJ0_length_8abf5, Cond.initialized RJ0, Cond.code yJ0_length_8abf5 cJ0_length_8abf5 1 (some .int), Cond.fieldLink RJ0 9 "java/lang/String" "value" "[B", Cond.methodLink RJ0 335 yJ0_coder_7d493, Cond.instanceMethod yJ0_coder_7d493, Cond.selects RJ0 yJ0_coder_7d493 yJ0_coder_7d493, Cond.code yJ0_coder_7d493 cJ0_coder_7d493 1 (some .byte), Cond.fieldLink RJ0 38 "java/lang/String" "COMPACT_STRINGS" "Z", Cond.fieldLink RJ0 15 "java/lang/String" "coder" "B", Cond.methodLink RX9 55 yJ0_charAt_5068e, Cond.instanceMethod yJ0_charAt_5068e, Cond.selects RJ0 yJ0_charAt_5068e yJ0_charAt_5068e]
def wsX12_init_r4 : List Cond := [Cond.code yJ0_charAt_5068e cJ0_charAt_5068e 2 (some .char), Cond.methodLink RJ0 492 yJ0_isLatin1_aae02, Cond.instanceMethod yJ0_isLatin1_aae02, Cond.selects RJ0 yJ0_isLatin1_aae02 yJ0_isLatin1_aae02, Cond.code yJ0_isLatin1_aae02 cJ0_isLatin1_aae02 1 (some .boolean), Cond.methodLink RJ0 495 yJ1_charAt_3b067, Cond.static yJ1_charAt_3b067, Cond.initialized RJ1, Cond.code yJ1_charAt_3b067 cJ1_charAt_3b067 2 (some .char), Cond.methodLink RJ1 9 yJ0_checkIndex_df160, Cond.static yJ0_checkIndex_df160, Cond.code yJ0_checkIndex_df160 cJ0_checkIndex_df160 2 none, Cond.fieldLink RJ0 1053 "jdk/internal/util/Preconditions" "SIOOBE_FORMATTER" "Ljava/util/function/BiFunction;", Cond.methodLink RJ0 1059 yJ3_checkIndex_8e157, Cond.static yJ3_checkIndex_8e157, Cond.initialized RJ3, Cond.code yJ3_checkIndex_8e157 cJ3_checkIndex_8e157 3 (some .int), Cond.methodLink RJ0 498 yJ2_charAt_3b067, Cond.static yJ2_charAt_3b067, Cond.initialized RJ2, Cond.code yJ2_charAt_3b067 cJ2_charAt_3b067 2 (some .char), Cond.methodLink RJ2 67 yJ2_checkIndex_2214a, Cond.static yJ2_checkIndex_2214a, Cond.code yJ2_checkIndex_2214a cJ2_checkIndex_2214a 2 none]
def wsX12_init_r5 : List Cond := [Cond.methodLink RJ2 48 yJ2_length_9d52b, Cond.static yJ2_length_9d52b, Cond.code yJ2_length_9d52b cJ2_length_9d52b 1 (some .int), Cond.methodLink RJ2 414 yJ0_checkIndex_df160, Cond.methodLink RJ2 71 yJ2_getChar_3b067, Cond.static yJ2_getChar_3b067, Cond.code yJ2_getChar_3b067 cJ2_getChar_3b067 2 (some .char), Cond.fieldLink RJ2 44 "java/lang/StringUTF16" "$assertionsDisabled" "Z", Cond.fieldLink RJ2 59 "java/lang/StringUTF16" "HI_BYTE_SHIFT" "I", Cond.fieldLink RJ2 63 "java/lang/StringUTF16" "LO_BYTE_SHIFT" "I", Cond.methodLink RX9 59 yX9_closeName, Cond.instanceMethod yX9_closeName, Cond.selects RX9 yX9_closeName yX9_closeName, Cond.code yX9_closeName cX9_closeName 4 none, Cond.fieldLink RX9 69 "ClassMill$Text" "names" "I", Cond.methodLink RX9 72 yX9_bucketOf, Cond.static yX9_bucketOf, Cond.code yX9_bucketOf cX9_bucketOf 3 (some .int), Cond.methodLink RX12 22 yX2_init, Cond.instanceMethod yX2_init, Cond.code yX2_init cX2_init 2 none, Cond.methodLink RX2 3 objectInit, Cond.classLink RX2 9 RX4, Cond.instantiable RX4 2]
def wsX12_init_r6 : List Cond := [Cond.initialized RX4, Cond.fieldLink RX2 12 "ClassMill$Heads" "kin" "LClassMill$Kin;", Cond.fieldLink RX2 18 "ClassMill$Heads" "classAt" "[I", Cond.fieldLink RX2 24 "ClassMill$Heads" "classOfName" "[I", Cond.fieldLink RX2 27 "ClassMill$Heads" "fields" "[I", Cond.fieldLink RX2 30 "ClassMill$Heads" "fieldName" "[I", Cond.fieldLink RX2 33 "ClassMill$Heads" "fieldType" "[I", Cond.fieldLink RX2 36 "ClassMill$Heads" "fieldKind" "[I", Cond.fieldLink RX2 39 "ClassMill$Heads" "methods" "[I", Cond.fieldLink RX2 42 "ClassMill$Heads" "methodAt" "[I", Cond.fieldLink RX2 45 "ClassMill$Heads" "methodBody" "[I", Cond.fieldLink RX2 48 "ClassMill$Heads" "methodType" "[I", Cond.arrayClass .boolean, Cond.fieldLink RX2 51 "ClassMill$Heads" "methodFixed" "[Z", Cond.fieldLink RX2 55 "ClassMill$Heads" "methodKind" "[I", Cond.fieldLink RX2 58 "ClassMill$Heads" "parameters" "[I", Cond.fieldLink RX2 61 "ClassMill$Heads" "parameterName" "[I", Cond.fieldLink RX2 64 "ClassMill$Heads" "parameterType" "[I", Cond.fieldLink RX2 67 "ClassMill$Heads" "typeName" "[I", Cond.fieldLink RX2 70 "ClassMill$Heads" "kindBytes" "[B", Cond.fieldLink RX2 74 "ClassMill$Heads" "text" "LClassMill$Text;", Cond.methodLink RX2 11 yX4_init, Cond.instanceMethod yX4_init, Cond.code yX4_init cX4_init 1 none]
def wsX12_init_r7 : List Cond := [Cond.methodLink RX4 3 objectInit, Cond.fieldLink RX4 11 "ClassMill$Kin" "above" "[I", Cond.fieldLink RX4 15 "ClassMill$Kin" "under" "[Z", Cond.methodLink RX4 19 yX4_forget, Cond.instanceMethod yX4_forget, Cond.selects RX4 yX4_forget yX4_forget, Cond.code yX4_forget cX4_forget 2 none, Cond.methodLink RX4 22 yJ7_fill_53178, Cond.methodLink RX4 28 yX4_settle, Cond.instanceMethod yX4_settle, Cond.selects RX4 yX4_settle yX4_settle, Cond.code yX4_settle cX4_settle 4 none, Cond.methodLink RX12 31 yX8_init, Cond.instanceMethod yX8_init, Cond.code yX8_init cX8_init 3 none, Cond.methodLink RX8 1 objectInit, Cond.fieldLink RX8 7 "ClassMill$Syntax" "text" "LClassMill$Text;", Cond.fieldLink RX8 13 "ClassMill$Syntax" "heads" "LClassMill$Heads;", Cond.methodLink RX12 40 yX0_init, Cond.instanceMethod yX0_init, Cond.code yX0_init cX0_init 3 none, Cond.methodLink RX0 5 objectInit, Cond.classLink RX0 11 RX1, Cond.instantiable RX1 16]
def wsX12_init_r8 : List Cond := [Cond.initialized RX1, Cond.fieldLink RX0 14 "ClassMill$Bodies" "code" "LClassMill$Code;", Cond.classLink RX0 22 "[B", Cond.fieldLink RX0 24 "ClassMill$Bodies" "images" "[[B", Cond.fieldLink RX0 28 "ClassMill$Bodies" "breaks" "[I", Cond.fieldLink RX0 32 "ClassMill$Bodies" "text" "LClassMill$Text;", Cond.fieldLink RX0 36 "ClassMill$Bodies" "heads" "LClassMill$Heads;", Cond.fieldLink RX0 40 "ClassMill$Heads" "kin" "LClassMill$Kin;", Cond.fieldLink RX0 44 "ClassMill$Bodies" "kin" "LClassMill$Kin;", Cond.classLink RX0 45 RX6, Cond.instantiable RX6 8, Cond.initialized RX6, Cond.fieldLink RX0 50 "ClassMill$Bodies" "pool" "LClassMill$Pool;", Cond.classLink RX0 54 RX10, Cond.instantiable RX10 19, Cond.initialized RX10, Cond.fieldLink RX0 59 "ClassMill$Bodies" "values" "LClassMill$Values;", Cond.instanceMethod yX1_init, Cond.code yX1_init cX1_init 1 none, Cond.methodLink RX1 5 objectInit, Cond.fieldLink RX1 11 "ClassMill$Code" "bytes" "[B", Cond.fieldLink RX1 15 "ClassMill$Code" "stack" "[I", Cond.fieldLink RX1 19 "ClassMill$Code" "localName" "[I", Cond.fieldLink RX1 22 "ClassMill$Code" "localType" "[I"]
def wsX12_init_r9 : List Cond := [Cond.fieldLink RX1 25 "ClassMill$Code" "handlers" "[I", Cond.fieldLink RX1 28 "ClassMill$Code" "framePlace" "[I", Cond.fieldLink RX1 31 "ClassMill$Code" "frameRow" "[I", Cond.fieldLink RX1 34 "ClassMill$Code" "frameOrder" "[I", Cond.methodLink RX0 47 yX6_init, Cond.instanceMethod yX6_init, Cond.code yX6_init cX6_init 3 none, Cond.methodLink RX6 1 objectInit, Cond.fieldLink RX6 9 "ClassMill$Pool" "tags" "[I", Cond.fieldLink RX6 13 "ClassMill$Pool" "values" "[I", Cond.fieldLink RX6 16 "ClassMill$Pool" "body" "[B", Cond.fieldLink RX6 20 "ClassMill$Pool" "text" "LClassMill$Text;", Cond.fieldLink RX6 24 "ClassMill$Pool" "heads" "LClassMill$Heads;", Cond.methodLink RX0 56 yX10_init, Cond.instanceMethod yX10_init, Cond.code yX10_init cX10_init 5 none, Cond.methodLink RX10 5 objectInit, Cond.fieldLink RX10 13 "ClassMill$Values" "signs" "[I", Cond.fieldLink RX10 17 "ClassMill$Values" "signAt" "[I", Cond.fieldLink RX10 20 "ClassMill$Values" "leftFirst" "[I", Cond.fieldLink RX10 23 "ClassMill$Values" "leftType" "[I", Cond.fieldLink RX10 26 "ClassMill$Values" "leftJump" "[I", Cond.fieldLink RX10 29 "ClassMill$Values" "text" "LClassMill$Text;", Cond.fieldLink RX10 33 "ClassMill$Values" "heads" "LClassMill$Heads;"]
def wsX12_init_r10 : List Cond := [Cond.fieldLink RX10 37 "ClassMill$Heads" "kin" "LClassMill$Kin;", Cond.fieldLink RX10 43 "ClassMill$Values" "kin" "LClassMill$Kin;", Cond.fieldLink RX10 44 "ClassMill$Values" "code" "LClassMill$Code;", Cond.fieldLink RX10 48 "ClassMill$Values" "pool" "LClassMill$Pool;", Cond.methodLink RX12 52 yX7_init, Cond.instanceMethod yX7_init, Cond.code yX7_init cX7_init 2 none, Cond.methodLink RX7 7 objectInit, Cond.classLink RX7 13 RX4, Cond.fieldLink RX7 16 "ClassMill$Space" "kin" "LClassMill$Kin;", Cond.classLink RX7 20 RX3, Cond.fieldLink RX7 22 "ClassMill$Space" "images" "[LClassMill$Image;", Cond.instantiable RX3 14, Cond.initialized RX3, Cond.fieldLink RX7 27 "ClassMill$Space" "spare" "LClassMill$Image;", Cond.fieldLink RX7 31 "ClassMill$Space" "links" "[I", Cond.fieldLink RX7 35 "ClassMill$Space" "cells" "[I", Cond.fieldLink RX7 38 "ClassMill$Space" "nearest" "[I", Cond.methodLink RX7 15 yX4_init, Cond.instanceMethod yX3_init, Cond.code yX3_init cX3_init 1 none, Cond.methodLink RX3 5 objectInit, Cond.fieldLink RX3 11 "ClassMill$Image" "bytes" "[B", Cond.fieldLink RX3 15 "ClassMill$Image" "tags" "[I"]
def wsX12_init_r11 : List Cond := [Cond.fieldLink RX3 19 "ClassMill$Image" "at" "[I", Cond.fieldLink RX3 22 "ClassMill$Image" "textStop" "[I", Cond.fieldLink RX3 27 "ClassMill$Image" "field" "[I", Cond.fieldLink RX3 30 "ClassMill$Image" "method" "[I", Cond.methodLink RX12 59 yX11_init, Cond.instanceMethod yX11_init, Cond.code yX11_init cX11_init 2 none, Cond.methodLink RX11 5 objectInit, Cond.fieldLink RX11 11 "ClassMill$Verifier" "toldClass" "I", Cond.fieldLink RX11 17 "ClassMill$Verifier" "toldMethod" "I", Cond.fieldLink RX11 20 "ClassMill$Verifier" "toldPlace" "I", Cond.fieldLink RX11 23 "ClassMill$Verifier" "classTypes" "[I", Cond.fieldLink RX11 27 "ClassMill$Verifier" "memberNumber" "[I", Cond.fieldLink RX11 30 "ClassMill$Verifier" "memberParameters" "[I", Cond.fieldLink RX11 33 "ClassMill$Verifier" "memberTypes" "[I", Cond.fieldLink RX11 38 "ClassMill$Verifier" "marks" "[I", Cond.fieldLink RX11 41 "ClassMill$Verifier" "frames" "[I", Cond.fieldLink RX11 44 "ClassMill$Verifier" "locals" "[I", Cond.fieldLink RX11 47 "ClassMill$Verifier" "stack" "[I", Cond.fieldLink RX11 50 "ClassMill$Verifier" "space" "LClassMill$Space;", Cond.fieldLink RX11 54 "ClassMill$Space" "kin" "LClassMill$Kin;", Cond.fieldLink RX11 60 "ClassMill$Verifier" "kin" "LClassMill$Kin;", Cond.classLink RX11 36 RX3, Cond.fieldLink RX11 62 "ClassMill$Verifier" "image" "LClassMill$Image;"]
def wsX12_init_r12 : List Cond := [Cond.methodLink RX12 68 yX5_init, Cond.instanceMethod yX5_init, Cond.code yX5_init cX5_init 2 none, Cond.methodLink RX5 5 objectInit, Cond.fieldLink RX5 13 "ClassMill$Machine" "printed" "[I", Cond.fieldLink RX5 17 "ClassMill$Machine" "objectType" "[I", Cond.fieldLink RX5 20 "ClassMill$Machine" "objectAt" "[I", Cond.fieldLink RX5 23 "ClassMill$Machine" "cell" "[I", Cond.fieldLink RX5 26 "ClassMill$Machine" "methods" "[I", Cond.fieldLink RX5 29 "ClassMill$Machine" "places" "[I", Cond.fieldLink RX5 32 "ClassMill$Machine" "heights" "[I", Cond.fieldLink RX5 35 "ClassMill$Machine" "locals" "[I", Cond.fieldLink RX5 38 "ClassMill$Machine" "stack" "[I", Cond.fieldLink RX5 41 "ClassMill$Machine" "space" "LClassMill$Space;", Cond.classLink RX5 1 RX3, Cond.fieldLink RX5 46 "ClassMill$Machine" "image" "LClassMill$Image;", Cond.fieldLink RX5 50 "ClassMill$Machine" "gave" "I"]
def wsX12_init : List Cond := .code yX12_init cX12_init 1 none :: ((wsX12_init_r1 ++ (wsX12_init_r2 ++ (wsX12_init_r3 ++ (wsX12_init_r4 ++ (wsX12_init_r5 ++ (wsX12_init_r6 ++ (wsX12_init_r7 ++ (wsX12_init_r8 ++ (wsX12_init_r9 ++ (wsX12_init_r10 ++ (wsX12_init_r11 ++ wsX12_init_r12))))))))))) ++ wsX120 ++ wsX90 ++ wsX20 ++ wsX80 ++ wsX00 ++ wsX70 ++ wsX110 ++ wsX50 ++ wsX40 ++ wsX10 ++ wsX60 ++ wsX100 ++ wsX30)
set_option maxRecDepth 20000 in
theorem ggX12_init_X9_init : GoodIn wsX12_init wsX9_init := goodIn_r _ [38, 39, 2, 3, 40, 41, 42, 43, 4, 44, 45, 46, 47, 48, 49, 50, 51, 52, 53, 54, 55, 56, 57, 58, 59, 60, 61, 62, 63, 64, 65, 66, 67, 68, 69, 70, 71, 72, 73, 74, 75, 76, 77, 78, 79, 80, 81, 82, 83, 84, 85, 86, 87, 88, 89, 90, 91, 92, 93, 94, 95, 96, 97, 98, 99, 100, 101, 102, 103, 104, 105, 106, 107, 108, 109, 8, 110, 111, 112, 113, 114, 293, 294, 295, 296, 297, 298, 299, 300, 301, 302, 303, 304, 305] (by decide +kernel) (by decide +kernel)
set_option maxRecDepth 20000 in
theorem gX12_init_X9_init : GoodIn wsX12_init (wsX9_init) := ggX12_init_X9_init
set_option maxRecDepth 20000 in
theorem ggX12_init_X2_init : GoodIn wsX12_init wsX2_init := goodIn_r _ [117, 118, 2, 3, 119, 120, 121, 122, 40, 123, 124, 125, 126, 127, 128, 129, 130, 131, 132, 133, 134, 135, 136, 137, 138, 139, 4, 140, 141, 142, 143, 144, 145, 146, 147, 148, 149, 150, 151, 152, 55, 56, 57, 153, 154, 155, 156, 392, 393, 306, 307, 308, 309, 310, 311, 312, 313, 314, 315, 316, 317, 318, 319, 320, 321, 322, 323, 324, 325, 326] (by decide +kernel) (by decide +kernel)
set_option maxRecDepth 20000 in
theorem gX12_init_X2_init : GoodIn wsX12_init (wsX2_init) := ggX12_init_X2_init
set_option maxRecDepth 20000 in
theorem ggX12_init_X8_init : GoodIn wsX12_init wsX8_init := goodIn_r _ [159, 160, 2, 3, 161, 162, 327, 328] (by decide +kernel) (by decide +kernel)
set_option maxRecDepth 20000 in
theorem gX12_init_X8_init : GoodIn wsX12_init (wsX8_init) := ggX12_init_X8_init
set_option maxRecDepth 20000 in
theorem ggX12_init_X0_init : GoodIn wsX12_init wsX0_init := goodIn_r _ [165, 166, 2, 3, 167, 168, 169, 170, 171, 172, 40, 173, 174, 175, 176, 177, 178, 179, 180, 181, 182, 183, 184, 185, 186, 187, 188, 4, 189, 190, 191, 192, 193, 194, 195, 196, 197, 198, 199, 200, 201, 202, 203, 204, 205, 206, 207, 208, 209, 210, 211, 212, 213, 214, 215, 216, 217, 218, 219, 220, 394, 395, 396, 397, 398, 399, 400, 401, 402, 403, 404, 405, 406, 407, 408, 409, 329, 330, 331, 332, 333, 334, 335, 336, 337, 338, 339, 340, 341, 306, 307, 308, 309, 310, 311, 312, 313, 314, 315, 316, 317, 318, 319, 320, 321, 322, 323, 324, 325, 326, 410, 411, 412, 413, 414, 415, 416, 417, 418, 419, 420, 421, 422, 423, 424, 425, 426, 427, 428, 429, 430, 431, 432, 433, 434, 435, 436] (by decide +kernel) (by decide +kernel)
set_option maxRecDepth 20000 in
theorem gX12_init_X0_init : GoodIn wsX12_init (wsX0_init) := ggX12_init_X0_init
set_option maxRecDepth 20000 in
theorem ggX12_init_X7_init : GoodIn wsX12_init wsX7_init := goodIn_r _ [223, 224, 2, 3, 225, 120, 121, 226, 227, 228, 229, 230, 231, 40, 232, 233, 234, 235, 143, 144, 145, 146, 133, 147, 148, 149, 150, 151, 152, 55, 56, 57, 153, 154, 155, 156, 236, 237, 238, 4, 239, 240, 241, 242, 243, 244, 392, 393, 342, 343, 344, 345, 346, 347, 348, 349, 437, 438, 439, 440, 441, 442, 443, 444, 445, 446, 447, 448, 449, 450] (by decide +kernel) (by decide +kernel)
set_option maxRecDepth 20000 in
theorem gX12_init_X7_init : GoodIn wsX12_init (wsX7_init) := ggX12_init_X7_init
set_option maxRecDepth 20000 in
theorem ggX12_init_X11_init : GoodIn wsX12_init wsX11_init := goodIn_r _ [247, 248, 2, 3, 249, 250, 251, 40, 252, 253, 254, 255, 256, 257, 258, 259, 260, 261, 262, 263, 229, 230, 264, 236, 237, 238, 4, 239, 240, 241, 242, 243, 244, 350, 351, 352, 353, 354, 355, 356, 357, 358, 359, 360, 361, 362, 363, 364, 365, 366, 367, 368, 369, 370, 342, 343, 344, 345, 346, 347, 348, 349, 437, 438, 439, 440, 441, 442, 443, 444, 445, 446, 447, 448, 449, 450] (by decide +kernel) (by decide +kernel)
set_option maxRecDepth 20000 in
theorem gX12_init_X11_init : GoodIn wsX12_init (wsX11_init) := ggX12_init_X11_init
set_option maxRecDepth 20000 in
theorem ggX12_init_X5_init : GoodIn wsX12_init wsX5_init := goodIn_r _ [267, 268, 2, 3, 40, 269, 270, 271, 272, 273, 274, 275, 276, 277, 278, 279, 229, 230, 280, 281, 236, 237, 238, 4, 239, 240, 241, 242, 243, 244, 371, 372, 373, 374, 375, 376, 377, 378, 379, 380, 381, 382, 383, 384, 385, 386, 387, 388, 389, 390, 391, 437, 438, 439, 440, 441, 442, 443, 444, 445, 446, 447, 448, 449, 450] (by decide +kernel) (by decide +kernel)
set_option maxRecDepth 20000 in
theorem gX12_init_X5_init : GoodIn wsX12_init (wsX5_init) := ggX12_init_X5_init
theorem dX12_init_0 : decode cX12_init 0 = .ok (.aload_n 0, 1) := by decide +kernel
theorem dX12_init_1 : decode cX12_init 1 = .ok (.invokespecial 1, 3) := by decide +kernel
theorem dX12_init_4 : decode cX12_init 4 = .ok (.aload_n 0, 1) := by decide +kernel
theorem dX12_init_5 : decode cX12_init 5 = .ok (.sipush 6000, 3) := by decide +kernel
theorem dX12_init_8 : decode cX12_init 8 = .ok (.newarray .byte, 2) := by decide +kernel
theorem dX12_init_10 : decode cX12_init 10 = .ok (.putfield 9, 3) := by decide +kernel
theorem dX12_init_13 : decode cX12_init 13 = .ok (.aload_n 0, 1) := by decide +kernel
theorem dX12_init_14 : decode cX12_init 14 = .ok (.new 13, 3) := by decide +kernel
theorem dX12_init_17 : decode cX12_init 17 = .ok (.dup, 1) := by decide +kernel
theorem dX12_init_18 : decode cX12_init 18 = .ok (.invokespecial 15, 3) := by decide +kernel
theorem dX12_init_21 : decode cX12_init 21 = .ok (.putfield 16, 3) := by decide +kernel
theorem dX12_init_24 : decode cX12_init 24 = .ok (.aload_n 0, 1) := by decide +kernel
theorem dX12_init_25 : decode cX12_init 25 = .ok (.new 20, 3) := by decide +kernel
theorem dX12_init_28 : decode cX12_init 28 = .ok (.dup, 1) := by decide +kernel
theorem dX12_init_29 : decode cX12_init 29 = .ok (.aload_n 0, 1) := by decide +kernel
theorem dX12_init_30 : decode cX12_init 30 = .ok (.getfield 16, 3) := by decide +kernel
theorem dX12_init_33 : decode cX12_init 33 = .ok (.invokespecial 22, 3) := by decide +kernel
theorem dX12_init_36 : decode cX12_init 36 = .ok (.putfield 25, 3) := by decide +kernel
theorem dX12_init_39 : decode cX12_init 39 = .ok (.aload_n 0, 1) := by decide +kernel
theorem dX12_init_40 : decode cX12_init 40 = .ok (.new 29, 3) := by decide +kernel
theorem dX12_init_43 : decode cX12_init 43 = .ok (.dup, 1) := by decide +kernel
theorem dX12_init_44 : decode cX12_init 44 = .ok (.aload_n 0, 1) := by decide +kernel
theorem dX12_init_45 : decode cX12_init 45 = .ok (.getfield 16, 3) := by decide +kernel
theorem dX12_init_48 : decode cX12_init 48 = .ok (.aload_n 0, 1) := by decide +kernel
theorem dX12_init_49 : decode cX12_init 49 = .ok (.getfield 25, 3) := by decide +kernel
theorem dX12_init_52 : decode cX12_init 52 = .ok (.invokespecial 31, 3) := by decide +kernel
theorem dX12_init_55 : decode cX12_init 55 = .ok (.putfield 34, 3) := by decide +kernel
theorem dX12_init_58 : decode cX12_init 58 = .ok (.aload_n 0, 1) := by decide +kernel
theorem dX12_init_59 : decode cX12_init 59 = .ok (.new 38, 3) := by decide +kernel
theorem dX12_init_62 : decode cX12_init 62 = .ok (.dup, 1) := by decide +kernel
theorem dX12_init_63 : decode cX12_init 63 = .ok (.aload_n 0, 1) := by decide +kernel
theorem dX12_init_64 : decode cX12_init 64 = .ok (.getfield 16, 3) := by decide +kernel
theorem dX12_init_67 : decode cX12_init 67 = .ok (.aload_n 0, 1) := by decide +kernel
theorem dX12_init_68 : decode cX12_init 68 = .ok (.getfield 25, 3) := by decide +kernel
theorem dX12_init_71 : decode cX12_init 71 = .ok (.invokespecial 40, 3) := by decide +kernel
theorem dX12_init_74 : decode cX12_init 74 = .ok (.putfield 41, 3) := by decide +kernel
theorem dX12_init_77 : decode cX12_init 77 = .ok (.aload_n 0, 1) := by decide +kernel
theorem dX12_init_78 : decode cX12_init 78 = .ok (.bipush 8, 2) := by decide +kernel
theorem dX12_init_80 : decode cX12_init 80 = .ok (.anewarray 45, 3) := by decide +kernel
theorem dX12_init_83 : decode cX12_init 83 = .ok (.putfield 46, 3) := by decide +kernel
theorem dX12_init_86 : decode cX12_init 86 = .ok (.aload_n 0, 1) := by decide +kernel
theorem dX12_init_87 : decode cX12_init 87 = .ok (.new 50, 3) := by decide +kernel
theorem dX12_init_90 : decode cX12_init 90 = .ok (.dup, 1) := by decide +kernel
theorem dX12_init_91 : decode cX12_init 91 = .ok (.invokespecial 52, 3) := by decide +kernel
theorem dX12_init_94 : decode cX12_init 94 = .ok (.putfield 53, 3) := by decide +kernel
theorem dX12_init_97 : decode cX12_init 97 = .ok (.aload_n 0, 1) := by decide +kernel
theorem dX12_init_98 : decode cX12_init 98 = .ok (.new 57, 3) := by decide +kernel
theorem dX12_init_101 : decode cX12_init 101 = .ok (.dup, 1) := by decide +kernel
theorem dX12_init_102 : decode cX12_init 102 = .ok (.aload_n 0, 1) := by decide +kernel
theorem dX12_init_103 : decode cX12_init 103 = .ok (.getfield 53, 3) := by decide +kernel
theorem dX12_init_106 : decode cX12_init 106 = .ok (.invokespecial 59, 3) := by decide +kernel
theorem dX12_init_109 : decode cX12_init 109 = .ok (.putfield 62, 3) := by decide +kernel
theorem dX12_init_112 : decode cX12_init 112 = .ok (.aload_n 0, 1) := by decide +kernel
theorem dX12_init_113 : decode cX12_init 113 = .ok (.new 66, 3) := by decide +kernel
theorem dX12_init_116 : decode cX12_init 116 = .ok (.dup, 1) := by decide +kernel
theorem dX12_init_117 : decode cX12_init 117 = .ok (.aload_n 0, 1) := by decide +kernel
theorem dX12_init_118 : decode cX12_init 118 = .ok (.getfield 53, 3) := by decide +kernel
theorem dX12_init_121 : decode cX12_init 121 = .ok (.invokespecial 68, 3) := by decide +kernel
theorem dX12_init_124 : decode cX12_init 124 = .ok (.putfield 69, 3) := by decide +kernel
theorem dX12_init_127 : decode cX12_init 127 = .ok (.return_, 1) := by decide +kernel
set_option maxRecDepth 20000 in
theorem uX12_init_X0 : ∀ w ∈ u_ws RX0 TX0 13, w ∈ wsX12_init := by decide +kernel
set_option maxRecDepth 20000 in
theorem uX12_init_X11 : ∀ w ∈ u_ws RX11 TX11 21, w ∈ wsX12_init := by decide +kernel
set_option maxRecDepth 20000 in
theorem uX12_init_X12 : ∀ w ∈ u_ws RX12 TX12 11, w ∈ wsX12_init := by decide +kernel
set_option maxRecDepth 20000 in
theorem uX12_init_X2 : ∀ w ∈ u_ws RX2 TX2 21, w ∈ wsX12_init := by decide +kernel
set_option maxRecDepth 20000 in
theorem uX12_init_X5 : ∀ w ∈ u_ws RX5 TX5 21, w ∈ wsX12_init := by decide +kernel
set_option maxRecDepth 20000 in
theorem uX12_init_X7 : ∀ w ∈ u_ws RX7 TX7 8, w ∈ wsX12_init := by decide +kernel
set_option maxRecDepth 20000 in
theorem uX12_init_X8 : ∀ w ∈ u_ws RX8 TX8 2, w ∈ wsX12_init := by decide +kernel
set_option maxRecDepth 20000 in
theorem uX12_init_X9 : ∀ w ∈ u_ws RX9 TX9 13, w ∈ wsX12_init := by decide +kernel
