def tyX13 : Nat → FieldType := fun k => match k with
  | 0 => .array .int
  | 1 => .int
  | 2 => .array .int
  | 3 => .int
  | 4 => .array .int
  | 5 => .array .int
  | 6 => .array .int
  | 7 => .array .int
  | 8 => .int
  | 9 => .int
  | 10 => .int
  | 11 => .array .int
  | 12 => .array .int
  | 13 => .array .int
  | 14 => .array .int
  | 15 => .array .int
  | 16 => .array .int
  | 17 => .array .int
  | 18 => .array .int
  | 19 => .array .int
  | 20 => .array .int
  | 21 => .array .boolean
  | 22 => .int
  | 23 => .int
  | 24 => .int
  | 25 => .array .int
  | 26 => .array .int
  | 27 => .array .int
  | 28 => .int
  | 29 => .array .int
  | 30 => .array .int
  | 31 => .array .int
  | 32 => .array .int
  | 33 => .array .boolean
  | 34 => .array .int
  | 35 => .array .int
  | 36 => .array .int
  | 37 => .array .int
  | 38 => .array .int
  | 39 => .int
  | 40 => .array .int
  | 41 => .array .int
  | 42 => .array .boolean
  | 43 => .array .int
  | 44 => .array .int
  | 45 => .int
  | 46 => .int
  | 47 => .boolean
  | 48 => .array .int
  | 49 => .array .int
  | 50 => .int
  | 51 => .int
  | 52 => .int
  | 53 => .boolean
  | 54 => .int
  | 55 => .array .boolean
  | 56 => .array .int
  | 57 => .int
  | 58 => .array .int
  | 59 => .array .int
  | 60 => .array .int
  | 61 => .array .int
  | 62 => .int
  | 63 => .array .int
  | 64 => .int
  | 65 => .array .int
  | 66 => .int
  | 67 => .array .int
  | 68 => .int
  | 69 => .array .int
  | 70 => .int
  | 71 => .int
  | 72 => .int
  | 73 => .array .int
  | 74 => .array .int
  | 75 => .array .int
  | 76 => .array .int
  | 77 => .array .int
  | 78 => .int
  | 79 => .int
  | 80 => .array .int
  | 81 => .array .int
  | 82 => .array .int
  | 83 => .array .int
  | 84 => .int
  | 85 => .array .int
  | 86 => .array .int
  | 87 => .int
  | 88 => .int
  | 89 => .array .int
  | 90 => .array .int
  | 91 => .array .int
  | 92 => .array .int
  | 93 => .int
  | 94 => .array .int
  | 95 => .array .int
  | 96 => .array .int
  | 97 => .int
  | 98 => .int
  | 99 => .boolean
  | 100 => .array .int
  | 101 => .array .int
  | 102 => .array .int
  | 103 => .array .int
  | 104 => .array .int
  | 105 => .array .int
  | 106 => .array .int
  | 107 => .array .int
  | 108 => .array .int
  | 109 => .array .int
  | 110 => .array .int
  | 111 => .array .int
  | 112 => .array .int
  | 113 => .int
  | 114 => .int
  | 115 => .int
  | 116 => .array .int
  | 117 => .int
  | 118 => .array .int
  | 119 => .array .int
  | 120 => .int
  | 121 => .int
  | 122 => .int
  | 123 => .int
  | 124 => .int
  | 125 => .int
  | 126 => .array .boolean
  | 127 => .array .int
  | 128 => .array .int
  | 129 => .int
  | 130 => .int
  | 131 => .int
  | 132 => .int
  | 133 => .int
  | 134 => .int
  | 135 => .int
  | 136 => .int
  | 137 => .array .int
  | 138 => .int
  | 139 => .int
  | 140 => .int
  | 141 => .int
  | 142 => .int
  | 143 => .int
  | 144 => .array .int
  | 145 => .array .int
  | 146 => .array .int
  | 147 => .array .int
  | 148 => .array .int
  | 149 => .int
  | 150 => .array .int
  | 151 => .array .int
  | 152 => .array .int
  | 153 => .array .int
  | _ => .array .int
abbrev wsX130 : List Cond := u_ws RX13 TX13 155
theorem nmX13 : ∀ a, a < 155 → ∀ b, b < 155 → a ≠ b → (TX13 a).2.1 ≠ (TX13 b).2.1 := by decide +kernel
theorem tyX13_ok : ∀ k, k < 155 → parseFieldDescriptor (TX13 k).2.2.1 = some (tyX13 k) := by decide +kernel
abbrev cX13_init : ByteArray := prog_15_method_1_code
def yX13_init : MethodName := ⟨RX13, "<init>", "()V"⟩
abbrev cX13_clear : ByteArray := prog_15_method_143_code
def yX13_clear : MethodName := ⟨RX13, "clear", "()V"⟩
def wsX13_clear : List Cond := .code yX13_clear cX13_clear 1 none :: ([.fieldLink RX13 833 "ClassMillModel" "there" "I", .fieldLink RX13 855 "ClassMillModel" "verified" "Z", .fieldLink RX13 858 "ClassMillModel" "state" "I"] ++ wsX130)
def wsX13_init_r1 : List Cond := [Cond.methodLink RX13 1 objectInit, Cond.instanceMethod objectInit, Cond.code objectInit ⟨#[0xb1]⟩ 1 none, Cond.arrayClass .int, Cond.fieldLink RX13 9 "ClassMillModel" "tape" "[I", Cond.fieldLink RX13 13 "ClassMillModel" "text" "[I", Cond.fieldLink RX13 16 "ClassMillModel" "kind" "[I", Cond.fieldLink RX13 19 "ClassMillModel" "from" "[I", Cond.fieldLink RX13 22 "ClassMillModel" "wide" "[I", Cond.fieldLink RX13 25 "ClassMillModel" "value" "[I", Cond.fieldLink RX13 28 "ClassMillModel" "node" "[I", Cond.fieldLink RX13 31 "ClassMillModel" "tok" "[I", Cond.fieldLink RX13 34 "ClassMillModel" "begun" "[I", Cond.fieldLink RX13 37 "ClassMillModel" "one" "[I", Cond.fieldLink RX13 40 "ClassMillModel" "two" "[I", Cond.fieldLink RX13 43 "ClassMillModel" "three" "[I", Cond.fieldLink RX13 46 "ClassMillModel" "next" "[I", Cond.fieldLink RX13 49 "ClassMillModel" "gives" "[I", Cond.fieldLink RX13 52 "ClassMillModel" "means" "[I", Cond.fieldLink RX13 55 "ClassMillModel" "slot" "[I", Cond.arrayClass .boolean, Cond.fieldLink RX13 58 "ClassMillModel" "inBrackets" "[Z", Cond.fieldLink RX13 62 "ClassMillModel" "className" "[I", Cond.fieldLink RX13 65 "ClassMillModel" "classExtends" "[I"]
def wsX13_init_r2 : List Cond := [Cond.fieldLink RX13 68 "ClassMillModel" "classUpper" "[I", Cond.fieldLink RX13 71 "ClassMillModel" "memberClass" "[I", Cond.fieldLink RX13 74 "ClassMillModel" "memberSort" "[I", Cond.fieldLink RX13 77 "ClassMillModel" "memberBase" "[I", Cond.fieldLink RX13 80 "ClassMillModel" "memberBaseToken" "[I", Cond.fieldLink RX13 83 "ClassMillModel" "memberRow" "[Z", Cond.fieldLink RX13 86 "ClassMillModel" "memberName" "[I", Cond.fieldLink RX13 89 "ClassMillModel" "memberType" "[I", Cond.fieldLink RX13 92 "ClassMillModel" "memberFirst" "[I", Cond.fieldLink RX13 95 "ClassMillModel" "memberMany" "[I", Cond.fieldLink RX13 98 "ClassMillModel" "memberBody" "[I", Cond.fieldLink RX13 101 "ClassMillModel" "parameterBase" "[I", Cond.fieldLink RX13 104 "ClassMillModel" "parameterBaseToken" "[I", Cond.fieldLink RX13 107 "ClassMillModel" "parameterRow" "[Z", Cond.fieldLink RX13 110 "ClassMillModel" "parameterName" "[I", Cond.fieldLink RX13 113 "ClassMillModel" "parameterType" "[I", Cond.fieldLink RX13 116 "ClassMillModel" "sightName" "[I", Cond.fieldLink RX13 119 "ClassMillModel" "sightType" "[I", Cond.fieldLink RX13 122 "ClassMillModel" "broken" "[Z", Cond.fieldLink RX13 125 "ClassMillModel" "row" "[I", Cond.fieldLink RX13 128 "ClassMillModel" "constantSort" "[I", Cond.fieldLink RX13 131 "ClassMillModel" "constantOne" "[I", Cond.fieldLink RX13 134 "ClassMillModel" "constantTwo" "[I", Cond.fieldLink RX13 137 "ClassMillModel" "constantThree" "[I"]
def wsX13_init_r3 : List Cond := [Cond.constant RX13 140 (40000), Cond.fieldLink RX13 141 "ClassMillModel" "letters" "[I", Cond.fieldLink RX13 144 "ClassMillModel" "spelled" "[I", Cond.fieldLink RX13 147 "ClassMillModel" "code" "[I", Cond.fieldLink RX13 150 "ClassMillModel" "pile" "[I", Cond.fieldLink RX13 153 "ClassMillModel" "framePlace" "[I", Cond.fieldLink RX13 156 "ClassMillModel" "frameAt" "[I", Cond.fieldLink RX13 159 "ClassMillModel" "frameLocals" "[I", Cond.fieldLink RX13 162 "ClassMillModel" "frameStack" "[I", Cond.constant RX13 165 (60000), Cond.fieldLink RX13 166 "ClassMillModel" "frameTypes" "[I", Cond.fieldLink RX13 169 "ClassMillModel" "handlerFrom" "[I", Cond.fieldLink RX13 172 "ClassMillModel" "handlerTo" "[I", Cond.fieldLink RX13 175 "ClassMillModel" "handlerAt" "[I", Cond.fieldLink RX13 178 "ClassMillModel" "handlerClass" "[I", Cond.fieldLink RX13 181 "ClassMillModel" "jumpAt" "[I", Cond.fieldLink RX13 184 "ClassMillModel" "jumpLabel" "[I", Cond.fieldLink RX13 187 "ClassMillModel" "loopBegin" "[I", Cond.fieldLink RX13 190 "ClassMillModel" "loopBehind" "[I", Cond.constant RX13 193 (48000), Cond.fieldLink RX13 194 "ClassMillModel" "images" "[I", Cond.fieldLink RX13 197 "ClassMillModel" "imageSize" "[I", Cond.fieldLink RX13 200 "ClassMillModel" "draft" "[I", Cond.fieldLink RX13 203 "ClassMillModel" "draftSize" "[I"]
def wsX13_init_r4 : List Cond := [Cond.fieldLink RX13 206 "ClassMillModel" "behind" "[I", Cond.fieldLink RX13 209 "ClassMillModel" "bytes" "[I", Cond.fieldLink RX13 212 "ClassMillModel" "byteMany" "[I", Cond.fieldLink RX13 215 "ClassMillModel" "constantAt" "[I", Cond.fieldLink RX13 218 "ClassMillModel" "constantMany" "[I", Cond.fieldLink RX13 221 "ClassMillModel" "ownClass" "[I", Cond.fieldLink RX13 224 "ClassMillModel" "ownUpper" "[I", Cond.fieldLink RX13 227 "ClassMillModel" "fieldMany" "[I", Cond.fieldLink RX13 230 "ClassMillModel" "fieldAt" "[I", Cond.fieldLink RX13 233 "ClassMillModel" "methodMany" "[I", Cond.fieldLink RX13 236 "ClassMillModel" "methodAt" "[I", Cond.fieldLink RX13 239 "ClassMillModel" "handlersAt" "[I", Cond.fieldLink RX13 242 "ClassMillModel" "framesAt" "[I", Cond.fieldLink RX13 245 "ClassMillModel" "look" "[I", Cond.fieldLink RX13 248 "ClassMillModel" "kept" "[I", Cond.fieldLink RX13 251 "ClassMillModel" "otherAt" "[I", Cond.fieldLink RX13 254 "ClassMillModel" "otherSize" "[I", Cond.fieldLink RX13 257 "ClassMillModel" "whyClass" "I", Cond.fieldLink RX13 261 "ClassMillModel" "whyMethod" "I", Cond.fieldLink RX13 264 "ClassMillModel" "whyPlace" "I", Cond.fieldLink RX13 267 "ClassMillModel" "begins" "[Z", Cond.fieldLink RX13 270 "ClassMillModel" "locals" "[I", Cond.fieldLink RX13 273 "ClassMillModel" "stack" "[I", Cond.fieldLink RX13 276 "ClassMillModel" "wants" "[I"]
def wsX13_init_r5 : List Cond := [Cond.fieldLink RX13 279 "ClassMillModel" "sort" "[I", Cond.fieldLink RX13 282 "ClassMillModel" "begin" "[I", Cond.fieldLink RX13 285 "ClassMillModel" "count" "[I", Cond.fieldLink RX13 288 "ClassMillModel" "values" "[I", Cond.fieldLink RX13 291 "ClassMillModel" "printed" "[I", Cond.fieldLink RX13 294 "ClassMillModel" "runClass" "[I", Cond.fieldLink RX13 297 "ClassMillModel" "runMethod" "[I", Cond.fieldLink RX13 300 "ClassMillModel" "runPlace" "[I", Cond.fieldLink RX13 303 "ClassMillModel" "runStack" "[I", Cond.fieldLink RX13 306 "ClassMillModel" "cells" "[I", Cond.methodLink RX13 309 yX13_clear, Cond.instanceMethod yX13_clear, Cond.selects RX13 yX13_clear yX13_clear, Cond.initialized RX13, Cond.code yX13_clear cX13_clear 1 none, Cond.fieldLink RX13 833 "ClassMillModel" "there" "I", Cond.fieldLink RX13 855 "ClassMillModel" "verified" "Z", Cond.fieldLink RX13 858 "ClassMillModel" "state" "I"]
def wsX13_init : List Cond := .code yX13_init cX13_init 1 none :: ((wsX13_init_r1 ++ (wsX13_init_r2 ++ (wsX13_init_r3 ++ (wsX13_init_r4 ++ wsX13_init_r5)))) ++ wsX130)
set_option maxRecDepth 20000 in
theorem ggX13_init_X13_clear : GoodIn wsX13_init wsX13_clear := goodIn_r _ [111, 112, 113, 114, 115, 116, 117, 118, 119, 120, 121, 122, 123, 124, 125, 126, 127, 128, 129, 130, 131, 132, 133, 134, 135, 136, 137, 138, 139, 140, 141, 142, 143, 144, 145, 146, 147, 148, 149, 150, 151, 152, 153, 154, 155, 156, 157, 158, 159, 160, 161, 162, 163, 164, 165, 166, 167, 168, 169, 170, 171, 172, 173, 174, 175, 176, 177, 178, 179, 180, 181, 182, 183, 184, 185, 186, 187, 188, 189, 190, 191, 192, 193, 194, 195, 196, 197, 198, 199, 200, 201, 202, 203, 204, 205, 206, 207, 208, 209, 210, 211, 212, 213, 214, 215, 216, 217, 218, 219, 220, 221, 222, 223, 224, 225, 226, 227, 228, 229, 230, 231, 232, 233, 234, 235, 236, 237, 238, 239, 240, 241, 242, 243, 244, 245, 246, 247, 248, 249, 250, 251, 252, 253, 254, 255, 256, 257, 258, 259, 260, 261, 262, 263, 264, 265, 266, 267, 268, 269] (by decide +kernel) (by decide +kernel)
set_option maxRecDepth 20000 in
theorem gX13_init_X13_clear : GoodIn wsX13_init (wsV RX13 309 RX13 yX13_clear wsX13_clear) := goodIn_app (goodIn_of _ (by decide +kernel)) ggX13_init_X13_clear
theorem dX13_init_0 : decode cX13_init 0 = .ok (.aload_n 0, 1) := by decide +kernel
theorem dX13_init_1 : decode cX13_init 1 = .ok (.invokespecial 1, 3) := by decide +kernel
theorem dX13_init_4 : decode cX13_init 4 = .ok (.aload_n 0, 1) := by decide +kernel
theorem dX13_init_5 : decode cX13_init 5 = .ok (.sipush 6000, 3) := by decide +kernel
theorem dX13_init_8 : decode cX13_init 8 = .ok (.newarray .int, 2) := by decide +kernel
theorem dX13_init_10 : decode cX13_init 10 = .ok (.putfield 9, 3) := by decide +kernel
theorem dX13_init_13 : decode cX13_init 13 = .ok (.aload_n 0, 1) := by decide +kernel
theorem dX13_init_14 : decode cX13_init 14 = .ok (.sipush 3000, 3) := by decide +kernel
theorem dX13_init_17 : decode cX13_init 17 = .ok (.newarray .int, 2) := by decide +kernel
theorem dX13_init_19 : decode cX13_init 19 = .ok (.putfield 13, 3) := by decide +kernel
theorem dX13_init_22 : decode cX13_init 22 = .ok (.aload_n 0, 1) := by decide +kernel
theorem dX13_init_23 : decode cX13_init 23 = .ok (.sipush 3008, 3) := by decide +kernel
theorem dX13_init_26 : decode cX13_init 26 = .ok (.newarray .int, 2) := by decide +kernel
theorem dX13_init_28 : decode cX13_init 28 = .ok (.putfield 16, 3) := by decide +kernel
theorem dX13_init_31 : decode cX13_init 31 = .ok (.aload_n 0, 1) := by decide +kernel
theorem dX13_init_32 : decode cX13_init 32 = .ok (.sipush 3002, 3) := by decide +kernel
theorem dX13_init_35 : decode cX13_init 35 = .ok (.newarray .int, 2) := by decide +kernel
theorem dX13_init_37 : decode cX13_init 37 = .ok (.putfield 19, 3) := by decide +kernel
theorem dX13_init_40 : decode cX13_init 40 = .ok (.aload_n 0, 1) := by decide +kernel
theorem dX13_init_41 : decode cX13_init 41 = .ok (.sipush 3002, 3) := by decide +kernel
theorem dX13_init_44 : decode cX13_init 44 = .ok (.newarray .int, 2) := by decide +kernel
theorem dX13_init_46 : decode cX13_init 46 = .ok (.putfield 22, 3) := by decide +kernel
theorem dX13_init_49 : decode cX13_init 49 = .ok (.aload_n 0, 1) := by decide +kernel
theorem dX13_init_50 : decode cX13_init 50 = .ok (.sipush 3002, 3) := by decide +kernel
theorem dX13_init_53 : decode cX13_init 53 = .ok (.newarray .int, 2) := by decide +kernel
theorem dX13_init_55 : decode cX13_init 55 = .ok (.putfield 25, 3) := by decide +kernel
theorem dX13_init_58 : decode cX13_init 58 = .ok (.aload_n 0, 1) := by decide +kernel
theorem dX13_init_59 : decode cX13_init 59 = .ok (.sipush 9000, 3) := by decide +kernel
theorem dX13_init_62 : decode cX13_init 62 = .ok (.newarray .int, 2) := by decide +kernel
theorem dX13_init_64 : decode cX13_init 64 = .ok (.putfield 28, 3) := by decide +kernel
theorem dX13_init_67 : decode cX13_init 67 = .ok (.aload_n 0, 1) := by decide +kernel
theorem dX13_init_68 : decode cX13_init 68 = .ok (.sipush 9000, 3) := by decide +kernel
theorem dX13_init_71 : decode cX13_init 71 = .ok (.newarray .int, 2) := by decide +kernel
theorem dX13_init_73 : decode cX13_init 73 = .ok (.putfield 31, 3) := by decide +kernel
theorem dX13_init_76 : decode cX13_init 76 = .ok (.aload_n 0, 1) := by decide +kernel
theorem dX13_init_77 : decode cX13_init 77 = .ok (.sipush 9000, 3) := by decide +kernel
theorem dX13_init_80 : decode cX13_init 80 = .ok (.newarray .int, 2) := by decide +kernel
theorem dX13_init_82 : decode cX13_init 82 = .ok (.putfield 34, 3) := by decide +kernel
theorem dX13_init_85 : decode cX13_init 85 = .ok (.aload_n 0, 1) := by decide +kernel
theorem dX13_init_86 : decode cX13_init 86 = .ok (.sipush 9000, 3) := by decide +kernel
theorem dX13_init_89 : decode cX13_init 89 = .ok (.newarray .int, 2) := by decide +kernel
theorem dX13_init_91 : decode cX13_init 91 = .ok (.putfield 37, 3) := by decide +kernel
theorem dX13_init_94 : decode cX13_init 94 = .ok (.aload_n 0, 1) := by decide +kernel
theorem dX13_init_95 : decode cX13_init 95 = .ok (.sipush 9000, 3) := by decide +kernel
theorem dX13_init_98 : decode cX13_init 98 = .ok (.newarray .int, 2) := by decide +kernel
theorem dX13_init_100 : decode cX13_init 100 = .ok (.putfield 40, 3) := by decide +kernel
theorem dX13_init_103 : decode cX13_init 103 = .ok (.aload_n 0, 1) := by decide +kernel
theorem dX13_init_104 : decode cX13_init 104 = .ok (.sipush 9000, 3) := by decide +kernel
theorem dX13_init_107 : decode cX13_init 107 = .ok (.newarray .int, 2) := by decide +kernel
theorem dX13_init_109 : decode cX13_init 109 = .ok (.putfield 43, 3) := by decide +kernel
theorem dX13_init_112 : decode cX13_init 112 = .ok (.aload_n 0, 1) := by decide +kernel
theorem dX13_init_113 : decode cX13_init 113 = .ok (.sipush 9000, 3) := by decide +kernel
theorem dX13_init_116 : decode cX13_init 116 = .ok (.newarray .int, 2) := by decide +kernel
theorem dX13_init_118 : decode cX13_init 118 = .ok (.putfield 46, 3) := by decide +kernel
theorem dX13_init_121 : decode cX13_init 121 = .ok (.aload_n 0, 1) := by decide +kernel
theorem dX13_init_122 : decode cX13_init 122 = .ok (.sipush 9000, 3) := by decide +kernel
theorem dX13_init_125 : decode cX13_init 125 = .ok (.newarray .int, 2) := by decide +kernel
theorem dX13_init_127 : decode cX13_init 127 = .ok (.putfield 49, 3) := by decide +kernel
theorem dX13_init_130 : decode cX13_init 130 = .ok (.aload_n 0, 1) := by decide +kernel
theorem dX13_init_131 : decode cX13_init 131 = .ok (.sipush 9000, 3) := by decide +kernel
theorem dX13_init_134 : decode cX13_init 134 = .ok (.newarray .int, 2) := by decide +kernel
theorem dX13_init_136 : decode cX13_init 136 = .ok (.putfield 52, 3) := by decide +kernel
theorem dX13_init_139 : decode cX13_init 139 = .ok (.aload_n 0, 1) := by decide +kernel
theorem dX13_init_140 : decode cX13_init 140 = .ok (.sipush 9000, 3) := by decide +kernel
theorem dX13_init_143 : decode cX13_init 143 = .ok (.newarray .int, 2) := by decide +kernel
theorem dX13_init_145 : decode cX13_init 145 = .ok (.putfield 55, 3) := by decide +kernel
theorem dX13_init_148 : decode cX13_init 148 = .ok (.aload_n 0, 1) := by decide +kernel
theorem dX13_init_149 : decode cX13_init 149 = .ok (.sipush 9000, 3) := by decide +kernel
theorem dX13_init_152 : decode cX13_init 152 = .ok (.newarray .boolean, 2) := by decide +kernel
theorem dX13_init_154 : decode cX13_init 154 = .ok (.putfield 58, 3) := by decide +kernel
theorem dX13_init_157 : decode cX13_init 157 = .ok (.aload_n 0, 1) := by decide +kernel
theorem dX13_init_158 : decode cX13_init 158 = .ok (.sipush 400, 3) := by decide +kernel
theorem dX13_init_161 : decode cX13_init 161 = .ok (.newarray .int, 2) := by decide +kernel
theorem dX13_init_163 : decode cX13_init 163 = .ok (.putfield 62, 3) := by decide +kernel
theorem dX13_init_166 : decode cX13_init 166 = .ok (.aload_n 0, 1) := by decide +kernel
theorem dX13_init_167 : decode cX13_init 167 = .ok (.sipush 400, 3) := by decide +kernel
theorem dX13_init_170 : decode cX13_init 170 = .ok (.newarray .int, 2) := by decide +kernel
theorem dX13_init_172 : decode cX13_init 172 = .ok (.putfield 65, 3) := by decide +kernel
theorem dX13_init_175 : decode cX13_init 175 = .ok (.aload_n 0, 1) := by decide +kernel
theorem dX13_init_176 : decode cX13_init 176 = .ok (.sipush 400, 3) := by decide +kernel
theorem dX13_init_179 : decode cX13_init 179 = .ok (.newarray .int, 2) := by decide +kernel
theorem dX13_init_181 : decode cX13_init 181 = .ok (.putfield 68, 3) := by decide +kernel
theorem dX13_init_184 : decode cX13_init 184 = .ok (.aload_n 0, 1) := by decide +kernel
theorem dX13_init_185 : decode cX13_init 185 = .ok (.sipush 800, 3) := by decide +kernel
theorem dX13_init_188 : decode cX13_init 188 = .ok (.newarray .int, 2) := by decide +kernel
theorem dX13_init_190 : decode cX13_init 190 = .ok (.putfield 71, 3) := by decide +kernel
theorem dX13_init_193 : decode cX13_init 193 = .ok (.aload_n 0, 1) := by decide +kernel
theorem dX13_init_194 : decode cX13_init 194 = .ok (.sipush 800, 3) := by decide +kernel
theorem dX13_init_197 : decode cX13_init 197 = .ok (.newarray .int, 2) := by decide +kernel
theorem dX13_init_199 : decode cX13_init 199 = .ok (.putfield 74, 3) := by decide +kernel
theorem dX13_init_202 : decode cX13_init 202 = .ok (.aload_n 0, 1) := by decide +kernel
theorem dX13_init_203 : decode cX13_init 203 = .ok (.sipush 800, 3) := by decide +kernel
theorem dX13_init_206 : decode cX13_init 206 = .ok (.newarray .int, 2) := by decide +kernel
theorem dX13_init_208 : decode cX13_init 208 = .ok (.putfield 77, 3) := by decide +kernel
theorem dX13_init_211 : decode cX13_init 211 = .ok (.aload_n 0, 1) := by decide +kernel
theorem dX13_init_212 : decode cX13_init 212 = .ok (.sipush 800, 3) := by decide +kernel
theorem dX13_init_215 : decode cX13_init 215 = .ok (.newarray .int, 2) := by decide +kernel
theorem dX13_init_217 : decode cX13_init 217 = .ok (.putfield 80, 3) := by decide +kernel
theorem dX13_init_220 : decode cX13_init 220 = .ok (.aload_n 0, 1) := by decide +kernel
theorem dX13_init_221 : decode cX13_init 221 = .ok (.sipush 800, 3) := by decide +kernel
theorem dX13_init_224 : decode cX13_init 224 = .ok (.newarray .boolean, 2) := by decide +kernel
theorem dX13_init_226 : decode cX13_init 226 = .ok (.putfield 83, 3) := by decide +kernel
theorem dX13_init_229 : decode cX13_init 229 = .ok (.aload_n 0, 1) := by decide +kernel
theorem dX13_init_230 : decode cX13_init 230 = .ok (.sipush 800, 3) := by decide +kernel
theorem dX13_init_233 : decode cX13_init 233 = .ok (.newarray .int, 2) := by decide +kernel
theorem dX13_init_235 : decode cX13_init 235 = .ok (.putfield 86, 3) := by decide +kernel
theorem dX13_init_238 : decode cX13_init 238 = .ok (.aload_n 0, 1) := by decide +kernel
theorem dX13_init_239 : decode cX13_init 239 = .ok (.sipush 800, 3) := by decide +kernel
theorem dX13_init_242 : decode cX13_init 242 = .ok (.newarray .int, 2) := by decide +kernel
theorem dX13_init_244 : decode cX13_init 244 = .ok (.putfield 89, 3) := by decide +kernel
theorem dX13_init_247 : decode cX13_init 247 = .ok (.aload_n 0, 1) := by decide +kernel
theorem dX13_init_248 : decode cX13_init 248 = .ok (.sipush 800, 3) := by decide +kernel
theorem dX13_init_251 : decode cX13_init 251 = .ok (.newarray .int, 2) := by decide +kernel
theorem dX13_init_253 : decode cX13_init 253 = .ok (.putfield 92, 3) := by decide +kernel
theorem dX13_init_256 : decode cX13_init 256 = .ok (.aload_n 0, 1) := by decide +kernel
theorem dX13_init_257 : decode cX13_init 257 = .ok (.sipush 800, 3) := by decide +kernel
theorem dX13_init_260 : decode cX13_init 260 = .ok (.newarray .int, 2) := by decide +kernel
theorem dX13_init_262 : decode cX13_init 262 = .ok (.putfield 95, 3) := by decide +kernel
theorem dX13_init_265 : decode cX13_init 265 = .ok (.aload_n 0, 1) := by decide +kernel
theorem dX13_init_266 : decode cX13_init 266 = .ok (.sipush 800, 3) := by decide +kernel
theorem dX13_init_269 : decode cX13_init 269 = .ok (.newarray .int, 2) := by decide +kernel
theorem dX13_init_271 : decode cX13_init 271 = .ok (.putfield 98, 3) := by decide +kernel
theorem dX13_init_274 : decode cX13_init 274 = .ok (.aload_n 0, 1) := by decide +kernel
theorem dX13_init_275 : decode cX13_init 275 = .ok (.sipush 1500, 3) := by decide +kernel
theorem dX13_init_278 : decode cX13_init 278 = .ok (.newarray .int, 2) := by decide +kernel
theorem dX13_init_280 : decode cX13_init 280 = .ok (.putfield 101, 3) := by decide +kernel
theorem dX13_init_283 : decode cX13_init 283 = .ok (.aload_n 0, 1) := by decide +kernel
theorem dX13_init_284 : decode cX13_init 284 = .ok (.sipush 1500, 3) := by decide +kernel
theorem dX13_init_287 : decode cX13_init 287 = .ok (.newarray .int, 2) := by decide +kernel
theorem dX13_init_289 : decode cX13_init 289 = .ok (.putfield 104, 3) := by decide +kernel
theorem dX13_init_292 : decode cX13_init 292 = .ok (.aload_n 0, 1) := by decide +kernel
theorem dX13_init_293 : decode cX13_init 293 = .ok (.sipush 1500, 3) := by decide +kernel
theorem dX13_init_296 : decode cX13_init 296 = .ok (.newarray .boolean, 2) := by decide +kernel
theorem dX13_init_298 : decode cX13_init 298 = .ok (.putfield 107, 3) := by decide +kernel
theorem dX13_init_301 : decode cX13_init 301 = .ok (.aload_n 0, 1) := by decide +kernel
theorem dX13_init_302 : decode cX13_init 302 = .ok (.sipush 1500, 3) := by decide +kernel
theorem dX13_init_305 : decode cX13_init 305 = .ok (.newarray .int, 2) := by decide +kernel
theorem dX13_init_307 : decode cX13_init 307 = .ok (.putfield 110, 3) := by decide +kernel
theorem dX13_init_310 : decode cX13_init 310 = .ok (.aload_n 0, 1) := by decide +kernel
theorem dX13_init_311 : decode cX13_init 311 = .ok (.sipush 1500, 3) := by decide +kernel
theorem dX13_init_314 : decode cX13_init 314 = .ok (.newarray .int, 2) := by decide +kernel
theorem dX13_init_316 : decode cX13_init 316 = .ok (.putfield 113, 3) := by decide +kernel
theorem dX13_init_319 : decode cX13_init 319 = .ok (.aload_n 0, 1) := by decide +kernel
theorem dX13_init_320 : decode cX13_init 320 = .ok (.sipush 3000, 3) := by decide +kernel
theorem dX13_init_323 : decode cX13_init 323 = .ok (.newarray .int, 2) := by decide +kernel
theorem dX13_init_325 : decode cX13_init 325 = .ok (.putfield 116, 3) := by decide +kernel
theorem dX13_init_328 : decode cX13_init 328 = .ok (.aload_n 0, 1) := by decide +kernel
theorem dX13_init_329 : decode cX13_init 329 = .ok (.sipush 3000, 3) := by decide +kernel
theorem dX13_init_332 : decode cX13_init 332 = .ok (.newarray .int, 2) := by decide +kernel
theorem dX13_init_334 : decode cX13_init 334 = .ok (.putfield 119, 3) := by decide +kernel
theorem dX13_init_337 : decode cX13_init 337 = .ok (.aload_n 0, 1) := by decide +kernel
theorem dX13_init_338 : decode cX13_init 338 = .ok (.sipush 3000, 3) := by decide +kernel
theorem dX13_init_341 : decode cX13_init 341 = .ok (.newarray .boolean, 2) := by decide +kernel
theorem dX13_init_343 : decode cX13_init 343 = .ok (.putfield 122, 3) := by decide +kernel
theorem dX13_init_346 : decode cX13_init 346 = .ok (.aload_n 0, 1) := by decide +kernel
theorem dX13_init_347 : decode cX13_init 347 = .ok (.sipush 9000, 3) := by decide +kernel
theorem dX13_init_350 : decode cX13_init 350 = .ok (.newarray .int, 2) := by decide +kernel
theorem dX13_init_352 : decode cX13_init 352 = .ok (.putfield 125, 3) := by decide +kernel
theorem dX13_init_355 : decode cX13_init 355 = .ok (.aload_n 0, 1) := by decide +kernel
theorem dX13_init_356 : decode cX13_init 356 = .ok (.sipush 2000, 3) := by decide +kernel
theorem dX13_init_359 : decode cX13_init 359 = .ok (.newarray .int, 2) := by decide +kernel
theorem dX13_init_361 : decode cX13_init 361 = .ok (.putfield 128, 3) := by decide +kernel
theorem dX13_init_364 : decode cX13_init 364 = .ok (.aload_n 0, 1) := by decide +kernel
theorem dX13_init_365 : decode cX13_init 365 = .ok (.sipush 2000, 3) := by decide +kernel
theorem dX13_init_368 : decode cX13_init 368 = .ok (.newarray .int, 2) := by decide +kernel
theorem dX13_init_370 : decode cX13_init 370 = .ok (.putfield 131, 3) := by decide +kernel
theorem dX13_init_373 : decode cX13_init 373 = .ok (.aload_n 0, 1) := by decide +kernel
theorem dX13_init_374 : decode cX13_init 374 = .ok (.sipush 2000, 3) := by decide +kernel
theorem dX13_init_377 : decode cX13_init 377 = .ok (.newarray .int, 2) := by decide +kernel
theorem dX13_init_379 : decode cX13_init 379 = .ok (.putfield 134, 3) := by decide +kernel
theorem dX13_init_382 : decode cX13_init 382 = .ok (.aload_n 0, 1) := by decide +kernel
theorem dX13_init_383 : decode cX13_init 383 = .ok (.sipush 2000, 3) := by decide +kernel
theorem dX13_init_386 : decode cX13_init 386 = .ok (.newarray .int, 2) := by decide +kernel
theorem dX13_init_388 : decode cX13_init 388 = .ok (.putfield 137, 3) := by decide +kernel
theorem dX13_init_391 : decode cX13_init 391 = .ok (.aload_n 0, 1) := by decide +kernel
theorem dX13_init_392 : decode cX13_init 392 = .ok (.ldc 140, 2) := by decide +kernel
theorem dX13_init_394 : decode cX13_init 394 = .ok (.newarray .int, 2) := by decide +kernel
theorem dX13_init_396 : decode cX13_init 396 = .ok (.putfield 141, 3) := by decide +kernel
theorem dX13_init_399 : decode cX13_init 399 = .ok (.aload_n 0, 1) := by decide +kernel
theorem dX13_init_400 : decode cX13_init 400 = .ok (.sipush 200, 3) := by decide +kernel
theorem dX13_init_403 : decode cX13_init 403 = .ok (.newarray .int, 2) := by decide +kernel
theorem dX13_init_405 : decode cX13_init 405 = .ok (.putfield 144, 3) := by decide +kernel
theorem dX13_init_408 : decode cX13_init 408 = .ok (.aload_n 0, 1) := by decide +kernel
theorem dX13_init_409 : decode cX13_init 409 = .ok (.sipush 12000, 3) := by decide +kernel
theorem dX13_init_412 : decode cX13_init 412 = .ok (.newarray .int, 2) := by decide +kernel
theorem dX13_init_414 : decode cX13_init 414 = .ok (.putfield 147, 3) := by decide +kernel
theorem dX13_init_417 : decode cX13_init 417 = .ok (.aload_n 0, 1) := by decide +kernel
theorem dX13_init_418 : decode cX13_init 418 = .ok (.sipush 3000, 3) := by decide +kernel
theorem dX13_init_421 : decode cX13_init 421 = .ok (.newarray .int, 2) := by decide +kernel
theorem dX13_init_423 : decode cX13_init 423 = .ok (.putfield 150, 3) := by decide +kernel
theorem dX13_init_426 : decode cX13_init 426 = .ok (.aload_n 0, 1) := by decide +kernel
theorem dX13_init_427 : decode cX13_init 427 = .ok (.sipush 6200, 3) := by decide +kernel
theorem dX13_init_430 : decode cX13_init 430 = .ok (.newarray .int, 2) := by decide +kernel
theorem dX13_init_432 : decode cX13_init 432 = .ok (.putfield 153, 3) := by decide +kernel
theorem dX13_init_435 : decode cX13_init 435 = .ok (.aload_n 0, 1) := by decide +kernel
theorem dX13_init_436 : decode cX13_init 436 = .ok (.sipush 6200, 3) := by decide +kernel
theorem dX13_init_439 : decode cX13_init 439 = .ok (.newarray .int, 2) := by decide +kernel
theorem dX13_init_441 : decode cX13_init 441 = .ok (.putfield 156, 3) := by decide +kernel
theorem dX13_init_444 : decode cX13_init 444 = .ok (.aload_n 0, 1) := by decide +kernel
theorem dX13_init_445 : decode cX13_init 445 = .ok (.sipush 6200, 3) := by decide +kernel
theorem dX13_init_448 : decode cX13_init 448 = .ok (.newarray .int, 2) := by decide +kernel
theorem dX13_init_450 : decode cX13_init 450 = .ok (.putfield 159, 3) := by decide +kernel
theorem dX13_init_453 : decode cX13_init 453 = .ok (.aload_n 0, 1) := by decide +kernel
theorem dX13_init_454 : decode cX13_init 454 = .ok (.sipush 6200, 3) := by decide +kernel
theorem dX13_init_457 : decode cX13_init 457 = .ok (.newarray .int, 2) := by decide +kernel
theorem dX13_init_459 : decode cX13_init 459 = .ok (.putfield 162, 3) := by decide +kernel
theorem dX13_init_462 : decode cX13_init 462 = .ok (.aload_n 0, 1) := by decide +kernel
theorem dX13_init_463 : decode cX13_init 463 = .ok (.ldc 165, 2) := by decide +kernel
theorem dX13_init_465 : decode cX13_init 465 = .ok (.newarray .int, 2) := by decide +kernel
theorem dX13_init_467 : decode cX13_init 467 = .ok (.putfield 166, 3) := by decide +kernel
theorem dX13_init_470 : decode cX13_init 470 = .ok (.aload_n 0, 1) := by decide +kernel
theorem dX13_init_471 : decode cX13_init 471 = .ok (.sipush 1000, 3) := by decide +kernel
theorem dX13_init_474 : decode cX13_init 474 = .ok (.newarray .int, 2) := by decide +kernel
theorem dX13_init_476 : decode cX13_init 476 = .ok (.putfield 169, 3) := by decide +kernel
theorem dX13_init_479 : decode cX13_init 479 = .ok (.aload_n 0, 1) := by decide +kernel
theorem dX13_init_480 : decode cX13_init 480 = .ok (.sipush 1000, 3) := by decide +kernel
theorem dX13_init_483 : decode cX13_init 483 = .ok (.newarray .int, 2) := by decide +kernel
theorem dX13_init_485 : decode cX13_init 485 = .ok (.putfield 172, 3) := by decide +kernel
theorem dX13_init_488 : decode cX13_init 488 = .ok (.aload_n 0, 1) := by decide +kernel
theorem dX13_init_489 : decode cX13_init 489 = .ok (.sipush 1000, 3) := by decide +kernel
theorem dX13_init_492 : decode cX13_init 492 = .ok (.newarray .int, 2) := by decide +kernel
theorem dX13_init_494 : decode cX13_init 494 = .ok (.putfield 175, 3) := by decide +kernel
theorem dX13_init_497 : decode cX13_init 497 = .ok (.aload_n 0, 1) := by decide +kernel
theorem dX13_init_498 : decode cX13_init 498 = .ok (.sipush 1000, 3) := by decide +kernel
theorem dX13_init_501 : decode cX13_init 501 = .ok (.newarray .int, 2) := by decide +kernel
theorem dX13_init_503 : decode cX13_init 503 = .ok (.putfield 178, 3) := by decide +kernel
theorem dX13_init_506 : decode cX13_init 506 = .ok (.aload_n 0, 1) := by decide +kernel
theorem dX13_init_507 : decode cX13_init 507 = .ok (.sipush 3000, 3) := by decide +kernel
theorem dX13_init_510 : decode cX13_init 510 = .ok (.newarray .int, 2) := by decide +kernel
theorem dX13_init_512 : decode cX13_init 512 = .ok (.putfield 181, 3) := by decide +kernel
theorem dX13_init_515 : decode cX13_init 515 = .ok (.aload_n 0, 1) := by decide +kernel
theorem dX13_init_516 : decode cX13_init 516 = .ok (.sipush 3000, 3) := by decide +kernel
theorem dX13_init_519 : decode cX13_init 519 = .ok (.newarray .int, 2) := by decide +kernel
theorem dX13_init_521 : decode cX13_init 521 = .ok (.putfield 184, 3) := by decide +kernel
theorem dX13_init_524 : decode cX13_init 524 = .ok (.aload_n 0, 1) := by decide +kernel
theorem dX13_init_525 : decode cX13_init 525 = .ok (.sipush 3000, 3) := by decide +kernel
theorem dX13_init_528 : decode cX13_init 528 = .ok (.newarray .int, 2) := by decide +kernel
theorem dX13_init_530 : decode cX13_init 530 = .ok (.putfield 187, 3) := by decide +kernel
theorem dX13_init_533 : decode cX13_init 533 = .ok (.aload_n 0, 1) := by decide +kernel
theorem dX13_init_534 : decode cX13_init 534 = .ok (.sipush 3000, 3) := by decide +kernel
theorem dX13_init_537 : decode cX13_init 537 = .ok (.newarray .int, 2) := by decide +kernel
theorem dX13_init_539 : decode cX13_init 539 = .ok (.putfield 190, 3) := by decide +kernel
theorem dX13_init_542 : decode cX13_init 542 = .ok (.aload_n 0, 1) := by decide +kernel
theorem dX13_init_543 : decode cX13_init 543 = .ok (.ldc 193, 2) := by decide +kernel
theorem dX13_init_545 : decode cX13_init 545 = .ok (.newarray .int, 2) := by decide +kernel
theorem dX13_init_547 : decode cX13_init 547 = .ok (.putfield 194, 3) := by decide +kernel
theorem dX13_init_550 : decode cX13_init 550 = .ok (.aload_n 0, 1) := by decide +kernel
theorem dX13_init_551 : decode cX13_init 551 = .ok (.bipush 8, 2) := by decide +kernel
theorem dX13_init_553 : decode cX13_init 553 = .ok (.newarray .int, 2) := by decide +kernel
theorem dX13_init_555 : decode cX13_init 555 = .ok (.putfield 197, 3) := by decide +kernel
theorem dX13_init_558 : decode cX13_init 558 = .ok (.aload_n 0, 1) := by decide +kernel
theorem dX13_init_559 : decode cX13_init 559 = .ok (.ldc 193, 2) := by decide +kernel
theorem dX13_init_561 : decode cX13_init 561 = .ok (.newarray .int, 2) := by decide +kernel
theorem dX13_init_563 : decode cX13_init 563 = .ok (.putfield 200, 3) := by decide +kernel
theorem dX13_init_566 : decode cX13_init 566 = .ok (.aload_n 0, 1) := by decide +kernel
theorem dX13_init_567 : decode cX13_init 567 = .ok (.bipush 8, 2) := by decide +kernel
theorem dX13_init_569 : decode cX13_init 569 = .ok (.newarray .int, 2) := by decide +kernel
theorem dX13_init_571 : decode cX13_init 571 = .ok (.putfield 203, 3) := by decide +kernel
theorem dX13_init_574 : decode cX13_init 574 = .ok (.aload_n 0, 1) := by decide +kernel
theorem dX13_init_575 : decode cX13_init 575 = .ok (.ldc 140, 2) := by decide +kernel
theorem dX13_init_577 : decode cX13_init 577 = .ok (.newarray .int, 2) := by decide +kernel
theorem dX13_init_579 : decode cX13_init 579 = .ok (.putfield 206, 3) := by decide +kernel
theorem dX13_init_582 : decode cX13_init 582 = .ok (.aload_n 0, 1) := by decide +kernel
theorem dX13_init_583 : decode cX13_init 583 = .ok (.ldc 193, 2) := by decide +kernel
theorem dX13_init_585 : decode cX13_init 585 = .ok (.newarray .int, 2) := by decide +kernel
theorem dX13_init_587 : decode cX13_init 587 = .ok (.putfield 209, 3) := by decide +kernel
theorem dX13_init_590 : decode cX13_init 590 = .ok (.aload_n 0, 1) := by decide +kernel
theorem dX13_init_591 : decode cX13_init 591 = .ok (.bipush 8, 2) := by decide +kernel
theorem dX13_init_593 : decode cX13_init 593 = .ok (.newarray .int, 2) := by decide +kernel
theorem dX13_init_595 : decode cX13_init 595 = .ok (.putfield 212, 3) := by decide +kernel
theorem dX13_init_598 : decode cX13_init 598 = .ok (.aload_n 0, 1) := by decide +kernel
theorem dX13_init_599 : decode cX13_init 599 = .ok (.sipush 2048, 3) := by decide +kernel
theorem dX13_init_602 : decode cX13_init 602 = .ok (.newarray .int, 2) := by decide +kernel
theorem dX13_init_604 : decode cX13_init 604 = .ok (.putfield 215, 3) := by decide +kernel
theorem dX13_init_607 : decode cX13_init 607 = .ok (.aload_n 0, 1) := by decide +kernel
theorem dX13_init_608 : decode cX13_init 608 = .ok (.bipush 8, 2) := by decide +kernel
theorem dX13_init_610 : decode cX13_init 610 = .ok (.newarray .int, 2) := by decide +kernel
theorem dX13_init_612 : decode cX13_init 612 = .ok (.putfield 218, 3) := by decide +kernel
theorem dX13_init_615 : decode cX13_init 615 = .ok (.aload_n 0, 1) := by decide +kernel
theorem dX13_init_616 : decode cX13_init 616 = .ok (.bipush 8, 2) := by decide +kernel
theorem dX13_init_618 : decode cX13_init 618 = .ok (.newarray .int, 2) := by decide +kernel
theorem dX13_init_620 : decode cX13_init 620 = .ok (.putfield 221, 3) := by decide +kernel
theorem dX13_init_623 : decode cX13_init 623 = .ok (.aload_n 0, 1) := by decide +kernel
theorem dX13_init_624 : decode cX13_init 624 = .ok (.bipush 8, 2) := by decide +kernel
theorem dX13_init_626 : decode cX13_init 626 = .ok (.newarray .int, 2) := by decide +kernel
theorem dX13_init_628 : decode cX13_init 628 = .ok (.putfield 224, 3) := by decide +kernel
theorem dX13_init_631 : decode cX13_init 631 = .ok (.aload_n 0, 1) := by decide +kernel
theorem dX13_init_632 : decode cX13_init 632 = .ok (.bipush 8, 2) := by decide +kernel
theorem dX13_init_634 : decode cX13_init 634 = .ok (.newarray .int, 2) := by decide +kernel
theorem dX13_init_636 : decode cX13_init 636 = .ok (.putfield 227, 3) := by decide +kernel
theorem dX13_init_639 : decode cX13_init 639 = .ok (.aload_n 0, 1) := by decide +kernel
theorem dX13_init_640 : decode cX13_init 640 = .ok (.bipush 96, 2) := by decide +kernel
theorem dX13_init_642 : decode cX13_init 642 = .ok (.newarray .int, 2) := by decide +kernel
theorem dX13_init_644 : decode cX13_init 644 = .ok (.putfield 230, 3) := by decide +kernel
theorem dX13_init_647 : decode cX13_init 647 = .ok (.aload_n 0, 1) := by decide +kernel
theorem dX13_init_648 : decode cX13_init 648 = .ok (.bipush 8, 2) := by decide +kernel
theorem dX13_init_650 : decode cX13_init 650 = .ok (.newarray .int, 2) := by decide +kernel
theorem dX13_init_652 : decode cX13_init 652 = .ok (.putfield 233, 3) := by decide +kernel
theorem dX13_init_655 : decode cX13_init 655 = .ok (.aload_n 0, 1) := by decide +kernel
theorem dX13_init_656 : decode cX13_init 656 = .ok (.bipush 96, 2) := by decide +kernel
theorem dX13_init_658 : decode cX13_init 658 = .ok (.newarray .int, 2) := by decide +kernel
theorem dX13_init_660 : decode cX13_init 660 = .ok (.putfield 236, 3) := by decide +kernel
theorem dX13_init_663 : decode cX13_init 663 = .ok (.aload_n 0, 1) := by decide +kernel
theorem dX13_init_664 : decode cX13_init 664 = .ok (.bipush 96, 2) := by decide +kernel
theorem dX13_init_666 : decode cX13_init 666 = .ok (.newarray .int, 2) := by decide +kernel
theorem dX13_init_668 : decode cX13_init 668 = .ok (.putfield 239, 3) := by decide +kernel
theorem dX13_init_671 : decode cX13_init 671 = .ok (.aload_n 0, 1) := by decide +kernel
theorem dX13_init_672 : decode cX13_init 672 = .ok (.bipush 96, 2) := by decide +kernel
theorem dX13_init_674 : decode cX13_init 674 = .ok (.newarray .int, 2) := by decide +kernel
theorem dX13_init_676 : decode cX13_init 676 = .ok (.putfield 242, 3) := by decide +kernel
theorem dX13_init_679 : decode cX13_init 679 = .ok (.aload_n 0, 1) := by decide +kernel
theorem dX13_init_680 : decode cX13_init 680 = .ok (.sipush 6000, 3) := by decide +kernel
theorem dX13_init_683 : decode cX13_init 683 = .ok (.newarray .int, 2) := by decide +kernel
theorem dX13_init_685 : decode cX13_init 685 = .ok (.putfield 245, 3) := by decide +kernel
theorem dX13_init_688 : decode cX13_init 688 = .ok (.aload_n 0, 1) := by decide +kernel
theorem dX13_init_689 : decode cX13_init 689 = .ok (.sipush 309, 3) := by decide +kernel
theorem dX13_init_692 : decode cX13_init 692 = .ok (.newarray .int, 2) := by decide +kernel
theorem dX13_init_694 : decode cX13_init 694 = .ok (.putfield 248, 3) := by decide +kernel
theorem dX13_init_697 : decode cX13_init 697 = .ok (.aload_n 0, 1) := by decide +kernel
theorem dX13_init_698 : decode cX13_init 698 = .ok (.sipush 2100, 3) := by decide +kernel
theorem dX13_init_701 : decode cX13_init 701 = .ok (.newarray .int, 2) := by decide +kernel
theorem dX13_init_703 : decode cX13_init 703 = .ok (.putfield 251, 3) := by decide +kernel
theorem dX13_init_706 : decode cX13_init 706 = .ok (.aload_n 0, 1) := by decide +kernel
theorem dX13_init_707 : decode cX13_init 707 = .ok (.sipush 2100, 3) := by decide +kernel
theorem dX13_init_710 : decode cX13_init 710 = .ok (.newarray .int, 2) := by decide +kernel
theorem dX13_init_712 : decode cX13_init 712 = .ok (.putfield 254, 3) := by decide +kernel
theorem dX13_init_715 : decode cX13_init 715 = .ok (.aload_n 0, 1) := by decide +kernel
theorem dX13_init_716 : decode cX13_init 716 = .ok (.iconst (-1), 1) := by decide +kernel
theorem dX13_init_717 : decode cX13_init 717 = .ok (.putfield 257, 3) := by decide +kernel
theorem dX13_init_720 : decode cX13_init 720 = .ok (.aload_n 0, 1) := by decide +kernel
theorem dX13_init_721 : decode cX13_init 721 = .ok (.iconst (-1), 1) := by decide +kernel
theorem dX13_init_722 : decode cX13_init 722 = .ok (.putfield 261, 3) := by decide +kernel
theorem dX13_init_725 : decode cX13_init 725 = .ok (.aload_n 0, 1) := by decide +kernel
theorem dX13_init_726 : decode cX13_init 726 = .ok (.iconst (-1), 1) := by decide +kernel
theorem dX13_init_727 : decode cX13_init 727 = .ok (.putfield 264, 3) := by decide +kernel
theorem dX13_init_730 : decode cX13_init 730 = .ok (.aload_n 0, 1) := by decide +kernel
theorem dX13_init_731 : decode cX13_init 731 = .ok (.sipush 1501, 3) := by decide +kernel
theorem dX13_init_734 : decode cX13_init 734 = .ok (.newarray .boolean, 2) := by decide +kernel
theorem dX13_init_736 : decode cX13_init 736 = .ok (.putfield 267, 3) := by decide +kernel
theorem dX13_init_739 : decode cX13_init 739 = .ok (.aload_n 0, 1) := by decide +kernel
theorem dX13_init_740 : decode cX13_init 740 = .ok (.bipush 30, 2) := by decide +kernel
theorem dX13_init_742 : decode cX13_init 742 = .ok (.newarray .int, 2) := by decide +kernel
theorem dX13_init_744 : decode cX13_init 744 = .ok (.putfield 270, 3) := by decide +kernel
theorem dX13_init_747 : decode cX13_init 747 = .ok (.aload_n 0, 1) := by decide +kernel
theorem dX13_init_748 : decode cX13_init 748 = .ok (.bipush 31, 2) := by decide +kernel
theorem dX13_init_750 : decode cX13_init 750 = .ok (.newarray .int, 2) := by decide +kernel
theorem dX13_init_752 : decode cX13_init 752 = .ok (.putfield 273, 3) := by decide +kernel
theorem dX13_init_755 : decode cX13_init 755 = .ok (.aload_n 0, 1) := by decide +kernel
theorem dX13_init_756 : decode cX13_init 756 = .ok (.bipush 6, 2) := by decide +kernel
theorem dX13_init_758 : decode cX13_init 758 = .ok (.newarray .int, 2) := by decide +kernel
theorem dX13_init_760 : decode cX13_init 760 = .ok (.putfield 276, 3) := by decide +kernel
theorem dX13_init_763 : decode cX13_init 763 = .ok (.aload_n 0, 1) := by decide +kernel
theorem dX13_init_764 : decode cX13_init 764 = .ok (.sipush 2001, 3) := by decide +kernel
theorem dX13_init_767 : decode cX13_init 767 = .ok (.newarray .int, 2) := by decide +kernel
theorem dX13_init_769 : decode cX13_init 769 = .ok (.putfield 279, 3) := by decide +kernel
theorem dX13_init_772 : decode cX13_init 772 = .ok (.aload_n 0, 1) := by decide +kernel
theorem dX13_init_773 : decode cX13_init 773 = .ok (.sipush 2001, 3) := by decide +kernel
theorem dX13_init_776 : decode cX13_init 776 = .ok (.newarray .int, 2) := by decide +kernel
theorem dX13_init_778 : decode cX13_init 778 = .ok (.putfield 282, 3) := by decide +kernel
theorem dX13_init_781 : decode cX13_init 781 = .ok (.aload_n 0, 1) := by decide +kernel
theorem dX13_init_782 : decode cX13_init 782 = .ok (.sipush 2001, 3) := by decide +kernel
theorem dX13_init_785 : decode cX13_init 785 = .ok (.newarray .int, 2) := by decide +kernel
theorem dX13_init_787 : decode cX13_init 787 = .ok (.putfield 285, 3) := by decide +kernel
theorem dX13_init_790 : decode cX13_init 790 = .ok (.aload_n 0, 1) := by decide +kernel
theorem dX13_init_791 : decode cX13_init 791 = .ok (.sipush 20000, 3) := by decide +kernel
theorem dX13_init_794 : decode cX13_init 794 = .ok (.newarray .int, 2) := by decide +kernel
theorem dX13_init_796 : decode cX13_init 796 = .ok (.putfield 288, 3) := by decide +kernel
theorem dX13_init_799 : decode cX13_init 799 = .ok (.aload_n 0, 1) := by decide +kernel
theorem dX13_init_800 : decode cX13_init 800 = .ok (.sipush 1000, 3) := by decide +kernel
theorem dX13_init_803 : decode cX13_init 803 = .ok (.newarray .int, 2) := by decide +kernel
theorem dX13_init_805 : decode cX13_init 805 = .ok (.putfield 291, 3) := by decide +kernel
theorem dX13_init_808 : decode cX13_init 808 = .ok (.aload_n 0, 1) := by decide +kernel
theorem dX13_init_809 : decode cX13_init 809 = .ok (.bipush 60, 2) := by decide +kernel
theorem dX13_init_811 : decode cX13_init 811 = .ok (.newarray .int, 2) := by decide +kernel
theorem dX13_init_813 : decode cX13_init 813 = .ok (.putfield 294, 3) := by decide +kernel
theorem dX13_init_816 : decode cX13_init 816 = .ok (.aload_n 0, 1) := by decide +kernel
theorem dX13_init_817 : decode cX13_init 817 = .ok (.bipush 60, 2) := by decide +kernel
theorem dX13_init_819 : decode cX13_init 819 = .ok (.newarray .int, 2) := by decide +kernel
theorem dX13_init_821 : decode cX13_init 821 = .ok (.putfield 297, 3) := by decide +kernel
theorem dX13_init_824 : decode cX13_init 824 = .ok (.aload_n 0, 1) := by decide +kernel
theorem dX13_init_825 : decode cX13_init 825 = .ok (.bipush 60, 2) := by decide +kernel
theorem dX13_init_827 : decode cX13_init 827 = .ok (.newarray .int, 2) := by decide +kernel
theorem dX13_init_829 : decode cX13_init 829 = .ok (.putfield 300, 3) := by decide +kernel
theorem dX13_init_832 : decode cX13_init 832 = .ok (.aload_n 0, 1) := by decide +kernel
theorem dX13_init_833 : decode cX13_init 833 = .ok (.bipush 60, 2) := by decide +kernel
theorem dX13_init_835 : decode cX13_init 835 = .ok (.newarray .int, 2) := by decide +kernel
theorem dX13_init_837 : decode cX13_init 837 = .ok (.putfield 303, 3) := by decide +kernel
theorem dX13_init_840 : decode cX13_init 840 = .ok (.aload_n 0, 1) := by decide +kernel
theorem dX13_init_841 : decode cX13_init 841 = .ok (.sipush 3600, 3) := by decide +kernel
theorem dX13_init_844 : decode cX13_init 844 = .ok (.newarray .int, 2) := by decide +kernel
theorem dX13_init_846 : decode cX13_init 846 = .ok (.putfield 306, 3) := by decide +kernel
theorem dX13_init_849 : decode cX13_init 849 = .ok (.aload_n 0, 1) := by decide +kernel
theorem dX13_init_850 : decode cX13_init 850 = .ok (.invokevirtual 309, 3) := by decide +kernel
theorem dX13_init_853 : decode cX13_init 853 = .ok (.return_, 1) := by decide +kernel
theorem dX13_clear_0 : decode cX13_clear 0 = .ok (.aload_n 0, 1) := by decide +kernel
theorem dX13_clear_1 : decode cX13_clear 1 = .ok (.iconst 0, 1) := by decide +kernel
theorem dX13_clear_2 : decode cX13_clear 2 = .ok (.putfield 833, 3) := by decide +kernel
theorem dX13_clear_5 : decode cX13_clear 5 = .ok (.aload_n 0, 1) := by decide +kernel
theorem dX13_clear_6 : decode cX13_clear 6 = .ok (.iconst 0, 1) := by decide +kernel
theorem dX13_clear_7 : decode cX13_clear 7 = .ok (.putfield 855, 3) := by decide +kernel
theorem dX13_clear_10 : decode cX13_clear 10 = .ok (.aload_n 0, 1) := by decide +kernel
theorem dX13_clear_11 : decode cX13_clear 11 = .ok (.iconst 0, 1) := by decide +kernel
theorem dX13_clear_12 : decode cX13_clear 12 = .ok (.putfield 858, 3) := by decide +kernel
theorem dX13_clear_15 : decode cX13_clear 15 = .ok (.return_, 1) := by decide +kernel
theorem uX13_clear_X13 : ∀ w ∈ u_ws RX13 TX13 155, w ∈ wsX13_clear := fun w h => List.mem_cons_of_mem _ (List.mem_append_right _ h)
theorem uX13_init_X13 : ∀ w ∈ u_ws RX13 TX13 155, w ∈ wsX13_init := fun w h => List.mem_cons_of_mem _ (List.mem_append_right _ h)
