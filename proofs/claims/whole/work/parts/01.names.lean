theorem goodIn_r {big : List Cond} (ws : List Cond) (ps : List Nat) (hp : ws = ps.filterMap (fun i => big[i]?)) (h : ws.all goodWord = true) : GoodIn big ws := by
  intro w hw
  have h1 := List.all_eq_true.mp h w hw
  rw [hp] at hw
  obtain ⟨i, -, hi⟩ := List.mem_filterMap.mp hw
  have hm : w ∈ big := by first | exact List.mem_of_getElem? hi | exact List.getElem?_mem hi
  exact ⟨hm, good_of_word h1⟩
theorem goodIn_app {big a b : List Cond} (ha : GoodIn big a) (hb : GoodIn big b) : GoodIn big (a ++ b) := fun w h => (List.mem_append.mp h).elim (ha w) (hb w)
theorem goodIn_ca {big a b : List Cond} {c : Cond} (ha : GoodIn big (c :: a)) (hb : GoodIn big b) : GoodIn big (c :: (a ++ b)) := fun w h => (List.mem_cons.mp h).elim (fun e => ha w (List.mem_cons.mpr (Or.inl e))) (fun h => (List.mem_append.mp h).elim (fun h => ha w (List.mem_cons.mpr (Or.inr h))) (hb w))
theorem goodIn_sub {big ws : List Cond} (hm : ∀ w ∈ ws, w ∈ big) (h : ws.all goodWord = true) : GoodIn big ws := fun w hw => ⟨hm w hw, good_of_word (List.all_eq_true.mp h w hw)⟩
def RX0 : String := "ClassMill$Bodies"
def TX0 : u_T := fun k => match k with
  | 0 => ("ClassMill$Bodies", "text", "LClassMill$Text;", true)
  | 1 => ("ClassMill$Bodies", "heads", "LClassMill$Heads;", true)
  | 2 => ("ClassMill$Bodies", "kin", "LClassMill$Kin;", true)
  | 3 => ("ClassMill$Bodies", "pool", "LClassMill$Pool;", true)
  | 4 => ("ClassMill$Bodies", "code", "LClassMill$Code;", true)
  | 5 => ("ClassMill$Bodies", "values", "LClassMill$Values;", true)
  | 6 => ("ClassMill$Bodies", "images", "[[B", true)
  | 7 => ("ClassMill$Bodies", "muchAt", "I", false)
  | 8 => ("ClassMill$Bodies", "result", "I", false)
  | 9 => ("ClassMill$Bodies", "loopAt", "I", false)
  | 10 => ("ClassMill$Bodies", "loopSight", "I", false)
  | 11 => ("ClassMill$Bodies", "breaks", "[I", true)
  | _ => ("ClassMill$Bodies", "breakCount", "I", false)
def tyX0 : Nat → FieldType := fun k => match k with
  | 0 => .object "ClassMill$Text"
  | 1 => .object "ClassMill$Heads"
  | 2 => .object "ClassMill$Kin"
  | 3 => .object "ClassMill$Pool"
  | 4 => .object "ClassMill$Code"
  | 5 => .object "ClassMill$Values"
  | 6 => .array (.array .byte)
  | 7 => .int
  | 8 => .int
  | 9 => .int
  | 10 => .int
  | 11 => .array .int
  | _ => .int
abbrev wsX00 : List Cond := u_ws RX0 TX0 13
theorem nmX0 : ∀ a, a < 13 → ∀ b, b < 13 → a ≠ b → (TX0 a).2.1 ≠ (TX0 b).2.1 := by decide +kernel
theorem tyX0_ok : ∀ k, k < 13 → parseFieldDescriptor (TX0 k).2.2.1 = some (tyX0 k) := by decide +kernel
abbrev cX0_init : ByteArray := prog_2_method_1_code
def yX0_init : MethodName := ⟨RX0, "<init>", "(LClassMill$Text;LClassMill$Heads;)V"⟩
def RX1 : String := "ClassMill$Code"
def TX1 : u_T := fun k => match k with
  | 0 => ("ClassMill$Code", "bytes", "[B", true)
  | 1 => ("ClassMill$Code", "length", "I", false)
  | 2 => ("ClassMill$Code", "stack", "[I", true)
  | 3 => ("ClassMill$Code", "height", "I", false)
  | 4 => ("ClassMill$Code", "mostHeight", "I", false)
  | 5 => ("ClassMill$Code", "localName", "[I", true)
  | 6 => ("ClassMill$Code", "localType", "[I", true)
  | 7 => ("ClassMill$Code", "sight", "I", false)
  | 8 => ("ClassMill$Code", "mostLocals", "I", false)
  | 9 => ("ClassMill$Code", "handlers", "[I", true)
  | 10 => ("ClassMill$Code", "handlerCount", "I", false)
  | 11 => ("ClassMill$Code", "framePlace", "[I", true)
  | 12 => ("ClassMill$Code", "frameRow", "[I", true)
  | 13 => ("ClassMill$Code", "frameOrder", "[I", true)
  | 14 => ("ClassMill$Code", "frameCount", "I", false)
  | _ => ("ClassMill$Code", "full", "Z", false)
def tyX1 : Nat → FieldType := fun k => match k with
  | 0 => .array .byte
  | 1 => .int
  | 2 => .array .int
  | 3 => .int
  | 4 => .int
  | 5 => .array .int
  | 6 => .array .int
  | 7 => .int
  | 8 => .int
  | 9 => .array .int
  | 10 => .int
  | 11 => .array .int
  | 12 => .array .int
  | 13 => .array .int
  | 14 => .int
  | _ => .boolean
abbrev wsX10 : List Cond := u_ws RX1 TX1 16
theorem nmX1 : ∀ a, a < 16 → ∀ b, b < 16 → a ≠ b → (TX1 a).2.1 ≠ (TX1 b).2.1 := by decide +kernel
theorem tyX1_ok : ∀ k, k < 16 → parseFieldDescriptor (TX1 k).2.2.1 = some (tyX1 k) := by decide +kernel
abbrev cX1_init : ByteArray := prog_3_method_1_code
def yX1_init : MethodName := ⟨RX1, "<init>", "()V"⟩
def RX2 : String := "ClassMill$Heads"
def TX2 : u_T := fun k => match k with
  | 0 => ("ClassMill$Heads", "text", "LClassMill$Text;", true)
  | 1 => ("ClassMill$Heads", "kin", "LClassMill$Kin;", true)
  | 2 => ("ClassMill$Heads", "classes", "I", false)
  | 3 => ("ClassMill$Heads", "classAt", "[I", true)
  | 4 => ("ClassMill$Heads", "classOfName", "[I", true)
  | 5 => ("ClassMill$Heads", "fields", "[I", true)
  | 6 => ("ClassMill$Heads", "fieldName", "[I", true)
  | 7 => ("ClassMill$Heads", "fieldType", "[I", true)
  | 8 => ("ClassMill$Heads", "fieldKind", "[I", true)
  | 9 => ("ClassMill$Heads", "methods", "[I", true)
  | 10 => ("ClassMill$Heads", "methodAt", "[I", true)
  | 11 => ("ClassMill$Heads", "methodBody", "[I", true)
  | 12 => ("ClassMill$Heads", "methodType", "[I", true)
  | 13 => ("ClassMill$Heads", "methodFixed", "[Z", true)
  | 14 => ("ClassMill$Heads", "methodKind", "[I", true)
  | 15 => ("ClassMill$Heads", "parameters", "[I", true)
  | 16 => ("ClassMill$Heads", "parameterName", "[I", true)
  | 17 => ("ClassMill$Heads", "parameterType", "[I", true)
  | 18 => ("ClassMill$Heads", "typeName", "[I", true)
  | 19 => ("ClassMill$Heads", "kindBytes", "[B", true)
  | _ => ("ClassMill$Heads", "kindSize", "I", false)
def tyX2 : Nat → FieldType := fun k => match k with
  | 0 => .object "ClassMill$Text"
  | 1 => .object "ClassMill$Kin"
  | 2 => .int
  | 3 => .array .int
  | 4 => .array .int
  | 5 => .array .int
  | 6 => .array .int
  | 7 => .array .int
  | 8 => .array .int
  | 9 => .array .int
  | 10 => .array .int
  | 11 => .array .int
  | 12 => .array .int
  | 13 => .array .boolean
  | 14 => .array .int
  | 15 => .array .int
  | 16 => .array .int
  | 17 => .array .int
  | 18 => .array .int
  | 19 => .array .byte
  | _ => .int
abbrev wsX20 : List Cond := u_ws RX2 TX2 21
theorem nmX2 : ∀ a, a < 21 → ∀ b, b < 21 → a ≠ b → (TX2 a).2.1 ≠ (TX2 b).2.1 := by decide +kernel
theorem tyX2_ok : ∀ k, k < 21 → parseFieldDescriptor (TX2 k).2.2.1 = some (tyX2 k) := by decide +kernel
abbrev cX2_init : ByteArray := prog_4_method_1_code
def yX2_init : MethodName := ⟨RX2, "<init>", "(LClassMill$Text;)V"⟩
def RX3 : String := "ClassMill$Image"
def TX3 : u_T := fun k => match k with
  | 0 => ("ClassMill$Image", "bytes", "[B", false)
  | 1 => ("ClassMill$Image", "size", "I", false)
  | 2 => ("ClassMill$Image", "pos", "I", false)
  | 3 => ("ClassMill$Image", "form", "I", false)
  | 4 => ("ClassMill$Image", "tags", "[I", true)
  | 5 => ("ClassMill$Image", "at", "[I", true)
  | 6 => ("ClassMill$Image", "textStop", "[I", true)
  | 7 => ("ClassMill$Image", "constants", "I", false)
  | 8 => ("ClassMill$Image", "selfText", "I", false)
  | 9 => ("ClassMill$Image", "aboveText", "I", false)
  | 10 => ("ClassMill$Image", "fields", "I", false)
  | 11 => ("ClassMill$Image", "field", "[I", true)
  | 12 => ("ClassMill$Image", "methods", "I", false)
  | _ => ("ClassMill$Image", "method", "[I", true)
def tyX3 : Nat → FieldType := fun k => match k with
  | 0 => .array .byte
  | 1 => .int
  | 2 => .int
  | 3 => .int
  | 4 => .array .int
  | 5 => .array .int
  | 6 => .array .int
  | 7 => .int
  | 8 => .int
  | 9 => .int
  | 10 => .int
  | 11 => .array .int
  | 12 => .int
  | _ => .array .int
abbrev wsX30 : List Cond := u_ws RX3 TX3 14
theorem nmX3 : ∀ a, a < 14 → ∀ b, b < 14 → a ≠ b → (TX3 a).2.1 ≠ (TX3 b).2.1 := by decide +kernel
theorem tyX3_ok : ∀ k, k < 14 → parseFieldDescriptor (TX3 k).2.2.1 = some (tyX3 k) := by decide +kernel
abbrev cX3_init : ByteArray := prog_5_method_1_code
def yX3_init : MethodName := ⟨RX3, "<init>", "()V"⟩
def RX4 : String := "ClassMill$Kin"
def TX4 : u_T := fun k => match k with
  | 0 => ("ClassMill$Kin", "above", "[I", true)
  | _ => ("ClassMill$Kin", "under", "[Z", true)
def tyX4 : Nat → FieldType := fun k => match k with
  | 0 => .array .int
  | _ => .array .boolean
abbrev wsX40 : List Cond := u_ws RX4 TX4 2
theorem nmX4 : ∀ a, a < 2 → ∀ b, b < 2 → a ≠ b → (TX4 a).2.1 ≠ (TX4 b).2.1 := by decide +kernel
theorem tyX4_ok : ∀ k, k < 2 → parseFieldDescriptor (TX4 k).2.2.1 = some (tyX4 k) := by decide +kernel
abbrev cX4_init : ByteArray := prog_6_method_1_code
def yX4_init : MethodName := ⟨RX4, "<init>", "()V"⟩
abbrev cX4_forget : ByteArray := prog_6_method_2_code
def yX4_forget : MethodName := ⟨RX4, "forget", "()V"⟩
abbrev cX4_settle : ByteArray := prog_6_method_5_code
def yX4_settle : MethodName := ⟨RX4, "settle", "()V"⟩
def RX5 : String := "ClassMill$Machine"
def TX5 : u_T := fun k => match k with
  | 0 => ("ClassMill$Machine", "space", "LClassMill$Space;", true)
  | 1 => ("ClassMill$Machine", "state", "I", false)
  | 2 => ("ClassMill$Machine", "gave", "I", false)
  | 3 => ("ClassMill$Machine", "steps", "I", false)
  | 4 => ("ClassMill$Machine", "objects", "I", false)
  | 5 => ("ClassMill$Machine", "cells", "I", false)
  | 6 => ("ClassMill$Machine", "depth", "I", false)
  | 7 => ("ClassMill$Machine", "prints", "I", false)
  | 8 => ("ClassMill$Machine", "printed", "[I", true)
  | 9 => ("ClassMill$Machine", "objectType", "[I", true)
  | 10 => ("ClassMill$Machine", "objectAt", "[I", true)
  | 11 => ("ClassMill$Machine", "cell", "[I", true)
  | 12 => ("ClassMill$Machine", "methods", "[I", true)
  | 13 => ("ClassMill$Machine", "places", "[I", true)
  | 14 => ("ClassMill$Machine", "heights", "[I", true)
  | 15 => ("ClassMill$Machine", "locals", "[I", true)
  | 16 => ("ClassMill$Machine", "stack", "[I", true)
  | 17 => ("ClassMill$Machine", "top", "I", false)
  | 18 => ("ClassMill$Machine", "image", "LClassMill$Image;", false)
  | 19 => ("ClassMill$Machine", "code", "I", false)
  | _ => ("ClassMill$Machine", "thrown", "I", false)
def tyX5 : Nat → FieldType := fun k => match k with
  | 0 => .object "ClassMill$Space"
  | 1 => .int
  | 2 => .int
  | 3 => .int
  | 4 => .int
  | 5 => .int
  | 6 => .int
  | 7 => .int
  | 8 => .array .int
  | 9 => .array .int
  | 10 => .array .int
  | 11 => .array .int
  | 12 => .array .int
  | 13 => .array .int
  | 14 => .array .int
  | 15 => .array .int
  | 16 => .array .int
  | 17 => .int
  | 18 => .object "ClassMill$Image"
  | 19 => .int
  | _ => .int
abbrev wsX50 : List Cond := u_ws RX5 TX5 21
theorem nmX5 : ∀ a, a < 21 → ∀ b, b < 21 → a ≠ b → (TX5 a).2.1 ≠ (TX5 b).2.1 := by decide +kernel
theorem tyX5_ok : ∀ k, k < 21 → parseFieldDescriptor (TX5 k).2.2.1 = some (tyX5 k) := by decide +kernel
abbrev cX5_init : ByteArray := prog_7_method_1_code
def yX5_init : MethodName := ⟨RX5, "<init>", "(LClassMill$Space;)V"⟩
def RX6 : String := "ClassMill$Pool"
def TX6 : u_T := fun k => match k with
  | 0 => ("ClassMill$Pool", "text", "LClassMill$Text;", true)
  | 1 => ("ClassMill$Pool", "heads", "LClassMill$Heads;", true)
  | 2 => ("ClassMill$Pool", "tags", "[I", true)
  | 3 => ("ClassMill$Pool", "values", "[I", true)
  | 4 => ("ClassMill$Pool", "count", "I", false)
  | 5 => ("ClassMill$Pool", "full", "Z", false)
  | 6 => ("ClassMill$Pool", "body", "[B", true)
  | _ => ("ClassMill$Pool", "bodySize", "I", false)
def tyX6 : Nat → FieldType := fun k => match k with
  | 0 => .object "ClassMill$Text"
  | 1 => .object "ClassMill$Heads"
  | 2 => .array .int
  | 3 => .array .int
  | 4 => .int
  | 5 => .boolean
  | 6 => .array .byte
  | _ => .int
abbrev wsX60 : List Cond := u_ws RX6 TX6 8
theorem nmX6 : ∀ a, a < 8 → ∀ b, b < 8 → a ≠ b → (TX6 a).2.1 ≠ (TX6 b).2.1 := by decide +kernel
theorem tyX6_ok : ∀ k, k < 8 → parseFieldDescriptor (TX6 k).2.2.1 = some (tyX6 k) := by decide +kernel
abbrev cX6_init : ByteArray := prog_8_method_1_code
def yX6_init : MethodName := ⟨RX6, "<init>", "(LClassMill$Text;LClassMill$Heads;)V"⟩
def RX7 : String := "ClassMill$Space"
def TX7 : u_T := fun k => match k with
  | 0 => ("ClassMill$Space", "kin", "LClassMill$Kin;", true)
  | 1 => ("ClassMill$Space", "images", "[LClassMill$Image;", true)
  | 2 => ("ClassMill$Space", "spare", "LClassMill$Image;", false)
  | 3 => ("ClassMill$Space", "count", "I", false)
  | 4 => ("ClassMill$Space", "verified", "Z", false)
  | 5 => ("ClassMill$Space", "links", "[I", true)
  | 6 => ("ClassMill$Space", "cells", "[I", true)
  | _ => ("ClassMill$Space", "nearest", "[I", true)
def tyX7 : Nat → FieldType := fun k => match k with
  | 0 => .object "ClassMill$Kin"
  | 1 => .array (.object "ClassMill$Image")
  | 2 => .object "ClassMill$Image"
  | 3 => .int
  | 4 => .boolean
  | 5 => .array .int
  | 6 => .array .int
  | _ => .array .int
abbrev wsX70 : List Cond := u_ws RX7 TX7 8
theorem nmX7 : ∀ a, a < 8 → ∀ b, b < 8 → a ≠ b → (TX7 a).2.1 ≠ (TX7 b).2.1 := by decide +kernel
theorem tyX7_ok : ∀ k, k < 8 → parseFieldDescriptor (TX7 k).2.2.1 = some (tyX7 k) := by decide +kernel
abbrev cX7_init : ByteArray := prog_9_method_1_code
def yX7_init : MethodName := ⟨RX7, "<init>", "()V"⟩
def RX8 : String := "ClassMill$Syntax"
def TX8 : u_T := fun k => match k with
  | 0 => ("ClassMill$Syntax", "text", "LClassMill$Text;", true)
  | _ => ("ClassMill$Syntax", "heads", "LClassMill$Heads;", true)
def tyX8 : Nat → FieldType := fun k => match k with
  | 0 => .object "ClassMill$Text"
  | _ => .object "ClassMill$Heads"
abbrev wsX80 : List Cond := u_ws RX8 TX8 2
theorem nmX8 : ∀ a, a < 2 → ∀ b, b < 2 → a ≠ b → (TX8 a).2.1 ≠ (TX8 b).2.1 := by decide +kernel
theorem tyX8_ok : ∀ k, k < 2 → parseFieldDescriptor (TX8 k).2.2.1 = some (tyX8 k) := by decide +kernel
abbrev cX8_init : ByteArray := prog_10_method_1_code
def yX8_init : MethodName := ⟨RX8, "<init>", "(LClassMill$Text;LClassMill$Heads;)V"⟩
def RX9 : String := "ClassMill$Text"
def TX9 : u_T := fun k => match k with
  | 0 => ("ClassMill$Text", "kinds", "[I", true)
  | 1 => ("ClassMill$Text", "places", "[I", true)
  | 2 => ("ClassMill$Text", "values", "[I", true)
  | 3 => ("ClassMill$Text", "count", "I", false)
  | 4 => ("ClassMill$Text", "letters", "[B", true)
  | 5 => ("ClassMill$Text", "nameAt", "[I", true)
  | 6 => ("ClassMill$Text", "sameBucket", "[I", true)
  | 7 => ("ClassMill$Text", "bucket", "[I", true)
  | 8 => ("ClassMill$Text", "knownBucket", "[I", true)
  | 9 => ("ClassMill$Text", "names", "I", false)
  | 10 => ("ClassMill$Text", "pos", "I", false)
  | 11 => ("ClassMill$Text", "fault", "I", false)
  | _ => ("ClassMill$Text", "place", "I", false)
def RX10 : String := "ClassMill$Values"
def TX10 : u_T := fun k => match k with
  | 0 => ("ClassMill$Values", "text", "LClassMill$Text;", true)
  | 1 => ("ClassMill$Values", "heads", "LClassMill$Heads;", true)
  | 2 => ("ClassMill$Values", "kin", "LClassMill$Kin;", true)
  | 3 => ("ClassMill$Values", "code", "LClassMill$Code;", true)
  | 4 => ("ClassMill$Values", "pool", "LClassMill$Pool;", true)
  | 5 => ("ClassMill$Values", "signs", "[I", true)
  | 6 => ("ClassMill$Values", "signAt", "[I", true)
  | 7 => ("ClassMill$Values", "leftFirst", "[I", true)
  | 8 => ("ClassMill$Values", "leftType", "[I", true)
  | 9 => ("ClassMill$Values", "leftJump", "[I", true)
  | 10 => ("ClassMill$Values", "open", "I", false)
  | 11 => ("ClassMill$Values", "form", "I", false)
  | 12 => ("ClassMill$Values", "type", "I", false)
  | 13 => ("ClassMill$Values", "owner", "I", false)
  | 14 => ("ClassMill$Values", "member", "I", false)
  | 15 => ("ClassMill$Values", "first", "I", false)
  | 16 => ("ClassMill$Values", "own", "I", false)
  | 17 => ("ClassMill$Values", "fixed", "Z", false)
  | _ => ("ClassMill$Values", "alone", "I", false)
def tyX10 : Nat → FieldType := fun k => match k with
  | 0 => .object "ClassMill$Text"
  | 1 => .object "ClassMill$Heads"
  | 2 => .object "ClassMill$Kin"
  | 3 => .object "ClassMill$Code"
  | 4 => .object "ClassMill$Pool"
  | 5 => .array .int
  | 6 => .array .int
  | 7 => .array .int
  | 8 => .array .int
  | 9 => .array .int
  | 10 => .int
  | 11 => .int
  | 12 => .int
  | 13 => .int
  | 14 => .int
  | 15 => .int
  | 16 => .int
  | 17 => .boolean
  | _ => .int
abbrev wsX100 : List Cond := u_ws RX10 TX10 19
theorem nmX10 : ∀ a, a < 19 → ∀ b, b < 19 → a ≠ b → (TX10 a).2.1 ≠ (TX10 b).2.1 := by decide +kernel
theorem tyX10_ok : ∀ k, k < 19 → parseFieldDescriptor (TX10 k).2.2.1 = some (tyX10 k) := by decide +kernel
abbrev cX10_init : ByteArray := prog_12_method_1_code
def yX10_init : MethodName := ⟨RX10, "<init>", "(LClassMill$Text;LClassMill$Heads;LClassMill$Code;LClassMill$Pool;)V"⟩
def RX11 : String := "ClassMill$Verifier"
def TX11 : u_T := fun k => match k with
  | 0 => ("ClassMill$Verifier", "space", "LClassMill$Space;", true)
  | 1 => ("ClassMill$Verifier", "kin", "LClassMill$Kin;", true)
  | 2 => ("ClassMill$Verifier", "toldClass", "I", false)
  | 3 => ("ClassMill$Verifier", "toldMethod", "I", false)
  | 4 => ("ClassMill$Verifier", "toldPlace", "I", false)
  | 5 => ("ClassMill$Verifier", "image", "LClassMill$Image;", false)
  | 6 => ("ClassMill$Verifier", "method", "I", false)
  | 7 => ("ClassMill$Verifier", "place", "I", false)
  | 8 => ("ClassMill$Verifier", "classTypes", "[I", true)
  | 9 => ("ClassMill$Verifier", "memberNumber", "[I", true)
  | 10 => ("ClassMill$Verifier", "memberParameters", "[I", true)
  | 11 => ("ClassMill$Verifier", "memberTypes", "[I", true)
  | 12 => ("ClassMill$Verifier", "marks", "[I", true)
  | 13 => ("ClassMill$Verifier", "frames", "[I", true)
  | 14 => ("ClassMill$Verifier", "locals", "[I", true)
  | 15 => ("ClassMill$Verifier", "stack", "[I", true)
  | 16 => ("ClassMill$Verifier", "length", "I", false)
  | 17 => ("ClassMill$Verifier", "mostHeight", "I", false)
  | 18 => ("ClassMill$Verifier", "height", "I", false)
  | 19 => ("ClassMill$Verifier", "fitting", "Z", false)
  | _ => ("ClassMill$Verifier", "result", "I", false)
def tyX11 : Nat → FieldType := fun k => match k with
  | 0 => .object "ClassMill$Space"
  | 1 => .object "ClassMill$Kin"
  | 2 => .int
  | 3 => .int
  | 4 => .int
  | 5 => .object "ClassMill$Image"
  | 6 => .int
  | 7 => .int
  | 8 => .array .int
  | 9 => .array .int
  | 10 => .array .int
  | 11 => .array .int
  | 12 => .array .int
  | 13 => .array .int
  | 14 => .array .int
  | 15 => .array .int
  | 16 => .int
  | 17 => .int
  | 18 => .int
  | 19 => .boolean
  | _ => .int
abbrev wsX110 : List Cond := u_ws RX11 TX11 21
theorem nmX11 : ∀ a, a < 21 → ∀ b, b < 21 → a ≠ b → (TX11 a).2.1 ≠ (TX11 b).2.1 := by decide +kernel
theorem tyX11_ok : ∀ k, k < 21 → parseFieldDescriptor (TX11 k).2.2.1 = some (tyX11 k) := by decide +kernel
abbrev cX11_init : ByteArray := prog_13_method_1_code
def yX11_init : MethodName := ⟨RX11, "<init>", "(LClassMill$Space;)V"⟩
def RX12 : String := "ClassMill"
def TX12 : u_T := fun k => match k with
  | 0 => ("ClassMill", "tape", "[B", true)
  | 1 => ("ClassMill", "taped", "I", false)
  | 2 => ("ClassMill", "text", "LClassMill$Text;", true)
  | 3 => ("ClassMill", "syntax", "LClassMill$Syntax;", true)
  | 4 => ("ClassMill", "heads", "LClassMill$Heads;", true)
  | 5 => ("ClassMill", "bodies", "LClassMill$Bodies;", true)
  | 6 => ("ClassMill", "images", "[[B", true)
  | 7 => ("ClassMill", "imageCount", "I", false)
  | 8 => ("ClassMill", "space", "LClassMill$Space;", true)
  | 9 => ("ClassMill", "verifier", "LClassMill$Verifier;", true)
  | _ => ("ClassMill", "machine", "LClassMill$Machine;", true)
def RX13 : String := "ClassMillModel"
def TX13 : u_T := fun k => match k with
  | 0 => ("ClassMillModel", "tape", "[I", true)
  | 1 => ("ClassMillModel", "taped", "I", false)
  | 2 => ("ClassMillModel", "text", "[I", true)
  | 3 => ("ClassMillModel", "size", "I", false)
  | 4 => ("ClassMillModel", "kind", "[I", true)
  | 5 => ("ClassMillModel", "from", "[I", true)
  | 6 => ("ClassMillModel", "wide", "[I", true)
  | 7 => ("ClassMillModel", "value", "[I", true)
  | 8 => ("ClassMillModel", "tokens", "I", false)
  | 9 => ("ClassMillModel", "fault", "I", false)
  | 10 => ("ClassMillModel", "place", "I", false)
  | 11 => ("ClassMillModel", "node", "[I", true)
  | 12 => ("ClassMillModel", "tok", "[I", true)
  | 13 => ("ClassMillModel", "begun", "[I", true)
  | 14 => ("ClassMillModel", "one", "[I", true)
  | 15 => ("ClassMillModel", "two", "[I", true)
  | 16 => ("ClassMillModel", "three", "[I", true)
  | 17 => ("ClassMillModel", "next", "[I", true)
  | 18 => ("ClassMillModel", "gives", "[I", true)
  | 19 => ("ClassMillModel", "means", "[I", true)
  | 20 => ("ClassMillModel", "slot", "[I", true)
  | 21 => ("ClassMillModel", "inBrackets", "[Z", true)
  | 22 => ("ClassMillModel", "nodes", "I", false)
  | 23 => ("ClassMillModel", "cursor", "I", false)
  | 24 => ("ClassMillModel", "classes", "I", false)
  | 25 => ("ClassMillModel", "className", "[I", true)
  | 26 => ("ClassMillModel", "classExtends", "[I", true)
  | 27 => ("ClassMillModel", "classUpper", "[I", true)
  | 28 => ("ClassMillModel", "members", "I", false)
  | 29 => ("ClassMillModel", "memberClass", "[I", true)
  | 30 => ("ClassMillModel", "memberSort", "[I", true)
  | 31 => ("ClassMillModel", "memberBase", "[I", true)
  | 32 => ("ClassMillModel", "memberBaseToken", "[I", true)
  | 33 => ("ClassMillModel", "memberRow", "[Z", true)
  | 34 => ("ClassMillModel", "memberName", "[I", true)
  | 35 => ("ClassMillModel", "memberType", "[I", true)
  | 36 => ("ClassMillModel", "memberFirst", "[I", true)
  | 37 => ("ClassMillModel", "memberMany", "[I", true)
  | 38 => ("ClassMillModel", "memberBody", "[I", true)
  | 39 => ("ClassMillModel", "parameters", "I", false)
  | 40 => ("ClassMillModel", "parameterBase", "[I", true)
  | 41 => ("ClassMillModel", "parameterBaseToken", "[I", true)
  | 42 => ("ClassMillModel", "parameterRow", "[Z", true)
  | 43 => ("ClassMillModel", "parameterName", "[I", true)
  | 44 => ("ClassMillModel", "parameterType", "[I", true)
  | 45 => ("ClassMillModel", "base", "I", false)
  | 46 => ("ClassMillModel", "baseToken", "I", false)
  | 47 => ("ClassMillModel", "rowed", "Z", false)
  | 48 => ("ClassMillModel", "sightName", "[I", true)
  | 49 => ("ClassMillModel", "sightType", "[I", true)
  | 50 => ("ClassMillModel", "sight", "I", false)
  | 51 => ("ClassMillModel", "method", "I", false)
  | 52 => ("ClassMillModel", "owner", "I", false)
  | 53 => ("ClassMillModel", "still", "Z", false)
  | 54 => ("ClassMillModel", "loops", "I", false)
  | 55 => ("ClassMillModel", "broken", "[Z", true)
  | 56 => ("ClassMillModel", "row", "[I", true)
  | 57 => ("ClassMillModel", "rowTop", "I", false)
  | 58 => ("ClassMillModel", "constantSort", "[I", true)
  | 59 => ("ClassMillModel", "constantOne", "[I", true)
  | 60 => ("ClassMillModel", "constantTwo", "[I", true)
  | 61 => ("ClassMillModel", "constantThree", "[I", true)
  | 62 => ("ClassMillModel", "constants", "I", false)
  | 63 => ("ClassMillModel", "letters", "[I", true)
  | 64 => ("ClassMillModel", "lettered", "I", false)
  | 65 => ("ClassMillModel", "spelled", "[I", true)
  | 66 => ("ClassMillModel", "spells", "I", false)
  | 67 => ("ClassMillModel", "code", "[I", true)
  | 68 => ("ClassMillModel", "length", "I", false)
  | 69 => ("ClassMillModel", "pile", "[I", true)
  | 70 => ("ClassMillModel", "piled", "I", false)
  | 71 => ("ClassMillModel", "pileMost", "I", false)
  | 72 => ("ClassMillModel", "sightMost", "I", false)
  | 73 => ("ClassMillModel", "framePlace", "[I", true)
  | 74 => ("ClassMillModel", "frameAt", "[I", true)
  | 75 => ("ClassMillModel", "frameLocals", "[I", true)
  | 76 => ("ClassMillModel", "frameStack", "[I", true)
  | 77 => ("ClassMillModel", "frameTypes", "[I", true)
  | 78 => ("ClassMillModel", "frames", "I", false)
  | 79 => ("ClassMillModel", "frameWords", "I", false)
  | 80 => ("ClassMillModel", "handlerFrom", "[I", true)
  | 81 => ("ClassMillModel", "handlerTo", "[I", true)
  | 82 => ("ClassMillModel", "handlerAt", "[I", true)
  | 83 => ("ClassMillModel", "handlerClass", "[I", true)
  | 84 => ("ClassMillModel", "handlers", "I", false)
  | 85 => ("ClassMillModel", "jumpAt", "[I", true)
  | 86 => ("ClassMillModel", "jumpLabel", "[I", true)
  | 87 => ("ClassMillModel", "jumps", "I", false)
  | 88 => ("ClassMillModel", "labels", "I", false)
  | 89 => ("ClassMillModel", "loopBegin", "[I", true)
  | 90 => ("ClassMillModel", "loopBehind", "[I", true)
  | 91 => ("ClassMillModel", "images", "[I", true)
  | 92 => ("ClassMillModel", "imageSize", "[I", true)
  | 93 => ("ClassMillModel", "imageMany", "I", false)
  | 94 => ("ClassMillModel", "draft", "[I", true)
  | 95 => ("ClassMillModel", "draftSize", "[I", true)
  | 96 => ("ClassMillModel", "behind", "[I", true)
  | 97 => ("ClassMillModel", "behindSize", "I", false)
  | 98 => ("ClassMillModel", "there", "I", false)
  | 99 => ("ClassMillModel", "verified", "Z", false)
  | 100 => ("ClassMillModel", "bytes", "[I", true)
  | 101 => ("ClassMillModel", "byteMany", "[I", true)
  | 102 => ("ClassMillModel", "constantAt", "[I", true)
  | 103 => ("ClassMillModel", "constantMany", "[I", true)
  | 104 => ("ClassMillModel", "ownClass", "[I", true)
  | 105 => ("ClassMillModel", "ownUpper", "[I", true)
  | 106 => ("ClassMillModel", "fieldMany", "[I", true)
  | 107 => ("ClassMillModel", "fieldAt", "[I", true)
  | 108 => ("ClassMillModel", "methodMany", "[I", true)
  | 109 => ("ClassMillModel", "methodAt", "[I", true)
  | 110 => ("ClassMillModel", "handlersAt", "[I", true)
  | 111 => ("ClassMillModel", "framesAt", "[I", true)
  | 112 => ("ClassMillModel", "look", "[I", true)
  | 113 => ("ClassMillModel", "lookSize", "I", false)
  | 114 => ("ClassMillModel", "form", "I", false)
  | 115 => ("ClassMillModel", "into", "I", false)
  | 116 => ("ClassMillModel", "kept", "[I", true)
  | 117 => ("ClassMillModel", "others", "I", false)
  | 118 => ("ClassMillModel", "otherAt", "[I", true)
  | 119 => ("ClassMillModel", "otherSize", "[I", true)
  | 120 => ("ClassMillModel", "kindEnd", "I", false)
  | 121 => ("ClassMillModel", "found", "I", false)
  | 122 => ("ClassMillModel", "why", "I", false)
  | 123 => ("ClassMillModel", "whyClass", "I", false)
  | 124 => ("ClassMillModel", "whyMethod", "I", false)
  | 125 => ("ClassMillModel", "whyPlace", "I", false)
  | 126 => ("ClassMillModel", "begins", "[Z", true)
  | 127 => ("ClassMillModel", "locals", "[I", true)
  | 128 => ("ClassMillModel", "stack", "[I", true)
  | 129 => ("ClassMillModel", "localMany", "I", false)
  | 130 => ("ClassMillModel", "stackMost", "I", false)
  | 131 => ("ClassMillModel", "stackMany", "I", false)
  | 132 => ("ClassMillModel", "inClass", "I", false)
  | 133 => ("ClassMillModel", "inMethod", "I", false)
  | 134 => ("ClassMillModel", "codeAt", "I", false)
  | 135 => ("ClassMillModel", "codeSize", "I", false)
  | 136 => ("ClassMillModel", "resultAt", "I", false)
  | 137 => ("ClassMillModel", "wants", "[I", true)
  | 138 => ("ClassMillModel", "state", "I", false)
  | 139 => ("ClassMillModel", "gave", "I", false)
  | 140 => ("ClassMillModel", "steps", "I", false)
  | 141 => ("ClassMillModel", "objects", "I", false)
  | 142 => ("ClassMillModel", "fieldsMade", "I", false)
  | 143 => ("ClassMillModel", "printedMany", "I", false)
  | 144 => ("ClassMillModel", "sort", "[I", true)
  | 145 => ("ClassMillModel", "begin", "[I", true)
  | 146 => ("ClassMillModel", "count", "[I", true)
  | 147 => ("ClassMillModel", "values", "[I", true)
  | 148 => ("ClassMillModel", "printed", "[I", true)
  | 149 => ("ClassMillModel", "depth", "I", false)
  | 150 => ("ClassMillModel", "runClass", "[I", true)
  | 151 => ("ClassMillModel", "runMethod", "[I", true)
  | 152 => ("ClassMillModel", "runPlace", "[I", true)
  | 153 => ("ClassMillModel", "runStack", "[I", true)
  | _ => ("ClassMillModel", "cells", "[I", true)
def RJ0 : String := "java/lang/String"
abbrev cJ0_length_8abf5 : ByteArray := prog_18_method_54_code
def yJ0_length_8abf5 : MethodName := ⟨RJ0, "length", "()I"⟩
abbrev cJ0_charAt_5068e : ByteArray := prog_18_method_56_code
def yJ0_charAt_5068e : MethodName := ⟨RJ0, "charAt", "(I)C"⟩
abbrev cJ0_coder_7d493 : ByteArray := prog_18_method_152_code
def yJ0_coder_7d493 : MethodName := ⟨RJ0, "coder", "()B"⟩
abbrev cJ0_isLatin1_aae02 : ByteArray := prog_18_method_154_code
def yJ0_isLatin1_aae02 : MethodName := ⟨RJ0, "isLatin1", "()Z"⟩
abbrev cJ0_checkIndex_df160 : ByteArray := prog_18_method_155_code
def yJ0_checkIndex_df160 : MethodName := ⟨RJ0, "checkIndex", "(II)V"⟩
def RJ1 : String := "java/lang/StringLatin1"
abbrev cJ1_charAt_3b067 : ByteArray := prog_19_method_2_code
def yJ1_charAt_3b067 : MethodName := ⟨RJ1, "charAt", "([BI)C"⟩
def RJ2 : String := "java/lang/StringUTF16"
abbrev cJ2_getChar_3b067 : ByteArray := prog_20_method_5_code
def yJ2_getChar_3b067 : MethodName := ⟨RJ2, "getChar", "([BI)C"⟩
abbrev cJ2_length_9d52b : ByteArray := prog_20_method_6_code
def yJ2_length_9d52b : MethodName := ⟨RJ2, "length", "([B)I"⟩
abbrev cJ2_charAt_3b067 : ByteArray := prog_20_method_83_code
def yJ2_charAt_3b067 : MethodName := ⟨RJ2, "charAt", "([BI)C"⟩
abbrev cJ2_checkIndex_2214a : ByteArray := prog_20_method_91_code
def yJ2_checkIndex_2214a : MethodName := ⟨RJ2, "checkIndex", "(I[B)V"⟩
def RJ7 : String := "java/util/Arrays"
abbrev cJ7_fill_53178 : ByteArray := prog_22_method_103_code
def yJ7_fill_53178 : MethodName := ⟨RJ7, "fill", "([II)V"⟩
def RJ3 : String := "jdk/internal/util/Preconditions"
abbrev cJ3_checkIndex_8e157 : ByteArray := prog_23_method_11_code
def yJ3_checkIndex_8e157 : MethodName := ⟨RJ3, "checkIndex", "(IILjava/util/function/BiFunction;)I"⟩
def wsX1_init : List Cond := .code yX1_init cX1_init 1 none :: ([.methodLink RX1 5 objectInit, .instanceMethod objectInit, .code objectInit ⟨#[0xb1]⟩ 1 none, .arrayClass .byte, .fieldLink RX1 11 "ClassMill$Code" "bytes" "[B", .arrayClass .int, .fieldLink RX1 15 "ClassMill$Code" "stack" "[I", .fieldLink RX1 19 "ClassMill$Code" "localName" "[I", .fieldLink RX1 22 "ClassMill$Code" "localType" "[I", .fieldLink RX1 25 "ClassMill$Code" "handlers" "[I", .fieldLink RX1 28 "ClassMill$Code" "framePlace" "[I", .fieldLink RX1 31 "ClassMill$Code" "frameRow" "[I", .fieldLink RX1 34 "ClassMill$Code" "frameOrder" "[I"] ++ wsX10)
def wsX6_init : List Cond := .code yX6_init cX6_init 3 none :: ([.methodLink RX6 1 objectInit, .instanceMethod objectInit, .code objectInit ⟨#[0xb1]⟩ 1 none, .arrayClass .int, .fieldLink RX6 9 "ClassMill$Pool" "tags" "[I", .fieldLink RX6 13 "ClassMill$Pool" "values" "[I", .arrayClass .byte, .fieldLink RX6 16 "ClassMill$Pool" "body" "[B", .fieldLink RX6 20 "ClassMill$Pool" "text" "LClassMill$Text;", .fieldLink RX6 24 "ClassMill$Pool" "heads" "LClassMill$Heads;"] ++ wsX60)
def wsX10_init : List Cond := .code yX10_init cX10_init 5 none :: ([.methodLink RX10 5 objectInit, .instanceMethod objectInit, .code objectInit ⟨#[0xb1]⟩ 1 none, .arrayClass .int, .fieldLink RX10 13 "ClassMill$Values" "signs" "[I", .fieldLink RX10 17 "ClassMill$Values" "signAt" "[I", .fieldLink RX10 20 "ClassMill$Values" "leftFirst" "[I", .fieldLink RX10 23 "ClassMill$Values" "leftType" "[I", .fieldLink RX10 26 "ClassMill$Values" "leftJump" "[I", .fieldLink RX10 29 "ClassMill$Values" "text" "LClassMill$Text;", .fieldLink RX10 33 "ClassMill$Values" "heads" "LClassMill$Heads;", .fieldLink RX10 37 "ClassMill$Heads" "kin" "LClassMill$Kin;", .fieldLink RX10 43 "ClassMill$Values" "kin" "LClassMill$Kin;", .fieldLink RX10 44 "ClassMill$Values" "code" "LClassMill$Code;", .fieldLink RX10 48 "ClassMill$Values" "pool" "LClassMill$Pool;"] ++ wsX100 ++ wsX20)
def wsX0_init_r1 : List Cond := [Cond.methodLink RX0 5 objectInit, Cond.instanceMethod objectInit, Cond.code objectInit ⟨#[0xb1]⟩ 1 none, Cond.classLink RX0 11 RX1, Cond.instantiable RX1 16, Cond.initialized RX1, Cond.fieldLink RX0 14 "ClassMill$Bodies" "code" "LClassMill$Code;", Cond.classLink RX0 22 "[B", Cond.fieldLink RX0 24 "ClassMill$Bodies" "images" "[[B", Cond.arrayClass .int, Cond.fieldLink RX0 28 "ClassMill$Bodies" "breaks" "[I", Cond.fieldLink RX0 32 "ClassMill$Bodies" "text" "LClassMill$Text;", Cond.fieldLink RX0 36 "ClassMill$Bodies" "heads" "LClassMill$Heads;", Cond.fieldLink RX0 40 "ClassMill$Heads" "kin" "LClassMill$Kin;", Cond.fieldLink RX0 44 "ClassMill$Bodies" "kin" "LClassMill$Kin;", Cond.classLink RX0 45 RX6, Cond.instantiable RX6 8, Cond.initialized RX6, Cond.fieldLink RX0 50 "ClassMill$Bodies" "pool" "LClassMill$Pool;", Cond.classLink RX0 54 RX10, Cond.instantiable RX10 19, Cond.initialized RX10, Cond.fieldLink RX0 59 "ClassMill$Bodies" "values" "LClassMill$Values;", Cond.instanceMethod yX1_init]
def wsX0_init_r2 : List Cond := [Cond.code yX1_init cX1_init 1 none, Cond.methodLink RX1 5 objectInit, Cond.arrayClass .byte, Cond.fieldLink RX1 11 "ClassMill$Code" "bytes" "[B", Cond.fieldLink RX1 15 "ClassMill$Code" "stack" "[I", Cond.fieldLink RX1 19 "ClassMill$Code" "localName" "[I", Cond.fieldLink RX1 22 "ClassMill$Code" "localType" "[I", Cond.fieldLink RX1 25 "ClassMill$Code" "handlers" "[I", Cond.fieldLink RX1 28 "ClassMill$Code" "framePlace" "[I", Cond.fieldLink RX1 31 "ClassMill$Code" "frameRow" "[I", Cond.fieldLink RX1 34 "ClassMill$Code" "frameOrder" "[I", Cond.methodLink RX0 47 yX6_init, Cond.instanceMethod yX6_init, Cond.code yX6_init cX6_init 3 none, Cond.methodLink RX6 1 objectInit, Cond.fieldLink RX6 9 "ClassMill$Pool" "tags" "[I", Cond.fieldLink RX6 13 "ClassMill$Pool" "values" "[I", Cond.fieldLink RX6 16 "ClassMill$Pool" "body" "[B", Cond.fieldLink RX6 20 "ClassMill$Pool" "text" "LClassMill$Text;", Cond.fieldLink RX6 24 "ClassMill$Pool" "heads" "LClassMill$Heads;", Cond.methodLink RX0 56 yX10_init, Cond.instanceMethod yX10_init, Cond.code yX10_init cX10_init 5 none, Cond.methodLink RX10 5 objectInit]
def wsX0_init_r3 : List Cond := [Cond.fieldLink RX10 13 "ClassMill$Values" "signs" "[I", Cond.fieldLink RX10 17 "ClassMill$Values" "signAt" "[I", Cond.fieldLink RX10 20 "ClassMill$Values" "leftFirst" "[I", Cond.fieldLink RX10 23 "ClassMill$Values" "leftType" "[I", Cond.fieldLink RX10 26 "ClassMill$Values" "leftJump" "[I", Cond.fieldLink RX10 29 "ClassMill$Values" "text" "LClassMill$Text;", Cond.fieldLink RX10 33 "ClassMill$Values" "heads" "LClassMill$Heads;", Cond.fieldLink RX10 37 "ClassMill$Heads" "kin" "LClassMill$Kin;", Cond.fieldLink RX10 43 "ClassMill$Values" "kin" "LClassMill$Kin;", Cond.fieldLink RX10 44 "ClassMill$Values" "code" "LClassMill$Code;", Cond.fieldLink RX10 48 "ClassMill$Values" "pool" "LClassMill$Pool;"]
def wsX0_init : List Cond := .code yX0_init cX0_init 3 none :: ((wsX0_init_r1 ++ (wsX0_init_r2 ++ wsX0_init_r3)) ++ wsX10 ++ wsX00 ++ wsX20 ++ wsX60 ++ wsX100)
def wsJ7_fill_53178 : List Cond := .code yJ7_fill_53178 cJ7_fill_53178 4 none :: ([])
def wsX4_settle : List Cond := .code yX4_settle cX4_settle 4 none :: ([.fieldLink RX4 15 "ClassMill$Kin" "under" "[Z", .fieldLink RX4 11 "ClassMill$Kin" "above" "[I"] ++ wsX40)
def wsX4_forget : List Cond := .code yX4_forget cX4_forget 2 none :: ([.fieldLink RX4 11 "ClassMill$Kin" "above" "[I", .methodLink RX4 22 yJ7_fill_53178, .static yJ7_fill_53178, .initialized RJ7, .code yJ7_fill_53178 cJ7_fill_53178 4 none, .methodLink RX4 28 yX4_settle, .instanceMethod yX4_settle, .selects RX4 yX4_settle yX4_settle, .initialized RX4, .code yX4_settle cX4_settle 4 none, .fieldLink RX4 15 "ClassMill$Kin" "under" "[Z"] ++ wsX40)
def wsX4_init : List Cond := .code yX4_init cX4_init 1 none :: ([.methodLink RX4 3 objectInit, .instanceMethod objectInit, .code objectInit ⟨#[0xb1]⟩ 1 none, .arrayClass .int, .fieldLink RX4 11 "ClassMill$Kin" "above" "[I", .arrayClass .boolean, .fieldLink RX4 15 "ClassMill$Kin" "under" "[Z", .methodLink RX4 19 yX4_forget, .instanceMethod yX4_forget, .selects RX4 yX4_forget yX4_forget, .initialized RX4, .code yX4_forget cX4_forget 2 none, .methodLink RX4 22 yJ7_fill_53178, .static yJ7_fill_53178, .initialized RJ7, .code yJ7_fill_53178 cJ7_fill_53178 4 none, .methodLink RX4 28 yX4_settle, .instanceMethod yX4_settle, .selects RX4 yX4_settle yX4_settle, .code yX4_settle cX4_settle 4 none] ++ wsX40)
def wsX2_init_r1 : List Cond := [Cond.methodLink RX2 3 objectInit, Cond.instanceMethod objectInit, Cond.code objectInit ⟨#[0xb1]⟩ 1 none, Cond.classLink RX2 9 RX4, Cond.instantiable RX4 2, Cond.initialized RX4, Cond.fieldLink RX2 12 "ClassMill$Heads" "kin" "LClassMill$Kin;", Cond.arrayClass .int, Cond.fieldLink RX2 18 "ClassMill$Heads" "classAt" "[I", Cond.fieldLink RX2 24 "ClassMill$Heads" "classOfName" "[I", Cond.fieldLink RX2 27 "ClassMill$Heads" "fields" "[I", Cond.fieldLink RX2 30 "ClassMill$Heads" "fieldName" "[I", Cond.fieldLink RX2 33 "ClassMill$Heads" "fieldType" "[I", Cond.fieldLink RX2 36 "ClassMill$Heads" "fieldKind" "[I", Cond.fieldLink RX2 39 "ClassMill$Heads" "methods" "[I", Cond.fieldLink RX2 42 "ClassMill$Heads" "methodAt" "[I", Cond.fieldLink RX2 45 "ClassMill$Heads" "methodBody" "[I", Cond.fieldLink RX2 48 "ClassMill$Heads" "methodType" "[I", Cond.arrayClass .boolean, Cond.fieldLink RX2 51 "ClassMill$Heads" "methodFixed" "[Z", Cond.fieldLink RX2 55 "ClassMill$Heads" "methodKind" "[I", Cond.fieldLink RX2 58 "ClassMill$Heads" "parameters" "[I", Cond.fieldLink RX2 61 "ClassMill$Heads" "parameterName" "[I", Cond.fieldLink RX2 64 "ClassMill$Heads" "parameterType" "[I"]
def wsX2_init_r2 : List Cond := [Cond.fieldLink RX2 67 "ClassMill$Heads" "typeName" "[I", Cond.arrayClass .byte, Cond.fieldLink RX2 70 "ClassMill$Heads" "kindBytes" "[B", Cond.fieldLink RX2 74 "ClassMill$Heads" "text" "LClassMill$Text;", Cond.methodLink RX2 11 yX4_init, Cond.instanceMethod yX4_init, Cond.code yX4_init cX4_init 1 none, Cond.methodLink RX4 3 objectInit, Cond.fieldLink RX4 11 "ClassMill$Kin" "above" "[I", Cond.fieldLink RX4 15 "ClassMill$Kin" "under" "[Z", Cond.methodLink RX4 19 yX4_forget, Cond.instanceMethod yX4_forget, Cond.selects RX4 yX4_forget yX4_forget, Cond.code yX4_forget cX4_forget 2 none, Cond.methodLink RX4 22 yJ7_fill_53178, Cond.static yJ7_fill_53178, Cond.initialized RJ7, Cond.code yJ7_fill_53178 cJ7_fill_53178 4 none, Cond.methodLink RX4 28 yX4_settle, Cond.instanceMethod yX4_settle, Cond.selects RX4 yX4_settle yX4_settle, Cond.code yX4_settle cX4_settle 4 none]
def wsX2_init : List Cond := .code yX2_init cX2_init 2 none :: ((wsX2_init_r1 ++ wsX2_init_r2) ++ wsX40 ++ wsX20)
def wsX3_init : List Cond := .code yX3_init cX3_init 1 none :: ([.methodLink RX3 5 objectInit, .instanceMethod objectInit, .code objectInit ⟨#[0xb1]⟩ 1 none, .arrayClass .byte, .fieldLink RX3 11 "ClassMill$Image" "bytes" "[B", .arrayClass .int, .fieldLink RX3 15 "ClassMill$Image" "tags" "[I", .fieldLink RX3 19 "ClassMill$Image" "at" "[I", .fieldLink RX3 22 "ClassMill$Image" "textStop" "[I", .fieldLink RX3 27 "ClassMill$Image" "field" "[I", .fieldLink RX3 30 "ClassMill$Image" "method" "[I"] ++ wsX30)
def wsJ0_coder_7d493 : List Cond := .code yJ0_coder_7d493 cJ0_coder_7d493 1 (some .byte) :: ([.fieldLink RJ0 38 "java/lang/String" "COMPACT_STRINGS" "Z", .fieldLink RJ0 15 "java/lang/String" "coder" "B"])
def wsJ0_length_8abf5 : List Cond := .code yJ0_length_8abf5 cJ0_length_8abf5 1 (some .int) :: ([.fieldLink RJ0 9 "java/lang/String" "value" "[B", .methodLink RJ0 335 yJ0_coder_7d493, .instanceMethod yJ0_coder_7d493, .selects RJ0 yJ0_coder_7d493 yJ0_coder_7d493, .initialized RJ0, .code yJ0_coder_7d493 cJ0_coder_7d493 1 (some .byte), .fieldLink RJ0 38 "java/lang/String" "COMPACT_STRINGS" "Z", .fieldLink RJ0 15 "java/lang/String" "coder" "B"])
def wsJ0_isLatin1_aae02 : List Cond := .code yJ0_isLatin1_aae02 cJ0_isLatin1_aae02 1 (some .boolean) :: ([.fieldLink RJ0 38 "java/lang/String" "COMPACT_STRINGS" "Z", .fieldLink RJ0 15 "java/lang/String" "coder" "B"])
def wsJ3_checkIndex_8e157 : List Cond := .code yJ3_checkIndex_8e157 cJ3_checkIndex_8e157 3 (some .int) :: ([])
def wsJ0_checkIndex_df160 : List Cond := .code yJ0_checkIndex_df160 cJ0_checkIndex_df160 2 none :: ([.fieldLink RJ0 1053 "jdk/internal/util/Preconditions" "SIOOBE_FORMATTER" "Ljava/util/function/BiFunction;", .methodLink RJ0 1059 yJ3_checkIndex_8e157, .static yJ3_checkIndex_8e157, .initialized RJ3, .code yJ3_checkIndex_8e157 cJ3_checkIndex_8e157 3 (some .int)])
def wsJ1_charAt_3b067 : List Cond := .code yJ1_charAt_3b067 cJ1_charAt_3b067 2 (some .char) :: ([.methodLink RJ1 9 yJ0_checkIndex_df160, .static yJ0_checkIndex_df160, .initialized RJ0, .code yJ0_checkIndex_df160 cJ0_checkIndex_df160 2 none, .fieldLink RJ0 1053 "jdk/internal/util/Preconditions" "SIOOBE_FORMATTER" "Ljava/util/function/BiFunction;", .methodLink RJ0 1059 yJ3_checkIndex_8e157, .static yJ3_checkIndex_8e157, .initialized RJ3, .code yJ3_checkIndex_8e157 cJ3_checkIndex_8e157 3 (some .int)])
def wsJ0_charAt_5068e_r1 : List Cond := [Cond.fieldLink RJ0 9 "java/lang/String" "value" "[B", Cond.methodLink RJ0 492 yJ0_isLatin1_aae02, Cond.instanceMethod yJ0_isLatin1_aae02, Cond.selects RJ0 yJ0_isLatin1_aae02 yJ0_isLatin1_aae02, Cond.initialized RJ0, Cond.code yJ0_isLatin1_aae02 cJ0_isLatin1_aae02 1 (some .boolean), Cond.fieldLink RJ0 38 "java/lang/String" "COMPACT_STRINGS" "Z", Cond.fieldLink RJ0 15 "java/lang/String" "coder" "B", Cond.methodLink RJ0 495 yJ1_charAt_3b067, Cond.static yJ1_charAt_3b067, Cond.initialized RJ1, Cond.code yJ1_charAt_3b067 cJ1_charAt_3b067 2 (some .char), Cond.methodLink RJ1 9 yJ0_checkIndex_df160, Cond.static yJ0_checkIndex_df160, Cond.code yJ0_checkIndex_df160 cJ0_checkIndex_df160 2 none, Cond.fieldLink RJ0 1053 "jdk/internal/util/Preconditions" "SIOOBE_FORMATTER" "Ljava/util/function/BiFunction;", Cond.methodLink RJ0 1059 yJ3_checkIndex_8e157, Cond.static yJ3_checkIndex_8e157, Cond.initialized RJ3, Cond.code yJ3_checkIndex_8e157 cJ3_checkIndex_8e157 3 (some .int), Cond.methodLink RJ0 498 yJ2_charAt_3b067, Cond.static yJ2_charAt_3b067, Cond.initialized RJ2, Cond.code yJ2_charAt_3b067 cJ2_charAt_3b067 2 (some .char)]
def wsJ0_charAt_5068e_r2 : List Cond := [Cond.methodLink RJ2 67 yJ2_checkIndex_2214a, Cond.static yJ2_checkIndex_2214a, Cond.code yJ2_checkIndex_2214a cJ2_checkIndex_2214a 2 none, Cond.methodLink RJ2 48 yJ2_length_9d52b, Cond.static yJ2_length_9d52b, Cond.code yJ2_length_9d52b cJ2_length_9d52b 1 (some .int), Cond.methodLink RJ2 414 yJ0_checkIndex_df160, Cond.methodLink RJ2 71 yJ2_getChar_3b067, Cond.static yJ2_getChar_3b067, Cond.code yJ2_getChar_3b067 cJ2_getChar_3b067 2 (some .char), Cond.fieldLink RJ2 44 "java/lang/StringUTF16" "$assertionsDisabled" "Z", Cond.fieldLink RJ2 59 "java/lang/StringUTF16" "HI_BYTE_SHIFT" "I", Cond.fieldLink RJ2 63 "java/lang/StringUTF16" "LO_BYTE_SHIFT" "I"]
def wsJ0_charAt_5068e : List Cond := .code yJ0_charAt_5068e cJ0_charAt_5068e 2 (some .char) :: ((wsJ0_charAt_5068e_r1 ++ wsJ0_charAt_5068e_r2))
def wsX5_init_r1 : List Cond := [Cond.methodLink RX5 5 objectInit, Cond.instanceMethod objectInit, Cond.code objectInit ⟨#[0xb1]⟩ 1 none, Cond.arrayClass .int, Cond.fieldLink RX5 13 "ClassMill$Machine" "printed" "[I", Cond.fieldLink RX5 17 "ClassMill$Machine" "objectType" "[I", Cond.fieldLink RX5 20 "ClassMill$Machine" "objectAt" "[I", Cond.fieldLink RX5 23 "ClassMill$Machine" "cell" "[I", Cond.fieldLink RX5 26 "ClassMill$Machine" "methods" "[I", Cond.fieldLink RX5 29 "ClassMill$Machine" "places" "[I", Cond.fieldLink RX5 32 "ClassMill$Machine" "heights" "[I", Cond.fieldLink RX5 35 "ClassMill$Machine" "locals" "[I", Cond.fieldLink RX5 38 "ClassMill$Machine" "stack" "[I", Cond.fieldLink RX5 41 "ClassMill$Machine" "space" "LClassMill$Space;", Cond.classLink RX5 1 RX3, Cond.instantiable RX3 14, Cond.initialized RX3, Cond.fieldLink RX5 46 "ClassMill$Machine" "image" "LClassMill$Image;", Cond.fieldLink RX5 50 "ClassMill$Machine" "gave" "I", Cond.instanceMethod yX3_init, Cond.code yX3_init cX3_init 1 none, Cond.methodLink RX3 5 objectInit, Cond.arrayClass .byte, Cond.fieldLink RX3 11 "ClassMill$Image" "bytes" "[B"]
def wsX5_init_r2 : List Cond := [Cond.fieldLink RX3 15 "ClassMill$Image" "tags" "[I", Cond.fieldLink RX3 19 "ClassMill$Image" "at" "[I", Cond.fieldLink RX3 22 "ClassMill$Image" "textStop" "[I", Cond.fieldLink RX3 27 "ClassMill$Image" "field" "[I", Cond.fieldLink RX3 30 "ClassMill$Image" "method" "[I"]
def wsX5_init : List Cond := .code yX5_init cX5_init 2 none :: ((wsX5_init_r1 ++ wsX5_init_r2) ++ wsX50 ++ wsX30)
def wsX7_init_r1 : List Cond := [Cond.methodLink RX7 7 objectInit, Cond.instanceMethod objectInit, Cond.code objectInit ⟨#[0xb1]⟩ 1 none, Cond.classLink RX7 13 RX4, Cond.instantiable RX4 2, Cond.initialized RX4, Cond.fieldLink RX7 16 "ClassMill$Space" "kin" "LClassMill$Kin;", Cond.classLink RX7 20 RX3, Cond.fieldLink RX7 22 "ClassMill$Space" "images" "[LClassMill$Image;", Cond.instantiable RX3 14, Cond.initialized RX3, Cond.fieldLink RX7 27 "ClassMill$Space" "spare" "LClassMill$Image;", Cond.arrayClass .int, Cond.fieldLink RX7 31 "ClassMill$Space" "links" "[I", Cond.fieldLink RX7 35 "ClassMill$Space" "cells" "[I", Cond.fieldLink RX7 38 "ClassMill$Space" "nearest" "[I", Cond.methodLink RX7 15 yX4_init, Cond.instanceMethod yX4_init, Cond.code yX4_init cX4_init 1 none, Cond.methodLink RX4 3 objectInit, Cond.fieldLink RX4 11 "ClassMill$Kin" "above" "[I", Cond.arrayClass .boolean, Cond.fieldLink RX4 15 "ClassMill$Kin" "under" "[Z", Cond.methodLink RX4 19 yX4_forget]
def wsX7_init_r2 : List Cond := [Cond.instanceMethod yX4_forget, Cond.selects RX4 yX4_forget yX4_forget, Cond.code yX4_forget cX4_forget 2 none, Cond.methodLink RX4 22 yJ7_fill_53178, Cond.static yJ7_fill_53178, Cond.initialized RJ7, Cond.code yJ7_fill_53178 cJ7_fill_53178 4 none, Cond.methodLink RX4 28 yX4_settle, Cond.instanceMethod yX4_settle, Cond.selects RX4 yX4_settle yX4_settle, Cond.code yX4_settle cX4_settle 4 none, Cond.instanceMethod yX3_init, Cond.code yX3_init cX3_init 1 none, Cond.methodLink RX3 5 objectInit, Cond.arrayClass .byte, Cond.fieldLink RX3 11 "ClassMill$Image" "bytes" "[B", Cond.fieldLink RX3 15 "ClassMill$Image" "tags" "[I", Cond.fieldLink RX3 19 "ClassMill$Image" "at" "[I", Cond.fieldLink RX3 22 "ClassMill$Image" "textStop" "[I", Cond.fieldLink RX3 27 "ClassMill$Image" "field" "[I", Cond.fieldLink RX3 30 "ClassMill$Image" "method" "[I"]
def wsX7_init : List Cond := .code yX7_init cX7_init 2 none :: ((wsX7_init_r1 ++ wsX7_init_r2) ++ wsX40 ++ wsX70 ++ wsX30)
def wsX8_init : List Cond := .code yX8_init cX8_init 3 none :: ([.methodLink RX8 1 objectInit, .instanceMethod objectInit, .code objectInit ⟨#[0xb1]⟩ 1 none, .fieldLink RX8 7 "ClassMill$Syntax" "text" "LClassMill$Text;", .fieldLink RX8 13 "ClassMill$Syntax" "heads" "LClassMill$Heads;"] ++ wsX80)
def wsX11_init_r1 : List Cond := [Cond.methodLink RX11 5 objectInit, Cond.instanceMethod objectInit, Cond.code objectInit ⟨#[0xb1]⟩ 1 none, Cond.fieldLink RX11 11 "ClassMill$Verifier" "toldClass" "I", Cond.fieldLink RX11 17 "ClassMill$Verifier" "toldMethod" "I", Cond.fieldLink RX11 20 "ClassMill$Verifier" "toldPlace" "I", Cond.arrayClass .int, Cond.fieldLink RX11 23 "ClassMill$Verifier" "classTypes" "[I", Cond.fieldLink RX11 27 "ClassMill$Verifier" "memberNumber" "[I", Cond.fieldLink RX11 30 "ClassMill$Verifier" "memberParameters" "[I", Cond.fieldLink RX11 33 "ClassMill$Verifier" "memberTypes" "[I", Cond.fieldLink RX11 38 "ClassMill$Verifier" "marks" "[I", Cond.fieldLink RX11 41 "ClassMill$Verifier" "frames" "[I", Cond.fieldLink RX11 44 "ClassMill$Verifier" "locals" "[I", Cond.fieldLink RX11 47 "ClassMill$Verifier" "stack" "[I", Cond.fieldLink RX11 50 "ClassMill$Verifier" "space" "LClassMill$Space;", Cond.fieldLink RX11 54 "ClassMill$Space" "kin" "LClassMill$Kin;", Cond.fieldLink RX11 60 "ClassMill$Verifier" "kin" "LClassMill$Kin;", Cond.classLink RX11 36 RX3, Cond.instantiable RX3 14, Cond.initialized RX3, Cond.fieldLink RX11 62 "ClassMill$Verifier" "image" "LClassMill$Image;", Cond.instanceMethod yX3_init, Cond.code yX3_init cX3_init 1 none]
def wsX11_init_r2 : List Cond := [Cond.methodLink RX3 5 objectInit, Cond.arrayClass .byte, Cond.fieldLink RX3 11 "ClassMill$Image" "bytes" "[B", Cond.fieldLink RX3 15 "ClassMill$Image" "tags" "[I", Cond.fieldLink RX3 19 "ClassMill$Image" "at" "[I", Cond.fieldLink RX3 22 "ClassMill$Image" "textStop" "[I", Cond.fieldLink RX3 27 "ClassMill$Image" "field" "[I", Cond.fieldLink RX3 30 "ClassMill$Image" "method" "[I"]
def wsX11_init : List Cond := .code yX11_init cX11_init 2 none :: ((wsX11_init_r1 ++ wsX11_init_r2) ++ wsX110 ++ wsX70 ++ wsX30)
set_option maxRecDepth 20000 in
theorem ggX0_init_X1_init : GoodIn wsX0_init wsX1_init := goodIn_r _ [25, 26, 2, 3, 27, 28, 10, 29, 30, 31, 32, 33, 34, 35, 60, 61, 62, 63, 64, 65, 66, 67, 68, 69, 70, 71, 72, 73, 74, 75] (by decide +kernel) (by decide +kernel)
set_option maxRecDepth 20000 in
theorem gX0_init_X1_init_n13 : GoodIn wsX0_init (wsX1_init) := ggX0_init_X1_init
set_option maxRecDepth 20000 in
theorem ggX0_init_X6_init : GoodIn wsX0_init wsX6_init := goodIn_r _ [38, 39, 2, 3, 10, 40, 41, 27, 42, 43, 44, 110, 111, 112, 113, 114, 115, 116, 117] (by decide +kernel) (by decide +kernel)
set_option maxRecDepth 20000 in
theorem gX0_init_X6_init : GoodIn wsX0_init (wsX6_init) := ggX0_init_X6_init
set_option maxRecDepth 20000 in
theorem ggX0_init_X10_init : GoodIn wsX0_init wsX10_init := goodIn_r _ [47, 48, 2, 3, 10, 49, 50, 51, 52, 53, 54, 55, 56, 57, 58, 59, 118, 119, 120, 121, 122, 123, 124, 125, 126, 127, 128, 129, 130, 131, 132, 133, 134, 135, 136, 89, 90, 91, 92, 93, 94, 95, 96, 97, 98, 99, 100, 101, 102, 103, 104, 105, 106, 107, 108, 109] (by decide +kernel) (by decide +kernel)
set_option maxRecDepth 20000 in
theorem gX0_init_X10_init : GoodIn wsX0_init (wsX10_init) := ggX0_init_X10_init
theorem dX0_init_0 : decode cX0_init 0 = .ok (.aload_n 0, 1) := by decide +kernel
theorem dX0_init_1 : decode cX0_init 1 = .ok (.invokespecial 5, 3) := by decide +kernel
theorem dX0_init_4 : decode cX0_init 4 = .ok (.aload_n 0, 1) := by decide +kernel
theorem dX0_init_5 : decode cX0_init 5 = .ok (.new 11, 3) := by decide +kernel
theorem dX0_init_8 : decode cX0_init 8 = .ok (.dup, 1) := by decide +kernel
theorem dX0_init_9 : decode cX0_init 9 = .ok (.invokespecial 13, 3) := by decide +kernel
theorem dX0_init_12 : decode cX0_init 12 = .ok (.putfield 14, 3) := by decide +kernel
theorem dX0_init_15 : decode cX0_init 15 = .ok (.aload_n 0, 1) := by decide +kernel
theorem dX0_init_16 : decode cX0_init 16 = .ok (.bipush 8, 2) := by decide +kernel
theorem dX0_init_18 : decode cX0_init 18 = .ok (.anewarray 22, 3) := by decide +kernel
theorem dX0_init_21 : decode cX0_init 21 = .ok (.putfield 24, 3) := by decide +kernel
theorem dX0_init_24 : decode cX0_init 24 = .ok (.aload_n 0, 1) := by decide +kernel
theorem dX0_init_25 : decode cX0_init 25 = .ok (.sipush 512, 3) := by decide +kernel
theorem dX0_init_28 : decode cX0_init 28 = .ok (.newarray .int, 2) := by decide +kernel
theorem dX0_init_30 : decode cX0_init 30 = .ok (.putfield 28, 3) := by decide +kernel
theorem dX0_init_33 : decode cX0_init 33 = .ok (.aload_n 0, 1) := by decide +kernel
theorem dX0_init_34 : decode cX0_init 34 = .ok (.aload_n 1, 1) := by decide +kernel
theorem dX0_init_35 : decode cX0_init 35 = .ok (.putfield 32, 3) := by decide +kernel
theorem dX0_init_38 : decode cX0_init 38 = .ok (.aload_n 0, 1) := by decide +kernel
theorem dX0_init_39 : decode cX0_init 39 = .ok (.aload_n 2, 1) := by decide +kernel
theorem dX0_init_40 : decode cX0_init 40 = .ok (.putfield 36, 3) := by decide +kernel
theorem dX0_init_43 : decode cX0_init 43 = .ok (.aload_n 0, 1) := by decide +kernel
theorem dX0_init_44 : decode cX0_init 44 = .ok (.aload_n 2, 1) := by decide +kernel
theorem dX0_init_45 : decode cX0_init 45 = .ok (.getfield 40, 3) := by decide +kernel
theorem dX0_init_48 : decode cX0_init 48 = .ok (.putfield 44, 3) := by decide +kernel
theorem dX0_init_51 : decode cX0_init 51 = .ok (.aload_n 0, 1) := by decide +kernel
theorem dX0_init_52 : decode cX0_init 52 = .ok (.new 45, 3) := by decide +kernel
theorem dX0_init_55 : decode cX0_init 55 = .ok (.dup, 1) := by decide +kernel
theorem dX0_init_56 : decode cX0_init 56 = .ok (.aload_n 1, 1) := by decide +kernel
theorem dX0_init_57 : decode cX0_init 57 = .ok (.aload_n 2, 1) := by decide +kernel
theorem dX0_init_58 : decode cX0_init 58 = .ok (.invokespecial 47, 3) := by decide +kernel
theorem dX0_init_61 : decode cX0_init 61 = .ok (.putfield 50, 3) := by decide +kernel
theorem dX0_init_64 : decode cX0_init 64 = .ok (.aload_n 0, 1) := by decide +kernel
theorem dX0_init_65 : decode cX0_init 65 = .ok (.new 54, 3) := by decide +kernel
theorem dX0_init_68 : decode cX0_init 68 = .ok (.dup, 1) := by decide +kernel
theorem dX0_init_69 : decode cX0_init 69 = .ok (.aload_n 1, 1) := by decide +kernel
theorem dX0_init_70 : decode cX0_init 70 = .ok (.aload_n 2, 1) := by decide +kernel
theorem dX0_init_71 : decode cX0_init 71 = .ok (.aload_n 0, 1) := by decide +kernel
theorem dX0_init_72 : decode cX0_init 72 = .ok (.getfield 14, 3) := by decide +kernel
theorem dX0_init_75 : decode cX0_init 75 = .ok (.aload_n 0, 1) := by decide +kernel
theorem dX0_init_76 : decode cX0_init 76 = .ok (.getfield 50, 3) := by decide +kernel
theorem dX0_init_79 : decode cX0_init 79 = .ok (.invokespecial 56, 3) := by decide +kernel
theorem dX0_init_82 : decode cX0_init 82 = .ok (.putfield 59, 3) := by decide +kernel
theorem dX0_init_85 : decode cX0_init 85 = .ok (.return_, 1) := by decide +kernel
theorem dX1_init_0 : decode cX1_init 0 = .ok (.aload_n 0, 1) := by decide +kernel
theorem dX1_init_1 : decode cX1_init 1 = .ok (.invokespecial 5, 3) := by decide +kernel
theorem dX1_init_4 : decode cX1_init 4 = .ok (.aload_n 0, 1) := by decide +kernel
theorem dX1_init_5 : decode cX1_init 5 = .ok (.sipush 1500, 3) := by decide +kernel
theorem dX1_init_8 : decode cX1_init 8 = .ok (.newarray .byte, 2) := by decide +kernel
theorem dX1_init_10 : decode cX1_init 10 = .ok (.putfield 11, 3) := by decide +kernel
theorem dX1_init_13 : decode cX1_init 13 = .ok (.aload_n 0, 1) := by decide +kernel
theorem dX1_init_14 : decode cX1_init 14 = .ok (.sipush 1024, 3) := by decide +kernel
theorem dX1_init_17 : decode cX1_init 17 = .ok (.newarray .int, 2) := by decide +kernel
theorem dX1_init_19 : decode cX1_init 19 = .ok (.putfield 15, 3) := by decide +kernel
theorem dX1_init_22 : decode cX1_init 22 = .ok (.aload_n 0, 1) := by decide +kernel
theorem dX1_init_23 : decode cX1_init 23 = .ok (.sipush 400, 3) := by decide +kernel
theorem dX1_init_26 : decode cX1_init 26 = .ok (.newarray .int, 2) := by decide +kernel
theorem dX1_init_28 : decode cX1_init 28 = .ok (.putfield 19, 3) := by decide +kernel
theorem dX1_init_31 : decode cX1_init 31 = .ok (.aload_n 0, 1) := by decide +kernel
theorem dX1_init_32 : decode cX1_init 32 = .ok (.sipush 400, 3) := by decide +kernel
theorem dX1_init_35 : decode cX1_init 35 = .ok (.newarray .int, 2) := by decide +kernel
theorem dX1_init_37 : decode cX1_init 37 = .ok (.putfield 22, 3) := by decide +kernel
theorem dX1_init_40 : decode cX1_init 40 = .ok (.aload_n 0, 1) := by decide +kernel
theorem dX1_init_41 : decode cX1_init 41 = .ok (.bipush 80, 2) := by decide +kernel
theorem dX1_init_43 : decode cX1_init 43 = .ok (.newarray .int, 2) := by decide +kernel
theorem dX1_init_45 : decode cX1_init 45 = .ok (.putfield 25, 3) := by decide +kernel
theorem dX1_init_48 : decode cX1_init 48 = .ok (.aload_n 0, 1) := by decide +kernel
theorem dX1_init_49 : decode cX1_init 49 = .ok (.bipush 100, 2) := by decide +kernel
theorem dX1_init_51 : decode cX1_init 51 = .ok (.newarray .int, 2) := by decide +kernel
theorem dX1_init_53 : decode cX1_init 53 = .ok (.putfield 28, 3) := by decide +kernel
theorem dX1_init_56 : decode cX1_init 56 = .ok (.aload_n 0, 1) := by decide +kernel
theorem dX1_init_57 : decode cX1_init 57 = .ok (.sipush 5200, 3) := by decide +kernel
theorem dX1_init_60 : decode cX1_init 60 = .ok (.newarray .int, 2) := by decide +kernel
theorem dX1_init_62 : decode cX1_init 62 = .ok (.putfield 31, 3) := by decide +kernel
theorem dX1_init_65 : decode cX1_init 65 = .ok (.aload_n 0, 1) := by decide +kernel
theorem dX1_init_66 : decode cX1_init 66 = .ok (.bipush 100, 2) := by decide +kernel
theorem dX1_init_68 : decode cX1_init 68 = .ok (.newarray .int, 2) := by decide +kernel
theorem dX1_init_70 : decode cX1_init 70 = .ok (.putfield 34, 3) := by decide +kernel
theorem dX1_init_73 : decode cX1_init 73 = .ok (.return_, 1) := by decide +kernel
set_option maxRecDepth 20000 in
theorem ggX2_init_X4_init : GoodIn wsX2_init wsX4_init := goodIn_r _ [31, 32, 2, 3, 8, 33, 19, 34, 35, 36, 37, 6, 38, 39, 40, 41, 42, 43, 44, 45, 46, 47, 48] (by decide +kernel) (by decide +kernel)
set_option maxRecDepth 20000 in
theorem gX2_init_X4_init : GoodIn wsX2_init (wsX4_init) := ggX2_init_X4_init
theorem dX2_init_0 : decode cX2_init 0 = .ok (.aload_n 0, 1) := by decide +kernel
theorem dX2_init_1 : decode cX2_init 1 = .ok (.invokespecial 3, 3) := by decide +kernel
theorem dX2_init_4 : decode cX2_init 4 = .ok (.aload_n 0, 1) := by decide +kernel
theorem dX2_init_5 : decode cX2_init 5 = .ok (.new 9, 3) := by decide +kernel
theorem dX2_init_8 : decode cX2_init 8 = .ok (.dup, 1) := by decide +kernel
theorem dX2_init_9 : decode cX2_init 9 = .ok (.invokespecial 11, 3) := by decide +kernel
theorem dX2_init_12 : decode cX2_init 12 = .ok (.putfield 12, 3) := by decide +kernel
theorem dX2_init_15 : decode cX2_init 15 = .ok (.aload_n 0, 1) := by decide +kernel
theorem dX2_init_16 : decode cX2_init 16 = .ok (.sipush 400, 3) := by decide +kernel
theorem dX2_init_19 : decode cX2_init 19 = .ok (.newarray .int, 2) := by decide +kernel
theorem dX2_init_21 : decode cX2_init 21 = .ok (.putfield 18, 3) := by decide +kernel
theorem dX2_init_24 : decode cX2_init 24 = .ok (.aload_n 0, 1) := by decide +kernel
theorem dX2_init_25 : decode cX2_init 25 = .ok (.sipush 1600, 3) := by decide +kernel
theorem dX2_init_28 : decode cX2_init 28 = .ok (.newarray .int, 2) := by decide +kernel
theorem dX2_init_30 : decode cX2_init 30 = .ok (.putfield 24, 3) := by decide +kernel
theorem dX2_init_33 : decode cX2_init 33 = .ok (.aload_n 0, 1) := by decide +kernel
theorem dX2_init_34 : decode cX2_init 34 = .ok (.bipush 8, 2) := by decide +kernel
theorem dX2_init_36 : decode cX2_init 36 = .ok (.newarray .int, 2) := by decide +kernel
theorem dX2_init_38 : decode cX2_init 38 = .ok (.putfield 27, 3) := by decide +kernel
theorem dX2_init_41 : decode cX2_init 41 = .ok (.aload_n 0, 1) := by decide +kernel
theorem dX2_init_42 : decode cX2_init 42 = .ok (.bipush 96, 2) := by decide +kernel
theorem dX2_init_44 : decode cX2_init 44 = .ok (.newarray .int, 2) := by decide +kernel
theorem dX2_init_46 : decode cX2_init 46 = .ok (.putfield 30, 3) := by decide +kernel
theorem dX2_init_49 : decode cX2_init 49 = .ok (.aload_n 0, 1) := by decide +kernel
theorem dX2_init_50 : decode cX2_init 50 = .ok (.bipush 96, 2) := by decide +kernel
theorem dX2_init_52 : decode cX2_init 52 = .ok (.newarray .int, 2) := by decide +kernel
theorem dX2_init_54 : decode cX2_init 54 = .ok (.putfield 33, 3) := by decide +kernel
theorem dX2_init_57 : decode cX2_init 57 = .ok (.aload_n 0, 1) := by decide +kernel
theorem dX2_init_58 : decode cX2_init 58 = .ok (.bipush 96, 2) := by decide +kernel
theorem dX2_init_60 : decode cX2_init 60 = .ok (.newarray .int, 2) := by decide +kernel
theorem dX2_init_62 : decode cX2_init 62 = .ok (.putfield 36, 3) := by decide +kernel
theorem dX2_init_65 : decode cX2_init 65 = .ok (.aload_n 0, 1) := by decide +kernel
theorem dX2_init_66 : decode cX2_init 66 = .ok (.bipush 8, 2) := by decide +kernel
theorem dX2_init_68 : decode cX2_init 68 = .ok (.newarray .int, 2) := by decide +kernel
theorem dX2_init_70 : decode cX2_init 70 = .ok (.putfield 39, 3) := by decide +kernel
theorem dX2_init_73 : decode cX2_init 73 = .ok (.aload_n 0, 1) := by decide +kernel
theorem dX2_init_74 : decode cX2_init 74 = .ok (.bipush 96, 2) := by decide +kernel
theorem dX2_init_76 : decode cX2_init 76 = .ok (.newarray .int, 2) := by decide +kernel
theorem dX2_init_78 : decode cX2_init 78 = .ok (.putfield 42, 3) := by decide +kernel
theorem dX2_init_81 : decode cX2_init 81 = .ok (.aload_n 0, 1) := by decide +kernel
theorem dX2_init_82 : decode cX2_init 82 = .ok (.bipush 96, 2) := by decide +kernel
theorem dX2_init_84 : decode cX2_init 84 = .ok (.newarray .int, 2) := by decide +kernel
theorem dX2_init_86 : decode cX2_init 86 = .ok (.putfield 45, 3) := by decide +kernel
theorem dX2_init_89 : decode cX2_init 89 = .ok (.aload_n 0, 1) := by decide +kernel
theorem dX2_init_90 : decode cX2_init 90 = .ok (.bipush 96, 2) := by decide +kernel
theorem dX2_init_92 : decode cX2_init 92 = .ok (.newarray .int, 2) := by decide +kernel
theorem dX2_init_94 : decode cX2_init 94 = .ok (.putfield 48, 3) := by decide +kernel
theorem dX2_init_97 : decode cX2_init 97 = .ok (.aload_n 0, 1) := by decide +kernel
theorem dX2_init_98 : decode cX2_init 98 = .ok (.bipush 96, 2) := by decide +kernel
theorem dX2_init_100 : decode cX2_init 100 = .ok (.newarray .boolean, 2) := by decide +kernel
theorem dX2_init_102 : decode cX2_init 102 = .ok (.putfield 51, 3) := by decide +kernel
theorem dX2_init_105 : decode cX2_init 105 = .ok (.aload_n 0, 1) := by decide +kernel
theorem dX2_init_106 : decode cX2_init 106 = .ok (.bipush 96, 2) := by decide +kernel
theorem dX2_init_108 : decode cX2_init 108 = .ok (.newarray .int, 2) := by decide +kernel
theorem dX2_init_110 : decode cX2_init 110 = .ok (.putfield 55, 3) := by decide +kernel
theorem dX2_init_113 : decode cX2_init 113 = .ok (.aload_n 0, 1) := by decide +kernel
theorem dX2_init_114 : decode cX2_init 114 = .ok (.bipush 96, 2) := by decide +kernel
theorem dX2_init_116 : decode cX2_init 116 = .ok (.newarray .int, 2) := by decide +kernel
theorem dX2_init_118 : decode cX2_init 118 = .ok (.putfield 58, 3) := by decide +kernel
theorem dX2_init_121 : decode cX2_init 121 = .ok (.aload_n 0, 1) := by decide +kernel
theorem dX2_init_122 : decode cX2_init 122 = .ok (.sipush 576, 3) := by decide +kernel
theorem dX2_init_125 : decode cX2_init 125 = .ok (.newarray .int, 2) := by decide +kernel
theorem dX2_init_127 : decode cX2_init 127 = .ok (.putfield 61, 3) := by decide +kernel
theorem dX2_init_130 : decode cX2_init 130 = .ok (.aload_n 0, 1) := by decide +kernel
theorem dX2_init_131 : decode cX2_init 131 = .ok (.sipush 576, 3) := by decide +kernel
theorem dX2_init_134 : decode cX2_init 134 = .ok (.newarray .int, 2) := by decide +kernel
theorem dX2_init_136 : decode cX2_init 136 = .ok (.putfield 64, 3) := by decide +kernel
theorem dX2_init_139 : decode cX2_init 139 = .ok (.aload_n 0, 1) := by decide +kernel
theorem dX2_init_140 : decode cX2_init 140 = .ok (.bipush 32, 2) := by decide +kernel
theorem dX2_init_142 : decode cX2_init 142 = .ok (.newarray .int, 2) := by decide +kernel
theorem dX2_init_144 : decode cX2_init 144 = .ok (.putfield 67, 3) := by decide +kernel
theorem dX2_init_147 : decode cX2_init 147 = .ok (.aload_n 0, 1) := by decide +kernel
theorem dX2_init_148 : decode cX2_init 148 = .ok (.sipush 128, 3) := by decide +kernel
theorem dX2_init_151 : decode cX2_init 151 = .ok (.newarray .byte, 2) := by decide +kernel
theorem dX2_init_153 : decode cX2_init 153 = .ok (.putfield 70, 3) := by decide +kernel
theorem dX2_init_156 : decode cX2_init 156 = .ok (.aload_n 0, 1) := by decide +kernel
theorem dX2_init_157 : decode cX2_init 157 = .ok (.aload_n 1, 1) := by decide +kernel
theorem dX2_init_158 : decode cX2_init 158 = .ok (.putfield 74, 3) := by decide +kernel
theorem dX2_init_161 : decode cX2_init 161 = .ok (.return_, 1) := by decide +kernel
theorem dX3_init_0 : decode cX3_init 0 = .ok (.aload_n 0, 1) := by decide +kernel
theorem dX3_init_1 : decode cX3_init 1 = .ok (.invokespecial 5, 3) := by decide +kernel
theorem dX3_init_4 : decode cX3_init 4 = .ok (.aload_n 0, 1) := by decide +kernel
theorem dX3_init_5 : decode cX3_init 5 = .ok (.iconst 0, 1) := by decide +kernel
theorem dX3_init_6 : decode cX3_init 6 = .ok (.newarray .byte, 2) := by decide +kernel
theorem dX3_init_8 : decode cX3_init 8 = .ok (.putfield 11, 3) := by decide +kernel
theorem dX3_init_11 : decode cX3_init 11 = .ok (.aload_n 0, 1) := by decide +kernel
theorem dX3_init_12 : decode cX3_init 12 = .ok (.sipush 256, 3) := by decide +kernel
theorem dX3_init_15 : decode cX3_init 15 = .ok (.newarray .int, 2) := by decide +kernel
theorem dX3_init_17 : decode cX3_init 17 = .ok (.putfield 15, 3) := by decide +kernel
theorem dX3_init_20 : decode cX3_init 20 = .ok (.aload_n 0, 1) := by decide +kernel
theorem dX3_init_21 : decode cX3_init 21 = .ok (.sipush 256, 3) := by decide +kernel
theorem dX3_init_24 : decode cX3_init 24 = .ok (.newarray .int, 2) := by decide +kernel
theorem dX3_init_26 : decode cX3_init 26 = .ok (.putfield 19, 3) := by decide +kernel
theorem dX3_init_29 : decode cX3_init 29 = .ok (.aload_n 0, 1) := by decide +kernel
theorem dX3_init_30 : decode cX3_init 30 = .ok (.sipush 256, 3) := by decide +kernel
theorem dX3_init_33 : decode cX3_init 33 = .ok (.newarray .int, 2) := by decide +kernel
theorem dX3_init_35 : decode cX3_init 35 = .ok (.putfield 22, 3) := by decide +kernel
theorem dX3_init_38 : decode cX3_init 38 = .ok (.aload_n 0, 1) := by decide +kernel
theorem dX3_init_39 : decode cX3_init 39 = .ok (.bipush 24, 2) := by decide +kernel
theorem dX3_init_41 : decode cX3_init 41 = .ok (.newarray .int, 2) := by decide +kernel
theorem dX3_init_43 : decode cX3_init 43 = .ok (.putfield 27, 3) := by decide +kernel
theorem dX3_init_46 : decode cX3_init 46 = .ok (.aload_n 0, 1) := by decide +kernel
theorem dX3_init_47 : decode cX3_init 47 = .ok (.sipush 144, 3) := by decide +kernel
theorem dX3_init_50 : decode cX3_init 50 = .ok (.newarray .int, 2) := by decide +kernel
theorem dX3_init_52 : decode cX3_init 52 = .ok (.putfield 30, 3) := by decide +kernel
theorem dX3_init_55 : decode cX3_init 55 = .ok (.return_, 1) := by decide +kernel
set_option maxRecDepth 20000 in
theorem ggX4_init_X4_forget : GoodIn wsX4_init wsX4_forget := goodIn_r _ [12, 5, 13, 14, 15, 16, 17, 18, 19, 11, 20, 7, 21, 22] (by decide +kernel) (by decide +kernel)
set_option maxRecDepth 20000 in
theorem gX4_init_X4_forget : GoodIn wsX4_init (wsV RX4 19 RX4 yX4_forget wsX4_forget) := goodIn_app (goodIn_of _ (by decide +kernel)) ggX4_init_X4_forget
theorem dX4_init_0 : decode cX4_init 0 = .ok (.aload_n 0, 1) := by decide +kernel
theorem dX4_init_1 : decode cX4_init 1 = .ok (.invokespecial 3, 3) := by decide +kernel
theorem dX4_init_4 : decode cX4_init 4 = .ok (.aload_n 0, 1) := by decide +kernel
theorem dX4_init_5 : decode cX4_init 5 = .ok (.bipush 16, 2) := by decide +kernel
theorem dX4_init_7 : decode cX4_init 7 = .ok (.newarray .int, 2) := by decide +kernel
theorem dX4_init_9 : decode cX4_init 9 = .ok (.putfield 11, 3) := by decide +kernel
theorem dX4_init_12 : decode cX4_init 12 = .ok (.aload_n 0, 1) := by decide +kernel
theorem dX4_init_13 : decode cX4_init 13 = .ok (.sipush 256, 3) := by decide +kernel
theorem dX4_init_16 : decode cX4_init 16 = .ok (.newarray .boolean, 2) := by decide +kernel
theorem dX4_init_18 : decode cX4_init 18 = .ok (.putfield 15, 3) := by decide +kernel
theorem dX4_init_21 : decode cX4_init 21 = .ok (.aload_n 0, 1) := by decide +kernel
theorem dX4_init_22 : decode cX4_init 22 = .ok (.invokevirtual 19, 3) := by decide +kernel
theorem dX4_init_25 : decode cX4_init 25 = .ok (.return_, 1) := by decide +kernel
set_option maxRecDepth 20000 in
theorem ggX4_forget_J7_fill_53178 : GoodIn wsX4_forget wsJ7_fill_53178 := goodIn_r _ [5] (by decide +kernel) (by decide +kernel)
set_option maxRecDepth 20000 in
theorem gX4_forget_J7_fill_53178 : GoodIn wsX4_forget (va_wsS RX4 22 yJ7_fill_53178 wsJ7_fill_53178) := goodIn_app (goodIn_of _ (by decide +kernel)) ggX4_forget_J7_fill_53178
set_option maxRecDepth 20000 in
theorem ggX4_forget_X4_settle : GoodIn wsX4_forget wsX4_settle := goodIn_r _ [10, 11, 1, 12, 13] (by decide +kernel) (by decide +kernel)
set_option maxRecDepth 20000 in
theorem gX4_forget_X4_settle : GoodIn wsX4_forget (wsV RX4 28 RX4 yX4_settle wsX4_settle) := goodIn_app (goodIn_of _ (by decide +kernel)) ggX4_forget_X4_settle
theorem dX4_forget_0 : decode cX4_forget 0 = .ok (.aload_n 0, 1) := by decide +kernel
theorem dX4_forget_1 : decode cX4_forget 1 = .ok (.getfield 11, 3) := by decide +kernel
theorem dX4_forget_4 : decode cX4_forget 4 = .ok (.iconst (-1), 1) := by decide +kernel
theorem dX4_forget_5 : decode cX4_forget 5 = .ok (.invokestatic 22, 3) := by decide +kernel
theorem dX4_forget_8 : decode cX4_forget 8 = .ok (.iconst 1, 1) := by decide +kernel
theorem dX4_forget_9 : decode cX4_forget 9 = .ok (.istore_n 1, 1) := by decide +kernel
theorem dX4_forget_10 : decode cX4_forget 10 = .ok (.iload_n 1, 1) := by decide +kernel
theorem dX4_forget_11 : decode cX4_forget 11 = .ok (.bipush 8, 2) := by decide +kernel
theorem dX4_forget_13 : decode cX4_forget 13 = .ok (.if_icmp .ge 25, 3) := by decide +kernel
theorem dX4_forget_16 : decode cX4_forget 16 = .ok (.aload_n 0, 1) := by decide +kernel
theorem dX4_forget_17 : decode cX4_forget 17 = .ok (.getfield 11, 3) := by decide +kernel
theorem dX4_forget_20 : decode cX4_forget 20 = .ok (.iload_n 1, 1) := by decide +kernel
theorem dX4_forget_21 : decode cX4_forget 21 = .ok (.iload_n 1, 1) := by decide +kernel
theorem dX4_forget_22 : decode cX4_forget 22 = .ok (.iconst 1, 1) := by decide +kernel
theorem dX4_forget_23 : decode cX4_forget 23 = .ok (.if_icmp .ne 7, 3) := by decide +kernel
theorem dX4_forget_26 : decode cX4_forget 26 = .ok (.iconst 0, 1) := by decide +kernel
theorem dX4_forget_27 : decode cX4_forget 27 = .ok (.goto 4, 3) := by decide +kernel
theorem dX4_forget_30 : decode cX4_forget 30 = .ok (.iconst 1, 1) := by decide +kernel
theorem dX4_forget_31 : decode cX4_forget 31 = .ok (.iastore, 1) := by decide +kernel
theorem dX4_forget_32 : decode cX4_forget 32 = .ok (.iinc 1 1, 3) := by decide +kernel
theorem dX4_forget_35 : decode cX4_forget 35 = .ok (.goto (-25), 3) := by decide +kernel
theorem dX4_forget_38 : decode cX4_forget 38 = .ok (.aload_n 0, 1) := by decide +kernel
theorem dX4_forget_39 : decode cX4_forget 39 = .ok (.invokevirtual 28, 3) := by decide +kernel
theorem dX4_forget_42 : decode cX4_forget 42 = .ok (.return_, 1) := by decide +kernel
theorem dX4_settle_0 : decode cX4_settle 0 = .ok (.iconst 0, 1) := by decide +kernel
theorem dX4_settle_1 : decode cX4_settle 1 = .ok (.istore_n 1, 1) := by decide +kernel
theorem dX4_settle_2 : decode cX4_settle 2 = .ok (.iload_n 1, 1) := by decide +kernel
theorem dX4_settle_3 : decode cX4_settle 3 = .ok (.bipush 16, 2) := by decide +kernel
theorem dX4_settle_5 : decode cX4_settle 5 = .ok (.if_icmp .ge 80, 3) := by decide +kernel
theorem dX4_settle_8 : decode cX4_settle 8 = .ok (.iconst 0, 1) := by decide +kernel
theorem dX4_settle_9 : decode cX4_settle 9 = .ok (.istore_n 2, 1) := by decide +kernel
theorem dX4_settle_10 : decode cX4_settle 10 = .ok (.iload_n 2, 1) := by decide +kernel
theorem dX4_settle_11 : decode cX4_settle 11 = .ok (.bipush 16, 2) := by decide +kernel
theorem dX4_settle_13 : decode cX4_settle 13 = .ok (.if_icmp .ge 21, 3) := by decide +kernel
theorem dX4_settle_16 : decode cX4_settle 16 = .ok (.aload_n 0, 1) := by decide +kernel
theorem dX4_settle_17 : decode cX4_settle 17 = .ok (.getfield 15, 3) := by decide +kernel
theorem dX4_settle_20 : decode cX4_settle 20 = .ok (.iload_n 1, 1) := by decide +kernel
theorem dX4_settle_21 : decode cX4_settle 21 = .ok (.bipush 16, 2) := by decide +kernel
theorem dX4_settle_23 : decode cX4_settle 23 = .ok (.imul, 1) := by decide +kernel
theorem dX4_settle_24 : decode cX4_settle 24 = .ok (.iload_n 2, 1) := by decide +kernel
theorem dX4_settle_25 : decode cX4_settle 25 = .ok (.iadd, 1) := by decide +kernel
theorem dX4_settle_26 : decode cX4_settle 26 = .ok (.iconst 0, 1) := by decide +kernel
theorem dX4_settle_27 : decode cX4_settle 27 = .ok (.bastore, 1) := by decide +kernel
theorem dX4_settle_28 : decode cX4_settle 28 = .ok (.iinc 2 1, 3) := by decide +kernel
theorem dX4_settle_31 : decode cX4_settle 31 = .ok (.goto (-21), 3) := by decide +kernel
theorem dX4_settle_34 : decode cX4_settle 34 = .ok (.iload_n 1, 1) := by decide +kernel
theorem dX4_settle_35 : decode cX4_settle 35 = .ok (.istore_n 2, 1) := by decide +kernel
theorem dX4_settle_36 : decode cX4_settle 36 = .ok (.iconst 0, 1) := by decide +kernel
theorem dX4_settle_37 : decode cX4_settle 37 = .ok (.istore_n 3, 1) := by decide +kernel
theorem dX4_settle_38 : decode cX4_settle 38 = .ok (.iload_n 3, 1) := by decide +kernel
theorem dX4_settle_39 : decode cX4_settle 39 = .ok (.bipush 16, 2) := by decide +kernel
theorem dX4_settle_41 : decode cX4_settle 41 = .ok (.if_icmp .ge 38, 3) := by decide +kernel
theorem dX4_settle_44 : decode cX4_settle 44 = .ok (.iload_n 2, 1) := by decide +kernel
theorem dX4_settle_45 : decode cX4_settle 45 = .ok (.ifCond .lt 34, 3) := by decide +kernel
theorem dX4_settle_48 : decode cX4_settle 48 = .ok (.iload_n 2, 1) := by decide +kernel
theorem dX4_settle_49 : decode cX4_settle 49 = .ok (.bipush 16, 2) := by decide +kernel
theorem dX4_settle_51 : decode cX4_settle 51 = .ok (.if_icmp .ge 28, 3) := by decide +kernel
theorem dX4_settle_54 : decode cX4_settle 54 = .ok (.aload_n 0, 1) := by decide +kernel
theorem dX4_settle_55 : decode cX4_settle 55 = .ok (.getfield 15, 3) := by decide +kernel
theorem dX4_settle_58 : decode cX4_settle 58 = .ok (.iload_n 1, 1) := by decide +kernel
theorem dX4_settle_59 : decode cX4_settle 59 = .ok (.bipush 16, 2) := by decide +kernel
theorem dX4_settle_61 : decode cX4_settle 61 = .ok (.imul, 1) := by decide +kernel
theorem dX4_settle_62 : decode cX4_settle 62 = .ok (.iload_n 2, 1) := by decide +kernel
theorem dX4_settle_63 : decode cX4_settle 63 = .ok (.iadd, 1) := by decide +kernel
theorem dX4_settle_64 : decode cX4_settle 64 = .ok (.iconst 1, 1) := by decide +kernel
theorem dX4_settle_65 : decode cX4_settle 65 = .ok (.bastore, 1) := by decide +kernel
theorem dX4_settle_66 : decode cX4_settle 66 = .ok (.aload_n 0, 1) := by decide +kernel
theorem dX4_settle_67 : decode cX4_settle 67 = .ok (.getfield 11, 3) := by decide +kernel
theorem dX4_settle_70 : decode cX4_settle 70 = .ok (.iload_n 2, 1) := by decide +kernel
theorem dX4_settle_71 : decode cX4_settle 71 = .ok (.iaload, 1) := by decide +kernel
theorem dX4_settle_72 : decode cX4_settle 72 = .ok (.istore_n 2, 1) := by decide +kernel
theorem dX4_settle_73 : decode cX4_settle 73 = .ok (.iinc 3 1, 3) := by decide +kernel
theorem dX4_settle_76 : decode cX4_settle 76 = .ok (.goto (-38), 3) := by decide +kernel
theorem dX4_settle_79 : decode cX4_settle 79 = .ok (.iinc 1 1, 3) := by decide +kernel
theorem dX4_settle_82 : decode cX4_settle 82 = .ok (.goto (-80), 3) := by decide +kernel
theorem dX4_settle_85 : decode cX4_settle 85 = .ok (.return_, 1) := by decide +kernel
set_option maxRecDepth 20000 in
theorem ggX5_init_X3_init : GoodIn wsX5_init wsX3_init := goodIn_r _ [21, 22, 2, 3, 23, 24, 4, 25, 26, 27, 28, 29, 51, 52, 53, 54, 55, 56, 57, 58, 59, 60, 61, 62, 63, 64] (by decide +kernel) (by decide +kernel)
set_option maxRecDepth 20000 in
theorem gX5_init_X3_init_n45 : GoodIn wsX5_init (wsX3_init) := ggX5_init_X3_init
theorem dX5_init_0 : decode cX5_init 0 = .ok (.aload_n 0, 1) := by decide +kernel
theorem dX5_init_1 : decode cX5_init 1 = .ok (.invokespecial 5, 3) := by decide +kernel
theorem dX5_init_4 : decode cX5_init 4 = .ok (.aload_n 0, 1) := by decide +kernel
theorem dX5_init_5 : decode cX5_init 5 = .ok (.sipush 1000, 3) := by decide +kernel
theorem dX5_init_8 : decode cX5_init 8 = .ok (.newarray .int, 2) := by decide +kernel
theorem dX5_init_10 : decode cX5_init 10 = .ok (.putfield 13, 3) := by decide +kernel
theorem dX5_init_13 : decode cX5_init 13 = .ok (.aload_n 0, 1) := by decide +kernel
theorem dX5_init_14 : decode cX5_init 14 = .ok (.sipush 2001, 3) := by decide +kernel
theorem dX5_init_17 : decode cX5_init 17 = .ok (.newarray .int, 2) := by decide +kernel
theorem dX5_init_19 : decode cX5_init 19 = .ok (.putfield 17, 3) := by decide +kernel
theorem dX5_init_22 : decode cX5_init 22 = .ok (.aload_n 0, 1) := by decide +kernel
theorem dX5_init_23 : decode cX5_init 23 = .ok (.sipush 2002, 3) := by decide +kernel
theorem dX5_init_26 : decode cX5_init 26 = .ok (.newarray .int, 2) := by decide +kernel
theorem dX5_init_28 : decode cX5_init 28 = .ok (.putfield 20, 3) := by decide +kernel
theorem dX5_init_31 : decode cX5_init 31 = .ok (.aload_n 0, 1) := by decide +kernel
theorem dX5_init_32 : decode cX5_init 32 = .ok (.sipush 20000, 3) := by decide +kernel
theorem dX5_init_35 : decode cX5_init 35 = .ok (.newarray .int, 2) := by decide +kernel
theorem dX5_init_37 : decode cX5_init 37 = .ok (.putfield 23, 3) := by decide +kernel
theorem dX5_init_40 : decode cX5_init 40 = .ok (.aload_n 0, 1) := by decide +kernel
theorem dX5_init_41 : decode cX5_init 41 = .ok (.bipush 60, 2) := by decide +kernel
theorem dX5_init_43 : decode cX5_init 43 = .ok (.newarray .int, 2) := by decide +kernel
theorem dX5_init_45 : decode cX5_init 45 = .ok (.putfield 26, 3) := by decide +kernel
theorem dX5_init_48 : decode cX5_init 48 = .ok (.aload_n 0, 1) := by decide +kernel
theorem dX5_init_49 : decode cX5_init 49 = .ok (.bipush 60, 2) := by decide +kernel
theorem dX5_init_51 : decode cX5_init 51 = .ok (.newarray .int, 2) := by decide +kernel
theorem dX5_init_53 : decode cX5_init 53 = .ok (.putfield 29, 3) := by decide +kernel
theorem dX5_init_56 : decode cX5_init 56 = .ok (.aload_n 0, 1) := by decide +kernel
theorem dX5_init_57 : decode cX5_init 57 = .ok (.bipush 60, 2) := by decide +kernel
theorem dX5_init_59 : decode cX5_init 59 = .ok (.newarray .int, 2) := by decide +kernel
theorem dX5_init_61 : decode cX5_init 61 = .ok (.putfield 32, 3) := by decide +kernel
theorem dX5_init_64 : decode cX5_init 64 = .ok (.aload_n 0, 1) := by decide +kernel
theorem dX5_init_65 : decode cX5_init 65 = .ok (.sipush 1800, 3) := by decide +kernel
theorem dX5_init_68 : decode cX5_init 68 = .ok (.newarray .int, 2) := by decide +kernel
theorem dX5_init_70 : decode cX5_init 70 = .ok (.putfield 35, 3) := by decide +kernel
theorem dX5_init_73 : decode cX5_init 73 = .ok (.aload_n 0, 1) := by decide +kernel
theorem dX5_init_74 : decode cX5_init 74 = .ok (.sipush 1800, 3) := by decide +kernel
theorem dX5_init_77 : decode cX5_init 77 = .ok (.newarray .int, 2) := by decide +kernel
theorem dX5_init_79 : decode cX5_init 79 = .ok (.putfield 38, 3) := by decide +kernel
theorem dX5_init_82 : decode cX5_init 82 = .ok (.aload_n 0, 1) := by decide +kernel
theorem dX5_init_83 : decode cX5_init 83 = .ok (.aload_n 1, 1) := by decide +kernel
theorem dX5_init_84 : decode cX5_init 84 = .ok (.putfield 41, 3) := by decide +kernel
theorem dX5_init_87 : decode cX5_init 87 = .ok (.aload_n 0, 1) := by decide +kernel
theorem dX5_init_88 : decode cX5_init 88 = .ok (.new 1, 3) := by decide +kernel
theorem dX5_init_91 : decode cX5_init 91 = .ok (.dup, 1) := by decide +kernel
theorem dX5_init_92 : decode cX5_init 92 = .ok (.invokespecial 45, 3) := by decide +kernel
theorem dX5_init_95 : decode cX5_init 95 = .ok (.putfield 46, 3) := by decide +kernel
theorem dX5_init_98 : decode cX5_init 98 = .ok (.aload_n 0, 1) := by decide +kernel
theorem dX5_init_99 : decode cX5_init 99 = .ok (.iconst (-1), 1) := by decide +kernel
theorem dX5_init_100 : decode cX5_init 100 = .ok (.putfield 50, 3) := by decide +kernel
theorem dX5_init_103 : decode cX5_init 103 = .ok (.return_, 1) := by decide +kernel
theorem dX6_init_0 : decode cX6_init 0 = .ok (.aload_n 0, 1) := by decide +kernel
theorem dX6_init_1 : decode cX6_init 1 = .ok (.invokespecial 1, 3) := by decide +kernel
theorem dX6_init_4 : decode cX6_init 4 = .ok (.aload_n 0, 1) := by decide +kernel
theorem dX6_init_5 : decode cX6_init 5 = .ok (.sipush 201, 3) := by decide +kernel
theorem dX6_init_8 : decode cX6_init 8 = .ok (.newarray .int, 2) := by decide +kernel
theorem dX6_init_10 : decode cX6_init 10 = .ok (.putfield 9, 3) := by decide +kernel
theorem dX6_init_13 : decode cX6_init 13 = .ok (.aload_n 0, 1) := by decide +kernel
theorem dX6_init_14 : decode cX6_init 14 = .ok (.sipush 201, 3) := by decide +kernel
theorem dX6_init_17 : decode cX6_init 17 = .ok (.newarray .int, 2) := by decide +kernel
theorem dX6_init_19 : decode cX6_init 19 = .ok (.putfield 13, 3) := by decide +kernel
theorem dX6_init_22 : decode cX6_init 22 = .ok (.aload_n 0, 1) := by decide +kernel
theorem dX6_init_23 : decode cX6_init 23 = .ok (.sipush 6000, 3) := by decide +kernel
theorem dX6_init_26 : decode cX6_init 26 = .ok (.newarray .byte, 2) := by decide +kernel
theorem dX6_init_28 : decode cX6_init 28 = .ok (.putfield 16, 3) := by decide +kernel
theorem dX6_init_31 : decode cX6_init 31 = .ok (.aload_n 0, 1) := by decide +kernel
theorem dX6_init_32 : decode cX6_init 32 = .ok (.aload_n 1, 1) := by decide +kernel
theorem dX6_init_33 : decode cX6_init 33 = .ok (.putfield 20, 3) := by decide +kernel
theorem dX6_init_36 : decode cX6_init 36 = .ok (.aload_n 0, 1) := by decide +kernel
theorem dX6_init_37 : decode cX6_init 37 = .ok (.aload_n 2, 1) := by decide +kernel
theorem dX6_init_38 : decode cX6_init 38 = .ok (.putfield 24, 3) := by decide +kernel
theorem dX6_init_41 : decode cX6_init 41 = .ok (.return_, 1) := by decide +kernel
set_option maxRecDepth 20000 in
theorem ggX7_init_X4_init : GoodIn wsX7_init wsX4_init := goodIn_r _ [19, 20, 2, 3, 13, 21, 22, 23, 24, 25, 26, 6, 27, 28, 29, 30, 31, 32, 33, 34, 35, 46, 47] (by decide +kernel) (by decide +kernel)
set_option maxRecDepth 20000 in
theorem gX7_init_X4_init : GoodIn wsX7_init (wsX4_init) := ggX7_init_X4_init
set_option maxRecDepth 20000 in
theorem ggX7_init_X3_init : GoodIn wsX7_init wsX3_init := goodIn_r _ [37, 38, 2, 3, 39, 40, 13, 41, 42, 43, 44, 45, 56, 57, 58, 59, 60, 61, 62, 63, 64, 65, 66, 67, 68, 69] (by decide +kernel) (by decide +kernel)
set_option maxRecDepth 20000 in
theorem gX7_init_X3_init_n26 : GoodIn wsX7_init (wsX3_init) := ggX7_init_X3_init
theorem dX7_init_0 : decode cX7_init 0 = .ok (.aload_n 0, 1) := by decide +kernel
theorem dX7_init_1 : decode cX7_init 1 = .ok (.invokespecial 7, 3) := by decide +kernel
theorem dX7_init_4 : decode cX7_init 4 = .ok (.aload_n 0, 1) := by decide +kernel
theorem dX7_init_5 : decode cX7_init 5 = .ok (.new 13, 3) := by decide +kernel
theorem dX7_init_8 : decode cX7_init 8 = .ok (.dup, 1) := by decide +kernel
theorem dX7_init_9 : decode cX7_init 9 = .ok (.invokespecial 15, 3) := by decide +kernel
theorem dX7_init_12 : decode cX7_init 12 = .ok (.putfield 16, 3) := by decide +kernel
theorem dX7_init_15 : decode cX7_init 15 = .ok (.aload_n 0, 1) := by decide +kernel
theorem dX7_init_16 : decode cX7_init 16 = .ok (.bipush 8, 2) := by decide +kernel
theorem dX7_init_18 : decode cX7_init 18 = .ok (.anewarray 20, 3) := by decide +kernel
theorem dX7_init_21 : decode cX7_init 21 = .ok (.putfield 22, 3) := by decide +kernel
theorem dX7_init_24 : decode cX7_init 24 = .ok (.aload_n 0, 1) := by decide +kernel
theorem dX7_init_25 : decode cX7_init 25 = .ok (.new 20, 3) := by decide +kernel
theorem dX7_init_28 : decode cX7_init 28 = .ok (.dup, 1) := by decide +kernel
theorem dX7_init_29 : decode cX7_init 29 = .ok (.invokespecial 26, 3) := by decide +kernel
theorem dX7_init_32 : decode cX7_init 32 = .ok (.putfield 27, 3) := by decide +kernel
theorem dX7_init_35 : decode cX7_init 35 = .ok (.aload_n 0, 1) := by decide +kernel
theorem dX7_init_36 : decode cX7_init 36 = .ok (.sipush 2048, 3) := by decide +kernel
theorem dX7_init_39 : decode cX7_init 39 = .ok (.newarray .int, 2) := by decide +kernel
theorem dX7_init_41 : decode cX7_init 41 = .ok (.putfield 31, 3) := by decide +kernel
theorem dX7_init_44 : decode cX7_init 44 = .ok (.aload_n 0, 1) := by decide +kernel
theorem dX7_init_45 : decode cX7_init 45 = .ok (.bipush 16, 2) := by decide +kernel
theorem dX7_init_47 : decode cX7_init 47 = .ok (.newarray .int, 2) := by decide +kernel
theorem dX7_init_49 : decode cX7_init 49 = .ok (.putfield 35, 3) := by decide +kernel
theorem dX7_init_52 : decode cX7_init 52 = .ok (.aload_n 0, 1) := by decide +kernel
theorem dX7_init_53 : decode cX7_init 53 = .ok (.sipush 768, 3) := by decide +kernel
theorem dX7_init_56 : decode cX7_init 56 = .ok (.newarray .int, 2) := by decide +kernel
theorem dX7_init_58 : decode cX7_init 58 = .ok (.putfield 38, 3) := by decide +kernel
theorem dX7_init_61 : decode cX7_init 61 = .ok (.iconst 0, 1) := by decide +kernel
theorem dX7_init_62 : decode cX7_init 62 = .ok (.istore_n 1, 1) := by decide +kernel
theorem dX7_init_63 : decode cX7_init 63 = .ok (.iload_n 1, 1) := by decide +kernel
theorem dX7_init_64 : decode cX7_init 64 = .ok (.bipush 8, 2) := by decide +kernel
theorem dX7_init_66 : decode cX7_init 66 = .ok (.if_icmp .ge 22, 3) := by decide +kernel
theorem dX7_init_69 : decode cX7_init 69 = .ok (.aload_n 0, 1) := by decide +kernel
theorem dX7_init_70 : decode cX7_init 70 = .ok (.getfield 22, 3) := by decide +kernel
theorem dX7_init_73 : decode cX7_init 73 = .ok (.iload_n 1, 1) := by decide +kernel
theorem dX7_init_74 : decode cX7_init 74 = .ok (.new 20, 3) := by decide +kernel
theorem dX7_init_77 : decode cX7_init 77 = .ok (.dup, 1) := by decide +kernel
theorem dX7_init_78 : decode cX7_init 78 = .ok (.invokespecial 26, 3) := by decide +kernel
theorem dX7_init_81 : decode cX7_init 81 = .ok (.aastore, 1) := by decide +kernel
theorem dX7_init_82 : decode cX7_init 82 = .ok (.iinc 1 1, 3) := by decide +kernel
theorem dX7_init_85 : decode cX7_init 85 = .ok (.goto (-22), 3) := by decide +kernel
theorem dX7_init_88 : decode cX7_init 88 = .ok (.return_, 1) := by decide +kernel
theorem dX8_init_0 : decode cX8_init 0 = .ok (.aload_n 0, 1) := by decide +kernel
theorem dX8_init_1 : decode cX8_init 1 = .ok (.invokespecial 1, 3) := by decide +kernel
theorem dX8_init_4 : decode cX8_init 4 = .ok (.aload_n 0, 1) := by decide +kernel
theorem dX8_init_5 : decode cX8_init 5 = .ok (.aload_n 1, 1) := by decide +kernel
theorem dX8_init_6 : decode cX8_init 6 = .ok (.putfield 7, 3) := by decide +kernel
theorem dX8_init_9 : decode cX8_init 9 = .ok (.aload_n 0, 1) := by decide +kernel
theorem dX8_init_10 : decode cX8_init 10 = .ok (.aload_n 2, 1) := by decide +kernel
theorem dX8_init_11 : decode cX8_init 11 = .ok (.putfield 13, 3) := by decide +kernel
theorem dX8_init_14 : decode cX8_init 14 = .ok (.return_, 1) := by decide +kernel
theorem dX10_init_0 : decode cX10_init 0 = .ok (.aload_n 0, 1) := by decide +kernel
theorem dX10_init_1 : decode cX10_init 1 = .ok (.invokespecial 5, 3) := by decide +kernel
theorem dX10_init_4 : decode cX10_init 4 = .ok (.aload_n 0, 1) := by decide +kernel
theorem dX10_init_5 : decode cX10_init 5 = .ok (.sipush 512, 3) := by decide +kernel
theorem dX10_init_8 : decode cX10_init 8 = .ok (.newarray .int, 2) := by decide +kernel
theorem dX10_init_10 : decode cX10_init 10 = .ok (.putfield 13, 3) := by decide +kernel
theorem dX10_init_13 : decode cX10_init 13 = .ok (.aload_n 0, 1) := by decide +kernel
theorem dX10_init_14 : decode cX10_init 14 = .ok (.sipush 512, 3) := by decide +kernel
theorem dX10_init_17 : decode cX10_init 17 = .ok (.newarray .int, 2) := by decide +kernel
theorem dX10_init_19 : decode cX10_init 19 = .ok (.putfield 17, 3) := by decide +kernel
theorem dX10_init_22 : decode cX10_init 22 = .ok (.aload_n 0, 1) := by decide +kernel
theorem dX10_init_23 : decode cX10_init 23 = .ok (.sipush 512, 3) := by decide +kernel
theorem dX10_init_26 : decode cX10_init 26 = .ok (.newarray .int, 2) := by decide +kernel
theorem dX10_init_28 : decode cX10_init 28 = .ok (.putfield 20, 3) := by decide +kernel
theorem dX10_init_31 : decode cX10_init 31 = .ok (.aload_n 0, 1) := by decide +kernel
theorem dX10_init_32 : decode cX10_init 32 = .ok (.sipush 512, 3) := by decide +kernel
theorem dX10_init_35 : decode cX10_init 35 = .ok (.newarray .int, 2) := by decide +kernel
theorem dX10_init_37 : decode cX10_init 37 = .ok (.putfield 23, 3) := by decide +kernel
theorem dX10_init_40 : decode cX10_init 40 = .ok (.aload_n 0, 1) := by decide +kernel
theorem dX10_init_41 : decode cX10_init 41 = .ok (.sipush 512, 3) := by decide +kernel
theorem dX10_init_44 : decode cX10_init 44 = .ok (.newarray .int, 2) := by decide +kernel
theorem dX10_init_46 : decode cX10_init 46 = .ok (.putfield 26, 3) := by decide +kernel
theorem dX10_init_49 : decode cX10_init 49 = .ok (.aload_n 0, 1) := by decide +kernel
theorem dX10_init_50 : decode cX10_init 50 = .ok (.aload_n 1, 1) := by decide +kernel
theorem dX10_init_51 : decode cX10_init 51 = .ok (.putfield 29, 3) := by decide +kernel
theorem dX10_init_54 : decode cX10_init 54 = .ok (.aload_n 0, 1) := by decide +kernel
theorem dX10_init_55 : decode cX10_init 55 = .ok (.aload_n 2, 1) := by decide +kernel
theorem dX10_init_56 : decode cX10_init 56 = .ok (.putfield 33, 3) := by decide +kernel
theorem dX10_init_59 : decode cX10_init 59 = .ok (.aload_n 0, 1) := by decide +kernel
theorem dX10_init_60 : decode cX10_init 60 = .ok (.aload_n 2, 1) := by decide +kernel
theorem dX10_init_61 : decode cX10_init 61 = .ok (.getfield 37, 3) := by decide +kernel
theorem dX10_init_64 : decode cX10_init 64 = .ok (.putfield 43, 3) := by decide +kernel
theorem dX10_init_67 : decode cX10_init 67 = .ok (.aload_n 0, 1) := by decide +kernel
theorem dX10_init_68 : decode cX10_init 68 = .ok (.aload_n 3, 1) := by decide +kernel
theorem dX10_init_69 : decode cX10_init 69 = .ok (.putfield 44, 3) := by decide +kernel
theorem dX10_init_72 : decode cX10_init 72 = .ok (.aload_n 0, 1) := by decide +kernel
theorem dX10_init_73 : decode cX10_init 73 = .ok (.aload 4, 2) := by decide +kernel
theorem dX10_init_75 : decode cX10_init 75 = .ok (.putfield 48, 3) := by decide +kernel
theorem dX10_init_78 : decode cX10_init 78 = .ok (.return_, 1) := by decide +kernel
set_option maxRecDepth 20000 in
theorem ggX11_init_X3_init : GoodIn wsX11_init wsX3_init := goodIn_r _ [24, 25, 2, 3, 26, 27, 7, 28, 29, 30, 31, 32, 62, 63, 64, 65, 66, 67, 68, 69, 70, 71, 72, 73, 74, 75] (by decide +kernel) (by decide +kernel)
set_option maxRecDepth 20000 in
theorem gX11_init_X3_init_n61 : GoodIn wsX11_init (wsX3_init) := ggX11_init_X3_init
theorem dX11_init_0 : decode cX11_init 0 = .ok (.aload_n 0, 1) := by decide +kernel
theorem dX11_init_1 : decode cX11_init 1 = .ok (.invokespecial 5, 3) := by decide +kernel
theorem dX11_init_4 : decode cX11_init 4 = .ok (.aload_n 0, 1) := by decide +kernel
theorem dX11_init_5 : decode cX11_init 5 = .ok (.iconst (-1), 1) := by decide +kernel
theorem dX11_init_6 : decode cX11_init 6 = .ok (.putfield 11, 3) := by decide +kernel
theorem dX11_init_9 : decode cX11_init 9 = .ok (.aload_n 0, 1) := by decide +kernel
theorem dX11_init_10 : decode cX11_init 10 = .ok (.iconst (-1), 1) := by decide +kernel
theorem dX11_init_11 : decode cX11_init 11 = .ok (.putfield 17, 3) := by decide +kernel
theorem dX11_init_14 : decode cX11_init 14 = .ok (.aload_n 0, 1) := by decide +kernel
theorem dX11_init_15 : decode cX11_init 15 = .ok (.iconst (-1), 1) := by decide +kernel
theorem dX11_init_16 : decode cX11_init 16 = .ok (.putfield 20, 3) := by decide +kernel
theorem dX11_init_19 : decode cX11_init 19 = .ok (.aload_n 0, 1) := by decide +kernel
theorem dX11_init_20 : decode cX11_init 20 = .ok (.sipush 256, 3) := by decide +kernel
theorem dX11_init_23 : decode cX11_init 23 = .ok (.newarray .int, 2) := by decide +kernel
theorem dX11_init_25 : decode cX11_init 25 = .ok (.putfield 23, 3) := by decide +kernel
theorem dX11_init_28 : decode cX11_init 28 = .ok (.aload_n 0, 1) := by decide +kernel
theorem dX11_init_29 : decode cX11_init 29 = .ok (.sipush 256, 3) := by decide +kernel
theorem dX11_init_32 : decode cX11_init 32 = .ok (.newarray .int, 2) := by decide +kernel
theorem dX11_init_34 : decode cX11_init 34 = .ok (.putfield 27, 3) := by decide +kernel
theorem dX11_init_37 : decode cX11_init 37 = .ok (.aload_n 0, 1) := by decide +kernel
theorem dX11_init_38 : decode cX11_init 38 = .ok (.sipush 256, 3) := by decide +kernel
theorem dX11_init_41 : decode cX11_init 41 = .ok (.newarray .int, 2) := by decide +kernel
theorem dX11_init_43 : decode cX11_init 43 = .ok (.putfield 30, 3) := by decide +kernel
theorem dX11_init_46 : decode cX11_init 46 = .ok (.aload_n 0, 1) := by decide +kernel
theorem dX11_init_47 : decode cX11_init 47 = .ok (.sipush 1799, 3) := by decide +kernel
theorem dX11_init_50 : decode cX11_init 50 = .ok (.newarray .int, 2) := by decide +kernel
theorem dX11_init_52 : decode cX11_init 52 = .ok (.putfield 33, 3) := by decide +kernel
theorem dX11_init_55 : decode cX11_init 55 = .ok (.aload_n 0, 1) := by decide +kernel
theorem dX11_init_56 : decode cX11_init 56 = .ok (.sipush 1500, 3) := by decide +kernel
theorem dX11_init_59 : decode cX11_init 59 = .ok (.newarray .int, 2) := by decide +kernel
theorem dX11_init_61 : decode cX11_init 61 = .ok (.putfield 38, 3) := by decide +kernel
theorem dX11_init_64 : decode cX11_init 64 = .ok (.aload_n 0, 1) := by decide +kernel
theorem dX11_init_65 : decode cX11_init 65 = .ok (.sipush 6400, 3) := by decide +kernel
theorem dX11_init_68 : decode cX11_init 68 = .ok (.newarray .int, 2) := by decide +kernel
theorem dX11_init_70 : decode cX11_init 70 = .ok (.putfield 41, 3) := by decide +kernel
theorem dX11_init_73 : decode cX11_init 73 = .ok (.aload_n 0, 1) := by decide +kernel
theorem dX11_init_74 : decode cX11_init 74 = .ok (.bipush 30, 2) := by decide +kernel
theorem dX11_init_76 : decode cX11_init 76 = .ok (.newarray .int, 2) := by decide +kernel
theorem dX11_init_78 : decode cX11_init 78 = .ok (.putfield 44, 3) := by decide +kernel
theorem dX11_init_81 : decode cX11_init 81 = .ok (.aload_n 0, 1) := by decide +kernel
theorem dX11_init_82 : decode cX11_init 82 = .ok (.bipush 30, 2) := by decide +kernel
theorem dX11_init_84 : decode cX11_init 84 = .ok (.newarray .int, 2) := by decide +kernel
theorem dX11_init_86 : decode cX11_init 86 = .ok (.putfield 47, 3) := by decide +kernel
theorem dX11_init_89 : decode cX11_init 89 = .ok (.aload_n 0, 1) := by decide +kernel
theorem dX11_init_90 : decode cX11_init 90 = .ok (.aload_n 1, 1) := by decide +kernel
theorem dX11_init_91 : decode cX11_init 91 = .ok (.putfield 50, 3) := by decide +kernel
theorem dX11_init_94 : decode cX11_init 94 = .ok (.aload_n 0, 1) := by decide +kernel
theorem dX11_init_95 : decode cX11_init 95 = .ok (.aload_n 1, 1) := by decide +kernel
theorem dX11_init_96 : decode cX11_init 96 = .ok (.getfield 54, 3) := by decide +kernel
theorem dX11_init_99 : decode cX11_init 99 = .ok (.putfield 60, 3) := by decide +kernel
theorem dX11_init_102 : decode cX11_init 102 = .ok (.aload_n 0, 1) := by decide +kernel
theorem dX11_init_103 : decode cX11_init 103 = .ok (.new 36, 3) := by decide +kernel
theorem dX11_init_106 : decode cX11_init 106 = .ok (.dup, 1) := by decide +kernel
theorem dX11_init_107 : decode cX11_init 107 = .ok (.invokespecial 61, 3) := by decide +kernel
theorem dX11_init_110 : decode cX11_init 110 = .ok (.putfield 62, 3) := by decide +kernel
theorem dX11_init_113 : decode cX11_init 113 = .ok (.return_, 1) := by decide +kernel
set_option maxRecDepth 20000 in
theorem ggJ0_length_8abf5_J0_coder_7d493 : GoodIn wsJ0_length_8abf5 wsJ0_coder_7d493 := goodIn_r _ [6, 7, 8] (by decide +kernel) (by decide +kernel)
set_option maxRecDepth 20000 in
theorem gJ0_length_8abf5_J0_coder_7d493 : GoodIn wsJ0_length_8abf5 (wsV RJ0 335 RJ0 yJ0_coder_7d493 wsJ0_coder_7d493) := goodIn_app (goodIn_of _ (by decide +kernel)) ggJ0_length_8abf5_J0_coder_7d493
theorem dJ0_length_8abf5_0 : decode cJ0_length_8abf5 0 = .ok (.aload_n 0, 1) := by decide +kernel
theorem dJ0_length_8abf5_1 : decode cJ0_length_8abf5 1 = .ok (.getfield 9, 3) := by decide +kernel
theorem dJ0_length_8abf5_4 : decode cJ0_length_8abf5 4 = .ok (.arraylength, 1) := by decide +kernel
theorem dJ0_length_8abf5_5 : decode cJ0_length_8abf5 5 = .ok (.aload_n 0, 1) := by decide +kernel
theorem dJ0_length_8abf5_6 : decode cJ0_length_8abf5 6 = .ok (.invokevirtual 335, 3) := by decide +kernel
theorem dJ0_length_8abf5_9 : decode cJ0_length_8abf5 9 = .ok (.ishr, 1) := by decide +kernel
theorem dJ0_length_8abf5_10 : decode cJ0_length_8abf5 10 = .ok (.ireturn, 1) := by decide +kernel
set_option maxRecDepth 20000 in
theorem ggJ0_charAt_5068e_J0_isLatin1_aae02 : GoodIn wsJ0_charAt_5068e wsJ0_isLatin1_aae02 := goodIn_r _ [6, 7, 8] (by decide +kernel) (by decide +kernel)
set_option maxRecDepth 20000 in
theorem gJ0_charAt_5068e_J0_isLatin1_aae02 : GoodIn wsJ0_charAt_5068e (wsV RJ0 492 RJ0 yJ0_isLatin1_aae02 wsJ0_isLatin1_aae02) := goodIn_app (goodIn_of _ (by decide +kernel)) ggJ0_charAt_5068e_J0_isLatin1_aae02
set_option maxRecDepth 20000 in
theorem ggJ0_charAt_5068e_J1_charAt_3b067 : GoodIn wsJ0_charAt_5068e wsJ1_charAt_3b067 := goodIn_r _ [12, 13, 14, 5, 15, 16, 17, 18, 19, 20] (by decide +kernel) (by decide +kernel)
set_option maxRecDepth 20000 in
theorem gJ0_charAt_5068e_J1_charAt_3b067 : GoodIn wsJ0_charAt_5068e (va_wsS RJ0 495 yJ1_charAt_3b067 wsJ1_charAt_3b067) := goodIn_app (goodIn_of _ (by decide +kernel)) ggJ0_charAt_5068e_J1_charAt_3b067
theorem dJ0_charAt_5068e_0 : decode cJ0_charAt_5068e 0 = .ok (.aload_n 0, 1) := by decide +kernel
theorem dJ0_charAt_5068e_1 : decode cJ0_charAt_5068e 1 = .ok (.invokevirtual 492, 3) := by decide +kernel
theorem dJ0_charAt_5068e_4 : decode cJ0_charAt_5068e 4 = .ok (.ifCond .eq 12, 3) := by decide +kernel
theorem dJ0_charAt_5068e_7 : decode cJ0_charAt_5068e 7 = .ok (.aload_n 0, 1) := by decide +kernel
theorem dJ0_charAt_5068e_8 : decode cJ0_charAt_5068e 8 = .ok (.getfield 9, 3) := by decide +kernel
theorem dJ0_charAt_5068e_11 : decode cJ0_charAt_5068e 11 = .ok (.iload_n 1, 1) := by decide +kernel
theorem dJ0_charAt_5068e_12 : decode cJ0_charAt_5068e 12 = .ok (.invokestatic 495, 3) := by decide +kernel
theorem dJ0_charAt_5068e_15 : decode cJ0_charAt_5068e 15 = .ok (.ireturn, 1) := by decide +kernel
theorem dJ0_coder_7d493_0 : decode cJ0_coder_7d493 0 = .ok (.getstatic 38, 3) := by decide +kernel
theorem dJ0_coder_7d493_3 : decode cJ0_coder_7d493 3 = .ok (.ifCond .eq 10, 3) := by decide +kernel
theorem dJ0_coder_7d493_6 : decode cJ0_coder_7d493 6 = .ok (.aload_n 0, 1) := by decide +kernel
theorem dJ0_coder_7d493_7 : decode cJ0_coder_7d493 7 = .ok (.getfield 15, 3) := by decide +kernel
theorem dJ0_coder_7d493_10 : decode cJ0_coder_7d493 10 = .ok (.goto 4, 3) := by decide +kernel
theorem dJ0_coder_7d493_14 : decode cJ0_coder_7d493 14 = .ok (.ireturn, 1) := by decide +kernel
theorem dJ0_isLatin1_aae02_0 : decode cJ0_isLatin1_aae02 0 = .ok (.getstatic 38, 3) := by decide +kernel
theorem dJ0_isLatin1_aae02_3 : decode cJ0_isLatin1_aae02 3 = .ok (.ifCond .eq 14, 3) := by decide +kernel
theorem dJ0_isLatin1_aae02_6 : decode cJ0_isLatin1_aae02 6 = .ok (.aload_n 0, 1) := by decide +kernel
theorem dJ0_isLatin1_aae02_7 : decode cJ0_isLatin1_aae02 7 = .ok (.getfield 15, 3) := by decide +kernel
theorem dJ0_isLatin1_aae02_10 : decode cJ0_isLatin1_aae02 10 = .ok (.ifCond .ne 7, 3) := by decide +kernel
theorem dJ0_isLatin1_aae02_13 : decode cJ0_isLatin1_aae02 13 = .ok (.iconst 1, 1) := by decide +kernel
theorem dJ0_isLatin1_aae02_14 : decode cJ0_isLatin1_aae02 14 = .ok (.goto 4, 3) := by decide +kernel
theorem dJ0_isLatin1_aae02_18 : decode cJ0_isLatin1_aae02 18 = .ok (.ireturn, 1) := by decide +kernel
set_option maxRecDepth 20000 in
theorem ggJ0_checkIndex_df160_J3_checkIndex_8e157 : GoodIn wsJ0_checkIndex_df160 wsJ3_checkIndex_8e157 := goodIn_r _ [5] (by decide +kernel) (by decide +kernel)
set_option maxRecDepth 20000 in
theorem gJ0_checkIndex_df160_J3_checkIndex_8e157 : GoodIn wsJ0_checkIndex_df160 (va_wsS RJ0 1059 yJ3_checkIndex_8e157 wsJ3_checkIndex_8e157) := goodIn_app (goodIn_of _ (by decide +kernel)) ggJ0_checkIndex_df160_J3_checkIndex_8e157
theorem dJ0_checkIndex_df160_0 : decode cJ0_checkIndex_df160 0 = .ok (.iload_n 0, 1) := by decide +kernel
theorem dJ0_checkIndex_df160_1 : decode cJ0_checkIndex_df160 1 = .ok (.iload_n 1, 1) := by decide +kernel
theorem dJ0_checkIndex_df160_2 : decode cJ0_checkIndex_df160 2 = .ok (.getstatic 1053, 3) := by decide +kernel
theorem dJ0_checkIndex_df160_5 : decode cJ0_checkIndex_df160 5 = .ok (.invokestatic 1059, 3) := by decide +kernel
theorem dJ0_checkIndex_df160_8 : decode cJ0_checkIndex_df160 8 = .ok (.pop, 1) := by decide +kernel
theorem dJ0_checkIndex_df160_9 : decode cJ0_checkIndex_df160 9 = .ok (.return_, 1) := by decide +kernel
set_option maxRecDepth 20000 in
theorem ggJ1_charAt_3b067_J0_checkIndex_df160 : GoodIn wsJ1_charAt_3b067 wsJ0_checkIndex_df160 := goodIn_r _ [4, 5, 6, 7, 8, 9] (by decide +kernel) (by decide +kernel)
set_option maxRecDepth 20000 in
theorem gJ1_charAt_3b067_J0_checkIndex_df160 : GoodIn wsJ1_charAt_3b067 (va_wsS RJ1 9 yJ0_checkIndex_df160 wsJ0_checkIndex_df160) := goodIn_app (goodIn_of _ (by decide +kernel)) ggJ1_charAt_3b067_J0_checkIndex_df160
theorem dJ1_charAt_3b067_0 : decode cJ1_charAt_3b067 0 = .ok (.iload_n 1, 1) := by decide +kernel
theorem dJ1_charAt_3b067_1 : decode cJ1_charAt_3b067 1 = .ok (.aload_n 0, 1) := by decide +kernel
theorem dJ1_charAt_3b067_2 : decode cJ1_charAt_3b067 2 = .ok (.arraylength, 1) := by decide +kernel
theorem dJ1_charAt_3b067_3 : decode cJ1_charAt_3b067 3 = .ok (.invokestatic 9, 3) := by decide +kernel
theorem dJ1_charAt_3b067_6 : decode cJ1_charAt_3b067 6 = .ok (.aload_n 0, 1) := by decide +kernel
theorem dJ1_charAt_3b067_7 : decode cJ1_charAt_3b067 7 = .ok (.iload_n 1, 1) := by decide +kernel
theorem dJ1_charAt_3b067_8 : decode cJ1_charAt_3b067 8 = .ok (.baload, 1) := by decide +kernel
theorem dJ1_charAt_3b067_9 : decode cJ1_charAt_3b067 9 = .ok (.sipush 255, 3) := by decide +kernel
theorem dJ1_charAt_3b067_12 : decode cJ1_charAt_3b067 12 = .ok (.iand, 1) := by decide +kernel
theorem dJ1_charAt_3b067_13 : decode cJ1_charAt_3b067 13 = .ok (.i2c, 1) := by decide +kernel
theorem dJ1_charAt_3b067_14 : decode cJ1_charAt_3b067 14 = .ok (.ireturn, 1) := by decide +kernel
theorem dJ7_fill_53178_0 : decode cJ7_fill_53178 0 = .ok (.iconst 0, 1) := by decide +kernel
theorem dJ7_fill_53178_1 : decode cJ7_fill_53178 1 = .ok (.istore_n 2, 1) := by decide +kernel
theorem dJ7_fill_53178_2 : decode cJ7_fill_53178 2 = .ok (.aload_n 0, 1) := by decide +kernel
theorem dJ7_fill_53178_3 : decode cJ7_fill_53178 3 = .ok (.arraylength, 1) := by decide +kernel
theorem dJ7_fill_53178_4 : decode cJ7_fill_53178 4 = .ok (.istore_n 3, 1) := by decide +kernel
theorem dJ7_fill_53178_5 : decode cJ7_fill_53178 5 = .ok (.iload_n 2, 1) := by decide +kernel
theorem dJ7_fill_53178_6 : decode cJ7_fill_53178 6 = .ok (.iload_n 3, 1) := by decide +kernel
theorem dJ7_fill_53178_7 : decode cJ7_fill_53178 7 = .ok (.if_icmp .ge 13, 3) := by decide +kernel
theorem dJ7_fill_53178_10 : decode cJ7_fill_53178 10 = .ok (.aload_n 0, 1) := by decide +kernel
theorem dJ7_fill_53178_11 : decode cJ7_fill_53178 11 = .ok (.iload_n 2, 1) := by decide +kernel
theorem dJ7_fill_53178_12 : decode cJ7_fill_53178 12 = .ok (.iload_n 1, 1) := by decide +kernel
theorem dJ7_fill_53178_13 : decode cJ7_fill_53178 13 = .ok (.iastore, 1) := by decide +kernel
theorem dJ7_fill_53178_14 : decode cJ7_fill_53178 14 = .ok (.iinc 2 1, 3) := by decide +kernel
theorem dJ7_fill_53178_17 : decode cJ7_fill_53178 17 = .ok (.goto (-12), 3) := by decide +kernel
theorem dJ7_fill_53178_20 : decode cJ7_fill_53178 20 = .ok (.return_, 1) := by decide +kernel
theorem dJ3_checkIndex_8e157_0 : decode cJ3_checkIndex_8e157 0 = .ok (.iload_n 0, 1) := by decide +kernel
theorem dJ3_checkIndex_8e157_1 : decode cJ3_checkIndex_8e157 1 = .ok (.ifCond .lt 8, 3) := by decide +kernel
theorem dJ3_checkIndex_8e157_4 : decode cJ3_checkIndex_8e157 4 = .ok (.iload_n 0, 1) := by decide +kernel
theorem dJ3_checkIndex_8e157_5 : decode cJ3_checkIndex_8e157 5 = .ok (.iload_n 1, 1) := by decide +kernel
theorem dJ3_checkIndex_8e157_6 : decode cJ3_checkIndex_8e157 6 = .ok (.if_icmp .lt 10, 3) := by decide +kernel
theorem dJ3_checkIndex_8e157_16 : decode cJ3_checkIndex_8e157 16 = .ok (.iload_n 0, 1) := by decide +kernel
theorem dJ3_checkIndex_8e157_17 : decode cJ3_checkIndex_8e157 17 = .ok (.ireturn, 1) := by decide +kernel
abbrev vwCl : List vw_C := [(RX0, TX0, 13), (RX1, TX1, 16), (RX2, TX2, 21), (RX3, TX3, 14), (RX4, TX4, 2), (RX5, TX5, 21), (RX6, TX6, 8), (RX7, TX7, 8), (RX8, TX8, 2), (RX9, TX9, 13), (RX10, TX10, 19), (RX11, TX11, 21), (RX12, TX12, 11), (RX13, TX13, 155)]
set_option maxRecDepth 20000 in
theorem uX0_init_X0 : ∀ w ∈ u_ws RX0 TX0 13, w ∈ wsX0_init := by decide +kernel
set_option maxRecDepth 20000 in
theorem uX0_init_X1 : ∀ w ∈ u_ws RX1 TX1 16, w ∈ wsX0_init := by decide +kernel
set_option maxRecDepth 20000 in
theorem uX0_init_X10 : ∀ w ∈ u_ws RX10 TX10 19, w ∈ wsX0_init := by decide +kernel
set_option maxRecDepth 20000 in
theorem uX0_init_X2 : ∀ w ∈ u_ws RX2 TX2 21, w ∈ wsX0_init := by decide +kernel
set_option maxRecDepth 20000 in
theorem uX0_init_X6 : ∀ w ∈ u_ws RX6 TX6 8, w ∈ wsX0_init := by decide +kernel
set_option maxRecDepth 20000 in
theorem uX10_init_X10 : ∀ w ∈ u_ws RX10 TX10 19, w ∈ wsX10_init := by decide +kernel
set_option maxRecDepth 20000 in
theorem uX10_init_X2 : ∀ w ∈ u_ws RX2 TX2 21, w ∈ wsX10_init := by decide +kernel
set_option maxRecDepth 20000 in
theorem uX11_init_X11 : ∀ w ∈ u_ws RX11 TX11 21, w ∈ wsX11_init := by decide +kernel
set_option maxRecDepth 20000 in
theorem uX11_init_X3 : ∀ w ∈ u_ws RX3 TX3 14, w ∈ wsX11_init := by decide +kernel
set_option maxRecDepth 20000 in
theorem uX11_init_X7 : ∀ w ∈ u_ws RX7 TX7 8, w ∈ wsX11_init := by decide +kernel
set_option maxRecDepth 20000 in
theorem uX1_init_X1 : ∀ w ∈ u_ws RX1 TX1 16, w ∈ wsX1_init := by decide +kernel
set_option maxRecDepth 20000 in
theorem uX2_init_X2 : ∀ w ∈ u_ws RX2 TX2 21, w ∈ wsX2_init := by decide +kernel
set_option maxRecDepth 20000 in
theorem uX2_init_X4 : ∀ w ∈ u_ws RX4 TX4 2, w ∈ wsX2_init := by decide +kernel
set_option maxRecDepth 20000 in
theorem uX3_init_X3 : ∀ w ∈ u_ws RX3 TX3 14, w ∈ wsX3_init := by decide +kernel
set_option maxRecDepth 20000 in
theorem uX4_forget_X4 : ∀ w ∈ u_ws RX4 TX4 2, w ∈ wsX4_forget := by decide +kernel
set_option maxRecDepth 20000 in
theorem uX4_init_X4 : ∀ w ∈ u_ws RX4 TX4 2, w ∈ wsX4_init := by decide +kernel
set_option maxRecDepth 20000 in
theorem uX4_settle_X4 : ∀ w ∈ u_ws RX4 TX4 2, w ∈ wsX4_settle := by decide +kernel
set_option maxRecDepth 20000 in
theorem uX5_init_X3 : ∀ w ∈ u_ws RX3 TX3 14, w ∈ wsX5_init := by decide +kernel
set_option maxRecDepth 20000 in
theorem uX5_init_X5 : ∀ w ∈ u_ws RX5 TX5 21, w ∈ wsX5_init := by decide +kernel
set_option maxRecDepth 20000 in
theorem uX6_init_X6 : ∀ w ∈ u_ws RX6 TX6 8, w ∈ wsX6_init := by decide +kernel
set_option maxRecDepth 20000 in
theorem uX7_init_X3 : ∀ w ∈ u_ws RX3 TX3 14, w ∈ wsX7_init := by decide +kernel
set_option maxRecDepth 20000 in
theorem uX7_init_X4 : ∀ w ∈ u_ws RX4 TX4 2, w ∈ wsX7_init := by decide +kernel
set_option maxRecDepth 20000 in
theorem uX7_init_X7 : ∀ w ∈ u_ws RX7 TX7 8, w ∈ wsX7_init := by decide +kernel
set_option maxRecDepth 20000 in
theorem uX8_init_X8 : ∀ w ∈ u_ws RX8 TX8 2, w ∈ wsX8_init := by decide +kernel
