abbrev mx_e0 (own : String) (ix ci k : Nat) : Prop := ∃ (C : String) (T : u_T) (N : Nat), vwCl[ci]? = some (C, T, N) ∧ k < N ∧ Cond.fieldLink own ix (T k).1 (T k).2.1 (T k).2.2.1 ∈ mx_big
abbrev mx_e1 (own : String) (ix nu n : Nat) : Prop := ∃ (y : MethodName) (cc : ByteArray) (nL : Nat) (ret : Option FieldType), mx_mt nu = some (y, cc, nL, ret) ∧ nu ≠ 0 ∧ Cond.methodLink own ix y ∈ mx_big ∧ Cond.instanceMethod y ∈ mx_big ∧ Cond.selects y.cls y y ∈ mx_big ∧ Cond.initialized y.cls ∈ mx_big ∧ (parseMethodDescriptor y.desc).map (fun d => d.parameters.length) = some n
abbrev mx_e2 (own : String) (ix nu n : Nat) : Prop := ∃ (y : MethodName) (cc : ByteArray) (nL : Nat) (ret : Option FieldType), mx_mt nu = some (y, cc, nL, ret) ∧ nu ≠ 0 ∧ Cond.methodLink own ix y ∈ mx_big ∧ Cond.static y ∈ mx_big ∧ Cond.initialized y.cls ∈ mx_big ∧ (parseMethodDescriptor y.desc).map (fun d => d.parameters.length) = some n
abbrev mx_e3 (own : String) (ix nu n : Nat) : Prop := ∃ (y : MethodName) (cc : ByteArray) (nL : Nat), mx_mt nu = some (y, cc, nL, none) ∧ nu ≠ 0 ∧ Cond.methodLink own ix y ∈ mx_big ∧ Cond.instanceMethod y ∈ mx_big ∧ Cond.initialized y.cls ∈ mx_big ∧ y.name = "<init>" ∧ (parseMethodDescriptor y.desc).map (fun d => d.parameters.length) = some n
abbrev mx_e4 (own : String) (ix nu n : Nat) : Prop := ∃ (y : MethodName) (cc : ByteArray) (nL : Nat), mx_mt nu = some (y, cc, nL, none) ∧ nu ≠ 0 ∧ Cond.methodLinkNest own ix y "ClassMill" ∈ lw_tbl ∧ Cond.instanceMethod y ∈ mx_big ∧ Cond.initialized y.cls ∈ mx_big ∧ y.name = "<init>" ∧ (parseMethodDescriptor y.desc).map (fun d => d.parameters.length) = some n
abbrev mx_e5 (own : String) (ix : Nat) : Prop := Cond.methodLink own ix Lib.objectInit ∈ mx_big
abbrev mx_e6 (own : String) (ix : Nat) : Prop := Cond.methodLink own ix arraycopyName ∈ mx_big
abbrev mx_e7 (own : String) (ix a : Nat) : Prop := Jvm.Cond.constant own ix (Int32.ofNat a) ∈ mx_big
abbrev mx_e8 (own : String) (ix a : Nat) : Prop := Jvm.Cond.constantLong own ix (Int64.ofNat a) ∈ mx_big
abbrev mx_e9 (own : String) (ix ci N : Nat) : Prop := ∃ (C : String) (T : u_T), vwCl[ci]? = some (C, T, N) ∧ Cond.classLink own ix C ∈ mx_big ∧ Cond.instantiable C N ∈ mx_big ∧ Cond.initialized C ∈ mx_big
abbrev mx_e10 (own : String) (ix ci : Nat) : Prop := ci = 3 ∧ Cond.classLink own (ix - 100000) RX3 ∈ mx_big
abbrev mx_e11 (own : String) (ix : Nat) : Prop := Cond.classLink own (ix - 100000) "[B" ∈ mx_big
def mx_sr (k : Nat) : Option (String × Nat × String) := match k with
  | 0 => some (RX9, 51, "Object Fault NullFault IndexFault ArithFault CastFault SizeFault StoreFault length boolean break catch class continue else extends false if instanceof int new null print return static this throw true try void while [I ")
  | 1 => some (RX3, 132, "Object Fault NullFault IndexFault ArithFault CastFault SizeFault StoreFault ")
  | 2 => some (RX13, 352, " boolean break catch class continue else extends false if instanceof int new null print return static this throw true try void while ")
  | 3 => some (RX13, 477, " Object Fault NullFault IndexFault ArithFault CastFault SizeFault StoreFault ")
  | 4 => some (RX13, 588, " length ")
  | _ => none
abbrev mx_e12 (own : String) (ix k : Nat) : Prop := ∃ tx, mx_sr k = some (own, ix, tx)
abbrev mx_eM (own : String) (ix : Nat) (y : MethodName) : Prop := Cond.methodLink own ix y ∈ mx_big
abbrev mx_e19 (own : String) (ix : Nat) : Prop := Cond.classLink own (ix - 200000) "[B" ∈ mx_big
def mx_eOk (own : String) (q : Nat × Nat × Nat × Nat) : Prop := match q.2.1 with
  | 0 => mx_e0 own q.1 q.2.2.1 q.2.2.2
  | 1 => mx_e1 own q.1 q.2.2.1 q.2.2.2
  | 2 => mx_e2 own q.1 q.2.2.1 q.2.2.2
  | 3 => mx_e3 own q.1 q.2.2.1 q.2.2.2
  | 4 => mx_e4 own q.1 q.2.2.1 q.2.2.2
  | 5 => mx_e5 own q.1
  | 6 => mx_e6 own q.1
  | 7 => mx_e7 own q.1 q.2.2.1
  | 8 => mx_e8 own q.1 q.2.2.1
  | 9 => mx_e9 own q.1 q.2.2.1 q.2.2.2
  | 10 => mx_e10 own q.1 q.2.2.1
  | 11 => mx_e11 own q.1
  | 12 => mx_e12 own q.1 q.2.2.1
  | 13 => mx_eM own q.1 Lib.Math.max.name
  | 14 => mx_eM own q.1 Lib.Math.min.name
  | 15 => mx_eM own q.1 Lib.MathLoose.min_long.x
  | 16 => mx_eM own q.1 yJ0_charAt_5068e
  | 17 => mx_eM own q.1 yJ0_length_8abf5
  | 18 => mx_eM own q.1 ⟨"[B", "clone", "()Ljava/lang/Object;"⟩
  | 19 => mx_e19 own q.1
  | _ => False
