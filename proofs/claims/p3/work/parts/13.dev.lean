def mx_cn (ci : Nat) : Option String := (vwCl[ci]?).map (fun q => q.1)
def mx_bys : List (List Int32) := [[79, 98, 106, 101, 99, 116, 32, 70, 97, 117, 108, 116, 32, 78, 117, 108, 108, 70, 97, 117, 108, 116, 32, 73, 110, 100, 101, 120, 70, 97, 117, 108, 116, 32, 65, 114, 105, 116, 104, 70, 97, 117, 108, 116, 32, 67, 97, 115, 116, 70, 97, 117, 108, 116, 32, 83, 105, 122, 101, 70, 97, 117, 108, 116, 32, 83, 116, 111, 114, 101, 70, 97, 117, 108, 116, 32, 108, 101, 110, 103, 116, 104, 32, 98, 111, 111, 108, 101, 97, 110, 32, 98, 114, 101, 97, 107, 32, 99, 97, 116, 99, 104, 32, 99, 108, 97, 115, 115, 32, 99, 111, 110, 116, 105, 110, 117, 101, 32, 101, 108, 115, 101, 32, 101, 120, 116, 101, 110, 100, 115, 32, 102, 97, 108, 115, 101, 32, 105, 102, 32, 105, 110, 115, 116, 97, 110, 99, 101, 111, 102, 32, 105, 110, 116, 32, 110, 101, 119, 32, 110, 117, 108, 108, 32, 112, 114, 105, 110, 116, 32, 114, 101, 116, 117, 114, 110, 32, 115, 116, 97, 116, 105, 99, 32, 116, 104, 105, 115, 32, 116, 104, 114, 111, 119, 32, 116, 114, 117, 101, 32, 116, 114, 121, 32, 118, 111, 105, 100, 32, 119, 104, 105, 108, 101, 32, 91, 73, 32], [79, 98, 106, 101, 99, 116, 32, 70, 97, 117, 108, 116, 32, 78, 117, 108, 108, 70, 97, 117, 108, 116, 32, 73, 110, 100, 101, 120, 70, 97, 117, 108, 116, 32, 65, 114, 105, 116, 104, 70, 97, 117, 108, 116, 32, 67, 97, 115, 116, 70, 97, 117, 108, 116, 32, 83, 105, 122, 101, 70, 97, 117, 108, 116, 32, 83, 116, 111, 114, 101, 70, 97, 117, 108, 116, 32], [32, 98, 111, 111, 108, 101, 97, 110, 32, 98, 114, 101, 97, 107, 32, 99, 97, 116, 99, 104, 32, 99, 108, 97, 115, 115, 32, 99, 111, 110, 116, 105, 110, 117, 101, 32, 101, 108, 115, 101, 32, 101, 120, 116, 101, 110, 100, 115, 32, 102, 97, 108, 115, 101, 32, 105, 102, 32, 105, 110, 115, 116, 97, 110, 99, 101, 111, 102, 32, 105, 110, 116, 32, 110, 101, 119, 32, 110, 117, 108, 108, 32, 112, 114, 105, 110, 116, 32, 114, 101, 116, 117, 114, 110, 32, 115, 116, 97, 116, 105, 99, 32, 116, 104, 105, 115, 32, 116, 104, 114, 111, 119, 32, 116, 114, 117, 101, 32, 116, 114, 121, 32, 118, 111, 105, 100, 32, 119, 104, 105, 108, 101, 32], [32, 79, 98, 106, 101, 99, 116, 32, 70, 97, 117, 108, 116, 32, 78, 117, 108, 108, 70, 97, 117, 108, 116, 32, 73, 110, 100, 101, 120, 70, 97, 117, 108, 116, 32, 65, 114, 105, 116, 104, 70, 97, 117, 108, 116, 32, 67, 97, 115, 116, 70, 97, 117, 108, 116, 32, 83, 105, 122, 101, 70, 97, 117, 108, 116, 32, 83, 116, 111, 114, 101, 70, 97, 117, 108, 116, 32], [32, 108, 101, 110, 103, 116, 104, 32]]
def mx_ft (k j : Nat) : Int32 := (mx_bys.getD k []).getD j 0
def mx_strs (a : Nat) : Option (Nat × (Nat → Int32)) := if a = 1000000000 then some ((mx_bys.getD 0 []).length, mx_ft 0) else if a = 1000000001 then some ((mx_bys.getD 1 []).length, mx_ft 1) else if a = 1000000002 then some ((mx_bys.getD 2 []).length, mx_ft 2) else if a = 1000000003 then some ((mx_bys.getD 3 []).length, mx_ft 3) else if a = 1000000004 then some ((mx_bys.getD 4 []).length, mx_ft 4) else none
def xg (h : mx_H) (a ci k : Nat) : Option Value := mx_ob h a fun cj fs => if cj = ci then fs[k]? else none
def xgi (h : mx_H) (a ci k : Nat) : Option Int32 := mx_gi (xg h a ci k) fun x => some x
def xgr (h : mx_H) (a ci k : Nat) : Option Nat := mx_gr (xg h a ci k) fun x => x
def xpv (h : mx_H) (a ci k : Nat) (v : Value) : Option mx_H := mx_ob h a fun cj fs => if cj = ci ∧ k < fs.length then some (h.set a (.inr (ci, fs.set k v))) else none
def xai (h : mx_H) (a : Nat) (j : Int32) : Option Int32 := mx_ai h a fun ty n f => if ty = .int ∧ ¬ (j < 0 ∨ n ≤ j.toNatClampNeg) then some (f j.toNatClampNeg) else none
def xab (h : mx_H) (a : Nat) (j : Int32) : Option Int32 := mx_ai h a fun ty n f => if (ty = .byte ∨ ty = .boolean) ∧ ¬ (j < 0 ∨ n ≤ j.toNatClampNeg) then some (f j.toNatClampNeg) else none
def xaq (h : mx_H) (a : Nat) (j : Int32) : Option (Option Nat) := mx_aq h a fun ty n f => if ty.isReference = true ∧ ¬ (j < 0 ∨ n ≤ j.toNatClampNeg) then some (f j.toNatClampNeg) else none
def xsi (h : mx_H) (a : Nat) (j x : Int32) : Option mx_H := mx_ai h a fun ty n f => if ty = .int ∧ ¬ (j < 0 ∨ n ≤ j.toNatClampNeg) then some (h.set a (.inl (ty, n, .inl (upd f j.toNatClampNeg x)))) else none
def xsb (h : mx_H) (a : Nat) (j x : Int32) : Option mx_H := mx_ai h a fun ty n f => if (ty = .byte ∨ ty = .boolean) ∧ ¬ (j < 0 ∨ n ≤ j.toNatClampNeg) then some (h.set a (.inl (ty, n, .inl (upd f j.toNatClampNeg (vp_nar ty x))))) else none
def xsq (h : mx_H) (a : Nat) (j : Int32) (v : Option Nat) : Option mx_H := mx_aq h a fun ty n f => if ¬ (j < 0 ∨ n ≤ j.toNatClampNeg) then mx_sv (mx_fitq mx_cn h ty (va_rf v)) fun b => some (h.set a (.inl (ty, n, .inr (.inr (.inr (.inr (va_up f j.toNatClampNeg b))))))) else none
def xln (h : mx_H) (a : Nat) : Option Int32 := mx_av h a fun _ x => some (Int32.ofNat x.1)
def xis (h : mx_H) (b ci : Nat) : Bool := match h[b]? with
  | some (.inr (cj, _)) => decide (cj = ci)
  | _ => false
def xcp (h : mx_H) (a : Nat) (sp : Int32) (b : Nat) (dp n : Int32) : Option mx_H := mx_ai h a fun ty n0 f => mx_ai h b fun ty2 n1 g => if cp_ok sp dp n n0 n1 = true ∧ cp_fit ty f sp n = true ∧ refKind ty = false ∧ ty2 = ty then some (h.set b (.inl (ty, n1, .inl (va_cpy f g sp.toNatClampNeg dp.toNatClampNeg n.toNatClampNeg)))) else none
def xsc (a : Nat) (j : Int32) : Option Int32 := mx_sv (mx_strs a) fun t => if ¬ (j < 0 ∨ t.1 ≤ j.toNatClampNeg) ∧ t.1 < 2147483648 then some (((t.2 j.toNatClampNeg) &&& 255).toUInt32 % 65536).toInt32 else none
def xsl (a : Nat) : Option Int32 := mx_sv (mx_strs a) fun t => some (nI t.1)
def xbz (v : Int32) : Prop := narrow .boolean (.int v) = .int v ∧ fits .boolean (.int v) = true
def xl {α β : Type} (v : α) (F : α → Option β) : Option β := F v
def mx_oc {α : Type} (x : Option Nat) (A : Option α) (B : Nat → Option α) : Option α := match x with
  | none => A
  | some a => B a
def mx_gd {α : Type} (b : Bool) (A : Option α) : Option α := match b with
  | true => A
  | false => none
def xbq (v : Int32) : Bool := v == 0 || v == 1
def xnw (h : mx_H) (x : mx_E) : Option (Nat × mx_H) := if h.length < 1000000000 then some (h.length, h ++ [x]) else none
def xnq (n : Int32) (k : Nat) : Bool := decide (¬ n < 0) && decide (n.toNatClampNeg * k ≤ 536870912)
def xcn (h : mx_H) (a : Nat) : Option (Nat × mx_H × Nat) := mx_ai h a fun ty n f => if ty = .byte ∧ (List.range n).all (fun j => fits .byte (.int (f j))) = true ∧ h.length < 1000000000 then some (h.length, h ++ [.inl (.byte, n, .inl f)], n) else none
def xsr (X : Nat × (Nat → Int32)) (j : Int32) : Option Int32 := if ¬ (j < 0 ∨ X.1 ≤ j.toNatClampNeg) then some (X.2 j.toNatClampNeg) else none
def xno (h : mx_H) : Bool := decide (h.length ≤ 2000000000)
