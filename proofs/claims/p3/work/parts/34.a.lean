/-- The two new objects: their cells have the shape that H_M knows. -/
def in_n (nn : Nat) : Option (Nat × Nat × mx_H × Nat × Nat) := mx_sv (xnw [] (.inr (12, dl_12))) fun u229 => mx_sv (f_X12_init nn u229.1 u229.2) fun u230 => mx_sv (xnw u230.1 (.inr (13, dl_13))) fun u231 => mx_sv (f_X13_init nn u231.1 u231.2) fun u232 => some (u229.1, u231.1, u232.1, ((((0 + 1) + u230.2.1) + 1) + u232.2.1), ((((0 + 11) + u230.2.2) + 155) + u232.2.2))
def in_0 : Option (Nat × Nat × mx_H × Nat × Nat) := in_n 1000000
def sh_T (ty : FieldType) (c : Nat) : Bool := match ty with
  | .int => Nat.beq (ly_T c) 0
  | .byte => Nat.beq (ly_T c) 1
  | .boolean => Nat.beq (ly_T c) 2
  | _ => false
def sh_Q (ty : FieldType) (c : Nat) : Bool := match ty with
  | .object s => Nat.beq (ly_T c) 3 && decide (s = RX3)
  | .array .byte => Nat.beq (ly_T c) 4
  | _ => false
def sh_V (v : Value) (code : Nat) : Bool := match v with
  | .int _ => Nat.beq code 0
  | .ref b => Nat.ble (b + 1) 256 && (Nat.beq code 1 || Nat.beq code (b + 2))
  | .null => Nat.beq code 1
  | _ => false
def sh_L : List Value → List Nat → Bool
  | [], [] => true
  | v :: vs, x :: xs => sh_V v x && sh_L vs xs
  | _, _ => false
def sh_E (c : Nat) (e : Option mx_E) : Bool := match e with
  | some (.inl (ty, n, .inl _)) => sh_T ty c && Nat.beq n (ly_N c)
  | some (.inl (ty, n, .inr (.inr (.inr (.inr _))))) => sh_Q ty c && Nat.beq n (ly_N c)
  | some (.inr (ci, fs)) => Nat.beq (ly_T c) 5 && (Nat.beq ci (ly_N c) && sh_L fs (ly_A c).2.2)
  | _ => false
/-- what stands in an array keeps to -A .. B, from place lo on, n of them -/
def sh_F (f : Nat → Int32) (lo n A B : Nat) : Bool := (List.range n).all (fun k => Nat.ble ((f (lo + k)).toInt + A).toNat (A + B) && Nat.ble (B - (f (lo + k)).toInt).toNat (A + B))
def sh_K (c lo n A B : Nat) : Bool := match in_0 with
  | some (_, _, h, _, _) => (match h[c]? with
    | some (.inl (_, _, .inl f)) => sh_F f lo n A B
    | _ => false)
  | none => false
def sh_M (l : List (Nat × Nat × Nat × Nat)) : Bool := match in_0 with
  | some (_, _, h, _, _) => l.all (fun q => match h[q.1]? with
    | some (.inl (_, _, .inl f)) => sh_F f 0 q.2.1 q.2.2.1 q.2.2.2
    | _ => false)
  | none => false
def in_chk : Bool := match in_0 with
  | some (a, m, h, c, s) => Nat.beq a 0 && (Nat.beq m 160 && (Nat.beq h.length 256 && ((List.range 256).all (fun c => sh_E c h[c]?) && (Nat.beq c 256 && Nat.beq s 648382))))
  | none => false
theorem in_ok1 : in_chk = true := by decide +kernel
