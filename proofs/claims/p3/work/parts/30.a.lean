def ly_D : List (Nat × Nat × List Nat) := [(5, 12, [3, 0, 4, 34, 13, 35, 57, 0, 58, 129, 145]), (1, 6000, []), (5, 9, [5, 6, 7, 0, 8, 9, 10, 11, 12, 0, 0, 0, 0]), (0, 3001, []), (0, 3001, []), (0, 3001, []), (1, 6400, []), (0, 1741, []), (0, 1740, []), (0, 64, []), (0, 64, []), (5, 2, [4, 14, 0, 17, 18, 19, 20, 21, 22, 23, 24, 25, 26, 27, 28, 29, 30, 31, 32, 33, 0]), (5, 4, [15, 16]), (0, 16, []), (2, 256, []), (0, 334, []), (0, 1740, []), (0, 8, []), (0, 96, []), (0, 96, []), (0, 96, []), (0, 8, []), (0, 96, []), (0, 96, []), (0, 96, []), (2, 96, []), (0, 96, []), (0, 96, []), (0, 576, []), (0, 576, []), (0, 32, []), (1, 128, []), (5, 8, [4, 13]), (5, 0, [4, 13, 14, 47, 36, 51, 45, 0, 0, 0, 0, 46, 0]), (5, 1, [37, 0, 38, 0, 0, 39, 40, 0, 0, 41, 0, 42, 43, 44, 0, 0]), (1, 1500, []), (0, 20, []), (0, 750, []), (0, 750, []), (0, 80, []), (0, 100, []), (0, 5200, []), (0, 100, []), (4, 8, []), (0, 500, []), (5, 6, [4, 13, 48, 49, 0, 0, 50, 0]), (0, 201, []), (0, 201, []), (1, 6000, []), (5, 10, [4, 13, 14, 36, 47, 52, 53, 54, 55, 56, 0, 0, 0, 0, 0, 0, 0, 0, 0]), (0, 420, []), (0, 420, []), (0, 420, []), (0, 420, []), (0, 420, []), (4, 8, []), (5, 7, [59, 62, 1, 0, 0, 70, 71, 72]), (5, 4, [60, 61]), (0, 16, []), (2, 256, []), (3, 8, []), (5, 3, [1, 0, 0, 0, 65, 66, 67, 0, 0, 0, 0, 68, 0, 69]), (1, 0, []), (0, 256, []), (0, 256, []), (0, 256, []), (0, 24, []), (0, 144, []), (0, 2048, []), (0, 16, []), (0, 768, []), (5, 3, [1, 0, 0, 0, 75, 76, 77, 0, 0, 0, 0, 78, 0, 79]), (1, 0, []), (0, 256, []), (0, 256, []), (0, 256, []), (0, 24, []), (0, 144, []), (5, 3, [1, 0, 0, 0, 82, 83, 84, 0, 0, 0, 0, 85, 0, 86]), (1, 0, []), (0, 256, []), (0, 256, []), (0, 256, []), (0, 24, []), (0, 144, []), (5, 3, [1, 0, 0, 0, 89, 90, 91, 0, 0, 0, 0, 92, 0, 93]), (1, 0, []), (0, 256, []), (0, 256, []), (0, 256, []), (0, 24, []), (0, 144, []), (5, 3, [1, 0, 0, 0, 96, 97, 98, 0, 0, 0, 0, 99, 0, 100]), (1, 0, []), (0, 256, []), (0, 256, []), (0, 256, []), (0, 24, []), (0, 144, []), (5, 3, [1, 0, 0, 0, 103, 104, 105, 0, 0, 0, 0, 106, 0, 107]), (1, 0, []), (0, 256, []), (0, 256, []), (0, 256, []), (0, 24, []), (0, 144, []), (5, 3, [1, 0, 0, 0, 110, 111, 112, 0, 0, 0, 0, 113, 0, 114]), (1, 0, []), (0, 256, []), (0, 256, []), (0, 256, []), (0, 24, []), (0, 144, []), (5, 3, [1, 0, 0, 0, 117, 118, 119, 0, 0, 0, 0, 120, 0, 121]), (1, 0, []), (0, 256, []), (0, 256, []), (0, 256, []), (0, 24, []), (0, 144, []), (5, 3, [1, 0, 0, 0, 124, 125, 126, 0, 0, 0, 0, 127, 0, 128]), (1, 0, []), (0, 256, []), (0, 256, []), (0, 256, []), (0, 24, []), (0, 144, []), (5, 11, [58, 59, 0, 0, 0, 1, 0, 0, 130, 131, 132, 133, 134, 135, 136, 137, 0, 0, 0, 0, 0]), (0, 256, []), (0, 256, []), (0, 256, []), (0, 1799, []), (0, 1500, []), (0, 6400, []), (0, 30, []), (0, 30, []), (5, 3, [1, 0, 0, 0, 140, 141, 142, 0, 0, 0, 0, 143, 0, 144]), (1, 0, []), (0, 256, []), (0, 256, []), (0, 256, []), (0, 24, []), (0, 144, []), (5, 5, [58, 0, 0, 0, 0, 0, 0, 0, 146, 147, 148, 149, 150, 151, 152, 153, 154, 0, 1, 0, 0]), (0, 1000, []), (0, 2001, []), (0, 2002, []), (0, 20000, []), (0, 60, []), (0, 60, []), (0, 60, []), (0, 1800, []), (0, 1800, []), (5, 3, [1, 0, 0, 0, 157, 158, 159, 0, 0, 0, 0, 160, 0, 161]), (1, 0, []), (0, 256, []), (0, 256, []), (0, 256, []), (0, 24, []), (0, 144, []), (5, 13, [163, 0, 164, 0, 165, 166, 167, 168, 0, 0, 0, 169, 170, 171, 172, 173, 174, 175, 176, 177, 178, 179, 0, 0, 0, 180, 181, 182, 0, 183, 184, 185, 186, 187, 188, 189, 190, 191, 192, 0, 193, 194, 195, 196, 197, 0, 0, 0, 198, 199, 0, 0, 0, 0, 0, 200, 201, 0, 202, 203, 204, 205, 0, 206, 0, 207, 0, 208, 0, 209, 0, 0, 0, 210, 211, 212, 213, 214, 0, 0, 215, 216, 217, 218, 0, 219, 220, 0, 0, 221, 222, 223, 224, 0, 225, 226, 227, 0, 0, 0, 228, 229, 230, 231, 232, 233, 234, 235, 236, 237, 238, 239, 240, 0, 0, 0, 241, 0, 242, 243, 0, 0, 0, 0, 0, 0, 244, 245, 246, 0, 0, 0, 0, 0, 0, 0, 0, 247, 0, 0, 0, 0, 0, 0, 248, 249, 250, 251, 252, 0, 253, 254, 255, 256, 257]), (0, 6000, []), (0, 3000, []), (0, 3008, []), (0, 3002, []), (0, 3002, []), (0, 3002, []), (0, 9000, []), (0, 9000, []), (0, 9000, []), (0, 9000, []), (0, 9000, []), (0, 9000, []), (0, 9000, []), (0, 9000, []), (0, 9000, []), (0, 9000, []), (2, 9000, []), (0, 400, []), (0, 400, []), (0, 400, []), (0, 800, []), (0, 800, []), (0, 800, []), (0, 800, []), (2, 800, []), (0, 800, []), (0, 800, []), (0, 800, []), (0, 800, []), (0, 800, []), (0, 1500, []), (0, 1500, []), (2, 1500, []), (0, 1500, []), (0, 1500, []), (0, 3000, []), (0, 3000, []), (2, 3000, []), (0, 9000, []), (0, 2000, []), (0, 2000, []), (0, 2000, []), (0, 2000, []), (0, 40000, []), (0, 200, []), (0, 12000, []), (0, 3000, []), (0, 6200, []), (0, 6200, []), (0, 6200, []), (0, 6200, []), (0, 60000, []), (0, 1000, []), (0, 1000, []), (0, 1000, []), (0, 1000, []), (0, 3000, []), (0, 3000, []), (0, 3000, []), (0, 3000, []), (0, 48000, []), (0, 8, []), (0, 48000, []), (0, 8, []), (0, 40000, []), (0, 48000, []), (0, 8, []), (0, 2048, []), (0, 8, []), (0, 8, []), (0, 8, []), (0, 8, []), (0, 96, []), (0, 8, []), (0, 96, []), (0, 96, []), (0, 96, []), (0, 6000, []), (0, 309, []), (0, 2100, []), (0, 2100, []), (2, 1501, []), (0, 30, []), (0, 31, []), (0, 6, []), (0, 2001, []), (0, 2001, []), (0, 2001, []), (0, 20000, []), (0, 1000, []), (0, 60, []), (0, 60, []), (0, 60, []), (0, 60, []), (0, 3600, [])]
/-- The flat memory: cell, place in it, what stands there (a reference as the number of its cell, null below 0). Cell 900000 holds how many cells there are, 900001 how long those are that were made later. -/
abbrev ms_M : Type := Nat → Nat → Int
def up_M (M : ms_M) (c k : Nat) (v : Int) : ms_M := fun c2 k2 => if c2 = c ∧ k2 = k then v else M c2 k2
def ly_A (c : Nat) : Nat × Nat × List Nat := (ly_D[c]?).getD (1, 0, [])
def ly_T (c : Nat) : Nat := (ly_A c).1
def ly_N (c : Nat) : Nat := (ly_A c).2.1
def ly_F (c ci k : Nat) : Nat := bif Nat.beq (ly_T c) 5 && Nat.beq (ly_N c) ci then ((ly_A c).2.2[k]?).getD 999999 else 999999
def kc_O (c : Nat) : Nat := bif Nat.beq (ly_T c) 5 then ly_N c else 99
/-- an array with a fixed place: its sort and length -/
def ly_R (c t n : Nat) : Bool := Nat.ble (c + 1) 256 && (Nat.beq (ly_T c) t && Nat.beq (ly_N c) n)
def ln_I (M : ms_M) (c : Nat) : Int := if c < 256 then (ly_N c : Int) else M 900001 c
def rf_O (y : Int) : Option Nat := if y < 0 then none else some y.toNat
def fd_V (M : ms_M) (c k code : Nat) : Value := if code = 0 then .int (Int32.ofInt (M c k)) else if code = 1 then va_rf (rf_O (M c k)) else .ref (code - 2)
def cl_M (M : ms_M) (c : Nat) : mx_E := match ly_T c with
  | 0 => .inl (.int, ly_N c, .inl (fun i => Int32.ofInt (M c i)))
  | 1 => .inl (.byte, (ln_I M c).toNat, .inl (fun i => Int32.ofInt (M c i)))
  | 2 => .inl (.boolean, ly_N c, .inl (fun i => Int32.ofInt (M c i)))
  | 3 => .inl (.object RX3, ly_N c, .inr (.inr (.inr (.inr (fun i => rf_O (M c i))))))
  | 4 => .inl (.array .byte, ly_N c, .inr (.inr (.inr (.inr (fun i => rf_O (M c i))))))
  | _ => .inr (ly_N c, (ly_A c).2.2.mapIdx (fun k code => fd_V M c k code))
def cn_M (M : ms_M) : Nat := (M 900000 0).toNat
def H_M (M : ms_M) : mx_H := (List.range (cn_M M)).map (cl_M M)
def Rg_M (M : ms_M) : Prop := (256 ≤ M 900000 0 ∧ M 900000 0 ≤ 700000) ∧ (∀ c k, ly_T c ≠ 3 ∧ ly_T c ≠ 4 → -2147483648 ≤ M c k ∧ M c k ≤ 2147483647) ∧ (∀ c k : Nat, c < 900000 → ly_T c = 1 → (k : Int) < ln_I M c → -128 ≤ M c k ∧ M c k ≤ 127) ∧ (∀ c k : Nat, ly_T c = 2 → k < ly_N c → 0 ≤ M c k ∧ M c k ≤ 1) ∧ (∀ c, 0 ≤ M 900001 c)
/-- what is checked -/
def ck_B {α : Type} (p : Prop) [Decidable p] (x : Option α) : Option α := if p then x else none
def ck_3 {α : Type} (z : Int) (G : Int → Option α) : Option α := if -2147483648 ≤ z ∧ z ≤ 2147483647 then G z else none
def ck_6 {α : Type} (z : Int) (G : Int → Option α) : Option α := if -9223372036854775808 ≤ z ∧ z ≤ 9223372036854775807 then G z else none
def rd_A {α : Type} (n : Int) (c : Nat) (j : Int) (M : ms_M) (G : Int → Option α) : Option α := if 0 ≤ j ∧ j < n then G (M c j.toNat) else none
def rd_S {α : Type} (c : Nat) (j : Int) (M : ms_M) (G : Int → Option α) : Option α := if (c < cn_M M ∧ ly_T c = 0) ∧ 0 ≤ j ∧ j < ln_I M c then G (M c j.toNat) else none
def rd_T {α : Type} (c : Nat) (j : Int) (M : ms_M) (G : Int → Option α) : Option α := if (c < cn_M M ∧ ly_T c = 1) ∧ 0 ≤ j ∧ j < ln_I M c then G (M c j.toNat) else none
def wr_A {α : Type} (n : Int) (c : Nat) (j v : Int) (M : ms_M) (G : ms_M → Option α) : Option α := if 0 ≤ j ∧ j < n then G (up_M M c j.toNat v) else none
def wr_S {α : Type} (c : Nat) (j v : Int) (M : ms_M) (G : ms_M → Option α) : Option α := if (c < cn_M M ∧ ly_T c = 0) ∧ 0 ≤ j ∧ j < ln_I M c then G (up_M M c j.toNat v) else none
def oq_b (x : Int) : Int := (Int32.ofInt x).toInt8.toInt32.toInt
def wr_B {α : Type} (n : Int) (c : Nat) (j v : Int) (M : ms_M) (G : ms_M → Option α) : Option α := if 0 ≤ j ∧ j < n then G (up_M M c j.toNat (oq_b v)) else none
def wr_T {α : Type} (c : Nat) (j v : Int) (M : ms_M) (G : ms_M → Option α) : Option α := if (c < cn_M M ∧ ly_T c = 1) ∧ 0 ≤ j ∧ j < ln_I M c then G (up_M M c j.toNat (oq_b v)) else none
def wr_Z {α : Type} (n : Int) (c : Nat) (j v : Int) (M : ms_M) (G : ms_M → Option α) : Option α := if (v = 0 ∨ v = 1) ∧ 0 ≤ j ∧ j < n then G (up_M M c j.toNat v) else none
def wr_R {α : Type} (c k : Nat) (y : Int) (M : ms_M) (G : ms_M → Option α) : Option α := if -2147483648 ≤ y ∧ y ≤ 2147483647 then G (up_M M c k y) else none
def wr_QI {α : Type} (c : Nat) (j y : Int) (M : ms_M) (G : ms_M → Option α) : Option α := if (0 ≤ y ∧ kc_O y.toNat = 3) ∧ 0 ≤ j ∧ j < 8 then G (up_M M c j.toNat y) else none
def wr_QB {α : Type} (c : Nat) (j y : Int) (M : ms_M) (G : ms_M → Option α) : Option α := if (y = -1 ∨ 0 ≤ y ∧ y.toNat < cn_M M ∧ ly_T y.toNat = 1) ∧ 0 ≤ j ∧ j < 8 then G (up_M M c j.toNat y) else none
def ln_S {α : Type} (c : Nat) (M : ms_M) (G : Int → Option α) : Option α := if c < cn_M M ∧ ly_T c ≤ 2 then G (ln_I M c) else none
def cp_M (M : ms_M) (a sp b dp n : Nat) : ms_M := fun c k => if c = b ∧ dp ≤ k ∧ k < dp + n then M a (sp + (k - dp)) else M c k
def cp_S {α : Type} (a : Nat) (sp : Int) (b : Nat) (dp n : Int) (M : ms_M) (G : ms_M → Option α) : Option α := if (a < cn_M M ∧ b < cn_M M ∧ ly_T a = ly_T b ∧ ly_T a ≤ 2) ∧ 0 ≤ sp ∧ 0 ≤ dp ∧ 0 ≤ n ∧ sp + n ≤ ln_I M a ∧ dp + n ≤ ln_I M b then G (cp_M M a sp.toNat b dp.toNat n.toNat) else none
def rd_X {α : Type} (a : Nat) (j : Int) (G : Int → Option α) : Option α := mx_sv (xsc a (Int32.ofInt j)) fun v => G v.toInt
def ln_X {α : Type} (a : Nat) (G : Int → Option α) : Option α := mx_sv (xsl a) fun v => G v.toInt
def rd_Z {α : Type} (X : Nat × (Nat → Int32)) (j : Int) (G : Int → Option α) : Option α := if 0 ≤ j ∧ j < (X.1 : Int) then G (X.2 j.toNat).toInt else none
def nw_M (M : ms_M) (y : Int) (f : Nat → Int) : ms_M := fun c k => if c = cn_M M then f k else if c = 900000 ∧ k = 0 then M 900000 0 + 1 else if c = 900001 ∧ k = cn_M M then y else M c k
def nw_B {α : Type} (y : Int) (M : ms_M) (G : Nat → ms_M → Option α) : Option α := if (256 ≤ M 900000 0 ∧ M 900000 0 < 700000) ∧ 0 ≤ y ∧ y ≤ 2147483647 then G (cn_M M) (nw_M M y (fun _ => 0)) else none
def oq_s (x : Int) : Int := (Int32.ofInt x).toInt16.toInt32.toInt
def oq_add (x y : Int) : Int := (Int32.ofInt x + Int32.ofInt y).toInt
def oq_sub (x y : Int) : Int := (Int32.ofInt x - Int32.ofInt y).toInt
def oq_mul (x y : Int) : Int := (Int32.ofInt x * Int32.ofInt y).toInt
def oq_div (x y : Int) : Int := (Int32.ofInt x / Int32.ofInt y).toInt
def oq_rem (x y : Int) : Int := (Int32.ofInt x - Int32.ofInt x / Int32.ofInt y * Int32.ofInt y).toInt
def oq_and (x y : Int) : Int := (Int32.ofInt x &&& Int32.ofInt y).toInt
def oq_or (x y : Int) : Int := (Int32.ofInt x ||| Int32.ofInt y).toInt
def oq_xor (x y : Int) : Int := (Int32.ofInt x ^^^ Int32.ofInt y).toInt
def oq_shl (x y : Int) : Int := (Int32.ofInt x <<< (Int32.ofInt y &&& 31)).toInt
def oq_shr (x y : Int) : Int := (Int32.ofInt x >>> (Int32.ofInt y &&& 31)).toInt
def oq_ushr (x y : Int) : Int := (((Int32.ofInt x).toUInt32 >>> ((Int32.ofInt y).toUInt32 &&& Int32.toUInt32 31)).toInt32).toInt
def oq_neg (x : Int) : Int := (-(Int32.ofInt x)).toInt
def oq_l2i (x : Int) : Int := (Int64.ofInt x).toInt32.toInt
def oq_cmp (x y : Int) : Int := if y < x then 1 else if x = y then 0 else -1
/-- where the flat function gives something, the other gives what belongs to it -/
def Sm_ {α β : Type} (R : α → β → Prop) (x : Option α) (y : Option β) : Prop := ∀ b, y = some b → ∃ a, x = some a ∧ R a b
def RV_ (a : mx_H) (b : ms_M) : Prop := a = H_M b ∧ Rg_M b
def RI_ (a : Int32 × mx_H) (b : Int × ms_M) : Prop := a.1.toInt = b.1 ∧ a.2 = H_M b.2 ∧ Rg_M b.2
def RP_ (M : ms_M) (a : Int32 × mx_H) (b : Int) : Prop := a.1.toInt = b ∧ a.2 = H_M M
def RQ_ (M : ms_M) (a : Option Nat × mx_H) (b : Int) : Prop := a.1 = rf_O b ∧ a.2 = H_M M
def RN_ (M : ms_M) (a : mx_H) (_ : Unit) : Prop := a = H_M M
def RC_ (a : mx_H × Nat × Nat) (b : ms_M × Nat × Nat) : Prop := a.1 = H_M b.1 ∧ Rg_M b.1 ∧ a.2 = b.2
def RD_ (a : Int32 × mx_H × Nat × Nat) (b : Int × ms_M × Nat × Nat) : Prop := a.1.toInt = b.1 ∧ a.2.1 = H_M b.2.1 ∧ Rg_M b.2.1 ∧ a.2.2 = b.2.2
def RE_ (a : Option Nat × mx_H × Nat × Nat) (b : Int × ms_M × Nat × Nat) : Prop := a.1 = rf_O b.1 ∧ a.2.1 = H_M b.2.1 ∧ Rg_M b.2.1 ∧ a.2.2 = b.2.2
