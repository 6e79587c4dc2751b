/-- the ranges that the cells keep to -/
def vt_ : List ((Int × Int) ⊕ List (Int × Int)) := [.inr [(-2147483648, 2147483647), (0, 6000), (-2147483648, 2147483647), (-2147483648, 2147483647), (-2147483648, 2147483647), (-2147483648, 2147483647), (-2147483648, 2147483647), (0, 334), (-2147483648, 2147483647), (-2147483648, 2147483647), (-2147483648, 2147483647)], .inl (-128, 127), .inr [(-2147483648, 2147483647), (-2147483648, 2147483647), (-2147483648, 2147483647), (0, 3001), (-2147483648, 2147483647), (-2147483648, 2147483647), (-2147483648, 2147483647), (-2147483648, 2147483647), (-2147483648, 2147483647), (0, 1740), (0, 50000000), (0, 11), (-1, 3000)], .inl (0, 1740), .inl (0, 3000), .inl (0, 2147483647), .inl (-128, 127), .inl (0, 6400), .inl (-1, 1739), .inl (-1, 1739), .inl (-1, 1739), .inr [(-2147483648, 2147483647), (-2147483648, 2147483647), (0, 334), (-2147483648, 2147483647), (-2147483648, 2147483647), (-2147483648, 2147483647), (-2147483648, 2147483647), (-2147483648, 2147483647), (-2147483648, 2147483647), (-2147483648, 2147483647), (-2147483648, 2147483647), (-2147483648, 2147483647), (-2147483648, 2147483647), (-2147483648, 2147483647), (-2147483648, 2147483647), (-2147483648, 2147483647), (-2147483648, 2147483647), (-2147483648, 2147483647), (-2147483648, 2147483647), (-2147483648, 2147483647), (0, 128)], .inr [(-2147483648, 2147483647), (-2147483648, 2147483647)], .inl (-1, 341), .inl (0, 1), .inl (0, 3004), .inl (-1, 341), .inl (0, 12), .inl (0, 2147483647), .inl (0, 441), .inl (0, 1739), .inl (0, 12), .inl (0, 24000000), .inl (0, 21000000), .inl (0, 441), .inl (0, 1), .inl (0, 1739), .inl (0, 6), .inl (0, 2147483647), .inl (0, 441), .inl (0, 2147483647), .inl (-128, 127), .inr [(-2147483648, 2147483647), (-2147483648, 2147483647)], .inr [(-2147483648, 2147483647), (-2147483648, 2147483647), (-2147483648, 2147483647), (-2147483648, 2147483647), (-2147483648, 2147483647), (-2147483648, 2147483647), (-2147483648, 2147483647), (-1, 24000000), (0, 441), (-1, 1600000000), (0, 1000000), (-2147483648, 2147483647), (0, 500)], .inr [(-2147483648, 2147483647), (0, 1600000000), (-2147483648, 2147483647), (0, 1600000000), (0, 1600000000), (-2147483648, 2147483647), (-2147483648, 2147483647), (0, 1000000), (0, 1000000), (-2147483648, 2147483647), (0, 20), (-2147483648, 2147483647), (-2147483648, 2147483647), (-2147483648, 2147483647), (0, 100), (0, 1)], .inl (-128, 127), .inl (-1, 441), .inl (-1, 2147483647), .inl (-1, 441), .inl (-1, 1600000000), .inl (0, 1600000000), .inl (-1, 441), .inl (0, 99), .inl (-1, 2147483647), .inl (0, 1600000000), .inr [(-2147483648, 2147483647), (-2147483648, 2147483647), (-2147483648, 2147483647), (-2147483648, 2147483647), (0, 200), (0, 1), (-2147483648, 2147483647), (0, 1000000000)], .inl (0, 4), .inl (-2147483648, 2147483647), .inl (-128, 127), .inr [(-2147483648, 2147483647), (-2147483648, 2147483647), (-2147483648, 2147483647), (-2147483648, 2147483647), (-2147483648, 2147483647), (-2147483648, 2147483647), (-2147483648, 2147483647), (-2147483648, 2147483647), (-2147483648, 2147483647), (-2147483648, 2147483647), (0, 420), (0, 4), (-1, 441), (-1, 441), (-1, 749), (0, 50000000), (0, 15), (0, 1), (-1, 50000000)], .inl (0, 1740), .inl (0, 50000000), .inl (0, 50000000), .inl (-1, 441), .inl (-1, 1600000000), .inl (-1, 2147483647), .inr [(-2147483648, 2147483647), (-2147483648, 2147483647), (-2147483648, 2147483647), (0, 8), (0, 1), (-2147483648, 2147483647), (-2147483648, 2147483647), (-2147483648, 2147483647)], .inr [(-2147483648, 2147483647), (-2147483648, 2147483647)], .inl (-1, 341), .inl (0, 1), .inl (-2147483648, 2147483647), .inr [(-2147483648, 2147483647), (0, 6000), (0, 6000), (-1, 6300), (-2147483648, 2147483647), (-2147483648, 2147483647), (-2147483648, 2147483647), (0, 255), (0, 255), (0, 255), (0, 12), (-2147483648, 2147483647), (0, 12), (-2147483648, 2147483647)], .inl (-128, 127), .inl (0, 255), .inl (0, 6000), .inl (0, 6255), .inl (0, 255), .inl (-1, 65535), .inl (-2147483648, 2147483647), .inl (0, 192), .inl (-1, 95), .inr [(-2147483648, 2147483647), (0, 6000), (0, 6000), (-1, 6300), (-2147483648, 2147483647), (-2147483648, 2147483647), (-2147483648, 2147483647), (0, 255), (0, 255), (0, 255), (0, 12), (-2147483648, 2147483647), (0, 12), (-2147483648, 2147483647)], .inl (-128, 127), .inl (0, 255), .inl (0, 6000), .inl (0, 6255), .inl (0, 255), .inl (-1, 65535), .inr [(-2147483648, 2147483647), (0, 6000), (0, 6000), (-1, 6300), (-2147483648, 2147483647), (-2147483648, 2147483647), (-2147483648, 2147483647), (0, 255), (0, 255), (0, 255), (0, 12), (-2147483648, 2147483647), (0, 12), (-2147483648, 2147483647)], .inl (-128, 127), .inl (0, 255), .inl (0, 6000), .inl (0, 6255), .inl (0, 255), .inl (-1, 65535), .inr [(-2147483648, 2147483647), (0, 6000), (0, 6000), (-1, 6300), (-2147483648, 2147483647), (-2147483648, 2147483647), (-2147483648, 2147483647), (0, 255), (0, 255), (0, 255), (0, 12), (-2147483648, 2147483647), (0, 12), (-2147483648, 2147483647)], .inl (-128, 127), .inl (0, 255), .inl (0, 6000), .inl (0, 6255), .inl (0, 255), .inl (-1, 65535), .inr [(-2147483648, 2147483647), (0, 6000), (0, 6000), (-1, 6300), (-2147483648, 2147483647), (-2147483648, 2147483647), (-2147483648, 2147483647), (0, 255), (0, 255), (0, 255), (0, 12), (-2147483648, 2147483647), (0, 12), (-2147483648, 2147483647)], .inl (-128, 127), .inl (0, 255), .inl (0, 6000), .inl (0, 6255), .inl (0, 255), .inl (-1, 65535), .inr [(-2147483648, 2147483647), (0, 6000), (0, 6000), (-1, 6300), (-2147483648, 2147483647), (-2147483648, 2147483647), (-2147483648, 2147483647), (0, 255), (0, 255), (0, 255), (0, 12), (-2147483648, 2147483647), (0, 12), (-2147483648, 2147483647)], .inl (-128, 127), .inl (0, 255), .inl (0, 6000), .inl (0, 6255), .inl (0, 255), .inl (-1, 65535), .inr [(-2147483648, 2147483647), (0, 6000), (0, 6000), (-1, 6300), (-2147483648, 2147483647), (-2147483648, 2147483647), (-2147483648, 2147483647), (0, 255), (0, 255), (0, 255), (0, 12), (-2147483648, 2147483647), (0, 12), (-2147483648, 2147483647)], .inl (-128, 127), .inl (0, 255), .inl (0, 6000), .inl (0, 6255), .inl (0, 255), .inl (-1, 65535), .inr [(-2147483648, 2147483647), (0, 6000), (0, 6000), (-1, 6300), (-2147483648, 2147483647), (-2147483648, 2147483647), (-2147483648, 2147483647), (0, 255), (0, 255), (0, 255), (0, 12), (-2147483648, 2147483647), (0, 12), (-2147483648, 2147483647)], .inl (-128, 127), .inl (0, 255), .inl (0, 6000), .inl (0, 6255), .inl (0, 255), .inl (-1, 65535), .inr [(-2147483648, 2147483647), (0, 6000), (0, 6000), (-1, 6300), (-2147483648, 2147483647), (-2147483648, 2147483647), (-2147483648, 2147483647), (0, 255), (0, 255), (0, 255), (0, 12), (-2147483648, 2147483647), (0, 12), (-2147483648, 2147483647)], .inl (-128, 127), .inl (0, 255), .inl (0, 6000), .inl (0, 6255), .inl (0, 255), .inl (-1, 65535), .inr [(-2147483648, 2147483647), (-2147483648, 2147483647), (-1, 15), (-1, 11), (-1, 65534), (-2147483648, 2147483647), (0, 12), (0, 65534), (-2147483648, 2147483647), (-2147483648, 2147483647), (-2147483648, 2147483647), (-2147483648, 2147483647), (-2147483648, 2147483647), (-2147483648, 2147483647), (-2147483648, 2147483647), (-2147483648, 2147483647), (0, 1500), (0, 30), (0, 30), (0, 1), (-1, 303)], .inl (-1, 303), .inl (-1, 95), .inl (0, 6), .inl (-1, 303), .inl (-2, 99), .inl (-1, 65535), .inl (-2147483648, 2147483647), .inl (-2147483648, 2147483647), .inr [(-2147483648, 2147483647), (0, 6000), (0, 6000), (-1, 6300), (-2147483648, 2147483647), (-2147483648, 2147483647), (-2147483648, 2147483647), (0, 255), (0, 255), (0, 255), (0, 12), (-2147483648, 2147483647), (0, 12), (-2147483648, 2147483647)], .inl (-128, 127), .inl (0, 255), .inl (0, 6000), .inl (0, 6255), .inl (0, 255), .inl (-1, 65535), .inr [(-2147483648, 2147483647), (0, 6), (-2147483648, 2147483647), (-2147483648, 2147483647), (0, 2000), (0, 20000), (0, 60), (0, 2000000000), (-2147483648, 2147483647), (-2147483648, 2147483647), (-2147483648, 2147483647), (-2147483648, 2147483647), (-2147483648, 2147483647), (-2147483648, 2147483647), (-2147483648, 2147483647), (-2147483648, 2147483647), (-2147483648, 2147483647), (0, 59), (-2147483648, 2147483647), (-1, 65535), (-2147483648, 2147483647)], .inl (-2147483648, 2147483647), .inl (-2147483648, 2147483647), .inl (0, 20000), .inl (-2147483648, 2147483647), .inl (-1, 95), .inl (-2147483648, 2147483647), .inl (0, 30), .inl (-2147483648, 2147483647), .inl (-2147483648, 2147483647), .inr [(-2147483648, 2147483647), (0, 6000), (0, 6000), (-1, 6300), (-2147483648, 2147483647), (-2147483648, 2147483647), (-2147483648, 2147483647), (0, 255), (0, 255), (0, 255), (0, 12), (-2147483648, 2147483647), (0, 12), (-2147483648, 2147483647)], .inl (-128, 127), .inl (0, 255), .inl (0, 6000), .inl (0, 6255), .inl (0, 255), .inl (-1, 65535), .inr [(-2147483648, 2147483647), (0, 6000), (-2147483648, 2147483647), (0, 3000), (-2147483648, 2147483647), (-2147483648, 2147483647), (-2147483648, 2147483647), (-2147483648, 2147483647), (0, 3001), (0, 11), (-1, 3000), (-2147483648, 2147483647), (-2147483648, 2147483647), (-2147483648, 2147483647), (-2147483648, 2147483647), (-2147483648, 2147483647), (-2147483648, 2147483647), (-2147483648, 2147483647), (-2147483648, 2147483647), (-2147483648, 2147483647), (-2147483648, 2147483647), (-2147483648, 2147483647), (0, 9000), (0, 3000), (0, 400), (-2147483648, 2147483647), (-2147483648, 2147483647), (-2147483648, 2147483647), (0, 800), (-2147483648, 2147483647), (-2147483648, 2147483647), (-2147483648, 2147483647), (-2147483648, 2147483647), (-2147483648, 2147483647), (-2147483648, 2147483647), (-2147483648, 2147483647), (-2147483648, 2147483647), (-2147483648, 2147483647), (-2147483648, 2147483647), (0, 1500), (-2147483648, 2147483647), (-2147483648, 2147483647), (-2147483648, 2147483647), (-2147483648, 2147483647), (-2147483648, 2147483647), (0, 3), (0, 3000), (0, 1), (-2147483648, 2147483647), (-2147483648, 2147483647), (0, 3000), (0, 799), (0, 407), (0, 1), (0, 2999), (-2147483648, 2147483647), (-2147483648, 2147483647), (0, 9000), (-2147483648, 2147483647), (-2147483648, 2147483647), (-2147483648, 2147483647), (-2147483648, 2147483647), (0, 1999), (-2147483648, 2147483647), (0, 40000), (-2147483648, 2147483647), (0, 200), (-2147483648, 2147483647), (0, 1000000000), (-2147483648, 2147483647), (0, 3000), (0, 3000), (0, 3000), (-2147483648, 2147483647), (-2147483648, 2147483647), (-2147483648, 2147483647), (-2147483648, 2147483647), (-2147483648, 2147483647), (0, 6200), (0, 60000), (-2147483648, 2147483647), (-2147483648, 2147483647), (-2147483648, 2147483647), (-2147483648, 2147483647), (0, 1000), (-2147483648, 2147483647), (-2147483648, 2147483647), (0, 3000), (0, 2147483647), (-2147483648, 2147483647), (-2147483648, 2147483647), (-2147483648, 2147483647), (-2147483648, 2147483647), (0, 8), (-2147483648, 2147483647), (-2147483648, 2147483647), (-2147483648, 2147483647), (0, 1000000000), (0, 8), (0, 1), (-2147483648, 2147483647), (-2147483648, 2147483647), (-2147483648, 2147483647), (-2147483648, 2147483647), (-2147483648, 2147483647), (-2147483648, 2147483647), (-2147483648, 2147483647), (-2147483648, 2147483647), (-2147483648, 2147483647), (-2147483648, 2147483647), (-2147483648, 2147483647), (-2147483648, 2147483647), (-2147483648, 2147483647), (0, 6000), (-1, 6010), (0, 7), (-2147483648, 2147483647), (0, 2101), (-2147483648, 2147483647), (-2147483648, 2147483647), (0, 48000), (0, 11), (0, 12), (-1, 15), (-1, 254), (-2147483648, 65535), (-2147483648, 2147483647), (-2147483648, 2147483647), (-2147483648, 2147483647), (0, 255), (0, 255), (0, 30), (0, 7), (0, 11), (0, 6020), (0, 65535), (0, 48000), (-2147483648, 2147483647), (0, 5), (-2147483648, 2147483647), (-2147483648, 2147483647), (0, 2000), (0, 20000), (-2147483648, 2147483647), (-2147483648, 2147483647), (-2147483648, 2147483647), (-2147483648, 2147483647), (-2147483648, 2147483647), (-2147483648, 2147483647), (0, 60), (-2147483648, 2147483647), (-2147483648, 2147483647), (-2147483648, 2147483647), (-2147483648, 2147483647), (-2147483648, 2147483647)], .inl (0, 255), .inl (0, 255), .inl (0, 6), .inl (0, 3000), .inl (0, 3000), .inl (-2147483648, 2147483647), .inl (0, 39), .inl (0, 3000), .inl (0, 3000), .inl (-1, 8999), .inl (-1, 8999), .inl (-1, 12010), .inl (-1, 8999), .inl (-1, 900), .inl (-1, 799), .inl (-1, 3001), .inl (0, 1), .inl (0, 3000), .inl (-1, 3000), .inl (-1, 407), .inl (0, 399), .inl (0, 2), .inl (0, 3), .inl (0, 3000), .inl (0, 1), .inl (0, 3000), .inl (0, 900), .inl (0, 1500), .inl (0, 1500), .inl (-1, 8999), .inl (0, 3), .inl (0, 3000), .inl (0, 1), .inl (0, 3000), .inl (0, 900), .inl (0, 3000), .inl (-1, 900), .inl (0, 1), .inl (0, 8999), .inl (0, 4), .inl (0, 2147483647), .inl (0, 2000), .inl (0, 2000), .inl (0, 255), .inl (0, 255), .inl (0, 255), .inl (-1, 900), .inl (0, 1000000000), .inl (0, 60000), .inl (0, 3001), .inl (0, 3000), .inl (-1, 900), .inl (0, 1000000000), .inl (0, 1000000000), .inl (0, 1000000000), .inl (-1, 900), .inl (0, 1000000000), .inl (0, 2147483647), .inl (0, 2147483647), .inl (0, 2147483647), .inl (0, 255), .inl (0, 6000), .inl (0, 255), .inl (0, 6000), .inl (0, 255), .inl (0, 255), .inl (0, 6000), .inl (0, 6000), .inl (0, 255), .inl (0, 255), .inl (0, 255), .inl (0, 255), .inl (0, 6010), .inl (0, 255), .inl (0, 6010), .inl (0, 6010), .inl (0, 6010), .inl (0, 255), .inl (0, 6010), .inl (0, 48002), .inl (-47999, 47998), .inl (0, 1), .inl (0, 2147483647), .inl (-2147483648, 2147483647), .inl (0, 4237), .inl (-1, 115), .inl (0, 20000), .inl (-2147483648, 20000), .inl (-2147483648, 2147483647), .inl (-2147483648, 2147483647), .inl (-1, 2117), .inl (0, 254), .inl (-2147483648, 2147483647), .inl (0, 30), .inl (-2147483648, 2147483647)]
/-- SAFETY: what gives something, and something good -/
def Ok_ {α : Type} (x : Option α) (Q : α → Prop) : Prop := ∃ a, x = some a ∧ Q a
def vb_ (c k : Nat) : Int × Int := match vt_[c]? with
  | some (.inl p) => p
  | some (.inr l) => (l[k]?).getD (-2147483648, 2147483647)
  | none => (-2147483648, 2147483647)
def im_k (c k : Nat) : Bool := Nat.blt c 256 && (!(Nat.beq c 43) && (!(Nat.beq c 55) && (!(Nat.beq c 60) && (!(Nat.beq c 56 && Nat.beq k 2) && (!(Nat.beq c 127 && Nat.beq k 5) && (!(Nat.beq c 143 && Nat.beq k 18) && !(Nat.beq (kc_O c) 3 && Nat.ble k 1)))))))
/-- the references: every Image has bytes that reach as far as its size; who holds an Image, holds one; byte rows hold bytes -/
def Vi_ (M : ms_M) : Prop := ((256 ≤ M 900000 0 ∧ M 900000 0 ≤ 700000) ∧ ∀ c, 0 ≤ M 900001 c) ∧ (∀ b, kc_O b = 3 → (0 ≤ M b 0 ∧ (M b 0).toNat < cn_M M ∧ ly_T (M b 0).toNat = 1) ∧ M b 1 ≤ ln_I M (M b 0).toNat) ∧ (∀ c k : Nat, 256 ≤ c → c < 900000 → (k : Int) < ln_I M c → -128 ≤ M c k ∧ M c k ≤ 127) ∧ (∀ k : Nat, k < 8 → 0 ≤ M 60 k ∧ kc_O (M 60 k).toNat = 3) ∧ ((0 ≤ M 56 2 ∧ kc_O (M 56 2).toNat = 3) ∧ (0 ≤ M 127 5 ∧ kc_O (M 127 5).toNat = 3) ∧ (0 ≤ M 143 18 ∧ kc_O (M 143 18).toNat = 3)) ∧ (∀ k : Nat, k < 8 → 0 ≤ M 43 k → (M 43 k).toNat < cn_M M ∧ ly_T (M 43 k).toNat = 1 ∧ ln_I M (M 43 k).toNat ≤ 6000) ∧ (∀ k : Nat, k < 8 → 0 ≤ M 55 k → (M 55 k).toNat < cn_M M ∧ ly_T (M 55 k).toNat = 1 ∧ ln_I M (M 55 k).toNat ≤ 6000)
def VS_ (M : ms_M) : Prop := (∀ c k, c < 256 → (ly_T c = 5 ∨ k < ly_N c) → (vb_ c k).1 ≤ M c k ∧ M c k ≤ (vb_ c k).2) ∧ Vi_ M
def QV_ : ms_M → Prop := fun M => VS_ M
def QI_ (lo hi : Int) : Int × ms_M → Prop := fun r => VS_ r.2 ∧ lo ≤ r.1 ∧ r.1 ≤ hi
def QP_ (lo hi : Int) : Int → Prop := fun r => lo ≤ r ∧ r ≤ hi
section
variable {α β γ : Type} {Q : α → Prop} {M : ms_M}
theorem ok_ret {a : α} (h : Q a) : Ok_ (some a) Q := ⟨a, rfl, h⟩
theorem ok_rV (h : VS_ M) : Ok_ (some M) QV_ := ⟨M, rfl, h⟩
theorem ok_rI {lo hi x : Int} (h : VS_ M) (h1 : lo ≤ x) (h2 : x ≤ hi) : Ok_ (some (x, M)) (QI_ lo hi) := ⟨_, rfl, h, h1, h2⟩
theorem ok_rP {lo hi x : Int} (h1 : lo ≤ x) (h2 : x ≤ hi) : Ok_ (some x) (QP_ lo hi) := ⟨_, rfl, h1, h2⟩
theorem ok_rN : Ok_ (some ()) (fun _ => True) := ⟨_, rfl, trivial⟩
theorem ok_xl {v : β} {F : β → Option α} (h : ∀ z, z = v → Ok_ (F z) Q) : Ok_ (xl v F) Q := h v rfl
theorem ok_if {c : Prop} {d : Decidable c} {x y : Option α} (h1 : c → Ok_ x Q) (h2 : ¬ c → Ok_ y Q) : Ok_ (if c then x else y) Q := by
  by_cases h : c
  · rw [if_pos h]; exact h1 h
  · rw [if_neg h]; exact h2 h
theorem ok_ck {p : Prop} {d : Decidable p} {x : Option α} (hp : p) (h : Ok_ x Q) : Ok_ (ck_B p x) Q := by unfold ck_B; rw [if_pos hp]; exact h
theorem ok_c6 {z : Int} {G : Int → Option α} (hz : -9223372036854775808 ≤ z ∧ z ≤ 9223372036854775807) (h : ∀ v, v = z → Ok_ (G v) Q) : Ok_ (ck_6 z G) Q := by unfold ck_6; rw [if_pos hz]; exact h z rfl
theorem ok_rd {n : Int} {c : Nat} {j lo hi : Int} {G : Int → Option α} (hj : 0 ≤ j ∧ j < n) (hb : ∀ k : Nat, (k : Int) < n → lo ≤ M c k ∧ M c k ≤ hi) (h : ∀ v, v = M c j.toNat → lo ≤ v → v ≤ hi → Ok_ (G v) Q) : Ok_ (rd_A n c j M G) Q := by unfold rd_A; rw [if_pos hj]; exact h _ rfl (hb _ (by omega)).1 (hb _ (by omega)).2
theorem ok_wA {n : Int} {c : Nat} {j v : Int} {G : ms_M → Option α} (hj : 0 ≤ j ∧ j < n) (h : ∀ z, z = up_M M c j.toNat v → Ok_ (G z) Q) : Ok_ (wr_A n c j v M G) Q := by unfold wr_A; rw [if_pos hj]; exact h _ rfl
theorem ok_wB {n : Int} {c : Nat} {j v : Int} {G : ms_M → Option α} (hj : 0 ≤ j ∧ j < n) (h : ∀ z, z = up_M M c j.toNat (oq_b v) → Ok_ (G z) Q) : Ok_ (wr_B n c j v M G) Q := by unfold wr_B; rw [if_pos hj]; exact h _ rfl
theorem ok_wZ {n : Int} {c : Nat} {j v : Int} {G : ms_M → Option α} (hv : v = 0 ∨ v = 1) (hj : 0 ≤ j ∧ j < n) (h : ∀ z, z = up_M M c j.toNat v → Ok_ (G z) Q) : Ok_ (wr_Z n c j v M G) Q := by unfold wr_Z; rw [if_pos ⟨hv, hj⟩]; exact h _ rfl
theorem ok_cV {x : Option ms_M} {F : ms_M → Option α} (hx : Ok_ x QV_) (h : ∀ a, x = some a → VS_ a → Ok_ (F a) Q) : Ok_ (mx_sv x F) Q := by
  obtain ⟨a, e, hq⟩ := hx
  rw [e, mx_svs]; exact h a e hq
theorem ok_cI {x : Option (Int × ms_M)} {F : Int × ms_M → Option α} {lo hi : Int} (hx : Ok_ x (QI_ lo hi)) (h : ∀ a, x = some a → VS_ a.2 → lo ≤ a.1 → a.1 ≤ hi → Ok_ (F a) Q) : Ok_ (mx_sv x F) Q := by
  obtain ⟨a, e, hq⟩ := hx
  rw [e, mx_svs]; exact h a e hq.1 hq.2.1 hq.2.2
theorem ok_cP {x : Option Int} {F : Int → Option α} {lo hi : Int} (hx : Ok_ x (QP_ lo hi)) (h : ∀ a, x = some a → lo ≤ a → a ≤ hi → Ok_ (F a) Q) : Ok_ (mx_sv x F) Q := by
  obtain ⟨a, e, hq⟩ := hx
  rw [e, mx_svs]; exact h a e hq.1 hq.2
theorem ok_cN {x : Option Unit} {F : Unit → Option α} (hx : Ok_ x (fun _ => True)) (h : ∀ a, Ok_ (F a) Q) : Ok_ (mx_sv x F) Q := by
  obtain ⟨a, e, _⟩ := hx
  rw [e, mx_svs]; exact h a
theorem ok_i32 {z : Int32} {F : Int → Option α} (h : ∀ v, -2147483648 ≤ v → v ≤ 2147483647 → Ok_ (F v) Q) : Ok_ (xl z.toInt F) Q := h _ (Int32.le_toInt z) (by have := Int32.toInt_lt z; omega)
theorem ok_add {x y : Int} {F : Int → Option α} (r : (-2147483648 ≤ x ∧ x ≤ 2147483647) ∧ (-2147483648 ≤ y ∧ y ≤ 2147483647) ∧ (-2147483648 ≤ x + y ∧ x + y ≤ 2147483647)) (h : ∀ v, v = x + y → Ok_ (F v) Q) : Ok_ (xl (oq_add x y) F) Q := h _ (oq_add_eq r.1 r.2.1 r.2.2)
theorem ok_sub {x y : Int} {F : Int → Option α} (r : (-2147483648 ≤ x ∧ x ≤ 2147483647) ∧ (-2147483648 ≤ y ∧ y ≤ 2147483647) ∧ (-2147483648 ≤ x - y ∧ x - y ≤ 2147483647)) (h : ∀ v, v = x - y → Ok_ (F v) Q) : Ok_ (xl (oq_sub x y) F) Q := h _ (oq_sub_eq r.1 r.2.1 r.2.2)
theorem ok_mul {x y : Int} {F : Int → Option α} (r : (-2147483648 ≤ x ∧ x ≤ 2147483647) ∧ (-2147483648 ≤ y ∧ y ≤ 2147483647) ∧ (-2147483648 ≤ x * y ∧ x * y ≤ 2147483647)) (h : ∀ v, v = x * y → Ok_ (F v) Q) : Ok_ (xl (oq_mul x y) F) Q := h _ (oq_mul_eq r.1 r.2.1 r.2.2)
end
theorem vs_up {M : ms_M} {c k : Nat} {v : Int} (h : VS_ M) (e : (vb_ c k).1 ≤ v ∧ v ≤ (vb_ c k).2) (hi : im_k c k = true) : VS_ (up_M M c k v) := by
  obtain ⟨h1, h2, h3, h4, h5, h6, h7, h8⟩ := h
  unfold im_k at hi
  simp only [Bool.and_eq_true, Bool.not_eq_true', Bool.and_eq_false_iff] at hi
  obtain ⟨q0, q1, q2, q3, q4, q5, q6, q7⟩ := hi
  have q0 : c < 256 := by rw [Nat.blt_eq] at q0; exact q0
  have nf : ∀ a b : Nat, Nat.beq a b = false → a ≠ b := fun a b z e => by subst e; rw [Nat.beq_refl] at z; cases z
  have A : ∀ c2, c2 ≠ c → up_M M c k v c2 = M c2 := fun c2 z => up_ne c2 z
  have e9 : up_M M c k v 900000 = M 900000 := A _ (by omega)
  have e8 : up_M M c k v 900001 = M 900001 := A _ (by omega)
  have eb : ∀ b, kc_O b = 3 → up_M M c k v b 0 = M b 0 ∧ up_M M c k v b 1 = M b 1 := by
    intro b hb
    have : ∀ j, j ≤ 1 → ¬ (b = c ∧ j = k) := by
      rintro j hj ⟨rfl, rfl⟩
      rcases q7 with z | z
      · exact nf _ _ z hb
      · have z2 := Nat.ble_eq_true_of_le hj; rw [z] at z2; cases z2
    exact ⟨up_n (this 0 (by omega)), up_n (this 1 (by omega))⟩
  have ec : cn_M (up_M M c k v) = cn_M M := by unfold cn_M; rw [e9]
  have el : ∀ d, ln_I (up_M M c k v) d = ln_I M d := by intro d; unfold ln_I; rw [e8]
  have es : ∀ d j, (Nat.beq c d = false ∨ Nat.beq k j = false) → up_M M c k v d j = M d j := by
    rintro d j z
    exact up_n (by rintro ⟨rfl, rfl⟩; rcases z with z | z <;> exact nf _ _ z rfl)
  refine ⟨?_, ?_, ?_, ?_, ?_, ?_, ?_, ?_⟩
  · intro c2 k2 hc hk
    by_cases w : c2 = c ∧ k2 = k
    · obtain ⟨rfl, rfl⟩ := w
      rw [up_s]; exact e
    · rw [up_n w]; exact h1 c2 k2 hc hk
  · rw [e9, e8]; exact h2
  · intro b hb
    obtain ⟨g0, g1⟩ := eb b hb
    rw [g0, g1, ec, el]; exact h3 b hb
  · intro d j hd hd2 hj
    rw [el] at hj
    rw [A d (by omega)]; exact h4 d j hd hd2 hj
  · intro j hj
    rw [A 60 (nf _ _ q3).symm]; exact h5 j hj
  · rw [es 56 2 q4, es 127 5 q5, es 143 18 q6]; exact h6
  · intro j hj
    rw [A 43 (nf _ _ q1).symm, ec, el]; exact h7 j hj
  · intro j hj
    rw [A 55 (nf _ _ q2).symm, ec, el]; exact h8 j hj
theorem vs_g {M : ms_M} (h : VS_ M) {c : Nat} (k : Nat) (hc : c < 256) (hk : ly_T c = 5 ∨ k < ly_N c) : (vb_ c k).1 ≤ M c k ∧ M c k ≤ (vb_ c k).2 := h.1 c k hc hk
theorem nI_ {b c : Nat} (hb : kc_O b = 3) (h : Nat.beq (kc_O c) 3 = false) : ¬ b = c := by
  rintro rfl; rw [hb] at h; cases h
theorem oq_b_rh {v : Int} : -128 ≤ oq_b v ∧ oq_b v ≤ 127 := by
  unfold oq_b
  rw [Int8.toInt_toInt32]
  exact ⟨Int.le_trans (by decide) (Int8.le_toInt _), Int.le_of_lt_add_one (Int.lt_of_lt_of_le (Int8.toInt_lt _) (by decide))⟩
theorem oq_s_rg {v : Int} : -32768 ≤ oq_s v ∧ oq_s v ≤ 32767 := by
  unfold oq_s
  rw [Int16.toInt_toInt32]
  exact ⟨Int.le_trans (by decide) (Int16.le_toInt _), Int.le_of_lt_add_one (Int.lt_of_lt_of_le (Int16.toInt_lt _) (by decide))⟩
theorem bv_of {c : Int} (hc : 0 ≤ c ∧ c ≤ 2147483647) : (Int32.ofInt c).toBitVec.toNat = c.toNat := by
  show (BitVec.ofInt 32 c).toNat = _
  rw [BitVec.toNat_ofInt]
  have : c % ((2 ^ 32 : Nat) : Int) = c := Int.emod_eq_of_lt hc.1 (by omega)
  rw [this]
theorem oq_and_rg {x c : Int} (hc : 0 ≤ c ∧ c ≤ 2147483647) : 0 ≤ oq_and x c ∧ oq_and x c ≤ c := by
  unfold oq_and
  have h1 : (Int32.ofInt x &&& Int32.ofInt c).toInt = (Int32.ofInt x &&& Int32.ofInt c).toBitVec.toInt := rfl
  rw [h1, Int32.toBitVec_and]
  have h2 : ((Int32.ofInt x).toBitVec &&& (Int32.ofInt c).toBitVec).toNat ≤ c.toNat := by
    rw [BitVec.toNat_and, bv_of hc]; exact Nat.and_le_right
  rw [BitVec.toInt_eq_toNat_of_lt (by omega)]
  omega
theorem oq_or_rg {x y : Int} (hx : 0 ≤ x ∧ x ≤ 65535) (hy : 0 ≤ y ∧ y ≤ 65535) : 0 ≤ oq_or x y ∧ oq_or x y ≤ 65535 := by
  unfold oq_or
  have h1 : (Int32.ofInt x ||| Int32.ofInt y).toInt = (Int32.ofInt x ||| Int32.ofInt y).toBitVec.toInt := rfl
  rw [h1, Int32.toBitVec_or]
  have h2 : ((Int32.ofInt x).toBitVec ||| (Int32.ofInt y).toBitVec).toNat < 2 ^ 16 := by
    rw [BitVec.toNat_or, bv_of (by omega), bv_of (by omega)]; exact Nat.or_lt_two_pow (by omega) (by omega)
  rw [BitVec.toInt_eq_toNat_of_lt (by omega)]
  omega
set_option maxRecDepth 20000 in
theorem sh_8 : ∀ i : Fin 256, oq_shl ((i.1 : Nat) : Int) 8 = 256 * ((i.1 : Nat) : Int) := by decide
theorem oq_shl_8 {x : Int} (hx : 0 ≤ x ∧ x ≤ 255) : oq_shl x 8 = 256 * x := by
  have h := sh_8 ⟨x.toNat, by omega⟩
  have e : ((x.toNat : Nat) : Int) = x := by omega
  simp only [e] at h
  exact h
section
variable {α : Type} {Q : α → Prop}
theorem ok_b {x : Int} {F : Int → Option α} (h : ∀ v, -128 ≤ v → v ≤ 127 → Ok_ (F v) Q) : Ok_ (xl (oq_b x) F) Q := h _ oq_b_rh.1 oq_b_rh.2
theorem ok_s {x : Int} {F : Int → Option α} (h : ∀ v, -32768 ≤ v → v ≤ 32767 → Ok_ (F v) Q) : Ok_ (xl (oq_s x) F) Q := h _ oq_s_rg.1 oq_s_rg.2
theorem ok_and {x c : Int} {F : Int → Option α} (hc : 0 ≤ c ∧ c ≤ 2147483647) (h : ∀ v, 0 ≤ v → v ≤ c → Ok_ (F v) Q) : Ok_ (xl (oq_and x c) F) Q := h _ (oq_and_rg hc).1 (oq_and_rg hc).2
theorem ok_or {x y : Int} {F : Int → Option α} (hx : 0 ≤ x ∧ x ≤ 65535) (hy : 0 ≤ y ∧ y ≤ 65535) (h : ∀ v, 0 ≤ v → v ≤ 65535 → Ok_ (F v) Q) : Ok_ (xl (oq_or x y) F) Q := h _ (oq_or_rg hx hy).1 (oq_or_rg hx hy).2
theorem ok_shl8 {x : Int} {F : Int → Option α} (hx : 0 ≤ x ∧ x ≤ 255) (h : ∀ v, v = 256 * x → Ok_ (F v) Q) : Ok_ (xl (oq_shl x 8) F) Q := h _ (oq_shl_8 hx)
theorem ok_div {x : Int} {n : Nat} {F : Int → Option α} (hx : 0 ≤ x) (h : ∀ v, v = x / (n : Int) → Ok_ (F v) Q) : Ok_ (xl (Int.tdiv x (n : Int)) F) Q := h _ (Int.tdiv_eq_ediv_of_nonneg hx)
theorem ok_rem {x : Int} {n : Nat} {F : Int → Option α} (hx : 0 ≤ x) (h : ∀ v, v = x % (n : Int) → Ok_ (F v) Q) : Ok_ (xl (Int.tmod x (n : Int)) F) Q := h _ (Int.tmod_eq_emod_of_nonneg hx)
end
theorem vi_r {M : ms_M} (h : VS_ M) : (0 ≤ M 56 2 ∧ kc_O (M 56 2).toNat = 3) ∧ (0 ≤ M 127 5 ∧ kc_O (M 127 5).toNat = 3) ∧ (0 ≤ M 143 18 ∧ kc_O (M 143 18).toNat = 3) := h.2.2.2.2.2.1
theorem ok_rd60 {α : Type} {Q : α → Prop} {M : ms_M} (h : VS_ M) {j : Int} {G : Int → Option α} (hj : 0 ≤ j ∧ j < 8) (g : ∀ v, 0 ≤ v → kc_O v.toNat = 3 → Ok_ (G v) Q) : Ok_ (rd_A 8 60 j M G) Q := by
  unfold rd_A; rw [if_pos hj]
  have := h.2.2.2.2.1 j.toNat (by omega)
  exact g _ this.1 this.2
theorem w32 (z : Int) : ∃ k : Int, (Int32.ofInt z).toInt = z + 4294967296 * k := by
  rw [Int32.toInt_ofInt]
  show ∃ k : Int, Int.bmod z (2 ^ 32) = z + 4294967296 * k
  refine ⟨(Int.bmod z (2 ^ 32) - z) / 4294967296, ?_⟩
  have h : (Int.bmod z (2 ^ 32) - z) % 4294967296 = 0 := by
    rw [Int.bmod_def]; split <;> omega
  omega
theorem ok_addW {α : Type} {Q : α → Prop} {x y : Int} {F : Int → Option α} (r : (-2147483648 ≤ x ∧ x ≤ 2147483647) ∧ (-2147483648 ≤ y ∧ y ≤ 2147483647)) (h : ∀ v, -2147483648 ≤ v → v ≤ 2147483647 → (v = x + y ∨ v = x + y - 4294967296 ∨ v = x + y + 4294967296) → Ok_ (F v) Q) : Ok_ (xl (oq_add x y) F) Q := by
  have e : oq_add x y = (Int32.ofInt (x + y)).toInt := by unfold oq_add; rw [← Int32.ofInt_add]
  obtain ⟨k, hk⟩ := w32 (x + y)
  have a1 : -2147483648 ≤ (Int32.ofInt (x + y)).toInt := Int.le_trans (by decide) (Int32.le_toInt _)
  have a2 : (Int32.ofInt (x + y)).toInt < 2147483648 := Int.lt_of_lt_of_le (Int32.toInt_lt _) (by decide)
  rw [← e] at hk a1 a2
  exact h _ a1 (by omega) (by omega)
theorem ok_subW {α : Type} {Q : α → Prop} {x y : Int} {F : Int → Option α} (r : (-2147483648 ≤ x ∧ x ≤ 2147483647) ∧ (-2147483648 ≤ y ∧ y ≤ 2147483647)) (h : ∀ v, -2147483648 ≤ v → v ≤ 2147483647 → (v = x - y ∨ v = x - y - 4294967296 ∨ v = x - y + 4294967296) → Ok_ (F v) Q) : Ok_ (xl (oq_sub x y) F) Q := by
  have e : oq_sub x y = (Int32.ofInt (x - y)).toInt := by unfold oq_sub; rw [← Int32.ofInt_sub]
  obtain ⟨k, hk⟩ := w32 (x - y)
  have a1 : -2147483648 ≤ (Int32.ofInt (x - y)).toInt := Int.le_trans (by decide) (Int32.le_toInt _)
  have a2 : (Int32.ofInt (x - y)).toInt < 2147483648 := Int.lt_of_lt_of_le (Int32.toInt_lt _) (by decide)
  rw [← e] at hk a1 a2
  exact h _ a1 (by omega) (by omega)
