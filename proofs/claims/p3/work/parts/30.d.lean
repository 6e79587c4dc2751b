section
variable {α β γ δ : Type} {R : α → β → Prop}
theorem sm_oq_add {a b : Int32} {x y : Int} (ea : a.toInt = x) (eb : b.toInt = y) {F : Int32 → Option α} {G : Int → Option β} (h : ∀ (v : Int32) (z : Int), v.toInt = z → Sm_ R (F v) (G z)) : Sm_ R (xl (a + b) F) (xl (oq_add x y) G) := by
  unfold oq_add; rw [of_to ea, of_to eb]; exact h _ _ rfl
theorem sm_oq_sub {a b : Int32} {x y : Int} (ea : a.toInt = x) (eb : b.toInt = y) {F : Int32 → Option α} {G : Int → Option β} (h : ∀ (v : Int32) (z : Int), v.toInt = z → Sm_ R (F v) (G z)) : Sm_ R (xl (a - b) F) (xl (oq_sub x y) G) := by
  unfold oq_sub; rw [of_to ea, of_to eb]; exact h _ _ rfl
theorem sm_oq_mul {a b : Int32} {x y : Int} (ea : a.toInt = x) (eb : b.toInt = y) {F : Int32 → Option α} {G : Int → Option β} (h : ∀ (v : Int32) (z : Int), v.toInt = z → Sm_ R (F v) (G z)) : Sm_ R (xl (a * b) F) (xl (oq_mul x y) G) := by
  unfold oq_mul; rw [of_to ea, of_to eb]; exact h _ _ rfl
theorem sm_oq_div {a b : Int32} {x y : Int} (ea : a.toInt = x) (eb : b.toInt = y) {F : Int32 → Option α} {G : Int → Option β} (h : ∀ (v : Int32) (z : Int), v.toInt = z → Sm_ R (F v) (G z)) : Sm_ R (xl (a / b) F) (xl (oq_div x y) G) := by
  unfold oq_div; rw [of_to ea, of_to eb]; exact h _ _ rfl
theorem sm_oq_rem {a b : Int32} {x y : Int} (ea : a.toInt = x) (eb : b.toInt = y) {F : Int32 → Option α} {G : Int → Option β} (h : ∀ (v : Int32) (z : Int), v.toInt = z → Sm_ R (F v) (G z)) : Sm_ R (xl (a - a / b * b) F) (xl (oq_rem x y) G) := by
  unfold oq_rem; rw [of_to ea, of_to eb]; exact h _ _ rfl
theorem sm_oq_and {a b : Int32} {x y : Int} (ea : a.toInt = x) (eb : b.toInt = y) {F : Int32 → Option α} {G : Int → Option β} (h : ∀ (v : Int32) (z : Int), v.toInt = z → Sm_ R (F v) (G z)) : Sm_ R (xl (a &&& b) F) (xl (oq_and x y) G) := by
  unfold oq_and; rw [of_to ea, of_to eb]; exact h _ _ rfl
theorem sm_oq_or {a b : Int32} {x y : Int} (ea : a.toInt = x) (eb : b.toInt = y) {F : Int32 → Option α} {G : Int → Option β} (h : ∀ (v : Int32) (z : Int), v.toInt = z → Sm_ R (F v) (G z)) : Sm_ R (xl (a ||| b) F) (xl (oq_or x y) G) := by
  unfold oq_or; rw [of_to ea, of_to eb]; exact h _ _ rfl
theorem sm_oq_xor {a b : Int32} {x y : Int} (ea : a.toInt = x) (eb : b.toInt = y) {F : Int32 → Option α} {G : Int → Option β} (h : ∀ (v : Int32) (z : Int), v.toInt = z → Sm_ R (F v) (G z)) : Sm_ R (xl (a ^^^ b) F) (xl (oq_xor x y) G) := by
  unfold oq_xor; rw [of_to ea, of_to eb]; exact h _ _ rfl
theorem sm_oq_shl {a b : Int32} {x y : Int} (ea : a.toInt = x) (eb : b.toInt = y) {F : Int32 → Option α} {G : Int → Option β} (h : ∀ (v : Int32) (z : Int), v.toInt = z → Sm_ R (F v) (G z)) : Sm_ R (xl (a <<< (b &&& 31)) F) (xl (oq_shl x y) G) := by
  unfold oq_shl; rw [of_to ea, of_to eb]; exact h _ _ rfl
theorem sm_oq_shr {a b : Int32} {x y : Int} (ea : a.toInt = x) (eb : b.toInt = y) {F : Int32 → Option α} {G : Int → Option β} (h : ∀ (v : Int32) (z : Int), v.toInt = z → Sm_ R (F v) (G z)) : Sm_ R (xl (a >>> (b &&& 31)) F) (xl (oq_shr x y) G) := by
  unfold oq_shr; rw [of_to ea, of_to eb]; exact h _ _ rfl
theorem sm_oq_ushr {a b : Int32} {x y : Int} (ea : a.toInt = x) (eb : b.toInt = y) {F : Int32 → Option α} {G : Int → Option β} (h : ∀ (v : Int32) (z : Int), v.toInt = z → Sm_ R (F v) (G z)) : Sm_ R (xl ((a.toUInt32 >>> (b.toUInt32 &&& Int32.toUInt32 31)).toInt32) F) (xl (oq_ushr x y) G) := by
  unfold oq_ushr; rw [of_to ea, of_to eb]; exact h _ _ rfl
theorem sm_oq_neg {a : Int32} {x : Int} (ea : a.toInt = x) {F : Int32 → Option α} {G : Int → Option β} (h : ∀ (v : Int32) (z : Int), v.toInt = z → Sm_ R (F v) (G z)) : Sm_ R (xl (-a) F) (xl (oq_neg x) G) := by
  unfold oq_neg; rw [of_to ea]; exact h _ _ rfl
theorem sm_oq_b {a : Int32} {x : Int} (ea : a.toInt = x) {F : Int32 → Option α} {G : Int → Option β} (h : ∀ (v : Int32) (z : Int), v.toInt = z → Sm_ R (F v) (G z)) : Sm_ R (xl (a.toInt8.toInt32) F) (xl (oq_b x) G) := by
  unfold oq_b; rw [of_to ea]; exact h _ _ rfl
theorem sm_oq_s {a : Int32} {x : Int} (ea : a.toInt = x) {F : Int32 → Option α} {G : Int → Option β} (h : ∀ (v : Int32) (z : Int), v.toInt = z → Sm_ R (F v) (G z)) : Sm_ R (xl (a.toInt16.toInt32) F) (xl (oq_s x) G) := by
  unfold oq_s; rw [of_to ea]; exact h _ _ rfl
theorem sm_add {a b : Int32} {x y : Int} (ea : a.toInt = x) (eb : b.toInt = y) {F : Int32 → Option α} {G : Int → Option β} (h : ∀ (v : Int32) (z : Int), v.toInt = z → Sm_ R (F v) (G z)) : Sm_ R (xl (a + b) F) (ck_3 (x + y) G) := by
  unfold ck_3; split
  · rename_i h2
    refine h _ _ ?_
    rw [Int32.toInt_add, ea, eb]
    exact Int.bmod_eq_of_le (by omega) (by omega)
  · exact sm_no
theorem sm_sub {a b : Int32} {x y : Int} (ea : a.toInt = x) (eb : b.toInt = y) {F : Int32 → Option α} {G : Int → Option β} (h : ∀ (v : Int32) (z : Int), v.toInt = z → Sm_ R (F v) (G z)) : Sm_ R (xl (a - b) F) (ck_3 (x - y) G) := by
  unfold ck_3; split
  · rename_i h2
    refine h _ _ ?_
    rw [Int32.toInt_sub, ea, eb]
    exact Int.bmod_eq_of_le (by omega) (by omega)
  · exact sm_no
theorem sm_mul {a b : Int32} {x y : Int} (ea : a.toInt = x) (eb : b.toInt = y) {F : Int32 → Option α} {G : Int → Option β} (h : ∀ (v : Int32) (z : Int), v.toInt = z → Sm_ R (F v) (G z)) : Sm_ R (xl (a * b) F) (ck_3 (x * y) G) := by
  unfold ck_3; split
  · rename_i h2
    refine h _ _ ?_
    rw [Int32.toInt_mul, ea, eb]
    exact Int.bmod_eq_of_le (by omega) (by omega)
  · exact sm_no
theorem sm_div {a b : Int32} {x : Int} {y : Int} (ea : a.toInt = x) (eb : b.toInt = y ∧ 0 < y) {F : Int32 → Option α} {G : Int → Option β} (h : ∀ (v : Int32) (z : Int), v.toInt = z → Sm_ R (F v) (G z)) : Sm_ R (xl (a / b) F) (xl (Int.tdiv x y) G) := by
  refine h _ _ ?_
  rw [Int32.toInt_div_of_ne_right _ _ (by intro z; rw [z] at eb; have : (-1 : Int32).toInt = -1 := rfl; omega), ea, eb.1]
theorem sm_rem {a b : Int32} {x : Int} {y : Int} (ea : a.toInt = x) (eb : b.toInt = y ∧ 0 < y) {F : Int32 → Option α} {G : Int → Option β} (h : ∀ (v : Int32) (z : Int), v.toInt = z → Sm_ R (F v) (G z)) : Sm_ R (xl (a - a / b * b) F) (xl (Int.tmod x y) G) := by
  refine h _ _ ?_
  have hr := rg_i a
  rw [ea] at hr
  have hb := rg_e eb.1
  have hq : (a / b).toInt = x.tdiv y := by
    rw [Int32.toInt_div_of_ne_right _ _ (by intro z; rw [z] at eb; have : (-1 : Int32).toInt = -1 := rfl; omega), ea, eb.1]
  have h1 : x.tdiv y * y = x - x.tmod y := by have := Int.mul_tdiv_add_tmod x y; rw [Int.mul_comm]; omega
  have h2 : x.tmod y ≤ x.natAbs ∧ -(x.natAbs : Int) ≤ x.tmod y ∧ (0 ≤ x → 0 ≤ x.tmod y) ∧ (x ≤ 0 → x.tmod y ≤ 0) := by
    have t1 := Int.natAbs_tmod x y
    have t2 := Nat.mod_le x.natAbs y.natAbs
    have t3 : 0 ≤ x → 0 ≤ x.tmod y := fun q => Int.tmod_nonneg y q
    have t4 : x ≤ 0 → x.tmod y ≤ 0 := fun q => by
      have := Int.tmod_nonneg (a := -x) y (by omega)
      rw [Int.neg_tmod] at this; omega
    refine ⟨by omega, by omega, t3, t4⟩
  have h3 : (a / b * b).toInt = x - x.tmod y := by
    rw [Int32.toInt_mul, hq, eb.1, h1]
    exact Int.bmod_eq_of_le (by omega) (by omega)
  rw [Int32.toInt_sub, h3, ea]
  have : x - (x - x.tmod y) = x.tmod y := by omega
  rw [this]
  exact Int.bmod_eq_of_le (by omega) (by omega)
theorem sm_ite {a b c d : Int32} {x y z w : Int} (ea : a.toInt = x) (eb : b.toInt = y) (ec : c.toInt = z) (ed : d.toInt = w) {F : Int32 → Option α} {G : Int → Option β} (h : ∀ (v : Int32) (z9 : Int), v.toInt = z9 → Sm_ R (F v) (G z9)) : Sm_ R (xl (if a < b then c else d) F) (xl (if x < y then z else w) G) := by
  by_cases hq : x < y
  · rw [if_pos hq, if_pos (by rw [Int32.lt_iff_toInt_lt, ea, eb]; exact hq)]; exact h _ _ ec
  · rw [if_neg hq, if_neg (by rw [Int32.lt_iff_toInt_lt, ea, eb]; exact hq)]; exact h _ _ ed
theorem sm_addL {a b : Int64} {x y : Int} (ea : a.toInt = x) (eb : b.toInt = y) {F : Int64 → Option α} {G : Int → Option β} (h : ∀ (v : Int64) (z : Int), v.toInt = z → Sm_ R (F v) (G z)) : Sm_ R (xl (a + b) F) (ck_6 (x + y) G) := by
  unfold ck_6; split
  · rename_i h2
    refine h _ _ ?_
    rw [Int64.toInt_add, ea, eb]
    exact Int.bmod_eq_of_le (by omega) (by omega)
  · exact sm_no
theorem sm_subL {a b : Int64} {x y : Int} (ea : a.toInt = x) (eb : b.toInt = y) {F : Int64 → Option α} {G : Int → Option β} (h : ∀ (v : Int64) (z : Int), v.toInt = z → Sm_ R (F v) (G z)) : Sm_ R (xl (a - b) F) (ck_6 (x - y) G) := by
  unfold ck_6; split
  · rename_i h2
    refine h _ _ ?_
    rw [Int64.toInt_sub, ea, eb]
    exact Int.bmod_eq_of_le (by omega) (by omega)
  · exact sm_no
theorem sm_mulL {a b : Int64} {x y : Int} (ea : a.toInt = x) (eb : b.toInt = y) {F : Int64 → Option α} {G : Int → Option β} (h : ∀ (v : Int64) (z : Int), v.toInt = z → Sm_ R (F v) (G z)) : Sm_ R (xl (a * b) F) (ck_6 (x * y) G) := by
  unfold ck_6; split
  · rename_i h2
    refine h _ _ ?_
    rw [Int64.toInt_mul, ea, eb]
    exact Int.bmod_eq_of_le (by omega) (by omega)
  · exact sm_no
theorem sm_iteL {a b c d : Int64} {x y z w : Int} (ea : a.toInt = x) (eb : b.toInt = y) (ec : c.toInt = z) (ed : d.toInt = w) {F : Int64 → Option α} {G : Int → Option β} (h : ∀ (v : Int64) (z9 : Int), v.toInt = z9 → Sm_ R (F v) (G z9)) : Sm_ R (xl (if a < b then c else d) F) (xl (if x < y then z else w) G) := by
  by_cases hq : x < y
  · rw [if_pos hq, if_pos (by rw [Int64.lt_iff_toInt_lt, ea, eb]; exact hq)]; exact h _ _ ec
  · rw [if_neg hq, if_neg (by rw [Int64.lt_iff_toInt_lt, ea, eb]; exact hq)]; exact h _ _ ed
theorem sm_i2l {a : Int32} {x : Int} (ea : a.toInt = x) {F : Int64 → Option α} {G : Int → Option β} (h : ∀ (v : Int64) (z : Int), v.toInt = z → Sm_ R (F v) (G z)) : Sm_ R (xl (a.toInt64) F) (xl x G) := h _ _ (by rw [Int32.toInt_toInt64]; exact ea)
theorem sm_l2i {a : Int64} {x : Int} (ea : a.toInt = x) {F : Int32 → Option α} {G : Int → Option β} (h : ∀ (v : Int32) (z : Int), v.toInt = z → Sm_ R (F v) (G z)) : Sm_ R (xl (a.toInt32) F) (xl (oq_l2i x) G) := by
  unfold oq_l2i; rw [← ea, Int64.ofInt_toInt]; exact h _ _ rfl
theorem sm_lcmp {a b : Int64} {x y : Int} (ea : a.toInt = x) (eb : b.toInt = y) {F : Int32 → Option α} {G : Int → Option β} (h : ∀ (v : Int32) (z : Int), v.toInt = z → Sm_ R (F v) (G z)) : Sm_ R (xl (if b < a then (1 : Int32) else if a = b then 0 else -1) F) (xl (oq_cmp x y) G) := by
  unfold oq_cmp
  by_cases h1 : y < x
  · rw [if_pos h1, if_pos (by rw [Int64.lt_iff_toInt_lt, ea, eb]; exact h1)]; exact h _ _ rfl
  · rw [if_neg h1, if_neg (by rw [Int64.lt_iff_toInt_lt, ea, eb]; exact h1)]
    by_cases h2 : x = y
    · rw [if_pos h2, if_pos (Int64.toInt_inj.mp (by rw [ea, eb]; exact h2))]; exact h _ _ rfl
    · rw [if_neg h2, if_neg (fun z => h2 (by rw [← ea, ← eb, z]))]; exact h _ _ rfl
theorem sm_le {a b : Int32} {x y : Int} (ea : a.toInt = x) (eb : b.toInt = y) {A B : Option α} {A2 B2 : Option β} (h1 : Sm_ R A A2) (h2 : Sm_ R B B2) : Sm_ R (if a ≤ b then A else B) (if x ≤ y then A2 else B2) := by
  have hq : (a ≤ b) ↔ (x ≤ y) := by rw [Int32.le_iff_toInt_le, ea, eb]
  by_cases hc : x ≤ y
  · rw [if_pos hc, if_pos (hq.mpr hc)]; exact h1
  · rw [if_neg hc, if_neg (fun z => hc (hq.mp z))]; exact h2
theorem sm_lt {a b : Int32} {x y : Int} (ea : a.toInt = x) (eb : b.toInt = y) {A B : Option α} {A2 B2 : Option β} (h1 : Sm_ R A A2) (h2 : Sm_ R B B2) : Sm_ R (if a < b then A else B) (if x < y then A2 else B2) := by
  have hq : (a < b) ↔ (x < y) := by rw [Int32.lt_iff_toInt_lt, ea, eb]
  by_cases hc : x < y
  · rw [if_pos hc, if_pos (hq.mpr hc)]; exact h1
  · rw [if_neg hc, if_neg (fun z => hc (hq.mp z))]; exact h2
theorem sm_eq {a b : Int32} {x y : Int} (ea : a.toInt = x) (eb : b.toInt = y) {A B : Option α} {A2 B2 : Option β} (h1 : Sm_ R A A2) (h2 : Sm_ R B B2) : Sm_ R (if a = b then A else B) (if x = y then A2 else B2) := by
  have hq : (a = b) ↔ (x = y) := by rw [← Int32.toInt_inj, ea, eb]
  by_cases hc : x = y
  · rw [if_pos hc, if_pos (hq.mpr hc)]; exact h1
  · rw [if_neg hc, if_neg (fun z => hc (hq.mp z))]; exact h2
theorem sm_ne {a b : Int32} {x y : Int} (ea : a.toInt = x) (eb : b.toInt = y) {A B : Option α} {A2 B2 : Option β} (h1 : Sm_ R A A2) (h2 : Sm_ R B B2) : Sm_ R (if ¬ a = b then A else B) (if ¬ x = y then A2 else B2) := by
  have hq : (¬ a = b) ↔ (¬ x = y) := not_congr (by rw [← Int32.toInt_inj, ea, eb])
  by_cases hc : ¬ x = y
  · rw [if_pos hc, if_pos (hq.mpr hc)]; exact h1
  · rw [if_neg hc, if_neg (fun z => hc (hq.mp z))]; exact h2
theorem sm_nle {a b : Int32} {x y : Int} (ea : a.toInt = x) (eb : b.toInt = y) {A B : Option α} {A2 B2 : Option β} (h1 : Sm_ R A A2) (h2 : Sm_ R B B2) : Sm_ R (if ¬ a ≤ b then A else B) (if ¬ x ≤ y then A2 else B2) := by
  have hq : (¬ a ≤ b) ↔ (¬ x ≤ y) := not_congr (by rw [Int32.le_iff_toInt_le, ea, eb])
  by_cases hc : ¬ x ≤ y
  · rw [if_pos hc, if_pos (hq.mpr hc)]; exact h1
  · rw [if_neg hc, if_neg (fun z => hc (hq.mp z))]; exact h2
theorem sm_nlt {a b : Int32} {x y : Int} (ea : a.toInt = x) (eb : b.toInt = y) {A B : Option α} {A2 B2 : Option β} (h1 : Sm_ R A A2) (h2 : Sm_ R B B2) : Sm_ R (if ¬ a < b then A else B) (if ¬ x < y then A2 else B2) := by
  have hq : (¬ a < b) ↔ (¬ x < y) := not_congr (by rw [Int32.lt_iff_toInt_lt, ea, eb])
  by_cases hc : ¬ x < y
  · rw [if_pos hc, if_pos (hq.mpr hc)]; exact h1
  · rw [if_neg hc, if_neg (fun z => hc (hq.mp z))]; exact h2
theorem sm_rV {M : ms_M} (hM : Rg_M M) : Sm_ RV_ (some (H_M M)) (some M) := sm_ret ⟨rfl, hM⟩
theorem sm_rI {M : ms_M} {v : Int32} {y : Int} (e : v.toInt = y) (hM : Rg_M M) : Sm_ RI_ (some (v, H_M M)) (some (y, M)) := sm_ret ⟨e, rfl, hM⟩
theorem sm_rP {M : ms_M} {v : Int32} {y : Int} (e : v.toInt = y) : Sm_ (RP_ M) (some (v, H_M M)) (some y) := sm_ret ⟨e, rfl⟩
theorem sm_rQo {M : ms_M} {y : Int} : Sm_ (RQ_ M) (some (rf_O y, H_M M)) (some y) := sm_ret ⟨rfl, rfl⟩
theorem sm_rQs {M : ms_M} {b : Nat} : Sm_ (RQ_ M) (some (some b, H_M M)) (some ((b : Nat) : Int)) := sm_ret ⟨rf_s b, rfl⟩
theorem sm_rQn {M : ms_M} : Sm_ (RQ_ M) (some (none, H_M M)) (some (-1)) := sm_ret ⟨rf_n, rfl⟩
theorem sm_rN {M : ms_M} : Sm_ (RN_ M) (some (H_M M)) (some ()) := sm_ret rfl
theorem sm_rC {M : ms_M} {c s : Nat} (hM : Rg_M M) : Sm_ RC_ (some (H_M M, c, s)) (some (M, c, s)) := sm_ret ⟨rfl, hM, rfl⟩
theorem sm_rD {M : ms_M} {v : Int32} {y : Int} {c s : Nat} (e : v.toInt = y) (hM : Rg_M M) : Sm_ RD_ (some (v, H_M M, c, s)) (some (y, M, c, s)) := sm_ret ⟨e, rfl, hM, rfl⟩
theorem sm_rEo {M : ms_M} {y : Int} {c s : Nat} (hM : Rg_M M) : Sm_ RE_ (some (rf_O y, H_M M, c, s)) (some (y, M, c, s)) := sm_ret ⟨rfl, rfl, hM, rfl⟩
theorem sm_rEs {M : ms_M} {b : Nat} {c s : Nat} (hM : Rg_M M) : Sm_ RE_ (some (some b, H_M M, c, s)) (some (((b : Nat) : Int), M, c, s)) := sm_ret ⟨rf_s b, rfl, hM, rfl⟩
theorem sm_bind {S : γ → δ → Prop} {x : Option γ} {y : Option δ} {F : γ → Option α} {G : δ → Option β} (h1 : Sm_ S x y) (h2 : ∀ a b, S a b → Sm_ R (F a) (G b)) : Sm_ R (mx_sv x F) (mx_sv y G) := by
  cases y with
  | none => exact sm_no
  | some b =>
    obtain ⟨a, ha, hs⟩ := h1 b rfl
    rw [ha]; exact h2 a b hs
theorem sm_cP {M : ms_M} {x : Option (Int32 × mx_H)} {y : Option Int} {F : Int32 × mx_H → Option α} {G : Int → Option β} (h1 : Sm_ (RP_ M) x y) (h2 : ∀ (v : Int32) (z : Int), v.toInt = z → Sm_ R (F (v, H_M M)) (G z)) : Sm_ R (mx_sv x F) (mx_sv y G) := sm_bind h1 (fun a b hs => by
  obtain ⟨v, hh⟩ := a; obtain ⟨e, e2⟩ := hs; cases (e2 : hh = _); exact h2 v b e)
theorem sm_cQ {M : ms_M} {x : Option (Option Nat × mx_H)} {y : Option Int} {F : Option Nat × mx_H → Option α} {G : Int → Option β} (h1 : Sm_ (RQ_ M) x y) (h2 : ∀ (z : Int), Sm_ R (F (rf_O z, H_M M)) (G z)) : Sm_ R (mx_sv x F) (mx_sv y G) := sm_bind h1 (fun a b hs => by
  obtain ⟨v, hh⟩ := a; obtain ⟨e, e2⟩ := hs; cases (e2 : hh = _); cases (e : v = _); exact h2 b)
theorem sm_cN {M : ms_M} {x : Option mx_H} {y : Option Unit} {F : mx_H → Option α} {G : Unit → Option β} (h1 : Sm_ (RN_ M) x y) (h2 : Sm_ R (F (H_M M)) (G ())) : Sm_ R (mx_sv x F) (mx_sv y G) := sm_bind h1 (fun a b hs => by
  cases (hs : a = _); exact h2)
theorem sm_cV {x : Option mx_H} {y : Option ms_M} {F : mx_H → Option α} {G : ms_M → Option β} (h1 : Sm_ RV_ x y) (h2 : ∀ M, Rg_M M → Sm_ R (F (H_M M)) (G M)) : Sm_ R (mx_sv x F) (mx_sv y G) := sm_bind h1 (fun a b hs => by
  obtain ⟨e, hM⟩ := hs; cases (e : a = _); exact h2 b hM)
theorem sm_cI {x : Option (Int32 × mx_H)} {y : Option (Int × ms_M)} {F : Int32 × mx_H → Option α} {G : Int × ms_M → Option β} (h1 : Sm_ RI_ x y) (h2 : ∀ (v : Int32) (z : Int) (M : ms_M), v.toInt = z → Rg_M M → Sm_ R (F (v, H_M M)) (G (z, M))) : Sm_ R (mx_sv x F) (mx_sv y G) := sm_bind h1 (fun a b hs => by
  obtain ⟨v, hh⟩ := a; obtain ⟨z, M⟩ := b; obtain ⟨e, e2, hM⟩ := hs; cases (e2 : hh = _); exact h2 v z M e hM)
theorem sm_cC {x : Option (mx_H × Nat × Nat)} {y : Option (ms_M × Nat × Nat)} {F : mx_H × Nat × Nat → Option α} {G : ms_M × Nat × Nat → Option β} (h1 : Sm_ RC_ x y) (h2 : ∀ (M : ms_M) (c s : Nat), Rg_M M → Sm_ R (F (H_M M, c, s)) (G (M, c, s))) : Sm_ R (mx_sv x F) (mx_sv y G) := sm_bind h1 (fun a b hs => by
  obtain ⟨hh, q⟩ := a; obtain ⟨M, c, s⟩ := b; obtain ⟨e2, hM, e3⟩ := hs; cases (e2 : hh = _); cases (e3 : q = _); exact h2 M c s hM)
theorem sm_cD {x : Option (Int32 × mx_H × Nat × Nat)} {y : Option (Int × ms_M × Nat × Nat)} {F : Int32 × mx_H × Nat × Nat → Option α} {G : Int × ms_M × Nat × Nat → Option β} (h1 : Sm_ RD_ x y) (h2 : ∀ (v : Int32) (z : Int) (M : ms_M) (c s : Nat), v.toInt = z → Rg_M M → Sm_ R (F (v, H_M M, c, s)) (G (z, M, c, s))) : Sm_ R (mx_sv x F) (mx_sv y G) := sm_bind h1 (fun a b hs => by
  obtain ⟨v, hh, q⟩ := a; obtain ⟨z, M, c, s⟩ := b; obtain ⟨e, e2, hM, e3⟩ := hs; cases (e2 : hh = _); cases (e3 : q = _); exact h2 v z M c s e hM)
theorem sm_cE {x : Option (Option Nat × mx_H × Nat × Nat)} {y : Option (Int × ms_M × Nat × Nat)} {F : Option Nat × mx_H × Nat × Nat → Option α} {G : Int × ms_M × Nat × Nat → Option β} (h1 : Sm_ RE_ x y) (h2 : ∀ (z : Int) (M : ms_M) (c s : Nat), Rg_M M → Sm_ R (F (rf_O z, H_M M, c, s)) (G (z, M, c, s))) : Sm_ R (mx_sv x F) (mx_sv y G) := sm_bind h1 (fun a b hs => by
  obtain ⟨v, hh, q⟩ := a; obtain ⟨z, M, c, s⟩ := b; obtain ⟨e, e2, hM, e3⟩ := hs; cases (e : v = _); cases (e2 : hh = _); cases (e3 : q = _); exact h2 z M c s hM)
end
