section
variable {KT : Int} {nn : Nat} {h : ms_M}
/-- the words of the frames are types -/
def W12 (KT n : Int) (h : ms_M) : Prop := ∀ x : Nat, (x : Int) < n → 0 ≤ h 212 x ∧ h 212 x < KT
/-- what is written of a frame's words -/
def S12 (h r : ms_M) : Prop := ∀ c k : Nat, c ≠ 212 → ¬ (c = 160 ∧ k = 79) → r c k = h c k
theorem s12_w {z : ms_M} {j : Nat} {v : Int} (E : z = up_M h 212 j v) : S12 h z := fun c k h1 _ => by rw [E]; exact up_n (by omega)
theorem s12_tr {g r : ms_M} (a : S12 h g) (b : S12 g r) : S12 h r := fun c k h1 h2 => by rw [b c k h1 h2, a c k h1 h2]
theorem w12_w {z : ms_M} {n j v : Int} (W : W12 KT n h) (E : z = up_M h 212 j.toNat v) (hj : j = n) (h0 : 0 ≤ n) (hv : 0 ≤ v ∧ v < KT) : W12 KT (n + 1) z := fun x hx => by
  by_cases q : x = j.toNat
  · rw [q, E, up_s]; exact hv
  · rw [E, up_n (by omega)]; exact W x (by omega)
theorem vm_192 {l3 : Int} (r3 : 0 ≤ l3 ∧ l3 ≤ 1) : ∀ (k : Nat) (l4 : Int) (h : ms_M), VS_ h → W12 KT (h 160 79 + l3 + h 160 50 + l4) h → (∀ x : Nat, (x : Int) < h 160 70 → 0 ≤ h 207 x ∧ h 207 x < KT) → h 160 79 + l3 + h 160 50 + h 160 70 ≤ 60000 → (0 ≤ l4 ∧ l4 ≤ h 160 70) → 3001 - l4 < (k : Int) → Ok_ (qw_X13_frame_192 nn k l3 l4 h) (fun r => VS_ r ∧ r 160 79 = h 160 79 + l3 + h 160 50 + h 160 70 ∧ W12 KT (r 160 79) r ∧ S12 h r) := by
  intro k
  induction k with
  | zero => intro l4 h V W T hb r4 hm; have := gF_160_70 V; exfalso; omega
  | succ k ih =>
    intro l4 h V W T hb r4 hm
    have g70 := gF_160_70 V
    have g50 := gF_160_50 V
    have g79 := gF_160_79 V
    unfold qw_X13_frame_192
    refine ok_if (fun C => ?_) (fun C => ?_)
    · refine ok_add (by omega) ?_; intro v4 e4
      refine ok_add (by omega) ?_; intro v6 e6
      refine ok_add (by omega) ?_; intro v7 e7
      refine ok_xl ?_; intro h8 E8
      have q : h8 160 79 = v7 := by rw [E8]; exact up_s
      refine ok_ret ⟨by rw [E8]; exact wF_160_79 V (by omega), by omega, fun x hx => ?_, fun c k h1 h2 => by rw [E8]; exact up_n h2⟩
      rw [E8, up_n (by omega)]; exact W x (by omega)
    · refine ok_add (by omega) ?_; intro v11 e11
      refine ok_add (by omega) ?_; intro v13 e13
      refine ok_add (by omega) ?_; intro v14 e14
      refine ok_rd (by omega) (gA_207 V) ?_; intro v16 e16 a16 b16
      have t16 := T l4.toNat (by omega)
      rw [← e16] at t16
      refine ok_wA (by omega) ?_; intro h17 E17
      have V17 : VS_ h17 := by rw [E17]; exact wA_212 V (by omega)
      have S17 := s12_w E17
      have q70 := S17 160 70 (by decide) (by decide)
      have q50 := S17 160 50 (by decide) (by decide)
      have q79 : h17 160 79 = h 160 79 := by rw [E17]; exact up_n (by omega)
      refine ok_add (by omega) ?_; intro v18 e18
      refine ok_im (ih v18 h17 V17 ?_ ?_ (by omega) (by omega) (by omega)) (fun r p => ⟨p.1, by have := p.2.1; omega, p.2.2.1, s12_tr S17 p.2.2.2⟩)
      · have := w12_w W E17 (by omega) (by omega) t16
        rw [q79, q50, e18]
        rw [show h 160 79 + l3 + h 160 50 + (l4 + 1) = h 160 79 + l3 + h 160 50 + l4 + 1 by omega]
        exact this
      · intro x hx
        rw [S17 207 x (by decide) (by omega)]; exact T x (by omega)
theorem vm_153 (hn : 1000000 ≤ nn) {l3 : Int} (r3 : 0 ≤ l3 ∧ l3 ≤ 1) : ∀ (k : Nat) (l4 : Int) (h : ms_M), VS_ h → W12 KT (h 160 79 + l3 + l4) h → (∀ x : Nat, (x : Int) < h 160 70 → 0 ≤ h 207 x ∧ h 207 x < KT) → (∀ x : Nat, (x : Int) < h 160 50 → 0 ≤ h 197 x ∧ h 197 x < KT) → h 160 79 + l3 + h 160 50 + h 160 70 ≤ 60000 → (0 ≤ l4 ∧ l4 ≤ h 160 50) → 3001 - l4 < (k : Int) → Ok_ (qw_X13_frame_153 nn k l3 l4 h) (fun r => VS_ r ∧ r 160 79 = h 160 79 + l3 + h 160 50 + h 160 70 ∧ W12 KT (r 160 79) r ∧ S12 h r) := by
  intro k
  induction k with
  | zero => intro l4 h V W T U hb r4 hm; have := gF_160_50 V; exfalso; omega
  | succ k ih =>
    intro l4 h V W T U hb r4 hm
    have g70 := gF_160_70 V
    have g50 := gF_160_50 V
    have g79 := gF_160_79 V
    unfold qw_X13_frame_153
    refine ok_if (fun C => ?_) (fun C => ?_)
    · refine vm_192 r3 nn 0 h V (fun x hx => W x (by omega)) T hb (by omega) (by omega)
    · refine ok_add (by omega) ?_; intro v23 e23
      refine ok_add (by omega) ?_; intro v24 e24
      refine ok_rd (by omega) (gA_197 V) ?_; intro v26 e26 a26 b26
      have t26 := U l4.toNat (by omega)
      rw [← e26] at t26
      refine ok_wA (by omega) ?_; intro h27 E27
      have V27 : VS_ h27 := by rw [E27]; exact wA_212 V (by omega)
      have S27 := s12_w E27
      have q70 := S27 160 70 (by decide) (by decide)
      have q50 := S27 160 50 (by decide) (by decide)
      have q79 : h27 160 79 = h 160 79 := by rw [E27]; exact up_n (by omega)
      refine ok_add (by omega) ?_; intro v28 e28
      refine ok_im (ih v28 h27 V27 ?_ ?_ ?_ (by omega) (by omega) (by omega)) (fun r p => ⟨p.1, by have := p.2.1; omega, p.2.2.1, s12_tr S27 p.2.2.2⟩)
      · have := w12_w W E27 (by omega) (by omega) t26
        rw [q79, e28, show h 160 79 + l3 + (l4 + 1) = h 160 79 + l3 + l4 + 1 by omega]
        exact this
      · intro x hx
        rw [S27 207 x (by decide) (by omega)]; exact T x (by omega)
      · intro x hx
        rw [S27 197 x (by decide) (by omega)]; exact U x (by omega)
/-- what the frames keep: places apart, words within those written (or none was written for want of room) -/
def FI (KT : Int) (h : ms_M) : Prop := W12 KT (h 160 79) h ∧ (∀ f : Nat, (f : Int) < h 160 78 → (h 209 f ≤ h 160 79 ∧ h 210 f ≤ h 160 72 + 1 ∧ h 211 f ≤ h 160 71) ∧ (h 209 f + h 210 f + h 211 f ≤ h 160 79 ∨ 60000 < h 160 79 + 1 + h 160 72 + h 160 71)) ∧ (∀ f g : Nat, (f : Int) < h 160 78 → (g : Int) < h 160 78 → h 208 f = h 208 g → f = g)
/-- behind a frame -/
def QF (KT : Int) (h r : ms_M) : Prop := VS_ r ∧ FI KT r ∧ (h 160 78 ≤ r 160 78 ∧ r 160 78 ≤ h 160 78 + 1) ∧ (h 160 79 ≤ r 160 79 ∧ r 160 79 ≤ h 160 79 + 1 + h 160 50 + h 160 70)
theorem vm_80 (hn : 1000000 ≤ nn) {l2 s0 : Int} (V : VS_ h) (r2 : 0 ≤ l2 ∧ l2 ≤ 6199) (rs : 0 ≤ s0 ∧ s0 ≤ 1) (T : ∀ x : Nat, (x : Int) < h 160 70 → 0 ≤ h 207 x ∧ h 207 x < KT) (U : ∀ x : Nat, (x : Int) < h 160 50 → 0 ≤ h 197 x ∧ h 197 x < KT) (hs : h 160 50 ≤ h 160 72 ∧ h 160 70 ≤ h 160 71) (h52 : 8 ≤ h 160 52 ∧ 8 + 2 * h 160 52 < KT ∧ KT ≤ 40) (W : W12 KT (h 160 79) h) (hf : (s0 = 1 ∧ h 160 53 = 0) ∨ (s0 = 0 ∧ ¬ h 160 53 = 0)) : Ok_ (qj_X13_frame_80 nn l2 s0 h) (fun r => VS_ r ∧ W12 KT (r 160 79) r ∧ (h 160 79 ≤ r 160 79 ∧ r 160 79 ≤ h 160 79 + 1 + h 160 50 + h 160 70) ∧ (r 210 l2.toNat = h 160 50 + s0 ∧ r 211 l2.toNat = h 160 70) ∧ (h 160 79 + r 210 l2.toNat + r 211 l2.toNat ≤ r 160 79 ∨ 60000 < h 160 79 + 1 + h 160 72 + h 160 71) ∧ (∀ c k : Nat, c ≠ 212 → ¬ (c = 160 ∧ k = 79) → ¬ ((c = 210 ∨ c = 211) ∧ k = l2.toNat) → r c k = h c k)) := by
  have g70 := gF_160_70 V
  have g50 := gF_160_50 V
  have g79 := gF_160_79 V
  have g71 := gF_160_71 V
  have g72 := gF_160_72 V
  unfold qj_X13_frame_80
  refine ok_add (by omega) ?_; intro v32 e32
  refine ok_wA (by omega) ?_; intro h33 E33
  have V33 : VS_ h33 := by rw [E33]; exact wA_210 V (by omega)
  have n33 : ∀ c k : Nat, ¬ (c = 210 ∧ k = l2.toNat) → h33 c k = h c k := fun c k w => by rw [E33]; exact up_n w
  have p70 := n33 160 70 (by omega)
  refine ok_wA (by omega) ?_; intro h36 E36
  have V36 : VS_ h36 := by rw [E36]; exact wA_211 V33 (by omega)
  have n36 : ∀ c k : Nat, ¬ ((c = 210 ∨ c = 211) ∧ k = l2.toNat) → h36 c k = h c k := fun c k w => by rw [E36, up_n (by omega), n33 c k (by omega)]
  have q70 := n36 160 70 (by omega)
  have q50 := n36 160 50 (by omega)
  have q79 := n36 160 79 (by omega)
  have q53 := n36 160 53 (by omega)
  have q52 := n36 160 52 (by omega)
  have z10 : h36 210 l2.toNat = v32 := by rw [E36, up_n (by omega), E33, up_s]
  have z11 : h36 211 l2.toNat = h 160 70 := by rw [E36, up_s, p70]
  have W36 : W12 KT (h36 160 79) h36 := fun x hx => by rw [n36 212 x (by omega)]; exact W x (by omega)
  have T36 : ∀ x : Nat, (x : Int) < h36 160 70 → 0 ≤ h36 207 x ∧ h36 207 x < KT := fun x hx => by rw [n36 207 x (by omega)]; exact T x (by omega)
  have U36 : ∀ x : Nat, (x : Int) < h36 160 50 → 0 ≤ h36 197 x ∧ h36 197 x < KT := fun x hx => by rw [n36 197 x (by omega)]; exact U x (by omega)
  refine ok_add (by omega) ?_; intro v39 e39
  refine ok_add (by omega) ?_; intro v40 e40
  refine ok_add (by omega) ?_; intro v42 e42
  have K : ∀ r g : ms_M, S12 h36 g → (VS_ r ∧ r 160 79 = g 160 79 + s0 + g 160 50 + g 160 70 ∧ W12 KT (r 160 79) r ∧ S12 g r) → g 160 79 = h36 160 79 → VS_ r ∧ W12 KT (r 160 79) r ∧ (h 160 79 ≤ r 160 79 ∧ r 160 79 ≤ h 160 79 + 1 + h 160 50 + h 160 70) ∧ (r 210 l2.toNat = h 160 50 + s0 ∧ r 211 l2.toNat = h 160 70) ∧ (h 160 79 + r 210 l2.toNat + r 211 l2.toNat ≤ r 160 79 ∨ 60000 < h 160 79 + 1 + h 160 72 + h 160 71) ∧ (∀ c k : Nat, c ≠ 212 → ¬ (c = 160 ∧ k = 79) → ¬ ((c = 210 ∨ c = 211) ∧ k = l2.toNat) → r c k = h c k) := fun r g S P q => by
    obtain ⟨p1, p2, p3, p4⟩ := P
    have S2 := s12_tr S p4
    have s50 := S 160 50 (by decide) (by decide)
    have s70 := S 160 70 (by decide) (by decide)
    have a10 : r 210 l2.toNat = v32 := by rw [S2 210 _ (by decide) (by omega)]; exact z10
    have a11 : r 211 l2.toNat = h 160 70 := by rw [S2 211 _ (by decide) (by omega)]; exact z11
    exact ⟨p1, p3, by omega, by omega, .inl (by omega), fun c k h1 h2 h3 => by rw [S2 c k h1 h2, n36 c k h3]⟩
  refine ok_if (fun C => ?_) (fun C => ?_)
  · refine ok_if (fun C2 => ?_) (fun C2 => ?_)
    · exact ok_im (vm_153 hn rs nn 0 h36 V36 (fun x hx => W36 x (by omega)) T36 U36 (by omega) (by omega) (by omega)) (fun r p => K r h36 (fun _ _ _ _ => rfl) p rfl)
    · refine ok_mul (by omega) ?_; intro v47 e47
      refine ok_add (by omega) ?_; intro v48 e48
      refine ok_wA (by omega) ?_; intro h49 E49
      have V49 : VS_ h49 := by rw [E49]; exact wA_212 V36 (by omega)
      have S49 := s12_w E49
      have s79 : h49 160 79 = h36 160 79 := by rw [E49]; exact up_n (by omega)
      have s50 := S49 160 50 (by decide) (by decide)
      have s70 := S49 160 70 (by decide) (by decide)
      have W49 := w12_w W36 E49 rfl (by omega) (by omega)
      exact ok_im (vm_153 hn rs nn 0 h49 V49 (fun x hx => W49 x (by omega)) (fun x hx => by rw [S49 207 x (by decide) (by omega)]; exact T36 x (by omega)) (fun x hx => by rw [S49 197 x (by decide) (by omega)]; exact U36 x (by omega)) (by omega) (by omega) (by omega)) (fun r p => K r h49 S49 p s79)
  · exact ok_ret ⟨V36, W36, by omega, by omega, .inr (by omega), fun c k h1 h2 h3 => n36 c k h3⟩
/-- what a frame wants of the code's state -/
def FP (KT : Int) (h : ms_M) : Prop := (∀ x : Nat, (x : Int) < h 160 70 → 0 ≤ h 207 x ∧ h 207 x < KT) ∧ (∀ x : Nat, (x : Int) < h 160 50 → 0 ≤ h 197 x ∧ h 197 x < KT) ∧ (h 160 50 ≤ h 160 72 ∧ h 160 70 ≤ h 160 71) ∧ (8 ≤ h 160 52 ∧ 8 + 2 * h 160 52 < KT ∧ KT ≤ 40)
theorem vm_51 (hn : 1000000 ≤ nn) {l1 l2 : Int} {h0 : ms_M} (V : VS_ h) (r1 : 0 ≤ l1 ∧ l1 ≤ 1000000000) (r2 : 0 ≤ l2 ∧ l2 < h 160 78) (P : FP KT h) (W : W12 KT (h 160 79) h) (F : ∀ f : Nat, (f : Int) < h 160 78 → f ≠ l2.toNat → (h 209 f ≤ h 160 79 ∧ h 210 f ≤ h 160 72 + 1 ∧ h 211 f ≤ h 160 71) ∧ (h 209 f + h 210 f + h 211 f ≤ h 160 79 ∨ 60000 < h 160 79 + 1 + h 160 72 + h 160 71)) (D : ∀ f g : Nat, (f : Int) < h 160 78 → (g : Int) < h 160 78 → f ≠ l2.toNat → g ≠ l2.toNat → h 208 f = h 208 g → f = g) (N : ∀ f : Nat, (f : Int) < h 160 78 → f ≠ l2.toNat → ¬ h 208 f = l1) (h78 : h0 160 78 ≤ h 160 78 ∧ h 160 78 ≤ h0 160 78 + 1) (h79 : h 160 79 = h0 160 79 ∧ h 160 50 = h0 160 50 ∧ h 160 70 = h0 160 70) : Ok_ (qj_X13_frame_51 nn l1 l2 h) (QF KT h0) := by
  have g78 := gF_160_78 V
  have g79 := gF_160_79 V
  have g53 := gF_160_53 V
  unfold qj_X13_frame_51
  refine ok_wA (by omega) ?_; intro h53 E53
  have V53 : VS_ h53 := by rw [E53]; exact wA_208 V (by omega)
  have n53 : ∀ c k : Nat, ¬ (c = 208 ∧ k = l2.toNat) → h53 c k = h c k := fun c k w => by rw [E53]; exact up_n w
  have p79 := n53 160 79 (by omega)
  refine ok_wA (by omega) ?_; intro h56 E56
  have V56 : VS_ h56 := by rw [E56]; exact wA_209 V53 (by omega)
  have n56 : ∀ c k : Nat, ¬ ((c = 208 ∨ c = 209) ∧ k = l2.toNat) → h56 c k = h c k := fun c k w => by rw [E56, up_n (by omega), n53 c k (by omega)]
  have z8 : h56 208 l2.toNat = l1 := by rw [E56, up_n (by omega), E53, up_s]
  have z9 : h56 209 l2.toNat = h 160 79 := by rw [E56, up_s, p79]
  have f79 := n56 160 79 (by omega)
  have f78 := n56 160 78 (by omega)
  have f72 := n56 160 72 (by omega)
  have f71 := n56 160 71 (by omega)
  have f70 := n56 160 70 (by omega)
  have f50 := n56 160 50 (by omega)
  have f52 := n56 160 52 (by omega)
  have f53 := n56 160 53 (by omega)
  have P3 := P.2.2.1
  have P4 := P.2.2.2
  have K : ∀ s0 : Int, (0 ≤ s0 ∧ s0 ≤ 1) → ((s0 = 1 ∧ h56 160 53 = 0) ∨ (s0 = 0 ∧ ¬ h56 160 53 = 0)) → Ok_ (qj_X13_frame_80 nn l2 s0 h56) (QF KT h0) := fun s0 rs hf => by
    refine ok_im (vm_80 hn V56 (by omega) rs (fun x hx => by rw [n56 207 x (by omega)]; exact P.1 x (by omega)) (fun x hx => by rw [n56 197 x (by omega)]; exact P.2.1 x (by omega)) (by omega) (by omega) (fun x hx => by rw [n56 212 x (by omega)]; exact W x (by omega)) hf) (fun r p => ?_)
    obtain ⟨p1, p2, p3, p4, p5, p6⟩ := p
    have k78 : r 160 78 = h 160 78 := by rw [p6 160 78 (by decide) (by decide) (by omega)]; exact f78
    have k72 : r 160 72 = h 160 72 := by rw [p6 160 72 (by decide) (by decide) (by omega)]; exact f72
    have k71 : r 160 71 = h 160 71 := by rw [p6 160 71 (by decide) (by decide) (by omega)]; exact f71
    have m8 : ∀ f : Nat, f ≠ l2.toNat → r 208 f = h 208 f := fun f w => by rw [p6 208 f (by decide) (by omega) (by omega), n56 208 f (by omega)]
    have m8l : r 208 l2.toNat = l1 := by rw [p6 208 _ (by decide) (by omega) (by omega)]; exact z8
    refine ⟨p1, ⟨p2, fun f hf => ?_, fun f g hf hg e => ?_⟩, by omega, by omega⟩
    · rw [k72, k71]
      by_cases w : f = l2.toNat
      · have a9 : r 209 l2.toNat = h 160 79 := by rw [p6 209 _ (by decide) (by omega) (by omega)]; exact z9
        rw [w, a9]
        omega
      · have b := F f (by omega) w
        rw [p6 209 f (by decide) (by omega) (by omega), p6 210 f (by decide) (by omega) (by omega), p6 211 f (by decide) (by omega) (by omega), n56 209 f (by omega), n56 210 f (by omega), n56 211 f (by omega)]
        omega
    · by_cases w : f = l2.toNat
      · by_cases w2 : g = l2.toNat
        · omega
        · rw [w, m8l, m8 g w2] at e
          exact absurd e.symm (N g (by omega) w2)
      · by_cases w2 : g = l2.toNat
        · rw [w2, m8l, m8 f w] at e
          exact absurd e (N f (by omega) w)
        · rw [m8 f w, m8 g w2] at e
          exact D f g (by omega) (by omega) w w2 e
  exact ok_if (fun C => K 1 (by omega) (.inl ⟨rfl, C⟩)) (fun C => K 0 (by omega) (.inr ⟨rfl, C⟩))
theorem vm_7 (hn : 1000000 ≤ nn) {l1 : Int} (V : VS_ h) (r1 : 0 ≤ l1 ∧ l1 ≤ 1000000000) (h78 : h 160 78 ≤ 6199) (P : FP KT h) (I : FI KT h) : ∀ (k : Nat) (l2 l3 : Int), (0 ≤ l3 ∧ l3 ≤ h 160 78) → ((l2 = h 160 78 ∧ ∀ f : Nat, (f : Int) < l3 → ¬ h 208 f = l1) ∨ (0 ≤ l2 ∧ l2 < h 160 78 ∧ h 208 l2.toNat = l1)) → 6201 - l3 < (k : Int) → Ok_ (qw_X13_frame_7 nn k l1 l2 l3 h) (QF KT h) := by
  intro k
  have g78 := gF_160_78 V
  induction k with
  | zero => intro l2 l3 r3 L hm; exfalso; omega
  | succ k ih =>
    intro l2 l3 r3 L hm
    unfold qw_X13_frame_7
    refine ok_if (fun C => ?_) (fun C => ?_)
    · refine ok_if (fun C2 => ?_) (fun C2 => ?_)
      · obtain ⟨x1, x2, x3⟩ : 0 ≤ l2 ∧ l2 < h 160 78 ∧ h 208 l2.toNat = l1 := by
          rcases L with ⟨x1, _⟩ | x
          · exact absurd x1 C2
          · exact x
        refine vm_51 hn V r1 ⟨x1, x2⟩ P I.1 (fun f hf _ => I.2.1 f hf) (fun f g hf hg _ _ e => I.2.2 f g hf hg e) (fun f hf w e => w (I.2.2 f l2.toNat hf (by omega) (by rw [e, x3]))) (by omega) ⟨rfl, rfl, rfl⟩
      · have C2 : l2 = h 160 78 := Decidable.not_not.1 C2
        have N : ∀ f : Nat, (f : Int) < h 160 78 → ¬ h 208 f = l1 := by
          rcases L with ⟨_, x⟩ | ⟨_, x, _⟩
          · exact fun f hf => x f (by omega)
          · exfalso; omega
        refine ok_add (by omega) ?_; intro v62 e62
        refine ok_xl ?_; intro h63 E63
        have V63 : VS_ h63 := by rw [E63]; exact wF_160_78 V (by omega)
        have n63 : ∀ c k : Nat, ¬ (c = 160 ∧ k = 78) → h63 c k = h c k := fun c k w => by rw [E63]; exact up_n w
        have q78 : h63 160 78 = v62 := by rw [E63]; exact up_s
        have q79 := n63 160 79 (by omega)
        have q70 := n63 160 70 (by omega)
        have q50 := n63 160 50 (by omega)
        have q72 := n63 160 72 (by omega)
        have q71 := n63 160 71 (by omega)
        have q52 := n63 160 52 (by omega)
        refine vm_51 hn V63 r1 (by omega) ⟨fun x hx => by rw [n63 207 x (by omega)]; exact P.1 x (by omega), fun x hx => by rw [n63 197 x (by omega)]; exact P.2.1 x (by omega), by have := P.2.2.1; omega, by have := P.2.2.2; omega⟩ (fun x hx => by rw [n63 212 x (by omega)]; exact I.1 x (by omega)) (fun f hf w => ?_) (fun f g hf hg w w2 e => ?_) (fun f hf w => ?_) (by omega) ⟨q79, q50, q70⟩
        · rw [n63 209 f (by omega), n63 210 f (by omega), n63 211 f (by omega), q79, q72, q71]
          exact I.2.1 f (by omega)
        · rw [n63 208 f (by omega), n63 208 g (by omega)] at e
          exact I.2.2 f g (by omega) (by omega) e
        · rw [n63 208 f (by omega)]; exact N f (by omega)
    · refine ok_rd (by omega) (gA_208 V) ?_; intro v66 e66 a66 b66
      refine ok_if (fun C2 => ?_) (fun C2 => ?_)
      · refine ok_add (by omega) ?_; intro v67 e67
        refine ih l2 v67 (by omega) ?_ (by omega)
        rcases L with ⟨x1, x2⟩ | x
        · refine .inl ⟨x1, fun f hf => ?_⟩
          by_cases w : (f : Int) = l3
          · rw [show f = l3.toNat by omega, ← e66]; exact C2
          · exact x2 f (by omega)
        · exact .inr x
      · have C2 : v66 = l1 := Decidable.not_not.1 C2
        refine ok_add (by omega) ?_; intro v68 e68
        exact ih l3 v68 (by omega) (.inr ⟨by omega, by omega, by rw [← e66]; exact C2⟩) (by omega)
/-- a frame is written down -/
theorem vm_frame (hn : 1000000 ≤ nn) {a1 : Int} (V : VS_ h) (r1 : 0 ≤ a1 ∧ a1 ≤ 1000000000) (h78 : h 160 78 ≤ 6199) (P : FP KT h) (I : FI KT h) : Ok_ (qf_X13_frame nn a1 h) (QF KT h) := by
  have g78 := gF_160_78 V
  unfold qf_X13_frame
  exact vm_7 hn V r1 h78 P I nn _ 0 (by omega) (.inl ⟨rfl, fun f hf => by exfalso; omega⟩) (by omega)
end
