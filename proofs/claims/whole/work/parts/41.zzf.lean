/- RUN: an object is made, on both sides. n: objects so far, m: cells so far, s: its cells -/
def OMc (a : Int) (n m s : Nat) (h : ms_M) (u : Int × ms_M) : Prop := ((2000 ≤ n ∨ 20000 < m + s) ∧ u.1 = 0 ∧ u.2 = up_M h 143 1 4) ∨ ((n < 2000 ∧ m + s ≤ 20000) ∧ u.1 = ((n + 1 : Nat) : Int) ∧ (∀ c j : Nat, ¬ (c = 143 ∧ (j = 4 ∨ j = 5)) → ¬ (c = 145 ∧ j = n + 1) → ¬ (c = 146 ∧ (j = n + 1 ∨ j = n + 2)) → ¬ (c = 147 ∧ m ≤ j ∧ j < m + s) → u.2 c j = h c j) ∧ (u.2 143 4 = ((n + 1 : Nat) : Int) ∧ u.2 143 5 = ((m + s : Nat) : Int)) ∧ (u.2 145 (n + 1) = a ∧ u.2 146 (n + 1) = (m : Int) ∧ u.2 146 (n + 2) = ((m + s : Nat) : Int)) ∧ ∀ x : Nat, m ≤ x → x < m + s → u.2 147 x = 0)
def OMr (a : Int) (n m s : Nat) (h : ms_M) (u : Int × ms_M) : Prop := ((2000 ≤ n ∨ 20000 < m + s) ∧ u.1 = 0 ∧ u.2 = up_M h 160 138 4) ∨ ((n < 2000 ∧ m + s ≤ 20000) ∧ u.1 = ((n + 1 : Nat) : Int) ∧ (∀ c j : Nat, ¬ (c = 160 ∧ (j = 141 ∨ j = 142)) → ¬ ((246 ≤ c ∧ c ≤ 248) ∧ j = n + 1) → ¬ (c = 249 ∧ m ≤ j ∧ j < m + s) → u.2 c j = h c j) ∧ (u.2 160 141 = ((n + 1 : Nat) : Int) ∧ u.2 160 142 = ((m + s : Nat) : Int)) ∧ (u.2 246 (n + 1) = a ∧ u.2 247 (n + 1) = (m : Int) ∧ u.2 248 (n + 1) = (s : Int)) ∧ ∀ x : Nat, m ≤ x → x < m + s → u.2 249 x = 0)
section
variable {nn : Nat} {n m s : Nat} {h g : ms_M} {a : Int}
theorem rc_make (en : h 143 4 = (n : Int)) (em : h 143 5 = (m : Int)) (nr : n ≤ 2000) (mr : m ≤ 20000) (sr : s ≤ 2147483647) : Pc (qf_X5_make nn a (s : Int) h) (OMc a n m s h) := by
  have NO : (2000 ≤ n ∨ 20000 < m + s) → Pc (qj_X5_make_26 nn h) (OMc a n m s h) := fun w => by
    unfold qj_X5_make_26
    exact pc_xl (fun h1 e1 => pc_ret (.inl ⟨w, rfl, e1⟩))
  unfold qf_X5_make
  rw [en, em]
  refine pc_if (fun w => NO (by omega)) (fun w => ?_)
  refine pc_if (fun z => absurd z (by omega)) (fun _ => ?_)
  refine pc_sub (by omega) ?_; intro v4 e4
  refine pc_if (fun z => ?_) (fun z => NO (by omega))
  refine pc_add (by omega) ?_; intro v6 e6
  rw [show v6 = ((n + 1 : Nat) : Int) by omega]
  refine pc_xl ?_; intro h7 e7
  have a7 : h7 143 4 = ((n + 1 : Nat) : Int) := by rw [e7, up_s]
  rw [a7]
  refine pc_wA ?_; intro _ _ h10 e10
  rw [Int.toNat_natCast] at e10
  have a10 : h10 143 4 = ((n + 1 : Nat) : Int) := by rw [e10, up_n (by omega)]; exact a7
  have b10 : h10 143 5 = (m : Int) := by rw [e10, up_n (by omega), e7, up_n (by omega)]; exact em
  rw [a10, b10]
  refine pc_wA ?_; intro _ _ h14 e14
  rw [Int.toNat_natCast] at e14
  have a14 : h14 143 4 = ((n + 1 : Nat) : Int) := by rw [e14, up_n (by omega)]; exact a10
  have b14 : h14 143 5 = (m : Int) := by rw [e14, up_n (by omega)]; exact b10
  rw [b14]
  refine pc_add (by omega) ?_; intro v18 e18
  rw [show v18 = ((m + s : Nat) : Int) by omega]
  refine pc_sv (vc_fillR (a := m) (by omega)) ?_; intro u19 ⟨F19, Z19⟩
  have a19 : u19 143 4 = ((n + 1 : Nat) : Int) := (F19 143 4 (by omega)).trans a14
  have b19 : u19 143 5 = (m : Int) := (F19 143 5 (by omega)).trans b14
  rw [b19]
  refine pc_add (by omega) ?_; intro v21 e21
  rw [show v21 = ((m + s : Nat) : Int) by omega]
  refine pc_xl ?_; intro h22 e22
  have a22 : h22 143 4 = ((n + 1 : Nat) : Int) := by rw [e22, up_n (by omega)]; exact a19
  have b22 : h22 143 5 = ((m + s : Nat) : Int) := by rw [e22, up_s]
  rw [a22, b22]
  refine pc_add (by omega) ?_; intro v25 e25
  refine pc_wA ?_; intro _ _ h27 e27
  rw [show v25.toNat = n + 2 by omega] at e27
  suffices R : OMc a n m s h (((n + 1 : Nat) : Int), h27) by
    rw [show h27 143 4 = ((n + 1 : Nat) : Int) by rw [e27, up_n (by omega)]; exact a22]
    exact pc_ret R
  refine .inr ⟨by omega, rfl, ?_⟩
  show (∀ c j : Nat, ¬ (c = 143 ∧ (j = 4 ∨ j = 5)) → ¬ (c = 145 ∧ j = n + 1) → ¬ (c = 146 ∧ (j = n + 1 ∨ j = n + 2)) → ¬ (c = 147 ∧ m ≤ j ∧ j < m + s) → h27 c j = h c j) ∧ (h27 143 4 = ((n + 1 : Nat) : Int) ∧ h27 143 5 = ((m + s : Nat) : Int)) ∧ (h27 145 (n + 1) = a ∧ h27 146 (n + 1) = (m : Int) ∧ h27 146 (n + 2) = ((m + s : Nat) : Int)) ∧ ∀ x : Nat, m ≤ x → x < m + s → h27 147 x = 0
  refine ⟨fun c j w1 w2 w3 w4 => ?_, ⟨?_, ?_⟩, ⟨?_, ?_, ?_⟩, fun x x1 x2 => ?_⟩
  · rw [e27, up_n (by omega), e22, up_n (by omega), F19 c j (by omega), e14, up_n (by omega), e10, up_n (by omega), e7, up_n (by omega)]
  · rw [e27, up_n (by omega)]; exact a22
  · rw [e27, up_n (by omega)]; exact b22
  · rw [e27, up_n (by omega), e22, up_n (by omega), F19 145 _ (by omega), e14, up_n (by omega), e10, up_s]
  · rw [e27, up_n (by omega), e22, up_n (by omega), F19 146 _ (by omega), e14, up_s]
  · rw [e27, up_s]
  · rw [e27, up_n (by omega), e22, up_n (by omega)]
    exact Z19 x x1 (by omega)
theorem rr_m74 (mr : m + s ≤ 20000) : ∀ (f x : Nat) (g : ms_M), x ≤ s → g 160 142 = (m : Int) → (∀ y : Nat, y < x → g 249 (m + y) = 0) → Pc (qw_X13_make__74 nn f (s : Int) (x : Int) g) (fun u => u.1 = g 160 141 ∧ (∀ c j : Nat, ¬ (c = 160 ∧ j = 142) → ¬ (c = 249 ∧ m ≤ j ∧ j < m + s) → u.2 c j = g c j) ∧ u.2 160 142 = ((m + s : Nat) : Int) ∧ ∀ y : Nat, y < s → u.2 249 (m + y) = 0) := by
  intro f
  induction f with
  | zero => intro x g _ _ _; exact pc_none
  | succ f ih =>
    intro x g hx e L
    unfold qw_X13_make__74
    rw [e]
    refine pc_if (fun w => ?_) (fun w => ?_)
    · refine pc_add (by omega) ?_; intro v2 e2
      refine pc_xl ?_; intro h3 e3
      refine pc_ret ⟨?_, fun c j w1 w2 => ?_, ?_, fun y hy => ?_⟩
      · show h3 160 141 = _
        rw [e3, up_n (by omega)]
      · show h3 c j = _
        rw [e3, up_n w1]
      · show h3 160 142 = _
        rw [e3, up_s]; omega
      · show h3 249 (m + y) = 0
        rw [e3, up_n (by omega)]; exact L y (by omega)
    · refine pc_add (by omega) ?_; intro v7 e7
      refine pc_wA ?_; intro _ _ h8 e8
      rw [show v7.toNat = m + x by omega] at e8
      refine pc_add (by omega) ?_; intro v9 e9
      rw [show v9 = ((x + 1 : Nat) : Int) by omega]
      refine pc_imp (ih (x + 1) h8 (by omega) (by rw [e8, up_n (by omega)]; exact e) (fun y hy => ?_)) (fun u ⟨r1, r2, r3, r4⟩ => ⟨?_, fun c j w1 w2 => ?_, r3, r4⟩)
      · by_cases z : y = x
        · rw [z, e8, up_s]
        · rw [e8, up_n (by omega)]; exact L y (by omega)
      · rw [r1, e8, up_n (by omega)]
      · rw [r2 c j w1 w2, e8, up_n (by omega)]
theorem rr_make (en : h 160 141 = (n : Int)) (em : h 160 142 = (m : Int)) (nr : n ≤ 2000) (mr : m ≤ 20000) (sr : s ≤ 2147483647) : Pc (qf_X13_make_ nn a (s : Int) h) (OMr a n m s h) := by
  have NO : (2000 ≤ n ∨ 20000 < m + s) → Pc (qj_X13_make__22 nn h) (OMr a n m s h) := fun w => by
    unfold qj_X13_make__22
    exact pc_xl (fun h1 e1 => pc_ret (.inl ⟨w, rfl, e1⟩))
  unfold qf_X13_make_
  rw [en, em]
  refine pc_if (fun w => NO (by omega)) (fun w => ?_)
  refine pc_sub (by omega) ?_; intro v14 e14
  refine pc_if (fun z => ?_) (fun z => NO (by omega))
  refine pc_add (by omega) ?_; intro v16 e16
  rw [show v16 = ((n + 1 : Nat) : Int) by omega]
  refine pc_xl ?_; intro h17 e17
  have a17 : h17 160 141 = ((n + 1 : Nat) : Int) := by rw [e17, up_s]
  rw [a17]
  refine pc_wA ?_; intro _ _ h20 e20
  rw [Int.toNat_natCast] at e20
  have a20 : h20 160 141 = ((n + 1 : Nat) : Int) := by rw [e20, up_n (by omega)]; exact a17
  have b20 : h20 160 142 = (m : Int) := by rw [e20, up_n (by omega), e17, up_n (by omega)]; exact em
  rw [a20, b20]
  refine pc_wA ?_; intro _ _ h24 e24
  rw [Int.toNat_natCast] at e24
  have a24 : h24 160 141 = ((n + 1 : Nat) : Int) := by rw [e24, up_n (by omega)]; exact a20
  have b24 : h24 160 142 = (m : Int) := by rw [e24, up_n (by omega)]; exact b20
  rw [a24]
  refine pc_wA ?_; intro _ _ h27 e27
  rw [Int.toNat_natCast] at e27
  have a27 : h27 160 141 = ((n + 1 : Nat) : Int) := by rw [e27, up_n (by omega)]; exact a24
  have b27 : h27 160 142 = (m : Int) := by rw [e27, up_n (by omega)]; exact b24
  refine pc_imp (rr_m74 (m := m) (s := s) (by omega) nn 0 h27 (by omega) b27 (fun y hy => absurd hy (by omega))) (fun u ⟨r1, r2, r3, r4⟩ => .inr ⟨by omega, r1.trans a27, fun c j w1 w2 w3 => ?_, ⟨?_, r3⟩, ⟨?_, ?_, ?_⟩, fun x x1 x2 => ?_⟩)
  · rw [r2 c j (by omega) w3, e27, up_n (by omega), e24, up_n (by omega), e20, up_n (by omega), e17, up_n (by omega)]
  · rw [r2 160 141 (by omega) (by omega)]; exact a27
  · rw [r2 246 _ (by omega) (by omega), e27, up_n (by omega), e24, up_n (by omega), e20, up_s]
  · rw [r2 247 _ (by omega) (by omega), e27, up_n (by omega), e24, up_s]
  · rw [r2 248 _ (by omega) (by omega), e27, up_s]
  · have := r4 (x - m) (by omega)
    rw [show m + (x - m) = x by omega] at this
    exact this
end
