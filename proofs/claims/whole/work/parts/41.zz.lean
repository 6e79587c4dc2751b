/- RUN: a method begins -/
/-- .. the class: method i of class 8 + k, with a3 values that lie from a2 on -/
def BMc (Bf : Nat → Nat → Int) (nf : Nat → Nat) (k i : Nat) (a2 a3 : Int) (h g : ms_M) : Prop := (∀ c j : Nat, ¬ (c = 143 ∧ (j = 6 ∨ j = 17 ∨ j = 18 ∨ j = 19)) → ¬ ((148 ≤ c ∧ c ≤ 150) ∧ j = (h 143 6).toNat) → ¬ (c = 151 ∧ 30 * (h 143 6).toNat ≤ j ∧ j < 30 * (h 143 6).toNat + 30) → g c j = h c j) ∧ (g 143 6 = h 143 6 + 1 ∧ g 143 17 = h 143 6 ∧ g 143 18 = h 60 k ∧ g 143 19 = ((ma_S (Bf k) (nf k) i + 7 : Nat) : Int)) ∧ (g 148 (h 143 6).toNat = (k : Int) * 12 + (i : Int) ∧ g 149 (h 143 6).toNat = 0 ∧ g 150 (h 143 6).toNat = 0) ∧ ∀ n : Nat, n < 30 → g 151 (30 * (h 143 6).toNat + n) = if (n : Int) < a3 then h 152 (a2.toNat + n) else 0
/-- .. the reference -/
def ERb (c m : Int) (h g : ms_M) : Prop := (∀ x j : Nat, ¬ (x = 160 ∧ j = 149) → ¬ ((251 ≤ x ∧ x ≤ 254) ∧ j = (h 160 149).toNat) → ¬ (x = 255 ∧ 60 * (h 160 149).toNat ≤ j ∧ j < 60 * (h 160 149).toNat + 60) → g x j = h x j) ∧ g 160 149 = h 160 149 + 1 ∧ (g 251 (h 160 149).toNat = c ∧ g 252 (h 160 149).toNat = m ∧ g 253 (h 160 149).toNat = 0 ∧ g 254 (h 160 149).toNat = 0) ∧ ∀ n : Nat, n < 60 → g 255 (60 * (h 160 149).toNat + n) = 0
section
variable {nn : Nat} {Bf : Nat → Nat → Int} {nf : Nat → Nat} {cnt : Int} {k i : Nat} {h g : ms_M} {a a2 a3 : Int}
theorem ly_143 {c : Nat} (t : ly_T c = 1) : ¬ (143 ≤ c ∧ c ≤ 152) := fun z => by
  rcases (show c = 143 ∨ c = 144 ∨ c = 145 ∨ c = 146 ∨ c = 147 ∨ c = 148 ∨ c = 149 ∨ c = 150 ∨ c = 151 ∨ c = 152 by omega) with e | e | e | e | e | e | e | e | e | e
  all_goals (rw [e] at t; exact absurd t (by decide))
theorem csw_r (S : CSw Bf nf h) (A : ∀ c j : Nat, c < 160 ∨ 256 ≤ c → ¬ (143 ≤ c ∧ c ≤ 152) → g c j = h c j) : CSw Bf nf g := by
  obtain ⟨⟨s0, s1⟩, n1, n2, n3, n4⟩ := S
  have e3 : g 56 3 = h 56 3 := A _ _ (by omega) (by omega)
  refine ⟨⟨by rw [e3]; exact s0, fun k hk => ?_⟩, ⟨?_, fun j hj => by rw [A _ _ (by omega) (by omega)]; exact n2 j hj, fun j hj h2 => by rw [A _ _ (by omega) (by omega)]; exact n3 j hj (by omega), fun k hk => by rw [A 58 _ (by omega) (by omega), e3]; exact n4 k (by omega)⟩⟩
  · rw [A 60 k (by omega) (by omega)]
    have X := s1 k (by omega)
    have id := im_at X.1.1.1
    have t1 : ly_T (h (h 60 k).toNat 0).toNat = 1 := X.1.1.2.2.2.2.2.1
    have ec : cn_M g = cn_M h := by unfold cn_M; rw [A _ _ (by omega) (by omega)]
    refine imc_s ⟨fun c i c1 c2 => A _ _ (by omega) (by omega), fun i => A _ _ (ly_1r t1) (ly_143 t1), by omega, ?_⟩ X
    unfold ln_I
    split
    · rfl
    · exact A _ _ (by omega) (by omega)
  · have ef : g (57 + 1) = h (57 + 1) := funext (fun j => A _ _ (by omega) (by omega))
    unfold un_R
    rw [ef]
    intro x y hx hy
    rw [show g (57 + 2) (16 * x + y) = h (57 + 2) (16 * x + y) from A _ _ (by omega) (by omega)]
    exact n1 x y hx hy
theorem vc_f10 {c : Nat} {v b : Int} (hb : b ≤ 100000) : ∀ (f a : Nat) (g : ms_M), Pc (qw_J7_fill_fda19_10 nn f c b v (a : Int) g) (fun r => (∀ x j : Nat, ¬ (x = c ∧ a ≤ j ∧ (j : Int) < b) → r x j = g x j) ∧ ∀ j : Nat, a ≤ j → (j : Int) < b → r c j = v) := by
  intro f
  induction f with
  | zero => intro a g; exact pc_none
  | succ f ih =>
    intro a g
    unfold qw_J7_fill_fda19_10
    refine pc_if (fun w => pc_ret ⟨fun _ _ _ => rfl, fun j h1 h2 => by omega⟩) (fun w => ?_)
    intro r e
    have e := ws_i e
    rw [xl_eq, oq_add_eq (by omega) (by omega) (by omega)] at e
    have e : qw_J7_fill_fda19_10 nn f c b v ((a + 1 : Nat) : Int) (up_M g c (a : Int).toNat v) = some r := e
    obtain ⟨r1, r2⟩ := ih (a + 1) _ r e
    refine ⟨fun x j z => ?_, fun j h1 h2 => ?_⟩
    · rw [r1 x j (by omega), up_n (by omega)]
    · by_cases z : j = a
      · rw [r1 c j (by omega), z]; exact up_s
      · exact r2 j (by omega) h2
theorem vc_fillR {c : Nat} {v b : Int} {a : Nat} (hb : b ≤ 100000) : Pc (qf_J7_fill_fda19 nn c (a : Int) b v h) (fun r => (∀ x j : Nat, ¬ (x = c ∧ a ≤ j ∧ (j : Int) < b) → r x j = h x j) ∧ ∀ j : Nat, a ≤ j → (j : Int) < b → r c j = v) := by
  unfold qf_J7_fill_fda19
  refine pc_lS (fun v4 _ => pc_se (fun u5 _ => ?_))
  exact vc_f10 hb nn a h
theorem vr_e42 {d : Nat} : ∀ (f n : Nat) (g : ms_M), n ≤ 60 → d < 60 → g 160 149 = (d : Int) → (∀ x : Nat, x < n → g 255 (60 * d + x) = 0) → Pc (qw_X13_enter_42 nn f (n : Int) g) (fun r => (∀ x j : Nat, ¬ (x = 160 ∧ j = 149) → ¬ (x = 255 ∧ 60 * d ≤ j ∧ j < 60 * d + 60) → r x j = g x j) ∧ r 160 149 = (d : Int) + 1 ∧ ∀ x : Nat, x < 60 → r 255 (60 * d + x) = 0) := by
  intro f
  induction f with
  | zero => intro n g _ _ _ _; exact pc_none
  | succ f ih =>
    intro n g hn hd e L
    unfold qw_X13_enter_42
    refine pc_if (fun w => ?_) (fun w => ?_)
    · refine pc_add (by omega) ?_; intro v2 e2
      refine pc_xl ?_; intro h3 e3
      refine pc_ret ⟨fun x j z1 z2 => by rw [e3, up_n z1], by rw [e3, up_s, e2, e], fun x hx => ?_⟩
      rw [e3, up_n (by omega)]
      exact L x (by omega)
    · refine pc_xl ?_; intro v6 e6
      rw [oq_mul_eq (by omega) (by omega) (by omega)] at e6
      refine pc_add (by omega) ?_; intro v7 e7
      refine pc_wA ?_; intro _ _ h8 e8
      refine pc_add (by omega) ?_; intro v9 e9
      have ev : v7.toNat = 60 * d + n := by omega
      rw [ev] at e8
      rw [show v9 = ((n + 1 : Nat) : Int) by omega]
      refine pc_imp (ih (n + 1) h8 (by omega) hd (by rw [e8, up_n (by omega)]; exact e) (fun x hx => ?_)) (fun r ⟨r1, r2, r3⟩ => ⟨fun x j z1 z2 => ?_, r2, r3⟩)
      · by_cases z : x = n
        · rw [z, e8, up_s]
        · rw [e8, up_n (by omega)]; exact L x (by omega)
      · rw [r1 x j z1 z2, e8, up_n (by omega)]
/-- A METHOD BEGINS, the reference -/
theorem vr_enter {c m : Int} : Pc (qf_X13_enter nn c m h) (ERb c m h) := by
  unfold qf_X13_enter
  refine pc_wA ?_; intro d0 d1 h13 e13
  refine pc_wA ?_; intro _ _ h16 e16
  refine pc_wA ?_; intro _ _ h19 e19
  refine pc_wA ?_; intro _ _ h22 e22
  have d13 : h13 160 149 = h 160 149 := by rw [e13, up_n (by omega)]
  have d16 : h16 160 149 = h 160 149 := by rw [e16, up_n (by omega)]; exact d13
  have d19 : h19 160 149 = h 160 149 := by rw [e19, up_n (by omega)]; exact d16
  have d22 : h22 160 149 = h 160 149 := by rw [e22, up_n (by omega)]; exact d19
  rw [d13] at e16
  rw [d16] at e19
  rw [d19] at e22
  refine pc_imp (vr_e42 (d := (h 160 149).toNat) nn 0 h22 (by omega) (by omega) (by omega) (fun x hx => absurd hx (by omega))) (fun r ⟨r1, r2, r3⟩ => ⟨fun x j z1 z2 z3 => ?_, by omega, ⟨?_, ?_, ?_, ?_⟩, r3⟩)
  · rw [r1 x j z1 z3, e22, up_n (by omega), e19, up_n (by omega), e16, up_n (by omega), e13, up_n (by omega)]
  · rw [r1 251 _ (by omega) (by omega), e22, up_n (by omega), e19, up_n (by omega), e16, up_n (by omega), e13, up_s]
  · rw [r1 252 _ (by omega) (by omega), e22, up_n (by omega), e19, up_n (by omega), e16, up_s]
  · rw [r1 253 _ (by omega) (by omega), e22, up_n (by omega), e19, up_s]
  · rw [r1 254 _ (by omega) (by omega), e22, up_s]
/-- A METHOD BEGINS, the class -/
theorem vc_begM (S : CSw Bf nf h) (hk : (k : Int) < h 56 3) (hi : (i : Int) < mc_S (Bf k) (nf k)) (hd : 0 ≤ h 143 6 ∧ h 143 6 < 60) (h3 : 0 ≤ a3 ∧ a3 ≤ 30) : Pc (qf_X5_beginMethod nn ((k : Int) * 12 + (i : Int)) a2 a3 h) (BMc Bf nf k i a2 a3 h) := by
  have k8 := S.1.1
  have m12 := ((cg_im (S.1.2 k hk)).1).2.2.1
  obtain ⟨d, ed⟩ : ∃ d : Nat, h 143 6 = (d : Int) := ⟨(h 143 6).toNat, by omega⟩
  have ed' : (h 143 6).toNat = d := by omega
  unfold BMc
  rw [ed']
  unfold qf_X5_beginMethod
  refine pc_if (fun _ => ?_) (fun w => absurd hd.2 w)
  refine pc_xl ?_; intro v3 e3
  rw [oq_mul_eq (by omega) (by omega) (by omega)] at e3
  refine pc_add (by omega) ?_; intro v5 e5
  have e3' : v3 = ((30 * d : Nat) : Int) := by omega
  rw [e3', show v5 = ((30 * d + 30 : Nat) : Int) by omega]
  refine pc_sv (vc_fillR (a := 30 * d) (by omega)) ?_; intro u6 ⟨F6, Z6⟩
  refine pc_cpS ?_; intro h9 e9
  rw [Int.toNat_natCast] at e9
  have F9 : ∀ x j : Nat, ¬ (x = 151 ∧ 30 * d ≤ j ∧ j < 30 * d + 30) → h9 x j = h x j := fun x j z => by
    rw [e9]
    show (if x = 151 ∧ 30 * d ≤ j ∧ j < 30 * d + a3.toNat then u6 152 (a2.toNat + (j - 30 * d)) else u6 x j) = h x j
    rw [if_neg (by omega)]
    exact F6 x j (by omega)
  have L9 : ∀ n : Nat, n < 30 → h9 151 (30 * d + n) = if (n : Int) < a3 then h 152 (a2.toNat + n) else 0 := fun n hn => by
    rw [e9]
    show (if 151 = 151 ∧ 30 * d ≤ 30 * d + n ∧ 30 * d + n < 30 * d + a3.toNat then u6 152 (a2.toNat + (30 * d + n - 30 * d)) else u6 151 (30 * d + n)) = _
    by_cases z : (n : Int) < a3
    · rw [if_pos ⟨rfl, by omega, by omega⟩, if_pos z, show 30 * d + n - 30 * d = n by omega]
      exact F6 152 _ (by omega)
    · rw [if_neg (by omega), if_neg z]
      exact Z6 _ (by omega) (by omega)
  have d9 : h9 143 6 = (d : Int) := (F9 143 6 (by omega)).trans ed
  rw [d9]
  refine pc_wA ?_; intro _ _ h12 e12
  have d12 : h12 143 6 = (d : Int) := by rw [e12, up_n (by omega)]; exact d9
  rw [d12]
  refine pc_wA ?_; intro _ _ h15 e15
  have d15 : h15 143 6 = (d : Int) := by rw [e15, up_n (by omega)]; exact d12
  rw [d15]
  refine pc_wA ?_; intro _ _ h18 e18
  have d18 : h18 143 6 = (d : Int) := by rw [e18, up_n (by omega)]; exact d15
  rw [d18]
  rw [Int.toNat_natCast] at e12 e15 e18
  refine pc_add (by omega) ?_; intro v20 e20
  refine pc_xl ?_; intro h21 e21
  have F21 : ∀ x j : Nat, ¬ (x = 143 ∧ j = 6) → ¬ ((148 ≤ x ∧ x ≤ 150) ∧ j = d) → ¬ (x = 151 ∧ 30 * d ≤ j ∧ j < 30 * d + 30) → h21 x j = h x j := fun x j z1 z2 z3 => by
    rw [e21, up_n z1, e18, up_n (by omega), e15, up_n (by omega), e12, up_n (by omega)]
    exact F9 x j z3
  have g6 : h21 143 6 = (d : Int) + 1 := by rw [e21, up_s, e20]
  have g148 : h21 148 d = (k : Int) * 12 + (i : Int) := by rw [e21, up_n (by omega), e18, up_n (by omega), e15, up_n (by omega), e12, up_s]
  have g149 : h21 149 d = 0 := by rw [e21, up_n (by omega), e18, up_n (by omega), e15, up_s]
  have g150 : h21 150 d = 0 := by rw [e21, up_n (by omega), e18, up_s]
  have g151 : ∀ j : Nat, h21 151 j = h9 151 j := fun j => by rw [e21, up_n (by omega), e18, up_n (by omega), e15, up_n (by omega), e12, up_n (by omega)]
  unfold qf_X5_takeTop
  refine pc_sv (P := BMc Bf nf k i a2 a3 h) ?_ ?_
  · rw [g6]
    refine pc_sub (by omega) ?_; intro v2 e2
    refine pc_xl ?_; intro w3 e3
    have e3 : w3 = (d : Int) := by
      rw [e3]
      split <;> omega
    refine pc_xl ?_; intro h4 e4
    have s4 : h4 143 17 = (d : Int) := by rw [e4, up_s]; exact e3
    rw [s4]
    refine pc_rA ?_; intro _ _ v8 e8
    rw [Int.toNat_natCast, e4, up_n (by omega), g148] at e8
    have F4 : ∀ x j : Nat, ¬ (x = 143 ∧ (j = 6 ∨ j = 17)) → ¬ ((148 ≤ x ∧ x ≤ 150) ∧ j = d) → ¬ (x = 151 ∧ 30 * d ≤ j ∧ j < 30 * d + 30) → h4 x j = h x j := fun x j z1 z2 z3 => by
      rw [e4, up_n (by omega)]
      exact F21 x j (by omega) z2 z3
    have S4 : CSw Bf nf h4 := csw_r S (fun x j _ w => F4 x j (by omega) (by omega) (by omega))
    have c4 : h4 56 3 = h 56 3 := F4 56 3 (by omega) (by omega) (by omega)
    rw [e8]
    refine pc_sv (vc_iom S4.1 (d := 8 + (k : Int)) (j := i) (by omega) (by omega) (by omega)) ?_; intro u10 ⟨q10, p10⟩
    rw [show (8 + (k : Int) - 8).toNat = k by omega, F4 60 k (by omega) (by omega) (by omega)] at q10
    refine pc_if (fun w => absurd w (by omega)) (fun _ => ?_)
    refine pc_wR ?_; intro h14 e14
    have s14 : h14 143 18 = h 60 k := by rw [e14, up_s]; omega
    have F14 : ∀ x j : Nat, ¬ (x = 143 ∧ j = 18) → h14 x j = h4 x j := fun x j z => by rw [e14, up_n z]
    rw [s14]
    refine pc_ck (fun _ => ?_)
    rw [F14 143 17 (by omega), s4]
    refine pc_rA ?_; intro _ _ v18 e18'
    rw [Int.toNat_natCast, F14 148 d (by omega), e4, up_n (by omega), g148] at e18'
    refine pc_xl ?_; intro v19 e19
    rw [Int.tmod_eq_emod_of_nonneg (by omega)] at e19
    refine pc_ck (fun _ => ?_)
    have S14 : CSw Bf nf h14 := csw_r S4 (fun x j _ w => F14 x j (by omega))
    have c14 : h14 56 3 = h 56 3 := (F14 56 3 (by omega)).trans c4
    have X := S14.1.2 k (by omega)
    rw [F14 60 k (by omega), F4 60 k (by omega) (by omega) (by omega)] at X
    have MD := ((cg_im X).2.2.2 i hi).2.1.2
    rw [show v19 = (i : Int) by omega]
    refine pc_sv (vq_of X hi (w := 6) (by omega) MD) ?_; intro u21 q21
    refine pc_xl ?_; intro h22 e22
    refine pc_ret ?_
    unfold BMc
    rw [ed']
    have FF : ∀ x j : Nat, ¬ (x = 143 ∧ (j = 17 ∨ j = 18 ∨ j = 19)) → h22 x j = h21 x j := fun x j z => by
      rw [e22, up_n (by omega), F14 x j (by omega), e4, up_n (by omega)]
    refine ⟨fun x j z1 z2 z3 => ?_, ⟨?_, ?_, ?_, ?_⟩, ⟨?_, ?_, ?_⟩, fun n hn => ?_⟩
    · rw [FF x j (by omega)]; exact F21 x j (by omega) z2 z3
    · rw [FF 143 6 (by omega), g6]; omega
    · rw [e22, up_n (by omega), F14 143 17 (by omega), s4]; omega
    · rw [e22, up_n (by omega), s14]
    · rw [e22, up_s, q21]
    · rw [FF 148 d (by omega)]; exact g148
    · rw [FF 149 d (by omega)]; exact g149
    · rw [FF 150 d (by omega)]; exact g150
    · rw [FF 151 _ (by omega), g151]; exact L9 n hn
  · intro u23 q23
    unfold BMc at q23
    rw [ed'] at q23
    exact pc_ret q23
end
