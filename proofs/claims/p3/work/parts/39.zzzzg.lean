section
variable {nn : Nat} {h g r z w v : ms_M} {c d : Int}
theorem ny_ag (N : NY h g) : AGc h g := nz_ag (nz_ny N)
theorem ag_sy (A : AGc h g) : AGc g h := ⟨A.1.symm, A.2.1.symm, A.2.2.1.symm, A.2.2.2.1.symm, A.2.2.2.2.symm⟩
/-- only kindEnd moves -/
def N12 (h r : ms_M) : Prop := ∀ x k : Nat, ¬ (x = 160 ∧ k = 120) → r x k = h x k
theorem n12_ny (N : N12 h r) : NY h r := fun x k w1 _ _ => N x k (by omega)
theorem n12_tr (a : N12 h z) (b : N12 z r) : N12 h r := fun x k w => (b x k w).trans (a x k w)
/-- the name in the kind from p to e is a class's -/
def KF (nn : Nat) (h : ms_M) (c : Int) (f : Nat → Int) (p e : Int) : Prop := (¬ f p.toNat = 91 → KN f p e → FNm nn h (6000 * c + p + 1) (e - p - 2)) ∧ (f p.toNat = 91 → KN f (p + 1) e → FNm nn h (6000 * c + p + 2) (e - p - 3))
theorem kf_c {f : Nat → Int} {p e : Int} (A : AGc h g) (F : KF nn h c f p e) : KF nn g c f p e := ⟨fun a b => fn_c A (F.1 a b), fun a b => fn_c A (F.2 a b)⟩
/-- what reading a type tells: found, or a name without a class -/
def TW (nn : Nat) (h : ms_M) (c : Int) (F : Prop) (e : Int) (u : Int × ms_M) : Prop := TQ h (6000 * c + e) u ∧ (u.1 < 36 → F)
theorem ro_75 (hn : 1000000 ≤ nn) (V : VS_ h) (S : SPD h) (O : OI h) (room : h 160 117 ≤ 2099) (hc : 0 ≤ c ∧ c ≤ 7) (W : WI h c w) {l2 p e : Int} (hp : 0 ≤ p) (he : e ≤ w 160 113) (K : KN (w 238) p e) : ∀ (k : Nat) (i : Int), p < i → i < e → e - i < (k : Int) → Ok_ (qw_X13_typeAt_75 nn k l2 (6000 * c + p) (6000 * c + i) h) (TW nn h c (FNm nn h (6000 * c + p + 1) (e - p - 2)) e) := by
  have g3 := gF_160_113 W.1
  have g98 := gF_160_98 V
  obtain ⟨k1, k2, k3, k4⟩ := K
  intro k
  induction k with
  | zero => intro i a b hm; exfalso; omega
  | succ k ih =>
    intro i a b hm
    unfold qw_X13_typeAt_75
    refine ok_rd (by omega) (gA_226 V) ?_; intro v2 e2 _ _
    rw [W.2.2.1 i (by omega) (by omega)] at e2
    refine ok_if (fun C => ?_) (fun C => ?_)
    · have ei : i = e - 1 := by
        by_cases y : i < e - 1
        · exact absurd (e2.symm.trans C) (k4 i a y)
        · omega
      refine ok_add (by omega) ?_; intro v3 e3
      refine ok_xl ?_; intro h4 E4
      have V4 : VS_ h4 := by rw [E4]; exact wF_160_120 V (by omega)
      have N4 : NY h h4 := fun x k w1 w2 w3 => by rw [E4, up_n (by omega)]
      have f117 : h4 160 117 = h 160 117 := by rw [E4, up_n (by omega)]
      have f98 : h4 160 98 = h 160 98 := by rw [E4, up_n (by omega)]
      have f120 : h4 160 120 = v3 := by rw [E4, up_s]
      have O4 : OI h4 := by rw [E4]; exact oi_f (by decide) O
      refine ok_add (by omega) ?_; intro v5 e5
      refine ok_sub (by omega) ?_; intro v6 e6
      refine ok_sub (by omega) ?_; intro v7 e7
      refine ok_sv (fn_of hn V4 (ny_spd V N4 S) O4 (by omega) (by omega) (by omega)) ?_; intro u9 P9
      obtain ⟨⟨q1, q2, q3, q4, q5⟩, q6⟩ := P9
      have q7 : u9.1 < 16 → FNm nn h (6000 * c + p + 1) (e - p - 2) := fun y => by
        have := fn_c (ag_sy (ny_ag N4)) (q6 y)
        rw [e5, show v7 = e - p - 2 by omega] at this
        exact this
      refine ok_mul (by omega) ?_; intro v10 e10
      refine ok_add (by omega) ?_; intro v11 e11
      refine ok_if (fun _ => ?_) (fun _ => ?_)
      · refine ok_add (by omega) ?_; intro v12 e12
        exact ok_ret ⟨⟨q1, ny_tr N4 q2, q3, by show u9.2 160 120 = _; omega, by show (0 ≤ v12 ∧ v12 < 20 + 2 * h 160 98 ∧ u9.2 160 117 = h 160 117) ∨ (36 ≤ v12 ∧ v12 ≤ 4235 ∧ u9.2 160 117 ≤ h 160 117 + 1); omega⟩, fun (y : v12 < 36) => q7 (by omega)⟩
      · refine ok_add (by omega) ?_; intro v12 e12
        exact ok_ret ⟨⟨q1, ny_tr N4 q2, q3, by show u9.2 160 120 = _; omega, by show (0 ≤ v12 ∧ v12 < 20 + 2 * h 160 98 ∧ u9.2 160 117 = h 160 117) ∨ (36 ≤ v12 ∧ v12 ≤ 4235 ∧ u9.2 160 117 ≤ h 160 117 + 1); omega⟩, fun (y : v12 < 36) => q7 (by omega)⟩
    · have ei : i < e - 1 := by
        by_cases y : i < e - 1
        · exact y
        · exfalso
          have : i = e - 1 := by omega
          rw [this] at e2
          exact C (e2.trans k3)
      refine ok_add (by omega) ?_; intro v15 e15
      rw [show v15 = 6000 * c + (i + 1) by omega]
      exact ih (i + 1) (by omega) (by omega) (by omega)
/-- found: nothing but kindEnd moves -/
def TF (h : ms_M) (e : Int) (u : Int × ms_M) : Prop := VS_ u.2 ∧ N12 h u.2 ∧ u.2 160 120 = e ∧ (0 ≤ u.1 ∧ u.1 < 20 + 2 * h 160 98)
theorem rf_75 (V : VS_ h) (hc : 0 ≤ c ∧ c ≤ 7) (W : WI h c w) {l2 p e : Int} (hp : 0 ≤ p) (he : e ≤ w 160 113) (K : KN (w 238) p e) (F : FNm nn h (6000 * c + p + 1) (e - p - 2)) : ∀ (k : Nat) (i : Int), p < i → i < e → e - i < (k : Int) → Ok_ (qw_X13_typeAt_75 nn k l2 (6000 * c + p) (6000 * c + i) h) (TF h (6000 * c + e)) := by
  have g3 := gF_160_113 W.1
  have g98 := gF_160_98 V
  obtain ⟨k1, k2, k3, k4⟩ := K
  intro k
  induction k with
  | zero => intro i a b hm; exfalso; omega
  | succ k ih =>
    intro i a b hm
    unfold qw_X13_typeAt_75
    refine ok_rd (by omega) (gA_226 V) ?_; intro v2 e2 _ _
    rw [W.2.2.1 i (by omega) (by omega)] at e2
    refine ok_if (fun C => ?_) (fun C => ?_)
    · have ei : i = e - 1 := by
        by_cases y : i < e - 1
        · exact absurd (e2.symm.trans C) (k4 i a y)
        · omega
      refine ok_add (by omega) ?_; intro v3 e3
      refine ok_xl ?_; intro h4 E4
      have V4 : VS_ h4 := by rw [E4]; exact wF_160_120 V (by omega)
      have N4 : N12 h h4 := fun x k w1 => by rw [E4, up_n w1]
      have f98 : h4 160 98 = h 160 98 := by rw [E4, up_n (by omega)]
      have f120 : h4 160 120 = v3 := by rw [E4, up_s]
      refine ok_add (by omega) ?_; intro v5 e5
      refine ok_sub (by omega) ?_; intro v6 e6
      refine ok_sub (by omega) ?_; intro v7 e7
      have F4 := fn_c (ny_ag (n12_ny N4)) F
      rw [← e5, show e - p - 2 = v7 by omega] at F4
      refine ok_sv (fn_number F4) ?_; intro u9 P9
      obtain ⟨q1, q2⟩ := P9
      rw [q1]
      refine ok_mul (by omega) ?_; intro v10 e10
      refine ok_add (by omega) ?_; intro v11 e11
      refine ok_if (fun _ => ?_) (fun _ => ?_)
      · refine ok_add (by omega) ?_; intro v12 e12
        exact ok_ret ⟨V4, N4, by show h4 160 120 = _; omega, by show 0 ≤ v12 ∧ v12 < _; omega⟩
      · refine ok_add (by omega) ?_; intro v12 e12
        exact ok_ret ⟨V4, N4, by show h4 160 120 = _; omega, by show 0 ≤ v12 ∧ v12 < _; omega⟩
    · have ei : i < e - 1 := by
        by_cases y : i < e - 1
        · exact y
        · exfalso
          have : i = e - 1 := by omega
          rw [this] at e2
          exact C (e2.trans k3)
      refine ok_add (by omega) ?_; intro v15 e15
      rw [show v15 = 6000 * c + (i + 1) by omega]
      exact ih (i + 1) (by omega) (by omega) (by omega)
theorem rf_49 (hn : 1000000 ≤ nn) (V : VS_ h) (hc : 0 ≤ c ∧ c ≤ 7) (W : WI h c w) {l2 p e : Int} (hp : 0 ≤ p) (he : e ≤ w 160 113) (K : KK (w 238) p e) (F : KN (w 238) p e → FNm nn h (6000 * c + p + 1) (e - p - 2)) : Ok_ (qj_X13_typeAt_49 nn l2 (6000 * c + p) h) (TF h (6000 * c + e)) := by
  have g3 := gF_160_113 W.1
  have g98 := gF_160_98 V
  have lt := kk_lt K
  unfold qj_X13_typeAt_49
  refine ok_rd (by omega) (gA_226 V) ?_; intro v18 e18 _ _
  rw [W.2.2.1 p (by omega) (by omega)] at e18
  refine ok_if (fun C => ?_) (fun C => ?_)
  · rcases K with K | K
    · exact absurd (e18.trans K.1) C
    · refine ok_add (by omega) ?_; intro v19 e19
      rw [show v19 = 6000 * c + (p + 1) by omega]
      exact rf_75 V hc W hp he K (F K) nn (p + 1) (by omega) (by have := K.2.1; omega) (by omega)
  · have C : v18 = 73 := Decidable.not_not.1 C
    rcases K with K | K
    · refine ok_add (by omega) ?_; intro v20 e20
      refine ok_xl ?_; intro h21 E21
      exact ok_ret ⟨by rw [E21]; exact wF_160_120 V (by omega), fun x k w1 => by show h21 x k = h x k; rw [E21, up_n w1], by show h21 160 120 = _; rw [E21, up_s]; omega, by show (0 : Int) ≤ 3 ∧ (3 : Int) < _; omega⟩
    · have := K.1; exfalso; omega
/-- a kind whose name is a class's: its type -/
theorem rf_typeAt (hn : 1000000 ≤ nn) (V : VS_ h) (hc : 0 ≤ c ∧ c ≤ 7) (W : WI h c w) {p e : Int} (hp : 0 ≤ p) (he : e ≤ w 160 113) (K : RTk (w 238) p e) (F : KF nn h c (w 238) p e) : Ok_ (qf_X13_typeAt nn (6000 * c + p) h) (TF h (6000 * c + e)) := by
  have g3 := gF_160_113 W.1
  have g98 := gF_160_98 V
  have lt : p < e := by
    rcases K with K | K
    · omega
    · have := kd_lt K; omega
  unfold qf_X13_typeAt
  refine ok_rd (by omega) (gA_226 V) ?_; intro v24 e24 _ _
  rw [W.2.2.1 p (by omega) (by omega)] at e24
  refine ok_add (by omega) ?_; intro v25 e25
  refine ok_xl ?_; intro h26 E26
  have V26 : VS_ h26 := by rw [E26]; exact wF_160_120 V (by omega)
  have N26 : N12 h h26 := fun x k w1 => by rw [E26, up_n w1]
  have f120 : h26 160 120 = v25 := by rw [E26, up_s]
  have f98 : h26 160 98 = h 160 98 := by rw [E26, up_n (by omega)]
  have W26 : WI h26 c w := wi_k (ny_k (n12_ny N26)) W
  have F26 := kf_c (ny_ag (n12_ny N26)) F
  have one : ∀ t : Int, (0 ≤ t ∧ t < 20 + 2 * h 160 98) → e = p + 1 → Ok_ (some (t, h26)) (TF h (6000 * c + e)) := fun t ht y => ok_ret ⟨V26, N26, by show h26 160 120 = _; omega, ht⟩
  have con : ∀ u, TF h26 (6000 * c + e) u → TF h (6000 * c + e) u := fun u q => ⟨q.1, n12_tr N26 q.2.1, q.2.2.1, by have := q.2.2.2; rw [f98] at this; exact this⟩
  have sort : (v24 = 86 ∧ e = p + 1) ∨ (v24 = 90 ∧ e = p + 1) ∨ (v24 = 73 ∧ e = p + 1) ∨ (v24 = 76 ∧ KK (w 238) p e) ∨ (v24 = 91 ∧ KK (w 238) (p + 1) e) := by
    rw [e24]
    rcases K with K | K | ⟨_, K⟩ | K
    · exact .inl K
    · exact .inr (.inl K)
    · rcases K with K | K
      · exact .inr (.inr (.inl K))
      · exact .inr (.inr (.inr (.inl ⟨K.1, .inr K⟩)))
    · exact .inr (.inr (.inr (.inr K)))
  rcases sort with ⟨s, y⟩ | ⟨s, y⟩ | ⟨s, y⟩ | ⟨s, y⟩ | ⟨s, y⟩
  · rw [if_neg (show ¬ v24 = 73 by omega), if_pos (show ¬ v24 = 90 by omega), if_neg (show ¬ ¬ v24 = 86 by omega)]
    exact one 0 (by omega) y
  · rw [if_neg (show ¬ v24 = 73 by omega), if_neg (show ¬ ¬ v24 = 90 by omega)]
    exact one 1 (by omega) y
  · rw [if_pos s]
    exact one 1 (by omega) y
  · rw [if_neg (show ¬ v24 = 73 by omega), if_pos (show ¬ v24 = 90 by omega), if_pos (show ¬ v24 = 86 by omega), if_pos (show ¬ v24 = 91 by omega)]
    exact ok_im (rf_49 hn V26 hc W26 hp he y (fun q => F26.1 (by omega) q)) con
  · rw [if_neg (show ¬ v24 = 73 by omega), if_pos (show ¬ v24 = 90 by omega), if_pos (show ¬ v24 = 86 by omega), if_neg (show ¬ ¬ v24 = 91 by omega)]
    refine ok_add (by omega) ?_; intro v27 e27
    rw [show v27 = 6000 * c + (p + 1) by omega]
    refine ok_im (rf_49 hn V26 hc W26 (by omega) he y (fun q => ?_)) con
    have := F26.2 (by omega) q
    rw [show 6000 * c + (p + 1) + 1 = 6000 * c + p + 2 by omega, show e - (p + 1) - 2 = e - p - 3 by omega]
    exact this
end
