section
section
variable {nn : Nat} {h g r z w v : ms_M} {c d : Int}
theorem ny_ag (N : NY h g) : AGc h g := nz_ag (nz_ny N)
theorem ag_sy (A : AGc h g) : AGc g h := ⟨A.1.symm, A.2.1.symm, A.2.2.1.symm, A.2.2.2.1.symm, A.2.2.2.2.symm⟩
/-- only kindEnd moves -/
def N12 (h r : ms_M) : Prop := ∀ x k : Nat, ¬ (x = 160 ∧ k = 120) → r x k = h x k
theorem n12_ny (N : N12 h r) : NY h r := fun x k w1 _ _ => N x k (by omega)
theorem n12_tr (a : N12 h z) (b : N12 z r) : N12 h r := fun x k w => (b x k w).trans (a x k w)
/-- the name in the kind from p to e is a class's -/
def KF (nn : Nat) (h : ms_M) (c : Int) (f : Nat → Int) (p e : Int) : Prop := (¬ f p.toNat = 91 → KN f p e → FNm nn h (6000 * c + p + 1) (e - p - 2)) ∧ (f p.toNat = 91 → KN f (p + 1) e → FNm nn h (6000 * c + p + 2) (e - p - 3))
theorem kf_c {f : Nat → Int} {p e : Int} (A : AGc h g) (F : KF nn h c f p e) : KF nn g c f p e := ⟨fun a b => fn_c A (F.1 a b), fun a b => fn_c A (F.2 a b)⟩
/-- what reading a type tells: found, or a name without a class -/
def TW (nn : Nat) (h : ms_M) (c : Int) (F : Prop) (e : Int) (u : Int × ms_M) : Prop := TQ h (6000 * c + e) u ∧ (u.1 < 36 → F)
theorem ro_75 (hn : 1000000 ≤ nn) (V : VS_ h) (S : SPD h) (O : OI h) (room : h 160 117 ≤ 2099) (hc : 0 ≤ c ∧ c ≤ 7) (W : WI h c w) {l2 p e : Int} (hp : 0 ≤ p) (he : e ≤ w 160 113) (K : KN (w 238) p e) : ∀ (k : Nat) (i : Int), p < i → i < e → e - i < (k : Int) → Ok_ (qw_X13_typeAt_75 nn k l2 (6000 * c + p) (6000 * c + i) h) (TW nn h c (FNm nn h (6000 * c + p + 1) (e - p - 2)) e) := by
  have g3 := gF_160_113 W.1
  have g98 := gF_160_98 V
  obtain ⟨k1, k2, k3, k4⟩ := K
  intro k
  induction k with
  | zero => intro i a b hm; exfalso; omega
  | succ k ih =>
    intro i a b hm
    unfold qw_X13_typeAt_75
    refine ok_rd (by omega) (gA_226 V) ?_; intro v2 e2 _ _
    rw [W.2.2.1 i (by omega) (by omega)] at e2
    refine ok_if (fun C => ?_) (fun C => ?_)
    · have ei : i = e - 1 := by
        by_cases y : i < e - 1
        · exact absurd (e2.symm.trans C) (k4 i a y)
        · omega
      refine ok_add (by omega) ?_; intro v3 e3
      refine ok_xl ?_; intro h4 E4
      have V4 : VS_ h4 := by rw [E4]; exact wF_160_120 V (by omega)
      have N4 : NY h h4 := fun x k w1 w2 w3 => by rw [E4, up_n (by omega)]
      have f117 : h4 160 117 = h 160 117 := by rw [E4, up_n (by omega)]
      have f98 : h4 160 98 = h 160 98 := by rw [E4, up_n (by omega)]
      have f120 : h4 160 120 = v3 := by rw [E4, up_s]
      have O4 : OI h4 := by rw [E4]; exact oi_f (by decide) O
      refine ok_add (by omega) ?_; intro v5 e5
      refine ok_sub (by omega) ?_; intro v6 e6
      refine ok_sub (by omega) ?_; intro v7 e7
      refine ok_sv (fn_of hn V4 (ny_spd V N4 S) O4 (by omega) (by omega) (by omega)) ?_; intro u9 P9
      obtain ⟨⟨q1, q2, q3, q4, q5⟩, q6⟩ := P9
      have q7 : u9.1 < 16 → FNm nn h (6000 * c + p + 1) (e - p - 2) := fun y => by
        have := fn_c (ag_sy (ny_ag N4)) (q6 y)
        rw [e5, show v7 = e - p - 2 by omega] at this
        exact this
      refine ok_mul (by omega) ?_; intro v10 e10
      refine ok_add (by omega) ?_; intro v11 e11
      refine ok_if (fun _ => ?_) (fun _ => ?_)
      · refine ok_add (by omega) ?_; intro v12 e12
        exact ok_ret ⟨⟨q1, ny_tr N4 q2, q3, by show u9.2 160 120 = _; omega, by show (0 ≤ v12 ∧ v12 < 20 + 2 * h 160 98 ∧ u9.2 160 117 = h 160 117) ∨ (36 ≤ v12 ∧ v12 ≤ 4235 ∧ u9.2 160 117 ≤ h 160 117 + 1); omega⟩, fun (y : v12 < 36) => q7 (by omega)⟩
      · refine ok_add (by omega) ?_; intro v12 e12
        exact ok_ret ⟨⟨q1, ny_tr N4 q2, q3, by show u9.2 160 120 = _; omega, by show (0 ≤ v12 ∧ v12 < 20 + 2 * h 160 98 ∧ u9.2 160 117 = h 160 117) ∨ (36 ≤ v12 ∧ v12 ≤ 4235 ∧ u9.2 160 117 ≤ h 160 117 + 1); omega⟩, fun (y : v12 < 36) => q7 (by omega)⟩
    · have ei : i < e - 1 := by
        by_cases y : i < e - 1
        · exact y
        · exfalso
          have : i = e - 1 := by omega
          rw [this] at e2
          exact C (e2.trans k3)
      refine ok_add (by omega) ?_; intro v15 e15
      rw [show v15 = 6000 * c + (i + 1) by omega]
      exact ih (i + 1) (by omega) (by omega) (by omega)
/-- found: nothing but kindEnd moves -/
def TF (h : ms_M) (e : Int) (u : Int × ms_M) : Prop := VS_ u.2 ∧ N12 h u.2 ∧ u.2 160 120 = e ∧ (0 ≤ u.1 ∧ u.1 < 20 + 2 * h 160 98)
theorem rf_75 (V : VS_ h) (hc : 0 ≤ c ∧ c ≤ 7) (W : WI h c w) {l2 p e : Int} (hp : 0 ≤ p) (he : e ≤ w 160 113) (K : KN (w 238) p e) (F : FNm nn h (6000 * c + p + 1) (e - p - 2)) : ∀ (k : Nat) (i : Int), p < i → i < e → e - i < (k : Int) → Ok_ (qw_X13_typeAt_75 nn k l2 (6000 * c + p) (6000 * c + i) h) (TF h (6000 * c + e)) := by
  have g3 := gF_160_113 W.1
  have g98 := gF_160_98 V
  obtain ⟨k1, k2, k3, k4⟩ := K
  intro k
  induction k with
  | zero => intro i a b hm; exfalso; omega
  | succ k ih =>
    intro i a b hm
    unfold qw_X13_typeAt_75
    refine ok_rd (by omega) (gA_226 V) ?_; intro v2 e2 _ _
    rw [W.2.2.1 i (by omega) (by omega)] at e2
    refine ok_if (fun C => ?_) (fun C => ?_)
    · have ei : i = e - 1 := by
        by_cases y : i < e - 1
        · exact absurd (e2.symm.trans C) (k4 i a y)
        · omega
      refine ok_add (by omega) ?_; intro v3 e3
      refine ok_xl ?_; intro h4 E4
      have V4 : VS_ h4 := by rw [E4]; exact wF_160_120 V (by omega)
      have N4 : N12 h h4 := fun x k w1 => by rw [E4, up_n w1]
      have f98 : h4 160 98 = h 160 98 := by rw [E4, up_n (by omega)]
      have f120 : h4 160 120 = v3 := by rw [E4, up_s]
      refine ok_add (by omega) ?_; intro v5 e5
      refine ok_sub (by omega) ?_; intro v6 e6
      refine ok_sub (by omega) ?_; intro v7 e7
      have F4 := fn_c (ny_ag (n12_ny N4)) F
      rw [← e5, show e - p - 2 = v7 by omega] at F4
      refine ok_sv (fn_number F4) ?_; intro u9 P9
      obtain ⟨q1, q2⟩ := P9
      rw [q1]
      refine ok_mul (by omega) ?_; intro v10 e10
      refine ok_add (by omega) ?_; intro v11 e11
      refine ok_if (fun _ => ?_) (fun _ => ?_)
      · refine ok_add (by omega) ?_; intro v12 e12
        exact ok_ret ⟨V4, N4, by show h4 160 120 = _; omega, by show 0 ≤ v12 ∧ v12 < _; omega⟩
      · refine ok_add (by omega) ?_; intro v12 e12
        exact ok_ret ⟨V4, N4, by show h4 160 120 = _; omega, by show 0 ≤ v12 ∧ v12 < _; omega⟩
    · have ei : i < e - 1 := by
        by_cases y : i < e - 1
        · exact y
        · exfalso
          have : i = e - 1 := by omega
          rw [this] at e2
          exact C (e2.trans k3)
      refine ok_add (by omega) ?_; intro v15 e15
      rw [show v15 = 6000 * c + (i + 1) by omega]
      exact ih (i + 1) (by omega) (by omega) (by omega)
theorem rf_49 (hn : 1000000 ≤ nn) (V : VS_ h) (hc : 0 ≤ c ∧ c ≤ 7) (W : WI h c w) {l2 p e : Int} (hp : 0 ≤ p) (he : e ≤ w 160 113) (K : KK (w 238) p e) (F : KN (w 238) p e → FNm nn h (6000 * c + p + 1) (e - p - 2)) : Ok_ (qj_X13_typeAt_49 nn l2 (6000 * c + p) h) (TF h (6000 * c + e)) := by
  have g3 := gF_160_113 W.1
  have g98 := gF_160_98 V
  have lt := kk_lt K
  unfold qj_X13_typeAt_49
  refine ok_rd (by omega) (gA_226 V) ?_; intro v18 e18 _ _
  rw [W.2.2.1 p (by omega) (by omega)] at e18
  refine ok_if (fun C => ?_) (fun C => ?_)
  · rcases K with K | K
    · exact absurd (e18.trans K.1) C
    · refine ok_add (by omega) ?_; intro v19 e19
      rw [show v19 = 6000 * c + (p + 1) by omega]
      exact rf_75 V hc W hp he K (F K) nn (p + 1) (by omega) (by have := K.2.1; omega) (by omega)
  · have C : v18 = 73 := Decidable.not_not.1 C
    rcases K with K | K
    · refine ok_add (by omega) ?_; intro v20 e20
      refine ok_xl ?_; intro h21 E21
      exact ok_ret ⟨by rw [E21]; exact wF_160_120 V (by omega), fun x k w1 => by show h21 x k = h x k; rw [E21, up_n w1], by show h21 160 120 = _; rw [E21, up_s]; omega, by show (0 : Int) ≤ 3 ∧ (3 : Int) < _; omega⟩
    · have := K.1; exfalso; omega
/-- a kind whose name is a class's: its type -/
theorem rf_typeAt (hn : 1000000 ≤ nn) (V : VS_ h) (hc : 0 ≤ c ∧ c ≤ 7) (W : WI h c w) {p e : Int} (hp : 0 ≤ p) (he : e ≤ w 160 113) (K : RTk (w 238) p e) (F : KF nn h c (w 238) p e) : Ok_ (qf_X13_typeAt nn (6000 * c + p) h) (TF h (6000 * c + e)) := by
  have g3 := gF_160_113 W.1
  have g98 := gF_160_98 V
  have lt : p < e := by
    rcases K with K | K
    · omega
    · have := kd_lt K; omega
  unfold qf_X13_typeAt
  refine ok_rd (by omega) (gA_226 V) ?_; intro v24 e24 _ _
  rw [W.2.2.1 p (by omega) (by omega)] at e24
  refine ok_add (by omega) ?_; intro v25 e25
  refine ok_xl ?_; intro h26 E26
  have V26 : VS_ h26 := by rw [E26]; exact wF_160_120 V (by omega)
  have N26 : N12 h h26 := fun x k w1 => by rw [E26, up_n w1]
  have f120 : h26 160 120 = v25 := by rw [E26, up_s]
  have f98 : h26 160 98 = h 160 98 := by rw [E26, up_n (by omega)]
  have W26 : WI h26 c w := wi_k (ny_k (n12_ny N26)) W
  have F26 := kf_c (ny_ag (n12_ny N26)) F
  have one : ∀ t : Int, (0 ≤ t ∧ t < 20 + 2 * h 160 98) → e = p + 1 → Ok_ (some (t, h26)) (TF h (6000 * c + e)) := fun t ht y => ok_ret ⟨V26, N26, by show h26 160 120 = _; omega, ht⟩
  have con : ∀ u, TF h26 (6000 * c + e) u → TF h (6000 * c + e) u := fun u q => ⟨q.1, n12_tr N26 q.2.1, q.2.2.1, by have := q.2.2.2; rw [f98] at this; exact this⟩
  have sort : (v24 = 86 ∧ e = p + 1) ∨ (v24 = 90 ∧ e = p + 1) ∨ (v24 = 73 ∧ e = p + 1) ∨ (v24 = 76 ∧ KK (w 238) p e) ∨ (v24 = 91 ∧ KK (w 238) (p + 1) e) := by
    rw [e24]
    rcases K with K | K | ⟨_, K⟩ | K
    · exact .inl K
    · exact .inr (.inl K)
    · rcases K with K | K
      · exact .inr (.inr (.inl K))
      · exact .inr (.inr (.inr (.inl ⟨K.1, .inr K⟩)))
    · exact .inr (.inr (.inr (.inr K)))
  rcases sort with ⟨s, y⟩ | ⟨s, y⟩ | ⟨s, y⟩ | ⟨s, y⟩ | ⟨s, y⟩
  · rw [if_neg (show ¬ v24 = 73 by omega), if_pos (show ¬ v24 = 90 by omega), if_neg (show ¬ ¬ v24 = 86 by omega)]
    exact one 0 (by omega) y
  · rw [if_neg (show ¬ v24 = 73 by omega), if_neg (show ¬ ¬ v24 = 90 by omega)]
    exact one 1 (by omega) y
  · rw [if_pos s]
    exact one 1 (by omega) y
  · rw [if_neg (show ¬ v24 = 73 by omega), if_pos (show ¬ v24 = 90 by omega), if_pos (show ¬ v24 = 86 by omega), if_pos (show ¬ v24 = 91 by omega)]
    exact ok_im (rf_49 hn V26 hc W26 hp he y (fun q => F26.1 (by omega) q)) con
  · rw [if_neg (show ¬ v24 = 73 by omega), if_pos (show ¬ v24 = 90 by omega), if_pos (show ¬ v24 = 86 by omega), if_neg (show ¬ ¬ v24 = 91 by omega)]
    refine ok_add (by omega) ?_; intro v27 e27
    rw [show v27 = 6000 * c + (p + 1) by omega]
    refine ok_im (rf_49 hn V26 hc W26 (by omega) he y (fun q => ?_)) con
    have := F26.2 (by omega) q
    rw [show 6000 * c + (p + 1) + 1 = 6000 * c + p + 2 by omega, show e - (p + 1) - 2 = e - p - 3 by omega]
    exact this
end
end
section
section
variable {nn : Nat} {h g r z w v : ms_M} {c d : Int}
theorem ro_49 (hn : 1000000 ≤ nn) (V : VS_ h) (S : SPD h) (O : OI h) (room : h 160 117 ≤ 2099) (hc : 0 ≤ c ∧ c ≤ 7) (W : WI h c w) {l2 p e : Int} (hp : 0 ≤ p) (he : e ≤ w 160 113) (K : KK (w 238) p e) : Ok_ (qj_X13_typeAt_49 nn l2 (6000 * c + p) h) (TW nn h c (KN (w 238) p e → FNm nn h (6000 * c + p + 1) (e - p - 2)) e) := by
  have K0 := K
  have g3 := gF_160_113 W.1
  have lt := kk_lt K
  rcases K with K | K
  · exact ok_im (rv_type49 hn V S O room hc W hp he K0) (fun u q => ⟨q, fun _ y => by have := y.1; exfalso; omega⟩)
  · unfold qj_X13_typeAt_49
    refine ok_rd (by omega) (gA_226 V) ?_; intro v18 e18 _ _
    rw [W.2.2.1 p (by omega) (by omega)] at e18
    have k1 := K.1
    rw [if_pos (show ¬ v18 = 73 by omega)]
    refine ok_add (by omega) ?_; intro v19 e19
    rw [show v19 = 6000 * c + (p + 1) by omega]
    exact ok_im (ro_75 hn V S O room hc W hp he K nn (p + 1) (by omega) (by have := K.2.1; omega) (by omega)) (fun u q => ⟨q.1, fun y _ => q.2 y⟩)
/-- a kind's type; a number below 36 tells that its name is a class's -/
theorem ro_typeAt (hn : 1000000 ≤ nn) (V : VS_ h) (S : SPD h) (O : OI h) (room : h 160 117 ≤ 2099) (hc : 0 ≤ c ∧ c ≤ 7) (W : WI h c w) {p e : Int} (hp : 0 ≤ p) (he : e ≤ w 160 113) (K : RTk (w 238) p e) : Ok_ (qf_X13_typeAt nn (6000 * c + p) h) (TW nn h c (KF nn h c (w 238) p e) e) := by
  have g3 := gF_160_113 W.1
  have g98 := gF_160_98 V
  have K0 := K
  have lt : p < e := by
    rcases K with K | K
    · omega
    · have := kd_lt K; omega
  have sort : ((w 238 p.toNat = 86 ∨ w 238 p.toNat = 90 ∨ w 238 p.toNat = 73) ∧ e = p + 1) ∨ (w 238 p.toNat = 76 ∧ KK (w 238) p e) ∨ (w 238 p.toNat = 91 ∧ KK (w 238) (p + 1) e) := by
    rcases K with K | K | ⟨_, K⟩ | K
    · exact .inl ⟨.inl K.1, K.2⟩
    · exact .inl ⟨.inr (.inl K.1), K.2⟩
    · rcases K with K | K
      · exact .inl ⟨.inr (.inr K.1), K.2⟩
      · exact .inr (.inl ⟨K.1, .inr K⟩)
    · exact .inr (.inr K)
  rcases sort with ⟨s, y⟩ | sort
  · refine ok_im (rv_typeAt hn V S O room hc W hp he K0) (fun u q => ⟨q, fun _ => ⟨fun _ k => ?_, fun a _ => ?_⟩⟩)
    · have := k.2.1; exfalso; omega
    · exfalso; omega
  unfold qf_X13_typeAt
  refine ok_rd (by omega) (gA_226 V) ?_; intro v24 e24 _ _
  rw [W.2.2.1 p (by omega) (by omega)] at e24
  refine ok_add (by omega) ?_; intro v25 e25
  refine ok_xl ?_; intro h26 E26
  have V26 : VS_ h26 := by rw [E26]; exact wF_160_120 V (by omega)
  have N26 : NY h h26 := fun x k w1 w2 w3 => by rw [E26, up_n (by omega)]
  have f117 : h26 160 117 = h 160 117 := by rw [E26, up_n (by omega)]
  have f98 : h26 160 98 = h 160 98 := by rw [E26, up_n (by omega)]
  have O26 : OI h26 := by rw [E26]; exact oi_f (by decide) O
  have W26 : WI h26 c w := wi_k (ny_k N26) W
  have S26 := ny_spd V N26 S
  have con : ∀ u, TQ h26 (6000 * c + e) u → TQ h (6000 * c + e) u := fun u q => ⟨q.1, ny_tr N26 q.2.1, q.2.2.1, q.2.2.2.1, by have := q.2.2.2.2; rw [f117, f98] at this; exact this⟩
  rcases sort with ⟨s, y⟩ | ⟨s, y⟩
  · rw [if_neg (show ¬ v24 = 73 by omega), if_pos (show ¬ v24 = 90 by omega), if_pos (show ¬ v24 = 86 by omega), if_pos (show ¬ v24 = 91 by omega)]
    exact ok_im (ro_49 hn V26 S26 O26 (by omega) hc W26 hp he y) (fun u q => ⟨con u q.1, fun z => ⟨fun _ k => fn_c (ag_sy (ny_ag N26)) (q.2 z k), fun a _ => by exfalso; omega⟩⟩)
  · rw [if_neg (show ¬ v24 = 73 by omega), if_pos (show ¬ v24 = 90 by omega), if_pos (show ¬ v24 = 86 by omega), if_neg (show ¬ ¬ v24 = 91 by omega)]
    refine ok_add (by omega) ?_; intro v27 e27
    rw [show v27 = 6000 * c + (p + 1) by omega]
    refine ok_im (ro_49 hn V26 S26 O26 (by omega) hc W26 (by omega) he y) (fun u q => ⟨con u q.1, fun z => ⟨fun a _ => absurd s a, fun _ k => ?_⟩⟩)
    have := fn_c (ag_sy (ny_ag N26)) (q.2 z k)
    rw [show 6000 * c + (p + 1) + 1 = 6000 * c + p + 2 by omega, show e - (p + 1) - 2 = e - p - 3 by omega] at this
    exact this
/-- class constant i of image c has a class -/
def CFd (nn : Nat) (h : ms_M) (c : Int) (w : ms_M) (i : Int) : Prop := (¬ w 238 (pl w c (w 238 (pl w c i + 1).toNat) + 2).toNat = 91 → FNm nn h (6000 * c + pl w c (w 238 (pl w c i + 1).toNat) + 2) (w 238 (pl w c (w 238 (pl w c i + 1).toNat) + 1).toNat)) ∧ (w 238 (pl w c (w 238 (pl w c i + 1).toNat) + 2).toNat = 91 → KF nn h c (w 238) (pl w c (w 238 (pl w c i + 1).toNat) + 2) (pl w c (w 238 (pl w c i + 1).toNat) + 2 + w 238 (pl w c (w 238 (pl w c i + 1).toNat) + 1).toNat))
theorem cfd_c {i : Int} (A : AGc h g) (F : CFd nn h c w i) : CFd nn g c w i := ⟨fun a => fn_c A (F.1 a), fun a => kf_c A (F.2 a)⟩
theorem ro_typeOf (hn : 1000000 ≤ nn) (V : VS_ h) (S : SPD h) (O : OI h) (room : h 160 117 ≤ 2099) (hc : 0 ≤ c ∧ c ≤ 7) (W : WI h c w) {i : Int} (t : CL w c i) : Ok_ (qf_X13_typeOfClass nn c i h) (fun u => TR h u ∧ (u.1 < 36 → CFd nn h c w i)) := by
  have g98 := gF_160_98 V
  unfold qf_X13_typeOfClass CFd
  refine ok_sv (rv_textOf V hc W t) ?_; intro u2 P2
  obtain ⟨e2, t1, t2⟩ := P2
  rw [← e2]
  obtain ⟨a1, a2, a3, a4, a5⟩ := wi_tx W hc t1
  have ct := t2.2.2.2.2 rfl
  refine ok_mul (by omega) ?_; intro v3 e3
  refine ok_mul (by omega) ?_; intro v5 e5
  refine ok_add (by omega) ?_; intro v6 e6
  refine ok_rd (by omega) (gA_228 V) ?_; intro v7 e7 _ _
  rw [e6, e5, a2] at e7
  refine ok_add (by omega) ?_; intro v8 e8
  refine ok_add (by omega) ?_; intro v10 e10
  refine ok_rd (by omega) (gA_226 V) ?_; intro v11 e11 _ _
  rw [show v10 = 6000 * c + (pl w c u2 + 2) by omega, W.2.2.1 _ (by omega) (by omega)] at e11
  refine ok_if (fun C => ?_) (fun C => ?_)
  · refine ok_add (by omega) ?_; intro v12 e12
    refine ok_add (by omega) ?_; intro v14 e14
    refine ok_rd (by omega) (gA_226 V) ?_; intro v15 e15 _ _
    rw [show v14 = 6000 * c + pl w c u2 + 1 by omega, a5] at e15
    refine ok_sv (fn_of hn V S O room (by omega) (by omega)) ?_; intro u17 P17
    obtain ⟨⟨q1, q2, q3, q4, q5⟩, q6⟩ := P17
    refine ok_mul (by omega) ?_; intro v18 e18
    refine ok_add (by omega) ?_; intro v19 e19
    refine ok_ret ⟨⟨q1, q2, q3, by show (0 ≤ v19 ∧ v19 < 20 + 2 * h 160 98 ∧ u17.2 160 117 = h 160 117) ∨ (36 ≤ v19 ∧ v19 ≤ 4235 ∧ u17.2 160 117 ≤ h 160 117 + 1); omega⟩, fun (y : v19 < 36) => ⟨fun _ => ?_, fun z => absurd (e11.trans z) C⟩⟩
    have := q6 (by omega)
    rw [show v12 = 6000 * c + pl w c u2 + 2 by omega, e15] at this
    exact this
  · have C : v11 = 91 := Decidable.not_not.1 C
    refine ok_add (by omega) ?_; intro v20 e20
    rw [show v20 = 6000 * c + (pl w c u2 + 2) by omega]
    have kd : KD (w 238) (pl w c u2 + 2) (pl w c u2 + 2 + w 238 (pl w c u2 + 1).toNat) := by
      rcases ct with y | y
      · exact y.2
      · exact absurd (e11.symm.trans C) y.1
    refine ok_sv (ro_typeAt hn V S O room hc W (by omega) (by omega) (.inr kd)) ?_; intro u22 P22
    exact ok_ret ⟨tr_q P22.1, fun y => ⟨fun z => absurd (e11.symm.trans C) z, fun _ => P22.2 y⟩⟩
/-- found: nothing but kindEnd moves -/
def TF2 (h : ms_M) (u : Int × ms_M) : Prop := VS_ u.2 ∧ N12 h u.2 ∧ (0 ≤ u.1 ∧ u.1 < 20 + 2 * h 160 98)
theorem rf_typeOf (hn : 1000000 ≤ nn) (V : VS_ h) (hc : 0 ≤ c ∧ c ≤ 7) (W : WI h c w) {i : Int} (t : CL w c i) (F : CFd nn h c w i) : Ok_ (qf_X13_typeOfClass nn c i h) (TF2 h) := by
  have g98 := gF_160_98 V
  unfold CFd at F
  unfold qf_X13_typeOfClass
  refine ok_sv (rv_textOf V hc W t) ?_; intro u2 P2
  obtain ⟨e2, t1, t2⟩ := P2
  rw [← e2] at F
  obtain ⟨a1, a2, a3, a4, a5⟩ := wi_tx W hc t1
  have ct := t2.2.2.2.2 rfl
  refine ok_mul (by omega) ?_; intro v3 e3
  refine ok_mul (by omega) ?_; intro v5 e5
  refine ok_add (by omega) ?_; intro v6 e6
  refine ok_rd (by omega) (gA_228 V) ?_; intro v7 e7 _ _
  rw [e6, e5, a2] at e7
  refine ok_add (by omega) ?_; intro v8 e8
  refine ok_add (by omega) ?_; intro v10 e10
  refine ok_rd (by omega) (gA_226 V) ?_; intro v11 e11 _ _
  rw [show v10 = 6000 * c + (pl w c u2 + 2) by omega, W.2.2.1 _ (by omega) (by omega)] at e11
  refine ok_if (fun C => ?_) (fun C => ?_)
  · refine ok_add (by omega) ?_; intro v12 e12
    refine ok_add (by omega) ?_; intro v14 e14
    refine ok_rd (by omega) (gA_226 V) ?_; intro v15 e15 _ _
    rw [show v14 = 6000 * c + pl w c u2 + 1 by omega, a5] at e15
    have F1 := F.1 (fun z => C (e11.trans z))
    rw [show 6000 * c + pl w c u2 + 2 = v12 by omega, ← e15] at F1
    refine ok_sv (fn_number F1) ?_; intro u17 P17
    rw [P17.1]
    have q := P17.2
    refine ok_mul (by omega) ?_; intro v18 e18
    refine ok_add (by omega) ?_; intro v19 e19
    exact ok_ret ⟨V, fun _ _ _ => rfl, by show 0 ≤ v19 ∧ v19 < _; omega⟩
  · have C : v11 = 91 := Decidable.not_not.1 C
    refine ok_add (by omega) ?_; intro v20 e20
    rw [show v20 = 6000 * c + (pl w c u2 + 2) by omega]
    have kd : KD (w 238) (pl w c u2 + 2) (pl w c u2 + 2 + w 238 (pl w c u2 + 1).toNat) := by
      rcases ct with y | y
      · exact y.2
      · exact absurd (e11.symm.trans C) y.1
    refine ok_sv (rf_typeAt hn V hc W (by omega) (by omega) (.inr kd) (F.2 (e11.symm.trans C))) ?_; intro u22 P22
    exact ok_ret ⟨P22.1, P22.2.1, P22.2.2.2⟩
end
end
section
section
variable {nn : Nat} {h g r z w v : ms_M} {c d : Int}
theorem rv_kindv (V : VS_ h) (hc : 0 ≤ c ∧ c ≤ 7) (W : WI h c w) {k s : Int} (hk : 0 ≤ k ∧ k < mem h c s) : Ok_ (qf_X13_kindText nn c k s h) (fun u => (s = 0 → u = w 238 (h 233 (12 * c + k).toNat + 1).toNat) ∧ (¬ s = 0 → u = w 238 (h 235 (12 * c + k).toNat + 2).toNat)) := by
  unfold qf_X13_kindText
  refine ok_if (fun C => ?_) (fun C => ?_)
  · rw [show mem h c s = h 232 c.toNat from if_pos C] at hk
    obtain ⟨k12, e, p, t0, t1⟩ := wi_fd W hc hk
    have g3 := gF_160_113 W.1
    refine ok_mul (by omega) ?_; intro v2 e2
    refine ok_add (by omega) ?_; intro v3 e3
    refine ok_rd (by omega) (gA_233 V) ?_; intro v4 e4 _ _
    rw [e3, e2] at e4
    rw [← e4] at p
    refine ok_add (by omega) ?_; intro v5 e5
    refine ok_sv (rv_byte V hc (by omega)) ?_; intro u6 P6
    refine ok_ret ⟨fun _ => ?_, fun y => absurd C y⟩
    rw [P6.1, W.2.2.1 v5 (by omega) (by omega), e5, e4]
  · rw [show mem h c s = h 234 c.toNat from if_neg C] at hk
    obtain ⟨k12, b, m⟩ := wi_mt W hc hk
    refine ok_mul (by omega) ?_; intro v8 e8
    refine ok_add (by omega) ?_; intro v9 e9
    refine ok_rd (by omega) (gA_235 V) ?_; intro v10 e10 _ _
    rw [e9, e8] at e10
    rw [← e10] at b
    refine ok_add (by omega) ?_; intro v11 e11
    refine ok_sv (rv_byte V hc (by omega)) ?_; intro u13 P13
    refine ok_ret ⟨fun y => absurd y C, fun _ => ?_⟩
    rw [P13.1, W.2.2.1 v11 (by omega) (by omega), e11, e10]
/-- k kinds one behind the other, with names of classes -/
def PFn (nn : Nat) (h : ms_M) (c : Int) (f : Nat → Int) : Nat → Int → Int → Prop
  | 0, p, q => p = q
  | k + 1, p, q => ∃ e : Int, (KD f p e ∧ KF nn h c f p e) ∧ PFn nn h c f k e q
/-- a method's kind from a to e, all its names are classes' -/
def MKF (nn : Nat) (h : ms_M) (c : Int) (f : Nat → Int) (a e : Int) : Prop := ∃ (m : Nat) (q : Int), m ≤ 6 ∧ PFn nn h c f m (a + 1) q ∧ f q.toNat = 41 ∧ RTk f (q + 1) e ∧ KF nn h c f (q + 1) e
theorem pf_c {f : Nat → Int} (A : AGc h g) : ∀ (k : Nat) (p q : Int), PFn nn h c f k p q → PFn nn g c f k p q := by
  intro k
  induction k with
  | zero => intro p q y; exact y
  | succ k ih =>
    intro p q y
    obtain ⟨e, a, b⟩ := y
    exact ⟨e, ⟨a.1, kf_c A a.2⟩, ih _ _ b⟩
theorem mkf_c {f : Nat → Int} {a e : Int} (A : AGc h g) (F : MKF nn h c f a e) : MKF nn g c f a e := by
  obtain ⟨m, q, x1, x2, x3, x4, x5⟩ := F
  exact ⟨m, q, x1, pf_c A _ _ _ x2, x3, x4, kf_c A x5⟩
/-- text i of image c is the kind of a method, all its names are classes' -/
def TKF (nn : Nat) (h : ms_M) (c : Int) (w : ms_M) (i : Int) : Prop := MKF nn h c (w 238) (pl w c i + 2) (pl w c i + 2 + w 238 (pl w c i + 1).toNat)
/-- the same of a field's kind -/
def TKG (nn : Nat) (h : ms_M) (c : Int) (w : ms_M) (i : Int) : Prop := KF nn h c (w 238) (pl w c i + 2) (pl w c i + 2 + w 238 (pl w c i + 1).toNat)
theorem ks_42 (hn : 1000000 ≤ nn) (V : VS_ h) (S : SPD h) (room : h 160 117 ≤ 2090) (hc : 0 ≤ c ∧ c ≤ 7) (W : WI h c w) : ∀ (k : Nat) (l2 l3 : Int) (g : ms_M), GK h l2 g → (0 ≤ l3 ∧ l3 ≤ 255) → 256 - l3 < (k : Int) → Ok_ (qw_X13_kindsAreThere_42 nn k c l2 l3 g) (fun u => GK h u.1 u.2 ∧ (l2 = 0 → u.1 = 0) ∧ (¬ u.1 = 0 → ∀ j : Int, l3 ≤ j → j < h 234 c.toNat → TKF nn h c w (w 238 (h 235 (12 * c + j).toNat + 2).toNat))) := by
  intro k
  induction k with
  | zero => intro l2 l3 g G a hm; exfalso; omega
  | succ k ih =>
    intro l2 l3 g G a hm
    have g01 := gk_01 G
    have Vg := G.1
    have Ng := G.2.1
    have Wg : WI g c w := wi_k (ny_k Ng) W
    have f234 : g 234 c.toNat = h 234 c.toNat := ny_k Ng 234 _ (by decide) (by decide)
    unfold qw_X13_kindsAreThere_42
    refine ok_rd (by omega) (gA_234 Vg) ?_; intro v18 e18 _ _
    refine ok_if (fun C => ok_ck g01 (ok_ret ⟨G, id, fun _ j j1 j2 => by exfalso; omega⟩)) (fun C => ?_)
    refine ok_if (fun D => ok_ck g01 (ok_ret ⟨G, id, fun y => absurd D y⟩)) (fun D => ?_)
    obtain ⟨k12, bb, mm⟩ := wi_mt Wg hc (k := l3) (by omega)
    refine ok_mul (by omega) ?_; intro v21 e21
    refine ok_mul (by omega) ?_; intro v23 e23
    have hk : 0 ≤ l3 ∧ l3 < mem g c 1 := by rw [show mem g c 1 = g 234 c.toNat from rfl]; omega
    refine ok_sv (ok_both (rv_kind Vg hc Wg hk) (rv_kindv Vg hc Wg hk)) ?_; intro u25 P25
    have t := P25.1.2 (by decide)
    have ev := P25.2.2 (by decide)
    rw [ny_k Ng 235 _ (by decide) (by decide)] at ev
    obtain ⟨a1, a2, a3, a4, a5⟩ := wi_tx Wg hc t.1
    obtain ⟨m, m6, _, q, pr, fq, rt⟩ := t.2.2.2.1 rfl
    refine ok_add (by omega) ?_; intro v26 e26
    refine ok_rd (by omega) (gA_228 Vg) ?_; intro v27 e27 _ _
    rw [e26, e23, a2] at e27
    refine ok_add (by omega) ?_; intro v28 e28
    refine ok_add (by omega) ?_; intro v29 e29
    have ql : q + 2 ≤ pl w c u25 + 2 + w 238 (pl w c u25 + 1).toNat := by
      rcases rt with y | y
      · omega
      · have := kd_lt y; omega
    -- what is told from place p on
    have J141 : ∀ (X : Prop) (f : ms_M), GK h 0 f → Ok_ (qj_X13_kindsAreThere_141 nn (qw_X13_kindsAreThere_42 nn k) c l3 f) (fun u => GK h u.1 u.2 ∧ (¬ u.1 = 0 → X)) := fun X f Gf => by
      unfold qj_X13_kindsAreThere_141
      refine ok_add (by omega) ?_; intro v1 e1
      exact ok_im (ih 0 v1 f Gf (by omega) (by omega)) (fun u q => ⟨q.1, fun y => absurd (q.2.1 rfl) y⟩)
    have L : ∀ (j : Nat) (x : Int) (n : Nat) (p : Int) (f : ms_M), GK h x f → 0 ≤ p → PRn (w 238) n p q → (n : Int) < j → Ok_ (qw_X13_kindsAreThere_84 nn (qw_X13_kindsAreThere_42 nn k) j c x l3 (6000 * c + p) f) (fun u => GK h u.1 u.2 ∧ (¬ u.1 = 0 → (PFn nn h c (w 238) n p q ∧ KF nn h c (w 238) (q + 1) (pl w c u25 + 2 + w 238 (pl w c u25 + 1).toNat)) ∧ ∀ j : Int, l3 + 1 ≤ j → j < h 234 c.toNat → TKF nn h c w (w 238 (h 235 (12 * c + j).toNat + 2).toNat))) := by
      intro j
      induction j with
      | zero => intro x n p f Gf p0 pr hm2; exfalso; omega
      | succ j ih2 =>
        intro x n p f Gf p0 pr hm2
        have Vf := Gf.1
        have Nf := Gf.2.1
        have Wf : WI f c w := wi_k (ny_k Nf) W
        have Sf : SPD f := ny_spd V Nf S
        have le := pr_le _ _ _ pr
        have back := ag_sy (ny_ag Nf)
        unfold qw_X13_kindsAreThere_84
        refine ok_rd (by omega) (gA_226 Vf) ?_; intro v10 e10 _ _
        rw [Wf.2.2.1 p (by omega) (by omega)] at e10
        cases n with
        | zero =>
          have pr : p = q := pr
          have e41 : v10 = 41 := by rw [e10, pr]; exact fq
          rw [if_pos e41]
          unfold qj_X13_kindsAreThere_119
          refine ok_if (fun y => J141 _ f (by rw [← y]; exact Gf)) (fun y => ?_)
          obtain ⟨G1, e117⟩ := gk_1 Gf y
          refine ok_add (by omega) ?_; intro v2 e2
          rw [show v2 = 6000 * c + (q + 1) by omega]
          refine ok_sv (ro_typeAt hn Vf Sf Gf.2.2.1 (by omega) hc Wf (by omega) (by omega) rt) ?_; intro u4 P4
          have tr := tr_q P4.1
          refine ok_sv (rv_there (tr_rg Vf tr)) ?_; intro u5 P5
          refine ok_if (fun z => J141 _ u4.2 (gk_ty G1 tr (by omega))) (fun z => ?_)
          refine ok_add (by omega) ?_; intro v6 e6
          refine ok_im (ih 1 v6 u4.2 (gk_ty G1 tr (by omega)) (by omega) (by omega)) (fun u w2 => ⟨w2.1, fun y => ⟨⟨pr, kf_c back (P4.2 (by omega))⟩, fun j j1 j2 => w2.2.2 y j (by omega) j2⟩⟩)
        | succ n =>
          obtain ⟨e1, kd, pr2⟩ := pr
          have n41 := kd_no kd
          have lt := kd_lt kd
          have le2 := pr_le _ _ _ pr2
          rw [if_neg (show ¬ v10 = 41 by rw [e10]; exact n41)]
          refine ok_if (fun y => ?_) (fun y => ?_)
          · unfold qj_X13_kindsAreThere_119
            rw [if_pos y]
            exact J141 _ f (by rw [← y]; exact Gf)
          obtain ⟨G1, e117⟩ := gk_1 Gf y
          refine ok_sv (ro_typeAt hn Vf Sf Gf.2.2.1 (by omega) hc Wf p0 (by omega) (.inr kd)) ?_; intro u12 P12
          have tr := tr_q P12.1
          refine ok_sv (rv_there (tr_rg Vf tr)) ?_; intro u13 P13
          rw [P12.1.2.2.2.1]
          by_cases z : u12.1 < 36
          · exact ok_im (ih2 u13 n e1 u12.2 (gk_ty G1 tr (by omega)) (by omega) pr2 (by omega)) (fun u w2 => ⟨w2.1, fun y => ⟨⟨⟨e1, ⟨kd, kf_c back (P12.2 z)⟩, (w2.2 y).1.1⟩, (w2.2 y).1.2⟩, (w2.2 y).2⟩⟩)
          · have u0 : u13 = 0 := by omega
            rw [u0]
            have G2 : GK h 0 u12.2 := gk_ty G1 tr (by omega)
            cases j with
            | zero => exfalso; omega
            | succ j =>
              unfold qw_X13_kindsAreThere_84
              refine ok_rd (by omega) (gA_226 G2.1) ?_; intro v11 _ _ _
              have J : ∀ X : Prop, Ok_ (qj_X13_kindsAreThere_119 nn (qw_X13_kindsAreThere_42 nn k) c 0 l3 (6000 * c + e1) u12.2) (fun u => GK h u.1 u.2 ∧ (¬ u.1 = 0 → X)) := fun X => by
                unfold qj_X13_kindsAreThere_119
                rw [if_pos rfl]
                exact J141 X u12.2 G2
              exact ok_if (fun _ => J _) (fun _ => ok_if (fun _ => J _) (fun y => absurd rfl y))
    rw [show v29 = 6000 * c + (pl w c u25 + 2 + 1) by omega]
    refine ok_im (L nn l2 m _ g G (by omega) pr (by omega)) (fun u y => ⟨y.1, fun z => absurd z D, fun z j j1 j2 => ?_⟩)
    by_cases e : j = l3
    · rw [e, ← ev]
      exact ⟨m, q, m6, (y.2 z).1.1, fq, rt, (y.2 z).1.2⟩
    · exact (y.2 z).2 j (by omega) j2
/-- all kinds of class c name classes -/
def KAF (nn : Nat) (h : ms_M) (c : Int) (w : ms_M) : Prop := (∀ j : Int, 0 ≤ j → j < h 232 c.toNat → TKG nn h c w (w 238 (h 233 (12 * c + j).toNat + 1).toNat)) ∧ (∀ j : Int, 0 ≤ j → j < h 234 c.toNat → TKF nn h c w (w 238 (h 235 (12 * c + j).toNat + 2).toNat))
theorem ks_kinds (hn : 1000000 ≤ nn) (V : VS_ h) (S : SPD h) (O : OI h) (room : h 160 117 ≤ 2090) (hc : 0 ≤ c ∧ c ≤ 7) (W : WI h c w) : Ok_ (qf_X13_kindsAreThere nn c h) (fun u => GK h u.1 u.2 ∧ (¬ u.1 = 0 → KAF nn h c w)) := by
  have L : ∀ (k : Nat) (l2 l3 : Int) (g : ms_M), GK h l2 g → (¬ l2 = 0 → ∀ j : Int, 0 ≤ j → j < l3 → TKG nn h c w (w 238 (h 233 (12 * c + j).toNat + 1).toNat)) → (0 ≤ l3 ∧ l3 ≤ 255) → 256 - l3 < (k : Int) → Ok_ (qw_X13_kindsAreThere_4 nn k c l2 l3 g) (fun u => GK h u.1 u.2 ∧ (¬ u.1 = 0 → KAF nn h c w)) := by
    intro k
    induction k with
    | zero => intro l2 l3 g G T a hm; exfalso; omega
    | succ k ih =>
      intro l2 l3 g G T a hm
      have Vg := G.1
      have Ng := G.2.1
      have Wg : WI g c w := wi_k (ny_k Ng) W
      have Sg : SPD g := ny_spd V Ng S
      have f232 : g 232 c.toNat = h 232 c.toNat := ny_k Ng 232 _ (by decide) (by decide)
      unfold qw_X13_kindsAreThere_4
      refine ok_rd (by omega) (gA_232 Vg) ?_; intro v33 e33 _ _
      refine ok_if (fun C => ?_) (fun C => ?_)
      · refine ok_im (ks_42 hn V S room hc W nn l2 0 g G (by omega) (by omega)) (fun u q => ⟨q.1, fun y => ⟨fun j j1 j2 => T (fun z => y (q.2.1 z)) j j1 (by omega), fun j j1 j2 => q.2.2 y j j1 j2⟩⟩)
      refine ok_if (fun D => ?_) (fun D => ?_)
      · exact ok_im (ks_42 hn V S room hc W nn l2 0 g G (by omega) (by omega)) (fun u q => ⟨q.1, fun y => absurd (q.2.1 D) y⟩)
      obtain ⟨G1, e117⟩ := gk_1 G D
      have k12 := (wi_fd Wg hc (k := l3) (by omega)).1
      have hk : 0 ≤ l3 ∧ l3 < mem g c 0 := by rw [show mem g c 0 = g 232 c.toNat from rfl]; omega
      refine ok_sv (ok_both (rv_kind Vg hc Wg hk) (rv_kindv Vg hc Wg hk)) ?_; intro u35 P35
      have t := P35.1.1 rfl
      have ev := P35.2.1 rfl
      rw [ny_k Ng 233 _ (by decide) (by decide)] at ev
      obtain ⟨a1, a2, a3, a4, a5⟩ := wi_tx Wg hc t.1
      have kt : Ok_ (qf_X13_kindType nn c u35 g) (fun u => TR g u ∧ (u.1 < 36 → TKG nn g c w u35)) := by
        unfold qf_X13_kindType
        refine ok_mul (by omega) ?_; intro v1 e1
        refine ok_mul (by omega) ?_; intro v3 e3
        refine ok_add (by omega) ?_; intro v4 e4
        refine ok_rd (by omega) (gA_228 Vg) ?_; intro v5 e5 _ _
        rw [e4, e3, a2] at e5
        refine ok_add (by omega) ?_; intro v6 e6
        refine ok_add (by omega) ?_; intro v7 e7
        rw [show v7 = 6000 * c + (pl w c u35 + 2) by omega]
        refine ok_sv (ro_typeAt hn Vg Sg G.2.2.1 (by omega) hc Wg (by omega) (by omega) (.inr (t.2.2.1 rfl))) ?_; intro u9 P9
        exact ok_ret ⟨tr_q P9.1, P9.2⟩
      refine ok_sv kt ?_; intro u37 P37
      refine ok_sv (rv_there (tr_rg Vg P37.1)) ?_; intro u38 P38
      refine ok_add (by omega) ?_; intro v39 e39
      refine ih u38 v39 u37.2 (gk_ty G1 P37.1 P38) (fun y j j1 j2 => ?_) (by omega) (by omega)
      by_cases e : j = l3
      · rw [e, ← ev]
        exact kf_c (ag_sy (ny_ag Ng)) (P37.2 (by omega))
      · exact T D j j1 (by omega)
  unfold qf_X13_kindsAreThere
  exact L nn 1 0 h ⟨V, ny_rf, O, .inl ⟨rfl, rfl⟩⟩ (fun _ j j1 j2 => by exfalso; omega) (by omega) (by omega)
end
end
section
section
variable {nn : Nat} {h g r z w v : ms_M} {c d k : Int}
/-- method k of image c is under check: p its place -/
def MC (h : ms_M) (c k : Int) (w : ms_M) : Prop := (0 ≤ c ∧ c ≤ 7) ∧ (0 ≤ k ∧ k < h 234 c.toNat) ∧ WI h c w ∧ h 160 132 = c ∧ h 160 133 = k ∧ h 160 130 = w 238 (h 235 (12 * c + k).toNat + 3).toNat ∧ h 160 129 = w 238 (h 235 (12 * c + k).toNat + 4).toNat ∧ h 160 135 = pw (w 238 (h 235 (12 * c + k).toNat + 5).toNat) (w 238 (h 235 (12 * c + k).toNat + 6).toNat) ∧ h 160 134 = h 235 (12 * c + k).toNat + 7
theorem mv_pair (V : VS_ h) (hc : 0 ≤ c ∧ c ≤ 7) (e : h 160 132 = c) {p : Int} (hp : 0 ≤ p ∧ p + 1 < 6000) : Ok_ (qf_X13_pairIn nn p h) (fun u => (0 ≤ u ∧ u ≤ 65535) ∧ u = pw (h 226 (6000 * c + p).toNat) (h 226 (6000 * c + (p + 1)).toNat)) := by
  unfold qf_X13_pairIn
  rw [e]
  refine ok_sv (rv_byte V hc (by omega)) ?_; intro u3 P3
  refine ok_shl8 P3.2 ?_; intro v4 e4
  refine ok_add (by omega) ?_; intro v6 e6
  refine ok_sv (rv_byte V hc (by omega)) ?_; intro u8 P8
  have b3 := P3.2
  have b8 := P8.2
  refine ok_xl ?_; intro v9 e9
  have q := oq_or_rg (x := v4) (y := u8) (by omega) (by omega)
  refine ok_ret ⟨by rw [e9]; exact q, ?_⟩
  unfold pw
  rw [e9, ← P3.1, ← e6, ← P8.1, ← e4]
theorem mv_pairw (V : VS_ h) (hc : 0 ≤ c ∧ c ≤ 7) (W : WI h c w) (e : h 160 132 = c) {p : Int} (hp : 0 ≤ p ∧ p + 1 < w 160 113) : Ok_ (qf_X13_pairIn nn p h) (fun u => (0 ≤ u ∧ u ≤ 65535) ∧ u = pw (w 238 p.toNat) (w 238 (p + 1).toNat)) := by
  have g3 := gF_160_113 W.1
  refine ok_im (mv_pair V hc e (by omega)) (fun u P => ⟨P.1, ?_⟩)
  rw [P.2, W.2.2.1 p (by omega) (by omega), W.2.2.1 (p + 1) (by omega) (by omega)]
theorem mv_bytew (V : VS_ h) (hc : 0 ≤ c ∧ c ≤ 7) (W : WI h c w) {p : Int} (hp : 0 ≤ p ∧ p < w 160 113) : Ok_ (qf_X13_byteAt nn c p h) (fun u => u = w 238 p.toNat ∧ (0 ≤ u ∧ u ≤ 255)) := by
  have g3 := gF_160_113 W.1
  refine ok_im (rv_byte V hc (by omega)) (fun u P => ⟨?_, P.2⟩)
  rw [P.1, W.2.2.1 p (by omega) (by omega)]
/-- what beginning a method's check leaves -/
def NAt (h r : ms_M) : Prop := ∀ x j : Nat, ¬ (x = 160 ∧ 129 ≤ j ∧ j ≤ 135) → r x j = h x j
theorem mv_at (V : VS_ h) (W : WI h c w) (hc : 0 ≤ c ∧ c ≤ 7) (hk : 0 ≤ k ∧ k < h 234 c.toNat) : Ok_ (qf_X13_at_ nn (8 + c) k h) (fun r => VS_ r ∧ NAt h r ∧ MC r c k w) := by
  obtain ⟨k12, b, m⟩ := wi_mt W hc hk
  have gp := gA_235 V (12 * c + k).toNat (by omega)
  have mb : 1 ≤ pw (w 238 (h 235 (12 * c + k).toNat + 5).toNat) (w 238 (h 235 (12 * c + k).toNat + 6).toNat) ∧ pw (w 238 (h 235 (12 * c + k).toNat + 5).toNat) (w 238 (h 235 (12 * c + k).toNat + 6).toNat) ≤ 1500 := by
    obtain ⟨q, _, m⟩ := m
    unfold XM XI XG XE XD XC at m
    exact m.2.2.2.2.2.2.1
  have m3 : w 238 (h 235 (12 * c + k).toNat + 3).toNat ≤ 30 ∧ w 238 (h 235 (12 * c + k).toNat + 4).toNat ≤ 30 := by
    obtain ⟨q, _, m⟩ := m
    unfold XM XI XG XE XD XC at m
    exact ⟨m.2.2.2.1, m.2.2.2.2.1⟩
  unfold qf_X13_at_
  refine ok_sub (by omega) ?_; intro v1 e1
  rw [show v1 = c by omega]
  refine ok_xl ?_; intro h2 E2
  have V2 : VS_ h2 := by rw [E2]; exact wF_160_132 V (by omega)
  refine ok_xl ?_; intro h3 E3
  have V3 : VS_ h3 := by rw [E3]; exact wF_160_133 V2 (by omega)
  have N3 : NAt h h3 := fun x j y => by rw [E3, up_n (by omega), E2, up_n (by omega)]
  have f3 : h3 160 132 = c := by rw [E3, up_n (by decide), E2, up_s]
  have W3 : WI h3 c w := wi_k (fun x j _ _ => N3 x j (by omega)) W
  rw [f3]
  refine ok_mul (by omega) ?_; intro v6 e6
  refine ok_add (by omega) ?_; intro v7 e7
  refine ok_rd (by omega) (gA_235 V3) ?_; intro v8 e8 _ _
  rw [e7, e6, N3 235 _ (by omega)] at e8
  rw [← e8] at b gp mb m3
  refine ok_add (by omega) ?_; intro v10 e10
  refine ok_sv (mv_bytew V3 hc W3 (by omega)) ?_; intro u12 P12
  refine ok_xl ?_; intro h13 E13
  have u12b : u12 ≤ 30 := by rw [P12.1, e10]; exact m3.1
  have V13 : VS_ h13 := by rw [E13]; exact wF_160_130 V3 (by have := P12.2; omega)
  have N13 : NAt h h13 := fun x j y => by rw [E13, up_n (by omega)]; exact N3 x j y
  have f13 : h13 160 132 = c := by rw [E13, up_n (by decide)]; exact f3
  have W13 : WI h13 c w := wi_k (fun x j _ _ => N13 x j (by omega)) W
  rw [f13]
  refine ok_add (by omega) ?_; intro v15 e15
  refine ok_sv (mv_bytew V13 hc W13 (by omega)) ?_; intro u17 P17
  refine ok_xl ?_; intro h18 E18
  have u17b : u17 ≤ 30 := by rw [P17.1, e15]; exact m3.2
  have V18 : VS_ h18 := by rw [E18]; exact wF_160_129 V13 (by have := P17.2; omega)
  have N18 : NAt h h18 := fun x j y => by rw [E18, up_n (by omega)]; exact N13 x j y
  have f18 : h18 160 132 = c := by rw [E18, up_n (by decide)]; exact f13
  have W18 : WI h18 c w := wi_k (fun x j _ _ => N18 x j (by omega)) W
  refine ok_add (by omega) ?_; intro v19 e19
  refine ok_sv (mv_pairw V18 hc W18 f18 (by omega)) ?_; intro u21 P21
  obtain ⟨P21, Q21⟩ := P21
  rw [e19, show v8 + 5 + 1 = v8 + 6 by omega] at Q21
  refine ok_xl ?_; intro h22 E22
  have V22 : VS_ h22 := by rw [E22]; exact wF_160_135 V18 (by omega)
  refine ok_add (by omega) ?_; intro v23 e23
  refine ok_xl ?_; intro h24 E24
  have V24 : VS_ h24 := by rw [E24]; exact wF_160_134 V22 (by omega)
  have N24 : NAt h h24 := fun x j y => by rw [E24, up_n (by omega), E22, up_n (by omega)]; exact N18 x j y
  have e235 : h24 235 (12 * c + k).toNat = v8 := by rw [N24 235 _ (by omega)]; exact e8.symm
  refine ok_ret ⟨V24, N24, hc, by rw [N24 234 _ (by omega)]; exact hk, wi_k (fun x j _ _ => N24 x j (by omega)) W, ?_, ?_, ?_, ?_, ?_, ?_⟩
  · rw [E24, up_n (by decide), E22, up_n (by decide)]; exact f18
  · rw [E24, up_n (by decide), E22, up_n (by decide), E18, up_n (by decide), E13, up_n (by decide), E3, up_s]
  · rw [e235, E24, up_n (by decide), E22, up_n (by decide), E18, up_n (by decide), E13, up_s, P12.1, e10]
  · rw [e235, E24, up_n (by decide), E22, up_n (by decide), E18, up_s, P17.1, e15]
  · rw [e235, E24, up_n (by decide), E22, up_s]; exact Q21
  · rw [e235, E24, up_s]; exact e23
end
end
section
section
variable {nn : Nat} {h g r z w v : ms_M} {c d k : Int}
/-- a method's parts: the places of its handlers and frames -/
theorem mth_fr (m : MTH w c h k) : (h 236 (12 * c + k).toNat < w 160 113 ∧ w 238 (h 236 (12 * c + k).toNat).toNat ≤ 20) ∧ (∀ i : Int, 0 ≤ i → i < w 238 (h 236 (12 * c + k).toNat).toNat → CL w c (w 238 (h 236 (12 * c + k).toNat + 1 + 7 * i + 6).toNat)) ∧ h 237 (12 * c + k).toNat = h 236 (12 * c + k).toNat + 1 + 7 * w 238 (h 236 (12 * c + k).toNat).toNat ∧ h 237 (12 * c + k).toNat < w 160 113 ∧ w 238 (h 237 (12 * c + k).toNat).toNat ≤ 100 ∧ ∃ q : Int, q ≤ w 160 113 ∧ FRn w c (w 238 (h 237 (12 * c + k).toNat).toNat).toNat (h 237 (12 * c + k).toNat + 1) q := by
  obtain ⟨q, q1, m⟩ := m
  unfold XM XI XG XE XD XC XR XH XF FRM at m
  obtain ⟨_, _, _, _, _, _, _, e6, a6, b6, hh, e7, a7, b7, fr⟩ := m
  rw [← e6] at a6 b6 hh e7 a7 b7 fr
  rw [← e7] at a7 b7 fr
  exact ⟨⟨a6, b6⟩, hh, e7, a7, b7, q, q1, fr⟩
theorem mv_ends17 (V : VS_ h) (hc : 0 ≤ c ∧ c ≤ 7) (W : WI h c w) (e : h 160 132 = c) {l2 q : Int} (hl : l2 ≤ 255) (hq : q ≤ w 160 113) : ∀ (j : Nat) (n : Nat) (l3 l4 : Int), 0 ≤ l3 → (0 ≤ l4 ∧ l4 ≤ 255) → l2 - l4 = n → TYn w c n l3 q → (n : Int) < j → Ok_ (qw_X13_typesEnd_17 nn j l2 l3 l4 h) (fun u => u = q) := by
  have g3 := gF_160_113 W.1
  intro j
  induction j with
  | zero => intro n l3 l4 a b e1 t hm; exfalso; omega
  | succ j ih =>
    intro n l3 l4 a b e1 t hm
    unfold qw_X13_typesEnd_17
    cases n with
    | zero =>
      have t : l3 = q := t
      rw [if_pos (show l2 ≤ l4 by omega)]
      exact ok_ret t
    | succ n =>
      rw [if_neg (show ¬ l2 ≤ l4 by omega), e]
      have le := ty_le _ _ _ t
      refine ok_sv (mv_bytew V hc W (by omega)) ?_; intro u5 P5
      rcases t with ⟨t1, t2⟩ | ⟨t1, _, t2⟩
      · rw [if_pos (show ¬ u5 = 3 by have := P5.1; omega)]
        unfold qj_X13_typesEnd_42
        refine ok_add (by omega) ?_; intro v1 e2
        refine ok_add (by omega) ?_; intro v2 e3
        exact ih n v1 v2 (by omega) (by omega) (by omega) (by rw [e2]; exact t2) (by omega)
      · rw [if_neg (show ¬ ¬ u5 = 3 by have := P5.1; omega)]
        unfold qj_X13_typesEnd_42
        refine ok_add (by omega) ?_; intro v1 e2
        refine ok_add (by omega) ?_; intro v2 e3
        exact ih n v1 v2 (by omega) (by omega) (by omega) (by rw [e2]; exact t2) (by omega)
theorem mv_ends (hn : 1000000 ≤ nn) (V : VS_ h) (hc : 0 ≤ c ∧ c ≤ 7) (W : WI h c w) (e : h 160 132 = c) {p q : Int} (hp : 0 ≤ p) (hq : q ≤ w 160 113) (t : TYr w c p q) : Ok_ (qf_X13_typesEnd nn p h) (fun u => u = q) := by
  have g3 := gF_160_113 W.1
  have le := ty_le _ _ _ t
  unfold qf_X13_typesEnd
  rw [e]
  refine ok_sv (mv_bytew V hc W (by omega)) ?_; intro u10 P10
  have b := P10.2
  refine ok_add (by omega) ?_; intro v11 e11
  refine mv_ends17 V hc W e b.2 hq nn u10.toNat v11 0 (by omega) (by omega) (by omega) ?_ (by omega)
  rw [P10.1, e11]; exact t
theorem mv_many (V : VS_ h) (M : MC h c k w) : Ok_ (qf_X13_frameMany nn h) (fun u => u = w 238 (h 237 (12 * c + k).toNat).toNat ∧ (0 ≤ u ∧ u ≤ 255)) := by
  obtain ⟨hc, hk, W, e2, e3, _⟩ := M
  obtain ⟨k12, _, m⟩ := wi_mt W hc hk
  have f := mth_fr m
  unfold qf_X13_frameMany
  rw [e2, e3]
  refine ok_mul (by omega) ?_; intro v4 e4
  refine ok_add (by omega) ?_; intro v6 e6
  refine ok_rd (by omega) (gA_237 V) ?_; intro v7 e7 a7 _
  rw [e6, e4] at e7
  rw [← e7] at f
  refine ok_sv (mv_bytew V hc W (by have := f.2.2.2.1; omega)) ?_; intro u9 P9
  rw [← e7]
  exact ok_ret P9
/-- u is the place of one of n frames from p on -/
def FRm (w : ms_M) (c : Int) : Nat → Int → Int → Prop
  | 0, _, _ => False
  | n + 1, p, u => u = p ∨ ∃ a b : Int, TYr w c (p + 2) a ∧ TYr w c a b ∧ FRm w c n b u
/-- a frame lies at p -/
def FRa (w : ms_M) (c p : Int) : Prop := 0 ≤ p ∧ ∃ a b : Int, TYr w c (p + 2) a ∧ TYr w c a b ∧ b ≤ w 160 113
theorem fr_le : ∀ (n : Nat) (p q : Int), FRn w c n p q → p + 4 * n ≤ q := by
  intro n
  induction n with
  | zero => intro p q y; have y : p = q := y; omega
  | succ n ih =>
    intro p q y
    obtain ⟨a, b, y1, y2, y3⟩ := y
    have := ty_le _ _ _ y1
    have := ty_le _ _ _ y2
    have := ih _ _ y3
    omega
theorem mv_for (hn : 1000000 ≤ nn) (V : VS_ h) (M : MC h c k w) {t : Int} : Ok_ (qf_X13_frameFor nn t h) (fun u => u = -1 ∨ (FRa w c u ∧ FRm w c (w 238 (h 237 (12 * c + k).toNat).toNat).toNat (h 237 (12 * c + k).toNat + 1) u)) := by
  have M0 := M
  obtain ⟨hc, hk, W, e2, e3, _⟩ := M
  have g3 := gF_160_113 W.1
  obtain ⟨k12, _, m⟩ := wi_mt W hc hk
  obtain ⟨_, _, _, f1, f2, q, q1, fr⟩ := mth_fr m
  have L : ∀ (j : Nat) (n : Nat) (l2 l3 : Int), 0 ≤ l2 → (0 ≤ l3 ∧ l3 ≤ 255) → w 238 (h 237 (12 * c + k).toNat).toNat - l3 = n → FRn w c n l2 q → (n : Int) < j → Ok_ (qw_X13_frameFor_22 nn j t l2 l3 h) (fun u => u = -1 ∨ (FRa w c u ∧ FRm w c n l2 u)) := by
    intro j
    induction j with
    | zero => intro n l2 l3 a b e1 y hm; exfalso; omega
    | succ j ih =>
      intro n l2 l3 a b e1 y hm
      unfold qw_X13_frameFor_22
      refine ok_sv (mv_many V M0) ?_; intro u2 P2
      cases n with
      | zero =>
        rw [if_pos (show u2 ≤ l3 by have := P2.1; omega)]
        exact ok_ret (.inl rfl)
      | succ n =>
        rw [if_neg (show ¬ u2 ≤ l3 by have := P2.1; omega)]
        obtain ⟨x, y1, z1, z2, z3⟩ := y
        have l1 := ty_le _ _ _ z1
        have l2' := ty_le _ _ _ z2
        have l3' := fr_le _ _ _ z3
        refine ok_sv (mv_pairw V hc W e2 (by omega)) ?_; intro u4 _
        refine ok_if (fun _ => ?_) (fun _ => ok_ret (.inr ⟨⟨a, x, y1, z1, z2, by omega⟩, .inl rfl⟩))
        refine ok_add (by omega) ?_; intro v5 e5
        refine ok_sv (mv_ends hn V hc W e2 (q := x) (by omega) (by omega) (by rw [e5]; exact z1)) ?_; intro u7 P7
        refine ok_sv (mv_ends hn V hc W e2 (q := y1) (by omega) (by omega) (by rw [P7]; exact z2)) ?_; intro u9 P9
        refine ok_add (by omega) ?_; intro v10 e10
        refine ok_im (ih n u9 v10 (by omega) (by omega) (by omega) (by rw [P9]; exact z3) (by omega)) (fun u P => ?_)
        rcases P with P | P
        · exact .inl P
        · rw [P9] at P
          exact .inr ⟨P.1, .inr ⟨x, y1, z1, z2, P.2⟩⟩
  unfold qf_X13_frameFor
  rw [e2, e3]
  refine ok_mul (by omega) ?_; intro v15 e15
  refine ok_add (by omega) ?_; intro v17 e17
  refine ok_rd (by omega) (gA_237 V) ?_; intro v18 e18 a18 _
  rw [e17, e15] at e18
  refine ok_add (by omega) ?_; intro v19 e19
  have b0 : 0 ≤ w 238 (h 237 (12 * c + k).toNat).toNat := (gA_238 W.1 _ (by omega)).1
  refine ok_im (L nn (w 238 (h 237 (12 * c + k).toNat).toNat).toNat v19 0 (by omega) (by omega) (by omega) (by rw [e19, e18]; exact fr) (by omega)) (fun u P => ?_)
  rw [e19, e18] at P
  exact P
end
end
section
section
variable {nn : Nat} {h g r z w v : ms_M} {c d k : Int}
theorem mc_k (A : ∀ x j : Nat, ¬ (x = 160 ∧ (j < 129 ∨ 135 < j)) → x < 238 → r x j = h x j) (M : MC h c k w) : MC r c k w := by
  obtain ⟨hc, hk, W, e1, e2, e3, e4, e5, e6⟩ := M
  refine ⟨hc, ?_, wi_k (fun x j _ _ => A x j (by omega) (by omega)) W, ?_, ?_, ?_, ?_, ?_, ?_⟩
  · rw [A 234 _ (by omega) (by decide)]; exact hk
  · rw [A 160 132 (by omega) (by decide)]; exact e1
  · rw [A 160 133 (by omega) (by decide)]; exact e2
  · rw [A 160 130 (by omega) (by decide), A 235 _ (by omega) (by decide)]; exact e3
  · rw [A 160 129 (by omega) (by decide), A 235 _ (by omega) (by decide)]; exact e4
  · rw [A 160 135 (by omega) (by decide), A 235 _ (by omega) (by decide)]; exact e5
  · rw [A 160 134 (by omega) (by decide), A 235 _ (by omega) (by decide)]; exact e6
theorem mc_ny (N : NY h r) (M : MC h c k w) : MC r c k w := mc_k (fun x j y y2 => N x j (by omega) (by omega) (by omega)) M
/-- n types from p to q, all their classes are there -/
def TYf (nn : Nat) (h : ms_M) (c : Int) (w : ms_M) : Nat → Int → Int → Prop
  | 0, p, q => p = q
  | n + 1, p, q => (w 238 p.toNat ≤ 2 ∧ TYf nn h c w n (p + 1) q) ∨ (w 238 p.toNat = 3 ∧ (CL w c (w 238 (p + 1).toNat) ∧ CFd nn h c w (w 238 (p + 1).toNat)) ∧ TYf nn h c w n (p + 2) q)
theorem tyf_c (A : AGc h g) : ∀ (n : Nat) (p q : Int), TYf nn h c w n p q → TYf nn g c w n p q := by
  intro n
  induction n with
  | zero => intro p q y; exact y
  | succ n ih =>
    intro p q y
    rcases y with ⟨a, b⟩ | ⟨a, b, d⟩
    · exact .inl ⟨a, ih _ _ b⟩
    · exact .inr ⟨a, ⟨b.1, cfd_c A b.2⟩, ih _ _ d⟩
theorem mo_framed (hn : 1000000 ≤ nn) (V : VS_ h) (S : SPD h) (O : OI h) (room : h 160 117 ≤ 2099) (M : MC h c k w) {p : Int} (hp : 0 ≤ p ∧ p < w 160 113) (t : w 238 p.toNat ≤ 2 ∨ (w 238 p.toNat = 3 ∧ p + 1 < w 160 113 ∧ CL w c (w 238 (p + 1).toNat))) : Ok_ (qf_X13_framed nn p h) (fun u => TR h u ∧ (u.1 < 36 → w 238 p.toNat = 3 → CFd nn h c w (w 238 (p + 1).toNat))) := by
  obtain ⟨hc, hk, W, e1, _⟩ := M
  have g3 := gF_160_113 W.1
  have g98 := gF_160_98 V
  unfold qf_X13_framed
  rw [e1]
  refine ok_sv (mv_bytew V hc W hp) ?_; intro u3 P3
  have q3 := P3.1
  refine ok_if (fun C => ?_) (fun C => ?_)
  · rcases t with t | ⟨t, p1, cl⟩
    · exfalso; omega
    refine ok_add (by omega) ?_; intro v6 e6
    refine ok_sv (mv_bytew V hc W (by omega)) ?_; intro u8 P8
    have q8 := P8.1
    rw [e6] at q8
    rw [← q8] at cl ⊢
    refine ok_sv (ro_typeOf hn V S O room hc W cl) ?_; intro u10 P10
    exact ok_ret ⟨P10.1, fun y _ => P10.2 y⟩
  · refine ok_sv (mv_bytew V hc W hp) ?_; intro u13 P13
    have q13 := P13.1
    have b13 := P13.2
    exact ok_ret ⟨⟨V, ny_rf, O, .inl ⟨by show 0 ≤ u13; omega, by show u13 < _; omega, rfl⟩⟩, fun _ y => by exfalso; omega⟩
theorem mo_50 (hn : 1000000 ≤ nn) (V : VS_ h) (S : SPD h) (room : h 160 117 ≤ 2090) (M : MC h c k w) {X : Prop} {q l3 l4 : Int} {K : Int → Int → ms_M → Option (Int × ms_M)} (h3 : 0 ≤ l3 ∧ l3 ≤ 1) (h4 : l4 ≤ 255) (hq : q ≤ w 160 113) (HK : ∀ f : ms_M, GK h 1 f → Ok_ (K q (l3 + 1) f) (fun u => GK h u.1 u.2 ∧ (¬ u.1 = 0 → X))) : ∀ (j : Nat) (n : Nat) (l2 l5 : Int) (f : ms_M), GK h 1 f → 0 ≤ l2 → (0 ≤ l5 ∧ l5 ≤ 255) → l4 - l5 = n → TYn w c n l2 q → (n : Int) < j → Ok_ (qw_X13_frameIsThere_50 nn K j l2 l3 l4 l5 f) (fun u => GK h u.1 u.2 ∧ (¬ u.1 = 0 → TYf nn h c w n l2 q ∧ X)) := by
  have g3 := gF_160_113 M.2.2.1.1
  intro j
  induction j with
  | zero => intro n l2 l5 f G a b e t hm; exfalso; omega
  | succ j ih =>
    intro n l2 l5 f G a b e t hm
    have Nf := G.2.1
    have Mf : MC f c k w := mc_ny Nf M
    have Sf : SPD f := ny_spd V Nf S
    have e117 : f 160 117 = h 160 117 := by have := G.2.2.2; omega
    unfold qw_X13_frameIsThere_50
    cases n with
    | zero =>
      have t : l2 = q := t
      rw [if_pos (show l4 ≤ l5 by omega)]
      refine ok_add (by omega) ?_; intro v3 e3
      rw [t, e3]
      exact ok_im (HK f G) (fun u P => ⟨P.1, fun y => ⟨rfl, P.2 y⟩⟩)
    | succ n =>
      rw [if_neg (show ¬ l4 ≤ l5 by omega)]
      have le := ty_le _ _ _ t
      have tt : w 238 l2.toNat ≤ 2 ∨ (w 238 l2.toNat = 3 ∧ l2 + 1 < w 160 113 ∧ CL w c (w 238 (l2 + 1).toNat)) := by
        rcases t with ⟨t1, _⟩ | ⟨t1, t2, t3⟩
        · exact .inl t1
        · have := ty_le _ _ _ t3
          exact .inr ⟨t1, by omega, t2⟩
      refine ok_sv (mo_framed hn G.1 Sf G.2.2.1 (by omega) Mf (by omega) tt) ?_; intro u5 P5
      obtain ⟨tr, F5⟩ := P5
      refine ok_sv (rv_there (tr_rg G.1 tr)) ?_; intro u6 P6
      refine ok_if (fun y => ?_) (fun y => ok_ret ⟨show GK h 0 u5.2 from gk_ty G tr (.inr ⟨rfl, by omega⟩), fun z => absurd rfl z⟩)
      have G5 : GK h 1 u5.2 := gk_ty G tr (by omega)
      have M5 : MC u5.2 c k w := mc_ny G5.2.1 M
      rw [M5.2.2.2.1]
      refine ok_sv (mv_bytew G5.1 M.1 M5.2.2.1 (by omega)) ?_; intro u9 P9
      have q9 := P9.1
      rcases t with ⟨t1, t2⟩ | ⟨t1, t2, t3⟩
      · rw [if_pos (show ¬ u9 = 3 by omega)]
        unfold qj_X13_frameIsThere_89
        refine ok_add (by omega) ?_; intro v1 e1
        refine ok_add (by omega) ?_; intro v2 e2
        rw [show v1 = l2 + 1 by omega]
        exact ok_im (ih n (l2 + 1) v2 u5.2 G5 (by omega) (by omega) (by omega) t2 (by omega)) (fun u P => ⟨P.1, fun z => ⟨.inl ⟨t1, (P.2 z).1⟩, (P.2 z).2⟩⟩)
      · rw [if_neg (show ¬ ¬ u9 = 3 by omega)]
        unfold qj_X13_frameIsThere_89
        refine ok_add (by omega) ?_; intro v1 e1
        refine ok_add (by omega) ?_; intro v2 e2
        rw [show v1 = l2 + 2 by omega]
        have cf : CFd nn h c w (w 238 (l2 + 1).toNat) := cfd_c (ag_sy (ny_ag Nf)) (F5 (by omega) t1)
        exact ok_im (ih n (l2 + 2) v2 u5.2 G5 (by omega) (by omega) (by omega) t3 (by omega)) (fun u P => ⟨P.1, fun z => ⟨.inr ⟨t1, ⟨t2, cf⟩, (P.2 z).1⟩, (P.2 z).2⟩⟩)
/-- the frame at p: its types are there, and they fit in -/
def FOK (nn : Nat) (h : ms_M) (c k : Int) (w : ms_M) (p : Int) : Prop := ∃ a b : Int, (w 238 (p + 2).toNat ≤ h 160 129 ∧ TYf nn h c w (w 238 (p + 2).toNat).toNat (p + 3) a) ∧ (w 238 a.toNat ≤ h 160 130 ∧ TYf nn h c w (w 238 a.toNat).toNat (a + 1) b) ∧ b ≤ w 160 113
theorem mo_frame (hn : 1000000 ≤ nn) (V : VS_ h) (S : SPD h) (O : OI h) (room : h 160 117 ≤ 2090) (M : MC h c k w) {p : Int} (F : FRa w c p) : Ok_ (qf_X13_frameIsThere nn p h) (fun u => GK h u.1 u.2 ∧ (¬ u.1 = 0 → FOK nn h c k w p)) := by
  have g3 := gF_160_113 M.2.2.1.1
  have hc := M.1
  obtain ⟨p0, a, b, t1, t2, lb⟩ := F
  have l1 := ty_le _ _ _ t1
  have l2 := ty_le _ _ _ t2
  unfold TYr at t1 t2
  have w2 := gA_238 M.2.2.1.1 (p + 2).toNat (by omega)
  have wa := gA_238 M.2.2.1.1 a.toNat (by omega)
  -- the second part
  have K2 : ∀ (j : Nat) (f : ms_M), 3 ≤ j → GK h 1 f → Ok_ (qw_X13_frameIsThere_6 nn (j - 1) a 1 f) (fun u => GK h u.1 u.2 ∧ (¬ u.1 = 0 → w 238 a.toNat ≤ h 160 130 ∧ TYf nn h c w (w 238 a.toNat).toNat (a + 1) b)) := fun j f hj G => by
    obtain ⟨i, rfl⟩ : ∃ i, j = i + 3 := ⟨j - 3, by omega⟩
    have Mf : MC f c k w := mc_ny G.2.1 M
    have f130 : f 160 130 = h 160 130 := G.2.1 160 130 (by decide) (by decide) (by decide)
    show Ok_ (qw_X13_frameIsThere_6 nn (i + 1 + 1) a 1 f) _
    unfold qw_X13_frameIsThere_6
    rw [if_neg (show ¬ (2 : Int) ≤ 1 by decide), Mf.2.2.2.1]
    refine ok_sv (mv_bytew G.1 hc Mf.2.2.1 (by omega)) ?_; intro u17 P17
    have q17 := P17.1
    rw [if_pos (show ¬ (1 : Int) = 0 by decide)]
    unfold qj_X13_frameIsThere_39
    refine ok_if (fun C => ?_) (fun C => ok_ret ⟨⟨G.1, G.2.1, G.2.2.1, .inr ⟨rfl, by have := G.2.2.2; show f 160 117 ≤ _; omega⟩⟩, fun z => absurd rfl z⟩)
    refine ok_add (by omega) ?_; intro v13 e13
    have fin : ∀ f2 : ms_M, GK h 1 f2 → Ok_ (qw_X13_frameIsThere_6 nn (i + 1) b (1 + 1) f2) (fun u => GK h u.1 u.2 ∧ (¬ u.1 = 0 → True)) := fun f2 G2 => by
      unfold qw_X13_frameIsThere_6
      rw [if_pos (show (2 : Int) ≤ 1 + 1 by decide)]
      exact ok_ret ⟨G2, fun _ => trivial⟩
    refine ok_im (mo_50 hn V S room M (X := True) (q := b) (l3 := 1) (l4 := u17) (by omega) (by omega) lb fin nn (w 238 a.toNat).toNat v13 0 f G (by omega) (by omega) (by omega) (by rw [e13]; exact t2) (by omega)) (fun u P => ⟨P.1, fun z => ⟨by omega, ?_⟩⟩)
    have := (P.2 z).1
    rw [e13] at this; exact this
  unfold qf_X13_frameIsThere
  refine ok_add (by omega) ?_; intro v22 e22
  obtain ⟨i, rfl⟩ : ∃ i, nn = i + 3 := ⟨nn - 3, by omega⟩
  have G : GK h 1 h := ⟨V, ny_rf, O, .inl ⟨rfl, rfl⟩⟩
  show Ok_ (qw_X13_frameIsThere_6 (i + 3) (i + 2 + 1) v22 0 h) _
  unfold qw_X13_frameIsThere_6
  rw [if_neg (show ¬ (2 : Int) ≤ 0 by decide), M.2.2.2.1]
  refine ok_sv (mv_bytew V hc M.2.2.1 (by omega)) ?_; intro u17 P17
  have q17 := P17.1
  rw [e22] at q17
  rw [if_neg (show ¬ ¬ (0 : Int) = 0 by decide)]
  unfold qj_X13_frameIsThere_39
  refine ok_if (fun C => ?_) (fun C => ok_ret ⟨⟨V, ny_rf, O, .inr ⟨rfl, by show h 160 117 ≤ _; omega⟩⟩, fun z => absurd rfl z⟩)
  refine ok_add (by omega) ?_; intro v13 e13
  refine ok_im (mo_50 hn V S room M (q := a) (l3 := 0) (l4 := u17) (by omega) (by omega) (by omega) (fun f Gf => K2 (i + 3) f (by omega) Gf) (i + 3) (w 238 (p + 2).toNat).toNat v13 0 h G (by omega) (by omega) (by omega) (by rw [e13, e22]; exact t1) (by omega)) (fun u P => ⟨P.1, fun z => ?_⟩)
  obtain ⟨x, y1, y2⟩ := P.2 z
  rw [e13, e22, show p + 2 + 1 = p + 3 by omega] at x
  exact ⟨a, b, ⟨by omega, x⟩, ⟨y1, y2⟩, lb⟩
end
end
section
section
variable {nn : Nat} {h g r z w v : ms_M} {c d k : Int}
/-- the same n bytes lie at a and b -/
def SB (h : ms_M) (a b n : Int) : Prop := (0 ≤ a ∧ a + n ≤ 48000) ∧ (0 ≤ b ∧ b + n ≤ 48000) ∧ (0 ≤ n ∧ n ≤ 255) ∧ ∀ i : Int, 0 ≤ i → i < n → h 226 (a + i).toNat = h 226 (b + i).toNat
theorem rdS_p {α : Type} {a b n i : Int} {G : Int → Option α} (B : SB h a b n) (i1 : 0 ≤ i) (i2 : i < n) : rd_S 226 (a + i) h G = rd_S 226 (b + i) h G := by
  obtain ⟨b1, b2, b3, b4⟩ := B
  have l : ln_I h 226 = 48000 := by rw [ln_I, if_pos (by decide)]; rfl
  unfold rd_S
  rw [l]
  by_cases q : (226 < cn_M h ∧ ly_T 226 = 0)
  · rw [if_pos ⟨q, by omega, by omega⟩, if_pos ⟨q, by omega, by omega⟩, b4 i i1 i2]
  · rw [if_neg (fun y => q y.1), if_neg (fun y => q y.1)]
theorem cp_184 {a b n l5 : Int} (B : SB h a b n) : ∀ (k : Nat) (l6 l7 : Int), 0 ≤ l7 → qw_X13_isNamed_184 nn k 226 a n l5 l6 l7 h = qw_X13_isNamed_184 nn k 226 b n l5 l6 l7 h := by
  have B0 := B
  obtain ⟨b1, b2, b3, _⟩ := B
  intro k
  induction k with
  | zero => intro l6 l7 _; rfl
  | succ k ih =>
    intro l6 l7 p
    unfold qw_X13_isNamed_184
    by_cases q : n ≤ l7
    · rw [if_pos q, if_pos q]
    · rw [if_neg q, if_neg q]
      simp only [xl_eq]
      rw [oq_add_eq (x := a) (y := l7) (by omega) (by omega) (by omega), oq_add_eq (x := b) (y := l7) (by omega) (by omega) (by omega), oq_add_eq (x := l7) (y := 1) (by omega) (by omega) (by omega)]
      simp only [rdS_p B0 p (show l7 < n by omega), ih _ (l7 + 1) (by omega)]
theorem cp_97 {a b n l6 : Int} (B : SB h a b n) : ∀ (k : Nat) (l7 l8 : Int), 0 ≤ l8 → qw_X13_isNamed_97 nn k 226 a n l6 l7 l8 h = qw_X13_isNamed_97 nn k 226 b n l6 l7 l8 h := by
  have B0 := B
  obtain ⟨b1, b2, b3, _⟩ := B
  intro k
  induction k with
  | zero => intro l7 l8 _; rfl
  | succ k ih =>
    intro l7 l8 p
    unfold qw_X13_isNamed_97
    by_cases q : n ≤ l8
    · rw [if_pos q, if_pos q]
    · rw [if_neg q, if_neg q]
      simp only [xl_eq]
      rw [oq_add_eq (x := a) (y := l8) (by omega) (by omega) (by omega), oq_add_eq (x := b) (y := l8) (by omega) (by omega) (by omega), oq_add_eq (x := l8) (y := 1) (by omega) (by omega) (by omega)]
      simp only [rdS_p B0 p (show l8 < n by omega), ih _ (l8 + 1) (by omega)]
theorem cp_12 {a b n l1 : Int} (B : SB h a b n) : ∀ (k : Nat) (l5 l6 : Int), qw_X13_isNamed_12 nn k l1 226 a n l5 l6 h = qw_X13_isNamed_12 nn k l1 226 b n l5 l6 h := by
  intro k
  induction k with
  | zero => intro l5 l6; rfl
  | succ k ih =>
    intro l5 l6
    unfold qw_X13_isNamed_12 qj_X13_isNamed_91
    simp only [cp_97 B _ _ 0 (by decide), ih]
theorem cp_isNamed {a b n l1 : Int} (B : SB h a b n) : qf_X13_isNamed nn l1 226 a n h = qf_X13_isNamed nn l1 226 b n h := by
  unfold qf_X13_isNamed
  simp only [cp_184 B _ _ 0 (by decide), cp_12 B]
theorem cp_classNamed {a b n : Int} (B : SB h a b n) : qf_X13_classNamed nn 226 a n h = qf_X13_classNamed nn 226 b n h := by
  have L : ∀ (k : Nat) (l : Int), qw_X13_classNamed_3 nn k 226 a n l h = qw_X13_classNamed_3 nn k 226 b n l h := by
    intro k
    induction k with
    | zero => intro l; rfl
    | succ k ih =>
      intro l
      unfold qw_X13_classNamed_3
      simp only [cp_isNamed B, ih]
  unfold qf_X13_classNamed
  exact L nn 0
/-- the same name at another place is a class's too -/
theorem fn_p {a b n : Int} (B : SB h a b n) (F : FNm nn h a n) : FNm nn h b n := by
  obtain ⟨u, x, e⟩ := F
  exact ⟨u, x, by rw [← cp_classNamed B]; exact e⟩
end
end
section
section
variable {nn : Nat} {h g r z w v : ms_M} {c d k : Int}
/-- sameText tells: as long, and the same bytes -/
theorem rs_same (hn : 1000000 ≤ nn) (V : VS_ h) (hc : 0 ≤ c ∧ c ≤ 7) (hd : 0 ≤ d ∧ d ≤ 7) (W : WI h c w) (X : WI h d v) {i j : Int} (t : TX w c i) (s : TX v d j) : Ok_ (qf_X13_sameText nn c i d j h) (fun u => (u = 0 ∨ u = 1) ∧ (¬ u = 0 → w 238 (pl w c i + 1).toNat = v 238 (pl v d j + 1).toNat ∧ ∀ m : Int, 0 ≤ m → m < w 238 (pl w c i + 1).toNat → w 238 (pl w c i + 2 + m).toNat = v 238 (pl v d j + 2 + m).toNat)) := by
  obtain ⟨a1, a2, a3, a4, a5⟩ := wi_tx W hc t
  obtain ⟨b1, b2, b3, b4, b5⟩ := wi_tx X hd s
  have L : ∀ (l5 l6 n : Int), (0 ≤ l5 ∧ l5 + 2 + n ≤ 48000) → (1 ≤ n ∧ n ≤ 120) → h 226 (l5 + 1).toNat = n → (0 ≤ l6) → ∀ (m : Nat) (l7 l8 : Int), (l7 = 0 ∨ (l7 = 1 ∧ l6 + 2 + n ≤ 48000)) → (¬ l7 = 0 → ∀ q : Int, 0 ≤ q → q < l8 → h 226 (l5 + 2 + q).toNat = h 226 (l6 + 2 + q).toNat) → (0 ≤ l8 ∧ l8 ≤ n) → n - l8 < (m : Int) → Ok_ (qw_X13_sameText_72 nn m l5 l6 l7 l8 h) (fun u => (u = 0 ∨ u = 1) ∧ (¬ u = 0 → l7 = 1 ∧ ∀ q : Int, 0 ≤ q → q < n → h 226 (l5 + 2 + q).toNat = h 226 (l6 + 2 + q).toNat)) := by
    intro l5 l6 n p1 p2 p3 p4 m
    induction m with
    | zero => intro l7 l8 a y b hm; exfalso; omega
    | succ m ih =>
      intro l7 l8 a y b hm
      have a' : l7 = 0 ∨ l7 = 1 := by omega
      unfold qw_X13_sameText_72
      refine ok_add (by omega) ?_; intro v2 e2
      refine ok_rd (by omega) (gA_226 V) ?_; intro v3 e3 _ _
      rw [e2, p3] at e3
      refine ok_if (fun C => ok_ck a' (ok_ret ⟨a', fun z => ⟨by omega, fun q q1 q2 => y z q q1 (by omega)⟩⟩)) (fun C => ?_)
      refine ok_if (fun D => ok_ck a' (ok_ret ⟨a', fun z => absurd D z⟩)) (fun D => ?_)
      refine ok_add (by omega) ?_; intro v7 e7
      refine ok_add (by omega) ?_; intro v8 e8
      refine ok_rd (by omega) (gA_226 V) ?_; intro v9 e9 _ _
      refine ok_add (by omega) ?_; intro v11 e11
      refine ok_add (by omega) ?_; intro v12 e12
      refine ok_rd (by omega) (gA_226 V) ?_; intro v13 e13 _ _
      refine ok_if (fun _ => ?_) (fun E => ?_)
      · refine ok_add (by omega) ?_; intro v14 e14
        exact ok_im (ih 0 v14 (.inl rfl) (fun z => absurd rfl z) (by omega) (by omega)) (fun u P => ⟨P.1, fun z => by have := (P.2 z).1; exfalso; omega⟩)
      · have E : v9 = v13 := Decidable.not_not.1 E
        refine ok_add (by omega) ?_; intro v15 e15
        refine ok_im (ih 1 v15 (.inr ⟨rfl, by omega⟩) (fun _ q q1 q2 => ?_) (by omega) (by omega)) (fun u P => ⟨P.1, fun z => ⟨by omega, (P.2 z).2⟩⟩)
        by_cases q0 : q = l8
        · rw [q0, show l5 + 2 + l8 = v8 by omega, show l6 + 2 + l8 = v12 by omega, ← e9, ← e13]; exact E
        · exact y D q q1 (by omega)
  unfold qf_X13_sameText
  refine ok_mul (by omega) ?_; intro v19 e19
  refine ok_mul (by omega) ?_; intro v21 e21
  refine ok_add (by omega) ?_; intro v22 e22
  refine ok_rd (by omega) (gA_228 V) ?_; intro v23 e23 _ _
  rw [e22, e21, a2] at e23
  refine ok_add (by omega) ?_; intro v24 e24
  refine ok_mul (by omega) ?_; intro v25 e25
  refine ok_mul (by omega) ?_; intro v27 e27
  refine ok_add (by omega) ?_; intro v28 e28
  refine ok_rd (by omega) (gA_228 V) ?_; intro v29 e29 _ _
  rw [e28, e27, b2] at e29
  refine ok_add (by omega) ?_; intro v30 e30
  refine ok_add (by omega) ?_; intro v32 e32
  refine ok_rd (by omega) (gA_226 V) ?_; intro v33 e33 _ _
  rw [show v32 = 6000 * c + pl w c i + 1 by omega, a5] at e33
  refine ok_add (by omega) ?_; intro v35 e35
  refine ok_rd (by omega) (gA_226 V) ?_; intro v36 e36 _ _
  rw [show v35 = 6000 * d + pl v d j + 1 by omega, b5] at e36
  have p3 : h 226 (v24 + 1).toNat = v33 := by rw [show v24 + 1 = 6000 * c + pl w c i + 1 by omega, a5, e33]
  refine ok_if (fun _ => ok_im (L v24 v30 v33 (by omega) (by omega) p3 (by omega) nn 0 0 (.inl rfl) (fun z => absurd rfl z) (by omega) (by omega)) (fun u P => ⟨P.1, fun z => by have := (P.2 z).1; exfalso; omega⟩)) (fun D => ?_)
  have D : v33 = v36 := Decidable.not_not.1 D
  refine ok_im (L v24 v30 v33 (by omega) (by omega) p3 (by omega) nn 1 0 (.inr ⟨rfl, by omega⟩) (fun _ q q1 q2 => by exfalso; omega) (by omega) (by omega)) (fun u P => ⟨P.1, fun z => ⟨by omega, fun m m1 m2 => ?_⟩⟩)
  have y := (P.2 z).2 m m1 (by omega)
  rw [show v24 + 2 + m = 6000 * c + (pl w c i + 2 + m) by omega, show v30 + 2 + m = 6000 * d + (pl v d j + 2 + m) by omega, W.2.2.1 _ (by omega) (by omega), X.2.2.1 _ (by omega) (by omega)] at y
  exact y
end
end
section
section
variable {nn : Nat} {h g r z w v : ms_M} {c d k : Int}
theorem ty_det : ∀ (n : Nat) (p q u : Int), TYn w c n p q → TYn w c n p u → q = u := by
  intro n
  induction n with
  | zero => intro p q u a b; have a : p = q := a; have b : p = u := b; omega
  | succ n ih =>
    intro p q u a b
    rcases a with ⟨a1, a2⟩ | ⟨a1, _, a2⟩
    · rcases b with ⟨b1, b2⟩ | ⟨b1, _, b2⟩
      · exact ih _ _ _ a2 b2
      · exfalso; omega
    · rcases b with ⟨b1, b2⟩ | ⟨b1, _, b2⟩
      · exfalso; omega
      · exact ih _ _ _ a2 b2
/-- one of n frames from p on has the place t -/
def FRp (w : ms_M) (c : Int) : Nat → Int → Int → Prop
  | 0, _, _ => False
  | n + 1, p, t => pw (w 238 p.toNat) (w 238 (p + 1).toNat) = t ∨ ∃ a b : Int, TYr w c (p + 2) a ∧ TYr w c a b ∧ FRp w c n b t
/-- the method under check has a frame at t -/
def HFr (h : ms_M) (c k : Int) (w : ms_M) (t : Int) : Prop := FRp w c (w 238 (h 237 (12 * c + k).toNat).toNat).toNat (h 237 (12 * c + k).toNat + 1) t
theorem mv_for2 (hn : 1000000 ≤ nn) (V : VS_ h) (M : MC h c k w) {t : Int} : Ok_ (qf_X13_frameFor nn t h) (fun u => (u = -1 ∧ ¬ HFr h c k w t) ∨ ((FRa w c u ∧ FRm w c (w 238 (h 237 (12 * c + k).toNat).toNat).toNat (h 237 (12 * c + k).toNat + 1) u) ∧ HFr h c k w t)) := by
  have M0 := M
  obtain ⟨hc, hk, W, e2, e3, _⟩ := M
  have g3 := gF_160_113 W.1
  obtain ⟨k12, _, m⟩ := wi_mt W hc hk
  obtain ⟨_, _, _, f1, f2, q, q1, fr⟩ := mth_fr m
  have L : ∀ (j : Nat) (n : Nat) (l2 l3 : Int), 0 ≤ l2 → (0 ≤ l3 ∧ l3 ≤ 255) → w 238 (h 237 (12 * c + k).toNat).toNat - l3 = n → FRn w c n l2 q → (n : Int) < j → Ok_ (qw_X13_frameFor_22 nn j t l2 l3 h) (fun u => (u = -1 ∧ ¬ FRp w c n l2 t) ∨ ((FRa w c u ∧ FRm w c n l2 u) ∧ FRp w c n l2 t)) := by
    intro j
    induction j with
    | zero => intro n l2 l3 a b e1 y hm; exfalso; omega
    | succ j ih =>
      intro n l2 l3 a b e1 y hm
      unfold qw_X13_frameFor_22
      refine ok_sv (mv_many V M0) ?_; intro u2 P2
      cases n with
      | zero =>
        rw [if_pos (show u2 ≤ l3 by have := P2.1; omega)]
        exact ok_ret (.inl ⟨rfl, fun y => y⟩)
      | succ n =>
        rw [if_neg (show ¬ u2 ≤ l3 by have := P2.1; omega)]
        obtain ⟨x, y1, z1, z2, z3⟩ := y
        have l1 := ty_le _ _ _ z1
        have l2' := ty_le _ _ _ z2
        have l3' := fr_le _ _ _ z3
        refine ok_sv (mv_pairw V hc W e2 (by omega)) ?_; intro u4 P4
        refine ok_if (fun D => ?_) (fun D => ok_ret (.inr ⟨⟨⟨a, x, y1, z1, z2, by omega⟩, .inl rfl⟩, .inl (P4.2.symm.trans (Decidable.not_not.1 D))⟩))
        refine ok_add (by omega) ?_; intro v5 e5
        refine ok_sv (mv_ends hn V hc W e2 (q := x) (by omega) (by omega) (by rw [e5]; exact z1)) ?_; intro u7 P7
        refine ok_sv (mv_ends hn V hc W e2 (q := y1) (by omega) (by omega) (by rw [P7]; exact z2)) ?_; intro u9 P9
        refine ok_add (by omega) ?_; intro v10 e10
        refine ok_im (ih n u9 v10 (by omega) (by omega) (by omega) (by rw [P9]; exact z3) (by omega)) (fun u P => ?_)
        rw [P9] at P
        rcases P with P | P
        · refine .inl ⟨P.1, fun y => ?_⟩
          rcases y with y | ⟨x2, y2, w1, w2, w3⟩
          · exact D (P4.2.trans y)
          · have ex : x2 = x := ty_det _ _ _ _ w1 z1
            rw [ex] at w2
            have ey : y2 = y1 := ty_det _ _ _ _ w2 z2
            rw [ey] at w3
            exact P.2 w3
        · exact .inr ⟨⟨P.1.1, .inr ⟨x, y1, z1, z2, P.1.2⟩⟩, .inr ⟨x, y1, z1, z2, P.2⟩⟩
  unfold HFr
  unfold qf_X13_frameFor
  rw [e2, e3]
  refine ok_mul (by omega) ?_; intro v15 e15
  refine ok_add (by omega) ?_; intro v17 e17
  refine ok_rd (by omega) (gA_237 V) ?_; intro v18 e18 a18 _
  rw [e17, e15] at e18
  refine ok_add (by omega) ?_; intro v19 e19
  have b0 : 0 ≤ w 238 (h 237 (12 * c + k).toNat).toNat := (gA_238 W.1 _ (by omega)).1
  refine ok_im (L nn (w 238 (h 237 (12 * c + k).toNat).toNat).toNat v19 0 (by omega) (by omega) (by omega) (by rw [e19, e18]; exact fr) (by omega)) (fun u P => ?_)
  rw [e19, e18] at P
  exact P
/-- the code of the method under check -/
theorem mc_code (M : MC h c k w) : (1 ≤ h 160 135 ∧ h 160 135 ≤ 1500) ∧ h 160 134 + h 160 135 < w 160 113 := by
  obtain ⟨hc, hk, W, _, _, _, _, e5, e6⟩ := M
  obtain ⟨_, _, m⟩ := wi_mt W hc hk
  obtain ⟨q, _, m⟩ := m
  unfold XM XI XG XE XD XC XR at m
  obtain ⟨_, _, _, _, _, _, n1, _, hp, _⟩ := m
  rw [e5, e6]
  exact ⟨n1, hp⟩
/-- a handler's check is safe, and tells -/
theorem mo_handler (hn : 1000000 ≤ nn) (V : VS_ h) (S : SPD h) (O : OI h) (room : h 160 117 ≤ 2090) (M : MC h c k w) {p : Int} (hp : 0 ≤ p ∧ p + 7 ≤ w 160 113) (t : CL w c (w 238 (p + 6).toNat)) : Ok_ (qf_X13_handlerFits nn p h) (fun u => GK h u.1 u.2 ∧ (¬ u.1 = 0 → CFd nn h c w (w 238 (p + 6).toNat) ∧ HFr h c k w (pw (w 238 (p + 4).toNat) (w 238 (p + 5).toNat)))) := by
  have cd := mc_code M
  have M0 := M
  have G : GK h 1 h := ⟨V, ny_rf, O, .inl ⟨rfl, rfl⟩⟩
  obtain ⟨hc, hk, W, e2, _⟩ := M
  have g3 := gF_160_113 W.1
  have J : ∀ (a s : Int), a = pw (w 238 (p + 4).toNat) (w 238 (p + 5).toNat) → Ok_ (qj_X13_handlerFits_94 nn p a s h) (fun u => GK h u.1 u.2 ∧ (¬ u.1 = 0 → CFd nn h c w (w 238 (p + 6).toNat) ∧ HFr h c k w (pw (w 238 (p + 4).toNat) (w 238 (p + 5).toNat)))) := fun a s ea => by
    unfold qj_X13_handlerFits_94
    rw [e2, ← ea]
    refine ok_add (by omega) ?_; intro v3 e3
    refine ok_sv (mv_bytew V hc W (by omega)) ?_; intro u5 P5
    have q5 := P5.1
    rw [e3] at q5
    rw [← q5] at t ⊢
    refine ok_sv (ro_typeOf hn V S O (by omega) hc W t) ?_; intro u7 P7
    obtain ⟨tr, F⟩ := P7
    have V7 := tr.1
    have b7 := tr_rg V tr
    have g98 := gF_160_98 V
    have no : Ok_ (some ((0 : Int), u7.2)) (fun u : Int × ms_M => GK h u.1 u.2 ∧ (¬ u.1 = 0 → CFd nn h c w u5 ∧ HFr h c k w a)) := ok_ret ⟨⟨tr.1, tr.2.1, tr.2.2.1, .inr ⟨rfl, by have := tr.2.2.2; show u7.2 160 117 ≤ _; omega⟩⟩, fun z => absurd rfl z⟩
    refine ok_if (fun _ => no) (fun _ => ?_)
    have M7 : MC u7.2 c k w := mc_ny tr.2.1 M0
    refine ok_sv (mv_for2 hn V7 M7) ?_; intro u9 P9
    refine ok_if (fun _ => no) (fun C => ?_)
    refine ok_sv (rv_there b7) ?_; intro u10 P10
    refine ok_if (fun _ => no) (fun D => ?_)
    have f98 : u7.2 160 98 = h 160 98 := tr.2.1 160 98 (by decide) (by decide) (by decide)
    have t4 := tr.2.2.2
    refine ok_sv (rv_goes hn V7 (ny_spd V tr.2.1 S) ⟨by omega, by omega⟩ (by omega)) ?_; intro u12 _
    refine ok_if (fun _ => no) (fun _ => ok_ret ⟨⟨tr.1, tr.2.1, tr.2.2.1, .inl ⟨rfl, by show u7.2 160 117 = _; omega⟩⟩, fun _ => ⟨F (by omega), ?_⟩⟩)
    rcases P9 with P9 | P9
    · exact absurd P9.1 C
    · have x := P9.2
      unfold HFr at x ⊢
      rw [tr.2.1 237 _ (by omega) (by decide) (by decide)] at x
      exact x
  unfold qf_X13_handlerFits
  refine ok_sv (mv_pairw V hc W e2 (by omega)) ?_; intro u19 P19
  refine ok_add (by omega) ?_; intro v20 e20
  refine ok_sv (mv_pairw V hc W e2 (by omega)) ?_; intro u22 P22
  refine ok_add (by omega) ?_; intro v23 e23
  refine ok_sv (mv_pairw V hc W e2 (by omega)) ?_; intro u25 P25
  have ea : u25 = pw (w 238 (p + 4).toNat) (w 238 (p + 5).toNat) := by rw [P25.2, e23, show p + 4 + 1 = p + 5 by omega]
  have b19 := P19.1
  have b22 := P22.1
  have b25 := P25.1
  have J3 : Ok_ (qj_X13_handlerFits_93 nn p u25 h) (fun u => GK h u.1 u.2 ∧ (¬ u.1 = 0 → CFd nn h c w (w 238 (p + 6).toNat) ∧ HFr h c k w (pw (w 238 (p + 4).toNat) (w 238 (p + 5).toNat)))) := by
    unfold qj_X13_handlerFits_93
    exact J u25 0 ea
  have J4 : Ok_ (qj_X13_handlerFits_84 nn p u19 u22 u25 h) (fun u => GK h u.1 u.2 ∧ (¬ u.1 = 0 → CFd nn h c w (w 238 (p + 6).toNat) ∧ HFr h c k w (pw (w 238 (p + 4).toNat) (w 238 (p + 5).toNat)))) := by
    unfold qj_X13_handlerFits_84
    exact ok_if (fun _ => J3) (fun _ => J u25 1 ea)
  refine ok_if (fun _ => J3) (fun A => ?_)
  refine ok_rd (by omega) (gA_242 V) ?_; intro v28 _ _ _
  refine ok_if (fun _ => J3) (fun _ => ?_)
  refine ok_if (fun _ => J3) (fun B => ?_)
  refine ok_rd (by omega) (gA_242 V) ?_; intro v31 _ _ _
  refine ok_if (fun _ => J3) (fun _ => ?_)
  refine ok_if (fun _ => J4) (fun _ => ?_)
  refine ok_if (fun _ => J3) (fun C => ?_)
  refine ok_rd (by omega) (gA_242 V) ?_; intro v35 _ _ _
  exact ok_if (fun _ => J3) (fun _ => J4)
end
end
section
section
variable {nn : Nat} {h g r z w v : ms_M} {c d k : Int}
theorem mv_width {a : Int} : Ok_ (qf_X13_widthOf nn a h) (fun u => 0 ≤ u ∧ u ≤ 3) := by
  unfold qf_X13_widthOf qj_X13_widthOf_736 qj_X13_widthOf_738 qj_X13_widthOf_740 qj_X13_widthOf_742
  repeat' (first | exact ok_ret (by omega) | (refine ok_if (fun _ => ?_) (fun _ => ?_)))
theorem mv_jump {a : Int} : Ok_ (qf_X13_isJump nn a h) (fun u => (u = 0 ∧ ¬ (153 ≤ a ∧ a ≤ 167)) ∨ (u = 1 ∧ 153 ≤ a ∧ a ≤ 167)) := by
  unfold qf_X13_isJump
  refine ok_if (fun _ => ok_ret (.inl ⟨rfl, by omega⟩)) (fun A => ?_)
  exact ok_if (fun _ => ok_ret (.inl ⟨rfl, by omega⟩)) (fun _ => ok_ret (.inr ⟨rfl, by omega, by omega⟩))
/-- a byte of the code -/
theorem mv_code (V : VS_ h) (M : MC h c k w) {p : Int} (hp : 0 ≤ p ∧ p ≤ h 160 135) : Ok_ (qf_X13_code nn p h) (fun u => u = w 238 (h 160 134 + p).toNat ∧ (0 ≤ u ∧ u ≤ 255)) := by
  have cd := mc_code M
  have g134 := gF_160_134 V
  obtain ⟨hc, hk, W, e1, _⟩ := M
  have g3 := gF_160_113 W.1
  unfold qf_X13_code
  rw [e1]
  refine ok_add (by omega) ?_; intro v3 e3
  refine ok_sv (mv_bytew V hc W (by omega)) ?_; intro u5 P5
  rw [e3] at P5
  exact ok_ret P5
/-- the place of frame f -/
theorem mv_frameAt (hn : 1000000 ≤ nn) (V : VS_ h) (M : MC h c k w) {f : Int} (hf : 0 ≤ f ∧ f < w 238 (h 237 (12 * c + k).toNat).toNat) : Ok_ (qf_X13_frameAt nn f h) (fun u => FRa w c u ∧ FRm w c (w 238 (h 237 (12 * c + k).toNat).toNat).toNat (h 237 (12 * c + k).toNat + 1) u) := by
  obtain ⟨hc, hk, W, e2, e3, _⟩ := M
  have g3 := gF_160_113 W.1
  obtain ⟨k12, _, m⟩ := wi_mt W hc hk
  obtain ⟨_, _, _, f1, f2, q, q1, fr⟩ := mth_fr m
  have L : ∀ (j : Nat) (n : Nat) (l2 l3 : Int), 0 ≤ l2 → (0 ≤ l3 ∧ l3 ≤ f) → f - l3 < n → FRn w c n l2 q → f - l3 < j → Ok_ (qw_X13_frameAt_22 nn j f l2 l3 h) (fun u => FRa w c u ∧ FRm w c n l2 u) := by
    intro j
    induction j with
    | zero => intro n l2 l3 a b e1 y hm; exfalso; omega
    | succ j ih =>
      intro n l2 l3 a b e1 y hm
      cases n with
      | zero => exfalso; omega
      | succ n =>
        obtain ⟨x, y1, z1, z2, z3⟩ := y
        have l1 := ty_le _ _ _ z1
        have l2' := ty_le _ _ _ z2
        have l3' := fr_le _ _ _ z3
        unfold qw_X13_frameAt_22
        refine ok_if (fun _ => ok_ret ⟨⟨a, x, y1, z1, z2, by omega⟩, .inl rfl⟩) (fun D => ?_)
        refine ok_add (by omega) ?_; intro v5 e5
        refine ok_sv (mv_ends hn V hc W e2 (q := x) (by omega) (by omega) (by rw [e5]; exact z1)) ?_; intro u7 P7
        refine ok_sv (mv_ends hn V hc W e2 (q := y1) (by omega) (by omega) (by rw [P7]; exact z2)) ?_; intro u9 P9
        refine ok_add (by omega) ?_; intro v10 e10
        refine ok_im (ih n u9 v10 (by omega) (by omega) (by omega) (by rw [P9]; exact z3) (by omega)) (fun u P => ?_)
        rw [P9] at P
        exact ⟨P.1, .inr ⟨x, y1, z1, z2, P.2⟩⟩
  unfold qf_X13_frameAt
  rw [e2, e3]
  refine ok_mul (by omega) ?_; intro v15 e15
  refine ok_add (by omega) ?_; intro v17 e17
  refine ok_rd (by omega) (gA_237 V) ?_; intro v18 e18 a18 _
  rw [e17, e15] at e18
  refine ok_add (by omega) ?_; intro v19 e19
  refine ok_im (L nn (w 238 (h 237 (12 * c + k).toNat).toNat).toNat v19 0 (by omega) (by omega) (by omega) (by rw [e19, e18]; exact fr) (by omega)) (fun u P => ?_)
  rw [e19, e18] at P
  exact P
end
end
section
section
variable {nn : Nat} {h g r z w v : ms_M} {c d : Int}
/-- the name from a, n long, is class u's -/
def CNm (nn : Nat) (h : ms_M) (a n u : Int) : Prop := (0 ≤ u ∧ u < 8 + h 160 98) ∧ qf_X13_classNamed nn 226 a n h = some u
theorem cn_c (A : AGc h g) {a n u : Int} (F : CNm nn h a n u) : CNm nn g a n u := ⟨by rw [A.2.2.2.1]; exact F.1, by rw [ca_classNamed A]; exact F.2⟩
theorem cn_det {a n u u2 : Int} (F : CNm nn h a n u) (G : CNm nn h a n u2) : u = u2 := Option.some.inj (F.2.symm.trans G.2)
theorem cn_p {a b n u : Int} (B : SB h a b n) (F : CNm nn h a n u) : CNm nn h b n u := ⟨F.1, by rw [← cp_classNamed B]; exact F.2⟩
theorem cn_number {a n u : Int} (F : CNm nn h a n u) : Ok_ (qf_X13_nameNumber nn a n h) (fun x => x.2 = h ∧ x.1 = u) := by
  obtain ⟨b, e⟩ := F
  unfold qf_X13_nameNumber
  rw [e, mx_svs]
  exact ok_if (fun y => by exfalso; omega) (fun _ => ok_ret ⟨rfl, rfl⟩)
/-- the type of the kind from p to e -/
def KTv (nn : Nat) (h : ms_M) (c : Int) (f : Nat → Int) (p e t : Int) : Prop := (f p.toNat = 86 ∧ t = 0) ∨ ((f p.toNat = 73 ∨ f p.toNat = 90) ∧ t = 1) ∨ (f p.toNat = 76 ∧ ∃ u : Int, CNm nn h (6000 * c + p + 1) (e - p - 2) u ∧ t = 4 + 2 * u) ∨ (f p.toNat = 91 ∧ f (p + 1).toNat = 73 ∧ t = 3) ∨ (f p.toNat = 91 ∧ f (p + 1).toNat = 76 ∧ ∃ u : Int, CNm nn h (6000 * c + p + 2) (e - p - 3) u ∧ t = 5 + 2 * u)
theorem ktv_c {f : Nat → Int} {p e t : Int} (A : AGc h g) (K : KTv nn h c f p e t) : KTv nn g c f p e t := by
  rcases K with K | K | ⟨a, u, b, d⟩ | K | ⟨a, a2, u, b, d⟩
  · exact .inl K
  · exact .inr (.inl K)
  · exact .inr (.inr (.inl ⟨a, u, cn_c A b, d⟩))
  · exact .inr (.inr (.inr (.inl K)))
  · exact .inr (.inr (.inr (.inr ⟨a, a2, u, cn_c A b, d⟩)))
theorem ktv_det {f : Nat → Int} {p e t t2 : Int} (K : KTv nn h c f p e t) (L : KTv nn h c f p e t2) : t = t2 := by
  rcases K with ⟨a, b⟩ | ⟨a, b⟩ | ⟨a, u, b, d⟩ | ⟨a, a2, b⟩ | ⟨a, a2, u, b, d⟩ <;> rcases L with ⟨a', b'⟩ | ⟨a', b'⟩ | ⟨a', u', b', d'⟩ | ⟨a', a2', b'⟩ | ⟨a', a2', u', b', d'⟩ <;> first | omega | (have := cn_det b b'; omega)
theorem ktv_rg {f : Nat → Int} {p e t : Int} (V : VS_ h) (K : KTv nn h c f p e t) : 0 ≤ t ∧ t < 20 + 2 * h 160 98 := by
  have := gF_160_98 V
  rcases K with ⟨a, b⟩ | ⟨a, b⟩ | ⟨a, u, b, d⟩ | ⟨a, a2, b⟩ | ⟨a, a2, u, b, d⟩
  · omega
  · omega
  · have := b.1; omega
  · omega
  · have := b.1; omega
theorem ktv_ex {f : Nat → Int} {p e : Int} (K : RTk f p e) (F : KF nn h c f p e) : ∃ t : Int, KTv nn h c f p e t := by
  rcases K with K | K | ⟨K, K2⟩ | ⟨K, K2⟩
  · exact ⟨0, .inl ⟨K.1, rfl⟩⟩
  · exact ⟨1, .inr (.inl ⟨.inr K.1, rfl⟩)⟩
  · rcases K2 with K2 | K2
    · exact ⟨1, .inr (.inl ⟨.inl K2.1, rfl⟩)⟩
    · obtain ⟨u, b, y⟩ := F.1 K K2
      exact ⟨4 + 2 * u, .inr (.inr (.inl ⟨K2.1, u, ⟨b, y⟩, rfl⟩))⟩
  · rcases K2 with K2 | K2
    · exact ⟨3, .inr (.inr (.inr (.inl ⟨K, K2.1, rfl⟩)))⟩
    · obtain ⟨u, b, y⟩ := F.2 K K2
      exact ⟨5 + 2 * u, .inr (.inr (.inr (.inr ⟨K, K2.1, u, ⟨b, y⟩, rfl⟩)))⟩
theorem rg_75 (V : VS_ h) (hc : 0 ≤ c ∧ c ≤ 7) (W : WI h c w) {l2 p e u : Int} (hp : 0 ≤ p) (he : e ≤ w 160 113) (K : KN (w 238) p e) (F : CNm nn h (6000 * c + p + 1) (e - p - 2) u) : ∀ (k : Nat) (i : Int), p < i → i < e → e - i < (k : Int) → Ok_ (qw_X13_typeAt_75 nn k l2 (6000 * c + p) (6000 * c + i) h) (fun x => TF h (6000 * c + e) x ∧ (¬ l2 = 91 → x.1 = 4 + 2 * u) ∧ (l2 = 91 → x.1 = 5 + 2 * u)) := by
  have g3 := gF_160_113 W.1
  have g98 := gF_160_98 V
  have fb := F.1
  obtain ⟨k1, k2, k3, k4⟩ := K
  intro k
  induction k with
  | zero => intro i a b hm; exfalso; omega
  | succ k ih =>
    intro i a b hm
    unfold qw_X13_typeAt_75
    refine ok_rd (by omega) (gA_226 V) ?_; intro v2 e2 _ _
    rw [W.2.2.1 i (by omega) (by omega)] at e2
    refine ok_if (fun C => ?_) (fun C => ?_)
    · have ei : i = e - 1 := by
        by_cases y : i < e - 1
        · exact absurd (e2.symm.trans C) (k4 i a y)
        · omega
      refine ok_add (by omega) ?_; intro v3 e3
      refine ok_xl ?_; intro h4 E4
      have V4 : VS_ h4 := by rw [E4]; exact wF_160_120 V (by omega)
      have N4 : N12 h h4 := fun x k w1 => by rw [E4, up_n w1]
      have f98 : h4 160 98 = h 160 98 := by rw [E4, up_n (by omega)]
      have f120 : h4 160 120 = v3 := by rw [E4, up_s]
      refine ok_add (by omega) ?_; intro v5 e5
      refine ok_sub (by omega) ?_; intro v6 e6
      refine ok_sub (by omega) ?_; intro v7 e7
      have F4 := cn_c (ny_ag (n12_ny N4)) F
      rw [← e5, show e - p - 2 = v7 by omega] at F4
      refine ok_sv (cn_number F4) ?_; intro u9 P9
      obtain ⟨q1, q2⟩ := P9
      rw [q1]
      refine ok_mul (by omega) ?_; intro v10 e10
      refine ok_add (by omega) ?_; intro v11 e11
      refine ok_if (fun D => ?_) (fun D => ?_)
      · refine ok_add (by omega) ?_; intro v12 e12
        exact ok_ret ⟨⟨V4, N4, by show h4 160 120 = _; omega, by show 0 ≤ v12 ∧ v12 < _; omega⟩, fun _ => by show v12 = _; omega, fun y => absurd y D⟩
      · refine ok_add (by omega) ?_; intro v12 e12
        exact ok_ret ⟨⟨V4, N4, by show h4 160 120 = _; omega, by show 0 ≤ v12 ∧ v12 < _; omega⟩, fun y => absurd y D, fun _ => by show v12 = _; omega⟩
    · have ei : i < e - 1 := by
        by_cases y : i < e - 1
        · exact y
        · exfalso
          have : i = e - 1 := by omega
          rw [this] at e2
          exact C (e2.trans k3)
      refine ok_add (by omega) ?_; intro v15 e15
      rw [show v15 = 6000 * c + (i + 1) by omega]
      exact ih (i + 1) (by omega) (by omega) (by omega)
/-- a kind's type is told -/
theorem rg_typeAt (hn : 1000000 ≤ nn) (V : VS_ h) (hc : 0 ≤ c ∧ c ≤ 7) (W : WI h c w) {p e t : Int} (hp : 0 ≤ p) (he : e ≤ w 160 113) (K : RTk (w 238) p e) (F : KTv nn h c (w 238) p e t) : Ok_ (qf_X13_typeAt nn (6000 * c + p) h) (fun u => TF h (6000 * c + e) u ∧ u.1 = t) := by
  have g3 := gF_160_113 W.1
  have g98 := gF_160_98 V
  have lt : p < e := by
    rcases K with K | K
    · omega
    · have := kd_lt K; omega
  unfold qf_X13_typeAt
  refine ok_rd (by omega) (gA_226 V) ?_; intro v24 e24 _ _
  rw [W.2.2.1 p (by omega) (by omega)] at e24
  refine ok_add (by omega) ?_; intro v25 e25
  refine ok_xl ?_; intro h26 E26
  have V26 : VS_ h26 := by rw [E26]; exact wF_160_120 V (by omega)
  have N26 : N12 h h26 := fun x k w1 => by rw [E26, up_n w1]
  have f120 : h26 160 120 = v25 := by rw [E26, up_s]
  have f98 : h26 160 98 = h 160 98 := by rw [E26, up_n (by omega)]
  have W26 : WI h26 c w := wi_k (ny_k (n12_ny N26)) W
  have one : ∀ s : Int, (0 ≤ s ∧ s < 20 + 2 * h 160 98) → e = p + 1 → s = t → Ok_ (some (s, h26)) (fun u => TF h (6000 * c + e) u ∧ u.1 = t) := fun s ht y z => ok_ret ⟨⟨V26, N26, by show h26 160 120 = _; omega, ht⟩, z⟩
  have con : ∀ u : Int × ms_M, TF h26 (6000 * c + e) u → TF h (6000 * c + e) u := fun u q => ⟨q.1, n12_tr N26 q.2.1, q.2.2.1, by have := q.2.2.2; rw [f98] at this; exact this⟩
  have sort : (w 238 p.toNat = 86 ∧ e = p + 1) ∨ (w 238 p.toNat = 90 ∧ e = p + 1) ∨ (w 238 p.toNat = 73 ∧ e = p + 1) ∨ (w 238 p.toNat = 76 ∧ KN (w 238) p e) ∨ (w 238 p.toNat = 91 ∧ KK (w 238) (p + 1) e) := by
    rcases K with K | K | ⟨_, K⟩ | K
    · exact .inl K
    · exact .inr (.inl K)
    · rcases K with K | K
      · exact .inr (.inr (.inl K))
      · exact .inr (.inr (.inr (.inl ⟨K.1, K⟩)))
    · exact .inr (.inr (.inr (.inr K)))
  rcases sort with ⟨s, y⟩ | ⟨s, y⟩ | ⟨s, y⟩ | ⟨s, y⟩ | ⟨s, y⟩
  · rw [if_neg (show ¬ v24 = 73 by omega), if_pos (show ¬ v24 = 90 by omega), if_neg (show ¬ ¬ v24 = 86 by omega)]
    exact one 0 (by omega) y (ktv_det (.inl ⟨s, rfl⟩) F)
  · rw [if_neg (show ¬ v24 = 73 by omega), if_neg (show ¬ ¬ v24 = 90 by omega)]
    exact one 1 (by omega) y (ktv_det (.inr (.inl ⟨.inr s, rfl⟩)) F)
  · rw [if_pos (show v24 = 73 by omega)]
    exact one 1 (by omega) y (ktv_det (.inr (.inl ⟨.inl s, rfl⟩)) F)
  · have ne := y.2.1
    obtain ⟨u, F1, F2⟩ : ∃ u : Int, CNm nn h (6000 * c + p + 1) (e - p - 2) u ∧ t = 4 + 2 * u := by
      rcases F with F | F | F | F | F
      · exfalso; omega
      · exfalso; omega
      · exact F.2
      · exfalso; omega
      · exfalso; omega
    rw [if_neg (show ¬ v24 = 73 by omega), if_pos (show ¬ v24 = 90 by omega), if_pos (show ¬ v24 = 86 by omega), if_pos (show ¬ v24 = 91 by omega)]
    unfold qj_X13_typeAt_49
    refine ok_rd (by omega) (gA_226 V26) ?_; intro v18 e18 _ _
    rw [W26.2.2.1 p (by omega) (by omega)] at e18
    rw [if_pos (show ¬ v18 = 73 by omega)]
    refine ok_add (by omega) ?_; intro v19 e19
    rw [show v19 = 6000 * c + (p + 1) by omega]
    refine ok_im (rg_75 V26 hc W26 hp he y (cn_c (ny_ag (n12_ny N26)) F1) nn (p + 1) (by omega) (by omega) (by omega)) (fun x q => ⟨con x q.1, ?_⟩)
    rw [q.2.1 (by omega)]; omega
  · rw [if_neg (show ¬ v24 = 73 by omega), if_pos (show ¬ v24 = 90 by omega), if_pos (show ¬ v24 = 86 by omega), if_neg (show ¬ ¬ v24 = 91 by omega)]
    refine ok_add (by omega) ?_; intro v27 e27
    rw [show v27 = 6000 * c + (p + 1) by omega]
    unfold qj_X13_typeAt_49
    refine ok_rd (by have := kk_lt y; omega) (gA_226 V26) ?_; intro v18 e18 _ _
    rw [W26.2.2.1 (p + 1) (by omega) (by have := kk_lt y; omega)] at e18
    rcases y with y | y
    · rw [if_neg (show ¬ ¬ v18 = 73 by omega)]
      refine ok_add (by omega) ?_; intro v20 e20
      refine ok_xl ?_; intro h21 E21
      exact ok_ret ⟨con _ ⟨by rw [E21]; exact wF_160_120 V26 (by omega), fun x k w1 => by show h21 x k = h26 x k; rw [E21, up_n w1], by show h21 160 120 = _; rw [E21, up_s]; omega, by show (0 : Int) ≤ 3 ∧ (3 : Int) < _; omega⟩, ktv_det (.inr (.inr (.inr (.inl ⟨s, y.1, rfl⟩)))) F⟩
    · have ne := y.2.1
      have y1 := y.1
      obtain ⟨u, F1, F2⟩ : ∃ u : Int, CNm nn h (6000 * c + p + 2) (e - p - 3) u ∧ t = 5 + 2 * u := by
        rcases F with F | F | F | F | F
        · exfalso; omega
        · exfalso; omega
        · exfalso; omega
        · exfalso; omega
        · exact F.2.2
      rw [if_pos (show ¬ v18 = 73 by omega)]
      refine ok_add (by omega) ?_; intro v19 e19
      rw [show v19 = 6000 * c + (p + 1 + 1) by omega]
      have F3 := cn_c (ny_ag (n12_ny N26)) F1
      rw [show 6000 * c + p + 2 = 6000 * c + (p + 1) + 1 by omega, show e - p - 3 = e - (p + 1) - 2 by omega] at F3
      refine ok_im (rg_75 V26 hc W26 (by omega) he y F3 nn (p + 1 + 1) (by omega) (by omega) (by omega)) (fun x q => ⟨con x q.1, ?_⟩)
      rw [q.2.2 (by omega)]; omega
/-- the type of class constant i -/
def CTv (nn : Nat) (h : ms_M) (c : Int) (w : ms_M) (i t : Int) : Prop := (¬ w 238 (pl w c (w 238 (pl w c i + 1).toNat) + 2).toNat = 91 ∧ ∃ u : Int, CNm nn h (6000 * c + pl w c (w 238 (pl w c i + 1).toNat) + 2) (w 238 (pl w c (w 238 (pl w c i + 1).toNat) + 1).toNat) u ∧ t = 4 + 2 * u) ∨ (w 238 (pl w c (w 238 (pl w c i + 1).toNat) + 2).toNat = 91 ∧ KTv nn h c (w 238) (pl w c (w 238 (pl w c i + 1).toNat) + 2) (pl w c (w 238 (pl w c i + 1).toNat) + 2 + w 238 (pl w c (w 238 (pl w c i + 1).toNat) + 1).toNat) t)
theorem ctv_c {i t : Int} (A : AGc h g) (F : CTv nn h c w i t) : CTv nn g c w i t := by
  rcases F with ⟨a, u, b, d⟩ | ⟨a, b⟩
  · exact .inl ⟨a, u, cn_c A b, d⟩
  · exact .inr ⟨a, ktv_c A b⟩
theorem ctv_det {i t t2 : Int} (F : CTv nn h c w i t) (G : CTv nn h c w i t2) : t = t2 := by
  rcases F with ⟨a, u, b, d⟩ | ⟨a, b⟩ <;> rcases G with ⟨a', u', b', d'⟩ | ⟨a', b'⟩
  · have := cn_det b b'; omega
  · exact absurd a' a
  · exact absurd a a'
  · exact ktv_det b b'
theorem ctv_rg {i t : Int} (V : VS_ h) (F : CTv nn h c w i t) : 0 ≤ t ∧ t < 20 + 2 * h 160 98 := by
  rcases F with ⟨a, u, b, d⟩ | ⟨a, b⟩
  · have := b.1; omega
  · exact ktv_rg V b
theorem ctv_ex {i : Int} (hc : 0 ≤ c ∧ c ≤ 7) (W : WI h c w) (t : CL w c i) (F : CFd nn h c w i) : ∃ t : Int, CTv nn h c w i t := by
  have ts := (wi_cl W hc t).2.2.2.2
  have ct := ts.2.2.2.2.2 rfl
  by_cases y : w 238 (pl w c (w 238 (pl w c i + 1).toNat) + 2).toNat = 91
  · have kd : KD (w 238) (pl w c (w 238 (pl w c i + 1).toNat) + 2) (pl w c (w 238 (pl w c i + 1).toNat) + 2 + w 238 (pl w c (w 238 (pl w c i + 1).toNat) + 1).toNat) := by
      rcases ct with k | k
      · exact k.2
      · exact absurd y k.1
    obtain ⟨t, k⟩ := ktv_ex (.inr kd) (F.2 y)
    exact ⟨t, .inr ⟨y, k⟩⟩
  · obtain ⟨u, b, e⟩ := F.1 y
    exact ⟨4 + 2 * u, .inl ⟨y, u, ⟨b, e⟩, rfl⟩⟩
theorem rg_typeOf (hn : 1000000 ≤ nn) (V : VS_ h) (hc : 0 ≤ c ∧ c ≤ 7) (W : WI h c w) {i t : Int} (cl : CL w c i) (F : CTv nn h c w i t) : Ok_ (qf_X13_typeOfClass nn c i h) (fun u => TF2 h u ∧ u.1 = t) := by
  have g98 := gF_160_98 V
  unfold CTv at F
  unfold qf_X13_typeOfClass
  refine ok_sv (rv_textOf V hc W cl) ?_; intro u2 P2
  obtain ⟨e2, t1, t2⟩ := P2
  rw [← e2] at F
  obtain ⟨a1, a2, a3, a4, a5⟩ := wi_tx W hc t1
  have ct := t2.2.2.2.2 rfl
  refine ok_mul (by omega) ?_; intro v3 e3
  refine ok_mul (by omega) ?_; intro v5 e5
  refine ok_add (by omega) ?_; intro v6 e6
  refine ok_rd (by omega) (gA_228 V) ?_; intro v7 e7 _ _
  rw [e6, e5, a2] at e7
  refine ok_add (by omega) ?_; intro v8 e8
  refine ok_add (by omega) ?_; intro v10 e10
  refine ok_rd (by omega) (gA_226 V) ?_; intro v11 e11 _ _
  rw [show v10 = 6000 * c + (pl w c u2 + 2) by omega, W.2.2.1 _ (by omega) (by omega)] at e11
  refine ok_if (fun C => ?_) (fun C => ?_)
  · refine ok_add (by omega) ?_; intro v12 e12
    refine ok_add (by omega) ?_; intro v14 e14
    refine ok_rd (by omega) (gA_226 V) ?_; intro v15 e15 _ _
    rw [show v14 = 6000 * c + pl w c u2 + 1 by omega, a5] at e15
    obtain ⟨u, F1, F2⟩ : ∃ u : Int, CNm nn h (6000 * c + pl w c u2 + 2) (w 238 (pl w c u2 + 1).toNat) u ∧ t = 4 + 2 * u := by
      rcases F with F | F
      · exact F.2
      · exact absurd (e11.trans F.1) C
    have fb := F1.1
    rw [show 6000 * c + pl w c u2 + 2 = v12 by omega, ← e15] at F1
    refine ok_sv (cn_number F1) ?_; intro u17 P17
    rw [P17.1]
    have q := P17.2
    refine ok_mul (by omega) ?_; intro v18 e18
    refine ok_add (by omega) ?_; intro v19 e19
    exact ok_ret ⟨⟨V, fun _ _ _ => rfl, by show 0 ≤ v19 ∧ v19 < _; omega⟩, by show v19 = _; omega⟩
  · have C : v11 = 91 := Decidable.not_not.1 C
    refine ok_add (by omega) ?_; intro v20 e20
    rw [show v20 = 6000 * c + (pl w c u2 + 2) by omega]
    have kd : KD (w 238) (pl w c u2 + 2) (pl w c u2 + 2 + w 238 (pl w c u2 + 1).toNat) := by
      rcases ct with y | y
      · exact y.2
      · exact absurd (e11.symm.trans C) y.1
    have F1 : KTv nn h c (w 238) (pl w c u2 + 2) (pl w c u2 + 2 + w 238 (pl w c u2 + 1).toNat) t := by
      rcases F with F | F
      · exact absurd (e11.symm.trans C) F.1
      · exact F.2
    refine ok_sv (rg_typeAt hn V hc W (by omega) (by omega) (.inr kd) F1) ?_; intro u22 P22
    exact ok_ret ⟨⟨P22.1.1, P22.1.2.1, P22.1.2.2.2⟩, P22.2⟩
theorem rg_kindType (hn : 1000000 ≤ nn) (V : VS_ h) (hc : 0 ≤ c ∧ c ≤ 7) (W : WI h c w) {i t : Int} (tx : TX w c i) (k : RTk (w 238) (pl w c i + 2) (pl w c i + 2 + w 238 (pl w c i + 1).toNat)) (F : KTv nn h c (w 238) (pl w c i + 2) (pl w c i + 2 + w 238 (pl w c i + 1).toNat) t) : Ok_ (qf_X13_kindType nn c i h) (fun u => TF2 h u ∧ u.1 = t) := by
  obtain ⟨a1, a2, a3, a4, a5⟩ := wi_tx W hc tx
  unfold qf_X13_kindType
  refine ok_mul (by omega) ?_; intro v1 e1
  refine ok_mul (by omega) ?_; intro v3 e3
  refine ok_add (by omega) ?_; intro v4 e4
  refine ok_rd (by omega) (gA_228 V) ?_; intro v5 e5 _ _
  rw [e4, e3, a2] at e5
  refine ok_add (by omega) ?_; intro v6 e6
  refine ok_add (by omega) ?_; intro v7 e7
  rw [show v7 = 6000 * c + (pl w c i + 2) by omega]
  refine ok_sv (rg_typeAt hn V hc W (by omega) (by omega) k F) ?_; intro u9 P9
  exact ok_ret ⟨⟨P9.1.1, P9.1.2.1, P9.1.2.2.2⟩, P9.2⟩
end
end
section
section
variable {nn : Nat} {h g r z w v x : ms_M} {c d e k : Int}
/-- two memories with the same space -/
def AGd (h g : ms_M) : Prop := (∀ x k : Nat, 226 ≤ x → x ≤ 237 → g x k = h x k) ∧ g 160 98 = h 160 98 ∧ g 900000 0 = h 900000 0
theorem agd_rf : AGd h h := ⟨fun _ _ _ _ => rfl, rfl, rfl⟩
theorem agd_sy (A : AGd h g) : AGd g h := ⟨fun x k a b => (A.1 x k a b).symm, A.2.1.symm, A.2.2.symm⟩
theorem agd_tr (A : AGd h g) (B : AGd g r) : AGd h r := ⟨fun x k a b => (B.1 x k a b).trans (A.1 x k a b), B.2.1.trans A.2.1, B.2.2.trans A.2.2⟩
theorem agd_f (A : AGd h g) {x : Nat} (a : 226 ≤ x) (b : x ≤ 237) : g x = h x := funext fun k => A.1 x k a b
theorem agd_c (A : AGd h g) : AGc h g := ⟨agd_f A (by decide) (by decide), agd_f A (by decide) (by decide), agd_f A (by decide) (by decide), A.2.1, A.2.2⟩
theorem agd_wi (A : AGd h g) (W : WI h c w) : WI g c w := wi_k A.1 W
theorem agd_spd (V : VS_ h) (A : AGd h g) (S : SPD h) : SPD g := spd_k V A.1 A.2.1 S
theorem agd_ny (N : NY h g) : AGd h g := ⟨ny_k N, N 160 98 (by decide) (by decide) (by decide), N 900000 0 (by omega) (by decide) (by decide)⟩
theorem cd_byteAt (A : AGd h g) {p : Int} : qf_X13_byteAt nn c p g = qf_X13_byteAt nn c p h := by
  unfold qf_X13_byteAt
  simp only [rdA_c (agd_c A).1]
theorem cd_textOf (A : AGd h g) {i : Int} : qf_X13_textOfClass nn c i g = qf_X13_textOfClass nn c i h := by
  unfold qf_X13_textOfClass
  simp only [rdA_c (agd_c A).2.1, cd_byteAt A]
theorem cd_classAt (A : AGd h g) {i : Int} : qf_X13_classAtText nn c i g = qf_X13_classAtText nn c i h := by
  unfold qf_X13_classAtText
  simp only [rdA_c (agd_c A).1, rdA_c (agd_c A).2.1, ca_classNamed (agd_c A)]
theorem cd_super (A : AGd h g) : qf_X13_superOf nn k g = qf_X13_superOf nn k h := by
  unfold qf_X13_superOf
  simp only [rdA_c (agd_f A (x := 231) (by decide) (by decide)), cd_textOf A, cd_classAt A]
theorem cd_under (A : AGd h g) {t : Int} : qf_X13_isUnder nn k t g = qf_X13_isUnder nn k t h := by
  have L : ∀ (m : Nat) (l3 l4 : Int), qw_X13_isUnder_5 nn m t l3 l4 g = qw_X13_isUnder_5 nn m t l3 l4 h := by
    intro m
    induction m with
    | zero => intro l3 l4; rfl
    | succ m ih =>
      intro l3 l4
      unfold qw_X13_isUnder_5
      simp only [cd_super A, ih]
  unfold qf_X13_isUnder
  exact L nn k 0
theorem cd_goes (A : AGd h g) {a b : Int} : qf_X13_goes nn a b g = qf_X13_goes nn a b h := by
  have R : qf_X13_isRow nn a g = qf_X13_isRow nn a h := rfl
  have J : qj_X13_goes_53 nn a b g = qj_X13_goes_53 nn a b h := by
    unfold qj_X13_goes_53
    simp only [cd_under A]
  unfold qf_X13_goes
  rw [R, J]
/-- text i of image c and text j of image d are alike -/
def EQT (w : ms_M) (c i : Int) (v : ms_M) (d j : Int) : Prop := w 238 (pl w c i + 1).toNat = v 238 (pl v d j + 1).toNat ∧ ∀ m : Int, 0 ≤ m → m < w 238 (pl w c i + 1).toNat → w 238 (pl w c i + 2 + m).toNat = v 238 (pl v d j + 2 + m).toNat
theorem eqt_sy {i j : Int} (E : EQT w c i v d j) : EQT v d j w c i := ⟨E.1.symm, fun m a b => (E.2 m a (by rw [E.1]; exact b)).symm⟩
theorem eqt_rf {i : Int} : EQT w c i w c i := ⟨rfl, fun _ _ _ => rfl⟩
theorem eqt_tr {i j l : Int} (E : EQT w c i v d j) (F : EQT v d j x e l) : EQT w c i x e l := ⟨E.1.trans F.1, fun m a b => (E.2 m a b).trans (F.2 m a (by rw [← E.1]; exact b))⟩
/-- sameText tells whether they are alike -/
theorem rt_same (hn : 1000000 ≤ nn) (V : VS_ h) (hc : 0 ≤ c ∧ c ≤ 7) (hd : 0 ≤ d ∧ d ≤ 7) (W : WI h c w) (X : WI h d v) {i j : Int} (t : TX w c i) (s : TX v d j) : Ok_ (qf_X13_sameText nn c i d j h) (fun u => (u = 1 ∧ EQT w c i v d j) ∨ (u = 0 ∧ ¬ EQT w c i v d j)) := by
  obtain ⟨a1, a2, a3, a4, a5⟩ := wi_tx W hc t
  obtain ⟨b1, b2, b3, b4, b5⟩ := wi_tx X hd s
  have L : ∀ (l5 l6 n : Int), (0 ≤ l5 ∧ l5 + 2 + n ≤ 48000) → (1 ≤ n ∧ n ≤ 120) → h 226 (l5 + 1).toNat = n → (0 ≤ l6) → ∀ (m : Nat) (l7 l8 : Int), (l7 = 0 ∨ (l7 = 1 ∧ l6 + 2 + n ≤ 48000)) → (¬ l7 = 0 → ∀ q : Int, 0 ≤ q → q < l8 → h 226 (l5 + 2 + q).toNat = h 226 (l6 + 2 + q).toNat) → (0 ≤ l8 ∧ l8 ≤ n) → n - l8 < (m : Int) → Ok_ (qw_X13_sameText_72 nn m l5 l6 l7 l8 h) (fun u => (u = 0 ∧ (l7 = 0 ∨ ∃ q : Int, (0 ≤ q ∧ q < n) ∧ ¬ h 226 (l5 + 2 + q).toNat = h 226 (l6 + 2 + q).toNat)) ∨ (u = 1 ∧ l7 = 1 ∧ ∀ q : Int, 0 ≤ q → q < n → h 226 (l5 + 2 + q).toNat = h 226 (l6 + 2 + q).toNat)) := by
    intro l5 l6 n p1 p2 p3 p4 m
    induction m with
    | zero => intro l7 l8 a y b hm; exfalso; omega
    | succ m ih =>
      intro l7 l8 a y b hm
      have a' : l7 = 0 ∨ l7 = 1 := by omega
      unfold qw_X13_sameText_72
      refine ok_add (by omega) ?_; intro v2 e2
      refine ok_rd (by omega) (gA_226 V) ?_; intro v3 e3 _ _
      rw [e2, p3] at e3
      refine ok_if (fun C => ok_ck a' (ok_ret ?_)) (fun C => ?_)
      · rcases a' with a' | a'
        · exact .inl ⟨a', .inl a'⟩
        · exact .inr ⟨a', a', fun q q1 q2 => y (by omega) q q1 (by omega)⟩
      refine ok_if (fun D => ok_ck a' (ok_ret (.inl ⟨D, .inl D⟩))) (fun D => ?_)
      refine ok_add (by omega) ?_; intro v7 e7
      refine ok_add (by omega) ?_; intro v8 e8
      refine ok_rd (by omega) (gA_226 V) ?_; intro v9 e9 _ _
      refine ok_add (by omega) ?_; intro v11 e11
      refine ok_add (by omega) ?_; intro v12 e12
      refine ok_rd (by omega) (gA_226 V) ?_; intro v13 e13 _ _
      refine ok_if (fun E => ?_) (fun E => ?_)
      · refine ok_add (by omega) ?_; intro v14 e14
        refine ok_im (ih 0 v14 (.inl rfl) (fun z => absurd rfl z) (by omega) (by omega)) (fun u P => .inl ⟨?_, .inr ⟨l8, by omega, ?_⟩⟩)
        · rcases P with P | P
          · exact P.1
          · have := P.2.1; exfalso; omega
        · rw [show l5 + 2 + l8 = v8 by omega, show l6 + 2 + l8 = v12 by omega, ← e9, ← e13]; exact E
      · have E : v9 = v13 := Decidable.not_not.1 E
        refine ok_add (by omega) ?_; intro v15 e15
        refine ok_im (ih 1 v15 (.inr ⟨rfl, by omega⟩) (fun _ q q1 q2 => ?_) (by omega) (by omega)) (fun u P => ?_)
        · by_cases q0 : q = l8
          · rw [q0, show l5 + 2 + l8 = v8 by omega, show l6 + 2 + l8 = v12 by omega, ← e9, ← e13]; exact E
          · exact y D q q1 (by omega)
        · rcases P with P | P
          · rcases P.2 with q | q
            · exfalso; omega
            · exact .inl ⟨P.1, .inr q⟩
          · exact .inr ⟨P.1, by omega, P.2.2⟩
  unfold qf_X13_sameText
  refine ok_mul (by omega) ?_; intro v19 e19
  refine ok_mul (by omega) ?_; intro v21 e21
  refine ok_add (by omega) ?_; intro v22 e22
  refine ok_rd (by omega) (gA_228 V) ?_; intro v23 e23 _ _
  rw [e22, e21, a2] at e23
  refine ok_add (by omega) ?_; intro v24 e24
  refine ok_mul (by omega) ?_; intro v25 e25
  refine ok_mul (by omega) ?_; intro v27 e27
  refine ok_add (by omega) ?_; intro v28 e28
  refine ok_rd (by omega) (gA_228 V) ?_; intro v29 e29 _ _
  rw [e28, e27, b2] at e29
  refine ok_add (by omega) ?_; intro v30 e30
  refine ok_add (by omega) ?_; intro v32 e32
  refine ok_rd (by omega) (gA_226 V) ?_; intro v33 e33 _ _
  rw [show v32 = 6000 * c + pl w c i + 1 by omega, a5] at e33
  refine ok_add (by omega) ?_; intro v35 e35
  refine ok_rd (by omega) (gA_226 V) ?_; intro v36 e36 _ _
  rw [show v35 = 6000 * d + pl v d j + 1 by omega, b5] at e36
  have p3 : h 226 (v24 + 1).toNat = v33 := by rw [show v24 + 1 = 6000 * c + pl w c i + 1 by omega, a5, e33]
  refine ok_if (fun D => ok_im (L v24 v30 v33 (by omega) (by omega) p3 (by omega) nn 0 0 (.inl rfl) (fun z => absurd rfl z) (by omega) (by omega)) (fun u P => ?_)) (fun D => ?_)
  · rcases P with P | P
    · exact .inr ⟨P.1, fun y => D (by have := y.1; omega)⟩
    · have := P.2.1; exfalso; omega
  have D : v33 = v36 := Decidable.not_not.1 D
  have tr : ∀ m : Int, 0 ≤ m → m < v33 → (h 226 (v24 + 2 + m).toNat = w 238 (pl w c i + 2 + m).toNat ∧ h 226 (v30 + 2 + m).toNat = v 238 (pl v d j + 2 + m).toNat) := fun m m1 m2 => by
    rw [show v24 + 2 + m = 6000 * c + (pl w c i + 2 + m) by omega, show v30 + 2 + m = 6000 * d + (pl v d j + 2 + m) by omega, W.2.2.1 _ (by omega) (by omega), X.2.2.1 _ (by omega) (by omega)]
    exact ⟨rfl, rfl⟩
  refine ok_im (L v24 v30 v33 (by omega) (by omega) p3 (by omega) nn 1 0 (.inr ⟨rfl, by omega⟩) (fun _ q q1 q2 => by exfalso; omega) (by omega) (by omega)) (fun u P => ?_)
  rcases P with P | P
  · refine .inr ⟨P.1, fun y => ?_⟩
    rcases P.2 with q | ⟨q, q1, q2⟩
    · exfalso; omega
    · have t := tr q q1.1 q1.2
      exact q2 (t.1.trans ((y.2 q q1.1 (by omega)).trans t.2.symm))
  · exact .inl ⟨P.1, by omega, fun m m1 m2 => by
      have t := tr m m1 (by omega)
      exact t.1.symm.trans ((P.2.2 m m1 (by omega)).trans t.2)⟩
/-- the images of the space, as they were read -/
def OM (h : ms_M) (ω : Int → ms_M) : Prop := ∀ d : Int, 0 ≤ d → d < h 160 98 → WI h d (ω d)
theorem om_of (V : VS_ h) (S : SPD h) : ∃ ω : Int → ms_M, OM h ω := by
  have g98 := gF_160_98 V
  have L : ∀ d : Int, ∃ w : ms_M, 0 ≤ d → d < h 160 98 → WI h d w := fun d => by
    by_cases y : 0 ≤ d ∧ d < h 160 98
    · obtain ⟨w, W⟩ := wi_of (by omega) (S d y.1 y.2).2
      exact ⟨w, fun _ _ => W⟩
    · exact ⟨h, fun a b => absurd ⟨a, b⟩ y⟩
  exact ⟨fun d => Classical.choose (L d), fun d a b => Classical.choose_spec (L d) a b⟩
theorem om_k {ω : Int → ms_M} (A : AGd h g) (O : OM h ω) : OM g ω := fun d a b => agd_wi A (O d a (by rw [← A.2.1]; exact b))
/-- the name and the kind of member j of image d -/
def nmT (h : ms_M) (ω : Int → ms_M) (d s j : Int) : Int := if s = 0 then ω d 238 (h 233 (12 * d + j).toNat).toNat else ω d 238 (h 235 (12 * d + j).toNat + 1).toNat
def kdT (h : ms_M) (ω : Int → ms_M) (d s j : Int) : Int := if s = 0 then ω d 238 (h 233 (12 * d + j).toNat + 1).toNat else ω d 238 (h 235 (12 * d + j).toNat + 2).toNat
/-- member j of image d has the name that text i of image c says -/
def MTc (h : ms_M) (ω : Int → ms_M) (w : ms_M) (c i s d j : Int) : Prop := EQT (ω d) d (nmT h ω d s j) w c i
/-- where a member is looked up: from class k up, at most m classes; found in class u, member j -/
def HSn (nn : Nat) (h : ms_M) (ω : Int → ms_M) (w : ms_M) (c i s : Int) : Nat → Int → Int → Int → Prop
  | 0, _, u, _ => u = -1
  | m + 1, k, u, j => (k = -1 ∧ u = -1) ∨ (¬ k = -1 ∧ ((8 ≤ k ∧ u = k ∧ (0 ≤ j ∧ j < mem h (k - 8) s) ∧ MTc h ω w c i s (k - 8) j ∧ ∀ l : Int, 0 ≤ l → l < j → ¬ MTc h ω w c i s (k - 8) l) ∨ ((8 ≤ k → ∀ l : Int, 0 ≤ l → l < mem h (k - 8) s → ¬ MTc h ω w c i s (k - 8) l) ∧ ∃ y : Int, qf_X13_superOf nn k h = some y ∧ HSn nn h ω w c i s m y u j)))
/-- holder tells where -/
theorem rt_holder {ω : Int → ms_M} (hn : 1000000 ≤ nn) (V : VS_ h) (S : SPD h) (O : OM h ω) (hc : 0 ≤ c ∧ c ≤ 7) (W : WI h c w) {f i s : Int} (hf : -1 ≤ f ∧ f < 8 + h 160 98) (t : TX w c i) : Ok_ (qf_X13_holder nn f c i s h) (fun u => ∃ j : Int, HSn nn h ω w c i s 17 f u.1 j ∧ ((u.1 = -1 ∧ u.2 = h) ∨ ((8 ≤ u.1 ∧ u.1 < 8 + h 160 98) ∧ (0 ≤ j ∧ j < mem h (u.1 - 8) s) ∧ u.2 = up_M h 160 121 j))) := by
  have g98 := gF_160_98 V
  have L : ∀ (k : Nat) (n : Nat) (l5 l6 : Int), (-1 ≤ l5 ∧ l5 < 8 + h 160 98) → 0 ≤ l6 → l6 + n = 17 → (n : Int) < k → Ok_ (qw_X13_holder_6 nn k c i s l5 l6 h) (fun u => ∃ j : Int, HSn nn h ω w c i s n l5 u.1 j ∧ ((u.1 = -1 ∧ u.2 = h) ∨ ((8 ≤ u.1 ∧ u.1 < 8 + h 160 98) ∧ (0 ≤ j ∧ j < mem h (u.1 - 8) s) ∧ u.2 = up_M h 160 121 j))) := by
    intro k
    induction k with
    | zero => intro n l5 l6 a b b2 hm; exfalso; omega
    | succ k ih =>
      intro n l5 l6 a b b2 hm
      unfold qw_X13_holder_6
      cases n with
      | zero =>
        rw [if_pos (show 16 < l6 by omega)]
        exact ok_ret ⟨0, rfl, .inl ⟨rfl, rfl⟩⟩
      | succ n =>
      rw [if_neg (show ¬ 16 < l6 by omega)]
      refine ok_if (fun B => ok_ret ⟨0, .inl ⟨B, rfl⟩, .inl ⟨rfl, rfl⟩⟩) (fun B => ?_)
      have J : (8 ≤ l5 → ∀ l : Int, 0 ≤ l → l < mem h (l5 - 8) s → ¬ MTc h ω w c i s (l5 - 8) l) → Ok_ (qj_X13_holder_148 nn (qw_X13_holder_6 nn k) c i s l5 l6 h) (fun u => ∃ j : Int, HSn nn h ω w c i s (n + 1) l5 u.1 j ∧ ((u.1 = -1 ∧ u.2 = h) ∨ ((8 ≤ u.1 ∧ u.1 < 8 + h 160 98) ∧ (0 ≤ j ∧ j < mem h (u.1 - 8) s) ∧ u.2 = up_M h 160 121 j))) := fun no => by
        unfold qj_X13_holder_148
        obtain ⟨y, ey, P2⟩ := rv_super hn V S (k := l5) (by omega)
        rw [ey, mx_svs]
        refine ok_add (by omega) ?_; intro v3 e3
        refine ok_im (ih n y v3 P2 (by omega) (by omega) (by omega)) (fun u P => ?_)
        obtain ⟨j, P1, P2⟩ := P
        exact ⟨j, .inr ⟨B, .inr ⟨no, y, ey, P1⟩⟩, P2⟩
      refine ok_if (fun C => J (fun y => by exfalso; omega)) (fun C => ?_)
      refine ok_sub (by omega) ?_; intro v24 e24
      have hd : 0 ≤ v24 ∧ v24 ≤ 7 := by omega
      have X := O v24 (by omega) (by omega)
      have M : ∀ (m : Nat) (l8 l9 : Int), l8 = mem h v24 s → (0 ≤ l9 ∧ l9 ≤ 255) → (∀ l : Int, 0 ≤ l → l < l9 → ¬ MTc h ω w c i s v24 l) → 256 - l9 < (m : Int) → Ok_ (qw_X13_holder_60 nn (qw_X13_holder_6 nn k) m c i s l5 l6 v24 l8 l9 h) (fun u => ∃ j : Int, HSn nn h ω w c i s (n + 1) l5 u.1 j ∧ ((u.1 = -1 ∧ u.2 = h) ∨ ((8 ≤ u.1 ∧ u.1 < 8 + h 160 98) ∧ (0 ≤ j ∧ j < mem h (u.1 - 8) s) ∧ u.2 = up_M h 160 121 j))) := by
        intro m
        induction m with
        | zero => intro l8 l9 p q no hm2; exfalso; omega
        | succ m ih2 =>
          intro l8 l9 p q no hm2
          unfold qw_X13_holder_60
          refine ok_if (fun D => J (fun _ l l1 l2 => ?_)) (fun D => ?_)
          · rw [← e24] at l2 ⊢
            exact no l l1 (by omega)
          have T : ∀ y : Int, y = nmT h ω v24 s l9 → TS 0 (ω v24) v24 y → l9 < 12 → Ok_ (qj_X13_holder_115 nn (qw_X13_holder_6 nn k) (qw_X13_holder_60 nn (qw_X13_holder_6 nn k) m) c i s l5 l6 v24 l8 l9 y h) (fun u => ∃ j : Int, HSn nn h ω w c i s (n + 1) l5 u.1 j ∧ ((u.1 = -1 ∧ u.2 = h) ∨ ((8 ≤ u.1 ∧ u.1 < 8 + h 160 98) ∧ (0 ≤ j ∧ j < mem h (u.1 - 8) s) ∧ u.2 = up_M h 160 121 j))) := fun y ey ty l12 => by
            unfold qj_X13_holder_115
            refine ok_sv (rt_same hn V hd hc X W ty.1 t) ?_; intro u5 P5
            rw [ey] at P5
            refine ok_if (fun F => ?_) (fun F => ?_)
            · have mt : MTc h ω w c i s v24 l9 := by
                rcases P5 with P5 | P5
                · exact P5.2
                · exact absurd P5.1 F
              refine ok_xl ?_; intro h6 E6
              have lm : 0 ≤ l9 ∧ l9 < mem h v24 s := by omega
              refine ok_ret ⟨l9, .inr ⟨B, .inl ?_⟩, .inr ⟨by show 8 ≤ l5 ∧ l5 < _; omega, ?_, E6⟩⟩
              · rw [← e24]
                exact ⟨by omega, rfl, lm, mt, no⟩
              · show 0 ≤ l9 ∧ l9 < mem h (l5 - 8) s
                rw [← e24]; exact lm
            · refine ok_add (by omega) ?_; intro v7 e7
              refine ih2 l8 v7 p (by omega) (fun l l1 l2 => ?_) (by omega)
              by_cases q0 : l = l9
              · rw [q0]
                rcases P5 with P5 | P5
                · exfalso; have := P5.1; omega
                · exact P5.2
              · exact no l l1 (by omega)
          refine ok_if (fun E => ?_) (fun E => ?_)
          · have p2 : l8 = h 232 v24.toNat := p.trans (if_pos E)
            obtain ⟨k12, e, pb, t0, t1⟩ := wi_fd X hd (k := l9) (by omega)
            have g3 := gF_160_113 X.1
            refine ok_mul (by omega) ?_; intro v10 e10
            refine ok_add (by omega) ?_; intro v11 e11
            refine ok_rd (by omega) (gA_233 V) ?_; intro v12 e12 _ _
            rw [e11, e10] at e12
            rw [← e12] at pb t0
            refine ok_sv (rv_byte V hd (by omega)) ?_; intro u14 P14
            have q14 : u14 = ω v24 238 v12.toNat := by rw [P14.1, X.2.2.1 v12 (by omega) (by omega)]
            refine T u14 ?_ (by rw [q14]; exact t0) k12
            rw [nmT, if_pos E, q14, e12]
          · have p2 : l8 = h 234 v24.toNat := p.trans (if_neg E)
            obtain ⟨k12, bb, mm⟩ := wi_mt X hd (k := l9) (by omega)
            have t0 := (mth_tx mm).1
            refine ok_mul (by omega) ?_; intro v10 e10
            refine ok_add (by omega) ?_; intro v11 e11
            refine ok_rd (by omega) (gA_235 V) ?_; intro v12 e12 _ _
            rw [e11, e10] at e12
            rw [← e12] at bb t0
            refine ok_add (by omega) ?_; intro v19 e19
            refine ok_sv (rv_byte V hd (by omega)) ?_; intro u14 P14
            have q14 : u14 = ω v24 238 (v12 + 1).toNat := by rw [P14.1, X.2.2.1 v19 (by omega) (by omega), e19]
            refine T u14 ?_ (by rw [q14]; exact t0) k12
            rw [nmT, if_neg E, q14, e12]
      refine ok_if (fun E => ?_) (fun E => ?_)
      · refine ok_rd (by omega) (gA_232 V) ?_; intro v26 e26 _ _
        exact M nn v26 0 (by rw [e26]; exact (if_pos E).symm) (by omega) (fun l l1 l2 => by exfalso; omega) (by omega)
      · refine ok_rd (by omega) (gA_234 V) ?_; intro v26 e26 _ _
        exact M nn v26 0 (by rw [e26]; exact (if_neg E).symm) (by omega) (fun l l1 l2 => by exfalso; omega) (by omega)
  unfold qf_X13_holder
  exact L nn 17 f 0 hf (by omega) (by omega) (by omega)
end
end
