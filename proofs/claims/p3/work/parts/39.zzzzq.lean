section
variable {nn : Nat} {h g r z w v : ms_M} {c d : Int}
/-- the name from a, n long, is class u's -/
def CNm (nn : Nat) (h : ms_M) (a n u : Int) : Prop := (0 ≤ u ∧ u < 8 + h 160 98) ∧ qf_X13_classNamed nn 226 a n h = some u
theorem cn_c (A : AGc h g) {a n u : Int} (F : CNm nn h a n u) : CNm nn g a n u := ⟨by rw [A.2.2.2.1]; exact F.1, by rw [ca_classNamed A]; exact F.2⟩
theorem cn_det {a n u u2 : Int} (F : CNm nn h a n u) (G : CNm nn h a n u2) : u = u2 := Option.some.inj (F.2.symm.trans G.2)
theorem cn_p {a b n u : Int} (B : SB h a b n) (F : CNm nn h a n u) : CNm nn h b n u := ⟨F.1, by rw [← cp_classNamed B]; exact F.2⟩
theorem cn_number {a n u : Int} (F : CNm nn h a n u) : Ok_ (qf_X13_nameNumber nn a n h) (fun x => x.2 = h ∧ x.1 = u) := by
  obtain ⟨b, e⟩ := F
  unfold qf_X13_nameNumber
  rw [e, mx_svs]
  exact ok_if (fun y => by exfalso; omega) (fun _ => ok_ret ⟨rfl, rfl⟩)
/-- the type of the kind from p to e -/
def KTv (nn : Nat) (h : ms_M) (c : Int) (f : Nat → Int) (p e t : Int) : Prop := (f p.toNat = 86 ∧ t = 0) ∨ ((f p.toNat = 73 ∨ f p.toNat = 90) ∧ t = 1) ∨ (f p.toNat = 76 ∧ ∃ u : Int, CNm nn h (6000 * c + p + 1) (e - p - 2) u ∧ t = 4 + 2 * u) ∨ (f p.toNat = 91 ∧ f (p + 1).toNat = 73 ∧ t = 3) ∨ (f p.toNat = 91 ∧ f (p + 1).toNat = 76 ∧ ∃ u : Int, CNm nn h (6000 * c + p + 2) (e - p - 3) u ∧ t = 5 + 2 * u)
theorem ktv_c {f : Nat → Int} {p e t : Int} (A : AGc h g) (K : KTv nn h c f p e t) : KTv nn g c f p e t := by
  rcases K with K | K | ⟨a, u, b, d⟩ | K | ⟨a, a2, u, b, d⟩
  · exact .inl K
  · exact .inr (.inl K)
  · exact .inr (.inr (.inl ⟨a, u, cn_c A b, d⟩))
  · exact .inr (.inr (.inr (.inl K)))
  · exact .inr (.inr (.inr (.inr ⟨a, a2, u, cn_c A b, d⟩)))
theorem ktv_det {f : Nat → Int} {p e t t2 : Int} (K : KTv nn h c f p e t) (L : KTv nn h c f p e t2) : t = t2 := by
  rcases K with ⟨a, b⟩ | ⟨a, b⟩ | ⟨a, u, b, d⟩ | ⟨a, a2, b⟩ | ⟨a, a2, u, b, d⟩ <;> rcases L with ⟨a', b'⟩ | ⟨a', b'⟩ | ⟨a', u', b', d'⟩ | ⟨a', a2', b'⟩ | ⟨a', a2', u', b', d'⟩ <;> first | omega | (have := cn_det b b'; omega)
theorem ktv_rg {f : Nat → Int} {p e t : Int} (V : VS_ h) (K : KTv nn h c f p e t) : 0 ≤ t ∧ t < 20 + 2 * h 160 98 := by
  have := gF_160_98 V
  rcases K with ⟨a, b⟩ | ⟨a, b⟩ | ⟨a, u, b, d⟩ | ⟨a, a2, b⟩ | ⟨a, a2, u, b, d⟩
  · omega
  · omega
  · have := b.1; omega
  · omega
  · have := b.1; omega
theorem ktv_ex {f : Nat → Int} {p e : Int} (K : RTk f p e) (F : KF nn h c f p e) : ∃ t : Int, KTv nn h c f p e t := by
  rcases K with K | K | ⟨K, K2⟩ | ⟨K, K2⟩
  · exact ⟨0, .inl ⟨K.1, rfl⟩⟩
  · exact ⟨1, .inr (.inl ⟨.inr K.1, rfl⟩)⟩
  · rcases K2 with K2 | K2
    · exact ⟨1, .inr (.inl ⟨.inl K2.1, rfl⟩)⟩
    · obtain ⟨u, b, y⟩ := F.1 K K2
      exact ⟨4 + 2 * u, .inr (.inr (.inl ⟨K2.1, u, ⟨b, y⟩, rfl⟩))⟩
  · rcases K2 with K2 | K2
    · exact ⟨3, .inr (.inr (.inr (.inl ⟨K, K2.1, rfl⟩)))⟩
    · obtain ⟨u, b, y⟩ := F.2 K K2
      exact ⟨5 + 2 * u, .inr (.inr (.inr (.inr ⟨K, K2.1, u, ⟨b, y⟩, rfl⟩)))⟩
theorem rg_75 (V : VS_ h) (hc : 0 ≤ c ∧ c ≤ 7) (W : WI h c w) {l2 p e u : Int} (hp : 0 ≤ p) (he : e ≤ w 160 113) (K : KN (w 238) p e) (F : CNm nn h (6000 * c + p + 1) (e - p - 2) u) : ∀ (k : Nat) (i : Int), p < i → i < e → e - i < (k : Int) → Ok_ (qw_X13_typeAt_75 nn k l2 (6000 * c + p) (6000 * c + i) h) (fun x => TF h (6000 * c + e) x ∧ (¬ l2 = 91 → x.1 = 4 + 2 * u) ∧ (l2 = 91 → x.1 = 5 + 2 * u)) := by
  have g3 := gF_160_113 W.1
  have g98 := gF_160_98 V
  have fb := F.1
  obtain ⟨k1, k2, k3, k4⟩ := K
  intro k
  induction k with
  | zero => intro i a b hm; exfalso; omega
  | succ k ih =>
    intro i a b hm
    unfold qw_X13_typeAt_75
    refine ok_rd (by omega) (gA_226 V) ?_; intro v2 e2 _ _
    rw [W.2.2.1 i (by omega) (by omega)] at e2
    refine ok_if (fun C => ?_) (fun C => ?_)
    · have ei : i = e - 1 := by
        by_cases y : i < e - 1
        · exact absurd (e2.symm.trans C) (k4 i a y)
        · omega
      refine ok_add (by omega) ?_; intro v3 e3
      refine ok_xl ?_; intro h4 E4
      have V4 : VS_ h4 := by rw [E4]; exact wF_160_120 V (by omega)
      have N4 : N12 h h4 := fun x k w1 => by rw [E4, up_n w1]
      have f98 : h4 160 98 = h 160 98 := by rw [E4, up_n (by omega)]
      have f120 : h4 160 120 = v3 := by rw [E4, up_s]
      refine ok_add (by omega) ?_; intro v5 e5
      refine ok_sub (by omega) ?_; intro v6 e6
      refine ok_sub (by omega) ?_; intro v7 e7
      have F4 := cn_c (ny_ag (n12_ny N4)) F
      rw [← e5, show e - p - 2 = v7 by omega] at F4
      refine ok_sv (cn_number F4) ?_; intro u9 P9
      obtain ⟨q1, q2⟩ := P9
      rw [q1]
      refine ok_mul (by omega) ?_; intro v10 e10
      refine ok_add (by omega) ?_; intro v11 e11
      refine ok_if (fun D => ?_) (fun D => ?_)
      · refine ok_add (by omega) ?_; intro v12 e12
        exact ok_ret ⟨⟨V4, N4, by show h4 160 120 = _; omega, by show 0 ≤ v12 ∧ v12 < _; omega⟩, fun _ => by show v12 = _; omega, fun y => absurd y D⟩
      · refine ok_add (by omega) ?_; intro v12 e12
        exact ok_ret ⟨⟨V4, N4, by show h4 160 120 = _; omega, by show 0 ≤ v12 ∧ v12 < _; omega⟩, fun y => absurd y D, fun _ => by show v12 = _; omega⟩
    · have ei : i < e - 1 := by
        by_cases y : i < e - 1
        · exact y
        · exfalso
          have : i = e - 1 := by omega
          rw [this] at e2
          exact C (e2.trans k3)
      refine ok_add (by omega) ?_; intro v15 e15
      rw [show v15 = 6000 * c + (i + 1) by omega]
      exact ih (i + 1) (by omega) (by omega) (by omega)
/-- a kind's type is told -/
theorem rg_typeAt (hn : 1000000 ≤ nn) (V : VS_ h) (hc : 0 ≤ c ∧ c ≤ 7) (W : WI h c w) {p e t : Int} (hp : 0 ≤ p) (he : e ≤ w 160 113) (K : RTk (w 238) p e) (F : KTv nn h c (w 238) p e t) : Ok_ (qf_X13_typeAt nn (6000 * c + p) h) (fun u => TF h (6000 * c + e) u ∧ u.1 = t) := by
  have g3 := gF_160_113 W.1
  have g98 := gF_160_98 V
  have lt : p < e := by
    rcases K with K | K
    · omega
    · have := kd_lt K; omega
  unfold qf_X13_typeAt
  refine ok_rd (by omega) (gA_226 V) ?_; intro v24 e24 _ _
  rw [W.2.2.1 p (by omega) (by omega)] at e24
  refine ok_add (by omega) ?_; intro v25 e25
  refine ok_xl ?_; intro h26 E26
  have V26 : VS_ h26 := by rw [E26]; exact wF_160_120 V (by omega)
  have N26 : N12 h h26 := fun x k w1 => by rw [E26, up_n w1]
  have f120 : h26 160 120 = v25 := by rw [E26, up_s]
  have f98 : h26 160 98 = h 160 98 := by rw [E26, up_n (by omega)]
  have W26 : WI h26 c w := wi_k (ny_k (n12_ny N26)) W
  have one : ∀ s : Int, (0 ≤ s ∧ s < 20 + 2 * h 160 98) → e = p + 1 → s = t → Ok_ (some (s, h26)) (fun u => TF h (6000 * c + e) u ∧ u.1 = t) := fun s ht y z => ok_ret ⟨⟨V26, N26, by show h26 160 120 = _; omega, ht⟩, z⟩
  have con : ∀ u : Int × ms_M, TF h26 (6000 * c + e) u → TF h (6000 * c + e) u := fun u q => ⟨q.1, n12_tr N26 q.2.1, q.2.2.1, by have := q.2.2.2; rw [f98] at this; exact this⟩
  have sort : (w 238 p.toNat = 86 ∧ e = p + 1) ∨ (w 238 p.toNat = 90 ∧ e = p + 1) ∨ (w 238 p.toNat = 73 ∧ e = p + 1) ∨ (w 238 p.toNat = 76 ∧ KN (w 238) p e) ∨ (w 238 p.toNat = 91 ∧ KK (w 238) (p + 1) e) := by
    rcases K with K | K | ⟨_, K⟩ | K
    · exact .inl K
    · exact .inr (.inl K)
    · rcases K with K | K
      · exact .inr (.inr (.inl K))
      · exact .inr (.inr (.inr (.inl ⟨K.1, K⟩)))
    · exact .inr (.inr (.inr (.inr K)))
  rcases sort with ⟨s, y⟩ | ⟨s, y⟩ | ⟨s, y⟩ | ⟨s, y⟩ | ⟨s, y⟩
  · rw [if_neg (show ¬ v24 = 73 by omega), if_pos (show ¬ v24 = 90 by omega), if_neg (show ¬ ¬ v24 = 86 by omega)]
    exact one 0 (by omega) y (ktv_det (.inl ⟨s, rfl⟩) F)
  · rw [if_neg (show ¬ v24 = 73 by omega), if_neg (show ¬ ¬ v24 = 90 by omega)]
    exact one 1 (by omega) y (ktv_det (.inr (.inl ⟨.inr s, rfl⟩)) F)
  · rw [if_pos (show v24 = 73 by omega)]
    exact one 1 (by omega) y (ktv_det (.inr (.inl ⟨.inl s, rfl⟩)) F)
  · have ne := y.2.1
    obtain ⟨u, F1, F2⟩ : ∃ u : Int, CNm nn h (6000 * c + p + 1) (e - p - 2) u ∧ t = 4 + 2 * u := by
      rcases F with F | F | F | F | F
      · exfalso; omega
      · exfalso; omega
      · exact F.2
      · exfalso; omega
      · exfalso; omega
    rw [if_neg (show ¬ v24 = 73 by omega), if_pos (show ¬ v24 = 90 by omega), if_pos (show ¬ v24 = 86 by omega), if_pos (show ¬ v24 = 91 by omega)]
    unfold qj_X13_typeAt_49
    refine ok_rd (by omega) (gA_226 V26) ?_; intro v18 e18 _ _
    rw [W26.2.2.1 p (by omega) (by omega)] at e18
    rw [if_pos (show ¬ v18 = 73 by omega)]
    refine ok_add (by omega) ?_; intro v19 e19
    rw [show v19 = 6000 * c + (p + 1) by omega]
    refine ok_im (rg_75 V26 hc W26 hp he y (cn_c (ny_ag (n12_ny N26)) F1) nn (p + 1) (by omega) (by omega) (by omega)) (fun x q => ⟨con x q.1, ?_⟩)
    rw [q.2.1 (by omega)]; omega
  · rw [if_neg (show ¬ v24 = 73 by omega), if_pos (show ¬ v24 = 90 by omega), if_pos (show ¬ v24 = 86 by omega), if_neg (show ¬ ¬ v24 = 91 by omega)]
    refine ok_add (by omega) ?_; intro v27 e27
    rw [show v27 = 6000 * c + (p + 1) by omega]
    unfold qj_X13_typeAt_49
    refine ok_rd (by have := kk_lt y; omega) (gA_226 V26) ?_; intro v18 e18 _ _
    rw [W26.2.2.1 (p + 1) (by omega) (by have := kk_lt y; omega)] at e18
    rcases y with y | y
    · rw [if_neg (show ¬ ¬ v18 = 73 by omega)]
      refine ok_add (by omega) ?_; intro v20 e20
      refine ok_xl ?_; intro h21 E21
      exact ok_ret ⟨con _ ⟨by rw [E21]; exact wF_160_120 V26 (by omega), fun x k w1 => by show h21 x k = h26 x k; rw [E21, up_n w1], by show h21 160 120 = _; rw [E21, up_s]; omega, by show (0 : Int) ≤ 3 ∧ (3 : Int) < _; omega⟩, ktv_det (.inr (.inr (.inr (.inl ⟨s, y.1, rfl⟩)))) F⟩
    · have ne := y.2.1
      have y1 := y.1
      obtain ⟨u, F1, F2⟩ : ∃ u : Int, CNm nn h (6000 * c + p + 2) (e - p - 3) u ∧ t = 5 + 2 * u := by
        rcases F with F | F | F | F | F
        · exfalso; omega
        · exfalso; omega
        · exfalso; omega
        · exfalso; omega
        · exact F.2.2
      rw [if_pos (show ¬ v18 = 73 by omega)]
      refine ok_add (by omega) ?_; intro v19 e19
      rw [show v19 = 6000 * c + (p + 1 + 1) by omega]
      have F3 := cn_c (ny_ag (n12_ny N26)) F1
      rw [show 6000 * c + p + 2 = 6000 * c + (p + 1) + 1 by omega, show e - p - 3 = e - (p + 1) - 2 by omega] at F3
      refine ok_im (rg_75 V26 hc W26 (by omega) he y F3 nn (p + 1 + 1) (by omega) (by omega) (by omega)) (fun x q => ⟨con x q.1, ?_⟩)
      rw [q.2.2 (by omega)]; omega
/-- the type of class constant i -/
def CTv (nn : Nat) (h : ms_M) (c : Int) (w : ms_M) (i t : Int) : Prop := (¬ w 238 (pl w c (w 238 (pl w c i + 1).toNat) + 2).toNat = 91 ∧ ∃ u : Int, CNm nn h (6000 * c + pl w c (w 238 (pl w c i + 1).toNat) + 2) (w 238 (pl w c (w 238 (pl w c i + 1).toNat) + 1).toNat) u ∧ t = 4 + 2 * u) ∨ (w 238 (pl w c (w 238 (pl w c i + 1).toNat) + 2).toNat = 91 ∧ KTv nn h c (w 238) (pl w c (w 238 (pl w c i + 1).toNat) + 2) (pl w c (w 238 (pl w c i + 1).toNat) + 2 + w 238 (pl w c (w 238 (pl w c i + 1).toNat) + 1).toNat) t)
theorem ctv_c {i t : Int} (A : AGc h g) (F : CTv nn h c w i t) : CTv nn g c w i t := by
  rcases F with ⟨a, u, b, d⟩ | ⟨a, b⟩
  · exact .inl ⟨a, u, cn_c A b, d⟩
  · exact .inr ⟨a, ktv_c A b⟩
theorem ctv_det {i t t2 : Int} (F : CTv nn h c w i t) (G : CTv nn h c w i t2) : t = t2 := by
  rcases F with ⟨a, u, b, d⟩ | ⟨a, b⟩ <;> rcases G with ⟨a', u', b', d'⟩ | ⟨a', b'⟩
  · have := cn_det b b'; omega
  · exact absurd a' a
  · exact absurd a a'
  · exact ktv_det b b'
theorem ctv_rg {i t : Int} (V : VS_ h) (F : CTv nn h c w i t) : 0 ≤ t ∧ t < 20 + 2 * h 160 98 := by
  rcases F with ⟨a, u, b, d⟩ | ⟨a, b⟩
  · have := b.1; omega
  · exact ktv_rg V b
theorem ctv_ex {i : Int} (hc : 0 ≤ c ∧ c ≤ 7) (W : WI h c w) (t : CL w c i) (F : CFd nn h c w i) : ∃ t : Int, CTv nn h c w i t := by
  have ts := (wi_cl W hc t).2.2.2.2
  have ct := ts.2.2.2.2.2 rfl
  by_cases y : w 238 (pl w c (w 238 (pl w c i + 1).toNat) + 2).toNat = 91
  · have kd : KD (w 238) (pl w c (w 238 (pl w c i + 1).toNat) + 2) (pl w c (w 238 (pl w c i + 1).toNat) + 2 + w 238 (pl w c (w 238 (pl w c i + 1).toNat) + 1).toNat) := by
      rcases ct with k | k
      · exact k.2
      · exact absurd y k.1
    obtain ⟨t, k⟩ := ktv_ex (.inr kd) (F.2 y)
    exact ⟨t, .inr ⟨y, k⟩⟩
  · obtain ⟨u, b, e⟩ := F.1 y
    exact ⟨4 + 2 * u, .inl ⟨y, u, ⟨b, e⟩, rfl⟩⟩
theorem rg_typeOf (hn : 1000000 ≤ nn) (V : VS_ h) (hc : 0 ≤ c ∧ c ≤ 7) (W : WI h c w) {i t : Int} (cl : CL w c i) (F : CTv nn h c w i t) : Ok_ (qf_X13_typeOfClass nn c i h) (fun u => TF2 h u ∧ u.1 = t) := by
  have g98 := gF_160_98 V
  unfold CTv at F
  unfold qf_X13_typeOfClass
  refine ok_sv (rv_textOf V hc W cl) ?_; intro u2 P2
  obtain ⟨e2, t1, t2⟩ := P2
  rw [← e2] at F
  obtain ⟨a1, a2, a3, a4, a5⟩ := wi_tx W hc t1
  have ct := t2.2.2.2.2 rfl
  refine ok_mul (by omega) ?_; intro v3 e3
  refine ok_mul (by omega) ?_; intro v5 e5
  refine ok_add (by omega) ?_; intro v6 e6
  refine ok_rd (by omega) (gA_228 V) ?_; intro v7 e7 _ _
  rw [e6, e5, a2] at e7
  refine ok_add (by omega) ?_; intro v8 e8
  refine ok_add (by omega) ?_; intro v10 e10
  refine ok_rd (by omega) (gA_226 V) ?_; intro v11 e11 _ _
  rw [show v10 = 6000 * c + (pl w c u2 + 2) by omega, W.2.2.1 _ (by omega) (by omega)] at e11
  refine ok_if (fun C => ?_) (fun C => ?_)
  · refine ok_add (by omega) ?_; intro v12 e12
    refine ok_add (by omega) ?_; intro v14 e14
    refine ok_rd (by omega) (gA_226 V) ?_; intro v15 e15 _ _
    rw [show v14 = 6000 * c + pl w c u2 + 1 by omega, a5] at e15
    obtain ⟨u, F1, F2⟩ : ∃ u : Int, CNm nn h (6000 * c + pl w c u2 + 2) (w 238 (pl w c u2 + 1).toNat) u ∧ t = 4 + 2 * u := by
      rcases F with F | F
      · exact F.2
      · exact absurd (e11.trans F.1) C
    have fb := F1.1
    rw [show 6000 * c + pl w c u2 + 2 = v12 by omega, ← e15] at F1
    refine ok_sv (cn_number F1) ?_; intro u17 P17
    rw [P17.1]
    have q := P17.2
    refine ok_mul (by omega) ?_; intro v18 e18
    refine ok_add (by omega) ?_; intro v19 e19
    exact ok_ret ⟨⟨V, fun _ _ _ => rfl, by show 0 ≤ v19 ∧ v19 < _; omega⟩, by show v19 = _; omega⟩
  · have C : v11 = 91 := Decidable.not_not.1 C
    refine ok_add (by omega) ?_; intro v20 e20
    rw [show v20 = 6000 * c + (pl w c u2 + 2) by omega]
    have kd : KD (w 238) (pl w c u2 + 2) (pl w c u2 + 2 + w 238 (pl w c u2 + 1).toNat) := by
      rcases ct with y | y
      · exact y.2
      · exact absurd (e11.symm.trans C) y.1
    have F1 : KTv nn h c (w 238) (pl w c u2 + 2) (pl w c u2 + 2 + w 238 (pl w c u2 + 1).toNat) t := by
      rcases F with F | F
      · exact absurd (e11.symm.trans C) F.1
      · exact F.2
    refine ok_sv (rg_typeAt hn V hc W (by omega) (by omega) (.inr kd) F1) ?_; intro u22 P22
    exact ok_ret ⟨⟨P22.1.1, P22.1.2.1, P22.1.2.2.2⟩, P22.2⟩
theorem rg_kindType (hn : 1000000 ≤ nn) (V : VS_ h) (hc : 0 ≤ c ∧ c ≤ 7) (W : WI h c w) {i t : Int} (tx : TX w c i) (k : RTk (w 238) (pl w c i + 2) (pl w c i + 2 + w 238 (pl w c i + 1).toNat)) (F : KTv nn h c (w 238) (pl w c i + 2) (pl w c i + 2 + w 238 (pl w c i + 1).toNat) t) : Ok_ (qf_X13_kindType nn c i h) (fun u => TF2 h u ∧ u.1 = t) := by
  obtain ⟨a1, a2, a3, a4, a5⟩ := wi_tx W hc tx
  unfold qf_X13_kindType
  refine ok_mul (by omega) ?_; intro v1 e1
  refine ok_mul (by omega) ?_; intro v3 e3
  refine ok_add (by omega) ?_; intro v4 e4
  refine ok_rd (by omega) (gA_228 V) ?_; intro v5 e5 _ _
  rw [e4, e3, a2] at e5
  refine ok_add (by omega) ?_; intro v6 e6
  refine ok_add (by omega) ?_; intro v7 e7
  rw [show v7 = 6000 * c + (pl w c i + 2) by omega]
  refine ok_sv (rg_typeAt hn V hc W (by omega) (by omega) k F) ?_; intro u9 P9
  exact ok_ret ⟨⟨P9.1.1, P9.1.2.1, P9.1.2.2.2⟩, P9.2⟩
end
