section
variable {nn : Nat} {h g r : ms_M}
/-- how wide a token is at least -/
def wk (k : Int) : Int := if k = 13 then 5 else if k = 2 then 1 else 0
theorem wk_0 {k : Int} : 0 ≤ wk k ∧ wk k ≤ 5 := by
  unfold wk
  by_cases a : k = 13
  · rw [if_pos a]; omega
  · rw [if_neg a]
    by_cases b : k = 2
    · rw [if_pos b]; omega
    · rw [if_neg b]; omega
theorem wk_13 : wk 13 = 5 := by decide
theorem wk_2 : wk 2 = 1 := by decide
theorem wk_o {k : Int} (a : ¬ k = 13) (b : ¬ k = 2) : wk k = 0 := by unfold wk; rw [if_neg a, if_neg b]
/-- the word 'class' is five letters long -/
def K7 (h : ms_M) : Prop := 32 ≤ h 2 9 ∧ h 7 12 = 91 ∧ h 7 13 = 96
/-- tokens stand one behind the other -/
def TPt (h : ms_M) : Prop := ∀ i : Nat, (i : Int) + 1 < h 2 3 → h 4 i + wk (h 3 i) ≤ h 4 (i + 1)
/-- all tokens end before a -/
def TQt (h : ms_M) (a : Int) : Prop := ∀ i : Nat, (i : Int) < h 2 3 → h 4 i + wk (h 3 i) ≤ a
/-- r is h and one token more -/
def APt (k p : Int) (h r : ms_M) : Prop := (0 ≤ h 2 3 ∧ h 2 3 ≤ 3000) ∧ r 2 3 = h 2 3 + 1 ∧ r 3 (h 2 3).toNat = k ∧ r 4 (h 2 3).toNat = p ∧ ∀ i : Nat, (i : Int) < h 2 3 → r 3 i = h 3 i ∧ r 4 i = h 4 i
theorem ap_tp {k p : Int} (A : APt k p h r) (P : TPt h) (Q : TQt h p) : TPt r := by
  obtain ⟨a0, a1, a2, a3, a4⟩ := A
  intro i hi
  by_cases q : (i : Int) + 1 < h 2 3
  · have b := a4 i (by omega)
    have b2 := a4 (i + 1) (by omega)
    have p1 := P i q
    rw [b.1, b.2, b2.2]; exact p1
  · have b := a4 i (by omega)
    have e : i + 1 = (h 2 3).toNat := by omega
    have q1 := Q i (by omega)
    rw [b.1, b.2, e, a3]; exact q1
theorem ap_tq {k p a b : Int} (A : APt k p h r) (Q : TQt h a) (hb : a ≤ b) (hp : p + wk k ≤ b) : TQt r b := by
  obtain ⟨a0, a1, a2, a3, a4⟩ := A
  intro i hi
  by_cases q : (i : Int) < h 2 3
  · have b := a4 i q
    have q1 := Q i q
    rw [b.1, b.2]; omega
  · have e : i = (h 2 3).toNat := by omega
    rw [e, a2, a3]; exact hp
theorem tq_le {a b : Int} (Q : TQt h a) (hb : a ≤ b) : TQt h b := fun i hi => by have := Q i hi; omega
theorem ap_addToken {k p v : Int} (hc : 0 ≤ h 2 3 ∧ h 2 3 ≤ 3000) : Pc (qf_X9_addToken nn k p v h) (APt k p h) := by
  unfold qf_X9_addToken
  refine pc_if (fun c => absurd c (by omega)) (fun _ => ?_)
  refine pc_wA ?_; intro i1 i2 h6 e6
  refine pc_wA ?_; intro j1 j2 h9 e9
  refine pc_wA ?_; intro k1 k2 h12 e12
  have c6 : h6 2 3 = h 2 3 := by rw [e6]; exact up_n (by omega)
  have c9 : h9 2 3 = h 2 3 := by rw [e9, up_n (by omega)]; exact c6
  have c12 : h12 2 3 = h 2 3 := by rw [e12, up_n (by omega)]; exact c9
  refine pc_add (by omega) ?_; intro v14 e14
  refine pc_xl ?_; intro h15 e15
  refine pc_ret ?_
  have r3 : ∀ i : Nat, h15 3 i = h6 3 i := fun i => by
    rw [e15, up_n (by omega), e12, up_n (by omega), e9, up_n (by omega)]
  have r4 : ∀ i : Nat, h15 4 i = h9 4 i := fun i => by
    rw [e15, up_n (by omega), e12, up_n (by omega)]
  refine ⟨hc, ?_, ?_, ?_, ?_⟩
  · rw [e15, up_s]; omega
  · rw [r3, e6, up_s]
  · rw [r4, e9, c6, up_s]
  · intro i hi
    refine ⟨?_, ?_⟩
    · rw [r3, e6, up_n (by omega)]
    · rw [r4, e9, up_n (by omega), e6, up_n (by omega)]
theorem k7_addToken {k p v : Int} (e : qf_X9_addToken nn k p v h = some r) (K : K7 h) : K7 r := by
  have a : r 2 9 = h 2 9 := (ff_X9_addToken nn) _ e 2 9 rfl
  have b : r 7 12 = h 7 12 := (ff_X9_addToken nn) _ e 7 12 (nw_ar rfl _)
  have c : r 7 13 = h 7 13 := (ff_X9_addToken nn) _ e 7 13 (nw_ar rfl _)
  unfold K7; rw [a, b, c]; exact K
theorem pc_cpS {α : Type} {Q : α → Prop} {M : ms_M} {a b : Nat} {sp dp n : Int} {G : ms_M → Option α} (q : ∀ z, z = cp_M M a sp.toNat b dp.toNat n.toNat → Pc (G z) Q) : Pc (cp_S a sp b dp n M G) Q := fun r e => q _ rfl r (cp_i e)
theorem pc_rT {α : Type} {Q : α → Prop} {M : ms_M} {c : Nat} {j : Int} {G : Int → Option α} (q : ∀ v, v = M c j.toNat → Pc (G v) Q) : Pc (rd_T c j M G) Q := fun r e => q _ rfl r (rt_i e)
theorem cp_ne {M : ms_M} {a sp b dp n c k : Nat} (q : ¬ c = b) : cp_M M a sp b dp n c k = M c k := by
  unfold cp_M; rw [if_neg (by omega)]
/-- a name that is closed: the earlier ones stay -/
theorem k7_closeName {a : Int} (K : K7 h) : Pc (qf_X9_closeName nn a h) (fun r => K7 r ∧ r 2 9 = h 2 9 + 1) := by
  obtain ⟨k1, k2, k3⟩ := K
  unfold qf_X9_closeName
  refine pc_rA ?_; intro i1 i2 v3 e3
  refine pc_xl ?_; intro v5 e5
  refine pc_se ?_; intro u6 e6
  refine pc_rA ?_; intro j1 j2 v10 e10
  refine pc_wA ?_; intro l1 l2 h11 e11
  refine pc_wA ?_; intro m1 m2 h14 e14
  have c14 : h14 2 9 = h 2 9 := by rw [e14, up_n (by omega), e11, up_n (by omega)]
  refine pc_add (by omega) ?_; intro v16 e16
  refine pc_xl ?_; intro h17 e17
  have c17 : h17 2 9 = h 2 9 + 1 := by rw [e17, up_s]; omega
  refine pc_wA ?_; intro n1 n2 h20 e20
  have r7 : ∀ k : Nat, k < 32 → h20 7 k = h 7 k := fun k hk => by
    rw [e20, up_n (by omega), e17, up_n (by omega), e14, up_n (by omega), e11, up_n (by omega)]
  have r9 : h20 2 9 = h 2 9 + 1 := by rw [e20, up_n (by omega)]; exact c17
  refine pc_ret ⟨⟨?_, ?_, ?_⟩, r9⟩
  · omega
  · rw [r7 12 (by omega)]; exact k2
  · rw [r7 13 (by omega)]; exact k3
theorem n_12 : ¬ (0 : Int) = 12 := by decide
theorem k7_79 {l1 : Nat} {l2 l3 : Int} (K : K7 h) : Pc (qj_X9_nameOf_79 nn l1 l2 l3 h) (fun u => K7 u.2 ∧ ¬ u.1 = 12) := by
  unfold qj_X9_nameOf_79
  refine pc_rA ?_; intro i1 i2 v3 e3
  refine pc_if (fun _ => pc_ret ⟨K, n_12⟩) (fun c => ?_)
  refine pc_xl ?_; intro v5 e5
  refine pc_if (fun _ => ?_) (fun _ => pc_ret ⟨K, n_12⟩)
  refine pc_cpS ?_; intro h9 e9
  have K9 : K7 h9 := by
    unfold K7; rw [e9, cp_ne (by omega), cp_ne (by omega), cp_ne (by omega)]; exact K
  refine pc_xl ?_; intro v10 e10
  refine pc_sv (k7_closeName K9) ?_; intro u12 q12
  have k := K9.1
  have c9 : h9 2 9 = h 2 9 := by rw [e9, cp_ne (by omega)]
  refine pc_sub (by omega) ?_; intro v14 e14
  refine pc_ret ⟨q12.1, ?_⟩
  show ¬ v14 = 12
  omega
theorem k7_isNamed {l1 : Nat} {l2 l3 l4 : Int} (K : K7 h) : Pc (qf_X9_isNamed nn l4 l1 l2 l3 h) (fun u => u = 0 ∨ ¬ l4 = 12 ∨ l3 = 5) := by
  obtain ⟨k1, k2, k3⟩ := K
  unfold qf_X9_isNamed
  refine pc_rA ?_; intro i1 i2 v10 e10
  refine pc_add (by omega) ?_; intro v12 e12
  refine pc_rA ?_; intro j1 j2 v13 e13
  refine pc_xl ?_; intro v14 e14
  refine pc_if (fun c => ?_) (fun _ => pc_ret (.inl rfl))
  intro u eu
  by_cases q : l4 = 12
  · refine .inr (.inr ?_)
    have z1 : v10 = 91 := by rw [e10, q]; exact k2
    have z2 : v13 = 96 := by rw [e13, e12, q]; exact k3
    rw [z1, z2, oq_sub_eq (by omega) (by omega) (by omega)] at e14
    omega
  · exact .inr (.inl q)
theorem k7_35 {l1 : Nat} {l2 l3 : Int} (K : K7 h) : ∀ (k : Nat) (l4 l5 : Int), Pc (qw_X9_nameOf_35 nn k l1 l2 l3 l4 l5 h) (fun u => K7 u.2 ∧ (u.1 = 12 → l3 = 5)) := by
  intro k
  induction k with
  | zero => intro l4 l5; exact pc_none
  | succ k ih =>
    intro l4 l5
    unfold qw_X9_nameOf_35
    have H := k7_79 (nn := nn) (l1 := l1) (l2 := l2) (l3 := l3) K
    refine pc_if (fun _ => pc_imp H (fun u q => ⟨q.1, fun z => absurd z q.2⟩)) (fun _ => ?_)
    refine pc_if (fun _ => pc_imp H (fun u q => ⟨q.1, fun z => absurd z q.2⟩)) (fun _ => ?_)
    refine pc_sv (k7_isNamed K) ?_; intro u18 q18
    refine pc_if (fun _ => ?_) (fun c => ?_)
    · refine pc_rA ?_; intro i1 i2 v20 e20
      refine pc_xl ?_; intro v21 e21
      exact ih v20 v21
    · refine pc_ret ⟨K, fun z => ?_⟩
      rcases q18 with q | q | q
      · exact absurd q c
      · exact absurd z q
      · exact q
theorem k7_nameOf {a1 : Nat} {a2 a3 : Int} (K : K7 h) : Pc (qf_X9_nameOf nn a1 a2 a3 h) (fun u => K7 u.2 ∧ (u.1 = 12 → a3 = 5)) := by
  unfold qf_X9_nameOf
  refine pc_if (fun _ => pc_ret ⟨K, fun z => absurd z n_12⟩) (fun _ => ?_)
  refine pc_if (fun _ => pc_ret ⟨K, fun z => absurd z n_12⟩) (fun _ => ?_)
  refine pc_xl ?_; intro v25 e25
  refine pc_lS ?_; intro v26 e26
  refine pc_if (fun _ => ?_) (fun _ => pc_ret ⟨K, fun z => absurd z n_12⟩)
  refine pc_se ?_; intro u28 e28
  refine pc_rA ?_; intro i1 i2 v29 e29
  exact k7_35 K _ _ _
/-- what the reading of a token at p, before z, leaves -/
def RTw (p z : Int) (h : ms_M) : Int × ms_M → Prop := fun u => K7 u.2 ∧ ((u.1 = 0 ∧ u.2 2 3 = h 2 3 ∧ ∀ i : Nat, u.2 3 i = h 3 i ∧ u.2 4 i = h 4 i) ∨ (0 ≤ u.1 ∧ u.1 ≤ 3000 ∧ ∃ k, APt k p h u.2 ∧ wk k ≤ u.1 ∧ p + wk k ≤ z))
theorem ap_k {k p : Int} {g : ms_M} (A : APt k p g r) (c : g 2 3 = h 2 3) (s : ∀ i : Nat, g 3 i = h 3 i ∧ g 4 i = h 4 i) : APt k p h r := by
  obtain ⟨a0, a1, a2, a3, a4⟩ := A
  rw [c] at a0 a1 a2 a3 a4
  exact ⟨a0, a1, a2, a3, fun i hi => by rw [(a4 i hi).1, (a4 i hi).2]; exact s i⟩
theorem rtw_89 {l3 l5 l6 s0 z : Int} (K : K7 h) (hc : 0 ≤ h 2 3 ∧ h 2 3 ≤ 3000) (h5 : 0 ≤ l5 ∧ l5 ≤ 3000) (hw : wk s0 ≤ l5 ∧ l3 + wk s0 ≤ z) : Pc (qj_X9_scanWord_89 nn l3 l5 l6 s0 h) (RTw l3 z h) := by
  unfold qj_X9_scanWord_89
  refine pc_se ?_; intro u2 e2
  exact pc_ret ⟨k7_addToken e2 K, .inr ⟨h5.1, h5.2, s0, ap_addToken hc _ e2, hw⟩⟩
theorem rtw_69 {l3 l5 l6 s0 z : Int} (K : K7 h) (hc : 0 ≤ h 2 3 ∧ h 2 3 ≤ 3000) (h5 : 1 ≤ l5 ∧ l5 ≤ 3000) (hz : l3 + l5 ≤ z) (hs : s0 = 0 ∨ (9 ≤ l6 ∧ l6 < 31 ∧ (l6 = 12 → l5 = 5))) : Pc (qj_X9_scanWord_69 nn l3 l5 l6 s0 h) (RTw l3 z h) := by
  unfold qj_X9_scanWord_69
  refine pc_if (fun _ => rtw_89 K hc (by omega) ?_) (fun c => ?_)
  · rw [wk_2]; omega
  · obtain ⟨s1, s2, s3⟩ : 9 ≤ l6 ∧ l6 < 31 ∧ (l6 = 12 → l5 = 5) := by
      rcases hs with q | q
      · exact absurd q c
      · exact q
    refine pc_add (by omega) ?_; intro v3 e3
    refine pc_sub (by omega) ?_; intro v4 e4
    refine rtw_89 K hc (by omega) ?_
    by_cases q : v4 = 13
    · have := s3 (by omega)
      rw [q, wk_13]; omega
    · rw [wk_o q (by omega)]; omega
theorem rtw_25 {l3 l4 z : Int} (K : K7 h) (hc : 0 ≤ h 2 3 ∧ h 2 3 ≤ 3000) (hl : 0 ≤ l3 ∧ l3 + 1 ≤ l4 ∧ l4 ≤ z ∧ z ≤ 3000) : Pc (qj_X9_scanWord_25 nn l3 l4 h) (RTw l3 z h) := by
  unfold qj_X9_scanWord_25
  refine pc_sub (by omega) ?_; intro v6 e6
  refine pc_if (fun _ => ?_) (fun _ => pc_ret ⟨K, .inl ⟨rfl, rfl, fun _ => ⟨rfl, rfl⟩⟩⟩)
  refine pc_se ?_; intro u8 e8
  have q8 := k7_nameOf (nn := nn) (a1 := 1) (a2 := l3) (a3 := v6) K _ e8
  have c8 : u8.2 2 3 = h 2 3 := (ff_X9_nameOf nn) _ e8 2 3 rfl
  have s8 : ∀ i : Nat, u8.2 3 i = h 3 i ∧ u8.2 4 i = h 4 i := fun i => ⟨(ff_X9_nameOf nn) _ e8 3 i (nw_ar rfl i), (ff_X9_nameOf nn) _ e8 4 i (nw_ar rfl i)⟩
  have T : ∀ u, RTw l3 z u8.2 u → RTw l3 z h u := fun u q => by
    refine ⟨q.1, ?_⟩
    rcases q.2 with ⟨a, b, d⟩ | ⟨a, b, k, A, d⟩
    · exact .inl ⟨a, by rw [b, c8], fun i => by rw [(d i).1, (d i).2]; exact s8 i⟩
    · exact .inr ⟨a, b, k, ap_k A c8 s8, d⟩
  have F : ∀ w : Int, Pc (qj_X9_scanWord_68 nn l3 v6 w u8.2) (RTw l3 z h) := fun w => by
    unfold qj_X9_scanWord_68
    exact pc_imp (rtw_69 q8.1 (by omega) (by omega) (by omega) (.inl rfl)) T
  refine pc_if (fun _ => F _) (fun c1 => ?_)
  refine pc_if (fun _ => F _) (fun c2 => ?_)
  exact pc_imp (rtw_69 q8.1 (by omega) (by omega) (by omega) (.inr ⟨by omega, by omega, q8.2⟩)) T
theorem rtw_w3 {l2 l3 : Int} (K : K7 h) (hc : 0 ≤ h 2 3 ∧ h 2 3 ≤ 3000) (hl : 0 ≤ l3 ∧ l2 ≤ 3000) : ∀ (k : Nat) (l4 : Int), l3 + 1 ≤ l4 ∧ l4 ≤ l2 → Pc (qw_X9_scanWord_3 nn k l2 l3 l4 h) (RTw l3 l2 h) := by
  intro k
  induction k with
  | zero => intro l4 _; exact pc_none
  | succ k ih =>
    intro l4 h4
    unfold qw_X9_scanWord_3
    refine pc_if (fun _ => rtw_25 K hc (by omega)) (fun c => ?_)
    refine pc_rA ?_; intro i1 i2 v12 e12
    refine pc_se ?_; intro u13 e13
    refine pc_if (fun _ => rtw_25 K hc (by omega)) (fun _ => ?_)
    refine pc_add (by omega) ?_; intro v14 e14
    exact ih v14 (by omega)
theorem np_letter {c u w : Int} (a : qf_X9_isLetter nn c h = some u) (hu : ¬ u = 0) (e : qf_X9_isNamePart nn c h = some w) : ¬ w = 0 := by
  unfold qf_X9_isNamePart at e
  rw [a, mx_svs, if_pos hu] at e
  cases e; decide
theorem rtw_word {a2 a3 : Int} (K : K7 h) (hc : 0 ≤ h 2 3 ∧ h 2 3 ≤ 3000) (hl : 0 ≤ a3 ∧ a3 < a2 ∧ a2 ≤ 3000) {u : Int} (a : qf_X9_isLetter nn (h 1 a3.toNat) h = some u) (hu : ¬ u = 0) : Pc (qf_X9_scanWord nn a2 a3 h) (RTw a3 a2 h) := by
  unfold qf_X9_scanWord
  intro r e
  cases nn with
  | zero => cases e
  | succ k =>
    unfold qw_X9_scanWord_3 at e
    rw [if_neg (by omega)] at e
    replace e := rd_i e
    obtain ⟨u13, e13, e⟩ := sv_i e
    rw [if_neg (np_letter a hu e13)] at e
    refine pc_add (Q := RTw a3 a2 h) (by omega) ?_ r e
    intro v14 e14
    exact rtw_w3 K hc (by omega) k v14 (by omega)
theorem rtw_96 {l3 l4 l6 l7 s0 z : Int} (K : K7 h) (hc : 0 ≤ h 2 3 ∧ h 2 3 ≤ 3000) (hl : 0 ≤ l3 ∧ l3 ≤ l6 ∧ l6 ≤ z ∧ z ≤ 3000) : Pc (qj_X9_scanNumber_96 nn l3 l4 l6 l7 s0 h) (RTw l3 z h) := by
  have Z : Pc (some ((0 : Int), h)) (RTw l3 z h) := pc_ret ⟨K, .inl ⟨rfl, rfl, fun _ => ⟨rfl, rfl⟩⟩⟩
  unfold qj_X9_scanNumber_96
  refine pc_if (fun _ => Z) (fun _ => pc_if (fun _ => Z) (fun _ => ?_))
  refine pc_xl ?_; intro v1 e1
  refine pc_if (fun _ => ?_) (fun _ => Z)
  refine pc_xl ?_; intro v2 e2
  refine pc_se ?_; intro u4 e4
  refine pc_sub (by omega) ?_; intro v5 e5
  refine pc_ret ⟨k7_addToken e4 K, .inr ⟨?_, ?_, 3, ap_addToken hc _ e4, ?_, ?_⟩⟩
  · show 0 ≤ v5; omega
  · show v5 ≤ 3000; omega
  · show wk 3 ≤ v5
    rw [wk_o (by decide) (by decide)]; omega
  · rw [wk_o (by decide) (by decide)]; omega
theorem rtw_73 {l2 l3 l4 l6 s0 : Int} (K : K7 h) (hc : 0 ≤ h 2 3 ∧ h 2 3 ≤ 3000) (hl : 0 ≤ l3 ∧ l3 ≤ l6 ∧ l6 ≤ l2 ∧ l2 ≤ 3000) : Pc (qj_X9_scanNumber_73 nn l2 l3 l4 l6 s0 h) (RTw l3 l2 h) := by
  unfold qj_X9_scanNumber_73
  have Z : Pc (qj_X9_scanNumber_95 nn l3 l4 l6 s0 h) (RTw l3 l2 h) := by
    unfold qj_X9_scanNumber_95; exact rtw_96 K hc hl
  refine pc_if (fun _ => Z) (fun _ => ?_)
  refine pc_rA ?_; intro i1 i2 v9 e9
  refine pc_se ?_; intro u10 e10
  exact pc_if (fun _ => Z) (fun _ => rtw_96 K hc hl)
theorem rtw_52 {l2 l3 l4 l6 : Int} (K : K7 h) (hc : 0 ≤ h 2 3 ∧ h 2 3 ≤ 3000) (hl : 0 ≤ l3 ∧ l3 ≤ l6 ∧ l6 ≤ l2 ∧ l2 ≤ 3000) : Pc (qj_X9_scanNumber_52 nn l2 l3 l4 l6 h) (RTw l3 l2 h) := by
  unfold qj_X9_scanNumber_52
  have Z : Pc (qj_X9_scanNumber_72 nn l2 l3 l4 l6 h) (RTw l3 l2 h) := by
    unfold qj_X9_scanNumber_72; exact rtw_73 K hc hl
  refine pc_rA ?_; intro i1 i2 v13 e13
  refine pc_if (fun _ => Z) (fun _ => ?_)
  refine pc_xl ?_; intro v14 e14
  exact pc_if (fun _ => Z) (fun _ => rtw_73 K hc hl)
theorem rtw_6 {l2 l3 : Int} (K : K7 h) (hc : 0 ≤ h 2 3 ∧ h 2 3 ≤ 3000) (hl : 0 ≤ l3 ∧ l2 ≤ 3000) : ∀ (k : Nat) (l4 l6 : Int), l3 ≤ l6 ∧ l6 ≤ l2 → Pc (qw_X9_scanNumber_6 nn k l2 l3 l4 l6 h) (RTw l3 l2 h) := by
  intro k
  induction k with
  | zero => intro l4 l6 _; exact pc_none
  | succ k ih =>
    intro l4 l6 h6
    unfold qw_X9_scanNumber_6
    refine pc_if (fun _ => rtw_52 K hc (by omega)) (fun c => ?_)
    refine pc_rA ?_; intro i1 i2 v17 e17
    refine pc_se ?_; intro u18 e18
    refine pc_if (fun _ => rtw_52 K hc (by omega)) (fun _ => ?_)
    refine pc_c6 (fun v19 => ?_)
    refine pc_rA ?_; intro j1 j2 v20 e20
    refine pc_xl ?_; intro v21 e21
    refine pc_c6 (fun v22 => ?_)
    refine pc_c6 (fun v23 => ?_)
    refine pc_xl ?_; intro v24 e24
    refine pc_add (by omega) ?_; intro v25 e25
    exact ih v24 v25 (by omega)
theorem rtw_sl {a : Int} : Pc (qf_X9_signLength nn a h) (fun u => 0 ≤ u ∧ u ≤ 3 ∧ (a = 0 → u = 0)) := by
  have Z : ¬ a = 0 → Pc (qj_X9_signLength_96 nn h) (fun u => 0 ≤ u ∧ u ≤ 3 ∧ (a = 0 → u = 0)) := fun q => by
    unfold qj_X9_signLength_96; exact pc_ret ⟨by decide, by decide, fun z => absurd z q⟩
  unfold qf_X9_signLength
  refine pc_if (fun _ => pc_ret ⟨by decide, by decide, fun _ => rfl⟩) (fun q => ?_)
  refine pc_if (fun _ => Z q) (fun _ => pc_if (fun _ => Z q) (fun _ => pc_if (fun _ => Z q) (fun _ => pc_if (fun _ => Z q) (fun _ => pc_if (fun _ => Z q) (fun _ => pc_if (fun _ => Z q) (fun _ => pc_if (fun _ => ?_) (fun _ => pc_if (fun _ => Z q) (fun _ => pc_if (fun _ => Z q) (fun _ => ?_)))))))))
  · exact pc_ret ⟨by decide, by decide, fun z => absurd z q⟩
  · exact pc_ret ⟨by decide, by decide, fun z => absurd z q⟩
theorem rtw_110 {l3 s0 z : Int} (K : K7 h) (hc : 0 ≤ h 2 3 ∧ h 2 3 ≤ 3000) (hl : l3 ≤ z) (hs : ¬ s0 = 13 ∧ ¬ s0 = 2) : Pc (qj_X9_scanToken_110 nn l3 s0 h) (RTw l3 z h) := by
  unfold qj_X9_scanToken_110
  refine pc_if (fun c => ?_) (fun c => ?_)
  · refine pc_sv rtw_sl ?_; intro u1 q1
    exact pc_ret ⟨K, .inl ⟨q1.2.2 c, rfl, fun _ => ⟨rfl, rfl⟩⟩⟩
  · refine pc_se ?_; intro u3 e3
    refine pc_sv rtw_sl ?_; intro u4 q4
    refine pc_ret ⟨k7_addToken e3 K, .inr ⟨q4.1, ?_, s0, ap_addToken hc _ e3, ?_, ?_⟩⟩
    · show u4 ≤ 3000; omega
    · rw [wk_o hs.1 hs.2]; exact q4.1
    · rw [wk_o hs.1 hs.2]; omega
theorem sg_plain {a : Int} : Pc (qf_X9_plainSignOf nn a h) (fun u => u = 0 ∨ 40 ≤ u) := by
  have R : ∀ v : Int, 40 ≤ v → Pc (some v) (fun u : Int => u = 0 ∨ 40 ≤ u) := fun v q => pc_ret (.inr q)
  unfold qf_X9_plainSignOf
  iterate 18 refine pc_if (fun _ => R _ (by decide)) (fun _ => ?_)
  exact pc_ret (.inl rfl)
theorem sg_sign {a b : Int} : Pc (qf_X9_signOf nn a b h) (fun u => u = 0 ∨ 40 ≤ u) := by
  have R : ∀ v : Int, 40 ≤ v → Pc (some v) (fun u : Int => u = 0 ∨ 40 ≤ u) := fun v q => pc_ret (.inr q)
  unfold qf_X9_signOf
  refine pc_if (fun _ => pc_if (fun _ => R _ (by decide)) (fun _ => R _ (by decide))) (fun _ => ?_)
  refine pc_if (fun _ => pc_if (fun _ => R _ (by decide)) (fun _ => R _ (by decide))) (fun _ => ?_)
  refine pc_if (fun _ => pc_if (fun _ => pc_if (fun _ => R _ (by decide)) (fun _ => R _ (by decide))) (fun _ => R _ (by decide))) (fun _ => ?_)
  refine pc_if (fun _ => pc_if (fun _ => R _ (by decide)) (fun _ => R _ (by decide))) (fun _ => ?_)
  refine pc_if (fun _ => pc_if (fun _ => pc_if (fun _ => R _ (by decide)) (fun _ => R _ (by decide))) (fun _ => R _ (by decide))) (fun _ => ?_)
  refine pc_if (fun _ => pc_if (fun _ => R _ (by decide)) (fun _ => R _ (by decide))) (fun _ => ?_)
  refine pc_sv sg_plain ?_; intro u1 q1
  exact pc_ret q1
theorem rtw_103 {l3 l4 l5 z : Int} (K : K7 h) (hc : 0 ≤ h 2 3 ∧ h 2 3 ≤ 3000) (hl : l3 ≤ z) : Pc (qj_X9_scanToken_103 nn l3 l4 l5 h) (RTw l3 z h) := by
  unfold qj_X9_scanToken_103
  refine pc_sv sg_sign ?_; intro u6 q6
  exact rtw_110 K hc hl ⟨by omega, by omega⟩
theorem rtw_84 {l3 l4 l5 s0 z : Int} (K : K7 h) (hc : 0 ≤ h 2 3 ∧ h 2 3 ≤ 3000) (hl : l3 ≤ z) : Pc (qj_X9_scanToken_84 nn l3 l4 l5 s0 h) (RTw l3 z h) := by
  unfold qj_X9_scanToken_84
  exact pc_if (fun _ => rtw_103 K hc hl) (fun _ => pc_if (fun _ => rtw_103 K hc hl) (fun _ => rtw_110 K hc hl ⟨by decide, by decide⟩))
theorem rtw_53 {l2 l3 l4 s0 z : Int} (K : K7 h) (hc : 0 ≤ h 2 3 ∧ h 2 3 ≤ 3000) (hl : l3 ≤ z) : Pc (qj_X9_scanToken_53 nn l2 l3 l4 s0 h) (RTw l3 z h) := by
  have Z : Pc (qj_X9_scanToken_83 nn l3 l4 s0 h) (RTw l3 z h) := by
    unfold qj_X9_scanToken_83; exact rtw_84 K hc hl
  unfold qj_X9_scanToken_53
  refine pc_if (fun _ => Z) (fun _ => ?_)
  refine pc_xl ?_; intro v9 e9
  refine pc_if (fun _ => Z) (fun _ => ?_)
  refine pc_xl ?_; intro v10 e10
  refine pc_rA ?_; intro i1 i2 v11 e11
  exact pc_if (fun _ => Z) (fun _ => rtw_84 K hc hl)
theorem rtw_token {a2 a3 : Int} (K : K7 h) (hc : 0 ≤ h 2 3 ∧ h 2 3 ≤ 3000) (hl : 0 ≤ a3 ∧ a3 < a2 ∧ a2 ≤ 3000) : Pc (qf_X9_scanToken nn a2 a3 h) (RTw a3 a2 h) := by
  unfold qf_X9_scanToken
  refine pc_rA ?_; intro i1 i2 v15 e15
  refine pc_se ?_; intro u16 e16
  refine pc_if (fun _ => ?_) (fun c => ?_)
  · refine pc_se ?_; intro u17 e17
    refine pc_if (fun _ => ?_) (fun _ => ?_)
    · refine pc_xl ?_; intro v18 e18
      refine pc_if (fun _ => rtw_53 K hc (by omega)) (fun _ => ?_)
      refine pc_xl ?_; intro v19 e19
      refine pc_rA ?_; intro j1 j2 v20 e20
      exact rtw_53 K hc (by omega)
    · refine pc_sv (P := RTw a3 a2 h) ?_ ?_
      · unfold qf_X9_scanNumber
        exact rtw_6 K hc (by omega) _ _ _ (by omega)
      · intro u23 q23
        exact pc_ret q23
  · rw [e15] at e16
    refine pc_sv (rtw_word K hc hl e16 c) ?_; intro u26 q26
    exact pc_ret q26
theorem bb_45 {qk : Int → Int → Int → ms_M → Option Int} {l1 l3 l4 l5 : Int} (hl : 0 ≤ l3 ∧ l3 < l1 ∧ l1 ≤ 3000) (hk : ∀ a b : Int, a = l3 + 1 → Pc (qk l1 a b h) (fun u => l3 ≤ u)) : Pc (qj_X9_behindBlanks_45 nn qk l1 l3 l4 l5 h) (fun u => l3 ≤ u) := by
  unfold qj_X9_behindBlanks_45
  refine pc_if (fun _ => pc_if (fun _ => ?_) (fun _ => pc_if (fun _ => ?_) (fun _ => pc_ret ?_))) (fun _ => ?_)
  · refine pc_add (by omega) ?_; intro v1 e1
    exact hk _ _ e1
  · refine pc_add (by omega) ?_; intro v1 e1
    exact hk _ _ e1
  · exact Int.le_refl _
  · refine pc_add (by omega) ?_; intro v1 e1
    exact hk _ _ e1
theorem bb_5 {l1 : Int} (hl : l1 ≤ 3000) : ∀ (k : Nat) (l3 l4 : Int), 0 ≤ l3 → Pc (qw_X9_behindBlanks_5 nn k l1 l3 l4 h) (fun u => l3 ≤ u) := by
  intro k
  induction k with
  | zero => intro l3 l4 _; exact pc_none
  | succ k ih =>
    intro l3 l4 h3
    have H : ∀ a b : Int, a = l3 + 1 → Pc (qw_X9_behindBlanks_5 nn k l1 a b h) (fun u => l3 ≤ u) := fun a b e => pc_imp (ih a b (by omega)) (fun u q => by omega)
    unfold qw_X9_behindBlanks_5
    refine pc_if (fun _ => pc_ret (Int.le_refl _)) (fun c => ?_)
    refine pc_rA ?_; intro i1 i2 v7 e7
    refine pc_if (fun _ => bb_45 (by omega) H) (fun _ => ?_)
    refine pc_xl ?_; intro v8 e8
    refine pc_if (fun _ => bb_45 (by omega) H) (fun _ => ?_)
    refine pc_xl ?_; intro v9 e9
    refine pc_rA ?_; intro j1 j2 v10 e10
    refine pc_if (fun _ => bb_45 (by omega) H) (fun _ => ?_)
    refine pc_add (by omega) ?_; intro v11 e11
    exact H v11 1 e11
/-- what scan leaves: tokens in their order, within the text -/
def TOw (z : Int) (h : ms_M) : Prop := K7 h ∧ TPt h ∧ TQt h z
theorem to_102 {z : Int} (K : K7 h) (hc : 0 ≤ h 2 3 ∧ h 2 3 ≤ 3000) (P : TPt h) (Q : TQt h z) : Pc (qj_X9_scan_102 nn z h) (TOw z) := by
  unfold qj_X9_scan_102
  refine pc_se ?_; intro u2 e2
  have A := ap_addToken (nn := nn) (k := 0) (p := z) (v := 0) hc _ e2
  exact pc_ret ⟨k7_addToken e2 K, ap_tp A P Q, ap_tq A Q (Int.le_refl _) (by rw [wk_o (by decide) (by decide)]; omega)⟩
theorem to_51 {z : Int} (hz : z ≤ 3000) : ∀ (k : Nat) (a n : Int) (h : ms_M), K7 h → (0 ≤ h 2 3 ∧ h 2 3 ≤ n) → n ≤ 3000 → 0 ≤ a → TPt h → TQt h a → TQt h z → Pc (qw_X9_scan_51 nn k z a n h) (TOw z) := by
  intro k
  induction k with
  | zero => intros; exact pc_none
  | succ k ih =>
    intro a n h K hc hn ha P Q Qz
    unfold qw_X9_scan_51
    refine pc_if (fun _ => to_102 K (by omega) P Qz) (fun c1 => ?_)
    refine pc_if (fun _ => to_102 K (by omega) P Qz) (fun c2 => ?_)
    refine pc_sv (rtw_token K (by omega) (by omega)) ?_; intro u4 q4
    obtain ⟨K4, q4⟩ := q4
    refine pc_if (fun c3 => ?_) (fun c3 => ?_)
    · rcases q4 with ⟨b, -⟩ | ⟨b1, b2, kd, A, b3, b4⟩
      · exact absurd b c3
      · refine pc_add (by omega) ?_; intro v5 e5
        refine pc_sv (P := fun u => v5 ≤ u) ?_ ?_
        · unfold qf_X9_behindBlanks; exact bb_5 hz _ _ _ (by omega)
        · intro u6 q6
          refine pc_add (by omega) ?_; intro v7 e7
          have P4 := ap_tp A P Q
          have c4 := A.2.1
          exact ih u6 v7 u4.2 K4 (by omega) (by omega) (by omega) P4 (ap_tq A Q (by omega) (by omega)) (ap_tq A Qz (Int.le_refl _) b4)
    · refine pc_se ?_; intro u9 e9
      have z1 := c1
      rcases q4 with ⟨b, b2, b3⟩ | ⟨b1, b2, kd, A, b3, b4⟩
      · have hc4 : 0 ≤ u4.2 2 3 ∧ u4.2 2 3 ≤ 3000 := by omega
        have A := ap_addToken (nn := nn) (k := 1) (p := a) (v := 0) hc4 _ e9
        have A := ap_k A b2 b3
        exact pc_ret ⟨k7_addToken e9 K4, ap_tp A P Q, ap_tq A Qz (Int.le_refl _) (by rw [wk_o (by decide) (by decide)]; omega)⟩
      · have c4 := A.2.1
        have w0 := wk_0 (k := kd)
        have hc4 : 0 ≤ u4.2 2 3 ∧ u4.2 2 3 ≤ 3000 := by omega
        have B := ap_addToken (nn := nn) (k := 1) (p := a) (v := 0) hc4 _ e9
        have zz : u4.1 = 0 := Decidable.byContradiction c3
        have P4 := ap_tp A P Q
        exact pc_ret ⟨k7_addToken e9 K4, ap_tp B P4 (ap_tq A Q (Int.le_refl _) (by omega)), ap_tq B (ap_tq A Qz (Int.le_refl _) b4) (Int.le_refl _) (by rw [wk_o (by decide) (by decide)]; omega)⟩
theorem to_scan {z : Int} (hz : 0 ≤ z ∧ z ≤ 3000) (k7 : h 7 12 = 91 ∧ h 7 13 = 96) : Pc (qf_X9_scan nn z h) (TOw z) := by
  unfold qf_X9_scan
  refine pc_xl ?_; intro h13 e13
  refine pc_cpS ?_; intro h16 e16
  refine pc_xl ?_; intro h17 e17
  refine pc_xl ?_; intro h18 e18
  refine pc_xl ?_; intro h19 e19
  refine pc_xl ?_; intro h20 e20
  have c3 : h20 2 3 = 0 := by rw [e20, up_n (by omega), e19, up_n (by omega), e18, up_n (by omega), e17, up_s]
  have K : K7 h20 := by
    refine ⟨?_, ?_, ?_⟩
    · rw [e20, up_n (by omega), e19, up_n (by omega), e18, up_n (by omega), e17, up_n (by omega), e16, cp_ne (by omega), e13, up_s]
      decide
    · rw [e20, up_n (by omega), e19, up_n (by omega), e18, up_n (by omega), e17, up_n (by omega), e16, cp_ne (by omega), e13, up_n (by omega)]
      exact k7.1
    · rw [e20, up_n (by omega), e19, up_n (by omega), e18, up_n (by omega), e17, up_n (by omega), e16, cp_ne (by omega), e13, up_n (by omega)]
      exact k7.2
  refine pc_sv (P := fun u => 0 ≤ u) ?_ ?_
  · unfold qf_X9_behindBlanks; exact bb_5 hz.2 _ _ _ (by omega)
  · intro u21 q21
    exact to_51 hz.2 _ _ _ _ K (by omega) (by omega) q21 (fun i hi => by omega) (fun i hi => by omega) (fun i hi => by omega)
end
