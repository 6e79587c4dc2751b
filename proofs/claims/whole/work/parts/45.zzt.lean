section
/- an E of the class leaves the bytes of CODE before it -/
/-- no byte before n0 is touched: length, the jumps of the signs from b0 on -/
def ICp (n0 b0 : Int) (h : ms_M) : Prop := ((n0 ≤ h 34 1 ∧ h 34 1 ≤ 2147483647) ∨ h 34 1 < 0) ∧ 0 ≤ n0 ∧ (0 ≤ b0 ∧ b0 ≤ h 49 10 ∧ h 49 10 ≤ 420) ∧ ∀ i : Nat, b0 ≤ (i : Int) → (i : Int) < h 49 10 → h 54 i = -1 ∨ (n0 ≤ h 54 i ∧ h 54 i ≤ 2147483647)
def BYh (n0 b0 : Int) (h u : ms_M) : Prop := ICp n0 b0 h → ICp n0 b0 u ∧ ∀ x : Nat, (x : Int) < n0 → u 35 x = h 35 x
def TRb (_ _ : Int) : Prop := True
section
variable {nn : Nat} {n0 b0 : Int} {h g u w : ms_M}
theorem by_r : BYh n0 b0 h h := fun I => ⟨I, fun _ _ => rfl⟩
theorem by_t (A : BYh n0 b0 h g) (B : BYh n0 b0 g u) : BYh n0 b0 h u := fun I => ⟨(B (A I).1).1, fun x hx => ((B (A I).1).2 x hx).trans ((A I).2 x hx)⟩
theorem by_n (_ : TRb n0 b0) (_ : BYh n0 b0 h g) : TRb n0 b0 := trivial
theorem ic_k (I : ICp n0 b0 h) (e1 : u 34 1 = h 34 1) (e2 : u 49 10 = h 49 10) (e4 : ∀ x : Nat, u 54 x = h 54 x) : ICp n0 b0 u := by
  obtain ⟨a, b, c, d⟩ := I
  exact ⟨by rw [e1]; exact a, b, by rw [e2]; exact c, fun i h1 h2 => by rw [e4]; rw [e2] at h2; exact d i h1 h2⟩
theorem by_fr (e1 : u 34 1 = h 34 1) (e2 : u 49 10 = h 49 10) (e3 : ∀ x : Nat, u 35 x = h 35 x) (e4 : ∀ x : Nat, u 54 x = h 54 x) : BYh n0 b0 h u := fun I => ⟨ic_k I e1 e2 e4, fun x _ => e3 x⟩
theorem by_u {c k : Nat} {v : Int} (A : BYh n0 b0 h g) (q : ¬ (c = 34 ∧ k = 1) ∧ ¬ (c = 49 ∧ k = 10) ∧ ¬ c = 35 ∧ ¬ c = 54) : BYh n0 b0 h (up_M g c k v) := by_t A (by_fr (up_n (by omega)) (up_n (by omega)) (fun x => up_n (by omega)) (fun x => up_n (by omega)))
theorem oq_add1 {x y : Int} (hx : 0 ≤ x ∧ x ≤ 2147483647) (hy : 0 ≤ y ∧ y ≤ 2) : (oq_add x y = x + y ∧ x + y ≤ 2147483647) ∨ oq_add x y < 0 := by
  by_cases z : x + y ≤ 2147483647
  · exact .inl ⟨oq_add_eq (by omega) (by omega) (by omega), z⟩
  · have k : (x = 2147483646 ∧ y = 2) ∨ (x = 2147483647 ∧ y = 1) ∨ (x = 2147483647 ∧ y = 2) := by omega
    rcases k with ⟨rfl, rfl⟩ | ⟨rfl, rfl⟩ | ⟨rfl, rfl⟩
    · right; decide
    · right; decide
    · right; decide
theorem by_op {v : Int} (I : ICp n0 b0 h) : Pc (qf_X1_op nn v h) (fun u => ICp n0 b0 u ∧ (∀ x : Nat, (x : Int) < n0 → u 35 x = h 35 x) ∧ (n0 ≤ h 34 1 ∧ h 34 1 ≤ 2147483647)) := by
  obtain ⟨a, b, c, d⟩ := I
  unfold qf_X1_op
  have T : ∀ g : ms_M, (∀ cc x : Nat, ¬ cc = 35 → g cc x = h cc x) → (∀ x : Nat, (x : Int) < n0 → g 35 x = h 35 x) → (n0 ≤ h 34 1 ∧ h 34 1 ≤ 2147483647) → Pc (qj_X1_op_23 nn g) (fun u => ICp n0 b0 u ∧ (∀ x : Nat, (x : Int) < n0 → u 35 x = h 35 x) ∧ (n0 ≤ h 34 1 ∧ h 34 1 ≤ 2147483647)) := fun g E E5 lb => by
    unfold qj_X1_op_23
    refine pc_xl ?_; intro v2 e2
    refine pc_xl ?_; intro h3 e3
    refine pc_ret ⟨⟨?_, b, by rw [e3, up_n (by omega), E 49 10 (by omega)]; exact c, fun i h1 h2 => ?_⟩, fun x hx => by rw [e3, up_n (by omega)]; exact E5 x hx, lb⟩
    · have l3 : h3 34 1 = oq_add (h 34 1) 1 := by rw [e3, up_s, e2, E 34 1 (by omega)]
      have := oq_add1 (x := h 34 1) (y := 1) (by omega) (by omega)
      rw [l3]
      omega
    · rw [e3, up_n (by omega), E 49 10 (by omega)] at h2
      rw [e3, up_n (by omega), E 54 i (by omega)]
      exact d i h1 h2
  refine pc_if (fun z => T h (fun _ _ _ => rfl) (fun _ _ => rfl) (by omega)) (fun z => ?_)
  refine pc_xl ?_; intro v9 e9
  refine pc_wB ?_; intro b1 b2 h10 e10
  exact T h10 (fun cc x z => by rw [e10, up_n (by omega)]) (fun x hx => by rw [e10, up_n (by omega)]) (by omega)
theorem by_qf_X1_op {a1 : Int} (S : TRb n0 b0) : Pc (qf_X1_op nn a1 h) (fun u => BYh n0 b0 h u) := fun u e I => ⟨(by_op I u e).1, (by_op I u e).2.1⟩
theorem by_qf_X1_op_ {a1 a2 : Int} (S : TRb n0 b0) : Pc (qf_X1_op_ nn a1 a2 h) (fun u => BYh n0 b0 h u) := by
  unfold qf_X1_op_
  refine pc_sv (by_qf_X1_op (n0 := n0) (b0 := b0) trivial) ?_; intro u2 q2
  refine pc_sv (by_qf_X1_op (n0 := n0) (b0 := b0) trivial) ?_; intro u4 q4
  exact pc_ret (by_t q2 q4)
theorem by_pop {n : Int} : Pc (qf_X1_pop nn n h) (fun u => BYh n0 b0 h u ∧ u 34 1 = h 34 1) := fun u e => ⟨by_fr (ff_X1_pop nn u e 34 1 rfl) (ff_X1_pop nn u e 49 10 rfl) (fun x => ff_X1_pop nn u e 35 x (nw_ar rfl x)) (fun x => ff_X1_pop nn u e 54 x (nw_ar rfl x)), ff_X1_pop nn u e 34 1 rfl⟩
/-- where a jump may stand -/
def JPk (n0 j : Int) : Prop := j = -1 ∨ (n0 ≤ j ∧ j ≤ 2147483647)
theorem by_jump {o n : Int} (I : ICp n0 b0 h) : Pc (qf_X1_jump nn o n h) (fun u => (ICp n0 b0 u.2 ∧ ∀ x : Nat, (x : Int) < n0 → u.2 35 x = h 35 x) ∧ (n0 ≤ u.1 ∧ u.1 ≤ 2147483647)) := by
  unfold qf_X1_jump
  refine pc_sv (by_pop (n0 := n0) (b0 := b0)) ?_; intro u3 ⟨q3, l3⟩
  refine pc_sv (by_op (q3 I).1) ?_; intro u5 ⟨i5, f5, lb⟩
  refine pc_sv (by_op i5) ?_; intro u7 ⟨i7, f7, _⟩
  refine pc_sv (by_op i7) ?_; intro u9 ⟨i9, f9, _⟩
  exact pc_ret ⟨⟨i9, fun x hx => by dsimp only; rw [f9 x hx, f7 x hx, f5 x hx]; exact (q3 I).2 x hx⟩, by dsimp only; omega⟩
theorem by_aim {j a : Int} (J : JPk n0 j) (I : ICp n0 b0 h) : Pc (qf_X1_aimAt nn j a h) (fun u => ICp n0 b0 u ∧ ∀ x : Nat, (x : Int) < n0 → u 35 x = h 35 x) := by
  have n00 := I.2.1
  unfold qf_X1_aimAt
  refine pc_xl ?_; intro v1 _
  refine pc_if (fun _ => pc_ret ⟨I, fun _ _ => rfl⟩) (fun z => ?_)
  have jb : n0 ≤ j ∧ j ≤ 2147483647 := by
    rcases J with y | y
    · omega
    · exact y
  refine pc_xl ?_; intro v2 _
  refine pc_if (fun _ => pc_ret ⟨I, fun _ _ => rfl⟩) (fun z2 => ?_)
  refine pc_xl ?_; intro v6 e6
  refine pc_xl ?_; intro v7 _
  refine pc_xl ?_; intro v8 _
  refine pc_wB ?_; intro b1 b2 h9 e9
  refine pc_xl ?_; intro v11 e11
  refine pc_xl ?_; intro v12 _
  refine pc_wB ?_; intro b3 b4 h13 e13
  have w6 := oq_add1 (x := j) (y := 1) (by omega) (by omega)
  have w11 := oq_add1 (x := j) (y := 2) (by omega) (by omega)
  refine pc_ret ⟨ic_k I (by rw [e13, up_n (by omega), e9, up_n (by omega)]) (by rw [e13, up_n (by omega), e9, up_n (by omega)]) (fun x => by rw [e13, up_n (by omega), e9, up_n (by omega)]), fun x hx => ?_⟩
  rw [e13, up_n (by omega), e9, up_n (by omega)]
theorem by_aimH {j : Int} (J : JPk n0 j) (I : ICp n0 b0 h) : Pc (qf_X1_aimHere nn j h) (fun u => ICp n0 b0 u ∧ ∀ x : Nat, (x : Int) < n0 → u 35 x = h 35 x) := by
  unfold qf_X1_aimHere
  refine pc_sv (by_aim J I) ?_; intro u3 ⟨i3, f3⟩
  refine pc_se ?_; intro u6 e6
  refine pc_se ?_; intro u10 e10
  have E : ∀ cc x : Nat, (cc = 34 ∧ x = 1) ∨ (cc = 49 ∧ x = 10) ∨ cc = 35 ∨ cc = 54 → u10 cc x = u3 cc x := fun cc x z => by
    have a1 : u10 cc x = u6.2 cc x := ff_X1_fillFrame nn u10 e10 cc x (nw_of (by unfold wl_X1_fillFrame; simp only [List.mem_cons, List.not_mem_nil, or_false]; omega) (by unfold wf_X1_fillFrame; simp only [List.mem_cons, List.not_mem_nil, or_false, Prod.mk.injEq]; omega))
    have a2 : u6.2 cc x = u3 cc x := ff_X1_slotOfFrame nn u6 e6 cc x (nw_of (by unfold wl_X1_slotOfFrame; simp only [List.mem_cons, List.not_mem_nil, or_false]; omega) (by unfold wf_X1_slotOfFrame; simp only [List.mem_cons, List.not_mem_nil, or_false, Prod.mk.injEq]; omega))
    exact a1.trans a2
  exact pc_ret ⟨ic_k i3 (E 34 1 (by omega)) (E 49 10 (by omega)) (fun x => E 54 x (by omega)), fun x hx => by rw [E 35 x (by omega)]; exact f3 x hx⟩
theorem by_psh {t : Int} : Pc (qf_X1_push nn t h) (fun u => BYh n0 b0 h u) := fun u e => by_fr (ff_X1_push nn u e 34 1 rfl) (ff_X1_push nn u e 49 10 rfl) (fun x => ff_X1_push nn u e 35 x (nw_ar rfl x)) (fun x => ff_X1_push nn u e 54 x (nw_ar rfl x))
theorem by_qf_X1_truth {a1 a2 : Int} (S : TRb n0 b0) : Pc (qf_X1_truth nn a1 a2 h) (fun u => BYh n0 b0 h u) := by
  intro u e I
  have W : Pc (qf_X1_truth nn a1 a2 h) (fun u => ICp n0 b0 u ∧ ∀ x : Nat, (x : Int) < n0 → u 35 x = h 35 x) := by
    unfold qf_X1_truth
    refine pc_sv (by_jump I) ?_; intro u2 ⟨⟨i2, f2⟩, j2⟩
    refine pc_sv (by_psh (n0 := n0) (b0 := b0)) ?_; intro u4 q4
    have ⟨i4, f4⟩ := q4 i2
    refine pc_sv (by_op i4) ?_; intro u6 ⟨i6, f6, _⟩
    refine pc_sv (by_jump i6) ?_; intro u8 ⟨⟨i8, f8⟩, j8⟩
    refine pc_sv (by_pop (n0 := n0) (b0 := b0)) ?_; intro u10 ⟨q10, _⟩
    have ⟨i10, f10⟩ := q10 i8
    refine pc_sv (by_aimH (.inr j2) i10) ?_; intro u12 ⟨i12, f12⟩
    refine pc_sv (by_psh (n0 := n0) (b0 := b0)) ?_; intro u14 q14
    have ⟨i14, f14⟩ := q14 i12
    refine pc_sv (by_op i14) ?_; intro u16 ⟨i16, f16, _⟩
    refine pc_sv (by_aimH (.inr j8) i16) ?_; intro u18 ⟨i18, f18⟩
    exact pc_ret ⟨i18, fun x hx => by rw [f18 x hx, f16 x hx, f14 x hx, f12 x hx, f10 x hx, f8 x hx, f6 x hx, f4 x hx]; exact f2 x hx⟩
  exact W u e
theorem by_wt {r t : Int} : Pc (qf_X10_wantType nn r t h) (fun u => BYh n0 b0 h u) := fun u e => by_fr (ff_X10_wantType nn u e 34 1 rfl) (ff_X10_wantType nn u e 49 10 rfl) (fun x => ff_X10_wantType nn u e 35 x (nw_ar rfl x)) (fun x => ff_X10_wantType nn u e 54 x (nw_ar rfl x))
theorem by_shut {k j s : Int} (J : JPk n0 j) (I : ICp n0 b0 h) : Pc (qj_X10_closeShort_16 nn k j s h) (fun u => ICp n0 b0 u ∧ ∀ x : Nat, (x : Int) < n0 → u 35 x = h 35 x) := by
  unfold qj_X10_closeShort_16
  refine pc_sv (by_wt (n0 := n0) (b0 := b0)) ?_; intro u12 q12
  have ⟨i12, f12⟩ := q12 I
  refine pc_sv (by_jump i12) ?_; intro u15 ⟨⟨i15, f15⟩, j15⟩
  refine pc_sv (by_pop (n0 := n0) (b0 := b0)) ?_; intro u18 ⟨q18, _⟩
  have ⟨i18, f18⟩ := q18 i15
  refine pc_sv (by_aimH J i18) ?_; intro u21 ⟨i21, f21⟩
  have T : ∀ s0 : Int, Pc (qj_X10_closeShort_66 nn u15.1 s0 u21) (fun u => ICp n0 b0 u ∧ ∀ x : Nat, (x : Int) < n0 → u 35 x = h 35 x) := fun s0 => by
    unfold qj_X10_closeShort_66
    refine pc_sv (by_op i21) ?_; intro u2 ⟨i2, f2, _⟩
    refine pc_sv (by_psh (n0 := n0) (b0 := b0)) ?_; intro u5 q5
    have ⟨i5, f5⟩ := q5 i2
    refine pc_sv (by_aimH (.inr j15) i5) ?_; intro u8 ⟨i8, f8⟩
    refine pc_xl ?_; intro h9 e9
    exact pc_ret ⟨ic_k i8 (by rw [e9, up_n (by omega)]) (by rw [e9, up_n (by omega)]) (fun x => by rw [e9, up_n (by omega)]), fun x hx => by rw [e9, up_n (by omega), f8 x hx, f5 x hx, f2 x hx, f21 x hx, f18 x hx, f15 x hx]; exact f12 x hx⟩
  exact pc_if (fun _ => T 4) (fun _ => T 3)
theorem by_293 : Pc (qj_X10_closeSign_293 nn h) (fun u => BYh n0 b0 h u) := by
  unfold qj_X10_closeSign_293
  refine pc_rA ?_; intro _ _ v3 _
  refine pc_xl ?_; intro h4 e4
  refine pc_xl ?_; intro h5 e5
  exact pc_ret (by rw [e5, e4]; exact by_u (by_u by_r (by omega)) (by omega))
theorem by_251 {k s : Int} : Pc (qj_X10_closeSign_251 nn k s h) (fun u => BYh n0 b0 h u) := by
  unfold qj_X10_closeSign_251
  refine pc_rA ?_; intro _ _ v8 _
  refine pc_sv (by_wt (n0 := n0) (b0 := b0)) ?_; intro u10 q10
  refine pc_se ?_; intro u12 _
  refine pc_sv (by_qf_X1_op (n0 := n0) (b0 := b0) trivial) ?_; intro u14 q14
  refine pc_sv (by_pop (n0 := n0) (b0 := b0)) ?_; intro u17 q17
  refine pc_sv (by_psh (n0 := n0) (b0 := b0)) ?_; intro u21 q21
  exact pc_imp (by_293 (n0 := n0) (b0 := b0)) (fun u q => by_t q10 (by_t q14 (by_t q17.1 (by_t q21 q))))
theorem by_tr {k p : Int} : Pc (mx_sv (qf_X1_truth nn k p h) fun u37 => xl (up_M u37 49 12 302) fun h38 => qj_X10_closeSign_293 nn h38) (fun u => BYh n0 b0 h u) := by
  refine pc_sv (by_qf_X1_truth (n0 := n0) (b0 := b0) trivial) ?_; intro u37 q37
  refine pc_xl ?_; intro h38 e38
  exact pc_imp (by_293 (n0 := n0) (b0 := b0)) (fun u q => by_t q37 (by_t (by rw [e38]; exact by_u by_r (by omega)) q))
theorem by_close (I : ICp n0 b0 h) (hb : b0 < h 49 10) : Pc (qf_X10_closeSign nn h) (fun u => ICp n0 b0 u ∧ ∀ x : Nat, (x : Int) < n0 → u 35 x = h 35 x) := by
  obtain ⟨a, b, c, d⟩ := I
  unfold qf_X10_closeSign
  refine pc_sub (by omega) ?_; intro v60 e60
  refine pc_xl ?_; intro h61 e61
  have s10 : h61 49 10 = h 49 10 - 1 := by rw [e61, up_s]; omega
  have E61 : ∀ cc x : Nat, ¬ (cc = 49 ∧ x = 10) → h61 cc x = h cc x := fun cc x z => by rw [e61, up_n z]
  have I61 : ICp n0 b0 h61 := ⟨by rw [E61 34 1 (by omega)]; exact a, b, by omega, fun i h1 h2 => by rw [E61 54 i (by omega)]; exact d i h1 (by omega)⟩
  have B : ∀ {x : Option ms_M}, Pc x (fun u => BYh n0 b0 h61 u) → Pc x (fun u => ICp n0 b0 u ∧ ∀ x : Nat, (x : Int) < n0 → u 35 x = h 35 x) := fun {x} H => pc_imp H (fun u q => ⟨(q I61).1, fun y hy => by rw [(q I61).2 y hy]; exact E61 35 y (by omega)⟩)
  refine pc_rA ?_; intro _ _ v64 _
  refine pc_rA ?_; intro _ _ v67 _
  have T42 : Pc (qj_X10_closeSign_42 nn v64 h61) (fun u => ICp n0 b0 u ∧ ∀ x : Nat, (x : Int) < n0 → u 35 x = h 35 x) := by
    unfold qj_X10_closeSign_42
    refine pc_rA ?_; intro b1 _ v56 e56
    have J : JPk n0 v56 := by
      rw [E61 54 _ (by omega)] at e56
      rw [e56]
      exact d _ (by omega) (by omega)
    have CS : Pc (qf_X10_closeShort nn v64 v56 h61) (fun u => ICp n0 b0 u ∧ ∀ x : Nat, (x : Int) < n0 → u 35 x = h61 35 x) := by
      unfold qf_X10_closeShort
      exact pc_if (fun _ => by_shut J I61) (fun _ => by_shut J I61)
    refine pc_sv CS ?_; intro u58 ⟨i58, f58⟩
    exact pc_imp (by_293 (n0 := n0) (b0 := b0)) (fun u q => ⟨(q i58).1, fun x hx => by rw [(q i58).2 x hx, f58 x hx]; exact E61 35 x (by omega)⟩)
  have T71 : Pc (qj_X10_closeSign_71 nn v64 v67 h61) (fun u => BYh n0 b0 h61 u) := by
    unfold qj_X10_closeSign_71
    refine pc_se ?_; intro u41 _
    refine pc_rA ?_; intro _ _ v44 _
    refine pc_sv (by_wt (n0 := n0) (b0 := b0)) ?_; intro u46 q46
    refine pc_se ?_; intro u49 _
    refine pc_se ?_; intro u50 _
    exact pc_imp (by_tr (n0 := n0) (b0 := b0)) (fun u q => by_t q46 q)
  have T154 : ∀ s : Int, Pc (qj_X10_closeSign_154 nn v64 s h61) (fun u => BYh n0 b0 h61 u) := fun s => by
    unfold qj_X10_closeSign_154
    refine pc_rA ?_; intro _ _ v31 _
    refine pc_sv (by_wt (n0 := n0) (b0 := b0)) ?_; intro u33 q33
    refine pc_se ?_; intro u35 _
    exact pc_imp (by_tr (n0 := n0) (b0 := b0)) (fun u q => by_t q33 q)
  have T212 : ∀ s : Int, Pc (qj_X10_closeSign_212 nn v64 v67 s h61) (fun u => BYh n0 b0 h61 u) := fun s => by
    unfold qj_X10_closeSign_212 qj_X10_closeSign_250 qj_X10_closeSign_246
    refine pc_if (fun _ => by_251) (fun _ => ?_)
    refine pc_if (fun _ => by_251) (fun _ => ?_)
    refine pc_if (fun _ => by_251) (fun _ => ?_)
    exact pc_if (fun _ => by_251) (fun _ => by_251)
  refine pc_if (fun _ => T42) (fun _ => ?_)
  refine pc_if (fun _ => ?_) (fun _ => T42)
  refine pc_if (fun _ => B T71) (fun _ => ?_)
  refine pc_if (fun _ => ?_) (fun _ => B T71)
  refine pc_se ?_; intro u68 _
  refine pc_if (fun _ => ?_) (fun _ => ?_)
  · refine pc_if (fun _ => B (T212 1)) (fun _ => ?_)
    refine pc_if (fun _ => B (T212 1)) (fun _ => ?_)
    exact pc_if (fun _ => B (T212 0)) (fun _ => B (T212 1))
  · refine pc_if (fun _ => B (T154 0)) (fun _ => ?_)
    exact pc_if (fun _ => B (T154 0)) (fun _ => B (T154 1))
theorem by_open (I : ICp n0 b0 h) : Pc (qf_X10_openSign nn h) (fun u => ICp n0 b0 u ∧ ∀ x : Nat, (x : Int) < n0 → u 35 x = h 35 x) := by
  obtain ⟨a, b, c, d⟩ := I
  unfold qf_X10_openSign
  have T159 : ∀ g : ms_M, ICp n0 b0 g → (∀ x : Nat, (x : Int) < n0 → g 35 x = h 35 x) → Pc (qj_X10_openSign_159 nn g) (fun u => ICp n0 b0 u ∧ ∀ x : Nat, (x : Int) < n0 → u 35 x = h 35 x) := fun g Ig fg => by
    unfold qj_X10_openSign_159
    refine pc_xl ?_; intro v3 _
    refine pc_xl ?_; intro h4 e4
    exact pc_ret ⟨ic_k Ig (by rw [e4, up_n (by omega)]) (by rw [e4, up_n (by omega)]) (fun x => by rw [e4, up_n (by omega)]), fun x hx => by rw [e4, up_n (by omega)]; exact fg x hx⟩
  refine pc_se ?_; intro u22 _
  refine pc_if (fun _ => T159 h ⟨a, b, c, d⟩ (fun _ _ => rfl)) (fun z => ?_)
  refine pc_wA ?_; intro _ _ h28 e28
  have E28 : ∀ cc x : Nat, ¬ cc = 50 → h28 cc x = h cc x := fun cc x z => by rw [e28, up_n (by omega)]
  rw [E28 49 10 (by omega)]
  refine pc_wA ?_; intro _ _ h33 e33
  have E33 : ∀ cc x : Nat, ¬ (50 ≤ cc ∧ cc ≤ 51) → h33 cc x = h cc x := fun cc x z => by rw [e33, up_n (by omega)]; exact E28 cc x (by omega)
  rw [E33 49 10 (by omega)]
  refine pc_wA ?_; intro _ _ h37 e37
  have E37 : ∀ cc x : Nat, ¬ (50 ≤ cc ∧ cc ≤ 52) → h37 cc x = h cc x := fun cc x z => by rw [e37, up_n (by omega)]; exact E33 cc x (by omega)
  rw [E37 49 10 (by omega)]
  refine pc_wA ?_; intro _ _ h41 e41
  have E41 : ∀ cc x : Nat, ¬ (50 ≤ cc ∧ cc ≤ 53) → h41 cc x = h cc x := fun cc x z => by rw [e41, up_n (by omega)]; exact E37 cc x (by omega)
  rw [E41 49 10 (by omega)]
  refine pc_wA ?_; intro _ _ h44 e44
  have E44 : ∀ cc x : Nat, ¬ (50 ≤ cc ∧ cc ≤ 53) → ¬ (cc = 54 ∧ x = (h 49 10).toNat) → h44 cc x = h cc x := fun cc x z1 z2 => by rw [e44, up_n (by omega)]; exact E41 cc x (by omega)
  have s54 : h44 54 (h 49 10).toNat = -1 := by rw [e44, up_s]
  have I44 : ICp n0 b0 h44 := ⟨by rw [E44 34 1 (by omega) (by omega)]; exact a, b, by rw [E44 49 10 (by omega) (by omega)]; exact c, fun i h1 h2 => by rw [E44 49 10 (by omega) (by omega)] at h2; rw [E44 54 i (by omega) (by omega)]; exact d i h1 h2⟩
  have T149 : ∀ g : ms_M, ICp n0 b0 g → (∀ x : Nat, (x : Int) < n0 → g 35 x = h 35 x) → g 49 10 = h 49 10 → JPk n0 (g 54 (h 49 10).toNat) → Pc (qj_X10_openSign_149 nn g) (fun u => ICp n0 b0 u ∧ ∀ x : Nat, (x : Int) < n0 → u 35 x = h 35 x) := fun g Ig fg g10 gj => by
    unfold qj_X10_openSign_149
    rw [g10]
    refine pc_add (by omega) ?_; intro v6 e6
    refine pc_xl ?_; intro h7 e7
    refine T159 h7 ⟨by rw [e7, up_n (by omega)]; exact Ig.1, b, by rw [e7, up_s]; omega, fun i h1 h2 => ?_⟩ (fun x hx => by rw [e7, up_n (by omega)]; exact fg x hx)
    rw [e7, up_s] at h2
    rw [e7, up_n (by omega)]
    by_cases z : (i : Int) = h 49 10
    · rw [show i = (h 49 10).toNat by omega]; exact gj
    · exact Ig.2.2.2 i h1 (by omega)
  have T94 : Pc (qj_X10_openSign_94 nn u22 h44) (fun u => ICp n0 b0 u ∧ ∀ x : Nat, (x : Int) < n0 → u 35 x = h 35 x) := by
    have T110 : ∀ s : Int, Pc (qj_X10_openSign_110 nn u22 s h44) (fun u => ICp n0 b0 u ∧ ∀ x : Nat, (x : Int) < n0 → u 35 x = h 35 x) := fun s => by
      unfold qj_X10_openSign_110
      refine pc_sv (pc_and (by_wt (n0 := n0) (b0 := b0)) (fun u e => (ff_X10_wantType nn u e 49 10 rfl : u 49 10 = h44 49 10))) ?_; intro u13 ⟨q13, k13⟩
      have ⟨i13, f13⟩ := q13 I44
      have k13 : u13 49 10 = h44 49 10 := k13
      have k13' : u13 49 10 = h 49 10 := by rw [k13]; exact E44 49 10 (by omega) (by omega)
      have T144 : ∀ o : Int, Pc (qj_X10_openSign_144 nn o (u13 49 10) u13) (fun u => ICp n0 b0 u ∧ ∀ x : Nat, (x : Int) < n0 → u 35 x = h 35 x) := fun o => by
        unfold qj_X10_openSign_144
        refine pc_sv (pc_and (by_jump i13) (fun u e => (ff_X1_jump nn u e 49 10 rfl : u.2 49 10 = u13 49 10))) ?_; intro u9 ⟨⟨⟨i9, f9⟩, j9⟩, k9⟩
        have k9 : u9.2 49 10 = u13 49 10 := k9
        rw [k13']
        refine pc_wA ?_; intro _ _ h10 e10
        refine T149 h10 ⟨by rw [e10, up_n (by omega)]; exact i9.1, b, by rw [e10, up_n (by omega)]; exact i9.2.2.1, fun i h1 h2 => ?_⟩ (fun x hx => by rw [e10, up_n (by omega), f9 x hx, f13 x hx]; exact E44 35 x (by omega) (by omega)) (by rw [e10, up_n (by omega), k9]; exact k13') (by rw [e10, up_s]; exact .inr j9)
        rw [e10, up_n (by omega), k9, k13'] at h2
        rw [e10, up_n (by omega)]
        exact i9.2.2.2 i h1 (by rw [k9, k13']; exact h2)
      exact pc_if (fun _ => T144 154) (fun _ => T144 153)
    unfold qj_X10_openSign_94
    exact pc_if (fun _ => T110 0) (fun _ => T110 1)
  have T1 : Pc (qj_X10_openSign_149 nn h44) (fun u => ICp n0 b0 u ∧ ∀ x : Nat, (x : Int) < n0 → u 35 x = h 35 x) := T149 h44 I44 (fun x hx => E44 35 x (by omega) (by omega)) (E44 49 10 (by omega) (by omega)) (by rw [s54]; exact .inl rfl)
  refine pc_if (fun _ => T94) (fun _ => ?_)
  exact pc_if (fun _ => T1) (fun _ => T94)
end
def BYhG (n0 b0 : Int) (rc : tq_X10_readValue) : Prop := (∀ {a1 : Int} {h : ms_M}, TRb n0 b0 → Pc (rc.1 a1 h) (fun u => BYh n0 b0 h u)) ∧ (∀ {a1 : Int} {a2 : Int} {h : ms_M}, TRb n0 b0 → Pc (rc.2.1 a1 a2 h) (fun u => BYh n0 b0 h u)) ∧ (∀ {a1 : Int} {h : ms_M}, TRb n0 b0 → Pc (rc.2.2.1 a1 h) (fun u => BYh n0 b0 h u)) ∧ (∀ {a1 : Int} {h : ms_M}, TRb n0 b0 → Pc (rc.2.2.2.1 a1 h) (fun u => BYh n0 b0 h u)) ∧ (∀ {a1 : Int} {h : ms_M}, TRb n0 b0 → Pc (rc.2.2.2.2.1 a1 h) (fun u => BYh n0 b0 h u)) ∧ (∀ {a1 : Int} {h : ms_M}, TRb n0 b0 → Pc (rc.2.2.2.2.2.1 a1 h) (fun u => BYh n0 b0 h u)) ∧ (∀ {a1 : Int} {h : ms_M}, TRb n0 b0 → Pc (rc.2.2.2.2.2.2.1 a1 h) (fun u => BYh n0 b0 h u)) ∧ (∀ {a1 : Int} {a2 : Int} {h : ms_M}, TRb n0 b0 → Pc (rc.2.2.2.2.2.2.2.1 a1 a2 h) (fun u => BYh n0 b0 h u)) ∧ (∀ {a1 : Int} {a2 : Int} {a3 : Int} {a4 : Int} {a5 : Int} {a6 : Int} {h : ms_M}, TRb n0 b0 → Pc (rc.2.2.2.2.2.2.2.2 a1 a2 a3 a4 a5 a6 h) (fun u => BYh n0 b0 h u))
section
variable {nn : Nat} {n0 b0 : Int} {h g u w : ms_M}
theorem by_qf_X6_classOf {a1 : Int} {h : ms_M} (S : TRb n0 b0) : Pc (qf_X6_classOf nn a1 h) (fun u => BYh n0 b0 h u.2) := fun u e => by_fr (ff_X6_classOf nn u e 34 1 rfl) (ff_X6_classOf nn u e 49 10 rfl) (fun x => ff_X6_classOf nn u e 35 x (nw_ar rfl x)) (fun x => ff_X6_classOf nn u e 54 x (nw_ar rfl x))
theorem by_qf_X9_tell {a1 : Int} {a2 : Int} {h : ms_M} (S : TRb n0 b0) : Pc (qf_X9_tell nn a1 a2 h) (fun u => BYh n0 b0 h u) := fun u e => by_fr (ff_X9_tell nn u e 34 1 rfl) (ff_X9_tell nn u e 49 10 rfl) (fun x => ff_X9_tell nn u e 35 x (nw_ar rfl x)) (fun x => ff_X9_tell nn u e 54 x (nw_ar rfl x))
theorem by_qf_X10_wantType {a1 : Int} {a2 : Int} {h : ms_M} (S : TRb n0 b0) : Pc (qf_X10_wantType nn a1 a2 h) (fun u => BYh n0 b0 h u) := fun u e => by_fr (ff_X10_wantType nn u e 34 1 rfl) (ff_X10_wantType nn u e 49 10 rfl) (fun x => ff_X10_wantType nn u e 35 x (nw_ar rfl x)) (fun x => ff_X10_wantType nn u e 54 x (nw_ar rfl x))
theorem by_qf_X1_pop {a1 : Int} {h : ms_M} (S : TRb n0 b0) : Pc (qf_X1_pop nn a1 h) (fun u => BYh n0 b0 h u) := fun u e => by_fr (ff_X1_pop nn u e 34 1 rfl) (ff_X1_pop nn u e 49 10 rfl) (fun x => ff_X1_pop nn u e 35 x (nw_ar rfl x)) (fun x => ff_X1_pop nn u e 54 x (nw_ar rfl x))
theorem by_qf_X1_push {a1 : Int} {h : ms_M} (S : TRb n0 b0) : Pc (qf_X1_push nn a1 h) (fun u => BYh n0 b0 h u) := fun u e => by_fr (ff_X1_push nn u e 34 1 rfl) (ff_X1_push nn u e 49 10 rfl) (fun x => ff_X1_push nn u e 35 x (nw_ar rfl x)) (fun x => ff_X1_push nn u e 54 x (nw_ar rfl x))
theorem by_qf_X10_readNamedClass {a1 : Int} {a2 : Int} {h : ms_M} (S : TRb n0 b0) : Pc (qf_X10_readNamedClass nn a1 a2 h) (fun u => BYh n0 b0 h u.2) := fun u e => by_fr (ff_X10_readNamedClass nn u e 34 1 rfl) (ff_X10_readNamedClass nn u e 49 10 rfl) (fun x => ff_X10_readNamedClass nn u e 35 x (nw_ar rfl x)) (fun x => ff_X10_readNamedClass nn u e 54 x (nw_ar rfl x))
theorem by_qf_X10_wantKinOf {a1 : Int} {a2 : Int} {h : ms_M} (S : TRb n0 b0) : Pc (qf_X10_wantKinOf nn a1 a2 h) (fun u => BYh n0 b0 h u) := fun u e => by_fr (ff_X10_wantKinOf nn u e 34 1 rfl) (ff_X10_wantKinOf nn u e 49 10 rfl) (fun x => ff_X10_wantKinOf nn u e 35 x (nw_ar rfl x)) (fun x => ff_X10_wantKinOf nn u e 54 x (nw_ar rfl x))
theorem by_qj_X10_readInstanceof_66 {h : ms_M} (S : TRb n0 b0) : Pc (qj_X10_readInstanceof_66 nn h) (fun u => BYh n0 b0 h u) := by
  have F : BYh n0 b0 h h := by_r
  unfold qj_X10_readInstanceof_66
  refine pc_xl ?_; intro h1 Eh1
  have Fh1 : BYh n0 b0 h h1 := by rw [Eh1]; exact by_u F (by omega)
  refine pc_xl ?_; intro h2 Eh2
  have Fh2 : BYh n0 b0 h h2 := by rw [Eh2]; exact by_u Fh1 (by omega)
  exact pc_ret Fh2
theorem by_qf_X10_readInstanceof {h : ms_M} (S : TRb n0 b0) : Pc (qf_X10_readInstanceof nn h) (fun u => BYh n0 b0 h u) := by
  have F : BYh n0 b0 h h := by_r
  unfold qf_X10_readInstanceof
  refine pc_xl ?_; intro v5 _
  refine pc_xl ?_; intro v6 _
  refine pc_sv (by_qf_X10_readNamedClass (by_n S F)) ?_; intro u8 Qu8
  have Fu8 : BYh n0 b0 h u8.2 := by_t F Qu8
  refine pc_if (fun _ => ?_) (fun _ => ?_)
  · exact pc_imp (by_qj_X10_readInstanceof_66 (by_n S Fu8)) (fun _ q => by_t Fu8 q)
  · refine pc_sv (by_qf_X10_wantKinOf (by_n S Fu8)) ?_; intro u10 Qu10
    have Fu10 : BYh n0 b0 h u10 := by_t Fu8 Qu10
    refine pc_sv (by_qf_X6_classOf (by_n S Fu10)) ?_; intro u14 Qu14
    have Fu14 : BYh n0 b0 h u14.2 := by_t Fu10 Qu14
    refine pc_sv (by_qf_X1_op_ (by_n S Fu14)) ?_; intro u16 Qu16
    have Fu16 : BYh n0 b0 h u16 := by_t Fu14 Qu16
    refine pc_sv (by_qf_X1_pop (by_n S Fu16)) ?_; intro u19 Qu19
    have Fu19 : BYh n0 b0 h u19 := by_t Fu16 Qu19
    refine pc_sv (by_qf_X1_push (by_n S Fu19)) ?_; intro u22 Qu22
    have Fu22 : BYh n0 b0 h u22 := by_t Fu19 Qu22
    exact pc_imp (by_qj_X10_readInstanceof_66 (by_n S Fu22)) (fun _ q => by_t Fu22 q)
theorem by_qf_X10_closeCast {a1 : Int} {a2 : Int} {h : ms_M} (S : TRb n0 b0) : Pc (qf_X10_closeCast nn a1 a2 h) (fun u => BYh n0 b0 h u) := by
  have F : BYh n0 b0 h h := by_r
  unfold qf_X10_closeCast
  refine pc_xl ?_; intro h1 Eh1
  have Fh1 : BYh n0 b0 h h1 := by rw [Eh1]; exact by_u F (by omega)
  refine pc_if (fun _ => ?_) (fun _ => ?_)
  · refine pc_sv (by_qf_X10_wantKinOf (by_n S Fh1)) ?_; intro u3 Qu3
    have Fu3 : BYh n0 b0 h u3 := by_t Fh1 Qu3
    refine pc_sv (by_qf_X6_classOf (by_n S Fu3)) ?_; intro u7 Qu7
    have Fu7 : BYh n0 b0 h u7.2 := by_t Fu3 Qu7
    refine pc_sv (by_qf_X1_op_ (by_n S Fu7)) ?_; intro u9 Qu9
    have Fu9 : BYh n0 b0 h u9 := by_t Fu7 Qu9
    refine pc_sv (by_qf_X1_pop (by_n S Fu9)) ?_; intro u12 Qu12
    have Fu12 : BYh n0 b0 h u12 := by_t Fu9 Qu12
    refine pc_sv (by_qf_X1_push (by_n S Fu12)) ?_; intro u15 Qu15
    have Fu15 : BYh n0 b0 h u15 := by_t Fu12 Qu15
    refine pc_xl ?_; intro h16 Eh16
    have Fh16 : BYh n0 b0 h h16 := by rw [Eh16]; exact by_u Fu15 (by omega)
    exact pc_ret Fh16
  · exact pc_ret Fh1
theorem by_qj_X10_closeUnary_62 {l1 : Int} {l2 : Int} {s0 : Int} {h : ms_M} (S : TRb n0 b0) : Pc (qj_X10_closeUnary_62 nn l1 l2 s0 h) (fun u => BYh n0 b0 h u) := by
  have F : BYh n0 b0 h h := by_r
  unfold qj_X10_closeUnary_62
  refine pc_sv (by_qf_X10_wantType (by_n S F)) ?_; intro u2 Qu2
  have Fu2 : BYh n0 b0 h u2 := by_t F Qu2
  refine pc_if (fun _ => ?_) (fun _ => ?_)
  · refine pc_sv (by_qf_X1_push (by_n S Fu2)) ?_; intro u5 Qu5
    have Fu5 : BYh n0 b0 h u5 := by_t Fu2 Qu5
    refine pc_sv (by_qf_X1_op_ (by_n S Fu5)) ?_; intro u8 Qu8
    have Fu8 : BYh n0 b0 h u8 := by_t Fu5 Qu8
    refine pc_sv (by_qf_X1_pop (by_n S Fu8)) ?_; intro u11 Qu11
    have Fu11 : BYh n0 b0 h u11 := by_t Fu8 Qu11
    exact pc_ret Fu11
  · refine pc_sv (by_qf_X1_op (by_n S Fu2)) ?_; intro u14 Qu14
    have Fu14 : BYh n0 b0 h u14 := by_t Fu2 Qu14
    exact pc_ret Fu14
theorem by_qj_X10_closeUnary_27 {s0 : Int} {h : ms_M} (S : TRb n0 b0) : Pc (qj_X10_closeUnary_27 nn s0 h) (fun u => BYh n0 b0 h u) := by
  have F : BYh n0 b0 h h := by_r
  unfold qj_X10_closeUnary_27
  refine pc_sv (by_qf_X10_wantType (by_n S F)) ?_; intro u18 Qu18
  have Fu18 : BYh n0 b0 h u18 := by_t F Qu18
  refine pc_sv (by_qf_X1_truth (by_n S Fu18)) ?_; intro u21 Qu21
  have Fu21 : BYh n0 b0 h u21 := by_t Fu18 Qu21
  exact pc_ret Fu21
theorem by_qf_X10_closeUnary {a1 : Int} {a2 : Int} {h : ms_M} (S : TRb n0 b0) : Pc (qf_X10_closeUnary nn a1 a2 h) (fun u => BYh n0 b0 h u) := by
  have F : BYh n0 b0 h h := by_r
  unfold qf_X10_closeUnary
  refine pc_xl ?_; intro h22 Eh22
  have Fh22 : BYh n0 b0 h h22 := by rw [Eh22]; exact by_u F (by omega)
  refine pc_if (fun _ => ?_) (fun _ => ?_)
  · refine pc_if (fun _ => ?_) (fun _ => ?_)
    · exact pc_imp (by_qj_X10_closeUnary_62 (by_n S Fh22)) (fun _ q => by_t Fh22 q)
    · exact pc_imp (by_qj_X10_closeUnary_62 (by_n S Fh22)) (fun _ q => by_t Fh22 q)
  · refine pc_if (fun _ => ?_) (fun _ => ?_)
    · exact pc_imp (by_qj_X10_closeUnary_27 (by_n S Fh22)) (fun _ q => by_t Fh22 q)
    · exact pc_imp (by_qj_X10_closeUnary_27 (by_n S Fh22)) (fun _ q => by_t Fh22 q)
theorem by_qf_X6_fieldOf {a1 : Int} {a2 : Int} {h : ms_M} (S : TRb n0 b0) : Pc (qf_X6_fieldOf nn a1 a2 h) (fun u => BYh n0 b0 h u.2) := fun u e => by_fr (ff_X6_fieldOf nn u e 34 1 rfl) (ff_X6_fieldOf nn u e 49 10 rfl) (fun x => ff_X6_fieldOf nn u e 35 x (nw_ar rfl x)) (fun x => ff_X6_fieldOf nn u e 54 x (nw_ar rfl x))
theorem by_qj_X10_fetch_135 {h : ms_M} (S : TRb n0 b0) : Pc (qj_X10_fetch_135 nn h) (fun u => BYh n0 b0 h u) := by
  have F : BYh n0 b0 h h := by_r
  unfold qj_X10_fetch_135
  refine pc_sv (by_qf_X1_push (by_n S F)) ?_; intro u4 Qu4
  have Fu4 : BYh n0 b0 h u4 := by_t F Qu4
  refine pc_xl ?_; intro h5 Eh5
  have Fh5 : BYh n0 b0 h h5 := by rw [Eh5]; exact by_u Fu4 (by omega)
  exact pc_ret Fh5
theorem by_qj_X10_fetch_120 {s0 : Int} {h : ms_M} (S : TRb n0 b0) : Pc (qj_X10_fetch_120 nn s0 h) (fun u => BYh n0 b0 h u) := by
  have F : BYh n0 b0 h h := by_r
  unfold qj_X10_fetch_120
  refine pc_sv (by_qf_X1_op (by_n S F)) ?_; intro u7 Qu7
  have Fu7 : BYh n0 b0 h u7 := by_t F Qu7
  refine pc_sv (by_qf_X1_pop (by_n S Fu7)) ?_; intro u10 Qu10
  have Fu10 : BYh n0 b0 h u10 := by_t Fu7 Qu10
  exact pc_imp (by_qj_X10_fetch_135 (by_n S Fu10)) (fun _ q => by_t Fu10 q)
theorem by_qj_X10_fetch_53 {s0 : Int} {h : ms_M} (S : TRb n0 b0) : Pc (qj_X10_fetch_53 nn s0 h) (fun u => BYh n0 b0 h u) := by
  have F : BYh n0 b0 h h := by_r
  unfold qj_X10_fetch_53
  refine pc_sv (by_qf_X1_op_ (by_n S F)) ?_; intro u13 Qu13
  have Fu13 : BYh n0 b0 h u13 := by_t F Qu13
  exact pc_imp (by_qj_X10_fetch_135 (by_n S Fu13)) (fun _ q => by_t Fu13 q)
theorem by_qf_X10_fetch {h : ms_M} (S : TRb n0 b0) : Pc (qf_X10_fetch nn h) (fun u => BYh n0 b0 h u) := by
  have F : BYh n0 b0 h h := by_r
  unfold qf_X10_fetch
  refine pc_if (fun _ => ?_) (fun _ => ?_)
  · refine pc_se ?_; intro u17 _
    refine pc_if (fun _ => ?_) (fun _ => ?_)
    · exact pc_imp (by_qj_X10_fetch_53 (by_n S F)) (fun _ q => by_t F q)
    · exact pc_imp (by_qj_X10_fetch_53 (by_n S F)) (fun _ q => by_t F q)
  · refine pc_if (fun _ => ?_) (fun _ => ?_)
    · refine pc_sv (by_qf_X6_fieldOf (by_n S F)) ?_; intro u24 Qu24
      have Fu24 : BYh n0 b0 h u24.2 := by_t F Qu24
      refine pc_sv (by_qf_X1_op_ (by_n S Fu24)) ?_; intro u26 Qu26
      have Fu26 : BYh n0 b0 h u26 := by_t Fu24 Qu26
      refine pc_sv (by_qf_X1_pop (by_n S Fu26)) ?_; intro u29 Qu29
      have Fu29 : BYh n0 b0 h u29 := by_t Fu26 Qu29
      exact pc_imp (by_qj_X10_fetch_135 (by_n S Fu29)) (fun _ q => by_t Fu29 q)
    · refine pc_if (fun _ => ?_) (fun _ => ?_)
      · refine pc_if (fun _ => ?_) (fun _ => ?_)
        · exact pc_imp (by_qj_X10_fetch_120 (by_n S F)) (fun _ q => by_t F q)
        · exact pc_imp (by_qj_X10_fetch_120 (by_n S F)) (fun _ q => by_t F q)
      · exact pc_ret F
theorem by_qf_X10_give {a1 : Int} {h : ms_M} (S : TRb n0 b0) : Pc (qf_X10_give nn a1 h) (fun u => BYh n0 b0 h u) := fun u e => by_fr (ff_X10_give nn u e 34 1 rfl) (ff_X10_give nn u e 49 10 rfl) (fun x => ff_X10_give nn u e 35 x (nw_ar rfl x)) (fun x => ff_X10_give nn u e 54 x (nw_ar rfl x))
theorem by_qf_X10_nameField {a1 : Int} {a2 : Int} {h : ms_M} (S : TRb n0 b0) : Pc (qf_X10_nameField nn a1 a2 h) (fun u => BYh n0 b0 h u) := fun u e => by_fr (ff_X10_nameField nn u e 34 1 rfl) (ff_X10_nameField nn u e 49 10 rfl) (fun x => ff_X10_nameField nn u e 35 x (nw_ar rfl x)) (fun x => ff_X10_nameField nn u e 54 x (nw_ar rfl x))
theorem by_qf_X10_closeCall {a1 : Int} {a2 : Int} {a3 : Int} {h : ms_M} (S : TRb n0 b0) : Pc (qf_X10_closeCall nn a1 a2 a3 h) (fun u => BYh n0 b0 h u) := fun u e => by_fr (ff_X10_closeCall nn u e 34 1 rfl) (ff_X10_closeCall nn u e 49 10 rfl) (fun x => ff_X10_closeCall nn u e 35 x (nw_ar rfl x)) (fun x => ff_X10_closeCall nn u e 54 x (nw_ar rfl x))
theorem by_qf_X6_methodOf {a1 : Int} {a2 : Int} {h : ms_M} (S : TRb n0 b0) : Pc (qf_X6_methodOf nn a1 a2 h) (fun u => BYh n0 b0 h u.2) := fun u e => by_fr (ff_X6_methodOf nn u e 34 1 rfl) (ff_X6_methodOf nn u e 49 10 rfl) (fun x => ff_X6_methodOf nn u e 35 x (nw_ar rfl x)) (fun x => ff_X6_methodOf nn u e 54 x (nw_ar rfl x))
theorem by_qj_X10_giveThis_17 {h : ms_M} (S : TRb n0 b0) : Pc (qj_X10_giveThis_17 nn h) (fun u => BYh n0 b0 h u) := by
  have F : BYh n0 b0 h h := by_r
  unfold qj_X10_giveThis_17
  refine pc_sv (by_qf_X1_op_ (by_n S F)) ?_; intro u3 Qu3
  have Fu3 : BYh n0 b0 h u3 := by_t F Qu3
  refine pc_sv (by_qf_X10_give (by_n S Fu3)) ?_; intro u6 Qu6
  have Fu6 : BYh n0 b0 h u6 := by_t Fu3 Qu6
  exact pc_ret Fu6
theorem by_qf_X10_giveThis {a1 : Int} {h : ms_M} (S : TRb n0 b0) : Pc (qf_X10_giveThis nn a1 h) (fun u => BYh n0 b0 h u) := by
  have F : BYh n0 b0 h h := by_r
  unfold qf_X10_giveThis
  refine pc_if (fun _ => ?_) (fun _ => ?_)
  · exact pc_imp (by_qj_X10_giveThis_17 (by_n S F)) (fun _ q => by_t F q)
  · refine pc_sv (by_qf_X9_tell (by_n S F)) ?_; intro u10 Qu10
    have Fu10 : BYh n0 b0 h u10 := by_t F Qu10
    exact pc_imp (by_qj_X10_giveThis_17 (by_n S Fu10)) (fun _ q => by_t Fu10 q)
theorem by_qf_X6_numberOf {a1 : Int} {h : ms_M} (S : TRb n0 b0) : Pc (qf_X6_numberOf nn a1 h) (fun u => BYh n0 b0 h u.2) := fun u e => by_fr (ff_X6_numberOf nn u e 34 1 rfl) (ff_X6_numberOf nn u e 49 10 rfl) (fun x => ff_X6_numberOf nn u e 35 x (nw_ar rfl x)) (fun x => ff_X6_numberOf nn u e 54 x (nw_ar rfl x))
theorem by_qj_X10_readNumber_54 {h : ms_M} (S : TRb n0 b0) : Pc (qj_X10_readNumber_54 nn h) (fun u => BYh n0 b0 h u) := by
  have F : BYh n0 b0 h h := by_r
  unfold qj_X10_readNumber_54
  refine pc_sv (by_qf_X10_give (by_n S F)) ?_; intro u2 Qu2
  have Fu2 : BYh n0 b0 h u2 := by_t F Qu2
  exact pc_ret Fu2
theorem by_qf_X10_readNumber {a1 : Int} {h : ms_M} (S : TRb n0 b0) : Pc (qf_X10_readNumber nn a1 h) (fun u => BYh n0 b0 h u) := by
  have F : BYh n0 b0 h h := by_r
  unfold qf_X10_readNumber
  refine pc_if (fun _ => ?_) (fun _ => ?_)
  · refine pc_if (fun _ => ?_) (fun _ => ?_)
    · refine pc_sv (by_qf_X6_numberOf (by_n S F)) ?_; intro u6 Qu6
      have Fu6 : BYh n0 b0 h u6.2 := by_t F Qu6
      refine pc_sv (by_qf_X1_op_ (by_n S Fu6)) ?_; intro u8 Qu8
      have Fu8 : BYh n0 b0 h u8 := by_t Fu6 Qu8
      exact pc_imp (by_qj_X10_readNumber_54 (by_n S Fu8)) (fun _ q => by_t Fu8 q)
    · refine pc_sv (by_qf_X1_op_ (by_n S F)) ?_; intro u11 Qu11
      have Fu11 : BYh n0 b0 h u11 := by_t F Qu11
      exact pc_imp (by_qj_X10_readNumber_54 (by_n S Fu11)) (fun _ q => by_t Fu11 q)
  · refine pc_xl ?_; intro v14 _
    refine pc_sv (by_qf_X1_op (by_n S F)) ?_; intro u16 Qu16
    have Fu16 : BYh n0 b0 h u16 := by_t F Qu16
    exact pc_imp (by_qj_X10_readNumber_54 (by_n S Fu16)) (fun _ q => by_t Fu16 q)
theorem by_qf_X10_readConstant {h : ms_M} (S : TRb n0 b0) : Pc (qf_X10_readConstant nn h) (fun u => BYh n0 b0 h u) := by
  have F : BYh n0 b0 h h := by_r
  unfold qf_X10_readConstant
  refine pc_xl ?_; intro v5 _
  refine pc_xl ?_; intro h6 Eh6
  have Fh6 : BYh n0 b0 h h6 := by rw [Eh6]; exact by_u F (by omega)
  refine pc_se ?_; intro u9 _
  refine pc_if (fun _ => ?_) (fun _ => ?_)
  · refine pc_se ?_; intro u14 _
    refine pc_sv (by_qf_X10_readNumber (by_n S Fh6)) ?_; intro u16 Qu16
    have Fu16 : BYh n0 b0 h u16 := by_t Fh6 Qu16
    exact pc_ret Fu16
  · refine pc_if (fun _ => ?_) (fun _ => ?_)
    · refine pc_sv (by_qf_X1_op (by_n S Fh6)) ?_; intro u19 Qu19
      have Fu19 : BYh n0 b0 h u19 := by_t Fh6 Qu19
      refine pc_sv (by_qf_X10_give (by_n S Fu19)) ?_; intro u21 Qu21
      have Fu21 : BYh n0 b0 h u21 := by_t Fu19 Qu21
      exact pc_ret Fu21
    · refine pc_if (fun _ => ?_) (fun _ => ?_)
      · refine pc_sv (by_qf_X1_op (by_n S Fh6)) ?_; intro u24 Qu24
        have Fu24 : BYh n0 b0 h u24 := by_t Fh6 Qu24
        refine pc_sv (by_qf_X10_give (by_n S Fu24)) ?_; intro u26 Qu26
        have Fu26 : BYh n0 b0 h u26 := by_t Fu24 Qu26
        exact pc_ret Fu26
      · refine pc_if (fun _ => ?_) (fun _ => ?_)
        · refine pc_sv (by_qf_X1_op (by_n S Fh6)) ?_; intro u29 Qu29
          have Fu29 : BYh n0 b0 h u29 := by_t Fh6 Qu29
          refine pc_sv (by_qf_X10_give (by_n S Fu29)) ?_; intro u31 Qu31
          have Fu31 : BYh n0 b0 h u31 := by_t Fu29 Qu31
          exact pc_ret Fu31
        · refine pc_sv (by_qf_X10_giveThis (by_n S Fh6)) ?_; intro u11 Qu11
          have Fu11 : BYh n0 b0 h u11 := by_t Fh6 Qu11
          exact pc_ret Fu11
theorem by_qf_X10_methodNamed {a1 : Int} {a2 : Int} {h : ms_M} (S : TRb n0 b0) : Pc (qf_X10_methodNamed nn a1 a2 h) (fun u => BYh n0 b0 h u.2) := fun u e => by_fr (ff_X10_methodNamed nn u e 34 1 rfl) (ff_X10_methodNamed nn u e 49 10 rfl) (fun x => ff_X10_methodNamed nn u e 35 x (nw_ar rfl x)) (fun x => ff_X10_methodNamed nn u e 54 x (nw_ar rfl x))
theorem by_qj_X10_readUnary_116 {rc : tq_X10_readValue} {l2 : Int} (G : BYhG n0 b0 rc) {h : ms_M} (S : TRb n0 b0) : Pc (qj_X10_readUnary_116 nn rc l2 h) (fun u => BYh n0 b0 h u) := by
  have F : BYh n0 b0 h h := by_r
  unfold qj_X10_readUnary_116
  refine pc_xl ?_; intro h1 Eh1
  have Fh1 : BYh n0 b0 h h1 := by rw [Eh1]; exact by_u F (by omega)
  exact pc_ret Fh1
theorem by_qj_X10_readUnary_41 {rc : tq_X10_readValue} {l1 : Int} {l2 : Int} {l3 : Int} (G : BYhG n0 b0 rc) {h : ms_M} (S : TRb n0 b0) : Pc (qj_X10_readUnary_41 nn rc l1 l2 l3 h) (fun u => BYh n0 b0 h u) := by
  have F : BYh n0 b0 h h := by_r
  unfold qj_X10_readUnary_41
  refine pc_xl ?_; intro v4 _
  refine pc_xl ?_; intro h5 Eh5
  have Fh5 : BYh n0 b0 h h5 := by rw [Eh5]; exact by_u F (by omega)
  refine pc_xl ?_; intro v6 _
  refine pc_sv (G.2.2.1 (by_n S Fh5)) ?_; intro u8 Qu8
  have Fu8 : BYh n0 b0 h u8 := by_t Fh5 Qu8
  refine pc_sv (by_qf_X10_closeUnary (by_n S Fu8)) ?_; intro u10 Qu10
  have Fu10 : BYh n0 b0 h u10 := by_t Fu8 Qu10
  exact pc_imp (by_qj_X10_readUnary_116 G (by_n S Fu10)) (fun _ q => by_t Fu10 q)
theorem by_qo_X10_readUnary {rc : tq_X10_readValue} {a1 : Int} (G : BYhG n0 b0 rc) {h : ms_M} (S : TRb n0 b0) : Pc (qo_X10_readUnary nn rc a1 h) (fun u => BYh n0 b0 h u) := by
  have F : BYh n0 b0 h h := by_r
  unfold qo_X10_readUnary
  refine pc_if (fun _ => ?_) (fun _ => ?_)
  · refine pc_se ?_; intro u15 _
    refine pc_if (fun _ => ?_) (fun _ => ?_)
    · exact pc_imp (by_qj_X10_readUnary_41 G (by_n S F)) (fun _ q => by_t F q)
    · refine pc_if (fun _ => ?_) (fun _ => ?_)
      · exact pc_imp (by_qj_X10_readUnary_41 G (by_n S F)) (fun _ q => by_t F q)
      · refine pc_if (fun _ => ?_) (fun _ => ?_)
        · refine pc_se ?_; intro u18 _
          refine pc_if (fun _ => ?_) (fun _ => ?_)
          · refine pc_sv (G.2.2.2.1 (by_n S F)) ?_; intro u20 Qu20
            have Fu20 : BYh n0 b0 h u20 := by_t F Qu20
            exact pc_imp (by_qj_X10_readUnary_116 G (by_n S Fu20)) (fun _ q => by_t Fu20 q)
          · refine pc_xl ?_; intro v21 _
            refine pc_xl ?_; intro v22 _
            refine pc_sv (by_qf_X10_readNamedClass (by_n S F)) ?_; intro u24 Qu24
            have Fu24 : BYh n0 b0 h u24.2 := by_t F Qu24
            refine pc_xl ?_; intro v25 _
            refine pc_sv (G.2.2.1 (by_n S Fu24)) ?_; intro u27 Qu27
            have Fu27 : BYh n0 b0 h u27 := by_t Fu24 Qu27
            refine pc_xl ?_; intro v28 _
            refine pc_sv (by_qf_X10_closeCast (by_n S Fu27)) ?_; intro u30 Qu30
            have Fu30 : BYh n0 b0 h u30 := by_t Fu27 Qu30
            exact pc_imp (by_qj_X10_readUnary_116 G (by_n S Fu30)) (fun _ q => by_t Fu30 q)
        · exact pc_imp (by_qj_X10_readUnary_41 G (by_n S F)) (fun _ q => by_t F q)
  · exact pc_ret F
theorem by_qj_X10_readPrimary_176 {rc : tq_X10_readValue} {l3 : Int} (G : BYhG n0 b0 rc) {h : ms_M} (S : TRb n0 b0) : Pc (qj_X10_readPrimary_176 nn rc l3 h) (fun u => BYh n0 b0 h u) := by
  have F : BYh n0 b0 h h := by_r
  unfold qj_X10_readPrimary_176
  refine pc_if (fun _ => ?_) (fun _ => ?_)
  · exact pc_ret F
  · refine pc_sv (by_qf_X10_fetch (by_n S F)) ?_; intro u2 Qu2
    have Fu2 : BYh n0 b0 h u2 := by_t F Qu2
    exact pc_ret Fu2
theorem by_qj_X10_readPrimary_162 {rc : tq_X10_readValue} {l1 : Int} {l2 : Int} {l4 : Int} (G : BYhG n0 b0 rc) {qkk_118 : Int → Int → Int → Int → ms_M → Option ms_M} (Hqkk_118 : ∀ (z0 : Int) (z1 : Int) (z2 : Int) (z3 : Int) (z4 : ms_M), TRb n0 b0 → Pc (qkk_118 z0 z1 z2 z3 z4) (fun u => BYh n0 b0 z4 u)) {h : ms_M} (S : TRb n0 b0) : Pc (qj_X10_readPrimary_162 nn rc qkk_118 l1 l2 l4 h) (fun u => BYh n0 b0 h u) := by
  have F : BYh n0 b0 h h := by_r
  unfold qj_X10_readPrimary_162
  refine pc_se ?_; intro u6 _
  refine pc_xl ?_; intro v7 _
  exact pc_imp (Hqkk_118 _ _ _ _ _ (by_n S F)) (fun _ q => by_t F q)
theorem by_qj_X10_readPrimary_138 {rc : tq_X10_readValue} {l1 : Int} {l2 : Int} {l3 : Int} {l4 : Int} (G : BYhG n0 b0 rc) {qkk_118 : Int → Int → Int → Int → ms_M → Option ms_M} (Hqkk_118 : ∀ (z0 : Int) (z1 : Int) (z2 : Int) (z3 : Int) (z4 : ms_M), TRb n0 b0 → Pc (qkk_118 z0 z1 z2 z3 z4) (fun u => BYh n0 b0 z4 u)) {h : ms_M} (S : TRb n0 b0) : Pc (qj_X10_readPrimary_138 nn rc qkk_118 l1 l2 l3 l4 h) (fun u => BYh n0 b0 h u) := by
  have F : BYh n0 b0 h h := by_r
  unfold qj_X10_readPrimary_138
  refine pc_sv (by_qf_X10_fetch (by_n S F)) ?_; intro u9 Qu9
  have Fu9 : BYh n0 b0 h u9 := by_t F Qu9
  refine pc_if (fun _ => ?_) (fun _ => ?_)
  · refine pc_sv (G.2.2.2.2.2.1 (by_n S Fu9)) ?_; intro u11 Qu11
    have Fu11 : BYh n0 b0 h u11 := by_t Fu9 Qu11
    exact pc_imp (by_qj_X10_readPrimary_162 G Hqkk_118 (by_n S Fu11)) (fun _ q => by_t Fu11 q)
  · refine pc_sv (G.2.2.2.2.2.2.2.1 (by_n S Fu9)) ?_; intro u13 Qu13
    have Fu13 : BYh n0 b0 h u13 := by_t Fu9 Qu13
    exact pc_imp (by_qj_X10_readPrimary_162 G Hqkk_118 (by_n S Fu13)) (fun _ q => by_t Fu13 q)
theorem by_qw_X10_readPrimary_118 {rc : tq_X10_readValue} (G : BYhG n0 b0 rc) : ∀ (k : Nat) (l1 : Int) (l2 : Int) (l3 : Int) (l4 : Int) (h : ms_M), TRb n0 b0 → Pc (qw_X10_readPrimary_118 nn rc k l1 l2 l3 l4 h) (fun u => BYh n0 b0 h u) := by
  intro k
  induction k with
  | zero => intros; exact pc_none
  | succ k ih =>
    intro l1 l2 l3 l4 h S
    have F : BYh n0 b0 h h := by_r
    unfold qw_X10_readPrimary_118
    refine pc_if (fun _ => ?_) (fun _ => ?_)
    · exact pc_imp (by_qj_X10_readPrimary_176 G (by_n S F)) (fun _ q => by_t F q)
    · refine pc_if (fun _ => ?_) (fun _ => ?_)
      · exact pc_imp (by_qj_X10_readPrimary_138 G (fun _ _ _ _ _ S => ih _ _ _ _ _ S) (by_n S F)) (fun _ q => by_t F q)
      · refine pc_if (fun _ => ?_) (fun _ => ?_)
        · exact pc_imp (by_qj_X10_readPrimary_176 G (by_n S F)) (fun _ q => by_t F q)
        · exact pc_imp (by_qj_X10_readPrimary_138 G (fun _ _ _ _ _ S => ih _ _ _ _ _ S) (by_n S F)) (fun _ q => by_t F q)
theorem by_qj_X10_readPrimary_107 {rc : tq_X10_readValue} {l1 : Int} {l2 : Int} (G : BYhG n0 b0 rc) {h : ms_M} (S : TRb n0 b0) : Pc (qj_X10_readPrimary_107 nn rc l1 l2 h) (fun u => BYh n0 b0 h u) := by
  have F : BYh n0 b0 h h := by_r
  unfold qj_X10_readPrimary_107
  refine pc_se ?_; intro u20 _
  exact pc_imp (by_qw_X10_readPrimary_118 G _ _ _ _ _ _ (by_n S F)) (fun _ q => by_t F q)
theorem by_qo_X10_readPrimary {rc : tq_X10_readValue} {a1 : Int} (G : BYhG n0 b0 rc) {h : ms_M} (S : TRb n0 b0) : Pc (qo_X10_readPrimary nn rc a1 h) (fun u => BYh n0 b0 h u) := by
  have F : BYh n0 b0 h h := by_r
  unfold qo_X10_readPrimary
  refine pc_se ?_; intro u25 _
  refine pc_if (fun _ => ?_) (fun _ => ?_)
  · refine pc_sv (G.2.2.2.2.2.2.1 (by_n S F)) ?_; intro u29 Qu29
    have Fu29 : BYh n0 b0 h u29 := by_t F Qu29
    exact pc_imp (by_qj_X10_readPrimary_107 G (by_n S Fu29)) (fun _ q => by_t Fu29 q)
  · refine pc_if (fun _ => ?_) (fun _ => ?_)
    · refine pc_sv (G.2.2.2.2.1 (by_n S F)) ?_; intro u31 Qu31
      have Fu31 : BYh n0 b0 h u31 := by_t F Qu31
      exact pc_imp (by_qj_X10_readPrimary_107 G (by_n S Fu31)) (fun _ q => by_t Fu31 q)
    · refine pc_if (fun _ => ?_) (fun _ => ?_)
      · refine pc_xl ?_; intro v34 _
        refine pc_xl ?_; intro h35 Eh35
        have Fh35 : BYh n0 b0 h h35 := by rw [Eh35]; exact by_u F (by omega)
        refine pc_sv (G.1 (by_n S Fh35)) ?_; intro u37 Qu37
        have Fu37 : BYh n0 b0 h u37 := by_t Fh35 Qu37
        refine pc_xl ?_; intro v40 _
        refine pc_xl ?_; intro h41 Eh41
        have Fh41 : BYh n0 b0 h h41 := by rw [Eh41]; exact by_u Fu37 (by omega)
        refine pc_xl ?_; intro h42 Eh42
        have Fh42 : BYh n0 b0 h h42 := by rw [Eh42]; exact by_u Fh41 (by omega)
        exact pc_imp (by_qj_X10_readPrimary_107 G (by_n S Fh42)) (fun _ q => by_t Fh42 q)
      · refine pc_sv (by_qf_X10_readConstant (by_n S F)) ?_; intro u27 Qu27
        have Fu27 : BYh n0 b0 h u27 := by_t F Qu27
        exact pc_imp (by_qj_X10_readPrimary_107 G (by_n S Fu27)) (fun _ q => by_t Fu27 q)
theorem by_qj_X10_readNew_188 {rc : tq_X10_readValue} {l3 : Int} {l4 : Int} {s0 : Int} {s1 : Int} (G : BYhG n0 b0 rc) {h : ms_M} (S : TRb n0 b0) : Pc (qj_X10_readNew_188 nn rc l3 l4 s0 s1 h) (fun u => BYh n0 b0 h u) := by
  have F : BYh n0 b0 h h := by_r
  unfold qj_X10_readNew_188
  refine pc_sv (by_qf_X1_op_ (by_n S F)) ?_; intro u2 Qu2
  have Fu2 : BYh n0 b0 h u2 := by_t F Qu2
  refine pc_sv (by_qf_X1_pop (by_n S Fu2)) ?_; intro u5 Qu5
  have Fu5 : BYh n0 b0 h u5 := by_t Fu2 Qu5
  refine pc_if (fun _ => ?_) (fun _ => ?_)
  · refine pc_xl ?_; intro v6 _
    refine pc_sv (by_qf_X10_give (by_n S Fu5)) ?_; intro u8 Qu8
    have Fu8 : BYh n0 b0 h u8 := by_t Fu5 Qu8
    exact pc_ret Fu8
  · refine pc_sv (by_qf_X10_give (by_n S Fu5)) ?_; intro u10 Qu10
    have Fu10 : BYh n0 b0 h u10 := by_t Fu5 Qu10
    exact pc_ret Fu10
theorem by_qj_X10_readNew_170 {rc : tq_X10_readValue} {l3 : Int} {l4 : Int} {s0 : Int} (G : BYhG n0 b0 rc) {h : ms_M} (S : TRb n0 b0) : Pc (qj_X10_readNew_170 nn rc l3 l4 s0 h) (fun u => BYh n0 b0 h u) := by
  have F : BYh n0 b0 h h := by_r
  unfold qj_X10_readNew_170
  refine pc_if (fun _ => ?_) (fun _ => ?_)
  · refine pc_sv (by_qf_X6_classOf (by_n S F)) ?_; intro u14 Qu14
    have Fu14 : BYh n0 b0 h u14.2 := by_t F Qu14
    exact pc_imp (by_qj_X10_readNew_188 G (by_n S Fu14)) (fun _ q => by_t Fu14 q)
  · exact pc_imp (by_qj_X10_readNew_188 G (by_n S F)) (fun _ q => by_t F q)
theorem by_qj_X10_readNew_147 {rc : tq_X10_readValue} {l2 : Int} {l3 : Int} {l4 : Int} {s0 : Int} (G : BYhG n0 b0 rc) {h : ms_M} (S : TRb n0 b0) : Pc (qj_X10_readNew_147 nn rc l2 l3 l4 s0 h) (fun u => BYh n0 b0 h u) := by
  have F : BYh n0 b0 h h := by_r
  unfold qj_X10_readNew_147
  refine pc_xl ?_; intro v16 _
  refine pc_sv (by_qf_X10_wantType (by_n S F)) ?_; intro u18 Qu18
  have Fu18 : BYh n0 b0 h u18 := by_t F Qu18
  refine pc_if (fun _ => ?_) (fun _ => ?_)
  · exact pc_imp (by_qj_X10_readNew_170 G (by_n S Fu18)) (fun _ q => by_t Fu18 q)
  · exact pc_imp (by_qj_X10_readNew_170 G (by_n S Fu18)) (fun _ q => by_t Fu18 q)
theorem by_qj_X10_readNew_43 {rc : tq_X10_readValue} {l1 : Int} {l2 : Int} {l3 : Int} {s0 : Int} (G : BYhG n0 b0 rc) {h : ms_M} (S : TRb n0 b0) : Pc (qj_X10_readNew_43 nn rc l1 l2 l3 s0 h) (fun u => BYh n0 b0 h u) := by
  have F : BYh n0 b0 h h := by_r
  unfold qj_X10_readNew_43
  refine pc_if (fun _ => ?_) (fun _ => ?_)
  · refine pc_xl ?_; intro v22 _
    refine pc_se ?_; intro u24 _
    refine pc_if (fun _ => ?_) (fun _ => ?_)
    · refine pc_xl ?_; intro v26 _
      refine pc_xl ?_; intro h27 Eh27
      have Fh27 : BYh n0 b0 h h27 := by rw [Eh27]; exact by_u F (by omega)
      refine pc_sv (G.1 (by_n S Fh27)) ?_; intro u29 Qu29
      have Fu29 : BYh n0 b0 h u29 := by_t Fh27 Qu29
      refine pc_xl ?_; intro v32 _
      refine pc_xl ?_; intro h33 Eh33
      have Fh33 : BYh n0 b0 h h33 := by rw [Eh33]; exact by_u Fu29 (by omega)
      refine pc_if (fun _ => ?_) (fun _ => ?_)
      · exact pc_imp (by_qj_X10_readNew_147 G (by_n S Fh33)) (fun _ q => by_t Fh33 q)
      · exact pc_imp (by_qj_X10_readNew_147 G (by_n S Fh33)) (fun _ q => by_t Fh33 q)
    · refine pc_xl ?_; intro v37 _
      refine pc_xl ?_; intro h38 Eh38
      have Fh38 : BYh n0 b0 h h38 := by rw [Eh38]; exact by_u F (by omega)
      refine pc_sv (by_qf_X6_classOf (by_n S Fh38)) ?_; intro u42 Qu42
      have Fu42 : BYh n0 b0 h u42.2 := by_t Fh38 Qu42
      refine pc_sv (by_qf_X1_op_ (by_n S Fu42)) ?_; intro u44 Qu44
      have Fu44 : BYh n0 b0 h u44 := by_t Fu42 Qu44
      refine pc_sv (by_qf_X10_give (by_n S Fu44)) ?_; intro u46 Qu46
      have Fu46 : BYh n0 b0 h u46 := by_t Fu44 Qu46
      exact pc_ret Fu46
  · exact pc_ret F
theorem by_qj_X10_readNew_28 {rc : tq_X10_readValue} {l1 : Int} {l2 : Int} {s0 : Int} (G : BYhG n0 b0 rc) {h : ms_M} (S : TRb n0 b0) : Pc (qj_X10_readNew_28 nn rc l1 l2 s0 h) (fun u => BYh n0 b0 h u) := by
  have F : BYh n0 b0 h h := by_r
  unfold qj_X10_readNew_28
  refine pc_if (fun _ => ?_) (fun _ => ?_)
  · refine pc_sv (by_qf_X10_readNamedClass (by_n S F)) ?_; intro u50 Qu50
    have Fu50 : BYh n0 b0 h u50.2 := by_t F Qu50
    exact pc_imp (by_qj_X10_readNew_43 G (by_n S Fu50)) (fun _ q => by_t Fu50 q)
  · exact pc_imp (by_qj_X10_readNew_43 G (by_n S F)) (fun _ q => by_t F q)
theorem by_qo_X10_readNew {rc : tq_X10_readValue} {a1 : Int} (G : BYhG n0 b0 rc) {h : ms_M} (S : TRb n0 b0) : Pc (qo_X10_readNew nn rc a1 h) (fun u => BYh n0 b0 h u) := by
  have F : BYh n0 b0 h h := by_r
  unfold qo_X10_readNew
  refine pc_xl ?_; intro v54 _
  refine pc_se ?_; intro u57 _
  refine pc_if (fun _ => ?_) (fun _ => ?_)
  · exact pc_imp (by_qj_X10_readNew_28 G (by_n S F)) (fun _ q => by_t F q)
  · exact pc_imp (by_qj_X10_readNew_28 G (by_n S F)) (fun _ q => by_t F q)
theorem by_qj_X10_readElement_67 {rc : tq_X10_readValue} {l2 : Int} {l3 : Int} {s0 : Int} (G : BYhG n0 b0 rc) {h : ms_M} (S : TRb n0 b0) : Pc (qj_X10_readElement_67 nn rc l2 l3 s0 h) (fun u => BYh n0 b0 h u) := by
  have F : BYh n0 b0 h h := by_r
  unfold qj_X10_readElement_67
  refine pc_sv (by_qf_X10_wantType (by_n S F)) ?_; intro u2 Qu2
  have Fu2 : BYh n0 b0 h u2 := by_t F Qu2
  refine pc_se ?_; intro u3 _
  refine pc_xl ?_; intro h4 Eh4
  have Fh4 : BYh n0 b0 h h4 := by rw [Eh4]; exact by_u Fu2 (by omega)
  refine pc_xl ?_; intro h5 Eh5
  have Fh5 : BYh n0 b0 h h5 := by rw [Eh5]; exact by_u Fh4 (by omega)
  exact pc_ret Fh5
theorem by_qj_X10_readElement_66 {rc : tq_X10_readValue} {l2 : Int} {l3 : Int} (G : BYhG n0 b0 rc) {h : ms_M} (S : TRb n0 b0) : Pc (qj_X10_readElement_66 nn rc l2 l3 h) (fun u => BYh n0 b0 h u) := by
  have F : BYh n0 b0 h h := by_r
  unfold qj_X10_readElement_66
  exact pc_imp (by_qj_X10_readElement_67 G (by_n S F)) (fun _ q => by_t F q)
theorem by_qo_X10_readElement {rc : tq_X10_readValue} {a1 : Int} (G : BYhG n0 b0 rc) {h : ms_M} (S : TRb n0 b0) : Pc (qo_X10_readElement nn rc a1 h) (fun u => BYh n0 b0 h u) := by
  have F : BYh n0 b0 h h := by_r
  unfold qo_X10_readElement
  refine pc_xl ?_; intro v11 _
  refine pc_xl ?_; intro h12 Eh12
  have Fh12 : BYh n0 b0 h h12 := by rw [Eh12]; exact by_u F (by omega)
  refine pc_sv (G.1 (by_n S Fh12)) ?_; intro u14 Qu14
  have Fu14 : BYh n0 b0 h u14 := by_t Fh12 Qu14
  refine pc_xl ?_; intro v17 _
  refine pc_xl ?_; intro h18 Eh18
  have Fh18 : BYh n0 b0 h h18 := by rw [Eh18]; exact by_u Fu14 (by omega)
  refine pc_se ?_; intro u19 _
  refine pc_if (fun _ => ?_) (fun _ => ?_)
  · exact pc_imp (by_qj_X10_readElement_66 G (by_n S Fh18)) (fun _ q => by_t Fh18 q)
  · refine pc_if (fun _ => ?_) (fun _ => ?_)
    · exact pc_imp (by_qj_X10_readElement_66 G (by_n S Fh18)) (fun _ q => by_t Fh18 q)
    · exact pc_imp (by_qj_X10_readElement_67 G (by_n S Fh18)) (fun _ q => by_t Fh18 q)
theorem by_qj_X10_readNamed_123 {rc : tq_X10_readValue} {l1 : Int} {l2 : Int} {l4 : Int} {s0 : Int} (G : BYhG n0 b0 rc) {h : ms_M} (S : TRb n0 b0) : Pc (qj_X10_readNamed_123 nn rc l1 l2 l4 s0 h) (fun u => BYh n0 b0 h u) := by
  have F : BYh n0 b0 h h := by_r
  unfold qj_X10_readNamed_123
  refine pc_if (fun _ => ?_) (fun _ => ?_)
  · refine pc_if (fun _ => ?_) (fun _ => ?_)
    · refine pc_xl ?_; intro v1 _
      refine pc_se ?_; intro u3 _
      refine pc_if (fun _ => ?_) (fun _ => ?_)
      · refine pc_sv (by_qf_X9_tell (by_n S F)) ?_; intro u6 Qu6
        have Fu6 : BYh n0 b0 h u6 := by_t F Qu6
        exact pc_ret Fu6
      · refine pc_xl ?_; intro v7 _
        refine pc_sv (by_qf_X10_readNamedClass (by_n S F)) ?_; intro u9 Qu9
        have Fu9 : BYh n0 b0 h u9.2 := by_t F Qu9
        refine pc_xl ?_; intro v10 _
        refine pc_sv (by_qf_X10_methodNamed (by_n S Fu9)) ?_; intro u12 Qu12
        have Fu12 : BYh n0 b0 h u12.2 := by_t Fu9 Qu12
        refine pc_xl ?_; intro v13 _
        refine pc_sv (G.2.2.2.2.2.2.2.2 (by_n S Fu12)) ?_; intro u15 Qu15
        have Fu15 : BYh n0 b0 h u15 := by_t Fu12 Qu15
        exact pc_ret Fu15
    · refine pc_sv (by_qf_X10_giveThis (by_n S F)) ?_; intro u18 Qu18
      have Fu18 : BYh n0 b0 h u18 := by_t F Qu18
      refine pc_sv (by_qf_X10_nameField (by_n S Fu18)) ?_; intro u21 Qu21
      have Fu21 : BYh n0 b0 h u21 := by_t Fu18 Qu21
      exact pc_ret Fu21
  · refine pc_xl ?_; intro h23 Eh23
    have Fh23 : BYh n0 b0 h h23 := by rw [Eh23]; exact by_u F (by omega)
    refine pc_xl ?_; intro h24 Eh24
    have Fh24 : BYh n0 b0 h h24 := by rw [Eh24]; exact by_u Fh23 (by omega)
    refine pc_se ?_; intro u27 _
    refine pc_xl ?_; intro h28 Eh28
    have Fh28 : BYh n0 b0 h h28 := by rw [Eh28]; exact by_u Fh24 (by omega)
    exact pc_ret Fh28
theorem by_qj_X10_readNamed_76 {rc : tq_X10_readValue} {l1 : Int} {l2 : Int} {l4 : Int} (G : BYhG n0 b0 rc) {h : ms_M} (S : TRb n0 b0) : Pc (qj_X10_readNamed_76 nn rc l1 l2 l4 h) (fun u => BYh n0 b0 h u) := by
  have F : BYh n0 b0 h h := by_r
  unfold qj_X10_readNamed_76
  refine pc_sv (G.2.2.2.2.2.2.2.2 (by_n S F)) ?_; intro u32 Qu32
  have Fu32 : BYh n0 b0 h u32 := by_t F Qu32
  exact pc_ret Fu32
theorem by_qo_X10_readNamed {rc : tq_X10_readValue} {a1 : Int} (G : BYhG n0 b0 rc) {h : ms_M} (S : TRb n0 b0) : Pc (qo_X10_readNamed nn rc a1 h) (fun u => BYh n0 b0 h u) := by
  have F : BYh n0 b0 h h := by_r
  unfold qo_X10_readNamed
  refine pc_se ?_; intro u37 _
  refine pc_xl ?_; intro v40 _
  refine pc_xl ?_; intro h41 Eh41
  have Fh41 : BYh n0 b0 h h41 := by rw [Eh41]; exact by_u F (by omega)
  refine pc_se ?_; intro u44 _
  refine pc_if (fun _ => ?_) (fun _ => ?_)
  · refine pc_se ?_; intro u47 _
    refine pc_if (fun _ => ?_) (fun _ => ?_)
    · exact pc_imp (by_qj_X10_readNamed_123 G (by_n S Fh41)) (fun _ q => by_t Fh41 q)
    · refine pc_se ?_; intro u51 _
      exact pc_imp (by_qj_X10_readNamed_123 G (by_n S Fh41)) (fun _ q => by_t Fh41 q)
  · refine pc_sv (by_qf_X10_methodNamed (by_n S Fh41)) ?_; intro u55 Qu55
    have Fu55 : BYh n0 b0 h u55.2 := by_t Fh41 Qu55
    refine pc_if (fun _ => ?_) (fun _ => ?_)
    · exact pc_imp (by_qj_X10_readNamed_76 G (by_n S Fu55)) (fun _ q => by_t Fu55 q)
    · refine pc_se ?_; intro u58 _
      refine pc_if (fun _ => ?_) (fun _ => ?_)
      · exact pc_imp (by_qj_X10_readNamed_76 G (by_n S Fu55)) (fun _ q => by_t Fu55 q)
      · refine pc_sv (by_qf_X10_giveThis (by_n S Fu55)) ?_; intro u60 Qu60
        have Fu60 : BYh n0 b0 h u60 := by_t Fu55 Qu60
        exact pc_imp (by_qj_X10_readNamed_76 G (by_n S Fu60)) (fun _ q => by_t Fu60 q)
theorem by_qj_X10_readBehindPoint_149 {rc : tq_X10_readValue} {l1 : Int} {l2 : Int} {l3 : Int} {l5 : Int} {l6 : Int} {l7 : Int} (G : BYhG n0 b0 rc) {h : ms_M} (S : TRb n0 b0) : Pc (qj_X10_readBehindPoint_149 nn rc l1 l2 l3 l5 l6 l7 h) (fun u => BYh n0 b0 h u) := by
  have F : BYh n0 b0 h h := by_r
  unfold qj_X10_readBehindPoint_149
  refine pc_xl ?_; intro v2 _
  refine pc_xl ?_; intro h3 Eh3
  have Fh3 : BYh n0 b0 h h3 := by rw [Eh3]; exact by_u F (by omega)
  refine pc_if (fun _ => ?_) (fun _ => ?_)
  · refine pc_if (fun _ => ?_) (fun _ => ?_)
    · refine pc_sv (by_qf_X10_nameField (by_n S Fh3)) ?_; intro u6 Qu6
      have Fu6 : BYh n0 b0 h u6 := by_t Fh3 Qu6
      exact pc_ret Fu6
    · refine pc_sv (by_qf_X1_op (by_n S Fh3)) ?_; intro u9 Qu9
      have Fu9 : BYh n0 b0 h u9 := by_t Fh3 Qu9
      refine pc_sv (by_qf_X1_pop (by_n S Fu9)) ?_; intro u12 Qu12
      have Fu12 : BYh n0 b0 h u12 := by_t Fu9 Qu12
      refine pc_sv (by_qf_X10_give (by_n S Fu12)) ?_; intro u14 Qu14
      have Fu14 : BYh n0 b0 h u14 := by_t Fu12 Qu14
      exact pc_ret Fu14
  · refine pc_sv (G.2.2.2.2.2.2.2.2 (by_n S Fh3)) ?_; intro u18 Qu18
    have Fu18 : BYh n0 b0 h u18 := by_t Fh3 Qu18
    exact pc_ret Fu18
theorem by_qj_X10_readBehindPoint_140 {rc : tq_X10_readValue} {l1 : Int} {l2 : Int} {l3 : Int} {l5 : Int} {l6 : Int} {l7 : Int} (G : BYhG n0 b0 rc) {h : ms_M} (S : TRb n0 b0) : Pc (qj_X10_readBehindPoint_140 nn rc l1 l2 l3 l5 l6 l7 h) (fun u => BYh n0 b0 h u) := by
  have F : BYh n0 b0 h h := by_r
  unfold qj_X10_readBehindPoint_140
  refine pc_sv (by_qf_X9_tell (by_n S F)) ?_; intro u22 Qu22
  have Fu22 : BYh n0 b0 h u22 := by_t F Qu22
  exact pc_imp (by_qj_X10_readBehindPoint_149 G (by_n S Fu22)) (fun _ q => by_t Fu22 q)
theorem by_qj_X10_readBehindPoint_112 {rc : tq_X10_readValue} {l1 : Int} {l2 : Int} {l3 : Int} {l4 : Int} {l5 : Int} {l6 : Int} {s0 : Int} (G : BYhG n0 b0 rc) {h : ms_M} (S : TRb n0 b0) : Pc (qj_X10_readBehindPoint_112 nn rc l1 l2 l3 l4 l5 l6 s0 h) (fun u => BYh n0 b0 h u) := by
  have F : BYh n0 b0 h h := by_r
  unfold qj_X10_readBehindPoint_112
  refine pc_if (fun _ => ?_) (fun _ => ?_)
  · refine pc_if (fun _ => ?_) (fun _ => ?_)
    · exact pc_imp (by_qj_X10_readBehindPoint_149 G (by_n S F)) (fun _ q => by_t F q)
    · exact pc_imp (by_qj_X10_readBehindPoint_140 G (by_n S F)) (fun _ q => by_t F q)
  · refine pc_if (fun _ => ?_) (fun _ => ?_)
    · exact pc_imp (by_qj_X10_readBehindPoint_140 G (by_n S F)) (fun _ q => by_t F q)
    · refine pc_if (fun _ => ?_) (fun _ => ?_)
      · exact pc_imp (by_qj_X10_readBehindPoint_149 G (by_n S F)) (fun _ q => by_t F q)
      · exact pc_imp (by_qj_X10_readBehindPoint_140 G (by_n S F)) (fun _ q => by_t F q)
theorem by_qj_X10_readBehindPoint_72 {rc : tq_X10_readValue} {l1 : Int} {l2 : Int} {l3 : Int} {l4 : Int} {l5 : Int} {l6 : Int} {s0 : Int} (G : BYhG n0 b0 rc) {h : ms_M} (S : TRb n0 b0) : Pc (qj_X10_readBehindPoint_72 nn rc l1 l2 l3 l4 l5 l6 s0 h) (fun u => BYh n0 b0 h u) := by
  have F : BYh n0 b0 h h := by_r
  unfold qj_X10_readBehindPoint_72
  refine pc_xl ?_; intro v27 _
  refine pc_sv (by_qf_X10_wantType (by_n S F)) ?_; intro u29 Qu29
  have Fu29 : BYh n0 b0 h u29 := by_t F Qu29
  refine pc_if (fun _ => ?_) (fun _ => ?_)
  · refine pc_se ?_; intro u33 _
    exact pc_imp (by_qj_X10_readBehindPoint_112 G (by_n S Fu29)) (fun _ q => by_t Fu29 q)
  · refine pc_se ?_; intro u37 _
    exact pc_imp (by_qj_X10_readBehindPoint_112 G (by_n S Fu29)) (fun _ q => by_t Fu29 q)
theorem by_qj_X10_readBehindPoint_67 {rc : tq_X10_readValue} {l1 : Int} {l2 : Int} {l3 : Int} {l4 : Int} {l5 : Int} {l6 : Int} (G : BYhG n0 b0 rc) {h : ms_M} (S : TRb n0 b0) : Pc (qj_X10_readBehindPoint_67 nn rc l1 l2 l3 l4 l5 l6 h) (fun u => BYh n0 b0 h u) := by
  have F : BYh n0 b0 h h := by_r
  unfold qj_X10_readBehindPoint_67
  exact pc_imp (by_qj_X10_readBehindPoint_72 G (by_n S F)) (fun _ q => by_t F q)
theorem by_qj_X10_readBehindPoint_40 {rc : tq_X10_readValue} {l1 : Int} {l2 : Int} {l3 : Int} {l4 : Int} {s0 : Int} (G : BYhG n0 b0 rc) {h : ms_M} (S : TRb n0 b0) : Pc (qj_X10_readBehindPoint_40 nn rc l1 l2 l3 l4 s0 h) (fun u => BYh n0 b0 h u) := by
  have F : BYh n0 b0 h h := by_r
  unfold qj_X10_readBehindPoint_40
  refine pc_se ?_; intro u40 _
  refine pc_if (fun _ => ?_) (fun _ => ?_)
  · exact pc_imp (by_qj_X10_readBehindPoint_67 G (by_n S F)) (fun _ q => by_t F q)
  · refine pc_se ?_; intro u42 _
    refine pc_if (fun _ => ?_) (fun _ => ?_)
    · exact pc_imp (by_qj_X10_readBehindPoint_72 G (by_n S F)) (fun _ q => by_t F q)
    · exact pc_imp (by_qj_X10_readBehindPoint_67 G (by_n S F)) (fun _ q => by_t F q)
theorem by_qo_X10_readBehindPoint {rc : tq_X10_readValue} {a1 : Int} {a2 : Int} (G : BYhG n0 b0 rc) {h : ms_M} (S : TRb n0 b0) : Pc (qo_X10_readBehindPoint nn rc a1 a2 h) (fun u => BYh n0 b0 h u) := by
  have F : BYh n0 b0 h h := by_r
  unfold qo_X10_readBehindPoint
  refine pc_xl ?_; intro v47 _
  refine pc_se ?_; intro u50 _
  refine pc_xl ?_; intro v52 _
  refine pc_se ?_; intro u54 _
  refine pc_if (fun _ => ?_) (fun _ => ?_)
  · exact pc_imp (by_qj_X10_readBehindPoint_40 G (by_n S F)) (fun _ q => by_t F q)
  · exact pc_imp (by_qj_X10_readBehindPoint_40 G (by_n S F)) (fun _ q => by_t F q)
theorem by_qj_X10_readCall_275 {rc : tq_X10_readValue} {l2 : Int} {l3 : Int} {l5 : Int} {s0 : Int} (G : BYhG n0 b0 rc) {h : ms_M} (S : TRb n0 b0) : Pc (qj_X10_readCall_275 nn rc l2 l3 l5 s0 h) (fun u => BYh n0 b0 h u) := by
  have F : BYh n0 b0 h h := by_r
  unfold qj_X10_readCall_275
  refine pc_sv (by_qf_X1_pop (by_n S F)) ?_; intro u2 Qu2
  have Fu2 : BYh n0 b0 h u2 := by_t F Qu2
  refine pc_se ?_; intro u5 _
  refine pc_sv (by_qf_X10_closeCall (by_n S Fu2)) ?_; intro u7 Qu7
  have Fu7 : BYh n0 b0 h u7 := by_t Fu2 Qu7
  exact pc_ret Fu7
theorem by_qj_X10_readCall_245 {rc : tq_X10_readValue} {l1 : Int} {l2 : Int} {l3 : Int} {l5 : Int} {l7 : Int} {l9 : Int} {s0 : Int} (G : BYhG n0 b0 rc) {h : ms_M} (S : TRb n0 b0) : Pc (qj_X10_readCall_245 nn rc l1 l2 l3 l5 l7 l9 s0 h) (fun u => BYh n0 b0 h u) := by
  have F : BYh n0 b0 h h := by_r
  unfold qj_X10_readCall_245
  refine pc_sv (by_qf_X6_methodOf (by_n S F)) ?_; intro u10 Qu10
  have Fu10 : BYh n0 b0 h u10.2 := by_t F Qu10
  refine pc_sv (by_qf_X1_op_ (by_n S Fu10)) ?_; intro u12 Qu12
  have Fu12 : BYh n0 b0 h u12 := by_t Fu10 Qu12
  refine pc_if (fun _ => ?_) (fun _ => ?_)
  · refine pc_xl ?_; intro v14 _
    exact pc_imp (by_qj_X10_readCall_275 G (by_n S Fu12)) (fun _ q => by_t Fu12 q)
  · exact pc_imp (by_qj_X10_readCall_275 G (by_n S Fu12)) (fun _ q => by_t Fu12 q)
theorem by_qj_X10_readCall_223 {rc : tq_X10_readValue} {l1 : Int} {l2 : Int} {l3 : Int} {l5 : Int} {l7 : Int} {l9 : Int} {s0 : Int} (G : BYhG n0 b0 rc) {h : ms_M} (S : TRb n0 b0) : Pc (qj_X10_readCall_223 nn rc l1 l2 l3 l5 l7 l9 s0 h) (fun u => BYh n0 b0 h u) := by
  have F : BYh n0 b0 h h := by_r
  unfold qj_X10_readCall_223
  refine pc_sv (by_qf_X10_wantType (by_n S F)) ?_; intro u17 Qu17
  have Fu17 : BYh n0 b0 h u17 := by_t F Qu17
  refine pc_if (fun _ => ?_) (fun _ => ?_)
  · exact pc_imp (by_qj_X10_readCall_245 G (by_n S Fu17)) (fun _ q => by_t Fu17 q)
  · exact pc_imp (by_qj_X10_readCall_245 G (by_n S Fu17)) (fun _ q => by_t Fu17 q)
theorem by_qj_X10_readCall_222 {rc : tq_X10_readValue} {l1 : Int} {l2 : Int} {l3 : Int} {l5 : Int} {l7 : Int} {l9 : Int} (G : BYhG n0 b0 rc) {h : ms_M} (S : TRb n0 b0) : Pc (qj_X10_readCall_222 nn rc l1 l2 l3 l5 l7 l9 h) (fun u => BYh n0 b0 h u) := by
  have F : BYh n0 b0 h h := by_r
  unfold qj_X10_readCall_222
  exact pc_imp (by_qj_X10_readCall_223 G (by_n S F)) (fun _ q => by_t F q)
theorem by_qj_X10_readCall_192 {rc : tq_X10_readValue} {l1 : Int} {l2 : Int} {l3 : Int} {l5 : Int} {l7 : Int} {l8 : Int} {l9 : Int} {s0 : Int} (G : BYhG n0 b0 rc) {h : ms_M} (S : TRb n0 b0) : Pc (qj_X10_readCall_192 nn rc l1 l2 l3 l5 l7 l8 l9 s0 h) (fun u => BYh n0 b0 h u) := by
  have F : BYh n0 b0 h h := by_r
  unfold qj_X10_readCall_192
  refine pc_if (fun _ => ?_) (fun _ => ?_)
  · exact pc_imp (by_qj_X10_readCall_222 G (by_n S F)) (fun _ q => by_t F q)
  · refine pc_if (fun _ => ?_) (fun _ => ?_)
    · exact pc_imp (by_qj_X10_readCall_222 G (by_n S F)) (fun _ q => by_t F q)
    · refine pc_se ?_; intro u22 _
      refine pc_if (fun _ => ?_) (fun _ => ?_)
      · exact pc_imp (by_qj_X10_readCall_222 G (by_n S F)) (fun _ q => by_t F q)
      · exact pc_imp (by_qj_X10_readCall_223 G (by_n S F)) (fun _ q => by_t F q)
theorem by_qj_X10_readCall_128 {rc : tq_X10_readValue} {l1 : Int} {l2 : Int} {l3 : Int} {l4 : Int} {l5 : Int} {l7 : Int} {l8 : Int} (G : BYhG n0 b0 rc) {h : ms_M} (S : TRb n0 b0) : Pc (qj_X10_readCall_128 nn rc l1 l2 l3 l4 l5 l7 l8 h) (fun u => BYh n0 b0 h u) := by
  have F : BYh n0 b0 h h := by_r
  unfold qj_X10_readCall_128
  refine pc_xl ?_; intro v28 _
  refine pc_xl ?_; intro h29 Eh29
  have Fh29 : BYh n0 b0 h h29 := by rw [Eh29]; exact by_u F (by omega)
  refine pc_if (fun _ => ?_) (fun _ => ?_)
  · refine pc_se ?_; intro u34 _
    refine pc_if (fun _ => ?_) (fun _ => ?_)
    · refine pc_if (fun _ => ?_) (fun _ => ?_)
      · exact pc_imp (by_qj_X10_readCall_192 G (by_n S Fh29)) (fun _ q => by_t Fh29 q)
      · exact pc_imp (by_qj_X10_readCall_192 G (by_n S Fh29)) (fun _ q => by_t Fh29 q)
    · refine pc_if (fun _ => ?_) (fun _ => ?_)
      · exact pc_imp (by_qj_X10_readCall_192 G (by_n S Fh29)) (fun _ q => by_t Fh29 q)
      · exact pc_imp (by_qj_X10_readCall_192 G (by_n S Fh29)) (fun _ q => by_t Fh29 q)
  · exact pc_ret Fh29
theorem by_qj_X10_readCall_92 {rc : tq_X10_readValue} {l1 : Int} {l2 : Int} {l3 : Int} {l4 : Int} {l5 : Int} {l6 : Int} {l7 : Int} {l9 : Int} {s0 : Int} (G : BYhG n0 b0 rc) {qkk_22 : Int → Int → Int → Int → Int → Int → Int → Int → Int → ms_M → Option ms_M} (Hqkk_22 : ∀ (z0 : Int) (z1 : Int) (z2 : Int) (z3 : Int) (z4 : Int) (z5 : Int) (z6 : Int) (z7 : Int) (z8 : Int) (z9 : ms_M), TRb n0 b0 → Pc (qkk_22 z0 z1 z2 z3 z4 z5 z6 z7 z8 z9) (fun u => BYh n0 b0 z9 u)) {h : ms_M} (S : TRb n0 b0) : Pc (qj_X10_readCall_92 nn rc qkk_22 l1 l2 l3 l4 l5 l6 l7 l9 s0 h) (fun u => BYh n0 b0 h u) := by
  have F : BYh n0 b0 h h := by_r
  unfold qj_X10_readCall_92
  refine pc_xl ?_; intro v39 _
  refine pc_se ?_; intro u42 _
  refine pc_if (fun _ => ?_) (fun _ => ?_)
  · refine pc_xl ?_; intro v43 _
    exact pc_imp (Hqkk_22 _ _ _ _ _ _ _ _ _ _ (by_n S F)) (fun _ q => by_t F q)
  · refine pc_xl ?_; intro v46 _
    refine pc_xl ?_; intro h47 Eh47
    have Fh47 : BYh n0 b0 h h47 := by rw [Eh47]; exact by_u F (by omega)
    refine pc_xl ?_; intro v48 _
    exact pc_imp (Hqkk_22 _ _ _ _ _ _ _ _ _ _ (by_n S Fh47)) (fun _ q => by_t Fh47 q)
theorem by_qj_X10_readCall_91 {rc : tq_X10_readValue} {l1 : Int} {l2 : Int} {l3 : Int} {l4 : Int} {l5 : Int} {l6 : Int} {l7 : Int} {l9 : Int} (G : BYhG n0 b0 rc) {qkk_22 : Int → Int → Int → Int → Int → Int → Int → Int → Int → ms_M → Option ms_M} (Hqkk_22 : ∀ (z0 : Int) (z1 : Int) (z2 : Int) (z3 : Int) (z4 : Int) (z5 : Int) (z6 : Int) (z7 : Int) (z8 : Int) (z9 : ms_M), TRb n0 b0 → Pc (qkk_22 z0 z1 z2 z3 z4 z5 z6 z7 z8 z9) (fun u => BYh n0 b0 z9 u)) {h : ms_M} (S : TRb n0 b0) : Pc (qj_X10_readCall_91 nn rc qkk_22 l1 l2 l3 l4 l5 l6 l7 l9 h) (fun u => BYh n0 b0 h u) := by
  have F : BYh n0 b0 h h := by_r
  unfold qj_X10_readCall_91
  exact pc_imp (by_qj_X10_readCall_92 G Hqkk_22 (by_n S F)) (fun _ q => by_t F q)
theorem by_qw_X10_readCall_22 {rc : tq_X10_readValue} (G : BYhG n0 b0 rc) : ∀ (k : Nat) (l1 : Int) (l2 : Int) (l3 : Int) (l4 : Int) (l5 : Int) (l6 : Int) (l7 : Int) (l8 : Int) (l9 : Int) (h : ms_M), TRb n0 b0 → Pc (qw_X10_readCall_22 nn rc k l1 l2 l3 l4 l5 l6 l7 l8 l9 h) (fun u => BYh n0 b0 h u) := by
  intro k
  induction k with
  | zero => intros; exact pc_none
  | succ k ih =>
    intro l1 l2 l3 l4 l5 l6 l7 l8 l9 h S
    have F : BYh n0 b0 h h := by_r
    unfold qw_X10_readCall_22
    refine pc_if (fun _ => ?_) (fun _ => ?_)
    · exact pc_imp (by_qj_X10_readCall_128 G (by_n S F)) (fun _ q => by_t F q)
    · refine pc_if (fun _ => ?_) (fun _ => ?_)
      · exact pc_imp (by_qj_X10_readCall_128 G (by_n S F)) (fun _ q => by_t F q)
      · refine pc_se ?_; intro u54 _
        refine pc_if (fun _ => ?_) (fun _ => ?_)
        · exact pc_imp (by_qj_X10_readCall_128 G (by_n S F)) (fun _ q => by_t F q)
        · refine pc_sv (G.1 (by_n S F)) ?_; intro u56 Qu56
          have Fu56 : BYh n0 b0 h u56 := by_t F Qu56
          refine pc_if (fun _ => ?_) (fun _ => ?_)
          · exact pc_imp (by_qj_X10_readCall_91 G (fun _ _ _ _ _ _ _ _ _ _ S => ih _ _ _ _ _ _ _ _ _ _ S) (by_n S Fu56)) (fun _ q => by_t Fu56 q)
          · refine pc_se ?_; intro u61 _
            refine pc_se ?_; intro u63 _
            refine pc_if (fun _ => ?_) (fun _ => ?_)
            · exact pc_imp (by_qj_X10_readCall_91 G (fun _ _ _ _ _ _ _ _ _ _ S => ih _ _ _ _ _ _ _ _ _ _ S) (by_n S Fu56)) (fun _ q => by_t Fu56 q)
            · exact pc_imp (by_qj_X10_readCall_92 G (fun _ _ _ _ _ _ _ _ _ _ S => ih _ _ _ _ _ _ _ _ _ _ S) (by_n S Fu56)) (fun _ q => by_t Fu56 q)
theorem by_qo_X10_readCall {rc : tq_X10_readValue} {a1 : Int} {a2 : Int} {a3 : Int} {a4 : Int} {a5 : Int} {a6 : Int} (G : BYhG n0 b0 rc) {h : ms_M} (S : TRb n0 b0) : Pc (qo_X10_readCall nn rc a1 a2 a3 a4 a5 a6 h) (fun u => BYh n0 b0 h u) := by
  have F : BYh n0 b0 h h := by_r
  unfold qo_X10_readCall
  refine pc_xl ?_; intro v71 _
  refine pc_xl ?_; intro h72 Eh72
  have Fh72 : BYh n0 b0 h h72 := by rw [Eh72]; exact by_u F (by omega)
  exact pc_imp (by_qw_X10_readCall_22 G _ _ _ _ _ _ _ _ _ _ _ (by_n S Fh72)) (fun _ q => by_t Fh72 q)
theorem by_due {bs l : Int} : Pc (qf_X10_isSignDue nn bs l h) (fun u => ¬ u = 0 → bs < h 49 10) := by
  unfold qf_X10_isSignDue
  refine pc_if (fun _ => pc_ret (fun z => absurd rfl z)) (fun z => ?_)
  exact fun _ _ _ => by omega
theorem by_156 {rc : tq_X10_readValue} {l1 l2 : Int} (G : BYhG n0 b0 rc) : Pc (qj_X10_readValue_156 nn rc l1 l2 h) (fun u => BYh n0 b0 h u) := by
  unfold qj_X10_readValue_156
  refine pc_se ?_; intro u3 _
  refine pc_if (fun _ => pc_ret by_r) (fun _ => ?_)
  exact pc_sv (G.2.1 trivial) (fun u5 q5 => pc_ret q5)
theorem by_129 {rc : tq_X10_readValue} (G : BYhG n0 b0 rc) {l3 : Int} (hb : b0 ≤ l3) : ∀ (k : Nat) (l1 l2 l4 : Int) (h : ms_M), ICp n0 b0 h → Pc (qw_X10_readValue_129 nn rc k l1 l2 l3 l4 h) (fun u => ICp n0 b0 u ∧ ∀ x : Nat, (x : Int) < n0 → u 35 x = h 35 x) := by
  intro k
  induction k with
  | zero => intros; exact pc_none
  | succ k ih =>
    intro l1 l2 l4 h I
    unfold qw_X10_readValue_129
    refine pc_if (fun _ => pc_imp (by_156 G) (fun u q => q I)) (fun _ => ?_)
    refine pc_sv by_due ?_; intro u8 q8
    refine pc_if (fun _ => pc_imp (by_156 G) (fun u q => q I)) (fun z => ?_)
    refine pc_sv (by_close I (by have := q8 z; omega)) ?_; intro u10 ⟨i10, f10⟩
    refine pc_xl ?_; intro v11 _
    exact pc_imp (ih l1 l2 v11 u10 i10) (fun u q => ⟨q.1, fun x hx => (q.2 x hx).trans (f10 x hx)⟩)
theorem by_54 {rc : tq_X10_readValue} {qkk : Int → Int → Int → Int → ms_M → Option ms_M} (G : BYhG n0 b0 rc) {l3 : Int} (hb : b0 ≤ l3) (HK : ∀ (z0 z1 z3 : Int) (g : ms_M), ICp n0 b0 g → Pc (qkk z0 z1 l3 z3 g) (fun u => ICp n0 b0 u ∧ ∀ x : Nat, (x : Int) < n0 → u 35 x = g 35 x)) : ∀ (k : Nat) (l1 l2 l4 l5 : Int) (h : ms_M), ICp n0 b0 h → Pc (qw_X10_readValue_54 nn rc qkk k l1 l2 l3 l4 l5 h) (fun u => ICp n0 b0 u ∧ ∀ x : Nat, (x : Int) < n0 → u 35 x = h 35 x) := by
  have T90 : ∀ (l1 l2 l4 : Int) (h : ms_M), ICp n0 b0 h → Pc (qj_X10_readValue_90 nn rc qkk l1 l2 l3 l4 h) (fun u => ICp n0 b0 u ∧ ∀ x : Nat, (x : Int) < n0 → u 35 x = h 35 x) := fun l1 l2 l4 h I => by
    unfold qj_X10_readValue_90
    refine pc_se ?_; intro u16 _
    refine pc_if (fun _ => ?_) (fun _ => ?_)
    · refine pc_sv (by_open I) ?_; intro u18 ⟨i18, f18⟩
      refine pc_xl ?_; intro v19 _
      refine pc_sv (G.2.2.1 trivial) ?_; intro u21 q21
      have ⟨i21, f21⟩ := q21 i18
      refine pc_xl ?_; intro v22 _
      exact pc_imp (HK _ _ _ u21 i21) (fun u q => ⟨q.1, fun x hx => by rw [q.2 x hx, f21 x hx]; exact f18 x hx⟩)
    · refine pc_sv (by_qf_X10_readInstanceof (n0 := n0) (b0 := b0) trivial) ?_; intro u24 q24
      have ⟨i24, f24⟩ := q24 I
      refine pc_xl ?_; intro v25 _
      exact pc_imp (HK _ _ _ u24 i24) (fun u q => ⟨q.1, fun x hx => by rw [q.2 x hx]; exact f24 x hx⟩)
  intro k
  induction k with
  | zero => intros; exact pc_none
  | succ k ih =>
    intro l1 l2 l4 l5 h I
    unfold qw_X10_readValue_54
    refine pc_if (fun _ => T90 _ _ _ h I) (fun _ => ?_)
    refine pc_se ?_; intro u29 _
    refine pc_se ?_; intro u30 _
    refine pc_sv by_due ?_; intro u32 q32
    refine pc_if (fun _ => T90 _ _ _ h I) (fun z => ?_)
    refine pc_sv (by_close I (by have := q32 z; omega)) ?_; intro u34 ⟨i34, f34⟩
    refine pc_xl ?_; intro v35 _
    exact pc_imp (ih l1 l2 l4 v35 u34 i34) (fun u q => ⟨q.1, fun x hx => (q.2 x hx).trans (f34 x hx)⟩)
theorem by_30 {rc : tq_X10_readValue} (G : BYhG n0 b0 rc) {l3 : Int} (hb : b0 ≤ l3) : ∀ (k : Nat) (l1 l2 l4 : Int) (h : ms_M), ICp n0 b0 h → Pc (qw_X10_readValue_30 nn rc k l1 l2 l3 l4 h) (fun u => ICp n0 b0 u ∧ ∀ x : Nat, (x : Int) < n0 → u 35 x = h 35 x) := by
  intro k
  induction k with
  | zero => intros; exact pc_none
  | succ k ih =>
    intro l1 l2 l4 h I
    unfold qw_X10_readValue_30
    refine pc_if (fun _ => by_129 G hb nn _ _ _ h I) (fun _ => ?_)
    refine pc_se ?_; intro u40 _
    refine pc_se ?_; intro u41 _
    refine pc_if (fun _ => by_129 G hb nn _ _ _ h I) (fun _ => ?_)
    exact by_54 G hb (fun z0 z1 z3 g Ig => ih z0 z1 z3 g Ig) nn _ _ _ _ h I
theorem by_qo_X10_readValue {rc : tq_X10_readValue} {a1 : Int} (G : BYhG n0 b0 rc) (S : TRb n0 b0) : Pc (qo_X10_readValue nn rc a1 h) (fun u => BYh n0 b0 h u) := by
  intro u e I
  have W : Pc (qo_X10_readValue nn rc a1 h) (fun u => ICp n0 b0 u ∧ ∀ x : Nat, (x : Int) < n0 → u 35 x = h 35 x) := by
    unfold qo_X10_readValue
    refine pc_if (fun _ => ?_) (fun _ => pc_ret ⟨I, fun _ _ => rfl⟩)
    refine pc_xl ?_; intro v47 _
    refine pc_sv (G.2.2.1 trivial) ?_; intro u49 q49
    have ⟨i49, f49⟩ := q49 I
    exact pc_imp (by_30 G I.2.2.1.2.1 nn _ _ _ u49 i49) (fun u q => ⟨q.1, fun x hx => (q.2 x hx).trans (f49 x hx)⟩)
  exact W u e
theorem by_qo_X10_readChoice {rc : tq_X10_readValue} {a1 a2 : Int} (G : BYhG n0 b0 rc) (S : TRb n0 b0) : Pc (qo_X10_readChoice nn rc a1 a2 h) (fun u => BYh n0 b0 h u) := by
  intro u e I
  have T : ∀ l3 s0 : Int, Pc (qj_X10_readChoice_24 nn rc a1 a2 l3 s0 h) (fun u => ICp n0 b0 u ∧ ∀ x : Nat, (x : Int) < n0 → u 35 x = h 35 x) := fun l3 s0 => by
    unfold qj_X10_readChoice_24
    refine pc_sv (by_wt (n0 := n0) (b0 := b0)) ?_; intro u14 q14
    have ⟨i14, f14⟩ := q14 I
    refine pc_sv (by_jump i14) ?_; intro u17 ⟨⟨i17, f17⟩, j17⟩
    refine pc_xl ?_; intro v20 _
    refine pc_xl ?_; intro h21 e21
    have i21 : ICp n0 b0 h21 := ic_k i17 (by rw [e21, up_n (by omega)]) (by rw [e21, up_n (by omega)]) (fun x => by rw [e21, up_n (by omega)])
    refine pc_xl ?_; intro v22 _
    refine pc_sv (G.1 trivial) ?_; intro u24 q24
    have ⟨i24, f24⟩ := q24 i21
    refine pc_sv (by_jump i24) ?_; intro u28 ⟨⟨i28, f28⟩, j28⟩
    refine pc_sv (by_pop (n0 := n0) (b0 := b0)) ?_; intro u31 ⟨q31, _⟩
    have ⟨i31, f31⟩ := q31 i28
    refine pc_sv (by_aimH (.inr j17) i31) ?_; intro u34 ⟨i34, f34⟩
    refine pc_xl ?_; intro v37 _
    refine pc_xl ?_; intro h38 e38
    have i38 : ICp n0 b0 h38 := ic_k i34 (by rw [e38, up_n (by omega)]) (by rw [e38, up_n (by omega)]) (fun x => by rw [e38, up_n (by omega)])
    refine pc_xl ?_; intro v39 _
    refine pc_sv (G.1 trivial) ?_; intro u41 q41
    have ⟨i41, f41⟩ := q41 i38
    refine pc_se ?_; intro u44 _
    refine pc_sv (by_wt (n0 := n0) (b0 := b0)) ?_; intro u46 q46
    have ⟨i46, f46⟩ := q46 i41
    refine pc_se ?_; intro u50 _
    have T158 : ∀ s0 : Int, Pc (qj_X10_readChoice_158 nn rc u28.1 s0 u46) (fun u => ICp n0 b0 u ∧ ∀ x : Nat, (x : Int) < n0 → u 35 x = h 35 x) := fun s0 => by
      unfold qj_X10_readChoice_158
      refine pc_xl ?_; intro h1 e1
      have i1 : ICp n0 b0 h1 := ic_k i46 (by rw [e1, up_n (by omega)]) (by rw [e1, up_n (by omega)]) (fun x => by rw [e1, up_n (by omega)])
      refine pc_sv (by_pop (n0 := n0) (b0 := b0)) ?_; intro u4 ⟨q4, _⟩
      have ⟨i4, f4⟩ := q4 i1
      refine pc_sv (by_psh (n0 := n0) (b0 := b0)) ?_; intro u8 q8
      have ⟨i8, f8⟩ := q8 i4
      refine pc_sv (by_aimH (.inr j28) i8) ?_; intro u11 ⟨i11, f11⟩
      refine pc_xl ?_; intro h12 e12
      exact pc_ret ⟨ic_k i11 (by rw [e12, up_n (by omega)]) (by rw [e12, up_n (by omega)]) (fun x => by rw [e12, up_n (by omega)]), fun x hx => by rw [e12, up_n (by omega), f11 x hx, f8 x hx, f4 x hx, e1, up_n (by omega), f46 x hx, f41 x hx, e38, up_n (by omega), f34 x hx, f31 x hx, f28 x hx, f24 x hx, e21, up_n (by omega), f17 x hx]; exact f14 x hx⟩
    exact pc_if (fun _ => T158 _) (fun _ => T158 _)
  have W : Pc (qo_X10_readChoice nn rc a1 a2 h) (fun u => ICp n0 b0 u ∧ ∀ x : Nat, (x : Int) < n0 → u 35 x = h 35 x) := by
    unfold qo_X10_readChoice
    exact pc_if (fun _ => T _ 0) (fun _ => T _ 1)
  exact W u e
theorem byg (n0 b0 : Int) (nn : Nat) : ∀ d : Nat, BYhG n0 b0 (qg_X10_readValue nn d) := by
  intro d
  induction d with
  | zero => exact ⟨fun _ => pc_none, fun _ => pc_none, fun _ => pc_none, fun _ => pc_none, fun _ => pc_none, fun _ => pc_none, fun _ => pc_none, fun _ => pc_none, fun _ => pc_none⟩
  | succ d ih => exact ⟨fun S => by_qo_X10_readValue (nn := nn) ih S, fun S => by_qo_X10_readChoice (nn := nn) ih S, fun S => by_qo_X10_readUnary (nn := nn) ih S, fun S => by_qo_X10_readPrimary (nn := nn) ih S, fun S => by_qo_X10_readNew (nn := nn) ih S, fun S => by_qo_X10_readElement (nn := nn) ih S, fun S => by_qo_X10_readNamed (nn := nn) ih S, fun S => by_qo_X10_readBehindPoint (nn := nn) ih S, fun S => by_qo_X10_readCall (nn := nn) ih S⟩
end
end
section
/- jumps that wait, several at once -/
/-- their places -/
def pl_L (l : Int) : List (Int × Int) → List Int
  | [] => []
  | e :: R => if e.2 = l then e.1 :: pl_L l R else pl_L l R
/-- the class's aims, one after the other -/
def CMs (x : Int) : List Int → ms_M → ms_M → Prop
  | [], h, u => u = h
  | j :: R, h, u => ∃ g : ms_M, CAm j x h g ∧ CMs x R g u
def CHs : List Int → ms_M → ms_M → Prop
  | [], h, u => u = h
  | j :: R, h, u => ∃ g : ms_M, CAH j h g ∧ CHs R g u
/-- a memory with the bytes of another -/
def rp_M (z k : ms_M) : ms_M := fun cc y => if cc = 35 then z 35 y else k cc y
section
variable {nn : Nat} {K V : Nat → Int} {C : Nat → Nat} {W : Nat → List Int} {n F : Nat} {own : Int} {a b T h g u m w v z : ms_M} {PB : Nat → Prop} {WL : Int → Int → Prop} {L L2 : List (Int × Int)} {f x j p s l : Int}
theorem rp_35 {y : Nat} : rp_M z g 35 y = z 35 y := if_pos rfl
theorem rp_n {cc y : Nat} (q : ¬ cc = 35) : rp_M z g cc y = g cc y := if_neg q
theorem pl_app : ∀ A B : List (Int × Int), pl_L f (A ++ B) = pl_L f A ++ pl_L f B := by
  intro A
  induction A with
  | nil => intro B; rfl
  | cons e R ih =>
    intro B
    show (if e.2 = f then e.1 :: pl_L f (R ++ B) else pl_L f (R ++ B)) = (if e.2 = f then e.1 :: pl_L f R else pl_L f R) ++ pl_L f B
    by_cases q : e.2 = f
    · rw [if_pos q, if_pos q, ih]; rfl
    · rw [if_neg q, if_neg q, ih]
theorem pl_hs : ∀ L : List (Int × Int), (¬ hs_L f L → pl_L f L = []) ∧ (hs_L f L → ¬ pl_L f L = []) := by
  intro L
  induction L with
  | nil => exact ⟨fun _ => rfl, fun y => y.elim⟩
  | cons e R ih =>
    by_cases q : e.2 = f
    · refine ⟨fun y => absurd (.inl q) y, fun _ => ?_⟩
      show ¬ (if e.2 = f then e.1 :: pl_L f R else pl_L f R) = []
      rw [if_pos q]
      exact fun y => nomatch y
    · refine ⟨fun y => ?_, fun y => ?_⟩
      · show (if e.2 = f then e.1 :: pl_L f R else pl_L f R) = []
        rw [if_neg q]
        exact ih.1 (fun y2 => y (.inr y2))
      · show ¬ (if e.2 = f then e.1 :: pl_L f R else pl_L f R) = []
        rw [if_neg q]
        exact ih.2 (y.resolve_left q)
theorem pl_mem : ∀ L : List (Int × Int), j ∈ pl_L f L ↔ (j, f) ∈ L := by
  intro L
  induction L with
  | nil => exact ⟨fun y => (nomatch y), fun y => (nomatch y)⟩
  | cons e R ih =>
    obtain ⟨e1, e2⟩ := e
    show j ∈ (if e2 = f then e1 :: pl_L f R else pl_L f R) ↔ _
    by_cases q : e2 = f
    · rw [if_pos q, List.mem_cons, List.mem_cons, ih, q]
      refine ⟨fun y => y.elim (fun y => .inl (by rw [y])) .inr, fun y => y.elim (fun y => .inl (congrArg Prod.fst y)) .inr⟩
    · rw [if_neg q, List.mem_cons, ih]
      refine ⟨.inr, fun y => y.elim (fun y => absurd (congrArg Prod.snd y).symm q) id⟩
theorem hs_mem : ∀ L : List (Int × Int), hs_L f L ↔ ∃ j, (j, f) ∈ L := by
  intro L
  induction L with
  | nil => exact ⟨fun y => y.elim, fun ⟨_, y⟩ => (nomatch y)⟩
  | cons e R ih =>
    obtain ⟨e1, e2⟩ := e
    refine ⟨fun y => ?_, fun ⟨j, y⟩ => ?_⟩
    · rcases y with y | y
      · have y : e2 = f := y
        exact ⟨e1, by rw [y]; exact List.mem_cons_self⟩
      · obtain ⟨j, y⟩ := ih.mp y
        exact ⟨j, List.mem_cons_of_mem _ y⟩
    · rcases List.mem_cons.mp y with y | y
      · exact .inl (congrArg Prod.snd y).symm
      · exact .inr (ih.mpr ⟨j, y⟩)
theorem fl_sub : ∀ L : List (Int × Int), (fl_L f L).Sublist L := by
  intro L
  induction L with
  | nil => exact List.Sublist.refl _
  | cons e R ih =>
    show (if e.2 = f then fl_L f R else e :: fl_L f R).Sublist (e :: R)
    by_cases q : e.2 = f
    · rw [if_pos q]; exact ih.cons _
    · rw [if_neg q]; exact ih.cons₂ _
theorem fl_len : ∀ L : List (Int × Int), hs_L f L → (fl_L f L).length + 1 ≤ L.length := by
  intro L
  induction L with
  | nil => intro y; exact y.elim
  | cons e R ih =>
    intro y
    show (if e.2 = f then fl_L f R else e :: fl_L f R).length + 1 ≤ R.length + 1
    by_cases q : e.2 = f
    · rw [if_pos q]
      have := (fl_sub (f := f) R).length_le
      omega
    · rw [if_neg q]
      have := ih (y.resolve_left q)
      show (fl_L f R).length + 1 + 1 ≤ R.length + 1
      omega
theorem gd_g (L : List (Int × Int)) (i : Nat) (hi : i < L.length) : L.getD i (0, 0) = L[i] := by simp [hi]
theorem jlb_m (J : JLb L m) : (∀ e ∈ L, 0 ≤ e.1 ∧ e.1 + 3 ≤ m 160 68 ∧ e.2 ≤ m 160 88) ∧ L.Pairwise (fun a b => a.1 + 3 ≤ b.1) := by
  obtain ⟨j1, j2, j3, j4⟩ := J
  refine ⟨fun e he => ?_, ?_⟩
  · obtain ⟨i, hi, ei⟩ := List.mem_iff_getElem.mp he
    have := j2 i hi
    rw [gd_g L i hi, ei] at this
    exact this
  · rw [List.pairwise_iff_getElem]
    intro i k hi hk ik
    have := j3 i k ik hk
    rw [gd_g L i hi, gd_g L k hk] at this
    exact this
theorem jlb_of (l3 : L.length ≤ 3000) (H : ∀ e ∈ L, 0 ≤ e.1 ∧ e.1 + 3 ≤ m 160 68 ∧ e.2 ≤ m 160 88) (R : L.Pairwise (fun a b => a.1 + 3 ≤ b.1)) (h0 : 0 ≤ m 160 88) : JLb L m := by
  refine ⟨l3, fun i hi => ?_, fun i k ik hk => ?_, h0⟩
  · rw [gd_g L i hi]
    exact H _ (List.getElem_mem hi)
  · rw [gd_g L i (by omega), gd_g L k hk]
    exact (List.pairwise_iff_getElem.mp R) i k (by omega) hk ik
theorem jlb_fl (J : JLb L m) (e1 : m 160 68 ≤ w 160 68) (e2 : m 160 88 ≤ w 160 88) : JLb (fl_L f L) w := by
  obtain ⟨q1, q2⟩ := jlb_m J
  have S := fl_sub (f := f) L
  have l := S.length_le
  have j1 := J.1
  have j4 := J.2.2.2
  exact jlb_of (by omega) (fun e he => by have := q1 e (S.subset he); omega) (q2.sublist S) (by omega)
theorem cms_e : ∀ (js : List Int) (h g : ms_M), CMs x js h g → ∀ cc y : Nat, ¬ cc = 35 → g cc y = h cc y := by
  intro js
  induction js with
  | nil => intro h g A cc y q; have A : g = h := A; rw [A]
  | cons j R ih =>
    intro h g A cc y q
    obtain ⟨g1, a1, a2⟩ := A
    rw [ih g1 g a2 cc y q]
    exact a1.2 cc y (fun y => absurd y q)
/-- the bytes of the aims -/
theorem cb_aims : ∀ (L : List (Int × Int)) (h g m w : ms_M), CBY PB h m → CMs x (pl_L f L) h g → x = h 34 1 → (∀ e ∈ L, 0 ≤ e.1 ∧ e.1 + 3 ≤ m 160 68) → w 160 68 = m 160 68 → (∀ y : Nat, w 206 y = am_L f x L (m 206) y) → CBY PB g w := by
  intro L
  induction L with
  | nil =>
    intro h g m w Cb A ex bL e68 eB
    have A : g = h := A
    rw [A]
    refine cby_k Cb (fun _ _ _ => rfl) (fun cc y z => ?_)
    rcases z with ⟨z1, z2⟩ | z
    · rw [z1, z2]; exact e68
    · rw [z]; exact eB y
  | cons e R ih =>
    intro h g m w Cb A ex bL e68 eB
    obtain ⟨j, l⟩ := e
    have b0 := bL (j, l) List.mem_cons_self
    have bR : ∀ e ∈ R, 0 ≤ e.1 ∧ e.1 + 3 ≤ m 160 68 := fun e he => bL e (List.mem_cons_of_mem _ he)
    have A : CMs x (if l = f then j :: pl_L f R else pl_L f R) h g := A
    have eB : ∀ y : Nat, w 206 y = am_L f x R (if l = f ∧ j + 2 < 12000 then b2_L x j (m 206) else m 206) y := eB
    by_cases q : l = f
    · rw [if_pos q] at A
      obtain ⟨g1, a1, a2⟩ := A
      obtain ⟨m1, e1, e2⟩ : ∃ m1 : ms_M, (∀ y : Nat, m1 206 y = (if j + 2 < 12000 then b2_L x j (m 206) else m 206) y) ∧ ∀ cc y : Nat, ¬ cc = 206 → m1 cc y = m cc y := ⟨fun cc y => if cc = 206 then (if j + 2 < 12000 then b2_L x j (m 206) else m 206) y else m cc y, fun y => if_pos rfl, fun cc y z => if_neg z⟩
      have C1 : CBY PB g1 m1 := cb_aim (B := m 206) Cb a1 ex b0 (e2 160 68 (by omega)) e1
      refine ih g1 g m1 w C1 a2 (by rw [ex]; exact (a1.2 34 1 (fun z => absurd z (by omega))).symm) (fun e he => by rw [e2 160 68 (by omega)]; exact bR e he) (by rw [e2 160 68 (by omega)]; exact e68) (fun y => ?_)
      rw [eB y, show m1 206 = (if l = f ∧ j + 2 < 12000 then b2_L x j (m 206) else m 206) from funext (fun y => by
        rw [e1 y]
        by_cases z : j + 2 < 12000
        · rw [if_pos z, if_pos ⟨q, z⟩]
        · rw [if_neg z, if_neg (fun y => z y.2)])]
    · rw [if_neg q] at A
      refine ih h g m w Cb A ex bR e68 (fun y => ?_)
      rw [eB y, if_neg (fun y => q y.1)]
theorem cms_35 : ∀ (js : List Int) (g g1 k : ms_M), CMs x js g g1 → (∀ y : Nat, k 35 y = g 35 y) → CMs x js k (rp_M g1 k) := by
  intro js
  induction js with
  | nil =>
    intro g g1 k A E
    have A : g1 = g := A
    show rp_M g1 k = k
    rw [A]
    funext cc y
    by_cases q : cc = 35
    · rw [q, rp_35]; exact (E y).symm
    · exact rp_n q
  | cons j R ih =>
    intro g g1 k A E
    obtain ⟨gg, a1, a2⟩ := A
    have H := ih gg g1 (rp_M gg k) a2 (fun y => rp_35)
    refine ⟨rp_M gg k, ⟨fun z1 z2 => ?_, fun cc y z => ?_⟩, ?_⟩
    · rw [rp_35, rp_35]; exact a1.1 z1 z2
    · by_cases q : cc = 35
      · rw [q, rp_35, E y]
        exact a1.2 35 y (fun _ => z q)
      · exact rp_n q
    · rw [show rp_M g1 k = rp_M g1 (rp_M gg k) from funext (fun cc => funext (fun y => by
        by_cases q : cc = 35
        · rw [q, rp_35, rp_35]
        · rw [rp_n q, rp_n q, rp_n q]))]
      exact H
theorem slc_35 (S : SLc p h s g) : SLc p (rp_M z h) s (rp_M z g) := by
  obtain ⟨F, S⟩ := S
  refine ⟨frc_k F (fun cc y q => rp_n (by omega)), ?_⟩
  rcases S with ⟨k, s1, s2, s3, s4⟩ | ⟨s1, S⟩
  · exact .inl ⟨k, s1, by rw [rp_n (by omega)]; exact s2, by rw [rp_n (by omega)]; exact s3, by rw [s4]⟩
  · refine .inr ⟨fun k hk => by rw [rp_n (by omega)] at hk; rw [rp_n (by omega)]; exact s1 k hk, ?_⟩
    rcases S with ⟨t1, t2, t3, t4, t5⟩ | ⟨t1, t2, t3⟩
    · refine .inl ⟨by rw [rp_n (by omega)]; exact t1, by rw [rp_n (by omega)]; exact t2, by rw [rp_n (by omega), rp_n (by omega)]; exact t3, by rw [rp_n (by omega), rp_n (by omega)]; exact t4, fun cc y q1 q2 q3 => ?_⟩
      by_cases q : cc = 35
      · rw [q, rp_35, rp_35]
      · rw [rp_n (by omega)] at q3
        rw [rp_n q, rp_n q]
        exact t5 cc y q1 q2 q3
    · exact .inr ⟨by rw [rp_n (by omega)]; exact t1, t2, by rw [t3]⟩
/-- several aims, one FRAME -/
theorem chs_n : ∀ (js : List Int) (j : Int) (h u : ms_M), FRc h → CHs (j :: js) h u → ∃ (g1 : ms_M) (s : Int) (g2 : ms_M), CMs (h 34 1) (j :: js) h g1 ∧ SLc (h 34 1) g1 s g2 ∧ FLc s (h 34 7) (h 34 3) g2 u := by
  intro js
  induction js with
  | nil =>
    intro j h u Fc H
    obtain ⟨g, ⟨g1, s, g2, c, S, F⟩, eu⟩ := H
    have eu : u = g := eu
    exact ⟨g1, s, g2, ⟨g1, c, rfl⟩, S, by rw [eu]; exact F⟩
  | cons j2 js ih =>
    intro j h u Fc H
    obtain ⟨g, CH, H2⟩ := H
    obtain ⟨FRg, Eg⟩ := cah_fr Fc CH
    obtain ⟨k1, s, k2, c, S, F⟩ := CH
    obtain ⟨g1, s2, g2, CM, S2, F2⟩ := ih j2 g u FRg H2
    have l1 := Eg 34 1 (by omega) (by omega) (by omega)
    have l7 := Eg 34 7 (by omega) (by omega) (by omega)
    have l3 := Eg 34 3 (by omega) (by omega) (by omega)
    rw [l1] at CM S2
    rw [l7, l3] at F2
    have Fk1 : FRc k1 := frc_k Fc (fun cc y q => c.2 cc y (fun y => by omega))
    obtain ⟨K2, SK⟩ := sl_sk Fk1 S
    have FO : ∀ cc y : Nat, ¬ (cc = 34 ∧ y = 15) → ¬ cc = 41 → g cc y = k2 cc y := fun cc y q1 q2 => by
      rcases F with ⟨-, -, a3⟩ | ⟨-, -, a3⟩
      · exact a3 cc y q1
      · exact a3 cc y (by omega)
    have E1 := cms_e (j2 :: js) g g1 CM
    have Fg1 : FRc g1 := frc_k FRg (fun cc y q => E1 cc y (by omega))
    have e35 : ∀ y : Nat, k1 35 y = g 35 y := fun y => by rw [FO 35 y (by omega) (by omega)]; exact (K2 35 y (by omega) (by omega) (by omega)).symm
    refine ⟨rp_M g1 k1, s, rp_M g1 k2, ⟨k1, c, cms_35 (j2 :: js) g g1 k1 CM e35⟩, slc_35 S, ?_⟩
    obtain ⟨G2, SG⟩ := sl_sk Fg1 S2
    have x14 : g1 34 14 = k2 34 14 := by rw [E1 34 14 (by omega)]; exact FO 34 14 (by omega) (by omega)
    have x40 : ∀ k : Nat, g1 40 k = k2 40 k := fun k => by rw [E1 40 k (by omega)]; exact FO 40 k (by omega) (by omega)
    -- the same row
    have SAME : s2 = s ∧ g2 = g1 := by
      rcases SK with ⟨y1, y2, y3, y4⟩ | ⟨k, y1, y2, y3, y4, y5, y6⟩
      · rcases S2.2 with ⟨k', w1, w2, w3, w4⟩ | ⟨w1, ⟨w2, -⟩ | ⟨w2, w3, w4⟩⟩
        · rw [x14, y2] at w2
          rw [x40, y2] at w3
          exact absurd w3 (y4 k' w2)
        · rw [x14, y2] at w2; omega
        · exact ⟨by omega, w4⟩
      · rcases S2.2 with ⟨k', w1, w2, w3, w4⟩ | ⟨w1, -⟩
        · have : k' = k := frc_inj Fg1 w2 (by rw [x14]; exact y2) (by rw [w3, x40, y3])
          exact ⟨by omega, w4⟩
        · exact absurd (by rw [x40]; exact y3) (w1 k (by rw [x14]; exact y2))
    obtain ⟨es, eg⟩ := SAME
    rw [es, eg] at F2
    have rpE : ∀ cc y : Nat, ¬ (cc = 34 ∧ y = 15) → ¬ cc = 41 → g1 cc y = rp_M g1 k2 cc y := fun cc y q1 q2 => by
      by_cases q : cc = 35
      · rw [q, rp_35]
      · rw [rp_n q, E1 cc y q]; exact FO cc y q1 q2
    rcases F2 with ⟨a1, a2, a3⟩ | ⟨a1, ⟨a2, a4, a5, a6⟩, a3⟩
    · rcases F with ⟨b1, b2, b3⟩ | ⟨b1, -⟩
      · refine .inl ⟨a1, a2, fun cc y q => ?_⟩
        rw [a3 cc y q]
        by_cases q4 : cc = 41
        · rw [q4, E1 41 y (by omega), rp_n (by omega)]
          exact b3 41 y (by omega)
        · exact rpE cc y q q4
      · omega
    · rcases F with ⟨b1, -⟩ | ⟨b1, -, b3⟩
      · omega
      · refine .inr ⟨a1, ⟨a2, a4, fun i hi => by rw [a5 i hi]; exact rpE 38 i (by omega) (by omega), fun i hi => by rw [a6 i hi]; exact rpE 36 i (by omega) (by omega)⟩, fun cc y q => ?_⟩
        rw [a3 cc y q]
        by_cases q4 : cc = 41
        · rw [q4, E1 41 y (by omega), rp_n (by omega)]
          exact b3 41 y (by omega)
        · by_cases q5 : cc = 34 ∧ y = 15
          · rw [q5.1, q5.2, E1 34 15 (by omega), rp_n (by omega)]
            exact b3 34 15 (by omega)
          · exact rpE cc y q5 q4
end
end
section
/- the jumps behind a loop and back to its begin, on both sides -/
section
variable {nn : Nat} {K V : Nat → Int} {C : Nat → Nat} {W : Nat → List Int} {n F : Nat} {own : Int} {a b T h g u m w v z : ms_M} {PB : Nat → Prop} {WL WM : Int → Int → Prop} {L L2 : List (Int × Int)} {f x j p s l : Int}
/-- all jumps that wait for a label get the place where the CODE has come to -/
theorem mk_behind {js : List Int} (M : MK K V C W n F own a b T PB WL L h m) (eJ : pl_L f L = j :: js) (X : CHs (j :: js) h u) (ex : x = m 160 68) (bl : h 34 1 ≤ 990000) (b3 : h 34 3 ≤ 3000) : Pc (qf_X13_stands nn f x m) (fun w => MK K V C W n F own a b T PB WL (fl_L f L) u w ∧ MFe m w ∧ w 160 88 = m 160 88) := by
  obtain ⟨⟨c, ⟨J, JB⟩, FK, MB⟩, SK⟩ := M
  have hh : hs_L f L := Classical.byContradiction fun y => by
    have := (pl_hs (f := f) L).1 y
    rw [eJ] at this
    exact nomatch this
  have ll := fl_len L hh
  have c1 := c.1
  obtain ⟨⟨k1, k2, k3⟩, ⟨k4, k5⟩, k6⟩ := FK
  have MB0 := MB
  obtain ⟨⟨⟨s1, s2, s3⟩, s4, s5⟩, HD, -, -, ⟨⟨t1, t2⟩, t3, t4, -, -⟩⟩ := MB0
  have SK0 := SK
  obtain ⟨⟨y1, y2, y3, y4⟩, y5⟩ := SK0
  have F1 : F ≤ 1 := by
    rcases s4 with z | ⟨z, -⟩ <;> omega
  have r78 := k2.1
  refine r_stands J (by omega) JB.1 (fun i hi => by have := JB.2.1 i hi; omega) (fun w1 JW BW WF => .inr ⟨hh, ?_⟩)
  obtain ⟨g1, s, g2, CM, SL, FL⟩ := chs_n js j h u k1 X
  have G1 : ∀ cc y : Nat, ¬ cc = 35 → g1 cc y = h cc y := cms_e (j :: js) h g1 CM
  have W1 : ∀ cc y : Nat, ¬ (cc = 206 ∨ cc = 217 ∨ cc = 218) → ¬ (cc = 160 ∧ y = 87) → w1 cc y = m cc y := WF
  have Fc1 : FRc g1 := frc_k k1 (fun cc y z => G1 cc y (by omega))
  have Fr1 : FRr w1 := frr_k k2 (fun cc y z => W1 cc y (by omega) (by omega))
  refine pc_imp (r_frame (F := F) Fr1 (by rw [W1 160 53 (by omega) (by omega)]; exact t3) (by rw [W1 160 70 (by omega) (by omega)]; omega) (by rw [W1 160 50 (by omega) (by omega)]; omega) (by rw [W1 160 79 (by omega) (by omega)]; exact k3) (by rw [W1 160 52 (by omega) (by omega)]; omega) (by rw [W1 160 78 (by omega) (by omega)]; omega)) (fun w q => ?_)
  obtain ⟨Fw, fi, RF⟩ := q
  have C1 : CBY PB g1 w1 := cb_aims (f := f) (x := h 34 1) L h g1 m w1 c (by rw [eJ]; exact CM) rfl (fun e he => by have := (jlb_m JB).1 e he; omega) (W1 160 68 (by omega) (by omega)) (fun y => by rw [BW y, ex, c1.1])
  have RW := RF.2.2.2.2
  have FB := frk_both (WL := WL) (L2 := fl_L f L) (F := F) (h := g1) (m := w1) Fc1 Fr1 (by rw [W1 160 79 (by omega) (by omega)]; exact k3) (by rw [W1 160 78 (by omega) (by omega), W1 160 68 (by omega) (by omega), W1 160 84 (by omega) (by omega)]; omega) (fun z => by
    obtain ⟨z1, z2, z3⟩ := z
    rw [G1 34 1 (by omega)] at z1
    rw [G1 34 8 (by omega)] at z2
    rw [G1 34 4 (by omega)] at z3
    have q := (k6 ⟨z1, z2, z3⟩).1
    rw [W1 160 79 (by omega) (by omega), W1 160 68 (by omega) (by omega), W1 160 84 (by omega) (by omega)]
    omega) (fun p k z => by rw [W1 160 68 (by omega) (by omega)]; exact k5 p k z) (fun z => by
    obtain ⟨z1, z2, z3⟩ := z
    rw [G1 34 1 (by omega)] at z1
    rw [G1 34 8 (by omega)] at z2
    rw [G1 34 4 (by omega)] at z3
    exact frj_k (k6 ⟨z1, z2, z3⟩).2 (fun cc y z => G1 cc y (by omega)) (fun cc y z => W1 cc y (by omega) (by omega))) (by rw [W1 160 84 (by omega) (by omega), G1 34 15 (by omega)]; exact fun z => (HD.2.2.1 z).2) SL FL SL.1 (by rw [ex, ← c1.1] at RF; exact RF) Fw (by rw [W1 160 68 (by omega) (by omega)]; exact c1.1) (by rw [G1 34 1 (by omega), W1 160 68 (by omega) (by omega)]; exact c1.1) (by rw [G1 34 8 (by omega)]; omega) (by rw [G1 34 4 (by omega)]; omega) (by rw [W1 160 50 (by omega) (by omega)]; exact s1) (by rw [W1 160 70 (by omega) (by omega)]; exact y1) (by rw [W1 160 50 (by omega) (by omega)]; exact s2) F1 (by
    rw [W1 160 52 (by omega) (by omega), G1 38 0 (by omega)]
    rcases s4 with z | ⟨z1, -, z2⟩
    · exact .inl z
    · exact .inr ⟨z1, ⟨by rw [z2]; exact t4.1, t2.2 0 (by omega)⟩⟩) (fun i hi => by
    rw [W1 160 50 (by omega) (by omega)] at hi
    rw [W1 197 i (by omega) (by omega), G1 38 _ (by omega)]
    exact ⟨(s5 i hi).2.2.2, t2.2 _ (by omega)⟩) (fun i hi i20 => by
    rw [W1 160 70 (by omega) (by omega)] at hi
    rw [W1 207 i (by omega) (by omega), G1 36 _ (by omega)]
    exact y5 i (by omega) i20)
  obtain ⟨FK2, UF, U15⟩ := FB
  have UH : ∀ cc y : Nat, ¬ cc = 35 → ¬ (40 ≤ cc ∧ cc ≤ 42) → ¬ (cc = 34 ∧ (y = 14 ∨ y = 15)) → u cc y = h cc y := fun cc y z1 z2 z3 => (UF cc y z2 z3).trans (G1 cc y z1)
  have WM : ∀ cc y : Nat, ¬ (cc = 206 ∨ cc = 217 ∨ cc = 218) → ¬ (208 ≤ cc ∧ cc ≤ 212) → ¬ (cc = 160 ∧ (y = 78 ∨ y = 79 ∨ y = 87)) → w cc y = m cc y := fun cc y z1 z2 z3 => (RW cc y (by omega) (by omega) (by omega)).trans (W1 cc y z1 (by omega))
  refine ⟨⟨⟨cby_k C1 (fun cc y z => UF cc y (by omega) (by omega)) (fun cc y z => RW cc y (by omega) (by omega) (by omega)), ⟨jl_k JW (fun cc y z => RW cc y (by omega) (by omega) (by omega)), jlb_fl JB (by rw [WM 160 68 (by omega) (by omega) (by omega)]; exact Int.le_refl _) (by rw [WM 160 88 (by omega) (by omega) (by omega)]; exact Int.le_refl _)⟩, FK2, mb_k MB (fun cc y z => UH cc y (by omega) (by omega) (by omega)) (fun z => U15 (by rw [G1 34 15 (by omega)]; exact z)) (fun cc y z => WM cc y (by omega) (by omega) (by omega))⟩, skj_k SK (fun cc y z => UH cc y (by omega) (by omega) (by omega)) (fun cc y z => WM cc y (by omega) (by omega) (by omega))⟩, ⟨fun cc y z1 z2 z3 => WM cc y (by omega) (by omega) (by omega), by rw [WM 160 88 (by omega) (by omega) (by omega)]; exact Int.le_refl _⟩, WM 160 88 (by omega) (by omega) (by omega)⟩
/-- a jump back to the begin of a loop: the class -/
def CJb (A n : Int) (h u : ms_M) : Prop := ∃ (g1 g2 : ms_M) (s : Int) (g3 : ms_M), CJu 167 0 h g1 ∧ CAm (h 34 1) A g1 g2 ∧ SLc A g2 s g3 ∧ FLc s n 0 g3 u
theorem c_jback {A n : Int} (hl : 0 ≤ h 34 1 ∧ h 34 1 ≤ 900000) (h3 : 0 ≤ h 34 3 ∧ h 34 3 ≤ 2000000) (hA : 0 ≤ A ∧ A ≤ 900000) (hn : 0 ≤ n) (Fc : FRc h) : Pc (qf_X1_jumpBack nn A n h) (fun u => CJb A n h u) := by
  unfold qf_X1_jumpBack
  refine pc_sv (c_jump (by omega) (by omega) h3) ?_; intro u2 ⟨q1, q2⟩
  refine pc_sv (c_aim (by omega) (by omega)) ?_; intro u4 q4
  have F4 : FRc u4 := frc_k (frc_k Fc (fun cc y z => q2.2.2.2 cc y (by omega) (by omega))) (fun cc y z => q4.2 cc y (fun y => by omega))
  refine pc_sv (c_slot hA.1 F4) ?_; intro u6 q6
  have b6 : -1 ≤ u6.1 ∧ u6.1 < 100 := by
    have f14 := F4.1
    rcases q6.2 with ⟨k, s1, s2, -⟩ | ⟨-, ⟨s1, s2, -⟩ | ⟨-, s2, -⟩⟩ <;> omega
  refine pc_sv (c_fill b6 hn (by decide)) ?_; intro u8 q8
  rw [q1] at q4
  exact pc_ret ⟨u2.2, u4, u6.1, u6.2, q2, q4, q6, q8⟩
/-- the class's jump has its aim -/
def AMd (u : ms_M) (j A : Int) : Prop := j + 2 < 1500 → u 35 (j.toNat + 1) = oq_b (oq_shr (A - j) 8) ∧ u 35 (j.toNat + 2) = oq_b (A - j)
theorem cjb_f {A n : Int} (Fc : FRc h) (hl : 0 ≤ h 34 1) (X : CJb A n h u) : FRc u ∧ u 34 1 = h 34 1 + 3 ∧ (0 ≤ h 34 3 → u 34 3 = h 34 3) ∧ (∀ cc y : Nat, ¬ (cc = 34 ∧ (y = 1 ∨ y = 3 ∨ y = 14 ∨ y = 15)) → ¬ (cc = 35 ∧ (h 34 1).toNat ≤ y) → ¬ (40 ≤ cc ∧ cc ≤ 42) → u cc y = h cc y) ∧ AMd u (h 34 1) A := by
  obtain ⟨g1, g2, s, g3, J, A2, S, FL⟩ := X
  have F1 : FRc g1 := frc_k Fc (fun cc y z => J.2.2.2 cc y (by omega) (by omega))
  have F2 : FRc g2 := frc_k F1 (fun cc y z => A2.2 cc y (fun y => by omega))
  obtain ⟨K3, -⟩ := sl_sk F2 S
  have FO : ∀ cc y : Nat, ¬ (cc = 34 ∧ y = 15) → ¬ cc = 41 → u cc y = g3 cc y := fun cc y q1 q2 => by
    rcases FL with ⟨-, -, a3⟩ | ⟨-, -, a3⟩
    · exact a3 cc y q1
    · exact a3 cc y (by omega)
  have U2 : ∀ cc y : Nat, ¬ (cc = 34 ∧ (y = 14 ∨ y = 15)) → ¬ (40 ≤ cc ∧ cc ≤ 42) → u cc y = g2 cc y := fun cc y q1 q2 => by rw [FO cc y (by omega) (by omega)]; exact K3 cc y (by omega) (by omega) (by omega)
  have U1 : ∀ cc y : Nat, ¬ (cc = 34 ∧ (y = 14 ∨ y = 15)) → ¬ (40 ≤ cc ∧ cc ≤ 42) → ¬ cc = 35 → u cc y = g1 cc y := fun cc y q1 q2 q3 => by rw [U2 cc y q1 q2]; exact A2.2 cc y (fun y => absurd y q3)
  refine ⟨frc_k S.1 (fun cc y z => FO cc y (by omega) (by omega)), by rw [U1 34 1 (by omega) (by omega) (by omega)]; exact J.1, fun h0 => ?_, fun cc y q1 q2 q3 => ?_, fun lt => ?_⟩
  · rw [U1 34 3 (by omega) (by omega) (by omega), J.2.1]
    split <;> omega
  · rw [U2 cc y (by omega) q3, A2.2 cc y (fun e q => by omega)]
    exact J.2.2.2 cc y (by omega) (by omega)
  · rw [U2 35 _ (by omega) (by omega), U2 35 _ (by omega) (by omega)]
    exact A2.1 hl lt
theorem mk_back {A n' : Int} (M : MK K V C W n F own a b T PB WL L h m) (X : CJb A n' h u) (hA : 0 ≤ A ∧ A ≤ h 34 1) (bl : h 34 1 ≤ 900000) (hn : 0 ≤ n' ∧ n' ≤ h 34 7) (CO : ∀ k, WL A k → k = n') (hl : l ≤ m 160 88) : Pc (qf_X13_jump nn 167 l m) (fun w => MK K V C W n F own a b T (fun y => PB y ∨ (y = (m 160 68 + 1).toNat ∨ y = (m 160 68 + 2).toNat)) (fun q k => WL q k ∨ (q = A ∧ k = n')) (L ++ [(m 160 68, l)]) u w ∧ MFe m w ∧ w 160 88 = m 160 88) := by
  have M0 := M
  obtain ⟨⟨c, ⟨Jl, JB⟩, FK, MB⟩, SK⟩ := M
  have c1 := c.1
  obtain ⟨g1, g2, s, g3, J, A2, S, FL⟩ := X
  refine pc_imp (r_jump (by omega)) (fun w RJ => ?_)
  have M1 := ma_jump M0.1 J RJ (by unfold in_R; omega) hl
  have W5 := RJ.2.2.2.2.2.2
  have SK1 : SKJ n g1 w := sk_jump SK J ⟨by omega, by have := SK.1.2.2.1; omega⟩ (by rw [W5 160 70 (by omega) (by omega) (by omega)]; omega) (fun cc y z => W5 cc y (by omega) (by omega) (by omega))
  obtain ⟨c', ⟨Jl', JB'⟩, ⟨⟨k1, k2, k3⟩, ⟨k4, k5⟩, k6⟩, MB'⟩ := M1
  have F1 := k1
  have F2 : FRc g2 := frc_k F1 (fun cc y z => A2.2 cc y (fun y => by omega))
  obtain ⟨K3, -⟩ := sl_sk F2 S
  have FO : ∀ cc y : Nat, ¬ (cc = 34 ∧ y = 15) → ¬ cc = 41 → u cc y = g3 cc y := fun cc y q1 q2 => by
    rcases FL with ⟨-, -, a3⟩ | ⟨-, -, a3⟩
    · exact a3 cc y q1
    · exact a3 cc y (by omega)
  have U15 : g1 34 15 = 1 → u 34 15 = 1 := fun z => by
    have z2 : g3 34 15 = 1 := by rw [K3 34 15 (by omega) (by omega) (by omega), A2.2 34 15 (fun y => by omega)]; exact z
    rcases FL with ⟨-, a2, -⟩ | ⟨-, -, a3⟩
    · exact a2
    · rw [a3 34 15 (by omega)]; exact z2
  have U2 : ∀ cc y : Nat, ¬ (cc = 34 ∧ (y = 14 ∨ y = 15)) → ¬ (40 ≤ cc ∧ cc ≤ 42) → u cc y = g2 cc y := fun cc y q1 q2 => by rw [FO cc y (by omega) (by omega)]; exact K3 cc y (by omega) (by omega) (by omega)
  have U1 : ∀ cc y : Nat, ¬ (cc = 34 ∧ (y = 14 ∨ y = 15)) → ¬ (40 ≤ cc ∧ cc ≤ 42) → ¬ cc = 35 → u cc y = g1 cc y := fun cc y q1 q2 q3 => by rw [U2 cc y q1 q2]; exact A2.2 cc y (fun y => absurd y q3)
  have w68 : w 160 68 = m 160 68 + 3 := RJ.2.1
  have u1 := U1 34 1 (by omega) (by omega) (by omega)
  have u8 := U1 34 8 (by omega) (by omega) (by omega)
  have u4 := U1 34 4 (by omega) (by omega) (by omega)
  have j8 := J.2.2.2 34 8 (by omega) (by omega)
  have t7 := MB.2.2.2.2.1.2
  refine ⟨⟨⟨?_, ⟨Jl', JB'⟩, ⟨⟨frc_k S.1 (fun cc y z => FO cc y (by omega) (by omega)), k2, k3⟩, ⟨k4, fun q k z => ?_⟩, fun o => ?_⟩, mb_k MB' (fun cc y z => U1 cc y (by omega) (by omega) (by omega)) U15 (fun _ _ _ => rfl)⟩, skj_k SK1 (fun cc y z => U1 cc y (by omega) (by omega) (by omega)) (fun _ _ _ => rfl)⟩, ⟨fun cc y z1 z2 z3 => W5 cc y (by omega) (by omega) (by omega), by rw [W5 160 88 (by omega) (by omega) (by omega)]; exact Int.le_refl _⟩, W5 160 88 (by omega) (by omega) (by omega)⟩
  · obtain ⟨⟨d1, d2⟩, d3⟩ := c'
    refine ⟨by omega, fun o lt y hy np => ?_⟩
    rw [U1 45 5 (by omega) (by omega) (by omega)] at o
    rw [U2 35 y (by omega) (by omega), A2.2 35 y (fun _ q => np (.inr (by omega)))]
    exact d3 o (by omega) y (by omega) (fun z => np (.inl z))
  · rcases z with z | ⟨z, -⟩
    · exact k5 q k z
    · omega
  · have o1 : OKM g1 := ⟨by have := o.1; omega, by have := o.2.1; omega, by have := o.2.2; omega⟩
    obtain ⟨q1, q2⟩ := k6 o1
    have q2' : FRJ n WL g2 w := frj_k q2 (fun cc y z => A2.2 cc y (fun y => by omega)) (fun _ _ _ => rfl)
    exact ⟨q1, fj_class q2' F2 S FL ⟨hn.1, by have := o1.2.1; omega⟩ CO⟩
end
end
