section
/- VERIFY: the class takes a method's frames -/
/-- what the constants' types are -/
def CT3 (Bf : Nat → Nat → Int) (nf : Nat → Nat) (cnt : Int) (k : Nat) (h : ms_M) : Prop := ∀ a : Int, tg_S (Bf k) (nf k) a = 3 → h 128 a.toNat = cq_F Bf nf cnt (Bf k) (nf k) a
/-- the row of frame f -/
def CFx (Bf : Nat → Nat → Int) (nf : Nat → Nat) (cnt : Int) (k i f : Nat) (h : ms_M) : Prop := (h 133 (64 * f) = fv_S (Bf k) (nf k) i f ∧ h 133 (64 * f + 1) = nl_S (Bf k) (nf k) i f ∧ h 133 (64 * f + 2) = nk_S (Bf k) (nf k) i f) ∧ (∀ j : Nat, j < 30 → (j : Int) < nl_S (Bf k) (nf k) i f → h 133 (64 * f + 3 + j) = fl_F Bf nf cnt k i f j) ∧ ∀ j : Nat, j < 30 → (j : Int) < nk_S (Bf k) (nf k) i f → h 133 (64 * f + 33 + j) = fk_F Bf nf cnt k i f j
def mk_V (o : Option Nat) : Int := match o with
  | some x => (x : Int)
  | none => -1
/-- the marks with the first m frames -/
def MKf (D : Nat → Int) (L : Nat) (P : Nat → Int) (m : Nat) (h : ms_M) : Prop := ∀ p : Nat, p < L → (BGn D L p ∧ h 132 p = mk_V (fs_F (fun f => P f = (p : Int)) m)) ∨ (¬ BGn D L p ∧ h 132 p = -2)
section
variable {nn : Nat} {Bf : Nat → Nat → Int} {nf : Nat → Nat} {cnt : Int} {B C D : Nat → Int} {n m b d k o i L p q : Nat} {M h g r h0 : ms_M} {t c : Int}
theorem mkv_r {o : Option Nat} : -1 ≤ mk_V o := by
  cases o with
  | none => show (-1 : Int) ≤ -1; omega
  | some x => show (-1 : Int) ≤ (x : Int); omega
theorem mkf_b {P : Nat → Int} (A : MKf D L P m h) : MKb D L h := fun p hp => by
  rcases A p hp with ⟨a, b⟩ | ⟨a, b⟩
  · refine .inl ⟨a, fun z => ?_⟩
    have := mkv_r (o := fs_F (fun f => P f = (p : Int)) m)
    omega
  · exact .inr ⟨a, b⟩
theorem vc_tag (T3 : CT3 Bf nf cnt k h) (T : TPg (Bf k) (nf k) p) {u : Int} (e : Bf k p = 3 → u = Bf k (p + 1)) : Pc (qf_X11_typeOfTag nn (Bf k p) u h) (fun v => v = tt_F Bf nf cnt k p) := by
  obtain ⟨t1, t2, t3⟩ := T
  unfold qf_X11_typeOfTag tt_F
  refine pc_if (fun z => pc_ret (by rw [if_pos z])) (fun z => ?_)
  rw [if_neg z]
  refine pc_if (fun z1 => pc_ret (by rw [if_pos z1])) (fun z1 => ?_)
  rw [if_neg z1]
  refine pc_if (fun z2 => pc_ret (by rw [if_pos z2])) (fun z2 => ?_)
  rw [if_neg z2]
  have c3 : Bf k p = 3 := by omega
  refine pc_rA ?_; intro _ _ v2 e2
  refine pc_ret ?_
  rw [e2, e c3]
  exact T3 _ (t3 c3).2
theorem tp_le (TL : TLg B n p) : ∀ j : Nat, j ≤ (B p).toNat → tp_S B p j ≤ n := by
  intro j hj
  cases j with
  | zero =>
    have := TL.1
    show p + 1 ≤ n
    omega
  | succ j => exact tpg_n (TL.2.1 j (by omega))
/-- TAKE TYPES -/
theorem vc_tt17 (C : CMe Bf nf k i h0) (T3 : CT3 Bf nf cnt k h0) (TL : TLg (Bf k) (nf k) p) {row : Nat} (rw : row + 30 ≤ 6400) : ∀ (f j : Nat) (h : ms_M), j ≤ (Bf k p).toNat → (∀ c x : Nat, ¬ (c = 133 ∧ row ≤ x ∧ x < row + 30) → h c x = h0 c x) → (∀ x : Nat, x < j → x < 30 → h 133 (row + x) = tt_F Bf nf cnt k (tp_S (Bf k) p x)) → Pc (qw_X11_takeTypes_17 nn f (row : Int) (Bf k p) (tp_S (Bf k) p j : Int) (j : Int) h) (fun u => u.1 = (te_P (Bf k) p : Int) ∧ (∀ c x : Nat, ¬ (c = 133 ∧ row ≤ x ∧ x < row + 30) → u.2 c x = h0 c x) ∧ ∀ x : Nat, x < (Bf k p).toNat → x < 30 → u.2 133 (row + x) = tt_F Bf nf cnt k (tp_S (Bf k) p x)) := by
  have n6 := cme_n6 C
  have b0 := cme_b C TL.1
  intro f
  induction f with
  | zero => intro j h _ _ _; exact pc_none
  | succ f ih =>
    intro j h hj F W
    have Ch : CMe Bf nf k i h := cme_k C (fun x y z1 z2 => F x y (by omega))
    have T3h : CT3 Bf nf cnt k h := fun a ha => by rw [F 128 _ (by omega)]; exact T3 a ha
    unfold qw_X11_takeTypes_17
    refine pc_if (fun z => ?_) (fun z => ?_)
    · have ej : j = (Bf k p).toNat := by omega
      refine pc_ret ⟨?_, F, fun x hx h3 => W x (by omega) h3⟩
      show (tp_S (Bf k) p j : Int) = (te_P (Bf k) p : Int)
      rw [ej]; rfl
    have T := TL.2.1 j (by omega)
    have tn := tpg_n T
    rw [Ch.2.2.2.1]
    refine pc_ck (fun _ => pc_ck (fun _ => ?_))
    refine pc_sv (vc_byte Ch (p := tp_S (Bf k) p j) T.1) ?_; intro u6 q6
    rw [q6]
    have st : tp_S (Bf k) p (j + 1) = tp_S (Bf k) p j + (if Bf k (tp_S (Bf k) p j) = 3 then 2 else 1) := rfl
    have NX : ∀ g : ms_M, (∀ c x : Nat, ¬ (c = 133 ∧ row ≤ x ∧ x < row + 30) → g c x = h0 c x) → (∀ x : Nat, x < j + 1 → x < 30 → g 133 (row + x) = tt_F Bf nf cnt k (tp_S (Bf k) p x)) → Pc (qj_X11_takeTypes_67 nn (qw_X11_takeTypes_17 nn f) (row : Int) (Bf k p) (tp_S (Bf k) p j : Int) (j : Int) (Bf k (tp_S (Bf k) p j)) g) (fun u => u.1 = (te_P (Bf k) p : Int) ∧ (∀ c x : Nat, ¬ (c = 133 ∧ row ≤ x ∧ x < row + 30) → u.2 c x = h0 c x) ∧ ∀ x : Nat, x < (Bf k p).toNat → x < 30 → u.2 133 (row + x) = tt_F Bf nf cnt k (tp_S (Bf k) p x)) := fun g Fg Wg => by
      unfold qj_X11_takeTypes_67
      refine pc_if (fun y => ?_) (fun y => ?_)
      · rw [if_neg y] at st
        unfold qj_X11_takeTypes_80
        refine pc_add (by omega) ?_; intro v1 e1
        refine pc_add (by omega) ?_; intro v2 e2
        rw [show v1 = (tp_S (Bf k) p (j + 1) : Int) by omega, show v2 = ((j + 1 : Nat) : Int) by omega]
        exact ih (j + 1) g (by omega) Fg Wg
      · rw [if_pos (by omega)] at st
        unfold qj_X11_takeTypes_80
        refine pc_add (by omega) ?_; intro v1 e1
        refine pc_add (by omega) ?_; intro v2 e2
        rw [show v1 = (tp_S (Bf k) p (j + 1) : Int) by omega, show v2 = ((j + 1 : Nat) : Int) by omega]
        exact ih (j + 1) g (by omega) Fg Wg
    refine pc_if (fun y => NX h F (fun x hx h3 => W x (by omega) h3)) (fun y => ?_)
    refine pc_add (by omega) ?_; intro v8 e8
    refine pc_ck (fun _ => ?_)
    refine pc_add (by omega) ?_; intro v10 e10
    refine pc_se ?_; intro u12 e12
    refine pc_sv (vc_tag T3h T (u := u12) (fun c3 => ?_)) ?_
    · rw [show v10 = ((tp_S (Bf k) p j + 1 : Nat) : Int) by omega] at e12
      exact vc_byte Ch (p := tp_S (Bf k) p j + 1) (T.2.2 c3).1 u12 e12
    intro u14 q14
    refine pc_wA ?_; intro _ _ h15 e15
    rw [show v8.toNat = row + j by omega] at e15
    refine NX h15 (fun c x z => ?_) (fun x hx h3 => ?_)
    · rw [e15, up_n (by omega)]; exact F c x z
    · by_cases xj : x = j
      · rw [xj, e15, up_s, q14]
      · rw [e15, up_n (by omega)]; exact W x (by omega) h3
theorem vc_ttypes (C : CMe Bf nf k i h) (T3 : CT3 Bf nf cnt k h) (TL : TLg (Bf k) (nf k) p) {row : Nat} (rw : row + 30 ≤ 6400) : Pc (qf_X11_takeTypes nn (p : Int) (row : Int) h) (fun u => u.1 = (te_P (Bf k) p : Int) ∧ (∀ c x : Nat, ¬ (c = 133 ∧ row ≤ x ∧ x < row + 30) → u.2 c x = h c x) ∧ ∀ x : Nat, x < (Bf k p).toNat → x < 30 → u.2 133 (row + x) = tt_F Bf nf cnt k (tp_S (Bf k) p x)) := by
  have n6 := cme_n6 C
  have := TL.1
  unfold qf_X11_takeTypes
  rw [C.2.2.2.1]
  refine pc_ck (fun _ => pc_ck (fun _ => ?_))
  refine pc_sv (vc_byte C (p := p) TL.1) ?_; intro u20 q20
  refine pc_add (by omega) ?_; intro v21 e21
  rw [q20, show v21 = (tp_S (Bf k) p 0 : Int) by rw [e21]; rfl]
  exact vc_tt17 C T3 TL rw nn 0 h (Nat.zero_le _) (fun _ _ _ => rfl) (fun x hx => absurd hx (by omega))
/-- one frame more among the marks -/
theorem mkf_no {P : Nat → Int} (A : MKf D L P m h) (e : ∀ p : Nat, g 132 p = h 132 p) (z : ∀ p : Nat, p < L → BGn D L p → P m = (p : Int) → ¬ fs_F (fun f => P f = (p : Int)) m = none) : MKf D L P (m + 1) g := fun p hp => by
  rw [e]
  rcases A p hp with ⟨a, b⟩ | ⟨a, b⟩
  · refine .inl ⟨a, b.trans (congrArg mk_V ?_)⟩
    show _ = (match fs_F (fun f => P f = (p : Int)) m with | some p => some p | none => pr_I (P m = (p : Int)) (some m) none)
    cases hs : fs_F (fun f => P f = (p : Int)) m with
    | some x => rfl
    | none => exact (pr_f (fun w => z p hp a w hs)).symm
  · exact .inr ⟨a, b⟩
theorem mkf_yes {P : Nat → Int} (A : MKf D L P m h) {x : Int} (x0 : BGi D L x) (ex : P m = x) (w : h 132 x.toNat = -1) (e : ∀ p : Nat, ¬ p = x.toNat → g 132 p = h 132 p) (e2 : g 132 x.toNat = (m : Int)) : MKf D L P (m + 1) g := fun p hp => by
  have x1 := bgi_lt x0
  by_cases px : p = x.toNat
  · have ep : (p : Int) = x := by omega
    rw [px, e2]
    refine .inl ⟨x0.2, ?_⟩
    have hs : fs_F (fun f => P f = ((x.toNat : Nat) : Int)) m = none := by
      rcases A x.toNat (by omega) with ⟨a, b⟩ | ⟨a, b⟩
      · cases hs : fs_F (fun f => P f = ((x.toNat : Nat) : Int)) m with
        | none => rfl
        | some y =>
          rw [hs, w] at b
          have b : (-1 : Int) = (y : Int) := b
          omega
      · exact absurd x0.2 a
    show _ = mk_V (match fs_F (fun f => P f = ((x.toNat : Nat) : Int)) m with | some p => some p | none => pr_I (P m = ((x.toNat : Nat) : Int)) (some m) none)
    rw [hs]
    show _ = mk_V (pr_I (P m = ((x.toNat : Nat) : Int)) (some m) none)
    rw [pr_t (by omega)]
    all_goals rfl
  · rw [e p px]
    rcases A p hp with ⟨a, b⟩ | ⟨a, b⟩
    · refine .inl ⟨a, b.trans (congrArg mk_V ?_)⟩
      show _ = (match fs_F (fun f => P f = (p : Int)) m with | some p => some p | none => pr_I (P m = (p : Int)) (some m) none)
      cases hs : fs_F (fun f => P f = (p : Int)) m with
      | some x => rfl
      | none => exact (pr_f (by omega)).symm
    · exact .inr ⟨a, b⟩
theorem cfx_k {f : Nat} (A : CFx Bf nf cnt k i f h) (e : ∀ x : Nat, 64 * f ≤ x → x < 64 * f + 64 → g 133 x = h 133 x) : CFx Bf nf cnt k i f g := by
  obtain ⟨⟨a1, a2, a3⟩, a4, a5⟩ := A
  refine ⟨⟨?_, ?_, ?_⟩, fun j hj h2 => ?_, fun j hj h2 => ?_⟩
  · rw [e _ (by omega) (by omega)]; exact a1
  · rw [e _ (by omega) (by omega)]; exact a2
  · rw [e _ (by omega) (by omega)]; exact a3
  · rw [e _ (by omega) (by omega)]; exact a4 j hj h2
  · rw [e _ (by omega) (by omega)]; exact a5 j hj h2
/-- TAKE FRAMES -/
theorem vc_tf9 (C : CMe Bf nf k i h0) (T3 : CT3 Bf nf cnt k h0) (e16 : h0 127 16 = (cl_N (Bf k) (nf k) i : Int)) : ∀ (y f : Nat) (h : ms_M), f ≤ fn_S (Bf k) (nf k) i → (∀ c x : Nat, ¬ c = 132 → ¬ c = 133 → h c x = h0 c x) → (∀ x : Nat, x < f → CFx Bf nf cnt k i x h) → MKf (cd_S (Bf k) (nf k) i) (cl_N (Bf k) (nf k) i) (fv_S (Bf k) (nf k) i) f h → Pc (qw_X11_takeFrames_9 nn y 1 (fw_S (Bf k) (nf k) i f : Int) (f : Int) h) (fun u => (∀ c x : Nat, ¬ c = 132 → ¬ c = 133 → u c x = h0 c x) ∧ (∀ x : Nat, x < fn_S (Bf k) (nf k) i → CFx Bf nf cnt k i x u) ∧ MKf (cd_S (Bf k) (nf k) i) (cl_N (Bf k) (nf k) i) (fv_S (Bf k) (nf k) i) (fn_S (Bf k) (nf k) i) u) := by
  have n6 := cme_n6 C
  have gm := cme_m C
  have g9 := gm.2.2.2.2.2.2.1
  have eN : (fn_S (Bf k) (nf k) i : Int) = Bf k (mf_P (Bf k) (nf k) i) := by unfold fn_S; omega
  obtain ⟨l1, l2, l3, l4, l5⟩ := cme_l C
  intro y
  induction y with
  | zero => intro f h _ _ _ _; exact pc_none
  | succ y ih =>
    intro f h hf F W MK
    have Ch : CMe Bf nf k i h := cme_k C (fun x y z1 z2 => F x y (by omega) (by omega))
    unfold qw_X11_takeFrames_9
    refine pc_sv (vc_info Ch (w := 9) (by decide) (cme_d Ch).2.2.2.1) ?_; intro u2 q2
    refine pc_if (fun z => ?_) (fun z => ?_)
    · have ef : f = fn_S (Bf k) (nf k) i := by omega
      refine pc_ret ⟨F, ?_, ?_⟩
      · rw [← ef]; exact W
      · rw [ef] at MK; exact MK
    refine pc_if (fun w => absurd w (by decide)) (fun _ => ?_)
    have ff : f < fn_S (Bf k) (nf k) i := by omega
    have G := gm_fr gm ff
    obtain ⟨G1, G2, G3⟩ := G
    have tl2 := tp_le G2 _ (Nat.le_refl _)
    refine pc_xl ?_; intro v3 e3
    rw [oq_mul_eq (by omega) (by omega) (by omega)] at e3
    rw [Ch.2.2.2.1]
    refine pc_ck (fun _ => pc_ck (fun _ => ?_))
    refine pc_sv (vc_pair Ch (p := fw_S (Bf k) (nf k) i f) (by omega)) ?_; intro u6 q6
    have q6 : u6 = fv_S (Bf k) (nf k) i f := q6
    refine pc_wA ?_; intro _ _ h8 e8
    rw [show v3.toNat = 64 * f by omega] at e8
    have F8 : ∀ c x : Nat, ¬ (c = 133 ∧ x = 64 * f) → h8 c x = h c x := fun c x w => by rw [e8, up_n w]
    refine pc_add (by omega) ?_; intro v10 e10
    have C8 : CMe Bf nf k i h8 := cme_k Ch (fun x y z1 z2 => F8 x y (by omega))
    rw [C8.2.2.2.1]
    refine pc_ck (fun _ => ?_)
    refine pc_add (by omega) ?_; intro v12 e12
    refine pc_ck (fun _ => ?_)
    rw [show v12 = ((fw_S (Bf k) (nf k) i f + 2 : Nat) : Int) by omega]
    refine pc_sv (vc_byte C8 (p := fw_S (Bf k) (nf k) i f + 2) G2.1) ?_; intro u14 q14
    have q14 : u14 = nl_S (Bf k) (nf k) i f := q14
    refine pc_wA ?_; intro _ _ h15 e15
    rw [show v10.toNat = 64 * f + 1 by omega] at e15
    have F15 : ∀ c x : Nat, ¬ (c = 133 ∧ (x = 64 * f ∨ x = 64 * f + 1)) → h15 c x = h c x := fun c x w => by rw [e15, up_n (by omega)]; exact F8 c x (by omega)
    have C15 : CMe Bf nf k i h15 := cme_k Ch (fun x y z1 z2 => F15 x y (by omega))
    have T15 : CT3 Bf nf cnt k h15 := fun a ha => by rw [F15 128 _ (by omega), F 128 _ (by omega) (by omega)]; exact T3 a ha
    refine pc_add (by omega) ?_; intro v16 e16'
    refine pc_add (by omega) ?_; intro v17 e17
    rw [show v16 = ((fw_S (Bf k) (nf k) i f + 2 : Nat) : Int) by omega, show v17 = ((64 * f + 3 : Nat) : Int) by omega]
    refine pc_sv (vc_ttypes C15 T15 G2 (row := 64 * f + 3) (by omega)) ?_; intro u19 ⟨t1, t2, t3⟩
    refine pc_add (by omega) ?_; intro v21 e21
    have C19 : CMe Bf nf k i u19.2 := cme_k C15 (fun x y z1 z2 => t2 x y (by omega))
    rw [C19.2.2.2.1, t1]
    refine pc_ck (fun _ => pc_ck (fun _ => ?_))
    refine pc_sv (vc_byte C19 (p := te_P (Bf k) (fw_S (Bf k) (nf k) i f + 2)) G3.1) ?_; intro u24 q24
    have q24 : u24 = nk_S (Bf k) (nf k) i f := q24
    refine pc_wA ?_; intro _ _ h25 e25
    rw [show v21.toNat = 64 * f + 2 by omega] at e25
    have F25 : ∀ c x : Nat, ¬ (c = 133 ∧ 64 * f ≤ x ∧ x < 64 * f + 64) → h25 c x = h c x := fun c x w => by rw [e25, up_n (by omega), t2 c x (by omega)]; exact F15 c x (by omega)
    have C25 : CMe Bf nf k i h25 := cme_k Ch (fun x y z1 z2 => F25 x y (by omega))
    have T25 : CT3 Bf nf cnt k h25 := fun a ha => by rw [F25 128 _ (by omega), F 128 _ (by omega) (by omega)]; exact T3 a ha
    refine pc_add (by omega) ?_; intro v26 e26
    rw [show v26 = ((64 * f + 33 : Nat) : Int) by omega]
    refine pc_sv (vc_ttypes C25 T25 G3 (row := 64 * f + 33) (by omega)) ?_; intro u28 ⟨s1, s2, s3⟩
    have F28 : ∀ c x : Nat, ¬ (c = 133 ∧ 64 * f ≤ x ∧ x < 64 * f + 64) → u28.2 c x = h c x := fun c x w => by rw [s2 c x (by omega)]; exact F25 c x w
    have K28 : CFx Bf nf cnt k i f u28.2 := by
      refine ⟨⟨?_, ?_, ?_⟩, fun j hj h2 => ?_, fun j hj h2 => ?_⟩
      · rw [s2 133 _ (by omega), e25, up_n (by omega), t2 133 _ (by omega), e15, up_n (by omega), e8, up_s, q6]
      · rw [s2 133 _ (by omega), e25, up_n (by omega), t2 133 _ (by omega), e15, up_s, q14]
      · rw [s2 133 _ (by omega), e25, up_s, q24]
      · have h2 : (j : Int) < Bf k (fw_S (Bf k) (nf k) i f + 2) := h2
        rw [s2 133 _ (by omega), e25, up_n (by omega)]; exact t3 j (by omega) hj
      · have h2 : (j : Int) < Bf k (te_P (Bf k) (fw_S (Bf k) (nf k) i f + 2)) := h2
        exact s3 j (by omega) hj
    have A28 : ∀ x : Nat, x < f + 1 → CFx Bf nf cnt k i x u28.2 := fun x hx => by
      by_cases xf : x = f
      · rw [xf]; exact K28
      · exact cfx_k (W x (by omega)) (fun a w1 w2 => F28 133 a (by omega))
    have G28 : ∀ c x : Nat, ¬ c = 132 → ¬ c = 133 → u28.2 c x = h0 c x := fun c x w1 w2 => by rw [F28 c x (by omega)]; exact F c x w1 w2
    have NX : ∀ (g : ms_M) (v : Int), v = (f : Int) + 1 → (∀ c x : Nat, ¬ c = 132 → g c x = u28.2 c x) → MKf (cd_S (Bf k) (nf k) i) (cl_N (Bf k) (nf k) i) (fv_S (Bf k) (nf k) i) (f + 1) g → Pc (qw_X11_takeFrames_9 nn y 1 u28.1 v g) (fun u => (∀ c x : Nat, ¬ c = 132 → ¬ c = 133 → u c x = h0 c x) ∧ (∀ x : Nat, x < fn_S (Bf k) (nf k) i → CFx Bf nf cnt k i x u) ∧ MKf (cd_S (Bf k) (nf k) i) (cl_N (Bf k) (nf k) i) (fv_S (Bf k) (nf k) i) (fn_S (Bf k) (nf k) i) u) := fun g v ev Fg Mg => by
      have ew : u28.1 = (fw_S (Bf k) (nf k) i (f + 1) : Int) := s1
      rw [ew, ev, show (f : Int) + 1 = ((f + 1 : Nat) : Int) by omega]
      refine ih (f + 1) g (by omega) (fun c x w1 w2 => by rw [Fg c x w1]; exact G28 c x w1 w2) (fun x hx => cfx_k (A28 x hx) (fun a _ _ => Fg 133 a (by omega))) Mg
    have e28 : u28.2 127 16 = (cl_N (Bf k) (nf k) i : Int) := by rw [G28 127 16 (by omega) (by omega)]; exact e16
    have M28 : MKf (cd_S (Bf k) (nf k) i) (cl_N (Bf k) (nf k) i) (fv_S (Bf k) (nf k) i) f u28.2 := fun p hp => by rw [F28 132 p (by omega)]; exact MK p hp
    refine pc_sv (vc_begins e28 (mkf_b M28) (x := u6)) ?_; intro u30 q30
    refine pc_if (fun z1 => pc_add (by omega) (fun v ev => NX u28.2 v ev (fun _ _ _ => rfl) (mkf_no M28 (fun _ => rfl) (fun p hp bp ep => ?_)))) (fun z1 => ?_)
    · exfalso
      rcases q30 with q | q
      · omega
      · exact q.2 ⟨by omega, by rw [show u6.toNat = p by omega]; exact bp⟩
    have bg : BGi (cd_S (Bf k) (nf k) i) (cl_N (Bf k) (nf k) i) u6 := by
      rcases q30 with q | q
      · exact q.2
      · exact absurd q.1 z1
    have bl := bgi_lt bg
    refine pc_rA ?_; intro _ _ v33 e33
    refine pc_if (fun z2 => pc_add (by omega) (fun v ev => NX u28.2 v ev (fun _ _ _ => rfl) (mkf_no M28 (fun _ => rfl) (fun p hp bp ep hs => ?_)))) (fun z2 => ?_)
    · rcases M28 p hp with ⟨a, b⟩ | ⟨a, b⟩
      · rw [hs] at b
        have b : u28.2 132 p = -1 := b
        rw [show u6.toNat = p by omega] at e33
        omega
      · exact a bp
    refine pc_wA ?_; intro _ _ h36 e36
    refine pc_add (by omega) ?_; intro v37 e37
    refine NX h36 v37 e37 (fun c x w => by rw [e36, up_n (by omega)]) (mkf_yes M28 bg q6.symm (by omega) (fun p w => by rw [e36, up_n (by omega)]) (by rw [e36, up_s]))
theorem mkf_0 {P : Nat → Int} (A : ∀ p : Nat, p < L → (h 132 p = -1 ∧ BGn D L p) ∨ (h 132 p = -2 ∧ ¬ BGn D L p)) : MKf D L P 0 h := fun p hp => by
  rcases A p hp with ⟨a, b⟩ | ⟨a, b⟩
  · exact .inl ⟨b, a⟩
  · exact .inr ⟨b, a⟩
theorem vc_tframes (C : CMe Bf nf k i h) (T3 : CT3 Bf nf cnt k h) (e16 : h 127 16 = (cl_N (Bf k) (nf k) i : Int)) (MK : MKf (cd_S (Bf k) (nf k) i) (cl_N (Bf k) (nf k) i) (fv_S (Bf k) (nf k) i) 0 h) : Pc (qf_X11_takeFrames nn 1 h) (fun u => (∀ c x : Nat, ¬ c = 132 → ¬ c = 133 → u c x = h c x) ∧ (∀ x : Nat, x < fn_S (Bf k) (nf k) i → CFx Bf nf cnt k i x u) ∧ MKf (cd_S (Bf k) (nf k) i) (cl_N (Bf k) (nf k) i) (fv_S (Bf k) (nf k) i) (fn_S (Bf k) (nf k) i) u) := by
  unfold qf_X11_takeFrames
  refine pc_sv (vc_info C (w := 10) (by decide) (cme_d C).2.2.2.2) ?_; intro u43 q43
  rw [show u43 = (fw_S (Bf k) (nf k) i 0 : Int) by rw [q43]; rfl]
  exact vc_tf9 C T3 e16 nn 0 h (Nat.zero_le _) (fun _ _ _ _ => rfl) (fun x hx => absurd hx (by omega)) MK
theorem vc_tframes0 (C : CMe Bf nf k i h) : Pc (qf_X11_takeFrames nn 0 h) (fun u => u = h) := by
  unfold qf_X11_takeFrames
  refine pc_sv (vc_info C (w := 10) (by decide) (cme_d C).2.2.2.2) ?_; intro u43 q43
  cases nn with
  | zero => exact pc_none
  | succ y =>
    unfold qw_X11_takeFrames_9
    refine pc_se ?_; intro u2 _
    refine pc_if (fun _ => pc_ret rfl) (fun _ => ?_)
    exact pc_if (fun _ => pc_ret rfl) (fun w => absurd rfl w)
end
end
section
/- VERIFY: frames, the reference's side; handlers, both sides -/
section
variable {nn : Nat} {Bf : Nat → Nat → Int} {nf : Nat → Nat} {cnt : Int} {B C D : Nat → Int} {n m b d k o i L p q : Nat} {M h g r h0 : ms_M} {t c : Int}
theorem vr_te17 (R : RMe Bf nf cnt k i h) (TL : TLg (Bf k) (nf k) p) : ∀ (f j : Nat), j ≤ (Bf k p).toNat → Pc (qw_X13_typesEnd_17 nn f (Bf k p) (tp_S (Bf k) p j : Int) (j : Int) h) (fun u => u = (te_P (Bf k) p : Int)) := by
  have n6 := rme_n6 R
  have b0 := rme_b R TL.1
  intro f
  induction f with
  | zero => intro j _; exact pc_none
  | succ f ih =>
    intro j hj
    unfold qw_X13_typesEnd_17
    refine pc_if (fun z => pc_ret ?_) (fun z => ?_)
    · have ej : j = (Bf k p).toNat := by omega
      rw [ej]; rfl
    have T := TL.2.1 j (by omega)
    have tn := tpg_n T
    have st : tp_S (Bf k) p (j + 1) = tp_S (Bf k) p j + (if Bf k (tp_S (Bf k) p j) = 3 then 2 else 1) := rfl
    refine pc_sv (vr_byte R T.1) ?_; intro u5 q5
    rw [q5]
    unfold qj_X13_typesEnd_42
    refine pc_if (fun y => ?_) (fun y => ?_)
    · rw [if_neg y] at st
      refine pc_add (by omega) ?_; intro v1 e1
      refine pc_add (by omega) ?_; intro v2 e2
      rw [show v1 = (tp_S (Bf k) p (j + 1) : Int) by omega, show v2 = ((j + 1 : Nat) : Int) by omega]
      exact ih (j + 1) (by omega)
    · rw [if_pos (by omega)] at st
      refine pc_add (by omega) ?_; intro v1 e1
      refine pc_add (by omega) ?_; intro v2 e2
      rw [show v1 = (tp_S (Bf k) p (j + 1) : Int) by omega, show v2 = ((j + 1 : Nat) : Int) by omega]
      exact ih (j + 1) (by omega)
theorem vr_tend (R : RMe Bf nf cnt k i h) (TL : TLg (Bf k) (nf k) p) : Pc (qf_X13_typesEnd nn (p : Int) h) (fun u => u = (te_P (Bf k) p : Int)) := by
  have n6 := rme_n6 R
  have := TL.1
  unfold qf_X13_typesEnd
  refine pc_sv (vr_byte R TL.1) ?_; intro u10 q10
  refine pc_add (by omega) ?_; intro v11 e11
  rw [q10, show v11 = (tp_S (Bf k) p 0 : Int) by rw [e11]; rfl]
  exact vr_te17 R TL nn 0 (Nat.zero_le _)
theorem rme_f (R : RMe Bf nf cnt k i h) : (fn_S (Bf k) (nf k) i : Int) = Bf k (mf_P (Bf k) (nf k) i) ∧ fn_S (Bf k) (nf k) i ≤ 100 ∧ mf_P (Bf k) (nf k) i < nf k ∧ (hn_S (Bf k) (nf k) i : Int) = Bf k (mh_P (Bf k) (nf k) i) ∧ hn_S (Bf k) (nf k) i ≤ 20 := by
  have gm := rme_m R
  have g5 := gm.2.2.2.2.1
  have g6 := gm.2.2.2.2.2.1.2
  have g9 := gm.2.2.2.2.2.2.1
  unfold fn_S hn_S
  exact ⟨by omega, by omega, g6, by omega, by omega⟩
theorem vr_many (R : RMe Bf nf cnt k i h) : Pc (qf_X13_frameMany nn h) (fun u => u = (fn_S (Bf k) (nf k) i : Int)) := by
  have n6 := rme_n6 R
  have i12 := rme_i R
  obtain ⟨f1, f2, f3, -⟩ := rme_f R
  unfold qf_X13_frameMany
  rw [R.2.2.1.1, R.2.2.1.2.1]
  refine pc_xl ?_; intro v4 e4
  rw [oq_mul_eq (by omega) (by omega) (by omega)] at e4
  refine pc_add (by omega) ?_; intro v6 e6
  refine pc_rA ?_; intro _ _ v7 e7
  rw [show v6 = 12 * (k : Int) + i by omega, (rme_t R).2.2] at e7
  rw [e7]
  refine pc_sv (vq_rbyte R.1.2.1 (rme_hk R) f3) ?_; intro u9 q9
  exact pc_ret (q9.trans f1.symm)
theorem vr_next (R : RMe Bf nf cnt k i h) {f : Nat} (hf : f < fn_S (Bf k) (nf k) i) {v : Int} (ev : v = (fw_S (Bf k) (nf k) i f : Int) + 2) {α : Type} {Q : α → Prop} {G : Int → Option α} (HG : Pc (G (fw_S (Bf k) (nf k) i (f + 1) : Int)) Q) : Pc (mx_sv (qf_X13_typesEnd nn v h) fun u => mx_sv (qf_X13_typesEnd nn u h) G) Q := by
  obtain ⟨G1, G2, G3⟩ := gm_fr (rme_m R) hf
  rw [show v = ((fw_S (Bf k) (nf k) i f + 2 : Nat) : Int) by omega]
  refine pc_sv (vr_tend R G2) ?_; intro u1 q1
  rw [q1]
  refine pc_sv (vr_tend R G3) ?_; intro u2 q2
  rw [show u2 = (fw_S (Bf k) (nf k) i (f + 1) : Int) by rw [q2]; rfl]
  exact HG
theorem vr_fa22 (R : RMe Bf nf cnt k i h) {x : Nat} (hx : x < fn_S (Bf k) (nf k) i) : ∀ (y f : Nat), f ≤ x → Pc (qw_X13_frameAt_22 nn y (x : Int) (fw_S (Bf k) (nf k) i f : Int) (f : Int) h) (fun u => u = (fw_S (Bf k) (nf k) i x : Int)) := by
  have n6 := rme_n6 R
  intro y
  induction y with
  | zero => intro f _; exact pc_none
  | succ y ih =>
    intro f hf
    unfold qw_X13_frameAt_22
    refine pc_if (fun z => pc_ret ?_) (fun z => ?_)
    · rw [show f = x by omega]
    have G1 := (gm_fr (rme_m R) (f := f) (by omega)).1
    have f2 := (rme_f R).2.1
    refine pc_add (by omega) ?_; intro v1 e1
    refine vr_next R (f := f) (by omega) e1 ?_
    refine pc_add (by omega) ?_; intro v6 e6
    rw [show v6 = ((f + 1 : Nat) : Int) by omega]
    exact ih (f + 1) (by omega)
theorem vr_frameAt (R : RMe Bf nf cnt k i h) {x : Nat} (hx : x < fn_S (Bf k) (nf k) i) : Pc (qf_X13_frameAt nn (x : Int) h) (fun u => u = (fw_S (Bf k) (nf k) i x : Int)) := by
  have n6 := rme_n6 R
  have i12 := rme_i R
  obtain ⟨f1, f2, f3, -⟩ := rme_f R
  unfold qf_X13_frameAt
  rw [R.2.2.1.1, R.2.2.1.2.1]
  refine pc_xl ?_; intro v10 e10
  rw [oq_mul_eq (by omega) (by omega) (by omega)] at e10
  refine pc_add (by omega) ?_; intro v12 e12
  refine pc_rA ?_; intro _ _ v13 e13
  rw [show v12 = 12 * (k : Int) + i by omega, (rme_t R).2.2] at e13
  refine pc_add (by omega) ?_; intro v14 e14
  rw [show v14 = (fw_S (Bf k) (nf k) i 0 : Int) by rw [e14, e13]; rfl]
  exact vr_fa22 R hx nn 0 (Nat.zero_le _)
theorem vr_ff22 (R : RMe Bf nf cnt k i h) {x : Int} : ∀ (y f : Nat), f ≤ fn_S (Bf k) (nf k) i → (∀ z : Nat, z < f → ¬ fv_S (Bf k) (nf k) i z = x) → Pc (qw_X13_frameFor_22 nn y x (fw_S (Bf k) (nf k) i f : Int) (f : Int) h) (fun u => (∃ f : Nat, fo_F (Bf k) (nf k) i x = some f ∧ u = (fw_S (Bf k) (nf k) i f : Int)) ∨ (fo_F (Bf k) (nf k) i x = none ∧ u = -1)) := by
  have n6 := rme_n6 R
  intro y
  induction y with
  | zero => intro f _ _; exact pc_none
  | succ y ih =>
    intro f hf A
    unfold qw_X13_frameFor_22
    refine pc_sv (vr_many R) ?_; intro u2 q2
    refine pc_if (fun z => pc_ret (.inr ⟨fs_z (fun z hz => A z (by omega)), rfl⟩)) (fun z => ?_)
    have f2 := (rme_f R).2.1
    have G1 := (gm_fr (rme_m R) (f := f) (by omega)).1
    refine pc_sv (vr_pair R (p := fw_S (Bf k) (nf k) i f) (by omega)) ?_; intro u4 q4
    have q4 : u4 = fv_S (Bf k) (nf k) i f := q4
    refine pc_if (fun w => ?_) (fun w => pc_ret (.inl ⟨f, fs_s (by omega) (by omega) A, rfl⟩))
    refine pc_add (by omega) ?_; intro v5 e5
    refine vr_next R (f := f) (by omega) e5 ?_
    refine pc_add (by omega) ?_; intro v10 e10
    rw [show v10 = ((f + 1 : Nat) : Int) by omega]
    refine ih (f + 1) (by omega) (fun z hz => ?_)
    by_cases e : z = f
    · rw [e]; omega
    · exact A z (by omega)
theorem vr_for (R : RMe Bf nf cnt k i h) {x : Int} : Pc (qf_X13_frameFor nn x h) (fun u => (∃ f : Nat, fo_F (Bf k) (nf k) i x = some f ∧ u = (fw_S (Bf k) (nf k) i f : Int)) ∨ (fo_F (Bf k) (nf k) i x = none ∧ u = -1)) := by
  have n6 := rme_n6 R
  have i12 := rme_i R
  obtain ⟨f1, f2, f3, -⟩ := rme_f R
  unfold qf_X13_frameFor
  rw [R.2.2.1.1, R.2.2.1.2.1]
  refine pc_xl ?_; intro v15 e15
  rw [oq_mul_eq (by omega) (by omega) (by omega)] at e15
  refine pc_add (by omega) ?_; intro v17 e17
  refine pc_rA ?_; intro _ _ v18 e18
  rw [show v17 = 12 * (k : Int) + i by omega, (rme_t R).2.2] at e18
  refine pc_add (by omega) ?_; intro v19 e19
  rw [show v19 = (fw_S (Bf k) (nf k) i 0 : Int) by rw [e19, e18]; rfl]
  exact vr_ff22 R nn 0 (Nat.zero_le _) (fun z hz => absurd hz (by omega))
theorem vr_cls (R : RMe Bf nf cnt k i h) {a : Int} (t3 : tg_S (Bf k) (nf k) a = 3) : Pc (qf_X13_typeOfClass nn (h 160 132) a h) (fun u => OTH h u.2 ∧ TYo (cq_F Bf nf cnt (Bf k) (nf k) a) u.1) := by
  have N := R.1.1
  have e := R.1.2.2.1
  rw [R.2.2.1.1]
  rw [← e] at N ⊢
  exact vr_class N R.1.2.1 R.1.2.2.2 (rme_hk R) t3
theorem vr_framed (R : RMe Bf nf cnt k i h) (T : TPg (Bf k) (nf k) p) : Pc (qf_X13_framed nn (p : Int) h) (fun u => OTH h u.2 ∧ TYo (tt_F Bf nf cnt k p) u.1) := by
  have n6 := rme_n6 R
  obtain ⟨t1, t2, t3⟩ := T
  unfold qf_X13_framed
  refine pc_sv (vr_byte R t1) ?_; intro u3 q3
  refine pc_if (fun z => ?_) (fun z => ?_)
  · have c3 : Bf k p = 3 := by omega
    obtain ⟨s1, s2⟩ := t3 c3
    refine pc_add (by omega) ?_; intro v6 e6
    rw [show v6 = ((p + 1 : Nat) : Int) by omega]
    refine pc_sv (vr_byte R s1) ?_; intro u8 q8
    rw [q8]
    refine pc_sv (vr_cls R s2) ?_; intro u10 ⟨O, q10⟩
    refine pc_ret ⟨O, ?_⟩
    unfold tt_F
    rw [if_neg (by omega), if_neg (by omega), if_neg (by omega)]
    exact q10
  · refine pc_sv (vr_byte R t1) ?_; intro u13 q13
    refine pc_ret ⟨oth_r, ?_⟩
    show TYo _ u13
    unfold tt_F
    by_cases a : Bf k p = 0
    · rw [if_pos a]; exact .inl (.inl ⟨rfl, by omega⟩)
    · rw [if_neg a]
      by_cases b : Bf k p = 1
      · rw [if_pos b]; exact .inl (.inr (.inl ⟨rfl, by omega⟩))
      · rw [if_neg b, if_pos (by omega)]; exact .inl (.inr (.inr (.inl ⟨rfl, by omega⟩)))
/-- HANDLERS, the class -/
theorem cme_f (C : CMe Bf nf k i h) : (fn_S (Bf k) (nf k) i : Int) = Bf k (mf_P (Bf k) (nf k) i) ∧ fn_S (Bf k) (nf k) i ≤ 100 ∧ mf_P (Bf k) (nf k) i < nf k ∧ (hn_S (Bf k) (nf k) i : Int) = Bf k (mh_P (Bf k) (nf k) i) ∧ hn_S (Bf k) (nf k) i ≤ 20 := by
  have gm := cme_m C
  have g5 := gm.2.2.2.2.1
  have g6 := gm.2.2.2.2.2.1.2
  have g9 := gm.2.2.2.2.2.2.1
  unfold fn_S hn_S
  exact ⟨by omega, by omega, g6, by omega, by omega⟩
theorem vc_handler (C : CMe Bf nf k i h) {j x : Nat} (hj : j < hn_S (Bf k) (nf k) i) (hx : x ≤ 4) : Pc (qf_X11_handler nn (j : Int) (x : Int) h) (fun u => u = ln_N (Bf k) (hq_S (Bf k) (nf k) i j + x)) := by
  have n6 := cme_n6 C
  have hg := (gm_hd (cme_m C) hj).1
  have h20 := (cme_f C).2.2.2.2
  unfold hq_S at hg ⊢
  unfold qf_X11_handler
  refine pc_ck (fun _ => ?_)
  refine pc_sv (vc_info C (w := 8) (by decide) (cme_d C).2.2.1.2) ?_; intro u3 q3
  refine pc_xl ?_; intro v4 e4
  rw [oq_mul_eq (by omega) (by omega) (by omega)] at e4
  refine pc_add (by omega) ?_; intro v5 e5
  refine pc_add (by omega) ?_; intro v6 e6
  rw [C.2.2.2.1]
  refine pc_ck (fun _ => ?_)
  rw [show v6 = ((mh_P (Bf k) (nf k) i + 1 + 7 * j + x : Nat) : Int) by omega]
  refine pc_sv (vc_pair C (by omega)) ?_; intro u8 q8
  exact pc_ret q8
theorem vc_hclass (C : CMe Bf nf k i h) (T3 : CT3 Bf nf cnt k h) {j : Nat} (hj : j < hn_S (Bf k) (nf k) i) : Pc (qf_X11_handlerClass nn (j : Int) h) (fun u => u = cq_F Bf nf cnt (Bf k) (nf k) (Bf k (hq_S (Bf k) (nf k) i j + 6))) := by
  have n6 := cme_n6 C
  obtain ⟨hg, ht⟩ := gm_hd (cme_m C) hj
  have h20 := (cme_f C).2.2.2.2
  have T := T3 _ ht
  unfold hq_S at hg T ⊢
  unfold qf_X11_handlerClass
  refine pc_ck (fun _ => ?_)
  refine pc_sv (vc_info C (w := 8) (by decide) (cme_d C).2.2.1.2) ?_; intro u4 q4
  refine pc_xl ?_; intro v5 e5
  rw [oq_mul_eq (by omega) (by omega) (by omega)] at e5
  refine pc_add (by omega) ?_; intro v6 e6
  refine pc_add (by omega) ?_; intro v7 e7
  rw [C.2.2.2.1]
  refine pc_ck (fun _ => ?_)
  rw [show v7 = ((mh_P (Bf k) (nf k) i + 1 + 7 * j + 6 : Nat) : Int) by omega]
  refine pc_sv (vc_byte C (by omega)) ?_; intro u9 q9
  refine pc_rA ?_; intro _ _ v10 e10
  refine pc_ret ?_
  rw [e10, q9]; exact T
theorem vc_frameAt (e16 : h 127 16 = (L : Int)) (MK : MKf D L (fv_S B n i) (fn_S B n i) h) {x : Int} : Pc (qf_X11_frameAt nn x h) (fun u => (BGi D L x ∧ u = mk_V (fo_F B n i x)) ∨ (¬ BGi D L x ∧ u = -1)) := by
  unfold qf_X11_frameAt
  refine pc_sv (vc_begins e16 (mkf_b MK)) ?_; intro u2 q2
  refine pc_if (fun z => pc_ret (.inr ⟨?_, rfl⟩)) (fun z => ?_)
  · rcases q2 with q | q
    · omega
    · exact q.2
  have bg : BGi D L x := by
    rcases q2 with q | q
    · exact q.2
    · exact absurd q.1 z
  have bl := bgi_lt bg
  refine pc_rA ?_; intro _ _ v4 e4
  refine pc_ret (.inl ⟨bg, ?_⟩)
  rcases MK x.toNat (by omega) with ⟨a, b⟩ | ⟨a, b⟩
  · rw [e4, b, show ((x.toNat : Nat) : Int) = x by omega]; rfl
  · exact absurd bg.2 a
theorem mkv_o {o : Option Nat} (z : 0 ≤ mk_V o) : ∃ f : Nat, o = some f ∧ mk_V o = (f : Int) := by
  cases o with
  | none =>
    have z : (0 : Int) ≤ -1 := z
    omega
  | some x => exact ⟨x, rfl, rfl⟩
theorem ck_zk (C : CMe Bf nf k i h) : ∃ x : Nat, kk_S (Bf k) (nf k) = .inr x ∧ 0 ≤ Bf k 2 := by
  obtain ⟨x, a, b, _⟩ := kz_zk C.1.1 C.2.2.1
  exact ⟨x, a, b⟩
theorem vc_h2 (C : CMe Bf nf k i h) (ec : h 56 3 = cnt) (T3 : CT3 Bf nf cnt k h) (e16 : h 127 16 = (cl_N (Bf k) (nf k) i : Int)) (MK : MKf (cd_S (Bf k) (nf k) i) (cl_N (Bf k) (nf k) i) (fv_S (Bf k) (nf k) i) (fn_S (Bf k) (nf k) i) h) : ∀ (f j : Nat), j ≤ hn_S (Bf k) (nf k) i → (∀ x : Nat, x < j → ¬ HBd Bf nf cnt k i x) → Pc (qw_X11_proveHandlers_2 nn f (j : Int) h) (fun u => (∀ x y : Nat, ¬ (x = 127 ∧ y = 7) → u.2 x y = h x y) ∧ FNx (HBd Bf nf cnt k i) (hn_S (Bf k) (nf k) i) 8 u.1 (u.2 127 7)) := by
  have n6 := cme_n6 C
  obtain ⟨-, -, -, f4, f5⟩ := cme_f C
  obtain ⟨zx, zk, z2⟩ := ck_zk C
  have g3 := C.1.1.1
  rw [ec] at g3
  intro f
  induction f with
  | zero => intro j _ _; exact pc_none
  | succ f ih =>
    intro j hj A
    unfold qw_X11_proveHandlers_2
    refine pc_sv (vc_info C (w := 7) (by decide) (cme_d C).2.2.1.1) ?_; intro u16 q16
    refine pc_if (fun z => pc_ret ⟨fun _ _ _ => rfl, .inl ⟨rfl, fs_z (fun x hx => A x (by omega))⟩⟩) (fun z => ?_)
    have jj : j < hn_S (Bf k) (nf k) i := by omega
    have h0 := vc_handler (nn := nn) C (j := j) (x := 0) jj (by omega)
    have h2 := vc_handler (nn := nn) C (j := j) (x := 2) jj (by omega)
    have h4 := vc_handler (nn := nn) C (j := j) (x := 4) jj (by omega)
    obtain ⟨hg, ht⟩ := gm_hd (cme_m C) jj
    have ci := cq_is (Bf := Bf) (nf := nf) g3 zk z2 ht
    have HD : HBd Bf nf cnt k i j = ¬ ((BGi (cd_S (Bf k) (nf k) i) (cl_N (Bf k) (nf k) i) (ln_N (Bf k) (hq_S (Bf k) (nf k) i j)) ∧ (BGi (cd_S (Bf k) (nf k) i) (cl_N (Bf k) (nf k) i) (ln_N (Bf k) (hq_S (Bf k) (nf k) i j + 2)) ∨ ln_N (Bf k) (hq_S (Bf k) (nf k) i j + 2) = (cl_N (Bf k) (nf k) i : Int)) ∧ ln_N (Bf k) (hq_S (Bf k) (nf k) i j) < ln_N (Bf k) (hq_S (Bf k) (nf k) i j + 2)) ∧ BGi (cd_S (Bf k) (nf k) i) (cl_N (Bf k) (nf k) i) (ln_N (Bf k) (hq_S (Bf k) (nf k) i j + 4)) ∧ (∃ f : Nat, fo_F (Bf k) (nf k) i (ln_N (Bf k) (hq_S (Bf k) (nf k) i j + 4)) = some f) ∧ KFt Bf nf cnt (cq_F Bf nf cnt (Bf k) (nf k) (Bf k (hq_S (Bf k) (nf k) i j + 6))) 1) := rfl
    rw [Nat.add_zero] at h0
    generalize ln_N (Bf k) (hq_S (Bf k) (nf k) i j) = fr at *
    generalize ln_N (Bf k) (hq_S (Bf k) (nf k) i j + 2) = to at *
    generalize ln_N (Bf k) (hq_S (Bf k) (nf k) i j + 4) = am at *
    have BD : HBd Bf nf cnt k i j → Pc (qj_X11_proveHandlers_100 nn (j : Int) h) (fun u => (∀ x y : Nat, ¬ (x = 127 ∧ y = 7) → u.2 x y = h x y) ∧ FNx (HBd Bf nf cnt k i) (hn_S (Bf k) (nf k) i) 8 u.1 (u.2 127 7)) := fun w => by
      unfold qj_X11_proveHandlers_100
      refine pc_sv vc_at ?_; intro u2 ⟨r1, r2⟩
      refine pc_ret ⟨fun x y v => ?_, .inr ⟨j, r1, fs_s jj w A, ?_⟩⟩
      · show u2.2 x y = h x y
        rw [r2, up_n v]
      · show u2.2 127 7 = _
        rw [r2, up_s]
    have B67 : HBd Bf nf cnt k i j → Pc (qj_X11_proveHandlers_67 nn (qw_X11_proveHandlers_2 nn f) (j : Int) am h) (fun u => (∀ x y : Nat, ¬ (x = 127 ∧ y = 7) → u.2 x y = h x y) ∧ FNx (HBd Bf nf cnt k i) (hn_S (Bf k) (nf k) i) 8 u.1 (u.2 127 7)) := fun w => by
      unfold qj_X11_proveHandlers_67 qj_X11_proveHandlers_68
      exact pc_if (fun _ => BD w) (fun v => absurd rfl v)
    have B58 : BGi (cd_S (Bf k) (nf k) i) (cl_N (Bf k) (nf k) i) fr → (BGi (cd_S (Bf k) (nf k) i) (cl_N (Bf k) (nf k) i) to ∨ to = (cl_N (Bf k) (nf k) i : Int)) → Pc (qj_X11_proveHandlers_58 nn (qw_X11_proveHandlers_2 nn f) (j : Int) fr to am h) (fun u => (∀ x y : Nat, ¬ (x = 127 ∧ y = 7) → u.2 x y = h x y) ∧ FNx (HBd Bf nf cnt k i) (hn_S (Bf k) (nf k) i) 8 u.1 (u.2 127 7)) := fun w1 w2 => by
      unfold qj_X11_proveHandlers_58
      refine pc_if (fun v => B67 (by rw [HD]; exact fun y => absurd y.1.2.2 (by omega))) (fun v => ?_)
      unfold qj_X11_proveHandlers_68
      refine pc_if (fun v => absurd v (by decide)) (fun _ => ?_)
      refine pc_sv (vc_frameAt e16 MK (x := am)) ?_; intro u4 q4
      refine pc_if (fun v => BD (by
        rw [HD]
        intro ⟨_, y2, ⟨x, y3⟩, _⟩
        rcases q4 with ⟨_, q⟩ | ⟨q, _⟩
        · rw [y3] at q
          have q : u4 = (x : Int) := q
          omega
        · exact q y2)) (fun v4 => ?_)
      have q5 : BGi (cd_S (Bf k) (nf k) i) (cl_N (Bf k) (nf k) i) am ∧ ∃ x : Nat, fo_F (Bf k) (nf k) i am = some x := by
        rcases q4 with ⟨q, e⟩ | ⟨_, e⟩
        · refine ⟨q, ?_⟩
          obtain ⟨x, x1, _⟩ := mkv_o (o := fo_F (Bf k) (nf k) i am) (by omega)
          exact ⟨x, x1⟩
        · omega
      refine pc_sv (vc_hclass C T3 jj) ?_; intro u7 q7
      rw [q7]
      have kf := vc_kfits (nn := nn) C.1 (x := cq_F Bf nf cnt (Bf k) (nf k) (Bf k (hq_S (Bf k) (nf k) i j + 6))) (y := 1) (by
        rw [ec]
        rcases ci with c | c
        · rw [c]; exact ti_m1
        · exact vt_is g3.2 c.1)
      rw [ec] at kf
      refine pc_sv kf ?_; intro u9 q9
      refine pc_if (fun v9 => ?_) (fun v9 => BD (by
        rw [HD]
        intro ⟨_, _, _, y4⟩
        rcases q9 with q | q
        · omega
        · exact q.2 y4))
      refine pc_add (by omega) ?_; intro v10 e10
      rw [show v10 = ((j + 1 : Nat) : Int) by omega]
      refine ih (j + 1) (by omega) (fun x hx => ?_)
      by_cases e : x = j
      · rw [e, HD]
        intro y
        refine y ⟨⟨w1, w2, by omega⟩, q5.1, q5.2, ?_⟩
        rcases q9 with q | q
        · exact q.2
        · exact absurd q.1 v9
      · exact A x (by omega)
    refine pc_sv h0 ?_; intro u18 q18
    refine pc_sv h2 ?_; intro u20 q20
    refine pc_sv h4 ?_; intro u22 q22
    rw [q18, q20, q22]
    refine pc_sv (vc_begins e16 (mkf_b MK) (x := fr)) ?_; intro u24 q24
    refine pc_if (fun v => B67 (by
      rw [HD]
      intro y
      rcases q24 with q | q
      · omega
      · exact q.2 y.1.1)) (fun v => ?_)
    have w1 : BGi (cd_S (Bf k) (nf k) i) (cl_N (Bf k) (nf k) i) fr := by
      rcases q24 with q | q
      · exact q.2
      · exact absurd q.1 v
    refine pc_sv (vc_begins e16 (mkf_b MK) (x := to)) ?_; intro u26 q26
    refine pc_if (fun v2 => B58 w1 (.inl (by
      rcases q26 with q | q
      · exact q.2
      · exact absurd q.1 v2))) (fun v2 => ?_)
    rw [e16]
    refine pc_if (fun v3 => B67 (by
      rw [HD]
      intro y
      rcases y.1.2.1 with y | y
      · rcases q26 with q | q
        · omega
        · exact q.2 y
      · exact v3 y)) (fun v3 => B58 w1 (.inr (by omega)))
theorem vc_handlers (C : CMe Bf nf k i h) (ec : h 56 3 = cnt) (T3 : CT3 Bf nf cnt k h) (e16 : h 127 16 = (cl_N (Bf k) (nf k) i : Int)) (MK : MKf (cd_S (Bf k) (nf k) i) (cl_N (Bf k) (nf k) i) (fv_S (Bf k) (nf k) i) (fn_S (Bf k) (nf k) i) h) : Pc (qf_X11_proveHandlers nn h) (fun u => (∀ x y : Nat, ¬ (x = 127 ∧ y = 7) → u.2 x y = h x y) ∧ FNx (HBd Bf nf cnt k i) (hn_S (Bf k) (nf k) i) 8 u.1 (u.2 127 7)) := by
  unfold qf_X11_proveHandlers
  exact vc_h2 C ec T3 e16 MK nn 0 (Nat.zero_le _) (fun x hx => absurd hx (by omega))
end
end
section
/- VERIFY: handlers, the reference; frames, both sides -/
/-- frame f has room and its types are there -/
def FTh (Bf : Nat → Nat → Int) (nf : Nat → Nat) (cnt : Int) (k i f : Nat) : Prop := (nl_S (Bf k) (nf k) i f ≤ Bf k (ma_S (Bf k) (nf k) i + 4) ∧ nk_S (Bf k) (nf k) i f ≤ Bf k (ma_S (Bf k) (nf k) i + 3)) ∧ (∀ j : Nat, (j : Int) < nl_S (Bf k) (nf k) i f → ¬ fl_F Bf nf cnt k i f j = -1) ∧ ∀ j : Nat, (j : Int) < nk_S (Bf k) (nf k) i f → ¬ fk_F Bf nf cnt k i f j = -1
section
variable {nn : Nat} {Bf : Nat → Nat → Int} {nf : Nat → Nat} {cnt : Int} {B C D : Nat → Int} {n m b d k o i L p q : Nat} {M h g r h0 : ms_M} {t c : Int}
theorem rk_zk (R : RMe Bf nf cnt k i h) : ∃ x : Nat, kk_S (Bf k) (nf k) = .inr x ∧ 0 ≤ Bf k 2 := by
  obtain ⟨x, a, b, _⟩ := kz_rk R.1.2.1 (rme_hk R)
  exact ⟨x, a, b⟩
theorem rme_c (R : RMe Bf nf cnt k i h) : 0 ≤ cnt ∧ cnt ≤ 8 := by
  have := R.1.2.1.1
  rw [R.1.2.2.1] at this
  exact this
theorem vr_go (R : RMe Bf nf cnt k i h) {x y a b : Int} (X : TIs cnt x) (T : TYj x a) (U : TYj y b) : Pc (qf_X13_goes nn a b h) (fun u => (u = 1 ∧ FTq Bf nf cnt x y) ∨ (u = 0 ∧ ¬ FTq Bf nf cnt x y)) := by
  have N := R.1.1
  have e := R.1.2.2.1
  rw [← e] at N X ⊢
  exact vr_goes N R.1.2.1 X T U
theorem tyo_j {x y : Int} (T : TYo x y) (z : ¬ x = -1) : TYj x y := by
  rcases T with T | T
  · exact T
  · exact absurd T.1 z
theorem ty_1 : TYj 1 6 := .inr (.inr (.inr (.inr (.inl ⟨⟨by omega, by omega⟩, by omega⟩))))
theorem ft_k1 {x : Int} : FTq Bf nf cnt x 1 ↔ KFt Bf nf cnt x 1 := by
  constructor
  · intro w
    rcases w with w | w
    · omega
    · exact w
  · intro w; exact .inr w
theorem kf_m1 : ¬ KFt Bf nf cnt (-1) 1 := fun w => by
  rcases w with w | ⟨w1, w2⟩ | ⟨w1, w2, w3⟩ | ⟨w1, w2⟩ | ⟨w1, w2, w3⟩ <;> omega
/-- HANDLER j, the reference -/
theorem vr_hfits (R : RMe Bf nf cnt k i h) (MK : RBg (cd_S (Bf k) (nf k) i) (cl_N (Bf k) (nf k) i) h) {j : Nat} (jj : j < hn_S (Bf k) (nf k) i) : Pc (qf_X13_handlerFits nn (hq_S (Bf k) (nf k) i j : Int) h) (fun u => OTH h u.2 ∧ ((u.1 = 1 ∧ ¬ HBd Bf nf cnt k i j) ∨ (u.1 = 0 ∧ HBd Bf nf cnt k i j))) := by
  have n6 := rme_n6 R
  obtain ⟨hg, ht⟩ := gm_hd (rme_m R) jj
  obtain ⟨zx, zk, z2⟩ := rk_zk R
  have g3 := rme_c R
  have ci := cq_is (Bf := Bf) (nf := nf) g3 zk z2 ht
  have HD : HBd Bf nf cnt k i j = ¬ ((BGi (cd_S (Bf k) (nf k) i) (cl_N (Bf k) (nf k) i) (ln_N (Bf k) (hq_S (Bf k) (nf k) i j)) ∧ (BGi (cd_S (Bf k) (nf k) i) (cl_N (Bf k) (nf k) i) (ln_N (Bf k) (hq_S (Bf k) (nf k) i j + 2)) ∨ ln_N (Bf k) (hq_S (Bf k) (nf k) i j + 2) = (cl_N (Bf k) (nf k) i : Int)) ∧ ln_N (Bf k) (hq_S (Bf k) (nf k) i j) < ln_N (Bf k) (hq_S (Bf k) (nf k) i j + 2)) ∧ BGi (cd_S (Bf k) (nf k) i) (cl_N (Bf k) (nf k) i) (ln_N (Bf k) (hq_S (Bf k) (nf k) i j + 4)) ∧ (∃ f : Nat, fo_F (Bf k) (nf k) i (ln_N (Bf k) (hq_S (Bf k) (nf k) i j + 4)) = some f) ∧ KFt Bf nf cnt (cq_F Bf nf cnt (Bf k) (nf k) (Bf k (hq_S (Bf k) (nf k) i j + 6))) 1) := rfl
  have h0 := vr_pair (nn := nn) R (p := hq_S (Bf k) (nf k) i j) (by omega)
  have h2 := vr_pair (nn := nn) R (p := hq_S (Bf k) (nf k) i j + 2) (by omega)
  have h4 := vr_pair (nn := nn) R (p := hq_S (Bf k) (nf k) i j + 4) (by omega)
  have r0 := rme_p R (p := hq_S (Bf k) (nf k) i j) (by omega)
  have r2 := rme_p R (p := hq_S (Bf k) (nf k) i j + 2) (by omega)
  have r4 := rme_p R (p := hq_S (Bf k) (nf k) i j + 4) (by omega)
  generalize ln_N (Bf k) (hq_S (Bf k) (nf k) i j) = fr at *
  generalize ln_N (Bf k) (hq_S (Bf k) (nf k) i j + 2) = to at *
  generalize ln_N (Bf k) (hq_S (Bf k) (nf k) i j + 4) = am at *
  have B94 : ∀ s0 : Int, (s0 = 0 ∧ HBd Bf nf cnt k i j) ∨ (s0 = 1 ∧ (BGi (cd_S (Bf k) (nf k) i) (cl_N (Bf k) (nf k) i) fr ∧ (BGi (cd_S (Bf k) (nf k) i) (cl_N (Bf k) (nf k) i) to ∨ to = (cl_N (Bf k) (nf k) i : Int)) ∧ fr < to) ∧ BGi (cd_S (Bf k) (nf k) i) (cl_N (Bf k) (nf k) i) am) → Pc (qj_X13_handlerFits_94 nn (hq_S (Bf k) (nf k) i j : Int) am s0 h) (fun u => OTH h u.2 ∧ ((u.1 = 1 ∧ ¬ HBd Bf nf cnt k i j) ∨ (u.1 = 0 ∧ HBd Bf nf cnt k i j))) := fun s0 w => by
    unfold qj_X13_handlerFits_94
    refine pc_add (by omega) ?_; intro v3 e3
    rw [show v3 = ((hq_S (Bf k) (nf k) i j + 6 : Nat) : Int) by omega]
    refine pc_sv (vr_byte R hg) ?_; intro u5 q5
    rw [q5]
    refine pc_sv (vr_cls R ht) ?_; intro u7 ⟨O7, q7⟩
    refine pc_if (fun z => pc_ret ⟨O7, .inr ⟨rfl, ?_⟩⟩) (fun z => ?_)
    · rcases w with w | w
      · exact w.2
      · omega
    obtain ⟨-, w1, w2⟩ : s0 = 1 ∧ (BGi (cd_S (Bf k) (nf k) i) (cl_N (Bf k) (nf k) i) fr ∧ (BGi (cd_S (Bf k) (nf k) i) (cl_N (Bf k) (nf k) i) to ∨ to = (cl_N (Bf k) (nf k) i : Int)) ∧ fr < to) ∧ BGi (cd_S (Bf k) (nf k) i) (cl_N (Bf k) (nf k) i) am := by
      rcases w with w | w
      · exact absurd w.1 z
      · exact w
    have R7 := rme_e R (rke_o O7)
    refine pc_sv (vr_for R7 (x := am)) ?_; intro u9 q9
    refine pc_if (fun y => pc_ret ⟨O7, .inr ⟨rfl, ?_⟩⟩) (fun y => ?_)
    · rw [HD]
      intro ⟨_, _, ⟨f, y3⟩, _⟩
      rcases q9 with ⟨f, q, e⟩ | ⟨q, _⟩
      · omega
      · rw [q] at y3; exact nomatch y3
    have fx : ∃ f : Nat, fo_F (Bf k) (nf k) i am = some f := by
      rcases q9 with ⟨f, q, e⟩ | ⟨_, q⟩
      · exact ⟨f, q⟩
      · exact absurd q y
    refine pc_sv (vr_there (.inl q7)) ?_; intro u10 q10
    refine pc_if (fun y10 => pc_ret ⟨O7, .inr ⟨rfl, ?_⟩⟩) (fun y10 => ?_)
    · rw [HD]
      intro ⟨_, _, _, y4⟩
      have em : cq_F Bf nf cnt (Bf k) (nf k) (Bf k (hq_S (Bf k) (nf k) i j + 6)) = -1 := by
        rcases q10 with q | q
        · exact q.2
        · omega
      rw [em] at y4
      exact kf_m1 y4
    have nm : ¬ cq_F Bf nf cnt (Bf k) (nf k) (Bf k (hq_S (Bf k) (nf k) i j + 6)) = -1 := by
      rcases q10 with q | q
      · exact absurd q.1 y10
      · exact q.2
    have vt := (show VTq cnt (cq_F Bf nf cnt (Bf k) (nf k) (Bf k (hq_S (Bf k) (nf k) i j + 6))) by
      rcases ci with c | c
      · exact absurd c nm
      · exact c.1)
    refine pc_sv (vr_go R7 (vt_is g3.2 vt) (tyo_j q7 nm) ty_1) ?_; intro u12 q12
    refine pc_if (fun y12 => pc_ret ⟨O7, .inr ⟨rfl, ?_⟩⟩) (fun y12 => pc_ret ⟨O7, .inl ⟨rfl, ?_⟩⟩)
    · rw [HD]
      intro ⟨_, _, _, y4⟩
      rcases q12 with q | q
      · omega
      · exact q.2 (ft_k1.2 y4)
    · rw [HD]
      intro y5
      refine y5 ⟨w1, w2, fx, ?_⟩
      rcases q12 with q | q
      · exact ft_k1.1 q.2
      · exact absurd q.1 y12
  have B93 : HBd Bf nf cnt k i j → Pc (qj_X13_handlerFits_93 nn (hq_S (Bf k) (nf k) i j : Int) am h) (fun u => OTH h u.2 ∧ ((u.1 = 1 ∧ ¬ HBd Bf nf cnt k i j) ∨ (u.1 = 0 ∧ HBd Bf nf cnt k i j))) := fun w => by
    unfold qj_X13_handlerFits_93
    exact B94 0 (.inl ⟨rfl, w⟩)
  unfold qf_X13_handlerFits
  refine pc_sv h0 ?_; intro u19 q19
  refine pc_add (by omega) ?_; intro v20 e20
  rw [show v20 = ((hq_S (Bf k) (nf k) i j + 2 : Nat) : Int) by omega]
  refine pc_sv h2 ?_; intro u22 q22
  refine pc_add (by omega) ?_; intro v23 e23
  rw [show v23 = ((hq_S (Bf k) (nf k) i j + 4 : Nat) : Int) by omega]
  refine pc_sv h4 ?_; intro u25 q25
  rw [q19, q22, q25, R.2.2.1.2.2.2]
  refine pc_if (fun z => B93 (by rw [HD]; exact fun y => absurd (bgi_lt y.1.1) (by omega))) (fun z1 => ?_)
  refine pc_rA ?_; intro _ _ v28 e28
  have b1 := vr_begins (x := fr) R MK (by omega) (by omega)
  refine pc_if (fun z => B93 (by
    rw [HD]; intro y
    rcases b1 with q | q
    · omega
    · exact q.2 y.1.1)) (fun z2 => ?_)
  have w1 : BGi (cd_S (Bf k) (nf k) i) (cl_N (Bf k) (nf k) i) fr := by
    rcases b1 with q | q
    · exact q.2
    · omega
  refine pc_if (fun z => B93 (by rw [HD]; exact fun y => absurd (bgi_lt y.2.1) (by omega))) (fun z3 => ?_)
  refine pc_rA ?_; intro _ _ v31 e31
  have b2 := vr_begins (x := am) R MK (by omega) (by omega)
  refine pc_if (fun z => B93 (by
    rw [HD]; intro y
    rcases b2 with q | q
    · omega
    · exact q.2 y.2.1)) (fun z4 => ?_)
  have w2 : BGi (cd_S (Bf k) (nf k) i) (cl_N (Bf k) (nf k) i) am := by
    rcases b2 with q | q
    · exact q.2
    · omega
  have B84 : (BGi (cd_S (Bf k) (nf k) i) (cl_N (Bf k) (nf k) i) to ∨ to = (cl_N (Bf k) (nf k) i : Int)) → Pc (qj_X13_handlerFits_84 nn (hq_S (Bf k) (nf k) i j : Int) fr to am h) (fun u => OTH h u.2 ∧ ((u.1 = 1 ∧ ¬ HBd Bf nf cnt k i j) ∨ (u.1 = 0 ∧ HBd Bf nf cnt k i j))) := fun w3 => by
    unfold qj_X13_handlerFits_84
    refine pc_if (fun v => B93 (by rw [HD]; exact fun y => absurd y.1.2.2 (by omega))) (fun v => ?_)
    exact B94 1 (.inr ⟨rfl, ⟨w1, w3, by omega⟩, w2⟩)
  refine pc_if (fun z => B84 (.inr z)) (fun z5 => ?_)
  refine pc_if (fun z => B93 (by
    rw [HD]; intro y
    rcases y.1.2.1 with y | y
    · exact absurd (bgi_lt y) (by omega)
    · exact z5 y)) (fun z6 => ?_)
  refine pc_rA ?_; intro _ _ v35 e35
  have b3 := vr_begins (x := to) R MK (by omega) (by omega)
  refine pc_if (fun z => B93 (by
    rw [HD]; intro y
    rcases y.1.2.1 with y | y
    · rcases b3 with q | q
      · omega
      · exact q.2 y
    · exact z5 y)) (fun z7 => B84 (.inl (by
    rcases b3 with q | q
    · exact q.2
    · omega)))
/-- .. all of them -/
theorem vr_192 (E6 : fs_F (INo (cd_S (Bf k) (nf k) i) (cl_N (Bf k) (nf k) i)) (cl_N (Bf k) (nf k) i) = none) (E7 : fs_F (JBm (cd_S (Bf k) (nf k) i) (cl_N (Bf k) (nf k) i)) (cl_N (Bf k) (nf k) i) = none) (HK : ∀ g : ms_M, RM0 Bf nf cnt k i h0 g → RBg (cd_S (Bf k) (nf k) i) (cl_N (Bf k) (nf k) i) g → fs_F (HBd Bf nf cnt k i) (hn_S (Bf k) (nf k) i) = none → Pc (qw_X13_methodFits_245 nn nn (8 + (k : Int)) (i : Int) (-1) 0 g) (RMF Bf nf cnt k i h0)) : ∀ (f j : Nat) (h : ms_M), RM0 Bf nf cnt k i h0 h → RBg (cd_S (Bf k) (nf k) i) (cl_N (Bf k) (nf k) i) h → j ≤ hn_S (Bf k) (nf k) i → (∀ x : Nat, x < j → ¬ HBd Bf nf cnt k i x) → Pc (qw_X13_methodFits_192 nn f (8 + (k : Int)) (i : Int) (mh_P (Bf k) (nf k) i : Int) (j : Int) h) (RMF Bf nf cnt k i h0) := by
  intro f
  induction f with
  | zero => intro j h _ _ _ _; exact pc_none
  | succ f ih =>
    intro j h R MK hj A
    have n6 := rme_n6 R.1
    obtain ⟨l1, l2, l3, l4, l5⟩ := rme_l R.1
    obtain ⟨-, -, -, f4, f5⟩ := rme_f R.1
    unfold qw_X13_methodFits_192
    refine pc_sv (vr_byte R.1 l5) ?_; intro u26 q26
    refine pc_if (fun z => HK h R MK (fs_z (fun x hx => A x (by omega)))) (fun z => ?_)
    have jj : j < hn_S (Bf k) (nf k) i := by omega
    refine pc_add (by omega) ?_; intro v27 e27
    refine pc_xl ?_; intro v28 e28
    rw [oq_mul_eq (by omega) (by omega) (by omega)] at e28
    refine pc_add (by omega) ?_; intro v29 e29
    rw [show v29 = (hq_S (Bf k) (nf k) i j : Int) by unfold hq_S; omega]
    refine pc_sv (vr_hfits R.1 MK jj) ?_; intro u31 ⟨O, q31⟩
    have R2 := rm0_e R (rke_o O)
    have MK2 := rbg_e MK (rke_o O)
    refine pc_if (fun y => ?_) (fun y => vr_badM R2 ?_)
    · refine pc_add (by omega) ?_; intro v32 e32
      rw [show v32 = ((j + 1 : Nat) : Int) by omega]
      refine ih (j + 1) u31.2 R2 MK2 (by omega) (fun x hx => ?_)
      by_cases e : x = j
      · rw [e]
        rcases q31 with q | q
        · exact q.2
        · exact absurd q.1 y
      · exact A x (by omega)
    · have hb : HBd Bf nf cnt k i j := by
        rcases q31 with q | q
        · omega
        · exact q.2
      unfold mr_F
      rw [E6]
      dsimp only
      rw [E7]
      dsimp only
      rw [fs_s jj hb A]
/-- FRAME f, the reference -/
theorem vr_it50 (R : RMe Bf nf cnt k i h0) (TL : TLg (Bf k) (nf k) p) {qk : Int → Int → ms_M → Option (Int × ms_M)} {Q : Int × ms_M → Prop} {part : Int} (pr : 0 ≤ part ∧ part ≤ 1) (HK : ∀ g : ms_M, OTH h0 g → (∀ j : Nat, j < (Bf k p).toNat → ¬ tt_F Bf nf cnt k (tp_S (Bf k) p j) = -1) → Pc (qk (te_P (Bf k) p : Int) (part + 1) g) Q) (HN : ∀ g : ms_M, OTH h0 g → ∀ j : Nat, j < (Bf k p).toNat → tt_F Bf nf cnt k (tp_S (Bf k) p j) = -1 → Q (0, g)) : ∀ (f j : Nat) (h : ms_M), j ≤ (Bf k p).toNat → OTH h0 h → (∀ x : Nat, x < j → ¬ tt_F Bf nf cnt k (tp_S (Bf k) p x) = -1) → Pc (qw_X13_frameIsThere_50 nn qk f (tp_S (Bf k) p j : Int) part (Bf k p) (j : Int) h) Q := by
  have n6 := rme_n6 R
  have b0 := rme_b R TL.1
  intro f
  induction f with
  | zero => intro j h _ _ _; exact pc_none
  | succ f ih =>
    intro j h hj O A
    have Rh := rme_e R (rke_o O)
    unfold qw_X13_frameIsThere_50
    refine pc_if (fun z => ?_) (fun z => ?_)
    · have ej : j = (Bf k p).toNat := by omega
      refine pc_add (by omega) ?_; intro v3 e3
      rw [e3, ej]
      exact HK h O (fun x hx => A x (by omega))
    have T := TL.2.1 j (by omega)
    have tn := tpg_n T
    have st : tp_S (Bf k) p (j + 1) = tp_S (Bf k) p j + (if Bf k (tp_S (Bf k) p j) = 3 then 2 else 1) := rfl
    refine pc_sv (vr_framed Rh T) ?_; intro u5 ⟨O5, q5⟩
    have O6 := oth_t O O5
    have R5 := rme_e R (rke_o O6)
    refine pc_sv (vr_there (.inl q5)) ?_; intro u6 q6
    refine pc_if (fun y => ?_) (fun y => pc_ret (HN u5.2 O6 j (by omega) ?_))
    · refine pc_sv (vr_byte R5 T.1) ?_; intro u9 q9
      rw [q9]
      have A2 : ∀ x : Nat, x < j + 1 → ¬ tt_F Bf nf cnt k (tp_S (Bf k) p x) = -1 := fun x hx => by
        by_cases e : x = j
        · rw [e]
          rcases q6 with q | q
          · exact absurd q.1 y
          · exact q.2
        · exact A x (by omega)
      unfold qj_X13_frameIsThere_89
      refine pc_if (fun w => ?_) (fun w => ?_)
      · rw [if_neg w] at st
        refine pc_add (by omega) ?_; intro v1 e1
        refine pc_add (by omega) ?_; intro v2 e2
        rw [show v1 = (tp_S (Bf k) p (j + 1) : Int) by omega, show v2 = ((j + 1 : Nat) : Int) by omega]
        exact ih (j + 1) u5.2 (by omega) O6 A2
      · rw [if_pos (by omega)] at st
        refine pc_add (by omega) ?_; intro v1 e1
        refine pc_add (by omega) ?_; intro v2 e2
        rw [show v1 = (tp_S (Bf k) p (j + 1) : Int) by omega, show v2 = ((j + 1 : Nat) : Int) by omega]
        exact ih (j + 1) u5.2 (by omega) O6 A2
    · rcases q6 with q | q
      · exact q.2
      · omega
theorem vr_fthere (R : RMe Bf nf cnt k i h) {f : Nat} (hf : f < fn_S (Bf k) (nf k) i) : Pc (qf_X13_frameIsThere nn (fw_S (Bf k) (nf k) i f : Int) h) (fun u => OTH h u.2 ∧ ((u.1 = 1 ∧ FTh Bf nf cnt k i f) ∨ (u.1 = 0 ∧ ¬ FTh Bf nf cnt k i f))) := by
  have n6 := rme_n6 R
  obtain ⟨G1, G2, G3⟩ := gm_fr (rme_m R) hf
  have b2 := rme_b R G2.1
  have b3 := rme_b R G3.1
  have g30 := (rme_m R).2.2.1
  have g31 := G3.1
  unfold qf_X13_frameIsThere
  refine pc_add (by omega) ?_; intro v22 e22
  rw [show v22 = ((fw_S (Bf k) (nf k) i f + 2 : Nat) : Int) by omega]
  suffices K : ∀ y : Nat, Pc (qw_X13_frameIsThere_6 nn y ((fw_S (Bf k) (nf k) i f + 2 : Nat) : Int) 0 h) (fun u => OTH h u.2 ∧ ((u.1 = 1 ∧ FTh Bf nf cnt k i f) ∨ (u.1 = 0 ∧ ¬ FTh Bf nf cnt k i f))) from K nn
  intro y
  cases y with
  | zero => exact pc_none
  | succ y =>
    unfold qw_X13_frameIsThere_6
    refine pc_if (fun z => absurd z (by decide)) (fun _ => ?_)
    refine pc_sv (vr_byte R G2.1) ?_; intro u17 q17
    refine pc_if (fun z => absurd rfl z) (fun _ => ?_)
    unfold qj_X13_frameIsThere_39
    rw [q17, R.2.2.2.2]
    refine pc_if (fun z1 => ?_) (fun z1 => pc_ret ⟨oth_r, .inr ⟨rfl, fun w => absurd w.1.1 z1⟩⟩)
    refine pc_add (by omega) ?_; intro v13 e13
    rw [show v13 = (tp_S (Bf k) (fw_S (Bf k) (nf k) i f + 2) 0 : Int) by rw [e13]; rfl]
    refine vr_it50 R G2 (by decide) (fun g O A => ?_) (fun g O j hj e => ⟨O, .inr ⟨rfl, fun w => w.2.1 j (by show (j : Int) < Bf k (fw_S (Bf k) (nf k) i f + 2); omega) e⟩⟩) nn 0 h (Nat.zero_le _) oth_r (fun x hx => absurd hx (by omega))
    have Rg := rme_e R (rke_o O)
    cases y with
    | zero => exact pc_none
    | succ y =>
      unfold qw_X13_frameIsThere_6
      refine pc_if (fun z => absurd z (by decide)) (fun _ => ?_)
      refine pc_sv (vr_byte Rg G3.1) ?_; intro u18 q18
      refine pc_if (fun _ => ?_) (fun z => absurd (by decide) z)
      unfold qj_X13_frameIsThere_39
      rw [q18, Rg.2.2.2.1]
      refine pc_if (fun z2 => ?_) (fun z2 => pc_ret ⟨O, .inr ⟨rfl, fun w => absurd w.1.2 z2⟩⟩)
      refine pc_add (by omega) ?_; intro v14 e14
      rw [show v14 = (tp_S (Bf k) (te_P (Bf k) (fw_S (Bf k) (nf k) i f + 2)) 0 : Int) by rw [e14]; rfl]
      refine vr_it50 Rg G3 (by decide) (fun g2 O2 A2 => ?_) (fun g2 O2 j hj e => ⟨oth_t O O2, .inr ⟨rfl, fun w => w.2.2 j (by show (j : Int) < Bf k (te_P (Bf k) (fw_S (Bf k) (nf k) i f + 2)); omega) e⟩⟩) nn 0 g (Nat.zero_le _) oth_r (fun x hx => absurd hx (by omega))
      cases y with
      | zero => exact pc_none
      | succ y =>
        unfold qw_X13_frameIsThere_6
        refine pc_if (fun _ => pc_ret ⟨oth_t O O2, .inl ⟨rfl, ⟨z1, z2⟩, fun j hj => ?_, fun j hj => ?_⟩⟩) (fun z => absurd (by decide) z)
        · have hj : (j : Int) < Bf k (fw_S (Bf k) (nf k) i f + 2) := hj
          exact A j (by omega)
        · have hj : (j : Int) < Bf k (te_P (Bf k) (fw_S (Bf k) (nf k) i f + 2)) := hj
          exact A2 j (by omega)
/-- .. all of them -/
def lf_V (B : Nat → Int) (n i f : Nat) : Int := if f = 0 then -1 else fv_S B n i (f - 1)
theorem fbd_iff {f : Nat} : FBd Bf nf cnt k i f ↔ ¬ ((BGi (cd_S (Bf k) (nf k) i) (cl_N (Bf k) (nf k) i) (fv_S (Bf k) (nf k) i f) ∧ lf_V (Bf k) (nf k) i f < fv_S (Bf k) (nf k) i f) ∧ FTh Bf nf cnt k i f) := Iff.rfl
theorem vr_245 (E6 : fs_F (INo (cd_S (Bf k) (nf k) i) (cl_N (Bf k) (nf k) i)) (cl_N (Bf k) (nf k) i) = none) (E7 : fs_F (JBm (cd_S (Bf k) (nf k) i) (cl_N (Bf k) (nf k) i)) (cl_N (Bf k) (nf k) i) = none) (E8 : fs_F (HBd Bf nf cnt k i) (hn_S (Bf k) (nf k) i) = none) (HK : ∀ g : ms_M, RM0 Bf nf cnt k i h0 g → fs_F (FBd Bf nf cnt k i) (fn_S (Bf k) (nf k) i) = none → Pc (mx_sv (qf_X13_flows nn (8 + (k : Int)) (i : Int) g) fun u7 => ck_B (u7.1 = 0 ∨ u7.1 = 1) <| some (u7.1, u7.2)) (RMF Bf nf cnt k i h0)) : ∀ (y f : Nat) (h : ms_M), RM0 Bf nf cnt k i h0 h → RBg (cd_S (Bf k) (nf k) i) (cl_N (Bf k) (nf k) i) h → f ≤ fn_S (Bf k) (nf k) i → (∀ x : Nat, x < f → ¬ FBd Bf nf cnt k i x) → Pc (qw_X13_methodFits_245 nn y (8 + (k : Int)) (i : Int) (lf_V (Bf k) (nf k) i f) (f : Int) h) (RMF Bf nf cnt k i h0) := by
  intro y
  induction y with
  | zero => intro f h _ _ _ _; exact pc_none
  | succ y ih =>
    intro f h R MK hf A
    have n6 := rme_n6 R.1
    obtain ⟨f1, f2, f3, f4, f5⟩ := rme_f R.1
    unfold qw_X13_methodFits_245
    refine pc_sv (vr_many R.1) ?_; intro u5 q5
    refine pc_if (fun z => HK h R (fs_z (fun x hx => A x (by omega)))) (fun z => ?_)
    have ff : f < fn_S (Bf k) (nf k) i := by omega
    have G1 := (gm_fr (rme_m R.1) ff).1
    refine pc_sv (vr_frameAt R.1 ff) ?_; intro u10 q10
    rw [q10]
    refine pc_sv (vr_pair R.1 (p := fw_S (Bf k) (nf k) i f) (by omega)) ?_; intro u12 q12
    have q12 : u12 = fv_S (Bf k) (nf k) i f := q12
    have r12 := rme_p R.1 (p := fw_S (Bf k) (nf k) i f) (by omega)
    have r12 : 0 ≤ fv_S (Bf k) (nf k) i f ∧ fv_S (Bf k) (nf k) i f ≤ 65535 := r12
    have BD : ∀ g : ms_M, RM0 Bf nf cnt k i h0 g → FBd Bf nf cnt k i f → Pc (qj_X13_methodFits_305 nn (8 + (k : Int)) (i : Int) (f : Int) g) (RMF Bf nf cnt k i h0) := fun g Rg w => by
      unfold qj_X13_methodFits_305
      refine vr_badM Rg ?_
      unfold mr_F
      rw [E6]
      dsimp only
      rw [E7]
      dsimp only
      rw [E8]
      dsimp only
      rw [fs_s ff w A]
    rw [q12, R.1.2.2.1.2.2.2]
    refine pc_if (fun z1 => BD h R (fbd_iff.2 (fun w => absurd w.1.2 (by omega)))) (fun z1 => ?_)
    refine pc_if (fun z2 => BD h R (fbd_iff.2 (fun w => absurd (bgi_lt w.1.1) (by omega)))) (fun z2 => ?_)
    refine pc_rA ?_; intro _ _ v15 e15
    have b1 := vr_begins (x := fv_S (Bf k) (nf k) i f) R.1 MK (by omega) (by omega)
    refine pc_if (fun z3 => BD h R (fbd_iff.2 (fun w => ?_))) (fun z3 => ?_)
    · rcases b1 with q | q
      · omega
      · exact q.2 w.1.1
    refine pc_sv (vr_fthere R.1 ff) ?_; intro u17 ⟨O, q17⟩
    have R2 := rm0_e R (rke_o O)
    refine pc_if (fun z4 => ?_) (fun z4 => BD u17.2 R2 (fbd_iff.2 (fun w => ?_)))
    · refine pc_add (by omega) ?_; intro v18 e18
      rw [show v18 = ((f + 1 : Nat) : Int) by omega, show fv_S (Bf k) (nf k) i f = lf_V (Bf k) (nf k) i (f + 1) from rfl]
      refine ih (f + 1) u17.2 R2 (rbg_e MK (rke_o O)) (by omega) (fun x hx => ?_)
      by_cases e : x = f
      · rw [e]
        intro w
        refine fbd_iff.1 w ⟨⟨?_, by omega⟩, ?_⟩
        · rcases b1 with q | q
          · exact q.2
          · omega
        · rcases q17 with q | q
          · exact q.2
          · exact absurd q.1 z4
      · exact A x (by omega)
    · rcases q17 with q | q
      · omega
      · exact q.2 w.2
/-- FRAMES, the class -/
theorem vc_ar5 {a m : Nat} (am : a + m ≤ 6400) (m30 : m ≤ 30) : ∀ (f j : Nat) (l3 : Int), j ≤ m → ((l3 = 1 ∧ ∀ x : Nat, x < j → ¬ h 133 (a + x) = -1) ∨ (l3 = 0 ∧ ∃ x : Nat, x < m ∧ h 133 (a + x) = -1)) → Pc (qw_X11_areThere_5 nn f (a : Int) (m : Int) l3 ((a + j : Nat) : Int) h) (fun u => (u = 1 ∧ ∀ x : Nat, x < m → ¬ h 133 (a + x) = -1) ∨ (u = 0 ∧ ∃ x : Nat, x < m ∧ h 133 (a + x) = -1)) := by
  intro f
  induction f with
  | zero => intro j l3 _ _; exact pc_none
  | succ f ih =>
    intro j l3 hj A
    unfold qw_X11_areThere_5
    refine pc_add (by omega) ?_; intro v2 e2
    refine pc_if (fun z => pc_ck (fun _ => pc_ret ?_)) (fun z => ?_)
    · rcases A with ⟨a1, a2⟩ | ⟨a1, a2⟩
      · exact .inl ⟨a1, fun x hx => a2 x (by omega)⟩
      · exact .inr ⟨a1, a2⟩
    refine pc_add (by omega) ?_; intro v4 e4
    refine pc_if (fun w => absurd w (by omega)) (fun _ => ?_)
    have NX : (∃ x : Nat, x < m ∧ h 133 (a + x) = -1) → Pc (qj_X11_areThere_41 nn (qw_X11_areThere_5 nn f) (a : Int) (m : Int) ((a + j : Nat) : Int) h) (fun u => (u = 1 ∧ ∀ x : Nat, x < m → ¬ h 133 (a + x) = -1) ∨ (u = 0 ∧ ∃ x : Nat, x < m ∧ h 133 (a + x) = -1)) := fun w => by
      unfold qj_X11_areThere_41
      refine pc_add (by omega) ?_; intro v1 e1
      rw [show v1 = ((a + (j + 1) : Nat) : Int) by omega]
      exact ih (j + 1) 0 (by omega) (.inr ⟨rfl, w⟩)
    refine pc_if (fun y => NX ?_) (fun y => ?_)
    · rcases A with ⟨a1, a2⟩ | ⟨a1, a2⟩
      · omega
      · exact a2
    refine pc_rA ?_; intro _ _ v7 e7
    rw [Int.toNat_natCast] at e7
    refine pc_if (fun w => NX ⟨j, by omega, by omega⟩) (fun w => ?_)
    refine pc_add (by omega) ?_; intro v8 e8
    rw [show v8 = ((a + (j + 1) : Nat) : Int) by omega]
    refine ih (j + 1) 1 (by omega) (.inl ⟨rfl, fun x hx => ?_⟩)
    by_cases e : x = j
    · rw [e, ← e7]; exact w
    · rcases A with ⟨a1, a2⟩ | ⟨a1, a2⟩
      · exact a2 x (by omega)
      · exact absurd a1 y
theorem vc_there {a m : Nat} (am : a + m ≤ 6400) (m30 : m ≤ 30) : Pc (qf_X11_areThere nn (a : Int) (m : Int) h) (fun u => (u = 1 ∧ ∀ x : Nat, x < m → ¬ h 133 (a + x) = -1) ∨ (u = 0 ∧ ∃ x : Nat, x < m ∧ h 133 (a + x) = -1)) := by
  unfold qf_X11_areThere
  exact vc_ar5 am m30 nn 0 1 (Nat.zero_le _) (.inl ⟨rfl, fun x hx => absurd hx (by omega)⟩)
theorem vc_f4 (C : CMe Bf nf k i h) (e16 : h 127 16 = (cl_N (Bf k) (nf k) i : Int)) (FR : ∀ x : Nat, x < fn_S (Bf k) (nf k) i → CFx Bf nf cnt k i x h) (MK : MKb (cd_S (Bf k) (nf k) i) (cl_N (Bf k) (nf k) i) h) : ∀ (y f : Nat), f ≤ fn_S (Bf k) (nf k) i → (∀ x : Nat, x < f → ¬ FBd Bf nf cnt k i x) → Pc (qw_X11_proveFrames_4 nn y (lf_V (Bf k) (nf k) i f) (f : Int) h) (fun u => (∀ x y : Nat, ¬ (x = 127 ∧ y = 7) → u.2 x y = h x y) ∧ FNx (FBd Bf nf cnt k i) (fn_S (Bf k) (nf k) i) 9 u.1 (u.2 127 7)) := by
  have n6 := cme_n6 C
  obtain ⟨f1, f2, f3, -⟩ := cme_f C
  have g30 := (cme_m C).2.2.1
  intro y
  induction y with
  | zero => intro f _ _; exact pc_none
  | succ y ih =>
    intro f hf A
    unfold qw_X11_proveFrames_4
    refine pc_sv (vc_info C (w := 9) (by decide) (cme_d C).2.2.2.1) ?_; intro u8 q8
    refine pc_if (fun z => pc_ret ⟨fun _ _ _ => rfl, .inl ⟨rfl, fs_z (fun x hx => A x (by omega))⟩⟩) (fun z => ?_)
    have ff : f < fn_S (Bf k) (nf k) i := by omega
    obtain ⟨⟨c1, c2, c3⟩, c4, c5⟩ := FR f ff
    obtain ⟨G1, G2, G3⟩ := gm_fr (cme_m C) ff
    have b2 := cme_b C G2.1
    have b3 := cme_b C G3.1
    have b2 : 0 ≤ nl_S (Bf k) (nf k) i f ∧ nl_S (Bf k) (nf k) i f ≤ 255 := b2
    have b3 : 0 ≤ nk_S (Bf k) (nf k) i f ∧ nk_S (Bf k) (nf k) i f ≤ 255 := b3
    have BD : FBd Bf nf cnt k i f → ∀ l3 : Int, Pc (qj_X11_proveFrames_115 nn (qw_X11_proveFrames_4 nn y) (f : Int) l3 h) (fun u => (∀ x y : Nat, ¬ (x = 127 ∧ y = 7) → u.2 x y = h x y) ∧ FNx (FBd Bf nf cnt k i) (fn_S (Bf k) (nf k) i) 9 u.1 (u.2 127 7)) := fun w l3 => by
      unfold qj_X11_proveFrames_115 qj_X11_proveFrames_116
      refine pc_if (fun v => absurd rfl v) (fun _ => ?_)
      refine pc_sv vc_at ?_; intro u5 ⟨r1, r2⟩
      refine pc_ret ⟨fun x y v => ?_, .inr ⟨f, r1, fs_s ff w A, ?_⟩⟩
      · show u5.2 x y = h x y
        rw [r2, up_n v]
      · show u5.2 127 7 = _
        rw [r2, up_s]
    refine pc_xl ?_; intro v9 e9
    rw [oq_mul_eq (by omega) (by omega) (by omega)] at e9
    refine pc_rA ?_; intro _ _ v11 e11
    rw [show v9.toNat = 64 * f by omega, c1] at e11
    refine pc_sv (vc_begins e16 MK (x := v11)) ?_; intro u13 q13
    refine pc_if (fun v => BD (fbd_iff.2 (fun w => ?_)) v9) (fun v1 => ?_)
    · rcases q13 with q | q
      · omega
      · exact q.2 (by rw [e11]; exact w.1.1)
    have bg : BGi (cd_S (Bf k) (nf k) i) (cl_N (Bf k) (nf k) i) (fv_S (Bf k) (nf k) i f) := by
      rcases q13 with q | q
      · rw [← e11]; exact q.2
      · exact absurd q.1 v1
    refine pc_rA ?_; intro _ _ v15 e15
    rw [show v9.toNat = 64 * f by omega, c1] at e15
    refine pc_if (fun v => BD (fbd_iff.2 (fun w => absurd w.1.2 (by omega))) v9) (fun v2 => ?_)
    refine pc_add (by omega) ?_; intro v17 e17
    refine pc_rA ?_; intro _ _ v18 e18
    rw [show v17.toNat = 64 * f + 1 by omega, c2] at e18
    refine pc_sv (vc_info C (w := 4) (by decide) (cme_d C).1.2.2.2.2.2) ?_; intro u20 q20
    refine pc_if (fun v => BD (fbd_iff.2 (fun w => absurd w.2.1.1 (by omega))) v9) (fun v3 => ?_)
    refine pc_add (by omega) ?_; intro v22 e22
    refine pc_rA ?_; intro _ _ v23 e23
    rw [show v22.toNat = 64 * f + 2 by omega, c3] at e23
    refine pc_sv (vc_info C (w := 3) (by decide) (cme_d C).1.2.2.2.2.1) ?_; intro u25 q25
    refine pc_if (fun v => BD (fbd_iff.2 (fun w => absurd w.2.1.2 (by omega))) v9) (fun v4 => ?_)
    refine pc_add (by omega) ?_; intro v26 e26
    refine pc_add (by omega) ?_; intro v28 e28
    refine pc_rA ?_; intro _ _ v29 e29
    rw [show v28.toNat = 64 * f + 1 by omega, c2] at e29
    rw [show v26 = ((64 * f + 3 : Nat) : Int) by omega, show v29 = (((nl_S (Bf k) (nf k) i f).toNat : Nat) : Int) by omega]
    refine pc_sv (vc_there (a := 64 * f + 3) (m := (nl_S (Bf k) (nf k) i f).toNat) (by omega) (by omega)) ?_; intro u31 q31
    refine pc_if (fun v => BD (fbd_iff.2 (fun w => ?_)) v9) (fun v5 => ?_)
    · rcases q31 with q | ⟨_, x, x1, x2⟩
      · omega
      · rw [c4 x (by omega) (by omega)] at x2
        exact w.2.2.1 x (by omega) x2
    have K1 : ∀ j : Nat, (j : Int) < nl_S (Bf k) (nf k) i f → ¬ fl_F Bf nf cnt k i f j = -1 := fun j hj => by
      rcases q31 with q | q
      · have := q.2 j (by omega)
        rw [c4 j (by omega) hj] at this
        exact this
      · exact absurd q.1 v5
    refine pc_add (by omega) ?_; intro v32 e32
    refine pc_add (by omega) ?_; intro v34 e34
    refine pc_rA ?_; intro _ _ v35 e35
    rw [show v34.toNat = 64 * f + 2 by omega, c3] at e35
    rw [show v32 = ((64 * f + 33 : Nat) : Int) by omega, show v35 = (((nk_S (Bf k) (nf k) i f).toNat : Nat) : Int) by omega]
    refine pc_sv (vc_there (a := 64 * f + 33) (m := (nk_S (Bf k) (nf k) i f).toNat) (by omega) (by omega)) ?_; intro u37 q37
    refine pc_if (fun v => BD (fbd_iff.2 (fun w => ?_)) v9) (fun v6 => ?_)
    · rcases q37 with q | ⟨_, x, x1, x2⟩
      · omega
      · rw [c5 x (by omega) (by omega)] at x2
        exact w.2.2.2 x (by omega) x2
    have K2 : ∀ j : Nat, (j : Int) < nk_S (Bf k) (nf k) i f → ¬ fk_F Bf nf cnt k i f j = -1 := fun j hj => by
      rcases q37 with q | q
      · have := q.2 j (by omega)
        rw [c5 j (by omega) hj] at this
        exact this
      · exact absurd q.1 v6
    unfold qj_X11_proveFrames_116
    refine pc_if (fun _ => ?_) (fun w => absurd (by decide) w)
    refine pc_rA ?_; intro _ _ v2' e2'
    rw [show v9.toNat = 64 * f by omega, c1] at e2'
    refine pc_add (by omega) ?_; intro v3' e3'
    rw [show v3' = ((f + 1 : Nat) : Int) by omega, e2', show fv_S (Bf k) (nf k) i f = lf_V (Bf k) (nf k) i (f + 1) from rfl]
    refine ih (f + 1) (by omega) (fun x hx => ?_)
    by_cases e : x = f
    · rw [e]
      intro w
      exact fbd_iff.1 w ⟨⟨bg, by omega⟩, ⟨by omega, by omega⟩, K1, K2⟩
    · exact A x (by omega)
theorem vc_frames (C : CMe Bf nf k i h) (e16 : h 127 16 = (cl_N (Bf k) (nf k) i : Int)) (FR : ∀ x : Nat, x < fn_S (Bf k) (nf k) i → CFx Bf nf cnt k i x h) (MK : MKb (cd_S (Bf k) (nf k) i) (cl_N (Bf k) (nf k) i) h) : Pc (qf_X11_proveFrames nn h) (fun u => (∀ x y : Nat, ¬ (x = 127 ∧ y = 7) → u.2 x y = h x y) ∧ FNx (FBd Bf nf cnt k i) (fn_S (Bf k) (nf k) i) 9 u.1 (u.2 127 7)) := by
  unfold qf_X11_proveFrames
  exact vc_f4 C e16 FR MK nn 0 (Nat.zero_le _) (fun x hx => absurd hx (by omega))
end
end
section
/- VERIFY: the class takes the constants of an image -/
/-- 1: MEMBER a is a method's -/
def sk_V (B : Nat → Int) (n : Nat) (a : Int) : Int := if B (na_S B n (pt_S B n a 2)) = 40 then 1 else 0
/-- MEMBER a means member j of class d -/
def MFd (Bf : Nat → Nat → Int) (nf : Nat → Nat) (cnt : Int) (k : Nat) (a s d : Int) (j : Nat) : Prop := (0 ≤ cq_F Bf nf cnt (Bf k) (nf k) (pt_S (Bf k) (nf k) a 0) ∧ cq_F Bf nf cnt (Bf k) (nf k) (pt_S (Bf k) (nf k) a 0) < 16) ∧ HFd Bf nf cnt k (pt_S (Bf k) (nf k) a 1) s (cq_F Bf nf cnt (Bf k) (nf k) (pt_S (Bf k) (nf k) a 0)) d j ∧ TXq (Bf (d - 8).toNat) (nf (d - 8).toNat) (kt_S (Bf (d - 8).toNat) (nf (d - 8).toNat) j s) (Bf k) (nf k) (pt_S (Bf k) (nf k) a 2)
/-- what the class keeps of MEMBER a -/
def CMq (Bf : Nat → Nat → Int) (nf : Nat → Nat) (cnt : Int) (k : Nat) (a : Int) (h : ms_M) : Prop := (h 129 a.toNat = -1 ∧ ∀ (d : Int) (j : Nat), ¬ MFd Bf nf cnt k a (sk_V (Bf k) (nf k) a) d j) ∨ ∃ (d : Int) (j : Nat), MFd Bf nf cnt k a (sk_V (Bf k) (nf k) a) d j ∧ h 129 a.toNat = (d - 8) * 12 + (j : Int) ∧ (sk_V (Bf k) (nf k) a = 1 → pm_S (Bf k) (nf k) (pt_S (Bf k) (nf k) a 2) ≤ 6 ∧ h 130 a.toNat = (pm_S (Bf k) (nf k) (pt_S (Bf k) (nf k) a 2) : Int) ∧ h 131 (7 * a.toNat) = rk_F Bf nf cnt k (pt_S (Bf k) (nf k) a 2) ∧ ∀ x : Nat, x < pm_S (Bf k) (nf k) (pt_S (Bf k) (nf k) a 2) → h 131 (7 * a.toNat + 1 + x) = pk_F Bf nf cnt k (pt_S (Bf k) (nf k) a 2) x) ∧ (sk_V (Bf k) (nf k) a = 0 → h 131 (7 * a.toNat) = fy_F Bf nf cnt k (pt_S (Bf k) (nf k) a 2))
section
variable {nn : Nat} {Bf : Nat → Nat → Int} {nf : Nat → Nat} {cnt : Int} {B C D : Nat → Int} {n m b d k o i L p q : Nat} {M h g r h0 : ms_M} {t c a : Int}
/-- the parts of a MEMBER -/
theorem mb_tx {x : Nat} (zk : kk_S B n = .inr x) (h2 : 0 ≤ B 2) (t4 : tg_S B n a = 4) : tg_S B n (pt_S B n a 0) = 3 ∧ tg_S B n (pt_S B n a 1) = 1 ∧ tg_S B n (pt_S B n a 2) = 1 ∧ ((sk_V B n a = 0 ∧ fk_S B n (pt_S B n a 2) = true) ∨ (sk_V B n a = 1 ∧ ∃ m : Nat, pi_S B n (pt_S B n a 2) = some m)) := by
  obtain ⟨i1, i2, -⟩ := tg_in (B := B) (n := n) (k := a) (by omega)
  have c := kk_ck zk h2 ⟨i1, i2⟩
  unfold ck_S at c
  rw [if_neg (by omega), if_pos t4] at c
  by_cases q1 : cl_S B n (pt_S B n a 0) = true
  · rw [if_pos q1] at c
    by_cases q2 : nm_S B n (pt_S B n a 1) = true
    · rw [if_pos q2] at c
      by_cases q3 : (fk_S B n (pt_S B n a 2) || (pi_S B n (pt_S B n a 2)).isSome) = true
      · refine ⟨of_decide_eq_true q1, nm_t1 q2, ?_⟩
        rw [Bool.or_eq_true] at q3
        rcases q3 with q3 | q3
        · have q4 := q3
          unfold fk_S at q4
          rw [Bool.and_eq_true] at q4
          have K := (kd_s (of_decide_eq_true q4.2)).1
          refine ⟨of_decide_eq_true q4.1, .inl ⟨?_, q3⟩⟩
          unfold sk_V
          rw [if_neg]
          show ¬ B (pl_S B n (pt_S B n a 2) + 2) = 40
          unfold KDs at K
          omega
        · obtain ⟨m, hm⟩ := Option.isSome_iff_exists.1 q3
          obtain ⟨_, t1, K⟩ := ps_ok hm
          refine ⟨t1, .inr ⟨?_, m, hm⟩⟩
          unfold sk_V
          rw [if_pos K.1.1]
      · rw [if_neg q3] at c; exact nomatch c
    · rw [if_neg q2] at c; exact nomatch c
  · rw [if_neg q1] at c; exact nomatch c
theorem cmb_k (A : CMq Bf nf cnt k a h) (e1 : g 129 a.toNat = h 129 a.toNat) (e2 : g 130 a.toNat = h 130 a.toNat) (e3 : ∀ y : Nat, y ≤ 6 → g 131 (7 * a.toNat + y) = h 131 (7 * a.toNat + y)) : CMq Bf nf cnt k a g := by
  rcases A with ⟨a1, a2⟩ | ⟨d, j, a1, a2, a3, a4⟩
  · exact .inl ⟨by rw [e1]; exact a1, a2⟩
  · refine .inr ⟨d, j, a1, by rw [e1]; exact a2, fun z => ?_, fun z => ?_⟩
    · obtain ⟨b1, b2, b3, b4⟩ := a3 z
      refine ⟨b1, by rw [e2]; exact b2, ?_, fun x hx => ?_⟩
      · have := e3 0 (by omega)
        rw [Nat.add_zero] at this
        rw [this]; exact b3
      · have := e3 (1 + x) (by omega)
        rw [← Nat.add_assoc] at this
        rw [this]; exact b4 x hx
    · have := e3 0 (by omega)
      rw [Nat.add_zero] at this
      rw [this]; exact a4 z
/-- looked up from anything -/
theorem vc_far {c : Int} (g3 : 0 ≤ h 56 3 ∧ h 56 3 ≤ 8) (hc : 16 ≤ c ∧ c ≤ 1000) {b : Nat} {t : Int} : Pc (qf_X7_methodOf nn c b t h) (fun u => u = -1) ∧ Pc (qf_X7_fieldOf nn c b t h) (fun u => u = -1) := by
  have I : Pc (qf_X7_imageOf nn c h) (fun u => u = -1) := by
    unfold qf_X7_imageOf
    refine pc_if (fun z => pc_ret rfl) (fun z => ?_)
    refine pc_add (by omega) ?_; intro v2 e2
    exact pc_if (fun _ => pc_ret rfl) (fun z => absurd (show v2 ≤ c by omega) z)
  constructor
  · unfold qf_X7_methodOf
    suffices K : ∀ y : Nat, Pc (qw_X7_methodOf_6 nn y b t c 0 h) (fun u => u = -1) from K nn
    intro y
    cases y with
    | zero => exact pc_none
    | succ y =>
      unfold qw_X7_methodOf_6
      refine pc_if (fun z => pc_ret rfl) (fun _ => ?_)
      refine pc_sv I ?_; intro u q
      exact pc_if (fun _ => pc_ret rfl) (fun z => absurd (show u < 0 by omega) z)
  · unfold qf_X7_fieldOf
    suffices K : ∀ y : Nat, Pc (qw_X7_fieldOf_6 nn y b t c 0 h) (fun u => u = -1) from K nn
    intro y
    cases y with
    | zero => exact pc_none
    | succ y =>
      unfold qw_X7_fieldOf_6
      refine pc_if (fun z => pc_ret rfl) (fun _ => ?_)
      refine pc_sv I ?_; intro u q
      exact pc_if (fun _ => pc_ret rfl) (fun z => absurd (show u < 0 by omega) z)
def LKu (Bf : Nat → Nat → Int) (nf : Nat → Nat) (cnt : Int) (k : Nat) (t s c u : Int) : Prop := (u = -1 ∧ ∀ (d : Int) (j : Nat), ¬ ((0 ≤ c ∧ c < 16) ∧ HFd Bf nf cnt k t s c d j)) ∨ ∃ (d : Int) (j : Nat), ((0 ≤ c ∧ c < 16) ∧ HFd Bf nf cnt k t s c d j) ∧ (8 ≤ d ∧ d < 8 + cnt) ∧ (j : Int) < mb_S (Bf (d - 8).toNat) (nf (d - 8).toNat) s ∧ u = (d - 8) * 12 + (j : Int)
theorem lk_u {s u : Int} (c0 : 0 ≤ cnt) (hc : c = -1 ∨ (ISc cnt c ∧ c < 16)) (A : (u = -1 ∧ HNo Bf nf cnt k t s c) ∨ ∃ (d : Int) (j : Nat), HFd Bf nf cnt k t s c d j ∧ u = (d - 8) * 12 + j) : LKu Bf nf cnt k t s c u := by
  rcases A with ⟨a1, a2⟩ | ⟨d, j, a1, a2⟩
  · exact .inl ⟨a1, fun d j w => hfd_n w.2 a2⟩
  · have hc' : c = -1 ∨ ISc cnt c := by
      rcases hc with z | z
      · exact .inl z
      · exact .inr z.1
    obtain ⟨b1, b2⟩ := hfd_is c0 hc' a1
    have c1 : 0 ≤ c ∧ c < 16 := by
      rcases hc with z | z
      · obtain ⟨x, x1, x2, x3⟩ := a1
        have := x2 0 (by omega)
        have e : ch_F Bf nf cnt c 0 = c := rfl
        omega
      · have := z.1
        unfold ISc at this
        omega
    exact .inr ⟨d, j, ⟨c1, a1⟩, b1, b2, a2⟩
theorem vc_lk (S : CSw Bf nf h) (hk : (k : Int) < h 56 3) (HE : ∀ c : Int, ISc (h 56 3) c → ch_F Bf nf (h 56 3) c 17 = -1) (t1 : tg_S (Bf k) (nf k) t = 1) (hc : c = -1 ∨ (ISc (h 56 3) c ∧ c < 16) ∨ (100 ≤ c ∧ c ≤ 200)) : Pc (qf_X7_methodOf nn c (h 60 k).toNat t h) (LKu Bf nf (h 56 3) k t 1 c) ∧ Pc (qf_X7_fieldOf nn c (h 60 k).toNat t h) (LKu Bf nf (h 56 3) k t 0 c) := by
  have g3 := S.1.1
  have NR : (c = -1 ∨ (ISc (h 56 3) c ∧ c < 16)) → Pc (qf_X7_methodOf nn c (h 60 k).toNat t h) (LKu Bf nf (h 56 3) k t 1 c) ∧ Pc (qf_X7_fieldOf nn c (h 60 k).toNat t h) (LKu Bf nf (h 56 3) k t 0 c) := fun z => by
    have hc' : c = -1 ∨ ISc (h 56 3) c := by
      rcases z with z | z
      · exact .inl z
      · exact .inr z.1
    have E : ∃ fe : Nat, ch_F Bf nf (h 56 3) c fe = -1 := by
      rcases z with z | z
      · exact ⟨0, z⟩
      · exact ⟨17, HE c z.1⟩
    obtain ⟨fe, E⟩ := E
    exact ⟨pc_imp (vc_mo S hk t1 hc' E) (fun u w => lk_u g3.1 z w), pc_imp (vc_fo S hk t1 hc' E) (fun u w => lk_u g3.1 z w)⟩
  rcases hc with z | z | z
  · exact NR (.inl z)
  · exact NR (.inr z)
  · have F := vc_far (nn := nn) (c := c) g3 (by omega) (b := (h 60 k).toNat) (t := t)
    have N : ∀ s u : Int, u = -1 → LKu Bf nf (h 56 3) k t s c u := fun s u e => .inl ⟨e, fun d j w => absurd w.1 (by omega)⟩
    exact ⟨pc_imp F.1 (fun u w => N 1 u w), pc_imp F.2 (fun u w => N 0 u w)⟩
/-- TAKE MEMBER -/
theorem vc_tm153 (hn : 1000000 ≤ nn) (S : CSw Bf nf h) (hk : (k : Int) < h 56 3) (e5 : h 127 5 = h 60 k) (ar : 1 ≤ a ∧ a ≤ 255) {s d num : Int} {j : Nat} (dr : 8 ≤ d ∧ d < 8 + h 56 3) (jm : (j : Int) < mb_S (Bf (d - 8).toNat) (nf (d - 8).toNat) s) (en : num = (d - 8) * 12 + (j : Int)) (H : (0 ≤ cq_F Bf nf (h 56 3) (Bf k) (nf k) (pt_S (Bf k) (nf k) a 0) ∧ cq_F Bf nf (h 56 3) (Bf k) (nf k) (pt_S (Bf k) (nf k) a 0) < 16) ∧ HFd Bf nf (h 56 3) k (pt_S (Bf k) (nf k) a 1) s (cq_F Bf nf (h 56 3) (Bf k) (nf k) (pt_S (Bf k) (nf k) a 0)) d j) (es : s = sk_V (Bf k) (nf k) a) (t2 : tg_S (Bf k) (nf k) (pt_S (Bf k) (nf k) a 2) = 1) (tk : tg_S (Bf (d - 8).toNat) (nf (d - 8).toNat) (kt_S (Bf (d - 8).toNat) (nf (d - 8).toNat) j s) = 1) (KK : (sk_V (Bf k) (nf k) a = 0 ∧ fk_S (Bf k) (nf k) (pt_S (Bf k) (nf k) a 2) = true) ∨ (sk_V (Bf k) (nf k) a = 1 ∧ ∃ m : Nat, pi_S (Bf k) (nf k) (pt_S (Bf k) (nf k) a 2) = some m)) (e29 : h 129 a.toNat = -1) : Pc (qj_X11_takeMember_153 nn a (pt_S (Bf k) (nf k) a 2) num (kt_S (Bf (d - 8).toNat) (nf (d - 8).toNat) j s) (((h 60 (d - 8).toNat).toNat : Nat) : Int) h) (fun u => CMq Bf nf (h 56 3) k a u ∧ ∀ x y : Nat, ¬ (x = 129 ∧ y = a.toNat) → ¬ (x = 130 ∧ y = a.toNat) → ¬ (x = 131 ∧ 7 * a.toNat ≤ y ∧ y ≤ 7 * a.toNat + 6) → u x y = h x y) := by
  unfold qj_X11_takeMember_153
  rw [e5, Int.toNat_natCast]
  refine pc_ck (fun _ => pc_ck (fun _ => pc_ck (fun _ => ?_)))
  refine pc_sv (vc_same S.1 (k := (d - 8).toNat) (j := k) (by omega) hk tk t2) ?_; intro u4 q4
  refine pc_if (fun z => pc_ret ⟨.inl ⟨e29, fun d2 j2 w => ?_⟩, fun _ _ _ _ _ => rfl⟩) (fun z => ?_)
  · obtain ⟨w1, w2, w3⟩ := w
    rw [← es] at w2 w3
    obtain ⟨x1, x2⟩ := hfd_u w2 H.2
    rw [x1, x2] at w3
    rcases q4 with q | q
    · omega
    · exact q.2 w3
  have TX : TXq (Bf (d - 8).toNat) (nf (d - 8).toNat) (kt_S (Bf (d - 8).toNat) (nf (d - 8).toNat) j s) (Bf k) (nf k) (pt_S (Bf k) (nf k) a 2) := by
    rcases q4 with q | q
    · exact q.2
    · exact absurd q.1 z
  have MF : MFd Bf nf (h 56 3) k a (sk_V (Bf k) (nf k) a) d j := by rw [← es]; exact ⟨H.1, H.2, TX⟩
  refine pc_wA ?_; intro _ _ h6 e6
  have F6 : ∀ x y : Nat, ¬ (x = 129 ∧ y = a.toNat) → h6 x y = h x y := fun x y w => by rw [e6, up_n w]
  have S6 : CSv Bf nf h6 := csv_k S.1 (fun c j _ w => F6 c j (by omega))
  have e56 : h6 127 5 = h 60 k := by rw [F6 127 5 (by omega)]; exact e5
  have c60 : h6 60 k = h 60 k := F6 60 k (by omega)
  have c3 : h6 56 3 = h 56 3 := F6 56 3 (by omega)
  rw [e56]
  refine pc_ck (fun _ => ?_)
  refine pc_xl ?_; intro v11 e11
  rw [oq_mul_eq (by omega) (by omega) (by omega)] at e11
  rw [show v11 = ((7 * a.toNat : Nat) : Int) by omega]
  rcases KK with ⟨k0, fk⟩ | ⟨k1, m, pi⟩
  · have q := vc_readF (nn := nn) S6 (a := 7 * a.toNat) (by omega) fk (k := k) (by omega)
    rw [c60, c3] at q
    refine pc_sv q ?_; intro u13 ⟨r1, r2⟩
    refine pc_wA ?_; intro _ _ h14 e14
    have F14 : ∀ x y : Nat, ¬ (x = 129 ∧ y = a.toNat) → ¬ (x = 130 ∧ y = a.toNat) → ¬ (x = 131 ∧ y = 7 * a.toNat) → h14 x y = h x y := fun x y w1 w2 w3 => by rw [e14, up_n w2, r2, up_n w3]; exact F6 x y w1
    refine pc_ret ⟨.inr ⟨d, j, MF, ?_, fun w => absurd w (by omega), fun _ => ?_⟩, fun x y w1 w2 w3 => F14 x y w1 w2 (by omega)⟩
    · rw [e14, up_n (by omega), r2, up_n (by omega), e6, up_s]; exact en
    · rw [e14, up_n (by omega), r2, up_s]; rfl
  · obtain ⟨em, _, KM⟩ := ps_ok pi
    have m6 := KM.1.2.2
    have q := vc_readM (nn := nn) hn S6 (a := 7 * a.toNat) (by omega) pi (k := k) (by omega)
    rw [c60, c3] at q
    refine pc_sv q ?_; intro u13 ⟨r1, r2, r3, r4⟩
    refine pc_wA ?_; intro _ _ h14 e14
    have G14 : ∀ x y : Nat, ¬ (x = 130 ∧ y = a.toNat) → h14 x y = u13.2 x y := fun x y w => by rw [e14, up_n w]
    refine pc_ret ⟨.inr ⟨d, j, MF, ?_, fun _ => ⟨by omega, ?_, ?_, fun x hx => ?_⟩, fun w => absurd w (by omega)⟩, fun x y w1 w2 w3 => ?_⟩
    · rw [G14 129 _ (by omega), r2 129 _ (by omega), e6, up_s]; exact en
    · rw [e14, up_s]; exact r1
    · rw [G14 131 _ (by omega)]; exact r3
    · rw [G14 131 _ (by omega)]; exact r4 x hx
    · rw [G14 x y w2, r2 x y (by omega)]; exact F6 x y w1
theorem vc_tm102 (hn : 1000000 ≤ nn) (S : CSw Bf nf h) (hk : (k : Int) < h 56 3) (e5 : h 127 5 = h 60 k) (ar : 1 ≤ a ∧ a ≤ 255) {s u : Int} (es : s = sk_V (Bf k) (nf k) a) (t2 : tg_S (Bf k) (nf k) (pt_S (Bf k) (nf k) a 2) = 1) (KK : (sk_V (Bf k) (nf k) a = 0 ∧ fk_S (Bf k) (nf k) (pt_S (Bf k) (nf k) a 2) = true) ∨ (sk_V (Bf k) (nf k) a = 1 ∧ ∃ m : Nat, pi_S (Bf k) (nf k) (pt_S (Bf k) (nf k) a 2) = some m)) (e29 : h 129 a.toNat = -1) (LK : LKu Bf nf (h 56 3) k (pt_S (Bf k) (nf k) a 1) s (cq_F Bf nf (h 56 3) (Bf k) (nf k) (pt_S (Bf k) (nf k) a 0)) u) : Pc (qj_X11_takeMember_102 nn a (pt_S (Bf k) (nf k) a 2) s u h) (fun u => CMq Bf nf (h 56 3) k a u ∧ ∀ x y : Nat, ¬ (x = 129 ∧ y = a.toNat) → ¬ (x = 130 ∧ y = a.toNat) → ¬ (x = 131 ∧ 7 * a.toNat ≤ y ∧ y ≤ 7 * a.toNat + 6) → u x y = h x y) := by
  have g3 := S.1.1
  unfold qj_X11_takeMember_102
  rcases LK with ⟨l1, l2⟩ | ⟨d, j, H, dr, jm, en⟩
  · refine pc_sv (P := fun v => v = -1) ?_ ?_
    · unfold qf_X7_imageOfMember
      exact pc_if (fun _ => pc_ret rfl) (fun z => absurd (show u < 0 by omega) z)
    intro u18 q18
    refine pc_if (fun _ => pc_ret ⟨.inl ⟨e29, fun d j w => ?_⟩, fun _ _ _ _ _ => rfl⟩) (fun z => absurd (show u18 < 0 by omega) z)
    obtain ⟨w1, w2, w3⟩ := w
    rw [← es] at w2
    exact l2 d j ⟨w1, w2⟩
  have hd : (((d - 8).toNat : Nat) : Int) < h 56 3 := by omega
  have X := S.1.2 (d - 8).toNat hd
  obtain ⟨G, -, -, -⟩ := cg_im X
  have k3 : kc_O (h 60 (d - 8).toNat).toNat = 3 := X.1.1.1
  have h60 : 0 ≤ h 60 (d - 8).toNat := Classical.byContradiction fun z => by
    rw [show (h 60 (d - 8).toNat).toNat = 0 by omega] at k3
    exact absurd k3 (by decide)
  have j12 : (j : Int) < 12 := by
    have g1 := G.1
    have g2 := G.2.2.1
    unfold mb_S at jm
    by_cases s0 : s = 0
    · rw [if_pos s0] at jm; omega
    · rw [if_neg s0] at jm; omega
  refine pc_sv (P := fun v => v = h 60 (d - 8).toNat) ?_ ?_
  · unfold qf_X7_imageOfMember
    refine pc_if (fun z => absurd z (by omega)) (fun _ => ?_)
    refine pc_xl ?_; intro v2 e2
    rw [oq_mul_eq (by omega) (by omega) (by omega)] at e2
    refine pc_if (fun z => absurd z (by omega)) (fun _ => ?_)
    refine pc_xl ?_; intro v4 e4
    rw [Int.tdiv_eq_ediv_of_nonneg (by omega)] at e4
    refine pc_rA ?_; intro _ _ v5 e5'
    rw [show v4 = d - 8 by omega] at e5'
    exact pc_ret e5'
  intro u18 q18
  rw [q18]
  refine pc_if (fun z => absurd z (by omega)) (fun _ => ?_)
  refine pc_xl ?_; intro v21 e21
  rw [Int.tmod_eq_emod_of_nonneg (by omega)] at e21
  rw [show v21 = (j : Int) by omega]
  have s01 : s = 0 ∨ s = 1 := by
    rcases KK with z | z
    · exact .inl (es.trans z.1)
    · exact .inr (es.trans z.1)
  refine pc_if (fun s0 => ?_) (fun s0 => ?_)
  · refine pc_ck (fun _ => ?_)
    unfold mb_S at jm
    rw [if_pos s0] at jm
    have g2 := (G.2.1 j jm).2.2
    have g2' := g2
    unfold fk_S at g2'
    rw [Bool.and_eq_true] at g2'
    have ek : kt_S (Bf (d - 8).toNat) (nf (d - 8).toNat) j s = Bf (d - 8).toNat (fa_S (Bf (d - 8).toNat) (nf (d - 8).toNat) j + 1) := by unfold kt_S; rw [if_pos s0]
    refine pc_sv (vq_cfn (nn := nn) X jm).2 ?_; intro u23 q23
    rw [q23, ← ek]
    exact vc_tm153 hn S hk e5 ar dr (by unfold mb_S; rw [if_pos s0]; exact jm) en H es t2 (by rw [ek]; exact of_decide_eq_true g2'.1) KK e29
  · refine pc_ck (fun _ => ?_)
    unfold mb_S at jm
    rw [if_neg s0] at jm
    have gm := (G.2.2.2 j jm)
    obtain ⟨m, pm, -⟩ := gm.2.1
    obtain ⟨-, -, -, MD⟩ := cg_im X
    have ek : kt_S (Bf (d - 8).toNat) (nf (d - 8).toNat) j s = Bf (d - 8).toNat (ma_S (Bf (d - 8).toNat) (nf (d - 8).toNat) j + 2) := by unfold kt_S; rw [if_neg s0]
    refine pc_sv (vq_of (nn := nn) X jm (w := 2) (by decide) (MD j jm).1.2.2.1) ?_; intro u25 q25
    rw [q25, ← ek]
    exact vc_tm153 hn S hk e5 ar dr (by unfold mb_S; rw [if_neg s0]; exact jm) en H es t2 (by rw [ek]; exact (ps_ok pm).2.1) KK e29
theorem vc_tmember (hn : 1000000 ≤ nn) (S : CSw Bf nf h) (hk : (k : Int) < h 56 3) (e5 : h 127 5 = h 60 k) (HE : ∀ c : Int, ISc (h 56 3) c → ch_F Bf nf (h 56 3) c 17 = -1) (T3 : CT3 Bf nf (h 56 3) k h) (t4 : tg_S (Bf k) (nf k) a = 4) (e29 : h 129 a.toNat = -1) : Pc (qf_X11_takeMember nn a h) (fun u => CMq Bf nf (h 56 3) k a u ∧ ∀ x y : Nat, ¬ (x = 129 ∧ y = a.toNat) → ¬ (x = 130 ∧ y = a.toNat) → ¬ (x = 131 ∧ 7 * a.toNat ≤ y ∧ y ≤ 7 * a.toNat + 6) → u x y = h x y) := by
  obtain ⟨x, zk, z2, z3⟩ := kz_zk S.1 hk
  obtain ⟨t0, t1, t2, KK⟩ := mb_tx zk z2 t4
  obtain ⟨a1, a2, -⟩ := tg_in (B := Bf k) (n := nf k) (k := a) (by omega)
  have X := S.1.2 k hk
  have T := X.1
  have P : ∀ i : Nat, i ≤ 2 → Pc (qf_X3_partOf nn (h 60 k).toNat a (i : Int) h) (fun u => u = pt_S (Bf k) (nf k) a i) := fun i hi u eu => by
    rw [c_part T (k := a) (i := i) (.inr ⟨t4, hi⟩)] at eu
    exact (Option.some.inj eu).symm
  have ci := cq_is (Bf := Bf) (nf := nf) S.1.1 zk z2 t0
  have LK := vc_lk (nn := nn) S hk HE t1 (c := cq_F Bf nf (h 56 3) (Bf k) (nf k) (pt_S (Bf k) (nf k) a 0)) (by
    rcases ci with c | c
    · exact .inl c
    · rcases c.2 with c | c | c
      · exact .inr (.inr (by omega))
      · exact .inr (.inl c)
      · exact .inr (.inr (by omega)))
  unfold qf_X11_takeMember
  rw [e5]
  refine pc_ck (fun _ => pc_ck (fun _ => ?_))
  refine pc_sv (P 0 (by omega)) ?_; intro u45 q45
  refine pc_rA ?_; intro _ _ v46 e46
  rw [q45, T3 _ t0] at e46
  refine pc_ck (fun _ => ?_)
  refine pc_sv (P 2 (by omega)) ?_; intro u49 q49
  refine pc_ck (fun _ => pc_ck (fun _ => ?_))
  rw [q49, e46]
  obtain ⟨c1, c2, c3⟩ := c_text (nn := nn) T t2
  refine pc_sv (P := fun u => u = ((na_S (Bf k) (nf k) (pt_S (Bf k) (nf k) a 2) : Nat) : Int)) (fun u eu => by rw [c1] at eu; exact (Option.some.inj eu).symm) ?_; intro u53 q53
  rw [q53]
  have nl : na_S (Bf k) (nf k) (pt_S (Bf k) (nf k) a 2) < nf k := by
    rcases KK with ⟨_, z⟩ | ⟨_, m, z⟩
    · unfold fk_S at z
      rw [Bool.and_eq_true] at z
      have := (kd_s (of_decide_eq_true z.2)).2.1
      have e : na_S (Bf k) (nf k) (pt_S (Bf k) (nf k) a 2) = pl_S (Bf k) (nf k) (pt_S (Bf k) (nf k) a 2) + 2 := rfl
      omega
    · have := mkd_rg (ps_ok z).2.2 0 (Nat.zero_le _)
      omega
  refine pc_sv (P := fun u => u = Bf k (na_S (Bf k) (nf k) (pt_S (Bf k) (nf k) a 2))) (fun u eu => by rw [byteAt_in T.1 nl] at eu; exact (Option.some.inj eu).symm) ?_; intro u55 q55
  have n40 : ¬ Bf k (na_S (Bf k) (nf k) (pt_S (Bf k) (nf k) a 2)) = 40 → sk_V (Bf k) (nf k) a = 0 := fun z => by unfold sk_V; rw [if_neg z]
  have y40 : Bf k (na_S (Bf k) (nf k) (pt_S (Bf k) (nf k) a 2)) = 40 → sk_V (Bf k) (nf k) a = 1 := fun z => by unfold sk_V; rw [if_pos z]
  unfold qj_X11_takeMember_50
  rw [e5]
  refine pc_if (fun z => ?_) (fun z => ?_)
  · refine pc_if (fun _ => ?_) (fun z => absurd rfl z)
    refine pc_ck (fun _ => pc_ck (fun _ => pc_ck (fun _ => ?_)))
    refine pc_sv (P 1 (by omega)) ?_; intro u31 q31
    rw [q31]
    refine pc_sv LK.2 ?_; intro u33 q33
    exact vc_tm102 hn S hk e5 ⟨by omega, by omega⟩ (n40 (by rw [← q55]; exact z)).symm t2 KK e29 q33
  · refine pc_if (fun z => absurd z (by decide)) (fun _ => ?_)
    refine pc_ck (fun _ => pc_ck (fun _ => pc_ck (fun _ => ?_)))
    refine pc_sv (P 1 (by omega)) ?_; intro u38 q38
    rw [q38]
    refine pc_sv LK.1 ?_; intro u40 q40
    exact vc_tm102 hn S hk e5 ⟨by omega, by omega⟩ (y40 (by rw [← q55]; omega)).symm t2 KK e29 q40
/-- TAKE CONSTANTS -/
theorem vc_tc55 (hn : 1000000 ≤ nn) (S : CSw Bf nf h0) (hk : (k : Int) < h0 56 3) (e5 : h0 127 5 = h0 60 k) (HE : ∀ c : Int, ISc (h0 56 3) c → ch_F Bf nf (h0 56 3) c 17 = -1) (T3 : CT3 Bf nf (h0 56 3) k h0) : ∀ (f : Nat) (a : Int) (h : ms_M), 1 ≤ a → (∀ x y : Nat, ¬ (129 ≤ x ∧ x ≤ 131) → h x y = h0 x y) → (∀ x : Int, 1 ≤ x → x < a → tg_S (Bf k) (nf k) x = 4 → CMq Bf nf (h0 56 3) k x h) → Pc (qw_X11_takeConstants_55 nn f a h) (fun u => (∀ x y : Nat, ¬ (129 ≤ x ∧ x ≤ 131) → u x y = h0 x y) ∧ ∀ x : Int, tg_S (Bf k) (nf k) x = 4 → CMq Bf nf (h0 56 3) k x u) := by
  intro f
  induction f with
  | zero => intro a h _ _ _; exact pc_none
  | succ f ih =>
    intro a h a1 F A
    have Sh : CSw Bf nf h := csw_k S (fun c j _ w => F c j (by omega))
    have c3 : h 56 3 = h0 56 3 := F 56 3 (by omega)
    have hk' : (k : Int) < h 56 3 := by rw [c3]; exact hk
    have e5h : h 127 5 = h 60 k := by rw [F 127 5 (by omega), F 60 k (by omega)]; exact e5
    have T := (Sh.1.2 k hk').1
    have B2 := T.2.2.1
    unfold qw_X11_takeConstants_55
    rw [e5h, T.2.1]
    refine pc_ck (fun _ => pc_ck (fun _ => ?_))
    refine pc_if (fun z => pc_ret ⟨F, fun x t4 => ?_⟩) (fun z => ?_)
    · obtain ⟨x1, x2, -⟩ := tg_in (B := Bf k) (n := nf k) (k := x) (by omega)
      exact A x x1 (by omega) t4
    refine pc_wA ?_; intro _ _ h4 e4
    have F4 : ∀ x y : Nat, ¬ (x = 129 ∧ y = a.toNat) → h4 x y = h x y := fun x y w => by rw [e4, up_n w]
    have S4 : CSw Bf nf h4 := csw_k Sh (fun c j _ w => F4 c j (by omega))
    have c34 : h4 56 3 = h0 56 3 := (F4 56 3 (by omega)).trans c3
    have hk4 : (k : Int) < h4 56 3 := by rw [c34]; exact hk
    have e54 : h4 127 5 = h4 60 k := by rw [F4 127 5 (by omega), F4 60 k (by omega)]; exact e5h
    have T4 := (S4.1.2 k hk4).1
    rw [e54]
    refine pc_ck (fun _ => pc_ck (fun _ => ?_))
    refine pc_sv (P := fun u => u = tg_S (Bf k) (nf k) a) (fun u eu => by rw [c_tag T4] at eu; exact (Option.some.inj eu).symm) ?_; intro u7 q7
    refine pc_if (fun y => ?_) (fun y => ?_)
    · refine pc_add (by omega) ?_; intro v8 e8
      rw [e8]
      refine ih (a + 1) h4 (by omega) (fun x y w => by rw [F4 x y (by omega)]; exact F x y w) (fun x x1 x2 t4 => ?_)
      by_cases e : x = a
      · rw [e] at t4; omega
      · exact cmb_k (A x x1 (by omega) t4) (F4 _ _ (by omega)) (F4 _ _ (by omega)) (fun y _ => F4 _ _ (by omega))
    · have t4 : tg_S (Bf k) (nf k) a = 4 := by omega
      have HE4 : ∀ c : Int, ISc (h4 56 3) c → ch_F Bf nf (h4 56 3) c 17 = -1 := by rw [c34]; exact HE
      have T34 : CT3 Bf nf (h4 56 3) k h4 := fun x t3 => by
        rw [F4 128 _ (by omega), F 128 _ (by omega), c34]; exact T3 x t3
      have q := vc_tmember (nn := nn) hn S4 hk4 e54 HE4 T34 t4 (by rw [e4, up_s])
      rw [c34] at q
      refine pc_sv q ?_; intro u10 ⟨r1, r2⟩
      refine pc_add (by omega) ?_; intro v11 e11
      rw [e11]
      refine ih (a + 1) u10 (by omega) (fun x y w => ?_) (fun x x1 x2 t4' => ?_)
      · rw [r2 x y (by omega) (by omega) (by omega), F4 x y (by omega)]; exact F x y w
      · by_cases e : x = a
        · rw [e]; exact r1
        · refine cmb_k (A x x1 (by omega) t4') ?_ ?_ (fun y hy => ?_)
          · rw [r2 _ _ (by omega) (by omega) (by omega)]; exact F4 _ _ (by omega)
          · rw [r2 _ _ (by omega) (by omega) (by omega)]; exact F4 _ _ (by omega)
          · rw [r2 _ _ (by omega) (by omega) (by omega)]; exact F4 _ _ (by omega)
theorem vc_tc2 (hn : 1000000 ≤ nn) (S : CSw Bf nf h0) (hk : (k : Int) < h0 56 3) (e5 : h0 127 5 = h0 60 k) (HE : ∀ c : Int, ISc (h0 56 3) c → ch_F Bf nf (h0 56 3) c 17 = -1) : ∀ (f : Nat) (a : Int) (h : ms_M), 1 ≤ a → (∀ x y : Nat, ¬ x = 128 → h x y = h0 x y) → (∀ x : Int, 1 ≤ x → x < a → tg_S (Bf k) (nf k) x = 3 → h 128 x.toNat = cq_F Bf nf (h0 56 3) (Bf k) (nf k) x) → Pc (qw_X11_takeConstants_2 nn f a h) (fun u => (∀ x y : Nat, ¬ (128 ≤ x ∧ x ≤ 131) → u x y = h0 x y) ∧ CT3 Bf nf (h0 56 3) k u ∧ ∀ x : Int, tg_S (Bf k) (nf k) x = 4 → CMq Bf nf (h0 56 3) k x u) := by
  intro f
  induction f with
  | zero => intro a h _ _ _; exact pc_none
  | succ f ih =>
    intro a h a1 F A
    have Sh : CSw Bf nf h := csw_k S (fun c j _ w => F c j (by omega))
    have c3 : h 56 3 = h0 56 3 := F 56 3 (by omega)
    have hk' : (k : Int) < h 56 3 := by rw [c3]; exact hk
    have e5h : h 127 5 = h 60 k := by rw [F 127 5 (by omega), F 60 k (by omega)]; exact e5
    have T := (Sh.1.2 k hk').1
    have B2 := T.2.2.1
    unfold qw_X11_takeConstants_2
    rw [e5h, T.2.1]
    refine pc_ck (fun _ => pc_ck (fun _ => ?_))
    refine pc_if (fun z => ?_) (fun z => ?_)
    · have T3 : CT3 Bf nf (h 56 3) k h := fun x t3 => by
        obtain ⟨x1, x2, -⟩ := tg_in (B := Bf k) (n := nf k) (k := x) (by omega)
        rw [c3]
        exact A x x1 (by omega) t3
      have q := vc_tc55 (nn := nn) hn Sh hk' e5h (by rw [c3]; exact HE) T3 nn 1 h (by omega) (fun _ _ _ => rfl) (fun x x1 x2 => absurd x2 (by omega))
      rw [c3] at q T3
      refine pc_imp q (fun u ⟨r1, r2⟩ => ⟨fun x y w => ?_, fun x t3 => ?_, r2⟩)
      · rw [r1 x y (by omega)]; exact F x y (by omega)
      · rw [r1 128 _ (by omega)]; exact T3 x t3
    refine pc_ck (fun _ => ?_)
    refine pc_sv (P := fun u => u = tg_S (Bf k) (nf k) a) (fun u eu => by rw [c_tag T] at eu; exact (Option.some.inj eu).symm) ?_; intro u19 q19
    have NX : ∀ (x : Int) (g : ms_M) (v : Int), v = a + 1 → g = up_M h 128 a.toNat x → (tg_S (Bf k) (nf k) a = 3 → x = cq_F Bf nf (h0 56 3) (Bf k) (nf k) a) → Pc (qw_X11_takeConstants_2 nn f v g) (fun u => (∀ x y : Nat, ¬ (128 ≤ x ∧ x ≤ 131) → u x y = h0 x y) ∧ CT3 Bf nf (h0 56 3) k u ∧ ∀ x : Int, tg_S (Bf k) (nf k) x = 4 → CMq Bf nf (h0 56 3) k x u) := fun x g v ev eg ex => by
      rw [ev]
      refine ih (a + 1) g (by omega) (fun y z w => by rw [eg, up_n (by omega)]; exact F y z w) (fun y y1 y2 t3 => ?_)
      by_cases e : y = a
      · rw [e, eg, up_s]; rw [e] at t3; exact ex t3
      · rw [eg, up_n (by omega)]; exact A y y1 (by omega) t3
    refine pc_if (fun y => ?_) (fun y => ?_)
    · refine pc_wA ?_; intro _ _ h20 e20
      refine pc_add (by omega) ?_; intro v21 e21
      exact NX (-1) h20 v21 e21 e20 (fun w => absurd w (by omega))
    · refine pc_ck (fun _ => ?_)
      have q := vc_class (nn := nn) Sh.1 hk' (i := a) (by omega)
      rw [c3] at q
      refine pc_sv q ?_; intro u25 q25
      refine pc_wA ?_; intro _ _ h26 e26
      refine pc_add (by omega) ?_; intro v27 e27
      exact NX u25 h26 v27 e27 e26 (fun _ => q25)
theorem vc_tconst (hn : 1000000 ≤ nn) (S : CSw Bf nf h) (hk : (k : Int) < h 56 3) (e5 : h 127 5 = h 60 k) (HE : ∀ c : Int, ISc (h 56 3) c → ch_F Bf nf (h 56 3) c 17 = -1) : Pc (qf_X11_takeConstants nn h) (fun u => (∀ x y : Nat, ¬ (128 ≤ x ∧ x ≤ 131) → u x y = h x y) ∧ CT3 Bf nf (h 56 3) k u ∧ ∀ x : Int, tg_S (Bf k) (nf k) x = 4 → CMq Bf nf (h 56 3) k x u) := by
  unfold qf_X11_takeConstants
  exact vc_tc2 hn S hk e5 HE nn 1 h (by omega) (fun _ _ _ => rfl) (fun x x1 x2 => absurd x2 (by omega))
end
end
section
/- VERIFY: kinds of the same text have the same types; what a right MEMBER tells -/
/-- all classes of the space are right as far as heads go -/
def HGo (Bf : Nat → Nat → Int) (nf : Nat → Nat) (cnt : Int) : Prop := (0 ≤ cnt ∧ cnt ≤ 8) ∧ ∀ x : Nat, (x : Int) < cnt → GIM (Bf x) (nf x) ∧ HOk Bf nf cnt x ∧ ∃ z : Nat, kk_S (Bf x) (nf x) = .inr z ∧ 0 ≤ Bf x 2
section
variable {Bf : Nat → Nat → Int} {nf : Nat → Nat} {cnt : Int} {B C D : Nat → Int} {n m b d k o i L p q : Nat} {t c a : Int}
theorem unm_f {f g : Nat → Int} {m : Nat} {k : Int} (e : ∀ i : Nat, i < m → f i = g i) : UNm f m B n k ↔ UNm g m B n k := by
  constructor
  · intro ⟨a1, a2⟩; exact ⟨a1, fun i hi => by rw [← e i hi]; exact a2 i hi⟩
  · intro ⟨a1, a2⟩; exact ⟨a1, fun i hi => by rw [e i hi]; exact a2 i hi⟩
theorem knm_f {f g : Nat → Int} {m c : Nat} (e : ∀ i : Nat, i < m → f i = g i) : KNm f m c ↔ KNm g m c := by
  constructor
  · intro ⟨a1, a2⟩; exact ⟨a1, fun i hi => by rw [← e i hi]; exact a2 i hi⟩
  · intro ⟨a1, a2⟩; exact ⟨a1, fun i hi => by rw [e i hi]; exact a2 i hi⟩
theorem clo_f {f g : Nat → Int} {m : Nat} {u : Int} (e : ∀ i : Nat, i < m → f i = g i) (A : CLo Bf nf cnt f m u) : CLo Bf nf cnt g m u := by
  rcases A with ⟨k, k1, k2, k3, k4⟩ | ⟨A, z⟩
  · exact .inl ⟨k, k1, k2, (unm_f e).1 k3, fun j hj w => k4 j hj ((unm_f e).2 w)⟩
  · refine .inr ⟨?_, fun j hj w => z j hj ((unm_f e).2 w)⟩
    rcases A with ⟨c, c1, c2, c3⟩ | ⟨c1, c2⟩
    · exact .inl ⟨c, c1, c2, (knm_f e).1 c3⟩
    · exact .inr ⟨c1, fun c hc w => c2 c hc ((knm_f e).2 w)⟩
theorem lo_f {f g : Nat → Int} {m : Nat} (e : ∀ i : Nat, i < m → f i = g i) : lo_S Bf nf cnt f m = lo_S Bf nf cnt g m := clo_det (clo_f e lo_ok) lo_ok
theorem nmk_e {e e2 M : Nat} (A : NMk B p e) (E : NMk C q e2) (S : ∀ i : Nat, i < M → B (p + i) = C (q + i)) (h1 : e ≤ p + M) (h2 : e2 ≤ q + M) : e - p = e2 - q := by
  obtain ⟨a1, a2, a3⟩ := A
  obtain ⟨b1, b2, b3⟩ := E
  rcases Nat.lt_trichotomy (e - 1 - p) (e2 - 1 - q) with z | z | z
  · exfalso
    have w := nm_59 b3 (e - 1 - p) z
    have w : ¬ C (q + (e - 1 - p)) = 59 := w
    rw [← S (e - 1 - p) (by omega), show p + (e - 1 - p) = e - 1 by omega] at w
    exact w a2
  · omega
  · exfalso
    have w := nm_59 a3 (e2 - 1 - q) z
    have w : ¬ B (p + (e2 - 1 - q)) = 59 := w
    rw [S (e2 - 1 - q) (by omega), show q + (e2 - 1 - q) = e2 - 1 by omega] at w
    exact w b2
theorem kds_l {e : Nat} (A : KDs B p e) : p < e := by
  unfold KDs NMk at A
  omega
theorem kds_e {e e2 M : Nat} (A : KDs B p e) (E : KDs C q e2) (S : ∀ i : Nat, i < M → B (p + i) = C (q + i)) (h1 : e ≤ p + M) (h2 : e2 ≤ q + M) : e - p = e2 - q := by
  have l1 := kds_l A
  have l2 := kds_l E
  have s0 := S 0 (by omega)
  rw [Nat.add_zero, Nat.add_zero] at s0
  have s1 : 2 ≤ M → B (p + 1) = C (q + 1) := fun z => S 1 (by omega)
  rcases A with ⟨a1, a2⟩ | ⟨a1, a2, a3⟩ | ⟨a1, a2, a3⟩ | ⟨a1, a2⟩
  · rcases E with ⟨b1, b2⟩ | ⟨b1, b2, b3⟩ | ⟨b1, b2, b3⟩ | ⟨b1, b2⟩
    · omega
    · omega
    · omega
    · omega
  · rcases E with ⟨b1, b2⟩ | ⟨b1, b2, b3⟩ | ⟨b1, b2, b3⟩ | ⟨b1, b2⟩
    · omega
    · omega
    · have := s1 (by omega)
      omega
    · omega
  · have l3 := a3.1
    rcases E with ⟨b1, b2⟩ | ⟨b1, b2, b3⟩ | ⟨b1, b2, b3⟩ | ⟨b1, b2⟩
    · omega
    · have := s1 (by omega)
      omega
    · have l4 := b3.1
      have := nmk_e (M := M - 2) a3 b3 (fun i hi => by rw [Nat.add_assoc, Nat.add_assoc]; exact S (2 + i) (by omega)) (by omega) (by omega)
      omega
    · omega
  · have l3 := a2.1
    rcases E with ⟨b1, b2⟩ | ⟨b1, b2, b3⟩ | ⟨b1, b2, b3⟩ | ⟨b1, b2⟩
    · omega
    · omega
    · omega
    · have l4 := b2.1
      have := nmk_e (M := M - 1) a2 b2 (fun i hi => by rw [Nat.add_assoc, Nat.add_assoc]; exact S (1 + i) (by omega)) (by omega) (by omega)
      omega
theorem kq_eq {e e2 : Nat} (A : KDs B p e) (x : e2 = q + (e - p)) (S : ∀ i : Nat, i < e - p → B (p + i) = C (q + i)) : kq_F Bf nf cnt B p e = kq_F Bf nf cnt C q e2 := by
  have l1 := kds_l A
  have s0 := S 0 (by omega)
  rw [Nat.add_zero, Nat.add_zero] at s0
  have s1 : 2 ≤ e - p → B (p + 1) = C (q + 1) := fun z => S 1 (by omega)
  unfold kq_F
  rw [← s0]
  by_cases c1 : B p = 73 ∨ B p = 90
  · rw [if_pos c1, if_pos c1]
  · rw [if_neg c1, if_neg c1]
    by_cases c2 : B p = 86
    · rw [if_pos c2, if_pos c2]
    · rw [if_neg c2, if_neg c2]
      by_cases c3 : B p = 91
      · rw [if_pos c3, if_pos c3]
        have l2 : p + 2 ≤ e := by unfold KDs NMk at A; omega
        rw [← s1 (by omega)]
        by_cases c4 : B (p + 1) = 73
        · rw [if_pos c4, if_pos c4]
        · rw [if_neg c4, if_neg c4]
          rw [show e2 - 1 - (q + 2) = e - 1 - (p + 2) by omega]
          rw [lo_f (Bf := Bf) (nf := nf) (cnt := cnt) (f := fun i => B (p + 2 + i)) (g := fun i => C (q + 2 + i)) (m := e - 1 - (p + 2)) (fun i hi => by
            show B (p + 2 + i) = C (q + 2 + i)
            rw [Nat.add_assoc, Nat.add_assoc]; exact S (2 + i) (by omega))]
      · rw [if_neg c3, if_neg c3]
        rw [show e2 - 1 - (q + 1) = e - 1 - (p + 1) by omega]
        exact lo_f (fun i hi => by
          show B (p + 1 + i) = C (q + 1 + i)
          rw [Nat.add_assoc, Nat.add_assoc]; exact S (1 + i) (by omega))
/-- two kinds of methods -/
theorem mkd_e {x y s s2 m m2 : Nat} {ps ps2 : Nat → Nat} (A : MKd B x s m ps) (E : MKd C y s2 m2 ps2) (es : s - x = s2 - y) (S : ∀ i : Nat, i < s - x → B (x + i) = C (y + i)) : m = m2 ∧ ∀ j : Nat, j ≤ m → ps j - x = ps2 j - y := by
  have r1 := mkd_rg A
  have r2 := mkd_rg E
  obtain ⟨⟨a1, a2, a3⟩, A1, A2, A3⟩ := A
  obtain ⟨⟨b1, b2, b3⟩, E1, E2, E3⟩ := E
  have K : ∀ j : Nat, j ≤ m → j ≤ m2 → ps j - x = ps2 j - y := by
    intro j
    induction j with
    | zero => intro _ _; omega
    | succ j ih =>
      intro h1 h2
      have i0 := ih (by omega) (by omega)
      have q1 := r1 j (by omega)
      have q2 := r2 j (by omega)
      have q3 := r1 (j + 1) h1
      have q4 := r2 (j + 1) h2
      have := kds_e (M := s - ps j) (kd_s (A1 j (by omega)).1).1 (kd_s (E1 j (by omega)).1).1 (fun i hi => by
        have := S (ps j - x + i) (by omega)
        rw [show x + (ps j - x + i) = ps j + i by omega, show y + (ps j - x + i) = ps2 j + i by omega] at this
        exact this) (by omega) (by omega)
      have k1 := kds_l (kd_s (A1 j (by omega)).1).1
      have k2 := kds_l (kd_s (E1 j (by omega)).1).1
      omega
  have BB : ∀ j : Nat, j ≤ m → j ≤ m2 → B (ps j) = C (ps2 j) := fun j h1 h2 => by
    have k0 := K j h1 h2
    have q1 := r1 j h1
    have q2 := r2 j h2
    have := S (ps j - x) (by omega)
    rw [show x + (ps j - x) = ps j by omega, show y + (ps j - x) = ps2 j by omega] at this
    exact this
  have em : m = m2 := by
    rcases Nat.lt_trichotomy m m2 with z | z | z
    · exfalso
      have w := BB m (by omega) (by omega)
      exact (E1 m z).2 (by rw [← w]; exact A2.1)
    · exact z
    · exfalso
      have w := BB m2 (by omega) (by omega)
      exact (A1 m2 z).2 (by rw [w]; exact E2.1)
  exact ⟨em, fun j hj => K j hj (by omega)⟩
theorem txq_f {s : Int} (T : TXq (Bf d) (nf d) t (Bf k) (nf k) s) (F : fk_S (Bf d) (nf d) t = true) : fy_F Bf nf cnt d t = fy_F Bf nf cnt k s := by
  unfold fk_S at F
  rw [Bool.and_eq_true] at F
  have K := (kd_s (of_decide_eq_true F.2)).1
  obtain ⟨t1, t2⟩ := T
  unfold fy_F
  refine kq_eq K ?_ (fun i hi => t2 i ?_)
  · show _ = _ + (pl_S (Bf d) (nf d) t + 2 + tl_S (Bf d) (nf d) t - (pl_S (Bf d) (nf d) t + 2))
    omega
  · have hi : i < pl_S (Bf d) (nf d) t + 2 + tl_S (Bf d) (nf d) t - (pl_S (Bf d) (nf d) t + 2) := hi
    omega
theorem txq_m {s : Int} {m1 m2 : Nat} (T : TXq (Bf d) (nf d) t (Bf k) (nf k) s) (F : pi_S (Bf d) (nf d) t = some m1) (G : pi_S (Bf k) (nf k) s = some m2) : pm_S (Bf d) (nf d) t = pm_S (Bf k) (nf k) s ∧ rk_F Bf nf cnt d t = rk_F Bf nf cnt k s ∧ ∀ j : Nat, j < pm_S (Bf d) (nf d) t → pk_F Bf nf cnt d t j = pk_F Bf nf cnt k s j := by
  obtain ⟨e1, -, K1⟩ := ps_ok F
  obtain ⟨e2, -, K2⟩ := ps_ok G
  obtain ⟨t1, t2⟩ := T
  obtain ⟨em, P⟩ := mkd_e K1 K2 (by omega) (fun i hi => t2 i (by omega))
  have r1 := mkd_rg K1
  have r2 := mkd_rg K2
  have SH : ∀ j i : Nat, j ≤ m1 → ps_S (Bf d) (nf d) t j + i < na_S (Bf d) (nf d) t + tl_S (Bf d) (nf d) t → Bf d (ps_S (Bf d) (nf d) t j + i) = Bf k (ps_S (Bf k) (nf k) s j + i) := fun j i hj hi => by
    have p1 := P j hj
    have q1 := r1 j hj
    have q2 := r2 j (by omega)
    have := t2 (ps_S (Bf d) (nf d) t j - na_S (Bf d) (nf d) t + i) (by omega)
    rw [show na_S (Bf d) (nf d) t + (ps_S (Bf d) (nf d) t j - na_S (Bf d) (nf d) t + i) = ps_S (Bf d) (nf d) t j + i by omega, show na_S (Bf k) (nf k) s + (ps_S (Bf d) (nf d) t j - na_S (Bf d) (nf d) t + i) = ps_S (Bf k) (nf k) s j + i by omega] at this
    exact this
  refine ⟨by omega, ?_, fun j hj => ?_⟩
  · unfold rk_F
    rw [e1, e2, ← em]
    have p1 := P m1 (Nat.le_refl _)
    have q1 := r1 m1 (Nat.le_refl _)
    have q2 := r2 m1 (by omega)
    have K3 := K1.2.2.2
    have l3 := kds_l K3
    refine kq_eq K3 (by omega) (fun i hi => ?_)
    have := SH m1 (1 + i) (Nat.le_refl _) (by omega)
    rw [← Nat.add_assoc, ← Nat.add_assoc] at this
    exact this
  · rw [e1] at hj
    unfold pk_F
    have p1 := P j (by omega)
    have p2 := P (j + 1) (by omega)
    have q1 := r1 j (by omega)
    have q2 := r2 j (by omega)
    have q3 := r1 (j + 1) (by omega)
    have q4 := r2 (j + 1) (by omega)
    have K3 := (kd_s (K1.2.1 j hj).1).1
    have l3 := kds_l K3
    exact kq_eq K3 (by omega) (fun i hi => SH j i (by omega) (by omega))
/-- what a right MEMBER tells -/
theorem mbr_t (H : HGo Bf nf cnt) (hk : (k : Int) < cnt) {op : Int} (M : MBr Bf nf cnt k op a) : sk_V (Bf k) (nf k) a = (if 182 ≤ op then 1 else 0) ∧ ((¬ 182 ≤ op ∧ VTq cnt (fy_F Bf nf cnt k (pt_S (Bf k) (nf k) a 2)) ∧ fk_S (Bf k) (nf k) (pt_S (Bf k) (nf k) a 2) = true) ∨ (182 ≤ op ∧ (∃ m : Nat, pi_S (Bf k) (nf k) (pt_S (Bf k) (nf k) a 2) = some m) ∧ (∀ j : Nat, j < pm_S (Bf k) (nf k) (pt_S (Bf k) (nf k) a 2) → VTq cnt (pk_F Bf nf cnt k (pt_S (Bf k) (nf k) a 2) j)) ∧ (rk_F Bf nf cnt k (pt_S (Bf k) (nf k) a 2) = 303 ∨ VTq cnt (rk_F Bf nf cnt k (pt_S (Bf k) (nf k) a 2))))) := by
  obtain ⟨t4, c16, d, j, HF, TX, -⟩ := M
  obtain ⟨Gk, Ok, z, zk, z2⟩ := H.2 k hk
  obtain ⟨t0, t1, t2, KK⟩ := mb_tx zk z2 t4
  have ci := cq_is (Bf := Bf) (nf := nf) H.1 zk z2 t0
  have hc : cq_F Bf nf cnt (Bf k) (nf k) (pt_S (Bf k) (nf k) a 0) = -1 ∨ ISc cnt (cq_F Bf nf cnt (Bf k) (nf k) (pt_S (Bf k) (nf k) a 0)) := by
    rcases ci with c | c
    · exact .inl c
    · rcases c.2 with c | c | c
      · omega
      · exact .inr c.1
      · omega
  obtain ⟨dr, jm⟩ := hfd_is H.1.1 hc HF
  obtain ⟨Gd, Od, -⟩ := H.2 (d - 8).toNat (by omega)
  have KA := Od.1.2.1
  by_cases q : 182 ≤ op
  · rw [if_pos q] at TX jm HF ⊢
    unfold mb_S at jm
    rw [if_neg (by decide)] at jm
    obtain ⟨m1, pi1, -⟩ := (Gd.2.2.2 j jm).2.1
    have ek : kt_S (Bf (d - 8).toNat) (nf (d - 8).toNat) j 1 = Bf (d - 8).toNat (ma_S (Bf (d - 8).toNat) (nf (d - 8).toNat) j + 2) := rfl
    rw [← ek] at pi1
    have K1 := (ps_ok pi1).2.2
    have r1 := mkd_rg K1 0 (Nat.zero_le _)
    have b0 := TX.2 0 (by omega)
    rw [Nat.add_zero, Nat.add_zero, K1.1.1] at b0
    have sk : sk_V (Bf k) (nf k) a = 1 := by unfold sk_V; rw [if_pos b0.symm]
    refine ⟨sk, .inr ⟨q, ?_⟩⟩
    rcases KK with ⟨k0, _⟩ | ⟨_, m2, pi2⟩
    · omega
    obtain ⟨x1, x2, x3⟩ := txq_m (cnt := cnt) TX pi1 pi2
    obtain ⟨e2, -, K2⟩ := ps_ok pi2
    obtain ⟨e1, -, -⟩ := ps_ok pi1
    have KB := KA.2 j jm
    refine ⟨⟨m2, pi2⟩, fun y hy => ?_, ?_⟩
    · have w := x3 y (by omega)
      rw [← w]
      have ks := (K1.2.1 y (by omega))
      have kd := kd_s ks.1
      rcases kq_is (Bf := Bf) (nf := nf) H.1 kd.1 with v | v
      · exact absurd v.1 kd.2.2.2
      · rcases v.2.2.2.2.2 with v | v
        · exact absurd v (KB.1 y (by omega))
        · exact v
    · rw [← x2]
      have KR : ¬ rk_F Bf nf cnt (d - 8).toNat (kt_S (Bf (d - 8).toNat) (nf (d - 8).toNat) j 1) = -1 := KB.2
      have K3 := K1.2.2.2
      rw [← e1] at K3
      rcases kq_is (Bf := Bf) (nf := nf) H.1 K3 with v | v
      · exact .inl v.2
      · rcases v.2.2.2.2.2 with v | v
        · exact absurd v KR
        · exact .inr v
  · rw [if_neg q] at TX jm HF ⊢
    unfold mb_S at jm
    rw [if_pos rfl] at jm
    have F1 := (Gd.2.1 j jm).2.2
    have ek : kt_S (Bf (d - 8).toNat) (nf (d - 8).toNat) j 0 = Bf (d - 8).toNat (fa_S (Bf (d - 8).toNat) (nf (d - 8).toNat) j + 1) := rfl
    rw [← ek] at F1
    have F1' := F1
    unfold fk_S at F1'
    rw [Bool.and_eq_true] at F1'
    have kd := kd_s (of_decide_eq_true F1'.2)
    have l1 := kds_l kd.1
    have b0 := TX.2 0 (by omega)
    rw [Nat.add_zero, Nat.add_zero] at b0
    have b0 : Bf (d - 8).toNat (pl_S (Bf (d - 8).toNat) (nf (d - 8).toNat) (kt_S (Bf (d - 8).toNat) (nf (d - 8).toNat) j 0) + 2) = Bf k (na_S (Bf k) (nf k) (pt_S (Bf k) (nf k) a 2)) := b0
    have n40 : ¬ Bf k (na_S (Bf k) (nf k) (pt_S (Bf k) (nf k) a 2)) = 40 := by
      have K := kd.1
      unfold KDs at K
      omega
    have sk : sk_V (Bf k) (nf k) a = 0 := by unfold sk_V; rw [if_neg n40]
    refine ⟨sk, .inl ⟨q, ?_, ?_⟩⟩
    · rw [← txq_f (cnt := cnt) TX F1]
      have KF : ¬ fy_F Bf nf cnt (d - 8).toNat (kt_S (Bf (d - 8).toNat) (nf (d - 8).toNat) j 0) = -1 := KA.1 j jm
      rcases kq_is (Bf := Bf) (nf := nf) H.1 kd.1 with v | v
      · exact absurd v.1 kd.2.2.2
      · rcases v.2.2.2.2.2 with v | v
        · exact absurd v KF
        · exact v
    · rcases KK with ⟨_, z⟩ | ⟨z, _⟩
      · exact z
      · omega
end
end
