/- VERIFY: the class takes a method's frames -/
/-- what the constants' types are -/
def CT3 (Bf : Nat → Nat → Int) (nf : Nat → Nat) (cnt : Int) (k : Nat) (h : ms_M) : Prop := ∀ a : Int, tg_S (Bf k) (nf k) a = 3 → h 128 a.toNat = cq_F Bf nf cnt (Bf k) (nf k) a
/-- the row of frame f -/
def CFx (Bf : Nat → Nat → Int) (nf : Nat → Nat) (cnt : Int) (k i f : Nat) (h : ms_M) : Prop := (h 133 (64 * f) = fv_S (Bf k) (nf k) i f ∧ h 133 (64 * f + 1) = nl_S (Bf k) (nf k) i f ∧ h 133 (64 * f + 2) = nk_S (Bf k) (nf k) i f) ∧ (∀ j : Nat, j < 30 → (j : Int) < nl_S (Bf k) (nf k) i f → h 133 (64 * f + 3 + j) = fl_F Bf nf cnt k i f j) ∧ ∀ j : Nat, j < 30 → (j : Int) < nk_S (Bf k) (nf k) i f → h 133 (64 * f + 33 + j) = fk_F Bf nf cnt k i f j
def mk_V (o : Option Nat) : Int := match o with
  | some x => (x : Int)
  | none => -1
/-- the marks with the first m frames -/
def MKf (D : Nat → Int) (L : Nat) (P : Nat → Int) (m : Nat) (h : ms_M) : Prop := ∀ p : Nat, p < L → (BGn D L p ∧ h 132 p = mk_V (fs_F (fun f => P f = (p : Int)) m)) ∨ (¬ BGn D L p ∧ h 132 p = -2)
section
variable {nn : Nat} {Bf : Nat → Nat → Int} {nf : Nat → Nat} {cnt : Int} {B C D : Nat → Int} {n m b d k o i L p q : Nat} {M h g r h0 : ms_M} {t c : Int}
theorem mkv_r {o : Option Nat} : -1 ≤ mk_V o := by
  cases o with
  | none => show (-1 : Int) ≤ -1; omega
  | some x => show (-1 : Int) ≤ (x : Int); omega
theorem mkf_b {P : Nat → Int} (A : MKf D L P m h) : MKb D L h := fun p hp => by
  rcases A p hp with ⟨a, b⟩ | ⟨a, b⟩
  · refine .inl ⟨a, fun z => ?_⟩
    have := mkv_r (o := fs_F (fun f => P f = (p : Int)) m)
    omega
  · exact .inr ⟨a, b⟩
theorem vc_tag (T3 : CT3 Bf nf cnt k h) (T : TPg (Bf k) (nf k) p) {u : Int} (e : Bf k p = 3 → u = Bf k (p + 1)) : Pc (qf_X11_typeOfTag nn (Bf k p) u h) (fun v => v = tt_F Bf nf cnt k p) := by
  obtain ⟨t1, t2, t3⟩ := T
  unfold qf_X11_typeOfTag tt_F
  refine pc_if (fun z => pc_ret (by rw [if_pos z])) (fun z => ?_)
  rw [if_neg z]
  refine pc_if (fun z1 => pc_ret (by rw [if_pos z1])) (fun z1 => ?_)
  rw [if_neg z1]
  refine pc_if (fun z2 => pc_ret (by rw [if_pos z2])) (fun z2 => ?_)
  rw [if_neg z2]
  have c3 : Bf k p = 3 := by omega
  refine pc_rA ?_; intro _ _ v2 e2
  refine pc_ret ?_
  rw [e2, e c3]
  exact T3 _ (t3 c3).2
theorem tp_le (TL : TLg B n p) : ∀ j : Nat, j ≤ (B p).toNat → tp_S B p j ≤ n := by
  intro j hj
  cases j with
  | zero =>
    have := TL.1
    show p + 1 ≤ n
    omega
  | succ j => exact tpg_n (TL.2.1 j (by omega))
/-- TAKE TYPES -/
theorem vc_tt17 (C : CMe Bf nf k i h0) (T3 : CT3 Bf nf cnt k h0) (TL : TLg (Bf k) (nf k) p) {row : Nat} (rw : row + 30 ≤ 6400) : ∀ (f j : Nat) (h : ms_M), j ≤ (Bf k p).toNat → (∀ c x : Nat, ¬ (c = 133 ∧ row ≤ x ∧ x < row + 30) → h c x = h0 c x) → (∀ x : Nat, x < j → x < 30 → h 133 (row + x) = tt_F Bf nf cnt k (tp_S (Bf k) p x)) → Pc (qw_X11_takeTypes_17 nn f (row : Int) (Bf k p) (tp_S (Bf k) p j : Int) (j : Int) h) (fun u => u.1 = (te_P (Bf k) p : Int) ∧ (∀ c x : Nat, ¬ (c = 133 ∧ row ≤ x ∧ x < row + 30) → u.2 c x = h0 c x) ∧ ∀ x : Nat, x < (Bf k p).toNat → x < 30 → u.2 133 (row + x) = tt_F Bf nf cnt k (tp_S (Bf k) p x)) := by
  have n6 := cme_n6 C
  have b0 := cme_b C TL.1
  intro f
  induction f with
  | zero => intro j h _ _ _; exact pc_none
  | succ f ih =>
    intro j h hj F W
    have Ch : CMe Bf nf k i h := cme_k C (fun x y z1 z2 => F x y (by omega))
    have T3h : CT3 Bf nf cnt k h := fun a ha => by rw [F 128 _ (by omega)]; exact T3 a ha
    unfold qw_X11_takeTypes_17
    refine pc_if (fun z => ?_) (fun z => ?_)
    · have ej : j = (Bf k p).toNat := by omega
      refine pc_ret ⟨?_, F, fun x hx h3 => W x (by omega) h3⟩
      show (tp_S (Bf k) p j : Int) = (te_P (Bf k) p : Int)
      rw [ej]; rfl
    have T := TL.2.1 j (by omega)
    have tn := tpg_n T
    rw [Ch.2.2.2.1]
    refine pc_ck (fun _ => pc_ck (fun _ => ?_))
    refine pc_sv (vc_byte Ch (p := tp_S (Bf k) p j) T.1) ?_; intro u6 q6
    rw [q6]
    have st : tp_S (Bf k) p (j + 1) = tp_S (Bf k) p j + (if Bf k (tp_S (Bf k) p j) = 3 then 2 else 1) := rfl
    have NX : ∀ g : ms_M, (∀ c x : Nat, ¬ (c = 133 ∧ row ≤ x ∧ x < row + 30) → g c x = h0 c x) → (∀ x : Nat, x < j + 1 → x < 30 → g 133 (row + x) = tt_F Bf nf cnt k (tp_S (Bf k) p x)) → Pc (qj_X11_takeTypes_67 nn (qw_X11_takeTypes_17 nn f) (row : Int) (Bf k p) (tp_S (Bf k) p j : Int) (j : Int) (Bf k (tp_S (Bf k) p j)) g) (fun u => u.1 = (te_P (Bf k) p : Int) ∧ (∀ c x : Nat, ¬ (c = 133 ∧ row ≤ x ∧ x < row + 30) → u.2 c x = h0 c x) ∧ ∀ x : Nat, x < (Bf k p).toNat → x < 30 → u.2 133 (row + x) = tt_F Bf nf cnt k (tp_S (Bf k) p x)) := fun g Fg Wg => by
      unfold qj_X11_takeTypes_67
      refine pc_if (fun y => ?_) (fun y => ?_)
      · rw [if_neg y] at st
        unfold qj_X11_takeTypes_80
        refine pc_add (by omega) ?_; intro v1 e1
        refine pc_add (by omega) ?_; intro v2 e2
        rw [show v1 = (tp_S (Bf k) p (j + 1) : Int) by omega, show v2 = ((j + 1 : Nat) : Int) by omega]
        exact ih (j + 1) g (by omega) Fg Wg
      · rw [if_pos (by omega)] at st
        unfold qj_X11_takeTypes_80
        refine pc_add (by omega) ?_; intro v1 e1
        refine pc_add (by omega) ?_; intro v2 e2
        rw [show v1 = (tp_S (Bf k) p (j + 1) : Int) by omega, show v2 = ((j + 1 : Nat) : Int) by omega]
        exact ih (j + 1) g (by omega) Fg Wg
    refine pc_if (fun y => NX h F (fun x hx h3 => W x (by omega) h3)) (fun y => ?_)
    refine pc_add (by omega) ?_; intro v8 e8
    refine pc_ck (fun _ => ?_)
    refine pc_add (by omega) ?_; intro v10 e10
    refine pc_se ?_; intro u12 e12
    refine pc_sv (vc_tag T3h T (u := u12) (fun c3 => ?_)) ?_
    · rw [show v10 = ((tp_S (Bf k) p j + 1 : Nat) : Int) by omega] at e12
      exact vc_byte Ch (p := tp_S (Bf k) p j + 1) (T.2.2 c3).1 u12 e12
    intro u14 q14
    refine pc_wA ?_; intro _ _ h15 e15
    rw [show v8.toNat = row + j by omega] at e15
    refine NX h15 (fun c x z => ?_) (fun x hx h3 => ?_)
    · rw [e15, up_n (by omega)]; exact F c x z
    · by_cases xj : x = j
      · rw [xj, e15, up_s, q14]
      · rw [e15, up_n (by omega)]; exact W x (by omega) h3
theorem vc_ttypes (C : CMe Bf nf k i h) (T3 : CT3 Bf nf cnt k h) (TL : TLg (Bf k) (nf k) p) {row : Nat} (rw : row + 30 ≤ 6400) : Pc (qf_X11_takeTypes nn (p : Int) (row : Int) h) (fun u => u.1 = (te_P (Bf k) p : Int) ∧ (∀ c x : Nat, ¬ (c = 133 ∧ row ≤ x ∧ x < row + 30) → u.2 c x = h c x) ∧ ∀ x : Nat, x < (Bf k p).toNat → x < 30 → u.2 133 (row + x) = tt_F Bf nf cnt k (tp_S (Bf k) p x)) := by
  have n6 := cme_n6 C
  have := TL.1
  unfold qf_X11_takeTypes
  rw [C.2.2.2.1]
  refine pc_ck (fun _ => pc_ck (fun _ => ?_))
  refine pc_sv (vc_byte C (p := p) TL.1) ?_; intro u20 q20
  refine pc_add (by omega) ?_; intro v21 e21
  rw [q20, show v21 = (tp_S (Bf k) p 0 : Int) by rw [e21]; rfl]
  exact vc_tt17 C T3 TL rw nn 0 h (Nat.zero_le _) (fun _ _ _ => rfl) (fun x hx => absurd hx (by omega))
/-- one frame more among the marks -/
theorem mkf_no {P : Nat → Int} (A : MKf D L P m h) (e : ∀ p : Nat, g 132 p = h 132 p) (z : ∀ p : Nat, p < L → BGn D L p → P m = (p : Int) → ¬ fs_F (fun f => P f = (p : Int)) m = none) : MKf D L P (m + 1) g := fun p hp => by
  rw [e]
  rcases A p hp with ⟨a, b⟩ | ⟨a, b⟩
  · refine .inl ⟨a, b.trans (congrArg mk_V ?_)⟩
    show _ = (match fs_F (fun f => P f = (p : Int)) m with | some p => some p | none => pr_I (P m = (p : Int)) (some m) none)
    cases hs : fs_F (fun f => P f = (p : Int)) m with
    | some x => rfl
    | none => exact (pr_f (fun w => z p hp a w hs)).symm
  · exact .inr ⟨a, b⟩
theorem mkf_yes {P : Nat → Int} (A : MKf D L P m h) {x : Int} (x0 : BGi D L x) (ex : P m = x) (w : h 132 x.toNat = -1) (e : ∀ p : Nat, ¬ p = x.toNat → g 132 p = h 132 p) (e2 : g 132 x.toNat = (m : Int)) : MKf D L P (m + 1) g := fun p hp => by
  have x1 := bgi_lt x0
  by_cases px : p = x.toNat
  · have ep : (p : Int) = x := by omega
    rw [px, e2]
    refine .inl ⟨x0.2, ?_⟩
    have hs : fs_F (fun f => P f = ((x.toNat : Nat) : Int)) m = none := by
      rcases A x.toNat (by omega) with ⟨a, b⟩ | ⟨a, b⟩
      · cases hs : fs_F (fun f => P f = ((x.toNat : Nat) : Int)) m with
        | none => rfl
        | some y =>
          rw [hs, w] at b
          have b : (-1 : Int) = (y : Int) := b
          omega
      · exact absurd x0.2 a
    show _ = mk_V (match fs_F (fun f => P f = ((x.toNat : Nat) : Int)) m with | some p => some p | none => pr_I (P m = ((x.toNat : Nat) : Int)) (some m) none)
    rw [hs]
    show _ = mk_V (pr_I (P m = ((x.toNat : Nat) : Int)) (some m) none)
    rw [pr_t (by omega)]
    rfl
  · rw [e p px]
    rcases A p hp with ⟨a, b⟩ | ⟨a, b⟩
    · refine .inl ⟨a, b.trans (congrArg mk_V ?_)⟩
      show _ = (match fs_F (fun f => P f = (p : Int)) m with | some p => some p | none => pr_I (P m = (p : Int)) (some m) none)
      cases hs : fs_F (fun f => P f = (p : Int)) m with
      | some x => rfl
      | none => exact (pr_f (by omega)).symm
    · exact .inr ⟨a, b⟩
theorem cfx_k {f : Nat} (A : CFx Bf nf cnt k i f h) (e : ∀ x : Nat, 64 * f ≤ x → x < 64 * f + 64 → g 133 x = h 133 x) : CFx Bf nf cnt k i f g := by
  obtain ⟨⟨a1, a2, a3⟩, a4, a5⟩ := A
  refine ⟨⟨?_, ?_, ?_⟩, fun j hj h2 => ?_, fun j hj h2 => ?_⟩
  · rw [e _ (by omega) (by omega)]; exact a1
  · rw [e _ (by omega) (by omega)]; exact a2
  · rw [e _ (by omega) (by omega)]; exact a3
  · rw [e _ (by omega) (by omega)]; exact a4 j hj h2
  · rw [e _ (by omega) (by omega)]; exact a5 j hj h2
/-- TAKE FRAMES -/
theorem vc_tf9 (C : CMe Bf nf k i h0) (T3 : CT3 Bf nf cnt k h0) (e16 : h0 127 16 = (cl_N (Bf k) (nf k) i : Int)) : ∀ (y f : Nat) (h : ms_M), f ≤ fn_S (Bf k) (nf k) i → (∀ c x : Nat, ¬ c = 132 → ¬ c = 133 → h c x = h0 c x) → (∀ x : Nat, x < f → CFx Bf nf cnt k i x h) → MKf (cd_S (Bf k) (nf k) i) (cl_N (Bf k) (nf k) i) (fv_S (Bf k) (nf k) i) f h → Pc (qw_X11_takeFrames_9 nn y 1 (fw_S (Bf k) (nf k) i f : Int) (f : Int) h) (fun u => (∀ c x : Nat, ¬ c = 132 → ¬ c = 133 → u c x = h0 c x) ∧ (∀ x : Nat, x < fn_S (Bf k) (nf k) i → CFx Bf nf cnt k i x u) ∧ MKf (cd_S (Bf k) (nf k) i) (cl_N (Bf k) (nf k) i) (fv_S (Bf k) (nf k) i) (fn_S (Bf k) (nf k) i) u) := by
  have n6 := cme_n6 C
  have gm := cme_m C
  have g9 := gm.2.2.2.2.2.2.1
  have eN : (fn_S (Bf k) (nf k) i : Int) = Bf k (mf_P (Bf k) (nf k) i) := by unfold fn_S; omega
  obtain ⟨l1, l2, l3, l4, l5⟩ := cme_l C
  intro y
  induction y with
  | zero => intro f h _ _ _ _; exact pc_none
  | succ y ih =>
    intro f h hf F W MK
    have Ch : CMe Bf nf k i h := cme_k C (fun x y z1 z2 => F x y (by omega) (by omega))
    unfold qw_X11_takeFrames_9
    refine pc_sv (vc_info Ch (w := 9) (by decide) (cme_d Ch).2.2.2.1) ?_; intro u2 q2
    refine pc_if (fun z => ?_) (fun z => ?_)
    · have ef : f = fn_S (Bf k) (nf k) i := by omega
      refine pc_ret ⟨F, ?_, ?_⟩
      · rw [← ef]; exact W
      · rw [ef] at MK; exact MK
    refine pc_if (fun w => absurd w (by decide)) (fun _ => ?_)
    have ff : f < fn_S (Bf k) (nf k) i := by omega
    have G := gm_fr gm ff
    obtain ⟨G1, G2, G3⟩ := G
    have tl2 := tp_le G2 _ (Nat.le_refl _)
    refine pc_xl ?_; intro v3 e3
    rw [oq_mul_eq (by omega) (by omega) (by omega)] at e3
    rw [Ch.2.2.2.1]
    refine pc_ck (fun _ => pc_ck (fun _ => ?_))
    refine pc_sv (vc_pair Ch (p := fw_S (Bf k) (nf k) i f) (by omega)) ?_; intro u6 q6
    have q6 : u6 = fv_S (Bf k) (nf k) i f := q6
    refine pc_wA ?_; intro _ _ h8 e8
    rw [show v3.toNat = 64 * f by omega] at e8
    have F8 : ∀ c x : Nat, ¬ (c = 133 ∧ x = 64 * f) → h8 c x = h c x := fun c x w => by rw [e8, up_n w]
    refine pc_add (by omega) ?_; intro v10 e10
    have C8 : CMe Bf nf k i h8 := cme_k Ch (fun x y z1 z2 => F8 x y (by omega))
    rw [C8.2.2.2.1]
    refine pc_ck (fun _ => ?_)
    refine pc_add (by omega) ?_; intro v12 e12
    refine pc_ck (fun _ => ?_)
    rw [show v12 = ((fw_S (Bf k) (nf k) i f + 2 : Nat) : Int) by omega]
    refine pc_sv (vc_byte C8 (p := fw_S (Bf k) (nf k) i f + 2) G2.1) ?_; intro u14 q14
    have q14 : u14 = nl_S (Bf k) (nf k) i f := q14
    refine pc_wA ?_; intro _ _ h15 e15
    rw [show v10.toNat = 64 * f + 1 by omega] at e15
    have F15 : ∀ c x : Nat, ¬ (c = 133 ∧ (x = 64 * f ∨ x = 64 * f + 1)) → h15 c x = h c x := fun c x w => by rw [e15, up_n (by omega)]; exact F8 c x (by omega)
    have C15 : CMe Bf nf k i h15 := cme_k Ch (fun x y z1 z2 => F15 x y (by omega))
    have T15 : CT3 Bf nf cnt k h15 := fun a ha => by rw [F15 128 _ (by omega), F 128 _ (by omega) (by omega)]; exact T3 a ha
    refine pc_add (by omega) ?_; intro v16 e16'
    refine pc_add (by omega) ?_; intro v17 e17
    rw [show v16 = ((fw_S (Bf k) (nf k) i f + 2 : Nat) : Int) by omega, show v17 = ((64 * f + 3 : Nat) : Int) by omega]
    refine pc_sv (vc_ttypes C15 T15 G2 (row := 64 * f + 3) (by omega)) ?_; intro u19 ⟨t1, t2, t3⟩
    refine pc_add (by omega) ?_; intro v21 e21
    have C19 : CMe Bf nf k i u19.2 := cme_k C15 (fun x y z1 z2 => t2 x y (by omega))
    rw [C19.2.2.2.1, t1]
    refine pc_ck (fun _ => pc_ck (fun _ => ?_))
    refine pc_sv (vc_byte C19 (p := te_P (Bf k) (fw_S (Bf k) (nf k) i f + 2)) G3.1) ?_; intro u24 q24
    have q24 : u24 = nk_S (Bf k) (nf k) i f := q24
    refine pc_wA ?_; intro _ _ h25 e25
    rw [show v21.toNat = 64 * f + 2 by omega] at e25
    have F25 : ∀ c x : Nat, ¬ (c = 133 ∧ 64 * f ≤ x ∧ x < 64 * f + 64) → h25 c x = h c x := fun c x w => by rw [e25, up_n (by omega), t2 c x (by omega)]; exact F15 c x (by omega)
    have C25 : CMe Bf nf k i h25 := cme_k Ch (fun x y z1 z2 => F25 x y (by omega))
    have T25 : CT3 Bf nf cnt k h25 := fun a ha => by rw [F25 128 _ (by omega), F 128 _ (by omega) (by omega)]; exact T3 a ha
    refine pc_add (by omega) ?_; intro v26 e26
    rw [show v26 = ((64 * f + 33 : Nat) : Int) by omega]
    refine pc_sv (vc_ttypes C25 T25 G3 (row := 64 * f + 33) (by omega)) ?_; intro u28 ⟨s1, s2, s3⟩
    have F28 : ∀ c x : Nat, ¬ (c = 133 ∧ 64 * f ≤ x ∧ x < 64 * f + 64) → u28.2 c x = h c x := fun c x w => by rw [s2 c x (by omega)]; exact F25 c x w
    have K28 : CFx Bf nf cnt k i f u28.2 := by
      refine ⟨⟨?_, ?_, ?_⟩, fun j hj h2 => ?_, fun j hj h2 => ?_⟩
      · rw [s2 133 _ (by omega), e25, up_n (by omega), t2 133 _ (by omega), e15, up_n (by omega), e8, up_s, q6]
      · rw [s2 133 _ (by omega), e25, up_n (by omega), t2 133 _ (by omega), e15, up_s, q14]
      · rw [s2 133 _ (by omega), e25, up_s, q24]
      · have h2 : (j : Int) < Bf k (fw_S (Bf k) (nf k) i f + 2) := h2
        rw [s2 133 _ (by omega), e25, up_n (by omega)]; exact t3 j (by omega) hj
      · have h2 : (j : Int) < Bf k (te_P (Bf k) (fw_S (Bf k) (nf k) i f + 2)) := h2
        exact s3 j (by omega) hj
    have A28 : ∀ x : Nat, x < f + 1 → CFx Bf nf cnt k i x u28.2 := fun x hx => by
      by_cases xf : x = f
      · rw [xf]; exact K28
      · exact cfx_k (W x (by omega)) (fun a w1 w2 => F28 133 a (by omega))
    have G28 : ∀ c x : Nat, ¬ c = 132 → ¬ c = 133 → u28.2 c x = h0 c x := fun c x w1 w2 => by rw [F28 c x (by omega)]; exact F c x w1 w2
    have NX : ∀ (g : ms_M) (v : Int), v = (f : Int) + 1 → (∀ c x : Nat, ¬ c = 132 → g c x = u28.2 c x) → MKf (cd_S (Bf k) (nf k) i) (cl_N (Bf k) (nf k) i) (fv_S (Bf k) (nf k) i) (f + 1) g → Pc (qw_X11_takeFrames_9 nn y 1 u28.1 v g) (fun u => (∀ c x : Nat, ¬ c = 132 → ¬ c = 133 → u c x = h0 c x) ∧ (∀ x : Nat, x < fn_S (Bf k) (nf k) i → CFx Bf nf cnt k i x u) ∧ MKf (cd_S (Bf k) (nf k) i) (cl_N (Bf k) (nf k) i) (fv_S (Bf k) (nf k) i) (fn_S (Bf k) (nf k) i) u) := fun g v ev Fg Mg => by
      have ew : u28.1 = (fw_S (Bf k) (nf k) i (f + 1) : Int) := s1
      rw [ew, ev, show (f : Int) + 1 = ((f + 1 : Nat) : Int) by omega]
      refine ih (f + 1) g (by omega) (fun c x w1 w2 => by rw [Fg c x w1]; exact G28 c x w1 w2) (fun x hx => cfx_k (A28 x hx) (fun a _ _ => Fg 133 a (by omega))) Mg
    have e28 : u28.2 127 16 = (cl_N (Bf k) (nf k) i : Int) := by rw [G28 127 16 (by omega) (by omega)]; exact e16
    have M28 : MKf (cd_S (Bf k) (nf k) i) (cl_N (Bf k) (nf k) i) (fv_S (Bf k) (nf k) i) f u28.2 := fun p hp => by rw [F28 132 p (by omega)]; exact MK p hp
    refine pc_sv (vc_begins e28 (mkf_b M28) (x := u6)) ?_; intro u30 q30
    refine pc_if (fun z1 => pc_add (by omega) (fun v ev => NX u28.2 v ev (fun _ _ _ => rfl) (mkf_no M28 (fun _ => rfl) (fun p hp bp ep => ?_)))) (fun z1 => ?_)
    · exfalso
      rcases q30 with q | q
      · omega
      · exact q.2 ⟨by omega, by rw [show u6.toNat = p by omega]; exact bp⟩
    have bg : BGi (cd_S (Bf k) (nf k) i) (cl_N (Bf k) (nf k) i) u6 := by
      rcases q30 with q | q
      · exact q.2
      · exact absurd q.1 z1
    have bl := bgi_lt bg
    refine pc_rA ?_; intro _ _ v33 e33
    refine pc_if (fun z2 => pc_add (by omega) (fun v ev => NX u28.2 v ev (fun _ _ _ => rfl) (mkf_no M28 (fun _ => rfl) (fun p hp bp ep hs => ?_)))) (fun z2 => ?_)
    · rcases M28 p hp with ⟨a, b⟩ | ⟨a, b⟩
      · rw [hs] at b
        have b : u28.2 132 p = -1 := b
        rw [show u6.toNat = p by omega] at e33
        omega
      · exact a bp
    refine pc_wA ?_; intro _ _ h36 e36
    refine pc_add (by omega) ?_; intro v37 e37
    refine NX h36 v37 e37 (fun c x w => by rw [e36, up_n (by omega)]) (mkf_yes M28 bg q6.symm (by omega) (fun p w => by rw [e36, up_n (by omega)]) (by rw [e36, up_s]))
theorem mkf_0 {P : Nat → Int} (A : ∀ p : Nat, p < L → (h 132 p = -1 ∧ BGn D L p) ∨ (h 132 p = -2 ∧ ¬ BGn D L p)) : MKf D L P 0 h := fun p hp => by
  rcases A p hp with ⟨a, b⟩ | ⟨a, b⟩
  · exact .inl ⟨b, a⟩
  · exact .inr ⟨b, a⟩
theorem vc_tframes (C : CMe Bf nf k i h) (T3 : CT3 Bf nf cnt k h) (e16 : h 127 16 = (cl_N (Bf k) (nf k) i : Int)) (MK : MKf (cd_S (Bf k) (nf k) i) (cl_N (Bf k) (nf k) i) (fv_S (Bf k) (nf k) i) 0 h) : Pc (qf_X11_takeFrames nn 1 h) (fun u => (∀ c x : Nat, ¬ c = 132 → ¬ c = 133 → u c x = h c x) ∧ (∀ x : Nat, x < fn_S (Bf k) (nf k) i → CFx Bf nf cnt k i x u) ∧ MKf (cd_S (Bf k) (nf k) i) (cl_N (Bf k) (nf k) i) (fv_S (Bf k) (nf k) i) (fn_S (Bf k) (nf k) i) u) := by
  unfold qf_X11_takeFrames
  refine pc_sv (vc_info C (w := 10) (by decide) (cme_d C).2.2.2.2) ?_; intro u43 q43
  rw [show u43 = (fw_S (Bf k) (nf k) i 0 : Int) by rw [q43]; rfl]
  exact vc_tf9 C T3 e16 nn 0 h (Nat.zero_le _) (fun _ _ _ _ => rfl) (fun x hx => absurd hx (by omega)) MK
theorem vc_tframes0 (C : CMe Bf nf k i h) : Pc (qf_X11_takeFrames nn 0 h) (fun u => u = h) := by
  unfold qf_X11_takeFrames
  refine pc_sv (vc_info C (w := 10) (by decide) (cme_d C).2.2.2.2) ?_; intro u43 q43
  cases nn with
  | zero => exact pc_none
  | succ y =>
    unfold qw_X11_takeFrames_9
    refine pc_se ?_; intro u2 _
    refine pc_if (fun _ => pc_ret rfl) (fun _ => ?_)
    exact pc_if (fun _ => pc_ret rfl) (fun w => absurd rfl w)
end
