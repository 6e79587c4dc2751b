/- VERIFY: frames, the reference's side; handlers, both sides -/
section
variable {nn : Nat} {Bf : Nat → Nat → Int} {nf : Nat → Nat} {cnt : Int} {B C D : Nat → Int} {n m b d k o i L p q : Nat} {M h g r h0 : ms_M} {t c : Int}
theorem vr_te17 (R : RMe Bf nf cnt k i h) (TL : TLg (Bf k) (nf k) p) : ∀ (f j : Nat), j ≤ (Bf k p).toNat → Pc (qw_X13_typesEnd_17 nn f (Bf k p) (tp_S (Bf k) p j : Int) (j : Int) h) (fun u => u = (te_P (Bf k) p : Int)) := by
  have n6 := rme_n6 R
  have b0 := rme_b R TL.1
  intro f
  induction f with
  | zero => intro j _; exact pc_none
  | succ f ih =>
    intro j hj
    unfold qw_X13_typesEnd_17
    refine pc_if (fun z => pc_ret ?_) (fun z => ?_)
    · have ej : j = (Bf k p).toNat := by omega
      rw [ej]; rfl
    have T := TL.2.1 j (by omega)
    have tn := tpg_n T
    have st : tp_S (Bf k) p (j + 1) = tp_S (Bf k) p j + (if Bf k (tp_S (Bf k) p j) = 3 then 2 else 1) := rfl
    refine pc_sv (vr_byte R T.1) ?_; intro u5 q5
    rw [q5]
    unfold qj_X13_typesEnd_42
    refine pc_if (fun y => ?_) (fun y => ?_)
    · rw [if_neg y] at st
      refine pc_add (by omega) ?_; intro v1 e1
      refine pc_add (by omega) ?_; intro v2 e2
      rw [show v1 = (tp_S (Bf k) p (j + 1) : Int) by omega, show v2 = ((j + 1 : Nat) : Int) by omega]
      exact ih (j + 1) (by omega)
    · rw [if_pos (by omega)] at st
      refine pc_add (by omega) ?_; intro v1 e1
      refine pc_add (by omega) ?_; intro v2 e2
      rw [show v1 = (tp_S (Bf k) p (j + 1) : Int) by omega, show v2 = ((j + 1 : Nat) : Int) by omega]
      exact ih (j + 1) (by omega)
theorem vr_tend (R : RMe Bf nf cnt k i h) (TL : TLg (Bf k) (nf k) p) : Pc (qf_X13_typesEnd nn (p : Int) h) (fun u => u = (te_P (Bf k) p : Int)) := by
  have n6 := rme_n6 R
  have := TL.1
  unfold qf_X13_typesEnd
  refine pc_sv (vr_byte R TL.1) ?_; intro u10 q10
  refine pc_add (by omega) ?_; intro v11 e11
  rw [q10, show v11 = (tp_S (Bf k) p 0 : Int) by rw [e11]; rfl]
  exact vr_te17 R TL nn 0 (Nat.zero_le _)
theorem rme_f (R : RMe Bf nf cnt k i h) : (fn_S (Bf k) (nf k) i : Int) = Bf k (mf_P (Bf k) (nf k) i) ∧ fn_S (Bf k) (nf k) i ≤ 100 ∧ mf_P (Bf k) (nf k) i < nf k ∧ (hn_S (Bf k) (nf k) i : Int) = Bf k (mh_P (Bf k) (nf k) i) ∧ hn_S (Bf k) (nf k) i ≤ 20 := by
  have gm := rme_m R
  have g5 := gm.2.2.2.2.1
  have g6 := gm.2.2.2.2.2.1.2
  have g9 := gm.2.2.2.2.2.2.1
  unfold fn_S hn_S
  exact ⟨by omega, by omega, g6, by omega, by omega⟩
theorem vr_many (R : RMe Bf nf cnt k i h) : Pc (qf_X13_frameMany nn h) (fun u => u = (fn_S (Bf k) (nf k) i : Int)) := by
  have n6 := rme_n6 R
  have i12 := rme_i R
  obtain ⟨f1, f2, f3, -⟩ := rme_f R
  unfold qf_X13_frameMany
  rw [R.2.2.1.1, R.2.2.1.2.1]
  refine pc_xl ?_; intro v4 e4
  rw [oq_mul_eq (by omega) (by omega) (by omega)] at e4
  refine pc_add (by omega) ?_; intro v6 e6
  refine pc_rA ?_; intro _ _ v7 e7
  rw [show v6 = 12 * (k : Int) + i by omega, (rme_t R).2.2] at e7
  rw [e7]
  refine pc_sv (vq_rbyte R.1.2.1 (rme_hk R) f3) ?_; intro u9 q9
  exact pc_ret (q9.trans f1.symm)
theorem vr_next (R : RMe Bf nf cnt k i h) {f : Nat} (hf : f < fn_S (Bf k) (nf k) i) {v : Int} (ev : v = (fw_S (Bf k) (nf k) i f : Int) + 2) {α : Type} {Q : α → Prop} {G : Int → Option α} (HG : Pc (G (fw_S (Bf k) (nf k) i (f + 1) : Int)) Q) : Pc (mx_sv (qf_X13_typesEnd nn v h) fun u => mx_sv (qf_X13_typesEnd nn u h) G) Q := by
  obtain ⟨G1, G2, G3⟩ := gm_fr (rme_m R) hf
  rw [show v = ((fw_S (Bf k) (nf k) i f + 2 : Nat) : Int) by omega]
  refine pc_sv (vr_tend R G2) ?_; intro u1 q1
  rw [q1]
  refine pc_sv (vr_tend R G3) ?_; intro u2 q2
  rw [show u2 = (fw_S (Bf k) (nf k) i (f + 1) : Int) by rw [q2]; rfl]
  exact HG
theorem vr_fa22 (R : RMe Bf nf cnt k i h) {x : Nat} (hx : x < fn_S (Bf k) (nf k) i) : ∀ (y f : Nat), f ≤ x → Pc (qw_X13_frameAt_22 nn y (x : Int) (fw_S (Bf k) (nf k) i f : Int) (f : Int) h) (fun u => u = (fw_S (Bf k) (nf k) i x : Int)) := by
  have n6 := rme_n6 R
  intro y
  induction y with
  | zero => intro f _; exact pc_none
  | succ y ih =>
    intro f hf
    unfold qw_X13_frameAt_22
    refine pc_if (fun z => pc_ret ?_) (fun z => ?_)
    · rw [show f = x by omega]
    have G1 := (gm_fr (rme_m R) (f := f) (by omega)).1
    have f2 := (rme_f R).2.1
    refine pc_add (by omega) ?_; intro v1 e1
    refine vr_next R (f := f) (by omega) e1 ?_
    refine pc_add (by omega) ?_; intro v6 e6
    rw [show v6 = ((f + 1 : Nat) : Int) by omega]
    exact ih (f + 1) (by omega)
theorem vr_frameAt (R : RMe Bf nf cnt k i h) {x : Nat} (hx : x < fn_S (Bf k) (nf k) i) : Pc (qf_X13_frameAt nn (x : Int) h) (fun u => u = (fw_S (Bf k) (nf k) i x : Int)) := by
  have n6 := rme_n6 R
  have i12 := rme_i R
  obtain ⟨f1, f2, f3, -⟩ := rme_f R
  unfold qf_X13_frameAt
  rw [R.2.2.1.1, R.2.2.1.2.1]
  refine pc_xl ?_; intro v10 e10
  rw [oq_mul_eq (by omega) (by omega) (by omega)] at e10
  refine pc_add (by omega) ?_; intro v12 e12
  refine pc_rA ?_; intro _ _ v13 e13
  rw [show v12 = 12 * (k : Int) + i by omega, (rme_t R).2.2] at e13
  refine pc_add (by omega) ?_; intro v14 e14
  rw [show v14 = (fw_S (Bf k) (nf k) i 0 : Int) by rw [e14, e13]; rfl]
  exact vr_fa22 R hx nn 0 (Nat.zero_le _)
theorem vr_ff22 (R : RMe Bf nf cnt k i h) {x : Int} : ∀ (y f : Nat), f ≤ fn_S (Bf k) (nf k) i → (∀ z : Nat, z < f → ¬ fv_S (Bf k) (nf k) i z = x) → Pc (qw_X13_frameFor_22 nn y x (fw_S (Bf k) (nf k) i f : Int) (f : Int) h) (fun u => (∃ f : Nat, fo_F (Bf k) (nf k) i x = some f ∧ u = (fw_S (Bf k) (nf k) i f : Int)) ∨ (fo_F (Bf k) (nf k) i x = none ∧ u = -1)) := by
  have n6 := rme_n6 R
  intro y
  induction y with
  | zero => intro f _ _; exact pc_none
  | succ y ih =>
    intro f hf A
    unfold qw_X13_frameFor_22
    refine pc_sv (vr_many R) ?_; intro u2 q2
    refine pc_if (fun z => pc_ret (.inr ⟨fs_z (fun z hz => A z (by omega)), rfl⟩)) (fun z => ?_)
    have f2 := (rme_f R).2.1
    have G1 := (gm_fr (rme_m R) (f := f) (by omega)).1
    refine pc_sv (vr_pair R (p := fw_S (Bf k) (nf k) i f) (by omega)) ?_; intro u4 q4
    have q4 : u4 = fv_S (Bf k) (nf k) i f := q4
    refine pc_if (fun w => ?_) (fun w => pc_ret (.inl ⟨f, fs_s (by omega) (by omega) A, rfl⟩))
    refine pc_add (by omega) ?_; intro v5 e5
    refine vr_next R (f := f) (by omega) e5 ?_
    refine pc_add (by omega) ?_; intro v10 e10
    rw [show v10 = ((f + 1 : Nat) : Int) by omega]
    refine ih (f + 1) (by omega) (fun z hz => ?_)
    by_cases e : z = f
    · rw [e]; omega
    · exact A z (by omega)
theorem vr_for (R : RMe Bf nf cnt k i h) {x : Int} : Pc (qf_X13_frameFor nn x h) (fun u => (∃ f : Nat, fo_F (Bf k) (nf k) i x = some f ∧ u = (fw_S (Bf k) (nf k) i f : Int)) ∨ (fo_F (Bf k) (nf k) i x = none ∧ u = -1)) := by
  have n6 := rme_n6 R
  have i12 := rme_i R
  obtain ⟨f1, f2, f3, -⟩ := rme_f R
  unfold qf_X13_frameFor
  rw [R.2.2.1.1, R.2.2.1.2.1]
  refine pc_xl ?_; intro v15 e15
  rw [oq_mul_eq (by omega) (by omega) (by omega)] at e15
  refine pc_add (by omega) ?_; intro v17 e17
  refine pc_rA ?_; intro _ _ v18 e18
  rw [show v17 = 12 * (k : Int) + i by omega, (rme_t R).2.2] at e18
  refine pc_add (by omega) ?_; intro v19 e19
  rw [show v19 = (fw_S (Bf k) (nf k) i 0 : Int) by rw [e19, e18]; rfl]
  exact vr_ff22 R nn 0 (Nat.zero_le _) (fun z hz => absurd hz (by omega))
theorem vr_cls (R : RMe Bf nf cnt k i h) {a : Int} (t3 : tg_S (Bf k) (nf k) a = 3) : Pc (qf_X13_typeOfClass nn (h 160 132) a h) (fun u => OTH h u.2 ∧ TYo (cq_F Bf nf cnt (Bf k) (nf k) a) u.1) := by
  have N := R.1.1
  have e := R.1.2.2.1
  rw [R.2.2.1.1]
  rw [← e] at N ⊢
  exact vr_class N R.1.2.1 R.1.2.2.2 (rme_hk R) t3
theorem vr_framed (R : RMe Bf nf cnt k i h) (T : TPg (Bf k) (nf k) p) : Pc (qf_X13_framed nn (p : Int) h) (fun u => OTH h u.2 ∧ TYo (tt_F Bf nf cnt k p) u.1) := by
  have n6 := rme_n6 R
  obtain ⟨t1, t2, t3⟩ := T
  unfold qf_X13_framed
  refine pc_sv (vr_byte R t1) ?_; intro u3 q3
  refine pc_if (fun z => ?_) (fun z => ?_)
  · have c3 : Bf k p = 3 := by omega
    obtain ⟨s1, s2⟩ := t3 c3
    refine pc_add (by omega) ?_; intro v6 e6
    rw [show v6 = ((p + 1 : Nat) : Int) by omega]
    refine pc_sv (vr_byte R s1) ?_; intro u8 q8
    rw [q8]
    refine pc_sv (vr_cls R s2) ?_; intro u10 ⟨O, q10⟩
    refine pc_ret ⟨O, ?_⟩
    unfold tt_F
    rw [if_neg (by omega), if_neg (by omega), if_neg (by omega)]
    exact q10
  · refine pc_sv (vr_byte R t1) ?_; intro u13 q13
    refine pc_ret ⟨oth_r, ?_⟩
    show TYo _ u13
    unfold tt_F
    by_cases a : Bf k p = 0
    · rw [if_pos a]; exact .inl (.inl ⟨rfl, by omega⟩)
    · rw [if_neg a]
      by_cases b : Bf k p = 1
      · rw [if_pos b]; exact .inl (.inr (.inl ⟨rfl, by omega⟩))
      · rw [if_neg b, if_pos (by omega)]; exact .inl (.inr (.inr (.inl ⟨rfl, by omega⟩)))
/-- HANDLERS, the class -/
theorem cme_f (C : CMe Bf nf k i h) : (fn_S (Bf k) (nf k) i : Int) = Bf k (mf_P (Bf k) (nf k) i) ∧ fn_S (Bf k) (nf k) i ≤ 100 ∧ mf_P (Bf k) (nf k) i < nf k ∧ (hn_S (Bf k) (nf k) i : Int) = Bf k (mh_P (Bf k) (nf k) i) ∧ hn_S (Bf k) (nf k) i ≤ 20 := by
  have gm := cme_m C
  have g5 := gm.2.2.2.2.1
  have g6 := gm.2.2.2.2.2.1.2
  have g9 := gm.2.2.2.2.2.2.1
  unfold fn_S hn_S
  exact ⟨by omega, by omega, g6, by omega, by omega⟩
theorem vc_handler (C : CMe Bf nf k i h) {j x : Nat} (hj : j < hn_S (Bf k) (nf k) i) (hx : x ≤ 4) : Pc (qf_X11_handler nn (j : Int) (x : Int) h) (fun u => u = ln_N (Bf k) (hq_S (Bf k) (nf k) i j + x)) := by
  have n6 := cme_n6 C
  have hg := (gm_hd (cme_m C) hj).1
  have h20 := (cme_f C).2.2.2.2
  unfold hq_S at hg ⊢
  unfold qf_X11_handler
  refine pc_ck (fun _ => ?_)
  refine pc_sv (vc_info C (w := 8) (by decide) (cme_d C).2.2.1.2) ?_; intro u3 q3
  refine pc_xl ?_; intro v4 e4
  rw [oq_mul_eq (by omega) (by omega) (by omega)] at e4
  refine pc_add (by omega) ?_; intro v5 e5
  refine pc_add (by omega) ?_; intro v6 e6
  rw [C.2.2.2.1]
  refine pc_ck (fun _ => ?_)
  rw [show v6 = ((mh_P (Bf k) (nf k) i + 1 + 7 * j + x : Nat) : Int) by omega]
  refine pc_sv (vc_pair C (by omega)) ?_; intro u8 q8
  exact pc_ret q8
theorem vc_hclass (C : CMe Bf nf k i h) (T3 : CT3 Bf nf cnt k h) {j : Nat} (hj : j < hn_S (Bf k) (nf k) i) : Pc (qf_X11_handlerClass nn (j : Int) h) (fun u => u = cq_F Bf nf cnt (Bf k) (nf k) (Bf k (hq_S (Bf k) (nf k) i j + 6))) := by
  have n6 := cme_n6 C
  obtain ⟨hg, ht⟩ := gm_hd (cme_m C) hj
  have h20 := (cme_f C).2.2.2.2
  have T := T3 _ ht
  unfold hq_S at hg T ⊢
  unfold qf_X11_handlerClass
  refine pc_ck (fun _ => ?_)
  refine pc_sv (vc_info C (w := 8) (by decide) (cme_d C).2.2.1.2) ?_; intro u4 q4
  refine pc_xl ?_; intro v5 e5
  rw [oq_mul_eq (by omega) (by omega) (by omega)] at e5
  refine pc_add (by omega) ?_; intro v6 e6
  refine pc_add (by omega) ?_; intro v7 e7
  rw [C.2.2.2.1]
  refine pc_ck (fun _ => ?_)
  rw [show v7 = ((mh_P (Bf k) (nf k) i + 1 + 7 * j + 6 : Nat) : Int) by omega]
  refine pc_sv (vc_byte C (by omega)) ?_; intro u9 q9
  refine pc_rA ?_; intro _ _ v10 e10
  refine pc_ret ?_
  rw [e10, q9]; exact T
theorem vc_frameAt (e16 : h 127 16 = (L : Int)) (MK : MKf D L (fv_S B n i) (fn_S B n i) h) {x : Int} : Pc (qf_X11_frameAt nn x h) (fun u => (BGi D L x ∧ u = mk_V (fo_F B n i x)) ∨ (¬ BGi D L x ∧ u = -1)) := by
  unfold qf_X11_frameAt
  refine pc_sv (vc_begins e16 (mkf_b MK)) ?_; intro u2 q2
  refine pc_if (fun z => pc_ret (.inr ⟨?_, rfl⟩)) (fun z => ?_)
  · rcases q2 with q | q
    · omega
    · exact q.2
  have bg : BGi D L x := by
    rcases q2 with q | q
    · exact q.2
    · exact absurd q.1 z
  have bl := bgi_lt bg
  refine pc_rA ?_; intro _ _ v4 e4
  refine pc_ret (.inl ⟨bg, ?_⟩)
  rcases MK x.toNat (by omega) with ⟨a, b⟩ | ⟨a, b⟩
  · rw [e4, b, show ((x.toNat : Nat) : Int) = x by omega]; rfl
  · exact absurd bg.2 a
theorem mkv_o {o : Option Nat} (z : 0 ≤ mk_V o) : ∃ f : Nat, o = some f ∧ mk_V o = (f : Int) := by
  cases o with
  | none =>
    have z : (0 : Int) ≤ -1 := z
    omega
  | some x => exact ⟨x, rfl, rfl⟩
theorem ck_zk (C : CMe Bf nf k i h) : ∃ x : Nat, kk_S (Bf k) (nf k) = .inr x ∧ 0 ≤ Bf k 2 := by
  obtain ⟨x, a, b, _⟩ := kz_zk C.1.1 C.2.2.1
  exact ⟨x, a, b⟩
theorem vc_h2 (C : CMe Bf nf k i h) (ec : h 56 3 = cnt) (T3 : CT3 Bf nf cnt k h) (e16 : h 127 16 = (cl_N (Bf k) (nf k) i : Int)) (MK : MKf (cd_S (Bf k) (nf k) i) (cl_N (Bf k) (nf k) i) (fv_S (Bf k) (nf k) i) (fn_S (Bf k) (nf k) i) h) : ∀ (f j : Nat), j ≤ hn_S (Bf k) (nf k) i → (∀ x : Nat, x < j → ¬ HBd Bf nf cnt k i x) → Pc (qw_X11_proveHandlers_2 nn f (j : Int) h) (fun u => (∀ x y : Nat, ¬ (x = 127 ∧ y = 7) → u.2 x y = h x y) ∧ FNx (HBd Bf nf cnt k i) (hn_S (Bf k) (nf k) i) 8 u.1 (u.2 127 7)) := by
  have n6 := cme_n6 C
  obtain ⟨-, -, -, f4, f5⟩ := cme_f C
  obtain ⟨zx, zk, z2⟩ := ck_zk C
  have g3 := C.1.1.1
  rw [ec] at g3
  intro f
  induction f with
  | zero => intro j _ _; exact pc_none
  | succ f ih =>
    intro j hj A
    unfold qw_X11_proveHandlers_2
    refine pc_sv (vc_info C (w := 7) (by decide) (cme_d C).2.2.1.1) ?_; intro u16 q16
    refine pc_if (fun z => pc_ret ⟨fun _ _ _ => rfl, .inl ⟨rfl, fs_z (fun x hx => A x (by omega))⟩⟩) (fun z => ?_)
    have jj : j < hn_S (Bf k) (nf k) i := by omega
    have h0 := vc_handler (nn := nn) C (j := j) (x := 0) jj (by omega)
    have h2 := vc_handler (nn := nn) C (j := j) (x := 2) jj (by omega)
    have h4 := vc_handler (nn := nn) C (j := j) (x := 4) jj (by omega)
    obtain ⟨hg, ht⟩ := gm_hd (cme_m C) jj
    have ci := cq_is (Bf := Bf) (nf := nf) g3 zk z2 ht
    have HD : HBd Bf nf cnt k i j = ¬ ((BGi (cd_S (Bf k) (nf k) i) (cl_N (Bf k) (nf k) i) (ln_N (Bf k) (hq_S (Bf k) (nf k) i j)) ∧ (BGi (cd_S (Bf k) (nf k) i) (cl_N (Bf k) (nf k) i) (ln_N (Bf k) (hq_S (Bf k) (nf k) i j + 2)) ∨ ln_N (Bf k) (hq_S (Bf k) (nf k) i j + 2) = (cl_N (Bf k) (nf k) i : Int)) ∧ ln_N (Bf k) (hq_S (Bf k) (nf k) i j) < ln_N (Bf k) (hq_S (Bf k) (nf k) i j + 2)) ∧ BGi (cd_S (Bf k) (nf k) i) (cl_N (Bf k) (nf k) i) (ln_N (Bf k) (hq_S (Bf k) (nf k) i j + 4)) ∧ (∃ f : Nat, fo_F (Bf k) (nf k) i (ln_N (Bf k) (hq_S (Bf k) (nf k) i j + 4)) = some f) ∧ KFt Bf nf cnt (cq_F Bf nf cnt (Bf k) (nf k) (Bf k (hq_S (Bf k) (nf k) i j + 6))) 1) := rfl
    rw [Nat.add_zero] at h0
    generalize ln_N (Bf k) (hq_S (Bf k) (nf k) i j) = fr at *
    generalize ln_N (Bf k) (hq_S (Bf k) (nf k) i j + 2) = to at *
    generalize ln_N (Bf k) (hq_S (Bf k) (nf k) i j + 4) = am at *
    have BD : HBd Bf nf cnt k i j → Pc (qj_X11_proveHandlers_100 nn (j : Int) h) (fun u => (∀ x y : Nat, ¬ (x = 127 ∧ y = 7) → u.2 x y = h x y) ∧ FNx (HBd Bf nf cnt k i) (hn_S (Bf k) (nf k) i) 8 u.1 (u.2 127 7)) := fun w => by
      unfold qj_X11_proveHandlers_100
      refine pc_sv vc_at ?_; intro u2 ⟨r1, r2⟩
      refine pc_ret ⟨fun x y v => ?_, .inr ⟨j, r1, fs_s jj w A, ?_⟩⟩
      · show u2.2 x y = h x y
        rw [r2, up_n v]
      · show u2.2 127 7 = _
        rw [r2, up_s]
    have B67 : HBd Bf nf cnt k i j → Pc (qj_X11_proveHandlers_67 nn (qw_X11_proveHandlers_2 nn f) (j : Int) am h) (fun u => (∀ x y : Nat, ¬ (x = 127 ∧ y = 7) → u.2 x y = h x y) ∧ FNx (HBd Bf nf cnt k i) (hn_S (Bf k) (nf k) i) 8 u.1 (u.2 127 7)) := fun w => by
      unfold qj_X11_proveHandlers_67 qj_X11_proveHandlers_68
      exact pc_if (fun _ => BD w) (fun v => absurd rfl v)
    have B58 : BGi (cd_S (Bf k) (nf k) i) (cl_N (Bf k) (nf k) i) fr → (BGi (cd_S (Bf k) (nf k) i) (cl_N (Bf k) (nf k) i) to ∨ to = (cl_N (Bf k) (nf k) i : Int)) → Pc (qj_X11_proveHandlers_58 nn (qw_X11_proveHandlers_2 nn f) (j : Int) fr to am h) (fun u => (∀ x y : Nat, ¬ (x = 127 ∧ y = 7) → u.2 x y = h x y) ∧ FNx (HBd Bf nf cnt k i) (hn_S (Bf k) (nf k) i) 8 u.1 (u.2 127 7)) := fun w1 w2 => by
      unfold qj_X11_proveHandlers_58
      refine pc_if (fun v => B67 (by rw [HD]; exact fun y => absurd y.1.2.2 (by omega))) (fun v => ?_)
      unfold qj_X11_proveHandlers_68
      refine pc_if (fun v => absurd v (by decide)) (fun _ => ?_)
      refine pc_sv (vc_frameAt e16 MK (x := am)) ?_; intro u4 q4
      refine pc_if (fun v => BD (by
        rw [HD]
        intro ⟨_, y2, ⟨x, y3⟩, _⟩
        rcases q4 with ⟨_, q⟩ | ⟨q, _⟩
        · rw [y3] at q
          have q : u4 = (x : Int) := q
          omega
        · exact q y2)) (fun v4 => ?_)
      have q5 : BGi (cd_S (Bf k) (nf k) i) (cl_N (Bf k) (nf k) i) am ∧ ∃ x : Nat, fo_F (Bf k) (nf k) i am = some x := by
        rcases q4 with ⟨q, e⟩ | ⟨_, e⟩
        · refine ⟨q, ?_⟩
          obtain ⟨x, x1, _⟩ := mkv_o (o := fo_F (Bf k) (nf k) i am) (by omega)
          exact ⟨x, x1⟩
        · omega
      refine pc_sv (vc_hclass C T3 jj) ?_; intro u7 q7
      rw [q7]
      have kf := vc_kfits (nn := nn) C.1 (x := cq_F Bf nf cnt (Bf k) (nf k) (Bf k (hq_S (Bf k) (nf k) i j + 6))) (y := 1) (by
        rw [ec]
        rcases ci with c | c
        · rw [c]; exact ti_m1
        · exact vt_is g3.2 c.1)
      rw [ec] at kf
      refine pc_sv kf ?_; intro u9 q9
      refine pc_if (fun v9 => ?_) (fun v9 => BD (by
        rw [HD]
        intro ⟨_, _, _, y4⟩
        rcases q9 with q | q
        · omega
        · exact q.2 y4))
      refine pc_add (by omega) ?_; intro v10 e10
      rw [show v10 = ((j + 1 : Nat) : Int) by omega]
      refine ih (j + 1) (by omega) (fun x hx => ?_)
      by_cases e : x = j
      · rw [e, HD]
        intro y
        refine y ⟨⟨w1, w2, by omega⟩, q5.1, q5.2, ?_⟩
        rcases q9 with q | q
        · exact q.2
        · exact absurd q.1 v9
      · exact A x (by omega)
    refine pc_sv h0 ?_; intro u18 q18
    refine pc_sv h2 ?_; intro u20 q20
    refine pc_sv h4 ?_; intro u22 q22
    rw [q18, q20, q22]
    refine pc_sv (vc_begins e16 (mkf_b MK) (x := fr)) ?_; intro u24 q24
    refine pc_if (fun v => B67 (by
      rw [HD]
      intro y
      rcases q24 with q | q
      · omega
      · exact q.2 y.1.1)) (fun v => ?_)
    have w1 : BGi (cd_S (Bf k) (nf k) i) (cl_N (Bf k) (nf k) i) fr := by
      rcases q24 with q | q
      · exact q.2
      · exact absurd q.1 v
    refine pc_sv (vc_begins e16 (mkf_b MK) (x := to)) ?_; intro u26 q26
    refine pc_if (fun v2 => B58 w1 (.inl (by
      rcases q26 with q | q
      · exact q.2
      · exact absurd q.1 v2))) (fun v2 => ?_)
    rw [e16]
    refine pc_if (fun v3 => B67 (by
      rw [HD]
      intro y
      rcases y.1.2.1 with y | y
      · rcases q26 with q | q
        · omega
        · exact q.2 y
      · exact v3 y)) (fun v3 => B58 w1 (.inr (by omega)))
theorem vc_handlers (C : CMe Bf nf k i h) (ec : h 56 3 = cnt) (T3 : CT3 Bf nf cnt k h) (e16 : h 127 16 = (cl_N (Bf k) (nf k) i : Int)) (MK : MKf (cd_S (Bf k) (nf k) i) (cl_N (Bf k) (nf k) i) (fv_S (Bf k) (nf k) i) (fn_S (Bf k) (nf k) i) h) : Pc (qf_X11_proveHandlers nn h) (fun u => (∀ x y : Nat, ¬ (x = 127 ∧ y = 7) → u.2 x y = h x y) ∧ FNx (HBd Bf nf cnt k i) (hn_S (Bf k) (nf k) i) 8 u.1 (u.2 127 7)) := by
  unfold qf_X11_proveHandlers
  exact vc_h2 C ec T3 e16 MK nn 0 (Nat.zero_le _) (fun x hx => absurd hx (by omega))
end
