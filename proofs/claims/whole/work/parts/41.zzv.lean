/- RUN: what is thrown comes up, on both sides -/
/-- handler y of method i of image k takes an object of sort s thrown at P -/
def MTh (Bf : Nat → Nat → Int) (nf : Nat → Nat) (cnt : Int) (k i : Nat) (s P : Int) (y : Nat) : Prop := ln_N (Bf k) (hq_S (Bf k) (nf k) i y) ≤ P ∧ P < ln_N (Bf k) (hq_S (Bf k) (nf k) i y + 2) ∧ ONe Bf nf cnt s (cq_F Bf nf cnt (Bf k) (nf k) (Bf k (hq_S (Bf k) (nf k) i y + 6)))
section
variable {nn : Nat} {Bf : Nat → Nat → Int} {nf : Nat → Nat} {cnt : Int} {k i t H d : Nat} {A B g r u z h A1 : ms_M} {o v wd c x a s P : Int}
theorem mr_hd (e : mr_F Bf nf cnt k i = none) : ∀ y : Nat, y < hn_S (Bf k) (nf k) i → ¬ HBd Bf nf cnt k i y := by
  unfold mr_F at e
  cases h1 : fs_F (INo (cd_S (Bf k) (nf k) i) (cl_N (Bf k) (nf k) i)) (cl_N (Bf k) (nf k) i) with
  | some p => rw [h1] at e; exact nomatch e
  | none =>
    rw [h1] at e
    dsimp only at e
    cases h2 : fs_F (JBm (cd_S (Bf k) (nf k) i) (cl_N (Bf k) (nf k) i)) (cl_N (Bf k) (nf k) i) with
    | some p => rw [h2] at e; exact nomatch e
    | none =>
      rw [h2] at e
      dsimp only at e
      cases h3 : fs_F (HBd Bf nf cnt k i) (hn_S (Bf k) (nf k) i) with
      | some p => rw [h3] at e; exact nomatch e
      | none => exact fs_e h3
/-- a good handler -/
theorem hd_ok (g3 : 0 ≤ cnt ∧ cnt ≤ 8) (G : GMt (Bf k) (nf k) i) {zx : Nat} (zk : kk_S (Bf k) (nf k) = .inr zx) (z2 : 0 ≤ Bf k 2) {y : Nat} (hy : y < hn_S (Bf k) (nf k) i) (HB : ¬ HBd Bf nf cnt k i y) : (0 ≤ ln_N (Bf k) (hq_S (Bf k) (nf k) i y + 4) ∧ ln_N (Bf k) (hq_S (Bf k) (nf k) i y + 4) ≤ 1500) ∧ ISc cnt (cq_F Bf nf cnt (Bf k) (nf k) (Bf k (hq_S (Bf k) (nf k) i y + 6))) ∧ ¬ Bf k (na_S (Bf k) (nf k) (pt_S (Bf k) (nf k) (Bf k (hq_S (Bf k) (nf k) i y + 6)) 0)) = 91 := by
  have ht := (gm_hd G hy).2
  obtain ⟨_, _, _, ⟨l1, l2, l3⟩, _⟩ := G
  have HB := Classical.byContradiction fun w => HB w
  obtain ⟨_, ⟨b0, tt, b1, b2, b3⟩, _, kf⟩ := HB
  have cl : cl_N (Bf k) (nf k) i = (ln_N (Bf k) (ma_S (Bf k) (nf k) i + 5)).toNat := rfl
  refine ⟨⟨b0, by omega⟩, ?_⟩
  rcases cq_is (Bf := Bf) (nf := nf) g3 zk z2 ht with w | ⟨_, w⟩
  · rw [w] at kf
    exact absurd kf kf_m1
  · have hc : ISc cnt (cq_F Bf nf cnt (Bf k) (nf k) (Bf k (hq_S (Bf k) (nf k) i y + 6))) := by
      rcases w with w | w | w
      · rw [w] at kf
        exfalso
        rcases kf with q | ⟨q, _⟩ | ⟨q, _⟩ | ⟨q, _⟩ | ⟨q, _⟩ <;> omega
      · exact w.1
      · exfalso
        rcases kf with q | ⟨q, _⟩ | ⟨q, _⟩ | ⟨q, _⟩ | ⟨_, q, _⟩ <;> omega
    refine ⟨hc, fun e91 => ?_⟩
    have hc' := hc
    unfold ISc at hc'
    unfold cq_F at hc'
    rw [if_pos e91] at hc'
    unfold kq_F at hc'
    rw [if_neg (by omega), if_neg (by omega), if_pos e91] at hc'
    by_cases b73 : Bf k (na_S (Bf k) (nf k) (pt_S (Bf k) (nf k) (Bf k (hq_S (Bf k) (nf k) i y + 6)) 0) + 1) = 73
    · rw [if_pos b73] at hc'; omega
    · rw [if_neg b73] at hc'
      have rg := lo_is (Bf := Bf) (nf := nf) g3.1 (f := fun x => Bf k (na_S (Bf k) (nf k) (pt_S (Bf k) (nf k) (Bf k (hq_S (Bf k) (nf k) i y + 6)) 0) + 2 + x)) (m := na_S (Bf k) (nf k) (pt_S (Bf k) (nf k) (Bf k (hq_S (Bf k) (nf k) i y + 6)) 0) + tl_S (Bf k) (nf k) (pt_S (Bf k) (nf k) (Bf k (hq_S (Bf k) (nf k) i y + 6)) 0) - 1 - (na_S (Bf k) (nf k) (pt_S (Bf k) (nf k) (Bf k (hq_S (Bf k) (nf k) i y + 6)) 0) + 2))
      unfold ISc at rg
      split at hc' <;> omega
theorem hq_lt (G : GMt (Bf k) (nf k) i) {y : Nat} (hy : y < hn_S (Bf k) (nf k) i) : hq_S (Bf k) (nf k) i y + 6 < nf k := (gm_hd G hy).1
/-- the class looks for a handler in its uppermost method -/
theorem rc_c27 (CS : CSw Bf nf A1) (hk : (k : Int) < A1 56 3) (hi : (i : Int) < mc_S (Bf k) (nf k)) (e56 : A1 56 3 = cnt) (g3 : 0 ≤ cnt ∧ cnt ≤ 8) (LK : LKt Bf nf cnt A1) (VO : ∀ y : Nat, y < hn_S (Bf k) (nf k) i → ¬ HBd Bf nf cnt k i y) (zx : ∃ x : Nat, kk_S (Bf k) (nf k) = .inr x ∧ 0 ≤ Bf k 2) (b255 : Bf k 2 ≤ 255) (h17 : A1 143 17 = (t : Int)) (t60 : t < 60) (h18 : A1 143 18 = A1 60 k) (h148 : A1 148 t = (k : Int) * 12 + (i : Int)) (h149 : A1 149 t = P) (hP : 0 ≤ P ∧ P ≤ 10000) (ho : A1 145 o.toNat = sr_T s) (hs : STs cnt s) : ∀ (f y : Nat), y ≤ hn_S (Bf k) (nf k) i → (∀ z : Nat, z < y → ¬ MTh Bf nf cnt k i s P z) → Pc (qw_X5_isCaught_27 nn f o (i : Int) (hq_S (Bf k) (nf k) i y : Int) (y : Int) A1) (fun u => (u = (0, A1) ∧ ∀ z : Nat, z < hn_S (Bf k) (nf k) i → ¬ MTh Bf nf cnt k i s P z) ∨ ∃ y : Nat, y < hn_S (Bf k) (nf k) i ∧ MTh Bf nf cnt k i s P y ∧ (∀ z : Nat, z < y → ¬ MTh Bf nf cnt k i s P z) ∧ u.1 = 1 ∧ CGV A1 u.2 t 0 o (ln_N (Bf k) (hq_S (Bf k) (nf k) i y + 4))) := by
  have X := CS.1.2 k hk
  obtain ⟨GI, _, _, MDs⟩ := cg_im X
  have G := GI.2.2.2 i hi
  have MD := (MDs i hi).2.2.1.1
  have m12 := GI.2.2.1
  have nb : nf k ≤ 6000 := X.1.1.2.1
  have k8 : k < 8 := by omega
  obtain ⟨zx, zk, z2⟩ := zx
  have ehn : Bf k (mh_P (Bf k) (nf k) i) = (hn_S (Bf k) (nf k) i : Int) := by
    have := G.2.2.2.2.1
    unfold hn_S; omega
  have h20 : hn_S (Bf k) (nf k) i ≤ 20 := by have := G.2.2.2.2.1; unfold hn_S; omega
  have PR : ∀ x : Nat, x + 1 < nf k → Pc (qf_X3_pairAt nn (A1 60 k).toNat (x : Int) A1) (fun u => u = ln_N (Bf k) x) := fun x hx => by
    unfold qf_X3_pairAt
    refine pc_sv (rc_by CS hk (x := x) (by omega)) ?_; intro y2 q2
    refine pc_xl ?_; intro y3 e3
    refine pc_add (by omega) ?_; intro y4 e4
    rw [show y4 = ((x + 1 : Nat) : Int) by omega]
    refine pc_sv (rc_by CS hk (x := x + 1) hx) ?_; intro y6 q6
    refine pc_xl ?_; intro y7 e7
    refine pc_ret ?_
    show y7 = oq_or (oq_shl (Bf k x) 8) (Bf k (x + 1))
    rw [e7, e3, q2, q6]
  intro f
  induction f with
  | zero => intro y _ _; exact pc_none
  | succ f ih =>
    intro y hy HN
    have NX : ∀ {s0 : Int}, y < hn_S (Bf k) (nf k) i → ¬ MTh Bf nf cnt k i s P y → Pc (xl (oq_add (hq_S (Bf k) (nf k) i y : Int) 7) fun v1 => xl (oq_add (y : Int) 1) fun v2 => qw_X5_isCaught_27 nn f o (i : Int) v1 v2 A1) (fun u => (u = (0, A1) ∧ ∀ z : Nat, z < hn_S (Bf k) (nf k) i → ¬ MTh Bf nf cnt k i s P z) ∨ ∃ y : Nat, y < hn_S (Bf k) (nf k) i ∧ MTh Bf nf cnt k i s P y ∧ (∀ z : Nat, z < y → ¬ MTh Bf nf cnt k i s P z) ∧ u.1 = 1 ∧ CGV A1 u.2 t 0 o (ln_N (Bf k) (hq_S (Bf k) (nf k) i y + 4))) := fun {s0} yl nm => by
      have := hq_lt G yl
      refine pc_add (by omega) ?_; intro v1 e1
      refine pc_add (by omega) ?_; intro v2 e2
      rw [show v1 = ((hq_S (Bf k) (nf k) i (y + 1) : Nat) : Int) by unfold hq_S at e1 ⊢; omega, show v2 = ((y + 1 : Nat) : Int) by omega]
      refine ih (y + 1) yl (fun z hz => ?_)
      by_cases zy : z = y
      · rw [zy]; exact nm
      · exact HN z (by omega)
    unfold qw_X5_isCaught_27
    rw [h18]
    refine pc_ck (fun _ => pc_ck (fun _ => ?_))
    refine pc_sv (vq_of X hi (w := 7) (by omega) MD) ?_; intro u34 q34
    rw [ehn] at q34
    refine pc_if (fun w => pc_ret (.inl ⟨rfl, fun z hz => HN z (by omega)⟩)) (fun w => ?_)
    have yl : y < hn_S (Bf k) (nf k) i := by omega
    have hq6 := hq_lt G yl
    obtain ⟨am, hc, n91⟩ := hd_ok g3 G zk z2 yl (VO y yl)
    have t3 := (gm_hd G yl).2
    obtain ⟨i1, i2, i3⟩ := tg_in (B := Bf k) (n := nf k) (k := Bf k (hq_S (Bf k) (nf k) i y + 6)) (by omega)
    rw [h17]
    refine pc_rA ?_; intro _ _ v37 e37
    rw [Int.toNat_natCast, h149] at e37
    refine pc_ck (fun _ => ?_)
    refine pc_sv (PR (hq_S (Bf k) (nf k) i y) (by omega)) ?_; intro u40 q40
    refine pc_if (fun l1 => ?_) (fun l1 => ?_)
    · unfold qj_X5_isCaught_88 qj_X5_isCaught_89
      rw [if_pos rfl]
      exact NX (s0 := 0) yl (fun m => by have := m.1; omega)
    refine pc_rA ?_; intro _ _ v43 e43
    rw [Int.toNat_natCast, h149] at e43
    refine pc_ck (fun _ => ?_)
    refine pc_add (by omega) ?_; intro v45 e45
    rw [show v45 = ((hq_S (Bf k) (nf k) i y + 2 : Nat) : Int) by omega]
    refine pc_sv (PR (hq_S (Bf k) (nf k) i y + 2) (by omega)) ?_; intro u47 q47
    refine pc_if (fun l2 => ?_) (fun l2 => ?_)
    · unfold qj_X5_isCaught_88 qj_X5_isCaught_89
      rw [if_pos rfl]
      exact NX (s0 := 0) yl (fun m => by have := m.2.1; omega)
    unfold qj_X5_isCaught_89
    rw [if_neg (show ¬ (1 : Int) = 0 by omega), h18]
    refine pc_rA ?_; intro _ _ v6 e6
    rw [ho] at e6
    refine pc_ck (fun _ => ?_)
    refine pc_add (by omega) ?_; intro v8 e8
    refine pc_ck (fun _ => ?_)
    rw [show v8 = ((hq_S (Bf k) (nf k) i y + 6 : Nat) : Int) by omega]
    refine pc_sv (rc_by CS hk (x := hq_S (Bf k) (nf k) i y + 6) (by omega)) ?_; intro u10 q10
    rw [q10]
    refine pc_sv (rc_link (t := t) (k := k) (i := i) h17 h148 k8 (by omega) (by omega)) ?_; intro u12 q12
    have lk := ((LK.2 k (by omega)).1 (Bf k (hq_S (Bf k) (nf k) i y + 6)) i1 (by omega)).1 t3
    rw [← q12] at lk
    have KF := kf_one (Bf := Bf) (nf := nf) g3.2 hs hc
    have VF := vc_kfits (nn := nn) (y := cq_F Bf nf cnt (Bf k) (nf k) (Bf k (hq_S (Bf k) (nf k) i y + 6))) CS (x := sr_T s) (by rw [e56]; exact tis_sr g3.2 hs)
    rw [e56, KF] at VF
    rw [lk, e6]
    refine pc_sv VF ?_; intro u14 q14
    refine pc_if (fun z => ?_) (fun z => ?_)
    · refine NX (s0 := 1) yl (fun m => ?_)
      rcases q14 with ⟨q, _⟩ | ⟨_, q⟩
      · omega
      · exact q m.2.2
    · have on : ONe Bf nf cnt s (cq_F Bf nf cnt (Bf k) (nf k) (Bf k (hq_S (Bf k) (nf k) i y + 6))) := by
        rcases q14 with ⟨_, q⟩ | ⟨q, _⟩
        · exact q
        · exact absurd q z
      rw [h17]
      refine pc_wA ?_; intro _ _ h19 e19
      rw [Int.toNat_natCast] at e19
      have F19 : ∀ c j : Nat, ¬ (c = 150 ∧ j = t) → h19 c j = A1 c j := fun c j w => by rw [e19, up_n w]
      rw [F19 143 18 (by omega), h18]
      refine pc_ck (fun _ => ?_)
      refine pc_add (by omega) ?_; intro v21 e21
      refine pc_ck (fun _ => ?_)
      rw [show v21 = ((hq_S (Bf k) (nf k) i y + 4 : Nat) : Int) by omega]
      have CS2 : CSw Bf nf h19 := csw_r CS (fun c j _ w => F19 c j (by omega))
      refine pc_sv (P := fun u => u = ln_N (Bf k) (hq_S (Bf k) (nf k) i y + 4)) ?_ ?_
      · rw [← F19 60 k (by omega)]
        unfold qf_X3_pairAt
        refine pc_sv (rc_by CS2 (by rw [F19 56 3 (by omega)]; exact hk) (x := hq_S (Bf k) (nf k) i y + 4) (by omega)) ?_; intro y2 q2
        refine pc_xl ?_; intro y3 e3
        refine pc_add (by omega) ?_; intro y4 e4
        rw [show y4 = ((hq_S (Bf k) (nf k) i y + 4 + 1 : Nat) : Int) by omega]
        refine pc_sv (rc_by CS2 (by rw [F19 56 3 (by omega)]; exact hk) (x := hq_S (Bf k) (nf k) i y + 4 + 1) (by omega)) ?_; intro y6 q6
        refine pc_xl ?_; intro y7 e7
        refine pc_ret ?_
        show y7 = oq_or (oq_shl (Bf k (hq_S (Bf k) (nf k) i y + 4)) 8) (Bf k (hq_S (Bf k) (nf k) i y + 4 + 1))
        rw [e7, e3, q2, q6]
      intro u23 q23
      rw [F19 143 17 (by omega), h17]
      refine pc_rA ?_; intro _ _ v26 e26
      rw [Int.toNat_natCast, F19 149 t (by omega), h149] at e26
      refine pc_sub (by omega) ?_; intro v27 e27
      refine pc_sv (rc_gvp (A := A1) (t := t) (H := 0) (v := o) (w := v27) ⟨F19, by rw [e19, up_s]; rfl⟩ h17 t60 (by omega) (by omega) (by omega)) ?_; intro u29 q29
      rw [show A1 149 t + v27 = ln_N (Bf k) (hq_S (Bf k) (nf k) i y + 4) by omega] at q29
      exact pc_ret (.inr ⟨y, yl, ⟨by omega, by omega, on⟩, HN, rfl, q29⟩)
/-- the reference looks for a handler -/
theorem rr_c45 {qk : Int → ms_M → Option ms_M} {Q : ms_M → Prop} (Nk : NKn Bf nf cnt) (S : RSv Bf nf B) (e98 : B 160 98 = cnt) (g3 : 0 ≤ cnt ∧ cnt ≤ 8) (hk : (k : Int) < B 160 98) (hi : (i : Int) < mc_S (Bf k) (nf k)) (VO : ∀ y : Nat, y < hn_S (Bf k) (nf k) i → ¬ HBd Bf nf cnt k i y) (ht : B 160 149 = (t : Int) + 1) (t60 : t < 60) (h253 : B 253 t = P) (hP : 0 ≤ P ∧ P ≤ 10000) (hs : STs cnt (B 246 o.toNat)) (H1 : (∀ z : Nat, z < hn_S (Bf k) (nf k) i → ¬ MTh Bf nf cnt k i (B 246 o.toNat) P z) → Pc (qk o (up_M B 160 149 (t : Int))) Q) (H2 : ∀ y : Nat, y < hn_S (Bf k) (nf k) i → MTh Bf nf cnt k i (B 246 o.toNat) P y → (∀ z : Nat, z < y → ¬ MTh Bf nf cnt k i (B 246 o.toNat) P z) → ∀ r : ms_M, RGV B r t 0 o (ln_N (Bf k) (hq_S (Bf k) (nf k) i y + 4)) → Q r) : ∀ (f y : Nat), y ≤ hn_S (Bf k) (nf k) i → (∀ z : Nat, z < y → ¬ MTh Bf nf cnt k i (B 246 o.toNat) P z) → Pc (qw_X13_thrown_45 nn qk f o (t : Int) (k : Int) (mh_P (Bf k) (nf k) i : Int) (y : Int) B) Q := by
  have GI := (rg_im (S.2 k hk)).1
  have G := GI.2.2.2 i hi
  obtain ⟨n6, k8⟩ := tb_n6 S hk
  obtain ⟨zx, zk, z2⟩ := rs_zk S hk
  have ehn : Bf k (mh_P (Bf k) (nf k) i) = (hn_S (Bf k) (nf k) i : Int) := by
    have := G.2.2.2.2.1
    unfold hn_S; omega
  have h20 : hn_S (Bf k) (nf k) i ≤ 20 := by have := G.2.2.2.2.1; unfold hn_S; omega
  have mhn : mh_P (Bf k) (nf k) i < nf k := G.2.2.2.1.2.2
  intro f
  induction f with
  | zero => intro y _ _; exact pc_none
  | succ f ih =>
    intro y hy HN
    have NX : y < hn_S (Bf k) (nf k) i → ¬ MTh Bf nf cnt k i (B 246 o.toNat) P y → Pc (xl (oq_add (y : Int) 1) fun v30 => qw_X13_thrown_45 nn qk f o (t : Int) (k : Int) (mh_P (Bf k) (nf k) i : Int) v30 B) Q := fun yl nm => by
      refine pc_add (by omega) ?_; intro v30 e30
      rw [show v30 = ((y + 1 : Nat) : Int) by omega]
      refine ih (y + 1) yl (fun z hz => ?_)
      by_cases zy : z = y
      · rw [zy]; exact nm
      · exact HN z (by omega)
    unfold qw_X13_thrown_45
    refine pc_sv (vq_rbyte S hk (p := mh_P (Bf k) (nf k) i) mhn) ?_; intro u6 q6
    rw [ehn] at q6
    refine pc_if (fun w => ?_) (fun w => ?_)
    · rw [ht]
      refine pc_sub (by omega) ?_; intro v8 e8
      rw [show v8 = (t : Int) by omega]
      refine pc_xl ?_; intro h9 e9
      rw [e9]
      exact H1 (fun z hz => HN z (by omega))
    have yl : y < hn_S (Bf k) (nf k) i := by omega
    have hq6 := hq_lt G yl
    have ehq : hq_S (Bf k) (nf k) i y = mh_P (Bf k) (nf k) i + 1 + 7 * y := rfl
    obtain ⟨am, hc, n91⟩ := hd_ok g3 G zk z2 yl (VO y yl)
    have t3 := (gm_hd G yl).2
    refine pc_add (by omega) ?_; intro v10 e10
    refine pc_xl ?_; intro v11 e11
    rw [oq_mul_eq (by omega) (by omega) (by omega)] at e11
    refine pc_add (by omega) ?_; intro v12 e12
    have e12 : v12 = ((hq_S (Bf k) (nf k) i y : Nat) : Int) := by omega
    rw [e12]
    refine pc_sv (vq_rbyte S hk (p := hq_S (Bf k) (nf k) i y) (by omega)) ?_; intro u14 q14
    refine pc_xl ?_; intro v15 e15
    refine pc_add (by omega) ?_; intro v16 e16
    rw [show v16 = ((hq_S (Bf k) (nf k) i y + 1 : Nat) : Int) by omega]
    refine pc_sv (vq_rbyte S hk (p := hq_S (Bf k) (nf k) i y + 1) (by omega)) ?_; intro u18 q18
    refine pc_xl ?_; intro v19 e19
    have e19 : v19 = ln_N (Bf k) (hq_S (Bf k) (nf k) i y) := by rw [e19, e15, q14, q18]; rfl
    refine pc_add (by omega) ?_; intro v20 e20
    rw [show v20 = ((hq_S (Bf k) (nf k) i y + 2 : Nat) : Int) by omega]
    refine pc_sv (vq_rbyte S hk (p := hq_S (Bf k) (nf k) i y + 2) (by omega)) ?_; intro u22 q22
    refine pc_xl ?_; intro v23 e23
    refine pc_add (by omega) ?_; intro v24 e24
    rw [show v24 = ((hq_S (Bf k) (nf k) i y + 2 + 1 : Nat) : Int) by omega]
    refine pc_sv (vq_rbyte S hk (p := hq_S (Bf k) (nf k) i y + 2 + 1) (by omega)) ?_; intro u26 q26
    refine pc_xl ?_; intro v27 e27
    have e27 : v27 = ln_N (Bf k) (hq_S (Bf k) (nf k) i y + 2) := by rw [e27, e23, q22, q26]; rfl
    refine pc_rA ?_; intro _ _ v29 e29
    rw [Int.toNat_natCast, h253] at e29
    refine pc_if (fun l1 => NX yl (fun m => by have := m.1; omega)) (fun l1 => ?_)
    refine pc_rA ?_; intro _ _ v32 e32
    rw [Int.toNat_natCast, h253] at e32
    refine pc_if (fun l2 => NX yl (fun m => by have := m.2.1; omega)) (fun l2 => ?_)
    refine pc_add (by omega) ?_; intro v34 e34
    rw [show v34 = ((hq_S (Bf k) (nf k) i y + 6 : Nat) : Int) by omega]
    refine pc_sv (vq_rbyte S hk (p := hq_S (Bf k) (nf k) i y + 6) (by omega)) ?_; intro u36 q36
    rw [q36]
    refine rr_cls (by rw [e98]; exact Nk) S hk t3 n91 ?_
    rw [e98]
    have RO := rr_one (nn := nn) (o := o) (c := cq_F Bf nf cnt (Bf k) (nf k) (Bf k (hq_S (Bf k) (nf k) i y + 6))) (h := B) (by rw [e98]; exact Nk) S (by rw [e98]; exact hs) hc.1
    rw [e98] at RO
    refine pc_sv RO ?_; intro u42 q42
    refine pc_if (fun z => ?_) (fun z => ?_)
    · have on : ONe Bf nf cnt (B 246 o.toNat) (cq_F Bf nf cnt (Bf k) (nf k) (Bf k (hq_S (Bf k) (nf k) i y + 6))) := by
        rcases q42 with ⟨_, q⟩ | ⟨q, _⟩
        · exact q
        · exact absurd q z
      refine pc_add (by omega) ?_; intro v44 e44
      rw [show v44 = ((hq_S (Bf k) (nf k) i y + 4 : Nat) : Int) by omega]
      refine pc_sv (vq_rbyte S hk (p := hq_S (Bf k) (nf k) i y + 4) (by omega)) ?_; intro u46 q46
      refine pc_xl ?_; intro v47 e47
      refine pc_add (by omega) ?_; intro v48 e48
      rw [show v48 = ((hq_S (Bf k) (nf k) i y + 4 + 1 : Nat) : Int) by omega]
      refine pc_sv (vq_rbyte S hk (p := hq_S (Bf k) (nf k) i y + 4 + 1) (by omega)) ?_; intro u50 q50
      refine pc_xl ?_; intro v51 e51
      have e51 : v51 = ln_N (Bf k) (hq_S (Bf k) (nf k) i y + 4) := by rw [e51, e47, q46, q50]; rfl
      refine pc_wA ?_; intro _ _ h52 e52
      rw [Int.toNat_natCast, e51] at e52
      unfold qj_X13_thrown_196
      refine pc_wA ?_; intro _ _ h2 e2
      rw [Int.toNat_natCast] at e2
      refine pc_sv (rr_give (v := o) (t := t) (H := 0) (by rw [e2, up_n (by omega), e52, up_n (by omega)]; exact ht) t60 (by rw [e2, up_s]; rfl) (by omega)) ?_; intro u4 q4
      refine pc_ret (H2 y yl ⟨by omega, by omega, on⟩ HN u4 ⟨fun x j w1 w2 w3 w4 => ?_, ⟨?_, ?_⟩, ?_, fun n hn => ?_⟩)
      · rw [q4, up_n (by omega), up_n (by omega), e2, up_n (by omega), e52, up_n (by omega)]
      · rw [q4, up_n (by omega), up_n (by omega), e2, up_n (by omega), e52, up_s]
      · rw [q4, up_s]
      · rw [q4, up_n (by omega), up_s]
      · rw [q4, up_n (by omega), up_n (by omega), e2, up_n (by omega), e52, up_n (by omega)]
    · refine NX yl (fun m => ?_)
      rcases q42 with ⟨q, _⟩ | ⟨_, q⟩
      · omega
      · exact q m.2.2
end
