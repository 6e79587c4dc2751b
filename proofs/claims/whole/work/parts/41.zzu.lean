/- RUN: calls, whole -/
section
variable {nn : Nat} {Bf : Nat → Nat → Int} {nf : Nat → Nat} {cnt : Int} {k i t P H d k2 k3 j3 F n jj m2 : Nat} {A B g r u z p h w A1 B1 g0 f : ms_M} {ω : Int → ms_M} {op o v wd c kk tt ty x y a e s uu bb j q m tc d3 : Int} {L : Int → Int} {N ai : Nat} {T U : Nat → ms_M}
/-- the object that a method is called of -/
theorem sx_sj (hn : 1000000 ≤ nn) (S : SXc Bf nf cnt A B k i t P op o) (X : RTP nn g0 ω B (t : Int) (k : Int) kk N T U tt ai p) (hu : ISc cnt uu) (hf : HFd Bf nf cnt k a 1 uu bb jj) (hb : 8 ≤ bb) (cv : CVt nn g0 B (4 + 2 * uu) v) (v0 : ¬ v = 0) : (1 ≤ v ∧ v ≤ B 160 141) ∧ (0 ≤ B 246 v.toNat ∧ B 246 v.toNat < 8 + cnt) ∧ UNq Bf nf cnt (B 246 v.toNat) uu := by
  obtain ⟨⟨c1, c2, c3⟩, ⟨d1, d2⟩, Nk, HG, _⟩ := S.1
  have g3 := HG.1
  have e98 := X.rx.2.1.1
  have un : (1 ≤ v ∧ v ≤ B 160 141) ∧ B 246 v.toNat < 99 ∧ UNd nn g0 (B 246 v.toNat) uu := by
    rcases cv with z | z | z | ⟨z0, z⟩
    · have := hu.1; exfalso; omega
    · have := hu.1; exfalso; omega
    · exact absurd z v0
    · refine ⟨z0, ?_⟩
      rcases z with z | ⟨y, y0, z1, z2⟩ | ⟨y, y0, z1, z2⟩
      · exfalso; omega
      · rw [show y = uu by omega] at z2
        rcases z2 with z2 | z2
        · exfalso
          obtain ⟨x, ex, _⟩ := hf
          rw [z2.2] at ex
          have := ch_lo (Bf := Bf) (nf := nf) (cnt := cnt) (c := 0) (i := 0) (by show (0 : Int) < 8; omega) (.inr ⟨by omega, by omega⟩) g3.1 x
          rw [Nat.zero_add, ex] at this
          omega
        · exact z2
      · exfalso; omega
  obtain ⟨ob, so, un⟩ := un
  obtain ⟨o1, o2⟩ := X.hp.1 v ob.1 ob.2
  have w1 : 0 ≤ B 246 v.toNat ∧ B 246 v.toNat < 8 + g0 160 98 := by
    rcases o2 with z | z | z
    · exact z.2.1
    · exfalso; omega
    · exfalso; omega
  exact ⟨ob, by omega, un_q hn X.rx d1 Nk d2 un (by omega) hu.1⟩
/-- the reference finds the method -/
theorem rr_168 {D nI l7 : Int} {Q : ms_M → Prop} (S : SXc Bf nf cnt A B k i t P op o) (t4 : tg_S (Bf k) (nf k) o = 4) (t1 : tg_S (Bf k) (nf k) (pt_S (Bf k) (nf k) o 1) = 1) (hD : ISc cnt D) (no : ¬ HNo Bf nf cnt k (pt_S (Bf k) (nf k) o 1) 1 D) (HH : ∀ k3 j3 : Nat, HFd Bf nf cnt k (pt_S (Bf k) (nf k) o 1) 1 D (8 + (k3 : Int)) j3 → (k3 : Int) < cnt → (j3 : Int) < mc_S (Bf k3) (nf k3) → Pc (if ¬ (up_M B 160 121 (j3 : Int) 160 149) = 60 then (rd_A 60 254 (t : Int) (up_M B 160 121 (j3 : Int)) fun v19 => xl (oq_sub v19 nI) fun v20 => wr_A 60 254 (t : Int) v20 (up_M B 160 121 (j3 : Int)) fun h21 => mx_sv (qf_X13_enter nn (8 + (k3 : Int)) (up_M B 160 121 (j3 : Int) 160 121) h21) fun u23 => qw_X13_call_228 nn nn nI l7 0 u23) else (xl (up_M (up_M B 160 121 (j3 : Int)) 160 138 5) fun h24 => some h24)) Q) : Pc (qj_X13_call_168 nn o (k : Int) nI (t : Int) l7 D B) Q := by
  obtain ⟨⟨c1, c2, c3⟩, ⟨d1, d2⟩, Nk, HG, _⟩ := S.1
  have g3 := HG.1
  have hk := S.2.2.2.2.1.2.1
  have q := (sxc_p S).1
  have M1 := rr_prt (nn := nn) (o := o) d1 hk q.2.1 q.2.2 S.2.2.2.2.2.1.2.1 t4 (y := 1) (by omega)
  rw [show ((1 : Nat) : Int) = 1 from rfl] at M1
  unfold qj_X13_call_168
  refine pc_sv M1 ?_; intro u13 q13
  rw [q13]
  have VH := vr_holder (nn := nn) (o := k) (t := pt_S (Bf k) (nf k) o 1) (s := 1) (c := D) (h := B) (by rw [d2]; exact Nk) d1 hk t1 (.inr (by rw [d2]; exact hD)) (by rw [d2]; exact hg_end HG hD)
  refine pc_sv VH ?_; intro u15 q15
  rw [d2] at q15
  rcases q15 with ⟨_, n⟩ | ⟨dd, jd, hf, e15⟩
  · exact absurd n no
  · obtain ⟨r1, r2⟩ := hfd_is g3.1 (.inr hD) hf
    have ed : dd = 8 + (((dd - 8).toNat : Nat) : Int) := by omega
    rw [e15]
    have := HH (dd - 8).toNat jd (by rw [← ed]; exact hf) (by omega) (by
      have r2' : (jd : Int) < (if (1 : Int) = 0 then fc_S (Bf (dd - 8).toNat) (nf (dd - 8).toNat) else mc_S (Bf (dd - 8).toNat) (nf (dd - 8).toNat)) := r2
      rw [if_neg (by omega)] at r2'
      exact r2')
    rw [← ed] at this
    exact this
/-- the class's nearest method -/
theorem rc_nst (S : SXc Bf nf cnt A B k i t P op o) (hs : 0 ≤ s ∧ s < 8 + cnt) (UN : UNq Bf nf cnt s bb) (hb : 8 ≤ bb ∧ bb < 8 + cnt) (hj : (jj : Int) < mc_S (Bf (bb - 8).toNat) (nf (bb - 8).toNat)) (TX : TXq (Bf (bb - 8).toNat) (nf (bb - 8).toNat) (nt_S (Bf (bb - 8).toNat) (nf (bb - 8).toNat) jj 1) (Bf k) (nf k) a) (hf : HFd Bf nf cnt k a 1 s (8 + (k3 : Int)) j3) : Pc (qf_X7_nearestTo nn s ((bb - 8) * 12 + (jj : Int)) A) (fun v => v = (k3 : Int) * 12 + (j3 : Int)) := by
  obtain ⟨⟨c1, c2, c3⟩, ⟨d1, d2⟩, Nk, HG, _⟩ := S.1
  have g3 := HG.1
  have hs8 : 8 ≤ s := Classical.byContradiction fun n8 => by
    obtain ⟨x, ex⟩ := UN
    have := ch_lo (Bf := Bf) (nf := nf) (cnt := cnt) (c := s) (i := 0) (by show s < 8; omega) (.inr ⟨hs.1, hs.2⟩) g3.1 x
    rw [Nat.zero_add, ex] at this
    omega
  have m12 := ((cg_im (c1.1.2 (bb - 8).toNat (by omega))).1).2.2.1
  obtain ⟨x, x16, ex⟩ := ch_lt (Bf := Bf) (nf := nf) g3 (x := s) (y := bb) ⟨hs.1, hs.2⟩ (by omega) UN
  have es : s = 8 + (((s - 8).toNat : Nat) : Int) := by omega
  have LM := (c3.2 (s - 8).toNat (by omega)).2 x x16 (by rw [← es, ex]; exact hb.1) jj (by rw [← es, ex]; exact hj)
  unfold LMt at LM
  rw [← es, ex] at LM
  unfold NRv2 at LM
  rw [← es] at LM
  unfold qf_X7_nearestTo
  refine pc_sub (by omega) ?_; intro v1 e1
  refine pc_if (fun w => absurd w (by omega)) (fun _ => ?_)
  refine pc_if (fun w => absurd w (by omega)) (fun _ => ?_)
  refine pc_if (fun w => absurd w (by omega)) (fun _ => ?_)
  refine pc_if (fun w => absurd w (by omega)) (fun _ => ?_)
  refine pc_xl ?_; intro v3 e3
  rw [oq_mul_eq (by omega) (by omega) (by omega)] at e3
  refine pc_add (by omega) ?_; intro v4 e4
  refine pc_rA ?_; intro _ _ v5 e5
  refine pc_ret ?_
  rw [show v4.toNat = (96 * (((s - 8).toNat : Nat) : Int) + ((bb - 8) * 12 + (jj : Int))).toNat by omega] at e5
  rw [← e5] at LM
  rcases LM with ⟨_, no⟩ | ⟨dd, jd, ⟨_, hf2⟩, _, _, ev⟩
  · exact absurd ⟨⟨by omega, by omega⟩, hfd_tx (txq_s TX) hf⟩ (no _ _)
  · obtain ⟨e6, e7⟩ := hfd_u hf (hfd_tx TX hf2)
    show v5 = _
    omega
theorem js_182 (hn : 1000000 ≤ nn) (S : SXc Bf nf cnt A B k i t P op o) (X : RTP nn g0 ω B (t : Int) (k : Int) kk N T U tt ai p) (y : op = 182 ∨ op = 184) (mr : MRF nn g0 ω (k : Int) (ω (k : Int)) o 1 uu bb j) (tk : TKV nn g0 (k : Int) (ω (k : Int)) (ω (k : Int) 238 (pl (ω (k : Int)) (k : Int) o + 1 + 2).toNat) m L q tc) (ln : m + (if op = 184 then 0 else 1) ≤ B 254 t) (cv : op = 182 → CVt nn g0 B (4 + 2 * uu) (B 255 (60 * (t : Int) + 30 + (B 254 t - 1 - m)).toNat)) : Pc (qf_X5_step nn A) (fun g => Pc (qf_X13_step nn B) (STQ nn Bf nf cnt t B g)) := by
  refine j_two (fun Q => cz_g182 S.2.2.2.1 y) (fun Q => rz_g182 S.2.2.2.2 y) ?_
  have h := rtp_h X
  obtain ⟨qq, q4, q5, q6, q7, q8⟩ := sxc_p S
  have E := S.2.1.2.2.2.1
  have g141 := gF_160_141 X.vs
  obtain ⟨t4, ⟨t3, n91, cq, hu⟩, t1, ⟨tx2, e2⟩, hb, jj, ej, hf⟩ := sx_mf hn S X mr
  obtain ⟨m2, em, m6, sk1, hjm, pm, t2, PI⟩ := sx_cm hn S X mr tk ej
  obtain ⟨⟨c1, c2, c3⟩, ⟨d1, d2⟩, Nk, HG, _⟩ := S.1
  have g3 := HG.1
  have hk := S.2.2.2.2.1.2.1
  have e251 := S.2.2.2.2.2.1.2.1
  obtain ⟨n6, k8⟩ := tb_n6 d1 hk
  obtain ⟨i1, i2, i3⟩ := tg_in (B := Bf k) (n := nf k) (k := o) (by omega)
  obtain ⟨p1, p2, p3, p4, p5, p6, p7⟩ := pi_le d1 hk t2
  have hu' := hu
  unfold ISc at hu'
  have hk2 : (((bb - 8).toNat : Nat) : Int) < A 56 3 := by omega
  have CI2 := cg_im (c1.1.2 (bb - 8).toNat hk2)
  have m12 := CI2.1.2.2.1
  have ena : na_S (Bf k) (nf k) (pt_S (Bf k) (nf k) o 2) = pl_S (Bf k) (nf k) (pt_S (Bf k) (nf k) o 2) + 2 := rfl
  unfold qj_X5_stepObject_203 qj_X13_step_1029
  refine pc_sv (P := fun g => Pc _ (STQ nn Bf nf cnt t B g)) ?_ (fun u q => pc_ret q)
  refine pc_tw (pc_sv (P := fun r => Pc _ (fun g => STQ nn Bf nf cnt t B g r)) ?_ (fun u q => pc_ret q))
  -- the class, up to its number of values
  refine pc_tw ?_
  unfold qf_X5_stepCall
  refine pc_sv (sx_ln S rfl rfl (fun _ => rfl) ⟨i1, i2⟩) ?_; intro u32 ⟨_, q32⟩
  have q32 := q32.2.1 t4 sk1
  rw [cq] at q32
  have eL : u32 = (bb - 8) * 12 + (jj : Int) := by
    rcases q32 with ⟨_, no⟩ | ⟨dd, jd, ⟨_, hf2⟩, _, _, ev⟩
    · exact absurd ⟨⟨by omega, by omega⟩, hf⟩ (no _ _)
    · obtain ⟨e6, e7⟩ := hfd_u hf hf2
      omega
  rw [eL]
  refine pc_sv (vc_iom c1.1 (d := bb) (j := jj) (by omega) (by omega) rfl) ?_; intro u35 ⟨q35, p35⟩
  refine pc_if (fun w => absurd w (by omega)) (fun _ => ?_)
  refine pc_xl ?_; intro v39 e39
  rw [Int.tmod_eq_emod_of_nonneg (by omega)] at e39
  refine pc_ck (fun _ => ?_)
  have MD := (CI2.2.2.2 jj hjm).1.2.2.2.1
  rw [pm] at MD
  have MD : A ((A 60 (bb - 8).toNat).toNat + 6) (12 * (jj : Int) + 11).toNat = (m2 : Int) := MD
  rw [show v39 = (jj : Int) by omega, q35]
  refine pc_sv (vq_of (c1.1.2 (bb - 8).toNat hk2) hjm (w := 11) (by omega) MD) ?_; intro u41 q41
  rw [q41]
  -- the reference, up to its number of values
  refine pc_tw ?_
  unfold qf_X13_call
  rw [qq.2.1]
  refine pc_sub (by omega) ?_; intro v52 e52
  rw [show v52 = (t : Int) by omega]
  refine pc_rA ?_; intro _ _ v53 e53
  rw [Int.toNat_natCast, e251] at e53
  refine pc_sub (by omega) ?_; intro v54 e54
  rw [show v54 = (k : Int) by omega]
  refine pc_xl ?_; intro v55 e55
  rw [oq_mul_eq (by omega) (by omega) (by omega)] at e55
  refine pc_xl ?_; intro v57 e57
  rw [oq_mul_eq (by omega) (by omega) (by omega)] at e57
  have M2 := rr_prt (nn := nn) (o := o) d1 hk qq.2.1 qq.2.2 e251 t4 (y := 2) (by omega)
  rw [show ((2 : Nat) : Int) = 2 from rfl] at M2
  refine pc_sv M2 ?_; intro u59 q59
  rw [q59]
  refine pc_add (by omega) ?_; intro v60 e60
  refine pc_rA ?_; intro _ _ v61 e61
  rw [show v60.toNat = (256 * (k : Int) + pt_S (Bf k) (nf k) o 2).toNat by omega, p6] at e61
  refine pc_add (by omega) ?_; intro v62 e62
  refine pc_add (by omega) ?_; intro v64 e64
  refine pc_add (by omega) ?_; intro v66 e66
  refine pc_rA ?_; intro _ _ v67 e67
  rw [show v66.toNat = 6000 * k + (pl_S (Bf k) (nf k) (pt_S (Bf k) (nf k) o 2) + 1) by omega, tb_by d1 hk (by omega), p4] at e67
  rw [e67, show v64 = ((6000 * k + na_S (Bf k) (nf k) (pt_S (Bf k) (nf k) o 2) : Nat) : Int) by omega]
  refine pc_sv PI ?_; intro u68 q68
  rw [q68]
  -- both with n values
  have GO : ∀ s0 : Nat, (s0 : Int) = (if op = 184 then 0 else 1) → Pc (qj_X13_call_72 nn op o (k : Int) (s0 : Int) (m2 : Int) B) (fun r => Pc (qj_X5_stepCall_51 nn op ((bb - 8) * 12 + (jj : Int)) (s0 : Int) (m2 : Int) A) (fun g => STQ nn Bf nf cnt t B g r)) := fun s0 es => by
    rw [← es] at ln
    have s01 : s0 ≤ 1 := by
      by_cases w : op = 184
      · rw [if_pos w] at es; omega
      · rw [if_neg w] at es; omega
    obtain ⟨F, hF⟩ : ∃ F : Nat, (F : Int) + ((m2 + s0 : Nat) : Int) = B 254 t := ⟨(B 254 t - (m2 + s0)).toNat, by omega⟩
    have M0 := rr_prt (nn := nn) (o := o) d1 hk qq.2.1 qq.2.2 e251 t4 (y := 0) (by omega)
    rw [show ((0 : Nat) : Int) = 0 from rfl] at M0
    have CIn := rr_cin (nn := nn) (o := pt_S (Bf k) (nf k) o 0) (t := t) (k := k) (h := B) (by rw [d2]; exact Nk) d1 hk qq.2.1 qq.2.2 e251 t3 n91
    rw [d2, cq] at CIn
    unfold qj_X13_call_72
    rw [qq.2.1]
    refine pc_add (by omega) ?_; intro v26 e26
    rw [show v26 = ((m2 + s0 : Nat) : Int) by omega]
    refine pc_sub (by omega) ?_; intro v28 e28
    rw [show v28 = (t : Int) by omega]
    refine pc_xl ?_; intro v29 e29
    rw [oq_mul_eq (by omega) (by omega) (by omega)] at e29
    refine pc_add (by omega) ?_; intro v30 e30
    refine pc_rA ?_; intro _ _ v32 e32
    rw [Int.toNat_natCast] at e32
    refine pc_add (by omega) ?_; intro v33 e33
    refine pc_sub (by omega) ?_; intro v34 e34
    rw [show v34 = ((60 * t + 30 + F : Nat) : Int) by omega]
    refine pc_sv M0 ?_; intro u36 q36
    rw [q36]
    refine pc_sv CIn ?_; intro u38 q38
    rw [q38]
    -- the class's way to its begin
    have C51 : ∀ {Q : ms_M → Prop} (k3 j3 : Nat), (¬ op = 182 → (bb - 8) * 12 + (jj : Int) = (k3 : Int) * 12 + (j3 : Int)) → (op = 182 → (¬ A 152 (30 * t + F) = 0 ∧ (1 ≤ A 152 (30 * t + F) ∧ A 152 (30 * t + F) ≤ B 160 141)) ∧ Pc (qf_X7_nearestTo nn (sr_T (B 246 (A 152 (30 * t + F)).toNat)) ((bb - 8) * 12 + (jj : Int)) A) (fun v => v = (k3 : Int) * 12 + (j3 : Int))) → Pc (qj_X5_stepCall_136 nn ((k3 : Int) * 12 + (j3 : Int)) ((m2 + s0 : Nat) : Int) (F : Int) A) Q → Pc (qj_X5_stepCall_51 nn op ((bb - 8) * 12 + (jj : Int)) (s0 : Int) (m2 : Int) A) Q := fun {Q} k3 j3 e84 e82 HQ => by
      unfold qj_X5_stepCall_51
      rw [qq.1]
      refine pc_add (by omega) ?_; intro v9 e9
      rw [show v9 = ((m2 + s0 : Nat) : Int) by omega]
      refine pc_rA ?_; intro _ _ v12 e12
      rw [Int.toNat_natCast, q7] at e12
      refine pc_sub (by omega) ?_; intro v13 e13
      rw [show v13 = (F : Int) by omega]
      refine pc_if (fun _ => ?_) (fun w => absurd (show (0 : Int) ≤ (F : Int) by omega) w)
      refine pc_if (fun w => ?_) (fun w => ?_)
      · rw [e84 w]; exact HQ
      · obtain ⟨⟨v0, ob⟩, NS⟩ := e82 (Decidable.not_not.1 w)
        have so := (sx_ob S X ob).1.2.1
        refine pc_xl ?_; intro v16 e16
        rw [oq_mul_eq (by omega) (by omega) (by omega)] at e16
        refine pc_add (by omega) ?_; intro v17 e17
        refine pc_rA ?_; intro _ _ v18 e18
        rw [show v17.toNat = 30 * t + F by omega] at e18
        rw [e18]
        refine pc_sv (rc_iso (B := B) E.1.1 (by omega) (.inr ob)) ?_; intro u20 q20
        refine pc_if (fun _ => ?_) (fun w => absurd (show ¬ u20 = 0 by omega) w)
        refine pc_rA ?_; intro _ _ v23 e23
        rw [e23, so]
        refine pc_sv NS ?_; intro u25 q25
        rw [q25]; exact HQ
    by_cases y2 : op = 182
    · rw [if_neg (show ¬ ¬ op = 182 from fun n => n y2)]
      have s1 : s0 = 1 := by rw [if_neg (show ¬ op = 184 by omega)] at es; omega
      have eF : (60 * (t : Int) + 30 + (B 254 t - 1 - m)).toNat = 60 * t + 30 + F := by omega
      have cv := cv y2
      rw [eF] at cv
      have vv := sx_v S (H := F) (by omega) (by omega)
      refine pc_rA ?_; intro _ _ v40 e40
      rw [Int.toNat_natCast] at e40
      rw [← e40] at cv
      rw [← e40] at vv
      by_cases v0 : v40 = 0
      · rw [if_neg (show ¬ ¬ v40 = 0 from fun n => n v0)]
        refine pc_se (fun r er => pc_ret ?_)
        -- null
        unfold qj_X5_stepCall_51
        rw [qq.1]
        refine pc_add (by omega) ?_; intro v9 e9
        refine pc_rA ?_; intro _ _ v12 e12
        rw [Int.toNat_natCast, q7] at e12
        refine pc_sub (by omega) ?_; intro v13 e13
        rw [show v13 = (F : Int) by omega]
        refine pc_if (fun _ => ?_) (fun w => absurd (show (0 : Int) ≤ (F : Int) by omega) w)
        refine pc_if (fun w => absurd y2 w) (fun _ => ?_)
        refine pc_xl ?_; intro v16 e16
        rw [oq_mul_eq (by omega) (by omega) (by omega)] at e16
        refine pc_add (by omega) ?_; intro v17 e17
        refine pc_rA ?_; intro _ _ v18 e18
        rw [show v17.toNat = 30 * t + F by omega, vv] at e18
        rw [e18]
        refine pc_sv (rc_iso (B := B) E.1.1 (by omega) (.inl v0)) ?_; intro u20 q20
        refine pc_if (fun w => absurd v0 (by omega)) (fun _ => ?_)
        refine pc_xl ?_; intro h26 e26'
        refine pc_ret ?_
        obtain ⟨c0, r0⟩ := sx_c0 S (H := (B 254 t).toNat) (by omega)
        exact fin_f S c0 r0 (by omega) (c := 2) (by omega) e26' er
      · rw [if_pos (show ¬ v40 = 0 from v0)]
        obtain ⟨ob, so, UN⟩ := sx_sj hn S X hu hf hb.1 cv v0
        have UNb : UNq Bf nf cnt (B 246 v40.toNat) bb := by
          obtain ⟨x1, ex1⟩ := UN
          obtain ⟨x2, ex2, _⟩ := hf
          exact ⟨x1 + x2, by rw [ch_sf, ex1, ex2]⟩
        have TXm : TXq (Bf (bb - 8).toNat) (nf (bb - 8).toNat) (nt_S (Bf (bb - 8).toNat) (nf (bb - 8).toNat) jj 1) (Bf k) (nf k) (pt_S (Bf k) (nf k) o 1) := by
          obtain ⟨x2, _, _, ⟨_, nm, _⟩, _⟩ := hf
          exact nm
        have esr : sr_T (B 246 v40.toNat) = B 246 v40.toNat := by unfold sr_T; rw [if_neg (by omega)]
        refine pc_rA ?_; intro _ _ v42 e42
        refine pc_if (fun _ => ?_) (fun w => absurd (show v42 < 99 by omega) w)
        refine pc_rA ?_; intro _ _ v44 e44
        rw [e44]
        unfold qj_X13_call_166
        refine rr_168 S t4 t1 (D := B 246 v40.toNat) so (hno_no g3.1 so UN hf hb.1) (fun k3 j3 hf3 hk3 hj3 => ?_)
        refine pc_tw (C51 k3 j3 (fun w => absurd y2 w) (fun _ => ⟨⟨by rw [vv]; exact v0, by rw [vv]; exact ob⟩, ?_⟩) (jo_beg S hF (by omega) hk3 hj3))
        rw [vv, esr]
        exact rc_nst S so UNb hb hjm TXm hf3
    · rw [if_pos (show ¬ op = 182 from y2)]
      have nohf : ¬ HNo Bf nf cnt k (pt_S (Bf k) (nf k) o 1) 1 uu := fun no => hfd_n hf no
      refine rr_168 S t4 t1 (D := uu) hu nohf (fun k3 j3 hf3 hk3 hj3 => ?_)
      obtain ⟨e6, e7⟩ := hfd_u hf hf3
      exact pc_tw (C51 k3 j3 (fun _ => by omega) (fun w => absurd w y2) (jo_beg S hF (by omega) hk3 hj3))
  by_cases y2 : op = 182
  · rw [if_neg (show ¬ ¬ op = 182 from fun n => n y2), if_neg (show ¬ ¬ op = 182 from fun n => n y2)]
    exact GO 1 (by rw [if_neg (show ¬ op = 184 by omega)]; rfl)
  · rw [if_pos (show ¬ op = 182 from y2), if_pos (show ¬ op = 182 from y2)]
    exact GO 0 (by rw [if_pos (show op = 184 by omega)]; rfl)
end
