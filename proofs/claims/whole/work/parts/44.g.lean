/- HEADS: one member, pieces of both sides -/
section
variable {nn : Nat} {K P V U : Nat → Int} {C : Nat → Nat} {c n N : Nat} {h g r w u v : ms_M}
theorem twm_s {k s x : Int} {l : Nat} (q : MSm r k s l) : TWm V r (l + 1) k s x ↔ (TWm V r l k s x ∨ V (r 186 l).toNat = x) := by
  constructor
  · intro z
    obtain ⟨j, j1, j2, j3⟩ := z
    by_cases jl : j = l
    · rw [jl] at j3; exact .inr j3
    · exact .inl ⟨j, by omega, j2, j3⟩
  · intro z
    rcases z with ⟨j, j1, j2, j3⟩ | z
    · exact ⟨j, by omega, j2, j3⟩
    · exact ⟨l, by omega, q, z⟩
theorem twm_n {k s x : Int} {l : Nat} (q : ¬ MSm r k s l) : TWm V r (l + 1) k s x ↔ TWm V r l k s x := by
  constructor
  · intro z
    obtain ⟨j, j1, j2, j3⟩ := z
    by_cases jl : j = l
    · rw [jl] at j2; exact absurd j2 q
    · exact ⟨j, by omega, j2, j3⟩
  · intro z
    obtain ⟨j, j1, j2, j3⟩ := z
    exact ⟨j, by omega, j2, j3⟩
/-- the reference counts the members like member m ahead of it -/
theorem rh_35 (BK : TBn K c) (NM : NMr K V c r) {m : Nat} {k s : Int} (m8 : m ≤ 800) (HN : ∀ j : Nat, j ≤ m → 0 ≤ r 186 j ∧ K (r 186 j).toNat = 2) (A : MSm r k s m) {Q : ms_M → Prop} (Z : ∀ fl : Int, ((fl = 1 ∧ TWm V r m k s (V (r 186 m).toNat)) ∨ (fl = 0 ∧ ¬ TWm V r m k s (V (r 186 m).toNat))) → Pc (if ¬ (mcn_T r k s m : Int) = 12 then (qj_X13_memberHead_139 nn (m : Int) fl r) else (rd_A 800 186 (m : Int) r fun v59 => mx_sv (qf_X13_wrong nn 11 v59 r) fun u61 => qj_X13_memberHead_139 nn (m : Int) fl u61)) Q) : ∀ (f l : Nat) (fl : Int), l ≤ m → (mcn_T r k s l : Int) ≤ l → ((fl = 1 ∧ TWm V r l k s (V (r 186 m).toNat)) ∨ (fl = 0 ∧ ¬ TWm V r l k s (V (r 186 m).toNat))) → Pc (qw_X13_memberHead_35 nn f (m : Int) (mcn_T r k s l : Int) fl (l : Int) r) Q := by
  intro f
  induction f with
  | zero => intros; exact pc_none
  | succ f ih =>
    intro l fl hl hc F
    unfold qw_X13_memberHead_35
    refine pc_if (fun z => ?_) (fun z => ?_)
    · have lm : l = m := by omega
      rw [lm] at F ⊢
      exact Z fl F
    · have nm := HN m (by omega)
      have nl := HN l (by omega)
      have am := A.1
      -- another member
      have NX : ¬ MSm r k s l → ∀ v53 : Int, v53 = (l : Int) + 1 → Pc (qw_X13_memberHead_35 nn f (m : Int) (mcn_T r k s l : Int) fl v53 r) Q := fun y v53 e53 => by
        rw [show v53 = ((l + 1 : Nat) : Int) by omega, ← mcn_n y]
        refine ih (l + 1) fl (by omega) (by rw [mcn_n y]; omega) ?_
        rcases F with ⟨a, b⟩ | ⟨a, b⟩
        · exact .inl ⟨a, (twm_n y).mpr b⟩
        · exact .inr ⟨a, fun y2 => b ((twm_n y).mp y2)⟩
      have SM : MSm r k s l → Pc (xl (oq_add (mcn_T r k s l : Int) 1) fun v44 => rd_A 800 186 (l : Int) r fun v46 => rd_A 800 186 (m : Int) r fun v48 => mx_sv (qf_X13_isLike nn v46 v48 r) fun u50 => xl (oq_or fl u50) fun v51 => xl (oq_add (l : Int) 1) fun v52 => qw_X13_memberHead_35 nn f (m : Int) v44 v51 v52 r) Q := fun y => by
        refine pc_add (by omega) ?_; intro v44 e44
        refine pc_rA ?_; intro _ _ v46 e46
        refine pc_rA ?_; intro _ _ v48 e48
        rw [Int.toNat_natCast] at e46 e48
        refine pc_sv (r_like NM (i := (r 186 l).toNat) (j := (r 186 m).toNat) (tb_lt BK (by omega)) (tb_lt BK (by omega)) nl.2 nm.2 (by omega) (by omega)) ?_; intro u50 q50
        refine pc_xl ?_; intro v51 e51
        refine pc_add (by omega) ?_; intro v52 e52
        rw [show v52 = ((l + 1 : Nat) : Int) by omega, show v44 = (mcn_T r k s (l + 1) : Int) by rw [mcn_s y]; omega]
        refine ih (l + 1) v51 (by omega) (by rw [mcn_s y]; omega) ?_
        rcases F with ⟨a, b⟩ | ⟨a, b⟩
        · refine .inl ⟨?_, (twm_s y).mpr (.inl b)⟩
          rcases q50 with ⟨a5, b5⟩ | ⟨a5, b5⟩
          · rw [e51, a, a5]; decide +kernel
          · rw [e51, a, a5]; decide +kernel
        · rcases q50 with ⟨a5, b5⟩ | ⟨a5, b5⟩
          · refine .inl ⟨?_, (twm_s y).mpr (.inr b5)⟩
            rw [e51, a, a5]; decide +kernel
          · refine .inr ⟨?_, fun y2 => ?_⟩
            · rw [e51, a, a5]; decide +kernel
            · rcases (twm_s y).mp y2 with y3 | y3
              · exact b y3
              · exact b5 y3
      refine pc_rA ?_; intro _ _ v64 e64
      refine pc_rA ?_; intro _ _ v66 e66
      rw [Int.toNat_natCast] at e64 e66
      refine pc_if (fun y => ?_) (fun y => ?_)
      · refine pc_add (by omega) ?_; intro v67 e67
        exact NX (fun y2 => y (by rw [e64, e66, am]; exact y2.1)) v67 e67
      · have cl : r 181 l = k := by omega
        refine pc_rA ?_; intro _ _ v69 e69
        rw [Int.toNat_natCast] at e69
        have a2 := A.2
        refine pc_if (fun y9 => ?_) (fun y9 => ?_)
        · unfold qj_X13_memberHead_72
          refine pc_rA ?_; intro _ _ v56 e56
          rw [Int.toNat_natCast] at e56
          refine pc_if (fun y6 => ?_) (fun y6 => ?_)
          · unfold qj_X13_memberHead_86
            refine pc_if (fun _ => SM ⟨cl, by omega⟩) (fun y0 => absurd rfl y0)
          · unfold qj_X13_memberHead_86
            refine pc_if (fun y0 => absurd y0 (by decide)) (fun _ => ?_)
            refine pc_add (by omega) ?_; intro v53 e53
            exact NX (fun y2 => by have := y2.2; omega) v53 e53
        · unfold qj_X13_memberHead_72
          refine pc_rA ?_; intro _ _ v56 e56
          rw [Int.toNat_natCast] at e56
          refine pc_if (fun y6 => ?_) (fun y6 => ?_)
          · unfold qj_X13_memberHead_86
            refine pc_if (fun y0 => absurd y0 (by decide)) (fun _ => ?_)
            refine pc_add (by omega) ?_; intro v53 e53
            exact NX (fun y2 => by have := y2.2; omega) v53 e53
          · unfold qj_X13_memberHead_86
            refine pc_if (fun _ => SM ⟨cl, by omega⟩) (fun y0 => absurd rfl y0)
/-- a field of the class -/
theorem c_addField (BK : TBn K c) (B : TBc K P c g) (LV : VLc K V c g) (gf : g 2 11 = 0) {m k t : Nat} {q ty : Int} (M : MTB V C n m q g r) (hk : k < 8) (kt : K t = 2) : Pc (qf_X2_addField nn (k : Int) (t : Int) ty g) (fun u => (mcn_T r k 0 m = 12 ∧ u 2 11 = 11 ∧ u 2 12 = P t) ∨ (mcn_T r k 0 m < 12 ∧ TWm V r m k 0 (V t) ∧ u 2 11 = 4 ∧ u 2 12 = P t) ∨ (mcn_T r k 0 m < 12 ∧ ¬ TWm V r m k 0 (V t) ∧ (u 17 k = (mcn_T r k 0 m : Int) + 1 ∧ u 18 (12 * k + mcn_T r k 0 m) = V t ∧ u 19 (12 * k + mcn_T r k 0 m) = ty) ∧ ∀ cc y : Nat, ¬ (cc = 17 ∧ y = k) → ¬ ((cc = 18 ∨ cc = 19) ∧ y = 12 * k + mcn_T r k 0 m) → u cc y = g cc y)) := by
  obtain ⟨⟨m1, m2⟩, m3, m4⟩ := M.1 k hk
  have tc := tb_lt BK (i := t) (by omega)
  unfold qf_X2_addField
  refine pc_rA ?_; intro _ _ v14 e14
  rw [Int.toNat_natCast, m1] at e14
  refine pc_if (fun z => ?_) (fun z => ?_)
  · refine pc_sv (c_valueAt BK B LV kt rfl) ?_; intro u17 q17
    refine pc_sv (c_fIn M hk) ?_; intro u19 q19
    rw [q17] at q19 ⊢
    refine pc_if (fun y => ?_) (fun y => ?_)
    · have nt : ¬ TWm V r m k 0 (V t) := by
        rcases q19 with ⟨a, b⟩ | ⟨j, j1, j2, j3, j4⟩
        · exact b
        · omega
      unfold qj_X2_addField_52
      refine pc_xl ?_; intro v1 e1
      rw [oq_mul_eq (by omega) (by omega) (by omega)] at e1
      refine pc_rA ?_; intro _ _ v3 e3
      rw [Int.toNat_natCast, m1] at e3
      refine pc_add (by omega) ?_; intro v4 e4
      have x4 : v4.toNat = 12 * k + mcn_T r k 0 m := by omega
      refine pc_wA ?_; intro _ _ h6 e6
      rw [x4] at e6
      refine pc_wA ?_; intro _ _ h8 e8
      rw [x4] at e8
      refine pc_rA ?_; intro _ _ v10 e10
      rw [Int.toNat_natCast, e8, up_n (by omega), e6, up_n (by omega), m1] at e10
      refine pc_add (by omega) ?_; intro v11 e11
      refine pc_wA ?_; intro _ _ h12 e12
      rw [Int.toNat_natCast] at e12
      refine pc_ret (.inr (.inr ⟨by omega, nt, ⟨?_, ?_, ?_⟩, fun cc y z1 z2 => ?_⟩))
      · rw [e12, up_s]; omega
      · rw [e12, up_n (by omega), e8, up_n (by omega), e6, up_s]
      · rw [e12, up_n (by omega), e8, up_s]
      · rw [e12, up_n (by omega), e8, up_n (by omega), e6, up_n (by omega)]
    · refine pc_sv (c_tell B gf tc rfl) ?_; intro u22 q22
      refine pc_imp (fs_qj_X2_addField_52 (by rw [q22.1.1]; decide)) (fun u F => .inr (.inl ⟨by omega, ?_, by rw [F.1]; exact q22.1.1, by rw [F.2]; exact q22.1.2⟩))
      rcases q19 with ⟨a, b⟩ | ⟨j, j1, j2, j3, j4⟩
      · exact absurd a y
      · exact ⟨j, j1, j2, j3⟩
  · refine pc_sv (c_tell B gf tc rfl) ?_; intro u26 q26
    exact pc_ret (.inl ⟨by omega, q26.1⟩)
/-- a method of the class, as far as its parameters -/
theorem c_addMethod (BK : TBn K c) (B : TBc K P c g) (LV : VLc K V c g) (gf : g 2 11 = 0) {m k t p : Nat} {q ty fx : Int} (M : MTB V C n m q g r) (HN : ∀ j : Nat, j < m → 0 ≤ r 186 j ∧ K (r 186 j).toNat = 2) (hk : k < 8) (kt : K t = 2) (g10 : g 2 10 = (p : Int)) (p3 : p ≤ 3001) {Q : ms_M → Prop} (Z11 : mcn_T r k 1 m = 12 → ∀ u : ms_M, u 2 11 = 11 → u 2 12 = P t → Q u) (Z4 : mcn_T r k 1 m < 12 → TWm V r m k 1 (V t) → ∀ u : ms_M, u 2 11 = 4 → u 2 12 = P t → Q u) (Z0 : mcn_T r k 1 m < 12 → ¬ TWm V r m k 1 (V t) → ∀ u : ms_M, (u 2 10 = ((p + 1 : Nat) : Int) ∧ u 21 k = (mcn_T r k 1 m : Int) + 1 ∧ u 22 (12 * k + mcn_T r k 1 m) = (t : Int) ∧ u 24 (12 * k + mcn_T r k 1 m) = ty ∧ u 25 (12 * k + mcn_T r k 1 m) = fx ∧ u 27 (12 * k + mcn_T r k 1 m) = 0) → (∀ cc y : Nat, ¬ (cc = 2 ∧ y = 10) → ¬ (cc = 21 ∧ y = k) → ¬ ((cc = 22 ∨ cc = 24 ∨ cc = 25 ∨ cc = 27) ∧ y = 12 * k + mcn_T r k 1 m) → u cc y = g cc y) → Pc (qw_X2_addMethod_120 nn nn ((12 * k + mcn_T r k 1 m : Nat) : Int) 0 u) Q) : Pc (qf_X2_addMethod nn (k : Int) (t : Int) ty fx g) Q := by
  obtain ⟨⟨m1, m2⟩, m3, m4⟩ := M.1 k hk
  have tc := tb_lt BK (i := t) (by omega)
  unfold qf_X2_addMethod
  refine pc_rA ?_; intro _ _ v43 e43
  rw [Int.toNat_natCast, m2] at e43
  refine pc_if (fun z => ?_) (fun z => ?_)
  · refine pc_sv (c_valueAt BK B LV kt rfl) ?_; intro u46 q46
    refine pc_sv (c_mIn BK B LV M HN hk) ?_; intro u48 q48
    rw [q46] at q48
    refine pc_if (fun y => ?_) (fun y => ?_)
    · have nt : ¬ TWm V r m k 1 (V t) := by
        rcases q48 with ⟨a, b⟩ | ⟨j, j1, j2, j3, j4⟩
        · exact b
        · omega
      unfold qj_X2_addMethod_48
      refine pc_xl ?_; intro v22 e22
      rw [oq_mul_eq (by omega) (by omega) (by omega)] at e22
      refine pc_rA ?_; intro _ _ v24 e24
      rw [Int.toNat_natCast, m2] at e24
      refine pc_add (by omega) ?_; intro v25 e25
      have x4 : v25.toNat = 12 * k + mcn_T r k 1 m := by omega
      refine pc_wA ?_; intro _ _ h27 e27
      refine pc_wA ?_; intro _ _ h29 e29
      refine pc_wZ ?_; intro _ _ h31 e31
      refine pc_wA ?_; intro _ _ h33 e33
      rw [x4] at e27 e29 e31 e33
      refine pc_rA ?_; intro _ _ v35 e35
      rw [Int.toNat_natCast, e33, up_n (by omega), e31, up_n (by omega), e29, up_n (by omega), e27, up_n (by omega), m2] at e35
      refine pc_add (by omega) ?_; intro v36 e36
      refine pc_wA ?_; intro _ _ h37 e37
      rw [Int.toNat_natCast] at e37
      have e10 : h37 2 10 = (p : Int) := by rw [e37, up_n (by omega), e33, up_n (by omega), e31, up_n (by omega), e29, up_n (by omega), e27, up_n (by omega)]; exact g10
      rw [e10]
      refine pc_add (by omega) ?_; intro v40 e40
      refine pc_xl ?_; intro h41 e41
      rw [show v25 = ((12 * k + mcn_T r k 1 m : Nat) : Int) by omega]
      refine Z0 (by omega) nt h41 ⟨?_, ?_, ?_, ?_, ?_, ?_⟩ (fun cc y z1 z2 z3 => ?_)
      · rw [e41, up_s]; omega
      · rw [e41, up_n (by omega), e37, up_s]; omega
      · rw [e41, up_n (by omega), e37, up_n (by omega), e33, up_n (by omega), e31, up_n (by omega), e29, up_n (by omega), e27, up_s]
      · rw [e41, up_n (by omega), e37, up_n (by omega), e33, up_n (by omega), e31, up_n (by omega), e29, up_s]
      · rw [e41, up_n (by omega), e37, up_n (by omega), e33, up_n (by omega), e31, up_s]
      · rw [e41, up_n (by omega), e37, up_n (by omega), e33, up_s]
      · rw [e41, up_n (by omega), e37, up_n (by omega), e33, up_n (by omega), e31, up_n (by omega), e29, up_n (by omega), e27, up_n (by omega)]
    · refine pc_sv (c_tell B gf tc rfl) ?_; intro u51 q51
      refine pc_imp (fs_qj_X2_addMethod_48 (by rw [q51.1.1]; decide)) (fun u F => Z4 (by omega) ?_ u (by rw [F.1]; exact q51.1.1) (by rw [F.2]; exact q51.1.2))
      rcases q48 with ⟨a, b⟩ | ⟨j, j1, j2, j3, j4⟩
      · exact absurd a y
      · exact ⟨j, j1, j2, j3⟩
  · refine pc_sv (c_tell B gf tc rfl) ?_; intro u55 q55
    exact pc_ret (Z11 (by omega) u55 q55.1.1 q55.1.2)
/-- a parameter of the class: its name against those ahead of it -/
theorem c_54 (BK : TBn K c) (B : TBc K P c g) (gf : g 2 11 = 0) {x t cn : Nat} {ty vt : Int} (hx : x < 96) (kt : K t = 2) (g10 : g 2 10 = (t : Int)) (e27 : g 27 x = (cn : Int)) (c6 : cn < 6) {Q : ms_M → Prop} (Zd : (∃ i : Nat, i < cn ∧ g 28 (6 * x + i) = vt) → ∀ u : ms_M, u 2 11 = 4 → u 2 12 = P t → Q u) (Z0 : (∀ i : Nat, i < cn → ¬ g 28 (6 * x + i) = vt) → ∀ u : ms_M, ((K (t + 1) = 47 ∧ u 2 10 = ((t + 2 : Nat) : Int)) ∨ (¬ K (t + 1) = 47 ∧ u 2 10 = ((t + 1 : Nat) : Int))) → (u 27 x = (cn : Int) + 1 ∧ u 28 (6 * x + cn) = vt ∧ u 29 (6 * x + cn) = ty) → (∀ cc y : Nat, ¬ (cc = 2 ∧ y = 10) → ¬ (cc = 27 ∧ y = x) → ¬ ((cc = 28 ∨ cc = 29) ∧ y = 6 * x + cn) → u cc y = g cc y) → Q u) : ∀ (f l : Nat), l ≤ cn → (∀ i : Nat, i < l → ¬ g 28 (6 * x + i) = vt) → Pc (qw_X2_addParameter_54 nn f (x : Int) ty (t : Int) vt (6 * (x : Int)) (l : Int) g) Q := by
  have n3 := BK.2.1
  have tc := tb_lt BK (i := t) (by omega)
  intro f
  induction f with
  | zero => intros; exact pc_none
  | succ f ih =>
    intro l hl A
    unfold qw_X2_addParameter_54
    refine pc_rA ?_; intro _ _ v2 e2
    rw [Int.toNat_natCast, e27] at e2
    refine pc_if (fun z => ?_) (fun z => ?_)
    · refine pc_rA ?_; intro _ _ v5 e5
      rw [Int.toNat_natCast, e27] at e5
      refine pc_add (by omega) ?_; intro v6 e6
      refine pc_wA ?_; intro _ _ h7 e7
      rw [show v6.toNat = 6 * x + cn by omega] at e7
      refine pc_rA ?_; intro _ _ v10 e10
      rw [Int.toNat_natCast, e7, up_n (by omega), e27] at e10
      refine pc_add (by omega) ?_; intro v11 e11
      refine pc_wA ?_; intro _ _ h12 e12
      rw [show v11.toNat = 6 * x + cn by omega] at e12
      refine pc_rA ?_; intro _ _ v14 e14
      rw [Int.toNat_natCast, e12, up_n (by omega), e7, up_n (by omega), e27] at e14
      refine pc_add (by omega) ?_; intro v15 e15
      refine pc_wA ?_; intro _ _ h16 e16
      rw [Int.toNat_natCast] at e16
      have q10 : h16 2 10 = (t : Int) := by rw [e16, up_n (by omega), e12, up_n (by omega), e7, up_n (by omega)]; exact g10
      rw [q10]
      refine pc_add (by omega) ?_; intro v19 e19
      refine pc_xl ?_; intro h20 e20
      have F : ∀ cc y : Nat, ¬ (cc = 2 ∧ y = 10) → ¬ (cc = 27 ∧ y = x) → ¬ ((cc = 28 ∨ cc = 29) ∧ y = 6 * x + cn) → h20 cc y = g cc y := fun cc y z1 z2 z3 => by rw [e20, up_n (by omega), e16, up_n (by omega), e12, up_n (by omega), e7, up_n (by omega)]
      have G : h20 27 x = (cn : Int) + 1 ∧ h20 28 (6 * x + cn) = vt ∧ h20 29 (6 * x + cn) = ty := ⟨by rw [e20, up_n (by omega), e16, up_s]; omega, by rw [e20, up_n (by omega), e16, up_n (by omega), e12, up_n (by omega), e7, up_s], by rw [e20, up_n (by omega), e16, up_n (by omega), e12, up_s]⟩
      have G10 : h20 2 10 = ((t + 1 : Nat) : Int) := by rw [e20, up_s]; omega
      have B2 : TBc K P c h20 := tbc_k B (fun cc y q => F cc y (by omega) (by omega) (by omega))
      by_cases tl : t + 1 < c
      · refine pc_sv (c_kind BK B2 tl G10 (by rw [F 2 11 (by omega) (by omega) (by omega)]; exact gf)) ?_; intro u23 q23
        refine pc_if (fun y => ?_) (fun y => ?_)
        · exact pc_ret (Z0 (fun i hi => A i (by omega)) h20 (.inr ⟨by omega, G10⟩) G F)
        · rw [G10]
          refine pc_add (by omega) ?_; intro v26 e26
          refine pc_xl ?_; intro h27 e27'
          exact pc_ret (Z0 (fun i hi => A i (by omega)) h27 (.inl ⟨by omega, by rw [e27', up_s]; omega⟩) ⟨by rw [e27', up_n (by omega)]; exact G.1, by rw [e27', up_n (by omega)]; exact G.2.1, by rw [e27', up_n (by omega)]; exact G.2.2⟩ (fun cc y z1 z2 z3 => by rw [e27', up_n (by omega)]; exact F cc y z1 z2 z3))
      · -- no token behind: its kind is 0
        have k0 : K (t + 1) = 0 := BK.1 (t + 1) (by omega)
        refine pc_sv (P := fun a => a = 0) ?_ ?_
        · unfold qf_X9_kind
          have b1 := B2.1
          refine pc_if (fun _ => pc_ret rfl) (fun _ => ?_)
          refine pc_if (fun _ => pc_ret rfl) (fun _ => ?_)
          refine pc_if (fun _ => pc_ret rfl) (fun y => absurd (by omega) y)
        · intro u23 q23
          refine pc_if (fun y => ?_) (fun y => absurd (by omega) y)
          exact pc_ret (Z0 (fun i hi => A i (by omega)) h20 (.inr ⟨by omega, G10⟩) G F)
    · refine pc_add (by omega) ?_; intro v30 e30
      refine pc_rA ?_; intro _ _ v31 e31
      rw [show v30.toNat = 6 * x + l by omega] at e31
      refine pc_if (fun y => ?_) (fun y => ?_)
      · refine pc_add (by omega) ?_; intro v32 e32
        rw [show v32 = ((l + 1 : Nat) : Int) by omega]
        refine ih (l + 1) (by omega) (fun i hi => ?_)
        by_cases il : i = l
        · rw [il, ← e31]; exact y
        · exact A i (by omega)
      · refine pc_sv (c_tell B gf tc rfl) ?_; intro u35 q35
        refine pc_xl ?_; intro v36 _
        refine pc_imp (fs_qw_X2_addParameter_54 _ _ _ _ _ _ _ _ (by rw [q35.1.1]; decide)) (fun u F => Zd ⟨l, by omega, ?_⟩ u (by rw [F.1]; exact q35.1.1) (by rw [F.2]; exact q35.1.2))
        rw [← e31]; exact Classical.byContradiction y
/-- .. and of the reference -/
theorem r_239 (BK : TBn K c) (B : TBq K P c r) (NM : NMr K V c r) (rf : r 160 9 = 0) {m i b t : Nat} {qk : Int → Int → ms_M → Option ms_M} {Q : ms_M → Prop} (ib : i ≤ 1500 ∧ b ≤ 1500) (et : r 194 (b + i) = (t : Int)) (kt : K t = 2) (HP : ∀ j : Nat, j < i → 0 ≤ r 194 (b + j) ∧ K (r 194 (b + j)).toNat = 2) (Zd : (∃ j : Nat, j < i ∧ V (r 194 (b + j)).toNat = V t) → ∀ v : ms_M, v 160 9 = 4 → v 160 10 = P t → Q v) (Hk : ∀ (x y : Int) (z : ms_M), ¬ z 160 9 = 0 → Pc (qk x y z) (fun u => FSr z u)) (Z0 : (∀ j : Nat, j < i → ¬ V (r 194 (b + j)).toNat = V t) → Pc (qk (m : Int) ((i + 1 : Nat) : Int) r) Q) : ∀ (f l : Nat), l ≤ i → (∀ j : Nat, j < l → ¬ V (r 194 (b + j)).toNat = V t) → Pc (qw_X13_memberHead_239 nn qk f (m : Int) (i : Int) ((b + i : Nat) : Int) ((b + l : Nat) : Int) r) Q := by
  have tc := tb_lt BK (i := t) (by omega)
  intro f
  induction f with
  | zero => intros; exact pc_none
  | succ f ih =>
    intro l hl A
    unfold qw_X13_memberHead_239
    refine pc_if (fun z => ?_) (fun z => ?_)
    · refine pc_add (by omega) ?_; intro v1 e1
      rw [show v1 = ((i + 1 : Nat) : Int) by omega]
      exact Z0 (fun j hj => A j (by omega))
    · refine pc_rA ?_; intro _ _ v3 e3
      refine pc_rA ?_; intro _ _ v5 e5
      rw [Int.toNat_natCast] at e3 e5
      have q := HP l (by omega)
      refine pc_sv (r_like NM (i := (r 194 (b + l)).toNat) (j := t) (tb_lt BK (by omega)) tc q.2 kt (by omega) (by omega)) ?_; intro u7 q7
      refine pc_if (fun y => ?_) (fun y => ?_)
      · refine pc_add (by omega) ?_; intro v8 e8
        rw [show v8 = ((b + (l + 1) : Nat) : Int) by omega]
        refine ih (l + 1) (by omega) (fun j hj => ?_)
        by_cases jl : j = l
        · rw [jl]; rcases q7 with ⟨a, d⟩ | ⟨a, d⟩
          · omega
          · exact d
        · exact A j (by omega)
      · refine pc_rA ?_; intro _ _ v10 e10
        rw [Int.toNat_natCast, et] at e10
        refine pc_sv (r_wrg B rf tc e10) ?_; intro u12 q12
        refine pc_xl ?_; intro v13 _
        refine pc_imp (ft_qw_X13_memberHead_239 Hk _ _ _ _ _ _ (by rw [q12.1.1]; decide)) (fun v F => Zd ⟨l, by omega, ?_⟩ v (by rw [F.1]; exact q12.1.1) (by rw [F.2]; exact q12.1.2))
        rcases q7 with ⟨a, d⟩ | ⟨a, d⟩
        · exact d
        · exact absurd a y
end
