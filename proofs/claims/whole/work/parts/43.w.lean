/- HEADS: behind a FAULT it stays (class, reference) -/
section
variable {nn : Nat} {h g r : ms_M}
theorem fs_qf_X4_settle {h : ms_M} (S : ¬ h 2 11 = 0) : Pc (qf_X4_settle nn 12 h) (fun u => FSc h u) := fun u e => ⟨ff_X4_settle nn (by decide) u e 2 11 ⟨by decide, by decide⟩, ff_X4_settle nn (by decide) u e 2 12 ⟨by decide, by decide⟩⟩
theorem fs_qf_X4_setAbove {a1 a2 : Int} {h : ms_M} (S : ¬ h 2 11 = 0) : Pc (qf_X4_setAbove nn 12 a1 a2 h) (fun u => FSc h u) := fun u e => ⟨ff_X4_setAbove nn (by decide) u e 2 11 ⟨by decide, by decide⟩, ff_X4_setAbove nn (by decide) u e 2 12 ⟨by decide, by decide⟩⟩
theorem fs_qf_X9_copyName {a1 : Int} {a2 : Nat} {a3 : Int} {h : ms_M} (S : ¬ h 2 11 = 0) : Pc (qf_X9_copyName nn a1 a2 a3 h) (fun u => FSc h u) := fun u e => ⟨ff_X9_copyName nn u e 2 11 rfl, ff_X9_copyName nn u e 2 12 rfl⟩
theorem fs_qj_X2_readType_109 {l1 : Int} {l3 : Int} {l4 : Int} {h : ms_M} (S : ¬ h 2 11 = 0) : Pc (qj_X2_readType_109 nn l1 l3 l4 h) (fun u => FSc h u.2) := by
  have F : FSc h h := fs_r
  unfold qj_X2_readType_109
  refine pc_if (fun _ => ?_) (fun _ => ?_)
  · refine pc_if (fun _ => ?_) (fun _ => ?_)
    · exact pc_ret F
    · refine pc_xl ?_; intro v1 _
      exact pc_ret F
  · refine pc_if (fun _ => ?_) (fun _ => ?_)
    · exact pc_ret F
    · exact pc_ret F
theorem fs_qj_X2_readType_89 {l1 : Int} {l3 : Int} {s0 : Int} {h : ms_M} (S : ¬ h 2 11 = 0) : Pc (qj_X2_readType_89 nn l1 l3 s0 h) (fun u => FSc h u.2) := by
  have F : FSc h h := fs_r
  unfold qj_X2_readType_89
  refine pc_if (fun _ => ?_) (fun _ => ?_)
  · exact pc_imp (fs_qj_X2_readType_109 (fs_n S F)) (fun _ q => fs_t F q)
  · refine pc_xl ?_; intro v7 _
    refine pc_xl ?_; intro h8 Eh8
    have Fh8 : FSc h h8 := by rw [Eh8]; exact fs_u F (by omega)
    exact pc_imp (fs_qj_X2_readType_109 (fs_n S Fh8)) (fun _ q => fs_t Fh8 q)
theorem fs_qj_X2_readType_53 {l1 : Int} {l2 : Int} {s0 : Int} {h : ms_M} (S : ¬ h 2 11 = 0) : Pc (qj_X2_readType_53 nn l1 l2 s0 h) (fun u => FSc h u.2) := by
  have F : FSc h h := fs_r
  unfold qj_X2_readType_53
  refine pc_if (fun _ => ?_) (fun _ => ?_)
  · refine pc_se ?_; intro u12 _
    refine pc_if (fun _ => ?_) (fun _ => ?_)
    · exact pc_imp (fs_qj_X2_readType_89 (fs_n S F)) (fun _ q => fs_t F q)
    · exact pc_imp (fs_qj_X2_readType_89 (fs_n S F)) (fun _ q => fs_t F q)
  · refine pc_sv (fs_qf_X9_tell (fs_n S F)) ?_; intro u16 Qu16
    have Fu16 : FSc h u16 := fs_t F Qu16
    exact pc_ret Fu16
theorem fs_qf_X2_readType {h : ms_M} (S : ¬ h 2 11 = 0) : Pc (qf_X2_readType nn h) (fun u => FSc h u.2) := by
  have F : FSc h h := fs_r
  unfold qf_X2_readType
  refine pc_se ?_; intro u20 _
  refine pc_xl ?_; intro v25 _
  refine pc_xl ?_; intro h26 Eh26
  have Fh26 : FSc h h26 := by rw [Eh26]; exact fs_u F (by omega)
  refine pc_if (fun _ => ?_) (fun _ => ?_)
  · refine pc_if (fun _ => ?_) (fun _ => ?_)
    · exact pc_imp (fs_qj_X2_readType_53 (fs_n S Fh26)) (fun _ q => fs_t Fh26 q)
    · refine pc_se ?_; intro u28 _
      exact pc_imp (fs_qj_X2_readType_53 (fs_n S Fh26)) (fun _ q => fs_t Fh26 q)
  · exact pc_ret Fh26
theorem fs_qj_X2_checkOverride_131 {l1 : Int} {l3 : Int} {h : ms_M} (S : ¬ h 2 11 = 0) : Pc (qj_X2_checkOverride_131 nn l1 l3 h) (fun u => FSc h u) := by
  have F : FSc h h := fs_r
  unfold qj_X2_checkOverride_131
  refine pc_if (fun _ => ?_) (fun _ => ?_)
  · exact pc_ret F
  · refine pc_rA ?_; intro _ _ v3 _
    refine pc_sv (fs_qf_X9_tell (fs_n S F)) ?_; intro u5 Qu5
    have Fu5 : FSc h u5 := fs_t F Qu5
    exact pc_ret Fu5
theorem fs_qw_X2_checkOverride_87 : ∀ (k : Nat) (l1 : Int) (l2 : Int) (l3 : Int) (l4 : Int) (h : ms_M), ¬ h 2 11 = 0 → Pc (qw_X2_checkOverride_87 nn k l1 l2 l3 l4 h) (fun u => FSc h u) := by
  intro k
  induction k with
  | zero => intros; exact pc_none
  | succ k ih =>
    intro l1 l2 l3 l4 h S
    have F : FSc h h := fs_r
    unfold qw_X2_checkOverride_87
    refine pc_rA ?_; intro _ _ v8 _
    refine pc_if (fun _ => ?_) (fun _ => ?_)
    · exact pc_imp (fs_qj_X2_checkOverride_131 (fs_n S F)) (fun _ q => fs_t F q)
    · refine pc_if (fun _ => ?_) (fun _ => ?_)
      · exact pc_imp (fs_qj_X2_checkOverride_131 (fs_n S F)) (fun _ q => fs_t F q)
      · refine pc_se ?_; intro u10 _
        refine pc_se ?_; intro u12 _
        refine pc_if (fun _ => ?_) (fun _ => ?_)
        · refine pc_xl ?_; intro v13 _
          exact pc_imp (ih _ _ _ _ _ (fs_n S F)) (fun _ q => fs_t F q)
        · refine pc_xl ?_; intro v14 _
          exact pc_imp (ih _ _ _ _ _ (fs_n S F)) (fun _ q => fs_t F q)
theorem fs_qj_X2_checkOverride_82 {l1 : Int} {l2 : Int} {h : ms_M} (S : ¬ h 2 11 = 0) : Pc (qj_X2_checkOverride_82 nn l1 l2 h) (fun u => FSc h u) := by
  have F : FSc h h := fs_r
  unfold qj_X2_checkOverride_82
  exact pc_imp (fs_qw_X2_checkOverride_87 _ _ _ _ _ _ (fs_n S F)) (fun _ q => fs_t F q)
theorem fs_qf_X2_checkOverride {a1 : Int} {h : ms_M} (S : ¬ h 2 11 = 0) : Pc (qf_X2_checkOverride nn a1 h) (fun u => FSc h u) := by
  have F : FSc h h := fs_r
  unfold qf_X2_checkOverride
  refine pc_xl ?_; intro v19 _
  refine pc_xl ?_; intro v20 _
  refine pc_se ?_; intro u22 _
  refine pc_se ?_; intro u24 _
  refine pc_se ?_; intro u26 _
  refine pc_if (fun _ => ?_) (fun _ => ?_)
  · refine pc_rA ?_; intro _ _ v28 _
    refine pc_if (fun _ => ?_) (fun _ => ?_)
    · exact pc_imp (fs_qj_X2_checkOverride_82 (fs_n S F)) (fun _ q => fs_t F q)
    · refine pc_rA ?_; intro _ _ v30 _
      refine pc_if (fun _ => ?_) (fun _ => ?_)
      · exact pc_imp (fs_qj_X2_checkOverride_82 (fs_n S F)) (fun _ q => fs_t F q)
      · refine pc_rA ?_; intro _ _ v32 _
        refine pc_rA ?_; intro _ _ v34 _
        refine pc_if (fun _ => ?_) (fun _ => ?_)
        · exact pc_imp (fs_qj_X2_checkOverride_82 (fs_n S F)) (fun _ q => fs_t F q)
        · refine pc_rA ?_; intro _ _ v36 _
          refine pc_rA ?_; intro _ _ v38 _
          refine pc_if (fun _ => ?_) (fun _ => ?_)
          · exact pc_imp (fs_qj_X2_checkOverride_82 (fs_n S F)) (fun _ q => fs_t F q)
          · exact pc_imp (fs_qw_X2_checkOverride_87 _ _ _ _ _ _ (fs_n S F)) (fun _ q => fs_t F q)
  · exact pc_ret F
theorem fs_qw_X2_checkOverrides_2 : ∀ (k : Nat) (l1 : Int) (h : ms_M), ¬ h 2 11 = 0 → Pc (qw_X2_checkOverrides_2 nn k l1 h) (fun u => FSc h u) := by
  intro k
  induction k with
  | zero => intros; exact pc_none
  | succ k ih =>
    intro l1 h S
    have F : FSc h h := fs_r
    unfold qw_X2_checkOverrides_2
    refine pc_if (fun _ => ?_) (fun _ => ?_)
    · exact pc_ret F
    · refine pc_if (fun _ => ?_) (fun _ => ?_)
      · exact pc_ret F
      · refine pc_se ?_; intro u6 _
        refine pc_if (fun _ => ?_) (fun _ => ?_)
        · refine pc_xl ?_; intro v7 _
          exact pc_imp (ih _ _ (fs_n S F)) (fun _ q => fs_t F q)
        · refine pc_sv (fs_qf_X2_checkOverride (fs_n S F)) ?_; intro u9 Qu9
          have Fu9 : FSc h u9 := fs_t F Qu9
          refine pc_xl ?_; intro v10 _
          exact pc_imp (ih _ _ (fs_n S Fu9)) (fun _ q => fs_t Fu9 q)
theorem fs_qf_X2_checkOverrides {h : ms_M} (S : ¬ h 2 11 = 0) : Pc (qf_X2_checkOverrides nn h) (fun u => FSc h u) := by
  have F : FSc h h := fs_r
  unfold qf_X2_checkOverrides
  exact pc_imp (fs_qw_X2_checkOverrides_2 _ _ _ (fs_n S F)) (fun _ q => fs_t F q)
theorem fs_qf_X2_addKindByte {a1 : Int} {h : ms_M} (S : ¬ h 2 11 = 0) : Pc (qf_X2_addKindByte nn a1 h) (fun u => FSc h u) := fun u e => ⟨ff_X2_addKindByte nn u e 2 11 rfl, ff_X2_addKindByte nn u e 2 12 rfl⟩
theorem fs_qj_X2_addKind_20 {l2 : Int} {h : ms_M} (S : ¬ h 2 11 = 0) : Pc (qj_X2_addKind_20 nn l2 h) (fun u => FSc h u) := by
  have F : FSc h h := fs_r
  unfold qj_X2_addKind_20
  refine pc_se ?_; intro u1 _
  refine pc_if (fun _ => ?_) (fun _ => ?_)
  · refine pc_sv (fs_qf_X2_addKindByte (fs_n S F)) ?_; intro u3 Qu3
    have Fu3 : FSc h u3 := fs_t F Qu3
    refine pc_rA ?_; intro _ _ v5 _
    refine pc_sv (fs_qf_X9_copyName (fs_n S Fu3)) ?_; intro u10 Qu10
    have Fu10 : FSc h u10 := fs_t Fu3 Qu10
    refine pc_se ?_; intro u14 _
    refine pc_xl ?_; intro v15 _
    refine pc_xl ?_; intro v18 _
    refine pc_xl ?_; intro h19 Eh19
    have Fh19 : FSc h h19 := by rw [Eh19]; exact fs_u Fu10 (by omega)
    refine pc_sv (fs_qf_X2_addKindByte (fs_n S Fh19)) ?_; intro u21 Qu21
    have Fu21 : FSc h u21 := fs_t Fh19 Qu21
    exact pc_ret Fu21
  · refine pc_if (fun _ => ?_) (fun _ => ?_)
    · refine pc_if (fun _ => ?_) (fun _ => ?_)
      · refine pc_sv (fs_qf_X2_addKindByte (fs_n S F)) ?_; intro u23 Qu23
        have Fu23 : FSc h u23 := fs_t F Qu23
        exact pc_ret Fu23
      · refine pc_sv (fs_qf_X2_addKindByte (fs_n S F)) ?_; intro u25 Qu25
        have Fu25 : FSc h u25 := fs_t F Qu25
        exact pc_ret Fu25
    · refine pc_sv (fs_qf_X2_addKindByte (fs_n S F)) ?_; intro u28 Qu28
      have Fu28 : FSc h u28 := fs_t F Qu28
      exact pc_ret Fu28
theorem fs_qf_X2_addKind {a1 : Int} {h : ms_M} (S : ¬ h 2 11 = 0) : Pc (qf_X2_addKind nn a1 h) (fun u => FSc h u) := fun u e => ⟨ff_X2_addKind nn u e 2 11 rfl, ff_X2_addKind nn u e 2 12 rfl⟩
theorem fs_qf_X9_closeName {a1 : Int} {h : ms_M} (S : ¬ h 2 11 = 0) : Pc (qf_X9_closeName nn a1 h) (fun u => FSc h u) := fun u e => ⟨ff_X9_closeName nn u e 2 11 rfl, ff_X9_closeName nn u e 2 12 rfl⟩
theorem fs_qj_X9_nameOf_79 {l1 : Nat} {l2 : Int} {l3 : Int} {h : ms_M} (S : ¬ h 2 11 = 0) : Pc (qj_X9_nameOf_79 nn l1 l2 l3 h) (fun u => FSc h u.2) := by
  have F : FSc h h := fs_r
  unfold qj_X9_nameOf_79
  refine pc_rA ?_; intro _ _ v3 _
  refine pc_if (fun _ => ?_) (fun _ => ?_)
  · exact pc_ret F
  · refine pc_xl ?_; intro v5 _
    refine pc_if (fun _ => ?_) (fun _ => ?_)
    · refine pc_cpS ?_; intro h9 Eh9
      have Fh9 : FSc h h9 := by rw [Eh9]; exact fs_c F (by decide)
      refine pc_xl ?_; intro v10 _
      refine pc_sv (fs_qf_X9_closeName (fs_n S Fh9)) ?_; intro u12 Qu12
      have Fu12 : FSc h u12 := fs_t Fh9 Qu12
      refine pc_xl ?_; intro v14 _
      exact pc_ret Fu12
    · exact pc_ret F
theorem fs_qw_X9_nameOf_35 : ∀ (k : Nat) (l1 : Nat) (l2 : Int) (l3 : Int) (l4 : Int) (l5 : Int) (h : ms_M), ¬ h 2 11 = 0 → Pc (qw_X9_nameOf_35 nn k l1 l2 l3 l4 l5 h) (fun u => FSc h u.2) := by
  intro k
  induction k with
  | zero => intros; exact pc_none
  | succ k ih =>
    intro l1 l2 l3 l4 l5 h S
    have F : FSc h h := fs_r
    unfold qw_X9_nameOf_35
    refine pc_if (fun _ => ?_) (fun _ => ?_)
    · exact pc_imp (fs_qj_X9_nameOf_79 (fs_n S F)) (fun _ q => fs_t F q)
    · refine pc_if (fun _ => ?_) (fun _ => ?_)
      · exact pc_imp (fs_qj_X9_nameOf_79 (fs_n S F)) (fun _ q => fs_t F q)
      · refine pc_se ?_; intro u18 _
        refine pc_if (fun _ => ?_) (fun _ => ?_)
        · refine pc_rA ?_; intro _ _ v20 _
          refine pc_xl ?_; intro v21 _
          exact pc_imp (ih _ _ _ _ _ _ (fs_n S F)) (fun _ q => fs_t F q)
        · exact pc_ret F
theorem fs_qf_X9_nameOf {a1 : Nat} {a2 : Int} {a3 : Int} {h : ms_M} (S : ¬ h 2 11 = 0) : Pc (qf_X9_nameOf nn a1 a2 a3 h) (fun u => FSc h u.2) := fun u e => ⟨ff_X9_nameOf nn u e 2 11 rfl, ff_X9_nameOf nn u e 2 12 rfl⟩
theorem fs_qf_X2_nameKind {a1 : Int} {h : ms_M} (S : ¬ h 2 11 = 0) : Pc (qf_X2_nameKind nn a1 h) (fun u => FSc h u.2) := fun u e => ⟨ff_X2_nameKind nn u e 2 11 rfl, ff_X2_nameKind nn u e 2 12 rfl⟩
theorem fs_qw_X2_nameMethodKind_13 : ∀ (k : Nat) (l1 : Int) (l2 : Int) (h : ms_M), ¬ h 2 11 = 0 → Pc (qw_X2_nameMethodKind_13 nn k l1 l2 h) (fun u => FSc h u.2) := by
  intro k
  induction k with
  | zero => intros; exact pc_none
  | succ k ih =>
    intro l1 l2 h S
    have F : FSc h h := fs_r
    unfold qw_X2_nameMethodKind_13
    refine pc_rA ?_; intro _ _ v2 _
    refine pc_if (fun _ => ?_) (fun _ => ?_)
    · refine pc_sv (fs_qf_X2_addKindByte (fs_n S F)) ?_; intro u4 Qu4
      have Fu4 : FSc h u4 := fs_t F Qu4
      refine pc_rA ?_; intro _ _ v6 _
      refine pc_sv (fs_qf_X2_addKind (fs_n S Fu4)) ?_; intro u8 Qu8
      have Fu8 : FSc h u8 := fs_t Fu4 Qu8
      refine pc_sv (fs_qf_X9_nameOf (fs_n S Fu8)) ?_; intro u13 Qu13
      have Fu13 : FSc h u13.2 := fs_t Fu8 Qu13
      exact pc_ret Fu13
    · refine pc_se ?_; intro u15 _
      refine pc_sv (fs_qf_X2_addKind (fs_n S F)) ?_; intro u17 Qu17
      have Fu17 : FSc h u17 := fs_t F Qu17
      refine pc_xl ?_; intro v18 _
      exact pc_imp (ih _ _ _ (fs_n S Fu17)) (fun _ q => fs_t Fu17 q)
theorem fs_qf_X2_nameMethodKind {a1 : Int} {h : ms_M} (S : ¬ h 2 11 = 0) : Pc (qf_X2_nameMethodKind nn a1 h) (fun u => FSc h u.2) := fun u e => ⟨ff_X2_nameMethodKind nn u e 2 11 rfl, ff_X2_nameMethodKind nn u e 2 12 rfl⟩
theorem fs_qw_X2_nameKinds_144 : ∀ (k : Nat) (l1 : Int) (h : ms_M), ¬ h 2 11 = 0 → Pc (qw_X2_nameKinds_144 nn k l1 h) (fun u => FSc h u) := by
  intro k
  induction k with
  | zero => intros; exact pc_none
  | succ k ih =>
    intro l1 h S
    have F : FSc h h := fs_r
    unfold qw_X2_nameKinds_144
    refine pc_if (fun _ => ?_) (fun _ => ?_)
    · exact pc_ret F
    · refine pc_if (fun _ => ?_) (fun _ => ?_)
      · exact pc_ret F
      · refine pc_se ?_; intro u6 _
        refine pc_if (fun _ => ?_) (fun _ => ?_)
        · refine pc_xl ?_; intro v7 _
          exact pc_imp (ih _ _ (fs_n S F)) (fun _ q => fs_t F q)
        · refine pc_sv (fs_qf_X2_nameMethodKind (fs_n S F)) ?_; intro u10 Qu10
          have Fu10 : FSc h u10.2 := fs_t F Qu10
          refine pc_wA ?_; intro _ _ h11 Eh11
          have Fh11 : FSc h h11 := by rw [Eh11]; exact fs_u Fu10 (by omega)
          refine pc_xl ?_; intro v12 _
          exact pc_imp (ih _ _ (fs_n S Fh11)) (fun _ q => fs_t Fh11 q)
theorem fs_qw_X2_nameKinds_85 : ∀ (k : Nat) (l1 : Int) (h : ms_M), ¬ h 2 11 = 0 → Pc (qw_X2_nameKinds_85 nn k l1 h) (fun u => FSc h u) := by
  intro k
  induction k with
  | zero => intros; exact pc_none
  | succ k ih =>
    intro l1 h S
    have F : FSc h h := fs_r
    unfold qw_X2_nameKinds_85
    refine pc_if (fun _ => ?_) (fun _ => ?_)
    · exact pc_imp (fs_qw_X2_nameKinds_144 _ _ _ (fs_n S F)) (fun _ q => fs_t F q)
    · refine pc_if (fun _ => ?_) (fun _ => ?_)
      · exact pc_imp (fs_qw_X2_nameKinds_144 _ _ _ (fs_n S F)) (fun _ q => fs_t F q)
      · refine pc_xl ?_; intro v20 _
        refine pc_xl ?_; intro v22 _
        refine pc_rA ?_; intro _ _ v23 _
        refine pc_if (fun _ => ?_) (fun _ => ?_)
        · refine pc_xl ?_; intro v24 _
          exact pc_imp (ih _ _ (fs_n S F)) (fun _ q => fs_t F q)
        · refine pc_rA ?_; intro _ _ v27 _
          refine pc_sv (fs_qf_X2_nameKind (fs_n S F)) ?_; intro u29 Qu29
          have Fu29 : FSc h u29.2 := fs_t F Qu29
          refine pc_wA ?_; intro _ _ h30 Eh30
          have Fh30 : FSc h h30 := by rw [Eh30]; exact fs_u Fu29 (by omega)
          refine pc_xl ?_; intro v31 _
          exact pc_imp (ih _ _ (fs_n S Fh30)) (fun _ q => fs_t Fh30 q)
theorem fs_qj_X2_nameKinds_59 {l1 : Int} {s0 : Int} {s1 : Int} {qkk_2 : Int → ms_M → Option ms_M} (Hqkk_2 : ∀ (z0 : Int) (z1 : ms_M), ¬ z1 2 11 = 0 → Pc (qkk_2 z0 z1) (fun u => FSc z1 u)) {h : ms_M} (S : ¬ h 2 11 = 0) : Pc (qj_X2_nameKinds_59 nn qkk_2 l1 s0 s1 h) (fun u => FSc h u) := by
  have F : FSc h h := fs_r
  unfold qj_X2_nameKinds_59
  refine pc_wA ?_; intro _ _ h35 Eh35
  have Fh35 : FSc h h35 := by rw [Eh35]; exact fs_u F (by omega)
  refine pc_xl ?_; intro v37 _
  refine pc_xl ?_; intro v38 _
  refine pc_sv (fs_qf_X2_nameKind (fs_n S Fh35)) ?_; intro u40 Qu40
  have Fu40 : FSc h u40.2 := fs_t Fh35 Qu40
  refine pc_wA ?_; intro _ _ h41 Eh41
  have Fh41 : FSc h h41 := by rw [Eh41]; exact fs_u Fu40 (by omega)
  refine pc_xl ?_; intro v42 _
  exact pc_imp (Hqkk_2 _ _ (fs_n S Fh41)) (fun _ q => fs_t Fh41 q)
theorem fs_qw_X2_nameKinds_2 : ∀ (k : Nat) (l1 : Int) (h : ms_M), ¬ h 2 11 = 0 → Pc (qw_X2_nameKinds_2 nn k l1 h) (fun u => FSc h u) := by
  intro k
  induction k with
  | zero => intros; exact pc_none
  | succ k ih =>
    intro l1 h S
    have F : FSc h h := fs_r
    unfold qw_X2_nameKinds_2
    refine pc_xl ?_; intro v44 _
    refine pc_if (fun _ => ?_) (fun _ => ?_)
    · exact pc_imp (fs_qw_X2_nameKinds_85 _ _ _ (fs_n S F)) (fun _ q => fs_t F q)
    · refine pc_if (fun _ => ?_) (fun _ => ?_)
      · exact pc_imp (fs_qw_X2_nameKinds_85 _ _ _ (fs_n S F)) (fun _ q => fs_t F q)
      · refine pc_if (fun _ => ?_) (fun _ => ?_)
        · exact pc_imp (fs_qw_X2_nameKinds_85 _ _ _ (fs_n S F)) (fun _ q => fs_t F q)
        · refine pc_if (fun _ => ?_) (fun _ => ?_)
          · refine pc_xl ?_; intro v49 _
            refine pc_se ?_; intro u51 _
            refine pc_se ?_; intro u53 _
            exact pc_imp (fs_qj_X2_nameKinds_59 (fun _ _ S => ih _ _ S) (fs_n S F)) (fun _ q => fs_t F q)
          · exact pc_imp (fs_qj_X2_nameKinds_59 (fun _ _ S => ih _ _ S) (fs_n S F)) (fun _ q => fs_t F q)
theorem fs_qf_X2_nameKinds {h : ms_M} (S : ¬ h 2 11 = 0) : Pc (qf_X2_nameKinds nn h) (fun u => FSc h u) := fun u e => ⟨ff_X2_nameKinds nn u e 2 11 rfl, ff_X2_nameKinds nn u e 2 12 rfl⟩
theorem fs_qj_X2_checkClassHead_64 {l1 : Int} {l2 : Int} {h : ms_M} (S : ¬ h 2 11 = 0) : Pc (qj_X2_checkClassHead_64 nn l1 l2 h) (fun u => FSc h u) := by
  have F : FSc h h := fs_r
  unfold qj_X2_checkClassHead_64
  refine pc_se ?_; intro u2 _
  refine pc_if (fun _ => ?_) (fun _ => ?_)
  · exact pc_ret F
  · refine pc_xl ?_; intro v4 _
    refine pc_sv (fs_qf_X9_tell (fs_n S F)) ?_; intro u6 Qu6
    have Fu6 : FSc h u6 := fs_t F Qu6
    exact pc_ret Fu6
theorem fs_qj_X2_checkClassHead_44 {l1 : Int} {l2 : Int} {h : ms_M} (S : ¬ h 2 11 = 0) : Pc (qj_X2_checkClassHead_44 nn l1 l2 h) (fun u => FSc h u) := by
  have F : FSc h h := fs_r
  unfold qj_X2_checkClassHead_44
  refine pc_se ?_; intro u9 _
  refine pc_if (fun _ => ?_) (fun _ => ?_)
  · exact pc_imp (fs_qj_X2_checkClassHead_64 (fs_n S F)) (fun _ q => fs_t F q)
  · refine pc_xl ?_; intro v11 _
    refine pc_sv (fs_qf_X9_tell (fs_n S F)) ?_; intro u13 Qu13
    have Fu13 : FSc h u13 := fs_t F Qu13
    exact pc_imp (fs_qj_X2_checkClassHead_64 (fs_n S Fu13)) (fun _ q => fs_t Fu13 q)
theorem fs_qj_X2_checkClassHead_23 {l1 : Int} {l2 : Int} {h : ms_M} (S : ¬ h 2 11 = 0) : Pc (qj_X2_checkClassHead_23 nn l1 l2 h) (fun u => FSc h u) := by
  have F : FSc h h := fs_r
  unfold qj_X2_checkClassHead_23
  refine pc_se ?_; intro u16 _
  refine pc_xl ?_; intro v17 _
  refine pc_if (fun _ => ?_) (fun _ => ?_)
  · exact pc_imp (fs_qj_X2_checkClassHead_44 (fs_n S F)) (fun _ q => fs_t F q)
  · refine pc_sv (fs_qf_X9_tell (fs_n S F)) ?_; intro u20 Qu20
    have Fu20 : FSc h u20 := fs_t F Qu20
    exact pc_imp (fs_qj_X2_checkClassHead_44 (fs_n S Fu20)) (fun _ q => fs_t Fu20 q)
theorem fs_qf_X2_checkClassHead {a1 : Int} {h : ms_M} (S : ¬ h 2 11 = 0) : Pc (qf_X2_checkClassHead nn a1 h) (fun u => FSc h u) := by
  have F : FSc h h := fs_r
  unfold qf_X2_checkClassHead
  refine pc_rA ?_; intro _ _ v23 _
  refine pc_if (fun _ => ?_) (fun _ => ?_)
  · exact pc_imp (fs_qj_X2_checkClassHead_23 (fs_n S F)) (fun _ q => fs_t F q)
  · refine pc_sv (fs_qf_X9_tell (fs_n S F)) ?_; intro u26 Qu26
    have Fu26 : FSc h u26 := fs_t F Qu26
    exact pc_imp (fs_qj_X2_checkClassHead_23 (fs_n S Fu26)) (fun _ q => fs_t Fu26 q)
theorem fs_qw_X2_nameClasses_47 : ∀ (k : Nat) (l1 : Int) (h : ms_M), ¬ h 2 11 = 0 → Pc (qw_X2_nameClasses_47 nn k l1 h) (fun u => FSc h u) := by
  intro k
  induction k with
  | zero => intros; exact pc_none
  | succ k ih =>
    intro l1 h S
    have F : FSc h h := fs_r
    unfold qw_X2_nameClasses_47
    refine pc_if (fun _ => ?_) (fun _ => ?_)
    · exact pc_ret F
    · refine pc_rA ?_; intro _ _ v4 _
      refine pc_se ?_; intro u6 _
      refine pc_if (fun _ => ?_) (fun _ => ?_)
      · refine pc_xl ?_; intro v9 _
        exact pc_imp (ih _ _ (fs_n S F)) (fun _ q => fs_t F q)
      · refine pc_rA ?_; intro _ _ v11 _
        refine pc_if (fun _ => ?_) (fun _ => ?_)
        · refine pc_xl ?_; intro v12 _
          exact pc_imp (ih _ _ (fs_n S F)) (fun _ q => fs_t F q)
        · refine pc_xl ?_; intro v14 _
          refine pc_wA ?_; intro _ _ h15 Eh15
          have Fh15 : FSc h h15 := by rw [Eh15]; exact fs_u F (by omega)
          refine pc_xl ?_; intro v16 _
          exact pc_imp (ih _ _ (fs_n S Fh15)) (fun _ q => fs_t Fh15 q)
theorem fs_qw_X2_nameClasses_2 : ∀ (k : Nat) (l1 : Int) (h : ms_M), ¬ h 2 11 = 0 → Pc (qw_X2_nameClasses_2 nn k l1 h) (fun u => FSc h u) := by
  intro k
  induction k with
  | zero => intros; exact pc_none
  | succ k ih =>
    intro l1 h S
    have F : FSc h h := fs_r
    unfold qw_X2_nameClasses_2
    refine pc_if (fun _ => ?_) (fun _ => ?_)
    · exact pc_imp (fs_qw_X2_nameClasses_47 _ _ _ (fs_n S F)) (fun _ q => fs_t F q)
    · refine pc_if (fun _ => ?_) (fun _ => ?_)
      · exact pc_imp (fs_qw_X2_nameClasses_47 _ _ _ (fs_n S F)) (fun _ q => fs_t F q)
      · refine pc_if (fun _ => ?_) (fun _ => ?_)
        · refine pc_wA ?_; intro _ _ h25 Eh25
          have Fh25 : FSc h h25 := by rw [Eh25]; exact fs_u F (by omega)
          refine pc_xl ?_; intro v26 _
          exact pc_imp (ih _ _ (fs_n S Fh25)) (fun _ q => fs_t Fh25 q)
        · refine pc_wA ?_; intro _ _ h27 Eh27
          have Fh27 : FSc h h27 := by rw [Eh27]; exact fs_u F (by omega)
          refine pc_xl ?_; intro v28 _
          exact pc_imp (ih _ _ (fs_n S Fh27)) (fun _ q => fs_t Fh27 q)
theorem fs_qf_X2_nameClasses {h : ms_M} (S : ¬ h 2 11 = 0) : Pc (qf_X2_nameClasses nn h) (fun u => FSc h u) := fun u e => ⟨ff_X2_nameClasses nn u e 2 11 rfl, ff_X2_nameClasses nn u e 2 12 rfl⟩
theorem fs_qj_X2_readClasses_88 {h : ms_M} (S : ¬ h 2 11 = 0) : Pc (qj_X2_readClasses_88 nn h) (fun u => FSc h u) := by
  have F : FSc h h := fs_r
  unfold qj_X2_readClasses_88
  refine pc_sv (fs_qf_X4_settle (fs_n S F)) ?_; intro u3 Qu3
  have Fu3 : FSc h u3 := fs_t F Qu3
  exact pc_ret Fu3
theorem fs_qw_X2_readClasses_48 : ∀ (k : Nat) (l1 : Int) (h : ms_M), ¬ h 2 11 = 0 → Pc (qw_X2_readClasses_48 nn k l1 h) (fun u => FSc h u) := by
  intro k
  induction k with
  | zero => intros; exact pc_none
  | succ k ih =>
    intro l1 h S
    have F : FSc h h := fs_r
    unfold qw_X2_readClasses_48
    refine pc_if (fun _ => ?_) (fun _ => ?_)
    · exact pc_imp (fs_qj_X2_readClasses_88 (fs_n S F)) (fun _ q => fs_t F q)
    · refine pc_if (fun _ => ?_) (fun _ => ?_)
      · exact pc_imp (fs_qj_X2_readClasses_88 (fs_n S F)) (fun _ q => fs_t F q)
      · refine pc_xl ?_; intro v8 _
        refine pc_se ?_; intro u10 _
        refine pc_sv (fs_qf_X4_setAbove (fs_n S F)) ?_; intro u12 Qu12
        have Fu12 : FSc h u12 := fs_t F Qu12
        refine pc_xl ?_; intro v13 _
        exact pc_imp (ih _ _ (fs_n S Fu12)) (fun _ q => fs_t Fu12 q)
theorem fs_qw_X2_readClasses_17 : ∀ (k : Nat) (l1 : Int) (h : ms_M), ¬ h 2 11 = 0 → Pc (qw_X2_readClasses_17 nn k l1 h) (fun u => FSc h u) := by
  intro k
  induction k with
  | zero => intros; exact pc_none
  | succ k ih =>
    intro l1 h S
    have F : FSc h h := fs_r
    unfold qw_X2_readClasses_17
    refine pc_if (fun _ => ?_) (fun _ => ?_)
    · exact pc_imp (fs_qw_X2_readClasses_48 _ _ _ (fs_n S F)) (fun _ q => fs_t F q)
    · refine pc_if (fun _ => ?_) (fun _ => ?_)
      · exact pc_imp (fs_qw_X2_readClasses_48 _ _ _ (fs_n S F)) (fun _ q => fs_t F q)
      · refine pc_sv (fs_qf_X2_checkClassHead (fs_n S F)) ?_; intro u20 Qu20
        have Fu20 : FSc h u20 := fs_t F Qu20
        refine pc_xl ?_; intro v21 _
        exact pc_imp (ih _ _ (fs_n S Fu20)) (fun _ q => fs_t Fu20 q)
theorem fs_qf_X2_readClasses {h : ms_M} (S : ¬ h 2 11 = 0) : Pc (qf_X2_readClasses nn h) (fun u => FSc h u) := by
  have F : FSc h h := fs_r
  unfold qf_X2_readClasses
  refine pc_if (fun _ => ?_) (fun _ => ?_)
  · refine pc_sv (fs_qf_X2_nameClasses (fs_n S F)) ?_; intro u27 Qu27
    have Fu27 : FSc h u27 := fs_t F Qu27
    exact pc_imp (fs_qw_X2_readClasses_17 _ _ _ (fs_n S Fu27)) (fun _ q => fs_t Fu27 q)
  · exact pc_ret F
theorem fs_qj_X2_addField_52 {l1 : Int} {l3 : Int} {l4 : Int} {h : ms_M} (S : ¬ h 2 11 = 0) : Pc (qj_X2_addField_52 nn l1 l3 l4 h) (fun u => FSc h u) := by
  have F : FSc h h := fs_r
  unfold qj_X2_addField_52
  refine pc_xl ?_; intro v1 _
  refine pc_rA ?_; intro _ _ v3 _
  refine pc_xl ?_; intro v4 _
  refine pc_wA ?_; intro _ _ h6 Eh6
  have Fh6 : FSc h h6 := by rw [Eh6]; exact fs_u F (by omega)
  refine pc_wA ?_; intro _ _ h8 Eh8
  have Fh8 : FSc h h8 := by rw [Eh8]; exact fs_u Fh6 (by omega)
  refine pc_rA ?_; intro _ _ v10 _
  refine pc_xl ?_; intro v11 _
  refine pc_wA ?_; intro _ _ h12 Eh12
  have Fh12 : FSc h h12 := by rw [Eh12]; exact fs_u Fh8 (by omega)
  exact pc_ret Fh12
theorem fs_qf_X2_addField {a1 : Int} {a2 : Int} {a3 : Int} {h : ms_M} (S : ¬ h 2 11 = 0) : Pc (qf_X2_addField nn a1 a2 a3 h) (fun u => FSc h u) := by
  have F : FSc h h := fs_r
  unfold qf_X2_addField
  refine pc_rA ?_; intro _ _ v14 _
  refine pc_if (fun _ => ?_) (fun _ => ?_)
  · refine pc_se ?_; intro u17 _
    refine pc_se ?_; intro u19 _
    refine pc_if (fun _ => ?_) (fun _ => ?_)
    · exact pc_imp (fs_qj_X2_addField_52 (fs_n S F)) (fun _ q => fs_t F q)
    · refine pc_sv (fs_qf_X9_tell (fs_n S F)) ?_; intro u22 Qu22
      have Fu22 : FSc h u22 := fs_t F Qu22
      exact pc_imp (fs_qj_X2_addField_52 (fs_n S Fu22)) (fun _ q => fs_t Fu22 q)
  · refine pc_sv (fs_qf_X9_tell (fs_n S F)) ?_; intro u26 Qu26
    have Fu26 : FSc h u26 := fs_t F Qu26
    exact pc_ret Fu26
theorem fs_qw_X2_addParameter_54 : ∀ (k : Nat) (l1 : Int) (l2 : Int) (l3 : Int) (l4 : Int) (l5 : Int) (l6 : Int) (h : ms_M), ¬ h 2 11 = 0 → Pc (qw_X2_addParameter_54 nn k l1 l2 l3 l4 l5 l6 h) (fun u => FSc h u) := by
  intro k
  induction k with
  | zero => intros; exact pc_none
  | succ k ih =>
    intro l1 l2 l3 l4 l5 l6 h S
    have F : FSc h h := fs_r
    unfold qw_X2_addParameter_54
    refine pc_rA ?_; intro _ _ v2 _
    refine pc_if (fun _ => ?_) (fun _ => ?_)
    · refine pc_rA ?_; intro _ _ v5 _
      refine pc_xl ?_; intro v6 _
      refine pc_wA ?_; intro _ _ h7 Eh7
      have Fh7 : FSc h h7 := by rw [Eh7]; exact fs_u F (by omega)
      refine pc_rA ?_; intro _ _ v10 _
      refine pc_xl ?_; intro v11 _
      refine pc_wA ?_; intro _ _ h12 Eh12
      have Fh12 : FSc h h12 := by rw [Eh12]; exact fs_u Fh7 (by omega)
      refine pc_rA ?_; intro _ _ v14 _
      refine pc_xl ?_; intro v15 _
      refine pc_wA ?_; intro _ _ h16 Eh16
      have Fh16 : FSc h h16 := by rw [Eh16]; exact fs_u Fh12 (by omega)
      refine pc_xl ?_; intro v19 _
      refine pc_xl ?_; intro h20 Eh20
      have Fh20 : FSc h h20 := by rw [Eh20]; exact fs_u Fh16 (by omega)
      refine pc_se ?_; intro u23 _
      refine pc_if (fun _ => ?_) (fun _ => ?_)
      · exact pc_ret Fh20
      · refine pc_xl ?_; intro v26 _
        refine pc_xl ?_; intro h27 Eh27
        have Fh27 : FSc h h27 := by rw [Eh27]; exact fs_u Fh20 (by omega)
        exact pc_ret Fh27
    · refine pc_xl ?_; intro v30 _
      refine pc_rA ?_; intro _ _ v31 _
      refine pc_if (fun _ => ?_) (fun _ => ?_)
      · refine pc_xl ?_; intro v32 _
        exact pc_imp (ih _ _ _ _ _ _ _ (fs_n S F)) (fun _ q => fs_t F q)
      · refine pc_sv (fs_qf_X9_tell (fs_n S F)) ?_; intro u35 Qu35
        have Fu35 : FSc h u35 := fs_t F Qu35
        refine pc_xl ?_; intro v36 _
        exact pc_imp (ih _ _ _ _ _ _ _ (fs_n S Fu35)) (fun _ q => fs_t Fu35 q)
theorem fs_qf_X2_addParameter {a1 : Int} {h : ms_M} (S : ¬ h 2 11 = 0) : Pc (qf_X2_addParameter nn a1 h) (fun u => FSc h u) := by
  have F : FSc h h := fs_r
  unfold qf_X2_addParameter
  refine pc_sv (fs_qf_X2_readType (fs_n S F)) ?_; intro u40 Qu40
  have Fu40 : FSc h u40.2 := fs_t F Qu40
  refine pc_se ?_; intro u45 _
  refine pc_xl ?_; intro v46 _
  refine pc_rA ?_; intro _ _ v48 _
  refine pc_if (fun _ => ?_) (fun _ => ?_)
  · exact pc_imp (fs_qw_X2_addParameter_54 _ _ _ _ _ _ _ _ (fs_n S Fu40)) (fun _ q => fs_t Fu40 q)
  · refine pc_sv (fs_qf_X9_tell (fs_n S Fu40)) ?_; intro u51 Qu51
    have Fu51 : FSc h u51 := fs_t Fu40 Qu51
    exact pc_ret Fu51
theorem fs_qj_X2_skipBlock_60 {l1 : Int} {l3 : Int} {qkk_6 : Int → Int → Int → ms_M → Option ms_M} (Hqkk_6 : ∀ (z0 : Int) (z1 : Int) (z2 : Int) (z3 : ms_M), ¬ z3 2 11 = 0 → Pc (qkk_6 z0 z1 z2 z3) (fun u => FSc z3 u)) {h : ms_M} (S : ¬ h 2 11 = 0) : Pc (qj_X2_skipBlock_60 nn qkk_6 l1 l3 h) (fun u => FSc h u) := by
  have F : FSc h h := fs_r
  unfold qj_X2_skipBlock_60
  refine pc_xl ?_; intro v3 _
  refine pc_xl ?_; intro h4 Eh4
  have Fh4 : FSc h h4 := by rw [Eh4]; exact fs_u F (by omega)
  refine pc_if (fun _ => ?_) (fun _ => ?_)
  · refine pc_xl ?_; intro v5 _
    exact pc_imp (Hqkk_6 _ _ _ _ (fs_n S Fh4)) (fun _ q => fs_t Fh4 q)
  · refine pc_xl ?_; intro v6 _
    exact pc_imp (Hqkk_6 _ _ _ _ (fs_n S Fh4)) (fun _ q => fs_t Fh4 q)
theorem fs_qw_X2_skipBlock_6 : ∀ (k : Nat) (l1 : Int) (l2 : Int) (l3 : Int) (h : ms_M), ¬ h 2 11 = 0 → Pc (qw_X2_skipBlock_6 nn k l1 l2 l3 h) (fun u => FSc h u) := by
  intro k
  induction k with
  | zero => intros; exact pc_none
  | succ k ih =>
    intro l1 l2 l3 h S
    have F : FSc h h := fs_r
    unfold qw_X2_skipBlock_6
    refine pc_if (fun _ => ?_) (fun _ => ?_)
    · exact pc_ret F
    · refine pc_if (fun _ => ?_) (fun _ => ?_)
      · exact pc_ret F
      · refine pc_se ?_; intro u10 _
        refine pc_if (fun _ => ?_) (fun _ => ?_)
        · exact pc_ret F
        · refine pc_se ?_; intro u13 _
          refine pc_if (fun _ => ?_) (fun _ => ?_)
          · refine pc_se ?_; intro u16 _
            refine pc_if (fun _ => ?_) (fun _ => ?_)
            · exact pc_imp (fs_qj_X2_skipBlock_60 (fun _ _ _ _ S => ih _ _ _ _ S) (fs_n S F)) (fun _ q => fs_t F q)
            · refine pc_xl ?_; intro v17 _
              exact pc_imp (fs_qj_X2_skipBlock_60 (fun _ _ _ _ S => ih _ _ _ _ S) (fs_n S F)) (fun _ q => fs_t F q)
          · refine pc_xl ?_; intro v19 _
            exact pc_imp (fs_qj_X2_skipBlock_60 (fun _ _ _ _ S => ih _ _ _ _ S) (fs_n S F)) (fun _ q => fs_t F q)
theorem fs_qf_X2_skipBlock {h : ms_M} (S : ¬ h 2 11 = 0) : Pc (qf_X2_skipBlock nn h) (fun u => FSc h u) := fun u e => ⟨ff_X2_skipBlock nn u e 2 11 rfl, ff_X2_skipBlock nn u e 2 12 rfl⟩
theorem fs_qj_X2_addMethod_162 {l5 : Int} {h : ms_M} (S : ¬ h 2 11 = 0) : Pc (qj_X2_addMethod_162 nn l5 h) (fun u => FSc h u) := by
  have F : FSc h h := fs_r
  unfold qj_X2_addMethod_162
  refine pc_xl ?_; intro v3 _
  refine pc_xl ?_; intro h4 Eh4
  have Fh4 : FSc h h4 := by rw [Eh4]; exact fs_u F (by omega)
  refine pc_wA ?_; intro _ _ h8 Eh8
  have Fh8 : FSc h h8 := by rw [Eh8]; exact fs_u Fh4 (by omega)
  refine pc_sv (fs_qf_X2_skipBlock (fs_n S Fh8)) ?_; intro u10 Qu10
  have Fu10 : FSc h u10 := fs_t Fh8 Qu10
  exact pc_ret Fu10
theorem fs_qw_X2_addMethod_120 : ∀ (k : Nat) (l5 : Int) (l6 : Int) (h : ms_M), ¬ h 2 11 = 0 → Pc (qw_X2_addMethod_120 nn k l5 l6 h) (fun u => FSc h u) := by
  intro k
  induction k with
  | zero => intros; exact pc_none
  | succ k ih =>
    intro l5 l6 h S
    have F : FSc h h := fs_r
    unfold qw_X2_addMethod_120
    refine pc_if (fun _ => ?_) (fun _ => ?_)
    · exact pc_imp (fs_qj_X2_addMethod_162 (fs_n S F)) (fun _ q => fs_t F q)
    · refine pc_if (fun _ => ?_) (fun _ => ?_)
      · exact pc_imp (fs_qj_X2_addMethod_162 (fs_n S F)) (fun _ q => fs_t F q)
      · refine pc_se ?_; intro u15 _
        refine pc_if (fun _ => ?_) (fun _ => ?_)
        · exact pc_imp (fs_qj_X2_addMethod_162 (fs_n S F)) (fun _ q => fs_t F q)
        · refine pc_sv (fs_qf_X2_addParameter (fs_n S F)) ?_; intro u17 Qu17
          have Fu17 : FSc h u17 := fs_t F Qu17
          refine pc_xl ?_; intro v18 _
          exact pc_imp (ih _ _ _ (fs_n S Fu17)) (fun _ q => fs_t Fu17 q)
theorem fs_qj_X2_addMethod_48 {l1 : Int} {l2 : Int} {l3 : Int} {l4 : Int} {h : ms_M} (S : ¬ h 2 11 = 0) : Pc (qj_X2_addMethod_48 nn l1 l2 l3 l4 h) (fun u => FSc h u) := by
  have F : FSc h h := fs_r
  unfold qj_X2_addMethod_48
  refine pc_xl ?_; intro v22 _
  refine pc_rA ?_; intro _ _ v24 _
  refine pc_xl ?_; intro v25 _
  refine pc_wA ?_; intro _ _ h27 Eh27
  have Fh27 : FSc h h27 := by rw [Eh27]; exact fs_u F (by omega)
  refine pc_wA ?_; intro _ _ h29 Eh29
  have Fh29 : FSc h h29 := by rw [Eh29]; exact fs_u Fh27 (by omega)
  refine pc_wZ ?_; intro _ _ h31 Eh31
  have Fh31 : FSc h h31 := by rw [Eh31]; exact fs_u Fh29 (by omega)
  refine pc_wA ?_; intro _ _ h33 Eh33
  have Fh33 : FSc h h33 := by rw [Eh33]; exact fs_u Fh31 (by omega)
  refine pc_rA ?_; intro _ _ v35 _
  refine pc_xl ?_; intro v36 _
  refine pc_wA ?_; intro _ _ h37 Eh37
  have Fh37 : FSc h h37 := by rw [Eh37]; exact fs_u Fh33 (by omega)
  refine pc_xl ?_; intro v40 _
  refine pc_xl ?_; intro h41 Eh41
  have Fh41 : FSc h h41 := by rw [Eh41]; exact fs_u Fh37 (by omega)
  exact pc_imp (fs_qw_X2_addMethod_120 _ _ _ _ (fs_n S Fh41)) (fun _ q => fs_t Fh41 q)
theorem fs_qf_X2_addMethod {a1 : Int} {a2 : Int} {a3 : Int} {a4 : Int} {h : ms_M} (S : ¬ h 2 11 = 0) : Pc (qf_X2_addMethod nn a1 a2 a3 a4 h) (fun u => FSc h u) := by
  have F : FSc h h := fs_r
  unfold qf_X2_addMethod
  refine pc_rA ?_; intro _ _ v43 _
  refine pc_if (fun _ => ?_) (fun _ => ?_)
  · refine pc_se ?_; intro u46 _
    refine pc_se ?_; intro u48 _
    refine pc_if (fun _ => ?_) (fun _ => ?_)
    · exact pc_imp (fs_qj_X2_addMethod_48 (fs_n S F)) (fun _ q => fs_t F q)
    · refine pc_sv (fs_qf_X9_tell (fs_n S F)) ?_; intro u51 Qu51
      have Fu51 : FSc h u51 := fs_t F Qu51
      exact pc_imp (fs_qj_X2_addMethod_48 (fs_n S Fu51)) (fun _ q => fs_t Fu51 q)
  · refine pc_sv (fs_qf_X9_tell (fs_n S F)) ?_; intro u55 Qu55
    have Fu55 : FSc h u55 := fs_t F Qu55
    exact pc_ret Fu55
theorem fs_qj_X2_readMember_72 {l1 : Int} {l2 : Int} {l3 : Int} {h : ms_M} (S : ¬ h 2 11 = 0) : Pc (qj_X2_readMember_72 nn l1 l2 l3 h) (fun u => FSc h u) := by
  have F : FSc h h := fs_r
  unfold qj_X2_readMember_72
  refine pc_xl ?_; intro v5 _
  refine pc_xl ?_; intro h6 Eh6
  have Fh6 : FSc h h6 := by rw [Eh6]; exact fs_u F (by omega)
  refine pc_se ?_; intro u9 _
  refine pc_if (fun _ => ?_) (fun _ => ?_)
  · refine pc_if (fun _ => ?_) (fun _ => ?_)
    · exact pc_ret Fh6
    · refine pc_sv (fs_qf_X2_addMethod (fs_n S Fh6)) ?_; intro u13 Qu13
      have Fu13 : FSc h u13 := fs_t Fh6 Qu13
      exact pc_ret Fu13
  · refine pc_xl ?_; intro v17 _
    refine pc_xl ?_; intro h18 Eh18
    have Fh18 : FSc h h18 := by rw [Eh18]; exact fs_u Fh6 (by omega)
    refine pc_sv (fs_qf_X2_addField (fs_n S Fh18)) ?_; intro u20 Qu20
    have Fu20 : FSc h u20 := fs_t Fh18 Qu20
    exact pc_ret Fu20
theorem fs_qj_X2_readMember_35 {l1 : Int} {l2 : Int} {h : ms_M} (S : ¬ h 2 11 = 0) : Pc (qj_X2_readMember_35 nn l1 l2 h) (fun u => FSc h u) := by
  have F : FSc h h := fs_r
  unfold qj_X2_readMember_35
  refine pc_se ?_; intro u24 _
  refine pc_if (fun _ => ?_) (fun _ => ?_)
  · refine pc_sv (fs_qf_X2_readType (fs_n S F)) ?_; intro u26 Qu26
    have Fu26 : FSc h u26.2 := fs_t F Qu26
    exact pc_imp (fs_qj_X2_readMember_72 (fs_n S Fu26)) (fun _ q => fs_t Fu26 q)
  · refine pc_xl ?_; intro v29 _
    refine pc_xl ?_; intro h30 Eh30
    have Fh30 : FSc h h30 := by rw [Eh30]; exact fs_u F (by omega)
    exact pc_imp (fs_qj_X2_readMember_72 (fs_n S Fh30)) (fun _ q => fs_t Fh30 q)
theorem fs_qj_X2_readMember_17 {l1 : Int} {s0 : Int} {h : ms_M} (S : ¬ h 2 11 = 0) : Pc (qj_X2_readMember_17 nn l1 s0 h) (fun u => FSc h u) := by
  have F : FSc h h := fs_r
  unfold qj_X2_readMember_17
  refine pc_if (fun _ => ?_) (fun _ => ?_)
  · exact pc_imp (fs_qj_X2_readMember_35 (fs_n S F)) (fun _ q => fs_t F q)
  · refine pc_xl ?_; intro v34 _
    refine pc_xl ?_; intro h35 Eh35
    have Fh35 : FSc h h35 := by rw [Eh35]; exact fs_u F (by omega)
    exact pc_imp (fs_qj_X2_readMember_35 (fs_n S Fh35)) (fun _ q => fs_t Fh35 q)
theorem fs_qf_X2_readMember {a1 : Int} {h : ms_M} (S : ¬ h 2 11 = 0) : Pc (qf_X2_readMember nn a1 h) (fun u => FSc h u) := by
  have F : FSc h h := fs_r
  unfold qf_X2_readMember
  refine pc_se ?_; intro u39 _
  refine pc_if (fun _ => ?_) (fun _ => ?_)
  · exact pc_imp (fs_qj_X2_readMember_17 (fs_n S F)) (fun _ q => fs_t F q)
  · exact pc_imp (fs_qj_X2_readMember_17 (fs_n S F)) (fun _ q => fs_t F q)
theorem fs_qw_X2_readMembers_57 {qkk_2 : Int → ms_M → Option ms_M} (Hqkk_2 : ∀ (z0 : Int) (z1 : ms_M), ¬ z1 2 11 = 0 → Pc (qkk_2 z0 z1) (fun u => FSc z1 u)) : ∀ (k : Nat) (l1 : Int) (l3 : Int) (h : ms_M), ¬ h 2 11 = 0 → Pc (qw_X2_readMembers_57 nn qkk_2 k l1 l3 h) (fun u => FSc h u) := by
  intro k
  induction k with
  | zero => intros; exact pc_none
  | succ k ih =>
    intro l1 l3 h S
    have F : FSc h h := fs_r
    unfold qw_X2_readMembers_57
    refine pc_if (fun _ => ?_) (fun _ => ?_)
    · refine pc_xl ?_; intro v1 _
      exact pc_imp (Hqkk_2 _ _ (fs_n S F)) (fun _ q => fs_t F q)
    · refine pc_if (fun _ => ?_) (fun _ => ?_)
      · refine pc_xl ?_; intro v4 _
        exact pc_imp (Hqkk_2 _ _ (fs_n S F)) (fun _ q => fs_t F q)
      · refine pc_se ?_; intro u7 _
        refine pc_if (fun _ => ?_) (fun _ => ?_)
        · refine pc_xl ?_; intro v8 _
          exact pc_imp (Hqkk_2 _ _ (fs_n S F)) (fun _ q => fs_t F q)
        · refine pc_sv (fs_qf_X2_readMember (fs_n S F)) ?_; intro u10 Qu10
          have Fu10 : FSc h u10 := fs_t F Qu10
          refine pc_xl ?_; intro v11 _
          exact pc_imp (ih _ _ _ (fs_n S Fu10)) (fun _ q => fs_t Fu10 q)
theorem fs_qj_X2_readMembers_51 {l1 : Int} {s0 : Int} {s1 : Int} {qkk_2 : Int → ms_M → Option ms_M} (Hqkk_2 : ∀ (z0 : Int) (z1 : ms_M), ¬ z1 2 11 = 0 → Pc (qkk_2 z0 z1) (fun u => FSc z1 u)) {h : ms_M} (S : ¬ h 2 11 = 0) : Pc (qj_X2_readMembers_51 nn qkk_2 l1 s0 s1 h) (fun u => FSc h u) := by
  have F : FSc h h := fs_r
  unfold qj_X2_readMembers_51
  refine pc_xl ?_; intro v15 _
  refine pc_xl ?_; intro h16 Eh16
  have Fh16 : FSc h h16 := by rw [Eh16]; exact fs_u F (by omega)
  exact pc_imp (fs_qw_X2_readMembers_57 Hqkk_2 _ _ _ _ (fs_n S Fh16)) (fun _ q => fs_t Fh16 q)
theorem fs_qw_X2_readMembers_2 : ∀ (k : Nat) (l1 : Int) (h : ms_M), ¬ h 2 11 = 0 → Pc (qw_X2_readMembers_2 nn k l1 h) (fun u => FSc h u) := by
  intro k
  induction k with
  | zero => intros; exact pc_none
  | succ k ih =>
    intro l1 h S
    have F : FSc h h := fs_r
    unfold qw_X2_readMembers_2
    refine pc_if (fun _ => ?_) (fun _ => ?_)
    · exact pc_ret F
    · refine pc_if (fun _ => ?_) (fun _ => ?_)
      · exact pc_ret F
      · refine pc_se ?_; intro u21 _
        refine pc_xl ?_; intro v24 _
        refine pc_se ?_; intro u26 _
        refine pc_if (fun _ => ?_) (fun _ => ?_)
        · exact pc_imp (fs_qj_X2_readMembers_51 (fun _ _ S => ih _ _ S) (fs_n S F)) (fun _ q => fs_t F q)
        · exact pc_imp (fs_qj_X2_readMembers_51 (fun _ _ S => ih _ _ S) (fs_n S F)) (fun _ q => fs_t F q)
theorem fs_qf_X2_readMembers {h : ms_M} (S : ¬ h 2 11 = 0) : Pc (qf_X2_readMembers nn h) (fun u => FSc h u) := by
  have F : FSc h h := fs_r
  unfold qf_X2_readMembers
  exact pc_imp (fs_qw_X2_readMembers_2 _ _ _ (fs_n S F)) (fun _ q => fs_t F q)
theorem ft_qj_X13_typeOf_56 {l3 : Int} {l4 : Int} {h : ms_M} (S : ¬ h 160 9 = 0) : Pc (qj_X13_typeOf_56 nn l3 l4 h) (fun u => FSr h u.2) := by
  have F : FSr h h := ft_r
  unfold qj_X13_typeOf_56
  refine pc_xl ?_; intro v1 _
  refine pc_xl ?_; intro v2 _
  refine pc_if (fun _ => ?_) (fun _ => ?_)
  · refine pc_xl ?_; intro v3 _
    exact pc_ret F
  · refine pc_xl ?_; intro v4 _
    exact pc_ret F
theorem ft_qf_X13_typeOf {a1 : Int} {a2 : Int} {a3 : Int} {h : ms_M} (S : ¬ h 160 9 = 0) : Pc (qf_X13_typeOf nn a1 a2 a3 h) (fun u => FSr h u.2) := by
  have F : FSr h h := ft_r
  unfold qf_X13_typeOf
  refine pc_if (fun _ => ?_) (fun _ => ?_)
  · refine pc_if (fun _ => ?_) (fun _ => ?_)
    · refine pc_if (fun _ => ?_) (fun _ => ?_)
      · refine pc_if (fun _ => ?_) (fun _ => ?_)
        · refine pc_se ?_; intro u8 _
          refine pc_if (fun _ => ?_) (fun _ => ?_)
          · exact pc_imp (ft_qj_X13_typeOf_56 (ft_n S F)) (fun _ q => ft_t F q)
          · refine pc_sv (ft_qf_X13_wrong (ft_n S F)) ?_; intro u10 Qu10
            have Fu10 : FSr h u10 := ft_t F Qu10
            exact pc_imp (ft_qj_X13_typeOf_56 (ft_n S Fu10)) (fun _ q => ft_t Fu10 q)
        · exact pc_ret F
      · exact pc_ret F
    · refine pc_if (fun _ => ?_) (fun _ => ?_)
      · exact pc_ret F
      · exact pc_ret F
  · exact pc_ret F
theorem ft_qw_X13_memberHead_239 {qkk_157 : Int → Int → ms_M → Option ms_M} (Hqkk_157 : ∀ (z0 : Int) (z1 : Int) (z2 : ms_M), ¬ z2 160 9 = 0 → Pc (qkk_157 z0 z1 z2) (fun u => FSr z2 u)) : ∀ (k : Nat) (l1 : Int) (l4 : Int) (l5 : Int) (l6 : Int) (h : ms_M), ¬ h 160 9 = 0 → Pc (qw_X13_memberHead_239 nn qkk_157 k l1 l4 l5 l6 h) (fun u => FSr h u) := by
  intro k
  induction k with
  | zero => intros; exact pc_none
  | succ k ih =>
    intro l1 l4 l5 l6 h S
    have F : FSr h h := ft_r
    unfold qw_X13_memberHead_239
    refine pc_if (fun _ => ?_) (fun _ => ?_)
    · refine pc_xl ?_; intro v1 _
      exact pc_imp (Hqkk_157 _ _ _ (ft_n S F)) (fun _ q => ft_t F q)
    · refine pc_rA ?_; intro _ _ v3 _
      refine pc_rA ?_; intro _ _ v5 _
      refine pc_se ?_; intro u7 _
      refine pc_if (fun _ => ?_) (fun _ => ?_)
      · refine pc_xl ?_; intro v8 _
        exact pc_imp (ih _ _ _ _ _ (ft_n S F)) (fun _ q => ft_t F q)
      · refine pc_rA ?_; intro _ _ v10 _
        refine pc_sv (ft_qf_X13_wrong (ft_n S F)) ?_; intro u12 Qu12
        have Fu12 : FSr h u12 := ft_t F Qu12
        refine pc_xl ?_; intro v13 _
        exact pc_imp (ih _ _ _ _ _ (ft_n S Fu12)) (fun _ q => ft_t Fu12 q)
theorem ft_qj_X13_memberHead_231 {l1 : Int} {l4 : Int} {l5 : Int} {qkk_157 : Int → Int → ms_M → Option ms_M} (Hqkk_157 : ∀ (z0 : Int) (z1 : Int) (z2 : ms_M), ¬ z2 160 9 = 0 → Pc (qkk_157 z0 z1 z2) (fun u => FSr z2 u)) {h : ms_M} (S : ¬ h 160 9 = 0) : Pc (qj_X13_memberHead_231 nn qkk_157 l1 l4 l5 h) (fun u => FSr h u) := by
  have F : FSr h h := ft_r
  unfold qj_X13_memberHead_231
  refine pc_rA ?_; intro _ _ v17 _
  exact pc_imp (ft_qw_X13_memberHead_239 Hqkk_157 _ _ _ _ _ _ (ft_n S F)) (fun _ q => ft_t F q)
theorem ft_qw_X13_memberHead_157 : ∀ (k : Nat) (l1 : Int) (l4 : Int) (h : ms_M), ¬ h 160 9 = 0 → Pc (qw_X13_memberHead_157 nn k l1 l4 h) (fun u => FSr h u) := by
  intro k
  induction k with
  | zero => intros; exact pc_none
  | succ k ih =>
    intro l1 l4 h S
    have F : FSr h h := ft_r
    unfold qw_X13_memberHead_157
    refine pc_rA ?_; intro _ _ v19 _
    refine pc_if (fun _ => ?_) (fun _ => ?_)
    · exact pc_ret F
    · refine pc_rA ?_; intro _ _ v21 _
      refine pc_xl ?_; intro v22 _
      refine pc_rA ?_; intro _ _ v25 _
      refine pc_rA ?_; intro _ _ v27 _
      refine pc_rA ?_; intro _ _ v29 _
      refine pc_sv (ft_qf_X13_typeOf (ft_n S F)) ?_; intro u31 Qu31
      have Fu31 : FSr h u31.2 := ft_t F Qu31
      refine pc_wA ?_; intro _ _ h32 Eh32
      have Fh32 : FSr h h32 := by rw [Eh32]; exact ft_u Fu31 (by omega)
      refine pc_if (fun _ => ?_) (fun _ => ?_)
      · exact pc_imp (ft_qj_X13_memberHead_231 (fun _ _ _ S => ih _ _ _ S) (ft_n S Fh32)) (fun _ q => ft_t Fh32 q)
      · refine pc_rA ?_; intro _ _ v34 _
        refine pc_sv (ft_qf_X13_wrong (ft_n S Fh32)) ?_; intro u36 Qu36
        have Fu36 : FSr h u36 := ft_t Fh32 Qu36
        exact pc_imp (ft_qj_X13_memberHead_231 (fun _ _ _ S => ih _ _ _ S) (ft_n S Fu36)) (fun _ q => ft_t Fu36 q)
theorem ft_qj_X13_memberHead_139 {l1 : Int} {l3 : Int} {h : ms_M} (S : ¬ h 160 9 = 0) : Pc (qj_X13_memberHead_139 nn l1 l3 h) (fun u => FSr h u) := by
  have F : FSr h h := ft_r
  unfold qj_X13_memberHead_139
  refine pc_if (fun _ => ?_) (fun _ => ?_)
  · exact pc_imp (ft_qw_X13_memberHead_157 _ _ _ _ (ft_n S F)) (fun _ q => ft_t F q)
  · refine pc_rA ?_; intro _ _ v40 _
    refine pc_sv (ft_qf_X13_wrong (ft_n S F)) ?_; intro u42 Qu42
    have Fu42 : FSr h u42 := ft_t F Qu42
    exact pc_imp (ft_qw_X13_memberHead_157 _ _ _ _ (ft_n S Fu42)) (fun _ q => ft_t Fu42 q)
theorem ft_qj_X13_memberHead_86 {l1 : Int} {l2 : Int} {l3 : Int} {l4 : Int} {s0 : Int} {s1 : Int} {qkk_35 : Int → Int → Int → Int → ms_M → Option ms_M} (Hqkk_35 : ∀ (z0 : Int) (z1 : Int) (z2 : Int) (z3 : Int) (z4 : ms_M), ¬ z4 160 9 = 0 → Pc (qkk_35 z0 z1 z2 z3 z4) (fun u => FSr z4 u)) {h : ms_M} (S : ¬ h 160 9 = 0) : Pc (qj_X13_memberHead_86 nn qkk_35 l1 l2 l3 l4 s0 s1 h) (fun u => FSr h u) := by
  have F : FSr h h := ft_r
  unfold qj_X13_memberHead_86
  refine pc_if (fun _ => ?_) (fun _ => ?_)
  · refine pc_xl ?_; intro v44 _
    refine pc_rA ?_; intro _ _ v46 _
    refine pc_rA ?_; intro _ _ v48 _
    refine pc_se ?_; intro u50 _
    refine pc_xl ?_; intro v51 _
    refine pc_xl ?_; intro v52 _
    exact pc_imp (Hqkk_35 _ _ _ _ _ (ft_n S F)) (fun _ q => ft_t F q)
  · refine pc_xl ?_; intro v53 _
    exact pc_imp (Hqkk_35 _ _ _ _ _ (ft_n S F)) (fun _ q => ft_t F q)
theorem ft_qj_X13_memberHead_72 {l1 : Int} {l2 : Int} {l3 : Int} {l4 : Int} {s0 : Int} {qkk_35 : Int → Int → Int → Int → ms_M → Option ms_M} (Hqkk_35 : ∀ (z0 : Int) (z1 : Int) (z2 : Int) (z3 : Int) (z4 : ms_M), ¬ z4 160 9 = 0 → Pc (qkk_35 z0 z1 z2 z3 z4) (fun u => FSr z4 u)) {h : ms_M} (S : ¬ h 160 9 = 0) : Pc (qj_X13_memberHead_72 nn qkk_35 l1 l2 l3 l4 s0 h) (fun u => FSr h u) := by
  have F : FSr h h := ft_r
  unfold qj_X13_memberHead_72
  refine pc_rA ?_; intro _ _ v56 _
  refine pc_if (fun _ => ?_) (fun _ => ?_)
  · exact pc_imp (ft_qj_X13_memberHead_86 Hqkk_35 (ft_n S F)) (fun _ q => ft_t F q)
  · exact pc_imp (ft_qj_X13_memberHead_86 Hqkk_35 (ft_n S F)) (fun _ q => ft_t F q)
theorem ft_qw_X13_memberHead_35 : ∀ (k : Nat) (l1 : Int) (l2 : Int) (l3 : Int) (l4 : Int) (h : ms_M), ¬ h 160 9 = 0 → Pc (qw_X13_memberHead_35 nn k l1 l2 l3 l4 h) (fun u => FSr h u) := by
  intro k
  induction k with
  | zero => intros; exact pc_none
  | succ k ih =>
    intro l1 l2 l3 l4 h S
    have F : FSr h h := ft_r
    unfold qw_X13_memberHead_35
    refine pc_if (fun _ => ?_) (fun _ => ?_)
    · refine pc_if (fun _ => ?_) (fun _ => ?_)
      · exact pc_imp (ft_qj_X13_memberHead_139 (ft_n S F)) (fun _ q => ft_t F q)
      · refine pc_rA ?_; intro _ _ v59 _
        refine pc_sv (ft_qf_X13_wrong (ft_n S F)) ?_; intro u61 Qu61
        have Fu61 : FSr h u61 := ft_t F Qu61
        exact pc_imp (ft_qj_X13_memberHead_139 (ft_n S Fu61)) (fun _ q => ft_t Fu61 q)
    · refine pc_rA ?_; intro _ _ v64 _
      refine pc_rA ?_; intro _ _ v66 _
      refine pc_if (fun _ => ?_) (fun _ => ?_)
      · refine pc_xl ?_; intro v67 _
        exact pc_imp (ih _ _ _ _ _ (ft_n S F)) (fun _ q => ft_t F q)
      · refine pc_rA ?_; intro _ _ v69 _
        refine pc_if (fun _ => ?_) (fun _ => ?_)
        · exact pc_imp (ft_qj_X13_memberHead_72 (fun _ _ _ _ _ S => ih _ _ _ _ _ S) (ft_n S F)) (fun _ q => ft_t F q)
        · exact pc_imp (ft_qj_X13_memberHead_72 (fun _ _ _ _ _ S => ih _ _ _ _ _ S) (ft_n S F)) (fun _ q => ft_t F q)
theorem ft_qf_X13_memberHead {a1 : Int} {h : ms_M} (S : ¬ h 160 9 = 0) : Pc (qf_X13_memberHead nn a1 h) (fun u => FSr h u) := by
  have F : FSr h h := ft_r
  unfold qf_X13_memberHead
  refine pc_rA ?_; intro _ _ v75 _
  refine pc_rA ?_; intro _ _ v77 _
  refine pc_rA ?_; intro _ _ v79 _
  refine pc_sv (ft_qf_X13_typeOf (ft_n S F)) ?_; intro u81 Qu81
  have Fu81 : FSr h u81.2 := ft_t F Qu81
  refine pc_wA ?_; intro _ _ h82 Eh82
  have Fh82 : FSr h h82 := by rw [Eh82]; exact ft_u Fu81 (by omega)
  exact pc_imp (ft_qw_X13_memberHead_35 _ _ _ _ _ _ (ft_n S Fh82)) (fun _ q => ft_t Fh82 q)
theorem ft_qj_X13_overrides_148 {l1 : Int} {l3 : Int} {h : ms_M} (S : ¬ h 160 9 = 0) : Pc (qj_X13_overrides_148 nn l1 l3 h) (fun u => FSr h u) := by
  have F : FSr h h := ft_r
  unfold qj_X13_overrides_148
  refine pc_if (fun _ => ?_) (fun _ => ?_)
  · exact pc_ret F
  · refine pc_rA ?_; intro _ _ v2 _
    refine pc_sv (ft_qf_X13_wrong (ft_n S F)) ?_; intro u4 Qu4
    have Fu4 : FSr h u4 := ft_t F Qu4
    exact pc_ret Fu4
theorem ft_qw_X13_overrides_90 : ∀ (k : Nat) (l1 : Int) (l2 : Int) (l3 : Int) (l4 : Int) (h : ms_M), ¬ h 160 9 = 0 → Pc (qw_X13_overrides_90 nn k l1 l2 l3 l4 h) (fun u => FSr h u) := by
  intro k
  induction k with
  | zero => intros; exact pc_none
  | succ k ih =>
    intro l1 l2 l3 l4 h S
    have F : FSr h h := ft_r
    unfold qw_X13_overrides_90
    refine pc_rA ?_; intro _ _ v7 _
    refine pc_if (fun _ => ?_) (fun _ => ?_)
    · exact pc_imp (ft_qj_X13_overrides_148 (ft_n S F)) (fun _ q => ft_t F q)
    · refine pc_if (fun _ => ?_) (fun _ => ?_)
      · exact pc_imp (ft_qj_X13_overrides_148 (ft_n S F)) (fun _ q => ft_t F q)
      · refine pc_rA ?_; intro _ _ v10 _
        refine pc_xl ?_; intro v11 _
        refine pc_rA ?_; intro _ _ v12 _
        refine pc_rA ?_; intro _ _ v15 _
        refine pc_xl ?_; intro v16 _
        refine pc_rA ?_; intro _ _ v17 _
        refine pc_if (fun _ => ?_) (fun _ => ?_)
        · refine pc_xl ?_; intro v18 _
          exact pc_imp (ih _ _ _ _ _ (ft_n S F)) (fun _ q => ft_t F q)
        · refine pc_xl ?_; intro v19 _
          exact pc_imp (ih _ _ _ _ _ (ft_n S F)) (fun _ q => ft_t F q)
theorem ft_qj_X13_overrides_85 {l1 : Int} {l2 : Int} {h : ms_M} (S : ¬ h 160 9 = 0) : Pc (qj_X13_overrides_85 nn l1 l2 h) (fun u => FSr h u) := by
  have F : FSr h h := ft_r
  unfold qj_X13_overrides_85
  exact pc_imp (ft_qw_X13_overrides_90 _ _ _ _ _ _ (ft_n S F)) (fun _ q => ft_t F q)
theorem ft_qf_X13_overrides {a1 : Int} {h : ms_M} (S : ¬ h 160 9 = 0) : Pc (qf_X13_overrides nn a1 h) (fun u => FSr h u) := by
  have F : FSr h h := ft_r
  unfold qf_X13_overrides
  refine pc_rA ?_; intro _ _ v24 _
  refine pc_xl ?_; intro v25 _
  refine pc_se ?_; intro u27 _
  refine pc_rA ?_; intro _ _ v29 _
  refine pc_se ?_; intro u31 _
  refine pc_if (fun _ => ?_) (fun _ => ?_)
  · refine pc_rA ?_; intro _ _ v33 _
    refine pc_if (fun _ => ?_) (fun _ => ?_)
    · exact pc_imp (ft_qj_X13_overrides_85 (ft_n S F)) (fun _ q => ft_t F q)
    · refine pc_rA ?_; intro _ _ v35 _
      refine pc_if (fun _ => ?_) (fun _ => ?_)
      · exact pc_imp (ft_qj_X13_overrides_85 (ft_n S F)) (fun _ q => ft_t F q)
      · refine pc_rA ?_; intro _ _ v37 _
        refine pc_rA ?_; intro _ _ v39 _
        refine pc_if (fun _ => ?_) (fun _ => ?_)
        · exact pc_imp (ft_qj_X13_overrides_85 (ft_n S F)) (fun _ q => ft_t F q)
        · refine pc_rA ?_; intro _ _ v41 _
          refine pc_rA ?_; intro _ _ v43 _
          refine pc_if (fun _ => ?_) (fun _ => ?_)
          · exact pc_imp (ft_qj_X13_overrides_85 (ft_n S F)) (fun _ q => ft_t F q)
          · exact pc_imp (ft_qw_X13_overrides_90 _ _ _ _ _ _ (ft_n S F)) (fun _ q => ft_t F q)
  · exact pc_ret F
theorem ft_qw_X13_heads_220 : ∀ (k : Nat) (l1 : Int) (h : ms_M), ¬ h 160 9 = 0 → Pc (qw_X13_heads_220 nn k l1 h) (fun u => FSr h u) := by
  intro k
  induction k with
  | zero => intros; exact pc_none
  | succ k ih =>
    intro l1 h S
    have F : FSr h h := ft_r
    unfold qw_X13_heads_220
    refine pc_if (fun _ => ?_) (fun _ => ?_)
    · exact pc_ret F
    · refine pc_if (fun _ => ?_) (fun _ => ?_)
      · exact pc_ret F
      · refine pc_rA ?_; intro _ _ v4 _
        refine pc_if (fun _ => ?_) (fun _ => ?_)
        · refine pc_xl ?_; intro v5 _
          exact pc_imp (ih _ _ (ft_n S F)) (fun _ q => ft_t F q)
        · refine pc_sv (ft_qf_X13_overrides (ft_n S F)) ?_; intro u7 Qu7
          have Fu7 : FSr h u7 := ft_t F Qu7
          refine pc_xl ?_; intro v8 _
          exact pc_imp (ih _ _ (ft_n S Fu7)) (fun _ q => ft_t Fu7 q)
theorem ft_qw_X13_heads_192 : ∀ (k : Nat) (l1 : Int) (h : ms_M), ¬ h 160 9 = 0 → Pc (qw_X13_heads_192 nn k l1 h) (fun u => FSr h u) := by
  intro k
  induction k with
  | zero => intros; exact pc_none
  | succ k ih =>
    intro l1 h S
    have F : FSr h h := ft_r
    unfold qw_X13_heads_192
    refine pc_if (fun _ => ?_) (fun _ => ?_)
    · exact pc_imp (ft_qw_X13_heads_220 _ _ _ (ft_n S F)) (fun _ q => ft_t F q)
    · refine pc_if (fun _ => ?_) (fun _ => ?_)
      · exact pc_imp (ft_qw_X13_heads_220 _ _ _ (ft_n S F)) (fun _ q => ft_t F q)
      · refine pc_sv (ft_qf_X13_memberHead (ft_n S F)) ?_; intro u15 Qu15
        have Fu15 : FSr h u15 := ft_t F Qu15
        refine pc_xl ?_; intro v16 _
        exact pc_imp (ih _ _ (ft_n S Fu15)) (fun _ q => ft_t Fu15 q)
theorem ft_qj_X13_heads_167 {l1 : Int} {l2 : Int} {qkk_50 : Int → ms_M → Option ms_M} (Hqkk_50 : ∀ (z0 : Int) (z1 : ms_M), ¬ z1 160 9 = 0 → Pc (qkk_50 z0 z1) (fun u => FSr z1 u)) {h : ms_M} (S : ¬ h 160 9 = 0) : Pc (qj_X13_heads_167 nn qkk_50 l1 l2 h) (fun u => FSr h u) := by
  have F : FSr h h := ft_r
  unfold qj_X13_heads_167
  refine pc_if (fun _ => ?_) (fun _ => ?_)
  · refine pc_xl ?_; intro v19 _
    exact pc_imp (Hqkk_50 _ _ (ft_n S F)) (fun _ q => ft_t F q)
  · refine pc_rA ?_; intro _ _ v21 _
    refine pc_sv (ft_qf_X13_wrong (ft_n S F)) ?_; intro u23 Qu23
    have Fu23 : FSr h u23 := ft_t F Qu23
    refine pc_xl ?_; intro v24 _
    exact pc_imp (Hqkk_50 _ _ (ft_n S Fu23)) (fun _ q => ft_t Fu23 q)
theorem ft_qw_X13_heads_139 {qkk_50 : Int → ms_M → Option ms_M} (Hqkk_50 : ∀ (z0 : Int) (z1 : ms_M), ¬ z1 160 9 = 0 → Pc (qkk_50 z0 z1) (fun u => FSr z1 u)) : ∀ (k : Nat) (l1 : Int) (l2 : Int) (l3 : Int) (h : ms_M), ¬ h 160 9 = 0 → Pc (qw_X13_heads_139 nn qkk_50 k l1 l2 l3 h) (fun u => FSr h u) := by
  intro k
  induction k with
  | zero => intros; exact pc_none
  | succ k ih =>
    intro l1 l2 l3 h S
    have F : FSr h h := ft_r
    unfold qw_X13_heads_139
    refine pc_xl ?_; intro v27 _
    refine pc_if (fun _ => ?_) (fun _ => ?_)
    · exact pc_imp (ft_qj_X13_heads_167 Hqkk_50 (ft_n S F)) (fun _ q => ft_t F q)
    · refine pc_if (fun _ => ?_) (fun _ => ?_)
      · exact pc_imp (ft_qj_X13_heads_167 Hqkk_50 (ft_n S F)) (fun _ q => ft_t F q)
      · refine pc_se ?_; intro u29 _
        refine pc_xl ?_; intro v30 _
        exact pc_imp (ih _ _ _ _ (ft_n S F)) (fun _ q => ft_t F q)
theorem ft_qj_X13_heads_132 {l1 : Int} {qkk_50 : Int → ms_M → Option ms_M} (Hqkk_50 : ∀ (z0 : Int) (z1 : ms_M), ¬ z1 160 9 = 0 → Pc (qkk_50 z0 z1) (fun u => FSr z1 u)) {h : ms_M} (S : ¬ h 160 9 = 0) : Pc (qj_X13_heads_132 nn qkk_50 l1 h) (fun u => FSr h u) := by
  have F : FSr h h := ft_r
  unfold qj_X13_heads_132
  refine pc_xl ?_; intro v33 _
  exact pc_imp (ft_qw_X13_heads_139 Hqkk_50 _ _ _ _ _ (ft_n S F)) (fun _ q => ft_t F q)
theorem ft_qj_X13_heads_111 {l1 : Int} {qkk_50 : Int → ms_M → Option ms_M} (Hqkk_50 : ∀ (z0 : Int) (z1 : ms_M), ¬ z1 160 9 = 0 → Pc (qkk_50 z0 z1) (fun u => FSr z1 u)) {h : ms_M} (S : ¬ h 160 9 = 0) : Pc (qj_X13_heads_111 nn qkk_50 l1 h) (fun u => FSr h u) := by
  have F : FSr h h := ft_r
  unfold qj_X13_heads_111
  refine pc_rA ?_; intro _ _ v35 _
  refine pc_if (fun _ => ?_) (fun _ => ?_)
  · exact pc_imp (ft_qj_X13_heads_132 Hqkk_50 (ft_n S F)) (fun _ q => ft_t F q)
  · refine pc_rA ?_; intro _ _ v37 _
    refine pc_sv (ft_qf_X13_wrong (ft_n S F)) ?_; intro u39 Qu39
    have Fu39 : FSr h u39 := ft_t F Qu39
    exact pc_imp (ft_qj_X13_heads_132 Hqkk_50 (ft_n S Fu39)) (fun _ q => ft_t Fu39 q)
theorem ft_qj_X13_heads_83 {l1 : Int} {qkk_50 : Int → ms_M → Option ms_M} (Hqkk_50 : ∀ (z0 : Int) (z1 : ms_M), ¬ z1 160 9 = 0 → Pc (qkk_50 z0 z1) (fun u => FSr z1 u)) {h : ms_M} (S : ¬ h 160 9 = 0) : Pc (qj_X13_heads_83 nn qkk_50 l1 h) (fun u => FSr h u) := by
  have F : FSr h h := ft_r
  unfold qj_X13_heads_83
  refine pc_rA ?_; intro _ _ v42 _
  refine pc_se ?_; intro u44 _
  refine pc_xl ?_; intro v45 _
  refine pc_if (fun _ => ?_) (fun _ => ?_)
  · exact pc_imp (ft_qj_X13_heads_111 Hqkk_50 (ft_n S F)) (fun _ q => ft_t F q)
  · refine pc_rA ?_; intro _ _ v47 _
    refine pc_sv (ft_qf_X13_wrong (ft_n S F)) ?_; intro u49 Qu49
    have Fu49 : FSr h u49 := ft_t F Qu49
    exact pc_imp (ft_qj_X13_heads_111 Hqkk_50 (ft_n S Fu49)) (fun _ q => ft_t Fu49 q)
theorem ft_qw_X13_heads_50 : ∀ (k : Nat) (l1 : Int) (h : ms_M), ¬ h 160 9 = 0 → Pc (qw_X13_heads_50 nn k l1 h) (fun u => FSr h u) := by
  intro k
  induction k with
  | zero => intros; exact pc_none
  | succ k ih =>
    intro l1 h S
    have F : FSr h h := ft_r
    unfold qw_X13_heads_50
    refine pc_if (fun _ => ?_) (fun _ => ?_)
    · exact pc_imp (ft_qw_X13_heads_192 _ _ _ (ft_n S F)) (fun _ q => ft_t F q)
    · refine pc_if (fun _ => ?_) (fun _ => ?_)
      · exact pc_imp (ft_qw_X13_heads_192 _ _ _ (ft_n S F)) (fun _ q => ft_t F q)
      · refine pc_if (fun _ => ?_) (fun _ => ?_)
        · exact pc_imp (ft_qj_X13_heads_83 (fun _ _ S => ih _ _ S) (ft_n S F)) (fun _ q => ft_t F q)
        · refine pc_rA ?_; intro _ _ v54 _
          refine pc_sv (ft_qf_X13_wrong (ft_n S F)) ?_; intro u56 Qu56
          have Fu56 : FSr h u56 := ft_t F Qu56
          exact pc_imp (ft_qj_X13_heads_83 (fun _ _ S => ih _ _ S) (ft_n S Fu56)) (fun _ q => ft_t Fu56 q)
theorem ft_qj_X13_heads_34 {l1 : Int} {s0 : Int} {qkk_2 : Int → ms_M → Option ms_M} (Hqkk_2 : ∀ (z0 : Int) (z1 : ms_M), ¬ z1 160 9 = 0 → Pc (qkk_2 z0 z1) (fun u => FSr z1 u)) {h : ms_M} (S : ¬ h 160 9 = 0) : Pc (qj_X13_heads_34 nn qkk_2 l1 s0 h) (fun u => FSr h u) := by
  have F : FSr h h := ft_r
  unfold qj_X13_heads_34
  refine pc_wA ?_; intro _ _ h61 Eh61
  have Fh61 : FSr h h61 := by rw [Eh61]; exact ft_u F (by omega)
  refine pc_xl ?_; intro v62 _
  exact pc_imp (Hqkk_2 _ _ (ft_n S Fh61)) (fun _ q => ft_t Fh61 q)
theorem ft_qw_X13_heads_2 : ∀ (k : Nat) (l1 : Int) (h : ms_M), ¬ h 160 9 = 0 → Pc (qw_X13_heads_2 nn k l1 h) (fun u => FSr h u) := by
  intro k
  induction k with
  | zero => intros; exact pc_none
  | succ k ih =>
    intro l1 h S
    have F : FSr h h := ft_r
    unfold qw_X13_heads_2
    refine pc_if (fun _ => ?_) (fun _ => ?_)
    · exact pc_imp (ft_qw_X13_heads_50 _ _ _ (ft_n S F)) (fun _ q => ft_t F q)
    · refine pc_rA ?_; intro _ _ v65 _
      refine pc_if (fun _ => ?_) (fun _ => ?_)
      · refine pc_rA ?_; intro _ _ v67 _
        refine pc_se ?_; intro u69 _
        exact pc_imp (ft_qj_X13_heads_34 (fun _ _ S => ih _ _ S) (ft_n S F)) (fun _ q => ft_t F q)
      · exact pc_imp (ft_qj_X13_heads_34 (fun _ _ S => ih _ _ S) (ft_n S F)) (fun _ q => ft_t F q)
theorem ft_qf_X13_heads {h : ms_M} (S : ¬ h 160 9 = 0) : Pc (qf_X13_heads nn h) (fun u => FSr h u) := by
  have F : FSr h h := ft_r
  unfold qf_X13_heads
  exact pc_imp (ft_qw_X13_heads_2 _ _ _ (ft_n S F)) (fun _ q => ft_t F q)
end
