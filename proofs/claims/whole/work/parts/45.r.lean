/- BODIES: behind a FAULT it stays (class, reference) -/
section
variable {nn : Nat} {h g r : ms_M}
def FScG_X10_readValue (rc : tq_X10_readValue) : Prop := (∀ {a1 : Int} {h : ms_M}, ¬ h 2 11 = 0 → Pc (rc.1 a1 h) (fun u => FSc h u)) ∧ (∀ {a1 : Int} {a2 : Int} {h : ms_M}, ¬ h 2 11 = 0 → Pc (rc.2.1 a1 a2 h) (fun u => FSc h u)) ∧ (∀ {a1 : Int} {h : ms_M}, ¬ h 2 11 = 0 → Pc (rc.2.2.1 a1 h) (fun u => FSc h u)) ∧ (∀ {a1 : Int} {h : ms_M}, ¬ h 2 11 = 0 → Pc (rc.2.2.2.1 a1 h) (fun u => FSc h u)) ∧ (∀ {a1 : Int} {h : ms_M}, ¬ h 2 11 = 0 → Pc (rc.2.2.2.2.1 a1 h) (fun u => FSc h u)) ∧ (∀ {a1 : Int} {h : ms_M}, ¬ h 2 11 = 0 → Pc (rc.2.2.2.2.2.1 a1 h) (fun u => FSc h u)) ∧ (∀ {a1 : Int} {h : ms_M}, ¬ h 2 11 = 0 → Pc (rc.2.2.2.2.2.2.1 a1 h) (fun u => FSc h u)) ∧ (∀ {a1 : Int} {a2 : Int} {h : ms_M}, ¬ h 2 11 = 0 → Pc (rc.2.2.2.2.2.2.2.1 a1 a2 h) (fun u => FSc h u)) ∧ (∀ {a1 : Int} {a2 : Int} {a3 : Int} {a4 : Int} {a5 : Int} {a6 : Int} {h : ms_M}, ¬ h 2 11 = 0 → Pc (rc.2.2.2.2.2.2.2.2 a1 a2 a3 a4 a5 a6 h) (fun u => FSc h u))
theorem fs_qw_X6_constant_2 : ∀ (k : Nat) (l1 : Int) (l2 : Int) (l3 : Int) (h : ms_M), ¬ h 2 11 = 0 → Pc (qw_X6_constant_2 nn k l1 l2 l3 h) (fun u => FSc h u.2) := by
  intro k
  induction k with
  | zero => intros; exact pc_none
  | succ k ih =>
    intro l1 l2 l3 h S
    have F : FSc h h := fs_r
    unfold qw_X6_constant_2
    refine pc_if (fun _ => ?_) (fun _ => ?_)
    · refine pc_if (fun _ => ?_) (fun _ => ?_)
      · refine pc_xl ?_; intro v4 _
        refine pc_xl ?_; intro h5 Eh5
        have Fh5 : FSc h h5 := by rw [Eh5]; exact fs_u F (by omega)
        refine pc_wA ?_; intro _ _ h8 Eh8
        have Fh8 : FSc h h8 := by rw [Eh8]; exact fs_u Fh5 (by omega)
        refine pc_wA ?_; intro _ _ h11 Eh11
        have Fh11 : FSc h h11 := by rw [Eh11]; exact fs_u Fh8 (by omega)
        exact pc_ret Fh11
      · refine pc_xl ?_; intro h13 Eh13
        have Fh13 : FSc h h13 := by rw [Eh13]; exact fs_u F (by omega)
        exact pc_ret Fh13
    · refine pc_rA ?_; intro _ _ v16 _
      refine pc_if (fun _ => ?_) (fun _ => ?_)
      · refine pc_xl ?_; intro v17 _
        exact pc_imp (ih _ _ _ _ (fs_n S F)) (fun _ q => fs_t F q)
      · refine pc_rA ?_; intro _ _ v19 _
        refine pc_if (fun _ => ?_) (fun _ => ?_)
        · refine pc_xl ?_; intro v20 _
          exact pc_imp (ih _ _ _ _ (fs_n S F)) (fun _ q => fs_t F q)
        · exact pc_ret F
theorem fs_qf_X6_constant {a1 : Int} {a2 : Int} {h : ms_M} (S : ¬ h 2 11 = 0) : Pc (qf_X6_constant nn a1 a2 h) (fun u => FSc h u.2) := fun u e => ⟨ff_X6_constant nn u e 2 11 rfl, ff_X6_constant nn u e 2 12 rfl⟩
theorem fs_qf_X6_classOf {a1 : Int} {h : ms_M} (S : ¬ h 2 11 = 0) : Pc (qf_X6_classOf nn a1 h) (fun u => FSc h u.2) := fun u e => ⟨ff_X6_classOf nn u e 2 11 rfl, ff_X6_classOf nn u e 2 12 rfl⟩
theorem fs_qf_X10_wantType {a1 : Int} {a2 : Int} {h : ms_M} (S : ¬ h 2 11 = 0) : Pc (qf_X10_wantType nn a1 a2 h) (fun u => FSc h u) := by
  have F : FSc h h := fs_r
  unfold qf_X10_wantType
  refine pc_if (fun _ => ?_) (fun _ => ?_)
  · exact pc_ret F
  · refine pc_sv (fs_qf_X9_tell (fs_n S F)) ?_; intro u3 Qu3
    have Fu3 : FSc h u3 := fs_t F Qu3
    exact pc_ret Fu3
theorem fs_qf_X1_aimAt {a1 : Int} {a2 : Int} {h : ms_M} (S : ¬ h 2 11 = 0) : Pc (qf_X1_aimAt nn a1 a2 h) (fun u => FSc h u) := fun u e => ⟨ff_X1_aimAt nn u e 2 11 rfl, ff_X1_aimAt nn u e 2 12 rfl⟩
theorem fs_qj_X1_fillFrame_23 {h : ms_M} (S : ¬ h 2 11 = 0) : Pc (qj_X1_fillFrame_23 nn h) (fun u => FSc h u) := by
  have F : FSc h h := fs_r
  unfold qj_X1_fillFrame_23
  refine pc_xl ?_; intro h1 Eh1
  have Fh1 : FSc h h1 := by rw [Eh1]; exact fs_u F (by omega)
  exact pc_ret Fh1
theorem fs_qf_X1_fillFrame {a1 : Int} {a2 : Int} {a3 : Int} {h : ms_M} (S : ¬ h 2 11 = 0) : Pc (qf_X1_fillFrame nn a1 a2 a3 h) (fun u => FSc h u) := fun u e => ⟨ff_X1_fillFrame nn u e 2 11 rfl, ff_X1_fillFrame nn u e 2 12 rfl⟩
theorem fs_qj_X1_slotOfFrame_62 {l1 : Int} {l2 : Int} {h : ms_M} (S : ¬ h 2 11 = 0) : Pc (qj_X1_slotOfFrame_62 nn l1 l2 h) (fun u => FSc h u.2) := by
  have F : FSc h h := fs_r
  unfold qj_X1_slotOfFrame_62
  refine pc_if (fun _ => ?_) (fun _ => ?_)
  · refine pc_xl ?_; intro v4 _
    refine pc_xl ?_; intro v6 _
    refine pc_cpS ?_; intro h7 Eh7
    have Fh7 : FSc h h7 := by rw [Eh7]; exact fs_c F (by decide)
    refine pc_wA ?_; intro _ _ h10 Eh10
    have Fh10 : FSc h h10 := by rw [Eh10]; exact fs_u Fh7 (by omega)
    refine pc_wA ?_; intro _ _ h13 Eh13
    have Fh13 : FSc h h13 := by rw [Eh13]; exact fs_u Fh10 (by omega)
    refine pc_xl ?_; intro v15 _
    refine pc_xl ?_; intro h16 Eh16
    have Fh16 : FSc h h16 := by rw [Eh16]; exact fs_u Fh13 (by omega)
    refine pc_rA ?_; intro _ _ v18 _
    exact pc_ret Fh16
  · exact pc_ret F
theorem fs_qj_X1_slotOfFrame_32 {l1 : Int} {l2 : Int} {h : ms_M} (S : ¬ h 2 11 = 0) : Pc (qj_X1_slotOfFrame_32 nn l1 l2 h) (fun u => FSc h u.2) := by
  have F : FSc h h := fs_r
  unfold qj_X1_slotOfFrame_32
  refine pc_if (fun _ => ?_) (fun _ => ?_)
  · exact pc_imp (fs_qj_X1_slotOfFrame_62 (fs_n S F)) (fun _ q => fs_t F q)
  · refine pc_xl ?_; intro v22 _
    refine pc_rA ?_; intro _ _ v23 _
    refine pc_rA ?_; intro _ _ v24 _
    refine pc_if (fun _ => ?_) (fun _ => ?_)
    · exact pc_imp (fs_qj_X1_slotOfFrame_62 (fs_n S F)) (fun _ q => fs_t F q)
    · refine pc_xl ?_; intro v26 _
      refine pc_rA ?_; intro _ _ v27 _
      exact pc_ret F
theorem fs_qw_X1_slotOfFrame_5 : ∀ (k : Nat) (l1 : Int) (l2 : Int) (h : ms_M), ¬ h 2 11 = 0 → Pc (qw_X1_slotOfFrame_5 nn k l1 l2 h) (fun u => FSc h u.2) := by
  intro k
  induction k with
  | zero => intros; exact pc_none
  | succ k ih =>
    intro l1 l2 h S
    have F : FSc h h := fs_r
    unfold qw_X1_slotOfFrame_5
    refine pc_if (fun _ => ?_) (fun _ => ?_)
    · exact pc_imp (fs_qj_X1_slotOfFrame_32 (fs_n S F)) (fun _ q => fs_t F q)
    · refine pc_xl ?_; intro v32 _
      refine pc_rA ?_; intro _ _ v33 _
      refine pc_rA ?_; intro _ _ v34 _
      refine pc_if (fun _ => ?_) (fun _ => ?_)
      · exact pc_imp (fs_qj_X1_slotOfFrame_32 (fs_n S F)) (fun _ q => fs_t F q)
      · refine pc_xl ?_; intro v35 _
        exact pc_imp (ih _ _ _ (fs_n S F)) (fun _ q => fs_t F q)
theorem fs_qf_X1_slotOfFrame {a1 : Int} {h : ms_M} (S : ¬ h 2 11 = 0) : Pc (qf_X1_slotOfFrame nn a1 h) (fun u => FSc h u.2) := fun u e => ⟨ff_X1_slotOfFrame nn u e 2 11 rfl, ff_X1_slotOfFrame nn u e 2 12 rfl⟩
theorem fs_qf_X1_aimHere {a1 : Int} {h : ms_M} (S : ¬ h 2 11 = 0) : Pc (qf_X1_aimHere nn a1 h) (fun u => FSc h u) := fun u e => ⟨ff_X1_aimHere nn u e 2 11 rfl, ff_X1_aimHere nn u e 2 12 rfl⟩
theorem fs_qj_X1_op_23 {h : ms_M} (S : ¬ h 2 11 = 0) : Pc (qj_X1_op_23 nn h) (fun u => FSc h u) := by
  have F : FSc h h := fs_r
  unfold qj_X1_op_23
  refine pc_xl ?_; intro v2 _
  refine pc_xl ?_; intro h3 Eh3
  have Fh3 : FSc h h3 := by rw [Eh3]; exact fs_u F (by omega)
  exact pc_ret Fh3
theorem fs_qf_X1_op {a1 : Int} {h : ms_M} (S : ¬ h 2 11 = 0) : Pc (qf_X1_op nn a1 h) (fun u => FSc h u) := fun u e => ⟨ff_X1_op nn u e 2 11 rfl, ff_X1_op nn u e 2 12 rfl⟩
theorem fs_qf_X1_pop {a1 : Int} {h : ms_M} (S : ¬ h 2 11 = 0) : Pc (qf_X1_pop nn a1 h) (fun u => FSc h u) := fun u e => ⟨ff_X1_pop nn u e 2 11 rfl, ff_X1_pop nn u e 2 12 rfl⟩
theorem fs_qf_X1_jump {a1 : Int} {a2 : Int} {h : ms_M} (S : ¬ h 2 11 = 0) : Pc (qf_X1_jump nn a1 a2 h) (fun u => FSc h u.2) := fun u e => ⟨ff_X1_jump nn u e 2 11 rfl, ff_X1_jump nn u e 2 12 rfl⟩
theorem fs_qj_X1_push_22 {h : ms_M} (S : ¬ h 2 11 = 0) : Pc (qj_X1_push_22 nn h) (fun u => FSc h u) := by
  have F : FSc h h := fs_r
  unfold qj_X1_push_22
  refine pc_xl ?_; intro v2 _
  refine pc_xl ?_; intro h3 Eh3
  have Fh3 : FSc h h3 := by rw [Eh3]; exact fs_u F (by omega)
  refine pc_xl ?_; intro v6 _
  refine pc_xl ?_; intro h7 Eh7
  have Fh7 : FSc h h7 := by rw [Eh7]; exact fs_u Fh3 (by omega)
  exact pc_ret Fh7
theorem fs_qf_X1_push {a1 : Int} {h : ms_M} (S : ¬ h 2 11 = 0) : Pc (qf_X1_push nn a1 h) (fun u => FSc h u) := fun u e => ⟨ff_X1_push nn u e 2 11 rfl, ff_X1_push nn u e 2 12 rfl⟩
theorem fs_qj_X10_closeShort_66 {l3 : Int} {s0 : Int} {h : ms_M} (S : ¬ h 2 11 = 0) : Pc (qj_X10_closeShort_66 nn l3 s0 h) (fun u => FSc h u) := by
  have F : FSc h h := fs_r
  unfold qj_X10_closeShort_66
  refine pc_sv (fs_qf_X1_op (fs_n S F)) ?_; intro u2 Qu2
  have Fu2 : FSc h u2 := fs_t F Qu2
  refine pc_sv (fs_qf_X1_push (fs_n S Fu2)) ?_; intro u5 Qu5
  have Fu5 : FSc h u5 := fs_t Fu2 Qu5
  refine pc_sv (fs_qf_X1_aimHere (fs_n S Fu5)) ?_; intro u8 Qu8
  have Fu8 : FSc h u8 := fs_t Fu5 Qu8
  refine pc_xl ?_; intro h9 Eh9
  have Fh9 : FSc h h9 := by rw [Eh9]; exact fs_u Fu8 (by omega)
  exact pc_ret Fh9
theorem fs_qj_X10_closeShort_16 {l1 : Int} {l2 : Int} {s0 : Int} {h : ms_M} (S : ¬ h 2 11 = 0) : Pc (qj_X10_closeShort_16 nn l1 l2 s0 h) (fun u => FSc h u) := by
  have F : FSc h h := fs_r
  unfold qj_X10_closeShort_16
  refine pc_sv (fs_qf_X10_wantType (fs_n S F)) ?_; intro u12 Qu12
  have Fu12 : FSc h u12 := fs_t F Qu12
  refine pc_sv (fs_qf_X1_jump (fs_n S Fu12)) ?_; intro u15 Qu15
  have Fu15 : FSc h u15.2 := fs_t Fu12 Qu15
  refine pc_sv (fs_qf_X1_pop (fs_n S Fu15)) ?_; intro u18 Qu18
  have Fu18 : FSc h u18 := fs_t Fu15 Qu18
  refine pc_sv (fs_qf_X1_aimHere (fs_n S Fu18)) ?_; intro u21 Qu21
  have Fu21 : FSc h u21 := fs_t Fu18 Qu21
  refine pc_if (fun _ => ?_) (fun _ => ?_)
  · exact pc_imp (fs_qj_X10_closeShort_66 (fs_n S Fu21)) (fun _ q => fs_t Fu21 q)
  · exact pc_imp (fs_qj_X10_closeShort_66 (fs_n S Fu21)) (fun _ q => fs_t Fu21 q)
theorem fs_qf_X10_closeShort {a1 : Int} {a2 : Int} {h : ms_M} (S : ¬ h 2 11 = 0) : Pc (qf_X10_closeShort nn a1 a2 h) (fun u => FSc h u) := by
  have F : FSc h h := fs_r
  unfold qf_X10_closeShort
  refine pc_if (fun _ => ?_) (fun _ => ?_)
  · exact pc_imp (fs_qj_X10_closeShort_16 (fs_n S F)) (fun _ q => fs_t F q)
  · exact pc_imp (fs_qj_X10_closeShort_16 (fs_n S F)) (fun _ q => fs_t F q)
theorem fs_qf_X1_truth {a1 : Int} {a2 : Int} {h : ms_M} (S : ¬ h 2 11 = 0) : Pc (qf_X1_truth nn a1 a2 h) (fun u => FSc h u) := fun u e => ⟨ff_X1_truth nn u e 2 11 rfl, ff_X1_truth nn u e 2 12 rfl⟩
theorem fs_qj_X10_closeSign_293 {h : ms_M} (S : ¬ h 2 11 = 0) : Pc (qj_X10_closeSign_293 nn h) (fun u => FSc h u) := by
  have F : FSc h h := fs_r
  unfold qj_X10_closeSign_293
  refine pc_rA ?_; intro _ _ v3 _
  refine pc_xl ?_; intro h4 Eh4
  have Fh4 : FSc h h4 := by rw [Eh4]; exact fs_u F (by omega)
  refine pc_xl ?_; intro h5 Eh5
  have Fh5 : FSc h h5 := by rw [Eh5]; exact fs_u Fh4 (by omega)
  exact pc_ret Fh5
theorem fs_qj_X10_closeSign_251 {l1 : Int} {s0 : Int} {h : ms_M} (S : ¬ h 2 11 = 0) : Pc (qj_X10_closeSign_251 nn l1 s0 h) (fun u => FSc h u) := by
  have F : FSc h h := fs_r
  unfold qj_X10_closeSign_251
  refine pc_rA ?_; intro _ _ v8 _
  refine pc_sv (fs_qf_X10_wantType (fs_n S F)) ?_; intro u10 Qu10
  have Fu10 : FSc h u10 := fs_t F Qu10
  refine pc_se ?_; intro u12 _
  refine pc_sv (fs_qf_X1_op (fs_n S Fu10)) ?_; intro u14 Qu14
  have Fu14 : FSc h u14 := fs_t Fu10 Qu14
  refine pc_sv (fs_qf_X1_pop (fs_n S Fu14)) ?_; intro u17 Qu17
  have Fu17 : FSc h u17 := fs_t Fu14 Qu17
  refine pc_sv (fs_qf_X1_push (fs_n S Fu17)) ?_; intro u21 Qu21
  have Fu21 : FSc h u21 := fs_t Fu17 Qu21
  exact pc_imp (fs_qj_X10_closeSign_293 (fs_n S Fu21)) (fun _ q => fs_t Fu21 q)
theorem fs_qj_X10_closeSign_250 {l1 : Int} {h : ms_M} (S : ¬ h 2 11 = 0) : Pc (qj_X10_closeSign_250 nn l1 h) (fun u => FSc h u) := by
  have F : FSc h h := fs_r
  unfold qj_X10_closeSign_250
  exact pc_imp (fs_qj_X10_closeSign_251 (fs_n S F)) (fun _ q => fs_t F q)
theorem fs_qj_X10_closeSign_246 {l1 : Int} {h : ms_M} (S : ¬ h 2 11 = 0) : Pc (qj_X10_closeSign_246 nn l1 h) (fun u => FSc h u) := by
  have F : FSc h h := fs_r
  unfold qj_X10_closeSign_246
  exact pc_imp (fs_qj_X10_closeSign_251 (fs_n S F)) (fun _ q => fs_t F q)
theorem fs_qj_X10_closeSign_212 {l1 : Int} {l2 : Int} {s0 : Int} {h : ms_M} (S : ¬ h 2 11 = 0) : Pc (qj_X10_closeSign_212 nn l1 l2 s0 h) (fun u => FSc h u) := by
  have F : FSc h h := fs_r
  unfold qj_X10_closeSign_212
  refine pc_if (fun _ => ?_) (fun _ => ?_)
  · exact pc_imp (fs_qj_X10_closeSign_250 (fs_n S F)) (fun _ q => fs_t F q)
  · refine pc_if (fun _ => ?_) (fun _ => ?_)
    · exact pc_imp (fs_qj_X10_closeSign_246 (fs_n S F)) (fun _ q => fs_t F q)
    · refine pc_if (fun _ => ?_) (fun _ => ?_)
      · exact pc_imp (fs_qj_X10_closeSign_250 (fs_n S F)) (fun _ q => fs_t F q)
      · refine pc_if (fun _ => ?_) (fun _ => ?_)
        · exact pc_imp (fs_qj_X10_closeSign_250 (fs_n S F)) (fun _ q => fs_t F q)
        · exact pc_imp (fs_qj_X10_closeSign_246 (fs_n S F)) (fun _ q => fs_t F q)
theorem fs_qj_X10_closeSign_207 {l1 : Int} {l2 : Int} {h : ms_M} (S : ¬ h 2 11 = 0) : Pc (qj_X10_closeSign_207 nn l1 l2 h) (fun u => FSc h u) := by
  have F : FSc h h := fs_r
  unfold qj_X10_closeSign_207
  exact pc_imp (fs_qj_X10_closeSign_212 (fs_n S F)) (fun _ q => fs_t F q)
theorem fs_qj_X10_closeSign_154 {l1 : Int} {s0 : Int} {h : ms_M} (S : ¬ h 2 11 = 0) : Pc (qj_X10_closeSign_154 nn l1 s0 h) (fun u => FSc h u) := by
  have F : FSc h h := fs_r
  unfold qj_X10_closeSign_154
  refine pc_rA ?_; intro _ _ v31 _
  refine pc_sv (fs_qf_X10_wantType (fs_n S F)) ?_; intro u33 Qu33
  have Fu33 : FSc h u33 := fs_t F Qu33
  refine pc_se ?_; intro u35 _
  refine pc_sv (fs_qf_X1_truth (fs_n S Fu33)) ?_; intro u37 Qu37
  have Fu37 : FSc h u37 := fs_t Fu33 Qu37
  refine pc_xl ?_; intro h38 Eh38
  have Fh38 : FSc h h38 := by rw [Eh38]; exact fs_u Fu37 (by omega)
  exact pc_imp (fs_qj_X10_closeSign_293 (fs_n S Fh38)) (fun _ q => fs_t Fh38 q)
theorem fs_qj_X10_closeSign_153 {l1 : Int} {h : ms_M} (S : ¬ h 2 11 = 0) : Pc (qj_X10_closeSign_153 nn l1 h) (fun u => FSc h u) := by
  have F : FSc h h := fs_r
  unfold qj_X10_closeSign_153
  exact pc_imp (fs_qj_X10_closeSign_154 (fs_n S F)) (fun _ q => fs_t F q)
theorem fs_qj_X10_closeSign_71 {l1 : Int} {l2 : Int} {h : ms_M} (S : ¬ h 2 11 = 0) : Pc (qj_X10_closeSign_71 nn l1 l2 h) (fun u => FSc h u) := by
  have F : FSc h h := fs_r
  unfold qj_X10_closeSign_71
  refine pc_se ?_; intro u41 _
  refine pc_rA ?_; intro _ _ v44 _
  refine pc_sv (fs_qf_X10_wantType (fs_n S F)) ?_; intro u46 Qu46
  have Fu46 : FSc h u46 := fs_t F Qu46
  refine pc_se ?_; intro u49 _
  refine pc_se ?_; intro u50 _
  refine pc_sv (fs_qf_X1_truth (fs_n S Fu46)) ?_; intro u52 Qu52
  have Fu52 : FSc h u52 := fs_t Fu46 Qu52
  refine pc_xl ?_; intro h53 Eh53
  have Fh53 : FSc h h53 := by rw [Eh53]; exact fs_u Fu52 (by omega)
  exact pc_imp (fs_qj_X10_closeSign_293 (fs_n S Fh53)) (fun _ q => fs_t Fh53 q)
theorem fs_qj_X10_closeSign_42 {l1 : Int} {h : ms_M} (S : ¬ h 2 11 = 0) : Pc (qj_X10_closeSign_42 nn l1 h) (fun u => FSc h u) := by
  have F : FSc h h := fs_r
  unfold qj_X10_closeSign_42
  refine pc_rA ?_; intro _ _ v56 _
  refine pc_sv (fs_qf_X10_closeShort (fs_n S F)) ?_; intro u58 Qu58
  have Fu58 : FSc h u58 := fs_t F Qu58
  exact pc_imp (fs_qj_X10_closeSign_293 (fs_n S Fu58)) (fun _ q => fs_t Fu58 q)
theorem fs_qf_X10_closeSign {h : ms_M} (S : ¬ h 2 11 = 0) : Pc (qf_X10_closeSign nn h) (fun u => FSc h u) := by
  have F : FSc h h := fs_r
  unfold qf_X10_closeSign
  refine pc_xl ?_; intro v60 _
  refine pc_xl ?_; intro h61 Eh61
  have Fh61 : FSc h h61 := by rw [Eh61]; exact fs_u F (by omega)
  refine pc_rA ?_; intro _ _ v64 _
  refine pc_rA ?_; intro _ _ v67 _
  refine pc_if (fun _ => ?_) (fun _ => ?_)
  · exact pc_imp (fs_qj_X10_closeSign_42 (fs_n S Fh61)) (fun _ q => fs_t Fh61 q)
  · refine pc_if (fun _ => ?_) (fun _ => ?_)
    · refine pc_if (fun _ => ?_) (fun _ => ?_)
      · exact pc_imp (fs_qj_X10_closeSign_71 (fs_n S Fh61)) (fun _ q => fs_t Fh61 q)
      · refine pc_if (fun _ => ?_) (fun _ => ?_)
        · refine pc_se ?_; intro u68 _
          refine pc_if (fun _ => ?_) (fun _ => ?_)
          · refine pc_if (fun _ => ?_) (fun _ => ?_)
            · exact pc_imp (fs_qj_X10_closeSign_207 (fs_n S Fh61)) (fun _ q => fs_t Fh61 q)
            · refine pc_if (fun _ => ?_) (fun _ => ?_)
              · exact pc_imp (fs_qj_X10_closeSign_207 (fs_n S Fh61)) (fun _ q => fs_t Fh61 q)
              · refine pc_if (fun _ => ?_) (fun _ => ?_)
                · exact pc_imp (fs_qj_X10_closeSign_212 (fs_n S Fh61)) (fun _ q => fs_t Fh61 q)
                · exact pc_imp (fs_qj_X10_closeSign_207 (fs_n S Fh61)) (fun _ q => fs_t Fh61 q)
          · refine pc_if (fun _ => ?_) (fun _ => ?_)
            · exact pc_imp (fs_qj_X10_closeSign_153 (fs_n S Fh61)) (fun _ q => fs_t Fh61 q)
            · refine pc_if (fun _ => ?_) (fun _ => ?_)
              · exact pc_imp (fs_qj_X10_closeSign_153 (fs_n S Fh61)) (fun _ q => fs_t Fh61 q)
              · exact pc_imp (fs_qj_X10_closeSign_154 (fs_n S Fh61)) (fun _ q => fs_t Fh61 q)
        · exact pc_imp (fs_qj_X10_closeSign_71 (fs_n S Fh61)) (fun _ q => fs_t Fh61 q)
    · exact pc_imp (fs_qj_X10_closeSign_42 (fs_n S Fh61)) (fun _ q => fs_t Fh61 q)
theorem fs_qj_X10_openSign_159 {h : ms_M} (S : ¬ h 2 11 = 0) : Pc (qj_X10_openSign_159 nn h) (fun u => FSc h u) := by
  have F : FSc h h := fs_r
  unfold qj_X10_openSign_159
  refine pc_xl ?_; intro v3 _
  refine pc_xl ?_; intro h4 Eh4
  have Fh4 : FSc h h4 := by rw [Eh4]; exact fs_u F (by omega)
  exact pc_ret Fh4
theorem fs_qj_X10_openSign_149 {h : ms_M} (S : ¬ h 2 11 = 0) : Pc (qj_X10_openSign_149 nn h) (fun u => FSc h u) := by
  have F : FSc h h := fs_r
  unfold qj_X10_openSign_149
  refine pc_xl ?_; intro v6 _
  refine pc_xl ?_; intro h7 Eh7
  have Fh7 : FSc h h7 := by rw [Eh7]; exact fs_u F (by omega)
  exact pc_imp (fs_qj_X10_openSign_159 (fs_n S Fh7)) (fun _ q => fs_t Fh7 q)
theorem fs_qj_X10_openSign_144 {s0 : Int} {s2 : Int} {h : ms_M} (S : ¬ h 2 11 = 0) : Pc (qj_X10_openSign_144 nn s0 s2 h) (fun u => FSc h u) := by
  have F : FSc h h := fs_r
  unfold qj_X10_openSign_144
  refine pc_sv (fs_qf_X1_jump (fs_n S F)) ?_; intro u9 Qu9
  have Fu9 : FSc h u9.2 := fs_t F Qu9
  refine pc_wA ?_; intro _ _ h10 Eh10
  have Fh10 : FSc h h10 := by rw [Eh10]; exact fs_u Fu9 (by omega)
  exact pc_imp (fs_qj_X10_openSign_149 (fs_n S Fh10)) (fun _ q => fs_t Fh10 q)
theorem fs_qj_X10_openSign_110 {l1 : Int} {s0 : Int} {h : ms_M} (S : ¬ h 2 11 = 0) : Pc (qj_X10_openSign_110 nn l1 s0 h) (fun u => FSc h u) := by
  have F : FSc h h := fs_r
  unfold qj_X10_openSign_110
  refine pc_sv (fs_qf_X10_wantType (fs_n S F)) ?_; intro u13 Qu13
  have Fu13 : FSc h u13 := fs_t F Qu13
  refine pc_if (fun _ => ?_) (fun _ => ?_)
  · exact pc_imp (fs_qj_X10_openSign_144 (fs_n S Fu13)) (fun _ q => fs_t Fu13 q)
  · exact pc_imp (fs_qj_X10_openSign_144 (fs_n S Fu13)) (fun _ q => fs_t Fu13 q)
theorem fs_qj_X10_openSign_94 {l1 : Int} {h : ms_M} (S : ¬ h 2 11 = 0) : Pc (qj_X10_openSign_94 nn l1 h) (fun u => FSc h u) := by
  have F : FSc h h := fs_r
  unfold qj_X10_openSign_94
  refine pc_if (fun _ => ?_) (fun _ => ?_)
  · exact pc_imp (fs_qj_X10_openSign_110 (fs_n S F)) (fun _ q => fs_t F q)
  · exact pc_imp (fs_qj_X10_openSign_110 (fs_n S F)) (fun _ q => fs_t F q)
theorem fs_qf_X10_openSign {h : ms_M} (S : ¬ h 2 11 = 0) : Pc (qf_X10_openSign nn h) (fun u => FSc h u) := by
  have F : FSc h h := fs_r
  unfold qf_X10_openSign
  refine pc_se ?_; intro u22 _
  refine pc_if (fun _ => ?_) (fun _ => ?_)
  · exact pc_imp (fs_qj_X10_openSign_159 (fs_n S F)) (fun _ q => fs_t F q)
  · refine pc_wA ?_; intro _ _ h28 Eh28
    have Fh28 : FSc h h28 := by rw [Eh28]; exact fs_u F (by omega)
    refine pc_wA ?_; intro _ _ h33 Eh33
    have Fh33 : FSc h h33 := by rw [Eh33]; exact fs_u Fh28 (by omega)
    refine pc_wA ?_; intro _ _ h37 Eh37
    have Fh37 : FSc h h37 := by rw [Eh37]; exact fs_u Fh33 (by omega)
    refine pc_wA ?_; intro _ _ h41 Eh41
    have Fh41 : FSc h h41 := by rw [Eh41]; exact fs_u Fh37 (by omega)
    refine pc_wA ?_; intro _ _ h44 Eh44
    have Fh44 : FSc h h44 := by rw [Eh44]; exact fs_u Fh41 (by omega)
    refine pc_if (fun _ => ?_) (fun _ => ?_)
    · exact pc_imp (fs_qj_X10_openSign_94 (fs_n S Fh44)) (fun _ q => fs_t Fh44 q)
    · refine pc_if (fun _ => ?_) (fun _ => ?_)
      · exact pc_imp (fs_qj_X10_openSign_149 (fs_n S Fh44)) (fun _ q => fs_t Fh44 q)
      · exact pc_imp (fs_qj_X10_openSign_94 (fs_n S Fh44)) (fun _ q => fs_t Fh44 q)
theorem fs_qj_X10_readNamedClass_23 {l2 : Int} {l3 : Int} {h : ms_M} (S : ¬ h 2 11 = 0) : Pc (qj_X10_readNamedClass_23 nn l2 l3 h) (fun u => FSc h u.2) := by
  have F : FSc h h := fs_r
  unfold qj_X10_readNamedClass_23
  refine pc_xl ?_; intro h2 Eh2
  have Fh2 : FSc h h2 := by rw [Eh2]; exact fs_u F (by omega)
  exact pc_ret Fh2
theorem fs_qf_X10_readNamedClass {a1 : Int} {a2 : Int} {h : ms_M} (S : ¬ h 2 11 = 0) : Pc (qf_X10_readNamedClass nn a1 a2 h) (fun u => FSc h u.2) := by
  have F : FSc h h := fs_r
  unfold qf_X10_readNamedClass
  refine pc_se ?_; intro u5 _
  refine pc_if (fun _ => ?_) (fun _ => ?_)
  · exact pc_imp (fs_qj_X10_readNamedClass_23 (fs_n S F)) (fun _ q => fs_t F q)
  · refine pc_sv (fs_qf_X9_tell (fs_n S F)) ?_; intro u8 Qu8
    have Fu8 : FSc h u8 := fs_t F Qu8
    exact pc_imp (fs_qj_X10_readNamedClass_23 (fs_n S Fu8)) (fun _ q => fs_t Fu8 q)
theorem fs_qj_X10_wantKinOf_30 {l2 : Int} {h : ms_M} (S : ¬ h 2 11 = 0) : Pc (qj_X10_wantKinOf_30 nn l2 h) (fun u => FSc h u) := by
  have F : FSc h h := fs_r
  unfold qj_X10_wantKinOf_30
  refine pc_sv (fs_qf_X10_wantType (fs_n S F)) ?_; intro u2 Qu2
  have Fu2 : FSc h u2 := fs_t F Qu2
  exact pc_ret Fu2
theorem fs_qf_X10_wantKinOf {a1 : Int} {a2 : Int} {h : ms_M} (S : ¬ h 2 11 = 0) : Pc (qf_X10_wantKinOf nn a1 a2 h) (fun u => FSc h u) := by
  have F : FSc h h := fs_r
  unfold qf_X10_wantKinOf
  refine pc_se ?_; intro u4 _
  refine pc_if (fun _ => ?_) (fun _ => ?_)
  · exact pc_imp (fs_qj_X10_wantKinOf_30 (fs_n S F)) (fun _ q => fs_t F q)
  · refine pc_se ?_; intro u8 _
    refine pc_if (fun _ => ?_) (fun _ => ?_)
    · exact pc_imp (fs_qj_X10_wantKinOf_30 (fs_n S F)) (fun _ q => fs_t F q)
    · refine pc_sv (fs_qf_X10_wantType (fs_n S F)) ?_; intro u10 Qu10
      have Fu10 : FSc h u10 := fs_t F Qu10
      exact pc_ret Fu10
theorem fs_qf_X1_op_ {a1 : Int} {a2 : Int} {h : ms_M} (S : ¬ h 2 11 = 0) : Pc (qf_X1_op_ nn a1 a2 h) (fun u => FSc h u) := fun u e => ⟨ff_X1_op_ nn u e 2 11 rfl, ff_X1_op_ nn u e 2 12 rfl⟩
theorem fs_qj_X10_readInstanceof_66 {h : ms_M} (S : ¬ h 2 11 = 0) : Pc (qj_X10_readInstanceof_66 nn h) (fun u => FSc h u) := by
  have F : FSc h h := fs_r
  unfold qj_X10_readInstanceof_66
  refine pc_xl ?_; intro h1 Eh1
  have Fh1 : FSc h h1 := by rw [Eh1]; exact fs_u F (by omega)
  refine pc_xl ?_; intro h2 Eh2
  have Fh2 : FSc h h2 := by rw [Eh2]; exact fs_u Fh1 (by omega)
  exact pc_ret Fh2
theorem fs_qf_X10_readInstanceof {h : ms_M} (S : ¬ h 2 11 = 0) : Pc (qf_X10_readInstanceof nn h) (fun u => FSc h u) := by
  have F : FSc h h := fs_r
  unfold qf_X10_readInstanceof
  refine pc_xl ?_; intro v5 _
  refine pc_xl ?_; intro v6 _
  refine pc_sv (fs_qf_X10_readNamedClass (fs_n S F)) ?_; intro u8 Qu8
  have Fu8 : FSc h u8.2 := fs_t F Qu8
  refine pc_if (fun _ => ?_) (fun _ => ?_)
  · exact pc_imp (fs_qj_X10_readInstanceof_66 (fs_n S Fu8)) (fun _ q => fs_t Fu8 q)
  · refine pc_sv (fs_qf_X10_wantKinOf (fs_n S Fu8)) ?_; intro u10 Qu10
    have Fu10 : FSc h u10 := fs_t Fu8 Qu10
    refine pc_sv (fs_qf_X6_classOf (fs_n S Fu10)) ?_; intro u14 Qu14
    have Fu14 : FSc h u14.2 := fs_t Fu10 Qu14
    refine pc_sv (fs_qf_X1_op_ (fs_n S Fu14)) ?_; intro u16 Qu16
    have Fu16 : FSc h u16 := fs_t Fu14 Qu16
    refine pc_sv (fs_qf_X1_pop (fs_n S Fu16)) ?_; intro u19 Qu19
    have Fu19 : FSc h u19 := fs_t Fu16 Qu19
    refine pc_sv (fs_qf_X1_push (fs_n S Fu19)) ?_; intro u22 Qu22
    have Fu22 : FSc h u22 := fs_t Fu19 Qu22
    exact pc_imp (fs_qj_X10_readInstanceof_66 (fs_n S Fu22)) (fun _ q => fs_t Fu22 q)
theorem fs_qf_X10_closeCast {a1 : Int} {a2 : Int} {h : ms_M} (S : ¬ h 2 11 = 0) : Pc (qf_X10_closeCast nn a1 a2 h) (fun u => FSc h u) := by
  have F : FSc h h := fs_r
  unfold qf_X10_closeCast
  refine pc_xl ?_; intro h1 Eh1
  have Fh1 : FSc h h1 := by rw [Eh1]; exact fs_u F (by omega)
  refine pc_if (fun _ => ?_) (fun _ => ?_)
  · refine pc_sv (fs_qf_X10_wantKinOf (fs_n S Fh1)) ?_; intro u3 Qu3
    have Fu3 : FSc h u3 := fs_t Fh1 Qu3
    refine pc_sv (fs_qf_X6_classOf (fs_n S Fu3)) ?_; intro u7 Qu7
    have Fu7 : FSc h u7.2 := fs_t Fu3 Qu7
    refine pc_sv (fs_qf_X1_op_ (fs_n S Fu7)) ?_; intro u9 Qu9
    have Fu9 : FSc h u9 := fs_t Fu7 Qu9
    refine pc_sv (fs_qf_X1_pop (fs_n S Fu9)) ?_; intro u12 Qu12
    have Fu12 : FSc h u12 := fs_t Fu9 Qu12
    refine pc_sv (fs_qf_X1_push (fs_n S Fu12)) ?_; intro u15 Qu15
    have Fu15 : FSc h u15 := fs_t Fu12 Qu15
    refine pc_xl ?_; intro h16 Eh16
    have Fh16 : FSc h h16 := by rw [Eh16]; exact fs_u Fu15 (by omega)
    exact pc_ret Fh16
  · exact pc_ret Fh1
theorem fs_qj_X10_closeUnary_62 {l1 : Int} {l2 : Int} {s0 : Int} {h : ms_M} (S : ¬ h 2 11 = 0) : Pc (qj_X10_closeUnary_62 nn l1 l2 s0 h) (fun u => FSc h u) := by
  have F : FSc h h := fs_r
  unfold qj_X10_closeUnary_62
  refine pc_sv (fs_qf_X10_wantType (fs_n S F)) ?_; intro u2 Qu2
  have Fu2 : FSc h u2 := fs_t F Qu2
  refine pc_if (fun _ => ?_) (fun _ => ?_)
  · refine pc_sv (fs_qf_X1_push (fs_n S Fu2)) ?_; intro u5 Qu5
    have Fu5 : FSc h u5 := fs_t Fu2 Qu5
    refine pc_sv (fs_qf_X1_op_ (fs_n S Fu5)) ?_; intro u8 Qu8
    have Fu8 : FSc h u8 := fs_t Fu5 Qu8
    refine pc_sv (fs_qf_X1_pop (fs_n S Fu8)) ?_; intro u11 Qu11
    have Fu11 : FSc h u11 := fs_t Fu8 Qu11
    exact pc_ret Fu11
  · refine pc_sv (fs_qf_X1_op (fs_n S Fu2)) ?_; intro u14 Qu14
    have Fu14 : FSc h u14 := fs_t Fu2 Qu14
    exact pc_ret Fu14
theorem fs_qj_X10_closeUnary_27 {s0 : Int} {h : ms_M} (S : ¬ h 2 11 = 0) : Pc (qj_X10_closeUnary_27 nn s0 h) (fun u => FSc h u) := by
  have F : FSc h h := fs_r
  unfold qj_X10_closeUnary_27
  refine pc_sv (fs_qf_X10_wantType (fs_n S F)) ?_; intro u18 Qu18
  have Fu18 : FSc h u18 := fs_t F Qu18
  refine pc_sv (fs_qf_X1_truth (fs_n S Fu18)) ?_; intro u21 Qu21
  have Fu21 : FSc h u21 := fs_t Fu18 Qu21
  exact pc_ret Fu21
theorem fs_qf_X10_closeUnary {a1 : Int} {a2 : Int} {h : ms_M} (S : ¬ h 2 11 = 0) : Pc (qf_X10_closeUnary nn a1 a2 h) (fun u => FSc h u) := by
  have F : FSc h h := fs_r
  unfold qf_X10_closeUnary
  refine pc_xl ?_; intro h22 Eh22
  have Fh22 : FSc h h22 := by rw [Eh22]; exact fs_u F (by omega)
  refine pc_if (fun _ => ?_) (fun _ => ?_)
  · refine pc_if (fun _ => ?_) (fun _ => ?_)
    · exact pc_imp (fs_qj_X10_closeUnary_62 (fs_n S Fh22)) (fun _ q => fs_t Fh22 q)
    · exact pc_imp (fs_qj_X10_closeUnary_62 (fs_n S Fh22)) (fun _ q => fs_t Fh22 q)
  · refine pc_if (fun _ => ?_) (fun _ => ?_)
    · exact pc_imp (fs_qj_X10_closeUnary_27 (fs_n S Fh22)) (fun _ q => fs_t Fh22 q)
    · exact pc_imp (fs_qj_X10_closeUnary_27 (fs_n S Fh22)) (fun _ q => fs_t Fh22 q)
theorem fs_qf_X6_fieldOf {a1 : Int} {a2 : Int} {h : ms_M} (S : ¬ h 2 11 = 0) : Pc (qf_X6_fieldOf nn a1 a2 h) (fun u => FSc h u.2) := fun u e => ⟨ff_X6_fieldOf nn u e 2 11 rfl, ff_X6_fieldOf nn u e 2 12 rfl⟩
theorem fs_qj_X10_fetch_135 {h : ms_M} (S : ¬ h 2 11 = 0) : Pc (qj_X10_fetch_135 nn h) (fun u => FSc h u) := by
  have F : FSc h h := fs_r
  unfold qj_X10_fetch_135
  refine pc_sv (fs_qf_X1_push (fs_n S F)) ?_; intro u4 Qu4
  have Fu4 : FSc h u4 := fs_t F Qu4
  refine pc_xl ?_; intro h5 Eh5
  have Fh5 : FSc h h5 := by rw [Eh5]; exact fs_u Fu4 (by omega)
  exact pc_ret Fh5
theorem fs_qj_X10_fetch_120 {s0 : Int} {h : ms_M} (S : ¬ h 2 11 = 0) : Pc (qj_X10_fetch_120 nn s0 h) (fun u => FSc h u) := by
  have F : FSc h h := fs_r
  unfold qj_X10_fetch_120
  refine pc_sv (fs_qf_X1_op (fs_n S F)) ?_; intro u7 Qu7
  have Fu7 : FSc h u7 := fs_t F Qu7
  refine pc_sv (fs_qf_X1_pop (fs_n S Fu7)) ?_; intro u10 Qu10
  have Fu10 : FSc h u10 := fs_t Fu7 Qu10
  exact pc_imp (fs_qj_X10_fetch_135 (fs_n S Fu10)) (fun _ q => fs_t Fu10 q)
theorem fs_qj_X10_fetch_53 {s0 : Int} {h : ms_M} (S : ¬ h 2 11 = 0) : Pc (qj_X10_fetch_53 nn s0 h) (fun u => FSc h u) := by
  have F : FSc h h := fs_r
  unfold qj_X10_fetch_53
  refine pc_sv (fs_qf_X1_op_ (fs_n S F)) ?_; intro u13 Qu13
  have Fu13 : FSc h u13 := fs_t F Qu13
  exact pc_imp (fs_qj_X10_fetch_135 (fs_n S Fu13)) (fun _ q => fs_t Fu13 q)
theorem fs_qf_X10_fetch {h : ms_M} (S : ¬ h 2 11 = 0) : Pc (qf_X10_fetch nn h) (fun u => FSc h u) := fun u e => ⟨ff_X10_fetch nn u e 2 11 rfl, ff_X10_fetch nn u e 2 12 rfl⟩
theorem fs_qf_X10_give {a1 : Int} {h : ms_M} (S : ¬ h 2 11 = 0) : Pc (qf_X10_give nn a1 h) (fun u => FSc h u) := fun u e => ⟨ff_X10_give nn u e 2 11 rfl, ff_X10_give nn u e 2 12 rfl⟩
theorem fs_qf_X10_nameField {a1 : Int} {a2 : Int} {h : ms_M} (S : ¬ h 2 11 = 0) : Pc (qf_X10_nameField nn a1 a2 h) (fun u => FSc h u) := fun u e => ⟨ff_X10_nameField nn u e 2 11 rfl, ff_X10_nameField nn u e 2 12 rfl⟩
theorem fs_qj_X10_closeCall_45 {l1 : Int} {h : ms_M} (S : ¬ h 2 11 = 0) : Pc (qj_X10_closeCall_45 nn l1 h) (fun u => FSc h u) := by
  have F : FSc h h := fs_r
  unfold qj_X10_closeCall_45
  refine pc_xl ?_; intro h1 Eh1
  have Fh1 : FSc h h1 := by rw [Eh1]; exact fs_u F (by omega)
  refine pc_xl ?_; intro h2 Eh2
  have Fh2 : FSc h h2 := by rw [Eh2]; exact fs_u Fh1 (by omega)
  exact pc_ret Fh2
theorem fs_qj_X10_closeCall_35 {l1 : Int} {l2 : Int} {h : ms_M} (S : ¬ h 2 11 = 0) : Pc (qj_X10_closeCall_35 nn l1 l2 h) (fun u => FSc h u) := by
  have F : FSc h h := fs_r
  unfold qj_X10_closeCall_35
  refine pc_sv (fs_qf_X9_tell (fs_n S F)) ?_; intro u5 Qu5
  have Fu5 : FSc h u5 := fs_t F Qu5
  exact pc_imp (fs_qj_X10_closeCall_45 (fs_n S Fu5)) (fun _ q => fs_t Fu5 q)
theorem fs_qf_X10_closeCall {a1 : Int} {a2 : Int} {a3 : Int} {h : ms_M} (S : ¬ h 2 11 = 0) : Pc (qf_X10_closeCall nn a1 a2 a3 h) (fun u => FSc h u) := by
  have F : FSc h h := fs_r
  unfold qf_X10_closeCall
  refine pc_if (fun _ => ?_) (fun _ => ?_)
  · refine pc_if (fun _ => ?_) (fun _ => ?_)
    · exact pc_imp (fs_qj_X10_closeCall_35 (fs_n S F)) (fun _ q => fs_t F q)
    · refine pc_se ?_; intro u9 _
      refine pc_if (fun _ => ?_) (fun _ => ?_)
      · exact pc_imp (fs_qj_X10_closeCall_45 (fs_n S F)) (fun _ q => fs_t F q)
      · exact pc_imp (fs_qj_X10_closeCall_35 (fs_n S F)) (fun _ q => fs_t F q)
  · refine pc_sv (fs_qf_X10_give (fs_n S F)) ?_; intro u13 Qu13
    have Fu13 : FSc h u13 := fs_t F Qu13
    exact pc_imp (fs_qj_X10_closeCall_45 (fs_n S Fu13)) (fun _ q => fs_t Fu13 q)
theorem fs_qf_X6_methodOf {a1 : Int} {a2 : Int} {h : ms_M} (S : ¬ h 2 11 = 0) : Pc (qf_X6_methodOf nn a1 a2 h) (fun u => FSc h u.2) := fun u e => ⟨ff_X6_methodOf nn u e 2 11 rfl, ff_X6_methodOf nn u e 2 12 rfl⟩
theorem fs_qj_X10_giveThis_17 {h : ms_M} (S : ¬ h 2 11 = 0) : Pc (qj_X10_giveThis_17 nn h) (fun u => FSc h u) := by
  have F : FSc h h := fs_r
  unfold qj_X10_giveThis_17
  refine pc_sv (fs_qf_X1_op_ (fs_n S F)) ?_; intro u3 Qu3
  have Fu3 : FSc h u3 := fs_t F Qu3
  refine pc_sv (fs_qf_X10_give (fs_n S Fu3)) ?_; intro u6 Qu6
  have Fu6 : FSc h u6 := fs_t Fu3 Qu6
  exact pc_ret Fu6
theorem fs_qf_X10_giveThis {a1 : Int} {h : ms_M} (S : ¬ h 2 11 = 0) : Pc (qf_X10_giveThis nn a1 h) (fun u => FSc h u) := by
  have F : FSc h h := fs_r
  unfold qf_X10_giveThis
  refine pc_if (fun _ => ?_) (fun _ => ?_)
  · exact pc_imp (fs_qj_X10_giveThis_17 (fs_n S F)) (fun _ q => fs_t F q)
  · refine pc_sv (fs_qf_X9_tell (fs_n S F)) ?_; intro u10 Qu10
    have Fu10 : FSc h u10 := fs_t F Qu10
    exact pc_imp (fs_qj_X10_giveThis_17 (fs_n S Fu10)) (fun _ q => fs_t Fu10 q)
theorem fs_qf_X6_numberOf {a1 : Int} {h : ms_M} (S : ¬ h 2 11 = 0) : Pc (qf_X6_numberOf nn a1 h) (fun u => FSc h u.2) := fun u e => ⟨ff_X6_numberOf nn u e 2 11 rfl, ff_X6_numberOf nn u e 2 12 rfl⟩
theorem fs_qj_X10_readNumber_54 {h : ms_M} (S : ¬ h 2 11 = 0) : Pc (qj_X10_readNumber_54 nn h) (fun u => FSc h u) := by
  have F : FSc h h := fs_r
  unfold qj_X10_readNumber_54
  refine pc_sv (fs_qf_X10_give (fs_n S F)) ?_; intro u2 Qu2
  have Fu2 : FSc h u2 := fs_t F Qu2
  exact pc_ret Fu2
theorem fs_qf_X10_readNumber {a1 : Int} {h : ms_M} (S : ¬ h 2 11 = 0) : Pc (qf_X10_readNumber nn a1 h) (fun u => FSc h u) := fun u e => ⟨ff_X10_readNumber nn u e 2 11 rfl, ff_X10_readNumber nn u e 2 12 rfl⟩
theorem fs_qf_X10_readConstant {h : ms_M} (S : ¬ h 2 11 = 0) : Pc (qf_X10_readConstant nn h) (fun u => FSc h u) := by
  have F : FSc h h := fs_r
  unfold qf_X10_readConstant
  refine pc_xl ?_; intro v5 _
  refine pc_xl ?_; intro h6 Eh6
  have Fh6 : FSc h h6 := by rw [Eh6]; exact fs_u F (by omega)
  refine pc_se ?_; intro u9 _
  refine pc_if (fun _ => ?_) (fun _ => ?_)
  · refine pc_se ?_; intro u14 _
    refine pc_sv (fs_qf_X10_readNumber (fs_n S Fh6)) ?_; intro u16 Qu16
    have Fu16 : FSc h u16 := fs_t Fh6 Qu16
    exact pc_ret Fu16
  · refine pc_if (fun _ => ?_) (fun _ => ?_)
    · refine pc_sv (fs_qf_X1_op (fs_n S Fh6)) ?_; intro u19 Qu19
      have Fu19 : FSc h u19 := fs_t Fh6 Qu19
      refine pc_sv (fs_qf_X10_give (fs_n S Fu19)) ?_; intro u21 Qu21
      have Fu21 : FSc h u21 := fs_t Fu19 Qu21
      exact pc_ret Fu21
    · refine pc_if (fun _ => ?_) (fun _ => ?_)
      · refine pc_sv (fs_qf_X1_op (fs_n S Fh6)) ?_; intro u24 Qu24
        have Fu24 : FSc h u24 := fs_t Fh6 Qu24
        refine pc_sv (fs_qf_X10_give (fs_n S Fu24)) ?_; intro u26 Qu26
        have Fu26 : FSc h u26 := fs_t Fu24 Qu26
        exact pc_ret Fu26
      · refine pc_if (fun _ => ?_) (fun _ => ?_)
        · refine pc_sv (fs_qf_X1_op (fs_n S Fh6)) ?_; intro u29 Qu29
          have Fu29 : FSc h u29 := fs_t Fh6 Qu29
          refine pc_sv (fs_qf_X10_give (fs_n S Fu29)) ?_; intro u31 Qu31
          have Fu31 : FSc h u31 := fs_t Fu29 Qu31
          exact pc_ret Fu31
        · refine pc_sv (fs_qf_X10_giveThis (fs_n S Fh6)) ?_; intro u11 Qu11
          have Fu11 : FSc h u11 := fs_t Fh6 Qu11
          exact pc_ret Fu11
theorem fs_qf_X10_methodNamed {a1 : Int} {a2 : Int} {h : ms_M} (S : ¬ h 2 11 = 0) : Pc (qf_X10_methodNamed nn a1 a2 h) (fun u => FSc h u.2) := by
  have F : FSc h h := fs_r
  unfold qf_X10_methodNamed
  refine pc_se ?_; intro u4 _
  refine pc_se ?_; intro u6 _
  refine pc_if (fun _ => ?_) (fun _ => ?_)
  · exact pc_ret F
  · refine pc_sv (fs_qf_X9_tell (fs_n S F)) ?_; intro u9 Qu9
    have Fu9 : FSc h u9 := fs_t F Qu9
    exact pc_ret Fu9
theorem fs_qj_X10_readValue_156 {rc : tq_X10_readValue} {l1 : Int} {l2 : Int} (G : FScG_X10_readValue rc) {h : ms_M} (S : ¬ h 2 11 = 0) : Pc (qj_X10_readValue_156 nn rc l1 l2 h) (fun u => FSc h u) := by
  have F : FSc h h := fs_r
  unfold qj_X10_readValue_156
  refine pc_se ?_; intro u3 _
  refine pc_if (fun _ => ?_) (fun _ => ?_)
  · exact pc_ret F
  · refine pc_sv (G.2.1 (fs_n S F)) ?_; intro u5 Qu5
    have Fu5 : FSc h u5 := fs_t F Qu5
    exact pc_ret Fu5
theorem fs_qw_X10_readValue_129 {rc : tq_X10_readValue} (G : FScG_X10_readValue rc) : ∀ (k : Nat) (l1 : Int) (l2 : Int) (l3 : Int) (l4 : Int) (h : ms_M), ¬ h 2 11 = 0 → Pc (qw_X10_readValue_129 nn rc k l1 l2 l3 l4 h) (fun u => FSc h u) := by
  intro k
  induction k with
  | zero => intros; exact pc_none
  | succ k ih =>
    intro l1 l2 l3 l4 h S
    have F : FSc h h := fs_r
    unfold qw_X10_readValue_129
    refine pc_if (fun _ => ?_) (fun _ => ?_)
    · exact pc_imp (fs_qj_X10_readValue_156 G (fs_n S F)) (fun _ q => fs_t F q)
    · refine pc_se ?_; intro u8 _
      refine pc_if (fun _ => ?_) (fun _ => ?_)
      · exact pc_imp (fs_qj_X10_readValue_156 G (fs_n S F)) (fun _ q => fs_t F q)
      · refine pc_sv (fs_qf_X10_closeSign (fs_n S F)) ?_; intro u10 Qu10
        have Fu10 : FSc h u10 := fs_t F Qu10
        refine pc_xl ?_; intro v11 _
        exact pc_imp (ih _ _ _ _ _ (fs_n S Fu10)) (fun _ q => fs_t Fu10 q)
theorem fs_qj_X10_readValue_90 {rc : tq_X10_readValue} {l1 : Int} {l2 : Int} {l3 : Int} {l4 : Int} (G : FScG_X10_readValue rc) {qkk_30 : Int → Int → Int → Int → ms_M → Option ms_M} (Hqkk_30 : ∀ (z0 : Int) (z1 : Int) (z2 : Int) (z3 : Int) (z4 : ms_M), ¬ z4 2 11 = 0 → Pc (qkk_30 z0 z1 z2 z3 z4) (fun u => FSc z4 u)) {h : ms_M} (S : ¬ h 2 11 = 0) : Pc (qj_X10_readValue_90 nn rc qkk_30 l1 l2 l3 l4 h) (fun u => FSc h u) := by
  have F : FSc h h := fs_r
  unfold qj_X10_readValue_90
  refine pc_se ?_; intro u16 _
  refine pc_if (fun _ => ?_) (fun _ => ?_)
  · refine pc_sv (fs_qf_X10_openSign (fs_n S F)) ?_; intro u18 Qu18
    have Fu18 : FSc h u18 := fs_t F Qu18
    refine pc_xl ?_; intro v19 _
    refine pc_sv (G.2.2.1 (fs_n S Fu18)) ?_; intro u21 Qu21
    have Fu21 : FSc h u21 := fs_t Fu18 Qu21
    refine pc_xl ?_; intro v22 _
    exact pc_imp (Hqkk_30 _ _ _ _ _ (fs_n S Fu21)) (fun _ q => fs_t Fu21 q)
  · refine pc_sv (fs_qf_X10_readInstanceof (fs_n S F)) ?_; intro u24 Qu24
    have Fu24 : FSc h u24 := fs_t F Qu24
    refine pc_xl ?_; intro v25 _
    exact pc_imp (Hqkk_30 _ _ _ _ _ (fs_n S Fu24)) (fun _ q => fs_t Fu24 q)
theorem fs_qw_X10_readValue_54 {rc : tq_X10_readValue} (G : FScG_X10_readValue rc) {qkk_30 : Int → Int → Int → Int → ms_M → Option ms_M} (Hqkk_30 : ∀ (z0 : Int) (z1 : Int) (z2 : Int) (z3 : Int) (z4 : ms_M), ¬ z4 2 11 = 0 → Pc (qkk_30 z0 z1 z2 z3 z4) (fun u => FSc z4 u)) : ∀ (k : Nat) (l1 : Int) (l2 : Int) (l3 : Int) (l4 : Int) (l5 : Int) (h : ms_M), ¬ h 2 11 = 0 → Pc (qw_X10_readValue_54 nn rc qkk_30 k l1 l2 l3 l4 l5 h) (fun u => FSc h u) := by
  intro k
  induction k with
  | zero => intros; exact pc_none
  | succ k ih =>
    intro l1 l2 l3 l4 l5 h S
    have F : FSc h h := fs_r
    unfold qw_X10_readValue_54
    refine pc_if (fun _ => ?_) (fun _ => ?_)
    · exact pc_imp (fs_qj_X10_readValue_90 G Hqkk_30 (fs_n S F)) (fun _ q => fs_t F q)
    · refine pc_se ?_; intro u29 _
      refine pc_se ?_; intro u30 _
      refine pc_se ?_; intro u32 _
      refine pc_if (fun _ => ?_) (fun _ => ?_)
      · exact pc_imp (fs_qj_X10_readValue_90 G Hqkk_30 (fs_n S F)) (fun _ q => fs_t F q)
      · refine pc_sv (fs_qf_X10_closeSign (fs_n S F)) ?_; intro u34 Qu34
        have Fu34 : FSc h u34 := fs_t F Qu34
        refine pc_xl ?_; intro v35 _
        exact pc_imp (ih _ _ _ _ _ _ (fs_n S Fu34)) (fun _ q => fs_t Fu34 q)
theorem fs_qw_X10_readValue_30 {rc : tq_X10_readValue} (G : FScG_X10_readValue rc) : ∀ (k : Nat) (l1 : Int) (l2 : Int) (l3 : Int) (l4 : Int) (h : ms_M), ¬ h 2 11 = 0 → Pc (qw_X10_readValue_30 nn rc k l1 l2 l3 l4 h) (fun u => FSc h u) := by
  intro k
  induction k with
  | zero => intros; exact pc_none
  | succ k ih =>
    intro l1 l2 l3 l4 h S
    have F : FSc h h := fs_r
    unfold qw_X10_readValue_30
    refine pc_if (fun _ => ?_) (fun _ => ?_)
    · exact pc_imp (fs_qw_X10_readValue_129 G _ _ _ _ _ _ (fs_n S F)) (fun _ q => fs_t F q)
    · refine pc_se ?_; intro u40 _
      refine pc_se ?_; intro u41 _
      refine pc_if (fun _ => ?_) (fun _ => ?_)
      · exact pc_imp (fs_qw_X10_readValue_129 G _ _ _ _ _ _ (fs_n S F)) (fun _ q => fs_t F q)
      · exact pc_imp (fs_qw_X10_readValue_54 G (fun _ _ _ _ _ S => ih _ _ _ _ _ S) _ _ _ _ _ _ _ (fs_n S F)) (fun _ q => fs_t F q)
theorem fs_qo_X10_readValue {rc : tq_X10_readValue} {a1 : Int} (G : FScG_X10_readValue rc) {h : ms_M} (S : ¬ h 2 11 = 0) : Pc (qo_X10_readValue nn rc a1 h) (fun u => FSc h u) := by
  have F : FSc h h := fs_r
  unfold qo_X10_readValue
  refine pc_if (fun _ => ?_) (fun _ => ?_)
  · refine pc_xl ?_; intro v47 _
    refine pc_sv (G.2.2.1 (fs_n S F)) ?_; intro u49 Qu49
    have Fu49 : FSc h u49 := fs_t F Qu49
    exact pc_imp (fs_qw_X10_readValue_30 G _ _ _ _ _ _ (fs_n S Fu49)) (fun _ q => fs_t Fu49 q)
  · exact pc_ret F
theorem fs_qj_X10_readChoice_158 {rc : tq_X10_readValue} {l6 : Int} {s0 : Int} (G : FScG_X10_readValue rc) {h : ms_M} (S : ¬ h 2 11 = 0) : Pc (qj_X10_readChoice_158 nn rc l6 s0 h) (fun u => FSc h u) := by
  have F : FSc h h := fs_r
  unfold qj_X10_readChoice_158
  refine pc_xl ?_; intro h1 Eh1
  have Fh1 : FSc h h1 := by rw [Eh1]; exact fs_u F (by omega)
  refine pc_sv (fs_qf_X1_pop (fs_n S Fh1)) ?_; intro u4 Qu4
  have Fu4 : FSc h u4 := fs_t Fh1 Qu4
  refine pc_sv (fs_qf_X1_push (fs_n S Fu4)) ?_; intro u8 Qu8
  have Fu8 : FSc h u8 := fs_t Fu4 Qu8
  refine pc_sv (fs_qf_X1_aimHere (fs_n S Fu8)) ?_; intro u11 Qu11
  have Fu11 : FSc h u11 := fs_t Fu8 Qu11
  refine pc_xl ?_; intro h12 Eh12
  have Fh12 : FSc h h12 := by rw [Eh12]; exact fs_u Fu11 (by omega)
  exact pc_ret Fh12
theorem fs_qj_X10_readChoice_24 {rc : tq_X10_readValue} {l1 : Int} {l2 : Int} {l3 : Int} {s0 : Int} (G : FScG_X10_readValue rc) {h : ms_M} (S : ¬ h 2 11 = 0) : Pc (qj_X10_readChoice_24 nn rc l1 l2 l3 s0 h) (fun u => FSc h u) := by
  have F : FSc h h := fs_r
  unfold qj_X10_readChoice_24
  refine pc_sv (fs_qf_X10_wantType (fs_n S F)) ?_; intro u14 Qu14
  have Fu14 : FSc h u14 := fs_t F Qu14
  refine pc_sv (fs_qf_X1_jump (fs_n S Fu14)) ?_; intro u17 Qu17
  have Fu17 : FSc h u17.2 := fs_t Fu14 Qu17
  refine pc_xl ?_; intro v20 _
  refine pc_xl ?_; intro h21 Eh21
  have Fh21 : FSc h h21 := by rw [Eh21]; exact fs_u Fu17 (by omega)
  refine pc_xl ?_; intro v22 _
  refine pc_sv (G.1 (fs_n S Fh21)) ?_; intro u24 Qu24
  have Fu24 : FSc h u24 := fs_t Fh21 Qu24
  refine pc_sv (fs_qf_X1_jump (fs_n S Fu24)) ?_; intro u28 Qu28
  have Fu28 : FSc h u28.2 := fs_t Fu24 Qu28
  refine pc_sv (fs_qf_X1_pop (fs_n S Fu28)) ?_; intro u31 Qu31
  have Fu31 : FSc h u31 := fs_t Fu28 Qu31
  refine pc_sv (fs_qf_X1_aimHere (fs_n S Fu31)) ?_; intro u34 Qu34
  have Fu34 : FSc h u34 := fs_t Fu31 Qu34
  refine pc_xl ?_; intro v37 _
  refine pc_xl ?_; intro h38 Eh38
  have Fh38 : FSc h h38 := by rw [Eh38]; exact fs_u Fu34 (by omega)
  refine pc_xl ?_; intro v39 _
  refine pc_sv (G.1 (fs_n S Fh38)) ?_; intro u41 Qu41
  have Fu41 : FSc h u41 := fs_t Fh38 Qu41
  refine pc_se ?_; intro u44 _
  refine pc_sv (fs_qf_X10_wantType (fs_n S Fu41)) ?_; intro u46 Qu46
  have Fu46 : FSc h u46 := fs_t Fu41 Qu46
  refine pc_se ?_; intro u50 _
  refine pc_if (fun _ => ?_) (fun _ => ?_)
  · exact pc_imp (fs_qj_X10_readChoice_158 G (fs_n S Fu46)) (fun _ q => fs_t Fu46 q)
  · exact pc_imp (fs_qj_X10_readChoice_158 G (fs_n S Fu46)) (fun _ q => fs_t Fu46 q)
theorem fs_qo_X10_readChoice {rc : tq_X10_readValue} {a1 : Int} {a2 : Int} (G : FScG_X10_readValue rc) {h : ms_M} (S : ¬ h 2 11 = 0) : Pc (qo_X10_readChoice nn rc a1 a2 h) (fun u => FSc h u) := by
  have F : FSc h h := fs_r
  unfold qo_X10_readChoice
  refine pc_if (fun _ => ?_) (fun _ => ?_)
  · exact pc_imp (fs_qj_X10_readChoice_24 G (fs_n S F)) (fun _ q => fs_t F q)
  · exact pc_imp (fs_qj_X10_readChoice_24 G (fs_n S F)) (fun _ q => fs_t F q)
theorem fs_qj_X10_readUnary_116 {rc : tq_X10_readValue} {l2 : Int} (G : FScG_X10_readValue rc) {h : ms_M} (S : ¬ h 2 11 = 0) : Pc (qj_X10_readUnary_116 nn rc l2 h) (fun u => FSc h u) := by
  have F : FSc h h := fs_r
  unfold qj_X10_readUnary_116
  refine pc_xl ?_; intro h1 Eh1
  have Fh1 : FSc h h1 := by rw [Eh1]; exact fs_u F (by omega)
  exact pc_ret Fh1
theorem fs_qj_X10_readUnary_41 {rc : tq_X10_readValue} {l1 : Int} {l2 : Int} {l3 : Int} (G : FScG_X10_readValue rc) {h : ms_M} (S : ¬ h 2 11 = 0) : Pc (qj_X10_readUnary_41 nn rc l1 l2 l3 h) (fun u => FSc h u) := by
  have F : FSc h h := fs_r
  unfold qj_X10_readUnary_41
  refine pc_xl ?_; intro v4 _
  refine pc_xl ?_; intro h5 Eh5
  have Fh5 : FSc h h5 := by rw [Eh5]; exact fs_u F (by omega)
  refine pc_xl ?_; intro v6 _
  refine pc_sv (G.2.2.1 (fs_n S Fh5)) ?_; intro u8 Qu8
  have Fu8 : FSc h u8 := fs_t Fh5 Qu8
  refine pc_sv (fs_qf_X10_closeUnary (fs_n S Fu8)) ?_; intro u10 Qu10
  have Fu10 : FSc h u10 := fs_t Fu8 Qu10
  exact pc_imp (fs_qj_X10_readUnary_116 G (fs_n S Fu10)) (fun _ q => fs_t Fu10 q)
theorem fs_qo_X10_readUnary {rc : tq_X10_readValue} {a1 : Int} (G : FScG_X10_readValue rc) {h : ms_M} (S : ¬ h 2 11 = 0) : Pc (qo_X10_readUnary nn rc a1 h) (fun u => FSc h u) := by
  have F : FSc h h := fs_r
  unfold qo_X10_readUnary
  refine pc_if (fun _ => ?_) (fun _ => ?_)
  · refine pc_se ?_; intro u15 _
    refine pc_if (fun _ => ?_) (fun _ => ?_)
    · exact pc_imp (fs_qj_X10_readUnary_41 G (fs_n S F)) (fun _ q => fs_t F q)
    · refine pc_if (fun _ => ?_) (fun _ => ?_)
      · exact pc_imp (fs_qj_X10_readUnary_41 G (fs_n S F)) (fun _ q => fs_t F q)
      · refine pc_if (fun _ => ?_) (fun _ => ?_)
        · refine pc_se ?_; intro u18 _
          refine pc_if (fun _ => ?_) (fun _ => ?_)
          · refine pc_sv (G.2.2.2.1 (fs_n S F)) ?_; intro u20 Qu20
            have Fu20 : FSc h u20 := fs_t F Qu20
            exact pc_imp (fs_qj_X10_readUnary_116 G (fs_n S Fu20)) (fun _ q => fs_t Fu20 q)
          · refine pc_xl ?_; intro v21 _
            refine pc_xl ?_; intro v22 _
            refine pc_sv (fs_qf_X10_readNamedClass (fs_n S F)) ?_; intro u24 Qu24
            have Fu24 : FSc h u24.2 := fs_t F Qu24
            refine pc_xl ?_; intro v25 _
            refine pc_sv (G.2.2.1 (fs_n S Fu24)) ?_; intro u27 Qu27
            have Fu27 : FSc h u27 := fs_t Fu24 Qu27
            refine pc_xl ?_; intro v28 _
            refine pc_sv (fs_qf_X10_closeCast (fs_n S Fu27)) ?_; intro u30 Qu30
            have Fu30 : FSc h u30 := fs_t Fu27 Qu30
            exact pc_imp (fs_qj_X10_readUnary_116 G (fs_n S Fu30)) (fun _ q => fs_t Fu30 q)
        · exact pc_imp (fs_qj_X10_readUnary_41 G (fs_n S F)) (fun _ q => fs_t F q)
  · exact pc_ret F
theorem fs_qj_X10_readPrimary_176 {rc : tq_X10_readValue} {l3 : Int} (G : FScG_X10_readValue rc) {h : ms_M} (S : ¬ h 2 11 = 0) : Pc (qj_X10_readPrimary_176 nn rc l3 h) (fun u => FSc h u) := by
  have F : FSc h h := fs_r
  unfold qj_X10_readPrimary_176
  refine pc_if (fun _ => ?_) (fun _ => ?_)
  · exact pc_ret F
  · refine pc_sv (fs_qf_X10_fetch (fs_n S F)) ?_; intro u2 Qu2
    have Fu2 : FSc h u2 := fs_t F Qu2
    exact pc_ret Fu2
theorem fs_qj_X10_readPrimary_162 {rc : tq_X10_readValue} {l1 : Int} {l2 : Int} {l4 : Int} (G : FScG_X10_readValue rc) {qkk_118 : Int → Int → Int → Int → ms_M → Option ms_M} (Hqkk_118 : ∀ (z0 : Int) (z1 : Int) (z2 : Int) (z3 : Int) (z4 : ms_M), ¬ z4 2 11 = 0 → Pc (qkk_118 z0 z1 z2 z3 z4) (fun u => FSc z4 u)) {h : ms_M} (S : ¬ h 2 11 = 0) : Pc (qj_X10_readPrimary_162 nn rc qkk_118 l1 l2 l4 h) (fun u => FSc h u) := by
  have F : FSc h h := fs_r
  unfold qj_X10_readPrimary_162
  refine pc_se ?_; intro u6 _
  refine pc_xl ?_; intro v7 _
  exact pc_imp (Hqkk_118 _ _ _ _ _ (fs_n S F)) (fun _ q => fs_t F q)
theorem fs_qj_X10_readPrimary_138 {rc : tq_X10_readValue} {l1 : Int} {l2 : Int} {l3 : Int} {l4 : Int} (G : FScG_X10_readValue rc) {qkk_118 : Int → Int → Int → Int → ms_M → Option ms_M} (Hqkk_118 : ∀ (z0 : Int) (z1 : Int) (z2 : Int) (z3 : Int) (z4 : ms_M), ¬ z4 2 11 = 0 → Pc (qkk_118 z0 z1 z2 z3 z4) (fun u => FSc z4 u)) {h : ms_M} (S : ¬ h 2 11 = 0) : Pc (qj_X10_readPrimary_138 nn rc qkk_118 l1 l2 l3 l4 h) (fun u => FSc h u) := by
  have F : FSc h h := fs_r
  unfold qj_X10_readPrimary_138
  refine pc_sv (fs_qf_X10_fetch (fs_n S F)) ?_; intro u9 Qu9
  have Fu9 : FSc h u9 := fs_t F Qu9
  refine pc_if (fun _ => ?_) (fun _ => ?_)
  · refine pc_sv (G.2.2.2.2.2.1 (fs_n S Fu9)) ?_; intro u11 Qu11
    have Fu11 : FSc h u11 := fs_t Fu9 Qu11
    exact pc_imp (fs_qj_X10_readPrimary_162 G Hqkk_118 (fs_n S Fu11)) (fun _ q => fs_t Fu11 q)
  · refine pc_sv (G.2.2.2.2.2.2.2.1 (fs_n S Fu9)) ?_; intro u13 Qu13
    have Fu13 : FSc h u13 := fs_t Fu9 Qu13
    exact pc_imp (fs_qj_X10_readPrimary_162 G Hqkk_118 (fs_n S Fu13)) (fun _ q => fs_t Fu13 q)
theorem fs_qw_X10_readPrimary_118 {rc : tq_X10_readValue} (G : FScG_X10_readValue rc) : ∀ (k : Nat) (l1 : Int) (l2 : Int) (l3 : Int) (l4 : Int) (h : ms_M), ¬ h 2 11 = 0 → Pc (qw_X10_readPrimary_118 nn rc k l1 l2 l3 l4 h) (fun u => FSc h u) := by
  intro k
  induction k with
  | zero => intros; exact pc_none
  | succ k ih =>
    intro l1 l2 l3 l4 h S
    have F : FSc h h := fs_r
    unfold qw_X10_readPrimary_118
    refine pc_if (fun _ => ?_) (fun _ => ?_)
    · exact pc_imp (fs_qj_X10_readPrimary_176 G (fs_n S F)) (fun _ q => fs_t F q)
    · refine pc_if (fun _ => ?_) (fun _ => ?_)
      · exact pc_imp (fs_qj_X10_readPrimary_138 G (fun _ _ _ _ _ S => ih _ _ _ _ _ S) (fs_n S F)) (fun _ q => fs_t F q)
      · refine pc_if (fun _ => ?_) (fun _ => ?_)
        · exact pc_imp (fs_qj_X10_readPrimary_176 G (fs_n S F)) (fun _ q => fs_t F q)
        · exact pc_imp (fs_qj_X10_readPrimary_138 G (fun _ _ _ _ _ S => ih _ _ _ _ _ S) (fs_n S F)) (fun _ q => fs_t F q)
theorem fs_qj_X10_readPrimary_107 {rc : tq_X10_readValue} {l1 : Int} {l2 : Int} (G : FScG_X10_readValue rc) {h : ms_M} (S : ¬ h 2 11 = 0) : Pc (qj_X10_readPrimary_107 nn rc l1 l2 h) (fun u => FSc h u) := by
  have F : FSc h h := fs_r
  unfold qj_X10_readPrimary_107
  refine pc_se ?_; intro u20 _
  exact pc_imp (fs_qw_X10_readPrimary_118 G _ _ _ _ _ _ (fs_n S F)) (fun _ q => fs_t F q)
theorem fs_qo_X10_readPrimary {rc : tq_X10_readValue} {a1 : Int} (G : FScG_X10_readValue rc) {h : ms_M} (S : ¬ h 2 11 = 0) : Pc (qo_X10_readPrimary nn rc a1 h) (fun u => FSc h u) := by
  have F : FSc h h := fs_r
  unfold qo_X10_readPrimary
  refine pc_se ?_; intro u25 _
  refine pc_if (fun _ => ?_) (fun _ => ?_)
  · refine pc_sv (G.2.2.2.2.2.2.1 (fs_n S F)) ?_; intro u29 Qu29
    have Fu29 : FSc h u29 := fs_t F Qu29
    exact pc_imp (fs_qj_X10_readPrimary_107 G (fs_n S Fu29)) (fun _ q => fs_t Fu29 q)
  · refine pc_if (fun _ => ?_) (fun _ => ?_)
    · refine pc_sv (G.2.2.2.2.1 (fs_n S F)) ?_; intro u31 Qu31
      have Fu31 : FSc h u31 := fs_t F Qu31
      exact pc_imp (fs_qj_X10_readPrimary_107 G (fs_n S Fu31)) (fun _ q => fs_t Fu31 q)
    · refine pc_if (fun _ => ?_) (fun _ => ?_)
      · refine pc_xl ?_; intro v34 _
        refine pc_xl ?_; intro h35 Eh35
        have Fh35 : FSc h h35 := by rw [Eh35]; exact fs_u F (by omega)
        refine pc_sv (G.1 (fs_n S Fh35)) ?_; intro u37 Qu37
        have Fu37 : FSc h u37 := fs_t Fh35 Qu37
        refine pc_xl ?_; intro v40 _
        refine pc_xl ?_; intro h41 Eh41
        have Fh41 : FSc h h41 := by rw [Eh41]; exact fs_u Fu37 (by omega)
        refine pc_xl ?_; intro h42 Eh42
        have Fh42 : FSc h h42 := by rw [Eh42]; exact fs_u Fh41 (by omega)
        exact pc_imp (fs_qj_X10_readPrimary_107 G (fs_n S Fh42)) (fun _ q => fs_t Fh42 q)
      · refine pc_sv (fs_qf_X10_readConstant (fs_n S F)) ?_; intro u27 Qu27
        have Fu27 : FSc h u27 := fs_t F Qu27
        exact pc_imp (fs_qj_X10_readPrimary_107 G (fs_n S Fu27)) (fun _ q => fs_t Fu27 q)
theorem fs_qj_X10_readNew_188 {rc : tq_X10_readValue} {l3 : Int} {l4 : Int} {s0 : Int} {s1 : Int} (G : FScG_X10_readValue rc) {h : ms_M} (S : ¬ h 2 11 = 0) : Pc (qj_X10_readNew_188 nn rc l3 l4 s0 s1 h) (fun u => FSc h u) := by
  have F : FSc h h := fs_r
  unfold qj_X10_readNew_188
  refine pc_sv (fs_qf_X1_op_ (fs_n S F)) ?_; intro u2 Qu2
  have Fu2 : FSc h u2 := fs_t F Qu2
  refine pc_sv (fs_qf_X1_pop (fs_n S Fu2)) ?_; intro u5 Qu5
  have Fu5 : FSc h u5 := fs_t Fu2 Qu5
  refine pc_if (fun _ => ?_) (fun _ => ?_)
  · refine pc_xl ?_; intro v6 _
    refine pc_sv (fs_qf_X10_give (fs_n S Fu5)) ?_; intro u8 Qu8
    have Fu8 : FSc h u8 := fs_t Fu5 Qu8
    exact pc_ret Fu8
  · refine pc_sv (fs_qf_X10_give (fs_n S Fu5)) ?_; intro u10 Qu10
    have Fu10 : FSc h u10 := fs_t Fu5 Qu10
    exact pc_ret Fu10
theorem fs_qj_X10_readNew_170 {rc : tq_X10_readValue} {l3 : Int} {l4 : Int} {s0 : Int} (G : FScG_X10_readValue rc) {h : ms_M} (S : ¬ h 2 11 = 0) : Pc (qj_X10_readNew_170 nn rc l3 l4 s0 h) (fun u => FSc h u) := by
  have F : FSc h h := fs_r
  unfold qj_X10_readNew_170
  refine pc_if (fun _ => ?_) (fun _ => ?_)
  · refine pc_sv (fs_qf_X6_classOf (fs_n S F)) ?_; intro u14 Qu14
    have Fu14 : FSc h u14.2 := fs_t F Qu14
    exact pc_imp (fs_qj_X10_readNew_188 G (fs_n S Fu14)) (fun _ q => fs_t Fu14 q)
  · exact pc_imp (fs_qj_X10_readNew_188 G (fs_n S F)) (fun _ q => fs_t F q)
theorem fs_qj_X10_readNew_147 {rc : tq_X10_readValue} {l2 : Int} {l3 : Int} {l4 : Int} {s0 : Int} (G : FScG_X10_readValue rc) {h : ms_M} (S : ¬ h 2 11 = 0) : Pc (qj_X10_readNew_147 nn rc l2 l3 l4 s0 h) (fun u => FSc h u) := by
  have F : FSc h h := fs_r
  unfold qj_X10_readNew_147
  refine pc_xl ?_; intro v16 _
  refine pc_sv (fs_qf_X10_wantType (fs_n S F)) ?_; intro u18 Qu18
  have Fu18 : FSc h u18 := fs_t F Qu18
  refine pc_if (fun _ => ?_) (fun _ => ?_)
  · exact pc_imp (fs_qj_X10_readNew_170 G (fs_n S Fu18)) (fun _ q => fs_t Fu18 q)
  · exact pc_imp (fs_qj_X10_readNew_170 G (fs_n S Fu18)) (fun _ q => fs_t Fu18 q)
theorem fs_qj_X10_readNew_43 {rc : tq_X10_readValue} {l1 : Int} {l2 : Int} {l3 : Int} {s0 : Int} (G : FScG_X10_readValue rc) {h : ms_M} (S : ¬ h 2 11 = 0) : Pc (qj_X10_readNew_43 nn rc l1 l2 l3 s0 h) (fun u => FSc h u) := by
  have F : FSc h h := fs_r
  unfold qj_X10_readNew_43
  refine pc_if (fun _ => ?_) (fun _ => ?_)
  · refine pc_xl ?_; intro v22 _
    refine pc_se ?_; intro u24 _
    refine pc_if (fun _ => ?_) (fun _ => ?_)
    · refine pc_xl ?_; intro v26 _
      refine pc_xl ?_; intro h27 Eh27
      have Fh27 : FSc h h27 := by rw [Eh27]; exact fs_u F (by omega)
      refine pc_sv (G.1 (fs_n S Fh27)) ?_; intro u29 Qu29
      have Fu29 : FSc h u29 := fs_t Fh27 Qu29
      refine pc_xl ?_; intro v32 _
      refine pc_xl ?_; intro h33 Eh33
      have Fh33 : FSc h h33 := by rw [Eh33]; exact fs_u Fu29 (by omega)
      refine pc_if (fun _ => ?_) (fun _ => ?_)
      · exact pc_imp (fs_qj_X10_readNew_147 G (fs_n S Fh33)) (fun _ q => fs_t Fh33 q)
      · exact pc_imp (fs_qj_X10_readNew_147 G (fs_n S Fh33)) (fun _ q => fs_t Fh33 q)
    · refine pc_xl ?_; intro v37 _
      refine pc_xl ?_; intro h38 Eh38
      have Fh38 : FSc h h38 := by rw [Eh38]; exact fs_u F (by omega)
      refine pc_sv (fs_qf_X6_classOf (fs_n S Fh38)) ?_; intro u42 Qu42
      have Fu42 : FSc h u42.2 := fs_t Fh38 Qu42
      refine pc_sv (fs_qf_X1_op_ (fs_n S Fu42)) ?_; intro u44 Qu44
      have Fu44 : FSc h u44 := fs_t Fu42 Qu44
      refine pc_sv (fs_qf_X10_give (fs_n S Fu44)) ?_; intro u46 Qu46
      have Fu46 : FSc h u46 := fs_t Fu44 Qu46
      exact pc_ret Fu46
  · exact pc_ret F
theorem fs_qj_X10_readNew_28 {rc : tq_X10_readValue} {l1 : Int} {l2 : Int} {s0 : Int} (G : FScG_X10_readValue rc) {h : ms_M} (S : ¬ h 2 11 = 0) : Pc (qj_X10_readNew_28 nn rc l1 l2 s0 h) (fun u => FSc h u) := by
  have F : FSc h h := fs_r
  unfold qj_X10_readNew_28
  refine pc_if (fun _ => ?_) (fun _ => ?_)
  · refine pc_sv (fs_qf_X10_readNamedClass (fs_n S F)) ?_; intro u50 Qu50
    have Fu50 : FSc h u50.2 := fs_t F Qu50
    exact pc_imp (fs_qj_X10_readNew_43 G (fs_n S Fu50)) (fun _ q => fs_t Fu50 q)
  · exact pc_imp (fs_qj_X10_readNew_43 G (fs_n S F)) (fun _ q => fs_t F q)
theorem fs_qo_X10_readNew {rc : tq_X10_readValue} {a1 : Int} (G : FScG_X10_readValue rc) {h : ms_M} (S : ¬ h 2 11 = 0) : Pc (qo_X10_readNew nn rc a1 h) (fun u => FSc h u) := by
  have F : FSc h h := fs_r
  unfold qo_X10_readNew
  refine pc_xl ?_; intro v54 _
  refine pc_se ?_; intro u57 _
  refine pc_if (fun _ => ?_) (fun _ => ?_)
  · exact pc_imp (fs_qj_X10_readNew_28 G (fs_n S F)) (fun _ q => fs_t F q)
  · exact pc_imp (fs_qj_X10_readNew_28 G (fs_n S F)) (fun _ q => fs_t F q)
theorem fs_qj_X10_readElement_67 {rc : tq_X10_readValue} {l2 : Int} {l3 : Int} {s0 : Int} (G : FScG_X10_readValue rc) {h : ms_M} (S : ¬ h 2 11 = 0) : Pc (qj_X10_readElement_67 nn rc l2 l3 s0 h) (fun u => FSc h u) := by
  have F : FSc h h := fs_r
  unfold qj_X10_readElement_67
  refine pc_sv (fs_qf_X10_wantType (fs_n S F)) ?_; intro u2 Qu2
  have Fu2 : FSc h u2 := fs_t F Qu2
  refine pc_se ?_; intro u3 _
  refine pc_xl ?_; intro h4 Eh4
  have Fh4 : FSc h h4 := by rw [Eh4]; exact fs_u Fu2 (by omega)
  refine pc_xl ?_; intro h5 Eh5
  have Fh5 : FSc h h5 := by rw [Eh5]; exact fs_u Fh4 (by omega)
  exact pc_ret Fh5
theorem fs_qj_X10_readElement_66 {rc : tq_X10_readValue} {l2 : Int} {l3 : Int} (G : FScG_X10_readValue rc) {h : ms_M} (S : ¬ h 2 11 = 0) : Pc (qj_X10_readElement_66 nn rc l2 l3 h) (fun u => FSc h u) := by
  have F : FSc h h := fs_r
  unfold qj_X10_readElement_66
  exact pc_imp (fs_qj_X10_readElement_67 G (fs_n S F)) (fun _ q => fs_t F q)
theorem fs_qo_X10_readElement {rc : tq_X10_readValue} {a1 : Int} (G : FScG_X10_readValue rc) {h : ms_M} (S : ¬ h 2 11 = 0) : Pc (qo_X10_readElement nn rc a1 h) (fun u => FSc h u) := by
  have F : FSc h h := fs_r
  unfold qo_X10_readElement
  refine pc_xl ?_; intro v11 _
  refine pc_xl ?_; intro h12 Eh12
  have Fh12 : FSc h h12 := by rw [Eh12]; exact fs_u F (by omega)
  refine pc_sv (G.1 (fs_n S Fh12)) ?_; intro u14 Qu14
  have Fu14 : FSc h u14 := fs_t Fh12 Qu14
  refine pc_xl ?_; intro v17 _
  refine pc_xl ?_; intro h18 Eh18
  have Fh18 : FSc h h18 := by rw [Eh18]; exact fs_u Fu14 (by omega)
  refine pc_se ?_; intro u19 _
  refine pc_if (fun _ => ?_) (fun _ => ?_)
  · exact pc_imp (fs_qj_X10_readElement_66 G (fs_n S Fh18)) (fun _ q => fs_t Fh18 q)
  · refine pc_if (fun _ => ?_) (fun _ => ?_)
    · exact pc_imp (fs_qj_X10_readElement_66 G (fs_n S Fh18)) (fun _ q => fs_t Fh18 q)
    · exact pc_imp (fs_qj_X10_readElement_67 G (fs_n S Fh18)) (fun _ q => fs_t Fh18 q)
theorem fs_qj_X10_readNamed_123 {rc : tq_X10_readValue} {l1 : Int} {l2 : Int} {l4 : Int} {s0 : Int} (G : FScG_X10_readValue rc) {h : ms_M} (S : ¬ h 2 11 = 0) : Pc (qj_X10_readNamed_123 nn rc l1 l2 l4 s0 h) (fun u => FSc h u) := by
  have F : FSc h h := fs_r
  unfold qj_X10_readNamed_123
  refine pc_if (fun _ => ?_) (fun _ => ?_)
  · refine pc_if (fun _ => ?_) (fun _ => ?_)
    · refine pc_xl ?_; intro v1 _
      refine pc_se ?_; intro u3 _
      refine pc_if (fun _ => ?_) (fun _ => ?_)
      · refine pc_sv (fs_qf_X9_tell (fs_n S F)) ?_; intro u6 Qu6
        have Fu6 : FSc h u6 := fs_t F Qu6
        exact pc_ret Fu6
      · refine pc_xl ?_; intro v7 _
        refine pc_sv (fs_qf_X10_readNamedClass (fs_n S F)) ?_; intro u9 Qu9
        have Fu9 : FSc h u9.2 := fs_t F Qu9
        refine pc_xl ?_; intro v10 _
        refine pc_sv (fs_qf_X10_methodNamed (fs_n S Fu9)) ?_; intro u12 Qu12
        have Fu12 : FSc h u12.2 := fs_t Fu9 Qu12
        refine pc_xl ?_; intro v13 _
        refine pc_sv (G.2.2.2.2.2.2.2.2 (fs_n S Fu12)) ?_; intro u15 Qu15
        have Fu15 : FSc h u15 := fs_t Fu12 Qu15
        exact pc_ret Fu15
    · refine pc_sv (fs_qf_X10_giveThis (fs_n S F)) ?_; intro u18 Qu18
      have Fu18 : FSc h u18 := fs_t F Qu18
      refine pc_sv (fs_qf_X10_nameField (fs_n S Fu18)) ?_; intro u21 Qu21
      have Fu21 : FSc h u21 := fs_t Fu18 Qu21
      exact pc_ret Fu21
  · refine pc_xl ?_; intro h23 Eh23
    have Fh23 : FSc h h23 := by rw [Eh23]; exact fs_u F (by omega)
    refine pc_xl ?_; intro h24 Eh24
    have Fh24 : FSc h h24 := by rw [Eh24]; exact fs_u Fh23 (by omega)
    refine pc_se ?_; intro u27 _
    refine pc_xl ?_; intro h28 Eh28
    have Fh28 : FSc h h28 := by rw [Eh28]; exact fs_u Fh24 (by omega)
    exact pc_ret Fh28
theorem fs_qj_X10_readNamed_76 {rc : tq_X10_readValue} {l1 : Int} {l2 : Int} {l4 : Int} (G : FScG_X10_readValue rc) {h : ms_M} (S : ¬ h 2 11 = 0) : Pc (qj_X10_readNamed_76 nn rc l1 l2 l4 h) (fun u => FSc h u) := by
  have F : FSc h h := fs_r
  unfold qj_X10_readNamed_76
  refine pc_sv (G.2.2.2.2.2.2.2.2 (fs_n S F)) ?_; intro u32 Qu32
  have Fu32 : FSc h u32 := fs_t F Qu32
  exact pc_ret Fu32
theorem fs_qo_X10_readNamed {rc : tq_X10_readValue} {a1 : Int} (G : FScG_X10_readValue rc) {h : ms_M} (S : ¬ h 2 11 = 0) : Pc (qo_X10_readNamed nn rc a1 h) (fun u => FSc h u) := by
  have F : FSc h h := fs_r
  unfold qo_X10_readNamed
  refine pc_se ?_; intro u37 _
  refine pc_xl ?_; intro v40 _
  refine pc_xl ?_; intro h41 Eh41
  have Fh41 : FSc h h41 := by rw [Eh41]; exact fs_u F (by omega)
  refine pc_se ?_; intro u44 _
  refine pc_if (fun _ => ?_) (fun _ => ?_)
  · refine pc_se ?_; intro u47 _
    refine pc_if (fun _ => ?_) (fun _ => ?_)
    · exact pc_imp (fs_qj_X10_readNamed_123 G (fs_n S Fh41)) (fun _ q => fs_t Fh41 q)
    · refine pc_se ?_; intro u51 _
      exact pc_imp (fs_qj_X10_readNamed_123 G (fs_n S Fh41)) (fun _ q => fs_t Fh41 q)
  · refine pc_sv (fs_qf_X10_methodNamed (fs_n S Fh41)) ?_; intro u55 Qu55
    have Fu55 : FSc h u55.2 := fs_t Fh41 Qu55
    refine pc_if (fun _ => ?_) (fun _ => ?_)
    · exact pc_imp (fs_qj_X10_readNamed_76 G (fs_n S Fu55)) (fun _ q => fs_t Fu55 q)
    · refine pc_se ?_; intro u58 _
      refine pc_if (fun _ => ?_) (fun _ => ?_)
      · exact pc_imp (fs_qj_X10_readNamed_76 G (fs_n S Fu55)) (fun _ q => fs_t Fu55 q)
      · refine pc_sv (fs_qf_X10_giveThis (fs_n S Fu55)) ?_; intro u60 Qu60
        have Fu60 : FSc h u60 := fs_t Fu55 Qu60
        exact pc_imp (fs_qj_X10_readNamed_76 G (fs_n S Fu60)) (fun _ q => fs_t Fu60 q)
theorem fs_qj_X10_readBehindPoint_149 {rc : tq_X10_readValue} {l1 : Int} {l2 : Int} {l3 : Int} {l5 : Int} {l6 : Int} {l7 : Int} (G : FScG_X10_readValue rc) {h : ms_M} (S : ¬ h 2 11 = 0) : Pc (qj_X10_readBehindPoint_149 nn rc l1 l2 l3 l5 l6 l7 h) (fun u => FSc h u) := by
  have F : FSc h h := fs_r
  unfold qj_X10_readBehindPoint_149
  refine pc_xl ?_; intro v2 _
  refine pc_xl ?_; intro h3 Eh3
  have Fh3 : FSc h h3 := by rw [Eh3]; exact fs_u F (by omega)
  refine pc_if (fun _ => ?_) (fun _ => ?_)
  · refine pc_if (fun _ => ?_) (fun _ => ?_)
    · refine pc_sv (fs_qf_X10_nameField (fs_n S Fh3)) ?_; intro u6 Qu6
      have Fu6 : FSc h u6 := fs_t Fh3 Qu6
      exact pc_ret Fu6
    · refine pc_sv (fs_qf_X1_op (fs_n S Fh3)) ?_; intro u9 Qu9
      have Fu9 : FSc h u9 := fs_t Fh3 Qu9
      refine pc_sv (fs_qf_X1_pop (fs_n S Fu9)) ?_; intro u12 Qu12
      have Fu12 : FSc h u12 := fs_t Fu9 Qu12
      refine pc_sv (fs_qf_X10_give (fs_n S Fu12)) ?_; intro u14 Qu14
      have Fu14 : FSc h u14 := fs_t Fu12 Qu14
      exact pc_ret Fu14
  · refine pc_sv (G.2.2.2.2.2.2.2.2 (fs_n S Fh3)) ?_; intro u18 Qu18
    have Fu18 : FSc h u18 := fs_t Fh3 Qu18
    exact pc_ret Fu18
theorem fs_qj_X10_readBehindPoint_140 {rc : tq_X10_readValue} {l1 : Int} {l2 : Int} {l3 : Int} {l5 : Int} {l6 : Int} {l7 : Int} (G : FScG_X10_readValue rc) {h : ms_M} (S : ¬ h 2 11 = 0) : Pc (qj_X10_readBehindPoint_140 nn rc l1 l2 l3 l5 l6 l7 h) (fun u => FSc h u) := by
  have F : FSc h h := fs_r
  unfold qj_X10_readBehindPoint_140
  refine pc_sv (fs_qf_X9_tell (fs_n S F)) ?_; intro u22 Qu22
  have Fu22 : FSc h u22 := fs_t F Qu22
  exact pc_imp (fs_qj_X10_readBehindPoint_149 G (fs_n S Fu22)) (fun _ q => fs_t Fu22 q)
theorem fs_qj_X10_readBehindPoint_112 {rc : tq_X10_readValue} {l1 : Int} {l2 : Int} {l3 : Int} {l4 : Int} {l5 : Int} {l6 : Int} {s0 : Int} (G : FScG_X10_readValue rc) {h : ms_M} (S : ¬ h 2 11 = 0) : Pc (qj_X10_readBehindPoint_112 nn rc l1 l2 l3 l4 l5 l6 s0 h) (fun u => FSc h u) := by
  have F : FSc h h := fs_r
  unfold qj_X10_readBehindPoint_112
  refine pc_if (fun _ => ?_) (fun _ => ?_)
  · refine pc_if (fun _ => ?_) (fun _ => ?_)
    · exact pc_imp (fs_qj_X10_readBehindPoint_149 G (fs_n S F)) (fun _ q => fs_t F q)
    · exact pc_imp (fs_qj_X10_readBehindPoint_140 G (fs_n S F)) (fun _ q => fs_t F q)
  · refine pc_if (fun _ => ?_) (fun _ => ?_)
    · exact pc_imp (fs_qj_X10_readBehindPoint_140 G (fs_n S F)) (fun _ q => fs_t F q)
    · refine pc_if (fun _ => ?_) (fun _ => ?_)
      · exact pc_imp (fs_qj_X10_readBehindPoint_149 G (fs_n S F)) (fun _ q => fs_t F q)
      · exact pc_imp (fs_qj_X10_readBehindPoint_140 G (fs_n S F)) (fun _ q => fs_t F q)
theorem fs_qj_X10_readBehindPoint_72 {rc : tq_X10_readValue} {l1 : Int} {l2 : Int} {l3 : Int} {l4 : Int} {l5 : Int} {l6 : Int} {s0 : Int} (G : FScG_X10_readValue rc) {h : ms_M} (S : ¬ h 2 11 = 0) : Pc (qj_X10_readBehindPoint_72 nn rc l1 l2 l3 l4 l5 l6 s0 h) (fun u => FSc h u) := by
  have F : FSc h h := fs_r
  unfold qj_X10_readBehindPoint_72
  refine pc_xl ?_; intro v27 _
  refine pc_sv (fs_qf_X10_wantType (fs_n S F)) ?_; intro u29 Qu29
  have Fu29 : FSc h u29 := fs_t F Qu29
  refine pc_if (fun _ => ?_) (fun _ => ?_)
  · refine pc_se ?_; intro u33 _
    exact pc_imp (fs_qj_X10_readBehindPoint_112 G (fs_n S Fu29)) (fun _ q => fs_t Fu29 q)
  · refine pc_se ?_; intro u37 _
    exact pc_imp (fs_qj_X10_readBehindPoint_112 G (fs_n S Fu29)) (fun _ q => fs_t Fu29 q)
theorem fs_qj_X10_readBehindPoint_67 {rc : tq_X10_readValue} {l1 : Int} {l2 : Int} {l3 : Int} {l4 : Int} {l5 : Int} {l6 : Int} (G : FScG_X10_readValue rc) {h : ms_M} (S : ¬ h 2 11 = 0) : Pc (qj_X10_readBehindPoint_67 nn rc l1 l2 l3 l4 l5 l6 h) (fun u => FSc h u) := by
  have F : FSc h h := fs_r
  unfold qj_X10_readBehindPoint_67
  exact pc_imp (fs_qj_X10_readBehindPoint_72 G (fs_n S F)) (fun _ q => fs_t F q)
theorem fs_qj_X10_readBehindPoint_40 {rc : tq_X10_readValue} {l1 : Int} {l2 : Int} {l3 : Int} {l4 : Int} {s0 : Int} (G : FScG_X10_readValue rc) {h : ms_M} (S : ¬ h 2 11 = 0) : Pc (qj_X10_readBehindPoint_40 nn rc l1 l2 l3 l4 s0 h) (fun u => FSc h u) := by
  have F : FSc h h := fs_r
  unfold qj_X10_readBehindPoint_40
  refine pc_se ?_; intro u40 _
  refine pc_if (fun _ => ?_) (fun _ => ?_)
  · exact pc_imp (fs_qj_X10_readBehindPoint_67 G (fs_n S F)) (fun _ q => fs_t F q)
  · refine pc_se ?_; intro u42 _
    refine pc_if (fun _ => ?_) (fun _ => ?_)
    · exact pc_imp (fs_qj_X10_readBehindPoint_72 G (fs_n S F)) (fun _ q => fs_t F q)
    · exact pc_imp (fs_qj_X10_readBehindPoint_67 G (fs_n S F)) (fun _ q => fs_t F q)
theorem fs_qo_X10_readBehindPoint {rc : tq_X10_readValue} {a1 : Int} {a2 : Int} (G : FScG_X10_readValue rc) {h : ms_M} (S : ¬ h 2 11 = 0) : Pc (qo_X10_readBehindPoint nn rc a1 a2 h) (fun u => FSc h u) := by
  have F : FSc h h := fs_r
  unfold qo_X10_readBehindPoint
  refine pc_xl ?_; intro v47 _
  refine pc_se ?_; intro u50 _
  refine pc_xl ?_; intro v52 _
  refine pc_se ?_; intro u54 _
  refine pc_if (fun _ => ?_) (fun _ => ?_)
  · exact pc_imp (fs_qj_X10_readBehindPoint_40 G (fs_n S F)) (fun _ q => fs_t F q)
  · exact pc_imp (fs_qj_X10_readBehindPoint_40 G (fs_n S F)) (fun _ q => fs_t F q)
theorem fs_qj_X10_readCall_275 {rc : tq_X10_readValue} {l2 : Int} {l3 : Int} {l5 : Int} {s0 : Int} (G : FScG_X10_readValue rc) {h : ms_M} (S : ¬ h 2 11 = 0) : Pc (qj_X10_readCall_275 nn rc l2 l3 l5 s0 h) (fun u => FSc h u) := by
  have F : FSc h h := fs_r
  unfold qj_X10_readCall_275
  refine pc_sv (fs_qf_X1_pop (fs_n S F)) ?_; intro u2 Qu2
  have Fu2 : FSc h u2 := fs_t F Qu2
  refine pc_se ?_; intro u5 _
  refine pc_sv (fs_qf_X10_closeCall (fs_n S Fu2)) ?_; intro u7 Qu7
  have Fu7 : FSc h u7 := fs_t Fu2 Qu7
  exact pc_ret Fu7
theorem fs_qj_X10_readCall_245 {rc : tq_X10_readValue} {l1 : Int} {l2 : Int} {l3 : Int} {l5 : Int} {l7 : Int} {l9 : Int} {s0 : Int} (G : FScG_X10_readValue rc) {h : ms_M} (S : ¬ h 2 11 = 0) : Pc (qj_X10_readCall_245 nn rc l1 l2 l3 l5 l7 l9 s0 h) (fun u => FSc h u) := by
  have F : FSc h h := fs_r
  unfold qj_X10_readCall_245
  refine pc_sv (fs_qf_X6_methodOf (fs_n S F)) ?_; intro u10 Qu10
  have Fu10 : FSc h u10.2 := fs_t F Qu10
  refine pc_sv (fs_qf_X1_op_ (fs_n S Fu10)) ?_; intro u12 Qu12
  have Fu12 : FSc h u12 := fs_t Fu10 Qu12
  refine pc_if (fun _ => ?_) (fun _ => ?_)
  · refine pc_xl ?_; intro v14 _
    exact pc_imp (fs_qj_X10_readCall_275 G (fs_n S Fu12)) (fun _ q => fs_t Fu12 q)
  · exact pc_imp (fs_qj_X10_readCall_275 G (fs_n S Fu12)) (fun _ q => fs_t Fu12 q)
theorem fs_qj_X10_readCall_223 {rc : tq_X10_readValue} {l1 : Int} {l2 : Int} {l3 : Int} {l5 : Int} {l7 : Int} {l9 : Int} {s0 : Int} (G : FScG_X10_readValue rc) {h : ms_M} (S : ¬ h 2 11 = 0) : Pc (qj_X10_readCall_223 nn rc l1 l2 l3 l5 l7 l9 s0 h) (fun u => FSc h u) := by
  have F : FSc h h := fs_r
  unfold qj_X10_readCall_223
  refine pc_sv (fs_qf_X10_wantType (fs_n S F)) ?_; intro u17 Qu17
  have Fu17 : FSc h u17 := fs_t F Qu17
  refine pc_if (fun _ => ?_) (fun _ => ?_)
  · exact pc_imp (fs_qj_X10_readCall_245 G (fs_n S Fu17)) (fun _ q => fs_t Fu17 q)
  · exact pc_imp (fs_qj_X10_readCall_245 G (fs_n S Fu17)) (fun _ q => fs_t Fu17 q)
theorem fs_qj_X10_readCall_222 {rc : tq_X10_readValue} {l1 : Int} {l2 : Int} {l3 : Int} {l5 : Int} {l7 : Int} {l9 : Int} (G : FScG_X10_readValue rc) {h : ms_M} (S : ¬ h 2 11 = 0) : Pc (qj_X10_readCall_222 nn rc l1 l2 l3 l5 l7 l9 h) (fun u => FSc h u) := by
  have F : FSc h h := fs_r
  unfold qj_X10_readCall_222
  exact pc_imp (fs_qj_X10_readCall_223 G (fs_n S F)) (fun _ q => fs_t F q)
theorem fs_qj_X10_readCall_192 {rc : tq_X10_readValue} {l1 : Int} {l2 : Int} {l3 : Int} {l5 : Int} {l7 : Int} {l8 : Int} {l9 : Int} {s0 : Int} (G : FScG_X10_readValue rc) {h : ms_M} (S : ¬ h 2 11 = 0) : Pc (qj_X10_readCall_192 nn rc l1 l2 l3 l5 l7 l8 l9 s0 h) (fun u => FSc h u) := by
  have F : FSc h h := fs_r
  unfold qj_X10_readCall_192
  refine pc_if (fun _ => ?_) (fun _ => ?_)
  · exact pc_imp (fs_qj_X10_readCall_222 G (fs_n S F)) (fun _ q => fs_t F q)
  · refine pc_if (fun _ => ?_) (fun _ => ?_)
    · exact pc_imp (fs_qj_X10_readCall_222 G (fs_n S F)) (fun _ q => fs_t F q)
    · refine pc_se ?_; intro u22 _
      refine pc_if (fun _ => ?_) (fun _ => ?_)
      · exact pc_imp (fs_qj_X10_readCall_222 G (fs_n S F)) (fun _ q => fs_t F q)
      · exact pc_imp (fs_qj_X10_readCall_223 G (fs_n S F)) (fun _ q => fs_t F q)
theorem fs_qj_X10_readCall_128 {rc : tq_X10_readValue} {l1 : Int} {l2 : Int} {l3 : Int} {l4 : Int} {l5 : Int} {l7 : Int} {l8 : Int} (G : FScG_X10_readValue rc) {h : ms_M} (S : ¬ h 2 11 = 0) : Pc (qj_X10_readCall_128 nn rc l1 l2 l3 l4 l5 l7 l8 h) (fun u => FSc h u) := by
  have F : FSc h h := fs_r
  unfold qj_X10_readCall_128
  refine pc_xl ?_; intro v28 _
  refine pc_xl ?_; intro h29 Eh29
  have Fh29 : FSc h h29 := by rw [Eh29]; exact fs_u F (by omega)
  refine pc_if (fun _ => ?_) (fun _ => ?_)
  · refine pc_se ?_; intro u34 _
    refine pc_if (fun _ => ?_) (fun _ => ?_)
    · refine pc_if (fun _ => ?_) (fun _ => ?_)
      · exact pc_imp (fs_qj_X10_readCall_192 G (fs_n S Fh29)) (fun _ q => fs_t Fh29 q)
      · exact pc_imp (fs_qj_X10_readCall_192 G (fs_n S Fh29)) (fun _ q => fs_t Fh29 q)
    · refine pc_if (fun _ => ?_) (fun _ => ?_)
      · exact pc_imp (fs_qj_X10_readCall_192 G (fs_n S Fh29)) (fun _ q => fs_t Fh29 q)
      · exact pc_imp (fs_qj_X10_readCall_192 G (fs_n S Fh29)) (fun _ q => fs_t Fh29 q)
  · exact pc_ret Fh29
theorem fs_qj_X10_readCall_92 {rc : tq_X10_readValue} {l1 : Int} {l2 : Int} {l3 : Int} {l4 : Int} {l5 : Int} {l6 : Int} {l7 : Int} {l9 : Int} {s0 : Int} (G : FScG_X10_readValue rc) {qkk_22 : Int → Int → Int → Int → Int → Int → Int → Int → Int → ms_M → Option ms_M} (Hqkk_22 : ∀ (z0 : Int) (z1 : Int) (z2 : Int) (z3 : Int) (z4 : Int) (z5 : Int) (z6 : Int) (z7 : Int) (z8 : Int) (z9 : ms_M), ¬ z9 2 11 = 0 → Pc (qkk_22 z0 z1 z2 z3 z4 z5 z6 z7 z8 z9) (fun u => FSc z9 u)) {h : ms_M} (S : ¬ h 2 11 = 0) : Pc (qj_X10_readCall_92 nn rc qkk_22 l1 l2 l3 l4 l5 l6 l7 l9 s0 h) (fun u => FSc h u) := by
  have F : FSc h h := fs_r
  unfold qj_X10_readCall_92
  refine pc_xl ?_; intro v39 _
  refine pc_se ?_; intro u42 _
  refine pc_if (fun _ => ?_) (fun _ => ?_)
  · refine pc_xl ?_; intro v43 _
    exact pc_imp (Hqkk_22 _ _ _ _ _ _ _ _ _ _ (fs_n S F)) (fun _ q => fs_t F q)
  · refine pc_xl ?_; intro v46 _
    refine pc_xl ?_; intro h47 Eh47
    have Fh47 : FSc h h47 := by rw [Eh47]; exact fs_u F (by omega)
    refine pc_xl ?_; intro v48 _
    exact pc_imp (Hqkk_22 _ _ _ _ _ _ _ _ _ _ (fs_n S Fh47)) (fun _ q => fs_t Fh47 q)
theorem fs_qj_X10_readCall_91 {rc : tq_X10_readValue} {l1 : Int} {l2 : Int} {l3 : Int} {l4 : Int} {l5 : Int} {l6 : Int} {l7 : Int} {l9 : Int} (G : FScG_X10_readValue rc) {qkk_22 : Int → Int → Int → Int → Int → Int → Int → Int → Int → ms_M → Option ms_M} (Hqkk_22 : ∀ (z0 : Int) (z1 : Int) (z2 : Int) (z3 : Int) (z4 : Int) (z5 : Int) (z6 : Int) (z7 : Int) (z8 : Int) (z9 : ms_M), ¬ z9 2 11 = 0 → Pc (qkk_22 z0 z1 z2 z3 z4 z5 z6 z7 z8 z9) (fun u => FSc z9 u)) {h : ms_M} (S : ¬ h 2 11 = 0) : Pc (qj_X10_readCall_91 nn rc qkk_22 l1 l2 l3 l4 l5 l6 l7 l9 h) (fun u => FSc h u) := by
  have F : FSc h h := fs_r
  unfold qj_X10_readCall_91
  exact pc_imp (fs_qj_X10_readCall_92 G Hqkk_22 (fs_n S F)) (fun _ q => fs_t F q)
theorem fs_qw_X10_readCall_22 {rc : tq_X10_readValue} (G : FScG_X10_readValue rc) : ∀ (k : Nat) (l1 : Int) (l2 : Int) (l3 : Int) (l4 : Int) (l5 : Int) (l6 : Int) (l7 : Int) (l8 : Int) (l9 : Int) (h : ms_M), ¬ h 2 11 = 0 → Pc (qw_X10_readCall_22 nn rc k l1 l2 l3 l4 l5 l6 l7 l8 l9 h) (fun u => FSc h u) := by
  intro k
  induction k with
  | zero => intros; exact pc_none
  | succ k ih =>
    intro l1 l2 l3 l4 l5 l6 l7 l8 l9 h S
    have F : FSc h h := fs_r
    unfold qw_X10_readCall_22
    refine pc_if (fun _ => ?_) (fun _ => ?_)
    · exact pc_imp (fs_qj_X10_readCall_128 G (fs_n S F)) (fun _ q => fs_t F q)
    · refine pc_if (fun _ => ?_) (fun _ => ?_)
      · exact pc_imp (fs_qj_X10_readCall_128 G (fs_n S F)) (fun _ q => fs_t F q)
      · refine pc_se ?_; intro u54 _
        refine pc_if (fun _ => ?_) (fun _ => ?_)
        · exact pc_imp (fs_qj_X10_readCall_128 G (fs_n S F)) (fun _ q => fs_t F q)
        · refine pc_sv (G.1 (fs_n S F)) ?_; intro u56 Qu56
          have Fu56 : FSc h u56 := fs_t F Qu56
          refine pc_if (fun _ => ?_) (fun _ => ?_)
          · exact pc_imp (fs_qj_X10_readCall_91 G (fun _ _ _ _ _ _ _ _ _ _ S => ih _ _ _ _ _ _ _ _ _ _ S) (fs_n S Fu56)) (fun _ q => fs_t Fu56 q)
          · refine pc_se ?_; intro u61 _
            refine pc_se ?_; intro u63 _
            refine pc_if (fun _ => ?_) (fun _ => ?_)
            · exact pc_imp (fs_qj_X10_readCall_91 G (fun _ _ _ _ _ _ _ _ _ _ S => ih _ _ _ _ _ _ _ _ _ _ S) (fs_n S Fu56)) (fun _ q => fs_t Fu56 q)
            · exact pc_imp (fs_qj_X10_readCall_92 G (fun _ _ _ _ _ _ _ _ _ _ S => ih _ _ _ _ _ _ _ _ _ _ S) (fs_n S Fu56)) (fun _ q => fs_t Fu56 q)
theorem fs_qo_X10_readCall {rc : tq_X10_readValue} {a1 : Int} {a2 : Int} {a3 : Int} {a4 : Int} {a5 : Int} {a6 : Int} (G : FScG_X10_readValue rc) {h : ms_M} (S : ¬ h 2 11 = 0) : Pc (qo_X10_readCall nn rc a1 a2 a3 a4 a5 a6 h) (fun u => FSc h u) := by
  have F : FSc h h := fs_r
  unfold qo_X10_readCall
  refine pc_xl ?_; intro v71 _
  refine pc_xl ?_; intro h72 Eh72
  have Fh72 : FSc h h72 := by rw [Eh72]; exact fs_u F (by omega)
  exact pc_imp (fs_qw_X10_readCall_22 G _ _ _ _ _ _ _ _ _ _ _ (fs_n S Fh72)) (fun _ q => fs_t Fh72 q)
theorem fsg_X10_readValue (nn : Nat) : ∀ d, FScG_X10_readValue (qg_X10_readValue nn d) := by
  intro d
  induction d with
  | zero => exact ⟨fun _ => pc_none, fun _ => pc_none, fun _ => pc_none, fun _ => pc_none, fun _ => pc_none, fun _ => pc_none, fun _ => pc_none, fun _ => pc_none, fun _ => pc_none⟩
  | succ d ih => exact ⟨fun S => fs_qo_X10_readValue (nn := nn) ih S, fun S => fs_qo_X10_readChoice (nn := nn) ih S, fun S => fs_qo_X10_readUnary (nn := nn) ih S, fun S => fs_qo_X10_readPrimary (nn := nn) ih S, fun S => fs_qo_X10_readNew (nn := nn) ih S, fun S => fs_qo_X10_readElement (nn := nn) ih S, fun S => fs_qo_X10_readNamed (nn := nn) ih S, fun S => fs_qo_X10_readBehindPoint (nn := nn) ih S, fun S => fs_qo_X10_readCall (nn := nn) ih S⟩
theorem fs_qf_X10_readValue {a1 : Int} {h : ms_M} (S : ¬ h 2 11 = 0) : Pc (qf_X10_readValue nn a1 h) (fun u => FSc h u) := (fsg_X10_readValue nn 420).1 S
theorem fs_qf_X10_readChoice {a1 : Int} {a2 : Int} {h : ms_M} (S : ¬ h 2 11 = 0) : Pc (qf_X10_readChoice nn a1 a2 h) (fun u => FSc h u) := (fsg_X10_readValue nn 420).2.1 S
theorem fs_qf_X10_readUnary {a1 : Int} {h : ms_M} (S : ¬ h 2 11 = 0) : Pc (qf_X10_readUnary nn a1 h) (fun u => FSc h u) := (fsg_X10_readValue nn 420).2.2.1 S
theorem fs_qf_X10_readPrimary {a1 : Int} {h : ms_M} (S : ¬ h 2 11 = 0) : Pc (qf_X10_readPrimary nn a1 h) (fun u => FSc h u) := (fsg_X10_readValue nn 420).2.2.2.1 S
theorem fs_qf_X10_readNew {a1 : Int} {h : ms_M} (S : ¬ h 2 11 = 0) : Pc (qf_X10_readNew nn a1 h) (fun u => FSc h u) := (fsg_X10_readValue nn 420).2.2.2.2.1 S
theorem fs_qf_X10_readElement {a1 : Int} {h : ms_M} (S : ¬ h 2 11 = 0) : Pc (qf_X10_readElement nn a1 h) (fun u => FSc h u) := (fsg_X10_readValue nn 420).2.2.2.2.2.1 S
theorem fs_qf_X10_readNamed {a1 : Int} {h : ms_M} (S : ¬ h 2 11 = 0) : Pc (qf_X10_readNamed nn a1 h) (fun u => FSc h u) := (fsg_X10_readValue nn 420).2.2.2.2.2.2.1 S
theorem fs_qf_X10_readBehindPoint {a1 : Int} {a2 : Int} {h : ms_M} (S : ¬ h 2 11 = 0) : Pc (qf_X10_readBehindPoint nn a1 a2 h) (fun u => FSc h u) := (fsg_X10_readValue nn 420).2.2.2.2.2.2.2.1 S
theorem fs_qf_X10_readCall {a1 : Int} {a2 : Int} {a3 : Int} {a4 : Int} {a5 : Int} {a6 : Int} {h : ms_M} (S : ¬ h 2 11 = 0) : Pc (qf_X10_readCall nn a1 a2 a3 a4 a5 a6 h) (fun u => FSc h u) := (fsg_X10_readValue nn 420).2.2.2.2.2.2.2.2 S
theorem fs_qj_X10_readCondition_39 {l2 : Int} {s0 : Int} {h : ms_M} (S : ¬ h 2 11 = 0) : Pc (qj_X10_readCondition_39 nn l2 s0 h) (fun u => FSc h u.2) := by
  have F : FSc h h := fs_r
  unfold qj_X10_readCondition_39
  refine pc_sv (fs_qf_X10_wantType (fs_n S F)) ?_; intro u2 Qu2
  have Fu2 : FSc h u2 := fs_t F Qu2
  refine pc_xl ?_; intro v5 _
  refine pc_xl ?_; intro h6 Eh6
  have Fh6 : FSc h h6 := by rw [Eh6]; exact fs_u Fu2 (by omega)
  refine pc_sv (fs_qf_X1_jump (fs_n S Fh6)) ?_; intro u9 Qu9
  have Fu9 : FSc h u9.2 := fs_t Fh6 Qu9
  exact pc_ret Fu9
theorem fs_qf_X10_readCondition {a1 : Int} {h : ms_M} (S : ¬ h 2 11 = 0) : Pc (qf_X10_readCondition nn a1 h) (fun u => FSc h u.2) := by
  have F : FSc h h := fs_r
  unfold qf_X10_readCondition
  refine pc_xl ?_; intro v12 _
  refine pc_xl ?_; intro h14 Eh14
  have Fh14 : FSc h h14 := by rw [Eh14]; exact fs_u F (by omega)
  refine pc_sv (fs_qf_X10_readValue (fs_n S Fh14)) ?_; intro u16 Qu16
  have Fu16 : FSc h u16 := fs_t Fh14 Qu16
  refine pc_if (fun _ => ?_) (fun _ => ?_)
  · exact pc_imp (fs_qj_X10_readCondition_39 (fs_n S Fu16)) (fun _ q => fs_t Fu16 q)
  · exact pc_imp (fs_qj_X10_readCondition_39 (fs_n S Fu16)) (fun _ q => fs_t Fu16 q)
theorem fs_qf_X10_readWhole {a1 : Int} {h : ms_M} (S : ¬ h 2 11 = 0) : Pc (qf_X10_readWhole nn a1 h) (fun u => FSc h u) := by
  have F : FSc h h := fs_r
  unfold qf_X10_readWhole
  refine pc_sv (fs_qf_X10_readValue (fs_n S F)) ?_; intro u2 Qu2
  have Fu2 : FSc h u2 := fs_t F Qu2
  exact pc_ret Fu2
def FScG_X0_readBlock (rc : tq_X0_readBlock) : Prop := (∀ {a1 : Int} {h : ms_M}, ¬ h 2 11 = 0 → Pc (rc.1 a1 h) (fun u => FSc h u.2)) ∧ (∀ {a1 : Int} {h : ms_M}, ¬ h 2 11 = 0 → Pc (rc.2.1 a1 h) (fun u => FSc h u.2)) ∧ (∀ {a1 : Int} {h : ms_M}, ¬ h 2 11 = 0 → Pc (rc.2.2.1 a1 h) (fun u => FSc h u.2)) ∧ (∀ {a1 : Int} {h : ms_M}, ¬ h 2 11 = 0 → Pc (rc.2.2.2.1 a1 h) (fun u => FSc h u.2)) ∧ (∀ {a1 : Int} {h : ms_M}, ¬ h 2 11 = 0 → Pc (rc.2.2.2.2.1 a1 h) (fun u => FSc h u.2)) ∧ (∀ {a1 : Int} {h : ms_M}, ¬ h 2 11 = 0 → Pc (rc.2.2.2.2.2 a1 h) (fun u => FSc h u.2))
theorem fs_qf_X1_jumpBack {a1 : Int} {a2 : Int} {h : ms_M} (S : ¬ h 2 11 = 0) : Pc (qf_X1_jumpBack nn a1 a2 h) (fun u => FSc h u) := fun u e => ⟨ff_X1_jumpBack nn u e 2 11 rfl, ff_X1_jumpBack nn u e 2 12 rfl⟩
theorem fs_qj_X0_readLeave_99 {h : ms_M} (S : ¬ h 2 11 = 0) : Pc (qj_X0_readLeave_99 nn h) (fun u => FSc h u.2) := by
  have F : FSc h h := fs_r
  unfold qj_X0_readLeave_99
  refine pc_xl ?_; intro v3 _
  refine pc_xl ?_; intro h4 Eh4
  have Fh4 : FSc h h4 := by rw [Eh4]; exact fs_u F (by omega)
  exact pc_ret Fh4
theorem fs_qf_X0_readLeave {h : ms_M} (S : ¬ h 2 11 = 0) : Pc (qf_X0_readLeave nn h) (fun u => FSc h u.2) := by
  have F : FSc h h := fs_r
  unfold qf_X0_readLeave
  refine pc_if (fun _ => ?_) (fun _ => ?_)
  · refine pc_se ?_; intro u8 _
    refine pc_if (fun _ => ?_) (fun _ => ?_)
    · refine pc_if (fun _ => ?_) (fun _ => ?_)
      · exact pc_imp (fs_qj_X0_readLeave_99 (fs_n S F)) (fun _ q => fs_t F q)
      · refine pc_sv (fs_qf_X1_jump (fs_n S F)) ?_; intro u16 Qu16
        have Fu16 : FSc h u16.2 := fs_t F Qu16
        refine pc_wA ?_; intro _ _ h17 Eh17
        have Fh17 : FSc h h17 := by rw [Eh17]; exact fs_u Fu16 (by omega)
        refine pc_xl ?_; intro v19 _
        refine pc_xl ?_; intro h20 Eh20
        have Fh20 : FSc h h20 := by rw [Eh20]; exact fs_u Fh17 (by omega)
        exact pc_imp (fs_qj_X0_readLeave_99 (fs_n S Fh20)) (fun _ q => fs_t Fh20 q)
    · refine pc_sv (fs_qf_X1_jumpBack (fs_n S F)) ?_; intro u26 Qu26
      have Fu26 : FSc h u26 := fs_t F Qu26
      exact pc_imp (fs_qj_X0_readLeave_99 (fs_n S Fu26)) (fun _ q => fs_t Fu26 q)
  · refine pc_sv (fs_qf_X9_tell (fs_n S F)) ?_; intro u32 Qu32
    have Fu32 : FSc h u32 := fs_t F Qu32
    exact pc_imp (fs_qj_X0_readLeave_99 (fs_n S Fu32)) (fun _ q => fs_t Fu32 q)
theorem fs_qj_X0_closeAlone_21 {h : ms_M} (S : ¬ h 2 11 = 0) : Pc (qj_X0_closeAlone_21 nn h) (fun u => FSc h u) := by
  have F : FSc h h := fs_r
  unfold qj_X0_closeAlone_21
  refine pc_if (fun _ => ?_) (fun _ => ?_)
  · exact pc_ret F
  · refine pc_sv (fs_qf_X1_op (fs_n S F)) ?_; intro u5 Qu5
    have Fu5 : FSc h u5 := fs_t F Qu5
    refine pc_sv (fs_qf_X1_pop (fs_n S Fu5)) ?_; intro u8 Qu8
    have Fu8 : FSc h u8 := fs_t Fu5 Qu8
    exact pc_ret Fu8
theorem fs_qf_X0_closeAlone {a1 : Int} {h : ms_M} (S : ¬ h 2 11 = 0) : Pc (qf_X0_closeAlone nn a1 h) (fun u => FSc h u) := by
  have F : FSc h h := fs_r
  unfold qf_X0_closeAlone
  refine pc_if (fun _ => ?_) (fun _ => ?_)
  · exact pc_imp (fs_qj_X0_closeAlone_21 (fs_n S F)) (fun _ q => fs_t F q)
  · refine pc_sv (fs_qf_X9_tell (fs_n S F)) ?_; intro u14 Qu14
    have Fu14 : FSc h u14 := fs_t F Qu14
    exact pc_imp (fs_qj_X0_closeAlone_21 (fs_n S Fu14)) (fun _ q => fs_t Fu14 q)
theorem fs_qj_X1_store_15 {l1 : Int} {s0 : Int} {h : ms_M} (S : ¬ h 2 11 = 0) : Pc (qj_X1_store_15 nn l1 s0 h) (fun u => FSc h u) := by
  have F : FSc h h := fs_r
  unfold qj_X1_store_15
  refine pc_sv (fs_qf_X1_op_ (fs_n S F)) ?_; intro u2 Qu2
  have Fu2 : FSc h u2 := fs_t F Qu2
  refine pc_sv (fs_qf_X1_pop (fs_n S Fu2)) ?_; intro u4 Qu4
  have Fu4 : FSc h u4 := fs_t Fu2 Qu4
  exact pc_ret Fu4
theorem fs_qf_X1_store {a1 : Int} {a2 : Int} {h : ms_M} (S : ¬ h 2 11 = 0) : Pc (qf_X1_store nn a1 a2 h) (fun u => FSc h u) := fun u e => ⟨ff_X1_store nn u e 2 11 rfl, ff_X1_store nn u e 2 12 rfl⟩
theorem fs_qj_X0_closeGiving_90 {s0 : Int} {h : ms_M} (S : ¬ h 2 11 = 0) : Pc (qj_X0_closeGiving_90 nn s0 h) (fun u => FSc h u) := by
  have F : FSc h h := fs_r
  unfold qj_X0_closeGiving_90
  refine pc_sv (fs_qf_X1_op (fs_n S F)) ?_; intro u2 Qu2
  have Fu2 : FSc h u2 := fs_t F Qu2
  refine pc_sv (fs_qf_X1_pop (fs_n S Fu2)) ?_; intro u5 Qu5
  have Fu5 : FSc h u5 := fs_t Fu2 Qu5
  exact pc_ret Fu5
theorem fs_qf_X0_closeGiving {a1 : Int} {a2 : Int} {a3 : Int} {a4 : Int} {h : ms_M} (S : ¬ h 2 11 = 0) : Pc (qf_X0_closeGiving nn a1 a2 a3 a4 h) (fun u => FSc h u) := fun u e => ⟨ff_X0_closeGiving nn u e 2 11 rfl, ff_X0_closeGiving nn u e 2 12 rfl⟩
theorem fs_qj_X0_readPlain_156 {h : ms_M} (S : ¬ h 2 11 = 0) : Pc (qj_X0_readPlain_156 nn h) (fun u => FSc h u.2) := by
  have F : FSc h h := fs_r
  unfold qj_X0_readPlain_156
  refine pc_xl ?_; intro v3 _
  refine pc_xl ?_; intro h4 Eh4
  have Fh4 : FSc h h4 := by rw [Eh4]; exact fs_u F (by omega)
  exact pc_ret Fh4
theorem fs_qj_X0_readPlain_136 {l4 : Int} {l5 : Int} {l6 : Int} {l7 : Int} {h : ms_M} (S : ¬ h 2 11 = 0) : Pc (qj_X0_readPlain_136 nn l4 l5 l6 l7 h) (fun u => FSc h u.2) := by
  have F : FSc h h := fs_r
  unfold qj_X0_readPlain_136
  refine pc_sv (fs_qf_X0_closeGiving (fs_n S F)) ?_; intro u6 Qu6
  have Fu6 : FSc h u6 := fs_t F Qu6
  exact pc_imp (fs_qj_X0_readPlain_156 (fs_n S Fu6)) (fun _ q => fs_t Fu6 q)
theorem fs_qj_X0_readPlain_126 {l3 : Int} {l4 : Int} {l5 : Int} {l6 : Int} {l7 : Int} {h : ms_M} (S : ¬ h 2 11 = 0) : Pc (qj_X0_readPlain_126 nn l3 l4 l5 l6 l7 h) (fun u => FSc h u.2) := by
  have F : FSc h h := fs_r
  unfold qj_X0_readPlain_126
  refine pc_sv (fs_qf_X9_tell (fs_n S F)) ?_; intro u9 Qu9
  have Fu9 : FSc h u9 := fs_t F Qu9
  exact pc_imp (fs_qj_X0_readPlain_136 (fs_n S Fu9)) (fun _ q => fs_t Fu9 q)
theorem fs_qf_X0_readPlain {a1 : Int} {h : ms_M} (S : ¬ h 2 11 = 0) : Pc (qf_X0_readPlain nn a1 h) (fun u => FSc h u.2) := by
  have F : FSc h h := fs_r
  unfold qf_X0_readPlain
  refine pc_xl ?_; intro h13 Eh13
  have Fh13 : FSc h h13 := by rw [Eh13]; exact fs_u F (by omega)
  refine pc_sv (fs_qf_X10_readWhole (fs_n S Fh13)) ?_; intro u16 Qu16
  have Fu16 : FSc h u16 := fs_t Fh13 Qu16
  refine pc_se ?_; intro u19 _
  refine pc_if (fun _ => ?_) (fun _ => ?_)
  · refine pc_sv (fs_qf_X0_closeAlone (fs_n S Fu16)) ?_; intro u21 Qu21
    have Fu21 : FSc h u21 := fs_t Fu16 Qu21
    exact pc_imp (fs_qj_X0_readPlain_156 (fs_n S Fu21)) (fun _ q => fs_t Fu21 q)
  · refine pc_xl ?_; intro v34 _
    refine pc_xl ?_; intro h35 Eh35
    have Fh35 : FSc h h35 := by rw [Eh35]; exact fs_u Fu16 (by omega)
    refine pc_sv (fs_qf_X10_readWhole (fs_n S Fh35)) ?_; intro u38 Qu38
    have Fu38 : FSc h u38 := fs_t Fh35 Qu38
    refine pc_if (fun _ => ?_) (fun _ => ?_)
    · exact pc_imp (fs_qj_X0_readPlain_126 (fs_n S Fu38)) (fun _ q => fs_t Fu38 q)
    · refine pc_se ?_; intro u43 _
      refine pc_if (fun _ => ?_) (fun _ => ?_)
      · exact pc_imp (fs_qj_X0_readPlain_136 (fs_n S Fu38)) (fun _ q => fs_t Fu38 q)
      · exact pc_imp (fs_qj_X0_readPlain_126 (fs_n S Fu38)) (fun _ q => fs_t Fu38 q)
theorem fs_qj_X0_readPrint_52 {h : ms_M} (S : ¬ h 2 11 = 0) : Pc (qj_X0_readPrint_52 nn h) (fun u => FSc h u.2) := by
  have F : FSc h h := fs_r
  unfold qj_X0_readPrint_52
  refine pc_sv (fs_qf_X1_op (fs_n S F)) ?_; intro u3 Qu3
  have Fu3 : FSc h u3 := fs_t F Qu3
  refine pc_sv (fs_qf_X1_pop (fs_n S Fu3)) ?_; intro u6 Qu6
  have Fu6 : FSc h u6 := fs_t Fu3 Qu6
  refine pc_xl ?_; intro v9 _
  refine pc_xl ?_; intro h10 Eh10
  have Fh10 : FSc h h10 := by rw [Eh10]; exact fs_u Fu6 (by omega)
  exact pc_ret Fh10
theorem fs_qf_X0_readPrint {a1 : Int} {h : ms_M} (S : ¬ h 2 11 = 0) : Pc (qf_X0_readPrint nn a1 h) (fun u => FSc h u.2) := by
  have F : FSc h h := fs_r
  unfold qf_X0_readPrint
  refine pc_xl ?_; intro v15 _
  refine pc_xl ?_; intro h16 Eh16
  have Fh16 : FSc h h16 := by rw [Eh16]; exact fs_u F (by omega)
  refine pc_sv (fs_qf_X10_readWhole (fs_n S Fh16)) ?_; intro u19 Qu19
  have Fu19 : FSc h u19 := fs_t Fh16 Qu19
  refine pc_se ?_; intro u22 _
  refine pc_if (fun _ => ?_) (fun _ => ?_)
  · exact pc_imp (fs_qj_X0_readPrint_52 (fs_n S Fu19)) (fun _ q => fs_t Fu19 q)
  · refine pc_sv (fs_qf_X9_tell (fs_n S Fu19)) ?_; intro u25 Qu25
    have Fu25 : FSc h u25 := fs_t Fu19 Qu25
    exact pc_imp (fs_qj_X0_readPrint_52 (fs_n S Fu25)) (fun _ q => fs_t Fu25 q)
theorem fs_qj_X0_readReturn_158 {h : ms_M} (S : ¬ h 2 11 = 0) : Pc (qj_X0_readReturn_158 nn h) (fun u => FSc h u.2) := by
  have F : FSc h h := fs_r
  unfold qj_X0_readReturn_158
  refine pc_xl ?_; intro v3 _
  refine pc_xl ?_; intro h4 Eh4
  have Fh4 : FSc h h4 := by rw [Eh4]; exact fs_u F (by omega)
  exact pc_ret Fh4
theorem fs_qj_X0_readReturn_147 {s0 : Int} {h : ms_M} (S : ¬ h 2 11 = 0) : Pc (qj_X0_readReturn_147 nn s0 h) (fun u => FSc h u.2) := by
  have F : FSc h h := fs_r
  unfold qj_X0_readReturn_147
  refine pc_sv (fs_qf_X1_op (fs_n S F)) ?_; intro u6 Qu6
  have Fu6 : FSc h u6 := fs_t F Qu6
  refine pc_sv (fs_qf_X1_pop (fs_n S Fu6)) ?_; intro u9 Qu9
  have Fu9 : FSc h u9 := fs_t Fu6 Qu9
  exact pc_imp (fs_qj_X0_readReturn_158 (fs_n S Fu9)) (fun _ q => fs_t Fu9 q)
theorem fs_qj_X0_readReturn_124 {h : ms_M} (S : ¬ h 2 11 = 0) : Pc (qj_X0_readReturn_124 nn h) (fun u => FSc h u.2) := by
  have F : FSc h h := fs_r
  unfold qj_X0_readReturn_124
  refine pc_se ?_; intro u12 _
  refine pc_if (fun _ => ?_) (fun _ => ?_)
  · exact pc_imp (fs_qj_X0_readReturn_147 (fs_n S F)) (fun _ q => fs_t F q)
  · exact pc_imp (fs_qj_X0_readReturn_147 (fs_n S F)) (fun _ q => fs_t F q)
theorem fs_qj_X0_readReturn_68 {l1 : Int} {l2 : Int} {l3 : Int} {h : ms_M} (S : ¬ h 2 11 = 0) : Pc (qj_X0_readReturn_68 nn l1 l2 l3 h) (fun u => FSc h u.2) := by
  have F : FSc h h := fs_r
  unfold qj_X0_readReturn_68
  refine pc_if (fun _ => ?_) (fun _ => ?_)
  · refine pc_sv (fs_qf_X10_readWhole (fs_n S F)) ?_; intro u16 Qu16
    have Fu16 : FSc h u16 := fs_t F Qu16
    refine pc_se ?_; intro u22 _
    refine pc_if (fun _ => ?_) (fun _ => ?_)
    · exact pc_imp (fs_qj_X0_readReturn_124 (fs_n S Fu16)) (fun _ q => fs_t Fu16 q)
    · refine pc_sv (fs_qf_X9_tell (fs_n S Fu16)) ?_; intro u25 Qu25
      have Fu25 : FSc h u25 := fs_t Fu16 Qu25
      exact pc_imp (fs_qj_X0_readReturn_124 (fs_n S Fu25)) (fun _ q => fs_t Fu25 q)
  · refine pc_sv (fs_qf_X1_op (fs_n S F)) ?_; intro u29 Qu29
    have Fu29 : FSc h u29 := fs_t F Qu29
    exact pc_imp (fs_qj_X0_readReturn_158 (fs_n S Fu29)) (fun _ q => fs_t Fu29 q)
theorem fs_qj_X0_readReturn_55 {l1 : Int} {l2 : Int} {l3 : Int} {s0 : Int} {s1 : Int} {h : ms_M} (S : ¬ h 2 11 = 0) : Pc (qj_X0_readReturn_55 nn l1 l2 l3 s0 s1 h) (fun u => FSc h u.2) := by
  have F : FSc h h := fs_r
  unfold qj_X0_readReturn_55
  refine pc_if (fun _ => ?_) (fun _ => ?_)
  · exact pc_imp (fs_qj_X0_readReturn_68 (fs_n S F)) (fun _ q => fs_t F q)
  · refine pc_sv (fs_qf_X9_tell (fs_n S F)) ?_; intro u33 Qu33
    have Fu33 : FSc h u33 := fs_t F Qu33
    exact pc_imp (fs_qj_X0_readReturn_68 (fs_n S Fu33)) (fun _ q => fs_t Fu33 q)
theorem fs_qj_X0_readReturn_38 {l1 : Int} {l2 : Int} {s0 : Int} {h : ms_M} (S : ¬ h 2 11 = 0) : Pc (qj_X0_readReturn_38 nn l1 l2 s0 h) (fun u => FSc h u.2) := by
  have F : FSc h h := fs_r
  unfold qj_X0_readReturn_38
  refine pc_if (fun _ => ?_) (fun _ => ?_)
  · exact pc_imp (fs_qj_X0_readReturn_55 (fs_n S F)) (fun _ q => fs_t F q)
  · exact pc_imp (fs_qj_X0_readReturn_55 (fs_n S F)) (fun _ q => fs_t F q)
theorem fs_qf_X0_readReturn {a1 : Int} {h : ms_M} (S : ¬ h 2 11 = 0) : Pc (qf_X0_readReturn nn a1 h) (fun u => FSc h u.2) := by
  have F : FSc h h := fs_r
  unfold qf_X0_readReturn
  refine pc_xl ?_; intro v41 _
  refine pc_xl ?_; intro h42 Eh42
  have Fh42 : FSc h h42 := by rw [Eh42]; exact fs_u F (by omega)
  refine pc_se ?_; intro u45 _
  refine pc_if (fun _ => ?_) (fun _ => ?_)
  · exact pc_imp (fs_qj_X0_readReturn_38 (fs_n S Fh42)) (fun _ q => fs_t Fh42 q)
  · exact pc_imp (fs_qj_X0_readReturn_38 (fs_n S Fh42)) (fun _ q => fs_t Fh42 q)
theorem fs_qj_X0_readThrow_57 {h : ms_M} (S : ¬ h 2 11 = 0) : Pc (qj_X0_readThrow_57 nn h) (fun u => FSc h u.2) := by
  have F : FSc h h := fs_r
  unfold qj_X0_readThrow_57
  refine pc_sv (fs_qf_X1_op (fs_n S F)) ?_; intro u3 Qu3
  have Fu3 : FSc h u3 := fs_t F Qu3
  refine pc_sv (fs_qf_X1_pop (fs_n S Fu3)) ?_; intro u6 Qu6
  have Fu6 : FSc h u6 := fs_t Fu3 Qu6
  refine pc_xl ?_; intro v9 _
  refine pc_xl ?_; intro h10 Eh10
  have Fh10 : FSc h h10 := by rw [Eh10]; exact fs_u Fu6 (by omega)
  exact pc_ret Fh10
theorem fs_qf_X0_readThrow {a1 : Int} {h : ms_M} (S : ¬ h 2 11 = 0) : Pc (qf_X0_readThrow nn a1 h) (fun u => FSc h u.2) := by
  have F : FSc h h := fs_r
  unfold qf_X0_readThrow
  refine pc_xl ?_; intro v15 _
  refine pc_xl ?_; intro h16 Eh16
  have Fh16 : FSc h h16 := by rw [Eh16]; exact fs_u F (by omega)
  refine pc_sv (fs_qf_X10_readWhole (fs_n S Fh16)) ?_; intro u19 Qu19
  have Fu19 : FSc h u19 := fs_t Fh16 Qu19
  refine pc_se ?_; intro u24 _
  refine pc_if (fun _ => ?_) (fun _ => ?_)
  · exact pc_imp (fs_qj_X0_readThrow_57 (fs_n S Fu19)) (fun _ q => fs_t Fu19 q)
  · refine pc_sv (fs_qf_X9_tell (fs_n S Fu19)) ?_; intro u27 Qu27
    have Fu27 : FSc h u27 := fs_t Fu19 Qu27
    exact pc_imp (fs_qj_X0_readThrow_57 (fs_n S Fu27)) (fun _ q => fs_t Fu27 q)
theorem fs_qf_X0_checkTwice {a1 : Int} {h : ms_M} (S : ¬ h 2 11 = 0) : Pc (qf_X0_checkTwice nn a1 h) (fun u => FSc h u) := by
  have F : FSc h h := fs_r
  unfold qf_X0_checkTwice
  refine pc_se ?_; intro u4 _
  refine pc_se ?_; intro u6 _
  refine pc_if (fun _ => ?_) (fun _ => ?_)
  · exact pc_ret F
  · refine pc_sv (fs_qf_X9_tell (fs_n S F)) ?_; intro u9 Qu9
    have Fu9 : FSc h u9 := fs_t F Qu9
    exact pc_ret Fu9
theorem fs_qj_X1_addHandler_76 {l3 : Int} {h : ms_M} (S : ¬ h 2 11 = 0) : Pc (qj_X1_addHandler_76 nn l3 h) (fun u => FSc h u) := by
  have F : FSc h h := fs_r
  unfold qj_X1_addHandler_76
  refine pc_sv (fs_qf_X1_push (fs_n S F)) ?_; intro u2 Qu2
  have Fu2 : FSc h u2 := fs_t F Qu2
  refine pc_sv (fs_qf_X1_slotOfFrame (fs_n S Fu2)) ?_; intro u5 Qu5
  have Fu5 : FSc h u5.2 := fs_t Fu2 Qu5
  refine pc_sv (fs_qf_X1_fillFrame (fs_n S Fu5)) ?_; intro u9 Qu9
  have Fu9 : FSc h u9 := fs_t Fu5 Qu9
  exact pc_ret Fu9
theorem fs_qf_X1_addHandler {a1 : Int} {a2 : Int} {a3 : Int} {h : ms_M} (S : ¬ h 2 11 = 0) : Pc (qf_X1_addHandler nn a1 a2 a3 h) (fun u => FSc h u) := fun u e => ⟨ff_X1_addHandler nn u e 2 11 rfl, ff_X1_addHandler nn u e 2 12 rfl⟩
theorem fs_qj_X1_addLocal_28 {l3 : Int} {h : ms_M} (S : ¬ h 2 11 = 0) : Pc (qj_X1_addLocal_28 nn l3 h) (fun u => FSc h u.2) := by
  have F : FSc h h := fs_r
  unfold qj_X1_addLocal_28
  refine pc_xl ?_; intro v2 _
  refine pc_xl ?_; intro h3 Eh3
  have Fh3 : FSc h h3 := by rw [Eh3]; exact fs_u F (by omega)
  refine pc_xl ?_; intro v6 _
  refine pc_xl ?_; intro h7 Eh7
  have Fh7 : FSc h h7 := by rw [Eh7]; exact fs_u Fh3 (by omega)
  exact pc_ret Fh7
theorem fs_qf_X1_addLocal {a1 : Int} {a2 : Int} {h : ms_M} (S : ¬ h 2 11 = 0) : Pc (qf_X1_addLocal nn a1 a2 h) (fun u => FSc h u.2) := fun u e => ⟨ff_X1_addLocal nn u e 2 11 rfl, ff_X1_addLocal nn u e 2 12 rfl⟩
theorem fs_qj_X0_readVariable_69 {l2 : Int} {l3 : Int} {h : ms_M} (S : ¬ h 2 11 = 0) : Pc (qj_X0_readVariable_69 nn l2 l3 h) (fun u => FSc h u.2) := by
  have F : FSc h h := fs_r
  unfold qj_X0_readVariable_69
  refine pc_se ?_; intro u5 _
  refine pc_sv (fs_qf_X1_addLocal (fs_n S F)) ?_; intro u7 Qu7
  have Fu7 : FSc h u7.2 := fs_t F Qu7
  refine pc_sv (fs_qf_X1_store (fs_n S Fu7)) ?_; intro u9 Qu9
  have Fu9 : FSc h u9 := fs_t Fu7 Qu9
  refine pc_xl ?_; intro v12 _
  refine pc_xl ?_; intro h13 Eh13
  have Fh13 : FSc h h13 := by rw [Eh13]; exact fs_u Fu9 (by omega)
  exact pc_ret Fh13
theorem fs_qf_X0_readVariable {a1 : Int} {h : ms_M} (S : ¬ h 2 11 = 0) : Pc (qf_X0_readVariable nn a1 h) (fun u => FSc h u.2) := by
  have F : FSc h h := fs_r
  unfold qf_X0_readVariable
  refine pc_sv (fs_qf_X2_readType (fs_n S F)) ?_; intro u16 Qu16
  have Fu16 : FSc h u16.2 := fs_t F Qu16
  refine pc_sv (fs_qf_X0_checkTwice (fs_n S Fu16)) ?_; intro u20 Qu20
  have Fu20 : FSc h u20 := fs_t Fu16 Qu20
  refine pc_xl ?_; intro v22 _
  refine pc_xl ?_; intro h23 Eh23
  have Fh23 : FSc h h23 := by rw [Eh23]; exact fs_u Fu20 (by omega)
  refine pc_sv (fs_qf_X10_readWhole (fs_n S Fh23)) ?_; intro u26 Qu26
  have Fu26 : FSc h u26 := fs_t Fh23 Qu26
  refine pc_se ?_; intro u31 _
  refine pc_if (fun _ => ?_) (fun _ => ?_)
  · exact pc_imp (fs_qj_X0_readVariable_69 (fs_n S Fu26)) (fun _ q => fs_t Fu26 q)
  · refine pc_xl ?_; intro v33 _
    refine pc_sv (fs_qf_X9_tell (fs_n S Fu26)) ?_; intro u35 Qu35
    have Fu35 : FSc h u35 := fs_t Fu26 Qu35
    exact pc_imp (fs_qj_X0_readVariable_69 (fs_n S Fu35)) (fun _ q => fs_t Fu35 q)
theorem fs_qj_X0_readBlock_88 {rc : tq_X0_readBlock} {l2 : Int} {l3 : Int} (G : FScG_X0_readBlock rc) {h : ms_M} (S : ¬ h 2 11 = 0) : Pc (qj_X0_readBlock_88 nn rc l2 l3 h) (fun u => FSc h u.2) := by
  have F : FSc h h := fs_r
  unfold qj_X0_readBlock_88
  refine pc_xl ?_; intro v3 _
  refine pc_xl ?_; intro h4 Eh4
  have Fh4 : FSc h h4 := by rw [Eh4]; exact fs_u F (by omega)
  refine pc_xl ?_; intro h6 Eh6
  have Fh6 : FSc h h6 := by rw [Eh6]; exact fs_u Fh4 (by omega)
  refine pc_ck (fun _ => ?_)
  exact pc_ret Fh6
theorem fs_qj_X0_readBlock_76 {rc : tq_X0_readBlock} {l1 : Int} {l2 : Int} {l4 : Int} (G : FScG_X0_readBlock rc) {qkk_26 : Int → Int → Int → Int → ms_M → Option (Int × ms_M)} (Hqkk_26 : ∀ (z0 : Int) (z1 : Int) (z2 : Int) (z3 : Int) (z4 : ms_M), ¬ z4 2 11 = 0 → Pc (qkk_26 z0 z1 z2 z3 z4) (fun u => FSc z4 u.2)) {h : ms_M} (S : ¬ h 2 11 = 0) : Pc (qj_X0_readBlock_76 nn rc qkk_26 l1 l2 l4 h) (fun u => FSc h u.2) := by
  have F : FSc h h := fs_r
  unfold qj_X0_readBlock_76
  refine pc_sv (G.2.2.1 (fs_n S F)) ?_; intro u9 Qu9
  have Fu9 : FSc h u9.2 := fs_t F Qu9
  refine pc_xl ?_; intro v10 _
  exact pc_imp (Hqkk_26 _ _ _ _ _ (fs_n S Fu9)) (fun _ q => fs_t Fu9 q)
theorem fs_qw_X0_readBlock_26 {rc : tq_X0_readBlock} (G : FScG_X0_readBlock rc) : ∀ (k : Nat) (l1 : Int) (l2 : Int) (l3 : Int) (l4 : Int) (h : ms_M), ¬ h 2 11 = 0 → Pc (qw_X0_readBlock_26 nn rc k l1 l2 l3 l4 h) (fun u => FSc h u.2) := by
  intro k
  induction k with
  | zero => intros; exact pc_none
  | succ k ih =>
    intro l1 l2 l3 l4 h S
    have F : FSc h h := fs_r
    unfold qw_X0_readBlock_26
    refine pc_if (fun _ => ?_) (fun _ => ?_)
    · exact pc_imp (fs_qj_X0_readBlock_88 G (fs_n S F)) (fun _ q => fs_t F q)
    · refine pc_if (fun _ => ?_) (fun _ => ?_)
      · exact pc_imp (fs_qj_X0_readBlock_88 G (fs_n S F)) (fun _ q => fs_t F q)
      · refine pc_se ?_; intro u15 _
        refine pc_if (fun _ => ?_) (fun _ => ?_)
        · exact pc_imp (fs_qj_X0_readBlock_88 G (fs_n S F)) (fun _ q => fs_t F q)
        · refine pc_if (fun _ => ?_) (fun _ => ?_)
          · exact pc_imp (fs_qj_X0_readBlock_76 G (fun _ _ _ _ _ S => ih _ _ _ _ _ S) (fs_n S F)) (fun _ q => fs_t F q)
          · refine pc_sv (fs_qf_X9_tell (fs_n S F)) ?_; intro u20 Qu20
            have Fu20 : FSc h u20 := fs_t F Qu20
            exact pc_imp (fs_qj_X0_readBlock_76 G (fun _ _ _ _ _ S => ih _ _ _ _ _ S) (fs_n S Fu20)) (fun _ q => fs_t Fu20 q)
theorem fs_qo_X0_readBlock {rc : tq_X0_readBlock} {a1 : Int} (G : FScG_X0_readBlock rc) {h : ms_M} (S : ¬ h 2 11 = 0) : Pc (qo_X0_readBlock nn rc a1 h) (fun u => FSc h u.2) := by
  have F : FSc h h := fs_r
  unfold qo_X0_readBlock
  refine pc_xl ?_; intro v29 _
  refine pc_xl ?_; intro h30 Eh30
  have Fh30 : FSc h h30 := by rw [Eh30]; exact fs_u F (by omega)
  exact pc_imp (fs_qw_X0_readBlock_26 G _ _ _ _ _ _ (fs_n S Fh30)) (fun _ q => fs_t Fh30 q)
theorem fs_qo_X0_readPart {rc : tq_X0_readBlock} {a1 : Int} (G : FScG_X0_readBlock rc) {h : ms_M} (S : ¬ h 2 11 = 0) : Pc (qo_X0_readPart nn rc a1 h) (fun u => FSc h u.2) := by
  have F : FSc h h := fs_r
  unfold qo_X0_readPart
  refine pc_sv (G.2.2.1 (fs_n S F)) ?_; intro u4 Qu4
  have Fu4 : FSc h u4.2 := fs_t F Qu4
  refine pc_xl ?_; intro h6 Eh6
  have Fh6 : FSc h h6 := by rw [Eh6]; exact fs_u Fu4 (by omega)
  refine pc_ck (fun _ => ?_)
  exact pc_ret Fh6
theorem fs_qj_X0_readStatement_217 {rc : tq_X0_readBlock} {l1 : Int} (G : FScG_X0_readBlock rc) {h : ms_M} (S : ¬ h 2 11 = 0) : Pc (qj_X0_readStatement_217 nn rc l1 h) (fun u => FSc h u.2) := by
  have F : FSc h h := fs_r
  unfold qj_X0_readStatement_217
  refine pc_se ?_; intro u3 _
  refine pc_if (fun _ => ?_) (fun _ => ?_)
  · refine pc_xl ?_; intro v4 _
    refine pc_sv (fs_qf_X0_readPlain (fs_n S F)) ?_; intro u6 Qu6
    have Fu6 : FSc h u6.2 := fs_t F Qu6
    refine pc_ck (fun _ => ?_)
    exact pc_ret Fu6
  · refine pc_xl ?_; intro v8 _
    refine pc_sv (fs_qf_X0_readVariable (fs_n S F)) ?_; intro u10 Qu10
    have Fu10 : FSc h u10.2 := fs_t F Qu10
    refine pc_ck (fun _ => ?_)
    exact pc_ret Fu10
theorem fs_qj_X0_readStatement_188 {rc : tq_X0_readBlock} (G : FScG_X0_readBlock rc) {h : ms_M} (S : ¬ h 2 11 = 0) : Pc (qj_X0_readStatement_188 nn rc h) (fun u => FSc h u.2) := by
  have F : FSc h h := fs_r
  unfold qj_X0_readStatement_188
  refine pc_sv (fs_qf_X0_readLeave (fs_n S F)) ?_; intro u14 Qu14
  have Fu14 : FSc h u14.2 := fs_t F Qu14
  refine pc_ck (fun _ => ?_)
  exact pc_ret Fu14
theorem fs_qo_X0_readStatement {rc : tq_X0_readBlock} {a1 : Int} (G : FScG_X0_readBlock rc) {h : ms_M} (S : ¬ h 2 11 = 0) : Pc (qo_X0_readStatement nn rc a1 h) (fun u => FSc h u.2) := by
  have F : FSc h h := fs_r
  unfold qo_X0_readStatement
  refine pc_if (fun _ => ?_) (fun _ => ?_)
  · refine pc_se ?_; intro u18 _
    refine pc_if (fun _ => ?_) (fun _ => ?_)
    · exact pc_imp (fs_qj_X0_readStatement_188 G (fs_n S F)) (fun _ q => fs_t F q)
    · refine pc_if (fun _ => ?_) (fun _ => ?_)
      · exact pc_imp (fs_qj_X0_readStatement_188 G (fs_n S F)) (fun _ q => fs_t F q)
      · refine pc_if (fun _ => ?_) (fun _ => ?_)
        · refine pc_xl ?_; intro v19 _
          refine pc_sv (G.2.2.2.1 (fs_n S F)) ?_; intro u21 Qu21
          have Fu21 : FSc h u21.2 := fs_t F Qu21
          refine pc_ck (fun _ => ?_)
          exact pc_ret Fu21
        · refine pc_if (fun _ => ?_) (fun _ => ?_)
          · refine pc_xl ?_; intro v23 _
            refine pc_sv (fs_qf_X0_readPrint (fs_n S F)) ?_; intro u25 Qu25
            have Fu25 : FSc h u25.2 := fs_t F Qu25
            refine pc_ck (fun _ => ?_)
            exact pc_ret Fu25
          · refine pc_if (fun _ => ?_) (fun _ => ?_)
            · refine pc_xl ?_; intro v27 _
              refine pc_sv (fs_qf_X0_readReturn (fs_n S F)) ?_; intro u29 Qu29
              have Fu29 : FSc h u29.2 := fs_t F Qu29
              refine pc_ck (fun _ => ?_)
              exact pc_ret Fu29
            · refine pc_if (fun _ => ?_) (fun _ => ?_)
              · refine pc_xl ?_; intro v31 _
                refine pc_sv (fs_qf_X0_readThrow (fs_n S F)) ?_; intro u33 Qu33
                have Fu33 : FSc h u33.2 := fs_t F Qu33
                refine pc_ck (fun _ => ?_)
                exact pc_ret Fu33
              · refine pc_if (fun _ => ?_) (fun _ => ?_)
                · refine pc_xl ?_; intro v35 _
                  refine pc_sv (G.2.2.2.2.2 (fs_n S F)) ?_; intro u37 Qu37
                  have Fu37 : FSc h u37.2 := fs_t F Qu37
                  refine pc_ck (fun _ => ?_)
                  exact pc_ret Fu37
                · refine pc_if (fun _ => ?_) (fun _ => ?_)
                  · refine pc_xl ?_; intro v39 _
                    refine pc_sv (G.2.2.2.2.1 (fs_n S F)) ?_; intro u41 Qu41
                    have Fu41 : FSc h u41.2 := fs_t F Qu41
                    refine pc_ck (fun _ => ?_)
                    exact pc_ret Fu41
                  · refine pc_if (fun _ => ?_) (fun _ => ?_)
                    · refine pc_xl ?_; intro v43 _
                      refine pc_sv (G.1 (fs_n S F)) ?_; intro u45 Qu45
                      have Fu45 : FSc h u45.2 := fs_t F Qu45
                      refine pc_ck (fun _ => ?_)
                      exact pc_ret Fu45
                    · exact pc_imp (fs_qj_X0_readStatement_217 G (fs_n S F)) (fun _ q => fs_t F q)
  · exact pc_ret F
theorem fs_qj_X0_readIf_99 {rc : tq_X0_readBlock} {l3 : Int} {l5 : Int} (G : FScG_X0_readBlock rc) {h : ms_M} (S : ¬ h 2 11 = 0) : Pc (qj_X0_readIf_99 nn rc l3 l5 h) (fun u => FSc h u.2) := by
  have F : FSc h h := fs_r
  unfold qj_X0_readIf_99
  refine pc_if (fun _ => ?_) (fun _ => ?_)
  · exact pc_ret F
  · refine pc_if (fun _ => ?_) (fun _ => ?_)
    · exact pc_ret F
    · exact pc_ret F
theorem fs_qj_X0_readIf_69 {rc : tq_X0_readBlock} {l1 : Int} {l2 : Int} {l3 : Int} {s0 : Int} (G : FScG_X0_readBlock rc) {h : ms_M} (S : ¬ h 2 11 = 0) : Pc (qj_X0_readIf_69 nn rc l1 l2 l3 s0 h) (fun u => FSc h u.2) := by
  have F : FSc h h := fs_r
  unfold qj_X0_readIf_69
  refine pc_sv (fs_qf_X1_aimHere (fs_n S F)) ?_; intro u5 Qu5
  have Fu5 : FSc h u5 := fs_t F Qu5
  refine pc_sv (G.2.1 (fs_n S Fu5)) ?_; intro u7 Qu7
  have Fu7 : FSc h u7.2 := fs_t Fu5 Qu7
  refine pc_if (fun _ => ?_) (fun _ => ?_)
  · exact pc_imp (fs_qj_X0_readIf_99 G (fs_n S Fu7)) (fun _ q => fs_t Fu7 q)
  · refine pc_sv (fs_qf_X1_aimHere (fs_n S Fu7)) ?_; intro u10 Qu10
    have Fu10 : FSc h u10 := fs_t Fu7 Qu10
    exact pc_imp (fs_qj_X0_readIf_99 G (fs_n S Fu10)) (fun _ q => fs_t Fu10 q)
theorem fs_qo_X0_readIf {rc : tq_X0_readBlock} {a1 : Int} (G : FScG_X0_readBlock rc) {h : ms_M} (S : ¬ h 2 11 = 0) : Pc (qo_X0_readIf nn rc a1 h) (fun u => FSc h u.2) := by
  have F : FSc h h := fs_r
  unfold qo_X0_readIf
  refine pc_sv (fs_qf_X10_readCondition (fs_n S F)) ?_; intro u14 Qu14
  have Fu14 : FSc h u14.2 := fs_t F Qu14
  refine pc_sv (G.2.1 (fs_n S Fu14)) ?_; intro u16 Qu16
  have Fu16 : FSc h u16.2 := fs_t Fu14 Qu16
  refine pc_se ?_; intro u19 _
  refine pc_if (fun _ => ?_) (fun _ => ?_)
  · refine pc_xl ?_; intro v22 _
    refine pc_xl ?_; intro h23 Eh23
    have Fh23 : FSc h h23 := by rw [Eh23]; exact fs_u Fu16 (by omega)
    refine pc_if (fun _ => ?_) (fun _ => ?_)
    · exact pc_imp (fs_qj_X0_readIf_69 G (fs_n S Fh23)) (fun _ q => fs_t Fh23 q)
    · refine pc_sv (fs_qf_X1_jump (fs_n S Fh23)) ?_; intro u26 Qu26
      have Fu26 : FSc h u26.2 := fs_t Fh23 Qu26
      exact pc_imp (fs_qj_X0_readIf_69 G (fs_n S Fu26)) (fun _ q => fs_t Fu26 q)
  · refine pc_sv (fs_qf_X1_aimHere (fs_n S Fu16)) ?_; intro u30 Qu30
    have Fu30 : FSc h u30 := fs_t Fu16 Qu30
    exact pc_ret Fu30
theorem fs_qj_X0_readWhile_187 {rc : tq_X0_readBlock} {l2 : Int} {l3 : Int} {l4 : Int} {l8 : Int} (G : FScG_X0_readBlock rc) {h : ms_M} (S : ¬ h 2 11 = 0) : Pc (qj_X0_readWhile_187 nn rc l2 l3 l4 l8 h) (fun u => FSc h u.2) := by
  have F : FSc h h := fs_r
  unfold qj_X0_readWhile_187
  refine pc_xl ?_; intro h1 Eh1
  have Fh1 : FSc h h1 := by rw [Eh1]; exact fs_u F (by omega)
  refine pc_xl ?_; intro h2 Eh2
  have Fh2 : FSc h h2 := by rw [Eh2]; exact fs_u Fh1 (by omega)
  refine pc_xl ?_; intro h3 Eh3
  have Fh3 : FSc h h3 := by rw [Eh3]; exact fs_u Fh2 (by omega)
  refine pc_ck (fun _ => ?_)
  exact pc_ret Fh3
theorem fs_qw_X0_readWhile_148 {rc : tq_X0_readBlock} (G : FScG_X0_readBlock rc) : ∀ (k : Nat) (l2 : Int) (l3 : Int) (l4 : Int) (l8 : Int) (l9 : Int) (h : ms_M), ¬ h 2 11 = 0 → Pc (qw_X0_readWhile_148 nn rc k l2 l3 l4 l8 l9 h) (fun u => FSc h u.2) := by
  intro k
  induction k with
  | zero => intros; exact pc_none
  | succ k ih =>
    intro l2 l3 l4 l8 l9 h S
    have F : FSc h h := fs_r
    unfold qw_X0_readWhile_148
    refine pc_if (fun _ => ?_) (fun _ => ?_)
    · exact pc_imp (fs_qj_X0_readWhile_187 G (fs_n S F)) (fun _ q => fs_t F q)
    · refine pc_if (fun _ => ?_) (fun _ => ?_)
      · exact pc_imp (fs_qj_X0_readWhile_187 G (fs_n S F)) (fun _ q => fs_t F q)
      · refine pc_rA ?_; intro _ _ v10 _
        refine pc_sv (fs_qf_X1_aimHere (fs_n S F)) ?_; intro u12 Qu12
        have Fu12 : FSc h u12 := fs_t F Qu12
        refine pc_xl ?_; intro v13 _
        exact pc_imp (ih _ _ _ _ _ _ (fs_n S Fu12)) (fun _ q => fs_t Fu12 q)
theorem fs_qj_X0_readWhile_128 {rc : tq_X0_readBlock} {l2 : Int} {l3 : Int} {l4 : Int} {l5 : Int} {l7 : Int} {s0 : Int} (G : FScG_X0_readBlock rc) {h : ms_M} (S : ¬ h 2 11 = 0) : Pc (qj_X0_readWhile_128 nn rc l2 l3 l4 l5 l7 s0 h) (fun u => FSc h u.2) := by
  have F : FSc h h := fs_r
  unfold qj_X0_readWhile_128
  refine pc_if (fun _ => ?_) (fun _ => ?_)
  · exact pc_imp (fs_qw_X0_readWhile_148 G _ _ _ _ _ _ _ (fs_n S F)) (fun _ q => fs_t F q)
  · refine pc_sv (fs_qf_X1_aimHere (fs_n S F)) ?_; intro u18 Qu18
    have Fu18 : FSc h u18 := fs_t F Qu18
    exact pc_imp (fs_qw_X0_readWhile_148 G _ _ _ _ _ _ _ (fs_n S Fu18)) (fun _ q => fs_t Fu18 q)
theorem fs_qj_X0_readWhile_123 {rc : tq_X0_readBlock} {l2 : Int} {l3 : Int} {l4 : Int} {l5 : Int} {l7 : Int} (G : FScG_X0_readBlock rc) {h : ms_M} (S : ¬ h 2 11 = 0) : Pc (qj_X0_readWhile_123 nn rc l2 l3 l4 l5 l7 h) (fun u => FSc h u.2) := by
  have F : FSc h h := fs_r
  unfold qj_X0_readWhile_123
  exact pc_imp (fs_qj_X0_readWhile_128 G (fs_n S F)) (fun _ q => fs_t F q)
theorem fs_qj_X0_readWhile_109 {rc : tq_X0_readBlock} {l2 : Int} {l3 : Int} {l4 : Int} {l5 : Int} {l7 : Int} (G : FScG_X0_readBlock rc) {h : ms_M} (S : ¬ h 2 11 = 0) : Pc (qj_X0_readWhile_109 nn rc l2 l3 l4 l5 l7 h) (fun u => FSc h u.2) := by
  have F : FSc h h := fs_r
  unfold qj_X0_readWhile_109
  refine pc_if (fun _ => ?_) (fun _ => ?_)
  · exact pc_imp (fs_qj_X0_readWhile_123 G (fs_n S F)) (fun _ q => fs_t F q)
  · refine pc_if (fun _ => ?_) (fun _ => ?_)
    · exact pc_imp (fs_qj_X0_readWhile_128 G (fs_n S F)) (fun _ q => fs_t F q)
    · exact pc_imp (fs_qj_X0_readWhile_123 G (fs_n S F)) (fun _ q => fs_t F q)
theorem fs_qj_X0_readWhile_68 {rc : tq_X0_readBlock} {l1 : Int} {l2 : Int} {l3 : Int} {l4 : Int} {l5 : Int} {l6 : Int} {l7 : Int} (G : FScG_X0_readBlock rc) {h : ms_M} (S : ¬ h 2 11 = 0) : Pc (qj_X0_readWhile_68 nn rc l1 l2 l3 l4 l5 l6 l7 h) (fun u => FSc h u.2) := by
  have F : FSc h h := fs_r
  unfold qj_X0_readWhile_68
  refine pc_xl ?_; intro h23 Eh23
  have Fh23 : FSc h h23 := by rw [Eh23]; exact fs_u F (by omega)
  refine pc_xl ?_; intro h26 Eh26
  have Fh26 : FSc h h26 := by rw [Eh26]; exact fs_u Fh23 (by omega)
  refine pc_sv (G.2.1 (fs_n S Fh26)) ?_; intro u28 Qu28
  have Fu28 : FSc h u28.2 := fs_t Fh26 Qu28
  refine pc_if (fun _ => ?_) (fun _ => ?_)
  · exact pc_imp (fs_qj_X0_readWhile_109 G (fs_n S Fu28)) (fun _ q => fs_t Fu28 q)
  · refine pc_sv (fs_qf_X1_jumpBack (fs_n S Fu28)) ?_; intro u33 Qu33
    have Fu33 : FSc h u33 := fs_t Fu28 Qu33
    exact pc_imp (fs_qj_X0_readWhile_109 G (fs_n S Fu33)) (fun _ q => fs_t Fu33 q)
theorem fs_qo_X0_readWhile {rc : tq_X0_readBlock} {a1 : Int} (G : FScG_X0_readBlock rc) {h : ms_M} (S : ¬ h 2 11 = 0) : Pc (qo_X0_readWhile nn rc a1 h) (fun u => FSc h u.2) := by
  have F : FSc h h := fs_r
  unfold qo_X0_readWhile
  refine pc_se ?_; intro u40 _
  refine pc_if (fun _ => ?_) (fun _ => ?_)
  · refine pc_sv (fs_qf_X10_readCondition (fs_n S F)) ?_; intro u45 Qu45
    have Fu45 : FSc h u45.2 := fs_t F Qu45
    exact pc_imp (fs_qj_X0_readWhile_68 G (fs_n S Fu45)) (fun _ q => fs_t Fu45 q)
  · refine pc_xl ?_; intro v48 _
    refine pc_xl ?_; intro h49 Eh49
    have Fh49 : FSc h h49 := by rw [Eh49]; exact fs_u F (by omega)
    exact pc_imp (fs_qj_X0_readWhile_68 G (fs_n S Fh49)) (fun _ q => fs_t Fh49 q)
theorem fs_qj_X0_readTry_228 {rc : tq_X0_readBlock} {l3 : Int} {l9 : Int} (G : FScG_X0_readBlock rc) {h : ms_M} (S : ¬ h 2 11 = 0) : Pc (qj_X0_readTry_228 nn rc l3 l9 h) (fun u => FSc h u.2) := by
  have F : FSc h h := fs_r
  unfold qj_X0_readTry_228
  refine pc_if (fun _ => ?_) (fun _ => ?_)
  · exact pc_ret F
  · refine pc_if (fun _ => ?_) (fun _ => ?_)
    · exact pc_ret F
    · exact pc_ret F
theorem fs_qj_X0_readTry_130 {rc : tq_X0_readBlock} {l1 : Int} {l2 : Int} {l3 : Int} {l4 : Int} {l5 : Int} {l6 : Int} {l7 : Int} (G : FScG_X0_readBlock rc) {h : ms_M} (S : ¬ h 2 11 = 0) : Pc (qj_X0_readTry_130 nn rc l1 l2 l3 l4 l5 l6 l7 h) (fun u => FSc h u.2) := by
  have F : FSc h h := fs_r
  unfold qj_X0_readTry_130
  refine pc_xl ?_; intro v3 _
  refine pc_sv (fs_qf_X0_checkTwice (fs_n S F)) ?_; intro u5 Qu5
  have Fu5 : FSc h u5 := fs_t F Qu5
  refine pc_sv (fs_qf_X1_addHandler (fs_n S Fu5)) ?_; intro u8 Qu8
  have Fu8 : FSc h u8 := fs_t Fu5 Qu8
  refine pc_xl ?_; intro v14 _
  refine pc_se ?_; intro u16 _
  refine pc_sv (fs_qf_X1_addLocal (fs_n S Fu8)) ?_; intro u18 Qu18
  have Fu18 : FSc h u18.2 := fs_t Fu8 Qu18
  refine pc_sv (fs_qf_X1_store (fs_n S Fu18)) ?_; intro u20 Qu20
  have Fu20 : FSc h u20 := fs_t Fu18 Qu20
  refine pc_xl ?_; intro v22 _
  refine pc_xl ?_; intro h23 Eh23
  have Fh23 : FSc h h23 := by rw [Eh23]; exact fs_u Fu20 (by omega)
  refine pc_sv (G.1 (fs_n S Fh23)) ?_; intro u25 Qu25
  have Fu25 : FSc h u25.2 := fs_t Fh23 Qu25
  refine pc_xl ?_; intro h27 Eh27
  have Fh27 : FSc h h27 := by rw [Eh27]; exact fs_u Fu25 (by omega)
  refine pc_if (fun _ => ?_) (fun _ => ?_)
  · exact pc_imp (fs_qj_X0_readTry_228 G (fs_n S Fh27)) (fun _ q => fs_t Fh27 q)
  · refine pc_sv (fs_qf_X1_aimHere (fs_n S Fh27)) ?_; intro u30 Qu30
    have Fu30 : FSc h u30 := fs_t Fh27 Qu30
    exact pc_imp (fs_qj_X0_readTry_228 G (fs_n S Fu30)) (fun _ q => fs_t Fu30 q)
theorem fs_qj_X0_readTry_63 {rc : tq_X0_readBlock} {l1 : Int} {l2 : Int} {l3 : Int} {l4 : Int} {s0 : Int} (G : FScG_X0_readBlock rc) {h : ms_M} (S : ¬ h 2 11 = 0) : Pc (qj_X0_readTry_63 nn rc l1 l2 l3 l4 s0 h) (fun u => FSc h u.2) := by
  have F : FSc h h := fs_r
  unfold qj_X0_readTry_63
  refine pc_xl ?_; intro v34 _
  refine pc_se ?_; intro u37 _
  refine pc_if (fun _ => ?_) (fun _ => ?_)
  · refine pc_se ?_; intro u40 _
    refine pc_if (fun _ => ?_) (fun _ => ?_)
    · exact pc_imp (fs_qj_X0_readTry_130 G (fs_n S F)) (fun _ q => fs_t F q)
    · refine pc_sv (fs_qf_X9_tell (fs_n S F)) ?_; intro u43 Qu43
      have Fu43 : FSc h u43 := fs_t F Qu43
      exact pc_imp (fs_qj_X0_readTry_130 G (fs_n S Fu43)) (fun _ q => fs_t Fu43 q)
  · refine pc_sv (fs_qf_X9_tell (fs_n S F)) ?_; intro u47 Qu47
    have Fu47 : FSc h u47 := fs_t F Qu47
    exact pc_imp (fs_qj_X0_readTry_130 G (fs_n S Fu47)) (fun _ q => fs_t Fu47 q)
theorem fs_qo_X0_readTry {rc : tq_X0_readBlock} {a1 : Int} (G : FScG_X0_readBlock rc) {h : ms_M} (S : ¬ h 2 11 = 0) : Pc (qo_X0_readTry nn rc a1 h) (fun u => FSc h u.2) := by
  have F : FSc h h := fs_r
  unfold qo_X0_readTry
  refine pc_xl ?_; intro v53 _
  refine pc_xl ?_; intro h54 Eh54
  have Fh54 : FSc h h54 := by rw [Eh54]; exact fs_u F (by omega)
  refine pc_sv (fs_qf_X1_op (fs_n S Fh54)) ?_; intro u57 Qu57
  have Fu57 : FSc h u57 := fs_t Fh54 Qu57
  refine pc_sv (G.1 (fs_n S Fu57)) ?_; intro u59 Qu59
  have Fu59 : FSc h u59.2 := fs_t Fu57 Qu59
  refine pc_if (fun _ => ?_) (fun _ => ?_)
  · exact pc_imp (fs_qj_X0_readTry_63 G (fs_n S Fu59)) (fun _ q => fs_t Fu59 q)
  · refine pc_sv (fs_qf_X1_jump (fs_n S Fu59)) ?_; intro u64 Qu64
    have Fu64 : FSc h u64.2 := fs_t Fu59 Qu64
    exact pc_imp (fs_qj_X0_readTry_63 G (fs_n S Fu64)) (fun _ q => fs_t Fu64 q)
theorem fsg_X0_readBlock (nn : Nat) : ∀ d, FScG_X0_readBlock (qg_X0_readBlock nn d) := by
  intro d
  induction d with
  | zero => exact ⟨fun _ => pc_none, fun _ => pc_none, fun _ => pc_none, fun _ => pc_none, fun _ => pc_none, fun _ => pc_none⟩
  | succ d ih => exact ⟨fun S => fs_qo_X0_readBlock (nn := nn) ih S, fun S => fs_qo_X0_readPart (nn := nn) ih S, fun S => fs_qo_X0_readStatement (nn := nn) ih S, fun S => fs_qo_X0_readIf (nn := nn) ih S, fun S => fs_qo_X0_readWhile (nn := nn) ih S, fun S => fs_qo_X0_readTry (nn := nn) ih S⟩
theorem fs_qf_X0_readBlock {a1 : Int} {h : ms_M} (S : ¬ h 2 11 = 0) : Pc (qf_X0_readBlock nn a1 h) (fun u => FSc h u.2) := (fsg_X0_readBlock nn 240).1 S
theorem fs_qf_X0_readPart {a1 : Int} {h : ms_M} (S : ¬ h 2 11 = 0) : Pc (qf_X0_readPart nn a1 h) (fun u => FSc h u.2) := (fsg_X0_readBlock nn 240).2.1 S
theorem fs_qf_X0_readStatement {a1 : Int} {h : ms_M} (S : ¬ h 2 11 = 0) : Pc (qf_X0_readStatement nn a1 h) (fun u => FSc h u.2) := (fsg_X0_readBlock nn 240).2.2.1 S
theorem fs_qf_X0_readIf {a1 : Int} {h : ms_M} (S : ¬ h 2 11 = 0) : Pc (qf_X0_readIf nn a1 h) (fun u => FSc h u.2) := (fsg_X0_readBlock nn 240).2.2.2.1 S
theorem fs_qf_X0_readWhile {a1 : Int} {h : ms_M} (S : ¬ h 2 11 = 0) : Pc (qf_X0_readWhile nn a1 h) (fun u => FSc h u.2) := (fsg_X0_readBlock nn 240).2.2.2.2.1 S
theorem fs_qf_X0_readTry {a1 : Int} {h : ms_M} (S : ¬ h 2 11 = 0) : Pc (qf_X0_readTry nn a1 h) (fun u => FSc h u.2) := (fsg_X0_readBlock nn 240).2.2.2.2.2 S
theorem fs_qj_X6_put_23 {h : ms_M} (S : ¬ h 2 11 = 0) : Pc (qj_X6_put_23 nn h) (fun u => FSc h u) := by
  have F : FSc h h := fs_r
  unfold qj_X6_put_23
  refine pc_xl ?_; intro v2 _
  refine pc_xl ?_; intro h3 Eh3
  have Fh3 : FSc h h3 := by rw [Eh3]; exact fs_u F (by omega)
  exact pc_ret Fh3
theorem fs_qf_X6_put {a1 : Int} {h : ms_M} (S : ¬ h 2 11 = 0) : Pc (qf_X6_put nn a1 h) (fun u => FSc h u) := fun u e => ⟨ff_X6_put nn u e 2 11 rfl, ff_X6_put nn u e 2 12 rfl⟩
theorem fs_qw_X6_beginClass_62 : ∀ (k : Nat) (l1 : Int) (l3 : Int) (h : ms_M), ¬ h 2 11 = 0 → Pc (qw_X6_beginClass_62 nn k l1 l3 h) (fun u => FSc h u) := by
  intro k
  induction k with
  | zero => intros; exact pc_none
  | succ k ih =>
    intro l1 l3 h S
    have F : FSc h h := fs_r
    unfold qw_X6_beginClass_62
    refine pc_se ?_; intro u3 _
    refine pc_if (fun _ => ?_) (fun _ => ?_)
    · refine pc_se ?_; intro u6 _
      refine pc_sv (fs_qf_X6_put (fs_n S F)) ?_; intro u8 Qu8
      have Fu8 : FSc h u8 := fs_t F Qu8
      exact pc_ret Fu8
    · refine pc_xl ?_; intro v9 _
      refine pc_xl ?_; intro v10 _
      refine pc_se ?_; intro u13 _
      refine pc_sv (fs_qf_X6_constant (fs_n S F)) ?_; intro u15 Qu15
      have Fu15 : FSc h u15.2 := fs_t F Qu15
      refine pc_sv (fs_qf_X6_put (fs_n S Fu15)) ?_; intro u17 Qu17
      have Fu17 : FSc h u17 := fs_t Fu15 Qu17
      refine pc_se ?_; intro u20 _
      refine pc_sv (fs_qf_X6_constant (fs_n S Fu17)) ?_; intro u22 Qu22
      have Fu22 : FSc h u22.2 := fs_t Fu17 Qu22
      refine pc_sv (fs_qf_X6_put (fs_n S Fu22)) ?_; intro u24 Qu24
      have Fu24 : FSc h u24 := fs_t Fu22 Qu24
      refine pc_xl ?_; intro v25 _
      exact pc_imp (ih _ _ _ (fs_n S Fu24)) (fun _ q => fs_t Fu24 q)
theorem fs_qf_X6_beginClass {a1 : Int} {h : ms_M} (S : ¬ h 2 11 = 0) : Pc (qf_X6_beginClass nn a1 h) (fun u => FSc h u) := fun u e => ⟨ff_X6_beginClass nn u e 2 11 rfl, ff_X6_beginClass nn u e 2 12 rfl⟩
theorem fs_qf_X0_beginClass {a1 : Int} {h : ms_M} (S : ¬ h 2 11 = 0) : Pc (qf_X0_beginClass nn a1 h) (fun u => FSc h u) := fun u e => ⟨ff_X0_beginClass nn u e 2 11 rfl, ff_X0_beginClass nn u e 2 12 rfl⟩
theorem fs_qf_X0_beginProgram {h : ms_M} (S : ¬ h 2 11 = 0) : Pc (qf_X0_beginProgram nn h) (fun u => FSc h u) := fun u e => ⟨ff_X0_beginProgram nn u e 2 11 rfl, ff_X0_beginProgram nn u e 2 12 rfl⟩
theorem fs_qf_X0_noteMuch {a1 : Int} {a2 : Int} {h : ms_M} (S : ¬ h 2 11 = 0) : Pc (qf_X0_noteMuch nn a1 a2 h) (fun u => FSc h u) := fun u e => ⟨ff_X0_noteMuch nn u e 2 11 rfl, ff_X0_noteMuch nn u e 2 12 rfl⟩
theorem fs_qf_X0_closeProgram {h : ms_M} (S : ¬ h 2 11 = 0) : Pc (qf_X0_closeProgram nn h) (fun u => FSc h u) := by
  have F : FSc h h := fs_r
  unfold qf_X0_closeProgram
  refine pc_if (fun _ => ?_) (fun _ => ?_)
  · exact pc_ret F
  · refine pc_sv (fs_qf_X9_tell (fs_n S F)) ?_; intro u5 Qu5
    have Fu5 : FSc h u5 := fs_t F Qu5
    exact pc_ret Fu5
theorem fs_qf_X10_beginMethod {a1 : Int} {a2 : Int} {h : ms_M} (S : ¬ h 2 11 = 0) : Pc (qf_X10_beginMethod nn a1 a2 h) (fun u => FSc h u) := fun u e => ⟨ff_X10_beginMethod nn u e 2 11 rfl, ff_X10_beginMethod nn u e 2 12 rfl⟩
theorem fs_qf_X1_beginMethod {h : ms_M} (S : ¬ h 2 11 = 0) : Pc (qf_X1_beginMethod nn h) (fun u => FSc h u) := fun u e => ⟨ff_X1_beginMethod nn u e 2 11 rfl, ff_X1_beginMethod nn u e 2 12 rfl⟩
theorem fs_qw_X1_writeTypes_3 : ∀ (k : Nat) (l2 : Int) (l3 : Int) (l4 : Int) (h : ms_M), ¬ h 2 11 = 0 → Pc (qw_X1_writeTypes_3 nn k l2 l3 l4 h) (fun u => FSc h u) := by
  intro k
  induction k with
  | zero => intros; exact pc_none
  | succ k ih =>
    intro l2 l3 l4 h S
    have F : FSc h h := fs_r
    unfold qw_X1_writeTypes_3
    refine pc_xl ?_; intro v1 _
    refine pc_if (fun _ => ?_) (fun _ => ?_)
    · exact pc_ret F
    · refine pc_if (fun _ => ?_) (fun _ => ?_)
      · exact pc_ret F
      · refine pc_rA ?_; intro _ _ v5 _
        refine pc_se ?_; intro u6 _
        refine pc_if (fun _ => ?_) (fun _ => ?_)
        · refine pc_if (fun _ => ?_) (fun _ => ?_)
          · refine pc_sv (fs_qf_X6_put (fs_n S F)) ?_; intro u8 Qu8
            have Fu8 : FSc h u8 := fs_t F Qu8
            refine pc_sv (fs_qf_X6_classOf (fs_n S Fu8)) ?_; intro u10 Qu10
            have Fu10 : FSc h u10.2 := fs_t Fu8 Qu10
            refine pc_sv (fs_qf_X6_put (fs_n S Fu10)) ?_; intro u12 Qu12
            have Fu12 : FSc h u12 := fs_t Fu10 Qu12
            refine pc_xl ?_; intro v13 _
            exact pc_imp (ih _ _ _ _ (fs_n S Fu12)) (fun _ q => fs_t Fu12 q)
          · refine pc_sv (fs_qf_X6_put (fs_n S F)) ?_; intro u15 Qu15
            have Fu15 : FSc h u15 := fs_t F Qu15
            refine pc_xl ?_; intro v16 _
            exact pc_imp (ih _ _ _ _ (fs_n S Fu15)) (fun _ q => fs_t Fu15 q)
        · refine pc_sv (fs_qf_X6_put (fs_n S F)) ?_; intro u19 Qu19
          have Fu19 : FSc h u19 := fs_t F Qu19
          refine pc_xl ?_; intro v20 _
          exact pc_imp (ih _ _ _ _ (fs_n S Fu19)) (fun _ q => fs_t Fu19 q)
theorem fs_qf_X1_writeTypes {a2 : Int} {a3 : Int} {h : ms_M} (S : ¬ h 2 11 = 0) : Pc (qf_X1_writeTypes nn a2 a3 h) (fun u => FSc h u) := fun u e => ⟨ff_X1_writeTypes nn u e 2 11 rfl, ff_X1_writeTypes nn u e 2 12 rfl⟩
theorem fs_qf_X6_putPair {a1 : Int} {h : ms_M} (S : ¬ h 2 11 = 0) : Pc (qf_X6_putPair nn a1 h) (fun u => FSc h u) := fun u e => ⟨ff_X6_putPair nn u e 2 11 rfl, ff_X6_putPair nn u e 2 12 rfl⟩
theorem fs_qf_X1_writeFrame {a2 : Int} {h : ms_M} (S : ¬ h 2 11 = 0) : Pc (qf_X1_writeFrame nn a2 h) (fun u => FSc h u) := fun u e => ⟨ff_X1_writeFrame nn u e 2 11 rfl, ff_X1_writeFrame nn u e 2 12 rfl⟩
theorem fs_qw_X1_writeTo_147 : ∀ (k : Nat) (l2 : Int) (h : ms_M), ¬ h 2 11 = 0 → Pc (qw_X1_writeTo_147 nn k l2 h) (fun u => FSc h u) := by
  intro k
  induction k with
  | zero => intros; exact pc_none
  | succ k ih =>
    intro l2 h S
    have F : FSc h h := fs_r
    unfold qw_X1_writeTo_147
    refine pc_if (fun _ => ?_) (fun _ => ?_)
    · exact pc_ret F
    · refine pc_rA ?_; intro _ _ v3 _
      refine pc_sv (fs_qf_X1_writeFrame (fs_n S F)) ?_; intro u5 Qu5
      have Fu5 : FSc h u5 := fs_t F Qu5
      refine pc_xl ?_; intro v6 _
      exact pc_imp (ih _ _ (fs_n S Fu5)) (fun _ q => fs_t Fu5 q)
theorem fs_qw_X1_writeTo_69 : ∀ (k : Nat) (l2 : Int) (h : ms_M), ¬ h 2 11 = 0 → Pc (qw_X1_writeTo_69 nn k l2 h) (fun u => FSc h u) := by
  intro k
  induction k with
  | zero => intros; exact pc_none
  | succ k ih =>
    intro l2 h S
    have F : FSc h h := fs_r
    unfold qw_X1_writeTo_69
    refine pc_if (fun _ => ?_) (fun _ => ?_)
    · refine pc_sv (fs_qf_X6_put (fs_n S F)) ?_; intro u11 Qu11
      have Fu11 : FSc h u11 := fs_t F Qu11
      exact pc_imp (fs_qw_X1_writeTo_147 _ _ _ (fs_n S Fu11)) (fun _ q => fs_t Fu11 q)
    · refine pc_xl ?_; intro v12 _
      refine pc_rA ?_; intro _ _ v14 _
      refine pc_sv (fs_qf_X6_putPair (fs_n S F)) ?_; intro u16 Qu16
      have Fu16 : FSc h u16 := fs_t F Qu16
      refine pc_xl ?_; intro v18 _
      refine pc_rA ?_; intro _ _ v19 _
      refine pc_sv (fs_qf_X6_putPair (fs_n S Fu16)) ?_; intro u21 Qu21
      have Fu21 : FSc h u21 := fs_t Fu16 Qu21
      refine pc_xl ?_; intro v23 _
      refine pc_rA ?_; intro _ _ v24 _
      refine pc_sv (fs_qf_X6_putPair (fs_n S Fu21)) ?_; intro u26 Qu26
      have Fu26 : FSc h u26 := fs_t Fu21 Qu26
      refine pc_xl ?_; intro v28 _
      refine pc_rA ?_; intro _ _ v29 _
      refine pc_sv (fs_qf_X6_classOf (fs_n S Fu26)) ?_; intro u31 Qu31
      have Fu31 : FSc h u31.2 := fs_t Fu26 Qu31
      refine pc_sv (fs_qf_X6_put (fs_n S Fu31)) ?_; intro u33 Qu33
      have Fu33 : FSc h u33 := fs_t Fu31 Qu33
      refine pc_xl ?_; intro v34 _
      exact pc_imp (ih _ _ (fs_n S Fu33)) (fun _ q => fs_t Fu33 q)
theorem fs_qj_X1_writeTo_59 {h : ms_M} (S : ¬ h 2 11 = 0) : Pc (qj_X1_writeTo_59 nn h) (fun u => FSc h u) := by
  have F : FSc h h := fs_r
  unfold qj_X1_writeTo_59
  refine pc_sv (fs_qf_X6_put (fs_n S F)) ?_; intro u38 Qu38
  have Fu38 : FSc h u38 := fs_t F Qu38
  exact pc_imp (fs_qw_X1_writeTo_69 _ _ _ (fs_n S Fu38)) (fun _ q => fs_t Fu38 q)
theorem fs_qw_X1_writeTo_26 : ∀ (k : Nat) (l2 : Int) (h : ms_M), ¬ h 2 11 = 0 → Pc (qw_X1_writeTo_26 nn k l2 h) (fun u => FSc h u) := by
  intro k
  induction k with
  | zero => intros; exact pc_none
  | succ k ih =>
    intro l2 h S
    have F : FSc h h := fs_r
    unfold qw_X1_writeTo_26
    refine pc_if (fun _ => ?_) (fun _ => ?_)
    · exact pc_imp (fs_qj_X1_writeTo_59 (fs_n S F)) (fun _ q => fs_t F q)
    · refine pc_if (fun _ => ?_) (fun _ => ?_)
      · exact pc_imp (fs_qj_X1_writeTo_59 (fs_n S F)) (fun _ q => fs_t F q)
      · refine pc_rA ?_; intro _ _ v43 _
        refine pc_sv (fs_qf_X6_put (fs_n S F)) ?_; intro u45 Qu45
        have Fu45 : FSc h u45 := fs_t F Qu45
        refine pc_xl ?_; intro v46 _
        exact pc_imp (ih _ _ (fs_n S Fu45)) (fun _ q => fs_t Fu45 q)
theorem fs_qf_X1_writeTo {h : ms_M} (S : ¬ h 2 11 = 0) : Pc (qf_X1_writeTo nn h) (fun u => FSc h u) := fun u e => ⟨ff_X1_writeTo nn u e 2 11 rfl, ff_X1_writeTo nn u e 2 12 rfl⟩
theorem fs_qj_X6_beginMethod_17 {l1 : Int} {s0 : Int} {h : ms_M} (S : ¬ h 2 11 = 0) : Pc (qj_X6_beginMethod_17 nn l1 s0 h) (fun u => FSc h u) := by
  have F : FSc h h := fs_r
  unfold qj_X6_beginMethod_17
  refine pc_sv (fs_qf_X6_put (fs_n S F)) ?_; intro u2 Qu2
  have Fu2 : FSc h u2 := fs_t F Qu2
  refine pc_se ?_; intro u5 _
  refine pc_sv (fs_qf_X6_constant (fs_n S Fu2)) ?_; intro u7 Qu7
  have Fu7 : FSc h u7.2 := fs_t Fu2 Qu7
  refine pc_sv (fs_qf_X6_put (fs_n S Fu7)) ?_; intro u9 Qu9
  have Fu9 : FSc h u9 := fs_t Fu7 Qu9
  refine pc_se ?_; intro u12 _
  refine pc_sv (fs_qf_X6_constant (fs_n S Fu9)) ?_; intro u14 Qu14
  have Fu14 : FSc h u14.2 := fs_t Fu9 Qu14
  refine pc_sv (fs_qf_X6_put (fs_n S Fu14)) ?_; intro u16 Qu16
  have Fu16 : FSc h u16 := fs_t Fu14 Qu16
  exact pc_ret Fu16
theorem fs_qf_X6_beginMethod {a1 : Int} {h : ms_M} (S : ¬ h 2 11 = 0) : Pc (qf_X6_beginMethod nn a1 h) (fun u => FSc h u) := fun u e => ⟨ff_X6_beginMethod nn u e 2 11 rfl, ff_X6_beginMethod nn u e 2 12 rfl⟩
theorem fs_qj_X0_makeMethod_199 {l3 : Int} {h : ms_M} (S : ¬ h 2 11 = 0) : Pc (qj_X0_makeMethod_199 nn l3 h) (fun u => FSc h u) := by
  have F : FSc h h := fs_r
  unfold qj_X0_makeMethod_199
  refine pc_sv (fs_qf_X1_writeTo (fs_n S F)) ?_; intro u4 Qu4
  have Fu4 : FSc h u4 := fs_t F Qu4
  refine pc_se ?_; intro u7 _
  refine pc_se ?_; intro u10 _
  refine pc_sv (fs_qf_X0_noteMuch (fs_n S Fu4)) ?_; intro u12 Qu12
  have Fu12 : FSc h u12 := fs_t Fu4 Qu12
  exact pc_ret Fu12
theorem fs_qj_X0_makeMethod_189 {l3 : Int} {h : ms_M} (S : ¬ h 2 11 = 0) : Pc (qj_X0_makeMethod_189 nn l3 h) (fun u => FSc h u) := by
  have F : FSc h h := fs_r
  unfold qj_X0_makeMethod_189
  refine pc_sv (fs_qf_X1_op (fs_n S F)) ?_; intro u15 Qu15
  have Fu15 : FSc h u15 := fs_t F Qu15
  exact pc_imp (fs_qj_X0_makeMethod_199 (fs_n S Fu15)) (fun _ q => fs_t Fu15 q)
theorem fs_qw_X0_makeMethod_70 : ∀ (k : Nat) (l3 : Int) (l5 : Int) (h : ms_M), ¬ h 2 11 = 0 → Pc (qw_X0_makeMethod_70 nn k l3 l5 h) (fun u => FSc h u) := by
  intro k
  induction k with
  | zero => intros; exact pc_none
  | succ k ih =>
    intro l3 l5 h S
    have F : FSc h h := fs_r
    unfold qw_X0_makeMethod_70
    refine pc_se ?_; intro u18 _
    refine pc_if (fun _ => ?_) (fun _ => ?_)
    · refine pc_se ?_; intro u21 _
      refine pc_xl ?_; intro h22 Eh22
      have Fh22 : FSc h h22 := by rw [Eh22]; exact fs_u F (by omega)
      refine pc_xl ?_; intro h23 Eh23
      have Fh23 : FSc h h23 := by rw [Eh23]; exact fs_u Fh22 (by omega)
      refine pc_xl ?_; intro h24 Eh24
      have Fh24 : FSc h h24 := by rw [Eh24]; exact fs_u Fh23 (by omega)
      refine pc_se ?_; intro u28 _
      refine pc_xl ?_; intro h29 Eh29
      have Fh29 : FSc h h29 := by rw [Eh29]; exact fs_u Fh24 (by omega)
      refine pc_sv (fs_qf_X0_readBlock (fs_n S Fh29)) ?_; intro u31 Qu31
      have Fu31 : FSc h u31.2 := fs_t Fh29 Qu31
      refine pc_if (fun _ => ?_) (fun _ => ?_)
      · exact pc_imp (fs_qj_X0_makeMethod_199 (fs_n S Fu31)) (fun _ q => fs_t Fu31 q)
      · refine pc_if (fun _ => ?_) (fun _ => ?_)
        · exact pc_imp (fs_qj_X0_makeMethod_189 (fs_n S Fu31)) (fun _ q => fs_t Fu31 q)
        · refine pc_se ?_; intro u36 _
          refine pc_sv (fs_qf_X9_tell (fs_n S Fu31)) ?_; intro u38 Qu38
          have Fu38 : FSc h u38 := fs_t Fu31 Qu38
          exact pc_imp (fs_qj_X0_makeMethod_189 (fs_n S Fu38)) (fun _ q => fs_t Fu38 q)
    · refine pc_se ?_; intro u44 _
      refine pc_se ?_; intro u47 _
      refine pc_sv (fs_qf_X1_addLocal (fs_n S F)) ?_; intro u49 Qu49
      have Fu49 : FSc h u49.2 := fs_t F Qu49
      refine pc_xl ?_; intro v50 _
      exact pc_imp (ih _ _ _ (fs_n S Fu49)) (fun _ q => fs_t Fu49 q)
theorem fs_qf_X0_makeMethod {a1 : Int} {a2 : Int} {h : ms_M} (S : ¬ h 2 11 = 0) : Pc (qf_X0_makeMethod nn a1 a2 h) (fun u => FSc h u) := by
  have F : FSc h h := fs_r
  unfold qf_X0_makeMethod
  refine pc_xl ?_; intro v52 _
  refine pc_xl ?_; intro v53 _
  refine pc_xl ?_; intro v54 _
  refine pc_sv (fs_qf_X6_beginMethod (fs_n S F)) ?_; intro u57 Qu57
  have Fu57 : FSc h u57 := fs_t F Qu57
  refine pc_sv (fs_qf_X1_beginMethod (fs_n S Fu57)) ?_; intro u60 Qu60
  have Fu60 : FSc h u60 := fs_t Fu57 Qu60
  refine pc_se ?_; intro u64 _
  refine pc_sv (fs_qf_X10_beginMethod (fs_n S Fu60)) ?_; intro u66 Qu66
  have Fu66 : FSc h u66 := fs_t Fu60 Qu66
  refine pc_se ?_; intro u69 _
  refine pc_if (fun _ => ?_) (fun _ => ?_)
  · exact pc_imp (fs_qw_X0_makeMethod_70 _ _ _ _ (fs_n S Fu66)) (fun _ q => fs_t Fu66 q)
  · refine pc_sv (fs_qf_X1_addLocal (fs_n S Fu66)) ?_; intro u72 Qu72
    have Fu72 : FSc h u72.2 := fs_t Fu66 Qu72
    exact pc_imp (fs_qw_X0_makeMethod_70 _ _ _ _ (fs_n S Fu72)) (fun _ q => fs_t Fu72 q)
def FSrG_X13_condition (rc : tq_X13_condition) : Prop := (∀ {a1 : Int} {h : ms_M}, ¬ h 160 9 = 0 → Pc (rc.1 a1 h) (fun u => FSr h u)) ∧ (∀ {a1 : Int} {h : ms_M}, ¬ h 160 9 = 0 → Pc (rc.2.1 a1 h) (fun u => FSr h u.2)) ∧ (∀ {a1 : Int} {h : ms_M}, ¬ h 160 9 = 0 → Pc (rc.2.2.1 a1 h) (fun u => FSr h u.2)) ∧ (∀ {a1 : Int} {h : ms_M}, ¬ h 160 9 = 0 → Pc (rc.2.2.2.1 a1 h) (fun u => FSr h u.2)) ∧ (∀ {a1 : Int} {h : ms_M}, ¬ h 160 9 = 0 → Pc (rc.2.2.2.2.1 a1 h) (fun u => FSr h u.2)) ∧ (∀ {a1 : Int} {h : ms_M}, ¬ h 160 9 = 0 → Pc (rc.2.2.2.2.2.1 a1 h) (fun u => FSr h u.2)) ∧ (∀ {a1 : Int} {a2 : Int} {a3 : Int} {h : ms_M}, ¬ h 160 9 = 0 → Pc (rc.2.2.2.2.2.2 a1 a2 a3 h) (fun u => FSr h u.2))
theorem ft_qf_X13_led {a1 : Int} {h : ms_M} (S : ¬ h 160 9 = 0) : Pc (qf_X13_led nn a1 h) (fun u => FSr h u.2) := by
  have F : FSr h h := ft_r
  unfold qf_X13_led
  refine pc_if (fun _ => ?_) (fun _ => ?_)
  · refine pc_rA ?_; intro _ _ v4 _
    refine pc_rA ?_; intro _ _ v5 _
    refine pc_if (fun _ => ?_) (fun _ => ?_)
    · exact pc_ret F
    · refine pc_rA ?_; intro _ _ v8 _
      refine pc_rA ?_; intro _ _ v9 _
      refine pc_sv (ft_qf_X13_wrong (ft_n S F)) ?_; intro u11 Qu11
      have Fu11 : FSr h u11 := ft_t F Qu11
      exact pc_ret Fu11
  · exact pc_ret F
theorem ft_qf_X13_side {a1 : Int} {a2 : Int} {h : ms_M} (S : ¬ h 160 9 = 0) : Pc (qf_X13_side nn a1 a2 h) (fun u => FSr h u.2) := by
  have F : FSr h h := ft_r
  unfold qf_X13_side
  refine pc_if (fun _ => ?_) (fun _ => ?_)
  · exact pc_ret F
  · refine pc_rA ?_; intro _ _ v2 _
    refine pc_sv (ft_qf_X13_wrong (ft_n S F)) ?_; intro u4 Qu4
    have Fu4 : FSr h u4 := ft_t F Qu4
    exact pc_ret Fu4
theorem ft_qj_X13_field_151 {l1 : Int} {l3 : Int} {h : ms_M} (S : ¬ h 160 9 = 0) : Pc (qj_X13_field_151 nn l1 l3 h) (fun u => FSr h u.2) := by
  have F : FSr h h := ft_r
  unfold qj_X13_field_151
  refine pc_wA ?_; intro _ _ h2 Eh2
  have Fh2 : FSr h h2 := by rw [Eh2]; exact ft_u F (by omega)
  refine pc_if (fun _ => ?_) (fun _ => ?_)
  · refine pc_rA ?_; intro _ _ v4 _
    exact pc_ret Fh2
  · exact pc_ret Fh2
theorem ft_qj_X13_field_99 {l1 : Int} {s0 : Int} {h : ms_M} (S : ¬ h 160 9 = 0) : Pc (qj_X13_field_99 nn l1 s0 h) (fun u => FSr h u.2) := by
  have F : FSr h h := ft_r
  unfold qj_X13_field_99
  refine pc_if (fun _ => ?_) (fun _ => ?_)
  · exact pc_ret F
  · refine pc_rA ?_; intro _ _ v7 _
    refine pc_sv (ft_qf_X13_wrong (ft_n S F)) ?_; intro u9 Qu9
    have Fu9 : FSr h u9 := ft_t F Qu9
    exact pc_ret Fu9
theorem ft_qj_X13_field_98 {l1 : Int} {h : ms_M} (S : ¬ h 160 9 = 0) : Pc (qj_X13_field_98 nn l1 h) (fun u => FSr h u.2) := by
  have F : FSr h h := ft_r
  unfold qj_X13_field_98
  exact pc_imp (ft_qj_X13_field_99 (ft_n S F)) (fun _ q => ft_t F q)
theorem ft_qj_X13_field_27 {l1 : Int} {h : ms_M} (S : ¬ h 160 9 = 0) : Pc (qj_X13_field_27 nn l1 h) (fun u => FSr h u.2) := by
  have F : FSr h h := ft_r
  unfold qj_X13_field_27
  refine pc_rA ?_; intro _ _ v12 _
  refine pc_sv (ft_qf_X13_wrong (ft_n S F)) ?_; intro u14 Qu14
  have Fu14 : FSr h u14 := ft_t F Qu14
  exact pc_ret Fu14
theorem ft_qf_X13_field {a1 : Int} {h : ms_M} (S : ¬ h 160 9 = 0) : Pc (qf_X13_field nn a1 h) (fun u => FSr h u.2) := by
  have F : FSr h h := ft_r
  unfold qf_X13_field
  refine pc_sv (ft_qf_X13_led (ft_n S F)) ?_; intro u16 Qu16
  have Fu16 : FSr h u16.2 := ft_t F Qu16
  refine pc_if (fun _ => ?_) (fun _ => ?_)
  · refine pc_if (fun _ => ?_) (fun _ => ?_)
    · exact pc_imp (ft_qj_X13_field_27 (ft_n S Fu16)) (fun _ q => ft_t Fu16 q)
    · refine pc_se ?_; intro u18 _
      refine pc_if (fun _ => ?_) (fun _ => ?_)
      · refine pc_se ?_; intro u19 _
        refine pc_if (fun _ => ?_) (fun _ => ?_)
        · refine pc_xl ?_; intro v20 _
          refine pc_xl ?_; intro v21 _
          refine pc_rA ?_; intro _ _ v23 _
          refine pc_se ?_; intro u25 _
          refine pc_if (fun _ => ?_) (fun _ => ?_)
          · exact pc_imp (ft_qj_X13_field_151 (ft_n S Fu16)) (fun _ q => ft_t Fu16 q)
          · refine pc_rA ?_; intro _ _ v27 _
            refine pc_sv (ft_qf_X13_wrong (ft_n S Fu16)) ?_; intro u29 Qu29
            have Fu29 : FSr h u29 := ft_t Fu16 Qu29
            exact pc_imp (ft_qj_X13_field_151 (ft_n S Fu29)) (fun _ q => ft_t Fu29 q)
        · refine pc_wA ?_; intro _ _ h32 Eh32
          have Fh32 : FSr h h32 := by rw [Eh32]; exact ft_u Fu16 (by omega)
          refine pc_rA ?_; intro _ _ v35 _
          refine pc_rA ?_; intro _ _ v36 _
          refine pc_if (fun _ => ?_) (fun _ => ?_)
          · exact pc_imp (ft_qj_X13_field_98 (ft_n S Fh32)) (fun _ q => ft_t Fh32 q)
          · refine pc_rA ?_; intro _ _ v39 _
            refine pc_rA ?_; intro _ _ v40 _
            refine pc_se ?_; intro u42 _
            refine pc_if (fun _ => ?_) (fun _ => ?_)
            · exact pc_imp (ft_qj_X13_field_98 (ft_n S Fh32)) (fun _ q => ft_t Fh32 q)
            · exact pc_imp (ft_qj_X13_field_99 (ft_n S Fh32)) (fun _ q => ft_t Fh32 q)
      · exact pc_imp (ft_qj_X13_field_27 (ft_n S Fu16)) (fun _ q => ft_t Fu16 q)
  · exact pc_ret Fu16
theorem ft_qj_X13_named_95 {l1 : Int} {l3 : Int} {h : ms_M} (S : ¬ h 160 9 = 0) : Pc (qj_X13_named_95 nn l1 l3 h) (fun u => FSr h u.2) := by
  have F : FSr h h := ft_r
  unfold qj_X13_named_95
  refine pc_wA ?_; intro _ _ h2 Eh2
  have Fh2 : FSr h h2 := by rw [Eh2]; exact ft_u F (by omega)
  refine pc_if (fun _ => ?_) (fun _ => ?_)
  · refine pc_rA ?_; intro _ _ v4 _
    exact pc_ret Fh2
  · exact pc_ret Fh2
theorem ft_qf_X13_named {a1 : Int} {h : ms_M} (S : ¬ h 160 9 = 0) : Pc (qf_X13_named nn a1 h) (fun u => FSr h u.2) := by
  have F : FSr h h := ft_r
  unfold qf_X13_named
  refine pc_rA ?_; intro _ _ v7 _
  refine pc_se ?_; intro u9 _
  refine pc_if (fun _ => ?_) (fun _ => ?_)
  · refine pc_rA ?_; intro _ _ v12 _
    refine pc_se ?_; intro u14 _
    refine pc_if (fun _ => ?_) (fun _ => ?_)
    · refine pc_if (fun _ => ?_) (fun _ => ?_)
      · exact pc_imp (ft_qj_X13_named_95 (ft_n S F)) (fun _ q => ft_t F q)
      · refine pc_rA ?_; intro _ _ v17 _
        refine pc_sv (ft_qf_X13_wrong (ft_n S F)) ?_; intro u19 Qu19
        have Fu19 : FSr h u19 := ft_t F Qu19
        exact pc_imp (ft_qj_X13_named_95 (ft_n S Fu19)) (fun _ q => ft_t Fu19 q)
    · refine pc_rA ?_; intro _ _ v22 _
      refine pc_sv (ft_qf_X13_wrong (ft_n S F)) ?_; intro u24 Qu24
      have Fu24 : FSr h u24 := ft_t F Qu24
      exact pc_imp (ft_qj_X13_named_95 (ft_n S Fu24)) (fun _ q => ft_t Fu24 q)
  · refine pc_wA ?_; intro _ _ h27 Eh27
    have Fh27 : FSr h h27 := by rw [Eh27]; exact ft_u F (by omega)
    refine pc_se ?_; intro u30 _
    refine pc_wA ?_; intro _ _ h31 Eh31
    have Fh31 : FSr h h31 := by rw [Eh31]; exact ft_u Fh27 (by omega)
    refine pc_rA ?_; intro _ _ v33 _
    exact pc_ret Fh31
theorem ft_qo_X13_condition {rc : tq_X13_condition} {a1 : Int} (G : FSrG_X13_condition rc) {h : ms_M} (S : ¬ h 160 9 = 0) : Pc (qo_X13_condition nn rc a1 h) (fun u => FSr h u) := by
  have F : FSr h h := ft_r
  unfold qo_X13_condition
  refine pc_sv (G.2.1 (ft_n S F)) ?_; intro u2 Qu2
  have Fu2 : FSr h u2.2 := ft_t F Qu2
  refine pc_if (fun _ => ?_) (fun _ => ?_)
  · exact pc_ret Fu2
  · refine pc_rA ?_; intro _ _ v4 _
    refine pc_sv (ft_qf_X13_wrong (ft_n S Fu2)) ?_; intro u6 Qu6
    have Fu6 : FSr h u6 := ft_t Fu2 Qu6
    exact pc_ret Fu6
theorem ft_qo_X13_given {rc : tq_X13_condition} {a1 : Int} (G : FSrG_X13_condition rc) {h : ms_M} (S : ¬ h 160 9 = 0) : Pc (qo_X13_given nn rc a1 h) (fun u => FSr h u.2) := by
  have F : FSr h h := ft_r
  unfold qo_X13_given
  refine pc_sv (G.2.2.1 (ft_n S F)) ?_; intro u2 Qu2
  have Fu2 : FSr h u2.2 := ft_t F Qu2
  refine pc_if (fun _ => ?_) (fun _ => ?_)
  · exact pc_ret Fu2
  · refine pc_rA ?_; intro _ _ v4 _
    refine pc_sv (ft_qf_X13_wrong (ft_n S Fu2)) ?_; intro u6 Qu6
    have Fu6 : FSr h u6 := ft_t Fu2 Qu6
    exact pc_ret Fu6
theorem ft_qw_X13_worked_65 {rc : tq_X13_condition} (G : FSrG_X13_condition rc) : ∀ (k : Nat) (l1 : Int) (l2 : Int) (h : ms_M), ¬ h 160 9 = 0 → Pc (qw_X13_worked_65 nn rc k l1 l2 h) (fun u => FSr h u.2) := by
  intro k
  induction k with
  | zero => intros; exact pc_none
  | succ k ih =>
    intro l1 l2 h S
    have F : FSr h h := ft_r
    unfold qw_X13_worked_65
    refine pc_if (fun _ => ?_) (fun _ => ?_)
    · refine pc_xl ?_; intro h2 Eh2
      have Fh2 : FSr h h2 := by rw [Eh2]; exact ft_u F (by omega)
      refine pc_if (fun _ => ?_) (fun _ => ?_)
      · refine pc_rA ?_; intro _ _ v5 _
        exact pc_ret Fh2
      · exact pc_ret Fh2
    · refine pc_xl ?_; intro v8 _
      refine pc_xl ?_; intro h9 Eh9
      have Fh9 : FSr h h9 := by rw [Eh9]; exact ft_u F (by omega)
      refine pc_rA ?_; intro _ _ v12 _
      refine pc_if (fun _ => ?_) (fun _ => ?_)
      · refine pc_sv (G.2.2.2.1 (ft_n S Fh9)) ?_; intro u16 Qu16
        have Fu16 : FSr h u16.2 := ft_t Fh9 Qu16
        refine pc_wA ?_; intro _ _ h17 Eh17
        have Fh17 : FSr h h17 := by rw [Eh17]; exact ft_u Fu16 (by omega)
        exact pc_imp (ih _ _ _ (ft_n S Fh17)) (fun _ q => ft_t Fh17 q)
      · refine pc_wA ?_; intro _ _ h18 Eh18
        have Fh18 : FSr h h18 := by rw [Eh18]; exact ft_u Fh9 (by omega)
        exact pc_imp (ih _ _ _ (ft_n S Fh18)) (fun _ q => ft_t Fh18 q)
theorem ft_qw_X13_worked_16 {rc : tq_X13_condition} (G : FSrG_X13_condition rc) : ∀ (k : Nat) (l1 : Int) (l2 : Int) (l3 : Int) (h : ms_M), ¬ h 160 9 = 0 → Pc (qw_X13_worked_16 nn rc k l1 l2 l3 h) (fun u => FSr h u.2) := by
  intro k
  induction k with
  | zero => intros; exact pc_none
  | succ k ih =>
    intro l1 l2 l3 h S
    have F : FSr h h := ft_r
    unfold qw_X13_worked_16
    refine pc_se ?_; intro u22 _
    refine pc_if (fun _ => ?_) (fun _ => ?_)
    · refine pc_sv (G.2.2.2.1 (ft_n S F)) ?_; intro u25 Qu25
      have Fu25 : FSr h u25.2 := ft_t F Qu25
      refine pc_wA ?_; intro _ _ h26 Eh26
      have Fh26 : FSr h h26 := by rw [Eh26]; exact ft_u Fu25 (by omega)
      exact pc_imp (ft_qw_X13_worked_65 G _ _ _ _ (ft_n S Fh26)) (fun _ q => ft_t Fh26 q)
    · refine pc_wA ?_; intro _ _ h29 Eh29
      have Fh29 : FSr h h29 := by rw [Eh29]; exact ft_u F (by omega)
      refine pc_xl ?_; intro v31 _
      refine pc_xl ?_; intro h32 Eh32
      have Fh32 : FSr h h32 := by rw [Eh32]; exact ft_u Fh29 (by omega)
      refine pc_rA ?_; intro _ _ v34 _
      exact pc_imp (ih _ _ _ _ (ft_n S Fh32)) (fun _ q => ft_t Fh32 q)
theorem ft_qo_X13_worked {rc : tq_X13_condition} {a1 : Int} (G : FSrG_X13_condition rc) {h : ms_M} (S : ¬ h 160 9 = 0) : Pc (qo_X13_worked nn rc a1 h) (fun u => FSr h u.2) := by
  have F : FSr h h := ft_r
  unfold qo_X13_worked
  refine pc_if (fun _ => ?_) (fun _ => ?_)
  · exact pc_imp (ft_qw_X13_worked_16 G _ _ _ _ _ (ft_n S F)) (fun _ q => ft_t F q)
  · exact pc_ret F
theorem ft_qj_X13_rule_657 {rc : tq_X13_condition} {l2 : Int} {l3 : Int} (G : FSrG_X13_condition rc) {h : ms_M} (S : ¬ h 160 9 = 0) : Pc (qj_X13_rule_657 nn rc l2 l3 h) (fun u => FSr h u.2) := by
  have F : FSr h h := ft_r
  unfold qj_X13_rule_657
  refine pc_se ?_; intro u2 _
  refine pc_if (fun _ => ?_) (fun _ => ?_)
  · exact pc_ret F
  · exact pc_ret F
theorem ft_qj_X13_rule_574 {rc : tq_X13_condition} {l1 : Int} {l3 : Int} (G : FSrG_X13_condition rc) {h : ms_M} (S : ¬ h 160 9 = 0) : Pc (qj_X13_rule_574 nn rc l1 l3 h) (fun u => FSr h u.2) := by
  have F : FSr h h := ft_r
  unfold qj_X13_rule_574
  refine pc_wA ?_; intro _ _ h5 Eh5
  have Fh5 : FSr h h5 := by rw [Eh5]; exact ft_u F (by omega)
  refine pc_rA ?_; intro _ _ v7 _
  refine pc_if (fun _ => ?_) (fun _ => ?_)
  · exact pc_ret Fh5
  · exact pc_ret Fh5
theorem ft_qj_X13_rule_562 {rc : tq_X13_condition} {l1 : Int} {l3 : Int} (G : FSrG_X13_condition rc) {h : ms_M} (S : ¬ h 160 9 = 0) : Pc (qj_X13_rule_562 nn rc l1 l3 h) (fun u => FSr h u.2) := by
  have F : FSr h h := ft_r
  unfold qj_X13_rule_562
  refine pc_rA ?_; intro _ _ v10 _
  refine pc_sv (ft_qf_X13_wrong (ft_n S F)) ?_; intro u12 Qu12
  have Fu12 : FSr h u12 := ft_t F Qu12
  exact pc_imp (ft_qj_X13_rule_574 G (ft_n S Fu12)) (fun _ q => ft_t Fu12 q)
theorem ft_qj_X13_rule_539 {rc : tq_X13_condition} {l1 : Int} {l2 : Int} {l3 : Int} (G : FSrG_X13_condition rc) {h : ms_M} (S : ¬ h 160 9 = 0) : Pc (qj_X13_rule_539 nn rc l1 l2 l3 h) (fun u => FSr h u.2) := by
  have F : FSr h h := ft_r
  unfold qj_X13_rule_539
  refine pc_xl ?_; intro v13 _
  refine pc_xl ?_; intro v14 _
  refine pc_se ?_; intro u15 _
  refine pc_if (fun _ => ?_) (fun _ => ?_)
  · exact pc_imp (ft_qj_X13_rule_562 G (ft_n S F)) (fun _ q => ft_t F q)
  · refine pc_se ?_; intro u17 _
    refine pc_if (fun _ => ?_) (fun _ => ?_)
    · exact pc_imp (ft_qj_X13_rule_574 G (ft_n S F)) (fun _ q => ft_t F q)
    · exact pc_imp (ft_qj_X13_rule_562 G (ft_n S F)) (fun _ q => ft_t F q)
theorem ft_qj_X13_rule_522 {rc : tq_X13_condition} {l1 : Int} {l3 : Int} {s0 : Int} (G : FSrG_X13_condition rc) {h : ms_M} (S : ¬ h 160 9 = 0) : Pc (qj_X13_rule_522 nn rc l1 l3 s0 h) (fun u => FSr h u.2) := by
  have F : FSr h h := ft_r
  unfold qj_X13_rule_522
  refine pc_if (fun _ => ?_) (fun _ => ?_)
  · exact pc_imp (ft_qj_X13_rule_539 G (ft_n S F)) (fun _ q => ft_t F q)
  · refine pc_rA ?_; intro _ _ v21 _
    refine pc_sv (ft_qf_X13_wrong (ft_n S F)) ?_; intro u23 Qu23
    have Fu23 : FSr h u23 := ft_t F Qu23
    exact pc_imp (ft_qj_X13_rule_539 G (ft_n S Fu23)) (fun _ q => ft_t Fu23 q)
theorem ft_qj_X13_rule_493 {rc : tq_X13_condition} {l1 : Int} {l3 : Int} (G : FSrG_X13_condition rc) {h : ms_M} (S : ¬ h 160 9 = 0) : Pc (qj_X13_rule_493 nn rc l1 l3 h) (fun u => FSr h u.2) := by
  have F : FSr h h := ft_r
  unfold qj_X13_rule_493
  refine pc_rA ?_; intro _ _ v26 _
  refine pc_if (fun _ => ?_) (fun _ => ?_)
  · refine pc_sv (ft_qf_X13_led (ft_n S F)) ?_; intro u28 Qu28
    have Fu28 : FSr h u28.2 := ft_t F Qu28
    exact pc_imp (ft_qj_X13_rule_522 G (ft_n S Fu28)) (fun _ q => ft_t Fu28 q)
  · refine pc_rA ?_; intro _ _ v30 _
    refine pc_sv (G.2.1 (ft_n S F)) ?_; intro u32 Qu32
    have Fu32 : FSr h u32.2 := ft_t F Qu32
    exact pc_imp (ft_qj_X13_rule_522 G (ft_n S Fu32)) (fun _ q => ft_t Fu32 q)
theorem ft_qj_X13_rule_455 {rc : tq_X13_condition} {l1 : Int} (G : FSrG_X13_condition rc) {h : ms_M} (S : ¬ h 160 9 = 0) : Pc (qj_X13_rule_455 nn rc l1 h) (fun u => FSr h u.2) := by
  have F : FSr h h := ft_r
  unfold qj_X13_rule_455
  refine pc_rA ?_; intro _ _ v35 _
  refine pc_se ?_; intro u37 _
  refine pc_if (fun _ => ?_) (fun _ => ?_)
  · exact pc_imp (ft_qj_X13_rule_493 G (ft_n S F)) (fun _ q => ft_t F q)
  · refine pc_rA ?_; intro _ _ v39 _
    refine pc_if (fun _ => ?_) (fun _ => ?_)
    · exact pc_imp (ft_qj_X13_rule_493 G (ft_n S F)) (fun _ q => ft_t F q)
    · refine pc_rA ?_; intro _ _ v41 _
      refine pc_sv (ft_qf_X13_wrong (ft_n S F)) ?_; intro u43 Qu43
      have Fu43 : FSr h u43 := ft_t F Qu43
      exact pc_imp (ft_qj_X13_rule_493 G (ft_n S Fu43)) (fun _ q => ft_t Fu43 q)
theorem ft_qj_X13_rule_416 {rc : tq_X13_condition} {l1 : Int} (G : FSrG_X13_condition rc) {h : ms_M} (S : ¬ h 160 9 = 0) : Pc (qj_X13_rule_416 nn rc l1 h) (fun u => FSr h u.2) := by
  have F : FSr h h := ft_r
  unfold qj_X13_rule_416
  refine pc_rA ?_; intro _ _ v47 _
  refine pc_sv (G.2.1 (ft_n S F)) ?_; intro u49 Qu49
  have Fu49 : FSr h u49.2 := ft_t F Qu49
  refine pc_if (fun _ => ?_) (fun _ => ?_)
  · exact pc_ret Fu49
  · refine pc_rA ?_; intro _ _ v51 _
    refine pc_sv (ft_qf_X13_wrong (ft_n S Fu49)) ?_; intro u53 Qu53
    have Fu53 : FSr h u53 := ft_t Fu49 Qu53
    exact pc_ret Fu53
theorem ft_qj_X13_rule_403 {rc : tq_X13_condition} {l2 : Int} (G : FSrG_X13_condition rc) {h : ms_M} (S : ¬ h 160 9 = 0) : Pc (qj_X13_rule_403 nn rc l2 h) (fun u => FSr h u.2) := by
  have F : FSr h h := ft_r
  unfold qj_X13_rule_403
  refine pc_if (fun _ => ?_) (fun _ => ?_)
  · refine pc_xl ?_; intro v55 _
    exact pc_ret F
  · exact pc_ret F
theorem ft_qj_X13_rule_391 {rc : tq_X13_condition} {l1 : Int} {l2 : Int} (G : FSrG_X13_condition rc) {h : ms_M} (S : ¬ h 160 9 = 0) : Pc (qj_X13_rule_391 nn rc l1 l2 h) (fun u => FSr h u.2) := by
  have F : FSr h h := ft_r
  unfold qj_X13_rule_391
  refine pc_rA ?_; intro _ _ v58 _
  refine pc_sv (ft_qf_X13_wrong (ft_n S F)) ?_; intro u60 Qu60
  have Fu60 : FSr h u60 := ft_t F Qu60
  exact pc_imp (ft_qj_X13_rule_403 G (ft_n S Fu60)) (fun _ q => ft_t Fu60 q)
theorem ft_qj_X13_rule_342 {rc : tq_X13_condition} {l2 : Int} (G : FSrG_X13_condition rc) {h : ms_M} (S : ¬ h 160 9 = 0) : Pc (qj_X13_rule_342 nn rc l2 h) (fun u => FSr h u.2) := by
  have F : FSr h h := ft_r
  unfold qj_X13_rule_342
  refine pc_xl ?_; intro v61 _
  refine pc_xl ?_; intro v62 _
  refine pc_xl ?_; intro v63 _
  exact pc_ret F
theorem ft_qj_X13_rule_317 {rc : tq_X13_condition} {l1 : Int} {l2 : Int} (G : FSrG_X13_condition rc) {h : ms_M} (S : ¬ h 160 9 = 0) : Pc (qj_X13_rule_317 nn rc l1 l2 h) (fun u => FSr h u.2) := by
  have F : FSr h h := ft_r
  unfold qj_X13_rule_317
  refine pc_rA ?_; intro _ _ v65 _
  refine pc_sv (G.2.1 (ft_n S F)) ?_; intro u67 Qu67
  have Fu67 : FSr h u67.2 := ft_t F Qu67
  refine pc_if (fun _ => ?_) (fun _ => ?_)
  · exact pc_imp (ft_qj_X13_rule_342 G (ft_n S Fu67)) (fun _ q => ft_t Fu67 q)
  · refine pc_rA ?_; intro _ _ v69 _
    refine pc_sv (ft_qf_X13_wrong (ft_n S Fu67)) ?_; intro u71 Qu71
    have Fu71 : FSr h u71 := ft_t Fu67 Qu71
    exact pc_imp (ft_qj_X13_rule_342 G (ft_n S Fu71)) (fun _ q => ft_t Fu71 q)
theorem ft_qj_X13_rule_256 {rc : tq_X13_condition} {l2 : Int} (G : FSrG_X13_condition rc) {h : ms_M} (S : ¬ h 160 9 = 0) : Pc (qj_X13_rule_256 nn rc l2 h) (fun u => FSr h u.2) := by
  have F : FSr h h := ft_r
  unfold qj_X13_rule_256
  refine pc_xl ?_; intro v73 _
  refine pc_xl ?_; intro v74 _
  exact pc_ret F
theorem ft_qj_X13_rule_216 {rc : tq_X13_condition} {l1 : Int} (G : FSrG_X13_condition rc) {h : ms_M} (S : ¬ h 160 9 = 0) : Pc (qj_X13_rule_216 nn rc l1 h) (fun u => FSr h u.2) := by
  have F : FSr h h := ft_r
  unfold qj_X13_rule_216
  refine pc_rA ?_; intro _ _ v76 _
  refine pc_sv (G.2.2.2.2.2.2 (ft_n S F)) ?_; intro u78 Qu78
  have Fu78 : FSr h u78.2 := ft_t F Qu78
  exact pc_ret Fu78
theorem ft_qj_X13_rule_121 {rc : tq_X13_condition} (G : FSrG_X13_condition rc) {h : ms_M} (S : ¬ h 160 9 = 0) : Pc (qj_X13_rule_121 nn rc h) (fun u => FSr h u.2) := by
  have F : FSr h h := ft_r
  unfold qj_X13_rule_121
  refine pc_xl ?_; intro v80 _
  refine pc_xl ?_; intro v81 _
  exact pc_ret F
theorem ft_qj_X13_rule_98 {rc : tq_X13_condition} (G : FSrG_X13_condition rc) {h : ms_M} (S : ¬ h 160 9 = 0) : Pc (qj_X13_rule_98 nn rc h) (fun u => FSr h u.2) := by
  have F : FSr h h := ft_r
  unfold qj_X13_rule_98
  exact pc_ret F
theorem ft_qo_X13_rule {rc : tq_X13_condition} {a1 : Int} (G : FSrG_X13_condition rc) {h : ms_M} (S : ¬ h 160 9 = 0) : Pc (qo_X13_rule nn rc a1 h) (fun u => FSr h u.2) := by
  have F : FSr h h := ft_r
  unfold qo_X13_rule
  refine pc_rA ?_; intro _ _ v83 _
  refine pc_if (fun _ => ?_) (fun _ => ?_)
  · exact pc_ret F
  · refine pc_if (fun _ => ?_) (fun _ => ?_)
    · exact pc_imp (ft_qj_X13_rule_98 G (ft_n S F)) (fun _ q => ft_t F q)
    · refine pc_if (fun _ => ?_) (fun _ => ?_)
      · exact pc_imp (ft_qj_X13_rule_98 G (ft_n S F)) (fun _ q => ft_t F q)
      · refine pc_if (fun _ => ?_) (fun _ => ?_)
        · exact pc_ret F
        · refine pc_if (fun _ => ?_) (fun _ => ?_)
          · refine pc_if (fun _ => ?_) (fun _ => ?_)
            · exact pc_imp (ft_qj_X13_rule_121 G (ft_n S F)) (fun _ q => ft_t F q)
            · refine pc_rA ?_; intro _ _ v105 _
              refine pc_sv (ft_qf_X13_wrong (ft_n S F)) ?_; intro u107 Qu107
              have Fu107 : FSr h u107 := ft_t F Qu107
              exact pc_imp (ft_qj_X13_rule_121 G (ft_n S Fu107)) (fun _ q => ft_t Fu107 q)
          · refine pc_if (fun _ => ?_) (fun _ => ?_)
            · refine pc_sv (ft_qf_X13_named (ft_n S F)) ?_; intro u110 Qu110
              have Fu110 : FSr h u110.2 := ft_t F Qu110
              exact pc_ret Fu110
            · refine pc_if (fun _ => ?_) (fun _ => ?_)
              · refine pc_rA ?_; intro _ _ v114 _
                refine pc_se ?_; intro u116 _
                refine pc_wA ?_; intro _ _ h117 Eh117
                have Fh117 : FSr h h117 := by rw [Eh117]; exact ft_u F (by omega)
                refine pc_rA ?_; intro _ _ v119 _
                refine pc_if (fun _ => ?_) (fun _ => ?_)
                · refine pc_if (fun _ => ?_) (fun _ => ?_)
                  · exact pc_imp (ft_qj_X13_rule_216 G (ft_n S Fh117)) (fun _ q => ft_t Fh117 q)
                  · refine pc_rA ?_; intro _ _ v123 _
                    refine pc_rA ?_; intro _ _ v124 _
                    refine pc_if (fun _ => ?_) (fun _ => ?_)
                    · exact pc_imp (ft_qj_X13_rule_216 G (ft_n S Fh117)) (fun _ q => ft_t Fh117 q)
                    · refine pc_rA ?_; intro _ _ v126 _
                      refine pc_sv (ft_qf_X13_wrong (ft_n S Fh117)) ?_; intro u128 Qu128
                      have Fu128 : FSr h u128 := ft_t Fh117 Qu128
                      exact pc_imp (ft_qj_X13_rule_216 G (ft_n S Fu128)) (fun _ q => ft_t Fu128 q)
                · refine pc_rA ?_; intro _ _ v132 _
                  refine pc_sv (ft_qf_X13_wrong (ft_n S Fh117)) ?_; intro u134 Qu134
                  have Fu134 : FSr h u134 := ft_t Fh117 Qu134
                  exact pc_imp (ft_qj_X13_rule_216 G (ft_n S Fu134)) (fun _ q => ft_t Fu134 q)
              · refine pc_if (fun _ => ?_) (fun _ => ?_)
                · refine pc_rA ?_; intro _ _ v137 _
                  refine pc_se ?_; intro u139 _
                  refine pc_if (fun _ => ?_) (fun _ => ?_)
                  · exact pc_imp (ft_qj_X13_rule_256 G (ft_n S F)) (fun _ q => ft_t F q)
                  · refine pc_rA ?_; intro _ _ v141 _
                    refine pc_sv (ft_qf_X13_wrong (ft_n S F)) ?_; intro u143 Qu143
                    have Fu143 : FSr h u143 := ft_t F Qu143
                    exact pc_imp (ft_qj_X13_rule_256 G (ft_n S Fu143)) (fun _ q => ft_t Fu143 q)
                · refine pc_if (fun _ => ?_) (fun _ => ?_)
                  · refine pc_rA ?_; intro _ _ v146 _
                    refine pc_sv (G.2.1 (ft_n S F)) ?_; intro u148 Qu148
                    have Fu148 : FSr h u148.2 := ft_t F Qu148
                    refine pc_if (fun _ => ?_) (fun _ => ?_)
                    · exact pc_ret Fu148
                    · refine pc_rA ?_; intro _ _ v150 _
                      refine pc_sv (ft_qf_X13_wrong (ft_n S Fu148)) ?_; intro u152 Qu152
                      have Fu152 : FSr h u152 := ft_t Fu148 Qu152
                      exact pc_ret Fu152
                  · refine pc_if (fun _ => ?_) (fun _ => ?_)
                    · refine pc_rA ?_; intro _ _ v155 _
                      refine pc_se ?_; intro u157 _
                      refine pc_if (fun _ => ?_) (fun _ => ?_)
                      · exact pc_imp (ft_qj_X13_rule_317 G (ft_n S F)) (fun _ q => ft_t F q)
                      · refine pc_rA ?_; intro _ _ v159 _
                        refine pc_sv (ft_qf_X13_wrong (ft_n S F)) ?_; intro u161 Qu161
                        have Fu161 : FSr h u161 := ft_t F Qu161
                        exact pc_imp (ft_qj_X13_rule_317 G (ft_n S Fu161)) (fun _ q => ft_t Fu161 q)
                    · refine pc_if (fun _ => ?_) (fun _ => ?_)
                      · refine pc_sv (ft_qf_X13_field (ft_n S F)) ?_; intro u164 Qu164
                        have Fu164 : FSr h u164.2 := ft_t F Qu164
                        exact pc_ret Fu164
                      · refine pc_if (fun _ => ?_) (fun _ => ?_)
                        · refine pc_sv (G.2.2.2.2.2.1 (ft_n S F)) ?_; intro u166 Qu166
                          have Fu166 : FSr h u166.2 := ft_t F Qu166
                          exact pc_ret Fu166
                        · refine pc_if (fun _ => ?_) (fun _ => ?_)
                          · refine pc_sv (ft_qf_X13_led (ft_n S F)) ?_; intro u168 Qu168
                            have Fu168 : FSr h u168.2 := ft_t F Qu168
                            refine pc_rA ?_; intro _ _ v170 _
                            refine pc_sv (G.2.1 (ft_n S Fu168)) ?_; intro u172 Qu172
                            have Fu172 : FSr h u172.2 := ft_t Fu168 Qu172
                            refine pc_se ?_; intro u173 _
                            refine pc_if (fun _ => ?_) (fun _ => ?_)
                            · exact pc_imp (ft_qj_X13_rule_391 G (ft_n S Fu172)) (fun _ q => ft_t Fu172 q)
                            · refine pc_if (fun _ => ?_) (fun _ => ?_)
                              · exact pc_imp (ft_qj_X13_rule_403 G (ft_n S Fu172)) (fun _ q => ft_t Fu172 q)
                              · exact pc_imp (ft_qj_X13_rule_391 G (ft_n S Fu172)) (fun _ q => ft_t Fu172 q)
                          · refine pc_if (fun _ => ?_) (fun _ => ?_)
                            · exact pc_imp (ft_qj_X13_rule_416 G (ft_n S F)) (fun _ q => ft_t F q)
                            · refine pc_if (fun _ => ?_) (fun _ => ?_)
                              · refine pc_rA ?_; intro _ _ v177 _
                                refine pc_sv (G.1 (ft_n S F)) ?_; intro u179 Qu179
                                have Fu179 : FSr h u179 := ft_t F Qu179
                                exact pc_ret Fu179
                              · refine pc_if (fun _ => ?_) (fun _ => ?_)
                                · exact pc_imp (ft_qj_X13_rule_416 G (ft_n S F)) (fun _ q => ft_t F q)
                                · refine pc_if (fun _ => ?_) (fun _ => ?_)
                                  · exact pc_imp (ft_qj_X13_rule_455 G (ft_n S F)) (fun _ q => ft_t F q)
                                  · refine pc_if (fun _ => ?_) (fun _ => ?_)
                                    · refine pc_sv (G.2.2.2.2.1 (ft_n S F)) ?_; intro u181 Qu181
                                      have Fu181 : FSr h u181.2 := ft_t F Qu181
                                      exact pc_ret Fu181
                                    · refine pc_if (fun _ => ?_) (fun _ => ?_)
                                      · exact pc_imp (ft_qj_X13_rule_455 G (ft_n S F)) (fun _ q => ft_t F q)
                                      · refine pc_rA ?_; intro _ _ v85 _
                                        refine pc_sv (G.1 (ft_n S F)) ?_; intro u87 Qu87
                                        have Fu87 : FSr h u87 := ft_t F Qu87
                                        refine pc_rA ?_; intro _ _ v89 _
                                        refine pc_sv (G.2.1 (ft_n S Fu87)) ?_; intro u91 Qu91
                                        have Fu91 : FSr h u91.2 := ft_t Fu87 Qu91
                                        refine pc_rA ?_; intro _ _ v93 _
                                        refine pc_sv (G.2.1 (ft_n S Fu91)) ?_; intro u95 Qu95
                                        have Fu95 : FSr h u95.2 := ft_t Fu91 Qu95
                                        refine pc_se ?_; intro u97 _
                                        refine pc_if (fun _ => ?_) (fun _ => ?_)
                                        · exact pc_imp (ft_qj_X13_rule_657 G (ft_n S Fu95)) (fun _ q => ft_t Fu95 q)
                                        · refine pc_rA ?_; intro _ _ v99 _
                                          refine pc_sv (ft_qf_X13_wrong (ft_n S Fu95)) ?_; intro u101 Qu101
                                          have Fu101 : FSr h u101 := ft_t Fu95 Qu101
                                          exact pc_imp (ft_qj_X13_rule_657 G (ft_n S Fu101)) (fun _ q => ft_t Fu101 q)
theorem ft_qj_X13_both_247 {rc : tq_X13_condition} {l1 : Int} {l3 : Int} (G : FSrG_X13_condition rc) {h : ms_M} (S : ¬ h 160 9 = 0) : Pc (qj_X13_both_247 nn rc l1 l3 h) (fun u => FSr h u.2) := by
  have F : FSr h h := ft_r
  unfold qj_X13_both_247
  refine pc_rA ?_; intro _ _ v2 _
  refine pc_se ?_; intro u4 _
  refine pc_if (fun _ => ?_) (fun _ => ?_)
  · exact pc_ret F
  · exact pc_ret F
theorem ft_qj_X13_both_235 {rc : tq_X13_condition} {l1 : Int} {l3 : Int} (G : FSrG_X13_condition rc) {h : ms_M} (S : ¬ h 160 9 = 0) : Pc (qj_X13_both_235 nn rc l1 l3 h) (fun u => FSr h u.2) := by
  have F : FSr h h := ft_r
  unfold qj_X13_both_235
  refine pc_rA ?_; intro _ _ v7 _
  refine pc_sv (ft_qf_X13_wrong (ft_n S F)) ?_; intro u9 Qu9
  have Fu9 : FSr h u9 := ft_t F Qu9
  exact pc_imp (ft_qj_X13_both_247 G (ft_n S Fu9)) (fun _ q => ft_t Fu9 q)
theorem ft_qj_X13_both_213 {rc : tq_X13_condition} {l1 : Int} {l3 : Int} {l4 : Int} {s0 : Int} (G : FSrG_X13_condition rc) {h : ms_M} (S : ¬ h 160 9 = 0) : Pc (qj_X13_both_213 nn rc l1 l3 l4 s0 h) (fun u => FSr h u.2) := by
  have F : FSr h h := ft_r
  unfold qj_X13_both_213
  refine pc_if (fun _ => ?_) (fun _ => ?_)
  · exact pc_imp (ft_qj_X13_both_235 G (ft_n S F)) (fun _ q => ft_t F q)
  · refine pc_if (fun _ => ?_) (fun _ => ?_)
    · exact pc_imp (ft_qj_X13_both_247 G (ft_n S F)) (fun _ q => ft_t F q)
    · refine pc_if (fun _ => ?_) (fun _ => ?_)
      · exact pc_imp (ft_qj_X13_both_235 G (ft_n S F)) (fun _ q => ft_t F q)
      · refine pc_if (fun _ => ?_) (fun _ => ?_)
        · exact pc_imp (ft_qj_X13_both_247 G (ft_n S F)) (fun _ q => ft_t F q)
        · exact pc_imp (ft_qj_X13_both_235 G (ft_n S F)) (fun _ q => ft_t F q)
theorem ft_qj_X13_both_208 {rc : tq_X13_condition} {l1 : Int} {l3 : Int} {l4 : Int} (G : FSrG_X13_condition rc) {h : ms_M} (S : ¬ h 160 9 = 0) : Pc (qj_X13_both_208 nn rc l1 l3 l4 h) (fun u => FSr h u.2) := by
  have F : FSr h h := ft_r
  unfold qj_X13_both_208
  exact pc_imp (ft_qj_X13_both_213 G (ft_n S F)) (fun _ q => ft_t F q)
theorem ft_qj_X13_both_166 {rc : tq_X13_condition} {l1 : Int} {l3 : Int} {l4 : Int} (G : FSrG_X13_condition rc) {h : ms_M} (S : ¬ h 160 9 = 0) : Pc (qj_X13_both_166 nn rc l1 l3 l4 h) (fun u => FSr h u.2) := by
  have F : FSr h h := ft_r
  unfold qj_X13_both_166
  refine pc_se ?_; intro u15 _
  refine pc_if (fun _ => ?_) (fun _ => ?_)
  · exact pc_ret F
  · refine pc_rA ?_; intro _ _ v17 _
    refine pc_sv (ft_qf_X13_wrong (ft_n S F)) ?_; intro u19 Qu19
    have Fu19 : FSr h u19 := ft_t F Qu19
    exact pc_ret Fu19
theorem ft_qj_X13_both_62 {rc : tq_X13_condition} {l1 : Int} (G : FSrG_X13_condition rc) {h : ms_M} (S : ¬ h 160 9 = 0) : Pc (qj_X13_both_62 nn rc l1 h) (fun u => FSr h u.2) := by
  have F : FSr h h := ft_r
  unfold qj_X13_both_62
  refine pc_rA ?_; intro _ _ v22 _
  refine pc_rA ?_; intro _ _ v24 _
  refine pc_sv (G.2.2.1 (ft_n S F)) ?_; intro u26 Qu26
  have Fu26 : FSr h u26.2 := ft_t F Qu26
  refine pc_sv (ft_qf_X13_side (ft_n S Fu26)) ?_; intro u28 Qu28
  have Fu28 : FSr h u28.2 := ft_t Fu26 Qu28
  refine pc_if (fun _ => ?_) (fun _ => ?_)
  · exact pc_ret Fu28
  · refine pc_rA ?_; intro _ _ v31 _
    refine pc_rA ?_; intro _ _ v32 _
    refine pc_sv (ft_qf_X13_wrong (ft_n S Fu28)) ?_; intro u34 Qu34
    have Fu34 : FSr h u34 := ft_t Fu28 Qu34
    exact pc_ret Fu34
theorem ft_qj_X13_both_36 {rc : tq_X13_condition} {l1 : Int} (G : FSrG_X13_condition rc) {h : ms_M} (S : ¬ h 160 9 = 0) : Pc (qj_X13_both_36 nn rc l1 h) (fun u => FSr h u.2) := by
  have F : FSr h h := ft_r
  unfold qj_X13_both_36
  refine pc_sv (ft_qf_X13_led (ft_n S F)) ?_; intro u37 Qu37
  have Fu37 : FSr h u37.2 := ft_t F Qu37
  refine pc_if (fun _ => ?_) (fun _ => ?_)
  · exact pc_imp (ft_qj_X13_both_62 G (ft_n S Fu37)) (fun _ q => ft_t Fu37 q)
  · refine pc_rA ?_; intro _ _ v40 _
    refine pc_rA ?_; intro _ _ v41 _
    refine pc_sv (ft_qf_X13_wrong (ft_n S Fu37)) ?_; intro u43 Qu43
    have Fu43 : FSr h u43 := ft_t Fu37 Qu43
    exact pc_imp (ft_qj_X13_both_62 G (ft_n S Fu43)) (fun _ q => ft_t Fu43 q)
theorem ft_qo_X13_both {rc : tq_X13_condition} {a1 : Int} (G : FSrG_X13_condition rc) {h : ms_M} (S : ¬ h 160 9 = 0) : Pc (qo_X13_both nn rc a1 h) (fun u => FSr h u.2) := by
  have F : FSr h h := ft_r
  unfold qo_X13_both
  refine pc_rA ?_; intro _ _ v47 _
  refine pc_rA ?_; intro _ _ v48 _
  refine pc_se ?_; intro u49 _
  refine pc_if (fun _ => ?_) (fun _ => ?_)
  · exact pc_imp (ft_qj_X13_both_36 G (ft_n S F)) (fun _ q => ft_t F q)
  · refine pc_se ?_; intro u50 _
    refine pc_if (fun _ => ?_) (fun _ => ?_)
    · refine pc_sv (ft_qf_X13_led (ft_n S F)) ?_; intro u52 Qu52
      have Fu52 : FSr h u52.2 := ft_t F Qu52
      refine pc_rA ?_; intro _ _ v54 _
      refine pc_rA ?_; intro _ _ v56 _
      refine pc_sv (G.2.2.1 (ft_n S Fu52)) ?_; intro u58 Qu58
      have Fu58 : FSr h u58.2 := ft_t Fu52 Qu58
      refine pc_sv (ft_qf_X13_side (ft_n S Fu58)) ?_; intro u60 Qu60
      have Fu60 : FSr h u60.2 := ft_t Fu58 Qu60
      refine pc_if (fun _ => ?_) (fun _ => ?_)
      · refine pc_se ?_; intro u62 _
        refine pc_if (fun _ => ?_) (fun _ => ?_)
        · exact pc_imp (ft_qj_X13_both_166 G (ft_n S Fu60)) (fun _ q => ft_t Fu60 q)
        · refine pc_se ?_; intro u63 _
          refine pc_if (fun _ => ?_) (fun _ => ?_)
          · refine pc_if (fun _ => ?_) (fun _ => ?_)
            · exact pc_imp (ft_qj_X13_both_208 G (ft_n S Fu60)) (fun _ q => ft_t Fu60 q)
            · refine pc_if (fun _ => ?_) (fun _ => ?_)
              · exact pc_imp (ft_qj_X13_both_208 G (ft_n S Fu60)) (fun _ q => ft_t Fu60 q)
              · refine pc_if (fun _ => ?_) (fun _ => ?_)
                · exact pc_imp (ft_qj_X13_both_213 G (ft_n S Fu60)) (fun _ q => ft_t Fu60 q)
                · exact pc_imp (ft_qj_X13_both_208 G (ft_n S Fu60)) (fun _ q => ft_t Fu60 q)
          · exact pc_imp (ft_qj_X13_both_166 G (ft_n S Fu60)) (fun _ q => ft_t Fu60 q)
      · exact pc_ret Fu60
    · exact pc_imp (ft_qj_X13_both_36 G (ft_n S F)) (fun _ q => ft_t F q)
theorem ft_qj_X13_invoked_237 {rc : tq_X13_condition} {s0 : Int} {s1 : Int} {s2 : Int} (G : FSrG_X13_condition rc) {h : ms_M} (S : ¬ h 160 9 = 0) : Pc (qj_X13_invoked_237 nn rc s0 s1 s2 h) (fun u => FSr h u.2) := by
  have F : FSr h h := ft_r
  unfold qj_X13_invoked_237
  refine pc_sv (G.2.2.2.2.2.2 (ft_n S F)) ?_; intro u2 Qu2
  have Fu2 : FSr h u2.2 := ft_t F Qu2
  exact pc_ret Fu2
theorem ft_qj_X13_invoked_232 {rc : tq_X13_condition} {s0 : Int} {s1 : Int} (G : FSrG_X13_condition rc) {h : ms_M} (S : ¬ h 160 9 = 0) : Pc (qj_X13_invoked_232 nn rc s0 s1 h) (fun u => FSr h u.2) := by
  have F : FSr h h := ft_r
  unfold qj_X13_invoked_232
  exact pc_imp (ft_qj_X13_invoked_237 G (ft_n S F)) (fun _ q => ft_t F q)
theorem ft_qj_X13_invoked_228 {rc : tq_X13_condition} {l3 : Int} {s0 : Int} {s1 : Int} {s2 : Int} (G : FSrG_X13_condition rc) {h : ms_M} (S : ¬ h 160 9 = 0) : Pc (qj_X13_invoked_228 nn rc l3 s0 s1 s2 h) (fun u => FSr h u.2) := by
  have F : FSr h h := ft_r
  unfold qj_X13_invoked_228
  refine pc_if (fun _ => ?_) (fun _ => ?_)
  · exact pc_imp (ft_qj_X13_invoked_237 G (ft_n S F)) (fun _ q => ft_t F q)
  · exact pc_imp (ft_qj_X13_invoked_232 G (ft_n S F)) (fun _ q => ft_t F q)
theorem ft_qj_X13_invoked_193 {rc : tq_X13_condition} {l1 : Int} {l3 : Int} (G : FSrG_X13_condition rc) {h : ms_M} (S : ¬ h 160 9 = 0) : Pc (qj_X13_invoked_193 nn rc l1 l3 h) (fun u => FSr h u.2) := by
  have F : FSr h h := ft_r
  unfold qj_X13_invoked_193
  refine pc_rA ?_; intro _ _ v5 _
  refine pc_if (fun _ => ?_) (fun _ => ?_)
  · exact pc_imp (ft_qj_X13_invoked_232 G (ft_n S F)) (fun _ q => ft_t F q)
  · refine pc_rA ?_; intro _ _ v9 _
    refine pc_rA ?_; intro _ _ v10 _
    refine pc_if (fun _ => ?_) (fun _ => ?_)
    · exact pc_imp (ft_qj_X13_invoked_228 G (ft_n S F)) (fun _ q => ft_t F q)
    · exact pc_imp (ft_qj_X13_invoked_228 G (ft_n S F)) (fun _ q => ft_t F q)
theorem ft_qj_X13_invoked_152 {rc : tq_X13_condition} {l1 : Int} {l3 : Int} {l4 : Int} {s0 : Int} {s1 : Int} (G : FSrG_X13_condition rc) {h : ms_M} (S : ¬ h 160 9 = 0) : Pc (qj_X13_invoked_152 nn rc l1 l3 l4 s0 s1 h) (fun u => FSr h u.2) := by
  have F : FSr h h := ft_r
  unfold qj_X13_invoked_152
  refine pc_wA ?_; intro _ _ h13 Eh13
  have Fh13 : FSr h h13 := by rw [Eh13]; exact ft_u F (by omega)
  refine pc_rA ?_; intro _ _ v16 _
  refine pc_se ?_; intro u18 _
  refine pc_wA ?_; intro _ _ h19 Eh19
  have Fh19 : FSr h h19 := by rw [Eh19]; exact ft_u Fh13 (by omega)
  refine pc_rA ?_; intro _ _ v21 _
  refine pc_if (fun _ => ?_) (fun _ => ?_)
  · exact pc_imp (ft_qj_X13_invoked_193 G (ft_n S Fh19)) (fun _ q => ft_t Fh19 q)
  · refine pc_rA ?_; intro _ _ v23 _
    refine pc_sv (ft_qf_X13_wrong (ft_n S Fh19)) ?_; intro u25 Qu25
    have Fu25 : FSr h u25 := ft_t Fh19 Qu25
    exact pc_imp (ft_qj_X13_invoked_193 G (ft_n S Fu25)) (fun _ q => ft_t Fu25 q)
theorem ft_qj_X13_invoked_128 {rc : tq_X13_condition} {l1 : Int} {l3 : Int} {l4 : Int} (G : FSrG_X13_condition rc) {h : ms_M} (S : ¬ h 160 9 = 0) : Pc (qj_X13_invoked_128 nn rc l1 l3 l4 h) (fun u => FSr h u.2) := by
  have F : FSr h h := ft_r
  unfold qj_X13_invoked_128
  refine pc_if (fun _ => ?_) (fun _ => ?_)
  · refine pc_if (fun _ => ?_) (fun _ => ?_)
    · exact pc_imp (ft_qj_X13_invoked_152 G (ft_n S F)) (fun _ q => ft_t F q)
    · exact pc_imp (ft_qj_X13_invoked_152 G (ft_n S F)) (fun _ q => ft_t F q)
  · exact pc_ret F
theorem ft_qj_X13_invoked_119 {rc : tq_X13_condition} {l1 : Int} {l3 : Int} {l5 : Int} (G : FSrG_X13_condition rc) {h : ms_M} (S : ¬ h 160 9 = 0) : Pc (qj_X13_invoked_119 nn rc l1 l3 l5 h) (fun u => FSr h u.2) := by
  have F : FSr h h := ft_r
  unfold qj_X13_invoked_119
  refine pc_xl ?_; intro v31 _
  refine pc_xl ?_; intro v32 _
  exact pc_imp (ft_qj_X13_invoked_128 G (ft_n S F)) (fun _ q => ft_t F q)
theorem ft_qj_X13_invoked_86 {rc : tq_X13_condition} {l1 : Int} (G : FSrG_X13_condition rc) {h : ms_M} (S : ¬ h 160 9 = 0) : Pc (qj_X13_invoked_86 nn rc l1 h) (fun u => FSr h u.2) := by
  have F : FSr h h := ft_r
  unfold qj_X13_invoked_86
  refine pc_rA ?_; intro _ _ v34 _
  refine pc_sv (ft_qf_X13_wrong (ft_n S F)) ?_; intro u36 Qu36
  have Fu36 : FSr h u36 := ft_t F Qu36
  exact pc_ret Fu36
theorem ft_qj_X13_invoked_46 {rc : tq_X13_condition} {l1 : Int} {l2 : Int} {l3 : Int} {l4 : Int} (G : FSrG_X13_condition rc) {h : ms_M} (S : ¬ h 160 9 = 0) : Pc (qj_X13_invoked_46 nn rc l1 l2 l3 l4 h) (fun u => FSr h u.2) := by
  have F : FSr h h := ft_r
  unfold qj_X13_invoked_46
  refine pc_wA ?_; intro _ _ h38 Eh38
  have Fh38 : FSr h h38 := by rw [Eh38]; exact ft_u F (by omega)
  exact pc_imp (ft_qj_X13_invoked_128 G (ft_n S Fh38)) (fun _ q => ft_t Fh38 q)
theorem ft_qo_X13_invoked {rc : tq_X13_condition} {a1 : Int} (G : FSrG_X13_condition rc) {h : ms_M} (S : ¬ h 160 9 = 0) : Pc (qo_X13_invoked nn rc a1 h) (fun u => FSr h u.2) := by
  have F : FSr h h := ft_r
  unfold qo_X13_invoked
  refine pc_rA ?_; intro _ _ v40 _
  refine pc_se ?_; intro u42 _
  refine pc_if (fun _ => ?_) (fun _ => ?_)
  · refine pc_sv (ft_qf_X13_led (ft_n S F)) ?_; intro u44 Qu44
    have Fu44 : FSr h u44.2 := ft_t F Qu44
    refine pc_if (fun _ => ?_) (fun _ => ?_)
    · refine pc_if (fun _ => ?_) (fun _ => ?_)
      · exact pc_imp (ft_qj_X13_invoked_86 G (ft_n S Fu44)) (fun _ q => ft_t Fu44 q)
      · refine pc_se ?_; intro u46 _
        refine pc_if (fun _ => ?_) (fun _ => ?_)
        · refine pc_se ?_; intro u47 _
          refine pc_if (fun _ => ?_) (fun _ => ?_)
          · exact pc_imp (ft_qj_X13_invoked_119 G (ft_n S Fu44)) (fun _ q => ft_t Fu44 q)
          · refine pc_rA ?_; intro _ _ v49 _
            refine pc_sv (ft_qf_X13_wrong (ft_n S Fu44)) ?_; intro u51 Qu51
            have Fu51 : FSr h u51 := ft_t Fu44 Qu51
            exact pc_imp (ft_qj_X13_invoked_119 G (ft_n S Fu51)) (fun _ q => ft_t Fu51 q)
        · exact pc_imp (ft_qj_X13_invoked_86 G (ft_n S Fu44)) (fun _ q => ft_t Fu44 q)
    · exact pc_ret Fu44
  · refine pc_rA ?_; intro _ _ v57 _
    refine pc_se ?_; intro u59 _
    refine pc_if (fun _ => ?_) (fun _ => ?_)
    · exact pc_imp (ft_qj_X13_invoked_46 G (ft_n S F)) (fun _ q => ft_t F q)
    · refine pc_rA ?_; intro _ _ v61 _
      refine pc_sv (ft_qf_X13_wrong (ft_n S F)) ?_; intro u63 Qu63
      have Fu63 : FSr h u63 := ft_t F Qu63
      exact pc_imp (ft_qj_X13_invoked_46 G (ft_n S Fu63)) (fun _ q => ft_t Fu63 q)
theorem ft_qj_X13_called_138 {rc : tq_X13_condition} {l2 : Int} (G : FSrG_X13_condition rc) {h : ms_M} (S : ¬ h 160 9 = 0) : Pc (qj_X13_called_138 nn rc l2 h) (fun u => FSr h u.2) := by
  have F : FSr h h := ft_r
  unfold qj_X13_called_138
  refine pc_rA ?_; intro _ _ v2 _
  exact pc_ret F
theorem ft_qj_X13_called_126 {rc : tq_X13_condition} {l1 : Int} {l2 : Int} (G : FSrG_X13_condition rc) {h : ms_M} (S : ¬ h 160 9 = 0) : Pc (qj_X13_called_126 nn rc l1 l2 h) (fun u => FSr h u.2) := by
  have F : FSr h h := ft_r
  unfold qj_X13_called_126
  refine pc_rA ?_; intro _ _ v4 _
  refine pc_sv (ft_qf_X13_wrong (ft_n S F)) ?_; intro u6 Qu6
  have Fu6 : FSr h u6 := ft_t F Qu6
  exact pc_imp (ft_qj_X13_called_138 G (ft_n S Fu6)) (fun _ q => ft_t Fu6 q)
theorem ft_qj_X13_called_110 {rc : tq_X13_condition} {l1 : Int} {l2 : Int} {l4 : Int} {l5 : Int} (G : FSrG_X13_condition rc) {h : ms_M} (S : ¬ h 160 9 = 0) : Pc (qj_X13_called_110 nn rc l1 l2 l4 l5 h) (fun u => FSr h u.2) := by
  have F : FSr h h := ft_r
  unfold qj_X13_called_110
  refine pc_if (fun _ => ?_) (fun _ => ?_)
  · exact pc_imp (ft_qj_X13_called_126 G (ft_n S F)) (fun _ q => ft_t F q)
  · refine pc_rA ?_; intro _ _ v8 _
    refine pc_if (fun _ => ?_) (fun _ => ?_)
    · exact pc_imp (ft_qj_X13_called_138 G (ft_n S F)) (fun _ q => ft_t F q)
    · exact pc_imp (ft_qj_X13_called_126 G (ft_n S F)) (fun _ q => ft_t F q)
theorem ft_qj_X13_called_93 {rc : tq_X13_condition} {l1 : Int} {l2 : Int} {l5 : Int} {l6 : Int} {s0 : Int} (G : FSrG_X13_condition rc) {qkk_23 : Int → Int → Int → Int → Int → ms_M → Option (Int × ms_M)} (Hqkk_23 : ∀ (z0 : Int) (z1 : Int) (z2 : Int) (z3 : Int) (z4 : Int) (z5 : ms_M), ¬ z5 160 9 = 0 → Pc (qkk_23 z0 z1 z2 z3 z4 z5) (fun u => FSr z5 u.2)) {h : ms_M} (S : ¬ h 160 9 = 0) : Pc (qj_X13_called_93 nn rc qkk_23 l1 l2 l5 l6 s0 h) (fun u => FSr h u.2) := by
  have F : FSr h h := ft_r
  unfold qj_X13_called_93
  refine pc_xl ?_; intro v11 _
  refine pc_rA ?_; intro _ _ v13 _
  exact pc_imp (Hqkk_23 _ _ _ _ _ _ (ft_n S F)) (fun _ q => ft_t F q)
theorem ft_qj_X13_called_92 {rc : tq_X13_condition} {l1 : Int} {l2 : Int} {l5 : Int} {l6 : Int} (G : FSrG_X13_condition rc) {qkk_23 : Int → Int → Int → Int → Int → ms_M → Option (Int × ms_M)} (Hqkk_23 : ∀ (z0 : Int) (z1 : Int) (z2 : Int) (z3 : Int) (z4 : Int) (z5 : ms_M), ¬ z5 160 9 = 0 → Pc (qkk_23 z0 z1 z2 z3 z4 z5) (fun u => FSr z5 u.2)) {h : ms_M} (S : ¬ h 160 9 = 0) : Pc (qj_X13_called_92 nn rc qkk_23 l1 l2 l5 l6 h) (fun u => FSr h u.2) := by
  have F : FSr h h := ft_r
  unfold qj_X13_called_92
  exact pc_imp (ft_qj_X13_called_93 G Hqkk_23 (ft_n S F)) (fun _ q => ft_t F q)
theorem ft_qw_X13_called_23 {rc : tq_X13_condition} (G : FSrG_X13_condition rc) : ∀ (k : Nat) (l1 : Int) (l2 : Int) (l4 : Int) (l5 : Int) (l6 : Int) (h : ms_M), ¬ h 160 9 = 0 → Pc (qw_X13_called_23 nn rc k l1 l2 l4 l5 l6 h) (fun u => FSr h u.2) := by
  intro k
  induction k with
  | zero => intros; exact pc_none
  | succ k ih =>
    intro l1 l2 l4 l5 l6 h S
    have F : FSr h h := ft_r
    unfold qw_X13_called_23
    refine pc_if (fun _ => ?_) (fun _ => ?_)
    · exact pc_imp (ft_qj_X13_called_110 G (ft_n S F)) (fun _ q => ft_t F q)
    · refine pc_if (fun _ => ?_) (fun _ => ?_)
      · exact pc_imp (ft_qj_X13_called_110 G (ft_n S F)) (fun _ q => ft_t F q)
      · refine pc_rA ?_; intro _ _ v16 _
        refine pc_sv (G.2.1 (ft_n S F)) ?_; intro u18 Qu18
        have Fu18 : FSr h u18.2 := ft_t F Qu18
        refine pc_if (fun _ => ?_) (fun _ => ?_)
        · exact pc_imp (ft_qj_X13_called_92 G (fun _ _ _ _ _ _ S => ih _ _ _ _ _ _ S) (ft_n S Fu18)) (fun _ q => ft_t Fu18 q)
        · refine pc_rA ?_; intro _ _ v20 _
          refine pc_if (fun _ => ?_) (fun _ => ?_)
          · exact pc_imp (ft_qj_X13_called_92 G (fun _ _ _ _ _ _ S => ih _ _ _ _ _ _ S) (ft_n S Fu18)) (fun _ q => ft_t Fu18 q)
          · refine pc_rA ?_; intro _ _ v23 _
            refine pc_xl ?_; intro v24 _
            refine pc_rA ?_; intro _ _ v25 _
            refine pc_se ?_; intro u27 _
            refine pc_if (fun _ => ?_) (fun _ => ?_)
            · exact pc_imp (ft_qj_X13_called_92 G (fun _ _ _ _ _ _ S => ih _ _ _ _ _ _ S) (ft_n S Fu18)) (fun _ q => ft_t Fu18 q)
            · exact pc_imp (ft_qj_X13_called_93 G (fun _ _ _ _ _ _ S => ih _ _ _ _ _ _ S) (ft_n S Fu18)) (fun _ q => ft_t Fu18 q)
theorem ft_qo_X13_called {rc : tq_X13_condition} {a1 : Int} {a2 : Int} {a3 : Int} (G : FSrG_X13_condition rc) {h : ms_M} (S : ¬ h 160 9 = 0) : Pc (qo_X13_called nn rc a1 a2 a3 h) (fun u => FSr h u.2) := by
  have F : FSr h h := ft_r
  unfold qo_X13_called
  refine pc_if (fun _ => ?_) (fun _ => ?_)
  · refine pc_rA ?_; intro _ _ v35 _
    exact pc_imp (ft_qw_X13_called_23 G _ _ _ _ _ _ _ (ft_n S F)) (fun _ q => ft_t F q)
  · exact pc_ret F
theorem ftg_X13_condition (nn : Nat) : ∀ d, FSrG_X13_condition (qg_X13_condition nn d) := by
  intro d
  induction d with
  | zero => exact ⟨fun _ => pc_none, fun _ => pc_none, fun _ => pc_none, fun _ => pc_none, fun _ => pc_none, fun _ => pc_none, fun _ => pc_none⟩
  | succ d ih => exact ⟨fun S => ft_qo_X13_condition (nn := nn) ih S, fun S => ft_qo_X13_given (nn := nn) ih S, fun S => ft_qo_X13_worked (nn := nn) ih S, fun S => ft_qo_X13_rule (nn := nn) ih S, fun S => ft_qo_X13_both (nn := nn) ih S, fun S => ft_qo_X13_invoked (nn := nn) ih S, fun S => ft_qo_X13_called (nn := nn) ih S⟩
theorem ft_qf_X13_condition {a1 : Int} {h : ms_M} (S : ¬ h 160 9 = 0) : Pc (qf_X13_condition nn a1 h) (fun u => FSr h u) := (ftg_X13_condition nn 1600).1 S
theorem ft_qf_X13_given {a1 : Int} {h : ms_M} (S : ¬ h 160 9 = 0) : Pc (qf_X13_given nn a1 h) (fun u => FSr h u.2) := (ftg_X13_condition nn 1600).2.1 S
theorem ft_qf_X13_worked {a1 : Int} {h : ms_M} (S : ¬ h 160 9 = 0) : Pc (qf_X13_worked nn a1 h) (fun u => FSr h u.2) := (ftg_X13_condition nn 1600).2.2.1 S
theorem ft_qf_X13_rule {a1 : Int} {h : ms_M} (S : ¬ h 160 9 = 0) : Pc (qf_X13_rule nn a1 h) (fun u => FSr h u.2) := (ftg_X13_condition nn 1600).2.2.2.1 S
theorem ft_qf_X13_both {a1 : Int} {h : ms_M} (S : ¬ h 160 9 = 0) : Pc (qf_X13_both nn a1 h) (fun u => FSr h u.2) := (ftg_X13_condition nn 1600).2.2.2.2.1 S
theorem ft_qf_X13_invoked {a1 : Int} {h : ms_M} (S : ¬ h 160 9 = 0) : Pc (qf_X13_invoked nn a1 h) (fun u => FSr h u.2) := (ftg_X13_condition nn 1600).2.2.2.2.2.1 S
theorem ft_qf_X13_called {a1 : Int} {a2 : Int} {a3 : Int} {h : ms_M} (S : ¬ h 160 9 = 0) : Pc (qf_X13_called nn a1 a2 a3 h) (fun u => FSr h u.2) := (ftg_X13_condition nn 1600).2.2.2.2.2.2 S
def FSrG_X13_ruled (rc : tq_X13_ruled) : Prop := (∀ {a1 : Int} {h : ms_M}, ¬ h 160 9 = 0 → Pc (rc a1 h) (fun u => FSr h u.2))
theorem ft_qf_X13_come {a1 : Int} {a2 : Int} {h : ms_M} (S : ¬ h 160 9 = 0) : Pc (qf_X13_come nn a1 a2 h) (fun u => FSr h u) := fun u e => ⟨ff_X13_come nn u e 160 9 rfl, ff_X13_come nn u e 160 10 rfl⟩
theorem ft_qj_X13_ruled_954 {rc : tq_X13_ruled} {l1 : Int} (G : FSrG_X13_ruled rc) {h : ms_M} (S : ¬ h 160 9 = 0) : Pc (qj_X13_ruled_954 nn rc l1 h) (fun u => FSr h u.2) := by
  have F : FSr h h := ft_r
  unfold qj_X13_ruled_954
  refine pc_rA ?_; intro _ _ v2 _
  refine pc_sv (ft_qf_X13_wrong (ft_n S F)) ?_; intro u4 Qu4
  have Fu4 : FSr h u4 := ft_t F Qu4
  exact pc_ret Fu4
theorem ft_qj_X13_ruled_887 {rc : tq_X13_ruled} {l1 : Int} (G : FSrG_X13_ruled rc) {h : ms_M} (S : ¬ h 160 9 = 0) : Pc (qj_X13_ruled_887 nn rc l1 h) (fun u => FSr h u.2) := by
  have F : FSr h h := ft_r
  unfold qj_X13_ruled_887
  refine pc_rA ?_; intro _ _ v7 _
  refine pc_rA ?_; intro _ _ v8 _
  refine pc_sv (ft_qf_X13_wrong (ft_n S F)) ?_; intro u10 Qu10
  have Fu10 : FSr h u10 := ft_t F Qu10
  exact pc_ret Fu10
theorem ft_qj_X13_ruled_840 {rc : tq_X13_ruled} {l1 : Int} {s0 : Int} {s1 : Int} (G : FSrG_X13_ruled rc) {h : ms_M} (S : ¬ h 160 9 = 0) : Pc (qj_X13_ruled_840 nn rc l1 s0 s1 h) (fun u => FSr h u.2) := by
  have F : FSr h h := ft_r
  unfold qj_X13_ruled_840
  refine pc_wA ?_; intro _ _ h11 Eh11
  have Fh11 : FSr h h11 := by rw [Eh11]; exact ft_u F (by omega)
  refine pc_rA ?_; intro _ _ v14 _
  refine pc_rA ?_; intro _ _ v15 _
  refine pc_if (fun _ => ?_) (fun _ => ?_)
  · exact pc_imp (ft_qj_X13_ruled_887 G (ft_n S Fh11)) (fun _ q => ft_t Fh11 q)
  · refine pc_rA ?_; intro _ _ v18 _
    refine pc_rA ?_; intro _ _ v19 _
    refine pc_if (fun _ => ?_) (fun _ => ?_)
    · exact pc_ret Fh11
    · refine pc_rA ?_; intro _ _ v22 _
      refine pc_rA ?_; intro _ _ v23 _
      refine pc_if (fun _ => ?_) (fun _ => ?_)
      · exact pc_ret Fh11
      · exact pc_imp (ft_qj_X13_ruled_887 G (ft_n S Fh11)) (fun _ q => ft_t Fh11 q)
theorem ft_qj_X13_ruled_738 {rc : tq_X13_ruled} {l1 : Int} {l2 : Int} {l3 : Int} (G : FSrG_X13_ruled rc) {h : ms_M} (S : ¬ h 160 9 = 0) : Pc (qj_X13_ruled_738 nn rc l1 l2 l3 h) (fun u => FSr h u.2) := by
  have F : FSr h h := ft_r
  unfold qj_X13_ruled_738
  refine pc_rA ?_; intro _ _ v28 _
  refine pc_sv (G (ft_n S F)) ?_; intro u30 Qu30
  have Fu30 : FSr h u30.2 := ft_t F Qu30
  refine pc_xl ?_; intro h31 Eh31
  have Fh31 : FSr h h31 := by rw [Eh31]; exact ft_u Fu30 (by omega)
  refine pc_if (fun _ => ?_) (fun _ => ?_)
  · exact pc_ret Fh31
  · refine pc_if (fun _ => ?_) (fun _ => ?_)
    · exact pc_ret Fh31
    · exact pc_ret Fh31
theorem ft_qj_X13_ruled_711 {rc : tq_X13_ruled} {l1 : Int} {l2 : Int} {l3 : Int} {l5 : Int} (G : FSrG_X13_ruled rc) {h : ms_M} (S : ¬ h 160 9 = 0) : Pc (qj_X13_ruled_711 nn rc l1 l2 l3 l5 h) (fun u => FSr h u.2) := by
  have F : FSr h h := ft_r
  unfold qj_X13_ruled_711
  refine pc_wA ?_; intro _ _ h35 Eh35
  have Fh35 : FSr h h35 := by rw [Eh35]; exact ft_u F (by omega)
  refine pc_if (fun _ => ?_) (fun _ => ?_)
  · exact pc_imp (ft_qj_X13_ruled_738 G (ft_n S Fh35)) (fun _ q => ft_t Fh35 q)
  · refine pc_rA ?_; intro _ _ v38 _
    refine pc_sv (ft_qf_X13_come (ft_n S Fh35)) ?_; intro u40 Qu40
    have Fu40 : FSr h u40 := ft_t Fh35 Qu40
    exact pc_imp (ft_qj_X13_ruled_738 G (ft_n S Fu40)) (fun _ q => ft_t Fu40 q)
theorem ft_qj_X13_ruled_679 {rc : tq_X13_ruled} {l1 : Int} {l2 : Int} {l3 : Int} {l5 : Int} (G : FSrG_X13_ruled rc) {h : ms_M} (S : ¬ h 160 9 = 0) : Pc (qj_X13_ruled_679 nn rc l1 l2 l3 l5 h) (fun u => FSr h u.2) := by
  have F : FSr h h := ft_r
  unfold qj_X13_ruled_679
  refine pc_if (fun _ => ?_) (fun _ => ?_)
  · exact pc_imp (ft_qj_X13_ruled_711 G (ft_n S F)) (fun _ q => ft_t F q)
  · refine pc_rA ?_; intro _ _ v44 _
    refine pc_se ?_; intro u46 _
    refine pc_if (fun _ => ?_) (fun _ => ?_)
    · exact pc_imp (ft_qj_X13_ruled_711 G (ft_n S F)) (fun _ q => ft_t F q)
    · refine pc_rA ?_; intro _ _ v48 _
      refine pc_sv (ft_qf_X13_wrong (ft_n S F)) ?_; intro u50 Qu50
      have Fu50 : FSr h u50 := ft_t F Qu50
      exact pc_imp (ft_qj_X13_ruled_711 G (ft_n S Fu50)) (fun _ q => ft_t Fu50 q)
theorem ft_qj_X13_ruled_617 {rc : tq_X13_ruled} {l1 : Int} (G : FSrG_X13_ruled rc) {h : ms_M} (S : ¬ h 160 9 = 0) : Pc (qj_X13_ruled_617 nn rc l1 h) (fun u => FSr h u.2) := by
  have F : FSr h h := ft_r
  unfold qj_X13_ruled_617
  refine pc_rA ?_; intro _ _ v54 _
  refine pc_sv (ft_qf_X13_wrong (ft_n S F)) ?_; intro u56 Qu56
  have Fu56 : FSr h u56 := ft_t F Qu56
  exact pc_ret Fu56
theorem ft_qj_X13_ruled_536 {rc : tq_X13_ruled} {l1 : Int} (G : FSrG_X13_ruled rc) {h : ms_M} (S : ¬ h 160 9 = 0) : Pc (qj_X13_ruled_536 nn rc l1 h) (fun u => FSr h u.2) := by
  have F : FSr h h := ft_r
  unfold qj_X13_ruled_536
  refine pc_rA ?_; intro _ _ v58 _
  refine pc_if (fun _ => ?_) (fun _ => ?_)
  · exact pc_ret F
  · refine pc_rA ?_; intro _ _ v60 _
    refine pc_sv (ft_qf_X13_given (ft_n S F)) ?_; intro u62 Qu62
    have Fu62 : FSr h u62.2 := ft_t F Qu62
    refine pc_rA ?_; intro _ _ v65 _
    refine pc_se ?_; intro u67 _
    refine pc_if (fun _ => ?_) (fun _ => ?_)
    · exact pc_ret Fu62
    · refine pc_rA ?_; intro _ _ v69 _
      refine pc_sv (ft_qf_X13_wrong (ft_n S Fu62)) ?_; intro u71 Qu71
      have Fu71 : FSr h u71 := ft_t Fu62 Qu71
      exact pc_ret Fu71
theorem ft_qj_X13_ruled_521 {rc : tq_X13_ruled} {l1 : Int} {s0 : Int} {s1 : Int} (G : FSrG_X13_ruled rc) {h : ms_M} (S : ¬ h 160 9 = 0) : Pc (qj_X13_ruled_521 nn rc l1 s0 s1 h) (fun u => FSr h u.2) := by
  have F : FSr h h := ft_r
  unfold qj_X13_ruled_521
  refine pc_if (fun _ => ?_) (fun _ => ?_)
  · exact pc_imp (ft_qj_X13_ruled_536 G (ft_n S F)) (fun _ q => ft_t F q)
  · refine pc_rA ?_; intro _ _ v75 _
    refine pc_sv (ft_qf_X13_wrong (ft_n S F)) ?_; intro u77 Qu77
    have Fu77 : FSr h u77 := ft_t F Qu77
    exact pc_imp (ft_qj_X13_ruled_536 G (ft_n S Fu77)) (fun _ q => ft_t Fu77 q)
theorem ft_qj_X13_ruled_503 {rc : tq_X13_ruled} {l1 : Int} {s0 : Int} (G : FSrG_X13_ruled rc) {h : ms_M} (S : ¬ h 160 9 = 0) : Pc (qj_X13_ruled_503 nn rc l1 s0 h) (fun u => FSr h u.2) := by
  have F : FSr h h := ft_r
  unfold qj_X13_ruled_503
  refine pc_rA ?_; intro _ _ v81 _
  refine pc_if (fun _ => ?_) (fun _ => ?_)
  · exact pc_imp (ft_qj_X13_ruled_521 G (ft_n S F)) (fun _ q => ft_t F q)
  · exact pc_imp (ft_qj_X13_ruled_521 G (ft_n S F)) (fun _ q => ft_t F q)
theorem ft_qj_X13_ruled_444 {rc : tq_X13_ruled} {l1 : Int} (G : FSrG_X13_ruled rc) {h : ms_M} (S : ¬ h 160 9 = 0) : Pc (qj_X13_ruled_444 nn rc l1 h) (fun u => FSr h u.2) := by
  have F : FSr h h := ft_r
  unfold qj_X13_ruled_444
  refine pc_if (fun _ => ?_) (fun _ => ?_)
  · refine pc_rA ?_; intro _ _ v85 _
    refine pc_if (fun _ => ?_) (fun _ => ?_)
    · exact pc_ret F
    · refine pc_wZ ?_; intro _ _ h88 Eh88
      have Fh88 : FSr h h88 := by rw [Eh88]; exact ft_u F (by omega)
      exact pc_ret Fh88
  · refine pc_rA ?_; intro _ _ v91 _
    refine pc_sv (ft_qf_X13_wrong (ft_n S F)) ?_; intro u93 Qu93
    have Fu93 : FSr h u93 := ft_t F Qu93
    exact pc_ret Fu93
theorem ft_qj_X13_ruled_431 {rc : tq_X13_ruled} {l3 : Int} {s0 : Int} {s1 : Int} (G : FSrG_X13_ruled rc) {h : ms_M} (S : ¬ h 160 9 = 0) : Pc (qj_X13_ruled_431 nn rc l3 s0 s1 h) (fun u => FSr h u.2) := by
  have F : FSr h h := ft_r
  unfold qj_X13_ruled_431
  refine pc_wA ?_; intro _ _ h95 Eh95
  have Fh95 : FSr h h95 := by rw [Eh95]; exact ft_u F (by omega)
  refine pc_xl ?_; intro v97 _
  refine pc_xl ?_; intro h98 Eh98
  have Fh98 : FSr h h98 := by rw [Eh98]; exact ft_u Fh95 (by omega)
  refine pc_ck (fun _ => ?_)
  exact pc_ret Fh98
theorem ft_qj_X13_ruled_408 {rc : tq_X13_ruled} {l1 : Int} {s0 : Int} (G : FSrG_X13_ruled rc) {h : ms_M} (S : ¬ h 160 9 = 0) : Pc (qj_X13_ruled_408 nn rc l1 s0 h) (fun u => FSr h u.2) := by
  have F : FSr h h := ft_r
  unfold qj_X13_ruled_408
  refine pc_rA ?_; intro _ _ v103 _
  refine pc_if (fun _ => ?_) (fun _ => ?_)
  · exact pc_imp (ft_qj_X13_ruled_431 G (ft_n S F)) (fun _ q => ft_t F q)
  · exact pc_imp (ft_qj_X13_ruled_431 G (ft_n S F)) (fun _ q => ft_t F q)
theorem ft_qj_X13_ruled_403 {rc : tq_X13_ruled} {l1 : Int} (G : FSrG_X13_ruled rc) {h : ms_M} (S : ¬ h 160 9 = 0) : Pc (qj_X13_ruled_403 nn rc l1 h) (fun u => FSr h u.2) := by
  have F : FSr h h := ft_r
  unfold qj_X13_ruled_403
  exact pc_imp (ft_qj_X13_ruled_408 G (ft_n S F)) (fun _ q => ft_t F q)
theorem ft_qj_X13_ruled_377 {rc : tq_X13_ruled} {l1 : Int} {l2 : Int} (G : FSrG_X13_ruled rc) {h : ms_M} (S : ¬ h 160 9 = 0) : Pc (qj_X13_ruled_377 nn rc l1 l2 h) (fun u => FSr h u.2) := by
  have F : FSr h h := ft_r
  unfold qj_X13_ruled_377
  refine pc_xl ?_; intro h105 Eh105
  have Fh105 : FSr h h105 := by rw [Eh105]; exact ft_u F (by omega)
  refine pc_rA ?_; intro _ _ v107 _
  refine pc_if (fun _ => ?_) (fun _ => ?_)
  · exact pc_imp (ft_qj_X13_ruled_403 G (ft_n S Fh105)) (fun _ q => ft_t Fh105 q)
  · refine pc_rA ?_; intro _ _ v110 _
    refine pc_if (fun _ => ?_) (fun _ => ?_)
    · exact pc_imp (ft_qj_X13_ruled_408 G (ft_n S Fh105)) (fun _ q => ft_t Fh105 q)
    · exact pc_imp (ft_qj_X13_ruled_403 G (ft_n S Fh105)) (fun _ q => ft_t Fh105 q)
theorem ft_qj_X13_ruled_244 {rc : tq_X13_ruled} {l1 : Int} {l5 : Int} (G : FSrG_X13_ruled rc) {h : ms_M} (S : ¬ h 160 9 = 0) : Pc (qj_X13_ruled_244 nn rc l1 l5 h) (fun u => FSr h u.2) := by
  have F : FSr h h := ft_r
  unfold qj_X13_ruled_244
  refine pc_wA ?_; intro _ _ h114 Eh114
  have Fh114 : FSr h h114 := by rw [Eh114]; exact ft_u F (by omega)
  refine pc_rA ?_; intro _ _ v116 _
  refine pc_sv (ft_qf_X13_come (ft_n S Fh114)) ?_; intro u118 Qu118
  have Fu118 : FSr h u118 := ft_t Fh114 Qu118
  exact pc_ret Fu118
theorem ft_qj_X13_ruled_209 {rc : tq_X13_ruled} {l1 : Int} {l5 : Int} (G : FSrG_X13_ruled rc) {h : ms_M} (S : ¬ h 160 9 = 0) : Pc (qj_X13_ruled_209 nn rc l1 l5 h) (fun u => FSr h u.2) := by
  have F : FSr h h := ft_r
  unfold qj_X13_ruled_209
  refine pc_rA ?_; intro _ _ v120 _
  refine pc_sv (ft_qf_X13_given (ft_n S F)) ?_; intro u122 Qu122
  have Fu122 : FSr h u122.2 := ft_t F Qu122
  refine pc_se ?_; intro u124 _
  refine pc_if (fun _ => ?_) (fun _ => ?_)
  · exact pc_imp (ft_qj_X13_ruled_244 G (ft_n S Fu122)) (fun _ q => ft_t Fu122 q)
  · refine pc_rA ?_; intro _ _ v126 _
    refine pc_sv (ft_qf_X13_wrong (ft_n S Fu122)) ?_; intro u128 Qu128
    have Fu128 : FSr h u128 := ft_t Fu122 Qu128
    exact pc_imp (ft_qj_X13_ruled_244 G (ft_n S Fu128)) (fun _ q => ft_t Fu128 q)
theorem ft_qj_X13_ruled_179 {rc : tq_X13_ruled} {l1 : Int} {s0 : Int} {s1 : Int} {s2 : Int} (G : FSrG_X13_ruled rc) {h : ms_M} (S : ¬ h 160 9 = 0) : Pc (qj_X13_ruled_179 nn rc l1 s0 s1 s2 h) (fun u => FSr h u.2) := by
  have F : FSr h h := ft_r
  unfold qj_X13_ruled_179
  refine pc_sv (ft_qf_X13_typeOf (ft_n S F)) ?_; intro u131 Qu131
  have Fu131 : FSr h u131.2 := ft_t F Qu131
  refine pc_rA ?_; intro _ _ v133 _
  refine pc_se ?_; intro u135 _
  refine pc_if (fun _ => ?_) (fun _ => ?_)
  · exact pc_imp (ft_qj_X13_ruled_209 G (ft_n S Fu131)) (fun _ q => ft_t Fu131 q)
  · refine pc_rA ?_; intro _ _ v137 _
    refine pc_sv (ft_qf_X13_wrong (ft_n S Fu131)) ?_; intro u139 Qu139
    have Fu139 : FSr h u139 := ft_t Fu131 Qu139
    exact pc_imp (ft_qj_X13_ruled_209 G (ft_n S Fu139)) (fun _ q => ft_t Fu139 q)
theorem ft_qj_X13_ruled_140 {rc : tq_X13_ruled} {l2 : Int} {l3 : Int} (G : FSrG_X13_ruled rc) {h : ms_M} (S : ¬ h 160 9 = 0) : Pc (qj_X13_ruled_140 nn rc l2 l3 h) (fun u => FSr h u.2) := by
  have F : FSr h h := ft_r
  unfold qj_X13_ruled_140
  refine pc_xl ?_; intro h141 Eh141
  have Fh141 : FSr h h141 := by rw [Eh141]; exact ft_u F (by omega)
  refine pc_ck (fun _ => ?_)
  exact pc_ret Fh141
theorem ft_qj_X13_ruled_128 {rc : tq_X13_ruled} {l2 : Int} {l3 : Int} {l6 : Int} (G : FSrG_X13_ruled rc) {qkk_88 : Int → Int → Int → ms_M → Option (Int × ms_M)} (Hqkk_88 : ∀ (z0 : Int) (z1 : Int) (z2 : Int) (z3 : ms_M), ¬ z3 160 9 = 0 → Pc (qkk_88 z0 z1 z2 z3) (fun u => FSr z3 u.2)) {h : ms_M} (S : ¬ h 160 9 = 0) : Pc (qj_X13_ruled_128 nn rc qkk_88 l2 l3 l6 h) (fun u => FSr h u.2) := by
  have F : FSr h h := ft_r
  unfold qj_X13_ruled_128
  refine pc_rA ?_; intro _ _ v144 _
  exact pc_imp (Hqkk_88 _ _ _ _ (ft_n S F)) (fun _ q => ft_t F q)
theorem ft_qw_X13_ruled_88 {rc : tq_X13_ruled} (G : FSrG_X13_ruled rc) : ∀ (k : Nat) (l2 : Int) (l3 : Int) (l6 : Int) (h : ms_M), ¬ h 160 9 = 0 → Pc (qw_X13_ruled_88 nn rc k l2 l3 l6 h) (fun u => FSr h u.2) := by
  intro k
  induction k with
  | zero => intros; exact pc_none
  | succ k ih =>
    intro l2 l3 l6 h S
    have F : FSr h h := ft_r
    unfold qw_X13_ruled_88
    refine pc_if (fun _ => ?_) (fun _ => ?_)
    · exact pc_imp (ft_qj_X13_ruled_140 G (ft_n S F)) (fun _ q => ft_t F q)
    · refine pc_if (fun _ => ?_) (fun _ => ?_)
      · exact pc_imp (ft_qj_X13_ruled_140 G (ft_n S F)) (fun _ q => ft_t F q)
      · refine pc_if (fun _ => ?_) (fun _ => ?_)
        · refine pc_sv (G (ft_n S F)) ?_; intro u147 Qu147
          have Fu147 : FSr h u147.2 := ft_t F Qu147
          exact pc_imp (ft_qj_X13_ruled_128 G (fun _ _ _ _ S => ih _ _ _ _ S) (ft_n S Fu147)) (fun _ q => ft_t Fu147 q)
        · refine pc_rA ?_; intro _ _ v149 _
          refine pc_sv (ft_qf_X13_wrong (ft_n S F)) ?_; intro u151 Qu151
          have Fu151 : FSr h u151 := ft_t F Qu151
          exact pc_imp (ft_qj_X13_ruled_128 G (fun _ _ _ _ S => ih _ _ _ _ S) (ft_n S Fu151)) (fun _ q => ft_t Fu151 q)
theorem ft_qo_X13_ruled {rc : tq_X13_ruled} {a1 : Int} (G : FSrG_X13_ruled rc) {h : ms_M} (S : ¬ h 160 9 = 0) : Pc (qo_X13_ruled nn rc a1 h) (fun u => FSr h u.2) := by
  have F : FSr h h := ft_r
  unfold qo_X13_ruled
  refine pc_if (fun _ => ?_) (fun _ => ?_)
  · refine pc_rA ?_; intro _ _ v158 _
    refine pc_if (fun _ => ?_) (fun _ => ?_)
    · refine pc_rA ?_; intro _ _ v176 _
      exact pc_imp (ft_qw_X13_ruled_88 G _ _ _ _ _ (ft_n S F)) (fun _ q => ft_t F q)
    · refine pc_if (fun _ => ?_) (fun _ => ?_)
      · refine pc_rA ?_; intro _ _ v178 _
        refine pc_rA ?_; intro _ _ v180 _
        refine pc_xl ?_; intro v181 _
        refine pc_rA ?_; intro _ _ v183 _
        refine pc_xl ?_; intro v184 _
        refine pc_if (fun _ => ?_) (fun _ => ?_)
        · exact pc_imp (ft_qj_X13_ruled_179 G (ft_n S F)) (fun _ q => ft_t F q)
        · exact pc_imp (ft_qj_X13_ruled_179 G (ft_n S F)) (fun _ q => ft_t F q)
      · refine pc_if (fun _ => ?_) (fun _ => ?_)
        · refine pc_rA ?_; intro _ _ v187 _
          refine pc_sv (ft_qf_X13_condition (ft_n S F)) ?_; intro u189 Qu189
          have Fu189 : FSr h u189 := ft_t F Qu189
          refine pc_rA ?_; intro _ _ v191 _
          refine pc_sv (G (ft_n S Fu189)) ?_; intro u193 Qu193
          have Fu193 : FSr h u193.2 := ft_t Fu189 Qu193
          refine pc_xl ?_; intro h194 Eh194
          have Fh194 : FSr h h194 := by rw [Eh194]; exact ft_u Fu193 (by omega)
          refine pc_rA ?_; intro _ _ v196 _
          refine pc_if (fun _ => ?_) (fun _ => ?_)
          · refine pc_rA ?_; intro _ _ v198 _
            refine pc_sv (G (ft_n S Fh194)) ?_; intro u200 Qu200
            have Fu200 : FSr h u200.2 := ft_t Fh194 Qu200
            refine pc_xl ?_; intro h201 Eh201
            have Fh201 : FSr h h201 := by rw [Eh201]; exact ft_u Fu200 (by omega)
            refine pc_if (fun _ => ?_) (fun _ => ?_)
            · exact pc_ret Fh201
            · refine pc_if (fun _ => ?_) (fun _ => ?_)
              · exact pc_ret Fh201
              · exact pc_ret Fh201
          · exact pc_ret Fh194
        · refine pc_if (fun _ => ?_) (fun _ => ?_)
          · refine pc_rA ?_; intro _ _ v206 _
            refine pc_sv (ft_qf_X13_condition (ft_n S F)) ?_; intro u208 Qu208
            have Fu208 : FSr h u208 := ft_t F Qu208
            refine pc_xl ?_; intro v210 _
            refine pc_xl ?_; intro h211 Eh211
            have Fh211 : FSr h h211 := by rw [Eh211]; exact ft_u Fu208 (by omega)
            refine pc_wZ ?_; intro _ _ h214 Eh214
            have Fh214 : FSr h h214 := by rw [Eh214]; exact ft_u Fh211 (by omega)
            refine pc_rA ?_; intro _ _ v216 _
            refine pc_sv (G (ft_n S Fh214)) ?_; intro u218 Qu218
            have Fu218 : FSr h u218.2 := ft_t Fh214 Qu218
            exact pc_imp (ft_qj_X13_ruled_377 G (ft_n S Fu218)) (fun _ q => ft_t Fu218 q)
          · refine pc_if (fun _ => ?_) (fun _ => ?_)
            · exact pc_imp (ft_qj_X13_ruled_444 G (ft_n S F)) (fun _ q => ft_t F q)
            · refine pc_if (fun _ => ?_) (fun _ => ?_)
              · exact pc_imp (ft_qj_X13_ruled_444 G (ft_n S F)) (fun _ q => ft_t F q)
              · refine pc_if (fun _ => ?_) (fun _ => ?_)
                · refine pc_rA ?_; intro _ _ v220 _
                  refine pc_if (fun _ => ?_) (fun _ => ?_)
                  · exact pc_imp (ft_qj_X13_ruled_503 G (ft_n S F)) (fun _ q => ft_t F q)
                  · exact pc_imp (ft_qj_X13_ruled_503 G (ft_n S F)) (fun _ q => ft_t F q)
                · refine pc_if (fun _ => ?_) (fun _ => ?_)
                  · refine pc_rA ?_; intro _ _ v223 _
                    refine pc_sv (ft_qf_X13_given (ft_n S F)) ?_; intro u225 Qu225
                    have Fu225 : FSr h u225.2 := ft_t F Qu225
                    refine pc_se ?_; intro u226 _
                    refine pc_if (fun _ => ?_) (fun _ => ?_)
                    · exact pc_imp (ft_qj_X13_ruled_617 G (ft_n S Fu225)) (fun _ q => ft_t Fu225 q)
                    · refine pc_se ?_; intro u228 _
                      refine pc_if (fun _ => ?_) (fun _ => ?_)
                      · exact pc_ret Fu225
                      · exact pc_imp (ft_qj_X13_ruled_617 G (ft_n S Fu225)) (fun _ q => ft_t Fu225 q)
                  · refine pc_if (fun _ => ?_) (fun _ => ?_)
                    · refine pc_rA ?_; intro _ _ v232 _
                      refine pc_sv (G (ft_n S F)) ?_; intro u234 Qu234
                      have Fu234 : FSr h u234.2 := ft_t F Qu234
                      refine pc_rA ?_; intro _ _ v236 _
                      refine pc_sv (ft_qf_X13_typeOf (ft_n S Fu234)) ?_; intro u238 Qu238
                      have Fu238 : FSr h u238.2 := ft_t Fu234 Qu238
                      refine pc_se ?_; intro u240 _
                      refine pc_if (fun _ => ?_) (fun _ => ?_)
                      · exact pc_imp (ft_qj_X13_ruled_679 G (ft_n S Fu238)) (fun _ q => ft_t Fu238 q)
                      · refine pc_rA ?_; intro _ _ v242 _
                        refine pc_sv (ft_qf_X13_wrong (ft_n S Fu238)) ?_; intro u244 Qu244
                        have Fu244 : FSr h u244 := ft_t Fu238 Qu244
                        exact pc_imp (ft_qj_X13_ruled_679 G (ft_n S Fu244)) (fun _ q => ft_t Fu244 q)
                    · refine pc_if (fun _ => ?_) (fun _ => ?_)
                      · refine pc_rA ?_; intro _ _ v247 _
                        refine pc_sv (ft_qf_X13_given (ft_n S F)) ?_; intro u249 Qu249
                        have Fu249 : FSr h u249.2 := ft_t F Qu249
                        refine pc_if (fun _ => ?_) (fun _ => ?_)
                        · exact pc_ret Fu249
                        · refine pc_rA ?_; intro _ _ v251 _
                          refine pc_sv (ft_qf_X13_wrong (ft_n S Fu249)) ?_; intro u253 Qu253
                          have Fu253 : FSr h u253 := ft_t Fu249 Qu253
                          exact pc_ret Fu253
                      · refine pc_if (fun _ => ?_) (fun _ => ?_)
                        · refine pc_rA ?_; intro _ _ v258 _
                          refine pc_rA ?_; intro _ _ v259 _
                          refine pc_if (fun _ => ?_) (fun _ => ?_)
                          · refine pc_rA ?_; intro _ _ v261 _
                            refine pc_sv (ft_qf_X13_worked (ft_n S F)) ?_; intro u263 Qu263
                            have Fu263 : FSr h u263.2 := ft_t F Qu263
                            exact pc_imp (ft_qj_X13_ruled_840 G (ft_n S Fu263)) (fun _ q => ft_t Fu263 q)
                          · refine pc_rA ?_; intro _ _ v265 _
                            refine pc_sv (ft_qf_X13_given (ft_n S F)) ?_; intro u267 Qu267
                            have Fu267 : FSr h u267.2 := ft_t F Qu267
                            exact pc_imp (ft_qj_X13_ruled_840 G (ft_n S Fu267)) (fun _ q => ft_t Fu267 q)
                        · refine pc_rA ?_; intro _ _ v160 _
                          refine pc_sv (ft_qf_X13_given (ft_n S F)) ?_; intro u162 Qu162
                          have Fu162 : FSr h u162.2 := ft_t F Qu162
                          refine pc_rA ?_; intro _ _ v164 _
                          refine pc_sv (ft_qf_X13_given (ft_n S Fu162)) ?_; intro u166 Qu166
                          have Fu166 : FSr h u166.2 := ft_t Fu162 Qu166
                          refine pc_rA ?_; intro _ _ v168 _
                          refine pc_se ?_; intro u170 _
                          refine pc_if (fun _ => ?_) (fun _ => ?_)
                          · exact pc_imp (ft_qj_X13_ruled_954 G (ft_n S Fu166)) (fun _ q => ft_t Fu166 q)
                          · refine pc_se ?_; intro u172 _
                            refine pc_if (fun _ => ?_) (fun _ => ?_)
                            · exact pc_ret Fu166
                            · exact pc_imp (ft_qj_X13_ruled_954 G (ft_n S Fu166)) (fun _ q => ft_t Fu166 q)
  · exact pc_ret F
theorem ftg_X13_ruled (nn : Nat) : ∀ d, FSrG_X13_ruled (qg_X13_ruled nn d) := by
  intro d
  induction d with
  | zero => exact fun _ => pc_none
  | succ d ih => exact fun S => ft_qo_X13_ruled (nn := nn) ih S
theorem ft_qf_X13_ruled {a1 : Int} {h : ms_M} (S : ¬ h 160 9 = 0) : Pc (qf_X13_ruled nn a1 h) (fun u => FSr h u.2) := (ftg_X13_ruled nn 200) S
theorem ft_qw_X13_bodies_83 {qkk_2 : Int → ms_M → Option ms_M} (Hqkk_2 : ∀ (z0 : Int) (z1 : ms_M), ¬ z1 160 9 = 0 → Pc (qkk_2 z0 z1) (fun u => FSr z1 u)) : ∀ (k : Nat) (l1 : Int) (l2 : Int) (h : ms_M), ¬ h 160 9 = 0 → Pc (qw_X13_bodies_83 nn qkk_2 k l1 l2 h) (fun u => FSr h u) := by
  intro k
  induction k with
  | zero => intros; exact pc_none
  | succ k ih =>
    intro l1 l2 h S
    have F : FSr h h := ft_r
    unfold qw_X13_bodies_83
    refine pc_rA ?_; intro _ _ v2 _
    refine pc_if (fun _ => ?_) (fun _ => ?_)
    · refine pc_rA ?_; intro _ _ v4 _
      refine pc_sv (ft_qf_X13_ruled (ft_n S F)) ?_; intro u6 Qu6
      have Fu6 : FSr h u6.2 := ft_t F Qu6
      refine pc_if (fun _ => ?_) (fun _ => ?_)
      · refine pc_xl ?_; intro v7 _
        exact pc_imp (Hqkk_2 _ _ (ft_n S Fu6)) (fun _ q => ft_t Fu6 q)
      · refine pc_rA ?_; intro _ _ v9 _
        refine pc_if (fun _ => ?_) (fun _ => ?_)
        · refine pc_xl ?_; intro v10 _
          exact pc_imp (Hqkk_2 _ _ (ft_n S Fu6)) (fun _ q => ft_t Fu6 q)
        · refine pc_rA ?_; intro _ _ v12 _
          refine pc_sv (ft_qf_X13_wrong (ft_n S Fu6)) ?_; intro u14 Qu14
          have Fu14 : FSr h u14 := ft_t Fu6 Qu14
          refine pc_xl ?_; intro v15 _
          exact pc_imp (Hqkk_2 _ _ (ft_n S Fu14)) (fun _ q => ft_t Fu14 q)
    · refine pc_rA ?_; intro _ _ v20 _
      refine pc_xl ?_; intro v21 _
      refine pc_rA ?_; intro _ _ v22 _
      refine pc_rA ?_; intro _ _ v25 _
      refine pc_xl ?_; intro v26 _
      refine pc_rA ?_; intro _ _ v27 _
      refine pc_sv (ft_qf_X13_come (ft_n S F)) ?_; intro u29 Qu29
      have Fu29 : FSr h u29 := ft_t F Qu29
      refine pc_xl ?_; intro v30 _
      exact pc_imp (ih _ _ _ (ft_n S Fu29)) (fun _ q => ft_t Fu29 q)
theorem ft_qj_X13_bodies_63 {l1 : Int} {s0 : Int} {qkk_2 : Int → ms_M → Option ms_M} (Hqkk_2 : ∀ (z0 : Int) (z1 : ms_M), ¬ z1 160 9 = 0 → Pc (qkk_2 z0 z1) (fun u => FSr z1 u)) {h : ms_M} (S : ¬ h 160 9 = 0) : Pc (qj_X13_bodies_63 nn qkk_2 l1 s0 h) (fun u => FSr h u) := by
  have F : FSr h h := ft_r
  unfold qj_X13_bodies_63
  refine pc_ck (fun _ => ?_)
  refine pc_xl ?_; intro h33 Eh33
  have Fh33 : FSr h h33 := by rw [Eh33]; exact ft_u F (by omega)
  refine pc_xl ?_; intro h34 Eh34
  have Fh34 : FSr h h34 := by rw [Eh34]; exact ft_u Fh33 (by omega)
  refine pc_xl ?_; intro h35 Eh35
  have Fh35 : FSr h h35 := by rw [Eh35]; exact ft_u Fh34 (by omega)
  refine pc_xl ?_; intro h36 Eh36
  have Fh36 : FSr h h36 := by rw [Eh36]; exact ft_u Fh35 (by omega)
  exact pc_imp (ft_qw_X13_bodies_83 Hqkk_2 _ _ _ _ (ft_n S Fh36)) (fun _ q => ft_t Fh36 q)
theorem ft_qw_X13_bodies_2 : ∀ (k : Nat) (l1 : Int) (h : ms_M), ¬ h 160 9 = 0 → Pc (qw_X13_bodies_2 nn k l1 h) (fun u => FSr h u) := by
  intro k
  induction k with
  | zero => intros; exact pc_none
  | succ k ih =>
    intro l1 h S
    have F : FSr h h := ft_r
    unfold qw_X13_bodies_2
    refine pc_if (fun _ => ?_) (fun _ => ?_)
    · exact pc_ret F
    · refine pc_if (fun _ => ?_) (fun _ => ?_)
      · exact pc_ret F
      · refine pc_rA ?_; intro _ _ v40 _
        refine pc_if (fun _ => ?_) (fun _ => ?_)
        · refine pc_xl ?_; intro h41 Eh41
          have Fh41 : FSr h h41 := by rw [Eh41]; exact ft_u F (by omega)
          refine pc_rA ?_; intro _ _ v43 _
          refine pc_xl ?_; intro v44 _
          refine pc_xl ?_; intro h45 Eh45
          have Fh45 : FSr h h45 := by rw [Eh45]; exact ft_u Fh41 (by omega)
          refine pc_rA ?_; intro _ _ v47 _
          refine pc_if (fun _ => ?_) (fun _ => ?_)
          · exact pc_imp (ft_qj_X13_bodies_63 (fun _ _ S => ih _ _ S) (ft_n S Fh45)) (fun _ q => ft_t Fh45 q)
          · exact pc_imp (ft_qj_X13_bodies_63 (fun _ _ S => ih _ _ S) (ft_n S Fh45)) (fun _ q => ft_t Fh45 q)
        · refine pc_xl ?_; intro v49 _
          exact pc_imp (ih _ _ (ft_n S F)) (fun _ q => ft_t F q)
theorem ft_qf_X13_bodies {h : ms_M} (S : ¬ h 160 9 = 0) : Pc (qf_X13_bodies nn h) (fun u => FSr h u) := by
  have F : FSr h h := ft_r
  unfold qf_X13_bodies
  exact pc_imp (ft_qw_X13_bodies_2 _ _ _ (ft_n S F)) (fun _ q => ft_t F q)
end
