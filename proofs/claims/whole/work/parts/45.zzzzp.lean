section
/- a pool that is over stays so -/
def F5c (h r : ms_M) : Prop := r 45 5 = h 45 5 ∧ r 45 5 = h 45 5
section
variable {nn : Nat} {h g r : ms_M}
theorem f5_r : F5c h h := ⟨rfl, rfl⟩
theorem f5_t (A : F5c h g) (B : F5c g r) : F5c h r := ⟨B.1.trans A.1, B.2.trans A.2⟩
theorem f5_n (S : h 45 5 = 1) (F : F5c h g) : g 45 5 = 1 := by rw [F.1]; exact S
theorem f5_u {c k : Nat} {v : Int} (F : F5c h g) (q : ¬ c = 45 ∨ k < 5 ∨ 5 < k) : F5c h (up_M g c k v) := ⟨by rw [up_n (by omega)]; exact F.1, by rw [up_n (by omega)]; exact F.2⟩
theorem f5_c {a b sp dp n : Nat} (F : F5c h g) (q : ¬ 45 = b) : F5c h (cp_M g a sp b dp n) := ⟨by rw [cp_ne q]; exact F.1, by rw [cp_ne q]; exact F.2⟩
theorem f5_qf_X6_constant {a1 a2 : Int} {h : ms_M} (S : h 45 5 = 1) : Pc (qf_X6_constant nn a1 a2 h) (fun u => F5c h u.2) := fun u e => ⟨(c_k5 u e S).trans S.symm, (c_k5 u e S).trans S.symm⟩
def F5cG_X10_readValue (rc : tq_X10_readValue) : Prop := (∀ {a1 : Int} {h : ms_M}, h 45 5 = 1 → Pc (rc.1 a1 h) (fun u => F5c h u)) ∧ (∀ {a1 : Int} {a2 : Int} {h : ms_M}, h 45 5 = 1 → Pc (rc.2.1 a1 a2 h) (fun u => F5c h u)) ∧ (∀ {a1 : Int} {h : ms_M}, h 45 5 = 1 → Pc (rc.2.2.1 a1 h) (fun u => F5c h u)) ∧ (∀ {a1 : Int} {h : ms_M}, h 45 5 = 1 → Pc (rc.2.2.2.1 a1 h) (fun u => F5c h u)) ∧ (∀ {a1 : Int} {h : ms_M}, h 45 5 = 1 → Pc (rc.2.2.2.2.1 a1 h) (fun u => F5c h u)) ∧ (∀ {a1 : Int} {h : ms_M}, h 45 5 = 1 → Pc (rc.2.2.2.2.2.1 a1 h) (fun u => F5c h u)) ∧ (∀ {a1 : Int} {h : ms_M}, h 45 5 = 1 → Pc (rc.2.2.2.2.2.2.1 a1 h) (fun u => F5c h u)) ∧ (∀ {a1 : Int} {a2 : Int} {h : ms_M}, h 45 5 = 1 → Pc (rc.2.2.2.2.2.2.2.1 a1 a2 h) (fun u => F5c h u)) ∧ (∀ {a1 : Int} {a2 : Int} {a3 : Int} {a4 : Int} {a5 : Int} {a6 : Int} {h : ms_M}, h 45 5 = 1 → Pc (rc.2.2.2.2.2.2.2.2 a1 a2 a3 a4 a5 a6 h) (fun u => F5c h u))
theorem f5_qf_X6_classOf {a1 : Int} {h : ms_M} (S : h 45 5 = 1) : Pc (qf_X6_classOf nn a1 h) (fun u => F5c h u.2) := by
  have F : F5c h h := f5_r
  unfold qf_X6_classOf
  refine pc_se ?_; intro u3 _
  refine pc_sv (f5_qf_X6_constant (f5_n S F)) ?_; intro u5 Qu5
  have Fu5 : F5c h u5.2 := f5_t F Qu5
  refine pc_sv (f5_qf_X6_constant (f5_n S Fu5)) ?_; intro u7 Qu7
  have Fu7 : F5c h u7.2 := f5_t Fu5 Qu7
  exact pc_ret Fu7
theorem f5_qf_X9_tell {a1 : Int} {a2 : Int} {h : ms_M} (S : h 45 5 = 1) : Pc (qf_X9_tell nn a1 a2 h) (fun u => F5c h u) := fun u e => ⟨ff_X9_tell nn u e 45 5 rfl, ff_X9_tell nn u e 45 5 rfl⟩
theorem f5_qf_X10_wantType {a1 : Int} {a2 : Int} {h : ms_M} (S : h 45 5 = 1) : Pc (qf_X10_wantType nn a1 a2 h) (fun u => F5c h u) := fun u e => ⟨ff_X10_wantType nn u e 45 5 rfl, ff_X10_wantType nn u e 45 5 rfl⟩
theorem f5_qf_X1_aimHere {a1 : Int} {h : ms_M} (S : h 45 5 = 1) : Pc (qf_X1_aimHere nn a1 h) (fun u => F5c h u) := fun u e => ⟨ff_X1_aimHere nn u e 45 5 rfl, ff_X1_aimHere nn u e 45 5 rfl⟩
theorem f5_qf_X1_op {a1 : Int} {h : ms_M} (S : h 45 5 = 1) : Pc (qf_X1_op nn a1 h) (fun u => F5c h u) := fun u e => ⟨ff_X1_op nn u e 45 5 rfl, ff_X1_op nn u e 45 5 rfl⟩
theorem f5_qf_X1_pop {a1 : Int} {h : ms_M} (S : h 45 5 = 1) : Pc (qf_X1_pop nn a1 h) (fun u => F5c h u) := fun u e => ⟨ff_X1_pop nn u e 45 5 rfl, ff_X1_pop nn u e 45 5 rfl⟩
theorem f5_qf_X1_jump {a1 : Int} {a2 : Int} {h : ms_M} (S : h 45 5 = 1) : Pc (qf_X1_jump nn a1 a2 h) (fun u => F5c h u.2) := fun u e => ⟨ff_X1_jump nn u e 45 5 rfl, ff_X1_jump nn u e 45 5 rfl⟩
theorem f5_qf_X1_push {a1 : Int} {h : ms_M} (S : h 45 5 = 1) : Pc (qf_X1_push nn a1 h) (fun u => F5c h u) := fun u e => ⟨ff_X1_push nn u e 45 5 rfl, ff_X1_push nn u e 45 5 rfl⟩
theorem f5_qf_X10_closeSign {h : ms_M} (S : h 45 5 = 1) : Pc (qf_X10_closeSign nn h) (fun u => F5c h u) := fun u e => ⟨ff_X10_closeSign nn u e 45 5 rfl, ff_X10_closeSign nn u e 45 5 rfl⟩
theorem f5_qf_X10_openSign {h : ms_M} (S : h 45 5 = 1) : Pc (qf_X10_openSign nn h) (fun u => F5c h u) := fun u e => ⟨ff_X10_openSign nn u e 45 5 rfl, ff_X10_openSign nn u e 45 5 rfl⟩
theorem f5_qf_X10_readNamedClass {a1 : Int} {a2 : Int} {h : ms_M} (S : h 45 5 = 1) : Pc (qf_X10_readNamedClass nn a1 a2 h) (fun u => F5c h u.2) := fun u e => ⟨ff_X10_readNamedClass nn u e 45 5 rfl, ff_X10_readNamedClass nn u e 45 5 rfl⟩
theorem f5_qf_X10_wantKinOf {a1 : Int} {a2 : Int} {h : ms_M} (S : h 45 5 = 1) : Pc (qf_X10_wantKinOf nn a1 a2 h) (fun u => F5c h u) := fun u e => ⟨ff_X10_wantKinOf nn u e 45 5 rfl, ff_X10_wantKinOf nn u e 45 5 rfl⟩
theorem f5_qf_X1_op_ {a1 : Int} {a2 : Int} {h : ms_M} (S : h 45 5 = 1) : Pc (qf_X1_op_ nn a1 a2 h) (fun u => F5c h u) := fun u e => ⟨ff_X1_op_ nn u e 45 5 rfl, ff_X1_op_ nn u e 45 5 rfl⟩
theorem f5_qj_X10_readInstanceof_66 {h : ms_M} (S : h 45 5 = 1) : Pc (qj_X10_readInstanceof_66 nn h) (fun u => F5c h u) := by
  have F : F5c h h := f5_r
  unfold qj_X10_readInstanceof_66
  refine pc_xl ?_; intro h1 Eh1
  have Fh1 : F5c h h1 := by rw [Eh1]; exact f5_u F (by omega)
  refine pc_xl ?_; intro h2 Eh2
  have Fh2 : F5c h h2 := by rw [Eh2]; exact f5_u Fh1 (by omega)
  exact pc_ret Fh2
theorem f5_qf_X10_readInstanceof {h : ms_M} (S : h 45 5 = 1) : Pc (qf_X10_readInstanceof nn h) (fun u => F5c h u) := by
  have F : F5c h h := f5_r
  unfold qf_X10_readInstanceof
  refine pc_xl ?_; intro v5 _
  refine pc_xl ?_; intro v6 _
  refine pc_sv (f5_qf_X10_readNamedClass (f5_n S F)) ?_; intro u8 Qu8
  have Fu8 : F5c h u8.2 := f5_t F Qu8
  refine pc_if (fun _ => ?_) (fun _ => ?_)
  · exact pc_imp (f5_qj_X10_readInstanceof_66 (f5_n S Fu8)) (fun _ q => f5_t Fu8 q)
  · refine pc_sv (f5_qf_X10_wantKinOf (f5_n S Fu8)) ?_; intro u10 Qu10
    have Fu10 : F5c h u10 := f5_t Fu8 Qu10
    refine pc_sv (f5_qf_X6_classOf (f5_n S Fu10)) ?_; intro u14 Qu14
    have Fu14 : F5c h u14.2 := f5_t Fu10 Qu14
    refine pc_sv (f5_qf_X1_op_ (f5_n S Fu14)) ?_; intro u16 Qu16
    have Fu16 : F5c h u16 := f5_t Fu14 Qu16
    refine pc_sv (f5_qf_X1_pop (f5_n S Fu16)) ?_; intro u19 Qu19
    have Fu19 : F5c h u19 := f5_t Fu16 Qu19
    refine pc_sv (f5_qf_X1_push (f5_n S Fu19)) ?_; intro u22 Qu22
    have Fu22 : F5c h u22 := f5_t Fu19 Qu22
    exact pc_imp (f5_qj_X10_readInstanceof_66 (f5_n S Fu22)) (fun _ q => f5_t Fu22 q)
theorem f5_qf_X10_closeCast {a1 : Int} {a2 : Int} {h : ms_M} (S : h 45 5 = 1) : Pc (qf_X10_closeCast nn a1 a2 h) (fun u => F5c h u) := by
  have F : F5c h h := f5_r
  unfold qf_X10_closeCast
  refine pc_xl ?_; intro h1 Eh1
  have Fh1 : F5c h h1 := by rw [Eh1]; exact f5_u F (by omega)
  refine pc_if (fun _ => ?_) (fun _ => ?_)
  · refine pc_sv (f5_qf_X10_wantKinOf (f5_n S Fh1)) ?_; intro u3 Qu3
    have Fu3 : F5c h u3 := f5_t Fh1 Qu3
    refine pc_sv (f5_qf_X6_classOf (f5_n S Fu3)) ?_; intro u7 Qu7
    have Fu7 : F5c h u7.2 := f5_t Fu3 Qu7
    refine pc_sv (f5_qf_X1_op_ (f5_n S Fu7)) ?_; intro u9 Qu9
    have Fu9 : F5c h u9 := f5_t Fu7 Qu9
    refine pc_sv (f5_qf_X1_pop (f5_n S Fu9)) ?_; intro u12 Qu12
    have Fu12 : F5c h u12 := f5_t Fu9 Qu12
    refine pc_sv (f5_qf_X1_push (f5_n S Fu12)) ?_; intro u15 Qu15
    have Fu15 : F5c h u15 := f5_t Fu12 Qu15
    refine pc_xl ?_; intro h16 Eh16
    have Fh16 : F5c h h16 := by rw [Eh16]; exact f5_u Fu15 (by omega)
    exact pc_ret Fh16
  · exact pc_ret Fh1
theorem f5_qf_X10_closeUnary {a1 : Int} {a2 : Int} {h : ms_M} (S : h 45 5 = 1) : Pc (qf_X10_closeUnary nn a1 a2 h) (fun u => F5c h u) := fun u e => ⟨ff_X10_closeUnary nn u e 45 5 rfl, ff_X10_closeUnary nn u e 45 5 rfl⟩
theorem f5_qf_X6_fieldOf {a1 : Int} {a2 : Int} {h : ms_M} (S : h 45 5 = 1) : Pc (qf_X6_fieldOf nn a1 a2 h) (fun u => F5c h u.2) := by
  have F : F5c h h := f5_r
  unfold qf_X6_fieldOf
  refine pc_sv (f5_qf_X6_classOf (f5_n S F)) ?_; intro u2 Qu2
  have Fu2 : F5c h u2.2 := f5_t F Qu2
  refine pc_se ?_; intro u5 _
  refine pc_sv (f5_qf_X6_constant (f5_n S Fu2)) ?_; intro u7 Qu7
  have Fu7 : F5c h u7.2 := f5_t Fu2 Qu7
  refine pc_xl ?_; intro v8 _
  refine pc_xl ?_; intro v9 _
  refine pc_xl ?_; intro v10 _
  refine pc_se ?_; intro u13 _
  refine pc_sv (f5_qf_X6_constant (f5_n S Fu7)) ?_; intro u15 Qu15
  have Fu15 : F5c h u15.2 := f5_t Fu7 Qu15
  refine pc_xl ?_; intro v16 _
  refine pc_sv (f5_qf_X6_constant (f5_n S Fu15)) ?_; intro u18 Qu18
  have Fu18 : F5c h u18.2 := f5_t Fu15 Qu18
  exact pc_ret Fu18
theorem f5_qj_X10_fetch_135 {h : ms_M} (S : h 45 5 = 1) : Pc (qj_X10_fetch_135 nn h) (fun u => F5c h u) := by
  have F : F5c h h := f5_r
  unfold qj_X10_fetch_135
  refine pc_sv (f5_qf_X1_push (f5_n S F)) ?_; intro u4 Qu4
  have Fu4 : F5c h u4 := f5_t F Qu4
  refine pc_xl ?_; intro h5 Eh5
  have Fh5 : F5c h h5 := by rw [Eh5]; exact f5_u Fu4 (by omega)
  exact pc_ret Fh5
theorem f5_qj_X10_fetch_120 {s0 : Int} {h : ms_M} (S : h 45 5 = 1) : Pc (qj_X10_fetch_120 nn s0 h) (fun u => F5c h u) := by
  have F : F5c h h := f5_r
  unfold qj_X10_fetch_120
  refine pc_sv (f5_qf_X1_op (f5_n S F)) ?_; intro u7 Qu7
  have Fu7 : F5c h u7 := f5_t F Qu7
  refine pc_sv (f5_qf_X1_pop (f5_n S Fu7)) ?_; intro u10 Qu10
  have Fu10 : F5c h u10 := f5_t Fu7 Qu10
  exact pc_imp (f5_qj_X10_fetch_135 (f5_n S Fu10)) (fun _ q => f5_t Fu10 q)
theorem f5_qj_X10_fetch_53 {s0 : Int} {h : ms_M} (S : h 45 5 = 1) : Pc (qj_X10_fetch_53 nn s0 h) (fun u => F5c h u) := by
  have F : F5c h h := f5_r
  unfold qj_X10_fetch_53
  refine pc_sv (f5_qf_X1_op_ (f5_n S F)) ?_; intro u13 Qu13
  have Fu13 : F5c h u13 := f5_t F Qu13
  exact pc_imp (f5_qj_X10_fetch_135 (f5_n S Fu13)) (fun _ q => f5_t Fu13 q)
theorem f5_qf_X10_fetch {h : ms_M} (S : h 45 5 = 1) : Pc (qf_X10_fetch nn h) (fun u => F5c h u) := by
  have F : F5c h h := f5_r
  unfold qf_X10_fetch
  refine pc_if (fun _ => ?_) (fun _ => ?_)
  · refine pc_se ?_; intro u17 _
    refine pc_if (fun _ => ?_) (fun _ => ?_)
    · exact pc_imp (f5_qj_X10_fetch_53 (f5_n S F)) (fun _ q => f5_t F q)
    · exact pc_imp (f5_qj_X10_fetch_53 (f5_n S F)) (fun _ q => f5_t F q)
  · refine pc_if (fun _ => ?_) (fun _ => ?_)
    · refine pc_sv (f5_qf_X6_fieldOf (f5_n S F)) ?_; intro u24 Qu24
      have Fu24 : F5c h u24.2 := f5_t F Qu24
      refine pc_sv (f5_qf_X1_op_ (f5_n S Fu24)) ?_; intro u26 Qu26
      have Fu26 : F5c h u26 := f5_t Fu24 Qu26
      refine pc_sv (f5_qf_X1_pop (f5_n S Fu26)) ?_; intro u29 Qu29
      have Fu29 : F5c h u29 := f5_t Fu26 Qu29
      exact pc_imp (f5_qj_X10_fetch_135 (f5_n S Fu29)) (fun _ q => f5_t Fu29 q)
    · refine pc_if (fun _ => ?_) (fun _ => ?_)
      · refine pc_if (fun _ => ?_) (fun _ => ?_)
        · exact pc_imp (f5_qj_X10_fetch_120 (f5_n S F)) (fun _ q => f5_t F q)
        · exact pc_imp (f5_qj_X10_fetch_120 (f5_n S F)) (fun _ q => f5_t F q)
      · exact pc_ret F
theorem f5_qf_X10_give {a1 : Int} {h : ms_M} (S : h 45 5 = 1) : Pc (qf_X10_give nn a1 h) (fun u => F5c h u) := fun u e => ⟨ff_X10_give nn u e 45 5 rfl, ff_X10_give nn u e 45 5 rfl⟩
theorem f5_qf_X10_nameField {a1 : Int} {a2 : Int} {h : ms_M} (S : h 45 5 = 1) : Pc (qf_X10_nameField nn a1 a2 h) (fun u => F5c h u) := fun u e => ⟨ff_X10_nameField nn u e 45 5 rfl, ff_X10_nameField nn u e 45 5 rfl⟩
theorem f5_qf_X10_closeCall {a1 : Int} {a2 : Int} {a3 : Int} {h : ms_M} (S : h 45 5 = 1) : Pc (qf_X10_closeCall nn a1 a2 a3 h) (fun u => F5c h u) := fun u e => ⟨ff_X10_closeCall nn u e 45 5 rfl, ff_X10_closeCall nn u e 45 5 rfl⟩
theorem f5_qf_X6_methodOf {a1 : Int} {a2 : Int} {h : ms_M} (S : h 45 5 = 1) : Pc (qf_X6_methodOf nn a1 a2 h) (fun u => F5c h u.2) := by
  have F : F5c h h := f5_r
  unfold qf_X6_methodOf
  refine pc_sv (f5_qf_X6_classOf (f5_n S F)) ?_; intro u2 Qu2
  have Fu2 : F5c h u2.2 := f5_t F Qu2
  refine pc_se ?_; intro u5 _
  refine pc_sv (f5_qf_X6_constant (f5_n S Fu2)) ?_; intro u7 Qu7
  have Fu7 : F5c h u7.2 := f5_t Fu2 Qu7
  refine pc_xl ?_; intro v8 _
  refine pc_xl ?_; intro v9 _
  refine pc_xl ?_; intro v10 _
  refine pc_se ?_; intro u13 _
  refine pc_sv (f5_qf_X6_constant (f5_n S Fu7)) ?_; intro u15 Qu15
  have Fu15 : F5c h u15.2 := f5_t Fu7 Qu15
  refine pc_xl ?_; intro v16 _
  refine pc_sv (f5_qf_X6_constant (f5_n S Fu15)) ?_; intro u18 Qu18
  have Fu18 : F5c h u18.2 := f5_t Fu15 Qu18
  exact pc_ret Fu18
theorem f5_qf_X10_giveThis {a1 : Int} {h : ms_M} (S : h 45 5 = 1) : Pc (qf_X10_giveThis nn a1 h) (fun u => F5c h u) := fun u e => ⟨ff_X10_giveThis nn u e 45 5 rfl, ff_X10_giveThis nn u e 45 5 rfl⟩
theorem f5_qf_X6_numberOf {a1 : Int} {h : ms_M} (S : h 45 5 = 1) : Pc (qf_X6_numberOf nn a1 h) (fun u => F5c h u.2) := by
  have F : F5c h h := f5_r
  unfold qf_X6_numberOf
  refine pc_sv (f5_qf_X6_constant (f5_n S F)) ?_; intro u2 Qu2
  have Fu2 : F5c h u2.2 := f5_t F Qu2
  exact pc_ret Fu2
theorem f5_qj_X10_readNumber_54 {h : ms_M} (S : h 45 5 = 1) : Pc (qj_X10_readNumber_54 nn h) (fun u => F5c h u) := by
  have F : F5c h h := f5_r
  unfold qj_X10_readNumber_54
  refine pc_sv (f5_qf_X10_give (f5_n S F)) ?_; intro u2 Qu2
  have Fu2 : F5c h u2 := f5_t F Qu2
  exact pc_ret Fu2
theorem f5_qf_X10_readNumber {a1 : Int} {h : ms_M} (S : h 45 5 = 1) : Pc (qf_X10_readNumber nn a1 h) (fun u => F5c h u) := by
  have F : F5c h h := f5_r
  unfold qf_X10_readNumber
  refine pc_if (fun _ => ?_) (fun _ => ?_)
  · refine pc_if (fun _ => ?_) (fun _ => ?_)
    · refine pc_sv (f5_qf_X6_numberOf (f5_n S F)) ?_; intro u6 Qu6
      have Fu6 : F5c h u6.2 := f5_t F Qu6
      refine pc_sv (f5_qf_X1_op_ (f5_n S Fu6)) ?_; intro u8 Qu8
      have Fu8 : F5c h u8 := f5_t Fu6 Qu8
      exact pc_imp (f5_qj_X10_readNumber_54 (f5_n S Fu8)) (fun _ q => f5_t Fu8 q)
    · refine pc_sv (f5_qf_X1_op_ (f5_n S F)) ?_; intro u11 Qu11
      have Fu11 : F5c h u11 := f5_t F Qu11
      exact pc_imp (f5_qj_X10_readNumber_54 (f5_n S Fu11)) (fun _ q => f5_t Fu11 q)
  · refine pc_xl ?_; intro v14 _
    refine pc_sv (f5_qf_X1_op (f5_n S F)) ?_; intro u16 Qu16
    have Fu16 : F5c h u16 := f5_t F Qu16
    exact pc_imp (f5_qj_X10_readNumber_54 (f5_n S Fu16)) (fun _ q => f5_t Fu16 q)
theorem f5_qf_X10_readConstant {h : ms_M} (S : h 45 5 = 1) : Pc (qf_X10_readConstant nn h) (fun u => F5c h u) := by
  have F : F5c h h := f5_r
  unfold qf_X10_readConstant
  refine pc_xl ?_; intro v5 _
  refine pc_xl ?_; intro h6 Eh6
  have Fh6 : F5c h h6 := by rw [Eh6]; exact f5_u F (by omega)
  refine pc_se ?_; intro u9 _
  refine pc_if (fun _ => ?_) (fun _ => ?_)
  · refine pc_se ?_; intro u14 _
    refine pc_sv (f5_qf_X10_readNumber (f5_n S Fh6)) ?_; intro u16 Qu16
    have Fu16 : F5c h u16 := f5_t Fh6 Qu16
    exact pc_ret Fu16
  · refine pc_if (fun _ => ?_) (fun _ => ?_)
    · refine pc_sv (f5_qf_X1_op (f5_n S Fh6)) ?_; intro u19 Qu19
      have Fu19 : F5c h u19 := f5_t Fh6 Qu19
      refine pc_sv (f5_qf_X10_give (f5_n S Fu19)) ?_; intro u21 Qu21
      have Fu21 : F5c h u21 := f5_t Fu19 Qu21
      exact pc_ret Fu21
    · refine pc_if (fun _ => ?_) (fun _ => ?_)
      · refine pc_sv (f5_qf_X1_op (f5_n S Fh6)) ?_; intro u24 Qu24
        have Fu24 : F5c h u24 := f5_t Fh6 Qu24
        refine pc_sv (f5_qf_X10_give (f5_n S Fu24)) ?_; intro u26 Qu26
        have Fu26 : F5c h u26 := f5_t Fu24 Qu26
        exact pc_ret Fu26
      · refine pc_if (fun _ => ?_) (fun _ => ?_)
        · refine pc_sv (f5_qf_X1_op (f5_n S Fh6)) ?_; intro u29 Qu29
          have Fu29 : F5c h u29 := f5_t Fh6 Qu29
          refine pc_sv (f5_qf_X10_give (f5_n S Fu29)) ?_; intro u31 Qu31
          have Fu31 : F5c h u31 := f5_t Fu29 Qu31
          exact pc_ret Fu31
        · refine pc_sv (f5_qf_X10_giveThis (f5_n S Fh6)) ?_; intro u11 Qu11
          have Fu11 : F5c h u11 := f5_t Fh6 Qu11
          exact pc_ret Fu11
theorem f5_qf_X10_methodNamed {a1 : Int} {a2 : Int} {h : ms_M} (S : h 45 5 = 1) : Pc (qf_X10_methodNamed nn a1 a2 h) (fun u => F5c h u.2) := fun u e => ⟨ff_X10_methodNamed nn u e 45 5 rfl, ff_X10_methodNamed nn u e 45 5 rfl⟩
theorem f5_qj_X10_readValue_156 {rc : tq_X10_readValue} {l1 : Int} {l2 : Int} (G : F5cG_X10_readValue rc) {h : ms_M} (S : h 45 5 = 1) : Pc (qj_X10_readValue_156 nn rc l1 l2 h) (fun u => F5c h u) := by
  have F : F5c h h := f5_r
  unfold qj_X10_readValue_156
  refine pc_se ?_; intro u3 _
  refine pc_if (fun _ => ?_) (fun _ => ?_)
  · exact pc_ret F
  · refine pc_sv (G.2.1 (f5_n S F)) ?_; intro u5 Qu5
    have Fu5 : F5c h u5 := f5_t F Qu5
    exact pc_ret Fu5
theorem f5_qw_X10_readValue_129 {rc : tq_X10_readValue} (G : F5cG_X10_readValue rc) : ∀ (k : Nat) (l1 : Int) (l2 : Int) (l3 : Int) (l4 : Int) (h : ms_M), h 45 5 = 1 → Pc (qw_X10_readValue_129 nn rc k l1 l2 l3 l4 h) (fun u => F5c h u) := by
  intro k
  induction k with
  | zero => intros; exact pc_none
  | succ k ih =>
    intro l1 l2 l3 l4 h S
    have F : F5c h h := f5_r
    unfold qw_X10_readValue_129
    refine pc_if (fun _ => ?_) (fun _ => ?_)
    · exact pc_imp (f5_qj_X10_readValue_156 G (f5_n S F)) (fun _ q => f5_t F q)
    · refine pc_se ?_; intro u8 _
      refine pc_if (fun _ => ?_) (fun _ => ?_)
      · exact pc_imp (f5_qj_X10_readValue_156 G (f5_n S F)) (fun _ q => f5_t F q)
      · refine pc_sv (f5_qf_X10_closeSign (f5_n S F)) ?_; intro u10 Qu10
        have Fu10 : F5c h u10 := f5_t F Qu10
        refine pc_xl ?_; intro v11 _
        exact pc_imp (ih _ _ _ _ _ (f5_n S Fu10)) (fun _ q => f5_t Fu10 q)
theorem f5_qj_X10_readValue_90 {rc : tq_X10_readValue} {l1 : Int} {l2 : Int} {l3 : Int} {l4 : Int} (G : F5cG_X10_readValue rc) {qkk_30 : Int → Int → Int → Int → ms_M → Option ms_M} (Hqkk_30 : ∀ (z0 : Int) (z1 : Int) (z2 : Int) (z3 : Int) (z4 : ms_M), z4 45 5 = 1 → Pc (qkk_30 z0 z1 z2 z3 z4) (fun u => F5c z4 u)) {h : ms_M} (S : h 45 5 = 1) : Pc (qj_X10_readValue_90 nn rc qkk_30 l1 l2 l3 l4 h) (fun u => F5c h u) := by
  have F : F5c h h := f5_r
  unfold qj_X10_readValue_90
  refine pc_se ?_; intro u16 _
  refine pc_if (fun _ => ?_) (fun _ => ?_)
  · refine pc_sv (f5_qf_X10_openSign (f5_n S F)) ?_; intro u18 Qu18
    have Fu18 : F5c h u18 := f5_t F Qu18
    refine pc_xl ?_; intro v19 _
    refine pc_sv (G.2.2.1 (f5_n S Fu18)) ?_; intro u21 Qu21
    have Fu21 : F5c h u21 := f5_t Fu18 Qu21
    refine pc_xl ?_; intro v22 _
    exact pc_imp (Hqkk_30 _ _ _ _ _ (f5_n S Fu21)) (fun _ q => f5_t Fu21 q)
  · refine pc_sv (f5_qf_X10_readInstanceof (f5_n S F)) ?_; intro u24 Qu24
    have Fu24 : F5c h u24 := f5_t F Qu24
    refine pc_xl ?_; intro v25 _
    exact pc_imp (Hqkk_30 _ _ _ _ _ (f5_n S Fu24)) (fun _ q => f5_t Fu24 q)
theorem f5_qw_X10_readValue_54 {rc : tq_X10_readValue} (G : F5cG_X10_readValue rc) {qkk_30 : Int → Int → Int → Int → ms_M → Option ms_M} (Hqkk_30 : ∀ (z0 : Int) (z1 : Int) (z2 : Int) (z3 : Int) (z4 : ms_M), z4 45 5 = 1 → Pc (qkk_30 z0 z1 z2 z3 z4) (fun u => F5c z4 u)) : ∀ (k : Nat) (l1 : Int) (l2 : Int) (l3 : Int) (l4 : Int) (l5 : Int) (h : ms_M), h 45 5 = 1 → Pc (qw_X10_readValue_54 nn rc qkk_30 k l1 l2 l3 l4 l5 h) (fun u => F5c h u) := by
  intro k
  induction k with
  | zero => intros; exact pc_none
  | succ k ih =>
    intro l1 l2 l3 l4 l5 h S
    have F : F5c h h := f5_r
    unfold qw_X10_readValue_54
    refine pc_if (fun _ => ?_) (fun _ => ?_)
    · exact pc_imp (f5_qj_X10_readValue_90 G Hqkk_30 (f5_n S F)) (fun _ q => f5_t F q)
    · refine pc_se ?_; intro u29 _
      refine pc_se ?_; intro u30 _
      refine pc_se ?_; intro u32 _
      refine pc_if (fun _ => ?_) (fun _ => ?_)
      · exact pc_imp (f5_qj_X10_readValue_90 G Hqkk_30 (f5_n S F)) (fun _ q => f5_t F q)
      · refine pc_sv (f5_qf_X10_closeSign (f5_n S F)) ?_; intro u34 Qu34
        have Fu34 : F5c h u34 := f5_t F Qu34
        refine pc_xl ?_; intro v35 _
        exact pc_imp (ih _ _ _ _ _ _ (f5_n S Fu34)) (fun _ q => f5_t Fu34 q)
theorem f5_qw_X10_readValue_30 {rc : tq_X10_readValue} (G : F5cG_X10_readValue rc) : ∀ (k : Nat) (l1 : Int) (l2 : Int) (l3 : Int) (l4 : Int) (h : ms_M), h 45 5 = 1 → Pc (qw_X10_readValue_30 nn rc k l1 l2 l3 l4 h) (fun u => F5c h u) := by
  intro k
  induction k with
  | zero => intros; exact pc_none
  | succ k ih =>
    intro l1 l2 l3 l4 h S
    have F : F5c h h := f5_r
    unfold qw_X10_readValue_30
    refine pc_if (fun _ => ?_) (fun _ => ?_)
    · exact pc_imp (f5_qw_X10_readValue_129 G _ _ _ _ _ _ (f5_n S F)) (fun _ q => f5_t F q)
    · refine pc_se ?_; intro u40 _
      refine pc_se ?_; intro u41 _
      refine pc_if (fun _ => ?_) (fun _ => ?_)
      · exact pc_imp (f5_qw_X10_readValue_129 G _ _ _ _ _ _ (f5_n S F)) (fun _ q => f5_t F q)
      · exact pc_imp (f5_qw_X10_readValue_54 G (fun _ _ _ _ _ S => ih _ _ _ _ _ S) _ _ _ _ _ _ _ (f5_n S F)) (fun _ q => f5_t F q)
theorem f5_qo_X10_readValue {rc : tq_X10_readValue} {a1 : Int} (G : F5cG_X10_readValue rc) {h : ms_M} (S : h 45 5 = 1) : Pc (qo_X10_readValue nn rc a1 h) (fun u => F5c h u) := by
  have F : F5c h h := f5_r
  unfold qo_X10_readValue
  refine pc_if (fun _ => ?_) (fun _ => ?_)
  · refine pc_xl ?_; intro v47 _
    refine pc_sv (G.2.2.1 (f5_n S F)) ?_; intro u49 Qu49
    have Fu49 : F5c h u49 := f5_t F Qu49
    exact pc_imp (f5_qw_X10_readValue_30 G _ _ _ _ _ _ (f5_n S Fu49)) (fun _ q => f5_t Fu49 q)
  · exact pc_ret F
theorem f5_qj_X10_readChoice_158 {rc : tq_X10_readValue} {l6 : Int} {s0 : Int} (G : F5cG_X10_readValue rc) {h : ms_M} (S : h 45 5 = 1) : Pc (qj_X10_readChoice_158 nn rc l6 s0 h) (fun u => F5c h u) := by
  have F : F5c h h := f5_r
  unfold qj_X10_readChoice_158
  refine pc_xl ?_; intro h1 Eh1
  have Fh1 : F5c h h1 := by rw [Eh1]; exact f5_u F (by omega)
  refine pc_sv (f5_qf_X1_pop (f5_n S Fh1)) ?_; intro u4 Qu4
  have Fu4 : F5c h u4 := f5_t Fh1 Qu4
  refine pc_sv (f5_qf_X1_push (f5_n S Fu4)) ?_; intro u8 Qu8
  have Fu8 : F5c h u8 := f5_t Fu4 Qu8
  refine pc_sv (f5_qf_X1_aimHere (f5_n S Fu8)) ?_; intro u11 Qu11
  have Fu11 : F5c h u11 := f5_t Fu8 Qu11
  refine pc_xl ?_; intro h12 Eh12
  have Fh12 : F5c h h12 := by rw [Eh12]; exact f5_u Fu11 (by omega)
  exact pc_ret Fh12
theorem f5_qj_X10_readChoice_24 {rc : tq_X10_readValue} {l1 : Int} {l2 : Int} {l3 : Int} {s0 : Int} (G : F5cG_X10_readValue rc) {h : ms_M} (S : h 45 5 = 1) : Pc (qj_X10_readChoice_24 nn rc l1 l2 l3 s0 h) (fun u => F5c h u) := by
  have F : F5c h h := f5_r
  unfold qj_X10_readChoice_24
  refine pc_sv (f5_qf_X10_wantType (f5_n S F)) ?_; intro u14 Qu14
  have Fu14 : F5c h u14 := f5_t F Qu14
  refine pc_sv (f5_qf_X1_jump (f5_n S Fu14)) ?_; intro u17 Qu17
  have Fu17 : F5c h u17.2 := f5_t Fu14 Qu17
  refine pc_xl ?_; intro v20 _
  refine pc_xl ?_; intro h21 Eh21
  have Fh21 : F5c h h21 := by rw [Eh21]; exact f5_u Fu17 (by omega)
  refine pc_xl ?_; intro v22 _
  refine pc_sv (G.1 (f5_n S Fh21)) ?_; intro u24 Qu24
  have Fu24 : F5c h u24 := f5_t Fh21 Qu24
  refine pc_sv (f5_qf_X1_jump (f5_n S Fu24)) ?_; intro u28 Qu28
  have Fu28 : F5c h u28.2 := f5_t Fu24 Qu28
  refine pc_sv (f5_qf_X1_pop (f5_n S Fu28)) ?_; intro u31 Qu31
  have Fu31 : F5c h u31 := f5_t Fu28 Qu31
  refine pc_sv (f5_qf_X1_aimHere (f5_n S Fu31)) ?_; intro u34 Qu34
  have Fu34 : F5c h u34 := f5_t Fu31 Qu34
  refine pc_xl ?_; intro v37 _
  refine pc_xl ?_; intro h38 Eh38
  have Fh38 : F5c h h38 := by rw [Eh38]; exact f5_u Fu34 (by omega)
  refine pc_xl ?_; intro v39 _
  refine pc_sv (G.1 (f5_n S Fh38)) ?_; intro u41 Qu41
  have Fu41 : F5c h u41 := f5_t Fh38 Qu41
  refine pc_se ?_; intro u44 _
  refine pc_sv (f5_qf_X10_wantType (f5_n S Fu41)) ?_; intro u46 Qu46
  have Fu46 : F5c h u46 := f5_t Fu41 Qu46
  refine pc_se ?_; intro u50 _
  refine pc_if (fun _ => ?_) (fun _ => ?_)
  · exact pc_imp (f5_qj_X10_readChoice_158 G (f5_n S Fu46)) (fun _ q => f5_t Fu46 q)
  · exact pc_imp (f5_qj_X10_readChoice_158 G (f5_n S Fu46)) (fun _ q => f5_t Fu46 q)
theorem f5_qo_X10_readChoice {rc : tq_X10_readValue} {a1 : Int} {a2 : Int} (G : F5cG_X10_readValue rc) {h : ms_M} (S : h 45 5 = 1) : Pc (qo_X10_readChoice nn rc a1 a2 h) (fun u => F5c h u) := by
  have F : F5c h h := f5_r
  unfold qo_X10_readChoice
  refine pc_if (fun _ => ?_) (fun _ => ?_)
  · exact pc_imp (f5_qj_X10_readChoice_24 G (f5_n S F)) (fun _ q => f5_t F q)
  · exact pc_imp (f5_qj_X10_readChoice_24 G (f5_n S F)) (fun _ q => f5_t F q)
theorem f5_qj_X10_readUnary_116 {rc : tq_X10_readValue} {l2 : Int} (G : F5cG_X10_readValue rc) {h : ms_M} (S : h 45 5 = 1) : Pc (qj_X10_readUnary_116 nn rc l2 h) (fun u => F5c h u) := by
  have F : F5c h h := f5_r
  unfold qj_X10_readUnary_116
  refine pc_xl ?_; intro h1 Eh1
  have Fh1 : F5c h h1 := by rw [Eh1]; exact f5_u F (by omega)
  exact pc_ret Fh1
theorem f5_qj_X10_readUnary_41 {rc : tq_X10_readValue} {l1 : Int} {l2 : Int} {l3 : Int} (G : F5cG_X10_readValue rc) {h : ms_M} (S : h 45 5 = 1) : Pc (qj_X10_readUnary_41 nn rc l1 l2 l3 h) (fun u => F5c h u) := by
  have F : F5c h h := f5_r
  unfold qj_X10_readUnary_41
  refine pc_xl ?_; intro v4 _
  refine pc_xl ?_; intro h5 Eh5
  have Fh5 : F5c h h5 := by rw [Eh5]; exact f5_u F (by omega)
  refine pc_xl ?_; intro v6 _
  refine pc_sv (G.2.2.1 (f5_n S Fh5)) ?_; intro u8 Qu8
  have Fu8 : F5c h u8 := f5_t Fh5 Qu8
  refine pc_sv (f5_qf_X10_closeUnary (f5_n S Fu8)) ?_; intro u10 Qu10
  have Fu10 : F5c h u10 := f5_t Fu8 Qu10
  exact pc_imp (f5_qj_X10_readUnary_116 G (f5_n S Fu10)) (fun _ q => f5_t Fu10 q)
theorem f5_qo_X10_readUnary {rc : tq_X10_readValue} {a1 : Int} (G : F5cG_X10_readValue rc) {h : ms_M} (S : h 45 5 = 1) : Pc (qo_X10_readUnary nn rc a1 h) (fun u => F5c h u) := by
  have F : F5c h h := f5_r
  unfold qo_X10_readUnary
  refine pc_if (fun _ => ?_) (fun _ => ?_)
  · refine pc_se ?_; intro u15 _
    refine pc_if (fun _ => ?_) (fun _ => ?_)
    · exact pc_imp (f5_qj_X10_readUnary_41 G (f5_n S F)) (fun _ q => f5_t F q)
    · refine pc_if (fun _ => ?_) (fun _ => ?_)
      · exact pc_imp (f5_qj_X10_readUnary_41 G (f5_n S F)) (fun _ q => f5_t F q)
      · refine pc_if (fun _ => ?_) (fun _ => ?_)
        · refine pc_se ?_; intro u18 _
          refine pc_if (fun _ => ?_) (fun _ => ?_)
          · refine pc_sv (G.2.2.2.1 (f5_n S F)) ?_; intro u20 Qu20
            have Fu20 : F5c h u20 := f5_t F Qu20
            exact pc_imp (f5_qj_X10_readUnary_116 G (f5_n S Fu20)) (fun _ q => f5_t Fu20 q)
          · refine pc_xl ?_; intro v21 _
            refine pc_xl ?_; intro v22 _
            refine pc_sv (f5_qf_X10_readNamedClass (f5_n S F)) ?_; intro u24 Qu24
            have Fu24 : F5c h u24.2 := f5_t F Qu24
            refine pc_xl ?_; intro v25 _
            refine pc_sv (G.2.2.1 (f5_n S Fu24)) ?_; intro u27 Qu27
            have Fu27 : F5c h u27 := f5_t Fu24 Qu27
            refine pc_xl ?_; intro v28 _
            refine pc_sv (f5_qf_X10_closeCast (f5_n S Fu27)) ?_; intro u30 Qu30
            have Fu30 : F5c h u30 := f5_t Fu27 Qu30
            exact pc_imp (f5_qj_X10_readUnary_116 G (f5_n S Fu30)) (fun _ q => f5_t Fu30 q)
        · exact pc_imp (f5_qj_X10_readUnary_41 G (f5_n S F)) (fun _ q => f5_t F q)
  · exact pc_ret F
theorem f5_qj_X10_readPrimary_176 {rc : tq_X10_readValue} {l3 : Int} (G : F5cG_X10_readValue rc) {h : ms_M} (S : h 45 5 = 1) : Pc (qj_X10_readPrimary_176 nn rc l3 h) (fun u => F5c h u) := by
  have F : F5c h h := f5_r
  unfold qj_X10_readPrimary_176
  refine pc_if (fun _ => ?_) (fun _ => ?_)
  · exact pc_ret F
  · refine pc_sv (f5_qf_X10_fetch (f5_n S F)) ?_; intro u2 Qu2
    have Fu2 : F5c h u2 := f5_t F Qu2
    exact pc_ret Fu2
theorem f5_qj_X10_readPrimary_162 {rc : tq_X10_readValue} {l1 : Int} {l2 : Int} {l4 : Int} (G : F5cG_X10_readValue rc) {qkk_118 : Int → Int → Int → Int → ms_M → Option ms_M} (Hqkk_118 : ∀ (z0 : Int) (z1 : Int) (z2 : Int) (z3 : Int) (z4 : ms_M), z4 45 5 = 1 → Pc (qkk_118 z0 z1 z2 z3 z4) (fun u => F5c z4 u)) {h : ms_M} (S : h 45 5 = 1) : Pc (qj_X10_readPrimary_162 nn rc qkk_118 l1 l2 l4 h) (fun u => F5c h u) := by
  have F : F5c h h := f5_r
  unfold qj_X10_readPrimary_162
  refine pc_se ?_; intro u6 _
  refine pc_xl ?_; intro v7 _
  exact pc_imp (Hqkk_118 _ _ _ _ _ (f5_n S F)) (fun _ q => f5_t F q)
theorem f5_qj_X10_readPrimary_138 {rc : tq_X10_readValue} {l1 : Int} {l2 : Int} {l3 : Int} {l4 : Int} (G : F5cG_X10_readValue rc) {qkk_118 : Int → Int → Int → Int → ms_M → Option ms_M} (Hqkk_118 : ∀ (z0 : Int) (z1 : Int) (z2 : Int) (z3 : Int) (z4 : ms_M), z4 45 5 = 1 → Pc (qkk_118 z0 z1 z2 z3 z4) (fun u => F5c z4 u)) {h : ms_M} (S : h 45 5 = 1) : Pc (qj_X10_readPrimary_138 nn rc qkk_118 l1 l2 l3 l4 h) (fun u => F5c h u) := by
  have F : F5c h h := f5_r
  unfold qj_X10_readPrimary_138
  refine pc_sv (f5_qf_X10_fetch (f5_n S F)) ?_; intro u9 Qu9
  have Fu9 : F5c h u9 := f5_t F Qu9
  refine pc_if (fun _ => ?_) (fun _ => ?_)
  · refine pc_sv (G.2.2.2.2.2.1 (f5_n S Fu9)) ?_; intro u11 Qu11
    have Fu11 : F5c h u11 := f5_t Fu9 Qu11
    exact pc_imp (f5_qj_X10_readPrimary_162 G Hqkk_118 (f5_n S Fu11)) (fun _ q => f5_t Fu11 q)
  · refine pc_sv (G.2.2.2.2.2.2.2.1 (f5_n S Fu9)) ?_; intro u13 Qu13
    have Fu13 : F5c h u13 := f5_t Fu9 Qu13
    exact pc_imp (f5_qj_X10_readPrimary_162 G Hqkk_118 (f5_n S Fu13)) (fun _ q => f5_t Fu13 q)
theorem f5_qw_X10_readPrimary_118 {rc : tq_X10_readValue} (G : F5cG_X10_readValue rc) : ∀ (k : Nat) (l1 : Int) (l2 : Int) (l3 : Int) (l4 : Int) (h : ms_M), h 45 5 = 1 → Pc (qw_X10_readPrimary_118 nn rc k l1 l2 l3 l4 h) (fun u => F5c h u) := by
  intro k
  induction k with
  | zero => intros; exact pc_none
  | succ k ih =>
    intro l1 l2 l3 l4 h S
    have F : F5c h h := f5_r
    unfold qw_X10_readPrimary_118
    refine pc_if (fun _ => ?_) (fun _ => ?_)
    · exact pc_imp (f5_qj_X10_readPrimary_176 G (f5_n S F)) (fun _ q => f5_t F q)
    · refine pc_if (fun _ => ?_) (fun _ => ?_)
      · exact pc_imp (f5_qj_X10_readPrimary_138 G (fun _ _ _ _ _ S => ih _ _ _ _ _ S) (f5_n S F)) (fun _ q => f5_t F q)
      · refine pc_if (fun _ => ?_) (fun _ => ?_)
        · exact pc_imp (f5_qj_X10_readPrimary_176 G (f5_n S F)) (fun _ q => f5_t F q)
        · exact pc_imp (f5_qj_X10_readPrimary_138 G (fun _ _ _ _ _ S => ih _ _ _ _ _ S) (f5_n S F)) (fun _ q => f5_t F q)
theorem f5_qj_X10_readPrimary_107 {rc : tq_X10_readValue} {l1 : Int} {l2 : Int} (G : F5cG_X10_readValue rc) {h : ms_M} (S : h 45 5 = 1) : Pc (qj_X10_readPrimary_107 nn rc l1 l2 h) (fun u => F5c h u) := by
  have F : F5c h h := f5_r
  unfold qj_X10_readPrimary_107
  refine pc_se ?_; intro u20 _
  exact pc_imp (f5_qw_X10_readPrimary_118 G _ _ _ _ _ _ (f5_n S F)) (fun _ q => f5_t F q)
theorem f5_qo_X10_readPrimary {rc : tq_X10_readValue} {a1 : Int} (G : F5cG_X10_readValue rc) {h : ms_M} (S : h 45 5 = 1) : Pc (qo_X10_readPrimary nn rc a1 h) (fun u => F5c h u) := by
  have F : F5c h h := f5_r
  unfold qo_X10_readPrimary
  refine pc_se ?_; intro u25 _
  refine pc_if (fun _ => ?_) (fun _ => ?_)
  · refine pc_sv (G.2.2.2.2.2.2.1 (f5_n S F)) ?_; intro u29 Qu29
    have Fu29 : F5c h u29 := f5_t F Qu29
    exact pc_imp (f5_qj_X10_readPrimary_107 G (f5_n S Fu29)) (fun _ q => f5_t Fu29 q)
  · refine pc_if (fun _ => ?_) (fun _ => ?_)
    · refine pc_sv (G.2.2.2.2.1 (f5_n S F)) ?_; intro u31 Qu31
      have Fu31 : F5c h u31 := f5_t F Qu31
      exact pc_imp (f5_qj_X10_readPrimary_107 G (f5_n S Fu31)) (fun _ q => f5_t Fu31 q)
    · refine pc_if (fun _ => ?_) (fun _ => ?_)
      · refine pc_xl ?_; intro v34 _
        refine pc_xl ?_; intro h35 Eh35
        have Fh35 : F5c h h35 := by rw [Eh35]; exact f5_u F (by omega)
        refine pc_sv (G.1 (f5_n S Fh35)) ?_; intro u37 Qu37
        have Fu37 : F5c h u37 := f5_t Fh35 Qu37
        refine pc_xl ?_; intro v40 _
        refine pc_xl ?_; intro h41 Eh41
        have Fh41 : F5c h h41 := by rw [Eh41]; exact f5_u Fu37 (by omega)
        refine pc_xl ?_; intro h42 Eh42
        have Fh42 : F5c h h42 := by rw [Eh42]; exact f5_u Fh41 (by omega)
        exact pc_imp (f5_qj_X10_readPrimary_107 G (f5_n S Fh42)) (fun _ q => f5_t Fh42 q)
      · refine pc_sv (f5_qf_X10_readConstant (f5_n S F)) ?_; intro u27 Qu27
        have Fu27 : F5c h u27 := f5_t F Qu27
        exact pc_imp (f5_qj_X10_readPrimary_107 G (f5_n S Fu27)) (fun _ q => f5_t Fu27 q)
theorem f5_qj_X10_readNew_188 {rc : tq_X10_readValue} {l3 : Int} {l4 : Int} {s0 : Int} {s1 : Int} (G : F5cG_X10_readValue rc) {h : ms_M} (S : h 45 5 = 1) : Pc (qj_X10_readNew_188 nn rc l3 l4 s0 s1 h) (fun u => F5c h u) := by
  have F : F5c h h := f5_r
  unfold qj_X10_readNew_188
  refine pc_sv (f5_qf_X1_op_ (f5_n S F)) ?_; intro u2 Qu2
  have Fu2 : F5c h u2 := f5_t F Qu2
  refine pc_sv (f5_qf_X1_pop (f5_n S Fu2)) ?_; intro u5 Qu5
  have Fu5 : F5c h u5 := f5_t Fu2 Qu5
  refine pc_if (fun _ => ?_) (fun _ => ?_)
  · refine pc_xl ?_; intro v6 _
    refine pc_sv (f5_qf_X10_give (f5_n S Fu5)) ?_; intro u8 Qu8
    have Fu8 : F5c h u8 := f5_t Fu5 Qu8
    exact pc_ret Fu8
  · refine pc_sv (f5_qf_X10_give (f5_n S Fu5)) ?_; intro u10 Qu10
    have Fu10 : F5c h u10 := f5_t Fu5 Qu10
    exact pc_ret Fu10
theorem f5_qj_X10_readNew_170 {rc : tq_X10_readValue} {l3 : Int} {l4 : Int} {s0 : Int} (G : F5cG_X10_readValue rc) {h : ms_M} (S : h 45 5 = 1) : Pc (qj_X10_readNew_170 nn rc l3 l4 s0 h) (fun u => F5c h u) := by
  have F : F5c h h := f5_r
  unfold qj_X10_readNew_170
  refine pc_if (fun _ => ?_) (fun _ => ?_)
  · refine pc_sv (f5_qf_X6_classOf (f5_n S F)) ?_; intro u14 Qu14
    have Fu14 : F5c h u14.2 := f5_t F Qu14
    exact pc_imp (f5_qj_X10_readNew_188 G (f5_n S Fu14)) (fun _ q => f5_t Fu14 q)
  · exact pc_imp (f5_qj_X10_readNew_188 G (f5_n S F)) (fun _ q => f5_t F q)
theorem f5_qj_X10_readNew_147 {rc : tq_X10_readValue} {l2 : Int} {l3 : Int} {l4 : Int} {s0 : Int} (G : F5cG_X10_readValue rc) {h : ms_M} (S : h 45 5 = 1) : Pc (qj_X10_readNew_147 nn rc l2 l3 l4 s0 h) (fun u => F5c h u) := by
  have F : F5c h h := f5_r
  unfold qj_X10_readNew_147
  refine pc_xl ?_; intro v16 _
  refine pc_sv (f5_qf_X10_wantType (f5_n S F)) ?_; intro u18 Qu18
  have Fu18 : F5c h u18 := f5_t F Qu18
  refine pc_if (fun _ => ?_) (fun _ => ?_)
  · exact pc_imp (f5_qj_X10_readNew_170 G (f5_n S Fu18)) (fun _ q => f5_t Fu18 q)
  · exact pc_imp (f5_qj_X10_readNew_170 G (f5_n S Fu18)) (fun _ q => f5_t Fu18 q)
theorem f5_qj_X10_readNew_43 {rc : tq_X10_readValue} {l1 : Int} {l2 : Int} {l3 : Int} {s0 : Int} (G : F5cG_X10_readValue rc) {h : ms_M} (S : h 45 5 = 1) : Pc (qj_X10_readNew_43 nn rc l1 l2 l3 s0 h) (fun u => F5c h u) := by
  have F : F5c h h := f5_r
  unfold qj_X10_readNew_43
  refine pc_if (fun _ => ?_) (fun _ => ?_)
  · refine pc_xl ?_; intro v22 _
    refine pc_se ?_; intro u24 _
    refine pc_if (fun _ => ?_) (fun _ => ?_)
    · refine pc_xl ?_; intro v26 _
      refine pc_xl ?_; intro h27 Eh27
      have Fh27 : F5c h h27 := by rw [Eh27]; exact f5_u F (by omega)
      refine pc_sv (G.1 (f5_n S Fh27)) ?_; intro u29 Qu29
      have Fu29 : F5c h u29 := f5_t Fh27 Qu29
      refine pc_xl ?_; intro v32 _
      refine pc_xl ?_; intro h33 Eh33
      have Fh33 : F5c h h33 := by rw [Eh33]; exact f5_u Fu29 (by omega)
      refine pc_if (fun _ => ?_) (fun _ => ?_)
      · exact pc_imp (f5_qj_X10_readNew_147 G (f5_n S Fh33)) (fun _ q => f5_t Fh33 q)
      · exact pc_imp (f5_qj_X10_readNew_147 G (f5_n S Fh33)) (fun _ q => f5_t Fh33 q)
    · refine pc_xl ?_; intro v37 _
      refine pc_xl ?_; intro h38 Eh38
      have Fh38 : F5c h h38 := by rw [Eh38]; exact f5_u F (by omega)
      refine pc_sv (f5_qf_X6_classOf (f5_n S Fh38)) ?_; intro u42 Qu42
      have Fu42 : F5c h u42.2 := f5_t Fh38 Qu42
      refine pc_sv (f5_qf_X1_op_ (f5_n S Fu42)) ?_; intro u44 Qu44
      have Fu44 : F5c h u44 := f5_t Fu42 Qu44
      refine pc_sv (f5_qf_X10_give (f5_n S Fu44)) ?_; intro u46 Qu46
      have Fu46 : F5c h u46 := f5_t Fu44 Qu46
      exact pc_ret Fu46
  · exact pc_ret F
theorem f5_qj_X10_readNew_28 {rc : tq_X10_readValue} {l1 : Int} {l2 : Int} {s0 : Int} (G : F5cG_X10_readValue rc) {h : ms_M} (S : h 45 5 = 1) : Pc (qj_X10_readNew_28 nn rc l1 l2 s0 h) (fun u => F5c h u) := by
  have F : F5c h h := f5_r
  unfold qj_X10_readNew_28
  refine pc_if (fun _ => ?_) (fun _ => ?_)
  · refine pc_sv (f5_qf_X10_readNamedClass (f5_n S F)) ?_; intro u50 Qu50
    have Fu50 : F5c h u50.2 := f5_t F Qu50
    exact pc_imp (f5_qj_X10_readNew_43 G (f5_n S Fu50)) (fun _ q => f5_t Fu50 q)
  · exact pc_imp (f5_qj_X10_readNew_43 G (f5_n S F)) (fun _ q => f5_t F q)
theorem f5_qo_X10_readNew {rc : tq_X10_readValue} {a1 : Int} (G : F5cG_X10_readValue rc) {h : ms_M} (S : h 45 5 = 1) : Pc (qo_X10_readNew nn rc a1 h) (fun u => F5c h u) := by
  have F : F5c h h := f5_r
  unfold qo_X10_readNew
  refine pc_xl ?_; intro v54 _
  refine pc_se ?_; intro u57 _
  refine pc_if (fun _ => ?_) (fun _ => ?_)
  · exact pc_imp (f5_qj_X10_readNew_28 G (f5_n S F)) (fun _ q => f5_t F q)
  · exact pc_imp (f5_qj_X10_readNew_28 G (f5_n S F)) (fun _ q => f5_t F q)
theorem f5_qj_X10_readElement_67 {rc : tq_X10_readValue} {l2 : Int} {l3 : Int} {s0 : Int} (G : F5cG_X10_readValue rc) {h : ms_M} (S : h 45 5 = 1) : Pc (qj_X10_readElement_67 nn rc l2 l3 s0 h) (fun u => F5c h u) := by
  have F : F5c h h := f5_r
  unfold qj_X10_readElement_67
  refine pc_sv (f5_qf_X10_wantType (f5_n S F)) ?_; intro u2 Qu2
  have Fu2 : F5c h u2 := f5_t F Qu2
  refine pc_se ?_; intro u3 _
  refine pc_xl ?_; intro h4 Eh4
  have Fh4 : F5c h h4 := by rw [Eh4]; exact f5_u Fu2 (by omega)
  refine pc_xl ?_; intro h5 Eh5
  have Fh5 : F5c h h5 := by rw [Eh5]; exact f5_u Fh4 (by omega)
  exact pc_ret Fh5
theorem f5_qj_X10_readElement_66 {rc : tq_X10_readValue} {l2 : Int} {l3 : Int} (G : F5cG_X10_readValue rc) {h : ms_M} (S : h 45 5 = 1) : Pc (qj_X10_readElement_66 nn rc l2 l3 h) (fun u => F5c h u) := by
  have F : F5c h h := f5_r
  unfold qj_X10_readElement_66
  exact pc_imp (f5_qj_X10_readElement_67 G (f5_n S F)) (fun _ q => f5_t F q)
theorem f5_qo_X10_readElement {rc : tq_X10_readValue} {a1 : Int} (G : F5cG_X10_readValue rc) {h : ms_M} (S : h 45 5 = 1) : Pc (qo_X10_readElement nn rc a1 h) (fun u => F5c h u) := by
  have F : F5c h h := f5_r
  unfold qo_X10_readElement
  refine pc_xl ?_; intro v11 _
  refine pc_xl ?_; intro h12 Eh12
  have Fh12 : F5c h h12 := by rw [Eh12]; exact f5_u F (by omega)
  refine pc_sv (G.1 (f5_n S Fh12)) ?_; intro u14 Qu14
  have Fu14 : F5c h u14 := f5_t Fh12 Qu14
  refine pc_xl ?_; intro v17 _
  refine pc_xl ?_; intro h18 Eh18
  have Fh18 : F5c h h18 := by rw [Eh18]; exact f5_u Fu14 (by omega)
  refine pc_se ?_; intro u19 _
  refine pc_if (fun _ => ?_) (fun _ => ?_)
  · exact pc_imp (f5_qj_X10_readElement_66 G (f5_n S Fh18)) (fun _ q => f5_t Fh18 q)
  · refine pc_if (fun _ => ?_) (fun _ => ?_)
    · exact pc_imp (f5_qj_X10_readElement_66 G (f5_n S Fh18)) (fun _ q => f5_t Fh18 q)
    · exact pc_imp (f5_qj_X10_readElement_67 G (f5_n S Fh18)) (fun _ q => f5_t Fh18 q)
theorem f5_qj_X10_readNamed_123 {rc : tq_X10_readValue} {l1 : Int} {l2 : Int} {l4 : Int} {s0 : Int} (G : F5cG_X10_readValue rc) {h : ms_M} (S : h 45 5 = 1) : Pc (qj_X10_readNamed_123 nn rc l1 l2 l4 s0 h) (fun u => F5c h u) := by
  have F : F5c h h := f5_r
  unfold qj_X10_readNamed_123
  refine pc_if (fun _ => ?_) (fun _ => ?_)
  · refine pc_if (fun _ => ?_) (fun _ => ?_)
    · refine pc_xl ?_; intro v1 _
      refine pc_se ?_; intro u3 _
      refine pc_if (fun _ => ?_) (fun _ => ?_)
      · refine pc_sv (f5_qf_X9_tell (f5_n S F)) ?_; intro u6 Qu6
        have Fu6 : F5c h u6 := f5_t F Qu6
        exact pc_ret Fu6
      · refine pc_xl ?_; intro v7 _
        refine pc_sv (f5_qf_X10_readNamedClass (f5_n S F)) ?_; intro u9 Qu9
        have Fu9 : F5c h u9.2 := f5_t F Qu9
        refine pc_xl ?_; intro v10 _
        refine pc_sv (f5_qf_X10_methodNamed (f5_n S Fu9)) ?_; intro u12 Qu12
        have Fu12 : F5c h u12.2 := f5_t Fu9 Qu12
        refine pc_xl ?_; intro v13 _
        refine pc_sv (G.2.2.2.2.2.2.2.2 (f5_n S Fu12)) ?_; intro u15 Qu15
        have Fu15 : F5c h u15 := f5_t Fu12 Qu15
        exact pc_ret Fu15
    · refine pc_sv (f5_qf_X10_giveThis (f5_n S F)) ?_; intro u18 Qu18
      have Fu18 : F5c h u18 := f5_t F Qu18
      refine pc_sv (f5_qf_X10_nameField (f5_n S Fu18)) ?_; intro u21 Qu21
      have Fu21 : F5c h u21 := f5_t Fu18 Qu21
      exact pc_ret Fu21
  · refine pc_xl ?_; intro h23 Eh23
    have Fh23 : F5c h h23 := by rw [Eh23]; exact f5_u F (by omega)
    refine pc_xl ?_; intro h24 Eh24
    have Fh24 : F5c h h24 := by rw [Eh24]; exact f5_u Fh23 (by omega)
    refine pc_se ?_; intro u27 _
    refine pc_xl ?_; intro h28 Eh28
    have Fh28 : F5c h h28 := by rw [Eh28]; exact f5_u Fh24 (by omega)
    exact pc_ret Fh28
theorem f5_qj_X10_readNamed_76 {rc : tq_X10_readValue} {l1 : Int} {l2 : Int} {l4 : Int} (G : F5cG_X10_readValue rc) {h : ms_M} (S : h 45 5 = 1) : Pc (qj_X10_readNamed_76 nn rc l1 l2 l4 h) (fun u => F5c h u) := by
  have F : F5c h h := f5_r
  unfold qj_X10_readNamed_76
  refine pc_sv (G.2.2.2.2.2.2.2.2 (f5_n S F)) ?_; intro u32 Qu32
  have Fu32 : F5c h u32 := f5_t F Qu32
  exact pc_ret Fu32
theorem f5_qo_X10_readNamed {rc : tq_X10_readValue} {a1 : Int} (G : F5cG_X10_readValue rc) {h : ms_M} (S : h 45 5 = 1) : Pc (qo_X10_readNamed nn rc a1 h) (fun u => F5c h u) := by
  have F : F5c h h := f5_r
  unfold qo_X10_readNamed
  refine pc_se ?_; intro u37 _
  refine pc_xl ?_; intro v40 _
  refine pc_xl ?_; intro h41 Eh41
  have Fh41 : F5c h h41 := by rw [Eh41]; exact f5_u F (by omega)
  refine pc_se ?_; intro u44 _
  refine pc_if (fun _ => ?_) (fun _ => ?_)
  · refine pc_se ?_; intro u47 _
    refine pc_if (fun _ => ?_) (fun _ => ?_)
    · exact pc_imp (f5_qj_X10_readNamed_123 G (f5_n S Fh41)) (fun _ q => f5_t Fh41 q)
    · refine pc_se ?_; intro u51 _
      exact pc_imp (f5_qj_X10_readNamed_123 G (f5_n S Fh41)) (fun _ q => f5_t Fh41 q)
  · refine pc_sv (f5_qf_X10_methodNamed (f5_n S Fh41)) ?_; intro u55 Qu55
    have Fu55 : F5c h u55.2 := f5_t Fh41 Qu55
    refine pc_if (fun _ => ?_) (fun _ => ?_)
    · exact pc_imp (f5_qj_X10_readNamed_76 G (f5_n S Fu55)) (fun _ q => f5_t Fu55 q)
    · refine pc_se ?_; intro u58 _
      refine pc_if (fun _ => ?_) (fun _ => ?_)
      · exact pc_imp (f5_qj_X10_readNamed_76 G (f5_n S Fu55)) (fun _ q => f5_t Fu55 q)
      · refine pc_sv (f5_qf_X10_giveThis (f5_n S Fu55)) ?_; intro u60 Qu60
        have Fu60 : F5c h u60 := f5_t Fu55 Qu60
        exact pc_imp (f5_qj_X10_readNamed_76 G (f5_n S Fu60)) (fun _ q => f5_t Fu60 q)
theorem f5_qj_X10_readBehindPoint_149 {rc : tq_X10_readValue} {l1 : Int} {l2 : Int} {l3 : Int} {l5 : Int} {l6 : Int} {l7 : Int} (G : F5cG_X10_readValue rc) {h : ms_M} (S : h 45 5 = 1) : Pc (qj_X10_readBehindPoint_149 nn rc l1 l2 l3 l5 l6 l7 h) (fun u => F5c h u) := by
  have F : F5c h h := f5_r
  unfold qj_X10_readBehindPoint_149
  refine pc_xl ?_; intro v2 _
  refine pc_xl ?_; intro h3 Eh3
  have Fh3 : F5c h h3 := by rw [Eh3]; exact f5_u F (by omega)
  refine pc_if (fun _ => ?_) (fun _ => ?_)
  · refine pc_if (fun _ => ?_) (fun _ => ?_)
    · refine pc_sv (f5_qf_X10_nameField (f5_n S Fh3)) ?_; intro u6 Qu6
      have Fu6 : F5c h u6 := f5_t Fh3 Qu6
      exact pc_ret Fu6
    · refine pc_sv (f5_qf_X1_op (f5_n S Fh3)) ?_; intro u9 Qu9
      have Fu9 : F5c h u9 := f5_t Fh3 Qu9
      refine pc_sv (f5_qf_X1_pop (f5_n S Fu9)) ?_; intro u12 Qu12
      have Fu12 : F5c h u12 := f5_t Fu9 Qu12
      refine pc_sv (f5_qf_X10_give (f5_n S Fu12)) ?_; intro u14 Qu14
      have Fu14 : F5c h u14 := f5_t Fu12 Qu14
      exact pc_ret Fu14
  · refine pc_sv (G.2.2.2.2.2.2.2.2 (f5_n S Fh3)) ?_; intro u18 Qu18
    have Fu18 : F5c h u18 := f5_t Fh3 Qu18
    exact pc_ret Fu18
theorem f5_qj_X10_readBehindPoint_140 {rc : tq_X10_readValue} {l1 : Int} {l2 : Int} {l3 : Int} {l5 : Int} {l6 : Int} {l7 : Int} (G : F5cG_X10_readValue rc) {h : ms_M} (S : h 45 5 = 1) : Pc (qj_X10_readBehindPoint_140 nn rc l1 l2 l3 l5 l6 l7 h) (fun u => F5c h u) := by
  have F : F5c h h := f5_r
  unfold qj_X10_readBehindPoint_140
  refine pc_sv (f5_qf_X9_tell (f5_n S F)) ?_; intro u22 Qu22
  have Fu22 : F5c h u22 := f5_t F Qu22
  exact pc_imp (f5_qj_X10_readBehindPoint_149 G (f5_n S Fu22)) (fun _ q => f5_t Fu22 q)
theorem f5_qj_X10_readBehindPoint_112 {rc : tq_X10_readValue} {l1 : Int} {l2 : Int} {l3 : Int} {l4 : Int} {l5 : Int} {l6 : Int} {s0 : Int} (G : F5cG_X10_readValue rc) {h : ms_M} (S : h 45 5 = 1) : Pc (qj_X10_readBehindPoint_112 nn rc l1 l2 l3 l4 l5 l6 s0 h) (fun u => F5c h u) := by
  have F : F5c h h := f5_r
  unfold qj_X10_readBehindPoint_112
  refine pc_if (fun _ => ?_) (fun _ => ?_)
  · refine pc_if (fun _ => ?_) (fun _ => ?_)
    · exact pc_imp (f5_qj_X10_readBehindPoint_149 G (f5_n S F)) (fun _ q => f5_t F q)
    · exact pc_imp (f5_qj_X10_readBehindPoint_140 G (f5_n S F)) (fun _ q => f5_t F q)
  · refine pc_if (fun _ => ?_) (fun _ => ?_)
    · exact pc_imp (f5_qj_X10_readBehindPoint_140 G (f5_n S F)) (fun _ q => f5_t F q)
    · refine pc_if (fun _ => ?_) (fun _ => ?_)
      · exact pc_imp (f5_qj_X10_readBehindPoint_149 G (f5_n S F)) (fun _ q => f5_t F q)
      · exact pc_imp (f5_qj_X10_readBehindPoint_140 G (f5_n S F)) (fun _ q => f5_t F q)
theorem f5_qj_X10_readBehindPoint_72 {rc : tq_X10_readValue} {l1 : Int} {l2 : Int} {l3 : Int} {l4 : Int} {l5 : Int} {l6 : Int} {s0 : Int} (G : F5cG_X10_readValue rc) {h : ms_M} (S : h 45 5 = 1) : Pc (qj_X10_readBehindPoint_72 nn rc l1 l2 l3 l4 l5 l6 s0 h) (fun u => F5c h u) := by
  have F : F5c h h := f5_r
  unfold qj_X10_readBehindPoint_72
  refine pc_xl ?_; intro v27 _
  refine pc_sv (f5_qf_X10_wantType (f5_n S F)) ?_; intro u29 Qu29
  have Fu29 : F5c h u29 := f5_t F Qu29
  refine pc_if (fun _ => ?_) (fun _ => ?_)
  · refine pc_se ?_; intro u33 _
    exact pc_imp (f5_qj_X10_readBehindPoint_112 G (f5_n S Fu29)) (fun _ q => f5_t Fu29 q)
  · refine pc_se ?_; intro u37 _
    exact pc_imp (f5_qj_X10_readBehindPoint_112 G (f5_n S Fu29)) (fun _ q => f5_t Fu29 q)
theorem f5_qj_X10_readBehindPoint_67 {rc : tq_X10_readValue} {l1 : Int} {l2 : Int} {l3 : Int} {l4 : Int} {l5 : Int} {l6 : Int} (G : F5cG_X10_readValue rc) {h : ms_M} (S : h 45 5 = 1) : Pc (qj_X10_readBehindPoint_67 nn rc l1 l2 l3 l4 l5 l6 h) (fun u => F5c h u) := by
  have F : F5c h h := f5_r
  unfold qj_X10_readBehindPoint_67
  exact pc_imp (f5_qj_X10_readBehindPoint_72 G (f5_n S F)) (fun _ q => f5_t F q)
theorem f5_qj_X10_readBehindPoint_40 {rc : tq_X10_readValue} {l1 : Int} {l2 : Int} {l3 : Int} {l4 : Int} {s0 : Int} (G : F5cG_X10_readValue rc) {h : ms_M} (S : h 45 5 = 1) : Pc (qj_X10_readBehindPoint_40 nn rc l1 l2 l3 l4 s0 h) (fun u => F5c h u) := by
  have F : F5c h h := f5_r
  unfold qj_X10_readBehindPoint_40
  refine pc_se ?_; intro u40 _
  refine pc_if (fun _ => ?_) (fun _ => ?_)
  · exact pc_imp (f5_qj_X10_readBehindPoint_67 G (f5_n S F)) (fun _ q => f5_t F q)
  · refine pc_se ?_; intro u42 _
    refine pc_if (fun _ => ?_) (fun _ => ?_)
    · exact pc_imp (f5_qj_X10_readBehindPoint_72 G (f5_n S F)) (fun _ q => f5_t F q)
    · exact pc_imp (f5_qj_X10_readBehindPoint_67 G (f5_n S F)) (fun _ q => f5_t F q)
theorem f5_qo_X10_readBehindPoint {rc : tq_X10_readValue} {a1 : Int} {a2 : Int} (G : F5cG_X10_readValue rc) {h : ms_M} (S : h 45 5 = 1) : Pc (qo_X10_readBehindPoint nn rc a1 a2 h) (fun u => F5c h u) := by
  have F : F5c h h := f5_r
  unfold qo_X10_readBehindPoint
  refine pc_xl ?_; intro v47 _
  refine pc_se ?_; intro u50 _
  refine pc_xl ?_; intro v52 _
  refine pc_se ?_; intro u54 _
  refine pc_if (fun _ => ?_) (fun _ => ?_)
  · exact pc_imp (f5_qj_X10_readBehindPoint_40 G (f5_n S F)) (fun _ q => f5_t F q)
  · exact pc_imp (f5_qj_X10_readBehindPoint_40 G (f5_n S F)) (fun _ q => f5_t F q)
theorem f5_qj_X10_readCall_275 {rc : tq_X10_readValue} {l2 : Int} {l3 : Int} {l5 : Int} {s0 : Int} (G : F5cG_X10_readValue rc) {h : ms_M} (S : h 45 5 = 1) : Pc (qj_X10_readCall_275 nn rc l2 l3 l5 s0 h) (fun u => F5c h u) := by
  have F : F5c h h := f5_r
  unfold qj_X10_readCall_275
  refine pc_sv (f5_qf_X1_pop (f5_n S F)) ?_; intro u2 Qu2
  have Fu2 : F5c h u2 := f5_t F Qu2
  refine pc_se ?_; intro u5 _
  refine pc_sv (f5_qf_X10_closeCall (f5_n S Fu2)) ?_; intro u7 Qu7
  have Fu7 : F5c h u7 := f5_t Fu2 Qu7
  exact pc_ret Fu7
theorem f5_qj_X10_readCall_245 {rc : tq_X10_readValue} {l1 : Int} {l2 : Int} {l3 : Int} {l5 : Int} {l7 : Int} {l9 : Int} {s0 : Int} (G : F5cG_X10_readValue rc) {h : ms_M} (S : h 45 5 = 1) : Pc (qj_X10_readCall_245 nn rc l1 l2 l3 l5 l7 l9 s0 h) (fun u => F5c h u) := by
  have F : F5c h h := f5_r
  unfold qj_X10_readCall_245
  refine pc_sv (f5_qf_X6_methodOf (f5_n S F)) ?_; intro u10 Qu10
  have Fu10 : F5c h u10.2 := f5_t F Qu10
  refine pc_sv (f5_qf_X1_op_ (f5_n S Fu10)) ?_; intro u12 Qu12
  have Fu12 : F5c h u12 := f5_t Fu10 Qu12
  refine pc_if (fun _ => ?_) (fun _ => ?_)
  · refine pc_xl ?_; intro v14 _
    exact pc_imp (f5_qj_X10_readCall_275 G (f5_n S Fu12)) (fun _ q => f5_t Fu12 q)
  · exact pc_imp (f5_qj_X10_readCall_275 G (f5_n S Fu12)) (fun _ q => f5_t Fu12 q)
theorem f5_qj_X10_readCall_223 {rc : tq_X10_readValue} {l1 : Int} {l2 : Int} {l3 : Int} {l5 : Int} {l7 : Int} {l9 : Int} {s0 : Int} (G : F5cG_X10_readValue rc) {h : ms_M} (S : h 45 5 = 1) : Pc (qj_X10_readCall_223 nn rc l1 l2 l3 l5 l7 l9 s0 h) (fun u => F5c h u) := by
  have F : F5c h h := f5_r
  unfold qj_X10_readCall_223
  refine pc_sv (f5_qf_X10_wantType (f5_n S F)) ?_; intro u17 Qu17
  have Fu17 : F5c h u17 := f5_t F Qu17
  refine pc_if (fun _ => ?_) (fun _ => ?_)
  · exact pc_imp (f5_qj_X10_readCall_245 G (f5_n S Fu17)) (fun _ q => f5_t Fu17 q)
  · exact pc_imp (f5_qj_X10_readCall_245 G (f5_n S Fu17)) (fun _ q => f5_t Fu17 q)
theorem f5_qj_X10_readCall_222 {rc : tq_X10_readValue} {l1 : Int} {l2 : Int} {l3 : Int} {l5 : Int} {l7 : Int} {l9 : Int} (G : F5cG_X10_readValue rc) {h : ms_M} (S : h 45 5 = 1) : Pc (qj_X10_readCall_222 nn rc l1 l2 l3 l5 l7 l9 h) (fun u => F5c h u) := by
  have F : F5c h h := f5_r
  unfold qj_X10_readCall_222
  exact pc_imp (f5_qj_X10_readCall_223 G (f5_n S F)) (fun _ q => f5_t F q)
theorem f5_qj_X10_readCall_192 {rc : tq_X10_readValue} {l1 : Int} {l2 : Int} {l3 : Int} {l5 : Int} {l7 : Int} {l8 : Int} {l9 : Int} {s0 : Int} (G : F5cG_X10_readValue rc) {h : ms_M} (S : h 45 5 = 1) : Pc (qj_X10_readCall_192 nn rc l1 l2 l3 l5 l7 l8 l9 s0 h) (fun u => F5c h u) := by
  have F : F5c h h := f5_r
  unfold qj_X10_readCall_192
  refine pc_if (fun _ => ?_) (fun _ => ?_)
  · exact pc_imp (f5_qj_X10_readCall_222 G (f5_n S F)) (fun _ q => f5_t F q)
  · refine pc_if (fun _ => ?_) (fun _ => ?_)
    · exact pc_imp (f5_qj_X10_readCall_222 G (f5_n S F)) (fun _ q => f5_t F q)
    · refine pc_se ?_; intro u22 _
      refine pc_if (fun _ => ?_) (fun _ => ?_)
      · exact pc_imp (f5_qj_X10_readCall_222 G (f5_n S F)) (fun _ q => f5_t F q)
      · exact pc_imp (f5_qj_X10_readCall_223 G (f5_n S F)) (fun _ q => f5_t F q)
theorem f5_qj_X10_readCall_128 {rc : tq_X10_readValue} {l1 : Int} {l2 : Int} {l3 : Int} {l4 : Int} {l5 : Int} {l7 : Int} {l8 : Int} (G : F5cG_X10_readValue rc) {h : ms_M} (S : h 45 5 = 1) : Pc (qj_X10_readCall_128 nn rc l1 l2 l3 l4 l5 l7 l8 h) (fun u => F5c h u) := by
  have F : F5c h h := f5_r
  unfold qj_X10_readCall_128
  refine pc_xl ?_; intro v28 _
  refine pc_xl ?_; intro h29 Eh29
  have Fh29 : F5c h h29 := by rw [Eh29]; exact f5_u F (by omega)
  refine pc_if (fun _ => ?_) (fun _ => ?_)
  · refine pc_se ?_; intro u34 _
    refine pc_if (fun _ => ?_) (fun _ => ?_)
    · refine pc_if (fun _ => ?_) (fun _ => ?_)
      · exact pc_imp (f5_qj_X10_readCall_192 G (f5_n S Fh29)) (fun _ q => f5_t Fh29 q)
      · exact pc_imp (f5_qj_X10_readCall_192 G (f5_n S Fh29)) (fun _ q => f5_t Fh29 q)
    · refine pc_if (fun _ => ?_) (fun _ => ?_)
      · exact pc_imp (f5_qj_X10_readCall_192 G (f5_n S Fh29)) (fun _ q => f5_t Fh29 q)
      · exact pc_imp (f5_qj_X10_readCall_192 G (f5_n S Fh29)) (fun _ q => f5_t Fh29 q)
  · exact pc_ret Fh29
theorem f5_qj_X10_readCall_92 {rc : tq_X10_readValue} {l1 : Int} {l2 : Int} {l3 : Int} {l4 : Int} {l5 : Int} {l6 : Int} {l7 : Int} {l9 : Int} {s0 : Int} (G : F5cG_X10_readValue rc) {qkk_22 : Int → Int → Int → Int → Int → Int → Int → Int → Int → ms_M → Option ms_M} (Hqkk_22 : ∀ (z0 : Int) (z1 : Int) (z2 : Int) (z3 : Int) (z4 : Int) (z5 : Int) (z6 : Int) (z7 : Int) (z8 : Int) (z9 : ms_M), z9 45 5 = 1 → Pc (qkk_22 z0 z1 z2 z3 z4 z5 z6 z7 z8 z9) (fun u => F5c z9 u)) {h : ms_M} (S : h 45 5 = 1) : Pc (qj_X10_readCall_92 nn rc qkk_22 l1 l2 l3 l4 l5 l6 l7 l9 s0 h) (fun u => F5c h u) := by
  have F : F5c h h := f5_r
  unfold qj_X10_readCall_92
  refine pc_xl ?_; intro v39 _
  refine pc_se ?_; intro u42 _
  refine pc_if (fun _ => ?_) (fun _ => ?_)
  · refine pc_xl ?_; intro v43 _
    exact pc_imp (Hqkk_22 _ _ _ _ _ _ _ _ _ _ (f5_n S F)) (fun _ q => f5_t F q)
  · refine pc_xl ?_; intro v46 _
    refine pc_xl ?_; intro h47 Eh47
    have Fh47 : F5c h h47 := by rw [Eh47]; exact f5_u F (by omega)
    refine pc_xl ?_; intro v48 _
    exact pc_imp (Hqkk_22 _ _ _ _ _ _ _ _ _ _ (f5_n S Fh47)) (fun _ q => f5_t Fh47 q)
theorem f5_qj_X10_readCall_91 {rc : tq_X10_readValue} {l1 : Int} {l2 : Int} {l3 : Int} {l4 : Int} {l5 : Int} {l6 : Int} {l7 : Int} {l9 : Int} (G : F5cG_X10_readValue rc) {qkk_22 : Int → Int → Int → Int → Int → Int → Int → Int → Int → ms_M → Option ms_M} (Hqkk_22 : ∀ (z0 : Int) (z1 : Int) (z2 : Int) (z3 : Int) (z4 : Int) (z5 : Int) (z6 : Int) (z7 : Int) (z8 : Int) (z9 : ms_M), z9 45 5 = 1 → Pc (qkk_22 z0 z1 z2 z3 z4 z5 z6 z7 z8 z9) (fun u => F5c z9 u)) {h : ms_M} (S : h 45 5 = 1) : Pc (qj_X10_readCall_91 nn rc qkk_22 l1 l2 l3 l4 l5 l6 l7 l9 h) (fun u => F5c h u) := by
  have F : F5c h h := f5_r
  unfold qj_X10_readCall_91
  exact pc_imp (f5_qj_X10_readCall_92 G Hqkk_22 (f5_n S F)) (fun _ q => f5_t F q)
theorem f5_qw_X10_readCall_22 {rc : tq_X10_readValue} (G : F5cG_X10_readValue rc) : ∀ (k : Nat) (l1 : Int) (l2 : Int) (l3 : Int) (l4 : Int) (l5 : Int) (l6 : Int) (l7 : Int) (l8 : Int) (l9 : Int) (h : ms_M), h 45 5 = 1 → Pc (qw_X10_readCall_22 nn rc k l1 l2 l3 l4 l5 l6 l7 l8 l9 h) (fun u => F5c h u) := by
  intro k
  induction k with
  | zero => intros; exact pc_none
  | succ k ih =>
    intro l1 l2 l3 l4 l5 l6 l7 l8 l9 h S
    have F : F5c h h := f5_r
    unfold qw_X10_readCall_22
    refine pc_if (fun _ => ?_) (fun _ => ?_)
    · exact pc_imp (f5_qj_X10_readCall_128 G (f5_n S F)) (fun _ q => f5_t F q)
    · refine pc_if (fun _ => ?_) (fun _ => ?_)
      · exact pc_imp (f5_qj_X10_readCall_128 G (f5_n S F)) (fun _ q => f5_t F q)
      · refine pc_se ?_; intro u54 _
        refine pc_if (fun _ => ?_) (fun _ => ?_)
        · exact pc_imp (f5_qj_X10_readCall_128 G (f5_n S F)) (fun _ q => f5_t F q)
        · refine pc_sv (G.1 (f5_n S F)) ?_; intro u56 Qu56
          have Fu56 : F5c h u56 := f5_t F Qu56
          refine pc_if (fun _ => ?_) (fun _ => ?_)
          · exact pc_imp (f5_qj_X10_readCall_91 G (fun _ _ _ _ _ _ _ _ _ _ S => ih _ _ _ _ _ _ _ _ _ _ S) (f5_n S Fu56)) (fun _ q => f5_t Fu56 q)
          · refine pc_se ?_; intro u61 _
            refine pc_se ?_; intro u63 _
            refine pc_if (fun _ => ?_) (fun _ => ?_)
            · exact pc_imp (f5_qj_X10_readCall_91 G (fun _ _ _ _ _ _ _ _ _ _ S => ih _ _ _ _ _ _ _ _ _ _ S) (f5_n S Fu56)) (fun _ q => f5_t Fu56 q)
            · exact pc_imp (f5_qj_X10_readCall_92 G (fun _ _ _ _ _ _ _ _ _ _ S => ih _ _ _ _ _ _ _ _ _ _ S) (f5_n S Fu56)) (fun _ q => f5_t Fu56 q)
theorem f5_qo_X10_readCall {rc : tq_X10_readValue} {a1 : Int} {a2 : Int} {a3 : Int} {a4 : Int} {a5 : Int} {a6 : Int} (G : F5cG_X10_readValue rc) {h : ms_M} (S : h 45 5 = 1) : Pc (qo_X10_readCall nn rc a1 a2 a3 a4 a5 a6 h) (fun u => F5c h u) := by
  have F : F5c h h := f5_r
  unfold qo_X10_readCall
  refine pc_xl ?_; intro v71 _
  refine pc_xl ?_; intro h72 Eh72
  have Fh72 : F5c h h72 := by rw [Eh72]; exact f5_u F (by omega)
  exact pc_imp (f5_qw_X10_readCall_22 G _ _ _ _ _ _ _ _ _ _ _ (f5_n S Fh72)) (fun _ q => f5_t Fh72 q)
theorem f5g_X10_readValue (nn : Nat) : ∀ d, F5cG_X10_readValue (qg_X10_readValue nn d) := by
  intro d
  induction d with
  | zero => exact ⟨fun _ => pc_none, fun _ => pc_none, fun _ => pc_none, fun _ => pc_none, fun _ => pc_none, fun _ => pc_none, fun _ => pc_none, fun _ => pc_none, fun _ => pc_none⟩
  | succ d ih => exact ⟨fun S => f5_qo_X10_readValue (nn := nn) ih S, fun S => f5_qo_X10_readChoice (nn := nn) ih S, fun S => f5_qo_X10_readUnary (nn := nn) ih S, fun S => f5_qo_X10_readPrimary (nn := nn) ih S, fun S => f5_qo_X10_readNew (nn := nn) ih S, fun S => f5_qo_X10_readElement (nn := nn) ih S, fun S => f5_qo_X10_readNamed (nn := nn) ih S, fun S => f5_qo_X10_readBehindPoint (nn := nn) ih S, fun S => f5_qo_X10_readCall (nn := nn) ih S⟩
theorem f5_qf_X10_readValue {a1 : Int} {h : ms_M} (S : h 45 5 = 1) : Pc (qf_X10_readValue nn a1 h) (fun u => F5c h u) := (f5g_X10_readValue nn 420).1 S
theorem f5_qf_X10_readChoice {a1 : Int} {a2 : Int} {h : ms_M} (S : h 45 5 = 1) : Pc (qf_X10_readChoice nn a1 a2 h) (fun u => F5c h u) := (f5g_X10_readValue nn 420).2.1 S
theorem f5_qf_X10_readUnary {a1 : Int} {h : ms_M} (S : h 45 5 = 1) : Pc (qf_X10_readUnary nn a1 h) (fun u => F5c h u) := (f5g_X10_readValue nn 420).2.2.1 S
theorem f5_qf_X10_readPrimary {a1 : Int} {h : ms_M} (S : h 45 5 = 1) : Pc (qf_X10_readPrimary nn a1 h) (fun u => F5c h u) := (f5g_X10_readValue nn 420).2.2.2.1 S
theorem f5_qf_X10_readNew {a1 : Int} {h : ms_M} (S : h 45 5 = 1) : Pc (qf_X10_readNew nn a1 h) (fun u => F5c h u) := (f5g_X10_readValue nn 420).2.2.2.2.1 S
theorem f5_qf_X10_readElement {a1 : Int} {h : ms_M} (S : h 45 5 = 1) : Pc (qf_X10_readElement nn a1 h) (fun u => F5c h u) := (f5g_X10_readValue nn 420).2.2.2.2.2.1 S
theorem f5_qf_X10_readNamed {a1 : Int} {h : ms_M} (S : h 45 5 = 1) : Pc (qf_X10_readNamed nn a1 h) (fun u => F5c h u) := (f5g_X10_readValue nn 420).2.2.2.2.2.2.1 S
theorem f5_qf_X10_readBehindPoint {a1 : Int} {a2 : Int} {h : ms_M} (S : h 45 5 = 1) : Pc (qf_X10_readBehindPoint nn a1 a2 h) (fun u => F5c h u) := (f5g_X10_readValue nn 420).2.2.2.2.2.2.2.1 S
theorem f5_qf_X10_readCall {a1 : Int} {a2 : Int} {a3 : Int} {a4 : Int} {a5 : Int} {a6 : Int} {h : ms_M} (S : h 45 5 = 1) : Pc (qf_X10_readCall nn a1 a2 a3 a4 a5 a6 h) (fun u => F5c h u) := (f5g_X10_readValue nn 420).2.2.2.2.2.2.2.2 S
theorem f5_qj_X10_readCondition_39 {l2 : Int} {s0 : Int} {h : ms_M} (S : h 45 5 = 1) : Pc (qj_X10_readCondition_39 nn l2 s0 h) (fun u => F5c h u.2) := by
  have F : F5c h h := f5_r
  unfold qj_X10_readCondition_39
  refine pc_sv (f5_qf_X10_wantType (f5_n S F)) ?_; intro u2 Qu2
  have Fu2 : F5c h u2 := f5_t F Qu2
  refine pc_xl ?_; intro v5 _
  refine pc_xl ?_; intro h6 Eh6
  have Fh6 : F5c h h6 := by rw [Eh6]; exact f5_u Fu2 (by omega)
  refine pc_sv (f5_qf_X1_jump (f5_n S Fh6)) ?_; intro u9 Qu9
  have Fu9 : F5c h u9.2 := f5_t Fh6 Qu9
  exact pc_ret Fu9
theorem f5_qf_X10_readCondition {a1 : Int} {h : ms_M} (S : h 45 5 = 1) : Pc (qf_X10_readCondition nn a1 h) (fun u => F5c h u.2) := by
  have F : F5c h h := f5_r
  unfold qf_X10_readCondition
  refine pc_xl ?_; intro v12 _
  refine pc_xl ?_; intro h14 Eh14
  have Fh14 : F5c h h14 := by rw [Eh14]; exact f5_u F (by omega)
  refine pc_sv (f5_qf_X10_readValue (f5_n S Fh14)) ?_; intro u16 Qu16
  have Fu16 : F5c h u16 := f5_t Fh14 Qu16
  refine pc_if (fun _ => ?_) (fun _ => ?_)
  · exact pc_imp (f5_qj_X10_readCondition_39 (f5_n S Fu16)) (fun _ q => f5_t Fu16 q)
  · exact pc_imp (f5_qj_X10_readCondition_39 (f5_n S Fu16)) (fun _ q => f5_t Fu16 q)
theorem f5_qf_X10_readWhole {a1 : Int} {h : ms_M} (S : h 45 5 = 1) : Pc (qf_X10_readWhole nn a1 h) (fun u => F5c h u) := by
  have F : F5c h h := f5_r
  unfold qf_X10_readWhole
  refine pc_sv (f5_qf_X10_readValue (f5_n S F)) ?_; intro u2 Qu2
  have Fu2 : F5c h u2 := f5_t F Qu2
  exact pc_ret Fu2
def F5cG_X0_readBlock (rc : tq_X0_readBlock) : Prop := (∀ {a1 : Int} {h : ms_M}, h 45 5 = 1 → Pc (rc.1 a1 h) (fun u => F5c h u.2)) ∧ (∀ {a1 : Int} {h : ms_M}, h 45 5 = 1 → Pc (rc.2.1 a1 h) (fun u => F5c h u.2)) ∧ (∀ {a1 : Int} {h : ms_M}, h 45 5 = 1 → Pc (rc.2.2.1 a1 h) (fun u => F5c h u.2)) ∧ (∀ {a1 : Int} {h : ms_M}, h 45 5 = 1 → Pc (rc.2.2.2.1 a1 h) (fun u => F5c h u.2)) ∧ (∀ {a1 : Int} {h : ms_M}, h 45 5 = 1 → Pc (rc.2.2.2.2.1 a1 h) (fun u => F5c h u.2)) ∧ (∀ {a1 : Int} {h : ms_M}, h 45 5 = 1 → Pc (rc.2.2.2.2.2 a1 h) (fun u => F5c h u.2))
theorem f5_qf_X1_jumpBack {a1 : Int} {a2 : Int} {h : ms_M} (S : h 45 5 = 1) : Pc (qf_X1_jumpBack nn a1 a2 h) (fun u => F5c h u) := fun u e => ⟨ff_X1_jumpBack nn u e 45 5 rfl, ff_X1_jumpBack nn u e 45 5 rfl⟩
theorem f5_qf_X0_readLeave {h : ms_M} (S : h 45 5 = 1) : Pc (qf_X0_readLeave nn h) (fun u => F5c h u.2) := fun u e => ⟨ff_X0_readLeave nn u e 45 5 rfl, ff_X0_readLeave nn u e 45 5 rfl⟩
theorem f5_qf_X0_closeAlone {a1 : Int} {h : ms_M} (S : h 45 5 = 1) : Pc (qf_X0_closeAlone nn a1 h) (fun u => F5c h u) := fun u e => ⟨ff_X0_closeAlone nn u e 45 5 rfl, ff_X0_closeAlone nn u e 45 5 rfl⟩
theorem f5_qf_X1_store {a1 : Int} {a2 : Int} {h : ms_M} (S : h 45 5 = 1) : Pc (qf_X1_store nn a1 a2 h) (fun u => F5c h u) := fun u e => ⟨ff_X1_store nn u e 45 5 rfl, ff_X1_store nn u e 45 5 rfl⟩
theorem f5_qj_X0_closeGiving_90 {s0 : Int} {h : ms_M} (S : h 45 5 = 1) : Pc (qj_X0_closeGiving_90 nn s0 h) (fun u => F5c h u) := by
  have F : F5c h h := f5_r
  unfold qj_X0_closeGiving_90
  refine pc_sv (f5_qf_X1_op (f5_n S F)) ?_; intro u2 Qu2
  have Fu2 : F5c h u2 := f5_t F Qu2
  refine pc_sv (f5_qf_X1_pop (f5_n S Fu2)) ?_; intro u5 Qu5
  have Fu5 : F5c h u5 := f5_t Fu2 Qu5
  exact pc_ret Fu5
theorem f5_qf_X0_closeGiving {a1 : Int} {a2 : Int} {a3 : Int} {a4 : Int} {h : ms_M} (S : h 45 5 = 1) : Pc (qf_X0_closeGiving nn a1 a2 a3 a4 h) (fun u => F5c h u) := by
  have F : F5c h h := f5_r
  unfold qf_X0_closeGiving
  refine pc_if (fun _ => ?_) (fun _ => ?_)
  · refine pc_sv (f5_qf_X1_store (f5_n S F)) ?_; intro u10 Qu10
    have Fu10 : F5c h u10 := f5_t F Qu10
    exact pc_ret Fu10
  · refine pc_if (fun _ => ?_) (fun _ => ?_)
    · refine pc_sv (f5_qf_X6_fieldOf (f5_n S F)) ?_; intro u14 Qu14
      have Fu14 : F5c h u14.2 := f5_t F Qu14
      refine pc_sv (f5_qf_X1_op_ (f5_n S Fu14)) ?_; intro u16 Qu16
      have Fu16 : F5c h u16 := f5_t Fu14 Qu16
      refine pc_sv (f5_qf_X1_pop (f5_n S Fu16)) ?_; intro u19 Qu19
      have Fu19 : F5c h u19 := f5_t Fu16 Qu19
      exact pc_ret Fu19
    · refine pc_if (fun _ => ?_) (fun _ => ?_)
      · exact pc_imp (f5_qj_X0_closeGiving_90 (f5_n S F)) (fun _ q => f5_t F q)
      · exact pc_imp (f5_qj_X0_closeGiving_90 (f5_n S F)) (fun _ q => f5_t F q)
theorem f5_qj_X0_readPlain_156 {h : ms_M} (S : h 45 5 = 1) : Pc (qj_X0_readPlain_156 nn h) (fun u => F5c h u.2) := by
  have F : F5c h h := f5_r
  unfold qj_X0_readPlain_156
  refine pc_xl ?_; intro v3 _
  refine pc_xl ?_; intro h4 Eh4
  have Fh4 : F5c h h4 := by rw [Eh4]; exact f5_u F (by omega)
  exact pc_ret Fh4
theorem f5_qj_X0_readPlain_136 {l4 : Int} {l5 : Int} {l6 : Int} {l7 : Int} {h : ms_M} (S : h 45 5 = 1) : Pc (qj_X0_readPlain_136 nn l4 l5 l6 l7 h) (fun u => F5c h u.2) := by
  have F : F5c h h := f5_r
  unfold qj_X0_readPlain_136
  refine pc_sv (f5_qf_X0_closeGiving (f5_n S F)) ?_; intro u6 Qu6
  have Fu6 : F5c h u6 := f5_t F Qu6
  exact pc_imp (f5_qj_X0_readPlain_156 (f5_n S Fu6)) (fun _ q => f5_t Fu6 q)
theorem f5_qj_X0_readPlain_126 {l3 : Int} {l4 : Int} {l5 : Int} {l6 : Int} {l7 : Int} {h : ms_M} (S : h 45 5 = 1) : Pc (qj_X0_readPlain_126 nn l3 l4 l5 l6 l7 h) (fun u => F5c h u.2) := by
  have F : F5c h h := f5_r
  unfold qj_X0_readPlain_126
  refine pc_sv (f5_qf_X9_tell (f5_n S F)) ?_; intro u9 Qu9
  have Fu9 : F5c h u9 := f5_t F Qu9
  exact pc_imp (f5_qj_X0_readPlain_136 (f5_n S Fu9)) (fun _ q => f5_t Fu9 q)
theorem f5_qf_X0_readPlain {a1 : Int} {h : ms_M} (S : h 45 5 = 1) : Pc (qf_X0_readPlain nn a1 h) (fun u => F5c h u.2) := by
  have F : F5c h h := f5_r
  unfold qf_X0_readPlain
  refine pc_xl ?_; intro h13 Eh13
  have Fh13 : F5c h h13 := by rw [Eh13]; exact f5_u F (by omega)
  refine pc_sv (f5_qf_X10_readWhole (f5_n S Fh13)) ?_; intro u16 Qu16
  have Fu16 : F5c h u16 := f5_t Fh13 Qu16
  refine pc_se ?_; intro u19 _
  refine pc_if (fun _ => ?_) (fun _ => ?_)
  · refine pc_sv (f5_qf_X0_closeAlone (f5_n S Fu16)) ?_; intro u21 Qu21
    have Fu21 : F5c h u21 := f5_t Fu16 Qu21
    exact pc_imp (f5_qj_X0_readPlain_156 (f5_n S Fu21)) (fun _ q => f5_t Fu21 q)
  · refine pc_xl ?_; intro v34 _
    refine pc_xl ?_; intro h35 Eh35
    have Fh35 : F5c h h35 := by rw [Eh35]; exact f5_u Fu16 (by omega)
    refine pc_sv (f5_qf_X10_readWhole (f5_n S Fh35)) ?_; intro u38 Qu38
    have Fu38 : F5c h u38 := f5_t Fh35 Qu38
    refine pc_if (fun _ => ?_) (fun _ => ?_)
    · exact pc_imp (f5_qj_X0_readPlain_126 (f5_n S Fu38)) (fun _ q => f5_t Fu38 q)
    · refine pc_se ?_; intro u43 _
      refine pc_if (fun _ => ?_) (fun _ => ?_)
      · exact pc_imp (f5_qj_X0_readPlain_136 (f5_n S Fu38)) (fun _ q => f5_t Fu38 q)
      · exact pc_imp (f5_qj_X0_readPlain_126 (f5_n S Fu38)) (fun _ q => f5_t Fu38 q)
theorem f5_qj_X0_readPrint_52 {h : ms_M} (S : h 45 5 = 1) : Pc (qj_X0_readPrint_52 nn h) (fun u => F5c h u.2) := by
  have F : F5c h h := f5_r
  unfold qj_X0_readPrint_52
  refine pc_sv (f5_qf_X1_op (f5_n S F)) ?_; intro u3 Qu3
  have Fu3 : F5c h u3 := f5_t F Qu3
  refine pc_sv (f5_qf_X1_pop (f5_n S Fu3)) ?_; intro u6 Qu6
  have Fu6 : F5c h u6 := f5_t Fu3 Qu6
  refine pc_xl ?_; intro v9 _
  refine pc_xl ?_; intro h10 Eh10
  have Fh10 : F5c h h10 := by rw [Eh10]; exact f5_u Fu6 (by omega)
  exact pc_ret Fh10
theorem f5_qf_X0_readPrint {a1 : Int} {h : ms_M} (S : h 45 5 = 1) : Pc (qf_X0_readPrint nn a1 h) (fun u => F5c h u.2) := by
  have F : F5c h h := f5_r
  unfold qf_X0_readPrint
  refine pc_xl ?_; intro v15 _
  refine pc_xl ?_; intro h16 Eh16
  have Fh16 : F5c h h16 := by rw [Eh16]; exact f5_u F (by omega)
  refine pc_sv (f5_qf_X10_readWhole (f5_n S Fh16)) ?_; intro u19 Qu19
  have Fu19 : F5c h u19 := f5_t Fh16 Qu19
  refine pc_se ?_; intro u22 _
  refine pc_if (fun _ => ?_) (fun _ => ?_)
  · exact pc_imp (f5_qj_X0_readPrint_52 (f5_n S Fu19)) (fun _ q => f5_t Fu19 q)
  · refine pc_sv (f5_qf_X9_tell (f5_n S Fu19)) ?_; intro u25 Qu25
    have Fu25 : F5c h u25 := f5_t Fu19 Qu25
    exact pc_imp (f5_qj_X0_readPrint_52 (f5_n S Fu25)) (fun _ q => f5_t Fu25 q)
theorem f5_qj_X0_readReturn_158 {h : ms_M} (S : h 45 5 = 1) : Pc (qj_X0_readReturn_158 nn h) (fun u => F5c h u.2) := by
  have F : F5c h h := f5_r
  unfold qj_X0_readReturn_158
  refine pc_xl ?_; intro v3 _
  refine pc_xl ?_; intro h4 Eh4
  have Fh4 : F5c h h4 := by rw [Eh4]; exact f5_u F (by omega)
  exact pc_ret Fh4
theorem f5_qj_X0_readReturn_147 {s0 : Int} {h : ms_M} (S : h 45 5 = 1) : Pc (qj_X0_readReturn_147 nn s0 h) (fun u => F5c h u.2) := by
  have F : F5c h h := f5_r
  unfold qj_X0_readReturn_147
  refine pc_sv (f5_qf_X1_op (f5_n S F)) ?_; intro u6 Qu6
  have Fu6 : F5c h u6 := f5_t F Qu6
  refine pc_sv (f5_qf_X1_pop (f5_n S Fu6)) ?_; intro u9 Qu9
  have Fu9 : F5c h u9 := f5_t Fu6 Qu9
  exact pc_imp (f5_qj_X0_readReturn_158 (f5_n S Fu9)) (fun _ q => f5_t Fu9 q)
theorem f5_qj_X0_readReturn_124 {h : ms_M} (S : h 45 5 = 1) : Pc (qj_X0_readReturn_124 nn h) (fun u => F5c h u.2) := by
  have F : F5c h h := f5_r
  unfold qj_X0_readReturn_124
  refine pc_se ?_; intro u12 _
  refine pc_if (fun _ => ?_) (fun _ => ?_)
  · exact pc_imp (f5_qj_X0_readReturn_147 (f5_n S F)) (fun _ q => f5_t F q)
  · exact pc_imp (f5_qj_X0_readReturn_147 (f5_n S F)) (fun _ q => f5_t F q)
theorem f5_qj_X0_readReturn_68 {l1 : Int} {l2 : Int} {l3 : Int} {h : ms_M} (S : h 45 5 = 1) : Pc (qj_X0_readReturn_68 nn l1 l2 l3 h) (fun u => F5c h u.2) := by
  have F : F5c h h := f5_r
  unfold qj_X0_readReturn_68
  refine pc_if (fun _ => ?_) (fun _ => ?_)
  · refine pc_sv (f5_qf_X10_readWhole (f5_n S F)) ?_; intro u16 Qu16
    have Fu16 : F5c h u16 := f5_t F Qu16
    refine pc_se ?_; intro u22 _
    refine pc_if (fun _ => ?_) (fun _ => ?_)
    · exact pc_imp (f5_qj_X0_readReturn_124 (f5_n S Fu16)) (fun _ q => f5_t Fu16 q)
    · refine pc_sv (f5_qf_X9_tell (f5_n S Fu16)) ?_; intro u25 Qu25
      have Fu25 : F5c h u25 := f5_t Fu16 Qu25
      exact pc_imp (f5_qj_X0_readReturn_124 (f5_n S Fu25)) (fun _ q => f5_t Fu25 q)
  · refine pc_sv (f5_qf_X1_op (f5_n S F)) ?_; intro u29 Qu29
    have Fu29 : F5c h u29 := f5_t F Qu29
    exact pc_imp (f5_qj_X0_readReturn_158 (f5_n S Fu29)) (fun _ q => f5_t Fu29 q)
theorem f5_qj_X0_readReturn_55 {l1 : Int} {l2 : Int} {l3 : Int} {s0 : Int} {s1 : Int} {h : ms_M} (S : h 45 5 = 1) : Pc (qj_X0_readReturn_55 nn l1 l2 l3 s0 s1 h) (fun u => F5c h u.2) := by
  have F : F5c h h := f5_r
  unfold qj_X0_readReturn_55
  refine pc_if (fun _ => ?_) (fun _ => ?_)
  · exact pc_imp (f5_qj_X0_readReturn_68 (f5_n S F)) (fun _ q => f5_t F q)
  · refine pc_sv (f5_qf_X9_tell (f5_n S F)) ?_; intro u33 Qu33
    have Fu33 : F5c h u33 := f5_t F Qu33
    exact pc_imp (f5_qj_X0_readReturn_68 (f5_n S Fu33)) (fun _ q => f5_t Fu33 q)
theorem f5_qj_X0_readReturn_38 {l1 : Int} {l2 : Int} {s0 : Int} {h : ms_M} (S : h 45 5 = 1) : Pc (qj_X0_readReturn_38 nn l1 l2 s0 h) (fun u => F5c h u.2) := by
  have F : F5c h h := f5_r
  unfold qj_X0_readReturn_38
  refine pc_if (fun _ => ?_) (fun _ => ?_)
  · exact pc_imp (f5_qj_X0_readReturn_55 (f5_n S F)) (fun _ q => f5_t F q)
  · exact pc_imp (f5_qj_X0_readReturn_55 (f5_n S F)) (fun _ q => f5_t F q)
theorem f5_qf_X0_readReturn {a1 : Int} {h : ms_M} (S : h 45 5 = 1) : Pc (qf_X0_readReturn nn a1 h) (fun u => F5c h u.2) := by
  have F : F5c h h := f5_r
  unfold qf_X0_readReturn
  refine pc_xl ?_; intro v41 _
  refine pc_xl ?_; intro h42 Eh42
  have Fh42 : F5c h h42 := by rw [Eh42]; exact f5_u F (by omega)
  refine pc_se ?_; intro u45 _
  refine pc_if (fun _ => ?_) (fun _ => ?_)
  · exact pc_imp (f5_qj_X0_readReturn_38 (f5_n S Fh42)) (fun _ q => f5_t Fh42 q)
  · exact pc_imp (f5_qj_X0_readReturn_38 (f5_n S Fh42)) (fun _ q => f5_t Fh42 q)
theorem f5_qj_X0_readThrow_57 {h : ms_M} (S : h 45 5 = 1) : Pc (qj_X0_readThrow_57 nn h) (fun u => F5c h u.2) := by
  have F : F5c h h := f5_r
  unfold qj_X0_readThrow_57
  refine pc_sv (f5_qf_X1_op (f5_n S F)) ?_; intro u3 Qu3
  have Fu3 : F5c h u3 := f5_t F Qu3
  refine pc_sv (f5_qf_X1_pop (f5_n S Fu3)) ?_; intro u6 Qu6
  have Fu6 : F5c h u6 := f5_t Fu3 Qu6
  refine pc_xl ?_; intro v9 _
  refine pc_xl ?_; intro h10 Eh10
  have Fh10 : F5c h h10 := by rw [Eh10]; exact f5_u Fu6 (by omega)
  exact pc_ret Fh10
theorem f5_qf_X0_readThrow {a1 : Int} {h : ms_M} (S : h 45 5 = 1) : Pc (qf_X0_readThrow nn a1 h) (fun u => F5c h u.2) := by
  have F : F5c h h := f5_r
  unfold qf_X0_readThrow
  refine pc_xl ?_; intro v15 _
  refine pc_xl ?_; intro h16 Eh16
  have Fh16 : F5c h h16 := by rw [Eh16]; exact f5_u F (by omega)
  refine pc_sv (f5_qf_X10_readWhole (f5_n S Fh16)) ?_; intro u19 Qu19
  have Fu19 : F5c h u19 := f5_t Fh16 Qu19
  refine pc_se ?_; intro u24 _
  refine pc_if (fun _ => ?_) (fun _ => ?_)
  · exact pc_imp (f5_qj_X0_readThrow_57 (f5_n S Fu19)) (fun _ q => f5_t Fu19 q)
  · refine pc_sv (f5_qf_X9_tell (f5_n S Fu19)) ?_; intro u27 Qu27
    have Fu27 : F5c h u27 := f5_t Fu19 Qu27
    exact pc_imp (f5_qj_X0_readThrow_57 (f5_n S Fu27)) (fun _ q => f5_t Fu27 q)
theorem f5_qf_X0_checkTwice {a1 : Int} {h : ms_M} (S : h 45 5 = 1) : Pc (qf_X0_checkTwice nn a1 h) (fun u => F5c h u) := fun u e => ⟨ff_X0_checkTwice nn u e 45 5 rfl, ff_X0_checkTwice nn u e 45 5 rfl⟩
theorem f5_qf_X1_addHandler {a1 : Int} {a2 : Int} {a3 : Int} {h : ms_M} (S : h 45 5 = 1) : Pc (qf_X1_addHandler nn a1 a2 a3 h) (fun u => F5c h u) := fun u e => ⟨ff_X1_addHandler nn u e 45 5 rfl, ff_X1_addHandler nn u e 45 5 rfl⟩
theorem f5_qf_X1_addLocal {a1 : Int} {a2 : Int} {h : ms_M} (S : h 45 5 = 1) : Pc (qf_X1_addLocal nn a1 a2 h) (fun u => F5c h u.2) := fun u e => ⟨ff_X1_addLocal nn u e 45 5 rfl, ff_X1_addLocal nn u e 45 5 rfl⟩
theorem f5_qf_X2_readType {h : ms_M} (S : h 45 5 = 1) : Pc (qf_X2_readType nn h) (fun u => F5c h u.2) := fun u e => ⟨ff_X2_readType nn u e 45 5 rfl, ff_X2_readType nn u e 45 5 rfl⟩
theorem f5_qj_X0_readVariable_69 {l2 : Int} {l3 : Int} {h : ms_M} (S : h 45 5 = 1) : Pc (qj_X0_readVariable_69 nn l2 l3 h) (fun u => F5c h u.2) := by
  have F : F5c h h := f5_r
  unfold qj_X0_readVariable_69
  refine pc_se ?_; intro u5 _
  refine pc_sv (f5_qf_X1_addLocal (f5_n S F)) ?_; intro u7 Qu7
  have Fu7 : F5c h u7.2 := f5_t F Qu7
  refine pc_sv (f5_qf_X1_store (f5_n S Fu7)) ?_; intro u9 Qu9
  have Fu9 : F5c h u9 := f5_t Fu7 Qu9
  refine pc_xl ?_; intro v12 _
  refine pc_xl ?_; intro h13 Eh13
  have Fh13 : F5c h h13 := by rw [Eh13]; exact f5_u Fu9 (by omega)
  exact pc_ret Fh13
theorem f5_qf_X0_readVariable {a1 : Int} {h : ms_M} (S : h 45 5 = 1) : Pc (qf_X0_readVariable nn a1 h) (fun u => F5c h u.2) := by
  have F : F5c h h := f5_r
  unfold qf_X0_readVariable
  refine pc_sv (f5_qf_X2_readType (f5_n S F)) ?_; intro u16 Qu16
  have Fu16 : F5c h u16.2 := f5_t F Qu16
  refine pc_sv (f5_qf_X0_checkTwice (f5_n S Fu16)) ?_; intro u20 Qu20
  have Fu20 : F5c h u20 := f5_t Fu16 Qu20
  refine pc_xl ?_; intro v22 _
  refine pc_xl ?_; intro h23 Eh23
  have Fh23 : F5c h h23 := by rw [Eh23]; exact f5_u Fu20 (by omega)
  refine pc_sv (f5_qf_X10_readWhole (f5_n S Fh23)) ?_; intro u26 Qu26
  have Fu26 : F5c h u26 := f5_t Fh23 Qu26
  refine pc_se ?_; intro u31 _
  refine pc_if (fun _ => ?_) (fun _ => ?_)
  · exact pc_imp (f5_qj_X0_readVariable_69 (f5_n S Fu26)) (fun _ q => f5_t Fu26 q)
  · refine pc_xl ?_; intro v33 _
    refine pc_sv (f5_qf_X9_tell (f5_n S Fu26)) ?_; intro u35 Qu35
    have Fu35 : F5c h u35 := f5_t Fu26 Qu35
    exact pc_imp (f5_qj_X0_readVariable_69 (f5_n S Fu35)) (fun _ q => f5_t Fu35 q)
theorem f5_qj_X0_readBlock_88 {rc : tq_X0_readBlock} {l2 : Int} {l3 : Int} (G : F5cG_X0_readBlock rc) {h : ms_M} (S : h 45 5 = 1) : Pc (qj_X0_readBlock_88 nn rc l2 l3 h) (fun u => F5c h u.2) := by
  have F : F5c h h := f5_r
  unfold qj_X0_readBlock_88
  refine pc_xl ?_; intro v3 _
  refine pc_xl ?_; intro h4 Eh4
  have Fh4 : F5c h h4 := by rw [Eh4]; exact f5_u F (by omega)
  refine pc_xl ?_; intro h6 Eh6
  have Fh6 : F5c h h6 := by rw [Eh6]; exact f5_u Fh4 (by omega)
  refine pc_ck (fun _ => ?_)
  exact pc_ret Fh6
theorem f5_qj_X0_readBlock_76 {rc : tq_X0_readBlock} {l1 : Int} {l2 : Int} {l4 : Int} (G : F5cG_X0_readBlock rc) {qkk_26 : Int → Int → Int → Int → ms_M → Option (Int × ms_M)} (Hqkk_26 : ∀ (z0 : Int) (z1 : Int) (z2 : Int) (z3 : Int) (z4 : ms_M), z4 45 5 = 1 → Pc (qkk_26 z0 z1 z2 z3 z4) (fun u => F5c z4 u.2)) {h : ms_M} (S : h 45 5 = 1) : Pc (qj_X0_readBlock_76 nn rc qkk_26 l1 l2 l4 h) (fun u => F5c h u.2) := by
  have F : F5c h h := f5_r
  unfold qj_X0_readBlock_76
  refine pc_sv (G.2.2.1 (f5_n S F)) ?_; intro u9 Qu9
  have Fu9 : F5c h u9.2 := f5_t F Qu9
  refine pc_xl ?_; intro v10 _
  exact pc_imp (Hqkk_26 _ _ _ _ _ (f5_n S Fu9)) (fun _ q => f5_t Fu9 q)
theorem f5_qw_X0_readBlock_26 {rc : tq_X0_readBlock} (G : F5cG_X0_readBlock rc) : ∀ (k : Nat) (l1 : Int) (l2 : Int) (l3 : Int) (l4 : Int) (h : ms_M), h 45 5 = 1 → Pc (qw_X0_readBlock_26 nn rc k l1 l2 l3 l4 h) (fun u => F5c h u.2) := by
  intro k
  induction k with
  | zero => intros; exact pc_none
  | succ k ih =>
    intro l1 l2 l3 l4 h S
    have F : F5c h h := f5_r
    unfold qw_X0_readBlock_26
    refine pc_if (fun _ => ?_) (fun _ => ?_)
    · exact pc_imp (f5_qj_X0_readBlock_88 G (f5_n S F)) (fun _ q => f5_t F q)
    · refine pc_if (fun _ => ?_) (fun _ => ?_)
      · exact pc_imp (f5_qj_X0_readBlock_88 G (f5_n S F)) (fun _ q => f5_t F q)
      · refine pc_se ?_; intro u15 _
        refine pc_if (fun _ => ?_) (fun _ => ?_)
        · exact pc_imp (f5_qj_X0_readBlock_88 G (f5_n S F)) (fun _ q => f5_t F q)
        · refine pc_if (fun _ => ?_) (fun _ => ?_)
          · exact pc_imp (f5_qj_X0_readBlock_76 G (fun _ _ _ _ _ S => ih _ _ _ _ _ S) (f5_n S F)) (fun _ q => f5_t F q)
          · refine pc_sv (f5_qf_X9_tell (f5_n S F)) ?_; intro u20 Qu20
            have Fu20 : F5c h u20 := f5_t F Qu20
            exact pc_imp (f5_qj_X0_readBlock_76 G (fun _ _ _ _ _ S => ih _ _ _ _ _ S) (f5_n S Fu20)) (fun _ q => f5_t Fu20 q)
theorem f5_qo_X0_readBlock {rc : tq_X0_readBlock} {a1 : Int} (G : F5cG_X0_readBlock rc) {h : ms_M} (S : h 45 5 = 1) : Pc (qo_X0_readBlock nn rc a1 h) (fun u => F5c h u.2) := by
  have F : F5c h h := f5_r
  unfold qo_X0_readBlock
  refine pc_xl ?_; intro v29 _
  refine pc_xl ?_; intro h30 Eh30
  have Fh30 : F5c h h30 := by rw [Eh30]; exact f5_u F (by omega)
  exact pc_imp (f5_qw_X0_readBlock_26 G _ _ _ _ _ _ (f5_n S Fh30)) (fun _ q => f5_t Fh30 q)
theorem f5_qo_X0_readPart {rc : tq_X0_readBlock} {a1 : Int} (G : F5cG_X0_readBlock rc) {h : ms_M} (S : h 45 5 = 1) : Pc (qo_X0_readPart nn rc a1 h) (fun u => F5c h u.2) := by
  have F : F5c h h := f5_r
  unfold qo_X0_readPart
  refine pc_sv (G.2.2.1 (f5_n S F)) ?_; intro u4 Qu4
  have Fu4 : F5c h u4.2 := f5_t F Qu4
  refine pc_xl ?_; intro h6 Eh6
  have Fh6 : F5c h h6 := by rw [Eh6]; exact f5_u Fu4 (by omega)
  refine pc_ck (fun _ => ?_)
  exact pc_ret Fh6
theorem f5_qj_X0_readStatement_217 {rc : tq_X0_readBlock} {l1 : Int} (G : F5cG_X0_readBlock rc) {h : ms_M} (S : h 45 5 = 1) : Pc (qj_X0_readStatement_217 nn rc l1 h) (fun u => F5c h u.2) := by
  have F : F5c h h := f5_r
  unfold qj_X0_readStatement_217
  refine pc_se ?_; intro u3 _
  refine pc_if (fun _ => ?_) (fun _ => ?_)
  · refine pc_xl ?_; intro v4 _
    refine pc_sv (f5_qf_X0_readPlain (f5_n S F)) ?_; intro u6 Qu6
    have Fu6 : F5c h u6.2 := f5_t F Qu6
    refine pc_ck (fun _ => ?_)
    exact pc_ret Fu6
  · refine pc_xl ?_; intro v8 _
    refine pc_sv (f5_qf_X0_readVariable (f5_n S F)) ?_; intro u10 Qu10
    have Fu10 : F5c h u10.2 := f5_t F Qu10
    refine pc_ck (fun _ => ?_)
    exact pc_ret Fu10
theorem f5_qj_X0_readStatement_188 {rc : tq_X0_readBlock} (G : F5cG_X0_readBlock rc) {h : ms_M} (S : h 45 5 = 1) : Pc (qj_X0_readStatement_188 nn rc h) (fun u => F5c h u.2) := by
  have F : F5c h h := f5_r
  unfold qj_X0_readStatement_188
  refine pc_sv (f5_qf_X0_readLeave (f5_n S F)) ?_; intro u14 Qu14
  have Fu14 : F5c h u14.2 := f5_t F Qu14
  refine pc_ck (fun _ => ?_)
  exact pc_ret Fu14
theorem f5_qo_X0_readStatement {rc : tq_X0_readBlock} {a1 : Int} (G : F5cG_X0_readBlock rc) {h : ms_M} (S : h 45 5 = 1) : Pc (qo_X0_readStatement nn rc a1 h) (fun u => F5c h u.2) := by
  have F : F5c h h := f5_r
  unfold qo_X0_readStatement
  refine pc_if (fun _ => ?_) (fun _ => ?_)
  · refine pc_se ?_; intro u18 _
    refine pc_if (fun _ => ?_) (fun _ => ?_)
    · exact pc_imp (f5_qj_X0_readStatement_188 G (f5_n S F)) (fun _ q => f5_t F q)
    · refine pc_if (fun _ => ?_) (fun _ => ?_)
      · exact pc_imp (f5_qj_X0_readStatement_188 G (f5_n S F)) (fun _ q => f5_t F q)
      · refine pc_if (fun _ => ?_) (fun _ => ?_)
        · refine pc_xl ?_; intro v19 _
          refine pc_sv (G.2.2.2.1 (f5_n S F)) ?_; intro u21 Qu21
          have Fu21 : F5c h u21.2 := f5_t F Qu21
          refine pc_ck (fun _ => ?_)
          exact pc_ret Fu21
        · refine pc_if (fun _ => ?_) (fun _ => ?_)
          · refine pc_xl ?_; intro v23 _
            refine pc_sv (f5_qf_X0_readPrint (f5_n S F)) ?_; intro u25 Qu25
            have Fu25 : F5c h u25.2 := f5_t F Qu25
            refine pc_ck (fun _ => ?_)
            exact pc_ret Fu25
          · refine pc_if (fun _ => ?_) (fun _ => ?_)
            · refine pc_xl ?_; intro v27 _
              refine pc_sv (f5_qf_X0_readReturn (f5_n S F)) ?_; intro u29 Qu29
              have Fu29 : F5c h u29.2 := f5_t F Qu29
              refine pc_ck (fun _ => ?_)
              exact pc_ret Fu29
            · refine pc_if (fun _ => ?_) (fun _ => ?_)
              · refine pc_xl ?_; intro v31 _
                refine pc_sv (f5_qf_X0_readThrow (f5_n S F)) ?_; intro u33 Qu33
                have Fu33 : F5c h u33.2 := f5_t F Qu33
                refine pc_ck (fun _ => ?_)
                exact pc_ret Fu33
              · refine pc_if (fun _ => ?_) (fun _ => ?_)
                · refine pc_xl ?_; intro v35 _
                  refine pc_sv (G.2.2.2.2.2 (f5_n S F)) ?_; intro u37 Qu37
                  have Fu37 : F5c h u37.2 := f5_t F Qu37
                  refine pc_ck (fun _ => ?_)
                  exact pc_ret Fu37
                · refine pc_if (fun _ => ?_) (fun _ => ?_)
                  · refine pc_xl ?_; intro v39 _
                    refine pc_sv (G.2.2.2.2.1 (f5_n S F)) ?_; intro u41 Qu41
                    have Fu41 : F5c h u41.2 := f5_t F Qu41
                    refine pc_ck (fun _ => ?_)
                    exact pc_ret Fu41
                  · refine pc_if (fun _ => ?_) (fun _ => ?_)
                    · refine pc_xl ?_; intro v43 _
                      refine pc_sv (G.1 (f5_n S F)) ?_; intro u45 Qu45
                      have Fu45 : F5c h u45.2 := f5_t F Qu45
                      refine pc_ck (fun _ => ?_)
                      exact pc_ret Fu45
                    · exact pc_imp (f5_qj_X0_readStatement_217 G (f5_n S F)) (fun _ q => f5_t F q)
  · exact pc_ret F
theorem f5_qj_X0_readIf_99 {rc : tq_X0_readBlock} {l3 : Int} {l5 : Int} (G : F5cG_X0_readBlock rc) {h : ms_M} (S : h 45 5 = 1) : Pc (qj_X0_readIf_99 nn rc l3 l5 h) (fun u => F5c h u.2) := by
  have F : F5c h h := f5_r
  unfold qj_X0_readIf_99
  refine pc_if (fun _ => ?_) (fun _ => ?_)
  · exact pc_ret F
  · refine pc_if (fun _ => ?_) (fun _ => ?_)
    · exact pc_ret F
    · exact pc_ret F
theorem f5_qj_X0_readIf_69 {rc : tq_X0_readBlock} {l1 : Int} {l2 : Int} {l3 : Int} {s0 : Int} (G : F5cG_X0_readBlock rc) {h : ms_M} (S : h 45 5 = 1) : Pc (qj_X0_readIf_69 nn rc l1 l2 l3 s0 h) (fun u => F5c h u.2) := by
  have F : F5c h h := f5_r
  unfold qj_X0_readIf_69
  refine pc_sv (f5_qf_X1_aimHere (f5_n S F)) ?_; intro u5 Qu5
  have Fu5 : F5c h u5 := f5_t F Qu5
  refine pc_sv (G.2.1 (f5_n S Fu5)) ?_; intro u7 Qu7
  have Fu7 : F5c h u7.2 := f5_t Fu5 Qu7
  refine pc_if (fun _ => ?_) (fun _ => ?_)
  · exact pc_imp (f5_qj_X0_readIf_99 G (f5_n S Fu7)) (fun _ q => f5_t Fu7 q)
  · refine pc_sv (f5_qf_X1_aimHere (f5_n S Fu7)) ?_; intro u10 Qu10
    have Fu10 : F5c h u10 := f5_t Fu7 Qu10
    exact pc_imp (f5_qj_X0_readIf_99 G (f5_n S Fu10)) (fun _ q => f5_t Fu10 q)
theorem f5_qo_X0_readIf {rc : tq_X0_readBlock} {a1 : Int} (G : F5cG_X0_readBlock rc) {h : ms_M} (S : h 45 5 = 1) : Pc (qo_X0_readIf nn rc a1 h) (fun u => F5c h u.2) := by
  have F : F5c h h := f5_r
  unfold qo_X0_readIf
  refine pc_sv (f5_qf_X10_readCondition (f5_n S F)) ?_; intro u14 Qu14
  have Fu14 : F5c h u14.2 := f5_t F Qu14
  refine pc_sv (G.2.1 (f5_n S Fu14)) ?_; intro u16 Qu16
  have Fu16 : F5c h u16.2 := f5_t Fu14 Qu16
  refine pc_se ?_; intro u19 _
  refine pc_if (fun _ => ?_) (fun _ => ?_)
  · refine pc_xl ?_; intro v22 _
    refine pc_xl ?_; intro h23 Eh23
    have Fh23 : F5c h h23 := by rw [Eh23]; exact f5_u Fu16 (by omega)
    refine pc_if (fun _ => ?_) (fun _ => ?_)
    · exact pc_imp (f5_qj_X0_readIf_69 G (f5_n S Fh23)) (fun _ q => f5_t Fh23 q)
    · refine pc_sv (f5_qf_X1_jump (f5_n S Fh23)) ?_; intro u26 Qu26
      have Fu26 : F5c h u26.2 := f5_t Fh23 Qu26
      exact pc_imp (f5_qj_X0_readIf_69 G (f5_n S Fu26)) (fun _ q => f5_t Fu26 q)
  · refine pc_sv (f5_qf_X1_aimHere (f5_n S Fu16)) ?_; intro u30 Qu30
    have Fu30 : F5c h u30 := f5_t Fu16 Qu30
    exact pc_ret Fu30
theorem f5_qj_X0_readWhile_187 {rc : tq_X0_readBlock} {l2 : Int} {l3 : Int} {l4 : Int} {l8 : Int} (G : F5cG_X0_readBlock rc) {h : ms_M} (S : h 45 5 = 1) : Pc (qj_X0_readWhile_187 nn rc l2 l3 l4 l8 h) (fun u => F5c h u.2) := by
  have F : F5c h h := f5_r
  unfold qj_X0_readWhile_187
  refine pc_xl ?_; intro h1 Eh1
  have Fh1 : F5c h h1 := by rw [Eh1]; exact f5_u F (by omega)
  refine pc_xl ?_; intro h2 Eh2
  have Fh2 : F5c h h2 := by rw [Eh2]; exact f5_u Fh1 (by omega)
  refine pc_xl ?_; intro h3 Eh3
  have Fh3 : F5c h h3 := by rw [Eh3]; exact f5_u Fh2 (by omega)
  refine pc_ck (fun _ => ?_)
  exact pc_ret Fh3
theorem f5_qw_X0_readWhile_148 {rc : tq_X0_readBlock} (G : F5cG_X0_readBlock rc) : ∀ (k : Nat) (l2 : Int) (l3 : Int) (l4 : Int) (l8 : Int) (l9 : Int) (h : ms_M), h 45 5 = 1 → Pc (qw_X0_readWhile_148 nn rc k l2 l3 l4 l8 l9 h) (fun u => F5c h u.2) := by
  intro k
  induction k with
  | zero => intros; exact pc_none
  | succ k ih =>
    intro l2 l3 l4 l8 l9 h S
    have F : F5c h h := f5_r
    unfold qw_X0_readWhile_148
    refine pc_if (fun _ => ?_) (fun _ => ?_)
    · exact pc_imp (f5_qj_X0_readWhile_187 G (f5_n S F)) (fun _ q => f5_t F q)
    · refine pc_if (fun _ => ?_) (fun _ => ?_)
      · exact pc_imp (f5_qj_X0_readWhile_187 G (f5_n S F)) (fun _ q => f5_t F q)
      · refine pc_rA ?_; intro _ _ v10 _
        refine pc_sv (f5_qf_X1_aimHere (f5_n S F)) ?_; intro u12 Qu12
        have Fu12 : F5c h u12 := f5_t F Qu12
        refine pc_xl ?_; intro v13 _
        exact pc_imp (ih _ _ _ _ _ _ (f5_n S Fu12)) (fun _ q => f5_t Fu12 q)
theorem f5_qj_X0_readWhile_128 {rc : tq_X0_readBlock} {l2 : Int} {l3 : Int} {l4 : Int} {l5 : Int} {l7 : Int} {s0 : Int} (G : F5cG_X0_readBlock rc) {h : ms_M} (S : h 45 5 = 1) : Pc (qj_X0_readWhile_128 nn rc l2 l3 l4 l5 l7 s0 h) (fun u => F5c h u.2) := by
  have F : F5c h h := f5_r
  unfold qj_X0_readWhile_128
  refine pc_if (fun _ => ?_) (fun _ => ?_)
  · exact pc_imp (f5_qw_X0_readWhile_148 G _ _ _ _ _ _ _ (f5_n S F)) (fun _ q => f5_t F q)
  · refine pc_sv (f5_qf_X1_aimHere (f5_n S F)) ?_; intro u18 Qu18
    have Fu18 : F5c h u18 := f5_t F Qu18
    exact pc_imp (f5_qw_X0_readWhile_148 G _ _ _ _ _ _ _ (f5_n S Fu18)) (fun _ q => f5_t Fu18 q)
theorem f5_qj_X0_readWhile_123 {rc : tq_X0_readBlock} {l2 : Int} {l3 : Int} {l4 : Int} {l5 : Int} {l7 : Int} (G : F5cG_X0_readBlock rc) {h : ms_M} (S : h 45 5 = 1) : Pc (qj_X0_readWhile_123 nn rc l2 l3 l4 l5 l7 h) (fun u => F5c h u.2) := by
  have F : F5c h h := f5_r
  unfold qj_X0_readWhile_123
  exact pc_imp (f5_qj_X0_readWhile_128 G (f5_n S F)) (fun _ q => f5_t F q)
theorem f5_qj_X0_readWhile_109 {rc : tq_X0_readBlock} {l2 : Int} {l3 : Int} {l4 : Int} {l5 : Int} {l7 : Int} (G : F5cG_X0_readBlock rc) {h : ms_M} (S : h 45 5 = 1) : Pc (qj_X0_readWhile_109 nn rc l2 l3 l4 l5 l7 h) (fun u => F5c h u.2) := by
  have F : F5c h h := f5_r
  unfold qj_X0_readWhile_109
  refine pc_if (fun _ => ?_) (fun _ => ?_)
  · exact pc_imp (f5_qj_X0_readWhile_123 G (f5_n S F)) (fun _ q => f5_t F q)
  · refine pc_if (fun _ => ?_) (fun _ => ?_)
    · exact pc_imp (f5_qj_X0_readWhile_128 G (f5_n S F)) (fun _ q => f5_t F q)
    · exact pc_imp (f5_qj_X0_readWhile_123 G (f5_n S F)) (fun _ q => f5_t F q)
theorem f5_qj_X0_readWhile_68 {rc : tq_X0_readBlock} {l1 : Int} {l2 : Int} {l3 : Int} {l4 : Int} {l5 : Int} {l6 : Int} {l7 : Int} (G : F5cG_X0_readBlock rc) {h : ms_M} (S : h 45 5 = 1) : Pc (qj_X0_readWhile_68 nn rc l1 l2 l3 l4 l5 l6 l7 h) (fun u => F5c h u.2) := by
  have F : F5c h h := f5_r
  unfold qj_X0_readWhile_68
  refine pc_xl ?_; intro h23 Eh23
  have Fh23 : F5c h h23 := by rw [Eh23]; exact f5_u F (by omega)
  refine pc_xl ?_; intro h26 Eh26
  have Fh26 : F5c h h26 := by rw [Eh26]; exact f5_u Fh23 (by omega)
  refine pc_sv (G.2.1 (f5_n S Fh26)) ?_; intro u28 Qu28
  have Fu28 : F5c h u28.2 := f5_t Fh26 Qu28
  refine pc_if (fun _ => ?_) (fun _ => ?_)
  · exact pc_imp (f5_qj_X0_readWhile_109 G (f5_n S Fu28)) (fun _ q => f5_t Fu28 q)
  · refine pc_sv (f5_qf_X1_jumpBack (f5_n S Fu28)) ?_; intro u33 Qu33
    have Fu33 : F5c h u33 := f5_t Fu28 Qu33
    exact pc_imp (f5_qj_X0_readWhile_109 G (f5_n S Fu33)) (fun _ q => f5_t Fu33 q)
theorem f5_qo_X0_readWhile {rc : tq_X0_readBlock} {a1 : Int} (G : F5cG_X0_readBlock rc) {h : ms_M} (S : h 45 5 = 1) : Pc (qo_X0_readWhile nn rc a1 h) (fun u => F5c h u.2) := by
  have F : F5c h h := f5_r
  unfold qo_X0_readWhile
  refine pc_se ?_; intro u40 _
  refine pc_if (fun _ => ?_) (fun _ => ?_)
  · refine pc_sv (f5_qf_X10_readCondition (f5_n S F)) ?_; intro u45 Qu45
    have Fu45 : F5c h u45.2 := f5_t F Qu45
    exact pc_imp (f5_qj_X0_readWhile_68 G (f5_n S Fu45)) (fun _ q => f5_t Fu45 q)
  · refine pc_xl ?_; intro v48 _
    refine pc_xl ?_; intro h49 Eh49
    have Fh49 : F5c h h49 := by rw [Eh49]; exact f5_u F (by omega)
    exact pc_imp (f5_qj_X0_readWhile_68 G (f5_n S Fh49)) (fun _ q => f5_t Fh49 q)
theorem f5_qj_X0_readTry_228 {rc : tq_X0_readBlock} {l3 : Int} {l9 : Int} (G : F5cG_X0_readBlock rc) {h : ms_M} (S : h 45 5 = 1) : Pc (qj_X0_readTry_228 nn rc l3 l9 h) (fun u => F5c h u.2) := by
  have F : F5c h h := f5_r
  unfold qj_X0_readTry_228
  refine pc_if (fun _ => ?_) (fun _ => ?_)
  · exact pc_ret F
  · refine pc_if (fun _ => ?_) (fun _ => ?_)
    · exact pc_ret F
    · exact pc_ret F
theorem f5_qj_X0_readTry_130 {rc : tq_X0_readBlock} {l1 : Int} {l2 : Int} {l3 : Int} {l4 : Int} {l5 : Int} {l6 : Int} {l7 : Int} (G : F5cG_X0_readBlock rc) {h : ms_M} (S : h 45 5 = 1) : Pc (qj_X0_readTry_130 nn rc l1 l2 l3 l4 l5 l6 l7 h) (fun u => F5c h u.2) := by
  have F : F5c h h := f5_r
  unfold qj_X0_readTry_130
  refine pc_xl ?_; intro v3 _
  refine pc_sv (f5_qf_X0_checkTwice (f5_n S F)) ?_; intro u5 Qu5
  have Fu5 : F5c h u5 := f5_t F Qu5
  refine pc_sv (f5_qf_X1_addHandler (f5_n S Fu5)) ?_; intro u8 Qu8
  have Fu8 : F5c h u8 := f5_t Fu5 Qu8
  refine pc_xl ?_; intro v14 _
  refine pc_se ?_; intro u16 _
  refine pc_sv (f5_qf_X1_addLocal (f5_n S Fu8)) ?_; intro u18 Qu18
  have Fu18 : F5c h u18.2 := f5_t Fu8 Qu18
  refine pc_sv (f5_qf_X1_store (f5_n S Fu18)) ?_; intro u20 Qu20
  have Fu20 : F5c h u20 := f5_t Fu18 Qu20
  refine pc_xl ?_; intro v22 _
  refine pc_xl ?_; intro h23 Eh23
  have Fh23 : F5c h h23 := by rw [Eh23]; exact f5_u Fu20 (by omega)
  refine pc_sv (G.1 (f5_n S Fh23)) ?_; intro u25 Qu25
  have Fu25 : F5c h u25.2 := f5_t Fh23 Qu25
  refine pc_xl ?_; intro h27 Eh27
  have Fh27 : F5c h h27 := by rw [Eh27]; exact f5_u Fu25 (by omega)
  refine pc_if (fun _ => ?_) (fun _ => ?_)
  · exact pc_imp (f5_qj_X0_readTry_228 G (f5_n S Fh27)) (fun _ q => f5_t Fh27 q)
  · refine pc_sv (f5_qf_X1_aimHere (f5_n S Fh27)) ?_; intro u30 Qu30
    have Fu30 : F5c h u30 := f5_t Fh27 Qu30
    exact pc_imp (f5_qj_X0_readTry_228 G (f5_n S Fu30)) (fun _ q => f5_t Fu30 q)
theorem f5_qj_X0_readTry_63 {rc : tq_X0_readBlock} {l1 : Int} {l2 : Int} {l3 : Int} {l4 : Int} {s0 : Int} (G : F5cG_X0_readBlock rc) {h : ms_M} (S : h 45 5 = 1) : Pc (qj_X0_readTry_63 nn rc l1 l2 l3 l4 s0 h) (fun u => F5c h u.2) := by
  have F : F5c h h := f5_r
  unfold qj_X0_readTry_63
  refine pc_xl ?_; intro v34 _
  refine pc_se ?_; intro u37 _
  refine pc_if (fun _ => ?_) (fun _ => ?_)
  · refine pc_se ?_; intro u40 _
    refine pc_if (fun _ => ?_) (fun _ => ?_)
    · exact pc_imp (f5_qj_X0_readTry_130 G (f5_n S F)) (fun _ q => f5_t F q)
    · refine pc_sv (f5_qf_X9_tell (f5_n S F)) ?_; intro u43 Qu43
      have Fu43 : F5c h u43 := f5_t F Qu43
      exact pc_imp (f5_qj_X0_readTry_130 G (f5_n S Fu43)) (fun _ q => f5_t Fu43 q)
  · refine pc_sv (f5_qf_X9_tell (f5_n S F)) ?_; intro u47 Qu47
    have Fu47 : F5c h u47 := f5_t F Qu47
    exact pc_imp (f5_qj_X0_readTry_130 G (f5_n S Fu47)) (fun _ q => f5_t Fu47 q)
theorem f5_qo_X0_readTry {rc : tq_X0_readBlock} {a1 : Int} (G : F5cG_X0_readBlock rc) {h : ms_M} (S : h 45 5 = 1) : Pc (qo_X0_readTry nn rc a1 h) (fun u => F5c h u.2) := by
  have F : F5c h h := f5_r
  unfold qo_X0_readTry
  refine pc_xl ?_; intro v53 _
  refine pc_xl ?_; intro h54 Eh54
  have Fh54 : F5c h h54 := by rw [Eh54]; exact f5_u F (by omega)
  refine pc_sv (f5_qf_X1_op (f5_n S Fh54)) ?_; intro u57 Qu57
  have Fu57 : F5c h u57 := f5_t Fh54 Qu57
  refine pc_sv (G.1 (f5_n S Fu57)) ?_; intro u59 Qu59
  have Fu59 : F5c h u59.2 := f5_t Fu57 Qu59
  refine pc_if (fun _ => ?_) (fun _ => ?_)
  · exact pc_imp (f5_qj_X0_readTry_63 G (f5_n S Fu59)) (fun _ q => f5_t Fu59 q)
  · refine pc_sv (f5_qf_X1_jump (f5_n S Fu59)) ?_; intro u64 Qu64
    have Fu64 : F5c h u64.2 := f5_t Fu59 Qu64
    exact pc_imp (f5_qj_X0_readTry_63 G (f5_n S Fu64)) (fun _ q => f5_t Fu64 q)
theorem f5g_X0_readBlock (nn : Nat) : ∀ d, F5cG_X0_readBlock (qg_X0_readBlock nn d) := by
  intro d
  induction d with
  | zero => exact ⟨fun _ => pc_none, fun _ => pc_none, fun _ => pc_none, fun _ => pc_none, fun _ => pc_none, fun _ => pc_none⟩
  | succ d ih => exact ⟨fun S => f5_qo_X0_readBlock (nn := nn) ih S, fun S => f5_qo_X0_readPart (nn := nn) ih S, fun S => f5_qo_X0_readStatement (nn := nn) ih S, fun S => f5_qo_X0_readIf (nn := nn) ih S, fun S => f5_qo_X0_readWhile (nn := nn) ih S, fun S => f5_qo_X0_readTry (nn := nn) ih S⟩
theorem f5_qf_X0_readBlock {a1 : Int} {h : ms_M} (S : h 45 5 = 1) : Pc (qf_X0_readBlock nn a1 h) (fun u => F5c h u.2) := (f5g_X0_readBlock nn 240).1 S
theorem f5_qf_X0_readPart {a1 : Int} {h : ms_M} (S : h 45 5 = 1) : Pc (qf_X0_readPart nn a1 h) (fun u => F5c h u.2) := (f5g_X0_readBlock nn 240).2.1 S
theorem f5_qf_X0_readStatement {a1 : Int} {h : ms_M} (S : h 45 5 = 1) : Pc (qf_X0_readStatement nn a1 h) (fun u => F5c h u.2) := (f5g_X0_readBlock nn 240).2.2.1 S
theorem f5_qf_X0_readIf {a1 : Int} {h : ms_M} (S : h 45 5 = 1) : Pc (qf_X0_readIf nn a1 h) (fun u => F5c h u.2) := (f5g_X0_readBlock nn 240).2.2.2.1 S
theorem f5_qf_X0_readWhile {a1 : Int} {h : ms_M} (S : h 45 5 = 1) : Pc (qf_X0_readWhile nn a1 h) (fun u => F5c h u.2) := (f5g_X0_readBlock nn 240).2.2.2.2.1 S
theorem f5_qf_X0_readTry {a1 : Int} {h : ms_M} (S : h 45 5 = 1) : Pc (qf_X0_readTry nn a1 h) (fun u => F5c h u.2) := (f5g_X0_readBlock nn 240).2.2.2.2.2 S
theorem f5_qf_X6_put {a1 : Int} {h : ms_M} (S : h 45 5 = 1) : Pc (qf_X6_put nn a1 h) (fun u => F5c h u) := fun u e => ⟨ff_X6_put nn u e 45 5 rfl, ff_X6_put nn u e 45 5 rfl⟩
theorem f5_qf_X0_noteMuch {a1 : Int} {a2 : Int} {h : ms_M} (S : h 45 5 = 1) : Pc (qf_X0_noteMuch nn a1 a2 h) (fun u => F5c h u) := fun u e => ⟨ff_X0_noteMuch nn u e 45 5 rfl, ff_X0_noteMuch nn u e 45 5 rfl⟩
theorem f5_qf_X10_beginMethod {a1 : Int} {a2 : Int} {h : ms_M} (S : h 45 5 = 1) : Pc (qf_X10_beginMethod nn a1 a2 h) (fun u => F5c h u) := fun u e => ⟨ff_X10_beginMethod nn u e 45 5 rfl, ff_X10_beginMethod nn u e 45 5 rfl⟩
theorem f5_qf_X1_beginMethod {h : ms_M} (S : h 45 5 = 1) : Pc (qf_X1_beginMethod nn h) (fun u => F5c h u) := fun u e => ⟨ff_X1_beginMethod nn u e 45 5 rfl, ff_X1_beginMethod nn u e 45 5 rfl⟩
theorem f5_qw_X1_writeTypes_3 : ∀ (k : Nat) (l2 : Int) (l3 : Int) (l4 : Int) (h : ms_M), h 45 5 = 1 → Pc (qw_X1_writeTypes_3 nn k l2 l3 l4 h) (fun u => F5c h u) := by
  intro k
  induction k with
  | zero => intros; exact pc_none
  | succ k ih =>
    intro l2 l3 l4 h S
    have F : F5c h h := f5_r
    unfold qw_X1_writeTypes_3
    refine pc_xl ?_; intro v1 _
    refine pc_if (fun _ => ?_) (fun _ => ?_)
    · exact pc_ret F
    · refine pc_if (fun _ => ?_) (fun _ => ?_)
      · exact pc_ret F
      · refine pc_rA ?_; intro _ _ v5 _
        refine pc_se ?_; intro u6 _
        refine pc_if (fun _ => ?_) (fun _ => ?_)
        · refine pc_if (fun _ => ?_) (fun _ => ?_)
          · refine pc_sv (f5_qf_X6_put (f5_n S F)) ?_; intro u8 Qu8
            have Fu8 : F5c h u8 := f5_t F Qu8
            refine pc_sv (f5_qf_X6_classOf (f5_n S Fu8)) ?_; intro u10 Qu10
            have Fu10 : F5c h u10.2 := f5_t Fu8 Qu10
            refine pc_sv (f5_qf_X6_put (f5_n S Fu10)) ?_; intro u12 Qu12
            have Fu12 : F5c h u12 := f5_t Fu10 Qu12
            refine pc_xl ?_; intro v13 _
            exact pc_imp (ih _ _ _ _ (f5_n S Fu12)) (fun _ q => f5_t Fu12 q)
          · refine pc_sv (f5_qf_X6_put (f5_n S F)) ?_; intro u15 Qu15
            have Fu15 : F5c h u15 := f5_t F Qu15
            refine pc_xl ?_; intro v16 _
            exact pc_imp (ih _ _ _ _ (f5_n S Fu15)) (fun _ q => f5_t Fu15 q)
        · refine pc_sv (f5_qf_X6_put (f5_n S F)) ?_; intro u19 Qu19
          have Fu19 : F5c h u19 := f5_t F Qu19
          refine pc_xl ?_; intro v20 _
          exact pc_imp (ih _ _ _ _ (f5_n S Fu19)) (fun _ q => f5_t Fu19 q)
theorem f5_qf_X1_writeTypes {a2 : Int} {a3 : Int} {h : ms_M} (S : h 45 5 = 1) : Pc (qf_X1_writeTypes nn a2 a3 h) (fun u => F5c h u) := by
  have F : F5c h h := f5_r
  unfold qf_X1_writeTypes
  exact pc_imp (f5_qw_X1_writeTypes_3 _ _ _ _ _ (f5_n S F)) (fun _ q => f5_t F q)
theorem f5_qf_X6_putPair {a1 : Int} {h : ms_M} (S : h 45 5 = 1) : Pc (qf_X6_putPair nn a1 h) (fun u => F5c h u) := fun u e => ⟨ff_X6_putPair nn u e 45 5 rfl, ff_X6_putPair nn u e 45 5 rfl⟩
theorem f5_qf_X1_writeFrame {a2 : Int} {h : ms_M} (S : h 45 5 = 1) : Pc (qf_X1_writeFrame nn a2 h) (fun u => F5c h u) := by
  have F : F5c h h := f5_r
  unfold qf_X1_writeFrame
  refine pc_xl ?_; intro v1 _
  refine pc_rA ?_; intro _ _ v3 _
  refine pc_xl ?_; intro v5 _
  refine pc_rA ?_; intro _ _ v6 _
  refine pc_rA ?_; intro _ _ v8 _
  refine pc_sv (f5_qf_X6_putPair (f5_n S F)) ?_; intro u10 Qu10
  have Fu10 : F5c h u10 := f5_t F Qu10
  refine pc_sv (f5_qf_X6_put (f5_n S Fu10)) ?_; intro u12 Qu12
  have Fu12 : F5c h u12 := f5_t Fu10 Qu12
  refine pc_xl ?_; intro v13 _
  refine pc_sv (f5_qf_X1_writeTypes (f5_n S Fu12)) ?_; intro u15 Qu15
  have Fu15 : F5c h u15 := f5_t Fu12 Qu15
  refine pc_sv (f5_qf_X6_put (f5_n S Fu15)) ?_; intro u17 Qu17
  have Fu17 : F5c h u17 := f5_t Fu15 Qu17
  refine pc_xl ?_; intro v18 _
  refine pc_xl ?_; intro v19 _
  refine pc_sv (f5_qf_X1_writeTypes (f5_n S Fu17)) ?_; intro u21 Qu21
  have Fu21 : F5c h u21 := f5_t Fu17 Qu21
  exact pc_ret Fu21
theorem f5_qw_X1_writeTo_147 : ∀ (k : Nat) (l2 : Int) (h : ms_M), h 45 5 = 1 → Pc (qw_X1_writeTo_147 nn k l2 h) (fun u => F5c h u) := by
  intro k
  induction k with
  | zero => intros; exact pc_none
  | succ k ih =>
    intro l2 h S
    have F : F5c h h := f5_r
    unfold qw_X1_writeTo_147
    refine pc_if (fun _ => ?_) (fun _ => ?_)
    · exact pc_ret F
    · refine pc_rA ?_; intro _ _ v3 _
      refine pc_sv (f5_qf_X1_writeFrame (f5_n S F)) ?_; intro u5 Qu5
      have Fu5 : F5c h u5 := f5_t F Qu5
      refine pc_xl ?_; intro v6 _
      exact pc_imp (ih _ _ (f5_n S Fu5)) (fun _ q => f5_t Fu5 q)
theorem f5_qw_X1_writeTo_69 : ∀ (k : Nat) (l2 : Int) (h : ms_M), h 45 5 = 1 → Pc (qw_X1_writeTo_69 nn k l2 h) (fun u => F5c h u) := by
  intro k
  induction k with
  | zero => intros; exact pc_none
  | succ k ih =>
    intro l2 h S
    have F : F5c h h := f5_r
    unfold qw_X1_writeTo_69
    refine pc_if (fun _ => ?_) (fun _ => ?_)
    · refine pc_sv (f5_qf_X6_put (f5_n S F)) ?_; intro u11 Qu11
      have Fu11 : F5c h u11 := f5_t F Qu11
      exact pc_imp (f5_qw_X1_writeTo_147 _ _ _ (f5_n S Fu11)) (fun _ q => f5_t Fu11 q)
    · refine pc_xl ?_; intro v12 _
      refine pc_rA ?_; intro _ _ v14 _
      refine pc_sv (f5_qf_X6_putPair (f5_n S F)) ?_; intro u16 Qu16
      have Fu16 : F5c h u16 := f5_t F Qu16
      refine pc_xl ?_; intro v18 _
      refine pc_rA ?_; intro _ _ v19 _
      refine pc_sv (f5_qf_X6_putPair (f5_n S Fu16)) ?_; intro u21 Qu21
      have Fu21 : F5c h u21 := f5_t Fu16 Qu21
      refine pc_xl ?_; intro v23 _
      refine pc_rA ?_; intro _ _ v24 _
      refine pc_sv (f5_qf_X6_putPair (f5_n S Fu21)) ?_; intro u26 Qu26
      have Fu26 : F5c h u26 := f5_t Fu21 Qu26
      refine pc_xl ?_; intro v28 _
      refine pc_rA ?_; intro _ _ v29 _
      refine pc_sv (f5_qf_X6_classOf (f5_n S Fu26)) ?_; intro u31 Qu31
      have Fu31 : F5c h u31.2 := f5_t Fu26 Qu31
      refine pc_sv (f5_qf_X6_put (f5_n S Fu31)) ?_; intro u33 Qu33
      have Fu33 : F5c h u33 := f5_t Fu31 Qu33
      refine pc_xl ?_; intro v34 _
      exact pc_imp (ih _ _ (f5_n S Fu33)) (fun _ q => f5_t Fu33 q)
theorem f5_qj_X1_writeTo_59 {h : ms_M} (S : h 45 5 = 1) : Pc (qj_X1_writeTo_59 nn h) (fun u => F5c h u) := by
  have F : F5c h h := f5_r
  unfold qj_X1_writeTo_59
  refine pc_sv (f5_qf_X6_put (f5_n S F)) ?_; intro u38 Qu38
  have Fu38 : F5c h u38 := f5_t F Qu38
  exact pc_imp (f5_qw_X1_writeTo_69 _ _ _ (f5_n S Fu38)) (fun _ q => f5_t Fu38 q)
theorem f5_qw_X1_writeTo_26 : ∀ (k : Nat) (l2 : Int) (h : ms_M), h 45 5 = 1 → Pc (qw_X1_writeTo_26 nn k l2 h) (fun u => F5c h u) := by
  intro k
  induction k with
  | zero => intros; exact pc_none
  | succ k ih =>
    intro l2 h S
    have F : F5c h h := f5_r
    unfold qw_X1_writeTo_26
    refine pc_if (fun _ => ?_) (fun _ => ?_)
    · exact pc_imp (f5_qj_X1_writeTo_59 (f5_n S F)) (fun _ q => f5_t F q)
    · refine pc_if (fun _ => ?_) (fun _ => ?_)
      · exact pc_imp (f5_qj_X1_writeTo_59 (f5_n S F)) (fun _ q => f5_t F q)
      · refine pc_rA ?_; intro _ _ v43 _
        refine pc_sv (f5_qf_X6_put (f5_n S F)) ?_; intro u45 Qu45
        have Fu45 : F5c h u45 := f5_t F Qu45
        refine pc_xl ?_; intro v46 _
        exact pc_imp (ih _ _ (f5_n S Fu45)) (fun _ q => f5_t Fu45 q)
theorem f5_qf_X1_writeTo {h : ms_M} (S : h 45 5 = 1) : Pc (qf_X1_writeTo nn h) (fun u => F5c h u) := by
  have F : F5c h h := f5_r
  unfold qf_X1_writeTo
  refine pc_sv (f5_qf_X6_put (f5_n S F)) ?_; intro u51 Qu51
  have Fu51 : F5c h u51 := f5_t F Qu51
  refine pc_sv (f5_qf_X6_put (f5_n S Fu51)) ?_; intro u54 Qu54
  have Fu54 : F5c h u54 := f5_t Fu51 Qu54
  refine pc_sv (f5_qf_X6_putPair (f5_n S Fu54)) ?_; intro u57 Qu57
  have Fu57 : F5c h u57 := f5_t Fu54 Qu57
  exact pc_imp (f5_qw_X1_writeTo_26 _ _ _ (f5_n S Fu57)) (fun _ q => f5_t Fu57 q)
theorem f5_qj_X6_beginMethod_17 {l1 : Int} {s0 : Int} {h : ms_M} (S : h 45 5 = 1) : Pc (qj_X6_beginMethod_17 nn l1 s0 h) (fun u => F5c h u) := by
  have F : F5c h h := f5_r
  unfold qj_X6_beginMethod_17
  refine pc_sv (f5_qf_X6_put (f5_n S F)) ?_; intro u2 Qu2
  have Fu2 : F5c h u2 := f5_t F Qu2
  refine pc_se ?_; intro u5 _
  refine pc_sv (f5_qf_X6_constant (f5_n S Fu2)) ?_; intro u7 Qu7
  have Fu7 : F5c h u7.2 := f5_t Fu2 Qu7
  refine pc_sv (f5_qf_X6_put (f5_n S Fu7)) ?_; intro u9 Qu9
  have Fu9 : F5c h u9 := f5_t Fu7 Qu9
  refine pc_se ?_; intro u12 _
  refine pc_sv (f5_qf_X6_constant (f5_n S Fu9)) ?_; intro u14 Qu14
  have Fu14 : F5c h u14.2 := f5_t Fu9 Qu14
  refine pc_sv (f5_qf_X6_put (f5_n S Fu14)) ?_; intro u16 Qu16
  have Fu16 : F5c h u16 := f5_t Fu14 Qu16
  exact pc_ret Fu16
theorem f5_qf_X6_beginMethod {a1 : Int} {h : ms_M} (S : h 45 5 = 1) : Pc (qf_X6_beginMethod nn a1 h) (fun u => F5c h u) := by
  have F : F5c h h := f5_r
  unfold qf_X6_beginMethod
  refine pc_se ?_; intro u19 _
  refine pc_if (fun _ => ?_) (fun _ => ?_)
  · exact pc_imp (f5_qj_X6_beginMethod_17 (f5_n S F)) (fun _ q => f5_t F q)
  · exact pc_imp (f5_qj_X6_beginMethod_17 (f5_n S F)) (fun _ q => f5_t F q)
theorem f5_qj_X0_makeMethod_199 {l3 : Int} {h : ms_M} (S : h 45 5 = 1) : Pc (qj_X0_makeMethod_199 nn l3 h) (fun u => F5c h u) := by
  have F : F5c h h := f5_r
  unfold qj_X0_makeMethod_199
  refine pc_sv (f5_qf_X1_writeTo (f5_n S F)) ?_; intro u4 Qu4
  have Fu4 : F5c h u4 := f5_t F Qu4
  refine pc_se ?_; intro u7 _
  refine pc_se ?_; intro u10 _
  refine pc_sv (f5_qf_X0_noteMuch (f5_n S Fu4)) ?_; intro u12 Qu12
  have Fu12 : F5c h u12 := f5_t Fu4 Qu12
  exact pc_ret Fu12
theorem f5_qj_X0_makeMethod_189 {l3 : Int} {h : ms_M} (S : h 45 5 = 1) : Pc (qj_X0_makeMethod_189 nn l3 h) (fun u => F5c h u) := by
  have F : F5c h h := f5_r
  unfold qj_X0_makeMethod_189
  refine pc_sv (f5_qf_X1_op (f5_n S F)) ?_; intro u15 Qu15
  have Fu15 : F5c h u15 := f5_t F Qu15
  exact pc_imp (f5_qj_X0_makeMethod_199 (f5_n S Fu15)) (fun _ q => f5_t Fu15 q)
theorem f5_qw_X0_makeMethod_70 : ∀ (k : Nat) (l3 : Int) (l5 : Int) (h : ms_M), h 45 5 = 1 → Pc (qw_X0_makeMethod_70 nn k l3 l5 h) (fun u => F5c h u) := by
  intro k
  induction k with
  | zero => intros; exact pc_none
  | succ k ih =>
    intro l3 l5 h S
    have F : F5c h h := f5_r
    unfold qw_X0_makeMethod_70
    refine pc_se ?_; intro u18 _
    refine pc_if (fun _ => ?_) (fun _ => ?_)
    · refine pc_se ?_; intro u21 _
      refine pc_xl ?_; intro h22 Eh22
      have Fh22 : F5c h h22 := by rw [Eh22]; exact f5_u F (by omega)
      refine pc_xl ?_; intro h23 Eh23
      have Fh23 : F5c h h23 := by rw [Eh23]; exact f5_u Fh22 (by omega)
      refine pc_xl ?_; intro h24 Eh24
      have Fh24 : F5c h h24 := by rw [Eh24]; exact f5_u Fh23 (by omega)
      refine pc_se ?_; intro u28 _
      refine pc_xl ?_; intro h29 Eh29
      have Fh29 : F5c h h29 := by rw [Eh29]; exact f5_u Fh24 (by omega)
      refine pc_sv (f5_qf_X0_readBlock (f5_n S Fh29)) ?_; intro u31 Qu31
      have Fu31 : F5c h u31.2 := f5_t Fh29 Qu31
      refine pc_if (fun _ => ?_) (fun _ => ?_)
      · exact pc_imp (f5_qj_X0_makeMethod_199 (f5_n S Fu31)) (fun _ q => f5_t Fu31 q)
      · refine pc_if (fun _ => ?_) (fun _ => ?_)
        · exact pc_imp (f5_qj_X0_makeMethod_189 (f5_n S Fu31)) (fun _ q => f5_t Fu31 q)
        · refine pc_se ?_; intro u36 _
          refine pc_sv (f5_qf_X9_tell (f5_n S Fu31)) ?_; intro u38 Qu38
          have Fu38 : F5c h u38 := f5_t Fu31 Qu38
          exact pc_imp (f5_qj_X0_makeMethod_189 (f5_n S Fu38)) (fun _ q => f5_t Fu38 q)
    · refine pc_se ?_; intro u44 _
      refine pc_se ?_; intro u47 _
      refine pc_sv (f5_qf_X1_addLocal (f5_n S F)) ?_; intro u49 Qu49
      have Fu49 : F5c h u49.2 := f5_t F Qu49
      refine pc_xl ?_; intro v50 _
      exact pc_imp (ih _ _ _ (f5_n S Fu49)) (fun _ q => f5_t Fu49 q)
theorem f5_qf_X0_makeMethod {a1 : Int} {a2 : Int} {h : ms_M} (S : h 45 5 = 1) : Pc (qf_X0_makeMethod nn a1 a2 h) (fun u => F5c h u) := by
  have F : F5c h h := f5_r
  unfold qf_X0_makeMethod
  refine pc_xl ?_; intro v52 _
  refine pc_xl ?_; intro v53 _
  refine pc_xl ?_; intro v54 _
  refine pc_sv (f5_qf_X6_beginMethod (f5_n S F)) ?_; intro u57 Qu57
  have Fu57 : F5c h u57 := f5_t F Qu57
  refine pc_sv (f5_qf_X1_beginMethod (f5_n S Fu57)) ?_; intro u60 Qu60
  have Fu60 : F5c h u60 := f5_t Fu57 Qu60
  refine pc_se ?_; intro u64 _
  refine pc_sv (f5_qf_X10_beginMethod (f5_n S Fu60)) ?_; intro u66 Qu66
  have Fu66 : F5c h u66 := f5_t Fu60 Qu66
  refine pc_se ?_; intro u69 _
  refine pc_if (fun _ => ?_) (fun _ => ?_)
  · exact pc_imp (f5_qw_X0_makeMethod_70 _ _ _ _ (f5_n S Fu66)) (fun _ q => f5_t Fu66 q)
  · refine pc_sv (f5_qf_X1_addLocal (f5_n S Fu66)) ?_; intro u72 Qu72
    have Fu72 : F5c h u72.2 := f5_t Fu66 Qu72
    exact pc_imp (f5_qw_X0_makeMethod_70 _ _ _ _ (f5_n S Fu72)) (fun _ q => f5_t Fu72 q)
end
end
section
/- a method: the making -/
/-- what the making of a method wants -/
def MPr (X : BCx) (B a b : Int) (p q : Nat) (h v m : ms_M) : Prop := PBX X B h m ∧ (0 ≤ B ∧ B ≤ 50000000) ∧ AN a b v m ∧ (m 160 9 = 0 ∧ m 160 52 = bo X ∧ 0 ≤ m 160 88 ∧ m 160 88 + 4 * (q : Int) ≤ 2000000000 + 4 * (p : Int)) ∧ ∀ cc x : Nat, ((163 ≤ cc ∧ cc ≤ 173) ∨ cc = 177) → m cc x = bT X cc x
/-- the method is MUCH -/
def TMu (u : ms_M) : Prop := ¬ (OKM u ∧ u 34 15 = 0)
def SG2 (X : BCx) (h m : ms_M) : Prop := SGV (bK X) (bV X) (bF X) (bo X) h m ∧ ((h 34 8 = m 160 72 + (bF X : Int) ∧ h 34 8 ≤ 750) ∧ h 34 7 ≤ h 34 8) ∧ ∀ s : Nat, (s : Int) < h 34 7 → VTn (bn X) (h 38 s) ∧ ¬ h 38 s = 303
section
variable {nn : Nat} {X : BCx} {B v v2 : Int} {k j i n : Nat} {h h0 g u r r0 m w hB : ms_M}
theorem bys_p (P : BYS B h m) (e : h 45 5 = 0 → v % 256 = v2 % 256) (A : CPt v h u) (C : RTl v2 m w) : BYS (B + 1) u w := by
  obtain ⟨⟨p5, p6⟩, p7⟩ := P
  obtain ⟨a1, a2, a3⟩ := A
  obtain ⟨c1, c2, c3⟩ := C
  refine ⟨⟨by omega, by omega⟩, fun o => ?_⟩
  rw [a3 45 5 (by omega) (by omega)] at o
  obtain ⟨q1, q2⟩ := p7 o
  have e3 := e o
  refine ⟨by omega, fun x hx h6 => ?_⟩
  by_cases q : (x : Int) = h 45 7
  · rw [show x = (m 160 97).toNat by omega, c2 (by omega), show (m 160 97).toNat = (h 45 7).toNat by omega, a2 (by omega), oq_and_al, oq_b_al, Int.bmod_def]
    split <;> omega
  · rw [c3 225 x (by omega) (by omega), a3 48 x (by omega) (by omega)]
    exact q2 x (by omega) h6
theorem bys_c (P : BYS B h m) (e5 : u 45 5 = 0 → h 45 5 = 0) (e7 : u 45 7 = h 45 7) (e8 : ∀ x : Nat, u 48 x = h 48 x) (f7 : w 160 97 = m 160 97) (f5 : ∀ x : Nat, w 225 x = m 225 x) : BYS B u w := by
  obtain ⟨p5, p7⟩ := P
  refine ⟨by rw [e7, f7]; exact p5, fun o => ?_⟩
  rw [e7, f7]
  obtain ⟨q1, q2⟩ := p7 (e5 o)
  exact ⟨q1, fun x hx h6 => by rw [f5 x, e8 x]; exact q2 x hx h6⟩
theorem sg2_a {t : Nat} {ty : Int} {w0 : ms_M} (S : SG2 X h m) (A : CLa (bV X t) ty h g) (R : RCm (t : Int) (ty_T ty) m w0) (ew : w = up_M w0 160 72 (if w0 160 72 < w0 160 50 then w0 160 50 else w0 160 72)) (kt : bK X t = 2) (h7 : h 34 7 < 750) (vq : VTn (bn X) ty ∧ ¬ ty = 303) : SG2 X g w := by
  obtain ⟨s1, ⟨s2, s3⟩, s4⟩ := S
  have SG := sgv_a s1 (x := 0) kt A R rfl h7
  have z1 := s1.1
  obtain ⟨a1, a2, a3, a5⟩ := A
  obtain ⟨-, b2, -, -, b5⟩ := R
  have b72 := b5 160 72 (by omega) (by omega)
  have w72 : w 160 72 = (if m 160 72 < m 160 50 + 1 then m 160 50 + 1 else m 160 72) := by rw [ew, up_s, b72, b2]
  refine ⟨sgv_k SG (fun _ _ _ => rfl) (fun cc y z => by rw [ew, up_n (by omega)]), ⟨by rw [a2, w72]; split <;> split <;> omega, by rw [a2, a1]; split <;> omega⟩, fun s hs => ?_⟩
  by_cases q : s = (h 34 7).toNat
  · rw [q, (a3 h7).2]; exact vq
  · rw [a5 38 s (by omega) (by omega)]; exact s4 s (by omega)
theorem sg2_k (S : SG2 X h m) (e1 : ∀ cc x : Nat, (cc = 34 ∧ (x = 7 ∨ x = 8)) ∨ cc = 37 ∨ cc = 38 → g cc x = h cc x) (e2 : ∀ cc x : Nat, (cc = 160 ∧ (x = 50 ∨ x = 72)) ∨ cc = 196 ∨ cc = 197 → w cc x = m cc x) : SG2 X g w := by
  obtain ⟨s1, ⟨s2, s3⟩, s4⟩ := S
  exact ⟨sgv_k s1 (fun cc x z => e1 cc x (by omega)) (fun cc x z => e2 cc x (by omega)), ⟨by rw [e1 34 8 (by omega), e2 160 72 (by omega)]; exact s2, by rw [e1 34 7 (by omega), e1 34 8 (by omega)]; exact s3⟩, fun s hs => by rw [e1 34 7 (by omega)] at hs; rw [e1 38 s (by omega)]; exact s4 s hs⟩
/-- the making's parameters -/
theorem m_pars (Y : CXs X) (M : MTm X k j) {m2 : ms_M} (S0 : SG2 X h0 m2) {Z : ms_M → Prop} (T2 : ∀ cc x : Nat, (178 ≤ cc ∧ cc ≤ 195) → m2 cc x = bB X cc x) (C : CPR (pn_X X j) (pt_X X k j) (bB X 189 j).toNat h0 g) (s7 : h0 34 7 ≤ 10) (HK : ∀ m3, SG2 X g m3 → (∀ cc y : Nat, ¬ (cc = 160 ∧ (y = 50 ∨ y = 72)) → ¬ (cc = 196 ∨ cc = 197) → m3 cc y = m2 cc y) → Pc (rd_A 800 186 (j : Int) m3 fun v127 => mx_sv (qf_X13_textOf nn v127 m3) fun u129 => mx_sv (qf_X13_kindOf nn (j : Int) u129.2) fun u131 => rd_A 800 190 (j : Int) u131.2 fun v133 => mx_sv (qf_X13_make nn v133 u131.2) fun u135 => if u135.1 = 0 then (qj_X13_makeMethod_164 nn (j : Int) u129.1 u131.1 u135.2) else (mx_sv (qf_X13_put nn 177 u135.2) fun u137 => qj_X13_makeMethod_164 nn (j : Int) u129.1 u131.1 u137)) Z) : Pc (qw_X13_makeMethod_81 nn nn (j : Int) 0 m2) Z := by
  obtain ⟨-, MB, -, -, b188, vp⟩ := mt_row Y M
  have p6 := MB.2.2.1
  obtain ⟨f, f0, f1, f2⟩ := C
  have L : ∀ (fu i : Nat) (m : ms_M), (i : Int) ≤ bB X 189 j → SG2 X (f i) m → (∀ cc y : Nat, ¬ (cc = 160 ∧ (y = 50 ∨ y = 72)) → ¬ (cc = 196 ∨ cc = 197) → m cc y = m2 cc y) → Pc (qw_X13_makeMethod_81 nn fu (j : Int) (i : Int) m) Z := by
    intro fu
    induction fu with
    | zero => intro i m hi Si E; exact fun _ z => nomatch z
    | succ fu ih =>
      intro i m hi Si E
      have T : ∀ cc x : Nat, (178 ≤ cc ∧ cc ≤ 195) → m cc x = bB X cc x := fun cc x z => by rw [E cc x (by omega) (by omega)]; exact T2 cc x z
      obtain ⟨c7, -⟩ := cpr_f i h0 (f i) ⟨f, f0, rfl, fun t ht => f2 t (by omega)⟩
      unfold qw_X13_makeMethod_81
      refine pc_rA ?_; intro _ _ v125 e125
      rw [Int.toNat_natCast, T 189 _ (by omega)] at e125
      refine pc_if (fun z => ?_) (fun z => ?_)
      · rw [show i = (bB X 189 j).toNat by omega, f1] at Si
        exact HK m Si E
      · obtain ⟨p1, ⟨p2, p3, p4⟩, p5, -⟩ := MB.2.2.2.1 i (by omega)
        refine pc_rA ?_; intro _ _ v20 e20
        rw [Int.toNat_natCast, T 188 _ (by omega)] at e20
        refine pc_add (by omega) ?_; intro v21 e21
        refine pc_rA ?_; intro _ _ v22 e22
        rw [show v21.toNat = (bB X 188 j).toNat + i by omega, T 194 _ (by omega)] at e22
        refine pc_rA ?_; intro _ _ v25 e25
        rw [Int.toNat_natCast, T 188 _ (by omega)] at e25
        refine pc_add (by omega) ?_; intro v26 e26
        refine pc_rA ?_; intro _ _ v27 e27
        rw [show v26.toNat = (bB X 188 j).toNat + i by omega, T 195 _ (by omega), p4] at e27
        rw [e22, e27]
        have A := f2 i (by omega)
        have tk := M.2.2.2.2 i (by omega)
        have ec : bB X 194 ((bB X 188 j).toNat + i) = (((bB X 194 ((bB X 188 j).toNat + i)).toNat : Nat) : Int) := by omega
        refine pc_sv (P := fun u => SG2 X (f (i + 1)) u ∧ ∀ cc y : Nat, ¬ (cc = 160 ∧ (y = 50 ∨ y = 72)) → ¬ (cc = 196 ∨ cc = 197) → u cc y = m cc y) ?_ ?_
        · unfold qf_X13_comes
          refine pc_sv r_come ?_; intro u2' RC
          rw [ec] at RC
          refine pc_xl ?_; intro v5 e5
          refine pc_xl ?_; intro h6 e6
          refine pc_ret ⟨sg2_a Si A RC (by rw [e6, e5]) tk.2 (by omega) ⟨vp i (by omega), p5⟩, fun cc y z1 z2 => ?_⟩
          rw [e6, up_n (by omega)]; exact RC.2.2.2.2 cc y (by omega) (by omega)
        · intro u150 ⟨S2, E2⟩
          refine pc_add (by omega) ?_; intro v30 e30
          rw [show v30 = ((i + 1 : Nat) : Int) by omega]
          exact ih (i + 1) u150 (by omega) S2 (fun cc y z1 z2 => by rw [E2 cc y z1 z2]; exact E cc y z1 z2)
  exact L nn 0 m2 (by omega) (by rw [f0]; exact S0) (fun _ _ _ _ => rfl)
/-- nothing is made yet -/
theorem mke_begin (Y : CXs X) (S : SG2 X hB m) (P : (PLR hB m ∧ MBd m ∧ SPL m []) ∧ TXE (bK X) (bV X) (bC X) (bW X) (bn X) (bA X) (bB X) hB m) (z1 : hB 34 1 = 0 ∧ hB 34 3 = 0 ∧ hB 34 4 = 0 ∧ hB 34 10 = 0 ∧ hB 34 14 = 0 ∧ hB 34 15 = 0) (z2 : m 160 68 = 0 ∧ m 160 70 = 0 ∧ m 160 71 = 0 ∧ m 160 78 = 0 ∧ m 160 79 = 0 ∧ m 160 84 = 0 ∧ m 160 87 = 0) (m53 : m 160 53 = 1 - (bF X : Int)) (m52 : m 160 52 = bo X) (m9 : m 160 9 = 0) (m88 : 0 ≤ m 160 88) (MT : ∀ cc x : Nat, ((163 ≤ cc ∧ cc ≤ 173) ∨ cc = 177) → m cc x = bT X cc x) : MKe X hB m := by
  obtain ⟨S1, S2, S3⟩ := S
  obtain ⟨a1, a3, a4, a10, a14, a15⟩ := z1
  obtain ⟨b68, b70, b71, b78, b79, b84, b87⟩ := z2
  have ow := Y.2.2.2.1
  have n8 := Y.2.2.1
  have F1 : bF X = 0 ∨ bF X = 1 := by
    rcases S1.2.1 with y | y
    · exact .inl y
    · exact .inr y.1
  have FC : FRc hB := ⟨⟨by omega, by omega, fun s hs => absurd hs (by omega)⟩, fun i hi => absurd hi (by omega), fun i j _ hj => absurd hj (by omega), fun s hs => absurd hs (by omega)⟩
  have FR : FRr m := ⟨by omega, fun i j hi hj _ => absurd hi (by omega)⟩
  refine ⟨⟨⟨⟨by omega, by omega⟩, fun _ _ x hx _ => absurd hx (by omega)⟩, ⟨⟨by rw [b87]; rfl, fun k hk => absurd hk (Nat.not_lt_zero _)⟩, ⟨Nat.zero_le _, fun i hi => absurd hi (Nat.not_lt_zero _), fun i j _ hj => absurd hj (Nat.not_lt_zero _), m88⟩⟩, ⟨⟨FC, FR, by omega, by omega⟩, ⟨⟨by show m 160 78 + ((0 : Nat) : Int) ≤ _; omega, by omega⟩, fun p n z => z.elim⟩, fun _ => ⟨by show m 160 79 + 51 * ((0 : Nat) : Int) ≤ _; omega, .inl ⟨a15, fun k hk => absurd hk (by omega), fun f hf => absurd hf (by omega), fun p n z => z.elim⟩⟩⟩, ⟨S1, ⟨by omega, fun _ => by omega, fun z => absurd z (by omega), fun k hk => absurd hk (by omega)⟩, P.1, P.2, ⟨⟨S2.1, S2.2, S3⟩, ?_, ⟨?_, by omega, by omega⟩, m9, MT⟩⟩⟩, ⟨by omega, by omega, by omega, by omega⟩, fun i hi => absurd hi (by omega)⟩
  · rcases F1 with f | f
    · right; exact ⟨by rw [m53, f]; decide, f⟩
    · left; exact ⟨by rw [m53, f]; decide, f⟩
  · have c := ty_c (vtn_v n8 (show VTn (bn X) (bo X) from .inr (.inr (.inr (.inr (.inr (.inl (by omega))))))))
    omega
end
end
