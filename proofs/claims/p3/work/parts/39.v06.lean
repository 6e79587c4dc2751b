set_option maxRecDepth 4000 in
theorem vf_X2_classAbove {nn : Nat} (hn : 1000000 ≤ nn) {a1 : Int} {h : ms_M} (a_a1 : 0 ≤ a1) (b_a1 : a1 ≤ 333) (V_h : VS_ h)  : Ok_ (qf_X2_classAbove nn a1 h) (QP_ (-1) 341) := by
  unfold qf_X2_classAbove
  refine ok_cP (vf_X2_tokenOfClass hn (by omega) (by omega) V_h) ?_; intro u2 e_u2 a_u2 b_u2
  refine ok_add (by omega) ?_; intro v4 e_v4
  refine ok_cP (vf_X9_kindAt hn (by omega) (by omega) V_h) ?_; intro u6 e_u6 a_u6 b_u6
  have T1 := lm_X9_kindAt e_u6
  refine ok_if ?_ ?_
  · intro C1
    exact ok_rP (by omega) (by omega)
  · intro C1
    refine ok_add (by omega) ?_; intro v7 e_v7
    refine ok_cP (vf_X2_classAt hn (by omega) (by omega) V_h) ?_; intro u9 e_u9 a_u9 b_u9
    exact ok_rP (by omega) (by omega)
set_option maxRecDepth 4000 in
theorem vj_X2_endsAbove_36 {nn : Nat} (hn : 1000000 ≤ nn) {l2 : Int} {h : ms_M} (a_l2 : (-1) ≤ l2) (b_l2 : l2 ≤ 341) (V_h : VS_ h)  : Ok_ (qj_X2_endsAbove_36 nn l2 h) (QP_ 0 1) := by
  unfold qj_X2_endsAbove_36
  refine ok_if ?_ ?_
  · intro C0
    exact ok_rP (by omega) (by omega)
  · intro C0
    exact ok_rP (by omega) (by omega)
set_option maxRecDepth 4000 in
theorem vw_X2_endsAbove_7 {nn : Nat} (hn : 1000000 ≤ nn) : ∀ (k : Nat) {l2 : Int} {l3 : Int} {h : ms_M} (a_l2 : (-1) ≤ l2) (b_l2 : l2 ≤ 341) (a_l3 : 0 ≤ l3) (b_l3 : l3 ≤ 335) (V_h : VS_ h)  (hm : 336 - l3 < (k : Int)), Ok_ (qw_X2_endsAbove_7 nn k l2 l3 h) (QP_ 0 1) := by
  intro k
  induction k with
  | zero => intros; exfalso; omega
  | succ k ih =>
    intro l2 l3 h a_l2 b_l2 a_l3 b_l3 V_h hm
    unfold qw_X2_endsAbove_7
    have T1 := gF_11_2 V_h
    refine ok_if ?_ ?_
    · intro C1
      exact vj_X2_endsAbove_36 hn (by omega) (by omega) V_h
    · intro C1
      refine ok_if ?_ ?_
      · intro C2
        exact vj_X2_endsAbove_36 hn (by omega) (by omega) V_h
      · intro C2
        refine ok_sub (by omega) ?_; intro v3 e_v3
        refine ok_cP (vf_X2_classAbove hn (by omega) (by omega) V_h) ?_; intro u5 e_u5 a_u5 b_u5
        refine ok_add (by omega) ?_; intro v6 e_v6
        exact ih (by omega) (by omega) (by omega) (by omega) V_h (by omega)
set_option maxRecDepth 4000 in
theorem vf_X2_endsAbove {nn : Nat} (hn : 1000000 ≤ nn) {a1 : Int} {h : ms_M} (a_a1 : 0 ≤ a1) (b_a1 : a1 ≤ 333) (V_h : VS_ h)  : Ok_ (qf_X2_endsAbove nn a1 h) (QP_ 0 1) := by
  unfold qf_X2_endsAbove
  refine ok_add (by omega) ?_; intro v9 e_v9
  exact vw_X2_endsAbove_7 hn _ (by omega) (by omega) (by omega) (by omega) V_h (by omega)
set_option maxRecDepth 4000 in
theorem vj_X2_checkClassHead_64 {nn : Nat} (hn : 1000000 ≤ nn) {l1 : Int} {l2 : Int} {h : ms_M} (a_l1 : 0 ≤ l1) (b_l1 : l1 ≤ 333) (a_l2 : 0 ≤ l2) (b_l2 : l2 ≤ 3004) (V_h : VS_ h)  : Ok_ (qj_X2_checkClassHead_64 nn l1 l2 h) (QVR_ (fun r => (h 2 11 = 0 ∨ ¬ r 2 11 = 0))) := by
  unfold qj_X2_checkClassHead_64
  have T1 := gF_2_3 V_h
  have T2 := gF_2_11 V_h
  refine ok_cP (vf_X2_endsAbove hn (by omega) (by omega) V_h) ?_; intro u2 e_u2 a_u2 b_u2
  refine ok_if ?_ ?_
  · intro C2
    exact ok_rVR V_h (by omega)
  · intro C2
    refine ok_add (by omega) ?_; intro v4 e_v4
    refine ok_cVR (vf_X9_tell hn (by omega) (by omega) (by omega) (by omega) V_h) ?_; intro u6 E_u6 V_u6 R_u6
    have T4 : u6 2 3 = h 2 3 := (ff_X9_tell nn) _ E_u6 2 3 rfl
    have T5 := gF_2_11 V_u6
    exact ok_rVR V_u6 (by omega)
set_option maxRecDepth 4000 in
theorem vj_X2_checkClassHead_44 {nn : Nat} (hn : 1000000 ≤ nn) {l1 : Int} {l2 : Int} {h : ms_M} (a_l1 : 0 ≤ l1) (b_l1 : l1 ≤ 333) (a_l2 : 0 ≤ l2) (b_l2 : l2 ≤ 3004) (V_h : VS_ h)  : Ok_ (qj_X2_checkClassHead_44 nn l1 l2 h) (QVR_ (fun r => (h 2 11 = 0 ∨ ¬ r 2 11 = 0))) := by
  unfold qj_X2_checkClassHead_44
  have T1 := gF_2_3 V_h
  have T2 := gF_2_11 V_h
  refine ok_cP (vf_X2_classAbove hn (by omega) (by omega) V_h) ?_; intro u9 e_u9 a_u9 b_u9
  refine ok_if ?_ ?_
  · intro C2
    exact ok_mV (vj_X2_checkClassHead_64 hn (by omega) (by omega) (by omega) (by omega) V_h) (fun _ V_r R_r => by have := gF_2_3 V_r; have := gF_2_11 V_r; omega)
  · intro C2
    refine ok_add (by omega) ?_; intro v11 e_v11
    refine ok_cVR (vf_X9_tell hn (by omega) (by omega) (by omega) (by omega) V_h) ?_; intro u13 E_u13 V_u13 R_u13
    have T4 : u13 2 3 = h 2 3 := (ff_X9_tell nn) _ E_u13 2 3 rfl
    have T5 := gF_2_11 V_u13
    exact ok_mV (vj_X2_checkClassHead_64 hn (by omega) (by omega) (by omega) (by omega) V_u13) (fun _ V_r R_r => by have := gF_2_3 V_r; have := gF_2_11 V_r; omega)
set_option maxRecDepth 4000 in
theorem vj_X2_checkClassHead_23 {nn : Nat} (hn : 1000000 ≤ nn) {l1 : Int} {l2 : Int} {h : ms_M} (a_l1 : 0 ≤ l1) (b_l1 : l1 ≤ 333) (a_l2 : 0 ≤ l2) (b_l2 : l2 ≤ 3004) (V_h : VS_ h)  : Ok_ (qj_X2_checkClassHead_23 nn l1 l2 h) (QVR_ (fun r => (h 2 11 = 0 ∨ ¬ r 2 11 = 0))) := by
  unfold qj_X2_checkClassHead_23
  have T1 := gF_2_3 V_h
  have T2 := gF_2_11 V_h
  refine ok_cP (vf_X2_classAt hn (by omega) (by omega) V_h) ?_; intro u16 e_u16 a_u16 b_u16
  refine ok_add (by omega) ?_; intro v17 e_v17
  refine ok_if ?_ ?_
  · intro C2
    exact ok_mV (vj_X2_checkClassHead_44 hn (by omega) (by omega) (by omega) (by omega) V_h) (fun _ V_r R_r => by have := gF_2_3 V_r; have := gF_2_11 V_r; omega)
  · intro C2
    refine ok_cVR (vf_X9_tell hn (by omega) (by omega) (by omega) (by omega) V_h) ?_; intro u20 E_u20 V_u20 R_u20
    have T4 : u20 2 3 = h 2 3 := (ff_X9_tell nn) _ E_u20 2 3 rfl
    have T5 := gF_2_11 V_u20
    exact ok_mV (vj_X2_checkClassHead_44 hn (by omega) (by omega) (by omega) (by omega) V_u20) (fun _ V_r R_r => by have := gF_2_3 V_r; have := gF_2_11 V_r; omega)
set_option maxRecDepth 4000 in
theorem vf_X2_checkClassHead {nn : Nat} (hn : 1000000 ≤ nn) {a1 : Int} {h : ms_M} (a_a1 : 0 ≤ a1) (b_a1 : a1 ≤ 333) (V_h : VS_ h)  : Ok_ (qf_X2_checkClassHead nn a1 h) (QVR_ (fun r => (h 2 11 = 0 ∨ ¬ r 2 11 = 0) ∧ (¬ (8 ≤ a1 ∧ h 2 11 = 0 ∧ h 15 (a1).toNat < h 2 3) ∨ ¬ r 2 11 = 0))) := by
  unfold qf_X2_checkClassHead
  have T1 := gF_2_3 V_h
  have T2 := gF_2_11 V_h
  refine ok_rd (by omega) (gA_15 V_h) ?_; intro v23 e_v23 a_v23 b_v23
  refine ok_if ?_ ?_
  · intro C2
    exact ok_mV (vj_X2_checkClassHead_23 hn (by omega) (by omega) (by omega) (by omega) V_h) (fun _ V_r R_r => by have := gF_2_3 V_r; have := gF_2_11 V_r; omega)
  · intro C2
    refine ok_cVR (vf_X9_tell hn (by omega) (by omega) (by omega) (by omega) V_h) ?_; intro u26 E_u26 V_u26 R_u26
    have T4 : u26 2 3 = h 2 3 := (ff_X9_tell nn) _ E_u26 2 3 rfl
    have T5 : u26 15 (a1).toNat = h 15 (a1).toNat := (ff_X9_tell nn) _ E_u26 15 (a1).toNat (nw_ar rfl _)
    have T6 := gF_2_11 V_u26
    exact ok_mV (vj_X2_checkClassHead_23 hn (by omega) (by omega) (by omega) (by omega) V_u26) (fun _ V_r R_r => by have := gF_2_3 V_r; have := gF_2_11 V_r; omega)
set_option maxRecDepth 4000 in
theorem vw_X2_nameClasses_47 {nn : Nat} (hn : 1000000 ≤ nn) : ∀ (k : Nat) {l1 : Int} {h : ms_M} (a_l1 : 0 ≤ l1) (b_l1 : l1 ≤ 334) (V_h : VS_ h)  (hm : 335 - l1 < (k : Int)), Ok_ (qw_X2_nameClasses_47 nn k l1 h) QV_ := by
  intro k
  induction k with
  | zero => intros; exfalso; omega
  | succ k ih =>
    intro l1 h a_l1 b_l1 V_h hm
    unfold qw_X2_nameClasses_47
    have T1 := gF_11_2 V_h
    refine ok_if ?_ ?_
    · intro C1
      exact ok_rV V_h
    · intro C1
      refine ok_rd (by omega) (gA_15 V_h) ?_; intro v4 e_v4 a_v4 b_v4
      refine ok_cP (vf_X9_valueAt hn (by omega) (by omega) V_h) ?_; intro u6 e_u6 a_u6 b_u6
      refine ok_if ?_ ?_
      · intro C2
        refine ok_add (by omega) ?_; intro v9 e_v9
        exact ih (by omega) (by omega) V_h (by omega)
      · intro C2
        refine ok_rd (by omega) (gA_16 V_h) ?_; intro v11 e_v11 a_v11 b_v11
        refine ok_if ?_ ?_
        · intro C3
          refine ok_add (by omega) ?_; intro v12 e_v12
          exact ih (by omega) (by omega) V_h (by omega)
        · intro C3
          refine ok_add (by omega) ?_; intro v14 e_v14
          refine ok_wA (by omega) ?_; intro h15 E_h15; have V_h15 : VS_ h15 := by rw [E_h15]; exact wA_16 V_h (by omega)
          refine ok_add (by omega) ?_; intro v16 e_v16
          exact ih (by omega) (by omega) V_h15 (by omega)
set_option maxRecDepth 4000 in
theorem vw_X2_nameClasses_2 {nn : Nat} (hn : 1000000 ≤ nn) : ∀ (k : Nat) {l1 : Int} {h : ms_M} (a_l1 : 0 ≤ l1) (b_l1 : l1 ≤ 1740) (V_h : VS_ h)  (hm : 1741 - l1 < (k : Int)), Ok_ (qw_X2_nameClasses_2 nn k l1 h) QV_ := by
  intro k
  induction k with
  | zero => intros; exfalso; omega
  | succ k ih =>
    intro l1 h a_l1 b_l1 V_h hm
    unfold qw_X2_nameClasses_2
    have T1 := gF_2_9 V_h
    refine ok_if ?_ ?_
    · intro C1
      exact vw_X2_nameClasses_47 hn _ (by omega) (by omega) V_h (by omega)
    · intro C1
      refine ok_if ?_ ?_
      · intro C2
        exfalso; omega
      · intro C2
        refine ok_if ?_ ?_
        · intro C3
          refine ok_wA (by omega) ?_; intro h25 E_h25; have V_h25 : VS_ h25 := by rw [E_h25]; exact wA_16 V_h (by omega)
          refine ok_add (by omega) ?_; intro v26 e_v26
          exact ih (by omega) (by omega) V_h25 (by omega)
        · intro C3
          refine ok_wA (by omega) ?_; intro h27 E_h27; have V_h27 : VS_ h27 := by rw [E_h27]; exact wA_16 V_h (by omega)
          refine ok_add (by omega) ?_; intro v28 e_v28
          exact ih (by omega) (by omega) V_h27 (by omega)
set_option maxRecDepth 4000 in
theorem vf_X2_nameClasses {nn : Nat} (hn : 1000000 ≤ nn) {h : ms_M} (V_h : VS_ h)  : Ok_ (qf_X2_nameClasses nn h) QV_ := by
  unfold qf_X2_nameClasses
  exact vw_X2_nameClasses_2 hn _ (by omega) (by omega) V_h (by omega)
set_option maxRecDepth 4000 in
theorem vf_X4_setAbove {nn : Nat} (hn : 1000000 ≤ nn) {a0 : Nat} {a1 : Int} {a2 : Int} {h : ms_M} (hb_a0 : kc_O a0 = 4) (a_a1 : 8 ≤ a1) (b_a1 : a1 ≤ 341) (a_a2 : (-1) ≤ a2) (b_a2 : a2 ≤ 341) (V_h : VS_ h)  : Ok_ (qf_X4_setAbove nn a0 a1 a2 h) QV_ := by
  unfold qf_X4_setAbove
  refine ok_cP (vf_X4_isClass hn (by omega) (by omega) V_h) ?_; intro u1 e_u1 a_u1 b_u1
  have T1 := pr_X4_isClass e_u1
  refine ok_if ?_ ?_
  · intro C1
    exact ok_rV V_h
  · intro C1
    refine ok_wA (by omega) ?_; intro h3 E_h3; have V_h3 : VS_ h3 := by rw [E_h3]; exact wKA_1 V_h hb_a0 (by omega)
    exact ok_rV V_h3
set_option maxRecDepth 4000 in
theorem vj_X2_readClasses_88 {nn : Nat} (hn : 1000000 ≤ nn) {h : ms_M} (V_h : VS_ h) (x_0 : ¬ h 2 11 = 0 ∨ h 11 2 ≤ 8)  : Ok_ (qj_X2_readClasses_88 nn h) (QVR_ (fun r => (¬ r 2 11 = 0 ∨ r 11 2 ≤ 8))) := by
  unfold qj_X2_readClasses_88
  have T1 := gF_2_3 V_h
  have T2 := gF_2_11 V_h
  have T3 := gF_11_2 V_h
  refine ok_cV (vf_X4_settle hn rfl V_h) ?_; intro u3 E_u3 V_u3
  have T4 : u3 2 3 = h 2 3 := (ff_X4_settle nn rfl) _ E_u3 2 3 ⟨by decide, by decide⟩
  have T5 : u3 2 11 = h 2 11 := (ff_X4_settle nn rfl) _ E_u3 2 11 ⟨by decide, by decide⟩
  have T6 : u3 11 2 = h 11 2 := (ff_X4_settle nn rfl) _ E_u3 11 2 ⟨by decide, by decide⟩
  exact ok_rVR V_u3 (by omega)
set_option maxRecDepth 4000 in
theorem vw_X2_readClasses_48 {nn : Nat} (hn : 1000000 ≤ nn) : ∀ (k : Nat) {l1 : Int} {h : ms_M} (a_l1 : 0 ≤ l1) (b_l1 : l1 ≤ 334) (V_h : VS_ h) (x_0 : ¬ h 2 11 = 0 ∨ h 11 2 ≤ 8)  (hm : 335 - l1 < (k : Int)), Ok_ (qw_X2_readClasses_48 nn k l1 h) (QVR_ (fun r => (¬ r 2 11 = 0 ∨ r 11 2 ≤ 8))) := by
  intro k
  induction k with
  | zero => intros; exfalso; omega
  | succ k ih =>
    intro l1 h a_l1 b_l1 V_h x_0 hm
    unfold qw_X2_readClasses_48
    have T1 := gF_2_3 V_h
    have T2 := gF_2_11 V_h
    have T3 := gF_11_2 V_h
    refine ok_if ?_ ?_
    · intro C3
      exact ok_mV (vj_X2_readClasses_88 hn V_h (by omega)) (fun _ V_r R_r => by have := gF_2_3 V_r; have := gF_2_11 V_r; have := gF_11_2 V_r; omega)
    · intro C3
      refine ok_if ?_ ?_
      · intro C4
        exact ok_mV (vj_X2_readClasses_88 hn V_h (by omega)) (fun _ V_r R_r => by have := gF_2_3 V_r; have := gF_2_11 V_r; have := gF_11_2 V_r; omega)
      · intro C4
        refine ok_add (by omega) ?_; intro v8 e_v8
        refine ok_cP (vf_X2_classAbove hn (by omega) (by omega) V_h) ?_; intro u10 e_u10 a_u10 b_u10
        refine ok_cV (vf_X4_setAbove hn rfl (by omega) (by omega) (by omega) (by omega) V_h) ?_; intro u12 E_u12 V_u12
        have T6 : u12 2 3 = h 2 3 := (ff_X4_setAbove nn rfl) _ E_u12 2 3 ⟨by decide, by decide⟩
        have T7 : u12 2 11 = h 2 11 := (ff_X4_setAbove nn rfl) _ E_u12 2 11 ⟨by decide, by decide⟩
        have T8 : u12 11 2 = h 11 2 := (ff_X4_setAbove nn rfl) _ E_u12 11 2 ⟨by decide, by decide⟩
        refine ok_add (by omega) ?_; intro v13 e_v13
        exact ok_mV (ih (by omega) (by omega) V_u12 (by omega) (by omega)) (fun _ V_r R_r => by have := gF_2_3 V_r; have := gF_2_11 V_r; have := gF_11_2 V_r; omega)
set_option maxRecDepth 4000 in
theorem vw_X2_readClasses_17 {nn : Nat} (hn : 1000000 ≤ nn) : ∀ (k : Nat) {l1 : Int} {h : ms_M} (a_l1 : 0 ≤ l1) (b_l1 : l1 ≤ 334) (V_h : VS_ h) (x_0 : ¬ h 2 11 = 0 ∨ h 11 2 ≤ 8 ∨ h 15 8 < h 2 3) (x_1 : h 11 2 ≤ 8 ∨ ¬ h 2 11 = 0 ∨ l1 ≤ 8)  (hm : 335 - l1 < (k : Int)), Ok_ (qw_X2_readClasses_17 nn k l1 h) (QVR_ (fun r => (¬ r 2 11 = 0 ∨ r 11 2 ≤ 8))) := by
  intro k
  induction k with
  | zero => intros; exfalso; omega
  | succ k ih =>
    intro l1 h a_l1 b_l1 V_h x_0 x_1 hm
    unfold qw_X2_readClasses_17
    have T1 := gF_2_3 V_h
    have T2 := gF_2_11 V_h
    have T3 := gF_11_2 V_h
    have z8 : l1 = 8 → h 15 (l1).toNat = h 15 8 := fun z => by rw [z]; rfl
    refine ok_if ?_ ?_
    · intro C3
      exact ok_mV (vw_X2_readClasses_48 hn _ (by omega) (by omega) V_h (by omega) (by omega)) (fun _ V_r R_r => by have := gF_2_3 V_r; have := gF_2_11 V_r; have := gF_11_2 V_r; omega)
    · intro C3
      refine ok_if ?_ ?_
      · intro C4
        exact ok_mV (vw_X2_readClasses_48 hn _ (by omega) (by omega) V_h (by omega) (by omega)) (fun _ V_r R_r => by have := gF_2_3 V_r; have := gF_2_11 V_r; have := gF_11_2 V_r; omega)
      · intro C4
        refine ok_cVR (vf_X2_checkClassHead hn (by omega) (by omega) V_h) ?_; intro u20 E_u20 V_u20 R_u20
        have T6 : u20 2 3 = h 2 3 := (ff_X2_checkClassHead nn) _ E_u20 2 3 rfl
        have T7 : u20 11 2 = h 11 2 := (ff_X2_checkClassHead nn) _ E_u20 11 2 rfl
        have T8 : u20 15 8 = h 15 8 := (ff_X2_checkClassHead nn) _ E_u20 15 8 (nw_ar rfl _)
        have T9 := gF_2_11 V_u20
        refine ok_add (by omega) ?_; intro v21 e_v21
        exact ok_mV (ih (by omega) (by omega) V_u20 (by omega) (by omega) (by omega)) (fun _ V_r R_r => by have := gF_2_3 V_r; have := gF_2_11 V_r; have := gF_11_2 V_r; omega)
set_option maxRecDepth 4000 in
theorem vf_X2_readClasses {nn : Nat} (hn : 1000000 ≤ nn) {h : ms_M} (V_h : VS_ h) (x_0 : ¬ h 2 11 = 0 ∨ h 11 2 ≤ 8 ∨ h 15 8 < h 2 3)  : Ok_ (qf_X2_readClasses nn h) (QVR_ (fun r => (¬ r 2 11 = 0 ∨ r 11 2 ≤ 8))) := by
  unfold qf_X2_readClasses
  have T1 := gF_2_3 V_h
  have T2 := gF_2_11 V_h
  have T3 := gF_11_2 V_h
  refine ok_if ?_ ?_
  · intro C3
    refine ok_cV (vf_X2_nameClasses hn V_h) ?_; intro u27 E_u27 V_u27
    have T5 : u27 2 3 = h 2 3 := (ff_X2_nameClasses nn) _ E_u27 2 3 rfl
    have T6 : u27 2 11 = h 2 11 := (ff_X2_nameClasses nn) _ E_u27 2 11 rfl
    have T7 : u27 11 2 = h 11 2 := (ff_X2_nameClasses nn) _ E_u27 11 2 rfl
    have T8 : u27 15 8 = h 15 8 := (ff_X2_nameClasses nn) _ E_u27 15 8 (nw_ar rfl _)
    exact ok_mV (vw_X2_readClasses_17 hn _ (by omega) (by omega) V_u27 (by omega) (by omega) (by omega)) (fun _ V_r R_r => by have := gF_2_3 V_r; have := gF_2_11 V_r; have := gF_11_2 V_r; omega)
  · intro C3
    exact ok_rVR V_h (by omega)
set_option maxRecDepth 4000 in
theorem vj_X2_addField_52 {nn : Nat} (hn : 1000000 ≤ nn) {l1 : Int} {l3 : Int} {l4 : Int} {h : ms_M} (a_l1 : 0 ≤ l1) (b_l1 : l1 ≤ 7) (a_l3 : 0 ≤ l3) (b_l3 : l3 ≤ 441) (a_l4 : 0 ≤ l4) (b_l4 : l4 ≤ 2147483647) (V_h : VS_ h) (x_0 : h 17 (l1).toNat < 12)  : Ok_ (qj_X2_addField_52 nn l1 l3 l4 h) (QVR_ (fun r => (h 2 11 = 0 ∨ ¬ r 2 11 = 0))) := by
  unfold qj_X2_addField_52
  have T1 := gF_2_11 V_h
  refine ok_mul (by omega) ?_; intro v1 e_v1
  refine ok_rd (by omega) (gA_17 V_h) ?_; intro v3 e_v3 a_v3 b_v3
  refine ok_add (by omega) ?_; intro v4 e_v4
  refine ok_wA (by omega) ?_; intro h6 E_h6; have V_h6 : VS_ h6 := by rw [E_h6]; exact wA_18 V_h (by omega)
  have T2 : h6 2 11 = h 2 11 := by rw [E_h6]; exact up_n (fun z => absurd z.1 (by decide))
  have T3 : h6 17 (l1).toNat = h 17 (l1).toNat := by rw [E_h6]; exact up_n (fun z => absurd z.1 (by decide))
  refine ok_wA (by omega) ?_; intro h8 E_h8; have V_h8 : VS_ h8 := by rw [E_h8]; exact wA_19 V_h6 (by omega)
  have T4 : h8 2 11 = h6 2 11 := by rw [E_h8]; exact up_n (fun z => absurd z.1 (by decide))
  have T5 : h8 17 (l1).toNat = h6 17 (l1).toNat := by rw [E_h8]; exact up_n (fun z => absurd z.1 (by decide))
  refine ok_rd (by omega) (gA_17 V_h8) ?_; intro v10 e_v10 a_v10 b_v10
  refine ok_add (by omega) ?_; intro v11 e_v11
  refine ok_wA (by omega) ?_; intro h12 E_h12; have V_h12 : VS_ h12 := by rw [E_h12]; exact wA_17 V_h8 (by omega)
  have T6 : h12 2 11 = h8 2 11 := by rw [E_h12]; exact up_n (fun z => absurd z.1 (by decide))
  have T7 : h12 17 (l1).toNat = v11 := by rw [E_h12]; exact up_s
  exact ok_rVR V_h12 (by omega)
set_option maxRecDepth 4000 in
theorem vf_X2_addField {nn : Nat} (hn : 1000000 ≤ nn) {a1 : Int} {a2 : Int} {a3 : Int} {h : ms_M} (a_a1 : 0 ≤ a1) (b_a1 : a1 ≤ 7) (a_a2 : 0 ≤ a2) (b_a2 : a2 ≤ 50000000) (a_a3 : 0 ≤ a3) (b_a3 : a3 ≤ 441) (V_h : VS_ h)  : Ok_ (qf_X2_addField nn a1 a2 a3 h) (QVR_ (fun r => (h 2 11 = 0 ∨ ¬ r 2 11 = 0))) := by
  unfold qf_X2_addField
  have T1 := gF_2_11 V_h
  refine ok_rd (by omega) (gA_17 V_h) ?_; intro v14 e_v14 a_v14 b_v14
  refine ok_if ?_ ?_
  · intro C1
    refine ok_cP (vf_X9_valueAt hn (by omega) (by omega) V_h) ?_; intro u17 e_u17 a_u17 b_u17
    refine ok_cP (vf_X2_fieldIn hn (by omega) (by omega) (by omega) (by omega) V_h) ?_; intro u19 e_u19 a_u19 b_u19
    refine ok_if ?_ ?_
    · intro C2
      exact ok_mV (vj_X2_addField_52 hn (by omega) (by omega) (by omega) (by omega) (by omega) (by omega) V_h (by omega)) (fun _ V_r R_r => by have := gF_2_11 V_r; omega)
    · intro C2
      refine ok_cVR (vf_X9_tell hn (by omega) (by omega) (by omega) (by omega) V_h) ?_; intro u22 E_u22 V_u22 R_u22
      have T4 : u22 17 (a1).toNat = h 17 (a1).toNat := (ff_X9_tell nn) _ E_u22 17 (a1).toNat (nw_ar rfl _)
      have T5 := gF_2_11 V_u22
      exact ok_mV (vj_X2_addField_52 hn (by omega) (by omega) (by omega) (by omega) (by omega) (by omega) V_u22 (by omega)) (fun _ V_r R_r => by have := gF_2_11 V_r; omega)
  · intro C1
    refine ok_cVR (vf_X9_tell hn (by omega) (by omega) (by omega) (by omega) V_h) ?_; intro u26 E_u26 V_u26 R_u26
    have T6 : u26 17 (a1).toNat = h 17 (a1).toNat := (ff_X9_tell nn) _ E_u26 17 (a1).toNat (nw_ar rfl _)
    have T7 := gF_2_11 V_u26
    exact ok_rVR V_u26 (by omega)
set_option maxRecDepth 4000 in
theorem vw_X2_addParameter_54 {nn : Nat} (hn : 1000000 ≤ nn) : ∀ (k : Nat) {l1 : Int} {l2 : Int} {l3 : Int} {l4 : Int} {l5 : Int} {l6 : Int} {h : ms_M} (a_l1 : 0 ≤ l1) (b_l1 : l1 ≤ 95) (a_l2 : 0 ≤ l2) (b_l2 : l2 ≤ 441) (a_l3 : 0 ≤ l3) (b_l3 : l3 ≤ 50000000) (a_l4 : 0 ≤ l4) (b_l4 : l4 ≤ 2147483647) (a_l5 : 0 ≤ l5) (b_l5 : l5 ≤ 570) (a_l6 : 0 ≤ l6) (b_l6 : l6 ≤ 6) (V_h : VS_ h) (x_0 : h 2 10 ≤ 40000005) (x_1 : h 27 (l1).toNat < 6) (x_2 : l5 = 6 * l1)  (hm : 7 - l6 < (k : Int)), Ok_ (qw_X2_addParameter_54 nn k l1 l2 l3 l4 l5 l6 h) (QVR_ (fun r => (h 2 11 = 0 ∨ ¬ r 2 11 = 0) ∧ (h 2 10 ≤ r 2 10) ∧ (((h 2 11 = 0 ∧ h 2 10 < h 2 3) ∧ r 2 10 ≤ h 2 10 + 2) ∨ (¬ (h 2 11 = 0 ∧ h 2 10 < h 2 3) ∧ r 2 10 ≤ h 2 10 + 1)))) := by
  intro k
  induction k with
  | zero => intros; exfalso; omega
  | succ k ih =>
    intro l1 l2 l3 l4 l5 l6 h a_l1 b_l1 a_l2 b_l2 a_l3 b_l3 a_l4 b_l4 a_l5 b_l5 a_l6 b_l6 V_h x_0 x_1 x_2 hm
    unfold qw_X2_addParameter_54
    have T1 := gF_2_3 V_h
    have T2 := gF_2_10 V_h
    have T3 := gF_2_11 V_h
    refine ok_rd (by omega) (gA_27 V_h) ?_; intro v2 e_v2 a_v2 b_v2
    refine ok_if ?_ ?_
    · intro C3
      refine ok_rd (by omega) (gA_27 V_h) ?_; intro v5 e_v5 a_v5 b_v5
      refine ok_add (by omega) ?_; intro v6 e_v6
      refine ok_wA (by omega) ?_; intro h7 E_h7; have V_h7 : VS_ h7 := by rw [E_h7]; exact wA_28 V_h (by omega)
      have T5 : h7 2 3 = h 2 3 := by rw [E_h7]; exact up_n (fun z => absurd z.1 (by decide))
      have T6 : h7 2 10 = h 2 10 := by rw [E_h7]; exact up_n (fun z => absurd z.1 (by decide))
      have T7 : h7 2 11 = h 2 11 := by rw [E_h7]; exact up_n (fun z => absurd z.1 (by decide))
      have T8 : h7 27 (l1).toNat = h 27 (l1).toNat := by rw [E_h7]; exact up_n (fun z => absurd z.1 (by decide))
      refine ok_rd (by omega) (gA_27 V_h7) ?_; intro v10 e_v10 a_v10 b_v10
      refine ok_add (by omega) ?_; intro v11 e_v11
      refine ok_wA (by omega) ?_; intro h12 E_h12; have V_h12 : VS_ h12 := by rw [E_h12]; exact wA_29 V_h7 (by omega)
      have T9 : h12 2 3 = h7 2 3 := by rw [E_h12]; exact up_n (fun z => absurd z.1 (by decide))
      have T10 : h12 2 10 = h7 2 10 := by rw [E_h12]; exact up_n (fun z => absurd z.1 (by decide))
      have T11 : h12 2 11 = h7 2 11 := by rw [E_h12]; exact up_n (fun z => absurd z.1 (by decide))
      have T12 : h12 27 (l1).toNat = h7 27 (l1).toNat := by rw [E_h12]; exact up_n (fun z => absurd z.1 (by decide))
      refine ok_rd (by omega) (gA_27 V_h12) ?_; intro v14 e_v14 a_v14 b_v14
      refine ok_add (by omega) ?_; intro v15 e_v15
      refine ok_wA (by omega) ?_; intro h16 E_h16; have V_h16 : VS_ h16 := by rw [E_h16]; exact wA_27 V_h12 (by omega)
      have T13 : h16 2 3 = h12 2 3 := by rw [E_h16]; exact up_n (fun z => absurd z.1 (by decide))
      have T14 : h16 2 10 = h12 2 10 := by rw [E_h16]; exact up_n (fun z => absurd z.1 (by decide))
      have T15 : h16 2 11 = h12 2 11 := by rw [E_h16]; exact up_n (fun z => absurd z.1 (by decide))
      have T16 : h16 27 (l1).toNat = v15 := by rw [E_h16]; exact up_s
      refine ok_add (by omega) ?_; intro v19 e_v19
      refine ok_xl ?_; intro h20 E_h20; have V_h20 : VS_ h20 := by rw [E_h20]; exact wF_2_10 V_h16 (by omega)
      have T17 : h20 2 3 = h16 2 3 := by rw [E_h20]; exact up_n (by decide)
      have T18 : h20 2 11 = h16 2 11 := by rw [E_h20]; exact up_n (by decide)
      have T19 : h20 27 (l1).toNat = h16 27 (l1).toNat := by rw [E_h20]; exact up_n (fun z => absurd z.1 (by decide))
      have T20 : h20 2 10 = v19 := by rw [E_h20]; exact up_s
      refine ok_cP (vf_X9_kind hn V_h20) ?_; intro u23 e_u23 a_u23 b_u23
      have T21 := lm_X9_kind e_u23
      refine ok_if ?_ ?_
      · intro C21
        exact ok_rVR V_h20 (by omega)
      · intro C21
        refine ok_add (by omega) ?_; intro v26 e_v26
        refine ok_xl ?_; intro h27 E_h27; have V_h27 : VS_ h27 := by rw [E_h27]; exact wF_2_10 V_h20 (by omega)
        have T23 : h27 2 3 = h20 2 3 := by rw [E_h27]; exact up_n (by decide)
        have T24 : h27 2 11 = h20 2 11 := by rw [E_h27]; exact up_n (by decide)
        have T25 : h27 27 (l1).toNat = h20 27 (l1).toNat := by rw [E_h27]; exact up_n (fun z => absurd z.1 (by decide))
        have T26 : h27 2 10 = v26 := by rw [E_h27]; exact up_s
        exact ok_rVR V_h27 (by omega)
    · intro C3
      refine ok_add (by omega) ?_; intro v30 e_v30
      refine ok_rd (by omega) (gA_28 V_h) ?_; intro v31 e_v31 a_v31 b_v31
      refine ok_if ?_ ?_
      · intro C26
        refine ok_add (by omega) ?_; intro v32 e_v32
        exact ok_mV (ih (by omega) (by omega) (by omega) (by omega) (by omega) (by omega) (by omega) (by omega) (by omega) (by omega) (by omega) (by omega) V_h (by omega) (by omega) (by omega) (by omega)) (fun _ V_r R_r => by have := gF_2_3 V_r; have := gF_2_10 V_r; have := gF_2_11 V_r; omega)
      · intro C26
        refine ok_cVR (vf_X9_tell hn (by omega) (by omega) (by omega) (by omega) V_h) ?_; intro u35 E_u35 V_u35 R_u35
        have T28 : u35 2 3 = h 2 3 := (ff_X9_tell nn) _ E_u35 2 3 rfl
        have T29 : u35 2 10 = h 2 10 := (ff_X9_tell nn) _ E_u35 2 10 rfl
        have T30 : u35 27 (l1).toNat = h 27 (l1).toNat := (ff_X9_tell nn) _ E_u35 27 (l1).toNat (nw_ar rfl _)
        have T31 := gF_2_11 V_u35
        refine ok_add (by omega) ?_; intro v36 e_v36
        exact ok_mV (ih (by omega) (by omega) (by omega) (by omega) (by omega) (by omega) (by omega) (by omega) (by omega) (by omega) (by omega) (by omega) V_u35 (by omega) (by omega) (by omega) (by omega)) (fun _ V_r R_r => by have := gF_2_3 V_r; have := gF_2_10 V_r; have := gF_2_11 V_r; omega)
set_option maxRecDepth 4000 in
theorem vf_X2_addParameter {nn : Nat} (hn : 1000000 ≤ nn) {a1 : Int} {h : ms_M} (a_a1 : 0 ≤ a1) (b_a1 : a1 ≤ 95) (V_h : VS_ h) (x_0 : h 2 10 ≤ 40000000)  : Ok_ (qf_X2_addParameter nn a1 h) (QVR_ (fun r => (h 2 11 = 0 ∨ ¬ r 2 11 = 0) ∧ (h 2 10 ≤ r 2 10) ∧ (((h 2 11 = 0 ∧ h 2 10 < h 2 3) ∧ r 2 10 ≤ h 2 10 + 5) ∨ (¬ (h 2 11 = 0 ∧ h 2 10 < h 2 3) ∧ r 2 10 ≤ h 2 10 + 2)))) := by
  unfold qf_X2_addParameter
  have T1 := gF_2_3 V_h
  have T2 := gF_2_10 V_h
  have T3 := gF_2_11 V_h
  refine ok_cIR (vf_X2_readType hn V_h (by omega)) ?_; intro u40 E_u40 V_u40 a_u40 b_u40 R_u40
  have T4 : u40.2 2 3 = h 2 3 := (ff_X2_readType nn) _ E_u40 2 3 rfl
  have T5 := gF_2_10 V_u40
  have T6 := gF_2_11 V_u40
  refine ok_cP (vf_X9_valueAt hn (by omega) (by omega) V_u40) ?_; intro u45 e_u45 a_u45 b_u45
  refine ok_mul (by omega) ?_; intro v46 e_v46
  refine ok_rd (by omega) (gA_27 V_u40) ?_; intro v48 e_v48 a_v48 b_v48
  refine ok_if ?_ ?_
  · intro C6
    exact ok_mV (vw_X2_addParameter_54 hn _ (by omega) (by omega) (by omega) (by omega) (by omega) (by omega) (by omega) (by omega) (by omega) (by omega) (by omega) (by omega) V_u40 (by omega) (by omega) (by omega) (by omega)) (fun _ V_r R_r => by have := gF_2_3 V_r; have := gF_2_10 V_r; have := gF_2_11 V_r; omega)
  · intro C6
    refine ok_cVR (vf_X9_tell hn (by omega) (by omega) (by omega) (by omega) V_u40) ?_; intro u51 E_u51 V_u51 R_u51
    have T8 : u51 2 3 = u40.2 2 3 := (ff_X9_tell nn) _ E_u51 2 3 rfl
    have T9 : u51 2 10 = u40.2 2 10 := (ff_X9_tell nn) _ E_u51 2 10 rfl
    have T10 : u51 27 (a1).toNat = u40.2 27 (a1).toNat := (ff_X9_tell nn) _ E_u51 27 (a1).toNat (nw_ar rfl _)
    have T11 := gF_2_11 V_u51
    exact ok_rVR V_u51 (by omega)
set_option maxRecDepth 4000 in
theorem vj_X2_skipBlock_60 {nn : Nat} (hn : 1000000 ≤ nn) {qkk_6 : Int → Int → Int → ms_M → Option ms_M} {K_kk_6 : Int} (hk_kk_6 : ∀ {l1 : Int} {l2 : Int} {l3 : Int} {h : ms_M} (a_l1 : (-2147483648) ≤ l1) (b_l1 : l1 ≤ 2147483647) (a_l2 : 0 ≤ l2) (b_l2 : l2 ≤ 1) (a_l3 : 0 ≤ l3) (b_l3 : l3 ≤ 3000) (V_h : VS_ h) (_ : 3001 - l3 < K_kk_6), Ok_ (qkk_6 l1 l2 l3 h) (QVR_ (fun r => (r 2 3 = h 2 3) ∧ (h 2 11 = 0 ∨ ¬ r 2 11 = 0) ∧ (h 2 10 ≤ r 2 10) ∧ ((¬ (h 2 11 = 0 ∧ h 2 10 < h 2 3) ∧ r 2 10 = h 2 10) ∨ ((h 2 11 = 0 ∧ h 2 10 < h 2 3) ∧ r 2 10 ≤ 3001))))) {l1 : Int} {l3 : Int} {h : ms_M} (a_l1 : (-2147483648) ≤ l1) (b_l1 : l1 ≤ 2147483647) (a_l3 : 0 ≤ l3) (b_l3 : l3 ≤ 2999) (V_h : VS_ h) (x_0 : (h 2 11 = 0 ∧ h 2 10 < h 2 3)) (hm_kk_6 : 3001 - l3 + 0 ≤ K_kk_6) : Ok_ (qj_X2_skipBlock_60 nn qkk_6 l1 l3 h) (QVR_ (fun r => (r 2 3 = h 2 3) ∧ (h 2 11 = 0 ∨ ¬ r 2 11 = 0) ∧ (h 2 10 ≤ r 2 10) ∧ (r 2 10 ≤ 3001))) := by
  unfold qj_X2_skipBlock_60
  have T1 := gF_2_3 V_h
  have T2 := gF_2_10 V_h
  have T3 := gF_2_11 V_h
  refine ok_add (by omega) ?_; intro v3 e_v3
  refine ok_xl ?_; intro h4 E_h4; have V_h4 : VS_ h4 := by rw [E_h4]; exact wF_2_10 V_h (by omega)
  have T4 : h4 2 3 = h 2 3 := by rw [E_h4]; exact up_n (by decide)
  have T5 : h4 2 11 = h 2 11 := by rw [E_h4]; exact up_n (by decide)
  have T6 : h4 2 10 = v3 := by rw [E_h4]; exact up_s
  refine ok_if ?_ ?_
  · intro C6
    refine ok_add (by omega) ?_; intro v5 e_v5
    exact ok_mV (hk_kk_6 (by omega) (by omega) (by omega) (by omega) (by omega) (by omega) V_h4 (by omega)) (fun _ V_r R_r => by have := gF_2_3 V_r; have := gF_2_10 V_r; have := gF_2_11 V_r; omega)
  · intro C6
    refine ok_add (by omega) ?_; intro v6 e_v6
    exact ok_mV (hk_kk_6 (by omega) (by omega) (by omega) (by omega) (by omega) (by omega) V_h4 (by omega)) (fun _ V_r R_r => by have := gF_2_3 V_r; have := gF_2_10 V_r; have := gF_2_11 V_r; omega)
set_option maxRecDepth 4000 in
theorem vw_X2_skipBlock_6 {nn : Nat} (hn : 1000000 ≤ nn) : ∀ (k : Nat) {l1 : Int} {l2 : Int} {l3 : Int} {h : ms_M} (a_l1 : (-2147483648) ≤ l1) (b_l1 : l1 ≤ 2147483647) (a_l2 : 0 ≤ l2) (b_l2 : l2 ≤ 1) (a_l3 : 0 ≤ l3) (b_l3 : l3 ≤ 3000) (V_h : VS_ h)  (hm : 3001 - l3 < (k : Int)), Ok_ (qw_X2_skipBlock_6 nn k l1 l2 l3 h) (QVR_ (fun r => (r 2 3 = h 2 3) ∧ (h 2 11 = 0 ∨ ¬ r 2 11 = 0) ∧ (h 2 10 ≤ r 2 10) ∧ ((¬ (h 2 11 = 0 ∧ h 2 10 < h 2 3) ∧ r 2 10 = h 2 10) ∨ ((h 2 11 = 0 ∧ h 2 10 < h 2 3) ∧ r 2 10 ≤ 3001)))) := by
  intro k
  induction k with
  | zero => intros; exfalso; omega
  | succ k ih =>
    intro l1 l2 l3 h a_l1 b_l1 a_l2 b_l2 a_l3 b_l3 V_h hm
    unfold qw_X2_skipBlock_6
    have T1 := gF_2_3 V_h
    have T2 := gF_2_10 V_h
    have T3 := gF_2_11 V_h
    refine ok_if ?_ ?_
    · intro C3
      exact ok_rVR V_h (by omega)
    · intro C3
      refine ok_if ?_ ?_
      · intro C4
        exact ok_rVR V_h (by omega)
      · intro C4
        refine ok_cP (vf_X9_kind hn V_h) ?_; intro u10 e_u10 a_u10 b_u10
        have T6 := lm_X9_kind e_u10
        refine ok_if ?_ ?_
        · intro C6
          exact ok_rVR V_h (by omega)
        · intro C6
          refine ok_cP (vf_X9_kind hn V_h) ?_; intro u13 e_u13 a_u13 b_u13
          have T8 := lm_X9_kind e_u13
          refine ok_if ?_ ?_
          · intro C8
            refine ok_cP (vf_X9_kind hn V_h) ?_; intro u16 e_u16 a_u16 b_u16
            have T10 := lm_X9_kind e_u16
            refine ok_if ?_ ?_
            · intro C10
              exact ok_mV (vj_X2_skipBlock_60 hn ih (by omega) (by omega) (by omega) (by omega) V_h (by omega) (by omega)) (fun _ V_r R_r => by have := gF_2_3 V_r; have := gF_2_10 V_r; have := gF_2_11 V_r; omega)
            · intro C10
              refine ok_addW (by omega) ?_; intro v17 a_v17 b_v17 w_v17
              exact ok_mV (vj_X2_skipBlock_60 hn ih (by omega) (by omega) (by omega) (by omega) V_h (by omega) (by omega)) (fun _ V_r R_r => by have := gF_2_3 V_r; have := gF_2_10 V_r; have := gF_2_11 V_r; omega)
          · intro C8
            refine ok_addW (by omega) ?_; intro v19 a_v19 b_v19 w_v19
            exact ok_mV (vj_X2_skipBlock_60 hn ih (by omega) (by omega) (by omega) (by omega) V_h (by omega) (by omega)) (fun _ V_r R_r => by have := gF_2_3 V_r; have := gF_2_10 V_r; have := gF_2_11 V_r; omega)
set_option maxRecDepth 4000 in
theorem vf_X2_skipBlock {nn : Nat} (hn : 1000000 ≤ nn) {h : ms_M} (V_h : VS_ h)  : Ok_ (qf_X2_skipBlock nn h) (QVR_ (fun r => (r 2 3 = h 2 3) ∧ (h 2 11 = 0 ∨ ¬ r 2 11 = 0) ∧ (h 2 10 ≤ r 2 10) ∧ ((¬ (h 2 11 = 0 ∧ h 2 10 < h 2 3) ∧ r 2 10 = h 2 10) ∨ ((h 2 11 = 0 ∧ h 2 10 < h 2 3) ∧ r 2 10 ≤ 3001)))) := by
  unfold qf_X2_skipBlock
  have T1 := gF_2_3 V_h
  have T2 := gF_2_10 V_h
  have T3 := gF_2_11 V_h
  exact ok_mV (vw_X2_skipBlock_6 hn _ (by omega) (by omega) (by omega) (by omega) (by omega) (by omega) V_h (by omega)) (fun _ V_r R_r => by have := gF_2_3 V_r; have := gF_2_10 V_r; have := gF_2_11 V_r; omega)
set_option maxRecDepth 4000 in
theorem vj_X2_addMethod_162 {nn : Nat} (hn : 1000000 ≤ nn) {l5 : Int} {h : ms_M} (a_l5 : 0 ≤ l5) (b_l5 : l5 ≤ 95) (V_h : VS_ h) (x_0 : h 2 10 ≤ 20500000)  : Ok_ (qj_X2_addMethod_162 nn l5 h) (QVR_ (fun r => (h 2 11 = 0 ∨ ¬ r 2 11 = 0) ∧ (h 2 10 ≤ r 2 10) ∧ (((h 2 11 = 0 ∧ h 2 10 < h 2 3) ∧ r 2 10 ≤ 3001) ∨ (¬ (h 2 11 = 0 ∧ h 2 10 < h 2 3) ∧ r 2 10 ≤ h 2 10 + 1)))) := by
  unfold qj_X2_addMethod_162
  have T1 := gF_2_3 V_h
  have T2 := gF_2_10 V_h
  have T3 := gF_2_11 V_h
  refine ok_add (by omega) ?_; intro v3 e_v3
  refine ok_xl ?_; intro h4 E_h4; have V_h4 : VS_ h4 := by rw [E_h4]; exact wF_2_10 V_h (by omega)
  have T4 : h4 2 3 = h 2 3 := by rw [E_h4]; exact up_n (by decide)
  have T5 : h4 2 11 = h 2 11 := by rw [E_h4]; exact up_n (by decide)
  have T6 : h4 2 10 = v3 := by rw [E_h4]; exact up_s
  refine ok_wA (by omega) ?_; intro h8 E_h8; have V_h8 : VS_ h8 := by rw [E_h8]; exact wA_23 V_h4 (by omega)
  have T7 : h8 2 3 = h4 2 3 := by rw [E_h8]; exact up_n (fun z => absurd z.1 (by decide))
  have T8 : h8 2 11 = h4 2 11 := by rw [E_h8]; exact up_n (fun z => absurd z.1 (by decide))
  have T9 : h8 2 10 = h4 2 10 := by rw [E_h8]; exact up_n (fun z => absurd z.1 (by decide))
  refine ok_cVR (vf_X2_skipBlock hn V_h8) ?_; intro u10 E_u10 V_u10 R_u10
  have T10 : u10 2 3 = h8 2 3 := (ff_X2_skipBlock nn) _ E_u10 2 3 rfl
  have T11 : u10 2 11 = h8 2 11 := (ff_X2_skipBlock nn) _ E_u10 2 11 rfl
  have T12 := gF_2_10 V_u10
  exact ok_rVR V_u10 (by omega)
set_option maxRecDepth 4000 in
theorem vw_X2_addMethod_120 {nn : Nat} (hn : 1000000 ≤ nn) : ∀ (k : Nat) {l5 : Int} {l6 : Int} {h : ms_M} (a_l5 : 0 ≤ l5) (b_l5 : l5 ≤ 95) (a_l6 : 0 ≤ l6) (b_l6 : l6 ≤ 3000) (V_h : VS_ h) (x_0 : h 2 10 ≤ 20000000 + 3 * l6)  (hm : 3001 - l6 < (k : Int)), Ok_ (qw_X2_addMethod_120 nn k l5 l6 h) (QVR_ (fun r => (h 2 11 = 0 ∨ ¬ r 2 11 = 0) ∧ (h 2 10 ≤ r 2 10) ∧ (((h 2 11 = 0 ∧ h 2 10 < h 2 3) ∧ r 2 10 ≤ 3010 + 2 * (3001 - l6) + 3010) ∨ (¬ (h 2 11 = 0 ∧ h 2 10 < h 2 3) ∧ r 2 10 ≤ h 2 10 + 2 * (3001 - l6) + 10)))) := by
  intro k
  induction k with
  | zero => intros; exfalso; omega
  | succ k ih =>
    intro l5 l6 h a_l5 b_l5 a_l6 b_l6 V_h x_0 hm
    unfold qw_X2_addMethod_120
    have T1 := gF_2_3 V_h
    have T2 := gF_2_10 V_h
    have T3 := gF_2_11 V_h
    refine ok_if ?_ ?_
    · intro C3
      exact ok_mV (vj_X2_addMethod_162 hn (by omega) (by omega) V_h (by omega)) (fun _ V_r R_r => by have := gF_2_3 V_r; have := gF_2_10 V_r; have := gF_2_11 V_r; omega)
    · intro C3
      refine ok_if ?_ ?_
      · intro C4
        exact ok_mV (vj_X2_addMethod_162 hn (by omega) (by omega) V_h (by omega)) (fun _ V_r R_r => by have := gF_2_3 V_r; have := gF_2_10 V_r; have := gF_2_11 V_r; omega)
      · intro C4
        refine ok_cP (vf_X9_kind hn V_h) ?_; intro u15 e_u15 a_u15 b_u15
        have T6 := lm_X9_kind e_u15
        refine ok_if ?_ ?_
        · intro C6
          exact ok_mV (vj_X2_addMethod_162 hn (by omega) (by omega) V_h (by omega)) (fun _ V_r R_r => by have := gF_2_3 V_r; have := gF_2_10 V_r; have := gF_2_11 V_r; omega)
        · intro C6
          refine ok_cVR (vf_X2_addParameter hn (by omega) (by omega) V_h (by omega)) ?_; intro u17 E_u17 V_u17 R_u17
          have T8 : u17 2 3 = h 2 3 := (ff_X2_addParameter nn) _ E_u17 2 3 rfl
          have T9 := gF_2_10 V_u17
          have T10 := gF_2_11 V_u17
          refine ok_add (by omega) ?_; intro v18 e_v18
          exact ok_mV (ih (by omega) (by omega) (by omega) (by omega) V_u17 (by omega) (by omega)) (fun _ V_r R_r => by have := gF_2_3 V_r; have := gF_2_10 V_r; have := gF_2_11 V_r; omega)
set_option maxRecDepth 4000 in
theorem vj_X2_addMethod_48 {nn : Nat} (hn : 1000000 ≤ nn) {l1 : Int} {l2 : Int} {l3 : Int} {l4 : Int} {h : ms_M} (a_l1 : 0 ≤ l1) (b_l1 : l1 ≤ 7) (a_l2 : 0 ≤ l2) (b_l2 : l2 ≤ 20000000) (a_l3 : 0 ≤ l3) (b_l3 : l3 ≤ 441) (a_l4 : 0 ≤ l4) (b_l4 : l4 ≤ 1) (V_h : VS_ h) (x_0 : h 2 10 ≤ 19990000) (x_1 : h 21 (l1).toNat < 12)  : Ok_ (qj_X2_addMethod_48 nn l1 l2 l3 l4 h) (QVR_ (fun r => (h 2 11 = 0 ∨ ¬ r 2 11 = 0) ∧ (h 2 10 ≤ r 2 10) ∧ (((h 2 11 = 0 ∧ h 2 10 < h 2 3) ∧ r 2 10 ≤ 12100) ∨ (¬ (h 2 11 = 0 ∧ h 2 10 < h 2 3) ∧ r 2 10 ≤ h 2 10 + 6020)))) := by
  unfold qj_X2_addMethod_48
  have T1 := gF_2_3 V_h
  have T2 := gF_2_10 V_h
  have T3 := gF_2_11 V_h
  refine ok_mul (by omega) ?_; intro v22 e_v22
  refine ok_rd (by omega) (gA_21 V_h) ?_; intro v24 e_v24 a_v24 b_v24
  refine ok_add (by omega) ?_; intro v25 e_v25
  refine ok_wA (by omega) ?_; intro h27 E_h27; have V_h27 : VS_ h27 := by rw [E_h27]; exact wA_22 V_h (by omega)
  have T4 : h27 2 3 = h 2 3 := by rw [E_h27]; exact up_n (fun z => absurd z.1 (by decide))
  have T5 : h27 2 10 = h 2 10 := by rw [E_h27]; exact up_n (fun z => absurd z.1 (by decide))
  have T6 : h27 2 11 = h 2 11 := by rw [E_h27]; exact up_n (fun z => absurd z.1 (by decide))
  have T7 : h27 21 (l1).toNat = h 21 (l1).toNat := by rw [E_h27]; exact up_n (fun z => absurd z.1 (by decide))
  refine ok_wA (by omega) ?_; intro h29 E_h29; have V_h29 : VS_ h29 := by rw [E_h29]; exact wA_24 V_h27 (by omega)
  have T8 : h29 2 3 = h27 2 3 := by rw [E_h29]; exact up_n (fun z => absurd z.1 (by decide))
  have T9 : h29 2 10 = h27 2 10 := by rw [E_h29]; exact up_n (fun z => absurd z.1 (by decide))
  have T10 : h29 2 11 = h27 2 11 := by rw [E_h29]; exact up_n (fun z => absurd z.1 (by decide))
  have T11 : h29 21 (l1).toNat = h27 21 (l1).toNat := by rw [E_h29]; exact up_n (fun z => absurd z.1 (by decide))
  refine ok_wZ (by omega) (by omega) ?_; intro h31 E_h31; have V_h31 : VS_ h31 := by rw [E_h31]; exact wA_25 V_h29 (by omega)
  have T12 : h31 2 3 = h29 2 3 := by rw [E_h31]; exact up_n (fun z => absurd z.1 (by decide))
  have T13 : h31 2 10 = h29 2 10 := by rw [E_h31]; exact up_n (fun z => absurd z.1 (by decide))
  have T14 : h31 2 11 = h29 2 11 := by rw [E_h31]; exact up_n (fun z => absurd z.1 (by decide))
  have T15 : h31 21 (l1).toNat = h29 21 (l1).toNat := by rw [E_h31]; exact up_n (fun z => absurd z.1 (by decide))
  refine ok_wA (by omega) ?_; intro h33 E_h33; have V_h33 : VS_ h33 := by rw [E_h33]; exact wA_27 V_h31 (by omega)
  have T16 : h33 2 3 = h31 2 3 := by rw [E_h33]; exact up_n (fun z => absurd z.1 (by decide))
  have T17 : h33 2 10 = h31 2 10 := by rw [E_h33]; exact up_n (fun z => absurd z.1 (by decide))
  have T18 : h33 2 11 = h31 2 11 := by rw [E_h33]; exact up_n (fun z => absurd z.1 (by decide))
  have T19 : h33 21 (l1).toNat = h31 21 (l1).toNat := by rw [E_h33]; exact up_n (fun z => absurd z.1 (by decide))
  refine ok_rd (by omega) (gA_21 V_h33) ?_; intro v35 e_v35 a_v35 b_v35
  refine ok_add (by omega) ?_; intro v36 e_v36
  refine ok_wA (by omega) ?_; intro h37 E_h37; have V_h37 : VS_ h37 := by rw [E_h37]; exact wA_21 V_h33 (by omega)
  have T20 : h37 2 3 = h33 2 3 := by rw [E_h37]; exact up_n (fun z => absurd z.1 (by decide))
  have T21 : h37 2 10 = h33 2 10 := by rw [E_h37]; exact up_n (fun z => absurd z.1 (by decide))
  have T22 : h37 2 11 = h33 2 11 := by rw [E_h37]; exact up_n (fun z => absurd z.1 (by decide))
  have T23 : h37 21 (l1).toNat = v36 := by rw [E_h37]; exact up_s
  refine ok_add (by omega) ?_; intro v40 e_v40
  refine ok_xl ?_; intro h41 E_h41; have V_h41 : VS_ h41 := by rw [E_h41]; exact wF_2_10 V_h37 (by omega)
  have T24 : h41 2 3 = h37 2 3 := by rw [E_h41]; exact up_n (by decide)
  have T25 : h41 2 11 = h37 2 11 := by rw [E_h41]; exact up_n (by decide)
  have T26 : h41 21 (l1).toNat = h37 21 (l1).toNat := by rw [E_h41]; exact up_n (fun z => absurd z.1 (by decide))
  have T27 : h41 2 10 = v40 := by rw [E_h41]; exact up_s
  exact ok_mV (vw_X2_addMethod_120 hn _ (by omega) (by omega) (by omega) (by omega) V_h41 (by omega) (by omega)) (fun _ V_r R_r => by have := gF_2_3 V_r; have := gF_2_10 V_r; have := gF_2_11 V_r; omega)
set_option maxRecDepth 4000 in
theorem vf_X2_addMethod {nn : Nat} (hn : 1000000 ≤ nn) {a1 : Int} {a2 : Int} {a3 : Int} {a4 : Int} {h : ms_M} (a_a1 : 0 ≤ a1) (b_a1 : a1 ≤ 7) (a_a2 : 0 ≤ a2) (b_a2 : a2 ≤ 20000000) (a_a3 : 0 ≤ a3) (b_a3 : a3 ≤ 441) (a_a4 : 0 ≤ a4) (b_a4 : a4 ≤ 1) (V_h : VS_ h) (x_0 : h 2 10 ≤ 19990000)  : Ok_ (qf_X2_addMethod nn a1 a2 a3 a4 h) (QVR_ (fun r => (h 2 11 = 0 ∨ ¬ r 2 11 = 0) ∧ (h 2 10 ≤ r 2 10) ∧ (((h 2 11 = 0 ∧ h 2 10 < h 2 3) ∧ r 2 10 ≤ 12100) ∨ (¬ (h 2 11 = 0 ∧ h 2 10 < h 2 3) ∧ r 2 10 ≤ h 2 10 + 6020)))) := by
  unfold qf_X2_addMethod
  have T1 := gF_2_3 V_h
  have T2 := gF_2_10 V_h
  have T3 := gF_2_11 V_h
  refine ok_rd (by omega) (gA_21 V_h) ?_; intro v43 e_v43 a_v43 b_v43
  refine ok_if ?_ ?_
  · intro C3
    refine ok_cP (vf_X9_valueAt hn (by omega) (by omega) V_h) ?_; intro u46 e_u46 a_u46 b_u46
    refine ok_cP (vf_X2_methodIn hn (by omega) (by omega) (by omega) (by omega) V_h) ?_; intro u48 e_u48 a_u48 b_u48
    refine ok_if ?_ ?_
    · intro C4
      exact ok_mV (vj_X2_addMethod_48 hn (by omega) (by omega) (by omega) (by omega) (by omega) (by omega) (by omega) (by omega) V_h (by omega) (by omega)) (fun _ V_r R_r => by have := gF_2_3 V_r; have := gF_2_10 V_r; have := gF_2_11 V_r; omega)
    · intro C4
      refine ok_cVR (vf_X9_tell hn (by omega) (by omega) (by omega) (by omega) V_h) ?_; intro u51 E_u51 V_u51 R_u51
      have T6 : u51 2 3 = h 2 3 := (ff_X9_tell nn) _ E_u51 2 3 rfl
      have T7 : u51 2 10 = h 2 10 := (ff_X9_tell nn) _ E_u51 2 10 rfl
      have T8 : u51 21 (a1).toNat = h 21 (a1).toNat := (ff_X9_tell nn) _ E_u51 21 (a1).toNat (nw_ar rfl _)
      have T9 := gF_2_11 V_u51
      exact ok_mV (vj_X2_addMethod_48 hn (by omega) (by omega) (by omega) (by omega) (by omega) (by omega) (by omega) (by omega) V_u51 (by omega) (by omega)) (fun _ V_r R_r => by have := gF_2_3 V_r; have := gF_2_10 V_r; have := gF_2_11 V_r; omega)
  · intro C3
    refine ok_cVR (vf_X9_tell hn (by omega) (by omega) (by omega) (by omega) V_h) ?_; intro u55 E_u55 V_u55 R_u55
    have T10 : u55 2 3 = h 2 3 := (ff_X9_tell nn) _ E_u55 2 3 rfl
    have T11 : u55 2 10 = h 2 10 := (ff_X9_tell nn) _ E_u55 2 10 rfl
    have T12 : u55 21 (a1).toNat = h 21 (a1).toNat := (ff_X9_tell nn) _ E_u55 21 (a1).toNat (nw_ar rfl _)
    have T13 := gF_2_11 V_u55
    exact ok_rVR V_u55 (by omega)
set_option maxRecDepth 4000 in
theorem vj_X2_readMember_72 {nn : Nat} (hn : 1000000 ≤ nn) {l1 : Int} {l2 : Int} {l3 : Int} {h : ms_M} (a_l1 : 0 ≤ l1) (b_l1 : l1 ≤ 7) (a_l2 : 0 ≤ l2) (b_l2 : l2 ≤ 1) (a_l3 : 0 ≤ l3) (b_l3 : l3 ≤ 441) (V_h : VS_ h) (x_0 : h 2 10 ≤ 19980010)  : Ok_ (qj_X2_readMember_72 nn l1 l2 l3 h) (QVR_ (fun r => (h 2 11 = 0 ∨ ¬ r 2 11 = 0) ∧ (h 2 10 ≤ r 2 10) ∧ (((h 2 11 = 0 ∧ h 2 10 < h 2 3) ∧ r 2 10 ≤ 12150) ∨ (¬ (h 2 11 = 0 ∧ h 2 10 < h 2 3) ∧ r 2 10 ≤ h 2 10 + 6025)))) := by
  unfold qj_X2_readMember_72
  have T1 := gF_2_3 V_h
  have T2 := gF_2_10 V_h
  have T3 := gF_2_11 V_h
  refine ok_add (by omega) ?_; intro v5 e_v5
  refine ok_xl ?_; intro h6 E_h6; have V_h6 : VS_ h6 := by rw [E_h6]; exact wF_2_10 V_h (by omega)
  have T4 : h6 2 3 = h 2 3 := by rw [E_h6]; exact up_n (by decide)
  have T5 : h6 2 11 = h 2 11 := by rw [E_h6]; exact up_n (by decide)
  have T6 : h6 2 10 = v5 := by rw [E_h6]; exact up_s
  refine ok_cP (vf_X9_kind hn V_h6) ?_; intro u9 e_u9 a_u9 b_u9
  have T7 := lm_X9_kind e_u9
  refine ok_if ?_ ?_
  · intro C7
    refine ok_if ?_ ?_
    · intro C8
      exact ok_rVR V_h6 (by omega)
    · intro C8
      refine ok_cVR (vf_X2_addMethod hn (by omega) (by omega) (by omega) (by omega) (by omega) (by omega) (by omega) (by omega) V_h6 (by omega)) ?_; intro u13 E_u13 V_u13 R_u13
      have T10 : u13 2 3 = h6 2 3 := (ff_X2_addMethod nn) _ E_u13 2 3 rfl
      have T11 := gF_2_10 V_u13
      have T12 := gF_2_11 V_u13
      exact ok_rVR V_u13 (by omega)
  · intro C7
    refine ok_add (by omega) ?_; intro v17 e_v17
    refine ok_xl ?_; intro h18 E_h18; have V_h18 : VS_ h18 := by rw [E_h18]; exact wF_2_10 V_h6 (by omega)
    have T13 : h18 2 3 = h6 2 3 := by rw [E_h18]; exact up_n (by decide)
    have T14 : h18 2 11 = h6 2 11 := by rw [E_h18]; exact up_n (by decide)
    have T15 : h18 2 10 = v17 := by rw [E_h18]; exact up_s
    refine ok_cVR (vf_X2_addField hn (by omega) (by omega) (by omega) (by omega) (by omega) (by omega) V_h18) ?_; intro u20 E_u20 V_u20 R_u20
    have T16 : u20 2 3 = h18 2 3 := (ff_X2_addField nn) _ E_u20 2 3 rfl
    have T17 : u20 2 10 = h18 2 10 := (ff_X2_addField nn) _ E_u20 2 10 rfl
    have T18 := gF_2_11 V_u20
    exact ok_rVR V_u20 (by omega)
set_option maxRecDepth 4000 in
theorem vj_X2_readMember_35 {nn : Nat} (hn : 1000000 ≤ nn) {l1 : Int} {l2 : Int} {h : ms_M} (a_l1 : 0 ≤ l1) (b_l1 : l1 ≤ 7) (a_l2 : 0 ≤ l2) (b_l2 : l2 ≤ 1) (V_h : VS_ h) (x_0 : h 2 10 ≤ 19980001)  : Ok_ (qj_X2_readMember_35 nn l1 l2 h) (QVR_ (fun r => (h 2 11 = 0 ∨ ¬ r 2 11 = 0) ∧ (h 2 10 ≤ r 2 10) ∧ (((h 2 11 = 0 ∧ h 2 10 < h 2 3) ∧ r 2 10 ≤ 12180) ∨ (¬ (h 2 11 = 0 ∧ h 2 10 < h 2 3) ∧ r 2 10 ≤ h 2 10 + 6028)))) := by
  unfold qj_X2_readMember_35
  have T1 := gF_2_3 V_h
  have T2 := gF_2_10 V_h
  have T3 := gF_2_11 V_h
  refine ok_cP (vf_X9_kind hn V_h) ?_; intro u24 e_u24 a_u24 b_u24
  have T4 := lm_X9_kind e_u24
  refine ok_if ?_ ?_
  · intro C4
    refine ok_cIR (vf_X2_readType hn V_h (by omega)) ?_; intro u26 E_u26 V_u26 a_u26 b_u26 R_u26
    have T6 : u26.2 2 3 = h 2 3 := (ff_X2_readType nn) _ E_u26 2 3 rfl
    have T7 := gF_2_10 V_u26
    have T8 := gF_2_11 V_u26
    exact ok_mV (vj_X2_readMember_72 hn (by omega) (by omega) (by omega) (by omega) (by omega) (by omega) V_u26 (by omega)) (fun _ V_r R_r => by have := gF_2_3 V_r; have := gF_2_10 V_r; have := gF_2_11 V_r; omega)
  · intro C4
    refine ok_add (by omega) ?_; intro v29 e_v29
    refine ok_xl ?_; intro h30 E_h30; have V_h30 : VS_ h30 := by rw [E_h30]; exact wF_2_10 V_h (by omega)
    have T9 : h30 2 3 = h 2 3 := by rw [E_h30]; exact up_n (by decide)
    have T10 : h30 2 11 = h 2 11 := by rw [E_h30]; exact up_n (by decide)
    have T11 : h30 2 10 = v29 := by rw [E_h30]; exact up_s
    exact ok_mV (vj_X2_readMember_72 hn (by omega) (by omega) (by omega) (by omega) (by omega) (by omega) V_h30 (by omega)) (fun _ V_r R_r => by have := gF_2_3 V_r; have := gF_2_10 V_r; have := gF_2_11 V_r; omega)
set_option maxRecDepth 4000 in
theorem vj_X2_readMember_17 {nn : Nat} (hn : 1000000 ≤ nn) {l1 : Int} {s0 : Int} {h : ms_M} (a_l1 : 0 ≤ l1) (b_l1 : l1 ≤ 7) (a_s0 : 0 ≤ s0) (b_s0 : s0 ≤ 1) (V_h : VS_ h) (x_0 : h 2 10 ≤ 19980000) (x_1 : s0 = 0 ∨ (h 2 11 = 0 ∧ h 2 10 < h 2 3))  : Ok_ (qj_X2_readMember_17 nn l1 s0 h) (QVR_ (fun r => (h 2 11 = 0 ∨ ¬ r 2 11 = 0) ∧ (h 2 10 ≤ r 2 10) ∧ (((h 2 11 = 0 ∧ h 2 10 < h 2 3) ∧ r 2 10 ≤ 12190) ∨ (¬ (h 2 11 = 0 ∧ h 2 10 < h 2 3) ∧ r 2 10 ≤ h 2 10 + 6029)))) := by
  unfold qj_X2_readMember_17
  have T1 := gF_2_3 V_h
  have T2 := gF_2_10 V_h
  have T3 := gF_2_11 V_h
  refine ok_if ?_ ?_
  · intro C3
    exact ok_mV (vj_X2_readMember_35 hn (by omega) (by omega) (by omega) (by omega) V_h (by omega)) (fun _ V_r R_r => by have := gF_2_3 V_r; have := gF_2_10 V_r; have := gF_2_11 V_r; omega)
  · intro C3
    refine ok_add (by omega) ?_; intro v34 e_v34
    refine ok_xl ?_; intro h35 E_h35; have V_h35 : VS_ h35 := by rw [E_h35]; exact wF_2_10 V_h (by omega)
    have T5 : h35 2 3 = h 2 3 := by rw [E_h35]; exact up_n (by decide)
    have T6 : h35 2 11 = h 2 11 := by rw [E_h35]; exact up_n (by decide)
    have T7 : h35 2 10 = v34 := by rw [E_h35]; exact up_s
    exact ok_mV (vj_X2_readMember_35 hn (by omega) (by omega) (by omega) (by omega) V_h35 (by omega)) (fun _ V_r R_r => by have := gF_2_3 V_r; have := gF_2_10 V_r; have := gF_2_11 V_r; omega)
set_option maxRecDepth 4000 in
theorem vf_X2_readMember {nn : Nat} (hn : 1000000 ≤ nn) {a1 : Int} {h : ms_M} (a_a1 : 0 ≤ a1) (b_a1 : a1 ≤ 7) (V_h : VS_ h) (x_0 : h 2 10 ≤ 19980000)  : Ok_ (qf_X2_readMember nn a1 h) (QVR_ (fun r => (h 2 11 = 0 ∨ ¬ r 2 11 = 0) ∧ (h 2 10 ≤ r 2 10) ∧ (((h 2 11 = 0 ∧ h 2 10 < h 2 3) ∧ r 2 10 ≤ 12200) ∨ (¬ (h 2 11 = 0 ∧ h 2 10 < h 2 3) ∧ r 2 10 ≤ h 2 10 + 6030)))) := by
  unfold qf_X2_readMember
  have T1 := gF_2_3 V_h
  have T2 := gF_2_10 V_h
  have T3 := gF_2_11 V_h
  refine ok_cP (vf_X9_kind hn V_h) ?_; intro u39 e_u39 a_u39 b_u39
  have T4 := lm_X9_kind e_u39
  refine ok_if ?_ ?_
  · intro C4
    exact ok_mV (vj_X2_readMember_17 hn (by omega) (by omega) (by omega) (by omega) V_h (by omega) (by omega)) (fun _ V_r R_r => by have := gF_2_3 V_r; have := gF_2_10 V_r; have := gF_2_11 V_r; omega)
  · intro C4
    exact ok_mV (vj_X2_readMember_17 hn (by omega) (by omega) (by omega) (by omega) V_h (by omega) (by omega)) (fun _ V_r R_r => by have := gF_2_3 V_r; have := gF_2_10 V_r; have := gF_2_11 V_r; omega)
set_option maxRecDepth 4000 in
theorem vw_X2_readMembers_57 {nn : Nat} (hn : 1000000 ≤ nn) {qkk_2 : Int → ms_M → Option ms_M} {K_kk_2 : Int} (hk_kk_2 : ∀ {l1 : Int} {h : ms_M} (a_l1 : 0 ≤ l1) (b_l1 : l1 ≤ 8) (V_h : VS_ h) (x_0 : ¬ h 2 11 = 0 ∨ h 11 2 ≤ 8) (_ : 9 - l1 < K_kk_2), Ok_ (qkk_2 l1 h) (QVR_ (fun r => (h 2 11 = 0 ∨ ¬ r 2 11 = 0)))) : ∀ (k : Nat) {l1 : Int} {l3 : Int} {h : ms_M} (a_l1 : 0 ≤ l1) (b_l1 : l1 ≤ 7) (a_l3 : 0 ≤ l3) (b_l3 : l3 ≤ 3000) (V_h : VS_ h) (x_0 : h 11 2 ≤ 8) (x_1 : h 2 10 ≤ 20000 + 6030 * l3) (hm_kk_2 : 9 - l1 + 0 ≤ K_kk_2) (hm : 3001 - l3 < (k : Int)), Ok_ (qw_X2_readMembers_57 nn qkk_2 k l1 l3 h) (QVR_ (fun r => (h 2 11 = 0 ∨ ¬ r 2 11 = 0))) := by
  intro k
  induction k with
  | zero => intros; exfalso; omega
  | succ k ih =>
    intro l1 l3 h a_l1 b_l1 a_l3 b_l3 V_h x_0 x_1 hm_kk_2 hm
    unfold qw_X2_readMembers_57
    have T1 := gF_2_10 V_h
    have T2 := gF_2_11 V_h
    have T3 := gF_11_2 V_h
    refine ok_if ?_ ?_
    · intro C3
      refine ok_add (by omega) ?_; intro v1 e_v1
      exact ok_mV (hk_kk_2 (by omega) (by omega) V_h (by omega) (by omega)) (fun _ V_r R_r => by have := gF_2_10 V_r; have := gF_2_11 V_r; have := gF_11_2 V_r; omega)
    · intro C3
      refine ok_if ?_ ?_
      · intro C4
        refine ok_add (by omega) ?_; intro v4 e_v4
        exact ok_mV (hk_kk_2 (by omega) (by omega) V_h (by omega) (by omega)) (fun _ V_r R_r => by have := gF_2_10 V_r; have := gF_2_11 V_r; have := gF_11_2 V_r; omega)
      · intro C4
        refine ok_cP (vf_X9_kind hn V_h) ?_; intro u7 e_u7 a_u7 b_u7
        have T6 := lm_X9_kind e_u7
        refine ok_if ?_ ?_
        · intro C6
          refine ok_add (by omega) ?_; intro v8 e_v8
          exact ok_mV (hk_kk_2 (by omega) (by omega) V_h (by omega) (by omega)) (fun _ V_r R_r => by have := gF_2_10 V_r; have := gF_2_11 V_r; have := gF_11_2 V_r; omega)
        · intro C6
          refine ok_cVR (vf_X2_readMember hn (by omega) (by omega) V_h (by omega)) ?_; intro u10 E_u10 V_u10 R_u10
          have T8 : u10 11 2 = h 11 2 := (ff_X2_readMember nn) _ E_u10 11 2 rfl
          have T9 := gF_2_10 V_u10
          have T10 := gF_2_11 V_u10
          refine ok_add (by omega) ?_; intro v11 e_v11
          exact ok_mV (ih (by omega) (by omega) (by omega) (by omega) V_u10 (by omega) (by omega) (by omega) (by omega)) (fun _ V_r R_r => by have := gF_2_10 V_r; have := gF_2_11 V_r; have := gF_11_2 V_r; omega)
set_option maxRecDepth 4000 in
theorem vj_X2_readMembers_51 {nn : Nat} (hn : 1000000 ≤ nn) {qkk_2 : Int → ms_M → Option ms_M} {K_kk_2 : Int} (hk_kk_2 : ∀ {l1 : Int} {h : ms_M} (a_l1 : 0 ≤ l1) (b_l1 : l1 ≤ 8) (V_h : VS_ h) (x_0 : ¬ h 2 11 = 0 ∨ h 11 2 ≤ 8) (_ : 9 - l1 < K_kk_2), Ok_ (qkk_2 l1 h) (QVR_ (fun r => (h 2 11 = 0 ∨ ¬ r 2 11 = 0)))) {l1 : Int} {s0 : Int} {s1 : Int} {h : ms_M} (a_l1 : 0 ≤ l1) (b_l1 : l1 ≤ 7) (a_s0 : 2 ≤ s0) (b_s0 : s0 ≤ 4) (a_s1 : (-1) ≤ s1) (b_s1 : s1 ≤ 3004) (V_h : VS_ h) (x_0 : h 11 2 ≤ 8) (hm_kk_2 : 9 - l1 + 0 ≤ K_kk_2) : Ok_ (qj_X2_readMembers_51 nn qkk_2 l1 s0 s1 h) (QVR_ (fun r => (h 2 11 = 0 ∨ ¬ r 2 11 = 0))) := by
  unfold qj_X2_readMembers_51
  have T1 := gF_2_10 V_h
  have T2 := gF_2_11 V_h
  have T3 := gF_11_2 V_h
  refine ok_add (by omega) ?_; intro v15 e_v15
  refine ok_xl ?_; intro h16 E_h16; have V_h16 : VS_ h16 := by rw [E_h16]; exact wF_2_10 V_h (by omega)
  have T4 : h16 2 11 = h 2 11 := by rw [E_h16]; exact up_n (by decide)
  have T5 : h16 11 2 = h 11 2 := by rw [E_h16]; exact up_n (by decide)
  have T6 : h16 2 10 = v15 := by rw [E_h16]; exact up_s
  exact ok_mV (vw_X2_readMembers_57 hn hk_kk_2 _ (by omega) (by omega) (by omega) (by omega) V_h16 (by omega) (by omega) (by omega) (by omega)) (fun _ V_r R_r => by have := gF_2_10 V_r; have := gF_2_11 V_r; have := gF_11_2 V_r; omega)
set_option maxRecDepth 4000 in
theorem vw_X2_readMembers_2 {nn : Nat} (hn : 1000000 ≤ nn) : ∀ (k : Nat) {l1 : Int} {h : ms_M} (a_l1 : 0 ≤ l1) (b_l1 : l1 ≤ 8) (V_h : VS_ h) (x_0 : ¬ h 2 11 = 0 ∨ h 11 2 ≤ 8)  (hm : 9 - l1 < (k : Int)), Ok_ (qw_X2_readMembers_2 nn k l1 h) (QVR_ (fun r => (h 2 11 = 0 ∨ ¬ r 2 11 = 0))) := by
  intro k
  induction k with
  | zero => intros; exfalso; omega
  | succ k ih =>
    intro l1 h a_l1 b_l1 V_h x_0 hm
    unfold qw_X2_readMembers_2
    have T1 := gF_2_10 V_h
    have T2 := gF_2_11 V_h
    have T3 := gF_11_2 V_h
    refine ok_if ?_ ?_
    · intro C3
      exact ok_rVR V_h (by omega)
    · intro C3
      refine ok_if ?_ ?_
      · intro C4
        exact ok_rVR V_h (by omega)
      · intro C4
        refine ok_cP (vf_X2_tokenOfClass hn (by omega) (by omega) V_h) ?_; intro u21 e_u21 a_u21 b_u21
        refine ok_add (by omega) ?_; intro v24 e_v24
        refine ok_cP (vf_X9_kindAt hn (by omega) (by omega) V_h) ?_; intro u26 e_u26 a_u26 b_u26
        have T6 := lm_X9_kindAt e_u26
        refine ok_if ?_ ?_
        · intro C6
          exact ok_mV (vj_X2_readMembers_51 hn ih (by omega) (by omega) (by omega) (by omega) (by omega) (by omega) V_h (by omega) (by omega)) (fun _ V_r R_r => by have := gF_2_10 V_r; have := gF_2_11 V_r; have := gF_11_2 V_r; omega)
        · intro C6
          exact ok_mV (vj_X2_readMembers_51 hn ih (by omega) (by omega) (by omega) (by omega) (by omega) (by omega) V_h (by omega) (by omega)) (fun _ V_r R_r => by have := gF_2_10 V_r; have := gF_2_11 V_r; have := gF_11_2 V_r; omega)
set_option maxRecDepth 4000 in
theorem vf_X2_readMembers {nn : Nat} (hn : 1000000 ≤ nn) {h : ms_M} (V_h : VS_ h) (x_0 : ¬ h 2 11 = 0 ∨ h 11 2 ≤ 8)  : Ok_ (qf_X2_readMembers nn h) (QVR_ (fun r => (h 2 11 = 0 ∨ ¬ r 2 11 = 0))) := by
  unfold qf_X2_readMembers
  have T1 := gF_2_10 V_h
  have T2 := gF_2_11 V_h
  have T3 := gF_11_2 V_h
  exact ok_mV (vw_X2_readMembers_2 hn _ (by omega) (by omega) V_h (by omega) (by omega)) (fun _ V_r R_r => by have := gF_2_10 V_r; have := gF_2_11 V_r; have := gF_11_2 V_r; omega)
set_option maxRecDepth 4000 in
theorem vf_X2_addClass {nn : Nat} (hn : 1000000 ≤ nn) {a1 : Int} {h : ms_M} (a_a1 : 0 ≤ a1) (b_a1 : a1 ≤ 3004) (V_h : VS_ h)  : Ok_ (qf_X2_addClass nn a1 h) (QVR_ (fun r => (h 11 2 ≤ r 11 2 ∧ r 11 2 ≤ h 11 2 + 1))) := by
  unfold qf_X2_addClass
  have T1 := gF_11_2 V_h
  refine ok_if ?_ ?_
  · intro C1
    exact ok_rVR V_h (by omega)
  · intro C1
    refine ok_wA (by omega) ?_; intro h6 E_h6; have V_h6 : VS_ h6 := by rw [E_h6]; exact wA_15 V_h (by omega)
    have T3 : h6 11 2 = h 11 2 := by rw [E_h6]; exact up_n (fun z => absurd z.1 (by decide))
    refine ok_add (by omega) ?_; intro v8 e_v8
    refine ok_xl ?_; intro h9 E_h9; have V_h9 : VS_ h9 := by rw [E_h9]; exact wF_11_2 V_h6 (by omega)
    have T4 : h9 11 2 = v8 := by rw [E_h9]; exact up_s
    exact ok_rVR V_h9 (by omega)
set_option maxRecDepth 4000 in
theorem vf_X8_accept {nn : Nat} (hn : 1000000 ≤ nn) {a1 : Int} {h : ms_M} (a_a1 : 10 ≤ a1) (b_a1 : a1 ≤ 51) (V_h : VS_ h)  : Ok_ (qf_X8_accept nn a1 h) (QIR_ 0 1 (fun u r => (r 2 3 = h 2 3) ∧ (r 2 11 = h 2 11) ∧ ((u = 0 ∧ r 2 10 = h 2 10) ∨ (u = 1 ∧ r 2 10 = h 2 10 + 1 ∧ (h 2 11 = 0 ∧ h 2 10 < h 2 3))))) := by
  unfold qf_X8_accept
  have T1 := gF_2_3 V_h
  have T2 := gF_2_10 V_h
  have T3 := gF_2_11 V_h
  refine ok_cP (vf_X9_kind hn V_h) ?_; intro u3 e_u3 a_u3 b_u3
  have T4 := lm_X9_kind e_u3
  refine ok_if ?_ ?_
  · intro C4
    refine ok_add (by omega) ?_; intro v6 e_v6
    refine ok_xl ?_; intro h7 E_h7; have V_h7 : VS_ h7 := by rw [E_h7]; exact wF_2_10 V_h (by omega)
    have T6 : h7 2 3 = h 2 3 := by rw [E_h7]; exact up_n (by decide)
    have T7 : h7 2 11 = h 2 11 := by rw [E_h7]; exact up_n (by decide)
    have T8 : h7 2 10 = v6 := by rw [E_h7]; exact up_s
    exact ok_rIR V_h7 (by omega) (by omega) (by omega)
  · intro C4
    exact ok_rIR V_h (by omega) (by omega) (by omega)
set_option maxRecDepth 4000 in
theorem vj_X9_tellHere_44 {nn : Nat} (hn : 1000000 ≤ nn) {s0 : Int} {h : ms_M} (a_s0 : 1 ≤ s0) (b_s0 : s0 ≤ 3) (V_h : VS_ h) (x_0 : 0 ≤ h 2 10 ∧ h 2 10 < h 2 3)  : Ok_ (qj_X9_tellHere_44 nn s0 h) (QVR_ (fun r => (r 2 10 = h 2 10) ∧ (r 2 3 = h 2 3) ∧ (r 2 11 = s0))) := by
  unfold qj_X9_tellHere_44
  have T1 := gF_2_3 V_h
  have T2 := gF_2_10 V_h
  have T3 := gF_2_11 V_h
  refine ok_xl ?_; intro h1 E_h1; have V_h1 : VS_ h1 := by rw [E_h1]; exact wF_2_11 V_h (by omega)
  have T4 : h1 2 3 = h 2 3 := by rw [E_h1]; exact up_n (by decide)
  have T5 : h1 2 10 = h 2 10 := by rw [E_h1]; exact up_n (by decide)
  have T6 : h1 2 11 = s0 := by rw [E_h1]; exact up_s
  refine ok_rd (by omega) (gA_4 V_h1) ?_; intro v4 e_v4 a_v4 b_v4
  refine ok_xl ?_; intro h5 E_h5; have V_h5 : VS_ h5 := by rw [E_h5]; exact wF_2_12 V_h1 (by omega)
  have T7 : h5 2 3 = h1 2 3 := by rw [E_h5]; exact up_n (by decide)
  have T8 : h5 2 10 = h1 2 10 := by rw [E_h5]; exact up_n (by decide)
  have T9 : h5 2 11 = h1 2 11 := by rw [E_h5]; exact up_n (by decide)
  exact ok_rVR V_h5 (by omega)
set_option maxRecDepth 4000 in
theorem vf_X9_tellHere {nn : Nat} (hn : 1000000 ≤ nn) {a1 : Int} {h : ms_M} (a_a1 : 2 ≤ a1) (b_a1 : a1 ≤ 3) (V_h : VS_ h)  : Ok_ (qf_X9_tellHere nn a1 h) (QVR_ (fun r => (r 2 10 = h 2 10) ∧ (r 2 3 = h 2 3) ∧ (((h 2 11 = 0 ∧ h 2 10 < h 2 3) ∧ ¬ r 2 11 = 0) ∨ (¬ (h 2 11 = 0 ∧ h 2 10 < h 2 3) ∧ r 2 11 = h 2 11)))) := by
  unfold qf_X9_tellHere
  have T1 := gF_2_3 V_h
  have T2 := gF_2_10 V_h
  have T3 := gF_2_11 V_h
  refine ok_if ?_ ?_
  · intro C3
    exact ok_rVR V_h (by omega)
  · intro C3
    refine ok_if ?_ ?_
    · intro C4
      exfalso; omega
    · intro C4
      refine ok_if ?_ ?_
      · intro C5
        exact ok_rVR V_h (by omega)
      · intro C5
        refine ok_rd (by omega) (gA_3 V_h) ?_; intro v12 e_v12 a_v12 b_v12
        refine ok_if ?_ ?_
        · intro C6
          exact ok_mV (vj_X9_tellHere_44 hn (by omega) (by omega) V_h (by omega)) (fun _ V_r R_r => by have := gF_2_3 V_r; have := gF_2_10 V_r; have := gF_2_11 V_r; omega)
        · intro C6
          exact ok_mV (vj_X9_tellHere_44 hn (by omega) (by omega) V_h (by omega)) (fun _ V_r R_r => by have := gF_2_3 V_r; have := gF_2_10 V_r; have := gF_2_11 V_r; omega)
set_option maxRecDepth 4000 in
theorem vf_X8_need {nn : Nat} (hn : 1000000 ≤ nn) {a1 : Int} {h : ms_M} (a_a1 : 2 ≤ a1) (b_a1 : a1 ≤ 51) (V_h : VS_ h)  : Ok_ (qf_X8_need nn a1 h) (QVR_ (fun r => (r 2 3 = h 2 3) ∧ (((h 2 11 = 0 ∧ h 2 10 < h 2 3) ∧ r 2 10 = h 2 10 + 1 ∧ r 2 11 = 0) ∨ (r 2 10 = h 2 10 ∧ ¬ r 2 11 = 0) ∨ (¬ (h 2 11 = 0 ∧ h 2 10 < h 2 3) ∧ r 2 10 = h 2 10 ∧ r 2 11 = h 2 11)))) := by
  unfold qf_X8_need
  have T1 := gF_2_3 V_h
  have T2 := gF_2_10 V_h
  have T3 := gF_2_11 V_h
  refine ok_cP (vf_X9_kind hn V_h) ?_; intro u3 e_u3 a_u3 b_u3
  have T4 := lm_X9_kind e_u3
  refine ok_if ?_ ?_
  · intro C4
    refine ok_cVR (vf_X9_tellHere hn (by omega) (by omega) V_h) ?_; intro u6 E_u6 V_u6 R_u6
    have T6 : u6 2 3 = h 2 3 := (ff_X9_tellHere nn) _ E_u6 2 3 rfl
    have T7 : u6 2 10 = h 2 10 := (ff_X9_tellHere nn) _ E_u6 2 10 rfl
    have T8 := gF_2_11 V_u6
    exact ok_rVR V_u6 (by omega)
  · intro C4
    refine ok_add (by omega) ?_; intro v9 e_v9
    refine ok_xl ?_; intro h10 E_h10; have V_h10 : VS_ h10 := by rw [E_h10]; exact wF_2_10 V_h (by omega)
    have T9 : h10 2 3 = h 2 3 := by rw [E_h10]; exact up_n (by decide)
    have T10 : h10 2 11 = h 2 11 := by rw [E_h10]; exact up_n (by decide)
    have T11 : h10 2 10 = v9 := by rw [E_h10]; exact up_s
    exact ok_rVR V_h10 (by omega)
set_option maxRecDepth 4000 in
theorem vf_X8_binaryAhead {nn : Nat} (hn : 1000000 ≤ nn) {a1 : Int} {h : ms_M} (a_a1 : 0 ≤ a1) (b_a1 : a1 ≤ 1) (V_h : VS_ h)  : Ok_ (qf_X8_binaryAhead nn a1 h) (QP_ 0 1) := by
  unfold qf_X8_binaryAhead
  refine ok_cP (vf_X9_kind hn V_h) ?_; intro u3 e_u3 a_u3 b_u3
  have T1 := lm_X9_kind e_u3
  refine ok_cP (vf_X9_level hn (by omega) (by omega) V_h) ?_; intro u4 e_u4 a_u4 b_u4
  have T2 := lm_X9_level e_u4
  refine ok_if ?_ ?_
  · intro C2
    exact ok_rP (by omega) (by omega)
  · intro C2
    refine ok_if ?_ ?_
    · intro C3
      exact ok_rP (by omega) (by omega)
    · intro C3
      refine ok_if ?_ ?_
      · intro C4
        exact ok_rP (by omega) (by omega)
      · intro C4
        exact ok_rP (by omega) (by omega)
set_option maxRecDepth 4000 in
theorem vj_X8_tooDeep_14 {nn : Nat} (hn : 1000000 ≤ nn) {h : ms_M} (V_h : VS_ h)  : Ok_ (qj_X8_tooDeep_14 nn h) (QIR_ 0 1 (fun u r => (r 2 10 = h 2 10) ∧ (r 2 3 = h 2 3) ∧ (r 2 11 = h 2 11) ∧ ((u = 0 ∧ h 2 11 = 0) ∨ (u = 1 ∧ ¬ h 2 11 = 0)))) := by
  unfold qj_X8_tooDeep_14
  have T1 := gF_2_3 V_h
  have T2 := gF_2_10 V_h
  have T3 := gF_2_11 V_h
  refine ok_if ?_ ?_
  · intro C3
    exact ok_rIR V_h (by omega) (by omega) (by omega)
  · intro C3
    exact ok_rIR V_h (by omega) (by omega) (by omega)
set_option maxRecDepth 4000 in
theorem vf_X8_tooDeep {nn : Nat} (hn : 1000000 ≤ nn) {a1 : Int} {h : ms_M} (a_a1 : 0 ≤ a1) (b_a1 : a1 ≤ 42) (V_h : VS_ h)  : Ok_ (qf_X8_tooDeep nn a1 h) (QIR_ 0 1 (fun u r => (r 2 10 = h 2 10) ∧ (r 2 3 = h 2 3) ∧ (u = 1 ∨ (u = 0 ∧ r 2 11 = 0 ∧ (a1 ≤ 39 ∨ ¬ (r 2 11 = 0 ∧ r 2 10 < r 2 3)))) ∧ ((h 2 11 = 0 ∧ h 2 10 < h 2 3) ∨ ¬ (r 2 11 = 0 ∧ r 2 10 < r 2 3)) ∧ (h 2 11 = 0 ∨ ¬ r 2 11 = 0))) := by
  unfold qf_X8_tooDeep
  have T1 := gF_2_3 V_h
  have T2 := gF_2_10 V_h
  have T3 := gF_2_11 V_h
  refine ok_if ?_ ?_
  · intro C3
    exact ok_mI (vj_X8_tooDeep_14 hn V_h) (fun _ _ V_r R_r => by have := gF_2_3 V_r; have := gF_2_10 V_r; have := gF_2_11 V_r; omega)
  · intro C3
    refine ok_cVR (vf_X9_tellHere hn (by omega) (by omega) V_h) ?_; intro u6 E_u6 V_u6 R_u6
    have T5 : u6 2 3 = h 2 3 := (ff_X9_tellHere nn) _ E_u6 2 3 rfl
    have T6 : u6 2 10 = h 2 10 := (ff_X9_tellHere nn) _ E_u6 2 10 rfl
    have T7 := gF_2_11 V_u6
    exact ok_mI (vj_X8_tooDeep_14 hn V_u6) (fun _ _ V_r R_r => by have := gF_2_3 V_r; have := gF_2_10 V_r; have := gF_2_11 V_r; omega)
set_option maxRecDepth 4000 in
def GH_X8_readValue (g : Int) (rc : tq_X8_readValue) : Prop := (∀ {a1 : Int} {h : ms_M} (a_a1 : 1 ≤ a1) (b_a1 : a1 ≤ 41) (V_h : VS_ h) (x_0 : 6 * (43 - a1) + 1 ≤ g) (x_1 : a1 ≤ 40 ∨ ¬ (h 2 11 = 0 ∧ h 2 10 < h 2 3)), Ok_ (rc.1 a1 h) (QVR_ (fun r => (r 2 3 = h 2 3) ∧ (h 2 10 ≤ r 2 10) ∧ (h 2 11 = 0 ∨ ¬ r 2 11 = 0) ∧ (r 2 10 ≤ h 2 10 ∨ r 2 10 ≤ 3004) ∧ ((h 2 11 = 0 ∧ h 2 10 < h 2 3) ∨ ¬ (r 2 11 = 0 ∧ r 2 10 < r 2 3))))) ∧
  (∀ {a1 : Int} {h : ms_M} (a_a1 : 1 ≤ a1) (b_a1 : a1 ≤ 42) (V_h : VS_ h) (x_0 : 6 * (43 - a1) + 5 ≤ g) (x_1 : a1 ≤ 40 ∨ ¬ (h 2 11 = 0 ∧ h 2 10 < h 2 3)), Ok_ (rc.2.1 a1 h) (QVR_ (fun r => (r 2 3 = h 2 3) ∧ (h 2 10 ≤ r 2 10) ∧ (h 2 11 = 0 ∨ ¬ r 2 11 = 0) ∧ (r 2 10 ≤ h 2 10 ∨ r 2 10 ≤ 3004) ∧ ((h 2 11 = 0 ∧ h 2 10 < h 2 3) ∨ ¬ (r 2 11 = 0 ∧ r 2 10 < r 2 3))))) ∧
  (∀ {a1 : Int} {h : ms_M} (a_a1 : 1 ≤ a1) (b_a1 : a1 ≤ 42) (V_h : VS_ h) (x_0 : 6 * (43 - a1) + 4 ≤ g) (x_1 : a1 ≤ 40 ∨ ¬ (h 2 11 = 0 ∧ h 2 10 < h 2 3)), Ok_ (rc.2.2.1 a1 h) (QVR_ (fun r => (r 2 3 = h 2 3) ∧ (h 2 10 ≤ r 2 10) ∧ (h 2 11 = 0 ∨ ¬ r 2 11 = 0) ∧ (r 2 10 ≤ h 2 10 ∨ r 2 10 ≤ 3004) ∧ ((h 2 11 = 0 ∧ h 2 10 < h 2 3) ∨ ¬ (r 2 11 = 0 ∧ r 2 10 < r 2 3))))) ∧
  (∀ {a1 : Int} {h : ms_M} (a_a1 : 1 ≤ a1) (b_a1 : a1 ≤ 42) (V_h : VS_ h) (x_0 : 6 * (43 - a1) + 3 ≤ g) (x_1 : a1 ≤ 40 ∨ ¬ (h 2 11 = 0 ∧ h 2 10 < h 2 3)), Ok_ (rc.2.2.2.1 a1 h) (QVR_ (fun r => (r 2 3 = h 2 3) ∧ (h 2 10 ≤ r 2 10) ∧ (h 2 11 = 0 ∨ ¬ r 2 11 = 0) ∧ (r 2 10 ≤ h 2 10 ∨ r 2 10 ≤ 3004) ∧ ((h 2 11 = 0 ∧ h 2 10 < h 2 3) ∨ ¬ (r 2 11 = 0 ∧ r 2 10 < r 2 3))))) ∧
  (∀ {a1 : Int} {h : ms_M} (a_a1 : 1 ≤ a1) (b_a1 : a1 ≤ 42) (V_h : VS_ h) (x_0 : 6 * (43 - a1) + 2 ≤ g) (x_1 : a1 ≤ 40) (x_2 : (h 2 11 = 0 ∧ h 2 10 < h 2 3)), Ok_ (rc.2.2.2.2.1 a1 h) (QVR_ (fun r => (r 2 3 = h 2 3) ∧ (h 2 10 ≤ r 2 10) ∧ (h 2 11 = 0 ∨ ¬ r 2 11 = 0) ∧ (r 2 10 ≤ h 2 10 ∨ r 2 10 ≤ 3004) ∧ ((h 2 11 = 0 ∧ h 2 10 < h 2 3) ∨ ¬ (r 2 11 = 0 ∧ r 2 10 < r 2 3))))) ∧
  (∀ {a1 : Int} {h : ms_M} (a_a1 : 1 ≤ a1) (b_a1 : a1 ≤ 42) (V_h : VS_ h) (x_0 : 6 * (43 - a1) + 2 ≤ g) (x_1 : a1 ≤ 40), Ok_ (rc.2.2.2.2.2 a1 h) (QVR_ (fun r => (r 2 3 = h 2 3) ∧ (h 2 10 ≤ r 2 10) ∧ (h 2 11 = 0 ∨ ¬ r 2 11 = 0) ∧ (r 2 10 ≤ h 2 10 ∨ r 2 10 ≤ 3004) ∧ ((h 2 11 = 0 ∧ h 2 10 < h 2 3) ∨ ¬ (r 2 11 = 0 ∧ r 2 10 < r 2 3)))))
set_option maxRecDepth 4000 in
theorem vj_X8_readValue_88 {nn : Nat} (hn : 1000000 ≤ nn) {g : Int} {rc : tq_X8_readValue} (hg : GH_X8_readValue g rc) {l1 : Int} {h : ms_M} (a_l1 : 1 ≤ l1) (b_l1 : l1 ≤ 41) (V_h : VS_ h) (x_0 : 6 * (43 - l1) + 1 ≤ (g + 1)) (x_1 : l1 ≤ 39 ∨ ¬ (h 2 11 = 0 ∧ h 2 10 < h 2 3))  : Ok_ (qj_X8_readValue_88 nn rc l1 h) (QVR_ (fun r => (r 2 3 = h 2 3) ∧ (h 2 10 ≤ r 2 10) ∧ (h 2 11 = 0 ∨ ¬ r 2 11 = 0) ∧ (r 2 10 ≤ h 2 10 ∨ r 2 10 ≤ 3004) ∧ ((h 2 11 = 0 ∧ h 2 10 < h 2 3) ∨ ¬ (r 2 11 = 0 ∧ r 2 10 < r 2 3)))) := by
  unfold qj_X8_readValue_88
  have T1 := gF_2_3 V_h
  have T2 := gF_2_10 V_h
  have T3 := gF_2_11 V_h
  refine ok_cIR (vf_X8_accept hn (by omega) (by omega) V_h) ?_; intro u2 E_u2 V_u2 a_u2 b_u2 R_u2
  have T4 : u2.2 2 3 = h 2 3 := (ff_X8_accept nn) _ E_u2 2 3 rfl
  have T5 : u2.2 2 11 = h 2 11 := (ff_X8_accept nn) _ E_u2 2 11 rfl
  have T6 := gF_2_10 V_u2
  refine ok_if ?_ ?_
  · intro C6
    exact ok_rVR V_u2 (by omega)
  · intro C6
    refine ok_add (by omega) ?_; intro v3 e_v3
    refine ok_cVR (hg.1 (by omega) (by omega) V_u2 (by omega) (by omega)) ?_; intro u5 E_u5 V_u5 R_u5
    have T8 := gF_2_3 V_u5
    have T9 := gF_2_10 V_u5
    have T10 := gF_2_11 V_u5
    refine ok_cVR (vf_X8_need hn (by omega) (by omega) V_u5) ?_; intro u7 E_u7 V_u7 R_u7
    have T11 : u7 2 3 = u5 2 3 := (ff_X8_need nn) _ E_u7 2 3 rfl
    have T12 := gF_2_10 V_u7
    have T13 := gF_2_11 V_u7
    refine ok_add (by omega) ?_; intro v8 e_v8
    refine ok_cVR (hg.1 (by omega) (by omega) V_u7 (by omega) (by omega)) ?_; intro u10 E_u10 V_u10 R_u10
    have T14 := gF_2_3 V_u10
    have T15 := gF_2_10 V_u10
    have T16 := gF_2_11 V_u10
    exact ok_rVR V_u10 (by omega)
set_option maxRecDepth 4000 in
theorem vj_X8_readValue_49 {nn : Nat} (hn : 1000000 ≤ nn) {g : Int} {rc : tq_X8_readValue} (hg : GH_X8_readValue g rc) {qkk_20 : Int → Int → Int → ms_M → Option ms_M} {K_kk_20 : Int} (hk_kk_20 : ∀ {l1 : Int} {l2 : Int} {l3 : Int} {h : ms_M} (a_l1 : 1 ≤ l1) (b_l1 : l1 ≤ 41) (a_l2 : 0 ≤ l2) (b_l2 : l2 ≤ 1) (a_l3 : 0 ≤ l3) (b_l3 : l3 ≤ 3000) (V_h : VS_ h) (x_0 : 6 * (43 - l1) + 1 ≤ (g + 1)) (x_1 : l1 ≤ 39 ∨ ¬ (h 2 11 = 0 ∧ h 2 10 < h 2 3)) (_ : 3001 - l3 < K_kk_20), Ok_ (qkk_20 l1 l2 l3 h) (QVR_ (fun r => (r 2 3 = h 2 3) ∧ (h 2 10 ≤ r 2 10) ∧ (h 2 11 = 0 ∨ ¬ r 2 11 = 0) ∧ (r 2 10 ≤ h 2 10 ∨ r 2 10 ≤ 3004) ∧ ((h 2 11 = 0 ∧ h 2 10 < h 2 3) ∨ ¬ (r 2 11 = 0 ∧ r 2 10 < r 2 3))))) {l1 : Int} {l3 : Int} {s0 : Int} {h : ms_M} (a_l1 : 1 ≤ l1) (b_l1 : l1 ≤ 41) (a_l3 : 0 ≤ l3) (b_l3 : l3 ≤ 2999) (a_s0 : 0 ≤ s0) (b_s0 : s0 ≤ 1) (V_h : VS_ h) (x_0 : 6 * (43 - l1) + 1 ≤ (g + 1)) (x_1 : l1 ≤ 39 ∨ ¬ (h 2 11 = 0 ∧ h 2 10 < h 2 3)) (x_2 : s0 = 0 ∨ (h 2 11 = 0 ∧ h 2 10 < h 2 3)) (hm_kk_20 : 3001 - l3 + 0 ≤ K_kk_20) : Ok_ (qj_X8_readValue_49 nn rc qkk_20 l1 l3 s0 h) (QVR_ (fun r => (r 2 3 = h 2 3) ∧ (h 2 10 ≤ r 2 10) ∧ (h 2 11 = 0 ∨ ¬ r 2 11 = 0) ∧ (r 2 10 ≤ h 2 10 ∨ r 2 10 ≤ 3004) ∧ ((h 2 11 = 0 ∧ h 2 10 < h 2 3) ∨ ¬ (r 2 11 = 0 ∧ r 2 10 < r 2 3)))) := by
  unfold qj_X8_readValue_49
  have T1 := gF_2_3 V_h
  have T2 := gF_2_10 V_h
  have T3 := gF_2_11 V_h
  refine ok_if ?_ ?_
  · intro C3
    refine ok_cVR (vf_X8_need hn (by omega) (by omega) V_h) ?_; intro u13 E_u13 V_u13 R_u13
    have T5 : u13 2 3 = h 2 3 := (ff_X8_need nn) _ E_u13 2 3 rfl
    have T6 := gF_2_10 V_u13
    have T7 := gF_2_11 V_u13
    refine ok_add (by omega) ?_; intro v14 e_v14
    exact ok_mV (hk_kk_20 (by omega) (by omega) (by omega) (by omega) (by omega) (by omega) V_u13 (by omega) (by omega) (by omega)) (fun _ V_r R_r => by have := gF_2_3 V_r; have := gF_2_10 V_r; have := gF_2_11 V_r; omega)
  · intro C3
    refine ok_add (by omega) ?_; intro v17 e_v17
    refine ok_xl ?_; intro h18 E_h18; have V_h18 : VS_ h18 := by rw [E_h18]; exact wF_2_10 V_h (by omega)
    have T8 : h18 2 3 = h 2 3 := by rw [E_h18]; exact up_n (by decide)
    have T9 : h18 2 11 = h 2 11 := by rw [E_h18]; exact up_n (by decide)
    have T10 : h18 2 10 = v17 := by rw [E_h18]; exact up_s
    refine ok_add (by omega) ?_; intro v19 e_v19
    refine ok_cVR (hg.2.1 (by omega) (by omega) V_h18 (by omega) (by omega)) ?_; intro u21 E_u21 V_u21 R_u21
    have T11 := gF_2_3 V_u21
    have T12 := gF_2_10 V_u21
    have T13 := gF_2_11 V_u21
    refine ok_add (by omega) ?_; intro v22 e_v22
    exact ok_mV (hk_kk_20 (by omega) (by omega) (by omega) (by omega) (by omega) (by omega) V_u21 (by omega) (by omega) (by omega)) (fun _ V_r R_r => by have := gF_2_3 V_r; have := gF_2_10 V_r; have := gF_2_11 V_r; omega)
set_option maxRecDepth 4000 in
theorem vw_X8_readValue_20 {nn : Nat} (hn : 1000000 ≤ nn) {g : Int} {rc : tq_X8_readValue} (hg : GH_X8_readValue g rc) : ∀ (k : Nat) {l1 : Int} {l2 : Int} {l3 : Int} {h : ms_M} (a_l1 : 1 ≤ l1) (b_l1 : l1 ≤ 41) (a_l2 : 0 ≤ l2) (b_l2 : l2 ≤ 1) (a_l3 : 0 ≤ l3) (b_l3 : l3 ≤ 3000) (V_h : VS_ h) (x_0 : 6 * (43 - l1) + 1 ≤ (g + 1)) (x_1 : l1 ≤ 39 ∨ ¬ (h 2 11 = 0 ∧ h 2 10 < h 2 3))  (hm : 3001 - l3 < (k : Int)), Ok_ (qw_X8_readValue_20 nn rc k l1 l2 l3 h) (QVR_ (fun r => (r 2 3 = h 2 3) ∧ (h 2 10 ≤ r 2 10) ∧ (h 2 11 = 0 ∨ ¬ r 2 11 = 0) ∧ (r 2 10 ≤ h 2 10 ∨ r 2 10 ≤ 3004) ∧ ((h 2 11 = 0 ∧ h 2 10 < h 2 3) ∨ ¬ (r 2 11 = 0 ∧ r 2 10 < r 2 3)))) := by
  intro k
  induction k with
  | zero => intros; exfalso; omega
  | succ k ih =>
    intro l1 l2 l3 h a_l1 b_l1 a_l2 b_l2 a_l3 b_l3 V_h x_0 x_1 hm
    unfold qw_X8_readValue_20
    have T1 := gF_2_3 V_h
    have T2 := gF_2_10 V_h
    have T3 := gF_2_11 V_h
    refine ok_if ?_ ?_
    · intro C3
      exact ok_mV (vj_X8_readValue_88 hn hg (by omega) (by omega) V_h (by omega) (by omega)) (fun _ V_r R_r => by have := gF_2_3 V_r; have := gF_2_10 V_r; have := gF_2_11 V_r; omega)
    · intro C3
      refine ok_cP (vf_X8_binaryAhead hn (by omega) (by omega) V_h) ?_; intro u25 e_u25 a_u25 b_u25
      have T5 := lm_X8_binaryAhead e_u25
      refine ok_if ?_ ?_
      · intro C5
        exact ok_mV (vj_X8_readValue_88 hn hg (by omega) (by omega) V_h (by omega) (by omega)) (fun _ V_r R_r => by have := gF_2_3 V_r; have := gF_2_10 V_r; have := gF_2_11 V_r; omega)
      · intro C5
        refine ok_cIR (vf_X8_accept hn (by omega) (by omega) V_h) ?_; intro u27 E_u27 V_u27 a_u27 b_u27 R_u27
        have T7 : u27.2 2 3 = h 2 3 := (ff_X8_accept nn) _ E_u27 2 3 rfl
        have T8 : u27.2 2 11 = h 2 11 := (ff_X8_accept nn) _ E_u27 2 11 rfl
        have T9 := gF_2_10 V_u27
        refine ok_if ?_ ?_
        · intro C9
          exact ok_mV (vj_X8_readValue_49 hn hg ih (by omega) (by omega) (by omega) (by omega) (by omega) (by omega) V_u27 (by omega) (by omega) (by omega) (by omega)) (fun _ V_r R_r => by have := gF_2_3 V_r; have := gF_2_10 V_r; have := gF_2_11 V_r; omega)
        · intro C9
          exact ok_mV (vj_X8_readValue_49 hn hg ih (by omega) (by omega) (by omega) (by omega) (by omega) (by omega) V_u27 (by omega) (by omega) (by omega) (by omega)) (fun _ V_r R_r => by have := gF_2_3 V_r; have := gF_2_10 V_r; have := gF_2_11 V_r; omega)
set_option maxRecDepth 4000 in
theorem vo_X8_readValue {nn : Nat} (hn : 1000000 ≤ nn) {g : Int} {rc : tq_X8_readValue} (hg : GH_X8_readValue g rc) {a1 : Int} {h : ms_M} (a_a1 : 1 ≤ a1) (b_a1 : a1 ≤ 41) (V_h : VS_ h) (x_0 : 6 * (43 - a1) + 1 ≤ (g + 1)) (x_1 : a1 ≤ 40 ∨ ¬ (h 2 11 = 0 ∧ h 2 10 < h 2 3))  : Ok_ (qo_X8_readValue nn rc a1 h) (QVR_ (fun r => (r 2 3 = h 2 3) ∧ (h 2 10 ≤ r 2 10) ∧ (h 2 11 = 0 ∨ ¬ r 2 11 = 0) ∧ (r 2 10 ≤ h 2 10 ∨ r 2 10 ≤ 3004) ∧ ((h 2 11 = 0 ∧ h 2 10 < h 2 3) ∨ ¬ (r 2 11 = 0 ∧ r 2 10 < r 2 3)))) := by
  unfold qo_X8_readValue
  have T1 := gF_2_3 V_h
  have T2 := gF_2_10 V_h
  have T3 := gF_2_11 V_h
  refine ok_cIR (vf_X8_tooDeep hn (by omega) (by omega) V_h) ?_; intro u32 E_u32 V_u32 a_u32 b_u32 R_u32
  have T4 : u32.2 2 3 = h 2 3 := (ff_X8_tooDeep nn) _ E_u32 2 3 rfl
  have T5 : u32.2 2 10 = h 2 10 := (ff_X8_tooDeep nn) _ E_u32 2 10 rfl
  have T6 := gF_2_11 V_u32
  refine ok_if ?_ ?_
  · intro C6
    refine ok_add (by omega) ?_; intro v33 e_v33
    refine ok_cVR (hg.2.1 (by omega) (by omega) V_u32 (by omega) (by omega)) ?_; intro u35 E_u35 V_u35 R_u35
    have T8 := gF_2_3 V_u35
    have T9 := gF_2_10 V_u35
    have T10 := gF_2_11 V_u35
    exact ok_mV (vw_X8_readValue_20 hn hg _ (by omega) (by omega) (by omega) (by omega) (by omega) (by omega) V_u35 (by omega) (by omega) (by omega)) (fun _ V_r R_r => by have := gF_2_3 V_r; have := gF_2_10 V_r; have := gF_2_11 V_r; omega)
  · intro C6
    exact ok_rVR V_u32 (by omega)
set_option maxRecDepth 4000 in
theorem vj_X8_readUnary_70 {nn : Nat} (hn : 1000000 ≤ nn) {g : Int} {rc : tq_X8_readValue} (hg : GH_X8_readValue g rc) {l1 : Int} {s0 : Int} {s1 : Int} {h : ms_M} (a_l1 : 1 ≤ l1) (b_l1 : l1 ≤ 42) (a_s0 : 1 ≤ s0) (b_s0 : s0 ≤ 3) (a_s1 : 0 ≤ s1) (b_s1 : s1 ≤ 50000000) (V_h : VS_ h) (x_0 : 6 * (43 - l1) + 5 ≤ (g + 1)) (x_1 : l1 ≤ 39) (x_2 : (h 2 11 = 0 ∧ h 2 10 < h 2 3)) (x_3 : s1 = h 2 10)  : Ok_ (qj_X8_readUnary_70 nn rc l1 s0 s1 h) (QVR_ (fun r => (r 2 3 = h 2 3) ∧ (h 2 10 ≤ r 2 10) ∧ (h 2 11 = 0 ∨ ¬ r 2 11 = 0) ∧ (r 2 10 ≤ h 2 10 ∨ r 2 10 ≤ 3004) ∧ ((h 2 11 = 0 ∧ h 2 10 < h 2 3) ∨ ¬ (r 2 11 = 0 ∧ r 2 10 < r 2 3)))) := by
  unfold qj_X8_readUnary_70
  have T1 := gF_2_3 V_h
  have T2 := gF_2_10 V_h
  have T3 := gF_2_11 V_h
  refine ok_add (by omega) ?_; intro v1 e_v1
  refine ok_xl ?_; intro h2 E_h2; have V_h2 : VS_ h2 := by rw [E_h2]; exact wF_2_10 V_h (by omega)
  have T4 : h2 2 3 = h 2 3 := by rw [E_h2]; exact up_n (by decide)
  have T5 : h2 2 11 = h 2 11 := by rw [E_h2]; exact up_n (by decide)
  have T6 : h2 2 10 = v1 := by rw [E_h2]; exact up_s
  refine ok_add (by omega) ?_; intro v3 e_v3
  refine ok_cVR (hg.2.1 (by omega) (by omega) V_h2 (by omega) (by omega)) ?_; intro u5 E_u5 V_u5 R_u5
  have T7 := gF_2_3 V_u5
  have T8 := gF_2_10 V_u5
  have T9 := gF_2_11 V_u5
  exact ok_rVR V_u5 (by omega)
set_option maxRecDepth 4000 in
theorem vj_X8_readUnary_44 {nn : Nat} (hn : 1000000 ≤ nn) {g : Int} {rc : tq_X8_readValue} (hg : GH_X8_readValue g rc) {l1 : Int} {l3 : Int} {h : ms_M} (a_l1 : 1 ≤ l1) (b_l1 : l1 ≤ 42) (a_l3 : 0 ≤ l3) (b_l3 : l3 ≤ 1) (V_h : VS_ h) (x_0 : 6 * (43 - l1) + 5 ≤ (g + 1)) (x_1 : l1 ≤ 40 ∨ ¬ (h 2 11 = 0 ∧ h 2 10 < h 2 3)) (x_2 : (h 2 11 = 0 ∧ h 2 10 < h 2 3))  : Ok_ (qj_X8_readUnary_44 nn rc l1 l3 h) (QVR_ (fun r => (r 2 3 = h 2 3) ∧ (h 2 10 ≤ r 2 10) ∧ (h 2 11 = 0 ∨ ¬ r 2 11 = 0) ∧ (r 2 10 ≤ h 2 10 ∨ r 2 10 ≤ 3004) ∧ ((h 2 11 = 0 ∧ h 2 10 < h 2 3) ∨ ¬ (r 2 11 = 0 ∧ r 2 10 < r 2 3)))) := by
  unfold qj_X8_readUnary_44
  have T1 := gF_2_3 V_h
  have T2 := gF_2_10 V_h
  have T3 := gF_2_11 V_h
  refine ok_cIR (vf_X8_tooDeep hn (by omega) (by omega) V_h) ?_; intro u7 E_u7 V_u7 a_u7 b_u7 R_u7
  have T4 : u7.2 2 3 = h 2 3 := (ff_X8_tooDeep nn) _ E_u7 2 3 rfl
  have T5 : u7.2 2 10 = h 2 10 := (ff_X8_tooDeep nn) _ E_u7 2 10 rfl
  have T6 := gF_2_11 V_u7
  refine ok_if ?_ ?_
  · intro C6
    refine ok_if ?_ ?_
    · intro C7
      exact ok_mV (vj_X8_readUnary_70 hn hg (by omega) (by omega) (by omega) (by omega) (by omega) (by omega) V_u7 (by omega) (by omega) (by omega) (by omega)) (fun _ V_r R_r => by have := gF_2_3 V_r; have := gF_2_10 V_r; have := gF_2_11 V_r; omega)
    · intro C7
      exact ok_mV (vj_X8_readUnary_70 hn hg (by omega) (by omega) (by omega) (by omega) (by omega) (by omega) V_u7 (by omega) (by omega) (by omega) (by omega)) (fun _ V_r R_r => by have := gF_2_3 V_r; have := gF_2_10 V_r; have := gF_2_11 V_r; omega)
  · intro C6
    exact ok_rVR V_u7 (by omega)
set_option maxRecDepth 4000 in
theorem vo_X8_readUnary {nn : Nat} (hn : 1000000 ≤ nn) {g : Int} {rc : tq_X8_readValue} (hg : GH_X8_readValue g rc) {a1 : Int} {h : ms_M} (a_a1 : 1 ≤ a1) (b_a1 : a1 ≤ 42) (V_h : VS_ h) (x_0 : 6 * (43 - a1) + 5 ≤ (g + 1)) (x_1 : a1 ≤ 40 ∨ ¬ (h 2 11 = 0 ∧ h 2 10 < h 2 3))  : Ok_ (qo_X8_readUnary nn rc a1 h) (QVR_ (fun r => (r 2 3 = h 2 3) ∧ (h 2 10 ≤ r 2 10) ∧ (h 2 11 = 0 ∨ ¬ r 2 11 = 0) ∧ (r 2 10 ≤ h 2 10 ∨ r 2 10 ≤ 3004) ∧ ((h 2 11 = 0 ∧ h 2 10 < h 2 3) ∨ ¬ (r 2 11 = 0 ∧ r 2 10 < r 2 3)))) := by
  unfold qo_X8_readUnary
  have T1 := gF_2_3 V_h
  have T2 := gF_2_10 V_h
  have T3 := gF_2_11 V_h
  refine ok_cP (vf_X9_kind hn V_h) ?_; intro u14 e_u14 a_u14 b_u14
  have T4 := lm_X9_kind e_u14
  refine ok_cP (vf_X9_beginsCast hn V_h) ?_; intro u17 e_u17 a_u17 b_u17
  have T5 := lm_X9_beginsCast e_u17
  refine ok_if ?_ ?_
  · intro C5
    exact ok_mV (vj_X8_readUnary_44 hn hg (by omega) (by omega) (by omega) (by omega) V_h (by omega) (by omega) (by omega)) (fun _ V_r R_r => by have := gF_2_3 V_r; have := gF_2_10 V_r; have := gF_2_11 V_r; omega)
  · intro C5
    refine ok_if ?_ ?_
    · intro C6
      exact ok_mV (vj_X8_readUnary_44 hn hg (by omega) (by omega) (by omega) (by omega) V_h (by omega) (by omega) (by omega)) (fun _ V_r R_r => by have := gF_2_3 V_r; have := gF_2_10 V_r; have := gF_2_11 V_r; omega)
    · intro C6
      refine ok_if ?_ ?_
      · intro C7
        exact ok_mV (vj_X8_readUnary_44 hn hg (by omega) (by omega) (by omega) (by omega) V_h (by omega) (by omega) (by omega)) (fun _ V_r R_r => by have := gF_2_3 V_r; have := gF_2_10 V_r; have := gF_2_11 V_r; omega)
      · intro C7
        refine ok_if ?_ ?_
        · intro C8
          exact ok_mV (vj_X8_readUnary_44 hn hg (by omega) (by omega) (by omega) (by omega) V_h (by omega) (by omega) (by omega)) (fun _ V_r R_r => by have := gF_2_3 V_r; have := gF_2_10 V_r; have := gF_2_11 V_r; omega)
        · intro C8
          refine ok_cVR (hg.2.2.1 (by omega) (by omega) V_h (by omega) (by omega)) ?_; intro u19 E_u19 V_u19 R_u19
          have T10 := gF_2_3 V_u19
          have T11 := gF_2_10 V_u19
          have T12 := gF_2_11 V_u19
          exact ok_rVR V_u19 (by omega)
set_option maxRecDepth 4000 in
theorem vj_X8_readPrimary_160 {nn : Nat} (hn : 1000000 ≤ nn) {g : Int} {rc : tq_X8_readValue} (hg : GH_X8_readValue g rc) {l1 : Int} {h : ms_M} (a_l1 : 1 ≤ l1) (b_l1 : l1 ≤ 42) (V_h : VS_ h) (x_0 : 6 * (43 - l1) + 4 ≤ (g + 1)) (x_1 : l1 ≤ 40 ∨ ¬ (h 2 11 = 0 ∧ h 2 10 < h 2 3))  : Ok_ (qj_X8_readPrimary_160 nn rc l1 h) (QVR_ (fun r => (r 2 3 = h 2 3) ∧ (h 2 10 ≤ r 2 10) ∧ (h 2 11 = 0 ∨ ¬ r 2 11 = 0) ∧ (r 2 10 ≤ h 2 10 ∨ r 2 10 ≤ 3004) ∧ ((h 2 11 = 0 ∧ h 2 10 < h 2 3) ∨ ¬ (r 2 11 = 0 ∧ r 2 10 < r 2 3)))) := by
  unfold qj_X8_readPrimary_160
  have T1 := gF_2_3 V_h
  have T2 := gF_2_10 V_h
  have T3 := gF_2_11 V_h
  refine ok_cVR (hg.2.2.2.1 (by omega) (by omega) V_h (by omega) (by omega)) ?_; intro u2 E_u2 V_u2 R_u2
  have T4 := gF_2_3 V_u2
  have T5 := gF_2_10 V_u2
  have T6 := gF_2_11 V_u2
  exact ok_rVR V_u2 (by omega)
set_option maxRecDepth 4000 in
theorem vj_X8_readPrimary_80 {nn : Nat} (hn : 1000000 ≤ nn) {g : Int} {rc : tq_X8_readValue} (hg : GH_X8_readValue g rc) {l1 : Int} {h : ms_M} (a_l1 : 1 ≤ l1) (b_l1 : l1 ≤ 42) (V_h : VS_ h) (x_0 : 6 * (43 - l1) + 4 ≤ (g + 1)) (x_1 : l1 ≤ 40) (x_2 : (h 2 11 = 0 ∧ h 2 10 < h 2 3))  : Ok_ (qj_X8_readPrimary_80 nn rc l1 h) (QVR_ (fun r => (r 2 3 = h 2 3) ∧ (h 2 10 ≤ r 2 10) ∧ (h 2 11 = 0 ∨ ¬ r 2 11 = 0) ∧ (r 2 10 ≤ h 2 10 ∨ r 2 10 ≤ 3004) ∧ ((h 2 11 = 0 ∧ h 2 10 < h 2 3) ∨ ¬ (r 2 11 = 0 ∧ r 2 10 < r 2 3)))) := by
  unfold qj_X8_readPrimary_80
  have T1 := gF_2_3 V_h
  have T2 := gF_2_10 V_h
  have T3 := gF_2_11 V_h
  refine ok_add (by omega) ?_; intro v5 e_v5
  refine ok_xl ?_; intro h6 E_h6; have V_h6 : VS_ h6 := by rw [E_h6]; exact wF_2_10 V_h (by omega)
  have T4 : h6 2 3 = h 2 3 := by rw [E_h6]; exact up_n (by decide)
  have T5 : h6 2 11 = h 2 11 := by rw [E_h6]; exact up_n (by decide)
  have T6 : h6 2 10 = v5 := by rw [E_h6]; exact up_s
  exact ok_mV (vj_X8_readPrimary_160 hn hg (by omega) (by omega) V_h6 (by omega) (by omega)) (fun _ V_r R_r => by have := gF_2_3 V_r; have := gF_2_10 V_r; have := gF_2_11 V_r; omega)
set_option maxRecDepth 4000 in
theorem vo_X8_readPrimary {nn : Nat} (hn : 1000000 ≤ nn) {g : Int} {rc : tq_X8_readValue} (hg : GH_X8_readValue g rc) {a1 : Int} {h : ms_M} (a_a1 : 1 ≤ a1) (b_a1 : a1 ≤ 42) (V_h : VS_ h) (x_0 : 6 * (43 - a1) + 4 ≤ (g + 1)) (x_1 : a1 ≤ 40 ∨ ¬ (h 2 11 = 0 ∧ h 2 10 < h 2 3))  : Ok_ (qo_X8_readPrimary nn rc a1 h) (QVR_ (fun r => (r 2 3 = h 2 3) ∧ (h 2 10 ≤ r 2 10) ∧ (h 2 11 = 0 ∨ ¬ r 2 11 = 0) ∧ (r 2 10 ≤ h 2 10 ∨ r 2 10 ≤ 3004) ∧ ((h 2 11 = 0 ∧ h 2 10 < h 2 3) ∨ ¬ (r 2 11 = 0 ∧ r 2 10 < r 2 3)))) := by
  unfold qo_X8_readPrimary
  have T1 := gF_2_3 V_h
  have T2 := gF_2_10 V_h
  have T3 := gF_2_11 V_h
  refine ok_cP (vf_X9_kind hn V_h) ?_; intro u9 e_u9 a_u9 b_u9
  have T4 := lm_X9_kind e_u9
  refine ok_if ?_ ?_
  · intro C4
    refine ok_add (by omega) ?_; intro v15 e_v15
    refine ok_xl ?_; intro h16 E_h16; have V_h16 : VS_ h16 := by rw [E_h16]; exact wF_2_10 V_h (by omega)
    have T6 : h16 2 3 = h 2 3 := by rw [E_h16]; exact up_n (by decide)
    have T7 : h16 2 11 = h 2 11 := by rw [E_h16]; exact up_n (by decide)
    have T8 : h16 2 10 = v15 := by rw [E_h16]; exact up_s
    refine ok_cVR (hg.2.2.2.2.2 (by omega) (by omega) V_h16 (by omega) (by omega)) ?_; intro u18 E_u18 V_u18 R_u18
    have T9 := gF_2_3 V_u18
    have T10 := gF_2_10 V_u18
    have T11 := gF_2_11 V_u18
    exact ok_mV (vj_X8_readPrimary_160 hn hg (by omega) (by omega) V_u18 (by omega) (by omega)) (fun _ V_r R_r => by have := gF_2_3 V_r; have := gF_2_10 V_r; have := gF_2_11 V_r; omega)
  · intro C4
    refine ok_if ?_ ?_
    · intro C11
      exact ok_mV (vj_X8_readPrimary_80 hn hg (by omega) (by omega) V_h (by omega) (by omega) (by omega)) (fun _ V_r R_r => by have := gF_2_3 V_r; have := gF_2_10 V_r; have := gF_2_11 V_r; omega)
    · intro C11
      refine ok_if ?_ ?_
      · intro C12
        exact ok_mV (vj_X8_readPrimary_80 hn hg (by omega) (by omega) V_h (by omega) (by omega) (by omega)) (fun _ V_r R_r => by have := gF_2_3 V_r; have := gF_2_10 V_r; have := gF_2_11 V_r; omega)
      · intro C12
        refine ok_if ?_ ?_
        · intro C13
          refine ok_cVR (hg.2.2.2.2.1 (by omega) (by omega) V_h (by omega) (by omega) (by omega)) ?_; intro u20 E_u20 V_u20 R_u20
          have T15 := gF_2_3 V_u20
          have T16 := gF_2_10 V_u20
          have T17 := gF_2_11 V_u20
          exact ok_mV (vj_X8_readPrimary_160 hn hg (by omega) (by omega) V_u20 (by omega) (by omega)) (fun _ V_r R_r => by have := gF_2_3 V_r; have := gF_2_10 V_r; have := gF_2_11 V_r; omega)
        · intro C13
          refine ok_if ?_ ?_
          · intro C17
            exact ok_mV (vj_X8_readPrimary_80 hn hg (by omega) (by omega) V_h (by omega) (by omega) (by omega)) (fun _ V_r R_r => by have := gF_2_3 V_r; have := gF_2_10 V_r; have := gF_2_11 V_r; omega)
          · intro C17
            refine ok_if ?_ ?_
            · intro C18
              exact ok_mV (vj_X8_readPrimary_80 hn hg (by omega) (by omega) V_h (by omega) (by omega) (by omega)) (fun _ V_r R_r => by have := gF_2_3 V_r; have := gF_2_10 V_r; have := gF_2_11 V_r; omega)
            · intro C18
              refine ok_if ?_ ?_
              · intro C19
                exact ok_mV (vj_X8_readPrimary_80 hn hg (by omega) (by omega) V_h (by omega) (by omega) (by omega)) (fun _ V_r R_r => by have := gF_2_3 V_r; have := gF_2_10 V_r; have := gF_2_11 V_r; omega)
              · intro C19
                refine ok_if ?_ ?_
                · intro C20
                  refine ok_add (by omega) ?_; intro v23 e_v23
                  refine ok_xl ?_; intro h24 E_h24; have V_h24 : VS_ h24 := by rw [E_h24]; exact wF_2_10 V_h (by omega)
                  have T22 : h24 2 3 = h 2 3 := by rw [E_h24]; exact up_n (by decide)
                  have T23 : h24 2 11 = h 2 11 := by rw [E_h24]; exact up_n (by decide)
                  have T24 : h24 2 10 = v23 := by rw [E_h24]; exact up_s
                  refine ok_cVR (hg.1 (by omega) (by omega) V_h24 (by omega) (by omega)) ?_; intro u26 E_u26 V_u26 R_u26
                  have T25 := gF_2_3 V_u26
                  have T26 := gF_2_10 V_u26
                  have T27 := gF_2_11 V_u26
                  refine ok_cVR (vf_X8_need hn (by omega) (by omega) V_u26) ?_; intro u28 E_u28 V_u28 R_u28
                  have T28 : u28 2 3 = u26 2 3 := (ff_X8_need nn) _ E_u28 2 3 rfl
                  have T29 := gF_2_10 V_u28
                  have T30 := gF_2_11 V_u28
                  exact ok_mV (vj_X8_readPrimary_160 hn hg (by omega) (by omega) V_u28 (by omega) (by omega)) (fun _ V_r R_r => by have := gF_2_3 V_r; have := gF_2_10 V_r; have := gF_2_11 V_r; omega)
                · intro C20
                  refine ok_cVR (vf_X9_tellHere hn (by omega) (by omega) V_h) ?_; intro u12 E_u12 V_u12 R_u12
                  have T31 : u12 2 3 = h 2 3 := (ff_X9_tellHere nn) _ E_u12 2 3 rfl
                  have T32 : u12 2 10 = h 2 10 := (ff_X9_tellHere nn) _ E_u12 2 10 rfl
                  have T33 := gF_2_11 V_u12
                  exact ok_mV (vj_X8_readPrimary_160 hn hg (by omega) (by omega) V_u12 (by omega) (by omega)) (fun _ V_r R_r => by have := gF_2_3 V_r; have := gF_2_10 V_r; have := gF_2_11 V_r; omega)
set_option maxRecDepth 4000 in
theorem vw_X8_readBehind_4 {nn : Nat} (hn : 1000000 ≤ nn) {g : Int} {rc : tq_X8_readValue} (hg : GH_X8_readValue g rc) : ∀ (k : Nat) {l1 : Int} {l2 : Int} {l3 : Int} {h : ms_M} (a_l1 : 1 ≤ l1) (b_l1 : l1 ≤ 42) (a_l2 : 0 ≤ l2) (b_l2 : l2 ≤ 1) (a_l3 : 0 ≤ l3) (b_l3 : l3 ≤ 3000) (V_h : VS_ h) (x_0 : 6 * (43 - l1) + 3 ≤ (g + 1)) (x_1 : l1 ≤ 40 ∨ ¬ (h 2 11 = 0 ∧ h 2 10 < h 2 3))  (hm : 3001 - l3 < (k : Int)), Ok_ (qw_X8_readBehind_4 nn rc k l1 l2 l3 h) (QVR_ (fun r => (r 2 3 = h 2 3) ∧ (h 2 10 ≤ r 2 10) ∧ (h 2 11 = 0 ∨ ¬ r 2 11 = 0) ∧ (r 2 10 ≤ h 2 10 ∨ r 2 10 ≤ 3004) ∧ ((h 2 11 = 0 ∧ h 2 10 < h 2 3) ∨ ¬ (r 2 11 = 0 ∧ r 2 10 < r 2 3)))) := by
  intro k
  induction k with
  | zero => intros; exfalso; omega
  | succ k ih =>
    intro l1 l2 l3 h a_l1 b_l1 a_l2 b_l2 a_l3 b_l3 V_h x_0 x_1 hm
    unfold qw_X8_readBehind_4
    have T1 := gF_2_3 V_h
    have T2 := gF_2_10 V_h
    have T3 := gF_2_11 V_h
    refine ok_if ?_ ?_
    · intro C3
      exact ok_rVR V_h (by omega)
    · intro C3
      refine ok_if ?_ ?_
      · intro C4
        exact ok_rVR V_h (by omega)
      · intro C4
        refine ok_cIR (vf_X8_accept hn (by omega) (by omega) V_h) ?_; intro u2 E_u2 V_u2 a_u2 b_u2 R_u2
        have T6 : u2.2 2 3 = h 2 3 := (ff_X8_accept nn) _ E_u2 2 3 rfl
        have T7 : u2.2 2 11 = h 2 11 := (ff_X8_accept nn) _ E_u2 2 11 rfl
        have T8 := gF_2_10 V_u2
        refine ok_if ?_ ?_
        · intro C8
          refine ok_cIR (vf_X8_accept hn (by omega) (by omega) V_u2) ?_; intro u4 E_u4 V_u4 a_u4 b_u4 R_u4
          have T10 : u4.2 2 3 = u2.2 2 3 := (ff_X8_accept nn) _ E_u4 2 3 rfl
          have T11 : u4.2 2 11 = u2.2 2 11 := (ff_X8_accept nn) _ E_u4 2 11 rfl
          have T12 := gF_2_10 V_u4
          refine ok_if ?_ ?_
          · intro C12
            refine ok_add (by omega) ?_; intro v5 e_v5
            exact ok_mV (ih (by omega) (by omega) (by omega) (by omega) (by omega) (by omega) V_u4 (by omega) (by omega) (by omega)) (fun _ V_r R_r => by have := gF_2_3 V_r; have := gF_2_10 V_r; have := gF_2_11 V_r; omega)
          · intro C12
            refine ok_cVR (hg.1 (by omega) (by omega) V_u4 (by omega) (by omega)) ?_; intro u7 E_u7 V_u7 R_u7
            have T14 := gF_2_3 V_u7
            have T15 := gF_2_10 V_u7
            have T16 := gF_2_11 V_u7
            refine ok_cVR (vf_X8_need hn (by omega) (by omega) V_u7) ?_; intro u9 E_u9 V_u9 R_u9
            have T17 : u9 2 3 = u7 2 3 := (ff_X8_need nn) _ E_u9 2 3 rfl
            have T18 := gF_2_10 V_u9
            have T19 := gF_2_11 V_u9
            refine ok_add (by omega) ?_; intro v10 e_v10
            exact ok_mV (ih (by omega) (by omega) (by omega) (by omega) (by omega) (by omega) V_u9 (by omega) (by omega) (by omega)) (fun _ V_r R_r => by have := gF_2_3 V_r; have := gF_2_10 V_r; have := gF_2_11 V_r; omega)
        · intro C8
          refine ok_cVR (vf_X8_need hn (by omega) (by omega) V_u2) ?_; intro u13 E_u13 V_u13 R_u13
          have T20 : u13 2 3 = u2.2 2 3 := (ff_X8_need nn) _ E_u13 2 3 rfl
          have T21 := gF_2_10 V_u13
          have T22 := gF_2_11 V_u13
          refine ok_cVR (hg.2.2.2.2.2 (by omega) (by omega) V_u13 (by omega) (by omega)) ?_; intro u15 E_u15 V_u15 R_u15
          have T23 := gF_2_3 V_u15
          have T24 := gF_2_10 V_u15
          have T25 := gF_2_11 V_u15
          refine ok_add (by omega) ?_; intro v16 e_v16
          exact ok_mV (ih (by omega) (by omega) (by omega) (by omega) (by omega) (by omega) V_u15 (by omega) (by omega) (by omega)) (fun _ V_r R_r => by have := gF_2_3 V_r; have := gF_2_10 V_r; have := gF_2_11 V_r; omega)
set_option maxRecDepth 4000 in
theorem vo_X8_readBehind {nn : Nat} (hn : 1000000 ≤ nn) {g : Int} {rc : tq_X8_readValue} (hg : GH_X8_readValue g rc) {a1 : Int} {h : ms_M} (a_a1 : 1 ≤ a1) (b_a1 : a1 ≤ 42) (V_h : VS_ h) (x_0 : 6 * (43 - a1) + 3 ≤ (g + 1)) (x_1 : a1 ≤ 40 ∨ ¬ (h 2 11 = 0 ∧ h 2 10 < h 2 3))  : Ok_ (qo_X8_readBehind nn rc a1 h) (QVR_ (fun r => (r 2 3 = h 2 3) ∧ (h 2 10 ≤ r 2 10) ∧ (h 2 11 = 0 ∨ ¬ r 2 11 = 0) ∧ (r 2 10 ≤ h 2 10 ∨ r 2 10 ≤ 3004) ∧ ((h 2 11 = 0 ∧ h 2 10 < h 2 3) ∨ ¬ (r 2 11 = 0 ∧ r 2 10 < r 2 3)))) := by
  unfold qo_X8_readBehind
  have T1 := gF_2_3 V_h
  have T2 := gF_2_10 V_h
  have T3 := gF_2_11 V_h
  exact ok_mV (vw_X8_readBehind_4 hn hg _ (by omega) (by omega) (by omega) (by omega) (by omega) (by omega) V_h (by omega) (by omega) (by omega)) (fun _ V_r R_r => by have := gF_2_3 V_r; have := gF_2_10 V_r; have := gF_2_11 V_r; omega)
set_option maxRecDepth 4000 in
theorem vj_X8_readNew_45 {nn : Nat} (hn : 1000000 ≤ nn) {g : Int} {rc : tq_X8_readValue} (hg : GH_X8_readValue g rc) {l1 : Int} {h : ms_M} (a_l1 : 1 ≤ l1) (b_l1 : l1 ≤ 42) (V_h : VS_ h) (x_0 : 6 * (43 - l1) + 2 ≤ (g + 1)) (x_1 : l1 ≤ 40)  : Ok_ (qj_X8_readNew_45 nn rc l1 h) (QVR_ (fun r => (r 2 3 = h 2 3) ∧ (h 2 10 ≤ r 2 10) ∧ (h 2 11 = 0 ∨ ¬ r 2 11 = 0) ∧ (r 2 10 ≤ h 2 10 ∨ r 2 10 ≤ 3004) ∧ ((h 2 11 = 0 ∧ h 2 10 < h 2 3) ∨ ¬ (r 2 11 = 0 ∧ r 2 10 < r 2 3)))) := by
  unfold qj_X8_readNew_45
  have T1 := gF_2_3 V_h
  have T2 := gF_2_10 V_h
  have T3 := gF_2_11 V_h
  refine ok_cVR (vf_X8_need hn (by omega) (by omega) V_h) ?_; intro u2 E_u2 V_u2 R_u2
  have T4 : u2 2 3 = h 2 3 := (ff_X8_need nn) _ E_u2 2 3 rfl
  have T5 := gF_2_10 V_u2
  have T6 := gF_2_11 V_u2
  refine ok_cVR (hg.1 (by omega) (by omega) V_u2 (by omega) (by omega)) ?_; intro u4 E_u4 V_u4 R_u4
  have T7 := gF_2_3 V_u4
  have T8 := gF_2_10 V_u4
  have T9 := gF_2_11 V_u4
  refine ok_cVR (vf_X8_need hn (by omega) (by omega) V_u4) ?_; intro u6 E_u6 V_u6 R_u6
  have T10 : u6 2 3 = u4 2 3 := (ff_X8_need nn) _ E_u6 2 3 rfl
  have T11 := gF_2_10 V_u6
  have T12 := gF_2_11 V_u6
  exact ok_rVR V_u6 (by omega)
set_option maxRecDepth 4000 in
theorem vo_X8_readNew {nn : Nat} (hn : 1000000 ≤ nn) {g : Int} {rc : tq_X8_readValue} (hg : GH_X8_readValue g rc) {a1 : Int} {h : ms_M} (a_a1 : 1 ≤ a1) (b_a1 : a1 ≤ 42) (V_h : VS_ h) (x_0 : 6 * (43 - a1) + 2 ≤ (g + 1)) (x_1 : a1 ≤ 40) (x_2 : (h 2 11 = 0 ∧ h 2 10 < h 2 3))  : Ok_ (qo_X8_readNew nn rc a1 h) (QVR_ (fun r => (r 2 3 = h 2 3) ∧ (h 2 10 ≤ r 2 10) ∧ (h 2 11 = 0 ∨ ¬ r 2 11 = 0) ∧ (r 2 10 ≤ h 2 10 ∨ r 2 10 ≤ 3004) ∧ ((h 2 11 = 0 ∧ h 2 10 < h 2 3) ∨ ¬ (r 2 11 = 0 ∧ r 2 10 < r 2 3)))) := by
  unfold qo_X8_readNew
  have T1 := gF_2_3 V_h
  have T2 := gF_2_10 V_h
  have T3 := gF_2_11 V_h
  refine ok_add (by omega) ?_; intro v9 e_v9
  refine ok_xl ?_; intro h10 E_h10; have V_h10 : VS_ h10 := by rw [E_h10]; exact wF_2_10 V_h (by omega)
  have T4 : h10 2 3 = h 2 3 := by rw [E_h10]; exact up_n (by decide)
  have T5 : h10 2 11 = h 2 11 := by rw [E_h10]; exact up_n (by decide)
  have T6 : h10 2 10 = v9 := by rw [E_h10]; exact up_s
  refine ok_cIR (vf_X8_accept hn (by omega) (by omega) V_h10) ?_; intro u12 E_u12 V_u12 a_u12 b_u12 R_u12
  have T7 : u12.2 2 3 = h10 2 3 := (ff_X8_accept nn) _ E_u12 2 3 rfl
  have T8 : u12.2 2 11 = h10 2 11 := (ff_X8_accept nn) _ E_u12 2 11 rfl
  have T9 := gF_2_10 V_u12
  refine ok_if ?_ ?_
  · intro C9
    exact ok_mV (vj_X8_readNew_45 hn hg (by omega) (by omega) V_u12 (by omega) (by omega)) (fun _ V_r R_r => by have := gF_2_3 V_r; have := gF_2_10 V_r; have := gF_2_11 V_r; omega)
  · intro C9
    refine ok_cVR (vf_X8_need hn (by omega) (by omega) V_u12) ?_; intro u14 E_u14 V_u14 R_u14
    have T11 : u14 2 3 = u12.2 2 3 := (ff_X8_need nn) _ E_u14 2 3 rfl
    have T12 := gF_2_10 V_u14
    have T13 := gF_2_11 V_u14
    refine ok_cIR (vf_X8_accept hn (by omega) (by omega) V_u14) ?_; intro u16 E_u16 V_u16 a_u16 b_u16 R_u16
    have T14 : u16.2 2 3 = u14 2 3 := (ff_X8_accept nn) _ E_u16 2 3 rfl
    have T15 : u16.2 2 11 = u14 2 11 := (ff_X8_accept nn) _ E_u16 2 11 rfl
    have T16 := gF_2_10 V_u16
    refine ok_if ?_ ?_
    · intro C16
      exact ok_mV (vj_X8_readNew_45 hn hg (by omega) (by omega) V_u16 (by omega) (by omega)) (fun _ V_r R_r => by have := gF_2_3 V_r; have := gF_2_10 V_r; have := gF_2_11 V_r; omega)
    · intro C16
      refine ok_cVR (vf_X8_need hn (by omega) (by omega) V_u16) ?_; intro u18 E_u18 V_u18 R_u18
      have T18 : u18 2 3 = u16.2 2 3 := (ff_X8_need nn) _ E_u18 2 3 rfl
      have T19 := gF_2_10 V_u18
      have T20 := gF_2_11 V_u18
      exact ok_rVR V_u18 (by omega)
set_option maxRecDepth 4000 in
theorem vj_X8_readArguments_52 {nn : Nat} (hn : 1000000 ≤ nn) {g : Int} {rc : tq_X8_readValue} (hg : GH_X8_readValue g rc) {h : ms_M} (V_h : VS_ h)  : Ok_ (qj_X8_readArguments_52 nn rc h) (QVR_ (fun r => (r 2 3 = h 2 3) ∧ (h 2 10 ≤ r 2 10) ∧ (h 2 11 = 0 ∨ ¬ r 2 11 = 0) ∧ (r 2 10 ≤ h 2 10 ∨ r 2 10 ≤ 3004) ∧ ((h 2 11 = 0 ∧ h 2 10 < h 2 3) ∨ ¬ (r 2 11 = 0 ∧ r 2 10 < r 2 3)))) := by
  unfold qj_X8_readArguments_52
  have T1 := gF_2_3 V_h
  have T2 := gF_2_10 V_h
  have T3 := gF_2_11 V_h
  refine ok_cVR (vf_X8_need hn (by omega) (by omega) V_h) ?_; intro u2 E_u2 V_u2 R_u2
  have T4 : u2 2 3 = h 2 3 := (ff_X8_need nn) _ E_u2 2 3 rfl
  have T5 := gF_2_10 V_u2
  have T6 := gF_2_11 V_u2
  exact ok_rVR V_u2 (by omega)
set_option maxRecDepth 4000 in
theorem vw_X8_readArguments_23 {nn : Nat} (hn : 1000000 ≤ nn) {g : Int} {rc : tq_X8_readValue} (hg : GH_X8_readValue g rc) : ∀ (k : Nat) {l1 : Int} {l2 : Int} {l3 : Int} {h : ms_M} (a_l1 : 1 ≤ l1) (b_l1 : l1 ≤ 42) (a_l2 : 0 ≤ l2) (b_l2 : l2 ≤ 1) (a_l3 : 0 ≤ l3) (b_l3 : l3 ≤ 3000) (V_h : VS_ h) (x_0 : 6 * (43 - l1) + 2 ≤ (g + 1)) (x_1 : l1 ≤ 40)  (hm : 3001 - l3 < (k : Int)), Ok_ (qw_X8_readArguments_23 nn rc k l1 l2 l3 h) (QVR_ (fun r => (r 2 3 = h 2 3) ∧ (h 2 10 ≤ r 2 10) ∧ (h 2 11 = 0 ∨ ¬ r 2 11 = 0) ∧ (r 2 10 ≤ h 2 10 ∨ r 2 10 ≤ 3004) ∧ ((h 2 11 = 0 ∧ h 2 10 < h 2 3) ∨ ¬ (r 2 11 = 0 ∧ r 2 10 < r 2 3)))) := by
  intro k
  induction k with
  | zero => intros; exfalso; omega
  | succ k ih =>
    intro l1 l2 l3 h a_l1 b_l1 a_l2 b_l2 a_l3 b_l3 V_h x_0 x_1 hm
    unfold qw_X8_readArguments_23
    have T1 := gF_2_3 V_h
    have T2 := gF_2_10 V_h
    have T3 := gF_2_11 V_h
    refine ok_if ?_ ?_
    · intro C3
      exact ok_mV (vj_X8_readArguments_52 hn hg V_h) (fun _ V_r R_r => by have := gF_2_3 V_r; have := gF_2_10 V_r; have := gF_2_11 V_r; omega)
    · intro C3
      refine ok_if ?_ ?_
      · intro C4
        exact ok_mV (vj_X8_readArguments_52 hn hg V_h) (fun _ V_r R_r => by have := gF_2_3 V_r; have := gF_2_10 V_r; have := gF_2_11 V_r; omega)
      · intro C4
        refine ok_cVR (hg.1 (by omega) (by omega) V_h (by omega) (by omega)) ?_; intro u4 E_u4 V_u4 R_u4
        have T6 := gF_2_3 V_u4
        have T7 := gF_2_10 V_u4
        have T8 := gF_2_11 V_u4
        refine ok_cIR (vf_X8_accept hn (by omega) (by omega) V_u4) ?_; intro u6 E_u6 V_u6 a_u6 b_u6 R_u6
        have T9 : u6.2 2 3 = u4 2 3 := (ff_X8_accept nn) _ E_u6 2 3 rfl
        have T10 : u6.2 2 11 = u4 2 11 := (ff_X8_accept nn) _ E_u6 2 11 rfl
        have T11 := gF_2_10 V_u6
        refine ok_add (by omega) ?_; intro v7 e_v7
        exact ok_mV (ih (by omega) (by omega) (by omega) (by omega) (by omega) (by omega) V_u6 (by omega) (by omega) (by omega)) (fun _ V_r R_r => by have := gF_2_3 V_r; have := gF_2_10 V_r; have := gF_2_11 V_r; omega)
set_option maxRecDepth 4000 in
theorem vo_X8_readArguments {nn : Nat} (hn : 1000000 ≤ nn) {g : Int} {rc : tq_X8_readValue} (hg : GH_X8_readValue g rc) {a1 : Int} {h : ms_M} (a_a1 : 1 ≤ a1) (b_a1 : a1 ≤ 42) (V_h : VS_ h) (x_0 : 6 * (43 - a1) + 2 ≤ (g + 1)) (x_1 : a1 ≤ 40)  : Ok_ (qo_X8_readArguments nn rc a1 h) (QVR_ (fun r => (r 2 3 = h 2 3) ∧ (h 2 10 ≤ r 2 10) ∧ (h 2 11 = 0 ∨ ¬ r 2 11 = 0) ∧ (r 2 10 ≤ h 2 10 ∨ r 2 10 ≤ 3004) ∧ ((h 2 11 = 0 ∧ h 2 10 < h 2 3) ∨ ¬ (r 2 11 = 0 ∧ r 2 10 < r 2 3)))) := by
  unfold qo_X8_readArguments
  have T1 := gF_2_3 V_h
  have T2 := gF_2_10 V_h
  have T3 := gF_2_11 V_h
  refine ok_cIR (vf_X8_accept hn (by omega) (by omega) V_h) ?_; intro u11 E_u11 V_u11 a_u11 b_u11 R_u11
  have T4 : u11.2 2 3 = h 2 3 := (ff_X8_accept nn) _ E_u11 2 3 rfl
  have T5 : u11.2 2 11 = h 2 11 := (ff_X8_accept nn) _ E_u11 2 11 rfl
  have T6 := gF_2_10 V_u11
  refine ok_if ?_ ?_
  · intro C6
    exact ok_rVR V_u11 (by omega)
  · intro C6
    refine ok_cIR (vf_X8_accept hn (by omega) (by omega) V_u11) ?_; intro u13 E_u13 V_u13 a_u13 b_u13 R_u13
    have T8 : u13.2 2 3 = u11.2 2 3 := (ff_X8_accept nn) _ E_u13 2 3 rfl
    have T9 : u13.2 2 11 = u11.2 2 11 := (ff_X8_accept nn) _ E_u13 2 11 rfl
    have T10 := gF_2_10 V_u13
    refine ok_if ?_ ?_
    · intro C10
      exact ok_mV (vw_X8_readArguments_23 hn hg _ (by omega) (by omega) (by omega) (by omega) (by omega) (by omega) V_u13 (by omega) (by omega) (by omega)) (fun _ V_r R_r => by have := gF_2_3 V_r; have := gF_2_10 V_r; have := gF_2_11 V_r; omega)
    · intro C10
      exact ok_rVR V_u13 (by omega)
set_option maxRecDepth 4000 in
theorem vg_X8_readValue {nn : Nat} (hn : 1000000 ≤ nn) : ∀ g : Nat, GH_X8_readValue (g : Int) (qg_X8_readValue nn g) := by
  intro g
  induction g with
  | zero => exact ⟨by intros; exfalso; omega, by intros; exfalso; omega, by intros; exfalso; omega, by intros; exfalso; omega, by intros; exfalso; omega, by intros; exfalso; omega⟩
  | succ g ih =>
    refine ⟨?_, ?_, ?_, ?_, ?_, ?_⟩
    · intro a1 h a_a1 b_a1 V_h x_0 x_1; exact vo_X8_readValue hn ih a_a1 b_a1 V_h (by omega) (by omega)
    · intro a1 h a_a1 b_a1 V_h x_0 x_1; exact vo_X8_readUnary hn ih a_a1 b_a1 V_h (by omega) (by omega)
    · intro a1 h a_a1 b_a1 V_h x_0 x_1; exact vo_X8_readPrimary hn ih a_a1 b_a1 V_h (by omega) (by omega)
    · intro a1 h a_a1 b_a1 V_h x_0 x_1; exact vo_X8_readBehind hn ih a_a1 b_a1 V_h (by omega) (by omega)
    · intro a1 h a_a1 b_a1 V_h x_0 x_1 x_2; exact vo_X8_readNew hn ih a_a1 b_a1 V_h (by omega) (by omega) (by omega)
    · intro a1 h a_a1 b_a1 V_h x_0 x_1; exact vo_X8_readArguments hn ih a_a1 b_a1 V_h (by omega) (by omega)
theorem vf_X8_readValue {nn : Nat} (hn : 1000000 ≤ nn) {a1 : Int} {h : ms_M} (a_a1 : 1 ≤ a1) (b_a1 : a1 ≤ 41) (V_h : VS_ h) (x_1 : a1 ≤ 40 ∨ ¬ (h 2 11 = 0 ∧ h 2 10 < h 2 3)) (xg : 6 * (43 - a1) + 1 ≤ 260) : Ok_ (qf_X8_readValue nn a1 h) (QVR_ (fun r => (r 2 3 = h 2 3) ∧ (h 2 10 ≤ r 2 10) ∧ (h 2 11 = 0 ∨ ¬ r 2 11 = 0) ∧ (r 2 10 ≤ h 2 10 ∨ r 2 10 ≤ 3004) ∧ ((h 2 11 = 0 ∧ h 2 10 < h 2 3) ∨ ¬ (r 2 11 = 0 ∧ r 2 10 < r 2 3)))) := by
  unfold qf_X8_readValue
  exact (vg_X8_readValue hn 260).1 a_a1 b_a1 V_h (by omega) (by omega)
