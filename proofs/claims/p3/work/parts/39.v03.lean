set_option maxRecDepth 4000 in
theorem vj_X10_readCondition_39 {nn : Nat} (hn : 1000000 ≤ nn) {l2 : Int} {s0 : Int} {h : ms_M} (a_l2 : 2 ≤ l2) (b_l2 : l2 ≤ 50000002) (a_s0 : 0 ≤ s0) (b_s0 : s0 ≤ 1) (V_h : VS_ h) (x_0 : h 34 1 + h 34 3 ≤ 1400000000) (x_1 : h 2 10 ≤ 45000000)  : Ok_ (qj_X10_readCondition_39 nn l2 s0 h) (QIR_ 0 1600000000 (fun u r => (h 2 11 = 0 ∨ ¬ r 2 11 = 0) ∧ (h 2 10 ≤ r 2 10) ∧ (r 34 1 + r 34 3 + 12 * r 49 10 + 20 * h 2 10 ≤ h 34 1 + h 34 3 + 12 * h 49 10 + 20 * r 2 10 + (-17)) ∧ (r 2 10 ≤ h 2 10 + 1))) := by
  unfold qj_X10_readCondition_39
  have T1 := gF_2_3 V_h
  have T2 := gF_2_10 V_h
  have T3 := gF_2_11 V_h
  have T4 := gF_34_1 V_h
  have T5 := gF_34_3 V_h
  have T6 := gF_49_10 V_h
  refine ok_cVR (vf_X10_wantType hn (by omega) (by omega) (by omega) (by omega) V_h) ?_; intro u2 E_u2 V_u2 R_u2
  have T7 : u2 2 3 = h 2 3 := (ff_X10_wantType nn) _ E_u2 2 3 rfl
  have T8 : u2 2 10 = h 2 10 := (ff_X10_wantType nn) _ E_u2 2 10 rfl
  have T9 : u2 34 1 = h 34 1 := (ff_X10_wantType nn) _ E_u2 34 1 rfl
  have T10 : u2 34 3 = h 34 3 := (ff_X10_wantType nn) _ E_u2 34 3 rfl
  have T11 : u2 49 10 = h 49 10 := (ff_X10_wantType nn) _ E_u2 49 10 rfl
  have T12 := gF_2_11 V_u2
  refine ok_add (by omega) ?_; intro v5 e_v5
  refine ok_xl ?_; intro h6 E_h6; have V_h6 : VS_ h6 := by rw [E_h6]; exact wF_2_10 V_u2 (by omega)
  have T13 : h6 2 3 = u2 2 3 := by rw [E_h6]; exact up_n (by decide)
  have T14 : h6 34 1 = u2 34 1 := by rw [E_h6]; exact up_n (by decide)
  have T15 : h6 34 3 = u2 34 3 := by rw [E_h6]; exact up_n (by decide)
  have T16 : h6 49 10 = u2 49 10 := by rw [E_h6]; exact up_n (by decide)
  have T17 : h6 2 11 = u2 2 11 := by rw [E_h6]; exact up_n (by decide)
  have T18 : h6 2 10 = v5 := by rw [E_h6]; exact up_s
  refine ok_cIR (vf_X1_jump hn (by omega) (by omega) (by omega) (by omega) V_h6 (by omega)) ?_; intro u9 E_u9 V_u9 a_u9 b_u9 R_u9
  have T19 : u9.2 2 3 = h6 2 3 := (ff_X1_jump nn) _ E_u9 2 3 rfl
  have T20 : u9.2 49 10 = h6 49 10 := (ff_X1_jump nn) _ E_u9 49 10 rfl
  have T21 : u9.2 2 11 = h6 2 11 := (ff_X1_jump nn) _ E_u9 2 11 rfl
  have T22 : u9.2 2 10 = h6 2 10 := (ff_X1_jump nn) _ E_u9 2 10 rfl
  have T23 := gF_34_1 V_u9
  have T24 := gF_34_3 V_u9
  exact ok_rIR V_u9 (by omega) (by omega) (by omega)
set_option maxRecDepth 4000 in
theorem vf_X10_readCondition {nn : Nat} (hn : 1000000 ≤ nn) {a1 : Int} {h : ms_M} (a_a1 : 1 ≤ a1) (b_a1 : a1 ≤ 43) (V_h : VS_ h) (x_0 : h 34 1 + h 34 3 + 12 * h 49 10 ≤ 20 * h 2 10 + 60100) (x_1 : h 2 10 ≤ 26000000) (x_2 : (h 2 11 = 0 ∧ h 2 10 < h 2 3))  : Ok_ (qf_X10_readCondition nn a1 h) (QIR_ 0 1600000000 (fun u r => (h 2 11 = 0 ∨ ¬ r 2 11 = 0) ∧ (h 2 10 ≤ r 2 10) ∧ (r 34 1 + r 34 3 + 12 * r 49 10 + 20 * h 2 10 ≤ h 34 1 + h 34 3 + 12 * h 49 10 + 20 * r 2 10 + (-57)) ∧ (r 2 10 ≤ 8000000))) := by
  unfold qf_X10_readCondition
  have T1 := gF_2_3 V_h
  have T2 := gF_2_10 V_h
  have T3 := gF_2_11 V_h
  have T4 := gF_34_1 V_h
  have T5 := gF_34_3 V_h
  have T6 := gF_49_10 V_h
  refine ok_add (by omega) ?_; intro v12 e_v12
  refine ok_xl ?_; intro h14 E_h14; have V_h14 : VS_ h14 := by rw [E_h14]; exact wF_2_10 V_h (by omega)
  have T7 : h14 2 3 = h 2 3 := by rw [E_h14]; exact up_n (by decide)
  have T8 : h14 2 11 = h 2 11 := by rw [E_h14]; exact up_n (by decide)
  have T9 : h14 34 1 = h 34 1 := by rw [E_h14]; exact up_n (by decide)
  have T10 : h14 34 3 = h 34 3 := by rw [E_h14]; exact up_n (by decide)
  have T11 : h14 49 10 = h 49 10 := by rw [E_h14]; exact up_n (by decide)
  have T12 : h14 2 10 = v12 := by rw [E_h14]; exact up_s
  refine ok_cVR (vf_X10_readValue hn (by omega) (by omega) V_h14 (by omega) (by omega) (by omega)) ?_; intro u16 E_u16 V_u16 R_u16
  have T13 : u16 2 3 = h14 2 3 := (ff_X10_readValue nn) _ E_u16 2 3 rfl
  have T14 := gF_2_10 V_u16
  have T15 := gF_2_11 V_u16
  have T16 := gF_34_1 V_u16
  have T17 := gF_34_3 V_u16
  have T18 := gF_49_10 V_u16
  have T19 := gF_49_12 V_u16
  refine ok_if ?_ ?_
  · intro C19
    exact ok_mI (vj_X10_readCondition_39 hn (by omega) (by omega) (by omega) (by omega) V_u16 (by omega) (by omega)) (fun _ _ V_r R_r => by have := gF_2_3 V_r; have := gF_2_10 V_r; have := gF_2_11 V_r; have := gF_34_1 V_r; have := gF_34_3 V_r; have := gF_49_10 V_r; omega)
  · intro C19
    exact ok_mI (vj_X10_readCondition_39 hn (by omega) (by omega) (by omega) (by omega) V_u16 (by omega) (by omega)) (fun _ _ V_r R_r => by have := gF_2_3 V_r; have := gF_2_10 V_r; have := gF_2_11 V_r; have := gF_34_1 V_r; have := gF_34_3 V_r; have := gF_49_10 V_r; omega)
set_option maxRecDepth 4000 in
theorem vf_X1_jumpBack {nn : Nat} (hn : 1000000 ≤ nn) {a1 : Int} {a2 : Int} {h : ms_M} (a_a1 : 0 ≤ a1) (b_a1 : a1 ≤ 1600000000) (a_a2 : 0 ≤ a2) (b_a2 : a2 ≤ 1000000) (V_h : VS_ h) (x_0 : h 34 1 + h 34 3 ≤ 1500000700)  : Ok_ (qf_X1_jumpBack nn a1 a2 h) (QVR_ (fun r => (r 34 1 + r 34 3 ≤ h 34 1 + h 34 3 + 3))) := by
  unfold qf_X1_jumpBack
  have T1 := gF_34_1 V_h
  have T2 := gF_34_3 V_h
  refine ok_cIR (vf_X1_jump hn (by omega) (by omega) (by omega) (by omega) V_h (by omega)) ?_; intro u2 E_u2 V_u2 a_u2 b_u2 R_u2
  have T3 := gF_34_1 V_u2
  have T4 := gF_34_3 V_u2
  refine ok_cV (vf_X1_aimAt hn (by omega) (by omega) (by omega) (by omega) V_u2) ?_; intro u4 E_u4 V_u4
  have T5 : u4 34 1 = u2.2 34 1 := (ff_X1_aimAt nn) _ E_u4 34 1 rfl
  have T6 : u4 34 3 = u2.2 34 3 := (ff_X1_aimAt nn) _ E_u4 34 3 rfl
  refine ok_cI (vf_X1_slotOfFrame hn (by omega) (by omega) V_u4) ?_; intro u6 E_u6 V_u6 a_u6 b_u6
  have T7 : u6.2 34 1 = u4 34 1 := (ff_X1_slotOfFrame nn) _ E_u6 34 1 rfl
  have T8 : u6.2 34 3 = u4 34 3 := (ff_X1_slotOfFrame nn) _ E_u6 34 3 rfl
  refine ok_cV (vf_X1_fillFrame hn (by omega) (by omega) (by omega) (by omega) (by omega) (by omega) V_u6) ?_; intro u8 E_u8 V_u8
  have T9 : u8 34 1 = u6.2 34 1 := (ff_X1_fillFrame nn) _ E_u8 34 1 rfl
  have T10 : u8 34 3 = u6.2 34 3 := (ff_X1_fillFrame nn) _ E_u8 34 3 rfl
  exact ok_rVR V_u8 (by omega)
set_option maxRecDepth 4000 in
theorem vj_X0_readLeave_99 {nn : Nat} (hn : 1000000 ≤ nn) {h : ms_M} (V_h : VS_ h) (x_0 : h 34 1 + h 34 3 ≤ 1400000000) (x_1 : h 2 10 ≤ 45000000)  : Ok_ (qj_X0_readLeave_99 nn h) (QIR_ 0 0 (fun u r => (h 2 11 = 0 ∨ ¬ r 2 11 = 0) ∧ (h 2 10 ≤ r 2 10) ∧ (r 34 1 + r 34 3 + 12 * r 49 10 + 20 * h 2 10 ≤ h 34 1 + h 34 3 + 12 * h 49 10 + 20 * r 2 10 + (-40)) ∧ (r 2 10 ≤ h 2 10 + 2))) := by
  unfold qj_X0_readLeave_99
  have T1 := gF_2_3 V_h
  have T2 := gF_2_10 V_h
  have T3 := gF_2_11 V_h
  have T4 := gF_34_1 V_h
  have T5 := gF_34_3 V_h
  have T6 := gF_49_10 V_h
  refine ok_add (by omega) ?_; intro v3 e_v3
  refine ok_xl ?_; intro h4 E_h4; have V_h4 : VS_ h4 := by rw [E_h4]; exact wF_2_10 V_h (by omega)
  have T7 : h4 2 3 = h 2 3 := by rw [E_h4]; exact up_n (by decide)
  have T8 : h4 2 11 = h 2 11 := by rw [E_h4]; exact up_n (by decide)
  have T9 : h4 34 1 = h 34 1 := by rw [E_h4]; exact up_n (by decide)
  have T10 : h4 34 3 = h 34 3 := by rw [E_h4]; exact up_n (by decide)
  have T11 : h4 49 10 = h 49 10 := by rw [E_h4]; exact up_n (by decide)
  have T12 : h4 2 10 = v3 := by rw [E_h4]; exact up_s
  exact ok_rIR V_h4 (by omega) (by omega) (by omega)
set_option maxRecDepth 4000 in
theorem vf_X0_readLeave {nn : Nat} (hn : 1000000 ≤ nn) {h : ms_M} (V_h : VS_ h) (x_0 : h 34 1 + h 34 3 + 12 * h 49 10 ≤ 20 * h 2 10 + 60100) (x_1 : h 2 10 ≤ 26000000) (x_2 : (h 2 11 = 0 ∧ h 2 10 < h 2 3))  : Ok_ (qf_X0_readLeave nn h) (QIR_ 0 0 (fun u r => (h 2 11 = 0 ∨ ¬ r 2 11 = 0) ∧ (h 2 10 ≤ r 2 10) ∧ (r 34 1 + r 34 3 + 12 * r 49 10 + 20 * h 2 10 ≤ h 34 1 + h 34 3 + 12 * h 49 10 + 20 * r 2 10 + (-37)) ∧ (r 2 10 ≤ h 2 10 + 2))) := by
  unfold qf_X0_readLeave
  have T1 := gF_2_3 V_h
  have T2 := gF_2_10 V_h
  have T3 := gF_2_11 V_h
  have T4 := gF_34_1 V_h
  have T5 := gF_34_3 V_h
  have T6 := gF_49_10 V_h
  have T7 := gF_33_9 V_h
  refine ok_if ?_ ?_
  · intro C7
    refine ok_cP (vf_X9_kind hn V_h) ?_; intro u8 e_u8 a_u8 b_u8
    have T9 := lm_X9_kind e_u8
    refine ok_if ?_ ?_
    · intro C9
      have T11 := gF_33_12 V_h
      refine ok_if ?_ ?_
      · intro C11
        exact ok_mI (vj_X0_readLeave_99 hn V_h (by omega) (by omega)) (fun _ _ V_r R_r => by have := gF_2_3 V_r; have := gF_2_10 V_r; have := gF_2_11 V_r; have := gF_34_1 V_r; have := gF_34_3 V_r; have := gF_49_10 V_r; omega)
      · intro C11
        refine ok_cIR (vf_X1_jump hn (by omega) (by omega) (by omega) (by omega) V_h (by omega)) ?_; intro u16 E_u16 V_u16 a_u16 b_u16 R_u16
        have T13 : u16.2 2 3 = h 2 3 := (ff_X1_jump nn) _ E_u16 2 3 rfl
        have T14 : u16.2 2 10 = h 2 10 := (ff_X1_jump nn) _ E_u16 2 10 rfl
        have T15 : u16.2 2 11 = h 2 11 := (ff_X1_jump nn) _ E_u16 2 11 rfl
        have T16 : u16.2 49 10 = h 49 10 := (ff_X1_jump nn) _ E_u16 49 10 rfl
        have T17 : u16.2 33 12 = h 33 12 := (ff_X1_jump nn) _ E_u16 33 12 rfl
        have T18 := gF_34_1 V_u16
        have T19 := gF_34_3 V_u16
        refine ok_wA (by omega) ?_; intro h17 E_h17; have V_h17 : VS_ h17 := by rw [E_h17]; exact wA_44 V_u16 (by omega)
        have T20 : h17 2 3 = u16.2 2 3 := by rw [E_h17]; exact up_n (fun z => absurd z.1 (by decide))
        have T21 : h17 2 10 = u16.2 2 10 := by rw [E_h17]; exact up_n (fun z => absurd z.1 (by decide))
        have T22 : h17 2 11 = u16.2 2 11 := by rw [E_h17]; exact up_n (fun z => absurd z.1 (by decide))
        have T23 : h17 49 10 = u16.2 49 10 := by rw [E_h17]; exact up_n (fun z => absurd z.1 (by decide))
        have T24 : h17 33 12 = u16.2 33 12 := by rw [E_h17]; exact up_n (fun z => absurd z.1 (by decide))
        have T25 : h17 34 1 = u16.2 34 1 := by rw [E_h17]; exact up_n (fun z => absurd z.1 (by decide))
        have T26 : h17 34 3 = u16.2 34 3 := by rw [E_h17]; exact up_n (fun z => absurd z.1 (by decide))
        refine ok_add (by omega) ?_; intro v19 e_v19
        refine ok_xl ?_; intro h20 E_h20; have V_h20 : VS_ h20 := by rw [E_h20]; exact wF_33_12 V_h17 (by omega)
        have T27 : h20 2 3 = h17 2 3 := by rw [E_h20]; exact up_n (by decide)
        have T28 : h20 2 10 = h17 2 10 := by rw [E_h20]; exact up_n (by decide)
        have T29 : h20 2 11 = h17 2 11 := by rw [E_h20]; exact up_n (by decide)
        have T30 : h20 49 10 = h17 49 10 := by rw [E_h20]; exact up_n (by decide)
        have T31 : h20 34 1 = h17 34 1 := by rw [E_h20]; exact up_n (by decide)
        have T32 : h20 34 3 = h17 34 3 := by rw [E_h20]; exact up_n (by decide)
        exact ok_mI (vj_X0_readLeave_99 hn V_h20 (by omega) (by omega)) (fun _ _ V_r R_r => by have := gF_2_3 V_r; have := gF_2_10 V_r; have := gF_2_11 V_r; have := gF_34_1 V_r; have := gF_34_3 V_r; have := gF_49_10 V_r; omega)
    · intro C9
      have T33 := gF_33_10 V_h
      refine ok_cVR (vf_X1_jumpBack hn (by omega) (by omega) (by omega) (by omega) V_h (by omega)) ?_; intro u26 E_u26 V_u26 R_u26
      have T34 : u26 2 3 = h 2 3 := (ff_X1_jumpBack nn) _ E_u26 2 3 rfl
      have T35 : u26 2 10 = h 2 10 := (ff_X1_jumpBack nn) _ E_u26 2 10 rfl
      have T36 : u26 2 11 = h 2 11 := (ff_X1_jumpBack nn) _ E_u26 2 11 rfl
      have T37 : u26 49 10 = h 49 10 := (ff_X1_jumpBack nn) _ E_u26 49 10 rfl
      have T38 := gF_34_1 V_u26
      have T39 := gF_34_3 V_u26
      exact ok_mI (vj_X0_readLeave_99 hn V_u26 (by omega) (by omega)) (fun _ _ V_r R_r => by have := gF_2_3 V_r; have := gF_2_10 V_r; have := gF_2_11 V_r; have := gF_34_1 V_r; have := gF_34_3 V_r; have := gF_49_10 V_r; omega)
  · intro C7
    refine ok_cVR (vf_X9_tell hn (by omega) (by omega) (by omega) (by omega) V_h) ?_; intro u32 E_u32 V_u32 R_u32
    have T40 : u32 2 3 = h 2 3 := (ff_X9_tell nn) _ E_u32 2 3 rfl
    have T41 : u32 2 10 = h 2 10 := (ff_X9_tell nn) _ E_u32 2 10 rfl
    have T42 : u32 34 1 = h 34 1 := (ff_X9_tell nn) _ E_u32 34 1 rfl
    have T43 : u32 34 3 = h 34 3 := (ff_X9_tell nn) _ E_u32 34 3 rfl
    have T44 : u32 49 10 = h 49 10 := (ff_X9_tell nn) _ E_u32 49 10 rfl
    have T45 := gF_2_11 V_u32
    exact ok_mI (vj_X0_readLeave_99 hn V_u32 (by omega) (by omega)) (fun _ _ V_r R_r => by have := gF_2_3 V_r; have := gF_2_10 V_r; have := gF_2_11 V_r; have := gF_34_1 V_r; have := gF_34_3 V_r; have := gF_49_10 V_r; omega)
set_option maxRecDepth 4000 in
theorem vj_X0_closeAlone_21 {nn : Nat} (hn : 1000000 ≤ nn) {h : ms_M} (V_h : VS_ h) (x_0 : h 34 1 + h 34 3 ≤ 1500000810)  : Ok_ (qj_X0_closeAlone_21 nn h) (QVR_ (fun r => (h 2 11 = 0 ∨ ¬ r 2 11 = 0) ∧ (r 34 1 + r 34 3 + 12 * r 49 10 + 20 * h 2 10 ≤ h 34 1 + h 34 3 + 12 * h 49 10 + 20 * r 2 10 + 1))) := by
  unfold qj_X0_closeAlone_21
  have T1 := gF_2_10 V_h
  have T2 := gF_2_11 V_h
  have T3 := gF_34_1 V_h
  have T4 := gF_34_3 V_h
  have T5 := gF_49_10 V_h
  have T6 := gF_49_12 V_h
  refine ok_if ?_ ?_
  · intro C6
    exact ok_rVR V_h (by omega)
  · intro C6
    refine ok_cVR (vf_X1_op hn (by omega) (by omega) V_h (by omega)) ?_; intro u5 E_u5 V_u5 R_u5
    have T8 : u5 2 10 = h 2 10 := (ff_X1_op nn) _ E_u5 2 10 rfl
    have T9 : u5 2 11 = h 2 11 := (ff_X1_op nn) _ E_u5 2 11 rfl
    have T10 : u5 34 3 = h 34 3 := (ff_X1_op nn) _ E_u5 34 3 rfl
    have T11 : u5 49 10 = h 49 10 := (ff_X1_op nn) _ E_u5 49 10 rfl
    have T12 := gF_34_1 V_u5
    refine ok_cVR (vf_X1_pop hn (by omega) (by omega) V_u5 (by omega)) ?_; intro u8 E_u8 V_u8 R_u8
    have T13 : u8 2 10 = u5 2 10 := (ff_X1_pop nn) _ E_u8 2 10 rfl
    have T14 : u8 2 11 = u5 2 11 := (ff_X1_pop nn) _ E_u8 2 11 rfl
    have T15 : u8 49 10 = u5 49 10 := (ff_X1_pop nn) _ E_u8 49 10 rfl
    have T16 : u8 34 1 = u5 34 1 := (ff_X1_pop nn) _ E_u8 34 1 rfl
    have T17 := gF_34_3 V_u8
    exact ok_rVR V_u8 (by omega)
set_option maxRecDepth 4000 in
theorem vf_X0_closeAlone {nn : Nat} (hn : 1000000 ≤ nn) {a1 : Int} {h : ms_M} (a_a1 : 0 ≤ a1) (b_a1 : a1 ≤ 50000000) (V_h : VS_ h) (x_0 : h 34 1 + h 34 3 ≤ 1500000800)  : Ok_ (qf_X0_closeAlone nn a1 h) (QVR_ (fun r => (h 2 11 = 0 ∨ ¬ r 2 11 = 0) ∧ (r 34 1 + r 34 3 + 12 * r 49 10 + 20 * h 2 10 ≤ h 34 1 + h 34 3 + 12 * h 49 10 + 20 * r 2 10 + 1))) := by
  unfold qf_X0_closeAlone
  have T1 := gF_2_10 V_h
  have T2 := gF_2_11 V_h
  have T3 := gF_34_1 V_h
  have T4 := gF_34_3 V_h
  have T5 := gF_49_10 V_h
  have T6 := gF_49_11 V_h
  refine ok_if ?_ ?_
  · intro C6
    exact ok_mV (vj_X0_closeAlone_21 hn V_h (by omega)) (fun _ V_r R_r => by have := gF_2_10 V_r; have := gF_2_11 V_r; have := gF_34_1 V_r; have := gF_34_3 V_r; have := gF_49_10 V_r; omega)
  · intro C6
    refine ok_cVR (vf_X9_tell hn (by omega) (by omega) (by omega) (by omega) V_h) ?_; intro u14 E_u14 V_u14 R_u14
    have T8 : u14 2 10 = h 2 10 := (ff_X9_tell nn) _ E_u14 2 10 rfl
    have T9 : u14 34 1 = h 34 1 := (ff_X9_tell nn) _ E_u14 34 1 rfl
    have T10 : u14 34 3 = h 34 3 := (ff_X9_tell nn) _ E_u14 34 3 rfl
    have T11 : u14 49 10 = h 49 10 := (ff_X9_tell nn) _ E_u14 49 10 rfl
    have T12 := gF_2_11 V_u14
    exact ok_mV (vj_X0_closeAlone_21 hn V_u14 (by omega)) (fun _ V_r R_r => by have := gF_2_10 V_r; have := gF_2_11 V_r; have := gF_34_1 V_r; have := gF_34_3 V_r; have := gF_49_10 V_r; omega)
set_option maxRecDepth 4000 in
theorem vj_X1_store_15 {nn : Nat} (hn : 1000000 ≤ nn) {l1 : Int} {s0 : Int} {h : ms_M} (a_l1 : (-1) ≤ l1) (b_l1 : l1 ≤ 1000000) (a_s0 : 54 ≤ s0) (b_s0 : s0 ≤ 58) (V_h : VS_ h) (x_0 : h 34 1 + h 34 3 ≤ 1500000710)  : Ok_ (qj_X1_store_15 nn l1 s0 h) (QVR_ (fun r => (r 34 1 + r 34 3 ≤ h 34 1 + h 34 3 + 2))) := by
  unfold qj_X1_store_15
  have T1 := gF_34_1 V_h
  have T2 := gF_34_3 V_h
  refine ok_cVR (vf_X1_op_ hn (by omega) (by omega) (by omega) (by omega) V_h (by omega)) ?_; intro u2 E_u2 V_u2 R_u2
  have T3 : u2 34 3 = h 34 3 := (ff_X1_op_ nn) _ E_u2 34 3 rfl
  have T4 := gF_34_1 V_u2
  refine ok_cVR (vf_X1_pop hn (by omega) (by omega) V_u2 (by omega)) ?_; intro u4 E_u4 V_u4 R_u4
  have T5 : u4 34 1 = u2 34 1 := (ff_X1_pop nn) _ E_u4 34 1 rfl
  have T6 := gF_34_3 V_u4
  exact ok_rVR V_u4 (by omega)
set_option maxRecDepth 4000 in
theorem vf_X1_store {nn : Nat} (hn : 1000000 ≤ nn) {a1 : Int} {a2 : Int} {h : ms_M} (a_a1 : (-1) ≤ a1) (b_a1 : a1 ≤ 1000000) (a_a2 : (-1) ≤ a2) (b_a2 : a2 ≤ 441) (V_h : VS_ h) (x_0 : h 34 1 + h 34 3 ≤ 1500000700)  : Ok_ (qf_X1_store nn a1 a2 h) (QVR_ (fun r => (r 34 1 + r 34 3 ≤ h 34 1 + h 34 3 + 2))) := by
  unfold qf_X1_store
  have T1 := gF_34_1 V_h
  have T2 := gF_34_3 V_h
  refine ok_cP (vf_X4_isNumber hn (by omega) (by omega) V_h) ?_; intro u5 e_u5 a_u5 b_u5
  refine ok_if ?_ ?_
  · intro C2
    exact ok_mV (vj_X1_store_15 hn (by omega) (by omega) (by omega) (by omega) V_h (by omega)) (fun _ V_r R_r => by have := gF_34_1 V_r; have := gF_34_3 V_r; omega)
  · intro C2
    exact ok_mV (vj_X1_store_15 hn (by omega) (by omega) (by omega) (by omega) V_h (by omega)) (fun _ V_r R_r => by have := gF_34_1 V_r; have := gF_34_3 V_r; omega)
set_option maxRecDepth 4000 in
theorem vj_X0_closeGiving_90 {nn : Nat} (hn : 1000000 ≤ nn) {s0 : Int} {h : ms_M} (a_s0 : 79 ≤ s0) (b_s0 : s0 ≤ 83) (V_h : VS_ h) (x_0 : h 34 1 + h 34 3 ≤ 1500000611)  : Ok_ (qj_X0_closeGiving_90 nn s0 h) (QVR_ (fun r => (r 34 1 + r 34 3 + 12 * r 49 10 + 20 * h 2 10 ≤ h 34 1 + h 34 3 + 12 * h 49 10 + 20 * r 2 10 + 1))) := by
  unfold qj_X0_closeGiving_90
  have T1 := gF_2_10 V_h
  have T2 := gF_34_1 V_h
  have T3 := gF_34_3 V_h
  have T4 := gF_49_10 V_h
  refine ok_cVR (vf_X1_op hn (by omega) (by omega) V_h (by omega)) ?_; intro u2 E_u2 V_u2 R_u2
  have T5 : u2 2 10 = h 2 10 := (ff_X1_op nn) _ E_u2 2 10 rfl
  have T6 : u2 34 3 = h 34 3 := (ff_X1_op nn) _ E_u2 34 3 rfl
  have T7 : u2 49 10 = h 49 10 := (ff_X1_op nn) _ E_u2 49 10 rfl
  have T8 := gF_34_1 V_u2
  refine ok_cVR (vf_X1_pop hn (by omega) (by omega) V_u2 (by omega)) ?_; intro u5 E_u5 V_u5 R_u5
  have T9 : u5 2 10 = u2 2 10 := (ff_X1_pop nn) _ E_u5 2 10 rfl
  have T10 : u5 49 10 = u2 49 10 := (ff_X1_pop nn) _ E_u5 49 10 rfl
  have T11 : u5 34 1 = u2 34 1 := (ff_X1_pop nn) _ E_u5 34 1 rfl
  have T12 := gF_34_3 V_u5
  exact ok_rVR V_u5 (by omega)
set_option maxRecDepth 4000 in
theorem vf_X0_closeGiving {nn : Nat} (hn : 1000000 ≤ nn) {a1 : Int} {a2 : Int} {a3 : Int} {a4 : Int} {h : ms_M} (a_a1 : 0 ≤ a1) (b_a1 : a1 ≤ 4) (a_a2 : (-1) ≤ a2) (b_a2 : a2 ≤ 441) (a_a3 : (-1) ≤ a3) (b_a3 : a3 ≤ 441) (a_a4 : (-1) ≤ a4) (b_a4 : a4 ≤ 749) (V_h : VS_ h) (x_0 : h 34 1 + h 34 3 ≤ 1500000600)  : Ok_ (qf_X0_closeGiving nn a1 a2 a3 a4 h) (QVR_ (fun r => (r 34 1 + r 34 3 + 12 * r 49 10 + 20 * h 2 10 ≤ h 34 1 + h 34 3 + 12 * h 49 10 + 20 * r 2 10 + 2))) := by
  unfold qf_X0_closeGiving
  have T1 := gF_2_10 V_h
  have T2 := gF_34_1 V_h
  have T3 := gF_34_3 V_h
  have T4 := gF_49_10 V_h
  refine ok_if ?_ ?_
  · intro C4
    refine ok_cVR (vf_X1_store hn (by omega) (by omega) (by omega) (by omega) V_h (by omega)) ?_; intro u10 E_u10 V_u10 R_u10
    have T6 : u10 2 10 = h 2 10 := (ff_X1_store nn) _ E_u10 2 10 rfl
    have T7 : u10 49 10 = h 49 10 := (ff_X1_store nn) _ E_u10 49 10 rfl
    have T8 := gF_34_1 V_u10
    have T9 := gF_34_3 V_u10
    exact ok_rVR V_u10 (by omega)
  · intro C4
    refine ok_if ?_ ?_
    · intro C9
      refine ok_cI (vf_X6_fieldOf hn (by omega) (by omega) (by omega) (by omega) V_h) ?_; intro u14 E_u14 V_u14 a_u14 b_u14
      have T11 : u14.2 2 10 = h 2 10 := (ff_X6_fieldOf nn) _ E_u14 2 10 rfl
      have T12 : u14.2 34 1 = h 34 1 := (ff_X6_fieldOf nn) _ E_u14 34 1 rfl
      have T13 : u14.2 34 3 = h 34 3 := (ff_X6_fieldOf nn) _ E_u14 34 3 rfl
      have T14 : u14.2 49 10 = h 49 10 := (ff_X6_fieldOf nn) _ E_u14 49 10 rfl
      refine ok_cVR (vf_X1_op_ hn (by omega) (by omega) (by omega) (by omega) V_u14 (by omega)) ?_; intro u16 E_u16 V_u16 R_u16
      have T15 : u16 2 10 = u14.2 2 10 := (ff_X1_op_ nn) _ E_u16 2 10 rfl
      have T16 : u16 34 3 = u14.2 34 3 := (ff_X1_op_ nn) _ E_u16 34 3 rfl
      have T17 : u16 49 10 = u14.2 49 10 := (ff_X1_op_ nn) _ E_u16 49 10 rfl
      have T18 := gF_34_1 V_u16
      refine ok_cVR (vf_X1_pop hn (by omega) (by omega) V_u16 (by omega)) ?_; intro u19 E_u19 V_u19 R_u19
      have T19 : u19 2 10 = u16 2 10 := (ff_X1_pop nn) _ E_u19 2 10 rfl
      have T20 : u19 49 10 = u16 49 10 := (ff_X1_pop nn) _ E_u19 49 10 rfl
      have T21 : u19 34 1 = u16 34 1 := (ff_X1_pop nn) _ E_u19 34 1 rfl
      have T22 := gF_34_3 V_u19
      exact ok_rVR V_u19 (by omega)
    · intro C9
      refine ok_if ?_ ?_
      · intro C22
        exact ok_mV (vj_X0_closeGiving_90 hn (by omega) (by omega) V_h (by omega)) (fun _ V_r R_r => by have := gF_2_10 V_r; have := gF_34_1 V_r; have := gF_34_3 V_r; have := gF_49_10 V_r; omega)
      · intro C22
        exact ok_mV (vj_X0_closeGiving_90 hn (by omega) (by omega) V_h (by omega)) (fun _ V_r R_r => by have := gF_2_10 V_r; have := gF_34_1 V_r; have := gF_34_3 V_r; have := gF_49_10 V_r; omega)
set_option maxRecDepth 4000 in
theorem vf_X10_readWhole {nn : Nat} (hn : 1000000 ≤ nn) {a1 : Int} {h : ms_M} (a_a1 : 1 ≤ a1) (b_a1 : a1 ≤ 43) (V_h : VS_ h) (x_0 : h 2 10 + 20000 * (9 * (44 - a1) + 2) ≤ 40000000) (x_1 : h 34 1 + h 34 3 + 12 * h 49 10 + 100 * (9 * (44 - a1) + 2) ≤ 20 * h 2 10 + 100000)  : Ok_ (qf_X10_readWhole nn a1 h) (QVR_ (fun r => (r 2 3 = h 2 3) ∧ (h 2 11 = 0 ∨ ¬ r 2 11 = 0) ∧ (h 2 10 ≤ r 2 10) ∧ (r 34 1 + r 34 3 + 12 * r 49 10 + 20 * h 2 10 ≤ h 34 1 + h 34 3 + 12 * h 49 10 + 20 * r 2 10 + 0) ∧ (((h 2 11 = 0 ∧ h 2 10 < h 2 3) ∧ r 2 10 ≤ 3001 + 20000 * (9 * (44 - a1) + 2)) ∨ (¬ (h 2 11 = 0 ∧ h 2 10 < h 2 3) ∧ r 2 10 ≤ h 2 10 + 1)))) := by
  unfold qf_X10_readWhole
  have T1 := gF_2_3 V_h
  have T2 := gF_2_10 V_h
  have T3 := gF_2_11 V_h
  have T4 := gF_34_1 V_h
  have T5 := gF_34_3 V_h
  have T6 := gF_49_10 V_h
  refine ok_cVR (vf_X10_readValue hn (by omega) (by omega) V_h (by omega) (by omega) (by omega)) ?_; intro u2 E_u2 V_u2 R_u2
  have T7 : u2 2 3 = h 2 3 := (ff_X10_readValue nn) _ E_u2 2 3 rfl
  have T8 := gF_2_10 V_u2
  have T9 := gF_2_11 V_u2
  have T10 := gF_34_1 V_u2
  have T11 := gF_34_3 V_u2
  have T12 := gF_49_10 V_u2
  exact ok_rVR V_u2 (by omega)
set_option maxRecDepth 4000 in
theorem vj_X0_readPlain_156 {nn : Nat} (hn : 1000000 ≤ nn) {h : ms_M} (V_h : VS_ h) (x_0 : h 34 1 + h 34 3 ≤ 1400000002) (x_1 : h 2 10 ≤ 45000000)  : Ok_ (qj_X0_readPlain_156 nn h) (QIR_ 1 1 (fun u r => (h 2 11 = 0 ∨ ¬ r 2 11 = 0) ∧ (h 2 10 ≤ r 2 10) ∧ (r 34 1 + r 34 3 + 12 * r 49 10 + 20 * h 2 10 ≤ h 34 1 + h 34 3 + 12 * h 49 10 + 20 * r 2 10 + (-20)) ∧ (r 2 10 ≤ h 2 10 + 1))) := by
  unfold qj_X0_readPlain_156
  have T1 := gF_2_3 V_h
  have T2 := gF_2_10 V_h
  have T3 := gF_2_11 V_h
  have T4 := gF_34_1 V_h
  have T5 := gF_34_3 V_h
  have T6 := gF_49_10 V_h
  refine ok_add (by omega) ?_; intro v3 e_v3
  refine ok_xl ?_; intro h4 E_h4; have V_h4 : VS_ h4 := by rw [E_h4]; exact wF_2_10 V_h (by omega)
  have T7 : h4 2 3 = h 2 3 := by rw [E_h4]; exact up_n (by decide)
  have T8 : h4 2 11 = h 2 11 := by rw [E_h4]; exact up_n (by decide)
  have T9 : h4 34 1 = h 34 1 := by rw [E_h4]; exact up_n (by decide)
  have T10 : h4 34 3 = h 34 3 := by rw [E_h4]; exact up_n (by decide)
  have T11 : h4 49 10 = h 49 10 := by rw [E_h4]; exact up_n (by decide)
  have T12 : h4 2 10 = v3 := by rw [E_h4]; exact up_s
  exact ok_rIR V_h4 (by omega) (by omega) (by omega)
set_option maxRecDepth 4000 in
theorem vj_X0_readPlain_136 {nn : Nat} (hn : 1000000 ≤ nn) {l4 : Int} {l5 : Int} {l6 : Int} {l7 : Int} {h : ms_M} (a_l4 : 0 ≤ l4) (b_l4 : l4 ≤ 4) (a_l5 : (-1) ≤ l5) (b_l5 : l5 ≤ 441) (a_l6 : (-1) ≤ l6) (b_l6 : l6 ≤ 441) (a_l7 : (-1) ≤ l7) (b_l7 : l7 ≤ 749) (V_h : VS_ h) (x_0 : h 34 1 + h 34 3 ≤ 1400000000) (x_1 : h 2 10 ≤ 45000000)  : Ok_ (qj_X0_readPlain_136 nn l4 l5 l6 l7 h) (QIR_ 1 1 (fun u r => (h 2 11 = 0 ∨ ¬ r 2 11 = 0) ∧ (h 2 10 ≤ r 2 10) ∧ (r 34 1 + r 34 3 + 12 * r 49 10 + 20 * h 2 10 ≤ h 34 1 + h 34 3 + 12 * h 49 10 + 20 * r 2 10 + (-18)) ∧ (r 2 10 ≤ h 2 10 + 1))) := by
  unfold qj_X0_readPlain_136
  have T1 := gF_2_3 V_h
  have T2 := gF_2_10 V_h
  have T3 := gF_2_11 V_h
  have T4 := gF_34_1 V_h
  have T5 := gF_34_3 V_h
  have T6 := gF_49_10 V_h
  refine ok_cVR (vf_X0_closeGiving hn (by omega) (by omega) (by omega) (by omega) (by omega) (by omega) (by omega) (by omega) V_h (by omega)) ?_; intro u6 E_u6 V_u6 R_u6
  have T7 : u6 2 3 = h 2 3 := (ff_X0_closeGiving nn) _ E_u6 2 3 rfl
  have T8 : u6 2 10 = h 2 10 := (ff_X0_closeGiving nn) _ E_u6 2 10 rfl
  have T9 : u6 2 11 = h 2 11 := (ff_X0_closeGiving nn) _ E_u6 2 11 rfl
  have T10 : u6 49 10 = h 49 10 := (ff_X0_closeGiving nn) _ E_u6 49 10 rfl
  have T11 := gF_34_1 V_u6
  have T12 := gF_34_3 V_u6
  exact ok_mI (vj_X0_readPlain_156 hn V_u6 (by omega) (by omega)) (fun _ _ V_r R_r => by have := gF_2_3 V_r; have := gF_2_10 V_r; have := gF_2_11 V_r; have := gF_34_1 V_r; have := gF_34_3 V_r; have := gF_49_10 V_r; omega)
set_option maxRecDepth 4000 in
theorem vj_X0_readPlain_126 {nn : Nat} (hn : 1000000 ≤ nn) {l3 : Int} {l4 : Int} {l5 : Int} {l6 : Int} {l7 : Int} {h : ms_M} (a_l3 : 0 ≤ l3) (b_l3 : l3 ≤ 50000000) (a_l4 : 0 ≤ l4) (b_l4 : l4 ≤ 4) (a_l5 : (-1) ≤ l5) (b_l5 : l5 ≤ 441) (a_l6 : (-1) ≤ l6) (b_l6 : l6 ≤ 441) (a_l7 : (-1) ≤ l7) (b_l7 : l7 ≤ 749) (V_h : VS_ h) (x_0 : h 34 1 + h 34 3 ≤ 1400000000) (x_1 : h 2 10 ≤ 45000000)  : Ok_ (qj_X0_readPlain_126 nn l3 l4 l5 l6 l7 h) (QIR_ 1 1 (fun u r => (h 2 11 = 0 ∨ ¬ r 2 11 = 0) ∧ (h 2 10 ≤ r 2 10) ∧ (r 34 1 + r 34 3 + 12 * r 49 10 + 20 * h 2 10 ≤ h 34 1 + h 34 3 + 12 * h 49 10 + 20 * r 2 10 + (-18)) ∧ (r 2 10 ≤ h 2 10 + 1))) := by
  unfold qj_X0_readPlain_126
  have T1 := gF_2_3 V_h
  have T2 := gF_2_10 V_h
  have T3 := gF_2_11 V_h
  have T4 := gF_34_1 V_h
  have T5 := gF_34_3 V_h
  have T6 := gF_49_10 V_h
  refine ok_cVR (vf_X9_tell hn (by omega) (by omega) (by omega) (by omega) V_h) ?_; intro u9 E_u9 V_u9 R_u9
  have T7 : u9 2 3 = h 2 3 := (ff_X9_tell nn) _ E_u9 2 3 rfl
  have T8 : u9 2 10 = h 2 10 := (ff_X9_tell nn) _ E_u9 2 10 rfl
  have T9 : u9 34 1 = h 34 1 := (ff_X9_tell nn) _ E_u9 34 1 rfl
  have T10 : u9 34 3 = h 34 3 := (ff_X9_tell nn) _ E_u9 34 3 rfl
  have T11 : u9 49 10 = h 49 10 := (ff_X9_tell nn) _ E_u9 49 10 rfl
  have T12 := gF_2_11 V_u9
  exact ok_mI (vj_X0_readPlain_136 hn (by omega) (by omega) (by omega) (by omega) (by omega) (by omega) (by omega) (by omega) V_u9 (by omega) (by omega)) (fun _ _ V_r R_r => by have := gF_2_3 V_r; have := gF_2_10 V_r; have := gF_2_11 V_r; have := gF_34_1 V_r; have := gF_34_3 V_r; have := gF_49_10 V_r; omega)
set_option maxRecDepth 4000 in
theorem vf_X0_readPlain {nn : Nat} (hn : 1000000 ≤ nn) {a1 : Int} {h : ms_M} (a_a1 : 1 ≤ a1) (b_a1 : a1 ≤ 43) (V_h : VS_ h) (x_0 : h 34 1 + h 34 3 + 12 * h 49 10 ≤ 20 * h 2 10 + 60100) (x_1 : h 2 10 ≤ 26000000)  : Ok_ (qf_X0_readPlain nn a1 h) (QIR_ 1 1 (fun u r => (h 2 11 = 0 ∨ ¬ r 2 11 = 0) ∧ (h 2 10 ≤ r 2 10) ∧ (r 34 1 + r 34 3 + 12 * r 49 10 + 20 * h 2 10 ≤ h 34 1 + h 34 3 + 12 * h 49 10 + 20 * r 2 10 + (-19)) ∧ (((h 2 11 = 0 ∧ h 2 10 < h 2 3) ∧ r 2 10 ≤ 8000000) ∨ (¬ (h 2 11 = 0 ∧ h 2 10 < h 2 3) ∧ r 2 10 ≤ h 2 10 + 2)))) := by
  unfold qf_X0_readPlain
  have T1 := gF_2_3 V_h
  have T2 := gF_2_10 V_h
  have T3 := gF_2_11 V_h
  have T4 := gF_34_1 V_h
  have T5 := gF_34_3 V_h
  have T6 := gF_49_10 V_h
  refine ok_xl ?_; intro h13 E_h13; have V_h13 : VS_ h13 := by rw [E_h13]; exact wF_49_18 V_h (by omega)
  have T7 : h13 2 3 = h 2 3 := by rw [E_h13]; exact up_n (by decide)
  have T8 : h13 2 10 = h 2 10 := by rw [E_h13]; exact up_n (by decide)
  have T9 : h13 2 11 = h 2 11 := by rw [E_h13]; exact up_n (by decide)
  have T10 : h13 34 1 = h 34 1 := by rw [E_h13]; exact up_n (by decide)
  have T11 : h13 34 3 = h 34 3 := by rw [E_h13]; exact up_n (by decide)
  have T12 : h13 49 10 = h 49 10 := by rw [E_h13]; exact up_n (by decide)
  refine ok_cVR (vf_X10_readWhole hn (by omega) (by omega) V_h13 (by omega) (by omega)) ?_; intro u16 E_u16 V_u16 R_u16
  have T13 : u16 2 3 = h13 2 3 := (ff_X10_readWhole nn) _ E_u16 2 3 rfl
  have T14 := gF_2_10 V_u16
  have T15 := gF_2_11 V_u16
  have T16 := gF_34_1 V_u16
  have T17 := gF_34_3 V_u16
  have T18 := gF_49_10 V_u16
  refine ok_cP (vf_X9_kind hn V_u16) ?_; intro u19 e_u19 a_u19 b_u19
  have T19 := lm_X9_kind e_u19
  refine ok_if ?_ ?_
  · intro C19
    refine ok_cVR (vf_X0_closeAlone hn (by omega) (by omega) V_u16 (by omega)) ?_; intro u21 E_u21 V_u21 R_u21
    have T21 : u21 2 3 = u16 2 3 := (ff_X0_closeAlone nn) _ E_u21 2 3 rfl
    have T22 : u21 2 10 = u16 2 10 := (ff_X0_closeAlone nn) _ E_u21 2 10 rfl
    have T23 : u21 49 10 = u16 49 10 := (ff_X0_closeAlone nn) _ E_u21 49 10 rfl
    have T24 := gF_2_11 V_u21
    have T25 := gF_34_1 V_u21
    have T26 := gF_34_3 V_u21
    exact ok_mI (vj_X0_readPlain_156 hn V_u21 (by omega) (by omega)) (fun _ _ V_r R_r => by have := gF_2_3 V_r; have := gF_2_10 V_r; have := gF_2_11 V_r; have := gF_34_1 V_r; have := gF_34_3 V_r; have := gF_49_10 V_r; omega)
  · intro C19
    have T27 := gF_49_11 V_u16
    have T28 := gF_49_12 V_u16
    have T29 := gF_49_13 V_u16
    have T30 := gF_49_14 V_u16
    refine ok_add (by omega) ?_; intro v34 e_v34
    refine ok_xl ?_; intro h35 E_h35; have V_h35 : VS_ h35 := by rw [E_h35]; exact wF_2_10 V_u16 (by omega)
    have T31 : h35 2 3 = u16 2 3 := by rw [E_h35]; exact up_n (by decide)
    have T32 : h35 2 11 = u16 2 11 := by rw [E_h35]; exact up_n (by decide)
    have T33 : h35 34 1 = u16 34 1 := by rw [E_h35]; exact up_n (by decide)
    have T34 : h35 34 3 = u16 34 3 := by rw [E_h35]; exact up_n (by decide)
    have T35 : h35 49 10 = u16 49 10 := by rw [E_h35]; exact up_n (by decide)
    have T36 : h35 49 12 = u16 49 12 := by rw [E_h35]; exact up_n (by decide)
    have T37 : h35 2 10 = v34 := by rw [E_h35]; exact up_s
    refine ok_cVR (vf_X10_readWhole hn (by omega) (by omega) V_h35 (by omega) (by omega)) ?_; intro u38 E_u38 V_u38 R_u38
    have T38 : u38 2 3 = h35 2 3 := (ff_X10_readWhole nn) _ E_u38 2 3 rfl
    have T39 := gF_2_10 V_u38
    have T40 := gF_2_11 V_u38
    have T41 := gF_34_1 V_u38
    have T42 := gF_34_3 V_u38
    have T43 := gF_49_10 V_u38
    refine ok_if ?_ ?_
    · intro C43
      exact ok_mI (vj_X0_readPlain_126 hn (by omega) (by omega) (by omega) (by omega) (by omega) (by omega) (by omega) (by omega) (by omega) (by omega) V_u38 (by omega) (by omega)) (fun _ _ V_r R_r => by have := gF_2_3 V_r; have := gF_2_10 V_r; have := gF_2_11 V_r; have := gF_34_1 V_r; have := gF_34_3 V_r; have := gF_49_10 V_r; omega)
    · intro C43
      have T45 := gF_49_12 V_u38
      refine ok_cP (vf_X4_fits hn rfl (by omega) (by omega) (by omega) (by omega) V_u38) ?_; intro u43 e_u43 a_u43 b_u43
      refine ok_if ?_ ?_
      · intro C45
        exact ok_mI (vj_X0_readPlain_136 hn (by omega) (by omega) (by omega) (by omega) (by omega) (by omega) (by omega) (by omega) V_u38 (by omega) (by omega)) (fun _ _ V_r R_r => by have := gF_2_3 V_r; have := gF_2_10 V_r; have := gF_2_11 V_r; have := gF_34_1 V_r; have := gF_34_3 V_r; have := gF_49_10 V_r; omega)
      · intro C45
        exact ok_mI (vj_X0_readPlain_126 hn (by omega) (by omega) (by omega) (by omega) (by omega) (by omega) (by omega) (by omega) (by omega) (by omega) V_u38 (by omega) (by omega)) (fun _ _ V_r R_r => by have := gF_2_3 V_r; have := gF_2_10 V_r; have := gF_2_11 V_r; have := gF_34_1 V_r; have := gF_34_3 V_r; have := gF_49_10 V_r; omega)
set_option maxRecDepth 4000 in
theorem vj_X0_readPrint_52 {nn : Nat} (hn : 1000000 ≤ nn) {h : ms_M} (V_h : VS_ h) (x_0 : h 34 1 + h 34 3 ≤ 1400000000) (x_1 : h 2 10 ≤ 45000000)  : Ok_ (qj_X0_readPrint_52 nn h) (QIR_ 1 1 (fun u r => (h 2 11 = 0 ∨ ¬ r 2 11 = 0) ∧ (h 2 10 ≤ r 2 10) ∧ (r 34 1 + r 34 3 + 12 * r 49 10 + 20 * h 2 10 ≤ h 34 1 + h 34 3 + 12 * h 49 10 + 20 * r 2 10 + (-39)) ∧ (r 2 10 ≤ h 2 10 + 2))) := by
  unfold qj_X0_readPrint_52
  have T1 := gF_2_3 V_h
  have T2 := gF_2_10 V_h
  have T3 := gF_2_11 V_h
  have T4 := gF_34_1 V_h
  have T5 := gF_34_3 V_h
  have T6 := gF_49_10 V_h
  refine ok_cVR (vf_X1_op hn (by omega) (by omega) V_h (by omega)) ?_; intro u3 E_u3 V_u3 R_u3
  have T7 : u3 2 3 = h 2 3 := (ff_X1_op nn) _ E_u3 2 3 rfl
  have T8 : u3 2 10 = h 2 10 := (ff_X1_op nn) _ E_u3 2 10 rfl
  have T9 : u3 2 11 = h 2 11 := (ff_X1_op nn) _ E_u3 2 11 rfl
  have T10 : u3 34 3 = h 34 3 := (ff_X1_op nn) _ E_u3 34 3 rfl
  have T11 : u3 49 10 = h 49 10 := (ff_X1_op nn) _ E_u3 49 10 rfl
  have T12 := gF_34_1 V_u3
  refine ok_cVR (vf_X1_pop hn (by omega) (by omega) V_u3 (by omega)) ?_; intro u6 E_u6 V_u6 R_u6
  have T13 : u6 2 3 = u3 2 3 := (ff_X1_pop nn) _ E_u6 2 3 rfl
  have T14 : u6 2 10 = u3 2 10 := (ff_X1_pop nn) _ E_u6 2 10 rfl
  have T15 : u6 2 11 = u3 2 11 := (ff_X1_pop nn) _ E_u6 2 11 rfl
  have T16 : u6 49 10 = u3 49 10 := (ff_X1_pop nn) _ E_u6 49 10 rfl
  have T17 : u6 34 1 = u3 34 1 := (ff_X1_pop nn) _ E_u6 34 1 rfl
  have T18 := gF_34_3 V_u6
  refine ok_add (by omega) ?_; intro v9 e_v9
  refine ok_xl ?_; intro h10 E_h10; have V_h10 : VS_ h10 := by rw [E_h10]; exact wF_2_10 V_u6 (by omega)
  have T19 : h10 2 3 = u6 2 3 := by rw [E_h10]; exact up_n (by decide)
  have T20 : h10 2 11 = u6 2 11 := by rw [E_h10]; exact up_n (by decide)
  have T21 : h10 49 10 = u6 49 10 := by rw [E_h10]; exact up_n (by decide)
  have T22 : h10 34 1 = u6 34 1 := by rw [E_h10]; exact up_n (by decide)
  have T23 : h10 34 3 = u6 34 3 := by rw [E_h10]; exact up_n (by decide)
  have T24 : h10 2 10 = v9 := by rw [E_h10]; exact up_s
  exact ok_rIR V_h10 (by omega) (by omega) (by omega)
set_option maxRecDepth 4000 in
theorem vf_X0_readPrint {nn : Nat} (hn : 1000000 ≤ nn) {a1 : Int} {h : ms_M} (a_a1 : 1 ≤ a1) (b_a1 : a1 ≤ 43) (V_h : VS_ h) (x_0 : h 34 1 + h 34 3 + 12 * h 49 10 ≤ 20 * h 2 10 + 60100) (x_1 : h 2 10 ≤ 26000000) (x_2 : (h 2 11 = 0 ∧ h 2 10 < h 2 3))  : Ok_ (qf_X0_readPrint nn a1 h) (QIR_ 1 1 (fun u r => (h 2 11 = 0 ∨ ¬ r 2 11 = 0) ∧ (h 2 10 ≤ r 2 10) ∧ (r 34 1 + r 34 3 + 12 * r 49 10 + 20 * h 2 10 ≤ h 34 1 + h 34 3 + 12 * h 49 10 + 20 * r 2 10 + (-79)) ∧ (r 2 10 ≤ 8000000))) := by
  unfold qf_X0_readPrint
  have T1 := gF_2_3 V_h
  have T2 := gF_2_10 V_h
  have T3 := gF_2_11 V_h
  have T4 := gF_34_1 V_h
  have T5 := gF_34_3 V_h
  have T6 := gF_49_10 V_h
  refine ok_add (by omega) ?_; intro v15 e_v15
  refine ok_xl ?_; intro h16 E_h16; have V_h16 : VS_ h16 := by rw [E_h16]; exact wF_2_10 V_h (by omega)
  have T7 : h16 2 3 = h 2 3 := by rw [E_h16]; exact up_n (by decide)
  have T8 : h16 2 11 = h 2 11 := by rw [E_h16]; exact up_n (by decide)
  have T9 : h16 34 1 = h 34 1 := by rw [E_h16]; exact up_n (by decide)
  have T10 : h16 34 3 = h 34 3 := by rw [E_h16]; exact up_n (by decide)
  have T11 : h16 49 10 = h 49 10 := by rw [E_h16]; exact up_n (by decide)
  have T12 : h16 2 10 = v15 := by rw [E_h16]; exact up_s
  refine ok_cVR (vf_X10_readWhole hn (by omega) (by omega) V_h16 (by omega) (by omega)) ?_; intro u19 E_u19 V_u19 R_u19
  have T13 : u19 2 3 = h16 2 3 := (ff_X10_readWhole nn) _ E_u19 2 3 rfl
  have T14 := gF_2_10 V_u19
  have T15 := gF_2_11 V_u19
  have T16 := gF_34_1 V_u19
  have T17 := gF_34_3 V_u19
  have T18 := gF_49_10 V_u19
  have T19 := gF_49_12 V_u19
  refine ok_cP (vf_X4_isNumber hn (by omega) (by omega) V_u19) ?_; intro u22 e_u22 a_u22 b_u22
  refine ok_if ?_ ?_
  · intro C19
    exact ok_mI (vj_X0_readPrint_52 hn V_u19 (by omega) (by omega)) (fun _ _ V_r R_r => by have := gF_2_3 V_r; have := gF_2_10 V_r; have := gF_2_11 V_r; have := gF_34_1 V_r; have := gF_34_3 V_r; have := gF_49_10 V_r; omega)
  · intro C19
    refine ok_cVR (vf_X9_tell hn (by omega) (by omega) (by omega) (by omega) V_u19) ?_; intro u25 E_u25 V_u25 R_u25
    have T21 : u25 2 3 = u19 2 3 := (ff_X9_tell nn) _ E_u25 2 3 rfl
    have T22 : u25 2 10 = u19 2 10 := (ff_X9_tell nn) _ E_u25 2 10 rfl
    have T23 : u25 34 1 = u19 34 1 := (ff_X9_tell nn) _ E_u25 34 1 rfl
    have T24 : u25 34 3 = u19 34 3 := (ff_X9_tell nn) _ E_u25 34 3 rfl
    have T25 : u25 49 10 = u19 49 10 := (ff_X9_tell nn) _ E_u25 49 10 rfl
    have T26 := gF_2_11 V_u25
    exact ok_mI (vj_X0_readPrint_52 hn V_u25 (by omega) (by omega)) (fun _ _ V_r R_r => by have := gF_2_3 V_r; have := gF_2_10 V_r; have := gF_2_11 V_r; have := gF_34_1 V_r; have := gF_34_3 V_r; have := gF_49_10 V_r; omega)
set_option maxRecDepth 4000 in
theorem vj_X0_readReturn_158 {nn : Nat} (hn : 1000000 ≤ nn) {h : ms_M} (V_h : VS_ h) (x_0 : h 34 1 + h 34 3 ≤ 1400000001) (x_1 : h 2 10 ≤ 45000000)  : Ok_ (qj_X0_readReturn_158 nn h) (QIR_ 0 0 (fun u r => (h 2 11 = 0 ∨ ¬ r 2 11 = 0) ∧ (h 2 10 ≤ r 2 10) ∧ (r 34 1 + r 34 3 + 12 * r 49 10 + 20 * h 2 10 ≤ h 34 1 + h 34 3 + 12 * h 49 10 + 20 * r 2 10 + (-20)) ∧ (r 2 10 ≤ h 2 10 + 1))) := by
  unfold qj_X0_readReturn_158
  have T1 := gF_2_3 V_h
  have T2 := gF_2_10 V_h
  have T3 := gF_2_11 V_h
  have T4 := gF_34_1 V_h
  have T5 := gF_34_3 V_h
  have T6 := gF_49_10 V_h
  refine ok_add (by omega) ?_; intro v3 e_v3
  refine ok_xl ?_; intro h4 E_h4; have V_h4 : VS_ h4 := by rw [E_h4]; exact wF_2_10 V_h (by omega)
  have T7 : h4 2 3 = h 2 3 := by rw [E_h4]; exact up_n (by decide)
  have T8 : h4 2 11 = h 2 11 := by rw [E_h4]; exact up_n (by decide)
  have T9 : h4 34 1 = h 34 1 := by rw [E_h4]; exact up_n (by decide)
  have T10 : h4 34 3 = h 34 3 := by rw [E_h4]; exact up_n (by decide)
  have T11 : h4 49 10 = h 49 10 := by rw [E_h4]; exact up_n (by decide)
  have T12 : h4 2 10 = v3 := by rw [E_h4]; exact up_s
  exact ok_rIR V_h4 (by omega) (by omega) (by omega)
set_option maxRecDepth 4000 in
theorem vj_X0_readReturn_147 {nn : Nat} (hn : 1000000 ≤ nn) {s0 : Int} {h : ms_M} (a_s0 : 172 ≤ s0) (b_s0 : s0 ≤ 176) (V_h : VS_ h) (x_0 : h 34 1 + h 34 3 ≤ 1400000000) (x_1 : h 2 10 ≤ 45000000)  : Ok_ (qj_X0_readReturn_147 nn s0 h) (QIR_ 0 0 (fun u r => (h 2 11 = 0 ∨ ¬ r 2 11 = 0) ∧ (h 2 10 ≤ r 2 10) ∧ (r 34 1 + r 34 3 + 12 * r 49 10 + 20 * h 2 10 ≤ h 34 1 + h 34 3 + 12 * h 49 10 + 20 * r 2 10 + (-19)) ∧ (r 2 10 ≤ h 2 10 + 1))) := by
  unfold qj_X0_readReturn_147
  have T1 := gF_2_3 V_h
  have T2 := gF_2_10 V_h
  have T3 := gF_2_11 V_h
  have T4 := gF_34_1 V_h
  have T5 := gF_34_3 V_h
  have T6 := gF_49_10 V_h
  refine ok_cVR (vf_X1_op hn (by omega) (by omega) V_h (by omega)) ?_; intro u6 E_u6 V_u6 R_u6
  have T7 : u6 2 3 = h 2 3 := (ff_X1_op nn) _ E_u6 2 3 rfl
  have T8 : u6 2 10 = h 2 10 := (ff_X1_op nn) _ E_u6 2 10 rfl
  have T9 : u6 2 11 = h 2 11 := (ff_X1_op nn) _ E_u6 2 11 rfl
  have T10 : u6 34 3 = h 34 3 := (ff_X1_op nn) _ E_u6 34 3 rfl
  have T11 : u6 49 10 = h 49 10 := (ff_X1_op nn) _ E_u6 49 10 rfl
  have T12 := gF_34_1 V_u6
  refine ok_cVR (vf_X1_pop hn (by omega) (by omega) V_u6 (by omega)) ?_; intro u9 E_u9 V_u9 R_u9
  have T13 : u9 2 3 = u6 2 3 := (ff_X1_pop nn) _ E_u9 2 3 rfl
  have T14 : u9 2 10 = u6 2 10 := (ff_X1_pop nn) _ E_u9 2 10 rfl
  have T15 : u9 2 11 = u6 2 11 := (ff_X1_pop nn) _ E_u9 2 11 rfl
  have T16 : u9 49 10 = u6 49 10 := (ff_X1_pop nn) _ E_u9 49 10 rfl
  have T17 : u9 34 1 = u6 34 1 := (ff_X1_pop nn) _ E_u9 34 1 rfl
  have T18 := gF_34_3 V_u9
  exact ok_mI (vj_X0_readReturn_158 hn V_u9 (by omega) (by omega)) (fun _ _ V_r R_r => by have := gF_2_3 V_r; have := gF_2_10 V_r; have := gF_2_11 V_r; have := gF_34_1 V_r; have := gF_34_3 V_r; have := gF_49_10 V_r; omega)
set_option maxRecDepth 4000 in
theorem vj_X0_readReturn_124 {nn : Nat} (hn : 1000000 ≤ nn) {h : ms_M} (V_h : VS_ h) (x_0 : h 34 1 + h 34 3 ≤ 1400000000) (x_1 : h 2 10 ≤ 45000000)  : Ok_ (qj_X0_readReturn_124 nn h) (QIR_ 0 0 (fun u r => (h 2 11 = 0 ∨ ¬ r 2 11 = 0) ∧ (h 2 10 ≤ r 2 10) ∧ (r 34 1 + r 34 3 + 12 * r 49 10 + 20 * h 2 10 ≤ h 34 1 + h 34 3 + 12 * h 49 10 + 20 * r 2 10 + (-19)) ∧ (r 2 10 ≤ h 2 10 + 1))) := by
  unfold qj_X0_readReturn_124
  have T1 := gF_2_3 V_h
  have T2 := gF_2_10 V_h
  have T3 := gF_2_11 V_h
  have T4 := gF_34_1 V_h
  have T5 := gF_34_3 V_h
  have T6 := gF_49_10 V_h
  have T7 := gF_33_8 V_h
  refine ok_cP (vf_X4_isNumber hn (by omega) (by omega) V_h) ?_; intro u12 e_u12 a_u12 b_u12
  refine ok_if ?_ ?_
  · intro C7
    exact ok_mI (vj_X0_readReturn_147 hn (by omega) (by omega) V_h (by omega) (by omega)) (fun _ _ V_r R_r => by have := gF_2_3 V_r; have := gF_2_10 V_r; have := gF_2_11 V_r; have := gF_34_1 V_r; have := gF_34_3 V_r; have := gF_49_10 V_r; omega)
  · intro C7
    exact ok_mI (vj_X0_readReturn_147 hn (by omega) (by omega) V_h (by omega) (by omega)) (fun _ _ V_r R_r => by have := gF_2_3 V_r; have := gF_2_10 V_r; have := gF_2_11 V_r; have := gF_34_1 V_r; have := gF_34_3 V_r; have := gF_49_10 V_r; omega)
set_option maxRecDepth 4000 in
theorem vj_X0_readReturn_68 {nn : Nat} (hn : 1000000 ≤ nn) {l1 : Int} {l2 : Int} {l3 : Int} {h : ms_M} (a_l1 : 1 ≤ l1) (b_l1 : l1 ≤ 43) (a_l2 : 0 ≤ l2) (b_l2 : l2 ≤ 50000000) (a_l3 : 0 ≤ l3) (b_l3 : l3 ≤ 1) (V_h : VS_ h) (x_0 : h 34 1 + h 34 3 + 12 * h 49 10 ≤ 20 * h 2 10 + 60100 + 20) (x_1 : h 2 10 ≤ 26000010)  : Ok_ (qj_X0_readReturn_68 nn l1 l2 l3 h) (QIR_ 0 0 (fun u r => (h 2 11 = 0 ∨ ¬ r 2 11 = 0) ∧ (h 2 10 ≤ r 2 10) ∧ (r 34 1 + r 34 3 + 12 * r 49 10 + 20 * h 2 10 ≤ h 34 1 + h 34 3 + 12 * h 49 10 + 20 * r 2 10 + (-19)) ∧ (((h 2 11 = 0 ∧ h 2 10 < h 2 3) ∧ r 2 10 ≤ 7900000) ∨ (¬ (h 2 11 = 0 ∧ h 2 10 < h 2 3) ∧ r 2 10 ≤ h 2 10 + 3)))) := by
  unfold qj_X0_readReturn_68
  have T1 := gF_2_3 V_h
  have T2 := gF_2_10 V_h
  have T3 := gF_2_11 V_h
  have T4 := gF_34_1 V_h
  have T5 := gF_34_3 V_h
  have T6 := gF_49_10 V_h
  refine ok_if ?_ ?_
  · intro C6
    refine ok_cVR (vf_X10_readWhole hn (by omega) (by omega) V_h (by omega) (by omega)) ?_; intro u16 E_u16 V_u16 R_u16
    have T8 : u16 2 3 = h 2 3 := (ff_X10_readWhole nn) _ E_u16 2 3 rfl
    have T9 := gF_2_10 V_u16
    have T10 := gF_2_11 V_u16
    have T11 := gF_34_1 V_u16
    have T12 := gF_34_3 V_u16
    have T13 := gF_49_10 V_u16
    have T14 := gF_49_12 V_u16
    have T15 := gF_33_8 V_u16
    refine ok_cP (vf_X4_fits hn rfl (by omega) (by omega) (by omega) (by omega) V_u16) ?_; intro u22 e_u22 a_u22 b_u22
    refine ok_if ?_ ?_
    · intro C15
      exact ok_mI (vj_X0_readReturn_124 hn V_u16 (by omega) (by omega)) (fun _ _ V_r R_r => by have := gF_2_3 V_r; have := gF_2_10 V_r; have := gF_2_11 V_r; have := gF_34_1 V_r; have := gF_34_3 V_r; have := gF_49_10 V_r; omega)
    · intro C15
      refine ok_cVR (vf_X9_tell hn (by omega) (by omega) (by omega) (by omega) V_u16) ?_; intro u25 E_u25 V_u25 R_u25
      have T17 : u25 2 3 = u16 2 3 := (ff_X9_tell nn) _ E_u25 2 3 rfl
      have T18 : u25 2 10 = u16 2 10 := (ff_X9_tell nn) _ E_u25 2 10 rfl
      have T19 : u25 34 1 = u16 34 1 := (ff_X9_tell nn) _ E_u25 34 1 rfl
      have T20 : u25 34 3 = u16 34 3 := (ff_X9_tell nn) _ E_u25 34 3 rfl
      have T21 : u25 49 10 = u16 49 10 := (ff_X9_tell nn) _ E_u25 49 10 rfl
      have T22 := gF_2_11 V_u25
      exact ok_mI (vj_X0_readReturn_124 hn V_u25 (by omega) (by omega)) (fun _ _ V_r R_r => by have := gF_2_3 V_r; have := gF_2_10 V_r; have := gF_2_11 V_r; have := gF_34_1 V_r; have := gF_34_3 V_r; have := gF_49_10 V_r; omega)
  · intro C6
    refine ok_cVR (vf_X1_op hn (by omega) (by omega) V_h (by omega)) ?_; intro u29 E_u29 V_u29 R_u29
    have T23 : u29 2 3 = h 2 3 := (ff_X1_op nn) _ E_u29 2 3 rfl
    have T24 : u29 2 10 = h 2 10 := (ff_X1_op nn) _ E_u29 2 10 rfl
    have T25 : u29 2 11 = h 2 11 := (ff_X1_op nn) _ E_u29 2 11 rfl
    have T26 : u29 34 3 = h 34 3 := (ff_X1_op nn) _ E_u29 34 3 rfl
    have T27 : u29 49 10 = h 49 10 := (ff_X1_op nn) _ E_u29 49 10 rfl
    have T28 := gF_34_1 V_u29
    exact ok_mI (vj_X0_readReturn_158 hn V_u29 (by omega) (by omega)) (fun _ _ V_r R_r => by have := gF_2_3 V_r; have := gF_2_10 V_r; have := gF_2_11 V_r; have := gF_34_1 V_r; have := gF_34_3 V_r; have := gF_49_10 V_r; omega)
set_option maxRecDepth 4000 in
theorem vj_X0_readReturn_55 {nn : Nat} (hn : 1000000 ≤ nn) {l1 : Int} {l2 : Int} {l3 : Int} {s0 : Int} {s1 : Int} {h : ms_M} (a_l1 : 1 ≤ l1) (b_l1 : l1 ≤ 43) (a_l2 : 0 ≤ l2) (b_l2 : l2 ≤ 50000000) (a_l3 : 0 ≤ l3) (b_l3 : l3 ≤ 1) (a_s0 : 0 ≤ s0) (b_s0 : s0 ≤ 1) (a_s1 : 0 ≤ s1) (b_s1 : s1 ≤ 1) (V_h : VS_ h) (x_0 : h 34 1 + h 34 3 + 12 * h 49 10 ≤ 20 * h 2 10 + 60100 + 20) (x_1 : h 2 10 ≤ 26000010)  : Ok_ (qj_X0_readReturn_55 nn l1 l2 l3 s0 s1 h) (QIR_ 0 0 (fun u r => (h 2 11 = 0 ∨ ¬ r 2 11 = 0) ∧ (h 2 10 ≤ r 2 10) ∧ (r 34 1 + r 34 3 + 12 * r 49 10 + 20 * h 2 10 ≤ h 34 1 + h 34 3 + 12 * h 49 10 + 20 * r 2 10 + (-19)) ∧ (((h 2 11 = 0 ∧ h 2 10 < h 2 3) ∧ r 2 10 ≤ 7900000) ∨ (¬ (h 2 11 = 0 ∧ h 2 10 < h 2 3) ∧ r 2 10 ≤ h 2 10 + 3)))) := by
  unfold qj_X0_readReturn_55
  have T1 := gF_2_3 V_h
  have T2 := gF_2_10 V_h
  have T3 := gF_2_11 V_h
  have T4 := gF_34_1 V_h
  have T5 := gF_34_3 V_h
  have T6 := gF_49_10 V_h
  refine ok_if ?_ ?_
  · intro C6
    exact ok_mI (vj_X0_readReturn_68 hn (by omega) (by omega) (by omega) (by omega) (by omega) (by omega) V_h (by omega) (by omega)) (fun _ _ V_r R_r => by have := gF_2_3 V_r; have := gF_2_10 V_r; have := gF_2_11 V_r; have := gF_34_1 V_r; have := gF_34_3 V_r; have := gF_49_10 V_r; omega)
  · intro C6
    refine ok_cVR (vf_X9_tell hn (by omega) (by omega) (by omega) (by omega) V_h) ?_; intro u33 E_u33 V_u33 R_u33
    have T8 : u33 2 3 = h 2 3 := (ff_X9_tell nn) _ E_u33 2 3 rfl
    have T9 : u33 2 10 = h 2 10 := (ff_X9_tell nn) _ E_u33 2 10 rfl
    have T10 : u33 34 1 = h 34 1 := (ff_X9_tell nn) _ E_u33 34 1 rfl
    have T11 : u33 34 3 = h 34 3 := (ff_X9_tell nn) _ E_u33 34 3 rfl
    have T12 : u33 49 10 = h 49 10 := (ff_X9_tell nn) _ E_u33 49 10 rfl
    have T13 := gF_2_11 V_u33
    exact ok_mI (vj_X0_readReturn_68 hn (by omega) (by omega) (by omega) (by omega) (by omega) (by omega) V_u33 (by omega) (by omega)) (fun _ _ V_r R_r => by have := gF_2_3 V_r; have := gF_2_10 V_r; have := gF_2_11 V_r; have := gF_34_1 V_r; have := gF_34_3 V_r; have := gF_49_10 V_r; omega)
set_option maxRecDepth 4000 in
theorem vj_X0_readReturn_38 {nn : Nat} (hn : 1000000 ≤ nn) {l1 : Int} {l2 : Int} {s0 : Int} {h : ms_M} (a_l1 : 1 ≤ l1) (b_l1 : l1 ≤ 43) (a_l2 : 0 ≤ l2) (b_l2 : l2 ≤ 50000000) (a_s0 : 0 ≤ s0) (b_s0 : s0 ≤ 1) (V_h : VS_ h) (x_0 : h 34 1 + h 34 3 + 12 * h 49 10 ≤ 20 * h 2 10 + 60100 + 20) (x_1 : h 2 10 ≤ 26000010)  : Ok_ (qj_X0_readReturn_38 nn l1 l2 s0 h) (QIR_ 0 0 (fun u r => (h 2 11 = 0 ∨ ¬ r 2 11 = 0) ∧ (h 2 10 ≤ r 2 10) ∧ (r 34 1 + r 34 3 + 12 * r 49 10 + 20 * h 2 10 ≤ h 34 1 + h 34 3 + 12 * h 49 10 + 20 * r 2 10 + (-19)) ∧ (((h 2 11 = 0 ∧ h 2 10 < h 2 3) ∧ r 2 10 ≤ 7900000) ∨ (¬ (h 2 11 = 0 ∧ h 2 10 < h 2 3) ∧ r 2 10 ≤ h 2 10 + 3)))) := by
  unfold qj_X0_readReturn_38
  have T1 := gF_2_3 V_h
  have T2 := gF_2_10 V_h
  have T3 := gF_2_11 V_h
  have T4 := gF_34_1 V_h
  have T5 := gF_34_3 V_h
  have T6 := gF_49_10 V_h
  have T7 := gF_33_8 V_h
  refine ok_if ?_ ?_
  · intro C7
    exact ok_mI (vj_X0_readReturn_55 hn (by omega) (by omega) (by omega) (by omega) (by omega) (by omega) (by omega) (by omega) (by omega) (by omega) V_h (by omega) (by omega)) (fun _ _ V_r R_r => by have := gF_2_3 V_r; have := gF_2_10 V_r; have := gF_2_11 V_r; have := gF_34_1 V_r; have := gF_34_3 V_r; have := gF_49_10 V_r; omega)
  · intro C7
    exact ok_mI (vj_X0_readReturn_55 hn (by omega) (by omega) (by omega) (by omega) (by omega) (by omega) (by omega) (by omega) (by omega) (by omega) V_h (by omega) (by omega)) (fun _ _ V_r R_r => by have := gF_2_3 V_r; have := gF_2_10 V_r; have := gF_2_11 V_r; have := gF_34_1 V_r; have := gF_34_3 V_r; have := gF_49_10 V_r; omega)
set_option maxRecDepth 4000 in
theorem vf_X0_readReturn {nn : Nat} (hn : 1000000 ≤ nn) {a1 : Int} {h : ms_M} (a_a1 : 1 ≤ a1) (b_a1 : a1 ≤ 43) (V_h : VS_ h) (x_0 : h 34 1 + h 34 3 + 12 * h 49 10 ≤ 20 * h 2 10 + 60100) (x_1 : h 2 10 ≤ 26000000) (x_2 : (h 2 11 = 0 ∧ h 2 10 < h 2 3))  : Ok_ (qf_X0_readReturn nn a1 h) (QIR_ 0 0 (fun u r => (h 2 11 = 0 ∨ ¬ r 2 11 = 0) ∧ (h 2 10 ≤ r 2 10) ∧ (r 34 1 + r 34 3 + 12 * r 49 10 + 20 * h 2 10 ≤ h 34 1 + h 34 3 + 12 * h 49 10 + 20 * r 2 10 + (-39)) ∧ (r 2 10 ≤ 8000000))) := by
  unfold qf_X0_readReturn
  have T1 := gF_2_3 V_h
  have T2 := gF_2_10 V_h
  have T3 := gF_2_11 V_h
  have T4 := gF_34_1 V_h
  have T5 := gF_34_3 V_h
  have T6 := gF_49_10 V_h
  refine ok_add (by omega) ?_; intro v41 e_v41
  refine ok_xl ?_; intro h42 E_h42; have V_h42 : VS_ h42 := by rw [E_h42]; exact wF_2_10 V_h (by omega)
  have T7 : h42 2 3 = h 2 3 := by rw [E_h42]; exact up_n (by decide)
  have T8 : h42 2 11 = h 2 11 := by rw [E_h42]; exact up_n (by decide)
  have T9 : h42 34 1 = h 34 1 := by rw [E_h42]; exact up_n (by decide)
  have T10 : h42 34 3 = h 34 3 := by rw [E_h42]; exact up_n (by decide)
  have T11 : h42 49 10 = h 49 10 := by rw [E_h42]; exact up_n (by decide)
  have T12 : h42 2 10 = v41 := by rw [E_h42]; exact up_s
  refine ok_cP (vf_X9_kind hn V_h42) ?_; intro u45 e_u45 a_u45 b_u45
  have T13 := lm_X9_kind e_u45
  refine ok_if ?_ ?_
  · intro C13
    exact ok_mI (vj_X0_readReturn_38 hn (by omega) (by omega) (by omega) (by omega) (by omega) (by omega) V_h42 (by omega) (by omega)) (fun _ _ V_r R_r => by have := gF_2_3 V_r; have := gF_2_10 V_r; have := gF_2_11 V_r; have := gF_34_1 V_r; have := gF_34_3 V_r; have := gF_49_10 V_r; omega)
  · intro C13
    exact ok_mI (vj_X0_readReturn_38 hn (by omega) (by omega) (by omega) (by omega) (by omega) (by omega) V_h42 (by omega) (by omega)) (fun _ _ V_r R_r => by have := gF_2_3 V_r; have := gF_2_10 V_r; have := gF_2_11 V_r; have := gF_34_1 V_r; have := gF_34_3 V_r; have := gF_49_10 V_r; omega)
set_option maxRecDepth 4000 in
theorem vj_X0_readThrow_57 {nn : Nat} (hn : 1000000 ≤ nn) {h : ms_M} (V_h : VS_ h) (x_0 : h 34 1 + h 34 3 ≤ 1400000000) (x_1 : h 2 10 ≤ 45000000)  : Ok_ (qj_X0_readThrow_57 nn h) (QIR_ 0 0 (fun u r => (h 2 11 = 0 ∨ ¬ r 2 11 = 0) ∧ (h 2 10 ≤ r 2 10) ∧ (r 34 1 + r 34 3 + 12 * r 49 10 + 20 * h 2 10 ≤ h 34 1 + h 34 3 + 12 * h 49 10 + 20 * r 2 10 + (-19)) ∧ (r 2 10 ≤ h 2 10 + 1))) := by
  unfold qj_X0_readThrow_57
  have T1 := gF_2_3 V_h
  have T2 := gF_2_10 V_h
  have T3 := gF_2_11 V_h
  have T4 := gF_34_1 V_h
  have T5 := gF_34_3 V_h
  have T6 := gF_49_10 V_h
  refine ok_cVR (vf_X1_op hn (by omega) (by omega) V_h (by omega)) ?_; intro u3 E_u3 V_u3 R_u3
  have T7 : u3 2 3 = h 2 3 := (ff_X1_op nn) _ E_u3 2 3 rfl
  have T8 : u3 2 10 = h 2 10 := (ff_X1_op nn) _ E_u3 2 10 rfl
  have T9 : u3 2 11 = h 2 11 := (ff_X1_op nn) _ E_u3 2 11 rfl
  have T10 : u3 34 3 = h 34 3 := (ff_X1_op nn) _ E_u3 34 3 rfl
  have T11 : u3 49 10 = h 49 10 := (ff_X1_op nn) _ E_u3 49 10 rfl
  have T12 := gF_34_1 V_u3
  refine ok_cVR (vf_X1_pop hn (by omega) (by omega) V_u3 (by omega)) ?_; intro u6 E_u6 V_u6 R_u6
  have T13 : u6 2 3 = u3 2 3 := (ff_X1_pop nn) _ E_u6 2 3 rfl
  have T14 : u6 2 10 = u3 2 10 := (ff_X1_pop nn) _ E_u6 2 10 rfl
  have T15 : u6 2 11 = u3 2 11 := (ff_X1_pop nn) _ E_u6 2 11 rfl
  have T16 : u6 49 10 = u3 49 10 := (ff_X1_pop nn) _ E_u6 49 10 rfl
  have T17 : u6 34 1 = u3 34 1 := (ff_X1_pop nn) _ E_u6 34 1 rfl
  have T18 := gF_34_3 V_u6
  refine ok_add (by omega) ?_; intro v9 e_v9
  refine ok_xl ?_; intro h10 E_h10; have V_h10 : VS_ h10 := by rw [E_h10]; exact wF_2_10 V_u6 (by omega)
  have T19 : h10 2 3 = u6 2 3 := by rw [E_h10]; exact up_n (by decide)
  have T20 : h10 2 11 = u6 2 11 := by rw [E_h10]; exact up_n (by decide)
  have T21 : h10 49 10 = u6 49 10 := by rw [E_h10]; exact up_n (by decide)
  have T22 : h10 34 1 = u6 34 1 := by rw [E_h10]; exact up_n (by decide)
  have T23 : h10 34 3 = u6 34 3 := by rw [E_h10]; exact up_n (by decide)
  have T24 : h10 2 10 = v9 := by rw [E_h10]; exact up_s
  exact ok_rIR V_h10 (by omega) (by omega) (by omega)
set_option maxRecDepth 4000 in
theorem vf_X0_readThrow {nn : Nat} (hn : 1000000 ≤ nn) {a1 : Int} {h : ms_M} (a_a1 : 1 ≤ a1) (b_a1 : a1 ≤ 43) (V_h : VS_ h) (x_0 : h 34 1 + h 34 3 + 12 * h 49 10 ≤ 20 * h 2 10 + 60100) (x_1 : h 2 10 ≤ 26000000) (x_2 : (h 2 11 = 0 ∧ h 2 10 < h 2 3))  : Ok_ (qf_X0_readThrow nn a1 h) (QIR_ 0 0 (fun u r => (h 2 11 = 0 ∨ ¬ r 2 11 = 0) ∧ (h 2 10 ≤ r 2 10) ∧ (r 34 1 + r 34 3 + 12 * r 49 10 + 20 * h 2 10 ≤ h 34 1 + h 34 3 + 12 * h 49 10 + 20 * r 2 10 + (-39)) ∧ (r 2 10 ≤ 8000000))) := by
  unfold qf_X0_readThrow
  have T1 := gF_2_3 V_h
  have T2 := gF_2_10 V_h
  have T3 := gF_2_11 V_h
  have T4 := gF_34_1 V_h
  have T5 := gF_34_3 V_h
  have T6 := gF_49_10 V_h
  refine ok_add (by omega) ?_; intro v15 e_v15
  refine ok_xl ?_; intro h16 E_h16; have V_h16 : VS_ h16 := by rw [E_h16]; exact wF_2_10 V_h (by omega)
  have T7 : h16 2 3 = h 2 3 := by rw [E_h16]; exact up_n (by decide)
  have T8 : h16 2 11 = h 2 11 := by rw [E_h16]; exact up_n (by decide)
  have T9 : h16 34 1 = h 34 1 := by rw [E_h16]; exact up_n (by decide)
  have T10 : h16 34 3 = h 34 3 := by rw [E_h16]; exact up_n (by decide)
  have T11 : h16 49 10 = h 49 10 := by rw [E_h16]; exact up_n (by decide)
  have T12 : h16 2 10 = v15 := by rw [E_h16]; exact up_s
  refine ok_cVR (vf_X10_readWhole hn (by omega) (by omega) V_h16 (by omega) (by omega)) ?_; intro u19 E_u19 V_u19 R_u19
  have T13 : u19 2 3 = h16 2 3 := (ff_X10_readWhole nn) _ E_u19 2 3 rfl
  have T14 := gF_2_10 V_u19
  have T15 := gF_2_11 V_u19
  have T16 := gF_34_1 V_u19
  have T17 := gF_34_3 V_u19
  have T18 := gF_49_10 V_u19
  have T19 := gF_49_12 V_u19
  refine ok_cP (vf_X4_fits hn rfl (by omega) (by omega) (by omega) (by omega) V_u19) ?_; intro u24 e_u24 a_u24 b_u24
  refine ok_if ?_ ?_
  · intro C19
    exact ok_mI (vj_X0_readThrow_57 hn V_u19 (by omega) (by omega)) (fun _ _ V_r R_r => by have := gF_2_3 V_r; have := gF_2_10 V_r; have := gF_2_11 V_r; have := gF_34_1 V_r; have := gF_34_3 V_r; have := gF_49_10 V_r; omega)
  · intro C19
    refine ok_cVR (vf_X9_tell hn (by omega) (by omega) (by omega) (by omega) V_u19) ?_; intro u27 E_u27 V_u27 R_u27
    have T21 : u27 2 3 = u19 2 3 := (ff_X9_tell nn) _ E_u27 2 3 rfl
    have T22 : u27 2 10 = u19 2 10 := (ff_X9_tell nn) _ E_u27 2 10 rfl
    have T23 : u27 34 1 = u19 34 1 := (ff_X9_tell nn) _ E_u27 34 1 rfl
    have T24 : u27 34 3 = u19 34 3 := (ff_X9_tell nn) _ E_u27 34 3 rfl
    have T25 : u27 49 10 = u19 49 10 := (ff_X9_tell nn) _ E_u27 49 10 rfl
    have T26 := gF_2_11 V_u27
    exact ok_mI (vj_X0_readThrow_57 hn V_u27 (by omega) (by omega)) (fun _ _ V_r R_r => by have := gF_2_3 V_r; have := gF_2_10 V_r; have := gF_2_11 V_r; have := gF_34_1 V_r; have := gF_34_3 V_r; have := gF_49_10 V_r; omega)
set_option maxRecDepth 4000 in
theorem vf_X0_checkTwice {nn : Nat} (hn : 1000000 ≤ nn) {a1 : Int} {h : ms_M} (a_a1 : 0 ≤ a1) (b_a1 : a1 ≤ 50000003) (V_h : VS_ h)  : Ok_ (qf_X0_checkTwice nn a1 h) (QVR_ (fun r => (h 2 11 = 0 ∨ ¬ r 2 11 = 0))) := by
  unfold qf_X0_checkTwice
  have T1 := gF_2_11 V_h
  refine ok_cP (vf_X9_valueAt hn (by omega) (by omega) V_h) ?_; intro u4 e_u4 a_u4 b_u4
  refine ok_cP (vf_X1_localOf hn (by omega) (by omega) V_h) ?_; intro u6 e_u6 a_u6 b_u6
  refine ok_if ?_ ?_
  · intro C1
    exact ok_rVR V_h (by omega)
  · intro C1
    refine ok_cVR (vf_X9_tell hn (by omega) (by omega) (by omega) (by omega) V_h) ?_; intro u9 E_u9 V_u9 R_u9
    have T3 := gF_2_11 V_u9
    exact ok_rVR V_u9 (by omega)
set_option maxRecDepth 4000 in
theorem vj_X1_addHandler_76 {nn : Nat} (hn : 1000000 ≤ nn) {l3 : Int} {h : ms_M} (a_l3 : (-1) ≤ l3) (b_l3 : l3 ≤ 341) (V_h : VS_ h) (x_0 : h 34 1 + h 34 3 ≤ 1500000810)  : Ok_ (qj_X1_addHandler_76 nn l3 h) (QVR_ (fun r => (r 34 1 + r 34 3 ≤ h 34 1 + h 34 3 + 1))) := by
  unfold qj_X1_addHandler_76
  have T1 := gF_34_1 V_h
  have T2 := gF_34_3 V_h
  refine ok_cVR (vf_X1_push hn (by omega) (by omega) V_h (by omega)) ?_; intro u2 E_u2 V_u2 R_u2
  have T3 : u2 34 1 = h 34 1 := (ff_X1_push nn) _ E_u2 34 1 rfl
  have T4 := gF_34_3 V_u2
  refine ok_cI (vf_X1_slotOfFrame hn (by omega) (by omega) V_u2) ?_; intro u5 E_u5 V_u5 a_u5 b_u5
  have T5 : u5.2 34 1 = u2 34 1 := (ff_X1_slotOfFrame nn) _ E_u5 34 1 rfl
  have T6 : u5.2 34 3 = u2 34 3 := (ff_X1_slotOfFrame nn) _ E_u5 34 3 rfl
  have T7 := gF_34_7 V_u5
  refine ok_cV (vf_X1_fillFrame hn (by omega) (by omega) (by omega) (by omega) (by omega) (by omega) V_u5) ?_; intro u9 E_u9 V_u9
  have T8 : u9 34 1 = u5.2 34 1 := (ff_X1_fillFrame nn) _ E_u9 34 1 rfl
  have T9 : u9 34 3 = u5.2 34 3 := (ff_X1_fillFrame nn) _ E_u9 34 3 rfl
  exact ok_rVR V_u9 (by omega)
set_option maxRecDepth 4000 in
theorem vf_X1_addHandler {nn : Nat} (hn : 1000000 ≤ nn) {a1 : Int} {a2 : Int} {a3 : Int} {h : ms_M} (a_a1 : 0 ≤ a1) (b_a1 : a1 ≤ 1600000000) (a_a2 : 0 ≤ a2) (b_a2 : a2 ≤ 1600000000) (a_a3 : (-1) ≤ a3) (b_a3 : a3 ≤ 341) (V_h : VS_ h) (x_0 : h 34 1 + h 34 3 ≤ 1500000800)  : Ok_ (qf_X1_addHandler nn a1 a2 a3 h) (QVR_ (fun r => (r 34 1 + r 34 3 ≤ h 34 1 + h 34 3 + 1))) := by
  unfold qf_X1_addHandler
  have T1 := gF_34_1 V_h
  have T2 := gF_34_3 V_h
  have T3 := gF_34_10 V_h
  refine ok_if ?_ ?_
  · intro C3
    refine ok_mul (by omega) ?_; intro v12 e_v12
    refine ok_wA (by omega) ?_; intro h14 E_h14; have V_h14 : VS_ h14 := by rw [E_h14]; exact wA_39 V_h (by omega)
    have T5 : h14 34 1 = h 34 1 := by rw [E_h14]; exact up_n (fun z => absurd z.1 (by decide))
    have T6 : h14 34 3 = h 34 3 := by rw [E_h14]; exact up_n (fun z => absurd z.1 (by decide))
    have T7 : h14 34 10 = h 34 10 := by rw [E_h14]; exact up_n (fun z => absurd z.1 (by decide))
    refine ok_add (by omega) ?_; intro v16 e_v16
    refine ok_wA (by omega) ?_; intro h17 E_h17; have V_h17 : VS_ h17 := by rw [E_h17]; exact wA_39 V_h14 (by omega)
    have T8 : h17 34 1 = h14 34 1 := by rw [E_h17]; exact up_n (fun z => absurd z.1 (by decide))
    have T9 : h17 34 3 = h14 34 3 := by rw [E_h17]; exact up_n (fun z => absurd z.1 (by decide))
    have T10 : h17 34 10 = h14 34 10 := by rw [E_h17]; exact up_n (fun z => absurd z.1 (by decide))
    refine ok_add (by omega) ?_; intro v19 e_v19
    refine ok_wA (by omega) ?_; intro h21 E_h21; have V_h21 : VS_ h21 := by rw [E_h21]; exact wA_39 V_h17 (by omega)
    have T11 : h21 34 1 = h17 34 1 := by rw [E_h21]; exact up_n (fun z => absurd z.1 (by decide))
    have T12 : h21 34 3 = h17 34 3 := by rw [E_h21]; exact up_n (fun z => absurd z.1 (by decide))
    have T13 : h21 34 10 = h17 34 10 := by rw [E_h21]; exact up_n (fun z => absurd z.1 (by decide))
    refine ok_add (by omega) ?_; intro v23 e_v23
    refine ok_wA (by omega) ?_; intro h24 E_h24; have V_h24 : VS_ h24 := by rw [E_h24]; exact wA_39 V_h21 (by omega)
    have T14 : h24 34 1 = h21 34 1 := by rw [E_h24]; exact up_n (fun z => absurd z.1 (by decide))
    have T15 : h24 34 3 = h21 34 3 := by rw [E_h24]; exact up_n (fun z => absurd z.1 (by decide))
    have T16 : h24 34 10 = h21 34 10 := by rw [E_h24]; exact up_n (fun z => absurd z.1 (by decide))
    refine ok_add (by omega) ?_; intro v26 e_v26
    refine ok_xl ?_; intro h27 E_h27; have V_h27 : VS_ h27 := by rw [E_h27]; exact wF_34_10 V_h24 (by omega)
    have T17 : h27 34 1 = h24 34 1 := by rw [E_h27]; exact up_n (by decide)
    have T18 : h27 34 3 = h24 34 3 := by rw [E_h27]; exact up_n (by decide)
    exact ok_mV (vj_X1_addHandler_76 hn (by omega) (by omega) V_h27 (by omega)) (fun _ V_r R_r => by have := gF_34_1 V_r; have := gF_34_3 V_r; omega)
  · intro C3
    refine ok_xl ?_; intro h28 E_h28; have V_h28 : VS_ h28 := by rw [E_h28]; exact wF_34_15 V_h (by omega)
    have T19 : h28 34 1 = h 34 1 := by rw [E_h28]; exact up_n (by decide)
    have T20 : h28 34 3 = h 34 3 := by rw [E_h28]; exact up_n (by decide)
    exact ok_mV (vj_X1_addHandler_76 hn (by omega) (by omega) V_h28 (by omega)) (fun _ V_r R_r => by have := gF_34_1 V_r; have := gF_34_3 V_r; omega)
set_option maxRecDepth 4000 in
theorem vj_X1_addLocal_28 {nn : Nat} (hn : 1000000 ≤ nn) {l3 : Int} {h : ms_M} (a_l3 : 0 ≤ l3) (b_l3 : l3 ≤ 1000000) (V_h : VS_ h) (x_0 : h 34 7 ≤ 900000)  : Ok_ (qj_X1_addLocal_28 nn l3 h) (QIR_ 0 1000000 (fun u r => (r 34 7 = h 34 7 + 1))) := by
  unfold qj_X1_addLocal_28
  have T1 := gF_34_7 V_h
  refine ok_add (by omega) ?_; intro v2 e_v2
  refine ok_xl ?_; intro h3 E_h3; have V_h3 : VS_ h3 := by rw [E_h3]; exact wF_34_7 V_h (by omega)
  have T2 : h3 34 7 = v2 := by rw [E_h3]; exact up_s
  have T3 := gF_34_8 V_h3
  refine ok_ite ?_; intro v6 e_v6
  refine ok_xl ?_; intro h7 E_h7; have V_h7 : VS_ h7 := by rw [E_h7]; exact wF_34_8 V_h3 (by omega)
  have T4 : h7 34 7 = h3 34 7 := by rw [E_h7]; exact up_n (by decide)
  exact ok_rIR V_h7 (by omega) (by omega) (by omega)
set_option maxRecDepth 4000 in
theorem vf_X1_addLocal {nn : Nat} (hn : 1000000 ≤ nn) {a1 : Int} {a2 : Int} {h : ms_M} (a_a1 : (-1) ≤ a1) (b_a1 : a1 ≤ 2147483647) (a_a2 : (-1) ≤ a2) (b_a2 : a2 ≤ 441) (V_h : VS_ h) (x_0 : h 34 7 ≤ 900000)  : Ok_ (qf_X1_addLocal nn a1 a2 h) (QIR_ 0 1000000 (fun u r => (r 34 7 = h 34 7 + 1))) := by
  unfold qf_X1_addLocal
  have T1 := gF_34_7 V_h
  refine ok_if ?_ ?_
  · intro C1
    exact ok_mI (vj_X1_addLocal_28 hn (by omega) (by omega) V_h (by omega)) (fun _ _ V_r R_r => by have := gF_34_7 V_r; omega)
  · intro C1
    refine ok_wA (by omega) ?_; intro h12 E_h12; have V_h12 : VS_ h12 := by rw [E_h12]; exact wA_37 V_h (by omega)
    have T3 : h12 34 7 = h 34 7 := by rw [E_h12]; exact up_n (fun z => absurd z.1 (by decide))
    refine ok_wA (by omega) ?_; intro h14 E_h14; have V_h14 : VS_ h14 := by rw [E_h14]; exact wA_38 V_h12 (by omega)
    have T4 : h14 34 7 = h12 34 7 := by rw [E_h14]; exact up_n (fun z => absurd z.1 (by decide))
    exact ok_mI (vj_X1_addLocal_28 hn (by omega) (by omega) V_h14 (by omega)) (fun _ _ V_r R_r => by have := gF_34_7 V_r; omega)
set_option maxRecDepth 4000 in
theorem vj_X2_readType_109 {nn : Nat} (hn : 1000000 ≤ nn) {l1 : Int} {l3 : Int} {l4 : Int} {h : ms_M} (a_l1 : 0 ≤ l1) (b_l1 : l1 ≤ 1740) (a_l3 : 0 ≤ l3) (b_l3 : l3 ≤ 341) (a_l4 : 0 ≤ l4) (b_l4 : l4 ≤ 1) (V_h : VS_ h)  : Ok_ (qj_X2_readType_109 nn l1 l3 l4 h) (QIR_ 0 441 (fun u r => (h 2 11 = 0 ∨ ¬ r 2 11 = 0) ∧ (r 2 10 = h 2 10))) := by
  unfold qj_X2_readType_109
  have T1 := gF_2_3 V_h
  have T2 := gF_2_10 V_h
  have T3 := gF_2_11 V_h
  refine ok_if ?_ ?_
  · intro C3
    refine ok_if ?_ ?_
    · intro C4
      exact ok_rIR V_h (by omega) (by omega) (by omega)
    · intro C4
      refine ok_add (by omega) ?_; intro v1 e_v1
      exact ok_rIR V_h (by omega) (by omega) (by omega)
  · intro C3
    refine ok_if ?_ ?_
    · intro C5
      exact ok_rIR V_h (by omega) (by omega) (by omega)
    · intro C5
      exact ok_rIR V_h (by omega) (by omega) (by omega)
set_option maxRecDepth 4000 in
theorem vj_X2_readType_89 {nn : Nat} (hn : 1000000 ≤ nn) {l1 : Int} {l3 : Int} {s0 : Int} {h : ms_M} (a_l1 : 0 ≤ l1) (b_l1 : l1 ≤ 1740) (a_l3 : 0 ≤ l3) (b_l3 : l3 ≤ 341) (a_s0 : 0 ≤ s0) (b_s0 : s0 ≤ 1) (V_h : VS_ h) (x_0 : h 2 10 ≤ 45000001)  : Ok_ (qj_X2_readType_89 nn l1 l3 s0 h) (QIR_ 0 441 (fun u r => (h 2 11 = 0 ∨ ¬ r 2 11 = 0) ∧ ((s0 = 0 ∧ r 2 10 = h 2 10) ∨ (¬ s0 = 0 ∧ r 2 10 = h 2 10 + 2)))) := by
  unfold qj_X2_readType_89
  have T1 := gF_2_3 V_h
  have T2 := gF_2_10 V_h
  have T3 := gF_2_11 V_h
  refine ok_if ?_ ?_
  · intro C3
    exact ok_mI (vj_X2_readType_109 hn (by omega) (by omega) (by omega) (by omega) (by omega) (by omega) V_h) (fun _ _ V_r R_r => by have := gF_2_3 V_r; have := gF_2_10 V_r; have := gF_2_11 V_r; omega)
  · intro C3
    refine ok_add (by omega) ?_; intro v7 e_v7
    refine ok_xl ?_; intro h8 E_h8; have V_h8 : VS_ h8 := by rw [E_h8]; exact wF_2_10 V_h (by omega)
    have T5 : h8 2 3 = h 2 3 := by rw [E_h8]; exact up_n (by decide)
    have T6 : h8 2 11 = h 2 11 := by rw [E_h8]; exact up_n (by decide)
    have T7 : h8 2 10 = v7 := by rw [E_h8]; exact up_s
    exact ok_mI (vj_X2_readType_109 hn (by omega) (by omega) (by omega) (by omega) (by omega) (by omega) V_h8) (fun _ _ V_r R_r => by have := gF_2_3 V_r; have := gF_2_10 V_r; have := gF_2_11 V_r; omega)
set_option maxRecDepth 4000 in
theorem vj_X2_readType_53 {nn : Nat} (hn : 1000000 ≤ nn) {l1 : Int} {l2 : Int} {s0 : Int} {h : ms_M} (a_l1 : 0 ≤ l1) (b_l1 : l1 ≤ 1740) (a_l2 : 0 ≤ l2) (b_l2 : l2 ≤ 50000000) (a_s0 : (-1) ≤ s0) (b_s0 : s0 ≤ 341) (V_h : VS_ h) (x_0 : h 2 10 ≤ 45000001)  : Ok_ (qj_X2_readType_53 nn l1 l2 s0 h) (QIR_ 0 441 (fun u r => (h 2 11 = 0 ∨ ¬ r 2 11 = 0) ∧ (r 2 10 = h 2 10 ∨ (r 2 10 = h 2 10 + 2 ∧ (h 2 11 = 0 ∧ h 2 10 < h 2 3))))) := by
  unfold qj_X2_readType_53
  have T1 := gF_2_3 V_h
  have T2 := gF_2_10 V_h
  have T3 := gF_2_11 V_h
  refine ok_if ?_ ?_
  · intro C3
    refine ok_cP (vf_X9_kind hn V_h) ?_; intro u12 e_u12 a_u12 b_u12
    have T5 := lm_X9_kind e_u12
    refine ok_if ?_ ?_
    · intro C5
      exact ok_mI (vj_X2_readType_89 hn (by omega) (by omega) (by omega) (by omega) (by omega) (by omega) V_h (by omega)) (fun _ _ V_r R_r => by have := gF_2_3 V_r; have := gF_2_10 V_r; have := gF_2_11 V_r; omega)
    · intro C5
      exact ok_mI (vj_X2_readType_89 hn (by omega) (by omega) (by omega) (by omega) (by omega) (by omega) V_h (by omega)) (fun _ _ V_r R_r => by have := gF_2_3 V_r; have := gF_2_10 V_r; have := gF_2_11 V_r; omega)
  · intro C3
    refine ok_cVR (vf_X9_tell hn (by omega) (by omega) (by omega) (by omega) V_h) ?_; intro u16 E_u16 V_u16 R_u16
    have T7 : u16 2 3 = h 2 3 := (ff_X9_tell nn) _ E_u16 2 3 rfl
    have T8 : u16 2 10 = h 2 10 := (ff_X9_tell nn) _ E_u16 2 10 rfl
    have T9 := gF_2_11 V_u16
    exact ok_rIR V_u16 (by omega) (by omega) (by omega)
set_option maxRecDepth 4000 in
theorem vf_X2_readType {nn : Nat} (hn : 1000000 ≤ nn) {h : ms_M} (V_h : VS_ h) (x_0 : h 2 10 ≤ 45000000)  : Ok_ (qf_X2_readType nn h) (QIR_ 0 441 (fun u r => (h 2 11 = 0 ∨ ¬ r 2 11 = 0) ∧ (r 2 10 = h 2 10 + 1 ∨ (r 2 10 = h 2 10 + 3 ∧ (h 2 11 = 0 ∧ h 2 10 < h 2 3))))) := by
  unfold qf_X2_readType
  have T1 := gF_2_3 V_h
  have T2 := gF_2_10 V_h
  have T3 := gF_2_11 V_h
  refine ok_cP (vf_X9_kind hn V_h) ?_; intro u20 e_u20 a_u20 b_u20
  have T4 := lm_X9_kind e_u20
  refine ok_add (by omega) ?_; intro v25 e_v25
  refine ok_xl ?_; intro h26 E_h26; have V_h26 : VS_ h26 := by rw [E_h26]; exact wF_2_10 V_h (by omega)
  have T5 : h26 2 3 = h 2 3 := by rw [E_h26]; exact up_n (by decide)
  have T6 : h26 2 11 = h 2 11 := by rw [E_h26]; exact up_n (by decide)
  have T7 : h26 2 10 = v25 := by rw [E_h26]; exact up_s
  refine ok_if ?_ ?_
  · intro C7
    refine ok_if ?_ ?_
    · intro C8
      exact ok_mI (vj_X2_readType_53 hn (by omega) (by omega) (by omega) (by omega) (by omega) (by omega) V_h26 (by omega)) (fun _ _ V_r R_r => by have := gF_2_3 V_r; have := gF_2_10 V_r; have := gF_2_11 V_r; omega)
    · intro C8
      refine ok_cP (vf_X2_classAt hn (by omega) (by omega) V_h26) ?_; intro u28 e_u28 a_u28 b_u28
      exact ok_mI (vj_X2_readType_53 hn (by omega) (by omega) (by omega) (by omega) (by omega) (by omega) V_h26 (by omega)) (fun _ _ V_r R_r => by have := gF_2_3 V_r; have := gF_2_10 V_r; have := gF_2_11 V_r; omega)
  · intro C7
    exact ok_rIR V_h26 (by omega) (by omega) (by omega)
