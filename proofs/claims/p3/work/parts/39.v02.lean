set_option maxRecDepth 4000 in
theorem vj_X10_fetch_135 {nn : Nat} (hn : 1000000 ≤ nn) {h : ms_M} (V_h : VS_ h) (x_0 : h 34 1 + h 34 3 ≤ 1500000712)  : Ok_ (qj_X10_fetch_135 nn h) (QVR_ (fun r => (r 34 1 + r 34 3 + 12 * r 49 10 + 20 * h 2 10 ≤ h 34 1 + h 34 3 + 12 * h 49 10 + 20 * r 2 10 + 1))) := by
  unfold qj_X10_fetch_135
  have T1 := gF_2_10 V_h
  have T2 := gF_34_1 V_h
  have T3 := gF_34_3 V_h
  have T4 := gF_49_10 V_h
  have T5 := gF_49_12 V_h
  refine ok_cVR (vf_X1_push hn (by omega) (by omega) V_h (by omega)) ?_; intro u4 E_u4 V_u4 R_u4
  have T6 : u4 2 10 = h 2 10 := (ff_X1_push nn) _ E_u4 2 10 rfl
  have T7 : u4 34 1 = h 34 1 := (ff_X1_push nn) _ E_u4 34 1 rfl
  have T8 : u4 49 10 = h 49 10 := (ff_X1_push nn) _ E_u4 49 10 rfl
  have T9 := gF_34_3 V_u4
  refine ok_xl ?_; intro h5 E_h5; have V_h5 : VS_ h5 := by rw [E_h5]; exact wF_49_11 V_u4 (by omega)
  have T10 : h5 2 10 = u4 2 10 := by rw [E_h5]; exact up_n (by decide)
  have T11 : h5 34 1 = u4 34 1 := by rw [E_h5]; exact up_n (by decide)
  have T12 : h5 49 10 = u4 49 10 := by rw [E_h5]; exact up_n (by decide)
  have T13 : h5 34 3 = u4 34 3 := by rw [E_h5]; exact up_n (by decide)
  exact ok_rVR V_h5 (by omega)
set_option maxRecDepth 4000 in
theorem vj_X10_fetch_120 {nn : Nat} (hn : 1000000 ≤ nn) {s0 : Int} {h : ms_M} (a_s0 : 46 ≤ s0) (b_s0 : s0 ≤ 50) (V_h : VS_ h) (x_0 : h 34 1 + h 34 3 ≤ 1500000711)  : Ok_ (qj_X10_fetch_120 nn s0 h) (QVR_ (fun r => (r 34 1 + r 34 3 + 12 * r 49 10 + 20 * h 2 10 ≤ h 34 1 + h 34 3 + 12 * h 49 10 + 20 * r 2 10 + 2))) := by
  unfold qj_X10_fetch_120
  have T1 := gF_2_10 V_h
  have T2 := gF_34_1 V_h
  have T3 := gF_34_3 V_h
  have T4 := gF_49_10 V_h
  refine ok_cVR (vf_X1_op hn (by omega) (by omega) V_h (by omega)) ?_; intro u7 E_u7 V_u7 R_u7
  have T5 : u7 2 10 = h 2 10 := (ff_X1_op nn) _ E_u7 2 10 rfl
  have T6 : u7 34 3 = h 34 3 := (ff_X1_op nn) _ E_u7 34 3 rfl
  have T7 : u7 49 10 = h 49 10 := (ff_X1_op nn) _ E_u7 49 10 rfl
  have T8 := gF_34_1 V_u7
  refine ok_cVR (vf_X1_pop hn (by omega) (by omega) V_u7 (by omega)) ?_; intro u10 E_u10 V_u10 R_u10
  have T9 : u10 2 10 = u7 2 10 := (ff_X1_pop nn) _ E_u10 2 10 rfl
  have T10 : u10 49 10 = u7 49 10 := (ff_X1_pop nn) _ E_u10 49 10 rfl
  have T11 : u10 34 1 = u7 34 1 := (ff_X1_pop nn) _ E_u10 34 1 rfl
  have T12 := gF_34_3 V_u10
  exact ok_mV (vj_X10_fetch_135 hn V_u10 (by omega)) (fun _ V_r R_r => by have := gF_2_10 V_r; have := gF_34_1 V_r; have := gF_34_3 V_r; have := gF_49_10 V_r; omega)
set_option maxRecDepth 4000 in
theorem vj_X10_fetch_53 {nn : Nat} (hn : 1000000 ≤ nn) {s0 : Int} {h : ms_M} (a_s0 : 21 ≤ s0) (b_s0 : s0 ≤ 25) (V_h : VS_ h) (x_0 : h 34 1 + h 34 3 ≤ 1500000710)  : Ok_ (qj_X10_fetch_53 nn s0 h) (QVR_ (fun r => (r 34 1 + r 34 3 + 12 * r 49 10 + 20 * h 2 10 ≤ h 34 1 + h 34 3 + 12 * h 49 10 + 20 * r 2 10 + 3))) := by
  unfold qj_X10_fetch_53
  have T1 := gF_2_10 V_h
  have T2 := gF_34_1 V_h
  have T3 := gF_34_3 V_h
  have T4 := gF_49_10 V_h
  have T5 := gF_49_14 V_h
  refine ok_cVR (vf_X1_op_ hn (by omega) (by omega) (by omega) (by omega) V_h (by omega)) ?_; intro u13 E_u13 V_u13 R_u13
  have T6 : u13 2 10 = h 2 10 := (ff_X1_op_ nn) _ E_u13 2 10 rfl
  have T7 : u13 34 3 = h 34 3 := (ff_X1_op_ nn) _ E_u13 34 3 rfl
  have T8 : u13 49 10 = h 49 10 := (ff_X1_op_ nn) _ E_u13 49 10 rfl
  have T9 := gF_34_1 V_u13
  exact ok_mV (vj_X10_fetch_135 hn V_u13 (by omega)) (fun _ V_r R_r => by have := gF_2_10 V_r; have := gF_34_1 V_r; have := gF_34_3 V_r; have := gF_49_10 V_r; omega)
set_option maxRecDepth 4000 in
theorem vf_X10_fetch {nn : Nat} (hn : 1000000 ≤ nn) {h : ms_M} (V_h : VS_ h) (x_0 : h 34 1 + h 34 3 ≤ 1500000700)  : Ok_ (qf_X10_fetch nn h) (QVR_ (fun r => (r 34 1 + r 34 3 + 12 * r 49 10 + 20 * h 2 10 ≤ h 34 1 + h 34 3 + 12 * h 49 10 + 20 * r 2 10 + 3))) := by
  unfold qf_X10_fetch
  have T1 := gF_2_10 V_h
  have T2 := gF_34_1 V_h
  have T3 := gF_34_3 V_h
  have T4 := gF_49_10 V_h
  have T5 := gF_49_11 V_h
  refine ok_if ?_ ?_
  · intro C5
    have T7 := gF_49_12 V_h
    refine ok_cP (vf_X4_isNumber hn (by omega) (by omega) V_h) ?_; intro u17 e_u17 a_u17 b_u17
    refine ok_if ?_ ?_
    · intro C7
      exact ok_mV (vj_X10_fetch_53 hn (by omega) (by omega) V_h (by omega)) (fun _ V_r R_r => by have := gF_2_10 V_r; have := gF_34_1 V_r; have := gF_34_3 V_r; have := gF_49_10 V_r; omega)
    · intro C7
      exact ok_mV (vj_X10_fetch_53 hn (by omega) (by omega) V_h (by omega)) (fun _ V_r R_r => by have := gF_2_10 V_r; have := gF_34_1 V_r; have := gF_34_3 V_r; have := gF_49_10 V_r; omega)
  · intro C5
    refine ok_if ?_ ?_
    · intro C8
      have T10 := gF_49_13 V_h
      have T11 := gF_49_14 V_h
      refine ok_cI (vf_X6_fieldOf hn (by omega) (by omega) (by omega) (by omega) V_h) ?_; intro u24 E_u24 V_u24 a_u24 b_u24
      have T12 : u24.2 2 10 = h 2 10 := (ff_X6_fieldOf nn) _ E_u24 2 10 rfl
      have T13 : u24.2 34 1 = h 34 1 := (ff_X6_fieldOf nn) _ E_u24 34 1 rfl
      have T14 : u24.2 34 3 = h 34 3 := (ff_X6_fieldOf nn) _ E_u24 34 3 rfl
      have T15 : u24.2 49 10 = h 49 10 := (ff_X6_fieldOf nn) _ E_u24 49 10 rfl
      refine ok_cVR (vf_X1_op_ hn (by omega) (by omega) (by omega) (by omega) V_u24 (by omega)) ?_; intro u26 E_u26 V_u26 R_u26
      have T16 : u26 2 10 = u24.2 2 10 := (ff_X1_op_ nn) _ E_u26 2 10 rfl
      have T17 : u26 34 3 = u24.2 34 3 := (ff_X1_op_ nn) _ E_u26 34 3 rfl
      have T18 : u26 49 10 = u24.2 49 10 := (ff_X1_op_ nn) _ E_u26 49 10 rfl
      have T19 := gF_34_1 V_u26
      refine ok_cVR (vf_X1_pop hn (by omega) (by omega) V_u26 (by omega)) ?_; intro u29 E_u29 V_u29 R_u29
      have T20 : u29 2 10 = u26 2 10 := (ff_X1_pop nn) _ E_u29 2 10 rfl
      have T21 : u29 49 10 = u26 49 10 := (ff_X1_pop nn) _ E_u29 49 10 rfl
      have T22 : u29 34 1 = u26 34 1 := (ff_X1_pop nn) _ E_u29 34 1 rfl
      have T23 := gF_34_3 V_u29
      exact ok_mV (vj_X10_fetch_135 hn V_u29 (by omega)) (fun _ V_r R_r => by have := gF_2_10 V_r; have := gF_34_1 V_r; have := gF_34_3 V_r; have := gF_49_10 V_r; omega)
    · intro C8
      refine ok_if ?_ ?_
      · intro C23
        have T25 := gF_49_12 V_h
        refine ok_if ?_ ?_
        · intro C25
          exact ok_mV (vj_X10_fetch_120 hn (by omega) (by omega) V_h (by omega)) (fun _ V_r R_r => by have := gF_2_10 V_r; have := gF_34_1 V_r; have := gF_34_3 V_r; have := gF_49_10 V_r; omega)
        · intro C25
          exact ok_mV (vj_X10_fetch_120 hn (by omega) (by omega) V_h (by omega)) (fun _ V_r R_r => by have := gF_2_10 V_r; have := gF_34_1 V_r; have := gF_34_3 V_r; have := gF_49_10 V_r; omega)
      · intro C23
        exact ok_rVR V_h (by omega)
set_option maxRecDepth 4000 in
theorem vf_X10_give {nn : Nat} (hn : 1000000 ≤ nn) {a1 : Int} {h : ms_M} (a_a1 : 0 ≤ a1) (b_a1 : a1 ≤ 441) (V_h : VS_ h) (x_0 : h 34 1 + h 34 3 ≤ 1500000800)  : Ok_ (qf_X10_give nn a1 h) (QVR_ (fun r => (r 34 1 + r 34 3 + 12 * r 49 10 + 20 * h 2 10 ≤ h 34 1 + h 34 3 + 12 * h 49 10 + 20 * r 2 10 + 1))) := by
  unfold qf_X10_give
  have T1 := gF_2_10 V_h
  have T2 := gF_34_1 V_h
  have T3 := gF_34_3 V_h
  have T4 := gF_49_10 V_h
  refine ok_cVR (vf_X1_push hn (by omega) (by omega) V_h (by omega)) ?_; intro u3 E_u3 V_u3 R_u3
  have T5 : u3 2 10 = h 2 10 := (ff_X1_push nn) _ E_u3 2 10 rfl
  have T6 : u3 34 1 = h 34 1 := (ff_X1_push nn) _ E_u3 34 1 rfl
  have T7 : u3 49 10 = h 49 10 := (ff_X1_push nn) _ E_u3 49 10 rfl
  have T8 := gF_34_3 V_u3
  refine ok_xl ?_; intro h4 E_h4; have V_h4 : VS_ h4 := by rw [E_h4]; exact wF_49_12 V_u3 (by omega)
  have T9 : h4 2 10 = u3 2 10 := by rw [E_h4]; exact up_n (by decide)
  have T10 : h4 34 1 = u3 34 1 := by rw [E_h4]; exact up_n (by decide)
  have T11 : h4 49 10 = u3 49 10 := by rw [E_h4]; exact up_n (by decide)
  have T12 : h4 34 3 = u3 34 3 := by rw [E_h4]; exact up_n (by decide)
  refine ok_xl ?_; intro h5 E_h5; have V_h5 : VS_ h5 := by rw [E_h5]; exact wF_49_11 V_h4 (by omega)
  have T13 : h5 2 10 = h4 2 10 := by rw [E_h5]; exact up_n (by decide)
  have T14 : h5 34 1 = h4 34 1 := by rw [E_h5]; exact up_n (by decide)
  have T15 : h5 49 10 = h4 49 10 := by rw [E_h5]; exact up_n (by decide)
  have T16 : h5 34 3 = h4 34 3 := by rw [E_h5]; exact up_n (by decide)
  exact ok_rVR V_h5 (by omega)
set_option maxRecDepth 4000 in
theorem vf_X2_typeOfField {nn : Nat} (hn : 1000000 ≤ nn) {a1 : Int} {h : ms_M} (a_a1 : (-1) ≤ a1) (b_a1 : a1 ≤ 95) (V_h : VS_ h)  : Ok_ (qf_X2_typeOfField nn a1 h) (QP_ 0 441) := by
  unfold qf_X2_typeOfField
  refine ok_if ?_ ?_
  · intro C0
    exact ok_rP (by omega) (by omega)
  · intro C0
    refine ok_if ?_ ?_
    · intro C1
      exfalso; omega
    · intro C1
      refine ok_rd (by omega) (gA_19 V_h) ?_; intro v4 e_v4 a_v4 b_v4
      exact ok_rP (by omega) (by omega)
set_option maxRecDepth 4000 in
theorem vf_X10_nameField {nn : Nat} (hn : 1000000 ≤ nn) {a1 : Int} {a2 : Int} {h : ms_M} (a_a1 : (-1) ≤ a1) (b_a1 : a1 ≤ 441) (a_a2 : (-1) ≤ a2) (b_a2 : a2 ≤ 95) (V_h : VS_ h)  : Ok_ (qf_X10_nameField nn a1 a2 h) QV_ := by
  unfold qf_X10_nameField
  refine ok_xl ?_; intro h1 E_h1; have V_h1 : VS_ h1 := by rw [E_h1]; exact wF_49_11 V_h (by omega)
  refine ok_xl ?_; intro h2 E_h2; have V_h2 : VS_ h2 := by rw [E_h2]; exact wF_49_13 V_h1 (by omega)
  refine ok_xl ?_; intro h3 E_h3; have V_h3 : VS_ h3 := by rw [E_h3]; exact wF_49_14 V_h2 (by omega)
  refine ok_cP (vf_X2_typeOfField hn (by omega) (by omega) V_h3) ?_; intro u6 e_u6 a_u6 b_u6
  refine ok_xl ?_; intro h7 E_h7; have V_h7 : VS_ h7 := by rw [E_h7]; exact wF_49_12 V_h3 (by omega)
  exact ok_rV V_h7
set_option maxRecDepth 4000 in
theorem vj_X10_closeCall_45 {nn : Nat} (hn : 1000000 ≤ nn) {l1 : Int} {h : ms_M} (a_l1 : 0 ≤ l1) (b_l1 : l1 ≤ 441) (V_h : VS_ h) (x_0 : h 34 1 + h 34 3 ≤ 1500000711)  : Ok_ (qj_X10_closeCall_45 nn l1 h) (QVR_ (fun r => (h 2 11 = 0 ∨ ¬ r 2 11 = 0) ∧ (r 34 1 + r 34 3 + 12 * r 49 10 + 20 * h 2 10 ≤ h 34 1 + h 34 3 + 12 * h 49 10 + 20 * r 2 10 + 0))) := by
  unfold qj_X10_closeCall_45
  have T1 := gF_2_10 V_h
  have T2 := gF_2_11 V_h
  have T3 := gF_34_1 V_h
  have T4 := gF_34_3 V_h
  have T5 := gF_49_10 V_h
  refine ok_xl ?_; intro h1 E_h1; have V_h1 : VS_ h1 := by rw [E_h1]; exact wF_49_12 V_h (by omega)
  have T6 : h1 2 10 = h 2 10 := by rw [E_h1]; exact up_n (by decide)
  have T7 : h1 2 11 = h 2 11 := by rw [E_h1]; exact up_n (by decide)
  have T8 : h1 34 1 = h 34 1 := by rw [E_h1]; exact up_n (by decide)
  have T9 : h1 34 3 = h 34 3 := by rw [E_h1]; exact up_n (by decide)
  have T10 : h1 49 10 = h 49 10 := by rw [E_h1]; exact up_n (by decide)
  refine ok_xl ?_; intro h2 E_h2; have V_h2 : VS_ h2 := by rw [E_h2]; exact wF_49_11 V_h1 (by omega)
  have T11 : h2 2 10 = h1 2 10 := by rw [E_h2]; exact up_n (by decide)
  have T12 : h2 2 11 = h1 2 11 := by rw [E_h2]; exact up_n (by decide)
  have T13 : h2 34 1 = h1 34 1 := by rw [E_h2]; exact up_n (by decide)
  have T14 : h2 34 3 = h1 34 3 := by rw [E_h2]; exact up_n (by decide)
  have T15 : h2 49 10 = h1 49 10 := by rw [E_h2]; exact up_n (by decide)
  exact ok_rVR V_h2 (by omega)
set_option maxRecDepth 4000 in
theorem vj_X10_closeCall_35 {nn : Nat} (hn : 1000000 ≤ nn) {l1 : Int} {l2 : Int} {h : ms_M} (a_l1 : 303 ≤ l1) (b_l1 : l1 ≤ 303) (a_l2 : 0 ≤ l2) (b_l2 : l2 ≤ 50000002) (V_h : VS_ h) (x_0 : h 34 1 + h 34 3 ≤ 1500000711)  : Ok_ (qj_X10_closeCall_35 nn l1 l2 h) (QVR_ (fun r => (h 2 11 = 0 ∨ ¬ r 2 11 = 0) ∧ (r 34 1 + r 34 3 + 12 * r 49 10 + 20 * h 2 10 ≤ h 34 1 + h 34 3 + 12 * h 49 10 + 20 * r 2 10 + 0))) := by
  unfold qj_X10_closeCall_35
  have T1 := gF_2_10 V_h
  have T2 := gF_2_11 V_h
  have T3 := gF_34_1 V_h
  have T4 := gF_34_3 V_h
  have T5 := gF_49_10 V_h
  refine ok_cVR (vf_X9_tell hn (by omega) (by omega) (by omega) (by omega) V_h) ?_; intro u5 E_u5 V_u5 R_u5
  have T6 : u5 2 10 = h 2 10 := (ff_X9_tell nn) _ E_u5 2 10 rfl
  have T7 : u5 34 1 = h 34 1 := (ff_X9_tell nn) _ E_u5 34 1 rfl
  have T8 : u5 34 3 = h 34 3 := (ff_X9_tell nn) _ E_u5 34 3 rfl
  have T9 : u5 49 10 = h 49 10 := (ff_X9_tell nn) _ E_u5 49 10 rfl
  have T10 := gF_2_11 V_u5
  exact ok_mV (vj_X10_closeCall_45 hn (by omega) (by omega) V_u5 (by omega)) (fun _ V_r R_r => by have := gF_2_10 V_r; have := gF_2_11 V_r; have := gF_34_1 V_r; have := gF_34_3 V_r; have := gF_49_10 V_r; omega)
set_option maxRecDepth 4000 in
theorem vf_X10_closeCall {nn : Nat} (hn : 1000000 ≤ nn) {a1 : Int} {a2 : Int} {a3 : Int} {h : ms_M} (a_a1 : 0 ≤ a1) (b_a1 : a1 ≤ 441) (a_a2 : 0 ≤ a2) (b_a2 : a2 ≤ 50000002) (a_a3 : 0 ≤ a3) (b_a3 : a3 ≤ 50000000) (V_h : VS_ h) (x_0 : h 34 1 + h 34 3 ≤ 1500000700)  : Ok_ (qf_X10_closeCall nn a1 a2 a3 h) (QVR_ (fun r => (h 2 11 = 0 ∨ ¬ r 2 11 = 0) ∧ (r 34 1 + r 34 3 + 12 * r 49 10 + 20 * h 2 10 ≤ h 34 1 + h 34 3 + 12 * h 49 10 + 20 * r 2 10 + 1))) := by
  unfold qf_X10_closeCall
  have T1 := gF_2_10 V_h
  have T2 := gF_2_11 V_h
  have T3 := gF_34_1 V_h
  have T4 := gF_34_3 V_h
  have T5 := gF_49_10 V_h
  refine ok_if ?_ ?_
  · intro C5
    have T7 := gF_49_18 V_h
    refine ok_if ?_ ?_
    · intro C7
      exact ok_mV (vj_X10_closeCall_35 hn (by omega) (by omega) (by omega) (by omega) V_h (by omega)) (fun _ V_r R_r => by have := gF_2_10 V_r; have := gF_2_11 V_r; have := gF_34_1 V_r; have := gF_34_3 V_r; have := gF_49_10 V_r; omega)
    · intro C7
      refine ok_cP (vf_X9_kind hn V_h) ?_; intro u9 e_u9 a_u9 b_u9
      have T9 := lm_X9_kind e_u9
      refine ok_if ?_ ?_
      · intro C9
        exact ok_mV (vj_X10_closeCall_45 hn (by omega) (by omega) V_h (by omega)) (fun _ V_r R_r => by have := gF_2_10 V_r; have := gF_2_11 V_r; have := gF_34_1 V_r; have := gF_34_3 V_r; have := gF_49_10 V_r; omega)
      · intro C9
        exact ok_mV (vj_X10_closeCall_35 hn (by omega) (by omega) (by omega) (by omega) V_h (by omega)) (fun _ V_r R_r => by have := gF_2_10 V_r; have := gF_2_11 V_r; have := gF_34_1 V_r; have := gF_34_3 V_r; have := gF_49_10 V_r; omega)
  · intro C5
    refine ok_cVR (vf_X10_give hn (by omega) (by omega) V_h (by omega)) ?_; intro u13 E_u13 V_u13 R_u13
    have T11 : u13 2 10 = h 2 10 := (ff_X10_give nn) _ E_u13 2 10 rfl
    have T12 : u13 2 11 = h 2 11 := (ff_X10_give nn) _ E_u13 2 11 rfl
    have T13 : u13 34 1 = h 34 1 := (ff_X10_give nn) _ E_u13 34 1 rfl
    have T14 : u13 49 10 = h 49 10 := (ff_X10_give nn) _ E_u13 49 10 rfl
    have T15 := gF_34_3 V_u13
    exact ok_mV (vj_X10_closeCall_45 hn (by omega) (by omega) V_u13 (by omega)) (fun _ V_r R_r => by have := gF_2_10 V_r; have := gF_2_11 V_r; have := gF_34_1 V_r; have := gF_34_3 V_r; have := gF_49_10 V_r; omega)
set_option maxRecDepth 4000 in
theorem vf_X2_isMethod {nn : Nat} (hn : 1000000 ≤ nn) {a1 : Int} {h : ms_M} (a_a1 : (-1) ≤ a1) (b_a1 : a1 ≤ 95) (V_h : VS_ h)  : Ok_ (qf_X2_isMethod nn a1 h) (QP_ 0 1) := by
  unfold qf_X2_isMethod
  refine ok_if ?_ ?_
  · intro C0
    exact ok_rP (by omega) (by omega)
  · intro C0
    refine ok_if ?_ ?_
    · intro C1
      exfalso; omega
    · intro C1
      refine ok_rem (n := 12) (by omega) ?_; intro v3 e_v3
      refine ok_div (n := 12) (by omega) ?_; intro v5 e_v5
      refine ok_rd (by omega) (gA_21 V_h) ?_; intro v6 e_v6 a_v6 b_v6
      refine ok_if ?_ ?_
      · intro C2
        exact ok_rP (by omega) (by omega)
      · intro C2
        exact ok_rP (by omega) (by omega)
set_option maxRecDepth 4000 in
theorem vf_X2_isFixed {nn : Nat} (hn : 1000000 ≤ nn) {a1 : Int} {h : ms_M} (a_a1 : (-1) ≤ a1) (b_a1 : a1 ≤ 95) (V_h : VS_ h)  : Ok_ (qf_X2_isFixed nn a1 h) (QP_ 0 1) := by
  unfold qf_X2_isFixed
  refine ok_cP (vf_X2_isMethod hn (by omega) (by omega) V_h) ?_; intro u2 e_u2 a_u2 b_u2
  have T1 := pr_X2_isMethod e_u2
  refine ok_if ?_ ?_
  · intro C1
    exact ok_rP (by omega) (by omega)
  · intro C1
    refine ok_rd (by omega) (gA_25 V_h) ?_; intro v4 e_v4 a_v4 b_v4
    refine ok_if ?_ ?_
    · intro C2
      exact ok_rP (by omega) (by omega)
    · intro C2
      exact ok_rP (by omega) (by omega)
set_option maxRecDepth 4000 in
theorem vf_X2_parametersOf {nn : Nat} (hn : 1000000 ≤ nn) {a1 : Int} {h : ms_M} (a_a1 : (-1) ≤ a1) (b_a1 : a1 ≤ 95) (V_h : VS_ h)  : Ok_ (qf_X2_parametersOf nn a1 h) (QP_ 0 6) := by
  unfold qf_X2_parametersOf
  refine ok_cP (vf_X2_isMethod hn (by omega) (by omega) V_h) ?_; intro u2 e_u2 a_u2 b_u2
  have T1 := pr_X2_isMethod e_u2
  refine ok_if ?_ ?_
  · intro C1
    exact ok_rP (by omega) (by omega)
  · intro C1
    refine ok_rd (by omega) (gA_27 V_h) ?_; intro v4 e_v4 a_v4 b_v4
    exact ok_rP (by omega) (by omega)
set_option maxRecDepth 4000 in
theorem vf_X2_parameterType {nn : Nat} (hn : 1000000 ≤ nn) {a1 : Int} {a2 : Int} {h : ms_M} (a_a1 : (-1) ≤ a1) (b_a1 : a1 ≤ 95) (a_a2 : 0 ≤ a2) (b_a2 : a2 ≤ 3000) (V_h : VS_ h)  : Ok_ (qf_X2_parameterType nn a1 a2 h) (QP_ 0 441) := by
  unfold qf_X2_parameterType
  refine ok_if ?_ ?_
  · intro C0
    exfalso; omega
  · intro C0
    refine ok_cP (vf_X2_parametersOf hn (by omega) (by omega) V_h) ?_; intro u2 e_u2 a_u2 b_u2
    have T2 := pr_X2_parametersOf e_u2
    refine ok_if ?_ ?_
    · intro C2
      exact ok_rP (by omega) (by omega)
    · intro C2
      refine ok_mul (by omega) ?_; intro v4 e_v4
      refine ok_add (by omega) ?_; intro v5 e_v5
      refine ok_rd (by omega) (gA_29 V_h) ?_; intro v6 e_v6 a_v6 b_v6
      exact ok_rP (by omega) (by omega)
set_option maxRecDepth 4000 in
theorem vf_X2_resultOf {nn : Nat} (hn : 1000000 ≤ nn) {a1 : Int} {h : ms_M} (a_a1 : (-1) ≤ a1) (b_a1 : a1 ≤ 95) (V_h : VS_ h)  : Ok_ (qf_X2_resultOf nn a1 h) (QP_ 0 441) := by
  unfold qf_X2_resultOf
  refine ok_cP (vf_X2_isMethod hn (by omega) (by omega) V_h) ?_; intro u2 e_u2 a_u2 b_u2
  have T1 := pr_X2_isMethod e_u2
  refine ok_if ?_ ?_
  · intro C1
    exact ok_rP (by omega) (by omega)
  · intro C1
    refine ok_rd (by omega) (gA_24 V_h) ?_; intro v4 e_v4 a_v4 b_v4
    exact ok_rP (by omega) (by omega)
set_option maxRecDepth 4000 in
theorem vf_X2_kindOfMethod {nn : Nat} (hn : 1000000 ≤ nn) {a1 : Int} {h : ms_M} (a_a1 : (-1) ≤ a1) (b_a1 : a1 ≤ 95) (V_h : VS_ h)  : Ok_ (qf_X2_kindOfMethod nn a1 h) (QP_ (-1) 1739) := by
  unfold qf_X2_kindOfMethod
  refine ok_if ?_ ?_
  · intro C0
    exact ok_rP (by omega) (by omega)
  · intro C0
    refine ok_if ?_ ?_
    · intro C1
      exfalso; omega
    · intro C1
      refine ok_rd (by omega) (gA_26 V_h) ?_; intro v4 e_v4 a_v4 b_v4
      exact ok_rP (by omega) (by omega)
set_option maxRecDepth 4000 in
theorem vf_X2_nameOfMethod {nn : Nat} (hn : 1000000 ≤ nn) {a1 : Int} {h : ms_M} (a_a1 : (-1) ≤ a1) (b_a1 : a1 ≤ 95) (V_h : VS_ h)  : Ok_ (qf_X2_nameOfMethod nn a1 h) (QP_ (-1) 2147483647) := by
  unfold qf_X2_nameOfMethod
  refine ok_cP (vf_X2_isMethod hn (by omega) (by omega) V_h) ?_; intro u2 e_u2 a_u2 b_u2
  have T1 := pr_X2_isMethod e_u2
  refine ok_if ?_ ?_
  · intro C1
    exact ok_rP (by omega) (by omega)
  · intro C1
    refine ok_rd (by omega) (gA_22 V_h) ?_; intro v5 e_v5 a_v5 b_v5
    refine ok_cP (vf_X9_valueAt hn (by omega) (by omega) V_h) ?_; intro u7 e_u7 a_u7 b_u7
    exact ok_rP (by omega) (by omega)
set_option maxRecDepth 4000 in
theorem vf_X6_methodOf {nn : Nat} (hn : 1000000 ≤ nn) {a1 : Int} {a2 : Int} {h : ms_M} (a_a1 : (-1) ≤ a1) (b_a1 : a1 ≤ 441) (a_a2 : (-1) ≤ a2) (b_a2 : a2 ≤ 95) (V_h : VS_ h)  : Ok_ (qf_X6_methodOf nn a1 a2 h) (QI_ 0 200) := by
  unfold qf_X6_methodOf
  refine ok_cI (vf_X6_classOf hn (by omega) (by omega) V_h) ?_; intro u2 E_u2 V_u2 a_u2 b_u2
  refine ok_cP (vf_X2_nameOfMethod hn (by omega) (by omega) V_u2) ?_; intro u5 e_u5 a_u5 b_u5
  refine ok_cI (vf_X6_constant hn (by omega) (by omega) (by omega) (by omega) V_u2) ?_; intro u7 E_u7 V_u7 a_u7 b_u7
  refine ok_i32 ?_; intro v8 a_v8 b_v8
  refine ok_shl8 (by omega) ?_; intro v9 e_v9
  refine ok_i32 ?_; intro v10 a_v10 b_v10
  refine ok_cP (vf_X2_kindOfMethod hn (by omega) (by omega) V_u7) ?_; intro u13 e_u13 a_u13 b_u13
  refine ok_cI (vf_X6_constant hn (by omega) (by omega) (by omega) (by omega) V_u7) ?_; intro u15 E_u15 V_u15 a_u15 b_u15
  refine ok_i32 ?_; intro v16 a_v16 b_v16
  refine ok_cI (vf_X6_constant hn (by omega) (by omega) (by omega) (by omega) V_u15) ?_; intro u18 E_u18 V_u18 a_u18 b_u18
  exact ok_rI V_u18 (by omega) (by omega)
set_option maxRecDepth 4000 in
theorem vw_X2_fieldIn_2 {nn : Nat} (hn : 1000000 ≤ nn) : ∀ (k : Nat) {l1 : Int} {l2 : Int} {l3 : Int} {h : ms_M} (a_l1 : 0 ≤ l1) (b_l1 : l1 ≤ 7) (a_l2 : 0 ≤ l2) (b_l2 : l2 ≤ 2147483647) (a_l3 : 0 ≤ l3) (b_l3 : l3 ≤ 12) (V_h : VS_ h)  (hm : 13 - l3 < (k : Int)), Ok_ (qw_X2_fieldIn_2 nn k l1 l2 l3 h) (QP_ (-1) 95) := by
  intro k
  induction k with
  | zero => intros; exfalso; omega
  | succ k ih =>
    intro l1 l2 l3 h a_l1 b_l1 a_l2 b_l2 a_l3 b_l3 V_h hm
    unfold qw_X2_fieldIn_2
    refine ok_rd (by omega) (gA_17 V_h) ?_; intro v2 e_v2 a_v2 b_v2
    refine ok_if ?_ ?_
    · intro C0
      exact ok_rP (by omega) (by omega)
    · intro C0
      refine ok_mul (by omega) ?_; intro v4 e_v4
      refine ok_add (by omega) ?_; intro v5 e_v5
      refine ok_rd (by omega) (gA_18 V_h) ?_; intro v6 e_v6 a_v6 b_v6
      refine ok_if ?_ ?_
      · intro C1
        refine ok_add (by omega) ?_; intro v7 e_v7
        exact ih (by omega) (by omega) (by omega) (by omega) (by omega) (by omega) V_h (by omega)
      · intro C1
        refine ok_mul (by omega) ?_; intro v8 e_v8
        refine ok_add (by omega) ?_; intro v9 e_v9
        exact ok_rP (by omega) (by omega)
set_option maxRecDepth 4000 in
theorem vf_X2_fieldIn {nn : Nat} (hn : 1000000 ≤ nn) {a1 : Int} {a2 : Int} {h : ms_M} (a_a1 : 0 ≤ a1) (b_a1 : a1 ≤ 7) (a_a2 : 0 ≤ a2) (b_a2 : a2 ≤ 2147483647) (V_h : VS_ h)  : Ok_ (qf_X2_fieldIn nn a1 a2 h) (QP_ (-1) 95) := by
  unfold qf_X2_fieldIn
  exact vw_X2_fieldIn_2 hn _ (by omega) (by omega) (by omega) (by omega) (by omega) (by omega) V_h (by omega)
set_option maxRecDepth 4000 in
theorem vw_X2_fieldOf_8 {nn : Nat} (hn : 1000000 ≤ nn) : ∀ (k : Nat) {l2 : Int} {l3 : Int} {l4 : Int} {l5 : Int} {h : ms_M} (a_l2 : 0 ≤ l2) (b_l2 : l2 ≤ 2147483647) (a_l3 : (-1) ≤ l3) (b_l3 : l3 ≤ 95) (a_l4 : (-1) ≤ l4) (b_l4 : l4 ≤ 441) (a_l5 : 0 ≤ l5) (b_l5 : l5 ≤ 16) (V_h : VS_ h)  (hm : 17 - l5 < (k : Int)), Ok_ (qw_X2_fieldOf_8 nn k l2 l3 l4 l5 h) (QP_ (-1) 95) := by
  intro k
  induction k with
  | zero => intros; exfalso; omega
  | succ k ih =>
    intro l2 l3 l4 l5 h a_l2 b_l2 a_l3 b_l3 a_l4 b_l4 a_l5 b_l5 V_h hm
    unfold qw_X2_fieldOf_8
    refine ok_if ?_ ?_
    · intro C0
      exact ok_rP (by omega) (by omega)
    · intro C0
      refine ok_cP (vf_X2_isOwn hn (by omega) (by omega) V_h) ?_; intro u1 e_u1 a_u1 b_u1
      have T2 := pr_X2_isOwn e_u1
      refine ok_if ?_ ?_
      · intro C2
        exact ok_rP (by omega) (by omega)
      · intro C2
        refine ok_if ?_ ?_
        · intro C3
          exact ok_rP (by omega) (by omega)
        · intro C3
          refine ok_sub (by omega) ?_; intro v2 e_v2
          refine ok_cP (vf_X2_fieldIn hn (by omega) (by omega) (by omega) (by omega) V_h) ?_; intro u4 e_u4 a_u4 b_u4
          refine ok_cP (vf_X4_above hn rfl (by omega) (by omega) V_h) ?_; intro u7 e_u7 a_u7 b_u7
          refine ok_add (by omega) ?_; intro v8 e_v8
          exact ih (by omega) (by omega) (by omega) (by omega) (by omega) (by omega) (by omega) (by omega) V_h (by omega)
set_option maxRecDepth 4000 in
theorem vf_X2_fieldOf {nn : Nat} (hn : 1000000 ≤ nn) {a1 : Int} {a2 : Int} {h : ms_M} (a_a1 : (-1) ≤ a1) (b_a1 : a1 ≤ 441) (a_a2 : 0 ≤ a2) (b_a2 : a2 ≤ 2147483647) (V_h : VS_ h)  : Ok_ (qf_X2_fieldOf nn a1 a2 h) (QP_ (-1) 95) := by
  unfold qf_X2_fieldOf
  exact vw_X2_fieldOf_8 hn _ (by omega) (by omega) (by omega) (by omega) (by omega) (by omega) (by omega) (by omega) V_h (by omega)
set_option maxRecDepth 4000 in
theorem vw_X2_methodIn_2 {nn : Nat} (hn : 1000000 ≤ nn) : ∀ (k : Nat) {l1 : Int} {l2 : Int} {l3 : Int} {h : ms_M} (a_l1 : 0 ≤ l1) (b_l1 : l1 ≤ 7) (a_l2 : (-1) ≤ l2) (b_l2 : l2 ≤ 2147483647) (a_l3 : 0 ≤ l3) (b_l3 : l3 ≤ 12) (V_h : VS_ h)  (hm : 13 - l3 < (k : Int)), Ok_ (qw_X2_methodIn_2 nn k l1 l2 l3 h) (QP_ (-1) 95) := by
  intro k
  induction k with
  | zero => intros; exfalso; omega
  | succ k ih =>
    intro l1 l2 l3 h a_l1 b_l1 a_l2 b_l2 a_l3 b_l3 V_h hm
    unfold qw_X2_methodIn_2
    refine ok_rd (by omega) (gA_21 V_h) ?_; intro v2 e_v2 a_v2 b_v2
    refine ok_if ?_ ?_
    · intro C0
      exact ok_rP (by omega) (by omega)
    · intro C0
      refine ok_mul (by omega) ?_; intro v5 e_v5
      refine ok_add (by omega) ?_; intro v6 e_v6
      refine ok_rd (by omega) (gA_22 V_h) ?_; intro v7 e_v7 a_v7 b_v7
      refine ok_cP (vf_X9_valueAt hn (by omega) (by omega) V_h) ?_; intro u9 e_u9 a_u9 b_u9
      refine ok_if ?_ ?_
      · intro C1
        refine ok_add (by omega) ?_; intro v10 e_v10
        exact ih (by omega) (by omega) (by omega) (by omega) (by omega) (by omega) V_h (by omega)
      · intro C1
        refine ok_mul (by omega) ?_; intro v11 e_v11
        refine ok_add (by omega) ?_; intro v12 e_v12
        exact ok_rP (by omega) (by omega)
set_option maxRecDepth 4000 in
theorem vf_X2_methodIn {nn : Nat} (hn : 1000000 ≤ nn) {a1 : Int} {a2 : Int} {h : ms_M} (a_a1 : 0 ≤ a1) (b_a1 : a1 ≤ 7) (a_a2 : (-1) ≤ a2) (b_a2 : a2 ≤ 2147483647) (V_h : VS_ h)  : Ok_ (qf_X2_methodIn nn a1 a2 h) (QP_ (-1) 95) := by
  unfold qf_X2_methodIn
  exact vw_X2_methodIn_2 hn _ (by omega) (by omega) (by omega) (by omega) (by omega) (by omega) V_h (by omega)
set_option maxRecDepth 4000 in
theorem vw_X2_methodOf_8 {nn : Nat} (hn : 1000000 ≤ nn) : ∀ (k : Nat) {l2 : Int} {l3 : Int} {l4 : Int} {l5 : Int} {h : ms_M} (a_l2 : (-1) ≤ l2) (b_l2 : l2 ≤ 2147483647) (a_l3 : (-1) ≤ l3) (b_l3 : l3 ≤ 95) (a_l4 : (-1) ≤ l4) (b_l4 : l4 ≤ 441) (a_l5 : 0 ≤ l5) (b_l5 : l5 ≤ 16) (V_h : VS_ h)  (hm : 17 - l5 < (k : Int)), Ok_ (qw_X2_methodOf_8 nn k l2 l3 l4 l5 h) (QP_ (-1) 95) := by
  intro k
  induction k with
  | zero => intros; exfalso; omega
  | succ k ih =>
    intro l2 l3 l4 l5 h a_l2 b_l2 a_l3 b_l3 a_l4 b_l4 a_l5 b_l5 V_h hm
    unfold qw_X2_methodOf_8
    refine ok_if ?_ ?_
    · intro C0
      exact ok_rP (by omega) (by omega)
    · intro C0
      refine ok_cP (vf_X2_isOwn hn (by omega) (by omega) V_h) ?_; intro u1 e_u1 a_u1 b_u1
      have T2 := pr_X2_isOwn e_u1
      refine ok_if ?_ ?_
      · intro C2
        exact ok_rP (by omega) (by omega)
      · intro C2
        refine ok_if ?_ ?_
        · intro C3
          exact ok_rP (by omega) (by omega)
        · intro C3
          refine ok_sub (by omega) ?_; intro v2 e_v2
          refine ok_cP (vf_X2_methodIn hn (by omega) (by omega) (by omega) (by omega) V_h) ?_; intro u4 e_u4 a_u4 b_u4
          refine ok_cP (vf_X4_above hn rfl (by omega) (by omega) V_h) ?_; intro u7 e_u7 a_u7 b_u7
          refine ok_add (by omega) ?_; intro v8 e_v8
          exact ih (by omega) (by omega) (by omega) (by omega) (by omega) (by omega) (by omega) (by omega) V_h (by omega)
set_option maxRecDepth 4000 in
theorem vf_X2_methodOf {nn : Nat} (hn : 1000000 ≤ nn) {a1 : Int} {a2 : Int} {h : ms_M} (a_a1 : (-1) ≤ a1) (b_a1 : a1 ≤ 441) (a_a2 : (-1) ≤ a2) (b_a2 : a2 ≤ 2147483647) (V_h : VS_ h)  : Ok_ (qf_X2_methodOf nn a1 a2 h) (QP_ (-1) 95) := by
  unfold qf_X2_methodOf
  exact vw_X2_methodOf_8 hn _ (by omega) (by omega) (by omega) (by omega) (by omega) (by omega) (by omega) (by omega) V_h (by omega)
set_option maxRecDepth 4000 in
theorem vf_X4_isArray {nn : Nat} (hn : 1000000 ≤ nn) {a0 : Int} {h : ms_M} (a_a0 : (-2147483648) ≤ a0) (b_a0 : a0 ≤ 2147483647) (V_h : VS_ h)  : Ok_ (qf_X4_isArray nn a0 h) (QP_ 0 1) := by
  unfold qf_X4_isArray
  refine ok_if ?_ ?_
  · intro C0
    exact ok_rP (by omega) (by omega)
  · intro C0
    refine ok_if ?_ ?_
    · intro C1
      exact ok_rP (by omega) (by omega)
    · intro C1
      exact ok_rP (by omega) (by omega)
set_option maxRecDepth 4000 in
theorem vj_X10_giveThis_17 {nn : Nat} (hn : 1000000 ≤ nn) {h : ms_M} (V_h : VS_ h) (x_0 : h 34 1 + h 34 3 ≤ 1500000710)  : Ok_ (qj_X10_giveThis_17 nn h) (QVR_ (fun r => (h 2 11 = 0 ∨ ¬ r 2 11 = 0) ∧ (r 34 1 + r 34 3 + 12 * r 49 10 + 20 * h 2 10 ≤ h 34 1 + h 34 3 + 12 * h 49 10 + 20 * r 2 10 + 3))) := by
  unfold qj_X10_giveThis_17
  have T1 := gF_2_10 V_h
  have T2 := gF_2_11 V_h
  have T3 := gF_34_1 V_h
  have T4 := gF_34_3 V_h
  have T5 := gF_49_10 V_h
  refine ok_cVR (vf_X1_op_ hn (by omega) (by omega) (by omega) (by omega) V_h (by omega)) ?_; intro u3 E_u3 V_u3 R_u3
  have T6 : u3 2 10 = h 2 10 := (ff_X1_op_ nn) _ E_u3 2 10 rfl
  have T7 : u3 2 11 = h 2 11 := (ff_X1_op_ nn) _ E_u3 2 11 rfl
  have T8 : u3 34 3 = h 34 3 := (ff_X1_op_ nn) _ E_u3 34 3 rfl
  have T9 : u3 49 10 = h 49 10 := (ff_X1_op_ nn) _ E_u3 49 10 rfl
  have T10 := gF_34_1 V_u3
  have T11 := gF_49_16 V_u3
  refine ok_cVR (vf_X10_give hn (by omega) (by omega) V_u3 (by omega)) ?_; intro u6 E_u6 V_u6 R_u6
  have T12 : u6 2 10 = u3 2 10 := (ff_X10_give nn) _ E_u6 2 10 rfl
  have T13 : u6 2 11 = u3 2 11 := (ff_X10_give nn) _ E_u6 2 11 rfl
  have T14 : u6 49 10 = u3 49 10 := (ff_X10_give nn) _ E_u6 49 10 rfl
  have T15 : u6 34 1 = u3 34 1 := (ff_X10_give nn) _ E_u6 34 1 rfl
  have T16 := gF_34_3 V_u6
  exact ok_rVR V_u6 (by omega)
set_option maxRecDepth 4000 in
theorem vf_X10_giveThis {nn : Nat} (hn : 1000000 ≤ nn) {a1 : Int} {h : ms_M} (a_a1 : 0 ≤ a1) (b_a1 : a1 ≤ 50000000) (V_h : VS_ h) (x_0 : h 34 1 + h 34 3 ≤ 1500000700)  : Ok_ (qf_X10_giveThis nn a1 h) (QVR_ (fun r => (h 2 11 = 0 ∨ ¬ r 2 11 = 0) ∧ (r 34 1 + r 34 3 + 12 * r 49 10 + 20 * h 2 10 ≤ h 34 1 + h 34 3 + 12 * h 49 10 + 20 * r 2 10 + 3))) := by
  unfold qf_X10_giveThis
  have T1 := gF_2_10 V_h
  have T2 := gF_2_11 V_h
  have T3 := gF_34_1 V_h
  have T4 := gF_34_3 V_h
  have T5 := gF_49_10 V_h
  have T6 := gF_49_17 V_h
  refine ok_if ?_ ?_
  · intro C6
    exact ok_mV (vj_X10_giveThis_17 hn V_h (by omega)) (fun _ V_r R_r => by have := gF_2_10 V_r; have := gF_2_11 V_r; have := gF_34_1 V_r; have := gF_34_3 V_r; have := gF_49_10 V_r; omega)
  · intro C6
    refine ok_cVR (vf_X9_tell hn (by omega) (by omega) (by omega) (by omega) V_h) ?_; intro u10 E_u10 V_u10 R_u10
    have T8 : u10 2 10 = h 2 10 := (ff_X9_tell nn) _ E_u10 2 10 rfl
    have T9 : u10 34 1 = h 34 1 := (ff_X9_tell nn) _ E_u10 34 1 rfl
    have T10 : u10 34 3 = h 34 3 := (ff_X9_tell nn) _ E_u10 34 3 rfl
    have T11 : u10 49 10 = h 49 10 := (ff_X9_tell nn) _ E_u10 49 10 rfl
    have T12 := gF_2_11 V_u10
    exact ok_mV (vj_X10_giveThis_17 hn V_u10 (by omega)) (fun _ V_r R_r => by have := gF_2_10 V_r; have := gF_2_11 V_r; have := gF_34_1 V_r; have := gF_34_3 V_r; have := gF_49_10 V_r; omega)
set_option maxRecDepth 4000 in
theorem vf_X6_numberOf {nn : Nat} (hn : 1000000 ≤ nn) {a1 : Int} {h : ms_M} (a_a1 : 128 ≤ a1) (b_a1 : a1 ≤ 2147483647) (V_h : VS_ h)  : Ok_ (qf_X6_numberOf nn a1 h) (QI_ 0 200) := by
  unfold qf_X6_numberOf
  refine ok_cI (vf_X6_constant hn (by omega) (by omega) (by omega) (by omega) V_h) ?_; intro u2 E_u2 V_u2 a_u2 b_u2
  exact ok_rI V_u2 (by omega) (by omega)
set_option maxRecDepth 4000 in
theorem vj_X10_readNumber_54 {nn : Nat} (hn : 1000000 ≤ nn) {h : ms_M} (V_h : VS_ h) (x_0 : h 34 1 + h 34 3 ≤ 1500000712)  : Ok_ (qj_X10_readNumber_54 nn h) (QVR_ (fun r => (r 34 1 + r 34 3 + 12 * r 49 10 + 20 * h 2 10 ≤ h 34 1 + h 34 3 + 12 * h 49 10 + 20 * r 2 10 + 1))) := by
  unfold qj_X10_readNumber_54
  have T1 := gF_2_10 V_h
  have T2 := gF_34_1 V_h
  have T3 := gF_34_3 V_h
  have T4 := gF_49_10 V_h
  refine ok_cVR (vf_X10_give hn (by omega) (by omega) V_h (by omega)) ?_; intro u2 E_u2 V_u2 R_u2
  have T5 : u2 2 10 = h 2 10 := (ff_X10_give nn) _ E_u2 2 10 rfl
  have T6 : u2 34 1 = h 34 1 := (ff_X10_give nn) _ E_u2 34 1 rfl
  have T7 : u2 49 10 = h 49 10 := (ff_X10_give nn) _ E_u2 49 10 rfl
  have T8 := gF_34_3 V_u2
  exact ok_rVR V_u2 (by omega)
set_option maxRecDepth 4000 in
theorem vf_X10_readNumber {nn : Nat} (hn : 1000000 ≤ nn) {a1 : Int} {h : ms_M} (a_a1 : 0 ≤ a1) (b_a1 : a1 ≤ 2147483647) (V_h : VS_ h) (x_0 : h 34 1 + h 34 3 ≤ 1500000700)  : Ok_ (qf_X10_readNumber nn a1 h) (QVR_ (fun r => (r 34 1 + r 34 3 + 12 * r 49 10 + 20 * h 2 10 ≤ h 34 1 + h 34 3 + 12 * h 49 10 + 20 * r 2 10 + 3))) := by
  unfold qf_X10_readNumber
  have T1 := gF_2_10 V_h
  have T2 := gF_34_1 V_h
  have T3 := gF_34_3 V_h
  have T4 := gF_49_10 V_h
  refine ok_if ?_ ?_
  · intro C4
    refine ok_if ?_ ?_
    · intro C5
      refine ok_cI (vf_X6_numberOf hn (by omega) (by omega) V_h) ?_; intro u6 E_u6 V_u6 a_u6 b_u6
      have T7 : u6.2 2 10 = h 2 10 := (ff_X6_numberOf nn) _ E_u6 2 10 rfl
      have T8 : u6.2 34 1 = h 34 1 := (ff_X6_numberOf nn) _ E_u6 34 1 rfl
      have T9 : u6.2 34 3 = h 34 3 := (ff_X6_numberOf nn) _ E_u6 34 3 rfl
      have T10 : u6.2 49 10 = h 49 10 := (ff_X6_numberOf nn) _ E_u6 49 10 rfl
      refine ok_cVR (vf_X1_op_ hn (by omega) (by omega) (by omega) (by omega) V_u6 (by omega)) ?_; intro u8 E_u8 V_u8 R_u8
      have T11 : u8 2 10 = u6.2 2 10 := (ff_X1_op_ nn) _ E_u8 2 10 rfl
      have T12 : u8 34 3 = u6.2 34 3 := (ff_X1_op_ nn) _ E_u8 34 3 rfl
      have T13 : u8 49 10 = u6.2 49 10 := (ff_X1_op_ nn) _ E_u8 49 10 rfl
      have T14 := gF_34_1 V_u8
      exact ok_mV (vj_X10_readNumber_54 hn V_u8 (by omega)) (fun _ V_r R_r => by have := gF_2_10 V_r; have := gF_34_1 V_r; have := gF_34_3 V_r; have := gF_49_10 V_r; omega)
    · intro C5
      refine ok_cVR (vf_X1_op_ hn (by omega) (by omega) (by omega) (by omega) V_h (by omega)) ?_; intro u11 E_u11 V_u11 R_u11
      have T15 : u11 2 10 = h 2 10 := (ff_X1_op_ nn) _ E_u11 2 10 rfl
      have T16 : u11 34 3 = h 34 3 := (ff_X1_op_ nn) _ E_u11 34 3 rfl
      have T17 : u11 49 10 = h 49 10 := (ff_X1_op_ nn) _ E_u11 49 10 rfl
      have T18 := gF_34_1 V_u11
      exact ok_mV (vj_X10_readNumber_54 hn V_u11 (by omega)) (fun _ V_r R_r => by have := gF_2_10 V_r; have := gF_34_1 V_r; have := gF_34_3 V_r; have := gF_49_10 V_r; omega)
  · intro C4
    refine ok_add (by omega) ?_; intro v14 e_v14
    refine ok_cVR (vf_X1_op hn (by omega) (by omega) V_h (by omega)) ?_; intro u16 E_u16 V_u16 R_u16
    have T19 : u16 2 10 = h 2 10 := (ff_X1_op nn) _ E_u16 2 10 rfl
    have T20 : u16 34 3 = h 34 3 := (ff_X1_op nn) _ E_u16 34 3 rfl
    have T21 : u16 49 10 = h 49 10 := (ff_X1_op nn) _ E_u16 49 10 rfl
    have T22 := gF_34_1 V_u16
    exact ok_mV (vj_X10_readNumber_54 hn V_u16 (by omega)) (fun _ V_r R_r => by have := gF_2_10 V_r; have := gF_34_1 V_r; have := gF_34_3 V_r; have := gF_49_10 V_r; omega)
set_option maxRecDepth 4000 in
theorem vf_X10_readConstant {nn : Nat} (hn : 1000000 ≤ nn) {h : ms_M} (V_h : VS_ h) (x_0 : h 34 1 + h 34 3 ≤ 1500000600) (x_1 : h 2 10 ≤ 45000000)  : Ok_ (qf_X10_readConstant nn h) (QVR_ (fun r => (h 2 11 = 0 ∨ ¬ r 2 11 = 0) ∧ (r 34 1 + r 34 3 + 12 * r 49 10 + 20 * h 2 10 ≤ h 34 1 + h 34 3 + 12 * h 49 10 + 20 * r 2 10 + (-17)) ∧ (r 2 10 = h 2 10 + 1))) := by
  unfold qf_X10_readConstant
  have T1 := gF_2_10 V_h
  have T2 := gF_2_11 V_h
  have T3 := gF_34_1 V_h
  have T4 := gF_34_3 V_h
  have T5 := gF_49_10 V_h
  refine ok_add (by omega) ?_; intro v5 e_v5
  refine ok_xl ?_; intro h6 E_h6; have V_h6 : VS_ h6 := by rw [E_h6]; exact wF_2_10 V_h (by omega)
  have T6 : h6 2 11 = h 2 11 := by rw [E_h6]; exact up_n (by decide)
  have T7 : h6 34 1 = h 34 1 := by rw [E_h6]; exact up_n (by decide)
  have T8 : h6 34 3 = h 34 3 := by rw [E_h6]; exact up_n (by decide)
  have T9 : h6 49 10 = h 49 10 := by rw [E_h6]; exact up_n (by decide)
  have T10 : h6 2 10 = v5 := by rw [E_h6]; exact up_s
  refine ok_cP (vf_X9_kindAt hn (by omega) (by omega) V_h6) ?_; intro u9 e_u9 a_u9 b_u9
  have T11 := lm_X9_kindAt e_u9
  refine ok_if ?_ ?_
  · intro C11
    refine ok_cP (vf_X9_valueAt hn (by omega) (by omega) V_h6) ?_; intro u14 e_u14 a_u14 b_u14
    refine ok_cVR (vf_X10_readNumber hn (by omega) (by omega) V_h6 (by omega)) ?_; intro u16 E_u16 V_u16 R_u16
    have T13 : u16 2 11 = h6 2 11 := (ff_X10_readNumber nn) _ E_u16 2 11 rfl
    have T14 : u16 49 10 = h6 49 10 := (ff_X10_readNumber nn) _ E_u16 49 10 rfl
    have T15 : u16 2 10 = h6 2 10 := (ff_X10_readNumber nn) _ E_u16 2 10 rfl
    have T16 := gF_34_1 V_u16
    have T17 := gF_34_3 V_u16
    exact ok_rVR V_u16 (by omega)
  · intro C11
    refine ok_if ?_ ?_
    · intro C17
      refine ok_cVR (vf_X1_op hn (by omega) (by omega) V_h6 (by omega)) ?_; intro u19 E_u19 V_u19 R_u19
      have T19 : u19 2 11 = h6 2 11 := (ff_X1_op nn) _ E_u19 2 11 rfl
      have T20 : u19 34 3 = h6 34 3 := (ff_X1_op nn) _ E_u19 34 3 rfl
      have T21 : u19 49 10 = h6 49 10 := (ff_X1_op nn) _ E_u19 49 10 rfl
      have T22 : u19 2 10 = h6 2 10 := (ff_X1_op nn) _ E_u19 2 10 rfl
      have T23 := gF_34_1 V_u19
      refine ok_cVR (vf_X10_give hn (by omega) (by omega) V_u19 (by omega)) ?_; intro u21 E_u21 V_u21 R_u21
      have T24 : u21 2 11 = u19 2 11 := (ff_X10_give nn) _ E_u21 2 11 rfl
      have T25 : u21 49 10 = u19 49 10 := (ff_X10_give nn) _ E_u21 49 10 rfl
      have T26 : u21 2 10 = u19 2 10 := (ff_X10_give nn) _ E_u21 2 10 rfl
      have T27 : u21 34 1 = u19 34 1 := (ff_X10_give nn) _ E_u21 34 1 rfl
      have T28 := gF_34_3 V_u21
      exact ok_rVR V_u21 (by omega)
    · intro C17
      refine ok_if ?_ ?_
      · intro C28
        refine ok_cVR (vf_X1_op hn (by omega) (by omega) V_h6 (by omega)) ?_; intro u24 E_u24 V_u24 R_u24
        have T30 : u24 2 11 = h6 2 11 := (ff_X1_op nn) _ E_u24 2 11 rfl
        have T31 : u24 34 3 = h6 34 3 := (ff_X1_op nn) _ E_u24 34 3 rfl
        have T32 : u24 49 10 = h6 49 10 := (ff_X1_op nn) _ E_u24 49 10 rfl
        have T33 : u24 2 10 = h6 2 10 := (ff_X1_op nn) _ E_u24 2 10 rfl
        have T34 := gF_34_1 V_u24
        refine ok_cVR (vf_X10_give hn (by omega) (by omega) V_u24 (by omega)) ?_; intro u26 E_u26 V_u26 R_u26
        have T35 : u26 2 11 = u24 2 11 := (ff_X10_give nn) _ E_u26 2 11 rfl
        have T36 : u26 49 10 = u24 49 10 := (ff_X10_give nn) _ E_u26 49 10 rfl
        have T37 : u26 2 10 = u24 2 10 := (ff_X10_give nn) _ E_u26 2 10 rfl
        have T38 : u26 34 1 = u24 34 1 := (ff_X10_give nn) _ E_u26 34 1 rfl
        have T39 := gF_34_3 V_u26
        exact ok_rVR V_u26 (by omega)
      · intro C28
        refine ok_if ?_ ?_
        · intro C39
          refine ok_cVR (vf_X1_op hn (by omega) (by omega) V_h6 (by omega)) ?_; intro u29 E_u29 V_u29 R_u29
          have T41 : u29 2 11 = h6 2 11 := (ff_X1_op nn) _ E_u29 2 11 rfl
          have T42 : u29 34 3 = h6 34 3 := (ff_X1_op nn) _ E_u29 34 3 rfl
          have T43 : u29 49 10 = h6 49 10 := (ff_X1_op nn) _ E_u29 49 10 rfl
          have T44 : u29 2 10 = h6 2 10 := (ff_X1_op nn) _ E_u29 2 10 rfl
          have T45 := gF_34_1 V_u29
          refine ok_cVR (vf_X10_give hn (by omega) (by omega) V_u29 (by omega)) ?_; intro u31 E_u31 V_u31 R_u31
          have T46 : u31 2 11 = u29 2 11 := (ff_X10_give nn) _ E_u31 2 11 rfl
          have T47 : u31 49 10 = u29 49 10 := (ff_X10_give nn) _ E_u31 49 10 rfl
          have T48 : u31 2 10 = u29 2 10 := (ff_X10_give nn) _ E_u31 2 10 rfl
          have T49 : u31 34 1 = u29 34 1 := (ff_X10_give nn) _ E_u31 34 1 rfl
          have T50 := gF_34_3 V_u31
          exact ok_rVR V_u31 (by omega)
        · intro C39
          refine ok_cVR (vf_X10_giveThis hn (by omega) (by omega) V_h6 (by omega)) ?_; intro u11 E_u11 V_u11 R_u11
          have T51 : u11 49 10 = h6 49 10 := (ff_X10_giveThis nn) _ E_u11 49 10 rfl
          have T52 : u11 2 10 = h6 2 10 := (ff_X10_giveThis nn) _ E_u11 2 10 rfl
          have T53 := gF_2_11 V_u11
          have T54 := gF_34_1 V_u11
          have T55 := gF_34_3 V_u11
          exact ok_rVR V_u11 (by omega)
set_option maxRecDepth 4000 in
theorem vf_X4_elementOf {nn : Nat} (hn : 1000000 ≤ nn) {a0 : Int} {h : ms_M} (a_a0 : (-2147483648) ≤ a0) (b_a0 : a0 ≤ 2147483647) (V_h : VS_ h)  : Ok_ (qf_X4_elementOf nn a0 h) (QP_ 0 305) := by
  unfold qf_X4_elementOf
  refine ok_if ?_ ?_
  · intro C0
    refine ok_if ?_ ?_
    · intro C1
      exact ok_rP (by omega) (by omega)
    · intro C1
      refine ok_if ?_ ?_
      · intro C2
        exact ok_rP (by omega) (by omega)
      · intro C2
        refine ok_sub (by omega) ?_; intro v1 e_v1
        exact ok_rP (by omega) (by omega)
  · intro C0
    exact ok_rP (by omega) (by omega)
set_option maxRecDepth 4000 in
theorem vf_X10_isCallBehindPoint {nn : Nat} (hn : 1000000 ≤ nn) {a1 : Int} {h : ms_M} (a_a1 : 1 ≤ a1) (b_a1 : a1 ≤ 50000001) (V_h : VS_ h)  : Ok_ (qf_X10_isCallBehindPoint nn a1 h) (QP_ 0 1) := by
  unfold qf_X10_isCallBehindPoint
  refine ok_cP (vf_X9_kindAt hn (by omega) (by omega) V_h) ?_; intro u3 e_u3 a_u3 b_u3
  have T1 := lm_X9_kindAt e_u3
  refine ok_if ?_ ?_
  · intro C1
    exact ok_rP (by omega) (by omega)
  · intro C1
    refine ok_add (by omega) ?_; intro v5 e_v5
    refine ok_cP (vf_X9_kindAt hn (by omega) (by omega) V_h) ?_; intro u7 e_u7 a_u7 b_u7
    have T3 := lm_X9_kindAt e_u7
    refine ok_if ?_ ?_
    · intro C3
      exact ok_rP (by omega) (by omega)
    · intro C3
      refine ok_add (by omega) ?_; intro v9 e_v9
      refine ok_cP (vf_X9_kindAt hn (by omega) (by omega) V_h) ?_; intro u11 e_u11 a_u11 b_u11
      have T5 := lm_X9_kindAt e_u11
      refine ok_if ?_ ?_
      · intro C5
        exact ok_rP (by omega) (by omega)
      · intro C5
        exact ok_rP (by omega) (by omega)
set_option maxRecDepth 4000 in
theorem vf_X10_methodNamed {nn : Nat} (hn : 1000000 ≤ nn) {a1 : Int} {a2 : Int} {h : ms_M} (a_a1 : (-1) ≤ a1) (b_a1 : a1 ≤ 341) (a_a2 : 0 ≤ a2) (b_a2 : a2 ≤ 50000002) (V_h : VS_ h)  : Ok_ (qf_X10_methodNamed nn a1 a2 h) (QIR_ (-1) 95 (fun u r => (h 2 11 = 0 ∨ ¬ r 2 11 = 0))) := by
  unfold qf_X10_methodNamed
  have T1 := gF_2_11 V_h
  refine ok_cP (vf_X9_valueAt hn (by omega) (by omega) V_h) ?_; intro u4 e_u4 a_u4 b_u4
  refine ok_cP (vf_X2_methodOf hn (by omega) (by omega) (by omega) (by omega) V_h) ?_; intro u6 e_u6 a_u6 b_u6
  refine ok_if ?_ ?_
  · intro C1
    exact ok_rIR V_h (by omega) (by omega) (by omega)
  · intro C1
    refine ok_cVR (vf_X9_tell hn (by omega) (by omega) (by omega) (by omega) V_h) ?_; intro u9 E_u9 V_u9 R_u9
    have T3 := gF_2_11 V_u9
    exact ok_rIR V_u9 (by omega) (by omega) (by omega)
set_option maxRecDepth 4000 in
theorem vw_X1_localOf_15 {nn : Nat} (hn : 1000000 ≤ nn) : ∀ (k : Nat) {l1 : Int} {l2 : Int} {h : ms_M} (a_l1 : 0 ≤ l1) (b_l1 : l1 ≤ 2147483647) (a_l2 : (-1) ≤ l2) (b_l2 : l2 ≤ 749) (V_h : VS_ h)  (hm : l2 - (-2) < (k : Int)), Ok_ (qw_X1_localOf_15 nn k l1 l2 h) (QP_ (-1) 749) := by
  intro k
  induction k with
  | zero => intros; exfalso; omega
  | succ k ih =>
    intro l1 l2 h a_l1 b_l1 a_l2 b_l2 V_h hm
    unfold qw_X1_localOf_15
    refine ok_if ?_ ?_
    · intro C0
      exact ok_rP (by omega) (by omega)
    · intro C0
      refine ok_rd (by omega) (gA_37 V_h) ?_; intro v2 e_v2 a_v2 b_v2
      refine ok_if ?_ ?_
      · intro C1
        refine ok_add (by omega) ?_; intro v3 e_v3
        exact ih (by omega) (by omega) (by omega) (by omega) V_h (by omega)
      · intro C1
        exact ok_rP (by omega) (by omega)
set_option maxRecDepth 4000 in
theorem vf_X1_localOf {nn : Nat} (hn : 1000000 ≤ nn) {a1 : Int} {h : ms_M} (a_a1 : 0 ≤ a1) (b_a1 : a1 ≤ 2147483647) (V_h : VS_ h)  : Ok_ (qf_X1_localOf nn a1 h) (QP_ (-1) 749) := by
  unfold qf_X1_localOf
  have T1 := gF_34_7 V_h
  refine ok_ite ?_; intro v9 e_v9
  refine ok_sub (by omega) ?_; intro v10 e_v10
  exact vw_X1_localOf_15 hn _ (by omega) (by omega) (by omega) (by omega) V_h (by omega)
set_option maxRecDepth 4000 in
theorem vf_X1_typeOfLocal {nn : Nat} (hn : 1000000 ≤ nn) {a1 : Int} {h : ms_M} (a_a1 : 0 ≤ a1) (b_a1 : a1 ≤ 749) (V_h : VS_ h)  : Ok_ (qf_X1_typeOfLocal nn a1 h) (QP_ (-1) 441) := by
  unfold qf_X1_typeOfLocal
  refine ok_if ?_ ?_
  · intro C0
    exfalso; omega
  · intro C0
    refine ok_if ?_ ?_
    · intro C1
      exfalso; omega
    · intro C1
      refine ok_rd (by omega) (gA_38 V_h) ?_; intro v4 e_v4 a_v4 b_v4
      exact ok_rP (by omega) (by omega)
set_option maxRecDepth 4000 in
theorem vj_X9_beginsCast_140 {nn : Nat} (hn : 1000000 ≤ nn) {h : ms_M} (V_h : VS_ h)  : Ok_ (qj_X9_beginsCast_140 nn h) (QP_ 0 1) := by
  unfold qj_X9_beginsCast_140
  exact ok_rP (by omega) (by omega)
set_option maxRecDepth 4000 in
theorem vf_X9_beginsCast {nn : Nat} (hn : 1000000 ≤ nn) {h : ms_M} (V_h : VS_ h)  : Ok_ (qf_X9_beginsCast nn h) (QP_ 0 1) := by
  unfold qf_X9_beginsCast
  refine ok_cP (vf_X9_kind hn V_h) ?_; intro u2 e_u2 a_u2 b_u2
  have T1 := lm_X9_kind e_u2
  refine ok_if ?_ ?_
  · intro C1
    exact ok_rP (by omega) (by omega)
  · intro C1
    have T3 := gF_2_10 V_h
    refine ok_add (by omega) ?_; intro v4 e_v4
    refine ok_cP (vf_X9_kindAt hn (by omega) (by omega) V_h) ?_; intro u6 e_u6 a_u6 b_u6
    have T4 := lm_X9_kindAt e_u6
    refine ok_if ?_ ?_
    · intro C4
      exact ok_rP (by omega) (by omega)
    · intro C4
      refine ok_add (by omega) ?_; intro v8 e_v8
      refine ok_cP (vf_X9_kindAt hn (by omega) (by omega) V_h) ?_; intro u10 e_u10 a_u10 b_u10
      have T6 := lm_X9_kindAt e_u10
      refine ok_if ?_ ?_
      · intro C6
        refine ok_add (by omega) ?_; intro v12 e_v12
        refine ok_cP (vf_X9_kindAt hn (by omega) (by omega) V_h) ?_; intro u14 e_u14 a_u14 b_u14
        have T8 := lm_X9_kindAt e_u14
        refine ok_if ?_ ?_
        · intro C8
          exact vj_X9_beginsCast_140 hn V_h
        · intro C8
          refine ok_if ?_ ?_
          · intro C9
            exact vj_X9_beginsCast_140 hn V_h
          · intro C9
            refine ok_if ?_ ?_
            · intro C10
              exact vj_X9_beginsCast_140 hn V_h
            · intro C10
              refine ok_if ?_ ?_
              · intro C11
                exact vj_X9_beginsCast_140 hn V_h
              · intro C11
                refine ok_if ?_ ?_
                · intro C12
                  exact vj_X9_beginsCast_140 hn V_h
                · intro C12
                  refine ok_if ?_ ?_
                  · intro C13
                    exact vj_X9_beginsCast_140 hn V_h
                  · intro C13
                    refine ok_if ?_ ?_
                    · intro C14
                      exact vj_X9_beginsCast_140 hn V_h
                    · intro C14
                      refine ok_if ?_ ?_
                      · intro C15
                        exact vj_X9_beginsCast_140 hn V_h
                      · intro C15
                        refine ok_if ?_ ?_
                        · intro C16
                          exact vj_X9_beginsCast_140 hn V_h
                        · intro C16
                          refine ok_if ?_ ?_
                          · intro C17
                            exact vj_X9_beginsCast_140 hn V_h
                          · intro C17
                            exact ok_rP (by omega) (by omega)
      · intro C6
        exact ok_rP (by omega) (by omega)
set_option maxRecDepth 4000 in
def GH_X10_readValue (g : Int) (rc : tq_X10_readValue) : Prop := (∀ {a1 : Int} {h : ms_M} (a_a1 : 1 ≤ a1) (b_a1 : a1 ≤ 43) (V_h : VS_ h) (x_0 : (9 * (44 - a1) + 2) ≤ g) (x_1 : h 2 10 + 20000 * (9 * (44 - a1) + 2) ≤ 40000000) (x_2 : h 34 1 + h 34 3 + 12 * h 49 10 + 100 * (9 * (44 - a1) + 2) ≤ 20 * h 2 10 + 100000), Ok_ (rc.1 a1 h) (QVR_ (fun r => (r 2 3 = h 2 3) ∧ (h 2 11 = 0 ∨ ¬ r 2 11 = 0) ∧ (h 2 10 ≤ r 2 10) ∧ (r 34 1 + r 34 3 + 12 * r 49 10 + 20 * h 2 10 ≤ h 34 1 + h 34 3 + 12 * h 49 10 + 20 * r 2 10 + 0) ∧ (((h 2 11 = 0 ∧ h 2 10 < h 2 3) ∧ r 2 10 ≤ 3001 + 20000 * (9 * (44 - a1) + 2)) ∨ (¬ (h 2 11 = 0 ∧ h 2 10 < h 2 3) ∧ r 2 10 ≤ h 2 10 + 1))))) ∧
  (∀ {a1 : Int} {a2 : Int} {h : ms_M} (a_a1 : 0 ≤ a1) (b_a1 : a1 ≤ 50000000) (a_a2 : 1 ≤ a2) (b_a2 : a2 ≤ 43) (V_h : VS_ h) (x_0 : (9 * (44 - a2) + 1) ≤ g) (x_1 : h 2 10 + 20000 * (9 * (44 - a2) + 1) ≤ 40000000) (x_2 : h 34 1 + h 34 3 + 12 * h 49 10 + 100 * (9 * (44 - a2) + 1) ≤ 20 * h 2 10 + 100000) (x_3 : (h 2 11 = 0 ∧ h 2 10 < h 2 3)) (x_4 : a2 ≤ 42), Ok_ (rc.2.1 a1 a2 h) (QVR_ (fun r => (r 2 3 = h 2 3) ∧ (h 2 11 = 0 ∨ ¬ r 2 11 = 0) ∧ (h 2 10 ≤ r 2 10) ∧ (r 34 1 + r 34 3 + 12 * r 49 10 + 20 * h 2 10 ≤ h 34 1 + h 34 3 + 12 * h 49 10 + 20 * r 2 10 + (-33)) ∧ (r 2 10 ≤ 3001 + 20000 * (9 * (44 - a2) + 1))))) ∧
  (∀ {a1 : Int} {h : ms_M} (a_a1 : 1 ≤ a1) (b_a1 : a1 ≤ 43) (V_h : VS_ h) (x_0 : (9 * (44 - a1) + 6) ≤ g) (x_1 : h 2 10 + 20000 * (9 * (44 - a1) + 6) ≤ 40000000) (x_2 : h 34 1 + h 34 3 + 12 * h 49 10 + 100 * (9 * (44 - a1) + 6) ≤ 20 * h 2 10 + 100000), Ok_ (rc.2.2.1 a1 h) (QVR_ (fun r => (r 2 3 = h 2 3) ∧ (h 2 11 = 0 ∨ ¬ r 2 11 = 0) ∧ (h 2 10 ≤ r 2 10) ∧ (r 34 1 + r 34 3 + 12 * r 49 10 + 20 * h 2 10 ≤ h 34 1 + h 34 3 + 12 * h 49 10 + 20 * r 2 10 + 0) ∧ (((h 2 11 = 0 ∧ h 2 10 < h 2 3) ∧ r 2 10 ≤ 3001 + 20000 * (9 * (44 - a1) + 6)) ∨ (¬ (h 2 11 = 0 ∧ h 2 10 < h 2 3) ∧ r 2 10 ≤ h 2 10 + 1))))) ∧
  (∀ {a1 : Int} {h : ms_M} (a_a1 : 1 ≤ a1) (b_a1 : a1 ≤ 43) (V_h : VS_ h) (x_0 : (9 * (44 - a1) + 5) ≤ g) (x_1 : h 2 10 + 20000 * (9 * (44 - a1) + 5) ≤ 40000000) (x_2 : h 34 1 + h 34 3 + 12 * h 49 10 + 100 * (9 * (44 - a1) + 5) ≤ 20 * h 2 10 + 100000), Ok_ (rc.2.2.2.1 a1 h) (QVR_ (fun r => (r 2 3 = h 2 3) ∧ (h 2 11 = 0 ∨ ¬ r 2 11 = 0) ∧ (h 2 10 ≤ r 2 10) ∧ (r 34 1 + r 34 3 + 12 * r 49 10 + 20 * h 2 10 ≤ h 34 1 + h 34 3 + 12 * h 49 10 + 20 * r 2 10 + (-14)) ∧ (((h 2 11 = 0 ∧ h 2 10 < h 2 3) ∧ r 2 10 ≤ 3001 + 20000 * (9 * (44 - a1) + 5)) ∨ (¬ (h 2 11 = 0 ∧ h 2 10 < h 2 3) ∧ r 2 10 ≤ h 2 10 + 1))))) ∧
  (∀ {a1 : Int} {h : ms_M} (a_a1 : 1 ≤ a1) (b_a1 : a1 ≤ 43) (V_h : VS_ h) (x_0 : (9 * (44 - a1) + 3) ≤ g) (x_1 : h 2 10 + 20000 * (9 * (44 - a1) + 3) ≤ 40000000) (x_2 : h 34 1 + h 34 3 + 12 * h 49 10 + 100 * (9 * (44 - a1) + 3) ≤ 20 * h 2 10 + 100000) (x_3 : (h 2 11 = 0 ∧ h 2 10 < h 2 3)), Ok_ (rc.2.2.2.2.1 a1 h) (QVR_ (fun r => (r 2 3 = h 2 3) ∧ (h 2 11 = 0 ∨ ¬ r 2 11 = 0) ∧ (h 2 10 ≤ r 2 10) ∧ (r 34 1 + r 34 3 + 12 * r 49 10 + 20 * h 2 10 ≤ h 34 1 + h 34 3 + 12 * h 49 10 + 20 * r 2 10 + (-17)) ∧ (r 2 10 ≤ 3001 + 20000 * (9 * (44 - a1) + 3))))) ∧
  (∀ {a1 : Int} {h : ms_M} (a_a1 : 1 ≤ a1) (b_a1 : a1 ≤ 43) (V_h : VS_ h) (x_0 : (9 * (44 - a1) + 3) ≤ g) (x_1 : h 2 10 + 20000 * (9 * (44 - a1) + 3) ≤ 40000000) (x_2 : h 34 1 + h 34 3 + 12 * h 49 10 + 100 * (9 * (44 - a1) + 3) ≤ 20 * h 2 10 + 100000) (x_3 : (h 2 11 = 0 ∧ h 2 10 < h 2 3)), Ok_ (rc.2.2.2.2.2.1 a1 h) (QVR_ (fun r => (r 2 3 = h 2 3) ∧ (h 2 11 = 0 ∨ ¬ r 2 11 = 0) ∧ (h 2 10 ≤ r 2 10) ∧ (r 34 1 + r 34 3 + 12 * r 49 10 + 20 * h 2 10 ≤ h 34 1 + h 34 3 + 12 * h 49 10 + 20 * r 2 10 + (-40)) ∧ (r 2 10 ≤ 3001 + 20000 * (9 * (44 - a1) + 3))))) ∧
  (∀ {a1 : Int} {h : ms_M} (a_a1 : 1 ≤ a1) (b_a1 : a1 ≤ 43) (V_h : VS_ h) (x_0 : (9 * (44 - a1) + 4) ≤ g) (x_1 : h 2 10 + 20000 * (9 * (44 - a1) + 4) ≤ 40000000) (x_2 : h 34 1 + h 34 3 + 12 * h 49 10 + 100 * (9 * (44 - a1) + 4) ≤ 20 * h 2 10 + 100000) (x_3 : (h 2 11 = 0 ∧ h 2 10 < h 2 3)), Ok_ (rc.2.2.2.2.2.2.1 a1 h) (QVR_ (fun r => (r 2 3 = h 2 3) ∧ (h 2 11 = 0 ∨ ¬ r 2 11 = 0) ∧ (h 2 10 ≤ r 2 10) ∧ (r 34 1 + r 34 3 + 12 * r 49 10 + 20 * h 2 10 ≤ h 34 1 + h 34 3 + 12 * h 49 10 + 20 * r 2 10 + (-17)) ∧ (r 2 10 ≤ 3001 + 20000 * (9 * (44 - a1) + 4))))) ∧
  (∀ {a1 : Int} {a2 : Int} {h : ms_M} (a_a1 : 0 ≤ a1) (b_a1 : a1 ≤ 50000000) (a_a2 : 1 ≤ a2) (b_a2 : a2 ≤ 43) (V_h : VS_ h) (x_0 : (9 * (44 - a2) + 4) ≤ g) (x_1 : h 2 10 + 20000 * (9 * (44 - a2) + 4) ≤ 40000000) (x_2 : h 34 1 + h 34 3 + 12 * h 49 10 + 100 * (9 * (44 - a2) + 4) ≤ 20 * h 2 10 + 100000) (x_3 : (h 2 11 = 0 ∧ h 2 10 < h 2 3)), Ok_ (rc.2.2.2.2.2.2.2.1 a1 a2 h) (QVR_ (fun r => (r 2 3 = h 2 3) ∧ (h 2 11 = 0 ∨ ¬ r 2 11 = 0) ∧ (h 2 10 ≤ r 2 10) ∧ (r 34 1 + r 34 3 + 12 * r 49 10 + 20 * h 2 10 ≤ h 34 1 + h 34 3 + 12 * h 49 10 + 20 * r 2 10 + (-38)) ∧ (r 2 10 ≤ 3001 + 20000 * (9 * (44 - a2) + 4))))) ∧
  (∀ {a1 : Int} {a2 : Int} {a3 : Int} {a4 : Int} {a5 : Int} {a6 : Int} {h : ms_M} (a_a1 : (-1) ≤ a1) (b_a1 : a1 ≤ 441) (a_a2 : (-1) ≤ a2) (b_a2 : a2 ≤ 95) (a_a3 : 0 ≤ a3) (b_a3 : a3 ≤ 50000002) (a_a4 : 0 ≤ a4) (b_a4 : a4 ≤ 2) (a_a5 : 0 ≤ a5) (b_a5 : a5 ≤ 50000000) (a_a6 : 1 ≤ a6) (b_a6 : a6 ≤ 43) (V_h : VS_ h) (x_0 : (9 * (44 - a6) + 3) ≤ g) (x_1 : h 2 10 + 20000 * (9 * (44 - a6) + 3) ≤ 40000000) (x_2 : h 34 1 + h 34 3 + 12 * h 49 10 + 100 * (9 * (44 - a6) + 3) ≤ 20 * h 2 10 + 100000) (x_3 : (h 2 11 = 0 ∧ h 2 10 < h 2 3) ∨ ¬ h 2 11 = 0), Ok_ (rc.2.2.2.2.2.2.2.2 a1 a2 a3 a4 a5 a6 h) (QVR_ (fun r => (r 2 3 = h 2 3) ∧ (h 2 11 = 0 ∨ ¬ r 2 11 = 0) ∧ (h 2 10 ≤ r 2 10) ∧ (r 34 1 + r 34 3 + 12 * r 49 10 + 20 * h 2 10 ≤ h 34 1 + h 34 3 + 12 * h 49 10 + 20 * r 2 10 + (-37)) ∧ (((h 2 11 = 0 ∧ h 2 10 < h 2 3) ∧ r 2 10 ≤ 3001 + 20000 * (9 * (44 - a6) + 3)) ∨ (¬ (h 2 11 = 0 ∧ h 2 10 < h 2 3) ∧ r 2 10 ≤ h 2 10 + 3)))))
set_option maxRecDepth 4000 in
theorem vj_X10_readValue_156 {nn : Nat} (hn : 1000000 ≤ nn) {g : Int} {rc : tq_X10_readValue} (hg : GH_X10_readValue g rc) {l1 : Int} {l2 : Int} {h : ms_M} (a_l1 : 1 ≤ l1) (b_l1 : l1 ≤ 43) (a_l2 : 0 ≤ l2) (b_l2 : l2 ≤ 50000000) (V_h : VS_ h) (x_0 : (9 * (44 - l1) + 2) ≤ (g + 1)) (x_1 : h 2 10 + 20000 * (9 * (44 - l1) + 2) ≤ 40015000) (x_2 : h 34 1 + h 34 3 + 12 * h 49 10 + 100 * (9 * (44 - l1) + 2) ≤ 20 * h 2 10 + 100060) (x_3 : l1 ≤ 42)  : Ok_ (qj_X10_readValue_156 nn rc l1 l2 h) (QVR_ (fun r => (r 2 3 = h 2 3) ∧ (h 2 11 = 0 ∨ ¬ r 2 11 = 0) ∧ (h 2 10 ≤ r 2 10) ∧ (r 34 1 + r 34 3 + 12 * r 49 10 + 20 * h 2 10 ≤ h 34 1 + h 34 3 + 12 * h 49 10 + 20 * r 2 10 + 0) ∧ (((h 2 11 = 0 ∧ h 2 10 < h 2 3) ∧ r 2 10 ≤ 3001 + 20000 * (9 * (44 - l1) + 2)) ∨ (¬ (h 2 11 = 0 ∧ h 2 10 < h 2 3) ∧ r 2 10 ≤ h 2 10 + 0)))) := by
  unfold qj_X10_readValue_156
  have T1 := gF_2_3 V_h
  have T2 := gF_2_10 V_h
  have T3 := gF_2_11 V_h
  have T4 := gF_34_1 V_h
  have T5 := gF_34_3 V_h
  have T6 := gF_49_10 V_h
  refine ok_cP (vf_X9_kind hn V_h) ?_; intro u3 e_u3 a_u3 b_u3
  have T7 := lm_X9_kind e_u3
  refine ok_if ?_ ?_
  · intro C7
    exact ok_rVR V_h (by omega)
  · intro C7
    refine ok_cVR (hg.2.1 (by omega) (by omega) (by omega) (by omega) V_h (by omega) (by omega) (by omega) (by omega) (by omega)) ?_; intro u5 E_u5 V_u5 R_u5
    have T9 := gF_2_3 V_u5
    have T10 := gF_2_10 V_u5
    have T11 := gF_2_11 V_u5
    have T12 := gF_34_1 V_u5
    have T13 := gF_34_3 V_u5
    have T14 := gF_49_10 V_u5
    exact ok_rVR V_u5 (by omega)
set_option maxRecDepth 4000 in
theorem vw_X10_readValue_129 {nn : Nat} (hn : 1000000 ≤ nn) {g : Int} {rc : tq_X10_readValue} (hg : GH_X10_readValue g rc) : ∀ (k : Nat) {l1 : Int} {l2 : Int} {l3 : Int} {l4 : Int} {h : ms_M} (a_l1 : 1 ≤ l1) (b_l1 : l1 ≤ 43) (a_l2 : 0 ≤ l2) (b_l2 : l2 ≤ 50000000) (a_l3 : 0 ≤ l3) (b_l3 : l3 ≤ 420) (a_l4 : 0 ≤ l4) (b_l4 : l4 ≤ 420) (V_h : VS_ h) (x_0 : (9 * (44 - l1) + 2) ≤ (g + 1)) (x_1 : h 2 10 + 20000 * (9 * (44 - l1) + 2) ≤ 40015000) (x_2 : h 34 1 + h 34 3 + 12 * h 49 10 + 100 * (9 * (44 - l1) + 2) ≤ 20 * h 2 10 + 100060) (x_3 : l1 ≤ 42)  (hm : 421 - l4 < (k : Int)), Ok_ (qw_X10_readValue_129 nn rc k l1 l2 l3 l4 h) (QVR_ (fun r => (r 2 3 = h 2 3) ∧ (h 2 11 = 0 ∨ ¬ r 2 11 = 0) ∧ (h 2 10 ≤ r 2 10) ∧ (r 34 1 + r 34 3 + 12 * r 49 10 + 20 * h 2 10 ≤ h 34 1 + h 34 3 + 12 * h 49 10 + 20 * r 2 10 + 0) ∧ (((h 2 11 = 0 ∧ h 2 10 < h 2 3) ∧ r 2 10 ≤ 3001 + 20000 * (9 * (44 - l1) + 2)) ∨ (¬ (h 2 11 = 0 ∧ h 2 10 < h 2 3) ∧ r 2 10 ≤ h 2 10 + 0)))) := by
  intro k
  induction k with
  | zero => intros; exfalso; omega
  | succ k ih =>
    intro l1 l2 l3 l4 h a_l1 b_l1 a_l2 b_l2 a_l3 b_l3 a_l4 b_l4 V_h x_0 x_1 x_2 x_3 hm
    unfold qw_X10_readValue_129
    have T1 := gF_2_3 V_h
    have T2 := gF_2_10 V_h
    have T3 := gF_2_11 V_h
    have T4 := gF_34_1 V_h
    have T5 := gF_34_3 V_h
    have T6 := gF_49_10 V_h
    refine ok_if ?_ ?_
    · intro C6
      exact ok_mV (vj_X10_readValue_156 hn hg (by omega) (by omega) (by omega) (by omega) V_h (by omega) (by omega) (by omega) (by omega)) (fun _ V_r R_r => by have := gF_2_3 V_r; have := gF_2_10 V_r; have := gF_2_11 V_r; have := gF_34_1 V_r; have := gF_34_3 V_r; have := gF_49_10 V_r; omega)
    · intro C6
      refine ok_cP (vf_X10_isSignDue hn (by omega) (by omega) (by omega) (by omega) V_h) ?_; intro u8 e_u8 a_u8 b_u8
      have T8 := lm_X10_isSignDue e_u8
      refine ok_if ?_ ?_
      · intro C8
        exact ok_mV (vj_X10_readValue_156 hn hg (by omega) (by omega) (by omega) (by omega) V_h (by omega) (by omega) (by omega) (by omega)) (fun _ V_r R_r => by have := gF_2_3 V_r; have := gF_2_10 V_r; have := gF_2_11 V_r; have := gF_34_1 V_r; have := gF_34_3 V_r; have := gF_49_10 V_r; omega)
      · intro C8
        refine ok_cVR (vf_X10_closeSign hn V_h (by omega) (by omega)) ?_; intro u10 E_u10 V_u10 R_u10
        have T10 : u10 2 3 = h 2 3 := (ff_X10_closeSign nn) _ E_u10 2 3 rfl
        have T11 : u10 2 10 = h 2 10 := (ff_X10_closeSign nn) _ E_u10 2 10 rfl
        have T12 := gF_2_11 V_u10
        have T13 := gF_34_1 V_u10
        have T14 := gF_34_3 V_u10
        have T15 := gF_49_10 V_u10
        refine ok_add (by omega) ?_; intro v11 e_v11
        exact ok_mV (ih (by omega) (by omega) (by omega) (by omega) (by omega) (by omega) (by omega) (by omega) V_u10 (by omega) (by omega) (by omega) (by omega) (by omega)) (fun _ V_r R_r => by have := gF_2_3 V_r; have := gF_2_10 V_r; have := gF_2_11 V_r; have := gF_34_1 V_r; have := gF_34_3 V_r; have := gF_49_10 V_r; omega)
set_option maxRecDepth 4000 in
theorem vj_X10_readValue_90 {nn : Nat} (hn : 1000000 ≤ nn) {g : Int} {rc : tq_X10_readValue} (hg : GH_X10_readValue g rc) {qkk_30 : Int → Int → Int → Int → ms_M → Option ms_M} {K_kk_30 : Int} (hk_kk_30 : ∀ {l1 : Int} {l2 : Int} {l3 : Int} {l4 : Int} {h : ms_M} (a_l1 : 1 ≤ l1) (b_l1 : l1 ≤ 43) (a_l2 : 0 ≤ l2) (b_l2 : l2 ≤ 50000000) (a_l3 : 0 ≤ l3) (b_l3 : l3 ≤ 420) (a_l4 : 0 ≤ l4) (b_l4 : l4 ≤ 3000) (V_h : VS_ h) (x_0 : (9 * (44 - l1) + 2) ≤ (g + 1)) (x_1 : h 2 10 + 20000 * (9 * (44 - l1) + 2) ≤ 40015000) (x_2 : h 34 1 + h 34 3 + 12 * h 49 10 + 100 * (9 * (44 - l1) + 2) ≤ 20 * h 2 10 + 100060) (x_3 : l1 ≤ 42) (_ : 3001 - l4 < K_kk_30), Ok_ (qkk_30 l1 l2 l3 l4 h) (QVR_ (fun r => (r 2 3 = h 2 3) ∧ (h 2 11 = 0 ∨ ¬ r 2 11 = 0) ∧ (h 2 10 ≤ r 2 10) ∧ (r 34 1 + r 34 3 + 12 * r 49 10 + 20 * h 2 10 ≤ h 34 1 + h 34 3 + 12 * h 49 10 + 20 * r 2 10 + 0) ∧ (((h 2 11 = 0 ∧ h 2 10 < h 2 3) ∧ r 2 10 ≤ 3001 + 20000 * (9 * (44 - l1) + 2)) ∨ (¬ (h 2 11 = 0 ∧ h 2 10 < h 2 3) ∧ r 2 10 ≤ h 2 10 + 0))))) {l1 : Int} {l2 : Int} {l3 : Int} {l4 : Int} {h : ms_M} (a_l1 : 1 ≤ l1) (b_l1 : l1 ≤ 43) (a_l2 : 0 ≤ l2) (b_l2 : l2 ≤ 50000000) (a_l3 : 0 ≤ l3) (b_l3 : l3 ≤ 420) (a_l4 : 0 ≤ l4) (b_l4 : l4 ≤ 2999) (V_h : VS_ h) (x_0 : (9 * (44 - l1) + 2) ≤ (g + 1)) (x_1 : h 2 10 + 20000 * (9 * (44 - l1) + 2) ≤ 40015000) (x_2 : h 34 1 + h 34 3 + 12 * h 49 10 + 100 * (9 * (44 - l1) + 2) ≤ 20 * h 2 10 + 100060) (x_3 : l1 ≤ 42) (x_4 : h 2 10 ≤ 3000) (hm_kk_30 : 3001 - l4 + 0 ≤ K_kk_30) : Ok_ (qj_X10_readValue_90 nn rc qkk_30 l1 l2 l3 l4 h) (QVR_ (fun r => (r 2 3 = h 2 3) ∧ (h 2 11 = 0 ∨ ¬ r 2 11 = 0) ∧ (h 2 10 ≤ r 2 10) ∧ (r 34 1 + r 34 3 + 12 * r 49 10 + 20 * h 2 10 ≤ h 34 1 + h 34 3 + 12 * h 49 10 + 20 * r 2 10 + (-5)) ∧ (((h 2 11 = 0 ∧ h 2 10 < h 2 3) ∧ r 2 10 ≤ 3001 + 20000 * (9 * (44 - l1) + 2)) ∨ (¬ (h 2 11 = 0 ∧ h 2 10 < h 2 3) ∧ r 2 10 ≤ h 2 10 + 2)))) := by
  unfold qj_X10_readValue_90
  have T1 := gF_2_3 V_h
  have T2 := gF_2_10 V_h
  have T3 := gF_2_11 V_h
  have T4 := gF_34_1 V_h
  have T5 := gF_34_3 V_h
  have T6 := gF_49_10 V_h
  refine ok_cP (vf_X9_kind hn V_h) ?_; intro u16 e_u16 a_u16 b_u16
  have T7 := lm_X9_kind e_u16
  refine ok_if ?_ ?_
  · intro C7
    refine ok_cVR (vf_X10_openSign hn V_h (by omega) (by omega)) ?_; intro u18 E_u18 V_u18 R_u18
    have T9 : u18 2 3 = h 2 3 := (ff_X10_openSign nn) _ E_u18 2 3 rfl
    have T10 := gF_2_10 V_u18
    have T11 := gF_2_11 V_u18
    have T12 := gF_34_1 V_u18
    have T13 := gF_34_3 V_u18
    have T14 := gF_49_10 V_u18
    refine ok_add (by omega) ?_; intro v19 e_v19
    refine ok_cVR (hg.2.2.1 (by omega) (by omega) V_u18 (by omega) (by omega) (by omega)) ?_; intro u21 E_u21 V_u21 R_u21
    have T15 := gF_2_3 V_u21
    have T16 := gF_2_10 V_u21
    have T17 := gF_2_11 V_u21
    have T18 := gF_34_1 V_u21
    have T19 := gF_34_3 V_u21
    have T20 := gF_49_10 V_u21
    refine ok_add (by omega) ?_; intro v22 e_v22
    exact ok_mV (hk_kk_30 (by omega) (by omega) (by omega) (by omega) (by omega) (by omega) (by omega) (by omega) V_u21 (by omega) (by omega) (by omega) (by omega) (by omega)) (fun _ V_r R_r => by have := gF_2_3 V_r; have := gF_2_10 V_r; have := gF_2_11 V_r; have := gF_34_1 V_r; have := gF_34_3 V_r; have := gF_49_10 V_r; omega)
  · intro C7
    refine ok_cVR (vf_X10_readInstanceof hn V_h (by omega) (by omega)) ?_; intro u24 E_u24 V_u24 R_u24
    have T21 : u24 2 3 = h 2 3 := (ff_X10_readInstanceof nn) _ E_u24 2 3 rfl
    have T22 : u24 49 10 = h 49 10 := (ff_X10_readInstanceof nn) _ E_u24 49 10 rfl
    have T23 := gF_2_10 V_u24
    have T24 := gF_2_11 V_u24
    have T25 := gF_34_1 V_u24
    have T26 := gF_34_3 V_u24
    refine ok_add (by omega) ?_; intro v25 e_v25
    exact ok_mV (hk_kk_30 (by omega) (by omega) (by omega) (by omega) (by omega) (by omega) (by omega) (by omega) V_u24 (by omega) (by omega) (by omega) (by omega) (by omega)) (fun _ V_r R_r => by have := gF_2_3 V_r; have := gF_2_10 V_r; have := gF_2_11 V_r; have := gF_34_1 V_r; have := gF_34_3 V_r; have := gF_49_10 V_r; omega)
set_option maxRecDepth 4000 in
theorem vw_X10_readValue_54 {nn : Nat} (hn : 1000000 ≤ nn) {g : Int} {rc : tq_X10_readValue} (hg : GH_X10_readValue g rc) {qkk_30 : Int → Int → Int → Int → ms_M → Option ms_M} {K_kk_30 : Int} (hk_kk_30 : ∀ {l1 : Int} {l2 : Int} {l3 : Int} {l4 : Int} {h : ms_M} (a_l1 : 1 ≤ l1) (b_l1 : l1 ≤ 43) (a_l2 : 0 ≤ l2) (b_l2 : l2 ≤ 50000000) (a_l3 : 0 ≤ l3) (b_l3 : l3 ≤ 420) (a_l4 : 0 ≤ l4) (b_l4 : l4 ≤ 3000) (V_h : VS_ h) (x_0 : (9 * (44 - l1) + 2) ≤ (g + 1)) (x_1 : h 2 10 + 20000 * (9 * (44 - l1) + 2) ≤ 40015000) (x_2 : h 34 1 + h 34 3 + 12 * h 49 10 + 100 * (9 * (44 - l1) + 2) ≤ 20 * h 2 10 + 100060) (x_3 : l1 ≤ 42) (_ : 3001 - l4 < K_kk_30), Ok_ (qkk_30 l1 l2 l3 l4 h) (QVR_ (fun r => (r 2 3 = h 2 3) ∧ (h 2 11 = 0 ∨ ¬ r 2 11 = 0) ∧ (h 2 10 ≤ r 2 10) ∧ (r 34 1 + r 34 3 + 12 * r 49 10 + 20 * h 2 10 ≤ h 34 1 + h 34 3 + 12 * h 49 10 + 20 * r 2 10 + 0) ∧ (((h 2 11 = 0 ∧ h 2 10 < h 2 3) ∧ r 2 10 ≤ 3001 + 20000 * (9 * (44 - l1) + 2)) ∨ (¬ (h 2 11 = 0 ∧ h 2 10 < h 2 3) ∧ r 2 10 ≤ h 2 10 + 0))))) : ∀ (k : Nat) {l1 : Int} {l2 : Int} {l3 : Int} {l4 : Int} {l5 : Int} {h : ms_M} (a_l1 : 1 ≤ l1) (b_l1 : l1 ≤ 43) (a_l2 : 0 ≤ l2) (b_l2 : l2 ≤ 50000000) (a_l3 : 0 ≤ l3) (b_l3 : l3 ≤ 420) (a_l4 : 0 ≤ l4) (b_l4 : l4 ≤ 2999) (a_l5 : 0 ≤ l5) (b_l5 : l5 ≤ 420) (V_h : VS_ h) (x_0 : (9 * (44 - l1) + 2) ≤ (g + 1)) (x_1 : h 2 10 + 20000 * (9 * (44 - l1) + 2) ≤ 40015000) (x_2 : h 34 1 + h 34 3 + 12 * h 49 10 + 100 * (9 * (44 - l1) + 2) ≤ 20 * h 2 10 + 100060) (x_3 : l1 ≤ 42) (x_4 : h 2 10 ≤ 3000) (hm_kk_30 : 3001 - l4 + 0 ≤ K_kk_30) (hm : 421 - l5 < (k : Int)), Ok_ (qw_X10_readValue_54 nn rc qkk_30 k l1 l2 l3 l4 l5 h) (QVR_ (fun r => (r 2 3 = h 2 3) ∧ (h 2 11 = 0 ∨ ¬ r 2 11 = 0) ∧ (h 2 10 ≤ r 2 10) ∧ (r 34 1 + r 34 3 + 12 * r 49 10 + 20 * h 2 10 ≤ h 34 1 + h 34 3 + 12 * h 49 10 + 20 * r 2 10 + (-5)) ∧ (((h 2 11 = 0 ∧ h 2 10 < h 2 3) ∧ r 2 10 ≤ 3001 + 20000 * (9 * (44 - l1) + 2)) ∨ (¬ (h 2 11 = 0 ∧ h 2 10 < h 2 3) ∧ r 2 10 ≤ h 2 10 + 2)))) := by
  intro k
  induction k with
  | zero => intros; exfalso; omega
  | succ k ih =>
    intro l1 l2 l3 l4 l5 h a_l1 b_l1 a_l2 b_l2 a_l3 b_l3 a_l4 b_l4 a_l5 b_l5 V_h x_0 x_1 x_2 x_3 x_4 hm_kk_30 hm
    unfold qw_X10_readValue_54
    have T1 := gF_2_3 V_h
    have T2 := gF_2_10 V_h
    have T3 := gF_2_11 V_h
    have T4 := gF_34_1 V_h
    have T5 := gF_34_3 V_h
    have T6 := gF_49_10 V_h
    refine ok_if ?_ ?_
    · intro C6
      exact ok_mV (vj_X10_readValue_90 hn hg hk_kk_30 (by omega) (by omega) (by omega) (by omega) (by omega) (by omega) (by omega) (by omega) V_h (by omega) (by omega) (by omega) (by omega) (by omega) (by omega)) (fun _ V_r R_r => by have := gF_2_3 V_r; have := gF_2_10 V_r; have := gF_2_11 V_r; have := gF_34_1 V_r; have := gF_34_3 V_r; have := gF_49_10 V_r; omega)
    · intro C6
      refine ok_cP (vf_X9_kind hn V_h) ?_; intro u29 e_u29 a_u29 b_u29
      have T8 := lm_X9_kind e_u29
      refine ok_cP (vf_X9_level hn (by omega) (by omega) V_h) ?_; intro u30 e_u30 a_u30 b_u30
      have T9 := lm_X9_level e_u30
      refine ok_cP (vf_X10_isSignDue hn (by omega) (by omega) (by omega) (by omega) V_h) ?_; intro u32 e_u32 a_u32 b_u32
      have T10 := lm_X10_isSignDue e_u32
      refine ok_if ?_ ?_
      · intro C10
        exact ok_mV (vj_X10_readValue_90 hn hg hk_kk_30 (by omega) (by omega) (by omega) (by omega) (by omega) (by omega) (by omega) (by omega) V_h (by omega) (by omega) (by omega) (by omega) (by omega) (by omega)) (fun _ V_r R_r => by have := gF_2_3 V_r; have := gF_2_10 V_r; have := gF_2_11 V_r; have := gF_34_1 V_r; have := gF_34_3 V_r; have := gF_49_10 V_r; omega)
      · intro C10
        refine ok_cVR (vf_X10_closeSign hn V_h (by omega) (by omega)) ?_; intro u34 E_u34 V_u34 R_u34
        have T12 : u34 2 3 = h 2 3 := (ff_X10_closeSign nn) _ E_u34 2 3 rfl
        have T13 : u34 2 10 = h 2 10 := (ff_X10_closeSign nn) _ E_u34 2 10 rfl
        have T14 := gF_2_11 V_u34
        have T15 := gF_34_1 V_u34
        have T16 := gF_34_3 V_u34
        have T17 := gF_49_10 V_u34
        refine ok_add (by omega) ?_; intro v35 e_v35
        exact ok_mV (ih (by omega) (by omega) (by omega) (by omega) (by omega) (by omega) (by omega) (by omega) (by omega) (by omega) V_u34 (by omega) (by omega) (by omega) (by omega) (by omega) (by omega) (by omega)) (fun _ V_r R_r => by have := gF_2_3 V_r; have := gF_2_10 V_r; have := gF_2_11 V_r; have := gF_34_1 V_r; have := gF_34_3 V_r; have := gF_49_10 V_r; omega)
set_option maxRecDepth 4000 in
theorem vw_X10_readValue_30 {nn : Nat} (hn : 1000000 ≤ nn) {g : Int} {rc : tq_X10_readValue} (hg : GH_X10_readValue g rc) : ∀ (k : Nat) {l1 : Int} {l2 : Int} {l3 : Int} {l4 : Int} {h : ms_M} (a_l1 : 1 ≤ l1) (b_l1 : l1 ≤ 43) (a_l2 : 0 ≤ l2) (b_l2 : l2 ≤ 50000000) (a_l3 : 0 ≤ l3) (b_l3 : l3 ≤ 420) (a_l4 : 0 ≤ l4) (b_l4 : l4 ≤ 3000) (V_h : VS_ h) (x_0 : (9 * (44 - l1) + 2) ≤ (g + 1)) (x_1 : h 2 10 + 20000 * (9 * (44 - l1) + 2) ≤ 40015000) (x_2 : h 34 1 + h 34 3 + 12 * h 49 10 + 100 * (9 * (44 - l1) + 2) ≤ 20 * h 2 10 + 100060) (x_3 : l1 ≤ 42)  (hm : 3001 - l4 < (k : Int)), Ok_ (qw_X10_readValue_30 nn rc k l1 l2 l3 l4 h) (QVR_ (fun r => (r 2 3 = h 2 3) ∧ (h 2 11 = 0 ∨ ¬ r 2 11 = 0) ∧ (h 2 10 ≤ r 2 10) ∧ (r 34 1 + r 34 3 + 12 * r 49 10 + 20 * h 2 10 ≤ h 34 1 + h 34 3 + 12 * h 49 10 + 20 * r 2 10 + 0) ∧ (((h 2 11 = 0 ∧ h 2 10 < h 2 3) ∧ r 2 10 ≤ 3001 + 20000 * (9 * (44 - l1) + 2)) ∨ (¬ (h 2 11 = 0 ∧ h 2 10 < h 2 3) ∧ r 2 10 ≤ h 2 10 + 0)))) := by
  intro k
  induction k with
  | zero => intros; exfalso; omega
  | succ k ih =>
    intro l1 l2 l3 l4 h a_l1 b_l1 a_l2 b_l2 a_l3 b_l3 a_l4 b_l4 V_h x_0 x_1 x_2 x_3 hm
    unfold qw_X10_readValue_30
    have T1 := gF_2_3 V_h
    have T2 := gF_2_10 V_h
    have T3 := gF_2_11 V_h
    have T4 := gF_34_1 V_h
    have T5 := gF_34_3 V_h
    have T6 := gF_49_10 V_h
    refine ok_if ?_ ?_
    · intro C6
      exact ok_mV (vw_X10_readValue_129 hn hg _ (by omega) (by omega) (by omega) (by omega) (by omega) (by omega) (by omega) (by omega) V_h (by omega) (by omega) (by omega) (by omega) (by omega)) (fun _ V_r R_r => by have := gF_2_3 V_r; have := gF_2_10 V_r; have := gF_2_11 V_r; have := gF_34_1 V_r; have := gF_34_3 V_r; have := gF_49_10 V_r; omega)
    · intro C6
      refine ok_cP (vf_X9_kind hn V_h) ?_; intro u40 e_u40 a_u40 b_u40
      have T8 := lm_X9_kind e_u40
      refine ok_cP (vf_X9_level hn (by omega) (by omega) V_h) ?_; intro u41 e_u41 a_u41 b_u41
      have T9 := lm_X9_level e_u41
      refine ok_if ?_ ?_
      · intro C9
        exact ok_mV (vw_X10_readValue_129 hn hg _ (by omega) (by omega) (by omega) (by omega) (by omega) (by omega) (by omega) (by omega) V_h (by omega) (by omega) (by omega) (by omega) (by omega)) (fun _ V_r R_r => by have := gF_2_3 V_r; have := gF_2_10 V_r; have := gF_2_11 V_r; have := gF_34_1 V_r; have := gF_34_3 V_r; have := gF_49_10 V_r; omega)
      · intro C9
        exact ok_mV (vw_X10_readValue_54 hn hg ih _ (by omega) (by omega) (by omega) (by omega) (by omega) (by omega) (by omega) (by omega) (by omega) (by omega) V_h (by omega) (by omega) (by omega) (by omega) (by omega) (by omega) (by omega)) (fun _ V_r R_r => by have := gF_2_3 V_r; have := gF_2_10 V_r; have := gF_2_11 V_r; have := gF_34_1 V_r; have := gF_34_3 V_r; have := gF_49_10 V_r; omega)
set_option maxRecDepth 4000 in
theorem vo_X10_readValue {nn : Nat} (hn : 1000000 ≤ nn) {g : Int} {rc : tq_X10_readValue} (hg : GH_X10_readValue g rc) {a1 : Int} {h : ms_M} (a_a1 : 1 ≤ a1) (b_a1 : a1 ≤ 43) (V_h : VS_ h) (x_0 : (9 * (44 - a1) + 2) ≤ (g + 1)) (x_1 : h 2 10 + 20000 * (9 * (44 - a1) + 2) ≤ 40000000) (x_2 : h 34 1 + h 34 3 + 12 * h 49 10 + 100 * (9 * (44 - a1) + 2) ≤ 20 * h 2 10 + 100000)  : Ok_ (qo_X10_readValue nn rc a1 h) (QVR_ (fun r => (r 2 3 = h 2 3) ∧ (h 2 11 = 0 ∨ ¬ r 2 11 = 0) ∧ (h 2 10 ≤ r 2 10) ∧ (r 34 1 + r 34 3 + 12 * r 49 10 + 20 * h 2 10 ≤ h 34 1 + h 34 3 + 12 * h 49 10 + 20 * r 2 10 + 0) ∧ (((h 2 11 = 0 ∧ h 2 10 < h 2 3) ∧ r 2 10 ≤ 3001 + 20000 * (9 * (44 - a1) + 2)) ∨ (¬ (h 2 11 = 0 ∧ h 2 10 < h 2 3) ∧ r 2 10 ≤ h 2 10 + 1)))) := by
  unfold qo_X10_readValue
  have T1 := gF_2_3 V_h
  have T2 := gF_2_10 V_h
  have T3 := gF_2_11 V_h
  have T4 := gF_34_1 V_h
  have T5 := gF_34_3 V_h
  have T6 := gF_49_10 V_h
  refine ok_if ?_ ?_
  · intro C6
    refine ok_add (by omega) ?_; intro v47 e_v47
    refine ok_cVR (hg.2.2.1 (by omega) (by omega) V_h (by omega) (by omega) (by omega)) ?_; intro u49 E_u49 V_u49 R_u49
    have T8 := gF_2_3 V_u49
    have T9 := gF_2_10 V_u49
    have T10 := gF_2_11 V_u49
    have T11 := gF_34_1 V_u49
    have T12 := gF_34_3 V_u49
    have T13 := gF_49_10 V_u49
    exact ok_mV (vw_X10_readValue_30 hn hg _ (by omega) (by omega) (by omega) (by omega) (by omega) (by omega) (by omega) (by omega) V_u49 (by omega) (by omega) (by omega) (by omega) (by omega)) (fun _ V_r R_r => by have := gF_2_3 V_r; have := gF_2_10 V_r; have := gF_2_11 V_r; have := gF_34_1 V_r; have := gF_34_3 V_r; have := gF_49_10 V_r; omega)
  · intro C6
    exact ok_rVR V_h (by omega)
set_option maxRecDepth 4000 in
theorem vj_X10_readChoice_158 {nn : Nat} (hn : 1000000 ≤ nn) {g : Int} {rc : tq_X10_readValue} (hg : GH_X10_readValue g rc) {l6 : Int} {s0 : Int} {h : ms_M} (a_l6 : 0 ≤ l6) (b_l6 : l6 ≤ 1600000000) (a_s0 : (-1) ≤ s0) (b_s0 : s0 ≤ 441) (V_h : VS_ h) (x_0 : h 34 1 + h 34 3 ≤ 1400000020) (x_1 : h 2 10 ≤ 45000005)  : Ok_ (qj_X10_readChoice_158 nn rc l6 s0 h) (QVR_ (fun r => (r 2 3 = h 2 3) ∧ (h 2 11 = 0 ∨ ¬ r 2 11 = 0) ∧ (h 2 10 ≤ r 2 10) ∧ (r 34 1 + r 34 3 + 12 * r 49 10 + 20 * h 2 10 ≤ h 34 1 + h 34 3 + 12 * h 49 10 + 20 * r 2 10 + 1) ∧ (r 2 10 ≤ h 2 10 + 0))) := by
  unfold qj_X10_readChoice_158
  have T1 := gF_2_3 V_h
  have T2 := gF_2_10 V_h
  have T3 := gF_2_11 V_h
  have T4 := gF_34_1 V_h
  have T5 := gF_34_3 V_h
  have T6 := gF_49_10 V_h
  refine ok_xl ?_; intro h1 E_h1; have V_h1 : VS_ h1 := by rw [E_h1]; exact wF_49_12 V_h (by omega)
  have T7 : h1 2 3 = h 2 3 := by rw [E_h1]; exact up_n (by decide)
  have T8 : h1 2 10 = h 2 10 := by rw [E_h1]; exact up_n (by decide)
  have T9 : h1 2 11 = h 2 11 := by rw [E_h1]; exact up_n (by decide)
  have T10 : h1 34 1 = h 34 1 := by rw [E_h1]; exact up_n (by decide)
  have T11 : h1 34 3 = h 34 3 := by rw [E_h1]; exact up_n (by decide)
  have T12 : h1 49 10 = h 49 10 := by rw [E_h1]; exact up_n (by decide)
  have T13 : h1 49 12 = s0 := by rw [E_h1]; exact up_s
  refine ok_cVR (vf_X1_pop hn (by omega) (by omega) V_h1 (by omega)) ?_; intro u4 E_u4 V_u4 R_u4
  have T14 : u4 2 3 = h1 2 3 := (ff_X1_pop nn) _ E_u4 2 3 rfl
  have T15 : u4 2 10 = h1 2 10 := (ff_X1_pop nn) _ E_u4 2 10 rfl
  have T16 : u4 2 11 = h1 2 11 := (ff_X1_pop nn) _ E_u4 2 11 rfl
  have T17 : u4 34 1 = h1 34 1 := (ff_X1_pop nn) _ E_u4 34 1 rfl
  have T18 : u4 49 10 = h1 49 10 := (ff_X1_pop nn) _ E_u4 49 10 rfl
  have T19 : u4 49 12 = h1 49 12 := (ff_X1_pop nn) _ E_u4 49 12 rfl
  have T20 := gF_34_3 V_u4
  refine ok_cVR (vf_X1_push hn (by omega) (by omega) V_u4 (by omega)) ?_; intro u8 E_u8 V_u8 R_u8
  have T21 : u8 2 3 = u4 2 3 := (ff_X1_push nn) _ E_u8 2 3 rfl
  have T22 : u8 2 10 = u4 2 10 := (ff_X1_push nn) _ E_u8 2 10 rfl
  have T23 : u8 2 11 = u4 2 11 := (ff_X1_push nn) _ E_u8 2 11 rfl
  have T24 : u8 34 1 = u4 34 1 := (ff_X1_push nn) _ E_u8 34 1 rfl
  have T25 : u8 49 10 = u4 49 10 := (ff_X1_push nn) _ E_u8 49 10 rfl
  have T26 := gF_34_3 V_u8
  refine ok_cV (vf_X1_aimHere hn (by omega) (by omega) V_u8 (by omega)) ?_; intro u11 E_u11 V_u11
  have T27 : u11 2 3 = u8 2 3 := (ff_X1_aimHere nn) _ E_u11 2 3 rfl
  have T28 : u11 2 10 = u8 2 10 := (ff_X1_aimHere nn) _ E_u11 2 10 rfl
  have T29 : u11 2 11 = u8 2 11 := (ff_X1_aimHere nn) _ E_u11 2 11 rfl
  have T30 : u11 34 1 = u8 34 1 := (ff_X1_aimHere nn) _ E_u11 34 1 rfl
  have T31 : u11 49 10 = u8 49 10 := (ff_X1_aimHere nn) _ E_u11 49 10 rfl
  have T32 : u11 34 3 = u8 34 3 := (ff_X1_aimHere nn) _ E_u11 34 3 rfl
  refine ok_xl ?_; intro h12 E_h12; have V_h12 : VS_ h12 := by rw [E_h12]; exact wF_49_11 V_u11 (by omega)
  have T33 : h12 2 3 = u11 2 3 := by rw [E_h12]; exact up_n (by decide)
  have T34 : h12 2 10 = u11 2 10 := by rw [E_h12]; exact up_n (by decide)
  have T35 : h12 2 11 = u11 2 11 := by rw [E_h12]; exact up_n (by decide)
  have T36 : h12 34 1 = u11 34 1 := by rw [E_h12]; exact up_n (by decide)
  have T37 : h12 49 10 = u11 49 10 := by rw [E_h12]; exact up_n (by decide)
  have T38 : h12 34 3 = u11 34 3 := by rw [E_h12]; exact up_n (by decide)
  exact ok_rVR V_h12 (by omega)
set_option maxRecDepth 4000 in
theorem vj_X10_readChoice_24 {nn : Nat} (hn : 1000000 ≤ nn) {g : Int} {rc : tq_X10_readValue} (hg : GH_X10_readValue g rc) {l1 : Int} {l2 : Int} {l3 : Int} {s0 : Int} {h : ms_M} (a_l1 : 0 ≤ l1) (b_l1 : l1 ≤ 50000000) (a_l2 : 1 ≤ l2) (b_l2 : l2 ≤ 43) (a_l3 : 0 ≤ l3) (b_l3 : l3 ≤ 50000000) (a_s0 : 0 ≤ s0) (b_s0 : s0 ≤ 1) (V_h : VS_ h) (x_0 : (9 * (44 - l2) + 1) ≤ (g + 1)) (x_1 : h 2 10 + 20000 * (9 * (44 - l2) + 1) ≤ 40015000) (x_2 : h 34 1 + h 34 3 + 12 * h 49 10 + 100 * (9 * (44 - l2) + 1) ≤ 20 * h 2 10 + 100060) (x_3 : l2 ≤ 42)  : Ok_ (qj_X10_readChoice_24 nn rc l1 l2 l3 s0 h) (QVR_ (fun r => (r 2 3 = h 2 3) ∧ (h 2 11 = 0 ∨ ¬ r 2 11 = 0) ∧ (h 2 10 ≤ r 2 10) ∧ (r 34 1 + r 34 3 + 12 * r 49 10 + 20 * h 2 10 ≤ h 34 1 + h 34 3 + 12 * h 49 10 + 20 * r 2 10 + (-33)) ∧ (((h 2 11 = 0 ∧ h 2 10 < h 2 3) ∧ r 2 10 ≤ 3001 + 20000 * (9 * (44 - l2) + 1)) ∨ (¬ (h 2 11 = 0 ∧ h 2 10 < h 2 3) ∧ r 2 10 ≤ h 2 10 + 6)))) := by
  unfold qj_X10_readChoice_24
  have T1 := gF_2_3 V_h
  have T2 := gF_2_10 V_h
  have T3 := gF_2_11 V_h
  have T4 := gF_34_1 V_h
  have T5 := gF_34_3 V_h
  have T6 := gF_49_10 V_h
  refine ok_cVR (vf_X10_wantType hn (by omega) (by omega) (by omega) (by omega) V_h) ?_; intro u14 E_u14 V_u14 R_u14
  have T7 : u14 2 3 = h 2 3 := (ff_X10_wantType nn) _ E_u14 2 3 rfl
  have T8 : u14 2 10 = h 2 10 := (ff_X10_wantType nn) _ E_u14 2 10 rfl
  have T9 : u14 34 1 = h 34 1 := (ff_X10_wantType nn) _ E_u14 34 1 rfl
  have T10 : u14 34 3 = h 34 3 := (ff_X10_wantType nn) _ E_u14 34 3 rfl
  have T11 : u14 49 10 = h 49 10 := (ff_X10_wantType nn) _ E_u14 49 10 rfl
  have T12 := gF_2_11 V_u14
  refine ok_cIR (vf_X1_jump hn (by omega) (by omega) (by omega) (by omega) V_u14 (by omega)) ?_; intro u17 E_u17 V_u17 a_u17 b_u17 R_u17
  have T13 : u17.2 2 3 = u14 2 3 := (ff_X1_jump nn) _ E_u17 2 3 rfl
  have T14 : u17.2 2 10 = u14 2 10 := (ff_X1_jump nn) _ E_u17 2 10 rfl
  have T15 : u17.2 49 10 = u14 49 10 := (ff_X1_jump nn) _ E_u17 49 10 rfl
  have T16 : u17.2 2 11 = u14 2 11 := (ff_X1_jump nn) _ E_u17 2 11 rfl
  have T17 := gF_34_1 V_u17
  have T18 := gF_34_3 V_u17
  refine ok_add (by omega) ?_; intro v20 e_v20
  refine ok_xl ?_; intro h21 E_h21; have V_h21 : VS_ h21 := by rw [E_h21]; exact wF_2_10 V_u17 (by omega)
  have T19 : h21 2 3 = u17.2 2 3 := by rw [E_h21]; exact up_n (by decide)
  have T20 : h21 49 10 = u17.2 49 10 := by rw [E_h21]; exact up_n (by decide)
  have T21 : h21 2 11 = u17.2 2 11 := by rw [E_h21]; exact up_n (by decide)
  have T22 : h21 34 1 = u17.2 34 1 := by rw [E_h21]; exact up_n (by decide)
  have T23 : h21 34 3 = u17.2 34 3 := by rw [E_h21]; exact up_n (by decide)
  have T24 : h21 2 10 = v20 := by rw [E_h21]; exact up_s
  refine ok_add (by omega) ?_; intro v22 e_v22
  refine ok_cVR (hg.1 (by omega) (by omega) V_h21 (by omega) (by omega) (by omega)) ?_; intro u24 E_u24 V_u24 R_u24
  have T25 := gF_2_3 V_u24
  have T26 := gF_2_10 V_u24
  have T27 := gF_2_11 V_u24
  have T28 := gF_34_1 V_u24
  have T29 := gF_34_3 V_u24
  have T30 := gF_49_10 V_u24
  have T31 := gF_49_12 V_u24
  refine ok_cIR (vf_X1_jump hn (by omega) (by omega) (by omega) (by omega) V_u24 (by omega)) ?_; intro u28 E_u28 V_u28 a_u28 b_u28 R_u28
  have T32 : u28.2 2 3 = u24 2 3 := (ff_X1_jump nn) _ E_u28 2 3 rfl
  have T33 : u28.2 2 10 = u24 2 10 := (ff_X1_jump nn) _ E_u28 2 10 rfl
  have T34 : u28.2 2 11 = u24 2 11 := (ff_X1_jump nn) _ E_u28 2 11 rfl
  have T35 : u28.2 49 10 = u24 49 10 := (ff_X1_jump nn) _ E_u28 49 10 rfl
  have T36 : u28.2 49 12 = u24 49 12 := (ff_X1_jump nn) _ E_u28 49 12 rfl
  have T37 := gF_34_1 V_u28
  have T38 := gF_34_3 V_u28
  refine ok_cVR (vf_X1_pop hn (by omega) (by omega) V_u28 (by omega)) ?_; intro u31 E_u31 V_u31 R_u31
  have T39 : u31 2 3 = u28.2 2 3 := (ff_X1_pop nn) _ E_u31 2 3 rfl
  have T40 : u31 2 10 = u28.2 2 10 := (ff_X1_pop nn) _ E_u31 2 10 rfl
  have T41 : u31 2 11 = u28.2 2 11 := (ff_X1_pop nn) _ E_u31 2 11 rfl
  have T42 : u31 49 10 = u28.2 49 10 := (ff_X1_pop nn) _ E_u31 49 10 rfl
  have T43 : u31 49 12 = u28.2 49 12 := (ff_X1_pop nn) _ E_u31 49 12 rfl
  have T44 : u31 34 1 = u28.2 34 1 := (ff_X1_pop nn) _ E_u31 34 1 rfl
  have T45 := gF_34_3 V_u31
  refine ok_cV (vf_X1_aimHere hn (by omega) (by omega) V_u31 (by omega)) ?_; intro u34 E_u34 V_u34
  have T46 : u34 2 3 = u31 2 3 := (ff_X1_aimHere nn) _ E_u34 2 3 rfl
  have T47 : u34 2 10 = u31 2 10 := (ff_X1_aimHere nn) _ E_u34 2 10 rfl
  have T48 : u34 2 11 = u31 2 11 := (ff_X1_aimHere nn) _ E_u34 2 11 rfl
  have T49 : u34 49 10 = u31 49 10 := (ff_X1_aimHere nn) _ E_u34 49 10 rfl
  have T50 : u34 49 12 = u31 49 12 := (ff_X1_aimHere nn) _ E_u34 49 12 rfl
  have T51 : u34 34 1 = u31 34 1 := (ff_X1_aimHere nn) _ E_u34 34 1 rfl
  have T52 : u34 34 3 = u31 34 3 := (ff_X1_aimHere nn) _ E_u34 34 3 rfl
  refine ok_add (by omega) ?_; intro v37 e_v37
  refine ok_xl ?_; intro h38 E_h38; have V_h38 : VS_ h38 := by rw [E_h38]; exact wF_2_10 V_u34 (by omega)
  have T53 : h38 2 3 = u34 2 3 := by rw [E_h38]; exact up_n (by decide)
  have T54 : h38 2 11 = u34 2 11 := by rw [E_h38]; exact up_n (by decide)
  have T55 : h38 49 10 = u34 49 10 := by rw [E_h38]; exact up_n (by decide)
  have T56 : h38 49 12 = u34 49 12 := by rw [E_h38]; exact up_n (by decide)
  have T57 : h38 34 1 = u34 34 1 := by rw [E_h38]; exact up_n (by decide)
  have T58 : h38 34 3 = u34 34 3 := by rw [E_h38]; exact up_n (by decide)
  have T59 : h38 2 10 = v37 := by rw [E_h38]; exact up_s
  refine ok_add (by omega) ?_; intro v39 e_v39
  refine ok_cVR (hg.1 (by omega) (by omega) V_h38 (by omega) (by omega) (by omega)) ?_; intro u41 E_u41 V_u41 R_u41
  have T60 := gF_2_3 V_u41
  have T61 := gF_2_10 V_u41
  have T62 := gF_2_11 V_u41
  have T63 := gF_34_1 V_u41
  have T64 := gF_34_3 V_u41
  have T65 := gF_49_10 V_u41
  have T66 := gF_49_12 V_u41
  refine ok_cP (vf_X10_isPair hn (by omega) (by omega) (by omega) (by omega) V_u41) ?_; intro u44 e_u44 a_u44 b_u44
  refine ok_cVR (vf_X10_wantType hn (by omega) (by omega) (by omega) (by omega) V_u41) ?_; intro u46 E_u46 V_u46 R_u46
  have T67 : u46 2 3 = u41 2 3 := (ff_X10_wantType nn) _ E_u46 2 3 rfl
  have T68 : u46 2 10 = u41 2 10 := (ff_X10_wantType nn) _ E_u46 2 10 rfl
  have T69 : u46 34 1 = u41 34 1 := (ff_X10_wantType nn) _ E_u46 34 1 rfl
  have T70 : u46 34 3 = u41 34 3 := (ff_X10_wantType nn) _ E_u46 34 3 rfl
  have T71 : u46 49 10 = u41 49 10 := (ff_X10_wantType nn) _ E_u46 49 10 rfl
  have T72 : u46 49 12 = u41 49 12 := (ff_X10_wantType nn) _ E_u46 49 12 rfl
  have T73 := gF_2_11 V_u46
  refine ok_cP (vf_X4_fits hn rfl (by omega) (by omega) (by omega) (by omega) V_u46) ?_; intro u50 e_u50 a_u50 b_u50
  refine ok_if ?_ ?_
  · intro C73
    exact ok_mV (vj_X10_readChoice_158 hn hg (by omega) (by omega) (by omega) (by omega) V_u46 (by omega) (by omega)) (fun _ V_r R_r => by have := gF_2_3 V_r; have := gF_2_10 V_r; have := gF_2_11 V_r; have := gF_34_1 V_r; have := gF_34_3 V_r; have := gF_49_10 V_r; omega)
  · intro C73
    exact ok_mV (vj_X10_readChoice_158 hn hg (by omega) (by omega) (by omega) (by omega) V_u46 (by omega) (by omega)) (fun _ V_r R_r => by have := gF_2_3 V_r; have := gF_2_10 V_r; have := gF_2_11 V_r; have := gF_34_1 V_r; have := gF_34_3 V_r; have := gF_49_10 V_r; omega)
set_option maxRecDepth 4000 in
theorem vo_X10_readChoice {nn : Nat} (hn : 1000000 ≤ nn) {g : Int} {rc : tq_X10_readValue} (hg : GH_X10_readValue g rc) {a1 : Int} {a2 : Int} {h : ms_M} (a_a1 : 0 ≤ a1) (b_a1 : a1 ≤ 50000000) (a_a2 : 1 ≤ a2) (b_a2 : a2 ≤ 43) (V_h : VS_ h) (x_0 : (9 * (44 - a2) + 1) ≤ (g + 1)) (x_1 : h 2 10 + 20000 * (9 * (44 - a2) + 1) ≤ 40000000) (x_2 : h 34 1 + h 34 3 + 12 * h 49 10 + 100 * (9 * (44 - a2) + 1) ≤ 20 * h 2 10 + 100000) (x_3 : (h 2 11 = 0 ∧ h 2 10 < h 2 3)) (x_4 : a2 ≤ 42)  : Ok_ (qo_X10_readChoice nn rc a1 a2 h) (QVR_ (fun r => (r 2 3 = h 2 3) ∧ (h 2 11 = 0 ∨ ¬ r 2 11 = 0) ∧ (h 2 10 ≤ r 2 10) ∧ (r 34 1 + r 34 3 + 12 * r 49 10 + 20 * h 2 10 ≤ h 34 1 + h 34 3 + 12 * h 49 10 + 20 * r 2 10 + (-33)) ∧ (r 2 10 ≤ 3001 + 20000 * (9 * (44 - a2) + 1)))) := by
  unfold qo_X10_readChoice
  have T1 := gF_2_3 V_h
  have T2 := gF_2_10 V_h
  have T3 := gF_2_11 V_h
  have T4 := gF_34_1 V_h
  have T5 := gF_34_3 V_h
  have T6 := gF_49_10 V_h
  have T7 := gF_49_12 V_h
  refine ok_if ?_ ?_
  · intro C7
    exact ok_mV (vj_X10_readChoice_24 hn hg (by omega) (by omega) (by omega) (by omega) (by omega) (by omega) (by omega) (by omega) V_h (by omega) (by omega) (by omega) (by omega)) (fun _ V_r R_r => by have := gF_2_3 V_r; have := gF_2_10 V_r; have := gF_2_11 V_r; have := gF_34_1 V_r; have := gF_34_3 V_r; have := gF_49_10 V_r; omega)
  · intro C7
    exact ok_mV (vj_X10_readChoice_24 hn hg (by omega) (by omega) (by omega) (by omega) (by omega) (by omega) (by omega) (by omega) V_h (by omega) (by omega) (by omega) (by omega)) (fun _ V_r R_r => by have := gF_2_3 V_r; have := gF_2_10 V_r; have := gF_2_11 V_r; have := gF_34_1 V_r; have := gF_34_3 V_r; have := gF_49_10 V_r; omega)
set_option maxRecDepth 4000 in
theorem vj_X10_readUnary_116 {nn : Nat} (hn : 1000000 ≤ nn) {g : Int} {rc : tq_X10_readValue} (hg : GH_X10_readValue g rc) {l2 : Int} {h : ms_M} (a_l2 : 0 ≤ l2) (b_l2 : l2 ≤ 50000000) (V_h : VS_ h) (x_0 : h 34 1 + h 34 3 ≤ 1400000020) (x_1 : h 2 10 ≤ 45000005)  : Ok_ (qj_X10_readUnary_116 nn rc l2 h) (QVR_ (fun r => (r 2 3 = h 2 3) ∧ (h 2 11 = 0 ∨ ¬ r 2 11 = 0) ∧ (h 2 10 ≤ r 2 10) ∧ (r 34 1 + r 34 3 + 12 * r 49 10 + 20 * h 2 10 ≤ h 34 1 + h 34 3 + 12 * h 49 10 + 20 * r 2 10 + 0) ∧ (r 2 10 ≤ h 2 10 + 0))) := by
  unfold qj_X10_readUnary_116
  have T1 := gF_2_3 V_h
  have T2 := gF_2_10 V_h
  have T3 := gF_2_11 V_h
  have T4 := gF_34_1 V_h
  have T5 := gF_34_3 V_h
  have T6 := gF_49_10 V_h
  refine ok_xl ?_; intro h1 E_h1; have V_h1 : VS_ h1 := by rw [E_h1]; exact wF_49_15 V_h (by omega)
  have T7 : h1 2 3 = h 2 3 := by rw [E_h1]; exact up_n (by decide)
  have T8 : h1 2 10 = h 2 10 := by rw [E_h1]; exact up_n (by decide)
  have T9 : h1 2 11 = h 2 11 := by rw [E_h1]; exact up_n (by decide)
  have T10 : h1 34 1 = h 34 1 := by rw [E_h1]; exact up_n (by decide)
  have T11 : h1 34 3 = h 34 3 := by rw [E_h1]; exact up_n (by decide)
  have T12 : h1 49 10 = h 49 10 := by rw [E_h1]; exact up_n (by decide)
  exact ok_rVR V_h1 (by omega)
set_option maxRecDepth 4000 in
theorem vj_X10_readUnary_41 {nn : Nat} (hn : 1000000 ≤ nn) {g : Int} {rc : tq_X10_readValue} (hg : GH_X10_readValue g rc) {l1 : Int} {l2 : Int} {l3 : Int} {h : ms_M} (a_l1 : 1 ≤ l1) (b_l1 : l1 ≤ 43) (a_l2 : 0 ≤ l2) (b_l2 : l2 ≤ 50000000) (a_l3 : 62 ≤ l3) (b_l3 : l3 ≤ 72) (V_h : VS_ h) (x_0 : (9 * (44 - l1) + 6) ≤ (g + 1)) (x_1 : h 2 10 + 20000 * (9 * (44 - l1) + 6) ≤ 40015000) (x_2 : h 34 1 + h 34 3 + 12 * h 49 10 + 100 * (9 * (44 - l1) + 6) ≤ 20 * h 2 10 + 100060) (x_3 : (h 2 11 = 0 ∧ h 2 10 < h 2 3)) (x_4 : l1 ≤ 42)  : Ok_ (qj_X10_readUnary_41 nn rc l1 l2 l3 h) (QVR_ (fun r => (r 2 3 = h 2 3) ∧ (h 2 11 = 0 ∨ ¬ r 2 11 = 0) ∧ (h 2 10 ≤ r 2 10) ∧ (r 34 1 + r 34 3 + 12 * r 49 10 + 20 * h 2 10 ≤ h 34 1 + h 34 3 + 12 * h 49 10 + 20 * r 2 10 + (-10)) ∧ (r 2 10 ≤ 3001 + 20000 * (9 * (44 - l1) + 6)))) := by
  unfold qj_X10_readUnary_41
  have T1 := gF_2_3 V_h
  have T2 := gF_2_10 V_h
  have T3 := gF_2_11 V_h
  have T4 := gF_34_1 V_h
  have T5 := gF_34_3 V_h
  have T6 := gF_49_10 V_h
  refine ok_add (by omega) ?_; intro v4 e_v4
  refine ok_xl ?_; intro h5 E_h5; have V_h5 : VS_ h5 := by rw [E_h5]; exact wF_2_10 V_h (by omega)
  have T7 : h5 2 3 = h 2 3 := by rw [E_h5]; exact up_n (by decide)
  have T8 : h5 2 11 = h 2 11 := by rw [E_h5]; exact up_n (by decide)
  have T9 : h5 34 1 = h 34 1 := by rw [E_h5]; exact up_n (by decide)
  have T10 : h5 34 3 = h 34 3 := by rw [E_h5]; exact up_n (by decide)
  have T11 : h5 49 10 = h 49 10 := by rw [E_h5]; exact up_n (by decide)
  have T12 : h5 2 10 = v4 := by rw [E_h5]; exact up_s
  refine ok_add (by omega) ?_; intro v6 e_v6
  refine ok_cVR (hg.2.2.1 (by omega) (by omega) V_h5 (by omega) (by omega) (by omega)) ?_; intro u8 E_u8 V_u8 R_u8
  have T13 := gF_2_3 V_u8
  have T14 := gF_2_10 V_u8
  have T15 := gF_2_11 V_u8
  have T16 := gF_34_1 V_u8
  have T17 := gF_34_3 V_u8
  have T18 := gF_49_10 V_u8
  refine ok_cVR (vf_X10_closeUnary hn (by omega) (by omega) (by omega) (by omega) V_u8 (by omega)) ?_; intro u10 E_u10 V_u10 R_u10
  have T19 : u10 2 3 = u8 2 3 := (ff_X10_closeUnary nn) _ E_u10 2 3 rfl
  have T20 : u10 2 10 = u8 2 10 := (ff_X10_closeUnary nn) _ E_u10 2 10 rfl
  have T21 : u10 49 10 = u8 49 10 := (ff_X10_closeUnary nn) _ E_u10 49 10 rfl
  have T22 := gF_2_11 V_u10
  have T23 := gF_34_1 V_u10
  have T24 := gF_34_3 V_u10
  exact ok_mV (vj_X10_readUnary_116 hn hg (by omega) (by omega) V_u10 (by omega) (by omega)) (fun _ V_r R_r => by have := gF_2_3 V_r; have := gF_2_10 V_r; have := gF_2_11 V_r; have := gF_34_1 V_r; have := gF_34_3 V_r; have := gF_49_10 V_r; omega)
set_option maxRecDepth 4000 in
theorem vo_X10_readUnary {nn : Nat} (hn : 1000000 ≤ nn) {g : Int} {rc : tq_X10_readValue} (hg : GH_X10_readValue g rc) {a1 : Int} {h : ms_M} (a_a1 : 1 ≤ a1) (b_a1 : a1 ≤ 43) (V_h : VS_ h) (x_0 : (9 * (44 - a1) + 6) ≤ (g + 1)) (x_1 : h 2 10 + 20000 * (9 * (44 - a1) + 6) ≤ 40000000) (x_2 : h 34 1 + h 34 3 + 12 * h 49 10 + 100 * (9 * (44 - a1) + 6) ≤ 20 * h 2 10 + 100000)  : Ok_ (qo_X10_readUnary nn rc a1 h) (QVR_ (fun r => (r 2 3 = h 2 3) ∧ (h 2 11 = 0 ∨ ¬ r 2 11 = 0) ∧ (h 2 10 ≤ r 2 10) ∧ (r 34 1 + r 34 3 + 12 * r 49 10 + 20 * h 2 10 ≤ h 34 1 + h 34 3 + 12 * h 49 10 + 20 * r 2 10 + 0) ∧ (((h 2 11 = 0 ∧ h 2 10 < h 2 3) ∧ r 2 10 ≤ 3001 + 20000 * (9 * (44 - a1) + 6)) ∨ (¬ (h 2 11 = 0 ∧ h 2 10 < h 2 3) ∧ r 2 10 ≤ h 2 10 + 1)))) := by
  unfold qo_X10_readUnary
  have T1 := gF_2_3 V_h
  have T2 := gF_2_10 V_h
  have T3 := gF_2_11 V_h
  have T4 := gF_34_1 V_h
  have T5 := gF_34_3 V_h
  have T6 := gF_49_10 V_h
  refine ok_if ?_ ?_
  · intro C6
    refine ok_cP (vf_X9_kind hn V_h) ?_; intro u15 e_u15 a_u15 b_u15
    have T8 := lm_X9_kind e_u15
    refine ok_if ?_ ?_
    · intro C8
      exact ok_mV (vj_X10_readUnary_41 hn hg (by omega) (by omega) (by omega) (by omega) (by omega) (by omega) V_h (by omega) (by omega) (by omega) (by omega) (by omega)) (fun _ V_r R_r => by have := gF_2_3 V_r; have := gF_2_10 V_r; have := gF_2_11 V_r; have := gF_34_1 V_r; have := gF_34_3 V_r; have := gF_49_10 V_r; omega)
    · intro C8
      refine ok_if ?_ ?_
      · intro C9
        exact ok_mV (vj_X10_readUnary_41 hn hg (by omega) (by omega) (by omega) (by omega) (by omega) (by omega) V_h (by omega) (by omega) (by omega) (by omega) (by omega)) (fun _ V_r R_r => by have := gF_2_3 V_r; have := gF_2_10 V_r; have := gF_2_11 V_r; have := gF_34_1 V_r; have := gF_34_3 V_r; have := gF_49_10 V_r; omega)
      · intro C9
        refine ok_if ?_ ?_
        · intro C10
          refine ok_cP (vf_X9_beginsCast hn V_h) ?_; intro u18 e_u18 a_u18 b_u18
          have T12 := lm_X9_beginsCast e_u18
          refine ok_if ?_ ?_
          · intro C12
            refine ok_cVR (hg.2.2.2.1 (by omega) (by omega) V_h (by omega) (by omega) (by omega)) ?_; intro u20 E_u20 V_u20 R_u20
            have T14 := gF_2_3 V_u20
            have T15 := gF_2_10 V_u20
            have T16 := gF_2_11 V_u20
            have T17 := gF_34_1 V_u20
            have T18 := gF_34_3 V_u20
            have T19 := gF_49_10 V_u20
            exact ok_mV (vj_X10_readUnary_116 hn hg (by omega) (by omega) V_u20 (by omega) (by omega)) (fun _ V_r R_r => by have := gF_2_3 V_r; have := gF_2_10 V_r; have := gF_2_11 V_r; have := gF_34_1 V_r; have := gF_34_3 V_r; have := gF_49_10 V_r; omega)
          · intro C12
            refine ok_add (by omega) ?_; intro v21 e_v21
            refine ok_add (by omega) ?_; intro v22 e_v22
            refine ok_cIR (vf_X10_readNamedClass hn (by omega) (by omega) (by omega) (by omega) V_h (by omega)) ?_; intro u24 E_u24 V_u24 a_u24 b_u24 R_u24
            have T20 : u24.2 2 3 = h 2 3 := (ff_X10_readNamedClass nn) _ E_u24 2 3 rfl
            have T21 : u24.2 34 1 = h 34 1 := (ff_X10_readNamedClass nn) _ E_u24 34 1 rfl
            have T22 : u24.2 34 3 = h 34 3 := (ff_X10_readNamedClass nn) _ E_u24 34 3 rfl
            have T23 : u24.2 49 10 = h 49 10 := (ff_X10_readNamedClass nn) _ E_u24 49 10 rfl
            have T24 := gF_2_10 V_u24
            have T25 := gF_2_11 V_u24
            refine ok_add (by omega) ?_; intro v25 e_v25
            refine ok_cVR (hg.2.2.1 (by omega) (by omega) V_u24 (by omega) (by omega) (by omega)) ?_; intro u27 E_u27 V_u27 R_u27
            have T26 := gF_2_3 V_u27
            have T27 := gF_2_10 V_u27
            have T28 := gF_2_11 V_u27
            have T29 := gF_34_1 V_u27
            have T30 := gF_34_3 V_u27
            have T31 := gF_49_10 V_u27
            refine ok_add (by omega) ?_; intro v28 e_v28
            refine ok_cVR (vf_X10_closeCast hn (by omega) (by omega) (by omega) (by omega) V_u27 (by omega)) ?_; intro u30 E_u30 V_u30 R_u30
            have T32 : u30 2 3 = u27 2 3 := (ff_X10_closeCast nn) _ E_u30 2 3 rfl
            have T33 : u30 2 10 = u27 2 10 := (ff_X10_closeCast nn) _ E_u30 2 10 rfl
            have T34 : u30 49 10 = u27 49 10 := (ff_X10_closeCast nn) _ E_u30 49 10 rfl
            have T35 := gF_2_11 V_u30
            have T36 := gF_34_1 V_u30
            have T37 := gF_34_3 V_u30
            exact ok_mV (vj_X10_readUnary_116 hn hg (by omega) (by omega) V_u30 (by omega) (by omega)) (fun _ V_r R_r => by have := gF_2_3 V_r; have := gF_2_10 V_r; have := gF_2_11 V_r; have := gF_34_1 V_r; have := gF_34_3 V_r; have := gF_49_10 V_r; omega)
        · intro C10
          exact ok_mV (vj_X10_readUnary_41 hn hg (by omega) (by omega) (by omega) (by omega) (by omega) (by omega) V_h (by omega) (by omega) (by omega) (by omega) (by omega)) (fun _ V_r R_r => by have := gF_2_3 V_r; have := gF_2_10 V_r; have := gF_2_11 V_r; have := gF_34_1 V_r; have := gF_34_3 V_r; have := gF_49_10 V_r; omega)
  · intro C6
    exact ok_rVR V_h (by omega)
set_option maxRecDepth 4000 in
theorem vj_X10_readPrimary_176 {nn : Nat} (hn : 1000000 ≤ nn) {g : Int} {rc : tq_X10_readValue} (hg : GH_X10_readValue g rc) {l3 : Int} {h : ms_M} (a_l3 : 0 ≤ l3) (b_l3 : l3 ≤ 1740) (V_h : VS_ h) (x_0 : h 34 1 + h 34 3 ≤ 1400000020) (x_1 : h 2 10 ≤ 45000005)  : Ok_ (qj_X10_readPrimary_176 nn rc l3 h) (QVR_ (fun r => (r 2 3 = h 2 3) ∧ (h 2 11 = 0 ∨ ¬ r 2 11 = 0) ∧ (h 2 10 ≤ r 2 10) ∧ (r 34 1 + r 34 3 + 12 * r 49 10 + 20 * h 2 10 ≤ h 34 1 + h 34 3 + 12 * h 49 10 + 20 * r 2 10 + 3) ∧ (r 2 10 ≤ h 2 10 + 0))) := by
  unfold qj_X10_readPrimary_176
  have T1 := gF_2_3 V_h
  have T2 := gF_2_10 V_h
  have T3 := gF_2_11 V_h
  have T4 := gF_34_1 V_h
  have T5 := gF_34_3 V_h
  have T6 := gF_49_10 V_h
  refine ok_if ?_ ?_
  · intro C6
    exact ok_rVR V_h (by omega)
  · intro C6
    refine ok_cVR (vf_X10_fetch hn V_h (by omega)) ?_; intro u2 E_u2 V_u2 R_u2
    have T8 : u2 2 3 = h 2 3 := (ff_X10_fetch nn) _ E_u2 2 3 rfl
    have T9 : u2 2 10 = h 2 10 := (ff_X10_fetch nn) _ E_u2 2 10 rfl
    have T10 : u2 2 11 = h 2 11 := (ff_X10_fetch nn) _ E_u2 2 11 rfl
    have T11 : u2 49 10 = h 49 10 := (ff_X10_fetch nn) _ E_u2 49 10 rfl
    have T12 := gF_34_1 V_u2
    have T13 := gF_34_3 V_u2
    exact ok_rVR V_u2 (by omega)
set_option maxRecDepth 4000 in
theorem vj_X10_readPrimary_162 {nn : Nat} (hn : 1000000 ≤ nn) {g : Int} {rc : tq_X10_readValue} (hg : GH_X10_readValue g rc) {qkk_118 : Int → Int → Int → Int → ms_M → Option ms_M} {K_kk_118 : Int} (hk_kk_118 : ∀ {l1 : Int} {l2 : Int} {l3 : Int} {l4 : Int} {h : ms_M} (a_l1 : 1 ≤ l1) (b_l1 : l1 ≤ 43) (a_l2 : 0 ≤ l2) (b_l2 : l2 ≤ 50000000) (a_l3 : 0 ≤ l3) (b_l3 : l3 ≤ 1740) (a_l4 : 0 ≤ l4) (b_l4 : l4 ≤ 3000) (V_h : VS_ h) (x_0 : (9 * (44 - l1) + 5) ≤ (g + 1)) (x_1 : h 2 10 + 20000 * (9 * (44 - l1) + 5) ≤ 40015000) (x_2 : h 34 1 + h 34 3 + 12 * h 49 10 + 100 * (9 * (44 - l1) + 5) ≤ 20 * h 2 10 + 100060) (x_3 : l3 = 0 ∨ (h 2 11 = 0 ∧ h 2 10 < h 2 3)) (_ : 3001 - l4 < K_kk_118), Ok_ (qkk_118 l1 l2 l3 l4 h) (QVR_ (fun r => (r 2 3 = h 2 3) ∧ (h 2 11 = 0 ∨ ¬ r 2 11 = 0) ∧ (h 2 10 ≤ r 2 10) ∧ (r 34 1 + r 34 3 + 12 * r 49 10 + 20 * h 2 10 ≤ h 34 1 + h 34 3 + 12 * h 49 10 + 20 * r 2 10 + 3) ∧ (((h 2 11 = 0 ∧ h 2 10 < h 2 3) ∧ r 2 10 ≤ 3001 + 20000 * (9 * (44 - l1) + 5)) ∨ (¬ (h 2 11 = 0 ∧ h 2 10 < h 2 3) ∧ r 2 10 ≤ h 2 10 + 0))))) {l1 : Int} {l2 : Int} {l4 : Int} {h : ms_M} (a_l1 : 1 ≤ l1) (b_l1 : l1 ≤ 43) (a_l2 : 0 ≤ l2) (b_l2 : l2 ≤ 50000000) (a_l4 : 0 ≤ l4) (b_l4 : l4 ≤ 2999) (V_h : VS_ h) (x_0 : (9 * (44 - l1) + 5) ≤ (g + 1)) (x_1 : h 2 10 + 20000 * (9 * (44 - l1) + 5) ≤ 40015000) (x_2 : h 34 1 + h 34 3 + 12 * h 49 10 + 100 * (9 * (44 - l1) + 5) ≤ 20 * h 2 10 + 100060) (hm_kk_118 : 3001 - l4 + 0 ≤ K_kk_118) : Ok_ (qj_X10_readPrimary_162 nn rc qkk_118 l1 l2 l4 h) (QVR_ (fun r => (r 2 3 = h 2 3) ∧ (h 2 11 = 0 ∨ ¬ r 2 11 = 0) ∧ (h 2 10 ≤ r 2 10) ∧ (r 34 1 + r 34 3 + 12 * r 49 10 + 20 * h 2 10 ≤ h 34 1 + h 34 3 + 12 * h 49 10 + 20 * r 2 10 + 3) ∧ (((h 2 11 = 0 ∧ h 2 10 < h 2 3) ∧ r 2 10 ≤ 3001 + 20000 * (9 * (44 - l1) + 5)) ∨ (¬ (h 2 11 = 0 ∧ h 2 10 < h 2 3) ∧ r 2 10 ≤ h 2 10 + 0)))) := by
  unfold qj_X10_readPrimary_162
  have T1 := gF_2_3 V_h
  have T2 := gF_2_10 V_h
  have T3 := gF_2_11 V_h
  have T4 := gF_34_1 V_h
  have T5 := gF_34_3 V_h
  have T6 := gF_49_10 V_h
  refine ok_cP (vf_X9_kind hn V_h) ?_; intro u6 e_u6 a_u6 b_u6
  have T7 := lm_X9_kind e_u6
  refine ok_add (by omega) ?_; intro v7 e_v7
  exact ok_mV (hk_kk_118 (by omega) (by omega) (by omega) (by omega) (by omega) (by omega) (by omega) (by omega) V_h (by omega) (by omega) (by omega) (by omega) (by omega)) (fun _ V_r R_r => by have := gF_2_3 V_r; have := gF_2_10 V_r; have := gF_2_11 V_r; have := gF_34_1 V_r; have := gF_34_3 V_r; have := gF_49_10 V_r; omega)
set_option maxRecDepth 4000 in
theorem vj_X10_readPrimary_138 {nn : Nat} (hn : 1000000 ≤ nn) {g : Int} {rc : tq_X10_readValue} (hg : GH_X10_readValue g rc) {qkk_118 : Int → Int → Int → Int → ms_M → Option ms_M} {K_kk_118 : Int} (hk_kk_118 : ∀ {l1 : Int} {l2 : Int} {l3 : Int} {l4 : Int} {h : ms_M} (a_l1 : 1 ≤ l1) (b_l1 : l1 ≤ 43) (a_l2 : 0 ≤ l2) (b_l2 : l2 ≤ 50000000) (a_l3 : 0 ≤ l3) (b_l3 : l3 ≤ 1740) (a_l4 : 0 ≤ l4) (b_l4 : l4 ≤ 3000) (V_h : VS_ h) (x_0 : (9 * (44 - l1) + 5) ≤ (g + 1)) (x_1 : h 2 10 + 20000 * (9 * (44 - l1) + 5) ≤ 40015000) (x_2 : h 34 1 + h 34 3 + 12 * h 49 10 + 100 * (9 * (44 - l1) + 5) ≤ 20 * h 2 10 + 100060) (x_3 : l3 = 0 ∨ (h 2 11 = 0 ∧ h 2 10 < h 2 3)) (_ : 3001 - l4 < K_kk_118), Ok_ (qkk_118 l1 l2 l3 l4 h) (QVR_ (fun r => (r 2 3 = h 2 3) ∧ (h 2 11 = 0 ∨ ¬ r 2 11 = 0) ∧ (h 2 10 ≤ r 2 10) ∧ (r 34 1 + r 34 3 + 12 * r 49 10 + 20 * h 2 10 ≤ h 34 1 + h 34 3 + 12 * h 49 10 + 20 * r 2 10 + 3) ∧ (((h 2 11 = 0 ∧ h 2 10 < h 2 3) ∧ r 2 10 ≤ 3001 + 20000 * (9 * (44 - l1) + 5)) ∨ (¬ (h 2 11 = 0 ∧ h 2 10 < h 2 3) ∧ r 2 10 ≤ h 2 10 + 0))))) {l1 : Int} {l2 : Int} {l3 : Int} {l4 : Int} {h : ms_M} (a_l1 : 1 ≤ l1) (b_l1 : l1 ≤ 43) (a_l2 : 0 ≤ l2) (b_l2 : l2 ≤ 50000000) (a_l3 : 44 ≤ l3) (b_l3 : l3 ≤ 48) (a_l4 : 0 ≤ l4) (b_l4 : l4 ≤ 2999) (V_h : VS_ h) (x_0 : (9 * (44 - l1) + 5) ≤ (g + 1)) (x_1 : h 2 10 + 20000 * (9 * (44 - l1) + 5) ≤ 40015000) (x_2 : h 34 1 + h 34 3 + 12 * h 49 10 + 100 * (9 * (44 - l1) + 5) ≤ 20 * h 2 10 + 100060) (x_3 : (h 2 11 = 0 ∧ h 2 10 < h 2 3)) (hm_kk_118 : 3001 - l4 + 0 ≤ K_kk_118) : Ok_ (qj_X10_readPrimary_138 nn rc qkk_118 l1 l2 l3 l4 h) (QVR_ (fun r => (r 2 3 = h 2 3) ∧ (h 2 11 = 0 ∨ ¬ r 2 11 = 0) ∧ (h 2 10 ≤ r 2 10) ∧ (r 34 1 + r 34 3 + 12 * r 49 10 + 20 * h 2 10 ≤ h 34 1 + h 34 3 + 12 * h 49 10 + 20 * r 2 10 + (-32)) ∧ (r 2 10 ≤ 3001 + 20000 * (9 * (44 - l1) + 5)))) := by
  unfold qj_X10_readPrimary_138
  have T1 := gF_2_3 V_h
  have T2 := gF_2_10 V_h
  have T3 := gF_2_11 V_h
  have T4 := gF_34_1 V_h
  have T5 := gF_34_3 V_h
  have T6 := gF_49_10 V_h
  refine ok_cVR (vf_X10_fetch hn V_h (by omega)) ?_; intro u9 E_u9 V_u9 R_u9
  have T7 : u9 2 3 = h 2 3 := (ff_X10_fetch nn) _ E_u9 2 3 rfl
  have T8 : u9 2 10 = h 2 10 := (ff_X10_fetch nn) _ E_u9 2 10 rfl
  have T9 : u9 2 11 = h 2 11 := (ff_X10_fetch nn) _ E_u9 2 11 rfl
  have T10 : u9 49 10 = h 49 10 := (ff_X10_fetch nn) _ E_u9 49 10 rfl
  have T11 := gF_34_1 V_u9
  have T12 := gF_34_3 V_u9
  refine ok_if ?_ ?_
  · intro C12
    refine ok_cVR (hg.2.2.2.2.2.1 (by omega) (by omega) V_u9 (by omega) (by omega) (by omega) (by omega)) ?_; intro u11 E_u11 V_u11 R_u11
    have T14 := gF_2_3 V_u11
    have T15 := gF_2_10 V_u11
    have T16 := gF_2_11 V_u11
    have T17 := gF_34_1 V_u11
    have T18 := gF_34_3 V_u11
    have T19 := gF_49_10 V_u11
    exact ok_mV (vj_X10_readPrimary_162 hn hg hk_kk_118 (by omega) (by omega) (by omega) (by omega) (by omega) (by omega) V_u11 (by omega) (by omega) (by omega) (by omega)) (fun _ V_r R_r => by have := gF_2_3 V_r; have := gF_2_10 V_r; have := gF_2_11 V_r; have := gF_34_1 V_r; have := gF_34_3 V_r; have := gF_49_10 V_r; omega)
  · intro C12
    refine ok_cVR (hg.2.2.2.2.2.2.2.1 (by omega) (by omega) (by omega) (by omega) V_u9 (by omega) (by omega) (by omega) (by omega)) ?_; intro u13 E_u13 V_u13 R_u13
    have T20 := gF_2_3 V_u13
    have T21 := gF_2_10 V_u13
    have T22 := gF_2_11 V_u13
    have T23 := gF_34_1 V_u13
    have T24 := gF_34_3 V_u13
    have T25 := gF_49_10 V_u13
    exact ok_mV (vj_X10_readPrimary_162 hn hg hk_kk_118 (by omega) (by omega) (by omega) (by omega) (by omega) (by omega) V_u13 (by omega) (by omega) (by omega) (by omega)) (fun _ V_r R_r => by have := gF_2_3 V_r; have := gF_2_10 V_r; have := gF_2_11 V_r; have := gF_34_1 V_r; have := gF_34_3 V_r; have := gF_49_10 V_r; omega)
set_option maxRecDepth 4000 in
theorem vw_X10_readPrimary_118 {nn : Nat} (hn : 1000000 ≤ nn) {g : Int} {rc : tq_X10_readValue} (hg : GH_X10_readValue g rc) : ∀ (k : Nat) {l1 : Int} {l2 : Int} {l3 : Int} {l4 : Int} {h : ms_M} (a_l1 : 1 ≤ l1) (b_l1 : l1 ≤ 43) (a_l2 : 0 ≤ l2) (b_l2 : l2 ≤ 50000000) (a_l3 : 0 ≤ l3) (b_l3 : l3 ≤ 1740) (a_l4 : 0 ≤ l4) (b_l4 : l4 ≤ 3000) (V_h : VS_ h) (x_0 : (9 * (44 - l1) + 5) ≤ (g + 1)) (x_1 : h 2 10 + 20000 * (9 * (44 - l1) + 5) ≤ 40015000) (x_2 : h 34 1 + h 34 3 + 12 * h 49 10 + 100 * (9 * (44 - l1) + 5) ≤ 20 * h 2 10 + 100060) (x_3 : l3 = 0 ∨ (h 2 11 = 0 ∧ h 2 10 < h 2 3))  (hm : 3001 - l4 < (k : Int)), Ok_ (qw_X10_readPrimary_118 nn rc k l1 l2 l3 l4 h) (QVR_ (fun r => (r 2 3 = h 2 3) ∧ (h 2 11 = 0 ∨ ¬ r 2 11 = 0) ∧ (h 2 10 ≤ r 2 10) ∧ (r 34 1 + r 34 3 + 12 * r 49 10 + 20 * h 2 10 ≤ h 34 1 + h 34 3 + 12 * h 49 10 + 20 * r 2 10 + 3) ∧ (((h 2 11 = 0 ∧ h 2 10 < h 2 3) ∧ r 2 10 ≤ 3001 + 20000 * (9 * (44 - l1) + 5)) ∨ (¬ (h 2 11 = 0 ∧ h 2 10 < h 2 3) ∧ r 2 10 ≤ h 2 10 + 0)))) := by
  intro k
  induction k with
  | zero => intros; exfalso; omega
  | succ k ih =>
    intro l1 l2 l3 l4 h a_l1 b_l1 a_l2 b_l2 a_l3 b_l3 a_l4 b_l4 V_h x_0 x_1 x_2 x_3 hm
    unfold qw_X10_readPrimary_118
    have T1 := gF_2_3 V_h
    have T2 := gF_2_10 V_h
    have T3 := gF_2_11 V_h
    have T4 := gF_34_1 V_h
    have T5 := gF_34_3 V_h
    have T6 := gF_49_10 V_h
    refine ok_if ?_ ?_
    · intro C6
      exact ok_mV (vj_X10_readPrimary_176 hn hg (by omega) (by omega) V_h (by omega) (by omega)) (fun _ V_r R_r => by have := gF_2_3 V_r; have := gF_2_10 V_r; have := gF_2_11 V_r; have := gF_34_1 V_r; have := gF_34_3 V_r; have := gF_49_10 V_r; omega)
    · intro C6
      refine ok_if ?_ ?_
      · intro C7
        exact ok_mV (vj_X10_readPrimary_138 hn hg ih (by omega) (by omega) (by omega) (by omega) (by omega) (by omega) (by omega) (by omega) V_h (by omega) (by omega) (by omega) (by omega) (by omega)) (fun _ V_r R_r => by have := gF_2_3 V_r; have := gF_2_10 V_r; have := gF_2_11 V_r; have := gF_34_1 V_r; have := gF_34_3 V_r; have := gF_49_10 V_r; omega)
      · intro C7
        refine ok_if ?_ ?_
        · intro C8
          exact ok_mV (vj_X10_readPrimary_176 hn hg (by omega) (by omega) V_h (by omega) (by omega)) (fun _ V_r R_r => by have := gF_2_3 V_r; have := gF_2_10 V_r; have := gF_2_11 V_r; have := gF_34_1 V_r; have := gF_34_3 V_r; have := gF_49_10 V_r; omega)
        · intro C8
          exact ok_mV (vj_X10_readPrimary_138 hn hg ih (by omega) (by omega) (by omega) (by omega) (by omega) (by omega) (by omega) (by omega) V_h (by omega) (by omega) (by omega) (by omega) (by omega)) (fun _ V_r R_r => by have := gF_2_3 V_r; have := gF_2_10 V_r; have := gF_2_11 V_r; have := gF_34_1 V_r; have := gF_34_3 V_r; have := gF_49_10 V_r; omega)
set_option maxRecDepth 4000 in
theorem vj_X10_readPrimary_107 {nn : Nat} (hn : 1000000 ≤ nn) {g : Int} {rc : tq_X10_readValue} (hg : GH_X10_readValue g rc) {l1 : Int} {l2 : Int} {h : ms_M} (a_l1 : 1 ≤ l1) (b_l1 : l1 ≤ 43) (a_l2 : 0 ≤ l2) (b_l2 : l2 ≤ 50000000) (V_h : VS_ h) (x_0 : (9 * (44 - l1) + 5) ≤ (g + 1)) (x_1 : h 2 10 + 20000 * (9 * (44 - l1) + 5) ≤ 40015000) (x_2 : h 34 1 + h 34 3 + 12 * h 49 10 + 100 * (9 * (44 - l1) + 5) ≤ 20 * h 2 10 + 100060)  : Ok_ (qj_X10_readPrimary_107 nn rc l1 l2 h) (QVR_ (fun r => (r 2 3 = h 2 3) ∧ (h 2 11 = 0 ∨ ¬ r 2 11 = 0) ∧ (h 2 10 ≤ r 2 10) ∧ (r 34 1 + r 34 3 + 12 * r 49 10 + 20 * h 2 10 ≤ h 34 1 + h 34 3 + 12 * h 49 10 + 20 * r 2 10 + 3) ∧ (((h 2 11 = 0 ∧ h 2 10 < h 2 3) ∧ r 2 10 ≤ 3001 + 20000 * (9 * (44 - l1) + 5)) ∨ (¬ (h 2 11 = 0 ∧ h 2 10 < h 2 3) ∧ r 2 10 ≤ h 2 10 + 0)))) := by
  unfold qj_X10_readPrimary_107
  have T1 := gF_2_3 V_h
  have T2 := gF_2_10 V_h
  have T3 := gF_2_11 V_h
  have T4 := gF_34_1 V_h
  have T5 := gF_34_3 V_h
  have T6 := gF_49_10 V_h
  refine ok_cP (vf_X9_kind hn V_h) ?_; intro u20 e_u20 a_u20 b_u20
  have T7 := lm_X9_kind e_u20
  exact ok_mV (vw_X10_readPrimary_118 hn hg _ (by omega) (by omega) (by omega) (by omega) (by omega) (by omega) (by omega) (by omega) V_h (by omega) (by omega) (by omega) (by omega) (by omega)) (fun _ V_r R_r => by have := gF_2_3 V_r; have := gF_2_10 V_r; have := gF_2_11 V_r; have := gF_34_1 V_r; have := gF_34_3 V_r; have := gF_49_10 V_r; omega)
set_option maxRecDepth 4000 in
theorem vo_X10_readPrimary {nn : Nat} (hn : 1000000 ≤ nn) {g : Int} {rc : tq_X10_readValue} (hg : GH_X10_readValue g rc) {a1 : Int} {h : ms_M} (a_a1 : 1 ≤ a1) (b_a1 : a1 ≤ 43) (V_h : VS_ h) (x_0 : (9 * (44 - a1) + 5) ≤ (g + 1)) (x_1 : h 2 10 + 20000 * (9 * (44 - a1) + 5) ≤ 40000000) (x_2 : h 34 1 + h 34 3 + 12 * h 49 10 + 100 * (9 * (44 - a1) + 5) ≤ 20 * h 2 10 + 100000)  : Ok_ (qo_X10_readPrimary nn rc a1 h) (QVR_ (fun r => (r 2 3 = h 2 3) ∧ (h 2 11 = 0 ∨ ¬ r 2 11 = 0) ∧ (h 2 10 ≤ r 2 10) ∧ (r 34 1 + r 34 3 + 12 * r 49 10 + 20 * h 2 10 ≤ h 34 1 + h 34 3 + 12 * h 49 10 + 20 * r 2 10 + (-14)) ∧ (((h 2 11 = 0 ∧ h 2 10 < h 2 3) ∧ r 2 10 ≤ 3001 + 20000 * (9 * (44 - a1) + 5)) ∨ (¬ (h 2 11 = 0 ∧ h 2 10 < h 2 3) ∧ r 2 10 ≤ h 2 10 + 1)))) := by
  unfold qo_X10_readPrimary
  have T1 := gF_2_3 V_h
  have T2 := gF_2_10 V_h
  have T3 := gF_2_11 V_h
  have T4 := gF_34_1 V_h
  have T5 := gF_34_3 V_h
  have T6 := gF_49_10 V_h
  refine ok_cP (vf_X9_kind hn V_h) ?_; intro u25 e_u25 a_u25 b_u25
  have T7 := lm_X9_kind e_u25
  refine ok_if ?_ ?_
  · intro C7
    refine ok_cVR (hg.2.2.2.2.2.2.1 (by omega) (by omega) V_h (by omega) (by omega) (by omega) (by omega)) ?_; intro u29 E_u29 V_u29 R_u29
    have T9 := gF_2_3 V_u29
    have T10 := gF_2_10 V_u29
    have T11 := gF_2_11 V_u29
    have T12 := gF_34_1 V_u29
    have T13 := gF_34_3 V_u29
    have T14 := gF_49_10 V_u29
    exact ok_mV (vj_X10_readPrimary_107 hn hg (by omega) (by omega) (by omega) (by omega) V_u29 (by omega) (by omega) (by omega)) (fun _ V_r R_r => by have := gF_2_3 V_r; have := gF_2_10 V_r; have := gF_2_11 V_r; have := gF_34_1 V_r; have := gF_34_3 V_r; have := gF_49_10 V_r; omega)
  · intro C7
    refine ok_if ?_ ?_
    · intro C14
      refine ok_cVR (hg.2.2.2.2.1 (by omega) (by omega) V_h (by omega) (by omega) (by omega) (by omega)) ?_; intro u31 E_u31 V_u31 R_u31
      have T16 := gF_2_3 V_u31
      have T17 := gF_2_10 V_u31
      have T18 := gF_2_11 V_u31
      have T19 := gF_34_1 V_u31
      have T20 := gF_34_3 V_u31
      have T21 := gF_49_10 V_u31
      exact ok_mV (vj_X10_readPrimary_107 hn hg (by omega) (by omega) (by omega) (by omega) V_u31 (by omega) (by omega) (by omega)) (fun _ V_r R_r => by have := gF_2_3 V_r; have := gF_2_10 V_r; have := gF_2_11 V_r; have := gF_34_1 V_r; have := gF_34_3 V_r; have := gF_49_10 V_r; omega)
    · intro C14
      refine ok_if ?_ ?_
      · intro C21
        refine ok_add (by omega) ?_; intro v34 e_v34
        refine ok_xl ?_; intro h35 E_h35; have V_h35 : VS_ h35 := by rw [E_h35]; exact wF_2_10 V_h (by omega)
        have T23 : h35 2 3 = h 2 3 := by rw [E_h35]; exact up_n (by decide)
        have T24 : h35 2 11 = h 2 11 := by rw [E_h35]; exact up_n (by decide)
        have T25 : h35 34 1 = h 34 1 := by rw [E_h35]; exact up_n (by decide)
        have T26 : h35 34 3 = h 34 3 := by rw [E_h35]; exact up_n (by decide)
        have T27 : h35 49 10 = h 49 10 := by rw [E_h35]; exact up_n (by decide)
        have T28 : h35 2 10 = v34 := by rw [E_h35]; exact up_s
        refine ok_cVR (hg.1 (by omega) (by omega) V_h35 (by omega) (by omega) (by omega)) ?_; intro u37 E_u37 V_u37 R_u37
        have T29 := gF_2_3 V_u37
        have T30 := gF_2_10 V_u37
        have T31 := gF_2_11 V_u37
        have T32 := gF_34_1 V_u37
        have T33 := gF_34_3 V_u37
        have T34 := gF_49_10 V_u37
        refine ok_add (by omega) ?_; intro v40 e_v40
        refine ok_xl ?_; intro h41 E_h41; have V_h41 : VS_ h41 := by rw [E_h41]; exact wF_2_10 V_u37 (by omega)
        have T35 : h41 2 3 = u37 2 3 := by rw [E_h41]; exact up_n (by decide)
        have T36 : h41 2 11 = u37 2 11 := by rw [E_h41]; exact up_n (by decide)
        have T37 : h41 34 1 = u37 34 1 := by rw [E_h41]; exact up_n (by decide)
        have T38 : h41 34 3 = u37 34 3 := by rw [E_h41]; exact up_n (by decide)
        have T39 : h41 49 10 = u37 49 10 := by rw [E_h41]; exact up_n (by decide)
        have T40 : h41 2 10 = v40 := by rw [E_h41]; exact up_s
        refine ok_xl ?_; intro h42 E_h42; have V_h42 : VS_ h42 := by rw [E_h42]; exact wF_49_11 V_h41 (by omega)
        have T41 : h42 2 3 = h41 2 3 := by rw [E_h42]; exact up_n (by decide)
        have T42 : h42 2 11 = h41 2 11 := by rw [E_h42]; exact up_n (by decide)
        have T43 : h42 34 1 = h41 34 1 := by rw [E_h42]; exact up_n (by decide)
        have T44 : h42 34 3 = h41 34 3 := by rw [E_h42]; exact up_n (by decide)
        have T45 : h42 49 10 = h41 49 10 := by rw [E_h42]; exact up_n (by decide)
        have T46 : h42 2 10 = h41 2 10 := by rw [E_h42]; exact up_n (by decide)
        exact ok_mV (vj_X10_readPrimary_107 hn hg (by omega) (by omega) (by omega) (by omega) V_h42 (by omega) (by omega) (by omega)) (fun _ V_r R_r => by have := gF_2_3 V_r; have := gF_2_10 V_r; have := gF_2_11 V_r; have := gF_34_1 V_r; have := gF_34_3 V_r; have := gF_49_10 V_r; omega)
      · intro C21
        refine ok_cVR (vf_X10_readConstant hn V_h (by omega) (by omega)) ?_; intro u27 E_u27 V_u27 R_u27
        have T47 : u27 2 3 = h 2 3 := (ff_X10_readConstant nn) _ E_u27 2 3 rfl
        have T48 : u27 49 10 = h 49 10 := (ff_X10_readConstant nn) _ E_u27 49 10 rfl
        have T49 := gF_2_10 V_u27
        have T50 := gF_2_11 V_u27
        have T51 := gF_34_1 V_u27
        have T52 := gF_34_3 V_u27
        exact ok_mV (vj_X10_readPrimary_107 hn hg (by omega) (by omega) (by omega) (by omega) V_u27 (by omega) (by omega) (by omega)) (fun _ V_r R_r => by have := gF_2_3 V_r; have := gF_2_10 V_r; have := gF_2_11 V_r; have := gF_34_1 V_r; have := gF_34_3 V_r; have := gF_49_10 V_r; omega)
set_option maxRecDepth 4000 in
theorem vj_X10_readNew_188 {nn : Nat} (hn : 1000000 ≤ nn) {g : Int} {rc : tq_X10_readValue} (hg : GH_X10_readValue g rc) {l3 : Int} {l4 : Int} {s0 : Int} {s1 : Int} {h : ms_M} (a_l3 : 0 ≤ l3) (b_l3 : l3 ≤ 1) (a_l4 : 0 ≤ l4) (b_l4 : l4 ≤ 341) (a_s0 : 0 ≤ s0) (b_s0 : s0 ≤ 200) (a_s1 : 188 ≤ s1) (b_s1 : s1 ≤ 189) (V_h : VS_ h) (x_0 : h 34 1 + h 34 3 ≤ 1400000020) (x_1 : h 2 10 ≤ 45000005)  : Ok_ (qj_X10_readNew_188 nn rc l3 l4 s0 s1 h) (QVR_ (fun r => (r 2 3 = h 2 3) ∧ (h 2 11 = 0 ∨ ¬ r 2 11 = 0) ∧ (h 2 10 ≤ r 2 10) ∧ (r 34 1 + r 34 3 + 12 * r 49 10 + 20 * h 2 10 ≤ h 34 1 + h 34 3 + 12 * h 49 10 + 20 * r 2 10 + 3) ∧ (r 2 10 ≤ h 2 10 + 0))) := by
  unfold qj_X10_readNew_188
  have T1 := gF_2_3 V_h
  have T2 := gF_2_10 V_h
  have T3 := gF_2_11 V_h
  have T4 := gF_34_1 V_h
  have T5 := gF_34_3 V_h
  have T6 := gF_49_10 V_h
  refine ok_cVR (vf_X1_op_ hn (by omega) (by omega) (by omega) (by omega) V_h (by omega)) ?_; intro u2 E_u2 V_u2 R_u2
  have T7 : u2 2 3 = h 2 3 := (ff_X1_op_ nn) _ E_u2 2 3 rfl
  have T8 : u2 2 10 = h 2 10 := (ff_X1_op_ nn) _ E_u2 2 10 rfl
  have T9 : u2 2 11 = h 2 11 := (ff_X1_op_ nn) _ E_u2 2 11 rfl
  have T10 : u2 34 3 = h 34 3 := (ff_X1_op_ nn) _ E_u2 34 3 rfl
  have T11 : u2 49 10 = h 49 10 := (ff_X1_op_ nn) _ E_u2 49 10 rfl
  have T12 := gF_34_1 V_u2
  refine ok_cVR (vf_X1_pop hn (by omega) (by omega) V_u2 (by omega)) ?_; intro u5 E_u5 V_u5 R_u5
  have T13 : u5 2 3 = u2 2 3 := (ff_X1_pop nn) _ E_u5 2 3 rfl
  have T14 : u5 2 10 = u2 2 10 := (ff_X1_pop nn) _ E_u5 2 10 rfl
  have T15 : u5 2 11 = u2 2 11 := (ff_X1_pop nn) _ E_u5 2 11 rfl
  have T16 : u5 49 10 = u2 49 10 := (ff_X1_pop nn) _ E_u5 49 10 rfl
  have T17 : u5 34 1 = u2 34 1 := (ff_X1_pop nn) _ E_u5 34 1 rfl
  have T18 := gF_34_3 V_u5
  refine ok_if ?_ ?_
  · intro C18
    refine ok_add (by omega) ?_; intro v6 e_v6
    refine ok_cVR (vf_X10_give hn (by omega) (by omega) V_u5 (by omega)) ?_; intro u8 E_u8 V_u8 R_u8
    have T20 : u8 2 3 = u5 2 3 := (ff_X10_give nn) _ E_u8 2 3 rfl
    have T21 : u8 2 10 = u5 2 10 := (ff_X10_give nn) _ E_u8 2 10 rfl
    have T22 : u8 2 11 = u5 2 11 := (ff_X10_give nn) _ E_u8 2 11 rfl
    have T23 : u8 49 10 = u5 49 10 := (ff_X10_give nn) _ E_u8 49 10 rfl
    have T24 : u8 34 1 = u5 34 1 := (ff_X10_give nn) _ E_u8 34 1 rfl
    have T25 := gF_34_3 V_u8
    exact ok_rVR V_u8 (by omega)
  · intro C18
    refine ok_cVR (vf_X10_give hn (by omega) (by omega) V_u5 (by omega)) ?_; intro u10 E_u10 V_u10 R_u10
    have T26 : u10 2 3 = u5 2 3 := (ff_X10_give nn) _ E_u10 2 3 rfl
    have T27 : u10 2 10 = u5 2 10 := (ff_X10_give nn) _ E_u10 2 10 rfl
    have T28 : u10 2 11 = u5 2 11 := (ff_X10_give nn) _ E_u10 2 11 rfl
    have T29 : u10 49 10 = u5 49 10 := (ff_X10_give nn) _ E_u10 49 10 rfl
    have T30 : u10 34 1 = u5 34 1 := (ff_X10_give nn) _ E_u10 34 1 rfl
    have T31 := gF_34_3 V_u10
    exact ok_rVR V_u10 (by omega)
set_option maxRecDepth 4000 in
theorem vj_X10_readNew_170 {nn : Nat} (hn : 1000000 ≤ nn) {g : Int} {rc : tq_X10_readValue} (hg : GH_X10_readValue g rc) {l3 : Int} {l4 : Int} {s0 : Int} {h : ms_M} (a_l3 : 0 ≤ l3) (b_l3 : l3 ≤ 1) (a_l4 : 0 ≤ l4) (b_l4 : l4 ≤ 341) (a_s0 : 188 ≤ s0) (b_s0 : s0 ≤ 189) (V_h : VS_ h) (x_0 : h 34 1 + h 34 3 ≤ 1400000020) (x_1 : h 2 10 ≤ 45000005)  : Ok_ (qj_X10_readNew_170 nn rc l3 l4 s0 h) (QVR_ (fun r => (r 2 3 = h 2 3) ∧ (h 2 11 = 0 ∨ ¬ r 2 11 = 0) ∧ (h 2 10 ≤ r 2 10) ∧ (r 34 1 + r 34 3 + 12 * r 49 10 + 20 * h 2 10 ≤ h 34 1 + h 34 3 + 12 * h 49 10 + 20 * r 2 10 + 3) ∧ (r 2 10 ≤ h 2 10 + 0))) := by
  unfold qj_X10_readNew_170
  have T1 := gF_2_3 V_h
  have T2 := gF_2_10 V_h
  have T3 := gF_2_11 V_h
  have T4 := gF_34_1 V_h
  have T5 := gF_34_3 V_h
  have T6 := gF_49_10 V_h
  refine ok_if ?_ ?_
  · intro C6
    refine ok_cI (vf_X6_classOf hn (by omega) (by omega) V_h) ?_; intro u14 E_u14 V_u14 a_u14 b_u14
    have T8 : u14.2 2 3 = h 2 3 := (ff_X6_classOf nn) _ E_u14 2 3 rfl
    have T9 : u14.2 2 10 = h 2 10 := (ff_X6_classOf nn) _ E_u14 2 10 rfl
    have T10 : u14.2 2 11 = h 2 11 := (ff_X6_classOf nn) _ E_u14 2 11 rfl
    have T11 : u14.2 34 1 = h 34 1 := (ff_X6_classOf nn) _ E_u14 34 1 rfl
    have T12 : u14.2 34 3 = h 34 3 := (ff_X6_classOf nn) _ E_u14 34 3 rfl
    have T13 : u14.2 49 10 = h 49 10 := (ff_X6_classOf nn) _ E_u14 49 10 rfl
    exact ok_mV (vj_X10_readNew_188 hn hg (by omega) (by omega) (by omega) (by omega) (by omega) (by omega) (by omega) (by omega) V_u14 (by omega) (by omega)) (fun _ V_r R_r => by have := gF_2_3 V_r; have := gF_2_10 V_r; have := gF_2_11 V_r; have := gF_34_1 V_r; have := gF_34_3 V_r; have := gF_49_10 V_r; omega)
  · intro C6
    exact ok_mV (vj_X10_readNew_188 hn hg (by omega) (by omega) (by omega) (by omega) (by omega) (by omega) (by omega) (by omega) V_h (by omega) (by omega)) (fun _ V_r R_r => by have := gF_2_3 V_r; have := gF_2_10 V_r; have := gF_2_11 V_r; have := gF_34_1 V_r; have := gF_34_3 V_r; have := gF_49_10 V_r; omega)
set_option maxRecDepth 4000 in
theorem vj_X10_readNew_147 {nn : Nat} (hn : 1000000 ≤ nn) {g : Int} {rc : tq_X10_readValue} (hg : GH_X10_readValue g rc) {l2 : Int} {l3 : Int} {l4 : Int} {s0 : Int} {h : ms_M} (a_l2 : 1 ≤ l2) (b_l2 : l2 ≤ 50000001) (a_l3 : 0 ≤ l3) (b_l3 : l3 ≤ 1) (a_l4 : 0 ≤ l4) (b_l4 : l4 ≤ 341) (a_s0 : 0 ≤ s0) (b_s0 : s0 ≤ 1) (V_h : VS_ h) (x_0 : h 34 1 + h 34 3 ≤ 1400000020) (x_1 : h 2 10 ≤ 45000005)  : Ok_ (qj_X10_readNew_147 nn rc l2 l3 l4 s0 h) (QVR_ (fun r => (r 2 3 = h 2 3) ∧ (h 2 11 = 0 ∨ ¬ r 2 11 = 0) ∧ (h 2 10 ≤ r 2 10) ∧ (r 34 1 + r 34 3 + 12 * r 49 10 + 20 * h 2 10 ≤ h 34 1 + h 34 3 + 12 * h 49 10 + 20 * r 2 10 + 3) ∧ (r 2 10 ≤ h 2 10 + 0))) := by
  unfold qj_X10_readNew_147
  have T1 := gF_2_3 V_h
  have T2 := gF_2_10 V_h
  have T3 := gF_2_11 V_h
  have T4 := gF_34_1 V_h
  have T5 := gF_34_3 V_h
  have T6 := gF_49_10 V_h
  refine ok_add (by omega) ?_; intro v16 e_v16
  refine ok_cVR (vf_X10_wantType hn (by omega) (by omega) (by omega) (by omega) V_h) ?_; intro u18 E_u18 V_u18 R_u18
  have T7 : u18 2 3 = h 2 3 := (ff_X10_wantType nn) _ E_u18 2 3 rfl
  have T8 : u18 2 10 = h 2 10 := (ff_X10_wantType nn) _ E_u18 2 10 rfl
  have T9 : u18 34 1 = h 34 1 := (ff_X10_wantType nn) _ E_u18 34 1 rfl
  have T10 : u18 34 3 = h 34 3 := (ff_X10_wantType nn) _ E_u18 34 3 rfl
  have T11 : u18 49 10 = h 49 10 := (ff_X10_wantType nn) _ E_u18 49 10 rfl
  have T12 := gF_2_11 V_u18
  refine ok_if ?_ ?_
  · intro C12
    exact ok_mV (vj_X10_readNew_170 hn hg (by omega) (by omega) (by omega) (by omega) (by omega) (by omega) V_u18 (by omega) (by omega)) (fun _ V_r R_r => by have := gF_2_3 V_r; have := gF_2_10 V_r; have := gF_2_11 V_r; have := gF_34_1 V_r; have := gF_34_3 V_r; have := gF_49_10 V_r; omega)
  · intro C12
    exact ok_mV (vj_X10_readNew_170 hn hg (by omega) (by omega) (by omega) (by omega) (by omega) (by omega) V_u18 (by omega) (by omega)) (fun _ V_r R_r => by have := gF_2_3 V_r; have := gF_2_10 V_r; have := gF_2_11 V_r; have := gF_34_1 V_r; have := gF_34_3 V_r; have := gF_49_10 V_r; omega)
set_option maxRecDepth 4000 in
theorem vj_X10_readNew_43 {nn : Nat} (hn : 1000000 ≤ nn) {g : Int} {rc : tq_X10_readValue} (hg : GH_X10_readValue g rc) {l1 : Int} {l2 : Int} {l3 : Int} {s0 : Int} {h : ms_M} (a_l1 : 1 ≤ l1) (b_l1 : l1 ≤ 43) (a_l2 : 1 ≤ l2) (b_l2 : l2 ≤ 50000001) (a_l3 : 0 ≤ l3) (b_l3 : l3 ≤ 1) (a_s0 : (-1) ≤ s0) (b_s0 : s0 ≤ 341) (V_h : VS_ h) (x_0 : (9 * (44 - l1) + 3) ≤ (g + 1)) (x_1 : h 2 10 + 20000 * (9 * (44 - l1) + 3) ≤ 40015010) (x_2 : h 34 1 + h 34 3 + 12 * h 49 10 + 100 * (9 * (44 - l1) + 3) ≤ 20 * h 2 10 + 100060) (x_3 : h 2 10 ≤ l2 ∧ l2 ≤ h 2 10 + 1) (x_4 : ¬ s0 = -1 ∨ h 2 10 = l2)  : Ok_ (qj_X10_readNew_43 nn rc l1 l2 l3 s0 h) (QVR_ (fun r => (r 2 3 = h 2 3) ∧ (h 2 11 = 0 ∨ ¬ r 2 11 = 0) ∧ (h 2 10 ≤ r 2 10) ∧ (r 34 1 + r 34 3 + 12 * r 49 10 + 20 * (l2 - 1) ≤ h 34 1 + h 34 3 + 12 * h 49 10 + 20 * r 2 10 + (-17)) ∧ (((h 2 11 = 0 ∧ h 2 10 < h 2 3) ∧ r 2 10 ≤ 3001 + 20000 * (9 * (44 - l1) + 3)) ∨ (¬ (h 2 11 = 0 ∧ h 2 10 < h 2 3) ∧ r 2 10 ≤ h 2 10 + 6)))) := by
  unfold qj_X10_readNew_43
  have T1 := gF_2_3 V_h
  have T2 := gF_2_10 V_h
  have T3 := gF_2_11 V_h
  have T4 := gF_34_1 V_h
  have T5 := gF_34_3 V_h
  have T6 := gF_49_10 V_h
  refine ok_if ?_ ?_
  · intro C6
    refine ok_add (by omega) ?_; intro v22 e_v22
    refine ok_cP (vf_X9_kindAt hn (by omega) (by omega) V_h) ?_; intro u24 e_u24 a_u24 b_u24
    have T8 := lm_X9_kindAt e_u24
    refine ok_if ?_ ?_
    · intro C8
      refine ok_add (by omega) ?_; intro v26 e_v26
      refine ok_xl ?_; intro h27 E_h27; have V_h27 : VS_ h27 := by rw [E_h27]; exact wF_2_10 V_h (by omega)
      have T10 : h27 2 3 = h 2 3 := by rw [E_h27]; exact up_n (by decide)
      have T11 : h27 2 11 = h 2 11 := by rw [E_h27]; exact up_n (by decide)
      have T12 : h27 34 1 = h 34 1 := by rw [E_h27]; exact up_n (by decide)
      have T13 : h27 34 3 = h 34 3 := by rw [E_h27]; exact up_n (by decide)
      have T14 : h27 49 10 = h 49 10 := by rw [E_h27]; exact up_n (by decide)
      have T15 : h27 2 10 = v26 := by rw [E_h27]; exact up_s
      refine ok_cVR (hg.1 (by omega) (by omega) V_h27 (by omega) (by omega) (by omega)) ?_; intro u29 E_u29 V_u29 R_u29
      have T16 := gF_2_3 V_u29
      have T17 := gF_2_10 V_u29
      have T18 := gF_2_11 V_u29
      have T19 := gF_34_1 V_u29
      have T20 := gF_34_3 V_u29
      have T21 := gF_49_10 V_u29
      refine ok_add (by omega) ?_; intro v32 e_v32
      refine ok_xl ?_; intro h33 E_h33; have V_h33 : VS_ h33 := by rw [E_h33]; exact wF_2_10 V_u29 (by omega)
      have T22 : h33 2 3 = u29 2 3 := by rw [E_h33]; exact up_n (by decide)
      have T23 : h33 2 11 = u29 2 11 := by rw [E_h33]; exact up_n (by decide)
      have T24 : h33 34 1 = u29 34 1 := by rw [E_h33]; exact up_n (by decide)
      have T25 : h33 34 3 = u29 34 3 := by rw [E_h33]; exact up_n (by decide)
      have T26 : h33 49 10 = u29 49 10 := by rw [E_h33]; exact up_n (by decide)
      have T27 : h33 2 10 = v32 := by rw [E_h33]; exact up_s
      have T28 := gF_49_12 V_h33
      refine ok_if ?_ ?_
      · intro C28
        exact ok_mV (vj_X10_readNew_147 hn hg (by omega) (by omega) (by omega) (by omega) (by omega) (by omega) (by omega) (by omega) V_h33 (by omega) (by omega)) (fun _ V_r R_r => by have := gF_2_3 V_r; have := gF_2_10 V_r; have := gF_2_11 V_r; have := gF_34_1 V_r; have := gF_34_3 V_r; have := gF_49_10 V_r; omega)
      · intro C28
        exact ok_mV (vj_X10_readNew_147 hn hg (by omega) (by omega) (by omega) (by omega) (by omega) (by omega) (by omega) (by omega) V_h33 (by omega) (by omega)) (fun _ V_r R_r => by have := gF_2_3 V_r; have := gF_2_10 V_r; have := gF_2_11 V_r; have := gF_34_1 V_r; have := gF_34_3 V_r; have := gF_49_10 V_r; omega)
    · intro C8
      refine ok_add (by omega) ?_; intro v37 e_v37
      refine ok_xl ?_; intro h38 E_h38; have V_h38 : VS_ h38 := by rw [E_h38]; exact wF_2_10 V_h (by omega)
      have T30 : h38 2 3 = h 2 3 := by rw [E_h38]; exact up_n (by decide)
      have T31 : h38 2 11 = h 2 11 := by rw [E_h38]; exact up_n (by decide)
      have T32 : h38 34 1 = h 34 1 := by rw [E_h38]; exact up_n (by decide)
      have T33 : h38 34 3 = h 34 3 := by rw [E_h38]; exact up_n (by decide)
      have T34 : h38 49 10 = h 49 10 := by rw [E_h38]; exact up_n (by decide)
      have T35 : h38 2 10 = v37 := by rw [E_h38]; exact up_s
      refine ok_cI (vf_X6_classOf hn (by omega) (by omega) V_h38) ?_; intro u42 E_u42 V_u42 a_u42 b_u42
      have T36 : u42.2 2 3 = h38 2 3 := (ff_X6_classOf nn) _ E_u42 2 3 rfl
      have T37 : u42.2 2 11 = h38 2 11 := (ff_X6_classOf nn) _ E_u42 2 11 rfl
      have T38 : u42.2 34 1 = h38 34 1 := (ff_X6_classOf nn) _ E_u42 34 1 rfl
      have T39 : u42.2 34 3 = h38 34 3 := (ff_X6_classOf nn) _ E_u42 34 3 rfl
      have T40 : u42.2 49 10 = h38 49 10 := (ff_X6_classOf nn) _ E_u42 49 10 rfl
      have T41 : u42.2 2 10 = h38 2 10 := (ff_X6_classOf nn) _ E_u42 2 10 rfl
      refine ok_cVR (vf_X1_op_ hn (by omega) (by omega) (by omega) (by omega) V_u42 (by omega)) ?_; intro u44 E_u44 V_u44 R_u44
      have T42 : u44 2 3 = u42.2 2 3 := (ff_X1_op_ nn) _ E_u44 2 3 rfl
      have T43 : u44 2 11 = u42.2 2 11 := (ff_X1_op_ nn) _ E_u44 2 11 rfl
      have T44 : u44 34 3 = u42.2 34 3 := (ff_X1_op_ nn) _ E_u44 34 3 rfl
      have T45 : u44 49 10 = u42.2 49 10 := (ff_X1_op_ nn) _ E_u44 49 10 rfl
      have T46 : u44 2 10 = u42.2 2 10 := (ff_X1_op_ nn) _ E_u44 2 10 rfl
      have T47 := gF_34_1 V_u44
      refine ok_cVR (vf_X10_give hn (by omega) (by omega) V_u44 (by omega)) ?_; intro u46 E_u46 V_u46 R_u46
      have T48 : u46 2 3 = u44 2 3 := (ff_X10_give nn) _ E_u46 2 3 rfl
      have T49 : u46 2 11 = u44 2 11 := (ff_X10_give nn) _ E_u46 2 11 rfl
      have T50 : u46 49 10 = u44 49 10 := (ff_X10_give nn) _ E_u46 49 10 rfl
      have T51 : u46 2 10 = u44 2 10 := (ff_X10_give nn) _ E_u46 2 10 rfl
      have T52 : u46 34 1 = u44 34 1 := (ff_X10_give nn) _ E_u46 34 1 rfl
      have T53 := gF_34_3 V_u46
      exact ok_rVR V_u46 (by omega)
  · intro C6
    exact ok_rVR V_h (by omega)
set_option maxRecDepth 4000 in
theorem vj_X10_readNew_28 {nn : Nat} (hn : 1000000 ≤ nn) {g : Int} {rc : tq_X10_readValue} (hg : GH_X10_readValue g rc) {l1 : Int} {l2 : Int} {s0 : Int} {h : ms_M} (a_l1 : 1 ≤ l1) (b_l1 : l1 ≤ 43) (a_l2 : 1 ≤ l2) (b_l2 : l2 ≤ 50000001) (a_s0 : 0 ≤ s0) (b_s0 : s0 ≤ 1) (V_h : VS_ h) (x_0 : (9 * (44 - l1) + 3) ≤ (g + 1)) (x_1 : h 2 10 + 20000 * (9 * (44 - l1) + 3) ≤ 40015000) (x_2 : h 34 1 + h 34 3 + 12 * h 49 10 + 100 * (9 * (44 - l1) + 3) ≤ 20 * h 2 10 + 100060) (x_3 : l2 = h 2 10 + 1)  : Ok_ (qj_X10_readNew_28 nn rc l1 l2 s0 h) (QVR_ (fun r => (r 2 3 = h 2 3) ∧ (h 2 11 = 0 ∨ ¬ r 2 11 = 0) ∧ (h 2 10 ≤ r 2 10) ∧ (r 34 1 + r 34 3 + 12 * r 49 10 + 20 * (l2 - 1) ≤ h 34 1 + h 34 3 + 12 * h 49 10 + 20 * r 2 10 + (-17)) ∧ (((h 2 11 = 0 ∧ h 2 10 < h 2 3) ∧ r 2 10 ≤ 3001 + 20000 * (9 * (44 - l1) + 3)) ∨ (¬ (h 2 11 = 0 ∧ h 2 10 < h 2 3) ∧ r 2 10 ≤ h 2 10 + 8)))) := by
  unfold qj_X10_readNew_28
  have T1 := gF_2_3 V_h
  have T2 := gF_2_10 V_h
  have T3 := gF_2_11 V_h
  have T4 := gF_34_1 V_h
  have T5 := gF_34_3 V_h
  have T6 := gF_49_10 V_h
  refine ok_if ?_ ?_
  · intro C6
    refine ok_cIR (vf_X10_readNamedClass hn (by omega) (by omega) (by omega) (by omega) V_h (by omega)) ?_; intro u50 E_u50 V_u50 a_u50 b_u50 R_u50
    have T8 : u50.2 2 3 = h 2 3 := (ff_X10_readNamedClass nn) _ E_u50 2 3 rfl
    have T9 : u50.2 34 1 = h 34 1 := (ff_X10_readNamedClass nn) _ E_u50 34 1 rfl
    have T10 : u50.2 34 3 = h 34 3 := (ff_X10_readNamedClass nn) _ E_u50 34 3 rfl
    have T11 : u50.2 49 10 = h 49 10 := (ff_X10_readNamedClass nn) _ E_u50 49 10 rfl
    have T12 := gF_2_10 V_u50
    have T13 := gF_2_11 V_u50
    exact ok_mV (vj_X10_readNew_43 hn hg (by omega) (by omega) (by omega) (by omega) (by omega) (by omega) (by omega) (by omega) V_u50 (by omega) (by omega) (by omega) (by omega) (by omega)) (fun _ V_r R_r => by have := gF_2_3 V_r; have := gF_2_10 V_r; have := gF_2_11 V_r; have := gF_34_1 V_r; have := gF_34_3 V_r; have := gF_49_10 V_r; omega)
  · intro C6
    exact ok_mV (vj_X10_readNew_43 hn hg (by omega) (by omega) (by omega) (by omega) (by omega) (by omega) (by omega) (by omega) V_h (by omega) (by omega) (by omega) (by omega) (by omega)) (fun _ V_r R_r => by have := gF_2_3 V_r; have := gF_2_10 V_r; have := gF_2_11 V_r; have := gF_34_1 V_r; have := gF_34_3 V_r; have := gF_49_10 V_r; omega)
set_option maxRecDepth 4000 in
theorem vo_X10_readNew {nn : Nat} (hn : 1000000 ≤ nn) {g : Int} {rc : tq_X10_readValue} (hg : GH_X10_readValue g rc) {a1 : Int} {h : ms_M} (a_a1 : 1 ≤ a1) (b_a1 : a1 ≤ 43) (V_h : VS_ h) (x_0 : (9 * (44 - a1) + 3) ≤ (g + 1)) (x_1 : h 2 10 + 20000 * (9 * (44 - a1) + 3) ≤ 40000000) (x_2 : h 34 1 + h 34 3 + 12 * h 49 10 + 100 * (9 * (44 - a1) + 3) ≤ 20 * h 2 10 + 100000) (x_3 : (h 2 11 = 0 ∧ h 2 10 < h 2 3))  : Ok_ (qo_X10_readNew nn rc a1 h) (QVR_ (fun r => (r 2 3 = h 2 3) ∧ (h 2 11 = 0 ∨ ¬ r 2 11 = 0) ∧ (h 2 10 ≤ r 2 10) ∧ (r 34 1 + r 34 3 + 12 * r 49 10 + 20 * h 2 10 ≤ h 34 1 + h 34 3 + 12 * h 49 10 + 20 * r 2 10 + (-17)) ∧ (r 2 10 ≤ 3001 + 20000 * (9 * (44 - a1) + 3)))) := by
  unfold qo_X10_readNew
  have T1 := gF_2_3 V_h
  have T2 := gF_2_10 V_h
  have T3 := gF_2_11 V_h
  have T4 := gF_34_1 V_h
  have T5 := gF_34_3 V_h
  have T6 := gF_49_10 V_h
  refine ok_add (by omega) ?_; intro v54 e_v54
  refine ok_cP (vf_X9_kindAt hn (by omega) (by omega) V_h) ?_; intro u57 e_u57 a_u57 b_u57
  have T7 := lm_X9_kindAt e_u57
  refine ok_if ?_ ?_
  · intro C7
    exact ok_mV (vj_X10_readNew_28 hn hg (by omega) (by omega) (by omega) (by omega) (by omega) (by omega) V_h (by omega) (by omega) (by omega) (by omega)) (fun _ V_r R_r => by have := gF_2_3 V_r; have := gF_2_10 V_r; have := gF_2_11 V_r; have := gF_34_1 V_r; have := gF_34_3 V_r; have := gF_49_10 V_r; omega)
  · intro C7
    exact ok_mV (vj_X10_readNew_28 hn hg (by omega) (by omega) (by omega) (by omega) (by omega) (by omega) V_h (by omega) (by omega) (by omega) (by omega)) (fun _ V_r R_r => by have := gF_2_3 V_r; have := gF_2_10 V_r; have := gF_2_11 V_r; have := gF_34_1 V_r; have := gF_34_3 V_r; have := gF_49_10 V_r; omega)
set_option maxRecDepth 4000 in
theorem vj_X10_readElement_67 {nn : Nat} (hn : 1000000 ≤ nn) {g : Int} {rc : tq_X10_readValue} (hg : GH_X10_readValue g rc) {l2 : Int} {l3 : Int} {s0 : Int} {h : ms_M} (a_l2 : 0 ≤ l2) (b_l2 : l2 ≤ 50000000) (a_l3 : (-1) ≤ l3) (b_l3 : l3 ≤ 441) (a_s0 : 0 ≤ s0) (b_s0 : s0 ≤ 1) (V_h : VS_ h) (x_0 : h 34 1 + h 34 3 ≤ 1400000020) (x_1 : h 2 10 ≤ 45000005)  : Ok_ (qj_X10_readElement_67 nn rc l2 l3 s0 h) (QVR_ (fun r => (r 2 3 = h 2 3) ∧ (h 2 11 = 0 ∨ ¬ r 2 11 = 0) ∧ (h 2 10 ≤ r 2 10) ∧ (r 34 1 + r 34 3 + 12 * r 49 10 + 20 * h 2 10 ≤ h 34 1 + h 34 3 + 12 * h 49 10 + 20 * r 2 10 + 0) ∧ (r 2 10 ≤ h 2 10 + 0))) := by
  unfold qj_X10_readElement_67
  have T1 := gF_2_3 V_h
  have T2 := gF_2_10 V_h
  have T3 := gF_2_11 V_h
  have T4 := gF_34_1 V_h
  have T5 := gF_34_3 V_h
  have T6 := gF_49_10 V_h
  refine ok_cVR (vf_X10_wantType hn (by omega) (by omega) (by omega) (by omega) V_h) ?_; intro u2 E_u2 V_u2 R_u2
  have T7 : u2 2 3 = h 2 3 := (ff_X10_wantType nn) _ E_u2 2 3 rfl
  have T8 : u2 2 10 = h 2 10 := (ff_X10_wantType nn) _ E_u2 2 10 rfl
  have T9 : u2 34 1 = h 34 1 := (ff_X10_wantType nn) _ E_u2 34 1 rfl
  have T10 : u2 34 3 = h 34 3 := (ff_X10_wantType nn) _ E_u2 34 3 rfl
  have T11 : u2 49 10 = h 49 10 := (ff_X10_wantType nn) _ E_u2 49 10 rfl
  have T12 := gF_2_11 V_u2
  refine ok_cP (vf_X4_elementOf hn (by omega) (by omega) V_u2) ?_; intro u3 e_u3 a_u3 b_u3
  refine ok_xl ?_; intro h4 E_h4; have V_h4 : VS_ h4 := by rw [E_h4]; exact wF_49_12 V_u2 (by omega)
  have T13 : h4 2 3 = u2 2 3 := by rw [E_h4]; exact up_n (by decide)
  have T14 : h4 2 10 = u2 2 10 := by rw [E_h4]; exact up_n (by decide)
  have T15 : h4 34 1 = u2 34 1 := by rw [E_h4]; exact up_n (by decide)
  have T16 : h4 34 3 = u2 34 3 := by rw [E_h4]; exact up_n (by decide)
  have T17 : h4 49 10 = u2 49 10 := by rw [E_h4]; exact up_n (by decide)
  have T18 : h4 2 11 = u2 2 11 := by rw [E_h4]; exact up_n (by decide)
  refine ok_xl ?_; intro h5 E_h5; have V_h5 : VS_ h5 := by rw [E_h5]; exact wF_49_11 V_h4 (by omega)
  have T19 : h5 2 3 = h4 2 3 := by rw [E_h5]; exact up_n (by decide)
  have T20 : h5 2 10 = h4 2 10 := by rw [E_h5]; exact up_n (by decide)
  have T21 : h5 34 1 = h4 34 1 := by rw [E_h5]; exact up_n (by decide)
  have T22 : h5 34 3 = h4 34 3 := by rw [E_h5]; exact up_n (by decide)
  have T23 : h5 49 10 = h4 49 10 := by rw [E_h5]; exact up_n (by decide)
  have T24 : h5 2 11 = h4 2 11 := by rw [E_h5]; exact up_n (by decide)
  exact ok_rVR V_h5 (by omega)
set_option maxRecDepth 4000 in
theorem vj_X10_readElement_66 {nn : Nat} (hn : 1000000 ≤ nn) {g : Int} {rc : tq_X10_readValue} (hg : GH_X10_readValue g rc) {l2 : Int} {l3 : Int} {h : ms_M} (a_l2 : 0 ≤ l2) (b_l2 : l2 ≤ 50000000) (a_l3 : (-1) ≤ l3) (b_l3 : l3 ≤ 441) (V_h : VS_ h) (x_0 : h 34 1 + h 34 3 ≤ 1400000020) (x_1 : h 2 10 ≤ 45000005)  : Ok_ (qj_X10_readElement_66 nn rc l2 l3 h) (QVR_ (fun r => (r 2 3 = h 2 3) ∧ (h 2 11 = 0 ∨ ¬ r 2 11 = 0) ∧ (h 2 10 ≤ r 2 10) ∧ (r 34 1 + r 34 3 + 12 * r 49 10 + 20 * h 2 10 ≤ h 34 1 + h 34 3 + 12 * h 49 10 + 20 * r 2 10 + 0) ∧ (r 2 10 ≤ h 2 10 + 0))) := by
  unfold qj_X10_readElement_66
  have T1 := gF_2_3 V_h
  have T2 := gF_2_10 V_h
  have T3 := gF_2_11 V_h
  have T4 := gF_34_1 V_h
  have T5 := gF_34_3 V_h
  have T6 := gF_49_10 V_h
  exact ok_mV (vj_X10_readElement_67 hn hg (by omega) (by omega) (by omega) (by omega) (by omega) (by omega) V_h (by omega) (by omega)) (fun _ V_r R_r => by have := gF_2_3 V_r; have := gF_2_10 V_r; have := gF_2_11 V_r; have := gF_34_1 V_r; have := gF_34_3 V_r; have := gF_49_10 V_r; omega)
set_option maxRecDepth 4000 in
theorem vo_X10_readElement {nn : Nat} (hn : 1000000 ≤ nn) {g : Int} {rc : tq_X10_readValue} (hg : GH_X10_readValue g rc) {a1 : Int} {h : ms_M} (a_a1 : 1 ≤ a1) (b_a1 : a1 ≤ 43) (V_h : VS_ h) (x_0 : (9 * (44 - a1) + 3) ≤ (g + 1)) (x_1 : h 2 10 + 20000 * (9 * (44 - a1) + 3) ≤ 40000000) (x_2 : h 34 1 + h 34 3 + 12 * h 49 10 + 100 * (9 * (44 - a1) + 3) ≤ 20 * h 2 10 + 100000) (x_3 : (h 2 11 = 0 ∧ h 2 10 < h 2 3))  : Ok_ (qo_X10_readElement nn rc a1 h) (QVR_ (fun r => (r 2 3 = h 2 3) ∧ (h 2 11 = 0 ∨ ¬ r 2 11 = 0) ∧ (h 2 10 ≤ r 2 10) ∧ (r 34 1 + r 34 3 + 12 * r 49 10 + 20 * h 2 10 ≤ h 34 1 + h 34 3 + 12 * h 49 10 + 20 * r 2 10 + (-40)) ∧ (r 2 10 ≤ 3001 + 20000 * (9 * (44 - a1) + 3)))) := by
  unfold qo_X10_readElement
  have T1 := gF_2_3 V_h
  have T2 := gF_2_10 V_h
  have T3 := gF_2_11 V_h
  have T4 := gF_34_1 V_h
  have T5 := gF_34_3 V_h
  have T6 := gF_49_10 V_h
  have T7 := gF_49_12 V_h
  refine ok_add (by omega) ?_; intro v11 e_v11
  refine ok_xl ?_; intro h12 E_h12; have V_h12 : VS_ h12 := by rw [E_h12]; exact wF_2_10 V_h (by omega)
  have T8 : h12 2 3 = h 2 3 := by rw [E_h12]; exact up_n (by decide)
  have T9 : h12 2 11 = h 2 11 := by rw [E_h12]; exact up_n (by decide)
  have T10 : h12 34 1 = h 34 1 := by rw [E_h12]; exact up_n (by decide)
  have T11 : h12 34 3 = h 34 3 := by rw [E_h12]; exact up_n (by decide)
  have T12 : h12 49 10 = h 49 10 := by rw [E_h12]; exact up_n (by decide)
  have T13 : h12 49 12 = h 49 12 := by rw [E_h12]; exact up_n (by decide)
  have T14 : h12 2 10 = v11 := by rw [E_h12]; exact up_s
  refine ok_cVR (hg.1 (by omega) (by omega) V_h12 (by omega) (by omega) (by omega)) ?_; intro u14 E_u14 V_u14 R_u14
  have T15 := gF_2_3 V_u14
  have T16 := gF_2_10 V_u14
  have T17 := gF_2_11 V_u14
  have T18 := gF_34_1 V_u14
  have T19 := gF_34_3 V_u14
  have T20 := gF_49_10 V_u14
  refine ok_add (by omega) ?_; intro v17 e_v17
  refine ok_xl ?_; intro h18 E_h18; have V_h18 : VS_ h18 := by rw [E_h18]; exact wF_2_10 V_u14 (by omega)
  have T21 : h18 2 3 = u14 2 3 := by rw [E_h18]; exact up_n (by decide)
  have T22 : h18 2 11 = u14 2 11 := by rw [E_h18]; exact up_n (by decide)
  have T23 : h18 34 1 = u14 34 1 := by rw [E_h18]; exact up_n (by decide)
  have T24 : h18 34 3 = u14 34 3 := by rw [E_h18]; exact up_n (by decide)
  have T25 : h18 49 10 = u14 49 10 := by rw [E_h18]; exact up_n (by decide)
  have T26 : h18 2 10 = v17 := by rw [E_h18]; exact up_s
  refine ok_cP (vf_X4_isArray hn (by omega) (by omega) V_h18) ?_; intro u19 e_u19 a_u19 b_u19
  have T27 := pr_X4_isArray e_u19
  refine ok_if ?_ ?_
  · intro C27
    exact ok_mV (vj_X10_readElement_66 hn hg (by omega) (by omega) (by omega) (by omega) V_h18 (by omega) (by omega)) (fun _ V_r R_r => by have := gF_2_3 V_r; have := gF_2_10 V_r; have := gF_2_11 V_r; have := gF_34_1 V_r; have := gF_34_3 V_r; have := gF_49_10 V_r; omega)
  · intro C27
    have T29 := gF_49_12 V_h18
    refine ok_if ?_ ?_
    · intro C29
      exact ok_mV (vj_X10_readElement_66 hn hg (by omega) (by omega) (by omega) (by omega) V_h18 (by omega) (by omega)) (fun _ V_r R_r => by have := gF_2_3 V_r; have := gF_2_10 V_r; have := gF_2_11 V_r; have := gF_34_1 V_r; have := gF_34_3 V_r; have := gF_49_10 V_r; omega)
    · intro C29
      exact ok_mV (vj_X10_readElement_67 hn hg (by omega) (by omega) (by omega) (by omega) (by omega) (by omega) V_h18 (by omega) (by omega)) (fun _ V_r R_r => by have := gF_2_3 V_r; have := gF_2_10 V_r; have := gF_2_11 V_r; have := gF_34_1 V_r; have := gF_34_3 V_r; have := gF_49_10 V_r; omega)
set_option maxRecDepth 4000 in
theorem vj_X10_readNamed_123 {nn : Nat} (hn : 1000000 ≤ nn) {g : Int} {rc : tq_X10_readValue} (hg : GH_X10_readValue g rc) {l1 : Int} {l2 : Int} {l4 : Int} {s0 : Int} {h : ms_M} (a_l1 : 1 ≤ l1) (b_l1 : l1 ≤ 43) (a_l2 : 0 ≤ l2) (b_l2 : l2 ≤ 50000000) (a_l4 : (-1) ≤ l4) (b_l4 : l4 ≤ 749) (a_s0 : (-1) ≤ s0) (b_s0 : s0 ≤ 95) (V_h : VS_ h) (x_0 : (9 * (44 - l1) + 4) ≤ (g + 1)) (x_1 : h 2 10 + 20000 * (9 * (44 - l1) + 4) ≤ 40015000) (x_2 : h 34 1 + h 34 3 + 12 * h 49 10 + 100 * (9 * (44 - l1) + 4) ≤ 20 * h 2 10 + 100060) (x_3 : h 2 10 = l2 + 1) (x_4 : h 2 11 = 0)  : Ok_ (qj_X10_readNamed_123 nn rc l1 l2 l4 s0 h) (QVR_ (fun r => (r 2 3 = h 2 3) ∧ (h 2 11 = 0 ∨ ¬ r 2 11 = 0) ∧ (h 2 10 ≤ r 2 10) ∧ (r 34 1 + r 34 3 + 12 * r 49 10 + 20 * h 2 10 ≤ h 34 1 + h 34 3 + 12 * h 49 10 + 20 * r 2 10 + 3) ∧ (((h 2 11 = 0 ∧ h 2 10 < h 2 3) ∧ r 2 10 ≤ 3001 + 20000 * (9 * (44 - l1) + 4)) ∨ (¬ (h 2 11 = 0 ∧ h 2 10 < h 2 3) ∧ r 2 10 ≤ h 2 10 + 6)))) := by
  unfold qj_X10_readNamed_123
  have T1 := gF_2_3 V_h
  have T2 := gF_2_10 V_h
  have T3 := gF_2_11 V_h
  have T4 := gF_34_1 V_h
  have T5 := gF_34_3 V_h
  have T6 := gF_49_10 V_h
  refine ok_if ?_ ?_
  · intro C6
    refine ok_if ?_ ?_
    · intro C7
      refine ok_add (by omega) ?_; intro v1 e_v1
      refine ok_cP (vf_X10_isCallBehindPoint hn (by omega) (by omega) V_h) ?_; intro u3 e_u3 a_u3 b_u3
      have T9 := lm_X10_isCallBehindPoint V_h (by omega) e_u3
      refine ok_if ?_ ?_
      · intro C9
        refine ok_cVR (vf_X9_tell hn (by omega) (by omega) (by omega) (by omega) V_h) ?_; intro u6 E_u6 V_u6 R_u6
        have T11 : u6 2 3 = h 2 3 := (ff_X9_tell nn) _ E_u6 2 3 rfl
        have T12 : u6 2 10 = h 2 10 := (ff_X9_tell nn) _ E_u6 2 10 rfl
        have T13 : u6 34 1 = h 34 1 := (ff_X9_tell nn) _ E_u6 34 1 rfl
        have T14 : u6 34 3 = h 34 3 := (ff_X9_tell nn) _ E_u6 34 3 rfl
        have T15 : u6 49 10 = h 49 10 := (ff_X9_tell nn) _ E_u6 49 10 rfl
        have T16 := gF_2_11 V_u6
        exact ok_rVR V_u6 (by omega)
      · intro C9
        refine ok_add (by omega) ?_; intro v7 e_v7
        refine ok_cIR (vf_X10_readNamedClass hn (by omega) (by omega) (by omega) (by omega) V_h (by omega)) ?_; intro u9 E_u9 V_u9 a_u9 b_u9 R_u9
        have T17 : u9.2 2 3 = h 2 3 := (ff_X10_readNamedClass nn) _ E_u9 2 3 rfl
        have T18 : u9.2 34 1 = h 34 1 := (ff_X10_readNamedClass nn) _ E_u9 34 1 rfl
        have T19 : u9.2 34 3 = h 34 3 := (ff_X10_readNamedClass nn) _ E_u9 34 3 rfl
        have T20 : u9.2 49 10 = h 49 10 := (ff_X10_readNamedClass nn) _ E_u9 49 10 rfl
        have T21 := gF_2_10 V_u9
        have T22 := gF_2_11 V_u9
        refine ok_add (by omega) ?_; intro v10 e_v10
        refine ok_cIR (vf_X10_methodNamed hn (by omega) (by omega) (by omega) (by omega) V_u9) ?_; intro u12 E_u12 V_u12 a_u12 b_u12 R_u12
        have T23 : u12.2 2 3 = u9.2 2 3 := (ff_X10_methodNamed nn) _ E_u12 2 3 rfl
        have T24 : u12.2 34 1 = u9.2 34 1 := (ff_X10_methodNamed nn) _ E_u12 34 1 rfl
        have T25 : u12.2 34 3 = u9.2 34 3 := (ff_X10_methodNamed nn) _ E_u12 34 3 rfl
        have T26 : u12.2 49 10 = u9.2 49 10 := (ff_X10_methodNamed nn) _ E_u12 49 10 rfl
        have T27 : u12.2 2 10 = u9.2 2 10 := (ff_X10_methodNamed nn) _ E_u12 2 10 rfl
        have T28 := gF_2_11 V_u12
        refine ok_add (by omega) ?_; intro v13 e_v13
        refine ok_cVR (hg.2.2.2.2.2.2.2.2 (by omega) (by omega) (by omega) (by omega) (by omega) (by omega) (by omega) (by omega) (by omega) (by omega) (by omega) (by omega) V_u12 (by omega) (by omega) (by omega) (by omega)) ?_; intro u15 E_u15 V_u15 R_u15
        have T29 := gF_2_3 V_u15
        have T30 := gF_2_10 V_u15
        have T31 := gF_2_11 V_u15
        have T32 := gF_34_1 V_u15
        have T33 := gF_34_3 V_u15
        have T34 := gF_49_10 V_u15
        exact ok_rVR V_u15 (by omega)
    · intro C7
      refine ok_cVR (vf_X10_giveThis hn (by omega) (by omega) V_h (by omega)) ?_; intro u18 E_u18 V_u18 R_u18
      have T35 : u18 2 3 = h 2 3 := (ff_X10_giveThis nn) _ E_u18 2 3 rfl
      have T36 : u18 2 10 = h 2 10 := (ff_X10_giveThis nn) _ E_u18 2 10 rfl
      have T37 : u18 49 10 = h 49 10 := (ff_X10_giveThis nn) _ E_u18 49 10 rfl
      have T38 := gF_2_11 V_u18
      have T39 := gF_34_1 V_u18
      have T40 := gF_34_3 V_u18
      have T41 := gF_49_16 V_u18
      refine ok_cV (vf_X10_nameField hn (by omega) (by omega) (by omega) (by omega) V_u18) ?_; intro u21 E_u21 V_u21
      have T42 : u21 2 3 = u18 2 3 := (ff_X10_nameField nn) _ E_u21 2 3 rfl
      have T43 : u21 2 10 = u18 2 10 := (ff_X10_nameField nn) _ E_u21 2 10 rfl
      have T44 : u21 49 10 = u18 49 10 := (ff_X10_nameField nn) _ E_u21 49 10 rfl
      have T45 : u21 2 11 = u18 2 11 := (ff_X10_nameField nn) _ E_u21 2 11 rfl
      have T46 : u21 34 1 = u18 34 1 := (ff_X10_nameField nn) _ E_u21 34 1 rfl
      have T47 : u21 34 3 = u18 34 3 := (ff_X10_nameField nn) _ E_u21 34 3 rfl
      exact ok_rVR V_u21 (by omega)
  · intro C6
    refine ok_xl ?_; intro h23 E_h23; have V_h23 : VS_ h23 := by rw [E_h23]; exact wF_49_11 V_h (by omega)
    have T48 : h23 2 3 = h 2 3 := by rw [E_h23]; exact up_n (by decide)
    have T49 : h23 2 10 = h 2 10 := by rw [E_h23]; exact up_n (by decide)
    have T50 : h23 2 11 = h 2 11 := by rw [E_h23]; exact up_n (by decide)
    have T51 : h23 34 1 = h 34 1 := by rw [E_h23]; exact up_n (by decide)
    have T52 : h23 34 3 = h 34 3 := by rw [E_h23]; exact up_n (by decide)
    have T53 : h23 49 10 = h 49 10 := by rw [E_h23]; exact up_n (by decide)
    refine ok_xl ?_; intro h24 E_h24; have V_h24 : VS_ h24 := by rw [E_h24]; exact wF_49_14 V_h23 (by omega)
    have T54 : h24 2 3 = h23 2 3 := by rw [E_h24]; exact up_n (by decide)
    have T55 : h24 2 10 = h23 2 10 := by rw [E_h24]; exact up_n (by decide)
    have T56 : h24 2 11 = h23 2 11 := by rw [E_h24]; exact up_n (by decide)
    have T57 : h24 34 1 = h23 34 1 := by rw [E_h24]; exact up_n (by decide)
    have T58 : h24 34 3 = h23 34 3 := by rw [E_h24]; exact up_n (by decide)
    have T59 : h24 49 10 = h23 49 10 := by rw [E_h24]; exact up_n (by decide)
    refine ok_cP (vf_X1_typeOfLocal hn (by omega) (by omega) V_h24) ?_; intro u27 e_u27 a_u27 b_u27
    refine ok_xl ?_; intro h28 E_h28; have V_h28 : VS_ h28 := by rw [E_h28]; exact wF_49_12 V_h24 (by omega)
    have T60 : h28 2 3 = h24 2 3 := by rw [E_h28]; exact up_n (by decide)
    have T61 : h28 2 10 = h24 2 10 := by rw [E_h28]; exact up_n (by decide)
    have T62 : h28 2 11 = h24 2 11 := by rw [E_h28]; exact up_n (by decide)
    have T63 : h28 34 1 = h24 34 1 := by rw [E_h28]; exact up_n (by decide)
    have T64 : h28 34 3 = h24 34 3 := by rw [E_h28]; exact up_n (by decide)
    have T65 : h28 49 10 = h24 49 10 := by rw [E_h28]; exact up_n (by decide)
    exact ok_rVR V_h28 (by omega)
set_option maxRecDepth 4000 in
theorem vj_X10_readNamed_76 {nn : Nat} (hn : 1000000 ≤ nn) {g : Int} {rc : tq_X10_readValue} (hg : GH_X10_readValue g rc) {l1 : Int} {l2 : Int} {l4 : Int} {h : ms_M} (a_l1 : 1 ≤ l1) (b_l1 : l1 ≤ 43) (a_l2 : 0 ≤ l2) (b_l2 : l2 ≤ 50000000) (a_l4 : (-1) ≤ l4) (b_l4 : l4 ≤ 95) (V_h : VS_ h) (x_0 : (9 * (44 - l1) + 4) ≤ (g + 1)) (x_1 : h 2 10 + 20000 * (9 * (44 - l1) + 4) ≤ 40015000) (x_2 : h 34 1 + h 34 3 + 12 * h 49 10 + 100 * (9 * (44 - l1) + 4) ≤ 20 * h 2 10 + 100060) (x_3 : (h 2 11 = 0 ∧ h 2 10 < h 2 3) ∨ ¬ h 2 11 = 0)  : Ok_ (qj_X10_readNamed_76 nn rc l1 l2 l4 h) (QVR_ (fun r => (r 2 3 = h 2 3) ∧ (h 2 11 = 0 ∨ ¬ r 2 11 = 0) ∧ (h 2 10 ≤ r 2 10) ∧ (r 34 1 + r 34 3 + 12 * r 49 10 + 20 * h 2 10 ≤ h 34 1 + h 34 3 + 12 * h 49 10 + 20 * r 2 10 + (-37)) ∧ (((h 2 11 = 0 ∧ h 2 10 < h 2 3) ∧ r 2 10 ≤ 3001 + 20000 * (9 * (44 - l1) + 4)) ∨ (¬ (h 2 11 = 0 ∧ h 2 10 < h 2 3) ∧ r 2 10 ≤ h 2 10 + 3)))) := by
  unfold qj_X10_readNamed_76
  have T1 := gF_2_3 V_h
  have T2 := gF_2_10 V_h
  have T3 := gF_2_11 V_h
  have T4 := gF_34_1 V_h
  have T5 := gF_34_3 V_h
  have T6 := gF_49_10 V_h
  have T7 := gF_49_16 V_h
  refine ok_cVR (hg.2.2.2.2.2.2.2.2 (by omega) (by omega) (by omega) (by omega) (by omega) (by omega) (by omega) (by omega) (by omega) (by omega) (by omega) (by omega) V_h (by omega) (by omega) (by omega) (by omega)) ?_; intro u32 E_u32 V_u32 R_u32
  have T8 := gF_2_3 V_u32
  have T9 := gF_2_10 V_u32
  have T10 := gF_2_11 V_u32
  have T11 := gF_34_1 V_u32
  have T12 := gF_34_3 V_u32
  have T13 := gF_49_10 V_u32
  exact ok_rVR V_u32 (by omega)
set_option maxRecDepth 4000 in
theorem vo_X10_readNamed {nn : Nat} (hn : 1000000 ≤ nn) {g : Int} {rc : tq_X10_readValue} (hg : GH_X10_readValue g rc) {a1 : Int} {h : ms_M} (a_a1 : 1 ≤ a1) (b_a1 : a1 ≤ 43) (V_h : VS_ h) (x_0 : (9 * (44 - a1) + 4) ≤ (g + 1)) (x_1 : h 2 10 + 20000 * (9 * (44 - a1) + 4) ≤ 40000000) (x_2 : h 34 1 + h 34 3 + 12 * h 49 10 + 100 * (9 * (44 - a1) + 4) ≤ 20 * h 2 10 + 100000) (x_3 : (h 2 11 = 0 ∧ h 2 10 < h 2 3))  : Ok_ (qo_X10_readNamed nn rc a1 h) (QVR_ (fun r => (r 2 3 = h 2 3) ∧ (h 2 11 = 0 ∨ ¬ r 2 11 = 0) ∧ (h 2 10 ≤ r 2 10) ∧ (r 34 1 + r 34 3 + 12 * r 49 10 + 20 * h 2 10 ≤ h 34 1 + h 34 3 + 12 * h 49 10 + 20 * r 2 10 + (-17)) ∧ (r 2 10 ≤ 3001 + 20000 * (9 * (44 - a1) + 4)))) := by
  unfold qo_X10_readNamed
  have T1 := gF_2_3 V_h
  have T2 := gF_2_10 V_h
  have T3 := gF_2_11 V_h
  have T4 := gF_34_1 V_h
  have T5 := gF_34_3 V_h
  have T6 := gF_49_10 V_h
  refine ok_cP (vf_X9_valueAt hn (by omega) (by omega) V_h) ?_; intro u37 e_u37 a_u37 b_u37
  refine ok_add (by omega) ?_; intro v40 e_v40
  refine ok_xl ?_; intro h41 E_h41; have V_h41 : VS_ h41 := by rw [E_h41]; exact wF_2_10 V_h (by omega)
  have T7 : h41 2 3 = h 2 3 := by rw [E_h41]; exact up_n (by decide)
  have T8 : h41 2 11 = h 2 11 := by rw [E_h41]; exact up_n (by decide)
  have T9 : h41 34 1 = h 34 1 := by rw [E_h41]; exact up_n (by decide)
  have T10 : h41 34 3 = h 34 3 := by rw [E_h41]; exact up_n (by decide)
  have T11 : h41 49 10 = h 49 10 := by rw [E_h41]; exact up_n (by decide)
  have T12 : h41 2 10 = v40 := by rw [E_h41]; exact up_s
  refine ok_cP (vf_X9_kind hn V_h41) ?_; intro u44 e_u44 a_u44 b_u44
  have T13 := lm_X9_kind e_u44
  refine ok_if ?_ ?_
  · intro C13
    refine ok_cP (vf_X1_localOf hn (by omega) (by omega) V_h41) ?_; intro u47 e_u47 a_u47 b_u47
    refine ok_if ?_ ?_
    · intro C14
      exact ok_mV (vj_X10_readNamed_123 hn hg (by omega) (by omega) (by omega) (by omega) (by omega) (by omega) (by omega) (by omega) V_h41 (by omega) (by omega) (by omega) (by omega) (by omega)) (fun _ V_r R_r => by have := gF_2_3 V_r; have := gF_2_10 V_r; have := gF_2_11 V_r; have := gF_34_1 V_r; have := gF_34_3 V_r; have := gF_49_10 V_r; omega)
    · intro C14
      have T16 := gF_49_16 V_h41
      refine ok_cP (vf_X2_fieldOf hn (by omega) (by omega) (by omega) (by omega) V_h41) ?_; intro u51 e_u51 a_u51 b_u51
      exact ok_mV (vj_X10_readNamed_123 hn hg (by omega) (by omega) (by omega) (by omega) (by omega) (by omega) (by omega) (by omega) V_h41 (by omega) (by omega) (by omega) (by omega) (by omega)) (fun _ V_r R_r => by have := gF_2_3 V_r; have := gF_2_10 V_r; have := gF_2_11 V_r; have := gF_34_1 V_r; have := gF_34_3 V_r; have := gF_49_10 V_r; omega)
  · intro C13
    have T17 := gF_49_16 V_h41
    refine ok_cIR (vf_X10_methodNamed hn (by omega) (by omega) (by omega) (by omega) V_h41) ?_; intro u55 E_u55 V_u55 a_u55 b_u55 R_u55
    have T18 : u55.2 2 3 = h41 2 3 := (ff_X10_methodNamed nn) _ E_u55 2 3 rfl
    have T19 : u55.2 34 1 = h41 34 1 := (ff_X10_methodNamed nn) _ E_u55 34 1 rfl
    have T20 : u55.2 34 3 = h41 34 3 := (ff_X10_methodNamed nn) _ E_u55 34 3 rfl
    have T21 : u55.2 49 10 = h41 49 10 := (ff_X10_methodNamed nn) _ E_u55 49 10 rfl
    have T22 : u55.2 2 10 = h41 2 10 := (ff_X10_methodNamed nn) _ E_u55 2 10 rfl
    have T23 := gF_2_11 V_u55
    refine ok_if ?_ ?_
    · intro C23
      exact ok_mV (vj_X10_readNamed_76 hn hg (by omega) (by omega) (by omega) (by omega) (by omega) (by omega) V_u55 (by omega) (by omega) (by omega) (by omega)) (fun _ V_r R_r => by have := gF_2_3 V_r; have := gF_2_10 V_r; have := gF_2_11 V_r; have := gF_34_1 V_r; have := gF_34_3 V_r; have := gF_49_10 V_r; omega)
    · intro C23
      refine ok_cP (vf_X2_isFixed hn (by omega) (by omega) V_u55) ?_; intro u58 e_u58 a_u58 b_u58
      refine ok_if ?_ ?_
      · intro C24
        exact ok_mV (vj_X10_readNamed_76 hn hg (by omega) (by omega) (by omega) (by omega) (by omega) (by omega) V_u55 (by omega) (by omega) (by omega) (by omega)) (fun _ V_r R_r => by have := gF_2_3 V_r; have := gF_2_10 V_r; have := gF_2_11 V_r; have := gF_34_1 V_r; have := gF_34_3 V_r; have := gF_49_10 V_r; omega)
      · intro C24
        refine ok_cVR (vf_X10_giveThis hn (by omega) (by omega) V_u55 (by omega)) ?_; intro u60 E_u60 V_u60 R_u60
        have T26 : u60 2 3 = u55.2 2 3 := (ff_X10_giveThis nn) _ E_u60 2 3 rfl
        have T27 : u60 49 10 = u55.2 49 10 := (ff_X10_giveThis nn) _ E_u60 49 10 rfl
        have T28 : u60 2 10 = u55.2 2 10 := (ff_X10_giveThis nn) _ E_u60 2 10 rfl
        have T29 := gF_2_11 V_u60
        have T30 := gF_34_1 V_u60
        have T31 := gF_34_3 V_u60
        exact ok_mV (vj_X10_readNamed_76 hn hg (by omega) (by omega) (by omega) (by omega) (by omega) (by omega) V_u60 (by omega) (by omega) (by omega) (by omega)) (fun _ V_r R_r => by have := gF_2_3 V_r; have := gF_2_10 V_r; have := gF_2_11 V_r; have := gF_34_1 V_r; have := gF_34_3 V_r; have := gF_49_10 V_r; omega)
set_option maxRecDepth 4000 in
theorem vj_X10_readBehindPoint_149 {nn : Nat} (hn : 1000000 ≤ nn) {g : Int} {rc : tq_X10_readValue} (hg : GH_X10_readValue g rc) {l1 : Int} {l2 : Int} {l3 : Int} {l5 : Int} {l6 : Int} {l7 : Int} {h : ms_M} (a_l1 : 0 ≤ l1) (b_l1 : l1 ≤ 50000000) (a_l2 : 1 ≤ l2) (b_l2 : l2 ≤ 43) (a_l3 : 1 ≤ l3) (b_l3 : l3 ≤ 50000001) (a_l5 : 0 ≤ l5) (b_l5 : l5 ≤ 1) (a_l6 : 0 ≤ l6) (b_l6 : l6 ≤ 1) (a_l7 : (-1) ≤ l7) (b_l7 : l7 ≤ 95) (V_h : VS_ h) (x_0 : (9 * (44 - l2) + 4) ≤ (g + 1)) (x_1 : h 2 10 + 20000 * (9 * (44 - l2) + 4) ≤ 40015000) (x_2 : h 34 1 + h 34 3 + 12 * h 49 10 + 100 * (9 * (44 - l2) + 4) ≤ 20 * h 2 10 + 100060) (x_3 : l3 = h 2 10 + 1) (x_4 : l5 = 0 ∨ l3 + 1 < h 2 3)  : Ok_ (qj_X10_readBehindPoint_149 nn rc l1 l2 l3 l5 l6 l7 h) (QVR_ (fun r => (r 2 3 = h 2 3) ∧ (h 2 11 = 0 ∨ ¬ r 2 11 = 0) ∧ (h 2 10 ≤ r 2 10) ∧ (r 34 1 + r 34 3 + 12 * r 49 10 + 20 * h 2 10 ≤ h 34 1 + h 34 3 + 12 * h 49 10 + 20 * r 2 10 + (-38)) ∧ (((h 2 11 = 0 ∧ h 2 10 < h 2 3) ∧ r 2 10 ≤ 3001 + 20000 * (9 * (44 - l2) + 4)) ∨ (¬ (h 2 11 = 0 ∧ h 2 10 < h 2 3) ∧ r 2 10 ≤ h 2 10 + 6)))) := by
  unfold qj_X10_readBehindPoint_149
  have T1 := gF_2_3 V_h
  have T2 := gF_2_10 V_h
  have T3 := gF_2_11 V_h
  have T4 := gF_34_1 V_h
  have T5 := gF_34_3 V_h
  have T6 := gF_49_10 V_h
  refine ok_add (by omega) ?_; intro v2 e_v2
  refine ok_xl ?_; intro h3 E_h3; have V_h3 : VS_ h3 := by rw [E_h3]; exact wF_2_10 V_h (by omega)
  have T7 : h3 2 3 = h 2 3 := by rw [E_h3]; exact up_n (by decide)
  have T8 : h3 2 11 = h 2 11 := by rw [E_h3]; exact up_n (by decide)
  have T9 : h3 34 1 = h 34 1 := by rw [E_h3]; exact up_n (by decide)
  have T10 : h3 34 3 = h 34 3 := by rw [E_h3]; exact up_n (by decide)
  have T11 : h3 49 10 = h 49 10 := by rw [E_h3]; exact up_n (by decide)
  have T12 : h3 2 10 = v2 := by rw [E_h3]; exact up_s
  refine ok_if ?_ ?_
  · intro C12
    refine ok_if ?_ ?_
    · intro C13
      have T15 := gF_49_12 V_h3
      refine ok_cV (vf_X10_nameField hn (by omega) (by omega) (by omega) (by omega) V_h3) ?_; intro u6 E_u6 V_u6
      have T16 : u6 2 3 = h3 2 3 := (ff_X10_nameField nn) _ E_u6 2 3 rfl
      have T17 : u6 2 11 = h3 2 11 := (ff_X10_nameField nn) _ E_u6 2 11 rfl
      have T18 : u6 34 1 = h3 34 1 := (ff_X10_nameField nn) _ E_u6 34 1 rfl
      have T19 : u6 34 3 = h3 34 3 := (ff_X10_nameField nn) _ E_u6 34 3 rfl
      have T20 : u6 49 10 = h3 49 10 := (ff_X10_nameField nn) _ E_u6 49 10 rfl
      have T21 : u6 2 10 = h3 2 10 := (ff_X10_nameField nn) _ E_u6 2 10 rfl
      exact ok_rVR V_u6 (by omega)
    · intro C13
      refine ok_cVR (vf_X1_op hn (by omega) (by omega) V_h3 (by omega)) ?_; intro u9 E_u9 V_u9 R_u9
      have T22 : u9 2 3 = h3 2 3 := (ff_X1_op nn) _ E_u9 2 3 rfl
      have T23 : u9 2 11 = h3 2 11 := (ff_X1_op nn) _ E_u9 2 11 rfl
      have T24 : u9 34 3 = h3 34 3 := (ff_X1_op nn) _ E_u9 34 3 rfl
      have T25 : u9 49 10 = h3 49 10 := (ff_X1_op nn) _ E_u9 49 10 rfl
      have T26 : u9 2 10 = h3 2 10 := (ff_X1_op nn) _ E_u9 2 10 rfl
      have T27 := gF_34_1 V_u9
      refine ok_cVR (vf_X1_pop hn (by omega) (by omega) V_u9 (by omega)) ?_; intro u12 E_u12 V_u12 R_u12
      have T28 : u12 2 3 = u9 2 3 := (ff_X1_pop nn) _ E_u12 2 3 rfl
      have T29 : u12 2 11 = u9 2 11 := (ff_X1_pop nn) _ E_u12 2 11 rfl
      have T30 : u12 49 10 = u9 49 10 := (ff_X1_pop nn) _ E_u12 49 10 rfl
      have T31 : u12 2 10 = u9 2 10 := (ff_X1_pop nn) _ E_u12 2 10 rfl
      have T32 : u12 34 1 = u9 34 1 := (ff_X1_pop nn) _ E_u12 34 1 rfl
      have T33 := gF_34_3 V_u12
      refine ok_cVR (vf_X10_give hn (by omega) (by omega) V_u12 (by omega)) ?_; intro u14 E_u14 V_u14 R_u14
      have T34 : u14 2 3 = u12 2 3 := (ff_X10_give nn) _ E_u14 2 3 rfl
      have T35 : u14 2 11 = u12 2 11 := (ff_X10_give nn) _ E_u14 2 11 rfl
      have T36 : u14 49 10 = u12 49 10 := (ff_X10_give nn) _ E_u14 49 10 rfl
      have T37 : u14 2 10 = u12 2 10 := (ff_X10_give nn) _ E_u14 2 10 rfl
      have T38 : u14 34 1 = u12 34 1 := (ff_X10_give nn) _ E_u14 34 1 rfl
      have T39 := gF_34_3 V_u14
      exact ok_rVR V_u14 (by omega)
  · intro C12
    have T40 := gF_49_12 V_h3
    refine ok_cVR (hg.2.2.2.2.2.2.2.2 (by omega) (by omega) (by omega) (by omega) (by omega) (by omega) (by omega) (by omega) (by omega) (by omega) (by omega) (by omega) V_h3 (by omega) (by omega) (by omega) (by omega)) ?_; intro u18 E_u18 V_u18 R_u18
    have T41 := gF_2_3 V_u18
    have T42 := gF_2_10 V_u18
    have T43 := gF_2_11 V_u18
    have T44 := gF_34_1 V_u18
    have T45 := gF_34_3 V_u18
    have T46 := gF_49_10 V_u18
    exact ok_rVR V_u18 (by omega)
set_option maxRecDepth 4000 in
theorem vj_X10_readBehindPoint_140 {nn : Nat} (hn : 1000000 ≤ nn) {g : Int} {rc : tq_X10_readValue} (hg : GH_X10_readValue g rc) {l1 : Int} {l2 : Int} {l3 : Int} {l5 : Int} {l6 : Int} {l7 : Int} {h : ms_M} (a_l1 : 0 ≤ l1) (b_l1 : l1 ≤ 50000000) (a_l2 : 1 ≤ l2) (b_l2 : l2 ≤ 43) (a_l3 : 1 ≤ l3) (b_l3 : l3 ≤ 50000001) (a_l5 : 0 ≤ l5) (b_l5 : l5 ≤ 1) (a_l6 : 0 ≤ l6) (b_l6 : l6 ≤ 1) (a_l7 : (-1) ≤ l7) (b_l7 : l7 ≤ 95) (V_h : VS_ h) (x_0 : (9 * (44 - l2) + 4) ≤ (g + 1)) (x_1 : h 2 10 + 20000 * (9 * (44 - l2) + 4) ≤ 40015000) (x_2 : h 34 1 + h 34 3 + 12 * h 49 10 + 100 * (9 * (44 - l2) + 4) ≤ 20 * h 2 10 + 100060) (x_3 : l3 = h 2 10 + 1) (x_4 : l5 = 0 ∨ l3 + 1 < h 2 3)  : Ok_ (qj_X10_readBehindPoint_140 nn rc l1 l2 l3 l5 l6 l7 h) (QVR_ (fun r => (r 2 3 = h 2 3) ∧ (h 2 11 = 0 ∨ ¬ r 2 11 = 0) ∧ (h 2 10 ≤ r 2 10) ∧ (r 34 1 + r 34 3 + 12 * r 49 10 + 20 * h 2 10 ≤ h 34 1 + h 34 3 + 12 * h 49 10 + 20 * r 2 10 + (-38)) ∧ (((h 2 11 = 0 ∧ h 2 10 < h 2 3) ∧ r 2 10 ≤ 3001 + 20000 * (9 * (44 - l2) + 4)) ∨ (¬ (h 2 11 = 0 ∧ h 2 10 < h 2 3) ∧ r 2 10 ≤ h 2 10 + 6)))) := by
  unfold qj_X10_readBehindPoint_140
  have T1 := gF_2_3 V_h
  have T2 := gF_2_10 V_h
  have T3 := gF_2_11 V_h
  have T4 := gF_34_1 V_h
  have T5 := gF_34_3 V_h
  have T6 := gF_49_10 V_h
  refine ok_cVR (vf_X9_tell hn (by omega) (by omega) (by omega) (by omega) V_h) ?_; intro u22 E_u22 V_u22 R_u22
  have T7 : u22 2 3 = h 2 3 := (ff_X9_tell nn) _ E_u22 2 3 rfl
  have T8 : u22 2 10 = h 2 10 := (ff_X9_tell nn) _ E_u22 2 10 rfl
  have T9 : u22 34 1 = h 34 1 := (ff_X9_tell nn) _ E_u22 34 1 rfl
  have T10 : u22 34 3 = h 34 3 := (ff_X9_tell nn) _ E_u22 34 3 rfl
  have T11 : u22 49 10 = h 49 10 := (ff_X9_tell nn) _ E_u22 49 10 rfl
  have T12 := gF_2_11 V_u22
  exact ok_mV (vj_X10_readBehindPoint_149 hn hg (by omega) (by omega) (by omega) (by omega) (by omega) (by omega) (by omega) (by omega) (by omega) (by omega) (by omega) (by omega) V_u22 (by omega) (by omega) (by omega) (by omega) (by omega)) (fun _ V_r R_r => by have := gF_2_3 V_r; have := gF_2_10 V_r; have := gF_2_11 V_r; have := gF_34_1 V_r; have := gF_34_3 V_r; have := gF_49_10 V_r; omega)
set_option maxRecDepth 4000 in
theorem vj_X10_readBehindPoint_112 {nn : Nat} (hn : 1000000 ≤ nn) {g : Int} {rc : tq_X10_readValue} (hg : GH_X10_readValue g rc) {l1 : Int} {l2 : Int} {l3 : Int} {l4 : Int} {l5 : Int} {l6 : Int} {s0 : Int} {h : ms_M} (a_l1 : 0 ≤ l1) (b_l1 : l1 ≤ 50000000) (a_l2 : 1 ≤ l2) (b_l2 : l2 ≤ 43) (a_l3 : 1 ≤ l3) (b_l3 : l3 ≤ 50000001) (a_l4 : 0 ≤ l4) (b_l4 : l4 ≤ 2147483647) (a_l5 : 0 ≤ l5) (b_l5 : l5 ≤ 1) (a_l6 : 0 ≤ l6) (b_l6 : l6 ≤ 1) (a_s0 : (-1) ≤ s0) (b_s0 : s0 ≤ 95) (V_h : VS_ h) (x_0 : (9 * (44 - l2) + 4) ≤ (g + 1)) (x_1 : h 2 10 + 20000 * (9 * (44 - l2) + 4) ≤ 40015000) (x_2 : h 34 1 + h 34 3 + 12 * h 49 10 + 100 * (9 * (44 - l2) + 4) ≤ 20 * h 2 10 + 100060) (x_3 : l3 = h 2 10 + 1) (x_4 : l5 = 0 ∨ l3 + 1 < h 2 3)  : Ok_ (qj_X10_readBehindPoint_112 nn rc l1 l2 l3 l4 l5 l6 s0 h) (QVR_ (fun r => (r 2 3 = h 2 3) ∧ (h 2 11 = 0 ∨ ¬ r 2 11 = 0) ∧ (h 2 10 ≤ r 2 10) ∧ (r 34 1 + r 34 3 + 12 * r 49 10 + 20 * h 2 10 ≤ h 34 1 + h 34 3 + 12 * h 49 10 + 20 * r 2 10 + (-38)) ∧ (((h 2 11 = 0 ∧ h 2 10 < h 2 3) ∧ r 2 10 ≤ 3001 + 20000 * (9 * (44 - l2) + 4)) ∨ (¬ (h 2 11 = 0 ∧ h 2 10 < h 2 3) ∧ r 2 10 ≤ h 2 10 + 6)))) := by
  unfold qj_X10_readBehindPoint_112
  have T1 := gF_2_3 V_h
  have T2 := gF_2_10 V_h
  have T3 := gF_2_11 V_h
  have T4 := gF_34_1 V_h
  have T5 := gF_34_3 V_h
  have T6 := gF_49_10 V_h
  refine ok_if ?_ ?_
  · intro C6
    refine ok_if ?_ ?_
    · intro C7
      exact ok_mV (vj_X10_readBehindPoint_149 hn hg (by omega) (by omega) (by omega) (by omega) (by omega) (by omega) (by omega) (by omega) (by omega) (by omega) (by omega) (by omega) V_h (by omega) (by omega) (by omega) (by omega) (by omega)) (fun _ V_r R_r => by have := gF_2_3 V_r; have := gF_2_10 V_r; have := gF_2_11 V_r; have := gF_34_1 V_r; have := gF_34_3 V_r; have := gF_49_10 V_r; omega)
    · intro C7
      exact ok_mV (vj_X10_readBehindPoint_140 hn hg (by omega) (by omega) (by omega) (by omega) (by omega) (by omega) (by omega) (by omega) (by omega) (by omega) (by omega) (by omega) V_h (by omega) (by omega) (by omega) (by omega) (by omega)) (fun _ V_r R_r => by have := gF_2_3 V_r; have := gF_2_10 V_r; have := gF_2_11 V_r; have := gF_34_1 V_r; have := gF_34_3 V_r; have := gF_49_10 V_r; omega)
  · intro C6
    refine ok_if ?_ ?_
    · intro C8
      exact ok_mV (vj_X10_readBehindPoint_140 hn hg (by omega) (by omega) (by omega) (by omega) (by omega) (by omega) (by omega) (by omega) (by omega) (by omega) (by omega) (by omega) V_h (by omega) (by omega) (by omega) (by omega) (by omega)) (fun _ V_r R_r => by have := gF_2_3 V_r; have := gF_2_10 V_r; have := gF_2_11 V_r; have := gF_34_1 V_r; have := gF_34_3 V_r; have := gF_49_10 V_r; omega)
    · intro C8
      refine ok_if ?_ ?_
      · intro C9
        exact ok_mV (vj_X10_readBehindPoint_149 hn hg (by omega) (by omega) (by omega) (by omega) (by omega) (by omega) (by omega) (by omega) (by omega) (by omega) (by omega) (by omega) V_h (by omega) (by omega) (by omega) (by omega) (by omega)) (fun _ V_r R_r => by have := gF_2_3 V_r; have := gF_2_10 V_r; have := gF_2_11 V_r; have := gF_34_1 V_r; have := gF_34_3 V_r; have := gF_49_10 V_r; omega)
      · intro C9
        exact ok_mV (vj_X10_readBehindPoint_140 hn hg (by omega) (by omega) (by omega) (by omega) (by omega) (by omega) (by omega) (by omega) (by omega) (by omega) (by omega) (by omega) V_h (by omega) (by omega) (by omega) (by omega) (by omega)) (fun _ V_r R_r => by have := gF_2_3 V_r; have := gF_2_10 V_r; have := gF_2_11 V_r; have := gF_34_1 V_r; have := gF_34_3 V_r; have := gF_49_10 V_r; omega)
set_option maxRecDepth 4000 in
theorem vj_X10_readBehindPoint_72 {nn : Nat} (hn : 1000000 ≤ nn) {g : Int} {rc : tq_X10_readValue} (hg : GH_X10_readValue g rc) {l1 : Int} {l2 : Int} {l3 : Int} {l4 : Int} {l5 : Int} {l6 : Int} {s0 : Int} {h : ms_M} (a_l1 : 0 ≤ l1) (b_l1 : l1 ≤ 50000000) (a_l2 : 1 ≤ l2) (b_l2 : l2 ≤ 43) (a_l3 : 1 ≤ l3) (b_l3 : l3 ≤ 50000001) (a_l4 : 0 ≤ l4) (b_l4 : l4 ≤ 2147483647) (a_l5 : 0 ≤ l5) (b_l5 : l5 ≤ 1) (a_l6 : 0 ≤ l6) (b_l6 : l6 ≤ 1) (a_s0 : 0 ≤ s0) (b_s0 : s0 ≤ 1) (V_h : VS_ h) (x_0 : (9 * (44 - l2) + 4) ≤ (g + 1)) (x_1 : h 2 10 + 20000 * (9 * (44 - l2) + 4) ≤ 40015000) (x_2 : h 34 1 + h 34 3 + 12 * h 49 10 + 100 * (9 * (44 - l2) + 4) ≤ 20 * h 2 10 + 100060) (x_3 : l3 = h 2 10 + 1) (x_4 : l5 = 0 ∨ l3 + 1 < h 2 3)  : Ok_ (qj_X10_readBehindPoint_72 nn rc l1 l2 l3 l4 l5 l6 s0 h) (QVR_ (fun r => (r 2 3 = h 2 3) ∧ (h 2 11 = 0 ∨ ¬ r 2 11 = 0) ∧ (h 2 10 ≤ r 2 10) ∧ (r 34 1 + r 34 3 + 12 * r 49 10 + 20 * h 2 10 ≤ h 34 1 + h 34 3 + 12 * h 49 10 + 20 * r 2 10 + (-38)) ∧ (((h 2 11 = 0 ∧ h 2 10 < h 2 3) ∧ r 2 10 ≤ 3001 + 20000 * (9 * (44 - l2) + 4)) ∨ (¬ (h 2 11 = 0 ∧ h 2 10 < h 2 3) ∧ r 2 10 ≤ h 2 10 + 6)))) := by
  unfold qj_X10_readBehindPoint_72
  have T1 := gF_2_3 V_h
  have T2 := gF_2_10 V_h
  have T3 := gF_2_11 V_h
  have T4 := gF_34_1 V_h
  have T5 := gF_34_3 V_h
  have T6 := gF_49_10 V_h
  refine ok_sub (by omega) ?_; intro v27 e_v27
  refine ok_cVR (vf_X10_wantType hn (by omega) (by omega) (by omega) (by omega) V_h) ?_; intro u29 E_u29 V_u29 R_u29
  have T7 : u29 2 3 = h 2 3 := (ff_X10_wantType nn) _ E_u29 2 3 rfl
  have T8 : u29 2 10 = h 2 10 := (ff_X10_wantType nn) _ E_u29 2 10 rfl
  have T9 : u29 34 1 = h 34 1 := (ff_X10_wantType nn) _ E_u29 34 1 rfl
  have T10 : u29 34 3 = h 34 3 := (ff_X10_wantType nn) _ E_u29 34 3 rfl
  have T11 : u29 49 10 = h 49 10 := (ff_X10_wantType nn) _ E_u29 49 10 rfl
  have T12 := gF_2_11 V_u29
  refine ok_if ?_ ?_
  · intro C12
    have T14 := gF_49_12 V_u29
    refine ok_cP (vf_X2_fieldOf hn (by omega) (by omega) (by omega) (by omega) V_u29) ?_; intro u33 e_u33 a_u33 b_u33
    exact ok_mV (vj_X10_readBehindPoint_112 hn hg (by omega) (by omega) (by omega) (by omega) (by omega) (by omega) (by omega) (by omega) (by omega) (by omega) (by omega) (by omega) (by omega) (by omega) V_u29 (by omega) (by omega) (by omega) (by omega) (by omega)) (fun _ V_r R_r => by have := gF_2_3 V_r; have := gF_2_10 V_r; have := gF_2_11 V_r; have := gF_34_1 V_r; have := gF_34_3 V_r; have := gF_49_10 V_r; omega)
  · intro C12
    have T15 := gF_49_12 V_u29
    refine ok_cP (vf_X2_methodOf hn (by omega) (by omega) (by omega) (by omega) V_u29) ?_; intro u37 e_u37 a_u37 b_u37
    exact ok_mV (vj_X10_readBehindPoint_112 hn hg (by omega) (by omega) (by omega) (by omega) (by omega) (by omega) (by omega) (by omega) (by omega) (by omega) (by omega) (by omega) (by omega) (by omega) V_u29 (by omega) (by omega) (by omega) (by omega) (by omega)) (fun _ V_r R_r => by have := gF_2_3 V_r; have := gF_2_10 V_r; have := gF_2_11 V_r; have := gF_34_1 V_r; have := gF_34_3 V_r; have := gF_49_10 V_r; omega)
set_option maxRecDepth 4000 in
theorem vj_X10_readBehindPoint_67 {nn : Nat} (hn : 1000000 ≤ nn) {g : Int} {rc : tq_X10_readValue} (hg : GH_X10_readValue g rc) {l1 : Int} {l2 : Int} {l3 : Int} {l4 : Int} {l5 : Int} {l6 : Int} {h : ms_M} (a_l1 : 0 ≤ l1) (b_l1 : l1 ≤ 50000000) (a_l2 : 1 ≤ l2) (b_l2 : l2 ≤ 43) (a_l3 : 1 ≤ l3) (b_l3 : l3 ≤ 50000001) (a_l4 : 0 ≤ l4) (b_l4 : l4 ≤ 2147483647) (a_l5 : 0 ≤ l5) (b_l5 : l5 ≤ 1) (a_l6 : 0 ≤ l6) (b_l6 : l6 ≤ 1) (V_h : VS_ h) (x_0 : (9 * (44 - l2) + 4) ≤ (g + 1)) (x_1 : h 2 10 + 20000 * (9 * (44 - l2) + 4) ≤ 40015000) (x_2 : h 34 1 + h 34 3 + 12 * h 49 10 + 100 * (9 * (44 - l2) + 4) ≤ 20 * h 2 10 + 100060) (x_3 : l3 = h 2 10 + 1) (x_4 : l5 = 0 ∨ l3 + 1 < h 2 3)  : Ok_ (qj_X10_readBehindPoint_67 nn rc l1 l2 l3 l4 l5 l6 h) (QVR_ (fun r => (r 2 3 = h 2 3) ∧ (h 2 11 = 0 ∨ ¬ r 2 11 = 0) ∧ (h 2 10 ≤ r 2 10) ∧ (r 34 1 + r 34 3 + 12 * r 49 10 + 20 * h 2 10 ≤ h 34 1 + h 34 3 + 12 * h 49 10 + 20 * r 2 10 + (-38)) ∧ (((h 2 11 = 0 ∧ h 2 10 < h 2 3) ∧ r 2 10 ≤ 3001 + 20000 * (9 * (44 - l2) + 4)) ∨ (¬ (h 2 11 = 0 ∧ h 2 10 < h 2 3) ∧ r 2 10 ≤ h 2 10 + 6)))) := by
  unfold qj_X10_readBehindPoint_67
  have T1 := gF_2_3 V_h
  have T2 := gF_2_10 V_h
  have T3 := gF_2_11 V_h
  have T4 := gF_34_1 V_h
  have T5 := gF_34_3 V_h
  have T6 := gF_49_10 V_h
  exact ok_mV (vj_X10_readBehindPoint_72 hn hg (by omega) (by omega) (by omega) (by omega) (by omega) (by omega) (by omega) (by omega) (by omega) (by omega) (by omega) (by omega) (by omega) (by omega) V_h (by omega) (by omega) (by omega) (by omega) (by omega)) (fun _ V_r R_r => by have := gF_2_3 V_r; have := gF_2_10 V_r; have := gF_2_11 V_r; have := gF_34_1 V_r; have := gF_34_3 V_r; have := gF_49_10 V_r; omega)
set_option maxRecDepth 4000 in
theorem vj_X10_readBehindPoint_40 {nn : Nat} (hn : 1000000 ≤ nn) {g : Int} {rc : tq_X10_readValue} (hg : GH_X10_readValue g rc) {l1 : Int} {l2 : Int} {l3 : Int} {l4 : Int} {s0 : Int} {h : ms_M} (a_l1 : 0 ≤ l1) (b_l1 : l1 ≤ 50000000) (a_l2 : 1 ≤ l2) (b_l2 : l2 ≤ 43) (a_l3 : 1 ≤ l3) (b_l3 : l3 ≤ 50000001) (a_l4 : 0 ≤ l4) (b_l4 : l4 ≤ 2147483647) (a_s0 : 0 ≤ s0) (b_s0 : s0 ≤ 1) (V_h : VS_ h) (x_0 : (9 * (44 - l2) + 4) ≤ (g + 1)) (x_1 : h 2 10 + 20000 * (9 * (44 - l2) + 4) ≤ 40015000) (x_2 : h 34 1 + h 34 3 + 12 * h 49 10 + 100 * (9 * (44 - l2) + 4) ≤ 20 * h 2 10 + 100060) (x_3 : l3 = h 2 10 + 1) (x_4 : s0 = 0 ∨ l3 + 1 < h 2 3)  : Ok_ (qj_X10_readBehindPoint_40 nn rc l1 l2 l3 l4 s0 h) (QVR_ (fun r => (r 2 3 = h 2 3) ∧ (h 2 11 = 0 ∨ ¬ r 2 11 = 0) ∧ (h 2 10 ≤ r 2 10) ∧ (r 34 1 + r 34 3 + 12 * r 49 10 + 20 * h 2 10 ≤ h 34 1 + h 34 3 + 12 * h 49 10 + 20 * r 2 10 + (-38)) ∧ (((h 2 11 = 0 ∧ h 2 10 < h 2 3) ∧ r 2 10 ≤ 3001 + 20000 * (9 * (44 - l2) + 4)) ∨ (¬ (h 2 11 = 0 ∧ h 2 10 < h 2 3) ∧ r 2 10 ≤ h 2 10 + 6)))) := by
  unfold qj_X10_readBehindPoint_40
  have T1 := gF_2_3 V_h
  have T2 := gF_2_10 V_h
  have T3 := gF_2_11 V_h
  have T4 := gF_34_1 V_h
  have T5 := gF_34_3 V_h
  have T6 := gF_49_10 V_h
  have T7 := gF_49_12 V_h
  refine ok_cP (vf_X4_isArray hn (by omega) (by omega) V_h) ?_; intro u40 e_u40 a_u40 b_u40
  have T8 := pr_X4_isArray e_u40
  refine ok_if ?_ ?_
  · intro C8
    exact ok_mV (vj_X10_readBehindPoint_67 hn hg (by omega) (by omega) (by omega) (by omega) (by omega) (by omega) (by omega) (by omega) (by omega) (by omega) (by omega) (by omega) V_h (by omega) (by omega) (by omega) (by omega) (by omega)) (fun _ V_r R_r => by have := gF_2_3 V_r; have := gF_2_10 V_r; have := gF_2_11 V_r; have := gF_34_1 V_r; have := gF_34_3 V_r; have := gF_49_10 V_r; omega)
  · intro C8
    refine ok_cP (vf_X4_isClass hn (by omega) (by omega) V_h) ?_; intro u42 e_u42 a_u42 b_u42
    have T10 := pr_X4_isClass e_u42
    refine ok_if ?_ ?_
    · intro C10
      exact ok_mV (vj_X10_readBehindPoint_72 hn hg (by omega) (by omega) (by omega) (by omega) (by omega) (by omega) (by omega) (by omega) (by omega) (by omega) (by omega) (by omega) (by omega) (by omega) V_h (by omega) (by omega) (by omega) (by omega) (by omega)) (fun _ V_r R_r => by have := gF_2_3 V_r; have := gF_2_10 V_r; have := gF_2_11 V_r; have := gF_34_1 V_r; have := gF_34_3 V_r; have := gF_49_10 V_r; omega)
    · intro C10
      exact ok_mV (vj_X10_readBehindPoint_67 hn hg (by omega) (by omega) (by omega) (by omega) (by omega) (by omega) (by omega) (by omega) (by omega) (by omega) (by omega) (by omega) V_h (by omega) (by omega) (by omega) (by omega) (by omega)) (fun _ V_r R_r => by have := gF_2_3 V_r; have := gF_2_10 V_r; have := gF_2_11 V_r; have := gF_34_1 V_r; have := gF_34_3 V_r; have := gF_49_10 V_r; omega)
set_option maxRecDepth 4000 in
theorem vo_X10_readBehindPoint {nn : Nat} (hn : 1000000 ≤ nn) {g : Int} {rc : tq_X10_readValue} (hg : GH_X10_readValue g rc) {a1 : Int} {a2 : Int} {h : ms_M} (a_a1 : 0 ≤ a1) (b_a1 : a1 ≤ 50000000) (a_a2 : 1 ≤ a2) (b_a2 : a2 ≤ 43) (V_h : VS_ h) (x_0 : (9 * (44 - a2) + 4) ≤ (g + 1)) (x_1 : h 2 10 + 20000 * (9 * (44 - a2) + 4) ≤ 40000000) (x_2 : h 34 1 + h 34 3 + 12 * h 49 10 + 100 * (9 * (44 - a2) + 4) ≤ 20 * h 2 10 + 100000) (x_3 : (h 2 11 = 0 ∧ h 2 10 < h 2 3))  : Ok_ (qo_X10_readBehindPoint nn rc a1 a2 h) (QVR_ (fun r => (r 2 3 = h 2 3) ∧ (h 2 11 = 0 ∨ ¬ r 2 11 = 0) ∧ (h 2 10 ≤ r 2 10) ∧ (r 34 1 + r 34 3 + 12 * r 49 10 + 20 * h 2 10 ≤ h 34 1 + h 34 3 + 12 * h 49 10 + 20 * r 2 10 + (-38)) ∧ (r 2 10 ≤ 3001 + 20000 * (9 * (44 - a2) + 4)))) := by
  unfold qo_X10_readBehindPoint
  have T1 := gF_2_3 V_h
  have T2 := gF_2_10 V_h
  have T3 := gF_2_11 V_h
  have T4 := gF_34_1 V_h
  have T5 := gF_34_3 V_h
  have T6 := gF_49_10 V_h
  refine ok_add (by omega) ?_; intro v47 e_v47
  refine ok_cP (vf_X9_valueAt hn (by omega) (by omega) V_h) ?_; intro u50 e_u50 a_u50 b_u50
  refine ok_add (by omega) ?_; intro v52 e_v52
  refine ok_cP (vf_X9_kindAt hn (by omega) (by omega) V_h) ?_; intro u54 e_u54 a_u54 b_u54
  have T7 := lm_X9_kindAt e_u54
  refine ok_if ?_ ?_
  · intro C7
    exact ok_mV (vj_X10_readBehindPoint_40 hn hg (by omega) (by omega) (by omega) (by omega) (by omega) (by omega) (by omega) (by omega) (by omega) (by omega) V_h (by omega) (by omega) (by omega) (by omega) (by omega)) (fun _ V_r R_r => by have := gF_2_3 V_r; have := gF_2_10 V_r; have := gF_2_11 V_r; have := gF_34_1 V_r; have := gF_34_3 V_r; have := gF_49_10 V_r; omega)
  · intro C7
    exact ok_mV (vj_X10_readBehindPoint_40 hn hg (by omega) (by omega) (by omega) (by omega) (by omega) (by omega) (by omega) (by omega) (by omega) (by omega) V_h (by omega) (by omega) (by omega) (by omega) (by omega)) (fun _ V_r R_r => by have := gF_2_3 V_r; have := gF_2_10 V_r; have := gF_2_11 V_r; have := gF_34_1 V_r; have := gF_34_3 V_r; have := gF_49_10 V_r; omega)
set_option maxRecDepth 4000 in
theorem vj_X10_readCall_275 {nn : Nat} (hn : 1000000 ≤ nn) {g : Int} {rc : tq_X10_readValue} (hg : GH_X10_readValue g rc) {l2 : Int} {l3 : Int} {l5 : Int} {s0 : Int} {h : ms_M} (a_l2 : (-1) ≤ l2) (b_l2 : l2 ≤ 95) (a_l3 : 0 ≤ l3) (b_l3 : l3 ≤ 50000002) (a_l5 : 0 ≤ l5) (b_l5 : l5 ≤ 50000000) (a_s0 : 0 ≤ s0) (b_s0 : s0 ≤ 3001) (V_h : VS_ h) (x_0 : h 34 1 + h 34 3 ≤ 1400000022) (x_1 : h 2 10 ≤ 45000005)  : Ok_ (qj_X10_readCall_275 nn rc l2 l3 l5 s0 h) (QVR_ (fun r => (r 2 3 = h 2 3) ∧ (h 2 11 = 0 ∨ ¬ r 2 11 = 0) ∧ (h 2 10 ≤ r 2 10) ∧ (r 34 1 + r 34 3 + 12 * r 49 10 + 20 * h 2 10 ≤ h 34 1 + h 34 3 + 12 * h 49 10 + 20 * r 2 10 + 1) ∧ (r 2 10 ≤ h 2 10 + 0))) := by
  unfold qj_X10_readCall_275
  have T1 := gF_2_3 V_h
  have T2 := gF_2_10 V_h
  have T3 := gF_2_11 V_h
  have T4 := gF_34_1 V_h
  have T5 := gF_34_3 V_h
  have T6 := gF_49_10 V_h
  refine ok_cVR (vf_X1_pop hn (by omega) (by omega) V_h (by omega)) ?_; intro u2 E_u2 V_u2 R_u2
  have T7 : u2 2 3 = h 2 3 := (ff_X1_pop nn) _ E_u2 2 3 rfl
  have T8 : u2 2 10 = h 2 10 := (ff_X1_pop nn) _ E_u2 2 10 rfl
  have T9 : u2 2 11 = h 2 11 := (ff_X1_pop nn) _ E_u2 2 11 rfl
  have T10 : u2 34 1 = h 34 1 := (ff_X1_pop nn) _ E_u2 34 1 rfl
  have T11 : u2 49 10 = h 49 10 := (ff_X1_pop nn) _ E_u2 49 10 rfl
  have T12 := gF_34_3 V_u2
  refine ok_cP (vf_X2_resultOf hn (by omega) (by omega) V_u2) ?_; intro u5 e_u5 a_u5 b_u5
  refine ok_cVR (vf_X10_closeCall hn (by omega) (by omega) (by omega) (by omega) (by omega) (by omega) V_u2 (by omega)) ?_; intro u7 E_u7 V_u7 R_u7
  have T13 : u7 2 3 = u2 2 3 := (ff_X10_closeCall nn) _ E_u7 2 3 rfl
  have T14 : u7 2 10 = u2 2 10 := (ff_X10_closeCall nn) _ E_u7 2 10 rfl
  have T15 : u7 34 1 = u2 34 1 := (ff_X10_closeCall nn) _ E_u7 34 1 rfl
  have T16 : u7 49 10 = u2 49 10 := (ff_X10_closeCall nn) _ E_u7 49 10 rfl
  have T17 := gF_2_11 V_u7
  have T18 := gF_34_3 V_u7
  exact ok_rVR V_u7 (by omega)
set_option maxRecDepth 4000 in
theorem vj_X10_readCall_245 {nn : Nat} (hn : 1000000 ≤ nn) {g : Int} {rc : tq_X10_readValue} (hg : GH_X10_readValue g rc) {l1 : Int} {l2 : Int} {l3 : Int} {l5 : Int} {l7 : Int} {l9 : Int} {s0 : Int} {h : ms_M} (a_l1 : (-1) ≤ l1) (b_l1 : l1 ≤ 441) (a_l2 : (-1) ≤ l2) (b_l2 : l2 ≤ 95) (a_l3 : 0 ≤ l3) (b_l3 : l3 ≤ 50000002) (a_l5 : 0 ≤ l5) (b_l5 : l5 ≤ 50000000) (a_l7 : 0 ≤ l7) (b_l7 : l7 ≤ 3000) (a_l9 : 0 ≤ l9) (b_l9 : l9 ≤ 1) (a_s0 : 182 ≤ s0) (b_s0 : s0 ≤ 184) (V_h : VS_ h) (x_0 : h 34 1 + h 34 3 ≤ 1400000020) (x_1 : h 2 10 ≤ 45000005)  : Ok_ (qj_X10_readCall_245 nn rc l1 l2 l3 l5 l7 l9 s0 h) (QVR_ (fun r => (r 2 3 = h 2 3) ∧ (h 2 11 = 0 ∨ ¬ r 2 11 = 0) ∧ (h 2 10 ≤ r 2 10) ∧ (r 34 1 + r 34 3 + 12 * r 49 10 + 20 * h 2 10 ≤ h 34 1 + h 34 3 + 12 * h 49 10 + 20 * r 2 10 + 3) ∧ (r 2 10 ≤ h 2 10 + 0))) := by
  unfold qj_X10_readCall_245
  have T1 := gF_2_3 V_h
  have T2 := gF_2_10 V_h
  have T3 := gF_2_11 V_h
  have T4 := gF_34_1 V_h
  have T5 := gF_34_3 V_h
  have T6 := gF_49_10 V_h
  refine ok_cI (vf_X6_methodOf hn (by omega) (by omega) (by omega) (by omega) V_h) ?_; intro u10 E_u10 V_u10 a_u10 b_u10
  have T7 : u10.2 2 3 = h 2 3 := (ff_X6_methodOf nn) _ E_u10 2 3 rfl
  have T8 : u10.2 2 10 = h 2 10 := (ff_X6_methodOf nn) _ E_u10 2 10 rfl
  have T9 : u10.2 2 11 = h 2 11 := (ff_X6_methodOf nn) _ E_u10 2 11 rfl
  have T10 : u10.2 34 1 = h 34 1 := (ff_X6_methodOf nn) _ E_u10 34 1 rfl
  have T11 : u10.2 34 3 = h 34 3 := (ff_X6_methodOf nn) _ E_u10 34 3 rfl
  have T12 : u10.2 49 10 = h 49 10 := (ff_X6_methodOf nn) _ E_u10 49 10 rfl
  refine ok_cVR (vf_X1_op_ hn (by omega) (by omega) (by omega) (by omega) V_u10 (by omega)) ?_; intro u12 E_u12 V_u12 R_u12
  have T13 : u12 2 3 = u10.2 2 3 := (ff_X1_op_ nn) _ E_u12 2 3 rfl
  have T14 : u12 2 10 = u10.2 2 10 := (ff_X1_op_ nn) _ E_u12 2 10 rfl
  have T15 : u12 2 11 = u10.2 2 11 := (ff_X1_op_ nn) _ E_u12 2 11 rfl
  have T16 : u12 34 3 = u10.2 34 3 := (ff_X1_op_ nn) _ E_u12 34 3 rfl
  have T17 : u12 49 10 = u10.2 49 10 := (ff_X1_op_ nn) _ E_u12 49 10 rfl
  have T18 := gF_34_1 V_u12
  refine ok_if ?_ ?_
  · intro C18
    refine ok_add (by omega) ?_; intro v14 e_v14
    exact ok_mV (vj_X10_readCall_275 hn hg (by omega) (by omega) (by omega) (by omega) (by omega) (by omega) (by omega) (by omega) V_u12 (by omega) (by omega)) (fun _ V_r R_r => by have := gF_2_3 V_r; have := gF_2_10 V_r; have := gF_2_11 V_r; have := gF_34_1 V_r; have := gF_34_3 V_r; have := gF_49_10 V_r; omega)
  · intro C18
    exact ok_mV (vj_X10_readCall_275 hn hg (by omega) (by omega) (by omega) (by omega) (by omega) (by omega) (by omega) (by omega) V_u12 (by omega) (by omega)) (fun _ V_r R_r => by have := gF_2_3 V_r; have := gF_2_10 V_r; have := gF_2_11 V_r; have := gF_34_1 V_r; have := gF_34_3 V_r; have := gF_49_10 V_r; omega)
set_option maxRecDepth 4000 in
theorem vj_X10_readCall_223 {nn : Nat} (hn : 1000000 ≤ nn) {g : Int} {rc : tq_X10_readValue} (hg : GH_X10_readValue g rc) {l1 : Int} {l2 : Int} {l3 : Int} {l5 : Int} {l7 : Int} {l9 : Int} {s0 : Int} {h : ms_M} (a_l1 : (-1) ≤ l1) (b_l1 : l1 ≤ 441) (a_l2 : (-1) ≤ l2) (b_l2 : l2 ≤ 95) (a_l3 : 0 ≤ l3) (b_l3 : l3 ≤ 50000002) (a_l5 : 0 ≤ l5) (b_l5 : l5 ≤ 50000000) (a_l7 : 0 ≤ l7) (b_l7 : l7 ≤ 3000) (a_l9 : 0 ≤ l9) (b_l9 : l9 ≤ 1) (a_s0 : 0 ≤ s0) (b_s0 : s0 ≤ 1) (V_h : VS_ h) (x_0 : h 34 1 + h 34 3 ≤ 1400000020) (x_1 : h 2 10 ≤ 45000005)  : Ok_ (qj_X10_readCall_223 nn rc l1 l2 l3 l5 l7 l9 s0 h) (QVR_ (fun r => (r 2 3 = h 2 3) ∧ (h 2 11 = 0 ∨ ¬ r 2 11 = 0) ∧ (h 2 10 ≤ r 2 10) ∧ (r 34 1 + r 34 3 + 12 * r 49 10 + 20 * h 2 10 ≤ h 34 1 + h 34 3 + 12 * h 49 10 + 20 * r 2 10 + 3) ∧ (r 2 10 ≤ h 2 10 + 0))) := by
  unfold qj_X10_readCall_223
  have T1 := gF_2_3 V_h
  have T2 := gF_2_10 V_h
  have T3 := gF_2_11 V_h
  have T4 := gF_34_1 V_h
  have T5 := gF_34_3 V_h
  have T6 := gF_49_10 V_h
  refine ok_cVR (vf_X10_wantType hn (by omega) (by omega) (by omega) (by omega) V_h) ?_; intro u17 E_u17 V_u17 R_u17
  have T7 : u17 2 3 = h 2 3 := (ff_X10_wantType nn) _ E_u17 2 3 rfl
  have T8 : u17 2 10 = h 2 10 := (ff_X10_wantType nn) _ E_u17 2 10 rfl
  have T9 : u17 34 1 = h 34 1 := (ff_X10_wantType nn) _ E_u17 34 1 rfl
  have T10 : u17 34 3 = h 34 3 := (ff_X10_wantType nn) _ E_u17 34 3 rfl
  have T11 : u17 49 10 = h 49 10 := (ff_X10_wantType nn) _ E_u17 49 10 rfl
  have T12 := gF_2_11 V_u17
  refine ok_if ?_ ?_
  · intro C12
    exact ok_mV (vj_X10_readCall_245 hn hg (by omega) (by omega) (by omega) (by omega) (by omega) (by omega) (by omega) (by omega) (by omega) (by omega) (by omega) (by omega) (by omega) (by omega) V_u17 (by omega) (by omega)) (fun _ V_r R_r => by have := gF_2_3 V_r; have := gF_2_10 V_r; have := gF_2_11 V_r; have := gF_34_1 V_r; have := gF_34_3 V_r; have := gF_49_10 V_r; omega)
  · intro C12
    exact ok_mV (vj_X10_readCall_245 hn hg (by omega) (by omega) (by omega) (by omega) (by omega) (by omega) (by omega) (by omega) (by omega) (by omega) (by omega) (by omega) (by omega) (by omega) V_u17 (by omega) (by omega)) (fun _ V_r R_r => by have := gF_2_3 V_r; have := gF_2_10 V_r; have := gF_2_11 V_r; have := gF_34_1 V_r; have := gF_34_3 V_r; have := gF_49_10 V_r; omega)
set_option maxRecDepth 4000 in
theorem vj_X10_readCall_222 {nn : Nat} (hn : 1000000 ≤ nn) {g : Int} {rc : tq_X10_readValue} (hg : GH_X10_readValue g rc) {l1 : Int} {l2 : Int} {l3 : Int} {l5 : Int} {l7 : Int} {l9 : Int} {h : ms_M} (a_l1 : (-1) ≤ l1) (b_l1 : l1 ≤ 441) (a_l2 : (-1) ≤ l2) (b_l2 : l2 ≤ 95) (a_l3 : 0 ≤ l3) (b_l3 : l3 ≤ 50000002) (a_l5 : 0 ≤ l5) (b_l5 : l5 ≤ 50000000) (a_l7 : 0 ≤ l7) (b_l7 : l7 ≤ 3000) (a_l9 : 0 ≤ l9) (b_l9 : l9 ≤ 1) (V_h : VS_ h) (x_0 : h 34 1 + h 34 3 ≤ 1400000020) (x_1 : h 2 10 ≤ 45000005)  : Ok_ (qj_X10_readCall_222 nn rc l1 l2 l3 l5 l7 l9 h) (QVR_ (fun r => (r 2 3 = h 2 3) ∧ (h 2 11 = 0 ∨ ¬ r 2 11 = 0) ∧ (h 2 10 ≤ r 2 10) ∧ (r 34 1 + r 34 3 + 12 * r 49 10 + 20 * h 2 10 ≤ h 34 1 + h 34 3 + 12 * h 49 10 + 20 * r 2 10 + 3) ∧ (r 2 10 ≤ h 2 10 + 0))) := by
  unfold qj_X10_readCall_222
  have T1 := gF_2_3 V_h
  have T2 := gF_2_10 V_h
  have T3 := gF_2_11 V_h
  have T4 := gF_34_1 V_h
  have T5 := gF_34_3 V_h
  have T6 := gF_49_10 V_h
  exact ok_mV (vj_X10_readCall_223 hn hg (by omega) (by omega) (by omega) (by omega) (by omega) (by omega) (by omega) (by omega) (by omega) (by omega) (by omega) (by omega) (by omega) (by omega) V_h (by omega) (by omega)) (fun _ V_r R_r => by have := gF_2_3 V_r; have := gF_2_10 V_r; have := gF_2_11 V_r; have := gF_34_1 V_r; have := gF_34_3 V_r; have := gF_49_10 V_r; omega)
set_option maxRecDepth 4000 in
theorem vj_X10_readCall_192 {nn : Nat} (hn : 1000000 ≤ nn) {g : Int} {rc : tq_X10_readValue} (hg : GH_X10_readValue g rc) {l1 : Int} {l2 : Int} {l3 : Int} {l5 : Int} {l7 : Int} {l8 : Int} {l9 : Int} {s0 : Int} {h : ms_M} (a_l1 : (-1) ≤ l1) (b_l1 : l1 ≤ 441) (a_l2 : (-1) ≤ l2) (b_l2 : l2 ≤ 95) (a_l3 : 0 ≤ l3) (b_l3 : l3 ≤ 50000002) (a_l5 : 0 ≤ l5) (b_l5 : l5 ≤ 50000000) (a_l7 : 0 ≤ l7) (b_l7 : l7 ≤ 3000) (a_l8 : 0 ≤ l8) (b_l8 : l8 ≤ 1) (a_l9 : 0 ≤ l9) (b_l9 : l9 ≤ 1) (a_s0 : 0 ≤ s0) (b_s0 : s0 ≤ 1) (V_h : VS_ h) (x_0 : h 34 1 + h 34 3 ≤ 1400000020) (x_1 : h 2 10 ≤ 45000005)  : Ok_ (qj_X10_readCall_192 nn rc l1 l2 l3 l5 l7 l8 l9 s0 h) (QVR_ (fun r => (r 2 3 = h 2 3) ∧ (h 2 11 = 0 ∨ ¬ r 2 11 = 0) ∧ (h 2 10 ≤ r 2 10) ∧ (r 34 1 + r 34 3 + 12 * r 49 10 + 20 * h 2 10 ≤ h 34 1 + h 34 3 + 12 * h 49 10 + 20 * r 2 10 + 3) ∧ (r 2 10 ≤ h 2 10 + 0))) := by
  unfold qj_X10_readCall_192
  have T1 := gF_2_3 V_h
  have T2 := gF_2_10 V_h
  have T3 := gF_2_11 V_h
  have T4 := gF_34_1 V_h
  have T5 := gF_34_3 V_h
  have T6 := gF_49_10 V_h
  refine ok_if ?_ ?_
  · intro C6
    exact ok_mV (vj_X10_readCall_222 hn hg (by omega) (by omega) (by omega) (by omega) (by omega) (by omega) (by omega) (by omega) (by omega) (by omega) (by omega) (by omega) V_h (by omega) (by omega)) (fun _ V_r R_r => by have := gF_2_3 V_r; have := gF_2_10 V_r; have := gF_2_11 V_r; have := gF_34_1 V_r; have := gF_34_3 V_r; have := gF_49_10 V_r; omega)
  · intro C6
    refine ok_if ?_ ?_
    · intro C7
      exact ok_mV (vj_X10_readCall_222 hn hg (by omega) (by omega) (by omega) (by omega) (by omega) (by omega) (by omega) (by omega) (by omega) (by omega) (by omega) (by omega) V_h (by omega) (by omega)) (fun _ V_r R_r => by have := gF_2_3 V_r; have := gF_2_10 V_r; have := gF_2_11 V_r; have := gF_34_1 V_r; have := gF_34_3 V_r; have := gF_49_10 V_r; omega)
    · intro C7
      refine ok_cP (vf_X2_parametersOf hn (by omega) (by omega) V_h) ?_; intro u22 e_u22 a_u22 b_u22
      have T9 := pr_X2_parametersOf e_u22
      refine ok_if ?_ ?_
      · intro C9
        exact ok_mV (vj_X10_readCall_222 hn hg (by omega) (by omega) (by omega) (by omega) (by omega) (by omega) (by omega) (by omega) (by omega) (by omega) (by omega) (by omega) V_h (by omega) (by omega)) (fun _ V_r R_r => by have := gF_2_3 V_r; have := gF_2_10 V_r; have := gF_2_11 V_r; have := gF_34_1 V_r; have := gF_34_3 V_r; have := gF_49_10 V_r; omega)
      · intro C9
        exact ok_mV (vj_X10_readCall_223 hn hg (by omega) (by omega) (by omega) (by omega) (by omega) (by omega) (by omega) (by omega) (by omega) (by omega) (by omega) (by omega) (by omega) (by omega) V_h (by omega) (by omega)) (fun _ V_r R_r => by have := gF_2_3 V_r; have := gF_2_10 V_r; have := gF_2_11 V_r; have := gF_34_1 V_r; have := gF_34_3 V_r; have := gF_49_10 V_r; omega)
set_option maxRecDepth 4000 in
theorem vj_X10_readCall_128 {nn : Nat} (hn : 1000000 ≤ nn) {g : Int} {rc : tq_X10_readValue} (hg : GH_X10_readValue g rc) {l1 : Int} {l2 : Int} {l3 : Int} {l4 : Int} {l5 : Int} {l7 : Int} {l8 : Int} {h : ms_M} (a_l1 : (-1) ≤ l1) (b_l1 : l1 ≤ 441) (a_l2 : (-1) ≤ l2) (b_l2 : l2 ≤ 95) (a_l3 : 0 ≤ l3) (b_l3 : l3 ≤ 50000002) (a_l4 : 0 ≤ l4) (b_l4 : l4 ≤ 2) (a_l5 : 0 ≤ l5) (b_l5 : l5 ≤ 50000000) (a_l7 : 0 ≤ l7) (b_l7 : l7 ≤ 3000) (a_l8 : 0 ≤ l8) (b_l8 : l8 ≤ 1) (V_h : VS_ h) (x_0 : h 34 1 + h 34 3 ≤ 1400000020) (x_1 : h 2 10 ≤ 45000000)  : Ok_ (qj_X10_readCall_128 nn rc l1 l2 l3 l4 l5 l7 l8 h) (QVR_ (fun r => (r 2 3 = h 2 3) ∧ (h 2 11 = 0 ∨ ¬ r 2 11 = 0) ∧ (h 2 10 ≤ r 2 10) ∧ (r 34 1 + r 34 3 + 12 * r 49 10 + 20 * h 2 10 ≤ h 34 1 + h 34 3 + 12 * h 49 10 + 20 * r 2 10 + (-17)) ∧ (r 2 10 ≤ h 2 10 + 1))) := by
  unfold qj_X10_readCall_128
  have T1 := gF_2_3 V_h
  have T2 := gF_2_10 V_h
  have T3 := gF_2_11 V_h
  have T4 := gF_34_1 V_h
  have T5 := gF_34_3 V_h
  have T6 := gF_49_10 V_h
  refine ok_add (by omega) ?_; intro v28 e_v28
  refine ok_xl ?_; intro h29 E_h29; have V_h29 : VS_ h29 := by rw [E_h29]; exact wF_2_10 V_h (by omega)
  have T7 : h29 2 3 = h 2 3 := by rw [E_h29]; exact up_n (by decide)
  have T8 : h29 2 11 = h 2 11 := by rw [E_h29]; exact up_n (by decide)
  have T9 : h29 34 1 = h 34 1 := by rw [E_h29]; exact up_n (by decide)
  have T10 : h29 34 3 = h 34 3 := by rw [E_h29]; exact up_n (by decide)
  have T11 : h29 49 10 = h 49 10 := by rw [E_h29]; exact up_n (by decide)
  have T12 : h29 2 10 = v28 := by rw [E_h29]; exact up_s
  refine ok_if ?_ ?_
  · intro C12
    refine ok_cP (vf_X2_isFixed hn (by omega) (by omega) V_h29) ?_; intro u34 e_u34 a_u34 b_u34
    refine ok_if ?_ ?_
    · intro C13
      refine ok_if ?_ ?_
      · intro C14
        exact ok_mV (vj_X10_readCall_192 hn hg (by omega) (by omega) (by omega) (by omega) (by omega) (by omega) (by omega) (by omega) (by omega) (by omega) (by omega) (by omega) (by omega) (by omega) (by omega) (by omega) V_h29 (by omega) (by omega)) (fun _ V_r R_r => by have := gF_2_3 V_r; have := gF_2_10 V_r; have := gF_2_11 V_r; have := gF_34_1 V_r; have := gF_34_3 V_r; have := gF_49_10 V_r; omega)
      · intro C14
        exact ok_mV (vj_X10_readCall_192 hn hg (by omega) (by omega) (by omega) (by omega) (by omega) (by omega) (by omega) (by omega) (by omega) (by omega) (by omega) (by omega) (by omega) (by omega) (by omega) (by omega) V_h29 (by omega) (by omega)) (fun _ V_r R_r => by have := gF_2_3 V_r; have := gF_2_10 V_r; have := gF_2_11 V_r; have := gF_34_1 V_r; have := gF_34_3 V_r; have := gF_49_10 V_r; omega)
    · intro C13
      refine ok_if ?_ ?_
      · intro C15
        exact ok_mV (vj_X10_readCall_192 hn hg (by omega) (by omega) (by omega) (by omega) (by omega) (by omega) (by omega) (by omega) (by omega) (by omega) (by omega) (by omega) (by omega) (by omega) (by omega) (by omega) V_h29 (by omega) (by omega)) (fun _ V_r R_r => by have := gF_2_3 V_r; have := gF_2_10 V_r; have := gF_2_11 V_r; have := gF_34_1 V_r; have := gF_34_3 V_r; have := gF_49_10 V_r; omega)
      · intro C15
        exact ok_mV (vj_X10_readCall_192 hn hg (by omega) (by omega) (by omega) (by omega) (by omega) (by omega) (by omega) (by omega) (by omega) (by omega) (by omega) (by omega) (by omega) (by omega) (by omega) (by omega) V_h29 (by omega) (by omega)) (fun _ V_r R_r => by have := gF_2_3 V_r; have := gF_2_10 V_r; have := gF_2_11 V_r; have := gF_34_1 V_r; have := gF_34_3 V_r; have := gF_49_10 V_r; omega)
  · intro C12
    exact ok_rVR V_h29 (by omega)
set_option maxRecDepth 4000 in
theorem vj_X10_readCall_92 {nn : Nat} (hn : 1000000 ≤ nn) {g : Int} {rc : tq_X10_readValue} (hg : GH_X10_readValue g rc) {qkk_22 : Int → Int → Int → Int → Int → Int → Int → Int → Int → ms_M → Option ms_M} {K_kk_22 : Int} (hk_kk_22 : ∀ {l1 : Int} {l2 : Int} {l3 : Int} {l4 : Int} {l5 : Int} {l6 : Int} {l7 : Int} {l8 : Int} {l9 : Int} {h : ms_M} (a_l1 : (-1) ≤ l1) (b_l1 : l1 ≤ 441) (a_l2 : (-1) ≤ l2) (b_l2 : l2 ≤ 95) (a_l3 : 0 ≤ l3) (b_l3 : l3 ≤ 50000002) (a_l4 : 0 ≤ l4) (b_l4 : l4 ≤ 2) (a_l5 : 0 ≤ l5) (b_l5 : l5 ≤ 50000000) (a_l6 : 1 ≤ l6) (b_l6 : l6 ≤ 43) (a_l7 : 0 ≤ l7) (b_l7 : l7 ≤ 3000) (a_l8 : 0 ≤ l8) (b_l8 : l8 ≤ 1) (a_l9 : 0 ≤ l9) (b_l9 : l9 ≤ 3000) (V_h : VS_ h) (x_0 : (9 * (44 - l6) + 3) ≤ (g + 1)) (x_1 : h 2 10 + 20000 * (9 * (44 - l6) + 3) ≤ 40000010 + 3 * l9) (x_2 : h 34 1 + h 34 3 + 12 * h 49 10 + 100 * (9 * (44 - l6) + 3) ≤ 20 * h 2 10 + 100060) (x_3 : l7 = l9) (_ : 3001 - l7 < K_kk_22), Ok_ (qkk_22 l1 l2 l3 l4 l5 l6 l7 l8 l9 h) (QVR_ (fun r => (r 2 3 = h 2 3) ∧ (h 2 11 = 0 ∨ ¬ r 2 11 = 0) ∧ (h 2 10 ≤ r 2 10) ∧ (r 34 1 + r 34 3 + 12 * r 49 10 + 20 * h 2 10 ≤ h 34 1 + h 34 3 + 12 * h 49 10 + 20 * r 2 10 + (-17)) ∧ (((h 2 11 = 0 ∧ h 2 10 < h 2 3) ∧ r 2 10 ≤ 3001 + 20000 * ((9 * (44 - l6) + 3) - 1) + 2 * (3001 - l9) + 5) ∨ (¬ (h 2 11 = 0 ∧ h 2 10 < h 2 3) ∧ h 2 11 = 0 ∧ r 2 10 ≤ h 2 10 + 2 * (3001 - l9) + 5) ∨ (¬ h 2 11 = 0 ∧ r 2 10 ≤ h 2 10 + 2))))) {l1 : Int} {l2 : Int} {l3 : Int} {l4 : Int} {l5 : Int} {l6 : Int} {l7 : Int} {l9 : Int} {s0 : Int} {h : ms_M} (a_l1 : (-1) ≤ l1) (b_l1 : l1 ≤ 441) (a_l2 : (-1) ≤ l2) (b_l2 : l2 ≤ 95) (a_l3 : 0 ≤ l3) (b_l3 : l3 ≤ 50000002) (a_l4 : 0 ≤ l4) (b_l4 : l4 ≤ 2) (a_l5 : 0 ≤ l5) (b_l5 : l5 ≤ 50000000) (a_l6 : 1 ≤ l6) (b_l6 : l6 ≤ 43) (a_l7 : 0 ≤ l7) (b_l7 : l7 ≤ 3000) (a_l9 : 0 ≤ l9) (b_l9 : l9 ≤ 2999) (a_s0 : 0 ≤ s0) (b_s0 : s0 ≤ 1) (V_h : VS_ h) (x_0 : (9 * (44 - l6) + 3) ≤ (g + 1)) (x_1 : h 2 10 + 20000 * (9 * (44 - l6) + 3) ≤ 40000012 + 3 * l9) (x_2 : h 34 1 + h 34 3 + 12 * h 49 10 + 100 * (9 * (44 - l6) + 3) ≤ 20 * h 2 10 + 100060) (x_3 : l7 = l9) (hm_kk_22 : 3001 - l7 + 0 ≤ K_kk_22) : Ok_ (qj_X10_readCall_92 nn rc qkk_22 l1 l2 l3 l4 l5 l6 l7 l9 s0 h) (QVR_ (fun r => (r 2 3 = h 2 3) ∧ (h 2 11 = 0 ∨ ¬ r 2 11 = 0) ∧ (h 2 10 ≤ r 2 10) ∧ (r 34 1 + r 34 3 + 12 * r 49 10 + 20 * h 2 10 ≤ h 34 1 + h 34 3 + 12 * h 49 10 + 20 * r 2 10 + (-17)) ∧ (((h 2 11 = 0 ∧ h 2 10 < h 2 3) ∧ r 2 10 ≤ 3001 + 20000 * ((9 * (44 - l6) + 3) - 1) + 2 * (3001 - l9) + 4) ∨ (¬ (h 2 11 = 0 ∧ h 2 10 < h 2 3) ∧ h 2 11 = 0 ∧ r 2 10 ≤ h 2 10 + 2 * (3000 - l9) + 5) ∨ (¬ h 2 11 = 0 ∧ r 2 10 ≤ h 2 10 + 2)))) := by
  unfold qj_X10_readCall_92
  have T1 := gF_2_3 V_h
  have T2 := gF_2_10 V_h
  have T3 := gF_2_11 V_h
  have T4 := gF_34_1 V_h
  have T5 := gF_34_3 V_h
  have T6 := gF_49_10 V_h
  refine ok_add (by omega) ?_; intro v39 e_v39
  refine ok_cP (vf_X9_kind hn V_h) ?_; intro u42 e_u42 a_u42 b_u42
  have T7 := lm_X9_kind e_u42
  refine ok_if ?_ ?_
  · intro C7
    refine ok_add (by omega) ?_; intro v43 e_v43
    exact ok_mV (hk_kk_22 (by omega) (by omega) (by omega) (by omega) (by omega) (by omega) (by omega) (by omega) (by omega) (by omega) (by omega) (by omega) (by omega) (by omega) (by omega) (by omega) (by omega) (by omega) V_h (by omega) (by omega) (by omega) (by omega) (by omega)) (fun _ V_r R_r => by have := gF_2_3 V_r; have := gF_2_10 V_r; have := gF_2_11 V_r; have := gF_34_1 V_r; have := gF_34_3 V_r; have := gF_49_10 V_r; omega)
  · intro C7
    refine ok_add (by omega) ?_; intro v46 e_v46
    refine ok_xl ?_; intro h47 E_h47; have V_h47 : VS_ h47 := by rw [E_h47]; exact wF_2_10 V_h (by omega)
    have T9 : h47 2 3 = h 2 3 := by rw [E_h47]; exact up_n (by decide)
    have T10 : h47 2 11 = h 2 11 := by rw [E_h47]; exact up_n (by decide)
    have T11 : h47 34 1 = h 34 1 := by rw [E_h47]; exact up_n (by decide)
    have T12 : h47 34 3 = h 34 3 := by rw [E_h47]; exact up_n (by decide)
    have T13 : h47 49 10 = h 49 10 := by rw [E_h47]; exact up_n (by decide)
    have T14 : h47 2 10 = v46 := by rw [E_h47]; exact up_s
    refine ok_add (by omega) ?_; intro v48 e_v48
    exact ok_mV (hk_kk_22 (by omega) (by omega) (by omega) (by omega) (by omega) (by omega) (by omega) (by omega) (by omega) (by omega) (by omega) (by omega) (by omega) (by omega) (by omega) (by omega) (by omega) (by omega) V_h47 (by omega) (by omega) (by omega) (by omega) (by omega)) (fun _ V_r R_r => by have := gF_2_3 V_r; have := gF_2_10 V_r; have := gF_2_11 V_r; have := gF_34_1 V_r; have := gF_34_3 V_r; have := gF_49_10 V_r; omega)
set_option maxRecDepth 4000 in
theorem vj_X10_readCall_91 {nn : Nat} (hn : 1000000 ≤ nn) {g : Int} {rc : tq_X10_readValue} (hg : GH_X10_readValue g rc) {qkk_22 : Int → Int → Int → Int → Int → Int → Int → Int → Int → ms_M → Option ms_M} {K_kk_22 : Int} (hk_kk_22 : ∀ {l1 : Int} {l2 : Int} {l3 : Int} {l4 : Int} {l5 : Int} {l6 : Int} {l7 : Int} {l8 : Int} {l9 : Int} {h : ms_M} (a_l1 : (-1) ≤ l1) (b_l1 : l1 ≤ 441) (a_l2 : (-1) ≤ l2) (b_l2 : l2 ≤ 95) (a_l3 : 0 ≤ l3) (b_l3 : l3 ≤ 50000002) (a_l4 : 0 ≤ l4) (b_l4 : l4 ≤ 2) (a_l5 : 0 ≤ l5) (b_l5 : l5 ≤ 50000000) (a_l6 : 1 ≤ l6) (b_l6 : l6 ≤ 43) (a_l7 : 0 ≤ l7) (b_l7 : l7 ≤ 3000) (a_l8 : 0 ≤ l8) (b_l8 : l8 ≤ 1) (a_l9 : 0 ≤ l9) (b_l9 : l9 ≤ 3000) (V_h : VS_ h) (x_0 : (9 * (44 - l6) + 3) ≤ (g + 1)) (x_1 : h 2 10 + 20000 * (9 * (44 - l6) + 3) ≤ 40000010 + 3 * l9) (x_2 : h 34 1 + h 34 3 + 12 * h 49 10 + 100 * (9 * (44 - l6) + 3) ≤ 20 * h 2 10 + 100060) (x_3 : l7 = l9) (_ : 3001 - l7 < K_kk_22), Ok_ (qkk_22 l1 l2 l3 l4 l5 l6 l7 l8 l9 h) (QVR_ (fun r => (r 2 3 = h 2 3) ∧ (h 2 11 = 0 ∨ ¬ r 2 11 = 0) ∧ (h 2 10 ≤ r 2 10) ∧ (r 34 1 + r 34 3 + 12 * r 49 10 + 20 * h 2 10 ≤ h 34 1 + h 34 3 + 12 * h 49 10 + 20 * r 2 10 + (-17)) ∧ (((h 2 11 = 0 ∧ h 2 10 < h 2 3) ∧ r 2 10 ≤ 3001 + 20000 * ((9 * (44 - l6) + 3) - 1) + 2 * (3001 - l9) + 5) ∨ (¬ (h 2 11 = 0 ∧ h 2 10 < h 2 3) ∧ h 2 11 = 0 ∧ r 2 10 ≤ h 2 10 + 2 * (3001 - l9) + 5) ∨ (¬ h 2 11 = 0 ∧ r 2 10 ≤ h 2 10 + 2))))) {l1 : Int} {l2 : Int} {l3 : Int} {l4 : Int} {l5 : Int} {l6 : Int} {l7 : Int} {l9 : Int} {h : ms_M} (a_l1 : (-1) ≤ l1) (b_l1 : l1 ≤ 441) (a_l2 : (-1) ≤ l2) (b_l2 : l2 ≤ 95) (a_l3 : 0 ≤ l3) (b_l3 : l3 ≤ 50000002) (a_l4 : 0 ≤ l4) (b_l4 : l4 ≤ 2) (a_l5 : 0 ≤ l5) (b_l5 : l5 ≤ 50000000) (a_l6 : 1 ≤ l6) (b_l6 : l6 ≤ 43) (a_l7 : 0 ≤ l7) (b_l7 : l7 ≤ 3000) (a_l9 : 0 ≤ l9) (b_l9 : l9 ≤ 2999) (V_h : VS_ h) (x_0 : (9 * (44 - l6) + 3) ≤ (g + 1)) (x_1 : h 2 10 + 20000 * (9 * (44 - l6) + 3) ≤ 40000012 + 3 * l9) (x_2 : h 34 1 + h 34 3 + 12 * h 49 10 + 100 * (9 * (44 - l6) + 3) ≤ 20 * h 2 10 + 100060) (x_3 : l7 = l9) (hm_kk_22 : 3001 - l7 + 0 ≤ K_kk_22) : Ok_ (qj_X10_readCall_91 nn rc qkk_22 l1 l2 l3 l4 l5 l6 l7 l9 h) (QVR_ (fun r => (r 2 3 = h 2 3) ∧ (h 2 11 = 0 ∨ ¬ r 2 11 = 0) ∧ (h 2 10 ≤ r 2 10) ∧ (r 34 1 + r 34 3 + 12 * r 49 10 + 20 * h 2 10 ≤ h 34 1 + h 34 3 + 12 * h 49 10 + 20 * r 2 10 + (-17)) ∧ (((h 2 11 = 0 ∧ h 2 10 < h 2 3) ∧ r 2 10 ≤ 3001 + 20000 * ((9 * (44 - l6) + 3) - 1) + 2 * (3001 - l9) + 4) ∨ (¬ (h 2 11 = 0 ∧ h 2 10 < h 2 3) ∧ h 2 11 = 0 ∧ r 2 10 ≤ h 2 10 + 2 * (3000 - l9) + 5) ∨ (¬ h 2 11 = 0 ∧ r 2 10 ≤ h 2 10 + 2)))) := by
  unfold qj_X10_readCall_91
  have T1 := gF_2_3 V_h
  have T2 := gF_2_10 V_h
  have T3 := gF_2_11 V_h
  have T4 := gF_34_1 V_h
  have T5 := gF_34_3 V_h
  have T6 := gF_49_10 V_h
  exact ok_mV (vj_X10_readCall_92 hn hg hk_kk_22 (by omega) (by omega) (by omega) (by omega) (by omega) (by omega) (by omega) (by omega) (by omega) (by omega) (by omega) (by omega) (by omega) (by omega) (by omega) (by omega) (by omega) (by omega) V_h (by omega) (by omega) (by omega) (by omega) (by omega)) (fun _ V_r R_r => by have := gF_2_3 V_r; have := gF_2_10 V_r; have := gF_2_11 V_r; have := gF_34_1 V_r; have := gF_34_3 V_r; have := gF_49_10 V_r; omega)
set_option maxRecDepth 4000 in
theorem vw_X10_readCall_22 {nn : Nat} (hn : 1000000 ≤ nn) {g : Int} {rc : tq_X10_readValue} (hg : GH_X10_readValue g rc) : ∀ (k : Nat) {l1 : Int} {l2 : Int} {l3 : Int} {l4 : Int} {l5 : Int} {l6 : Int} {l7 : Int} {l8 : Int} {l9 : Int} {h : ms_M} (a_l1 : (-1) ≤ l1) (b_l1 : l1 ≤ 441) (a_l2 : (-1) ≤ l2) (b_l2 : l2 ≤ 95) (a_l3 : 0 ≤ l3) (b_l3 : l3 ≤ 50000002) (a_l4 : 0 ≤ l4) (b_l4 : l4 ≤ 2) (a_l5 : 0 ≤ l5) (b_l5 : l5 ≤ 50000000) (a_l6 : 1 ≤ l6) (b_l6 : l6 ≤ 43) (a_l7 : 0 ≤ l7) (b_l7 : l7 ≤ 3000) (a_l8 : 0 ≤ l8) (b_l8 : l8 ≤ 1) (a_l9 : 0 ≤ l9) (b_l9 : l9 ≤ 3000) (V_h : VS_ h) (x_0 : (9 * (44 - l6) + 3) ≤ (g + 1)) (x_1 : h 2 10 + 20000 * (9 * (44 - l6) + 3) ≤ 40000010 + 3 * l9) (x_2 : h 34 1 + h 34 3 + 12 * h 49 10 + 100 * (9 * (44 - l6) + 3) ≤ 20 * h 2 10 + 100060) (x_3 : l7 = l9)  (hm : 3001 - l7 < (k : Int)), Ok_ (qw_X10_readCall_22 nn rc k l1 l2 l3 l4 l5 l6 l7 l8 l9 h) (QVR_ (fun r => (r 2 3 = h 2 3) ∧ (h 2 11 = 0 ∨ ¬ r 2 11 = 0) ∧ (h 2 10 ≤ r 2 10) ∧ (r 34 1 + r 34 3 + 12 * r 49 10 + 20 * h 2 10 ≤ h 34 1 + h 34 3 + 12 * h 49 10 + 20 * r 2 10 + (-17)) ∧ (((h 2 11 = 0 ∧ h 2 10 < h 2 3) ∧ r 2 10 ≤ 3001 + 20000 * ((9 * (44 - l6) + 3) - 1) + 2 * (3001 - l9) + 5) ∨ (¬ (h 2 11 = 0 ∧ h 2 10 < h 2 3) ∧ h 2 11 = 0 ∧ r 2 10 ≤ h 2 10 + 2 * (3001 - l9) + 5) ∨ (¬ h 2 11 = 0 ∧ r 2 10 ≤ h 2 10 + 2)))) := by
  intro k
  induction k with
  | zero => intros; exfalso; omega
  | succ k ih =>
    intro l1 l2 l3 l4 l5 l6 l7 l8 l9 h a_l1 b_l1 a_l2 b_l2 a_l3 b_l3 a_l4 b_l4 a_l5 b_l5 a_l6 b_l6 a_l7 b_l7 a_l8 b_l8 a_l9 b_l9 V_h x_0 x_1 x_2 x_3 hm
    unfold qw_X10_readCall_22
    have T1 := gF_2_3 V_h
    have T2 := gF_2_10 V_h
    have T3 := gF_2_11 V_h
    have T4 := gF_34_1 V_h
    have T5 := gF_34_3 V_h
    have T6 := gF_49_10 V_h
    refine ok_if ?_ ?_
    · intro C6
      exact ok_mV (vj_X10_readCall_128 hn hg (by omega) (by omega) (by omega) (by omega) (by omega) (by omega) (by omega) (by omega) (by omega) (by omega) (by omega) (by omega) (by omega) (by omega) V_h (by omega) (by omega)) (fun _ V_r R_r => by have := gF_2_3 V_r; have := gF_2_10 V_r; have := gF_2_11 V_r; have := gF_34_1 V_r; have := gF_34_3 V_r; have := gF_49_10 V_r; omega)
    · intro C6
      refine ok_if ?_ ?_
      · intro C7
        exact ok_mV (vj_X10_readCall_128 hn hg (by omega) (by omega) (by omega) (by omega) (by omega) (by omega) (by omega) (by omega) (by omega) (by omega) (by omega) (by omega) (by omega) (by omega) V_h (by omega) (by omega)) (fun _ V_r R_r => by have := gF_2_3 V_r; have := gF_2_10 V_r; have := gF_2_11 V_r; have := gF_34_1 V_r; have := gF_34_3 V_r; have := gF_49_10 V_r; omega)
      · intro C7
        refine ok_cP (vf_X9_kind hn V_h) ?_; intro u54 e_u54 a_u54 b_u54
        have T9 := lm_X9_kind e_u54
        refine ok_if ?_ ?_
        · intro C9
          exact ok_mV (vj_X10_readCall_128 hn hg (by omega) (by omega) (by omega) (by omega) (by omega) (by omega) (by omega) (by omega) (by omega) (by omega) (by omega) (by omega) (by omega) (by omega) V_h (by omega) (by omega)) (fun _ V_r R_r => by have := gF_2_3 V_r; have := gF_2_10 V_r; have := gF_2_11 V_r; have := gF_34_1 V_r; have := gF_34_3 V_r; have := gF_49_10 V_r; omega)
        · intro C9
          refine ok_cVR (hg.1 (by omega) (by omega) V_h (by omega) (by omega) (by omega)) ?_; intro u56 E_u56 V_u56 R_u56
          have T11 := gF_2_3 V_u56
          have T12 := gF_2_10 V_u56
          have T13 := gF_2_11 V_u56
          have T14 := gF_34_1 V_u56
          have T15 := gF_34_3 V_u56
          have T16 := gF_49_10 V_u56
          refine ok_if ?_ ?_
          · intro C16
            exact ok_mV (vj_X10_readCall_91 hn hg ih (by omega) (by omega) (by omega) (by omega) (by omega) (by omega) (by omega) (by omega) (by omega) (by omega) (by omega) (by omega) (by omega) (by omega) (by omega) (by omega) V_u56 (by omega) (by omega) (by omega) (by omega) (by omega)) (fun _ V_r R_r => by have := gF_2_3 V_r; have := gF_2_10 V_r; have := gF_2_11 V_r; have := gF_34_1 V_r; have := gF_34_3 V_r; have := gF_49_10 V_r; omega)
          · intro C16
            have T18 := gF_49_12 V_u56
            refine ok_cP (vf_X2_parameterType hn (by omega) (by omega) (by omega) (by omega) V_u56) ?_; intro u61 e_u61 a_u61 b_u61
            refine ok_cP (vf_X4_fits hn rfl (by omega) (by omega) (by omega) (by omega) V_u56) ?_; intro u63 e_u63 a_u63 b_u63
            refine ok_if ?_ ?_
            · intro C18
              exact ok_mV (vj_X10_readCall_91 hn hg ih (by omega) (by omega) (by omega) (by omega) (by omega) (by omega) (by omega) (by omega) (by omega) (by omega) (by omega) (by omega) (by omega) (by omega) (by omega) (by omega) V_u56 (by omega) (by omega) (by omega) (by omega) (by omega)) (fun _ V_r R_r => by have := gF_2_3 V_r; have := gF_2_10 V_r; have := gF_2_11 V_r; have := gF_34_1 V_r; have := gF_34_3 V_r; have := gF_49_10 V_r; omega)
            · intro C18
              exact ok_mV (vj_X10_readCall_92 hn hg ih (by omega) (by omega) (by omega) (by omega) (by omega) (by omega) (by omega) (by omega) (by omega) (by omega) (by omega) (by omega) (by omega) (by omega) (by omega) (by omega) (by omega) (by omega) V_u56 (by omega) (by omega) (by omega) (by omega) (by omega)) (fun _ V_r R_r => by have := gF_2_3 V_r; have := gF_2_10 V_r; have := gF_2_11 V_r; have := gF_34_1 V_r; have := gF_34_3 V_r; have := gF_49_10 V_r; omega)
set_option maxRecDepth 4000 in
theorem vo_X10_readCall {nn : Nat} (hn : 1000000 ≤ nn) {g : Int} {rc : tq_X10_readValue} (hg : GH_X10_readValue g rc) {a1 : Int} {a2 : Int} {a3 : Int} {a4 : Int} {a5 : Int} {a6 : Int} {h : ms_M} (a_a1 : (-1) ≤ a1) (b_a1 : a1 ≤ 441) (a_a2 : (-1) ≤ a2) (b_a2 : a2 ≤ 95) (a_a3 : 0 ≤ a3) (b_a3 : a3 ≤ 50000002) (a_a4 : 0 ≤ a4) (b_a4 : a4 ≤ 2) (a_a5 : 0 ≤ a5) (b_a5 : a5 ≤ 50000000) (a_a6 : 1 ≤ a6) (b_a6 : a6 ≤ 43) (V_h : VS_ h) (x_0 : (9 * (44 - a6) + 3) ≤ (g + 1)) (x_1 : h 2 10 + 20000 * (9 * (44 - a6) + 3) ≤ 40000000) (x_2 : h 34 1 + h 34 3 + 12 * h 49 10 + 100 * (9 * (44 - a6) + 3) ≤ 20 * h 2 10 + 100000) (x_3 : (h 2 11 = 0 ∧ h 2 10 < h 2 3) ∨ ¬ h 2 11 = 0)  : Ok_ (qo_X10_readCall nn rc a1 a2 a3 a4 a5 a6 h) (QVR_ (fun r => (r 2 3 = h 2 3) ∧ (h 2 11 = 0 ∨ ¬ r 2 11 = 0) ∧ (h 2 10 ≤ r 2 10) ∧ (r 34 1 + r 34 3 + 12 * r 49 10 + 20 * h 2 10 ≤ h 34 1 + h 34 3 + 12 * h 49 10 + 20 * r 2 10 + (-37)) ∧ (((h 2 11 = 0 ∧ h 2 10 < h 2 3) ∧ r 2 10 ≤ 3001 + 20000 * (9 * (44 - a6) + 3)) ∨ (¬ (h 2 11 = 0 ∧ h 2 10 < h 2 3) ∧ r 2 10 ≤ h 2 10 + 3)))) := by
  unfold qo_X10_readCall
  have T1 := gF_2_3 V_h
  have T2 := gF_2_10 V_h
  have T3 := gF_2_11 V_h
  have T4 := gF_34_1 V_h
  have T5 := gF_34_3 V_h
  have T6 := gF_49_10 V_h
  refine ok_add (by omega) ?_; intro v71 e_v71
  refine ok_xl ?_; intro h72 E_h72; have V_h72 : VS_ h72 := by rw [E_h72]; exact wF_2_10 V_h (by omega)
  have T7 : h72 2 3 = h 2 3 := by rw [E_h72]; exact up_n (by decide)
  have T8 : h72 2 11 = h 2 11 := by rw [E_h72]; exact up_n (by decide)
  have T9 : h72 34 1 = h 34 1 := by rw [E_h72]; exact up_n (by decide)
  have T10 : h72 34 3 = h 34 3 := by rw [E_h72]; exact up_n (by decide)
  have T11 : h72 49 10 = h 49 10 := by rw [E_h72]; exact up_n (by decide)
  have T12 : h72 2 10 = v71 := by rw [E_h72]; exact up_s
  exact ok_mV (vw_X10_readCall_22 hn hg _ (by omega) (by omega) (by omega) (by omega) (by omega) (by omega) (by omega) (by omega) (by omega) (by omega) (by omega) (by omega) (by omega) (by omega) (by omega) (by omega) (by omega) (by omega) V_h72 (by omega) (by omega) (by omega) (by omega) (by omega)) (fun _ V_r R_r => by have := gF_2_3 V_r; have := gF_2_10 V_r; have := gF_2_11 V_r; have := gF_34_1 V_r; have := gF_34_3 V_r; have := gF_49_10 V_r; omega)
set_option maxRecDepth 4000 in
theorem vg_X10_readValue {nn : Nat} (hn : 1000000 ≤ nn) : ∀ g : Nat, GH_X10_readValue (g : Int) (qg_X10_readValue nn g) := by
  intro g
  induction g with
  | zero => exact ⟨by intros; exfalso; omega, by intros; exfalso; omega, by intros; exfalso; omega, by intros; exfalso; omega, by intros; exfalso; omega, by intros; exfalso; omega, by intros; exfalso; omega, by intros; exfalso; omega, by intros; exfalso; omega⟩
  | succ g ih =>
    refine ⟨?_, ?_, ?_, ?_, ?_, ?_, ?_, ?_, ?_⟩
    · intro a1 h a_a1 b_a1 V_h x_0 x_1 x_2; exact vo_X10_readValue hn ih a_a1 b_a1 V_h (by omega) (by omega) (by omega)
    · intro a1 a2 h a_a1 b_a1 a_a2 b_a2 V_h x_0 x_1 x_2 x_3 x_4; exact vo_X10_readChoice hn ih a_a1 b_a1 a_a2 b_a2 V_h (by omega) (by omega) (by omega) (by omega) (by omega)
    · intro a1 h a_a1 b_a1 V_h x_0 x_1 x_2; exact vo_X10_readUnary hn ih a_a1 b_a1 V_h (by omega) (by omega) (by omega)
    · intro a1 h a_a1 b_a1 V_h x_0 x_1 x_2; exact vo_X10_readPrimary hn ih a_a1 b_a1 V_h (by omega) (by omega) (by omega)
    · intro a1 h a_a1 b_a1 V_h x_0 x_1 x_2 x_3; exact vo_X10_readNew hn ih a_a1 b_a1 V_h (by omega) (by omega) (by omega) (by omega)
    · intro a1 h a_a1 b_a1 V_h x_0 x_1 x_2 x_3; exact vo_X10_readElement hn ih a_a1 b_a1 V_h (by omega) (by omega) (by omega) (by omega)
    · intro a1 h a_a1 b_a1 V_h x_0 x_1 x_2 x_3; exact vo_X10_readNamed hn ih a_a1 b_a1 V_h (by omega) (by omega) (by omega) (by omega)
    · intro a1 a2 h a_a1 b_a1 a_a2 b_a2 V_h x_0 x_1 x_2 x_3; exact vo_X10_readBehindPoint hn ih a_a1 b_a1 a_a2 b_a2 V_h (by omega) (by omega) (by omega) (by omega)
    · intro a1 a2 a3 a4 a5 a6 h a_a1 b_a1 a_a2 b_a2 a_a3 b_a3 a_a4 b_a4 a_a5 b_a5 a_a6 b_a6 V_h x_0 x_1 x_2 x_3; exact vo_X10_readCall hn ih a_a1 b_a1 a_a2 b_a2 a_a3 b_a3 a_a4 b_a4 a_a5 b_a5 a_a6 b_a6 V_h (by omega) (by omega) (by omega) (by omega)
theorem vf_X10_readValue {nn : Nat} (hn : 1000000 ≤ nn) {a1 : Int} {h : ms_M} (a_a1 : 1 ≤ a1) (b_a1 : a1 ≤ 43) (V_h : VS_ h) (x_1 : h 2 10 + 20000 * (9 * (44 - a1) + 2) ≤ 40000000) (x_2 : h 34 1 + h 34 3 + 12 * h 49 10 + 100 * (9 * (44 - a1) + 2) ≤ 20 * h 2 10 + 100000) (xg : (9 * (44 - a1) + 2) ≤ 420) : Ok_ (qf_X10_readValue nn a1 h) (QVR_ (fun r => (r 2 3 = h 2 3) ∧ (h 2 11 = 0 ∨ ¬ r 2 11 = 0) ∧ (h 2 10 ≤ r 2 10) ∧ (r 34 1 + r 34 3 + 12 * r 49 10 + 20 * h 2 10 ≤ h 34 1 + h 34 3 + 12 * h 49 10 + 20 * r 2 10 + 0) ∧ (((h 2 11 = 0 ∧ h 2 10 < h 2 3) ∧ r 2 10 ≤ 3001 + 20000 * (9 * (44 - a1) + 2)) ∨ (¬ (h 2 11 = 0 ∧ h 2 10 < h 2 3) ∧ r 2 10 ≤ h 2 10 + 1)))) := by
  unfold qf_X10_readValue
  exact (vg_X10_readValue hn 420).1 a_a1 b_a1 V_h (by omega) (by omega) (by omega)
