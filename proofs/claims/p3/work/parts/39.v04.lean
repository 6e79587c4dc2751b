set_option maxRecDepth 4000 in
theorem vj_X0_readVariable_69 {nn : Nat} (hn : 1000000 ≤ nn) {l2 : Int} {l3 : Int} {h : ms_M} (a_l2 : 0 ≤ l2) (b_l2 : l2 ≤ 441) (a_l3 : 0 ≤ l3) (b_l3 : l3 ≤ 50000000) (V_h : VS_ h) (x_0 : h 34 1 + h 34 3 ≤ 1400000000) (x_1 : h 2 10 ≤ 45000000) (x_2 : h 34 7 ≤ 900000)  : Ok_ (qj_X0_readVariable_69 nn l2 l3 h) (QIR_ 1 1 (fun u r => (h 2 11 = 0 ∨ ¬ r 2 11 = 0) ∧ (h 2 10 ≤ r 2 10) ∧ (r 34 1 + r 34 3 + 12 * r 49 10 + 20 * h 2 10 ≤ h 34 1 + h 34 3 + 12 * h 49 10 + 20 * r 2 10 + (-18)) ∧ (r 2 10 ≤ h 2 10 + 1) ∧ (r 34 7 ≤ h 34 7 + 1))) := by
  unfold qj_X0_readVariable_69
  have T1 := gF_2_3 V_h
  have T2 := gF_2_10 V_h
  have T3 := gF_2_11 V_h
  have T4 := gF_34_1 V_h
  have T5 := gF_34_3 V_h
  have T6 := gF_34_7 V_h
  have T7 := gF_49_10 V_h
  refine ok_cP (vf_X9_valueAt hn (by omega) (by omega) V_h) ?_; intro u5 e_u5 a_u5 b_u5
  refine ok_cIR (vf_X1_addLocal hn (by omega) (by omega) (by omega) (by omega) V_h (by omega)) ?_; intro u7 E_u7 V_u7 a_u7 b_u7 R_u7
  have T8 : u7.2 2 3 = h 2 3 := (ff_X1_addLocal nn) _ E_u7 2 3 rfl
  have T9 : u7.2 2 10 = h 2 10 := (ff_X1_addLocal nn) _ E_u7 2 10 rfl
  have T10 : u7.2 2 11 = h 2 11 := (ff_X1_addLocal nn) _ E_u7 2 11 rfl
  have T11 : u7.2 34 1 = h 34 1 := (ff_X1_addLocal nn) _ E_u7 34 1 rfl
  have T12 : u7.2 34 3 = h 34 3 := (ff_X1_addLocal nn) _ E_u7 34 3 rfl
  have T13 : u7.2 49 10 = h 49 10 := (ff_X1_addLocal nn) _ E_u7 49 10 rfl
  have T14 := gF_34_7 V_u7
  refine ok_cVR (vf_X1_store hn (by omega) (by omega) (by omega) (by omega) V_u7 (by omega)) ?_; intro u9 E_u9 V_u9 R_u9
  have T15 : u9 2 3 = u7.2 2 3 := (ff_X1_store nn) _ E_u9 2 3 rfl
  have T16 : u9 2 10 = u7.2 2 10 := (ff_X1_store nn) _ E_u9 2 10 rfl
  have T17 : u9 2 11 = u7.2 2 11 := (ff_X1_store nn) _ E_u9 2 11 rfl
  have T18 : u9 49 10 = u7.2 49 10 := (ff_X1_store nn) _ E_u9 49 10 rfl
  have T19 : u9 34 7 = u7.2 34 7 := (ff_X1_store nn) _ E_u9 34 7 rfl
  have T20 := gF_34_1 V_u9
  have T21 := gF_34_3 V_u9
  refine ok_add (by omega) ?_; intro v12 e_v12
  refine ok_xl ?_; intro h13 E_h13; have V_h13 : VS_ h13 := by rw [E_h13]; exact wF_2_10 V_u9 (by omega)
  have T22 : h13 2 3 = u9 2 3 := by rw [E_h13]; exact up_n (by decide)
  have T23 : h13 2 11 = u9 2 11 := by rw [E_h13]; exact up_n (by decide)
  have T24 : h13 49 10 = u9 49 10 := by rw [E_h13]; exact up_n (by decide)
  have T25 : h13 34 7 = u9 34 7 := by rw [E_h13]; exact up_n (by decide)
  have T26 : h13 34 1 = u9 34 1 := by rw [E_h13]; exact up_n (by decide)
  have T27 : h13 34 3 = u9 34 3 := by rw [E_h13]; exact up_n (by decide)
  have T28 : h13 2 10 = v12 := by rw [E_h13]; exact up_s
  exact ok_rIR V_h13 (by omega) (by omega) (by omega)
set_option maxRecDepth 4000 in
theorem vf_X0_readVariable {nn : Nat} (hn : 1000000 ≤ nn) {a1 : Int} {h : ms_M} (a_a1 : 1 ≤ a1) (b_a1 : a1 ≤ 43) (V_h : VS_ h) (x_0 : h 34 1 + h 34 3 + 12 * h 49 10 ≤ 20 * h 2 10 + 60100) (x_1 : h 2 10 ≤ 26000000) (x_2 : (h 2 11 = 0 ∧ h 2 10 < h 2 3)) (x_3 : h 34 7 ≤ 900000)  : Ok_ (qf_X0_readVariable nn a1 h) (QIR_ 1 1 (fun u r => (h 2 11 = 0 ∨ ¬ r 2 11 = 0) ∧ (h 2 10 ≤ r 2 10) ∧ (r 34 1 + r 34 3 + 12 * r 49 10 + 20 * h 2 10 ≤ h 34 1 + h 34 3 + 12 * h 49 10 + 20 * r 2 10 + (-58)) ∧ (r 2 10 ≤ 8000000) ∧ (r 34 7 ≤ h 34 7 + 1))) := by
  unfold qf_X0_readVariable
  have T1 := gF_2_3 V_h
  have T2 := gF_2_10 V_h
  have T3 := gF_2_11 V_h
  have T4 := gF_34_1 V_h
  have T5 := gF_34_3 V_h
  have T6 := gF_34_7 V_h
  have T7 := gF_49_10 V_h
  refine ok_cIR (vf_X2_readType hn V_h (by omega)) ?_; intro u16 E_u16 V_u16 a_u16 b_u16 R_u16
  have T8 : u16.2 2 3 = h 2 3 := (ff_X2_readType nn) _ E_u16 2 3 rfl
  have T9 : u16.2 34 1 = h 34 1 := (ff_X2_readType nn) _ E_u16 34 1 rfl
  have T10 : u16.2 34 3 = h 34 3 := (ff_X2_readType nn) _ E_u16 34 3 rfl
  have T11 : u16.2 34 7 = h 34 7 := (ff_X2_readType nn) _ E_u16 34 7 rfl
  have T12 : u16.2 49 10 = h 49 10 := (ff_X2_readType nn) _ E_u16 49 10 rfl
  have T13 := gF_2_10 V_u16
  have T14 := gF_2_11 V_u16
  refine ok_cVR (vf_X0_checkTwice hn (by omega) (by omega) V_u16) ?_; intro u20 E_u20 V_u20 R_u20
  have T15 : u20 2 3 = u16.2 2 3 := (ff_X0_checkTwice nn) _ E_u20 2 3 rfl
  have T16 : u20 34 1 = u16.2 34 1 := (ff_X0_checkTwice nn) _ E_u20 34 1 rfl
  have T17 : u20 34 3 = u16.2 34 3 := (ff_X0_checkTwice nn) _ E_u20 34 3 rfl
  have T18 : u20 34 7 = u16.2 34 7 := (ff_X0_checkTwice nn) _ E_u20 34 7 rfl
  have T19 : u20 49 10 = u16.2 49 10 := (ff_X0_checkTwice nn) _ E_u20 49 10 rfl
  have T20 : u20 2 10 = u16.2 2 10 := (ff_X0_checkTwice nn) _ E_u20 2 10 rfl
  have T21 := gF_2_11 V_u20
  refine ok_add (by omega) ?_; intro v22 e_v22
  refine ok_xl ?_; intro h23 E_h23; have V_h23 : VS_ h23 := by rw [E_h23]; exact wF_2_10 V_u20 (by omega)
  have T22 : h23 2 3 = u20 2 3 := by rw [E_h23]; exact up_n (by decide)
  have T23 : h23 34 1 = u20 34 1 := by rw [E_h23]; exact up_n (by decide)
  have T24 : h23 34 3 = u20 34 3 := by rw [E_h23]; exact up_n (by decide)
  have T25 : h23 34 7 = u20 34 7 := by rw [E_h23]; exact up_n (by decide)
  have T26 : h23 49 10 = u20 49 10 := by rw [E_h23]; exact up_n (by decide)
  have T27 : h23 2 11 = u20 2 11 := by rw [E_h23]; exact up_n (by decide)
  have T28 : h23 2 10 = v22 := by rw [E_h23]; exact up_s
  refine ok_cVR (vf_X10_readWhole hn (by omega) (by omega) V_h23 (by omega) (by omega)) ?_; intro u26 E_u26 V_u26 R_u26
  have T29 : u26 2 3 = h23 2 3 := (ff_X10_readWhole nn) _ E_u26 2 3 rfl
  have T30 : u26 34 7 = h23 34 7 := (ff_X10_readWhole nn) _ E_u26 34 7 rfl
  have T31 := gF_2_10 V_u26
  have T32 := gF_2_11 V_u26
  have T33 := gF_34_1 V_u26
  have T34 := gF_34_3 V_u26
  have T35 := gF_49_10 V_u26
  have T36 := gF_49_12 V_u26
  refine ok_cP (vf_X4_fits hn rfl (by omega) (by omega) (by omega) (by omega) V_u26) ?_; intro u31 e_u31 a_u31 b_u31
  refine ok_if ?_ ?_
  · intro C36
    exact ok_mI (vj_X0_readVariable_69 hn (by omega) (by omega) (by omega) (by omega) V_u26 (by omega) (by omega) (by omega)) (fun _ _ V_r R_r => by have := gF_2_3 V_r; have := gF_2_10 V_r; have := gF_2_11 V_r; have := gF_34_1 V_r; have := gF_34_3 V_r; have := gF_34_7 V_r; have := gF_49_10 V_r; omega)
  · intro C36
    refine ok_add (by omega) ?_; intro v33 e_v33
    refine ok_cVR (vf_X9_tell hn (by omega) (by omega) (by omega) (by omega) V_u26) ?_; intro u35 E_u35 V_u35 R_u35
    have T38 : u35 2 3 = u26 2 3 := (ff_X9_tell nn) _ E_u35 2 3 rfl
    have T39 : u35 34 7 = u26 34 7 := (ff_X9_tell nn) _ E_u35 34 7 rfl
    have T40 : u35 2 10 = u26 2 10 := (ff_X9_tell nn) _ E_u35 2 10 rfl
    have T41 : u35 34 1 = u26 34 1 := (ff_X9_tell nn) _ E_u35 34 1 rfl
    have T42 : u35 34 3 = u26 34 3 := (ff_X9_tell nn) _ E_u35 34 3 rfl
    have T43 : u35 49 10 = u26 49 10 := (ff_X9_tell nn) _ E_u35 49 10 rfl
    have T44 := gF_2_11 V_u35
    exact ok_mI (vj_X0_readVariable_69 hn (by omega) (by omega) (by omega) (by omega) V_u35 (by omega) (by omega) (by omega)) (fun _ _ V_r R_r => by have := gF_2_3 V_r; have := gF_2_10 V_r; have := gF_2_11 V_r; have := gF_34_1 V_r; have := gF_34_3 V_r; have := gF_34_7 V_r; have := gF_49_10 V_r; omega)
set_option maxRecDepth 4000 in
theorem vf_X9_isWhileTrue {nn : Nat} (hn : 1000000 ≤ nn) {h : ms_M} (V_h : VS_ h)  : Ok_ (qf_X9_isWhileTrue nn h) (QP_ 0 1) := by
  unfold qf_X9_isWhileTrue
  have T1 := gF_2_10 V_h
  refine ok_add (by omega) ?_; intro v2 e_v2
  refine ok_cP (vf_X9_kindAt hn (by omega) (by omega) V_h) ?_; intro u4 e_u4 a_u4 b_u4
  have T2 := lm_X9_kindAt e_u4
  refine ok_if ?_ ?_
  · intro C2
    exact ok_rP (by omega) (by omega)
  · intro C2
    refine ok_add (by omega) ?_; intro v6 e_v6
    refine ok_cP (vf_X9_kindAt hn (by omega) (by omega) V_h) ?_; intro u8 e_u8 a_u8 b_u8
    have T4 := lm_X9_kindAt e_u8
    refine ok_if ?_ ?_
    · intro C4
      exact ok_rP (by omega) (by omega)
    · intro C4
      refine ok_add (by omega) ?_; intro v10 e_v10
      refine ok_cP (vf_X9_kindAt hn (by omega) (by omega) V_h) ?_; intro u12 e_u12 a_u12 b_u12
      have T6 := lm_X9_kindAt e_u12
      refine ok_if ?_ ?_
      · intro C6
        exact ok_rP (by omega) (by omega)
      · intro C6
        exact ok_rP (by omega) (by omega)
set_option maxRecDepth 4000 in
theorem vf_X9_beginsVariable {nn : Nat} (hn : 1000000 ≤ nn) {h : ms_M} (V_h : VS_ h)  : Ok_ (qf_X9_beginsVariable nn h) (QP_ 0 1) := by
  unfold qf_X9_beginsVariable
  refine ok_cP (vf_X9_kind hn V_h) ?_; intro u2 e_u2 a_u2 b_u2
  have T1 := lm_X9_kind e_u2
  refine ok_if ?_ ?_
  · intro C1
    have T3 := gF_2_10 V_h
    refine ok_add (by omega) ?_; intro v4 e_v4
    refine ok_cP (vf_X9_kindAt hn (by omega) (by omega) V_h) ?_; intro u6 e_u6 a_u6 b_u6
    have T4 := lm_X9_kindAt e_u6
    refine ok_if ?_ ?_
    · intro C4
      exact ok_rP (by omega) (by omega)
    · intro C4
      refine ok_if ?_ ?_
      · intro C5
        exact ok_rP (by omega) (by omega)
      · intro C5
        refine ok_add (by omega) ?_; intro v8 e_v8
        refine ok_cP (vf_X9_kindAt hn (by omega) (by omega) V_h) ?_; intro u10 e_u10 a_u10 b_u10
        have T7 := lm_X9_kindAt e_u10
        refine ok_if ?_ ?_
        · intro C7
          exact ok_rP (by omega) (by omega)
        · intro C7
          exact ok_rP (by omega) (by omega)
  · intro C1
    refine ok_if ?_ ?_
    · intro C8
      exact ok_rP (by omega) (by omega)
    · intro C8
      refine ok_if ?_ ?_
      · intro C9
        exact ok_rP (by omega) (by omega)
      · intro C9
        exact ok_rP (by omega) (by omega)
set_option maxRecDepth 4000 in
def GH_X0_readBlock (g : Int) (rc : tq_X0_readBlock) : Prop := (∀ {a1 : Int} {h : ms_M} (a_a1 : 0 ≤ a1) (b_a1 : a1 ≤ 43) (V_h : VS_ h) (x_0 : (4 * (44 - a1) + 2) ≤ g) (x_1 : h 2 10 + 20000 * (4 * (44 - a1) + 2) ≤ 25000000) (x_2 : h 34 1 + h 34 3 + 12 * h 49 10 + 100 * (4 * (44 - a1) + 2) ≤ 20 * h 2 10 + 60000) (x_3 : h 34 7 ≤ 4000 * (a1 + 1)), Ok_ (rc.1 a1 h) (QIR_ 0 1 (fun u r => (r 2 3 = h 2 3) ∧ (h 2 11 = 0 ∨ ¬ r 2 11 = 0) ∧ (h 2 10 ≤ r 2 10) ∧ (r 34 1 + r 34 3 + 12 * r 49 10 + 20 * h 2 10 ≤ h 34 1 + h 34 3 + 12 * h 49 10 + 20 * r 2 10 + (-40)) ∧ (((h 2 11 = 0 ∧ h 2 10 < h 2 3) ∧ r 2 10 ≤ 8100000 + 20000 * (4 * (44 - a1) + 2)) ∨ (¬ (h 2 11 = 0 ∧ h 2 10 < h 2 3) ∧ r 2 10 ≤ h 2 10 + 9010)) ∧ (r 34 7 = h 34 7)))) ∧
  (∀ {a1 : Int} {h : ms_M} (a_a1 : 0 ≤ a1) (b_a1 : a1 ≤ 43) (V_h : VS_ h) (x_0 : (4 * (44 - a1) + 2) ≤ g) (x_1 : h 2 10 + 20000 * (4 * (44 - a1) + 2) ≤ 25000000) (x_2 : h 34 1 + h 34 3 + 12 * h 49 10 + 100 * (4 * (44 - a1) + 2) ≤ 20 * h 2 10 + 60000) (x_3 : h 34 7 ≤ 4000 * (a1 + 1)), Ok_ (rc.2.1 a1 h) (QIR_ 0 1 (fun u r => (r 2 3 = h 2 3) ∧ (h 2 11 = 0 ∨ ¬ r 2 11 = 0) ∧ (h 2 10 ≤ r 2 10) ∧ (r 34 1 + r 34 3 + 12 * r 49 10 + 20 * h 2 10 ≤ h 34 1 + h 34 3 + 12 * h 49 10 + 20 * r 2 10 + 0) ∧ (((h 2 11 = 0 ∧ h 2 10 < h 2 3) ∧ r 2 10 ≤ 8100000 + 20000 * (4 * (44 - a1) + 2)) ∨ (¬ (h 2 11 = 0 ∧ h 2 10 < h 2 3) ∧ r 2 10 ≤ h 2 10 + 2)) ∧ (r 34 7 = h 34 7)))) ∧
  (∀ {a1 : Int} {h : ms_M} (a_a1 : 0 ≤ a1) (b_a1 : a1 ≤ 43) (V_h : VS_ h) (x_0 : (4 * (44 - a1) + 1) ≤ g) (x_1 : h 2 10 + 20000 * (4 * (44 - a1) + 1) ≤ 25000000) (x_2 : h 34 1 + h 34 3 + 12 * h 49 10 + 100 * (4 * (44 - a1) + 1) ≤ 20 * h 2 10 + 60000) (x_3 : h 34 7 ≤ 4000 * (a1 + 2) - 500), Ok_ (rc.2.2.1 a1 h) (QIR_ 0 1 (fun u r => (r 2 3 = h 2 3) ∧ (h 2 11 = 0 ∨ ¬ r 2 11 = 0) ∧ (h 2 10 ≤ r 2 10) ∧ (r 34 1 + r 34 3 + 12 * r 49 10 + 20 * h 2 10 ≤ h 34 1 + h 34 3 + 12 * h 49 10 + 20 * r 2 10 + 0) ∧ (((h 2 11 = 0 ∧ h 2 10 < h 2 3) ∧ r 2 10 ≤ 8100000 + 20000 * (4 * (44 - a1) + 1)) ∨ (¬ (h 2 11 = 0 ∧ h 2 10 < h 2 3) ∧ r 2 10 ≤ h 2 10 + 2)) ∧ (r 34 7 ≤ h 34 7 + 1)))) ∧
  (∀ {a1 : Int} {h : ms_M} (a_a1 : 1 ≤ a1) (b_a1 : a1 ≤ 43) (V_h : VS_ h) (x_0 : (4 * (44 - a1) + 3) ≤ g) (x_1 : h 2 10 + 20000 * (4 * (44 - a1) + 3) ≤ 25000000) (x_2 : h 34 1 + h 34 3 + 12 * h 49 10 + 100 * (4 * (44 - a1) + 3) ≤ 20 * h 2 10 + 60000) (x_3 : (h 2 11 = 0 ∧ h 2 10 < h 2 3)) (x_4 : h 34 7 ≤ 4000 * (a1 + 1)), Ok_ (rc.2.2.2.1 a1 h) (QIR_ 0 1 (fun u r => (r 2 3 = h 2 3) ∧ (h 2 11 = 0 ∨ ¬ r 2 11 = 0) ∧ (h 2 10 ≤ r 2 10) ∧ (r 34 1 + r 34 3 + 12 * r 49 10 + 20 * h 2 10 ≤ h 34 1 + h 34 3 + 12 * h 49 10 + 20 * r 2 10 + (-57)) ∧ (r 2 10 ≤ 8100000 + 20000 * (4 * (44 - a1) + 3)) ∧ (r 34 7 = h 34 7)))) ∧
  (∀ {a1 : Int} {h : ms_M} (a_a1 : 1 ≤ a1) (b_a1 : a1 ≤ 43) (V_h : VS_ h) (x_0 : (4 * (44 - a1) + 3) ≤ g) (x_1 : h 2 10 + 20000 * (4 * (44 - a1) + 3) ≤ 25000000) (x_2 : h 34 1 + h 34 3 + 12 * h 49 10 + 100 * (4 * (44 - a1) + 3) ≤ 20 * h 2 10 + 60000) (x_3 : (h 2 11 = 0 ∧ h 2 10 < h 2 3)) (x_4 : h 34 7 ≤ 4000 * (a1 + 1)), Ok_ (rc.2.2.2.2.1 a1 h) (QIR_ 0 1 (fun u r => (r 2 3 = h 2 3) ∧ (h 2 11 = 0 ∨ ¬ r 2 11 = 0) ∧ (h 2 10 ≤ r 2 10) ∧ (r 34 1 + r 34 3 + 12 * r 49 10 + 20 * h 2 10 ≤ h 34 1 + h 34 3 + 12 * h 49 10 + 20 * r 2 10 + (-54)) ∧ (r 2 10 ≤ 8100000 + 20000 * (4 * (44 - a1) + 3)) ∧ (r 34 7 = h 34 7)))) ∧
  (∀ {a1 : Int} {h : ms_M} (a_a1 : 1 ≤ a1) (b_a1 : a1 ≤ 43) (V_h : VS_ h) (x_0 : (4 * (44 - a1) + 3) ≤ g) (x_1 : h 2 10 + 20000 * (4 * (44 - a1) + 3) ≤ 25000000) (x_2 : h 34 1 + h 34 3 + 12 * h 49 10 + 100 * (4 * (44 - a1) + 3) ≤ 20 * h 2 10 + 60000) (x_3 : (h 2 11 = 0 ∧ h 2 10 < h 2 3)) (x_4 : h 34 7 ≤ 4000 * (a1 + 1) - 400), Ok_ (rc.2.2.2.2.2 a1 h) (QIR_ 0 1 (fun u r => (r 2 3 = h 2 3) ∧ (h 2 11 = 0 ∨ ¬ r 2 11 = 0) ∧ (h 2 10 ≤ r 2 10) ∧ (r 34 1 + r 34 3 + 12 * r 49 10 + 20 * h 2 10 ≤ h 34 1 + h 34 3 + 12 * h 49 10 + 20 * r 2 10 + (-193)) ∧ (r 2 10 ≤ 8100000 + 20000 * (4 * (44 - a1) + 3)) ∧ (r 34 7 = h 34 7))))
set_option maxRecDepth 4000 in
theorem vj_X0_readBlock_88 {nn : Nat} (hn : 1000000 ≤ nn) {g : Int} {rc : tq_X0_readBlock} (hg : GH_X0_readBlock g rc) {l2 : Int} {l3 : Int} {h : ms_M} (a_l2 : 0 ≤ l2) (b_l2 : l2 ≤ 1000000) (a_l3 : 0 ≤ l3) (b_l3 : l3 ≤ 1) (V_h : VS_ h) (x_0 : h 34 1 + h 34 3 ≤ 1400000020) (x_1 : h 2 10 ≤ 45000000)  : Ok_ (qj_X0_readBlock_88 nn rc l2 l3 h) (QIR_ 0 1 (fun u r => (r 2 3 = h 2 3) ∧ (h 2 11 = 0 ∨ ¬ r 2 11 = 0) ∧ (h 2 10 ≤ r 2 10) ∧ (r 34 1 + r 34 3 + 12 * r 49 10 + 20 * h 2 10 ≤ h 34 1 + h 34 3 + 12 * h 49 10 + 20 * r 2 10 + (-20)) ∧ (r 2 10 ≤ h 2 10 + 1) ∧ (r 34 7 = l2))) := by
  unfold qj_X0_readBlock_88
  have T1 := gF_2_3 V_h
  have T2 := gF_2_10 V_h
  have T3 := gF_2_11 V_h
  have T4 := gF_34_1 V_h
  have T5 := gF_34_3 V_h
  have T6 := gF_34_7 V_h
  have T7 := gF_49_10 V_h
  refine ok_add (by omega) ?_; intro v3 e_v3
  refine ok_xl ?_; intro h4 E_h4; have V_h4 : VS_ h4 := by rw [E_h4]; exact wF_2_10 V_h (by omega)
  have T8 : h4 2 3 = h 2 3 := by rw [E_h4]; exact up_n (by decide)
  have T9 : h4 2 11 = h 2 11 := by rw [E_h4]; exact up_n (by decide)
  have T10 : h4 34 1 = h 34 1 := by rw [E_h4]; exact up_n (by decide)
  have T11 : h4 34 3 = h 34 3 := by rw [E_h4]; exact up_n (by decide)
  have T12 : h4 34 7 = h 34 7 := by rw [E_h4]; exact up_n (by decide)
  have T13 : h4 49 10 = h 49 10 := by rw [E_h4]; exact up_n (by decide)
  have T14 : h4 2 10 = v3 := by rw [E_h4]; exact up_s
  refine ok_xl ?_; intro h6 E_h6; have V_h6 : VS_ h6 := by rw [E_h6]; exact wF_34_7 V_h4 (by omega)
  have T15 : h6 2 3 = h4 2 3 := by rw [E_h6]; exact up_n (by decide)
  have T16 : h6 2 11 = h4 2 11 := by rw [E_h6]; exact up_n (by decide)
  have T17 : h6 34 1 = h4 34 1 := by rw [E_h6]; exact up_n (by decide)
  have T18 : h6 34 3 = h4 34 3 := by rw [E_h6]; exact up_n (by decide)
  have T19 : h6 49 10 = h4 49 10 := by rw [E_h6]; exact up_n (by decide)
  have T20 : h6 2 10 = h4 2 10 := by rw [E_h6]; exact up_n (by decide)
  have T21 : h6 34 7 = l2 := by rw [E_h6]; exact up_s
  refine ok_ck (by omega) ?_
  exact ok_rIR V_h6 (by omega) (by omega) (by omega)
set_option maxRecDepth 4000 in
theorem vj_X0_readBlock_76 {nn : Nat} (hn : 1000000 ≤ nn) {g : Int} {rc : tq_X0_readBlock} (hg : GH_X0_readBlock g rc) {qkk_26 : Int → Int → Int → Int → ms_M → Option (Int × ms_M)} {K_kk_26 : Int} (hk_kk_26 : ∀ {l1 : Int} {l2 : Int} {l3 : Int} {l4 : Int} {h : ms_M} (a_l1 : 0 ≤ l1) (b_l1 : l1 ≤ 43) (a_l2 : 0 ≤ l2) (b_l2 : l2 ≤ 1000000) (a_l3 : 0 ≤ l3) (b_l3 : l3 ≤ 1) (a_l4 : 0 ≤ l4) (b_l4 : l4 ≤ 3000) (V_h : VS_ h) (x_0 : (4 * (44 - l1) + 2) ≤ (g + 1)) (x_1 : h 2 10 + 20000 * (4 * (44 - l1) + 2) ≤ 25000010 + 3 * l4) (x_2 : h 34 1 + h 34 3 + 12 * h 49 10 + 100 * (4 * (44 - l1) + 2) ≤ 20 * h 2 10 + 60060) (x_3 : h 34 7 ≤ 4000 * (l1 + 1) + l4) (_ : 3001 - l4 < K_kk_26), Ok_ (qkk_26 l1 l2 l3 l4 h) (QIR_ 0 1 (fun u r => (r 2 3 = h 2 3) ∧ (h 2 11 = 0 ∨ ¬ r 2 11 = 0) ∧ (h 2 10 ≤ r 2 10) ∧ (r 34 1 + r 34 3 + 12 * r 49 10 + 20 * h 2 10 ≤ h 34 1 + h 34 3 + 12 * h 49 10 + 20 * r 2 10 + (-20)) ∧ (((h 2 11 = 0 ∧ h 2 10 < h 2 3) ∧ r 2 10 ≤ 8100000 + 20000 * ((4 * (44 - l1) + 2) - 1) + 2 * (3001 - l4) + 5) ∨ (¬ (h 2 11 = 0 ∧ h 2 10 < h 2 3) ∧ h 2 11 = 0 ∧ r 2 10 ≤ h 2 10 + 2 * (3001 - l4) + 5) ∨ (¬ h 2 11 = 0 ∧ r 2 10 ≤ h 2 10 + 2)) ∧ (r 34 7 = l2)))) {l1 : Int} {l2 : Int} {l4 : Int} {h : ms_M} (a_l1 : 0 ≤ l1) (b_l1 : l1 ≤ 43) (a_l2 : 0 ≤ l2) (b_l2 : l2 ≤ 1000000) (a_l4 : 0 ≤ l4) (b_l4 : l4 ≤ 2999) (V_h : VS_ h) (x_0 : (4 * (44 - l1) + 2) ≤ (g + 1)) (x_1 : h 2 10 + 20000 * (4 * (44 - l1) + 2) ≤ 25000010 + 3 * l4) (x_2 : h 34 1 + h 34 3 + 12 * h 49 10 + 100 * (4 * (44 - l1) + 2) ≤ 20 * h 2 10 + 60060) (x_3 : h 34 7 ≤ 4000 * (l1 + 1) + l4) (hm_kk_26 : 3001 - l4 + 0 ≤ K_kk_26) : Ok_ (qj_X0_readBlock_76 nn rc qkk_26 l1 l2 l4 h) (QIR_ 0 1 (fun u r => (r 2 3 = h 2 3) ∧ (h 2 11 = 0 ∨ ¬ r 2 11 = 0) ∧ (h 2 10 ≤ r 2 10) ∧ (r 34 1 + r 34 3 + 12 * r 49 10 + 20 * h 2 10 ≤ h 34 1 + h 34 3 + 12 * h 49 10 + 20 * r 2 10 + (-20)) ∧ (((h 2 11 = 0 ∧ h 2 10 < h 2 3) ∧ r 2 10 ≤ 8100000 + 20000 * ((4 * (44 - l1) + 2) - 1) + 2 * (3001 - l4) + 5) ∨ (¬ (h 2 11 = 0 ∧ h 2 10 < h 2 3) ∧ h 2 11 = 0 ∧ r 2 10 ≤ h 2 10 + 2 * (3001 - l4) + 5) ∨ (¬ h 2 11 = 0 ∧ r 2 10 ≤ h 2 10 + 4)) ∧ (r 34 7 = l2))) := by
  unfold qj_X0_readBlock_76
  have T1 := gF_2_3 V_h
  have T2 := gF_2_10 V_h
  have T3 := gF_2_11 V_h
  have T4 := gF_34_1 V_h
  have T5 := gF_34_3 V_h
  have T6 := gF_34_7 V_h
  have T7 := gF_49_10 V_h
  refine ok_cIR (hg.2.2.1 (by omega) (by omega) V_h (by omega) (by omega) (by omega) (by omega)) ?_; intro u9 E_u9 V_u9 a_u9 b_u9 R_u9
  have T8 := gF_2_3 V_u9
  have T9 := gF_2_10 V_u9
  have T10 := gF_2_11 V_u9
  have T11 := gF_34_1 V_u9
  have T12 := gF_34_3 V_u9
  have T13 := gF_34_7 V_u9
  have T14 := gF_49_10 V_u9
  refine ok_add (by omega) ?_; intro v10 e_v10
  exact ok_mI (hk_kk_26 (by omega) (by omega) (by omega) (by omega) (by omega) (by omega) (by omega) (by omega) V_u9 (by omega) (by omega) (by omega) (by omega) (by omega)) (fun _ _ V_r R_r => by have := gF_2_3 V_r; have := gF_2_10 V_r; have := gF_2_11 V_r; have := gF_34_1 V_r; have := gF_34_3 V_r; have := gF_34_7 V_r; have := gF_49_10 V_r; omega)
set_option maxRecDepth 4000 in
theorem vw_X0_readBlock_26 {nn : Nat} (hn : 1000000 ≤ nn) {g : Int} {rc : tq_X0_readBlock} (hg : GH_X0_readBlock g rc) : ∀ (k : Nat) {l1 : Int} {l2 : Int} {l3 : Int} {l4 : Int} {h : ms_M} (a_l1 : 0 ≤ l1) (b_l1 : l1 ≤ 43) (a_l2 : 0 ≤ l2) (b_l2 : l2 ≤ 1000000) (a_l3 : 0 ≤ l3) (b_l3 : l3 ≤ 1) (a_l4 : 0 ≤ l4) (b_l4 : l4 ≤ 3000) (V_h : VS_ h) (x_0 : (4 * (44 - l1) + 2) ≤ (g + 1)) (x_1 : h 2 10 + 20000 * (4 * (44 - l1) + 2) ≤ 25000010 + 3 * l4) (x_2 : h 34 1 + h 34 3 + 12 * h 49 10 + 100 * (4 * (44 - l1) + 2) ≤ 20 * h 2 10 + 60060) (x_3 : h 34 7 ≤ 4000 * (l1 + 1) + l4)  (hm : 3001 - l4 < (k : Int)), Ok_ (qw_X0_readBlock_26 nn rc k l1 l2 l3 l4 h) (QIR_ 0 1 (fun u r => (r 2 3 = h 2 3) ∧ (h 2 11 = 0 ∨ ¬ r 2 11 = 0) ∧ (h 2 10 ≤ r 2 10) ∧ (r 34 1 + r 34 3 + 12 * r 49 10 + 20 * h 2 10 ≤ h 34 1 + h 34 3 + 12 * h 49 10 + 20 * r 2 10 + (-20)) ∧ (((h 2 11 = 0 ∧ h 2 10 < h 2 3) ∧ r 2 10 ≤ 8100000 + 20000 * ((4 * (44 - l1) + 2) - 1) + 2 * (3001 - l4) + 5) ∨ (¬ (h 2 11 = 0 ∧ h 2 10 < h 2 3) ∧ h 2 11 = 0 ∧ r 2 10 ≤ h 2 10 + 2 * (3001 - l4) + 5) ∨ (¬ h 2 11 = 0 ∧ r 2 10 ≤ h 2 10 + 2)) ∧ (r 34 7 = l2))) := by
  intro k
  induction k with
  | zero => intros; exfalso; omega
  | succ k ih =>
    intro l1 l2 l3 l4 h a_l1 b_l1 a_l2 b_l2 a_l3 b_l3 a_l4 b_l4 V_h x_0 x_1 x_2 x_3 hm
    unfold qw_X0_readBlock_26
    have T1 := gF_2_3 V_h
    have T2 := gF_2_10 V_h
    have T3 := gF_2_11 V_h
    have T4 := gF_34_1 V_h
    have T5 := gF_34_3 V_h
    have T6 := gF_34_7 V_h
    have T7 := gF_49_10 V_h
    refine ok_if ?_ ?_
    · intro C7
      exact ok_mI (vj_X0_readBlock_88 hn hg (by omega) (by omega) (by omega) (by omega) V_h (by omega) (by omega)) (fun _ _ V_r R_r => by have := gF_2_3 V_r; have := gF_2_10 V_r; have := gF_2_11 V_r; have := gF_34_1 V_r; have := gF_34_3 V_r; have := gF_34_7 V_r; have := gF_49_10 V_r; omega)
    · intro C7
      refine ok_if ?_ ?_
      · intro C8
        exact ok_mI (vj_X0_readBlock_88 hn hg (by omega) (by omega) (by omega) (by omega) V_h (by omega) (by omega)) (fun _ _ V_r R_r => by have := gF_2_3 V_r; have := gF_2_10 V_r; have := gF_2_11 V_r; have := gF_34_1 V_r; have := gF_34_3 V_r; have := gF_34_7 V_r; have := gF_49_10 V_r; omega)
      · intro C8
        refine ok_cP (vf_X9_kind hn V_h) ?_; intro u15 e_u15 a_u15 b_u15
        have T10 := lm_X9_kind e_u15
        refine ok_if ?_ ?_
        · intro C10
          exact ok_mI (vj_X0_readBlock_88 hn hg (by omega) (by omega) (by omega) (by omega) V_h (by omega) (by omega)) (fun _ _ V_r R_r => by have := gF_2_3 V_r; have := gF_2_10 V_r; have := gF_2_11 V_r; have := gF_34_1 V_r; have := gF_34_3 V_r; have := gF_34_7 V_r; have := gF_49_10 V_r; omega)
        · intro C10
          refine ok_if ?_ ?_
          · intro C11
            exact ok_mI (vj_X0_readBlock_76 hn hg ih (by omega) (by omega) (by omega) (by omega) (by omega) (by omega) V_h (by omega) (by omega) (by omega) (by omega) (by omega)) (fun _ _ V_r R_r => by have := gF_2_3 V_r; have := gF_2_10 V_r; have := gF_2_11 V_r; have := gF_34_1 V_r; have := gF_34_3 V_r; have := gF_34_7 V_r; have := gF_49_10 V_r; omega)
          · intro C11
            refine ok_cVR (vf_X9_tell hn (by omega) (by omega) (by omega) (by omega) V_h) ?_; intro u20 E_u20 V_u20 R_u20
            have T13 : u20 2 3 = h 2 3 := (ff_X9_tell nn) _ E_u20 2 3 rfl
            have T14 : u20 2 10 = h 2 10 := (ff_X9_tell nn) _ E_u20 2 10 rfl
            have T15 : u20 34 1 = h 34 1 := (ff_X9_tell nn) _ E_u20 34 1 rfl
            have T16 : u20 34 3 = h 34 3 := (ff_X9_tell nn) _ E_u20 34 3 rfl
            have T17 : u20 34 7 = h 34 7 := (ff_X9_tell nn) _ E_u20 34 7 rfl
            have T18 : u20 49 10 = h 49 10 := (ff_X9_tell nn) _ E_u20 49 10 rfl
            have T19 := gF_2_11 V_u20
            exact ok_mI (vj_X0_readBlock_76 hn hg ih (by omega) (by omega) (by omega) (by omega) (by omega) (by omega) V_u20 (by omega) (by omega) (by omega) (by omega) (by omega)) (fun _ _ V_r R_r => by have := gF_2_3 V_r; have := gF_2_10 V_r; have := gF_2_11 V_r; have := gF_34_1 V_r; have := gF_34_3 V_r; have := gF_34_7 V_r; have := gF_49_10 V_r; omega)
set_option maxRecDepth 4000 in
theorem vo_X0_readBlock {nn : Nat} (hn : 1000000 ≤ nn) {g : Int} {rc : tq_X0_readBlock} (hg : GH_X0_readBlock g rc) {a1 : Int} {h : ms_M} (a_a1 : 0 ≤ a1) (b_a1 : a1 ≤ 43) (V_h : VS_ h) (x_0 : (4 * (44 - a1) + 2) ≤ (g + 1)) (x_1 : h 2 10 + 20000 * (4 * (44 - a1) + 2) ≤ 25000000) (x_2 : h 34 1 + h 34 3 + 12 * h 49 10 + 100 * (4 * (44 - a1) + 2) ≤ 20 * h 2 10 + 60000) (x_3 : h 34 7 ≤ 4000 * (a1 + 1))  : Ok_ (qo_X0_readBlock nn rc a1 h) (QIR_ 0 1 (fun u r => (r 2 3 = h 2 3) ∧ (h 2 11 = 0 ∨ ¬ r 2 11 = 0) ∧ (h 2 10 ≤ r 2 10) ∧ (r 34 1 + r 34 3 + 12 * r 49 10 + 20 * h 2 10 ≤ h 34 1 + h 34 3 + 12 * h 49 10 + 20 * r 2 10 + (-40)) ∧ (((h 2 11 = 0 ∧ h 2 10 < h 2 3) ∧ r 2 10 ≤ 8100000 + 20000 * (4 * (44 - a1) + 2)) ∨ (¬ (h 2 11 = 0 ∧ h 2 10 < h 2 3) ∧ r 2 10 ≤ h 2 10 + 9010)) ∧ (r 34 7 = h 34 7))) := by
  unfold qo_X0_readBlock
  have T1 := gF_2_3 V_h
  have T2 := gF_2_10 V_h
  have T3 := gF_2_11 V_h
  have T4 := gF_34_1 V_h
  have T5 := gF_34_3 V_h
  have T6 := gF_34_7 V_h
  have T7 := gF_49_10 V_h
  refine ok_add (by omega) ?_; intro v29 e_v29
  refine ok_xl ?_; intro h30 E_h30; have V_h30 : VS_ h30 := by rw [E_h30]; exact wF_2_10 V_h (by omega)
  have T8 : h30 2 3 = h 2 3 := by rw [E_h30]; exact up_n (by decide)
  have T9 : h30 2 11 = h 2 11 := by rw [E_h30]; exact up_n (by decide)
  have T10 : h30 34 1 = h 34 1 := by rw [E_h30]; exact up_n (by decide)
  have T11 : h30 34 3 = h 34 3 := by rw [E_h30]; exact up_n (by decide)
  have T12 : h30 34 7 = h 34 7 := by rw [E_h30]; exact up_n (by decide)
  have T13 : h30 49 10 = h 49 10 := by rw [E_h30]; exact up_n (by decide)
  have T14 : h30 2 10 = v29 := by rw [E_h30]; exact up_s
  exact ok_mI (vw_X0_readBlock_26 hn hg _ (by omega) (by omega) (by omega) (by omega) (by omega) (by omega) (by omega) (by omega) V_h30 (by omega) (by omega) (by omega) (by omega) (by omega)) (fun _ _ V_r R_r => by have := gF_2_3 V_r; have := gF_2_10 V_r; have := gF_2_11 V_r; have := gF_34_1 V_r; have := gF_34_3 V_r; have := gF_34_7 V_r; have := gF_49_10 V_r; omega)
set_option maxRecDepth 4000 in
theorem vo_X0_readPart {nn : Nat} (hn : 1000000 ≤ nn) {g : Int} {rc : tq_X0_readBlock} (hg : GH_X0_readBlock g rc) {a1 : Int} {h : ms_M} (a_a1 : 0 ≤ a1) (b_a1 : a1 ≤ 43) (V_h : VS_ h) (x_0 : (4 * (44 - a1) + 2) ≤ (g + 1)) (x_1 : h 2 10 + 20000 * (4 * (44 - a1) + 2) ≤ 25000000) (x_2 : h 34 1 + h 34 3 + 12 * h 49 10 + 100 * (4 * (44 - a1) + 2) ≤ 20 * h 2 10 + 60000) (x_3 : h 34 7 ≤ 4000 * (a1 + 1))  : Ok_ (qo_X0_readPart nn rc a1 h) (QIR_ 0 1 (fun u r => (r 2 3 = h 2 3) ∧ (h 2 11 = 0 ∨ ¬ r 2 11 = 0) ∧ (h 2 10 ≤ r 2 10) ∧ (r 34 1 + r 34 3 + 12 * r 49 10 + 20 * h 2 10 ≤ h 34 1 + h 34 3 + 12 * h 49 10 + 20 * r 2 10 + 0) ∧ (((h 2 11 = 0 ∧ h 2 10 < h 2 3) ∧ r 2 10 ≤ 8100000 + 20000 * (4 * (44 - a1) + 2)) ∨ (¬ (h 2 11 = 0 ∧ h 2 10 < h 2 3) ∧ r 2 10 ≤ h 2 10 + 2)) ∧ (r 34 7 = h 34 7))) := by
  unfold qo_X0_readPart
  have T1 := gF_2_3 V_h
  have T2 := gF_2_10 V_h
  have T3 := gF_2_11 V_h
  have T4 := gF_34_1 V_h
  have T5 := gF_34_3 V_h
  have T6 := gF_34_7 V_h
  have T7 := gF_49_10 V_h
  refine ok_cIR (hg.2.2.1 (by omega) (by omega) V_h (by omega) (by omega) (by omega) (by omega)) ?_; intro u4 E_u4 V_u4 a_u4 b_u4 R_u4
  have T8 := gF_2_3 V_u4
  have T9 := gF_2_10 V_u4
  have T10 := gF_2_11 V_u4
  have T11 := gF_34_1 V_u4
  have T12 := gF_34_3 V_u4
  have T13 := gF_34_7 V_u4
  have T14 := gF_49_10 V_u4
  refine ok_xl ?_; intro h6 E_h6; have V_h6 : VS_ h6 := by rw [E_h6]; exact wF_34_7 V_u4 (by omega)
  have T15 : h6 2 3 = u4.2 2 3 := by rw [E_h6]; exact up_n (by decide)
  have T16 : h6 2 10 = u4.2 2 10 := by rw [E_h6]; exact up_n (by decide)
  have T17 : h6 2 11 = u4.2 2 11 := by rw [E_h6]; exact up_n (by decide)
  have T18 : h6 34 1 = u4.2 34 1 := by rw [E_h6]; exact up_n (by decide)
  have T19 : h6 34 3 = u4.2 34 3 := by rw [E_h6]; exact up_n (by decide)
  have T20 : h6 49 10 = u4.2 49 10 := by rw [E_h6]; exact up_n (by decide)
  have T21 : h6 34 7 = (h 34 7) := by rw [E_h6]; exact up_s
  refine ok_ck (by omega) ?_
  exact ok_rIR V_h6 (by omega) (by omega) (by omega)
set_option maxRecDepth 4000 in
theorem vj_X0_readStatement_217 {nn : Nat} (hn : 1000000 ≤ nn) {g : Int} {rc : tq_X0_readBlock} (hg : GH_X0_readBlock g rc) {l1 : Int} {h : ms_M} (a_l1 : 0 ≤ l1) (b_l1 : l1 ≤ 43) (V_h : VS_ h) (x_0 : (4 * (44 - l1) + 1) ≤ (g + 1)) (x_1 : h 2 10 + 20000 * (4 * (44 - l1) + 1) ≤ 25015000) (x_2 : h 34 1 + h 34 3 + 12 * h 49 10 + 100 * (4 * (44 - l1) + 1) ≤ 20 * h 2 10 + 60060) (x_3 : h 34 7 ≤ 4000 * (l1 + 2) - 500) (x_4 : l1 ≤ 42)  : Ok_ (qj_X0_readStatement_217 nn rc l1 h) (QIR_ 0 1 (fun u r => (r 2 3 = h 2 3) ∧ (h 2 11 = 0 ∨ ¬ r 2 11 = 0) ∧ (h 2 10 ≤ r 2 10) ∧ (r 34 1 + r 34 3 + 12 * r 49 10 + 20 * h 2 10 ≤ h 34 1 + h 34 3 + 12 * h 49 10 + 20 * r 2 10 + (-19)) ∧ (((h 2 11 = 0 ∧ h 2 10 < h 2 3) ∧ r 2 10 ≤ 8100000 + 20000 * (4 * (44 - l1) + 1)) ∨ (¬ (h 2 11 = 0 ∧ h 2 10 < h 2 3) ∧ r 2 10 ≤ h 2 10 + 2)) ∧ (r 34 7 ≤ h 34 7 + 1))) := by
  unfold qj_X0_readStatement_217
  have T1 := gF_2_3 V_h
  have T2 := gF_2_10 V_h
  have T3 := gF_2_11 V_h
  have T4 := gF_34_1 V_h
  have T5 := gF_34_3 V_h
  have T6 := gF_34_7 V_h
  have T7 := gF_49_10 V_h
  refine ok_cP (vf_X9_beginsVariable hn V_h) ?_; intro u3 e_u3 a_u3 b_u3
  have T8 := lm_X9_beginsVariable e_u3
  refine ok_if ?_ ?_
  · intro C8
    refine ok_add (by omega) ?_; intro v4 e_v4
    refine ok_cIR (vf_X0_readPlain hn (by omega) (by omega) V_h (by omega) (by omega)) ?_; intro u6 E_u6 V_u6 a_u6 b_u6 R_u6
    have T10 : u6.2 2 3 = h 2 3 := (ff_X0_readPlain nn) _ E_u6 2 3 rfl
    have T11 : u6.2 34 7 = h 34 7 := (ff_X0_readPlain nn) _ E_u6 34 7 rfl
    have T12 := gF_2_10 V_u6
    have T13 := gF_2_11 V_u6
    have T14 := gF_34_1 V_u6
    have T15 := gF_34_3 V_u6
    have T16 := gF_49_10 V_u6
    refine ok_ck (by omega) ?_
    exact ok_rIR V_u6 (by omega) (by omega) (by omega)
  · intro C8
    refine ok_add (by omega) ?_; intro v8 e_v8
    refine ok_cIR (vf_X0_readVariable hn (by omega) (by omega) V_h (by omega) (by omega) (by omega) (by omega)) ?_; intro u10 E_u10 V_u10 a_u10 b_u10 R_u10
    have T17 : u10.2 2 3 = h 2 3 := (ff_X0_readVariable nn) _ E_u10 2 3 rfl
    have T18 := gF_2_10 V_u10
    have T19 := gF_2_11 V_u10
    have T20 := gF_34_1 V_u10
    have T21 := gF_34_3 V_u10
    have T22 := gF_34_7 V_u10
    have T23 := gF_49_10 V_u10
    refine ok_ck (by omega) ?_
    exact ok_rIR V_u10 (by omega) (by omega) (by omega)
set_option maxRecDepth 4000 in
theorem vj_X0_readStatement_188 {nn : Nat} (hn : 1000000 ≤ nn) {g : Int} {rc : tq_X0_readBlock} (hg : GH_X0_readBlock g rc) {h : ms_M} (V_h : VS_ h) (x_0 : h 34 1 + h 34 3 ≤ 1400000037) (x_1 : h 2 10 ≤ 45000005) (x_2 : (h 2 11 = 0 ∧ h 2 10 < h 2 3)) (x_3 : h 34 7 ≤ 900000) (x_4 : h 34 1 + h 34 3 + 12 * h 49 10 ≤ 20 * h 2 10 + 60100)  : Ok_ (qj_X0_readStatement_188 nn rc h) (QIR_ 0 1 (fun u r => (r 2 3 = h 2 3) ∧ (h 2 11 = 0 ∨ ¬ r 2 11 = 0) ∧ (h 2 10 ≤ r 2 10) ∧ (r 34 1 + r 34 3 + 12 * r 49 10 + 20 * h 2 10 ≤ h 34 1 + h 34 3 + 12 * h 49 10 + 20 * r 2 10 + (-37)) ∧ (r 2 10 ≤ 3003) ∧ (r 34 7 ≤ h 34 7 + 1))) := by
  unfold qj_X0_readStatement_188
  have T1 := gF_2_3 V_h
  have T2 := gF_2_10 V_h
  have T3 := gF_2_11 V_h
  have T4 := gF_34_1 V_h
  have T5 := gF_34_3 V_h
  have T6 := gF_34_7 V_h
  have T7 := gF_49_10 V_h
  refine ok_cIR (vf_X0_readLeave hn V_h (by omega) (by omega) (by omega)) ?_; intro u14 E_u14 V_u14 a_u14 b_u14 R_u14
  have T8 : u14.2 2 3 = h 2 3 := (ff_X0_readLeave nn) _ E_u14 2 3 rfl
  have T9 : u14.2 34 7 = h 34 7 := (ff_X0_readLeave nn) _ E_u14 34 7 rfl
  have T10 : u14.2 49 10 = h 49 10 := (ff_X0_readLeave nn) _ E_u14 49 10 rfl
  have T11 := gF_2_10 V_u14
  have T12 := gF_2_11 V_u14
  have T13 := gF_34_1 V_u14
  have T14 := gF_34_3 V_u14
  refine ok_ck (by omega) ?_
  exact ok_rIR V_u14 (by omega) (by omega) (by omega)
set_option maxRecDepth 4000 in
theorem vo_X0_readStatement {nn : Nat} (hn : 1000000 ≤ nn) {g : Int} {rc : tq_X0_readBlock} (hg : GH_X0_readBlock g rc) {a1 : Int} {h : ms_M} (a_a1 : 0 ≤ a1) (b_a1 : a1 ≤ 43) (V_h : VS_ h) (x_0 : (4 * (44 - a1) + 1) ≤ (g + 1)) (x_1 : h 2 10 + 20000 * (4 * (44 - a1) + 1) ≤ 25000000) (x_2 : h 34 1 + h 34 3 + 12 * h 49 10 + 100 * (4 * (44 - a1) + 1) ≤ 20 * h 2 10 + 60000) (x_3 : h 34 7 ≤ 4000 * (a1 + 2) - 500)  : Ok_ (qo_X0_readStatement nn rc a1 h) (QIR_ 0 1 (fun u r => (r 2 3 = h 2 3) ∧ (h 2 11 = 0 ∨ ¬ r 2 11 = 0) ∧ (h 2 10 ≤ r 2 10) ∧ (r 34 1 + r 34 3 + 12 * r 49 10 + 20 * h 2 10 ≤ h 34 1 + h 34 3 + 12 * h 49 10 + 20 * r 2 10 + 0) ∧ (((h 2 11 = 0 ∧ h 2 10 < h 2 3) ∧ r 2 10 ≤ 8100000 + 20000 * (4 * (44 - a1) + 1)) ∨ (¬ (h 2 11 = 0 ∧ h 2 10 < h 2 3) ∧ r 2 10 ≤ h 2 10 + 2)) ∧ (r 34 7 ≤ h 34 7 + 1))) := by
  unfold qo_X0_readStatement
  have T1 := gF_2_3 V_h
  have T2 := gF_2_10 V_h
  have T3 := gF_2_11 V_h
  have T4 := gF_34_1 V_h
  have T5 := gF_34_3 V_h
  have T6 := gF_34_7 V_h
  have T7 := gF_49_10 V_h
  refine ok_if ?_ ?_
  · intro C7
    refine ok_cP (vf_X9_kind hn V_h) ?_; intro u18 e_u18 a_u18 b_u18
    have T9 := lm_X9_kind e_u18
    refine ok_if ?_ ?_
    · intro C9
      exact ok_mI (vj_X0_readStatement_188 hn hg V_h (by omega) (by omega) (by omega) (by omega) (by omega)) (fun _ _ V_r R_r => by have := gF_2_3 V_r; have := gF_2_10 V_r; have := gF_2_11 V_r; have := gF_34_1 V_r; have := gF_34_3 V_r; have := gF_34_7 V_r; have := gF_49_10 V_r; omega)
    · intro C9
      refine ok_if ?_ ?_
      · intro C10
        exact ok_mI (vj_X0_readStatement_188 hn hg V_h (by omega) (by omega) (by omega) (by omega) (by omega)) (fun _ _ V_r R_r => by have := gF_2_3 V_r; have := gF_2_10 V_r; have := gF_2_11 V_r; have := gF_34_1 V_r; have := gF_34_3 V_r; have := gF_34_7 V_r; have := gF_49_10 V_r; omega)
      · intro C10
        refine ok_if ?_ ?_
        · intro C11
          refine ok_add (by omega) ?_; intro v19 e_v19
          refine ok_cIR (hg.2.2.2.1 (by omega) (by omega) V_h (by omega) (by omega) (by omega) (by omega) (by omega)) ?_; intro u21 E_u21 V_u21 a_u21 b_u21 R_u21
          have T13 := gF_2_3 V_u21
          have T14 := gF_2_10 V_u21
          have T15 := gF_2_11 V_u21
          have T16 := gF_34_1 V_u21
          have T17 := gF_34_3 V_u21
          have T18 := gF_34_7 V_u21
          have T19 := gF_49_10 V_u21
          refine ok_ck (by omega) ?_
          exact ok_rIR V_u21 (by omega) (by omega) (by omega)
        · intro C11
          refine ok_if ?_ ?_
          · intro C19
            refine ok_add (by omega) ?_; intro v23 e_v23
            refine ok_cIR (vf_X0_readPrint hn (by omega) (by omega) V_h (by omega) (by omega) (by omega)) ?_; intro u25 E_u25 V_u25 a_u25 b_u25 R_u25
            have T21 : u25.2 2 3 = h 2 3 := (ff_X0_readPrint nn) _ E_u25 2 3 rfl
            have T22 : u25.2 34 7 = h 34 7 := (ff_X0_readPrint nn) _ E_u25 34 7 rfl
            have T23 := gF_2_10 V_u25
            have T24 := gF_2_11 V_u25
            have T25 := gF_34_1 V_u25
            have T26 := gF_34_3 V_u25
            have T27 := gF_49_10 V_u25
            refine ok_ck (by omega) ?_
            exact ok_rIR V_u25 (by omega) (by omega) (by omega)
          · intro C19
            refine ok_if ?_ ?_
            · intro C27
              refine ok_add (by omega) ?_; intro v27 e_v27
              refine ok_cIR (vf_X0_readReturn hn (by omega) (by omega) V_h (by omega) (by omega) (by omega)) ?_; intro u29 E_u29 V_u29 a_u29 b_u29 R_u29
              have T29 : u29.2 2 3 = h 2 3 := (ff_X0_readReturn nn) _ E_u29 2 3 rfl
              have T30 : u29.2 34 7 = h 34 7 := (ff_X0_readReturn nn) _ E_u29 34 7 rfl
              have T31 := gF_2_10 V_u29
              have T32 := gF_2_11 V_u29
              have T33 := gF_34_1 V_u29
              have T34 := gF_34_3 V_u29
              have T35 := gF_49_10 V_u29
              refine ok_ck (by omega) ?_
              exact ok_rIR V_u29 (by omega) (by omega) (by omega)
            · intro C27
              refine ok_if ?_ ?_
              · intro C35
                refine ok_add (by omega) ?_; intro v31 e_v31
                refine ok_cIR (vf_X0_readThrow hn (by omega) (by omega) V_h (by omega) (by omega) (by omega)) ?_; intro u33 E_u33 V_u33 a_u33 b_u33 R_u33
                have T37 : u33.2 2 3 = h 2 3 := (ff_X0_readThrow nn) _ E_u33 2 3 rfl
                have T38 : u33.2 34 7 = h 34 7 := (ff_X0_readThrow nn) _ E_u33 34 7 rfl
                have T39 := gF_2_10 V_u33
                have T40 := gF_2_11 V_u33
                have T41 := gF_34_1 V_u33
                have T42 := gF_34_3 V_u33
                have T43 := gF_49_10 V_u33
                refine ok_ck (by omega) ?_
                exact ok_rIR V_u33 (by omega) (by omega) (by omega)
              · intro C35
                refine ok_if ?_ ?_
                · intro C43
                  refine ok_add (by omega) ?_; intro v35 e_v35
                  refine ok_cIR (hg.2.2.2.2.2 (by omega) (by omega) V_h (by omega) (by omega) (by omega) (by omega) (by omega)) ?_; intro u37 E_u37 V_u37 a_u37 b_u37 R_u37
                  have T45 := gF_2_3 V_u37
                  have T46 := gF_2_10 V_u37
                  have T47 := gF_2_11 V_u37
                  have T48 := gF_34_1 V_u37
                  have T49 := gF_34_3 V_u37
                  have T50 := gF_34_7 V_u37
                  have T51 := gF_49_10 V_u37
                  refine ok_ck (by omega) ?_
                  exact ok_rIR V_u37 (by omega) (by omega) (by omega)
                · intro C43
                  refine ok_if ?_ ?_
                  · intro C51
                    refine ok_add (by omega) ?_; intro v39 e_v39
                    refine ok_cIR (hg.2.2.2.2.1 (by omega) (by omega) V_h (by omega) (by omega) (by omega) (by omega) (by omega)) ?_; intro u41 E_u41 V_u41 a_u41 b_u41 R_u41
                    have T53 := gF_2_3 V_u41
                    have T54 := gF_2_10 V_u41
                    have T55 := gF_2_11 V_u41
                    have T56 := gF_34_1 V_u41
                    have T57 := gF_34_3 V_u41
                    have T58 := gF_34_7 V_u41
                    have T59 := gF_49_10 V_u41
                    refine ok_ck (by omega) ?_
                    exact ok_rIR V_u41 (by omega) (by omega) (by omega)
                  · intro C51
                    refine ok_if ?_ ?_
                    · intro C59
                      refine ok_add (by omega) ?_; intro v43 e_v43
                      refine ok_cIR (hg.1 (by omega) (by omega) V_h (by omega) (by omega) (by omega) (by omega)) ?_; intro u45 E_u45 V_u45 a_u45 b_u45 R_u45
                      have T61 := gF_2_3 V_u45
                      have T62 := gF_2_10 V_u45
                      have T63 := gF_2_11 V_u45
                      have T64 := gF_34_1 V_u45
                      have T65 := gF_34_3 V_u45
                      have T66 := gF_34_7 V_u45
                      have T67 := gF_49_10 V_u45
                      refine ok_ck (by omega) ?_
                      exact ok_rIR V_u45 (by omega) (by omega) (by omega)
                    · intro C59
                      exact ok_mI (vj_X0_readStatement_217 hn hg (by omega) (by omega) V_h (by omega) (by omega) (by omega) (by omega) (by omega)) (fun _ _ V_r R_r => by have := gF_2_3 V_r; have := gF_2_10 V_r; have := gF_2_11 V_r; have := gF_34_1 V_r; have := gF_34_3 V_r; have := gF_34_7 V_r; have := gF_49_10 V_r; omega)
  · intro C7
    exact ok_rIR V_h (by omega) (by omega) (by omega)
set_option maxRecDepth 4000 in
theorem vj_X0_readIf_99 {nn : Nat} (hn : 1000000 ≤ nn) {g : Int} {rc : tq_X0_readBlock} (hg : GH_X0_readBlock g rc) {l3 : Int} {l5 : Int} {h : ms_M} (a_l3 : 0 ≤ l3) (b_l3 : l3 ≤ 1) (a_l5 : 0 ≤ l5) (b_l5 : l5 ≤ 1) (V_h : VS_ h) (x_0 : h 34 1 + h 34 3 ≤ 1400000020) (x_1 : h 2 10 ≤ 45000005)  : Ok_ (qj_X0_readIf_99 nn rc l3 l5 h) (QIR_ 0 1 (fun u r => (r 2 3 = h 2 3) ∧ (h 2 11 = 0 ∨ ¬ r 2 11 = 0) ∧ (h 2 10 ≤ r 2 10) ∧ (r 34 1 + r 34 3 + 12 * r 49 10 + 20 * h 2 10 ≤ h 34 1 + h 34 3 + 12 * h 49 10 + 20 * r 2 10 + 0) ∧ (r 2 10 ≤ h 2 10 + 0) ∧ (r 34 7 = h 34 7))) := by
  unfold qj_X0_readIf_99
  have T1 := gF_2_3 V_h
  have T2 := gF_2_10 V_h
  have T3 := gF_2_11 V_h
  have T4 := gF_34_1 V_h
  have T5 := gF_34_3 V_h
  have T6 := gF_34_7 V_h
  have T7 := gF_49_10 V_h
  refine ok_if ?_ ?_
  · intro C7
    exact ok_rIR V_h (by omega) (by omega) (by omega)
  · intro C7
    refine ok_if ?_ ?_
    · intro C8
      exact ok_rIR V_h (by omega) (by omega) (by omega)
    · intro C8
      exact ok_rIR V_h (by omega) (by omega) (by omega)
set_option maxRecDepth 4000 in
theorem vj_X0_readIf_69 {nn : Nat} (hn : 1000000 ≤ nn) {g : Int} {rc : tq_X0_readBlock} (hg : GH_X0_readBlock g rc) {l1 : Int} {l2 : Int} {l3 : Int} {s0 : Int} {h : ms_M} (a_l1 : 1 ≤ l1) (b_l1 : l1 ≤ 43) (a_l2 : 0 ≤ l2) (b_l2 : l2 ≤ 1600000000) (a_l3 : 0 ≤ l3) (b_l3 : l3 ≤ 1) (a_s0 : (-1) ≤ s0) (b_s0 : s0 ≤ 1600000000) (V_h : VS_ h) (x_0 : (4 * (44 - l1) + 3) ≤ (g + 1)) (x_1 : h 2 10 + 20000 * (4 * (44 - l1) + 3) ≤ 25015000) (x_2 : h 34 1 + h 34 3 + 12 * h 49 10 + 100 * (4 * (44 - l1) + 3) ≤ 20 * h 2 10 + 60060) (x_3 : h 34 7 ≤ 4000 * (l1 + 1))  : Ok_ (qj_X0_readIf_69 nn rc l1 l2 l3 s0 h) (QIR_ 0 1 (fun u r => (r 2 3 = h 2 3) ∧ (h 2 11 = 0 ∨ ¬ r 2 11 = 0) ∧ (h 2 10 ≤ r 2 10) ∧ (r 34 1 + r 34 3 + 12 * r 49 10 + 20 * h 2 10 ≤ h 34 1 + h 34 3 + 12 * h 49 10 + 20 * r 2 10 + 0) ∧ (((h 2 11 = 0 ∧ h 2 10 < h 2 3) ∧ r 2 10 ≤ 8100000 + 20000 * (4 * (44 - l1) + 3)) ∨ (¬ (h 2 11 = 0 ∧ h 2 10 < h 2 3) ∧ r 2 10 ≤ h 2 10 + 6)) ∧ (r 34 7 = h 34 7))) := by
  unfold qj_X0_readIf_69
  have T1 := gF_2_3 V_h
  have T2 := gF_2_10 V_h
  have T3 := gF_2_11 V_h
  have T4 := gF_34_1 V_h
  have T5 := gF_34_3 V_h
  have T6 := gF_34_7 V_h
  have T7 := gF_49_10 V_h
  refine ok_cV (vf_X1_aimHere hn (by omega) (by omega) V_h (by omega)) ?_; intro u5 E_u5 V_u5
  have T8 : u5 2 3 = h 2 3 := (ff_X1_aimHere nn) _ E_u5 2 3 rfl
  have T9 : u5 2 10 = h 2 10 := (ff_X1_aimHere nn) _ E_u5 2 10 rfl
  have T10 : u5 2 11 = h 2 11 := (ff_X1_aimHere nn) _ E_u5 2 11 rfl
  have T11 : u5 34 1 = h 34 1 := (ff_X1_aimHere nn) _ E_u5 34 1 rfl
  have T12 : u5 34 3 = h 34 3 := (ff_X1_aimHere nn) _ E_u5 34 3 rfl
  have T13 : u5 34 7 = h 34 7 := (ff_X1_aimHere nn) _ E_u5 34 7 rfl
  have T14 : u5 49 10 = h 49 10 := (ff_X1_aimHere nn) _ E_u5 49 10 rfl
  refine ok_cIR (hg.2.1 (by omega) (by omega) V_u5 (by omega) (by omega) (by omega) (by omega)) ?_; intro u7 E_u7 V_u7 a_u7 b_u7 R_u7
  have T15 := gF_2_3 V_u7
  have T16 := gF_2_10 V_u7
  have T17 := gF_2_11 V_u7
  have T18 := gF_34_1 V_u7
  have T19 := gF_34_3 V_u7
  have T20 := gF_34_7 V_u7
  have T21 := gF_49_10 V_u7
  refine ok_if ?_ ?_
  · intro C21
    exact ok_mI (vj_X0_readIf_99 hn hg (by omega) (by omega) (by omega) (by omega) V_u7 (by omega) (by omega)) (fun _ _ V_r R_r => by have := gF_2_3 V_r; have := gF_2_10 V_r; have := gF_2_11 V_r; have := gF_34_1 V_r; have := gF_34_3 V_r; have := gF_34_7 V_r; have := gF_49_10 V_r; omega)
  · intro C21
    refine ok_cV (vf_X1_aimHere hn (by omega) (by omega) V_u7 (by omega)) ?_; intro u10 E_u10 V_u10
    have T23 : u10 2 3 = u7.2 2 3 := (ff_X1_aimHere nn) _ E_u10 2 3 rfl
    have T24 : u10 2 10 = u7.2 2 10 := (ff_X1_aimHere nn) _ E_u10 2 10 rfl
    have T25 : u10 2 11 = u7.2 2 11 := (ff_X1_aimHere nn) _ E_u10 2 11 rfl
    have T26 : u10 34 1 = u7.2 34 1 := (ff_X1_aimHere nn) _ E_u10 34 1 rfl
    have T27 : u10 34 3 = u7.2 34 3 := (ff_X1_aimHere nn) _ E_u10 34 3 rfl
    have T28 : u10 34 7 = u7.2 34 7 := (ff_X1_aimHere nn) _ E_u10 34 7 rfl
    have T29 : u10 49 10 = u7.2 49 10 := (ff_X1_aimHere nn) _ E_u10 49 10 rfl
    exact ok_mI (vj_X0_readIf_99 hn hg (by omega) (by omega) (by omega) (by omega) V_u10 (by omega) (by omega)) (fun _ _ V_r R_r => by have := gF_2_3 V_r; have := gF_2_10 V_r; have := gF_2_11 V_r; have := gF_34_1 V_r; have := gF_34_3 V_r; have := gF_34_7 V_r; have := gF_49_10 V_r; omega)
set_option maxRecDepth 4000 in
theorem vo_X0_readIf {nn : Nat} (hn : 1000000 ≤ nn) {g : Int} {rc : tq_X0_readBlock} (hg : GH_X0_readBlock g rc) {a1 : Int} {h : ms_M} (a_a1 : 1 ≤ a1) (b_a1 : a1 ≤ 43) (V_h : VS_ h) (x_0 : (4 * (44 - a1) + 3) ≤ (g + 1)) (x_1 : h 2 10 + 20000 * (4 * (44 - a1) + 3) ≤ 25000000) (x_2 : h 34 1 + h 34 3 + 12 * h 49 10 + 100 * (4 * (44 - a1) + 3) ≤ 20 * h 2 10 + 60000) (x_3 : (h 2 11 = 0 ∧ h 2 10 < h 2 3)) (x_4 : h 34 7 ≤ 4000 * (a1 + 1))  : Ok_ (qo_X0_readIf nn rc a1 h) (QIR_ 0 1 (fun u r => (r 2 3 = h 2 3) ∧ (h 2 11 = 0 ∨ ¬ r 2 11 = 0) ∧ (h 2 10 ≤ r 2 10) ∧ (r 34 1 + r 34 3 + 12 * r 49 10 + 20 * h 2 10 ≤ h 34 1 + h 34 3 + 12 * h 49 10 + 20 * r 2 10 + (-57)) ∧ (r 2 10 ≤ 8100000 + 20000 * (4 * (44 - a1) + 3)) ∧ (r 34 7 = h 34 7))) := by
  unfold qo_X0_readIf
  have T1 := gF_2_3 V_h
  have T2 := gF_2_10 V_h
  have T3 := gF_2_11 V_h
  have T4 := gF_34_1 V_h
  have T5 := gF_34_3 V_h
  have T6 := gF_34_7 V_h
  have T7 := gF_49_10 V_h
  refine ok_cIR (vf_X10_readCondition hn (by omega) (by omega) V_h (by omega) (by omega) (by omega)) ?_; intro u14 E_u14 V_u14 a_u14 b_u14 R_u14
  have T8 : u14.2 2 3 = h 2 3 := (ff_X10_readCondition nn) _ E_u14 2 3 rfl
  have T9 : u14.2 34 7 = h 34 7 := (ff_X10_readCondition nn) _ E_u14 34 7 rfl
  have T10 := gF_2_10 V_u14
  have T11 := gF_2_11 V_u14
  have T12 := gF_34_1 V_u14
  have T13 := gF_34_3 V_u14
  have T14 := gF_49_10 V_u14
  refine ok_cIR (hg.2.1 (by omega) (by omega) V_u14 (by omega) (by omega) (by omega) (by omega)) ?_; intro u16 E_u16 V_u16 a_u16 b_u16 R_u16
  have T15 := gF_2_3 V_u16
  have T16 := gF_2_10 V_u16
  have T17 := gF_2_11 V_u16
  have T18 := gF_34_1 V_u16
  have T19 := gF_34_3 V_u16
  have T20 := gF_34_7 V_u16
  have T21 := gF_49_10 V_u16
  refine ok_cP (vf_X9_kind hn V_u16) ?_; intro u19 e_u19 a_u19 b_u19
  have T22 := lm_X9_kind e_u19
  refine ok_if ?_ ?_
  · intro C22
    refine ok_add (by omega) ?_; intro v22 e_v22
    refine ok_xl ?_; intro h23 E_h23; have V_h23 : VS_ h23 := by rw [E_h23]; exact wF_2_10 V_u16 (by omega)
    have T24 : h23 2 3 = u16.2 2 3 := by rw [E_h23]; exact up_n (by decide)
    have T25 : h23 2 11 = u16.2 2 11 := by rw [E_h23]; exact up_n (by decide)
    have T26 : h23 34 1 = u16.2 34 1 := by rw [E_h23]; exact up_n (by decide)
    have T27 : h23 34 3 = u16.2 34 3 := by rw [E_h23]; exact up_n (by decide)
    have T28 : h23 34 7 = u16.2 34 7 := by rw [E_h23]; exact up_n (by decide)
    have T29 : h23 49 10 = u16.2 49 10 := by rw [E_h23]; exact up_n (by decide)
    have T30 : h23 2 10 = v22 := by rw [E_h23]; exact up_s
    refine ok_if ?_ ?_
    · intro C30
      exact ok_mI (vj_X0_readIf_69 hn hg (by omega) (by omega) (by omega) (by omega) (by omega) (by omega) (by omega) (by omega) V_h23 (by omega) (by omega) (by omega) (by omega)) (fun _ _ V_r R_r => by have := gF_2_3 V_r; have := gF_2_10 V_r; have := gF_2_11 V_r; have := gF_34_1 V_r; have := gF_34_3 V_r; have := gF_34_7 V_r; have := gF_49_10 V_r; omega)
    · intro C30
      refine ok_cIR (vf_X1_jump hn (by omega) (by omega) (by omega) (by omega) V_h23 (by omega)) ?_; intro u26 E_u26 V_u26 a_u26 b_u26 R_u26
      have T32 : u26.2 2 3 = h23 2 3 := (ff_X1_jump nn) _ E_u26 2 3 rfl
      have T33 : u26.2 2 11 = h23 2 11 := (ff_X1_jump nn) _ E_u26 2 11 rfl
      have T34 : u26.2 34 7 = h23 34 7 := (ff_X1_jump nn) _ E_u26 34 7 rfl
      have T35 : u26.2 49 10 = h23 49 10 := (ff_X1_jump nn) _ E_u26 49 10 rfl
      have T36 : u26.2 2 10 = h23 2 10 := (ff_X1_jump nn) _ E_u26 2 10 rfl
      have T37 := gF_34_1 V_u26
      have T38 := gF_34_3 V_u26
      exact ok_mI (vj_X0_readIf_69 hn hg (by omega) (by omega) (by omega) (by omega) (by omega) (by omega) (by omega) (by omega) V_u26 (by omega) (by omega) (by omega) (by omega)) (fun _ _ V_r R_r => by have := gF_2_3 V_r; have := gF_2_10 V_r; have := gF_2_11 V_r; have := gF_34_1 V_r; have := gF_34_3 V_r; have := gF_34_7 V_r; have := gF_49_10 V_r; omega)
  · intro C22
    refine ok_cV (vf_X1_aimHere hn (by omega) (by omega) V_u16 (by omega)) ?_; intro u30 E_u30 V_u30
    have T39 : u30 2 3 = u16.2 2 3 := (ff_X1_aimHere nn) _ E_u30 2 3 rfl
    have T40 : u30 2 10 = u16.2 2 10 := (ff_X1_aimHere nn) _ E_u30 2 10 rfl
    have T41 : u30 2 11 = u16.2 2 11 := (ff_X1_aimHere nn) _ E_u30 2 11 rfl
    have T42 : u30 34 1 = u16.2 34 1 := (ff_X1_aimHere nn) _ E_u30 34 1 rfl
    have T43 : u30 34 3 = u16.2 34 3 := (ff_X1_aimHere nn) _ E_u30 34 3 rfl
    have T44 : u30 34 7 = u16.2 34 7 := (ff_X1_aimHere nn) _ E_u30 34 7 rfl
    have T45 : u30 49 10 = u16.2 49 10 := (ff_X1_aimHere nn) _ E_u30 49 10 rfl
    exact ok_rIR V_u30 (by omega) (by omega) (by omega)
set_option maxRecDepth 4000 in
theorem vj_X0_readWhile_187 {nn : Nat} (hn : 1000000 ≤ nn) {g : Int} {rc : tq_X0_readBlock} (hg : GH_X0_readBlock g rc) {l2 : Int} {l3 : Int} {l4 : Int} {l8 : Int} {h : ms_M} (a_l2 : (-1) ≤ l2) (b_l2 : l2 ≤ 1600000000) (a_l3 : 0 ≤ l3) (b_l3 : l3 ≤ 1000000) (a_l4 : 0 ≤ l4) (b_l4 : l4 ≤ 500) (a_l8 : 0 ≤ l8) (b_l8 : l8 ≤ 1) (V_h : VS_ h) (x_0 : h 34 1 + h 34 3 ≤ 1400000020) (x_1 : h 2 10 ≤ 45000005)  : Ok_ (qj_X0_readWhile_187 nn rc l2 l3 l4 l8 h) (QIR_ 0 1 (fun u r => (r 2 3 = h 2 3) ∧ (h 2 11 = 0 ∨ ¬ r 2 11 = 0) ∧ (h 2 10 ≤ r 2 10) ∧ (r 34 1 + r 34 3 + 12 * r 49 10 + 20 * h 2 10 ≤ h 34 1 + h 34 3 + 12 * h 49 10 + 20 * r 2 10 + 0) ∧ (r 2 10 ≤ h 2 10 + 0) ∧ (r 34 7 = h 34 7))) := by
  unfold qj_X0_readWhile_187
  have T1 := gF_2_3 V_h
  have T2 := gF_2_10 V_h
  have T3 := gF_2_11 V_h
  have T4 := gF_34_1 V_h
  have T5 := gF_34_3 V_h
  have T6 := gF_34_7 V_h
  have T7 := gF_49_10 V_h
  refine ok_xl ?_; intro h1 E_h1; have V_h1 : VS_ h1 := by rw [E_h1]; exact wF_33_12 V_h (by omega)
  have T8 : h1 2 3 = h 2 3 := by rw [E_h1]; exact up_n (by decide)
  have T9 : h1 2 10 = h 2 10 := by rw [E_h1]; exact up_n (by decide)
  have T10 : h1 2 11 = h 2 11 := by rw [E_h1]; exact up_n (by decide)
  have T11 : h1 34 1 = h 34 1 := by rw [E_h1]; exact up_n (by decide)
  have T12 : h1 34 3 = h 34 3 := by rw [E_h1]; exact up_n (by decide)
  have T13 : h1 34 7 = h 34 7 := by rw [E_h1]; exact up_n (by decide)
  have T14 : h1 49 10 = h 49 10 := by rw [E_h1]; exact up_n (by decide)
  refine ok_xl ?_; intro h2 E_h2; have V_h2 : VS_ h2 := by rw [E_h2]; exact wF_33_9 V_h1 (by omega)
  have T15 : h2 2 3 = h1 2 3 := by rw [E_h2]; exact up_n (by decide)
  have T16 : h2 2 10 = h1 2 10 := by rw [E_h2]; exact up_n (by decide)
  have T17 : h2 2 11 = h1 2 11 := by rw [E_h2]; exact up_n (by decide)
  have T18 : h2 34 1 = h1 34 1 := by rw [E_h2]; exact up_n (by decide)
  have T19 : h2 34 3 = h1 34 3 := by rw [E_h2]; exact up_n (by decide)
  have T20 : h2 34 7 = h1 34 7 := by rw [E_h2]; exact up_n (by decide)
  have T21 : h2 49 10 = h1 49 10 := by rw [E_h2]; exact up_n (by decide)
  refine ok_xl ?_; intro h3 E_h3; have V_h3 : VS_ h3 := by rw [E_h3]; exact wF_33_10 V_h2 (by omega)
  have T22 : h3 2 3 = h2 2 3 := by rw [E_h3]; exact up_n (by decide)
  have T23 : h3 2 10 = h2 2 10 := by rw [E_h3]; exact up_n (by decide)
  have T24 : h3 2 11 = h2 2 11 := by rw [E_h3]; exact up_n (by decide)
  have T25 : h3 34 1 = h2 34 1 := by rw [E_h3]; exact up_n (by decide)
  have T26 : h3 34 3 = h2 34 3 := by rw [E_h3]; exact up_n (by decide)
  have T27 : h3 34 7 = h2 34 7 := by rw [E_h3]; exact up_n (by decide)
  have T28 : h3 49 10 = h2 49 10 := by rw [E_h3]; exact up_n (by decide)
  refine ok_ck (by omega) ?_
  exact ok_rIR V_h3 (by omega) (by omega) (by omega)
set_option maxRecDepth 4000 in
theorem vw_X0_readWhile_148 {nn : Nat} (hn : 1000000 ≤ nn) {g : Int} {rc : tq_X0_readBlock} (hg : GH_X0_readBlock g rc) : ∀ (k : Nat) {l2 : Int} {l3 : Int} {l4 : Int} {l8 : Int} {l9 : Int} {h : ms_M} (a_l2 : (-1) ≤ l2) (b_l2 : l2 ≤ 1600000000) (a_l3 : 0 ≤ l3) (b_l3 : l3 ≤ 1000000) (a_l4 : 0 ≤ l4) (b_l4 : l4 ≤ 500) (a_l8 : 0 ≤ l8) (b_l8 : l8 ≤ 1) (a_l9 : 0 ≤ l9) (b_l9 : l9 ≤ 500) (V_h : VS_ h) (x_0 : h 34 1 + h 34 3 ≤ 1400000020) (x_1 : h 2 10 ≤ 45000005)  (hm : 501 - l9 < (k : Int)), Ok_ (qw_X0_readWhile_148 nn rc k l2 l3 l4 l8 l9 h) (QIR_ 0 1 (fun u r => (r 2 3 = h 2 3) ∧ (h 2 11 = 0 ∨ ¬ r 2 11 = 0) ∧ (h 2 10 ≤ r 2 10) ∧ (r 34 1 + r 34 3 + 12 * r 49 10 + 20 * h 2 10 ≤ h 34 1 + h 34 3 + 12 * h 49 10 + 20 * r 2 10 + 0) ∧ (r 2 10 ≤ h 2 10 + 0) ∧ (r 34 7 = h 34 7))) := by
  intro k
  induction k with
  | zero => intros; exfalso; omega
  | succ k ih =>
    intro l2 l3 l4 l8 l9 h a_l2 b_l2 a_l3 b_l3 a_l4 b_l4 a_l8 b_l8 a_l9 b_l9 V_h x_0 x_1 hm
    unfold qw_X0_readWhile_148
    have T1 := gF_2_3 V_h
    have T2 := gF_2_10 V_h
    have T3 := gF_2_11 V_h
    have T4 := gF_34_1 V_h
    have T5 := gF_34_3 V_h
    have T6 := gF_34_7 V_h
    have T7 := gF_49_10 V_h
    have T8 := gF_33_12 V_h
    refine ok_if ?_ ?_
    · intro C8
      exact ok_mI (vj_X0_readWhile_187 hn hg (by omega) (by omega) (by omega) (by omega) (by omega) (by omega) (by omega) (by omega) V_h (by omega) (by omega)) (fun _ _ V_r R_r => by have := gF_2_3 V_r; have := gF_2_10 V_r; have := gF_2_11 V_r; have := gF_34_1 V_r; have := gF_34_3 V_r; have := gF_34_7 V_r; have := gF_49_10 V_r; omega)
    · intro C8
      refine ok_if ?_ ?_
      · intro C9
        exfalso; omega
      · intro C9
        refine ok_rd (by omega) (gA_44 V_h) ?_; intro v10 e_v10 a_v10 b_v10
        refine ok_cV (vf_X1_aimHere hn (by omega) (by omega) V_h (by omega)) ?_; intro u12 E_u12 V_u12
        have T11 : u12 2 3 = h 2 3 := (ff_X1_aimHere nn) _ E_u12 2 3 rfl
        have T12 : u12 2 10 = h 2 10 := (ff_X1_aimHere nn) _ E_u12 2 10 rfl
        have T13 : u12 2 11 = h 2 11 := (ff_X1_aimHere nn) _ E_u12 2 11 rfl
        have T14 : u12 34 1 = h 34 1 := (ff_X1_aimHere nn) _ E_u12 34 1 rfl
        have T15 : u12 34 3 = h 34 3 := (ff_X1_aimHere nn) _ E_u12 34 3 rfl
        have T16 : u12 34 7 = h 34 7 := (ff_X1_aimHere nn) _ E_u12 34 7 rfl
        have T17 : u12 49 10 = h 49 10 := (ff_X1_aimHere nn) _ E_u12 49 10 rfl
        refine ok_add (by omega) ?_; intro v13 e_v13
        exact ok_mI (ih (by omega) (by omega) (by omega) (by omega) (by omega) (by omega) (by omega) (by omega) (by omega) (by omega) V_u12 (by omega) (by omega) (by omega)) (fun _ _ V_r R_r => by have := gF_2_3 V_r; have := gF_2_10 V_r; have := gF_2_11 V_r; have := gF_34_1 V_r; have := gF_34_3 V_r; have := gF_34_7 V_r; have := gF_49_10 V_r; omega)
set_option maxRecDepth 4000 in
theorem vj_X0_readWhile_128 {nn : Nat} (hn : 1000000 ≤ nn) {g : Int} {rc : tq_X0_readBlock} (hg : GH_X0_readBlock g rc) {l2 : Int} {l3 : Int} {l4 : Int} {l5 : Int} {l7 : Int} {s0 : Int} {h : ms_M} (a_l2 : (-1) ≤ l2) (b_l2 : l2 ≤ 1600000000) (a_l3 : 0 ≤ l3) (b_l3 : l3 ≤ 1000000) (a_l4 : 0 ≤ l4) (b_l4 : l4 ≤ 500) (a_l5 : 0 ≤ l5) (b_l5 : l5 ≤ 1) (a_l7 : (-1) ≤ l7) (b_l7 : l7 ≤ 1600000000) (a_s0 : 0 ≤ s0) (b_s0 : s0 ≤ 1) (V_h : VS_ h) (x_0 : h 34 1 + h 34 3 ≤ 1400000020) (x_1 : h 2 10 ≤ 45000005)  : Ok_ (qj_X0_readWhile_128 nn rc l2 l3 l4 l5 l7 s0 h) (QIR_ 0 1 (fun u r => (r 2 3 = h 2 3) ∧ (h 2 11 = 0 ∨ ¬ r 2 11 = 0) ∧ (h 2 10 ≤ r 2 10) ∧ (r 34 1 + r 34 3 + 12 * r 49 10 + 20 * h 2 10 ≤ h 34 1 + h 34 3 + 12 * h 49 10 + 20 * r 2 10 + 0) ∧ (r 2 10 ≤ h 2 10 + 0) ∧ (r 34 7 = h 34 7))) := by
  unfold qj_X0_readWhile_128
  have T1 := gF_2_3 V_h
  have T2 := gF_2_10 V_h
  have T3 := gF_2_11 V_h
  have T4 := gF_34_1 V_h
  have T5 := gF_34_3 V_h
  have T6 := gF_34_7 V_h
  have T7 := gF_49_10 V_h
  refine ok_if ?_ ?_
  · intro C7
    exact ok_mI (vw_X0_readWhile_148 hn hg _ (by omega) (by omega) (by omega) (by omega) (by omega) (by omega) (by omega) (by omega) (by omega) (by omega) V_h (by omega) (by omega) (by omega)) (fun _ _ V_r R_r => by have := gF_2_3 V_r; have := gF_2_10 V_r; have := gF_2_11 V_r; have := gF_34_1 V_r; have := gF_34_3 V_r; have := gF_34_7 V_r; have := gF_49_10 V_r; omega)
  · intro C7
    refine ok_cV (vf_X1_aimHere hn (by omega) (by omega) V_h (by omega)) ?_; intro u18 E_u18 V_u18
    have T9 : u18 2 3 = h 2 3 := (ff_X1_aimHere nn) _ E_u18 2 3 rfl
    have T10 : u18 2 10 = h 2 10 := (ff_X1_aimHere nn) _ E_u18 2 10 rfl
    have T11 : u18 2 11 = h 2 11 := (ff_X1_aimHere nn) _ E_u18 2 11 rfl
    have T12 : u18 34 1 = h 34 1 := (ff_X1_aimHere nn) _ E_u18 34 1 rfl
    have T13 : u18 34 3 = h 34 3 := (ff_X1_aimHere nn) _ E_u18 34 3 rfl
    have T14 : u18 34 7 = h 34 7 := (ff_X1_aimHere nn) _ E_u18 34 7 rfl
    have T15 : u18 49 10 = h 49 10 := (ff_X1_aimHere nn) _ E_u18 49 10 rfl
    exact ok_mI (vw_X0_readWhile_148 hn hg _ (by omega) (by omega) (by omega) (by omega) (by omega) (by omega) (by omega) (by omega) (by omega) (by omega) V_u18 (by omega) (by omega) (by omega)) (fun _ _ V_r R_r => by have := gF_2_3 V_r; have := gF_2_10 V_r; have := gF_2_11 V_r; have := gF_34_1 V_r; have := gF_34_3 V_r; have := gF_34_7 V_r; have := gF_49_10 V_r; omega)
set_option maxRecDepth 4000 in
theorem vj_X0_readWhile_123 {nn : Nat} (hn : 1000000 ≤ nn) {g : Int} {rc : tq_X0_readBlock} (hg : GH_X0_readBlock g rc) {l2 : Int} {l3 : Int} {l4 : Int} {l5 : Int} {l7 : Int} {h : ms_M} (a_l2 : (-1) ≤ l2) (b_l2 : l2 ≤ 1600000000) (a_l3 : 0 ≤ l3) (b_l3 : l3 ≤ 1000000) (a_l4 : 0 ≤ l4) (b_l4 : l4 ≤ 500) (a_l5 : 0 ≤ l5) (b_l5 : l5 ≤ 1) (a_l7 : (-1) ≤ l7) (b_l7 : l7 ≤ 1600000000) (V_h : VS_ h) (x_0 : h 34 1 + h 34 3 ≤ 1400000020) (x_1 : h 2 10 ≤ 45000005)  : Ok_ (qj_X0_readWhile_123 nn rc l2 l3 l4 l5 l7 h) (QIR_ 0 1 (fun u r => (r 2 3 = h 2 3) ∧ (h 2 11 = 0 ∨ ¬ r 2 11 = 0) ∧ (h 2 10 ≤ r 2 10) ∧ (r 34 1 + r 34 3 + 12 * r 49 10 + 20 * h 2 10 ≤ h 34 1 + h 34 3 + 12 * h 49 10 + 20 * r 2 10 + 0) ∧ (r 2 10 ≤ h 2 10 + 0) ∧ (r 34 7 = h 34 7))) := by
  unfold qj_X0_readWhile_123
  have T1 := gF_2_3 V_h
  have T2 := gF_2_10 V_h
  have T3 := gF_2_11 V_h
  have T4 := gF_34_1 V_h
  have T5 := gF_34_3 V_h
  have T6 := gF_34_7 V_h
  have T7 := gF_49_10 V_h
  exact ok_mI (vj_X0_readWhile_128 hn hg (by omega) (by omega) (by omega) (by omega) (by omega) (by omega) (by omega) (by omega) (by omega) (by omega) (by omega) (by omega) V_h (by omega) (by omega)) (fun _ _ V_r R_r => by have := gF_2_3 V_r; have := gF_2_10 V_r; have := gF_2_11 V_r; have := gF_34_1 V_r; have := gF_34_3 V_r; have := gF_34_7 V_r; have := gF_49_10 V_r; omega)
set_option maxRecDepth 4000 in
theorem vj_X0_readWhile_109 {nn : Nat} (hn : 1000000 ≤ nn) {g : Int} {rc : tq_X0_readBlock} (hg : GH_X0_readBlock g rc) {l2 : Int} {l3 : Int} {l4 : Int} {l5 : Int} {l7 : Int} {h : ms_M} (a_l2 : (-1) ≤ l2) (b_l2 : l2 ≤ 1600000000) (a_l3 : 0 ≤ l3) (b_l3 : l3 ≤ 1000000) (a_l4 : 0 ≤ l4) (b_l4 : l4 ≤ 500) (a_l5 : 0 ≤ l5) (b_l5 : l5 ≤ 1) (a_l7 : (-1) ≤ l7) (b_l7 : l7 ≤ 1600000000) (V_h : VS_ h) (x_0 : h 34 1 + h 34 3 ≤ 1400000020) (x_1 : h 2 10 ≤ 45000005)  : Ok_ (qj_X0_readWhile_109 nn rc l2 l3 l4 l5 l7 h) (QIR_ 0 1 (fun u r => (r 2 3 = h 2 3) ∧ (h 2 11 = 0 ∨ ¬ r 2 11 = 0) ∧ (h 2 10 ≤ r 2 10) ∧ (r 34 1 + r 34 3 + 12 * r 49 10 + 20 * h 2 10 ≤ h 34 1 + h 34 3 + 12 * h 49 10 + 20 * r 2 10 + 0) ∧ (r 2 10 ≤ h 2 10 + 0) ∧ (r 34 7 = h 34 7))) := by
  unfold qj_X0_readWhile_109
  have T1 := gF_2_3 V_h
  have T2 := gF_2_10 V_h
  have T3 := gF_2_11 V_h
  have T4 := gF_34_1 V_h
  have T5 := gF_34_3 V_h
  have T6 := gF_34_7 V_h
  have T7 := gF_49_10 V_h
  refine ok_if ?_ ?_
  · intro C7
    exact ok_mI (vj_X0_readWhile_123 hn hg (by omega) (by omega) (by omega) (by omega) (by omega) (by omega) (by omega) (by omega) (by omega) (by omega) V_h (by omega) (by omega)) (fun _ _ V_r R_r => by have := gF_2_3 V_r; have := gF_2_10 V_r; have := gF_2_11 V_r; have := gF_34_1 V_r; have := gF_34_3 V_r; have := gF_34_7 V_r; have := gF_49_10 V_r; omega)
  · intro C7
    have T9 := gF_33_12 V_h
    refine ok_if ?_ ?_
    · intro C9
      exact ok_mI (vj_X0_readWhile_128 hn hg (by omega) (by omega) (by omega) (by omega) (by omega) (by omega) (by omega) (by omega) (by omega) (by omega) (by omega) (by omega) V_h (by omega) (by omega)) (fun _ _ V_r R_r => by have := gF_2_3 V_r; have := gF_2_10 V_r; have := gF_2_11 V_r; have := gF_34_1 V_r; have := gF_34_3 V_r; have := gF_34_7 V_r; have := gF_49_10 V_r; omega)
    · intro C9
      exact ok_mI (vj_X0_readWhile_123 hn hg (by omega) (by omega) (by omega) (by omega) (by omega) (by omega) (by omega) (by omega) (by omega) (by omega) V_h (by omega) (by omega)) (fun _ _ V_r R_r => by have := gF_2_3 V_r; have := gF_2_10 V_r; have := gF_2_11 V_r; have := gF_34_1 V_r; have := gF_34_3 V_r; have := gF_34_7 V_r; have := gF_49_10 V_r; omega)
set_option maxRecDepth 4000 in
theorem vj_X0_readWhile_68 {nn : Nat} (hn : 1000000 ≤ nn) {g : Int} {rc : tq_X0_readBlock} (hg : GH_X0_readBlock g rc) {l1 : Int} {l2 : Int} {l3 : Int} {l4 : Int} {l5 : Int} {l6 : Int} {l7 : Int} {h : ms_M} (a_l1 : 1 ≤ l1) (b_l1 : l1 ≤ 43) (a_l2 : (-1) ≤ l2) (b_l2 : l2 ≤ 1600000000) (a_l3 : 0 ≤ l3) (b_l3 : l3 ≤ 1000000) (a_l4 : 0 ≤ l4) (b_l4 : l4 ≤ 500) (a_l5 : 0 ≤ l5) (b_l5 : l5 ≤ 1) (a_l6 : 0 ≤ l6) (b_l6 : l6 ≤ 1600000000) (a_l7 : (-1) ≤ l7) (b_l7 : l7 ≤ 1600000000) (V_h : VS_ h) (x_0 : (4 * (44 - l1) + 3) ≤ (g + 1)) (x_1 : h 2 10 + 20000 * (4 * (44 - l1) + 3) ≤ 25015000) (x_2 : h 34 1 + h 34 3 + 12 * h 49 10 + 100 * (4 * (44 - l1) + 3) ≤ 20 * h 2 10 + 60060) (x_3 : h 34 7 ≤ 4000 * (l1 + 1))  : Ok_ (qj_X0_readWhile_68 nn rc l1 l2 l3 l4 l5 l6 l7 h) (QIR_ 0 1 (fun u r => (r 2 3 = h 2 3) ∧ (h 2 11 = 0 ∨ ¬ r 2 11 = 0) ∧ (h 2 10 ≤ r 2 10) ∧ (r 34 1 + r 34 3 + 12 * r 49 10 + 20 * h 2 10 ≤ h 34 1 + h 34 3 + 12 * h 49 10 + 20 * r 2 10 + 3) ∧ (((h 2 11 = 0 ∧ h 2 10 < h 2 3) ∧ r 2 10 ≤ 8100000 + 20000 * (4 * (44 - l1) + 3)) ∨ (¬ (h 2 11 = 0 ∧ h 2 10 < h 2 3) ∧ r 2 10 ≤ h 2 10 + 6)) ∧ (r 34 7 = h 34 7))) := by
  unfold qj_X0_readWhile_68
  have T1 := gF_2_3 V_h
  have T2 := gF_2_10 V_h
  have T3 := gF_2_11 V_h
  have T4 := gF_34_1 V_h
  have T5 := gF_34_3 V_h
  have T6 := gF_34_7 V_h
  have T7 := gF_49_10 V_h
  refine ok_xl ?_; intro h23 E_h23; have V_h23 : VS_ h23 := by rw [E_h23]; exact wF_33_9 V_h (by omega)
  have T8 : h23 2 3 = h 2 3 := by rw [E_h23]; exact up_n (by decide)
  have T9 : h23 2 10 = h 2 10 := by rw [E_h23]; exact up_n (by decide)
  have T10 : h23 2 11 = h 2 11 := by rw [E_h23]; exact up_n (by decide)
  have T11 : h23 34 1 = h 34 1 := by rw [E_h23]; exact up_n (by decide)
  have T12 : h23 34 3 = h 34 3 := by rw [E_h23]; exact up_n (by decide)
  have T13 : h23 34 7 = h 34 7 := by rw [E_h23]; exact up_n (by decide)
  have T14 : h23 49 10 = h 49 10 := by rw [E_h23]; exact up_n (by decide)
  refine ok_xl ?_; intro h26 E_h26; have V_h26 : VS_ h26 := by rw [E_h26]; exact wF_33_10 V_h23 (by omega)
  have T15 : h26 2 3 = h23 2 3 := by rw [E_h26]; exact up_n (by decide)
  have T16 : h26 2 10 = h23 2 10 := by rw [E_h26]; exact up_n (by decide)
  have T17 : h26 2 11 = h23 2 11 := by rw [E_h26]; exact up_n (by decide)
  have T18 : h26 34 1 = h23 34 1 := by rw [E_h26]; exact up_n (by decide)
  have T19 : h26 34 3 = h23 34 3 := by rw [E_h26]; exact up_n (by decide)
  have T20 : h26 34 7 = h23 34 7 := by rw [E_h26]; exact up_n (by decide)
  have T21 : h26 49 10 = h23 49 10 := by rw [E_h26]; exact up_n (by decide)
  refine ok_cIR (hg.2.1 (by omega) (by omega) V_h26 (by omega) (by omega) (by omega) (by omega)) ?_; intro u28 E_u28 V_u28 a_u28 b_u28 R_u28
  have T22 := gF_2_3 V_u28
  have T23 := gF_2_10 V_u28
  have T24 := gF_2_11 V_u28
  have T25 := gF_34_1 V_u28
  have T26 := gF_34_3 V_u28
  have T27 := gF_34_7 V_u28
  have T28 := gF_49_10 V_u28
  refine ok_if ?_ ?_
  · intro C28
    exact ok_mI (vj_X0_readWhile_109 hn hg (by omega) (by omega) (by omega) (by omega) (by omega) (by omega) (by omega) (by omega) (by omega) (by omega) V_u28 (by omega) (by omega)) (fun _ _ V_r R_r => by have := gF_2_3 V_r; have := gF_2_10 V_r; have := gF_2_11 V_r; have := gF_34_1 V_r; have := gF_34_3 V_r; have := gF_34_7 V_r; have := gF_49_10 V_r; omega)
  · intro C28
    refine ok_cVR (vf_X1_jumpBack hn (by omega) (by omega) (by omega) (by omega) V_u28 (by omega)) ?_; intro u33 E_u33 V_u33 R_u33
    have T30 : u33 2 3 = u28.2 2 3 := (ff_X1_jumpBack nn) _ E_u33 2 3 rfl
    have T31 : u33 2 10 = u28.2 2 10 := (ff_X1_jumpBack nn) _ E_u33 2 10 rfl
    have T32 : u33 2 11 = u28.2 2 11 := (ff_X1_jumpBack nn) _ E_u33 2 11 rfl
    have T33 : u33 34 7 = u28.2 34 7 := (ff_X1_jumpBack nn) _ E_u33 34 7 rfl
    have T34 : u33 49 10 = u28.2 49 10 := (ff_X1_jumpBack nn) _ E_u33 49 10 rfl
    have T35 := gF_34_1 V_u33
    have T36 := gF_34_3 V_u33
    exact ok_mI (vj_X0_readWhile_109 hn hg (by omega) (by omega) (by omega) (by omega) (by omega) (by omega) (by omega) (by omega) (by omega) (by omega) V_u33 (by omega) (by omega)) (fun _ _ V_r R_r => by have := gF_2_3 V_r; have := gF_2_10 V_r; have := gF_2_11 V_r; have := gF_34_1 V_r; have := gF_34_3 V_r; have := gF_34_7 V_r; have := gF_49_10 V_r; omega)
set_option maxRecDepth 4000 in
theorem vo_X0_readWhile {nn : Nat} (hn : 1000000 ≤ nn) {g : Int} {rc : tq_X0_readBlock} (hg : GH_X0_readBlock g rc) {a1 : Int} {h : ms_M} (a_a1 : 1 ≤ a1) (b_a1 : a1 ≤ 43) (V_h : VS_ h) (x_0 : (4 * (44 - a1) + 3) ≤ (g + 1)) (x_1 : h 2 10 + 20000 * (4 * (44 - a1) + 3) ≤ 25000000) (x_2 : h 34 1 + h 34 3 + 12 * h 49 10 + 100 * (4 * (44 - a1) + 3) ≤ 20 * h 2 10 + 60000) (x_3 : (h 2 11 = 0 ∧ h 2 10 < h 2 3)) (x_4 : h 34 7 ≤ 4000 * (a1 + 1))  : Ok_ (qo_X0_readWhile nn rc a1 h) (QIR_ 0 1 (fun u r => (r 2 3 = h 2 3) ∧ (h 2 11 = 0 ∨ ¬ r 2 11 = 0) ∧ (h 2 10 ≤ r 2 10) ∧ (r 34 1 + r 34 3 + 12 * r 49 10 + 20 * h 2 10 ≤ h 34 1 + h 34 3 + 12 * h 49 10 + 20 * r 2 10 + (-54)) ∧ (r 2 10 ≤ 8100000 + 20000 * (4 * (44 - a1) + 3)) ∧ (r 34 7 = h 34 7))) := by
  unfold qo_X0_readWhile
  have T1 := gF_2_3 V_h
  have T2 := gF_2_10 V_h
  have T3 := gF_2_11 V_h
  have T4 := gF_34_1 V_h
  have T5 := gF_34_3 V_h
  have T6 := gF_34_7 V_h
  have T7 := gF_49_10 V_h
  have T8 := gF_33_9 V_h
  have T9 := gF_33_10 V_h
  have T10 := gF_33_12 V_h
  refine ok_cP (vf_X9_isWhileTrue hn V_h) ?_; intro u40 e_u40 a_u40 b_u40
  refine ok_if ?_ ?_
  · intro C10
    refine ok_cIR (vf_X10_readCondition hn (by omega) (by omega) V_h (by omega) (by omega) (by omega)) ?_; intro u45 E_u45 V_u45 a_u45 b_u45 R_u45
    have T12 : u45.2 2 3 = h 2 3 := (ff_X10_readCondition nn) _ E_u45 2 3 rfl
    have T13 : u45.2 34 7 = h 34 7 := (ff_X10_readCondition nn) _ E_u45 34 7 rfl
    have T14 := gF_2_10 V_u45
    have T15 := gF_2_11 V_u45
    have T16 := gF_34_1 V_u45
    have T17 := gF_34_3 V_u45
    have T18 := gF_49_10 V_u45
    exact ok_mI (vj_X0_readWhile_68 hn hg (by omega) (by omega) (by omega) (by omega) (by omega) (by omega) (by omega) (by omega) (by omega) (by omega) (by omega) (by omega) (by omega) (by omega) V_u45 (by omega) (by omega) (by omega) (by omega)) (fun _ _ V_r R_r => by have := gF_2_3 V_r; have := gF_2_10 V_r; have := gF_2_11 V_r; have := gF_34_1 V_r; have := gF_34_3 V_r; have := gF_34_7 V_r; have := gF_49_10 V_r; omega)
  · intro C10
    refine ok_add (by omega) ?_; intro v48 e_v48
    refine ok_xl ?_; intro h49 E_h49; have V_h49 : VS_ h49 := by rw [E_h49]; exact wF_2_10 V_h (by omega)
    have T19 : h49 2 3 = h 2 3 := by rw [E_h49]; exact up_n (by decide)
    have T20 : h49 2 11 = h 2 11 := by rw [E_h49]; exact up_n (by decide)
    have T21 : h49 34 1 = h 34 1 := by rw [E_h49]; exact up_n (by decide)
    have T22 : h49 34 3 = h 34 3 := by rw [E_h49]; exact up_n (by decide)
    have T23 : h49 34 7 = h 34 7 := by rw [E_h49]; exact up_n (by decide)
    have T24 : h49 49 10 = h 49 10 := by rw [E_h49]; exact up_n (by decide)
    have T25 : h49 2 10 = v48 := by rw [E_h49]; exact up_s
    exact ok_mI (vj_X0_readWhile_68 hn hg (by omega) (by omega) (by omega) (by omega) (by omega) (by omega) (by omega) (by omega) (by omega) (by omega) (by omega) (by omega) (by omega) (by omega) V_h49 (by omega) (by omega) (by omega) (by omega)) (fun _ _ V_r R_r => by have := gF_2_3 V_r; have := gF_2_10 V_r; have := gF_2_11 V_r; have := gF_34_1 V_r; have := gF_34_3 V_r; have := gF_34_7 V_r; have := gF_49_10 V_r; omega)
set_option maxRecDepth 4000 in
theorem vj_X0_readTry_228 {nn : Nat} (hn : 1000000 ≤ nn) {g : Int} {rc : tq_X0_readBlock} (hg : GH_X0_readBlock g rc) {l3 : Int} {l9 : Int} {h : ms_M} (a_l3 : 0 ≤ l3) (b_l3 : l3 ≤ 1) (a_l9 : 0 ≤ l9) (b_l9 : l9 ≤ 1) (V_h : VS_ h) (x_0 : h 34 1 + h 34 3 ≤ 1400000020) (x_1 : h 2 10 ≤ 45000005)  : Ok_ (qj_X0_readTry_228 nn rc l3 l9 h) (QIR_ 0 1 (fun u r => (r 2 3 = h 2 3) ∧ (h 2 11 = 0 ∨ ¬ r 2 11 = 0) ∧ (h 2 10 ≤ r 2 10) ∧ (r 34 1 + r 34 3 + 12 * r 49 10 + 20 * h 2 10 ≤ h 34 1 + h 34 3 + 12 * h 49 10 + 20 * r 2 10 + 0) ∧ (r 2 10 ≤ h 2 10 + 0) ∧ (r 34 7 = h 34 7))) := by
  unfold qj_X0_readTry_228
  have T1 := gF_2_3 V_h
  have T2 := gF_2_10 V_h
  have T3 := gF_2_11 V_h
  have T4 := gF_34_1 V_h
  have T5 := gF_34_3 V_h
  have T6 := gF_34_7 V_h
  have T7 := gF_49_10 V_h
  refine ok_if ?_ ?_
  · intro C7
    exact ok_rIR V_h (by omega) (by omega) (by omega)
  · intro C7
    refine ok_if ?_ ?_
    · intro C8
      exact ok_rIR V_h (by omega) (by omega) (by omega)
    · intro C8
      exact ok_rIR V_h (by omega) (by omega) (by omega)
set_option maxRecDepth 4000 in
theorem vj_X0_readTry_130 {nn : Nat} (hn : 1000000 ≤ nn) {g : Int} {rc : tq_X0_readBlock} (hg : GH_X0_readBlock g rc) {l1 : Int} {l2 : Int} {l3 : Int} {l4 : Int} {l5 : Int} {l6 : Int} {l7 : Int} {h : ms_M} (a_l1 : 1 ≤ l1) (b_l1 : l1 ≤ 43) (a_l2 : 0 ≤ l2) (b_l2 : l2 ≤ 1600000000) (a_l3 : 0 ≤ l3) (b_l3 : l3 ≤ 1) (a_l4 : 0 ≤ l4) (b_l4 : l4 ≤ 1600000000) (a_l5 : (-1) ≤ l5) (b_l5 : l5 ≤ 1600000000) (a_l6 : 2 ≤ l6) (b_l6 : l6 ≤ 50000002) (a_l7 : (-1) ≤ l7) (b_l7 : l7 ≤ 341) (V_h : VS_ h) (x_0 : (4 * (44 - l1) + 3) ≤ (g + 1)) (x_1 : h 2 10 + 20000 * (4 * (44 - l1) + 3) ≤ 25015000) (x_2 : h 34 1 + h 34 3 + 12 * h 49 10 + 100 * (4 * (44 - l1) + 3) ≤ 20 * h 2 10 + 60060) (x_3 : h 34 7 ≤ 4000 * (l1 + 1) - 400) (x_4 : l6 = h 2 10 + 2)  : Ok_ (qj_X0_readTry_130 nn rc l1 l2 l3 l4 l5 l6 l7 h) (QIR_ 0 1 (fun u r => (r 2 3 = h 2 3) ∧ (h 2 11 = 0 ∨ ¬ r 2 11 = 0) ∧ (h 2 10 ≤ r 2 10) ∧ (r 34 1 + r 34 3 + 12 * r 49 10 + 20 * h 2 10 ≤ h 34 1 + h 34 3 + 12 * h 49 10 + 20 * r 2 10 + (-137)) ∧ (((h 2 11 = 0 ∧ h 2 10 < h 2 3) ∧ r 2 10 ≤ 8100000 + 20000 * (4 * (44 - l1) + 3)) ∨ (¬ (h 2 11 = 0 ∧ h 2 10 < h 2 3) ∧ r 2 10 ≤ h 2 10 + 9020)) ∧ (r 34 7 = h 34 7))) := by
  unfold qj_X0_readTry_130
  have T1 := gF_2_3 V_h
  have T2 := gF_2_10 V_h
  have T3 := gF_2_11 V_h
  have T4 := gF_34_1 V_h
  have T5 := gF_34_3 V_h
  have T6 := gF_34_7 V_h
  have T7 := gF_49_10 V_h
  refine ok_add (by omega) ?_; intro v3 e_v3
  refine ok_cVR (vf_X0_checkTwice hn (by omega) (by omega) V_h) ?_; intro u5 E_u5 V_u5 R_u5
  have T8 : u5 2 3 = h 2 3 := (ff_X0_checkTwice nn) _ E_u5 2 3 rfl
  have T9 : u5 2 10 = h 2 10 := (ff_X0_checkTwice nn) _ E_u5 2 10 rfl
  have T10 : u5 34 1 = h 34 1 := (ff_X0_checkTwice nn) _ E_u5 34 1 rfl
  have T11 : u5 34 3 = h 34 3 := (ff_X0_checkTwice nn) _ E_u5 34 3 rfl
  have T12 : u5 34 7 = h 34 7 := (ff_X0_checkTwice nn) _ E_u5 34 7 rfl
  have T13 : u5 49 10 = h 49 10 := (ff_X0_checkTwice nn) _ E_u5 49 10 rfl
  have T14 := gF_2_11 V_u5
  refine ok_cVR (vf_X1_addHandler hn (by omega) (by omega) (by omega) (by omega) (by omega) (by omega) V_u5 (by omega)) ?_; intro u8 E_u8 V_u8 R_u8
  have T15 : u8 2 3 = u5 2 3 := (ff_X1_addHandler nn) _ E_u8 2 3 rfl
  have T16 : u8 2 10 = u5 2 10 := (ff_X1_addHandler nn) _ E_u8 2 10 rfl
  have T17 : u8 34 1 = u5 34 1 := (ff_X1_addHandler nn) _ E_u8 34 1 rfl
  have T18 : u8 34 7 = u5 34 7 := (ff_X1_addHandler nn) _ E_u8 34 7 rfl
  have T19 : u8 49 10 = u5 49 10 := (ff_X1_addHandler nn) _ E_u8 49 10 rfl
  have T20 : u8 2 11 = u5 2 11 := (ff_X1_addHandler nn) _ E_u8 2 11 rfl
  have T21 := gF_34_3 V_u8
  refine ok_add (by omega) ?_; intro v14 e_v14
  refine ok_cP (vf_X9_valueAt hn (by omega) (by omega) V_u8) ?_; intro u16 e_u16 a_u16 b_u16
  refine ok_cIR (vf_X1_addLocal hn (by omega) (by omega) (by omega) (by omega) V_u8 (by omega)) ?_; intro u18 E_u18 V_u18 a_u18 b_u18 R_u18
  have T22 : u18.2 2 3 = u8 2 3 := (ff_X1_addLocal nn) _ E_u18 2 3 rfl
  have T23 : u18.2 2 10 = u8 2 10 := (ff_X1_addLocal nn) _ E_u18 2 10 rfl
  have T24 : u18.2 34 1 = u8 34 1 := (ff_X1_addLocal nn) _ E_u18 34 1 rfl
  have T25 : u18.2 49 10 = u8 49 10 := (ff_X1_addLocal nn) _ E_u18 49 10 rfl
  have T26 : u18.2 2 11 = u8 2 11 := (ff_X1_addLocal nn) _ E_u18 2 11 rfl
  have T27 : u18.2 34 3 = u8 34 3 := (ff_X1_addLocal nn) _ E_u18 34 3 rfl
  have T28 := gF_34_7 V_u18
  refine ok_cVR (vf_X1_store hn (by omega) (by omega) (by omega) (by omega) V_u18 (by omega)) ?_; intro u20 E_u20 V_u20 R_u20
  have T29 : u20 2 3 = u18.2 2 3 := (ff_X1_store nn) _ E_u20 2 3 rfl
  have T30 : u20 2 10 = u18.2 2 10 := (ff_X1_store nn) _ E_u20 2 10 rfl
  have T31 : u20 49 10 = u18.2 49 10 := (ff_X1_store nn) _ E_u20 49 10 rfl
  have T32 : u20 2 11 = u18.2 2 11 := (ff_X1_store nn) _ E_u20 2 11 rfl
  have T33 : u20 34 7 = u18.2 34 7 := (ff_X1_store nn) _ E_u20 34 7 rfl
  have T34 := gF_34_1 V_u20
  have T35 := gF_34_3 V_u20
  refine ok_add (by omega) ?_; intro v22 e_v22
  refine ok_xl ?_; intro h23 E_h23; have V_h23 : VS_ h23 := by rw [E_h23]; exact wF_2_10 V_u20 (by omega)
  have T36 : h23 2 3 = u20 2 3 := by rw [E_h23]; exact up_n (by decide)
  have T37 : h23 49 10 = u20 49 10 := by rw [E_h23]; exact up_n (by decide)
  have T38 : h23 2 11 = u20 2 11 := by rw [E_h23]; exact up_n (by decide)
  have T39 : h23 34 7 = u20 34 7 := by rw [E_h23]; exact up_n (by decide)
  have T40 : h23 34 1 = u20 34 1 := by rw [E_h23]; exact up_n (by decide)
  have T41 : h23 34 3 = u20 34 3 := by rw [E_h23]; exact up_n (by decide)
  have T42 : h23 2 10 = v22 := by rw [E_h23]; exact up_s
  refine ok_cIR (hg.1 (by omega) (by omega) V_h23 (by omega) (by omega) (by omega) (by omega)) ?_; intro u25 E_u25 V_u25 a_u25 b_u25 R_u25
  have T43 := gF_2_3 V_u25
  have T44 := gF_2_10 V_u25
  have T45 := gF_2_11 V_u25
  have T46 := gF_34_1 V_u25
  have T47 := gF_34_3 V_u25
  have T48 := gF_34_7 V_u25
  have T49 := gF_49_10 V_u25
  refine ok_xl ?_; intro h27 E_h27; have V_h27 : VS_ h27 := by rw [E_h27]; exact wF_34_7 V_u25 (by omega)
  have T50 : h27 2 3 = u25.2 2 3 := by rw [E_h27]; exact up_n (by decide)
  have T51 : h27 2 10 = u25.2 2 10 := by rw [E_h27]; exact up_n (by decide)
  have T52 : h27 2 11 = u25.2 2 11 := by rw [E_h27]; exact up_n (by decide)
  have T53 : h27 34 1 = u25.2 34 1 := by rw [E_h27]; exact up_n (by decide)
  have T54 : h27 34 3 = u25.2 34 3 := by rw [E_h27]; exact up_n (by decide)
  have T55 : h27 49 10 = u25.2 49 10 := by rw [E_h27]; exact up_n (by decide)
  have T56 : h27 34 7 = (u8 34 7) := by rw [E_h27]; exact up_s
  refine ok_if ?_ ?_
  · intro C56
    exact ok_mI (vj_X0_readTry_228 hn hg (by omega) (by omega) (by omega) (by omega) V_h27 (by omega) (by omega)) (fun _ _ V_r R_r => by have := gF_2_3 V_r; have := gF_2_10 V_r; have := gF_2_11 V_r; have := gF_34_1 V_r; have := gF_34_3 V_r; have := gF_34_7 V_r; have := gF_49_10 V_r; omega)
  · intro C56
    refine ok_cV (vf_X1_aimHere hn (by omega) (by omega) V_h27 (by omega)) ?_; intro u30 E_u30 V_u30
    have T58 : u30 2 3 = h27 2 3 := (ff_X1_aimHere nn) _ E_u30 2 3 rfl
    have T59 : u30 2 10 = h27 2 10 := (ff_X1_aimHere nn) _ E_u30 2 10 rfl
    have T60 : u30 2 11 = h27 2 11 := (ff_X1_aimHere nn) _ E_u30 2 11 rfl
    have T61 : u30 34 1 = h27 34 1 := (ff_X1_aimHere nn) _ E_u30 34 1 rfl
    have T62 : u30 34 3 = h27 34 3 := (ff_X1_aimHere nn) _ E_u30 34 3 rfl
    have T63 : u30 49 10 = h27 49 10 := (ff_X1_aimHere nn) _ E_u30 49 10 rfl
    have T64 : u30 34 7 = h27 34 7 := (ff_X1_aimHere nn) _ E_u30 34 7 rfl
    exact ok_mI (vj_X0_readTry_228 hn hg (by omega) (by omega) (by omega) (by omega) V_u30 (by omega) (by omega)) (fun _ _ V_r R_r => by have := gF_2_3 V_r; have := gF_2_10 V_r; have := gF_2_11 V_r; have := gF_34_1 V_r; have := gF_34_3 V_r; have := gF_34_7 V_r; have := gF_49_10 V_r; omega)
set_option maxRecDepth 4000 in
theorem vj_X0_readTry_63 {nn : Nat} (hn : 1000000 ≤ nn) {g : Int} {rc : tq_X0_readBlock} (hg : GH_X0_readBlock g rc) {l1 : Int} {l2 : Int} {l3 : Int} {l4 : Int} {s0 : Int} {h : ms_M} (a_l1 : 1 ≤ l1) (b_l1 : l1 ≤ 43) (a_l2 : 0 ≤ l2) (b_l2 : l2 ≤ 1600000000) (a_l3 : 0 ≤ l3) (b_l3 : l3 ≤ 1) (a_l4 : 0 ≤ l4) (b_l4 : l4 ≤ 1600000000) (a_s0 : (-1) ≤ s0) (b_s0 : s0 ≤ 1600000000) (V_h : VS_ h) (x_0 : (4 * (44 - l1) + 3) ≤ (g + 1)) (x_1 : h 2 10 + 20000 * (4 * (44 - l1) + 3) ≤ 25015000) (x_2 : h 34 1 + h 34 3 + 12 * h 49 10 + 100 * (4 * (44 - l1) + 3) ≤ 20 * h 2 10 + 60060) (x_3 : h 34 7 ≤ 4000 * (l1 + 1) - 400)  : Ok_ (qj_X0_readTry_63 nn rc l1 l2 l3 l4 s0 h) (QIR_ 0 1 (fun u r => (r 2 3 = h 2 3) ∧ (h 2 11 = 0 ∨ ¬ r 2 11 = 0) ∧ (h 2 10 ≤ r 2 10) ∧ (r 34 1 + r 34 3 + 12 * r 49 10 + 20 * h 2 10 ≤ h 34 1 + h 34 3 + 12 * h 49 10 + 20 * r 2 10 + (-137)) ∧ (((h 2 11 = 0 ∧ h 2 10 < h 2 3) ∧ r 2 10 ≤ 8100000 + 20000 * (4 * (44 - l1) + 3)) ∨ (¬ (h 2 11 = 0 ∧ h 2 10 < h 2 3) ∧ r 2 10 ≤ h 2 10 + 9020)) ∧ (r 34 7 = h 34 7))) := by
  unfold qj_X0_readTry_63
  have T1 := gF_2_3 V_h
  have T2 := gF_2_10 V_h
  have T3 := gF_2_11 V_h
  have T4 := gF_34_1 V_h
  have T5 := gF_34_3 V_h
  have T6 := gF_34_7 V_h
  have T7 := gF_49_10 V_h
  refine ok_add (by omega) ?_; intro v34 e_v34
  refine ok_cP (vf_X2_classAt hn (by omega) (by omega) V_h) ?_; intro u37 e_u37 a_u37 b_u37
  refine ok_if ?_ ?_
  · intro C7
    refine ok_cP (vf_X4_fits hn rfl (by omega) (by omega) (by omega) (by omega) V_h) ?_; intro u40 e_u40 a_u40 b_u40
    refine ok_if ?_ ?_
    · intro C8
      exact ok_mI (vj_X0_readTry_130 hn hg (by omega) (by omega) (by omega) (by omega) (by omega) (by omega) (by omega) (by omega) (by omega) (by omega) (by omega) (by omega) (by omega) (by omega) V_h (by omega) (by omega) (by omega) (by omega) (by omega)) (fun _ _ V_r R_r => by have := gF_2_3 V_r; have := gF_2_10 V_r; have := gF_2_11 V_r; have := gF_34_1 V_r; have := gF_34_3 V_r; have := gF_34_7 V_r; have := gF_49_10 V_r; omega)
    · intro C8
      refine ok_cVR (vf_X9_tell hn (by omega) (by omega) (by omega) (by omega) V_h) ?_; intro u43 E_u43 V_u43 R_u43
      have T10 : u43 2 3 = h 2 3 := (ff_X9_tell nn) _ E_u43 2 3 rfl
      have T11 : u43 2 10 = h 2 10 := (ff_X9_tell nn) _ E_u43 2 10 rfl
      have T12 : u43 34 1 = h 34 1 := (ff_X9_tell nn) _ E_u43 34 1 rfl
      have T13 : u43 34 3 = h 34 3 := (ff_X9_tell nn) _ E_u43 34 3 rfl
      have T14 : u43 34 7 = h 34 7 := (ff_X9_tell nn) _ E_u43 34 7 rfl
      have T15 : u43 49 10 = h 49 10 := (ff_X9_tell nn) _ E_u43 49 10 rfl
      have T16 := gF_2_11 V_u43
      exact ok_mI (vj_X0_readTry_130 hn hg (by omega) (by omega) (by omega) (by omega) (by omega) (by omega) (by omega) (by omega) (by omega) (by omega) (by omega) (by omega) (by omega) (by omega) V_u43 (by omega) (by omega) (by omega) (by omega) (by omega)) (fun _ _ V_r R_r => by have := gF_2_3 V_r; have := gF_2_10 V_r; have := gF_2_11 V_r; have := gF_34_1 V_r; have := gF_34_3 V_r; have := gF_34_7 V_r; have := gF_49_10 V_r; omega)
  · intro C7
    refine ok_cVR (vf_X9_tell hn (by omega) (by omega) (by omega) (by omega) V_h) ?_; intro u47 E_u47 V_u47 R_u47
    have T17 : u47 2 3 = h 2 3 := (ff_X9_tell nn) _ E_u47 2 3 rfl
    have T18 : u47 2 10 = h 2 10 := (ff_X9_tell nn) _ E_u47 2 10 rfl
    have T19 : u47 34 1 = h 34 1 := (ff_X9_tell nn) _ E_u47 34 1 rfl
    have T20 : u47 34 3 = h 34 3 := (ff_X9_tell nn) _ E_u47 34 3 rfl
    have T21 : u47 34 7 = h 34 7 := (ff_X9_tell nn) _ E_u47 34 7 rfl
    have T22 : u47 49 10 = h 49 10 := (ff_X9_tell nn) _ E_u47 49 10 rfl
    have T23 := gF_2_11 V_u47
    exact ok_mI (vj_X0_readTry_130 hn hg (by omega) (by omega) (by omega) (by omega) (by omega) (by omega) (by omega) (by omega) (by omega) (by omega) (by omega) (by omega) (by omega) (by omega) V_u47 (by omega) (by omega) (by omega) (by omega) (by omega)) (fun _ _ V_r R_r => by have := gF_2_3 V_r; have := gF_2_10 V_r; have := gF_2_11 V_r; have := gF_34_1 V_r; have := gF_34_3 V_r; have := gF_34_7 V_r; have := gF_49_10 V_r; omega)
set_option maxRecDepth 4000 in
theorem vo_X0_readTry {nn : Nat} (hn : 1000000 ≤ nn) {g : Int} {rc : tq_X0_readBlock} (hg : GH_X0_readBlock g rc) {a1 : Int} {h : ms_M} (a_a1 : 1 ≤ a1) (b_a1 : a1 ≤ 43) (V_h : VS_ h) (x_0 : (4 * (44 - a1) + 3) ≤ (g + 1)) (x_1 : h 2 10 + 20000 * (4 * (44 - a1) + 3) ≤ 25000000) (x_2 : h 34 1 + h 34 3 + 12 * h 49 10 + 100 * (4 * (44 - a1) + 3) ≤ 20 * h 2 10 + 60000) (x_3 : (h 2 11 = 0 ∧ h 2 10 < h 2 3)) (x_4 : h 34 7 ≤ 4000 * (a1 + 1) - 400)  : Ok_ (qo_X0_readTry nn rc a1 h) (QIR_ 0 1 (fun u r => (r 2 3 = h 2 3) ∧ (h 2 11 = 0 ∨ ¬ r 2 11 = 0) ∧ (h 2 10 ≤ r 2 10) ∧ (r 34 1 + r 34 3 + 12 * r 49 10 + 20 * h 2 10 ≤ h 34 1 + h 34 3 + 12 * h 49 10 + 20 * r 2 10 + (-193)) ∧ (r 2 10 ≤ 8100000 + 20000 * (4 * (44 - a1) + 3)) ∧ (r 34 7 = h 34 7))) := by
  unfold qo_X0_readTry
  have T1 := gF_2_3 V_h
  have T2 := gF_2_10 V_h
  have T3 := gF_2_11 V_h
  have T4 := gF_34_1 V_h
  have T5 := gF_34_3 V_h
  have T6 := gF_34_7 V_h
  have T7 := gF_49_10 V_h
  refine ok_add (by omega) ?_; intro v53 e_v53
  refine ok_xl ?_; intro h54 E_h54; have V_h54 : VS_ h54 := by rw [E_h54]; exact wF_2_10 V_h (by omega)
  have T8 : h54 2 3 = h 2 3 := by rw [E_h54]; exact up_n (by decide)
  have T9 : h54 2 11 = h 2 11 := by rw [E_h54]; exact up_n (by decide)
  have T10 : h54 34 1 = h 34 1 := by rw [E_h54]; exact up_n (by decide)
  have T11 : h54 34 3 = h 34 3 := by rw [E_h54]; exact up_n (by decide)
  have T12 : h54 34 7 = h 34 7 := by rw [E_h54]; exact up_n (by decide)
  have T13 : h54 49 10 = h 49 10 := by rw [E_h54]; exact up_n (by decide)
  have T14 : h54 2 10 = v53 := by rw [E_h54]; exact up_s
  refine ok_cVR (vf_X1_op hn (by omega) (by omega) V_h54 (by omega)) ?_; intro u57 E_u57 V_u57 R_u57
  have T15 : u57 2 3 = h54 2 3 := (ff_X1_op nn) _ E_u57 2 3 rfl
  have T16 : u57 2 11 = h54 2 11 := (ff_X1_op nn) _ E_u57 2 11 rfl
  have T17 : u57 34 3 = h54 34 3 := (ff_X1_op nn) _ E_u57 34 3 rfl
  have T18 : u57 34 7 = h54 34 7 := (ff_X1_op nn) _ E_u57 34 7 rfl
  have T19 : u57 49 10 = h54 49 10 := (ff_X1_op nn) _ E_u57 49 10 rfl
  have T20 : u57 2 10 = h54 2 10 := (ff_X1_op nn) _ E_u57 2 10 rfl
  have T21 := gF_34_1 V_u57
  refine ok_cIR (hg.1 (by omega) (by omega) V_u57 (by omega) (by omega) (by omega) (by omega)) ?_; intro u59 E_u59 V_u59 a_u59 b_u59 R_u59
  have T22 := gF_2_3 V_u59
  have T23 := gF_2_10 V_u59
  have T24 := gF_2_11 V_u59
  have T25 := gF_34_1 V_u59
  have T26 := gF_34_3 V_u59
  have T27 := gF_34_7 V_u59
  have T28 := gF_49_10 V_u59
  refine ok_if ?_ ?_
  · intro C28
    exact ok_mI (vj_X0_readTry_63 hn hg (by omega) (by omega) (by omega) (by omega) (by omega) (by omega) (by omega) (by omega) (by omega) (by omega) V_u59 (by omega) (by omega) (by omega) (by omega)) (fun _ _ V_r R_r => by have := gF_2_3 V_r; have := gF_2_10 V_r; have := gF_2_11 V_r; have := gF_34_1 V_r; have := gF_34_3 V_r; have := gF_34_7 V_r; have := gF_49_10 V_r; omega)
  · intro C28
    refine ok_cIR (vf_X1_jump hn (by omega) (by omega) (by omega) (by omega) V_u59 (by omega)) ?_; intro u64 E_u64 V_u64 a_u64 b_u64 R_u64
    have T30 : u64.2 2 3 = u59.2 2 3 := (ff_X1_jump nn) _ E_u64 2 3 rfl
    have T31 : u64.2 2 10 = u59.2 2 10 := (ff_X1_jump nn) _ E_u64 2 10 rfl
    have T32 : u64.2 2 11 = u59.2 2 11 := (ff_X1_jump nn) _ E_u64 2 11 rfl
    have T33 : u64.2 34 7 = u59.2 34 7 := (ff_X1_jump nn) _ E_u64 34 7 rfl
    have T34 : u64.2 49 10 = u59.2 49 10 := (ff_X1_jump nn) _ E_u64 49 10 rfl
    have T35 := gF_34_1 V_u64
    have T36 := gF_34_3 V_u64
    exact ok_mI (vj_X0_readTry_63 hn hg (by omega) (by omega) (by omega) (by omega) (by omega) (by omega) (by omega) (by omega) (by omega) (by omega) V_u64 (by omega) (by omega) (by omega) (by omega)) (fun _ _ V_r R_r => by have := gF_2_3 V_r; have := gF_2_10 V_r; have := gF_2_11 V_r; have := gF_34_1 V_r; have := gF_34_3 V_r; have := gF_34_7 V_r; have := gF_49_10 V_r; omega)
set_option maxRecDepth 4000 in
theorem vg_X0_readBlock {nn : Nat} (hn : 1000000 ≤ nn) : ∀ g : Nat, GH_X0_readBlock (g : Int) (qg_X0_readBlock nn g) := by
  intro g
  induction g with
  | zero => exact ⟨by intros; exfalso; omega, by intros; exfalso; omega, by intros; exfalso; omega, by intros; exfalso; omega, by intros; exfalso; omega, by intros; exfalso; omega⟩
  | succ g ih =>
    refine ⟨?_, ?_, ?_, ?_, ?_, ?_⟩
    · intro a1 h a_a1 b_a1 V_h x_0 x_1 x_2 x_3; exact vo_X0_readBlock hn ih a_a1 b_a1 V_h (by omega) (by omega) (by omega) (by omega)
    · intro a1 h a_a1 b_a1 V_h x_0 x_1 x_2 x_3; exact vo_X0_readPart hn ih a_a1 b_a1 V_h (by omega) (by omega) (by omega) (by omega)
    · intro a1 h a_a1 b_a1 V_h x_0 x_1 x_2 x_3; exact vo_X0_readStatement hn ih a_a1 b_a1 V_h (by omega) (by omega) (by omega) (by omega)
    · intro a1 h a_a1 b_a1 V_h x_0 x_1 x_2 x_3 x_4; exact vo_X0_readIf hn ih a_a1 b_a1 V_h (by omega) (by omega) (by omega) (by omega) (by omega)
    · intro a1 h a_a1 b_a1 V_h x_0 x_1 x_2 x_3 x_4; exact vo_X0_readWhile hn ih a_a1 b_a1 V_h (by omega) (by omega) (by omega) (by omega) (by omega)
    · intro a1 h a_a1 b_a1 V_h x_0 x_1 x_2 x_3 x_4; exact vo_X0_readTry hn ih a_a1 b_a1 V_h (by omega) (by omega) (by omega) (by omega) (by omega)
theorem vf_X0_readBlock {nn : Nat} (hn : 1000000 ≤ nn) {a1 : Int} {h : ms_M} (a_a1 : 0 ≤ a1) (b_a1 : a1 ≤ 43) (V_h : VS_ h) (x_1 : h 2 10 + 20000 * (4 * (44 - a1) + 2) ≤ 25000000) (x_2 : h 34 1 + h 34 3 + 12 * h 49 10 + 100 * (4 * (44 - a1) + 2) ≤ 20 * h 2 10 + 60000) (x_3 : h 34 7 ≤ 4000 * (a1 + 1)) (xg : (4 * (44 - a1) + 2) ≤ 240) : Ok_ (qf_X0_readBlock nn a1 h) (QIR_ 0 1 (fun u r => (r 2 3 = h 2 3) ∧ (h 2 11 = 0 ∨ ¬ r 2 11 = 0) ∧ (h 2 10 ≤ r 2 10) ∧ (r 34 1 + r 34 3 + 12 * r 49 10 + 20 * h 2 10 ≤ h 34 1 + h 34 3 + 12 * h 49 10 + 20 * r 2 10 + (-40)) ∧ (((h 2 11 = 0 ∧ h 2 10 < h 2 3) ∧ r 2 10 ≤ 8100000 + 20000 * (4 * (44 - a1) + 2)) ∨ (¬ (h 2 11 = 0 ∧ h 2 10 < h 2 3) ∧ r 2 10 ≤ h 2 10 + 9010)) ∧ (r 34 7 = h 34 7))) := by
  unfold qf_X0_readBlock
  exact (vg_X0_readBlock hn 240).1 a_a1 b_a1 V_h (by omega) (by omega) (by omega) (by omega)
