set_option maxRecDepth 4000 in
theorem vj_X9_level_249 {nn : Nat} (hn : 1000000 ≤ nn) {h : ms_M} (V_h : VS_ h)  : Ok_ (qj_X9_level_249 nn h) (QP_ 0 10) := by
  unfold qj_X9_level_249
  exact ok_rP (by omega) (by omega)
set_option maxRecDepth 4000 in
theorem vj_X9_level_246 {nn : Nat} (hn : 1000000 ≤ nn) {h : ms_M} (V_h : VS_ h)  : Ok_ (qj_X9_level_246 nn h) (QP_ 0 10) := by
  unfold qj_X9_level_246
  exact ok_rP (by omega) (by omega)
set_option maxRecDepth 4000 in
theorem vj_X9_level_243 {nn : Nat} (hn : 1000000 ≤ nn) {h : ms_M} (V_h : VS_ h)  : Ok_ (qj_X9_level_243 nn h) (QP_ 0 10) := by
  unfold qj_X9_level_243
  exact ok_rP (by omega) (by omega)
set_option maxRecDepth 4000 in
theorem vj_X9_level_240 {nn : Nat} (hn : 1000000 ≤ nn) {h : ms_M} (V_h : VS_ h)  : Ok_ (qj_X9_level_240 nn h) (QP_ 0 10) := by
  unfold qj_X9_level_240
  exact ok_rP (by omega) (by omega)
set_option maxRecDepth 4000 in
theorem vj_X9_level_237 {nn : Nat} (hn : 1000000 ≤ nn) {h : ms_M} (V_h : VS_ h)  : Ok_ (qj_X9_level_237 nn h) (QP_ 0 10) := by
  unfold qj_X9_level_237
  exact ok_rP (by omega) (by omega)
set_option maxRecDepth 4000 in
theorem vj_X9_level_234 {nn : Nat} (hn : 1000000 ≤ nn) {h : ms_M} (V_h : VS_ h)  : Ok_ (qj_X9_level_234 nn h) (QP_ 0 10) := by
  unfold qj_X9_level_234
  exact ok_rP (by omega) (by omega)
set_option maxRecDepth 4000 in
theorem vf_X9_level {nn : Nat} (hn : 1000000 ≤ nn) {a0 : Int} {h : ms_M} (a_a0 : 0 ≤ a0) (b_a0 : a0 ≤ 1740) (V_h : VS_ h)  : Ok_ (qf_X9_level nn a0 h) (QP_ 0 10) := by
  unfold qf_X9_level
  refine ok_if ?_ ?_
  · intro C0
    exact vj_X9_level_237 hn V_h
  · intro C0
    refine ok_if ?_ ?_
    · intro C1
      exact vj_X9_level_234 hn V_h
    · intro C1
      refine ok_if ?_ ?_
      · intro C2
        exact vj_X9_level_234 hn V_h
      · intro C2
        refine ok_if ?_ ?_
        · intro C3
          exact vj_X9_level_237 hn V_h
        · intro C3
          refine ok_if ?_ ?_
          · intro C4
            exact vj_X9_level_237 hn V_h
          · intro C4
            refine ok_if ?_ ?_
            · intro C5
              exact vj_X9_level_237 hn V_h
            · intro C5
              refine ok_if ?_ ?_
              · intro C6
                exact vj_X9_level_237 hn V_h
              · intro C6
                refine ok_if ?_ ?_
                · intro C7
                  exact vj_X9_level_240 hn V_h
                · intro C7
                  refine ok_if ?_ ?_
                  · intro C8
                    exact vj_X9_level_240 hn V_h
                  · intro C8
                    refine ok_if ?_ ?_
                    · intro C9
                      exact vj_X9_level_240 hn V_h
                    · intro C9
                      refine ok_if ?_ ?_
                      · intro C10
                        exact vj_X9_level_243 hn V_h
                      · intro C10
                        refine ok_if ?_ ?_
                        · intro C11
                          exact vj_X9_level_243 hn V_h
                        · intro C11
                          refine ok_if ?_ ?_
                          · intro C12
                            exact vj_X9_level_246 hn V_h
                          · intro C12
                            refine ok_if ?_ ?_
                            · intro C13
                              exact vj_X9_level_246 hn V_h
                            · intro C13
                              refine ok_if ?_ ?_
                              · intro C14
                                exact vj_X9_level_246 hn V_h
                              · intro C14
                                refine ok_if ?_ ?_
                                · intro C15
                                  exact ok_rP (by omega) (by omega)
                                · intro C15
                                  refine ok_if ?_ ?_
                                  · intro C16
                                    exact ok_rP (by omega) (by omega)
                                  · intro C16
                                    refine ok_if ?_ ?_
                                    · intro C17
                                      exact ok_rP (by omega) (by omega)
                                    · intro C17
                                      refine ok_if ?_ ?_
                                      · intro C18
                                        exact ok_rP (by omega) (by omega)
                                      · intro C18
                                        refine ok_if ?_ ?_
                                        · intro C19
                                          exact ok_rP (by omega) (by omega)
                                        · intro C19
                                          exact vj_X9_level_249 hn V_h
set_option maxRecDepth 4000 in
theorem vj_X10_closeSign_293 {nn : Nat} (hn : 1000000 ≤ nn) {h : ms_M} (V_h : VS_ h) (x_0 : h 34 1 + h 34 3 ≤ 1500000620) (x_1 : h 49 10 ≤ 419)  : Ok_ (qj_X10_closeSign_293 nn h) (QVR_ (fun r => (h 2 11 = 0 ∨ ¬ r 2 11 = 0) ∧ (r 34 1 + r 34 3 + 12 * r 49 10 + 20 * h 2 10 ≤ h 34 1 + h 34 3 + 12 * h 49 10 + 20 * r 2 10 + 0) ∧ (r 49 10 = h 49 10))) := by
  unfold qj_X10_closeSign_293
  have T1 := gF_2_10 V_h
  have T2 := gF_2_11 V_h
  have T3 := gF_34_1 V_h
  have T4 := gF_34_3 V_h
  have T5 := gF_49_10 V_h
  refine ok_rd (by omega) (gA_52 V_h) ?_; intro v3 e_v3 a_v3 b_v3
  refine ok_xl ?_; intro h4 E_h4; have V_h4 : VS_ h4 := by rw [E_h4]; exact wF_49_15 V_h (by omega)
  have T6 : h4 2 10 = h 2 10 := by rw [E_h4]; exact up_n (by decide)
  have T7 : h4 2 11 = h 2 11 := by rw [E_h4]; exact up_n (by decide)
  have T8 : h4 34 1 = h 34 1 := by rw [E_h4]; exact up_n (by decide)
  have T9 : h4 34 3 = h 34 3 := by rw [E_h4]; exact up_n (by decide)
  have T10 : h4 49 10 = h 49 10 := by rw [E_h4]; exact up_n (by decide)
  refine ok_xl ?_; intro h5 E_h5; have V_h5 : VS_ h5 := by rw [E_h5]; exact wF_49_11 V_h4 (by omega)
  have T11 : h5 2 10 = h4 2 10 := by rw [E_h5]; exact up_n (by decide)
  have T12 : h5 2 11 = h4 2 11 := by rw [E_h5]; exact up_n (by decide)
  have T13 : h5 34 1 = h4 34 1 := by rw [E_h5]; exact up_n (by decide)
  have T14 : h5 34 3 = h4 34 3 := by rw [E_h5]; exact up_n (by decide)
  have T15 : h5 49 10 = h4 49 10 := by rw [E_h5]; exact up_n (by decide)
  exact ok_rVR V_h5 (by omega)
set_option maxRecDepth 4000 in
theorem vj_X10_closeSign_251 {nn : Nat} (hn : 1000000 ≤ nn) {l1 : Int} {s0 : Int} {h : ms_M} (a_l1 : 0 ≤ l1) (b_l1 : l1 ≤ 1740) (a_s0 : 0 ≤ s0) (b_s0 : s0 ≤ 1) (V_h : VS_ h) (x_0 : h 34 1 + h 34 3 ≤ 1500000618) (x_1 : h 49 10 ≤ 419)  : Ok_ (qj_X10_closeSign_251 nn l1 s0 h) (QVR_ (fun r => (h 2 11 = 0 ∨ ¬ r 2 11 = 0) ∧ (r 34 1 + r 34 3 + 12 * r 49 10 + 20 * h 2 10 ≤ h 34 1 + h 34 3 + 12 * h 49 10 + 20 * r 2 10 + 2) ∧ (r 49 10 = h 49 10))) := by
  unfold qj_X10_closeSign_251
  have T1 := gF_2_10 V_h
  have T2 := gF_2_11 V_h
  have T3 := gF_34_1 V_h
  have T4 := gF_34_3 V_h
  have T5 := gF_49_10 V_h
  refine ok_rd (by omega) (gA_51 V_h) ?_; intro v8 e_v8 a_v8 b_v8
  refine ok_cVR (vf_X10_wantType hn (by omega) (by omega) (by omega) (by omega) V_h) ?_; intro u10 E_u10 V_u10 R_u10
  have T6 : u10 2 10 = h 2 10 := (ff_X10_wantType nn) _ E_u10 2 10 rfl
  have T7 : u10 34 1 = h 34 1 := (ff_X10_wantType nn) _ E_u10 34 1 rfl
  have T8 : u10 34 3 = h 34 3 := (ff_X10_wantType nn) _ E_u10 34 3 rfl
  have T9 : u10 49 10 = h 49 10 := (ff_X10_wantType nn) _ E_u10 49 10 rfl
  have T10 := gF_2_11 V_u10
  refine ok_cP (vf_X10_arithmeticOp hn (by omega) (by omega) V_u10) ?_; intro u12 e_u12 a_u12 b_u12
  refine ok_cVR (vf_X1_op hn (by omega) (by omega) V_u10 (by omega)) ?_; intro u14 E_u14 V_u14 R_u14
  have T11 : u14 2 10 = u10 2 10 := (ff_X1_op nn) _ E_u14 2 10 rfl
  have T12 : u14 34 3 = u10 34 3 := (ff_X1_op nn) _ E_u14 34 3 rfl
  have T13 : u14 49 10 = u10 49 10 := (ff_X1_op nn) _ E_u14 49 10 rfl
  have T14 : u14 2 11 = u10 2 11 := (ff_X1_op nn) _ E_u14 2 11 rfl
  have T15 := gF_34_1 V_u14
  refine ok_cVR (vf_X1_pop hn (by omega) (by omega) V_u14 (by omega)) ?_; intro u17 E_u17 V_u17 R_u17
  have T16 : u17 2 10 = u14 2 10 := (ff_X1_pop nn) _ E_u17 2 10 rfl
  have T17 : u17 49 10 = u14 49 10 := (ff_X1_pop nn) _ E_u17 49 10 rfl
  have T18 : u17 2 11 = u14 2 11 := (ff_X1_pop nn) _ E_u17 2 11 rfl
  have T19 : u17 34 1 = u14 34 1 := (ff_X1_pop nn) _ E_u17 34 1 rfl
  have T20 := gF_34_3 V_u17
  have T21 := gF_49_12 V_u17
  refine ok_cVR (vf_X1_push hn (by omega) (by omega) V_u17 (by omega)) ?_; intro u21 E_u21 V_u21 R_u21
  have T22 : u21 2 10 = u17 2 10 := (ff_X1_push nn) _ E_u21 2 10 rfl
  have T23 : u21 49 10 = u17 49 10 := (ff_X1_push nn) _ E_u21 49 10 rfl
  have T24 : u21 2 11 = u17 2 11 := (ff_X1_push nn) _ E_u21 2 11 rfl
  have T25 : u21 34 1 = u17 34 1 := (ff_X1_push nn) _ E_u21 34 1 rfl
  have T26 := gF_34_3 V_u21
  exact ok_mV (vj_X10_closeSign_293 hn V_u21 (by omega) (by omega)) (fun _ V_r R_r => by have := gF_2_10 V_r; have := gF_2_11 V_r; have := gF_34_1 V_r; have := gF_34_3 V_r; have := gF_49_10 V_r; omega)
set_option maxRecDepth 4000 in
theorem vj_X10_closeSign_250 {nn : Nat} (hn : 1000000 ≤ nn) {l1 : Int} {h : ms_M} (a_l1 : 0 ≤ l1) (b_l1 : l1 ≤ 1740) (V_h : VS_ h) (x_0 : h 34 1 + h 34 3 ≤ 1500000618) (x_1 : h 49 10 ≤ 419)  : Ok_ (qj_X10_closeSign_250 nn l1 h) (QVR_ (fun r => (h 2 11 = 0 ∨ ¬ r 2 11 = 0) ∧ (r 34 1 + r 34 3 + 12 * r 49 10 + 20 * h 2 10 ≤ h 34 1 + h 34 3 + 12 * h 49 10 + 20 * r 2 10 + 2) ∧ (r 49 10 = h 49 10))) := by
  unfold qj_X10_closeSign_250
  have T1 := gF_2_10 V_h
  have T2 := gF_2_11 V_h
  have T3 := gF_34_1 V_h
  have T4 := gF_34_3 V_h
  have T5 := gF_49_10 V_h
  exact ok_mV (vj_X10_closeSign_251 hn (by omega) (by omega) (by omega) (by omega) V_h (by omega) (by omega)) (fun _ V_r R_r => by have := gF_2_10 V_r; have := gF_2_11 V_r; have := gF_34_1 V_r; have := gF_34_3 V_r; have := gF_49_10 V_r; omega)
set_option maxRecDepth 4000 in
theorem vj_X10_closeSign_246 {nn : Nat} (hn : 1000000 ≤ nn) {l1 : Int} {h : ms_M} (a_l1 : 0 ≤ l1) (b_l1 : l1 ≤ 1740) (V_h : VS_ h) (x_0 : h 34 1 + h 34 3 ≤ 1500000618) (x_1 : h 49 10 ≤ 419)  : Ok_ (qj_X10_closeSign_246 nn l1 h) (QVR_ (fun r => (h 2 11 = 0 ∨ ¬ r 2 11 = 0) ∧ (r 34 1 + r 34 3 + 12 * r 49 10 + 20 * h 2 10 ≤ h 34 1 + h 34 3 + 12 * h 49 10 + 20 * r 2 10 + 2) ∧ (r 49 10 = h 49 10))) := by
  unfold qj_X10_closeSign_246
  have T1 := gF_2_10 V_h
  have T2 := gF_2_11 V_h
  have T3 := gF_34_1 V_h
  have T4 := gF_34_3 V_h
  have T5 := gF_49_10 V_h
  exact ok_mV (vj_X10_closeSign_251 hn (by omega) (by omega) (by omega) (by omega) V_h (by omega) (by omega)) (fun _ V_r R_r => by have := gF_2_10 V_r; have := gF_2_11 V_r; have := gF_34_1 V_r; have := gF_34_3 V_r; have := gF_49_10 V_r; omega)
set_option maxRecDepth 4000 in
theorem vj_X10_closeSign_212 {nn : Nat} (hn : 1000000 ≤ nn) {l1 : Int} {l2 : Int} {s0 : Int} {h : ms_M} (a_l1 : 0 ≤ l1) (b_l1 : l1 ≤ 1740) (a_l2 : (-1) ≤ l2) (b_l2 : l2 ≤ 441) (a_s0 : 0 ≤ s0) (b_s0 : s0 ≤ 1) (V_h : VS_ h) (x_0 : h 34 1 + h 34 3 ≤ 1500000618) (x_1 : h 49 10 ≤ 419)  : Ok_ (qj_X10_closeSign_212 nn l1 l2 s0 h) (QVR_ (fun r => (h 2 11 = 0 ∨ ¬ r 2 11 = 0) ∧ (r 34 1 + r 34 3 + 12 * r 49 10 + 20 * h 2 10 ≤ h 34 1 + h 34 3 + 12 * h 49 10 + 20 * r 2 10 + 2) ∧ (r 49 10 = h 49 10))) := by
  unfold qj_X10_closeSign_212
  have T1 := gF_2_10 V_h
  have T2 := gF_2_11 V_h
  have T3 := gF_34_1 V_h
  have T4 := gF_34_3 V_h
  have T5 := gF_49_10 V_h
  have T6 := gF_49_12 V_h
  refine ok_if ?_ ?_
  · intro C6
    exact ok_mV (vj_X10_closeSign_250 hn (by omega) (by omega) V_h (by omega) (by omega)) (fun _ V_r R_r => by have := gF_2_10 V_r; have := gF_2_11 V_r; have := gF_34_1 V_r; have := gF_34_3 V_r; have := gF_49_10 V_r; omega)
  · intro C6
    refine ok_if ?_ ?_
    · intro C7
      exact ok_mV (vj_X10_closeSign_246 hn (by omega) (by omega) V_h (by omega) (by omega)) (fun _ V_r R_r => by have := gF_2_10 V_r; have := gF_2_11 V_r; have := gF_34_1 V_r; have := gF_34_3 V_r; have := gF_49_10 V_r; omega)
    · intro C7
      refine ok_if ?_ ?_
      · intro C8
        exact ok_mV (vj_X10_closeSign_250 hn (by omega) (by omega) V_h (by omega) (by omega)) (fun _ V_r R_r => by have := gF_2_10 V_r; have := gF_2_11 V_r; have := gF_34_1 V_r; have := gF_34_3 V_r; have := gF_49_10 V_r; omega)
      · intro C8
        refine ok_if ?_ ?_
        · intro C9
          exact ok_mV (vj_X10_closeSign_250 hn (by omega) (by omega) V_h (by omega) (by omega)) (fun _ V_r R_r => by have := gF_2_10 V_r; have := gF_2_11 V_r; have := gF_34_1 V_r; have := gF_34_3 V_r; have := gF_49_10 V_r; omega)
        · intro C9
          exact ok_mV (vj_X10_closeSign_246 hn (by omega) (by omega) V_h (by omega) (by omega)) (fun _ V_r R_r => by have := gF_2_10 V_r; have := gF_2_11 V_r; have := gF_34_1 V_r; have := gF_34_3 V_r; have := gF_49_10 V_r; omega)
set_option maxRecDepth 4000 in
theorem vj_X10_closeSign_207 {nn : Nat} (hn : 1000000 ≤ nn) {l1 : Int} {l2 : Int} {h : ms_M} (a_l1 : 66 ≤ l1) (b_l1 : l1 ≤ 70) (a_l2 : (-1) ≤ l2) (b_l2 : l2 ≤ 441) (V_h : VS_ h) (x_0 : h 34 1 + h 34 3 ≤ 1500000618) (x_1 : h 49 10 ≤ 419)  : Ok_ (qj_X10_closeSign_207 nn l1 l2 h) (QVR_ (fun r => (h 2 11 = 0 ∨ ¬ r 2 11 = 0) ∧ (r 34 1 + r 34 3 + 12 * r 49 10 + 20 * h 2 10 ≤ h 34 1 + h 34 3 + 12 * h 49 10 + 20 * r 2 10 + 2) ∧ (r 49 10 = h 49 10))) := by
  unfold qj_X10_closeSign_207
  have T1 := gF_2_10 V_h
  have T2 := gF_2_11 V_h
  have T3 := gF_34_1 V_h
  have T4 := gF_34_3 V_h
  have T5 := gF_49_10 V_h
  exact ok_mV (vj_X10_closeSign_212 hn (by omega) (by omega) (by omega) (by omega) (by omega) (by omega) V_h (by omega) (by omega)) (fun _ V_r R_r => by have := gF_2_10 V_r; have := gF_2_11 V_r; have := gF_34_1 V_r; have := gF_34_3 V_r; have := gF_49_10 V_r; omega)
set_option maxRecDepth 4000 in
theorem vj_X10_closeSign_154 {nn : Nat} (hn : 1000000 ≤ nn) {l1 : Int} {s0 : Int} {h : ms_M} (a_l1 : 0 ≤ l1) (b_l1 : l1 ≤ 1740) (a_s0 : 0 ≤ s0) (b_s0 : s0 ≤ 1) (V_h : VS_ h) (x_0 : h 34 1 + h 34 3 ≤ 1500000610) (x_1 : h 49 10 ≤ 419)  : Ok_ (qj_X10_closeSign_154 nn l1 s0 h) (QVR_ (fun r => (h 2 11 = 0 ∨ ¬ r 2 11 = 0) ∧ (r 34 1 + r 34 3 + 12 * r 49 10 + 20 * h 2 10 ≤ h 34 1 + h 34 3 + 12 * h 49 10 + 20 * r 2 10 + 10) ∧ (r 49 10 = h 49 10))) := by
  unfold qj_X10_closeSign_154
  have T1 := gF_2_10 V_h
  have T2 := gF_2_11 V_h
  have T3 := gF_34_1 V_h
  have T4 := gF_34_3 V_h
  have T5 := gF_49_10 V_h
  refine ok_rd (by omega) (gA_51 V_h) ?_; intro v31 e_v31 a_v31 b_v31
  refine ok_cVR (vf_X10_wantType hn (by omega) (by omega) (by omega) (by omega) V_h) ?_; intro u33 E_u33 V_u33 R_u33
  have T6 : u33 2 10 = h 2 10 := (ff_X10_wantType nn) _ E_u33 2 10 rfl
  have T7 : u33 34 1 = h 34 1 := (ff_X10_wantType nn) _ E_u33 34 1 rfl
  have T8 : u33 34 3 = h 34 3 := (ff_X10_wantType nn) _ E_u33 34 3 rfl
  have T9 : u33 49 10 = h 49 10 := (ff_X10_wantType nn) _ E_u33 49 10 rfl
  have T10 := gF_2_11 V_u33
  refine ok_cP (vf_X10_compareOp hn (by omega) (by omega) (by omega) (by omega) V_u33) ?_; intro u35 e_u35 a_u35 b_u35
  refine ok_cVR (vf_X1_truth hn (by omega) (by omega) (by omega) (by omega) V_u33 (by omega)) ?_; intro u37 E_u37 V_u37 R_u37
  have T11 : u37 2 10 = u33 2 10 := (ff_X1_truth nn) _ E_u37 2 10 rfl
  have T12 : u37 49 10 = u33 49 10 := (ff_X1_truth nn) _ E_u37 49 10 rfl
  have T13 : u37 2 11 = u33 2 11 := (ff_X1_truth nn) _ E_u37 2 11 rfl
  have T14 := gF_34_1 V_u37
  have T15 := gF_34_3 V_u37
  refine ok_xl ?_; intro h38 E_h38; have V_h38 : VS_ h38 := by rw [E_h38]; exact wF_49_12 V_u37 (by omega)
  have T16 : h38 2 10 = u37 2 10 := by rw [E_h38]; exact up_n (by decide)
  have T17 : h38 49 10 = u37 49 10 := by rw [E_h38]; exact up_n (by decide)
  have T18 : h38 2 11 = u37 2 11 := by rw [E_h38]; exact up_n (by decide)
  have T19 : h38 34 1 = u37 34 1 := by rw [E_h38]; exact up_n (by decide)
  have T20 : h38 34 3 = u37 34 3 := by rw [E_h38]; exact up_n (by decide)
  exact ok_mV (vj_X10_closeSign_293 hn V_h38 (by omega) (by omega)) (fun _ V_r R_r => by have := gF_2_10 V_r; have := gF_2_11 V_r; have := gF_34_1 V_r; have := gF_34_3 V_r; have := gF_49_10 V_r; omega)
set_option maxRecDepth 4000 in
theorem vj_X10_closeSign_153 {nn : Nat} (hn : 1000000 ≤ nn) {l1 : Int} {h : ms_M} (a_l1 : 0 ≤ l1) (b_l1 : l1 ≤ 1740) (V_h : VS_ h) (x_0 : h 34 1 + h 34 3 ≤ 1500000610) (x_1 : h 49 10 ≤ 419)  : Ok_ (qj_X10_closeSign_153 nn l1 h) (QVR_ (fun r => (h 2 11 = 0 ∨ ¬ r 2 11 = 0) ∧ (r 34 1 + r 34 3 + 12 * r 49 10 + 20 * h 2 10 ≤ h 34 1 + h 34 3 + 12 * h 49 10 + 20 * r 2 10 + 10) ∧ (r 49 10 = h 49 10))) := by
  unfold qj_X10_closeSign_153
  have T1 := gF_2_10 V_h
  have T2 := gF_2_11 V_h
  have T3 := gF_34_1 V_h
  have T4 := gF_34_3 V_h
  have T5 := gF_49_10 V_h
  exact ok_mV (vj_X10_closeSign_154 hn (by omega) (by omega) (by omega) (by omega) V_h (by omega) (by omega)) (fun _ V_r R_r => by have := gF_2_10 V_r; have := gF_2_11 V_r; have := gF_34_1 V_r; have := gF_34_3 V_r; have := gF_49_10 V_r; omega)
set_option maxRecDepth 4000 in
theorem vj_X10_closeSign_71 {nn : Nat} (hn : 1000000 ≤ nn) {l1 : Int} {l2 : Int} {h : ms_M} (a_l1 : 52 ≤ l1) (b_l1 : l1 ≤ 53) (a_l2 : (-1) ≤ l2) (b_l2 : l2 ≤ 441) (V_h : VS_ h) (x_0 : h 34 1 + h 34 3 ≤ 1500000610) (x_1 : h 49 10 ≤ 419)  : Ok_ (qj_X10_closeSign_71 nn l1 l2 h) (QVR_ (fun r => (h 2 11 = 0 ∨ ¬ r 2 11 = 0) ∧ (r 34 1 + r 34 3 + 12 * r 49 10 + 20 * h 2 10 ≤ h 34 1 + h 34 3 + 12 * h 49 10 + 20 * r 2 10 + 10) ∧ (r 49 10 = h 49 10))) := by
  unfold qj_X10_closeSign_71
  have T1 := gF_2_10 V_h
  have T2 := gF_2_11 V_h
  have T3 := gF_34_1 V_h
  have T4 := gF_34_3 V_h
  have T5 := gF_49_10 V_h
  have T6 := gF_49_12 V_h
  refine ok_cP (vf_X10_isPair hn (by omega) (by omega) (by omega) (by omega) V_h) ?_; intro u41 e_u41 a_u41 b_u41
  refine ok_rd (by omega) (gA_51 V_h) ?_; intro v44 e_v44 a_v44 b_v44
  refine ok_cVR (vf_X10_wantType hn (by omega) (by omega) (by omega) (by omega) V_h) ?_; intro u46 E_u46 V_u46 R_u46
  have T7 : u46 2 10 = h 2 10 := (ff_X10_wantType nn) _ E_u46 2 10 rfl
  have T8 : u46 34 1 = h 34 1 := (ff_X10_wantType nn) _ E_u46 34 1 rfl
  have T9 : u46 34 3 = h 34 3 := (ff_X10_wantType nn) _ E_u46 34 3 rfl
  have T10 : u46 49 10 = h 49 10 := (ff_X10_wantType nn) _ E_u46 49 10 rfl
  have T11 : u46 49 12 = h 49 12 := (ff_X10_wantType nn) _ E_u46 49 12 rfl
  have T12 := gF_2_11 V_u46
  refine ok_cP (vf_X4_isNumber hn (by omega) (by omega) V_u46) ?_; intro u49 e_u49 a_u49 b_u49
  refine ok_cP (vf_X10_compareOp hn (by omega) (by omega) (by omega) (by omega) V_u46) ?_; intro u50 e_u50 a_u50 b_u50
  refine ok_cVR (vf_X1_truth hn (by omega) (by omega) (by omega) (by omega) V_u46 (by omega)) ?_; intro u52 E_u52 V_u52 R_u52
  have T13 : u52 2 10 = u46 2 10 := (ff_X1_truth nn) _ E_u52 2 10 rfl
  have T14 : u52 49 10 = u46 49 10 := (ff_X1_truth nn) _ E_u52 49 10 rfl
  have T15 : u52 2 11 = u46 2 11 := (ff_X1_truth nn) _ E_u52 2 11 rfl
  have T16 := gF_34_1 V_u52
  have T17 := gF_34_3 V_u52
  refine ok_xl ?_; intro h53 E_h53; have V_h53 : VS_ h53 := by rw [E_h53]; exact wF_49_12 V_u52 (by omega)
  have T18 : h53 2 10 = u52 2 10 := by rw [E_h53]; exact up_n (by decide)
  have T19 : h53 49 10 = u52 49 10 := by rw [E_h53]; exact up_n (by decide)
  have T20 : h53 2 11 = u52 2 11 := by rw [E_h53]; exact up_n (by decide)
  have T21 : h53 34 1 = u52 34 1 := by rw [E_h53]; exact up_n (by decide)
  have T22 : h53 34 3 = u52 34 3 := by rw [E_h53]; exact up_n (by decide)
  exact ok_mV (vj_X10_closeSign_293 hn V_h53 (by omega) (by omega)) (fun _ V_r R_r => by have := gF_2_10 V_r; have := gF_2_11 V_r; have := gF_34_1 V_r; have := gF_34_3 V_r; have := gF_49_10 V_r; omega)
set_option maxRecDepth 4000 in
theorem vj_X10_closeSign_42 {nn : Nat} (hn : 1000000 ≤ nn) {l1 : Int} {h : ms_M} (a_l1 : 67 ≤ l1) (b_l1 : l1 ≤ 69) (V_h : VS_ h) (x_0 : h 34 1 + h 34 3 ≤ 1500000615) (x_1 : h 49 10 ≤ 419)  : Ok_ (qj_X10_closeSign_42 nn l1 h) (QVR_ (fun r => (h 2 11 = 0 ∨ ¬ r 2 11 = 0) ∧ (r 34 1 + r 34 3 + 12 * r 49 10 + 20 * h 2 10 ≤ h 34 1 + h 34 3 + 12 * h 49 10 + 20 * r 2 10 + 5) ∧ (r 49 10 = h 49 10))) := by
  unfold qj_X10_closeSign_42
  have T1 := gF_2_10 V_h
  have T2 := gF_2_11 V_h
  have T3 := gF_34_1 V_h
  have T4 := gF_34_3 V_h
  have T5 := gF_49_10 V_h
  refine ok_rd (by omega) (gA_54 V_h) ?_; intro v56 e_v56 a_v56 b_v56
  refine ok_cVR (vf_X10_closeShort hn (by omega) (by omega) (by omega) (by omega) V_h (by omega)) ?_; intro u58 E_u58 V_u58 R_u58
  have T6 : u58 2 10 = h 2 10 := (ff_X10_closeShort nn) _ E_u58 2 10 rfl
  have T7 : u58 49 10 = h 49 10 := (ff_X10_closeShort nn) _ E_u58 49 10 rfl
  have T8 := gF_2_11 V_u58
  have T9 := gF_34_1 V_u58
  have T10 := gF_34_3 V_u58
  exact ok_mV (vj_X10_closeSign_293 hn V_u58 (by omega) (by omega)) (fun _ V_r R_r => by have := gF_2_10 V_r; have := gF_2_11 V_r; have := gF_34_1 V_r; have := gF_34_3 V_r; have := gF_49_10 V_r; omega)
set_option maxRecDepth 4000 in
theorem vf_X10_closeSign {nn : Nat} (hn : 1000000 ≤ nn) {h : ms_M} (V_h : VS_ h) (x_0 : h 34 1 + h 34 3 ≤ 1500000600) (x_1 : 1 ≤ h 49 10)  : Ok_ (qf_X10_closeSign nn h) (QVR_ (fun r => (h 2 11 = 0 ∨ ¬ r 2 11 = 0) ∧ (r 34 1 + r 34 3 + 12 * r 49 10 + 20 * h 2 10 ≤ h 34 1 + h 34 3 + 12 * h 49 10 + 20 * r 2 10 + (-2)) ∧ (r 49 10 = h 49 10 - 1))) := by
  unfold qf_X10_closeSign
  have T1 := gF_2_10 V_h
  have T2 := gF_2_11 V_h
  have T3 := gF_34_1 V_h
  have T4 := gF_34_3 V_h
  have T5 := gF_49_10 V_h
  refine ok_sub (by omega) ?_; intro v60 e_v60
  refine ok_xl ?_; intro h61 E_h61; have V_h61 : VS_ h61 := by rw [E_h61]; exact wF_49_10 V_h (by omega)
  have T6 : h61 2 10 = h 2 10 := by rw [E_h61]; exact up_n (by decide)
  have T7 : h61 2 11 = h 2 11 := by rw [E_h61]; exact up_n (by decide)
  have T8 : h61 34 1 = h 34 1 := by rw [E_h61]; exact up_n (by decide)
  have T9 : h61 34 3 = h 34 3 := by rw [E_h61]; exact up_n (by decide)
  have T10 : h61 49 10 = v60 := by rw [E_h61]; exact up_s
  refine ok_rd (by omega) (gA_50 V_h61) ?_; intro v64 e_v64 a_v64 b_v64
  refine ok_rd (by omega) (gA_53 V_h61) ?_; intro v67 e_v67 a_v67 b_v67
  refine ok_if ?_ ?_
  · intro C10
    exact ok_mV (vj_X10_closeSign_42 hn (by omega) (by omega) V_h61 (by omega) (by omega)) (fun _ V_r R_r => by have := gF_2_10 V_r; have := gF_2_11 V_r; have := gF_34_1 V_r; have := gF_34_3 V_r; have := gF_49_10 V_r; omega)
  · intro C10
    refine ok_if ?_ ?_
    · intro C11
      refine ok_if ?_ ?_
      · intro C12
        exact ok_mV (vj_X10_closeSign_71 hn (by omega) (by omega) (by omega) (by omega) V_h61 (by omega) (by omega)) (fun _ V_r R_r => by have := gF_2_10 V_r; have := gF_2_11 V_r; have := gF_34_1 V_r; have := gF_34_3 V_r; have := gF_49_10 V_r; omega)
      · intro C12
        refine ok_if ?_ ?_
        · intro C13
          refine ok_cP (vf_X9_level hn (by omega) (by omega) V_h61) ?_; intro u68 e_u68 a_u68 b_u68
          have T15 := lm_X9_level e_u68
          refine ok_if ?_ ?_
          · intro C15
            refine ok_if ?_ ?_
            · intro C16
              exact ok_mV (vj_X10_closeSign_207 hn (by omega) (by omega) (by omega) (by omega) V_h61 (by omega) (by omega)) (fun _ V_r R_r => by have := gF_2_10 V_r; have := gF_2_11 V_r; have := gF_34_1 V_r; have := gF_34_3 V_r; have := gF_49_10 V_r; omega)
            · intro C16
              refine ok_if ?_ ?_
              · intro C17
                exact ok_mV (vj_X10_closeSign_207 hn (by omega) (by omega) (by omega) (by omega) V_h61 (by omega) (by omega)) (fun _ V_r R_r => by have := gF_2_10 V_r; have := gF_2_11 V_r; have := gF_34_1 V_r; have := gF_34_3 V_r; have := gF_49_10 V_r; omega)
              · intro C17
                refine ok_if ?_ ?_
                · intro C18
                  exact ok_mV (vj_X10_closeSign_212 hn (by omega) (by omega) (by omega) (by omega) (by omega) (by omega) V_h61 (by omega) (by omega)) (fun _ V_r R_r => by have := gF_2_10 V_r; have := gF_2_11 V_r; have := gF_34_1 V_r; have := gF_34_3 V_r; have := gF_49_10 V_r; omega)
                · intro C18
                  exact ok_mV (vj_X10_closeSign_207 hn (by omega) (by omega) (by omega) (by omega) V_h61 (by omega) (by omega)) (fun _ V_r R_r => by have := gF_2_10 V_r; have := gF_2_11 V_r; have := gF_34_1 V_r; have := gF_34_3 V_r; have := gF_49_10 V_r; omega)
          · intro C15
            refine ok_if ?_ ?_
            · intro C19
              exact ok_mV (vj_X10_closeSign_153 hn (by omega) (by omega) V_h61 (by omega) (by omega)) (fun _ V_r R_r => by have := gF_2_10 V_r; have := gF_2_11 V_r; have := gF_34_1 V_r; have := gF_34_3 V_r; have := gF_49_10 V_r; omega)
            · intro C19
              have T21 := gF_49_12 V_h61
              refine ok_if ?_ ?_
              · intro C21
                exact ok_mV (vj_X10_closeSign_153 hn (by omega) (by omega) V_h61 (by omega) (by omega)) (fun _ V_r R_r => by have := gF_2_10 V_r; have := gF_2_11 V_r; have := gF_34_1 V_r; have := gF_34_3 V_r; have := gF_49_10 V_r; omega)
              · intro C21
                exact ok_mV (vj_X10_closeSign_154 hn (by omega) (by omega) (by omega) (by omega) V_h61 (by omega) (by omega)) (fun _ V_r R_r => by have := gF_2_10 V_r; have := gF_2_11 V_r; have := gF_34_1 V_r; have := gF_34_3 V_r; have := gF_49_10 V_r; omega)
        · intro C13
          exact ok_mV (vj_X10_closeSign_71 hn (by omega) (by omega) (by omega) (by omega) V_h61 (by omega) (by omega)) (fun _ V_r R_r => by have := gF_2_10 V_r; have := gF_2_11 V_r; have := gF_34_1 V_r; have := gF_34_3 V_r; have := gF_49_10 V_r; omega)
    · intro C11
      exact ok_mV (vj_X10_closeSign_42 hn (by omega) (by omega) V_h61 (by omega) (by omega)) (fun _ V_r R_r => by have := gF_2_10 V_r; have := gF_2_11 V_r; have := gF_34_1 V_r; have := gF_34_3 V_r; have := gF_49_10 V_r; omega)
set_option maxRecDepth 4000 in
theorem vf_X10_isSignDue {nn : Nat} (hn : 1000000 ≤ nn) {a1 : Int} {a2 : Int} {h : ms_M} (a_a1 : 0 ≤ a1) (b_a1 : a1 ≤ 420) (a_a2 : 0 ≤ a2) (b_a2 : a2 ≤ 10) (V_h : VS_ h)  : Ok_ (qf_X10_isSignDue nn a1 a2 h) (QP_ 0 1) := by
  unfold qf_X10_isSignDue
  have T1 := gF_49_10 V_h
  refine ok_if ?_ ?_
  · intro C1
    exact ok_rP (by omega) (by omega)
  · intro C1
    refine ok_sub (by omega) ?_; intro v4 e_v4
    refine ok_rd (by omega) (gA_50 V_h) ?_; intro v5 e_v5 a_v5 b_v5
    refine ok_cP (vf_X9_level hn (by omega) (by omega) V_h) ?_; intro u6 e_u6 a_u6 b_u6
    have T3 := lm_X9_level e_u6
    refine ok_if ?_ ?_
    · intro C3
      exact ok_rP (by omega) (by omega)
    · intro C3
      exact ok_rP (by omega) (by omega)
set_option maxRecDepth 4000 in
theorem vf_X9_kind {nn : Nat} (hn : 1000000 ≤ nn) {h : ms_M} (V_h : VS_ h)  : Ok_ (qf_X9_kind nn h) (QP_ 0 1740) := by
  unfold qf_X9_kind
  have T1 := gF_2_11 V_h
  refine ok_if ?_ ?_
  · intro C1
    exact ok_rP (by omega) (by omega)
  · intro C1
    have T3 := gF_2_10 V_h
    refine ok_if ?_ ?_
    · intro C3
      exfalso; omega
    · intro C3
      have T5 := gF_2_3 V_h
      refine ok_if ?_ ?_
      · intro C5
        exact ok_rP (by omega) (by omega)
      · intro C5
        refine ok_rd (by omega) (gA_3 V_h) ?_; intro v7 e_v7 a_v7 b_v7
        exact ok_rP (by omega) (by omega)
set_option maxRecDepth 4000 in
theorem vj_X10_openSign_159 {nn : Nat} (hn : 1000000 ≤ nn) {h : ms_M} (V_h : VS_ h) (x_0 : h 34 1 + h 34 3 ≤ 1500000725) (x_1 : h 2 10 ≤ 45000005)  : Ok_ (qj_X10_openSign_159 nn h) (QVR_ (fun r => (h 2 11 = 0 ∨ ¬ r 2 11 = 0) ∧ (r 34 1 + r 34 3 + 12 * r 49 10 + 20 * h 2 10 ≤ h 34 1 + h 34 3 + 12 * h 49 10 + 20 * r 2 10 + (-20)) ∧ (r 2 10 = h 2 10 + 1))) := by
  unfold qj_X10_openSign_159
  have T1 := gF_2_10 V_h
  have T2 := gF_2_11 V_h
  have T3 := gF_34_1 V_h
  have T4 := gF_34_3 V_h
  have T5 := gF_49_10 V_h
  refine ok_add (by omega) ?_; intro v3 e_v3
  refine ok_xl ?_; intro h4 E_h4; have V_h4 : VS_ h4 := by rw [E_h4]; exact wF_2_10 V_h (by omega)
  have T6 : h4 2 11 = h 2 11 := by rw [E_h4]; exact up_n (by decide)
  have T7 : h4 34 1 = h 34 1 := by rw [E_h4]; exact up_n (by decide)
  have T8 : h4 34 3 = h 34 3 := by rw [E_h4]; exact up_n (by decide)
  have T9 : h4 49 10 = h 49 10 := by rw [E_h4]; exact up_n (by decide)
  have T10 : h4 2 10 = v3 := by rw [E_h4]; exact up_s
  exact ok_rVR V_h4 (by omega)
set_option maxRecDepth 4000 in
theorem vj_X10_openSign_149 {nn : Nat} (hn : 1000000 ≤ nn) {h : ms_M} (V_h : VS_ h) (x_0 : h 34 1 + h 34 3 ≤ 1500000713) (x_1 : h 2 10 ≤ 45000005) (x_2 : h 49 10 ≤ 419)  : Ok_ (qj_X10_openSign_149 nn h) (QVR_ (fun r => (h 2 11 = 0 ∨ ¬ r 2 11 = 0) ∧ (r 34 1 + r 34 3 + 12 * r 49 10 + 20 * h 2 10 ≤ h 34 1 + h 34 3 + 12 * h 49 10 + 20 * r 2 10 + (-8)) ∧ (r 2 10 = h 2 10 + 1))) := by
  unfold qj_X10_openSign_149
  have T1 := gF_2_10 V_h
  have T2 := gF_2_11 V_h
  have T3 := gF_34_1 V_h
  have T4 := gF_34_3 V_h
  have T5 := gF_49_10 V_h
  refine ok_add (by omega) ?_; intro v6 e_v6
  refine ok_xl ?_; intro h7 E_h7; have V_h7 : VS_ h7 := by rw [E_h7]; exact wF_49_10 V_h (by omega)
  have T6 : h7 2 10 = h 2 10 := by rw [E_h7]; exact up_n (by decide)
  have T7 : h7 2 11 = h 2 11 := by rw [E_h7]; exact up_n (by decide)
  have T8 : h7 34 1 = h 34 1 := by rw [E_h7]; exact up_n (by decide)
  have T9 : h7 34 3 = h 34 3 := by rw [E_h7]; exact up_n (by decide)
  have T10 : h7 49 10 = v6 := by rw [E_h7]; exact up_s
  exact ok_mV (vj_X10_openSign_159 hn V_h7 (by omega) (by omega)) (fun _ V_r R_r => by have := gF_2_10 V_r; have := gF_2_11 V_r; have := gF_34_1 V_r; have := gF_34_3 V_r; have := gF_49_10 V_r; omega)
set_option maxRecDepth 4000 in
theorem vj_X10_openSign_144 {nn : Nat} (hn : 1000000 ≤ nn) {s0 : Int} {s2 : Int} {h : ms_M} (a_s0 : 153 ≤ s0) (b_s0 : s0 ≤ 154) (a_s2 : 0 ≤ s2) (b_s2 : s2 ≤ 420) (V_h : VS_ h) (x_0 : h 34 1 + h 34 3 ≤ 1500000710) (x_1 : h 2 10 ≤ 45000005) (x_2 : h 49 10 ≤ 419) (x_3 : 0 ≤ s2 ∧ s2 ≤ 419)  : Ok_ (qj_X10_openSign_144 nn s0 s2 h) (QVR_ (fun r => (h 2 11 = 0 ∨ ¬ r 2 11 = 0) ∧ (r 34 1 + r 34 3 + 12 * r 49 10 + 20 * h 2 10 ≤ h 34 1 + h 34 3 + 12 * h 49 10 + 20 * r 2 10 + (-5)) ∧ (r 2 10 = h 2 10 + 1))) := by
  unfold qj_X10_openSign_144
  have T1 := gF_2_10 V_h
  have T2 := gF_2_11 V_h
  have T3 := gF_34_1 V_h
  have T4 := gF_34_3 V_h
  have T5 := gF_49_10 V_h
  refine ok_cIR (vf_X1_jump hn (by omega) (by omega) (by omega) (by omega) V_h (by omega)) ?_; intro u9 E_u9 V_u9 a_u9 b_u9 R_u9
  have T6 : u9.2 2 10 = h 2 10 := (ff_X1_jump nn) _ E_u9 2 10 rfl
  have T7 : u9.2 2 11 = h 2 11 := (ff_X1_jump nn) _ E_u9 2 11 rfl
  have T8 : u9.2 49 10 = h 49 10 := (ff_X1_jump nn) _ E_u9 49 10 rfl
  have T9 := gF_34_1 V_u9
  have T10 := gF_34_3 V_u9
  refine ok_wA (by omega) ?_; intro h10 E_h10; have V_h10 : VS_ h10 := by rw [E_h10]; exact wA_54 V_u9 (by omega)
  have T11 : h10 2 10 = u9.2 2 10 := by rw [E_h10]; exact up_n (fun z => absurd z.1 (by decide))
  have T12 : h10 2 11 = u9.2 2 11 := by rw [E_h10]; exact up_n (fun z => absurd z.1 (by decide))
  have T13 : h10 49 10 = u9.2 49 10 := by rw [E_h10]; exact up_n (fun z => absurd z.1 (by decide))
  have T14 : h10 34 1 = u9.2 34 1 := by rw [E_h10]; exact up_n (fun z => absurd z.1 (by decide))
  have T15 : h10 34 3 = u9.2 34 3 := by rw [E_h10]; exact up_n (fun z => absurd z.1 (by decide))
  exact ok_mV (vj_X10_openSign_149 hn V_h10 (by omega) (by omega) (by omega)) (fun _ V_r R_r => by have := gF_2_10 V_r; have := gF_2_11 V_r; have := gF_34_1 V_r; have := gF_34_3 V_r; have := gF_49_10 V_r; omega)
set_option maxRecDepth 4000 in
theorem vj_X10_openSign_110 {nn : Nat} (hn : 1000000 ≤ nn) {l1 : Int} {s0 : Int} {h : ms_M} (a_l1 : 67 ≤ l1) (b_l1 : l1 ≤ 69) (a_s0 : 0 ≤ s0) (b_s0 : s0 ≤ 1) (V_h : VS_ h) (x_0 : h 34 1 + h 34 3 ≤ 1500000710) (x_1 : h 2 10 ≤ 45000005) (x_2 : h 49 10 ≤ 419)  : Ok_ (qj_X10_openSign_110 nn l1 s0 h) (QVR_ (fun r => (h 2 11 = 0 ∨ ¬ r 2 11 = 0) ∧ (r 34 1 + r 34 3 + 12 * r 49 10 + 20 * h 2 10 ≤ h 34 1 + h 34 3 + 12 * h 49 10 + 20 * r 2 10 + (-5)) ∧ (r 2 10 = h 2 10 + 1))) := by
  unfold qj_X10_openSign_110
  have T1 := gF_2_10 V_h
  have T2 := gF_2_11 V_h
  have T3 := gF_34_1 V_h
  have T4 := gF_34_3 V_h
  have T5 := gF_49_10 V_h
  have T6 := gF_49_15 V_h
  refine ok_cVR (vf_X10_wantType hn (by omega) (by omega) (by omega) (by omega) V_h) ?_; intro u13 E_u13 V_u13 R_u13
  have T7 : u13 2 10 = h 2 10 := (ff_X10_wantType nn) _ E_u13 2 10 rfl
  have T8 : u13 34 1 = h 34 1 := (ff_X10_wantType nn) _ E_u13 34 1 rfl
  have T9 : u13 34 3 = h 34 3 := (ff_X10_wantType nn) _ E_u13 34 3 rfl
  have T10 : u13 49 10 = h 49 10 := (ff_X10_wantType nn) _ E_u13 49 10 rfl
  have T11 := gF_2_11 V_u13
  refine ok_if ?_ ?_
  · intro C11
    exact ok_mV (vj_X10_openSign_144 hn (by omega) (by omega) (by omega) (by omega) V_u13 (by omega) (by omega) (by omega) (by omega)) (fun _ V_r R_r => by have := gF_2_10 V_r; have := gF_2_11 V_r; have := gF_34_1 V_r; have := gF_34_3 V_r; have := gF_49_10 V_r; omega)
  · intro C11
    exact ok_mV (vj_X10_openSign_144 hn (by omega) (by omega) (by omega) (by omega) V_u13 (by omega) (by omega) (by omega) (by omega)) (fun _ V_r R_r => by have := gF_2_10 V_r; have := gF_2_11 V_r; have := gF_34_1 V_r; have := gF_34_3 V_r; have := gF_49_10 V_r; omega)
set_option maxRecDepth 4000 in
theorem vj_X10_openSign_94 {nn : Nat} (hn : 1000000 ≤ nn) {l1 : Int} {h : ms_M} (a_l1 : 67 ≤ l1) (b_l1 : l1 ≤ 69) (V_h : VS_ h) (x_0 : h 34 1 + h 34 3 ≤ 1500000710) (x_1 : h 2 10 ≤ 45000005) (x_2 : h 49 10 ≤ 419)  : Ok_ (qj_X10_openSign_94 nn l1 h) (QVR_ (fun r => (h 2 11 = 0 ∨ ¬ r 2 11 = 0) ∧ (r 34 1 + r 34 3 + 12 * r 49 10 + 20 * h 2 10 ≤ h 34 1 + h 34 3 + 12 * h 49 10 + 20 * r 2 10 + (-5)) ∧ (r 2 10 = h 2 10 + 1))) := by
  unfold qj_X10_openSign_94
  have T1 := gF_2_10 V_h
  have T2 := gF_2_11 V_h
  have T3 := gF_34_1 V_h
  have T4 := gF_34_3 V_h
  have T5 := gF_49_10 V_h
  have T6 := gF_49_12 V_h
  refine ok_if ?_ ?_
  · intro C6
    exact ok_mV (vj_X10_openSign_110 hn (by omega) (by omega) (by omega) (by omega) V_h (by omega) (by omega) (by omega)) (fun _ V_r R_r => by have := gF_2_10 V_r; have := gF_2_11 V_r; have := gF_34_1 V_r; have := gF_34_3 V_r; have := gF_49_10 V_r; omega)
  · intro C6
    exact ok_mV (vj_X10_openSign_110 hn (by omega) (by omega) (by omega) (by omega) V_h (by omega) (by omega) (by omega)) (fun _ V_r R_r => by have := gF_2_10 V_r; have := gF_2_11 V_r; have := gF_34_1 V_r; have := gF_34_3 V_r; have := gF_49_10 V_r; omega)
set_option maxRecDepth 4000 in
theorem vf_X10_openSign {nn : Nat} (hn : 1000000 ≤ nn) {h : ms_M} (V_h : VS_ h) (x_0 : h 34 1 + h 34 3 ≤ 1500000700) (x_1 : h 2 10 ≤ 45000000)  : Ok_ (qf_X10_openSign nn h) (QVR_ (fun r => (h 2 11 = 0 ∨ ¬ r 2 11 = 0) ∧ (r 34 1 + r 34 3 + 12 * r 49 10 + 20 * h 2 10 ≤ h 34 1 + h 34 3 + 12 * h 49 10 + 20 * r 2 10 + (-5)) ∧ (r 2 10 = h 2 10 + 1))) := by
  unfold qf_X10_openSign
  have T1 := gF_2_10 V_h
  have T2 := gF_2_11 V_h
  have T3 := gF_34_1 V_h
  have T4 := gF_34_3 V_h
  have T5 := gF_49_10 V_h
  refine ok_cP (vf_X9_kind hn V_h) ?_; intro u22 e_u22 a_u22 b_u22
  have T6 := lm_X9_kind e_u22
  refine ok_if ?_ ?_
  · intro C6
    exact ok_mV (vj_X10_openSign_159 hn V_h (by omega) (by omega)) (fun _ V_r R_r => by have := gF_2_10 V_r; have := gF_2_11 V_r; have := gF_34_1 V_r; have := gF_34_3 V_r; have := gF_49_10 V_r; omega)
  · intro C6
    refine ok_wA (by omega) ?_; intro h28 E_h28; have V_h28 : VS_ h28 := by rw [E_h28]; exact wA_50 V_h (by omega)
    have T8 : h28 2 10 = h 2 10 := by rw [E_h28]; exact up_n (fun z => absurd z.1 (by decide))
    have T9 : h28 2 11 = h 2 11 := by rw [E_h28]; exact up_n (fun z => absurd z.1 (by decide))
    have T10 : h28 34 1 = h 34 1 := by rw [E_h28]; exact up_n (fun z => absurd z.1 (by decide))
    have T11 : h28 34 3 = h 34 3 := by rw [E_h28]; exact up_n (fun z => absurd z.1 (by decide))
    have T12 : h28 49 10 = h 49 10 := by rw [E_h28]; exact up_n (fun z => absurd z.1 (by decide))
    refine ok_wA (by omega) ?_; intro h33 E_h33; have V_h33 : VS_ h33 := by rw [E_h33]; exact wA_51 V_h28 (by omega)
    have T13 : h33 2 10 = h28 2 10 := by rw [E_h33]; exact up_n (fun z => absurd z.1 (by decide))
    have T14 : h33 2 11 = h28 2 11 := by rw [E_h33]; exact up_n (fun z => absurd z.1 (by decide))
    have T15 : h33 34 1 = h28 34 1 := by rw [E_h33]; exact up_n (fun z => absurd z.1 (by decide))
    have T16 : h33 34 3 = h28 34 3 := by rw [E_h33]; exact up_n (fun z => absurd z.1 (by decide))
    have T17 : h33 49 10 = h28 49 10 := by rw [E_h33]; exact up_n (fun z => absurd z.1 (by decide))
    have T18 := gF_49_15 V_h33
    refine ok_wA (by omega) ?_; intro h37 E_h37; have V_h37 : VS_ h37 := by rw [E_h37]; exact wA_52 V_h33 (by omega)
    have T19 : h37 2 10 = h33 2 10 := by rw [E_h37]; exact up_n (fun z => absurd z.1 (by decide))
    have T20 : h37 2 11 = h33 2 11 := by rw [E_h37]; exact up_n (fun z => absurd z.1 (by decide))
    have T21 : h37 34 1 = h33 34 1 := by rw [E_h37]; exact up_n (fun z => absurd z.1 (by decide))
    have T22 : h37 34 3 = h33 34 3 := by rw [E_h37]; exact up_n (fun z => absurd z.1 (by decide))
    have T23 : h37 49 10 = h33 49 10 := by rw [E_h37]; exact up_n (fun z => absurd z.1 (by decide))
    have T24 := gF_49_12 V_h37
    refine ok_wA (by omega) ?_; intro h41 E_h41; have V_h41 : VS_ h41 := by rw [E_h41]; exact wA_53 V_h37 (by omega)
    have T25 : h41 2 10 = h37 2 10 := by rw [E_h41]; exact up_n (fun z => absurd z.1 (by decide))
    have T26 : h41 2 11 = h37 2 11 := by rw [E_h41]; exact up_n (fun z => absurd z.1 (by decide))
    have T27 : h41 34 1 = h37 34 1 := by rw [E_h41]; exact up_n (fun z => absurd z.1 (by decide))
    have T28 : h41 34 3 = h37 34 3 := by rw [E_h41]; exact up_n (fun z => absurd z.1 (by decide))
    have T29 : h41 49 10 = h37 49 10 := by rw [E_h41]; exact up_n (fun z => absurd z.1 (by decide))
    refine ok_wA (by omega) ?_; intro h44 E_h44; have V_h44 : VS_ h44 := by rw [E_h44]; exact wA_54 V_h41 (by omega)
    have T30 : h44 2 10 = h41 2 10 := by rw [E_h44]; exact up_n (fun z => absurd z.1 (by decide))
    have T31 : h44 2 11 = h41 2 11 := by rw [E_h44]; exact up_n (fun z => absurd z.1 (by decide))
    have T32 : h44 34 1 = h41 34 1 := by rw [E_h44]; exact up_n (fun z => absurd z.1 (by decide))
    have T33 : h44 34 3 = h41 34 3 := by rw [E_h44]; exact up_n (fun z => absurd z.1 (by decide))
    have T34 : h44 49 10 = h41 49 10 := by rw [E_h44]; exact up_n (fun z => absurd z.1 (by decide))
    refine ok_if ?_ ?_
    · intro C34
      exact ok_mV (vj_X10_openSign_94 hn (by omega) (by omega) V_h44 (by omega) (by omega) (by omega)) (fun _ V_r R_r => by have := gF_2_10 V_r; have := gF_2_11 V_r; have := gF_34_1 V_r; have := gF_34_3 V_r; have := gF_49_10 V_r; omega)
    · intro C34
      refine ok_if ?_ ?_
      · intro C35
        exact ok_mV (vj_X10_openSign_149 hn V_h44 (by omega) (by omega) (by omega)) (fun _ V_r R_r => by have := gF_2_10 V_r; have := gF_2_11 V_r; have := gF_34_1 V_r; have := gF_34_3 V_r; have := gF_49_10 V_r; omega)
      · intro C35
        exact ok_mV (vj_X10_openSign_94 hn (by omega) (by omega) V_h44 (by omega) (by omega) (by omega)) (fun _ V_r R_r => by have := gF_2_10 V_r; have := gF_2_11 V_r; have := gF_34_1 V_r; have := gF_34_3 V_r; have := gF_49_10 V_r; omega)
set_option maxRecDepth 4000 in
theorem vf_X9_kindAt {nn : Nat} (hn : 1000000 ≤ nn) {a1 : Int} {h : ms_M} (a_a1 : 0 ≤ a1) (b_a1 : a1 ≤ 50000003) (V_h : VS_ h)  : Ok_ (qf_X9_kindAt nn a1 h) (QP_ 0 1740) := by
  unfold qf_X9_kindAt
  refine ok_if ?_ ?_
  · intro C0
    exfalso; omega
  · intro C0
    have T2 := gF_2_3 V_h
    refine ok_if ?_ ?_
    · intro C2
      exact ok_rP (by omega) (by omega)
    · intro C2
      refine ok_rd (by omega) (gA_3 V_h) ?_; intro v3 e_v3 a_v3 b_v3
      exact ok_rP (by omega) (by omega)
set_option maxRecDepth 4000 in
theorem vf_X9_valueAt {nn : Nat} (hn : 1000000 ≤ nn) {a1 : Int} {h : ms_M} (a_a1 : (-1) ≤ a1) (b_a1 : a1 ≤ 50000003) (V_h : VS_ h)  : Ok_ (qf_X9_valueAt nn a1 h) (QP_ 0 2147483647) := by
  unfold qf_X9_valueAt
  refine ok_if ?_ ?_
  · intro C0
    exact ok_rP (by omega) (by omega)
  · intro C0
    have T2 := gF_2_3 V_h
    refine ok_if ?_ ?_
    · intro C2
      exact ok_rP (by omega) (by omega)
    · intro C2
      refine ok_rd (by omega) (gA_5 V_h) ?_; intro v3 e_v3 a_v3 b_v3
      exact ok_rP (by omega) (by omega)
set_option maxRecDepth 4000 in
theorem vf_X2_classAt {nn : Nat} (hn : 1000000 ≤ nn) {a1 : Int} {h : ms_M} (a_a1 : 0 ≤ a1) (b_a1 : a1 ≤ 50000002) (V_h : VS_ h)  : Ok_ (qf_X2_classAt nn a1 h) (QP_ (-1) 341) := by
  unfold qf_X2_classAt
  refine ok_cP (vf_X9_valueAt hn (by omega) (by omega) V_h) ?_; intro u3 e_u3 a_u3 b_u3
  refine ok_cP (vf_X9_kindAt hn (by omega) (by omega) V_h) ?_; intro u6 e_u6 a_u6 b_u6
  have T1 := lm_X9_kindAt e_u6
  refine ok_if ?_ ?_
  · intro C1
    exact ok_rP (by omega) (by omega)
  · intro C1
    refine ok_if ?_ ?_
    · intro C2
      exact ok_rP (by omega) (by omega)
    · intro C2
      refine ok_rd (by omega) (gA_16 V_h) ?_; intro v10 e_v10 a_v10 b_v10
      exact ok_rP (by omega) (by omega)
set_option maxRecDepth 4000 in
theorem vj_X10_readNamedClass_23 {nn : Nat} (hn : 1000000 ≤ nn) {l2 : Int} {l3 : Int} {h : ms_M} (a_l2 : 0 ≤ l2) (b_l2 : l2 ≤ 45000020) (a_l3 : (-1) ≤ l3) (b_l3 : l3 ≤ 341) (V_h : VS_ h) (x_0 : l2 ≤ 45000010)  : Ok_ (qj_X10_readNamedClass_23 nn l2 l3 h) (QIR_ (-1) 341 (fun u r => (h 2 11 = 0 ∨ ¬ r 2 11 = 0) ∧ (r 2 10 = l2))) := by
  unfold qj_X10_readNamedClass_23
  have T1 := gF_2_10 V_h
  have T2 := gF_2_11 V_h
  refine ok_xl ?_; intro h2 E_h2; have V_h2 : VS_ h2 := by rw [E_h2]; exact wF_2_10 V_h (by omega)
  have T3 : h2 2 11 = h 2 11 := by rw [E_h2]; exact up_n (by decide)
  have T4 : h2 2 10 = l2 := by rw [E_h2]; exact up_s
  exact ok_rIR V_h2 (by omega) (by omega) (by omega)
set_option maxRecDepth 4000 in
theorem vf_X10_readNamedClass {nn : Nat} (hn : 1000000 ≤ nn) {a1 : Int} {a2 : Int} {h : ms_M} (a_a1 : 0 ≤ a1) (b_a1 : a1 ≤ 50000001) (a_a2 : 0 ≤ a2) (b_a2 : a2 ≤ 45000020) (V_h : VS_ h) (x_0 : a2 ≤ 45000010)  : Ok_ (qf_X10_readNamedClass nn a1 a2 h) (QIR_ (-1) 341 (fun u r => (h 2 11 = 0 ∨ ¬ r 2 11 = 0) ∧ (r 2 10 = a2))) := by
  unfold qf_X10_readNamedClass
  have T1 := gF_2_10 V_h
  have T2 := gF_2_11 V_h
  refine ok_cP (vf_X2_classAt hn (by omega) (by omega) V_h) ?_; intro u5 e_u5 a_u5 b_u5
  refine ok_if ?_ ?_
  · intro C2
    exact ok_mI (vj_X10_readNamedClass_23 hn (by omega) (by omega) (by omega) (by omega) V_h (by omega)) (fun _ _ V_r R_r => by have := gF_2_10 V_r; have := gF_2_11 V_r; omega)
  · intro C2
    refine ok_cVR (vf_X9_tell hn (by omega) (by omega) (by omega) (by omega) V_h) ?_; intro u8 E_u8 V_u8 R_u8
    have T4 : u8 2 10 = h 2 10 := (ff_X9_tell nn) _ E_u8 2 10 rfl
    have T5 := gF_2_11 V_u8
    exact ok_mI (vj_X10_readNamedClass_23 hn (by omega) (by omega) (by omega) (by omega) V_u8 (by omega)) (fun _ _ V_r R_r => by have := gF_2_10 V_r; have := gF_2_11 V_r; omega)
set_option maxRecDepth 4000 in
theorem vj_X10_wantKinOf_30 {nn : Nat} (hn : 1000000 ≤ nn) {l2 : Int} {h : ms_M} (a_l2 : 1 ≤ l2) (b_l2 : l2 ≤ 50000001) (V_h : VS_ h)  : Ok_ (qj_X10_wantKinOf_30 nn l2 h) (QVR_ (fun r => (h 2 11 = 0 ∨ ¬ r 2 11 = 0))) := by
  unfold qj_X10_wantKinOf_30
  have T1 := gF_2_11 V_h
  refine ok_cVR (vf_X10_wantType hn (by omega) (by omega) (by omega) (by omega) V_h) ?_; intro u2 E_u2 V_u2 R_u2
  have T2 := gF_2_11 V_u2
  exact ok_rVR V_u2 (by omega)
set_option maxRecDepth 4000 in
theorem vf_X10_wantKinOf {nn : Nat} (hn : 1000000 ≤ nn) {a1 : Int} {a2 : Int} {h : ms_M} (a_a1 : 0 ≤ a1) (b_a1 : a1 ≤ 341) (a_a2 : 1 ≤ a2) (b_a2 : a2 ≤ 50000001) (V_h : VS_ h)  : Ok_ (qf_X10_wantKinOf nn a1 a2 h) (QVR_ (fun r => (h 2 11 = 0 ∨ ¬ r 2 11 = 0))) := by
  unfold qf_X10_wantKinOf
  have T1 := gF_2_11 V_h
  have T2 := gF_49_12 V_h
  refine ok_cP (vf_X4_isReference hn (by omega) (by omega) V_h) ?_; intro u4 e_u4 a_u4 b_u4
  refine ok_if ?_ ?_
  · intro C2
    exact ok_mV (vj_X10_wantKinOf_30 hn (by omega) (by omega) V_h) (fun _ V_r R_r => by have := gF_2_11 V_r; omega)
  · intro C2
    refine ok_cP (vf_X4_oneFits hn (by omega) (by omega) (by omega) (by omega) V_h) ?_; intro u8 e_u8 a_u8 b_u8
    refine ok_if ?_ ?_
    · intro C3
      exact ok_mV (vj_X10_wantKinOf_30 hn (by omega) (by omega) V_h) (fun _ V_r R_r => by have := gF_2_11 V_r; omega)
    · intro C3
      refine ok_cVR (vf_X10_wantType hn (by omega) (by omega) (by omega) (by omega) V_h) ?_; intro u10 E_u10 V_u10 R_u10
      have T5 := gF_2_11 V_u10
      exact ok_rVR V_u10 (by omega)
set_option maxRecDepth 4000 in
theorem vf_X1_op_ {nn : Nat} (hn : 1000000 ≤ nn) {a1 : Int} {a2 : Int} {h : ms_M} (a_a1 : 2 ≤ a1) (b_a1 : a1 ≤ 193) (a_a2 : (-1) ≤ a2) (b_a2 : a2 ≤ 1000000) (V_h : VS_ h) (x_0 : h 34 1 + h 34 3 ≤ 1500000800)  : Ok_ (qf_X1_op_ nn a1 a2 h) (QVR_ (fun r => (r 34 1 + r 34 3 ≤ h 34 1 + h 34 3 + 2))) := by
  unfold qf_X1_op_
  have T1 := gF_34_1 V_h
  have T2 := gF_34_3 V_h
  refine ok_cVR (vf_X1_op hn (by omega) (by omega) V_h (by omega)) ?_; intro u2 E_u2 V_u2 R_u2
  have T3 : u2 34 3 = h 34 3 := (ff_X1_op nn) _ E_u2 34 3 rfl
  have T4 := gF_34_1 V_u2
  refine ok_cVR (vf_X1_op hn (by omega) (by omega) V_u2 (by omega)) ?_; intro u4 E_u4 V_u4 R_u4
  have T5 : u4 34 3 = u2 34 3 := (ff_X1_op nn) _ E_u4 34 3 rfl
  have T6 := gF_34_1 V_u4
  exact ok_rVR V_u4 (by omega)
set_option maxRecDepth 4000 in
theorem vj_X10_readInstanceof_66 {nn : Nat} (hn : 1000000 ≤ nn) {h : ms_M} (V_h : VS_ h) (x_0 : h 34 1 + h 34 3 ≤ 1500000710) (x_1 : h 2 10 ≤ 45000005)  : Ok_ (qj_X10_readInstanceof_66 nn h) (QVR_ (fun r => (h 2 11 = 0 ∨ ¬ r 2 11 = 0) ∧ (r 34 1 + r 34 3 + 12 * r 49 10 + 20 * h 2 10 ≤ h 34 1 + h 34 3 + 12 * h 49 10 + 20 * r 2 10 + 0) ∧ (r 2 10 = h 2 10))) := by
  unfold qj_X10_readInstanceof_66
  have T1 := gF_2_10 V_h
  have T2 := gF_2_11 V_h
  have T3 := gF_34_1 V_h
  have T4 := gF_34_3 V_h
  have T5 := gF_49_10 V_h
  refine ok_xl ?_; intro h1 E_h1; have V_h1 : VS_ h1 := by rw [E_h1]; exact wF_49_12 V_h (by omega)
  have T6 : h1 2 10 = h 2 10 := by rw [E_h1]; exact up_n (by decide)
  have T7 : h1 2 11 = h 2 11 := by rw [E_h1]; exact up_n (by decide)
  have T8 : h1 34 1 = h 34 1 := by rw [E_h1]; exact up_n (by decide)
  have T9 : h1 34 3 = h 34 3 := by rw [E_h1]; exact up_n (by decide)
  have T10 : h1 49 10 = h 49 10 := by rw [E_h1]; exact up_n (by decide)
  refine ok_xl ?_; intro h2 E_h2; have V_h2 : VS_ h2 := by rw [E_h2]; exact wF_49_11 V_h1 (by omega)
  have T11 : h2 2 10 = h1 2 10 := by rw [E_h2]; exact up_n (by decide)
  have T12 : h2 2 11 = h1 2 11 := by rw [E_h2]; exact up_n (by decide)
  have T13 : h2 34 1 = h1 34 1 := by rw [E_h2]; exact up_n (by decide)
  have T14 : h2 34 3 = h1 34 3 := by rw [E_h2]; exact up_n (by decide)
  have T15 : h2 49 10 = h1 49 10 := by rw [E_h2]; exact up_n (by decide)
  exact ok_rVR V_h2 (by omega)
set_option maxRecDepth 4000 in
theorem vf_X10_readInstanceof {nn : Nat} (hn : 1000000 ≤ nn) {h : ms_M} (V_h : VS_ h) (x_0 : h 34 1 + h 34 3 ≤ 1500000700) (x_1 : h 2 10 ≤ 45000000)  : Ok_ (qf_X10_readInstanceof nn h) (QVR_ (fun r => (h 2 11 = 0 ∨ ¬ r 2 11 = 0) ∧ (r 34 1 + r 34 3 + 12 * r 49 10 + 20 * h 2 10 ≤ h 34 1 + h 34 3 + 12 * h 49 10 + 20 * r 2 10 + (-37)) ∧ (r 2 10 = h 2 10 + 2))) := by
  unfold qf_X10_readInstanceof
  have T1 := gF_2_10 V_h
  have T2 := gF_2_11 V_h
  have T3 := gF_34_1 V_h
  have T4 := gF_34_3 V_h
  have T5 := gF_49_10 V_h
  refine ok_add (by omega) ?_; intro v5 e_v5
  refine ok_add (by omega) ?_; intro v6 e_v6
  refine ok_cIR (vf_X10_readNamedClass hn (by omega) (by omega) (by omega) (by omega) V_h (by omega)) ?_; intro u8 E_u8 V_u8 a_u8 b_u8 R_u8
  have T6 : u8.2 34 1 = h 34 1 := (ff_X10_readNamedClass nn) _ E_u8 34 1 rfl
  have T7 : u8.2 34 3 = h 34 3 := (ff_X10_readNamedClass nn) _ E_u8 34 3 rfl
  have T8 : u8.2 49 10 = h 49 10 := (ff_X10_readNamedClass nn) _ E_u8 49 10 rfl
  have T9 := gF_2_10 V_u8
  have T10 := gF_2_11 V_u8
  refine ok_if ?_ ?_
  · intro C10
    exact ok_mV (vj_X10_readInstanceof_66 hn V_u8 (by omega) (by omega)) (fun _ V_r R_r => by have := gF_2_10 V_r; have := gF_2_11 V_r; have := gF_34_1 V_r; have := gF_34_3 V_r; have := gF_49_10 V_r; omega)
  · intro C10
    refine ok_cVR (vf_X10_wantKinOf hn (by omega) (by omega) (by omega) (by omega) V_u8) ?_; intro u10 E_u10 V_u10 R_u10
    have T12 : u10 34 1 = u8.2 34 1 := (ff_X10_wantKinOf nn) _ E_u10 34 1 rfl
    have T13 : u10 34 3 = u8.2 34 3 := (ff_X10_wantKinOf nn) _ E_u10 34 3 rfl
    have T14 : u10 49 10 = u8.2 49 10 := (ff_X10_wantKinOf nn) _ E_u10 49 10 rfl
    have T15 : u10 2 10 = u8.2 2 10 := (ff_X10_wantKinOf nn) _ E_u10 2 10 rfl
    have T16 := gF_2_11 V_u10
    refine ok_cI (vf_X6_classOf hn (by omega) (by omega) V_u10) ?_; intro u14 E_u14 V_u14 a_u14 b_u14
    have T17 : u14.2 34 1 = u10 34 1 := (ff_X6_classOf nn) _ E_u14 34 1 rfl
    have T18 : u14.2 34 3 = u10 34 3 := (ff_X6_classOf nn) _ E_u14 34 3 rfl
    have T19 : u14.2 49 10 = u10 49 10 := (ff_X6_classOf nn) _ E_u14 49 10 rfl
    have T20 : u14.2 2 10 = u10 2 10 := (ff_X6_classOf nn) _ E_u14 2 10 rfl
    have T21 : u14.2 2 11 = u10 2 11 := (ff_X6_classOf nn) _ E_u14 2 11 rfl
    refine ok_cVR (vf_X1_op_ hn (by omega) (by omega) (by omega) (by omega) V_u14 (by omega)) ?_; intro u16 E_u16 V_u16 R_u16
    have T22 : u16 34 3 = u14.2 34 3 := (ff_X1_op_ nn) _ E_u16 34 3 rfl
    have T23 : u16 49 10 = u14.2 49 10 := (ff_X1_op_ nn) _ E_u16 49 10 rfl
    have T24 : u16 2 10 = u14.2 2 10 := (ff_X1_op_ nn) _ E_u16 2 10 rfl
    have T25 : u16 2 11 = u14.2 2 11 := (ff_X1_op_ nn) _ E_u16 2 11 rfl
    have T26 := gF_34_1 V_u16
    refine ok_cVR (vf_X1_pop hn (by omega) (by omega) V_u16 (by omega)) ?_; intro u19 E_u19 V_u19 R_u19
    have T27 : u19 49 10 = u16 49 10 := (ff_X1_pop nn) _ E_u19 49 10 rfl
    have T28 : u19 2 10 = u16 2 10 := (ff_X1_pop nn) _ E_u19 2 10 rfl
    have T29 : u19 2 11 = u16 2 11 := (ff_X1_pop nn) _ E_u19 2 11 rfl
    have T30 : u19 34 1 = u16 34 1 := (ff_X1_pop nn) _ E_u19 34 1 rfl
    have T31 := gF_34_3 V_u19
    refine ok_cVR (vf_X1_push hn (by omega) (by omega) V_u19 (by omega)) ?_; intro u22 E_u22 V_u22 R_u22
    have T32 : u22 49 10 = u19 49 10 := (ff_X1_push nn) _ E_u22 49 10 rfl
    have T33 : u22 2 10 = u19 2 10 := (ff_X1_push nn) _ E_u22 2 10 rfl
    have T34 : u22 2 11 = u19 2 11 := (ff_X1_push nn) _ E_u22 2 11 rfl
    have T35 : u22 34 1 = u19 34 1 := (ff_X1_push nn) _ E_u22 34 1 rfl
    have T36 := gF_34_3 V_u22
    exact ok_mV (vj_X10_readInstanceof_66 hn V_u22 (by omega) (by omega)) (fun _ V_r R_r => by have := gF_2_10 V_r; have := gF_2_11 V_r; have := gF_34_1 V_r; have := gF_34_3 V_r; have := gF_49_10 V_r; omega)
set_option maxRecDepth 4000 in
theorem vf_X10_closeCast {nn : Nat} (hn : 1000000 ≤ nn) {a1 : Int} {a2 : Int} {h : ms_M} (a_a1 : (-1) ≤ a1) (b_a1 : a1 ≤ 341) (a_a2 : 1 ≤ a2) (b_a2 : a2 ≤ 50000001) (V_h : VS_ h) (x_0 : h 34 1 + h 34 3 ≤ 1500000700)  : Ok_ (qf_X10_closeCast nn a1 a2 h) (QVR_ (fun r => (h 2 11 = 0 ∨ ¬ r 2 11 = 0) ∧ (r 34 1 + r 34 3 + 12 * r 49 10 + 20 * h 2 10 ≤ h 34 1 + h 34 3 + 12 * h 49 10 + 20 * r 2 10 + 3))) := by
  unfold qf_X10_closeCast
  have T1 := gF_2_10 V_h
  have T2 := gF_2_11 V_h
  have T3 := gF_34_1 V_h
  have T4 := gF_34_3 V_h
  have T5 := gF_49_10 V_h
  refine ok_xl ?_; intro h1 E_h1; have V_h1 : VS_ h1 := by rw [E_h1]; exact wF_49_11 V_h (by omega)
  have T6 : h1 2 10 = h 2 10 := by rw [E_h1]; exact up_n (by decide)
  have T7 : h1 2 11 = h 2 11 := by rw [E_h1]; exact up_n (by decide)
  have T8 : h1 34 1 = h 34 1 := by rw [E_h1]; exact up_n (by decide)
  have T9 : h1 34 3 = h 34 3 := by rw [E_h1]; exact up_n (by decide)
  have T10 : h1 49 10 = h 49 10 := by rw [E_h1]; exact up_n (by decide)
  refine ok_if ?_ ?_
  · intro C10
    refine ok_cVR (vf_X10_wantKinOf hn (by omega) (by omega) (by omega) (by omega) V_h1) ?_; intro u3 E_u3 V_u3 R_u3
    have T12 : u3 2 10 = h1 2 10 := (ff_X10_wantKinOf nn) _ E_u3 2 10 rfl
    have T13 : u3 34 1 = h1 34 1 := (ff_X10_wantKinOf nn) _ E_u3 34 1 rfl
    have T14 : u3 34 3 = h1 34 3 := (ff_X10_wantKinOf nn) _ E_u3 34 3 rfl
    have T15 : u3 49 10 = h1 49 10 := (ff_X10_wantKinOf nn) _ E_u3 49 10 rfl
    have T16 := gF_2_11 V_u3
    refine ok_cI (vf_X6_classOf hn (by omega) (by omega) V_u3) ?_; intro u7 E_u7 V_u7 a_u7 b_u7
    have T17 : u7.2 2 10 = u3 2 10 := (ff_X6_classOf nn) _ E_u7 2 10 rfl
    have T18 : u7.2 34 1 = u3 34 1 := (ff_X6_classOf nn) _ E_u7 34 1 rfl
    have T19 : u7.2 34 3 = u3 34 3 := (ff_X6_classOf nn) _ E_u7 34 3 rfl
    have T20 : u7.2 49 10 = u3 49 10 := (ff_X6_classOf nn) _ E_u7 49 10 rfl
    have T21 : u7.2 2 11 = u3 2 11 := (ff_X6_classOf nn) _ E_u7 2 11 rfl
    refine ok_cVR (vf_X1_op_ hn (by omega) (by omega) (by omega) (by omega) V_u7 (by omega)) ?_; intro u9 E_u9 V_u9 R_u9
    have T22 : u9 2 10 = u7.2 2 10 := (ff_X1_op_ nn) _ E_u9 2 10 rfl
    have T23 : u9 34 3 = u7.2 34 3 := (ff_X1_op_ nn) _ E_u9 34 3 rfl
    have T24 : u9 49 10 = u7.2 49 10 := (ff_X1_op_ nn) _ E_u9 49 10 rfl
    have T25 : u9 2 11 = u7.2 2 11 := (ff_X1_op_ nn) _ E_u9 2 11 rfl
    have T26 := gF_34_1 V_u9
    refine ok_cVR (vf_X1_pop hn (by omega) (by omega) V_u9 (by omega)) ?_; intro u12 E_u12 V_u12 R_u12
    have T27 : u12 2 10 = u9 2 10 := (ff_X1_pop nn) _ E_u12 2 10 rfl
    have T28 : u12 49 10 = u9 49 10 := (ff_X1_pop nn) _ E_u12 49 10 rfl
    have T29 : u12 2 11 = u9 2 11 := (ff_X1_pop nn) _ E_u12 2 11 rfl
    have T30 : u12 34 1 = u9 34 1 := (ff_X1_pop nn) _ E_u12 34 1 rfl
    have T31 := gF_34_3 V_u12
    refine ok_cVR (vf_X1_push hn (by omega) (by omega) V_u12 (by omega)) ?_; intro u15 E_u15 V_u15 R_u15
    have T32 : u15 2 10 = u12 2 10 := (ff_X1_push nn) _ E_u15 2 10 rfl
    have T33 : u15 49 10 = u12 49 10 := (ff_X1_push nn) _ E_u15 49 10 rfl
    have T34 : u15 2 11 = u12 2 11 := (ff_X1_push nn) _ E_u15 2 11 rfl
    have T35 : u15 34 1 = u12 34 1 := (ff_X1_push nn) _ E_u15 34 1 rfl
    have T36 := gF_34_3 V_u15
    refine ok_xl ?_; intro h16 E_h16; have V_h16 : VS_ h16 := by rw [E_h16]; exact wF_49_12 V_u15 (by omega)
    have T37 : h16 2 10 = u15 2 10 := by rw [E_h16]; exact up_n (by decide)
    have T38 : h16 49 10 = u15 49 10 := by rw [E_h16]; exact up_n (by decide)
    have T39 : h16 2 11 = u15 2 11 := by rw [E_h16]; exact up_n (by decide)
    have T40 : h16 34 1 = u15 34 1 := by rw [E_h16]; exact up_n (by decide)
    have T41 : h16 34 3 = u15 34 3 := by rw [E_h16]; exact up_n (by decide)
    exact ok_rVR V_h16 (by omega)
  · intro C10
    exact ok_rVR V_h1 (by omega)
set_option maxRecDepth 4000 in
theorem vj_X10_closeUnary_62 {nn : Nat} (hn : 1000000 ≤ nn) {l1 : Int} {l2 : Int} {s0 : Int} {h : ms_M} (a_l1 : 62 ≤ l1) (b_l1 : l1 ≤ 72) (a_l2 : 0 ≤ l2) (b_l2 : l2 ≤ 50000000) (a_s0 : 0 ≤ s0) (b_s0 : s0 ≤ 1) (V_h : VS_ h) (x_0 : h 34 1 + h 34 3 ≤ 1500000617)  : Ok_ (qj_X10_closeUnary_62 nn l1 l2 s0 h) (QVR_ (fun r => (h 2 11 = 0 ∨ ¬ r 2 11 = 0) ∧ (r 34 1 + r 34 3 + 12 * r 49 10 + 20 * h 2 10 ≤ h 34 1 + h 34 3 + 12 * h 49 10 + 20 * r 2 10 + 3))) := by
  unfold qj_X10_closeUnary_62
  have T1 := gF_2_10 V_h
  have T2 := gF_2_11 V_h
  have T3 := gF_34_1 V_h
  have T4 := gF_34_3 V_h
  have T5 := gF_49_10 V_h
  refine ok_cVR (vf_X10_wantType hn (by omega) (by omega) (by omega) (by omega) V_h) ?_; intro u2 E_u2 V_u2 R_u2
  have T6 : u2 2 10 = h 2 10 := (ff_X10_wantType nn) _ E_u2 2 10 rfl
  have T7 : u2 34 1 = h 34 1 := (ff_X10_wantType nn) _ E_u2 34 1 rfl
  have T8 : u2 34 3 = h 34 3 := (ff_X10_wantType nn) _ E_u2 34 3 rfl
  have T9 : u2 49 10 = h 49 10 := (ff_X10_wantType nn) _ E_u2 49 10 rfl
  have T10 := gF_2_11 V_u2
  refine ok_if ?_ ?_
  · intro C10
    refine ok_cVR (vf_X1_push hn (by omega) (by omega) V_u2 (by omega)) ?_; intro u5 E_u5 V_u5 R_u5
    have T12 : u5 2 10 = u2 2 10 := (ff_X1_push nn) _ E_u5 2 10 rfl
    have T13 : u5 34 1 = u2 34 1 := (ff_X1_push nn) _ E_u5 34 1 rfl
    have T14 : u5 49 10 = u2 49 10 := (ff_X1_push nn) _ E_u5 49 10 rfl
    have T15 : u5 2 11 = u2 2 11 := (ff_X1_push nn) _ E_u5 2 11 rfl
    have T16 := gF_34_3 V_u5
    refine ok_cVR (vf_X1_op_ hn (by omega) (by omega) (by omega) (by omega) V_u5 (by omega)) ?_; intro u8 E_u8 V_u8 R_u8
    have T17 : u8 2 10 = u5 2 10 := (ff_X1_op_ nn) _ E_u8 2 10 rfl
    have T18 : u8 49 10 = u5 49 10 := (ff_X1_op_ nn) _ E_u8 49 10 rfl
    have T19 : u8 2 11 = u5 2 11 := (ff_X1_op_ nn) _ E_u8 2 11 rfl
    have T20 : u8 34 3 = u5 34 3 := (ff_X1_op_ nn) _ E_u8 34 3 rfl
    have T21 := gF_34_1 V_u8
    refine ok_cVR (vf_X1_pop hn (by omega) (by omega) V_u8 (by omega)) ?_; intro u11 E_u11 V_u11 R_u11
    have T22 : u11 2 10 = u8 2 10 := (ff_X1_pop nn) _ E_u11 2 10 rfl
    have T23 : u11 49 10 = u8 49 10 := (ff_X1_pop nn) _ E_u11 49 10 rfl
    have T24 : u11 2 11 = u8 2 11 := (ff_X1_pop nn) _ E_u11 2 11 rfl
    have T25 : u11 34 1 = u8 34 1 := (ff_X1_pop nn) _ E_u11 34 1 rfl
    have T26 := gF_34_3 V_u11
    exact ok_rVR V_u11 (by omega)
  · intro C10
    refine ok_cVR (vf_X1_op hn (by omega) (by omega) V_u2 (by omega)) ?_; intro u14 E_u14 V_u14 R_u14
    have T27 : u14 2 10 = u2 2 10 := (ff_X1_op nn) _ E_u14 2 10 rfl
    have T28 : u14 34 3 = u2 34 3 := (ff_X1_op nn) _ E_u14 34 3 rfl
    have T29 : u14 49 10 = u2 49 10 := (ff_X1_op nn) _ E_u14 49 10 rfl
    have T30 : u14 2 11 = u2 2 11 := (ff_X1_op nn) _ E_u14 2 11 rfl
    have T31 := gF_34_1 V_u14
    exact ok_rVR V_u14 (by omega)
set_option maxRecDepth 4000 in
theorem vj_X10_closeUnary_27 {nn : Nat} (hn : 1000000 ≤ nn) {s0 : Int} {h : ms_M} (a_s0 : 0 ≤ s0) (b_s0 : s0 ≤ 1) (V_h : VS_ h) (x_0 : h 34 1 + h 34 3 ≤ 1500000610)  : Ok_ (qj_X10_closeUnary_27 nn s0 h) (QVR_ (fun r => (h 2 11 = 0 ∨ ¬ r 2 11 = 0) ∧ (r 34 1 + r 34 3 + 12 * r 49 10 + 20 * h 2 10 ≤ h 34 1 + h 34 3 + 12 * h 49 10 + 20 * r 2 10 + 10))) := by
  unfold qj_X10_closeUnary_27
  have T1 := gF_2_10 V_h
  have T2 := gF_2_11 V_h
  have T3 := gF_34_1 V_h
  have T4 := gF_34_3 V_h
  have T5 := gF_49_10 V_h
  have T6 := gF_49_15 V_h
  refine ok_cVR (vf_X10_wantType hn (by omega) (by omega) (by omega) (by omega) V_h) ?_; intro u18 E_u18 V_u18 R_u18
  have T7 : u18 2 10 = h 2 10 := (ff_X10_wantType nn) _ E_u18 2 10 rfl
  have T8 : u18 34 1 = h 34 1 := (ff_X10_wantType nn) _ E_u18 34 1 rfl
  have T9 : u18 34 3 = h 34 3 := (ff_X10_wantType nn) _ E_u18 34 3 rfl
  have T10 : u18 49 10 = h 49 10 := (ff_X10_wantType nn) _ E_u18 49 10 rfl
  have T11 := gF_2_11 V_u18
  refine ok_cVR (vf_X1_truth hn (by omega) (by omega) (by omega) (by omega) V_u18 (by omega)) ?_; intro u21 E_u21 V_u21 R_u21
  have T12 : u21 2 10 = u18 2 10 := (ff_X1_truth nn) _ E_u21 2 10 rfl
  have T13 : u21 49 10 = u18 49 10 := (ff_X1_truth nn) _ E_u21 49 10 rfl
  have T14 : u21 2 11 = u18 2 11 := (ff_X1_truth nn) _ E_u21 2 11 rfl
  have T15 := gF_34_1 V_u21
  have T16 := gF_34_3 V_u21
  exact ok_rVR V_u21 (by omega)
set_option maxRecDepth 4000 in
theorem vf_X10_closeUnary {nn : Nat} (hn : 1000000 ≤ nn) {a1 : Int} {a2 : Int} {h : ms_M} (a_a1 : 62 ≤ a1) (b_a1 : a1 ≤ 72) (a_a2 : 0 ≤ a2) (b_a2 : a2 ≤ 50000000) (V_h : VS_ h) (x_0 : h 34 1 + h 34 3 ≤ 1500000600)  : Ok_ (qf_X10_closeUnary nn a1 a2 h) (QVR_ (fun r => (h 2 11 = 0 ∨ ¬ r 2 11 = 0) ∧ (r 34 1 + r 34 3 + 12 * r 49 10 + 20 * h 2 10 ≤ h 34 1 + h 34 3 + 12 * h 49 10 + 20 * r 2 10 + 10))) := by
  unfold qf_X10_closeUnary
  have T1 := gF_2_10 V_h
  have T2 := gF_2_11 V_h
  have T3 := gF_34_1 V_h
  have T4 := gF_34_3 V_h
  have T5 := gF_49_10 V_h
  refine ok_xl ?_; intro h22 E_h22; have V_h22 : VS_ h22 := by rw [E_h22]; exact wF_49_11 V_h (by omega)
  have T6 : h22 2 10 = h 2 10 := by rw [E_h22]; exact up_n (by decide)
  have T7 : h22 2 11 = h 2 11 := by rw [E_h22]; exact up_n (by decide)
  have T8 : h22 34 1 = h 34 1 := by rw [E_h22]; exact up_n (by decide)
  have T9 : h22 34 3 = h 34 3 := by rw [E_h22]; exact up_n (by decide)
  have T10 : h22 49 10 = h 49 10 := by rw [E_h22]; exact up_n (by decide)
  refine ok_if ?_ ?_
  · intro C10
    have T12 := gF_49_12 V_h22
    refine ok_if ?_ ?_
    · intro C12
      exact ok_mV (vj_X10_closeUnary_62 hn (by omega) (by omega) (by omega) (by omega) (by omega) (by omega) V_h22 (by omega)) (fun _ V_r R_r => by have := gF_2_10 V_r; have := gF_2_11 V_r; have := gF_34_1 V_r; have := gF_34_3 V_r; have := gF_49_10 V_r; omega)
    · intro C12
      exact ok_mV (vj_X10_closeUnary_62 hn (by omega) (by omega) (by omega) (by omega) (by omega) (by omega) V_h22 (by omega)) (fun _ V_r R_r => by have := gF_2_10 V_r; have := gF_2_11 V_r; have := gF_34_1 V_r; have := gF_34_3 V_r; have := gF_49_10 V_r; omega)
  · intro C10
    have T14 := gF_49_12 V_h22
    refine ok_if ?_ ?_
    · intro C14
      exact ok_mV (vj_X10_closeUnary_27 hn (by omega) (by omega) V_h22 (by omega)) (fun _ V_r R_r => by have := gF_2_10 V_r; have := gF_2_11 V_r; have := gF_34_1 V_r; have := gF_34_3 V_r; have := gF_49_10 V_r; omega)
    · intro C14
      exact ok_mV (vj_X10_closeUnary_27 hn (by omega) (by omega) V_h22 (by omega)) (fun _ V_r R_r => by have := gF_2_10 V_r; have := gF_2_11 V_r; have := gF_34_1 V_r; have := gF_34_3 V_r; have := gF_49_10 V_r; omega)
set_option maxRecDepth 4000 in
theorem vf_X6_fieldOf {nn : Nat} (hn : 1000000 ≤ nn) {a1 : Int} {a2 : Int} {h : ms_M} (a_a1 : (-1) ≤ a1) (b_a1 : a1 ≤ 441) (a_a2 : (-1) ≤ a2) (b_a2 : a2 ≤ 749) (V_h : VS_ h)  : Ok_ (qf_X6_fieldOf nn a1 a2 h) (QI_ 0 200) := by
  unfold qf_X6_fieldOf
  refine ok_cI (vf_X6_classOf hn (by omega) (by omega) V_h) ?_; intro u2 E_u2 V_u2 a_u2 b_u2
  refine ok_cP (vf_X2_nameOfField hn (by omega) (by omega) V_u2) ?_; intro u5 e_u5 a_u5 b_u5
  refine ok_cI (vf_X6_constant hn (by omega) (by omega) (by omega) (by omega) V_u2) ?_; intro u7 E_u7 V_u7 a_u7 b_u7
  refine ok_i32 ?_; intro v8 a_v8 b_v8
  refine ok_shl8 (by omega) ?_; intro v9 e_v9
  refine ok_i32 ?_; intro v10 a_v10 b_v10
  refine ok_cP (vf_X2_kindOfField hn (by omega) (by omega) V_u7) ?_; intro u13 e_u13 a_u13 b_u13
  refine ok_cI (vf_X6_constant hn (by omega) (by omega) (by omega) (by omega) V_u7) ?_; intro u15 E_u15 V_u15 a_u15 b_u15
  refine ok_i32 ?_; intro v16 a_v16 b_v16
  refine ok_cI (vf_X6_constant hn (by omega) (by omega) (by omega) (by omega) V_u15) ?_; intro u18 E_u18 V_u18 a_u18 b_u18
  exact ok_rI V_u18 (by omega) (by omega)
