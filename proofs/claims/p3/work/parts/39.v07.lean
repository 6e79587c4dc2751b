set_option maxRecDepth 4000 in
theorem vf_X8_readCondition {nn : Nat} (hn : 1000000 ≤ nn) {a1 : Int} {h : ms_M} (a_a1 : 1 ≤ a1) (b_a1 : a1 ≤ 41) (V_h : VS_ h) (x_0 : a1 ≤ 40) (x_1 : (h 2 11 = 0 ∧ h 2 10 < h 2 3))  : Ok_ (qf_X8_readCondition nn a1 h) (QVR_ (fun r => (r 2 3 = h 2 3) ∧ (h 2 10 ≤ r 2 10) ∧ (h 2 11 = 0 ∨ ¬ r 2 11 = 0) ∧ (r 2 10 ≤ h 2 10 ∨ r 2 10 ≤ 3004) ∧ ((h 2 11 = 0 ∧ h 2 10 < h 2 3) ∨ ¬ (r 2 11 = 0 ∧ r 2 10 < r 2 3)))) := by
  unfold qf_X8_readCondition
  have T1 := gF_2_3 V_h
  have T2 := gF_2_10 V_h
  have T3 := gF_2_11 V_h
  refine ok_add (by omega) ?_; intro v3 e_v3
  refine ok_xl ?_; intro h4 E_h4; have V_h4 : VS_ h4 := by rw [E_h4]; exact wF_2_10 V_h (by omega)
  have T4 : h4 2 3 = h 2 3 := by rw [E_h4]; exact up_n (by decide)
  have T5 : h4 2 11 = h 2 11 := by rw [E_h4]; exact up_n (by decide)
  have T6 : h4 2 10 = v3 := by rw [E_h4]; exact up_s
  refine ok_cVR (vf_X8_need hn (by omega) (by omega) V_h4) ?_; intro u6 E_u6 V_u6 R_u6
  have T7 : u6 2 3 = h4 2 3 := (ff_X8_need nn) _ E_u6 2 3 rfl
  have T8 := gF_2_10 V_u6
  have T9 := gF_2_11 V_u6
  refine ok_cVR (vf_X8_readValue hn (by omega) (by omega) V_u6 (by omega) (by omega)) ?_; intro u8 E_u8 V_u8 R_u8
  have T10 : u8 2 3 = u6 2 3 := (ff_X8_readValue nn) _ E_u8 2 3 rfl
  have T11 := gF_2_10 V_u8
  have T12 := gF_2_11 V_u8
  refine ok_cVR (vf_X8_need hn (by omega) (by omega) V_u8) ?_; intro u10 E_u10 V_u10 R_u10
  have T13 : u10 2 3 = u8 2 3 := (ff_X8_need nn) _ E_u10 2 3 rfl
  have T14 := gF_2_10 V_u10
  have T15 := gF_2_11 V_u10
  exact ok_rVR V_u10 (by omega)
set_option maxRecDepth 4000 in
theorem vj_X8_readPlain_56 {nn : Nat} (hn : 1000000 ≤ nn) {h : ms_M} (V_h : VS_ h) (x_0 : (h 2 11 = 0 ∧ h 2 10 < h 2 3))  : Ok_ (qj_X8_readPlain_56 nn h) (QVR_ (fun r => (r 2 3 = h 2 3) ∧ (h 2 10 ≤ r 2 10) ∧ (h 2 11 = 0 ∨ ¬ r 2 11 = 0) ∧ (r 2 10 ≤ h 2 10 ∨ r 2 10 ≤ 3004) ∧ ((h 2 11 = 0 ∧ h 2 10 < h 2 3) ∨ ¬ (r 2 11 = 0 ∧ r 2 10 < r 2 3)))) := by
  unfold qj_X8_readPlain_56
  have T1 := gF_2_3 V_h
  have T2 := gF_2_10 V_h
  have T3 := gF_2_11 V_h
  refine ok_add (by omega) ?_; intro v3 e_v3
  refine ok_xl ?_; intro h4 E_h4; have V_h4 : VS_ h4 := by rw [E_h4]; exact wF_2_10 V_h (by omega)
  have T4 : h4 2 3 = h 2 3 := by rw [E_h4]; exact up_n (by decide)
  have T5 : h4 2 11 = h 2 11 := by rw [E_h4]; exact up_n (by decide)
  have T6 : h4 2 10 = v3 := by rw [E_h4]; exact up_s
  exact ok_rVR V_h4 (by omega)
set_option maxRecDepth 4000 in
theorem vf_X8_readPlain {nn : Nat} (hn : 1000000 ≤ nn) {a1 : Int} {h : ms_M} (a_a1 : 1 ≤ a1) (b_a1 : a1 ≤ 41) (V_h : VS_ h) (x_0 : a1 ≤ 40 ∨ ¬ (h 2 11 = 0 ∧ h 2 10 < h 2 3))  : Ok_ (qf_X8_readPlain nn a1 h) (QVR_ (fun r => (r 2 3 = h 2 3) ∧ (h 2 10 ≤ r 2 10) ∧ (h 2 11 = 0 ∨ ¬ r 2 11 = 0) ∧ (r 2 10 ≤ h 2 10 ∨ r 2 10 ≤ 3004) ∧ ((h 2 11 = 0 ∧ h 2 10 < h 2 3) ∨ ¬ (r 2 11 = 0 ∧ r 2 10 < r 2 3)))) := by
  unfold qf_X8_readPlain
  have T1 := gF_2_3 V_h
  have T2 := gF_2_10 V_h
  have T3 := gF_2_11 V_h
  refine ok_cP (vf_X9_kind hn V_h) ?_; intro u7 e_u7 a_u7 b_u7
  have T4 := lm_X9_kind e_u7
  refine ok_if ?_ ?_
  · intro C4
    exact ok_mV (vj_X8_readPlain_56 hn V_h (by omega)) (fun _ V_r R_r => by have := gF_2_3 V_r; have := gF_2_10 V_r; have := gF_2_11 V_r; omega)
  · intro C4
    refine ok_if ?_ ?_
    · intro C5
      exact ok_mV (vj_X8_readPlain_56 hn V_h (by omega)) (fun _ V_r R_r => by have := gF_2_3 V_r; have := gF_2_10 V_r; have := gF_2_11 V_r; omega)
    · intro C5
      refine ok_if ?_ ?_
      · intro C6
        refine ok_cVR (vf_X8_readCondition hn (by omega) (by omega) V_h (by omega) (by omega)) ?_; intro u16 E_u16 V_u16 R_u16
        have T8 : u16 2 3 = h 2 3 := (ff_X8_readCondition nn) _ E_u16 2 3 rfl
        have T9 := gF_2_10 V_u16
        have T10 := gF_2_11 V_u16
        exact ok_rVR V_u16 (by omega)
      · intro C6
        refine ok_if ?_ ?_
        · intro C10
          refine ok_add (by omega) ?_; intro v19 e_v19
          refine ok_xl ?_; intro h20 E_h20; have V_h20 : VS_ h20 := by rw [E_h20]; exact wF_2_10 V_h (by omega)
          have T12 : h20 2 3 = h 2 3 := by rw [E_h20]; exact up_n (by decide)
          have T13 : h20 2 11 = h 2 11 := by rw [E_h20]; exact up_n (by decide)
          have T14 : h20 2 10 = v19 := by rw [E_h20]; exact up_s
          refine ok_cP (vf_X9_kind hn V_h20) ?_; intro u23 e_u23 a_u23 b_u23
          have T15 := lm_X9_kind e_u23
          refine ok_if ?_ ?_
          · intro C15
            exact ok_rVR V_h20 (by omega)
          · intro C15
            refine ok_cVR (vf_X8_readValue hn (by omega) (by omega) V_h20 (by omega) (by omega)) ?_; intro u25 E_u25 V_u25 R_u25
            have T17 : u25 2 3 = h20 2 3 := (ff_X8_readValue nn) _ E_u25 2 3 rfl
            have T18 := gF_2_10 V_u25
            have T19 := gF_2_11 V_u25
            exact ok_rVR V_u25 (by omega)
        · intro C10
          refine ok_if ?_ ?_
          · intro C19
            refine ok_add (by omega) ?_; intro v29 e_v29
            refine ok_xl ?_; intro h30 E_h30; have V_h30 : VS_ h30 := by rw [E_h30]; exact wF_2_10 V_h (by omega)
            have T21 : h30 2 3 = h 2 3 := by rw [E_h30]; exact up_n (by decide)
            have T22 : h30 2 11 = h 2 11 := by rw [E_h30]; exact up_n (by decide)
            have T23 : h30 2 10 = v29 := by rw [E_h30]; exact up_s
            refine ok_cVR (vf_X8_readValue hn (by omega) (by omega) V_h30 (by omega) (by omega)) ?_; intro u32 E_u32 V_u32 R_u32
            have T24 : u32 2 3 = h30 2 3 := (ff_X8_readValue nn) _ E_u32 2 3 rfl
            have T25 := gF_2_10 V_u32
            have T26 := gF_2_11 V_u32
            exact ok_rVR V_u32 (by omega)
          · intro C19
            refine ok_cVR (vf_X8_readValue hn (by omega) (by omega) V_h (by omega) (by omega)) ?_; intro u9 E_u9 V_u9 R_u9
            have T27 : u9 2 3 = h 2 3 := (ff_X8_readValue nn) _ E_u9 2 3 rfl
            have T28 := gF_2_10 V_u9
            have T29 := gF_2_11 V_u9
            refine ok_cIR (vf_X8_accept hn (by omega) (by omega) V_u9) ?_; intro u11 E_u11 V_u11 a_u11 b_u11 R_u11
            have T30 : u11.2 2 3 = u9 2 3 := (ff_X8_accept nn) _ E_u11 2 3 rfl
            have T31 : u11.2 2 11 = u9 2 11 := (ff_X8_accept nn) _ E_u11 2 11 rfl
            have T32 := gF_2_10 V_u11
            refine ok_if ?_ ?_
            · intro C32
              exact ok_rVR V_u11 (by omega)
            · intro C32
              refine ok_cVR (vf_X8_readValue hn (by omega) (by omega) V_u11 (by omega) (by omega)) ?_; intro u13 E_u13 V_u13 R_u13
              have T34 : u13 2 3 = u11.2 2 3 := (ff_X8_readValue nn) _ E_u13 2 3 rfl
              have T35 := gF_2_10 V_u13
              have T36 := gF_2_11 V_u13
              exact ok_rVR V_u13 (by omega)
set_option maxRecDepth 4000 in
theorem vj_X8_readType_24 {nn : Nat} (hn : 1000000 ≤ nn) {h : ms_M} (V_h : VS_ h)  : Ok_ (qj_X8_readType_24 nn h) (QVR_ (fun r => (r 2 3 = h 2 3) ∧ (h 2 10 ≤ r 2 10) ∧ (h 2 11 = 0 ∨ ¬ r 2 11 = 0) ∧ (r 2 10 ≤ h 2 10 ∨ r 2 10 ≤ 3004) ∧ ((h 2 11 = 0 ∧ h 2 10 < h 2 3) ∨ ¬ (r 2 11 = 0 ∧ r 2 10 < r 2 3)))) := by
  unfold qj_X8_readType_24
  have T1 := gF_2_3 V_h
  have T2 := gF_2_10 V_h
  have T3 := gF_2_11 V_h
  refine ok_cIR (vf_X8_accept hn (by omega) (by omega) V_h) ?_; intro u2 E_u2 V_u2 a_u2 b_u2 R_u2
  have T4 : u2.2 2 3 = h 2 3 := (ff_X8_accept nn) _ E_u2 2 3 rfl
  have T5 : u2.2 2 11 = h 2 11 := (ff_X8_accept nn) _ E_u2 2 11 rfl
  have T6 := gF_2_10 V_u2
  refine ok_if ?_ ?_
  · intro C6
    exact ok_rVR V_u2 (by omega)
  · intro C6
    refine ok_cVR (vf_X8_need hn (by omega) (by omega) V_u2) ?_; intro u4 E_u4 V_u4 R_u4
    have T8 : u4 2 3 = u2.2 2 3 := (ff_X8_need nn) _ E_u4 2 3 rfl
    have T9 := gF_2_10 V_u4
    have T10 := gF_2_11 V_u4
    exact ok_rVR V_u4 (by omega)
set_option maxRecDepth 4000 in
theorem vf_X8_readType {nn : Nat} (hn : 1000000 ≤ nn) {h : ms_M} (V_h : VS_ h)  : Ok_ (qf_X8_readType nn h) (QVR_ (fun r => (r 2 3 = h 2 3) ∧ (h 2 10 ≤ r 2 10) ∧ (h 2 11 = 0 ∨ ¬ r 2 11 = 0) ∧ (r 2 10 ≤ h 2 10 ∨ r 2 10 ≤ 3004) ∧ ((h 2 11 = 0 ∧ h 2 10 < h 2 3) ∨ ¬ (r 2 11 = 0 ∧ r 2 10 < r 2 3)))) := by
  unfold qf_X8_readType
  have T1 := gF_2_3 V_h
  have T2 := gF_2_10 V_h
  have T3 := gF_2_11 V_h
  refine ok_cIR (vf_X8_accept hn (by omega) (by omega) V_h) ?_; intro u7 E_u7 V_u7 a_u7 b_u7 R_u7
  have T4 : u7.2 2 3 = h 2 3 := (ff_X8_accept nn) _ E_u7 2 3 rfl
  have T5 : u7.2 2 11 = h 2 11 := (ff_X8_accept nn) _ E_u7 2 11 rfl
  have T6 := gF_2_10 V_u7
  refine ok_if ?_ ?_
  · intro C6
    refine ok_cIR (vf_X8_accept hn (by omega) (by omega) V_u7) ?_; intro u9 E_u9 V_u9 a_u9 b_u9 R_u9
    have T8 : u9.2 2 3 = u7.2 2 3 := (ff_X8_accept nn) _ E_u9 2 3 rfl
    have T9 : u9.2 2 11 = u7.2 2 11 := (ff_X8_accept nn) _ E_u9 2 11 rfl
    have T10 := gF_2_10 V_u9
    refine ok_if ?_ ?_
    · intro C10
      exact ok_mV (vj_X8_readType_24 hn V_u9) (fun _ V_r R_r => by have := gF_2_3 V_r; have := gF_2_10 V_r; have := gF_2_11 V_r; omega)
    · intro C10
      refine ok_cVR (vf_X8_need hn (by omega) (by omega) V_u9) ?_; intro u11 E_u11 V_u11 R_u11
      have T12 : u11 2 3 = u9.2 2 3 := (ff_X8_need nn) _ E_u11 2 3 rfl
      have T13 := gF_2_10 V_u11
      have T14 := gF_2_11 V_u11
      exact ok_mV (vj_X8_readType_24 hn V_u11) (fun _ V_r R_r => by have := gF_2_3 V_r; have := gF_2_10 V_r; have := gF_2_11 V_r; omega)
  · intro C6
    exact ok_rVR V_u7 (by omega)
set_option maxRecDepth 4000 in
theorem vf_X8_readVariable {nn : Nat} (hn : 1000000 ≤ nn) {a1 : Int} {h : ms_M} (a_a1 : 1 ≤ a1) (b_a1 : a1 ≤ 41) (V_h : VS_ h) (x_0 : a1 ≤ 40)  : Ok_ (qf_X8_readVariable nn a1 h) (QVR_ (fun r => (r 2 3 = h 2 3) ∧ (h 2 10 ≤ r 2 10) ∧ (h 2 11 = 0 ∨ ¬ r 2 11 = 0) ∧ (r 2 10 ≤ h 2 10 ∨ r 2 10 ≤ 3004) ∧ ((h 2 11 = 0 ∧ h 2 10 < h 2 3) ∨ ¬ (r 2 11 = 0 ∧ r 2 10 < r 2 3)))) := by
  unfold qf_X8_readVariable
  have T1 := gF_2_3 V_h
  have T2 := gF_2_10 V_h
  have T3 := gF_2_11 V_h
  refine ok_cVR (vf_X8_readType hn V_h) ?_; intro u2 E_u2 V_u2 R_u2
  have T4 : u2 2 3 = h 2 3 := (ff_X8_readType nn) _ E_u2 2 3 rfl
  have T5 := gF_2_10 V_u2
  have T6 := gF_2_11 V_u2
  refine ok_cVR (vf_X8_need hn (by omega) (by omega) V_u2) ?_; intro u4 E_u4 V_u4 R_u4
  have T7 : u4 2 3 = u2 2 3 := (ff_X8_need nn) _ E_u4 2 3 rfl
  have T8 := gF_2_10 V_u4
  have T9 := gF_2_11 V_u4
  refine ok_cVR (vf_X8_need hn (by omega) (by omega) V_u4) ?_; intro u6 E_u6 V_u6 R_u6
  have T10 : u6 2 3 = u4 2 3 := (ff_X8_need nn) _ E_u6 2 3 rfl
  have T11 := gF_2_10 V_u6
  have T12 := gF_2_11 V_u6
  refine ok_cVR (vf_X8_readValue hn (by omega) (by omega) V_u6 (by omega) (by omega)) ?_; intro u8 E_u8 V_u8 R_u8
  have T13 : u8 2 3 = u6 2 3 := (ff_X8_readValue nn) _ E_u8 2 3 rfl
  have T14 := gF_2_10 V_u8
  have T15 := gF_2_11 V_u8
  exact ok_rVR V_u8 (by omega)
set_option maxRecDepth 4000 in
def GH_X8_readBlock (g : Int) (rc : tq_X8_readBlock) : Prop := (∀ {a1 : Int} {h : ms_M} (a_a1 : 0 ≤ a1) (b_a1 : a1 ≤ 41) (V_h : VS_ h) (x_0 : 3 * (43 - a1) + 2 ≤ g) (x_1 : a1 ≤ 40), Ok_ (rc.1 a1 h) (QVR_ (fun r => (r 2 3 = h 2 3) ∧ (h 2 10 ≤ r 2 10) ∧ (h 2 11 = 0 ∨ ¬ r 2 11 = 0) ∧ (r 2 10 ≤ h 2 10 ∨ r 2 10 ≤ 3004) ∧ ((h 2 11 = 0 ∧ h 2 10 < h 2 3) ∨ ¬ (r 2 11 = 0 ∧ r 2 10 < r 2 3))))) ∧
  (∀ {a1 : Int} {h : ms_M} (a_a1 : 0 ≤ a1) (b_a1 : a1 ≤ 41) (V_h : VS_ h) (x_0 : 3 * (43 - a1) + 1 ≤ g) (x_1 : a1 ≤ 40), Ok_ (rc.2.1 a1 h) (QVR_ (fun r => (r 2 3 = h 2 3) ∧ (h 2 10 ≤ r 2 10) ∧ (h 2 11 = 0 ∨ ¬ r 2 11 = 0) ∧ (r 2 10 ≤ h 2 10 ∨ r 2 10 ≤ 3004) ∧ ((h 2 11 = 0 ∧ h 2 10 < h 2 3) ∨ ¬ (r 2 11 = 0 ∧ r 2 10 < r 2 3))))) ∧
  (∀ {a1 : Int} {h : ms_M} (a_a1 : 0 ≤ a1) (b_a1 : a1 ≤ 41) (V_h : VS_ h) (x_0 : 3 * (43 - a1) + 3 ≤ g) (x_1 : a1 ≤ 40) (x_2 : (h 2 11 = 0 ∧ h 2 10 < h 2 3)), Ok_ (rc.2.2 a1 h) (QVR_ (fun r => (r 2 3 = h 2 3) ∧ (h 2 10 ≤ r 2 10) ∧ (h 2 11 = 0 ∨ ¬ r 2 11 = 0) ∧ (r 2 10 ≤ h 2 10 ∨ r 2 10 ≤ 3004) ∧ ((h 2 11 = 0 ∧ h 2 10 < h 2 3) ∨ ¬ (r 2 11 = 0 ∧ r 2 10 < r 2 3)))))
set_option maxRecDepth 4000 in
theorem vj_X8_readBlock_48 {nn : Nat} (hn : 1000000 ≤ nn) {g : Int} {rc : tq_X8_readBlock} (hg : GH_X8_readBlock g rc) {h : ms_M} (V_h : VS_ h)  : Ok_ (qj_X8_readBlock_48 nn rc h) (QVR_ (fun r => (r 2 3 = h 2 3) ∧ (h 2 10 ≤ r 2 10) ∧ (h 2 11 = 0 ∨ ¬ r 2 11 = 0) ∧ (r 2 10 ≤ h 2 10 ∨ r 2 10 ≤ 3004) ∧ ((h 2 11 = 0 ∧ h 2 10 < h 2 3) ∨ ¬ (r 2 11 = 0 ∧ r 2 10 < r 2 3)))) := by
  unfold qj_X8_readBlock_48
  have T1 := gF_2_3 V_h
  have T2 := gF_2_10 V_h
  have T3 := gF_2_11 V_h
  refine ok_cVR (vf_X8_need hn (by omega) (by omega) V_h) ?_; intro u2 E_u2 V_u2 R_u2
  have T4 : u2 2 3 = h 2 3 := (ff_X8_need nn) _ E_u2 2 3 rfl
  have T5 := gF_2_10 V_u2
  have T6 := gF_2_11 V_u2
  exact ok_rVR V_u2 (by omega)
set_option maxRecDepth 4000 in
theorem vw_X8_readBlock_8 {nn : Nat} (hn : 1000000 ≤ nn) {g : Int} {rc : tq_X8_readBlock} (hg : GH_X8_readBlock g rc) : ∀ (k : Nat) {l1 : Int} {l2 : Int} {h : ms_M} (a_l1 : 0 ≤ l1) (b_l1 : l1 ≤ 41) (a_l2 : 0 ≤ l2) (b_l2 : l2 ≤ 3000) (V_h : VS_ h) (x_0 : 3 * (43 - l1) + 2 ≤ (g + 1)) (x_1 : l1 ≤ 40)  (hm : 3001 - l2 < (k : Int)), Ok_ (qw_X8_readBlock_8 nn rc k l1 l2 h) (QVR_ (fun r => (r 2 3 = h 2 3) ∧ (h 2 10 ≤ r 2 10) ∧ (h 2 11 = 0 ∨ ¬ r 2 11 = 0) ∧ (r 2 10 ≤ h 2 10 ∨ r 2 10 ≤ 3004) ∧ ((h 2 11 = 0 ∧ h 2 10 < h 2 3) ∨ ¬ (r 2 11 = 0 ∧ r 2 10 < r 2 3)))) := by
  intro k
  induction k with
  | zero => intros; exfalso; omega
  | succ k ih =>
    intro l1 l2 h a_l1 b_l1 a_l2 b_l2 V_h x_0 x_1 hm
    unfold qw_X8_readBlock_8
    have T1 := gF_2_3 V_h
    have T2 := gF_2_10 V_h
    have T3 := gF_2_11 V_h
    refine ok_if ?_ ?_
    · intro C3
      exact ok_mV (vj_X8_readBlock_48 hn hg V_h) (fun _ V_r R_r => by have := gF_2_3 V_r; have := gF_2_10 V_r; have := gF_2_11 V_r; omega)
    · intro C3
      refine ok_if ?_ ?_
      · intro C4
        exact ok_mV (vj_X8_readBlock_48 hn hg V_h) (fun _ V_r R_r => by have := gF_2_3 V_r; have := gF_2_10 V_r; have := gF_2_11 V_r; omega)
      · intro C4
        refine ok_cP (vf_X9_kind hn V_h) ?_; intro u7 e_u7 a_u7 b_u7
        have T6 := lm_X9_kind e_u7
        refine ok_if ?_ ?_
        · intro C6
          exact ok_mV (vj_X8_readBlock_48 hn hg V_h) (fun _ V_r R_r => by have := gF_2_3 V_r; have := gF_2_10 V_r; have := gF_2_11 V_r; omega)
        · intro C6
          refine ok_cVR (hg.2.1 (by omega) (by omega) V_h (by omega) (by omega)) ?_; intro u9 E_u9 V_u9 R_u9
          have T8 := gF_2_3 V_u9
          have T9 := gF_2_10 V_u9
          have T10 := gF_2_11 V_u9
          refine ok_add (by omega) ?_; intro v10 e_v10
          exact ok_mV (ih (by omega) (by omega) (by omega) (by omega) V_u9 (by omega) (by omega) (by omega)) (fun _ V_r R_r => by have := gF_2_3 V_r; have := gF_2_10 V_r; have := gF_2_11 V_r; omega)
set_option maxRecDepth 4000 in
theorem vo_X8_readBlock {nn : Nat} (hn : 1000000 ≤ nn) {g : Int} {rc : tq_X8_readBlock} (hg : GH_X8_readBlock g rc) {a1 : Int} {h : ms_M} (a_a1 : 0 ≤ a1) (b_a1 : a1 ≤ 41) (V_h : VS_ h) (x_0 : 3 * (43 - a1) + 2 ≤ (g + 1)) (x_1 : a1 ≤ 40)  : Ok_ (qo_X8_readBlock nn rc a1 h) (QVR_ (fun r => (r 2 3 = h 2 3) ∧ (h 2 10 ≤ r 2 10) ∧ (h 2 11 = 0 ∨ ¬ r 2 11 = 0) ∧ (r 2 10 ≤ h 2 10 ∨ r 2 10 ≤ 3004) ∧ ((h 2 11 = 0 ∧ h 2 10 < h 2 3) ∨ ¬ (r 2 11 = 0 ∧ r 2 10 < r 2 3)))) := by
  unfold qo_X8_readBlock
  have T1 := gF_2_3 V_h
  have T2 := gF_2_10 V_h
  have T3 := gF_2_11 V_h
  refine ok_cVR (vf_X8_need hn (by omega) (by omega) V_h) ?_; intro u15 E_u15 V_u15 R_u15
  have T4 : u15 2 3 = h 2 3 := (ff_X8_need nn) _ E_u15 2 3 rfl
  have T5 := gF_2_10 V_u15
  have T6 := gF_2_11 V_u15
  exact ok_mV (vw_X8_readBlock_8 hn hg _ (by omega) (by omega) (by omega) (by omega) V_u15 (by omega) (by omega) (by omega)) (fun _ V_r R_r => by have := gF_2_3 V_r; have := gF_2_10 V_r; have := gF_2_11 V_r; omega)
set_option maxRecDepth 4000 in
theorem vj_X8_readStatement_157 {nn : Nat} (hn : 1000000 ≤ nn) {g : Int} {rc : tq_X8_readBlock} (hg : GH_X8_readBlock g rc) {h : ms_M} (V_h : VS_ h)  : Ok_ (qj_X8_readStatement_157 nn rc h) (QVR_ (fun r => (r 2 3 = h 2 3) ∧ (h 2 10 ≤ r 2 10) ∧ (h 2 11 = 0 ∨ ¬ r 2 11 = 0) ∧ (r 2 10 ≤ h 2 10 ∨ r 2 10 ≤ 3004) ∧ ((h 2 11 = 0 ∧ h 2 10 < h 2 3) ∨ ¬ (r 2 11 = 0 ∧ r 2 10 < r 2 3)))) := by
  unfold qj_X8_readStatement_157
  have T1 := gF_2_3 V_h
  have T2 := gF_2_10 V_h
  have T3 := gF_2_11 V_h
  refine ok_cVR (vf_X8_need hn (by omega) (by omega) V_h) ?_; intro u2 E_u2 V_u2 R_u2
  have T4 : u2 2 3 = h 2 3 := (ff_X8_need nn) _ E_u2 2 3 rfl
  have T5 := gF_2_10 V_u2
  have T6 := gF_2_11 V_u2
  exact ok_rVR V_u2 (by omega)
set_option maxRecDepth 4000 in
theorem vo_X8_readStatement {nn : Nat} (hn : 1000000 ≤ nn) {g : Int} {rc : tq_X8_readBlock} (hg : GH_X8_readBlock g rc) {a1 : Int} {h : ms_M} (a_a1 : 0 ≤ a1) (b_a1 : a1 ≤ 41) (V_h : VS_ h) (x_0 : 3 * (43 - a1) + 1 ≤ (g + 1)) (x_1 : a1 ≤ 40)  : Ok_ (qo_X8_readStatement nn rc a1 h) (QVR_ (fun r => (r 2 3 = h 2 3) ∧ (h 2 10 ≤ r 2 10) ∧ (h 2 11 = 0 ∨ ¬ r 2 11 = 0) ∧ (r 2 10 ≤ h 2 10 ∨ r 2 10 ≤ 3004) ∧ ((h 2 11 = 0 ∧ h 2 10 < h 2 3) ∨ ¬ (r 2 11 = 0 ∧ r 2 10 < r 2 3)))) := by
  unfold qo_X8_readStatement
  have T1 := gF_2_3 V_h
  have T2 := gF_2_10 V_h
  have T3 := gF_2_11 V_h
  refine ok_cIR (vf_X8_tooDeep hn (by omega) (by omega) V_h) ?_; intro u4 E_u4 V_u4 a_u4 b_u4 R_u4
  have T4 : u4.2 2 3 = h 2 3 := (ff_X8_tooDeep nn) _ E_u4 2 3 rfl
  have T5 : u4.2 2 10 = h 2 10 := (ff_X8_tooDeep nn) _ E_u4 2 10 rfl
  have T6 := gF_2_11 V_u4
  refine ok_if ?_ ?_
  · intro C6
    refine ok_cP (vf_X9_kind hn V_u4) ?_; intro u7 e_u7 a_u7 b_u7
    have T8 := lm_X9_kind e_u7
    refine ok_if ?_ ?_
    · intro C8
      refine ok_add (by omega) ?_; intro v18 e_v18
      refine ok_cVR (vf_X8_readCondition hn (by omega) (by omega) V_u4 (by omega) (by omega)) ?_; intro u20 E_u20 V_u20 R_u20
      have T10 : u20 2 3 = u4.2 2 3 := (ff_X8_readCondition nn) _ E_u20 2 3 rfl
      have T11 := gF_2_10 V_u20
      have T12 := gF_2_11 V_u20
      refine ok_add (by omega) ?_; intro v21 e_v21
      refine ok_cVR (hg.2.1 (by omega) (by omega) V_u20 (by omega) (by omega)) ?_; intro u23 E_u23 V_u23 R_u23
      have T13 := gF_2_3 V_u23
      have T14 := gF_2_10 V_u23
      have T15 := gF_2_11 V_u23
      refine ok_cIR (vf_X8_accept hn (by omega) (by omega) V_u23) ?_; intro u25 E_u25 V_u25 a_u25 b_u25 R_u25
      have T16 : u25.2 2 3 = u23 2 3 := (ff_X8_accept nn) _ E_u25 2 3 rfl
      have T17 : u25.2 2 11 = u23 2 11 := (ff_X8_accept nn) _ E_u25 2 11 rfl
      have T18 := gF_2_10 V_u25
      refine ok_if ?_ ?_
      · intro C18
        exact ok_rVR V_u25 (by omega)
      · intro C18
        refine ok_add (by omega) ?_; intro v26 e_v26
        refine ok_cVR (hg.2.1 (by omega) (by omega) V_u25 (by omega) (by omega)) ?_; intro u28 E_u28 V_u28 R_u28
        have T20 := gF_2_3 V_u28
        have T21 := gF_2_10 V_u28
        have T22 := gF_2_11 V_u28
        exact ok_rVR V_u28 (by omega)
    · intro C8
      refine ok_if ?_ ?_
      · intro C22
        refine ok_add (by omega) ?_; intro v30 e_v30
        refine ok_cVR (hg.2.2 (by omega) (by omega) V_u4 (by omega) (by omega) (by omega)) ?_; intro u32 E_u32 V_u32 R_u32
        have T24 := gF_2_3 V_u32
        have T25 := gF_2_10 V_u32
        have T26 := gF_2_11 V_u32
        exact ok_rVR V_u32 (by omega)
      · intro C22
        refine ok_if ?_ ?_
        · intro C26
          refine ok_add (by omega) ?_; intro v33 e_v33
          refine ok_cVR (vf_X8_readCondition hn (by omega) (by omega) V_u4 (by omega) (by omega)) ?_; intro u35 E_u35 V_u35 R_u35
          have T28 : u35 2 3 = u4.2 2 3 := (ff_X8_readCondition nn) _ E_u35 2 3 rfl
          have T29 := gF_2_10 V_u35
          have T30 := gF_2_11 V_u35
          refine ok_add (by omega) ?_; intro v36 e_v36
          refine ok_cVR (hg.2.1 (by omega) (by omega) V_u35 (by omega) (by omega)) ?_; intro u38 E_u38 V_u38 R_u38
          have T31 := gF_2_3 V_u38
          have T32 := gF_2_10 V_u38
          have T33 := gF_2_11 V_u38
          exact ok_rVR V_u38 (by omega)
        · intro C26
          refine ok_if ?_ ?_
          · intro C33
            refine ok_add (by omega) ?_; intro v39 e_v39
            refine ok_cVR (hg.1 (by omega) (by omega) V_u4 (by omega) (by omega)) ?_; intro u41 E_u41 V_u41 R_u41
            have T35 := gF_2_3 V_u41
            have T36 := gF_2_10 V_u41
            have T37 := gF_2_11 V_u41
            exact ok_rVR V_u41 (by omega)
          · intro C33
            refine ok_cP (vf_X9_beginsVariable hn V_u4) ?_; intro u10 e_u10 a_u10 b_u10
            have T38 := lm_X9_beginsVariable e_u10
            refine ok_if ?_ ?_
            · intro C38
              refine ok_add (by omega) ?_; intro v11 e_v11
              refine ok_cVR (vf_X8_readPlain hn (by omega) (by omega) V_u4 (by omega)) ?_; intro u13 E_u13 V_u13 R_u13
              have T40 : u13 2 3 = u4.2 2 3 := (ff_X8_readPlain nn) _ E_u13 2 3 rfl
              have T41 := gF_2_10 V_u13
              have T42 := gF_2_11 V_u13
              exact ok_mV (vj_X8_readStatement_157 hn hg V_u13) (fun _ V_r R_r => by have := gF_2_3 V_r; have := gF_2_10 V_r; have := gF_2_11 V_r; omega)
            · intro C38
              refine ok_add (by omega) ?_; intro v14 e_v14
              refine ok_cVR (vf_X8_readVariable hn (by omega) (by omega) V_u4 (by omega)) ?_; intro u16 E_u16 V_u16 R_u16
              have T43 : u16 2 3 = u4.2 2 3 := (ff_X8_readVariable nn) _ E_u16 2 3 rfl
              have T44 := gF_2_10 V_u16
              have T45 := gF_2_11 V_u16
              exact ok_mV (vj_X8_readStatement_157 hn hg V_u16) (fun _ V_r R_r => by have := gF_2_3 V_r; have := gF_2_10 V_r; have := gF_2_11 V_r; omega)
  · intro C6
    exact ok_rVR V_u4 (by omega)
set_option maxRecDepth 4000 in
theorem vo_X8_readTry {nn : Nat} (hn : 1000000 ≤ nn) {g : Int} {rc : tq_X8_readBlock} (hg : GH_X8_readBlock g rc) {a1 : Int} {h : ms_M} (a_a1 : 0 ≤ a1) (b_a1 : a1 ≤ 41) (V_h : VS_ h) (x_0 : 3 * (43 - a1) + 3 ≤ (g + 1)) (x_1 : a1 ≤ 40) (x_2 : (h 2 11 = 0 ∧ h 2 10 < h 2 3))  : Ok_ (qo_X8_readTry nn rc a1 h) (QVR_ (fun r => (r 2 3 = h 2 3) ∧ (h 2 10 ≤ r 2 10) ∧ (h 2 11 = 0 ∨ ¬ r 2 11 = 0) ∧ (r 2 10 ≤ h 2 10 ∨ r 2 10 ≤ 3004) ∧ ((h 2 11 = 0 ∧ h 2 10 < h 2 3) ∨ ¬ (r 2 11 = 0 ∧ r 2 10 < r 2 3)))) := by
  unfold qo_X8_readTry
  have T1 := gF_2_3 V_h
  have T2 := gF_2_10 V_h
  have T3 := gF_2_11 V_h
  refine ok_add (by omega) ?_; intro v3 e_v3
  refine ok_xl ?_; intro h4 E_h4; have V_h4 : VS_ h4 := by rw [E_h4]; exact wF_2_10 V_h (by omega)
  have T4 : h4 2 3 = h 2 3 := by rw [E_h4]; exact up_n (by decide)
  have T5 : h4 2 11 = h 2 11 := by rw [E_h4]; exact up_n (by decide)
  have T6 : h4 2 10 = v3 := by rw [E_h4]; exact up_s
  refine ok_cVR (hg.1 (by omega) (by omega) V_h4 (by omega) (by omega)) ?_; intro u6 E_u6 V_u6 R_u6
  have T7 := gF_2_3 V_u6
  have T8 := gF_2_10 V_u6
  have T9 := gF_2_11 V_u6
  refine ok_cVR (vf_X8_need hn (by omega) (by omega) V_u6) ?_; intro u8 E_u8 V_u8 R_u8
  have T10 : u8 2 3 = u6 2 3 := (ff_X8_need nn) _ E_u8 2 3 rfl
  have T11 := gF_2_10 V_u8
  have T12 := gF_2_11 V_u8
  refine ok_cVR (vf_X8_need hn (by omega) (by omega) V_u8) ?_; intro u10 E_u10 V_u10 R_u10
  have T13 : u10 2 3 = u8 2 3 := (ff_X8_need nn) _ E_u10 2 3 rfl
  have T14 := gF_2_10 V_u10
  have T15 := gF_2_11 V_u10
  refine ok_cVR (vf_X8_need hn (by omega) (by omega) V_u10) ?_; intro u12 E_u12 V_u12 R_u12
  have T16 : u12 2 3 = u10 2 3 := (ff_X8_need nn) _ E_u12 2 3 rfl
  have T17 := gF_2_10 V_u12
  have T18 := gF_2_11 V_u12
  refine ok_cVR (vf_X8_need hn (by omega) (by omega) V_u12) ?_; intro u14 E_u14 V_u14 R_u14
  have T19 : u14 2 3 = u12 2 3 := (ff_X8_need nn) _ E_u14 2 3 rfl
  have T20 := gF_2_10 V_u14
  have T21 := gF_2_11 V_u14
  refine ok_cVR (vf_X8_need hn (by omega) (by omega) V_u14) ?_; intro u16 E_u16 V_u16 R_u16
  have T22 : u16 2 3 = u14 2 3 := (ff_X8_need nn) _ E_u16 2 3 rfl
  have T23 := gF_2_10 V_u16
  have T24 := gF_2_11 V_u16
  refine ok_cVR (hg.1 (by omega) (by omega) V_u16 (by omega) (by omega)) ?_; intro u18 E_u18 V_u18 R_u18
  have T25 := gF_2_3 V_u18
  have T26 := gF_2_10 V_u18
  have T27 := gF_2_11 V_u18
  exact ok_rVR V_u18 (by omega)
set_option maxRecDepth 4000 in
theorem vg_X8_readBlock {nn : Nat} (hn : 1000000 ≤ nn) : ∀ g : Nat, GH_X8_readBlock (g : Int) (qg_X8_readBlock nn g) := by
  intro g
  induction g with
  | zero => exact ⟨by intros; exfalso; omega, by intros; exfalso; omega, by intros; exfalso; omega⟩
  | succ g ih =>
    refine ⟨?_, ?_, ?_⟩
    · intro a1 h a_a1 b_a1 V_h x_0 x_1; exact vo_X8_readBlock hn ih a_a1 b_a1 V_h (by omega) (by omega)
    · intro a1 h a_a1 b_a1 V_h x_0 x_1; exact vo_X8_readStatement hn ih a_a1 b_a1 V_h (by omega) (by omega)
    · intro a1 h a_a1 b_a1 V_h x_0 x_1 x_2; exact vo_X8_readTry hn ih a_a1 b_a1 V_h (by omega) (by omega) (by omega)
theorem vf_X8_readBlock {nn : Nat} (hn : 1000000 ≤ nn) {a1 : Int} {h : ms_M} (a_a1 : 0 ≤ a1) (b_a1 : a1 ≤ 41) (V_h : VS_ h) (x_1 : a1 ≤ 40) (xg : 3 * (43 - a1) + 2 ≤ 150) : Ok_ (qf_X8_readBlock nn a1 h) (QVR_ (fun r => (r 2 3 = h 2 3) ∧ (h 2 10 ≤ r 2 10) ∧ (h 2 11 = 0 ∨ ¬ r 2 11 = 0) ∧ (r 2 10 ≤ h 2 10 ∨ r 2 10 ≤ 3004) ∧ ((h 2 11 = 0 ∧ h 2 10 < h 2 3) ∨ ¬ (r 2 11 = 0 ∧ r 2 10 < r 2 3)))) := by
  unfold qf_X8_readBlock
  exact (vg_X8_readBlock hn 150).1 a_a1 b_a1 V_h (by omega) (by omega)
set_option maxRecDepth 4000 in
theorem vw_X8_readParameters_4 {nn : Nat} (hn : 1000000 ≤ nn) : ∀ (k : Nat) {l1 : Int} {l2 : Int} {h : ms_M} (a_l1 : 0 ≤ l1) (b_l1 : l1 ≤ 1) (a_l2 : 0 ≤ l2) (b_l2 : l2 ≤ 3000) (V_h : VS_ h)  (hm : 3001 - l2 < (k : Int)), Ok_ (qw_X8_readParameters_4 nn k l1 l2 h) (QVR_ (fun r => (r 2 3 = h 2 3) ∧ (h 2 10 ≤ r 2 10) ∧ (h 2 11 = 0 ∨ ¬ r 2 11 = 0) ∧ (r 2 10 ≤ h 2 10 ∨ r 2 10 ≤ 3004) ∧ ((h 2 11 = 0 ∧ h 2 10 < h 2 3) ∨ ¬ (r 2 11 = 0 ∧ r 2 10 < r 2 3)))) := by
  intro k
  induction k with
  | zero => intros; exfalso; omega
  | succ k ih =>
    intro l1 l2 h a_l1 b_l1 a_l2 b_l2 V_h hm
    unfold qw_X8_readParameters_4
    have T1 := gF_2_3 V_h
    have T2 := gF_2_10 V_h
    have T3 := gF_2_11 V_h
    refine ok_if ?_ ?_
    · intro C3
      exact ok_rVR V_h (by omega)
    · intro C3
      refine ok_if ?_ ?_
      · intro C4
        exact ok_rVR V_h (by omega)
      · intro C4
        refine ok_cVR (vf_X8_readType hn V_h) ?_; intro u2 E_u2 V_u2 R_u2
        have T6 : u2 2 3 = h 2 3 := (ff_X8_readType nn) _ E_u2 2 3 rfl
        have T7 := gF_2_10 V_u2
        have T8 := gF_2_11 V_u2
        refine ok_cVR (vf_X8_need hn (by omega) (by omega) V_u2) ?_; intro u4 E_u4 V_u4 R_u4
        have T9 : u4 2 3 = u2 2 3 := (ff_X8_need nn) _ E_u4 2 3 rfl
        have T10 := gF_2_10 V_u4
        have T11 := gF_2_11 V_u4
        refine ok_cIR (vf_X8_accept hn (by omega) (by omega) V_u4) ?_; intro u6 E_u6 V_u6 a_u6 b_u6 R_u6
        have T12 : u6.2 2 3 = u4 2 3 := (ff_X8_accept nn) _ E_u6 2 3 rfl
        have T13 : u6.2 2 11 = u4 2 11 := (ff_X8_accept nn) _ E_u6 2 11 rfl
        have T14 := gF_2_10 V_u6
        refine ok_add (by omega) ?_; intro v7 e_v7
        exact ok_mV (ih (by omega) (by omega) (by omega) (by omega) V_u6 (by omega)) (fun _ V_r R_r => by have := gF_2_3 V_r; have := gF_2_10 V_r; have := gF_2_11 V_r; omega)
set_option maxRecDepth 4000 in
theorem vf_X8_readParameters {nn : Nat} (hn : 1000000 ≤ nn) {h : ms_M} (V_h : VS_ h)  : Ok_ (qf_X8_readParameters nn h) (QVR_ (fun r => (r 2 3 = h 2 3) ∧ (h 2 10 ≤ r 2 10) ∧ (h 2 11 = 0 ∨ ¬ r 2 11 = 0) ∧ (r 2 10 ≤ h 2 10 ∨ r 2 10 ≤ 3004) ∧ ((h 2 11 = 0 ∧ h 2 10 < h 2 3) ∨ ¬ (r 2 11 = 0 ∧ r 2 10 < r 2 3)))) := by
  unfold qf_X8_readParameters
  have T1 := gF_2_3 V_h
  have T2 := gF_2_10 V_h
  have T3 := gF_2_11 V_h
  exact ok_mV (vw_X8_readParameters_4 hn _ (by omega) (by omega) (by omega) (by omega) V_h (by omega)) (fun _ V_r R_r => by have := gF_2_3 V_r; have := gF_2_10 V_r; have := gF_2_11 V_r; omega)
set_option maxRecDepth 4000 in
theorem vj_X8_readMember_66 {nn : Nat} (hn : 1000000 ≤ nn) {h : ms_M} (V_h : VS_ h)  : Ok_ (qj_X8_readMember_66 nn h) (QVR_ (fun r => (r 2 3 = h 2 3) ∧ (h 2 10 ≤ r 2 10) ∧ (h 2 11 = 0 ∨ ¬ r 2 11 = 0) ∧ (r 2 10 ≤ h 2 10 ∨ r 2 10 ≤ 3004) ∧ ((h 2 11 = 0 ∧ h 2 10 < h 2 3) ∨ ¬ (r 2 11 = 0 ∧ r 2 10 < r 2 3)))) := by
  unfold qj_X8_readMember_66
  have T1 := gF_2_3 V_h
  have T2 := gF_2_10 V_h
  have T3 := gF_2_11 V_h
  refine ok_cVR (vf_X8_need hn (by omega) (by omega) V_h) ?_; intro u2 E_u2 V_u2 R_u2
  have T4 : u2 2 3 = h 2 3 := (ff_X8_need nn) _ E_u2 2 3 rfl
  have T5 := gF_2_10 V_u2
  have T6 := gF_2_11 V_u2
  refine ok_cVR (vf_X8_readBlock hn (by omega) (by omega) V_u2 (by omega) (by omega)) ?_; intro u4 E_u4 V_u4 R_u4
  have T7 : u4 2 3 = u2 2 3 := (ff_X8_readBlock nn) _ E_u4 2 3 rfl
  have T8 := gF_2_10 V_u4
  have T9 := gF_2_11 V_u4
  exact ok_rVR V_u4 (by omega)
set_option maxRecDepth 4000 in
theorem vj_X8_readMember_44 {nn : Nat} (hn : 1000000 ≤ nn) {h : ms_M} (V_h : VS_ h)  : Ok_ (qj_X8_readMember_44 nn h) (QVR_ (fun r => (r 2 3 = h 2 3) ∧ (h 2 10 ≤ r 2 10) ∧ (h 2 11 = 0 ∨ ¬ r 2 11 = 0) ∧ (r 2 10 ≤ h 2 10 ∨ r 2 10 ≤ 3004) ∧ ((h 2 11 = 0 ∧ h 2 10 < h 2 3) ∨ ¬ (r 2 11 = 0 ∧ r 2 10 < r 2 3)))) := by
  unfold qj_X8_readMember_44
  have T1 := gF_2_3 V_h
  have T2 := gF_2_10 V_h
  have T3 := gF_2_11 V_h
  refine ok_cVR (vf_X8_need hn (by omega) (by omega) V_h) ?_; intro u6 E_u6 V_u6 R_u6
  have T4 : u6 2 3 = h 2 3 := (ff_X8_need nn) _ E_u6 2 3 rfl
  have T5 := gF_2_10 V_u6
  have T6 := gF_2_11 V_u6
  refine ok_cP (vf_X9_kind hn V_u6) ?_; intro u9 e_u9 a_u9 b_u9
  have T7 := lm_X9_kind e_u9
  refine ok_if ?_ ?_
  · intro C7
    exact ok_mV (vj_X8_readMember_66 hn V_u6) (fun _ V_r R_r => by have := gF_2_3 V_r; have := gF_2_10 V_r; have := gF_2_11 V_r; omega)
  · intro C7
    refine ok_cVR (vf_X8_readParameters hn V_u6) ?_; intro u11 E_u11 V_u11 R_u11
    have T9 : u11 2 3 = u6 2 3 := (ff_X8_readParameters nn) _ E_u11 2 3 rfl
    have T10 := gF_2_10 V_u11
    have T11 := gF_2_11 V_u11
    exact ok_mV (vj_X8_readMember_66 hn V_u11) (fun _ V_r R_r => by have := gF_2_3 V_r; have := gF_2_10 V_r; have := gF_2_11 V_r; omega)
set_option maxRecDepth 4000 in
theorem vj_X8_readMember_25 {nn : Nat} (hn : 1000000 ≤ nn) {l1 : Int} {h : ms_M} (a_l1 : 0 ≤ l1) (b_l1 : l1 ≤ 1) (V_h : VS_ h)  : Ok_ (qj_X8_readMember_25 nn l1 h) (QVR_ (fun r => (r 2 3 = h 2 3) ∧ (h 2 10 ≤ r 2 10) ∧ (h 2 11 = 0 ∨ ¬ r 2 11 = 0) ∧ (r 2 10 ≤ h 2 10 ∨ r 2 10 ≤ 3004) ∧ ((h 2 11 = 0 ∧ h 2 10 < h 2 3) ∨ ¬ (r 2 11 = 0 ∧ r 2 10 < r 2 3)))) := by
  unfold qj_X8_readMember_25
  have T1 := gF_2_3 V_h
  have T2 := gF_2_10 V_h
  have T3 := gF_2_11 V_h
  refine ok_cVR (vf_X8_need hn (by omega) (by omega) V_h) ?_; intro u14 E_u14 V_u14 R_u14
  have T4 : u14 2 3 = h 2 3 := (ff_X8_need nn) _ E_u14 2 3 rfl
  have T5 := gF_2_10 V_u14
  have T6 := gF_2_11 V_u14
  refine ok_if ?_ ?_
  · intro C6
    exact ok_mV (vj_X8_readMember_44 hn V_u14) (fun _ V_r R_r => by have := gF_2_3 V_r; have := gF_2_10 V_r; have := gF_2_11 V_r; omega)
  · intro C6
    refine ok_cIR (vf_X8_accept hn (by omega) (by omega) V_u14) ?_; intro u16 E_u16 V_u16 a_u16 b_u16 R_u16
    have T8 : u16.2 2 3 = u14 2 3 := (ff_X8_accept nn) _ E_u16 2 3 rfl
    have T9 : u16.2 2 11 = u14 2 11 := (ff_X8_accept nn) _ E_u16 2 11 rfl
    have T10 := gF_2_10 V_u16
    refine ok_if ?_ ?_
    · intro C10
      exact ok_mV (vj_X8_readMember_44 hn V_u16) (fun _ V_r R_r => by have := gF_2_3 V_r; have := gF_2_10 V_r; have := gF_2_11 V_r; omega)
    · intro C10
      exact ok_rVR V_u16 (by omega)
set_option maxRecDepth 4000 in
theorem vf_X8_readMember {nn : Nat} (hn : 1000000 ≤ nn) {h : ms_M} (V_h : VS_ h)  : Ok_ (qf_X8_readMember nn h) (QVR_ (fun r => (r 2 3 = h 2 3) ∧ (h 2 10 ≤ r 2 10) ∧ (h 2 11 = 0 ∨ ¬ r 2 11 = 0) ∧ (r 2 10 ≤ h 2 10 ∨ r 2 10 ≤ 3004) ∧ ((h 2 11 = 0 ∧ h 2 10 < h 2 3) ∨ ¬ (r 2 11 = 0 ∧ r 2 10 < r 2 3)))) := by
  unfold qf_X8_readMember
  have T1 := gF_2_3 V_h
  have T2 := gF_2_10 V_h
  have T3 := gF_2_11 V_h
  refine ok_cIR (vf_X8_accept hn (by omega) (by omega) V_h) ?_; intro u20 E_u20 V_u20 a_u20 b_u20 R_u20
  have T4 : u20.2 2 3 = h 2 3 := (ff_X8_accept nn) _ E_u20 2 3 rfl
  have T5 : u20.2 2 11 = h 2 11 := (ff_X8_accept nn) _ E_u20 2 11 rfl
  have T6 := gF_2_10 V_u20
  refine ok_cIR (vf_X8_accept hn (by omega) (by omega) V_u20) ?_; intro u22 E_u22 V_u22 a_u22 b_u22 R_u22
  have T7 : u22.2 2 3 = u20.2 2 3 := (ff_X8_accept nn) _ E_u22 2 3 rfl
  have T8 : u22.2 2 11 = u20.2 2 11 := (ff_X8_accept nn) _ E_u22 2 11 rfl
  have T9 := gF_2_10 V_u22
  refine ok_if ?_ ?_
  · intro C9
    refine ok_cVR (vf_X8_readType hn V_u22) ?_; intro u24 E_u24 V_u24 R_u24
    have T11 : u24 2 3 = u22.2 2 3 := (ff_X8_readType nn) _ E_u24 2 3 rfl
    have T12 := gF_2_10 V_u24
    have T13 := gF_2_11 V_u24
    exact ok_mV (vj_X8_readMember_25 hn (by omega) (by omega) V_u24) (fun _ V_r R_r => by have := gF_2_3 V_r; have := gF_2_10 V_r; have := gF_2_11 V_r; omega)
  · intro C9
    exact ok_mV (vj_X8_readMember_25 hn (by omega) (by omega) V_u22) (fun _ V_r R_r => by have := gF_2_3 V_r; have := gF_2_10 V_r; have := gF_2_11 V_r; omega)
set_option maxRecDepth 4000 in
theorem vj_X8_readClass_86 {nn : Nat} (hn : 1000000 ≤ nn) {h : ms_M} (V_h : VS_ h) (x_0 : h 2 10 ≤ 3004) (x_1 : ¬ h 2 11 = 0 ∨ h 11 2 ≤ 8 ∨ h 15 8 < h 2 3) (N_h : EI_ h)  : Ok_ (qj_X8_readClass_86 nn h) (QVR_ (fun r => (r 2 10 ≤ 3004) ∧ (¬ r 2 11 = 0 ∨ r 11 2 ≤ 8 ∨ r 15 8 < r 2 3))) := by
  unfold qj_X8_readClass_86
  have T1 := gF_2_3 V_h
  have T2 := gF_2_10 V_h
  have T3 := gF_2_11 V_h
  have T4 := gF_11_2 V_h
  refine ok_cVR (vf_X8_need hn (by omega) (by omega) V_h) ?_; intro u2 E_u2 V_u2 R_u2
  have N_u2 : EI_ u2 := ei_eq N_h (fun k => (ff_X8_need nn) _ E_u2 3 k (nw_ar rfl k)) ((ff_X8_need nn) _ E_u2 2 3 rfl)
  have T5 : u2 2 3 = h 2 3 := (ff_X8_need nn) _ E_u2 2 3 rfl
  have T6 : u2 11 2 = h 11 2 := (ff_X8_need nn) _ E_u2 11 2 rfl
  have T7 : u2 15 8 = h 15 8 := (ff_X8_need nn) _ E_u2 15 8 (nw_ar rfl _)
  have T8 := gF_2_10 V_u2
  have T9 := gF_2_11 V_u2
  exact ok_rVR V_u2 (by omega)
set_option maxRecDepth 4000 in
theorem vw_X8_readClass_47 {nn : Nat} (hn : 1000000 ≤ nn) : ∀ (k : Nat) {l1 : Int} {h : ms_M} (a_l1 : 0 ≤ l1) (b_l1 : l1 ≤ 3000) (V_h : VS_ h) (x_0 : h 2 10 ≤ 3004) (x_1 : ¬ h 2 11 = 0 ∨ h 11 2 ≤ 8 ∨ h 15 8 < h 2 3) (N_h : EI_ h)  (hm : 3001 - l1 < (k : Int)), Ok_ (qw_X8_readClass_47 nn k l1 h) (QVR_ (fun r => (r 2 10 ≤ 3004) ∧ (¬ r 2 11 = 0 ∨ r 11 2 ≤ 8 ∨ r 15 8 < r 2 3))) := by
  intro k
  induction k with
  | zero => intros; exfalso; omega
  | succ k ih =>
    intro l1 h a_l1 b_l1 V_h x_0 x_1 N_h hm
    unfold qw_X8_readClass_47
    have T1 := gF_2_3 V_h
    have T2 := gF_2_10 V_h
    have T3 := gF_2_11 V_h
    have T4 := gF_11_2 V_h
    refine ok_if ?_ ?_
    · intro C4
      exact ok_mV (vj_X8_readClass_86 hn V_h (by omega) (by omega) N_h) (fun _ V_r R_r => by have := gF_2_3 V_r; have := gF_2_10 V_r; have := gF_2_11 V_r; have := gF_11_2 V_r; omega)
    · intro C4
      refine ok_if ?_ ?_
      · intro C5
        exact ok_mV (vj_X8_readClass_86 hn V_h (by omega) (by omega) N_h) (fun _ V_r R_r => by have := gF_2_3 V_r; have := gF_2_10 V_r; have := gF_2_11 V_r; have := gF_11_2 V_r; omega)
      · intro C5
        refine ok_cP (vf_X9_kind hn V_h) ?_; intro u7 e_u7 a_u7 b_u7
        have T7 := lm_X9_kind e_u7
        refine ok_if ?_ ?_
        · intro C7
          exact ok_mV (vj_X8_readClass_86 hn V_h (by omega) (by omega) N_h) (fun _ V_r R_r => by have := gF_2_3 V_r; have := gF_2_10 V_r; have := gF_2_11 V_r; have := gF_11_2 V_r; omega)
        · intro C7
          refine ok_cVR (vf_X8_readMember hn V_h) ?_; intro u9 E_u9 V_u9 R_u9
          have N_u9 : EI_ u9 := ei_eq N_h (fun k => (ff_X8_readMember nn) _ E_u9 3 k (nw_ar rfl k)) ((ff_X8_readMember nn) _ E_u9 2 3 rfl)
          have T9 : u9 2 3 = h 2 3 := (ff_X8_readMember nn) _ E_u9 2 3 rfl
          have T10 : u9 11 2 = h 11 2 := (ff_X8_readMember nn) _ E_u9 11 2 rfl
          have T11 : u9 15 8 = h 15 8 := (ff_X8_readMember nn) _ E_u9 15 8 (nw_ar rfl _)
          have T12 := gF_2_10 V_u9
          have T13 := gF_2_11 V_u9
          refine ok_add (by omega) ?_; intro v10 e_v10
          exact ok_mV (ih (by omega) (by omega) V_u9 (by omega) (by omega) N_u9 (by omega)) (fun _ V_r R_r => by have := gF_2_3 V_r; have := gF_2_10 V_r; have := gF_2_11 V_r; have := gF_11_2 V_r; omega)
set_option maxRecDepth 4000 in
theorem vj_X8_readClass_39 {nn : Nat} (hn : 1000000 ≤ nn) {h : ms_M} (V_h : VS_ h) (x_0 : h 2 10 ≤ 3004) (x_1 : ¬ h 2 11 = 0 ∨ h 11 2 ≤ 8 ∨ h 15 8 < h 2 3) (N_h : EI_ h)  : Ok_ (qj_X8_readClass_39 nn h) (QVR_ (fun r => (r 2 10 ≤ 3004) ∧ (¬ r 2 11 = 0 ∨ r 11 2 ≤ 8 ∨ r 15 8 < r 2 3))) := by
  unfold qj_X8_readClass_39
  have T1 := gF_2_3 V_h
  have T2 := gF_2_10 V_h
  have T3 := gF_2_11 V_h
  have T4 := gF_11_2 V_h
  refine ok_cVR (vf_X8_need hn (by omega) (by omega) V_h) ?_; intro u15 E_u15 V_u15 R_u15
  have N_u15 : EI_ u15 := ei_eq N_h (fun k => (ff_X8_need nn) _ E_u15 3 k (nw_ar rfl k)) ((ff_X8_need nn) _ E_u15 2 3 rfl)
  have T5 : u15 2 3 = h 2 3 := (ff_X8_need nn) _ E_u15 2 3 rfl
  have T6 : u15 11 2 = h 11 2 := (ff_X8_need nn) _ E_u15 11 2 rfl
  have T7 : u15 15 8 = h 15 8 := (ff_X8_need nn) _ E_u15 15 8 (nw_ar rfl _)
  have T8 := gF_2_10 V_u15
  have T9 := gF_2_11 V_u15
  exact ok_mV (vw_X8_readClass_47 hn _ (by omega) (by omega) V_u15 (by omega) (by omega) N_u15 (by omega)) (fun _ V_r R_r => by have := gF_2_3 V_r; have := gF_2_10 V_r; have := gF_2_11 V_r; have := gF_11_2 V_r; omega)
set_option maxRecDepth 4000 in
theorem vf_X8_readClass {nn : Nat} (hn : 1000000 ≤ nn) {h : ms_M} (V_h : VS_ h) (x_0 : h 2 10 ≤ 3004) (x_1 : ¬ h 2 11 = 0 ∨ h 11 2 ≤ 8 ∨ h 15 8 < h 2 3) (x_2 : ¬ h 2 11 = 0 ∨ h 2 10 < h 2 3) (N_h : EI_ h)  : Ok_ (qf_X8_readClass nn h) (QVR_ (fun r => (r 2 10 ≤ 3004) ∧ (¬ r 2 11 = 0 ∨ r 11 2 ≤ 8 ∨ r 15 8 < r 2 3))) := by
  unfold qf_X8_readClass
  have T1 := gF_2_3 V_h
  have T2 := gF_2_10 V_h
  have T3 := gF_2_11 V_h
  refine ok_cVR (vf_X8_need hn (by omega) (by omega) V_h) ?_; intro u17 E_u17 V_u17 R_u17
  have T26 := lm_X8_need N_h (by omega) E_u17
  have A1 : u17 11 2 = h 11 2 := (ff_X8_need nn) _ E_u17 11 2 rfl
  have A2 : u17 15 8 = h 15 8 := (ff_X8_need nn) _ E_u17 15 8 (nw_ar rfl _)
  have A3 : u17 2 3 = h 2 3 := (ff_X8_need nn) _ E_u17 2 3 rfl
  have L17 : ¬ u17 2 11 = 0 ∨ u17 2 10 < u17 2 3 := by omega
  have P17 : u17 2 10 ≤ 3004 := by omega
  have C17 : ¬ u17 2 11 = 0 ∨ u17 11 2 ≤ 8 ∨ u17 15 8 < u17 2 3 := by omega
  clear R_u17 T26 x_0 x_1 x_2
  have G17 := gF_2_10 V_u17
  refine ok_cVR (vf_X2_addClass hn (by omega) (by omega) V_u17) ?_; intro u22 E_u22 V_u22 R_u22
  have T22 := lm_X2_addClass V_u17 E_u22
  have B1 : u22 2 10 = u17 2 10 := (ff_X2_addClass nn) _ E_u22 2 10 rfl
  have B2 : u22 2 11 = u17 2 11 := (ff_X2_addClass nn) _ E_u22 2 11 rfl
  have B3 : u22 2 3 = u17 2 3 := (ff_X2_addClass nn) _ E_u22 2 3 rfl
  have C22 : ¬ u22 2 11 = 0 ∨ u22 11 2 ≤ 8 ∨ u22 15 8 < u22 2 3 := by omega
  have P22 : u22 2 10 ≤ 3004 := by omega
  clear T22 R_u22 L17 C17
  refine ok_cVR (vf_X8_need hn (by omega) (by omega) V_u22) ?_; intro u24 E_u24 V_u24 R_u24
  have D1 : u24 11 2 = u22 11 2 := (ff_X8_need nn) _ E_u24 11 2 rfl
  have D2 : u24 15 8 = u22 15 8 := (ff_X8_need nn) _ E_u24 15 8 (nw_ar rfl _)
  have D3 : u24 2 3 = u22 2 3 := (ff_X8_need nn) _ E_u24 2 3 rfl
  have C24 : ¬ u24 2 11 = 0 ∨ u24 11 2 ≤ 8 ∨ u24 15 8 < u24 2 3 := by omega
  have G22 := gF_2_3 V_u22
  have P24 : u24 2 10 ≤ 3004 := by omega
  clear R_u24 C22
  refine ok_cIR (vf_X8_accept hn (by omega) (by omega) V_u24) ?_; intro u26 E_u26 V_u26 a_u26 b_u26 R_u26
  have F1 : u26.2 11 2 = u24 11 2 := (ff_X8_accept nn) _ E_u26 11 2 rfl
  have F2 : u26.2 15 8 = u24 15 8 := (ff_X8_accept nn) _ E_u26 15 8 (nw_ar rfl _)
  have F3 : u26.2 2 3 = u24 2 3 := (ff_X8_accept nn) _ E_u26 2 3 rfl
  have C26 : ¬ u26.2 2 11 = 0 ∨ u26.2 11 2 ≤ 8 ∨ u26.2 15 8 < u26.2 2 3 := by omega
  have G24 := gF_2_3 V_u24
  have P26 : u26.2 2 10 ≤ 3004 := by omega
  have N26 : EI_ u26.2 := by
    have n1 : EI_ u17 := ei_eq N_h (fun k => (ff_X8_need nn) _ E_u17 3 k (nw_ar rfl k)) A3
    have n2 : EI_ u22 := ei_eq n1 (fun k => (ff_X2_addClass nn) _ E_u22 3 k (nw_ar rfl k)) B3
    have n3 : EI_ u24 := ei_eq n2 (fun k => (ff_X8_need nn) _ E_u24 3 k (nw_ar rfl k)) D3
    exact ei_eq n3 (fun k => (ff_X8_accept nn) _ E_u26 3 k (nw_ar rfl k)) F3
  clear R_u26 C24
  refine ok_if ?_ ?_
  · intro _
    exact vj_X8_readClass_39 hn V_u26 P26 C26 N26
  · intro _
    refine ok_cVR (vf_X8_need hn (by omega) (by omega) V_u26) ?_; intro u28 E_u28 V_u28 R_u28
    have K1 : u28 11 2 = u26.2 11 2 := (ff_X8_need nn) _ E_u28 11 2 rfl
    have K2 : u28 15 8 = u26.2 15 8 := (ff_X8_need nn) _ E_u28 15 8 (nw_ar rfl _)
    have K3 : u28 2 3 = u26.2 2 3 := (ff_X8_need nn) _ E_u28 2 3 rfl
    have G26 := gF_2_3 V_u26
    exact vj_X8_readClass_39 hn V_u28 (by omega) (by omega) (ei_eq N26 (fun k => (ff_X8_need nn) _ E_u28 3 k (nw_ar rfl k)) K3)
set_option maxRecDepth 4000 in
theorem vj_X8_readProgram_33 {nn : Nat} (hn : 1000000 ≤ nn) {qkk_2 : Int → ms_M → Option ms_M} {K_kk_2 : Int} (hk_kk_2 : ∀ {l1 : Int} {h : ms_M} (a_l1 : 0 ≤ l1) (b_l1 : l1 ≤ 3000) (V_h : VS_ h) (x_0 : h 2 10 ≤ 3004) (x_1 : ¬ h 2 11 = 0 ∨ h 11 2 ≤ 8 ∨ h 15 8 < h 2 3) (x_2 : ¬ l1 = 0 ∨ h 2 10 < h 2 3) (N_h : EI_ h) (_ : 3001 - l1 < K_kk_2), Ok_ (qkk_2 l1 h) (QVR_ (fun r => (¬ r 2 11 = 0 ∨ r 11 2 ≤ 8 ∨ r 15 8 < r 2 3)))) {l1 : Int} {h : ms_M} (a_l1 : 0 ≤ l1) (b_l1 : l1 ≤ 2999) (V_h : VS_ h) (x_0 : h 2 10 ≤ 3004) (x_1 : ¬ h 2 11 = 0 ∨ h 11 2 ≤ 8 ∨ h 15 8 < h 2 3) (x_2 : ¬ h 2 11 = 0 ∨ h 2 10 < h 2 3) (N_h : EI_ h) (hm_kk_2 : 3001 - l1 + 0 ≤ K_kk_2) : Ok_ (qj_X8_readProgram_33 nn qkk_2 l1 h) (QVR_ (fun r => (¬ r 2 11 = 0 ∨ r 11 2 ≤ 8 ∨ r 15 8 < r 2 3))) := by
  unfold qj_X8_readProgram_33
  have T1 := gF_2_3 V_h
  have T2 := gF_2_10 V_h
  have T3 := gF_2_11 V_h
  have T4 := gF_11_2 V_h
  refine ok_cVR (vf_X8_readClass hn V_h (by omega) (by omega) (by omega) N_h) ?_; intro u2 E_u2 V_u2 R_u2
  have N_u2 : EI_ u2 := ei_eq N_h (fun k => (ff_X8_readClass nn) _ E_u2 3 k (nw_ar rfl k)) ((ff_X8_readClass nn) _ E_u2 2 3 rfl)
  have T5 : u2 2 3 = h 2 3 := (ff_X8_readClass nn) _ E_u2 2 3 rfl
  have T6 := gF_2_10 V_u2
  have T7 := gF_2_11 V_u2
  have T8 := gF_11_2 V_u2
  refine ok_add (by omega) ?_; intro v3 e_v3
  exact ok_mV (hk_kk_2 (by omega) (by omega) V_u2 (by omega) (by omega) (by omega) N_u2 (by omega)) (fun _ V_r R_r => by have := gF_2_3 V_r; have := gF_2_10 V_r; have := gF_2_11 V_r; have := gF_11_2 V_r; omega)
set_option maxRecDepth 4000 in
theorem vw_X8_readProgram_2 {nn : Nat} (hn : 1000000 ≤ nn) : ∀ (k : Nat) {l1 : Int} {h : ms_M} (a_l1 : 0 ≤ l1) (b_l1 : l1 ≤ 3000) (V_h : VS_ h) (x_0 : h 2 10 ≤ 3004) (x_1 : ¬ h 2 11 = 0 ∨ h 11 2 ≤ 8 ∨ h 15 8 < h 2 3) (x_2 : ¬ l1 = 0 ∨ h 2 10 < h 2 3) (N_h : EI_ h)  (hm : 3001 - l1 < (k : Int)), Ok_ (qw_X8_readProgram_2 nn k l1 h) (QVR_ (fun r => (¬ r 2 11 = 0 ∨ r 11 2 ≤ 8 ∨ r 15 8 < r 2 3))) := by
  intro k
  induction k with
  | zero => intros; exfalso; omega
  | succ k ih =>
    intro l1 h a_l1 b_l1 V_h x_0 x_1 x_2 N_h hm
    unfold qw_X8_readProgram_2
    have T1 := gF_2_3 V_h
    have T2 := gF_2_10 V_h
    have T3 := gF_2_11 V_h
    have T4 := gF_11_2 V_h
    refine ok_if ?_ ?_
    · intro C4
      exact ok_rVR V_h (by omega)
    · intro C4
      refine ok_if ?_ ?_
      · intro C5
        exact ok_rVR V_h (by omega)
      · intro C5
        refine ok_if ?_ ?_
        · intro C6
          exact ok_mV (vj_X8_readProgram_33 hn ih (by omega) (by omega) V_h (by omega) (by omega) (by omega) N_h (by omega)) (fun _ V_r R_r => by have := gF_2_3 V_r; have := gF_2_10 V_r; have := gF_2_11 V_r; have := gF_11_2 V_r; omega)
        · intro C6
          refine ok_cP (vf_X9_kind hn V_h) ?_; intro u8 e_u8 a_u8 b_u8
          have T8 := lm_X9_kind e_u8
          refine ok_if ?_ ?_
          · intro C8
            exact ok_rVR V_h (by omega)
          · intro C8
            exact ok_mV (vj_X8_readProgram_33 hn ih (by omega) (by omega) V_h (by omega) (by omega) (by omega) N_h (by omega)) (fun _ V_r R_r => by have := gF_2_3 V_r; have := gF_2_10 V_r; have := gF_2_11 V_r; have := gF_11_2 V_r; omega)
set_option maxRecDepth 4000 in
theorem vf_X8_readProgram {nn : Nat} (hn : 1000000 ≤ nn) {h : ms_M} (V_h : VS_ h) (x_0 : h 2 10 ≤ 3004) (x_1 : ¬ h 2 11 = 0 ∨ h 11 2 ≤ 8 ∨ h 15 8 < h 2 3) (x_2 : h 2 10 < h 2 3) (N_h : EI_ h)  : Ok_ (qf_X8_readProgram nn h) (QVR_ (fun r => (¬ r 2 11 = 0 ∨ r 11 2 ≤ 8 ∨ r 15 8 < r 2 3))) := by
  unfold qf_X8_readProgram
  have T1 := gF_2_3 V_h
  have T2 := gF_2_10 V_h
  have T3 := gF_2_11 V_h
  have T4 := gF_11_2 V_h
  exact ok_mV (vw_X8_readProgram_2 hn _ (by omega) (by omega) V_h (by omega) (by omega) (by omega) N_h (by omega)) (fun _ V_r R_r => by have := gF_2_3 V_r; have := gF_2_10 V_r; have := gF_2_11 V_r; have := gF_11_2 V_r; omega)
set_option maxRecDepth 4000 in
theorem vf_X9_refuse {nn : Nat} (hn : 1000000 ≤ nn) {a1 : Int} {a2 : Int} {h : ms_M} (a_a1 : 1 ≤ a1) (b_a1 : a1 ≤ 1) (a_a2 : 3000 ≤ a2) (b_a2 : a2 ≤ 3000) (V_h : VS_ h)  : Ok_ (qf_X9_refuse nn a1 a2 h) QV_ := by
  unfold qf_X9_refuse
  refine ok_xl ?_; intro h1 E_h1; have V_h1 : VS_ h1 := by rw [E_h1]; exact wF_2_11 V_h (by omega)
  refine ok_xl ?_; intro h2 E_h2; have V_h2 : VS_ h2 := by rw [E_h2]; exact wF_2_12 V_h1 (by omega)
  exact ok_rV V_h2
set_option maxRecDepth 4000 in
theorem vf_X9_addToken {nn : Nat} (hn : 1000000 ≤ nn) {a1 : Int} {a2 : Int} {a3 : Int} {h : ms_M} (a_a1 : 0 ≤ a1) (b_a1 : a1 ≤ 1740) (a_a2 : 0 ≤ a2) (b_a2 : a2 ≤ 3000) (a_a3 : 0 ≤ a3) (b_a3 : a3 ≤ 2147483647) (V_h : VS_ h)  : Ok_ (qf_X9_addToken nn a1 a2 a3 h) (QVR_ (fun r => (h 2 3 ≤ r 2 3 ∧ r 2 3 ≤ h 2 3 + 1))) := by
  unfold qf_X9_addToken
  have T1 := gF_2_3 V_h
  refine ok_if ?_ ?_
  · intro C1
    exact ok_rVR V_h (by omega)
  · intro C1
    refine ok_wA (by omega) ?_; intro h6 E_h6; have V_h6 : VS_ h6 := by rw [E_h6]; exact wA_3 V_h (by omega)
    have T3 : h6 2 3 = h 2 3 := by rw [E_h6]; exact up_n (fun z => absurd z.1 (by decide))
    refine ok_wA (by omega) ?_; intro h9 E_h9; have V_h9 : VS_ h9 := by rw [E_h9]; exact wA_4 V_h6 (by omega)
    have T4 : h9 2 3 = h6 2 3 := by rw [E_h9]; exact up_n (fun z => absurd z.1 (by decide))
    refine ok_wA (by omega) ?_; intro h12 E_h12; have V_h12 : VS_ h12 := by rw [E_h12]; exact wA_5 V_h9 (by omega)
    have T5 : h12 2 3 = h9 2 3 := by rw [E_h12]; exact up_n (fun z => absurd z.1 (by decide))
    refine ok_add (by omega) ?_; intro v14 e_v14
    refine ok_xl ?_; intro h15 E_h15; have V_h15 : VS_ h15 := by rw [E_h15]; exact wF_2_3 V_h12 (by omega)
    have T6 : h15 2 3 = v14 := by rw [E_h15]; exact up_s
    exact ok_rVR V_h15 (by omega)
set_option maxRecDepth 4000 in
theorem vj_X9_behindBlanks_45 {nn : Nat} (hn : 1000000 ≤ nn) {qkk_5 : Int → Int → Int → ms_M → Option Int} {K_kk_5 : Int} (hk_kk_5 : ∀ {l1 : Int} {l3 : Int} {l4 : Int} {h : ms_M} (a_l1 : 0 ≤ l1) (b_l1 : l1 ≤ 3000) (a_l3 : 0 ≤ l3) (b_l3 : l3 ≤ 12000) (a_l4 : 0 ≤ l4) (b_l4 : l4 ≤ 1) (V_h : VS_ h) (_ : 12001 - l3 < K_kk_5), Ok_ (qkk_5 l1 l3 l4 h) (QP_ 0 12000)) {l1 : Int} {l3 : Int} {l4 : Int} {l5 : Int} {h : ms_M} (a_l1 : 0 ≤ l1) (b_l1 : l1 ≤ 3000) (a_l3 : 0 ≤ l3) (b_l3 : l3 ≤ 2999) (a_l4 : 0 ≤ l4) (b_l4 : l4 ≤ 1) (a_l5 : (-128) ≤ l5) (b_l5 : l5 ≤ 127) (V_h : VS_ h) (hm_kk_5 : 12001 - l3 + 0 ≤ K_kk_5) : Ok_ (qj_X9_behindBlanks_45 nn qkk_5 l1 l3 l4 l5 h) (QP_ 0 12000) := by
  unfold qj_X9_behindBlanks_45
  refine ok_if ?_ ?_
  · intro C0
    refine ok_if ?_ ?_
    · intro C1
      refine ok_add (by omega) ?_; intro v1 e_v1
      exact hk_kk_5 (by omega) (by omega) (by omega) (by omega) (by omega) (by omega) V_h (by omega)
    · intro C1
      refine ok_if ?_ ?_
      · intro C2
        refine ok_add (by omega) ?_; intro v2 e_v2
        exact hk_kk_5 (by omega) (by omega) (by omega) (by omega) (by omega) (by omega) V_h (by omega)
      · intro C2
        exact ok_rP (by omega) (by omega)
  · intro C0
    refine ok_add (by omega) ?_; intro v5 e_v5
    exact hk_kk_5 (by omega) (by omega) (by omega) (by omega) (by omega) (by omega) V_h (by omega)
set_option maxRecDepth 4000 in
theorem vw_X9_behindBlanks_5 {nn : Nat} (hn : 1000000 ≤ nn) : ∀ (k : Nat) {l1 : Int} {l3 : Int} {l4 : Int} {h : ms_M} (a_l1 : 0 ≤ l1) (b_l1 : l1 ≤ 3000) (a_l3 : 0 ≤ l3) (b_l3 : l3 ≤ 12000) (a_l4 : 0 ≤ l4) (b_l4 : l4 ≤ 1) (V_h : VS_ h)  (hm : 12001 - l3 < (k : Int)), Ok_ (qw_X9_behindBlanks_5 nn k l1 l3 l4 h) (QP_ 0 12000) := by
  intro k
  induction k with
  | zero => intros; exfalso; omega
  | succ k ih =>
    intro l1 l3 l4 h a_l1 b_l1 a_l3 b_l3 a_l4 b_l4 V_h hm
    unfold qw_X9_behindBlanks_5
    refine ok_if ?_ ?_
    · intro C0
      exact ok_rP (by omega) (by omega)
    · intro C0
      refine ok_rd (by omega) (gA_1 V_h) ?_; intro v7 e_v7 a_v7 b_v7
      refine ok_if ?_ ?_
      · intro C1
        exact vj_X9_behindBlanks_45 hn ih (by omega) (by omega) (by omega) (by omega) (by omega) (by omega) (by omega) (by omega) V_h (by omega)
      · intro C1
        refine ok_add (by omega) ?_; intro v8 e_v8
        refine ok_if ?_ ?_
        · intro C2
          exact vj_X9_behindBlanks_45 hn ih (by omega) (by omega) (by omega) (by omega) (by omega) (by omega) (by omega) (by omega) V_h (by omega)
        · intro C2
          refine ok_add (by omega) ?_; intro v9 e_v9
          refine ok_rd (by omega) (gA_1 V_h) ?_; intro v10 e_v10 a_v10 b_v10
          refine ok_if ?_ ?_
          · intro C3
            exact vj_X9_behindBlanks_45 hn ih (by omega) (by omega) (by omega) (by omega) (by omega) (by omega) (by omega) (by omega) V_h (by omega)
          · intro C3
            refine ok_add (by omega) ?_; intro v11 e_v11
            exact ih (by omega) (by omega) (by omega) (by omega) (by omega) (by omega) V_h (by omega)
set_option maxRecDepth 4000 in
theorem vf_X9_behindBlanks {nn : Nat} (hn : 1000000 ≤ nn) {a1 : Int} {a2 : Int} {h : ms_M} (a_a1 : 0 ≤ a1) (b_a1 : a1 ≤ 3000) (a_a2 : 0 ≤ a2) (b_a2 : a2 ≤ 12000) (V_h : VS_ h)  : Ok_ (qf_X9_behindBlanks nn a1 a2 h) (QP_ 0 12000) := by
  unfold qf_X9_behindBlanks
  exact vw_X9_behindBlanks_5 hn _ (by omega) (by omega) (by omega) (by omega) (by omega) (by omega) V_h (by omega)
set_option maxRecDepth 4000 in
theorem vf_X9_isDigit {nn : Nat} (hn : 1000000 ≤ nn) {a0 : Int} {h : ms_M} (a_a0 : (-128) ≤ a0) (b_a0 : a0 ≤ 127) (V_h : VS_ h)  : Ok_ (qf_X9_isDigit nn a0 h) (QP_ 0 1) := by
  unfold qf_X9_isDigit
  refine ok_if ?_ ?_
  · intro C0
    exact ok_rP (by omega) (by omega)
  · intro C0
    refine ok_if ?_ ?_
    · intro C1
      exact ok_rP (by omega) (by omega)
    · intro C1
      exact ok_rP (by omega) (by omega)
set_option maxRecDepth 4000 in
theorem vj_X9_isLetter_12 {nn : Nat} (hn : 1000000 ≤ nn) {l0 : Int} {h : ms_M} (a_l0 : (-128) ≤ l0) (b_l0 : l0 ≤ 127) (V_h : VS_ h)  : Ok_ (qj_X9_isLetter_12 nn l0 h) (QP_ 0 1) := by
  unfold qj_X9_isLetter_12
  refine ok_if ?_ ?_
  · intro C0
    exact ok_rP (by omega) (by omega)
  · intro C0
    refine ok_if ?_ ?_
    · intro C1
      exact ok_rP (by omega) (by omega)
    · intro C1
      exact ok_rP (by omega) (by omega)
set_option maxRecDepth 4000 in
theorem vf_X9_isLetter {nn : Nat} (hn : 1000000 ≤ nn) {a0 : Int} {h : ms_M} (a_a0 : (-128) ≤ a0) (b_a0 : a0 ≤ 127) (V_h : VS_ h)  : Ok_ (qf_X9_isLetter nn a0 h) (QP_ 0 1) := by
  unfold qf_X9_isLetter
  refine ok_if ?_ ?_
  · intro C0
    exact vj_X9_isLetter_12 hn (by omega) (by omega) V_h
  · intro C0
    refine ok_if ?_ ?_
    · intro C1
      exact ok_rP (by omega) (by omega)
    · intro C1
      exact vj_X9_isLetter_12 hn (by omega) (by omega) V_h
set_option maxRecDepth 4000 in
theorem vf_X9_isNamePart {nn : Nat} (hn : 1000000 ≤ nn) {a0 : Int} {h : ms_M} (a_a0 : (-128) ≤ a0) (b_a0 : a0 ≤ 127) (V_h : VS_ h)  : Ok_ (qf_X9_isNamePart nn a0 h) (QP_ 0 1) := by
  unfold qf_X9_isNamePart
  refine ok_cP (vf_X9_isLetter hn (by omega) (by omega) V_h) ?_; intro u1 e_u1 a_u1 b_u1
  refine ok_if ?_ ?_
  · intro C0
    exact ok_rP (by omega) (by omega)
  · intro C0
    refine ok_cP (vf_X9_isDigit hn (by omega) (by omega) V_h) ?_; intro u2 e_u2 a_u2 b_u2
    have T2 := pr_X9_isDigit e_u2
    refine ok_if ?_ ?_
    · intro C2
      exact ok_rP (by omega) (by omega)
    · intro C2
      refine ok_if ?_ ?_
      · intro C3
        exact ok_rP (by omega) (by omega)
      · intro C3
        exact ok_rP (by omega) (by omega)
set_option maxRecDepth 4000 in
theorem vj_X9_scanNumber_96 {nn : Nat} (hn : 1000000 ≤ nn) {l3 : Int} {l4 : Int} {l6 : Int} {l7 : Int} {s0 : Int} {h : ms_M} (a_l3 : 0 ≤ l3) (b_l3 : l3 ≤ 2999) (a_l4 : 0 ≤ l4) (b_l4 : l4 ≤ 2147483648) (a_l6 : 0 ≤ l6) (b_l6 : l6 ≤ 3000) (a_l7 : 0 ≤ l7) (b_l7 : l7 ≤ 1) (a_s0 : 0 ≤ s0) (b_s0 : s0 ≤ 1) (V_h : VS_ h) (x_0 : l3 ≤ l6)  : Ok_ (qj_X9_scanNumber_96 nn l3 l4 l6 l7 s0 h) (QIR_ 0 6000 (fun u r => (h 2 3 ≤ r 2 3 ∧ r 2 3 ≤ h 2 3 + 1))) := by
  unfold qj_X9_scanNumber_96
  have T1 := gF_2_3 V_h
  refine ok_if ?_ ?_
  · intro C1
    exact ok_rIR V_h (by omega) (by omega) (by omega)
  · intro C1
    refine ok_if ?_ ?_
    · intro C2
      exact ok_rIR V_h (by omega) (by omega) (by omega)
    · intro C2
      refine ok_cmp ?_; intro v1 e_v1
      refine ok_if ?_ ?_
      · intro C3
        refine ok_l2i ?_; intro v2 a_v2 b_v2 e_v2
        refine ok_cVR (vf_X9_addToken hn (by omega) (by omega) (by omega) (by omega) (by omega) (by omega) V_h) ?_; intro u4 E_u4 V_u4 R_u4
        have T5 := lm_X9_addToken V_h E_u4
        have T6 := gF_2_3 V_u4
        refine ok_sub (by omega) ?_; intro v5 e_v5
        exact ok_rIR V_u4 (by omega) (by omega) (by omega)
      · intro C3
        exact ok_rIR V_h (by omega) (by omega) (by omega)
set_option maxRecDepth 4000 in
theorem vj_X9_scanNumber_95 {nn : Nat} (hn : 1000000 ≤ nn) {l3 : Int} {l4 : Int} {l6 : Int} {l7 : Int} {h : ms_M} (a_l3 : 0 ≤ l3) (b_l3 : l3 ≤ 2999) (a_l4 : 0 ≤ l4) (b_l4 : l4 ≤ 2147483648) (a_l6 : 0 ≤ l6) (b_l6 : l6 ≤ 3000) (a_l7 : 0 ≤ l7) (b_l7 : l7 ≤ 1) (V_h : VS_ h) (x_0 : l3 ≤ l6)  : Ok_ (qj_X9_scanNumber_95 nn l3 l4 l6 l7 h) (QIR_ 0 6000 (fun u r => (h 2 3 ≤ r 2 3 ∧ r 2 3 ≤ h 2 3 + 1))) := by
  unfold qj_X9_scanNumber_95
  have T1 := gF_2_3 V_h
  exact ok_mI (vj_X9_scanNumber_96 hn (by omega) (by omega) (by omega) (by omega) (by omega) (by omega) (by omega) (by omega) (by omega) (by omega) V_h (by omega)) (fun _ _ V_r R_r => by have := gF_2_3 V_r; omega)
set_option maxRecDepth 4000 in
theorem vj_X9_scanNumber_73 {nn : Nat} (hn : 1000000 ≤ nn) {l2 : Int} {l3 : Int} {l4 : Int} {l6 : Int} {s0 : Int} {h : ms_M} (a_l2 : 1 ≤ l2) (b_l2 : l2 ≤ 3000) (a_l3 : 0 ≤ l3) (b_l3 : l3 ≤ 2999) (a_l4 : 0 ≤ l4) (b_l4 : l4 ≤ 2147483648) (a_l6 : 0 ≤ l6) (b_l6 : l6 ≤ 3000) (a_s0 : 0 ≤ s0) (b_s0 : s0 ≤ 1) (V_h : VS_ h) (x_0 : l3 ≤ l6)  : Ok_ (qj_X9_scanNumber_73 nn l2 l3 l4 l6 s0 h) (QIR_ 0 6000 (fun u r => (h 2 3 ≤ r 2 3 ∧ r 2 3 ≤ h 2 3 + 1))) := by
  unfold qj_X9_scanNumber_73
  have T1 := gF_2_3 V_h
  refine ok_if ?_ ?_
  · intro C1
    exact ok_mI (vj_X9_scanNumber_95 hn (by omega) (by omega) (by omega) (by omega) (by omega) (by omega) (by omega) (by omega) V_h (by omega)) (fun _ _ V_r R_r => by have := gF_2_3 V_r; omega)
  · intro C1
    refine ok_rd (by omega) (gA_1 V_h) ?_; intro v9 e_v9 a_v9 b_v9
    refine ok_cP (vf_X9_isNamePart hn (by omega) (by omega) V_h) ?_; intro u10 e_u10 a_u10 b_u10
    refine ok_if ?_ ?_
    · intro C2
      exact ok_mI (vj_X9_scanNumber_95 hn (by omega) (by omega) (by omega) (by omega) (by omega) (by omega) (by omega) (by omega) V_h (by omega)) (fun _ _ V_r R_r => by have := gF_2_3 V_r; omega)
    · intro C2
      exact ok_mI (vj_X9_scanNumber_96 hn (by omega) (by omega) (by omega) (by omega) (by omega) (by omega) (by omega) (by omega) (by omega) (by omega) V_h (by omega)) (fun _ _ V_r R_r => by have := gF_2_3 V_r; omega)
set_option maxRecDepth 4000 in
theorem vj_X9_scanNumber_72 {nn : Nat} (hn : 1000000 ≤ nn) {l2 : Int} {l3 : Int} {l4 : Int} {l6 : Int} {h : ms_M} (a_l2 : 1 ≤ l2) (b_l2 : l2 ≤ 3000) (a_l3 : 0 ≤ l3) (b_l3 : l3 ≤ 2999) (a_l4 : 0 ≤ l4) (b_l4 : l4 ≤ 2147483648) (a_l6 : 0 ≤ l6) (b_l6 : l6 ≤ 3000) (V_h : VS_ h) (x_0 : l3 ≤ l6)  : Ok_ (qj_X9_scanNumber_72 nn l2 l3 l4 l6 h) (QIR_ 0 6000 (fun u r => (h 2 3 ≤ r 2 3 ∧ r 2 3 ≤ h 2 3 + 1))) := by
  unfold qj_X9_scanNumber_72
  have T1 := gF_2_3 V_h
  exact ok_mI (vj_X9_scanNumber_73 hn (by omega) (by omega) (by omega) (by omega) (by omega) (by omega) (by omega) (by omega) (by omega) (by omega) V_h (by omega)) (fun _ _ V_r R_r => by have := gF_2_3 V_r; omega)
set_option maxRecDepth 4000 in
theorem vj_X9_scanNumber_52 {nn : Nat} (hn : 1000000 ≤ nn) {l2 : Int} {l3 : Int} {l4 : Int} {l6 : Int} {h : ms_M} (a_l2 : 1 ≤ l2) (b_l2 : l2 ≤ 3000) (a_l3 : 0 ≤ l3) (b_l3 : l3 ≤ 2999) (a_l4 : 0 ≤ l4) (b_l4 : l4 ≤ 2147483648) (a_l6 : 0 ≤ l6) (b_l6 : l6 ≤ 3000) (V_h : VS_ h) (x_0 : l3 ≤ l6)  : Ok_ (qj_X9_scanNumber_52 nn l2 l3 l4 l6 h) (QIR_ 0 6000 (fun u r => (h 2 3 ≤ r 2 3 ∧ r 2 3 ≤ h 2 3 + 1))) := by
  unfold qj_X9_scanNumber_52
  have T1 := gF_2_3 V_h
  refine ok_rd (by omega) (gA_1 V_h) ?_; intro v13 e_v13 a_v13 b_v13
  refine ok_if ?_ ?_
  · intro C1
    exact ok_mI (vj_X9_scanNumber_72 hn (by omega) (by omega) (by omega) (by omega) (by omega) (by omega) (by omega) (by omega) V_h (by omega)) (fun _ _ V_r R_r => by have := gF_2_3 V_r; omega)
  · intro C1
    refine ok_add (by omega) ?_; intro v14 e_v14
    refine ok_if ?_ ?_
    · intro C2
      exact ok_mI (vj_X9_scanNumber_72 hn (by omega) (by omega) (by omega) (by omega) (by omega) (by omega) (by omega) (by omega) V_h (by omega)) (fun _ _ V_r R_r => by have := gF_2_3 V_r; omega)
    · intro C2
      exact ok_mI (vj_X9_scanNumber_73 hn (by omega) (by omega) (by omega) (by omega) (by omega) (by omega) (by omega) (by omega) (by omega) (by omega) V_h (by omega)) (fun _ _ V_r R_r => by have := gF_2_3 V_r; omega)
set_option maxRecDepth 4000 in
theorem vw_X9_scanNumber_6 {nn : Nat} (hn : 1000000 ≤ nn) : ∀ (k : Nat) {l2 : Int} {l3 : Int} {l4 : Int} {l6 : Int} {h : ms_M} (a_l2 : 1 ≤ l2) (b_l2 : l2 ≤ 3000) (a_l3 : 0 ≤ l3) (b_l3 : l3 ≤ 2999) (a_l4 : 0 ≤ l4) (b_l4 : l4 ≤ 2147483648) (a_l6 : 0 ≤ l6) (b_l6 : l6 ≤ 3000) (V_h : VS_ h) (x_0 : l3 ≤ l6)  (hm : 3001 - l6 < (k : Int)), Ok_ (qw_X9_scanNumber_6 nn k l2 l3 l4 l6 h) (QIR_ 0 6000 (fun u r => (h 2 3 ≤ r 2 3 ∧ r 2 3 ≤ h 2 3 + 1))) := by
  intro k
  induction k with
  | zero => intros; exfalso; omega
  | succ k ih =>
    intro l2 l3 l4 l6 h a_l2 b_l2 a_l3 b_l3 a_l4 b_l4 a_l6 b_l6 V_h x_0 hm
    unfold qw_X9_scanNumber_6
    have T1 := gF_2_3 V_h
    refine ok_if ?_ ?_
    · intro C1
      exact ok_mI (vj_X9_scanNumber_52 hn (by omega) (by omega) (by omega) (by omega) (by omega) (by omega) (by omega) (by omega) V_h (by omega)) (fun _ _ V_r R_r => by have := gF_2_3 V_r; omega)
    · intro C1
      refine ok_rd (by omega) (gA_1 V_h) ?_; intro v17 e_v17 a_v17 b_v17
      refine ok_cP (vf_X9_isDigit hn (by omega) (by omega) V_h) ?_; intro u18 e_u18 a_u18 b_u18
      have T3 := pr_X9_isDigit e_u18
      refine ok_if ?_ ?_
      · intro C3
        exact ok_mI (vj_X9_scanNumber_52 hn (by omega) (by omega) (by omega) (by omega) (by omega) (by omega) (by omega) (by omega) V_h (by omega)) (fun _ _ V_r R_r => by have := gF_2_3 V_r; omega)
      · intro C3
        refine ok_c6 (by omega) ?_; intro v19 e_v19
        refine ok_rd (by omega) (gA_1 V_h) ?_; intro v20 e_v20 a_v20 b_v20
        refine ok_xl ?_; intro v21 e_v21
        refine ok_c6 (by omega) ?_; intro v22 e_v22
        refine ok_c6 (by omega) ?_; intro v23 e_v23
        refine ok_ite ?_; intro v24 e_v24
        refine ok_add (by omega) ?_; intro v25 e_v25
        exact ok_mI (ih (by omega) (by omega) (by omega) (by omega) (by omega) (by omega) (by omega) (by omega) V_h (by omega) (by omega)) (fun _ _ V_r R_r => by have := gF_2_3 V_r; omega)
set_option maxRecDepth 4000 in
theorem vf_X9_scanNumber {nn : Nat} (hn : 1000000 ≤ nn) {a2 : Int} {a3 : Int} {h : ms_M} (a_a2 : 1 ≤ a2) (b_a2 : a2 ≤ 3000) (a_a3 : 0 ≤ a3) (b_a3 : a3 ≤ 2999) (V_h : VS_ h)  : Ok_ (qf_X9_scanNumber nn a2 a3 h) (QIR_ 0 6000 (fun u r => (h 2 3 ≤ r 2 3 ∧ r 2 3 ≤ h 2 3 + 1))) := by
  unfold qf_X9_scanNumber
  have T1 := gF_2_3 V_h
  exact ok_mI (vw_X9_scanNumber_6 hn _ (by omega) (by omega) (by omega) (by omega) (by omega) (by omega) (by omega) (by omega) V_h (by omega) (by omega)) (fun _ _ V_r R_r => by have := gF_2_3 V_r; omega)
set_option maxRecDepth 4000 in
theorem vj_X9_scanWord_89 {nn : Nat} (hn : 1000000 ≤ nn) {l3 : Int} {l5 : Int} {l6 : Int} {s0 : Int} {h : ms_M} (a_l3 : 0 ≤ l3) (b_l3 : l3 ≤ 2999) (a_l5 : 0 ≤ l5) (b_l5 : l5 ≤ 6000) (a_l6 : 0 ≤ l6) (b_l6 : l6 ≤ 1739) (a_s0 : 1 ≤ s0) (b_s0 : s0 ≤ 1740) (V_h : VS_ h) (N_h : NM_ h)  : Ok_ (qj_X9_scanWord_89 nn l3 l5 l6 s0 h) (QIR_ 0 6000 (fun u r => (NM_ r) ∧ (h 2 3 ≤ r 2 3 ∧ r 2 3 ≤ h 2 3 + 1))) := by
  unfold qj_X9_scanWord_89
  have T1 := gF_2_3 V_h
  refine ok_cVR (vf_X9_addToken hn (by omega) (by omega) (by omega) (by omega) (by omega) (by omega) V_h) ?_; intro u2 E_u2 V_u2 R_u2
  have T2 := lm_X9_addToken V_h E_u2
  have N_u2 : NM_ u2 := nm_eq N_h (fun k => (ff_X9_addToken nn) _ E_u2 7 k (nw_ar rfl k)) ((ff_X9_addToken nn) _ E_u2 2 9 rfl)
  have T3 := gF_2_3 V_u2
  exact ok_rIR V_u2 (by omega) (by omega) ⟨N_u2, by omega⟩
set_option maxRecDepth 4000 in
theorem vj_X9_scanWord_69 {nn : Nat} (hn : 1000000 ≤ nn) {l3 : Int} {l5 : Int} {l6 : Int} {s0 : Int} {h : ms_M} (a_l3 : 0 ≤ l3) (b_l3 : l3 ≤ 2999) (a_l5 : 0 ≤ l5) (b_l5 : l5 ≤ 6000) (a_l6 : 0 ≤ l6) (b_l6 : l6 ≤ 1739) (a_s0 : 0 ≤ s0) (b_s0 : s0 ≤ 1) (V_h : VS_ h) (N_h : NM_ h)  : Ok_ (qj_X9_scanWord_69 nn l3 l5 l6 s0 h) (QIR_ 0 6000 (fun u r => (NM_ r) ∧ (h 2 3 ≤ r 2 3 ∧ r 2 3 ≤ h 2 3 + 1))) := by
  unfold qj_X9_scanWord_69
  have T1 := gF_2_3 V_h
  refine ok_if ?_ ?_
  · intro C1
    exact ok_mI (vj_X9_scanWord_89 hn (by omega) (by omega) (by omega) (by omega) (by omega) (by omega) (by omega) (by omega) V_h N_h) (fun _ _ V_r R_r => ⟨R_r.1, by have := R_r.2; have := gF_2_3 V_r; omega⟩)
  · intro C1
    refine ok_add (by omega) ?_; intro v3 e_v3
    refine ok_sub (by omega) ?_; intro v4 e_v4
    exact ok_mI (vj_X9_scanWord_89 hn (by omega) (by omega) (by omega) (by omega) (by omega) (by omega) (by omega) (by omega) V_h N_h) (fun _ _ V_r R_r => ⟨R_r.1, by have := R_r.2; have := gF_2_3 V_r; omega⟩)
set_option maxRecDepth 4000 in
theorem vj_X9_scanWord_68 {nn : Nat} (hn : 1000000 ≤ nn) {l3 : Int} {l5 : Int} {l6 : Int} {h : ms_M} (a_l3 : 0 ≤ l3) (b_l3 : l3 ≤ 2999) (a_l5 : 0 ≤ l5) (b_l5 : l5 ≤ 6000) (a_l6 : 0 ≤ l6) (b_l6 : l6 ≤ 1739) (V_h : VS_ h) (N_h : NM_ h)  : Ok_ (qj_X9_scanWord_68 nn l3 l5 l6 h) (QIR_ 0 6000 (fun u r => (NM_ r) ∧ (h 2 3 ≤ r 2 3 ∧ r 2 3 ≤ h 2 3 + 1))) := by
  unfold qj_X9_scanWord_68
  have T1 := gF_2_3 V_h
  exact ok_mI (vj_X9_scanWord_69 hn (by omega) (by omega) (by omega) (by omega) (by omega) (by omega) (by omega) (by omega) V_h N_h) (fun _ _ V_r R_r => ⟨R_r.1, by have := R_r.2; have := gF_2_3 V_r; omega⟩)
set_option maxRecDepth 4000 in
theorem vj_X9_scanWord_25 {nn : Nat} (hn : 1000000 ≤ nn) {l3 : Int} {l4 : Int} {h : ms_M} (a_l3 : 0 ≤ l3) (b_l3 : l3 ≤ 2999) (a_l4 : 0 ≤ l4) (b_l4 : l4 ≤ 3000) (V_h : VS_ h) (x_0 : l3 ≤ l4) (N_h : NM_ h)  : Ok_ (qj_X9_scanWord_25 nn l3 l4 h) (QIR_ 0 6000 (fun u r => (NM_ r) ∧ (h 2 3 ≤ r 2 3 ∧ r 2 3 ≤ h 2 3 + 1))) := by
  unfold qj_X9_scanWord_25
  have T1 := gF_2_3 V_h
  refine ok_sub (by omega) ?_; intro v6 e_v6
  refine ok_if ?_ ?_
  · intro C1
    have T3 := vi_ln (M := h) (show 1 < 256 by decide); have T4 : (ly_N 1 : Int) = 6000 := rfl
    refine ok_cI (vf_X9_nameOf hn (by omega) (by omega) (by omega) (by omega) V_h ⟨Nat.lt_of_lt_of_le (by decide) (vi_c V_h), rfl⟩) ?_; intro u8 E_u8 V_u8 a_u8 b_u8
    have N_u8_2 : NM_ u8.2 := nm_nameOf N_h V_h (by omega) E_u8
    have T5 : u8.2 2 3 = h 2 3 := (ff_X9_nameOf nn) _ E_u8 2 3 rfl
    refine ok_if ?_ ?_
    · intro C5
      exact ok_mI (vj_X9_scanWord_68 hn (by omega) (by omega) (by omega) (by omega) (by omega) (by omega) V_u8 N_u8_2) (fun _ _ V_r R_r => ⟨R_r.1, by have := R_r.2; have := gF_2_3 V_r; omega⟩)
    · intro C5
      refine ok_if ?_ ?_
      · intro C6
        exact ok_mI (vj_X9_scanWord_68 hn (by omega) (by omega) (by omega) (by omega) (by omega) (by omega) V_u8 N_u8_2) (fun _ _ V_r R_r => ⟨R_r.1, by have := R_r.2; have := gF_2_3 V_r; omega⟩)
      · intro C6
        exact ok_mI (vj_X9_scanWord_69 hn (by omega) (by omega) (by omega) (by omega) (by omega) (by omega) (by omega) (by omega) V_u8 N_u8_2) (fun _ _ V_r R_r => ⟨R_r.1, by have := R_r.2; have := gF_2_3 V_r; omega⟩)
  · intro C1
    exact ok_rIR V_h (by omega) (by omega) ⟨N_h, by omega⟩
set_option maxRecDepth 4000 in
theorem vw_X9_scanWord_3 {nn : Nat} (hn : 1000000 ≤ nn) : ∀ (k : Nat) {l2 : Int} {l3 : Int} {l4 : Int} {h : ms_M} (a_l2 : 1 ≤ l2) (b_l2 : l2 ≤ 3000) (a_l3 : 0 ≤ l3) (b_l3 : l3 ≤ 2999) (a_l4 : 0 ≤ l4) (b_l4 : l4 ≤ 3000) (V_h : VS_ h) (x_0 : l3 ≤ l4) (N_h : NM_ h)  (hm : 3001 - l4 < (k : Int)), Ok_ (qw_X9_scanWord_3 nn k l2 l3 l4 h) (QIR_ 0 6000 (fun u r => (NM_ r) ∧ (h 2 3 ≤ r 2 3 ∧ r 2 3 ≤ h 2 3 + 1))) := by
  intro k
  induction k with
  | zero => intros; exfalso; omega
  | succ k ih =>
    intro l2 l3 l4 h a_l2 b_l2 a_l3 b_l3 a_l4 b_l4 V_h x_0 N_h hm
    unfold qw_X9_scanWord_3
    have T1 := gF_2_3 V_h
    refine ok_if ?_ ?_
    · intro C1
      exact ok_mI (vj_X9_scanWord_25 hn (by omega) (by omega) (by omega) (by omega) V_h (by omega) N_h) (fun _ _ V_r R_r => ⟨R_r.1, by have := R_r.2; have := gF_2_3 V_r; omega⟩)
    · intro C1
      refine ok_rd (by omega) (gA_1 V_h) ?_; intro v12 e_v12 a_v12 b_v12
      refine ok_cP (vf_X9_isNamePart hn (by omega) (by omega) V_h) ?_; intro u13 e_u13 a_u13 b_u13
      refine ok_if ?_ ?_
      · intro C2
        exact ok_mI (vj_X9_scanWord_25 hn (by omega) (by omega) (by omega) (by omega) V_h (by omega) N_h) (fun _ _ V_r R_r => ⟨R_r.1, by have := R_r.2; have := gF_2_3 V_r; omega⟩)
      · intro C2
        refine ok_add (by omega) ?_; intro v14 e_v14
        exact ok_mI (ih (by omega) (by omega) (by omega) (by omega) (by omega) (by omega) V_h (by omega) N_h (by omega)) (fun _ _ V_r R_r => ⟨R_r.1, by have := R_r.2; have := gF_2_3 V_r; omega⟩)
set_option maxRecDepth 4000 in
theorem vf_X9_scanWord {nn : Nat} (hn : 1000000 ≤ nn) {a2 : Int} {a3 : Int} {h : ms_M} (a_a2 : 1 ≤ a2) (b_a2 : a2 ≤ 3000) (a_a3 : 0 ≤ a3) (b_a3 : a3 ≤ 2999) (V_h : VS_ h) (N_h : NM_ h)  : Ok_ (qf_X9_scanWord nn a2 a3 h) (QIR_ 0 6000 (fun u r => (NM_ r) ∧ (h 2 3 ≤ r 2 3 ∧ r 2 3 ≤ h 2 3 + 1))) := by
  unfold qf_X9_scanWord
  have T1 := gF_2_3 V_h
  exact ok_mI (vw_X9_scanWord_3 hn _ (by omega) (by omega) (by omega) (by omega) (by omega) (by omega) V_h (by omega) N_h (by omega)) (fun _ _ V_r R_r => ⟨R_r.1, by have := R_r.2; have := gF_2_3 V_r; omega⟩)
