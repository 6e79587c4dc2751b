set_option maxRecDepth 4000 in
theorem vf_X13_isTyped {nn : Nat} (hn : 1000000 ≤ nn) {h : ms_M} (V_h : VS_ h) (x_0 : h 160 23 + 1 ≤ h 160 8) (N_h : EK_ h)  : Ok_ (qf_X13_isTyped nn h) (QP_ 0 1) := by
  unfold qf_X13_isTyped
  have T1 := gF_160_23 V_h
  have T2 := gF_160_8 V_h
  refine ok_cP (vf_X13_isWord hn (by omega) (by omega) (by omega) (by omega) V_h) ?_; intro u3 e_u3 a_u3 b_u3
  have T3 := lm_ek_isWord N_h (by omega) e_u3
  refine ok_if ?_ ?_
  · intro C3
    exact ok_rP (by omega) (by omega)
  · intro C3
    refine ok_cP (vf_X13_isWord hn (by omega) (by omega) (by omega) (by omega) V_h) ?_; intro u6 e_u6 a_u6 b_u6
    have T5 := lm_ek_isWord N_h (by omega) e_u6
    refine ok_if ?_ ?_
    · intro C5
      refine ok_rd (by omega) (gA_163 V_h) ?_; intro v9 e_v9 a_v9 b_v9
      have T7 := ek_rd N_h (by omega) e_v9
      refine ok_if ?_ ?_
      · intro C7
        refine ok_add (by omega) ?_; intro v12 e_v12
        refine ok_rd (by omega) (gA_163 V_h) ?_; intro v13 e_v13 a_v13 b_v13
        have T9 := ek_rd N_h (by omega) e_v13
        refine ok_if ?_ ?_
        · intro C9
          exact ok_rP (by omega) (by omega)
        · intro C9
          refine ok_add (by omega) ?_; intro v15 e_v15
          refine ok_cP (vf_X13_isSign hn (by omega) (by omega) (by omega) (by omega) V_h) ?_; intro u17 e_u17 a_u17 b_u17
          have T11 := lm_ek_isSign N_h (by omega) e_u17
          refine ok_if ?_ ?_
          · intro C11
            exact ok_rP (by omega) (by omega)
          · intro C11
            refine ok_add (by omega) ?_; intro v19 e_v19
            refine ok_cP (vf_X13_isSign hn (by omega) (by omega) (by omega) (by omega) V_h) ?_; intro u21 e_u21 a_u21 b_u21
            have T13 := lm_ek_isSign N_h (by omega) e_u21
            refine ok_if ?_ ?_
            · intro C13
              exact ok_rP (by omega) (by omega)
            · intro C13
              exact ok_rP (by omega) (by omega)
      · intro C7
        exact ok_rP (by omega) (by omega)
    · intro C5
      exact ok_rP (by omega) (by omega)
set_option maxRecDepth 4000 in
theorem vj_X13_plain_89 {nn : Nat} (hn : 1000000 ≤ nn) {l2 : Int} {h : ms_M} (a_l2 : 0 ≤ l2) (b_l2 : l2 ≤ 8999) (V_h : VS_ h) (x_0 : h 160 23 + 1 ≤ h 160 8) (x_1 : h 160 22 ≤ 2 * h 160 23 + 100) (x_2 : l2 < h 160 22) (N_h : EK_ h)  : Ok_ (qj_X13_plain_89 nn l2 h) (QIR_ (-1) 8999 (fun u r => (r 160 8 = h 160 8) ∧ (h 160 9 = 0 ∨ ¬ r 160 9 = 0) ∧ (h 160 23 ≤ r 160 23) ∧ (r 160 23 + 1 ≤ h 160 8) ∧ (h 160 22 ≤ r 160 22) ∧ (r 160 22 + 2 * h 160 23 ≤ h 160 22 + 2 * r 160 23 + 0) ∧ (¬ r 160 9 = 0 ∨ (0 ≤ u ∧ u < r 160 22 ∧ h 160 23 + 1 ≤ r 160 23)))) := by
  unfold qj_X13_plain_89
  have T1 := gF_160_8 V_h
  have T2 := gF_160_9 V_h
  have T3 := gF_160_22 V_h
  have T4 := gF_160_23 V_h
  refine ok_cVR (vf_X13_sign_ hn (by omega) (by omega) V_h (by omega) N_h) ?_; intro u2 E_u2 V_u2 R_u2
  have N_u2 : EK_ u2 := ek_fr V_h N_h (fun c k z => (ff_X13_sign_ nn) _ E_u2 c k z) rfl
  have T5 : u2 160 8 = h 160 8 := (ff_X13_sign_ nn) _ E_u2 160 8 rfl
  have T6 : u2 160 22 = h 160 22 := (ff_X13_sign_ nn) _ E_u2 160 22 rfl
  have T7 := gF_160_9 V_u2
  have T8 := gF_160_23 V_u2
  exact ok_rIR V_u2 (by omega) (by omega) (by omega)
set_option maxRecDepth 4000 in
theorem vf_X13_plain {nn : Nat} (hn : 1000000 ≤ nn) {a1 : Int} {h : ms_M} (a_a1 : 0 ≤ a1) (b_a1 : a1 ≤ 39) (V_h : VS_ h) (x_0 : h 160 23 + 1 ≤ h 160 8) (x_1 : h 160 22 ≤ 2 * h 160 23 + 40) (N_h : EK_ h)  : Ok_ (qf_X13_plain nn a1 h) (QIR_ (-1) 8999 (fun u r => (r 160 8 = h 160 8) ∧ (h 160 9 = 0 ∨ ¬ r 160 9 = 0) ∧ (h 160 23 ≤ r 160 23) ∧ (r 160 23 + 1 ≤ h 160 8) ∧ (h 160 22 ≤ r 160 22) ∧ (r 160 22 + 2 * h 160 23 ≤ h 160 22 + 2 * r 160 23 + 1) ∧ (¬ r 160 9 = 0 ∨ (0 ≤ u ∧ u < r 160 22 ∧ h 160 23 + 1 ≤ r 160 23 ∧ r 160 22 + 2 * h 160 23 ≤ h 160 22 + 2 * r 160 23 + 0)))) := by
  unfold qf_X13_plain
  have T1 := gF_160_8 V_h
  have T2 := gF_160_9 V_h
  have T3 := gF_160_22 V_h
  have T4 := gF_160_23 V_h
  refine ok_cIR (vf_X13_add hn (by omega) (by omega) (by omega) (by omega) (by omega) (by omega) V_h (by omega)) ?_; intro u6 E_u6 V_u6 a_u6 b_u6 R_u6
  have N_u6_2 : EK_ u6.2 := ek_fr V_h N_h (fun c k z => (ff_X13_add nn) _ E_u6 c k z) rfl
  have T5 : u6.2 160 8 = h 160 8 := (ff_X13_add nn) _ E_u6 160 8 rfl
  have T6 : u6.2 160 9 = h 160 9 := (ff_X13_add nn) _ E_u6 160 9 rfl
  have T7 : u6.2 160 23 = h 160 23 := (ff_X13_add nn) _ E_u6 160 23 rfl
  have T8 := gF_160_22 V_u6
  refine ok_add (by omega) ?_; intro v8 e_v8
  refine ok_cIR (vf_X13_expression hn (by omega) (by omega) V_u6 (by omega) (by omega) (by omega) N_u6_2) ?_; intro u10 E_u10 V_u10 a_u10 b_u10 R_u10
  have N_u10_2 : EK_ u10.2 := R_u10.1
  have T9 : u10.2 160 8 = u6.2 160 8 := (ff_X13_expression nn) _ E_u10 160 8 rfl
  have T10 := gF_160_9 V_u10
  have T11 := gF_160_22 V_u10
  have T12 := gF_160_23 V_u10
  refine ok_wA (by omega) ?_; intro h11 E_h11; have V_h11 : VS_ h11 := by rw [E_h11]; exact wA_170 V_u10 (by omega)
  have N_h11 : EK_ h11 := by rw [E_h11]; exact ek_ua V_u10 N_u10_2 rfl
  have T13 : h11 160 8 = u10.2 160 8 := by rw [E_h11]; exact up_n (fun z => absurd z.1 (by decide))
  have T14 : h11 160 9 = u10.2 160 9 := by rw [E_h11]; exact up_n (fun z => absurd z.1 (by decide))
  have T15 : h11 160 22 = u10.2 160 22 := by rw [E_h11]; exact up_n (fun z => absurd z.1 (by decide))
  have T16 : h11 160 23 = u10.2 160 23 := by rw [E_h11]; exact up_n (fun z => absurd z.1 (by decide))
  refine ok_if ?_ ?_
  · intro C16
    exact ok_mI (vj_X13_plain_89 hn (by omega) (by omega) V_h11 (by omega) (by omega) (by omega) N_h11) (fun _ _ V_r R_r => by have := gF_160_8 V_r; have := gF_160_9 V_r; have := gF_160_22 V_r; have := gF_160_23 V_r; omega)
  · intro C16
    refine ok_cP (vf_X13_isSign hn (by omega) (by omega) (by omega) (by omega) V_h11) ?_; intro u15 e_u15 a_u15 b_u15
    have T18 := lm_ek_isSign N_h11 (by omega) e_u15
    refine ok_if ?_ ?_
    · intro C18
      exact ok_mI (vj_X13_plain_89 hn (by omega) (by omega) V_h11 (by omega) (by omega) (by omega) N_h11) (fun _ _ V_r R_r => by have := gF_160_8 V_r; have := gF_160_9 V_r; have := gF_160_22 V_r; have := gF_160_23 V_r; omega)
    · intro C18
      refine ok_wA (by omega) ?_; intro h17 E_h17; have V_h17 : VS_ h17 := by rw [E_h17]; exact wA_167 V_h11 (by omega)
      have N_h17 : EK_ h17 := by rw [E_h17]; exact ek_ua V_h11 N_h11 rfl
      have T20 : h17 160 8 = h11 160 8 := by rw [E_h17]; exact up_n (fun z => absurd z.1 (by decide))
      have T21 : h17 160 9 = h11 160 9 := by rw [E_h17]; exact up_n (fun z => absurd z.1 (by decide))
      have T22 : h17 160 22 = h11 160 22 := by rw [E_h17]; exact up_n (fun z => absurd z.1 (by decide))
      have T23 : h17 160 23 = h11 160 23 := by rw [E_h17]; exact up_n (fun z => absurd z.1 (by decide))
      refine ok_wA (by omega) ?_; intro h20 E_h20; have V_h20 : VS_ h20 := by rw [E_h20]; exact wA_168 V_h17 (by omega)
      have N_h20 : EK_ h20 := by rw [E_h20]; exact ek_ua V_h17 N_h17 rfl
      have T24 : h20 160 8 = h17 160 8 := by rw [E_h20]; exact up_n (fun z => absurd z.1 (by decide))
      have T25 : h20 160 9 = h17 160 9 := by rw [E_h20]; exact up_n (fun z => absurd z.1 (by decide))
      have T26 : h20 160 22 = h17 160 22 := by rw [E_h20]; exact up_n (fun z => absurd z.1 (by decide))
      have T27 : h20 160 23 = h17 160 23 := by rw [E_h20]; exact up_n (fun z => absurd z.1 (by decide))
      refine ok_add (by omega) ?_; intro v22 e_v22
      refine ok_xl ?_; intro h23 E_h23; have V_h23 : VS_ h23 := by rw [E_h23]; exact wF_160_23 V_h20 (by omega)
      have N_h23 : EK_ h23 := by rw [E_h23]; exact ek_up V_h20 N_h20 rfl
      have T28 : h23 160 8 = h20 160 8 := by rw [E_h23]; exact up_n (by decide)
      have T29 : h23 160 9 = h20 160 9 := by rw [E_h23]; exact up_n (by decide)
      have T30 : h23 160 22 = h20 160 22 := by rw [E_h23]; exact up_n (by decide)
      have T31 : h23 160 23 = v22 := by rw [E_h23]; exact up_s
      refine ok_add (by omega) ?_; intro v25 e_v25
      refine ok_cIR (vf_X13_expression hn (by omega) (by omega) V_h23 (by omega) (by omega) (by omega) N_h23) ?_; intro u27 E_u27 V_u27 a_u27 b_u27 R_u27
      have N_u27_2 : EK_ u27.2 := R_u27.1
      have T32 : u27.2 160 8 = h23 160 8 := (ff_X13_expression nn) _ E_u27 160 8 rfl
      have T33 := gF_160_9 V_u27
      have T34 := gF_160_22 V_u27
      have T35 := gF_160_23 V_u27
      refine ok_wA (by omega) ?_; intro h28 E_h28; have V_h28 : VS_ h28 := by rw [E_h28]; exact wA_171 V_u27 (by omega)
      have N_h28 : EK_ h28 := by rw [E_h28]; exact ek_ua V_u27 N_u27_2 rfl
      have T36 : h28 160 8 = u27.2 160 8 := by rw [E_h28]; exact up_n (fun z => absurd z.1 (by decide))
      have T37 : h28 160 9 = u27.2 160 9 := by rw [E_h28]; exact up_n (fun z => absurd z.1 (by decide))
      have T38 : h28 160 22 = u27.2 160 22 := by rw [E_h28]; exact up_n (fun z => absurd z.1 (by decide))
      have T39 : h28 160 23 = u27.2 160 23 := by rw [E_h28]; exact up_n (fun z => absurd z.1 (by decide))
      exact ok_mI (vj_X13_plain_89 hn (by omega) (by omega) V_h28 (by omega) (by omega) (by omega) N_h28) (fun _ _ V_r R_r => by have := gF_160_8 V_r; have := gF_160_9 V_r; have := gF_160_22 V_r; have := gF_160_23 V_r; omega)
set_option maxRecDepth 4000 in
theorem vj_X13_type_96 {nn : Nat} (hn : 1000000 ≤ nn) {h : ms_M} (V_h : VS_ h) (x_0 : h 160 23 + 1 ≤ h 160 8) (N_h : EK_ h)  : Ok_ (qj_X13_type_96 nn h) (QVR_ (fun r => (h 160 9 = 0 ∨ ¬ r 160 9 = 0) ∧ (h 160 23 ≤ r 160 23) ∧ (r 160 23 + 1 ≤ h 160 8))) := by
  unfold qj_X13_type_96
  have T1 := gF_160_8 V_h
  have T2 := gF_160_9 V_h
  have T3 := gF_160_23 V_h
  refine ok_if ?_ ?_
  · intro C3
    exact ok_rVR V_h (by omega)
  · intro C3
    refine ok_cP (vf_X13_isSign hn (by omega) (by omega) (by omega) (by omega) V_h) ?_; intro u4 e_u4 a_u4 b_u4
    have T5 := lm_ek_isSign N_h (by omega) e_u4
    refine ok_if ?_ ?_
    · intro C5
      refine ok_add (by omega) ?_; intro v6 e_v6
      refine ok_xl ?_; intro h7 E_h7; have V_h7 : VS_ h7 := by rw [E_h7]; exact wF_160_23 V_h (by omega)
      have N_h7 : EK_ h7 := by rw [E_h7]; exact ek_up V_h N_h rfl
      have T7 : h7 160 8 = h 160 8 := by rw [E_h7]; exact up_n (by decide)
      have T8 : h7 160 9 = h 160 9 := by rw [E_h7]; exact up_n (by decide)
      have T9 : h7 160 23 = v6 := by rw [E_h7]; exact up_s
      refine ok_cVR (vf_X13_sign_ hn (by omega) (by omega) V_h7 (by omega) N_h7) ?_; intro u9 E_u9 V_u9 R_u9
      have N_u9 : EK_ u9 := ek_fr V_h7 N_h7 (fun c k z => (ff_X13_sign_ nn) _ E_u9 c k z) rfl
      have T10 : u9 160 8 = h7 160 8 := (ff_X13_sign_ nn) _ E_u9 160 8 rfl
      have T11 := gF_160_9 V_u9
      have T12 := gF_160_23 V_u9
      refine ok_xl ?_; intro h10 E_h10; have V_h10 : VS_ h10 := by rw [E_h10]; exact wF_160_47 V_u9 (by omega)
      have N_h10 : EK_ h10 := by rw [E_h10]; exact ek_up V_u9 N_u9 rfl
      have T13 : h10 160 8 = u9 160 8 := by rw [E_h10]; exact up_n (by decide)
      have T14 : h10 160 9 = u9 160 9 := by rw [E_h10]; exact up_n (by decide)
      have T15 : h10 160 23 = u9 160 23 := by rw [E_h10]; exact up_n (by decide)
      exact ok_rVR V_h10 (by omega)
    · intro C5
      exact ok_rVR V_h (by omega)
set_option maxRecDepth 4000 in
theorem vj_X13_type_68 {nn : Nat} (hn : 1000000 ≤ nn) {s0 : Int} {h : ms_M} (a_s0 : 0 ≤ s0) (b_s0 : s0 ≤ 3) (V_h : VS_ h) (x_0 : h 160 23 + 1 ≤ h 160 8) (x_1 : ¬ s0 = 0 ∨ h 160 23 + 2 ≤ h 160 8) (x_2 : h 160 9 = 0) (N_h : EK_ h)  : Ok_ (qj_X13_type_68 nn s0 h) (QVR_ (fun r => (h 160 9 = 0 ∨ ¬ r 160 9 = 0) ∧ (h 160 23 ≤ r 160 23) ∧ (r 160 23 + 1 ≤ h 160 8) ∧ (¬ r 160 9 = 0 ∨ h 160 23 + 1 ≤ r 160 23))) := by
  unfold qj_X13_type_68
  have T1 := gF_160_8 V_h
  have T2 := gF_160_9 V_h
  have T3 := gF_160_23 V_h
  refine ok_xl ?_; intro h13 E_h13; have V_h13 : VS_ h13 := by rw [E_h13]; exact wF_160_45 V_h (by omega)
  have N_h13 : EK_ h13 := by rw [E_h13]; exact ek_up V_h N_h rfl
  have T4 : h13 160 8 = h 160 8 := by rw [E_h13]; exact up_n (by decide)
  have T5 : h13 160 9 = h 160 9 := by rw [E_h13]; exact up_n (by decide)
  have T6 : h13 160 23 = h 160 23 := by rw [E_h13]; exact up_n (by decide)
  have T7 : h13 160 45 = s0 := by rw [E_h13]; exact up_s
  refine ok_if ?_ ?_
  · intro C7
    refine ok_cIR (vf_X13_name hn V_h13 (by omega) N_h13) ?_; intro u16 E_u16 V_u16 a_u16 b_u16 R_u16
    have N_u16_2 : EK_ u16.2 := ek_fr V_h13 N_h13 (fun c k z => (ff_X13_name nn) _ E_u16 c k z) rfl
    have T9 : u16.2 160 8 = h13 160 8 := (ff_X13_name nn) _ E_u16 160 8 rfl
    have T10 := gF_160_9 V_u16
    have T11 := gF_160_23 V_u16
    exact ok_mV (vj_X13_type_96 hn V_u16 (by omega) N_u16_2) (fun _ V_r R_r => by have := gF_160_8 V_r; have := gF_160_9 V_r; have := gF_160_23 V_r; omega)
  · intro C7
    refine ok_add (by omega) ?_; intro v18 e_v18
    refine ok_xl ?_; intro h19 E_h19; have V_h19 : VS_ h19 := by rw [E_h19]; exact wF_160_23 V_h13 (by omega)
    have N_h19 : EK_ h19 := by rw [E_h19]; exact ek_up V_h13 N_h13 rfl
    have T12 : h19 160 8 = h13 160 8 := by rw [E_h19]; exact up_n (by decide)
    have T13 : h19 160 9 = h13 160 9 := by rw [E_h19]; exact up_n (by decide)
    have T14 : h19 160 23 = v18 := by rw [E_h19]; exact up_s
    exact ok_mV (vj_X13_type_96 hn V_h19 (by omega) N_h19) (fun _ V_r R_r => by have := gF_160_8 V_r; have := gF_160_9 V_r; have := gF_160_23 V_r; omega)
set_option maxRecDepth 4000 in
theorem vf_X13_type {nn : Nat} (hn : 1000000 ≤ nn) {h : ms_M} (V_h : VS_ h) (x_0 : h 160 23 + 1 ≤ h 160 8) (N_h : EK_ h)  : Ok_ (qf_X13_type nn h) (QVR_ (fun r => (h 160 9 = 0 ∨ ¬ r 160 9 = 0) ∧ (h 160 23 ≤ r 160 23) ∧ (r 160 23 + 1 ≤ h 160 8) ∧ (¬ r 160 9 = 0 ∨ h 160 23 + 1 ≤ r 160 23))) := by
  unfold qf_X13_type
  have T1 := gF_160_8 V_h
  have T2 := gF_160_9 V_h
  have T3 := gF_160_23 V_h
  refine ok_if ?_ ?_
  · intro C3
    refine ok_xl ?_; intro h23 E_h23; have V_h23 : VS_ h23 := by rw [E_h23]; exact wF_160_46 V_h (by omega)
    have N_h23 : EK_ h23 := by rw [E_h23]; exact ek_up V_h N_h rfl
    have T5 : h23 160 8 = h 160 8 := by rw [E_h23]; exact up_n (by decide)
    have T6 : h23 160 9 = h 160 9 := by rw [E_h23]; exact up_n (by decide)
    have T7 : h23 160 23 = h 160 23 := by rw [E_h23]; exact up_n (by decide)
    refine ok_xl ?_; intro h24 E_h24; have V_h24 : VS_ h24 := by rw [E_h24]; exact wF_160_47 V_h23 (by omega)
    have N_h24 : EK_ h24 := by rw [E_h24]; exact ek_up V_h23 N_h23 rfl
    have T8 : h24 160 8 = h23 160 8 := by rw [E_h24]; exact up_n (by decide)
    have T9 : h24 160 9 = h23 160 9 := by rw [E_h24]; exact up_n (by decide)
    have T10 : h24 160 23 = h23 160 23 := by rw [E_h24]; exact up_n (by decide)
    refine ok_cP (vf_X13_isWord hn (by omega) (by omega) (by omega) (by omega) V_h24) ?_; intro u27 e_u27 a_u27 b_u27
    have T11 := lm_ek_isWord N_h24 (by omega) e_u27
    refine ok_if ?_ ?_
    · intro C11
      refine ok_cP (vf_X13_isWord hn (by omega) (by omega) (by omega) (by omega) V_h24) ?_; intro u30 e_u30 a_u30 b_u30
      have T13 := lm_ek_isWord N_h24 (by omega) e_u30
      refine ok_if ?_ ?_
      · intro C13
        exact ok_mV (vj_X13_type_68 hn (by omega) (by omega) V_h24 (by omega) (by omega) (by omega) N_h24) (fun _ V_r R_r => by have := gF_160_8 V_r; have := gF_160_9 V_r; have := gF_160_23 V_r; omega)
      · intro C13
        exact ok_mV (vj_X13_type_68 hn (by omega) (by omega) V_h24 (by omega) (by omega) (by omega) N_h24) (fun _ V_r R_r => by have := gF_160_8 V_r; have := gF_160_9 V_r; have := gF_160_23 V_r; omega)
    · intro C11
      refine ok_xl ?_; intro h32 E_h32; have V_h32 : VS_ h32 := by rw [E_h32]; exact wF_160_45 V_h24 (by omega)
      have N_h32 : EK_ h32 := by rw [E_h32]; exact ek_up V_h24 N_h24 rfl
      have T15 : h32 160 8 = h24 160 8 := by rw [E_h32]; exact up_n (by decide)
      have T16 : h32 160 9 = h24 160 9 := by rw [E_h32]; exact up_n (by decide)
      have T17 : h32 160 23 = h24 160 23 := by rw [E_h32]; exact up_n (by decide)
      refine ok_add (by omega) ?_; intro v34 e_v34
      refine ok_xl ?_; intro h35 E_h35; have V_h35 : VS_ h35 := by rw [E_h35]; exact wF_160_23 V_h32 (by omega)
      have N_h35 : EK_ h35 := by rw [E_h35]; exact ek_up V_h32 N_h32 rfl
      have T18 : h35 160 8 = h32 160 8 := by rw [E_h35]; exact up_n (by decide)
      have T19 : h35 160 9 = h32 160 9 := by rw [E_h35]; exact up_n (by decide)
      have T20 : h35 160 23 = v34 := by rw [E_h35]; exact up_s
      exact ok_rVR V_h35 (by omega)
  · intro C3
    exact ok_rVR V_h (by omega)
set_option maxRecDepth 4000 in
theorem vf_X13_word {nn : Nat} (hn : 1000000 ≤ nn) {a1 : Int} {h : ms_M} (a_a1 : 2 ≤ a1) (b_a1 : a1 ≤ 3) (V_h : VS_ h) (x_0 : h 160 23 + 1 ≤ h 160 8) (N_h : EK_ h)  : Ok_ (qf_X13_word nn a1 h) (QVR_ (fun r => ((h 160 9 = 0 ∧ r 160 9 = 0 ∧ r 160 23 = h 160 23 + 1 ∧ r 160 23 + 1 ≤ h 160 8) ∨ (¬ r 160 9 = 0 ∧ r 160 23 = h 160 23)))) := by
  unfold qf_X13_word
  have T1 := gF_160_8 V_h
  have T2 := gF_160_9 V_h
  have T3 := gF_160_23 V_h
  refine ok_if ?_ ?_
  · intro C3
    refine ok_cP (vf_X13_isWord hn (by omega) (by omega) (by omega) (by omega) V_h) ?_; intro u4 e_u4 a_u4 b_u4
    have T5 := lm_ek_isWord N_h (by omega) e_u4
    refine ok_if ?_ ?_
    · intro C5
      refine ok_cVR (vf_X13_misplaced hn V_h (by omega) N_h) ?_; intro u6 E_u6 V_u6 R_u6
      have N_u6 : EK_ u6 := ek_fr V_h N_h (fun c k z => (ff_X13_misplaced nn) _ E_u6 c k z) rfl
      have T7 : u6 160 8 = h 160 8 := (ff_X13_misplaced nn) _ E_u6 160 8 rfl
      have T8 : u6 160 23 = h 160 23 := (ff_X13_misplaced nn) _ E_u6 160 23 rfl
      have T9 := gF_160_9 V_u6
      exact ok_rVR V_u6 (by omega)
    · intro C5
      refine ok_add (by omega) ?_; intro v8 e_v8
      refine ok_xl ?_; intro h9 E_h9; have V_h9 : VS_ h9 := by rw [E_h9]; exact wF_160_23 V_h (by omega)
      have N_h9 : EK_ h9 := by rw [E_h9]; exact ek_up V_h N_h rfl
      have T10 : h9 160 8 = h 160 8 := by rw [E_h9]; exact up_n (by decide)
      have T11 : h9 160 9 = h 160 9 := by rw [E_h9]; exact up_n (by decide)
      have T12 : h9 160 23 = v8 := by rw [E_h9]; exact up_s
      exact ok_rVR V_h9 (by omega)
  · intro C3
    exact ok_rVR V_h (by omega)
set_option maxRecDepth 4000 in
def GH_X13_block (g : Int) (rc : tq_X13_block) : Prop := (∀ {a1 : Int} {h : ms_M} (a_a1 : 0 ≤ a1) (b_a1 : a1 ≤ 40) (V_h : VS_ h) (x_0 : 2 * (40 - a1) + 2 ≤ g) (x_1 : h 160 23 + 1 ≤ h 160 8) (x_2 : h 160 22 ≤ 2 * h 160 23 + 40) (N_h : EK_ h), Ok_ (rc.1 a1 h) (QIR_ (-1) 8999 (fun u r => (EK_ r) ∧ (r 160 8 = h 160 8) ∧ (h 160 9 = 0 ∨ ¬ r 160 9 = 0) ∧ (h 160 23 ≤ r 160 23) ∧ (r 160 23 + 1 ≤ h 160 8) ∧ (h 160 22 ≤ r 160 22) ∧ (r 160 22 + 2 * h 160 23 ≤ h 160 22 + 2 * r 160 23 + 1) ∧ (¬ r 160 9 = 0 ∨ (0 ≤ u ∧ u < r 160 22 ∧ h 160 23 + 1 ≤ r 160 23 ∧ r 160 22 + 2 * h 160 23 ≤ h 160 22 + 2 * r 160 23 + 0))))) ∧
  (∀ {a1 : Int} {h : ms_M} (a_a1 : 0 ≤ a1) (b_a1 : a1 ≤ 40) (V_h : VS_ h) (x_0 : 2 * (40 - a1) + 1 ≤ g) (x_1 : h 160 23 + 1 ≤ h 160 8) (x_2 : h 160 22 ≤ 2 * h 160 23 + 40) (N_h : EK_ h), Ok_ (rc.2 a1 h) (QIR_ (-1) 8999 (fun u r => (EK_ r) ∧ (r 160 8 = h 160 8) ∧ (h 160 9 = 0 ∨ ¬ r 160 9 = 0) ∧ (h 160 23 ≤ r 160 23) ∧ (r 160 23 + 1 ≤ h 160 8) ∧ (h 160 22 ≤ r 160 22) ∧ (r 160 22 + 2 * h 160 23 ≤ h 160 22 + 2 * r 160 23 + 1) ∧ (¬ r 160 9 = 0 ∨ (0 ≤ u ∧ u < r 160 22 ∧ h 160 23 + 1 ≤ r 160 23 ∧ r 160 22 + 2 * h 160 23 ≤ h 160 22 + 2 * r 160 23 + 0)))))
set_option maxRecDepth 4000 in
theorem vj_X13_block_79 {nn : Nat} (hn : 1000000 ≤ nn) {g : Int} {rc : tq_X13_block} (hg : GH_X13_block g rc) {l2 : Int} {h : ms_M} (a_l2 : 0 ≤ l2) (b_l2 : l2 ≤ 8999) (V_h : VS_ h) (x_0 : h 160 23 + 1 ≤ h 160 8) (x_1 : l2 < h 160 22) (N_h : EK_ h)  : Ok_ (qj_X13_block_79 nn rc l2 h) (QIR_ (-1) 8999 (fun u r => (EK_ r) ∧ (r 160 8 = h 160 8) ∧ (h 160 9 = 0 ∨ ¬ r 160 9 = 0) ∧ (h 160 23 ≤ r 160 23) ∧ (r 160 23 + 1 ≤ h 160 8) ∧ (h 160 22 ≤ r 160 22) ∧ (r 160 22 + 2 * h 160 23 ≤ h 160 22 + 2 * r 160 23 + 0) ∧ (¬ r 160 9 = 0 ∨ (0 ≤ u ∧ u < r 160 22)) ∧ (h 160 9 = 0 ∨ (r 160 22 = h 160 22 ∧ r 160 23 = h 160 23)))) := by
  unfold qj_X13_block_79
  have T1 := gF_160_8 V_h
  have T2 := gF_160_9 V_h
  have T3 := gF_160_22 V_h
  have T4 := gF_160_23 V_h
  refine ok_cVR (vf_X13_sign_ hn (by omega) (by omega) V_h (by omega) N_h) ?_; intro u2 E_u2 V_u2 R_u2
  have N_u2 : EK_ u2 := ek_fr V_h N_h (fun c k z => (ff_X13_sign_ nn) _ E_u2 c k z) rfl
  have T5 : u2 160 8 = h 160 8 := (ff_X13_sign_ nn) _ E_u2 160 8 rfl
  have T6 : u2 160 22 = h 160 22 := (ff_X13_sign_ nn) _ E_u2 160 22 rfl
  have T7 := gF_160_9 V_u2
  have T8 := gF_160_23 V_u2
  exact ok_rIR V_u2 (by omega) (by omega) ⟨N_u2, by omega⟩
set_option maxRecDepth 4000 in
theorem vw_X13_block_22 {nn : Nat} (hn : 1000000 ≤ nn) {g : Int} {rc : tq_X13_block} (hg : GH_X13_block g rc) : ∀ (k : Nat) {l1 : Int} {l2 : Int} {l3 : Int} {h : ms_M} (a_l1 : 0 ≤ l1) (b_l1 : l1 ≤ 40) (a_l2 : 0 ≤ l2) (b_l2 : l2 ≤ 8999) (a_l3 : (-1) ≤ l3) (b_l3 : l3 ≤ 8999) (V_h : VS_ h) (x_0 : 2 * (40 - l1) + 2 ≤ (g + 1)) (x_1 : h 160 23 + 1 ≤ h 160 8) (x_2 : ¬ h 160 9 = 0 ∨ h 160 22 ≤ 2 * h 160 23 + 40) (x_3 : l2 < h 160 22) (N_h : EK_ h)  (hm : 12 * (3001 - h 160 23) - h 160 9 < (k : Int)), Ok_ (qw_X13_block_22 nn rc k l1 l2 l3 h) (QIR_ (-1) 8999 (fun u r => (EK_ r) ∧ (r 160 8 = h 160 8) ∧ (h 160 9 = 0 ∨ ¬ r 160 9 = 0) ∧ (h 160 23 ≤ r 160 23) ∧ (r 160 23 + 1 ≤ h 160 8) ∧ (h 160 22 ≤ r 160 22) ∧ (r 160 22 + 2 * h 160 23 ≤ h 160 22 + 2 * r 160 23 + 1) ∧ (¬ r 160 9 = 0 ∨ (0 ≤ u ∧ u < r 160 22 ∧ r 160 22 + 2 * h 160 23 ≤ h 160 22 + 2 * r 160 23 + 0)) ∧ (h 160 9 = 0 ∨ (r 160 22 = h 160 22 ∧ r 160 23 = h 160 23)))) := by
  intro k
  induction k with
  | zero => intro l1 l2 l3 h a_l1 b_l1 a_l2 b_l2 a_l3 b_l3 V_h x_0 x_1 x_2 x_3 N_h hm; have := gF_160_23 V_h; have := gF_160_9 V_h; exfalso; omega
  | succ k ih =>
    intro l1 l2 l3 h a_l1 b_l1 a_l2 b_l2 a_l3 b_l3 V_h x_0 x_1 x_2 x_3 N_h hm
    unfold qw_X13_block_22
    have T1 := gF_160_8 V_h
    have T2 := gF_160_9 V_h
    have T3 := gF_160_22 V_h
    have T4 := gF_160_23 V_h
    refine ok_if ?_ ?_
    · intro C4
      exact ok_mI (vj_X13_block_79 hn hg (by omega) (by omega) V_h (by omega) (by omega) N_h) (fun _ _ V_r R_r => ⟨R_r.1, by have := R_r.2; have := gF_160_8 V_r; have := gF_160_9 V_r; have := gF_160_22 V_r; have := gF_160_23 V_r; omega⟩)
    · intro C4
      refine ok_cP (vf_X13_isSign hn (by omega) (by omega) (by omega) (by omega) V_h) ?_; intro u6 e_u6 a_u6 b_u6
      have T6 := lm_ek_isSign N_h (by omega) e_u6
      refine ok_if ?_ ?_
      · intro C6
        exact ok_mI (vj_X13_block_79 hn hg (by omega) (by omega) V_h (by omega) (by omega) N_h) (fun _ _ V_r R_r => ⟨R_r.1, by have := R_r.2; have := gF_160_8 V_r; have := gF_160_9 V_r; have := gF_160_22 V_r; have := gF_160_23 V_r; omega⟩)
      · intro C6
        refine ok_cIR (hg.2 (by omega) (by omega) V_h (by omega) (by omega) (by omega) N_h) ?_; intro u8 E_u8 V_u8 a_u8 b_u8 R_u8
        have N_u8_2 : EK_ u8.2 := R_u8.1
        have T8 := gF_160_8 V_u8
        have T9 := gF_160_9 V_u8
        have T10 := gF_160_22 V_u8
        have T11 := gF_160_23 V_u8
        refine ok_if ?_ ?_
        · intro C11
          refine ok_wA (by omega) ?_; intro h10 E_h10; have V_h10 : VS_ h10 := by rw [E_h10]; exact wA_173 V_u8 (by omega)
          have N_h10 : EK_ h10 := by rw [E_h10]; exact ek_ua V_u8 N_u8_2 rfl
          have T13 : h10 160 8 = u8.2 160 8 := by rw [E_h10]; exact up_n (fun z => absurd z.1 (by decide))
          have T14 : h10 160 9 = u8.2 160 9 := by rw [E_h10]; exact up_n (fun z => absurd z.1 (by decide))
          have T15 : h10 160 22 = u8.2 160 22 := by rw [E_h10]; exact up_n (fun z => absurd z.1 (by decide))
          have T16 : h10 160 23 = u8.2 160 23 := by rw [E_h10]; exact up_n (fun z => absurd z.1 (by decide))
          exact ok_mI (ih (by omega) (by omega) (by omega) (by omega) (by omega) (by omega) V_h10 (by omega) (by omega) (by omega) (by omega) N_h10 (by omega)) (fun _ _ V_r R_r => ⟨R_r.1, by have := R_r.2; have := gF_160_8 V_r; have := gF_160_9 V_r; have := gF_160_22 V_r; have := gF_160_23 V_r; omega⟩)
        · intro C11
          refine ok_wA (by omega) ?_; intro h12 E_h12; have V_h12 : VS_ h12 := by rw [E_h12]; exact wA_170 V_u8 (by omega)
          have N_h12 : EK_ h12 := by rw [E_h12]; exact ek_ua V_u8 N_u8_2 rfl
          have T17 : h12 160 8 = u8.2 160 8 := by rw [E_h12]; exact up_n (fun z => absurd z.1 (by decide))
          have T18 : h12 160 9 = u8.2 160 9 := by rw [E_h12]; exact up_n (fun z => absurd z.1 (by decide))
          have T19 : h12 160 22 = u8.2 160 22 := by rw [E_h12]; exact up_n (fun z => absurd z.1 (by decide))
          have T20 : h12 160 23 = u8.2 160 23 := by rw [E_h12]; exact up_n (fun z => absurd z.1 (by decide))
          exact ok_mI (ih (by omega) (by omega) (by omega) (by omega) (by omega) (by omega) V_h12 (by omega) (by omega) (by omega) (by omega) N_h12 (by omega)) (fun _ _ V_r R_r => ⟨R_r.1, by have := R_r.2; have := gF_160_8 V_r; have := gF_160_9 V_r; have := gF_160_22 V_r; have := gF_160_23 V_r; omega⟩)
set_option maxRecDepth 4000 in
theorem vo_X13_block {nn : Nat} (hn : 1000000 ≤ nn) {g : Int} {rc : tq_X13_block} (hg : GH_X13_block g rc) {a1 : Int} {h : ms_M} (a_a1 : 0 ≤ a1) (b_a1 : a1 ≤ 40) (V_h : VS_ h) (x_0 : 2 * (40 - a1) + 2 ≤ (g + 1)) (x_1 : h 160 23 + 1 ≤ h 160 8) (x_2 : h 160 22 ≤ 2 * h 160 23 + 40) (N_h : EK_ h)  : Ok_ (qo_X13_block nn rc a1 h) (QIR_ (-1) 8999 (fun u r => (EK_ r) ∧ (r 160 8 = h 160 8) ∧ (h 160 9 = 0 ∨ ¬ r 160 9 = 0) ∧ (h 160 23 ≤ r 160 23) ∧ (r 160 23 + 1 ≤ h 160 8) ∧ (h 160 22 ≤ r 160 22) ∧ (r 160 22 + 2 * h 160 23 ≤ h 160 22 + 2 * r 160 23 + 1) ∧ (¬ r 160 9 = 0 ∨ (0 ≤ u ∧ u < r 160 22 ∧ h 160 23 + 1 ≤ r 160 23 ∧ r 160 22 + 2 * h 160 23 ≤ h 160 22 + 2 * r 160 23 + 0)))) := by
  unfold qo_X13_block
  have T1 := gF_160_8 V_h
  have T2 := gF_160_9 V_h
  have T3 := gF_160_22 V_h
  have T4 := gF_160_23 V_h
  refine ok_cIR (vf_X13_add hn (by omega) (by omega) (by omega) (by omega) (by omega) (by omega) V_h (by omega)) ?_; intro u19 E_u19 V_u19 a_u19 b_u19 R_u19
  have N_u19_2 : EK_ u19.2 := ek_fr V_h N_h (fun c k z => (ff_X13_add nn) _ E_u19 c k z) rfl
  have T5 : u19.2 160 8 = h 160 8 := (ff_X13_add nn) _ E_u19 160 8 rfl
  have T6 : u19.2 160 9 = h 160 9 := (ff_X13_add nn) _ E_u19 160 9 rfl
  have T7 : u19.2 160 23 = h 160 23 := (ff_X13_add nn) _ E_u19 160 23 rfl
  have T8 := gF_160_22 V_u19
  refine ok_cVR (vf_X13_sign_ hn (by omega) (by omega) V_u19 (by omega) N_u19_2) ?_; intro u21 E_u21 V_u21 R_u21
  have N_u21 : EK_ u21 := ek_fr V_u19 N_u19_2 (fun c k z => (ff_X13_sign_ nn) _ E_u21 c k z) rfl
  have T9 : u21 160 8 = u19.2 160 8 := (ff_X13_sign_ nn) _ E_u21 160 8 rfl
  have T10 : u21 160 22 = u19.2 160 22 := (ff_X13_sign_ nn) _ E_u21 160 22 rfl
  have T11 := gF_160_9 V_u21
  have T12 := gF_160_23 V_u21
  exact ok_mI (vw_X13_block_22 hn hg _ (by omega) (by omega) (by omega) (by omega) (by omega) (by omega) V_u21 (by omega) (by omega) (by omega) (by omega) N_u21 (by omega)) (fun _ _ V_r R_r => ⟨R_r.1, by have := R_r.2; have := gF_160_8 V_r; have := gF_160_9 V_r; have := gF_160_22 V_r; have := gF_160_23 V_r; omega⟩)
set_option maxRecDepth 4000 in
theorem vj_X13_statement_755 {nn : Nat} (hn : 1000000 ≤ nn) {g : Int} {rc : tq_X13_block} (hg : GH_X13_block g rc) {l1 : Int} {h : ms_M} (a_l1 : 0 ≤ l1) (b_l1 : l1 ≤ 40) (V_h : VS_ h) (x_0 : h 160 23 + 1 ≤ h 160 8) (x_1 : h 160 22 ≤ 2 * h 160 23 + 40) (x_2 : l1 ≤ 39) (N_h : EK_ h)  : Ok_ (qj_X13_statement_755 nn rc l1 h) (QIR_ (-1) 8999 (fun u r => (EK_ r) ∧ (r 160 8 = h 160 8) ∧ (h 160 9 = 0 ∨ ¬ r 160 9 = 0) ∧ (h 160 23 ≤ r 160 23) ∧ (r 160 23 + 1 ≤ h 160 8) ∧ (h 160 22 ≤ r 160 22) ∧ (r 160 22 + 2 * h 160 23 ≤ h 160 22 + 2 * r 160 23 + 1) ∧ (¬ r 160 9 = 0 ∨ (0 ≤ u ∧ u < r 160 22 ∧ h 160 23 + 1 ≤ r 160 23 ∧ r 160 22 + 2 * h 160 23 ≤ h 160 22 + 2 * r 160 23 + 0)))) := by
  unfold qj_X13_statement_755
  have T1 := gF_160_8 V_h
  have T2 := gF_160_9 V_h
  have T3 := gF_160_22 V_h
  have T4 := gF_160_23 V_h
  refine ok_cIR (vf_X13_plain hn (by omega) (by omega) V_h (by omega) (by omega) N_h) ?_; intro u2 E_u2 V_u2 a_u2 b_u2 R_u2
  have N_u2_2 : EK_ u2.2 := ek_fr V_h N_h (fun c k z => (ff_X13_plain nn) _ E_u2 c k z) rfl
  have T5 : u2.2 160 8 = h 160 8 := (ff_X13_plain nn) _ E_u2 160 8 rfl
  have T6 := gF_160_9 V_u2
  have T7 := gF_160_22 V_u2
  have T8 := gF_160_23 V_u2
  exact ok_rIR V_u2 (by omega) (by omega) ⟨N_u2_2, by omega⟩
set_option maxRecDepth 4000 in
theorem vj_X13_statement_698 {nn : Nat} (hn : 1000000 ≤ nn) {g : Int} {rc : tq_X13_block} (hg : GH_X13_block g rc) {l3 : Int} {h : ms_M} (a_l3 : 0 ≤ l3) (b_l3 : l3 ≤ 8999) (V_h : VS_ h) (x_0 : h 160 23 + 1 ≤ h 160 8) (x_1 : h 160 22 ≤ 2 * h 160 23 + 100) (x_2 : 0 ≤ l3 ∧ l3 < h 160 22) (N_h : EK_ h)  : Ok_ (qj_X13_statement_698 nn rc l3 h) (QIR_ (-1) 8999 (fun u r => (EK_ r) ∧ (r 160 8 = h 160 8) ∧ (h 160 9 = 0 ∨ ¬ r 160 9 = 0) ∧ (h 160 23 ≤ r 160 23) ∧ (r 160 23 + 1 ≤ h 160 8) ∧ (h 160 22 ≤ r 160 22) ∧ (r 160 22 + 2 * h 160 23 ≤ h 160 22 + 2 * r 160 23 + 0) ∧ (¬ r 160 9 = 0 ∨ (0 ≤ u ∧ u < r 160 22)))) := by
  unfold qj_X13_statement_698
  have T1 := gF_160_8 V_h
  have T2 := gF_160_9 V_h
  have T3 := gF_160_22 V_h
  have T4 := gF_160_23 V_h
  exact ok_rIR V_h (by omega) (by omega) ⟨N_h, by omega⟩
set_option maxRecDepth 4000 in
theorem vj_X13_statement_562 {nn : Nat} (hn : 1000000 ≤ nn) {g : Int} {rc : tq_X13_block} (hg : GH_X13_block g rc) {l3 : Int} {h : ms_M} (a_l3 : 0 ≤ l3) (b_l3 : l3 ≤ 8999) (V_h : VS_ h) (x_0 : h 160 23 + 1 ≤ h 160 8) (x_1 : h 160 22 ≤ 2 * h 160 23 + 100) (x_2 : 0 ≤ l3 ∧ l3 < h 160 22) (N_h : EK_ h)  : Ok_ (qj_X13_statement_562 nn rc l3 h) (QIR_ (-1) 8999 (fun u r => (EK_ r) ∧ (r 160 8 = h 160 8) ∧ (h 160 9 = 0 ∨ ¬ r 160 9 = 0) ∧ (h 160 23 ≤ r 160 23) ∧ (r 160 23 + 1 ≤ h 160 8) ∧ (h 160 22 ≤ r 160 22) ∧ (r 160 22 + 2 * h 160 23 ≤ h 160 22 + 2 * r 160 23 + 0) ∧ (¬ r 160 9 = 0 ∨ (0 ≤ u ∧ u < r 160 22)))) := by
  unfold qj_X13_statement_562
  have T1 := gF_160_8 V_h
  have T2 := gF_160_9 V_h
  have T3 := gF_160_22 V_h
  have T4 := gF_160_23 V_h
  refine ok_cVR (vf_X13_sign_ hn (by omega) (by omega) V_h (by omega) N_h) ?_; intro u4 E_u4 V_u4 R_u4
  have N_u4 : EK_ u4 := ek_fr V_h N_h (fun c k z => (ff_X13_sign_ nn) _ E_u4 c k z) rfl
  have T5 : u4 160 8 = h 160 8 := (ff_X13_sign_ nn) _ E_u4 160 8 rfl
  have T6 : u4 160 22 = h 160 22 := (ff_X13_sign_ nn) _ E_u4 160 22 rfl
  have T7 := gF_160_9 V_u4
  have T8 := gF_160_23 V_u4
  exact ok_rIR V_u4 (by omega) (by omega) ⟨N_u4, by omega⟩
set_option maxRecDepth 4000 in
theorem vj_X13_statement_487 {nn : Nat} (hn : 1000000 ≤ nn) {g : Int} {rc : tq_X13_block} (hg : GH_X13_block g rc) {l2 : Int} {s0 : Int} {h : ms_M} (a_l2 : 0 ≤ l2) (b_l2 : l2 ≤ 3000) (a_s0 : 5 ≤ s0) (b_s0 : s0 ≤ 6) (V_h : VS_ h) (x_0 : h 160 23 + 2 ≤ h 160 8) (x_1 : h 160 22 ≤ 2 * h 160 23 + 40) (x_2 : h 160 9 = 0) (N_h : EK_ h)  : Ok_ (qj_X13_statement_487 nn rc l2 s0 h) (QIR_ (-1) 8999 (fun u r => (EK_ r) ∧ (r 160 8 = h 160 8) ∧ (h 160 9 = 0 ∨ ¬ r 160 9 = 0) ∧ (h 160 23 ≤ r 160 23) ∧ (r 160 23 + 1 ≤ h 160 8) ∧ (h 160 22 ≤ r 160 22) ∧ (r 160 22 + 2 * h 160 23 ≤ h 160 22 + 2 * r 160 23 + 1) ∧ (¬ r 160 9 = 0 ∨ (0 ≤ u ∧ u < r 160 22 ∧ h 160 23 + 1 ≤ r 160 23 ∧ r 160 22 + 2 * h 160 23 ≤ h 160 22 + 2 * r 160 23 + 0)))) := by
  unfold qj_X13_statement_487
  have T1 := gF_160_8 V_h
  have T2 := gF_160_9 V_h
  have T3 := gF_160_22 V_h
  have T4 := gF_160_23 V_h
  refine ok_cIR (vf_X13_add hn (by omega) (by omega) (by omega) (by omega) (by omega) (by omega) V_h (by omega)) ?_; intro u7 E_u7 V_u7 a_u7 b_u7 R_u7
  have N_u7_2 : EK_ u7.2 := ek_fr V_h N_h (fun c k z => (ff_X13_add nn) _ E_u7 c k z) rfl
  have T5 : u7.2 160 8 = h 160 8 := (ff_X13_add nn) _ E_u7 160 8 rfl
  have T6 : u7.2 160 9 = h 160 9 := (ff_X13_add nn) _ E_u7 160 9 rfl
  have T7 : u7.2 160 23 = h 160 23 := (ff_X13_add nn) _ E_u7 160 23 rfl
  have T8 := gF_160_22 V_u7
  refine ok_add (by omega) ?_; intro v9 e_v9
  refine ok_xl ?_; intro h10 E_h10; have V_h10 : VS_ h10 := by rw [E_h10]; exact wF_160_23 V_u7 (by omega)
  have N_h10 : EK_ h10 := by rw [E_h10]; exact ek_up V_u7 N_u7_2 rfl
  have T9 : h10 160 8 = u7.2 160 8 := by rw [E_h10]; exact up_n (by decide)
  have T10 : h10 160 9 = u7.2 160 9 := by rw [E_h10]; exact up_n (by decide)
  have T11 : h10 160 22 = u7.2 160 22 := by rw [E_h10]; exact up_n (by decide)
  have T12 : h10 160 23 = v9 := by rw [E_h10]; exact up_s
  refine ok_cVR (vf_X13_sign_ hn (by omega) (by omega) V_h10 (by omega) N_h10) ?_; intro u12 E_u12 V_u12 R_u12
  have N_u12 : EK_ u12 := ek_fr V_h10 N_h10 (fun c k z => (ff_X13_sign_ nn) _ E_u12 c k z) rfl
  have T13 : u12 160 8 = h10 160 8 := (ff_X13_sign_ nn) _ E_u12 160 8 rfl
  have T14 : u12 160 22 = h10 160 22 := (ff_X13_sign_ nn) _ E_u12 160 22 rfl
  have T15 := gF_160_9 V_u12
  have T16 := gF_160_23 V_u12
  exact ok_rIR V_u12 (by omega) (by omega) ⟨N_u12, by omega⟩
set_option maxRecDepth 4000 in
theorem vj_X13_statement_467 {nn : Nat} (hn : 1000000 ≤ nn) {g : Int} {rc : tq_X13_block} (hg : GH_X13_block g rc) {l2 : Int} {h : ms_M} (a_l2 : 0 ≤ l2) (b_l2 : l2 ≤ 3000) (V_h : VS_ h) (x_0 : h 160 23 + 2 ≤ h 160 8) (x_1 : h 160 22 ≤ 2 * h 160 23 + 40) (x_2 : h 160 9 = 0) (N_h : EK_ h)  : Ok_ (qj_X13_statement_467 nn rc l2 h) (QIR_ (-1) 8999 (fun u r => (EK_ r) ∧ (r 160 8 = h 160 8) ∧ (h 160 9 = 0 ∨ ¬ r 160 9 = 0) ∧ (h 160 23 ≤ r 160 23) ∧ (r 160 23 + 1 ≤ h 160 8) ∧ (h 160 22 ≤ r 160 22) ∧ (r 160 22 + 2 * h 160 23 ≤ h 160 22 + 2 * r 160 23 + 1) ∧ (¬ r 160 9 = 0 ∨ (0 ≤ u ∧ u < r 160 22 ∧ h 160 23 + 1 ≤ r 160 23 ∧ r 160 22 + 2 * h 160 23 ≤ h 160 22 + 2 * r 160 23 + 0)))) := by
  unfold qj_X13_statement_467
  have T1 := gF_160_8 V_h
  have T2 := gF_160_9 V_h
  have T3 := gF_160_22 V_h
  have T4 := gF_160_23 V_h
  refine ok_rd (by omega) (gA_166 V_h) ?_; intro v15 e_v15 a_v15 b_v15
  refine ok_if ?_ ?_
  · intro C4
    exact ok_mI (vj_X13_statement_487 hn hg (by omega) (by omega) (by omega) (by omega) V_h (by omega) (by omega) (by omega) N_h) (fun _ _ V_r R_r => ⟨R_r.1, by have := R_r.2; have := gF_160_8 V_r; have := gF_160_9 V_r; have := gF_160_22 V_r; have := gF_160_23 V_r; omega⟩)
  · intro C4
    exact ok_mI (vj_X13_statement_487 hn hg (by omega) (by omega) (by omega) (by omega) V_h (by omega) (by omega) (by omega) N_h) (fun _ _ V_r R_r => ⟨R_r.1, by have := R_r.2; have := gF_160_8 V_r; have := gF_160_9 V_r; have := gF_160_22 V_r; have := gF_160_23 V_r; omega⟩)
set_option maxRecDepth 4000 in
theorem vj_X13_statement_432 {nn : Nat} (hn : 1000000 ≤ nn) {g : Int} {rc : tq_X13_block} (hg : GH_X13_block g rc) {l1 : Int} {l3 : Int} {s0 : Int} {s1 : Int} {h : ms_M} (a_l1 : 0 ≤ l1) (b_l1 : l1 ≤ 40) (a_l3 : 0 ≤ l3) (b_l3 : l3 ≤ 8999) (a_s0 : 0 ≤ s0) (b_s0 : s0 ≤ 1) (a_s1 : 0 ≤ s1) (b_s1 : s1 ≤ 8999) (V_h : VS_ h) (x_0 : 2 * (40 - l1) + 1 ≤ (g + 1)) (x_1 : l1 ≤ 39) (x_2 : h 160 23 + 1 ≤ h 160 8) (x_3 : h 160 22 ≤ 2 * h 160 23 + 39) (x_4 : l3 < h 160 22) (N_h : EK_ h)  : Ok_ (qj_X13_statement_432 nn rc l1 l3 s0 s1 h) (QIR_ (-1) 8999 (fun u r => (EK_ r) ∧ (r 160 8 = h 160 8) ∧ (h 160 9 = 0 ∨ ¬ r 160 9 = 0) ∧ (h 160 23 ≤ r 160 23) ∧ (r 160 23 + 1 ≤ h 160 8) ∧ (h 160 22 ≤ r 160 22) ∧ (r 160 22 + 2 * h 160 23 ≤ h 160 22 + 2 * r 160 23 + 1) ∧ (¬ r 160 9 = 0 ∨ (0 ≤ u ∧ u < r 160 22 ∧ r 160 22 + 2 * h 160 23 ≤ h 160 22 + 2 * r 160 23 + 0)))) := by
  unfold qj_X13_statement_432
  have T1 := gF_160_8 V_h
  have T2 := gF_160_9 V_h
  have T3 := gF_160_22 V_h
  have T4 := gF_160_23 V_h
  refine ok_wA (by omega) ?_; intro h17 E_h17; have V_h17 : VS_ h17 := by rw [E_h17]; exact wA_175 V_h (by omega)
  have N_h17 : EK_ h17 := by rw [E_h17]; exact ek_ua V_h N_h rfl
  have T5 : h17 160 8 = h 160 8 := by rw [E_h17]; exact up_n (fun z => absurd z.1 (by decide))
  have T6 : h17 160 9 = h 160 9 := by rw [E_h17]; exact up_n (fun z => absurd z.1 (by decide))
  have T7 : h17 160 22 = h 160 22 := by rw [E_h17]; exact up_n (fun z => absurd z.1 (by decide))
  have T8 : h17 160 23 = h 160 23 := by rw [E_h17]; exact up_n (fun z => absurd z.1 (by decide))
  refine ok_add (by omega) ?_; intro v19 e_v19
  refine ok_cIR (vf_X13_expression hn (by omega) (by omega) V_h17 (by omega) (by omega) (by omega) N_h17) ?_; intro u21 E_u21 V_u21 a_u21 b_u21 R_u21
  have N_u21_2 : EK_ u21.2 := R_u21.1
  have T9 : u21.2 160 8 = h17 160 8 := (ff_X13_expression nn) _ E_u21 160 8 rfl
  have T10 := gF_160_9 V_u21
  have T11 := gF_160_22 V_u21
  have T12 := gF_160_23 V_u21
  refine ok_wA (by omega) ?_; intro h22 E_h22; have V_h22 : VS_ h22 := by rw [E_h22]; exact wA_170 V_u21 (by omega)
  have N_h22 : EK_ h22 := by rw [E_h22]; exact ek_ua V_u21 N_u21_2 rfl
  have T13 : h22 160 8 = u21.2 160 8 := by rw [E_h22]; exact up_n (fun z => absurd z.1 (by decide))
  have T14 : h22 160 9 = u21.2 160 9 := by rw [E_h22]; exact up_n (fun z => absurd z.1 (by decide))
  have T15 : h22 160 22 = u21.2 160 22 := by rw [E_h22]; exact up_n (fun z => absurd z.1 (by decide))
  have T16 : h22 160 23 = u21.2 160 23 := by rw [E_h22]; exact up_n (fun z => absurd z.1 (by decide))
  refine ok_cVR (vf_X13_sign_ hn (by omega) (by omega) V_h22 (by omega) N_h22) ?_; intro u24 E_u24 V_u24 R_u24
  have N_u24 : EK_ u24 := ek_fr V_h22 N_h22 (fun c k z => (ff_X13_sign_ nn) _ E_u24 c k z) rfl
  have T17 : u24 160 8 = h22 160 8 := (ff_X13_sign_ nn) _ E_u24 160 8 rfl
  have T18 : u24 160 22 = h22 160 22 := (ff_X13_sign_ nn) _ E_u24 160 22 rfl
  have T19 := gF_160_9 V_u24
  have T20 := gF_160_23 V_u24
  refine ok_add (by omega) ?_; intro v26 e_v26
  refine ok_cIR (hg.2 (by omega) (by omega) V_u24 (by omega) (by omega) (by omega) N_u24) ?_; intro u28 E_u28 V_u28 a_u28 b_u28 R_u28
  have N_u28_2 : EK_ u28.2 := R_u28.1
  have T21 := gF_160_8 V_u28
  have T22 := gF_160_9 V_u28
  have T23 := gF_160_22 V_u28
  have T24 := gF_160_23 V_u28
  refine ok_wA (by omega) ?_; intro h29 E_h29; have V_h29 : VS_ h29 := by rw [E_h29]; exact wA_171 V_u28 (by omega)
  have N_h29 : EK_ h29 := by rw [E_h29]; exact ek_ua V_u28 N_u28_2 rfl
  have T25 : h29 160 8 = u28.2 160 8 := by rw [E_h29]; exact up_n (fun z => absurd z.1 (by decide))
  have T26 : h29 160 9 = u28.2 160 9 := by rw [E_h29]; exact up_n (fun z => absurd z.1 (by decide))
  have T27 : h29 160 22 = u28.2 160 22 := by rw [E_h29]; exact up_n (fun z => absurd z.1 (by decide))
  have T28 : h29 160 23 = u28.2 160 23 := by rw [E_h29]; exact up_n (fun z => absurd z.1 (by decide))
  exact ok_rIR V_h29 (by omega) (by omega) ⟨N_h29, by omega⟩
set_option maxRecDepth 4000 in
theorem vj_X13_statement_431 {nn : Nat} (hn : 1000000 ≤ nn) {g : Int} {rc : tq_X13_block} (hg : GH_X13_block g rc) {l1 : Int} {l3 : Int} {s0 : Int} {h : ms_M} (a_l1 : 0 ≤ l1) (b_l1 : l1 ≤ 40) (a_l3 : 0 ≤ l3) (b_l3 : l3 ≤ 8999) (a_s0 : 0 ≤ s0) (b_s0 : s0 ≤ 8999) (V_h : VS_ h) (x_0 : 2 * (40 - l1) + 1 ≤ (g + 1)) (x_1 : l1 ≤ 39) (x_2 : h 160 23 + 1 ≤ h 160 8) (x_3 : h 160 22 ≤ 2 * h 160 23 + 39) (x_4 : l3 < h 160 22) (N_h : EK_ h)  : Ok_ (qj_X13_statement_431 nn rc l1 l3 s0 h) (QIR_ (-1) 8999 (fun u r => (EK_ r) ∧ (r 160 8 = h 160 8) ∧ (h 160 9 = 0 ∨ ¬ r 160 9 = 0) ∧ (h 160 23 ≤ r 160 23) ∧ (r 160 23 + 1 ≤ h 160 8) ∧ (h 160 22 ≤ r 160 22) ∧ (r 160 22 + 2 * h 160 23 ≤ h 160 22 + 2 * r 160 23 + 1) ∧ (¬ r 160 9 = 0 ∨ (0 ≤ u ∧ u < r 160 22 ∧ r 160 22 + 2 * h 160 23 ≤ h 160 22 + 2 * r 160 23 + 0)))) := by
  unfold qj_X13_statement_431
  have T1 := gF_160_8 V_h
  have T2 := gF_160_9 V_h
  have T3 := gF_160_22 V_h
  have T4 := gF_160_23 V_h
  exact ok_mI (vj_X13_statement_432 hn hg (by omega) (by omega) (by omega) (by omega) (by omega) (by omega) (by omega) (by omega) V_h (by omega) (by omega) (by omega) (by omega) (by omega) N_h) (fun _ _ V_r R_r => ⟨R_r.1, by have := R_r.2; have := gF_160_8 V_r; have := gF_160_9 V_r; have := gF_160_22 V_r; have := gF_160_23 V_r; omega⟩)
set_option maxRecDepth 4000 in
theorem vj_X13_statement_310 {nn : Nat} (hn : 1000000 ≤ nn) {g : Int} {rc : tq_X13_block} (hg : GH_X13_block g rc) {l1 : Int} {l3 : Int} {h : ms_M} (a_l1 : 0 ≤ l1) (b_l1 : l1 ≤ 40) (a_l3 : 0 ≤ l3) (b_l3 : l3 ≤ 8999) (V_h : VS_ h) (x_0 : 2 * (40 - l1) + 1 ≤ (g + 1)) (x_1 : l1 ≤ 39) (x_2 : h 160 23 + 1 ≤ h 160 8) (x_3 : h 160 22 ≤ 2 * h 160 23 + 39) (x_4 : l3 < h 160 22) (N_h : EK_ h)  : Ok_ (qj_X13_statement_310 nn rc l1 l3 h) (QIR_ (-1) 8999 (fun u r => (EK_ r) ∧ (r 160 8 = h 160 8) ∧ (h 160 9 = 0 ∨ ¬ r 160 9 = 0) ∧ (h 160 23 ≤ r 160 23) ∧ (r 160 23 + 1 ≤ h 160 8) ∧ (h 160 22 ≤ r 160 22) ∧ (r 160 22 + 2 * h 160 23 ≤ h 160 22 + 2 * r 160 23 + 1) ∧ (¬ r 160 9 = 0 ∨ (0 ≤ u ∧ u < r 160 22 ∧ r 160 22 + 2 * h 160 23 ≤ h 160 22 + 2 * r 160 23 + 0)))) := by
  unfold qj_X13_statement_310
  have T1 := gF_160_8 V_h
  have T2 := gF_160_9 V_h
  have T3 := gF_160_22 V_h
  have T4 := gF_160_23 V_h
  refine ok_add (by omega) ?_; intro v31 e_v31
  refine ok_cIR (hg.2 (by omega) (by omega) V_h (by omega) (by omega) (by omega) N_h) ?_; intro u33 E_u33 V_u33 a_u33 b_u33 R_u33
  have N_u33_2 : EK_ u33.2 := R_u33.1
  have T5 := gF_160_8 V_u33
  have T6 := gF_160_9 V_u33
  have T7 := gF_160_22 V_u33
  have T8 := gF_160_23 V_u33
  refine ok_wA (by omega) ?_; intro h34 E_h34; have V_h34 : VS_ h34 := by rw [E_h34]; exact wA_171 V_u33 (by omega)
  have N_h34 : EK_ h34 := by rw [E_h34]; exact ek_ua V_u33 N_u33_2 rfl
  have T9 : h34 160 8 = u33.2 160 8 := by rw [E_h34]; exact up_n (fun z => absurd z.1 (by decide))
  have T10 : h34 160 9 = u33.2 160 9 := by rw [E_h34]; exact up_n (fun z => absurd z.1 (by decide))
  have T11 : h34 160 22 = u33.2 160 22 := by rw [E_h34]; exact up_n (fun z => absurd z.1 (by decide))
  have T12 : h34 160 23 = u33.2 160 23 := by rw [E_h34]; exact up_n (fun z => absurd z.1 (by decide))
  refine ok_if ?_ ?_
  · intro C12
    exact ok_rIR V_h34 (by omega) (by omega) ⟨N_h34, by omega⟩
  · intro C12
    refine ok_cP (vf_X13_isWord hn (by omega) (by omega) (by omega) (by omega) V_h34) ?_; intro u38 e_u38 a_u38 b_u38
    have T14 := lm_ek_isWord N_h34 (by omega) e_u38
    refine ok_if ?_ ?_
    · intro C14
      exact ok_rIR V_h34 (by omega) (by omega) ⟨N_h34, by omega⟩
    · intro C14
      refine ok_add (by omega) ?_; intro v40 e_v40
      refine ok_xl ?_; intro h41 E_h41; have V_h41 : VS_ h41 := by rw [E_h41]; exact wF_160_23 V_h34 (by omega)
      have N_h41 : EK_ h41 := by rw [E_h41]; exact ek_up V_h34 N_h34 rfl
      have T16 : h41 160 8 = h34 160 8 := by rw [E_h41]; exact up_n (by decide)
      have T17 : h41 160 9 = h34 160 9 := by rw [E_h41]; exact up_n (by decide)
      have T18 : h41 160 22 = h34 160 22 := by rw [E_h41]; exact up_n (by decide)
      have T19 : h41 160 23 = v40 := by rw [E_h41]; exact up_s
      refine ok_add (by omega) ?_; intro v43 e_v43
      refine ok_cIR (hg.2 (by omega) (by omega) V_h41 (by omega) (by omega) (by omega) N_h41) ?_; intro u45 E_u45 V_u45 a_u45 b_u45 R_u45
      have N_u45_2 : EK_ u45.2 := R_u45.1
      have T20 := gF_160_8 V_u45
      have T21 := gF_160_9 V_u45
      have T22 := gF_160_22 V_u45
      have T23 := gF_160_23 V_u45
      refine ok_wA (by omega) ?_; intro h46 E_h46; have V_h46 : VS_ h46 := by rw [E_h46]; exact wA_172 V_u45 (by omega)
      have N_h46 : EK_ h46 := by rw [E_h46]; exact ek_ua V_u45 N_u45_2 rfl
      have T24 : h46 160 8 = u45.2 160 8 := by rw [E_h46]; exact up_n (fun z => absurd z.1 (by decide))
      have T25 : h46 160 9 = u45.2 160 9 := by rw [E_h46]; exact up_n (fun z => absurd z.1 (by decide))
      have T26 : h46 160 22 = u45.2 160 22 := by rw [E_h46]; exact up_n (fun z => absurd z.1 (by decide))
      have T27 : h46 160 23 = u45.2 160 23 := by rw [E_h46]; exact up_n (fun z => absurd z.1 (by decide))
      exact ok_rIR V_h46 (by omega) (by omega) ⟨N_h46, by omega⟩
set_option maxRecDepth 4000 in
theorem vj_X13_statement_78 {nn : Nat} (hn : 1000000 ≤ nn) {g : Int} {rc : tq_X13_block} (hg : GH_X13_block g rc) {l1 : Int} {l3 : Int} {s0 : Int} {s1 : Int} {s2 : Int} {h : ms_M} (a_l1 : 0 ≤ l1) (b_l1 : l1 ≤ 40) (a_l3 : 0 ≤ l3) (b_l3 : l3 ≤ 8999) (a_s0 : 0 ≤ s0) (b_s0 : s0 ≤ 2) (a_s1 : 0 ≤ s1) (b_s1 : s1 ≤ 12000) (a_s2 : 0 ≤ s2) (b_s2 : s2 ≤ 8999) (V_h : VS_ h) (x_0 : l1 ≤ 39) (x_1 : h 160 23 + 1 ≤ h 160 8) (x_2 : h 160 22 ≤ 2 * h 160 23 + 41) (x_3 : l3 < h 160 22) (N_h : EK_ h)  : Ok_ (qj_X13_statement_78 nn rc l1 l3 s0 s1 s2 h) (QIR_ (-1) 8999 (fun u r => (EK_ r) ∧ (r 160 8 = h 160 8) ∧ (h 160 9 = 0 ∨ ¬ r 160 9 = 0) ∧ (h 160 23 ≤ r 160 23) ∧ (r 160 23 + 1 ≤ h 160 8) ∧ (h 160 22 ≤ r 160 22) ∧ (r 160 22 + 2 * h 160 23 ≤ h 160 22 + 2 * r 160 23 + 0) ∧ (¬ r 160 9 = 0 ∨ (0 ≤ u ∧ u < r 160 22)))) := by
  unfold qj_X13_statement_78
  have T1 := gF_160_8 V_h
  have T2 := gF_160_9 V_h
  have T3 := gF_160_22 V_h
  have T4 := gF_160_23 V_h
  refine ok_add (by omega) ?_; intro v49 e_v49
  refine ok_wA (by omega) ?_; intro h50 E_h50; have V_h50 : VS_ h50 := by rw [E_h50]; exact wA_172 V_h (by omega)
  have N_h50 : EK_ h50 := by rw [E_h50]; exact ek_ua V_h N_h rfl
  have T5 : h50 160 8 = h 160 8 := by rw [E_h50]; exact up_n (fun z => absurd z.1 (by decide))
  have T6 : h50 160 9 = h 160 9 := by rw [E_h50]; exact up_n (fun z => absurd z.1 (by decide))
  have T7 : h50 160 22 = h 160 22 := by rw [E_h50]; exact up_n (fun z => absurd z.1 (by decide))
  have T8 : h50 160 23 = h 160 23 := by rw [E_h50]; exact up_n (fun z => absurd z.1 (by decide))
  have T9 := gF_160_45 V_h50
  refine ok_wA (by omega) ?_; intro h53 E_h53; have V_h53 : VS_ h53 := by rw [E_h53]; exact wA_175 V_h50 (by omega)
  have N_h53 : EK_ h53 := by rw [E_h53]; exact ek_ua V_h50 N_h50 rfl
  have T10 : h53 160 8 = h50 160 8 := by rw [E_h53]; exact up_n (fun z => absurd z.1 (by decide))
  have T11 : h53 160 9 = h50 160 9 := by rw [E_h53]; exact up_n (fun z => absurd z.1 (by decide))
  have T12 : h53 160 22 = h50 160 22 := by rw [E_h53]; exact up_n (fun z => absurd z.1 (by decide))
  have T13 : h53 160 23 = h50 160 23 := by rw [E_h53]; exact up_n (fun z => absurd z.1 (by decide))
  refine ok_cIR (vf_X13_name hn V_h53 (by omega) N_h53) ?_; intro u56 E_u56 V_u56 a_u56 b_u56 R_u56
  have N_u56_2 : EK_ u56.2 := ek_fr V_h53 N_h53 (fun c k z => (ff_X13_name nn) _ E_u56 c k z) rfl
  have T14 : u56.2 160 8 = h53 160 8 := (ff_X13_name nn) _ E_u56 160 8 rfl
  have T15 : u56.2 160 22 = h53 160 22 := (ff_X13_name nn) _ E_u56 160 22 rfl
  have T16 := gF_160_9 V_u56
  have T17 := gF_160_23 V_u56
  refine ok_wA (by omega) ?_; intro h57 E_h57; have V_h57 : VS_ h57 := by rw [E_h57]; exact wA_168 V_u56 (by omega)
  have N_h57 : EK_ h57 := by rw [E_h57]; exact ek_ua V_u56 N_u56_2 rfl
  have T18 : h57 160 8 = u56.2 160 8 := by rw [E_h57]; exact up_n (fun z => absurd z.1 (by decide))
  have T19 : h57 160 22 = u56.2 160 22 := by rw [E_h57]; exact up_n (fun z => absurd z.1 (by decide))
  have T20 : h57 160 9 = u56.2 160 9 := by rw [E_h57]; exact up_n (fun z => absurd z.1 (by decide))
  have T21 : h57 160 23 = u56.2 160 23 := by rw [E_h57]; exact up_n (fun z => absurd z.1 (by decide))
  refine ok_wA (by omega) ?_; intro h60 E_h60; have V_h60 : VS_ h60 := by rw [E_h60]; exact wA_176 V_h57 (by omega)
  have N_h60 : EK_ h60 := by rw [E_h60]; exact ek_ua V_h57 N_h57 rfl
  have T22 : h60 160 8 = h57 160 8 := by rw [E_h60]; exact up_n (fun z => absurd z.1 (by decide))
  have T23 : h60 160 22 = h57 160 22 := by rw [E_h60]; exact up_n (fun z => absurd z.1 (by decide))
  have T24 : h60 160 9 = h57 160 9 := by rw [E_h60]; exact up_n (fun z => absurd z.1 (by decide))
  have T25 : h60 160 23 = h57 160 23 := by rw [E_h60]; exact up_n (fun z => absurd z.1 (by decide))
  refine ok_cVR (vf_X13_sign_ hn (by omega) (by omega) V_h60 (by omega) N_h60) ?_; intro u62 E_u62 V_u62 R_u62
  have N_u62 : EK_ u62 := ek_fr V_h60 N_h60 (fun c k z => (ff_X13_sign_ nn) _ E_u62 c k z) rfl
  have T26 : u62 160 8 = h60 160 8 := (ff_X13_sign_ nn) _ E_u62 160 8 rfl
  have T27 : u62 160 22 = h60 160 22 := (ff_X13_sign_ nn) _ E_u62 160 22 rfl
  have T28 := gF_160_9 V_u62
  have T29 := gF_160_23 V_u62
  refine ok_add (by omega) ?_; intro v64 e_v64
  refine ok_cIR (vf_X13_expression hn (by omega) (by omega) V_u62 (by omega) (by omega) (by omega) N_u62) ?_; intro u66 E_u66 V_u66 a_u66 b_u66 R_u66
  have N_u66_2 : EK_ u66.2 := R_u66.1
  have T30 : u66.2 160 8 = u62 160 8 := (ff_X13_expression nn) _ E_u66 160 8 rfl
  have T31 := gF_160_9 V_u66
  have T32 := gF_160_22 V_u66
  have T33 := gF_160_23 V_u66
  refine ok_wA (by omega) ?_; intro h67 E_h67; have V_h67 : VS_ h67 := by rw [E_h67]; exact wA_170 V_u66 (by omega)
  have N_h67 : EK_ h67 := by rw [E_h67]; exact ek_ua V_u66 N_u66_2 rfl
  have T34 : h67 160 8 = u66.2 160 8 := by rw [E_h67]; exact up_n (fun z => absurd z.1 (by decide))
  have T35 : h67 160 9 = u66.2 160 9 := by rw [E_h67]; exact up_n (fun z => absurd z.1 (by decide))
  have T36 : h67 160 22 = u66.2 160 22 := by rw [E_h67]; exact up_n (fun z => absurd z.1 (by decide))
  have T37 : h67 160 23 = u66.2 160 23 := by rw [E_h67]; exact up_n (fun z => absurd z.1 (by decide))
  refine ok_cVR (vf_X13_sign_ hn (by omega) (by omega) V_h67 (by omega) N_h67) ?_; intro u69 E_u69 V_u69 R_u69
  have N_u69 : EK_ u69 := ek_fr V_h67 N_h67 (fun c k z => (ff_X13_sign_ nn) _ E_u69 c k z) rfl
  have T38 : u69 160 8 = h67 160 8 := (ff_X13_sign_ nn) _ E_u69 160 8 rfl
  have T39 : u69 160 22 = h67 160 22 := (ff_X13_sign_ nn) _ E_u69 160 22 rfl
  have T40 := gF_160_9 V_u69
  have T41 := gF_160_23 V_u69
  exact ok_rIR V_u69 (by omega) (by omega) ⟨N_u69, by omega⟩
set_option maxRecDepth 4000 in
theorem vo_X13_statement {nn : Nat} (hn : 1000000 ≤ nn) {g : Int} {rc : tq_X13_block} (hg : GH_X13_block g rc) {a1 : Int} {h : ms_M} (a_a1 : 0 ≤ a1) (b_a1 : a1 ≤ 40) (V_h : VS_ h) (x_0 : 2 * (40 - a1) + 1 ≤ (g + 1)) (x_1 : h 160 23 + 1 ≤ h 160 8) (x_2 : h 160 22 ≤ 2 * h 160 23 + 40) (N_h : EK_ h)  : Ok_ (qo_X13_statement nn rc a1 h) (QIR_ (-1) 8999 (fun u r => (EK_ r) ∧ (r 160 8 = h 160 8) ∧ (h 160 9 = 0 ∨ ¬ r 160 9 = 0) ∧ (h 160 23 ≤ r 160 23) ∧ (r 160 23 + 1 ≤ h 160 8) ∧ (h 160 22 ≤ r 160 22) ∧ (r 160 22 + 2 * h 160 23 ≤ h 160 22 + 2 * r 160 23 + 1) ∧ (¬ r 160 9 = 0 ∨ (0 ≤ u ∧ u < r 160 22 ∧ h 160 23 + 1 ≤ r 160 23 ∧ r 160 22 + 2 * h 160 23 ≤ h 160 22 + 2 * r 160 23 + 0)))) := by
  unfold qo_X13_statement
  have T1 := gF_160_8 V_h
  have T2 := gF_160_9 V_h
  have T3 := gF_160_22 V_h
  have T4 := gF_160_23 V_h
  refine ok_cIR (vf_X13_isDeep hn (by omega) (by omega) V_h (by omega) N_h) ?_; intro u71 E_u71 V_u71 a_u71 b_u71 R_u71
  have N_u71_2 : EK_ u71.2 := ek_fr V_h N_h (fun c k z => (ff_X13_isDeep nn) _ E_u71 c k z) rfl
  have T5 : u71.2 160 8 = h 160 8 := (ff_X13_isDeep nn) _ E_u71 160 8 rfl
  have T6 : u71.2 160 22 = h 160 22 := (ff_X13_isDeep nn) _ E_u71 160 22 rfl
  have T7 : u71.2 160 23 = h 160 23 := (ff_X13_isDeep nn) _ E_u71 160 23 rfl
  have T8 := gF_160_9 V_u71
  refine ok_if ?_ ?_
  · intro C8
    refine ok_cP (vf_X13_isSign hn (by omega) (by omega) (by omega) (by omega) V_u71) ?_; intro u75 e_u75 a_u75 b_u75
    have T10 := lm_ek_isSign N_u71_2 (by omega) e_u75
    refine ok_if ?_ ?_
    · intro C10
      refine ok_cP (vf_X13_isTyped hn V_u71 (by omega) N_u71_2) ?_; intro u77 e_u77 a_u77 b_u77
      refine ok_if ?_ ?_
      · intro C11
        refine ok_rd (by omega) (gA_163 V_u71) ?_; intro v80 e_v80 a_v80 b_v80
        have T13 := ek_rd N_u71_2 (by omega) e_v80
        refine ok_if ?_ ?_
        · intro C13
          refine ok_rd (by omega) (gA_166 V_u71) ?_; intro v83 e_v83 a_v83 b_v83
          refine ok_if ?_ ?_
          · intro C14
            exact ok_mI (vj_X13_statement_467 hn hg (by omega) (by omega) V_u71 (by omega) (by omega) (by omega) N_u71_2) (fun _ _ V_r R_r => ⟨R_r.1, by have := R_r.2; have := gF_160_8 V_r; have := gF_160_9 V_r; have := gF_160_22 V_r; have := gF_160_23 V_r; omega⟩)
          · intro C14
            refine ok_if ?_ ?_
            · intro C15
              exact ok_mI (vj_X13_statement_467 hn hg (by omega) (by omega) V_u71 (by omega) (by omega) (by omega) N_u71_2) (fun _ _ V_r R_r => ⟨R_r.1, by have := R_r.2; have := gF_160_8 V_r; have := gF_160_9 V_r; have := gF_160_22 V_r; have := gF_160_23 V_r; omega⟩)
            · intro C15
              refine ok_if ?_ ?_
              · intro C16
                refine ok_cIR (vf_X13_add hn (by omega) (by omega) (by omega) (by omega) (by omega) (by omega) V_u71 (by omega)) ?_; intro u86 E_u86 V_u86 a_u86 b_u86 R_u86
                have N_u86_2 : EK_ u86.2 := ek_fr V_u71 N_u71_2 (fun c k z => (ff_X13_add nn) _ E_u86 c k z) rfl
                have T18 : u86.2 160 8 = u71.2 160 8 := (ff_X13_add nn) _ E_u86 160 8 rfl
                have T19 : u86.2 160 23 = u71.2 160 23 := (ff_X13_add nn) _ E_u86 160 23 rfl
                have T20 : u86.2 160 9 = u71.2 160 9 := (ff_X13_add nn) _ E_u86 160 9 rfl
                have T21 := gF_160_22 V_u86
                refine ok_add (by omega) ?_; intro v88 e_v88
                refine ok_xl ?_; intro h89 E_h89; have V_h89 : VS_ h89 := by rw [E_h89]; exact wF_160_23 V_u86 (by omega)
                have N_h89 : EK_ h89 := by rw [E_h89]; exact ek_up V_u86 N_u86_2 rfl
                have T22 : h89 160 8 = u86.2 160 8 := by rw [E_h89]; exact up_n (by decide)
                have T23 : h89 160 9 = u86.2 160 9 := by rw [E_h89]; exact up_n (by decide)
                have T24 : h89 160 22 = u86.2 160 22 := by rw [E_h89]; exact up_n (by decide)
                have T25 : h89 160 23 = v88 := by rw [E_h89]; exact up_s
                refine ok_cVR (vf_X13_sign_ hn (by omega) (by omega) V_h89 (by omega) N_h89) ?_; intro u91 E_u91 V_u91 R_u91
                have N_u91 : EK_ u91 := ek_fr V_h89 N_h89 (fun c k z => (ff_X13_sign_ nn) _ E_u91 c k z) rfl
                have T26 : u91 160 8 = h89 160 8 := (ff_X13_sign_ nn) _ E_u91 160 8 rfl
                have T27 : u91 160 22 = h89 160 22 := (ff_X13_sign_ nn) _ E_u91 160 22 rfl
                have T28 := gF_160_9 V_u91
                have T29 := gF_160_23 V_u91
                refine ok_add (by omega) ?_; intro v93 e_v93
                refine ok_cIR (vf_X13_expression hn (by omega) (by omega) V_u91 (by omega) (by omega) (by omega) N_u91) ?_; intro u95 E_u95 V_u95 a_u95 b_u95 R_u95
                have N_u95_2 : EK_ u95.2 := R_u95.1
                have T30 : u95.2 160 8 = u91 160 8 := (ff_X13_expression nn) _ E_u95 160 8 rfl
                have T31 := gF_160_9 V_u95
                have T32 := gF_160_22 V_u95
                have T33 := gF_160_23 V_u95
                refine ok_wA (by omega) ?_; intro h96 E_h96; have V_h96 : VS_ h96 := by rw [E_h96]; exact wA_170 V_u95 (by omega)
                have N_h96 : EK_ h96 := by rw [E_h96]; exact ek_ua V_u95 N_u95_2 rfl
                have T34 : h96 160 8 = u95.2 160 8 := by rw [E_h96]; exact up_n (fun z => absurd z.1 (by decide))
                have T35 : h96 160 9 = u95.2 160 9 := by rw [E_h96]; exact up_n (fun z => absurd z.1 (by decide))
                have T36 : h96 160 22 = u95.2 160 22 := by rw [E_h96]; exact up_n (fun z => absurd z.1 (by decide))
                have T37 : h96 160 23 = u95.2 160 23 := by rw [E_h96]; exact up_n (fun z => absurd z.1 (by decide))
                refine ok_cVR (vf_X13_sign_ hn (by omega) (by omega) V_h96 (by omega) N_h96) ?_; intro u98 E_u98 V_u98 R_u98
                have N_u98 : EK_ u98 := ek_fr V_h96 N_h96 (fun c k z => (ff_X13_sign_ nn) _ E_u98 c k z) rfl
                have T38 : u98 160 8 = h96 160 8 := (ff_X13_sign_ nn) _ E_u98 160 8 rfl
                have T39 : u98 160 22 = h96 160 22 := (ff_X13_sign_ nn) _ E_u98 160 22 rfl
                have T40 := gF_160_9 V_u98
                have T41 := gF_160_23 V_u98
                exact ok_mI (vj_X13_statement_310 hn hg (by omega) (by omega) (by omega) (by omega) V_u98 (by omega) (by omega) (by omega) (by omega) (by omega) N_u98) (fun _ _ V_r R_r => ⟨R_r.1, by have := R_r.2; have := gF_160_8 V_r; have := gF_160_9 V_r; have := gF_160_22 V_r; have := gF_160_23 V_r; omega⟩)
              · intro C16
                refine ok_if ?_ ?_
                · intro C41
                  refine ok_cIR (vf_X13_add hn (by omega) (by omega) (by omega) (by omega) (by omega) (by omega) V_u71 (by omega)) ?_; intro u101 E_u101 V_u101 a_u101 b_u101 R_u101
                  have N_u101_2 : EK_ u101.2 := ek_fr V_u71 N_u71_2 (fun c k z => (ff_X13_add nn) _ E_u101 c k z) rfl
                  have T43 : u101.2 160 8 = u71.2 160 8 := (ff_X13_add nn) _ E_u101 160 8 rfl
                  have T44 : u101.2 160 23 = u71.2 160 23 := (ff_X13_add nn) _ E_u101 160 23 rfl
                  have T45 : u101.2 160 9 = u71.2 160 9 := (ff_X13_add nn) _ E_u101 160 9 rfl
                  have T46 := gF_160_22 V_u101
                  refine ok_add (by omega) ?_; intro v103 e_v103
                  refine ok_xl ?_; intro h104 E_h104; have V_h104 : VS_ h104 := by rw [E_h104]; exact wF_160_23 V_u101 (by omega)
                  have N_h104 : EK_ h104 := by rw [E_h104]; exact ek_up V_u101 N_u101_2 rfl
                  have T47 : h104 160 8 = u101.2 160 8 := by rw [E_h104]; exact up_n (by decide)
                  have T48 : h104 160 9 = u101.2 160 9 := by rw [E_h104]; exact up_n (by decide)
                  have T49 : h104 160 22 = u101.2 160 22 := by rw [E_h104]; exact up_n (by decide)
                  have T50 : h104 160 23 = v103 := by rw [E_h104]; exact up_s
                  refine ok_cVR (vf_X13_sign_ hn (by omega) (by omega) V_h104 (by omega) N_h104) ?_; intro u106 E_u106 V_u106 R_u106
                  have N_u106 : EK_ u106 := ek_fr V_h104 N_h104 (fun c k z => (ff_X13_sign_ nn) _ E_u106 c k z) rfl
                  have T51 : u106 160 8 = h104 160 8 := (ff_X13_sign_ nn) _ E_u106 160 8 rfl
                  have T52 : u106 160 22 = h104 160 22 := (ff_X13_sign_ nn) _ E_u106 160 22 rfl
                  have T53 := gF_160_9 V_u106
                  have T54 := gF_160_23 V_u106
                  refine ok_add (by omega) ?_; intro v108 e_v108
                  refine ok_cIR (vf_X13_expression hn (by omega) (by omega) V_u106 (by omega) (by omega) (by omega) N_u106) ?_; intro u110 E_u110 V_u110 a_u110 b_u110 R_u110
                  have N_u110_2 : EK_ u110.2 := R_u110.1
                  have T55 : u110.2 160 8 = u106 160 8 := (ff_X13_expression nn) _ E_u110 160 8 rfl
                  have T56 := gF_160_9 V_u110
                  have T57 := gF_160_22 V_u110
                  have T58 := gF_160_23 V_u110
                  refine ok_wA (by omega) ?_; intro h111 E_h111; have V_h111 : VS_ h111 := by rw [E_h111]; exact wA_170 V_u110 (by omega)
                  have N_h111 : EK_ h111 := by rw [E_h111]; exact ek_ua V_u110 N_u110_2 rfl
                  have T59 : h111 160 8 = u110.2 160 8 := by rw [E_h111]; exact up_n (fun z => absurd z.1 (by decide))
                  have T60 : h111 160 9 = u110.2 160 9 := by rw [E_h111]; exact up_n (fun z => absurd z.1 (by decide))
                  have T61 : h111 160 22 = u110.2 160 22 := by rw [E_h111]; exact up_n (fun z => absurd z.1 (by decide))
                  have T62 : h111 160 23 = u110.2 160 23 := by rw [E_h111]; exact up_n (fun z => absurd z.1 (by decide))
                  refine ok_cVR (vf_X13_sign_ hn (by omega) (by omega) V_h111 (by omega) N_h111) ?_; intro u113 E_u113 V_u113 R_u113
                  have N_u113 : EK_ u113 := ek_fr V_h111 N_h111 (fun c k z => (ff_X13_sign_ nn) _ E_u113 c k z) rfl
                  have T63 : u113 160 8 = h111 160 8 := (ff_X13_sign_ nn) _ E_u113 160 8 rfl
                  have T64 : u113 160 22 = h111 160 22 := (ff_X13_sign_ nn) _ E_u113 160 22 rfl
                  have T65 := gF_160_9 V_u113
                  have T66 := gF_160_23 V_u113
                  refine ok_cVR (vf_X13_sign_ hn (by omega) (by omega) V_u113 (by omega) N_u113) ?_; intro u115 E_u115 V_u115 R_u115
                  have N_u115 : EK_ u115 := ek_fr V_u113 N_u113 (fun c k z => (ff_X13_sign_ nn) _ E_u115 c k z) rfl
                  have T67 : u115 160 8 = u113 160 8 := (ff_X13_sign_ nn) _ E_u115 160 8 rfl
                  have T68 : u115 160 22 = u113 160 22 := (ff_X13_sign_ nn) _ E_u115 160 22 rfl
                  have T69 := gF_160_9 V_u115
                  have T70 := gF_160_23 V_u115
                  exact ok_rIR V_u115 (by omega) (by omega) ⟨N_u115, by omega⟩
                · intro C41
                  refine ok_if ?_ ?_
                  · intro C70
                    refine ok_cIR (vf_X13_add hn (by omega) (by omega) (by omega) (by omega) (by omega) (by omega) V_u71 (by omega)) ?_; intro u118 E_u118 V_u118 a_u118 b_u118 R_u118
                    have N_u118_2 : EK_ u118.2 := ek_fr V_u71 N_u71_2 (fun c k z => (ff_X13_add nn) _ E_u118 c k z) rfl
                    have T72 : u118.2 160 8 = u71.2 160 8 := (ff_X13_add nn) _ E_u118 160 8 rfl
                    have T73 : u118.2 160 23 = u71.2 160 23 := (ff_X13_add nn) _ E_u118 160 23 rfl
                    have T74 : u118.2 160 9 = u71.2 160 9 := (ff_X13_add nn) _ E_u118 160 9 rfl
                    have T75 := gF_160_22 V_u118
                    refine ok_add (by omega) ?_; intro v120 e_v120
                    refine ok_xl ?_; intro h121 E_h121; have V_h121 : VS_ h121 := by rw [E_h121]; exact wF_160_23 V_u118 (by omega)
                    have N_h121 : EK_ h121 := by rw [E_h121]; exact ek_up V_u118 N_u118_2 rfl
                    have T76 : h121 160 8 = u118.2 160 8 := by rw [E_h121]; exact up_n (by decide)
                    have T77 : h121 160 9 = u118.2 160 9 := by rw [E_h121]; exact up_n (by decide)
                    have T78 : h121 160 22 = u118.2 160 22 := by rw [E_h121]; exact up_n (by decide)
                    have T79 : h121 160 23 = v120 := by rw [E_h121]; exact up_s
                    refine ok_cP (vf_X13_isSign hn (by omega) (by omega) (by omega) (by omega) V_h121) ?_; intro u124 e_u124 a_u124 b_u124
                    have T80 := lm_ek_isSign N_h121 (by omega) e_u124
                    refine ok_if ?_ ?_
                    · intro C80
                      exact ok_mI (vj_X13_statement_562 hn hg (by omega) (by omega) V_h121 (by omega) (by omega) (by omega) N_h121) (fun _ _ V_r R_r => ⟨R_r.1, by have := R_r.2; have := gF_160_8 V_r; have := gF_160_9 V_r; have := gF_160_22 V_r; have := gF_160_23 V_r; omega⟩)
                    · intro C80
                      refine ok_add (by omega) ?_; intro v126 e_v126
                      refine ok_cIR (vf_X13_expression hn (by omega) (by omega) V_h121 (by omega) (by omega) (by omega) N_h121) ?_; intro u128 E_u128 V_u128 a_u128 b_u128 R_u128
                      have N_u128_2 : EK_ u128.2 := R_u128.1
                      have T82 : u128.2 160 8 = h121 160 8 := (ff_X13_expression nn) _ E_u128 160 8 rfl
                      have T83 := gF_160_9 V_u128
                      have T84 := gF_160_22 V_u128
                      have T85 := gF_160_23 V_u128
                      refine ok_wA (by omega) ?_; intro h129 E_h129; have V_h129 : VS_ h129 := by rw [E_h129]; exact wA_170 V_u128 (by omega)
                      have N_h129 : EK_ h129 := by rw [E_h129]; exact ek_ua V_u128 N_u128_2 rfl
                      have T86 : h129 160 8 = u128.2 160 8 := by rw [E_h129]; exact up_n (fun z => absurd z.1 (by decide))
                      have T87 : h129 160 9 = u128.2 160 9 := by rw [E_h129]; exact up_n (fun z => absurd z.1 (by decide))
                      have T88 : h129 160 22 = u128.2 160 22 := by rw [E_h129]; exact up_n (fun z => absurd z.1 (by decide))
                      have T89 : h129 160 23 = u128.2 160 23 := by rw [E_h129]; exact up_n (fun z => absurd z.1 (by decide))
                      exact ok_mI (vj_X13_statement_562 hn hg (by omega) (by omega) V_h129 (by omega) (by omega) (by omega) N_h129) (fun _ _ V_r R_r => ⟨R_r.1, by have := R_r.2; have := gF_160_8 V_r; have := gF_160_9 V_r; have := gF_160_22 V_r; have := gF_160_23 V_r; omega⟩)
                  · intro C70
                    refine ok_if ?_ ?_
                    · intro C89
                      refine ok_cIR (vf_X13_add hn (by omega) (by omega) (by omega) (by omega) (by omega) (by omega) V_u71 (by omega)) ?_; intro u133 E_u133 V_u133 a_u133 b_u133 R_u133
                      have N_u133_2 : EK_ u133.2 := ek_fr V_u71 N_u71_2 (fun c k z => (ff_X13_add nn) _ E_u133 c k z) rfl
                      have T91 : u133.2 160 8 = u71.2 160 8 := (ff_X13_add nn) _ E_u133 160 8 rfl
                      have T92 : u133.2 160 23 = u71.2 160 23 := (ff_X13_add nn) _ E_u133 160 23 rfl
                      have T93 : u133.2 160 9 = u71.2 160 9 := (ff_X13_add nn) _ E_u133 160 9 rfl
                      have T94 := gF_160_22 V_u133
                      refine ok_add (by omega) ?_; intro v135 e_v135
                      refine ok_xl ?_; intro h136 E_h136; have V_h136 : VS_ h136 := by rw [E_h136]; exact wF_160_23 V_u133 (by omega)
                      have N_h136 : EK_ h136 := by rw [E_h136]; exact ek_up V_u133 N_u133_2 rfl
                      have T95 : h136 160 8 = u133.2 160 8 := by rw [E_h136]; exact up_n (by decide)
                      have T96 : h136 160 9 = u133.2 160 9 := by rw [E_h136]; exact up_n (by decide)
                      have T97 : h136 160 22 = u133.2 160 22 := by rw [E_h136]; exact up_n (by decide)
                      have T98 : h136 160 23 = v135 := by rw [E_h136]; exact up_s
                      refine ok_add (by omega) ?_; intro v138 e_v138
                      refine ok_cIR (vf_X13_expression hn (by omega) (by omega) V_h136 (by omega) (by omega) (by omega) N_h136) ?_; intro u140 E_u140 V_u140 a_u140 b_u140 R_u140
                      have N_u140_2 : EK_ u140.2 := R_u140.1
                      have T99 : u140.2 160 8 = h136 160 8 := (ff_X13_expression nn) _ E_u140 160 8 rfl
                      have T100 := gF_160_9 V_u140
                      have T101 := gF_160_22 V_u140
                      have T102 := gF_160_23 V_u140
                      refine ok_wA (by omega) ?_; intro h141 E_h141; have V_h141 : VS_ h141 := by rw [E_h141]; exact wA_170 V_u140 (by omega)
                      have N_h141 : EK_ h141 := by rw [E_h141]; exact ek_ua V_u140 N_u140_2 rfl
                      have T103 : h141 160 8 = u140.2 160 8 := by rw [E_h141]; exact up_n (fun z => absurd z.1 (by decide))
                      have T104 : h141 160 9 = u140.2 160 9 := by rw [E_h141]; exact up_n (fun z => absurd z.1 (by decide))
                      have T105 : h141 160 22 = u140.2 160 22 := by rw [E_h141]; exact up_n (fun z => absurd z.1 (by decide))
                      have T106 : h141 160 23 = u140.2 160 23 := by rw [E_h141]; exact up_n (fun z => absurd z.1 (by decide))
                      refine ok_cVR (vf_X13_sign_ hn (by omega) (by omega) V_h141 (by omega) N_h141) ?_; intro u143 E_u143 V_u143 R_u143
                      have N_u143 : EK_ u143 := ek_fr V_h141 N_h141 (fun c k z => (ff_X13_sign_ nn) _ E_u143 c k z) rfl
                      have T107 : u143 160 8 = h141 160 8 := (ff_X13_sign_ nn) _ E_u143 160 8 rfl
                      have T108 : u143 160 22 = h141 160 22 := (ff_X13_sign_ nn) _ E_u143 160 22 rfl
                      have T109 := gF_160_9 V_u143
                      have T110 := gF_160_23 V_u143
                      exact ok_rIR V_u143 (by omega) (by omega) ⟨N_u143, by omega⟩
                    · intro C89
                      refine ok_if ?_ ?_
                      · intro C110
                        refine ok_cIR (vf_X13_add hn (by omega) (by omega) (by omega) (by omega) (by omega) (by omega) V_u71 (by omega)) ?_; intro u146 E_u146 V_u146 a_u146 b_u146 R_u146
                        have N_u146_2 : EK_ u146.2 := ek_fr V_u71 N_u71_2 (fun c k z => (ff_X13_add nn) _ E_u146 c k z) rfl
                        have T112 : u146.2 160 8 = u71.2 160 8 := (ff_X13_add nn) _ E_u146 160 8 rfl
                        have T113 : u146.2 160 23 = u71.2 160 23 := (ff_X13_add nn) _ E_u146 160 23 rfl
                        have T114 : u146.2 160 9 = u71.2 160 9 := (ff_X13_add nn) _ E_u146 160 9 rfl
                        have T115 := gF_160_22 V_u146
                        refine ok_add (by omega) ?_; intro v148 e_v148
                        refine ok_xl ?_; intro h149 E_h149; have V_h149 : VS_ h149 := by rw [E_h149]; exact wF_160_23 V_u146 (by omega)
                        have N_h149 : EK_ h149 := by rw [E_h149]; exact ek_up V_u146 N_u146_2 rfl
                        have T116 : h149 160 8 = u146.2 160 8 := by rw [E_h149]; exact up_n (by decide)
                        have T117 : h149 160 9 = u146.2 160 9 := by rw [E_h149]; exact up_n (by decide)
                        have T118 : h149 160 22 = u146.2 160 22 := by rw [E_h149]; exact up_n (by decide)
                        have T119 : h149 160 23 = v148 := by rw [E_h149]; exact up_s
                        refine ok_add (by omega) ?_; intro v151 e_v151
                        refine ok_cIR (hg.1 (by omega) (by omega) V_h149 (by omega) (by omega) (by omega) N_h149) ?_; intro u153 E_u153 V_u153 a_u153 b_u153 R_u153
                        have N_u153_2 : EK_ u153.2 := R_u153.1
                        have T120 := gF_160_8 V_u153
                        have T121 := gF_160_9 V_u153
                        have T122 := gF_160_22 V_u153
                        have T123 := gF_160_23 V_u153
                        refine ok_wA (by omega) ?_; intro h154 E_h154; have V_h154 : VS_ h154 := by rw [E_h154]; exact wA_170 V_u153 (by omega)
                        have N_h154 : EK_ h154 := by rw [E_h154]; exact ek_ua V_u153 N_u153_2 rfl
                        have T124 : h154 160 8 = u153.2 160 8 := by rw [E_h154]; exact up_n (fun z => absurd z.1 (by decide))
                        have T125 : h154 160 9 = u153.2 160 9 := by rw [E_h154]; exact up_n (fun z => absurd z.1 (by decide))
                        have T126 : h154 160 22 = u153.2 160 22 := by rw [E_h154]; exact up_n (fun z => absurd z.1 (by decide))
                        have T127 : h154 160 23 = u153.2 160 23 := by rw [E_h154]; exact up_n (fun z => absurd z.1 (by decide))
                        refine ok_cVR (vf_X13_word hn (by omega) (by omega) V_h154 (by omega) N_h154) ?_; intro u156 E_u156 V_u156 R_u156
                        have N_u156 : EK_ u156 := ek_fr V_h154 N_h154 (fun c k z => (ff_X13_word nn) _ E_u156 c k z) rfl
                        have T128 : u156 160 8 = h154 160 8 := (ff_X13_word nn) _ E_u156 160 8 rfl
                        have T129 : u156 160 22 = h154 160 22 := (ff_X13_word nn) _ E_u156 160 22 rfl
                        have T130 := gF_160_9 V_u156
                        have T131 := gF_160_23 V_u156
                        refine ok_cVR (vf_X13_sign_ hn (by omega) (by omega) V_u156 (by omega) N_u156) ?_; intro u158 E_u158 V_u158 R_u158
                        have N_u158 : EK_ u158 := ek_fr V_u156 N_u156 (fun c k z => (ff_X13_sign_ nn) _ E_u158 c k z) rfl
                        have T132 : u158 160 8 = u156 160 8 := (ff_X13_sign_ nn) _ E_u158 160 8 rfl
                        have T133 : u158 160 22 = u156 160 22 := (ff_X13_sign_ nn) _ E_u158 160 22 rfl
                        have T134 := gF_160_9 V_u158
                        have T135 := gF_160_23 V_u158
                        refine ok_cIR (vf_X13_name hn V_u158 (by omega) N_u158) ?_; intro u161 E_u161 V_u161 a_u161 b_u161 R_u161
                        have N_u161_2 : EK_ u161.2 := ek_fr V_u158 N_u158 (fun c k z => (ff_X13_name nn) _ E_u161 c k z) rfl
                        have T136 : u161.2 160 8 = u158 160 8 := (ff_X13_name nn) _ E_u161 160 8 rfl
                        have T137 : u161.2 160 22 = u158 160 22 := (ff_X13_name nn) _ E_u161 160 22 rfl
                        have T138 := gF_160_9 V_u161
                        have T139 := gF_160_23 V_u161
                        refine ok_wA (by omega) ?_; intro h162 E_h162; have V_h162 : VS_ h162 := by rw [E_h162]; exact wA_168 V_u161 (by omega)
                        have N_h162 : EK_ h162 := by rw [E_h162]; exact ek_ua V_u161 N_u161_2 rfl
                        have T140 : h162 160 8 = u161.2 160 8 := by rw [E_h162]; exact up_n (fun z => absurd z.1 (by decide))
                        have T141 : h162 160 22 = u161.2 160 22 := by rw [E_h162]; exact up_n (fun z => absurd z.1 (by decide))
                        have T142 : h162 160 9 = u161.2 160 9 := by rw [E_h162]; exact up_n (fun z => absurd z.1 (by decide))
                        have T143 : h162 160 23 = u161.2 160 23 := by rw [E_h162]; exact up_n (fun z => absurd z.1 (by decide))
                        refine ok_cIR (vf_X13_name hn V_h162 (by omega) N_h162) ?_; intro u165 E_u165 V_u165 a_u165 b_u165 R_u165
                        have N_u165_2 : EK_ u165.2 := ek_fr V_h162 N_h162 (fun c k z => (ff_X13_name nn) _ E_u165 c k z) rfl
                        have T144 : u165.2 160 8 = h162 160 8 := (ff_X13_name nn) _ E_u165 160 8 rfl
                        have T145 : u165.2 160 22 = h162 160 22 := (ff_X13_name nn) _ E_u165 160 22 rfl
                        have T146 := gF_160_9 V_u165
                        have T147 := gF_160_23 V_u165
                        refine ok_wA (by omega) ?_; intro h166 E_h166; have V_h166 : VS_ h166 := by rw [E_h166]; exact wA_176 V_u165 (by omega)
                        have N_h166 : EK_ h166 := by rw [E_h166]; exact ek_ua V_u165 N_u165_2 rfl
                        have T148 : h166 160 8 = u165.2 160 8 := by rw [E_h166]; exact up_n (fun z => absurd z.1 (by decide))
                        have T149 : h166 160 22 = u165.2 160 22 := by rw [E_h166]; exact up_n (fun z => absurd z.1 (by decide))
                        have T150 : h166 160 9 = u165.2 160 9 := by rw [E_h166]; exact up_n (fun z => absurd z.1 (by decide))
                        have T151 : h166 160 23 = u165.2 160 23 := by rw [E_h166]; exact up_n (fun z => absurd z.1 (by decide))
                        refine ok_cVR (vf_X13_sign_ hn (by omega) (by omega) V_h166 (by omega) N_h166) ?_; intro u168 E_u168 V_u168 R_u168
                        have N_u168 : EK_ u168 := ek_fr V_h166 N_h166 (fun c k z => (ff_X13_sign_ nn) _ E_u168 c k z) rfl
                        have T152 : u168 160 8 = h166 160 8 := (ff_X13_sign_ nn) _ E_u168 160 8 rfl
                        have T153 : u168 160 22 = h166 160 22 := (ff_X13_sign_ nn) _ E_u168 160 22 rfl
                        have T154 := gF_160_9 V_u168
                        have T155 := gF_160_23 V_u168
                        refine ok_add (by omega) ?_; intro v170 e_v170
                        refine ok_cIR (hg.1 (by omega) (by omega) V_u168 (by omega) (by omega) (by omega) N_u168) ?_; intro u172 E_u172 V_u172 a_u172 b_u172 R_u172
                        have N_u172_2 : EK_ u172.2 := R_u172.1
                        have T156 := gF_160_8 V_u172
                        have T157 := gF_160_9 V_u172
                        have T158 := gF_160_22 V_u172
                        have T159 := gF_160_23 V_u172
                        refine ok_wA (by omega) ?_; intro h173 E_h173; have V_h173 : VS_ h173 := by rw [E_h173]; exact wA_171 V_u172 (by omega)
                        have N_h173 : EK_ h173 := by rw [E_h173]; exact ek_ua V_u172 N_u172_2 rfl
                        have T160 : h173 160 8 = u172.2 160 8 := by rw [E_h173]; exact up_n (fun z => absurd z.1 (by decide))
                        have T161 : h173 160 9 = u172.2 160 9 := by rw [E_h173]; exact up_n (fun z => absurd z.1 (by decide))
                        have T162 : h173 160 22 = u172.2 160 22 := by rw [E_h173]; exact up_n (fun z => absurd z.1 (by decide))
                        have T163 : h173 160 23 = u172.2 160 23 := by rw [E_h173]; exact up_n (fun z => absurd z.1 (by decide))
                        exact ok_mI (vj_X13_statement_698 hn hg (by omega) (by omega) V_h173 (by omega) (by omega) (by omega) N_h173) (fun _ _ V_r R_r => ⟨R_r.1, by have := R_r.2; have := gF_160_8 V_r; have := gF_160_9 V_r; have := gF_160_22 V_r; have := gF_160_23 V_r; omega⟩)
                      · intro C110
                        refine ok_if ?_ ?_
                        · intro C163
                          refine ok_cIR (vf_X13_add hn (by omega) (by omega) (by omega) (by omega) (by omega) (by omega) V_u71 (by omega)) ?_; intro u176 E_u176 V_u176 a_u176 b_u176 R_u176
                          have N_u176_2 : EK_ u176.2 := ek_fr V_u71 N_u71_2 (fun c k z => (ff_X13_add nn) _ E_u176 c k z) rfl
                          have T165 : u176.2 160 8 = u71.2 160 8 := (ff_X13_add nn) _ E_u176 160 8 rfl
                          have T166 : u176.2 160 23 = u71.2 160 23 := (ff_X13_add nn) _ E_u176 160 23 rfl
                          have T167 : u176.2 160 9 = u71.2 160 9 := (ff_X13_add nn) _ E_u176 160 9 rfl
                          have T168 := gF_160_22 V_u176
                          refine ok_add (by omega) ?_; intro v178 e_v178
                          refine ok_xl ?_; intro h179 E_h179; have V_h179 : VS_ h179 := by rw [E_h179]; exact wF_160_23 V_u176 (by omega)
                          have N_h179 : EK_ h179 := by rw [E_h179]; exact ek_up V_u176 N_u176_2 rfl
                          have T169 : h179 160 8 = u176.2 160 8 := by rw [E_h179]; exact up_n (by decide)
                          have T170 : h179 160 9 = u176.2 160 9 := by rw [E_h179]; exact up_n (by decide)
                          have T171 : h179 160 22 = u176.2 160 22 := by rw [E_h179]; exact up_n (by decide)
                          have T172 : h179 160 23 = v178 := by rw [E_h179]; exact up_s
                          refine ok_cVR (vf_X13_sign_ hn (by omega) (by omega) V_h179 (by omega) N_h179) ?_; intro u181 E_u181 V_u181 R_u181
                          have N_u181 : EK_ u181 := ek_fr V_h179 N_h179 (fun c k z => (ff_X13_sign_ nn) _ E_u181 c k z) rfl
                          have T173 : u181 160 8 = h179 160 8 := (ff_X13_sign_ nn) _ E_u181 160 8 rfl
                          have T174 : u181 160 22 = h179 160 22 := (ff_X13_sign_ nn) _ E_u181 160 22 rfl
                          have T175 := gF_160_9 V_u181
                          have T176 := gF_160_23 V_u181
                          refine ok_cP (vf_X13_isWord hn (by omega) (by omega) (by omega) (by omega) V_u181) ?_; intro u185 e_u185 a_u185 b_u185
                          have T177 := lm_ek_isWord N_u181 (by omega) e_u185
                          refine ok_if ?_ ?_
                          · intro C177
                            exact ok_mI (vj_X13_statement_431 hn hg (by omega) (by omega) (by omega) (by omega) (by omega) (by omega) V_u181 (by omega) (by omega) (by omega) (by omega) (by omega) N_u181) (fun _ _ V_r R_r => ⟨R_r.1, by have := R_r.2; have := gF_160_8 V_r; have := gF_160_9 V_r; have := gF_160_22 V_r; have := gF_160_23 V_r; omega⟩)
                          · intro C177
                            refine ok_add (by omega) ?_; intro v187 e_v187
                            refine ok_cP (vf_X13_isSign hn (by omega) (by omega) (by omega) (by omega) V_u181) ?_; intro u189 e_u189 a_u189 b_u189
                            have T179 := lm_ek_isSign N_u181 (by omega) e_u189
                            refine ok_if ?_ ?_
                            · intro C179
                              exact ok_mI (vj_X13_statement_431 hn hg (by omega) (by omega) (by omega) (by omega) (by omega) (by omega) V_u181 (by omega) (by omega) (by omega) (by omega) (by omega) N_u181) (fun _ _ V_r R_r => ⟨R_r.1, by have := R_r.2; have := gF_160_8 V_r; have := gF_160_9 V_r; have := gF_160_22 V_r; have := gF_160_23 V_r; omega⟩)
                            · intro C179
                              exact ok_mI (vj_X13_statement_432 hn hg (by omega) (by omega) (by omega) (by omega) (by omega) (by omega) (by omega) (by omega) V_u181 (by omega) (by omega) (by omega) (by omega) (by omega) N_u181) (fun _ _ V_r R_r => ⟨R_r.1, by have := R_r.2; have := gF_160_8 V_r; have := gF_160_9 V_r; have := gF_160_22 V_r; have := gF_160_23 V_r; omega⟩)
                        · intro C163
                          exact ok_mI (vj_X13_statement_755 hn hg (by omega) (by omega) V_u71 (by omega) (by omega) (by omega) N_u71_2) (fun _ _ V_r R_r => ⟨R_r.1, by have := R_r.2; have := gF_160_8 V_r; have := gF_160_9 V_r; have := gF_160_22 V_r; have := gF_160_23 V_r; omega⟩)
        · intro C13
          refine ok_cIR (vf_X13_plain hn (by omega) (by omega) V_u71 (by omega) (by omega) N_u71_2) ?_; intro u193 E_u193 V_u193 a_u193 b_u193 R_u193
          have N_u193_2 : EK_ u193.2 := ek_fr V_u71 N_u71_2 (fun c k z => (ff_X13_plain nn) _ E_u193 c k z) rfl
          have T181 : u193.2 160 8 = u71.2 160 8 := (ff_X13_plain nn) _ E_u193 160 8 rfl
          have T182 := gF_160_9 V_u193
          have T183 := gF_160_22 V_u193
          have T184 := gF_160_23 V_u193
          exact ok_rIR V_u193 (by omega) (by omega) ⟨N_u193_2, by omega⟩
      · intro C11
        refine ok_cVR (vf_X13_type hn V_u71 (by omega) N_u71_2) ?_; intro u196 E_u196 V_u196 R_u196
        have N_u196 : EK_ u196 := ek_fr V_u71 N_u71_2 (fun c k z => (ff_X13_type nn) _ E_u196 c k z) rfl
        have T185 : u196 160 8 = u71.2 160 8 := (ff_X13_type nn) _ E_u196 160 8 rfl
        have T186 : u196 160 22 = u71.2 160 22 := (ff_X13_type nn) _ E_u196 160 22 rfl
        have T187 := gF_160_9 V_u196
        have T188 := gF_160_23 V_u196
        refine ok_cIR (vf_X13_add hn (by omega) (by omega) (by omega) (by omega) (by omega) (by omega) V_u196 (by omega)) ?_; intro u198 E_u198 V_u198 a_u198 b_u198 R_u198
        have N_u198_2 : EK_ u198.2 := ek_fr V_u196 N_u196 (fun c k z => (ff_X13_add nn) _ E_u198 c k z) rfl
        have T189 : u198.2 160 8 = u196 160 8 := (ff_X13_add nn) _ E_u198 160 8 rfl
        have T190 : u198.2 160 9 = u196 160 9 := (ff_X13_add nn) _ E_u198 160 9 rfl
        have T191 : u198.2 160 23 = u196 160 23 := (ff_X13_add nn) _ E_u198 160 23 rfl
        have T192 := gF_160_22 V_u198
        have T193 := gF_160_46 V_u198
        refine ok_mul (by omega) ?_; intro v201 e_v201
        have T194 := gF_160_47 V_u198
        refine ok_if ?_ ?_
        · intro C194
          exact ok_mI (vj_X13_statement_78 hn hg (by omega) (by omega) (by omega) (by omega) (by omega) (by omega) (by omega) (by omega) (by omega) (by omega) V_u198 (by omega) (by omega) (by omega) (by omega) N_u198_2) (fun _ _ V_r R_r => ⟨R_r.1, by have := R_r.2; have := gF_160_8 V_r; have := gF_160_9 V_r; have := gF_160_22 V_r; have := gF_160_23 V_r; omega⟩)
        · intro C194
          exact ok_mI (vj_X13_statement_78 hn hg (by omega) (by omega) (by omega) (by omega) (by omega) (by omega) (by omega) (by omega) (by omega) (by omega) V_u198 (by omega) (by omega) (by omega) (by omega) N_u198_2) (fun _ _ V_r R_r => ⟨R_r.1, by have := R_r.2; have := gF_160_8 V_r; have := gF_160_9 V_r; have := gF_160_22 V_r; have := gF_160_23 V_r; omega⟩)
    · intro C10
      refine ok_add (by omega) ?_; intro v205 e_v205
      refine ok_cIR (hg.1 (by omega) (by omega) V_u71 (by omega) (by omega) (by omega) N_u71_2) ?_; intro u207 E_u207 V_u207 a_u207 b_u207 R_u207
      have N_u207_2 : EK_ u207.2 := R_u207.1
      have T196 := gF_160_8 V_u207
      have T197 := gF_160_9 V_u207
      have T198 := gF_160_22 V_u207
      have T199 := gF_160_23 V_u207
      exact ok_rIR V_u207 (by omega) (by omega) ⟨N_u207_2, by omega⟩
  · intro C8
    exact ok_rIR V_u71 (by omega) (by omega) ⟨N_u71_2, by omega⟩
set_option maxRecDepth 4000 in
theorem vg_X13_block {nn : Nat} (hn : 1000000 ≤ nn) : ∀ g : Nat, GH_X13_block (g : Int) (qg_X13_block nn g) := by
  intro g
  induction g with
  | zero => exact ⟨by intros; exfalso; omega, by intros; exfalso; omega⟩
  | succ g ih =>
    refine ⟨?_, ?_⟩
    · intro a1 h a_a1 b_a1 V_h x_0 x_1 x_2 N_h; exact vo_X13_block hn ih a_a1 b_a1 V_h (by omega) (by omega) (by omega) N_h
    · intro a1 h a_a1 b_a1 V_h x_0 x_1 x_2 N_h; exact vo_X13_statement hn ih a_a1 b_a1 V_h (by omega) (by omega) (by omega) N_h
theorem vf_X13_block {nn : Nat} (hn : 1000000 ≤ nn) {a1 : Int} {h : ms_M} (a_a1 : 0 ≤ a1) (b_a1 : a1 ≤ 40) (V_h : VS_ h) (x_1 : h 160 23 + 1 ≤ h 160 8) (x_2 : h 160 22 ≤ 2 * h 160 23 + 40) (xg : 2 * (40 - a1) + 2 ≤ 160) (N_h : EK_ h) : Ok_ (qf_X13_block nn a1 h) (QIR_ (-1) 8999 (fun u r => (EK_ r) ∧ (r 160 8 = h 160 8) ∧ (h 160 9 = 0 ∨ ¬ r 160 9 = 0) ∧ (h 160 23 ≤ r 160 23) ∧ (r 160 23 + 1 ≤ h 160 8) ∧ (h 160 22 ≤ r 160 22) ∧ (r 160 22 + 2 * h 160 23 ≤ h 160 22 + 2 * r 160 23 + 1) ∧ (¬ r 160 9 = 0 ∨ (0 ≤ u ∧ u < r 160 22 ∧ h 160 23 + 1 ≤ r 160 23 ∧ r 160 22 + 2 * h 160 23 ≤ h 160 22 + 2 * r 160 23 + 0)))) := by
  unfold qf_X13_block
  exact (vg_X13_block hn 160).1 a_a1 b_a1 V_h (by omega) (by omega) (by omega) N_h
