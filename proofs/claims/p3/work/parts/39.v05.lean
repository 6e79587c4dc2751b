set_option maxRecDepth 4000 in
theorem vf_X10_beginMethod {nn : Nat} (hn : 1000000 ≤ nn) {a1 : Int} {a2 : Int} {h : ms_M} (a_a1 : 8 ≤ a1) (b_a1 : a1 ≤ 15) (a_a2 : 0 ≤ a2) (b_a2 : a2 ≤ 1) (V_h : VS_ h)  : Ok_ (qf_X10_beginMethod nn a1 a2 h) (QVR_ (fun r => (r 49 10 = 0))) := by
  unfold qf_X10_beginMethod
  have T1 := gF_49_10 V_h
  refine ok_xl ?_; intro h1 E_h1; have V_h1 : VS_ h1 := by rw [E_h1]; exact wF_49_16 V_h (by omega)
  have T2 : h1 49 10 = h 49 10 := by rw [E_h1]; exact up_n (by decide)
  refine ok_ck (by omega) ?_
  refine ok_xl ?_; intro h3 E_h3; have V_h3 : VS_ h3 := by rw [E_h3]; exact wF_49_17 V_h1 (by omega)
  have T3 : h3 49 10 = h1 49 10 := by rw [E_h3]; exact up_n (by decide)
  refine ok_xl ?_; intro h4 E_h4; have V_h4 : VS_ h4 := by rw [E_h4]; exact wF_49_18 V_h3 (by omega)
  have T4 : h4 49 10 = h3 49 10 := by rw [E_h4]; exact up_n (by decide)
  refine ok_xl ?_; intro h5 E_h5; have V_h5 : VS_ h5 := by rw [E_h5]; exact wF_49_10 V_h4 (by omega)
  have T5 : h5 49 10 = 0 := by rw [E_h5]; exact up_s
  exact ok_rVR V_h5 (by omega)
set_option maxRecDepth 4000 in
theorem vf_X1_beginMethod {nn : Nat} (hn : 1000000 ≤ nn) {h : ms_M} (V_h : VS_ h)  : Ok_ (qf_X1_beginMethod nn h) (QVR_ (fun r => (r 34 1 = 0 ∧ r 34 3 = 0 ∧ r 34 7 = 0))) := by
  unfold qf_X1_beginMethod
  have T1 := gF_34_1 V_h
  have T2 := gF_34_3 V_h
  have T3 := gF_34_7 V_h
  refine ok_xl ?_; intro h1 E_h1; have V_h1 : VS_ h1 := by rw [E_h1]; exact wF_34_1 V_h (by omega)
  have T4 : h1 34 3 = h 34 3 := by rw [E_h1]; exact up_n (by decide)
  have T5 : h1 34 7 = h 34 7 := by rw [E_h1]; exact up_n (by decide)
  have T6 : h1 34 1 = 0 := by rw [E_h1]; exact up_s
  refine ok_xl ?_; intro h2 E_h2; have V_h2 : VS_ h2 := by rw [E_h2]; exact wF_34_3 V_h1 (by omega)
  have T7 : h2 34 7 = h1 34 7 := by rw [E_h2]; exact up_n (by decide)
  have T8 : h2 34 1 = h1 34 1 := by rw [E_h2]; exact up_n (by decide)
  have T9 : h2 34 3 = 0 := by rw [E_h2]; exact up_s
  refine ok_xl ?_; intro h3 E_h3; have V_h3 : VS_ h3 := by rw [E_h3]; exact wF_34_4 V_h2 (by omega)
  have T10 : h3 34 7 = h2 34 7 := by rw [E_h3]; exact up_n (by decide)
  have T11 : h3 34 1 = h2 34 1 := by rw [E_h3]; exact up_n (by decide)
  have T12 : h3 34 3 = h2 34 3 := by rw [E_h3]; exact up_n (by decide)
  refine ok_xl ?_; intro h4 E_h4; have V_h4 : VS_ h4 := by rw [E_h4]; exact wF_34_7 V_h3 (by omega)
  have T13 : h4 34 1 = h3 34 1 := by rw [E_h4]; exact up_n (by decide)
  have T14 : h4 34 3 = h3 34 3 := by rw [E_h4]; exact up_n (by decide)
  have T15 : h4 34 7 = 0 := by rw [E_h4]; exact up_s
  refine ok_xl ?_; intro h5 E_h5; have V_h5 : VS_ h5 := by rw [E_h5]; exact wF_34_8 V_h4 (by omega)
  have T16 : h5 34 1 = h4 34 1 := by rw [E_h5]; exact up_n (by decide)
  have T17 : h5 34 3 = h4 34 3 := by rw [E_h5]; exact up_n (by decide)
  have T18 : h5 34 7 = h4 34 7 := by rw [E_h5]; exact up_n (by decide)
  refine ok_xl ?_; intro h6 E_h6; have V_h6 : VS_ h6 := by rw [E_h6]; exact wF_34_10 V_h5 (by omega)
  have T19 : h6 34 1 = h5 34 1 := by rw [E_h6]; exact up_n (by decide)
  have T20 : h6 34 3 = h5 34 3 := by rw [E_h6]; exact up_n (by decide)
  have T21 : h6 34 7 = h5 34 7 := by rw [E_h6]; exact up_n (by decide)
  refine ok_xl ?_; intro h7 E_h7; have V_h7 : VS_ h7 := by rw [E_h7]; exact wF_34_14 V_h6 (by omega)
  have T22 : h7 34 1 = h6 34 1 := by rw [E_h7]; exact up_n (by decide)
  have T23 : h7 34 3 = h6 34 3 := by rw [E_h7]; exact up_n (by decide)
  have T24 : h7 34 7 = h6 34 7 := by rw [E_h7]; exact up_n (by decide)
  refine ok_xl ?_; intro h8 E_h8; have V_h8 : VS_ h8 := by rw [E_h8]; exact wF_34_15 V_h7 (by omega)
  have T25 : h8 34 1 = h7 34 1 := by rw [E_h8]; exact up_n (by decide)
  have T26 : h8 34 3 = h7 34 3 := by rw [E_h8]; exact up_n (by decide)
  have T27 : h8 34 7 = h7 34 7 := by rw [E_h8]; exact up_n (by decide)
  exact ok_rVR V_h8 (by omega)
set_option maxRecDepth 4000 in
theorem vf_X1_isTooMuch {nn : Nat} (hn : 1000000 ≤ nn) {h : ms_M} (V_h : VS_ h)  : Ok_ (qf_X1_isTooMuch nn h) (QP_ 0 1) := by
  unfold qf_X1_isTooMuch
  have T1 := gF_34_15 V_h
  refine ok_if ?_ ?_
  · intro C1
    exact ok_rP (by omega) (by omega)
  · intro C1
    have T3 := gF_34_1 V_h
    refine ok_if ?_ ?_
    · intro C3
      exact ok_rP (by omega) (by omega)
    · intro C3
      have T5 := gF_34_8 V_h
      refine ok_if ?_ ?_
      · intro C5
        exact ok_rP (by omega) (by omega)
      · intro C5
        have T7 := gF_34_4 V_h
        refine ok_if ?_ ?_
        · intro C7
          exact ok_rP (by omega) (by omega)
        · intro C7
          exact ok_rP (by omega) (by omega)
set_option maxRecDepth 4000 in
theorem vw_X1_writeTypes_3 {nn : Nat} (hn : 1000000 ≤ nn) : ∀ (k : Nat) {l2 : Int} {l3 : Int} {l4 : Int} {h : ms_M} (a_l2 : 1 ≤ l2) (b_l2 : l2 ≤ 5591) (a_l3 : (-1) ≤ l3) (b_l3 : l3 ≤ 441) (a_l4 : 1 ≤ l4) (b_l4 : l4 ≤ 5591) (V_h : VS_ h) (x_0 : h 45 7 ≤ 900000000 + 2 * l4)  (hm : 5592 - l4 < (k : Int)), Ok_ (qw_X1_writeTypes_3 nn k l2 l3 l4 h) (QVR_ (fun r => (r 45 7 ≤ h 45 7 + 2 * (5600 - l4)))) := by
  intro k
  induction k with
  | zero => intros; exfalso; omega
  | succ k ih =>
    intro l2 l3 l4 h a_l2 b_l2 a_l3 b_l3 a_l4 b_l4 V_h x_0 hm
    unfold qw_X1_writeTypes_3
    have T1 := gF_45_7 V_h
    refine ok_add (by omega) ?_; intro v1 e_v1
    refine ok_if ?_ ?_
    · intro C1
      exact ok_rVR V_h (by omega)
    · intro C1
      refine ok_if ?_ ?_
      · intro C2
        exact ok_rVR V_h (by omega)
      · intro C2
        refine ok_rd (by omega) (gA_41 V_h) ?_; intro v5 e_v5 a_v5 b_v5
        refine ok_cP (vf_X4_isNumber hn (by omega) (by omega) V_h) ?_; intro u6 e_u6 a_u6 b_u6
        refine ok_if ?_ ?_
        · intro C3
          refine ok_if ?_ ?_
          · intro C4
            refine ok_cVR (vf_X6_put hn (by omega) (by omega) V_h (by omega)) ?_; intro u8 E_u8 V_u8 R_u8
            have T6 := gF_45_7 V_u8
            refine ok_cI (vf_X6_classOf hn (by omega) (by omega) V_u8) ?_; intro u10 E_u10 V_u10 a_u10 b_u10
            have T7 : u10.2 45 7 = u8 45 7 := (ff_X6_classOf nn) _ E_u10 45 7 rfl
            refine ok_cVR (vf_X6_put hn (by omega) (by omega) V_u10 (by omega)) ?_; intro u12 E_u12 V_u12 R_u12
            have T8 := gF_45_7 V_u12
            refine ok_add (by omega) ?_; intro v13 e_v13
            exact ok_mV (ih (by omega) (by omega) (by omega) (by omega) (by omega) (by omega) V_u12 (by omega) (by omega)) (fun _ V_r R_r => by have := gF_45_7 V_r; omega)
          · intro C4
            refine ok_cVR (vf_X6_put hn (by omega) (by omega) V_h (by omega)) ?_; intro u15 E_u15 V_u15 R_u15
            have T9 := gF_45_7 V_u15
            refine ok_add (by omega) ?_; intro v16 e_v16
            exact ok_mV (ih (by omega) (by omega) (by omega) (by omega) (by omega) (by omega) V_u15 (by omega) (by omega)) (fun _ V_r R_r => by have := gF_45_7 V_r; omega)
        · intro C3
          refine ok_cVR (vf_X6_put hn (by omega) (by omega) V_h (by omega)) ?_; intro u19 E_u19 V_u19 R_u19
          have T10 := gF_45_7 V_u19
          refine ok_add (by omega) ?_; intro v20 e_v20
          exact ok_mV (ih (by omega) (by omega) (by omega) (by omega) (by omega) (by omega) V_u19 (by omega) (by omega)) (fun _ V_r R_r => by have := gF_45_7 V_r; omega)
set_option maxRecDepth 4000 in
theorem vf_X1_writeTypes {nn : Nat} (hn : 1000000 ≤ nn) {a2 : Int} {a3 : Int} {h : ms_M} (a_a2 : 1 ≤ a2) (b_a2 : a2 ≤ 5591) (a_a3 : (-1) ≤ a3) (b_a3 : a3 ≤ 441) (V_h : VS_ h) (x_0 : h 45 7 ≤ 900000000)  : Ok_ (qf_X1_writeTypes nn a2 a3 h) (QVR_ (fun r => (r 45 7 ≤ h 45 7 + 11200))) := by
  unfold qf_X1_writeTypes
  have T1 := gF_45_7 V_h
  exact ok_mV (vw_X1_writeTypes_3 hn _ (by omega) (by omega) (by omega) (by omega) (by omega) (by omega) V_h (by omega) (by omega)) (fun _ V_r R_r => by have := gF_45_7 V_r; omega)
set_option maxRecDepth 4000 in
theorem vf_X6_putPair {nn : Nat} (hn : 1000000 ≤ nn) {a1 : Int} {h : ms_M} (a_a1 : (-1) ≤ a1) (b_a1 : a1 ≤ 1600000000) (V_h : VS_ h) (x_0 : h 45 7 ≤ 980000000)  : Ok_ (qf_X6_putPair nn a1 h) (QVR_ (fun r => (r 45 7 ≤ h 45 7 + 2))) := by
  unfold qf_X6_putPair
  have T1 := gF_45_7 V_h
  refine ok_i32 ?_; intro v1 a_v1 b_v1
  refine ok_cVR (vf_X6_put hn (by omega) (by omega) V_h (by omega)) ?_; intro u3 E_u3 V_u3 R_u3
  have T2 := gF_45_7 V_u3
  refine ok_cVR (vf_X6_put hn (by omega) (by omega) V_u3 (by omega)) ?_; intro u5 E_u5 V_u5 R_u5
  have T3 := gF_45_7 V_u5
  exact ok_rVR V_u5 (by omega)
set_option maxRecDepth 4000 in
theorem vf_X1_writeFrame {nn : Nat} (hn : 1000000 ≤ nn) {a2 : Int} {h : ms_M} (a_a2 : 0 ≤ a2) (b_a2 : a2 ≤ 99) (V_h : VS_ h) (x_0 : h 45 7 ≤ 800000000)  : Ok_ (qf_X1_writeFrame nn a2 h) (QVR_ (fun r => (r 45 7 ≤ h 45 7 + 22500))) := by
  unfold qf_X1_writeFrame
  have T1 := gF_45_7 V_h
  refine ok_mul (by omega) ?_; intro v1 e_v1
  refine ok_rd (by omega) (gA_41 V_h) ?_; intro v3 e_v3 a_v3 b_v3
  refine ok_add (by omega) ?_; intro v5 e_v5
  refine ok_rd (by omega) (gA_41 V_h) ?_; intro v6 e_v6 a_v6 b_v6
  refine ok_rd (by omega) (gA_40 V_h) ?_; intro v8 e_v8 a_v8 b_v8
  refine ok_cVR (vf_X6_putPair hn (by omega) (by omega) V_h (by omega)) ?_; intro u10 E_u10 V_u10 R_u10
  have T2 := gF_45_7 V_u10
  refine ok_cVR (vf_X6_put hn (by omega) (by omega) V_u10 (by omega)) ?_; intro u12 E_u12 V_u12 R_u12
  have T3 := gF_45_7 V_u12
  refine ok_add (by omega) ?_; intro v13 e_v13
  refine ok_cVR (vf_X1_writeTypes hn (by omega) (by omega) (by omega) (by omega) V_u12 (by omega)) ?_; intro u15 E_u15 V_u15 R_u15
  have T4 := gF_45_7 V_u15
  refine ok_cVR (vf_X6_put hn (by omega) (by omega) V_u15 (by omega)) ?_; intro u17 E_u17 V_u17 R_u17
  have T5 := gF_45_7 V_u17
  refine ok_add (by omega) ?_; intro v18 e_v18
  refine ok_add (by omega) ?_; intro v19 e_v19
  refine ok_cVR (vf_X1_writeTypes hn (by omega) (by omega) (by omega) (by omega) V_u17 (by omega)) ?_; intro u21 E_u21 V_u21 R_u21
  have T6 := gF_45_7 V_u21
  exact ok_rVR V_u21 (by omega)
set_option maxRecDepth 4000 in
theorem vw_X1_writeTo_147 {nn : Nat} (hn : 1000000 ≤ nn) : ∀ (k : Nat) {l2 : Int} {h : ms_M} (a_l2 : 0 ≤ l2) (b_l2 : l2 ≤ 100) (V_h : VS_ h) (x_0 : h 45 7 ≤ 750000000 + 22500 * l2)  (hm : 101 - l2 < (k : Int)), Ok_ (qw_X1_writeTo_147 nn k l2 h) (QVR_ (fun r => (r 45 7 ≤ h 45 7 + 22500 * (100 - l2)))) := by
  intro k
  induction k with
  | zero => intros; exfalso; omega
  | succ k ih =>
    intro l2 h a_l2 b_l2 V_h x_0 hm
    unfold qw_X1_writeTo_147
    have T1 := gF_45_7 V_h
    have T2 := gF_34_14 V_h
    refine ok_if ?_ ?_
    · intro C2
      exact ok_rVR V_h (by omega)
    · intro C2
      refine ok_rd (by omega) (gA_42 V_h) ?_; intro v3 e_v3 a_v3 b_v3
      refine ok_cVR (vf_X1_writeFrame hn (by omega) (by omega) V_h (by omega)) ?_; intro u5 E_u5 V_u5 R_u5
      have T4 := gF_45_7 V_u5
      refine ok_add (by omega) ?_; intro v6 e_v6
      exact ok_mV (ih (by omega) (by omega) V_u5 (by omega) (by omega)) (fun _ V_r R_r => by have := gF_45_7 V_r; omega)
set_option maxRecDepth 4000 in
theorem vw_X1_writeTo_69 {nn : Nat} (hn : 1000000 ≤ nn) : ∀ (k : Nat) {l2 : Int} {h : ms_M} (a_l2 : 0 ≤ l2) (b_l2 : l2 ≤ 20) (V_h : VS_ h) (x_0 : h 45 7 ≤ 740000000 + 7 * l2)  (hm : 21 - l2 < (k : Int)), Ok_ (qw_X1_writeTo_69 nn k l2 h) (QVR_ (fun r => (r 45 7 ≤ h 45 7 + 2300000 + 7 * (20 - l2)))) := by
  intro k
  induction k with
  | zero => intros; exfalso; omega
  | succ k ih =>
    intro l2 h a_l2 b_l2 V_h x_0 hm
    unfold qw_X1_writeTo_69
    have T1 := gF_45_7 V_h
    have T2 := gF_34_10 V_h
    refine ok_if ?_ ?_
    · intro C2
      have T4 := gF_34_14 V_h
      refine ok_cVR (vf_X6_put hn (by omega) (by omega) V_h (by omega)) ?_; intro u11 E_u11 V_u11 R_u11
      have T5 := gF_45_7 V_u11
      exact ok_mV (vw_X1_writeTo_147 hn _ (by omega) (by omega) V_u11 (by omega) (by omega)) (fun _ V_r R_r => by have := gF_45_7 V_r; omega)
    · intro C2
      refine ok_mul (by omega) ?_; intro v12 e_v12
      refine ok_rd (by omega) (gA_39 V_h) ?_; intro v14 e_v14 a_v14 b_v14
      refine ok_cVR (vf_X6_putPair hn (by omega) (by omega) V_h (by omega)) ?_; intro u16 E_u16 V_u16 R_u16
      have T6 := gF_45_7 V_u16
      refine ok_add (by omega) ?_; intro v18 e_v18
      refine ok_rd (by omega) (gA_39 V_u16) ?_; intro v19 e_v19 a_v19 b_v19
      refine ok_cVR (vf_X6_putPair hn (by omega) (by omega) V_u16 (by omega)) ?_; intro u21 E_u21 V_u21 R_u21
      have T7 := gF_45_7 V_u21
      refine ok_add (by omega) ?_; intro v23 e_v23
      refine ok_rd (by omega) (gA_39 V_u21) ?_; intro v24 e_v24 a_v24 b_v24
      refine ok_cVR (vf_X6_putPair hn (by omega) (by omega) V_u21 (by omega)) ?_; intro u26 E_u26 V_u26 R_u26
      have T8 := gF_45_7 V_u26
      refine ok_add (by omega) ?_; intro v28 e_v28
      refine ok_rd (by omega) (gA_39 V_u26) ?_; intro v29 e_v29 a_v29 b_v29
      refine ok_cI (vf_X6_classOf hn (by omega) (by omega) V_u26) ?_; intro u31 E_u31 V_u31 a_u31 b_u31
      have T9 : u31.2 45 7 = u26 45 7 := (ff_X6_classOf nn) _ E_u31 45 7 rfl
      refine ok_cVR (vf_X6_put hn (by omega) (by omega) V_u31 (by omega)) ?_; intro u33 E_u33 V_u33 R_u33
      have T10 := gF_45_7 V_u33
      refine ok_add (by omega) ?_; intro v34 e_v34
      exact ok_mV (ih (by omega) (by omega) V_u33 (by omega) (by omega)) (fun _ V_r R_r => by have := gF_45_7 V_r; omega)
set_option maxRecDepth 4000 in
theorem vj_X1_writeTo_59 {nn : Nat} (hn : 1000000 ≤ nn) {h : ms_M} (V_h : VS_ h) (x_0 : h 45 7 ≤ 739000000)  : Ok_ (qj_X1_writeTo_59 nn h) (QVR_ (fun r => (r 45 7 ≤ h 45 7 + 2301000))) := by
  unfold qj_X1_writeTo_59
  have T1 := gF_45_7 V_h
  have T2 := gF_34_10 V_h
  refine ok_cVR (vf_X6_put hn (by omega) (by omega) V_h (by omega)) ?_; intro u38 E_u38 V_u38 R_u38
  have T3 := gF_45_7 V_u38
  exact ok_mV (vw_X1_writeTo_69 hn _ (by omega) (by omega) V_u38 (by omega) (by omega)) (fun _ V_r R_r => by have := gF_45_7 V_r; omega)
set_option maxRecDepth 4000 in
theorem vw_X1_writeTo_26 {nn : Nat} (hn : 1000000 ≤ nn) : ∀ (k : Nat) {l2 : Int} {h : ms_M} (a_l2 : 0 ≤ l2) (b_l2 : l2 ≤ 1500) (V_h : VS_ h) (x_0 : h 45 7 ≤ 720000000 + l2)  (hm : 1501 - l2 < (k : Int)), Ok_ (qw_X1_writeTo_26 nn k l2 h) (QVR_ (fun r => (r 45 7 ≤ h 45 7 + 2302000 + (1500 - l2)))) := by
  intro k
  induction k with
  | zero => intros; exfalso; omega
  | succ k ih =>
    intro l2 h a_l2 b_l2 V_h x_0 hm
    unfold qw_X1_writeTo_26
    have T1 := gF_45_7 V_h
    have T2 := gF_34_1 V_h
    refine ok_if ?_ ?_
    · intro C2
      exact ok_mV (vj_X1_writeTo_59 hn V_h (by omega)) (fun _ V_r R_r => by have := gF_45_7 V_r; omega)
    · intro C2
      refine ok_if ?_ ?_
      · intro C3
        exact ok_mV (vj_X1_writeTo_59 hn V_h (by omega)) (fun _ V_r R_r => by have := gF_45_7 V_r; omega)
      · intro C3
        refine ok_rd (by omega) (gA_35 V_h) ?_; intro v43 e_v43 a_v43 b_v43
        refine ok_cVR (vf_X6_put hn (by omega) (by omega) V_h (by omega)) ?_; intro u45 E_u45 V_u45 R_u45
        have T5 := gF_45_7 V_u45
        refine ok_add (by omega) ?_; intro v46 e_v46
        exact ok_mV (ih (by omega) (by omega) V_u45 (by omega) (by omega)) (fun _ V_r R_r => by have := gF_45_7 V_r; omega)
set_option maxRecDepth 4000 in
theorem vf_X1_writeTo {nn : Nat} (hn : 1000000 ≤ nn) {h : ms_M} (V_h : VS_ h) (x_0 : h 45 7 ≤ 700000000)  : Ok_ (qf_X1_writeTo nn h) (QVR_ (fun r => (r 45 7 ≤ h 45 7 + 3000000))) := by
  unfold qf_X1_writeTo
  have T1 := gF_45_7 V_h
  have T2 := gF_34_4 V_h
  refine ok_cVR (vf_X6_put hn (by omega) (by omega) V_h (by omega)) ?_; intro u51 E_u51 V_u51 R_u51
  have T3 := gF_45_7 V_u51
  have T4 := gF_34_8 V_u51
  refine ok_cVR (vf_X6_put hn (by omega) (by omega) V_u51 (by omega)) ?_; intro u54 E_u54 V_u54 R_u54
  have T5 := gF_45_7 V_u54
  have T6 := gF_34_1 V_u54
  refine ok_cVR (vf_X6_putPair hn (by omega) (by omega) V_u54 (by omega)) ?_; intro u57 E_u57 V_u57 R_u57
  have T7 := gF_45_7 V_u57
  exact ok_mV (vw_X1_writeTo_26 hn _ (by omega) (by omega) V_u57 (by omega) (by omega)) (fun _ V_r R_r => by have := gF_45_7 V_r; omega)
set_option maxRecDepth 4000 in
theorem vf_X2_bodyOf {nn : Nat} (hn : 1000000 ≤ nn) {a1 : Int} {h : ms_M} (a_a1 : 0 ≤ a1) (b_a1 : a1 ≤ 95) (V_h : VS_ h)  : Ok_ (qf_X2_bodyOf nn a1 h) (QP_ (-1) 21000000) := by
  unfold qf_X2_bodyOf
  refine ok_cP (vf_X2_isMethod hn (by omega) (by omega) V_h) ?_; intro u2 e_u2 a_u2 b_u2
  have T1 := pr_X2_isMethod e_u2
  refine ok_if ?_ ?_
  · intro C1
    exact ok_rP (by omega) (by omega)
  · intro C1
    refine ok_rd (by omega) (gA_23 V_h) ?_; intro v4 e_v4 a_v4 b_v4
    exact ok_rP (by omega) (by omega)
set_option maxRecDepth 4000 in
theorem vf_X2_parameterName {nn : Nat} (hn : 1000000 ≤ nn) {a1 : Int} {a2 : Int} {h : ms_M} (a_a1 : 0 ≤ a1) (b_a1 : a1 ≤ 95) (a_a2 : 0 ≤ a2) (b_a2 : a2 ≤ 5) (V_h : VS_ h)  : Ok_ (qf_X2_parameterName nn a1 a2 h) (QP_ (-1) 2147483647) := by
  unfold qf_X2_parameterName
  refine ok_if ?_ ?_
  · intro C0
    exfalso; omega
  · intro C0
    refine ok_cP (vf_X2_parametersOf hn (by omega) (by omega) V_h) ?_; intro u2 e_u2 a_u2 b_u2
    have T2 := pr_X2_parametersOf e_u2
    refine ok_if ?_ ?_
    · intro C2
      exact ok_rP (by omega) (by omega)
    · intro C2
      refine ok_mul (by omega) ?_; intro v4 e_v4
      refine ok_add (by omega) ?_; intro v5 e_v5
      refine ok_rd (by omega) (gA_28 V_h) ?_; intro v6 e_v6 a_v6 b_v6
      exact ok_rP (by omega) (by omega)
set_option maxRecDepth 4000 in
theorem vf_X2_tokenOfMethod {nn : Nat} (hn : 1000000 ≤ nn) {a1 : Int} {h : ms_M} (a_a1 : 0 ≤ a1) (b_a1 : a1 ≤ 95) (V_h : VS_ h)  : Ok_ (qf_X2_tokenOfMethod nn a1 h) (QP_ (-1) 24000000) := by
  unfold qf_X2_tokenOfMethod
  refine ok_cP (vf_X2_isMethod hn (by omega) (by omega) V_h) ?_; intro u2 e_u2 a_u2 b_u2
  have T1 := pr_X2_isMethod e_u2
  refine ok_if ?_ ?_
  · intro C1
    exact ok_rP (by omega) (by omega)
  · intro C1
    refine ok_rd (by omega) (gA_22 V_h) ?_; intro v4 e_v4 a_v4 b_v4
    exact ok_rP (by omega) (by omega)
set_option maxRecDepth 4000 in
theorem vj_X6_beginMethod_17 {nn : Nat} (hn : 1000000 ≤ nn) {l1 : Int} {s0 : Int} {h : ms_M} (a_l1 : 0 ≤ l1) (b_l1 : l1 ≤ 95) (a_s0 : 0 ≤ s0) (b_s0 : s0 ≤ 1) (V_h : VS_ h) (x_0 : h 45 7 ≤ 970000000)  : Ok_ (qj_X6_beginMethod_17 nn l1 s0 h) (QVR_ (fun r => (r 45 7 ≤ h 45 7 + 3))) := by
  unfold qj_X6_beginMethod_17
  have T1 := gF_45_7 V_h
  refine ok_cVR (vf_X6_put hn (by omega) (by omega) V_h (by omega)) ?_; intro u2 E_u2 V_u2 R_u2
  have T2 := gF_45_7 V_u2
  refine ok_cP (vf_X2_nameOfMethod hn (by omega) (by omega) V_u2) ?_; intro u5 e_u5 a_u5 b_u5
  refine ok_cI (vf_X6_constant hn (by omega) (by omega) (by omega) (by omega) V_u2) ?_; intro u7 E_u7 V_u7 a_u7 b_u7
  have T3 : u7.2 45 7 = u2 45 7 := (ff_X6_constant nn) _ E_u7 45 7 rfl
  refine ok_cVR (vf_X6_put hn (by omega) (by omega) V_u7 (by omega)) ?_; intro u9 E_u9 V_u9 R_u9
  have T4 := gF_45_7 V_u9
  refine ok_cP (vf_X2_kindOfMethod hn (by omega) (by omega) V_u9) ?_; intro u12 e_u12 a_u12 b_u12
  refine ok_cI (vf_X6_constant hn (by omega) (by omega) (by omega) (by omega) V_u9) ?_; intro u14 E_u14 V_u14 a_u14 b_u14
  have T5 : u14.2 45 7 = u9 45 7 := (ff_X6_constant nn) _ E_u14 45 7 rfl
  refine ok_cVR (vf_X6_put hn (by omega) (by omega) V_u14 (by omega)) ?_; intro u16 E_u16 V_u16 R_u16
  have T6 := gF_45_7 V_u16
  exact ok_rVR V_u16 (by omega)
set_option maxRecDepth 4000 in
theorem vf_X6_beginMethod {nn : Nat} (hn : 1000000 ≤ nn) {a1 : Int} {h : ms_M} (a_a1 : 0 ≤ a1) (b_a1 : a1 ≤ 95) (V_h : VS_ h) (x_0 : h 45 7 ≤ 970000000)  : Ok_ (qf_X6_beginMethod nn a1 h) (QVR_ (fun r => (r 45 7 ≤ h 45 7 + 3))) := by
  unfold qf_X6_beginMethod
  have T1 := gF_45_7 V_h
  refine ok_cP (vf_X2_isFixed hn (by omega) (by omega) V_h) ?_; intro u19 e_u19 a_u19 b_u19
  refine ok_if ?_ ?_
  · intro C1
    exact ok_mV (vj_X6_beginMethod_17 hn (by omega) (by omega) (by omega) (by omega) V_h (by omega)) (fun _ V_r R_r => by have := gF_45_7 V_r; omega)
  · intro C1
    exact ok_mV (vj_X6_beginMethod_17 hn (by omega) (by omega) (by omega) (by omega) V_h (by omega)) (fun _ V_r R_r => by have := gF_45_7 V_r; omega)
set_option maxRecDepth 4000 in
theorem vj_X0_makeMethod_199 {nn : Nat} (hn : 1000000 ≤ nn) {l3 : Int} {h : ms_M} (a_l3 : 0 ≤ l3) (b_l3 : l3 ≤ 95) (V_h : VS_ h) (x_0 : h 45 7 ≤ 600000000)  : Ok_ (qj_X0_makeMethod_199 nn l3 h) (QVR_ (fun r => (r 45 7 ≤ h 45 7 + 3000000))) := by
  unfold qj_X0_makeMethod_199
  have T1 := gF_34_1 V_h
  have T2 := gF_34_3 V_h
  have T3 := gF_34_7 V_h
  have T4 := gF_45_7 V_h
  have T5 := gF_49_10 V_h
  refine ok_cVR (vf_X1_writeTo hn V_h (by omega)) ?_; intro u4 E_u4 V_u4 R_u4
  have T6 : u4 34 1 = h 34 1 := (ff_X1_writeTo nn) _ E_u4 34 1 rfl
  have T7 : u4 34 3 = h 34 3 := (ff_X1_writeTo nn) _ E_u4 34 3 rfl
  have T8 : u4 34 7 = h 34 7 := (ff_X1_writeTo nn) _ E_u4 34 7 rfl
  have T9 : u4 49 10 = h 49 10 := (ff_X1_writeTo nn) _ E_u4 49 10 rfl
  have T10 := gF_45_7 V_u4
  refine ok_cP (vf_X1_isTooMuch hn V_u4) ?_; intro u7 e_u7 a_u7 b_u7
  refine ok_cP (vf_X2_tokenOfMethod hn (by omega) (by omega) V_u4) ?_; intro u10 e_u10 a_u10 b_u10
  refine ok_cV (vf_X0_noteMuch hn (by omega) (by omega) (by omega) (by omega) V_u4) ?_; intro u12 E_u12 V_u12
  have T11 : u12 34 1 = u4 34 1 := (ff_X0_noteMuch nn) _ E_u12 34 1 rfl
  have T12 : u12 34 3 = u4 34 3 := (ff_X0_noteMuch nn) _ E_u12 34 3 rfl
  have T13 : u12 34 7 = u4 34 7 := (ff_X0_noteMuch nn) _ E_u12 34 7 rfl
  have T14 : u12 49 10 = u4 49 10 := (ff_X0_noteMuch nn) _ E_u12 49 10 rfl
  have T15 : u12 45 7 = u4 45 7 := (ff_X0_noteMuch nn) _ E_u12 45 7 rfl
  exact ok_rVR V_u12 (by omega)
set_option maxRecDepth 4000 in
theorem vj_X0_makeMethod_189 {nn : Nat} (hn : 1000000 ≤ nn) {l3 : Int} {h : ms_M} (a_l3 : 0 ≤ l3) (b_l3 : l3 ≤ 95) (V_h : VS_ h) (x_0 : h 45 7 ≤ 600000000) (x_1 : h 34 1 + h 34 3 ≤ 1400000000)  : Ok_ (qj_X0_makeMethod_189 nn l3 h) (QVR_ (fun r => (r 45 7 ≤ h 45 7 + 3000000))) := by
  unfold qj_X0_makeMethod_189
  have T1 := gF_34_1 V_h
  have T2 := gF_34_3 V_h
  have T3 := gF_34_7 V_h
  have T4 := gF_45_7 V_h
  have T5 := gF_49_10 V_h
  refine ok_cVR (vf_X1_op hn (by omega) (by omega) V_h (by omega)) ?_; intro u15 E_u15 V_u15 R_u15
  have T6 : u15 34 3 = h 34 3 := (ff_X1_op nn) _ E_u15 34 3 rfl
  have T7 : u15 34 7 = h 34 7 := (ff_X1_op nn) _ E_u15 34 7 rfl
  have T8 : u15 45 7 = h 45 7 := (ff_X1_op nn) _ E_u15 45 7 rfl
  have T9 : u15 49 10 = h 49 10 := (ff_X1_op nn) _ E_u15 49 10 rfl
  have T10 := gF_34_1 V_u15
  exact ok_mV (vj_X0_makeMethod_199 hn (by omega) (by omega) V_u15 (by omega)) (fun _ V_r R_r => by have := gF_34_1 V_r; have := gF_34_3 V_r; have := gF_34_7 V_r; have := gF_45_7 V_r; have := gF_49_10 V_r; omega)
set_option maxRecDepth 4000 in
theorem vw_X0_makeMethod_70 {nn : Nat} (hn : 1000000 ≤ nn) : ∀ (k : Nat) {l3 : Int} {l5 : Int} {h : ms_M} (a_l3 : 0 ≤ l3) (b_l3 : l3 ≤ 95) (a_l5 : 0 ≤ l5) (b_l5 : l5 ≤ 6) (V_h : VS_ h) (x_0 : h 45 7 ≤ 600000000) (x_1 : h 34 7 ≤ 1 + l5) (x_2 : h 34 1 = 0 ∧ h 34 3 = 0 ∧ h 49 10 = 0) (x_3 : l3 % 12 < h 21 (l3 / 12).toNat)  (hm : 7 - l5 < (k : Int)), Ok_ (qw_X0_makeMethod_70 nn k l3 l5 h) (QVR_ (fun r => (r 45 7 ≤ h 45 7 + 3000000))) := by
  intro k
  induction k with
  | zero => intros; exfalso; omega
  | succ k ih =>
    intro l3 l5 h a_l3 b_l3 a_l5 b_l5 V_h x_0 x_1 x_2 x_3 hm
    unfold qw_X0_makeMethod_70
    have T1 := gF_34_1 V_h
    have T2 := gF_34_3 V_h
    have T3 := gF_34_7 V_h
    have T4 := gF_45_7 V_h
    have T5 := gF_49_10 V_h
    refine ok_cP (vf_X2_parametersOf hn (by omega) (by omega) V_h) ?_; intro u18 e_u18 a_u18 b_u18
    have T6 := pr_X2_parametersOf e_u18
    refine ok_if ?_ ?_
    · intro C6
      refine ok_cP (vf_X2_resultOf hn (by omega) (by omega) V_h) ?_; intro u21 e_u21 a_u21 b_u21
      refine ok_xl ?_; intro h22 E_h22; have V_h22 : VS_ h22 := by rw [E_h22]; exact wF_33_8 V_h (by omega)
      have T8 : h22 34 1 = h 34 1 := by rw [E_h22]; exact up_n (by decide)
      have T9 : h22 34 3 = h 34 3 := by rw [E_h22]; exact up_n (by decide)
      have T10 : h22 34 7 = h 34 7 := by rw [E_h22]; exact up_n (by decide)
      have T11 : h22 45 7 = h 45 7 := by rw [E_h22]; exact up_n (by decide)
      have T12 : h22 49 10 = h 49 10 := by rw [E_h22]; exact up_n (by decide)
      have T13 : h22 21 (l3 / 12).toNat = h 21 (l3 / 12).toNat := by rw [E_h22]; exact up_n (fun z => absurd z.1 (by decide))
      have T14 : h22 33 8 = u21 := by rw [E_h22]; exact up_s
      refine ok_xl ?_; intro h23 E_h23; have V_h23 : VS_ h23 := by rw [E_h23]; exact wF_33_9 V_h22 (by omega)
      have T15 : h23 34 1 = h22 34 1 := by rw [E_h23]; exact up_n (by decide)
      have T16 : h23 34 3 = h22 34 3 := by rw [E_h23]; exact up_n (by decide)
      have T17 : h23 34 7 = h22 34 7 := by rw [E_h23]; exact up_n (by decide)
      have T18 : h23 45 7 = h22 45 7 := by rw [E_h23]; exact up_n (by decide)
      have T19 : h23 49 10 = h22 49 10 := by rw [E_h23]; exact up_n (by decide)
      have T20 : h23 21 (l3 / 12).toNat = h22 21 (l3 / 12).toNat := by rw [E_h23]; exact up_n (fun z => absurd z.1 (by decide))
      have T21 : h23 33 8 = h22 33 8 := by rw [E_h23]; exact up_n (by decide)
      refine ok_xl ?_; intro h24 E_h24; have V_h24 : VS_ h24 := by rw [E_h24]; exact wF_33_12 V_h23 (by omega)
      have T22 : h24 34 1 = h23 34 1 := by rw [E_h24]; exact up_n (by decide)
      have T23 : h24 34 3 = h23 34 3 := by rw [E_h24]; exact up_n (by decide)
      have T24 : h24 34 7 = h23 34 7 := by rw [E_h24]; exact up_n (by decide)
      have T25 : h24 45 7 = h23 45 7 := by rw [E_h24]; exact up_n (by decide)
      have T26 : h24 49 10 = h23 49 10 := by rw [E_h24]; exact up_n (by decide)
      have T27 : h24 21 (l3 / 12).toNat = h23 21 (l3 / 12).toNat := by rw [E_h24]; exact up_n (fun z => absurd z.1 (by decide))
      have T28 : h24 33 8 = h23 33 8 := by rw [E_h24]; exact up_n (by decide)
      refine ok_cP (vf_X2_bodyOf hn (by omega) (by omega) V_h24) ?_; intro u28 e_u28 a_u28 b_u28
      have T29 := lm_X2_bodyOf V_h24 (by omega) e_u28
      refine ok_xl ?_; intro h29 E_h29; have V_h29 : VS_ h29 := by rw [E_h29]; exact wF_2_10 V_h24 (by omega)
      have T30 : h29 34 1 = h24 34 1 := by rw [E_h29]; exact up_n (by decide)
      have T31 : h29 34 3 = h24 34 3 := by rw [E_h29]; exact up_n (by decide)
      have T32 : h29 34 7 = h24 34 7 := by rw [E_h29]; exact up_n (by decide)
      have T33 : h29 45 7 = h24 45 7 := by rw [E_h29]; exact up_n (by decide)
      have T34 : h29 49 10 = h24 49 10 := by rw [E_h29]; exact up_n (by decide)
      have T35 : h29 21 (l3 / 12).toNat = h24 21 (l3 / 12).toNat := by rw [E_h29]; exact up_n (fun z => absurd z.1 (by decide))
      have T36 : h29 33 8 = h24 33 8 := by rw [E_h29]; exact up_n (by decide)
      have T37 : h29 2 10 = u28 := by rw [E_h29]; exact up_s
      refine ok_cIR (vf_X0_readBlock hn (by omega) (by omega) V_h29 (by omega) (by omega) (by omega) (by omega)) ?_; intro u31 E_u31 V_u31 a_u31 b_u31 R_u31
      have T38 : u31.2 45 7 = h29 45 7 := (ff_X0_readBlock nn) _ E_u31 45 7 rfl
      have T39 : u31.2 21 (l3 / 12).toNat = h29 21 (l3 / 12).toNat := (ff_X0_readBlock nn) _ E_u31 21 (l3 / 12).toNat (nw_ar rfl _)
      have T40 : u31.2 33 8 = h29 33 8 := (ff_X0_readBlock nn) _ E_u31 33 8 rfl
      have T41 := gF_34_1 V_u31
      have T42 := gF_34_3 V_u31
      have T43 := gF_34_7 V_u31
      have T44 := gF_49_10 V_u31
      refine ok_if ?_ ?_
      · intro C44
        exact ok_mV (vj_X0_makeMethod_199 hn (by omega) (by omega) V_u31 (by omega)) (fun _ V_r R_r => by have := gF_34_1 V_r; have := gF_34_3 V_r; have := gF_34_7 V_r; have := gF_45_7 V_r; have := gF_49_10 V_r; omega)
      · intro C44
        refine ok_if ?_ ?_
        · intro C45
          exact ok_mV (vj_X0_makeMethod_189 hn (by omega) (by omega) V_u31 (by omega) (by omega)) (fun _ V_r R_r => by have := gF_34_1 V_r; have := gF_34_3 V_r; have := gF_34_7 V_r; have := gF_45_7 V_r; have := gF_49_10 V_r; omega)
        · intro C45
          refine ok_cP (vf_X2_tokenOfMethod hn (by omega) (by omega) V_u31) ?_; intro u36 e_u36 a_u36 b_u36
          refine ok_cVR (vf_X9_tell hn (by omega) (by omega) (by omega) (by omega) V_u31) ?_; intro u38 E_u38 V_u38 R_u38
          have T47 : u38 45 7 = u31.2 45 7 := (ff_X9_tell nn) _ E_u38 45 7 rfl
          have T48 : u38 21 (l3 / 12).toNat = u31.2 21 (l3 / 12).toNat := (ff_X9_tell nn) _ E_u38 21 (l3 / 12).toNat (nw_ar rfl _)
          have T49 : u38 34 1 = u31.2 34 1 := (ff_X9_tell nn) _ E_u38 34 1 rfl
          have T50 : u38 34 3 = u31.2 34 3 := (ff_X9_tell nn) _ E_u38 34 3 rfl
          have T51 : u38 34 7 = u31.2 34 7 := (ff_X9_tell nn) _ E_u38 34 7 rfl
          have T52 : u38 49 10 = u31.2 49 10 := (ff_X9_tell nn) _ E_u38 49 10 rfl
          exact ok_mV (vj_X0_makeMethod_189 hn (by omega) (by omega) V_u38 (by omega) (by omega)) (fun _ V_r R_r => by have := gF_34_1 V_r; have := gF_34_3 V_r; have := gF_34_7 V_r; have := gF_45_7 V_r; have := gF_49_10 V_r; omega)
    · intro C6
      refine ok_cP (vf_X2_parameterName hn (by omega) (by omega) (by omega) (by omega) V_h) ?_; intro u44 e_u44 a_u44 b_u44
      refine ok_cP (vf_X2_parameterType hn (by omega) (by omega) (by omega) (by omega) V_h) ?_; intro u47 e_u47 a_u47 b_u47
      refine ok_cIR (vf_X1_addLocal hn (by omega) (by omega) (by omega) (by omega) V_h (by omega)) ?_; intro u49 E_u49 V_u49 a_u49 b_u49 R_u49
      have T53 : u49.2 34 1 = h 34 1 := (ff_X1_addLocal nn) _ E_u49 34 1 rfl
      have T54 : u49.2 34 3 = h 34 3 := (ff_X1_addLocal nn) _ E_u49 34 3 rfl
      have T55 : u49.2 45 7 = h 45 7 := (ff_X1_addLocal nn) _ E_u49 45 7 rfl
      have T56 : u49.2 49 10 = h 49 10 := (ff_X1_addLocal nn) _ E_u49 49 10 rfl
      have T57 : u49.2 21 (l3 / 12).toNat = h 21 (l3 / 12).toNat := (ff_X1_addLocal nn) _ E_u49 21 (l3 / 12).toNat (nw_ar rfl _)
      have T58 := gF_34_7 V_u49
      refine ok_add (by omega) ?_; intro v50 e_v50
      exact ok_mV (ih (by omega) (by omega) (by omega) (by omega) V_u49 (by omega) (by omega) (by omega) (by omega) (by omega)) (fun _ V_r R_r => by have := gF_34_1 V_r; have := gF_34_3 V_r; have := gF_34_7 V_r; have := gF_45_7 V_r; have := gF_49_10 V_r; omega)
set_option maxRecDepth 4000 in
theorem vf_X0_makeMethod {nn : Nat} (hn : 1000000 ≤ nn) {a1 : Int} {a2 : Int} {h : ms_M} (a_a1 : 0 ≤ a1) (b_a1 : a1 ≤ 7) (a_a2 : 0 ≤ a2) (b_a2 : a2 ≤ 11) (V_h : VS_ h) (x_0 : h 45 7 ≤ 590000000) (x_1 : a2 < h 21 (a1).toNat)  : Ok_ (qf_X0_makeMethod nn a1 a2 h) (QVR_ (fun r => (r 45 7 ≤ h 45 7 + 3000100))) := by
  unfold qf_X0_makeMethod
  have T1 := gF_34_1 V_h
  have T2 := gF_34_3 V_h
  have T3 := gF_34_7 V_h
  have T4 := gF_45_7 V_h
  have T5 := gF_49_10 V_h
  refine ok_mul (by omega) ?_; intro v52 e_v52
  refine ok_add (by omega) ?_; intro v53 e_v53
  refine ok_add (by omega) ?_; intro v54 e_v54
  refine ok_cVR (vf_X6_beginMethod hn (by omega) (by omega) V_h (by omega)) ?_; intro u57 E_u57 V_u57 R_u57
  have T6 : u57 34 1 = h 34 1 := (ff_X6_beginMethod nn) _ E_u57 34 1 rfl
  have T7 : u57 34 3 = h 34 3 := (ff_X6_beginMethod nn) _ E_u57 34 3 rfl
  have T8 : u57 34 7 = h 34 7 := (ff_X6_beginMethod nn) _ E_u57 34 7 rfl
  have T9 : u57 49 10 = h 49 10 := (ff_X6_beginMethod nn) _ E_u57 49 10 rfl
  have T10 : u57 21 (a1).toNat = h 21 (a1).toNat := (ff_X6_beginMethod nn) _ E_u57 21 (a1).toNat (nw_ar rfl _)
  have T11 := gF_45_7 V_u57
  refine ok_cVR (vf_X1_beginMethod hn V_u57) ?_; intro u60 E_u60 V_u60 R_u60
  have T12 : u60 49 10 = u57 49 10 := (ff_X1_beginMethod nn) _ E_u60 49 10 rfl
  have T13 : u60 21 (a1).toNat = u57 21 (a1).toNat := (ff_X1_beginMethod nn) _ E_u60 21 (a1).toNat (nw_ar rfl _)
  have T14 : u60 45 7 = u57 45 7 := (ff_X1_beginMethod nn) _ E_u60 45 7 rfl
  have T15 := gF_34_1 V_u60
  have T16 := gF_34_3 V_u60
  have T17 := gF_34_7 V_u60
  refine ok_cP (vf_X2_isFixed hn (by omega) (by omega) V_u60) ?_; intro u64 e_u64 a_u64 b_u64
  refine ok_cVR (vf_X10_beginMethod hn (by omega) (by omega) (by omega) (by omega) V_u60) ?_; intro u66 E_u66 V_u66 R_u66
  have T18 : u66 21 (a1).toNat = u60 21 (a1).toNat := (ff_X10_beginMethod nn) _ E_u66 21 (a1).toNat (nw_ar rfl _)
  have T19 : u66 45 7 = u60 45 7 := (ff_X10_beginMethod nn) _ E_u66 45 7 rfl
  have T20 : u66 34 1 = u60 34 1 := (ff_X10_beginMethod nn) _ E_u66 34 1 rfl
  have T21 : u66 34 3 = u60 34 3 := (ff_X10_beginMethod nn) _ E_u66 34 3 rfl
  have T22 : u66 34 7 = u60 34 7 := (ff_X10_beginMethod nn) _ E_u66 34 7 rfl
  have T23 := gF_49_10 V_u66
  refine ok_cP (vf_X2_isFixed hn (by omega) (by omega) V_u66) ?_; intro u69 e_u69 a_u69 b_u69
  refine ok_if ?_ ?_
  · intro C23
    exact ok_mV (vw_X0_makeMethod_70 hn _ (by omega) (by omega) (by omega) (by omega) V_u66 (by omega) (by omega) (by omega) (by have z : (v53 / 12).toNat = a1.toNat := (by omega); rw [z]; omega) (by omega)) (fun _ V_r R_r => by have := gF_34_1 V_r; have := gF_34_3 V_r; have := gF_34_7 V_r; have := gF_45_7 V_r; have := gF_49_10 V_r; omega)
  · intro C23
    refine ok_cIR (vf_X1_addLocal hn (by omega) (by omega) (by omega) (by omega) V_u66 (by omega)) ?_; intro u72 E_u72 V_u72 a_u72 b_u72 R_u72
    have T25 : u72.2 21 (a1).toNat = u66 21 (a1).toNat := (ff_X1_addLocal nn) _ E_u72 21 (a1).toNat (nw_ar rfl _)
    have T26 : u72.2 45 7 = u66 45 7 := (ff_X1_addLocal nn) _ E_u72 45 7 rfl
    have T27 : u72.2 34 1 = u66 34 1 := (ff_X1_addLocal nn) _ E_u72 34 1 rfl
    have T28 : u72.2 34 3 = u66 34 3 := (ff_X1_addLocal nn) _ E_u72 34 3 rfl
    have T29 : u72.2 49 10 = u66 49 10 := (ff_X1_addLocal nn) _ E_u72 49 10 rfl
    have T30 := gF_34_7 V_u72
    exact ok_mV (vw_X0_makeMethod_70 hn _ (by omega) (by omega) (by omega) (by omega) V_u72 (by omega) (by omega) (by omega) (by have z : (v53 / 12).toNat = a1.toNat := (by omega); rw [z]; omega) (by omega)) (fun _ V_r R_r => by have := gF_34_1 V_r; have := gF_34_3 V_r; have := gF_34_7 V_r; have := gF_45_7 V_r; have := gF_49_10 V_r; omega)
set_option maxRecDepth 4000 in
theorem vj_X2_checkOverride_131 {nn : Nat} (hn : 1000000 ≤ nn) {l1 : Int} {l3 : Int} {h : ms_M} (a_l1 : 0 ≤ l1) (b_l1 : l1 ≤ 95) (a_l3 : 0 ≤ l3) (b_l3 : l3 ≤ 1) (V_h : VS_ h)  : Ok_ (qj_X2_checkOverride_131 nn l1 l3 h) QV_ := by
  unfold qj_X2_checkOverride_131
  refine ok_if ?_ ?_
  · intro C0
    exact ok_rV V_h
  · intro C0
    refine ok_rd (by omega) (gA_22 V_h) ?_; intro v3 e_v3 a_v3 b_v3
    refine ok_cVR (vf_X9_tell hn (by omega) (by omega) (by omega) (by omega) V_h) ?_; intro u5 E_u5 V_u5 R_u5
    exact ok_rV V_u5
set_option maxRecDepth 4000 in
theorem vw_X2_checkOverride_87 {nn : Nat} (hn : 1000000 ≤ nn) : ∀ (k : Nat) {l1 : Int} {l2 : Int} {l3 : Int} {l4 : Int} {h : ms_M} (a_l1 : 0 ≤ l1) (b_l1 : l1 ≤ 95) (a_l2 : 0 ≤ l2) (b_l2 : l2 ≤ 95) (a_l3 : 0 ≤ l3) (b_l3 : l3 ≤ 1) (a_l4 : 0 ≤ l4) (b_l4 : l4 ≤ 6) (V_h : VS_ h)  (hm : 7 - l4 < (k : Int)), Ok_ (qw_X2_checkOverride_87 nn k l1 l2 l3 l4 h) QV_ := by
  intro k
  induction k with
  | zero => intros; exfalso; omega
  | succ k ih =>
    intro l1 l2 l3 l4 h a_l1 b_l1 a_l2 b_l2 a_l3 b_l3 a_l4 b_l4 V_h hm
    unfold qw_X2_checkOverride_87
    refine ok_rd (by omega) (gA_27 V_h) ?_; intro v8 e_v8 a_v8 b_v8
    refine ok_if ?_ ?_
    · intro C0
      exact vj_X2_checkOverride_131 hn (by omega) (by omega) (by omega) (by omega) V_h
    · intro C0
      refine ok_if ?_ ?_
      · intro C1
        exact vj_X2_checkOverride_131 hn (by omega) (by omega) (by omega) (by omega) V_h
      · intro C1
        refine ok_cP (vf_X2_parameterType hn (by omega) (by omega) (by omega) (by omega) V_h) ?_; intro u10 e_u10 a_u10 b_u10
        refine ok_cP (vf_X2_parameterType hn (by omega) (by omega) (by omega) (by omega) V_h) ?_; intro u12 e_u12 a_u12 b_u12
        refine ok_if ?_ ?_
        · intro C2
          refine ok_add (by omega) ?_; intro v13 e_v13
          exact ih (by omega) (by omega) (by omega) (by omega) (by omega) (by omega) (by omega) (by omega) V_h (by omega)
        · intro C2
          refine ok_add (by omega) ?_; intro v14 e_v14
          exact ih (by omega) (by omega) (by omega) (by omega) (by omega) (by omega) (by omega) (by omega) V_h (by omega)
set_option maxRecDepth 4000 in
theorem vj_X2_checkOverride_82 {nn : Nat} (hn : 1000000 ≤ nn) {l1 : Int} {l2 : Int} {h : ms_M} (a_l1 : 0 ≤ l1) (b_l1 : l1 ≤ 95) (a_l2 : 0 ≤ l2) (b_l2 : l2 ≤ 95) (V_h : VS_ h)  : Ok_ (qj_X2_checkOverride_82 nn l1 l2 h) QV_ := by
  unfold qj_X2_checkOverride_82
  exact vw_X2_checkOverride_87 hn _ (by omega) (by omega) (by omega) (by omega) (by omega) (by omega) (by omega) (by omega) V_h (by omega)
set_option maxRecDepth 4000 in
theorem vf_X2_checkOverride {nn : Nat} (hn : 1000000 ≤ nn) {a1 : Int} {h : ms_M} (a_a1 : 0 ≤ a1) (b_a1 : a1 ≤ 95) (V_h : VS_ h)  : Ok_ (qf_X2_checkOverride nn a1 h) QV_ := by
  unfold qf_X2_checkOverride
  refine ok_div (n := 12) (by omega) ?_; intro v19 e_v19
  refine ok_add (by omega) ?_; intro v20 e_v20
  refine ok_cP (vf_X4_above hn rfl (by omega) (by omega) V_h) ?_; intro u22 e_u22 a_u22 b_u22
  refine ok_cP (vf_X2_nameOfMethod hn (by omega) (by omega) V_h) ?_; intro u24 e_u24 a_u24 b_u24
  refine ok_cP (vf_X2_methodOf hn (by omega) (by omega) (by omega) (by omega) V_h) ?_; intro u26 e_u26 a_u26 b_u26
  refine ok_if ?_ ?_
  · intro C0
    refine ok_rd (by omega) (gA_25 V_h) ?_; intro v28 e_v28 a_v28 b_v28
    refine ok_if ?_ ?_
    · intro C1
      exact vj_X2_checkOverride_82 hn (by omega) (by omega) (by omega) (by omega) V_h
    · intro C1
      refine ok_rd (by omega) (gA_25 V_h) ?_; intro v30 e_v30 a_v30 b_v30
      refine ok_if ?_ ?_
      · intro C2
        exact vj_X2_checkOverride_82 hn (by omega) (by omega) (by omega) (by omega) V_h
      · intro C2
        refine ok_rd (by omega) (gA_24 V_h) ?_; intro v32 e_v32 a_v32 b_v32
        refine ok_rd (by omega) (gA_24 V_h) ?_; intro v34 e_v34 a_v34 b_v34
        refine ok_if ?_ ?_
        · intro C3
          exact vj_X2_checkOverride_82 hn (by omega) (by omega) (by omega) (by omega) V_h
        · intro C3
          refine ok_rd (by omega) (gA_27 V_h) ?_; intro v36 e_v36 a_v36 b_v36
          refine ok_rd (by omega) (gA_27 V_h) ?_; intro v38 e_v38 a_v38 b_v38
          refine ok_if ?_ ?_
          · intro C4
            exact vj_X2_checkOverride_82 hn (by omega) (by omega) (by omega) (by omega) V_h
          · intro C4
            exact vw_X2_checkOverride_87 hn _ (by omega) (by omega) (by omega) (by omega) (by omega) (by omega) (by omega) (by omega) V_h (by omega)
  · intro C0
    exact ok_rV V_h
set_option maxRecDepth 4000 in
theorem vw_X2_checkOverrides_2 {nn : Nat} (hn : 1000000 ≤ nn) : ∀ (k : Nat) {l1 : Int} {h : ms_M} (a_l1 : 0 ≤ l1) (b_l1 : l1 ≤ 96) (V_h : VS_ h)  (hm : 97 - l1 < (k : Int)), Ok_ (qw_X2_checkOverrides_2 nn k l1 h) (QVR_ (fun r => (h 2 11 = 0 ∨ ¬ r 2 11 = 0))) := by
  intro k
  induction k with
  | zero => intros; exfalso; omega
  | succ k ih =>
    intro l1 h a_l1 b_l1 V_h hm
    unfold qw_X2_checkOverrides_2
    have T1 := gF_2_11 V_h
    refine ok_if ?_ ?_
    · intro C1
      exact ok_rVR V_h (by omega)
    · intro C1
      refine ok_if ?_ ?_
      · intro C2
        exact ok_rVR V_h (by omega)
      · intro C2
        refine ok_cP (vf_X2_isMethod hn (by omega) (by omega) V_h) ?_; intro u6 e_u6 a_u6 b_u6
        have T4 := pr_X2_isMethod e_u6
        refine ok_if ?_ ?_
        · intro C4
          refine ok_add (by omega) ?_; intro v7 e_v7
          exact ok_mV (ih (by omega) (by omega) V_h (by omega)) (fun _ V_r R_r => by have := gF_2_11 V_r; omega)
        · intro C4
          refine ok_cV (vf_X2_checkOverride hn (by omega) (by omega) V_h) ?_; intro u9 E_u9 V_u9
          have T6 := gF_2_11 V_u9
          refine ok_add (by omega) ?_; intro v10 e_v10
          exact ok_mV (ih (by omega) (by omega) V_u9 (by omega)) (fun _ V_r R_r => by have := gF_2_11 V_r; omega)
set_option maxRecDepth 4000 in
theorem vf_X2_checkOverrides {nn : Nat} (hn : 1000000 ≤ nn) {h : ms_M} (V_h : VS_ h)  : Ok_ (qf_X2_checkOverrides nn h) (QVR_ (fun r => (h 2 11 = 0 ∨ ¬ r 2 11 = 0))) := by
  unfold qf_X2_checkOverrides
  have T1 := gF_2_11 V_h
  exact ok_mV (vw_X2_checkOverrides_2 hn _ (by omega) (by omega) V_h (by omega)) (fun _ V_r R_r => by have := gF_2_11 V_r; omega)
set_option maxRecDepth 4000 in
theorem vf_X2_forget {nn : Nat} (hn : 1000000 ≤ nn) {h : ms_M} (V_h : VS_ h)  : Ok_ (qf_X2_forget nn h) QV_ := by
  unfold qf_X2_forget
  refine ok_xl ?_; intro h1 E_h1; have V_h1 : VS_ h1 := by rw [E_h1]; exact wF_11_2 V_h (by omega)
  refine ok_cV (vfill hn V_h1 (show 17 < 256 by decide) rfl (show 8 ≤ 100000 by decide) (fun _ _ z => wA_17 z (by omega))) ?_; intro u3 E_u3 V_u3
  refine ok_cV (vfill hn V_u3 (show 21 < 256 by decide) rfl (show 8 ≤ 100000 by decide) (fun _ _ z => wA_21 z (by omega))) ?_; intro u5 E_u5 V_u5
  refine ok_cV (vf_X4_forget hn rfl V_u5) ?_; intro u8 E_u8 V_u8
  exact ok_rV V_u8
set_option maxRecDepth 4000 in
theorem vf_X2_addKindByte {nn : Nat} (hn : 1000000 ≤ nn) {a1 : Int} {h : ms_M} (a_a1 : 40 ≤ a1) (b_a1 : a1 ≤ 91) (V_h : VS_ h)  : Ok_ (qf_X2_addKindByte nn a1 h) QV_ := by
  unfold qf_X2_addKindByte
  have T1 := gF_11_20 V_h
  refine ok_if ?_ ?_
  · intro C1
    exact ok_rV V_h
  · intro C1
    refine ok_b ?_; intro v6 a_v6 b_v6
    refine ok_wB (by omega) ?_; intro h7 E_h7; have V_h7 : VS_ h7 := by rw [E_h7]; exact wA_31 V_h oq_b_rh
    have T3 : h7 11 20 = h 11 20 := by rw [E_h7]; exact up_n (fun z => absurd z.1 (by decide))
    refine ok_add (by omega) ?_; intro v9 e_v9
    refine ok_xl ?_; intro h10 E_h10; have V_h10 : VS_ h10 := by rw [E_h10]; exact wF_11_20 V_h7 (by omega)
    exact ok_rV V_h10
set_option maxRecDepth 4000 in
theorem vj_X2_addKind_20 {nn : Nat} (hn : 1000000 ≤ nn) {l2 : Int} {h : ms_M} (a_l2 : 0 ≤ l2) (b_l2 : l2 ≤ 441) (V_h : VS_ h) (N_h : NM_ h)  : Ok_ (qj_X2_addKind_20 nn l2 h) (QVR_ (fun r => (NM_ r))) := by
  unfold qj_X2_addKind_20
  refine ok_cP (vf_X4_isClass hn (by omega) (by omega) V_h) ?_; intro u1 e_u1 a_u1 b_u1
  have T1 := pr_X4_isClass e_u1
  refine ok_if ?_ ?_
  · intro C1
    refine ok_cV (vf_X2_addKindByte hn (by omega) (by omega) V_h) ?_; intro u3 E_u3 V_u3
    have N_u3 : NM_ u3 := nm_eq N_h (fun k => (ff_X2_addKindByte nn) _ E_u3 7 k (nw_ar rfl k)) ((ff_X2_addKindByte nn) _ E_u3 2 9 rfl)
    refine ok_rd (by omega) (gA_30 V_u3) ?_; intro v5 e_v5 a_v5 b_v5
    have T3 := gF_11_20 V_u3
    have T4 := vi_ln (M := u3) (show 31 < 256 by decide); have T5 : (ly_N 31 : Int) = 128 := rfl
    refine ok_cV (vf_X9_copyName hn (by omega) (by omega) (by omega) (by omega) V_u3 ⟨Nat.lt_of_lt_of_le (by decide) (vi_c V_u3), rfl⟩) ?_; intro u10 E_u10 V_u10
    have N_u10 : NM_ u10 := nm_eq N_u3 (fun k => (ff_X9_copyName nn) _ E_u10 7 k (nw_ar rfl k)) ((ff_X9_copyName nn) _ E_u10 2 9 rfl)
    have T6 : u10 11 20 = u3 11 20 := (ff_X9_copyName nn) _ E_u10 11 20 rfl
    refine ok_cP (vf_X9_nameLength hn (by omega) (by omega) V_u10) ?_; intro u14 e_u14 a_u14 b_u14
    have T7 := lm_X9_nameLength V_u10 e_u14
    have T8 := nm_len N_u10 V_u10 e_u14
    refine ok_add (by omega) ?_; intro v15 e_v15
    refine ok_ite ?_; intro v18 e_v18
    refine ok_xl ?_; intro h19 E_h19; have V_h19 : VS_ h19 := by rw [E_h19]; exact wF_11_20 V_u10 (by omega)
    have N_h19 : NM_ h19 := by rw [E_h19]; exact nm_uf N_u10 (by decide)
    refine ok_cV (vf_X2_addKindByte hn (by omega) (by omega) V_h19) ?_; intro u21 E_u21 V_u21
    have N_u21 : NM_ u21 := nm_eq N_h19 (fun k => (ff_X2_addKindByte nn) _ E_u21 7 k (nw_ar rfl k)) ((ff_X2_addKindByte nn) _ E_u21 2 9 rfl)
    exact ok_rVR V_u21 N_u21
  · intro C1
    refine ok_if ?_ ?_
    · intro C8
      refine ok_if ?_ ?_
      · intro C9
        refine ok_cV (vf_X2_addKindByte hn (by omega) (by omega) V_h) ?_; intro u23 E_u23 V_u23
        have N_u23 : NM_ u23 := nm_eq N_h (fun k => (ff_X2_addKindByte nn) _ E_u23 7 k (nw_ar rfl k)) ((ff_X2_addKindByte nn) _ E_u23 2 9 rfl)
        exact ok_rVR V_u23 N_u23
      · intro C9
        refine ok_cV (vf_X2_addKindByte hn (by omega) (by omega) V_h) ?_; intro u25 E_u25 V_u25
        have N_u25 : NM_ u25 := nm_eq N_h (fun k => (ff_X2_addKindByte nn) _ E_u25 7 k (nw_ar rfl k)) ((ff_X2_addKindByte nn) _ E_u25 2 9 rfl)
        exact ok_rVR V_u25 N_u25
    · intro C8
      refine ok_cV (vf_X2_addKindByte hn (by omega) (by omega) V_h) ?_; intro u28 E_u28 V_u28
      have N_u28 : NM_ u28 := nm_eq N_h (fun k => (ff_X2_addKindByte nn) _ E_u28 7 k (nw_ar rfl k)) ((ff_X2_addKindByte nn) _ E_u28 2 9 rfl)
      exact ok_rVR V_u28 N_u28
set_option maxRecDepth 4000 in
theorem vf_X2_addKind {nn : Nat} (hn : 1000000 ≤ nn) {a1 : Int} {h : ms_M} (a_a1 : 0 ≤ a1) (b_a1 : a1 ≤ 441) (V_h : VS_ h) (N_h : NM_ h)  : Ok_ (qf_X2_addKind nn a1 h) (QVR_ (fun r => (NM_ r))) := by
  unfold qf_X2_addKind
  refine ok_cP (vf_X4_isArray hn (by omega) (by omega) V_h) ?_; intro u31 e_u31 a_u31 b_u31
  have T1 := pr_X4_isArray e_u31
  refine ok_if ?_ ?_
  · intro C1
    exact vj_X2_addKind_20 hn (by omega) (by omega) V_h N_h
  · intro C1
    refine ok_cV (vf_X2_addKindByte hn (by omega) (by omega) V_h) ?_; intro u33 E_u33 V_u33
    have N_u33 : NM_ u33 := nm_eq N_h (fun k => (ff_X2_addKindByte nn) _ E_u33 7 k (nw_ar rfl k)) ((ff_X2_addKindByte nn) _ E_u33 2 9 rfl)
    refine ok_cP (vf_X4_elementOf hn (by omega) (by omega) V_u33) ?_; intro u34 e_u34 a_u34 b_u34
    exact vj_X2_addKind_20 hn (by omega) (by omega) V_u33 N_u33
set_option maxRecDepth 4000 in
theorem vf_X9_bucketOf {nn : Nat} (hn : 1000000 ≤ nn) {a0 : Nat} {a1 : Int} {a2 : Int} {h : ms_M} (a_a1 : 0 ≤ a1) (b_a1 : a1 ≤ 6400) (a_a2 : (-6400) ≤ a2) (b_a2 : a2 ≤ 6528) (V_h : VS_ h) (t_a0 : a0 < cn_M h ∧ ly_T a0 = 1) (x_0 : 0 ≤ a1 ∧ 1 ≤ a2 ∧ a1 + a2 ≤ ln_I h a0)  : Ok_ (qf_X9_bucketOf nn a0 a1 a2 h) (QP_ 0 63) := by
  unfold qf_X9_bucketOf
  refine ok_rT V_h t_a0 (by omega) ?_; intro v1 e_v1 a_v1 b_v1
  refine ok_mul (by omega) ?_; intro v2 e_v2
  refine ok_add (by omega) ?_; intro v3 e_v3
  refine ok_sub (by omega) ?_; intro v4 e_v4
  refine ok_rT V_h t_a0 (by omega) ?_; intro v5 e_v5 a_v5 b_v5
  refine ok_mul (by omega) ?_; intro v6 e_v6
  refine ok_add (by omega) ?_; intro v7 e_v7
  refine ok_add (by omega) ?_; intro v8 e_v8
  refine ok_and (by omega) ?_; intro v9 a_v9 b_v9
  exact ok_rP (by omega) (by omega)
set_option maxRecDepth 4000 in
theorem vf_X9_closeName {nn : Nat} (hn : 1000000 ≤ nn) {a1 : Int} {h : ms_M} (a_a1 : 0 ≤ a1) (b_a1 : a1 ≤ 6528) (V_h : VS_ h) (x_0 : h 7 (h 2 9).toNat < a1 ∧ a1 ≤ 6400 ∧ h 2 9 ≤ 1739)  : Ok_ (qf_X9_closeName nn a1 h) QV_ := by
  unfold qf_X9_closeName
  have T1 := gF_2_9 V_h
  refine ok_rd (by omega) (gA_7 V_h) ?_; intro v3 e_v3 a_v3 b_v3
  refine ok_sub (by omega) ?_; intro v5 e_v5
  have T2 := vi_ln (M := h) (show 6 < 256 by decide); have T3 : (ly_N 6 : Int) = 6400 := rfl
  refine ok_cP (vf_X9_bucketOf hn (by omega) (by omega) (by omega) (by omega) V_h ⟨Nat.lt_of_lt_of_le (by decide) (vi_c V_h), rfl⟩ (by omega)) ?_; intro u6 e_u6 a_u6 b_u6
  refine ok_rd (by omega) (gA_9 V_h) ?_; intro v10 e_v10 a_v10 b_v10
  refine ok_wA (by omega) ?_; intro h11 E_h11; have V_h11 : VS_ h11 := by rw [E_h11]; exact wA_8 V_h (by omega)
  have T4 : h11 7 (h 2 9).toNat = h 7 (h 2 9).toNat := by rw [E_h11]; exact up_n (fun z => absurd z.1 (by decide))
  have T5 : h11 2 9 = h 2 9 := by rw [E_h11]; exact up_n (fun z => absurd z.1 (by decide))
  refine ok_wA (by omega) ?_; intro h14 E_h14; have V_h14 : VS_ h14 := by rw [E_h14]; exact wA_9 V_h11 (by omega)
  have T6 : h14 7 (h 2 9).toNat = h11 7 (h 2 9).toNat := by rw [E_h14]; exact up_n (fun z => absurd z.1 (by decide))
  have T7 : h14 2 9 = h11 2 9 := by rw [E_h14]; exact up_n (fun z => absurd z.1 (by decide))
  refine ok_add (by omega) ?_; intro v16 e_v16
  refine ok_xl ?_; intro h17 E_h17; have V_h17 : VS_ h17 := by rw [E_h17]; exact wF_2_9 V_h14 (by omega)
  have T8 : h17 7 (h 2 9).toNat = h14 7 (h 2 9).toNat := by rw [E_h17]; exact up_n (fun z => absurd z.1 (by decide))
  have T9 : h17 2 9 = v16 := by rw [E_h17]; exact up_s
  refine ok_wA (by omega) ?_; intro h20 E_h20; have V_h20 : VS_ h20 := by rw [E_h20]; exact wA_7 V_h17 (by omega)
  exact ok_rV V_h20
set_option maxRecDepth 4000 in
theorem vw_X9_isNamed_29 {nn : Nat} (hn : 1000000 ≤ nn) : ∀ (k : Nat) {l2 : Nat} {l3 : Int} {l4 : Int} {l5 : Int} {l6 : Int} {h : ms_M} (a_l3 : 0 ≤ l3) (b_l3 : l3 ≤ 2999) (a_l4 : 1 ≤ l4) (b_l4 : l4 ≤ 128) (a_l5 : 0 ≤ l5) (b_l5 : l5 ≤ 6400) (a_l6 : 0 ≤ l6) (b_l6 : l6 ≤ 128) (V_h : VS_ h) (t_l2 : l2 < cn_M h ∧ ly_T l2 = 1) (x_0 : 0 ≤ l3 ∧ l3 + l4 ≤ ln_I h l2 ∧ l5 + l4 ≤ 6400)  (hm : 129 - l6 < (k : Int)), Ok_ (qw_X9_isNamed_29 nn k l2 l3 l4 l5 l6 h) (QP_ 0 1) := by
  intro k
  induction k with
  | zero => intros; exfalso; omega
  | succ k ih =>
    intro l2 l3 l4 l5 l6 h a_l3 b_l3 a_l4 b_l4 a_l5 b_l5 a_l6 b_l6 V_h t_l2 x_0 hm
    unfold qw_X9_isNamed_29
    refine ok_if ?_ ?_
    · intro C0
      exact ok_rP (by omega) (by omega)
    · intro C0
      refine ok_add (by omega) ?_; intro v2 e_v2
      refine ok_rd (by omega) (gA_6 V_h) ?_; intro v3 e_v3 a_v3 b_v3
      refine ok_add (by omega) ?_; intro v4 e_v4
      refine ok_rT V_h t_l2 (by omega) ?_; intro v5 e_v5 a_v5 b_v5
      refine ok_if ?_ ?_
      · intro C1
        refine ok_add (by omega) ?_; intro v6 e_v6
        exact ih (by omega) (by omega) (by omega) (by omega) (by omega) (by omega) (by omega) (by omega) V_h t_l2 (by omega) (by omega)
      · intro C1
        exact ok_rP (by omega) (by omega)
set_option maxRecDepth 4000 in
theorem vf_X9_isNamed {nn : Nat} (hn : 1000000 ≤ nn) {a1 : Int} {a2 : Nat} {a3 : Int} {a4 : Int} {h : ms_M} (a_a1 : 0 ≤ a1) (b_a1 : a1 ≤ 1739) (a_a3 : 0 ≤ a3) (b_a3 : a3 ≤ 2999) (a_a4 : 1 ≤ a4) (b_a4 : a4 ≤ 128) (V_h : VS_ h) (t_a2 : a2 < cn_M h ∧ ly_T a2 = 1) (x_0 : 0 ≤ a3 ∧ a3 + a4 ≤ ln_I h a2)  : Ok_ (qf_X9_isNamed nn a1 a2 a3 a4 h) (QP_ 0 1) := by
  unfold qf_X9_isNamed
  refine ok_rd (by omega) (gA_7 V_h) ?_; intro v10 e_v10 a_v10 b_v10
  refine ok_add (by omega) ?_; intro v12 e_v12
  refine ok_rd (by omega) (gA_7 V_h) ?_; intro v13 e_v13 a_v13 b_v13
  refine ok_sub (by omega) ?_; intro v14 e_v14
  refine ok_if ?_ ?_
  · intro C0
    exact vw_X9_isNamed_29 hn _ (by omega) (by omega) (by omega) (by omega) (by omega) (by omega) (by omega) (by omega) V_h t_a2 (by omega) (by omega)
  · intro C0
    exact ok_rP (by omega) (by omega)
set_option maxRecDepth 4000 in
theorem vj_X9_nameOf_79 {nn : Nat} (hn : 1000000 ≤ nn) {l1 : Nat} {l2 : Int} {l3 : Int} {h : ms_M} (a_l2 : 0 ≤ l2) (b_l2 : l2 ≤ 2999) (a_l3 : 1 ≤ l3) (b_l3 : l3 ≤ 128) (V_h : VS_ h) (t_l1 : l1 < cn_M h ∧ ly_T l1 = 1) (x_0 : 0 ≤ l2 ∧ 1 ≤ l3 ∧ l2 + l3 ≤ ln_I h l1)  : Ok_ (qj_X9_nameOf_79 nn l1 l2 l3 h) (QI_ 0 1739) := by
  unfold qj_X9_nameOf_79
  have T1 := gF_2_9 V_h
  refine ok_rd (by omega) (gA_7 V_h) ?_; intro v3 e_v3 a_v3 b_v3
  refine ok_if ?_ ?_
  · intro C1
    exact ok_rI V_h (by omega) (by omega)
  · intro C1
    refine ok_add (by omega) ?_; intro v5 e_v5
    refine ok_if ?_ ?_
    · intro C2
      have L1 := vi_ln (M := h) (show 6 < 256 by decide)
      have L2 : (ly_N 6 : Int) = 6400 := rfl
      refine ok_cpB V_h t_l1 ⟨Nat.lt_of_lt_of_le (by decide) (vi_c V_h), rfl⟩ (by omega) ?_; intro h9 V_h9 F_h9
      refine ok_add (by omega) ?_; intro v10 e_v10
      have T2 : h9 2 9 = h 2 9 := F_h9 _ _ (by decide)
      have T3 : h9 7 (h9 2 9).toNat = h 7 (h 2 9).toNat := by rw [T2]; exact F_h9 _ _ (by decide)
      refine ok_cV (vf_X9_closeName hn (by omega) (by omega) V_h9 (by omega)) ?_; intro u12 E_u12 V_u12
      have T4 : u12 2 9 = h9 2 9 + 1 := by rw [lm_X9_closeName E_u12]; exact oq_add_eq (by omega) (by omega) (by omega)
      refine ok_sub (by omega) ?_; intro v14 e_v14
      exact ok_rI V_u12 (by omega) (by omega)
    · intro C2
      exact ok_rI V_h (by omega) (by omega)
set_option maxRecDepth 4000 in
theorem vw_X9_nameOf_35 {nn : Nat} (hn : 1000000 ≤ nn) : ∀ (k : Nat) {l1 : Nat} {l2 : Int} {l3 : Int} {l4 : Int} {l5 : Int} {h : ms_M} (a_l2 : 0 ≤ l2) (b_l2 : l2 ≤ 2999) (a_l3 : 1 ≤ l3) (b_l3 : l3 ≤ 128) (a_l4 : (-1) ≤ l4) (b_l4 : l4 ≤ 1739) (a_l5 : 0 ≤ l5) (b_l5 : l5 ≤ 1740) (V_h : VS_ h) (t_l1 : l1 < cn_M h ∧ ly_T l1 = 1) (x_0 : 0 ≤ l2 ∧ 1 ≤ l3 ∧ l2 + l3 ≤ ln_I h l1)  (hm : 1741 - l5 < (k : Int)), Ok_ (qw_X9_nameOf_35 nn k l1 l2 l3 l4 l5 h) (QI_ 0 1739) := by
  intro k
  induction k with
  | zero => intros; exfalso; omega
  | succ k ih =>
    intro l1 l2 l3 l4 l5 h a_l2 b_l2 a_l3 b_l3 a_l4 b_l4 a_l5 b_l5 V_h t_l1 x_0 hm
    unfold qw_X9_nameOf_35
    refine ok_if ?_ ?_
    · intro C0
      exact vj_X9_nameOf_79 hn (by omega) (by omega) (by omega) (by omega) V_h t_l1 (by omega)
    · intro C0
      refine ok_if ?_ ?_
      · intro C1
        exact vj_X9_nameOf_79 hn (by omega) (by omega) (by omega) (by omega) V_h t_l1 (by omega)
      · intro C1
        refine ok_cP (vf_X9_isNamed hn (by omega) (by omega) (by omega) (by omega) (by omega) (by omega) V_h t_l1 (by omega)) ?_; intro u18 e_u18 a_u18 b_u18
        refine ok_if ?_ ?_
        · intro C2
          refine ok_rd (by omega) (gA_8 V_h) ?_; intro v20 e_v20 a_v20 b_v20
          refine ok_add (by omega) ?_; intro v21 e_v21
          exact ih (by omega) (by omega) (by omega) (by omega) (by omega) (by omega) (by omega) (by omega) V_h t_l1 (by omega) (by omega)
        · intro C2
          exact ok_rI V_h (by omega) (by omega)
set_option maxRecDepth 4000 in
theorem vf_X9_nameOf {nn : Nat} (hn : 1000000 ≤ nn) {a1 : Nat} {a2 : Int} {a3 : Int} {h : ms_M} (a_a2 : 0 ≤ a2) (b_a2 : a2 ≤ 2999) (a_a3 : (-2999) ≤ a3) (b_a3 : a3 ≤ 128) (V_h : VS_ h) (t_a1 : a1 < cn_M h ∧ ly_T a1 = 1)  : Ok_ (qf_X9_nameOf nn a1 a2 a3 h) (QI_ 0 1739) := by
  unfold qf_X9_nameOf
  refine ok_if ?_ ?_
  · intro C0
    exact ok_rI V_h (by omega) (by omega)
  · intro C0
    refine ok_if ?_ ?_
    · intro C1
      exfalso; omega
    · intro C1
      refine ok_add (by omega) ?_; intro v25 e_v25
      refine ok_lS t_a1 ?_; intro v26 e_v26
      refine ok_if ?_ ?_
      · intro C2
        refine ok_cP (vf_X9_bucketOf hn (by omega) (by omega) (by omega) (by omega) V_h t_a1 (by omega)) ?_; intro u28 e_u28 a_u28 b_u28
        refine ok_rd (by omega) (gA_9 V_h) ?_; intro v29 e_v29 a_v29 b_v29
        exact vw_X9_nameOf_35 hn _ (by omega) (by omega) (by omega) (by omega) (by omega) (by omega) (by omega) (by omega) V_h t_a1 (by omega) (by omega)
      · intro C2
        exact ok_rI V_h (by omega) (by omega)
set_option maxRecDepth 4000 in
theorem vf_X2_nameKind {nn : Nat} (hn : 1000000 ≤ nn) {a1 : Int} {h : ms_M} (a_a1 : 0 ≤ a1) (b_a1 : a1 ≤ 441) (V_h : VS_ h) (N_h : NM_ h)  : Ok_ (qf_X2_nameKind nn a1 h) (QIR_ 0 1739 (fun u r => (NM_ r))) := by
  unfold qf_X2_nameKind
  refine ok_xl ?_; intro h1 E_h1; have V_h1 : VS_ h1 := by rw [E_h1]; exact wF_11_20 V_h (by omega)
  have N_h1 : NM_ h1 := by rw [E_h1]; exact nm_uf N_h (by decide)
  have T1 : h1 11 20 = 0 := by rw [E_h1]; exact up_s
  refine ok_cVR (vf_X2_addKind hn (by omega) (by omega) V_h1 N_h1) ?_; intro u3 E_u3 V_u3 R_u3
  have N_u3 : NM_ u3 := R_u3
  have T2 := gF_11_20 V_u3
  have T3 := vi_ln (M := u3) (show 31 < 256 by decide); have T4 : (ly_N 31 : Int) = 128 := rfl
  refine ok_cI (vf_X9_nameOf hn (by omega) (by omega) (by omega) (by omega) V_u3 ⟨Nat.lt_of_lt_of_le (by decide) (vi_c V_u3), rfl⟩) ?_; intro u8 E_u8 V_u8 a_u8 b_u8
  have N_u8_2 : NM_ u8.2 := nm_nameOf N_u3 V_u3 (by omega) E_u8
  exact ok_rIR V_u8 (by omega) (by omega) N_u8_2
set_option maxRecDepth 4000 in
theorem vw_X2_nameMethodKind_13 {nn : Nat} (hn : 1000000 ≤ nn) : ∀ (k : Nat) {l1 : Int} {l2 : Int} {h : ms_M} (a_l1 : 0 ≤ l1) (b_l1 : l1 ≤ 95) (a_l2 : 0 ≤ l2) (b_l2 : l2 ≤ 6) (V_h : VS_ h) (N_h : NM_ h)  (hm : 7 - l2 < (k : Int)), Ok_ (qw_X2_nameMethodKind_13 nn k l1 l2 h) (QIR_ 0 1739 (fun u r => (NM_ r))) := by
  intro k
  induction k with
  | zero => intros; exfalso; omega
  | succ k ih =>
    intro l1 l2 h a_l1 b_l1 a_l2 b_l2 V_h N_h hm
    unfold qw_X2_nameMethodKind_13
    refine ok_rd (by omega) (gA_27 V_h) ?_; intro v2 e_v2 a_v2 b_v2
    refine ok_if ?_ ?_
    · intro C0
      refine ok_cV (vf_X2_addKindByte hn (by omega) (by omega) V_h) ?_; intro u4 E_u4 V_u4
      have N_u4 : NM_ u4 := nm_eq N_h (fun k => (ff_X2_addKindByte nn) _ E_u4 7 k (nw_ar rfl k)) ((ff_X2_addKindByte nn) _ E_u4 2 9 rfl)
      refine ok_rd (by omega) (gA_24 V_u4) ?_; intro v6 e_v6 a_v6 b_v6
      refine ok_cVR (vf_X2_addKind hn (by omega) (by omega) V_u4 N_u4) ?_; intro u8 E_u8 V_u8 R_u8
      have N_u8 : NM_ u8 := R_u8
      have T2 := gF_11_20 V_u8
      have T3 := vi_ln (M := u8) (show 31 < 256 by decide); have T4 : (ly_N 31 : Int) = 128 := rfl
      refine ok_cI (vf_X9_nameOf hn (by omega) (by omega) (by omega) (by omega) V_u8 ⟨Nat.lt_of_lt_of_le (by decide) (vi_c V_u8), rfl⟩) ?_; intro u13 E_u13 V_u13 a_u13 b_u13
      have N_u13_2 : NM_ u13.2 := nm_nameOf N_u8 V_u8 (by omega) E_u13
      exact ok_rIR V_u13 (by omega) (by omega) N_u13_2
    · intro C0
      refine ok_cP (vf_X2_parameterType hn (by omega) (by omega) (by omega) (by omega) V_h) ?_; intro u15 e_u15 a_u15 b_u15
      refine ok_cVR (vf_X2_addKind hn (by omega) (by omega) V_h N_h) ?_; intro u17 E_u17 V_u17 R_u17
      have N_u17 : NM_ u17 := R_u17
      refine ok_add (by omega) ?_; intro v18 e_v18
      exact ih (by omega) (by omega) (by omega) (by omega) V_u17 N_u17 (by omega)
set_option maxRecDepth 4000 in
theorem vf_X2_nameMethodKind {nn : Nat} (hn : 1000000 ≤ nn) {a1 : Int} {h : ms_M} (a_a1 : 0 ≤ a1) (b_a1 : a1 ≤ 95) (V_h : VS_ h) (N_h : NM_ h)  : Ok_ (qf_X2_nameMethodKind nn a1 h) (QIR_ 0 1739 (fun u r => (NM_ r))) := by
  unfold qf_X2_nameMethodKind
  refine ok_xl ?_; intro h20 E_h20; have V_h20 : VS_ h20 := by rw [E_h20]; exact wF_11_20 V_h (by omega)
  have N_h20 : NM_ h20 := by rw [E_h20]; exact nm_uf N_h (by decide)
  refine ok_cV (vf_X2_addKindByte hn (by omega) (by omega) V_h20) ?_; intro u22 E_u22 V_u22
  have N_u22 : NM_ u22 := nm_eq N_h20 (fun k => (ff_X2_addKindByte nn) _ E_u22 7 k (nw_ar rfl k)) ((ff_X2_addKindByte nn) _ E_u22 2 9 rfl)
  exact vw_X2_nameMethodKind_13 hn _ (by omega) (by omega) (by omega) (by omega) V_u22 N_u22 (by omega)
set_option maxRecDepth 4000 in
theorem vw_X2_nameKinds_144 {nn : Nat} (hn : 1000000 ≤ nn) : ∀ (k : Nat) {l1 : Int} {h : ms_M} (a_l1 : 0 ≤ l1) (b_l1 : l1 ≤ 96) (V_h : VS_ h) (N_h : NM_ h)  (hm : 97 - l1 < (k : Int)), Ok_ (qw_X2_nameKinds_144 nn k l1 h) (QVR_ (fun r => (NM_ r))) := by
  intro k
  induction k with
  | zero => intros; exfalso; omega
  | succ k ih =>
    intro l1 h a_l1 b_l1 V_h N_h hm
    unfold qw_X2_nameKinds_144
    refine ok_if ?_ ?_
    · intro C0
      exact ok_rVR V_h N_h
    · intro C0
      have T2 := gF_2_11 V_h
      refine ok_if ?_ ?_
      · intro C2
        exact ok_rVR V_h N_h
      · intro C2
        refine ok_cP (vf_X2_isMethod hn (by omega) (by omega) V_h) ?_; intro u6 e_u6 a_u6 b_u6
        have T4 := pr_X2_isMethod e_u6
        refine ok_if ?_ ?_
        · intro C4
          refine ok_add (by omega) ?_; intro v7 e_v7
          exact ih (by omega) (by omega) V_h N_h (by omega)
        · intro C4
          refine ok_cIR (vf_X2_nameMethodKind hn (by omega) (by omega) V_h N_h) ?_; intro u10 E_u10 V_u10 a_u10 b_u10 R_u10
          have N_u10_2 : NM_ u10.2 := R_u10
          refine ok_wA (by omega) ?_; intro h11 E_h11; have V_h11 : VS_ h11 := by rw [E_h11]; exact wA_26 V_u10 (by omega)
          have N_h11 : NM_ h11 := by rw [E_h11]; exact nm_up N_u10_2 (by decide)
          refine ok_add (by omega) ?_; intro v12 e_v12
          exact ih (by omega) (by omega) V_h11 N_h11 (by omega)
set_option maxRecDepth 4000 in
theorem vw_X2_nameKinds_85 {nn : Nat} (hn : 1000000 ≤ nn) : ∀ (k : Nat) {l1 : Int} {h : ms_M} (a_l1 : 0 ≤ l1) (b_l1 : l1 ≤ 96) (V_h : VS_ h) (N_h : NM_ h)  (hm : 97 - l1 < (k : Int)), Ok_ (qw_X2_nameKinds_85 nn k l1 h) (QVR_ (fun r => (NM_ r))) := by
  intro k
  induction k with
  | zero => intros; exfalso; omega
  | succ k ih =>
    intro l1 h a_l1 b_l1 V_h N_h hm
    unfold qw_X2_nameKinds_85
    refine ok_if ?_ ?_
    · intro C0
      exact vw_X2_nameKinds_144 hn _ (by omega) (by omega) V_h N_h (by omega)
    · intro C0
      have T2 := gF_2_11 V_h
      refine ok_if ?_ ?_
      · intro C2
        exact vw_X2_nameKinds_144 hn _ (by omega) (by omega) V_h N_h (by omega)
      · intro C2
        refine ok_rem (n := 12) (by omega) ?_; intro v20 e_v20
        refine ok_div (n := 12) (by omega) ?_; intro v22 e_v22
        refine ok_rd (by omega) (gA_17 V_h) ?_; intro v23 e_v23 a_v23 b_v23
        refine ok_if ?_ ?_
        · intro C3
          refine ok_add (by omega) ?_; intro v24 e_v24
          exact ih (by omega) (by omega) V_h N_h (by omega)
        · intro C3
          refine ok_rd (by omega) (gA_19 V_h) ?_; intro v27 e_v27 a_v27 b_v27
          refine ok_cIR (vf_X2_nameKind hn (by omega) (by omega) V_h N_h) ?_; intro u29 E_u29 V_u29 a_u29 b_u29 R_u29
          have N_u29_2 : NM_ u29.2 := R_u29
          refine ok_wA (by omega) ?_; intro h30 E_h30; have V_h30 : VS_ h30 := by rw [E_h30]; exact wA_20 V_u29 (by omega)
          have N_h30 : NM_ h30 := by rw [E_h30]; exact nm_up N_u29_2 (by decide)
          refine ok_add (by omega) ?_; intro v31 e_v31
          exact ih (by omega) (by omega) V_h30 N_h30 (by omega)
set_option maxRecDepth 4000 in
theorem vj_X2_nameKinds_59 {nn : Nat} (hn : 1000000 ≤ nn) {qkk_2 : Int → ms_M → Option ms_M} {K_kk_2 : Int} (hk_kk_2 : ∀ {l1 : Int} {h : ms_M} (a_l1 : 0 ≤ l1) (b_l1 : l1 ≤ 16) (V_h : VS_ h) (N_h : NM_ h) (_ : 17 - l1 < K_kk_2), Ok_ (qkk_2 l1 h) (QVR_ (fun r => (NM_ r)))) {l1 : Int} {s0 : Int} {s1 : Int} {h : ms_M} (a_l1 : 0 ≤ l1) (b_l1 : l1 ≤ 15) (a_s0 : 0 ≤ s0) (b_s0 : s0 ≤ 2147483647) (a_s1 : 0 ≤ s1) (b_s1 : s1 ≤ 15) (V_h : VS_ h) (N_h : NM_ h) (hm_kk_2 : 17 - l1 + 0 ≤ K_kk_2) : Ok_ (qj_X2_nameKinds_59 nn qkk_2 l1 s0 s1 h) (QVR_ (fun r => (NM_ r))) := by
  unfold qj_X2_nameKinds_59
  refine ok_wA (by omega) ?_; intro h35 E_h35; have V_h35 : VS_ h35 := by rw [E_h35]; exact wA_30 V_h (by omega)
  have N_h35 : NM_ h35 := by rw [E_h35]; exact nm_up N_h (by decide)
  refine ok_add (by omega) ?_; intro v37 e_v37
  refine ok_add (by omega) ?_; intro v38 e_v38
  refine ok_cIR (vf_X2_nameKind hn (by omega) (by omega) V_h35 N_h35) ?_; intro u40 E_u40 V_u40 a_u40 b_u40 R_u40
  have N_u40_2 : NM_ u40.2 := R_u40
  refine ok_wA (by omega) ?_; intro h41 E_h41; have V_h41 : VS_ h41 := by rw [E_h41]; exact wA_30 V_u40 (by omega)
  have N_h41 : NM_ h41 := by rw [E_h41]; exact nm_up N_u40_2 (by decide)
  refine ok_add (by omega) ?_; intro v42 e_v42
  exact hk_kk_2 (by omega) (by omega) V_h41 N_h41 (by omega)
set_option maxRecDepth 4000 in
theorem vw_X2_nameKinds_2 {nn : Nat} (hn : 1000000 ≤ nn) : ∀ (k : Nat) {l1 : Int} {h : ms_M} (a_l1 : 0 ≤ l1) (b_l1 : l1 ≤ 16) (V_h : VS_ h) (N_h : NM_ h)  (hm : 17 - l1 < (k : Int)), Ok_ (qw_X2_nameKinds_2 nn k l1 h) (QVR_ (fun r => (NM_ r))) := by
  intro k
  induction k with
  | zero => intros; exfalso; omega
  | succ k ih =>
    intro l1 h a_l1 b_l1 V_h N_h hm
    unfold qw_X2_nameKinds_2
    have T1 := gF_11_2 V_h
    refine ok_add (by omega) ?_; intro v44 e_v44
    refine ok_if ?_ ?_
    · intro C1
      exact vw_X2_nameKinds_85 hn _ (by omega) (by omega) V_h N_h (by omega)
    · intro C1
      refine ok_if ?_ ?_
      · intro C2
        exact vw_X2_nameKinds_85 hn _ (by omega) (by omega) V_h N_h (by omega)
      · intro C2
        have T4 := gF_2_11 V_h
        refine ok_if ?_ ?_
        · intro C4
          exact vw_X2_nameKinds_85 hn _ (by omega) (by omega) V_h N_h (by omega)
        · intro C4
          refine ok_if ?_ ?_
          · intro C5
            refine ok_sub (by omega) ?_; intro v49 e_v49
            refine ok_cP (vf_X2_tokenOfClass hn (by omega) (by omega) V_h) ?_; intro u51 e_u51 a_u51 b_u51
            refine ok_cP (vf_X9_valueAt hn (by omega) (by omega) V_h) ?_; intro u53 e_u53 a_u53 b_u53
            exact vj_X2_nameKinds_59 hn ih (by omega) (by omega) (by omega) (by omega) (by omega) (by omega) V_h N_h (by omega)
          · intro C5
            exact vj_X2_nameKinds_59 hn ih (by omega) (by omega) (by omega) (by omega) (by omega) (by omega) V_h N_h (by omega)
set_option maxRecDepth 4000 in
theorem vf_X2_nameKinds {nn : Nat} (hn : 1000000 ≤ nn) {h : ms_M} (V_h : VS_ h) (N_h : NM_ h)  : Ok_ (qf_X2_nameKinds nn h) (QVR_ (fun r => (NM_ r))) := by
  unfold qf_X2_nameKinds
  exact vw_X2_nameKinds_2 hn _ (by omega) (by omega) V_h N_h (by omega)
