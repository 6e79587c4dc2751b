section
set_option maxRecDepth 4000 in
theorem vj_X13_member_360 {nn : Nat} (hn : 1000000 ≤ nn) {l3 : Int} {h : ms_M} (a_l3 : 0 ≤ l3) (b_l3 : l3 ≤ 799) (V_h : VS_ h) (x_0 : h 160 23 + 1 ≤ h 160 8) (x_1 : h 160 22 ≤ 2 * h 160 23 + 30) (x_2 : 2 * h 160 39 ≤ h 160 23) (N_h : EK_ h)  : Ok_ (qj_X13_member_360 nn l3 h) (QVR_ (fun r => (r 160 8 = h 160 8) ∧ (h 160 9 = 0 ∨ ¬ r 160 9 = 0) ∧ (h 160 23 ≤ r 160 23) ∧ (r 160 23 + 1 ≤ h 160 8) ∧ (h 160 22 ≤ r 160 22) ∧ (r 160 22 + 2 * h 160 23 ≤ h 160 22 + 2 * r 160 23 + 2) ∧ (2 * r 160 39 ≤ r 160 23) ∧ (¬ r 160 9 = 0 ∨ (r 160 22 + 2 * h 160 23 ≤ h 160 22 + 2 * r 160 23 + 0)) ∧ (r 160 28 = h 160 28))) := by
  unfold qj_X13_member_360
  have T1 := gF_160_8 V_h
  have T2 := gF_160_9 V_h
  have T3 := gF_160_22 V_h
  have T4 := gF_160_23 V_h
  have T5 := gF_160_24 V_h
  have T6 := gF_160_28 V_h
  have T7 := gF_160_39 V_h
  refine ok_cVR (vf_X13_sign_ hn (by omega) (by omega) V_h (by omega) N_h) ?_; intro u2 E_u2 V_u2 R_u2
  have N_u2 : EK_ u2 := ek_fr V_h N_h (fun c k z => (ff_X13_sign_ nn) _ E_u2 c k z) rfl
  have T8 : u2 160 8 = h 160 8 := (ff_X13_sign_ nn) _ E_u2 160 8 rfl
  have T9 : u2 160 22 = h 160 22 := (ff_X13_sign_ nn) _ E_u2 160 22 rfl
  have T10 : u2 160 24 = h 160 24 := (ff_X13_sign_ nn) _ E_u2 160 24 rfl
  have T11 : u2 160 28 = h 160 28 := (ff_X13_sign_ nn) _ E_u2 160 28 rfl
  have T12 : u2 160 39 = h 160 39 := (ff_X13_sign_ nn) _ E_u2 160 39 rfl
  have T13 := gF_160_9 V_u2
  have T14 := gF_160_23 V_u2
  refine ok_cIR (vf_X13_block hn (by omega) (by omega) V_u2 (by omega) (by omega) (by omega) N_u2) ?_; intro u5 E_u5 V_u5 a_u5 b_u5 R_u5
  have N_u5_2 : EK_ u5.2 := R_u5.1
  have T15 : u5.2 160 8 = u2 160 8 := (ff_X13_block nn) _ E_u5 160 8 rfl
  have T16 : u5.2 160 24 = u2 160 24 := (ff_X13_block nn) _ E_u5 160 24 rfl
  have T17 : u5.2 160 28 = u2 160 28 := (ff_X13_block nn) _ E_u5 160 28 rfl
  have T18 : u5.2 160 39 = u2 160 39 := (ff_X13_block nn) _ E_u5 160 39 rfl
  have T19 := gF_160_9 V_u5
  have T20 := gF_160_22 V_u5
  have T21 := gF_160_23 V_u5
  refine ok_wA (by omega) ?_; intro h6 E_h6; have V_h6 : VS_ h6 := by rw [E_h6]; exact wA_190 V_u5 (by omega)
  have N_h6 : EK_ h6 := by rw [E_h6]; exact ek_ua V_u5 N_u5_2 rfl
  have T22 : h6 160 8 = u5.2 160 8 := by rw [E_h6]; exact up_n (fun z => absurd z.1 (by decide))
  have T23 : h6 160 24 = u5.2 160 24 := by rw [E_h6]; exact up_n (fun z => absurd z.1 (by decide))
  have T24 : h6 160 28 = u5.2 160 28 := by rw [E_h6]; exact up_n (fun z => absurd z.1 (by decide))
  have T25 : h6 160 39 = u5.2 160 39 := by rw [E_h6]; exact up_n (fun z => absurd z.1 (by decide))
  have T26 : h6 160 9 = u5.2 160 9 := by rw [E_h6]; exact up_n (fun z => absurd z.1 (by decide))
  have T27 : h6 160 22 = u5.2 160 22 := by rw [E_h6]; exact up_n (fun z => absurd z.1 (by decide))
  have T28 : h6 160 23 = u5.2 160 23 := by rw [E_h6]; exact up_n (fun z => absurd z.1 (by decide))
  exact ok_rVR V_h6 (by omega)
set_option maxRecDepth 4000 in
theorem vj_X13_member_269 {nn : Nat} (hn : 1000000 ≤ nn) {qkk_234 : Int → ms_M → Option ms_M} {K_kk_234 : Int} (hk_kk_234 : ∀ {l3 : Int} {h : ms_M} (a_l3 : 0 ≤ l3) (b_l3 : l3 ≤ 799) (V_h : VS_ h) (x_0 : h 160 23 + 1 ≤ h 160 8) (x_1 : h 160 22 ≤ 2 * h 160 23 + 30) (x_2 : 2 * h 160 39 ≤ h 160 23) (x_3 : h 189 (l3).toNat ≤ h 160 39) (N_h : EK_ h) (_ : 12 * (3001 - h 160 23) - h 160 9 < K_kk_234), Ok_ (qkk_234 l3 h) (QVR_ (fun r => (r 160 8 = h 160 8) ∧ (h 160 9 = 0 ∨ ¬ r 160 9 = 0) ∧ (h 160 23 ≤ r 160 23) ∧ (r 160 23 + 1 ≤ h 160 8) ∧ (h 160 22 ≤ r 160 22) ∧ (r 160 22 + 2 * h 160 23 ≤ h 160 22 + 2 * r 160 23 + 2) ∧ (2 * r 160 39 ≤ r 160 23) ∧ (¬ r 160 9 = 0 ∨ (r 160 22 + 2 * h 160 23 ≤ h 160 22 + 2 * r 160 23 + 0)) ∧ (r 160 28 = h 160 28)))) {l3 : Int} {h : ms_M} (a_l3 : 0 ≤ l3) (b_l3 : l3 ≤ 799) (V_h : VS_ h) (x_0 : h 160 23 + 1 ≤ h 160 8) (x_1 : h 160 22 ≤ 2 * h 160 23 + 30) (x_2 : 2 * h 160 39 ≤ h 160 23) (x_3 : h 189 (l3).toNat ≤ h 160 39) (N_h : EK_ h) (hm_kk_234 : 12 * (3001 - h 160 23) - h 160 9 + 0 ≤ K_kk_234) : Ok_ (qj_X13_member_269 nn qkk_234 l3 h) (QVR_ (fun r => (r 160 8 = h 160 8) ∧ (h 160 9 = 0 ∨ ¬ r 160 9 = 0) ∧ (h 160 23 ≤ r 160 23) ∧ (r 160 23 + 1 ≤ h 160 8) ∧ (h 160 22 ≤ r 160 22) ∧ (r 160 22 + 2 * h 160 23 ≤ h 160 22 + 2 * r 160 23 + 2) ∧ (2 * r 160 39 ≤ r 160 23) ∧ (¬ r 160 9 = 0 ∨ (r 160 22 + 2 * h 160 23 ≤ h 160 22 + 2 * r 160 23 + 0)) ∧ (r 160 28 = h 160 28))) := by
  unfold qj_X13_member_269
  have T1 := gF_160_8 V_h
  have T2 := gF_160_9 V_h
  have T3 := gF_160_22 V_h
  have T4 := gF_160_23 V_h
  have T5 := gF_160_24 V_h
  have T6 := gF_160_28 V_h
  have T7 := gF_160_39 V_h
  refine ok_cVR (vf_X13_type hn V_h (by omega) N_h) ?_; intro u8 E_u8 V_u8 R_u8
  have N_u8 : EK_ u8 := ek_fr V_h N_h (fun c k z => (ff_X13_type nn) _ E_u8 c k z) rfl
  have T8 : u8 160 8 = h 160 8 := (ff_X13_type nn) _ E_u8 160 8 rfl
  have T9 : u8 160 22 = h 160 22 := (ff_X13_type nn) _ E_u8 160 22 rfl
  have T10 : u8 160 24 = h 160 24 := (ff_X13_type nn) _ E_u8 160 24 rfl
  have T11 : u8 160 28 = h 160 28 := (ff_X13_type nn) _ E_u8 160 28 rfl
  have T12 : u8 160 39 = h 160 39 := (ff_X13_type nn) _ E_u8 160 39 rfl
  have T13 : u8 189 (l3).toNat = h 189 (l3).toNat := (ff_X13_type nn) _ E_u8 189 (l3).toNat (nw_ar rfl _)
  have T14 := gF_160_9 V_u8
  have T15 := gF_160_23 V_u8
  refine ok_cIR (vf_X13_name hn V_u8 (by omega) N_u8) ?_; intro u10 E_u10 V_u10 a_u10 b_u10 R_u10
  have N_u10_2 : EK_ u10.2 := ek_fr V_u8 N_u8 (fun c k z => (ff_X13_name nn) _ E_u10 c k z) rfl
  have T16 : u10.2 160 8 = u8 160 8 := (ff_X13_name nn) _ E_u10 160 8 rfl
  have T17 : u10.2 160 22 = u8 160 22 := (ff_X13_name nn) _ E_u10 160 22 rfl
  have T18 : u10.2 160 24 = u8 160 24 := (ff_X13_name nn) _ E_u10 160 24 rfl
  have T19 : u10.2 160 28 = u8 160 28 := (ff_X13_name nn) _ E_u10 160 28 rfl
  have T20 : u10.2 160 39 = u8 160 39 := (ff_X13_name nn) _ E_u10 160 39 rfl
  have T21 : u10.2 189 (l3).toNat = u8 189 (l3).toNat := (ff_X13_name nn) _ E_u10 189 (l3).toNat (nw_ar rfl _)
  have T22 := gF_160_9 V_u10
  have T23 := gF_160_23 V_u10
  refine ok_if ?_ ?_
  · intro C23
    have T25 := gF_160_45 V_u10
    refine ok_wA (by omega) ?_; intro h15 E_h15; have V_h15 : VS_ h15 := by rw [E_h15]; exact wA_191 V_u10 (by omega)
    have N_h15 : EK_ h15 := by rw [E_h15]; exact ek_ua V_u10 N_u10_2 rfl
    have T26 : h15 160 8 = u10.2 160 8 := by rw [E_h15]; exact up_n (fun z => absurd z.1 (by decide))
    have T27 : h15 160 22 = u10.2 160 22 := by rw [E_h15]; exact up_n (fun z => absurd z.1 (by decide))
    have T28 : h15 160 24 = u10.2 160 24 := by rw [E_h15]; exact up_n (fun z => absurd z.1 (by decide))
    have T29 : h15 160 28 = u10.2 160 28 := by rw [E_h15]; exact up_n (fun z => absurd z.1 (by decide))
    have T30 : h15 160 39 = u10.2 160 39 := by rw [E_h15]; exact up_n (fun z => absurd z.1 (by decide))
    have T31 : h15 189 (l3).toNat = u10.2 189 (l3).toNat := by rw [E_h15]; exact up_n (fun z => absurd z.1 (by decide))
    have T32 : h15 160 9 = u10.2 160 9 := by rw [E_h15]; exact up_n (fun z => absurd z.1 (by decide))
    have T33 : h15 160 23 = u10.2 160 23 := by rw [E_h15]; exact up_n (fun z => absurd z.1 (by decide))
    have T34 := gF_160_46 V_h15
    refine ok_wA (by omega) ?_; intro h19 E_h19; have V_h19 : VS_ h19 := by rw [E_h19]; exact wA_192 V_h15 (by omega)
    have N_h19 : EK_ h19 := by rw [E_h19]; exact ek_ua V_h15 N_h15 rfl
    have T35 : h19 160 8 = h15 160 8 := by rw [E_h19]; exact up_n (fun z => absurd z.1 (by decide))
    have T36 : h19 160 22 = h15 160 22 := by rw [E_h19]; exact up_n (fun z => absurd z.1 (by decide))
    have T37 : h19 160 24 = h15 160 24 := by rw [E_h19]; exact up_n (fun z => absurd z.1 (by decide))
    have T38 : h19 160 28 = h15 160 28 := by rw [E_h19]; exact up_n (fun z => absurd z.1 (by decide))
    have T39 : h19 160 39 = h15 160 39 := by rw [E_h19]; exact up_n (fun z => absurd z.1 (by decide))
    have T40 : h19 189 (l3).toNat = h15 189 (l3).toNat := by rw [E_h19]; exact up_n (fun z => absurd z.1 (by decide))
    have T41 : h19 160 9 = h15 160 9 := by rw [E_h19]; exact up_n (fun z => absurd z.1 (by decide))
    have T42 : h19 160 23 = h15 160 23 := by rw [E_h19]; exact up_n (fun z => absurd z.1 (by decide))
    have T43 := gF_160_47 V_h19
    refine ok_wZ (by omega) (by omega) ?_; intro h23 E_h23; have V_h23 : VS_ h23 := by rw [E_h23]; exact wA_193 V_h19 (by omega)
    have N_h23 : EK_ h23 := by rw [E_h23]; exact ek_ua V_h19 N_h19 rfl
    have T44 : h23 160 8 = h19 160 8 := by rw [E_h23]; exact up_n (fun z => absurd z.1 (by decide))
    have T45 : h23 160 22 = h19 160 22 := by rw [E_h23]; exact up_n (fun z => absurd z.1 (by decide))
    have T46 : h23 160 24 = h19 160 24 := by rw [E_h23]; exact up_n (fun z => absurd z.1 (by decide))
    have T47 : h23 160 28 = h19 160 28 := by rw [E_h23]; exact up_n (fun z => absurd z.1 (by decide))
    have T48 : h23 160 39 = h19 160 39 := by rw [E_h23]; exact up_n (fun z => absurd z.1 (by decide))
    have T49 : h23 189 (l3).toNat = h19 189 (l3).toNat := by rw [E_h23]; exact up_n (fun z => absurd z.1 (by decide))
    have T50 : h23 160 9 = h19 160 9 := by rw [E_h23]; exact up_n (fun z => absurd z.1 (by decide))
    have T51 : h23 160 23 = h19 160 23 := by rw [E_h23]; exact up_n (fun z => absurd z.1 (by decide))
    refine ok_wA (by omega) ?_; intro h26 E_h26; have V_h26 : VS_ h26 := by rw [E_h26]; exact wA_194 V_h23 (by omega)
    have N_h26 : EK_ h26 := by rw [E_h26]; exact ek_ua V_h23 N_h23 rfl
    have T52 : h26 160 8 = h23 160 8 := by rw [E_h26]; exact up_n (fun z => absurd z.1 (by decide))
    have T53 : h26 160 22 = h23 160 22 := by rw [E_h26]; exact up_n (fun z => absurd z.1 (by decide))
    have T54 : h26 160 24 = h23 160 24 := by rw [E_h26]; exact up_n (fun z => absurd z.1 (by decide))
    have T55 : h26 160 28 = h23 160 28 := by rw [E_h26]; exact up_n (fun z => absurd z.1 (by decide))
    have T56 : h26 160 39 = h23 160 39 := by rw [E_h26]; exact up_n (fun z => absurd z.1 (by decide))
    have T57 : h26 189 (l3).toNat = h23 189 (l3).toNat := by rw [E_h26]; exact up_n (fun z => absurd z.1 (by decide))
    have T58 : h26 160 9 = h23 160 9 := by rw [E_h26]; exact up_n (fun z => absurd z.1 (by decide))
    have T59 : h26 160 23 = h23 160 23 := by rw [E_h26]; exact up_n (fun z => absurd z.1 (by decide))
    refine ok_add (by omega) ?_; intro v28 e_v28
    refine ok_xl ?_; intro h29 E_h29; have V_h29 : VS_ h29 := by rw [E_h29]; exact wF_160_39 V_h26 (by omega)
    have N_h29 : EK_ h29 := by rw [E_h29]; exact ek_up V_h26 N_h26 rfl
    have T60 : h29 160 8 = h26 160 8 := by rw [E_h29]; exact up_n (by decide)
    have T61 : h29 160 22 = h26 160 22 := by rw [E_h29]; exact up_n (by decide)
    have T62 : h29 160 24 = h26 160 24 := by rw [E_h29]; exact up_n (by decide)
    have T63 : h29 160 28 = h26 160 28 := by rw [E_h29]; exact up_n (by decide)
    have T64 : h29 189 (l3).toNat = h26 189 (l3).toNat := by rw [E_h29]; exact up_n (fun z => absurd z.1 (by decide))
    have T65 : h29 160 9 = h26 160 9 := by rw [E_h29]; exact up_n (by decide)
    have T66 : h29 160 23 = h26 160 23 := by rw [E_h29]; exact up_n (by decide)
    have T67 : h29 160 39 = v28 := by rw [E_h29]; exact up_s
    refine ok_rd (by omega) (gA_189 V_h29) ?_; intro v31 e_v31 a_v31 b_v31
    refine ok_add (by omega) ?_; intro v32 e_v32
    refine ok_wA (by omega) ?_; intro h33 E_h33; have V_h33 : VS_ h33 := by rw [E_h33]; exact wA_189 V_h29 (by omega)
    have N_h33 : EK_ h33 := by rw [E_h33]; exact ek_ua V_h29 N_h29 rfl
    have T68 : h33 160 8 = h29 160 8 := by rw [E_h33]; exact up_n (fun z => absurd z.1 (by decide))
    have T69 : h33 160 22 = h29 160 22 := by rw [E_h33]; exact up_n (fun z => absurd z.1 (by decide))
    have T70 : h33 160 24 = h29 160 24 := by rw [E_h33]; exact up_n (fun z => absurd z.1 (by decide))
    have T71 : h33 160 28 = h29 160 28 := by rw [E_h33]; exact up_n (fun z => absurd z.1 (by decide))
    have T72 : h33 160 9 = h29 160 9 := by rw [E_h33]; exact up_n (fun z => absurd z.1 (by decide))
    have T73 : h33 160 23 = h29 160 23 := by rw [E_h33]; exact up_n (fun z => absurd z.1 (by decide))
    have T74 : h33 160 39 = h29 160 39 := by rw [E_h33]; exact up_n (fun z => absurd z.1 (by decide))
    have T75 : h33 189 (l3).toNat = v32 := by rw [E_h33]; exact up_s
    exact ok_mV (hk_kk_234 (by omega) (by omega) V_h33 (by omega) (by omega) (by omega) (by omega) N_h33 (by omega)) (fun _ V_r R_r => by have := gF_160_8 V_r; have := gF_160_9 V_r; have := gF_160_22 V_r; have := gF_160_23 V_r; have := gF_160_24 V_r; have := gF_160_28 V_r; have := gF_160_39 V_r; omega)
  · intro C23
    exact ok_rVR V_u10 (by omega)
set_option maxRecDepth 4000 in
theorem vw_X13_member_234 {nn : Nat} (hn : 1000000 ≤ nn) : ∀ (k : Nat) {l3 : Int} {h : ms_M} (a_l3 : 0 ≤ l3) (b_l3 : l3 ≤ 799) (V_h : VS_ h) (x_0 : h 160 23 + 1 ≤ h 160 8) (x_1 : h 160 22 ≤ 2 * h 160 23 + 30) (x_2 : 2 * h 160 39 ≤ h 160 23) (x_3 : h 189 (l3).toNat ≤ h 160 39) (N_h : EK_ h)  (hm : 12 * (3001 - h 160 23) - h 160 9 < (k : Int)), Ok_ (qw_X13_member_234 nn k l3 h) (QVR_ (fun r => (r 160 8 = h 160 8) ∧ (h 160 9 = 0 ∨ ¬ r 160 9 = 0) ∧ (h 160 23 ≤ r 160 23) ∧ (r 160 23 + 1 ≤ h 160 8) ∧ (h 160 22 ≤ r 160 22) ∧ (r 160 22 + 2 * h 160 23 ≤ h 160 22 + 2 * r 160 23 + 2) ∧ (2 * r 160 39 ≤ r 160 23) ∧ (¬ r 160 9 = 0 ∨ (r 160 22 + 2 * h 160 23 ≤ h 160 22 + 2 * r 160 23 + 0)) ∧ (r 160 28 = h 160 28))) := by
  intro k
  induction k with
  | zero => intro l3 h a_l3 b_l3 V_h x_0 x_1 x_2 x_3 N_h hm; have := gF_160_23 V_h; have := gF_160_9 V_h; exfalso; omega
  | succ k ih =>
    intro l3 h a_l3 b_l3 V_h x_0 x_1 x_2 x_3 N_h hm
    unfold qw_X13_member_234
    have T1 := gF_160_8 V_h
    have T2 := gF_160_9 V_h
    have T3 := gF_160_22 V_h
    have T4 := gF_160_23 V_h
    have T5 := gF_160_24 V_h
    have T6 := gF_160_28 V_h
    have T7 := gF_160_39 V_h
    refine ok_if ?_ ?_
    · intro C7
      exact ok_mV (vj_X13_member_360 hn (by omega) (by omega) V_h (by omega) (by omega) (by omega) N_h) (fun _ V_r R_r => by have := gF_160_8 V_r; have := gF_160_9 V_r; have := gF_160_22 V_r; have := gF_160_23 V_r; have := gF_160_24 V_r; have := gF_160_28 V_r; have := gF_160_39 V_r; omega)
    · intro C7
      refine ok_cP (vf_X13_isSign hn (by omega) (by omega) (by omega) (by omega) V_h) ?_; intro u38 e_u38 a_u38 b_u38
      have T9 := lm_ek_isSign N_h (by omega) e_u38
      refine ok_if ?_ ?_
      · intro C9
        exact ok_mV (vj_X13_member_360 hn (by omega) (by omega) V_h (by omega) (by omega) (by omega) N_h) (fun _ V_r R_r => by have := gF_160_8 V_r; have := gF_160_9 V_r; have := gF_160_22 V_r; have := gF_160_23 V_r; have := gF_160_24 V_r; have := gF_160_28 V_r; have := gF_160_39 V_r; omega)
      · intro C9
        refine ok_rd (by omega) (gA_189 V_h) ?_; intro v40 e_v40 a_v40 b_v40
        refine ok_if ?_ ?_
        · intro C10
          exact ok_mV (vj_X13_member_269 hn ih (by omega) (by omega) V_h (by omega) (by omega) (by omega) (by omega) N_h (by omega)) (fun _ V_r R_r => by have := gF_160_8 V_r; have := gF_160_9 V_r; have := gF_160_22 V_r; have := gF_160_23 V_r; have := gF_160_24 V_r; have := gF_160_28 V_r; have := gF_160_39 V_r; omega)
        · intro C10
          refine ok_cVR (vf_X13_sign_ hn (by omega) (by omega) V_h (by omega) N_h) ?_; intro u42 E_u42 V_u42 R_u42
          have N_u42 : EK_ u42 := ek_fr V_h N_h (fun c k z => (ff_X13_sign_ nn) _ E_u42 c k z) rfl
          have T12 : u42 160 8 = h 160 8 := (ff_X13_sign_ nn) _ E_u42 160 8 rfl
          have T13 : u42 160 22 = h 160 22 := (ff_X13_sign_ nn) _ E_u42 160 22 rfl
          have T14 : u42 160 24 = h 160 24 := (ff_X13_sign_ nn) _ E_u42 160 24 rfl
          have T15 : u42 160 28 = h 160 28 := (ff_X13_sign_ nn) _ E_u42 160 28 rfl
          have T16 : u42 160 39 = h 160 39 := (ff_X13_sign_ nn) _ E_u42 160 39 rfl
          have T17 : u42 189 (l3).toNat = h 189 (l3).toNat := (ff_X13_sign_ nn) _ E_u42 189 (l3).toNat (nw_ar rfl _)
          have T18 := gF_160_9 V_u42
          have T19 := gF_160_23 V_u42
          exact ok_mV (vj_X13_member_269 hn ih (by omega) (by omega) V_u42 (by omega) (by omega) (by omega) (by omega) N_u42 (by omega)) (fun _ V_r R_r => by have := gF_160_8 V_r; have := gF_160_9 V_r; have := gF_160_22 V_r; have := gF_160_23 V_r; have := gF_160_24 V_r; have := gF_160_28 V_r; have := gF_160_39 V_r; omega)
set_option maxRecDepth 4000 in
theorem vj_X13_member_170 {nn : Nat} (hn : 1000000 ≤ nn) {l1 : Int} {l2 : Int} {l3 : Int} {s0 : Int} {s1 : Int} {h : ms_M} (a_l1 : 0 ≤ l1) (b_l1 : l1 ≤ 1) (a_l2 : 0 ≤ l2) (b_l2 : l2 ≤ 1) (a_l3 : 0 ≤ l3) (b_l3 : l3 ≤ 799) (a_s0 : 0 ≤ s0) (b_s0 : s0 ≤ 2) (a_s1 : 0 ≤ s1) (b_s1 : s1 ≤ 799) (V_h : VS_ h) (x_0 : h 160 23 + 1 ≤ h 160 8) (x_1 : h 160 22 ≤ 2 * h 160 23 + 30) (x_2 : 2 * h 160 39 ≤ h 160 23) (x_3 : h 160 28 ≤ 799) (x_4 : s1 = l3) (x_5 : h 189 (l3).toNat = 0) (N_h : EK_ h)  : Ok_ (qj_X13_member_170 nn l1 l2 l3 s0 s1 h) (QVR_ (fun r => (r 160 8 = h 160 8) ∧ (h 160 9 = 0 ∨ ¬ r 160 9 = 0) ∧ (h 160 23 ≤ r 160 23) ∧ (r 160 23 + 1 ≤ h 160 8) ∧ (h 160 22 ≤ r 160 22) ∧ (r 160 22 + 2 * h 160 23 ≤ h 160 22 + 2 * r 160 23 + 2) ∧ (2 * r 160 39 ≤ r 160 23) ∧ (h 160 28 ≤ r 160 28 ∧ r 160 28 ≤ h 160 28 + 1) ∧ (¬ r 160 9 = 0 ∨ (r 160 28 = h 160 28 + 1 ∧ h 160 23 + 1 ≤ r 160 23 ∧ r 160 22 + 2 * h 160 23 ≤ h 160 22 + 2 * r 160 23 + 0)))) := by
  unfold qj_X13_member_170
  have T1 := gF_160_8 V_h
  have T2 := gF_160_9 V_h
  have T3 := gF_160_22 V_h
  have T4 := gF_160_23 V_h
  have T5 := gF_160_24 V_h
  have T6 := gF_160_28 V_h
  have T7 := gF_160_39 V_h
  refine ok_wA (by omega) ?_; intro h46 E_h46; have V_h46 : VS_ h46 := by rw [E_h46]; exact wA_182 V_h (by omega)
  have N_h46 : EK_ h46 := by rw [E_h46]; exact ek_ua V_h N_h rfl
  have T8 : h46 160 8 = h 160 8 := by rw [E_h46]; exact up_n (fun z => absurd z.1 (by decide))
  have T9 : h46 160 9 = h 160 9 := by rw [E_h46]; exact up_n (fun z => absurd z.1 (by decide))
  have T10 : h46 160 22 = h 160 22 := by rw [E_h46]; exact up_n (fun z => absurd z.1 (by decide))
  have T11 : h46 160 23 = h 160 23 := by rw [E_h46]; exact up_n (fun z => absurd z.1 (by decide))
  have T12 : h46 160 24 = h 160 24 := by rw [E_h46]; exact up_n (fun z => absurd z.1 (by decide))
  have T13 : h46 160 28 = h 160 28 := by rw [E_h46]; exact up_n (fun z => absurd z.1 (by decide))
  have T14 : h46 160 39 = h 160 39 := by rw [E_h46]; exact up_n (fun z => absurd z.1 (by decide))
  have T15 : h46 189 (l3).toNat = h 189 (l3).toNat := by rw [E_h46]; exact up_n (fun z => absurd z.1 (by decide))
  refine ok_if ?_ ?_
  · intro C15
    refine ok_add (by omega) ?_; intro v49 e_v49
    refine ok_xl ?_; intro h50 E_h50; have V_h50 : VS_ h50 := by rw [E_h50]; exact wF_160_28 V_h46 (by omega)
    have N_h50 : EK_ h50 := by rw [E_h50]; exact ek_up V_h46 N_h46 rfl
    have T17 : h50 160 8 = h46 160 8 := by rw [E_h50]; exact up_n (by decide)
    have T18 : h50 160 9 = h46 160 9 := by rw [E_h50]; exact up_n (by decide)
    have T19 : h50 160 22 = h46 160 22 := by rw [E_h50]; exact up_n (by decide)
    have T20 : h50 160 23 = h46 160 23 := by rw [E_h50]; exact up_n (by decide)
    have T21 : h50 160 24 = h46 160 24 := by rw [E_h50]; exact up_n (by decide)
    have T22 : h50 160 39 = h46 160 39 := by rw [E_h50]; exact up_n (by decide)
    have T23 : h50 189 (l3).toNat = h46 189 (l3).toNat := by rw [E_h50]; exact up_n (fun z => absurd z.1 (by decide))
    have T24 : h50 160 28 = v49 := by rw [E_h50]; exact up_s
    refine ok_if ?_ ?_
    · intro C24
      refine ok_cVR (vf_X13_sign_ hn (by omega) (by omega) V_h50 (by omega) N_h50) ?_; intro u52 E_u52 V_u52 R_u52
      have N_u52 : EK_ u52 := ek_fr V_h50 N_h50 (fun c k z => (ff_X13_sign_ nn) _ E_u52 c k z) rfl
      have T26 : u52 160 8 = h50 160 8 := (ff_X13_sign_ nn) _ E_u52 160 8 rfl
      have T27 : u52 160 22 = h50 160 22 := (ff_X13_sign_ nn) _ E_u52 160 22 rfl
      have T28 : u52 160 24 = h50 160 24 := (ff_X13_sign_ nn) _ E_u52 160 24 rfl
      have T29 : u52 160 39 = h50 160 39 := (ff_X13_sign_ nn) _ E_u52 160 39 rfl
      have T30 : u52 189 (l3).toNat = h50 189 (l3).toNat := (ff_X13_sign_ nn) _ E_u52 189 (l3).toNat (nw_ar rfl _)
      have T31 : u52 160 28 = h50 160 28 := (ff_X13_sign_ nn) _ E_u52 160 28 rfl
      have T32 := gF_160_9 V_u52
      have T33 := gF_160_23 V_u52
      exact ok_mV (vw_X13_member_234 hn _ (by omega) (by omega) V_u52 (by omega) (by omega) (by omega) (by omega) N_u52 (by omega)) (fun _ V_r R_r => by have := gF_160_8 V_r; have := gF_160_9 V_r; have := gF_160_22 V_r; have := gF_160_23 V_r; have := gF_160_24 V_r; have := gF_160_28 V_r; have := gF_160_39 V_r; omega)
    · intro C24
      refine ok_if ?_ ?_
      · intro C33
        refine ok_cVR (vf_X13_sign_ hn (by omega) (by omega) V_h50 (by omega) N_h50) ?_; intro u54 E_u54 V_u54 R_u54
        have N_u54 : EK_ u54 := ek_fr V_h50 N_h50 (fun c k z => (ff_X13_sign_ nn) _ E_u54 c k z) rfl
        have T35 : u54 160 8 = h50 160 8 := (ff_X13_sign_ nn) _ E_u54 160 8 rfl
        have T36 : u54 160 22 = h50 160 22 := (ff_X13_sign_ nn) _ E_u54 160 22 rfl
        have T37 : u54 160 24 = h50 160 24 := (ff_X13_sign_ nn) _ E_u54 160 24 rfl
        have T38 : u54 160 39 = h50 160 39 := (ff_X13_sign_ nn) _ E_u54 160 39 rfl
        have T39 : u54 189 (l3).toNat = h50 189 (l3).toNat := (ff_X13_sign_ nn) _ E_u54 189 (l3).toNat (nw_ar rfl _)
        have T40 : u54 160 28 = h50 160 28 := (ff_X13_sign_ nn) _ E_u54 160 28 rfl
        have T41 := gF_160_9 V_u54
        have T42 := gF_160_23 V_u54
        exact ok_mV (vw_X13_member_234 hn _ (by omega) (by omega) V_u54 (by omega) (by omega) (by omega) (by omega) N_u54 (by omega)) (fun _ V_r R_r => by have := gF_160_8 V_r; have := gF_160_9 V_r; have := gF_160_22 V_r; have := gF_160_23 V_r; have := gF_160_24 V_r; have := gF_160_28 V_r; have := gF_160_39 V_r; omega)
      · intro C33
        refine ok_cP (vf_X13_isSign hn (by omega) (by omega) (by omega) (by omega) V_h50) ?_; intro u57 e_u57 a_u57 b_u57
        have T43 := lm_ek_isSign N_h50 (by omega) e_u57
        refine ok_if ?_ ?_
        · intro C43
          refine ok_cVR (vf_X13_sign_ hn (by omega) (by omega) V_h50 (by omega) N_h50) ?_; intro u59 E_u59 V_u59 R_u59
          have N_u59 : EK_ u59 := ek_fr V_h50 N_h50 (fun c k z => (ff_X13_sign_ nn) _ E_u59 c k z) rfl
          have T45 : u59 160 8 = h50 160 8 := (ff_X13_sign_ nn) _ E_u59 160 8 rfl
          have T46 : u59 160 22 = h50 160 22 := (ff_X13_sign_ nn) _ E_u59 160 22 rfl
          have T47 : u59 160 24 = h50 160 24 := (ff_X13_sign_ nn) _ E_u59 160 24 rfl
          have T48 : u59 160 39 = h50 160 39 := (ff_X13_sign_ nn) _ E_u59 160 39 rfl
          have T49 : u59 189 (l3).toNat = h50 189 (l3).toNat := (ff_X13_sign_ nn) _ E_u59 189 (l3).toNat (nw_ar rfl _)
          have T50 : u59 160 28 = h50 160 28 := (ff_X13_sign_ nn) _ E_u59 160 28 rfl
          have T51 := gF_160_9 V_u59
          have T52 := gF_160_23 V_u59
          exact ok_mV (vw_X13_member_234 hn _ (by omega) (by omega) V_u59 (by omega) (by omega) (by omega) (by omega) N_u59 (by omega)) (fun _ V_r R_r => by have := gF_160_8 V_r; have := gF_160_9 V_r; have := gF_160_22 V_r; have := gF_160_23 V_r; have := gF_160_24 V_r; have := gF_160_28 V_r; have := gF_160_39 V_r; omega)
        · intro C43
          refine ok_add (by omega) ?_; intro v61 e_v61
          refine ok_xl ?_; intro h62 E_h62; have V_h62 : VS_ h62 := by rw [E_h62]; exact wF_160_23 V_h50 (by omega)
          have N_h62 : EK_ h62 := by rw [E_h62]; exact ek_up V_h50 N_h50 rfl
          have T53 : h62 160 8 = h50 160 8 := by rw [E_h62]; exact up_n (by decide)
          have T54 : h62 160 9 = h50 160 9 := by rw [E_h62]; exact up_n (by decide)
          have T55 : h62 160 22 = h50 160 22 := by rw [E_h62]; exact up_n (by decide)
          have T56 : h62 160 24 = h50 160 24 := by rw [E_h62]; exact up_n (by decide)
          have T57 : h62 160 39 = h50 160 39 := by rw [E_h62]; exact up_n (by decide)
          have T58 : h62 189 (l3).toNat = h50 189 (l3).toNat := by rw [E_h62]; exact up_n (fun z => absurd z.1 (by decide))
          have T59 : h62 160 28 = h50 160 28 := by rw [E_h62]; exact up_n (by decide)
          have T60 : h62 160 23 = v61 := by rw [E_h62]; exact up_s
          refine ok_wA (by omega) ?_; intro h64 E_h64; have V_h64 : VS_ h64 := by rw [E_h64]; exact wA_182 V_h62 (by omega)
          have N_h64 : EK_ h64 := by rw [E_h64]; exact ek_ua V_h62 N_h62 rfl
          have T61 : h64 160 8 = h62 160 8 := by rw [E_h64]; exact up_n (fun z => absurd z.1 (by decide))
          have T62 : h64 160 9 = h62 160 9 := by rw [E_h64]; exact up_n (fun z => absurd z.1 (by decide))
          have T63 : h64 160 22 = h62 160 22 := by rw [E_h64]; exact up_n (fun z => absurd z.1 (by decide))
          have T64 : h64 160 24 = h62 160 24 := by rw [E_h64]; exact up_n (fun z => absurd z.1 (by decide))
          have T65 : h64 160 39 = h62 160 39 := by rw [E_h64]; exact up_n (fun z => absurd z.1 (by decide))
          have T66 : h64 189 (l3).toNat = h62 189 (l3).toNat := by rw [E_h64]; exact up_n (fun z => absurd z.1 (by decide))
          have T67 : h64 160 28 = h62 160 28 := by rw [E_h64]; exact up_n (fun z => absurd z.1 (by decide))
          have T68 : h64 160 23 = h62 160 23 := by rw [E_h64]; exact up_n (fun z => absurd z.1 (by decide))
          exact ok_rVR V_h64 (by omega)
  · intro C15
    exact ok_rVR V_h46 (by omega)
set_option maxRecDepth 4000 in
theorem vj_X13_member_75 {nn : Nat} (hn : 1000000 ≤ nn) {l1 : Int} {l2 : Int} {h : ms_M} (a_l1 : 0 ≤ l1) (b_l1 : l1 ≤ 1) (a_l2 : 0 ≤ l2) (b_l2 : l2 ≤ 1) (V_h : VS_ h) (x_0 : h 160 23 + 1 ≤ h 160 8) (x_1 : h 160 22 ≤ 2 * h 160 23 + 30) (x_2 : 2 * h 160 39 ≤ h 160 23) (x_3 : h 160 28 ≤ 799) (x_4 : 1 ≤ h 160 24) (N_h : EK_ h)  : Ok_ (qj_X13_member_75 nn l1 l2 h) (QVR_ (fun r => (r 160 8 = h 160 8) ∧ (h 160 9 = 0 ∨ ¬ r 160 9 = 0) ∧ (h 160 23 ≤ r 160 23) ∧ (r 160 23 + 1 ≤ h 160 8) ∧ (h 160 22 ≤ r 160 22) ∧ (r 160 22 + 2 * h 160 23 ≤ h 160 22 + 2 * r 160 23 + 2) ∧ (2 * r 160 39 ≤ r 160 23) ∧ (h 160 28 ≤ r 160 28 ∧ r 160 28 ≤ h 160 28 + 1) ∧ (¬ r 160 9 = 0 ∨ (r 160 28 = h 160 28 + 1 ∧ r 160 22 + 2 * h 160 23 ≤ h 160 22 + 2 * r 160 23 + 0)) ∧ (¬ r 160 9 = 0 ∨ h 160 23 + 2 ≤ r 160 23))) := by
  unfold qj_X13_member_75
  have T1 := gF_160_8 V_h
  have T2 := gF_160_9 V_h
  have T3 := gF_160_22 V_h
  have T4 := gF_160_23 V_h
  have T5 := gF_160_24 V_h
  have T6 := gF_160_28 V_h
  have T7 := gF_160_39 V_h
  have T8 := gF_160_45 V_h
  refine ok_wA (by omega) ?_; intro h72 E_h72; have V_h72 : VS_ h72 := by rw [E_h72]; exact wA_183 V_h (by omega)
  have N_h72 : EK_ h72 := by rw [E_h72]; exact ek_ua V_h N_h rfl
  have T9 : h72 160 8 = h 160 8 := by rw [E_h72]; exact up_n (fun z => absurd z.1 (by decide))
  have T10 : h72 160 9 = h 160 9 := by rw [E_h72]; exact up_n (fun z => absurd z.1 (by decide))
  have T11 : h72 160 22 = h 160 22 := by rw [E_h72]; exact up_n (fun z => absurd z.1 (by decide))
  have T12 : h72 160 23 = h 160 23 := by rw [E_h72]; exact up_n (fun z => absurd z.1 (by decide))
  have T13 : h72 160 24 = h 160 24 := by rw [E_h72]; exact up_n (fun z => absurd z.1 (by decide))
  have T14 : h72 160 28 = h 160 28 := by rw [E_h72]; exact up_n (fun z => absurd z.1 (by decide))
  have T15 : h72 160 39 = h 160 39 := by rw [E_h72]; exact up_n (fun z => absurd z.1 (by decide))
  have T16 := gF_160_46 V_h72
  refine ok_wA (by omega) ?_; intro h75 E_h75; have V_h75 : VS_ h75 := by rw [E_h75]; exact wA_184 V_h72 (by omega)
  have N_h75 : EK_ h75 := by rw [E_h75]; exact ek_ua V_h72 N_h72 rfl
  have T17 : h75 160 8 = h72 160 8 := by rw [E_h75]; exact up_n (fun z => absurd z.1 (by decide))
  have T18 : h75 160 9 = h72 160 9 := by rw [E_h75]; exact up_n (fun z => absurd z.1 (by decide))
  have T19 : h75 160 22 = h72 160 22 := by rw [E_h75]; exact up_n (fun z => absurd z.1 (by decide))
  have T20 : h75 160 23 = h72 160 23 := by rw [E_h75]; exact up_n (fun z => absurd z.1 (by decide))
  have T21 : h75 160 24 = h72 160 24 := by rw [E_h75]; exact up_n (fun z => absurd z.1 (by decide))
  have T22 : h75 160 28 = h72 160 28 := by rw [E_h75]; exact up_n (fun z => absurd z.1 (by decide))
  have T23 : h75 160 39 = h72 160 39 := by rw [E_h75]; exact up_n (fun z => absurd z.1 (by decide))
  have T24 := gF_160_47 V_h75
  refine ok_wZ (by omega) (by omega) ?_; intro h78 E_h78; have V_h78 : VS_ h78 := by rw [E_h78]; exact wA_185 V_h75 (by omega)
  have N_h78 : EK_ h78 := by rw [E_h78]; exact ek_ua V_h75 N_h75 rfl
  have T25 : h78 160 8 = h75 160 8 := by rw [E_h78]; exact up_n (fun z => absurd z.1 (by decide))
  have T26 : h78 160 9 = h75 160 9 := by rw [E_h78]; exact up_n (fun z => absurd z.1 (by decide))
  have T27 : h78 160 22 = h75 160 22 := by rw [E_h78]; exact up_n (fun z => absurd z.1 (by decide))
  have T28 : h78 160 23 = h75 160 23 := by rw [E_h78]; exact up_n (fun z => absurd z.1 (by decide))
  have T29 : h78 160 24 = h75 160 24 := by rw [E_h78]; exact up_n (fun z => absurd z.1 (by decide))
  have T30 : h78 160 28 = h75 160 28 := by rw [E_h78]; exact up_n (fun z => absurd z.1 (by decide))
  have T31 : h78 160 39 = h75 160 39 := by rw [E_h78]; exact up_n (fun z => absurd z.1 (by decide))
  refine ok_cIR (vf_X13_name hn V_h78 (by omega) N_h78) ?_; intro u81 E_u81 V_u81 a_u81 b_u81 R_u81
  have N_u81_2 : EK_ u81.2 := ek_fr V_h78 N_h78 (fun c k z => (ff_X13_name nn) _ E_u81 c k z) rfl
  have T32 : u81.2 160 8 = h78 160 8 := (ff_X13_name nn) _ E_u81 160 8 rfl
  have T33 : u81.2 160 22 = h78 160 22 := (ff_X13_name nn) _ E_u81 160 22 rfl
  have T34 : u81.2 160 24 = h78 160 24 := (ff_X13_name nn) _ E_u81 160 24 rfl
  have T35 : u81.2 160 28 = h78 160 28 := (ff_X13_name nn) _ E_u81 160 28 rfl
  have T36 : u81.2 160 39 = h78 160 39 := (ff_X13_name nn) _ E_u81 160 39 rfl
  have T37 := gF_160_9 V_u81
  have T38 := gF_160_23 V_u81
  refine ok_wA (by omega) ?_; intro h82 E_h82; have V_h82 : VS_ h82 := by rw [E_h82]; exact wA_186 V_u81 (by omega)
  have N_h82 : EK_ h82 := by rw [E_h82]; exact ek_ua V_u81 N_u81_2 rfl
  have T39 : h82 160 8 = u81.2 160 8 := by rw [E_h82]; exact up_n (fun z => absurd z.1 (by decide))
  have T40 : h82 160 22 = u81.2 160 22 := by rw [E_h82]; exact up_n (fun z => absurd z.1 (by decide))
  have T41 : h82 160 24 = u81.2 160 24 := by rw [E_h82]; exact up_n (fun z => absurd z.1 (by decide))
  have T42 : h82 160 28 = u81.2 160 28 := by rw [E_h82]; exact up_n (fun z => absurd z.1 (by decide))
  have T43 : h82 160 39 = u81.2 160 39 := by rw [E_h82]; exact up_n (fun z => absurd z.1 (by decide))
  have T44 : h82 160 9 = u81.2 160 9 := by rw [E_h82]; exact up_n (fun z => absurd z.1 (by decide))
  have T45 : h82 160 23 = u81.2 160 23 := by rw [E_h82]; exact up_n (fun z => absurd z.1 (by decide))
  refine ok_sub (by omega) ?_; intro v85 e_v85
  refine ok_wA (by omega) ?_; intro h86 E_h86; have V_h86 : VS_ h86 := by rw [E_h86]; exact wA_181 V_h82 (by omega)
  have N_h86 : EK_ h86 := by rw [E_h86]; exact ek_ua V_h82 N_h82 rfl
  have T46 : h86 160 8 = h82 160 8 := by rw [E_h86]; exact up_n (fun z => absurd z.1 (by decide))
  have T47 : h86 160 22 = h82 160 22 := by rw [E_h86]; exact up_n (fun z => absurd z.1 (by decide))
  have T48 : h86 160 24 = h82 160 24 := by rw [E_h86]; exact up_n (fun z => absurd z.1 (by decide))
  have T49 : h86 160 28 = h82 160 28 := by rw [E_h86]; exact up_n (fun z => absurd z.1 (by decide))
  have T50 : h86 160 39 = h82 160 39 := by rw [E_h86]; exact up_n (fun z => absurd z.1 (by decide))
  have T51 : h86 160 9 = h82 160 9 := by rw [E_h86]; exact up_n (fun z => absurd z.1 (by decide))
  have T52 : h86 160 23 = h82 160 23 := by rw [E_h86]; exact up_n (fun z => absurd z.1 (by decide))
  refine ok_wA (by omega) ?_; intro h89 E_h89; have V_h89 : VS_ h89 := by rw [E_h89]; exact wA_188 V_h86 (by omega)
  have N_h89 : EK_ h89 := by rw [E_h89]; exact ek_ua V_h86 N_h86 rfl
  have T53 : h89 160 8 = h86 160 8 := by rw [E_h89]; exact up_n (fun z => absurd z.1 (by decide))
  have T54 : h89 160 22 = h86 160 22 := by rw [E_h89]; exact up_n (fun z => absurd z.1 (by decide))
  have T55 : h89 160 24 = h86 160 24 := by rw [E_h89]; exact up_n (fun z => absurd z.1 (by decide))
  have T56 : h89 160 28 = h86 160 28 := by rw [E_h89]; exact up_n (fun z => absurd z.1 (by decide))
  have T57 : h89 160 39 = h86 160 39 := by rw [E_h89]; exact up_n (fun z => absurd z.1 (by decide))
  have T58 : h89 160 9 = h86 160 9 := by rw [E_h89]; exact up_n (fun z => absurd z.1 (by decide))
  have T59 : h89 160 23 = h86 160 23 := by rw [E_h89]; exact up_n (fun z => absurd z.1 (by decide))
  refine ok_wA (by omega) ?_; intro h91 E_h91; have V_h91 : VS_ h91 := by rw [E_h91]; exact wA_189 V_h89 (by omega)
  have N_h91 : EK_ h91 := by rw [E_h91]; exact ek_ua V_h89 N_h89 rfl
  have T60 : h91 160 8 = h89 160 8 := by rw [E_h91]; exact up_n (fun z => absurd z.1 (by decide))
  have T61 : h91 160 22 = h89 160 22 := by rw [E_h91]; exact up_n (fun z => absurd z.1 (by decide))
  have T62 : h91 160 24 = h89 160 24 := by rw [E_h91]; exact up_n (fun z => absurd z.1 (by decide))
  have T63 : h91 160 28 = h89 160 28 := by rw [E_h91]; exact up_n (fun z => absurd z.1 (by decide))
  have T64 : h91 160 39 = h89 160 39 := by rw [E_h91]; exact up_n (fun z => absurd z.1 (by decide))
  have T65 : h91 160 9 = h89 160 9 := by rw [E_h91]; exact up_n (fun z => absurd z.1 (by decide))
  have T66 : h91 160 23 = h89 160 23 := by rw [E_h91]; exact up_n (fun z => absurd z.1 (by decide))
  have T67 : h91 189 ((h 160 28)).toNat = 0 := by rw [E_h91]; exact up_s
  refine ok_wA (by omega) ?_; intro h93 E_h93; have V_h93 : VS_ h93 := by rw [E_h93]; exact wA_190 V_h91 (by omega)
  have N_h93 : EK_ h93 := by rw [E_h93]; exact ek_ua V_h91 N_h91 rfl
  have T68 : h93 160 8 = h91 160 8 := by rw [E_h93]; exact up_n (fun z => absurd z.1 (by decide))
  have T69 : h93 160 22 = h91 160 22 := by rw [E_h93]; exact up_n (fun z => absurd z.1 (by decide))
  have T70 : h93 160 24 = h91 160 24 := by rw [E_h93]; exact up_n (fun z => absurd z.1 (by decide))
  have T71 : h93 160 28 = h91 160 28 := by rw [E_h93]; exact up_n (fun z => absurd z.1 (by decide))
  have T72 : h93 160 39 = h91 160 39 := by rw [E_h93]; exact up_n (fun z => absurd z.1 (by decide))
  have T73 : h93 160 9 = h91 160 9 := by rw [E_h93]; exact up_n (fun z => absurd z.1 (by decide))
  have T74 : h93 160 23 = h91 160 23 := by rw [E_h93]; exact up_n (fun z => absurd z.1 (by decide))
  have T75 : h93 189 ((h 160 28)).toNat = h91 189 ((h 160 28)).toNat := by rw [E_h93]; exact up_n (fun z => absurd z.1 (by decide))
  refine ok_if ?_ ?_
  · intro C75
    exact ok_mV (vj_X13_member_170 hn (by omega) (by omega) (by omega) (by omega) (by omega) (by omega) (by omega) (by omega) (by omega) (by omega) V_h93 (by omega) (by omega) (by omega) (by omega) (by omega) (by omega) N_h93) (fun _ V_r R_r => by have := gF_160_8 V_r; have := gF_160_9 V_r; have := gF_160_22 V_r; have := gF_160_23 V_r; have := gF_160_24 V_r; have := gF_160_28 V_r; have := gF_160_39 V_r; omega)
  · intro C75
    exact ok_mV (vj_X13_member_170 hn (by omega) (by omega) (by omega) (by omega) (by omega) (by omega) (by omega) (by omega) (by omega) (by omega) V_h93 (by omega) (by omega) (by omega) (by omega) (by omega) (by omega) N_h93) (fun _ V_r R_r => by have := gF_160_8 V_r; have := gF_160_9 V_r; have := gF_160_22 V_r; have := gF_160_23 V_r; have := gF_160_24 V_r; have := gF_160_28 V_r; have := gF_160_39 V_r; omega)
set_option maxRecDepth 4000 in
theorem vj_X13_member_25 {nn : Nat} (hn : 1000000 ≤ nn) {l1 : Int} {h : ms_M} (a_l1 : 0 ≤ l1) (b_l1 : l1 ≤ 1) (V_h : VS_ h) (x_0 : h 160 23 + 1 ≤ h 160 8) (x_1 : h 160 22 ≤ 2 * h 160 23 + 30) (x_2 : 2 * h 160 39 ≤ h 160 23) (x_3 : h 160 28 ≤ 799) (x_4 : 1 ≤ h 160 24) (x_5 : h 160 9 = 0) (N_h : EK_ h)  : Ok_ (qj_X13_member_25 nn l1 h) (QVR_ (fun r => (r 160 8 = h 160 8) ∧ (h 160 9 = 0 ∨ ¬ r 160 9 = 0) ∧ (h 160 23 ≤ r 160 23) ∧ (r 160 23 + 1 ≤ h 160 8) ∧ (h 160 22 ≤ r 160 22) ∧ (r 160 22 + 2 * h 160 23 ≤ h 160 22 + 2 * r 160 23 + 2) ∧ (2 * r 160 39 ≤ r 160 23) ∧ (h 160 28 ≤ r 160 28 ∧ r 160 28 ≤ h 160 28 + 1) ∧ (¬ r 160 9 = 0 ∨ (r 160 28 = h 160 28 + 1 ∧ r 160 22 + 2 * h 160 23 ≤ h 160 22 + 2 * r 160 23 + 0)) ∧ (¬ r 160 9 = 0 ∨ h 160 23 + 3 ≤ r 160 23))) := by
  unfold qj_X13_member_25
  have T1 := gF_160_8 V_h
  have T2 := gF_160_9 V_h
  have T3 := gF_160_22 V_h
  have T4 := gF_160_23 V_h
  have T5 := gF_160_24 V_h
  have T6 := gF_160_28 V_h
  have T7 := gF_160_39 V_h
  refine ok_cP (vf_X13_isWord hn (by omega) (by omega) (by omega) (by omega) V_h) ?_; intro u98 e_u98 a_u98 b_u98
  have T8 := lm_ek_isWord N_h (by omega) e_u98
  refine ok_if ?_ ?_
  · intro C8
    refine ok_cVR (vf_X13_type hn V_h (by omega) N_h) ?_; intro u100 E_u100 V_u100 R_u100
    have N_u100 : EK_ u100 := ek_fr V_h N_h (fun c k z => (ff_X13_type nn) _ E_u100 c k z) rfl
    have T10 : u100 160 8 = h 160 8 := (ff_X13_type nn) _ E_u100 160 8 rfl
    have T11 : u100 160 22 = h 160 22 := (ff_X13_type nn) _ E_u100 160 22 rfl
    have T12 : u100 160 24 = h 160 24 := (ff_X13_type nn) _ E_u100 160 24 rfl
    have T13 : u100 160 28 = h 160 28 := (ff_X13_type nn) _ E_u100 160 28 rfl
    have T14 : u100 160 39 = h 160 39 := (ff_X13_type nn) _ E_u100 160 39 rfl
    have T15 := gF_160_9 V_u100
    have T16 := gF_160_23 V_u100
    exact ok_mV (vj_X13_member_75 hn (by omega) (by omega) (by omega) (by omega) V_u100 (by omega) (by omega) (by omega) (by omega) (by omega) N_u100) (fun _ V_r R_r => by have := gF_160_8 V_r; have := gF_160_9 V_r; have := gF_160_22 V_r; have := gF_160_23 V_r; have := gF_160_24 V_r; have := gF_160_28 V_r; have := gF_160_39 V_r; omega)
  · intro C8
    refine ok_xl ?_; intro h101 E_h101; have V_h101 : VS_ h101 := by rw [E_h101]; exact wF_160_45 V_h (by omega)
    have N_h101 : EK_ h101 := by rw [E_h101]; exact ek_up V_h N_h rfl
    have T17 : h101 160 8 = h 160 8 := by rw [E_h101]; exact up_n (by decide)
    have T18 : h101 160 9 = h 160 9 := by rw [E_h101]; exact up_n (by decide)
    have T19 : h101 160 22 = h 160 22 := by rw [E_h101]; exact up_n (by decide)
    have T20 : h101 160 23 = h 160 23 := by rw [E_h101]; exact up_n (by decide)
    have T21 : h101 160 24 = h 160 24 := by rw [E_h101]; exact up_n (by decide)
    have T22 : h101 160 28 = h 160 28 := by rw [E_h101]; exact up_n (by decide)
    have T23 : h101 160 39 = h 160 39 := by rw [E_h101]; exact up_n (by decide)
    refine ok_xl ?_; intro h102 E_h102; have V_h102 : VS_ h102 := by rw [E_h102]; exact wF_160_47 V_h101 (by omega)
    have N_h102 : EK_ h102 := by rw [E_h102]; exact ek_up V_h101 N_h101 rfl
    have T24 : h102 160 8 = h101 160 8 := by rw [E_h102]; exact up_n (by decide)
    have T25 : h102 160 9 = h101 160 9 := by rw [E_h102]; exact up_n (by decide)
    have T26 : h102 160 22 = h101 160 22 := by rw [E_h102]; exact up_n (by decide)
    have T27 : h102 160 23 = h101 160 23 := by rw [E_h102]; exact up_n (by decide)
    have T28 : h102 160 24 = h101 160 24 := by rw [E_h102]; exact up_n (by decide)
    have T29 : h102 160 28 = h101 160 28 := by rw [E_h102]; exact up_n (by decide)
    have T30 : h102 160 39 = h101 160 39 := by rw [E_h102]; exact up_n (by decide)
    refine ok_xl ?_; intro h104 E_h104; have V_h104 : VS_ h104 := by rw [E_h104]; exact wF_160_46 V_h102 (by omega)
    have N_h104 : EK_ h104 := by rw [E_h104]; exact ek_up V_h102 N_h102 rfl
    have T31 : h104 160 8 = h102 160 8 := by rw [E_h104]; exact up_n (by decide)
    have T32 : h104 160 9 = h102 160 9 := by rw [E_h104]; exact up_n (by decide)
    have T33 : h104 160 22 = h102 160 22 := by rw [E_h104]; exact up_n (by decide)
    have T34 : h104 160 23 = h102 160 23 := by rw [E_h104]; exact up_n (by decide)
    have T35 : h104 160 24 = h102 160 24 := by rw [E_h104]; exact up_n (by decide)
    have T36 : h104 160 28 = h102 160 28 := by rw [E_h104]; exact up_n (by decide)
    have T37 : h104 160 39 = h102 160 39 := by rw [E_h104]; exact up_n (by decide)
    refine ok_add (by omega) ?_; intro v106 e_v106
    refine ok_xl ?_; intro h107 E_h107; have V_h107 : VS_ h107 := by rw [E_h107]; exact wF_160_23 V_h104 (by omega)
    have N_h107 : EK_ h107 := by rw [E_h107]; exact ek_up V_h104 N_h104 rfl
    have T38 : h107 160 8 = h104 160 8 := by rw [E_h107]; exact up_n (by decide)
    have T39 : h107 160 9 = h104 160 9 := by rw [E_h107]; exact up_n (by decide)
    have T40 : h107 160 22 = h104 160 22 := by rw [E_h107]; exact up_n (by decide)
    have T41 : h107 160 24 = h104 160 24 := by rw [E_h107]; exact up_n (by decide)
    have T42 : h107 160 28 = h104 160 28 := by rw [E_h107]; exact up_n (by decide)
    have T43 : h107 160 39 = h104 160 39 := by rw [E_h107]; exact up_n (by decide)
    have T44 : h107 160 23 = v106 := by rw [E_h107]; exact up_s
    exact ok_mV (vj_X13_member_75 hn (by omega) (by omega) (by omega) (by omega) V_h107 (by omega) (by omega) (by omega) (by omega) (by omega) N_h107) (fun _ V_r R_r => by have := gF_160_8 V_r; have := gF_160_9 V_r; have := gF_160_22 V_r; have := gF_160_23 V_r; have := gF_160_24 V_r; have := gF_160_28 V_r; have := gF_160_39 V_r; omega)
set_option maxRecDepth 4000 in
theorem vf_X13_member {nn : Nat} (hn : 1000000 ≤ nn) {h : ms_M} (V_h : VS_ h) (x_0 : h 160 23 + 1 ≤ h 160 8) (x_1 : h 160 9 = 0) (x_2 : h 160 22 ≤ 2 * h 160 23 + 30) (x_3 : 2 * h 160 39 ≤ h 160 23) (x_4 : h 160 28 ≤ 799) (x_5 : 1 ≤ h 160 24) (N_h : EK_ h)  : Ok_ (qf_X13_member nn h) (QVR_ (fun r => (r 160 8 = h 160 8) ∧ (h 160 9 = 0 ∨ ¬ r 160 9 = 0) ∧ (h 160 23 ≤ r 160 23) ∧ (r 160 23 + 1 ≤ h 160 8) ∧ (h 160 22 ≤ r 160 22) ∧ (r 160 22 + 2 * h 160 23 ≤ h 160 22 + 2 * r 160 23 + 2) ∧ (2 * r 160 39 ≤ r 160 23) ∧ (h 160 28 ≤ r 160 28 ∧ r 160 28 ≤ h 160 28 + 1) ∧ (¬ r 160 9 = 0 ∨ (r 160 28 = h 160 28 + 1 ∧ r 160 22 + 2 * h 160 23 ≤ h 160 22 + 2 * r 160 23 + 0)) ∧ (¬ r 160 9 = 0 ∨ h 160 23 + 3 ≤ r 160 23))) := by
  unfold qf_X13_member
  have T1 := gF_160_8 V_h
  have T2 := gF_160_9 V_h
  have T3 := gF_160_22 V_h
  have T4 := gF_160_23 V_h
  have T5 := gF_160_24 V_h
  have T6 := gF_160_28 V_h
  have T7 := gF_160_39 V_h
  refine ok_cP (vf_X13_isWord hn (by omega) (by omega) (by omega) (by omega) V_h) ?_; intro u111 e_u111 a_u111 b_u111
  have T8 := lm_ek_isWord N_h (by omega) e_u111
  refine ok_if ?_ ?_
  · intro C8
    exact ok_mV (vj_X13_member_25 hn (by omega) (by omega) V_h (by omega) (by omega) (by omega) (by omega) (by omega) (by omega) N_h) (fun _ V_r R_r => by have := gF_160_8 V_r; have := gF_160_9 V_r; have := gF_160_22 V_r; have := gF_160_23 V_r; have := gF_160_24 V_r; have := gF_160_28 V_r; have := gF_160_39 V_r; omega)
  · intro C8
    refine ok_add (by omega) ?_; intro v113 e_v113
    refine ok_xl ?_; intro h114 E_h114; have V_h114 : VS_ h114 := by rw [E_h114]; exact wF_160_23 V_h (by omega)
    have N_h114 : EK_ h114 := by rw [E_h114]; exact ek_up V_h N_h rfl
    have T10 : h114 160 8 = h 160 8 := by rw [E_h114]; exact up_n (by decide)
    have T11 : h114 160 9 = h 160 9 := by rw [E_h114]; exact up_n (by decide)
    have T12 : h114 160 22 = h 160 22 := by rw [E_h114]; exact up_n (by decide)
    have T13 : h114 160 24 = h 160 24 := by rw [E_h114]; exact up_n (by decide)
    have T14 : h114 160 28 = h 160 28 := by rw [E_h114]; exact up_n (by decide)
    have T15 : h114 160 39 = h 160 39 := by rw [E_h114]; exact up_n (by decide)
    have T16 : h114 160 23 = v113 := by rw [E_h114]; exact up_s
    exact ok_mV (vj_X13_member_25 hn (by omega) (by omega) V_h114 (by omega) (by omega) (by omega) (by omega) (by omega) (by omega) N_h114) (fun _ V_r R_r => by have := gF_160_8 V_r; have := gF_160_9 V_r; have := gF_160_22 V_r; have := gF_160_23 V_r; have := gF_160_24 V_r; have := gF_160_28 V_r; have := gF_160_39 V_r; omega)
set_option maxRecDepth 4000 in
theorem vf_X13_isDigit {nn : Nat} (hn : 1000000 ≤ nn) {a0 : Int} {h : ms_M} (a_a0 : (-2147483648) ≤ a0) (b_a0 : a0 ≤ 2147483647) (V_h : VS_ h)  : Ok_ (qf_X13_isDigit nn a0 h) (QP_ 0 1) := by
  unfold qf_X13_isDigit
  refine ok_if ?_ ?_
  · intro C0
    exact ok_rP (by omega) (by omega)
  · intro C0
    refine ok_if ?_ ?_
    · intro C1
      exact ok_rP (by omega) (by omega)
    · intro C1
      exact ok_rP (by omega) (by omega)
set_option maxRecDepth 4000 in
theorem vj_X13_isLetter_12 {nn : Nat} (hn : 1000000 ≤ nn) {l0 : Int} {h : ms_M} (a_l0 : (-2147483648) ≤ l0) (b_l0 : l0 ≤ 2147483647) (V_h : VS_ h)  : Ok_ (qj_X13_isLetter_12 nn l0 h) (QP_ 0 1) := by
  unfold qj_X13_isLetter_12
  refine ok_if ?_ ?_
  · intro C0
    exact ok_rP (by omega) (by omega)
  · intro C0
    refine ok_if ?_ ?_
    · intro C1
      exact ok_rP (by omega) (by omega)
    · intro C1
      exact ok_rP (by omega) (by omega)
set_option maxRecDepth 4000 in
theorem vf_X13_isLetter {nn : Nat} (hn : 1000000 ≤ nn) {a0 : Int} {h : ms_M} (a_a0 : (-2147483648) ≤ a0) (b_a0 : a0 ≤ 2147483647) (V_h : VS_ h)  : Ok_ (qf_X13_isLetter nn a0 h) (QP_ 0 1) := by
  unfold qf_X13_isLetter
  refine ok_if ?_ ?_
  · intro C0
    exact vj_X13_isLetter_12 hn (by omega) (by omega) V_h
  · intro C0
    refine ok_if ?_ ?_
    · intro C1
      exact ok_rP (by omega) (by omega)
    · intro C1
      exact vj_X13_isLetter_12 hn (by omega) (by omega) V_h
set_option maxRecDepth 4000 in
theorem vf_X13_end {nn : Nat} (hn : 1000000 ≤ nn) {a1 : Int} {h : ms_M} (a_a1 : (-2147483648) ≤ a1) (b_a1 : a1 ≤ 2147483647) (V_h : VS_ h)  : Ok_ (qf_X13_end nn a1 h) (QI_ 0 1) := by
  unfold qf_X13_end
  refine ok_if ?_ ?_
  · intro C0
    exact ok_rI V_h (by omega) (by omega)
  · intro C0
    have T2 := gF_160_1 V_h
    refine ok_if ?_ ?_
    · intro C2
      refine ok_xl ?_; intro h2 E_h2; have V_h2 : VS_ h2 := by rw [E_h2]; exact wF_160_1 V_h (by omega)
      exact ok_rI V_h2 (by omega) (by omega)
    · intro C2
      exact ok_rI V_h (by omega) (by omega)
set_option maxRecDepth 4000 in
theorem vf_X13_fault {nn : Nat} (hn : 1000000 ≤ nn) {a1 : Int} {h : ms_M} (a_a1 : (-2147483648) ≤ a1) (b_a1 : a1 ≤ 2147483647) (V_h : VS_ h)  : Ok_ (qf_X13_fault nn a1 h) (QP_ (-1) 3000) := by
  unfold qf_X13_fault
  refine ok_if ?_ ?_
  · intro C0
    refine ok_if ?_ ?_
    · intro C1
      exact ok_rP (by omega) (by omega)
    · intro C1
      have T3 := gF_160_9 V_h
      refine ok_if ?_ ?_
      · intro C3
        exact ok_rP (by omega) (by omega)
      · intro C3
        have T5 := gF_160_10 V_h
        exact ok_rP (by omega) (by omega)
  · intro C0
    have T6 := gF_160_9 V_h
    exact ok_rP (by omega) (by omega)
set_option maxRecDepth 4000 in
theorem vw_X13_lay_3 {nn : Nat} (hn : 1000000 ≤ nn) : ∀ (k : Nat) {l1 : Int} {l2 : Int} {h : ms_M} (a_l1 : (-2147483648) ≤ l1) (b_l1 : l1 ≤ 2147483647) (a_l2 : (-8) ≤ l2) (b_l2 : l2 ≤ 24) (V_h : VS_ h) (x_0 : h 160 1 ≤ 5999 - (l2) / 8)  (hm : l2 - (-9) < (k : Int)), Ok_ (qw_X13_lay_3 nn k l1 l2 h) (QVR_ (fun r => (r 160 1 = h 160 1 + l2 / 8 + 1))) := by
  intro k
  induction k with
  | zero => intros; exfalso; omega
  | succ k ih =>
    intro l1 l2 h a_l1 b_l1 a_l2 b_l2 V_h x_0 hm
    unfold qw_X13_lay_3
    have T1 := gF_160_1 V_h
    refine ok_if ?_ ?_
    · intro C1
      exact ok_rVR V_h (by omega)
    · intro C1
      refine ok_i32 ?_; intro v3 a_v3 b_v3
      refine ok_and (by omega) ?_; intro v4 a_v4 b_v4
      refine ok_wA (by omega) ?_; intro h5 E_h5; have V_h5 : VS_ h5 := by rw [E_h5]; exact wA_161 V_h (by omega)
      have T3 : h5 160 1 = h 160 1 := by rw [E_h5]; exact up_n (fun z => absurd z.1 (by decide))
      refine ok_add (by omega) ?_; intro v7 e_v7
      refine ok_xl ?_; intro h8 E_h8; have V_h8 : VS_ h8 := by rw [E_h8]; exact wF_160_1 V_h5 (by omega)
      have T4 : h8 160 1 = v7 := by rw [E_h8]; exact up_s
      refine ok_add (by omega) ?_; intro v9 e_v9
      exact ok_mV (ih (by omega) (by omega) (by omega) (by omega) V_h8 (by omega) (by omega)) (fun _ V_r R_r => by have := gF_160_1 V_r; omega)
set_option maxRecDepth 4000 in
theorem vf_X13_lay {nn : Nat} (hn : 1000000 ≤ nn) {a1 : Int} {h : ms_M} (a_a1 : (-2147483648) ≤ a1) (b_a1 : a1 ≤ 2147483647) (V_h : VS_ h) (x_0 : h 160 1 ≤ 5996)  : Ok_ (qf_X13_lay nn a1 h) (QVR_ (fun r => (r 160 1 = h 160 1 + 4))) := by
  unfold qf_X13_lay
  have T1 := gF_160_1 V_h
  exact ok_mV (vw_X13_lay_3 hn _ (by omega) (by omega) (by omega) (by omega) V_h (by omega) (by omega)) (fun _ V_r R_r => by have := gF_160_1 V_r; omega)
set_option maxRecDepth 4000 in
theorem vf_X13_feed {nn : Nat} (hn : 1000000 ≤ nn) {a1 : Int} {a2 : Int} {a3 : Int} {a4 : Int} {a5 : Int} {h : ms_M} (a_a1 : (-2147483648) ≤ a1) (b_a1 : a1 ≤ 2147483647) (a_a2 : (-2147483648) ≤ a2) (b_a2 : a2 ≤ 2147483647) (a_a3 : (-2147483648) ≤ a3) (b_a3 : a3 ≤ 2147483647) (a_a4 : (-2147483648) ≤ a4) (b_a4 : a4 ≤ 2147483647) (a_a5 : (-2147483648) ≤ a5) (b_a5 : a5 ≤ 2147483647) (V_h : VS_ h)  : Ok_ (qf_X13_feed nn a1 a2 a3 a4 a5 h) (QI_ (-1) 6000) := by
  unfold qf_X13_feed
  have T1 := gF_160_1 V_h
  refine ok_add (by omega) ?_; intro v2 e_v2
  refine ok_if ?_ ?_
  · intro C1
    refine ok_cVR (vf_X13_lay hn (by omega) (by omega) V_h (by omega)) ?_; intro u4 E_u4 V_u4 R_u4
    refine ok_cVR (vf_X13_lay hn (by omega) (by omega) V_u4 (by omega)) ?_; intro u6 E_u6 V_u6 R_u6
    refine ok_cVR (vf_X13_lay hn (by omega) (by omega) V_u6 (by omega)) ?_; intro u8 E_u8 V_u8 R_u8
    refine ok_cVR (vf_X13_lay hn (by omega) (by omega) V_u8 (by omega)) ?_; intro u10 E_u10 V_u10 R_u10
    refine ok_cVR (vf_X13_lay hn (by omega) (by omega) V_u10 (by omega)) ?_; intro u12 E_u12 V_u12 R_u12
    have T3 := gF_160_1 V_u12
    exact ok_rI V_u12 (by omega) (by omega)
  · intro C1
    exact ok_rI V_h (by omega) (by omega)
set_option maxRecDepth 4000 in
theorem vf_X13_image {nn : Nat} (hn : 1000000 ≤ nn) {a1 : Int} {a2 : Int} {h : ms_M} (a_a1 : (-2147483648) ≤ a1) (b_a1 : a1 ≤ 2147483647) (a_a2 : (-2147483648) ≤ a2) (b_a2 : a2 ≤ 2147483647) (V_h : VS_ h)  : Ok_ (qf_X13_image nn a1 a2 h) (QP_ (-1) 6000) := by
  unfold qf_X13_image
  refine ok_if ?_ ?_
  · intro C0
    exact ok_rP (by omega) (by omega)
  · intro C0
    have T2 := gF_160_93 V_h
    refine ok_if ?_ ?_
    · intro C2
      exact ok_rP (by omega) (by omega)
    · intro C2
      refine ok_if ?_ ?_
      · intro C3
        exact ok_rP (by omega) (by omega)
      · intro C3
        refine ok_rd (by omega) (gA_222 V_h) ?_; intro v3 e_v3 a_v3 b_v3
        refine ok_if ?_ ?_
        · intro C4
          refine ok_if ?_ ?_
          · intro C5
            refine ok_mul (by omega) ?_; intro v5 e_v5
            refine ok_add (by omega) ?_; intro v6 e_v6
            refine ok_rd (by omega) (gA_221 V_h) ?_; intro v7 e_v7 a_v7 b_v7
            exact ok_rP (by omega) (by omega)
          · intro C5
            refine ok_rd (by omega) (gA_222 V_h) ?_; intro v9 e_v9 a_v9 b_v9
            exact ok_rP (by omega) (by omega)
        · intro C4
          exact ok_rP (by omega) (by omega)
set_option maxRecDepth 4000 in
theorem vj_X13_isByte_26 {nn : Nat} (hn : 1000000 ≤ nn) {h : ms_M} (V_h : VS_ h)  : Ok_ (qj_X13_isByte_26 nn h) (QI_ 0 1) := by
  unfold qj_X13_isByte_26
  have T1 := gF_160_114 V_h
  refine ok_if ?_ ?_
  · intro C1
    exact ok_rI V_h (by omega) (by omega)
  · intro C1
    exact ok_rI V_h (by omega) (by omega)
set_option maxRecDepth 4000 in
theorem vf_X13_isByte {nn : Nat} (hn : 1000000 ≤ nn) {a1 : Int} {h : ms_M} (a_a1 : (-2147483648) ≤ a1) (b_a1 : a1 ≤ 2147483647) (V_h : VS_ h)  : Ok_ (qf_X13_isByte nn a1 h) (QI_ 0 1) := by
  unfold qf_X13_isByte
  have T1 := gF_160_114 V_h
  refine ok_if ?_ ?_
  · intro C1
    have T3 := gF_160_113 V_h
    refine ok_if ?_ ?_
    · intro C3
      exact vj_X13_isByte_26 hn V_h
    · intro C3
      refine ok_xl ?_; intro h6 E_h6; have V_h6 : VS_ h6 := by rw [E_h6]; exact wF_160_114 V_h (by omega)
      exact vj_X13_isByte_26 hn V_h6
  · intro C1
    exact ok_rI V_h (by omega) (by omega)
set_option maxRecDepth 4000 in
theorem vf_X13_out {nn : Nat} (hn : 1000000 ≤ nn) {a1 : Int} {h : ms_M} (a_a1 : (-2147483648) ≤ a1) (b_a1 : a1 ≤ 2147483647) (V_h : VS_ h)  : Ok_ (qf_X13_out nn a1 h) (QP_ (-2147483648) 2147483647) := by
  unfold qf_X13_out
  have T1 := gF_160_138 V_h
  refine ok_if ?_ ?_
  · intro C1
    exact ok_rP (by omega) (by omega)
  · intro C1
    refine ok_if ?_ ?_
    · intro C2
      exact ok_rP (by omega) (by omega)
    · intro C2
      have T4 := gF_160_143 V_h
      refine ok_if ?_ ?_
      · intro C4
        exact ok_rP (by omega) (by omega)
      · intro C4
        refine ok_if ?_ ?_
        · intro C5
          exact ok_rP (by omega) (by omega)
        · intro C5
          refine ok_rd (by omega) (gA_250 V_h) ?_; intro v4 e_v4 a_v4 b_v4
          exact ok_rP (by omega) (by omega)
set_option maxRecDepth 4000 in
theorem vf_X13_where {nn : Nat} (hn : 1000000 ≤ nn) {a1 : Int} {h : ms_M} (a_a1 : (-2147483648) ≤ a1) (b_a1 : a1 ≤ 2147483647) (V_h : VS_ h)  : Ok_ (qf_X13_where nn a1 h) (QP_ (-2147483648) 65535) := by
  unfold qf_X13_where
  refine ok_if ?_ ?_
  · intro C0
    refine ok_if ?_ ?_
    · intro C1
      refine ok_if ?_ ?_
      · intro C2
        exact ok_rP (by omega) (by omega)
      · intro C2
        have T4 := gF_160_125 V_h
        exact ok_rP (by omega) (by omega)
    · intro C1
      have T5 := gF_160_124 V_h
      exact ok_rP (by omega) (by omega)
  · intro C0
    have T6 := gF_160_123 V_h
    exact ok_rP (by omega) (by omega)
end
section
/-- the reference's tokens one behind the other -/
def LD_ (c : Int) : Prop := (97 ≤ c ∧ c ≤ 122) ∨ (65 ≤ c ∧ c ≤ 90) ∨ (48 ≤ c ∧ c ≤ 57) ∨ c = 95
def PO_ (M : ms_M) : Prop := (∀ t : Nat, (t : Int) + 1 < M 160 8 → 1 ≤ M 165 t ∧ M 164 t + M 165 t ≤ M 164 (t + 1) ∧ (M 163 t ≤ 3 → M 163 (t + 1) ≤ 3 → M 164 t + M 165 t + 1 ≤ M 164 (t + 1))) ∧ (∀ t : Nat, (t : Int) < M 160 8 → M 163 t = 3 → M 166 t = 3 → 5 ≤ M 165 t) ∧ (∀ t : Nat, (t : Int) < 3002 → M 164 t + M 165 t ≤ 3000)
def TI_ (p : Int) (M : ms_M) : Prop := (0 ≤ p ∧ M 160 8 ≤ p ∧ p ≤ M 160 3) ∧ PO_ M ∧ (∀ t : Nat, (t : Int) + 1 = M 160 8 → 1 ≤ M 165 t ∧ M 164 t + M 165 t ≤ p ∧ (M 163 t ≤ 3 → M 164 t + M 165 t = p → M 160 3 ≤ p ∨ ¬ LD_ (M 162 p.toNat)))
def QT_ (r : ms_M) : Prop := VS_ r ∧ EK_ r ∧ PO_ r
theorem fl_449 {nn : Nat} : ∀ (k i : Nat) {h : ms_M}, VS_ h → 1 ≤ h 160 8 → h 160 8 ≤ (i : Int) → (i : Int) ≤ h 160 8 + 4 → h 160 8 + 5 - (i : Int) < (k : Int) → Ok_ (qw_X13_tokenize_449 nn k (i : Int) h) (fun r => VS_ r ∧ (∀ c j, c ≠ 163 → r c j = h c j) ∧ (∀ j : Nat, j < i → r 163 j = h 163 j) ∧ (∀ j : Nat, i ≤ j → (j : Int) < h 160 8 + 4 → r 163 j = 5)) := by
  intro k
  induction k with
  | zero => intro i h V h1 h2 h3 hm; exfalso; omega
  | succ k ih =>
    intro i h V h1 h2 h3 hm
    have g := gF_160_8 V
    unfold qw_X13_tokenize_449
    refine ok_add (by omega) ?_; intro v e
    refine ok_if (fun C => ?_) (fun C => ?_)
    · exact ok_ret ⟨V, fun _ _ _ => rfl, fun _ _ => rfl, fun j a b => by omega⟩
    · refine ok_wA (by omega) ?_; intro h4 E4
      have V4 : VS_ h4 := by rw [E4]; exact wA_163 V (by omega)
      have f4 : ∀ c j, ¬ (c = 163 ∧ j = i) → h4 c j = h c j := fun c j z => by rw [E4]; exact up_n (by omega)
      have s4 : h4 163 i = 5 := by rw [E4]; exact up_s
      have t4 : h4 160 8 = h 160 8 := f4 _ _ (by omega)
      refine ok_add (by omega) ?_; intro v5 e5
      rw [e5]
      obtain ⟨r, er, R1, R2, R3, R4⟩ := ih (i + 1) V4 (by omega) (by omega) (by omega) (by omega)
      refine ⟨r, er, R1, fun c j z => ?_, fun j z => ?_, fun j a b => ?_⟩
      · rw [R2 c j z, f4 c j (by omega)]
      · rw [R3 j (by omega), f4 _ j (by omega)]
      · by_cases z : j = i
        · rw [z, R3 i (by omega)]; exact s4
        · exact R4 j (by omega) (by omega)
theorem fl_400 {nn : Nat} : ∀ (k i : Nat) {h : ms_M}, VS_ h → 1 ≤ h 160 8 → h 160 8 ≤ (i : Int) → (i : Int) ≤ h 160 8 + 4 → h 160 8 + 5 - (i : Int) < (k : Int) → Ok_ (qw_X13_tokenize_400 nn k (i : Int) h) (fun r => VS_ r ∧ (∀ c j, c ≠ 163 → r c j = h c j) ∧ (∀ j : Nat, j < i → r 163 j = h 163 j) ∧ (∀ j : Nat, i ≤ j → (j : Int) < h 160 8 + 4 → r 163 j = 5)) := by
  intro k
  induction k with
  | zero => intro i h V h1 h2 h3 hm; exfalso; omega
  | succ k ih =>
    intro i h V h1 h2 h3 hm
    have g := gF_160_8 V
    unfold qw_X13_tokenize_400
    refine ok_add (by omega) ?_; intro v e
    refine ok_if (fun C => ?_) (fun C => ?_)
    · exact ok_ret ⟨V, fun _ _ _ => rfl, fun _ _ => rfl, fun j a b => by omega⟩
    · refine ok_wA (by omega) ?_; intro h4 E4
      have V4 : VS_ h4 := by rw [E4]; exact wA_163 V (by omega)
      have f4 : ∀ c j, ¬ (c = 163 ∧ j = i) → h4 c j = h c j := fun c j z => by rw [E4]; exact up_n (by omega)
      have s4 : h4 163 i = 5 := by rw [E4]; exact up_s
      have t4 : h4 160 8 = h 160 8 := f4 _ _ (by omega)
      refine ok_add (by omega) ?_; intro v5 e5
      rw [e5]
      obtain ⟨r, er, R1, R2, R3, R4⟩ := ih (i + 1) V4 (by omega) (by omega) (by omega) (by omega)
      refine ⟨r, er, R1, fun c j z => ?_, fun j z => ?_, fun j a b => ?_⟩
      · rw [R2 c j z, f4 c j (by omega)]
      · rw [R3 j (by omega), f4 _ j (by omega)]
      · by_cases z : j = i
        · rw [z, R3 i (by omega)]; exact s4
        · exact R4 j (by omega) (by omega)
/-- behind the last token, which is END or BAD, all is END -/
theorem qt_fin {h r : ms_M} {i : Nat} (P : PO_ h) (hi : (i : Int) = h 160 8) (h1 : 1 ≤ h 160 8) (hl : 5 ≤ h 163 (i - 1)) (V : VS_ r) (R2 : ∀ c j, c ≠ 163 → r c j = h c j) (R3 : ∀ j : Nat, j < i → r 163 j = h 163 j) (R4 : ∀ j : Nat, i ≤ j → (j : Int) < h 160 8 + 4 → r 163 j = 5) : QT_ r := by
  have t : r 160 8 = h 160 8 := R2 _ _ (by decide)
  refine ⟨V, ⟨by omega, fun k a b => ?_⟩, ⟨fun q hq => ?_, fun q hq a b => ?_, fun q hq => ?_⟩⟩
  · rw [t] at a b
    by_cases z : i ≤ k
    · rw [R4 k z b]; decide
    · rw [R3 k (by omega), show k = i - 1 by omega]; exact hl
  · rw [t] at hq
    rw [R2 165 q (by decide), R2 164 q (by decide), R2 164 (q + 1) (by decide), R3 q (by omega), R3 (q + 1) (by omega)]
    exact P.1 q hq
  · rw [t] at hq
    rw [R3 q (by omega)] at a
    rw [R2 166 q (by decide)] at b
    rw [R2 165 q (by decide)]
    exact P.2.1 q hq a b
  · rw [R2 164 q (by decide), R2 165 q (by decide)]; exact P.2.2 q hq
theorem tk_ok {nn : Nat} {k b n v : Int} {h : ms_M} (V : VS_ h) (ht : h 160 8 ≤ 3000) (rk : 0 ≤ k ∧ k ≤ 6) (rb : 0 ≤ b ∧ b ≤ 3000) (rn : 0 ≤ n ∧ n ≤ 3000) (rv : -2147483648 ≤ v ∧ v ≤ 2147483647) : Ok_ (qf_X13_token nn k b n v h) (fun r => VS_ r ∧ r 160 8 = h 160 8 + 1 ∧ (r 163 (h 160 8).toNat = k ∧ r 164 (h 160 8).toNat = b ∧ r 165 (h 160 8).toNat = n ∧ r 166 (h 160 8).toNat = v) ∧ (∀ c j, ¬ (c = 160 ∧ j = 8) → ¬ ((c = 163 ∨ c = 164 ∨ c = 165 ∨ c = 166) ∧ j = (h 160 8).toNat) → r c j = h c j)) := by
  have g := gF_160_8 V
  unfold qf_X13_token
  refine ok_wA (by omega) ?_; intro h3 E3
  have V3 : VS_ h3 := by rw [E3]; exact wA_163 V (by omega)
  have t3 : h3 160 8 = h 160 8 := by rw [E3]; exact up_n (by omega)
  refine ok_wA (by omega) ?_; intro h6 E6
  have V6 : VS_ h6 := by rw [E6]; exact wA_164 V3 (by omega)
  have t6 : h6 160 8 = h 160 8 := by rw [E6, up_n (by omega)]; exact t3
  refine ok_wA (by omega) ?_; intro h9 E9
  have V9 : VS_ h9 := by rw [E9]; exact wA_165 V6 (by omega)
  have t9 : h9 160 8 = h 160 8 := by rw [E9, up_n (by omega)]; exact t6
  refine ok_wA (by omega) ?_; intro h12 E12
  have V12 : VS_ h12 := by rw [E12]; exact wA_166 V9 (by omega)
  have t12 : h12 160 8 = h 160 8 := by rw [E12, up_n (by omega)]; exact t9
  refine ok_add (by omega) ?_; intro v14 e14
  refine ok_xl ?_; intro h15 E15
  have V15 : VS_ h15 := by rw [E15]; exact wF_160_8 V12 (by omega)
  rw [t3] at E6; rw [t6] at E9; rw [t9] at E12
  refine ok_ret ⟨V15, by rw [E15, up_s]; omega, ⟨?_, ?_, ?_, ?_⟩, fun c j z1 z2 => ?_⟩
  · rw [E15, up_n (by omega), E12, up_n (by omega), E9, up_n (by omega), E6, up_n (by omega), E3, up_s]
  · rw [E15, up_n (by omega), E12, up_n (by omega), E9, up_n (by omega), E6, up_s]
  · rw [E15, up_n (by omega), E12, up_n (by omega), E9, up_s]
  · rw [E15, up_n (by omega), E12, up_s]
  · rw [E15, up_n z1, E12, up_n (by omega), E9, up_n (by omega), E6, up_n (by omega), E3, up_n (by omega)]
theorem po_tok {p k n v : Int} {h u : ms_M} (p1 : h 160 8 ≤ p) (g8 : 0 ≤ h 160 8) (hp : p < h 160 3 ∨ 4 ≤ k) (P : PO_ h) (L : ∀ t : Nat, (t : Int) + 1 = h 160 8 → 1 ≤ h 165 t ∧ h 164 t + h 165 t ≤ p ∧ (h 163 t ≤ 3 → h 164 t + h 165 t = p → h 160 3 ≤ p ∨ ¬ LD_ (h 162 p.toNat))) (t1 : u 160 8 = h 160 8 + 1) (s1 : u 163 (h 160 8).toNat = k) (s2 : u 164 (h 160 8).toNat = p) (s3 : u 165 (h 160 8).toNat = n) (s4 : u 166 (h 160 8).toNat = v) (F : ∀ c j, ¬ (c = 160 ∧ j = 8) → ¬ ((c = 163 ∨ c = 164 ∨ c = 165 ∨ c = 166) ∧ j = (h 160 8).toNat) → u c j = h c j) (ha : k ≤ 3 → LD_ (h 162 p.toNat)) (hc : k = 3 → v = 3 → 5 ≤ n) (hw : p + n ≤ 3000) : PO_ u := by
  refine ⟨fun q hq => ?_, fun q hq a b => ?_, fun q hq => ?_⟩
  · by_cases z : (q : Int) + 1 < h 160 8
    · rw [F 165 q (by omega) (by omega), F 164 q (by omega) (by omega), F 164 (q + 1) (by omega) (by omega), F 163 q (by omega) (by omega), F 163 (q + 1) (by omega) (by omega)]
      exact P.1 q z
    · have q8 : (q : Int) + 1 = h 160 8 := by omega
      have := L q q8
      rw [F 165 q (by omega) (by omega), F 164 q (by omega) (by omega), F 163 q (by omega) (by omega), show q + 1 = (h 160 8).toNat by omega, s1, s2]
      refine ⟨this.1, this.2.1, fun a b => ?_⟩
      by_cases w : h 164 q + h 165 q = p
      · rcases this.2.2 a w with y | y
        · omega
        · exact absurd (ha b) y
      · omega
  · by_cases z : (q : Int) < h 160 8
    · rw [F 163 q (by omega) (by omega)] at a
      rw [F 166 q (by omega) (by omega)] at b
      rw [F 165 q (by omega) (by omega)]
      exact P.2.1 q z a b
    · have q8 : q = (h 160 8).toNat := by omega
      rw [q8, s1] at a; rw [q8, s4] at b; rw [q8, s3]
      exact hc a b
  · by_cases z : q = (h 160 8).toNat
    · rw [z, s2, s3]; exact hw
    · rw [F 164 q (by omega) (by omega), F 165 q (by omega) (by omega)]; exact P.2.2 q hq
section
variable {nn : Nat} {qk : Int → ms_M → Option ms_M} {p : Int}
/-- a token is put down at p, and the work goes on behind it or ends -/
theorem tz_tok (hn : 1000000 ≤ nn) (hk : ∀ (q : Int) {g : ms_M}, VS_ g → TI_ q g → p < q → Ok_ (qk q g) QT_) {k n v : Int} {h : ms_M} (V : VS_ h) (T : TI_ p h) (hp : p < h 160 3) (rk : 1 ≤ k ∧ k ≤ 6 ∧ k ≠ 5) (rn : 0 ≤ n ∧ p + n ≤ h 160 3) (rv : -2147483648 ≤ v ∧ v ≤ 2147483647) (hg : k ≠ 6 → 1 ≤ n) (ha : k ≤ 3 → LD_ (h 162 p.toNat)) (hb : k ≤ 3 → h 160 3 ≤ p + n ∨ ¬ LD_ (h 162 (p + n).toNat)) (hc : k = 3 → v = 3 → 5 ≤ n) : Ok_ (mx_sv (qf_X13_token nn k p n v h) fun u => qj_X13_tokenize_378 nn qk p n u) QT_ := by
  have g8 := gF_160_8 V
  have g3 := gF_160_3 V
  obtain ⟨⟨p0, p1, p2⟩, P, L⟩ := T
  obtain ⟨u, eu, Vu, t1, ⟨s1, s2, s3, s4⟩, F⟩ := tk_ok (nn := nn) (k := k) (b := p) (n := n) (v := v) V (by omega) (by omega) (by omega) (by omega) rv
  rw [eu, mx_svs]
  have hz : u 160 3 = h 160 3 := F _ _ (by omega) (by omega)
  have Pu : PO_ u := po_tok p1 g8.1 (.inl hp) P L t1 s1 s2 s3 s4 F ha hc (by omega)
  unfold qj_X13_tokenize_378
  refine ok_sub (by omega) ?_; intro v15 e15
  refine ok_rd (by omega) (gA_163 Vu) ?_; intro v16 e16 a16 b16
  have e16 : v16 = k := by rw [e16, show v15.toNat = (h 160 8).toNat by omega]; exact s1
  refine ok_if (fun C => ?_) (fun C => ?_)
  · refine ok_add (by omega) ?_; intro v17 e17
    have n1 := hg (by omega)
    refine hk v17 Vu ⟨⟨by omega, by omega, by omega⟩, Pu, fun q hq => ?_⟩ (by omega)
    have q8 : q = (h 160 8).toNat := by omega
    rw [q8, s1, s2, s3]
    refine ⟨n1, by omega, fun a _ => ?_⟩
    rw [hz, e17, F 162 _ (by omega) (by omega)]
    exact hb a
  · have hi : (((u 160 8).toNat : Nat) : Int) = u 160 8 := by omega
    obtain ⟨r, er, R1, R2, R3, R4⟩ := fl_400 (nn := nn) nn (u 160 8).toNat Vu (by omega) (by omega) (by omega) (by omega)
    rw [hi] at er
    refine ⟨r, er, qt_fin Pu hi (by omega) ?_ R1 R2 R3 R4⟩
    rw [show (u 160 8).toNat - 1 = (h 160 8).toNat by omega, s1]; omega
end
def tx_ (h : ms_M) (i : Int) : Int := if h 160 3 ≤ i then 0 else h 162 i.toNat
theorem tx_n {h : ms_M} {i : Int} (l : LD_ (tx_ h i)) : i < h 160 3 ∧ LD_ (h 162 i.toNat) := by
  unfold tx_ at l
  split at l
  · unfold LD_ at l; omega
  · exact ⟨by omega, l⟩
theorem tx_0 (h : ms_M) (i : Int) : tx_ h i = 0 ∨ i < h 160 3 := by
  unfold tx_
  by_cases z : h 160 3 ≤ i
  · rw [if_pos z]; exact .inl rfl
  · right; omega
theorem at_eq {nn : Nat} {h : ms_M} {i : Int} (V : VS_ h) (h0 : 0 ≤ i) : qf_X13_at nn i h = some (tx_ h i) := by
  have g := gF_160_3 V
  unfold qf_X13_at tx_
  by_cases q : h 160 3 ≤ i
  · rw [if_pos q, if_pos q]
  · rw [if_neg q, if_neg q]
    unfold rd_A
    rw [if_pos (by omega)]
theorem tx_b {h : ms_M} {i : Int} (V : VS_ h) (h0 : 0 ≤ i) : 0 ≤ tx_ h i ∧ tx_ h i ≤ 255 := by
  have g := gF_160_3 V
  unfold tx_
  split
  · omega
  · exact gA_162 V i.toNat (by omega)
theorem il_ok {nn : Nat} {c : Int} {h : ms_M} : ∃ u, qf_X13_isLetter nn c h = some u ∧ ((u = 1 ∧ ((97 ≤ c ∧ c ≤ 122) ∨ (65 ≤ c ∧ c ≤ 90))) ∨ (u = 0 ∧ ¬ ((97 ≤ c ∧ c ≤ 122) ∨ (65 ≤ c ∧ c ≤ 90)))) := by
  unfold qf_X13_isLetter qj_X13_isLetter_12
  split
  · split
    · exact ⟨0, rfl, by omega⟩
    · split
      · exact ⟨0, rfl, by omega⟩
      · exact ⟨1, rfl, by omega⟩
  · split
    · exact ⟨1, rfl, by omega⟩
    · split
      · exact ⟨0, rfl, by omega⟩
      · split
        · exact ⟨0, rfl, by omega⟩
        · exact ⟨1, rfl, by omega⟩
theorem id_ok {nn : Nat} {c : Int} {h : ms_M} : ∃ u, qf_X13_isDigit nn c h = some u ∧ ((u = 1 ∧ 48 ≤ c ∧ c ≤ 57) ∨ (u = 0 ∧ ¬ (48 ≤ c ∧ c ≤ 57))) := by
  unfold qf_X13_isDigit
  split
  · exact ⟨0, rfl, by omega⟩
  · split
    · exact ⟨0, rfl, by omega⟩
    · exact ⟨1, rfl, by omega⟩
section
variable {nn : Nat} {qk : Int → ms_M → Option ms_M} {p : Int} {h : ms_M}
theorem tz_92 (hn : 1000000 ≤ nn) (hk : ∀ (q : Int) {g : ms_M}, VS_ g → TI_ q g → p < q → Ok_ (qk q g) QT_) (V : VS_ h) (T : TI_ p h) (hp : p < h 160 3) (hl : LD_ (h 162 p.toNat)) : ∀ (f : Nat) (n : Int), 0 ≤ n → p + n ≤ h 160 3 → h 160 3 + 1 - (p + n) < (f : Int) → Ok_ (qw_X13_tokenize_92 nn qk f p n h) QT_ := by
  have g3 := gF_160_3 V
  have p0 := T.1.1
  intro f
  induction f with
  | zero => intro n a b hm; exfalso; omega
  | succ f ih =>
    intro n a b hm
    unfold qw_X13_tokenize_92
    have nx : LD_ (tx_ h (p + n)) → Ok_ (qw_X13_tokenize_92 nn qk f p (n + 1) h) QT_ := fun l => by
      have := tx_n l
      exact ih (n + 1) (by omega) (by omega) (by omega)
    refine ok_add (by omega) ?_; intro v65 e65
    rw [e65, at_eq V (by omega), mx_svs]
    obtain ⟨u68, e68, L68⟩ := il_ok (nn := nn) (c := tx_ h (p + n)) (h := h)
    rw [e68, mx_svs]
    refine ok_if (fun C => ?_) (fun C => ?_)
    · refine ok_add (by omega) ?_; intro v69 e69
      rw [e69]; exact nx (by unfold LD_; omega)
    · refine ok_add (by omega) ?_; intro v70 e70
      rw [e70, at_eq V (by omega), mx_svs]
      obtain ⟨u73, e73, L73⟩ := id_ok (nn := nn) (c := tx_ h (p + n)) (h := h)
      rw [e73, mx_svs]
      refine ok_if (fun C2 => ?_) (fun C2 => ?_)
      · refine ok_add (by omega) ?_; intro v74 e74
        rw [e74]; exact nx (by unfold LD_; omega)
      · refine ok_add (by omega) ?_; intro v75 e75
        rw [e75, at_eq V (by omega), mx_svs]
        refine ok_if (fun C3 => ?_) (fun C3 => ?_)
        · have nl : ¬ LD_ (tx_ h (p + n)) := by unfold LD_; omega
          have n1 : 1 ≤ n := by
            by_cases z : n = 0
            · rw [z, Int.add_zero] at nl
              unfold tx_ at nl
              rw [if_neg (by omega)] at nl
              exact absurd hl nl
            · omega
          have hb : h 160 3 ≤ p + n ∨ ¬ LD_ (h 162 (p + n).toNat) := by
            by_cases z : h 160 3 ≤ p + n
            · exact .inl z
            · right; unfold tx_ at nl; rw [if_neg z] at nl; exact nl
          obtain ⟨u, eu, qu⟩ := am_ok (nn := nn) (p := p) (n := n) hn XT_2 V p0 a (by omega)
          have q2 := qa_2 a qu
          rw [eu, mx_svs]
          have tok : ∀ {k : Int}, (1 ≤ k ∧ k ≤ 6 ∧ k ≠ 5) → (k = 3 → 0 ≤ u) → Ok_ (qj_X13_tokenize_169 nn qk p n u k h) QT_ := fun rk rz => by
            unfold qj_X13_tokenize_169
            exact tz_tok hn hk V T hp rk (by omega) (by omega) (fun _ => n1) (fun _ => hl) (fun _ => hb) (fun _ z => q2.2 z)
          refine ok_if (fun C4 => ?_) (fun C4 => ?_)
          · refine ok_if (fun C5 => tok (by omega) (by omega)) (fun C5 => tok (by omega) (by omega))
          · exact tok (by omega) (by omega)
        · refine ok_add (by omega) ?_; intro v82 e82
          rw [e82]; exact nx (by unfold LD_; omega)
theorem tz_293 (hn : 1000000 ≤ nn) (hk : ∀ (q : Int) {g : ms_M}, VS_ g → TI_ q g → p < q → Ok_ (qk q g) QT_) (V : VS_ h) (T : TI_ p h) (hp : p < h 160 3) (hl : LD_ (h 162 p.toNat)) {n l4 s : Int} (hs : s = 0 ∨ s = 1) (n1 : 1 ≤ n ∧ p + n ≤ h 160 3) (hb : s = 1 → h 160 3 ≤ p + n ∨ ¬ LD_ (h 162 (p + n).toNat)) : Ok_ (qj_X13_tokenize_293 nn qk p n l4 s h) QT_ := by
  unfold qj_X13_tokenize_293
  refine ok_if (fun C => ?_) (fun C => ?_)
  · unfold qj_X13_tokenize_307
    refine ok_l2i ?_; intro v a b _
    exact tz_tok hn hk V T hp (by omega) (by omega) ⟨a, b⟩ (fun _ => n1.1) (fun z => by omega) (fun z => by omega) (fun z => by omega)
  · unfold qj_X13_tokenize_307
    refine ok_l2i ?_; intro v a b _
    exact tz_tok hn hk V T hp (by omega) (by omega) ⟨a, b⟩ (fun _ => n1.1) (fun _ => hl) (fun _ => hb (by omega)) (fun z => by omega)
theorem tz_263 (hn : 1000000 ≤ nn) (hk : ∀ (q : Int) {g : ms_M}, VS_ g → TI_ q g → p < q → Ok_ (qk q g) QT_) (V : VS_ h) (T : TI_ p h) (hp : p < h 160 3) (hl : LD_ (h 162 p.toNat)) {n l4 : Int} (n1 : 1 ≤ n ∧ p + n ≤ h 160 3) (nd : ¬ (48 ≤ tx_ h (p + n) ∧ tx_ h (p + n) ≤ 57)) : Ok_ (qj_X13_tokenize_263 nn qk p n l4 h) QT_ := by
  have g3 := gF_160_3 V
  have p0 := T.1.1
  unfold qj_X13_tokenize_263 qj_X13_tokenize_292
  refine ok_add (by omega) ?_; intro v34 e34
  rw [e34, at_eq V (by omega), mx_svs]
  obtain ⟨u37, e37, L37⟩ := il_ok (nn := nn) (c := tx_ h (p + n)) (h := h)
  rw [e37, mx_svs]
  refine ok_if (fun C => tz_293 hn hk V T hp hl (.inl rfl) n1 (fun z => by omega)) (fun C => ?_)
  refine ok_add (by omega) ?_; intro v38 e38
  rw [e38, at_eq V (by omega), mx_svs]
  refine ok_if (fun C2 => tz_293 hn hk V T hp hl (.inl rfl) n1 (fun z => by omega)) (fun C2 => ?_)
  refine tz_293 hn hk V T hp hl (.inr rfl) n1 (fun _ => ?_)
  by_cases z : h 160 3 ≤ p + n
  · exact .inl z
  · right
    have : tx_ h (p + n) = h 162 (p + n).toNat := by unfold tx_; rw [if_neg z]
    rw [← this]; unfold LD_; omega
theorem tz_189 (hn : 1000000 ≤ nn) (hk : ∀ (q : Int) {g : ms_M}, VS_ g → TI_ q g → p < q → Ok_ (qk q g) QT_) (V : VS_ h) (T : TI_ p h) (hp : p < h 160 3) (hd : 48 ≤ h 162 p.toNat ∧ h 162 p.toNat ≤ 57) {l2 : Int} : ∀ (f : Nat) (n l4 : Int), 0 ≤ n → p + n ≤ h 160 3 → (0 ≤ l4 ∧ l4 ≤ 30000000009) → h 160 3 + 1 - (p + n) < (f : Int) → Ok_ (qw_X13_tokenize_189 nn qk f p l2 n l4 h) QT_ := by
  have g3 := gF_160_3 V
  have p0 := T.1.1
  have hl : LD_ (h 162 p.toNat) := by unfold LD_; omega
  intro f
  induction f with
  | zero => intro n l4 a b c hm; exfalso; omega
  | succ f ih =>
    intro n l4 a b c hm
    unfold qw_X13_tokenize_189
    refine ok_add (by omega) ?_; intro v43 e43
    rw [e43, at_eq V (by omega), mx_svs]
    obtain ⟨u46, e46, L46⟩ := id_ok (nn := nn) (c := tx_ h (p + n)) (h := h)
    rw [e46, mx_svs]
    have bt := tx_b (i := p + n) V (by omega)
    refine ok_if (fun C => ?_) (fun C => ?_)
    · have n1 : 1 ≤ n := by
        by_cases z : n = 0
        · have : tx_ h (p + n) = h 162 p.toNat := by unfold tx_; rw [z, Int.add_zero, if_neg (by omega)]
          omega
        · omega
      refine ok_cmp ?_; intro v47 e47
      refine ok_if (fun C2 => ?_) (fun C2 => ?_)
      · unfold qj_X13_tokenize_292
        exact tz_293 hn hk V T hp hl (.inl rfl) ⟨n1, b⟩ (fun z => by omega)
      · refine ok_if (fun C3 => tz_263 hn hk V T hp hl ⟨n1, b⟩ (by omega)) (fun C3 => ?_)
        refine ok_if (fun C4 => ?_) (fun C4 => tz_263 hn hk V T hp hl ⟨n1, b⟩ (by omega))
        unfold qj_X13_tokenize_292
        exact tz_293 hn hk V T hp hl (.inl rfl) ⟨n1, b⟩ (fun z => by omega)
    · have lt : p + n < h 160 3 := (tx_n (h := h) (i := p + n) (by unfold LD_; omega)).1
      refine ok_cmp ?_; intro v51 e51
      refine ok_if (fun C2 => ?_) (fun C2 => ?_)
      · refine ok_c6 (by omega) ?_; intro v52 e52
        refine ok_add (by omega) ?_; intro v53 e53
        rw [e53, at_eq V (by omega), mx_svs]
        refine ok_xl ?_; intro v56 e56
        refine ok_c6 (by omega) ?_; intro v57 e57
        refine ok_c6 (by omega) ?_; intro v58 e58
        refine ok_add (by omega) ?_; intro v59 e59
        exact ih v59 v58 (by omega) (by omega) (by omega) (by omega)
      · refine ok_add (by omega) ?_; intro v60 e60
        exact ih v60 l4 (by omega) (by omega) c (by omega)
theorem tz_330 (hn : 1000000 ≤ nn) (hk : ∀ (q : Int) {g : ms_M}, VS_ g → TI_ q g → p < q → Ok_ (qk q g) QT_) (V : VS_ h) (T : TI_ p h) (hp : p < h 160 3) {n : Int} (hn3 : 0 ≤ n ∧ n ≤ 3 ∧ p + n ≤ h 160 3) : ∀ (f : Nat) (l4 i : Int), i ≤ n → ((i = 0 ∧ l4 = 0) ∨ (i = 1 ∧ 0 ≤ l4 ∧ l4 ≤ 255) ∨ (i = 2 ∧ 0 ≤ l4 ∧ l4 ≤ 33000) ∨ (i = 3 ∧ 0 ≤ l4 ∧ l4 ≤ 5000000)) → n - i < (f : Int) → Ok_ (qw_X13_tokenize_330 nn qk f p n l4 i h) QT_ := by
  have g3 := gF_160_3 V
  have p0 := T.1.1
  intro f
  induction f with
  | zero =>
    intro l4 i ai a hm
    exfalso; omega
  | succ f ih =>
    intro l4 i ai a hm
    unfold qw_X13_tokenize_330
    refine ok_if (fun C => ?_) (fun C => ?_)
    · refine ok_if (fun C2 => ?_) (fun C2 => ?_)
      · unfold qj_X13_tokenize_371
        exact tz_tok hn hk V T hp (by omega) (by omega) (by omega) (fun z => absurd rfl z) (fun z => by omega) (fun z => by omega) (fun z => by omega)
      · unfold qj_X13_tokenize_371
        exact tz_tok hn hk V T hp (by omega) (by omega) (by omega) (fun _ => by omega) (fun z => by omega) (fun z => by omega) (fun z => by omega)
    · refine ok_mul (by omega) ?_; intro v23 e23
      refine ok_add (by omega) ?_; intro v25 e25
      refine ok_rd (by omega) (gA_162 V) ?_; intro v26 e26 a26 b26
      refine ok_add (by omega) ?_; intro v27 e27
      refine ok_add (by omega) ?_; intro v28 e28
      exact ih v27 v28 (by omega) (by omega) (by omega)
theorem sg_ok (V : VS_ h) (p0 : 0 ≤ p) (hp : p < h 160 3) : Ok_ (qf_X13_signAt nn p h) (fun u => (0 ≤ u ∧ u ≤ 3) ∧ p + u ≤ h 160 3) := by
  have g3 := gF_160_3 V
  have d1 := tx_0 h (p + 1)
  have d2 := tx_0 h (p + 2)
  unfold qf_X13_signAt
  rw [at_eq V p0, mx_svs]
  refine ok_add (by omega) ?_; intro v5 e5
  rw [e5, at_eq V (by omega), mx_svs]
  generalize tx_ h (p + 1) = d at *
  generalize tx_ h p = c at *
  have a404 : Ok_ (qj_X13_signAt_404 nn h) (fun u => (0 ≤ u ∧ u ≤ 3) ∧ p + u ≤ h 160 3) := ok_ret (by omega)
  have a485 : Ok_ (qj_X13_signAt_485 nn h) (fun u => (0 ≤ u ∧ u ≤ 3) ∧ p + u ≤ h 160 3) := ok_ret (by omega)
  have a406 : Ok_ (qj_X13_signAt_406 nn d h) (fun u => (0 ≤ u ∧ u ≤ 3) ∧ p + u ≤ h 160 3) := by
    unfold qj_X13_signAt_406
    exact ok_if (fun _ => ok_ret (by omega)) (fun _ => ok_ret (by omega))
  have a474 : c ≠ 0 → Ok_ (qj_X13_signAt_474 nn c d h) (fun u => (0 ≤ u ∧ u ≤ 3) ∧ p + u ≤ h 160 3) := by
    intro z
    unfold qj_X13_signAt_474
    exact ok_if (fun _ => ok_ret (by omega)) (fun _ => ok_ret (by omega))
  refine ok_if (fun _ => a406) (fun _ => ?_)
  refine ok_if (fun _ => a404) (fun _ => ?_)
  refine ok_if (fun _ => a474 (by omega)) (fun _ => ?_)
  refine ok_if (fun _ => a404) (fun _ => ?_)
  refine ok_if (fun _ => a404) (fun _ => ?_)
  refine ok_if (fun _ => a404) (fun _ => ?_)
  refine ok_if (fun _ => a404) (fun _ => ?_)
  refine ok_if (fun _ => a404) (fun _ => ?_)
  refine ok_if (fun _ => a404) (fun _ => ?_)
  refine ok_if (fun _ => a404) (fun _ => ?_)
  refine ok_if (fun _ => a404) (fun _ => ?_)
  refine ok_if (fun _ => a404) (fun _ => ?_)
  refine ok_if (fun _ => a404) (fun _ => ?_)
  refine ok_if (fun _ => ?_) (fun _ => ?_)
  · refine ok_if (fun _ => ok_ret (by omega)) (fun _ => ?_)
    exact ok_if (fun _ => ok_ret (by omega)) (fun _ => ok_ret (by omega))
  refine ok_if (fun _ => a406) (fun _ => ?_)
  refine ok_if (fun _ => ?_) (fun _ => ?_)
  · refine ok_if (fun _ => ?_) (fun _ => ?_)
    · exact ok_if (fun _ => ok_ret (by omega)) (fun _ => ok_ret (by omega))
    · refine ok_add (by omega) ?_; intro v11 e11
      rw [e11, at_eq V (by omega), mx_svs]
      exact ok_if (fun _ => ok_ret (by omega)) (fun _ => ok_ret (by omega))
  refine ok_if (fun _ => a404) (fun _ => ?_)
  refine ok_if (fun _ => a404) (fun _ => ?_)
  refine ok_if (fun _ => a404) (fun _ => ?_)
  refine ok_if (fun _ => a404) (fun _ => ?_)
  refine ok_if (fun _ => a404) (fun _ => ?_)
  refine ok_if (fun _ => a474 (by omega)) (fun _ => ?_)
  refine ok_if (fun _ => a404) (fun _ => ?_)
  refine ok_if (fun _ => a404) (fun _ => a485)
theorem tz_83 (hn : 1000000 ≤ nn) (hk : ∀ (q : Int) {g : ms_M}, VS_ g → TI_ q g → p < q → Ok_ (qk q g) QT_) (V : VS_ h) (T : TI_ p h) (hp : p < h 160 3) : Ok_ (qj_X13_tokenize_83 nn qk p (h 162 p.toNat) h) QT_ := by
  have g3 := gF_160_3 V
  have p0 := T.1.1
  unfold qj_X13_tokenize_83
  obtain ⟨u86, e86, L86⟩ := il_ok (nn := nn) (c := h 162 p.toNat) (h := h)
  rw [e86, mx_svs]
  refine ok_if (fun C => ?_) (fun C => ?_)
  · obtain ⟨u87, e87, L87⟩ := id_ok (nn := nn) (c := h 162 p.toNat) (h := h)
    rw [e87, mx_svs]
    refine ok_if (fun C2 => ?_) (fun C2 => ?_)
    · obtain ⟨u89, e89, q89⟩ := sg_ok (nn := nn) V p0 hp
      rw [e89, mx_svs]
      exact tz_330 hn hk V T hp (by omega) nn 0 0 (by omega) (.inl ⟨rfl, rfl⟩) (by omega)
    · exact tz_189 hn hk V T hp (by omega) nn 0 0 (by omega) (by omega) (by omega) (by omega)
  · exact tz_92 hn hk V T hp (by unfold LD_; omega) nn 0 (by omega) (by omega) (by omega)
end
theorem ti_go {p q : Int} {h : ms_M} (T : TI_ p h) (hq : p < q ∧ q ≤ h 160 3) : TI_ q h := by
  refine ⟨by have := T.1; omega, T.2.1, fun t ht => ?_⟩
  have := T.2.2 t ht
  exact ⟨this.1, by omega, fun _ z => by omega⟩
theorem tz_58 {nn : Nat} {qk : Int → ms_M → Option ms_M} {h : ms_M} {p0 : Int} (V : VS_ h) (T : TI_ p0 h) (hk : ∀ (q : Int), TI_ q h → p0 < q → Ok_ (qk q h) QT_) : ∀ (f : Nat) (p : Int), (p0 < p ∨ (p = p0 ∧ p < h 160 3 ∧ ¬ h 162 p.toNat = 10)) → p ≤ h 160 3 → h 160 3 + 1 - p < (f : Int) → Ok_ (qw_X13_tokenize_58 nn qk f p h) QT_ := by
  have g3 := gF_160_3 V
  have t0 := T.1.1
  intro f
  induction f with
  | zero => intro p a b hm; exfalso; omega
  | succ f ih =>
    intro p a b hm
    unfold qw_X13_tokenize_58
    refine ok_if (fun C => ?_) (fun C => ?_)
    · exact hk p (ti_go T (by omega)) (by omega)
    · refine ok_rd (by omega) (gA_162 V) ?_; intro v e av bv
      refine ok_if (fun C2 => ?_) (fun C2 => ?_)
      · rcases a with a | a
        · exact hk p (ti_go T (by omega)) (by omega)
        · exact absurd (by rw [← e]; exact C2) a.2.2
      · refine ok_add (by omega) ?_; intro v95 e95
        exact ih v95 (by omega) (by omega) (by omega)
theorem tz_7 {nn : Nat} (hn : 1000000 ≤ nn) : ∀ (f : Nat) (p : Int) {h : ms_M}, VS_ h → TI_ p h → 3001 - p < (f : Int) → Ok_ (qw_X13_tokenize_7 nn f p h) QT_ := by
  intro f
  induction f with
  | zero => intro p h V T hm; have := gF_160_3 V; have := T.1; exfalso; omega
  | succ f ih =>
    intro p h V T hm
    have g3 := gF_160_3 V
    have g8 := gF_160_8 V
    obtain ⟨⟨p0, p1, p2⟩, P, L⟩ := T
    have T : TI_ p h := ⟨⟨p0, p1, p2⟩, P, L⟩
    have hk : ∀ (q : Int) {g : ms_M}, VS_ g → TI_ q g → p < q → Ok_ (qw_X13_tokenize_7 nn f q g) QT_ := fun q g Vg Tg hq => ih q Vg Tg (by omega)
    unfold qw_X13_tokenize_7
    refine ok_if (fun C => ?_) (fun C => ?_)
    · obtain ⟨u, eu, Vu, t1, ⟨s1, s2, s3, s4⟩, F⟩ := tk_ok (nn := nn) (k := 5) (b := h 160 3) (n := 0) (v := 0) V (by omega) (by omega) (by omega) (by omega) (by omega)
      rw [eu, mx_svs]
      have hpe : p = h 160 3 := by omega
      have Pu : PO_ u := po_tok p1 g8.1 (.inr (by omega)) P L t1 s1 (by rw [s2]; exact hpe.symm) s3 s4 F (fun z => by omega) (fun z => by omega) (by omega)
      have hi : (((u 160 8).toNat : Nat) : Int) = u 160 8 := by omega
      obtain ⟨r, er, R1, R2, R3, R4⟩ := fl_449 (nn := nn) nn (u 160 8).toNat Vu (by omega) (by omega) (by omega) (by omega)
      rw [hi] at er
      refine ⟨r, er, qt_fin Pu hi (by omega) ?_ R1 R2 R3 R4⟩
      rw [show (u 160 8).toNat - 1 = (h 160 8).toNat by omega, s1]; omega
    · have hp : p < h 160 3 := by omega
      refine ok_rd (by omega) (gA_162 V) ?_; intro v104 e104 a104 b104
      refine ok_if (fun C1 => ?_) (fun C1 => ?_)
      · refine ok_add (by omega) ?_; intro v e
        exact hk v V (ti_go T (by omega)) (by omega)
      · refine ok_if (fun C2 => ?_) (fun C2 => ?_)
        · refine ok_if (fun C3 => ?_) (fun C3 => ?_)
          · rw [e104]; exact tz_83 hn hk V T hp
          · refine ok_add (by omega) ?_; intro v106 e106
            rw [e106, at_eq V (by omega), mx_svs]
            refine ok_if (fun C4 => ?_) (fun C4 => ?_)
            · rw [e104]; exact tz_83 hn hk V T hp
            · exact tz_58 V T (fun q Tq hq => hk q V Tq hq) nn p (.inr ⟨rfl, hp, by rw [← e104]; omega⟩) p2 (by omega)
        · refine ok_add (by omega) ?_; intro v e
          exact hk v V (ti_go T (by omega)) (by omega)
theorem tz_ok {nn : Nat} (hn : 1000000 ≤ nn) {h : ms_M} (V : VS_ h) (W : ∀ t : Nat, (t : Int) < 3002 → h 164 t + h 165 t ≤ 3000) : Ok_ (qf_X13_tokenize nn h) QT_ := by
  have g3 := gF_160_3 V
  unfold qf_X13_tokenize
  refine ok_xl ?_; intro h1 E1
  have V1 : VS_ h1 := by rw [E1]; exact wF_160_8 V (by omega)
  have t1 : h1 160 8 = 0 := by rw [E1]; exact up_s
  have t3 : h1 160 3 = h 160 3 := by rw [E1]; exact up_n (by omega)
  refine tz_7 hn nn 0 V1 ⟨by omega, ⟨fun t ht => by omega, fun t ht => by omega, fun t ht => by rw [E1, up_n (by omega), up_n (by omega)]; exact W t ht⟩, fun t ht => by omega⟩ (by omega)
end
section
/-- the tokens stay as they were -/
def TS_ (h r : ms_M) : Prop := r 160 8 = h 160 8 ∧ ∀ k, r 163 k = h 163 k ∧ r 164 k = h 164 k ∧ r 165 k = h 165 k ∧ r 166 k = h 166 k
theorem ts_rfl {h : ms_M} : TS_ h h := ⟨rfl, fun _ => ⟨rfl, rfl, rfl, rfl⟩⟩
theorem ts_t {h r s : ms_M} (A : TS_ h r) (B : TS_ r s) : TS_ h s := ⟨B.1.trans A.1, fun k => ⟨(B.2 k).1.trans (A.2 k).1, (B.2 k).2.1.trans (A.2 k).2.1, (B.2 k).2.2.1.trans (A.2 k).2.2.1, (B.2 k).2.2.2.trans (A.2 k).2.2.2⟩⟩
theorem ts_fr {h r : ms_M} {L : List Nat} {LF : List (Nat × Nat)} (F : ∀ c k, nw_F L LF false false c k = true → r c k = h c k) (hc : (nw_F L LF false false 160 8 && ((!(L.contains 163) && LF.all (fun q => !(Nat.beq q.1 163))) && ((!(L.contains 164) && LF.all (fun q => !(Nat.beq q.1 164))) && ((!(L.contains 165) && LF.all (fun q => !(Nat.beq q.1 165))) && (!(L.contains 166) && LF.all (fun q => !(Nat.beq q.1 166))))))) = true) : TS_ h r := by
  simp only [Bool.and_eq_true] at hc
  obtain ⟨q0, ⟨a1, a2⟩, ⟨b1, b2⟩, ⟨c1, c2⟩, d1, d2⟩ := hc
  refine ⟨F _ _ q0, fun k => ⟨F _ _ (nw_ar ?_ k), F _ _ (nw_ar ?_ k), F _ _ (nw_ar ?_ k), F _ _ (nw_ar ?_ k)⟩⟩ <;> simp only [Bool.and_eq_true]
  · exact ⟨a1, a2, rfl, rfl⟩
  · exact ⟨b1, b2, rfl, rfl⟩
  · exact ⟨c1, c2, rfl, rfl⟩
  · exact ⟨d1, d2, rfl, rfl⟩
theorem ts_up {h : ms_M} {c k : Nat} {v : Int} (hc : ¬ (c = 160 ∧ k = 8) ∧ (c < 163 ∨ 166 < c)) : TS_ h (up_M h c k v) := ⟨up_n (by omega), fun j => ⟨up_n (by omega), up_n (by omega), up_n (by omega), up_n (by omega)⟩⟩
theorem ek_ts {h r : ms_M} (N : EK_ h) (T : TS_ h r) : EK_ r := ek_eq N T.1 (fun k => (T.2 k).1)
theorem po_ts {h r : ms_M} (P : PO_ h) (T : TS_ h r) : PO_ r := by
  refine ⟨fun t ht => ?_, fun t ht a b => ?_, fun t ht => ?_⟩
  · rw [T.1] at ht
    rw [(T.2 t).2.2.1, (T.2 t).2.1, (T.2 (t + 1)).2.1, (T.2 t).1, (T.2 (t + 1)).1]
    exact P.1 t ht
  · rw [T.1] at ht
    rw [(T.2 t).1] at a
    rw [(T.2 t).2.2.2] at b
    rw [(T.2 t).2.2.1]
    exact P.2.1 t ht a b
  · rw [(T.2 t).2.1, (T.2 t).2.2.1]; exact P.2.2 t ht
theorem po_go {h : ms_M} (P : PO_ h) : ∀ (d c : Nat), (c : Int) + d < h 160 8 → h 164 c + d ≤ h 164 (c + d) := by
  intro d
  induction d with
  | zero => intro c _; simp
  | succ d ih =>
    intro c hc
    have h1 := ih c (by omega)
    have h2 := P.1 (c + d) (by omega)
    rw [show c + (d + 1) = c + d + 1 by omega]
    omega
theorem po_le {h : ms_M} (P : PO_ h) {a b : Int} (h0 : 0 ≤ a) (h1 : a ≤ b) (h2 : b + 1 ≤ h 160 8) : h 164 a.toNat + (b - a) ≤ h 164 b.toNat := by
  have := po_go P (b - a).toNat a.toNat (by omega)
  rw [show a.toNat + (b - a).toNat = b.toNat by omega] at this
  omega
/-- two words beside each other have a byte between them -/
theorem po_two {h : ms_M} (P : PO_ h) {a : Int} (h0 : 0 ≤ a) (h2 : a + 2 ≤ h 160 8) (k1 : h 163 a.toNat ≤ 3) (k2 : h 163 (a + 1).toNat ≤ 3) : h 164 a.toNat + h 165 a.toNat + 1 ≤ h 164 (a + 1).toNat ∧ 1 ≤ h 165 a.toNat := by
  have := P.1 a.toNat (by omega)
  rw [show (a + 1).toNat = a.toNat + 1 by omega] at k2 ⊢
  exact ⟨this.2.2 k1 k2, this.1⟩
theorem wz_i {α : Type} {M : ms_M} {r : α} {n : Int} {c : Nat} {j v : Int} {G : ms_M → Option α} (e : wr_Z n c j v M G = some r) : G (up_M M c j.toNat v) = some r := by
  unfold wr_Z at e; split at e
  · exact e
  · cases e
theorem nm_k {nn : Nat} {h : ms_M} {u : Int × ms_M} (hn : 1000000 ≤ nn) (V : VS_ h) (N : EK_ h) (hc : h 160 23 + 1 ≤ h 160 8) (e : qf_X13_name nn h = some u) (z : u.2 160 9 = 0) : h 163 (h 160 23).toNat = 1 := by
  unfold qf_X13_name at e
  by_cases q : h 160 9 = 0
  · rw [if_pos q] at e
    have e := rd_i e
    by_cases q2 : h 163 (h 160 23).toNat = 1
    · exact q2
    · rw [if_neg q2] at e
      obtain ⟨w, e1, e⟩ := sv_i e
      cases e
      exact absurd z (okof (vf_X13_misplaced hn V hc N) e1).2
  · rw [if_neg q] at e
    cases e
    exact absurd z q
theorem iw_k {nn : Nat} {a1 a2 u : Int} {h : ms_M} (e : qf_X13_isWord nn a1 a2 h = some u) : u = 0 ∨ (h 163 a1.toNat = 3 ∧ h 166 a1.toNat = a2) := by
  unfold qf_X13_isWord at e
  have e := rd_i e
  split at e
  · cases e; exact .inl rfl
  · have e := rd_i e
    split at e
    · cases e; exact .inl rfl
    · right; exact ⟨by omega, by omega⟩
theorem t96_f {nn : Nat} {h r : ms_M} (e : qj_X13_type_96 nn h = some r) (z : r 160 9 = 0) : h 160 9 = 0 := by
  unfold qj_X13_type_96 at e
  by_cases q : h 160 9 = 0
  · exact q
  · rw [if_pos q] at e
    cases e
    exact absurd z q
theorem ty_k {nn : Nat} {h r : ms_M} (hn : 1000000 ≤ nn) (V : VS_ h) (N : EK_ h) (hc : h 160 23 + 1 ≤ h 160 8) (e : qf_X13_type nn h = some r) (z : r 160 9 = 0) : h 163 (h 160 23).toNat ≤ 3 := by
  have g := gF_160_23 V
  unfold qf_X13_type at e
  by_cases q : h 160 9 = 0
  · rw [if_pos q, xl_eq, xl_eq] at e
    have V1 : VS_ (up_M h 160 46 (h 160 23)) := wF_160_46 V (by omega)
    have V2 : VS_ (up_M (up_M h 160 46 (h 160 23)) 160 47 0) := wF_160_47 V1 (by omega)
    have T2 : TS_ h (up_M (up_M h 160 46 (h 160 23)) 160 47 0) := ts_t (ts_up (by omega)) (ts_up (by omega))
    have c2 : up_M (up_M h 160 46 (h 160 23)) 160 47 0 160 23 = h 160 23 := by rw [up_n (by omega), up_n (by omega)]
    generalize up_M (up_M h 160 46 (h 160 23)) 160 47 0 = g2 at *
    obtain ⟨u27, e27, e⟩ := sv_i e
    have L27 := iw_k e27
    rw [c2, (T2.2 _).1] at L27
    by_cases q2 : u27 = 0
    · rw [if_pos q2] at e
      obtain ⟨u30, e30, e⟩ := sv_i e
      have L30 := iw_k e30
      rw [c2, (T2.2 _).1] at L30
      by_cases q3 : u30 = 0
      · rw [if_pos q3] at e
        unfold qj_X13_type_68 at e
        rw [xl_eq] at e
        have V3 : VS_ (up_M g2 160 45 3) := wF_160_45 V2 (by omega)
        have T3 : TS_ g2 (up_M g2 160 45 3) := ts_up (by omega)
        have c3 : up_M g2 160 45 3 160 23 = h 160 23 := by rw [up_n (by omega)]; exact c2
        have k3 : up_M g2 160 45 3 160 45 = 3 := up_s
        generalize up_M g2 160 45 3 = g3 at *
        rw [if_pos (by omega)] at e
        obtain ⟨u16, e16, e⟩ := sv_i e
        have T := ts_t T2 T3
        have := nm_k hn V3 (ek_ts N T) (by rw [c3, T.1]; exact hc) e16 (t96_f e z)
        rw [c3, (T.2 _).1] at this
        omega
      · omega
    · omega
  · rw [if_neg q] at e
    cases e
    exact absurd z q
theorem j170_f {nn : Nat} {l1 l2 l3 s0 s1 : Int} {h r : ms_M} (e : qj_X13_member_170 nn l1 l2 l3 s0 s1 h = some r) (z : r 160 9 = 0) : h 160 9 = 0 := by
  unfold qj_X13_member_170 at e
  have e := wa_i e
  by_cases q : up_M h 182 s1.toNat s0 160 9 = 0
  · rw [up_n (by omega)] at q; exact q
  · rw [if_neg q] at e
    cases e
    exact absurd z q
theorem m75_k {nn : Nat} {l1 l2 : Int} {h r : ms_M} (hn : 1000000 ≤ nn) (V : VS_ h) (N : EK_ h) (hc : h 160 23 + 1 ≤ h 160 8) (e : qj_X13_member_75 nn l1 l2 h = some r) (z : r 160 9 = 0) : h 163 (h 160 23).toNat = 1 := by
  have g28 := gF_160_28 V
  have g45 := gF_160_45 V
  have g46 := gF_160_46 V
  have g47 := gF_160_47 V
  unfold qj_X13_member_75 at e
  have e := wa_i e
  have V1 : VS_ (up_M h 183 (h 160 28).toNat (h 160 45)) := wA_183 V (by omega)
  have T1 : TS_ h (up_M h 183 (h 160 28).toNat (h 160 45)) := ts_up (by omega)
  have x1 : ∀ k, up_M h 183 (h 160 28).toNat (h 160 45) 160 k = h 160 k := fun k => up_n (by omega)
  generalize up_M h 183 (h 160 28).toNat (h 160 45) = g1 at *
  have e := wa_i e
  have V2 : VS_ (up_M g1 184 (h 160 28).toNat (g1 160 46)) := wA_184 V1 (by rw [x1]; omega)
  have T2 : TS_ g1 (up_M g1 184 (h 160 28).toNat (g1 160 46)) := ts_up (by omega)
  have x2 : ∀ k, up_M g1 184 (h 160 28).toNat (g1 160 46) 160 k = h 160 k := fun k => by rw [up_n (by omega)]; exact x1 k
  generalize up_M g1 184 (h 160 28).toNat (g1 160 46) = g2 at *
  have e := wz_i e
  have V3 : VS_ (up_M g2 185 (h 160 28).toNat (g2 160 47)) := wA_185 V2 (by rw [x2]; omega)
  have T3 : TS_ g2 (up_M g2 185 (h 160 28).toNat (g2 160 47)) := ts_up (by omega)
  have x3 : ∀ k, up_M g2 185 (h 160 28).toNat (g2 160 47) 160 k = h 160 k := fun k => by rw [up_n (by omega)]; exact x2 k
  generalize up_M g2 185 (h 160 28).toNat (g2 160 47) = g3 at *
  have T := ts_t (ts_t T1 T2) T3
  obtain ⟨u81, e81, e⟩ := sv_i e
  have e := wa_i e
  rw [xl_eq] at e
  have e := wa_i e
  have e := wa_i e
  have e := wa_i e
  have e := wa_i e
  have f81 : u81.2 160 9 = 0 := by
    by_cases q : l1 = 0
    · rw [if_pos q] at e
      have := j170_f e z
      rw [up_n (by omega), up_n (by omega), up_n (by omega), up_n (by omega), up_n (by omega)] at this
      exact this
    · rw [if_neg q] at e
      have := j170_f e z
      rw [up_n (by omega), up_n (by omega), up_n (by omega), up_n (by omega), up_n (by omega)] at this
      exact this
  have := nm_k hn V3 (ek_ts N T) (by rw [x3, T.1]; exact hc) e81 f81
  rw [x3, (T.2 _).1] at this
  exact this
/-- a member takes at least four bytes of the text -/
theorem m25_k {nn : Nat} {l1 : Int} {h r : ms_M} (hn : 1000000 ≤ nn) (V : VS_ h) (N : EK_ h) (P : PO_ h) (hl : 0 ≤ l1 ∧ l1 ≤ 1) (x1 : h 160 23 + 1 ≤ h 160 8) (x2 : h 160 22 ≤ 2 * h 160 23 + 30) (x3 : 2 * h 160 39 ≤ h 160 23) (x4 : h 160 28 ≤ 799) (x5 : 1 ≤ h 160 24) (x6 : h 160 9 = 0) (e : qj_X13_member_25 nn l1 h = some r) (z : r 160 9 = 0) : r 160 23 + 1 ≤ h 160 8 ∧ h 164 (h 160 23).toNat + 4 ≤ h 164 (r 160 23).toNat := by
  have g := gF_160_23 V
  unfold qj_X13_member_25 at e
  obtain ⟨u98, e98, e⟩ := sv_i e
  have L98 := iw_k e98
  have fin : ∀ {c1 : Int} {R : Int}, h 160 23 + 1 ≤ c1 → (c1 = h 160 23 + 1 → h 163 (h 160 23).toNat ≤ 3) → h 163 c1.toNat = 1 → c1 + 2 ≤ R → R + 1 ≤ h 160 8 → R + 1 ≤ h 160 8 ∧ h 164 (h 160 23).toNat + 4 ≤ h 164 R.toNat := by
    intro c1 R a1 a2 a3 a4 a5
    refine ⟨a5, ?_⟩
    have b1 := po_le P (a := c1) (b := R) (by omega) (by omega) a5
    by_cases w : c1 = h 160 23 + 1
    · have b2 := po_two P (a := h 160 23) (by omega) (by omega) (a2 w) (by rw [← w]; omega)
      rw [← w] at b2
      omega
    · have b2 := po_le P (a := h 160 23) (b := c1) (by omega) (by omega) (by omega)
      omega
  by_cases q : u98 = 0
  · rw [if_pos q] at e
    obtain ⟨u100, e100, e⟩ := sv_i e
    have Q := okof (vf_X13_type hn V x1 N) e100
    have T : TS_ h u100 := ts_fr (fun c k w => (ff_X13_type nn) _ e100 c k w) rfl
    have n22 : u100 160 22 = h 160 22 := (ff_X13_type nn) _ e100 160 22 rfl
    have n39 : u100 160 39 = h 160 39 := (ff_X13_type nn) _ e100 160 39 rfl
    have n28 : u100 160 28 = h 160 28 := (ff_X13_type nn) _ e100 160 28 rfl
    have n24 : u100 160 24 = h 160 24 := (ff_X13_type nn) _ e100 160 24 rfl
    obtain ⟨V1, R1⟩ := Q
    have t8 := T.1
    have N1 := ek_ts N T
    have c1 : u100 160 23 + 1 ≤ u100 160 8 := by omega
    have K := okof (vj_X13_member_75 (l1 := l1) (l2 := u98) hn (by omega) (by omega) (by omega) (by omega) V1 c1 (by omega) (by omega) (by omega) (by omega) N1) e
    obtain ⟨_, R2⟩ := K
    have f1 : u100 160 9 = 0 := by omega
    have k1 := m75_k hn V1 N1 c1 e z
    rw [(T.2 _).1] at k1
    exact fin (c1 := u100 160 23) (by omega) (fun _ => ty_k hn V N x1 e100 f1) k1 (by omega) (by omega)
  · rw [if_neg q, xl_eq, xl_eq, xl_eq, xl_eq, xl_eq] at e
    have L2 := lm_ek_isWord N (by omega) e98
    have V1 : VS_ (up_M h 160 45 2) := wF_160_45 V (by omega)
    have V2 : VS_ (up_M (up_M h 160 45 2) 160 47 0) := wF_160_47 V1 (by omega)
    have c2 : up_M (up_M h 160 45 2) 160 47 0 160 23 = h 160 23 := by rw [up_n (by omega), up_n (by omega)]
    have V3 : VS_ (up_M (up_M (up_M h 160 45 2) 160 47 0) 160 46 (up_M (up_M h 160 45 2) 160 47 0 160 23)) := wF_160_46 V2 (by rw [c2]; omega)
    have T3 : TS_ h (up_M (up_M (up_M h 160 45 2) 160 47 0) 160 46 (up_M (up_M h 160 45 2) 160 47 0 160 23)) := ts_t (ts_t (ts_up (by omega)) (ts_up (by omega))) (ts_up (by omega))
    have x : ∀ k, k ≠ 45 → k ≠ 46 → k ≠ 47 → up_M (up_M (up_M h 160 45 2) 160 47 0) 160 46 (up_M (up_M h 160 45 2) 160 47 0 160 23) 160 k = h 160 k := fun k a b c => by rw [up_n (by omega), up_n (by omega), up_n (by omega)]
    generalize up_M (up_M (up_M h 160 45 2) 160 47 0) 160 46 (up_M (up_M h 160 45 2) 160 47 0 160 23) = g3 at *
    rw [x 23 (by decide) (by decide) (by decide), oq_add_eq (by omega) (by omega) (by omega)] at e
    have V4 : VS_ (up_M g3 160 23 (h 160 23 + 1)) := wF_160_23 V3 (by have := gF_160_8 V; omega)
    have T4 : TS_ h (up_M g3 160 23 (h 160 23 + 1)) := ts_t T3 (ts_up (by omega))
    have y : ∀ k, k ≠ 23 → up_M g3 160 23 (h 160 23 + 1) 160 k = g3 160 k := fun k a => up_n (by omega)
    have c4 : up_M g3 160 23 (h 160 23 + 1) 160 23 = h 160 23 + 1 := up_s
    generalize up_M g3 160 23 (h 160 23 + 1) = g4 at *
    have t8 := T4.1
    have N4 := ek_ts N T4
    have y22 : g4 160 22 = h 160 22 := by rw [y 22 (by decide), x 22 (by decide) (by decide) (by decide)]
    have y39 : g4 160 39 = h 160 39 := by rw [y 39 (by decide), x 39 (by decide) (by decide) (by decide)]
    have y28 : g4 160 28 = h 160 28 := by rw [y 28 (by decide), x 28 (by decide) (by decide) (by decide)]
    have y24 : g4 160 24 = h 160 24 := by rw [y 24 (by decide), x 24 (by decide) (by decide) (by decide)]
    have c1 : g4 160 23 + 1 ≤ g4 160 8 := by omega
    have r98 := okof (vf_X13_isWord hn (by omega) (by omega) (by omega) (by omega) V) e98
    have r98 : 0 ≤ u98 ∧ u98 ≤ 1 := r98
    have K := okof (vj_X13_member_75 (l1 := l1) (l2 := u98) hn (by omega) (by omega) (by omega) (by omega) V4 c1 (by omega) (by omega) (by omega) (by omega) N4) e
    obtain ⟨_, R2⟩ := K
    have k1 := m75_k hn V4 N4 c1 e z
    rw [(T4.2 _).1, c4] at k1
    exact fin (c1 := h 160 23 + 1) (by omega) (fun _ => by omega) k1 (by omega) (by omega)
theorem mb_4 {nn : Nat} {h r : ms_M} (hn : 1000000 ≤ nn) (V : VS_ h) (N : EK_ h) (P : PO_ h) (x1 : h 160 23 + 1 ≤ h 160 8) (x2 : h 160 22 ≤ 2 * h 160 23 + 30) (x3 : 2 * h 160 39 ≤ h 160 23) (x4 : h 160 28 ≤ 799) (x5 : 1 ≤ h 160 24) (x6 : h 160 9 = 0) (e : qf_X13_member nn h = some r) (z : r 160 9 = 0) : r 160 23 + 1 ≤ h 160 8 ∧ h 164 (h 160 23).toNat + 4 ≤ h 164 (r 160 23).toNat := by
  have g := gF_160_23 V
  unfold qf_X13_member at e
  obtain ⟨u, e1, e⟩ := sv_i e
  have L := lm_ek_isWord N (by omega) e1
  have ru := okof (vf_X13_isWord hn (by omega) (by omega) (by omega) (by omega) V) e1
  have ru : 0 ≤ u ∧ u ≤ 1 := ru
  by_cases q : u = 0
  · rw [if_pos q] at e
    exact m25_k hn V N P ru x1 x2 x3 x4 x5 x6 e z
  · rw [if_neg q, xl_eq, xl_eq, oq_add_eq (by omega) (by omega) (by omega)] at e
    have V4 : VS_ (up_M h 160 23 (h 160 23 + 1)) := wF_160_23 V (by have := gF_160_8 V; omega)
    have T4 : TS_ h (up_M h 160 23 (h 160 23 + 1)) := ts_up (by omega)
    have y : ∀ k, k ≠ 23 → up_M h 160 23 (h 160 23 + 1) 160 k = h 160 k := fun k a => up_n (by omega)
    have c4 : up_M h 160 23 (h 160 23 + 1) 160 23 = h 160 23 + 1 := up_s
    generalize up_M h 160 23 (h 160 23 + 1) = g4 at *
    have t8 := T4.1
    have y22 := y 22 (by decide)
    have y39 := y 39 (by decide)
    have y28 := y 28 (by decide)
    have y24 := y 24 (by decide)
    have y9 := y 9 (by decide)
    have K := m25_k hn V4 (ek_ts N T4) (po_ts P T4) ru (by omega) (by omega) (by omega) (by omega) (by omega) (by omega) e z
    rw [(T4.2 _).2.1, (T4.2 _).2.1, c4, t8] at K
    have b := po_le P (a := h 160 23) (b := h 160 23 + 1) (by omega) (by omega) (by omega)
    exact ⟨K.1, by omega⟩
end
section
/-- the reference's program: classes and members are counted by the bytes that they take -/
def PC_ (w : Int) (h : ms_M) : Prop := h 160 23 + 1 ≤ h 160 8 ∧ 2 * h 160 39 ≤ h 160 23 ∧ (h 160 9 = 0 → h 160 22 ≤ 2 * h 160 23 + 28 ∧ 4 * h 160 28 ≤ h 164 (h 160 23).toNat ∧ 9 * h 160 24 + w ≤ h 164 (h 160 23).toNat)
theorem qt_ts {h r : ms_M} (Q : QT_ h) (V : VS_ r) (T : TS_ h r) : QT_ r := ⟨V, ek_ts Q.2.1 T, po_ts Q.2.2 T⟩
section
variable {nn : Nat} {qk : ms_M → Option ms_M} {c0 : Int}
theorem pg_143 (hn : 1000000 ≤ nn) (hk : ∀ {g : ms_M}, QT_ g → PC_ 0 g → g 160 9 = 0 → c0 < g 160 23 → Ok_ (qk g) QT_) {h : ms_M} (Q : QT_ h) (K : PC_ (-1) h) (h0 : c0 ≤ h 160 23) : Ok_ (qj_X13_program_143 nn qk h) QT_ := by
  have g := gF_160_23 Q.1
  unfold qj_X13_program_143
  refine ok_cVR (vf_X13_sign_ hn (by omega) (by omega) Q.1 K.1 Q.2.1) ?_; intro u2 E2 V2 R2
  have T : TS_ h u2 := ts_fr (fun c k w => (ff_X13_sign_ nn) _ E2 c k w) rfl
  have Q2 := qt_ts Q V2 T
  have n22 : u2 160 22 = h 160 22 := (ff_X13_sign_ nn) _ E2 160 22 rfl
  have n39 : u2 160 39 = h 160 39 := (ff_X13_sign_ nn) _ E2 160 39 rfl
  have n28 : u2 160 28 = h 160 28 := (ff_X13_sign_ nn) _ E2 160 28 rfl
  have n24 : u2 160 24 = h 160 24 := (ff_X13_sign_ nn) _ E2 160 24 rfl
  have t8 := T.1
  refine ok_if (fun C => ok_ret Q2) (fun C => ?_)
  have C : u2 160 9 = 0 := Decidable.not_not.1 C
  refine ok_rd (by omega) (gA_163 V2) ?_; intro v6 e6 a6 b6
  refine ok_if (fun C2 => ?_) (fun _ => ok_ret Q2)
  obtain ⟨k1, k2, k3⟩ := K
  have k3 := k3 (by omega)
  have p := po_le Q.2.2 (a := h 160 23) (b := h 160 23 + 1) (by omega) (by omega) (by omega)
  have f : u2 164 (u2 160 23).toNat = h 164 (h 160 23 + 1).toNat := by rw [(T.2 _).2.1, show u2 160 23 = h 160 23 + 1 by omega]
  exact hk Q2 ⟨by omega, by omega, fun _ => by omega⟩ C (by omega)
theorem pg_116 (hn : 1000000 ≤ nn) (hk : ∀ {g : ms_M}, QT_ g → PC_ 0 g → g 160 9 = 0 → c0 < g 160 23 → Ok_ (qk g) QT_) : ∀ (f : Nat) {h : ms_M}, QT_ h → PC_ (-1) h → 1 ≤ h 160 24 → c0 ≤ h 160 23 → 12 * (3001 - h 160 23) - h 160 9 < (f : Int) → Ok_ (qw_X13_program_116 nn qk f h) QT_ := by
  intro f
  induction f with
  | zero => intro h Q K h1 h0 hm; have := gF_160_23 Q.1; have := gF_160_9 Q.1; exfalso; omega
  | succ f ih =>
    intro h Q K h1 h0 hm
    have g := gF_160_23 Q.1
    have g9 := gF_160_9 Q.1
    have g8 := gF_160_8 Q.1
    unfold qw_X13_program_116
    refine ok_if (fun C => pg_143 hn hk Q K h0) (fun C => ?_)
    have C : h 160 9 = 0 := Decidable.not_not.1 C
    refine ok_cP (vf_X13_isSign hn (by omega) (by omega) (by omega) (by omega) Q.1) ?_; intro u12 e12 a12 b12
    refine ok_if (fun _ => pg_143 hn hk Q K h0) (fun _ => ?_)
    obtain ⟨k1, k2, k3⟩ := K
    have k3 := k3 C
    have gf := gA_164 Q.1 (h 160 23).toNat (by omega)
    refine ok_cVR (vf_X13_member hn Q.1 k1 C (by omega) k2 (by omega) h1 Q.2.1) ?_; intro u14 E14 V14 R14
    have T : TS_ h u14 := ts_fr (fun c k w => (ff_X13_member nn) _ E14 c k w) rfl
    have n24 : u14 160 24 = h 160 24 := (ff_X13_member nn) _ E14 160 24 rfl
    have t8 := T.1
    have g99 := gF_160_9 V14
    refine ih (qt_ts Q V14 T) ⟨by omega, by omega, fun z => ?_⟩ (by omega) (by omega) (by omega)
    have B := mb_4 hn Q.1 Q.2.1 Q.2.2 k1 (by omega) k2 (by omega) h1 C E14 z
    have f : u14 164 (u14 160 23).toNat = h 164 (u14 160 23).toNat := (T.2 _).2.1
    rw [f]
    omega
theorem pg_72 (hn : 1000000 ≤ nn) (hk : ∀ {g : ms_M}, QT_ g → PC_ 0 g → g 160 9 = 0 → c0 < g 160 23 → Ok_ (qk g) QT_) {l1 l2 : Int} (r1 : 0 ≤ l1 ∧ l1 ≤ 3000) (r2 : -1 ≤ l2 ∧ l2 ≤ 3000) {h : ms_M} (Q : QT_ h) (K : PC_ 7 h) (h0 : c0 ≤ h 160 23) : Ok_ (qj_X13_program_72 nn qk l1 l2 h) QT_ := by
  have g := gF_160_23 Q.1
  have g8 := gF_160_8 Q.1
  have g24 := gF_160_24 Q.1
  unfold qj_X13_program_72
  refine ok_if (fun C => ?_) (fun _ => ok_ret Q)
  obtain ⟨k1, k2, k3⟩ := K
  have k3 := k3 C
  have gf := gA_164 Q.1 (h 160 23).toNat (by omega)
  refine ok_wA (by omega) ?_; intro h20 E20
  have V20 : VS_ h20 := by rw [E20]; exact wA_178 Q.1 (by omega)
  have x20 : ∀ k, h20 160 k = h 160 k := fun k => by rw [E20]; exact up_n (by omega)
  have T20 : TS_ h h20 := by rw [E20]; exact ts_up (by omega)
  refine ok_wA (by rw [x20]; omega) ?_; intro h23 E23
  have V23 : VS_ h23 := by rw [E23]; exact wA_179 V20 (by omega)
  have x23 : ∀ k, h23 160 k = h 160 k := fun k => by rw [E23, up_n (by omega)]; exact x20 k
  have T23 : TS_ h h23 := ts_t T20 (by rw [E23]; exact ts_up (by omega))
  rw [x23 24]
  refine ok_add (by omega) ?_; intro v25 e25
  refine ok_xl ?_; intro h26 E26
  have V26 : VS_ h26 := by rw [E26]; exact wF_160_24 V23 (by omega)
  have x26 : ∀ k, k ≠ 24 → h26 160 k = h 160 k := fun k z => by rw [E26, up_n (by omega)]; exact x23 k
  have c26 : h26 160 24 = h 160 24 + 1 := by rw [E26, up_s]; omega
  have T26 : TS_ h h26 := ts_t T23 (by rw [E26]; exact ts_up (by omega))
  have Q26 := qt_ts Q V26 T26
  have y8 := x26 8 (by decide)
  have y9 := x26 9 (by decide)
  have y22 := x26 22 (by decide)
  have y23 := x26 23 (by decide)
  have y28 := x26 28 (by decide)
  have y39 := x26 39 (by decide)
  refine ok_cVR (vf_X13_sign_ hn (by omega) (by omega) V26 (by omega) Q26.2.1) ?_; intro u28 E28 V28 R28
  have T28 : TS_ h26 u28 := ts_fr (fun c k w => (ff_X13_sign_ nn) _ E28 c k w) rfl
  have n22 : u28 160 22 = h26 160 22 := (ff_X13_sign_ nn) _ E28 160 22 rfl
  have n39 : u28 160 39 = h26 160 39 := (ff_X13_sign_ nn) _ E28 160 39 rfl
  have n28 : u28 160 28 = h26 160 28 := (ff_X13_sign_ nn) _ E28 160 28 rfl
  have n24 : u28 160 24 = h26 160 24 := (ff_X13_sign_ nn) _ E28 160 24 rfl
  have t8 := T28.1
  have T := ts_t T26 T28
  have Q28 := qt_ts Q26 V28 T28
  have g28 := gF_160_23 V28
  have g29 := gF_160_9 V28
  refine pg_116 hn hk nn Q28 ⟨by omega, by omega, fun z => ?_⟩ (by omega) (by omega) (by omega)
  have p := po_le Q.2.2 (a := h 160 23) (b := h 160 23 + 1) (by omega) (by omega) (by omega)
  have f : u28 164 (u28 160 23).toNat = h 164 (h 160 23 + 1).toNat := by rw [(T.2 _).2.1, show u28 160 23 = h 160 23 + 1 by omega]
  rw [f]
  omega
end
theorem wd_k {nn : Nat} {a : Int} {h r : ms_M} (hn : 1000000 ≤ nn) (V : VS_ h) (N : EK_ h) (hc : h 160 23 + 1 ≤ h 160 8) (e : qf_X13_word nn a h = some r) (z : r 160 9 = 0) : h 163 (h 160 23).toNat = 3 ∧ h 166 (h 160 23).toNat = a := by
  unfold qf_X13_word at e
  by_cases q : h 160 9 = 0
  · rw [if_pos q] at e
    obtain ⟨u, e1, e⟩ := sv_i e
    have L := iw_k e1
    by_cases q2 : u = 0
    · rw [if_pos q2] at e
      obtain ⟨w, e2, e⟩ := sv_i e
      cases e
      exact absurd z (okof (vf_X13_misplaced hn V hc N) e2).2
    · exact L.resolve_left q2
  · rw [if_neg q] at e
    cases e
    exact absurd z q
theorem pg_25 {nn : Nat} (hn : 1000000 ≤ nn) : ∀ (f : Nat) {h : ms_M}, QT_ h → PC_ 0 h → h 160 9 = 0 → 3001 - h 160 23 < (f : Int) → Ok_ (qw_X13_program_25 nn f h) QT_ := by
  intro f
  induction f with
  | zero => intro h Q K h0 hm; have := gF_160_23 Q.1; exfalso; omega
  | succ f ih =>
    intro h Q K h0 hm
    have g := gF_160_23 Q.1
    have g8 := gF_160_8 Q.1
    have hk : ∀ {g : ms_M}, QT_ g → PC_ 0 g → g 160 9 = 0 → h 160 23 < g 160 23 → Ok_ (qw_X13_program_25 nn f g) QT_ := fun Qg Kg zg hg => ih Qg Kg zg (by omega)
    obtain ⟨k1, k2, k3⟩ := K
    have k3 := k3 h0
    unfold qw_X13_program_25
    refine ok_cVR (vf_X13_word hn (by omega) (by omega) Q.1 k1 Q.2.1) ?_; intro u31 E31 V31 R31
    have T31 : TS_ h u31 := ts_fr (fun c k w => (ff_X13_word nn) _ E31 c k w) rfl
    have a22 : u31 160 22 = h 160 22 := (ff_X13_word nn) _ E31 160 22 rfl
    have a39 : u31 160 39 = h 160 39 := (ff_X13_word nn) _ E31 160 39 rfl
    have a28 : u31 160 28 = h 160 28 := (ff_X13_word nn) _ E31 160 28 rfl
    have a24 : u31 160 24 = h 160 24 := (ff_X13_word nn) _ E31 160 24 rfl
    have t31 := T31.1
    have Q31 := qt_ts Q V31 T31
    refine ok_cIR (vf_X13_name hn V31 (by omega) Q31.2.1) ?_; intro u33 E33 V33 a33 b33 R33
    have T33 : TS_ u31 u33.2 := ts_fr (fun c k w => (ff_X13_name nn) _ E33 c k w) rfl
    have b22 : u33.2 160 22 = u31 160 22 := (ff_X13_name nn) _ E33 160 22 rfl
    have b39 : u33.2 160 39 = u31 160 39 := (ff_X13_name nn) _ E33 160 39 rfl
    have b28 : u33.2 160 28 = u31 160 28 := (ff_X13_name nn) _ E33 160 28 rfl
    have b24 : u33.2 160 24 = u31 160 24 := (ff_X13_name nn) _ E33 160 24 rfl
    have t33 := T33.1
    have T := ts_t T31 T33
    have Q33 := qt_ts Q31 V33 T33
    have dead : ∀ {l2 : Int}, (-1 ≤ l2 ∧ l2 ≤ 3000) → ¬ u33.2 160 9 = 0 → Ok_ (qj_X13_program_72 nn (qw_X13_program_25 nn f) u33.1 l2 u33.2) QT_ := fun rl z => pg_72 hn hk ⟨a33, b33⟩ rl Q33 ⟨by omega, by omega, fun w => absurd w z⟩ (by omega)
    refine ok_if (fun C => dead (by omega) C) (fun C => ?_)
    have C : u33.2 160 9 = 0 := Decidable.not_not.1 C
    have f31 : u31 160 9 = 0 := by omega
    have w31 := wd_k hn Q.1 Q.2.1 k1 E31 f31
    have n33 := nm_k hn V31 Q31.2.1 (by omega) E33 C
    rw [(T31.2 _).1, show u31 160 23 = h 160 23 + 1 by omega] at n33
    have w5 := Q.2.2.2.1 (h 160 23).toNat (by omega) w31.1 w31.2
    have p1 := po_two Q.2.2 (a := h 160 23) (by omega) (by omega) (by omega) (by omega)
    have p2 := po_le Q.2.2 (a := h 160 23 + 1) (b := h 160 23 + 2) (by omega) (by omega) (by omega)
    have c33 : u33.2 160 23 = h 160 23 + 2 := by omega
    have K33 : PC_ 7 u33.2 := by
      refine ⟨by omega, by omega, fun _ => ?_⟩
      have f : u33.2 164 (u33.2 160 23).toNat = h 164 (h 160 23 + 2).toNat := by rw [(T.2 _).2.1, c33]
      rw [f]; omega
    refine ok_cP (vf_X13_isWord hn (by omega) (by omega) (by omega) (by omega) V33) ?_; intro u37 e37 a37 b37
    have L37 := lm_ek_isWord Q33.2.1 (by omega) e37
    refine ok_if (fun _ => pg_72 hn hk ⟨a33, b33⟩ (by omega) Q33 K33 (by omega)) (fun C2 => ?_)
    refine ok_add (by omega) ?_; intro v39 e39
    refine ok_xl ?_; intro h40 E40
    have V40 : VS_ h40 := by rw [E40]; exact wF_160_23 V33 (by omega)
    have T40 : TS_ u33.2 h40 := by rw [E40]; exact ts_up (by omega)
    have x40 : ∀ k, k ≠ 23 → h40 160 k = u33.2 160 k := fun k z => by rw [E40]; exact up_n (by omega)
    have c40 : h40 160 23 = h 160 23 + 3 := by rw [E40, up_s]; omega
    have Q40 := qt_ts Q33 V40 T40
    have t40 := T40.1
    have d22 := x40 22 (by decide)
    have d39 := x40 39 (by decide)
    have d28 := x40 28 (by decide)
    have d24 := x40 24 (by decide)
    refine ok_cIR (vf_X13_name hn V40 (by omega) Q40.2.1) ?_; intro u42 E42 V42 a42 b42 R42
    have T42 : TS_ h40 u42.2 := ts_fr (fun c k w => (ff_X13_name nn) _ E42 c k w) rfl
    have e22 : u42.2 160 22 = h40 160 22 := (ff_X13_name nn) _ E42 160 22 rfl
    have e39 : u42.2 160 39 = h40 160 39 := (ff_X13_name nn) _ E42 160 39 rfl
    have e28 : u42.2 160 28 = h40 160 28 := (ff_X13_name nn) _ E42 160 28 rfl
    have e24 : u42.2 160 24 = h40 160 24 := (ff_X13_name nn) _ E42 160 24 rfl
    have t42 := T42.1
    have Q42 := qt_ts Q40 V42 T42
    have TT := ts_t (ts_t T T40) T42
    refine pg_72 hn hk ⟨a33, b33⟩ (by omega) Q42 ⟨by omega, by omega, fun _ => ?_⟩ (by omega)
    have p3 := po_le Q.2.2 (a := h 160 23 + 2) (b := u42.2 160 23) (by omega) (by omega) (by omega)
    have f : u42.2 164 (u42.2 160 23).toNat = h 164 (u42.2 160 23).toNat := (TT.2 _).2.1
    rw [f]; omega
theorem vf_X13_program {nn : Nat} (hn : 1000000 ≤ nn) {h : ms_M} (Q : QT_ h) (h0 : h 160 9 = 0) : Ok_ (qf_X13_program nn h) QT_ := by
  unfold qf_X13_program
  refine ok_xl ?_; intro h45 E45
  have V45 : VS_ h45 := by rw [E45]; exact wF_160_24 Q.1 (by omega)
  refine ok_xl ?_; intro h46 E46
  have V46 : VS_ h46 := by rw [E46]; exact wF_160_28 V45 (by omega)
  refine ok_xl ?_; intro h47 E47
  have V47 : VS_ h47 := by rw [E47]; exact wF_160_39 V46 (by omega)
  refine ok_xl ?_; intro h48 E48
  have V48 : VS_ h48 := by rw [E48]; exact wF_160_22 V47 (by omega)
  refine ok_xl ?_; intro h49 E49
  have V49 : VS_ h49 := by rw [E49]; exact wF_160_23 V48 (by omega)
  have T : TS_ h h49 := by
    rw [E49, E48, E47, E46, E45]
    exact ts_t (ts_t (ts_t (ts_t (ts_up (by omega)) (ts_up (by omega))) (ts_up (by omega))) (ts_up (by omega))) (ts_up (by omega))
  have s24 : h49 160 24 = 0 := by rw [E49, up_n (by omega), E48, up_n (by omega), E47, up_n (by omega), E46, up_n (by omega), E45, up_s]
  have s28 : h49 160 28 = 0 := by rw [E49, up_n (by omega), E48, up_n (by omega), E47, up_n (by omega), E46, up_s]
  have s39 : h49 160 39 = 0 := by rw [E49, up_n (by omega), E48, up_n (by omega), E47, up_s]
  have s22 : h49 160 22 = 0 := by rw [E49, up_n (by omega), E48, up_s]
  have s23 : h49 160 23 = 0 := by rw [E49, up_s]
  have s9 : h49 160 9 = 0 := by rw [E49, up_n (by omega), E48, up_n (by omega), E47, up_n (by omega), E46, up_n (by omega), E45, up_n (by omega)]; exact h0
  have t8 := T.1
  have n1 := Q.2.1.1
  have gf := gA_164 V49 0 (by decide)
  refine pg_25 hn nn (qt_ts Q V49 T) ⟨by omega, by omega, fun _ => ?_⟩ s9 (by omega)
  rw [s23]
  exact ⟨by omega, by rw [s28]; exact gf.1, by rw [s24]; exact gf.1⟩
end
