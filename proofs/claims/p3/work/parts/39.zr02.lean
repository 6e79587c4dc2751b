set_option maxRecDepth 4000 in
theorem vj_X13_member_360 {nn : Nat} (hn : 1000000 ≤ nn) {l3 : Int} {h : ms_M} (a_l3 : 0 ≤ l3) (b_l3 : l3 ≤ 799) (V_h : VS_ h) (x_0 : h 160 23 + 1 ≤ h 160 8) (x_1 : h 160 22 ≤ 2 * h 160 23 + 30) (x_2 : 2 * h 160 39 ≤ h 160 23) (N_h : EK_ h)  : Ok_ (qj_X13_member_360 nn l3 h) (QVR_ (fun r => (r 160 8 = h 160 8) ∧ (h 160 9 = 0 ∨ ¬ r 160 9 = 0) ∧ (h 160 23 ≤ r 160 23) ∧ (r 160 23 + 1 ≤ h 160 8) ∧ (h 160 22 ≤ r 160 22) ∧ (r 160 22 + 2 * h 160 23 ≤ h 160 22 + 2 * r 160 23 + 2) ∧ (2 * r 160 39 ≤ r 160 23) ∧ (¬ r 160 9 = 0 ∨ (r 160 22 + 2 * h 160 23 ≤ h 160 22 + 2 * r 160 23 + 0)) ∧ (r 160 28 = h 160 28))) := by
  unfold qj_X13_member_360
  have T1 := gF_160_8 V_h
  have T2 := gF_160_9 V_h
  have T3 := gF_160_22 V_h
  have T4 := gF_160_23 V_h
  have T5 := gF_160_24 V_h
  have T6 := gF_160_28 V_h
  have T7 := gF_160_39 V_h
  refine ok_cVR (vf_X13_sign_ hn (by omega) (by omega) V_h (by omega) N_h) ?_; intro u2 E_u2 V_u2 R_u2
  have N_u2 : EK_ u2 := ek_fr V_h N_h (fun c k z => (ff_X13_sign_ nn) _ E_u2 c k z) rfl
  have T8 : u2 160 8 = h 160 8 := (ff_X13_sign_ nn) _ E_u2 160 8 rfl
  have T9 : u2 160 22 = h 160 22 := (ff_X13_sign_ nn) _ E_u2 160 22 rfl
  have T10 : u2 160 24 = h 160 24 := (ff_X13_sign_ nn) _ E_u2 160 24 rfl
  have T11 : u2 160 28 = h 160 28 := (ff_X13_sign_ nn) _ E_u2 160 28 rfl
  have T12 : u2 160 39 = h 160 39 := (ff_X13_sign_ nn) _ E_u2 160 39 rfl
  have T13 := gF_160_9 V_u2
  have T14 := gF_160_23 V_u2
  refine ok_cIR (vf_X13_block hn (by omega) (by omega) V_u2 (by omega) (by omega) (by omega) N_u2) ?_; intro u5 E_u5 V_u5 a_u5 b_u5 R_u5
  have N_u5_2 : EK_ u5.2 := R_u5.1
  have T15 : u5.2 160 8 = u2 160 8 := (ff_X13_block nn) _ E_u5 160 8 rfl
  have T16 : u5.2 160 24 = u2 160 24 := (ff_X13_block nn) _ E_u5 160 24 rfl
  have T17 : u5.2 160 28 = u2 160 28 := (ff_X13_block nn) _ E_u5 160 28 rfl
  have T18 : u5.2 160 39 = u2 160 39 := (ff_X13_block nn) _ E_u5 160 39 rfl
  have T19 := gF_160_9 V_u5
  have T20 := gF_160_22 V_u5
  have T21 := gF_160_23 V_u5
  refine ok_wA (by omega) ?_; intro h6 E_h6; have V_h6 : VS_ h6 := by rw [E_h6]; exact wA_190 V_u5 (by omega)
  have N_h6 : EK_ h6 := by rw [E_h6]; exact ek_ua V_u5 N_u5_2 rfl
  have T22 : h6 160 8 = u5.2 160 8 := by rw [E_h6]; exact up_n (fun z => absurd z.1 (by decide))
  have T23 : h6 160 24 = u5.2 160 24 := by rw [E_h6]; exact up_n (fun z => absurd z.1 (by decide))
  have T24 : h6 160 28 = u5.2 160 28 := by rw [E_h6]; exact up_n (fun z => absurd z.1 (by decide))
  have T25 : h6 160 39 = u5.2 160 39 := by rw [E_h6]; exact up_n (fun z => absurd z.1 (by decide))
  have T26 : h6 160 9 = u5.2 160 9 := by rw [E_h6]; exact up_n (fun z => absurd z.1 (by decide))
  have T27 : h6 160 22 = u5.2 160 22 := by rw [E_h6]; exact up_n (fun z => absurd z.1 (by decide))
  have T28 : h6 160 23 = u5.2 160 23 := by rw [E_h6]; exact up_n (fun z => absurd z.1 (by decide))
  exact ok_rVR V_h6 (by omega)
set_option maxRecDepth 4000 in
theorem vj_X13_member_269 {nn : Nat} (hn : 1000000 ≤ nn) {qkk_234 : Int → ms_M → Option ms_M} {K_kk_234 : Int} (hk_kk_234 : ∀ {l3 : Int} {h : ms_M} (a_l3 : 0 ≤ l3) (b_l3 : l3 ≤ 799) (V_h : VS_ h) (x_0 : h 160 23 + 1 ≤ h 160 8) (x_1 : h 160 22 ≤ 2 * h 160 23 + 30) (x_2 : 2 * h 160 39 ≤ h 160 23) (x_3 : h 189 (l3).toNat ≤ h 160 39) (N_h : EK_ h) (_ : 12 * (3001 - h 160 23) - h 160 9 < K_kk_234), Ok_ (qkk_234 l3 h) (QVR_ (fun r => (r 160 8 = h 160 8) ∧ (h 160 9 = 0 ∨ ¬ r 160 9 = 0) ∧ (h 160 23 ≤ r 160 23) ∧ (r 160 23 + 1 ≤ h 160 8) ∧ (h 160 22 ≤ r 160 22) ∧ (r 160 22 + 2 * h 160 23 ≤ h 160 22 + 2 * r 160 23 + 2) ∧ (2 * r 160 39 ≤ r 160 23) ∧ (¬ r 160 9 = 0 ∨ (r 160 22 + 2 * h 160 23 ≤ h 160 22 + 2 * r 160 23 + 0)) ∧ (r 160 28 = h 160 28)))) {l3 : Int} {h : ms_M} (a_l3 : 0 ≤ l3) (b_l3 : l3 ≤ 799) (V_h : VS_ h) (x_0 : h 160 23 + 1 ≤ h 160 8) (x_1 : h 160 22 ≤ 2 * h 160 23 + 30) (x_2 : 2 * h 160 39 ≤ h 160 23) (x_3 : h 189 (l3).toNat ≤ h 160 39) (N_h : EK_ h) (hm_kk_234 : 12 * (3001 - h 160 23) - h 160 9 + 0 ≤ K_kk_234) : Ok_ (qj_X13_member_269 nn qkk_234 l3 h) (QVR_ (fun r => (r 160 8 = h 160 8) ∧ (h 160 9 = 0 ∨ ¬ r 160 9 = 0) ∧ (h 160 23 ≤ r 160 23) ∧ (r 160 23 + 1 ≤ h 160 8) ∧ (h 160 22 ≤ r 160 22) ∧ (r 160 22 + 2 * h 160 23 ≤ h 160 22 + 2 * r 160 23 + 2) ∧ (2 * r 160 39 ≤ r 160 23) ∧ (¬ r 160 9 = 0 ∨ (r 160 22 + 2 * h 160 23 ≤ h 160 22 + 2 * r 160 23 + 0)) ∧ (r 160 28 = h 160 28))) := by
  unfold qj_X13_member_269
  have T1 := gF_160_8 V_h
  have T2 := gF_160_9 V_h
  have T3 := gF_160_22 V_h
  have T4 := gF_160_23 V_h
  have T5 := gF_160_24 V_h
  have T6 := gF_160_28 V_h
  have T7 := gF_160_39 V_h
  refine ok_cVR (vf_X13_type hn V_h (by omega) N_h) ?_; intro u8 E_u8 V_u8 R_u8
  have N_u8 : EK_ u8 := ek_fr V_h N_h (fun c k z => (ff_X13_type nn) _ E_u8 c k z) rfl
  have T8 : u8 160 8 = h 160 8 := (ff_X13_type nn) _ E_u8 160 8 rfl
  have T9 : u8 160 22 = h 160 22 := (ff_X13_type nn) _ E_u8 160 22 rfl
  have T10 : u8 160 24 = h 160 24 := (ff_X13_type nn) _ E_u8 160 24 rfl
  have T11 : u8 160 28 = h 160 28 := (ff_X13_type nn) _ E_u8 160 28 rfl
  have T12 : u8 160 39 = h 160 39 := (ff_X13_type nn) _ E_u8 160 39 rfl
  have T13 : u8 189 (l3).toNat = h 189 (l3).toNat := (ff_X13_type nn) _ E_u8 189 (l3).toNat (nw_ar rfl _)
  have T14 := gF_160_9 V_u8
  have T15 := gF_160_23 V_u8
  refine ok_cIR (vf_X13_name hn V_u8 (by omega) N_u8) ?_; intro u10 E_u10 V_u10 a_u10 b_u10 R_u10
  have N_u10_2 : EK_ u10.2 := ek_fr V_u8 N_u8 (fun c k z => (ff_X13_name nn) _ E_u10 c k z) rfl
  have T16 : u10.2 160 8 = u8 160 8 := (ff_X13_name nn) _ E_u10 160 8 rfl
  have T17 : u10.2 160 22 = u8 160 22 := (ff_X13_name nn) _ E_u10 160 22 rfl
  have T18 : u10.2 160 24 = u8 160 24 := (ff_X13_name nn) _ E_u10 160 24 rfl
  have T19 : u10.2 160 28 = u8 160 28 := (ff_X13_name nn) _ E_u10 160 28 rfl
  have T20 : u10.2 160 39 = u8 160 39 := (ff_X13_name nn) _ E_u10 160 39 rfl
  have T21 : u10.2 189 (l3).toNat = u8 189 (l3).toNat := (ff_X13_name nn) _ E_u10 189 (l3).toNat (nw_ar rfl _)
  have T22 := gF_160_9 V_u10
  have T23 := gF_160_23 V_u10
  refine ok_if ?_ ?_
  · intro C23
    have T25 := gF_160_45 V_u10
    refine ok_wA (by omega) ?_; intro h15 E_h15; have V_h15 : VS_ h15 := by rw [E_h15]; exact wA_191 V_u10 (by omega)
    have N_h15 : EK_ h15 := by rw [E_h15]; exact ek_ua V_u10 N_u10_2 rfl
    have T26 : h15 160 8 = u10.2 160 8 := by rw [E_h15]; exact up_n (fun z => absurd z.1 (by decide))
    have T27 : h15 160 22 = u10.2 160 22 := by rw [E_h15]; exact up_n (fun z => absurd z.1 (by decide))
    have T28 : h15 160 24 = u10.2 160 24 := by rw [E_h15]; exact up_n (fun z => absurd z.1 (by decide))
    have T29 : h15 160 28 = u10.2 160 28 := by rw [E_h15]; exact up_n (fun z => absurd z.1 (by decide))
    have T30 : h15 160 39 = u10.2 160 39 := by rw [E_h15]; exact up_n (fun z => absurd z.1 (by decide))
    have T31 : h15 189 (l3).toNat = u10.2 189 (l3).toNat := by rw [E_h15]; exact up_n (fun z => absurd z.1 (by decide))
    have T32 : h15 160 9 = u10.2 160 9 := by rw [E_h15]; exact up_n (fun z => absurd z.1 (by decide))
    have T33 : h15 160 23 = u10.2 160 23 := by rw [E_h15]; exact up_n (fun z => absurd z.1 (by decide))
    have T34 := gF_160_46 V_h15
    refine ok_wA (by omega) ?_; intro h19 E_h19; have V_h19 : VS_ h19 := by rw [E_h19]; exact wA_192 V_h15 (by omega)
    have N_h19 : EK_ h19 := by rw [E_h19]; exact ek_ua V_h15 N_h15 rfl
    have T35 : h19 160 8 = h15 160 8 := by rw [E_h19]; exact up_n (fun z => absurd z.1 (by decide))
    have T36 : h19 160 22 = h15 160 22 := by rw [E_h19]; exact up_n (fun z => absurd z.1 (by decide))
    have T37 : h19 160 24 = h15 160 24 := by rw [E_h19]; exact up_n (fun z => absurd z.1 (by decide))
    have T38 : h19 160 28 = h15 160 28 := by rw [E_h19]; exact up_n (fun z => absurd z.1 (by decide))
    have T39 : h19 160 39 = h15 160 39 := by rw [E_h19]; exact up_n (fun z => absurd z.1 (by decide))
    have T40 : h19 189 (l3).toNat = h15 189 (l3).toNat := by rw [E_h19]; exact up_n (fun z => absurd z.1 (by decide))
    have T41 : h19 160 9 = h15 160 9 := by rw [E_h19]; exact up_n (fun z => absurd z.1 (by decide))
    have T42 : h19 160 23 = h15 160 23 := by rw [E_h19]; exact up_n (fun z => absurd z.1 (by decide))
    have T43 := gF_160_47 V_h19
    refine ok_wZ (by omega) (by omega) ?_; intro h23 E_h23; have V_h23 : VS_ h23 := by rw [E_h23]; exact wA_193 V_h19 (by omega)
    have N_h23 : EK_ h23 := by rw [E_h23]; exact ek_ua V_h19 N_h19 rfl
    have T44 : h23 160 8 = h19 160 8 := by rw [E_h23]; exact up_n (fun z => absurd z.1 (by decide))
    have T45 : h23 160 22 = h19 160 22 := by rw [E_h23]; exact up_n (fun z => absurd z.1 (by decide))
    have T46 : h23 160 24 = h19 160 24 := by rw [E_h23]; exact up_n (fun z => absurd z.1 (by decide))
    have T47 : h23 160 28 = h19 160 28 := by rw [E_h23]; exact up_n (fun z => absurd z.1 (by decide))
    have T48 : h23 160 39 = h19 160 39 := by rw [E_h23]; exact up_n (fun z => absurd z.1 (by decide))
    have T49 : h23 189 (l3).toNat = h19 189 (l3).toNat := by rw [E_h23]; exact up_n (fun z => absurd z.1 (by decide))
    have T50 : h23 160 9 = h19 160 9 := by rw [E_h23]; exact up_n (fun z => absurd z.1 (by decide))
    have T51 : h23 160 23 = h19 160 23 := by rw [E_h23]; exact up_n (fun z => absurd z.1 (by decide))
    refine ok_wA (by omega) ?_; intro h26 E_h26; have V_h26 : VS_ h26 := by rw [E_h26]; exact wA_194 V_h23 (by omega)
    have N_h26 : EK_ h26 := by rw [E_h26]; exact ek_ua V_h23 N_h23 rfl
    have T52 : h26 160 8 = h23 160 8 := by rw [E_h26]; exact up_n (fun z => absurd z.1 (by decide))
    have T53 : h26 160 22 = h23 160 22 := by rw [E_h26]; exact up_n (fun z => absurd z.1 (by decide))
    have T54 : h26 160 24 = h23 160 24 := by rw [E_h26]; exact up_n (fun z => absurd z.1 (by decide))
    have T55 : h26 160 28 = h23 160 28 := by rw [E_h26]; exact up_n (fun z => absurd z.1 (by decide))
    have T56 : h26 160 39 = h23 160 39 := by rw [E_h26]; exact up_n (fun z => absurd z.1 (by decide))
    have T57 : h26 189 (l3).toNat = h23 189 (l3).toNat := by rw [E_h26]; exact up_n (fun z => absurd z.1 (by decide))
    have T58 : h26 160 9 = h23 160 9 := by rw [E_h26]; exact up_n (fun z => absurd z.1 (by decide))
    have T59 : h26 160 23 = h23 160 23 := by rw [E_h26]; exact up_n (fun z => absurd z.1 (by decide))
    refine ok_add (by omega) ?_; intro v28 e_v28
    refine ok_xl ?_; intro h29 E_h29; have V_h29 : VS_ h29 := by rw [E_h29]; exact wF_160_39 V_h26 (by omega)
    have N_h29 : EK_ h29 := by rw [E_h29]; exact ek_up V_h26 N_h26 rfl
    have T60 : h29 160 8 = h26 160 8 := by rw [E_h29]; exact up_n (by decide)
    have T61 : h29 160 22 = h26 160 22 := by rw [E_h29]; exact up_n (by decide)
    have T62 : h29 160 24 = h26 160 24 := by rw [E_h29]; exact up_n (by decide)
    have T63 : h29 160 28 = h26 160 28 := by rw [E_h29]; exact up_n (by decide)
    have T64 : h29 189 (l3).toNat = h26 189 (l3).toNat := by rw [E_h29]; exact up_n (fun z => absurd z.1 (by decide))
    have T65 : h29 160 9 = h26 160 9 := by rw [E_h29]; exact up_n (by decide)
    have T66 : h29 160 23 = h26 160 23 := by rw [E_h29]; exact up_n (by decide)
    have T67 : h29 160 39 = v28 := by rw [E_h29]; exact up_s
    refine ok_rd (by omega) (gA_189 V_h29) ?_; intro v31 e_v31 a_v31 b_v31
    refine ok_add (by omega) ?_; intro v32 e_v32
    refine ok_wA (by omega) ?_; intro h33 E_h33; have V_h33 : VS_ h33 := by rw [E_h33]; exact wA_189 V_h29 (by omega)
    have N_h33 : EK_ h33 := by rw [E_h33]; exact ek_ua V_h29 N_h29 rfl
    have T68 : h33 160 8 = h29 160 8 := by rw [E_h33]; exact up_n (fun z => absurd z.1 (by decide))
    have T69 : h33 160 22 = h29 160 22 := by rw [E_h33]; exact up_n (fun z => absurd z.1 (by decide))
    have T70 : h33 160 24 = h29 160 24 := by rw [E_h33]; exact up_n (fun z => absurd z.1 (by decide))
    have T71 : h33 160 28 = h29 160 28 := by rw [E_h33]; exact up_n (fun z => absurd z.1 (by decide))
    have T72 : h33 160 9 = h29 160 9 := by rw [E_h33]; exact up_n (fun z => absurd z.1 (by decide))
    have T73 : h33 160 23 = h29 160 23 := by rw [E_h33]; exact up_n (fun z => absurd z.1 (by decide))
    have T74 : h33 160 39 = h29 160 39 := by rw [E_h33]; exact up_n (fun z => absurd z.1 (by decide))
    have T75 : h33 189 (l3).toNat = v32 := by rw [E_h33]; exact up_s
    exact ok_mV (hk_kk_234 (by omega) (by omega) V_h33 (by omega) (by omega) (by omega) (by omega) N_h33 (by omega)) (fun _ V_r R_r => by have := gF_160_8 V_r; have := gF_160_9 V_r; have := gF_160_22 V_r; have := gF_160_23 V_r; have := gF_160_24 V_r; have := gF_160_28 V_r; have := gF_160_39 V_r; omega)
  · intro C23
    exact ok_rVR V_u10 (by omega)
set_option maxRecDepth 4000 in
theorem vw_X13_member_234 {nn : Nat} (hn : 1000000 ≤ nn) : ∀ (k : Nat) {l3 : Int} {h : ms_M} (a_l3 : 0 ≤ l3) (b_l3 : l3 ≤ 799) (V_h : VS_ h) (x_0 : h 160 23 + 1 ≤ h 160 8) (x_1 : h 160 22 ≤ 2 * h 160 23 + 30) (x_2 : 2 * h 160 39 ≤ h 160 23) (x_3 : h 189 (l3).toNat ≤ h 160 39) (N_h : EK_ h)  (hm : 12 * (3001 - h 160 23) - h 160 9 < (k : Int)), Ok_ (qw_X13_member_234 nn k l3 h) (QVR_ (fun r => (r 160 8 = h 160 8) ∧ (h 160 9 = 0 ∨ ¬ r 160 9 = 0) ∧ (h 160 23 ≤ r 160 23) ∧ (r 160 23 + 1 ≤ h 160 8) ∧ (h 160 22 ≤ r 160 22) ∧ (r 160 22 + 2 * h 160 23 ≤ h 160 22 + 2 * r 160 23 + 2) ∧ (2 * r 160 39 ≤ r 160 23) ∧ (¬ r 160 9 = 0 ∨ (r 160 22 + 2 * h 160 23 ≤ h 160 22 + 2 * r 160 23 + 0)) ∧ (r 160 28 = h 160 28))) := by
  intro k
  induction k with
  | zero => intro l3 h a_l3 b_l3 V_h x_0 x_1 x_2 x_3 N_h hm; have := gF_160_23 V_h; have := gF_160_9 V_h; exfalso; omega
  | succ k ih =>
    intro l3 h a_l3 b_l3 V_h x_0 x_1 x_2 x_3 N_h hm
    unfold qw_X13_member_234
    have T1 := gF_160_8 V_h
    have T2 := gF_160_9 V_h
    have T3 := gF_160_22 V_h
    have T4 := gF_160_23 V_h
    have T5 := gF_160_24 V_h
    have T6 := gF_160_28 V_h
    have T7 := gF_160_39 V_h
    refine ok_if ?_ ?_
    · intro C7
      exact ok_mV (vj_X13_member_360 hn (by omega) (by omega) V_h (by omega) (by omega) (by omega) N_h) (fun _ V_r R_r => by have := gF_160_8 V_r; have := gF_160_9 V_r; have := gF_160_22 V_r; have := gF_160_23 V_r; have := gF_160_24 V_r; have := gF_160_28 V_r; have := gF_160_39 V_r; omega)
    · intro C7
      refine ok_cP (vf_X13_isSign hn (by omega) (by omega) (by omega) (by omega) V_h) ?_; intro u38 e_u38 a_u38 b_u38
      have T9 := lm_ek_isSign N_h (by omega) e_u38
      refine ok_if ?_ ?_
      · intro C9
        exact ok_mV (vj_X13_member_360 hn (by omega) (by omega) V_h (by omega) (by omega) (by omega) N_h) (fun _ V_r R_r => by have := gF_160_8 V_r; have := gF_160_9 V_r; have := gF_160_22 V_r; have := gF_160_23 V_r; have := gF_160_24 V_r; have := gF_160_28 V_r; have := gF_160_39 V_r; omega)
      · intro C9
        refine ok_rd (by omega) (gA_189 V_h) ?_; intro v40 e_v40 a_v40 b_v40
        refine ok_if ?_ ?_
        · intro C10
          exact ok_mV (vj_X13_member_269 hn ih (by omega) (by omega) V_h (by omega) (by omega) (by omega) (by omega) N_h (by omega)) (fun _ V_r R_r => by have := gF_160_8 V_r; have := gF_160_9 V_r; have := gF_160_22 V_r; have := gF_160_23 V_r; have := gF_160_24 V_r; have := gF_160_28 V_r; have := gF_160_39 V_r; omega)
        · intro C10
          refine ok_cVR (vf_X13_sign_ hn (by omega) (by omega) V_h (by omega) N_h) ?_; intro u42 E_u42 V_u42 R_u42
          have N_u42 : EK_ u42 := ek_fr V_h N_h (fun c k z => (ff_X13_sign_ nn) _ E_u42 c k z) rfl
          have T12 : u42 160 8 = h 160 8 := (ff_X13_sign_ nn) _ E_u42 160 8 rfl
          have T13 : u42 160 22 = h 160 22 := (ff_X13_sign_ nn) _ E_u42 160 22 rfl
          have T14 : u42 160 24 = h 160 24 := (ff_X13_sign_ nn) _ E_u42 160 24 rfl
          have T15 : u42 160 28 = h 160 28 := (ff_X13_sign_ nn) _ E_u42 160 28 rfl
          have T16 : u42 160 39 = h 160 39 := (ff_X13_sign_ nn) _ E_u42 160 39 rfl
          have T17 : u42 189 (l3).toNat = h 189 (l3).toNat := (ff_X13_sign_ nn) _ E_u42 189 (l3).toNat (nw_ar rfl _)
          have T18 := gF_160_9 V_u42
          have T19 := gF_160_23 V_u42
          exact ok_mV (vj_X13_member_269 hn ih (by omega) (by omega) V_u42 (by omega) (by omega) (by omega) (by omega) N_u42 (by omega)) (fun _ V_r R_r => by have := gF_160_8 V_r; have := gF_160_9 V_r; have := gF_160_22 V_r; have := gF_160_23 V_r; have := gF_160_24 V_r; have := gF_160_28 V_r; have := gF_160_39 V_r; omega)
set_option maxRecDepth 4000 in
theorem vj_X13_member_170 {nn : Nat} (hn : 1000000 ≤ nn) {l1 : Int} {l2 : Int} {l3 : Int} {s0 : Int} {s1 : Int} {h : ms_M} (a_l1 : 0 ≤ l1) (b_l1 : l1 ≤ 1) (a_l2 : 0 ≤ l2) (b_l2 : l2 ≤ 1) (a_l3 : 0 ≤ l3) (b_l3 : l3 ≤ 799) (a_s0 : 0 ≤ s0) (b_s0 : s0 ≤ 2) (a_s1 : 0 ≤ s1) (b_s1 : s1 ≤ 799) (V_h : VS_ h) (x_0 : h 160 23 + 1 ≤ h 160 8) (x_1 : h 160 22 ≤ 2 * h 160 23 + 30) (x_2 : 2 * h 160 39 ≤ h 160 23) (x_3 : h 160 28 ≤ 799) (x_4 : s1 = l3) (x_5 : h 189 (l3).toNat = 0) (N_h : EK_ h)  : Ok_ (qj_X13_member_170 nn l1 l2 l3 s0 s1 h) (QVR_ (fun r => (r 160 8 = h 160 8) ∧ (h 160 9 = 0 ∨ ¬ r 160 9 = 0) ∧ (h 160 23 ≤ r 160 23) ∧ (r 160 23 + 1 ≤ h 160 8) ∧ (h 160 22 ≤ r 160 22) ∧ (r 160 22 + 2 * h 160 23 ≤ h 160 22 + 2 * r 160 23 + 2) ∧ (2 * r 160 39 ≤ r 160 23) ∧ (h 160 28 ≤ r 160 28 ∧ r 160 28 ≤ h 160 28 + 1) ∧ (¬ r 160 9 = 0 ∨ (r 160 28 = h 160 28 + 1 ∧ h 160 23 + 1 ≤ r 160 23 ∧ r 160 22 + 2 * h 160 23 ≤ h 160 22 + 2 * r 160 23 + 0)))) := by
  unfold qj_X13_member_170
  have T1 := gF_160_8 V_h
  have T2 := gF_160_9 V_h
  have T3 := gF_160_22 V_h
  have T4 := gF_160_23 V_h
  have T5 := gF_160_24 V_h
  have T6 := gF_160_28 V_h
  have T7 := gF_160_39 V_h
  refine ok_wA (by omega) ?_; intro h46 E_h46; have V_h46 : VS_ h46 := by rw [E_h46]; exact wA_182 V_h (by omega)
  have N_h46 : EK_ h46 := by rw [E_h46]; exact ek_ua V_h N_h rfl
  have T8 : h46 160 8 = h 160 8 := by rw [E_h46]; exact up_n (fun z => absurd z.1 (by decide))
  have T9 : h46 160 9 = h 160 9 := by rw [E_h46]; exact up_n (fun z => absurd z.1 (by decide))
  have T10 : h46 160 22 = h 160 22 := by rw [E_h46]; exact up_n (fun z => absurd z.1 (by decide))
  have T11 : h46 160 23 = h 160 23 := by rw [E_h46]; exact up_n (fun z => absurd z.1 (by decide))
  have T12 : h46 160 24 = h 160 24 := by rw [E_h46]; exact up_n (fun z => absurd z.1 (by decide))
  have T13 : h46 160 28 = h 160 28 := by rw [E_h46]; exact up_n (fun z => absurd z.1 (by decide))
  have T14 : h46 160 39 = h 160 39 := by rw [E_h46]; exact up_n (fun z => absurd z.1 (by decide))
  have T15 : h46 189 (l3).toNat = h 189 (l3).toNat := by rw [E_h46]; exact up_n (fun z => absurd z.1 (by decide))
  refine ok_if ?_ ?_
  · intro C15
    refine ok_add (by omega) ?_; intro v49 e_v49
    refine ok_xl ?_; intro h50 E_h50; have V_h50 : VS_ h50 := by rw [E_h50]; exact wF_160_28 V_h46 (by omega)
    have N_h50 : EK_ h50 := by rw [E_h50]; exact ek_up V_h46 N_h46 rfl
    have T17 : h50 160 8 = h46 160 8 := by rw [E_h50]; exact up_n (by decide)
    have T18 : h50 160 9 = h46 160 9 := by rw [E_h50]; exact up_n (by decide)
    have T19 : h50 160 22 = h46 160 22 := by rw [E_h50]; exact up_n (by decide)
    have T20 : h50 160 23 = h46 160 23 := by rw [E_h50]; exact up_n (by decide)
    have T21 : h50 160 24 = h46 160 24 := by rw [E_h50]; exact up_n (by decide)
    have T22 : h50 160 39 = h46 160 39 := by rw [E_h50]; exact up_n (by decide)
    have T23 : h50 189 (l3).toNat = h46 189 (l3).toNat := by rw [E_h50]; exact up_n (fun z => absurd z.1 (by decide))
    have T24 : h50 160 28 = v49 := by rw [E_h50]; exact up_s
    refine ok_if ?_ ?_
    · intro C24
      refine ok_cVR (vf_X13_sign_ hn (by omega) (by omega) V_h50 (by omega) N_h50) ?_; intro u52 E_u52 V_u52 R_u52
      have N_u52 : EK_ u52 := ek_fr V_h50 N_h50 (fun c k z => (ff_X13_sign_ nn) _ E_u52 c k z) rfl
      have T26 : u52 160 8 = h50 160 8 := (ff_X13_sign_ nn) _ E_u52 160 8 rfl
      have T27 : u52 160 22 = h50 160 22 := (ff_X13_sign_ nn) _ E_u52 160 22 rfl
      have T28 : u52 160 24 = h50 160 24 := (ff_X13_sign_ nn) _ E_u52 160 24 rfl
      have T29 : u52 160 39 = h50 160 39 := (ff_X13_sign_ nn) _ E_u52 160 39 rfl
      have T30 : u52 189 (l3).toNat = h50 189 (l3).toNat := (ff_X13_sign_ nn) _ E_u52 189 (l3).toNat (nw_ar rfl _)
      have T31 : u52 160 28 = h50 160 28 := (ff_X13_sign_ nn) _ E_u52 160 28 rfl
      have T32 := gF_160_9 V_u52
      have T33 := gF_160_23 V_u52
      exact ok_mV (vw_X13_member_234 hn _ (by omega) (by omega) V_u52 (by omega) (by omega) (by omega) (by omega) N_u52 (by omega)) (fun _ V_r R_r => by have := gF_160_8 V_r; have := gF_160_9 V_r; have := gF_160_22 V_r; have := gF_160_23 V_r; have := gF_160_24 V_r; have := gF_160_28 V_r; have := gF_160_39 V_r; omega)
    · intro C24
      refine ok_if ?_ ?_
      · intro C33
        refine ok_cVR (vf_X13_sign_ hn (by omega) (by omega) V_h50 (by omega) N_h50) ?_; intro u54 E_u54 V_u54 R_u54
        have N_u54 : EK_ u54 := ek_fr V_h50 N_h50 (fun c k z => (ff_X13_sign_ nn) _ E_u54 c k z) rfl
        have T35 : u54 160 8 = h50 160 8 := (ff_X13_sign_ nn) _ E_u54 160 8 rfl
        have T36 : u54 160 22 = h50 160 22 := (ff_X13_sign_ nn) _ E_u54 160 22 rfl
        have T37 : u54 160 24 = h50 160 24 := (ff_X13_sign_ nn) _ E_u54 160 24 rfl
        have T38 : u54 160 39 = h50 160 39 := (ff_X13_sign_ nn) _ E_u54 160 39 rfl
        have T39 : u54 189 (l3).toNat = h50 189 (l3).toNat := (ff_X13_sign_ nn) _ E_u54 189 (l3).toNat (nw_ar rfl _)
        have T40 : u54 160 28 = h50 160 28 := (ff_X13_sign_ nn) _ E_u54 160 28 rfl
        have T41 := gF_160_9 V_u54
        have T42 := gF_160_23 V_u54
        exact ok_mV (vw_X13_member_234 hn _ (by omega) (by omega) V_u54 (by omega) (by omega) (by omega) (by omega) N_u54 (by omega)) (fun _ V_r R_r => by have := gF_160_8 V_r; have := gF_160_9 V_r; have := gF_160_22 V_r; have := gF_160_23 V_r; have := gF_160_24 V_r; have := gF_160_28 V_r; have := gF_160_39 V_r; omega)
      · intro C33
        refine ok_cP (vf_X13_isSign hn (by omega) (by omega) (by omega) (by omega) V_h50) ?_; intro u57 e_u57 a_u57 b_u57
        have T43 := lm_ek_isSign N_h50 (by omega) e_u57
        refine ok_if ?_ ?_
        · intro C43
          refine ok_cVR (vf_X13_sign_ hn (by omega) (by omega) V_h50 (by omega) N_h50) ?_; intro u59 E_u59 V_u59 R_u59
          have N_u59 : EK_ u59 := ek_fr V_h50 N_h50 (fun c k z => (ff_X13_sign_ nn) _ E_u59 c k z) rfl
          have T45 : u59 160 8 = h50 160 8 := (ff_X13_sign_ nn) _ E_u59 160 8 rfl
          have T46 : u59 160 22 = h50 160 22 := (ff_X13_sign_ nn) _ E_u59 160 22 rfl
          have T47 : u59 160 24 = h50 160 24 := (ff_X13_sign_ nn) _ E_u59 160 24 rfl
          have T48 : u59 160 39 = h50 160 39 := (ff_X13_sign_ nn) _ E_u59 160 39 rfl
          have T49 : u59 189 (l3).toNat = h50 189 (l3).toNat := (ff_X13_sign_ nn) _ E_u59 189 (l3).toNat (nw_ar rfl _)
          have T50 : u59 160 28 = h50 160 28 := (ff_X13_sign_ nn) _ E_u59 160 28 rfl
          have T51 := gF_160_9 V_u59
          have T52 := gF_160_23 V_u59
          exact ok_mV (vw_X13_member_234 hn _ (by omega) (by omega) V_u59 (by omega) (by omega) (by omega) (by omega) N_u59 (by omega)) (fun _ V_r R_r => by have := gF_160_8 V_r; have := gF_160_9 V_r; have := gF_160_22 V_r; have := gF_160_23 V_r; have := gF_160_24 V_r; have := gF_160_28 V_r; have := gF_160_39 V_r; omega)
        · intro C43
          refine ok_add (by omega) ?_; intro v61 e_v61
          refine ok_xl ?_; intro h62 E_h62; have V_h62 : VS_ h62 := by rw [E_h62]; exact wF_160_23 V_h50 (by omega)
          have N_h62 : EK_ h62 := by rw [E_h62]; exact ek_up V_h50 N_h50 rfl
          have T53 : h62 160 8 = h50 160 8 := by rw [E_h62]; exact up_n (by decide)
          have T54 : h62 160 9 = h50 160 9 := by rw [E_h62]; exact up_n (by decide)
          have T55 : h62 160 22 = h50 160 22 := by rw [E_h62]; exact up_n (by decide)
          have T56 : h62 160 24 = h50 160 24 := by rw [E_h62]; exact up_n (by decide)
          have T57 : h62 160 39 = h50 160 39 := by rw [E_h62]; exact up_n (by decide)
          have T58 : h62 189 (l3).toNat = h50 189 (l3).toNat := by rw [E_h62]; exact up_n (fun z => absurd z.1 (by decide))
          have T59 : h62 160 28 = h50 160 28 := by rw [E_h62]; exact up_n (by decide)
          have T60 : h62 160 23 = v61 := by rw [E_h62]; exact up_s
          refine ok_wA (by omega) ?_; intro h64 E_h64; have V_h64 : VS_ h64 := by rw [E_h64]; exact wA_182 V_h62 (by omega)
          have N_h64 : EK_ h64 := by rw [E_h64]; exact ek_ua V_h62 N_h62 rfl
          have T61 : h64 160 8 = h62 160 8 := by rw [E_h64]; exact up_n (fun z => absurd z.1 (by decide))
          have T62 : h64 160 9 = h62 160 9 := by rw [E_h64]; exact up_n (fun z => absurd z.1 (by decide))
          have T63 : h64 160 22 = h62 160 22 := by rw [E_h64]; exact up_n (fun z => absurd z.1 (by decide))
          have T64 : h64 160 24 = h62 160 24 := by rw [E_h64]; exact up_n (fun z => absurd z.1 (by decide))
          have T65 : h64 160 39 = h62 160 39 := by rw [E_h64]; exact up_n (fun z => absurd z.1 (by decide))
          have T66 : h64 189 (l3).toNat = h62 189 (l3).toNat := by rw [E_h64]; exact up_n (fun z => absurd z.1 (by decide))
          have T67 : h64 160 28 = h62 160 28 := by rw [E_h64]; exact up_n (fun z => absurd z.1 (by decide))
          have T68 : h64 160 23 = h62 160 23 := by rw [E_h64]; exact up_n (fun z => absurd z.1 (by decide))
          exact ok_rVR V_h64 (by omega)
  · intro C15
    exact ok_rVR V_h46 (by omega)
set_option maxRecDepth 4000 in
theorem vj_X13_member_75 {nn : Nat} (hn : 1000000 ≤ nn) {l1 : Int} {l2 : Int} {h : ms_M} (a_l1 : 0 ≤ l1) (b_l1 : l1 ≤ 1) (a_l2 : 0 ≤ l2) (b_l2 : l2 ≤ 1) (V_h : VS_ h) (x_0 : h 160 23 + 1 ≤ h 160 8) (x_1 : h 160 22 ≤ 2 * h 160 23 + 30) (x_2 : 2 * h 160 39 ≤ h 160 23) (x_3 : h 160 28 ≤ 799) (x_4 : 1 ≤ h 160 24) (N_h : EK_ h)  : Ok_ (qj_X13_member_75 nn l1 l2 h) (QVR_ (fun r => (r 160 8 = h 160 8) ∧ (h 160 9 = 0 ∨ ¬ r 160 9 = 0) ∧ (h 160 23 ≤ r 160 23) ∧ (r 160 23 + 1 ≤ h 160 8) ∧ (h 160 22 ≤ r 160 22) ∧ (r 160 22 + 2 * h 160 23 ≤ h 160 22 + 2 * r 160 23 + 2) ∧ (2 * r 160 39 ≤ r 160 23) ∧ (h 160 28 ≤ r 160 28 ∧ r 160 28 ≤ h 160 28 + 1) ∧ (¬ r 160 9 = 0 ∨ (r 160 28 = h 160 28 + 1 ∧ r 160 22 + 2 * h 160 23 ≤ h 160 22 + 2 * r 160 23 + 0)) ∧ (¬ r 160 9 = 0 ∨ h 160 23 + 2 ≤ r 160 23))) := by
  unfold qj_X13_member_75
  have T1 := gF_160_8 V_h
  have T2 := gF_160_9 V_h
  have T3 := gF_160_22 V_h
  have T4 := gF_160_23 V_h
  have T5 := gF_160_24 V_h
  have T6 := gF_160_28 V_h
  have T7 := gF_160_39 V_h
  have T8 := gF_160_45 V_h
  refine ok_wA (by omega) ?_; intro h72 E_h72; have V_h72 : VS_ h72 := by rw [E_h72]; exact wA_183 V_h (by omega)
  have N_h72 : EK_ h72 := by rw [E_h72]; exact ek_ua V_h N_h rfl
  have T9 : h72 160 8 = h 160 8 := by rw [E_h72]; exact up_n (fun z => absurd z.1 (by decide))
  have T10 : h72 160 9 = h 160 9 := by rw [E_h72]; exact up_n (fun z => absurd z.1 (by decide))
  have T11 : h72 160 22 = h 160 22 := by rw [E_h72]; exact up_n (fun z => absurd z.1 (by decide))
  have T12 : h72 160 23 = h 160 23 := by rw [E_h72]; exact up_n (fun z => absurd z.1 (by decide))
  have T13 : h72 160 24 = h 160 24 := by rw [E_h72]; exact up_n (fun z => absurd z.1 (by decide))
  have T14 : h72 160 28 = h 160 28 := by rw [E_h72]; exact up_n (fun z => absurd z.1 (by decide))
  have T15 : h72 160 39 = h 160 39 := by rw [E_h72]; exact up_n (fun z => absurd z.1 (by decide))
  have T16 := gF_160_46 V_h72
  refine ok_wA (by omega) ?_; intro h75 E_h75; have V_h75 : VS_ h75 := by rw [E_h75]; exact wA_184 V_h72 (by omega)
  have N_h75 : EK_ h75 := by rw [E_h75]; exact ek_ua V_h72 N_h72 rfl
  have T17 : h75 160 8 = h72 160 8 := by rw [E_h75]; exact up_n (fun z => absurd z.1 (by decide))
  have T18 : h75 160 9 = h72 160 9 := by rw [E_h75]; exact up_n (fun z => absurd z.1 (by decide))
  have T19 : h75 160 22 = h72 160 22 := by rw [E_h75]; exact up_n (fun z => absurd z.1 (by decide))
  have T20 : h75 160 23 = h72 160 23 := by rw [E_h75]; exact up_n (fun z => absurd z.1 (by decide))
  have T21 : h75 160 24 = h72 160 24 := by rw [E_h75]; exact up_n (fun z => absurd z.1 (by decide))
  have T22 : h75 160 28 = h72 160 28 := by rw [E_h75]; exact up_n (fun z => absurd z.1 (by decide))
  have T23 : h75 160 39 = h72 160 39 := by rw [E_h75]; exact up_n (fun z => absurd z.1 (by decide))
  have T24 := gF_160_47 V_h75
  refine ok_wZ (by omega) (by omega) ?_; intro h78 E_h78; have V_h78 : VS_ h78 := by rw [E_h78]; exact wA_185 V_h75 (by omega)
  have N_h78 : EK_ h78 := by rw [E_h78]; exact ek_ua V_h75 N_h75 rfl
  have T25 : h78 160 8 = h75 160 8 := by rw [E_h78]; exact up_n (fun z => absurd z.1 (by decide))
  have T26 : h78 160 9 = h75 160 9 := by rw [E_h78]; exact up_n (fun z => absurd z.1 (by decide))
  have T27 : h78 160 22 = h75 160 22 := by rw [E_h78]; exact up_n (fun z => absurd z.1 (by decide))
  have T28 : h78 160 23 = h75 160 23 := by rw [E_h78]; exact up_n (fun z => absurd z.1 (by decide))
  have T29 : h78 160 24 = h75 160 24 := by rw [E_h78]; exact up_n (fun z => absurd z.1 (by decide))
  have T30 : h78 160 28 = h75 160 28 := by rw [E_h78]; exact up_n (fun z => absurd z.1 (by decide))
  have T31 : h78 160 39 = h75 160 39 := by rw [E_h78]; exact up_n (fun z => absurd z.1 (by decide))
  refine ok_cIR (vf_X13_name hn V_h78 (by omega) N_h78) ?_; intro u81 E_u81 V_u81 a_u81 b_u81 R_u81
  have N_u81_2 : EK_ u81.2 := ek_fr V_h78 N_h78 (fun c k z => (ff_X13_name nn) _ E_u81 c k z) rfl
  have T32 : u81.2 160 8 = h78 160 8 := (ff_X13_name nn) _ E_u81 160 8 rfl
  have T33 : u81.2 160 22 = h78 160 22 := (ff_X13_name nn) _ E_u81 160 22 rfl
  have T34 : u81.2 160 24 = h78 160 24 := (ff_X13_name nn) _ E_u81 160 24 rfl
  have T35 : u81.2 160 28 = h78 160 28 := (ff_X13_name nn) _ E_u81 160 28 rfl
  have T36 : u81.2 160 39 = h78 160 39 := (ff_X13_name nn) _ E_u81 160 39 rfl
  have T37 := gF_160_9 V_u81
  have T38 := gF_160_23 V_u81
  refine ok_wA (by omega) ?_; intro h82 E_h82; have V_h82 : VS_ h82 := by rw [E_h82]; exact wA_186 V_u81 (by omega)
  have N_h82 : EK_ h82 := by rw [E_h82]; exact ek_ua V_u81 N_u81_2 rfl
  have T39 : h82 160 8 = u81.2 160 8 := by rw [E_h82]; exact up_n (fun z => absurd z.1 (by decide))
  have T40 : h82 160 22 = u81.2 160 22 := by rw [E_h82]; exact up_n (fun z => absurd z.1 (by decide))
  have T41 : h82 160 24 = u81.2 160 24 := by rw [E_h82]; exact up_n (fun z => absurd z.1 (by decide))
  have T42 : h82 160 28 = u81.2 160 28 := by rw [E_h82]; exact up_n (fun z => absurd z.1 (by decide))
  have T43 : h82 160 39 = u81.2 160 39 := by rw [E_h82]; exact up_n (fun z => absurd z.1 (by decide))
  have T44 : h82 160 9 = u81.2 160 9 := by rw [E_h82]; exact up_n (fun z => absurd z.1 (by decide))
  have T45 : h82 160 23 = u81.2 160 23 := by rw [E_h82]; exact up_n (fun z => absurd z.1 (by decide))
  refine ok_sub (by omega) ?_; intro v85 e_v85
  refine ok_wA (by omega) ?_; intro h86 E_h86; have V_h86 : VS_ h86 := by rw [E_h86]; exact wA_181 V_h82 (by omega)
  have N_h86 : EK_ h86 := by rw [E_h86]; exact ek_ua V_h82 N_h82 rfl
  have T46 : h86 160 8 = h82 160 8 := by rw [E_h86]; exact up_n (fun z => absurd z.1 (by decide))
  have T47 : h86 160 22 = h82 160 22 := by rw [E_h86]; exact up_n (fun z => absurd z.1 (by decide))
  have T48 : h86 160 24 = h82 160 24 := by rw [E_h86]; exact up_n (fun z => absurd z.1 (by decide))
  have T49 : h86 160 28 = h82 160 28 := by rw [E_h86]; exact up_n (fun z => absurd z.1 (by decide))
  have T50 : h86 160 39 = h82 160 39 := by rw [E_h86]; exact up_n (fun z => absurd z.1 (by decide))
  have T51 : h86 160 9 = h82 160 9 := by rw [E_h86]; exact up_n (fun z => absurd z.1 (by decide))
  have T52 : h86 160 23 = h82 160 23 := by rw [E_h86]; exact up_n (fun z => absurd z.1 (by decide))
  refine ok_wA (by omega) ?_; intro h89 E_h89; have V_h89 : VS_ h89 := by rw [E_h89]; exact wA_188 V_h86 (by omega)
  have N_h89 : EK_ h89 := by rw [E_h89]; exact ek_ua V_h86 N_h86 rfl
  have T53 : h89 160 8 = h86 160 8 := by rw [E_h89]; exact up_n (fun z => absurd z.1 (by decide))
  have T54 : h89 160 22 = h86 160 22 := by rw [E_h89]; exact up_n (fun z => absurd z.1 (by decide))
  have T55 : h89 160 24 = h86 160 24 := by rw [E_h89]; exact up_n (fun z => absurd z.1 (by decide))
  have T56 : h89 160 28 = h86 160 28 := by rw [E_h89]; exact up_n (fun z => absurd z.1 (by decide))
  have T57 : h89 160 39 = h86 160 39 := by rw [E_h89]; exact up_n (fun z => absurd z.1 (by decide))
  have T58 : h89 160 9 = h86 160 9 := by rw [E_h89]; exact up_n (fun z => absurd z.1 (by decide))
  have T59 : h89 160 23 = h86 160 23 := by rw [E_h89]; exact up_n (fun z => absurd z.1 (by decide))
  refine ok_wA (by omega) ?_; intro h91 E_h91; have V_h91 : VS_ h91 := by rw [E_h91]; exact wA_189 V_h89 (by omega)
  have N_h91 : EK_ h91 := by rw [E_h91]; exact ek_ua V_h89 N_h89 rfl
  have T60 : h91 160 8 = h89 160 8 := by rw [E_h91]; exact up_n (fun z => absurd z.1 (by decide))
  have T61 : h91 160 22 = h89 160 22 := by rw [E_h91]; exact up_n (fun z => absurd z.1 (by decide))
  have T62 : h91 160 24 = h89 160 24 := by rw [E_h91]; exact up_n (fun z => absurd z.1 (by decide))
  have T63 : h91 160 28 = h89 160 28 := by rw [E_h91]; exact up_n (fun z => absurd z.1 (by decide))
  have T64 : h91 160 39 = h89 160 39 := by rw [E_h91]; exact up_n (fun z => absurd z.1 (by decide))
  have T65 : h91 160 9 = h89 160 9 := by rw [E_h91]; exact up_n (fun z => absurd z.1 (by decide))
  have T66 : h91 160 23 = h89 160 23 := by rw [E_h91]; exact up_n (fun z => absurd z.1 (by decide))
  have T67 : h91 189 ((h 160 28)).toNat = 0 := by rw [E_h91]; exact up_s
  refine ok_wA (by omega) ?_; intro h93 E_h93; have V_h93 : VS_ h93 := by rw [E_h93]; exact wA_190 V_h91 (by omega)
  have N_h93 : EK_ h93 := by rw [E_h93]; exact ek_ua V_h91 N_h91 rfl
  have T68 : h93 160 8 = h91 160 8 := by rw [E_h93]; exact up_n (fun z => absurd z.1 (by decide))
  have T69 : h93 160 22 = h91 160 22 := by rw [E_h93]; exact up_n (fun z => absurd z.1 (by decide))
  have T70 : h93 160 24 = h91 160 24 := by rw [E_h93]; exact up_n (fun z => absurd z.1 (by decide))
  have T71 : h93 160 28 = h91 160 28 := by rw [E_h93]; exact up_n (fun z => absurd z.1 (by decide))
  have T72 : h93 160 39 = h91 160 39 := by rw [E_h93]; exact up_n (fun z => absurd z.1 (by decide))
  have T73 : h93 160 9 = h91 160 9 := by rw [E_h93]; exact up_n (fun z => absurd z.1 (by decide))
  have T74 : h93 160 23 = h91 160 23 := by rw [E_h93]; exact up_n (fun z => absurd z.1 (by decide))
  have T75 : h93 189 ((h 160 28)).toNat = h91 189 ((h 160 28)).toNat := by rw [E_h93]; exact up_n (fun z => absurd z.1 (by decide))
  refine ok_if ?_ ?_
  · intro C75
    exact ok_mV (vj_X13_member_170 hn (by omega) (by omega) (by omega) (by omega) (by omega) (by omega) (by omega) (by omega) (by omega) (by omega) V_h93 (by omega) (by omega) (by omega) (by omega) (by omega) (by omega) N_h93) (fun _ V_r R_r => by have := gF_160_8 V_r; have := gF_160_9 V_r; have := gF_160_22 V_r; have := gF_160_23 V_r; have := gF_160_24 V_r; have := gF_160_28 V_r; have := gF_160_39 V_r; omega)
  · intro C75
    exact ok_mV (vj_X13_member_170 hn (by omega) (by omega) (by omega) (by omega) (by omega) (by omega) (by omega) (by omega) (by omega) (by omega) V_h93 (by omega) (by omega) (by omega) (by omega) (by omega) (by omega) N_h93) (fun _ V_r R_r => by have := gF_160_8 V_r; have := gF_160_9 V_r; have := gF_160_22 V_r; have := gF_160_23 V_r; have := gF_160_24 V_r; have := gF_160_28 V_r; have := gF_160_39 V_r; omega)
set_option maxRecDepth 4000 in
theorem vj_X13_member_25 {nn : Nat} (hn : 1000000 ≤ nn) {l1 : Int} {h : ms_M} (a_l1 : 0 ≤ l1) (b_l1 : l1 ≤ 1) (V_h : VS_ h) (x_0 : h 160 23 + 1 ≤ h 160 8) (x_1 : h 160 22 ≤ 2 * h 160 23 + 30) (x_2 : 2 * h 160 39 ≤ h 160 23) (x_3 : h 160 28 ≤ 799) (x_4 : 1 ≤ h 160 24) (x_5 : h 160 9 = 0) (N_h : EK_ h)  : Ok_ (qj_X13_member_25 nn l1 h) (QVR_ (fun r => (r 160 8 = h 160 8) ∧ (h 160 9 = 0 ∨ ¬ r 160 9 = 0) ∧ (h 160 23 ≤ r 160 23) ∧ (r 160 23 + 1 ≤ h 160 8) ∧ (h 160 22 ≤ r 160 22) ∧ (r 160 22 + 2 * h 160 23 ≤ h 160 22 + 2 * r 160 23 + 2) ∧ (2 * r 160 39 ≤ r 160 23) ∧ (h 160 28 ≤ r 160 28 ∧ r 160 28 ≤ h 160 28 + 1) ∧ (¬ r 160 9 = 0 ∨ (r 160 28 = h 160 28 + 1 ∧ r 160 22 + 2 * h 160 23 ≤ h 160 22 + 2 * r 160 23 + 0)) ∧ (¬ r 160 9 = 0 ∨ h 160 23 + 3 ≤ r 160 23))) := by
  unfold qj_X13_member_25
  have T1 := gF_160_8 V_h
  have T2 := gF_160_9 V_h
  have T3 := gF_160_22 V_h
  have T4 := gF_160_23 V_h
  have T5 := gF_160_24 V_h
  have T6 := gF_160_28 V_h
  have T7 := gF_160_39 V_h
  refine ok_cP (vf_X13_isWord hn (by omega) (by omega) (by omega) (by omega) V_h) ?_; intro u98 e_u98 a_u98 b_u98
  have T8 := lm_ek_isWord N_h (by omega) e_u98
  refine ok_if ?_ ?_
  · intro C8
    refine ok_cVR (vf_X13_type hn V_h (by omega) N_h) ?_; intro u100 E_u100 V_u100 R_u100
    have N_u100 : EK_ u100 := ek_fr V_h N_h (fun c k z => (ff_X13_type nn) _ E_u100 c k z) rfl
    have T10 : u100 160 8 = h 160 8 := (ff_X13_type nn) _ E_u100 160 8 rfl
    have T11 : u100 160 22 = h 160 22 := (ff_X13_type nn) _ E_u100 160 22 rfl
    have T12 : u100 160 24 = h 160 24 := (ff_X13_type nn) _ E_u100 160 24 rfl
    have T13 : u100 160 28 = h 160 28 := (ff_X13_type nn) _ E_u100 160 28 rfl
    have T14 : u100 160 39 = h 160 39 := (ff_X13_type nn) _ E_u100 160 39 rfl
    have T15 := gF_160_9 V_u100
    have T16 := gF_160_23 V_u100
    exact ok_mV (vj_X13_member_75 hn (by omega) (by omega) (by omega) (by omega) V_u100 (by omega) (by omega) (by omega) (by omega) (by omega) N_u100) (fun _ V_r R_r => by have := gF_160_8 V_r; have := gF_160_9 V_r; have := gF_160_22 V_r; have := gF_160_23 V_r; have := gF_160_24 V_r; have := gF_160_28 V_r; have := gF_160_39 V_r; omega)
  · intro C8
    refine ok_xl ?_; intro h101 E_h101; have V_h101 : VS_ h101 := by rw [E_h101]; exact wF_160_45 V_h (by omega)
    have N_h101 : EK_ h101 := by rw [E_h101]; exact ek_up V_h N_h rfl
    have T17 : h101 160 8 = h 160 8 := by rw [E_h101]; exact up_n (by decide)
    have T18 : h101 160 9 = h 160 9 := by rw [E_h101]; exact up_n (by decide)
    have T19 : h101 160 22 = h 160 22 := by rw [E_h101]; exact up_n (by decide)
    have T20 : h101 160 23 = h 160 23 := by rw [E_h101]; exact up_n (by decide)
    have T21 : h101 160 24 = h 160 24 := by rw [E_h101]; exact up_n (by decide)
    have T22 : h101 160 28 = h 160 28 := by rw [E_h101]; exact up_n (by decide)
    have T23 : h101 160 39 = h 160 39 := by rw [E_h101]; exact up_n (by decide)
    refine ok_xl ?_; intro h102 E_h102; have V_h102 : VS_ h102 := by rw [E_h102]; exact wF_160_47 V_h101 (by omega)
    have N_h102 : EK_ h102 := by rw [E_h102]; exact ek_up V_h101 N_h101 rfl
    have T24 : h102 160 8 = h101 160 8 := by rw [E_h102]; exact up_n (by decide)
    have T25 : h102 160 9 = h101 160 9 := by rw [E_h102]; exact up_n (by decide)
    have T26 : h102 160 22 = h101 160 22 := by rw [E_h102]; exact up_n (by decide)
    have T27 : h102 160 23 = h101 160 23 := by rw [E_h102]; exact up_n (by decide)
    have T28 : h102 160 24 = h101 160 24 := by rw [E_h102]; exact up_n (by decide)
    have T29 : h102 160 28 = h101 160 28 := by rw [E_h102]; exact up_n (by decide)
    have T30 : h102 160 39 = h101 160 39 := by rw [E_h102]; exact up_n (by decide)
    refine ok_xl ?_; intro h104 E_h104; have V_h104 : VS_ h104 := by rw [E_h104]; exact wF_160_46 V_h102 (by omega)
    have N_h104 : EK_ h104 := by rw [E_h104]; exact ek_up V_h102 N_h102 rfl
    have T31 : h104 160 8 = h102 160 8 := by rw [E_h104]; exact up_n (by decide)
    have T32 : h104 160 9 = h102 160 9 := by rw [E_h104]; exact up_n (by decide)
    have T33 : h104 160 22 = h102 160 22 := by rw [E_h104]; exact up_n (by decide)
    have T34 : h104 160 23 = h102 160 23 := by rw [E_h104]; exact up_n (by decide)
    have T35 : h104 160 24 = h102 160 24 := by rw [E_h104]; exact up_n (by decide)
    have T36 : h104 160 28 = h102 160 28 := by rw [E_h104]; exact up_n (by decide)
    have T37 : h104 160 39 = h102 160 39 := by rw [E_h104]; exact up_n (by decide)
    refine ok_add (by omega) ?_; intro v106 e_v106
    refine ok_xl ?_; intro h107 E_h107; have V_h107 : VS_ h107 := by rw [E_h107]; exact wF_160_23 V_h104 (by omega)
    have N_h107 : EK_ h107 := by rw [E_h107]; exact ek_up V_h104 N_h104 rfl
    have T38 : h107 160 8 = h104 160 8 := by rw [E_h107]; exact up_n (by decide)
    have T39 : h107 160 9 = h104 160 9 := by rw [E_h107]; exact up_n (by decide)
    have T40 : h107 160 22 = h104 160 22 := by rw [E_h107]; exact up_n (by decide)
    have T41 : h107 160 24 = h104 160 24 := by rw [E_h107]; exact up_n (by decide)
    have T42 : h107 160 28 = h104 160 28 := by rw [E_h107]; exact up_n (by decide)
    have T43 : h107 160 39 = h104 160 39 := by rw [E_h107]; exact up_n (by decide)
    have T44 : h107 160 23 = v106 := by rw [E_h107]; exact up_s
    exact ok_mV (vj_X13_member_75 hn (by omega) (by omega) (by omega) (by omega) V_h107 (by omega) (by omega) (by omega) (by omega) (by omega) N_h107) (fun _ V_r R_r => by have := gF_160_8 V_r; have := gF_160_9 V_r; have := gF_160_22 V_r; have := gF_160_23 V_r; have := gF_160_24 V_r; have := gF_160_28 V_r; have := gF_160_39 V_r; omega)
set_option maxRecDepth 4000 in
theorem vf_X13_member {nn : Nat} (hn : 1000000 ≤ nn) {h : ms_M} (V_h : VS_ h) (x_0 : h 160 23 + 1 ≤ h 160 8) (x_1 : h 160 9 = 0) (x_2 : h 160 22 ≤ 2 * h 160 23 + 30) (x_3 : 2 * h 160 39 ≤ h 160 23) (x_4 : h 160 28 ≤ 799) (x_5 : 1 ≤ h 160 24) (N_h : EK_ h)  : Ok_ (qf_X13_member nn h) (QVR_ (fun r => (r 160 8 = h 160 8) ∧ (h 160 9 = 0 ∨ ¬ r 160 9 = 0) ∧ (h 160 23 ≤ r 160 23) ∧ (r 160 23 + 1 ≤ h 160 8) ∧ (h 160 22 ≤ r 160 22) ∧ (r 160 22 + 2 * h 160 23 ≤ h 160 22 + 2 * r 160 23 + 2) ∧ (2 * r 160 39 ≤ r 160 23) ∧ (h 160 28 ≤ r 160 28 ∧ r 160 28 ≤ h 160 28 + 1) ∧ (¬ r 160 9 = 0 ∨ (r 160 28 = h 160 28 + 1 ∧ r 160 22 + 2 * h 160 23 ≤ h 160 22 + 2 * r 160 23 + 0)) ∧ (¬ r 160 9 = 0 ∨ h 160 23 + 3 ≤ r 160 23))) := by
  unfold qf_X13_member
  have T1 := gF_160_8 V_h
  have T2 := gF_160_9 V_h
  have T3 := gF_160_22 V_h
  have T4 := gF_160_23 V_h
  have T5 := gF_160_24 V_h
  have T6 := gF_160_28 V_h
  have T7 := gF_160_39 V_h
  refine ok_cP (vf_X13_isWord hn (by omega) (by omega) (by omega) (by omega) V_h) ?_; intro u111 e_u111 a_u111 b_u111
  have T8 := lm_ek_isWord N_h (by omega) e_u111
  refine ok_if ?_ ?_
  · intro C8
    exact ok_mV (vj_X13_member_25 hn (by omega) (by omega) V_h (by omega) (by omega) (by omega) (by omega) (by omega) (by omega) N_h) (fun _ V_r R_r => by have := gF_160_8 V_r; have := gF_160_9 V_r; have := gF_160_22 V_r; have := gF_160_23 V_r; have := gF_160_24 V_r; have := gF_160_28 V_r; have := gF_160_39 V_r; omega)
  · intro C8
    refine ok_add (by omega) ?_; intro v113 e_v113
    refine ok_xl ?_; intro h114 E_h114; have V_h114 : VS_ h114 := by rw [E_h114]; exact wF_160_23 V_h (by omega)
    have N_h114 : EK_ h114 := by rw [E_h114]; exact ek_up V_h N_h rfl
    have T10 : h114 160 8 = h 160 8 := by rw [E_h114]; exact up_n (by decide)
    have T11 : h114 160 9 = h 160 9 := by rw [E_h114]; exact up_n (by decide)
    have T12 : h114 160 22 = h 160 22 := by rw [E_h114]; exact up_n (by decide)
    have T13 : h114 160 24 = h 160 24 := by rw [E_h114]; exact up_n (by decide)
    have T14 : h114 160 28 = h 160 28 := by rw [E_h114]; exact up_n (by decide)
    have T15 : h114 160 39 = h 160 39 := by rw [E_h114]; exact up_n (by decide)
    have T16 : h114 160 23 = v113 := by rw [E_h114]; exact up_s
    exact ok_mV (vj_X13_member_25 hn (by omega) (by omega) V_h114 (by omega) (by omega) (by omega) (by omega) (by omega) (by omega) N_h114) (fun _ V_r R_r => by have := gF_160_8 V_r; have := gF_160_9 V_r; have := gF_160_22 V_r; have := gF_160_23 V_r; have := gF_160_24 V_r; have := gF_160_28 V_r; have := gF_160_39 V_r; omega)
set_option maxRecDepth 4000 in
theorem vf_X13_isDigit {nn : Nat} (hn : 1000000 ≤ nn) {a0 : Int} {h : ms_M} (a_a0 : (-2147483648) ≤ a0) (b_a0 : a0 ≤ 2147483647) (V_h : VS_ h)  : Ok_ (qf_X13_isDigit nn a0 h) (QP_ 0 1) := by
  unfold qf_X13_isDigit
  refine ok_if ?_ ?_
  · intro C0
    exact ok_rP (by omega) (by omega)
  · intro C0
    refine ok_if ?_ ?_
    · intro C1
      exact ok_rP (by omega) (by omega)
    · intro C1
      exact ok_rP (by omega) (by omega)
set_option maxRecDepth 4000 in
theorem vj_X13_isLetter_12 {nn : Nat} (hn : 1000000 ≤ nn) {l0 : Int} {h : ms_M} (a_l0 : (-2147483648) ≤ l0) (b_l0 : l0 ≤ 2147483647) (V_h : VS_ h)  : Ok_ (qj_X13_isLetter_12 nn l0 h) (QP_ 0 1) := by
  unfold qj_X13_isLetter_12
  refine ok_if ?_ ?_
  · intro C0
    exact ok_rP (by omega) (by omega)
  · intro C0
    refine ok_if ?_ ?_
    · intro C1
      exact ok_rP (by omega) (by omega)
    · intro C1
      exact ok_rP (by omega) (by omega)
set_option maxRecDepth 4000 in
theorem vf_X13_isLetter {nn : Nat} (hn : 1000000 ≤ nn) {a0 : Int} {h : ms_M} (a_a0 : (-2147483648) ≤ a0) (b_a0 : a0 ≤ 2147483647) (V_h : VS_ h)  : Ok_ (qf_X13_isLetter nn a0 h) (QP_ 0 1) := by
  unfold qf_X13_isLetter
  refine ok_if ?_ ?_
  · intro C0
    exact vj_X13_isLetter_12 hn (by omega) (by omega) V_h
  · intro C0
    refine ok_if ?_ ?_
    · intro C1
      exact ok_rP (by omega) (by omega)
    · intro C1
      exact vj_X13_isLetter_12 hn (by omega) (by omega) V_h
set_option maxRecDepth 4000 in
theorem vf_X13_end {nn : Nat} (hn : 1000000 ≤ nn) {a1 : Int} {h : ms_M} (a_a1 : (-2147483648) ≤ a1) (b_a1 : a1 ≤ 2147483647) (V_h : VS_ h)  : Ok_ (qf_X13_end nn a1 h) (QI_ 0 1) := by
  unfold qf_X13_end
  refine ok_if ?_ ?_
  · intro C0
    exact ok_rI V_h (by omega) (by omega)
  · intro C0
    have T2 := gF_160_1 V_h
    refine ok_if ?_ ?_
    · intro C2
      refine ok_xl ?_; intro h2 E_h2; have V_h2 : VS_ h2 := by rw [E_h2]; exact wF_160_1 V_h (by omega)
      exact ok_rI V_h2 (by omega) (by omega)
    · intro C2
      exact ok_rI V_h (by omega) (by omega)
set_option maxRecDepth 4000 in
theorem vf_X13_fault {nn : Nat} (hn : 1000000 ≤ nn) {a1 : Int} {h : ms_M} (a_a1 : (-2147483648) ≤ a1) (b_a1 : a1 ≤ 2147483647) (V_h : VS_ h)  : Ok_ (qf_X13_fault nn a1 h) (QP_ (-1) 3000) := by
  unfold qf_X13_fault
  refine ok_if ?_ ?_
  · intro C0
    refine ok_if ?_ ?_
    · intro C1
      exact ok_rP (by omega) (by omega)
    · intro C1
      have T3 := gF_160_9 V_h
      refine ok_if ?_ ?_
      · intro C3
        exact ok_rP (by omega) (by omega)
      · intro C3
        have T5 := gF_160_10 V_h
        exact ok_rP (by omega) (by omega)
  · intro C0
    have T6 := gF_160_9 V_h
    exact ok_rP (by omega) (by omega)
set_option maxRecDepth 4000 in
theorem vw_X13_lay_3 {nn : Nat} (hn : 1000000 ≤ nn) : ∀ (k : Nat) {l1 : Int} {l2 : Int} {h : ms_M} (a_l1 : (-2147483648) ≤ l1) (b_l1 : l1 ≤ 2147483647) (a_l2 : (-8) ≤ l2) (b_l2 : l2 ≤ 24) (V_h : VS_ h) (x_0 : h 160 1 ≤ 5999 - (l2) / 8)  (hm : l2 - (-9) < (k : Int)), Ok_ (qw_X13_lay_3 nn k l1 l2 h) (QVR_ (fun r => (r 160 1 = h 160 1 + l2 / 8 + 1))) := by
  intro k
  induction k with
  | zero => intros; exfalso; omega
  | succ k ih =>
    intro l1 l2 h a_l1 b_l1 a_l2 b_l2 V_h x_0 hm
    unfold qw_X13_lay_3
    have T1 := gF_160_1 V_h
    refine ok_if ?_ ?_
    · intro C1
      exact ok_rVR V_h (by omega)
    · intro C1
      refine ok_i32 ?_; intro v3 a_v3 b_v3
      refine ok_and (by omega) ?_; intro v4 a_v4 b_v4
      refine ok_wA (by omega) ?_; intro h5 E_h5; have V_h5 : VS_ h5 := by rw [E_h5]; exact wA_161 V_h (by omega)
      have T3 : h5 160 1 = h 160 1 := by rw [E_h5]; exact up_n (fun z => absurd z.1 (by decide))
      refine ok_add (by omega) ?_; intro v7 e_v7
      refine ok_xl ?_; intro h8 E_h8; have V_h8 : VS_ h8 := by rw [E_h8]; exact wF_160_1 V_h5 (by omega)
      have T4 : h8 160 1 = v7 := by rw [E_h8]; exact up_s
      refine ok_add (by omega) ?_; intro v9 e_v9
      exact ok_mV (ih (by omega) (by omega) (by omega) (by omega) V_h8 (by omega) (by omega)) (fun _ V_r R_r => by have := gF_160_1 V_r; omega)
set_option maxRecDepth 4000 in
theorem vf_X13_lay {nn : Nat} (hn : 1000000 ≤ nn) {a1 : Int} {h : ms_M} (a_a1 : (-2147483648) ≤ a1) (b_a1 : a1 ≤ 2147483647) (V_h : VS_ h) (x_0 : h 160 1 ≤ 5996)  : Ok_ (qf_X13_lay nn a1 h) (QVR_ (fun r => (r 160 1 = h 160 1 + 4))) := by
  unfold qf_X13_lay
  have T1 := gF_160_1 V_h
  exact ok_mV (vw_X13_lay_3 hn _ (by omega) (by omega) (by omega) (by omega) V_h (by omega) (by omega)) (fun _ V_r R_r => by have := gF_160_1 V_r; omega)
set_option maxRecDepth 4000 in
theorem vf_X13_feed {nn : Nat} (hn : 1000000 ≤ nn) {a1 : Int} {a2 : Int} {a3 : Int} {a4 : Int} {a5 : Int} {h : ms_M} (a_a1 : (-2147483648) ≤ a1) (b_a1 : a1 ≤ 2147483647) (a_a2 : (-2147483648) ≤ a2) (b_a2 : a2 ≤ 2147483647) (a_a3 : (-2147483648) ≤ a3) (b_a3 : a3 ≤ 2147483647) (a_a4 : (-2147483648) ≤ a4) (b_a4 : a4 ≤ 2147483647) (a_a5 : (-2147483648) ≤ a5) (b_a5 : a5 ≤ 2147483647) (V_h : VS_ h)  : Ok_ (qf_X13_feed nn a1 a2 a3 a4 a5 h) (QI_ (-1) 6000) := by
  unfold qf_X13_feed
  have T1 := gF_160_1 V_h
  refine ok_add (by omega) ?_; intro v2 e_v2
  refine ok_if ?_ ?_
  · intro C1
    refine ok_cVR (vf_X13_lay hn (by omega) (by omega) V_h (by omega)) ?_; intro u4 E_u4 V_u4 R_u4
    refine ok_cVR (vf_X13_lay hn (by omega) (by omega) V_u4 (by omega)) ?_; intro u6 E_u6 V_u6 R_u6
    refine ok_cVR (vf_X13_lay hn (by omega) (by omega) V_u6 (by omega)) ?_; intro u8 E_u8 V_u8 R_u8
    refine ok_cVR (vf_X13_lay hn (by omega) (by omega) V_u8 (by omega)) ?_; intro u10 E_u10 V_u10 R_u10
    refine ok_cVR (vf_X13_lay hn (by omega) (by omega) V_u10 (by omega)) ?_; intro u12 E_u12 V_u12 R_u12
    have T3 := gF_160_1 V_u12
    exact ok_rI V_u12 (by omega) (by omega)
  · intro C1
    exact ok_rI V_h (by omega) (by omega)
set_option maxRecDepth 4000 in
theorem vf_X13_image {nn : Nat} (hn : 1000000 ≤ nn) {a1 : Int} {a2 : Int} {h : ms_M} (a_a1 : (-2147483648) ≤ a1) (b_a1 : a1 ≤ 2147483647) (a_a2 : (-2147483648) ≤ a2) (b_a2 : a2 ≤ 2147483647) (V_h : VS_ h)  : Ok_ (qf_X13_image nn a1 a2 h) (QP_ (-1) 6000) := by
  unfold qf_X13_image
  refine ok_if ?_ ?_
  · intro C0
    exact ok_rP (by omega) (by omega)
  · intro C0
    have T2 := gF_160_93 V_h
    refine ok_if ?_ ?_
    · intro C2
      exact ok_rP (by omega) (by omega)
    · intro C2
      refine ok_if ?_ ?_
      · intro C3
        exact ok_rP (by omega) (by omega)
      · intro C3
        refine ok_rd (by omega) (gA_222 V_h) ?_; intro v3 e_v3 a_v3 b_v3
        refine ok_if ?_ ?_
        · intro C4
          refine ok_if ?_ ?_
          · intro C5
            refine ok_mul (by omega) ?_; intro v5 e_v5
            refine ok_add (by omega) ?_; intro v6 e_v6
            refine ok_rd (by omega) (gA_221 V_h) ?_; intro v7 e_v7 a_v7 b_v7
            exact ok_rP (by omega) (by omega)
          · intro C5
            refine ok_rd (by omega) (gA_222 V_h) ?_; intro v9 e_v9 a_v9 b_v9
            exact ok_rP (by omega) (by omega)
        · intro C4
          exact ok_rP (by omega) (by omega)
set_option maxRecDepth 4000 in
theorem vj_X13_isByte_26 {nn : Nat} (hn : 1000000 ≤ nn) {h : ms_M} (V_h : VS_ h)  : Ok_ (qj_X13_isByte_26 nn h) (QI_ 0 1) := by
  unfold qj_X13_isByte_26
  have T1 := gF_160_114 V_h
  refine ok_if ?_ ?_
  · intro C1
    exact ok_rI V_h (by omega) (by omega)
  · intro C1
    exact ok_rI V_h (by omega) (by omega)
set_option maxRecDepth 4000 in
theorem vf_X13_isByte {nn : Nat} (hn : 1000000 ≤ nn) {a1 : Int} {h : ms_M} (a_a1 : (-2147483648) ≤ a1) (b_a1 : a1 ≤ 2147483647) (V_h : VS_ h)  : Ok_ (qf_X13_isByte nn a1 h) (QI_ 0 1) := by
  unfold qf_X13_isByte
  have T1 := gF_160_114 V_h
  refine ok_if ?_ ?_
  · intro C1
    have T3 := gF_160_113 V_h
    refine ok_if ?_ ?_
    · intro C3
      exact vj_X13_isByte_26 hn V_h
    · intro C3
      refine ok_xl ?_; intro h6 E_h6; have V_h6 : VS_ h6 := by rw [E_h6]; exact wF_160_114 V_h (by omega)
      exact vj_X13_isByte_26 hn V_h6
  · intro C1
    exact ok_rI V_h (by omega) (by omega)
set_option maxRecDepth 4000 in
theorem vf_X13_out {nn : Nat} (hn : 1000000 ≤ nn) {a1 : Int} {h : ms_M} (a_a1 : (-2147483648) ≤ a1) (b_a1 : a1 ≤ 2147483647) (V_h : VS_ h)  : Ok_ (qf_X13_out nn a1 h) (QP_ (-2147483648) 2147483647) := by
  unfold qf_X13_out
  have T1 := gF_160_138 V_h
  refine ok_if ?_ ?_
  · intro C1
    exact ok_rP (by omega) (by omega)
  · intro C1
    refine ok_if ?_ ?_
    · intro C2
      exact ok_rP (by omega) (by omega)
    · intro C2
      have T4 := gF_160_143 V_h
      refine ok_if ?_ ?_
      · intro C4
        exact ok_rP (by omega) (by omega)
      · intro C4
        refine ok_if ?_ ?_
        · intro C5
          exact ok_rP (by omega) (by omega)
        · intro C5
          refine ok_rd (by omega) (gA_250 V_h) ?_; intro v4 e_v4 a_v4 b_v4
          exact ok_rP (by omega) (by omega)
set_option maxRecDepth 4000 in
theorem vf_X13_where {nn : Nat} (hn : 1000000 ≤ nn) {a1 : Int} {h : ms_M} (a_a1 : (-2147483648) ≤ a1) (b_a1 : a1 ≤ 2147483647) (V_h : VS_ h)  : Ok_ (qf_X13_where nn a1 h) (QP_ (-2147483648) 65535) := by
  unfold qf_X13_where
  refine ok_if ?_ ?_
  · intro C0
    refine ok_if ?_ ?_
    · intro C1
      refine ok_if ?_ ?_
      · intro C2
        exact ok_rP (by omega) (by omega)
      · intro C2
        have T4 := gF_160_125 V_h
        exact ok_rP (by omega) (by omega)
    · intro C1
      have T5 := gF_160_124 V_h
      exact ok_rP (by omega) (by omega)
  · intro C0
    have T6 := gF_160_123 V_h
    exact ok_rP (by omega) (by omega)
