set_option maxHeartbeats 4000000 in
set_option maxRecDepth 20000 in
theorem f_X4_init_ok (X : Nat × (Nat → Int32)) {F L : Nat} (hF : 2 ≤ F) (hL : 60 ≤ L) (nn : Nat) (a0 : Nat) (h : mx_H) {r : (mx_H × Nat × Nat)} (hf : f_X4_init nn a0 h = some r) : mx_R X F L 129 [.ref a0] h (none, r.1, r.2.1, r.2.2) := by
  have hm : mx_mt 129 = some (yX4_init, cX4_init, 1, none) := mt_X4_init
  show mx_S X F L 129 0 [(0, .ref a0)] [] h 0 0 (none, r.1, r.2.1, r.2.2)
  unfold f_X4_init at hf
  refine mx_S.pu (pc2 := 1) (lv2 := [(0, .ref a0)]) (st2 := [.ref a0]) hm dX4_init_0 rfl ?_
  refine sx_oi hm dX4_init_1 rs_RX4_3 (by omega) (Nat.le_trans (Nat.le_of_ble_eq_true rfl : _ ≤ 60) (by omega)) ?_
  refine mx_S.pu (pc2 := 5) (lv2 := [(0, .ref a0)]) (st2 := [.ref a0]) hm dX4_init_4 rfl ?_
  refine sx_bi (v := 16) hm dX4_init_5 (by decide) ?_
  replace hf := mx_gd_el hf; obtain ⟨c1, hf⟩ := hf
  replace hf := mx_sv_el hf; obtain ⟨u2, e_u2, hf⟩ := hf
  refine sx_na hm dX4_init_7 rfl (Or.inl rfl) c1 e_u2 ?_
  clear e_u2
  replace hf := mx_sv_el hf; obtain ⟨h3, e_h3, hf⟩ := hf
  refine sx_put hm dX4_init_9 rs_RX4_11 ft_4_0 ⟨rfl, rfl⟩ (fun _ => ⟨rfl, rfl⟩) e_h3 ?_
  clear e_h3
  refine mx_S.pu (pc2 := 13) (lv2 := [(0, .ref a0)]) (st2 := [.ref a0]) hm dX4_init_12 rfl ?_
  refine sx_si (v := 256) hm dX4_init_13 (by decide) ?_
  replace hf := mx_gd_el hf; obtain ⟨c4, hf⟩ := hf
  replace hf := mx_sv_el hf; obtain ⟨u5, e_u5, hf⟩ := hf
  refine sx_na hm dX4_init_16 rfl (Or.inr (Or.inr rfl)) c4 e_u5 ?_
  clear e_u5
  replace hf := mx_sv_el hf; obtain ⟨h6, e_h6, hf⟩ := hf
  refine sx_put hm dX4_init_18 rs_RX4_15 ft_4_1 ⟨rfl, rfl⟩ (fun _ => ⟨rfl, rfl⟩) e_h6 ?_
  clear e_h6
  refine mx_S.pu (pc2 := 22) (lv2 := [(0, .ref a0)]) (st2 := [.ref a0]) hm dX4_init_21 rfl ?_
  replace hf := mx_gd_el hf; obtain ⟨c7, hf⟩ := hf
  replace hf := mx_sv_el hf; obtain ⟨u8, e_u8, hf⟩ := hf
  refine sx_cv hm dX4_init_22 rs_RX4_19 mt_X4_forget [] [] (b := a0) (ci := 4) rfl rfl rfl c7 (Nat.le_of_ble_eq_true rfl) (Nat.le_of_ble_eq_true rfl) (by omega) (by omega) (f_X4_forget_ok X (by omega) (by omega) nn a0 h6 e_u8) ?_
  clear e_u8
  show mx_S X F L 129 25 [(0, .ref a0)] [] u8 ((0 + 1) + 1) ((0 + (16 : Int32).toNatClampNeg) + (256 : Int32).toNatClampNeg) (none, r.1, r.2.1, r.2.2)
  cases hf
  exact sx_ret hm dX4_init_25 rfl
set_option maxHeartbeats 4000000 in
set_option maxRecDepth 20000 in
theorem f_X2_init_ok (X : Nat × (Nat → Int32)) {F L : Nat} (hF : 3 ≤ F) (hL : 80 ≤ L) (nn : Nat) (a0 : Nat) (a1 : Nat) (h : mx_H) {r : (mx_H × Nat × Nat)} (hf : f_X2_init nn a0 a1 h = some r) : mx_R X F L 46 [.ref a0, .ref a1] h (none, r.1, r.2.1, r.2.2) := by
  have hm : mx_mt 46 = some (yX2_init, cX2_init, 2, none) := mt_X2_init
  show mx_S X F L 46 0 [(0, .ref a0), (1, .ref a1)] [] h 0 0 (none, r.1, r.2.1, r.2.2)
  unfold f_X2_init at hf
  refine mx_S.pu (pc2 := 1) (lv2 := [(0, .ref a0), (1, .ref a1)]) (st2 := [.ref a0]) hm dX2_init_0 rfl ?_
  refine sx_oi hm dX2_init_1 rs_RX2_5 (by omega) (Nat.le_trans (Nat.le_of_ble_eq_true rfl : _ ≤ 60) (by omega)) ?_
  refine mx_S.pu (pc2 := 5) (lv2 := [(0, .ref a0), (1, .ref a1)]) (st2 := [.ref a0]) hm dX2_init_4 rfl ?_
  replace hf := mx_sv_el hf; obtain ⟨u1, e_u1, hf⟩ := hf
  refine sx_no hm dX2_init_5 rs_RX2_11 (dx_4 X) e_u1 ?_
  clear e_u1
  refine mx_S.pu (pc2 := 9) (lv2 := [(0, .ref a0), (1, .ref a1)]) (st2 := [.ref u1.1, .ref u1.1, .ref a0]) hm dX2_init_8 rfl ?_
  replace hf := mx_sv_el hf; obtain ⟨u2, e_u2, hf⟩ := hf
  refine sx_ci hm dX2_init_9 (t := 3) (by decide) rs_RX2_13 mt_X4_init [] [.ref u1.1, .ref a0] (b := u1.1) rfl rfl (Nat.le_of_ble_eq_true rfl) (Nat.le_of_ble_eq_true rfl) (by omega) (by omega) (f_X4_init_ok X (by omega) (by omega) nn u1.1 u1.2 e_u2) ?_
  clear e_u2
  show mx_S X F L 46 12 [(0, .ref a0), (1, .ref a1)] [.ref u1.1, .ref a0] u2.1 ((0 + 1) + u2.2.1) ((0 + 2) + u2.2.2) (none, r.1, r.2.1, r.2.2)
  replace hf := mx_sv_el hf; obtain ⟨h3, e_h3, hf⟩ := hf
  refine sx_put hm dX2_init_12 rs_RX2_14 ft_2_1 ⟨rfl, rfl⟩ (fun _ => ⟨rfl, rfl⟩) e_h3 ?_
  clear e_h3
  refine mx_S.pu (pc2 := 16) (lv2 := [(0, .ref a0), (1, .ref a1)]) (st2 := [.ref a0]) hm dX2_init_15 rfl ?_
  refine sx_si (v := 334) hm dX2_init_16 (by decide) ?_
  replace hf := mx_gd_el hf; obtain ⟨c4, hf⟩ := hf
  replace hf := mx_sv_el hf; obtain ⟨u5, e_u5, hf⟩ := hf
  refine sx_na hm dX2_init_19 rfl (Or.inl rfl) c4 e_u5 ?_
  clear e_u5
  replace hf := mx_sv_el hf; obtain ⟨h6, e_h6, hf⟩ := hf
  refine sx_put hm dX2_init_21 rs_RX2_20 ft_2_3 ⟨rfl, rfl⟩ (fun _ => ⟨rfl, rfl⟩) e_h6 ?_
  clear e_h6
  refine mx_S.pu (pc2 := 25) (lv2 := [(0, .ref a0), (1, .ref a1)]) (st2 := [.ref a0]) hm dX2_init_24 rfl ?_
  refine sx_si (v := 1740) hm dX2_init_25 (by decide) ?_
  replace hf := mx_gd_el hf; obtain ⟨c7, hf⟩ := hf
  replace hf := mx_sv_el hf; obtain ⟨u8, e_u8, hf⟩ := hf
  refine sx_na hm dX2_init_28 rfl (Or.inl rfl) c7 e_u8 ?_
  clear e_u8
  replace hf := mx_sv_el hf; obtain ⟨h9, e_h9, hf⟩ := hf
  refine sx_put hm dX2_init_30 rs_RX2_24 ft_2_4 ⟨rfl, rfl⟩ (fun _ => ⟨rfl, rfl⟩) e_h9 ?_
  clear e_h9
  refine mx_S.pu (pc2 := 34) (lv2 := [(0, .ref a0), (1, .ref a1)]) (st2 := [.ref a0]) hm dX2_init_33 rfl ?_
  refine sx_bi (v := 8) hm dX2_init_34 (by decide) ?_
  replace hf := mx_gd_el hf; obtain ⟨c10, hf⟩ := hf
  replace hf := mx_sv_el hf; obtain ⟨u11, e_u11, hf⟩ := hf
  refine sx_na hm dX2_init_36 rfl (Or.inl rfl) c10 e_u11 ?_
  clear e_u11
  replace hf := mx_sv_el hf; obtain ⟨h12, e_h12, hf⟩ := hf
  refine sx_put hm dX2_init_38 rs_RX2_27 ft_2_5 ⟨rfl, rfl⟩ (fun _ => ⟨rfl, rfl⟩) e_h12 ?_
  clear e_h12
  refine mx_S.pu (pc2 := 42) (lv2 := [(0, .ref a0), (1, .ref a1)]) (st2 := [.ref a0]) hm dX2_init_41 rfl ?_
  refine sx_bi (v := 96) hm dX2_init_42 (by decide) ?_
  replace hf := mx_gd_el hf; obtain ⟨c13, hf⟩ := hf
  replace hf := mx_sv_el hf; obtain ⟨u14, e_u14, hf⟩ := hf
  refine sx_na hm dX2_init_44 rfl (Or.inl rfl) c13 e_u14 ?_
  clear e_u14
  replace hf := mx_sv_el hf; obtain ⟨h15, e_h15, hf⟩ := hf
  refine sx_put hm dX2_init_46 rs_RX2_30 ft_2_6 ⟨rfl, rfl⟩ (fun _ => ⟨rfl, rfl⟩) e_h15 ?_
  clear e_h15
  refine mx_S.pu (pc2 := 50) (lv2 := [(0, .ref a0), (1, .ref a1)]) (st2 := [.ref a0]) hm dX2_init_49 rfl ?_
  refine sx_bi (v := 96) hm dX2_init_50 (by decide) ?_
  replace hf := mx_gd_el hf; obtain ⟨c16, hf⟩ := hf
  replace hf := mx_sv_el hf; obtain ⟨u17, e_u17, hf⟩ := hf
  refine sx_na hm dX2_init_52 rfl (Or.inl rfl) c16 e_u17 ?_
  clear e_u17
  replace hf := mx_sv_el hf; obtain ⟨h18, e_h18, hf⟩ := hf
  refine sx_put hm dX2_init_54 rs_RX2_33 ft_2_7 ⟨rfl, rfl⟩ (fun _ => ⟨rfl, rfl⟩) e_h18 ?_
  clear e_h18
  refine mx_S.pu (pc2 := 58) (lv2 := [(0, .ref a0), (1, .ref a1)]) (st2 := [.ref a0]) hm dX2_init_57 rfl ?_
  refine sx_bi (v := 96) hm dX2_init_58 (by decide) ?_
  replace hf := mx_gd_el hf; obtain ⟨c19, hf⟩ := hf
  replace hf := mx_sv_el hf; obtain ⟨u20, e_u20, hf⟩ := hf
  refine sx_na hm dX2_init_60 rfl (Or.inl rfl) c19 e_u20 ?_
  clear e_u20
  replace hf := mx_sv_el hf; obtain ⟨h21, e_h21, hf⟩ := hf
  refine sx_put hm dX2_init_62 rs_RX2_36 ft_2_8 ⟨rfl, rfl⟩ (fun _ => ⟨rfl, rfl⟩) e_h21 ?_
  clear e_h21
  refine mx_S.pu (pc2 := 66) (lv2 := [(0, .ref a0), (1, .ref a1)]) (st2 := [.ref a0]) hm dX2_init_65 rfl ?_
  refine sx_bi (v := 8) hm dX2_init_66 (by decide) ?_
  replace hf := mx_gd_el hf; obtain ⟨c22, hf⟩ := hf
  replace hf := mx_sv_el hf; obtain ⟨u23, e_u23, hf⟩ := hf
  refine sx_na hm dX2_init_68 rfl (Or.inl rfl) c22 e_u23 ?_
  clear e_u23
  replace hf := mx_sv_el hf; obtain ⟨h24, e_h24, hf⟩ := hf
  refine sx_put hm dX2_init_70 rs_RX2_39 ft_2_9 ⟨rfl, rfl⟩ (fun _ => ⟨rfl, rfl⟩) e_h24 ?_
  clear e_h24
  refine mx_S.pu (pc2 := 74) (lv2 := [(0, .ref a0), (1, .ref a1)]) (st2 := [.ref a0]) hm dX2_init_73 rfl ?_
  refine sx_bi (v := 96) hm dX2_init_74 (by decide) ?_
  replace hf := mx_gd_el hf; obtain ⟨c25, hf⟩ := hf
  replace hf := mx_sv_el hf; obtain ⟨u26, e_u26, hf⟩ := hf
  refine sx_na hm dX2_init_76 rfl (Or.inl rfl) c25 e_u26 ?_
  clear e_u26
  replace hf := mx_sv_el hf; obtain ⟨h27, e_h27, hf⟩ := hf
  refine sx_put hm dX2_init_78 rs_RX2_42 ft_2_10 ⟨rfl, rfl⟩ (fun _ => ⟨rfl, rfl⟩) e_h27 ?_
  clear e_h27
  refine mx_S.pu (pc2 := 82) (lv2 := [(0, .ref a0), (1, .ref a1)]) (st2 := [.ref a0]) hm dX2_init_81 rfl ?_
  refine sx_bi (v := 96) hm dX2_init_82 (by decide) ?_
  replace hf := mx_gd_el hf; obtain ⟨c28, hf⟩ := hf
  replace hf := mx_sv_el hf; obtain ⟨u29, e_u29, hf⟩ := hf
  refine sx_na hm dX2_init_84 rfl (Or.inl rfl) c28 e_u29 ?_
  clear e_u29
  replace hf := mx_sv_el hf; obtain ⟨h30, e_h30, hf⟩ := hf
  refine sx_put hm dX2_init_86 rs_RX2_45 ft_2_11 ⟨rfl, rfl⟩ (fun _ => ⟨rfl, rfl⟩) e_h30 ?_
  clear e_h30
  refine mx_S.pu (pc2 := 90) (lv2 := [(0, .ref a0), (1, .ref a1)]) (st2 := [.ref a0]) hm dX2_init_89 rfl ?_
  refine sx_bi (v := 96) hm dX2_init_90 (by decide) ?_
  replace hf := mx_gd_el hf; obtain ⟨c31, hf⟩ := hf
  replace hf := mx_sv_el hf; obtain ⟨u32, e_u32, hf⟩ := hf
  refine sx_na hm dX2_init_92 rfl (Or.inl rfl) c31 e_u32 ?_
  clear e_u32
  replace hf := mx_sv_el hf; obtain ⟨h33, e_h33, hf⟩ := hf
  refine sx_put hm dX2_init_94 rs_RX2_48 ft_2_12 ⟨rfl, rfl⟩ (fun _ => ⟨rfl, rfl⟩) e_h33 ?_
  clear e_h33
  refine mx_S.pu (pc2 := 98) (lv2 := [(0, .ref a0), (1, .ref a1)]) (st2 := [.ref a0]) hm dX2_init_97 rfl ?_
  refine sx_bi (v := 96) hm dX2_init_98 (by decide) ?_
  replace hf := mx_gd_el hf; obtain ⟨c34, hf⟩ := hf
  replace hf := mx_sv_el hf; obtain ⟨u35, e_u35, hf⟩ := hf
  refine sx_na hm dX2_init_100 rfl (Or.inr (Or.inr rfl)) c34 e_u35 ?_
  clear e_u35
  replace hf := mx_sv_el hf; obtain ⟨h36, e_h36, hf⟩ := hf
  refine sx_put hm dX2_init_102 rs_RX2_51 ft_2_13 ⟨rfl, rfl⟩ (fun _ => ⟨rfl, rfl⟩) e_h36 ?_
  clear e_h36
  refine mx_S.pu (pc2 := 106) (lv2 := [(0, .ref a0), (1, .ref a1)]) (st2 := [.ref a0]) hm dX2_init_105 rfl ?_
  refine sx_bi (v := 96) hm dX2_init_106 (by decide) ?_
  replace hf := mx_gd_el hf; obtain ⟨c37, hf⟩ := hf
  replace hf := mx_sv_el hf; obtain ⟨u38, e_u38, hf⟩ := hf
  refine sx_na hm dX2_init_108 rfl (Or.inl rfl) c37 e_u38 ?_
  clear e_u38
  replace hf := mx_sv_el hf; obtain ⟨h39, e_h39, hf⟩ := hf
  refine sx_put hm dX2_init_110 rs_RX2_55 ft_2_14 ⟨rfl, rfl⟩ (fun _ => ⟨rfl, rfl⟩) e_h39 ?_
  clear e_h39
  refine mx_S.pu (pc2 := 114) (lv2 := [(0, .ref a0), (1, .ref a1)]) (st2 := [.ref a0]) hm dX2_init_113 rfl ?_
  refine sx_bi (v := 96) hm dX2_init_114 (by decide) ?_
  replace hf := mx_gd_el hf; obtain ⟨c40, hf⟩ := hf
  replace hf := mx_sv_el hf; obtain ⟨u41, e_u41, hf⟩ := hf
  refine sx_na hm dX2_init_116 rfl (Or.inl rfl) c40 e_u41 ?_
  clear e_u41
  replace hf := mx_sv_el hf; obtain ⟨h42, e_h42, hf⟩ := hf
  refine sx_put hm dX2_init_118 rs_RX2_58 ft_2_15 ⟨rfl, rfl⟩ (fun _ => ⟨rfl, rfl⟩) e_h42 ?_
  clear e_h42
  refine mx_S.pu (pc2 := 122) (lv2 := [(0, .ref a0), (1, .ref a1)]) (st2 := [.ref a0]) hm dX2_init_121 rfl ?_
  refine sx_si (v := 576) hm dX2_init_122 (by decide) ?_
  replace hf := mx_gd_el hf; obtain ⟨c43, hf⟩ := hf
  replace hf := mx_sv_el hf; obtain ⟨u44, e_u44, hf⟩ := hf
  refine sx_na hm dX2_init_125 rfl (Or.inl rfl) c43 e_u44 ?_
  clear e_u44
  replace hf := mx_sv_el hf; obtain ⟨h45, e_h45, hf⟩ := hf
  refine sx_put hm dX2_init_127 rs_RX2_61 ft_2_16 ⟨rfl, rfl⟩ (fun _ => ⟨rfl, rfl⟩) e_h45 ?_
  clear e_h45
  refine mx_S.pu (pc2 := 131) (lv2 := [(0, .ref a0), (1, .ref a1)]) (st2 := [.ref a0]) hm dX2_init_130 rfl ?_
  refine sx_si (v := 576) hm dX2_init_131 (by decide) ?_
  replace hf := mx_gd_el hf; obtain ⟨c46, hf⟩ := hf
  replace hf := mx_sv_el hf; obtain ⟨u47, e_u47, hf⟩ := hf
  refine sx_na hm dX2_init_134 rfl (Or.inl rfl) c46 e_u47 ?_
  clear e_u47
  replace hf := mx_sv_el hf; obtain ⟨h48, e_h48, hf⟩ := hf
  refine sx_put hm dX2_init_136 rs_RX2_64 ft_2_17 ⟨rfl, rfl⟩ (fun _ => ⟨rfl, rfl⟩) e_h48 ?_
  clear e_h48
  refine mx_S.pu (pc2 := 140) (lv2 := [(0, .ref a0), (1, .ref a1)]) (st2 := [.ref a0]) hm dX2_init_139 rfl ?_
  refine sx_bi (v := 32) hm dX2_init_140 (by decide) ?_
  replace hf := mx_gd_el hf; obtain ⟨c49, hf⟩ := hf
  replace hf := mx_sv_el hf; obtain ⟨u50, e_u50, hf⟩ := hf
  refine sx_na hm dX2_init_142 rfl (Or.inl rfl) c49 e_u50 ?_
  clear e_u50
  replace hf := mx_sv_el hf; obtain ⟨h51, e_h51, hf⟩ := hf
  refine sx_put hm dX2_init_144 rs_RX2_67 ft_2_18 ⟨rfl, rfl⟩ (fun _ => ⟨rfl, rfl⟩) e_h51 ?_
  clear e_h51
  refine mx_S.pu (pc2 := 148) (lv2 := [(0, .ref a0), (1, .ref a1)]) (st2 := [.ref a0]) hm dX2_init_147 rfl ?_
  refine sx_si (v := 128) hm dX2_init_148 (by decide) ?_
  replace hf := mx_gd_el hf; obtain ⟨c52, hf⟩ := hf
  replace hf := mx_sv_el hf; obtain ⟨u53, e_u53, hf⟩ := hf
  refine sx_na hm dX2_init_151 rfl (Or.inr (Or.inl rfl)) c52 e_u53 ?_
  clear e_u53
  replace hf := mx_sv_el hf; obtain ⟨h54, e_h54, hf⟩ := hf
  refine sx_put hm dX2_init_153 rs_RX2_70 ft_2_19 ⟨rfl, rfl⟩ (fun _ => ⟨rfl, rfl⟩) e_h54 ?_
  clear e_h54
  refine mx_S.pu (pc2 := 157) (lv2 := [(0, .ref a0), (1, .ref a1)]) (st2 := [.ref a0]) hm dX2_init_156 rfl ?_
  refine mx_S.pu (pc2 := 158) (lv2 := [(0, .ref a0), (1, .ref a1)]) (st2 := [.ref a1, .ref a0]) hm dX2_init_157 rfl ?_
  replace hf := mx_sv_el hf; obtain ⟨h55, e_h55, hf⟩ := hf
  refine sx_put hm dX2_init_158 rs_RX2_74 ft_2_0 ⟨rfl, rfl⟩ (fun _ => ⟨rfl, rfl⟩) e_h55 ?_
  clear e_h55
  cases hf
  exact sx_ret hm dX2_init_161 rfl
