set_option maxHeartbeats 4000000 in
set_option maxRecDepth 20000 in
theorem f_X5_init_ok (X : Nat × (Nat → Int32)) {F L : Nat} (hF : 2 ≤ F) (hL : 80 ≤ L) (nn : Nat) (a0 : Nat) (a1 : Nat) (h : mx_H) {r : (mx_H × Nat × Nat)} (hf : f_X5_init nn a0 a1 h = some r) : mx_R X F L 142 [.ref a0, .ref a1] h (none, r.1, r.2.1, r.2.2) := by
  have hm : mx_mt 142 = some (yX5_init, cX5_init, 2, none) := mt_X5_init
  show mx_S X F L 142 0 [(0, .ref a0), (1, .ref a1)] [] h 0 0 (none, r.1, r.2.1, r.2.2)
  unfold f_X5_init at hf
  refine mx_S.pu (pc2 := 1) (lv2 := [(0, .ref a0), (1, .ref a1)]) (st2 := [.ref a0]) hm dX5_init_0 rfl ?_
  refine sx_oi hm dX5_init_1 rs_RX5_5 (by omega) (Nat.le_trans (Nat.le_of_ble_eq_true rfl : _ ≤ 60) (by omega)) ?_
  refine mx_S.pu (pc2 := 5) (lv2 := [(0, .ref a0), (1, .ref a1)]) (st2 := [.ref a0]) hm dX5_init_4 rfl ?_
  refine sx_si (v := 1000) hm dX5_init_5 (by decide) ?_
  replace hf := mx_gd_el hf; obtain ⟨c1, hf⟩ := hf
  replace hf := mx_sv_el hf; obtain ⟨u2, e_u2, hf⟩ := hf
  refine sx_na hm dX5_init_8 rfl (Or.inl rfl) c1 e_u2 ?_
  clear e_u2
  replace hf := mx_sv_el hf; obtain ⟨h3, e_h3, hf⟩ := hf
  refine sx_put hm dX5_init_10 rs_RX5_13 ft_5_8 ⟨rfl, rfl⟩ (fun _ => ⟨rfl, rfl⟩) e_h3 ?_
  clear e_h3
  refine mx_S.pu (pc2 := 14) (lv2 := [(0, .ref a0), (1, .ref a1)]) (st2 := [.ref a0]) hm dX5_init_13 rfl ?_
  refine sx_si (v := 2001) hm dX5_init_14 (by decide) ?_
  replace hf := mx_gd_el hf; obtain ⟨c4, hf⟩ := hf
  replace hf := mx_sv_el hf; obtain ⟨u5, e_u5, hf⟩ := hf
  refine sx_na hm dX5_init_17 rfl (Or.inl rfl) c4 e_u5 ?_
  clear e_u5
  replace hf := mx_sv_el hf; obtain ⟨h6, e_h6, hf⟩ := hf
  refine sx_put hm dX5_init_19 rs_RX5_17 ft_5_9 ⟨rfl, rfl⟩ (fun _ => ⟨rfl, rfl⟩) e_h6 ?_
  clear e_h6
  refine mx_S.pu (pc2 := 23) (lv2 := [(0, .ref a0), (1, .ref a1)]) (st2 := [.ref a0]) hm dX5_init_22 rfl ?_
  refine sx_si (v := 2002) hm dX5_init_23 (by decide) ?_
  replace hf := mx_gd_el hf; obtain ⟨c7, hf⟩ := hf
  replace hf := mx_sv_el hf; obtain ⟨u8, e_u8, hf⟩ := hf
  refine sx_na hm dX5_init_26 rfl (Or.inl rfl) c7 e_u8 ?_
  clear e_u8
  replace hf := mx_sv_el hf; obtain ⟨h9, e_h9, hf⟩ := hf
  refine sx_put hm dX5_init_28 rs_RX5_20 ft_5_10 ⟨rfl, rfl⟩ (fun _ => ⟨rfl, rfl⟩) e_h9 ?_
  clear e_h9
  refine mx_S.pu (pc2 := 32) (lv2 := [(0, .ref a0), (1, .ref a1)]) (st2 := [.ref a0]) hm dX5_init_31 rfl ?_
  refine sx_si (v := 20000) hm dX5_init_32 (by decide) ?_
  replace hf := mx_gd_el hf; obtain ⟨c10, hf⟩ := hf
  replace hf := mx_sv_el hf; obtain ⟨u11, e_u11, hf⟩ := hf
  refine sx_na hm dX5_init_35 rfl (Or.inl rfl) c10 e_u11 ?_
  clear e_u11
  replace hf := mx_sv_el hf; obtain ⟨h12, e_h12, hf⟩ := hf
  refine sx_put hm dX5_init_37 rs_RX5_23 ft_5_11 ⟨rfl, rfl⟩ (fun _ => ⟨rfl, rfl⟩) e_h12 ?_
  clear e_h12
  refine mx_S.pu (pc2 := 41) (lv2 := [(0, .ref a0), (1, .ref a1)]) (st2 := [.ref a0]) hm dX5_init_40 rfl ?_
  refine sx_bi (v := 60) hm dX5_init_41 (by decide) ?_
  replace hf := mx_gd_el hf; obtain ⟨c13, hf⟩ := hf
  replace hf := mx_sv_el hf; obtain ⟨u14, e_u14, hf⟩ := hf
  refine sx_na hm dX5_init_43 rfl (Or.inl rfl) c13 e_u14 ?_
  clear e_u14
  replace hf := mx_sv_el hf; obtain ⟨h15, e_h15, hf⟩ := hf
  refine sx_put hm dX5_init_45 rs_RX5_26 ft_5_12 ⟨rfl, rfl⟩ (fun _ => ⟨rfl, rfl⟩) e_h15 ?_
  clear e_h15
  refine mx_S.pu (pc2 := 49) (lv2 := [(0, .ref a0), (1, .ref a1)]) (st2 := [.ref a0]) hm dX5_init_48 rfl ?_
  refine sx_bi (v := 60) hm dX5_init_49 (by decide) ?_
  replace hf := mx_gd_el hf; obtain ⟨c16, hf⟩ := hf
  replace hf := mx_sv_el hf; obtain ⟨u17, e_u17, hf⟩ := hf
  refine sx_na hm dX5_init_51 rfl (Or.inl rfl) c16 e_u17 ?_
  clear e_u17
  replace hf := mx_sv_el hf; obtain ⟨h18, e_h18, hf⟩ := hf
  refine sx_put hm dX5_init_53 rs_RX5_29 ft_5_13 ⟨rfl, rfl⟩ (fun _ => ⟨rfl, rfl⟩) e_h18 ?_
  clear e_h18
  refine mx_S.pu (pc2 := 57) (lv2 := [(0, .ref a0), (1, .ref a1)]) (st2 := [.ref a0]) hm dX5_init_56 rfl ?_
  refine sx_bi (v := 60) hm dX5_init_57 (by decide) ?_
  replace hf := mx_gd_el hf; obtain ⟨c19, hf⟩ := hf
  replace hf := mx_sv_el hf; obtain ⟨u20, e_u20, hf⟩ := hf
  refine sx_na hm dX5_init_59 rfl (Or.inl rfl) c19 e_u20 ?_
  clear e_u20
  replace hf := mx_sv_el hf; obtain ⟨h21, e_h21, hf⟩ := hf
  refine sx_put hm dX5_init_61 rs_RX5_32 ft_5_14 ⟨rfl, rfl⟩ (fun _ => ⟨rfl, rfl⟩) e_h21 ?_
  clear e_h21
  refine mx_S.pu (pc2 := 65) (lv2 := [(0, .ref a0), (1, .ref a1)]) (st2 := [.ref a0]) hm dX5_init_64 rfl ?_
  refine sx_si (v := 1800) hm dX5_init_65 (by decide) ?_
  replace hf := mx_gd_el hf; obtain ⟨c22, hf⟩ := hf
  replace hf := mx_sv_el hf; obtain ⟨u23, e_u23, hf⟩ := hf
  refine sx_na hm dX5_init_68 rfl (Or.inl rfl) c22 e_u23 ?_
  clear e_u23
  replace hf := mx_sv_el hf; obtain ⟨h24, e_h24, hf⟩ := hf
  refine sx_put hm dX5_init_70 rs_RX5_35 ft_5_15 ⟨rfl, rfl⟩ (fun _ => ⟨rfl, rfl⟩) e_h24 ?_
  clear e_h24
  refine mx_S.pu (pc2 := 74) (lv2 := [(0, .ref a0), (1, .ref a1)]) (st2 := [.ref a0]) hm dX5_init_73 rfl ?_
  refine sx_si (v := 1800) hm dX5_init_74 (by decide) ?_
  replace hf := mx_gd_el hf; obtain ⟨c25, hf⟩ := hf
  replace hf := mx_sv_el hf; obtain ⟨u26, e_u26, hf⟩ := hf
  refine sx_na hm dX5_init_77 rfl (Or.inl rfl) c25 e_u26 ?_
  clear e_u26
  replace hf := mx_sv_el hf; obtain ⟨h27, e_h27, hf⟩ := hf
  refine sx_put hm dX5_init_79 rs_RX5_38 ft_5_16 ⟨rfl, rfl⟩ (fun _ => ⟨rfl, rfl⟩) e_h27 ?_
  clear e_h27
  refine mx_S.pu (pc2 := 83) (lv2 := [(0, .ref a0), (1, .ref a1)]) (st2 := [.ref a0]) hm dX5_init_82 rfl ?_
  refine mx_S.pu (pc2 := 84) (lv2 := [(0, .ref a0), (1, .ref a1)]) (st2 := [.ref a1, .ref a0]) hm dX5_init_83 rfl ?_
  replace hf := mx_sv_el hf; obtain ⟨h28, e_h28, hf⟩ := hf
  refine sx_put hm dX5_init_84 rs_RX5_41 ft_5_0 ⟨rfl, rfl⟩ (fun _ => ⟨rfl, rfl⟩) e_h28 ?_
  clear e_h28
  refine mx_S.pu (pc2 := 88) (lv2 := [(0, .ref a0), (1, .ref a1)]) (st2 := [.ref a0]) hm dX5_init_87 rfl ?_
  replace hf := mx_sv_el hf; obtain ⟨u29, e_u29, hf⟩ := hf
  refine sx_no hm dX5_init_88 rs_RX5_1 (dx_3 X) e_u29 ?_
  clear e_u29
  refine mx_S.pu (pc2 := 92) (lv2 := [(0, .ref a0), (1, .ref a1)]) (st2 := [.ref u29.1, .ref u29.1, .ref a0]) hm dX5_init_91 rfl ?_
  replace hf := mx_sv_el hf; obtain ⟨u30, e_u30, hf⟩ := hf
  refine sx_ci hm dX5_init_92 (t := 4) (by decide) rs_RX5_45 mt_X3_init [] [.ref u29.1, .ref a0] (b := u29.1) rfl rfl (Nat.le_of_ble_eq_true rfl) (Nat.le_of_ble_eq_true rfl) (by omega) (by omega) (f_X3_init_ok X (by omega) (by omega) nn u29.1 u29.2 e_u30) ?_
  clear e_u30
  show mx_S X F L 142 95 [(0, .ref a0), (1, .ref a1)] [.ref u29.1, .ref a0] u30.1 (((((((((((0 + 1) + 1) + 1) + 1) + 1) + 1) + 1) + 1) + 1) + 1) + u30.2.1) (((((((((((0 + (1000 : Int32).toNatClampNeg) + (2001 : Int32).toNatClampNeg) + (2002 : Int32).toNatClampNeg) + (20000 : Int32).toNatClampNeg) + (60 : Int32).toNatClampNeg) + (60 : Int32).toNatClampNeg) + (60 : Int32).toNatClampNeg) + (1800 : Int32).toNatClampNeg) + (1800 : Int32).toNatClampNeg) + 14) + u30.2.2) (none, r.1, r.2.1, r.2.2)
  replace hf := mx_sv_el hf; obtain ⟨h31, e_h31, hf⟩ := hf
  refine sx_put hm dX5_init_95 rs_RX5_46 ft_5_18 ⟨rfl, rfl⟩ (fun z => by cases z) e_h31 ?_
  clear e_h31
  refine mx_S.pu (pc2 := 99) (lv2 := [(0, .ref a0), (1, .ref a1)]) (st2 := [.ref a0]) hm dX5_init_98 rfl ?_
  refine sx_ic (v := (-1)) hm dX5_init_99 (by decide) ?_
  replace hf := mx_sv_el hf; obtain ⟨h32, e_h32, hf⟩ := hf
  refine sx_put hm dX5_init_100 rs_RX5_50 ft_5_2 ⟨rfl, rfl⟩ (fun z => by cases z) e_h32 ?_
  clear e_h32
  cases hf
  exact sx_ret hm dX5_init_103 rfl
set_option maxHeartbeats 4000000 in
set_option maxRecDepth 20000 in
theorem w_X7_init_63_ok (X : Nat × (Nat → Int32)) {F L : Nat} (hF : 3 ≤ F) (hL : 80 ≤ L) (nn : Nat) : ∀ (k : Nat) (l0 : Nat) (l1 : Int32) (h : mx_H) (c : Nat) (s : Nat) (r : (mx_H × Nat × Nat)), w_X7_init_63 nn k l0 l1 h c s = some r → mx_S X F L 196 63 [(0, .ref l0), (1, .int l1)] [] h c s (none, r.1, r.2.1, r.2.2) := by
  have hm : mx_mt 196 = some (yX7_init, cX7_init, 2, none) := mt_X7_init
  intro k
  induction k with
  | zero => intro l0 l1 h c s r hf; cases hf
  | succ k ih =>
    intro l0 l1 h c s r hf
    unfold w_X7_init_63 at hf
    refine mx_S.pu (pc2 := 64) (lv2 := [(0, .ref l0), (1, .int l1)]) (st2 := [.int l1]) hm dX7_init_63 rfl ?_
    refine sx_bi (v := 8) hm dX7_init_64 (by decide) ?_
    rcases mx_if_el hf with ⟨c6, hf⟩ | ⟨c6, hf⟩
    · refine sb_ic_ge hm dX7_init_66 (tgt := 88) rfl (fun _ => ?_) (fun z => absurd c6 z)
      cases hf
      exact sx_ret hm dX7_init_88 rfl
    · refine sb_ic_ge hm dX7_init_66 (tgt := 88) rfl (fun z => absurd z c6) (fun _ => ?_)
      refine mx_S.pu (pc2 := 70) (lv2 := [(0, .ref l0), (1, .int l1)]) (st2 := [.ref l0]) hm dX7_init_69 rfl ?_
      replace hf := mx_sv_el hf; obtain ⟨v1, e_v1, hf⟩ := hf
      refine sx_get hm dX7_init_70 rs_RX7_22 (xgr_el e_v1) ?_
      clear e_v1
      refine mx_S.pu (pc2 := 74) (lv2 := [(0, .ref l0), (1, .int l1)]) (st2 := [.int l1, .ref v1]) hm dX7_init_73 rfl ?_
      replace hf := mx_sv_el hf; obtain ⟨u2, e_u2, hf⟩ := hf
      refine sx_no hm dX7_init_74 rs_RX7_20 (dx_3 X) e_u2 ?_
      clear e_u2
      refine mx_S.pu (pc2 := 78) (lv2 := [(0, .ref l0), (1, .int l1)]) (st2 := [.ref u2.1, .ref u2.1, .int l1, .ref v1]) hm dX7_init_77 rfl ?_
      replace hf := mx_sv_el hf; obtain ⟨u3, e_u3, hf⟩ := hf
      refine sx_ci hm dX7_init_78 (t := 4) (by decide) rs_RX7_26 mt_X3_init [] [.ref u2.1, .int l1, .ref v1] (b := u2.1) rfl rfl (Nat.le_of_ble_eq_true rfl) (Nat.le_of_ble_eq_true rfl) (by omega) (by omega) (f_X3_init_ok X (by omega) (by omega) nn u2.1 u2.2 e_u3) ?_
      clear e_u3
      show mx_S X F L 196 81 [(0, .ref l0), (1, .int l1)] [.ref u2.1, .int l1, .ref v1] u3.1 ((c + 1) + u3.2.1) ((s + 14) + u3.2.2) (none, r.1, r.2.1, r.2.2)
      replace hf := mx_sv_el hf; obtain ⟨h4, e_h4, hf⟩ := hf
      refine sx_qst (x := (some u2.1)) hm dX7_init_81 e_h4 ?_
      clear e_h4
      replace hf := xl_el hf; obtain ⟨v5, e_v5, hf⟩ := hf
      refine mx_S.pu (pc2 := 85) (lv2 := [(1, .int v5), (0, .ref l0)]) (st2 := []) hm dX7_init_82 (by rw [← e_v5]; rfl) ?_
      clear e_v5
      refine mx_S.pu (pc2 := 63) (lv2 := [(1, .int v5), (0, .ref l0)]) (st2 := []) hm dX7_init_85 rfl ?_
      refine mx_S.ext [(0, .ref l0), (1, .int v5)] (mx_sub_pos [1, 0] rfl (show ([1, 0] : List Nat).Nodup by decide)) ?_
      exact ih l0 v5 h4 ((c + 1) + u3.2.1) ((s + 14) + u3.2.2) _ hf
set_option maxHeartbeats 4000000 in
set_option maxRecDepth 20000 in
theorem f_X7_init_ok (X : Nat × (Nat → Int32)) {F L : Nat} (hF : 3 ≤ F) (hL : 80 ≤ L) (nn : Nat) (a0 : Nat) (h : mx_H) {r : (mx_H × Nat × Nat)} (hf : f_X7_init nn a0 h = some r) : mx_R X F L 196 [.ref a0] h (none, r.1, r.2.1, r.2.2) := by
  have hm : mx_mt 196 = some (yX7_init, cX7_init, 2, none) := mt_X7_init
  show mx_S X F L 196 0 [(0, .ref a0)] [] h 0 0 (none, r.1, r.2.1, r.2.2)
  unfold f_X7_init at hf
  refine mx_S.pu (pc2 := 1) (lv2 := [(0, .ref a0)]) (st2 := [.ref a0]) hm dX7_init_0 rfl ?_
  refine sx_oi hm dX7_init_1 rs_RX7_7 (by omega) (Nat.le_trans (Nat.le_of_ble_eq_true rfl : _ ≤ 60) (by omega)) ?_
  refine mx_S.pu (pc2 := 5) (lv2 := [(0, .ref a0)]) (st2 := [.ref a0]) hm dX7_init_4 rfl ?_
  replace hf := mx_sv_el hf; obtain ⟨u7, e_u7, hf⟩ := hf
  refine sx_no hm dX7_init_5 rs_RX7_13 (dx_4 X) e_u7 ?_
  clear e_u7
  refine mx_S.pu (pc2 := 9) (lv2 := [(0, .ref a0)]) (st2 := [.ref u7.1, .ref u7.1, .ref a0]) hm dX7_init_8 rfl ?_
  replace hf := mx_sv_el hf; obtain ⟨u8, e_u8, hf⟩ := hf
  refine sx_ci hm dX7_init_9 (t := 3) (by decide) rs_RX7_15 mt_X4_init [] [.ref u7.1, .ref a0] (b := u7.1) rfl rfl (Nat.le_of_ble_eq_true rfl) (Nat.le_of_ble_eq_true rfl) (by omega) (by omega) (f_X4_init_ok X (by omega) (by omega) nn u7.1 u7.2 e_u8) ?_
  clear e_u8
  show mx_S X F L 196 12 [(0, .ref a0)] [.ref u7.1, .ref a0] u8.1 ((0 + 1) + u8.2.1) ((0 + 2) + u8.2.2) (none, r.1, r.2.1, r.2.2)
  replace hf := mx_sv_el hf; obtain ⟨h9, e_h9, hf⟩ := hf
  refine sx_put hm dX7_init_12 rs_RX7_16 ft_7_0 ⟨rfl, rfl⟩ (fun _ => ⟨rfl, rfl⟩) e_h9 ?_
  clear e_h9
  refine mx_S.pu (pc2 := 16) (lv2 := [(0, .ref a0)]) (st2 := [.ref a0]) hm dX7_init_15 rfl ?_
  refine sx_bi (v := 8) hm dX7_init_16 (by decide) ?_
  replace hf := mx_gd_el hf; obtain ⟨c10, hf⟩ := hf
  replace hf := mx_sv_el hf; obtain ⟨u11, e_u11, hf⟩ := hf
  refine sx_nq hm dX7_init_18 rs_RX7_100020 (C := RX3) rfl c10 e_u11 ?_
  clear e_u11
  replace hf := mx_sv_el hf; obtain ⟨h12, e_h12, hf⟩ := hf
  refine sx_put hm dX7_init_21 rs_RX7_22 ft_7_1 ⟨rfl, rfl⟩ (fun _ => ⟨rfl, rfl⟩) e_h12 ?_
  clear e_h12
  refine mx_S.pu (pc2 := 25) (lv2 := [(0, .ref a0)]) (st2 := [.ref a0]) hm dX7_init_24 rfl ?_
  replace hf := mx_sv_el hf; obtain ⟨u13, e_u13, hf⟩ := hf
  refine sx_no hm dX7_init_25 rs_RX7_20 (dx_3 X) e_u13 ?_
  clear e_u13
  refine mx_S.pu (pc2 := 29) (lv2 := [(0, .ref a0)]) (st2 := [.ref u13.1, .ref u13.1, .ref a0]) hm dX7_init_28 rfl ?_
  replace hf := mx_sv_el hf; obtain ⟨u14, e_u14, hf⟩ := hf
  refine sx_ci hm dX7_init_29 (t := 4) (by decide) rs_RX7_26 mt_X3_init [] [.ref u13.1, .ref a0] (b := u13.1) rfl rfl (Nat.le_of_ble_eq_true rfl) (Nat.le_of_ble_eq_true rfl) (by omega) (by omega) (f_X3_init_ok X (by omega) (by omega) nn u13.1 u13.2 e_u14) ?_
  clear e_u14
  show mx_S X F L 196 32 [(0, .ref a0)] [.ref u13.1, .ref a0] u14.1 (((((0 + 1) + u8.2.1) + 1) + 1) + u14.2.1) (((((0 + 2) + u8.2.2) + (8 : Int32).toNatClampNeg) + 14) + u14.2.2) (none, r.1, r.2.1, r.2.2)
  replace hf := mx_sv_el hf; obtain ⟨h15, e_h15, hf⟩ := hf
  refine sx_put hm dX7_init_32 rs_RX7_27 ft_7_2 ⟨rfl, rfl⟩ (fun z => by cases z) e_h15 ?_
  clear e_h15
  refine mx_S.pu (pc2 := 36) (lv2 := [(0, .ref a0)]) (st2 := [.ref a0]) hm dX7_init_35 rfl ?_
  refine sx_si (v := 2048) hm dX7_init_36 (by decide) ?_
  replace hf := mx_gd_el hf; obtain ⟨c16, hf⟩ := hf
  replace hf := mx_sv_el hf; obtain ⟨u17, e_u17, hf⟩ := hf
  refine sx_na hm dX7_init_39 rfl (Or.inl rfl) c16 e_u17 ?_
  clear e_u17
  replace hf := mx_sv_el hf; obtain ⟨h18, e_h18, hf⟩ := hf
  refine sx_put hm dX7_init_41 rs_RX7_31 ft_7_5 ⟨rfl, rfl⟩ (fun _ => ⟨rfl, rfl⟩) e_h18 ?_
  clear e_h18
  refine mx_S.pu (pc2 := 45) (lv2 := [(0, .ref a0)]) (st2 := [.ref a0]) hm dX7_init_44 rfl ?_
  refine sx_bi (v := 16) hm dX7_init_45 (by decide) ?_
  replace hf := mx_gd_el hf; obtain ⟨c19, hf⟩ := hf
  replace hf := mx_sv_el hf; obtain ⟨u20, e_u20, hf⟩ := hf
  refine sx_na hm dX7_init_47 rfl (Or.inl rfl) c19 e_u20 ?_
  clear e_u20
  replace hf := mx_sv_el hf; obtain ⟨h21, e_h21, hf⟩ := hf
  refine sx_put hm dX7_init_49 rs_RX7_35 ft_7_6 ⟨rfl, rfl⟩ (fun _ => ⟨rfl, rfl⟩) e_h21 ?_
  clear e_h21
  refine mx_S.pu (pc2 := 53) (lv2 := [(0, .ref a0)]) (st2 := [.ref a0]) hm dX7_init_52 rfl ?_
  refine sx_si (v := 768) hm dX7_init_53 (by decide) ?_
  replace hf := mx_gd_el hf; obtain ⟨c22, hf⟩ := hf
  replace hf := mx_sv_el hf; obtain ⟨u23, e_u23, hf⟩ := hf
  refine sx_na hm dX7_init_56 rfl (Or.inl rfl) c22 e_u23 ?_
  clear e_u23
  replace hf := mx_sv_el hf; obtain ⟨h24, e_h24, hf⟩ := hf
  refine sx_put hm dX7_init_58 rs_RX7_38 ft_7_7 ⟨rfl, rfl⟩ (fun _ => ⟨rfl, rfl⟩) e_h24 ?_
  clear e_h24
  refine sx_ic (v := 0) hm dX7_init_61 (by decide) ?_
  refine mx_S.pu (pc2 := 63) (lv2 := [(1, .int 0), (0, .ref a0)]) (st2 := []) hm dX7_init_62 rfl ?_
  refine mx_S.ext [(0, .ref a0), (1, .int 0)] (mx_sub_pos [1, 0] rfl (show ([1, 0] : List Nat).Nodup by decide)) ?_
  exact w_X7_init_63_ok X hF hL nn nn a0 0 h24 ((((((((0 + 1) + u8.2.1) + 1) + 1) + u14.2.1) + 1) + 1) + 1) ((((((((0 + 2) + u8.2.2) + (8 : Int32).toNatClampNeg) + 14) + u14.2.2) + (2048 : Int32).toNatClampNeg) + (16 : Int32).toNatClampNeg) + (768 : Int32).toNatClampNeg) _ hf
set_option maxHeartbeats 4000000 in
set_option maxRecDepth 20000 in
theorem f_X8_init_ok (X : Nat × (Nat → Int32)) {F L : Nat} (hF : 1 ≤ F) (hL : 60 ≤ L) (nn : Nat) (a0 : Nat) (a1 : Nat) (a2 : Nat) (h : mx_H) {r : mx_H} (hf : f_X8_init nn a0 a1 a2 h = some r) : mx_R X F L 219 [.ref a0, .ref a1, .ref a2] h (none, r, 0, 0) := by
  have hm : mx_mt 219 = some (yX8_init, cX8_init, 3, none) := mt_X8_init
  show mx_S X F L 219 0 [(0, .ref a0), (1, .ref a1), (2, .ref a2)] [] h 0 0 (none, r, 0, 0)
  unfold f_X8_init at hf
  refine mx_S.pu (pc2 := 1) (lv2 := [(0, .ref a0), (1, .ref a1), (2, .ref a2)]) (st2 := [.ref a0]) hm dX8_init_0 rfl ?_
  refine sx_oi hm dX8_init_1 rs_RX8_1 (by omega) (Nat.le_trans (Nat.le_of_ble_eq_true rfl : _ ≤ 60) (by omega)) ?_
  refine mx_S.pu (pc2 := 5) (lv2 := [(0, .ref a0), (1, .ref a1), (2, .ref a2)]) (st2 := [.ref a0]) hm dX8_init_4 rfl ?_
  refine mx_S.pu (pc2 := 6) (lv2 := [(0, .ref a0), (1, .ref a1), (2, .ref a2)]) (st2 := [.ref a1, .ref a0]) hm dX8_init_5 rfl ?_
  replace hf := mx_sv_el hf; obtain ⟨h1, e_h1, hf⟩ := hf
  refine sx_put hm dX8_init_6 rs_RX8_7 ft_8_0 ⟨rfl, rfl⟩ (fun _ => ⟨rfl, rfl⟩) e_h1 ?_
  clear e_h1
  refine mx_S.pu (pc2 := 10) (lv2 := [(0, .ref a0), (1, .ref a1), (2, .ref a2)]) (st2 := [.ref a0]) hm dX8_init_9 rfl ?_
  refine mx_S.pu (pc2 := 11) (lv2 := [(0, .ref a0), (1, .ref a1), (2, .ref a2)]) (st2 := [.ref a2, .ref a0]) hm dX8_init_10 rfl ?_
  replace hf := mx_sv_el hf; obtain ⟨h2, e_h2, hf⟩ := hf
  refine sx_put hm dX8_init_11 rs_RX8_13 ft_8_1 ⟨rfl, rfl⟩ (fun _ => ⟨rfl, rfl⟩) e_h2 ?_
  clear e_h2
  cases hf
  exact sx_ret hm dX8_init_14 rfl
set_option maxHeartbeats 4000000 in
set_option maxRecDepth 20000 in
theorem w_X9_init_91_ok (X : Nat × (Nat → Int32)) {F L : Nat} (hF : 4 ≤ F) (hL : 85 ≤ L) (nn : Nat) : ∀ (k : Nat) (l0 : Nat) (l1 : Int32) (l2 : Int32) (h : mx_H) (c : Nat) (s : Nat) (r : (mx_H × Nat × Nat)), w_X9_init_91 nn k l0 l1 l2 h c s = some r → mx_S X F L 241 91 [(0, .ref l0), (1, .int l1), (2, .int l2)] [] h c s (none, r.1, r.2.1, r.2.2) := by
  have hm : mx_mt 241 = some (yX9_init, cX9_init, 3, none) := mt_X9_init
  intro k
  induction k with
  | zero => intro l0 l1 l2 h c s r hf; cases hf
  | succ k ih =>
    intro l0 l1 l2 h c s r hf
    unfold w_X9_init_91 at hf
    refine mx_S.pu (pc2 := 92) (lv2 := [(0, .ref l0), (1, .int l1), (2, .int l2)]) (st2 := [.int l2]) hm dX9_init_91 rfl ?_
    refine sx_ldcS hm dX9_init_92 rs_RX9_51 ?_
    replace hf := mx_sv_el hf; obtain ⟨v1, e_v1, hf⟩ := hf
    refine sx_sln hm dX9_init_94 rs_RX9_53 e_v1 (by omega) (by omega) (Nat.le_of_ble_eq_true rfl) ?_
    clear e_v1
    rcases mx_if_el hf with ⟨c16, hf⟩ | ⟨c16, hf⟩
    · refine sb_ic_ge hm dX9_init_97 (tgt := 141) rfl (fun _ => ?_) (fun z => absurd c16 z)
      refine mx_S.pu (pc2 := 142) (lv2 := [(0, .ref l0), (1, .int l1), (2, .int l2)]) (st2 := [.ref l0]) hm dX9_init_141 rfl ?_
      replace hf := mx_sv_el hf; obtain ⟨v2, e_v2, hf⟩ := hf
      refine sx_get hm dX9_init_142 rs_RX9_35 (xgr_el e_v2) ?_
      clear e_v2
      refine sx_ic (v := 0) hm dX9_init_145 (by decide) ?_
      refine mx_S.pu (pc2 := 147) (lv2 := [(0, .ref l0), (1, .int l1), (2, .int l2)]) (st2 := [.ref l0, .int 0, .ref v2]) hm dX9_init_146 rfl ?_
      replace hf := mx_sv_el hf; obtain ⟨v3, e_v3, hf⟩ := hf
      refine sx_get hm dX9_init_147 rs_RX9_38 (xgr_el e_v3) ?_
      clear e_v3
      refine sx_ic (v := 0) hm dX9_init_150 (by decide) ?_
      refine sx_bi (v := 64) hm dX9_init_151 (by decide) ?_
      replace hf := mx_sv_el hf; obtain ⟨h4, e_h4, hf⟩ := hf
      refine sx_copy hm dX9_init_153 rs_RX9_67 e_h4 (by omega) (Nat.le_trans (Nat.le_of_ble_eq_true rfl : _ ≤ 60) (by omega)) ?_
      clear e_h4
      cases hf
      exact sx_ret hm dX9_init_156 rfl
    · refine sb_ic_ge hm dX9_init_97 (tgt := 141) rfl (fun z => absurd z c16) (fun _ => ?_)
      refine sx_ldcS hm dX9_init_100 rs_RX9_51 ?_
      refine mx_S.pu (pc2 := 103) (lv2 := [(0, .ref l0), (1, .int l1), (2, .int l2)]) (st2 := [.int l2, .ref (1000000000 + 0)]) hm dX9_init_102 rfl ?_
      replace hf := mx_sv_el hf; obtain ⟨v5, e_v5, hf⟩ := hf
      refine sx_chr hm dX9_init_103 rs_RX9_59 e_v5 (by omega) (by omega) (Nat.le_of_ble_eq_true rfl) ?_
      clear e_v5
      refine sx_bi (v := 32) hm dX9_init_106 (by decide) ?_
      rcases mx_if_el hf with ⟨c15, hf⟩ | ⟨c15, hf⟩
      · refine sb_ic_ne hm dX9_init_108 (tgt := 119) rfl (fun _ => ?_) (fun z => absurd c15 z)
        refine mx_S.pu (pc2 := 120) (lv2 := [(0, .ref l0), (1, .int l1), (2, .int l2)]) (st2 := [.ref l0]) hm dX9_init_119 rfl ?_
        replace hf := mx_sv_el hf; obtain ⟨v6, e_v6, hf⟩ := hf
        refine sx_get hm dX9_init_120 rs_RX9_25 (xgr_el e_v6) ?_
        clear e_v6
        refine mx_S.pu (pc2 := 124) (lv2 := [(0, .ref l0), (1, .int l1), (2, .int l2)]) (st2 := [.int l1, .ref v6]) hm dX9_init_123 rfl ?_
        refine sx_ldcS hm dX9_init_124 rs_RX9_51 ?_
        refine mx_S.pu (pc2 := 127) (lv2 := [(0, .ref l0), (1, .int l1), (2, .int l2)]) (st2 := [.int l2, .ref (1000000000 + 0), .int l1, .ref v6]) hm dX9_init_126 rfl ?_
        replace hf := mx_sv_el hf; obtain ⟨v7, e_v7, hf⟩ := hf
        refine sx_chr hm dX9_init_127 rs_RX9_59 e_v7 (by omega) (by omega) (Nat.le_of_ble_eq_true rfl) ?_
        clear e_v7
        replace hf := xl_el hf; obtain ⟨v8, e_v8, hf⟩ := hf
        refine mx_S.pu (pc2 := 131) (lv2 := [(0, .ref l0), (1, .int l1), (2, .int l2)]) (st2 := [.int v8, .int l1, .ref v6]) hm dX9_init_130 (by rw [← e_v8]; rfl) ?_
        clear e_v8
        replace hf := mx_sv_el hf; obtain ⟨h9, e_h9, hf⟩ := hf
        refine sx_bst hm dX9_init_131 e_h9 ?_
        clear e_h9
        replace hf := xl_el hf; obtain ⟨v10, e_v10, hf⟩ := hf
        refine mx_S.pu (pc2 := 135) (lv2 := [(1, .int v10), (0, .ref l0), (2, .int l2)]) (st2 := []) hm dX9_init_132 (by rw [← e_v10]; rfl) ?_
        clear e_v10
        replace hf := xl_el hf; obtain ⟨v11, e_v11, hf⟩ := hf
        refine mx_S.pu (pc2 := 138) (lv2 := [(2, .int v11), (1, .int v10), (0, .ref l0)]) (st2 := []) hm dX9_init_135 (by rw [← e_v11]; rfl) ?_
        clear e_v11
        refine mx_S.pu (pc2 := 91) (lv2 := [(2, .int v11), (1, .int v10), (0, .ref l0)]) (st2 := []) hm dX9_init_138 rfl ?_
        refine mx_S.ext [(0, .ref l0), (1, .int v10), (2, .int v11)] (mx_sub_pos [2, 1, 0] rfl (show ([2, 1, 0] : List Nat).Nodup by decide)) ?_
        exact ih l0 v10 v11 h9 c s _ hf
      · refine sb_ic_ne hm dX9_init_108 (tgt := 119) rfl (fun z => absurd z c15) (fun _ => ?_)
        refine mx_S.pu (pc2 := 112) (lv2 := [(0, .ref l0), (1, .int l1), (2, .int l2)]) (st2 := [.ref l0]) hm dX9_init_111 rfl ?_
        refine mx_S.pu (pc2 := 113) (lv2 := [(0, .ref l0), (1, .int l1), (2, .int l2)]) (st2 := [.int l1, .ref l0]) hm dX9_init_112 rfl ?_
        replace hf := mx_gd_el hf; obtain ⟨c12, hf⟩ := hf
        replace hf := mx_sv_el hf; obtain ⟨u13, e_u13, hf⟩ := hf
        refine sx_cv hm dX9_init_113 rs_RX9_63 mt_X9_closeName [.int l1] [] (b := l0) (ci := 9) rfl rfl rfl c12 (Nat.le_of_ble_eq_true rfl) (Nat.le_of_ble_eq_true rfl) (by omega) (by omega) (f_X9_closeName_ok X (by omega) (by omega) nn l0 l1 h e_u13) ?_
        clear e_u13
        show mx_S X F L 241 116 [(0, .ref l0), (1, .int l1), (2, .int l2)] [] u13 c s (none, r.1, r.2.1, r.2.2)
        refine mx_S.pu (pc2 := 135) (lv2 := [(0, .ref l0), (1, .int l1), (2, .int l2)]) (st2 := []) hm dX9_init_116 rfl ?_
        replace hf := xl_el hf; obtain ⟨v14, e_v14, hf⟩ := hf
        refine mx_S.pu (pc2 := 138) (lv2 := [(2, .int v14), (0, .ref l0), (1, .int l1)]) (st2 := []) hm dX9_init_135 (by rw [← e_v14]; rfl) ?_
        clear e_v14
        refine mx_S.pu (pc2 := 91) (lv2 := [(2, .int v14), (0, .ref l0), (1, .int l1)]) (st2 := []) hm dX9_init_138 rfl ?_
        refine mx_S.ext [(0, .ref l0), (1, .int l1), (2, .int v14)] (mx_sub_pos [1, 2, 0] rfl (show ([2, 0, 1] : List Nat).Nodup by decide)) ?_
        exact ih l0 l1 v14 u13 c s _ hf
set_option maxHeartbeats 4000000 in
set_option maxRecDepth 20000 in
theorem f_X9_init_ok (X : Nat × (Nat → Int32)) {F L : Nat} (hF : 4 ≤ F) (hL : 85 ≤ L) (nn : Nat) (a0 : Nat) (h : mx_H) {r : (mx_H × Nat × Nat)} (hf : f_X9_init nn a0 h = some r) : mx_R X F L 241 [.ref a0] h (none, r.1, r.2.1, r.2.2) := by
  have hm : mx_mt 241 = some (yX9_init, cX9_init, 3, none) := mt_X9_init
  show mx_S X F L 241 0 [(0, .ref a0)] [] h 0 0 (none, r.1, r.2.1, r.2.2)
  unfold f_X9_init at hf
  refine mx_S.pu (pc2 := 1) (lv2 := [(0, .ref a0)]) (st2 := [.ref a0]) hm dX9_init_0 rfl ?_
  refine sx_oi hm dX9_init_1 rs_RX9_9 (by omega) (Nat.le_trans (Nat.le_of_ble_eq_true rfl : _ ≤ 60) (by omega)) ?_
  refine mx_S.pu (pc2 := 5) (lv2 := [(0, .ref a0)]) (st2 := [.ref a0]) hm dX9_init_4 rfl ?_
  refine sx_si (v := 3001) hm dX9_init_5 (by decide) ?_
  replace hf := mx_gd_el hf; obtain ⟨c17, hf⟩ := hf
  replace hf := mx_sv_el hf; obtain ⟨u18, e_u18, hf⟩ := hf
  refine sx_na hm dX9_init_8 rfl (Or.inl rfl) c17 e_u18 ?_
  clear e_u18
  replace hf := mx_sv_el hf; obtain ⟨h19, e_h19, hf⟩ := hf
  refine sx_put hm dX9_init_10 rs_RX9_15 ft_9_0 ⟨rfl, rfl⟩ (fun _ => ⟨rfl, rfl⟩) e_h19 ?_
  clear e_h19
  refine mx_S.pu (pc2 := 14) (lv2 := [(0, .ref a0)]) (st2 := [.ref a0]) hm dX9_init_13 rfl ?_
  refine sx_si (v := 3001) hm dX9_init_14 (by decide) ?_
  replace hf := mx_gd_el hf; obtain ⟨c20, hf⟩ := hf
  replace hf := mx_sv_el hf; obtain ⟨u21, e_u21, hf⟩ := hf
  refine sx_na hm dX9_init_17 rfl (Or.inl rfl) c20 e_u21 ?_
  clear e_u21
  replace hf := mx_sv_el hf; obtain ⟨h22, e_h22, hf⟩ := hf
  refine sx_put hm dX9_init_19 rs_RX9_19 ft_9_1 ⟨rfl, rfl⟩ (fun _ => ⟨rfl, rfl⟩) e_h22 ?_
  clear e_h22
  refine mx_S.pu (pc2 := 23) (lv2 := [(0, .ref a0)]) (st2 := [.ref a0]) hm dX9_init_22 rfl ?_
  refine sx_si (v := 3001) hm dX9_init_23 (by decide) ?_
  replace hf := mx_gd_el hf; obtain ⟨c23, hf⟩ := hf
  replace hf := mx_sv_el hf; obtain ⟨u24, e_u24, hf⟩ := hf
  refine sx_na hm dX9_init_26 rfl (Or.inl rfl) c23 e_u24 ?_
  clear e_u24
  replace hf := mx_sv_el hf; obtain ⟨h25, e_h25, hf⟩ := hf
  refine sx_put hm dX9_init_28 rs_RX9_22 ft_9_2 ⟨rfl, rfl⟩ (fun _ => ⟨rfl, rfl⟩) e_h25 ?_
  clear e_h25
  refine mx_S.pu (pc2 := 32) (lv2 := [(0, .ref a0)]) (st2 := [.ref a0]) hm dX9_init_31 rfl ?_
  refine sx_si (v := 6400) hm dX9_init_32 (by decide) ?_
  replace hf := mx_gd_el hf; obtain ⟨c26, hf⟩ := hf
  replace hf := mx_sv_el hf; obtain ⟨u27, e_u27, hf⟩ := hf
  refine sx_na hm dX9_init_35 rfl (Or.inr (Or.inl rfl)) c26 e_u27 ?_
  clear e_u27
  replace hf := mx_sv_el hf; obtain ⟨h28, e_h28, hf⟩ := hf
  refine sx_put hm dX9_init_37 rs_RX9_25 ft_9_4 ⟨rfl, rfl⟩ (fun _ => ⟨rfl, rfl⟩) e_h28 ?_
  clear e_h28
  refine mx_S.pu (pc2 := 41) (lv2 := [(0, .ref a0)]) (st2 := [.ref a0]) hm dX9_init_40 rfl ?_
  refine sx_si (v := 1741) hm dX9_init_41 (by decide) ?_
  replace hf := mx_gd_el hf; obtain ⟨c29, hf⟩ := hf
  replace hf := mx_sv_el hf; obtain ⟨u30, e_u30, hf⟩ := hf
  refine sx_na hm dX9_init_44 rfl (Or.inl rfl) c29 e_u30 ?_
  clear e_u30
  replace hf := mx_sv_el hf; obtain ⟨h31, e_h31, hf⟩ := hf
  refine sx_put hm dX9_init_46 rs_RX9_29 ft_9_5 ⟨rfl, rfl⟩ (fun _ => ⟨rfl, rfl⟩) e_h31 ?_
  clear e_h31
  refine mx_S.pu (pc2 := 50) (lv2 := [(0, .ref a0)]) (st2 := [.ref a0]) hm dX9_init_49 rfl ?_
  refine sx_si (v := 1740) hm dX9_init_50 (by decide) ?_
  replace hf := mx_gd_el hf; obtain ⟨c32, hf⟩ := hf
  replace hf := mx_sv_el hf; obtain ⟨u33, e_u33, hf⟩ := hf
  refine sx_na hm dX9_init_53 rfl (Or.inl rfl) c32 e_u33 ?_
  clear e_u33
  replace hf := mx_sv_el hf; obtain ⟨h34, e_h34, hf⟩ := hf
  refine sx_put hm dX9_init_55 rs_RX9_32 ft_9_6 ⟨rfl, rfl⟩ (fun _ => ⟨rfl, rfl⟩) e_h34 ?_
  clear e_h34
  refine mx_S.pu (pc2 := 59) (lv2 := [(0, .ref a0)]) (st2 := [.ref a0]) hm dX9_init_58 rfl ?_
  refine sx_bi (v := 64) hm dX9_init_59 (by decide) ?_
  replace hf := mx_gd_el hf; obtain ⟨c35, hf⟩ := hf
  replace hf := mx_sv_el hf; obtain ⟨u36, e_u36, hf⟩ := hf
  refine sx_na hm dX9_init_61 rfl (Or.inl rfl) c35 e_u36 ?_
  clear e_u36
  replace hf := mx_sv_el hf; obtain ⟨h37, e_h37, hf⟩ := hf
  refine sx_put hm dX9_init_63 rs_RX9_35 ft_9_7 ⟨rfl, rfl⟩ (fun _ => ⟨rfl, rfl⟩) e_h37 ?_
  clear e_h37
  refine mx_S.pu (pc2 := 67) (lv2 := [(0, .ref a0)]) (st2 := [.ref a0]) hm dX9_init_66 rfl ?_
  refine sx_bi (v := 64) hm dX9_init_67 (by decide) ?_
  replace hf := mx_gd_el hf; obtain ⟨c38, hf⟩ := hf
  replace hf := mx_sv_el hf; obtain ⟨u39, e_u39, hf⟩ := hf
  refine sx_na hm dX9_init_69 rfl (Or.inl rfl) c38 e_u39 ?_
  clear e_u39
  replace hf := mx_sv_el hf; obtain ⟨h40, e_h40, hf⟩ := hf
  refine sx_put hm dX9_init_71 rs_RX9_38 ft_9_8 ⟨rfl, rfl⟩ (fun _ => ⟨rfl, rfl⟩) e_h40 ?_
  clear e_h40
  refine mx_S.pu (pc2 := 75) (lv2 := [(0, .ref a0)]) (st2 := [.ref a0]) hm dX9_init_74 rfl ?_
  refine sx_ic (v := (-1)) hm dX9_init_75 (by decide) ?_
  replace hf := mx_sv_el hf; obtain ⟨h41, e_h41, hf⟩ := hf
  refine sx_put hm dX9_init_76 rs_RX9_41 ft_9_12 ⟨rfl, rfl⟩ (fun z => by cases z) e_h41 ?_
  clear e_h41
  refine mx_S.pu (pc2 := 80) (lv2 := [(0, .ref a0)]) (st2 := [.ref a0]) hm dX9_init_79 rfl ?_
  replace hf := mx_sv_el hf; obtain ⟨v42, e_v42, hf⟩ := hf
  refine sx_get hm dX9_init_80 rs_RX9_35 (xgr_el e_v42) ?_
  clear e_v42
  refine sx_ic (v := (-1)) hm dX9_init_83 (by decide) ?_
  replace hf := mx_sv_el hf; obtain ⟨u43, e_u43, hf⟩ := hf
  refine sx_cs hm dX9_init_84 rs_RX9_45 mt_J7_fill_53178 [.ref v42, .int (-1)] [] rfl rfl (Nat.le_of_ble_eq_true rfl) (Nat.le_of_ble_eq_true rfl) (by omega) (by omega) (f_J7_fill_53178_ok X (by omega) (by omega) nn v42 (-1) h41 e_u43) ?_
  clear e_u43
  show mx_S X F L 241 87 [(0, .ref a0)] [] u43 ((((((((0 + 1) + 1) + 1) + 1) + 1) + 1) + 1) + 1) ((((((((0 + (3001 : Int32).toNatClampNeg) + (3001 : Int32).toNatClampNeg) + (3001 : Int32).toNatClampNeg) + (6400 : Int32).toNatClampNeg) + (1741 : Int32).toNatClampNeg) + (1740 : Int32).toNatClampNeg) + (64 : Int32).toNatClampNeg) + (64 : Int32).toNatClampNeg) (none, r.1, r.2.1, r.2.2)
  refine sx_ic (v := 0) hm dX9_init_87 (by decide) ?_
  refine mx_S.pu (pc2 := 89) (lv2 := [(1, .int 0), (0, .ref a0)]) (st2 := []) hm dX9_init_88 rfl ?_
  refine sx_ic (v := 0) hm dX9_init_89 (by decide) ?_
  refine mx_S.pu (pc2 := 91) (lv2 := [(2, .int 0), (1, .int 0), (0, .ref a0)]) (st2 := []) hm dX9_init_90 rfl ?_
  refine mx_S.ext [(0, .ref a0), (1, .int 0), (2, .int 0)] (mx_sub_pos [2, 1, 0] rfl (show ([2, 1, 0] : List Nat).Nodup by decide)) ?_
  exact w_X9_init_91_ok X hF hL nn nn a0 0 0 u43 ((((((((0 + 1) + 1) + 1) + 1) + 1) + 1) + 1) + 1) ((((((((0 + (3001 : Int32).toNatClampNeg) + (3001 : Int32).toNatClampNeg) + (3001 : Int32).toNatClampNeg) + (6400 : Int32).toNatClampNeg) + (1741 : Int32).toNatClampNeg) + (1740 : Int32).toNatClampNeg) + (64 : Int32).toNatClampNeg) + (64 : Int32).toNatClampNeg) _ hf
set_option maxHeartbeats 4000000 in
set_option maxRecDepth 20000 in
theorem f_X12_init_ok (X : Nat × (Nat → Int32)) {F L : Nat} (hF : 5 ≤ F) (hL : 107 ≤ L) (nn : Nat) (a0 : Nat) (h : mx_H) {r : (mx_H × Nat × Nat)} (hf : f_X12_init nn a0 h = some r) : mx_R X F L 359 [.ref a0] h (none, r.1, r.2.1, r.2.2) := by
  have hm : mx_mt 359 = some (yX12_init, cX12_init, 1, none) := mt_X12_init
  show mx_S X F L 359 0 [(0, .ref a0)] [] h 0 0 (none, r.1, r.2.1, r.2.2)
  unfold f_X12_init at hf
  refine mx_S.pu (pc2 := 1) (lv2 := [(0, .ref a0)]) (st2 := [.ref a0]) hm dX12_init_0 rfl ?_
  refine sx_oi hm dX12_init_1 rs_RX12_1 (by omega) (Nat.le_trans (Nat.le_of_ble_eq_true rfl : _ ≤ 60) (by omega)) ?_
  refine mx_S.pu (pc2 := 5) (lv2 := [(0, .ref a0)]) (st2 := [.ref a0]) hm dX12_init_4 rfl ?_
  refine sx_si (v := 6000) hm dX12_init_5 (by decide) ?_
  replace hf := mx_gd_el hf; obtain ⟨c1, hf⟩ := hf
  replace hf := mx_sv_el hf; obtain ⟨u2, e_u2, hf⟩ := hf
  refine sx_na hm dX12_init_8 rfl (Or.inr (Or.inl rfl)) c1 e_u2 ?_
  clear e_u2
  replace hf := mx_sv_el hf; obtain ⟨h3, e_h3, hf⟩ := hf
  refine sx_put hm dX12_init_10 rs_RX12_9 ft_12_0 ⟨rfl, rfl⟩ (fun _ => ⟨rfl, rfl⟩) e_h3 ?_
  clear e_h3
  refine mx_S.pu (pc2 := 14) (lv2 := [(0, .ref a0)]) (st2 := [.ref a0]) hm dX12_init_13 rfl ?_
  replace hf := mx_sv_el hf; obtain ⟨u4, e_u4, hf⟩ := hf
  refine sx_no hm dX12_init_14 rs_RX12_13 (dx_9 X) e_u4 ?_
  clear e_u4
  refine mx_S.pu (pc2 := 18) (lv2 := [(0, .ref a0)]) (st2 := [.ref u4.1, .ref u4.1, .ref a0]) hm dX12_init_17 rfl ?_
  replace hf := mx_sv_el hf; obtain ⟨u5, e_u5, hf⟩ := hf
  refine sx_ci hm dX12_init_18 (t := 3) (by decide) rs_RX12_15 mt_X9_init [] [.ref u4.1, .ref a0] (b := u4.1) rfl rfl (Nat.le_of_ble_eq_true rfl) (Nat.le_of_ble_eq_true rfl) (by omega) (by omega) (f_X9_init_ok X (by omega) (by omega) nn u4.1 u4.2 e_u5) ?_
  clear e_u5
  show mx_S X F L 359 21 [(0, .ref a0)] [.ref u4.1, .ref a0] u5.1 (((0 + 1) + 1) + u5.2.1) (((0 + (6000 : Int32).toNatClampNeg) + 13) + u5.2.2) (none, r.1, r.2.1, r.2.2)
  replace hf := mx_sv_el hf; obtain ⟨h6, e_h6, hf⟩ := hf
  refine sx_put hm dX12_init_21 rs_RX12_16 ft_12_2 ⟨rfl, rfl⟩ (fun _ => ⟨rfl, rfl⟩) e_h6 ?_
  clear e_h6
  refine mx_S.pu (pc2 := 25) (lv2 := [(0, .ref a0)]) (st2 := [.ref a0]) hm dX12_init_24 rfl ?_
  replace hf := mx_sv_el hf; obtain ⟨u7, e_u7, hf⟩ := hf
  refine sx_no hm dX12_init_25 rs_RX12_20 (dx_2 X) e_u7 ?_
  clear e_u7
  refine mx_S.pu (pc2 := 29) (lv2 := [(0, .ref a0)]) (st2 := [.ref u7.1, .ref u7.1, .ref a0]) hm dX12_init_28 rfl ?_
  refine mx_S.pu (pc2 := 30) (lv2 := [(0, .ref a0)]) (st2 := [.ref a0, .ref u7.1, .ref u7.1, .ref a0]) hm dX12_init_29 rfl ?_
  replace hf := mx_sv_el hf; obtain ⟨v8, e_v8, hf⟩ := hf
  refine sx_get hm dX12_init_30 rs_RX12_16 (xgr_el e_v8) ?_
  clear e_v8
  replace hf := mx_sv_el hf; obtain ⟨u9, e_u9, hf⟩ := hf
  refine sx_ci hm dX12_init_33 (t := 3) (by decide) rs_RX12_22 mt_X2_init [.ref v8] [.ref u7.1, .ref a0] (b := u7.1) rfl rfl (Nat.le_of_ble_eq_true rfl) (Nat.le_of_ble_eq_true rfl) (by omega) (by omega) (f_X2_init_ok X (by omega) (by omega) nn u7.1 v8 u7.2 e_u9) ?_
  clear e_u9
  show mx_S X F L 359 36 [(0, .ref a0)] [.ref u7.1, .ref a0] u9.1 (((((0 + 1) + 1) + u5.2.1) + 1) + u9.2.1) (((((0 + (6000 : Int32).toNatClampNeg) + 13) + u5.2.2) + 21) + u9.2.2) (none, r.1, r.2.1, r.2.2)
  replace hf := mx_sv_el hf; obtain ⟨h10, e_h10, hf⟩ := hf
  refine sx_put hm dX12_init_36 rs_RX12_25 ft_12_4 ⟨rfl, rfl⟩ (fun _ => ⟨rfl, rfl⟩) e_h10 ?_
  clear e_h10
  refine mx_S.pu (pc2 := 40) (lv2 := [(0, .ref a0)]) (st2 := [.ref a0]) hm dX12_init_39 rfl ?_
  replace hf := mx_sv_el hf; obtain ⟨u11, e_u11, hf⟩ := hf
  refine sx_no hm dX12_init_40 rs_RX12_29 (dx_8 X) e_u11 ?_
  clear e_u11
  refine mx_S.pu (pc2 := 44) (lv2 := [(0, .ref a0)]) (st2 := [.ref u11.1, .ref u11.1, .ref a0]) hm dX12_init_43 rfl ?_
  refine mx_S.pu (pc2 := 45) (lv2 := [(0, .ref a0)]) (st2 := [.ref a0, .ref u11.1, .ref u11.1, .ref a0]) hm dX12_init_44 rfl ?_
  replace hf := mx_sv_el hf; obtain ⟨v12, e_v12, hf⟩ := hf
  refine sx_get hm dX12_init_45 rs_RX12_16 (xgr_el e_v12) ?_
  clear e_v12
  refine mx_S.pu (pc2 := 49) (lv2 := [(0, .ref a0)]) (st2 := [.ref a0, .ref v12, .ref u11.1, .ref u11.1, .ref a0]) hm dX12_init_48 rfl ?_
  replace hf := mx_sv_el hf; obtain ⟨v13, e_v13, hf⟩ := hf
  refine sx_get hm dX12_init_49 rs_RX12_25 (xgr_el e_v13) ?_
  clear e_v13
  replace hf := mx_sv_el hf; obtain ⟨u14, e_u14, hf⟩ := hf
  refine sx_ci hm dX12_init_52 (t := 3) (by decide) rs_RX12_31 mt_X8_init [.ref v12, .ref v13] [.ref u11.1, .ref a0] (b := u11.1) rfl rfl (Nat.le_of_ble_eq_true rfl) (Nat.le_of_ble_eq_true rfl) (by omega) (by omega) (f_X8_init_ok X (by omega) (by omega) nn u11.1 v12 v13 u11.2 e_u14) ?_
  clear e_u14
  show mx_S X F L 359 55 [(0, .ref a0)] [.ref u11.1, .ref a0] u14 ((((((0 + 1) + 1) + u5.2.1) + 1) + u9.2.1) + 1) ((((((0 + (6000 : Int32).toNatClampNeg) + 13) + u5.2.2) + 21) + u9.2.2) + 2) (none, r.1, r.2.1, r.2.2)
  replace hf := mx_sv_el hf; obtain ⟨h15, e_h15, hf⟩ := hf
  refine sx_put hm dX12_init_55 rs_RX12_34 ft_12_3 ⟨rfl, rfl⟩ (fun _ => ⟨rfl, rfl⟩) e_h15 ?_
  clear e_h15
  refine mx_S.pu (pc2 := 59) (lv2 := [(0, .ref a0)]) (st2 := [.ref a0]) hm dX12_init_58 rfl ?_
  replace hf := mx_sv_el hf; obtain ⟨u16, e_u16, hf⟩ := hf
  refine sx_no hm dX12_init_59 rs_RX12_38 (dx_0 X) e_u16 ?_
  clear e_u16
  refine mx_S.pu (pc2 := 63) (lv2 := [(0, .ref a0)]) (st2 := [.ref u16.1, .ref u16.1, .ref a0]) hm dX12_init_62 rfl ?_
  refine mx_S.pu (pc2 := 64) (lv2 := [(0, .ref a0)]) (st2 := [.ref a0, .ref u16.1, .ref u16.1, .ref a0]) hm dX12_init_63 rfl ?_
  replace hf := mx_sv_el hf; obtain ⟨v17, e_v17, hf⟩ := hf
  refine sx_get hm dX12_init_64 rs_RX12_16 (xgr_el e_v17) ?_
  clear e_v17
  refine mx_S.pu (pc2 := 68) (lv2 := [(0, .ref a0)]) (st2 := [.ref a0, .ref v17, .ref u16.1, .ref u16.1, .ref a0]) hm dX12_init_67 rfl ?_
  replace hf := mx_sv_el hf; obtain ⟨v18, e_v18, hf⟩ := hf
  refine sx_get hm dX12_init_68 rs_RX12_25 (xgr_el e_v18) ?_
  clear e_v18
  replace hf := mx_sv_el hf; obtain ⟨u19, e_u19, hf⟩ := hf
  refine sx_ci hm dX12_init_71 (t := 3) (by decide) rs_RX12_40 mt_X0_init [.ref v17, .ref v18] [.ref u16.1, .ref a0] (b := u16.1) rfl rfl (Nat.le_of_ble_eq_true rfl) (Nat.le_of_ble_eq_true rfl) (by omega) (by omega) (f_X0_init_ok X (by omega) (by omega) nn u16.1 v17 v18 u16.2 e_u19) ?_
  clear e_u19
  show mx_S X F L 359 74 [(0, .ref a0)] [.ref u16.1, .ref a0] u19.1 ((((((((0 + 1) + 1) + u5.2.1) + 1) + u9.2.1) + 1) + 1) + u19.2.1) ((((((((0 + (6000 : Int32).toNatClampNeg) + 13) + u5.2.2) + 21) + u9.2.2) + 2) + 13) + u19.2.2) (none, r.1, r.2.1, r.2.2)
  replace hf := mx_sv_el hf; obtain ⟨h20, e_h20, hf⟩ := hf
  refine sx_put hm dX12_init_74 rs_RX12_41 ft_12_5 ⟨rfl, rfl⟩ (fun _ => ⟨rfl, rfl⟩) e_h20 ?_
  clear e_h20
  refine mx_S.pu (pc2 := 78) (lv2 := [(0, .ref a0)]) (st2 := [.ref a0]) hm dX12_init_77 rfl ?_
  refine sx_bi (v := 8) hm dX12_init_78 (by decide) ?_
  replace hf := mx_gd_el hf; obtain ⟨c21, hf⟩ := hf
  replace hf := mx_sv_el hf; obtain ⟨u22, e_u22, hf⟩ := hf
  refine sx_nb hm dX12_init_80 rs_RX12_100045 c21 e_u22 ?_
  clear e_u22
  replace hf := mx_sv_el hf; obtain ⟨h23, e_h23, hf⟩ := hf
  refine sx_put hm dX12_init_83 rs_RX12_46 ft_12_6 ⟨rfl, rfl⟩ (fun _ => ⟨rfl, rfl⟩) e_h23 ?_
  clear e_h23
  refine mx_S.pu (pc2 := 87) (lv2 := [(0, .ref a0)]) (st2 := [.ref a0]) hm dX12_init_86 rfl ?_
  replace hf := mx_sv_el hf; obtain ⟨u24, e_u24, hf⟩ := hf
  refine sx_no hm dX12_init_87 rs_RX12_50 (dx_7 X) e_u24 ?_
  clear e_u24
  refine mx_S.pu (pc2 := 91) (lv2 := [(0, .ref a0)]) (st2 := [.ref u24.1, .ref u24.1, .ref a0]) hm dX12_init_90 rfl ?_
  replace hf := mx_sv_el hf; obtain ⟨u25, e_u25, hf⟩ := hf
  refine sx_ci hm dX12_init_91 (t := 3) (by decide) rs_RX12_52 mt_X7_init [] [.ref u24.1, .ref a0] (b := u24.1) rfl rfl (Nat.le_of_ble_eq_true rfl) (Nat.le_of_ble_eq_true rfl) (by omega) (by omega) (f_X7_init_ok X (by omega) (by omega) nn u24.1 u24.2 e_u25) ?_
  clear e_u25
  show mx_S X F L 359 94 [(0, .ref a0)] [.ref u24.1, .ref a0] u25.1 (((((((((((0 + 1) + 1) + u5.2.1) + 1) + u9.2.1) + 1) + 1) + u19.2.1) + 1) + 1) + u25.2.1) (((((((((((0 + (6000 : Int32).toNatClampNeg) + 13) + u5.2.2) + 21) + u9.2.2) + 2) + 13) + u19.2.2) + (8 : Int32).toNatClampNeg) + 8) + u25.2.2) (none, r.1, r.2.1, r.2.2)
  replace hf := mx_sv_el hf; obtain ⟨h26, e_h26, hf⟩ := hf
  refine sx_put hm dX12_init_94 rs_RX12_53 ft_12_8 ⟨rfl, rfl⟩ (fun _ => ⟨rfl, rfl⟩) e_h26 ?_
  clear e_h26
  refine mx_S.pu (pc2 := 98) (lv2 := [(0, .ref a0)]) (st2 := [.ref a0]) hm dX12_init_97 rfl ?_
  replace hf := mx_sv_el hf; obtain ⟨u27, e_u27, hf⟩ := hf
  refine sx_no hm dX12_init_98 rs_RX12_57 (dx_11 X) e_u27 ?_
  clear e_u27
  refine mx_S.pu (pc2 := 102) (lv2 := [(0, .ref a0)]) (st2 := [.ref u27.1, .ref u27.1, .ref a0]) hm dX12_init_101 rfl ?_
  refine mx_S.pu (pc2 := 103) (lv2 := [(0, .ref a0)]) (st2 := [.ref a0, .ref u27.1, .ref u27.1, .ref a0]) hm dX12_init_102 rfl ?_
  replace hf := mx_sv_el hf; obtain ⟨v28, e_v28, hf⟩ := hf
  refine sx_get hm dX12_init_103 rs_RX12_53 (xgr_el e_v28) ?_
  clear e_v28
  replace hf := mx_sv_el hf; obtain ⟨u29, e_u29, hf⟩ := hf
  refine sx_ci hm dX12_init_106 (t := 3) (by decide) rs_RX12_59 mt_X11_init [.ref v28] [.ref u27.1, .ref a0] (b := u27.1) rfl rfl (Nat.le_of_ble_eq_true rfl) (Nat.le_of_ble_eq_true rfl) (by omega) (by omega) (f_X11_init_ok X (by omega) (by omega) nn u27.1 v28 u27.2 e_u29) ?_
  clear e_u29
  show mx_S X F L 359 109 [(0, .ref a0)] [.ref u27.1, .ref a0] u29.1 (((((((((((((0 + 1) + 1) + u5.2.1) + 1) + u9.2.1) + 1) + 1) + u19.2.1) + 1) + 1) + u25.2.1) + 1) + u29.2.1) (((((((((((((0 + (6000 : Int32).toNatClampNeg) + 13) + u5.2.2) + 21) + u9.2.2) + 2) + 13) + u19.2.2) + (8 : Int32).toNatClampNeg) + 8) + u25.2.2) + 21) + u29.2.2) (none, r.1, r.2.1, r.2.2)
  replace hf := mx_sv_el hf; obtain ⟨h30, e_h30, hf⟩ := hf
  refine sx_put hm dX12_init_109 rs_RX12_62 ft_12_9 ⟨rfl, rfl⟩ (fun _ => ⟨rfl, rfl⟩) e_h30 ?_
  clear e_h30
  refine mx_S.pu (pc2 := 113) (lv2 := [(0, .ref a0)]) (st2 := [.ref a0]) hm dX12_init_112 rfl ?_
  replace hf := mx_sv_el hf; obtain ⟨u31, e_u31, hf⟩ := hf
  refine sx_no hm dX12_init_113 rs_RX12_66 (dx_5 X) e_u31 ?_
  clear e_u31
  refine mx_S.pu (pc2 := 117) (lv2 := [(0, .ref a0)]) (st2 := [.ref u31.1, .ref u31.1, .ref a0]) hm dX12_init_116 rfl ?_
  refine mx_S.pu (pc2 := 118) (lv2 := [(0, .ref a0)]) (st2 := [.ref a0, .ref u31.1, .ref u31.1, .ref a0]) hm dX12_init_117 rfl ?_
  replace hf := mx_sv_el hf; obtain ⟨v32, e_v32, hf⟩ := hf
  refine sx_get hm dX12_init_118 rs_RX12_53 (xgr_el e_v32) ?_
  clear e_v32
  replace hf := mx_sv_el hf; obtain ⟨u33, e_u33, hf⟩ := hf
  refine sx_ci hm dX12_init_121 (t := 3) (by decide) rs_RX12_68 mt_X5_init [.ref v32] [.ref u31.1, .ref a0] (b := u31.1) rfl rfl (Nat.le_of_ble_eq_true rfl) (Nat.le_of_ble_eq_true rfl) (by omega) (by omega) (f_X5_init_ok X (by omega) (by omega) nn u31.1 v32 u31.2 e_u33) ?_
  clear e_u33
  show mx_S X F L 359 124 [(0, .ref a0)] [.ref u31.1, .ref a0] u33.1 (((((((((((((((0 + 1) + 1) + u5.2.1) + 1) + u9.2.1) + 1) + 1) + u19.2.1) + 1) + 1) + u25.2.1) + 1) + u29.2.1) + 1) + u33.2.1) (((((((((((((((0 + (6000 : Int32).toNatClampNeg) + 13) + u5.2.2) + 21) + u9.2.2) + 2) + 13) + u19.2.2) + (8 : Int32).toNatClampNeg) + 8) + u25.2.2) + 21) + u29.2.2) + 21) + u33.2.2) (none, r.1, r.2.1, r.2.2)
  replace hf := mx_sv_el hf; obtain ⟨h34, e_h34, hf⟩ := hf
  refine sx_put hm dX12_init_124 rs_RX12_69 ft_12_10 ⟨rfl, rfl⟩ (fun _ => ⟨rfl, rfl⟩) e_h34 ?_
  clear e_h34
  cases hf
  exact sx_ret hm dX12_init_127 rfl
set_option maxHeartbeats 4000000 in
set_option maxRecDepth 20000 in
theorem f_J7_copyOf_9075b_ok (X : Nat × (Nat → Int32)) {F L : Nat} (hF : 1 ≤ F) (hL : 60 ≤ L) (nn : Nat) (a0 : Nat) (a1 : Int32) (h : mx_H) {r : (Option Nat × mx_H × Nat × Nat)} (hf : f_J7_copyOf_9075b nn a0 a1 h = some r) : mx_R X F L 602 [.ref a0, .int a1] h (some (va_rf r.1), r.2.1, r.2.2.1, r.2.2.2) := by
  have hm : mx_mt 602 = some (yJ7_copyOf_9075b, cJ7_copyOf_9075b, 3, (some (.array .byte))) := mt_J7_copyOf_9075b
  show mx_S X F L 602 0 [(0, .ref a0), (1, .int a1)] [] h 0 0 (some (va_rf r.1), r.2.1, r.2.2.1, r.2.2.2)
  unfold f_J7_copyOf_9075b at hf
  refine mx_S.pu (pc2 := 1) (lv2 := [(0, .ref a0), (1, .int a1)]) (st2 := [.int a1]) hm dJ7_copyOf_9075b_0 rfl ?_
  refine mx_S.pu (pc2 := 2) (lv2 := [(0, .ref a0), (1, .int a1)]) (st2 := [.ref a0, .int a1]) hm dJ7_copyOf_9075b_1 rfl ?_
  replace hf := mx_sv_el hf; obtain ⟨v1, e_v1, hf⟩ := hf
  refine sx_len hm dJ7_copyOf_9075b_2 e_v1 ?_
  clear e_v1
  rcases mx_if_el hf with ⟨c9, hf⟩ | ⟨c9, hf⟩
  · refine sb_ic_ne hm dJ7_copyOf_9075b_3 (tgt := 14) rfl (fun _ => ?_) (fun z => absurd c9 z)
    refine mx_S.pu (pc2 := 15) (lv2 := [(0, .ref a0), (1, .int a1)]) (st2 := [.int a1]) hm dJ7_copyOf_9075b_14 rfl ?_
    replace hf := mx_gd_el hf; obtain ⟨c2, hf⟩ := hf
    replace hf := mx_sv_el hf; obtain ⟨u3, e_u3, hf⟩ := hf
    refine sx_na hm dJ7_copyOf_9075b_15 rfl (Or.inr (Or.inl rfl)) c2 e_u3 ?_
    clear e_u3
    refine mx_S.pu (pc2 := 18) (lv2 := [(2, .ref u3.1), (0, .ref a0), (1, .int a1)]) (st2 := []) hm dJ7_copyOf_9075b_17 rfl ?_
    refine mx_S.pu (pc2 := 19) (lv2 := [(2, .ref u3.1), (0, .ref a0), (1, .int a1)]) (st2 := [.ref a0]) hm dJ7_copyOf_9075b_18 rfl ?_
    refine sx_ic (v := 0) hm dJ7_copyOf_9075b_19 (by decide) ?_
    refine mx_S.pu (pc2 := 21) (lv2 := [(2, .ref u3.1), (0, .ref a0), (1, .int a1)]) (st2 := [.ref u3.1, .int 0, .ref a0]) hm dJ7_copyOf_9075b_20 rfl ?_
    refine sx_ic (v := 0) hm dJ7_copyOf_9075b_21 (by decide) ?_
    refine mx_S.pu (pc2 := 23) (lv2 := [(2, .ref u3.1), (0, .ref a0), (1, .int a1)]) (st2 := [.ref a0, .int 0, .ref u3.1, .int 0, .ref a0]) hm dJ7_copyOf_9075b_22 rfl ?_
    replace hf := mx_sv_el hf; obtain ⟨v4, e_v4, hf⟩ := hf
    refine sx_len hm dJ7_copyOf_9075b_23 e_v4 ?_
    clear e_v4
    refine mx_S.pu (pc2 := 25) (lv2 := [(2, .ref u3.1), (0, .ref a0), (1, .int a1)]) (st2 := [.int a1, .int v4, .int 0, .ref u3.1, .int 0, .ref a0]) hm dJ7_copyOf_9075b_24 rfl ?_
    replace hf := xl_el hf; obtain ⟨v5, e_v5, hf⟩ := hf
    refine sx_min hm dJ7_copyOf_9075b_25 rs_RJ7_304 (by omega) (Nat.le_trans (Nat.le_of_ble_eq_true rfl : _ ≤ 60) (by omega)) ?_
    rw [e_v5]
    clear e_v5
    replace hf := mx_sv_el hf; obtain ⟨h6, e_h6, hf⟩ := hf
    refine sx_copy hm dJ7_copyOf_9075b_28 rs_RJ7_150 e_h6 (by omega) (Nat.le_trans (Nat.le_of_ble_eq_true rfl : _ ≤ 60) (by omega)) ?_
    clear e_h6
    refine mx_S.pu (pc2 := 32) (lv2 := [(2, .ref u3.1), (0, .ref a0), (1, .int a1)]) (st2 := [.ref u3.1]) hm dJ7_copyOf_9075b_31 rfl ?_
    cases hf
    exact sx_are hm dJ7_copyOf_9075b_32 rfl rfl (v := (some u3.1))
  · refine sb_ic_ne hm dJ7_copyOf_9075b_3 (tgt := 14) rfl (fun z => absurd z c9) (fun _ => ?_)
    refine mx_S.pu (pc2 := 7) (lv2 := [(0, .ref a0), (1, .int a1)]) (st2 := [.ref a0]) hm dJ7_copyOf_9075b_6 rfl ?_
    replace hf := mx_sv_el hf; obtain ⟨u7, e_u7, hf⟩ := hf
    refine sx_cl hm dJ7_copyOf_9075b_7 rs_RJ7_310 (by omega) (Nat.le_trans (Nat.le_of_ble_eq_true rfl : _ ≤ 60) (by omega)) e_u7 ?_
    clear e_u7
    replace hf := mx_sv_el hf; obtain ⟨v8, e_v8, hf⟩ := hf
    refine sx_ct hm dJ7_copyOf_9075b_10 rs_RJ7_200311 e_v8 ?_
    clear e_v8
    cases hf
    exact sx_are hm dJ7_copyOf_9075b_13 rfl rfl (v := (some u7.1))
set_option maxHeartbeats 4000000 in
set_option maxRecDepth 20000 in
theorem f_X3_keepOwn_ok (X : Nat × (Nat → Int32)) {F L : Nat} (hF : 2 ≤ F) (hL : 82 ≤ L) (nn : Nat) (a0 : Nat) (h : mx_H) {r : (mx_H × Nat × Nat)} (hf : f_X3_keepOwn nn a0 h = some r) : mx_R X F L 93 [.ref a0] h (none, r.1, r.2.1, r.2.2) := by
  have hm : mx_mt 93 = some (yX3_keepOwn, cX3_keepOwn, 1, none) := mt_X3_keepOwn
  show mx_S X F L 93 0 [(0, .ref a0)] [] h 0 0 (none, r.1, r.2.1, r.2.2)
  unfold f_X3_keepOwn at hf
  refine mx_S.pu (pc2 := 1) (lv2 := [(0, .ref a0)]) (st2 := [.ref a0]) hm dX3_keepOwn_0 rfl ?_
  refine mx_S.pu (pc2 := 2) (lv2 := [(0, .ref a0)]) (st2 := [.ref a0, .ref a0]) hm dX3_keepOwn_1 rfl ?_
  replace hf := mx_sv_el hf; obtain ⟨v1, e_v1, hf⟩ := hf
  refine sx_get hm dX3_keepOwn_2 rs_RX3_9 (xgr_el e_v1) ?_
  clear e_v1
  refine mx_S.pu (pc2 := 6) (lv2 := [(0, .ref a0)]) (st2 := [.ref a0, .ref v1, .ref a0]) hm dX3_keepOwn_5 rfl ?_
  replace hf := mx_sv_el hf; obtain ⟨v2, e_v2, hf⟩ := hf
  refine sx_get hm dX3_keepOwn_6 rs_RX3_39 (xgi_el e_v2) ?_
  clear e_v2
  replace hf := mx_sv_el hf; obtain ⟨u3, e_u3, hf⟩ := hf
  refine sx_csA hm dX3_keepOwn_9 rs_RX3_81 mt_J7_copyOf_9075b [.ref v1, .int v2] [.ref a0] rfl rfl (Nat.le_of_ble_eq_true rfl) (Nat.le_of_ble_eq_true rfl) (by omega) (by omega) (f_J7_copyOf_9075b_ok X (by omega) (by omega) nn v1 v2 h e_u3) ?_
  clear e_u3
  show mx_S X F L 93 12 [(0, .ref a0)] [va_rf u3.1, .ref a0] u3.2.1 (0 + u3.2.2.1) (0 + u3.2.2.2) (none, r.1, r.2.1, r.2.2)
  replace hf := mx_sv_el hf; obtain ⟨h4, e_h4, hf⟩ := hf
  refine sx_put hm dX3_keepOwn_12 rs_RX3_9 ft_3_0 (xrf_ok rfl) (fun z => by cases z) e_h4 ?_
  clear e_h4
  cases hf
  exact sx_ret hm dX3_keepOwn_15 rfl
set_option maxHeartbeats 4000000 in
set_option maxRecDepth 20000 in
theorem f_X3_bad_ok (X : Nat × (Nat → Int32)) {F L : Nat} (hF : 0 ≤ F) (hL : 0 ≤ L) (nn : Nat) (a0 : Nat) (a1 : Int32) (h : mx_H) {r : mx_H} (hf : f_X3_bad nn a0 a1 h = some r) : mx_R X F L 95 [.ref a0, .int a1] h (none, r, 0, 0) := by
  have hm : mx_mt 95 = some (yX3_bad, cX3_bad, 2, none) := mt_X3_bad
  show mx_S X F L 95 0 [(0, .ref a0), (1, .int a1)] [] h 0 0 (none, r, 0, 0)
  unfold f_X3_bad at hf
  refine mx_S.pu (pc2 := 1) (lv2 := [(0, .ref a0), (1, .int a1)]) (st2 := [.ref a0]) hm dX3_bad_0 rfl ?_
  replace hf := mx_sv_el hf; obtain ⟨v1, e_v1, hf⟩ := hf
  refine sx_get hm dX3_bad_1 rs_RX3_46 (xgi_el e_v1) ?_
  clear e_v1
  refine sx_ic (v := (-1)) hm dX3_bad_4 (by decide) ?_
  rcases mx_if_el hf with ⟨c3, hf⟩ | ⟨c3, hf⟩
  · refine sb_ic_ne hm dX3_bad_5 (tgt := 13) rfl (fun _ => ?_) (fun z => absurd c3 z)
    cases hf
    exact sx_ret hm dX3_bad_13 rfl
  · refine sb_ic_ne hm dX3_bad_5 (tgt := 13) rfl (fun z => absurd z c3) (fun _ => ?_)
    refine mx_S.pu (pc2 := 9) (lv2 := [(0, .ref a0), (1, .int a1)]) (st2 := [.ref a0]) hm dX3_bad_8 rfl ?_
    refine mx_S.pu (pc2 := 10) (lv2 := [(0, .ref a0), (1, .int a1)]) (st2 := [.int a1, .ref a0]) hm dX3_bad_9 rfl ?_
    replace hf := mx_sv_el hf; obtain ⟨h2, e_h2, hf⟩ := hf
    refine sx_put hm dX3_bad_10 rs_RX3_46 ft_3_3 ⟨rfl, rfl⟩ (fun z => by cases z) e_h2 ?_
    clear e_h2
    cases hf
    exact sx_ret hm dX3_bad_13 rfl
set_option maxHeartbeats 4000000 in
set_option maxRecDepth 20000 in
theorem f_X3_byteAt_ok (X : Nat × (Nat → Int32)) {F L : Nat} (hF : 0 ≤ F) (hL : 0 ≤ L) (nn : Nat) (a0 : Nat) (a1 : Int32) (h : mx_H) {r : (Int32 × mx_H)} (hf : f_X3_byteAt nn a0 a1 h = some r) : mx_R X F L 103 [.ref a0, .int a1] h (some (.int r.1), r.2, 0, 0) := by
  have hm : mx_mt 103 = some (yX3_byteAt, cX3_byteAt, 2, (some .int)) := mt_X3_byteAt
  show mx_S X F L 103 0 [(0, .ref a0), (1, .int a1)] [] h 0 0 (some (.int r.1), r.2, 0, 0)
  unfold f_X3_byteAt at hf
  refine mx_S.pu (pc2 := 1) (lv2 := [(0, .ref a0), (1, .int a1)]) (st2 := [.int a1]) hm dX3_byteAt_0 rfl ?_
  rcases mx_if_el hf with ⟨c6, hf⟩ | ⟨c6, hf⟩
  · refine sb_if_lt hm dX3_byteAt_1 (tgt := 25) rfl (fun _ => ?_) (fun z => absurd c6 z)
    refine sx_ic (v := 0) hm dX3_byteAt_25 (by decide) ?_
    cases hf
    exact sx_ire hm dX3_byteAt_26 rfl rfl
  · refine sb_if_lt hm dX3_byteAt_1 (tgt := 25) rfl (fun z => absurd z c6) (fun _ => ?_)
    refine mx_S.pu (pc2 := 5) (lv2 := [(0, .ref a0), (1, .int a1)]) (st2 := [.int a1]) hm dX3_byteAt_4 rfl ?_
    refine mx_S.pu (pc2 := 6) (lv2 := [(0, .ref a0), (1, .int a1)]) (st2 := [.ref a0, .int a1]) hm dX3_byteAt_5 rfl ?_
    replace hf := mx_sv_el hf; obtain ⟨v1, e_v1, hf⟩ := hf
    refine sx_get hm dX3_byteAt_6 rs_RX3_39 (xgi_el e_v1) ?_
    clear e_v1
    rcases mx_if_el hf with ⟨c5, hf⟩ | ⟨c5, hf⟩
    · refine sb_ic_ge hm dX3_byteAt_9 (tgt := 25) rfl (fun _ => ?_) (fun z => absurd c5 z)
      refine sx_ic (v := 0) hm dX3_byteAt_25 (by decide) ?_
      cases hf
      exact sx_ire hm dX3_byteAt_26 rfl rfl
    · refine sb_ic_ge hm dX3_byteAt_9 (tgt := 25) rfl (fun z => absurd z c5) (fun _ => ?_)
      refine mx_S.pu (pc2 := 13) (lv2 := [(0, .ref a0), (1, .int a1)]) (st2 := [.ref a0]) hm dX3_byteAt_12 rfl ?_
      replace hf := mx_sv_el hf; obtain ⟨v2, e_v2, hf⟩ := hf
      refine sx_get hm dX3_byteAt_13 rs_RX3_9 (xgr_el e_v2) ?_
      clear e_v2
      refine mx_S.pu (pc2 := 17) (lv2 := [(0, .ref a0), (1, .int a1)]) (st2 := [.int a1, .ref v2]) hm dX3_byteAt_16 rfl ?_
      replace hf := mx_sv_el hf; obtain ⟨v3, e_v3, hf⟩ := hf
      refine sx_bld hm dX3_byteAt_17 e_v3 ?_
      clear e_v3
      refine sx_si (v := 255) hm dX3_byteAt_18 (by decide) ?_
      replace hf := xl_el hf; obtain ⟨v4, e_v4, hf⟩ := hf
      refine mx_S.pu (pc2 := 22) (lv2 := [(0, .ref a0), (1, .int a1)]) (st2 := [.int v4]) hm dX3_byteAt_21 (by rw [← e_v4]; rfl) ?_
      clear e_v4
      refine mx_S.pu (pc2 := 26) (lv2 := [(0, .ref a0), (1, .int a1)]) (st2 := [.int v4]) hm dX3_byteAt_22 rfl ?_
      cases hf
      exact sx_ire hm dX3_byteAt_26 rfl rfl
set_option maxHeartbeats 4000000 in
set_option maxRecDepth 20000 in
theorem f_X3_tagOf_ok (X : Nat × (Nat → Int32)) {F L : Nat} (hF : 0 ≤ F) (hL : 0 ≤ L) (nn : Nat) (a0 : Nat) (a1 : Int32) (h : mx_H) {r : (Int32 × mx_H)} (hf : f_X3_tagOf nn a0 a1 h = some r) : mx_R X F L 102 [.ref a0, .int a1] h (some (.int r.1), r.2, 0, 0) := by
  have hm : mx_mt 102 = some (yX3_tagOf, cX3_tagOf, 2, (some .int)) := mt_X3_tagOf
  show mx_S X F L 102 0 [(0, .ref a0), (1, .int a1)] [] h 0 0 (some (.int r.1), r.2, 0, 0)
  unfold f_X3_tagOf at hf
  refine mx_S.pu (pc2 := 1) (lv2 := [(0, .ref a0), (1, .int a1)]) (st2 := [.int a1]) hm dX3_tagOf_0 rfl ?_
  refine sx_ic (v := 1) hm dX3_tagOf_1 (by decide) ?_
  rcases mx_if_el hf with ⟨c8, hf⟩ | ⟨c8, hf⟩
  · refine sb_ic_lt hm dX3_tagOf_2 (tgt := 31) rfl (fun _ => ?_) (fun z => absurd c8 z)
    refine sx_ic (v := 0) hm dX3_tagOf_31 (by decide) ?_
    cases hf
    exact sx_ire hm dX3_tagOf_32 rfl rfl
  · refine sb_ic_lt hm dX3_tagOf_2 (tgt := 31) rfl (fun z => absurd z c8) (fun _ => ?_)
    refine mx_S.pu (pc2 := 6) (lv2 := [(0, .ref a0), (1, .int a1)]) (st2 := [.int a1]) hm dX3_tagOf_5 rfl ?_
    refine mx_S.pu (pc2 := 7) (lv2 := [(0, .ref a0), (1, .int a1)]) (st2 := [.ref a0, .int a1]) hm dX3_tagOf_6 rfl ?_
    replace hf := mx_sv_el hf; obtain ⟨v1, e_v1, hf⟩ := hf
    refine sx_get hm dX3_tagOf_7 rs_RX3_90 (xgi_el e_v1) ?_
    clear e_v1
    rcases mx_if_el hf with ⟨c7, hf⟩ | ⟨c7, hf⟩
    · refine sb_ic_gt hm dX3_tagOf_10 (tgt := 31) rfl (fun _ => ?_) (fun z => absurd c7 z)
      refine sx_ic (v := 0) hm dX3_tagOf_31 (by decide) ?_
      cases hf
      exact sx_ire hm dX3_tagOf_32 rfl rfl
    · refine sb_ic_gt hm dX3_tagOf_10 (tgt := 31) rfl (fun z => absurd z c7) (fun _ => ?_)
      refine mx_S.pu (pc2 := 14) (lv2 := [(0, .ref a0), (1, .int a1)]) (st2 := [.int a1]) hm dX3_tagOf_13 rfl ?_
      refine mx_S.pu (pc2 := 15) (lv2 := [(0, .ref a0), (1, .int a1)]) (st2 := [.ref a0, .int a1]) hm dX3_tagOf_14 rfl ?_
      replace hf := mx_sv_el hf; obtain ⟨v2, e_v2, hf⟩ := hf
      refine sx_get hm dX3_tagOf_15 rs_RX3_15 (xgr_el e_v2) ?_
      clear e_v2
      replace hf := mx_sv_el hf; obtain ⟨v3, e_v3, hf⟩ := hf
      refine sx_len hm dX3_tagOf_18 e_v3 ?_
      clear e_v3
      rcases mx_if_el hf with ⟨c6, hf⟩ | ⟨c6, hf⟩
      · refine sb_ic_ge hm dX3_tagOf_19 (tgt := 31) rfl (fun _ => ?_) (fun z => absurd c6 z)
        refine sx_ic (v := 0) hm dX3_tagOf_31 (by decide) ?_
        cases hf
        exact sx_ire hm dX3_tagOf_32 rfl rfl
      · refine sb_ic_ge hm dX3_tagOf_19 (tgt := 31) rfl (fun z => absurd z c6) (fun _ => ?_)
        refine mx_S.pu (pc2 := 23) (lv2 := [(0, .ref a0), (1, .int a1)]) (st2 := [.ref a0]) hm dX3_tagOf_22 rfl ?_
        replace hf := mx_sv_el hf; obtain ⟨v4, e_v4, hf⟩ := hf
        refine sx_get hm dX3_tagOf_23 rs_RX3_15 (xgr_el e_v4) ?_
        clear e_v4
        refine mx_S.pu (pc2 := 27) (lv2 := [(0, .ref a0), (1, .int a1)]) (st2 := [.int a1, .ref v4]) hm dX3_tagOf_26 rfl ?_
        replace hf := mx_sv_el hf; obtain ⟨v5, e_v5, hf⟩ := hf
        refine sx_ald hm dX3_tagOf_27 e_v5 ?_
        clear e_v5
        refine mx_S.pu (pc2 := 32) (lv2 := [(0, .ref a0), (1, .int a1)]) (st2 := [.int v5]) hm dX3_tagOf_28 rfl ?_
        cases hf
        exact sx_ire hm dX3_tagOf_32 rfl rfl
set_option maxHeartbeats 4000000 in
set_option maxRecDepth 20000 in
theorem f_X3_isArrayText_ok (X : Nat × (Nat → Int32)) {F L : Nat} (hF : 1 ≤ F) (hL : 21 ≤ L) (nn : Nat) (a0 : Nat) (a1 : Int32) (h : mx_H) {r : (Int32 × mx_H)} (hf : f_X3_isArrayText nn a0 a1 h = some r) : mx_R X F L 113 [.ref a0, .int a1] h (some (.int r.1), r.2, 0, 0) := by
  have hm : mx_mt 113 = some (yX3_isArrayText, cX3_isArrayText, 2, (some .boolean)) := mt_X3_isArrayText
  show mx_S X F L 113 0 [(0, .ref a0), (1, .int a1)] [] h 0 0 (some (.int r.1), r.2, 0, 0)
  unfold f_X3_isArrayText at hf
  refine mx_S.pu (pc2 := 1) (lv2 := [(0, .ref a0), (1, .int a1)]) (st2 := [.ref a0]) hm dX3_isArrayText_0 rfl ?_
  refine mx_S.pu (pc2 := 2) (lv2 := [(0, .ref a0), (1, .int a1)]) (st2 := [.int a1, .ref a0]) hm dX3_isArrayText_1 rfl ?_
  replace hf := mx_gd_el hf; obtain ⟨c1, hf⟩ := hf
  replace hf := mx_sv_el hf; obtain ⟨u2, e_u2, hf⟩ := hf
  refine sx_cv hm dX3_isArrayText_2 rs_RX3_112 mt_X3_tagOf [.int a1] [] (b := a0) (ci := 3) rfl rfl rfl c1 (Nat.le_of_ble_eq_true rfl) (Nat.le_of_ble_eq_true rfl) (by omega) (by omega) (f_X3_tagOf_ok X (by omega) (by omega) nn a0 a1 h e_u2) ?_
  clear e_u2
  show mx_S X F L 113 5 [(0, .ref a0), (1, .int a1)] [.int u2.1] u2.2 0 0 (some (.int r.1), r.2, 0, 0)
  refine sx_ic (v := 1) hm dX3_isArrayText_5 (by decide) ?_
  rcases mx_if_el hf with ⟨c8, hf⟩ | ⟨c8, hf⟩
  · refine sb_ic_ne hm dX3_isArrayText_6 (tgt := 28) rfl (fun _ => ?_) (fun z => absurd c8 z)
    refine sx_ic (v := 0) hm dX3_isArrayText_28 (by decide) ?_
    cases hf
    exact sx_ire hm dX3_isArrayText_29 rfl (by decide)
  · refine sb_ic_ne hm dX3_isArrayText_6 (tgt := 28) rfl (fun z => absurd z c8) (fun _ => ?_)
    refine mx_S.pu (pc2 := 10) (lv2 := [(0, .ref a0), (1, .int a1)]) (st2 := [.ref a0]) hm dX3_isArrayText_9 rfl ?_
    refine mx_S.pu (pc2 := 11) (lv2 := [(0, .ref a0), (1, .int a1)]) (st2 := [.ref a0, .ref a0]) hm dX3_isArrayText_10 rfl ?_
    replace hf := mx_sv_el hf; obtain ⟨v3, e_v3, hf⟩ := hf
    refine sx_get hm dX3_isArrayText_11 rs_RX3_19 (xgr_el e_v3) ?_
    clear e_v3
    refine mx_S.pu (pc2 := 15) (lv2 := [(0, .ref a0), (1, .int a1)]) (st2 := [.int a1, .ref v3, .ref a0]) hm dX3_isArrayText_14 rfl ?_
    replace hf := mx_sv_el hf; obtain ⟨v4, e_v4, hf⟩ := hf
    refine sx_ald hm dX3_isArrayText_15 e_v4 ?_
    clear e_v4
    replace hf := mx_gd_el hf; obtain ⟨c5, hf⟩ := hf
    replace hf := mx_sv_el hf; obtain ⟨u6, e_u6, hf⟩ := hf
    refine sx_cv hm dX3_isArrayText_16 rs_RX3_119 mt_X3_byteAt [.int v4] [] (b := a0) (ci := 3) rfl rfl rfl c5 (Nat.le_of_ble_eq_true rfl) (Nat.le_of_ble_eq_true rfl) (by omega) (by omega) (f_X3_byteAt_ok X (by omega) (by omega) nn a0 v4 u2.2 e_u6) ?_
    clear e_u6
    show mx_S X F L 113 19 [(0, .ref a0), (1, .int a1)] [.int u6.1] u6.2 0 0 (some (.int r.1), r.2, 0, 0)
    refine sx_bi (v := 91) hm dX3_isArrayText_19 (by decide) ?_
    rcases mx_if_el hf with ⟨c7, hf⟩ | ⟨c7, hf⟩
    · refine sb_ic_ne hm dX3_isArrayText_21 (tgt := 28) rfl (fun _ => ?_) (fun z => absurd c7 z)
      refine sx_ic (v := 0) hm dX3_isArrayText_28 (by decide) ?_
      cases hf
      exact sx_ire hm dX3_isArrayText_29 rfl (by decide)
    · refine sb_ic_ne hm dX3_isArrayText_21 (tgt := 28) rfl (fun z => absurd z c7) (fun _ => ?_)
      refine sx_ic (v := 1) hm dX3_isArrayText_24 (by decide) ?_
      refine mx_S.pu (pc2 := 29) (lv2 := [(0, .ref a0), (1, .int a1)]) (st2 := [.int 1]) hm dX3_isArrayText_25 rfl ?_
      cases hf
      exact sx_ire hm dX3_isArrayText_29 rfl (by decide)
set_option maxHeartbeats 4000000 in
set_option maxRecDepth 20000 in
theorem f_X3_next_ok (X : Nat × (Nat → Int32)) {F L : Nat} (hF : 0 ≤ F) (hL : 0 ≤ L) (nn : Nat) (a0 : Nat) (h : mx_H) {r : (Int32 × mx_H)} (hf : f_X3_next nn a0 h = some r) : mx_R X F L 96 [.ref a0] h (some (.int r.1), r.2, 0, 0) := by
  have hm : mx_mt 96 = some (yX3_next, cX3_next, 1, (some .int)) := mt_X3_next
  show mx_S X F L 96 0 [(0, .ref a0)] [] h 0 0 (some (.int r.1), r.2, 0, 0)
  unfold f_X3_next at hf
  refine mx_S.pu (pc2 := 1) (lv2 := [(0, .ref a0)]) (st2 := [.ref a0]) hm dX3_next_0 rfl ?_
  replace hf := mx_sv_el hf; obtain ⟨v1, e_v1, hf⟩ := hf
  refine sx_get hm dX3_next_1 rs_RX3_43 (xgi_el e_v1) ?_
  clear e_v1
  refine mx_S.pu (pc2 := 5) (lv2 := [(0, .ref a0)]) (st2 := [.ref a0, .int v1]) hm dX3_next_4 rfl ?_
  replace hf := mx_sv_el hf; obtain ⟨v2, e_v2, hf⟩ := hf
  refine sx_get hm dX3_next_5 rs_RX3_39 (xgi_el e_v2) ?_
  clear e_v2
  rcases mx_if_el hf with ⟨c17, hf⟩ | ⟨c17, hf⟩
  · refine sb_ic_lt hm dX3_next_8 (tgt := 36) rfl (fun _ => ?_) (fun z => absurd c17 z)
    refine mx_S.pu (pc2 := 37) (lv2 := [(0, .ref a0)]) (st2 := [.ref a0]) hm dX3_next_36 rfl ?_
    refine mx_S.pu (pc2 := 38) (lv2 := [(0, .ref a0)]) (st2 := [.ref a0, .ref a0]) hm dX3_next_37 rfl ?_
    replace hf := mx_sv_el hf; obtain ⟨v3, e_v3, hf⟩ := hf
    refine sx_get hm dX3_next_38 rs_RX3_43 (xgi_el e_v3) ?_
    clear e_v3
    refine sx_ic (v := 1) hm dX3_next_41 (by decide) ?_
    replace hf := xl_el hf; obtain ⟨v4, e_v4, hf⟩ := hf
    refine mx_S.pu (pc2 := 43) (lv2 := [(0, .ref a0)]) (st2 := [.int v4, .ref a0]) hm dX3_next_42 (by rw [← e_v4]; rfl) ?_
    clear e_v4
    replace hf := mx_sv_el hf; obtain ⟨h5, e_h5, hf⟩ := hf
    refine sx_put hm dX3_next_43 rs_RX3_43 ft_3_2 ⟨rfl, rfl⟩ (fun z => by cases z) e_h5 ?_
    clear e_h5
    refine mx_S.pu (pc2 := 47) (lv2 := [(0, .ref a0)]) (st2 := [.ref a0]) hm dX3_next_46 rfl ?_
    replace hf := mx_sv_el hf; obtain ⟨v6, e_v6, hf⟩ := hf
    refine sx_get hm dX3_next_47 rs_RX3_9 (xgr_el e_v6) ?_
    clear e_v6
    refine mx_S.pu (pc2 := 51) (lv2 := [(0, .ref a0)]) (st2 := [.ref a0, .ref v6]) hm dX3_next_50 rfl ?_
    replace hf := mx_sv_el hf; obtain ⟨v7, e_v7, hf⟩ := hf
    refine sx_get hm dX3_next_51 rs_RX3_43 (xgi_el e_v7) ?_
    clear e_v7
    refine sx_ic (v := 1) hm dX3_next_54 (by decide) ?_
    replace hf := xl_el hf; obtain ⟨v8, e_v8, hf⟩ := hf
    refine mx_S.pu (pc2 := 56) (lv2 := [(0, .ref a0)]) (st2 := [.int v8, .ref v6]) hm dX3_next_55 (by rw [← e_v8]; rfl) ?_
    clear e_v8
    replace hf := mx_sv_el hf; obtain ⟨v9, e_v9, hf⟩ := hf
    refine sx_bld hm dX3_next_56 e_v9 ?_
    clear e_v9
    refine sx_si (v := 255) hm dX3_next_57 (by decide) ?_
    replace hf := xl_el hf; obtain ⟨v10, e_v10, hf⟩ := hf
    refine mx_S.pu (pc2 := 61) (lv2 := [(0, .ref a0)]) (st2 := [.int v10]) hm dX3_next_60 (by rw [← e_v10]; rfl) ?_
    clear e_v10
    cases hf
    exact sx_ire hm dX3_next_61 rfl rfl
  · refine sb_ic_lt hm dX3_next_8 (tgt := 36) rfl (fun z => absurd z c17) (fun _ => ?_)
    refine mx_S.pu (pc2 := 12) (lv2 := [(0, .ref a0)]) (st2 := [.ref a0]) hm dX3_next_11 rfl ?_
    refine mx_S.pu (pc2 := 13) (lv2 := [(0, .ref a0)]) (st2 := [.ref a0, .ref a0]) hm dX3_next_12 rfl ?_
    replace hf := mx_sv_el hf; obtain ⟨v11, e_v11, hf⟩ := hf
    refine sx_get hm dX3_next_13 rs_RX3_46 (xgi_el e_v11) ?_
    clear e_v11
    refine sx_ic (v := (-1)) hm dX3_next_16 (by decide) ?_
    rcases mx_if_el hf with ⟨c16, hf⟩ | ⟨c16, hf⟩
    · refine sb_ic_ne hm dX3_next_17 (tgt := 27) rfl (fun _ => ?_) (fun z => absurd c16 z)
      refine mx_S.pu (pc2 := 28) (lv2 := [(0, .ref a0)]) (st2 := [.ref a0, .ref a0]) hm dX3_next_27 rfl ?_
      replace hf := mx_sv_el hf; obtain ⟨v12, e_v12, hf⟩ := hf
      refine sx_get hm dX3_next_28 rs_RX3_46 (xgi_el e_v12) ?_
      clear e_v12
      replace hf := mx_sv_el hf; obtain ⟨h13, e_h13, hf⟩ := hf
      refine sx_put hm dX3_next_31 rs_RX3_46 ft_3_3 ⟨rfl, rfl⟩ (fun z => by cases z) e_h13 ?_
      clear e_h13
      refine sx_ic (v := 0) hm dX3_next_34 (by decide) ?_
      cases hf
      exact sx_ire hm dX3_next_35 rfl rfl
    · refine sb_ic_ne hm dX3_next_17 (tgt := 27) rfl (fun z => absurd z c16) (fun _ => ?_)
      refine mx_S.pu (pc2 := 21) (lv2 := [(0, .ref a0)]) (st2 := [.ref a0, .ref a0]) hm dX3_next_20 rfl ?_
      replace hf := mx_sv_el hf; obtain ⟨v14, e_v14, hf⟩ := hf
      refine sx_get hm dX3_next_21 rs_RX3_39 (xgi_el e_v14) ?_
      clear e_v14
      refine mx_S.pu (pc2 := 31) (lv2 := [(0, .ref a0)]) (st2 := [.int v14, .ref a0]) hm dX3_next_24 rfl ?_
      replace hf := mx_sv_el hf; obtain ⟨h15, e_h15, hf⟩ := hf
      refine sx_put hm dX3_next_31 rs_RX3_46 ft_3_3 ⟨rfl, rfl⟩ (fun z => by cases z) e_h15 ?_
      clear e_h15
      refine sx_ic (v := 0) hm dX3_next_34 (by decide) ?_
      cases hf
      exact sx_ire hm dX3_next_35 rfl rfl
set_option maxHeartbeats 4000000 in
set_option maxRecDepth 20000 in
theorem f_X3_partOf_ok (X : Nat × (Nat → Int32)) {F L : Nat} (hF : 1 ≤ F) (hL : 21 ≤ L) (nn : Nat) (a0 : Nat) (a1 : Int32) (a2 : Int32) (h : mx_H) {r : (Int32 × mx_H)} (hf : f_X3_partOf nn a0 a1 a2 h = some r) : mx_R X F L 105 [.ref a0, .int a1, .int a2] h (some (.int r.1), r.2, 0, 0) := by
  have hm : mx_mt 105 = some (yX3_partOf, cX3_partOf, 3, (some .int)) := mt_X3_partOf
  show mx_S X F L 105 0 [(0, .ref a0), (1, .int a1), (2, .int a2)] [] h 0 0 (some (.int r.1), r.2, 0, 0)
  unfold f_X3_partOf at hf
  refine mx_S.pu (pc2 := 1) (lv2 := [(0, .ref a0), (1, .int a1), (2, .int a2)]) (st2 := [.int a1]) hm dX3_partOf_0 rfl ?_
  refine sx_ic (v := 1) hm dX3_partOf_1 (by decide) ?_
  rcases mx_if_el hf with ⟨c11, hf⟩ | ⟨c11, hf⟩
  · refine sb_ic_lt hm dX3_partOf_2 (tgt := 37) rfl (fun _ => ?_) (fun z => absurd c11 z)
    refine sx_ic (v := 0) hm dX3_partOf_37 (by decide) ?_
    cases hf
    exact sx_ire hm dX3_partOf_38 rfl rfl
  · refine sb_ic_lt hm dX3_partOf_2 (tgt := 37) rfl (fun z => absurd z c11) (fun _ => ?_)
    refine mx_S.pu (pc2 := 6) (lv2 := [(0, .ref a0), (1, .int a1), (2, .int a2)]) (st2 := [.int a1]) hm dX3_partOf_5 rfl ?_
    refine mx_S.pu (pc2 := 7) (lv2 := [(0, .ref a0), (1, .int a1), (2, .int a2)]) (st2 := [.ref a0, .int a1]) hm dX3_partOf_6 rfl ?_
    replace hf := mx_sv_el hf; obtain ⟨v1, e_v1, hf⟩ := hf
    refine sx_get hm dX3_partOf_7 rs_RX3_90 (xgi_el e_v1) ?_
    clear e_v1
    rcases mx_if_el hf with ⟨c10, hf⟩ | ⟨c10, hf⟩
    · refine sb_ic_gt hm dX3_partOf_10 (tgt := 37) rfl (fun _ => ?_) (fun z => absurd c10 z)
      refine sx_ic (v := 0) hm dX3_partOf_37 (by decide) ?_
      cases hf
      exact sx_ire hm dX3_partOf_38 rfl rfl
    · refine sb_ic_gt hm dX3_partOf_10 (tgt := 37) rfl (fun z => absurd z c10) (fun _ => ?_)
      refine mx_S.pu (pc2 := 14) (lv2 := [(0, .ref a0), (1, .int a1), (2, .int a2)]) (st2 := [.int a1]) hm dX3_partOf_13 rfl ?_
      refine mx_S.pu (pc2 := 15) (lv2 := [(0, .ref a0), (1, .int a1), (2, .int a2)]) (st2 := [.ref a0, .int a1]) hm dX3_partOf_14 rfl ?_
      replace hf := mx_sv_el hf; obtain ⟨v2, e_v2, hf⟩ := hf
      refine sx_get hm dX3_partOf_15 rs_RX3_19 (xgr_el e_v2) ?_
      clear e_v2
      replace hf := mx_sv_el hf; obtain ⟨v3, e_v3, hf⟩ := hf
      refine sx_len hm dX3_partOf_18 e_v3 ?_
      clear e_v3
      rcases mx_if_el hf with ⟨c9, hf⟩ | ⟨c9, hf⟩
      · refine sb_ic_ge hm dX3_partOf_19 (tgt := 37) rfl (fun _ => ?_) (fun z => absurd c9 z)
        refine sx_ic (v := 0) hm dX3_partOf_37 (by decide) ?_
        cases hf
        exact sx_ire hm dX3_partOf_38 rfl rfl
      · refine sb_ic_ge hm dX3_partOf_19 (tgt := 37) rfl (fun z => absurd z c9) (fun _ => ?_)
        refine mx_S.pu (pc2 := 23) (lv2 := [(0, .ref a0), (1, .int a1), (2, .int a2)]) (st2 := [.ref a0]) hm dX3_partOf_22 rfl ?_
        refine mx_S.pu (pc2 := 24) (lv2 := [(0, .ref a0), (1, .int a1), (2, .int a2)]) (st2 := [.ref a0, .ref a0]) hm dX3_partOf_23 rfl ?_
        replace hf := mx_sv_el hf; obtain ⟨v4, e_v4, hf⟩ := hf
        refine sx_get hm dX3_partOf_24 rs_RX3_19 (xgr_el e_v4) ?_
        clear e_v4
        refine mx_S.pu (pc2 := 28) (lv2 := [(0, .ref a0), (1, .int a1), (2, .int a2)]) (st2 := [.int a1, .ref v4, .ref a0]) hm dX3_partOf_27 rfl ?_
        replace hf := mx_sv_el hf; obtain ⟨v5, e_v5, hf⟩ := hf
        refine sx_ald hm dX3_partOf_28 e_v5 ?_
        clear e_v5
        refine mx_S.pu (pc2 := 30) (lv2 := [(0, .ref a0), (1, .int a1), (2, .int a2)]) (st2 := [.int a2, .int v5, .ref a0]) hm dX3_partOf_29 rfl ?_
        replace hf := xl_el hf; obtain ⟨v6, e_v6, hf⟩ := hf
        refine mx_S.pu (pc2 := 31) (lv2 := [(0, .ref a0), (1, .int a1), (2, .int a2)]) (st2 := [.int v6, .ref a0]) hm dX3_partOf_30 (by rw [← e_v6]; rfl) ?_
        clear e_v6
        replace hf := mx_gd_el hf; obtain ⟨c7, hf⟩ := hf
        replace hf := mx_sv_el hf; obtain ⟨u8, e_u8, hf⟩ := hf
        refine sx_cv hm dX3_partOf_31 rs_RX3_119 mt_X3_byteAt [.int v6] [] (b := a0) (ci := 3) rfl rfl rfl c7 (Nat.le_of_ble_eq_true rfl) (Nat.le_of_ble_eq_true rfl) (by omega) (by omega) (f_X3_byteAt_ok X (by omega) (by omega) nn a0 v6 h e_u8) ?_
        clear e_u8
        show mx_S X F L 105 34 [(0, .ref a0), (1, .int a1), (2, .int a2)] [.int u8.1] u8.2 0 0 (some (.int r.1), r.2, 0, 0)
        refine mx_S.pu (pc2 := 38) (lv2 := [(0, .ref a0), (1, .int a1), (2, .int a2)]) (st2 := [.int u8.1]) hm dX3_partOf_34 rfl ?_
        cases hf
        exact sx_ire hm dX3_partOf_38 rfl rfl
set_option maxHeartbeats 4000000 in
set_option maxRecDepth 20000 in
theorem j_X3_nextPlainClass_29_ok (X : Nat × (Nat → Int32)) {F L : Nat} (hF : 2 ≤ F) (hL : 43 ≤ L) (nn : Nat) (l0 : Nat) (l2 : Int32) (h : mx_H) {r : (Int32 × mx_H)} (hf : j_X3_nextPlainClass_29 nn l0 l2 h = some r) : mx_S X F L 118 29 [(0, .ref l0), (2, .int l2)] [] h 0 0 (some (.int r.1), r.2, 0, 0) := by
  have hm : mx_mt 118 = some (yX3_nextPlainClass, cX3_nextPlainClass, 3, (some .int)) := mt_X3_nextPlainClass
  unfold j_X3_nextPlainClass_29 at hf
  refine mx_S.pu (pc2 := 30) (lv2 := [(0, .ref l0), (2, .int l2)]) (st2 := [.ref l0]) hm dX3_nextPlainClass_29 rfl ?_
  refine mx_S.pu (pc2 := 31) (lv2 := [(0, .ref l0), (2, .int l2)]) (st2 := [.ref l0, .ref l0]) hm dX3_nextPlainClass_30 rfl ?_
  replace hf := mx_sv_el hf; obtain ⟨v1, e_v1, hf⟩ := hf
  refine sx_get hm dX3_nextPlainClass_31 rs_RX3_43 (xgi_el e_v1) ?_
  clear e_v1
  refine sx_ic (v := 1) hm dX3_nextPlainClass_34 (by decide) ?_
  replace hf := xl_el hf; obtain ⟨v2, e_v2, hf⟩ := hf
  refine mx_S.pu (pc2 := 36) (lv2 := [(0, .ref l0), (2, .int l2)]) (st2 := [.int v2, .ref l0]) hm dX3_nextPlainClass_35 (by rw [← e_v2]; rfl) ?_
  clear e_v2
  replace hf := mx_gd_el hf; obtain ⟨c3, hf⟩ := hf
  replace hf := mx_sv_el hf; obtain ⟨u4, e_u4, hf⟩ := hf
  refine sx_cv hm dX3_nextPlainClass_36 rs_RX3_78 mt_X3_bad [.int v2] [] (b := l0) (ci := 3) rfl rfl rfl c3 (Nat.le_of_ble_eq_true rfl) (Nat.le_of_ble_eq_true rfl) (by omega) (by omega) (f_X3_bad_ok X (by omega) (by omega) nn l0 v2 h e_u4) ?_
  clear e_u4
  show mx_S X F L 118 39 [(0, .ref l0), (2, .int l2)] [] u4 0 0 (some (.int r.1), r.2, 0, 0)
  refine mx_S.pu (pc2 := 40) (lv2 := [(0, .ref l0), (2, .int l2)]) (st2 := [.int l2]) hm dX3_nextPlainClass_39 rfl ?_
  cases hf
  exact sx_ire hm dX3_nextPlainClass_40 rfl rfl
set_option maxHeartbeats 4000000 in
set_option maxRecDepth 20000 in
theorem f_X3_nextPlainClass_ok (X : Nat × (Nat → Int32)) {F L : Nat} (hF : 2 ≤ F) (hL : 43 ≤ L) (nn : Nat) (a0 : Nat) (h : mx_H) {r : (Int32 × mx_H)} (hf : f_X3_nextPlainClass nn a0 h = some r) : mx_R X F L 118 [.ref a0] h (some (.int r.1), r.2, 0, 0) := by
  have hm : mx_mt 118 = some (yX3_nextPlainClass, cX3_nextPlainClass, 3, (some .int)) := mt_X3_nextPlainClass
  show mx_S X F L 118 0 [(0, .ref a0)] [] h 0 0 (some (.int r.1), r.2, 0, 0)
  unfold f_X3_nextPlainClass at hf
  refine mx_S.pu (pc2 := 1) (lv2 := [(0, .ref a0)]) (st2 := [.ref a0]) hm dX3_nextPlainClass_0 rfl ?_
  replace hf := mx_gd_el hf; obtain ⟨c5, hf⟩ := hf
  replace hf := mx_sv_el hf; obtain ⟨u6, e_u6, hf⟩ := hf
  refine sx_cv hm dX3_nextPlainClass_1 rs_RX3_87 mt_X3_next [] [] (b := a0) (ci := 3) rfl rfl rfl c5 (Nat.le_of_ble_eq_true rfl) (Nat.le_of_ble_eq_true rfl) (by omega) (by omega) (f_X3_next_ok X (by omega) (by omega) nn a0 h e_u6) ?_
  clear e_u6
  show mx_S X F L 118 4 [(0, .ref a0)] [.int u6.1] u6.2 0 0 (some (.int r.1), r.2, 0, 0)
  refine mx_S.pu (pc2 := 5) (lv2 := [(1, .int u6.1), (0, .ref a0)]) (st2 := []) hm dX3_nextPlainClass_4 rfl ?_
  refine mx_S.pu (pc2 := 6) (lv2 := [(1, .int u6.1), (0, .ref a0)]) (st2 := [.ref a0]) hm dX3_nextPlainClass_5 rfl ?_
  refine mx_S.pu (pc2 := 7) (lv2 := [(1, .int u6.1), (0, .ref a0)]) (st2 := [.int u6.1, .ref a0]) hm dX3_nextPlainClass_6 rfl ?_
  refine sx_ic (v := 0) hm dX3_nextPlainClass_7 (by decide) ?_
  replace hf := mx_gd_el hf; obtain ⟨c7, hf⟩ := hf
  replace hf := mx_sv_el hf; obtain ⟨u8, e_u8, hf⟩ := hf
  refine sx_cv hm dX3_nextPlainClass_8 rs_RX3_99 mt_X3_partOf [.int u6.1, .int 0] [] (b := a0) (ci := 3) rfl rfl rfl c7 (Nat.le_of_ble_eq_true rfl) (Nat.le_of_ble_eq_true rfl) (by omega) (by omega) (f_X3_partOf_ok X (by omega) (by omega) nn a0 u6.1 0 u6.2 e_u8) ?_
  clear e_u8
  show mx_S X F L 118 11 [(1, .int u6.1), (0, .ref a0)] [.int u8.1] u8.2 0 0 (some (.int r.1), r.2, 0, 0)
  refine mx_S.pu (pc2 := 12) (lv2 := [(2, .int u8.1), (1, .int u6.1), (0, .ref a0)]) (st2 := []) hm dX3_nextPlainClass_11 rfl ?_
  refine mx_S.pu (pc2 := 13) (lv2 := [(2, .int u8.1), (1, .int u6.1), (0, .ref a0)]) (st2 := [.ref a0]) hm dX3_nextPlainClass_12 rfl ?_
  refine mx_S.pu (pc2 := 14) (lv2 := [(2, .int u8.1), (1, .int u6.1), (0, .ref a0)]) (st2 := [.int u6.1, .ref a0]) hm dX3_nextPlainClass_13 rfl ?_
  replace hf := mx_gd_el hf; obtain ⟨c9, hf⟩ := hf
  replace hf := mx_sv_el hf; obtain ⟨u10, e_u10, hf⟩ := hf
  refine sx_cv hm dX3_nextPlainClass_14 rs_RX3_112 mt_X3_tagOf [.int u6.1] [] (b := a0) (ci := 3) rfl rfl rfl c9 (Nat.le_of_ble_eq_true rfl) (Nat.le_of_ble_eq_true rfl) (by omega) (by omega) (f_X3_tagOf_ok X (by omega) (by omega) nn a0 u6.1 u8.2 e_u10) ?_
  clear e_u10
  show mx_S X F L 118 17 [(2, .int u8.1), (1, .int u6.1), (0, .ref a0)] [.int u10.1] u10.2 0 0 (some (.int r.1), r.2, 0, 0)
  refine sx_ic (v := 3) hm dX3_nextPlainClass_17 (by decide) ?_
  rcases mx_if_el hf with ⟨c14, hf⟩ | ⟨c14, hf⟩
  · refine sb_ic_ne hm dX3_nextPlainClass_18 (tgt := 29) rfl (fun _ => ?_) (fun z => absurd c14 z)
    refine mx_S.ext [(0, .ref a0), (2, .int u8.1)] (mx_sub_pos [2, 0] rfl (show ([2, 1, 0] : List Nat).Nodup by decide)) ?_
    exact j_X3_nextPlainClass_29_ok X hF hL nn a0 u8.1 u10.2 hf
  · refine sb_ic_ne hm dX3_nextPlainClass_18 (tgt := 29) rfl (fun z => absurd z c14) (fun _ => ?_)
    refine mx_S.pu (pc2 := 22) (lv2 := [(2, .int u8.1), (1, .int u6.1), (0, .ref a0)]) (st2 := [.ref a0]) hm dX3_nextPlainClass_21 rfl ?_
    refine mx_S.pu (pc2 := 23) (lv2 := [(2, .int u8.1), (1, .int u6.1), (0, .ref a0)]) (st2 := [.int u8.1, .ref a0]) hm dX3_nextPlainClass_22 rfl ?_
    replace hf := mx_gd_el hf; obtain ⟨c11, hf⟩ := hf
    replace hf := mx_sv_el hf; obtain ⟨u12, e_u12, hf⟩ := hf
    refine sx_cv hm dX3_nextPlainClass_23 rs_RX3_106 mt_X3_isArrayText [.int u8.1] [] (b := a0) (ci := 3) rfl rfl rfl c11 (Nat.le_of_ble_eq_true rfl) (Nat.le_of_ble_eq_true rfl) (by omega) (by omega) (f_X3_isArrayText_ok X (by omega) (by omega) nn a0 u8.1 u10.2 e_u12) ?_
    clear e_u12
    show mx_S X F L 118 26 [(2, .int u8.1), (1, .int u6.1), (0, .ref a0)] [.int u12.1] u12.2 0 0 (some (.int r.1), r.2, 0, 0)
    rcases mx_if_el hf with ⟨c13, hf⟩ | ⟨c13, hf⟩
    · refine sb_if_eq hm dX3_nextPlainClass_26 (tgt := 39) rfl (fun _ => ?_) (fun z => absurd c13 z)
      refine mx_S.pu (pc2 := 40) (lv2 := [(2, .int u8.1), (1, .int u6.1), (0, .ref a0)]) (st2 := [.int u8.1]) hm dX3_nextPlainClass_39 rfl ?_
      cases hf
      exact sx_ire hm dX3_nextPlainClass_40 rfl rfl
    · refine sb_if_eq hm dX3_nextPlainClass_26 (tgt := 39) rfl (fun z => absurd z c13) (fun _ => ?_)
      refine mx_S.ext [(0, .ref a0), (2, .int u8.1)] (mx_sub_pos [2, 0] rfl (show ([2, 1, 0] : List Nat).Nodup by decide)) ?_
      exact j_X3_nextPlainClass_29_ok X hF hL nn a0 u8.1 u12.2 hf
set_option maxHeartbeats 4000000 in
set_option maxRecDepth 20000 in
theorem j_X3_nextUpTo_15_ok (X : Nat × (Nat → Int32)) {F L : Nat} (hF : 1 ≤ F) (hL : 21 ≤ L) (nn : Nat) (l0 : Nat) (l3 : Int32) (h : mx_H) {r : (Int32 × mx_H)} (hf : j_X3_nextUpTo_15 nn l0 l3 h = some r) : mx_S X F L 97 15 [(0, .ref l0), (3, .int l3)] [] h 0 0 (some (.int r.1), r.2, 0, 0) := by
  have hm : mx_mt 97 = some (yX3_nextUpTo, cX3_nextUpTo, 4, (some .int)) := mt_X3_nextUpTo
  unfold j_X3_nextUpTo_15 at hf
  refine mx_S.pu (pc2 := 16) (lv2 := [(0, .ref l0), (3, .int l3)]) (st2 := [.ref l0]) hm dX3_nextUpTo_15 rfl ?_
  refine mx_S.pu (pc2 := 17) (lv2 := [(0, .ref l0), (3, .int l3)]) (st2 := [.ref l0, .ref l0]) hm dX3_nextUpTo_16 rfl ?_
  replace hf := mx_sv_el hf; obtain ⟨v1, e_v1, hf⟩ := hf
  refine sx_get hm dX3_nextUpTo_17 rs_RX3_43 (xgi_el e_v1) ?_
  clear e_v1
  refine sx_ic (v := 1) hm dX3_nextUpTo_20 (by decide) ?_
  replace hf := xl_el hf; obtain ⟨v2, e_v2, hf⟩ := hf
  refine mx_S.pu (pc2 := 22) (lv2 := [(0, .ref l0), (3, .int l3)]) (st2 := [.int v2, .ref l0]) hm dX3_nextUpTo_21 (by rw [← e_v2]; rfl) ?_
  clear e_v2
  replace hf := mx_gd_el hf; obtain ⟨c3, hf⟩ := hf
  replace hf := mx_sv_el hf; obtain ⟨u4, e_u4, hf⟩ := hf
  refine sx_cv hm dX3_nextUpTo_22 rs_RX3_78 mt_X3_bad [.int v2] [] (b := l0) (ci := 3) rfl rfl rfl c3 (Nat.le_of_ble_eq_true rfl) (Nat.le_of_ble_eq_true rfl) (by omega) (by omega) (f_X3_bad_ok X (by omega) (by omega) nn l0 v2 h e_u4) ?_
  clear e_u4
  show mx_S X F L 97 25 [(0, .ref l0), (3, .int l3)] [] u4 0 0 (some (.int r.1), r.2, 0, 0)
  refine mx_S.pu (pc2 := 26) (lv2 := [(0, .ref l0), (3, .int l3)]) (st2 := [.int l3]) hm dX3_nextUpTo_25 rfl ?_
  cases hf
  exact sx_ire hm dX3_nextUpTo_26 rfl rfl
set_option maxHeartbeats 4000000 in
set_option maxRecDepth 20000 in
theorem f_X3_nextUpTo_ok (X : Nat × (Nat → Int32)) {F L : Nat} (hF : 1 ≤ F) (hL : 21 ≤ L) (nn : Nat) (a0 : Nat) (a1 : Int32) (a2 : Int32) (h : mx_H) {r : (Int32 × mx_H)} (hf : f_X3_nextUpTo nn a0 a1 a2 h = some r) : mx_R X F L 97 [.ref a0, .int a1, .int a2] h (some (.int r.1), r.2, 0, 0) := by
  have hm : mx_mt 97 = some (yX3_nextUpTo, cX3_nextUpTo, 4, (some .int)) := mt_X3_nextUpTo
  show mx_S X F L 97 0 [(0, .ref a0), (1, .int a1), (2, .int a2)] [] h 0 0 (some (.int r.1), r.2, 0, 0)
  unfold f_X3_nextUpTo at hf
  refine mx_S.pu (pc2 := 1) (lv2 := [(0, .ref a0), (1, .int a1), (2, .int a2)]) (st2 := [.ref a0]) hm dX3_nextUpTo_0 rfl ?_
  replace hf := mx_gd_el hf; obtain ⟨c5, hf⟩ := hf
  replace hf := mx_sv_el hf; obtain ⟨u6, e_u6, hf⟩ := hf
  refine sx_cv hm dX3_nextUpTo_1 rs_RX3_87 mt_X3_next [] [] (b := a0) (ci := 3) rfl rfl rfl c5 (Nat.le_of_ble_eq_true rfl) (Nat.le_of_ble_eq_true rfl) (by omega) (by omega) (f_X3_next_ok X (by omega) (by omega) nn a0 h e_u6) ?_
  clear e_u6
  show mx_S X F L 97 4 [(0, .ref a0), (1, .int a1), (2, .int a2)] [.int u6.1] u6.2 0 0 (some (.int r.1), r.2, 0, 0)
  refine mx_S.pu (pc2 := 5) (lv2 := [(3, .int u6.1), (0, .ref a0), (1, .int a1), (2, .int a2)]) (st2 := []) hm dX3_nextUpTo_4 rfl ?_
  refine mx_S.pu (pc2 := 6) (lv2 := [(3, .int u6.1), (0, .ref a0), (1, .int a1), (2, .int a2)]) (st2 := [.int u6.1]) hm dX3_nextUpTo_5 rfl ?_
  refine mx_S.pu (pc2 := 7) (lv2 := [(3, .int u6.1), (0, .ref a0), (1, .int a1), (2, .int a2)]) (st2 := [.int a1, .int u6.1]) hm dX3_nextUpTo_6 rfl ?_
  rcases mx_if_el hf with ⟨c8, hf⟩ | ⟨c8, hf⟩
  · refine sb_ic_lt hm dX3_nextUpTo_7 (tgt := 15) rfl (fun _ => ?_) (fun z => absurd c8 z)
    refine mx_S.ext [(0, .ref a0), (3, .int u6.1)] (mx_sub_pos [1, 0] rfl (show ([3, 0, 1, 2] : List Nat).Nodup by decide)) ?_
    exact j_X3_nextUpTo_15_ok X hF hL nn a0 u6.1 u6.2 hf
  · refine sb_ic_lt hm dX3_nextUpTo_7 (tgt := 15) rfl (fun z => absurd z c8) (fun _ => ?_)
    refine mx_S.pu (pc2 := 11) (lv2 := [(3, .int u6.1), (0, .ref a0), (1, .int a1), (2, .int a2)]) (st2 := [.int u6.1]) hm dX3_nextUpTo_10 rfl ?_
    refine mx_S.pu (pc2 := 12) (lv2 := [(3, .int u6.1), (0, .ref a0), (1, .int a1), (2, .int a2)]) (st2 := [.int a2, .int u6.1]) hm dX3_nextUpTo_11 rfl ?_
    rcases mx_if_el hf with ⟨c7, hf⟩ | ⟨c7, hf⟩
    · refine sb_ic_le hm dX3_nextUpTo_12 (tgt := 25) rfl (fun _ => ?_) (fun z => absurd c7 z)
      refine mx_S.pu (pc2 := 26) (lv2 := [(3, .int u6.1), (0, .ref a0), (1, .int a1), (2, .int a2)]) (st2 := [.int u6.1]) hm dX3_nextUpTo_25 rfl ?_
      cases hf
      exact sx_ire hm dX3_nextUpTo_26 rfl rfl
    · refine sb_ic_le hm dX3_nextUpTo_12 (tgt := 25) rfl (fun z => absurd z c7) (fun _ => ?_)
      refine mx_S.ext [(0, .ref a0), (3, .int u6.1)] (mx_sub_pos [1, 0] rfl (show ([3, 0, 1, 2] : List Nat).Nodup by decide)) ?_
      exact j_X3_nextUpTo_15_ok X hF hL nn a0 u6.1 u6.2 hf
set_option maxHeartbeats 4000000 in
set_option maxRecDepth 20000 in
theorem j_X9_isName_119_ok (X : Nat × (Nat → Int32)) {F L : Nat} (hF : 0 ≤ F) (hL : 0 ≤ L) (nn : Nat) {kk_32 : Nat → Int32 → Int32 → Int32 → Int32 → mx_H → Option (Int32 × mx_H)} (hk_32 : ∀ (l0 : Nat) (l1 : Int32) (l2 : Int32) (l3 : Int32) (l4 : Int32) (h : mx_H) (r : (Int32 × mx_H)), kk_32 l0 l1 l2 l3 l4 h = some r → mx_S X F L 259 32 [(0, .ref l0), (1, .int l1), (2, .int l2), (3, .int l3), (4, .int l4)] [] h 0 0 (some (.int r.1), r.2, 0, 0)) (l0 : Nat) (l1 : Int32) (l2 : Int32) (l4 : Int32) (h : mx_H) {r : (Int32 × mx_H)} (hf : j_X9_isName_119 nn kk_32 l0 l1 l2 l4 h = some r) : mx_S X F L 259 119 [(0, .ref l0), (1, .int l1), (2, .int l2), (4, .int l4)] [] h 0 0 (some (.int r.1), r.2, 0, 0) := by
  have hm : mx_mt 259 = some (yX9_isName, cX9_isName, 7, (some .boolean)) := mt_X9_isName
  unfold j_X9_isName_119 at hf
  refine sx_ic (v := 0) hm dX9_isName_119 (by decide) ?_
  refine mx_S.pu (pc2 := 121) (lv2 := [(3, .int 0), (0, .ref l0), (1, .int l1), (2, .int l2), (4, .int l4)]) (st2 := []) hm dX9_isName_120 rfl ?_
  replace hf := xl_el hf; obtain ⟨v1, e_v1, hf⟩ := hf
  refine mx_S.pu (pc2 := 124) (lv2 := [(4, .int v1), (3, .int 0), (0, .ref l0), (1, .int l1), (2, .int l2)]) (st2 := []) hm dX9_isName_121 (by rw [← e_v1]; rfl) ?_
  clear e_v1
  refine mx_S.pu (pc2 := 32) (lv2 := [(4, .int v1), (3, .int 0), (0, .ref l0), (1, .int l1), (2, .int l2)]) (st2 := []) hm dX9_isName_124 rfl ?_
  refine mx_S.ext [(0, .ref l0), (1, .int l1), (2, .int l2), (3, .int 0), (4, .int v1)] (mx_sub_pos [2, 3, 4, 1, 0] rfl (show ([4, 3, 0, 1, 2] : List Nat).Nodup by decide)) ?_
  exact hk_32 l0 l1 l2 0 v1 h _ hf
set_option maxHeartbeats 4000000 in
set_option maxRecDepth 20000 in
theorem j_X9_isName_115_ok (X : Nat × (Nat → Int32)) {F L : Nat} (hF : 0 ≤ F) (hL : 0 ≤ L) (nn : Nat) {kk_32 : Nat → Int32 → Int32 → Int32 → Int32 → mx_H → Option (Int32 × mx_H)} (hk_32 : ∀ (l0 : Nat) (l1 : Int32) (l2 : Int32) (l3 : Int32) (l4 : Int32) (h : mx_H) (r : (Int32 × mx_H)), kk_32 l0 l1 l2 l3 l4 h = some r → mx_S X F L 259 32 [(0, .ref l0), (1, .int l1), (2, .int l2), (3, .int l3), (4, .int l4)] [] h 0 0 (some (.int r.1), r.2, 0, 0)) (l0 : Nat) (l1 : Int32) (l2 : Int32) (l4 : Int32) (h : mx_H) {r : (Int32 × mx_H)} (hf : j_X9_isName_115 nn kk_32 l0 l1 l2 l4 h = some r) : mx_S X F L 259 115 [(0, .ref l0), (1, .int l1), (2, .int l2), (4, .int l4)] [] h 0 0 (some (.int r.1), r.2, 0, 0) := by
  have hm : mx_mt 259 = some (yX9_isName, cX9_isName, 7, (some .boolean)) := mt_X9_isName
  unfold j_X9_isName_115 at hf
  refine sx_ic (v := 1) hm dX9_isName_115 (by decide) ?_
  refine mx_S.pu (pc2 := 120) (lv2 := [(0, .ref l0), (1, .int l1), (2, .int l2), (4, .int l4)]) (st2 := [.int 1]) hm dX9_isName_116 rfl ?_
  refine mx_S.pu (pc2 := 121) (lv2 := [(3, .int 1), (0, .ref l0), (1, .int l1), (2, .int l2), (4, .int l4)]) (st2 := []) hm dX9_isName_120 rfl ?_
  replace hf := xl_el hf; obtain ⟨v2, e_v2, hf⟩ := hf
  refine mx_S.pu (pc2 := 124) (lv2 := [(4, .int v2), (3, .int 1), (0, .ref l0), (1, .int l1), (2, .int l2)]) (st2 := []) hm dX9_isName_121 (by rw [← e_v2]; rfl) ?_
  clear e_v2
  refine mx_S.pu (pc2 := 32) (lv2 := [(4, .int v2), (3, .int 1), (0, .ref l0), (1, .int l1), (2, .int l2)]) (st2 := []) hm dX9_isName_124 rfl ?_
  refine mx_S.ext [(0, .ref l0), (1, .int l1), (2, .int l2), (3, .int 1), (4, .int v2)] (mx_sub_pos [2, 3, 4, 1, 0] rfl (show ([4, 3, 0, 1, 2] : List Nat).Nodup by decide)) ?_
  exact hk_32 l0 l1 l2 1 v2 h _ hf
set_option maxHeartbeats 4000000 in
set_option maxRecDepth 20000 in
theorem j_X9_isName_108_ok (X : Nat × (Nat → Int32)) {F L : Nat} (hF : 0 ≤ F) (hL : 0 ≤ L) (nn : Nat) {kk_32 : Nat → Int32 → Int32 → Int32 → Int32 → mx_H → Option (Int32 × mx_H)} (hk_32 : ∀ (l0 : Nat) (l1 : Int32) (l2 : Int32) (l3 : Int32) (l4 : Int32) (h : mx_H) (r : (Int32 × mx_H)), kk_32 l0 l1 l2 l3 l4 h = some r → mx_S X F L 259 32 [(0, .ref l0), (1, .int l1), (2, .int l2), (3, .int l3), (4, .int l4)] [] h 0 0 (some (.int r.1), r.2, 0, 0)) (l0 : Nat) (l1 : Int32) (l2 : Int32) (l4 : Int32) (l5 : Int32) (h : mx_H) {r : (Int32 × mx_H)} (hf : j_X9_isName_108 nn kk_32 l0 l1 l2 l4 l5 h = some r) : mx_S X F L 259 108 [(0, .ref l0), (1, .int l1), (2, .int l2), (4, .int l4), (5, .int l5)] [] h 0 0 (some (.int r.1), r.2, 0, 0) := by
  have hm : mx_mt 259 = some (yX9_isName, cX9_isName, 7, (some .boolean)) := mt_X9_isName
  unfold j_X9_isName_108 at hf
  refine mx_S.pu (pc2 := 110) (lv2 := [(0, .ref l0), (1, .int l1), (2, .int l2), (4, .int l4), (5, .int l5)]) (st2 := [.int l5]) hm dX9_isName_108 rfl ?_
  refine sx_bi (v := 95) hm dX9_isName_110 (by decide) ?_
  rcases mx_if_el hf with ⟨c3, hf⟩ | ⟨c3, hf⟩
  · refine sb_ic_ne hm dX9_isName_112 (tgt := 119) rfl (fun _ => ?_) (fun z => absurd c3 z)
    refine mx_S.ext [(0, .ref l0), (1, .int l1), (2, .int l2), (4, .int l4)] (mx_sub_pos [0, 1, 2, 3] rfl (show ([0, 1, 2, 4, 5] : List Nat).Nodup by decide)) ?_
    exact j_X9_isName_119_ok X hF hL nn hk_32 l0 l1 l2 l4 h hf
  · refine sb_ic_ne hm dX9_isName_112 (tgt := 119) rfl (fun z => absurd z c3) (fun _ => ?_)
    refine mx_S.ext [(0, .ref l0), (1, .int l1), (2, .int l2), (4, .int l4)] (mx_sub_pos [0, 1, 2, 3] rfl (show ([0, 1, 2, 4, 5] : List Nat).Nodup by decide)) ?_
    exact j_X9_isName_115_ok X hF hL nn hk_32 l0 l1 l2 l4 h hf
set_option maxHeartbeats 4000000 in
set_option maxRecDepth 20000 in
theorem j_X9_isName_81_ok (X : Nat × (Nat → Int32)) {F L : Nat} (hF : 0 ≤ F) (hL : 0 ≤ L) (nn : Nat) {kk_32 : Nat → Int32 → Int32 → Int32 → Int32 → mx_H → Option (Int32 × mx_H)} (hk_32 : ∀ (l0 : Nat) (l1 : Int32) (l2 : Int32) (l3 : Int32) (l4 : Int32) (h : mx_H) (r : (Int32 × mx_H)), kk_32 l0 l1 l2 l3 l4 h = some r → mx_S X F L 259 32 [(0, .ref l0), (1, .int l1), (2, .int l2), (3, .int l3), (4, .int l4)] [] h 0 0 (some (.int r.1), r.2, 0, 0)) (l0 : Nat) (l1 : Int32) (l2 : Int32) (l4 : Int32) (l5 : Int32) (s0 : Int32) (h : mx_H) {r : (Int32 × mx_H)} (hf : j_X9_isName_81 nn kk_32 l0 l1 l2 l4 l5 s0 h = some r) : mx_S X F L 259 81 [(0, .ref l0), (1, .int l1), (2, .int l2), (4, .int l4), (5, .int l5)] [.int s0] h 0 0 (some (.int r.1), r.2, 0, 0) := by
  have hm : mx_mt 259 = some (yX9_isName, cX9_isName, 7, (some .boolean)) := mt_X9_isName
  unfold j_X9_isName_81 at hf
  refine mx_S.pu (pc2 := 83) (lv2 := [(6, .int s0), (0, .ref l0), (1, .int l1), (2, .int l2), (4, .int l4), (5, .int l5)]) (st2 := []) hm dX9_isName_81 rfl ?_
  refine mx_S.pu (pc2 := 85) (lv2 := [(6, .int s0), (0, .ref l0), (1, .int l1), (2, .int l2), (4, .int l4), (5, .int l5)]) (st2 := [.int s0]) hm dX9_isName_83 rfl ?_
  rcases mx_if_el hf with ⟨c7, hf⟩ | ⟨c7, hf⟩
  · refine sb_if_ne hm dX9_isName_85 (tgt := 115) rfl (fun _ => ?_) (fun z => absurd c7 z)
    refine mx_S.ext [(0, .ref l0), (1, .int l1), (2, .int l2), (4, .int l4)] (mx_sub_pos [1, 2, 3, 4] rfl (show ([6, 0, 1, 2, 4, 5] : List Nat).Nodup by decide)) ?_
    exact j_X9_isName_115_ok X hF hL nn hk_32 l0 l1 l2 l4 h hf
  · refine sb_if_ne hm dX9_isName_85 (tgt := 115) rfl (fun z => absurd z c7) (fun _ => ?_)
    refine mx_S.pu (pc2 := 90) (lv2 := [(6, .int s0), (0, .ref l0), (1, .int l1), (2, .int l2), (4, .int l4), (5, .int l5)]) (st2 := [.int l4]) hm dX9_isName_88 rfl ?_
    refine mx_S.pu (pc2 := 91) (lv2 := [(6, .int s0), (0, .ref l0), (1, .int l1), (2, .int l2), (4, .int l4), (5, .int l5)]) (st2 := [.int l1, .int l4]) hm dX9_isName_90 rfl ?_
    rcases mx_if_el hf with ⟨c6, hf⟩ | ⟨c6, hf⟩
    · refine sb_ic_le hm dX9_isName_91 (tgt := 119) rfl (fun _ => ?_) (fun z => absurd c6 z)
      refine mx_S.ext [(0, .ref l0), (1, .int l1), (2, .int l2), (4, .int l4)] (mx_sub_pos [1, 2, 3, 4] rfl (show ([6, 0, 1, 2, 4, 5] : List Nat).Nodup by decide)) ?_
      exact j_X9_isName_119_ok X hF hL nn hk_32 l0 l1 l2 l4 h hf
    · refine sb_ic_le hm dX9_isName_91 (tgt := 119) rfl (fun z => absurd z c6) (fun _ => ?_)
      refine mx_S.pu (pc2 := 96) (lv2 := [(6, .int s0), (0, .ref l0), (1, .int l1), (2, .int l2), (4, .int l4), (5, .int l5)]) (st2 := [.int l5]) hm dX9_isName_94 rfl ?_
      refine sx_bi (v := 48) hm dX9_isName_96 (by decide) ?_
      rcases mx_if_el hf with ⟨c5, hf⟩ | ⟨c5, hf⟩
      · refine sb_ic_lt hm dX9_isName_98 (tgt := 108) rfl (fun _ => ?_) (fun z => absurd c5 z)
        refine mx_S.ext [(0, .ref l0), (1, .int l1), (2, .int l2), (4, .int l4), (5, .int l5)] (mx_sub_pos [1, 2, 3, 4, 5] rfl (show ([6, 0, 1, 2, 4, 5] : List Nat).Nodup by decide)) ?_
        exact j_X9_isName_108_ok X hF hL nn hk_32 l0 l1 l2 l4 l5 h hf
      · refine sb_ic_lt hm dX9_isName_98 (tgt := 108) rfl (fun z => absurd z c5) (fun _ => ?_)
        refine mx_S.pu (pc2 := 103) (lv2 := [(6, .int s0), (0, .ref l0), (1, .int l1), (2, .int l2), (4, .int l4), (5, .int l5)]) (st2 := [.int l5]) hm dX9_isName_101 rfl ?_
        refine sx_bi (v := 57) hm dX9_isName_103 (by decide) ?_
        rcases mx_if_el hf with ⟨c4, hf⟩ | ⟨c4, hf⟩
        · refine sb_ic_le hm dX9_isName_105 (tgt := 115) rfl (fun _ => ?_) (fun z => absurd c4 z)
          refine mx_S.ext [(0, .ref l0), (1, .int l1), (2, .int l2), (4, .int l4)] (mx_sub_pos [1, 2, 3, 4] rfl (show ([6, 0, 1, 2, 4, 5] : List Nat).Nodup by decide)) ?_
          exact j_X9_isName_115_ok X hF hL nn hk_32 l0 l1 l2 l4 h hf
        · refine sb_ic_le hm dX9_isName_105 (tgt := 115) rfl (fun z => absurd z c4) (fun _ => ?_)
          refine mx_S.ext [(0, .ref l0), (1, .int l1), (2, .int l2), (4, .int l4), (5, .int l5)] (mx_sub_pos [1, 2, 3, 4, 5] rfl (show ([6, 0, 1, 2, 4, 5] : List Nat).Nodup by decide)) ?_
          exact j_X9_isName_108_ok X hF hL nn hk_32 l0 l1 l2 l4 l5 h hf
set_option maxHeartbeats 4000000 in
set_option maxRecDepth 20000 in
theorem j_X9_isName_80_ok (X : Nat × (Nat → Int32)) {F L : Nat} (hF : 0 ≤ F) (hL : 0 ≤ L) (nn : Nat) {kk_32 : Nat → Int32 → Int32 → Int32 → Int32 → mx_H → Option (Int32 × mx_H)} (hk_32 : ∀ (l0 : Nat) (l1 : Int32) (l2 : Int32) (l3 : Int32) (l4 : Int32) (h : mx_H) (r : (Int32 × mx_H)), kk_32 l0 l1 l2 l3 l4 h = some r → mx_S X F L 259 32 [(0, .ref l0), (1, .int l1), (2, .int l2), (3, .int l3), (4, .int l4)] [] h 0 0 (some (.int r.1), r.2, 0, 0)) (l0 : Nat) (l1 : Int32) (l2 : Int32) (l4 : Int32) (l5 : Int32) (h : mx_H) {r : (Int32 × mx_H)} (hf : j_X9_isName_80 nn kk_32 l0 l1 l2 l4 l5 h = some r) : mx_S X F L 259 80 [(0, .ref l0), (1, .int l1), (2, .int l2), (4, .int l4), (5, .int l5)] [] h 0 0 (some (.int r.1), r.2, 0, 0) := by
  have hm : mx_mt 259 = some (yX9_isName, cX9_isName, 7, (some .boolean)) := mt_X9_isName
  unfold j_X9_isName_80 at hf
  refine sx_ic (v := 0) hm dX9_isName_80 (by decide) ?_
  exact j_X9_isName_81_ok X hF hL nn hk_32 l0 l1 l2 l4 l5 0 h hf
set_option maxHeartbeats 4000000 in
set_option maxRecDepth 20000 in
theorem j_X9_isName_76_ok (X : Nat × (Nat → Int32)) {F L : Nat} (hF : 0 ≤ F) (hL : 0 ≤ L) (nn : Nat) {kk_32 : Nat → Int32 → Int32 → Int32 → Int32 → mx_H → Option (Int32 × mx_H)} (hk_32 : ∀ (l0 : Nat) (l1 : Int32) (l2 : Int32) (l3 : Int32) (l4 : Int32) (h : mx_H) (r : (Int32 × mx_H)), kk_32 l0 l1 l2 l3 l4 h = some r → mx_S X F L 259 32 [(0, .ref l0), (1, .int l1), (2, .int l2), (3, .int l3), (4, .int l4)] [] h 0 0 (some (.int r.1), r.2, 0, 0)) (l0 : Nat) (l1 : Int32) (l2 : Int32) (l4 : Int32) (l5 : Int32) (h : mx_H) {r : (Int32 × mx_H)} (hf : j_X9_isName_76 nn kk_32 l0 l1 l2 l4 l5 h = some r) : mx_S X F L 259 76 [(0, .ref l0), (1, .int l1), (2, .int l2), (4, .int l4), (5, .int l5)] [] h 0 0 (some (.int r.1), r.2, 0, 0) := by
  have hm : mx_mt 259 = some (yX9_isName, cX9_isName, 7, (some .boolean)) := mt_X9_isName
  unfold j_X9_isName_76 at hf
  refine sx_ic (v := 1) hm dX9_isName_76 (by decide) ?_
  refine mx_S.pu (pc2 := 81) (lv2 := [(0, .ref l0), (1, .int l1), (2, .int l2), (4, .int l4), (5, .int l5)]) (st2 := [.int 1]) hm dX9_isName_77 rfl ?_
  exact j_X9_isName_81_ok X hF hL nn hk_32 l0 l1 l2 l4 l5 1 h hf
set_option maxHeartbeats 4000000 in
set_option maxRecDepth 20000 in
theorem j_X9_isName_62_ok (X : Nat × (Nat → Int32)) {F L : Nat} (hF : 0 ≤ F) (hL : 0 ≤ L) (nn : Nat) {kk_32 : Nat → Int32 → Int32 → Int32 → Int32 → mx_H → Option (Int32 × mx_H)} (hk_32 : ∀ (l0 : Nat) (l1 : Int32) (l2 : Int32) (l3 : Int32) (l4 : Int32) (h : mx_H) (r : (Int32 × mx_H)), kk_32 l0 l1 l2 l3 l4 h = some r → mx_S X F L 259 32 [(0, .ref l0), (1, .int l1), (2, .int l2), (3, .int l3), (4, .int l4)] [] h 0 0 (some (.int r.1), r.2, 0, 0)) (l0 : Nat) (l1 : Int32) (l2 : Int32) (l4 : Int32) (l5 : Int32) (h : mx_H) {r : (Int32 × mx_H)} (hf : j_X9_isName_62 nn kk_32 l0 l1 l2 l4 l5 h = some r) : mx_S X F L 259 62 [(0, .ref l0), (1, .int l1), (2, .int l2), (4, .int l4), (5, .int l5)] [] h 0 0 (some (.int r.1), r.2, 0, 0) := by
  have hm : mx_mt 259 = some (yX9_isName, cX9_isName, 7, (some .boolean)) := mt_X9_isName
  unfold j_X9_isName_62 at hf
  refine mx_S.pu (pc2 := 64) (lv2 := [(0, .ref l0), (1, .int l1), (2, .int l2), (4, .int l4), (5, .int l5)]) (st2 := [.int l5]) hm dX9_isName_62 rfl ?_
  refine sx_bi (v := 65) hm dX9_isName_64 (by decide) ?_
  rcases mx_if_el hf with ⟨c9, hf⟩ | ⟨c9, hf⟩
  · refine sb_ic_lt hm dX9_isName_66 (tgt := 80) rfl (fun _ => ?_) (fun z => absurd c9 z)
    exact j_X9_isName_80_ok X hF hL nn hk_32 l0 l1 l2 l4 l5 h hf
  · refine sb_ic_lt hm dX9_isName_66 (tgt := 80) rfl (fun z => absurd z c9) (fun _ => ?_)
    refine mx_S.pu (pc2 := 71) (lv2 := [(0, .ref l0), (1, .int l1), (2, .int l2), (4, .int l4), (5, .int l5)]) (st2 := [.int l5]) hm dX9_isName_69 rfl ?_
    refine sx_bi (v := 90) hm dX9_isName_71 (by decide) ?_
    rcases mx_if_el hf with ⟨c8, hf⟩ | ⟨c8, hf⟩
    · refine sb_ic_gt hm dX9_isName_73 (tgt := 80) rfl (fun _ => ?_) (fun z => absurd c8 z)
      exact j_X9_isName_80_ok X hF hL nn hk_32 l0 l1 l2 l4 l5 h hf
    · refine sb_ic_gt hm dX9_isName_73 (tgt := 80) rfl (fun z => absurd z c8) (fun _ => ?_)
      exact j_X9_isName_76_ok X hF hL nn hk_32 l0 l1 l2 l4 l5 h hf
set_option maxHeartbeats 4000000 in
set_option maxRecDepth 20000 in
theorem w_X9_isName_32_ok (X : Nat × (Nat → Int32)) {F L : Nat} (hF : 0 ≤ F) (hL : 0 ≤ L) (nn : Nat) : ∀ (k : Nat) (l0 : Nat) (l1 : Int32) (l2 : Int32) (l3 : Int32) (l4 : Int32) (h : mx_H) (r : (Int32 × mx_H)), w_X9_isName_32 nn k l0 l1 l2 l3 l4 h = some r → mx_S X F L 259 32 [(0, .ref l0), (1, .int l1), (2, .int l2), (3, .int l3), (4, .int l4)] [] h 0 0 (some (.int r.1), r.2, 0, 0) := by
  have hm : mx_mt 259 = some (yX9_isName, cX9_isName, 7, (some .boolean)) := mt_X9_isName
  intro k
  induction k with
  | zero => intro l0 l1 l2 l3 l4 h r hf; cases hf
  | succ k ih =>
    intro l0 l1 l2 l3 l4 h r hf
    unfold w_X9_isName_32 at hf
    refine mx_S.pu (pc2 := 34) (lv2 := [(0, .ref l0), (1, .int l1), (2, .int l2), (3, .int l3), (4, .int l4)]) (st2 := [.int l4]) hm dX9_isName_32 rfl ?_
    refine mx_S.pu (pc2 := 35) (lv2 := [(0, .ref l0), (1, .int l1), (2, .int l2), (3, .int l3), (4, .int l4)]) (st2 := [.int l2, .int l4]) hm dX9_isName_34 rfl ?_
    rcases mx_if_el hf with ⟨c16, hf⟩ | ⟨c16, hf⟩
    · refine sb_ic_ge hm dX9_isName_35 (tgt := 127) rfl (fun _ => ?_) (fun z => absurd c16 z)
      refine mx_S.pu (pc2 := 128) (lv2 := [(0, .ref l0), (1, .int l1), (2, .int l2), (3, .int l3), (4, .int l4)]) (st2 := [.int l3]) hm dX9_isName_127 rfl ?_
      replace hf := mx_gd_el hf; obtain ⟨c10, hf⟩ := hf
      cases hf
      exact sx_ire hm dX9_isName_128 rfl (xbq_ok c10).1
    · refine sb_ic_ge hm dX9_isName_35 (tgt := 127) rfl (fun z => absurd z c16) (fun _ => ?_)
      refine mx_S.pu (pc2 := 39) (lv2 := [(0, .ref l0), (1, .int l1), (2, .int l2), (3, .int l3), (4, .int l4)]) (st2 := [.int l3]) hm dX9_isName_38 rfl ?_
      rcases mx_if_el hf with ⟨c15, hf⟩ | ⟨c15, hf⟩
      · refine sb_if_eq hm dX9_isName_39 (tgt := 127) rfl (fun _ => ?_) (fun z => absurd c15 z)
        refine mx_S.pu (pc2 := 128) (lv2 := [(0, .ref l0), (1, .int l1), (2, .int l2), (3, .int l3), (4, .int l4)]) (st2 := [.int l3]) hm dX9_isName_127 rfl ?_
        replace hf := mx_gd_el hf; obtain ⟨c11, hf⟩ := hf
        cases hf
        exact sx_ire hm dX9_isName_128 rfl (xbq_ok c11).1
      · refine sb_if_eq hm dX9_isName_39 (tgt := 127) rfl (fun z => absurd z c15) (fun _ => ?_)
        refine mx_S.pu (pc2 := 43) (lv2 := [(0, .ref l0), (1, .int l1), (2, .int l2), (3, .int l3), (4, .int l4)]) (st2 := [.ref l0]) hm dX9_isName_42 rfl ?_
        refine mx_S.pu (pc2 := 45) (lv2 := [(0, .ref l0), (1, .int l1), (2, .int l2), (3, .int l3), (4, .int l4)]) (st2 := [.int l4, .ref l0]) hm dX9_isName_43 rfl ?_
        replace hf := mx_sv_el hf; obtain ⟨v12, e_v12, hf⟩ := hf
        refine sx_bld hm dX9_isName_45 e_v12 ?_
        clear e_v12
        refine mx_S.pu (pc2 := 48) (lv2 := [(5, .int v12), (0, .ref l0), (1, .int l1), (2, .int l2), (3, .int l3), (4, .int l4)]) (st2 := []) hm dX9_isName_46 rfl ?_
        refine mx_S.pu (pc2 := 50) (lv2 := [(5, .int v12), (0, .ref l0), (1, .int l1), (2, .int l2), (3, .int l3), (4, .int l4)]) (st2 := [.int v12]) hm dX9_isName_48 rfl ?_
        refine sx_bi (v := 97) hm dX9_isName_50 (by decide) ?_
        rcases mx_if_el hf with ⟨c14, hf⟩ | ⟨c14, hf⟩
        · refine sb_ic_lt hm dX9_isName_52 (tgt := 62) rfl (fun _ => ?_) (fun z => absurd c14 z)
          refine mx_S.ext [(0, .ref l0), (1, .int l1), (2, .int l2), (4, .int l4), (5, .int v12)] (mx_sub_pos [1, 2, 3, 5, 0] rfl (show ([5, 0, 1, 2, 3, 4] : List Nat).Nodup by decide)) ?_
          exact j_X9_isName_62_ok X hF hL nn ih l0 l1 l2 l4 v12 h hf
        · refine sb_ic_lt hm dX9_isName_52 (tgt := 62) rfl (fun z => absurd z c14) (fun _ => ?_)
          refine mx_S.pu (pc2 := 57) (lv2 := [(5, .int v12), (0, .ref l0), (1, .int l1), (2, .int l2), (3, .int l3), (4, .int l4)]) (st2 := [.int v12]) hm dX9_isName_55 rfl ?_
          refine sx_bi (v := 122) hm dX9_isName_57 (by decide) ?_
          rcases mx_if_el hf with ⟨c13, hf⟩ | ⟨c13, hf⟩
          · refine sb_ic_le hm dX9_isName_59 (tgt := 76) rfl (fun _ => ?_) (fun z => absurd c13 z)
            refine mx_S.ext [(0, .ref l0), (1, .int l1), (2, .int l2), (4, .int l4), (5, .int v12)] (mx_sub_pos [1, 2, 3, 5, 0] rfl (show ([5, 0, 1, 2, 3, 4] : List Nat).Nodup by decide)) ?_
            exact j_X9_isName_76_ok X hF hL nn ih l0 l1 l2 l4 v12 h hf
          · refine sb_ic_le hm dX9_isName_59 (tgt := 76) rfl (fun z => absurd z c13) (fun _ => ?_)
            refine mx_S.ext [(0, .ref l0), (1, .int l1), (2, .int l2), (4, .int l4), (5, .int v12)] (mx_sub_pos [1, 2, 3, 5, 0] rfl (show ([5, 0, 1, 2, 3, 4] : List Nat).Nodup by decide)) ?_
            exact j_X9_isName_62_ok X hF hL nn ih l0 l1 l2 l4 v12 h hf
set_option maxHeartbeats 4000000 in
set_option maxRecDepth 20000 in
theorem j_X9_isName_27_ok (X : Nat × (Nat → Int32)) {F L : Nat} (hF : 0 ≤ F) (hL : 0 ≤ L) (nn : Nat) (l0 : Nat) (l1 : Int32) (l2 : Int32) (h : mx_H) {r : (Int32 × mx_H)} (hf : j_X9_isName_27 nn l0 l1 l2 h = some r) : mx_S X F L 259 27 [(0, .ref l0), (1, .int l1), (2, .int l2)] [] h 0 0 (some (.int r.1), r.2, 0, 0) := by
  have hm : mx_mt 259 = some (yX9_isName, cX9_isName, 7, (some .boolean)) := mt_X9_isName
  unfold j_X9_isName_27 at hf
  refine sx_ic (v := 0) hm dX9_isName_27 (by decide) ?_
  refine mx_S.pu (pc2 := 29) (lv2 := [(3, .int 0), (0, .ref l0), (1, .int l1), (2, .int l2)]) (st2 := []) hm dX9_isName_28 rfl ?_
  refine mx_S.pu (pc2 := 30) (lv2 := [(3, .int 0), (0, .ref l0), (1, .int l1), (2, .int l2)]) (st2 := [.int l1]) hm dX9_isName_29 rfl ?_
  refine mx_S.pu (pc2 := 32) (lv2 := [(4, .int l1), (3, .int 0), (0, .ref l0), (1, .int l1), (2, .int l2)]) (st2 := []) hm dX9_isName_30 rfl ?_
  refine mx_S.ext [(0, .ref l0), (1, .int l1), (2, .int l2), (3, .int 0), (4, .int l1)] (mx_sub_pos [2, 3, 4, 1, 0] rfl (show ([4, 3, 0, 1, 2] : List Nat).Nodup by decide)) ?_
  exact w_X9_isName_32_ok X hF hL nn nn l0 l1 l2 0 l1 h _ hf
set_option maxHeartbeats 4000000 in
set_option maxRecDepth 20000 in
theorem f_X9_isName_ok (X : Nat × (Nat → Int32)) {F L : Nat} (hF : 0 ≤ F) (hL : 0 ≤ L) (nn : Nat) (a0 : Nat) (a1 : Int32) (a2 : Int32) (h : mx_H) {r : (Int32 × mx_H)} (hf : f_X9_isName nn a0 a1 a2 h = some r) : mx_R X F L 259 [.ref a0, .int a1, .int a2] h (some (.int r.1), r.2, 0, 0) := by
  have hm : mx_mt 259 = some (yX9_isName, cX9_isName, 7, (some .boolean)) := mt_X9_isName
  show mx_S X F L 259 0 [(0, .ref a0), (1, .int a1), (2, .int a2)] [] h 0 0 (some (.int r.1), r.2, 0, 0)
  unfold f_X9_isName at hf
  refine mx_S.pu (pc2 := 1) (lv2 := [(0, .ref a0), (1, .int a1), (2, .int a2)]) (st2 := [.int a1]) hm dX9_isName_0 rfl ?_
  rcases mx_if_el hf with ⟨c22, hf⟩ | ⟨c22, hf⟩
  · refine sb_if_lt hm dX9_isName_1 (tgt := 27) rfl (fun _ => ?_) (fun z => absurd c22 z)
    exact j_X9_isName_27_ok X hF hL nn a0 a1 a2 h hf
  · refine sb_if_lt hm dX9_isName_1 (tgt := 27) rfl (fun z => absurd z c22) (fun _ => ?_)
    refine mx_S.pu (pc2 := 5) (lv2 := [(0, .ref a0), (1, .int a1), (2, .int a2)]) (st2 := [.int a1]) hm dX9_isName_4 rfl ?_
    refine mx_S.pu (pc2 := 6) (lv2 := [(0, .ref a0), (1, .int a1), (2, .int a2)]) (st2 := [.int a2, .int a1]) hm dX9_isName_5 rfl ?_
    rcases mx_if_el hf with ⟨c21, hf⟩ | ⟨c21, hf⟩
    · refine sb_ic_ge hm dX9_isName_6 (tgt := 27) rfl (fun _ => ?_) (fun z => absurd c21 z)
      exact j_X9_isName_27_ok X hF hL nn a0 a1 a2 h hf
    · refine sb_ic_ge hm dX9_isName_6 (tgt := 27) rfl (fun z => absurd z c21) (fun _ => ?_)
      refine mx_S.pu (pc2 := 10) (lv2 := [(0, .ref a0), (1, .int a1), (2, .int a2)]) (st2 := [.int a2]) hm dX9_isName_9 rfl ?_
      refine mx_S.pu (pc2 := 11) (lv2 := [(0, .ref a0), (1, .int a1), (2, .int a2)]) (st2 := [.ref a0, .int a2]) hm dX9_isName_10 rfl ?_
      replace hf := mx_sv_el hf; obtain ⟨v17, e_v17, hf⟩ := hf
      refine sx_len hm dX9_isName_11 e_v17 ?_
      clear e_v17
      rcases mx_if_el hf with ⟨c20, hf⟩ | ⟨c20, hf⟩
      · refine sb_ic_gt hm dX9_isName_12 (tgt := 27) rfl (fun _ => ?_) (fun z => absurd c20 z)
        exact j_X9_isName_27_ok X hF hL nn a0 a1 a2 h hf
      · refine sb_ic_gt hm dX9_isName_12 (tgt := 27) rfl (fun z => absurd z c20) (fun _ => ?_)
        refine mx_S.pu (pc2 := 16) (lv2 := [(0, .ref a0), (1, .int a1), (2, .int a2)]) (st2 := [.int a2]) hm dX9_isName_15 rfl ?_
        refine mx_S.pu (pc2 := 17) (lv2 := [(0, .ref a0), (1, .int a1), (2, .int a2)]) (st2 := [.int a1, .int a2]) hm dX9_isName_16 rfl ?_
        replace hf := xl_el hf; obtain ⟨v18, e_v18, hf⟩ := hf
        refine mx_S.pu (pc2 := 18) (lv2 := [(0, .ref a0), (1, .int a1), (2, .int a2)]) (st2 := [.int v18]) hm dX9_isName_17 (by rw [← e_v18]; rfl) ?_
        clear e_v18
        refine sx_bi (v := 12) hm dX9_isName_18 (by decide) ?_
        rcases mx_if_el hf with ⟨c19, hf⟩ | ⟨c19, hf⟩
        · refine sb_ic_gt hm dX9_isName_20 (tgt := 27) rfl (fun _ => ?_) (fun z => absurd c19 z)
          exact j_X9_isName_27_ok X hF hL nn a0 a1 a2 h hf
        · refine sb_ic_gt hm dX9_isName_20 (tgt := 27) rfl (fun z => absurd z c19) (fun _ => ?_)
          refine sx_ic (v := 1) hm dX9_isName_23 (by decide) ?_
          refine mx_S.pu (pc2 := 28) (lv2 := [(0, .ref a0), (1, .int a1), (2, .int a2)]) (st2 := [.int 1]) hm dX9_isName_24 rfl ?_
          refine mx_S.pu (pc2 := 29) (lv2 := [(3, .int 1), (0, .ref a0), (1, .int a1), (2, .int a2)]) (st2 := []) hm dX9_isName_28 rfl ?_
          refine mx_S.pu (pc2 := 30) (lv2 := [(3, .int 1), (0, .ref a0), (1, .int a1), (2, .int a2)]) (st2 := [.int a1]) hm dX9_isName_29 rfl ?_
          refine mx_S.pu (pc2 := 32) (lv2 := [(4, .int a1), (3, .int 1), (0, .ref a0), (1, .int a1), (2, .int a2)]) (st2 := []) hm dX9_isName_30 rfl ?_
          refine mx_S.ext [(0, .ref a0), (1, .int a1), (2, .int a2), (3, .int 1), (4, .int a1)] (mx_sub_pos [2, 3, 4, 1, 0] rfl (show ([4, 3, 0, 1, 2] : List Nat).Nodup by decide)) ?_
          exact w_X9_isName_32_ok X hF hL nn nn a0 a1 a2 1 a1 h _ hf
set_option maxHeartbeats 4000000 in
set_option maxRecDepth 20000 in
theorem j_X3_behindKind_111_ok (X : Nat × (Nat → Int32)) {F L : Nat} (hF : 1 ≤ F) (hL : 26 ≤ L) (nn : Nat) (l0 : Nat) (l2 : Int32) (l4 : Int32) (l5 : Int32) (h : mx_H) {r : (Int32 × mx_H)} (hf : j_X3_behindKind_111 nn l0 l2 l4 l5 h = some r) : mx_S X F L 115 111 [(0, .ref l0), (2, .int l2), (4, .int l4), (5, .int l5)] [] h 0 0 (some (.int r.1), r.2, 0, 0) := by
  have hm : mx_mt 115 = some (yX3_behindKind, cX3_behindKind, 6, (some .int)) := mt_X3_behindKind
  unfold j_X3_behindKind_111 at hf
  refine mx_S.pu (pc2 := 113) (lv2 := [(0, .ref l0), (2, .int l2), (4, .int l4), (5, .int l5)]) (st2 := [.int l5]) hm dX3_behindKind_111 rfl ?_
  refine mx_S.pu (pc2 := 114) (lv2 := [(0, .ref l0), (2, .int l2), (4, .int l4), (5, .int l5)]) (st2 := [.int l2, .int l5]) hm dX3_behindKind_113 rfl ?_
  rcases mx_if_el hf with ⟨c6, hf⟩ | ⟨c6, hf⟩
  · refine sb_ic_ge hm dX3_behindKind_114 (tgt := 140) rfl (fun _ => ?_) (fun z => absurd c6 z)
    refine sx_ic (v := (-1)) hm dX3_behindKind_140 (by decide) ?_
    cases hf
    exact sx_ire hm dX3_behindKind_141 rfl rfl
  · refine sb_ic_ge hm dX3_behindKind_114 (tgt := 140) rfl (fun z => absurd z c6) (fun _ => ?_)
    refine mx_S.pu (pc2 := 118) (lv2 := [(0, .ref l0), (2, .int l2), (4, .int l4), (5, .int l5)]) (st2 := [.ref l0]) hm dX3_behindKind_117 rfl ?_
    replace hf := mx_sv_el hf; obtain ⟨v1, e_v1, hf⟩ := hf
    refine sx_get hm dX3_behindKind_118 rs_RX3_9 (xgr_el e_v1) ?_
    clear e_v1
    refine mx_S.pu (pc2 := 123) (lv2 := [(0, .ref l0), (2, .int l2), (4, .int l4), (5, .int l5)]) (st2 := [.int l4, .ref v1]) hm dX3_behindKind_121 rfl ?_
    refine sx_ic (v := 1) hm dX3_behindKind_123 (by decide) ?_
    replace hf := xl_el hf; obtain ⟨v2, e_v2, hf⟩ := hf
    refine mx_S.pu (pc2 := 125) (lv2 := [(0, .ref l0), (2, .int l2), (4, .int l4), (5, .int l5)]) (st2 := [.int v2, .ref v1]) hm dX3_behindKind_124 (by rw [← e_v2]; rfl) ?_
    clear e_v2
    refine mx_S.pu (pc2 := 127) (lv2 := [(0, .ref l0), (2, .int l2), (4, .int l4), (5, .int l5)]) (st2 := [.int l5, .int v2, .ref v1]) hm dX3_behindKind_125 rfl ?_
    replace hf := mx_sv_el hf; obtain ⟨u3, e_u3, hf⟩ := hf
    refine sx_cs hm dX3_behindKind_127 rs_RX3_143 mt_X9_isName [.ref v1, .int v2, .int l5] [] rfl rfl (Nat.le_of_ble_eq_true rfl) (Nat.le_of_ble_eq_true rfl) (by omega) (by omega) (f_X9_isName_ok X (by omega) (by omega) nn v1 v2 l5 h e_u3) ?_
    clear e_u3
    show mx_S X F L 115 130 [(0, .ref l0), (2, .int l2), (4, .int l4), (5, .int l5)] [.int u3.1] u3.2 0 0 (some (.int r.1), r.2, 0, 0)
    rcases mx_if_el hf with ⟨c5, hf⟩ | ⟨c5, hf⟩
    · refine sb_if_eq hm dX3_behindKind_130 (tgt := 140) rfl (fun _ => ?_) (fun z => absurd c5 z)
      refine sx_ic (v := (-1)) hm dX3_behindKind_140 (by decide) ?_
      cases hf
      exact sx_ire hm dX3_behindKind_141 rfl rfl
    · refine sb_if_eq hm dX3_behindKind_130 (tgt := 140) rfl (fun z => absurd z c5) (fun _ => ?_)
      refine mx_S.pu (pc2 := 135) (lv2 := [(0, .ref l0), (2, .int l2), (4, .int l4), (5, .int l5)]) (st2 := [.int l5]) hm dX3_behindKind_133 rfl ?_
      refine sx_ic (v := 1) hm dX3_behindKind_135 (by decide) ?_
      replace hf := xl_el hf; obtain ⟨v4, e_v4, hf⟩ := hf
      refine mx_S.pu (pc2 := 137) (lv2 := [(0, .ref l0), (2, .int l2), (4, .int l4), (5, .int l5)]) (st2 := [.int v4]) hm dX3_behindKind_136 (by rw [← e_v4]; rfl) ?_
      clear e_v4
      refine mx_S.pu (pc2 := 141) (lv2 := [(0, .ref l0), (2, .int l2), (4, .int l4), (5, .int l5)]) (st2 := [.int v4]) hm dX3_behindKind_137 rfl ?_
      cases hf
      exact sx_ire hm dX3_behindKind_141 rfl rfl
set_option maxHeartbeats 4000000 in
set_option maxRecDepth 20000 in
theorem w_X3_behindKind_88_ok (X : Nat × (Nat → Int32)) {F L : Nat} (hF : 1 ≤ F) (hL : 26 ≤ L) (nn : Nat) : ∀ (k : Nat) (l0 : Nat) (l2 : Int32) (l4 : Int32) (l5 : Int32) (h : mx_H) (r : (Int32 × mx_H)), w_X3_behindKind_88 nn k l0 l2 l4 l5 h = some r → mx_S X F L 115 88 [(0, .ref l0), (2, .int l2), (4, .int l4), (5, .int l5)] [] h 0 0 (some (.int r.1), r.2, 0, 0) := by
  have hm : mx_mt 115 = some (yX3_behindKind, cX3_behindKind, 6, (some .int)) := mt_X3_behindKind
  intro k
  induction k with
  | zero => intro l0 l2 l4 l5 h r hf; cases hf
  | succ k ih =>
    intro l0 l2 l4 l5 h r hf
    unfold w_X3_behindKind_88 at hf
    refine mx_S.pu (pc2 := 90) (lv2 := [(0, .ref l0), (2, .int l2), (4, .int l4), (5, .int l5)]) (st2 := [.int l5]) hm dX3_behindKind_88 rfl ?_
    refine mx_S.pu (pc2 := 91) (lv2 := [(0, .ref l0), (2, .int l2), (4, .int l4), (5, .int l5)]) (st2 := [.int l2, .int l5]) hm dX3_behindKind_90 rfl ?_
    rcases mx_if_el hf with ⟨c11, hf⟩ | ⟨c11, hf⟩
    · refine sb_ic_ge hm dX3_behindKind_91 (tgt := 111) rfl (fun _ => ?_) (fun z => absurd c11 z)
      exact j_X3_behindKind_111_ok X hF hL nn l0 l2 l4 l5 h hf
    · refine sb_ic_ge hm dX3_behindKind_91 (tgt := 111) rfl (fun z => absurd z c11) (fun _ => ?_)
      refine mx_S.pu (pc2 := 95) (lv2 := [(0, .ref l0), (2, .int l2), (4, .int l4), (5, .int l5)]) (st2 := [.ref l0]) hm dX3_behindKind_94 rfl ?_
      refine mx_S.pu (pc2 := 97) (lv2 := [(0, .ref l0), (2, .int l2), (4, .int l4), (5, .int l5)]) (st2 := [.int l5, .ref l0]) hm dX3_behindKind_95 rfl ?_
      replace hf := mx_gd_el hf; obtain ⟨c7, hf⟩ := hf
      replace hf := mx_sv_el hf; obtain ⟨u8, e_u8, hf⟩ := hf
      refine sx_cv hm dX3_behindKind_97 rs_RX3_119 mt_X3_byteAt [.int l5] [] (b := l0) (ci := 3) rfl rfl rfl c7 (Nat.le_of_ble_eq_true rfl) (Nat.le_of_ble_eq_true rfl) (by omega) (by omega) (f_X3_byteAt_ok X (by omega) (by omega) nn l0 l5 h e_u8) ?_
      clear e_u8
      show mx_S X F L 115 100 [(0, .ref l0), (2, .int l2), (4, .int l4), (5, .int l5)] [.int u8.1] u8.2 0 0 (some (.int r.1), r.2, 0, 0)
      refine sx_bi (v := 59) hm dX3_behindKind_100 (by decide) ?_
      rcases mx_if_el hf with ⟨c10, hf⟩ | ⟨c10, hf⟩
      · refine sb_ic_eq hm dX3_behindKind_102 (tgt := 111) rfl (fun _ => ?_) (fun z => absurd c10 z)
        exact j_X3_behindKind_111_ok X hF hL nn l0 l2 l4 l5 u8.2 hf
      · refine sb_ic_eq hm dX3_behindKind_102 (tgt := 111) rfl (fun z => absurd z c10) (fun _ => ?_)
        replace hf := xl_el hf; obtain ⟨v9, e_v9, hf⟩ := hf
        refine mx_S.pu (pc2 := 108) (lv2 := [(5, .int v9), (0, .ref l0), (2, .int l2), (4, .int l4)]) (st2 := []) hm dX3_behindKind_105 (by rw [← e_v9]; rfl) ?_
        clear e_v9
        refine mx_S.pu (pc2 := 88) (lv2 := [(5, .int v9), (0, .ref l0), (2, .int l2), (4, .int l4)]) (st2 := []) hm dX3_behindKind_108 rfl ?_
        refine mx_S.ext [(0, .ref l0), (2, .int l2), (4, .int l4), (5, .int v9)] (mx_sub_pos [1, 2, 3, 0] rfl (show ([5, 0, 2, 4] : List Nat).Nodup by decide)) ?_
        exact ih l0 l2 l4 v9 u8.2 _ hf
set_option maxHeartbeats 4000000 in
set_option maxRecDepth 20000 in
theorem j_X3_behindKind_62_ok (X : Nat × (Nat → Int32)) {F L : Nat} (hF : 1 ≤ F) (hL : 26 ≤ L) (nn : Nat) (l0 : Nat) (l2 : Int32) (l4 : Int32) (s0 : Int32) (h : mx_H) {r : (Int32 × mx_H)} (hf : j_X3_behindKind_62 nn l0 l2 l4 s0 h = some r) : mx_S X F L 115 62 [(0, .ref l0), (2, .int l2), (4, .int l4)] [.int s0] h 0 0 (some (.int r.1), r.2, 0, 0) := by
  have hm : mx_mt 115 = some (yX3_behindKind, cX3_behindKind, 6, (some .int)) := mt_X3_behindKind
  unfold j_X3_behindKind_62 at hf
  refine mx_S.pu (pc2 := 63) (lv2 := [(3, .int s0), (0, .ref l0), (2, .int l2), (4, .int l4)]) (st2 := []) hm dX3_behindKind_62 rfl ?_
  refine mx_S.pu (pc2 := 64) (lv2 := [(3, .int s0), (0, .ref l0), (2, .int l2), (4, .int l4)]) (st2 := [.int s0]) hm dX3_behindKind_63 rfl ?_
  refine sx_bi (v := 73) hm dX3_behindKind_64 (by decide) ?_
  rcases mx_if_el hf with ⟨c15, hf⟩ | ⟨c15, hf⟩
  · refine sb_ic_ne hm dX3_behindKind_66 (tgt := 74) rfl (fun _ => ?_) (fun z => absurd c15 z)
    refine mx_S.pu (pc2 := 75) (lv2 := [(3, .int s0), (0, .ref l0), (2, .int l2), (4, .int l4)]) (st2 := [.int s0]) hm dX3_behindKind_74 rfl ?_
    refine sx_bi (v := 76) hm dX3_behindKind_75 (by decide) ?_
    rcases mx_if_el hf with ⟨c13, hf⟩ | ⟨c13, hf⟩
    · refine sb_ic_eq hm dX3_behindKind_77 (tgt := 82) rfl (fun _ => ?_) (fun z => absurd c13 z)
      refine mx_S.pu (pc2 := 84) (lv2 := [(3, .int s0), (0, .ref l0), (2, .int l2), (4, .int l4)]) (st2 := [.int l4]) hm dX3_behindKind_82 rfl ?_
      refine sx_ic (v := 1) hm dX3_behindKind_84 (by decide) ?_
      replace hf := xl_el hf; obtain ⟨v12, e_v12, hf⟩ := hf
      refine mx_S.pu (pc2 := 86) (lv2 := [(3, .int s0), (0, .ref l0), (2, .int l2), (4, .int l4)]) (st2 := [.int v12]) hm dX3_behindKind_85 (by rw [← e_v12]; rfl) ?_
      clear e_v12
      refine mx_S.pu (pc2 := 88) (lv2 := [(5, .int v12), (3, .int s0), (0, .ref l0), (2, .int l2), (4, .int l4)]) (st2 := []) hm dX3_behindKind_86 rfl ?_
      refine mx_S.ext [(0, .ref l0), (2, .int l2), (4, .int l4), (5, .int v12)] (mx_sub_pos [2, 3, 4, 0] rfl (show ([5, 3, 0, 2, 4] : List Nat).Nodup by decide)) ?_
      exact w_X3_behindKind_88_ok X hF hL nn nn l0 l2 l4 v12 h _ hf
    · refine sb_ic_eq hm dX3_behindKind_77 (tgt := 82) rfl (fun z => absurd z c13) (fun _ => ?_)
      refine sx_ic (v := (-1)) hm dX3_behindKind_80 (by decide) ?_
      cases hf
      exact sx_ire hm dX3_behindKind_81 rfl rfl
  · refine sb_ic_ne hm dX3_behindKind_66 (tgt := 74) rfl (fun z => absurd z c15) (fun _ => ?_)
    refine mx_S.pu (pc2 := 71) (lv2 := [(3, .int s0), (0, .ref l0), (2, .int l2), (4, .int l4)]) (st2 := [.int l4]) hm dX3_behindKind_69 rfl ?_
    refine sx_ic (v := 1) hm dX3_behindKind_71 (by decide) ?_
    replace hf := xl_el hf; obtain ⟨v14, e_v14, hf⟩ := hf
    refine mx_S.pu (pc2 := 73) (lv2 := [(3, .int s0), (0, .ref l0), (2, .int l2), (4, .int l4)]) (st2 := [.int v14]) hm dX3_behindKind_72 (by rw [← e_v14]; rfl) ?_
    clear e_v14
    cases hf
    exact sx_ire hm dX3_behindKind_73 rfl rfl
