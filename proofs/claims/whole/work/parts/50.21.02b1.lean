set_option maxHeartbeats 4000000 in
set_option maxRecDepth 20000 in
theorem f_X1_op__ok (X : Nat × (Nat → Int32)) {F L : Nat} (hF : 1 ≤ F) (hL : 21 ≤ L) (nn : Nat) (a0 : Nat) (a1 : Int32) (a2 : Int32) (h : mx_H) {r : mx_H} (hf : f_X1_op_ nn a0 a1 a2 h = some r) : mx_R X F L 28 [.ref a0, .int a1, .int a2] h (none, r, 0, 0) := by
  have hm : mx_mt 28 = some (yX1_op_, cX1_op_, 3, none) := mt_X1_op_
  show mx_S X F L 28 0 [(0, .ref a0), (1, .int a1), (2, .int a2)] [] h 0 0 (none, r, 0, 0)
  unfold f_X1_op_ at hf
  refine mx_S.pu (pc2 := 1) (lv2 := [(0, .ref a0), (1, .int a1), (2, .int a2)]) (st2 := [.ref a0]) hm dX1_op__0 rfl ?_
  refine mx_S.pu (pc2 := 2) (lv2 := [(0, .ref a0), (1, .int a1), (2, .int a2)]) (st2 := [.int a1, .ref a0]) hm dX1_op__1 rfl ?_
  replace hf := mx_gd_el hf; obtain ⟨c1, hf⟩ := hf
  replace hf := mx_sv_el hf; obtain ⟨u2, e_u2, hf⟩ := hf
  refine sx_cv hm dX1_op__2 rs_RX1_65 mt_X1_op [.int a1] [] (b := a0) (ci := 1) rfl rfl rfl c1 (Nat.le_of_ble_eq_true rfl) (Nat.le_of_ble_eq_true rfl) (by omega) (by omega) (f_X1_op_ok X (by omega) (by omega) nn a0 a1 h e_u2) ?_
  clear e_u2
  show mx_S X F L 28 5 [(0, .ref a0), (1, .int a1), (2, .int a2)] [] u2 0 0 (none, r, 0, 0)
  refine mx_S.pu (pc2 := 6) (lv2 := [(0, .ref a0), (1, .int a1), (2, .int a2)]) (st2 := [.ref a0]) hm dX1_op__5 rfl ?_
  refine mx_S.pu (pc2 := 7) (lv2 := [(0, .ref a0), (1, .int a1), (2, .int a2)]) (st2 := [.int a2, .ref a0]) hm dX1_op__6 rfl ?_
  replace hf := mx_gd_el hf; obtain ⟨c3, hf⟩ := hf
  replace hf := mx_sv_el hf; obtain ⟨u4, e_u4, hf⟩ := hf
  refine sx_cv hm dX1_op__7 rs_RX1_65 mt_X1_op [.int a2] [] (b := a0) (ci := 1) rfl rfl rfl c3 (Nat.le_of_ble_eq_true rfl) (Nat.le_of_ble_eq_true rfl) (by omega) (by omega) (f_X1_op_ok X (by omega) (by omega) nn a0 a2 u2 e_u4) ?_
  clear e_u4
  show mx_S X F L 28 10 [(0, .ref a0), (1, .int a1), (2, .int a2)] [] u4 0 0 (none, r, 0, 0)
  cases hf
  exact sx_ret hm dX1_op__10 rfl
set_option maxHeartbeats 4000000 in
set_option maxRecDepth 20000 in
theorem j_X10_readInstanceof_66_ok (X : Nat × (Nat → Int32)) {F L : Nat} (hF : 3 ≤ F) (hL : 81 ≤ L) (nn : Nat) (l0 : Nat) (h : mx_H) {r : mx_H} (hf : j_X10_readInstanceof_66 nn l0 h = some r) : mx_S X F L 285 66 [(0, .ref l0)] [] h 0 0 (none, r, 0, 0) := by
  have hm : mx_mt 285 = some (yX10_readInstanceof, cX10_readInstanceof, 3, none) := mt_X10_readInstanceof
  unfold j_X10_readInstanceof_66 at hf
  refine mx_S.pu (pc2 := 67) (lv2 := [(0, .ref l0)]) (st2 := [.ref l0]) hm dX10_readInstanceof_66 rfl ?_
  refine sx_si (v := 302) hm dX10_readInstanceof_67 (by decide) ?_
  replace hf := mx_sv_el hf; obtain ⟨h1, e_h1, hf⟩ := hf
  refine sx_put hm dX10_readInstanceof_70 rs_RX10_75 ft_10_12 ⟨rfl, rfl⟩ (fun z => by cases z) e_h1 ?_
  clear e_h1
  refine mx_S.pu (pc2 := 74) (lv2 := [(0, .ref l0)]) (st2 := [.ref l0]) hm dX10_readInstanceof_73 rfl ?_
  refine sx_ic (v := 0) hm dX10_readInstanceof_74 (by decide) ?_
  replace hf := mx_sv_el hf; obtain ⟨h2, e_h2, hf⟩ := hf
  refine sx_put hm dX10_readInstanceof_75 rs_RX10_133 ft_10_11 ⟨rfl, rfl⟩ (fun z => by cases z) e_h2 ?_
  clear e_h2
  cases hf
  exact sx_ret hm dX10_readInstanceof_78 rfl
set_option maxHeartbeats 4000000 in
set_option maxRecDepth 20000 in
theorem f_X10_readInstanceof_ok (X : Nat × (Nat → Int32)) {F L : Nat} (hF : 3 ≤ F) (hL : 81 ≤ L) (nn : Nat) (a0 : Nat) (h : mx_H) {r : mx_H} (hf : f_X10_readInstanceof nn a0 h = some r) : mx_R X F L 285 [.ref a0] h (none, r, 0, 0) := by
  have hm : mx_mt 285 = some (yX10_readInstanceof, cX10_readInstanceof, 3, none) := mt_X10_readInstanceof
  show mx_S X F L 285 0 [(0, .ref a0)] [] h 0 0 (none, r, 0, 0)
  unfold f_X10_readInstanceof at hf
  refine mx_S.pu (pc2 := 1) (lv2 := [(0, .ref a0)]) (st2 := [.ref a0]) hm dX10_readInstanceof_0 rfl ?_
  replace hf := mx_sv_el hf; obtain ⟨v3, e_v3, hf⟩ := hf
  refine sx_get hm dX10_readInstanceof_1 rs_RX10_31 (xgr_el e_v3) ?_
  clear e_v3
  replace hf := mx_sv_el hf; obtain ⟨v4, e_v4, hf⟩ := hf
  refine sx_get hm dX10_readInstanceof_4 rs_RX10_72 (xgi_el e_v4) ?_
  clear e_v4
  refine sx_ic (v := 1) hm dX10_readInstanceof_7 (by decide) ?_
  replace hf := xl_el hf; obtain ⟨v5, e_v5, hf⟩ := hf
  refine mx_S.pu (pc2 := 9) (lv2 := [(0, .ref a0)]) (st2 := [.int v5]) hm dX10_readInstanceof_8 (by rw [← e_v5]; rfl) ?_
  clear e_v5
  refine mx_S.pu (pc2 := 10) (lv2 := [(1, .int v5), (0, .ref a0)]) (st2 := []) hm dX10_readInstanceof_9 rfl ?_
  refine mx_S.pu (pc2 := 11) (lv2 := [(1, .int v5), (0, .ref a0)]) (st2 := [.ref a0]) hm dX10_readInstanceof_10 rfl ?_
  refine mx_S.pu (pc2 := 12) (lv2 := [(1, .int v5), (0, .ref a0)]) (st2 := [.int v5, .ref a0]) hm dX10_readInstanceof_11 rfl ?_
  refine mx_S.pu (pc2 := 13) (lv2 := [(1, .int v5), (0, .ref a0)]) (st2 := [.int v5, .int v5, .ref a0]) hm dX10_readInstanceof_12 rfl ?_
  refine sx_ic (v := 1) hm dX10_readInstanceof_13 (by decide) ?_
  replace hf := xl_el hf; obtain ⟨v6, e_v6, hf⟩ := hf
  refine mx_S.pu (pc2 := 15) (lv2 := [(1, .int v5), (0, .ref a0)]) (st2 := [.int v6, .int v5, .ref a0]) hm dX10_readInstanceof_14 (by rw [← e_v6]; rfl) ?_
  clear e_v6
  replace hf := mx_gd_el hf; obtain ⟨c7, hf⟩ := hf
  replace hf := mx_sv_el hf; obtain ⟨u8, e_u8, hf⟩ := hf
  refine sx_cv hm dX10_readInstanceof_15 rs_RX10_168 mt_X10_readNamedClass [.int v5, .int v6] [] (b := a0) (ci := 10) rfl rfl rfl c7 (Nat.le_of_ble_eq_true rfl) (Nat.le_of_ble_eq_true rfl) (by omega) (by omega) (f_X10_readNamedClass_ok X (by omega) (by omega) nn a0 v5 v6 h e_u8) ?_
  clear e_u8
  show mx_S X F L 285 18 [(1, .int v5), (0, .ref a0)] [.int u8.1] u8.2 0 0 (none, r, 0, 0)
  refine mx_S.pu (pc2 := 19) (lv2 := [(2, .int u8.1), (1, .int v5), (0, .ref a0)]) (st2 := []) hm dX10_readInstanceof_18 rfl ?_
  refine mx_S.pu (pc2 := 20) (lv2 := [(2, .int u8.1), (1, .int v5), (0, .ref a0)]) (st2 := [.int u8.1]) hm dX10_readInstanceof_19 rfl ?_
  refine sx_ic (v := (-1)) hm dX10_readInstanceof_20 (by decide) ?_
  rcases mx_if_el hf with ⟨c23, hf⟩ | ⟨c23, hf⟩
  · refine sb_ic_eq hm dX10_readInstanceof_21 (tgt := 66) rfl (fun _ => ?_) (fun z => absurd c23 z)
    refine mx_S.ext [(0, .ref a0)] (mx_sub_pos [2] rfl (show ([2, 1, 0] : List Nat).Nodup by decide)) ?_
    exact j_X10_readInstanceof_66_ok X hF hL nn a0 u8.2 hf
  · refine sb_ic_eq hm dX10_readInstanceof_21 (tgt := 66) rfl (fun z => absurd z c23) (fun _ => ?_)
    refine mx_S.pu (pc2 := 25) (lv2 := [(2, .int u8.1), (1, .int v5), (0, .ref a0)]) (st2 := [.ref a0]) hm dX10_readInstanceof_24 rfl ?_
    refine mx_S.pu (pc2 := 26) (lv2 := [(2, .int u8.1), (1, .int v5), (0, .ref a0)]) (st2 := [.int u8.1, .ref a0]) hm dX10_readInstanceof_25 rfl ?_
    refine mx_S.pu (pc2 := 27) (lv2 := [(2, .int u8.1), (1, .int v5), (0, .ref a0)]) (st2 := [.int v5, .int u8.1, .ref a0]) hm dX10_readInstanceof_26 rfl ?_
    replace hf := mx_gd_el hf; obtain ⟨c9, hf⟩ := hf
    replace hf := mx_sv_el hf; obtain ⟨u10, e_u10, hf⟩ := hf
    refine sx_cv hm dX10_readInstanceof_27 rs_RX10_171 mt_X10_wantKinOf [.int u8.1, .int v5] [] (b := a0) (ci := 10) rfl rfl rfl c9 (Nat.le_of_ble_eq_true rfl) (Nat.le_of_ble_eq_true rfl) (by omega) (by omega) (f_X10_wantKinOf_ok X (by omega) (by omega) nn a0 u8.1 v5 u8.2 e_u10) ?_
    clear e_u10
    show mx_S X F L 285 30 [(2, .int u8.1), (1, .int v5), (0, .ref a0)] [] u10 0 0 (none, r, 0, 0)
    refine mx_S.pu (pc2 := 31) (lv2 := [(2, .int u8.1), (1, .int v5), (0, .ref a0)]) (st2 := [.ref a0]) hm dX10_readInstanceof_30 rfl ?_
    replace hf := mx_sv_el hf; obtain ⟨v11, e_v11, hf⟩ := hf
    refine sx_get hm dX10_readInstanceof_31 rs_RX10_46 (xgr_el e_v11) ?_
    clear e_v11
    refine sx_si (v := 193) hm dX10_readInstanceof_34 (by decide) ?_
    refine mx_S.pu (pc2 := 38) (lv2 := [(2, .int u8.1), (1, .int v5), (0, .ref a0)]) (st2 := [.ref a0, .int 193, .ref v11]) hm dX10_readInstanceof_37 rfl ?_
    replace hf := mx_sv_el hf; obtain ⟨v12, e_v12, hf⟩ := hf
    refine sx_get hm dX10_readInstanceof_38 rs_RX10_50 (xgr_el e_v12) ?_
    clear e_v12
    refine mx_S.pu (pc2 := 42) (lv2 := [(2, .int u8.1), (1, .int v5), (0, .ref a0)]) (st2 := [.int u8.1, .ref v12, .int 193, .ref v11]) hm dX10_readInstanceof_41 rfl ?_
    replace hf := mx_gd_el hf; obtain ⟨c13, hf⟩ := hf
    replace hf := mx_sv_el hf; obtain ⟨u14, e_u14, hf⟩ := hf
    refine sx_cv hm dX10_readInstanceof_42 rs_RX10_174 mt_X6_classOf [.int u8.1] [.int 193, .ref v11] (b := v12) (ci := 6) rfl rfl rfl c13 (Nat.le_of_ble_eq_true rfl) (Nat.le_of_ble_eq_true rfl) (by omega) (by omega) (f_X6_classOf_ok X (by omega) (by omega) nn v12 u8.1 u10 e_u14) ?_
    clear e_u14
    show mx_S X F L 285 45 [(2, .int u8.1), (1, .int v5), (0, .ref a0)] [.int u14.1, .int 193, .ref v11] u14.2 0 0 (none, r, 0, 0)
    replace hf := mx_gd_el hf; obtain ⟨c15, hf⟩ := hf
    replace hf := mx_sv_el hf; obtain ⟨u16, e_u16, hf⟩ := hf
    refine sx_cv hm dX10_readInstanceof_45 rs_RX10_179 mt_X1_op_ [.int 193, .int u14.1] [] (b := v11) (ci := 1) rfl rfl rfl c15 (Nat.le_of_ble_eq_true rfl) (Nat.le_of_ble_eq_true rfl) (by omega) (by omega) (f_X1_op__ok X (by omega) (by omega) nn v11 193 u14.1 u14.2 e_u16) ?_
    clear e_u16
    show mx_S X F L 285 48 [(2, .int u8.1), (1, .int v5), (0, .ref a0)] [] u16 0 0 (none, r, 0, 0)
    refine mx_S.pu (pc2 := 49) (lv2 := [(2, .int u8.1), (1, .int v5), (0, .ref a0)]) (st2 := [.ref a0]) hm dX10_readInstanceof_48 rfl ?_
    replace hf := mx_sv_el hf; obtain ⟨v17, e_v17, hf⟩ := hf
    refine sx_get hm dX10_readInstanceof_49 rs_RX10_46 (xgr_el e_v17) ?_
    clear e_v17
    refine sx_ic (v := 1) hm dX10_readInstanceof_52 (by decide) ?_
    replace hf := mx_gd_el hf; obtain ⟨c18, hf⟩ := hf
    replace hf := mx_sv_el hf; obtain ⟨u19, e_u19, hf⟩ := hf
    refine sx_cv hm dX10_readInstanceof_53 rs_RX10_118 mt_X1_pop [.int 1] [] (b := v17) (ci := 1) rfl rfl rfl c18 (Nat.le_of_ble_eq_true rfl) (Nat.le_of_ble_eq_true rfl) (by omega) (by omega) (f_X1_pop_ok X (by omega) (by omega) nn v17 1 u16 e_u19) ?_
    clear e_u19
    show mx_S X F L 285 56 [(2, .int u8.1), (1, .int v5), (0, .ref a0)] [] u19 0 0 (none, r, 0, 0)
    refine mx_S.pu (pc2 := 57) (lv2 := [(2, .int u8.1), (1, .int v5), (0, .ref a0)]) (st2 := [.ref a0]) hm dX10_readInstanceof_56 rfl ?_
    replace hf := mx_sv_el hf; obtain ⟨v20, e_v20, hf⟩ := hf
    refine sx_get hm dX10_readInstanceof_57 rs_RX10_46 (xgr_el e_v20) ?_
    clear e_v20
    refine sx_si (v := 302) hm dX10_readInstanceof_60 (by decide) ?_
    replace hf := mx_gd_el hf; obtain ⟨c21, hf⟩ := hf
    replace hf := mx_sv_el hf; obtain ⟨u22, e_u22, hf⟩ := hf
    refine sx_cv hm dX10_readInstanceof_63 rs_RX10_130 mt_X1_push [.int 302] [] (b := v20) (ci := 1) rfl rfl rfl c21 (Nat.le_of_ble_eq_true rfl) (Nat.le_of_ble_eq_true rfl) (by omega) (by omega) (f_X1_push_ok X (by omega) (by omega) nn v20 302 u19 e_u22) ?_
    clear e_u22
    show mx_S X F L 285 66 [(2, .int u8.1), (1, .int v5), (0, .ref a0)] [] u22 0 0 (none, r, 0, 0)
    refine mx_S.ext [(0, .ref a0)] (mx_sub_pos [2] rfl (show ([2, 1, 0] : List Nat).Nodup by decide)) ?_
    exact j_X10_readInstanceof_66_ok X hF hL nn a0 u22 hf
