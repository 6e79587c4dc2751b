set_option maxHeartbeats 4000000 in
set_option maxRecDepth 20000 in
theorem f_X10_closeCast_ok (X : Nat × (Nat → Int32)) {F L : Nat} (hF : 3 ≤ F) (hL : 81 ≤ L) (nn : Nat) (a0 : Nat) (a1 : Int32) (a2 : Int32) (h : mx_H) {r : mx_H} (hf : f_X10_closeCast nn a0 a1 a2 h = some r) : mx_R X F L 290 [.ref a0, .int a1, .int a2] h (none, r, 0, 0) := by
  have hm : mx_mt 290 = some (yX10_closeCast, cX10_closeCast, 3, none) := mt_X10_closeCast
  show mx_S X F L 290 0 [(0, .ref a0), (1, .int a1), (2, .int a2)] [] h 0 0 (none, r, 0, 0)
  unfold f_X10_closeCast at hf
  refine mx_S.pu (pc2 := 1) (lv2 := [(0, .ref a0), (1, .int a1), (2, .int a2)]) (st2 := [.ref a0]) hm dX10_closeCast_0 rfl ?_
  refine sx_ic (v := 0) hm dX10_closeCast_1 (by decide) ?_
  replace hf := mx_sv_el hf; obtain ⟨h1, e_h1, hf⟩ := hf
  refine sx_put hm dX10_closeCast_2 rs_RX10_133 ft_10_11 ⟨rfl, rfl⟩ (fun z => by cases z) e_h1 ?_
  clear e_h1
  refine mx_S.pu (pc2 := 6) (lv2 := [(0, .ref a0), (1, .int a1), (2, .int a2)]) (st2 := [.int a1]) hm dX10_closeCast_5 rfl ?_
  refine sx_ic (v := (-1)) hm dX10_closeCast_6 (by decide) ?_
  rcases mx_if_el hf with ⟨c17, hf⟩ | ⟨c17, hf⟩
  · refine sb_ic_ne hm dX10_closeCast_7 (tgt := 11) rfl (fun _ => ?_) (fun z => absurd c17 z)
    refine mx_S.pu (pc2 := 12) (lv2 := [(0, .ref a0), (1, .int a1), (2, .int a2)]) (st2 := [.ref a0]) hm dX10_closeCast_11 rfl ?_
    refine mx_S.pu (pc2 := 13) (lv2 := [(0, .ref a0), (1, .int a1), (2, .int a2)]) (st2 := [.int a1, .ref a0]) hm dX10_closeCast_12 rfl ?_
    refine mx_S.pu (pc2 := 14) (lv2 := [(0, .ref a0), (1, .int a1), (2, .int a2)]) (st2 := [.int a2, .int a1, .ref a0]) hm dX10_closeCast_13 rfl ?_
    replace hf := mx_gd_el hf; obtain ⟨c2, hf⟩ := hf
    replace hf := mx_sv_el hf; obtain ⟨u3, e_u3, hf⟩ := hf
    refine sx_cv hm dX10_closeCast_14 rs_RX10_171 mt_X10_wantKinOf [.int a1, .int a2] [] (b := a0) (ci := 10) rfl rfl rfl c2 (Nat.le_of_ble_eq_true rfl) (Nat.le_of_ble_eq_true rfl) (by omega) (by omega) (f_X10_wantKinOf_ok X (by omega) (by omega) nn a0 a1 a2 h1 e_u3) ?_
    clear e_u3
    show mx_S X F L 290 17 [(0, .ref a0), (1, .int a1), (2, .int a2)] [] u3 0 0 (none, r, 0, 0)
    refine mx_S.pu (pc2 := 18) (lv2 := [(0, .ref a0), (1, .int a1), (2, .int a2)]) (st2 := [.ref a0]) hm dX10_closeCast_17 rfl ?_
    replace hf := mx_sv_el hf; obtain ⟨v4, e_v4, hf⟩ := hf
    refine sx_get hm dX10_closeCast_18 rs_RX10_46 (xgr_el e_v4) ?_
    clear e_v4
    refine sx_si (v := 192) hm dX10_closeCast_21 (by decide) ?_
    refine mx_S.pu (pc2 := 25) (lv2 := [(0, .ref a0), (1, .int a1), (2, .int a2)]) (st2 := [.ref a0, .int 192, .ref v4]) hm dX10_closeCast_24 rfl ?_
    replace hf := mx_sv_el hf; obtain ⟨v5, e_v5, hf⟩ := hf
    refine sx_get hm dX10_closeCast_25 rs_RX10_50 (xgr_el e_v5) ?_
    clear e_v5
    refine mx_S.pu (pc2 := 29) (lv2 := [(0, .ref a0), (1, .int a1), (2, .int a2)]) (st2 := [.int a1, .ref v5, .int 192, .ref v4]) hm dX10_closeCast_28 rfl ?_
    replace hf := mx_gd_el hf; obtain ⟨c6, hf⟩ := hf
    replace hf := mx_sv_el hf; obtain ⟨u7, e_u7, hf⟩ := hf
    refine sx_cv hm dX10_closeCast_29 rs_RX10_174 mt_X6_classOf [.int a1] [.int 192, .ref v4] (b := v5) (ci := 6) rfl rfl rfl c6 (Nat.le_of_ble_eq_true rfl) (Nat.le_of_ble_eq_true rfl) (by omega) (by omega) (f_X6_classOf_ok X (by omega) (by omega) nn v5 a1 u3 e_u7) ?_
    clear e_u7
    show mx_S X F L 290 32 [(0, .ref a0), (1, .int a1), (2, .int a2)] [.int u7.1, .int 192, .ref v4] u7.2 0 0 (none, r, 0, 0)
    replace hf := mx_gd_el hf; obtain ⟨c8, hf⟩ := hf
    replace hf := mx_sv_el hf; obtain ⟨u9, e_u9, hf⟩ := hf
    refine sx_cv hm dX10_closeCast_32 rs_RX10_179 mt_X1_op_ [.int 192, .int u7.1] [] (b := v4) (ci := 1) rfl rfl rfl c8 (Nat.le_of_ble_eq_true rfl) (Nat.le_of_ble_eq_true rfl) (by omega) (by omega) (f_X1_op__ok X (by omega) (by omega) nn v4 192 u7.1 u7.2 e_u9) ?_
    clear e_u9
    show mx_S X F L 290 35 [(0, .ref a0), (1, .int a1), (2, .int a2)] [] u9 0 0 (none, r, 0, 0)
    refine mx_S.pu (pc2 := 36) (lv2 := [(0, .ref a0), (1, .int a1), (2, .int a2)]) (st2 := [.ref a0]) hm dX10_closeCast_35 rfl ?_
    replace hf := mx_sv_el hf; obtain ⟨v10, e_v10, hf⟩ := hf
    refine sx_get hm dX10_closeCast_36 rs_RX10_46 (xgr_el e_v10) ?_
    clear e_v10
    refine sx_ic (v := 1) hm dX10_closeCast_39 (by decide) ?_
    replace hf := mx_gd_el hf; obtain ⟨c11, hf⟩ := hf
    replace hf := mx_sv_el hf; obtain ⟨u12, e_u12, hf⟩ := hf
    refine sx_cv hm dX10_closeCast_40 rs_RX10_118 mt_X1_pop [.int 1] [] (b := v10) (ci := 1) rfl rfl rfl c11 (Nat.le_of_ble_eq_true rfl) (Nat.le_of_ble_eq_true rfl) (by omega) (by omega) (f_X1_pop_ok X (by omega) (by omega) nn v10 1 u9 e_u12) ?_
    clear e_u12
    show mx_S X F L 290 43 [(0, .ref a0), (1, .int a1), (2, .int a2)] [] u12 0 0 (none, r, 0, 0)
    refine mx_S.pu (pc2 := 44) (lv2 := [(0, .ref a0), (1, .int a1), (2, .int a2)]) (st2 := [.ref a0]) hm dX10_closeCast_43 rfl ?_
    replace hf := mx_sv_el hf; obtain ⟨v13, e_v13, hf⟩ := hf
    refine sx_get hm dX10_closeCast_44 rs_RX10_46 (xgr_el e_v13) ?_
    clear e_v13
    refine mx_S.pu (pc2 := 48) (lv2 := [(0, .ref a0), (1, .int a1), (2, .int a2)]) (st2 := [.int a1, .ref v13]) hm dX10_closeCast_47 rfl ?_
    replace hf := mx_gd_el hf; obtain ⟨c14, hf⟩ := hf
    replace hf := mx_sv_el hf; obtain ⟨u15, e_u15, hf⟩ := hf
    refine sx_cv hm dX10_closeCast_48 rs_RX10_130 mt_X1_push [.int a1] [] (b := v13) (ci := 1) rfl rfl rfl c14 (Nat.le_of_ble_eq_true rfl) (Nat.le_of_ble_eq_true rfl) (by omega) (by omega) (f_X1_push_ok X (by omega) (by omega) nn v13 a1 u12 e_u15) ?_
    clear e_u15
    show mx_S X F L 290 51 [(0, .ref a0), (1, .int a1), (2, .int a2)] [] u15 0 0 (none, r, 0, 0)
    refine mx_S.pu (pc2 := 52) (lv2 := [(0, .ref a0), (1, .int a1), (2, .int a2)]) (st2 := [.ref a0]) hm dX10_closeCast_51 rfl ?_
    refine mx_S.pu (pc2 := 53) (lv2 := [(0, .ref a0), (1, .int a1), (2, .int a2)]) (st2 := [.int a1, .ref a0]) hm dX10_closeCast_52 rfl ?_
    replace hf := mx_sv_el hf; obtain ⟨h16, e_h16, hf⟩ := hf
    refine sx_put hm dX10_closeCast_53 rs_RX10_75 ft_10_12 ⟨rfl, rfl⟩ (fun z => by cases z) e_h16 ?_
    clear e_h16
    cases hf
    exact sx_ret hm dX10_closeCast_56 rfl
  · refine sb_ic_ne hm dX10_closeCast_7 (tgt := 11) rfl (fun z => absurd z c17) (fun _ => ?_)
    cases hf
    exact sx_ret hm dX10_closeCast_10 rfl
set_option maxHeartbeats 4000000 in
set_option maxRecDepth 20000 in
theorem j_X10_closeUnary_62_ok (X : Nat × (Nat → Int32)) {F L : Nat} (hF : 4 ≤ F) (hL : 129 ≤ L) (nn : Nat) (l0 : Nat) (l1 : Int32) (l2 : Int32) (s0 : Int32) (s1 : Nat) (h : mx_H) {r : mx_H} (hf : j_X10_closeUnary_62 nn l0 l1 l2 s0 s1 h = some r) : mx_S X F L 289 62 [(0, .ref l0), (1, .int l1), (2, .int l2)] [.int s0, .ref s1] h 0 0 (none, r, 0, 0) := by
  have hm : mx_mt 289 = some (yX10_closeUnary, cX10_closeUnary, 3, none) := mt_X10_closeUnary
  unfold j_X10_closeUnary_62 at hf
  refine mx_S.pu (pc2 := 63) (lv2 := [(0, .ref l0), (1, .int l1), (2, .int l2)]) (st2 := [.int l2, .int s0, .ref s1]) hm dX10_closeUnary_62 rfl ?_
  replace hf := mx_gd_el hf; obtain ⟨c1, hf⟩ := hf
  replace hf := mx_sv_el hf; obtain ⟨u2, e_u2, hf⟩ := hf
  refine sx_cv hm dX10_closeUnary_63 rs_RX10_80 mt_X10_wantType [.int s0, .int l2] [] (b := s1) (ci := 10) rfl rfl rfl c1 (Nat.le_of_ble_eq_true rfl) (Nat.le_of_ble_eq_true rfl) (by omega) (by omega) (f_X10_wantType_ok X (by omega) (by omega) nn s1 s0 l2 h e_u2) ?_
  clear e_u2
  show mx_S X F L 289 66 [(0, .ref l0), (1, .int l1), (2, .int l2)] [] u2 0 0 (none, r, 0, 0)
  refine mx_S.pu (pc2 := 67) (lv2 := [(0, .ref l0), (1, .int l1), (2, .int l2)]) (st2 := [.int l1]) hm dX10_closeUnary_66 rfl ?_
  refine sx_bi (v := 62) hm dX10_closeUnary_67 (by decide) ?_
  rcases mx_if_el hf with ⟨c15, hf⟩ | ⟨c15, hf⟩
  · refine sb_ic_ne hm dX10_closeUnary_69 (tgt := 84) rfl (fun _ => ?_) (fun z => absurd c15 z)
    refine mx_S.pu (pc2 := 85) (lv2 := [(0, .ref l0), (1, .int l1), (2, .int l2)]) (st2 := [.ref l0]) hm dX10_closeUnary_84 rfl ?_
    replace hf := mx_sv_el hf; obtain ⟨v3, e_v3, hf⟩ := hf
    refine sx_get hm dX10_closeUnary_85 rs_RX10_46 (xgr_el e_v3) ?_
    clear e_v3
    refine sx_si (v := 301) hm dX10_closeUnary_88 (by decide) ?_
    replace hf := mx_gd_el hf; obtain ⟨c4, hf⟩ := hf
    replace hf := mx_sv_el hf; obtain ⟨u5, e_u5, hf⟩ := hf
    refine sx_cv hm dX10_closeUnary_91 rs_RX10_130 mt_X1_push [.int 301] [] (b := v3) (ci := 1) rfl rfl rfl c4 (Nat.le_of_ble_eq_true rfl) (Nat.le_of_ble_eq_true rfl) (by omega) (by omega) (f_X1_push_ok X (by omega) (by omega) nn v3 301 u2 e_u5) ?_
    clear e_u5
    show mx_S X F L 289 94 [(0, .ref l0), (1, .int l1), (2, .int l2)] [] u5 0 0 (none, r, 0, 0)
    refine mx_S.pu (pc2 := 95) (lv2 := [(0, .ref l0), (1, .int l1), (2, .int l2)]) (st2 := [.ref l0]) hm dX10_closeUnary_94 rfl ?_
    replace hf := mx_sv_el hf; obtain ⟨v6, e_v6, hf⟩ := hf
    refine sx_get hm dX10_closeUnary_95 rs_RX10_46 (xgr_el e_v6) ?_
    clear e_v6
    refine sx_ic (v := 2) hm dX10_closeUnary_98 (by decide) ?_
    refine sx_si (v := 130) hm dX10_closeUnary_99 (by decide) ?_
    replace hf := mx_gd_el hf; obtain ⟨c7, hf⟩ := hf
    replace hf := mx_sv_el hf; obtain ⟨u8, e_u8, hf⟩ := hf
    refine sx_cv hm dX10_closeUnary_102 rs_RX10_179 mt_X1_op_ [.int 2, .int 130] [] (b := v6) (ci := 1) rfl rfl rfl c7 (Nat.le_of_ble_eq_true rfl) (Nat.le_of_ble_eq_true rfl) (by omega) (by omega) (f_X1_op__ok X (by omega) (by omega) nn v6 2 130 u5 e_u8) ?_
    clear e_u8
    show mx_S X F L 289 105 [(0, .ref l0), (1, .int l1), (2, .int l2)] [] u8 0 0 (none, r, 0, 0)
    refine mx_S.pu (pc2 := 106) (lv2 := [(0, .ref l0), (1, .int l1), (2, .int l2)]) (st2 := [.ref l0]) hm dX10_closeUnary_105 rfl ?_
    replace hf := mx_sv_el hf; obtain ⟨v9, e_v9, hf⟩ := hf
    refine sx_get hm dX10_closeUnary_106 rs_RX10_46 (xgr_el e_v9) ?_
    clear e_v9
    refine sx_ic (v := 1) hm dX10_closeUnary_109 (by decide) ?_
    replace hf := mx_gd_el hf; obtain ⟨c10, hf⟩ := hf
    replace hf := mx_sv_el hf; obtain ⟨u11, e_u11, hf⟩ := hf
    refine sx_cv hm dX10_closeUnary_110 rs_RX10_118 mt_X1_pop [.int 1] [] (b := v9) (ci := 1) rfl rfl rfl c10 (Nat.le_of_ble_eq_true rfl) (Nat.le_of_ble_eq_true rfl) (by omega) (by omega) (f_X1_pop_ok X (by omega) (by omega) nn v9 1 u8 e_u11) ?_
    clear e_u11
    show mx_S X F L 289 113 [(0, .ref l0), (1, .int l1), (2, .int l2)] [] u11 0 0 (none, r, 0, 0)
    cases hf
    exact sx_ret hm dX10_closeUnary_113 rfl
  · refine sb_ic_ne hm dX10_closeUnary_69 (tgt := 84) rfl (fun z => absurd z c15) (fun _ => ?_)
    refine mx_S.pu (pc2 := 73) (lv2 := [(0, .ref l0), (1, .int l1), (2, .int l2)]) (st2 := [.ref l0]) hm dX10_closeUnary_72 rfl ?_
    replace hf := mx_sv_el hf; obtain ⟨v12, e_v12, hf⟩ := hf
    refine sx_get hm dX10_closeUnary_73 rs_RX10_46 (xgr_el e_v12) ?_
    clear e_v12
    refine sx_bi (v := 116) hm dX10_closeUnary_76 (by decide) ?_
    replace hf := mx_gd_el hf; obtain ⟨c13, hf⟩ := hf
    replace hf := mx_sv_el hf; obtain ⟨u14, e_u14, hf⟩ := hf
    refine sx_cv hm dX10_closeUnary_78 rs_RX10_162 mt_X1_op [.int 116] [] (b := v12) (ci := 1) rfl rfl rfl c13 (Nat.le_of_ble_eq_true rfl) (Nat.le_of_ble_eq_true rfl) (by omega) (by omega) (f_X1_op_ok X (by omega) (by omega) nn v12 116 u2 e_u14) ?_
    clear e_u14
    show mx_S X F L 289 81 [(0, .ref l0), (1, .int l1), (2, .int l2)] [] u14 0 0 (none, r, 0, 0)
    refine mx_S.pu (pc2 := 113) (lv2 := [(0, .ref l0), (1, .int l1), (2, .int l2)]) (st2 := []) hm dX10_closeUnary_81 rfl ?_
    cases hf
    exact sx_ret hm dX10_closeUnary_113 rfl
set_option maxHeartbeats 4000000 in
set_option maxRecDepth 20000 in
theorem j_X10_closeUnary_27_ok (X : Nat × (Nat → Int32)) {F L : Nat} (hF : 4 ≤ F) (hL : 129 ≤ L) (nn : Nat) (l0 : Nat) (s0 : Int32) (s1 : Nat) (h : mx_H) {r : mx_H} (hf : j_X10_closeUnary_27 nn l0 s0 s1 h = some r) : mx_S X F L 289 27 [(0, .ref l0)] [.int s0, .ref s1] h 0 0 (none, r, 0, 0) := by
  have hm : mx_mt 289 = some (yX10_closeUnary, cX10_closeUnary, 3, none) := mt_X10_closeUnary
  unfold j_X10_closeUnary_27 at hf
  refine mx_S.pu (pc2 := 28) (lv2 := [(0, .ref l0)]) (st2 := [.ref l0, .int s0, .ref s1]) hm dX10_closeUnary_27 rfl ?_
  replace hf := mx_sv_el hf; obtain ⟨v16, e_v16, hf⟩ := hf
  refine sx_get hm dX10_closeUnary_28 rs_RX10_146 (xgi_el e_v16) ?_
  clear e_v16
  replace hf := mx_gd_el hf; obtain ⟨c17, hf⟩ := hf
  replace hf := mx_sv_el hf; obtain ⟨u18, e_u18, hf⟩ := hf
  refine sx_cv hm dX10_closeUnary_31 rs_RX10_80 mt_X10_wantType [.int s0, .int v16] [] (b := s1) (ci := 10) rfl rfl rfl c17 (Nat.le_of_ble_eq_true rfl) (Nat.le_of_ble_eq_true rfl) (by omega) (by omega) (f_X10_wantType_ok X (by omega) (by omega) nn s1 s0 v16 h e_u18) ?_
  clear e_u18
  show mx_S X F L 289 34 [(0, .ref l0)] [] u18 0 0 (none, r, 0, 0)
  refine mx_S.pu (pc2 := 35) (lv2 := [(0, .ref l0)]) (st2 := [.ref l0]) hm dX10_closeUnary_34 rfl ?_
  replace hf := mx_sv_el hf; obtain ⟨v19, e_v19, hf⟩ := hf
  refine sx_get hm dX10_closeUnary_35 rs_RX10_46 (xgr_el e_v19) ?_
  clear e_v19
  refine sx_si (v := 153) hm dX10_closeUnary_38 (by decide) ?_
  refine sx_ic (v := 1) hm dX10_closeUnary_41 (by decide) ?_
  replace hf := mx_gd_el hf; obtain ⟨c20, hf⟩ := hf
  replace hf := mx_sv_el hf; obtain ⟨u21, e_u21, hf⟩ := hf
  refine sx_cv hm dX10_closeUnary_42 rs_RX10_156 mt_X1_truth [.int 153, .int 1] [] (b := v19) (ci := 1) rfl rfl rfl c20 (Nat.le_of_ble_eq_true rfl) (Nat.le_of_ble_eq_true rfl) (by omega) (by omega) (f_X1_truth_ok X (by omega) (by omega) nn v19 153 1 u18 e_u21) ?_
  clear e_u21
  show mx_S X F L 289 45 [(0, .ref l0)] [] u21 0 0 (none, r, 0, 0)
  cases hf
  exact sx_ret hm dX10_closeUnary_45 rfl
set_option maxHeartbeats 4000000 in
set_option maxRecDepth 20000 in
theorem f_X10_closeUnary_ok (X : Nat × (Nat → Int32)) {F L : Nat} (hF : 4 ≤ F) (hL : 129 ≤ L) (nn : Nat) (a0 : Nat) (a1 : Int32) (a2 : Int32) (h : mx_H) {r : mx_H} (hf : f_X10_closeUnary nn a0 a1 a2 h = some r) : mx_R X F L 289 [.ref a0, .int a1, .int a2] h (none, r, 0, 0) := by
  have hm : mx_mt 289 = some (yX10_closeUnary, cX10_closeUnary, 3, none) := mt_X10_closeUnary
  show mx_S X F L 289 0 [(0, .ref a0), (1, .int a1), (2, .int a2)] [] h 0 0 (none, r, 0, 0)
  unfold f_X10_closeUnary at hf
  refine mx_S.pu (pc2 := 1) (lv2 := [(0, .ref a0), (1, .int a1), (2, .int a2)]) (st2 := [.ref a0]) hm dX10_closeUnary_0 rfl ?_
  refine sx_ic (v := 0) hm dX10_closeUnary_1 (by decide) ?_
  replace hf := mx_sv_el hf; obtain ⟨h22, e_h22, hf⟩ := hf
  refine sx_put hm dX10_closeUnary_2 rs_RX10_133 ft_10_11 ⟨rfl, rfl⟩ (fun z => by cases z) e_h22 ?_
  clear e_h22
  refine mx_S.pu (pc2 := 6) (lv2 := [(0, .ref a0), (1, .int a1), (2, .int a2)]) (st2 := [.int a1]) hm dX10_closeUnary_5 rfl ?_
  refine sx_bi (v := 71) hm dX10_closeUnary_6 (by decide) ?_
  rcases mx_if_el hf with ⟨c27, hf⟩ | ⟨c27, hf⟩
  · refine sb_ic_ne hm dX10_closeUnary_8 (tgt := 46) rfl (fun _ => ?_) (fun z => absurd c27 z)
    refine mx_S.pu (pc2 := 47) (lv2 := [(0, .ref a0), (1, .int a1), (2, .int a2)]) (st2 := [.ref a0]) hm dX10_closeUnary_46 rfl ?_
    refine mx_S.pu (pc2 := 48) (lv2 := [(0, .ref a0), (1, .int a1), (2, .int a2)]) (st2 := [.ref a0, .ref a0]) hm dX10_closeUnary_47 rfl ?_
    replace hf := mx_sv_el hf; obtain ⟨v23, e_v23, hf⟩ := hf
    refine sx_get hm dX10_closeUnary_48 rs_RX10_75 (xgi_el e_v23) ?_
    clear e_v23
    refine sx_si (v := 301) hm dX10_closeUnary_51 (by decide) ?_
    rcases mx_if_el hf with ⟨c24, hf⟩ | ⟨c24, hf⟩
    · refine sb_ic_ne hm dX10_closeUnary_54 (tgt := 61) rfl (fun _ => ?_) (fun z => absurd c24 z)
      refine sx_ic (v := 0) hm dX10_closeUnary_61 (by decide) ?_
      exact j_X10_closeUnary_62_ok X hF hL nn a0 a1 a2 0 a0 h22 hf
    · refine sb_ic_ne hm dX10_closeUnary_54 (tgt := 61) rfl (fun z => absurd z c24) (fun _ => ?_)
      refine sx_ic (v := 1) hm dX10_closeUnary_57 (by decide) ?_
      refine mx_S.pu (pc2 := 62) (lv2 := [(0, .ref a0), (1, .int a1), (2, .int a2)]) (st2 := [.int 1, .ref a0]) hm dX10_closeUnary_58 rfl ?_
      exact j_X10_closeUnary_62_ok X hF hL nn a0 a1 a2 1 a0 h22 hf
  · refine sb_ic_ne hm dX10_closeUnary_8 (tgt := 46) rfl (fun z => absurd z c27) (fun _ => ?_)
    refine mx_S.pu (pc2 := 12) (lv2 := [(0, .ref a0), (1, .int a1), (2, .int a2)]) (st2 := [.ref a0]) hm dX10_closeUnary_11 rfl ?_
    refine mx_S.pu (pc2 := 13) (lv2 := [(0, .ref a0), (1, .int a1), (2, .int a2)]) (st2 := [.ref a0, .ref a0]) hm dX10_closeUnary_12 rfl ?_
    replace hf := mx_sv_el hf; obtain ⟨v25, e_v25, hf⟩ := hf
    refine sx_get hm dX10_closeUnary_13 rs_RX10_75 (xgi_el e_v25) ?_
    clear e_v25
    refine sx_si (v := 302) hm dX10_closeUnary_16 (by decide) ?_
    rcases mx_if_el hf with ⟨c26, hf⟩ | ⟨c26, hf⟩
    · refine sb_ic_ne hm dX10_closeUnary_19 (tgt := 26) rfl (fun _ => ?_) (fun z => absurd c26 z)
      refine sx_ic (v := 0) hm dX10_closeUnary_26 (by decide) ?_
      refine mx_S.ext [(0, .ref a0)] (mx_sub_pos [0] rfl (show ([0, 1, 2] : List Nat).Nodup by decide)) ?_
      exact j_X10_closeUnary_27_ok X hF hL nn a0 0 a0 h22 hf
    · refine sb_ic_ne hm dX10_closeUnary_19 (tgt := 26) rfl (fun z => absurd z c26) (fun _ => ?_)
      refine sx_ic (v := 1) hm dX10_closeUnary_22 (by decide) ?_
      refine mx_S.pu (pc2 := 27) (lv2 := [(0, .ref a0), (1, .int a1), (2, .int a2)]) (st2 := [.int 1, .ref a0]) hm dX10_closeUnary_23 rfl ?_
      refine mx_S.ext [(0, .ref a0)] (mx_sub_pos [0] rfl (show ([0, 1, 2] : List Nat).Nodup by decide)) ?_
      exact j_X10_closeUnary_27_ok X hF hL nn a0 1 a0 h22 hf
set_option maxHeartbeats 4000000 in
set_option maxRecDepth 20000 in
theorem f_X6_fieldOf_ok (X : Nat × (Nat → Int32)) {F L : Nat} (hF : 2 ≤ F) (hL : 44 ≤ L) (nn : Nat) (a0 : Nat) (a1 : Int32) (a2 : Int32) (h : mx_H) {r : (Int32 × mx_H)} (hf : f_X6_fieldOf nn a0 a1 a2 h = some r) : mx_R X F L 194 [.ref a0, .int a1, .int a2] h (some (.int r.1), r.2, 0, 0) := by
  have hm : mx_mt 194 = some (yX6_fieldOf, cX6_fieldOf, 5, (some .int)) := mt_X6_fieldOf
  show mx_S X F L 194 0 [(0, .ref a0), (1, .int a1), (2, .int a2)] [] h 0 0 (some (.int r.1), r.2, 0, 0)
  unfold f_X6_fieldOf at hf
  refine mx_S.pu (pc2 := 1) (lv2 := [(0, .ref a0), (1, .int a1), (2, .int a2)]) (st2 := [.ref a0]) hm dX6_fieldOf_0 rfl ?_
  refine mx_S.pu (pc2 := 2) (lv2 := [(0, .ref a0), (1, .int a1), (2, .int a2)]) (st2 := [.int a1, .ref a0]) hm dX6_fieldOf_1 rfl ?_
  replace hf := mx_gd_el hf; obtain ⟨c1, hf⟩ := hf
  replace hf := mx_sv_el hf; obtain ⟨u2, e_u2, hf⟩ := hf
  refine sx_cv hm dX6_fieldOf_2 rs_RX6_41 mt_X6_classOf [.int a1] [] (b := a0) (ci := 6) rfl rfl rfl c1 (Nat.le_of_ble_eq_true rfl) (Nat.le_of_ble_eq_true rfl) (by omega) (by omega) (f_X6_classOf_ok X (by omega) (by omega) nn a0 a1 h e_u2) ?_
  clear e_u2
  show mx_S X F L 194 5 [(0, .ref a0), (1, .int a1), (2, .int a2)] [.int u2.1] u2.2 0 0 (some (.int r.1), r.2, 0, 0)
  refine mx_S.pu (pc2 := 6) (lv2 := [(3, .int u2.1), (0, .ref a0), (1, .int a1), (2, .int a2)]) (st2 := []) hm dX6_fieldOf_5 rfl ?_
  refine mx_S.pu (pc2 := 7) (lv2 := [(3, .int u2.1), (0, .ref a0), (1, .int a1), (2, .int a2)]) (st2 := [.ref a0]) hm dX6_fieldOf_6 rfl ?_
  refine sx_ic (v := 1) hm dX6_fieldOf_7 (by decide) ?_
  refine mx_S.pu (pc2 := 9) (lv2 := [(3, .int u2.1), (0, .ref a0), (1, .int a1), (2, .int a2)]) (st2 := [.ref a0, .int 1, .ref a0]) hm dX6_fieldOf_8 rfl ?_
  replace hf := mx_sv_el hf; obtain ⟨v3, e_v3, hf⟩ := hf
  refine sx_get hm dX6_fieldOf_9 rs_RX6_24 (xgr_el e_v3) ?_
  clear e_v3
  refine mx_S.pu (pc2 := 13) (lv2 := [(3, .int u2.1), (0, .ref a0), (1, .int a1), (2, .int a2)]) (st2 := [.int a2, .ref v3, .int 1, .ref a0]) hm dX6_fieldOf_12 rfl ?_
  replace hf := mx_gd_el hf; obtain ⟨c4, hf⟩ := hf
  replace hf := mx_sv_el hf; obtain ⟨u5, e_u5, hf⟩ := hf
  refine sx_cv hm dX6_fieldOf_13 rs_RX6_63 mt_X2_nameOfField [.int a2] [.int 1, .ref a0] (b := v3) (ci := 2) rfl rfl rfl c4 (Nat.le_of_ble_eq_true rfl) (Nat.le_of_ble_eq_true rfl) (by omega) (by omega) (f_X2_nameOfField_ok X (by omega) (by omega) nn v3 a2 u2.2 e_u5) ?_
  clear e_u5
  show mx_S X F L 194 16 [(3, .int u2.1), (0, .ref a0), (1, .int a1), (2, .int a2)] [.int u5.1, .int 1, .ref a0] u5.2 0 0 (some (.int r.1), r.2, 0, 0)
  replace hf := mx_gd_el hf; obtain ⟨c6, hf⟩ := hf
  replace hf := mx_sv_el hf; obtain ⟨u7, e_u7, hf⟩ := hf
  refine sx_cv hm dX6_fieldOf_16 rs_RX6_66 mt_X6_constant [.int 1, .int u5.1] [] (b := a0) (ci := 6) rfl rfl rfl c6 (Nat.le_of_ble_eq_true rfl) (Nat.le_of_ble_eq_true rfl) (by omega) (by omega) (f_X6_constant_ok X (by omega) (by omega) nn a0 1 u5.1 u5.2 e_u7) ?_
  clear e_u7
  show mx_S X F L 194 19 [(3, .int u2.1), (0, .ref a0), (1, .int a1), (2, .int a2)] [.int u7.1] u7.2 0 0 (some (.int r.1), r.2, 0, 0)
  refine mx_S.pu (pc2 := 21) (lv2 := [(4, .int u7.1), (3, .int u2.1), (0, .ref a0), (1, .int a1), (2, .int a2)]) (st2 := []) hm dX6_fieldOf_19 rfl ?_
  refine mx_S.pu (pc2 := 22) (lv2 := [(4, .int u7.1), (3, .int u2.1), (0, .ref a0), (1, .int a1), (2, .int a2)]) (st2 := [.ref a0]) hm dX6_fieldOf_21 rfl ?_
  refine sx_ic (v := 4) hm dX6_fieldOf_22 (by decide) ?_
  refine mx_S.pu (pc2 := 24) (lv2 := [(4, .int u7.1), (3, .int u2.1), (0, .ref a0), (1, .int a1), (2, .int a2)]) (st2 := [.int u2.1, .int 4, .ref a0]) hm dX6_fieldOf_23 rfl ?_
  refine sx_bi (v := 16) hm dX6_fieldOf_24 (by decide) ?_
  replace hf := xl_el hf; obtain ⟨v8, e_v8, hf⟩ := hf
  refine mx_S.pu (pc2 := 27) (lv2 := [(4, .int u7.1), (3, .int u2.1), (0, .ref a0), (1, .int a1), (2, .int a2)]) (st2 := [.int v8, .int 4, .ref a0]) hm dX6_fieldOf_26 (by rw [← e_v8]; rfl) ?_
  clear e_v8
  refine mx_S.pu (pc2 := 29) (lv2 := [(4, .int u7.1), (3, .int u2.1), (0, .ref a0), (1, .int a1), (2, .int a2)]) (st2 := [.int u7.1, .int v8, .int 4, .ref a0]) hm dX6_fieldOf_27 rfl ?_
  refine sx_bi (v := 8) hm dX6_fieldOf_29 (by decide) ?_
  replace hf := xl_el hf; obtain ⟨v9, e_v9, hf⟩ := hf
  refine mx_S.pu (pc2 := 32) (lv2 := [(4, .int u7.1), (3, .int u2.1), (0, .ref a0), (1, .int a1), (2, .int a2)]) (st2 := [.int v9, .int v8, .int 4, .ref a0]) hm dX6_fieldOf_31 (by rw [← e_v9]; rfl) ?_
  clear e_v9
  replace hf := xl_el hf; obtain ⟨v10, e_v10, hf⟩ := hf
  refine mx_S.pu (pc2 := 33) (lv2 := [(4, .int u7.1), (3, .int u2.1), (0, .ref a0), (1, .int a1), (2, .int a2)]) (st2 := [.int v10, .int 4, .ref a0]) hm dX6_fieldOf_32 (by rw [← e_v10]; rfl) ?_
  clear e_v10
  refine mx_S.pu (pc2 := 34) (lv2 := [(4, .int u7.1), (3, .int u2.1), (0, .ref a0), (1, .int a1), (2, .int a2)]) (st2 := [.ref a0, .int v10, .int 4, .ref a0]) hm dX6_fieldOf_33 rfl ?_
  refine sx_ic (v := 1) hm dX6_fieldOf_34 (by decide) ?_
  refine mx_S.pu (pc2 := 36) (lv2 := [(4, .int u7.1), (3, .int u2.1), (0, .ref a0), (1, .int a1), (2, .int a2)]) (st2 := [.ref a0, .int 1, .ref a0, .int v10, .int 4, .ref a0]) hm dX6_fieldOf_35 rfl ?_
  replace hf := mx_sv_el hf; obtain ⟨v11, e_v11, hf⟩ := hf
  refine sx_get hm dX6_fieldOf_36 rs_RX6_24 (xgr_el e_v11) ?_
  clear e_v11
  refine mx_S.pu (pc2 := 40) (lv2 := [(4, .int u7.1), (3, .int u2.1), (0, .ref a0), (1, .int a1), (2, .int a2)]) (st2 := [.int a2, .ref v11, .int 1, .ref a0, .int v10, .int 4, .ref a0]) hm dX6_fieldOf_39 rfl ?_
  replace hf := mx_gd_el hf; obtain ⟨c12, hf⟩ := hf
  replace hf := mx_sv_el hf; obtain ⟨u13, e_u13, hf⟩ := hf
  refine sx_cv hm dX6_fieldOf_40 rs_RX6_70 mt_X2_kindOfField [.int a2] [.int 1, .ref a0, .int v10, .int 4, .ref a0] (b := v11) (ci := 2) rfl rfl rfl c12 (Nat.le_of_ble_eq_true rfl) (Nat.le_of_ble_eq_true rfl) (by omega) (by omega) (f_X2_kindOfField_ok X (by omega) (by omega) nn v11 a2 u7.2 e_u13) ?_
  clear e_u13
  show mx_S X F L 194 43 [(4, .int u7.1), (3, .int u2.1), (0, .ref a0), (1, .int a1), (2, .int a2)] [.int u13.1, .int 1, .ref a0, .int v10, .int 4, .ref a0] u13.2 0 0 (some (.int r.1), r.2, 0, 0)
  replace hf := mx_gd_el hf; obtain ⟨c14, hf⟩ := hf
  replace hf := mx_sv_el hf; obtain ⟨u15, e_u15, hf⟩ := hf
  refine sx_cv hm dX6_fieldOf_43 rs_RX6_66 mt_X6_constant [.int 1, .int u13.1] [.int v10, .int 4, .ref a0] (b := a0) (ci := 6) rfl rfl rfl c14 (Nat.le_of_ble_eq_true rfl) (Nat.le_of_ble_eq_true rfl) (by omega) (by omega) (f_X6_constant_ok X (by omega) (by omega) nn a0 1 u13.1 u13.2 e_u15) ?_
  clear e_u15
  show mx_S X F L 194 46 [(4, .int u7.1), (3, .int u2.1), (0, .ref a0), (1, .int a1), (2, .int a2)] [.int u15.1, .int v10, .int 4, .ref a0] u15.2 0 0 (some (.int r.1), r.2, 0, 0)
  replace hf := xl_el hf; obtain ⟨v16, e_v16, hf⟩ := hf
  refine mx_S.pu (pc2 := 47) (lv2 := [(4, .int u7.1), (3, .int u2.1), (0, .ref a0), (1, .int a1), (2, .int a2)]) (st2 := [.int v16, .int 4, .ref a0]) hm dX6_fieldOf_46 (by rw [← e_v16]; rfl) ?_
  clear e_v16
  replace hf := mx_gd_el hf; obtain ⟨c17, hf⟩ := hf
  replace hf := mx_sv_el hf; obtain ⟨u18, e_u18, hf⟩ := hf
  refine sx_cv hm dX6_fieldOf_47 rs_RX6_66 mt_X6_constant [.int 4, .int v16] [] (b := a0) (ci := 6) rfl rfl rfl c17 (Nat.le_of_ble_eq_true rfl) (Nat.le_of_ble_eq_true rfl) (by omega) (by omega) (f_X6_constant_ok X (by omega) (by omega) nn a0 4 v16 u15.2 e_u18) ?_
  clear e_u18
  show mx_S X F L 194 50 [(4, .int u7.1), (3, .int u2.1), (0, .ref a0), (1, .int a1), (2, .int a2)] [.int u18.1] u18.2 0 0 (some (.int r.1), r.2, 0, 0)
  cases hf
  exact sx_ire hm dX6_fieldOf_50 rfl rfl
set_option maxHeartbeats 4000000 in
set_option maxRecDepth 20000 in
theorem j_X10_fetch_135_ok (X : Nat × (Nat → Int32)) {F L : Nat} (hF : 3 ≤ F) (hL : 81 ≤ L) (nn : Nat) (l0 : Nat) (h : mx_H) {r : mx_H} (hf : j_X10_fetch_135 nn l0 h = some r) : mx_S X F L 292 135 [(0, .ref l0)] [] h 0 0 (none, r, 0, 0) := by
  have hm : mx_mt 292 = some (yX10_fetch, cX10_fetch, 1, none) := mt_X10_fetch
  unfold j_X10_fetch_135 at hf
  refine mx_S.pu (pc2 := 136) (lv2 := [(0, .ref l0)]) (st2 := [.ref l0]) hm dX10_fetch_135 rfl ?_
  replace hf := mx_sv_el hf; obtain ⟨v1, e_v1, hf⟩ := hf
  refine sx_get hm dX10_fetch_136 rs_RX10_46 (xgr_el e_v1) ?_
  clear e_v1
  refine mx_S.pu (pc2 := 140) (lv2 := [(0, .ref l0)]) (st2 := [.ref l0, .ref v1]) hm dX10_fetch_139 rfl ?_
  replace hf := mx_sv_el hf; obtain ⟨v2, e_v2, hf⟩ := hf
  refine sx_get hm dX10_fetch_140 rs_RX10_75 (xgi_el e_v2) ?_
  clear e_v2
  replace hf := mx_gd_el hf; obtain ⟨c3, hf⟩ := hf
  replace hf := mx_sv_el hf; obtain ⟨u4, e_u4, hf⟩ := hf
  refine sx_cv hm dX10_fetch_143 rs_RX10_130 mt_X1_push [.int v2] [] (b := v1) (ci := 1) rfl rfl rfl c3 (Nat.le_of_ble_eq_true rfl) (Nat.le_of_ble_eq_true rfl) (by omega) (by omega) (f_X1_push_ok X (by omega) (by omega) nn v1 v2 h e_u4) ?_
  clear e_u4
  show mx_S X F L 292 146 [(0, .ref l0)] [] u4 0 0 (none, r, 0, 0)
  refine mx_S.pu (pc2 := 147) (lv2 := [(0, .ref l0)]) (st2 := [.ref l0]) hm dX10_fetch_146 rfl ?_
  refine sx_ic (v := 0) hm dX10_fetch_147 (by decide) ?_
  replace hf := mx_sv_el hf; obtain ⟨h5, e_h5, hf⟩ := hf
  refine sx_put hm dX10_fetch_148 rs_RX10_133 ft_10_11 ⟨rfl, rfl⟩ (fun z => by cases z) e_h5 ?_
  clear e_h5
  cases hf
  exact sx_ret hm dX10_fetch_151 rfl
set_option maxHeartbeats 4000000 in
set_option maxRecDepth 20000 in
theorem j_X10_fetch_120_ok (X : Nat × (Nat → Int32)) {F L : Nat} (hF : 3 ≤ F) (hL : 81 ≤ L) (nn : Nat) (l0 : Nat) (s0 : Int32) (s1 : Nat) (h : mx_H) {r : mx_H} (hf : j_X10_fetch_120 nn l0 s0 s1 h = some r) : mx_S X F L 292 120 [(0, .ref l0)] [.int s0, .ref s1] h 0 0 (none, r, 0, 0) := by
  have hm : mx_mt 292 = some (yX10_fetch, cX10_fetch, 1, none) := mt_X10_fetch
  unfold j_X10_fetch_120 at hf
  replace hf := mx_gd_el hf; obtain ⟨c6, hf⟩ := hf
  replace hf := mx_sv_el hf; obtain ⟨u7, e_u7, hf⟩ := hf
  refine sx_cv hm dX10_fetch_120 rs_RX10_162 mt_X1_op [.int s0] [] (b := s1) (ci := 1) rfl rfl rfl c6 (Nat.le_of_ble_eq_true rfl) (Nat.le_of_ble_eq_true rfl) (by omega) (by omega) (f_X1_op_ok X (by omega) (by omega) nn s1 s0 h e_u7) ?_
  clear e_u7
  show mx_S X F L 292 123 [(0, .ref l0)] [] u7 0 0 (none, r, 0, 0)
  refine mx_S.pu (pc2 := 124) (lv2 := [(0, .ref l0)]) (st2 := [.ref l0]) hm dX10_fetch_123 rfl ?_
  replace hf := mx_sv_el hf; obtain ⟨v8, e_v8, hf⟩ := hf
  refine sx_get hm dX10_fetch_124 rs_RX10_46 (xgr_el e_v8) ?_
  clear e_v8
  refine sx_ic (v := 2) hm dX10_fetch_127 (by decide) ?_
  replace hf := mx_gd_el hf; obtain ⟨c9, hf⟩ := hf
  replace hf := mx_sv_el hf; obtain ⟨u10, e_u10, hf⟩ := hf
  refine sx_cv hm dX10_fetch_128 rs_RX10_118 mt_X1_pop [.int 2] [] (b := v8) (ci := 1) rfl rfl rfl c9 (Nat.le_of_ble_eq_true rfl) (Nat.le_of_ble_eq_true rfl) (by omega) (by omega) (f_X1_pop_ok X (by omega) (by omega) nn v8 2 u7 e_u10) ?_
  clear e_u10
  show mx_S X F L 292 131 [(0, .ref l0)] [] u10 0 0 (none, r, 0, 0)
  refine mx_S.pu (pc2 := 135) (lv2 := [(0, .ref l0)]) (st2 := []) hm dX10_fetch_131 rfl ?_
  exact j_X10_fetch_135_ok X hF hL nn l0 u10 hf
set_option maxHeartbeats 4000000 in
set_option maxRecDepth 20000 in
theorem j_X10_fetch_53_ok (X : Nat × (Nat → Int32)) {F L : Nat} (hF : 3 ≤ F) (hL : 81 ≤ L) (nn : Nat) (l0 : Nat) (s0 : Int32) (s1 : Nat) (h : mx_H) {r : mx_H} (hf : j_X10_fetch_53 nn l0 s0 s1 h = some r) : mx_S X F L 292 53 [(0, .ref l0)] [.int s0, .ref s1] h 0 0 (none, r, 0, 0) := by
  have hm : mx_mt 292 = some (yX10_fetch, cX10_fetch, 1, none) := mt_X10_fetch
  unfold j_X10_fetch_53 at hf
  refine mx_S.pu (pc2 := 54) (lv2 := [(0, .ref l0)]) (st2 := [.ref l0, .int s0, .ref s1]) hm dX10_fetch_53 rfl ?_
  replace hf := mx_sv_el hf; obtain ⟨v11, e_v11, hf⟩ := hf
  refine sx_get hm dX10_fetch_54 rs_RX10_215 (xgi_el e_v11) ?_
  clear e_v11
  replace hf := mx_gd_el hf; obtain ⟨c12, hf⟩ := hf
  replace hf := mx_sv_el hf; obtain ⟨u13, e_u13, hf⟩ := hf
  refine sx_cv hm dX10_fetch_57 rs_RX10_179 mt_X1_op_ [.int s0, .int v11] [] (b := s1) (ci := 1) rfl rfl rfl c12 (Nat.le_of_ble_eq_true rfl) (Nat.le_of_ble_eq_true rfl) (by omega) (by omega) (f_X1_op__ok X (by omega) (by omega) nn s1 s0 v11 h e_u13) ?_
  clear e_u13
  show mx_S X F L 292 60 [(0, .ref l0)] [] u13 0 0 (none, r, 0, 0)
  refine mx_S.pu (pc2 := 135) (lv2 := [(0, .ref l0)]) (st2 := []) hm dX10_fetch_60 rfl ?_
  exact j_X10_fetch_135_ok X hF hL nn l0 u13 hf
set_option maxHeartbeats 4000000 in
set_option maxRecDepth 20000 in
theorem f_X10_fetch_ok (X : Nat × (Nat → Int32)) {F L : Nat} (hF : 3 ≤ F) (hL : 81 ≤ L) (nn : Nat) (a0 : Nat) (h : mx_H) {r : mx_H} (hf : f_X10_fetch nn a0 h = some r) : mx_R X F L 292 [.ref a0] h (none, r, 0, 0) := by
  have hm : mx_mt 292 = some (yX10_fetch, cX10_fetch, 1, none) := mt_X10_fetch
  show mx_S X F L 292 0 [(0, .ref a0)] [] h 0 0 (none, r, 0, 0)
  unfold f_X10_fetch at hf
  refine mx_S.pu (pc2 := 1) (lv2 := [(0, .ref a0)]) (st2 := [.ref a0]) hm dX10_fetch_0 rfl ?_
  replace hf := mx_sv_el hf; obtain ⟨v14, e_v14, hf⟩ := hf
  refine sx_get hm dX10_fetch_1 rs_RX10_133 (xgi_el e_v14) ?_
  clear e_v14
  rcases mx_if_el hf with ⟨n_0, hf⟩ | ⟨n_0, hf⟩
  · refine sx_tin hm dX10_fetch_4 (by rw [n_0]; decide) (by rw [n_0]; decide) (off := 28) (by rw [n_0]; rfl) (tgt := 32) rfl ?_
    clear n_0
    refine mx_S.pu (pc2 := 33) (lv2 := [(0, .ref a0)]) (st2 := [.ref a0]) hm dX10_fetch_32 rfl ?_
    replace hf := mx_sv_el hf; obtain ⟨v15, e_v15, hf⟩ := hf
    refine sx_get hm dX10_fetch_33 rs_RX10_46 (xgr_el e_v15) ?_
    clear e_v15
    refine mx_S.pu (pc2 := 37) (lv2 := [(0, .ref a0)]) (st2 := [.ref a0, .ref v15]) hm dX10_fetch_36 rfl ?_
    replace hf := mx_sv_el hf; obtain ⟨v16, e_v16, hf⟩ := hf
    refine sx_get hm dX10_fetch_37 rs_RX10_75 (xgi_el e_v16) ?_
    clear e_v16
    replace hf := mx_sv_el hf; obtain ⟨u17, e_u17, hf⟩ := hf
    refine sx_cs hm dX10_fetch_40 rs_RX10_143 mt_X4_isNumber [.int v16] [.ref v15] rfl rfl (Nat.le_of_ble_eq_true rfl) (Nat.le_of_ble_eq_true rfl) (by omega) (by omega) (f_X4_isNumber_ok X (by omega) (by omega) nn v16 h e_u17) ?_
    clear e_u17
    show mx_S X F L 292 43 [(0, .ref a0)] [.int u17.1, .ref v15] u17.2 0 0 (none, r, 0, 0)
    rcases mx_if_el hf with ⟨c18, hf⟩ | ⟨c18, hf⟩
    · refine sb_if_eq hm dX10_fetch_43 (tgt := 51) rfl (fun _ => ?_) (fun z => absurd c18 z)
      refine sx_bi (v := 25) hm dX10_fetch_51 (by decide) ?_
      exact j_X10_fetch_53_ok X hF hL nn a0 25 v15 u17.2 hf
    · refine sb_if_eq hm dX10_fetch_43 (tgt := 51) rfl (fun z => absurd z c18) (fun _ => ?_)
      refine sx_bi (v := 21) hm dX10_fetch_46 (by decide) ?_
      refine mx_S.pu (pc2 := 53) (lv2 := [(0, .ref a0)]) (st2 := [.int 21, .ref v15]) hm dX10_fetch_48 rfl ?_
      exact j_X10_fetch_53_ok X hF hL nn a0 21 v15 u17.2 hf
  · rcases mx_if_el hf with ⟨n_1, hf⟩ | ⟨n_1, hf⟩
    · refine sx_tin hm dX10_fetch_4 (by rw [n_1]; decide) (by rw [n_1]; decide) (off := 59) (by rw [n_1]; rfl) (tgt := 63) rfl ?_
      clear n_0 n_1
      refine mx_S.pu (pc2 := 64) (lv2 := [(0, .ref a0)]) (st2 := [.ref a0]) hm dX10_fetch_63 rfl ?_
      replace hf := mx_sv_el hf; obtain ⟨v19, e_v19, hf⟩ := hf
      refine sx_get hm dX10_fetch_64 rs_RX10_46 (xgr_el e_v19) ?_
      clear e_v19
      refine sx_si (v := 180) hm dX10_fetch_67 (by decide) ?_
      refine mx_S.pu (pc2 := 71) (lv2 := [(0, .ref a0)]) (st2 := [.ref a0, .int 180, .ref v19]) hm dX10_fetch_70 rfl ?_
      replace hf := mx_sv_el hf; obtain ⟨v20, e_v20, hf⟩ := hf
      refine sx_get hm dX10_fetch_71 rs_RX10_50 (xgr_el e_v20) ?_
      clear e_v20
      refine mx_S.pu (pc2 := 75) (lv2 := [(0, .ref a0)]) (st2 := [.ref a0, .ref v20, .int 180, .ref v19]) hm dX10_fetch_74 rfl ?_
      replace hf := mx_sv_el hf; obtain ⟨v21, e_v21, hf⟩ := hf
      refine sx_get hm dX10_fetch_75 rs_RX10_218 (xgi_el e_v21) ?_
      clear e_v21
      refine mx_S.pu (pc2 := 79) (lv2 := [(0, .ref a0)]) (st2 := [.ref a0, .int v21, .ref v20, .int 180, .ref v19]) hm dX10_fetch_78 rfl ?_
      replace hf := mx_sv_el hf; obtain ⟨v22, e_v22, hf⟩ := hf
      refine sx_get hm dX10_fetch_79 rs_RX10_215 (xgi_el e_v22) ?_
      clear e_v22
      replace hf := mx_gd_el hf; obtain ⟨c23, hf⟩ := hf
      replace hf := mx_sv_el hf; obtain ⟨u24, e_u24, hf⟩ := hf
      refine sx_cv hm dX10_fetch_82 rs_RX10_221 mt_X6_fieldOf [.int v21, .int v22] [.int 180, .ref v19] (b := v20) (ci := 6) rfl rfl rfl c23 (Nat.le_of_ble_eq_true rfl) (Nat.le_of_ble_eq_true rfl) (by omega) (by omega) (f_X6_fieldOf_ok X (by omega) (by omega) nn v20 v21 v22 h e_u24) ?_
      clear e_u24
      show mx_S X F L 292 85 [(0, .ref a0)] [.int u24.1, .int 180, .ref v19] u24.2 0 0 (none, r, 0, 0)
      replace hf := mx_gd_el hf; obtain ⟨c25, hf⟩ := hf
      replace hf := mx_sv_el hf; obtain ⟨u26, e_u26, hf⟩ := hf
      refine sx_cv hm dX10_fetch_85 rs_RX10_179 mt_X1_op_ [.int 180, .int u24.1] [] (b := v19) (ci := 1) rfl rfl rfl c25 (Nat.le_of_ble_eq_true rfl) (Nat.le_of_ble_eq_true rfl) (by omega) (by omega) (f_X1_op__ok X (by omega) (by omega) nn v19 180 u24.1 u24.2 e_u26) ?_
      clear e_u26
      show mx_S X F L 292 88 [(0, .ref a0)] [] u26 0 0 (none, r, 0, 0)
      refine mx_S.pu (pc2 := 89) (lv2 := [(0, .ref a0)]) (st2 := [.ref a0]) hm dX10_fetch_88 rfl ?_
      replace hf := mx_sv_el hf; obtain ⟨v27, e_v27, hf⟩ := hf
      refine sx_get hm dX10_fetch_89 rs_RX10_46 (xgr_el e_v27) ?_
      clear e_v27
      refine sx_ic (v := 1) hm dX10_fetch_92 (by decide) ?_
      replace hf := mx_gd_el hf; obtain ⟨c28, hf⟩ := hf
      replace hf := mx_sv_el hf; obtain ⟨u29, e_u29, hf⟩ := hf
      refine sx_cv hm dX10_fetch_93 rs_RX10_118 mt_X1_pop [.int 1] [] (b := v27) (ci := 1) rfl rfl rfl c28 (Nat.le_of_ble_eq_true rfl) (Nat.le_of_ble_eq_true rfl) (by omega) (by omega) (f_X1_pop_ok X (by omega) (by omega) nn v27 1 u26 e_u29) ?_
      clear e_u29
      show mx_S X F L 292 96 [(0, .ref a0)] [] u29 0 0 (none, r, 0, 0)
      refine mx_S.pu (pc2 := 135) (lv2 := [(0, .ref a0)]) (st2 := []) hm dX10_fetch_96 rfl ?_
      exact j_X10_fetch_135_ok X hF hL nn a0 u29 hf
    · rcases mx_if_el hf with ⟨n_2, hf⟩ | ⟨n_2, hf⟩
      · refine sx_tin hm dX10_fetch_4 (by rw [n_2]; decide) (by rw [n_2]; decide) (off := 95) (by rw [n_2]; rfl) (tgt := 99) rfl ?_
        clear n_0 n_1 n_2
        refine mx_S.pu (pc2 := 100) (lv2 := [(0, .ref a0)]) (st2 := [.ref a0]) hm dX10_fetch_99 rfl ?_
        replace hf := mx_sv_el hf; obtain ⟨v30, e_v30, hf⟩ := hf
        refine sx_get hm dX10_fetch_100 rs_RX10_46 (xgr_el e_v30) ?_
        clear e_v30
        refine mx_S.pu (pc2 := 104) (lv2 := [(0, .ref a0)]) (st2 := [.ref a0, .ref v30]) hm dX10_fetch_103 rfl ?_
        replace hf := mx_sv_el hf; obtain ⟨v31, e_v31, hf⟩ := hf
        refine sx_get hm dX10_fetch_104 rs_RX10_75 (xgi_el e_v31) ?_
        clear e_v31
        refine sx_si (v := 301) hm dX10_fetch_107 (by decide) ?_
        rcases mx_if_el hf with ⟨c32, hf⟩ | ⟨c32, hf⟩
        · refine sb_ic_ne hm dX10_fetch_110 (tgt := 118) rfl (fun _ => ?_) (fun z => absurd c32 z)
          refine sx_bi (v := 50) hm dX10_fetch_118 (by decide) ?_
          exact j_X10_fetch_120_ok X hF hL nn a0 50 v30 h hf
        · refine sb_ic_ne hm dX10_fetch_110 (tgt := 118) rfl (fun z => absurd z c32) (fun _ => ?_)
          refine sx_bi (v := 46) hm dX10_fetch_113 (by decide) ?_
          refine mx_S.pu (pc2 := 120) (lv2 := [(0, .ref a0)]) (st2 := [.int 46, .ref v30]) hm dX10_fetch_115 rfl ?_
          exact j_X10_fetch_120_ok X hF hL nn a0 46 v30 h hf
      · rcases (show (v14.toInt < 2 ∨ 4 < v14.toInt) ∨ v14.toInt = 2 ∨ v14.toInt = 3 ∨ v14.toInt = 4 by omega) with z0 | z0 | z0 | z0
        · refine sx_tout hm dX10_fetch_4 z0 (tgt := 134) rfl ?_
          cases hf
          exact sx_ret hm dX10_fetch_134 rfl
        · exact absurd (Int32.toInt_inj.mp (z0.trans (by decide : (2 : Int) = (2 : Int32).toInt))) n_0
        · exact absurd (Int32.toInt_inj.mp (z0.trans (by decide : (3 : Int) = (3 : Int32).toInt))) n_1
        · exact absurd (Int32.toInt_inj.mp (z0.trans (by decide : (4 : Int) = (4 : Int32).toInt))) n_2
set_option maxHeartbeats 4000000 in
set_option maxRecDepth 20000 in
theorem f_X10_give_ok (X : Nat × (Nat → Int32)) {F L : Nat} (hF : 2 ≤ F) (hL : 81 ≤ L) (nn : Nat) (a0 : Nat) (a1 : Int32) (h : mx_H) {r : mx_H} (hf : f_X10_give nn a0 a1 h = some r) : mx_R X F L 293 [.ref a0, .int a1] h (none, r, 0, 0) := by
  have hm : mx_mt 293 = some (yX10_give, cX10_give, 2, none) := mt_X10_give
  show mx_S X F L 293 0 [(0, .ref a0), (1, .int a1)] [] h 0 0 (none, r, 0, 0)
  unfold f_X10_give at hf
  refine mx_S.pu (pc2 := 1) (lv2 := [(0, .ref a0), (1, .int a1)]) (st2 := [.ref a0]) hm dX10_give_0 rfl ?_
  replace hf := mx_sv_el hf; obtain ⟨v1, e_v1, hf⟩ := hf
  refine sx_get hm dX10_give_1 rs_RX10_46 (xgr_el e_v1) ?_
  clear e_v1
  refine mx_S.pu (pc2 := 5) (lv2 := [(0, .ref a0), (1, .int a1)]) (st2 := [.int a1, .ref v1]) hm dX10_give_4 rfl ?_
  replace hf := mx_gd_el hf; obtain ⟨c2, hf⟩ := hf
  replace hf := mx_sv_el hf; obtain ⟨u3, e_u3, hf⟩ := hf
  refine sx_cv hm dX10_give_5 rs_RX10_130 mt_X1_push [.int a1] [] (b := v1) (ci := 1) rfl rfl rfl c2 (Nat.le_of_ble_eq_true rfl) (Nat.le_of_ble_eq_true rfl) (by omega) (by omega) (f_X1_push_ok X (by omega) (by omega) nn v1 a1 h e_u3) ?_
  clear e_u3
  show mx_S X F L 293 8 [(0, .ref a0), (1, .int a1)] [] u3 0 0 (none, r, 0, 0)
  refine mx_S.pu (pc2 := 9) (lv2 := [(0, .ref a0), (1, .int a1)]) (st2 := [.ref a0]) hm dX10_give_8 rfl ?_
  refine mx_S.pu (pc2 := 10) (lv2 := [(0, .ref a0), (1, .int a1)]) (st2 := [.int a1, .ref a0]) hm dX10_give_9 rfl ?_
  replace hf := mx_sv_el hf; obtain ⟨h4, e_h4, hf⟩ := hf
  refine sx_put hm dX10_give_10 rs_RX10_75 ft_10_12 ⟨rfl, rfl⟩ (fun z => by cases z) e_h4 ?_
  clear e_h4
  refine mx_S.pu (pc2 := 14) (lv2 := [(0, .ref a0), (1, .int a1)]) (st2 := [.ref a0]) hm dX10_give_13 rfl ?_
  refine sx_ic (v := 0) hm dX10_give_14 (by decide) ?_
  replace hf := mx_sv_el hf; obtain ⟨h5, e_h5, hf⟩ := hf
  refine sx_put hm dX10_give_15 rs_RX10_133 ft_10_11 ⟨rfl, rfl⟩ (fun z => by cases z) e_h5 ?_
  clear e_h5
  cases hf
  exact sx_ret hm dX10_give_18 rfl
set_option maxHeartbeats 4000000 in
set_option maxRecDepth 20000 in
theorem f_X2_typeOfField_ok (X : Nat × (Nat → Int32)) {F L : Nat} (hF : 0 ≤ F) (hL : 0 ≤ L) (nn : Nat) (a0 : Nat) (a1 : Int32) (h : mx_H) {r : (Int32 × mx_H)} (hf : f_X2_typeOfField nn a0 a1 h = some r) : mx_R X F L 82 [.ref a0, .int a1] h (some (.int r.1), r.2, 0, 0) := by
  have hm : mx_mt 82 = some (yX2_typeOfField, cX2_typeOfField, 2, (some .int)) := mt_X2_typeOfField
  show mx_S X F L 82 0 [(0, .ref a0), (1, .int a1)] [] h 0 0 (some (.int r.1), r.2, 0, 0)
  unfold f_X2_typeOfField at hf
  refine mx_S.pu (pc2 := 1) (lv2 := [(0, .ref a0), (1, .int a1)]) (st2 := [.int a1]) hm dX2_typeOfField_0 rfl ?_
  rcases mx_if_el hf with ⟨c6, hf⟩ | ⟨c6, hf⟩
  · refine sb_if_lt hm dX2_typeOfField_1 (tgt := 22) rfl (fun _ => ?_) (fun z => absurd c6 z)
    refine sx_si (v := 305) hm dX2_typeOfField_22 (by decide) ?_
    cases hf
    exact sx_ire hm dX2_typeOfField_25 rfl rfl
  · refine sb_if_lt hm dX2_typeOfField_1 (tgt := 22) rfl (fun z => absurd z c6) (fun _ => ?_)
    refine mx_S.pu (pc2 := 5) (lv2 := [(0, .ref a0), (1, .int a1)]) (st2 := [.int a1]) hm dX2_typeOfField_4 rfl ?_
    refine mx_S.pu (pc2 := 6) (lv2 := [(0, .ref a0), (1, .int a1)]) (st2 := [.ref a0, .int a1]) hm dX2_typeOfField_5 rfl ?_
    replace hf := mx_sv_el hf; obtain ⟨v1, e_v1, hf⟩ := hf
    refine sx_get hm dX2_typeOfField_6 rs_RX2_33 (xgr_el e_v1) ?_
    clear e_v1
    replace hf := mx_sv_el hf; obtain ⟨v2, e_v2, hf⟩ := hf
    refine sx_len hm dX2_typeOfField_9 e_v2 ?_
    clear e_v2
    rcases mx_if_el hf with ⟨c5, hf⟩ | ⟨c5, hf⟩
    · refine sb_ic_ge hm dX2_typeOfField_10 (tgt := 22) rfl (fun _ => ?_) (fun z => absurd c5 z)
      refine sx_si (v := 305) hm dX2_typeOfField_22 (by decide) ?_
      cases hf
      exact sx_ire hm dX2_typeOfField_25 rfl rfl
    · refine sb_ic_ge hm dX2_typeOfField_10 (tgt := 22) rfl (fun z => absurd z c5) (fun _ => ?_)
      refine mx_S.pu (pc2 := 14) (lv2 := [(0, .ref a0), (1, .int a1)]) (st2 := [.ref a0]) hm dX2_typeOfField_13 rfl ?_
      replace hf := mx_sv_el hf; obtain ⟨v3, e_v3, hf⟩ := hf
      refine sx_get hm dX2_typeOfField_14 rs_RX2_33 (xgr_el e_v3) ?_
      clear e_v3
      refine mx_S.pu (pc2 := 18) (lv2 := [(0, .ref a0), (1, .int a1)]) (st2 := [.int a1, .ref v3]) hm dX2_typeOfField_17 rfl ?_
      replace hf := mx_sv_el hf; obtain ⟨v4, e_v4, hf⟩ := hf
      refine sx_ald hm dX2_typeOfField_18 e_v4 ?_
      clear e_v4
      refine mx_S.pu (pc2 := 25) (lv2 := [(0, .ref a0), (1, .int a1)]) (st2 := [.int v4]) hm dX2_typeOfField_19 rfl ?_
      cases hf
      exact sx_ire hm dX2_typeOfField_25 rfl rfl
set_option maxHeartbeats 4000000 in
set_option maxRecDepth 20000 in
theorem f_X10_nameField_ok (X : Nat × (Nat → Int32)) {F L : Nat} (hF : 1 ≤ F) (hL : 21 ≤ L) (nn : Nat) (a0 : Nat) (a1 : Int32) (a2 : Int32) (h : mx_H) {r : mx_H} (hf : f_X10_nameField nn a0 a1 a2 h = some r) : mx_R X F L 302 [.ref a0, .int a1, .int a2] h (none, r, 0, 0) := by
  have hm : mx_mt 302 = some (yX10_nameField, cX10_nameField, 3, none) := mt_X10_nameField
  show mx_S X F L 302 0 [(0, .ref a0), (1, .int a1), (2, .int a2)] [] h 0 0 (none, r, 0, 0)
  unfold f_X10_nameField at hf
  refine mx_S.pu (pc2 := 1) (lv2 := [(0, .ref a0), (1, .int a1), (2, .int a2)]) (st2 := [.ref a0]) hm dX10_nameField_0 rfl ?_
  refine sx_ic (v := 3) hm dX10_nameField_1 (by decide) ?_
  replace hf := mx_sv_el hf; obtain ⟨h1, e_h1, hf⟩ := hf
  refine sx_put hm dX10_nameField_2 rs_RX10_133 ft_10_11 ⟨rfl, rfl⟩ (fun z => by cases z) e_h1 ?_
  clear e_h1
  refine mx_S.pu (pc2 := 6) (lv2 := [(0, .ref a0), (1, .int a1), (2, .int a2)]) (st2 := [.ref a0]) hm dX10_nameField_5 rfl ?_
  refine mx_S.pu (pc2 := 7) (lv2 := [(0, .ref a0), (1, .int a1), (2, .int a2)]) (st2 := [.int a1, .ref a0]) hm dX10_nameField_6 rfl ?_
  replace hf := mx_sv_el hf; obtain ⟨h2, e_h2, hf⟩ := hf
  refine sx_put hm dX10_nameField_7 rs_RX10_218 ft_10_13 ⟨rfl, rfl⟩ (fun z => by cases z) e_h2 ?_
  clear e_h2
  refine mx_S.pu (pc2 := 11) (lv2 := [(0, .ref a0), (1, .int a1), (2, .int a2)]) (st2 := [.ref a0]) hm dX10_nameField_10 rfl ?_
  refine mx_S.pu (pc2 := 12) (lv2 := [(0, .ref a0), (1, .int a1), (2, .int a2)]) (st2 := [.int a2, .ref a0]) hm dX10_nameField_11 rfl ?_
  replace hf := mx_sv_el hf; obtain ⟨h3, e_h3, hf⟩ := hf
  refine sx_put hm dX10_nameField_12 rs_RX10_215 ft_10_14 ⟨rfl, rfl⟩ (fun z => by cases z) e_h3 ?_
  clear e_h3
  refine mx_S.pu (pc2 := 16) (lv2 := [(0, .ref a0), (1, .int a1), (2, .int a2)]) (st2 := [.ref a0]) hm dX10_nameField_15 rfl ?_
  refine mx_S.pu (pc2 := 17) (lv2 := [(0, .ref a0), (1, .int a1), (2, .int a2)]) (st2 := [.ref a0, .ref a0]) hm dX10_nameField_16 rfl ?_
  replace hf := mx_sv_el hf; obtain ⟨v4, e_v4, hf⟩ := hf
  refine sx_get hm dX10_nameField_17 rs_RX10_35 (xgr_el e_v4) ?_
  clear e_v4
  refine mx_S.pu (pc2 := 21) (lv2 := [(0, .ref a0), (1, .int a1), (2, .int a2)]) (st2 := [.int a2, .ref v4, .ref a0]) hm dX10_nameField_20 rfl ?_
  replace hf := mx_gd_el hf; obtain ⟨c5, hf⟩ := hf
  replace hf := mx_sv_el hf; obtain ⟨u6, e_u6, hf⟩ := hf
  refine sx_cv hm dX10_nameField_21 rs_RX10_274 mt_X2_typeOfField [.int a2] [.ref a0] (b := v4) (ci := 2) rfl rfl rfl c5 (Nat.le_of_ble_eq_true rfl) (Nat.le_of_ble_eq_true rfl) (by omega) (by omega) (f_X2_typeOfField_ok X (by omega) (by omega) nn v4 a2 h3 e_u6) ?_
  clear e_u6
  show mx_S X F L 302 24 [(0, .ref a0), (1, .int a1), (2, .int a2)] [.int u6.1, .ref a0] u6.2 0 0 (none, r, 0, 0)
  replace hf := mx_sv_el hf; obtain ⟨h7, e_h7, hf⟩ := hf
  refine sx_put hm dX10_nameField_24 rs_RX10_75 ft_10_12 ⟨rfl, rfl⟩ (fun z => by cases z) e_h7 ?_
  clear e_h7
  cases hf
  exact sx_ret hm dX10_nameField_27 rfl
set_option maxHeartbeats 4000000 in
set_option maxRecDepth 20000 in
theorem j_X10_closeCall_45_ok (X : Nat × (Nat → Int32)) {F L : Nat} (hF : 3 ≤ F) (hL : 102 ≤ L) (nn : Nat) (l0 : Nat) (l1 : Int32) (h : mx_H) {r : mx_H} (hf : j_X10_closeCall_45 nn l0 l1 h = some r) : mx_S X F L 305 45 [(0, .ref l0), (1, .int l1)] [] h 0 0 (none, r, 0, 0) := by
  have hm : mx_mt 305 = some (yX10_closeCall, cX10_closeCall, 4, none) := mt_X10_closeCall
  unfold j_X10_closeCall_45 at hf
  refine mx_S.pu (pc2 := 46) (lv2 := [(0, .ref l0), (1, .int l1)]) (st2 := [.ref l0]) hm dX10_closeCall_45 rfl ?_
  refine mx_S.pu (pc2 := 47) (lv2 := [(0, .ref l0), (1, .int l1)]) (st2 := [.int l1, .ref l0]) hm dX10_closeCall_46 rfl ?_
  replace hf := mx_sv_el hf; obtain ⟨h1, e_h1, hf⟩ := hf
  refine sx_put hm dX10_closeCall_47 rs_RX10_75 ft_10_12 ⟨rfl, rfl⟩ (fun z => by cases z) e_h1 ?_
  clear e_h1
  refine mx_S.pu (pc2 := 51) (lv2 := [(0, .ref l0), (1, .int l1)]) (st2 := [.ref l0]) hm dX10_closeCall_50 rfl ?_
  refine sx_ic (v := 1) hm dX10_closeCall_51 (by decide) ?_
  replace hf := mx_sv_el hf; obtain ⟨h2, e_h2, hf⟩ := hf
  refine sx_put hm dX10_closeCall_52 rs_RX10_133 ft_10_11 ⟨rfl, rfl⟩ (fun z => by cases z) e_h2 ?_
  clear e_h2
  cases hf
  exact sx_ret hm dX10_closeCall_55 rfl
set_option maxHeartbeats 4000000 in
set_option maxRecDepth 20000 in
theorem j_X10_closeCall_35_ok (X : Nat × (Nat → Int32)) {F L : Nat} (hF : 3 ≤ F) (hL : 102 ≤ L) (nn : Nat) (l0 : Nat) (l1 : Int32) (l2 : Int32) (h : mx_H) {r : mx_H} (hf : j_X10_closeCall_35 nn l0 l1 l2 h = some r) : mx_S X F L 305 35 [(0, .ref l0), (1, .int l1), (2, .int l2)] [] h 0 0 (none, r, 0, 0) := by
  have hm : mx_mt 305 = some (yX10_closeCall, cX10_closeCall, 4, none) := mt_X10_closeCall
  unfold j_X10_closeCall_35 at hf
  refine mx_S.pu (pc2 := 36) (lv2 := [(0, .ref l0), (1, .int l1), (2, .int l2)]) (st2 := [.ref l0]) hm dX10_closeCall_35 rfl ?_
  replace hf := mx_sv_el hf; obtain ⟨v3, e_v3, hf⟩ := hf
  refine sx_get hm dX10_closeCall_36 rs_RX10_31 (xgr_el e_v3) ?_
  clear e_v3
  refine sx_bi (v := 6) hm dX10_closeCall_39 (by decide) ?_
  refine mx_S.pu (pc2 := 42) (lv2 := [(0, .ref l0), (1, .int l1), (2, .int l2)]) (st2 := [.int l2, .int 6, .ref v3]) hm dX10_closeCall_41 rfl ?_
  replace hf := mx_gd_el hf; obtain ⟨c4, hf⟩ := hf
  replace hf := mx_sv_el hf; obtain ⟨u5, e_u5, hf⟩ := hf
  refine sx_cv hm dX10_closeCall_42 rs_RX10_165 mt_X9_tell [.int 6, .int l2] [] (b := v3) (ci := 9) rfl rfl rfl c4 (Nat.le_of_ble_eq_true rfl) (Nat.le_of_ble_eq_true rfl) (by omega) (by omega) (f_X9_tell_ok X (by omega) (by omega) nn v3 6 l2 h e_u5) ?_
  clear e_u5
  show mx_S X F L 305 45 [(0, .ref l0), (1, .int l1), (2, .int l2)] [] u5 0 0 (none, r, 0, 0)
  refine mx_S.ext [(0, .ref l0), (1, .int l1)] (mx_sub_pos [0, 1] rfl (show ([0, 1, 2] : List Nat).Nodup by decide)) ?_
  exact j_X10_closeCall_45_ok X hF hL nn l0 l1 u5 hf
set_option maxHeartbeats 4000000 in
set_option maxRecDepth 20000 in
theorem f_X10_closeCall_ok (X : Nat × (Nat → Int32)) {F L : Nat} (hF : 3 ≤ F) (hL : 102 ≤ L) (nn : Nat) (a0 : Nat) (a1 : Int32) (a2 : Int32) (a3 : Int32) (h : mx_H) {r : mx_H} (hf : f_X10_closeCall nn a0 a1 a2 a3 h = some r) : mx_R X F L 305 [.ref a0, .int a1, .int a2, .int a3] h (none, r, 0, 0) := by
  have hm : mx_mt 305 = some (yX10_closeCall, cX10_closeCall, 4, none) := mt_X10_closeCall
  show mx_S X F L 305 0 [(0, .ref a0), (1, .int a1), (2, .int a2), (3, .int a3)] [] h 0 0 (none, r, 0, 0)
  unfold f_X10_closeCall at hf
  refine mx_S.pu (pc2 := 1) (lv2 := [(0, .ref a0), (1, .int a1), (2, .int a2), (3, .int a3)]) (st2 := [.int a1]) hm dX10_closeCall_0 rfl ?_
  refine sx_si (v := 303) hm dX10_closeCall_1 (by decide) ?_
  rcases mx_if_el hf with ⟨c14, hf⟩ | ⟨c14, hf⟩
  · refine sb_ic_eq hm dX10_closeCall_4 (tgt := 15) rfl (fun _ => ?_) (fun z => absurd c14 z)
    refine mx_S.pu (pc2 := 16) (lv2 := [(0, .ref a0), (1, .int a1), (2, .int a2), (3, .int a3)]) (st2 := [.int a3]) hm dX10_closeCall_15 rfl ?_
    refine mx_S.pu (pc2 := 17) (lv2 := [(0, .ref a0), (1, .int a1), (2, .int a2), (3, .int a3)]) (st2 := [.ref a0, .int a3]) hm dX10_closeCall_16 rfl ?_
    replace hf := mx_sv_el hf; obtain ⟨v6, e_v6, hf⟩ := hf
    refine sx_get hm dX10_closeCall_17 rs_RX10_62 (xgi_el e_v6) ?_
    clear e_v6
    rcases mx_if_el hf with ⟨c11, hf⟩ | ⟨c11, hf⟩
    · refine sb_ic_ne hm dX10_closeCall_20 (tgt := 35) rfl (fun _ => ?_) (fun z => absurd c11 z)
      refine mx_S.ext [(0, .ref a0), (1, .int a1), (2, .int a2)] (mx_sub_pos [0, 1, 2] rfl (show ([0, 1, 2, 3] : List Nat).Nodup by decide)) ?_
      exact j_X10_closeCall_35_ok X hF hL nn a0 a1 a2 h hf
    · refine sb_ic_ne hm dX10_closeCall_20 (tgt := 35) rfl (fun z => absurd z c11) (fun _ => ?_)
      refine mx_S.pu (pc2 := 24) (lv2 := [(0, .ref a0), (1, .int a1), (2, .int a2), (3, .int a3)]) (st2 := [.ref a0]) hm dX10_closeCall_23 rfl ?_
      replace hf := mx_sv_el hf; obtain ⟨v7, e_v7, hf⟩ := hf
      refine sx_get hm dX10_closeCall_24 rs_RX10_31 (xgr_el e_v7) ?_
      clear e_v7
      replace hf := mx_gd_el hf; obtain ⟨c8, hf⟩ := hf
      replace hf := mx_sv_el hf; obtain ⟨u9, e_u9, hf⟩ := hf
      refine sx_cv hm dX10_closeCall_27 rs_RX10_93 mt_X9_kind [] [] (b := v7) (ci := 9) rfl rfl rfl c8 (Nat.le_of_ble_eq_true rfl) (Nat.le_of_ble_eq_true rfl) (by omega) (by omega) (f_X9_kind_ok X (by omega) (by omega) nn v7 h e_u9) ?_
      clear e_u9
      show mx_S X F L 305 30 [(0, .ref a0), (1, .int a1), (2, .int a2), (3, .int a3)] [.int u9.1] u9.2 0 0 (none, r, 0, 0)
      refine sx_bi (v := 46) hm dX10_closeCall_30 (by decide) ?_
      rcases mx_if_el hf with ⟨c10, hf⟩ | ⟨c10, hf⟩
      · refine sb_ic_eq hm dX10_closeCall_32 (tgt := 45) rfl (fun _ => ?_) (fun z => absurd c10 z)
        refine mx_S.ext [(0, .ref a0), (1, .int a1)] (mx_sub_pos [0, 1] rfl (show ([0, 1, 2, 3] : List Nat).Nodup by decide)) ?_
        exact j_X10_closeCall_45_ok X hF hL nn a0 a1 u9.2 hf
      · refine sb_ic_eq hm dX10_closeCall_32 (tgt := 45) rfl (fun z => absurd z c10) (fun _ => ?_)
        refine mx_S.ext [(0, .ref a0), (1, .int a1), (2, .int a2)] (mx_sub_pos [0, 1, 2] rfl (show ([0, 1, 2, 3] : List Nat).Nodup by decide)) ?_
        exact j_X10_closeCall_35_ok X hF hL nn a0 a1 a2 u9.2 hf
  · refine sb_ic_eq hm dX10_closeCall_4 (tgt := 15) rfl (fun z => absurd z c14) (fun _ => ?_)
    refine mx_S.pu (pc2 := 8) (lv2 := [(0, .ref a0), (1, .int a1), (2, .int a2), (3, .int a3)]) (st2 := [.ref a0]) hm dX10_closeCall_7 rfl ?_
    refine mx_S.pu (pc2 := 9) (lv2 := [(0, .ref a0), (1, .int a1), (2, .int a2), (3, .int a3)]) (st2 := [.int a1, .ref a0]) hm dX10_closeCall_8 rfl ?_
    replace hf := mx_gd_el hf; obtain ⟨c12, hf⟩ := hf
    replace hf := mx_sv_el hf; obtain ⟨u13, e_u13, hf⟩ := hf
    refine sx_cv hm dX10_closeCall_9 rs_RX10_233 mt_X10_give [.int a1] [] (b := a0) (ci := 10) rfl rfl rfl c12 (Nat.le_of_ble_eq_true rfl) (Nat.le_of_ble_eq_true rfl) (by omega) (by omega) (f_X10_give_ok X (by omega) (by omega) nn a0 a1 h e_u13) ?_
    clear e_u13
    show mx_S X F L 305 12 [(0, .ref a0), (1, .int a1), (2, .int a2), (3, .int a3)] [] u13 0 0 (none, r, 0, 0)
    refine mx_S.pu (pc2 := 45) (lv2 := [(0, .ref a0), (1, .int a1), (2, .int a2), (3, .int a3)]) (st2 := []) hm dX10_closeCall_12 rfl ?_
    refine mx_S.ext [(0, .ref a0), (1, .int a1)] (mx_sub_pos [0, 1] rfl (show ([0, 1, 2, 3] : List Nat).Nodup by decide)) ?_
    exact j_X10_closeCall_45_ok X hF hL nn a0 a1 u13 hf
set_option maxHeartbeats 4000000 in
set_option maxRecDepth 20000 in
theorem f_X2_isMethod_ok (X : Nat × (Nat → Int32)) {F L : Nat} (hF : 0 ≤ F) (hL : 0 ≤ L) (nn : Nat) (a0 : Nat) (a1 : Int32) (h : mx_H) {r : (Int32 × mx_H)} (hf : f_X2_isMethod nn a0 a1 h = some r) : mx_R X F L 78 [.ref a0, .int a1] h (some (.int r.1), r.2, 0, 0) := by
  have hm : mx_mt 78 = some (yX2_isMethod, cX2_isMethod, 2, (some .boolean)) := mt_X2_isMethod
  show mx_S X F L 78 0 [(0, .ref a0), (1, .int a1)] [] h 0 0 (some (.int r.1), r.2, 0, 0)
  unfold f_X2_isMethod at hf
  refine mx_S.pu (pc2 := 1) (lv2 := [(0, .ref a0), (1, .int a1)]) (st2 := [.int a1]) hm dX2_isMethod_0 rfl ?_
  rcases mx_if_el hf with ⟨c9, hf⟩ | ⟨c9, hf⟩
  · refine sb_if_lt hm dX2_isMethod_1 (tgt := 33) rfl (fun _ => ?_) (fun z => absurd c9 z)
    refine sx_ic (v := 0) hm dX2_isMethod_33 (by decide) ?_
    cases hf
    exact sx_ire hm dX2_isMethod_34 rfl (by decide)
  · refine sb_if_lt hm dX2_isMethod_1 (tgt := 33) rfl (fun z => absurd z c9) (fun _ => ?_)
    refine mx_S.pu (pc2 := 5) (lv2 := [(0, .ref a0), (1, .int a1)]) (st2 := [.int a1]) hm dX2_isMethod_4 rfl ?_
    refine mx_S.pu (pc2 := 6) (lv2 := [(0, .ref a0), (1, .int a1)]) (st2 := [.ref a0, .int a1]) hm dX2_isMethod_5 rfl ?_
    replace hf := mx_sv_el hf; obtain ⟨v1, e_v1, hf⟩ := hf
    refine sx_get hm dX2_isMethod_6 rs_RX2_42 (xgr_el e_v1) ?_
    clear e_v1
    replace hf := mx_sv_el hf; obtain ⟨v2, e_v2, hf⟩ := hf
    refine sx_len hm dX2_isMethod_9 e_v2 ?_
    clear e_v2
    rcases mx_if_el hf with ⟨c8, hf⟩ | ⟨c8, hf⟩
    · refine sb_ic_ge hm dX2_isMethod_10 (tgt := 33) rfl (fun _ => ?_) (fun z => absurd c8 z)
      refine sx_ic (v := 0) hm dX2_isMethod_33 (by decide) ?_
      cases hf
      exact sx_ire hm dX2_isMethod_34 rfl (by decide)
    · refine sb_ic_ge hm dX2_isMethod_10 (tgt := 33) rfl (fun z => absurd z c8) (fun _ => ?_)
      refine mx_S.pu (pc2 := 14) (lv2 := [(0, .ref a0), (1, .int a1)]) (st2 := [.int a1]) hm dX2_isMethod_13 rfl ?_
      refine sx_bi (v := 12) hm dX2_isMethod_14 (by decide) ?_
      replace hf := xl_el hf; obtain ⟨v3, e_v3, hf⟩ := hf
      refine sx_irem (v := v3) hm dX2_isMethod_16 (by decide) e_v3 ?_
      clear e_v3
      refine mx_S.pu (pc2 := 18) (lv2 := [(0, .ref a0), (1, .int a1)]) (st2 := [.ref a0, .int v3]) hm dX2_isMethod_17 rfl ?_
      replace hf := mx_sv_el hf; obtain ⟨v4, e_v4, hf⟩ := hf
      refine sx_get hm dX2_isMethod_18 rs_RX2_39 (xgr_el e_v4) ?_
      clear e_v4
      refine mx_S.pu (pc2 := 22) (lv2 := [(0, .ref a0), (1, .int a1)]) (st2 := [.int a1, .ref v4, .int v3]) hm dX2_isMethod_21 rfl ?_
      refine sx_bi (v := 12) hm dX2_isMethod_22 (by decide) ?_
      replace hf := xl_el hf; obtain ⟨v5, e_v5, hf⟩ := hf
      refine sx_idiv (v := v5) hm dX2_isMethod_24 (by decide) e_v5 ?_
      clear e_v5
      replace hf := mx_sv_el hf; obtain ⟨v6, e_v6, hf⟩ := hf
      refine sx_ald hm dX2_isMethod_25 e_v6 ?_
      clear e_v6
      rcases mx_if_el hf with ⟨c7, hf⟩ | ⟨c7, hf⟩
      · refine sb_ic_ge hm dX2_isMethod_26 (tgt := 33) rfl (fun _ => ?_) (fun z => absurd c7 z)
        refine sx_ic (v := 0) hm dX2_isMethod_33 (by decide) ?_
        cases hf
        exact sx_ire hm dX2_isMethod_34 rfl (by decide)
      · refine sb_ic_ge hm dX2_isMethod_26 (tgt := 33) rfl (fun z => absurd z c7) (fun _ => ?_)
        refine sx_ic (v := 1) hm dX2_isMethod_29 (by decide) ?_
        refine mx_S.pu (pc2 := 34) (lv2 := [(0, .ref a0), (1, .int a1)]) (st2 := [.int 1]) hm dX2_isMethod_30 rfl ?_
        cases hf
        exact sx_ire hm dX2_isMethod_34 rfl (by decide)
set_option maxHeartbeats 4000000 in
set_option maxRecDepth 20000 in
theorem f_X2_isFixed_ok (X : Nat × (Nat → Int32)) {F L : Nat} (hF : 1 ≤ F) (hL : 21 ≤ L) (nn : Nat) (a0 : Nat) (a1 : Int32) (h : mx_H) {r : (Int32 × mx_H)} (hf : f_X2_isFixed nn a0 a1 h = some r) : mx_R X F L 87 [.ref a0, .int a1] h (some (.int r.1), r.2, 0, 0) := by
  have hm : mx_mt 87 = some (yX2_isFixed, cX2_isFixed, 2, (some .boolean)) := mt_X2_isFixed
  show mx_S X F L 87 0 [(0, .ref a0), (1, .int a1)] [] h 0 0 (some (.int r.1), r.2, 0, 0)
  unfold f_X2_isFixed at hf
  refine mx_S.pu (pc2 := 1) (lv2 := [(0, .ref a0), (1, .int a1)]) (st2 := [.ref a0]) hm dX2_isFixed_0 rfl ?_
  refine mx_S.pu (pc2 := 2) (lv2 := [(0, .ref a0), (1, .int a1)]) (st2 := [.int a1, .ref a0]) hm dX2_isFixed_1 rfl ?_
  replace hf := mx_gd_el hf; obtain ⟨c1, hf⟩ := hf
  replace hf := mx_sv_el hf; obtain ⟨u2, e_u2, hf⟩ := hf
  refine sx_cv hm dX2_isFixed_2 rs_RX2_128 mt_X2_isMethod [.int a1] [] (b := a0) (ci := 2) rfl rfl rfl c1 (Nat.le_of_ble_eq_true rfl) (Nat.le_of_ble_eq_true rfl) (by omega) (by omega) (f_X2_isMethod_ok X (by omega) (by omega) nn a0 a1 h e_u2) ?_
  clear e_u2
  show mx_S X F L 87 5 [(0, .ref a0), (1, .int a1)] [.int u2.1] u2.2 0 0 (some (.int r.1), r.2, 0, 0)
  rcases mx_if_el hf with ⟨c6, hf⟩ | ⟨c6, hf⟩
  · refine sb_if_eq hm dX2_isFixed_5 (tgt := 21) rfl (fun _ => ?_) (fun z => absurd c6 z)
    refine sx_ic (v := 0) hm dX2_isFixed_21 (by decide) ?_
    cases hf
    exact sx_ire hm dX2_isFixed_22 rfl (by decide)
  · refine sb_if_eq hm dX2_isFixed_5 (tgt := 21) rfl (fun z => absurd z c6) (fun _ => ?_)
    refine mx_S.pu (pc2 := 9) (lv2 := [(0, .ref a0), (1, .int a1)]) (st2 := [.ref a0]) hm dX2_isFixed_8 rfl ?_
    replace hf := mx_sv_el hf; obtain ⟨v3, e_v3, hf⟩ := hf
    refine sx_get hm dX2_isFixed_9 rs_RX2_51 (xgr_el e_v3) ?_
    clear e_v3
    refine mx_S.pu (pc2 := 13) (lv2 := [(0, .ref a0), (1, .int a1)]) (st2 := [.int a1, .ref v3]) hm dX2_isFixed_12 rfl ?_
    replace hf := mx_sv_el hf; obtain ⟨v4, e_v4, hf⟩ := hf
    refine sx_bld hm dX2_isFixed_13 e_v4 ?_
    clear e_v4
    rcases mx_if_el hf with ⟨c5, hf⟩ | ⟨c5, hf⟩
    · refine sb_if_eq hm dX2_isFixed_14 (tgt := 21) rfl (fun _ => ?_) (fun z => absurd c5 z)
      refine sx_ic (v := 0) hm dX2_isFixed_21 (by decide) ?_
      cases hf
      exact sx_ire hm dX2_isFixed_22 rfl (by decide)
    · refine sb_if_eq hm dX2_isFixed_14 (tgt := 21) rfl (fun z => absurd z c5) (fun _ => ?_)
      refine sx_ic (v := 1) hm dX2_isFixed_17 (by decide) ?_
      refine mx_S.pu (pc2 := 22) (lv2 := [(0, .ref a0), (1, .int a1)]) (st2 := [.int 1]) hm dX2_isFixed_18 rfl ?_
      cases hf
      exact sx_ire hm dX2_isFixed_22 rfl (by decide)
set_option maxHeartbeats 4000000 in
set_option maxRecDepth 20000 in
theorem f_X2_parametersOf_ok (X : Nat × (Nat → Int32)) {F L : Nat} (hF : 1 ≤ F) (hL : 21 ≤ L) (nn : Nat) (a0 : Nat) (a1 : Int32) (h : mx_H) {r : (Int32 × mx_H)} (hf : f_X2_parametersOf nn a0 a1 h = some r) : mx_R X F L 88 [.ref a0, .int a1] h (some (.int r.1), r.2, 0, 0) := by
  have hm : mx_mt 88 = some (yX2_parametersOf, cX2_parametersOf, 2, (some .int)) := mt_X2_parametersOf
  show mx_S X F L 88 0 [(0, .ref a0), (1, .int a1)] [] h 0 0 (some (.int r.1), r.2, 0, 0)
  unfold f_X2_parametersOf at hf
  refine mx_S.pu (pc2 := 1) (lv2 := [(0, .ref a0), (1, .int a1)]) (st2 := [.ref a0]) hm dX2_parametersOf_0 rfl ?_
  refine mx_S.pu (pc2 := 2) (lv2 := [(0, .ref a0), (1, .int a1)]) (st2 := [.int a1, .ref a0]) hm dX2_parametersOf_1 rfl ?_
  replace hf := mx_gd_el hf; obtain ⟨c1, hf⟩ := hf
  replace hf := mx_sv_el hf; obtain ⟨u2, e_u2, hf⟩ := hf
  refine sx_cv hm dX2_parametersOf_2 rs_RX2_128 mt_X2_isMethod [.int a1] [] (b := a0) (ci := 2) rfl rfl rfl c1 (Nat.le_of_ble_eq_true rfl) (Nat.le_of_ble_eq_true rfl) (by omega) (by omega) (f_X2_isMethod_ok X (by omega) (by omega) nn a0 a1 h e_u2) ?_
  clear e_u2
  show mx_S X F L 88 5 [(0, .ref a0), (1, .int a1)] [.int u2.1] u2.2 0 0 (some (.int r.1), r.2, 0, 0)
  rcases mx_if_el hf with ⟨c5, hf⟩ | ⟨c5, hf⟩
  · refine sb_if_eq hm dX2_parametersOf_5 (tgt := 17) rfl (fun _ => ?_) (fun z => absurd c5 z)
    refine sx_ic (v := 0) hm dX2_parametersOf_17 (by decide) ?_
    cases hf
    exact sx_ire hm dX2_parametersOf_18 rfl rfl
  · refine sb_if_eq hm dX2_parametersOf_5 (tgt := 17) rfl (fun z => absurd z c5) (fun _ => ?_)
    refine mx_S.pu (pc2 := 9) (lv2 := [(0, .ref a0), (1, .int a1)]) (st2 := [.ref a0]) hm dX2_parametersOf_8 rfl ?_
    replace hf := mx_sv_el hf; obtain ⟨v3, e_v3, hf⟩ := hf
    refine sx_get hm dX2_parametersOf_9 rs_RX2_58 (xgr_el e_v3) ?_
    clear e_v3
    refine mx_S.pu (pc2 := 13) (lv2 := [(0, .ref a0), (1, .int a1)]) (st2 := [.int a1, .ref v3]) hm dX2_parametersOf_12 rfl ?_
    replace hf := mx_sv_el hf; obtain ⟨v4, e_v4, hf⟩ := hf
    refine sx_ald hm dX2_parametersOf_13 e_v4 ?_
    clear e_v4
    refine mx_S.pu (pc2 := 18) (lv2 := [(0, .ref a0), (1, .int a1)]) (st2 := [.int v4]) hm dX2_parametersOf_14 rfl ?_
    cases hf
    exact sx_ire hm dX2_parametersOf_18 rfl rfl
set_option maxHeartbeats 4000000 in
set_option maxRecDepth 20000 in
theorem f_X2_parameterType_ok (X : Nat × (Nat → Int32)) {F L : Nat} (hF : 2 ≤ F) (hL : 42 ≤ L) (nn : Nat) (a0 : Nat) (a1 : Int32) (a2 : Int32) (h : mx_H) {r : (Int32 × mx_H)} (hf : f_X2_parameterType nn a0 a1 a2 h = some r) : mx_R X F L 89 [.ref a0, .int a1, .int a2] h (some (.int r.1), r.2, 0, 0) := by
  have hm : mx_mt 89 = some (yX2_parameterType, cX2_parameterType, 3, (some .int)) := mt_X2_parameterType
  show mx_S X F L 89 0 [(0, .ref a0), (1, .int a1), (2, .int a2)] [] h 0 0 (some (.int r.1), r.2, 0, 0)
  unfold f_X2_parameterType at hf
  refine mx_S.pu (pc2 := 1) (lv2 := [(0, .ref a0), (1, .int a1), (2, .int a2)]) (st2 := [.int a2]) hm dX2_parameterType_0 rfl ?_
  rcases mx_if_el hf with ⟨c8, hf⟩ | ⟨c8, hf⟩
  · refine sb_if_lt hm dX2_parameterType_1 (tgt := 27) rfl (fun _ => ?_) (fun z => absurd c8 z)
    refine sx_si (v := 305) hm dX2_parameterType_27 (by decide) ?_
    cases hf
    exact sx_ire hm dX2_parameterType_30 rfl rfl
  · refine sb_if_lt hm dX2_parameterType_1 (tgt := 27) rfl (fun z => absurd z c8) (fun _ => ?_)
    refine mx_S.pu (pc2 := 5) (lv2 := [(0, .ref a0), (1, .int a1), (2, .int a2)]) (st2 := [.int a2]) hm dX2_parameterType_4 rfl ?_
    refine mx_S.pu (pc2 := 6) (lv2 := [(0, .ref a0), (1, .int a1), (2, .int a2)]) (st2 := [.ref a0, .int a2]) hm dX2_parameterType_5 rfl ?_
    refine mx_S.pu (pc2 := 7) (lv2 := [(0, .ref a0), (1, .int a1), (2, .int a2)]) (st2 := [.int a1, .ref a0, .int a2]) hm dX2_parameterType_6 rfl ?_
    replace hf := mx_gd_el hf; obtain ⟨c1, hf⟩ := hf
    replace hf := mx_sv_el hf; obtain ⟨u2, e_u2, hf⟩ := hf
    refine sx_cv hm dX2_parameterType_7 rs_RX2_227 mt_X2_parametersOf [.int a1] [.int a2] (b := a0) (ci := 2) rfl rfl rfl c1 (Nat.le_of_ble_eq_true rfl) (Nat.le_of_ble_eq_true rfl) (by omega) (by omega) (f_X2_parametersOf_ok X (by omega) (by omega) nn a0 a1 h e_u2) ?_
    clear e_u2
    show mx_S X F L 89 10 [(0, .ref a0), (1, .int a1), (2, .int a2)] [.int u2.1, .int a2] u2.2 0 0 (some (.int r.1), r.2, 0, 0)
    rcases mx_if_el hf with ⟨c7, hf⟩ | ⟨c7, hf⟩
    · refine sb_ic_ge hm dX2_parameterType_10 (tgt := 27) rfl (fun _ => ?_) (fun z => absurd c7 z)
      refine sx_si (v := 305) hm dX2_parameterType_27 (by decide) ?_
      cases hf
      exact sx_ire hm dX2_parameterType_30 rfl rfl
    · refine sb_ic_ge hm dX2_parameterType_10 (tgt := 27) rfl (fun z => absurd z c7) (fun _ => ?_)
      refine mx_S.pu (pc2 := 14) (lv2 := [(0, .ref a0), (1, .int a1), (2, .int a2)]) (st2 := [.ref a0]) hm dX2_parameterType_13 rfl ?_
      replace hf := mx_sv_el hf; obtain ⟨v3, e_v3, hf⟩ := hf
      refine sx_get hm dX2_parameterType_14 rs_RX2_64 (xgr_el e_v3) ?_
      clear e_v3
      refine mx_S.pu (pc2 := 18) (lv2 := [(0, .ref a0), (1, .int a1), (2, .int a2)]) (st2 := [.int a1, .ref v3]) hm dX2_parameterType_17 rfl ?_
      refine sx_bi (v := 6) hm dX2_parameterType_18 (by decide) ?_
      replace hf := xl_el hf; obtain ⟨v4, e_v4, hf⟩ := hf
      refine mx_S.pu (pc2 := 21) (lv2 := [(0, .ref a0), (1, .int a1), (2, .int a2)]) (st2 := [.int v4, .ref v3]) hm dX2_parameterType_20 (by rw [← e_v4]; rfl) ?_
      clear e_v4
      refine mx_S.pu (pc2 := 22) (lv2 := [(0, .ref a0), (1, .int a1), (2, .int a2)]) (st2 := [.int a2, .int v4, .ref v3]) hm dX2_parameterType_21 rfl ?_
      replace hf := xl_el hf; obtain ⟨v5, e_v5, hf⟩ := hf
      refine mx_S.pu (pc2 := 23) (lv2 := [(0, .ref a0), (1, .int a1), (2, .int a2)]) (st2 := [.int v5, .ref v3]) hm dX2_parameterType_22 (by rw [← e_v5]; rfl) ?_
      clear e_v5
      replace hf := mx_sv_el hf; obtain ⟨v6, e_v6, hf⟩ := hf
      refine sx_ald hm dX2_parameterType_23 e_v6 ?_
      clear e_v6
      refine mx_S.pu (pc2 := 30) (lv2 := [(0, .ref a0), (1, .int a1), (2, .int a2)]) (st2 := [.int v6]) hm dX2_parameterType_24 rfl ?_
      cases hf
      exact sx_ire hm dX2_parameterType_30 rfl rfl
set_option maxHeartbeats 4000000 in
set_option maxRecDepth 20000 in
theorem f_X2_resultOf_ok (X : Nat × (Nat → Int32)) {F L : Nat} (hF : 1 ≤ F) (hL : 21 ≤ L) (nn : Nat) (a0 : Nat) (a1 : Int32) (h : mx_H) {r : (Int32 × mx_H)} (hf : f_X2_resultOf nn a0 a1 h = some r) : mx_R X F L 86 [.ref a0, .int a1] h (some (.int r.1), r.2, 0, 0) := by
  have hm : mx_mt 86 = some (yX2_resultOf, cX2_resultOf, 2, (some .int)) := mt_X2_resultOf
  show mx_S X F L 86 0 [(0, .ref a0), (1, .int a1)] [] h 0 0 (some (.int r.1), r.2, 0, 0)
  unfold f_X2_resultOf at hf
  refine mx_S.pu (pc2 := 1) (lv2 := [(0, .ref a0), (1, .int a1)]) (st2 := [.ref a0]) hm dX2_resultOf_0 rfl ?_
  refine mx_S.pu (pc2 := 2) (lv2 := [(0, .ref a0), (1, .int a1)]) (st2 := [.int a1, .ref a0]) hm dX2_resultOf_1 rfl ?_
  replace hf := mx_gd_el hf; obtain ⟨c1, hf⟩ := hf
  replace hf := mx_sv_el hf; obtain ⟨u2, e_u2, hf⟩ := hf
  refine sx_cv hm dX2_resultOf_2 rs_RX2_128 mt_X2_isMethod [.int a1] [] (b := a0) (ci := 2) rfl rfl rfl c1 (Nat.le_of_ble_eq_true rfl) (Nat.le_of_ble_eq_true rfl) (by omega) (by omega) (f_X2_isMethod_ok X (by omega) (by omega) nn a0 a1 h e_u2) ?_
  clear e_u2
  show mx_S X F L 86 5 [(0, .ref a0), (1, .int a1)] [.int u2.1] u2.2 0 0 (some (.int r.1), r.2, 0, 0)
  rcases mx_if_el hf with ⟨c5, hf⟩ | ⟨c5, hf⟩
  · refine sb_if_eq hm dX2_resultOf_5 (tgt := 17) rfl (fun _ => ?_) (fun z => absurd c5 z)
    refine sx_si (v := 305) hm dX2_resultOf_17 (by decide) ?_
    cases hf
    exact sx_ire hm dX2_resultOf_20 rfl rfl
  · refine sb_if_eq hm dX2_resultOf_5 (tgt := 17) rfl (fun z => absurd z c5) (fun _ => ?_)
    refine mx_S.pu (pc2 := 9) (lv2 := [(0, .ref a0), (1, .int a1)]) (st2 := [.ref a0]) hm dX2_resultOf_8 rfl ?_
    replace hf := mx_sv_el hf; obtain ⟨v3, e_v3, hf⟩ := hf
    refine sx_get hm dX2_resultOf_9 rs_RX2_48 (xgr_el e_v3) ?_
    clear e_v3
    refine mx_S.pu (pc2 := 13) (lv2 := [(0, .ref a0), (1, .int a1)]) (st2 := [.int a1, .ref v3]) hm dX2_resultOf_12 rfl ?_
    replace hf := mx_sv_el hf; obtain ⟨v4, e_v4, hf⟩ := hf
    refine sx_ald hm dX2_resultOf_13 e_v4 ?_
    clear e_v4
    refine mx_S.pu (pc2 := 20) (lv2 := [(0, .ref a0), (1, .int a1)]) (st2 := [.int v4]) hm dX2_resultOf_14 rfl ?_
    cases hf
    exact sx_ire hm dX2_resultOf_20 rfl rfl
set_option maxHeartbeats 4000000 in
set_option maxRecDepth 20000 in
theorem f_X2_kindOfMethod_ok (X : Nat × (Nat → Int32)) {F L : Nat} (hF : 0 ≤ F) (hL : 0 ≤ L) (nn : Nat) (a0 : Nat) (a1 : Int32) (h : mx_H) {r : (Int32 × mx_H)} (hf : f_X2_kindOfMethod nn a0 a1 h = some r) : mx_R X F L 81 [.ref a0, .int a1] h (some (.int r.1), r.2, 0, 0) := by
  have hm : mx_mt 81 = some (yX2_kindOfMethod, cX2_kindOfMethod, 2, (some .int)) := mt_X2_kindOfMethod
  show mx_S X F L 81 0 [(0, .ref a0), (1, .int a1)] [] h 0 0 (some (.int r.1), r.2, 0, 0)
  unfold f_X2_kindOfMethod at hf
  refine mx_S.pu (pc2 := 1) (lv2 := [(0, .ref a0), (1, .int a1)]) (st2 := [.int a1]) hm dX2_kindOfMethod_0 rfl ?_
  rcases mx_if_el hf with ⟨c6, hf⟩ | ⟨c6, hf⟩
  · refine sb_if_lt hm dX2_kindOfMethod_1 (tgt := 22) rfl (fun _ => ?_) (fun z => absurd c6 z)
    refine sx_ic (v := (-1)) hm dX2_kindOfMethod_22 (by decide) ?_
    cases hf
    exact sx_ire hm dX2_kindOfMethod_23 rfl rfl
  · refine sb_if_lt hm dX2_kindOfMethod_1 (tgt := 22) rfl (fun z => absurd z c6) (fun _ => ?_)
    refine mx_S.pu (pc2 := 5) (lv2 := [(0, .ref a0), (1, .int a1)]) (st2 := [.int a1]) hm dX2_kindOfMethod_4 rfl ?_
    refine mx_S.pu (pc2 := 6) (lv2 := [(0, .ref a0), (1, .int a1)]) (st2 := [.ref a0, .int a1]) hm dX2_kindOfMethod_5 rfl ?_
    replace hf := mx_sv_el hf; obtain ⟨v1, e_v1, hf⟩ := hf
    refine sx_get hm dX2_kindOfMethod_6 rs_RX2_55 (xgr_el e_v1) ?_
    clear e_v1
    replace hf := mx_sv_el hf; obtain ⟨v2, e_v2, hf⟩ := hf
    refine sx_len hm dX2_kindOfMethod_9 e_v2 ?_
    clear e_v2
    rcases mx_if_el hf with ⟨c5, hf⟩ | ⟨c5, hf⟩
    · refine sb_ic_ge hm dX2_kindOfMethod_10 (tgt := 22) rfl (fun _ => ?_) (fun z => absurd c5 z)
      refine sx_ic (v := (-1)) hm dX2_kindOfMethod_22 (by decide) ?_
      cases hf
      exact sx_ire hm dX2_kindOfMethod_23 rfl rfl
    · refine sb_ic_ge hm dX2_kindOfMethod_10 (tgt := 22) rfl (fun z => absurd z c5) (fun _ => ?_)
      refine mx_S.pu (pc2 := 14) (lv2 := [(0, .ref a0), (1, .int a1)]) (st2 := [.ref a0]) hm dX2_kindOfMethod_13 rfl ?_
      replace hf := mx_sv_el hf; obtain ⟨v3, e_v3, hf⟩ := hf
      refine sx_get hm dX2_kindOfMethod_14 rs_RX2_55 (xgr_el e_v3) ?_
      clear e_v3
      refine mx_S.pu (pc2 := 18) (lv2 := [(0, .ref a0), (1, .int a1)]) (st2 := [.int a1, .ref v3]) hm dX2_kindOfMethod_17 rfl ?_
      replace hf := mx_sv_el hf; obtain ⟨v4, e_v4, hf⟩ := hf
      refine sx_ald hm dX2_kindOfMethod_18 e_v4 ?_
      clear e_v4
      refine mx_S.pu (pc2 := 23) (lv2 := [(0, .ref a0), (1, .int a1)]) (st2 := [.int v4]) hm dX2_kindOfMethod_19 rfl ?_
      cases hf
      exact sx_ire hm dX2_kindOfMethod_23 rfl rfl
set_option maxHeartbeats 4000000 in
set_option maxRecDepth 20000 in
theorem f_X2_nameOfMethod_ok (X : Nat × (Nat → Int32)) {F L : Nat} (hF : 1 ≤ F) (hL : 21 ≤ L) (nn : Nat) (a0 : Nat) (a1 : Int32) (h : mx_H) {r : (Int32 × mx_H)} (hf : f_X2_nameOfMethod nn a0 a1 h = some r) : mx_R X F L 83 [.ref a0, .int a1] h (some (.int r.1), r.2, 0, 0) := by
  have hm : mx_mt 83 = some (yX2_nameOfMethod, cX2_nameOfMethod, 2, (some .int)) := mt_X2_nameOfMethod
  show mx_S X F L 83 0 [(0, .ref a0), (1, .int a1)] [] h 0 0 (some (.int r.1), r.2, 0, 0)
  unfold f_X2_nameOfMethod at hf
  refine mx_S.pu (pc2 := 1) (lv2 := [(0, .ref a0), (1, .int a1)]) (st2 := [.ref a0]) hm dX2_nameOfMethod_0 rfl ?_
  refine mx_S.pu (pc2 := 2) (lv2 := [(0, .ref a0), (1, .int a1)]) (st2 := [.int a1, .ref a0]) hm dX2_nameOfMethod_1 rfl ?_
  replace hf := mx_gd_el hf; obtain ⟨c1, hf⟩ := hf
  replace hf := mx_sv_el hf; obtain ⟨u2, e_u2, hf⟩ := hf
  refine sx_cv hm dX2_nameOfMethod_2 rs_RX2_128 mt_X2_isMethod [.int a1] [] (b := a0) (ci := 2) rfl rfl rfl c1 (Nat.le_of_ble_eq_true rfl) (Nat.le_of_ble_eq_true rfl) (by omega) (by omega) (f_X2_isMethod_ok X (by omega) (by omega) nn a0 a1 h e_u2) ?_
  clear e_u2
  show mx_S X F L 83 5 [(0, .ref a0), (1, .int a1)] [.int u2.1] u2.2 0 0 (some (.int r.1), r.2, 0, 0)
  rcases mx_if_el hf with ⟨c8, hf⟩ | ⟨c8, hf⟩
  · refine sb_if_eq hm dX2_nameOfMethod_5 (tgt := 24) rfl (fun _ => ?_) (fun z => absurd c8 z)
    refine sx_ic (v := (-1)) hm dX2_nameOfMethod_24 (by decide) ?_
    cases hf
    exact sx_ire hm dX2_nameOfMethod_25 rfl rfl
  · refine sb_if_eq hm dX2_nameOfMethod_5 (tgt := 24) rfl (fun z => absurd z c8) (fun _ => ?_)
    refine mx_S.pu (pc2 := 9) (lv2 := [(0, .ref a0), (1, .int a1)]) (st2 := [.ref a0]) hm dX2_nameOfMethod_8 rfl ?_
    replace hf := mx_sv_el hf; obtain ⟨v3, e_v3, hf⟩ := hf
    refine sx_get hm dX2_nameOfMethod_9 rs_RX2_74 (xgr_el e_v3) ?_
    clear e_v3
    refine mx_S.pu (pc2 := 13) (lv2 := [(0, .ref a0), (1, .int a1)]) (st2 := [.ref a0, .ref v3]) hm dX2_nameOfMethod_12 rfl ?_
    replace hf := mx_sv_el hf; obtain ⟨v4, e_v4, hf⟩ := hf
    refine sx_get hm dX2_nameOfMethod_13 rs_RX2_42 (xgr_el e_v4) ?_
    clear e_v4
    refine mx_S.pu (pc2 := 17) (lv2 := [(0, .ref a0), (1, .int a1)]) (st2 := [.int a1, .ref v4, .ref v3]) hm dX2_nameOfMethod_16 rfl ?_
    replace hf := mx_sv_el hf; obtain ⟨v5, e_v5, hf⟩ := hf
    refine sx_ald hm dX2_nameOfMethod_17 e_v5 ?_
    clear e_v5
    replace hf := mx_gd_el hf; obtain ⟨c6, hf⟩ := hf
    replace hf := mx_sv_el hf; obtain ⟨u7, e_u7, hf⟩ := hf
    refine sx_cv hm dX2_nameOfMethod_18 rs_RX2_135 mt_X9_valueAt [.int v5] [] (b := v3) (ci := 9) rfl rfl rfl c6 (Nat.le_of_ble_eq_true rfl) (Nat.le_of_ble_eq_true rfl) (by omega) (by omega) (f_X9_valueAt_ok X (by omega) (by omega) nn v3 v5 u2.2 e_u7) ?_
    clear e_u7
    show mx_S X F L 83 21 [(0, .ref a0), (1, .int a1)] [.int u7.1] u7.2 0 0 (some (.int r.1), r.2, 0, 0)
    refine mx_S.pu (pc2 := 25) (lv2 := [(0, .ref a0), (1, .int a1)]) (st2 := [.int u7.1]) hm dX2_nameOfMethod_21 rfl ?_
    cases hf
    exact sx_ire hm dX2_nameOfMethod_25 rfl rfl
set_option maxHeartbeats 4000000 in
set_option maxRecDepth 20000 in
theorem f_X6_methodOf_ok (X : Nat × (Nat → Int32)) {F L : Nat} (hF : 2 ≤ F) (hL : 44 ≤ L) (nn : Nat) (a0 : Nat) (a1 : Int32) (a2 : Int32) (h : mx_H) {r : (Int32 × mx_H)} (hf : f_X6_methodOf nn a0 a1 a2 h = some r) : mx_R X F L 195 [.ref a0, .int a1, .int a2] h (some (.int r.1), r.2, 0, 0) := by
  have hm : mx_mt 195 = some (yX6_methodOf, cX6_methodOf, 5, (some .int)) := mt_X6_methodOf
  show mx_S X F L 195 0 [(0, .ref a0), (1, .int a1), (2, .int a2)] [] h 0 0 (some (.int r.1), r.2, 0, 0)
  unfold f_X6_methodOf at hf
  refine mx_S.pu (pc2 := 1) (lv2 := [(0, .ref a0), (1, .int a1), (2, .int a2)]) (st2 := [.ref a0]) hm dX6_methodOf_0 rfl ?_
  refine mx_S.pu (pc2 := 2) (lv2 := [(0, .ref a0), (1, .int a1), (2, .int a2)]) (st2 := [.int a1, .ref a0]) hm dX6_methodOf_1 rfl ?_
  replace hf := mx_gd_el hf; obtain ⟨c1, hf⟩ := hf
  replace hf := mx_sv_el hf; obtain ⟨u2, e_u2, hf⟩ := hf
  refine sx_cv hm dX6_methodOf_2 rs_RX6_41 mt_X6_classOf [.int a1] [] (b := a0) (ci := 6) rfl rfl rfl c1 (Nat.le_of_ble_eq_true rfl) (Nat.le_of_ble_eq_true rfl) (by omega) (by omega) (f_X6_classOf_ok X (by omega) (by omega) nn a0 a1 h e_u2) ?_
  clear e_u2
  show mx_S X F L 195 5 [(0, .ref a0), (1, .int a1), (2, .int a2)] [.int u2.1] u2.2 0 0 (some (.int r.1), r.2, 0, 0)
  refine mx_S.pu (pc2 := 6) (lv2 := [(3, .int u2.1), (0, .ref a0), (1, .int a1), (2, .int a2)]) (st2 := []) hm dX6_methodOf_5 rfl ?_
  refine mx_S.pu (pc2 := 7) (lv2 := [(3, .int u2.1), (0, .ref a0), (1, .int a1), (2, .int a2)]) (st2 := [.ref a0]) hm dX6_methodOf_6 rfl ?_
  refine sx_ic (v := 1) hm dX6_methodOf_7 (by decide) ?_
  refine mx_S.pu (pc2 := 9) (lv2 := [(3, .int u2.1), (0, .ref a0), (1, .int a1), (2, .int a2)]) (st2 := [.ref a0, .int 1, .ref a0]) hm dX6_methodOf_8 rfl ?_
  replace hf := mx_sv_el hf; obtain ⟨v3, e_v3, hf⟩ := hf
  refine sx_get hm dX6_methodOf_9 rs_RX6_24 (xgr_el e_v3) ?_
  clear e_v3
  refine mx_S.pu (pc2 := 13) (lv2 := [(3, .int u2.1), (0, .ref a0), (1, .int a1), (2, .int a2)]) (st2 := [.int a2, .ref v3, .int 1, .ref a0]) hm dX6_methodOf_12 rfl ?_
  replace hf := mx_gd_el hf; obtain ⟨c4, hf⟩ := hf
  replace hf := mx_sv_el hf; obtain ⟨u5, e_u5, hf⟩ := hf
  refine sx_cv hm dX6_methodOf_13 rs_RX6_80 mt_X2_nameOfMethod [.int a2] [.int 1, .ref a0] (b := v3) (ci := 2) rfl rfl rfl c4 (Nat.le_of_ble_eq_true rfl) (Nat.le_of_ble_eq_true rfl) (by omega) (by omega) (f_X2_nameOfMethod_ok X (by omega) (by omega) nn v3 a2 u2.2 e_u5) ?_
  clear e_u5
  show mx_S X F L 195 16 [(3, .int u2.1), (0, .ref a0), (1, .int a1), (2, .int a2)] [.int u5.1, .int 1, .ref a0] u5.2 0 0 (some (.int r.1), r.2, 0, 0)
  replace hf := mx_gd_el hf; obtain ⟨c6, hf⟩ := hf
  replace hf := mx_sv_el hf; obtain ⟨u7, e_u7, hf⟩ := hf
  refine sx_cv hm dX6_methodOf_16 rs_RX6_66 mt_X6_constant [.int 1, .int u5.1] [] (b := a0) (ci := 6) rfl rfl rfl c6 (Nat.le_of_ble_eq_true rfl) (Nat.le_of_ble_eq_true rfl) (by omega) (by omega) (f_X6_constant_ok X (by omega) (by omega) nn a0 1 u5.1 u5.2 e_u7) ?_
  clear e_u7
  show mx_S X F L 195 19 [(3, .int u2.1), (0, .ref a0), (1, .int a1), (2, .int a2)] [.int u7.1] u7.2 0 0 (some (.int r.1), r.2, 0, 0)
  refine mx_S.pu (pc2 := 21) (lv2 := [(4, .int u7.1), (3, .int u2.1), (0, .ref a0), (1, .int a1), (2, .int a2)]) (st2 := []) hm dX6_methodOf_19 rfl ?_
  refine mx_S.pu (pc2 := 22) (lv2 := [(4, .int u7.1), (3, .int u2.1), (0, .ref a0), (1, .int a1), (2, .int a2)]) (st2 := [.ref a0]) hm dX6_methodOf_21 rfl ?_
  refine sx_ic (v := 4) hm dX6_methodOf_22 (by decide) ?_
  refine mx_S.pu (pc2 := 24) (lv2 := [(4, .int u7.1), (3, .int u2.1), (0, .ref a0), (1, .int a1), (2, .int a2)]) (st2 := [.int u2.1, .int 4, .ref a0]) hm dX6_methodOf_23 rfl ?_
  refine sx_bi (v := 16) hm dX6_methodOf_24 (by decide) ?_
  replace hf := xl_el hf; obtain ⟨v8, e_v8, hf⟩ := hf
  refine mx_S.pu (pc2 := 27) (lv2 := [(4, .int u7.1), (3, .int u2.1), (0, .ref a0), (1, .int a1), (2, .int a2)]) (st2 := [.int v8, .int 4, .ref a0]) hm dX6_methodOf_26 (by rw [← e_v8]; rfl) ?_
  clear e_v8
  refine mx_S.pu (pc2 := 29) (lv2 := [(4, .int u7.1), (3, .int u2.1), (0, .ref a0), (1, .int a1), (2, .int a2)]) (st2 := [.int u7.1, .int v8, .int 4, .ref a0]) hm dX6_methodOf_27 rfl ?_
  refine sx_bi (v := 8) hm dX6_methodOf_29 (by decide) ?_
  replace hf := xl_el hf; obtain ⟨v9, e_v9, hf⟩ := hf
  refine mx_S.pu (pc2 := 32) (lv2 := [(4, .int u7.1), (3, .int u2.1), (0, .ref a0), (1, .int a1), (2, .int a2)]) (st2 := [.int v9, .int v8, .int 4, .ref a0]) hm dX6_methodOf_31 (by rw [← e_v9]; rfl) ?_
  clear e_v9
  replace hf := xl_el hf; obtain ⟨v10, e_v10, hf⟩ := hf
  refine mx_S.pu (pc2 := 33) (lv2 := [(4, .int u7.1), (3, .int u2.1), (0, .ref a0), (1, .int a1), (2, .int a2)]) (st2 := [.int v10, .int 4, .ref a0]) hm dX6_methodOf_32 (by rw [← e_v10]; rfl) ?_
  clear e_v10
  refine mx_S.pu (pc2 := 34) (lv2 := [(4, .int u7.1), (3, .int u2.1), (0, .ref a0), (1, .int a1), (2, .int a2)]) (st2 := [.ref a0, .int v10, .int 4, .ref a0]) hm dX6_methodOf_33 rfl ?_
  refine sx_ic (v := 1) hm dX6_methodOf_34 (by decide) ?_
  refine mx_S.pu (pc2 := 36) (lv2 := [(4, .int u7.1), (3, .int u2.1), (0, .ref a0), (1, .int a1), (2, .int a2)]) (st2 := [.ref a0, .int 1, .ref a0, .int v10, .int 4, .ref a0]) hm dX6_methodOf_35 rfl ?_
  replace hf := mx_sv_el hf; obtain ⟨v11, e_v11, hf⟩ := hf
  refine sx_get hm dX6_methodOf_36 rs_RX6_24 (xgr_el e_v11) ?_
  clear e_v11
  refine mx_S.pu (pc2 := 40) (lv2 := [(4, .int u7.1), (3, .int u2.1), (0, .ref a0), (1, .int a1), (2, .int a2)]) (st2 := [.int a2, .ref v11, .int 1, .ref a0, .int v10, .int 4, .ref a0]) hm dX6_methodOf_39 rfl ?_
  replace hf := mx_gd_el hf; obtain ⟨c12, hf⟩ := hf
  replace hf := mx_sv_el hf; obtain ⟨u13, e_u13, hf⟩ := hf
  refine sx_cv hm dX6_methodOf_40 rs_RX6_83 mt_X2_kindOfMethod [.int a2] [.int 1, .ref a0, .int v10, .int 4, .ref a0] (b := v11) (ci := 2) rfl rfl rfl c12 (Nat.le_of_ble_eq_true rfl) (Nat.le_of_ble_eq_true rfl) (by omega) (by omega) (f_X2_kindOfMethod_ok X (by omega) (by omega) nn v11 a2 u7.2 e_u13) ?_
  clear e_u13
  show mx_S X F L 195 43 [(4, .int u7.1), (3, .int u2.1), (0, .ref a0), (1, .int a1), (2, .int a2)] [.int u13.1, .int 1, .ref a0, .int v10, .int 4, .ref a0] u13.2 0 0 (some (.int r.1), r.2, 0, 0)
  replace hf := mx_gd_el hf; obtain ⟨c14, hf⟩ := hf
  replace hf := mx_sv_el hf; obtain ⟨u15, e_u15, hf⟩ := hf
  refine sx_cv hm dX6_methodOf_43 rs_RX6_66 mt_X6_constant [.int 1, .int u13.1] [.int v10, .int 4, .ref a0] (b := a0) (ci := 6) rfl rfl rfl c14 (Nat.le_of_ble_eq_true rfl) (Nat.le_of_ble_eq_true rfl) (by omega) (by omega) (f_X6_constant_ok X (by omega) (by omega) nn a0 1 u13.1 u13.2 e_u15) ?_
  clear e_u15
  show mx_S X F L 195 46 [(4, .int u7.1), (3, .int u2.1), (0, .ref a0), (1, .int a1), (2, .int a2)] [.int u15.1, .int v10, .int 4, .ref a0] u15.2 0 0 (some (.int r.1), r.2, 0, 0)
  replace hf := xl_el hf; obtain ⟨v16, e_v16, hf⟩ := hf
  refine mx_S.pu (pc2 := 47) (lv2 := [(4, .int u7.1), (3, .int u2.1), (0, .ref a0), (1, .int a1), (2, .int a2)]) (st2 := [.int v16, .int 4, .ref a0]) hm dX6_methodOf_46 (by rw [← e_v16]; rfl) ?_
  clear e_v16
  replace hf := mx_gd_el hf; obtain ⟨c17, hf⟩ := hf
  replace hf := mx_sv_el hf; obtain ⟨u18, e_u18, hf⟩ := hf
  refine sx_cv hm dX6_methodOf_47 rs_RX6_66 mt_X6_constant [.int 4, .int v16] [] (b := a0) (ci := 6) rfl rfl rfl c17 (Nat.le_of_ble_eq_true rfl) (Nat.le_of_ble_eq_true rfl) (by omega) (by omega) (f_X6_constant_ok X (by omega) (by omega) nn a0 4 v16 u15.2 e_u18) ?_
  clear e_u18
  show mx_S X F L 195 50 [(4, .int u7.1), (3, .int u2.1), (0, .ref a0), (1, .int a1), (2, .int a2)] [.int u18.1] u18.2 0 0 (some (.int r.1), r.2, 0, 0)
  cases hf
  exact sx_ire hm dX6_methodOf_50 rfl rfl
set_option maxHeartbeats 4000000 in
set_option maxRecDepth 20000 in
theorem w_X2_fieldIn_2_ok (X : Nat × (Nat → Int32)) {F L : Nat} (hF : 0 ≤ F) (hL : 0 ≤ L) (nn : Nat) : ∀ (k : Nat) (l0 : Nat) (l1 : Int32) (l2 : Int32) (l3 : Int32) (h : mx_H) (r : (Int32 × mx_H)), w_X2_fieldIn_2 nn k l0 l1 l2 l3 h = some r → mx_S X F L 71 2 [(0, .ref l0), (1, .int l1), (2, .int l2), (3, .int l3)] [] h 0 0 (some (.int r.1), r.2, 0, 0) := by
  have hm : mx_mt 71 = some (yX2_fieldIn, cX2_fieldIn, 4, (some .int)) := mt_X2_fieldIn
  intro k
  induction k with
  | zero => intro l0 l1 l2 l3 h r hf; cases hf
  | succ k ih =>
    intro l0 l1 l2 l3 h r hf
    unfold w_X2_fieldIn_2 at hf
    refine mx_S.pu (pc2 := 3) (lv2 := [(0, .ref l0), (1, .int l1), (2, .int l2), (3, .int l3)]) (st2 := [.int l3]) hm dX2_fieldIn_2 rfl ?_
    refine mx_S.pu (pc2 := 4) (lv2 := [(0, .ref l0), (1, .int l1), (2, .int l2), (3, .int l3)]) (st2 := [.ref l0, .int l3]) hm dX2_fieldIn_3 rfl ?_
    replace hf := mx_sv_el hf; obtain ⟨v1, e_v1, hf⟩ := hf
    refine sx_get hm dX2_fieldIn_4 rs_RX2_27 (xgr_el e_v1) ?_
    clear e_v1
    refine mx_S.pu (pc2 := 8) (lv2 := [(0, .ref l0), (1, .int l1), (2, .int l2), (3, .int l3)]) (st2 := [.int l1, .ref v1, .int l3]) hm dX2_fieldIn_7 rfl ?_
    replace hf := mx_sv_el hf; obtain ⟨v2, e_v2, hf⟩ := hf
    refine sx_ald hm dX2_fieldIn_8 e_v2 ?_
    clear e_v2
    rcases mx_if_el hf with ⟨c11, hf⟩ | ⟨c11, hf⟩
    · refine sb_ic_ge hm dX2_fieldIn_9 (tgt := 40) rfl (fun _ => ?_) (fun z => absurd c11 z)
      refine sx_ic (v := (-1)) hm dX2_fieldIn_40 (by decide) ?_
      cases hf
      exact sx_ire hm dX2_fieldIn_41 rfl rfl
    · refine sb_ic_ge hm dX2_fieldIn_9 (tgt := 40) rfl (fun z => absurd z c11) (fun _ => ?_)
      refine mx_S.pu (pc2 := 13) (lv2 := [(0, .ref l0), (1, .int l1), (2, .int l2), (3, .int l3)]) (st2 := [.ref l0]) hm dX2_fieldIn_12 rfl ?_
      replace hf := mx_sv_el hf; obtain ⟨v3, e_v3, hf⟩ := hf
      refine sx_get hm dX2_fieldIn_13 rs_RX2_30 (xgr_el e_v3) ?_
      clear e_v3
      refine mx_S.pu (pc2 := 17) (lv2 := [(0, .ref l0), (1, .int l1), (2, .int l2), (3, .int l3)]) (st2 := [.int l1, .ref v3]) hm dX2_fieldIn_16 rfl ?_
      refine sx_bi (v := 12) hm dX2_fieldIn_17 (by decide) ?_
      replace hf := xl_el hf; obtain ⟨v4, e_v4, hf⟩ := hf
      refine mx_S.pu (pc2 := 20) (lv2 := [(0, .ref l0), (1, .int l1), (2, .int l2), (3, .int l3)]) (st2 := [.int v4, .ref v3]) hm dX2_fieldIn_19 (by rw [← e_v4]; rfl) ?_
      clear e_v4
      refine mx_S.pu (pc2 := 21) (lv2 := [(0, .ref l0), (1, .int l1), (2, .int l2), (3, .int l3)]) (st2 := [.int l3, .int v4, .ref v3]) hm dX2_fieldIn_20 rfl ?_
      replace hf := xl_el hf; obtain ⟨v5, e_v5, hf⟩ := hf
      refine mx_S.pu (pc2 := 22) (lv2 := [(0, .ref l0), (1, .int l1), (2, .int l2), (3, .int l3)]) (st2 := [.int v5, .ref v3]) hm dX2_fieldIn_21 (by rw [← e_v5]; rfl) ?_
      clear e_v5
      replace hf := mx_sv_el hf; obtain ⟨v6, e_v6, hf⟩ := hf
      refine sx_ald hm dX2_fieldIn_22 e_v6 ?_
      clear e_v6
      refine mx_S.pu (pc2 := 24) (lv2 := [(0, .ref l0), (1, .int l1), (2, .int l2), (3, .int l3)]) (st2 := [.int l2, .int v6]) hm dX2_fieldIn_23 rfl ?_
      rcases mx_if_el hf with ⟨c10, hf⟩ | ⟨c10, hf⟩
      · refine sb_ic_ne hm dX2_fieldIn_24 (tgt := 34) rfl (fun _ => ?_) (fun z => absurd c10 z)
        replace hf := xl_el hf; obtain ⟨v7, e_v7, hf⟩ := hf
        refine mx_S.pu (pc2 := 37) (lv2 := [(3, .int v7), (0, .ref l0), (1, .int l1), (2, .int l2)]) (st2 := []) hm dX2_fieldIn_34 (by rw [← e_v7]; rfl) ?_
        clear e_v7
        refine mx_S.pu (pc2 := 2) (lv2 := [(3, .int v7), (0, .ref l0), (1, .int l1), (2, .int l2)]) (st2 := []) hm dX2_fieldIn_37 rfl ?_
        refine mx_S.ext [(0, .ref l0), (1, .int l1), (2, .int l2), (3, .int v7)] (mx_sub_pos [1, 2, 3, 0] rfl (show ([3, 0, 1, 2] : List Nat).Nodup by decide)) ?_
        exact ih l0 l1 l2 v7 h _ hf
      · refine sb_ic_ne hm dX2_fieldIn_24 (tgt := 34) rfl (fun z => absurd z c10) (fun _ => ?_)
        refine mx_S.pu (pc2 := 28) (lv2 := [(0, .ref l0), (1, .int l1), (2, .int l2), (3, .int l3)]) (st2 := [.int l1]) hm dX2_fieldIn_27 rfl ?_
        refine sx_bi (v := 12) hm dX2_fieldIn_28 (by decide) ?_
        replace hf := xl_el hf; obtain ⟨v8, e_v8, hf⟩ := hf
        refine mx_S.pu (pc2 := 31) (lv2 := [(0, .ref l0), (1, .int l1), (2, .int l2), (3, .int l3)]) (st2 := [.int v8]) hm dX2_fieldIn_30 (by rw [← e_v8]; rfl) ?_
        clear e_v8
        refine mx_S.pu (pc2 := 32) (lv2 := [(0, .ref l0), (1, .int l1), (2, .int l2), (3, .int l3)]) (st2 := [.int l3, .int v8]) hm dX2_fieldIn_31 rfl ?_
        replace hf := xl_el hf; obtain ⟨v9, e_v9, hf⟩ := hf
        refine mx_S.pu (pc2 := 33) (lv2 := [(0, .ref l0), (1, .int l1), (2, .int l2), (3, .int l3)]) (st2 := [.int v9]) hm dX2_fieldIn_32 (by rw [← e_v9]; rfl) ?_
        clear e_v9
        cases hf
        exact sx_ire hm dX2_fieldIn_33 rfl rfl
set_option maxHeartbeats 4000000 in
set_option maxRecDepth 20000 in
theorem f_X2_fieldIn_ok (X : Nat × (Nat → Int32)) {F L : Nat} (hF : 0 ≤ F) (hL : 0 ≤ L) (nn : Nat) (a0 : Nat) (a1 : Int32) (a2 : Int32) (h : mx_H) {r : (Int32 × mx_H)} (hf : f_X2_fieldIn nn a0 a1 a2 h = some r) : mx_R X F L 71 [.ref a0, .int a1, .int a2] h (some (.int r.1), r.2, 0, 0) := by
  have hm : mx_mt 71 = some (yX2_fieldIn, cX2_fieldIn, 4, (some .int)) := mt_X2_fieldIn
  show mx_S X F L 71 0 [(0, .ref a0), (1, .int a1), (2, .int a2)] [] h 0 0 (some (.int r.1), r.2, 0, 0)
  unfold f_X2_fieldIn at hf
  refine sx_ic (v := 0) hm dX2_fieldIn_0 (by decide) ?_
  refine mx_S.pu (pc2 := 2) (lv2 := [(3, .int 0), (0, .ref a0), (1, .int a1), (2, .int a2)]) (st2 := []) hm dX2_fieldIn_1 rfl ?_
  refine mx_S.ext [(0, .ref a0), (1, .int a1), (2, .int a2), (3, .int 0)] (mx_sub_pos [1, 2, 3, 0] rfl (show ([3, 0, 1, 2] : List Nat).Nodup by decide)) ?_
  exact w_X2_fieldIn_2_ok X hF hL nn nn a0 a1 a2 0 h _ hf
set_option maxHeartbeats 4000000 in
set_option maxRecDepth 20000 in
theorem w_X2_fieldOf_8_ok (X : Nat × (Nat → Int32)) {F L : Nat} (hF : 2 ≤ F) (hL : 41 ≤ L) (nn : Nat) : ∀ (k : Nat) (l0 : Nat) (l2 : Int32) (l3 : Int32) (l4 : Int32) (l5 : Int32) (h : mx_H) (r : (Int32 × mx_H)), w_X2_fieldOf_8 nn k l0 l2 l3 l4 l5 h = some r → mx_S X F L 74 8 [(0, .ref l0), (2, .int l2), (3, .int l3), (4, .int l4), (5, .int l5)] [] h 0 0 (some (.int r.1), r.2, 0, 0) := by
  have hm : mx_mt 74 = some (yX2_fieldOf, cX2_fieldOf, 6, (some .int)) := mt_X2_fieldOf
  intro k
  induction k with
  | zero => intro l0 l2 l3 l4 l5 h r hf; cases hf
  | succ k ih =>
    intro l0 l2 l3 l4 l5 h r hf
    unfold w_X2_fieldOf_8 at hf
    refine mx_S.pu (pc2 := 10) (lv2 := [(0, .ref l0), (2, .int l2), (3, .int l3), (4, .int l4), (5, .int l5)]) (st2 := [.int l5]) hm dX2_fieldOf_8 rfl ?_
    refine sx_bi (v := 16) hm dX2_fieldOf_10 (by decide) ?_
    rcases mx_if_el hf with ⟨c11, hf⟩ | ⟨c11, hf⟩
    · refine sb_ic_ge hm dX2_fieldOf_12 (tgt := 56) rfl (fun _ => ?_) (fun z => absurd c11 z)
      refine mx_S.pu (pc2 := 57) (lv2 := [(0, .ref l0), (2, .int l2), (3, .int l3), (4, .int l4), (5, .int l5)]) (st2 := [.int l3]) hm dX2_fieldOf_56 rfl ?_
      cases hf
      exact sx_ire hm dX2_fieldOf_57 rfl rfl
    · refine sb_ic_ge hm dX2_fieldOf_12 (tgt := 56) rfl (fun z => absurd z c11) (fun _ => ?_)
      refine mx_S.pu (pc2 := 17) (lv2 := [(0, .ref l0), (2, .int l2), (3, .int l3), (4, .int l4), (5, .int l5)]) (st2 := [.int l4]) hm dX2_fieldOf_15 rfl ?_
      replace hf := mx_sv_el hf; obtain ⟨u1, e_u1, hf⟩ := hf
      refine sx_cs hm dX2_fieldOf_17 rs_RX2_224 mt_X2_isOwn [.int l4] [] rfl rfl (Nat.le_of_ble_eq_true rfl) (Nat.le_of_ble_eq_true rfl) (by omega) (by omega) (f_X2_isOwn_ok X (by omega) (by omega) nn l4 h e_u1) ?_
      clear e_u1
      show mx_S X F L 74 20 [(0, .ref l0), (2, .int l2), (3, .int l3), (4, .int l4), (5, .int l5)] [.int u1.1] u1.2 0 0 (some (.int r.1), r.2, 0, 0)
      rcases mx_if_el hf with ⟨c10, hf⟩ | ⟨c10, hf⟩
      · refine sb_if_eq hm dX2_fieldOf_20 (tgt := 56) rfl (fun _ => ?_) (fun z => absurd c10 z)
        refine mx_S.pu (pc2 := 57) (lv2 := [(0, .ref l0), (2, .int l2), (3, .int l3), (4, .int l4), (5, .int l5)]) (st2 := [.int l3]) hm dX2_fieldOf_56 rfl ?_
        cases hf
        exact sx_ire hm dX2_fieldOf_57 rfl rfl
      · refine sb_if_eq hm dX2_fieldOf_20 (tgt := 56) rfl (fun z => absurd z c10) (fun _ => ?_)
        refine mx_S.pu (pc2 := 24) (lv2 := [(0, .ref l0), (2, .int l2), (3, .int l3), (4, .int l4), (5, .int l5)]) (st2 := [.int l3]) hm dX2_fieldOf_23 rfl ?_
        refine sx_ic (v := (-1)) hm dX2_fieldOf_24 (by decide) ?_
        rcases mx_if_el hf with ⟨c9, hf⟩ | ⟨c9, hf⟩
        · refine sb_ic_ne hm dX2_fieldOf_25 (tgt := 56) rfl (fun _ => ?_) (fun z => absurd c9 z)
          refine mx_S.pu (pc2 := 57) (lv2 := [(0, .ref l0), (2, .int l2), (3, .int l3), (4, .int l4), (5, .int l5)]) (st2 := [.int l3]) hm dX2_fieldOf_56 rfl ?_
          cases hf
          exact sx_ire hm dX2_fieldOf_57 rfl rfl
        · refine sb_ic_ne hm dX2_fieldOf_25 (tgt := 56) rfl (fun z => absurd z c9) (fun _ => ?_)
          refine mx_S.pu (pc2 := 29) (lv2 := [(0, .ref l0), (2, .int l2), (3, .int l3), (4, .int l4), (5, .int l5)]) (st2 := [.ref l0]) hm dX2_fieldOf_28 rfl ?_
          refine mx_S.pu (pc2 := 31) (lv2 := [(0, .ref l0), (2, .int l2), (3, .int l3), (4, .int l4), (5, .int l5)]) (st2 := [.int l4, .ref l0]) hm dX2_fieldOf_29 rfl ?_
          refine sx_bi (v := 8) hm dX2_fieldOf_31 (by decide) ?_
          replace hf := xl_el hf; obtain ⟨v2, e_v2, hf⟩ := hf
          refine mx_S.pu (pc2 := 34) (lv2 := [(0, .ref l0), (2, .int l2), (3, .int l3), (4, .int l4), (5, .int l5)]) (st2 := [.int v2, .ref l0]) hm dX2_fieldOf_33 (by rw [← e_v2]; rfl) ?_
          clear e_v2
          refine mx_S.pu (pc2 := 35) (lv2 := [(0, .ref l0), (2, .int l2), (3, .int l3), (4, .int l4), (5, .int l5)]) (st2 := [.int l2, .int v2, .ref l0]) hm dX2_fieldOf_34 rfl ?_
          replace hf := mx_gd_el hf; obtain ⟨c3, hf⟩ := hf
          replace hf := mx_sv_el hf; obtain ⟨u4, e_u4, hf⟩ := hf
          refine sx_cv hm dX2_fieldOf_35 rs_RX2_203 mt_X2_fieldIn [.int v2, .int l2] [] (b := l0) (ci := 2) rfl rfl rfl c3 (Nat.le_of_ble_eq_true rfl) (Nat.le_of_ble_eq_true rfl) (by omega) (by omega) (f_X2_fieldIn_ok X (by omega) (by omega) nn l0 v2 l2 u1.2 e_u4) ?_
          clear e_u4
          show mx_S X F L 74 38 [(0, .ref l0), (2, .int l2), (3, .int l3), (4, .int l4), (5, .int l5)] [.int u4.1] u4.2 0 0 (some (.int r.1), r.2, 0, 0)
          refine mx_S.pu (pc2 := 39) (lv2 := [(3, .int u4.1), (0, .ref l0), (2, .int l2), (4, .int l4), (5, .int l5)]) (st2 := []) hm dX2_fieldOf_38 rfl ?_
          refine mx_S.pu (pc2 := 40) (lv2 := [(3, .int u4.1), (0, .ref l0), (2, .int l2), (4, .int l4), (5, .int l5)]) (st2 := [.ref l0]) hm dX2_fieldOf_39 rfl ?_
          replace hf := mx_sv_el hf; obtain ⟨v5, e_v5, hf⟩ := hf
          refine sx_get hm dX2_fieldOf_40 rs_RX2_14 (xgr_el e_v5) ?_
          clear e_v5
          refine mx_S.pu (pc2 := 45) (lv2 := [(3, .int u4.1), (0, .ref l0), (2, .int l2), (4, .int l4), (5, .int l5)]) (st2 := [.int l4, .ref v5]) hm dX2_fieldOf_43 rfl ?_
          replace hf := mx_gd_el hf; obtain ⟨c6, hf⟩ := hf
          replace hf := mx_sv_el hf; obtain ⟨u7, e_u7, hf⟩ := hf
          refine sx_cv hm dX2_fieldOf_45 rs_RX2_215 mt_X4_above [.int l4] [] (b := v5) (ci := 4) rfl rfl rfl c6 (Nat.le_of_ble_eq_true rfl) (Nat.le_of_ble_eq_true rfl) (by omega) (by omega) (f_X4_above_ok X (by omega) (by omega) nn v5 l4 u4.2 e_u7) ?_
          clear e_u7
          show mx_S X F L 74 48 [(3, .int u4.1), (0, .ref l0), (2, .int l2), (4, .int l4), (5, .int l5)] [.int u7.1] u7.2 0 0 (some (.int r.1), r.2, 0, 0)
          refine mx_S.pu (pc2 := 50) (lv2 := [(4, .int u7.1), (3, .int u4.1), (0, .ref l0), (2, .int l2), (5, .int l5)]) (st2 := []) hm dX2_fieldOf_48 rfl ?_
          replace hf := xl_el hf; obtain ⟨v8, e_v8, hf⟩ := hf
          refine mx_S.pu (pc2 := 53) (lv2 := [(5, .int v8), (4, .int u7.1), (3, .int u4.1), (0, .ref l0), (2, .int l2)]) (st2 := []) hm dX2_fieldOf_50 (by rw [← e_v8]; rfl) ?_
          clear e_v8
          refine mx_S.pu (pc2 := 8) (lv2 := [(5, .int v8), (4, .int u7.1), (3, .int u4.1), (0, .ref l0), (2, .int l2)]) (st2 := []) hm dX2_fieldOf_53 rfl ?_
          refine mx_S.ext [(0, .ref l0), (2, .int l2), (3, .int u4.1), (4, .int u7.1), (5, .int v8)] (mx_sub_pos [3, 4, 2, 1, 0] rfl (show ([5, 4, 3, 0, 2] : List Nat).Nodup by decide)) ?_
          exact ih l0 l2 u4.1 u7.1 v8 u7.2 _ hf
set_option maxHeartbeats 4000000 in
set_option maxRecDepth 20000 in
theorem f_X2_fieldOf_ok (X : Nat × (Nat → Int32)) {F L : Nat} (hF : 2 ≤ F) (hL : 41 ≤ L) (nn : Nat) (a0 : Nat) (a1 : Int32) (a2 : Int32) (h : mx_H) {r : (Int32 × mx_H)} (hf : f_X2_fieldOf nn a0 a1 a2 h = some r) : mx_R X F L 74 [.ref a0, .int a1, .int a2] h (some (.int r.1), r.2, 0, 0) := by
  have hm : mx_mt 74 = some (yX2_fieldOf, cX2_fieldOf, 6, (some .int)) := mt_X2_fieldOf
  show mx_S X F L 74 0 [(0, .ref a0), (1, .int a1), (2, .int a2)] [] h 0 0 (some (.int r.1), r.2, 0, 0)
  unfold f_X2_fieldOf at hf
  refine sx_ic (v := (-1)) hm dX2_fieldOf_0 (by decide) ?_
  refine mx_S.pu (pc2 := 2) (lv2 := [(3, .int (-1)), (0, .ref a0), (1, .int a1), (2, .int a2)]) (st2 := []) hm dX2_fieldOf_1 rfl ?_
  refine mx_S.pu (pc2 := 3) (lv2 := [(3, .int (-1)), (0, .ref a0), (1, .int a1), (2, .int a2)]) (st2 := [.int a1]) hm dX2_fieldOf_2 rfl ?_
  refine mx_S.pu (pc2 := 5) (lv2 := [(4, .int a1), (3, .int (-1)), (0, .ref a0), (1, .int a1), (2, .int a2)]) (st2 := []) hm dX2_fieldOf_3 rfl ?_
  refine sx_ic (v := 0) hm dX2_fieldOf_5 (by decide) ?_
  refine mx_S.pu (pc2 := 8) (lv2 := [(5, .int 0), (4, .int a1), (3, .int (-1)), (0, .ref a0), (1, .int a1), (2, .int a2)]) (st2 := []) hm dX2_fieldOf_6 rfl ?_
  refine mx_S.ext [(0, .ref a0), (2, .int a2), (3, .int (-1)), (4, .int a1), (5, .int 0)] (mx_sub_pos [3, 5, 2, 1, 0] rfl (show ([5, 4, 3, 0, 1, 2] : List Nat).Nodup by decide)) ?_
  exact w_X2_fieldOf_8_ok X hF hL nn nn a0 a2 (-1) a1 0 h _ hf
set_option maxHeartbeats 4000000 in
set_option maxRecDepth 20000 in
theorem w_X2_methodIn_2_ok (X : Nat × (Nat → Int32)) {F L : Nat} (hF : 1 ≤ F) (hL : 21 ≤ L) (nn : Nat) : ∀ (k : Nat) (l0 : Nat) (l1 : Int32) (l2 : Int32) (l3 : Int32) (h : mx_H) (r : (Int32 × mx_H)), w_X2_methodIn_2 nn k l0 l1 l2 l3 h = some r → mx_S X F L 72 2 [(0, .ref l0), (1, .int l1), (2, .int l2), (3, .int l3)] [] h 0 0 (some (.int r.1), r.2, 0, 0) := by
  have hm : mx_mt 72 = some (yX2_methodIn, cX2_methodIn, 4, (some .int)) := mt_X2_methodIn
  intro k
  induction k with
  | zero => intro l0 l1 l2 l3 h r hf; cases hf
  | succ k ih =>
    intro l0 l1 l2 l3 h r hf
    unfold w_X2_methodIn_2 at hf
    refine mx_S.pu (pc2 := 3) (lv2 := [(0, .ref l0), (1, .int l1), (2, .int l2), (3, .int l3)]) (st2 := [.int l3]) hm dX2_methodIn_2 rfl ?_
    refine mx_S.pu (pc2 := 4) (lv2 := [(0, .ref l0), (1, .int l1), (2, .int l2), (3, .int l3)]) (st2 := [.ref l0, .int l3]) hm dX2_methodIn_3 rfl ?_
    replace hf := mx_sv_el hf; obtain ⟨v1, e_v1, hf⟩ := hf
    refine sx_get hm dX2_methodIn_4 rs_RX2_39 (xgr_el e_v1) ?_
    clear e_v1
    refine mx_S.pu (pc2 := 8) (lv2 := [(0, .ref l0), (1, .int l1), (2, .int l2), (3, .int l3)]) (st2 := [.int l1, .ref v1, .int l3]) hm dX2_methodIn_7 rfl ?_
    replace hf := mx_sv_el hf; obtain ⟨v2, e_v2, hf⟩ := hf
    refine sx_ald hm dX2_methodIn_8 e_v2 ?_
    clear e_v2
    rcases mx_if_el hf with ⟨c14, hf⟩ | ⟨c14, hf⟩
    · refine sb_ic_ge hm dX2_methodIn_9 (tgt := 47) rfl (fun _ => ?_) (fun z => absurd c14 z)
      refine sx_ic (v := (-1)) hm dX2_methodIn_47 (by decide) ?_
      cases hf
      exact sx_ire hm dX2_methodIn_48 rfl rfl
    · refine sb_ic_ge hm dX2_methodIn_9 (tgt := 47) rfl (fun z => absurd z c14) (fun _ => ?_)
      refine mx_S.pu (pc2 := 13) (lv2 := [(0, .ref l0), (1, .int l1), (2, .int l2), (3, .int l3)]) (st2 := [.ref l0]) hm dX2_methodIn_12 rfl ?_
      replace hf := mx_sv_el hf; obtain ⟨v3, e_v3, hf⟩ := hf
      refine sx_get hm dX2_methodIn_13 rs_RX2_74 (xgr_el e_v3) ?_
      clear e_v3
      refine mx_S.pu (pc2 := 17) (lv2 := [(0, .ref l0), (1, .int l1), (2, .int l2), (3, .int l3)]) (st2 := [.ref l0, .ref v3]) hm dX2_methodIn_16 rfl ?_
      replace hf := mx_sv_el hf; obtain ⟨v4, e_v4, hf⟩ := hf
      refine sx_get hm dX2_methodIn_17 rs_RX2_42 (xgr_el e_v4) ?_
      clear e_v4
      refine mx_S.pu (pc2 := 21) (lv2 := [(0, .ref l0), (1, .int l1), (2, .int l2), (3, .int l3)]) (st2 := [.int l1, .ref v4, .ref v3]) hm dX2_methodIn_20 rfl ?_
      refine sx_bi (v := 12) hm dX2_methodIn_21 (by decide) ?_
      replace hf := xl_el hf; obtain ⟨v5, e_v5, hf⟩ := hf
      refine mx_S.pu (pc2 := 24) (lv2 := [(0, .ref l0), (1, .int l1), (2, .int l2), (3, .int l3)]) (st2 := [.int v5, .ref v4, .ref v3]) hm dX2_methodIn_23 (by rw [← e_v5]; rfl) ?_
      clear e_v5
      refine mx_S.pu (pc2 := 25) (lv2 := [(0, .ref l0), (1, .int l1), (2, .int l2), (3, .int l3)]) (st2 := [.int l3, .int v5, .ref v4, .ref v3]) hm dX2_methodIn_24 rfl ?_
      replace hf := xl_el hf; obtain ⟨v6, e_v6, hf⟩ := hf
      refine mx_S.pu (pc2 := 26) (lv2 := [(0, .ref l0), (1, .int l1), (2, .int l2), (3, .int l3)]) (st2 := [.int v6, .ref v4, .ref v3]) hm dX2_methodIn_25 (by rw [← e_v6]; rfl) ?_
      clear e_v6
      replace hf := mx_sv_el hf; obtain ⟨v7, e_v7, hf⟩ := hf
      refine sx_ald hm dX2_methodIn_26 e_v7 ?_
      clear e_v7
      replace hf := mx_gd_el hf; obtain ⟨c8, hf⟩ := hf
      replace hf := mx_sv_el hf; obtain ⟨u9, e_u9, hf⟩ := hf
      refine sx_cv hm dX2_methodIn_27 rs_RX2_135 mt_X9_valueAt [.int v7] [] (b := v3) (ci := 9) rfl rfl rfl c8 (Nat.le_of_ble_eq_true rfl) (Nat.le_of_ble_eq_true rfl) (by omega) (by omega) (f_X9_valueAt_ok X (by omega) (by omega) nn v3 v7 h e_u9) ?_
      clear e_u9
      show mx_S X F L 72 30 [(0, .ref l0), (1, .int l1), (2, .int l2), (3, .int l3)] [.int u9.1] u9.2 0 0 (some (.int r.1), r.2, 0, 0)
      refine mx_S.pu (pc2 := 31) (lv2 := [(0, .ref l0), (1, .int l1), (2, .int l2), (3, .int l3)]) (st2 := [.int l2, .int u9.1]) hm dX2_methodIn_30 rfl ?_
      rcases mx_if_el hf with ⟨c13, hf⟩ | ⟨c13, hf⟩
      · refine sb_ic_ne hm dX2_methodIn_31 (tgt := 41) rfl (fun _ => ?_) (fun z => absurd c13 z)
        replace hf := xl_el hf; obtain ⟨v10, e_v10, hf⟩ := hf
        refine mx_S.pu (pc2 := 44) (lv2 := [(3, .int v10), (0, .ref l0), (1, .int l1), (2, .int l2)]) (st2 := []) hm dX2_methodIn_41 (by rw [← e_v10]; rfl) ?_
        clear e_v10
        refine mx_S.pu (pc2 := 2) (lv2 := [(3, .int v10), (0, .ref l0), (1, .int l1), (2, .int l2)]) (st2 := []) hm dX2_methodIn_44 rfl ?_
        refine mx_S.ext [(0, .ref l0), (1, .int l1), (2, .int l2), (3, .int v10)] (mx_sub_pos [1, 2, 3, 0] rfl (show ([3, 0, 1, 2] : List Nat).Nodup by decide)) ?_
        exact ih l0 l1 l2 v10 u9.2 _ hf
      · refine sb_ic_ne hm dX2_methodIn_31 (tgt := 41) rfl (fun z => absurd z c13) (fun _ => ?_)
        refine mx_S.pu (pc2 := 35) (lv2 := [(0, .ref l0), (1, .int l1), (2, .int l2), (3, .int l3)]) (st2 := [.int l1]) hm dX2_methodIn_34 rfl ?_
        refine sx_bi (v := 12) hm dX2_methodIn_35 (by decide) ?_
        replace hf := xl_el hf; obtain ⟨v11, e_v11, hf⟩ := hf
        refine mx_S.pu (pc2 := 38) (lv2 := [(0, .ref l0), (1, .int l1), (2, .int l2), (3, .int l3)]) (st2 := [.int v11]) hm dX2_methodIn_37 (by rw [← e_v11]; rfl) ?_
        clear e_v11
        refine mx_S.pu (pc2 := 39) (lv2 := [(0, .ref l0), (1, .int l1), (2, .int l2), (3, .int l3)]) (st2 := [.int l3, .int v11]) hm dX2_methodIn_38 rfl ?_
        replace hf := xl_el hf; obtain ⟨v12, e_v12, hf⟩ := hf
        refine mx_S.pu (pc2 := 40) (lv2 := [(0, .ref l0), (1, .int l1), (2, .int l2), (3, .int l3)]) (st2 := [.int v12]) hm dX2_methodIn_39 (by rw [← e_v12]; rfl) ?_
        clear e_v12
        cases hf
        exact sx_ire hm dX2_methodIn_40 rfl rfl
set_option maxHeartbeats 4000000 in
set_option maxRecDepth 20000 in
theorem f_X2_methodIn_ok (X : Nat × (Nat → Int32)) {F L : Nat} (hF : 1 ≤ F) (hL : 21 ≤ L) (nn : Nat) (a0 : Nat) (a1 : Int32) (a2 : Int32) (h : mx_H) {r : (Int32 × mx_H)} (hf : f_X2_methodIn nn a0 a1 a2 h = some r) : mx_R X F L 72 [.ref a0, .int a1, .int a2] h (some (.int r.1), r.2, 0, 0) := by
  have hm : mx_mt 72 = some (yX2_methodIn, cX2_methodIn, 4, (some .int)) := mt_X2_methodIn
  show mx_S X F L 72 0 [(0, .ref a0), (1, .int a1), (2, .int a2)] [] h 0 0 (some (.int r.1), r.2, 0, 0)
  unfold f_X2_methodIn at hf
  refine sx_ic (v := 0) hm dX2_methodIn_0 (by decide) ?_
  refine mx_S.pu (pc2 := 2) (lv2 := [(3, .int 0), (0, .ref a0), (1, .int a1), (2, .int a2)]) (st2 := []) hm dX2_methodIn_1 rfl ?_
  refine mx_S.ext [(0, .ref a0), (1, .int a1), (2, .int a2), (3, .int 0)] (mx_sub_pos [1, 2, 3, 0] rfl (show ([3, 0, 1, 2] : List Nat).Nodup by decide)) ?_
  exact w_X2_methodIn_2_ok X hF hL nn nn a0 a1 a2 0 h _ hf
set_option maxHeartbeats 4000000 in
set_option maxRecDepth 20000 in
theorem w_X2_methodOf_8_ok (X : Nat × (Nat → Int32)) {F L : Nat} (hF : 2 ≤ F) (hL : 44 ≤ L) (nn : Nat) : ∀ (k : Nat) (l0 : Nat) (l2 : Int32) (l3 : Int32) (l4 : Int32) (l5 : Int32) (h : mx_H) (r : (Int32 × mx_H)), w_X2_methodOf_8 nn k l0 l2 l3 l4 l5 h = some r → mx_S X F L 75 8 [(0, .ref l0), (2, .int l2), (3, .int l3), (4, .int l4), (5, .int l5)] [] h 0 0 (some (.int r.1), r.2, 0, 0) := by
  have hm : mx_mt 75 = some (yX2_methodOf, cX2_methodOf, 6, (some .int)) := mt_X2_methodOf
  intro k
  induction k with
  | zero => intro l0 l2 l3 l4 l5 h r hf; cases hf
  | succ k ih =>
    intro l0 l2 l3 l4 l5 h r hf
    unfold w_X2_methodOf_8 at hf
    refine mx_S.pu (pc2 := 10) (lv2 := [(0, .ref l0), (2, .int l2), (3, .int l3), (4, .int l4), (5, .int l5)]) (st2 := [.int l5]) hm dX2_methodOf_8 rfl ?_
    refine sx_bi (v := 16) hm dX2_methodOf_10 (by decide) ?_
    rcases mx_if_el hf with ⟨c11, hf⟩ | ⟨c11, hf⟩
    · refine sb_ic_ge hm dX2_methodOf_12 (tgt := 56) rfl (fun _ => ?_) (fun z => absurd c11 z)
      refine mx_S.pu (pc2 := 57) (lv2 := [(0, .ref l0), (2, .int l2), (3, .int l3), (4, .int l4), (5, .int l5)]) (st2 := [.int l3]) hm dX2_methodOf_56 rfl ?_
      cases hf
      exact sx_ire hm dX2_methodOf_57 rfl rfl
    · refine sb_ic_ge hm dX2_methodOf_12 (tgt := 56) rfl (fun z => absurd z c11) (fun _ => ?_)
      refine mx_S.pu (pc2 := 17) (lv2 := [(0, .ref l0), (2, .int l2), (3, .int l3), (4, .int l4), (5, .int l5)]) (st2 := [.int l4]) hm dX2_methodOf_15 rfl ?_
      replace hf := mx_sv_el hf; obtain ⟨u1, e_u1, hf⟩ := hf
      refine sx_cs hm dX2_methodOf_17 rs_RX2_224 mt_X2_isOwn [.int l4] [] rfl rfl (Nat.le_of_ble_eq_true rfl) (Nat.le_of_ble_eq_true rfl) (by omega) (by omega) (f_X2_isOwn_ok X (by omega) (by omega) nn l4 h e_u1) ?_
      clear e_u1
      show mx_S X F L 75 20 [(0, .ref l0), (2, .int l2), (3, .int l3), (4, .int l4), (5, .int l5)] [.int u1.1] u1.2 0 0 (some (.int r.1), r.2, 0, 0)
      rcases mx_if_el hf with ⟨c10, hf⟩ | ⟨c10, hf⟩
      · refine sb_if_eq hm dX2_methodOf_20 (tgt := 56) rfl (fun _ => ?_) (fun z => absurd c10 z)
        refine mx_S.pu (pc2 := 57) (lv2 := [(0, .ref l0), (2, .int l2), (3, .int l3), (4, .int l4), (5, .int l5)]) (st2 := [.int l3]) hm dX2_methodOf_56 rfl ?_
        cases hf
        exact sx_ire hm dX2_methodOf_57 rfl rfl
      · refine sb_if_eq hm dX2_methodOf_20 (tgt := 56) rfl (fun z => absurd z c10) (fun _ => ?_)
        refine mx_S.pu (pc2 := 24) (lv2 := [(0, .ref l0), (2, .int l2), (3, .int l3), (4, .int l4), (5, .int l5)]) (st2 := [.int l3]) hm dX2_methodOf_23 rfl ?_
        refine sx_ic (v := (-1)) hm dX2_methodOf_24 (by decide) ?_
        rcases mx_if_el hf with ⟨c9, hf⟩ | ⟨c9, hf⟩
        · refine sb_ic_ne hm dX2_methodOf_25 (tgt := 56) rfl (fun _ => ?_) (fun z => absurd c9 z)
          refine mx_S.pu (pc2 := 57) (lv2 := [(0, .ref l0), (2, .int l2), (3, .int l3), (4, .int l4), (5, .int l5)]) (st2 := [.int l3]) hm dX2_methodOf_56 rfl ?_
          cases hf
          exact sx_ire hm dX2_methodOf_57 rfl rfl
        · refine sb_ic_ne hm dX2_methodOf_25 (tgt := 56) rfl (fun z => absurd z c9) (fun _ => ?_)
          refine mx_S.pu (pc2 := 29) (lv2 := [(0, .ref l0), (2, .int l2), (3, .int l3), (4, .int l4), (5, .int l5)]) (st2 := [.ref l0]) hm dX2_methodOf_28 rfl ?_
          refine mx_S.pu (pc2 := 31) (lv2 := [(0, .ref l0), (2, .int l2), (3, .int l3), (4, .int l4), (5, .int l5)]) (st2 := [.int l4, .ref l0]) hm dX2_methodOf_29 rfl ?_
          refine sx_bi (v := 8) hm dX2_methodOf_31 (by decide) ?_
          replace hf := xl_el hf; obtain ⟨v2, e_v2, hf⟩ := hf
          refine mx_S.pu (pc2 := 34) (lv2 := [(0, .ref l0), (2, .int l2), (3, .int l3), (4, .int l4), (5, .int l5)]) (st2 := [.int v2, .ref l0]) hm dX2_methodOf_33 (by rw [← e_v2]; rfl) ?_
          clear e_v2
          refine mx_S.pu (pc2 := 35) (lv2 := [(0, .ref l0), (2, .int l2), (3, .int l3), (4, .int l4), (5, .int l5)]) (st2 := [.int l2, .int v2, .ref l0]) hm dX2_methodOf_34 rfl ?_
          replace hf := mx_gd_el hf; obtain ⟨c3, hf⟩ := hf
          replace hf := mx_sv_el hf; obtain ⟨u4, e_u4, hf⟩ := hf
          refine sx_cv hm dX2_methodOf_35 rs_RX2_206 mt_X2_methodIn [.int v2, .int l2] [] (b := l0) (ci := 2) rfl rfl rfl c3 (Nat.le_of_ble_eq_true rfl) (Nat.le_of_ble_eq_true rfl) (by omega) (by omega) (f_X2_methodIn_ok X (by omega) (by omega) nn l0 v2 l2 u1.2 e_u4) ?_
          clear e_u4
          show mx_S X F L 75 38 [(0, .ref l0), (2, .int l2), (3, .int l3), (4, .int l4), (5, .int l5)] [.int u4.1] u4.2 0 0 (some (.int r.1), r.2, 0, 0)
          refine mx_S.pu (pc2 := 39) (lv2 := [(3, .int u4.1), (0, .ref l0), (2, .int l2), (4, .int l4), (5, .int l5)]) (st2 := []) hm dX2_methodOf_38 rfl ?_
          refine mx_S.pu (pc2 := 40) (lv2 := [(3, .int u4.1), (0, .ref l0), (2, .int l2), (4, .int l4), (5, .int l5)]) (st2 := [.ref l0]) hm dX2_methodOf_39 rfl ?_
          replace hf := mx_sv_el hf; obtain ⟨v5, e_v5, hf⟩ := hf
          refine sx_get hm dX2_methodOf_40 rs_RX2_14 (xgr_el e_v5) ?_
          clear e_v5
          refine mx_S.pu (pc2 := 45) (lv2 := [(3, .int u4.1), (0, .ref l0), (2, .int l2), (4, .int l4), (5, .int l5)]) (st2 := [.int l4, .ref v5]) hm dX2_methodOf_43 rfl ?_
          replace hf := mx_gd_el hf; obtain ⟨c6, hf⟩ := hf
          replace hf := mx_sv_el hf; obtain ⟨u7, e_u7, hf⟩ := hf
          refine sx_cv hm dX2_methodOf_45 rs_RX2_215 mt_X4_above [.int l4] [] (b := v5) (ci := 4) rfl rfl rfl c6 (Nat.le_of_ble_eq_true rfl) (Nat.le_of_ble_eq_true rfl) (by omega) (by omega) (f_X4_above_ok X (by omega) (by omega) nn v5 l4 u4.2 e_u7) ?_
          clear e_u7
          show mx_S X F L 75 48 [(3, .int u4.1), (0, .ref l0), (2, .int l2), (4, .int l4), (5, .int l5)] [.int u7.1] u7.2 0 0 (some (.int r.1), r.2, 0, 0)
          refine mx_S.pu (pc2 := 50) (lv2 := [(4, .int u7.1), (3, .int u4.1), (0, .ref l0), (2, .int l2), (5, .int l5)]) (st2 := []) hm dX2_methodOf_48 rfl ?_
          replace hf := xl_el hf; obtain ⟨v8, e_v8, hf⟩ := hf
          refine mx_S.pu (pc2 := 53) (lv2 := [(5, .int v8), (4, .int u7.1), (3, .int u4.1), (0, .ref l0), (2, .int l2)]) (st2 := []) hm dX2_methodOf_50 (by rw [← e_v8]; rfl) ?_
          clear e_v8
          refine mx_S.pu (pc2 := 8) (lv2 := [(5, .int v8), (4, .int u7.1), (3, .int u4.1), (0, .ref l0), (2, .int l2)]) (st2 := []) hm dX2_methodOf_53 rfl ?_
          refine mx_S.ext [(0, .ref l0), (2, .int l2), (3, .int u4.1), (4, .int u7.1), (5, .int v8)] (mx_sub_pos [3, 4, 2, 1, 0] rfl (show ([5, 4, 3, 0, 2] : List Nat).Nodup by decide)) ?_
          exact ih l0 l2 u4.1 u7.1 v8 u7.2 _ hf
set_option maxHeartbeats 4000000 in
set_option maxRecDepth 20000 in
theorem f_X2_methodOf_ok (X : Nat × (Nat → Int32)) {F L : Nat} (hF : 2 ≤ F) (hL : 44 ≤ L) (nn : Nat) (a0 : Nat) (a1 : Int32) (a2 : Int32) (h : mx_H) {r : (Int32 × mx_H)} (hf : f_X2_methodOf nn a0 a1 a2 h = some r) : mx_R X F L 75 [.ref a0, .int a1, .int a2] h (some (.int r.1), r.2, 0, 0) := by
  have hm : mx_mt 75 = some (yX2_methodOf, cX2_methodOf, 6, (some .int)) := mt_X2_methodOf
  show mx_S X F L 75 0 [(0, .ref a0), (1, .int a1), (2, .int a2)] [] h 0 0 (some (.int r.1), r.2, 0, 0)
  unfold f_X2_methodOf at hf
  refine sx_ic (v := (-1)) hm dX2_methodOf_0 (by decide) ?_
  refine mx_S.pu (pc2 := 2) (lv2 := [(3, .int (-1)), (0, .ref a0), (1, .int a1), (2, .int a2)]) (st2 := []) hm dX2_methodOf_1 rfl ?_
  refine mx_S.pu (pc2 := 3) (lv2 := [(3, .int (-1)), (0, .ref a0), (1, .int a1), (2, .int a2)]) (st2 := [.int a1]) hm dX2_methodOf_2 rfl ?_
  refine mx_S.pu (pc2 := 5) (lv2 := [(4, .int a1), (3, .int (-1)), (0, .ref a0), (1, .int a1), (2, .int a2)]) (st2 := []) hm dX2_methodOf_3 rfl ?_
  refine sx_ic (v := 0) hm dX2_methodOf_5 (by decide) ?_
  refine mx_S.pu (pc2 := 8) (lv2 := [(5, .int 0), (4, .int a1), (3, .int (-1)), (0, .ref a0), (1, .int a1), (2, .int a2)]) (st2 := []) hm dX2_methodOf_6 rfl ?_
  refine mx_S.ext [(0, .ref a0), (2, .int a2), (3, .int (-1)), (4, .int a1), (5, .int 0)] (mx_sub_pos [3, 5, 2, 1, 0] rfl (show ([5, 4, 3, 0, 1, 2] : List Nat).Nodup by decide)) ?_
  exact w_X2_methodOf_8_ok X hF hL nn nn a0 a2 (-1) a1 0 h _ hf
set_option maxHeartbeats 4000000 in
set_option maxRecDepth 20000 in
theorem f_X4_isArray_ok (X : Nat × (Nat → Int32)) {F L : Nat} (hF : 0 ≤ F) (hL : 0 ≤ L) (nn : Nat) (a0 : Int32) (h : mx_H) {r : (Int32 × mx_H)} (hf : f_X4_isArray nn a0 h = some r) : mx_R X F L 135 [.int a0] h (some (.int r.1), r.2, 0, 0) := by
  have hm : mx_mt 135 = some (yX4_isArray, cX4_isArray, 1, (some .boolean)) := mt_X4_isArray
  show mx_S X F L 135 0 [(0, .int a0)] [] h 0 0 (some (.int r.1), r.2, 0, 0)
  unfold f_X4_isArray at hf
  refine mx_S.pu (pc2 := 1) (lv2 := [(0, .int a0)]) (st2 := [.int a0]) hm dX4_isArray_0 rfl ?_
  refine sx_bi (v := 100) hm dX4_isArray_1 (by decide) ?_
  rcases mx_if_el hf with ⟨c2, hf⟩ | ⟨c2, hf⟩
  · refine sb_ic_lt hm dX4_isArray_3 (tgt := 17) rfl (fun _ => ?_) (fun z => absurd c2 z)
    refine sx_ic (v := 0) hm dX4_isArray_17 (by decide) ?_
    cases hf
    exact sx_ire hm dX4_isArray_18 rfl (by decide)
  · refine sb_ic_lt hm dX4_isArray_3 (tgt := 17) rfl (fun z => absurd z c2) (fun _ => ?_)
    refine mx_S.pu (pc2 := 7) (lv2 := [(0, .int a0)]) (st2 := [.int a0]) hm dX4_isArray_6 rfl ?_
    refine sx_si (v := 200) hm dX4_isArray_7 (by decide) ?_
    rcases mx_if_el hf with ⟨c1, hf⟩ | ⟨c1, hf⟩
    · refine sb_ic_gt hm dX4_isArray_10 (tgt := 17) rfl (fun _ => ?_) (fun z => absurd c1 z)
      refine sx_ic (v := 0) hm dX4_isArray_17 (by decide) ?_
      cases hf
      exact sx_ire hm dX4_isArray_18 rfl (by decide)
    · refine sb_ic_gt hm dX4_isArray_10 (tgt := 17) rfl (fun z => absurd z c1) (fun _ => ?_)
      refine sx_ic (v := 1) hm dX4_isArray_13 (by decide) ?_
      refine mx_S.pu (pc2 := 18) (lv2 := [(0, .int a0)]) (st2 := [.int 1]) hm dX4_isArray_14 rfl ?_
      cases hf
      exact sx_ire hm dX4_isArray_18 rfl (by decide)
set_option maxHeartbeats 4000000 in
set_option maxRecDepth 20000 in
theorem j_X10_giveThis_17_ok (X : Nat × (Nat → Int32)) {F L : Nat} (hF : 3 ≤ F) (hL : 102 ≤ L) (nn : Nat) (l0 : Nat) (h : mx_H) {r : mx_H} (hf : j_X10_giveThis_17 nn l0 h = some r) : mx_S X F L 296 17 [(0, .ref l0)] [] h 0 0 (none, r, 0, 0) := by
  have hm : mx_mt 296 = some (yX10_giveThis, cX10_giveThis, 2, none) := mt_X10_giveThis
  unfold j_X10_giveThis_17 at hf
  refine mx_S.pu (pc2 := 18) (lv2 := [(0, .ref l0)]) (st2 := [.ref l0]) hm dX10_giveThis_17 rfl ?_
  replace hf := mx_sv_el hf; obtain ⟨v1, e_v1, hf⟩ := hf
  refine sx_get hm dX10_giveThis_18 rs_RX10_46 (xgr_el e_v1) ?_
  clear e_v1
  refine sx_bi (v := 25) hm dX10_giveThis_21 (by decide) ?_
  refine sx_ic (v := 0) hm dX10_giveThis_23 (by decide) ?_
  replace hf := mx_gd_el hf; obtain ⟨c2, hf⟩ := hf
  replace hf := mx_sv_el hf; obtain ⟨u3, e_u3, hf⟩ := hf
  refine sx_cv hm dX10_giveThis_24 rs_RX10_179 mt_X1_op_ [.int 25, .int 0] [] (b := v1) (ci := 1) rfl rfl rfl c2 (Nat.le_of_ble_eq_true rfl) (Nat.le_of_ble_eq_true rfl) (by omega) (by omega) (f_X1_op__ok X (by omega) (by omega) nn v1 25 0 h e_u3) ?_
  clear e_u3
  show mx_S X F L 296 27 [(0, .ref l0)] [] u3 0 0 (none, r, 0, 0)
  refine mx_S.pu (pc2 := 28) (lv2 := [(0, .ref l0)]) (st2 := [.ref l0]) hm dX10_giveThis_27 rfl ?_
  refine mx_S.pu (pc2 := 29) (lv2 := [(0, .ref l0)]) (st2 := [.ref l0, .ref l0]) hm dX10_giveThis_28 rfl ?_
  replace hf := mx_sv_el hf; obtain ⟨v4, e_v4, hf⟩ := hf
  refine sx_get hm dX10_giveThis_29 rs_RX10_54 (xgi_el e_v4) ?_
  clear e_v4
  replace hf := mx_gd_el hf; obtain ⟨c5, hf⟩ := hf
  replace hf := mx_sv_el hf; obtain ⟨u6, e_u6, hf⟩ := hf
  refine sx_cv hm dX10_giveThis_32 rs_RX10_233 mt_X10_give [.int v4] [] (b := l0) (ci := 10) rfl rfl rfl c5 (Nat.le_of_ble_eq_true rfl) (Nat.le_of_ble_eq_true rfl) (by omega) (by omega) (f_X10_give_ok X (by omega) (by omega) nn l0 v4 u3 e_u6) ?_
  clear e_u6
  show mx_S X F L 296 35 [(0, .ref l0)] [] u6 0 0 (none, r, 0, 0)
  cases hf
  exact sx_ret hm dX10_giveThis_35 rfl
