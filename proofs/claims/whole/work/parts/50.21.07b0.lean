set_option maxHeartbeats 4000000 in
set_option maxRecDepth 20000 in
theorem j_X0_readVariable_69_ok (X : Nat × (Nat → Int32)) {F L : Nat} (hF : 427 ≤ F) (hL : 12798 ≤ L) (nn : Nat) (l0 : Nat) (l2 : Int32) (l3 : Int32) (h : mx_H) {r : (Int32 × mx_H)} (hf : j_X0_readVariable_69 nn l0 l2 l3 h = some r) : mx_S X F L 20 69 [(0, .ref l0), (2, .int l2), (3, .int l3)] [] h 0 0 (some (.int r.1), r.2, 0, 0) := by
  have hm : mx_mt 20 = some (yX0_readVariable, cX0_readVariable, 4, (some .boolean)) := mt_X0_readVariable
  unfold j_X0_readVariable_69 at hf
  refine mx_S.pu (pc2 := 70) (lv2 := [(0, .ref l0), (2, .int l2), (3, .int l3)]) (st2 := [.ref l0]) hm dX0_readVariable_69 rfl ?_
  replace hf := mx_sv_el hf; obtain ⟨v1, e_v1, hf⟩ := hf
  refine sx_get hm dX0_readVariable_70 rs_RX0_16 (xgr_el e_v1) ?_
  clear e_v1
  refine mx_S.pu (pc2 := 74) (lv2 := [(0, .ref l0), (2, .int l2), (3, .int l3)]) (st2 := [.ref l0, .ref v1]) hm dX0_readVariable_73 rfl ?_
  replace hf := mx_sv_el hf; obtain ⟨v2, e_v2, hf⟩ := hf
  refine sx_get hm dX0_readVariable_74 rs_RX0_16 (xgr_el e_v2) ?_
  clear e_v2
  refine mx_S.pu (pc2 := 78) (lv2 := [(0, .ref l0), (2, .int l2), (3, .int l3)]) (st2 := [.ref l0, .ref v2, .ref v1]) hm dX0_readVariable_77 rfl ?_
  replace hf := mx_sv_el hf; obtain ⟨v3, e_v3, hf⟩ := hf
  refine sx_get hm dX0_readVariable_78 rs_RX0_34 (xgr_el e_v3) ?_
  clear e_v3
  refine mx_S.pu (pc2 := 82) (lv2 := [(0, .ref l0), (2, .int l2), (3, .int l3)]) (st2 := [.int l3, .ref v3, .ref v2, .ref v1]) hm dX0_readVariable_81 rfl ?_
  replace hf := mx_gd_el hf; obtain ⟨c4, hf⟩ := hf
  replace hf := mx_sv_el hf; obtain ⟨u5, e_u5, hf⟩ := hf
  refine sx_cv hm dX0_readVariable_82 rs_RX0_233 mt_X9_valueAt [.int l3] [.ref v2, .ref v1] (b := v3) (ci := 9) rfl rfl rfl c4 (Nat.le_of_ble_eq_true rfl) (Nat.le_of_ble_eq_true rfl) (by omega) (by omega) (f_X9_valueAt_ok X (by omega) (by omega) nn v3 l3 h e_u5) ?_
  clear e_u5
  show mx_S X F L 20 85 [(0, .ref l0), (2, .int l2), (3, .int l3)] [.int u5.1, .ref v2, .ref v1] u5.2 0 0 (some (.int r.1), r.2, 0, 0)
  refine mx_S.pu (pc2 := 86) (lv2 := [(0, .ref l0), (2, .int l2), (3, .int l3)]) (st2 := [.int l2, .int u5.1, .ref v2, .ref v1]) hm dX0_readVariable_85 rfl ?_
  replace hf := mx_gd_el hf; obtain ⟨c6, hf⟩ := hf
  replace hf := mx_sv_el hf; obtain ⟨u7, e_u7, hf⟩ := hf
  refine sx_cv hm dX0_readVariable_86 rs_RX0_110 mt_X1_addLocal [.int u5.1, .int l2] [.ref v1] (b := v2) (ci := 1) rfl rfl rfl c6 (Nat.le_of_ble_eq_true rfl) (Nat.le_of_ble_eq_true rfl) (by omega) (by omega) (f_X1_addLocal_ok X (by omega) (by omega) nn v2 u5.1 l2 u5.2 e_u7) ?_
  clear e_u7
  show mx_S X F L 20 89 [(0, .ref l0), (2, .int l2), (3, .int l3)] [.int u7.1, .ref v1] u7.2 0 0 (some (.int r.1), r.2, 0, 0)
  refine mx_S.pu (pc2 := 90) (lv2 := [(0, .ref l0), (2, .int l2), (3, .int l3)]) (st2 := [.int l2, .int u7.1, .ref v1]) hm dX0_readVariable_89 rfl ?_
  replace hf := mx_gd_el hf; obtain ⟨c8, hf⟩ := hf
  replace hf := mx_sv_el hf; obtain ⟨u9, e_u9, hf⟩ := hf
  refine sx_cv hm dX0_readVariable_90 rs_RX0_236 mt_X1_store [.int u7.1, .int l2] [] (b := v1) (ci := 1) rfl rfl rfl c8 (Nat.le_of_ble_eq_true rfl) (Nat.le_of_ble_eq_true rfl) (by omega) (by omega) (f_X1_store_ok X (by omega) (by omega) nn v1 u7.1 l2 u7.2 e_u9) ?_
  clear e_u9
  show mx_S X F L 20 93 [(0, .ref l0), (2, .int l2), (3, .int l3)] [] u9 0 0 (some (.int r.1), r.2, 0, 0)
  refine mx_S.pu (pc2 := 94) (lv2 := [(0, .ref l0), (2, .int l2), (3, .int l3)]) (st2 := [.ref l0]) hm dX0_readVariable_93 rfl ?_
  replace hf := mx_sv_el hf; obtain ⟨v10, e_v10, hf⟩ := hf
  refine sx_get hm dX0_readVariable_94 rs_RX0_34 (xgr_el e_v10) ?_
  clear e_v10
  refine mx_S.pu (pc2 := 98) (lv2 := [(0, .ref l0), (2, .int l2), (3, .int l3)]) (st2 := [.ref v10, .ref v10]) hm dX0_readVariable_97 rfl ?_
  replace hf := mx_sv_el hf; obtain ⟨v11, e_v11, hf⟩ := hf
  refine sx_get hm dX0_readVariable_98 rs_RX0_138 (xgi_el e_v11) ?_
  clear e_v11
  refine sx_ic (v := 1) hm dX0_readVariable_101 (by decide) ?_
  replace hf := xl_el hf; obtain ⟨v12, e_v12, hf⟩ := hf
  refine mx_S.pu (pc2 := 103) (lv2 := [(0, .ref l0), (2, .int l2), (3, .int l3)]) (st2 := [.int v12, .ref v10]) hm dX0_readVariable_102 (by rw [← e_v12]; rfl) ?_
  clear e_v12
  replace hf := mx_sv_el hf; obtain ⟨h13, e_h13, hf⟩ := hf
  refine sx_put hm dX0_readVariable_103 rs_RX0_138 ft_9_10 ⟨rfl, rfl⟩ (fun z => by cases z) e_h13 ?_
  clear e_h13
  refine sx_ic (v := 1) hm dX0_readVariable_106 (by decide) ?_
  cases hf
  exact sx_ire hm dX0_readVariable_107 rfl (by decide)
set_option maxHeartbeats 4000000 in
set_option maxRecDepth 20000 in
theorem f_X0_readVariable_ok (X : Nat × (Nat → Int32)) {F L : Nat} (hF : 427 ≤ F) (hL : 12798 ≤ L) (nn : Nat) (a0 : Nat) (a1 : Int32) (h : mx_H) {r : (Int32 × mx_H)} (hf : f_X0_readVariable nn a0 a1 h = some r) : mx_R X F L 20 [.ref a0, .int a1] h (some (.int r.1), r.2, 0, 0) := by
  have hm : mx_mt 20 = some (yX0_readVariable, cX0_readVariable, 4, (some .boolean)) := mt_X0_readVariable
  show mx_S X F L 20 0 [(0, .ref a0), (1, .int a1)] [] h 0 0 (some (.int r.1), r.2, 0, 0)
  unfold f_X0_readVariable at hf
  refine mx_S.pu (pc2 := 1) (lv2 := [(0, .ref a0), (1, .int a1)]) (st2 := [.ref a0]) hm dX0_readVariable_0 rfl ?_
  replace hf := mx_sv_el hf; obtain ⟨v14, e_v14, hf⟩ := hf
  refine sx_get hm dX0_readVariable_1 rs_RX0_38 (xgr_el e_v14) ?_
  clear e_v14
  replace hf := mx_gd_el hf; obtain ⟨c15, hf⟩ := hf
  replace hf := mx_sv_el hf; obtain ⟨u16, e_u16, hf⟩ := hf
  refine sx_cv hm dX0_readVariable_4 rs_RX0_254 mt_X2_readType [] [] (b := v14) (ci := 2) rfl rfl rfl c15 (Nat.le_of_ble_eq_true rfl) (Nat.le_of_ble_eq_true rfl) (by omega) (by omega) (f_X2_readType_ok X (by omega) (by omega) nn v14 h e_u16) ?_
  clear e_u16
  show mx_S X F L 20 7 [(0, .ref a0), (1, .int a1)] [.int u16.1] u16.2 0 0 (some (.int r.1), r.2, 0, 0)
  refine mx_S.pu (pc2 := 8) (lv2 := [(2, .int u16.1), (0, .ref a0), (1, .int a1)]) (st2 := []) hm dX0_readVariable_7 rfl ?_
  refine mx_S.pu (pc2 := 9) (lv2 := [(2, .int u16.1), (0, .ref a0), (1, .int a1)]) (st2 := [.ref a0]) hm dX0_readVariable_8 rfl ?_
  replace hf := mx_sv_el hf; obtain ⟨v17, e_v17, hf⟩ := hf
  refine sx_get hm dX0_readVariable_9 rs_RX0_34 (xgr_el e_v17) ?_
  clear e_v17
  replace hf := mx_sv_el hf; obtain ⟨v18, e_v18, hf⟩ := hf
  refine sx_get hm dX0_readVariable_12 rs_RX0_138 (xgi_el e_v18) ?_
  clear e_v18
  refine mx_S.pu (pc2 := 16) (lv2 := [(3, .int v18), (2, .int u16.1), (0, .ref a0), (1, .int a1)]) (st2 := []) hm dX0_readVariable_15 rfl ?_
  refine mx_S.pu (pc2 := 17) (lv2 := [(3, .int v18), (2, .int u16.1), (0, .ref a0), (1, .int a1)]) (st2 := [.ref a0]) hm dX0_readVariable_16 rfl ?_
  refine mx_S.pu (pc2 := 18) (lv2 := [(3, .int v18), (2, .int u16.1), (0, .ref a0), (1, .int a1)]) (st2 := [.int v18, .ref a0]) hm dX0_readVariable_17 rfl ?_
  replace hf := mx_gd_el hf; obtain ⟨c19, hf⟩ := hf
  replace hf := mx_sv_el hf; obtain ⟨u20, e_u20, hf⟩ := hf
  refine sx_cv hm dX0_readVariable_18 rs_RX0_226 mt_X0_checkTwice [.int v18] [] (b := a0) (ci := 0) rfl rfl rfl c19 (Nat.le_of_ble_eq_true rfl) (Nat.le_of_ble_eq_true rfl) (by omega) (by omega) (f_X0_checkTwice_ok X (by omega) (by omega) nn a0 v18 u16.2 e_u20) ?_
  clear e_u20
  show mx_S X F L 20 21 [(3, .int v18), (2, .int u16.1), (0, .ref a0), (1, .int a1)] [] u20 0 0 (some (.int r.1), r.2, 0, 0)
  refine mx_S.pu (pc2 := 22) (lv2 := [(3, .int v18), (2, .int u16.1), (0, .ref a0), (1, .int a1)]) (st2 := [.ref a0]) hm dX0_readVariable_21 rfl ?_
  replace hf := mx_sv_el hf; obtain ⟨v21, e_v21, hf⟩ := hf
  refine sx_get hm dX0_readVariable_22 rs_RX0_34 (xgr_el e_v21) ?_
  clear e_v21
  refine mx_S.pu (pc2 := 26) (lv2 := [(3, .int v18), (2, .int u16.1), (0, .ref a0), (1, .int a1)]) (st2 := [.int v18, .ref v21]) hm dX0_readVariable_25 rfl ?_
  refine sx_ic (v := 2) hm dX0_readVariable_26 (by decide) ?_
  replace hf := xl_el hf; obtain ⟨v22, e_v22, hf⟩ := hf
  refine mx_S.pu (pc2 := 28) (lv2 := [(3, .int v18), (2, .int u16.1), (0, .ref a0), (1, .int a1)]) (st2 := [.int v22, .ref v21]) hm dX0_readVariable_27 (by rw [← e_v22]; rfl) ?_
  clear e_v22
  replace hf := mx_sv_el hf; obtain ⟨h23, e_h23, hf⟩ := hf
  refine sx_put hm dX0_readVariable_28 rs_RX0_138 ft_9_10 ⟨rfl, rfl⟩ (fun z => by cases z) e_h23 ?_
  clear e_h23
  refine mx_S.pu (pc2 := 32) (lv2 := [(3, .int v18), (2, .int u16.1), (0, .ref a0), (1, .int a1)]) (st2 := [.ref a0]) hm dX0_readVariable_31 rfl ?_
  replace hf := mx_sv_el hf; obtain ⟨v24, e_v24, hf⟩ := hf
  refine sx_get hm dX0_readVariable_32 rs_RX0_61 (xgr_el e_v24) ?_
  clear e_v24
  refine mx_S.pu (pc2 := 36) (lv2 := [(3, .int v18), (2, .int u16.1), (0, .ref a0), (1, .int a1)]) (st2 := [.int a1, .ref v24]) hm dX0_readVariable_35 rfl ?_
  replace hf := mx_gd_el hf; obtain ⟨c25, hf⟩ := hf
  replace hf := mx_sv_el hf; obtain ⟨u26, e_u26, hf⟩ := hf
  refine sx_cv hm dX0_readVariable_36 rs_RX0_242 mt_X10_readWhole [.int a1] [] (b := v24) (ci := 10) rfl rfl rfl c25 (Nat.le_of_ble_eq_true rfl) (Nat.le_of_ble_eq_true rfl) (by omega) (by omega) (f_X10_readWhole_ok X (by omega) (by omega) nn v24 a1 h23 e_u26) ?_
  clear e_u26
  show mx_S X F L 20 39 [(3, .int v18), (2, .int u16.1), (0, .ref a0), (1, .int a1)] [] u26 0 0 (some (.int r.1), r.2, 0, 0)
  refine mx_S.pu (pc2 := 40) (lv2 := [(3, .int v18), (2, .int u16.1), (0, .ref a0), (1, .int a1)]) (st2 := [.ref a0]) hm dX0_readVariable_39 rfl ?_
  replace hf := mx_sv_el hf; obtain ⟨v27, e_v27, hf⟩ := hf
  refine sx_get hm dX0_readVariable_40 rs_RX0_46 (xgr_el e_v27) ?_
  clear e_v27
  refine mx_S.pu (pc2 := 44) (lv2 := [(3, .int v18), (2, .int u16.1), (0, .ref a0), (1, .int a1)]) (st2 := [.ref a0, .ref v27]) hm dX0_readVariable_43 rfl ?_
  replace hf := mx_sv_el hf; obtain ⟨v28, e_v28, hf⟩ := hf
  refine sx_get hm dX0_readVariable_44 rs_RX0_61 (xgr_el e_v28) ?_
  clear e_v28
  replace hf := mx_sv_el hf; obtain ⟨v29, e_v29, hf⟩ := hf
  refine sx_get hm dX0_readVariable_47 rs_RX0_245 (xgi_el e_v29) ?_
  clear e_v29
  refine mx_S.pu (pc2 := 51) (lv2 := [(3, .int v18), (2, .int u16.1), (0, .ref a0), (1, .int a1)]) (st2 := [.int u16.1, .int v29, .ref v27]) hm dX0_readVariable_50 rfl ?_
  replace hf := mx_gd_el hf; obtain ⟨c30, hf⟩ := hf
  replace hf := mx_sv_el hf; obtain ⟨u31, e_u31, hf⟩ := hf
  refine sx_cv hm dX0_readVariable_51 rs_RX0_222 mt_X4_fits [.int v29, .int u16.1] [] (b := v27) (ci := 4) rfl rfl rfl c30 (Nat.le_of_ble_eq_true rfl) (Nat.le_of_ble_eq_true rfl) (by omega) (by omega) (f_X4_fits_ok X (by omega) (by omega) nn v27 v29 u16.1 u26 e_u31) ?_
  clear e_u31
  show mx_S X F L 20 54 [(3, .int v18), (2, .int u16.1), (0, .ref a0), (1, .int a1)] [.int u31.1] u31.2 0 0 (some (.int r.1), r.2, 0, 0)
  rcases mx_if_el hf with ⟨c36, hf⟩ | ⟨c36, hf⟩
  · refine sb_if_ne hm dX0_readVariable_54 (tgt := 69) rfl (fun _ => ?_) (fun z => absurd c36 z)
    refine mx_S.ext [(0, .ref a0), (2, .int u16.1), (3, .int v18)] (mx_sub_pos [2, 1, 0] rfl (show ([3, 2, 0, 1] : List Nat).Nodup by decide)) ?_
    exact j_X0_readVariable_69_ok X hF hL nn a0 u16.1 v18 u31.2 hf
  · refine sb_if_ne hm dX0_readVariable_54 (tgt := 69) rfl (fun z => absurd z c36) (fun _ => ?_)
    refine mx_S.pu (pc2 := 58) (lv2 := [(3, .int v18), (2, .int u16.1), (0, .ref a0), (1, .int a1)]) (st2 := [.ref a0]) hm dX0_readVariable_57 rfl ?_
    replace hf := mx_sv_el hf; obtain ⟨v32, e_v32, hf⟩ := hf
    refine sx_get hm dX0_readVariable_58 rs_RX0_34 (xgr_el e_v32) ?_
    clear e_v32
    refine sx_bi (v := 6) hm dX0_readVariable_61 (by decide) ?_
    refine mx_S.pu (pc2 := 64) (lv2 := [(3, .int v18), (2, .int u16.1), (0, .ref a0), (1, .int a1)]) (st2 := [.int v18, .int 6, .ref v32]) hm dX0_readVariable_63 rfl ?_
    refine sx_ic (v := 1) hm dX0_readVariable_64 (by decide) ?_
    replace hf := xl_el hf; obtain ⟨v33, e_v33, hf⟩ := hf
    refine mx_S.pu (pc2 := 66) (lv2 := [(3, .int v18), (2, .int u16.1), (0, .ref a0), (1, .int a1)]) (st2 := [.int v33, .int 6, .ref v32]) hm dX0_readVariable_65 (by rw [← e_v33]; rfl) ?_
    clear e_v33
    replace hf := mx_gd_el hf; obtain ⟨c34, hf⟩ := hf
    replace hf := mx_sv_el hf; obtain ⟨u35, e_u35, hf⟩ := hf
    refine sx_cv hm dX0_readVariable_66 rs_RX0_69 mt_X9_tell [.int 6, .int v33] [] (b := v32) (ci := 9) rfl rfl rfl c34 (Nat.le_of_ble_eq_true rfl) (Nat.le_of_ble_eq_true rfl) (by omega) (by omega) (f_X9_tell_ok X (by omega) (by omega) nn v32 6 v33 u31.2 e_u35) ?_
    clear e_u35
    show mx_S X F L 20 69 [(3, .int v18), (2, .int u16.1), (0, .ref a0), (1, .int a1)] [] u35 0 0 (some (.int r.1), r.2, 0, 0)
    refine mx_S.ext [(0, .ref a0), (2, .int u16.1), (3, .int v18)] (mx_sub_pos [2, 1, 0] rfl (show ([3, 2, 0, 1] : List Nat).Nodup by decide)) ?_
    exact j_X0_readVariable_69_ok X hF hL nn a0 u16.1 v18 u35 hf
set_option maxHeartbeats 4000000 in
set_option maxRecDepth 20000 in
theorem f_X9_isWhileTrue_ok (X : Nat × (Nat → Int32)) {F L : Nat} (hF : 1 ≤ F) (hL : 21 ≤ L) (nn : Nat) (a0 : Nat) (h : mx_H) {r : (Int32 × mx_H)} (hf : f_X9_isWhileTrue nn a0 h = some r) : mx_R X F L 270 [.ref a0] h (some (.int r.1), r.2, 0, 0) := by
  have hm : mx_mt 270 = some (yX9_isWhileTrue, cX9_isWhileTrue, 1, (some .boolean)) := mt_X9_isWhileTrue
  show mx_S X F L 270 0 [(0, .ref a0)] [] h 0 0 (some (.int r.1), r.2, 0, 0)
  unfold f_X9_isWhileTrue at hf
  refine mx_S.pu (pc2 := 1) (lv2 := [(0, .ref a0)]) (st2 := [.ref a0]) hm dX9_isWhileTrue_0 rfl ?_
  refine mx_S.pu (pc2 := 2) (lv2 := [(0, .ref a0)]) (st2 := [.ref a0, .ref a0]) hm dX9_isWhileTrue_1 rfl ?_
  replace hf := mx_sv_el hf; obtain ⟨v1, e_v1, hf⟩ := hf
  refine sx_get hm dX9_isWhileTrue_2 rs_RX9_86 (xgi_el e_v1) ?_
  clear e_v1
  refine sx_ic (v := 1) hm dX9_isWhileTrue_5 (by decide) ?_
  replace hf := xl_el hf; obtain ⟨v2, e_v2, hf⟩ := hf
  refine mx_S.pu (pc2 := 7) (lv2 := [(0, .ref a0)]) (st2 := [.int v2, .ref a0]) hm dX9_isWhileTrue_6 (by rw [← e_v2]; rfl) ?_
  clear e_v2
  replace hf := mx_gd_el hf; obtain ⟨c3, hf⟩ := hf
  replace hf := mx_sv_el hf; obtain ⟨u4, e_u4, hf⟩ := hf
  refine sx_cv hm dX9_isWhileTrue_7 rs_RX9_153 mt_X9_kindAt [.int v2] [] (b := a0) (ci := 9) rfl rfl rfl c3 (Nat.le_of_ble_eq_true rfl) (Nat.le_of_ble_eq_true rfl) (by omega) (by omega) (f_X9_kindAt_ok X (by omega) (by omega) nn a0 v2 h e_u4) ?_
  clear e_u4
  show mx_S X F L 270 10 [(0, .ref a0)] [.int u4.1] u4.2 0 0 (some (.int r.1), r.2, 0, 0)
  refine sx_bi (v := 40) hm dX9_isWhileTrue_10 (by decide) ?_
  rcases mx_if_el hf with ⟨c15, hf⟩ | ⟨c15, hf⟩
  · refine sb_ic_ne hm dX9_isWhileTrue_12 (tgt := 49) rfl (fun _ => ?_) (fun z => absurd c15 z)
    refine sx_ic (v := 0) hm dX9_isWhileTrue_49 (by decide) ?_
    cases hf
    exact sx_ire hm dX9_isWhileTrue_50 rfl (by decide)
  · refine sb_ic_ne hm dX9_isWhileTrue_12 (tgt := 49) rfl (fun z => absurd z c15) (fun _ => ?_)
    refine mx_S.pu (pc2 := 16) (lv2 := [(0, .ref a0)]) (st2 := [.ref a0]) hm dX9_isWhileTrue_15 rfl ?_
    refine mx_S.pu (pc2 := 17) (lv2 := [(0, .ref a0)]) (st2 := [.ref a0, .ref a0]) hm dX9_isWhileTrue_16 rfl ?_
    replace hf := mx_sv_el hf; obtain ⟨v5, e_v5, hf⟩ := hf
    refine sx_get hm dX9_isWhileTrue_17 rs_RX9_86 (xgi_el e_v5) ?_
    clear e_v5
    refine sx_ic (v := 2) hm dX9_isWhileTrue_20 (by decide) ?_
    replace hf := xl_el hf; obtain ⟨v6, e_v6, hf⟩ := hf
    refine mx_S.pu (pc2 := 22) (lv2 := [(0, .ref a0)]) (st2 := [.int v6, .ref a0]) hm dX9_isWhileTrue_21 (by rw [← e_v6]; rfl) ?_
    clear e_v6
    replace hf := mx_gd_el hf; obtain ⟨c7, hf⟩ := hf
    replace hf := mx_sv_el hf; obtain ⟨u8, e_u8, hf⟩ := hf
    refine sx_cv hm dX9_isWhileTrue_22 rs_RX9_153 mt_X9_kindAt [.int v6] [] (b := a0) (ci := 9) rfl rfl rfl c7 (Nat.le_of_ble_eq_true rfl) (Nat.le_of_ble_eq_true rfl) (by omega) (by omega) (f_X9_kindAt_ok X (by omega) (by omega) nn a0 v6 u4.2 e_u8) ?_
    clear e_u8
    show mx_S X F L 270 25 [(0, .ref a0)] [.int u8.1] u8.2 0 0 (some (.int r.1), r.2, 0, 0)
    refine sx_bi (v := 28) hm dX9_isWhileTrue_25 (by decide) ?_
    rcases mx_if_el hf with ⟨c14, hf⟩ | ⟨c14, hf⟩
    · refine sb_ic_ne hm dX9_isWhileTrue_27 (tgt := 49) rfl (fun _ => ?_) (fun z => absurd c14 z)
      refine sx_ic (v := 0) hm dX9_isWhileTrue_49 (by decide) ?_
      cases hf
      exact sx_ire hm dX9_isWhileTrue_50 rfl (by decide)
    · refine sb_ic_ne hm dX9_isWhileTrue_27 (tgt := 49) rfl (fun z => absurd z c14) (fun _ => ?_)
      refine mx_S.pu (pc2 := 31) (lv2 := [(0, .ref a0)]) (st2 := [.ref a0]) hm dX9_isWhileTrue_30 rfl ?_
      refine mx_S.pu (pc2 := 32) (lv2 := [(0, .ref a0)]) (st2 := [.ref a0, .ref a0]) hm dX9_isWhileTrue_31 rfl ?_
      replace hf := mx_sv_el hf; obtain ⟨v9, e_v9, hf⟩ := hf
      refine sx_get hm dX9_isWhileTrue_32 rs_RX9_86 (xgi_el e_v9) ?_
      clear e_v9
      refine sx_ic (v := 3) hm dX9_isWhileTrue_35 (by decide) ?_
      replace hf := xl_el hf; obtain ⟨v10, e_v10, hf⟩ := hf
      refine mx_S.pu (pc2 := 37) (lv2 := [(0, .ref a0)]) (st2 := [.int v10, .ref a0]) hm dX9_isWhileTrue_36 (by rw [← e_v10]; rfl) ?_
      clear e_v10
      replace hf := mx_gd_el hf; obtain ⟨c11, hf⟩ := hf
      replace hf := mx_sv_el hf; obtain ⟨u12, e_u12, hf⟩ := hf
      refine sx_cv hm dX9_isWhileTrue_37 rs_RX9_153 mt_X9_kindAt [.int v10] [] (b := a0) (ci := 9) rfl rfl rfl c11 (Nat.le_of_ble_eq_true rfl) (Nat.le_of_ble_eq_true rfl) (by omega) (by omega) (f_X9_kindAt_ok X (by omega) (by omega) nn a0 v10 u8.2 e_u12) ?_
      clear e_u12
      show mx_S X F L 270 40 [(0, .ref a0)] [.int u12.1] u12.2 0 0 (some (.int r.1), r.2, 0, 0)
      refine sx_bi (v := 41) hm dX9_isWhileTrue_40 (by decide) ?_
      rcases mx_if_el hf with ⟨c13, hf⟩ | ⟨c13, hf⟩
      · refine sb_ic_ne hm dX9_isWhileTrue_42 (tgt := 49) rfl (fun _ => ?_) (fun z => absurd c13 z)
        refine sx_ic (v := 0) hm dX9_isWhileTrue_49 (by decide) ?_
        cases hf
        exact sx_ire hm dX9_isWhileTrue_50 rfl (by decide)
      · refine sb_ic_ne hm dX9_isWhileTrue_42 (tgt := 49) rfl (fun z => absurd z c13) (fun _ => ?_)
        refine sx_ic (v := 1) hm dX9_isWhileTrue_45 (by decide) ?_
        refine mx_S.pu (pc2 := 50) (lv2 := [(0, .ref a0)]) (st2 := [.int 1]) hm dX9_isWhileTrue_46 rfl ?_
        cases hf
        exact sx_ire hm dX9_isWhileTrue_50 rfl (by decide)
set_option maxHeartbeats 4000000 in
set_option maxRecDepth 20000 in
theorem f_X9_beginsVariable_ok (X : Nat × (Nat → Int32)) {F L : Nat} (hF : 1 ≤ F) (hL : 21 ≤ L) (nn : Nat) (a0 : Nat) (h : mx_H) {r : (Int32 × mx_H)} (hf : f_X9_beginsVariable nn a0 h = some r) : mx_R X F L 268 [.ref a0] h (some (.int r.1), r.2, 0, 0) := by
  have hm : mx_mt 268 = some (yX9_beginsVariable, cX9_beginsVariable, 3, (some .boolean)) := mt_X9_beginsVariable
  show mx_S X F L 268 0 [(0, .ref a0)] [] h 0 0 (some (.int r.1), r.2, 0, 0)
  unfold f_X9_beginsVariable at hf
  refine mx_S.pu (pc2 := 1) (lv2 := [(0, .ref a0)]) (st2 := [.ref a0]) hm dX9_beginsVariable_0 rfl ?_
  replace hf := mx_gd_el hf; obtain ⟨c1, hf⟩ := hf
  replace hf := mx_sv_el hf; obtain ⟨u2, e_u2, hf⟩ := hf
  refine sx_cv hm dX9_beginsVariable_1 rs_RX9_150 mt_X9_kind [] [] (b := a0) (ci := 9) rfl rfl rfl c1 (Nat.le_of_ble_eq_true rfl) (Nat.le_of_ble_eq_true rfl) (by omega) (by omega) (f_X9_kind_ok X (by omega) (by omega) nn a0 h e_u2) ?_
  clear e_u2
  show mx_S X F L 268 4 [(0, .ref a0)] [.int u2.1] u2.2 0 0 (some (.int r.1), r.2, 0, 0)
  refine mx_S.pu (pc2 := 5) (lv2 := [(1, .int u2.1), (0, .ref a0)]) (st2 := []) hm dX9_beginsVariable_4 rfl ?_
  refine mx_S.pu (pc2 := 6) (lv2 := [(1, .int u2.1), (0, .ref a0)]) (st2 := [.int u2.1]) hm dX9_beginsVariable_5 rfl ?_
  refine sx_ic (v := 2) hm dX9_beginsVariable_6 (by decide) ?_
  rcases mx_if_el hf with ⟨c16, hf⟩ | ⟨c16, hf⟩
  · refine sb_ic_eq hm dX9_beginsVariable_7 (tgt := 28) rfl (fun _ => ?_) (fun z => absurd c16 z)
    refine mx_S.pu (pc2 := 29) (lv2 := [(1, .int u2.1), (0, .ref a0)]) (st2 := [.ref a0]) hm dX9_beginsVariable_28 rfl ?_
    refine mx_S.pu (pc2 := 30) (lv2 := [(1, .int u2.1), (0, .ref a0)]) (st2 := [.ref a0, .ref a0]) hm dX9_beginsVariable_29 rfl ?_
    replace hf := mx_sv_el hf; obtain ⟨v3, e_v3, hf⟩ := hf
    refine sx_get hm dX9_beginsVariable_30 rs_RX9_86 (xgi_el e_v3) ?_
    clear e_v3
    refine sx_ic (v := 1) hm dX9_beginsVariable_33 (by decide) ?_
    replace hf := xl_el hf; obtain ⟨v4, e_v4, hf⟩ := hf
    refine mx_S.pu (pc2 := 35) (lv2 := [(1, .int u2.1), (0, .ref a0)]) (st2 := [.int v4, .ref a0]) hm dX9_beginsVariable_34 (by rw [← e_v4]; rfl) ?_
    clear e_v4
    replace hf := mx_gd_el hf; obtain ⟨c5, hf⟩ := hf
    replace hf := mx_sv_el hf; obtain ⟨u6, e_u6, hf⟩ := hf
    refine sx_cv hm dX9_beginsVariable_35 rs_RX9_153 mt_X9_kindAt [.int v4] [] (b := a0) (ci := 9) rfl rfl rfl c5 (Nat.le_of_ble_eq_true rfl) (Nat.le_of_ble_eq_true rfl) (by omega) (by omega) (f_X9_kindAt_ok X (by omega) (by omega) nn a0 v4 u2.2 e_u6) ?_
    clear e_u6
    show mx_S X F L 268 38 [(1, .int u2.1), (0, .ref a0)] [.int u6.1] u6.2 0 0 (some (.int r.1), r.2, 0, 0)
    refine mx_S.pu (pc2 := 39) (lv2 := [(2, .int u6.1), (1, .int u2.1), (0, .ref a0)]) (st2 := []) hm dX9_beginsVariable_38 rfl ?_
    refine mx_S.pu (pc2 := 40) (lv2 := [(2, .int u6.1), (1, .int u2.1), (0, .ref a0)]) (st2 := [.int u6.1]) hm dX9_beginsVariable_39 rfl ?_
    refine sx_ic (v := 2) hm dX9_beginsVariable_40 (by decide) ?_
    rcases mx_if_el hf with ⟨c13, hf⟩ | ⟨c13, hf⟩
    · refine sb_ic_eq hm dX9_beginsVariable_41 (tgt := 65) rfl (fun _ => ?_) (fun z => absurd c13 z)
      refine sx_ic (v := 1) hm dX9_beginsVariable_65 (by decide) ?_
      refine mx_S.pu (pc2 := 70) (lv2 := [(2, .int u6.1), (1, .int u2.1), (0, .ref a0)]) (st2 := [.int 1]) hm dX9_beginsVariable_66 rfl ?_
      cases hf
      exact sx_ire hm dX9_beginsVariable_70 rfl (by decide)
    · refine sb_ic_eq hm dX9_beginsVariable_41 (tgt := 65) rfl (fun z => absurd z c13) (fun _ => ?_)
      refine mx_S.pu (pc2 := 45) (lv2 := [(2, .int u6.1), (1, .int u2.1), (0, .ref a0)]) (st2 := [.int u6.1]) hm dX9_beginsVariable_44 rfl ?_
      refine sx_bi (v := 44) hm dX9_beginsVariable_45 (by decide) ?_
      rcases mx_if_el hf with ⟨c12, hf⟩ | ⟨c12, hf⟩
      · refine sb_ic_ne hm dX9_beginsVariable_47 (tgt := 69) rfl (fun _ => ?_) (fun z => absurd c12 z)
        refine sx_ic (v := 0) hm dX9_beginsVariable_69 (by decide) ?_
        cases hf
        exact sx_ire hm dX9_beginsVariable_70 rfl (by decide)
      · refine sb_ic_ne hm dX9_beginsVariable_47 (tgt := 69) rfl (fun z => absurd z c12) (fun _ => ?_)
        refine mx_S.pu (pc2 := 51) (lv2 := [(2, .int u6.1), (1, .int u2.1), (0, .ref a0)]) (st2 := [.ref a0]) hm dX9_beginsVariable_50 rfl ?_
        refine mx_S.pu (pc2 := 52) (lv2 := [(2, .int u6.1), (1, .int u2.1), (0, .ref a0)]) (st2 := [.ref a0, .ref a0]) hm dX9_beginsVariable_51 rfl ?_
        replace hf := mx_sv_el hf; obtain ⟨v7, e_v7, hf⟩ := hf
        refine sx_get hm dX9_beginsVariable_52 rs_RX9_86 (xgi_el e_v7) ?_
        clear e_v7
        refine sx_ic (v := 2) hm dX9_beginsVariable_55 (by decide) ?_
        replace hf := xl_el hf; obtain ⟨v8, e_v8, hf⟩ := hf
        refine mx_S.pu (pc2 := 57) (lv2 := [(2, .int u6.1), (1, .int u2.1), (0, .ref a0)]) (st2 := [.int v8, .ref a0]) hm dX9_beginsVariable_56 (by rw [← e_v8]; rfl) ?_
        clear e_v8
        replace hf := mx_gd_el hf; obtain ⟨c9, hf⟩ := hf
        replace hf := mx_sv_el hf; obtain ⟨u10, e_u10, hf⟩ := hf
        refine sx_cv hm dX9_beginsVariable_57 rs_RX9_153 mt_X9_kindAt [.int v8] [] (b := a0) (ci := 9) rfl rfl rfl c9 (Nat.le_of_ble_eq_true rfl) (Nat.le_of_ble_eq_true rfl) (by omega) (by omega) (f_X9_kindAt_ok X (by omega) (by omega) nn a0 v8 u6.2 e_u10) ?_
        clear e_u10
        show mx_S X F L 268 60 [(2, .int u6.1), (1, .int u2.1), (0, .ref a0)] [.int u10.1] u10.2 0 0 (some (.int r.1), r.2, 0, 0)
        refine sx_bi (v := 45) hm dX9_beginsVariable_60 (by decide) ?_
        rcases mx_if_el hf with ⟨c11, hf⟩ | ⟨c11, hf⟩
        · refine sb_ic_ne hm dX9_beginsVariable_62 (tgt := 69) rfl (fun _ => ?_) (fun z => absurd c11 z)
          refine sx_ic (v := 0) hm dX9_beginsVariable_69 (by decide) ?_
          cases hf
          exact sx_ire hm dX9_beginsVariable_70 rfl (by decide)
        · refine sb_ic_ne hm dX9_beginsVariable_62 (tgt := 69) rfl (fun z => absurd z c11) (fun _ => ?_)
          refine sx_ic (v := 1) hm dX9_beginsVariable_65 (by decide) ?_
          refine mx_S.pu (pc2 := 70) (lv2 := [(2, .int u6.1), (1, .int u2.1), (0, .ref a0)]) (st2 := [.int 1]) hm dX9_beginsVariable_66 rfl ?_
          cases hf
          exact sx_ire hm dX9_beginsVariable_70 rfl (by decide)
  · refine sb_ic_eq hm dX9_beginsVariable_7 (tgt := 28) rfl (fun z => absurd z c16) (fun _ => ?_)
    refine mx_S.pu (pc2 := 11) (lv2 := [(1, .int u2.1), (0, .ref a0)]) (st2 := [.int u2.1]) hm dX9_beginsVariable_10 rfl ?_
    refine sx_bi (v := 20) hm dX9_beginsVariable_11 (by decide) ?_
    rcases mx_if_el hf with ⟨c15, hf⟩ | ⟨c15, hf⟩
    · refine sb_ic_eq hm dX9_beginsVariable_13 (tgt := 22) rfl (fun _ => ?_) (fun z => absurd c15 z)
      refine sx_ic (v := 1) hm dX9_beginsVariable_22 (by decide) ?_
      refine mx_S.pu (pc2 := 27) (lv2 := [(1, .int u2.1), (0, .ref a0)]) (st2 := [.int 1]) hm dX9_beginsVariable_23 rfl ?_
      cases hf
      exact sx_ire hm dX9_beginsVariable_27 rfl (by decide)
    · refine sb_ic_eq hm dX9_beginsVariable_13 (tgt := 22) rfl (fun z => absurd z c15) (fun _ => ?_)
      refine mx_S.pu (pc2 := 17) (lv2 := [(1, .int u2.1), (0, .ref a0)]) (st2 := [.int u2.1]) hm dX9_beginsVariable_16 rfl ?_
      refine sx_bi (v := 10) hm dX9_beginsVariable_17 (by decide) ?_
      rcases mx_if_el hf with ⟨c14, hf⟩ | ⟨c14, hf⟩
      · refine sb_ic_ne hm dX9_beginsVariable_19 (tgt := 26) rfl (fun _ => ?_) (fun z => absurd c14 z)
        refine sx_ic (v := 0) hm dX9_beginsVariable_26 (by decide) ?_
        cases hf
        exact sx_ire hm dX9_beginsVariable_27 rfl (by decide)
      · refine sb_ic_ne hm dX9_beginsVariable_19 (tgt := 26) rfl (fun z => absurd z c14) (fun _ => ?_)
        refine sx_ic (v := 1) hm dX9_beginsVariable_22 (by decide) ?_
        refine mx_S.pu (pc2 := 27) (lv2 := [(1, .int u2.1), (0, .ref a0)]) (st2 := [.int 1]) hm dX9_beginsVariable_23 rfl ?_
        cases hf
        exact sx_ire hm dX9_beginsVariable_27 rfl (by decide)
