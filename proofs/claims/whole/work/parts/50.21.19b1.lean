set_option maxHeartbeats 4000000 in
set_option maxRecDepth 20000 in
theorem f_X5_stepField_ok (X : Nat × (Nat → Int32)) {F L : Nat} (hF : 2 ≤ F) (hL : 44 ≤ L) (nn : Nat) (a0 : Nat) (a1 : Int32) (h : mx_H) {r : mx_H} (hf : f_X5_stepField nn a0 a1 h = some r) : mx_R X F L 168 [.ref a0, .int a1] h (none, r, 0, 0) := by
  have hm : mx_mt 168 = some (yX5_stepField, cX5_stepField, 4, none) := mt_X5_stepField
  show mx_S X F L 168 0 [(0, .ref a0), (1, .int a1)] [] h 0 0 (none, r, 0, 0)
  unfold f_X5_stepField at hf
  refine mx_S.pu (pc2 := 1) (lv2 := [(0, .ref a0), (1, .int a1)]) (st2 := [.ref a0]) hm dX5_stepField_0 rfl ?_
  replace hf := mx_gd_el hf; obtain ⟨c1, hf⟩ := hf
  replace hf := mx_sv_el hf; obtain ⟨u2, e_u2, hf⟩ := hf
  refine sx_cv hm dX5_stepField_1 rs_RX5_154 mt_X5_pop [] [] (b := a0) (ci := 5) rfl rfl rfl c1 (Nat.le_of_ble_eq_true rfl) (Nat.le_of_ble_eq_true rfl) (by omega) (by omega) (f_X5_pop_ok X (by omega) (by omega) nn a0 h e_u2) ?_
  clear e_u2
  show mx_S X F L 168 4 [(0, .ref a0), (1, .int a1)] [.int u2.1] u2.2 0 0 (none, r, 0, 0)
  refine mx_S.pu (pc2 := 5) (lv2 := [(2, .int u2.1), (0, .ref a0), (1, .int a1)]) (st2 := []) hm dX5_stepField_4 rfl ?_
  refine mx_S.pu (pc2 := 6) (lv2 := [(2, .int u2.1), (0, .ref a0), (1, .int a1)]) (st2 := [.ref a0]) hm dX5_stepField_5 rfl ?_
  refine mx_S.pu (pc2 := 7) (lv2 := [(2, .int u2.1), (0, .ref a0), (1, .int a1)]) (st2 := [.int u2.1, .ref a0]) hm dX5_stepField_6 rfl ?_
  refine mx_S.pu (pc2 := 8) (lv2 := [(2, .int u2.1), (0, .ref a0), (1, .int a1)]) (st2 := [.ref a0, .int u2.1, .ref a0]) hm dX5_stepField_7 rfl ?_
  refine mx_S.pu (pc2 := 9) (lv2 := [(2, .int u2.1), (0, .ref a0), (1, .int a1)]) (st2 := [.int a1, .ref a0, .int u2.1, .ref a0]) hm dX5_stepField_8 rfl ?_
  replace hf := mx_gd_el hf; obtain ⟨c3, hf⟩ := hf
  replace hf := mx_sv_el hf; obtain ⟨u4, e_u4, hf⟩ := hf
  refine sx_cv hm dX5_stepField_9 rs_RX5_149 mt_X5_link [.int a1] [.int u2.1, .ref a0] (b := a0) (ci := 5) rfl rfl rfl c3 (Nat.le_of_ble_eq_true rfl) (Nat.le_of_ble_eq_true rfl) (by omega) (by omega) (f_X5_link_ok X (by omega) (by omega) nn a0 a1 u2.2 e_u4) ?_
  clear e_u4
  show mx_S X F L 168 12 [(2, .int u2.1), (0, .ref a0), (1, .int a1)] [.int u4.1, .int u2.1, .ref a0] u4.2 0 0 (none, r, 0, 0)
  replace hf := mx_gd_el hf; obtain ⟨c5, hf⟩ := hf
  replace hf := mx_sv_el hf; obtain ⟨u6, e_u6, hf⟩ := hf
  refine sx_cv hm dX5_stepField_12 rs_RX5_243 mt_X5_fieldCell [.int u2.1, .int u4.1] [] (b := a0) (ci := 5) rfl rfl rfl c5 (Nat.le_of_ble_eq_true rfl) (Nat.le_of_ble_eq_true rfl) (by omega) (by omega) (f_X5_fieldCell_ok X (by omega) (by omega) nn a0 u2.1 u4.1 u4.2 e_u6) ?_
  clear e_u6
  show mx_S X F L 168 15 [(2, .int u2.1), (0, .ref a0), (1, .int a1)] [.int u6.1] u6.2 0 0 (none, r, 0, 0)
  refine mx_S.pu (pc2 := 16) (lv2 := [(3, .int u6.1), (2, .int u2.1), (0, .ref a0), (1, .int a1)]) (st2 := []) hm dX5_stepField_15 rfl ?_
  refine mx_S.pu (pc2 := 17) (lv2 := [(3, .int u6.1), (2, .int u2.1), (0, .ref a0), (1, .int a1)]) (st2 := [.int u6.1]) hm dX5_stepField_16 rfl ?_
  refine sx_ic (v := (-1)) hm dX5_stepField_17 (by decide) ?_
  rcases mx_if_el hf with ⟨c12, hf⟩ | ⟨c12, hf⟩
  · refine sb_ic_ne hm dX5_stepField_18 (tgt := 30) rfl (fun _ => ?_) (fun z => absurd c12 z)
    refine mx_S.pu (pc2 := 31) (lv2 := [(3, .int u6.1), (2, .int u2.1), (0, .ref a0), (1, .int a1)]) (st2 := [.ref a0]) hm dX5_stepField_30 rfl ?_
    refine mx_S.pu (pc2 := 32) (lv2 := [(3, .int u6.1), (2, .int u2.1), (0, .ref a0), (1, .int a1)]) (st2 := [.ref a0, .ref a0]) hm dX5_stepField_31 rfl ?_
    replace hf := mx_sv_el hf; obtain ⟨v7, e_v7, hf⟩ := hf
    refine sx_get hm dX5_stepField_32 rs_RX5_23 (xgr_el e_v7) ?_
    clear e_v7
    refine mx_S.pu (pc2 := 36) (lv2 := [(3, .int u6.1), (2, .int u2.1), (0, .ref a0), (1, .int a1)]) (st2 := [.int u6.1, .ref v7, .ref a0]) hm dX5_stepField_35 rfl ?_
    replace hf := mx_sv_el hf; obtain ⟨v8, e_v8, hf⟩ := hf
    refine sx_ald hm dX5_stepField_36 e_v8 ?_
    clear e_v8
    refine sx_ic (v := 2) hm dX5_stepField_37 (by decide) ?_
    replace hf := mx_gd_el hf; obtain ⟨c9, hf⟩ := hf
    replace hf := mx_sv_el hf; obtain ⟨u10, e_u10, hf⟩ := hf
    refine sx_cv hm dX5_stepField_38 rs_RX5_145 mt_X5_give [.int v8, .int 2] [] (b := a0) (ci := 5) rfl rfl rfl c9 (Nat.le_of_ble_eq_true rfl) (Nat.le_of_ble_eq_true rfl) (by omega) (by omega) (f_X5_give_ok X (by omega) (by omega) nn a0 v8 2 u6.2 e_u10) ?_
    clear e_u10
    show mx_S X F L 168 41 [(3, .int u6.1), (2, .int u2.1), (0, .ref a0), (1, .int a1)] [] u10 0 0 (none, r, 0, 0)
    cases hf
    exact sx_ret hm dX5_stepField_41 rfl
  · refine sb_ic_ne hm dX5_stepField_18 (tgt := 30) rfl (fun z => absurd z c12) (fun _ => ?_)
    refine mx_S.pu (pc2 := 22) (lv2 := [(3, .int u6.1), (2, .int u2.1), (0, .ref a0), (1, .int a1)]) (st2 := [.ref a0]) hm dX5_stepField_21 rfl ?_
    refine sx_bi (v := (-2)) hm dX5_stepField_22 (by decide) ?_
    replace hf := mx_sv_el hf; obtain ⟨h11, e_h11, hf⟩ := hf
    refine sx_put hm dX5_stepField_24 rs_RX5_86 ft_5_20 ⟨rfl, rfl⟩ (fun z => by cases z) e_h11 ?_
    clear e_h11
    refine mx_S.pu (pc2 := 41) (lv2 := [(3, .int u6.1), (2, .int u2.1), (0, .ref a0), (1, .int a1)]) (st2 := []) hm dX5_stepField_27 rfl ?_
    cases hf
    exact sx_ret hm dX5_stepField_41 rfl
set_option maxHeartbeats 4000000 in
set_option maxRecDepth 20000 in
theorem j_X5_stepGiveElement_89_ok (X : Nat × (Nat → Int32)) {F L : Nat} (hF : 2 ≤ F) (hL : 43 ≤ L) (nn : Nat) (l0 : Nat) (l2 : Int32) (l5 : Int32) (h : mx_H) {r : mx_H} (hf : j_X5_stepGiveElement_89 nn l0 l2 l5 h = some r) : mx_S X F L 166 89 [(0, .ref l0), (2, .int l2), (5, .int l5)] [] h 0 0 (none, r, 0, 0) := by
  have hm : mx_mt 166 = some (yX5_stepGiveElement, cX5_stepGiveElement, 6, none) := mt_X5_stepGiveElement
  unfold j_X5_stepGiveElement_89 at hf
  refine mx_S.pu (pc2 := 90) (lv2 := [(0, .ref l0), (2, .int l2), (5, .int l5)]) (st2 := [.ref l0]) hm dX5_stepGiveElement_89 rfl ?_
  replace hf := mx_sv_el hf; obtain ⟨v1, e_v1, hf⟩ := hf
  refine sx_get hm dX5_stepGiveElement_90 rs_RX5_23 (xgr_el e_v1) ?_
  clear e_v1
  refine mx_S.pu (pc2 := 95) (lv2 := [(0, .ref l0), (2, .int l2), (5, .int l5)]) (st2 := [.int l5, .ref v1]) hm dX5_stepGiveElement_93 rfl ?_
  refine mx_S.pu (pc2 := 96) (lv2 := [(0, .ref l0), (2, .int l2), (5, .int l5)]) (st2 := [.int l2, .int l5, .ref v1]) hm dX5_stepGiveElement_95 rfl ?_
  replace hf := mx_sv_el hf; obtain ⟨h2, e_h2, hf⟩ := hf
  refine sx_ast hm dX5_stepGiveElement_96 e_h2 ?_
  clear e_h2
  refine mx_S.pu (pc2 := 98) (lv2 := [(0, .ref l0), (2, .int l2), (5, .int l5)]) (st2 := [.ref l0]) hm dX5_stepGiveElement_97 rfl ?_
  refine sx_ic (v := 1) hm dX5_stepGiveElement_98 (by decide) ?_
  replace hf := mx_gd_el hf; obtain ⟨c3, hf⟩ := hf
  replace hf := mx_sv_el hf; obtain ⟨u4, e_u4, hf⟩ := hf
  refine sx_cv hm dX5_stepGiveElement_99 rs_RX5_138 mt_X5_goOn [.int 1] [] (b := l0) (ci := 5) rfl rfl rfl c3 (Nat.le_of_ble_eq_true rfl) (Nat.le_of_ble_eq_true rfl) (by omega) (by omega) (f_X5_goOn_ok X (by omega) (by omega) nn l0 1 h2 e_u4) ?_
  clear e_u4
  show mx_S X F L 166 102 [(0, .ref l0), (2, .int l2), (5, .int l5)] [] u4 0 0 (none, r, 0, 0)
  cases hf
  exact sx_ret hm dX5_stepGiveElement_102 rfl
set_option maxHeartbeats 4000000 in
set_option maxRecDepth 20000 in
theorem f_X5_stepGiveElement_ok (X : Nat × (Nat → Int32)) {F L : Nat} (hF : 2 ≤ F) (hL : 43 ≤ L) (nn : Nat) (a0 : Nat) (a1 : Int32) (h : mx_H) {r : mx_H} (hf : f_X5_stepGiveElement nn a0 a1 h = some r) : mx_R X F L 166 [.ref a0, .int a1] h (none, r, 0, 0) := by
  have hm : mx_mt 166 = some (yX5_stepGiveElement, cX5_stepGiveElement, 6, none) := mt_X5_stepGiveElement
  show mx_S X F L 166 0 [(0, .ref a0), (1, .int a1)] [] h 0 0 (none, r, 0, 0)
  unfold f_X5_stepGiveElement at hf
  refine mx_S.pu (pc2 := 1) (lv2 := [(0, .ref a0), (1, .int a1)]) (st2 := [.ref a0]) hm dX5_stepGiveElement_0 rfl ?_
  replace hf := mx_gd_el hf; obtain ⟨c5, hf⟩ := hf
  replace hf := mx_sv_el hf; obtain ⟨u6, e_u6, hf⟩ := hf
  refine sx_cv hm dX5_stepGiveElement_1 rs_RX5_154 mt_X5_pop [] [] (b := a0) (ci := 5) rfl rfl rfl c5 (Nat.le_of_ble_eq_true rfl) (Nat.le_of_ble_eq_true rfl) (by omega) (by omega) (f_X5_pop_ok X (by omega) (by omega) nn a0 h e_u6) ?_
  clear e_u6
  show mx_S X F L 166 4 [(0, .ref a0), (1, .int a1)] [.int u6.1] u6.2 0 0 (none, r, 0, 0)
  refine mx_S.pu (pc2 := 5) (lv2 := [(2, .int u6.1), (0, .ref a0), (1, .int a1)]) (st2 := []) hm dX5_stepGiveElement_4 rfl ?_
  refine mx_S.pu (pc2 := 6) (lv2 := [(2, .int u6.1), (0, .ref a0), (1, .int a1)]) (st2 := [.ref a0]) hm dX5_stepGiveElement_5 rfl ?_
  replace hf := mx_gd_el hf; obtain ⟨c7, hf⟩ := hf
  replace hf := mx_sv_el hf; obtain ⟨u8, e_u8, hf⟩ := hf
  refine sx_cv hm dX5_stepGiveElement_6 rs_RX5_154 mt_X5_pop [] [] (b := a0) (ci := 5) rfl rfl rfl c7 (Nat.le_of_ble_eq_true rfl) (Nat.le_of_ble_eq_true rfl) (by omega) (by omega) (f_X5_pop_ok X (by omega) (by omega) nn a0 u6.2 e_u8) ?_
  clear e_u8
  show mx_S X F L 166 9 [(2, .int u6.1), (0, .ref a0), (1, .int a1)] [.int u8.1] u8.2 0 0 (none, r, 0, 0)
  refine mx_S.pu (pc2 := 10) (lv2 := [(3, .int u8.1), (2, .int u6.1), (0, .ref a0), (1, .int a1)]) (st2 := []) hm dX5_stepGiveElement_9 rfl ?_
  refine mx_S.pu (pc2 := 11) (lv2 := [(3, .int u8.1), (2, .int u6.1), (0, .ref a0), (1, .int a1)]) (st2 := [.ref a0]) hm dX5_stepGiveElement_10 rfl ?_
  replace hf := mx_gd_el hf; obtain ⟨c9, hf⟩ := hf
  replace hf := mx_sv_el hf; obtain ⟨u10, e_u10, hf⟩ := hf
  refine sx_cv hm dX5_stepGiveElement_11 rs_RX5_154 mt_X5_pop [] [] (b := a0) (ci := 5) rfl rfl rfl c9 (Nat.le_of_ble_eq_true rfl) (Nat.le_of_ble_eq_true rfl) (by omega) (by omega) (f_X5_pop_ok X (by omega) (by omega) nn a0 u8.2 e_u10) ?_
  clear e_u10
  show mx_S X F L 166 14 [(3, .int u8.1), (2, .int u6.1), (0, .ref a0), (1, .int a1)] [.int u10.1] u10.2 0 0 (none, r, 0, 0)
  refine mx_S.pu (pc2 := 16) (lv2 := [(4, .int u10.1), (3, .int u8.1), (2, .int u6.1), (0, .ref a0), (1, .int a1)]) (st2 := []) hm dX5_stepGiveElement_14 rfl ?_
  refine mx_S.pu (pc2 := 17) (lv2 := [(4, .int u10.1), (3, .int u8.1), (2, .int u6.1), (0, .ref a0), (1, .int a1)]) (st2 := [.ref a0]) hm dX5_stepGiveElement_16 rfl ?_
  refine mx_S.pu (pc2 := 19) (lv2 := [(4, .int u10.1), (3, .int u8.1), (2, .int u6.1), (0, .ref a0), (1, .int a1)]) (st2 := [.int u10.1, .ref a0]) hm dX5_stepGiveElement_17 rfl ?_
  refine mx_S.pu (pc2 := 20) (lv2 := [(4, .int u10.1), (3, .int u8.1), (2, .int u6.1), (0, .ref a0), (1, .int a1)]) (st2 := [.int u8.1, .int u10.1, .ref a0]) hm dX5_stepGiveElement_19 rfl ?_
  replace hf := mx_gd_el hf; obtain ⟨c11, hf⟩ := hf
  replace hf := mx_sv_el hf; obtain ⟨u12, e_u12, hf⟩ := hf
  refine sx_cv hm dX5_stepGiveElement_20 rs_RX5_229 mt_X5_cellOf [.int u10.1, .int u8.1] [] (b := a0) (ci := 5) rfl rfl rfl c11 (Nat.le_of_ble_eq_true rfl) (Nat.le_of_ble_eq_true rfl) (by omega) (by omega) (f_X5_cellOf_ok X (by omega) (by omega) nn a0 u10.1 u8.1 u10.2 e_u12) ?_
  clear e_u12
  show mx_S X F L 166 23 [(4, .int u10.1), (3, .int u8.1), (2, .int u6.1), (0, .ref a0), (1, .int a1)] [.int u12.1] u12.2 0 0 (none, r, 0, 0)
  refine mx_S.pu (pc2 := 25) (lv2 := [(5, .int u12.1), (4, .int u10.1), (3, .int u8.1), (2, .int u6.1), (0, .ref a0), (1, .int a1)]) (st2 := []) hm dX5_stepGiveElement_23 rfl ?_
  refine mx_S.pu (pc2 := 27) (lv2 := [(5, .int u12.1), (4, .int u10.1), (3, .int u8.1), (2, .int u6.1), (0, .ref a0), (1, .int a1)]) (st2 := [.int u12.1]) hm dX5_stepGiveElement_25 rfl ?_
  rcases mx_if_el hf with ⟨c29, hf⟩ | ⟨c29, hf⟩
  · refine sb_if_lt hm dX5_stepGiveElement_27 (tgt := 38) rfl (fun _ => ?_) (fun z => absurd c29 z)
    cases hf
    exact sx_ret hm dX5_stepGiveElement_38 rfl
  · refine sb_if_lt hm dX5_stepGiveElement_27 (tgt := 38) rfl (fun z => absurd z c29) (fun _ => ?_)
    refine mx_S.pu (pc2 := 32) (lv2 := [(5, .int u12.1), (4, .int u10.1), (3, .int u8.1), (2, .int u6.1), (0, .ref a0), (1, .int a1)]) (st2 := [.int u12.1]) hm dX5_stepGiveElement_30 rfl ?_
    refine sx_si (v := 20000) hm dX5_stepGiveElement_32 (by decide) ?_
    rcases mx_if_el hf with ⟨c28, hf⟩ | ⟨c28, hf⟩
    · refine sb_ic_lt hm dX5_stepGiveElement_35 (tgt := 39) rfl (fun _ => ?_) (fun z => absurd c28 z)
      refine mx_S.pu (pc2 := 40) (lv2 := [(5, .int u12.1), (4, .int u10.1), (3, .int u8.1), (2, .int u6.1), (0, .ref a0), (1, .int a1)]) (st2 := [.int a1]) hm dX5_stepGiveElement_39 rfl ?_
      refine sx_bi (v := 83) hm dX5_stepGiveElement_40 (by decide) ?_
      rcases mx_if_el hf with ⟨c27, hf⟩ | ⟨c27, hf⟩
      · refine sb_ic_ne hm dX5_stepGiveElement_42 (tgt := 89) rfl (fun _ => ?_) (fun z => absurd c27 z)
        refine mx_S.ext [(0, .ref a0), (2, .int u6.1), (5, .int u12.1)] (mx_sub_pos [4, 3, 0] rfl (show ([5, 4, 3, 2, 0, 1] : List Nat).Nodup by decide)) ?_
        exact j_X5_stepGiveElement_89_ok X hF hL nn a0 u6.1 u12.1 u12.2 hf
      · refine sb_ic_ne hm dX5_stepGiveElement_42 (tgt := 89) rfl (fun z => absurd z c27) (fun _ => ?_)
        refine mx_S.pu (pc2 := 46) (lv2 := [(5, .int u12.1), (4, .int u10.1), (3, .int u8.1), (2, .int u6.1), (0, .ref a0), (1, .int a1)]) (st2 := [.ref a0]) hm dX5_stepGiveElement_45 rfl ?_
        refine mx_S.pu (pc2 := 47) (lv2 := [(5, .int u12.1), (4, .int u10.1), (3, .int u8.1), (2, .int u6.1), (0, .ref a0), (1, .int a1)]) (st2 := [.int u6.1, .ref a0]) hm dX5_stepGiveElement_46 rfl ?_
        replace hf := mx_gd_el hf; obtain ⟨c13, hf⟩ := hf
        replace hf := mx_sv_el hf; obtain ⟨u14, e_u14, hf⟩ := hf
        refine sx_cv hm dX5_stepGiveElement_47 rs_RX5_226 mt_X5_isObject [.int u6.1] [] (b := a0) (ci := 5) rfl rfl rfl c13 (Nat.le_of_ble_eq_true rfl) (Nat.le_of_ble_eq_true rfl) (by omega) (by omega) (f_X5_isObject_ok X (by omega) (by omega) nn a0 u6.1 u12.2 e_u14) ?_
        clear e_u14
        show mx_S X F L 166 50 [(5, .int u12.1), (4, .int u10.1), (3, .int u8.1), (2, .int u6.1), (0, .ref a0), (1, .int a1)] [.int u14.1] u14.2 0 0 (none, r, 0, 0)
        rcases mx_if_el hf with ⟨c26, hf⟩ | ⟨c26, hf⟩
        · refine sb_if_eq hm dX5_stepGiveElement_50 (tgt := 89) rfl (fun _ => ?_) (fun z => absurd c26 z)
          refine mx_S.ext [(0, .ref a0), (2, .int u6.1), (5, .int u12.1)] (mx_sub_pos [4, 3, 0] rfl (show ([5, 4, 3, 2, 0, 1] : List Nat).Nodup by decide)) ?_
          exact j_X5_stepGiveElement_89_ok X hF hL nn a0 u6.1 u12.1 u14.2 hf
        · refine sb_if_eq hm dX5_stepGiveElement_50 (tgt := 89) rfl (fun z => absurd z c26) (fun _ => ?_)
          refine mx_S.pu (pc2 := 54) (lv2 := [(5, .int u12.1), (4, .int u10.1), (3, .int u8.1), (2, .int u6.1), (0, .ref a0), (1, .int a1)]) (st2 := [.ref a0]) hm dX5_stepGiveElement_53 rfl ?_
          replace hf := mx_sv_el hf; obtain ⟨v15, e_v15, hf⟩ := hf
          refine sx_get hm dX5_stepGiveElement_54 rs_RX5_41 (xgr_el e_v15) ?_
          clear e_v15
          replace hf := mx_sv_el hf; obtain ⟨v16, e_v16, hf⟩ := hf
          refine sx_get hm dX5_stepGiveElement_57 rs_RX5_232 (xgr_el e_v16) ?_
          clear e_v16
          refine mx_S.pu (pc2 := 61) (lv2 := [(5, .int u12.1), (4, .int u10.1), (3, .int u8.1), (2, .int u6.1), (0, .ref a0), (1, .int a1)]) (st2 := [.ref a0, .ref v16]) hm dX5_stepGiveElement_60 rfl ?_
          replace hf := mx_sv_el hf; obtain ⟨v17, e_v17, hf⟩ := hf
          refine sx_get hm dX5_stepGiveElement_61 rs_RX5_17 (xgr_el e_v17) ?_
          clear e_v17
          refine mx_S.pu (pc2 := 65) (lv2 := [(5, .int u12.1), (4, .int u10.1), (3, .int u8.1), (2, .int u6.1), (0, .ref a0), (1, .int a1)]) (st2 := [.int u6.1, .ref v17, .ref v16]) hm dX5_stepGiveElement_64 rfl ?_
          replace hf := mx_sv_el hf; obtain ⟨v18, e_v18, hf⟩ := hf
          refine sx_ald hm dX5_stepGiveElement_65 e_v18 ?_
          clear e_v18
          refine mx_S.pu (pc2 := 67) (lv2 := [(5, .int u12.1), (4, .int u10.1), (3, .int u8.1), (2, .int u6.1), (0, .ref a0), (1, .int a1)]) (st2 := [.ref a0, .int v18, .ref v16]) hm dX5_stepGiveElement_66 rfl ?_
          replace hf := mx_sv_el hf; obtain ⟨v19, e_v19, hf⟩ := hf
          refine sx_get hm dX5_stepGiveElement_67 rs_RX5_17 (xgr_el e_v19) ?_
          clear e_v19
          refine mx_S.pu (pc2 := 72) (lv2 := [(5, .int u12.1), (4, .int u10.1), (3, .int u8.1), (2, .int u6.1), (0, .ref a0), (1, .int a1)]) (st2 := [.int u10.1, .ref v19, .int v18, .ref v16]) hm dX5_stepGiveElement_70 rfl ?_
          replace hf := mx_sv_el hf; obtain ⟨v20, e_v20, hf⟩ := hf
          refine sx_ald hm dX5_stepGiveElement_72 e_v20 ?_
          clear e_v20
          replace hf := mx_sv_el hf; obtain ⟨u21, e_u21, hf⟩ := hf
          refine sx_cs hm dX5_stepGiveElement_73 rs_RX5_236 mt_X4_elementOf [.int v20] [.int v18, .ref v16] rfl rfl (Nat.le_of_ble_eq_true rfl) (Nat.le_of_ble_eq_true rfl) (by omega) (by omega) (f_X4_elementOf_ok X (by omega) (by omega) nn v20 u14.2 e_u21) ?_
          clear e_u21
          show mx_S X F L 166 76 [(5, .int u12.1), (4, .int u10.1), (3, .int u8.1), (2, .int u6.1), (0, .ref a0), (1, .int a1)] [.int u21.1, .int v18, .ref v16] u21.2 0 0 (none, r, 0, 0)
          replace hf := mx_gd_el hf; obtain ⟨c22, hf⟩ := hf
          replace hf := mx_sv_el hf; obtain ⟨u23, e_u23, hf⟩ := hf
          refine sx_cv hm dX5_stepGiveElement_76 rs_RX5_239 mt_X4_fits [.int v18, .int u21.1] [] (b := v16) (ci := 4) rfl rfl rfl c22 (Nat.le_of_ble_eq_true rfl) (Nat.le_of_ble_eq_true rfl) (by omega) (by omega) (f_X4_fits_ok X (by omega) (by omega) nn v16 v18 u21.1 u21.2 e_u23) ?_
          clear e_u23
          show mx_S X F L 166 79 [(5, .int u12.1), (4, .int u10.1), (3, .int u8.1), (2, .int u6.1), (0, .ref a0), (1, .int a1)] [.int u23.1] u23.2 0 0 (none, r, 0, 0)
          rcases mx_if_el hf with ⟨c25, hf⟩ | ⟨c25, hf⟩
          · refine sb_if_ne hm dX5_stepGiveElement_79 (tgt := 89) rfl (fun _ => ?_) (fun z => absurd c25 z)
            refine mx_S.ext [(0, .ref a0), (2, .int u6.1), (5, .int u12.1)] (mx_sub_pos [4, 3, 0] rfl (show ([5, 4, 3, 2, 0, 1] : List Nat).Nodup by decide)) ?_
            exact j_X5_stepGiveElement_89_ok X hF hL nn a0 u6.1 u12.1 u23.2 hf
          · refine sb_if_ne hm dX5_stepGiveElement_79 (tgt := 89) rfl (fun z => absurd z c25) (fun _ => ?_)
            refine mx_S.pu (pc2 := 83) (lv2 := [(5, .int u12.1), (4, .int u10.1), (3, .int u8.1), (2, .int u6.1), (0, .ref a0), (1, .int a1)]) (st2 := [.ref a0]) hm dX5_stepGiveElement_82 rfl ?_
            refine sx_bi (v := (-7)) hm dX5_stepGiveElement_83 (by decide) ?_
            replace hf := mx_sv_el hf; obtain ⟨h24, e_h24, hf⟩ := hf
            refine sx_put hm dX5_stepGiveElement_85 rs_RX5_86 ft_5_20 ⟨rfl, rfl⟩ (fun z => by cases z) e_h24 ?_
            clear e_h24
            cases hf
            exact sx_ret hm dX5_stepGiveElement_88 rfl
    · refine sb_ic_lt hm dX5_stepGiveElement_35 (tgt := 39) rfl (fun z => absurd z c28) (fun _ => ?_)
      cases hf
      exact sx_ret hm dX5_stepGiveElement_38 rfl
