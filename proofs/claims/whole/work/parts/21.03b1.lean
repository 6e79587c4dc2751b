set_option maxHeartbeats 4000000 in
theorem f_X10_readConstant_ok (X : Nat × (Nat → Int32)) {F L : Nat} (hF : 4 ≤ F) (hL : 123 ≤ L) (nn : Nat) (a0 : Nat) (h : mx_H) {r : mx_H} (hf : f_X10_readConstant nn a0 h = some r) : mx_R X F L 294 [.ref a0] h (none, r, 0, 0) := by
  have hm : mx_mt 294 = some (yX10_readConstant, cX10_readConstant, 2, none) := mt_X10_readConstant
  show mx_S X F L 294 0 [(0, .ref a0)] [] h 0 0 (none, r, 0, 0)
  unfold f_X10_readConstant at hf
  refine mx_S.pu (pc2 := 1) (lv2 := [(0, .ref a0)]) (st2 := [.ref a0]) hm dX10_readConstant_0 rfl ?_
  replace hf := mx_sv_el hf; obtain ⟨v1, e_v1, hf⟩ := hf
  refine sx_get hm dX10_readConstant_1 rs_RX10_31 (xgr_el e_v1) ?_
  clear e_v1
  replace hf := mx_sv_el hf; obtain ⟨v2, e_v2, hf⟩ := hf
  refine sx_get hm dX10_readConstant_4 rs_RX10_72 (xgi_el e_v2) ?_
  clear e_v2
  refine mx_S.pu (pc2 := 8) (lv2 := [(1, .int v2), (0, .ref a0)]) (st2 := []) hm dX10_readConstant_7 rfl ?_
  refine mx_S.pu (pc2 := 9) (lv2 := [(1, .int v2), (0, .ref a0)]) (st2 := [.ref a0]) hm dX10_readConstant_8 rfl ?_
  replace hf := mx_sv_el hf; obtain ⟨v3, e_v3, hf⟩ := hf
  refine sx_get hm dX10_readConstant_9 rs_RX10_31 (xgr_el e_v3) ?_
  clear e_v3
  refine mx_S.pu (pc2 := 13) (lv2 := [(1, .int v2), (0, .ref a0)]) (st2 := [.ref v3, .ref v3]) hm dX10_readConstant_12 rfl ?_
  replace hf := mx_sv_el hf; obtain ⟨v4, e_v4, hf⟩ := hf
  refine sx_get hm dX10_readConstant_13 rs_RX10_72 (xgi_el e_v4) ?_
  clear e_v4
  refine sx_ic (v := 1) hm dX10_readConstant_16 (by decide) ?_
  replace hf := xl_el hf; obtain ⟨v5, e_v5, hf⟩ := hf
  refine mx_S.pu (pc2 := 18) (lv2 := [(1, .int v2), (0, .ref a0)]) (st2 := [.int v5, .ref v3]) hm dX10_readConstant_17 (by rw [← e_v5]; rfl) ?_
  clear e_v5
  replace hf := mx_sv_el hf; obtain ⟨h6, e_h6, hf⟩ := hf
  refine sx_put hm dX10_readConstant_18 rs_RX10_72 ft_9_10 ⟨rfl, rfl⟩ (fun z => by cases z) e_h6 ?_
  clear e_h6
  refine mx_S.pu (pc2 := 22) (lv2 := [(1, .int v2), (0, .ref a0)]) (st2 := [.ref a0]) hm dX10_readConstant_21 rfl ?_
  replace hf := mx_sv_el hf; obtain ⟨v7, e_v7, hf⟩ := hf
  refine sx_get hm dX10_readConstant_22 rs_RX10_31 (xgr_el e_v7) ?_
  clear e_v7
  refine mx_S.pu (pc2 := 26) (lv2 := [(1, .int v2), (0, .ref a0)]) (st2 := [.int v2, .ref v7]) hm dX10_readConstant_25 rfl ?_
  replace hf := mx_gd_el hf; obtain ⟨c8, hf⟩ := hf
  replace hf := mx_sv_el hf; obtain ⟨u9, e_u9, hf⟩ := hf
  refine sx_cv hm dX10_readConstant_26 rs_RX10_224 mt_X9_kindAt [.int v2] [] (b := v7) (ci := 9) rfl rfl rfl c8 (Nat.le_of_ble_eq_true rfl) (Nat.le_of_ble_eq_true rfl) (by omega) (by omega) (f_X9_kindAt_ok X (by omega) (by omega) nn v7 v2 h6 e_u9) ?_
  clear e_u9
  show mx_S X F L 294 29 [(1, .int v2), (0, .ref a0)] [.int u9.1] u9.2 0 0 (none, r, 0, 0)
  rcases mx_if_el hf with ⟨n_0, hf⟩ | ⟨n_0, hf⟩
  · refine sx_look hm dX10_readConstant_29 rfl (off := 43) (by rw [n_0]; rfl) (tgt := 72) rfl ?_
    clear n_0
    refine mx_S.pu (pc2 := 73) (lv2 := [(1, .int v2), (0, .ref a0)]) (st2 := [.ref a0]) hm dX10_readConstant_72 rfl ?_
    refine mx_S.pu (pc2 := 74) (lv2 := [(1, .int v2), (0, .ref a0)]) (st2 := [.ref a0, .ref a0]) hm dX10_readConstant_73 rfl ?_
    replace hf := mx_sv_el hf; obtain ⟨v12, e_v12, hf⟩ := hf
    refine sx_get hm dX10_readConstant_74 rs_RX10_31 (xgr_el e_v12) ?_
    clear e_v12
    refine mx_S.pu (pc2 := 78) (lv2 := [(1, .int v2), (0, .ref a0)]) (st2 := [.int v2, .ref v12, .ref a0]) hm dX10_readConstant_77 rfl ?_
    replace hf := mx_gd_el hf; obtain ⟨c13, hf⟩ := hf
    replace hf := mx_sv_el hf; obtain ⟨u14, e_u14, hf⟩ := hf
    refine sx_cv hm dX10_readConstant_78 rs_RX10_227 mt_X9_valueAt [.int v2] [.ref a0] (b := v12) (ci := 9) rfl rfl rfl c13 (Nat.le_of_ble_eq_true rfl) (Nat.le_of_ble_eq_true rfl) (by omega) (by omega) (f_X9_valueAt_ok X (by omega) (by omega) nn v12 v2 u9.2 e_u14) ?_
    clear e_u14
    show mx_S X F L 294 81 [(1, .int v2), (0, .ref a0)] [.int u14.1, .ref a0] u14.2 0 0 (none, r, 0, 0)
    replace hf := mx_gd_el hf; obtain ⟨c15, hf⟩ := hf
    replace hf := mx_sv_el hf; obtain ⟨u16, e_u16, hf⟩ := hf
    refine sx_cv hm dX10_readConstant_81 rs_RX10_230 mt_X10_readNumber [.int u14.1] [] (b := a0) (ci := 10) rfl rfl rfl c15 (Nat.le_of_ble_eq_true rfl) (Nat.le_of_ble_eq_true rfl) (by omega) (by omega) (f_X10_readNumber_ok X (by omega) (by omega) nn a0 u14.1 u14.2 e_u16) ?_
    clear e_u16
    show mx_S X F L 294 84 [(1, .int v2), (0, .ref a0)] [] u16 0 0 (none, r, 0, 0)
    refine mx_S.pu (pc2 := 146) (lv2 := [(1, .int v2), (0, .ref a0)]) (st2 := []) hm dX10_readConstant_84 rfl ?_
    cases hf
    exact sx_ret hm dX10_readConstant_146 rfl
  · rcases mx_if_el hf with ⟨n_1, hf⟩ | ⟨n_1, hf⟩
    · refine sx_look hm dX10_readConstant_29 rfl (off := 76) (by rw [n_1]; rfl) (tgt := 105) rfl ?_
      clear n_0 n_1
      refine mx_S.pu (pc2 := 106) (lv2 := [(1, .int v2), (0, .ref a0)]) (st2 := [.ref a0]) hm dX10_readConstant_105 rfl ?_
      replace hf := mx_sv_el hf; obtain ⟨v17, e_v17, hf⟩ := hf
      refine sx_get hm dX10_readConstant_106 rs_RX10_46 (xgr_el e_v17) ?_
      clear e_v17
      refine sx_ic (v := 3) hm dX10_readConstant_109 (by decide) ?_
      replace hf := mx_gd_el hf; obtain ⟨c18, hf⟩ := hf
      replace hf := mx_sv_el hf; obtain ⟨u19, e_u19, hf⟩ := hf
      refine sx_cv hm dX10_readConstant_110 rs_RX10_162 mt_X1_op [.int 3] [] (b := v17) (ci := 1) rfl rfl rfl c18 (Nat.le_of_ble_eq_true rfl) (Nat.le_of_ble_eq_true rfl) (by omega) (by omega) (f_X1_op_ok X (by omega) (by omega) nn v17 3 u9.2 e_u19) ?_
      clear e_u19
      show mx_S X F L 294 113 [(1, .int v2), (0, .ref a0)] [] u19 0 0 (none, r, 0, 0)
      refine mx_S.pu (pc2 := 114) (lv2 := [(1, .int v2), (0, .ref a0)]) (st2 := [.ref a0]) hm dX10_readConstant_113 rfl ?_
      refine sx_si (v := 302) hm dX10_readConstant_114 (by decide) ?_
      replace hf := mx_gd_el hf; obtain ⟨c20, hf⟩ := hf
      replace hf := mx_sv_el hf; obtain ⟨u21, e_u21, hf⟩ := hf
      refine sx_cv hm dX10_readConstant_117 rs_RX10_233 mt_X10_give [.int 302] [] (b := a0) (ci := 10) rfl rfl rfl c20 (Nat.le_of_ble_eq_true rfl) (Nat.le_of_ble_eq_true rfl) (by omega) (by omega) (f_X10_give_ok X (by omega) (by omega) nn a0 302 u19 e_u21) ?_
      clear e_u21
      show mx_S X F L 294 120 [(1, .int v2), (0, .ref a0)] [] u21 0 0 (none, r, 0, 0)
      refine mx_S.pu (pc2 := 146) (lv2 := [(1, .int v2), (0, .ref a0)]) (st2 := []) hm dX10_readConstant_120 rfl ?_
      cases hf
      exact sx_ret hm dX10_readConstant_146 rfl
    · rcases mx_if_el hf with ⟨n_2, hf⟩ | ⟨n_2, hf⟩
      · refine sx_look hm dX10_readConstant_29 rfl (off := 94) (by rw [n_2]; rfl) (tgt := 123) rfl ?_
        clear n_0 n_1 n_2
        refine mx_S.pu (pc2 := 124) (lv2 := [(1, .int v2), (0, .ref a0)]) (st2 := [.ref a0]) hm dX10_readConstant_123 rfl ?_
        replace hf := mx_sv_el hf; obtain ⟨v22, e_v22, hf⟩ := hf
        refine sx_get hm dX10_readConstant_124 rs_RX10_46 (xgr_el e_v22) ?_
        clear e_v22
        refine sx_ic (v := 1) hm dX10_readConstant_127 (by decide) ?_
        replace hf := mx_gd_el hf; obtain ⟨c23, hf⟩ := hf
        replace hf := mx_sv_el hf; obtain ⟨u24, e_u24, hf⟩ := hf
        refine sx_cv hm dX10_readConstant_128 rs_RX10_162 mt_X1_op [.int 1] [] (b := v22) (ci := 1) rfl rfl rfl c23 (Nat.le_of_ble_eq_true rfl) (Nat.le_of_ble_eq_true rfl) (by omega) (by omega) (f_X1_op_ok X (by omega) (by omega) nn v22 1 u9.2 e_u24) ?_
        clear e_u24
        show mx_S X F L 294 131 [(1, .int v2), (0, .ref a0)] [] u24 0 0 (none, r, 0, 0)
        refine mx_S.pu (pc2 := 132) (lv2 := [(1, .int v2), (0, .ref a0)]) (st2 := [.ref a0]) hm dX10_readConstant_131 rfl ?_
        refine sx_si (v := 300) hm dX10_readConstant_132 (by decide) ?_
        replace hf := mx_gd_el hf; obtain ⟨c25, hf⟩ := hf
        replace hf := mx_sv_el hf; obtain ⟨u26, e_u26, hf⟩ := hf
        refine sx_cv hm dX10_readConstant_135 rs_RX10_233 mt_X10_give [.int 300] [] (b := a0) (ci := 10) rfl rfl rfl c25 (Nat.le_of_ble_eq_true rfl) (Nat.le_of_ble_eq_true rfl) (by omega) (by omega) (f_X10_give_ok X (by omega) (by omega) nn a0 300 u24 e_u26) ?_
        clear e_u26
        show mx_S X F L 294 138 [(1, .int v2), (0, .ref a0)] [] u26 0 0 (none, r, 0, 0)
        refine mx_S.pu (pc2 := 146) (lv2 := [(1, .int v2), (0, .ref a0)]) (st2 := []) hm dX10_readConstant_138 rfl ?_
        cases hf
        exact sx_ret hm dX10_readConstant_146 rfl
      · rcases mx_if_el hf with ⟨n_3, hf⟩ | ⟨n_3, hf⟩
        · refine sx_look hm dX10_readConstant_29 rfl (off := 58) (by rw [n_3]; rfl) (tgt := 87) rfl ?_
          clear n_0 n_1 n_2 n_3
          refine mx_S.pu (pc2 := 88) (lv2 := [(1, .int v2), (0, .ref a0)]) (st2 := [.ref a0]) hm dX10_readConstant_87 rfl ?_
          replace hf := mx_sv_el hf; obtain ⟨v27, e_v27, hf⟩ := hf
          refine sx_get hm dX10_readConstant_88 rs_RX10_46 (xgr_el e_v27) ?_
          clear e_v27
          refine sx_ic (v := 4) hm dX10_readConstant_91 (by decide) ?_
          replace hf := mx_gd_el hf; obtain ⟨c28, hf⟩ := hf
          replace hf := mx_sv_el hf; obtain ⟨u29, e_u29, hf⟩ := hf
          refine sx_cv hm dX10_readConstant_92 rs_RX10_162 mt_X1_op [.int 4] [] (b := v27) (ci := 1) rfl rfl rfl c28 (Nat.le_of_ble_eq_true rfl) (Nat.le_of_ble_eq_true rfl) (by omega) (by omega) (f_X1_op_ok X (by omega) (by omega) nn v27 4 u9.2 e_u29) ?_
          clear e_u29
          show mx_S X F L 294 95 [(1, .int v2), (0, .ref a0)] [] u29 0 0 (none, r, 0, 0)
          refine mx_S.pu (pc2 := 96) (lv2 := [(1, .int v2), (0, .ref a0)]) (st2 := [.ref a0]) hm dX10_readConstant_95 rfl ?_
          refine sx_si (v := 302) hm dX10_readConstant_96 (by decide) ?_
          replace hf := mx_gd_el hf; obtain ⟨c30, hf⟩ := hf
          replace hf := mx_sv_el hf; obtain ⟨u31, e_u31, hf⟩ := hf
          refine sx_cv hm dX10_readConstant_99 rs_RX10_233 mt_X10_give [.int 302] [] (b := a0) (ci := 10) rfl rfl rfl c30 (Nat.le_of_ble_eq_true rfl) (Nat.le_of_ble_eq_true rfl) (by omega) (by omega) (f_X10_give_ok X (by omega) (by omega) nn a0 302 u29 e_u31) ?_
          clear e_u31
          show mx_S X F L 294 102 [(1, .int v2), (0, .ref a0)] [] u31 0 0 (none, r, 0, 0)
          refine mx_S.pu (pc2 := 146) (lv2 := [(1, .int v2), (0, .ref a0)]) (st2 := []) hm dX10_readConstant_102 rfl ?_
          cases hf
          exact sx_ret hm dX10_readConstant_146 rfl
        · refine sx_look hm dX10_readConstant_29 rfl (off := 112) (by show Op.lookupswitch.offset [(3, 43), (17, 76), (22, 94), (28, 58)] 112 u9.1.toInt = _; rw [lv_osw n_0 (by decide), lv_osw n_1 (by decide), lv_osw n_2 (by decide), lv_osw n_3 (by decide)]; rfl) (tgt := 141) rfl ?_
          refine mx_S.pu (pc2 := 142) (lv2 := [(1, .int v2), (0, .ref a0)]) (st2 := [.ref a0]) hm dX10_readConstant_141 rfl ?_
          refine mx_S.pu (pc2 := 143) (lv2 := [(1, .int v2), (0, .ref a0)]) (st2 := [.int v2, .ref a0]) hm dX10_readConstant_142 rfl ?_
          replace hf := mx_gd_el hf; obtain ⟨c10, hf⟩ := hf
          replace hf := mx_sv_el hf; obtain ⟨u11, e_u11, hf⟩ := hf
          refine sx_cv hm dX10_readConstant_143 rs_RX10_236 mt_X10_giveThis [.int v2] [] (b := a0) (ci := 10) rfl rfl rfl c10 (Nat.le_of_ble_eq_true rfl) (Nat.le_of_ble_eq_true rfl) (by omega) (by omega) (f_X10_giveThis_ok X (by omega) (by omega) nn a0 v2 u9.2 e_u11) ?_
          clear e_u11
          show mx_S X F L 294 146 [(1, .int v2), (0, .ref a0)] [] u11 0 0 (none, r, 0, 0)
          cases hf
          exact sx_ret hm dX10_readConstant_146 rfl
set_option maxHeartbeats 4000000 in
theorem f_X4_elementOf_ok (X : Nat × (Nat → Int32)) {F L : Nat} (hF : 0 ≤ F) (hL : 0 ≤ L) (nn : Nat) (a0 : Int32) (h : mx_H) {r : (Int32 × mx_H)} (hf : f_X4_elementOf nn a0 h = some r) : mx_R X F L 138 [.int a0] h (some (.int r.1), r.2, 0, 0) := by
  have hm : mx_mt 138 = some (yX4_elementOf, cX4_elementOf, 1, (some .int)) := mt_X4_elementOf
  show mx_S X F L 138 0 [(0, .int a0)] [] h 0 0 (some (.int r.1), r.2, 0, 0)
  unfold f_X4_elementOf at hf
  refine mx_S.pu (pc2 := 1) (lv2 := [(0, .int a0)]) (st2 := [.int a0]) hm dX4_elementOf_0 rfl ?_
  refine sx_si (v := 200) hm dX4_elementOf_1 (by decide) ?_
  rcases mx_if_el hf with ⟨c4, hf⟩ | ⟨c4, hf⟩
  · refine sb_ic_ne hm dX4_elementOf_4 (tgt := 11) rfl (fun _ => ?_) (fun z => absurd c4 z)
    refine mx_S.pu (pc2 := 12) (lv2 := [(0, .int a0)]) (st2 := [.int a0]) hm dX4_elementOf_11 rfl ?_
    refine sx_bi (v := 100) hm dX4_elementOf_12 (by decide) ?_
    rcases mx_if_el hf with ⟨c3, hf⟩ | ⟨c3, hf⟩
    · refine sb_ic_lt hm dX4_elementOf_14 (tgt := 31) rfl (fun _ => ?_) (fun z => absurd c3 z)
      refine sx_si (v := 305) hm dX4_elementOf_31 (by decide) ?_
      cases hf
      exact sx_ire hm dX4_elementOf_34 rfl rfl
    · refine sb_ic_lt hm dX4_elementOf_14 (tgt := 31) rfl (fun z => absurd z c3) (fun _ => ?_)
      refine mx_S.pu (pc2 := 18) (lv2 := [(0, .int a0)]) (st2 := [.int a0]) hm dX4_elementOf_17 rfl ?_
      refine sx_si (v := 200) hm dX4_elementOf_18 (by decide) ?_
      rcases mx_if_el hf with ⟨c2, hf⟩ | ⟨c2, hf⟩
      · refine sb_ic_ge hm dX4_elementOf_21 (tgt := 31) rfl (fun _ => ?_) (fun z => absurd c2 z)
        refine sx_si (v := 305) hm dX4_elementOf_31 (by decide) ?_
        cases hf
        exact sx_ire hm dX4_elementOf_34 rfl rfl
      · refine sb_ic_ge hm dX4_elementOf_21 (tgt := 31) rfl (fun z => absurd z c2) (fun _ => ?_)
        refine mx_S.pu (pc2 := 25) (lv2 := [(0, .int a0)]) (st2 := [.int a0]) hm dX4_elementOf_24 rfl ?_
        refine sx_bi (v := 100) hm dX4_elementOf_25 (by decide) ?_
        replace hf := xl_el hf; obtain ⟨v1, e_v1, hf⟩ := hf
        refine mx_S.pu (pc2 := 28) (lv2 := [(0, .int a0)]) (st2 := [.int v1]) hm dX4_elementOf_27 (by rw [← e_v1]; rfl) ?_
        clear e_v1
        refine mx_S.pu (pc2 := 34) (lv2 := [(0, .int a0)]) (st2 := [.int v1]) hm dX4_elementOf_28 rfl ?_
        cases hf
        exact sx_ire hm dX4_elementOf_34 rfl rfl
  · refine sb_ic_ne hm dX4_elementOf_4 (tgt := 11) rfl (fun z => absurd z c4) (fun _ => ?_)
    refine sx_si (v := 301) hm dX4_elementOf_7 (by decide) ?_
    cases hf
    exact sx_ire hm dX4_elementOf_10 rfl rfl
