set_option maxHeartbeats 4000000 in
set_option maxRecDepth 20000 in
theorem f_X10_readConstant_ok (X : Nat × (Nat → Int32)) {F L : Nat} (hF : 4 ≤ F) (hL : 123 ≤ L) (nn : Nat) (a0 : Nat) (h : mx_H) {r : mx_H} (hf : f_X10_readConstant nn a0 h = some r) : mx_R X F L 294 [.ref a0] h (none, r, 0, 0) := by
  have hm : mx_mt 294 = some (yX10_readConstant, cX10_readConstant, 2, none) := mt_X10_readConstant
  show mx_S X F L 294 0 [(0, .ref a0)] [] h 0 0 (none, r, 0, 0)
  unfold f_X10_readConstant at hf
  refine mx_S.pu (pc2 := 1) (lv2 := [(0, .ref a0)]) (st2 := [.ref a0]) hm dX10_readConstant_0 rfl ?_
  replace hf := mx_sv_el hf; obtain ⟨v1, e_v1, hf⟩ := hf
  refine sx_get hm dX10_readConstant_1 rs_RX10_31 (xgr_el e_v1) ?_
  clear e_v1
  replace hf := mx_sv_el hf; obtain ⟨v2, e_v2, hf⟩ := hf
  refine sx_get hm dX10_readConstant_4 rs_RX10_72 (xgi_el e_v2) ?_
  clear e_v2
  refine mx_S.pu (pc2 := 8) (lv2 := [(1, .int v2), (0, .ref a0)]) (st2 := []) hm dX10_readConstant_7 rfl ?_
  refine mx_S.pu (pc2 := 9) (lv2 := [(1, .int v2), (0, .ref a0)]) (st2 := [.ref a0]) hm dX10_readConstant_8 rfl ?_
  replace hf := mx_sv_el hf; obtain ⟨v3, e_v3, hf⟩ := hf
  refine sx_get hm dX10_readConstant_9 rs_RX10_31 (xgr_el e_v3) ?_
  clear e_v3
  refine mx_S.pu (pc2 := 13) (lv2 := [(1, .int v2), (0, .ref a0)]) (st2 := [.ref v3, .ref v3]) hm dX10_readConstant_12 rfl ?_
  replace hf := mx_sv_el hf; obtain ⟨v4, e_v4, hf⟩ := hf
  refine sx_get hm dX10_readConstant_13 rs_RX10_72 (xgi_el e_v4) ?_
  clear e_v4
  refine sx_ic (v := 1) hm dX10_readConstant_16 (by decide) ?_
  replace hf := xl_el hf; obtain ⟨v5, e_v5, hf⟩ := hf
  refine mx_S.pu (pc2 := 18) (lv2 := [(1, .int v2), (0, .ref a0)]) (st2 := [.int v5, .ref v3]) hm dX10_readConstant_17 (by rw [← e_v5]; rfl) ?_
  clear e_v5
  replace hf := mx_sv_el hf; obtain ⟨h6, e_h6, hf⟩ := hf
  refine sx_put hm dX10_readConstant_18 rs_RX10_72 ft_9_10 ⟨rfl, rfl⟩ (fun z => by cases z) e_h6 ?_
  clear e_h6
  refine mx_S.pu (pc2 := 22) (lv2 := [(1, .int v2), (0, .ref a0)]) (st2 := [.ref a0]) hm dX10_readConstant_21 rfl ?_
  replace hf := mx_sv_el hf; obtain ⟨v7, e_v7, hf⟩ := hf
  refine sx_get hm dX10_readConstant_22 rs_RX10_31 (xgr_el e_v7) ?_
  clear e_v7
  refine mx_S.pu (pc2 := 26) (lv2 := [(1, .int v2), (0, .ref a0)]) (st2 := [.int v2, .ref v7]) hm dX10_readConstant_25 rfl ?_
  replace hf := mx_gd_el hf; obtain ⟨c8, hf⟩ := hf
  replace hf := mx_sv_el hf; obtain ⟨u9, e_u9, hf⟩ := hf
  refine sx_cv hm dX10_readConstant_26 rs_RX10_224 mt_X9_kindAt [.int v2] [] (b := v7) (ci := 9) rfl rfl rfl c8 (Nat.le_of_ble_eq_true rfl) (Nat.le_of_ble_eq_true rfl) (by omega) (by omega) (f_X9_kindAt_ok X (by omega) (by omega) nn v7 v2 h6 e_u9) ?_
  clear e_u9
  show mx_S X F L 294 29 [(1, .int v2), (0, .ref a0)] [.int u9.1] u9.2 0 0 (none, r, 0, 0)
  rcases mx_if_el hf with ⟨n_0, hf⟩ | ⟨n_0, hf⟩
  · refine sx_look hm dX10_readConstant_29 rfl (off := 43) (by rw [n_0]; rfl) (tgt := 72) rfl ?_
    clear n_0
    refine mx_S.pu (pc2 := 73) (lv2 := [(1, .int v2), (0, .ref a0)]) (st2 := [.ref a0]) hm dX10_readConstant_72 rfl ?_
    refine mx_S.pu (pc2 := 74) (lv2 := [(1, .int v2), (0, .ref a0)]) (st2 := [.ref a0, .ref a0]) hm dX10_readConstant_73 rfl ?_
    replace hf := mx_sv_el hf; obtain ⟨v12, e_v12, hf⟩ := hf
    refine sx_get hm dX10_readConstant_74 rs_RX10_31 (xgr_el e_v12) ?_
    clear e_v12
    refine mx_S.pu (pc2 := 78) (lv2 := [(1, .int v2), (0, .ref a0)]) (st2 := [.int v2, .ref v12, .ref a0]) hm dX10_readConstant_77 rfl ?_
    replace hf := mx_gd_el hf; obtain ⟨c13, hf⟩ := hf
    replace hf := mx_sv_el hf; obtain ⟨u14, e_u14, hf⟩ := hf
    refine sx_cv hm dX10_readConstant_78 rs_RX10_227 mt_X9_valueAt [.int v2] [.ref a0] (b := v12) (ci := 9) rfl rfl rfl c13 (Nat.le_of_ble_eq_true rfl) (Nat.le_of_ble_eq_true rfl) (by omega) (by omega) (f_X9_valueAt_ok X (by omega) (by omega) nn v12 v2 u9.2 e_u14) ?_
    clear e_u14
    show mx_S X F L 294 81 [(1, .int v2), (0, .ref a0)] [.int u14.1, .ref a0] u14.2 0 0 (none, r, 0, 0)
    replace hf := mx_gd_el hf; obtain ⟨c15, hf⟩ := hf
    replace hf := mx_sv_el hf; obtain ⟨u16, e_u16, hf⟩ := hf
    refine sx_cv hm dX10_readConstant_81 rs_RX10_230 mt_X10_readNumber [.int u14.1] [] (b := a0) (ci := 10) rfl rfl rfl c15 (Nat.le_of_ble_eq_true rfl) (Nat.le_of_ble_eq_true rfl) (by omega) (by omega) (f_X10_readNumber_ok X (by omega) (by omega) nn a0 u14.1 u14.2 e_u16) ?_
    clear e_u16
    show mx_S X F L 294 84 [(1, .int v2), (0, .ref a0)] [] u16 0 0 (none, r, 0, 0)
    refine mx_S.pu (pc2 := 146) (lv2 := [(1, .int v2), (0, .ref a0)]) (st2 := []) hm dX10_readConstant_84 rfl ?_
    cases hf
    exact sx_ret hm dX10_readConstant_146 rfl
  · rcases mx_if_el hf with ⟨n_1, hf⟩ | ⟨n_1, hf⟩
    · refine sx_look hm dX10_readConstant_29 rfl (off := 76) (by rw [n_1]; rfl) (tgt := 105) rfl ?_
      clear n_0 n_1
      refine mx_S.pu (pc2 := 106) (lv2 := [(1, .int v2), (0, .ref a0)]) (st2 := [.ref a0]) hm dX10_readConstant_105 rfl ?_
      replace hf := mx_sv_el hf; obtain ⟨v17, e_v17, hf⟩ := hf
      refine sx_get hm dX10_readConstant_106 rs_RX10_46 (xgr_el e_v17) ?_
      clear e_v17
      refine sx_ic (v := 3) hm dX10_readConstant_109 (by decide) ?_
      replace hf := mx_gd_el hf; obtain ⟨c18, hf⟩ := hf
      replace hf := mx_sv_el hf; obtain ⟨u19, e_u19, hf⟩ := hf
      refine sx_cv hm dX10_readConstant_110 rs_RX10_162 mt_X1_op [.int 3] [] (b := v17) (ci := 1) rfl rfl rfl c18 (Nat.le_of_ble_eq_true rfl) (Nat.le_of_ble_eq_true rfl) (by omega) (by omega) (f_X1_op_ok X (by omega) (by omega) nn v17 3 u9.2 e_u19) ?_
      clear e_u19
      show mx_S X F L 294 113 [(1, .int v2), (0, .ref a0)] [] u19 0 0 (none, r, 0, 0)
      refine mx_S.pu (pc2 := 114) (lv2 := [(1, .int v2), (0, .ref a0)]) (st2 := [.ref a0]) hm dX10_readConstant_113 rfl ?_
      refine sx_si (v := 302) hm dX10_readConstant_114 (by decide) ?_
      replace hf := mx_gd_el hf; obtain ⟨c20, hf⟩ := hf
      replace hf := mx_sv_el hf; obtain ⟨u21, e_u21, hf⟩ := hf
      refine sx_cv hm dX10_readConstant_117 rs_RX10_233 mt_X10_give [.int 302] [] (b := a0) (ci := 10) rfl rfl rfl c20 (Nat.le_of_ble_eq_true rfl) (Nat.le_of_ble_eq_true rfl) (by omega) (by omega) (f_X10_give_ok X (by omega) (by omega) nn a0 302 u19 e_u21) ?_
      clear e_u21
      show mx_S X F L 294 120 [(1, .int v2), (0, .ref a0)] [] u21 0 0 (none, r, 0, 0)
      refine mx_S.pu (pc2 := 146) (lv2 := [(1, .int v2), (0, .ref a0)]) (st2 := []) hm dX10_readConstant_120 rfl ?_
      cases hf
      exact sx_ret hm dX10_readConstant_146 rfl
    · rcases mx_if_el hf with ⟨n_2, hf⟩ | ⟨n_2, hf⟩
      · refine sx_look hm dX10_readConstant_29 rfl (off := 94) (by rw [n_2]; rfl) (tgt := 123) rfl ?_
        clear n_0 n_1 n_2
        refine mx_S.pu (pc2 := 124) (lv2 := [(1, .int v2), (0, .ref a0)]) (st2 := [.ref a0]) hm dX10_readConstant_123 rfl ?_
        replace hf := mx_sv_el hf; obtain ⟨v22, e_v22, hf⟩ := hf
        refine sx_get hm dX10_readConstant_124 rs_RX10_46 (xgr_el e_v22) ?_
        clear e_v22
        refine sx_ic (v := 1) hm dX10_readConstant_127 (by decide) ?_
        replace hf := mx_gd_el hf; obtain ⟨c23, hf⟩ := hf
        replace hf := mx_sv_el hf; obtain ⟨u24, e_u24, hf⟩ := hf
        refine sx_cv hm dX10_readConstant_128 rs_RX10_162 mt_X1_op [.int 1] [] (b := v22) (ci := 1) rfl rfl rfl c23 (Nat.le_of_ble_eq_true rfl) (Nat.le_of_ble_eq_true rfl) (by omega) (by omega) (f_X1_op_ok X (by omega) (by omega) nn v22 1 u9.2 e_u24) ?_
        clear e_u24
        show mx_S X F L 294 131 [(1, .int v2), (0, .ref a0)] [] u24 0 0 (none, r, 0, 0)
        refine mx_S.pu (pc2 := 132) (lv2 := [(1, .int v2), (0, .ref a0)]) (st2 := [.ref a0]) hm dX10_readConstant_131 rfl ?_
        refine sx_si (v := 300) hm dX10_readConstant_132 (by decide) ?_
        replace hf := mx_gd_el hf; obtain ⟨c25, hf⟩ := hf
        replace hf := mx_sv_el hf; obtain ⟨u26, e_u26, hf⟩ := hf
        refine sx_cv hm dX10_readConstant_135 rs_RX10_233 mt_X10_give [.int 300] [] (b := a0) (ci := 10) rfl rfl rfl c25 (Nat.le_of_ble_eq_true rfl) (Nat.le_of_ble_eq_true rfl) (by omega) (by omega) (f_X10_give_ok X (by omega) (by omega) nn a0 300 u24 e_u26) ?_
        clear e_u26
        show mx_S X F L 294 138 [(1, .int v2), (0, .ref a0)] [] u26 0 0 (none, r, 0, 0)
        refine mx_S.pu (pc2 := 146) (lv2 := [(1, .int v2), (0, .ref a0)]) (st2 := []) hm dX10_readConstant_138 rfl ?_
        cases hf
        exact sx_ret hm dX10_readConstant_146 rfl
      · rcases mx_if_el hf with ⟨n_3, hf⟩ | ⟨n_3, hf⟩
        · refine sx_look hm dX10_readConstant_29 rfl (off := 58) (by rw [n_3]; rfl) (tgt := 87) rfl ?_
          clear n_0 n_1 n_2 n_3
          refine mx_S.pu (pc2 := 88) (lv2 := [(1, .int v2), (0, .ref a0)]) (st2 := [.ref a0]) hm dX10_readConstant_87 rfl ?_
          replace hf := mx_sv_el hf; obtain ⟨v27, e_v27, hf⟩ := hf
          refine sx_get hm dX10_readConstant_88 rs_RX10_46 (xgr_el e_v27) ?_
          clear e_v27
          refine sx_ic (v := 4) hm dX10_readConstant_91 (by decide) ?_
          replace hf := mx_gd_el hf; obtain ⟨c28, hf⟩ := hf
          replace hf := mx_sv_el hf; obtain ⟨u29, e_u29, hf⟩ := hf
          refine sx_cv hm dX10_readConstant_92 rs_RX10_162 mt_X1_op [.int 4] [] (b := v27) (ci := 1) rfl rfl rfl c28 (Nat.le_of_ble_eq_true rfl) (Nat.le_of_ble_eq_true rfl) (by omega) (by omega) (f_X1_op_ok X (by omega) (by omega) nn v27 4 u9.2 e_u29) ?_
          clear e_u29
          show mx_S X F L 294 95 [(1, .int v2), (0, .ref a0)] [] u29 0 0 (none, r, 0, 0)
          refine mx_S.pu (pc2 := 96) (lv2 := [(1, .int v2), (0, .ref a0)]) (st2 := [.ref a0]) hm dX10_readConstant_95 rfl ?_
          refine sx_si (v := 302) hm dX10_readConstant_96 (by decide) ?_
          replace hf := mx_gd_el hf; obtain ⟨c30, hf⟩ := hf
          replace hf := mx_sv_el hf; obtain ⟨u31, e_u31, hf⟩ := hf
          refine sx_cv hm dX10_readConstant_99 rs_RX10_233 mt_X10_give [.int 302] [] (b := a0) (ci := 10) rfl rfl rfl c30 (Nat.le_of_ble_eq_true rfl) (Nat.le_of_ble_eq_true rfl) (by omega) (by omega) (f_X10_give_ok X (by omega) (by omega) nn a0 302 u29 e_u31) ?_
          clear e_u31
          show mx_S X F L 294 102 [(1, .int v2), (0, .ref a0)] [] u31 0 0 (none, r, 0, 0)
          refine mx_S.pu (pc2 := 146) (lv2 := [(1, .int v2), (0, .ref a0)]) (st2 := []) hm dX10_readConstant_102 rfl ?_
          cases hf
          exact sx_ret hm dX10_readConstant_146 rfl
        · refine sx_look hm dX10_readConstant_29 rfl (off := 112) (by show Op.lookupswitch.offset [(3, 43), (17, 76), (22, 94), (28, 58)] 112 u9.1.toInt = _; rw [lv_osw n_0 (by decide), lv_osw n_1 (by decide), lv_osw n_2 (by decide), lv_osw n_3 (by decide)]; rfl) (tgt := 141) rfl ?_
          refine mx_S.pu (pc2 := 142) (lv2 := [(1, .int v2), (0, .ref a0)]) (st2 := [.ref a0]) hm dX10_readConstant_141 rfl ?_
          refine mx_S.pu (pc2 := 143) (lv2 := [(1, .int v2), (0, .ref a0)]) (st2 := [.int v2, .ref a0]) hm dX10_readConstant_142 rfl ?_
          replace hf := mx_gd_el hf; obtain ⟨c10, hf⟩ := hf
          replace hf := mx_sv_el hf; obtain ⟨u11, e_u11, hf⟩ := hf
          refine sx_cv hm dX10_readConstant_143 rs_RX10_236 mt_X10_giveThis [.int v2] [] (b := a0) (ci := 10) rfl rfl rfl c10 (Nat.le_of_ble_eq_true rfl) (Nat.le_of_ble_eq_true rfl) (by omega) (by omega) (f_X10_giveThis_ok X (by omega) (by omega) nn a0 v2 u9.2 e_u11) ?_
          clear e_u11
          show mx_S X F L 294 146 [(1, .int v2), (0, .ref a0)] [] u11 0 0 (none, r, 0, 0)
          cases hf
          exact sx_ret hm dX10_readConstant_146 rfl
set_option maxHeartbeats 4000000 in
set_option maxRecDepth 20000 in
theorem f_X4_elementOf_ok (X : Nat × (Nat → Int32)) {F L : Nat} (hF : 0 ≤ F) (hL : 0 ≤ L) (nn : Nat) (a0 : Int32) (h : mx_H) {r : (Int32 × mx_H)} (hf : f_X4_elementOf nn a0 h = some r) : mx_R X F L 138 [.int a0] h (some (.int r.1), r.2, 0, 0) := by
  have hm : mx_mt 138 = some (yX4_elementOf, cX4_elementOf, 1, (some .int)) := mt_X4_elementOf
  show mx_S X F L 138 0 [(0, .int a0)] [] h 0 0 (some (.int r.1), r.2, 0, 0)
  unfold f_X4_elementOf at hf
  refine mx_S.pu (pc2 := 1) (lv2 := [(0, .int a0)]) (st2 := [.int a0]) hm dX4_elementOf_0 rfl ?_
  refine sx_si (v := 200) hm dX4_elementOf_1 (by decide) ?_
  rcases mx_if_el hf with ⟨c4, hf⟩ | ⟨c4, hf⟩
  · refine sb_ic_ne hm dX4_elementOf_4 (tgt := 11) rfl (fun _ => ?_) (fun z => absurd c4 z)
    refine mx_S.pu (pc2 := 12) (lv2 := [(0, .int a0)]) (st2 := [.int a0]) hm dX4_elementOf_11 rfl ?_
    refine sx_bi (v := 100) hm dX4_elementOf_12 (by decide) ?_
    rcases mx_if_el hf with ⟨c3, hf⟩ | ⟨c3, hf⟩
    · refine sb_ic_lt hm dX4_elementOf_14 (tgt := 31) rfl (fun _ => ?_) (fun z => absurd c3 z)
      refine sx_si (v := 305) hm dX4_elementOf_31 (by decide) ?_
      cases hf
      exact sx_ire hm dX4_elementOf_34 rfl rfl
    · refine sb_ic_lt hm dX4_elementOf_14 (tgt := 31) rfl (fun z => absurd z c3) (fun _ => ?_)
      refine mx_S.pu (pc2 := 18) (lv2 := [(0, .int a0)]) (st2 := [.int a0]) hm dX4_elementOf_17 rfl ?_
      refine sx_si (v := 200) hm dX4_elementOf_18 (by decide) ?_
      rcases mx_if_el hf with ⟨c2, hf⟩ | ⟨c2, hf⟩
      · refine sb_ic_ge hm dX4_elementOf_21 (tgt := 31) rfl (fun _ => ?_) (fun z => absurd c2 z)
        refine sx_si (v := 305) hm dX4_elementOf_31 (by decide) ?_
        cases hf
        exact sx_ire hm dX4_elementOf_34 rfl rfl
      · refine sb_ic_ge hm dX4_elementOf_21 (tgt := 31) rfl (fun z => absurd z c2) (fun _ => ?_)
        refine mx_S.pu (pc2 := 25) (lv2 := [(0, .int a0)]) (st2 := [.int a0]) hm dX4_elementOf_24 rfl ?_
        refine sx_bi (v := 100) hm dX4_elementOf_25 (by decide) ?_
        replace hf := xl_el hf; obtain ⟨v1, e_v1, hf⟩ := hf
        refine mx_S.pu (pc2 := 28) (lv2 := [(0, .int a0)]) (st2 := [.int v1]) hm dX4_elementOf_27 (by rw [← e_v1]; rfl) ?_
        clear e_v1
        refine mx_S.pu (pc2 := 34) (lv2 := [(0, .int a0)]) (st2 := [.int v1]) hm dX4_elementOf_28 rfl ?_
        cases hf
        exact sx_ire hm dX4_elementOf_34 rfl rfl
  · refine sb_ic_ne hm dX4_elementOf_4 (tgt := 11) rfl (fun z => absurd z c4) (fun _ => ?_)
    refine sx_si (v := 301) hm dX4_elementOf_7 (by decide) ?_
    cases hf
    exact sx_ire hm dX4_elementOf_10 rfl rfl
set_option maxHeartbeats 4000000 in
set_option maxRecDepth 20000 in
theorem f_X10_isCallBehindPoint_ok (X : Nat × (Nat → Int32)) {F L : Nat} (hF : 1 ≤ F) (hL : 21 ≤ L) (nn : Nat) (a0 : Nat) (a1 : Int32) (h : mx_H) {r : (Int32 × mx_H)} (hf : f_X10_isCallBehindPoint nn a0 a1 h = some r) : mx_R X F L 301 [.ref a0, .int a1] h (some (.int r.1), r.2, 0, 0) := by
  have hm : mx_mt 301 = some (yX10_isCallBehindPoint, cX10_isCallBehindPoint, 2, (some .boolean)) := mt_X10_isCallBehindPoint
  show mx_S X F L 301 0 [(0, .ref a0), (1, .int a1)] [] h 0 0 (some (.int r.1), r.2, 0, 0)
  unfold f_X10_isCallBehindPoint at hf
  refine mx_S.pu (pc2 := 1) (lv2 := [(0, .ref a0), (1, .int a1)]) (st2 := [.ref a0]) hm dX10_isCallBehindPoint_0 rfl ?_
  replace hf := mx_sv_el hf; obtain ⟨v1, e_v1, hf⟩ := hf
  refine sx_get hm dX10_isCallBehindPoint_1 rs_RX10_31 (xgr_el e_v1) ?_
  clear e_v1
  refine mx_S.pu (pc2 := 5) (lv2 := [(0, .ref a0), (1, .int a1)]) (st2 := [.int a1, .ref v1]) hm dX10_isCallBehindPoint_4 rfl ?_
  replace hf := mx_gd_el hf; obtain ⟨c2, hf⟩ := hf
  replace hf := mx_sv_el hf; obtain ⟨u3, e_u3, hf⟩ := hf
  refine sx_cv hm dX10_isCallBehindPoint_5 rs_RX10_224 mt_X9_kindAt [.int a1] [] (b := v1) (ci := 9) rfl rfl rfl c2 (Nat.le_of_ble_eq_true rfl) (Nat.le_of_ble_eq_true rfl) (by omega) (by omega) (f_X9_kindAt_ok X (by omega) (by omega) nn v1 a1 h e_u3) ?_
  clear e_u3
  show mx_S X F L 301 8 [(0, .ref a0), (1, .int a1)] [.int u3.1] u3.2 0 0 (some (.int r.1), r.2, 0, 0)
  refine sx_bi (v := 48) hm dX10_isCallBehindPoint_8 (by decide) ?_
  rcases mx_if_el hf with ⟨c14, hf⟩ | ⟨c14, hf⟩
  · refine sb_ic_ne hm dX10_isCallBehindPoint_10 (tgt := 46) rfl (fun _ => ?_) (fun z => absurd c14 z)
    refine sx_ic (v := 0) hm dX10_isCallBehindPoint_46 (by decide) ?_
    cases hf
    exact sx_ire hm dX10_isCallBehindPoint_47 rfl (by decide)
  · refine sb_ic_ne hm dX10_isCallBehindPoint_10 (tgt := 46) rfl (fun z => absurd z c14) (fun _ => ?_)
    refine mx_S.pu (pc2 := 14) (lv2 := [(0, .ref a0), (1, .int a1)]) (st2 := [.ref a0]) hm dX10_isCallBehindPoint_13 rfl ?_
    replace hf := mx_sv_el hf; obtain ⟨v4, e_v4, hf⟩ := hf
    refine sx_get hm dX10_isCallBehindPoint_14 rs_RX10_31 (xgr_el e_v4) ?_
    clear e_v4
    refine mx_S.pu (pc2 := 18) (lv2 := [(0, .ref a0), (1, .int a1)]) (st2 := [.int a1, .ref v4]) hm dX10_isCallBehindPoint_17 rfl ?_
    refine sx_ic (v := 1) hm dX10_isCallBehindPoint_18 (by decide) ?_
    replace hf := xl_el hf; obtain ⟨v5, e_v5, hf⟩ := hf
    refine mx_S.pu (pc2 := 20) (lv2 := [(0, .ref a0), (1, .int a1)]) (st2 := [.int v5, .ref v4]) hm dX10_isCallBehindPoint_19 (by rw [← e_v5]; rfl) ?_
    clear e_v5
    replace hf := mx_gd_el hf; obtain ⟨c6, hf⟩ := hf
    replace hf := mx_sv_el hf; obtain ⟨u7, e_u7, hf⟩ := hf
    refine sx_cv hm dX10_isCallBehindPoint_20 rs_RX10_224 mt_X9_kindAt [.int v5] [] (b := v4) (ci := 9) rfl rfl rfl c6 (Nat.le_of_ble_eq_true rfl) (Nat.le_of_ble_eq_true rfl) (by omega) (by omega) (f_X9_kindAt_ok X (by omega) (by omega) nn v4 v5 u3.2 e_u7) ?_
    clear e_u7
    show mx_S X F L 301 23 [(0, .ref a0), (1, .int a1)] [.int u7.1] u7.2 0 0 (some (.int r.1), r.2, 0, 0)
    refine sx_ic (v := 2) hm dX10_isCallBehindPoint_23 (by decide) ?_
    rcases mx_if_el hf with ⟨c13, hf⟩ | ⟨c13, hf⟩
    · refine sb_ic_ne hm dX10_isCallBehindPoint_24 (tgt := 46) rfl (fun _ => ?_) (fun z => absurd c13 z)
      refine sx_ic (v := 0) hm dX10_isCallBehindPoint_46 (by decide) ?_
      cases hf
      exact sx_ire hm dX10_isCallBehindPoint_47 rfl (by decide)
    · refine sb_ic_ne hm dX10_isCallBehindPoint_24 (tgt := 46) rfl (fun z => absurd z c13) (fun _ => ?_)
      refine mx_S.pu (pc2 := 28) (lv2 := [(0, .ref a0), (1, .int a1)]) (st2 := [.ref a0]) hm dX10_isCallBehindPoint_27 rfl ?_
      replace hf := mx_sv_el hf; obtain ⟨v8, e_v8, hf⟩ := hf
      refine sx_get hm dX10_isCallBehindPoint_28 rs_RX10_31 (xgr_el e_v8) ?_
      clear e_v8
      refine mx_S.pu (pc2 := 32) (lv2 := [(0, .ref a0), (1, .int a1)]) (st2 := [.int a1, .ref v8]) hm dX10_isCallBehindPoint_31 rfl ?_
      refine sx_ic (v := 2) hm dX10_isCallBehindPoint_32 (by decide) ?_
      replace hf := xl_el hf; obtain ⟨v9, e_v9, hf⟩ := hf
      refine mx_S.pu (pc2 := 34) (lv2 := [(0, .ref a0), (1, .int a1)]) (st2 := [.int v9, .ref v8]) hm dX10_isCallBehindPoint_33 (by rw [← e_v9]; rfl) ?_
      clear e_v9
      replace hf := mx_gd_el hf; obtain ⟨c10, hf⟩ := hf
      replace hf := mx_sv_el hf; obtain ⟨u11, e_u11, hf⟩ := hf
      refine sx_cv hm dX10_isCallBehindPoint_34 rs_RX10_224 mt_X9_kindAt [.int v9] [] (b := v8) (ci := 9) rfl rfl rfl c10 (Nat.le_of_ble_eq_true rfl) (Nat.le_of_ble_eq_true rfl) (by omega) (by omega) (f_X9_kindAt_ok X (by omega) (by omega) nn v8 v9 u7.2 e_u11) ?_
      clear e_u11
      show mx_S X F L 301 37 [(0, .ref a0), (1, .int a1)] [.int u11.1] u11.2 0 0 (some (.int r.1), r.2, 0, 0)
      refine sx_bi (v := 40) hm dX10_isCallBehindPoint_37 (by decide) ?_
      rcases mx_if_el hf with ⟨c12, hf⟩ | ⟨c12, hf⟩
      · refine sb_ic_ne hm dX10_isCallBehindPoint_39 (tgt := 46) rfl (fun _ => ?_) (fun z => absurd c12 z)
        refine sx_ic (v := 0) hm dX10_isCallBehindPoint_46 (by decide) ?_
        cases hf
        exact sx_ire hm dX10_isCallBehindPoint_47 rfl (by decide)
      · refine sb_ic_ne hm dX10_isCallBehindPoint_39 (tgt := 46) rfl (fun z => absurd z c12) (fun _ => ?_)
        refine sx_ic (v := 1) hm dX10_isCallBehindPoint_42 (by decide) ?_
        refine mx_S.pu (pc2 := 47) (lv2 := [(0, .ref a0), (1, .int a1)]) (st2 := [.int 1]) hm dX10_isCallBehindPoint_43 rfl ?_
        cases hf
        exact sx_ire hm dX10_isCallBehindPoint_47 rfl (by decide)
set_option maxHeartbeats 4000000 in
set_option maxRecDepth 20000 in
theorem f_X10_methodNamed_ok (X : Nat × (Nat → Int32)) {F L : Nat} (hF : 3 ≤ F) (hL : 69 ≤ L) (nn : Nat) (a0 : Nat) (a1 : Int32) (a2 : Int32) (h : mx_H) {r : (Int32 × mx_H)} (hf : f_X10_methodNamed nn a0 a1 a2 h = some r) : mx_R X F L 300 [.ref a0, .int a1, .int a2] h (some (.int r.1), r.2, 0, 0) := by
  have hm : mx_mt 300 = some (yX10_methodNamed, cX10_methodNamed, 4, (some .int)) := mt_X10_methodNamed
  show mx_S X F L 300 0 [(0, .ref a0), (1, .int a1), (2, .int a2)] [] h 0 0 (some (.int r.1), r.2, 0, 0)
  unfold f_X10_methodNamed at hf
  refine mx_S.pu (pc2 := 1) (lv2 := [(0, .ref a0), (1, .int a1), (2, .int a2)]) (st2 := [.ref a0]) hm dX10_methodNamed_0 rfl ?_
  replace hf := mx_sv_el hf; obtain ⟨v1, e_v1, hf⟩ := hf
  refine sx_get hm dX10_methodNamed_1 rs_RX10_35 (xgr_el e_v1) ?_
  clear e_v1
  refine mx_S.pu (pc2 := 5) (lv2 := [(0, .ref a0), (1, .int a1), (2, .int a2)]) (st2 := [.int a1, .ref v1]) hm dX10_methodNamed_4 rfl ?_
  refine mx_S.pu (pc2 := 6) (lv2 := [(0, .ref a0), (1, .int a1), (2, .int a2)]) (st2 := [.ref a0, .int a1, .ref v1]) hm dX10_methodNamed_5 rfl ?_
  replace hf := mx_sv_el hf; obtain ⟨v2, e_v2, hf⟩ := hf
  refine sx_get hm dX10_methodNamed_6 rs_RX10_31 (xgr_el e_v2) ?_
  clear e_v2
  refine mx_S.pu (pc2 := 10) (lv2 := [(0, .ref a0), (1, .int a1), (2, .int a2)]) (st2 := [.int a2, .ref v2, .int a1, .ref v1]) hm dX10_methodNamed_9 rfl ?_
  replace hf := mx_gd_el hf; obtain ⟨c3, hf⟩ := hf
  replace hf := mx_sv_el hf; obtain ⟨u4, e_u4, hf⟩ := hf
  refine sx_cv hm dX10_methodNamed_10 rs_RX10_227 mt_X9_valueAt [.int a2] [.int a1, .ref v1] (b := v2) (ci := 9) rfl rfl rfl c3 (Nat.le_of_ble_eq_true rfl) (Nat.le_of_ble_eq_true rfl) (by omega) (by omega) (f_X9_valueAt_ok X (by omega) (by omega) nn v2 a2 h e_u4) ?_
  clear e_u4
  show mx_S X F L 300 13 [(0, .ref a0), (1, .int a1), (2, .int a2)] [.int u4.1, .int a1, .ref v1] u4.2 0 0 (some (.int r.1), r.2, 0, 0)
  replace hf := mx_gd_el hf; obtain ⟨c5, hf⟩ := hf
  replace hf := mx_sv_el hf; obtain ⟨u6, e_u6, hf⟩ := hf
  refine sx_cv hm dX10_methodNamed_13 rs_RX10_271 mt_X2_methodOf [.int a1, .int u4.1] [] (b := v1) (ci := 2) rfl rfl rfl c5 (Nat.le_of_ble_eq_true rfl) (Nat.le_of_ble_eq_true rfl) (by omega) (by omega) (f_X2_methodOf_ok X (by omega) (by omega) nn v1 a1 u4.1 u4.2 e_u6) ?_
  clear e_u6
  show mx_S X F L 300 16 [(0, .ref a0), (1, .int a1), (2, .int a2)] [.int u6.1] u6.2 0 0 (some (.int r.1), r.2, 0, 0)
  refine mx_S.pu (pc2 := 17) (lv2 := [(3, .int u6.1), (0, .ref a0), (1, .int a1), (2, .int a2)]) (st2 := []) hm dX10_methodNamed_16 rfl ?_
  refine mx_S.pu (pc2 := 18) (lv2 := [(3, .int u6.1), (0, .ref a0), (1, .int a1), (2, .int a2)]) (st2 := [.int u6.1]) hm dX10_methodNamed_17 rfl ?_
  refine sx_ic (v := (-1)) hm dX10_methodNamed_18 (by decide) ?_
  rcases mx_if_el hf with ⟨c10, hf⟩ | ⟨c10, hf⟩
  · refine sb_ic_ne hm dX10_methodNamed_19 (tgt := 31) rfl (fun _ => ?_) (fun z => absurd c10 z)
    refine mx_S.pu (pc2 := 32) (lv2 := [(3, .int u6.1), (0, .ref a0), (1, .int a1), (2, .int a2)]) (st2 := [.int u6.1]) hm dX10_methodNamed_31 rfl ?_
    cases hf
    exact sx_ire hm dX10_methodNamed_32 rfl rfl
  · refine sb_ic_ne hm dX10_methodNamed_19 (tgt := 31) rfl (fun z => absurd z c10) (fun _ => ?_)
    refine mx_S.pu (pc2 := 23) (lv2 := [(3, .int u6.1), (0, .ref a0), (1, .int a1), (2, .int a2)]) (st2 := [.ref a0]) hm dX10_methodNamed_22 rfl ?_
    replace hf := mx_sv_el hf; obtain ⟨v7, e_v7, hf⟩ := hf
    refine sx_get hm dX10_methodNamed_23 rs_RX10_31 (xgr_el e_v7) ?_
    clear e_v7
    refine sx_ic (v := 5) hm dX10_methodNamed_26 (by decide) ?_
    refine mx_S.pu (pc2 := 28) (lv2 := [(3, .int u6.1), (0, .ref a0), (1, .int a1), (2, .int a2)]) (st2 := [.int a2, .int 5, .ref v7]) hm dX10_methodNamed_27 rfl ?_
    replace hf := mx_gd_el hf; obtain ⟨c8, hf⟩ := hf
    replace hf := mx_sv_el hf; obtain ⟨u9, e_u9, hf⟩ := hf
    refine sx_cv hm dX10_methodNamed_28 rs_RX10_165 mt_X9_tell [.int 5, .int a2] [] (b := v7) (ci := 9) rfl rfl rfl c8 (Nat.le_of_ble_eq_true rfl) (Nat.le_of_ble_eq_true rfl) (by omega) (by omega) (f_X9_tell_ok X (by omega) (by omega) nn v7 5 a2 u6.2 e_u9) ?_
    clear e_u9
    show mx_S X F L 300 31 [(3, .int u6.1), (0, .ref a0), (1, .int a1), (2, .int a2)] [] u9 0 0 (some (.int r.1), r.2, 0, 0)
    refine mx_S.pu (pc2 := 32) (lv2 := [(3, .int u6.1), (0, .ref a0), (1, .int a1), (2, .int a2)]) (st2 := [.int u6.1]) hm dX10_methodNamed_31 rfl ?_
    cases hf
    exact sx_ire hm dX10_methodNamed_32 rfl rfl
set_option maxHeartbeats 4000000 in
set_option maxRecDepth 20000 in
theorem w_X1_localOf_15_ok (X : Nat × (Nat → Int32)) {F L : Nat} (hF : 1 ≤ F) (hL : 60 ≤ L) (nn : Nat) : ∀ (k : Nat) (l0 : Nat) (l1 : Int32) (l2 : Int32) (h : mx_H) (r : (Int32 × mx_H)), w_X1_localOf_15 nn k l0 l1 l2 h = some r → mx_S X F L 32 15 [(0, .ref l0), (1, .int l1), (2, .int l2)] [] h 0 0 (some (.int r.1), r.2, 0, 0) := by
  have hm : mx_mt 32 = some (yX1_localOf, cX1_localOf, 3, (some .int)) := mt_X1_localOf
  intro k
  induction k with
  | zero => intro l0 l1 l2 h r hf; cases hf
  | succ k ih =>
    intro l0 l1 l2 h r hf
    unfold w_X1_localOf_15 at hf
    refine mx_S.pu (pc2 := 16) (lv2 := [(0, .ref l0), (1, .int l1), (2, .int l2)]) (st2 := [.int l2]) hm dX1_localOf_15 rfl ?_
    rcases mx_if_el hf with ⟨c5, hf⟩ | ⟨c5, hf⟩
    · refine sb_if_lt hm dX1_localOf_16 (tgt := 37) rfl (fun _ => ?_) (fun z => absurd c5 z)
      refine sx_ic (v := (-1)) hm dX1_localOf_37 (by decide) ?_
      cases hf
      exact sx_ire hm dX1_localOf_38 rfl rfl
    · refine sb_if_lt hm dX1_localOf_16 (tgt := 37) rfl (fun z => absurd z c5) (fun _ => ?_)
      refine mx_S.pu (pc2 := 20) (lv2 := [(0, .ref l0), (1, .int l1), (2, .int l2)]) (st2 := [.ref l0]) hm dX1_localOf_19 rfl ?_
      replace hf := mx_sv_el hf; obtain ⟨v1, e_v1, hf⟩ := hf
      refine sx_get hm dX1_localOf_20 rs_RX1_21 (xgr_el e_v1) ?_
      clear e_v1
      refine mx_S.pu (pc2 := 24) (lv2 := [(0, .ref l0), (1, .int l1), (2, .int l2)]) (st2 := [.int l2, .ref v1]) hm dX1_localOf_23 rfl ?_
      replace hf := mx_sv_el hf; obtain ⟨v2, e_v2, hf⟩ := hf
      refine sx_ald hm dX1_localOf_24 e_v2 ?_
      clear e_v2
      refine mx_S.pu (pc2 := 26) (lv2 := [(0, .ref l0), (1, .int l1), (2, .int l2)]) (st2 := [.int l1, .int v2]) hm dX1_localOf_25 rfl ?_
      rcases mx_if_el hf with ⟨c4, hf⟩ | ⟨c4, hf⟩
      · refine sb_ic_ne hm dX1_localOf_26 (tgt := 31) rfl (fun _ => ?_) (fun z => absurd c4 z)
        replace hf := xl_el hf; obtain ⟨v3, e_v3, hf⟩ := hf
        refine mx_S.pu (pc2 := 34) (lv2 := [(2, .int v3), (0, .ref l0), (1, .int l1)]) (st2 := []) hm dX1_localOf_31 (by rw [← e_v3]; rfl) ?_
        clear e_v3
        refine mx_S.pu (pc2 := 15) (lv2 := [(2, .int v3), (0, .ref l0), (1, .int l1)]) (st2 := []) hm dX1_localOf_34 rfl ?_
        refine mx_S.ext [(0, .ref l0), (1, .int l1), (2, .int v3)] (mx_sub_pos [1, 2, 0] rfl (show ([2, 0, 1] : List Nat).Nodup by decide)) ?_
        exact ih l0 l1 v3 h _ hf
      · refine sb_ic_ne hm dX1_localOf_26 (tgt := 31) rfl (fun z => absurd z c4) (fun _ => ?_)
        refine mx_S.pu (pc2 := 30) (lv2 := [(0, .ref l0), (1, .int l1), (2, .int l2)]) (st2 := [.int l2]) hm dX1_localOf_29 rfl ?_
        cases hf
        exact sx_ire hm dX1_localOf_30 rfl rfl
set_option maxHeartbeats 4000000 in
set_option maxRecDepth 20000 in
theorem f_X1_localOf_ok (X : Nat × (Nat → Int32)) {F L : Nat} (hF : 1 ≤ F) (hL : 60 ≤ L) (nn : Nat) (a0 : Nat) (a1 : Int32) (h : mx_H) {r : (Int32 × mx_H)} (hf : f_X1_localOf nn a0 a1 h = some r) : mx_R X F L 32 [.ref a0, .int a1] h (some (.int r.1), r.2, 0, 0) := by
  have hm : mx_mt 32 = some (yX1_localOf, cX1_localOf, 3, (some .int)) := mt_X1_localOf
  show mx_S X F L 32 0 [(0, .ref a0), (1, .int a1)] [] h 0 0 (some (.int r.1), r.2, 0, 0)
  unfold f_X1_localOf at hf
  refine mx_S.pu (pc2 := 1) (lv2 := [(0, .ref a0), (1, .int a1)]) (st2 := [.ref a0]) hm dX1_localOf_0 rfl ?_
  replace hf := mx_sv_el hf; obtain ⟨v6, e_v6, hf⟩ := hf
  refine sx_get hm dX1_localOf_1 rs_RX1_49 (xgi_el e_v6) ?_
  clear e_v6
  refine mx_S.pu (pc2 := 5) (lv2 := [(0, .ref a0), (1, .int a1)]) (st2 := [.ref a0, .int v6]) hm dX1_localOf_4 rfl ?_
  replace hf := mx_sv_el hf; obtain ⟨v7, e_v7, hf⟩ := hf
  refine sx_get hm dX1_localOf_5 rs_RX1_21 (xgr_el e_v7) ?_
  clear e_v7
  replace hf := mx_sv_el hf; obtain ⟨v8, e_v8, hf⟩ := hf
  refine sx_len hm dX1_localOf_8 e_v8 ?_
  clear e_v8
  replace hf := xl_el hf; obtain ⟨v9, e_v9, hf⟩ := hf
  refine sx_min hm dX1_localOf_9 rs_RX1_75 (by omega) (Nat.le_trans (Nat.le_of_ble_eq_true rfl : _ ≤ 60) (by omega)) ?_
  rw [e_v9]
  clear e_v9
  refine sx_ic (v := 1) hm dX1_localOf_12 (by decide) ?_
  replace hf := xl_el hf; obtain ⟨v10, e_v10, hf⟩ := hf
  refine mx_S.pu (pc2 := 14) (lv2 := [(0, .ref a0), (1, .int a1)]) (st2 := [.int v10]) hm dX1_localOf_13 (by rw [← e_v10]; rfl) ?_
  clear e_v10
  refine mx_S.pu (pc2 := 15) (lv2 := [(2, .int v10), (0, .ref a0), (1, .int a1)]) (st2 := []) hm dX1_localOf_14 rfl ?_
  refine mx_S.ext [(0, .ref a0), (1, .int a1), (2, .int v10)] (mx_sub_pos [1, 2, 0] rfl (show ([2, 0, 1] : List Nat).Nodup by decide)) ?_
  exact w_X1_localOf_15_ok X hF hL nn nn a0 a1 v10 h _ hf
set_option maxHeartbeats 4000000 in
set_option maxRecDepth 20000 in
theorem f_X1_typeOfLocal_ok (X : Nat × (Nat → Int32)) {F L : Nat} (hF : 0 ≤ F) (hL : 0 ≤ L) (nn : Nat) (a0 : Nat) (a1 : Int32) (h : mx_H) {r : (Int32 × mx_H)} (hf : f_X1_typeOfLocal nn a0 a1 h = some r) : mx_R X F L 33 [.ref a0, .int a1] h (some (.int r.1), r.2, 0, 0) := by
  have hm : mx_mt 33 = some (yX1_typeOfLocal, cX1_typeOfLocal, 2, (some .int)) := mt_X1_typeOfLocal
  show mx_S X F L 33 0 [(0, .ref a0), (1, .int a1)] [] h 0 0 (some (.int r.1), r.2, 0, 0)
  unfold f_X1_typeOfLocal at hf
  refine mx_S.pu (pc2 := 1) (lv2 := [(0, .ref a0), (1, .int a1)]) (st2 := [.int a1]) hm dX1_typeOfLocal_0 rfl ?_
  rcases mx_if_el hf with ⟨c6, hf⟩ | ⟨c6, hf⟩
  · refine sb_if_lt hm dX1_typeOfLocal_1 (tgt := 22) rfl (fun _ => ?_) (fun z => absurd c6 z)
    refine sx_si (v := 305) hm dX1_typeOfLocal_22 (by decide) ?_
    cases hf
    exact sx_ire hm dX1_typeOfLocal_25 rfl rfl
  · refine sb_if_lt hm dX1_typeOfLocal_1 (tgt := 22) rfl (fun z => absurd z c6) (fun _ => ?_)
    refine mx_S.pu (pc2 := 5) (lv2 := [(0, .ref a0), (1, .int a1)]) (st2 := [.int a1]) hm dX1_typeOfLocal_4 rfl ?_
    refine mx_S.pu (pc2 := 6) (lv2 := [(0, .ref a0), (1, .int a1)]) (st2 := [.ref a0, .int a1]) hm dX1_typeOfLocal_5 rfl ?_
    replace hf := mx_sv_el hf; obtain ⟨v1, e_v1, hf⟩ := hf
    refine sx_get hm dX1_typeOfLocal_6 rs_RX1_24 (xgr_el e_v1) ?_
    clear e_v1
    replace hf := mx_sv_el hf; obtain ⟨v2, e_v2, hf⟩ := hf
    refine sx_len hm dX1_typeOfLocal_9 e_v2 ?_
    clear e_v2
    rcases mx_if_el hf with ⟨c5, hf⟩ | ⟨c5, hf⟩
    · refine sb_ic_ge hm dX1_typeOfLocal_10 (tgt := 22) rfl (fun _ => ?_) (fun z => absurd c5 z)
      refine sx_si (v := 305) hm dX1_typeOfLocal_22 (by decide) ?_
      cases hf
      exact sx_ire hm dX1_typeOfLocal_25 rfl rfl
    · refine sb_ic_ge hm dX1_typeOfLocal_10 (tgt := 22) rfl (fun z => absurd z c5) (fun _ => ?_)
      refine mx_S.pu (pc2 := 14) (lv2 := [(0, .ref a0), (1, .int a1)]) (st2 := [.ref a0]) hm dX1_typeOfLocal_13 rfl ?_
      replace hf := mx_sv_el hf; obtain ⟨v3, e_v3, hf⟩ := hf
      refine sx_get hm dX1_typeOfLocal_14 rs_RX1_24 (xgr_el e_v3) ?_
      clear e_v3
      refine mx_S.pu (pc2 := 18) (lv2 := [(0, .ref a0), (1, .int a1)]) (st2 := [.int a1, .ref v3]) hm dX1_typeOfLocal_17 rfl ?_
      replace hf := mx_sv_el hf; obtain ⟨v4, e_v4, hf⟩ := hf
      refine sx_ald hm dX1_typeOfLocal_18 e_v4 ?_
      clear e_v4
      refine mx_S.pu (pc2 := 25) (lv2 := [(0, .ref a0), (1, .int a1)]) (st2 := [.int v4]) hm dX1_typeOfLocal_19 rfl ?_
      cases hf
      exact sx_ire hm dX1_typeOfLocal_25 rfl rfl
set_option maxHeartbeats 4000000 in
set_option maxRecDepth 20000 in
theorem j_X9_beginsCast_140_ok (X : Nat × (Nat → Int32)) {F L : Nat} (hF : 1 ≤ F) (hL : 21 ≤ L) (nn : Nat) (h : mx_H) {r : (Int32 × mx_H)} (hf : j_X9_beginsCast_140 nn h = some r) : mx_S X F L 269 140 [] [] h 0 0 (some (.int r.1), r.2, 0, 0) := by
  have hm : mx_mt 269 = some (yX9_beginsCast, cX9_beginsCast, 1, (some .boolean)) := mt_X9_beginsCast
  unfold j_X9_beginsCast_140 at hf
  refine sx_ic (v := 1) hm dX9_beginsCast_140 (by decide) ?_
  cases hf
  exact sx_ire hm dX9_beginsCast_141 rfl (by decide)
set_option maxHeartbeats 4000000 in
set_option maxRecDepth 20000 in
theorem f_X9_beginsCast_ok (X : Nat × (Nat → Int32)) {F L : Nat} (hF : 1 ≤ F) (hL : 21 ≤ L) (nn : Nat) (a0 : Nat) (h : mx_H) {r : (Int32 × mx_H)} (hf : f_X9_beginsCast nn a0 h = some r) : mx_R X F L 269 [.ref a0] h (some (.int r.1), r.2, 0, 0) := by
  have hm : mx_mt 269 = some (yX9_beginsCast, cX9_beginsCast, 1, (some .boolean)) := mt_X9_beginsCast
  show mx_S X F L 269 0 [(0, .ref a0)] [] h 0 0 (some (.int r.1), r.2, 0, 0)
  unfold f_X9_beginsCast at hf
  refine mx_S.pu (pc2 := 1) (lv2 := [(0, .ref a0)]) (st2 := [.ref a0]) hm dX9_beginsCast_0 rfl ?_
  replace hf := mx_gd_el hf; obtain ⟨c1, hf⟩ := hf
  replace hf := mx_sv_el hf; obtain ⟨u2, e_u2, hf⟩ := hf
  refine sx_cv hm dX9_beginsCast_1 rs_RX9_150 mt_X9_kind [] [] (b := a0) (ci := 9) rfl rfl rfl c1 (Nat.le_of_ble_eq_true rfl) (Nat.le_of_ble_eq_true rfl) (by omega) (by omega) (f_X9_kind_ok X (by omega) (by omega) nn a0 h e_u2) ?_
  clear e_u2
  show mx_S X F L 269 4 [(0, .ref a0)] [.int u2.1] u2.2 0 0 (some (.int r.1), r.2, 0, 0)
  refine sx_bi (v := 40) hm dX9_beginsCast_4 (by decide) ?_
  rcases mx_if_el hf with ⟨c17, hf⟩ | ⟨c17, hf⟩
  · refine sb_ic_ne hm dX9_beginsCast_6 (tgt := 38) rfl (fun _ => ?_) (fun z => absurd c17 z)
    refine sx_ic (v := 0) hm dX9_beginsCast_38 (by decide) ?_
    cases hf
    exact sx_ire hm dX9_beginsCast_39 rfl (by decide)
  · refine sb_ic_ne hm dX9_beginsCast_6 (tgt := 38) rfl (fun z => absurd z c17) (fun _ => ?_)
    refine mx_S.pu (pc2 := 10) (lv2 := [(0, .ref a0)]) (st2 := [.ref a0]) hm dX9_beginsCast_9 rfl ?_
    refine mx_S.pu (pc2 := 11) (lv2 := [(0, .ref a0)]) (st2 := [.ref a0, .ref a0]) hm dX9_beginsCast_10 rfl ?_
    replace hf := mx_sv_el hf; obtain ⟨v3, e_v3, hf⟩ := hf
    refine sx_get hm dX9_beginsCast_11 rs_RX9_86 (xgi_el e_v3) ?_
    clear e_v3
    refine sx_ic (v := 1) hm dX9_beginsCast_14 (by decide) ?_
    replace hf := xl_el hf; obtain ⟨v4, e_v4, hf⟩ := hf
    refine mx_S.pu (pc2 := 16) (lv2 := [(0, .ref a0)]) (st2 := [.int v4, .ref a0]) hm dX9_beginsCast_15 (by rw [← e_v4]; rfl) ?_
    clear e_v4
    replace hf := mx_gd_el hf; obtain ⟨c5, hf⟩ := hf
    replace hf := mx_sv_el hf; obtain ⟨u6, e_u6, hf⟩ := hf
    refine sx_cv hm dX9_beginsCast_16 rs_RX9_153 mt_X9_kindAt [.int v4] [] (b := a0) (ci := 9) rfl rfl rfl c5 (Nat.le_of_ble_eq_true rfl) (Nat.le_of_ble_eq_true rfl) (by omega) (by omega) (f_X9_kindAt_ok X (by omega) (by omega) nn a0 v4 u2.2 e_u6) ?_
    clear e_u6
    show mx_S X F L 269 19 [(0, .ref a0)] [.int u6.1] u6.2 0 0 (some (.int r.1), r.2, 0, 0)
    refine sx_ic (v := 2) hm dX9_beginsCast_19 (by decide) ?_
    rcases mx_if_el hf with ⟨c16, hf⟩ | ⟨c16, hf⟩
    · refine sb_ic_ne hm dX9_beginsCast_20 (tgt := 38) rfl (fun _ => ?_) (fun z => absurd c16 z)
      refine sx_ic (v := 0) hm dX9_beginsCast_38 (by decide) ?_
      cases hf
      exact sx_ire hm dX9_beginsCast_39 rfl (by decide)
    · refine sb_ic_ne hm dX9_beginsCast_20 (tgt := 38) rfl (fun z => absurd z c16) (fun _ => ?_)
      refine mx_S.pu (pc2 := 24) (lv2 := [(0, .ref a0)]) (st2 := [.ref a0]) hm dX9_beginsCast_23 rfl ?_
      refine mx_S.pu (pc2 := 25) (lv2 := [(0, .ref a0)]) (st2 := [.ref a0, .ref a0]) hm dX9_beginsCast_24 rfl ?_
      replace hf := mx_sv_el hf; obtain ⟨v7, e_v7, hf⟩ := hf
      refine sx_get hm dX9_beginsCast_25 rs_RX9_86 (xgi_el e_v7) ?_
      clear e_v7
      refine sx_ic (v := 2) hm dX9_beginsCast_28 (by decide) ?_
      replace hf := xl_el hf; obtain ⟨v8, e_v8, hf⟩ := hf
      refine mx_S.pu (pc2 := 30) (lv2 := [(0, .ref a0)]) (st2 := [.int v8, .ref a0]) hm dX9_beginsCast_29 (by rw [← e_v8]; rfl) ?_
      clear e_v8
      replace hf := mx_gd_el hf; obtain ⟨c9, hf⟩ := hf
      replace hf := mx_sv_el hf; obtain ⟨u10, e_u10, hf⟩ := hf
      refine sx_cv hm dX9_beginsCast_30 rs_RX9_153 mt_X9_kindAt [.int v8] [] (b := a0) (ci := 9) rfl rfl rfl c9 (Nat.le_of_ble_eq_true rfl) (Nat.le_of_ble_eq_true rfl) (by omega) (by omega) (f_X9_kindAt_ok X (by omega) (by omega) nn a0 v8 u6.2 e_u10) ?_
      clear e_u10
      show mx_S X F L 269 33 [(0, .ref a0)] [.int u10.1] u10.2 0 0 (some (.int r.1), r.2, 0, 0)
      refine sx_bi (v := 41) hm dX9_beginsCast_33 (by decide) ?_
      rcases mx_if_el hf with ⟨c15, hf⟩ | ⟨c15, hf⟩
      · refine sb_ic_eq hm dX9_beginsCast_35 (tgt := 40) rfl (fun _ => ?_) (fun z => absurd c15 z)
        refine mx_S.pu (pc2 := 41) (lv2 := [(0, .ref a0)]) (st2 := [.ref a0]) hm dX9_beginsCast_40 rfl ?_
        refine mx_S.pu (pc2 := 42) (lv2 := [(0, .ref a0)]) (st2 := [.ref a0, .ref a0]) hm dX9_beginsCast_41 rfl ?_
        replace hf := mx_sv_el hf; obtain ⟨v11, e_v11, hf⟩ := hf
        refine sx_get hm dX9_beginsCast_42 rs_RX9_86 (xgi_el e_v11) ?_
        clear e_v11
        refine sx_ic (v := 3) hm dX9_beginsCast_45 (by decide) ?_
        replace hf := xl_el hf; obtain ⟨v12, e_v12, hf⟩ := hf
        refine mx_S.pu (pc2 := 47) (lv2 := [(0, .ref a0)]) (st2 := [.int v12, .ref a0]) hm dX9_beginsCast_46 (by rw [← e_v12]; rfl) ?_
        clear e_v12
        replace hf := mx_gd_el hf; obtain ⟨c13, hf⟩ := hf
        replace hf := mx_sv_el hf; obtain ⟨u14, e_u14, hf⟩ := hf
        refine sx_cv hm dX9_beginsCast_47 rs_RX9_153 mt_X9_kindAt [.int v12] [] (b := a0) (ci := 9) rfl rfl rfl c13 (Nat.le_of_ble_eq_true rfl) (Nat.le_of_ble_eq_true rfl) (by omega) (by omega) (f_X9_kindAt_ok X (by omega) (by omega) nn a0 v12 u10.2 e_u14) ?_
        clear e_u14
        show mx_S X F L 269 50 [(0, .ref a0)] [.int u14.1] u14.2 0 0 (some (.int r.1), r.2, 0, 0)
        rcases mx_if_el hf with ⟨n_0, hf⟩ | ⟨n_0, hf⟩
        · refine sx_look hm dX9_beginsCast_50 rfl (off := 90) (by rw [n_0]; rfl) (tgt := 140) rfl ?_
          clear n_0
          refine mx_S.ext [] (mx_sub_pos [] rfl (show ([0] : List Nat).Nodup by decide)) ?_
          exact j_X9_beginsCast_140_ok X hF hL nn u14.2 hf
        · rcases mx_if_el hf with ⟨n_1, hf⟩ | ⟨n_1, hf⟩
          · refine sx_look hm dX9_beginsCast_50 rfl (off := 90) (by rw [n_1]; rfl) (tgt := 140) rfl ?_
            clear n_0 n_1
            refine mx_S.ext [] (mx_sub_pos [] rfl (show ([0] : List Nat).Nodup by decide)) ?_
            exact j_X9_beginsCast_140_ok X hF hL nn u14.2 hf
          · rcases mx_if_el hf with ⟨n_2, hf⟩ | ⟨n_2, hf⟩
            · refine sx_look hm dX9_beginsCast_50 rfl (off := 90) (by rw [n_2]; rfl) (tgt := 140) rfl ?_
              clear n_0 n_1 n_2
              refine mx_S.ext [] (mx_sub_pos [] rfl (show ([0] : List Nat).Nodup by decide)) ?_
              exact j_X9_beginsCast_140_ok X hF hL nn u14.2 hf
            · rcases mx_if_el hf with ⟨n_3, hf⟩ | ⟨n_3, hf⟩
              · refine sx_look hm dX9_beginsCast_50 rfl (off := 90) (by rw [n_3]; rfl) (tgt := 140) rfl ?_
                clear n_0 n_1 n_2 n_3
                refine mx_S.ext [] (mx_sub_pos [] rfl (show ([0] : List Nat).Nodup by decide)) ?_
                exact j_X9_beginsCast_140_ok X hF hL nn u14.2 hf
              · rcases mx_if_el hf with ⟨n_4, hf⟩ | ⟨n_4, hf⟩
                · refine sx_look hm dX9_beginsCast_50 rfl (off := 90) (by rw [n_4]; rfl) (tgt := 140) rfl ?_
                  clear n_0 n_1 n_2 n_3 n_4
                  refine mx_S.ext [] (mx_sub_pos [] rfl (show ([0] : List Nat).Nodup by decide)) ?_
                  exact j_X9_beginsCast_140_ok X hF hL nn u14.2 hf
                · rcases mx_if_el hf with ⟨n_5, hf⟩ | ⟨n_5, hf⟩
                  · refine sx_look hm dX9_beginsCast_50 rfl (off := 90) (by rw [n_5]; rfl) (tgt := 140) rfl ?_
                    clear n_0 n_1 n_2 n_3 n_4 n_5
                    refine mx_S.ext [] (mx_sub_pos [] rfl (show ([0] : List Nat).Nodup by decide)) ?_
                    exact j_X9_beginsCast_140_ok X hF hL nn u14.2 hf
                  · rcases mx_if_el hf with ⟨n_6, hf⟩ | ⟨n_6, hf⟩
                    · refine sx_look hm dX9_beginsCast_50 rfl (off := 90) (by rw [n_6]; rfl) (tgt := 140) rfl ?_
                      clear n_0 n_1 n_2 n_3 n_4 n_5 n_6
                      refine mx_S.ext [] (mx_sub_pos [] rfl (show ([0] : List Nat).Nodup by decide)) ?_
                      exact j_X9_beginsCast_140_ok X hF hL nn u14.2 hf
                    · rcases mx_if_el hf with ⟨n_7, hf⟩ | ⟨n_7, hf⟩
                      · refine sx_look hm dX9_beginsCast_50 rfl (off := 90) (by rw [n_7]; rfl) (tgt := 140) rfl ?_
                        clear n_0 n_1 n_2 n_3 n_4 n_5 n_6 n_7
                        refine mx_S.ext [] (mx_sub_pos [] rfl (show ([0] : List Nat).Nodup by decide)) ?_
                        exact j_X9_beginsCast_140_ok X hF hL nn u14.2 hf
                      · rcases mx_if_el hf with ⟨n_8, hf⟩ | ⟨n_8, hf⟩
                        · refine sx_look hm dX9_beginsCast_50 rfl (off := 90) (by rw [n_8]; rfl) (tgt := 140) rfl ?_
                          clear n_0 n_1 n_2 n_3 n_4 n_5 n_6 n_7 n_8
                          refine mx_S.ext [] (mx_sub_pos [] rfl (show ([0] : List Nat).Nodup by decide)) ?_
                          exact j_X9_beginsCast_140_ok X hF hL nn u14.2 hf
                        · rcases mx_if_el hf with ⟨n_9, hf⟩ | ⟨n_9, hf⟩
                          · refine sx_look hm dX9_beginsCast_50 rfl (off := 90) (by rw [n_9]; rfl) (tgt := 140) rfl ?_
                            clear n_0 n_1 n_2 n_3 n_4 n_5 n_6 n_7 n_8 n_9
                            refine mx_S.ext [] (mx_sub_pos [] rfl (show ([0] : List Nat).Nodup by decide)) ?_
                            exact j_X9_beginsCast_140_ok X hF hL nn u14.2 hf
                          · refine sx_look hm dX9_beginsCast_50 rfl (off := 92) (by show Op.lookupswitch.offset [(2, 90), (3, 90), (17, 90), (21, 90), (22, 90), (26, 90), (28, 90), (40, 90), (71, 90), (72, 90)] 92 u14.1.toInt = _; rw [lv_osw n_0 (by decide), lv_osw n_1 (by decide), lv_osw n_2 (by decide), lv_osw n_3 (by decide), lv_osw n_4 (by decide), lv_osw n_5 (by decide), lv_osw n_6 (by decide), lv_osw n_7 (by decide), lv_osw n_8 (by decide), lv_osw n_9 (by decide)]; rfl) (tgt := 142) rfl ?_
                            refine sx_ic (v := 0) hm dX9_beginsCast_142 (by decide) ?_
                            cases hf
                            exact sx_ire hm dX9_beginsCast_143 rfl (by decide)
      · refine sb_ic_eq hm dX9_beginsCast_35 (tgt := 40) rfl (fun z => absurd z c15) (fun _ => ?_)
        refine sx_ic (v := 0) hm dX9_beginsCast_38 (by decide) ?_
        cases hf
        exact sx_ire hm dX9_beginsCast_39 rfl (by decide)
