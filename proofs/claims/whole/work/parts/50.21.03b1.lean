set_option maxHeartbeats 4000000 in
set_option maxRecDepth 20000 in
theorem f_X10_giveThis_ok (X : Nat × (Nat → Int32)) {F L : Nat} (hF : 3 ≤ F) (hL : 102 ≤ L) (nn : Nat) (a0 : Nat) (a1 : Int32) (h : mx_H) {r : mx_H} (hf : f_X10_giveThis nn a0 a1 h = some r) : mx_R X F L 296 [.ref a0, .int a1] h (none, r, 0, 0) := by
  have hm : mx_mt 296 = some (yX10_giveThis, cX10_giveThis, 2, none) := mt_X10_giveThis
  show mx_S X F L 296 0 [(0, .ref a0), (1, .int a1)] [] h 0 0 (none, r, 0, 0)
  unfold f_X10_giveThis at hf
  refine mx_S.pu (pc2 := 1) (lv2 := [(0, .ref a0), (1, .int a1)]) (st2 := [.ref a0]) hm dX10_giveThis_0 rfl ?_
  replace hf := mx_sv_el hf; obtain ⟨v7, e_v7, hf⟩ := hf
  refine sx_get hm dX10_giveThis_1 rs_RX10_58 (xgi_el e_v7) ?_
  clear e_v7
  rcases mx_if_el hf with ⟨c11, hf⟩ | ⟨c11, hf⟩
  · refine sb_if_eq hm dX10_giveThis_4 (tgt := 17) rfl (fun _ => ?_) (fun z => absurd c11 z)
    refine mx_S.ext [(0, .ref a0)] (mx_sub_pos [0] rfl (show ([0, 1] : List Nat).Nodup by decide)) ?_
    exact j_X10_giveThis_17_ok X hF hL nn a0 h hf
  · refine sb_if_eq hm dX10_giveThis_4 (tgt := 17) rfl (fun z => absurd z c11) (fun _ => ?_)
    refine mx_S.pu (pc2 := 8) (lv2 := [(0, .ref a0), (1, .int a1)]) (st2 := [.ref a0]) hm dX10_giveThis_7 rfl ?_
    replace hf := mx_sv_el hf; obtain ⟨v8, e_v8, hf⟩ := hf
    refine sx_get hm dX10_giveThis_8 rs_RX10_31 (xgr_el e_v8) ?_
    clear e_v8
    refine sx_bi (v := 7) hm dX10_giveThis_11 (by decide) ?_
    refine mx_S.pu (pc2 := 14) (lv2 := [(0, .ref a0), (1, .int a1)]) (st2 := [.int a1, .int 7, .ref v8]) hm dX10_giveThis_13 rfl ?_
    replace hf := mx_gd_el hf; obtain ⟨c9, hf⟩ := hf
    replace hf := mx_sv_el hf; obtain ⟨u10, e_u10, hf⟩ := hf
    refine sx_cv hm dX10_giveThis_14 rs_RX10_165 mt_X9_tell [.int 7, .int a1] [] (b := v8) (ci := 9) rfl rfl rfl c9 (Nat.le_of_ble_eq_true rfl) (Nat.le_of_ble_eq_true rfl) (by omega) (by omega) (f_X9_tell_ok X (by omega) (by omega) nn v8 7 a1 h e_u10) ?_
    clear e_u10
    show mx_S X F L 296 17 [(0, .ref a0), (1, .int a1)] [] u10 0 0 (none, r, 0, 0)
    refine mx_S.ext [(0, .ref a0)] (mx_sub_pos [0] rfl (show ([0, 1] : List Nat).Nodup by decide)) ?_
    exact j_X10_giveThis_17_ok X hF hL nn a0 u10 hf
set_option maxHeartbeats 4000000 in
set_option maxRecDepth 20000 in
theorem f_X6_numberOf_ok (X : Nat × (Nat → Int32)) {F L : Nat} (hF : 1 ≤ F) (hL : 23 ≤ L) (nn : Nat) (a0 : Nat) (a1 : Int32) (h : mx_H) {r : (Int32 × mx_H)} (hf : f_X6_numberOf nn a0 a1 h = some r) : mx_R X F L 193 [.ref a0, .int a1] h (some (.int r.1), r.2, 0, 0) := by
  have hm : mx_mt 193 = some (yX6_numberOf, cX6_numberOf, 2, (some .int)) := mt_X6_numberOf
  show mx_S X F L 193 0 [(0, .ref a0), (1, .int a1)] [] h 0 0 (some (.int r.1), r.2, 0, 0)
  unfold f_X6_numberOf at hf
  refine mx_S.pu (pc2 := 1) (lv2 := [(0, .ref a0), (1, .int a1)]) (st2 := [.ref a0]) hm dX6_numberOf_0 rfl ?_
  refine sx_ic (v := 2) hm dX6_numberOf_1 (by decide) ?_
  refine mx_S.pu (pc2 := 3) (lv2 := [(0, .ref a0), (1, .int a1)]) (st2 := [.int a1, .int 2, .ref a0]) hm dX6_numberOf_2 rfl ?_
  replace hf := mx_gd_el hf; obtain ⟨c1, hf⟩ := hf
  replace hf := mx_sv_el hf; obtain ⟨u2, e_u2, hf⟩ := hf
  refine sx_cv hm dX6_numberOf_3 rs_RX6_66 mt_X6_constant [.int 2, .int a1] [] (b := a0) (ci := 6) rfl rfl rfl c1 (Nat.le_of_ble_eq_true rfl) (Nat.le_of_ble_eq_true rfl) (by omega) (by omega) (f_X6_constant_ok X (by omega) (by omega) nn a0 2 a1 h e_u2) ?_
  clear e_u2
  show mx_S X F L 193 6 [(0, .ref a0), (1, .int a1)] [.int u2.1] u2.2 0 0 (some (.int r.1), r.2, 0, 0)
  cases hf
  exact sx_ire hm dX6_numberOf_6 rfl rfl
set_option maxHeartbeats 4000000 in
set_option maxRecDepth 20000 in
theorem j_X10_readNumber_54_ok (X : Nat × (Nat → Int32)) {F L : Nat} (hF : 3 ≤ F) (hL : 102 ≤ L) (nn : Nat) (l0 : Nat) (h : mx_H) {r : mx_H} (hf : j_X10_readNumber_54 nn l0 h = some r) : mx_S X F L 295 54 [(0, .ref l0)] [] h 0 0 (none, r, 0, 0) := by
  have hm : mx_mt 295 = some (yX10_readNumber, cX10_readNumber, 2, none) := mt_X10_readNumber
  unfold j_X10_readNumber_54 at hf
  refine mx_S.pu (pc2 := 55) (lv2 := [(0, .ref l0)]) (st2 := [.ref l0]) hm dX10_readNumber_54 rfl ?_
  refine sx_si (v := 301) hm dX10_readNumber_55 (by decide) ?_
  replace hf := mx_gd_el hf; obtain ⟨c1, hf⟩ := hf
  replace hf := mx_sv_el hf; obtain ⟨u2, e_u2, hf⟩ := hf
  refine sx_cv hm dX10_readNumber_58 rs_RX10_233 mt_X10_give [.int 301] [] (b := l0) (ci := 10) rfl rfl rfl c1 (Nat.le_of_ble_eq_true rfl) (Nat.le_of_ble_eq_true rfl) (by omega) (by omega) (f_X10_give_ok X (by omega) (by omega) nn l0 301 h e_u2) ?_
  clear e_u2
  show mx_S X F L 295 61 [(0, .ref l0)] [] u2 0 0 (none, r, 0, 0)
  cases hf
  exact sx_ret hm dX10_readNumber_61 rfl
set_option maxHeartbeats 4000000 in
set_option maxRecDepth 20000 in
theorem f_X10_readNumber_ok (X : Nat × (Nat → Int32)) {F L : Nat} (hF : 3 ≤ F) (hL : 102 ≤ L) (nn : Nat) (a0 : Nat) (a1 : Int32) (h : mx_H) {r : mx_H} (hf : f_X10_readNumber nn a0 a1 h = some r) : mx_R X F L 295 [.ref a0, .int a1] h (none, r, 0, 0) := by
  have hm : mx_mt 295 = some (yX10_readNumber, cX10_readNumber, 2, none) := mt_X10_readNumber
  show mx_S X F L 295 0 [(0, .ref a0), (1, .int a1)] [] h 0 0 (none, r, 0, 0)
  unfold f_X10_readNumber at hf
  refine mx_S.pu (pc2 := 1) (lv2 := [(0, .ref a0), (1, .int a1)]) (st2 := [.int a1]) hm dX10_readNumber_0 rfl ?_
  refine sx_ic (v := 5) hm dX10_readNumber_1 (by decide) ?_
  rcases mx_if_el hf with ⟨c17, hf⟩ | ⟨c17, hf⟩
  · refine sb_ic_gt hm dX10_readNumber_2 (tgt := 18) rfl (fun _ => ?_) (fun z => absurd c17 z)
    refine mx_S.pu (pc2 := 19) (lv2 := [(0, .ref a0), (1, .int a1)]) (st2 := [.int a1]) hm dX10_readNumber_18 rfl ?_
    refine sx_bi (v := 127) hm dX10_readNumber_19 (by decide) ?_
    rcases mx_if_el hf with ⟨c12, hf⟩ | ⟨c12, hf⟩
    · refine sb_ic_gt hm dX10_readNumber_21 (tgt := 37) rfl (fun _ => ?_) (fun z => absurd c12 z)
      refine mx_S.pu (pc2 := 38) (lv2 := [(0, .ref a0), (1, .int a1)]) (st2 := [.ref a0]) hm dX10_readNumber_37 rfl ?_
      replace hf := mx_sv_el hf; obtain ⟨v3, e_v3, hf⟩ := hf
      refine sx_get hm dX10_readNumber_38 rs_RX10_46 (xgr_el e_v3) ?_
      clear e_v3
      refine sx_bi (v := 18) hm dX10_readNumber_41 (by decide) ?_
      refine mx_S.pu (pc2 := 44) (lv2 := [(0, .ref a0), (1, .int a1)]) (st2 := [.ref a0, .int 18, .ref v3]) hm dX10_readNumber_43 rfl ?_
      replace hf := mx_sv_el hf; obtain ⟨v4, e_v4, hf⟩ := hf
      refine sx_get hm dX10_readNumber_44 rs_RX10_50 (xgr_el e_v4) ?_
      clear e_v4
      refine mx_S.pu (pc2 := 48) (lv2 := [(0, .ref a0), (1, .int a1)]) (st2 := [.int a1, .ref v4, .int 18, .ref v3]) hm dX10_readNumber_47 rfl ?_
      replace hf := mx_gd_el hf; obtain ⟨c5, hf⟩ := hf
      replace hf := mx_sv_el hf; obtain ⟨u6, e_u6, hf⟩ := hf
      refine sx_cv hm dX10_readNumber_48 rs_RX10_239 mt_X6_numberOf [.int a1] [.int 18, .ref v3] (b := v4) (ci := 6) rfl rfl rfl c5 (Nat.le_of_ble_eq_true rfl) (Nat.le_of_ble_eq_true rfl) (by omega) (by omega) (f_X6_numberOf_ok X (by omega) (by omega) nn v4 a1 h e_u6) ?_
      clear e_u6
      show mx_S X F L 295 51 [(0, .ref a0), (1, .int a1)] [.int u6.1, .int 18, .ref v3] u6.2 0 0 (none, r, 0, 0)
      replace hf := mx_gd_el hf; obtain ⟨c7, hf⟩ := hf
      replace hf := mx_sv_el hf; obtain ⟨u8, e_u8, hf⟩ := hf
      refine sx_cv hm dX10_readNumber_51 rs_RX10_179 mt_X1_op_ [.int 18, .int u6.1] [] (b := v3) (ci := 1) rfl rfl rfl c7 (Nat.le_of_ble_eq_true rfl) (Nat.le_of_ble_eq_true rfl) (by omega) (by omega) (f_X1_op__ok X (by omega) (by omega) nn v3 18 u6.1 u6.2 e_u8) ?_
      clear e_u8
      show mx_S X F L 295 54 [(0, .ref a0), (1, .int a1)] [] u8 0 0 (none, r, 0, 0)
      refine mx_S.ext [(0, .ref a0)] (mx_sub_pos [0] rfl (show ([0, 1] : List Nat).Nodup by decide)) ?_
      exact j_X10_readNumber_54_ok X hF hL nn a0 u8 hf
    · refine sb_ic_gt hm dX10_readNumber_21 (tgt := 37) rfl (fun z => absurd z c12) (fun _ => ?_)
      refine mx_S.pu (pc2 := 25) (lv2 := [(0, .ref a0), (1, .int a1)]) (st2 := [.ref a0]) hm dX10_readNumber_24 rfl ?_
      replace hf := mx_sv_el hf; obtain ⟨v9, e_v9, hf⟩ := hf
      refine sx_get hm dX10_readNumber_25 rs_RX10_46 (xgr_el e_v9) ?_
      clear e_v9
      refine sx_bi (v := 16) hm dX10_readNumber_28 (by decide) ?_
      refine mx_S.pu (pc2 := 31) (lv2 := [(0, .ref a0), (1, .int a1)]) (st2 := [.int a1, .int 16, .ref v9]) hm dX10_readNumber_30 rfl ?_
      replace hf := mx_gd_el hf; obtain ⟨c10, hf⟩ := hf
      replace hf := mx_sv_el hf; obtain ⟨u11, e_u11, hf⟩ := hf
      refine sx_cv hm dX10_readNumber_31 rs_RX10_179 mt_X1_op_ [.int 16, .int a1] [] (b := v9) (ci := 1) rfl rfl rfl c10 (Nat.le_of_ble_eq_true rfl) (Nat.le_of_ble_eq_true rfl) (by omega) (by omega) (f_X1_op__ok X (by omega) (by omega) nn v9 16 a1 h e_u11) ?_
      clear e_u11
      show mx_S X F L 295 34 [(0, .ref a0), (1, .int a1)] [] u11 0 0 (none, r, 0, 0)
      refine mx_S.pu (pc2 := 54) (lv2 := [(0, .ref a0), (1, .int a1)]) (st2 := []) hm dX10_readNumber_34 rfl ?_
      refine mx_S.ext [(0, .ref a0)] (mx_sub_pos [0] rfl (show ([0, 1] : List Nat).Nodup by decide)) ?_
      exact j_X10_readNumber_54_ok X hF hL nn a0 u11 hf
  · refine sb_ic_gt hm dX10_readNumber_2 (tgt := 18) rfl (fun z => absurd z c17) (fun _ => ?_)
    refine mx_S.pu (pc2 := 6) (lv2 := [(0, .ref a0), (1, .int a1)]) (st2 := [.ref a0]) hm dX10_readNumber_5 rfl ?_
    replace hf := mx_sv_el hf; obtain ⟨v13, e_v13, hf⟩ := hf
    refine sx_get hm dX10_readNumber_6 rs_RX10_46 (xgr_el e_v13) ?_
    clear e_v13
    refine sx_ic (v := 3) hm dX10_readNumber_9 (by decide) ?_
    refine mx_S.pu (pc2 := 11) (lv2 := [(0, .ref a0), (1, .int a1)]) (st2 := [.int a1, .int 3, .ref v13]) hm dX10_readNumber_10 rfl ?_
    replace hf := xl_el hf; obtain ⟨v14, e_v14, hf⟩ := hf
    refine mx_S.pu (pc2 := 12) (lv2 := [(0, .ref a0), (1, .int a1)]) (st2 := [.int v14, .ref v13]) hm dX10_readNumber_11 (by rw [← e_v14]; rfl) ?_
    clear e_v14
    replace hf := mx_gd_el hf; obtain ⟨c15, hf⟩ := hf
    replace hf := mx_sv_el hf; obtain ⟨u16, e_u16, hf⟩ := hf
    refine sx_cv hm dX10_readNumber_12 rs_RX10_162 mt_X1_op [.int v14] [] (b := v13) (ci := 1) rfl rfl rfl c15 (Nat.le_of_ble_eq_true rfl) (Nat.le_of_ble_eq_true rfl) (by omega) (by omega) (f_X1_op_ok X (by omega) (by omega) nn v13 v14 h e_u16) ?_
    clear e_u16
    show mx_S X F L 295 15 [(0, .ref a0), (1, .int a1)] [] u16 0 0 (none, r, 0, 0)
    refine mx_S.pu (pc2 := 54) (lv2 := [(0, .ref a0), (1, .int a1)]) (st2 := []) hm dX10_readNumber_15 rfl ?_
    refine mx_S.ext [(0, .ref a0)] (mx_sub_pos [0] rfl (show ([0, 1] : List Nat).Nodup by decide)) ?_
    exact j_X10_readNumber_54_ok X hF hL nn a0 u16 hf
