set_option maxHeartbeats 4000000 in
set_option maxRecDepth 20000 in
theorem f_X4_oneFits_ok (X : Nat × (Nat → Int32)) {F L : Nat} (hF : 1 ≤ F) (hL : 23 ≤ L) (nn : Nat) (a0 : Nat) (a1 : Int32) (a2 : Int32) (h : mx_H) {r : (Int32 × mx_H)} (hf : f_X4_oneFits nn a0 a1 a2 h = some r) : mx_R X F L 140 [.ref a0, .int a1, .int a2] h (some (.int r.1), r.2, 0, 0) := by
  have hm : mx_mt 140 = some (yX4_oneFits, cX4_oneFits, 3, (some .boolean)) := mt_X4_oneFits
  show mx_S X F L 140 0 [(0, .ref a0), (1, .int a1), (2, .int a2)] [] h 0 0 (some (.int r.1), r.2, 0, 0)
  unfold f_X4_oneFits at hf
  refine mx_S.pu (pc2 := 1) (lv2 := [(0, .ref a0), (1, .int a1), (2, .int a2)]) (st2 := [.ref a0]) hm dX4_oneFits_0 rfl ?_
  refine mx_S.pu (pc2 := 2) (lv2 := [(0, .ref a0), (1, .int a1), (2, .int a2)]) (st2 := [.int a1, .ref a0]) hm dX4_oneFits_1 rfl ?_
  refine mx_S.pu (pc2 := 3) (lv2 := [(0, .ref a0), (1, .int a1), (2, .int a2)]) (st2 := [.int a2, .int a1, .ref a0]) hm dX4_oneFits_2 rfl ?_
  replace hf := mx_gd_el hf; obtain ⟨c1, hf⟩ := hf
  replace hf := mx_sv_el hf; obtain ⟨u2, e_u2, hf⟩ := hf
  refine sx_cv hm dX4_oneFits_3 rs_RX4_35 mt_X4_fits [.int a1, .int a2] [] (b := a0) (ci := 4) rfl rfl rfl c1 (Nat.le_of_ble_eq_true rfl) (Nat.le_of_ble_eq_true rfl) (by omega) (by omega) (f_X4_fits_ok X (by omega) (by omega) nn a0 a1 a2 h e_u2) ?_
  clear e_u2
  show mx_S X F L 140 6 [(0, .ref a0), (1, .int a1), (2, .int a2)] [.int u2.1] u2.2 0 0 (some (.int r.1), r.2, 0, 0)
  rcases mx_if_el hf with ⟨c6, hf⟩ | ⟨c6, hf⟩
  · refine sb_if_ne hm dX4_oneFits_6 (tgt := 18) rfl (fun _ => ?_) (fun z => absurd c6 z)
    refine sx_ic (v := 1) hm dX4_oneFits_18 (by decide) ?_
    refine mx_S.pu (pc2 := 23) (lv2 := [(0, .ref a0), (1, .int a1), (2, .int a2)]) (st2 := [.int 1]) hm dX4_oneFits_19 rfl ?_
    cases hf
    exact sx_ire hm dX4_oneFits_23 rfl (by decide)
  · refine sb_if_ne hm dX4_oneFits_6 (tgt := 18) rfl (fun z => absurd z c6) (fun _ => ?_)
    refine mx_S.pu (pc2 := 10) (lv2 := [(0, .ref a0), (1, .int a1), (2, .int a2)]) (st2 := [.ref a0]) hm dX4_oneFits_9 rfl ?_
    refine mx_S.pu (pc2 := 11) (lv2 := [(0, .ref a0), (1, .int a1), (2, .int a2)]) (st2 := [.int a2, .ref a0]) hm dX4_oneFits_10 rfl ?_
    refine mx_S.pu (pc2 := 12) (lv2 := [(0, .ref a0), (1, .int a1), (2, .int a2)]) (st2 := [.int a1, .int a2, .ref a0]) hm dX4_oneFits_11 rfl ?_
    replace hf := mx_gd_el hf; obtain ⟨c3, hf⟩ := hf
    replace hf := mx_sv_el hf; obtain ⟨u4, e_u4, hf⟩ := hf
    refine sx_cv hm dX4_oneFits_12 rs_RX4_35 mt_X4_fits [.int a2, .int a1] [] (b := a0) (ci := 4) rfl rfl rfl c3 (Nat.le_of_ble_eq_true rfl) (Nat.le_of_ble_eq_true rfl) (by omega) (by omega) (f_X4_fits_ok X (by omega) (by omega) nn a0 a2 a1 u2.2 e_u4) ?_
    clear e_u4
    show mx_S X F L 140 15 [(0, .ref a0), (1, .int a1), (2, .int a2)] [.int u4.1] u4.2 0 0 (some (.int r.1), r.2, 0, 0)
    rcases mx_if_el hf with ⟨c5, hf⟩ | ⟨c5, hf⟩
    · refine sb_if_eq hm dX4_oneFits_15 (tgt := 22) rfl (fun _ => ?_) (fun z => absurd c5 z)
      refine sx_ic (v := 0) hm dX4_oneFits_22 (by decide) ?_
      cases hf
      exact sx_ire hm dX4_oneFits_23 rfl (by decide)
    · refine sb_if_eq hm dX4_oneFits_15 (tgt := 22) rfl (fun z => absurd z c5) (fun _ => ?_)
      refine sx_ic (v := 1) hm dX4_oneFits_18 (by decide) ?_
      refine mx_S.pu (pc2 := 23) (lv2 := [(0, .ref a0), (1, .int a1), (2, .int a2)]) (st2 := [.int 1]) hm dX4_oneFits_19 rfl ?_
      cases hf
      exact sx_ire hm dX4_oneFits_23 rfl (by decide)
set_option maxHeartbeats 4000000 in
set_option maxRecDepth 20000 in
theorem j_X10_isPair_24_ok (X : Nat × (Nat → Int32)) {F L : Nat} (hF : 2 ≤ F) (hL : 45 ≤ L) (nn : Nat) (l1 : Int32) (l2 : Int32) (h : mx_H) {r : (Int32 × mx_H)} (hf : j_X10_isPair_24 nn l1 l2 h = some r) : mx_S X F L 277 24 [(1, .int l1), (2, .int l2)] [] h 0 0 (some (.int r.1), r.2, 0, 0) := by
  have hm : mx_mt 277 = some (yX10_isPair, cX10_isPair, 3, (some .boolean)) := mt_X10_isPair
  unfold j_X10_isPair_24 at hf
  refine mx_S.pu (pc2 := 25) (lv2 := [(1, .int l1), (2, .int l2)]) (st2 := [.int l1]) hm dX10_isPair_24 rfl ?_
  refine mx_S.pu (pc2 := 26) (lv2 := [(1, .int l1), (2, .int l2)]) (st2 := [.int l2, .int l1]) hm dX10_isPair_25 rfl ?_
  rcases mx_if_el hf with ⟨c3, hf⟩ | ⟨c3, hf⟩
  · refine sb_ic_ne hm dX10_isPair_26 (tgt := 40) rfl (fun _ => ?_) (fun z => absurd c3 z)
    refine sx_ic (v := 0) hm dX10_isPair_40 (by decide) ?_
    cases hf
    exact sx_ire hm dX10_isPair_41 rfl (by decide)
  · refine sb_ic_ne hm dX10_isPair_26 (tgt := 40) rfl (fun z => absurd z c3) (fun _ => ?_)
    refine mx_S.pu (pc2 := 30) (lv2 := [(1, .int l1), (2, .int l2)]) (st2 := [.int l1]) hm dX10_isPair_29 rfl ?_
    replace hf := mx_sv_el hf; obtain ⟨u1, e_u1, hf⟩ := hf
    refine sx_cs hm dX10_isPair_30 rs_RX10_143 mt_X4_isNumber [.int l1] [] rfl rfl (Nat.le_of_ble_eq_true rfl) (Nat.le_of_ble_eq_true rfl) (by omega) (by omega) (f_X4_isNumber_ok X (by omega) (by omega) nn l1 h e_u1) ?_
    clear e_u1
    show mx_S X F L 277 33 [(1, .int l1), (2, .int l2)] [.int u1.1] u1.2 0 0 (some (.int r.1), r.2, 0, 0)
    rcases mx_if_el hf with ⟨c2, hf⟩ | ⟨c2, hf⟩
    · refine sb_if_eq hm dX10_isPair_33 (tgt := 40) rfl (fun _ => ?_) (fun z => absurd c2 z)
      refine sx_ic (v := 0) hm dX10_isPair_40 (by decide) ?_
      cases hf
      exact sx_ire hm dX10_isPair_41 rfl (by decide)
    · refine sb_if_eq hm dX10_isPair_33 (tgt := 40) rfl (fun z => absurd z c2) (fun _ => ?_)
      refine sx_ic (v := 1) hm dX10_isPair_36 (by decide) ?_
      refine mx_S.pu (pc2 := 41) (lv2 := [(1, .int l1), (2, .int l2)]) (st2 := [.int 1]) hm dX10_isPair_37 rfl ?_
      cases hf
      exact sx_ire hm dX10_isPair_41 rfl (by decide)
set_option maxHeartbeats 4000000 in
set_option maxRecDepth 20000 in
theorem f_X10_isPair_ok (X : Nat × (Nat → Int32)) {F L : Nat} (hF : 2 ≤ F) (hL : 45 ≤ L) (nn : Nat) (a0 : Nat) (a1 : Int32) (a2 : Int32) (h : mx_H) {r : (Int32 × mx_H)} (hf : f_X10_isPair nn a0 a1 a2 h = some r) : mx_R X F L 277 [.ref a0, .int a1, .int a2] h (some (.int r.1), r.2, 0, 0) := by
  have hm : mx_mt 277 = some (yX10_isPair, cX10_isPair, 3, (some .boolean)) := mt_X10_isPair
  show mx_S X F L 277 0 [(0, .ref a0), (1, .int a1), (2, .int a2)] [] h 0 0 (some (.int r.1), r.2, 0, 0)
  unfold f_X10_isPair at hf
  refine mx_S.pu (pc2 := 1) (lv2 := [(0, .ref a0), (1, .int a1), (2, .int a2)]) (st2 := [.int a1]) hm dX10_isPair_0 rfl ?_
  replace hf := mx_sv_el hf; obtain ⟨u4, e_u4, hf⟩ := hf
  refine sx_cs hm dX10_isPair_1 rs_RX10_136 mt_X4_isReference [.int a1] [] rfl rfl (Nat.le_of_ble_eq_true rfl) (Nat.le_of_ble_eq_true rfl) (by omega) (by omega) (f_X4_isReference_ok X (by omega) (by omega) nn a1 h e_u4) ?_
  clear e_u4
  show mx_S X F L 277 4 [(0, .ref a0), (1, .int a1), (2, .int a2)] [.int u4.1] u4.2 0 0 (some (.int r.1), r.2, 0, 0)
  rcases mx_if_el hf with ⟨c11, hf⟩ | ⟨c11, hf⟩
  · refine sb_if_eq hm dX10_isPair_4 (tgt := 24) rfl (fun _ => ?_) (fun z => absurd c11 z)
    refine mx_S.ext [(1, .int a1), (2, .int a2)] (mx_sub_pos [1, 2] rfl (show ([0, 1, 2] : List Nat).Nodup by decide)) ?_
    exact j_X10_isPair_24_ok X hF hL nn a1 a2 u4.2 hf
  · refine sb_if_eq hm dX10_isPair_4 (tgt := 24) rfl (fun z => absurd z c11) (fun _ => ?_)
    refine mx_S.pu (pc2 := 8) (lv2 := [(0, .ref a0), (1, .int a1), (2, .int a2)]) (st2 := [.int a2]) hm dX10_isPair_7 rfl ?_
    replace hf := mx_sv_el hf; obtain ⟨u5, e_u5, hf⟩ := hf
    refine sx_cs hm dX10_isPair_8 rs_RX10_136 mt_X4_isReference [.int a2] [] rfl rfl (Nat.le_of_ble_eq_true rfl) (Nat.le_of_ble_eq_true rfl) (by omega) (by omega) (f_X4_isReference_ok X (by omega) (by omega) nn a2 u4.2 e_u5) ?_
    clear e_u5
    show mx_S X F L 277 11 [(0, .ref a0), (1, .int a1), (2, .int a2)] [.int u5.1] u5.2 0 0 (some (.int r.1), r.2, 0, 0)
    rcases mx_if_el hf with ⟨c10, hf⟩ | ⟨c10, hf⟩
    · refine sb_if_eq hm dX10_isPair_11 (tgt := 24) rfl (fun _ => ?_) (fun z => absurd c10 z)
      refine mx_S.ext [(1, .int a1), (2, .int a2)] (mx_sub_pos [1, 2] rfl (show ([0, 1, 2] : List Nat).Nodup by decide)) ?_
      exact j_X10_isPair_24_ok X hF hL nn a1 a2 u5.2 hf
    · refine sb_if_eq hm dX10_isPair_11 (tgt := 24) rfl (fun z => absurd z c10) (fun _ => ?_)
      refine mx_S.pu (pc2 := 15) (lv2 := [(0, .ref a0), (1, .int a1), (2, .int a2)]) (st2 := [.ref a0]) hm dX10_isPair_14 rfl ?_
      replace hf := mx_sv_el hf; obtain ⟨v6, e_v6, hf⟩ := hf
      refine sx_get hm dX10_isPair_15 rs_RX10_45 (xgr_el e_v6) ?_
      clear e_v6
      refine mx_S.pu (pc2 := 19) (lv2 := [(0, .ref a0), (1, .int a1), (2, .int a2)]) (st2 := [.int a1, .ref v6]) hm dX10_isPair_18 rfl ?_
      refine mx_S.pu (pc2 := 20) (lv2 := [(0, .ref a0), (1, .int a1), (2, .int a2)]) (st2 := [.int a2, .int a1, .ref v6]) hm dX10_isPair_19 rfl ?_
      replace hf := mx_gd_el hf; obtain ⟨c7, hf⟩ := hf
      replace hf := mx_sv_el hf; obtain ⟨u8, e_u8, hf⟩ := hf
      refine sx_cv hm dX10_isPair_20 rs_RX10_140 mt_X4_oneFits [.int a1, .int a2] [] (b := v6) (ci := 4) rfl rfl rfl c7 (Nat.le_of_ble_eq_true rfl) (Nat.le_of_ble_eq_true rfl) (by omega) (by omega) (f_X4_oneFits_ok X (by omega) (by omega) nn v6 a1 a2 u5.2 e_u8) ?_
      clear e_u8
      show mx_S X F L 277 23 [(0, .ref a0), (1, .int a1), (2, .int a2)] [.int u8.1] u8.2 0 0 (some (.int r.1), r.2, 0, 0)
      replace hf := mx_gd_el hf; obtain ⟨c9, hf⟩ := hf
      cases hf
      exact sx_ire hm dX10_isPair_23 rfl (xbq_ok c9).1
