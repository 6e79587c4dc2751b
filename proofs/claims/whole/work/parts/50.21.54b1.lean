set_option maxHeartbeats 4000000 in
set_option maxRecDepth 20000 in
theorem f_X13_step_ok (X : Nat × (Nat → Int32)) {F L : Nat} (hF : 13 ≤ F) (hL : 308 ≤ L) (nn : Nat) (a0 : Nat) (h : mx_H) {r : mx_H} (hf : f_X13_step nn a0 h = some r) : mx_R X F L 582 [.ref a0] h (none, r, 0, 0) := by
  have hm : mx_mt 582 = some (yX13_step, cX13_step, 7, none) := mt_X13_step
  show mx_S X F L 582 0 [(0, .ref a0)] [] h 0 0 (none, r, 0, 0)
  unfold f_X13_step at hf
  refine mx_S.pu (pc2 := 1) (lv2 := [(0, .ref a0)]) (st2 := [.ref a0]) hm dX13_step_0 rfl ?_
  replace hf := mx_sv_el hf; obtain ⟨v94, e_v94, hf⟩ := hf
  refine sx_get hm dX13_step_1 rs_RX13_300 (xgr_el e_v94) ?_
  clear e_v94
  refine mx_S.pu (pc2 := 5) (lv2 := [(0, .ref a0)]) (st2 := [.ref a0, .ref v94]) hm dX13_step_4 rfl ?_
  replace hf := mx_sv_el hf; obtain ⟨v95, e_v95, hf⟩ := hf
  refine sx_get hm dX13_step_5 rs_RX13_1058 (xgi_el e_v95) ?_
  clear e_v95
  refine sx_ic (v := 1) hm dX13_step_8 (by decide) ?_
  replace hf := xl_el hf; obtain ⟨v96, e_v96, hf⟩ := hf
  refine mx_S.pu (pc2 := 10) (lv2 := [(0, .ref a0)]) (st2 := [.int v96, .ref v94]) hm dX13_step_9 (by rw [← e_v96]; rfl) ?_
  clear e_v96
  replace hf := mx_sv_el hf; obtain ⟨v97, e_v97, hf⟩ := hf
  refine sx_ald hm dX13_step_10 e_v97 ?_
  clear e_v97
  refine mx_S.pu (pc2 := 12) (lv2 := [(1, .int v97), (0, .ref a0)]) (st2 := []) hm dX13_step_11 rfl ?_
  refine mx_S.pu (pc2 := 13) (lv2 := [(1, .int v97), (0, .ref a0)]) (st2 := [.ref a0]) hm dX13_step_12 rfl ?_
  refine mx_S.pu (pc2 := 14) (lv2 := [(1, .int v97), (0, .ref a0)]) (st2 := [.int v97, .ref a0]) hm dX13_step_13 rfl ?_
  replace hf := mx_gd_el hf; obtain ⟨c98, hf⟩ := hf
  replace hf := mx_sv_el hf; obtain ⟨u99, e_u99, hf⟩ := hf
  refine sx_cv hm dX13_step_14 rs_RX13_1078 mt_X13_opAt [.int v97] [] (b := a0) (ci := 13) rfl rfl rfl c98 (Nat.le_of_ble_eq_true rfl) (Nat.le_of_ble_eq_true rfl) (by omega) (by omega) (f_X13_opAt_ok X (by omega) (by omega) nn a0 v97 h e_u99) ?_
  clear e_u99
  show mx_S X F L 582 17 [(1, .int v97), (0, .ref a0)] [.int u99.1] u99.2 0 0 (none, r, 0, 0)
  refine mx_S.pu (pc2 := 18) (lv2 := [(2, .int u99.1), (1, .int v97), (0, .ref a0)]) (st2 := []) hm dX13_step_17 rfl ?_
  refine mx_S.pu (pc2 := 19) (lv2 := [(2, .int u99.1), (1, .int v97), (0, .ref a0)]) (st2 := [.int u99.1]) hm dX13_step_18 rfl ?_
  replace hf := mx_sv_el hf; obtain ⟨u100, e_u100, hf⟩ := hf
  refine sx_cs hm dX13_step_19 rs_RX13_975 mt_X13_widthOf [.int u99.1] [] rfl rfl (Nat.le_of_ble_eq_true rfl) (Nat.le_of_ble_eq_true rfl) (by omega) (by omega) (f_X13_widthOf_ok X (by omega) (by omega) nn u99.1 u99.2 e_u100) ?_
  clear e_u100
  show mx_S X F L 582 22 [(2, .int u99.1), (1, .int v97), (0, .ref a0)] [.int u100.1] u100.2 0 0 (none, r, 0, 0)
  refine mx_S.pu (pc2 := 23) (lv2 := [(3, .int u100.1), (2, .int u99.1), (1, .int v97), (0, .ref a0)]) (st2 := []) hm dX13_step_22 rfl ?_
  refine mx_S.pu (pc2 := 24) (lv2 := [(3, .int u100.1), (2, .int u99.1), (1, .int v97), (0, .ref a0)]) (st2 := [.int u100.1]) hm dX13_step_23 rfl ?_
  refine sx_ic (v := 1) hm dX13_step_24 (by decide) ?_
  rcases mx_if_el hf with ⟨c104, hf⟩ | ⟨c104, hf⟩
  · refine sb_ic_le hm dX13_step_25 (tgt := 38) rfl (fun _ => ?_) (fun z => absurd c104 z)
    refine sx_ic (v := 0) hm dX13_step_38 (by decide) ?_
    refine mx_S.ext [(0, .ref a0), (1, .int v97), (2, .int u99.1), (3, .int u100.1)] (mx_sub_pos [3, 2, 1, 0] rfl (show ([3, 2, 1, 0] : List Nat).Nodup by decide)) ?_
    exact j_X13_step_39_ok X hF hL nn a0 v97 u99.1 u100.1 0 u100.2 hf
  · refine sb_ic_le hm dX13_step_25 (tgt := 38) rfl (fun z => absurd z c104) (fun _ => ?_)
    refine mx_S.pu (pc2 := 29) (lv2 := [(3, .int u100.1), (2, .int u99.1), (1, .int v97), (0, .ref a0)]) (st2 := [.ref a0]) hm dX13_step_28 rfl ?_
    refine mx_S.pu (pc2 := 30) (lv2 := [(3, .int u100.1), (2, .int u99.1), (1, .int v97), (0, .ref a0)]) (st2 := [.int v97, .ref a0]) hm dX13_step_29 rfl ?_
    refine sx_ic (v := 1) hm dX13_step_30 (by decide) ?_
    replace hf := xl_el hf; obtain ⟨v101, e_v101, hf⟩ := hf
    refine mx_S.pu (pc2 := 32) (lv2 := [(3, .int u100.1), (2, .int u99.1), (1, .int v97), (0, .ref a0)]) (st2 := [.int v101, .ref a0]) hm dX13_step_31 (by rw [← e_v101]; rfl) ?_
    clear e_v101
    replace hf := mx_gd_el hf; obtain ⟨c102, hf⟩ := hf
    replace hf := mx_sv_el hf; obtain ⟨u103, e_u103, hf⟩ := hf
    refine sx_cv hm dX13_step_32 rs_RX13_1078 mt_X13_opAt [.int v101] [] (b := a0) (ci := 13) rfl rfl rfl c102 (Nat.le_of_ble_eq_true rfl) (Nat.le_of_ble_eq_true rfl) (by omega) (by omega) (f_X13_opAt_ok X (by omega) (by omega) nn a0 v101 u100.2 e_u103) ?_
    clear e_u103
    show mx_S X F L 582 35 [(3, .int u100.1), (2, .int u99.1), (1, .int v97), (0, .ref a0)] [.int u103.1] u103.2 0 0 (none, r, 0, 0)
    refine mx_S.pu (pc2 := 39) (lv2 := [(3, .int u100.1), (2, .int u99.1), (1, .int v97), (0, .ref a0)]) (st2 := [.int u103.1]) hm dX13_step_35 rfl ?_
    refine mx_S.ext [(0, .ref a0), (1, .int v97), (2, .int u99.1), (3, .int u100.1)] (mx_sub_pos [3, 2, 1, 0] rfl (show ([3, 2, 1, 0] : List Nat).Nodup by decide)) ?_
    exact j_X13_step_39_ok X hF hL nn a0 v97 u99.1 u100.1 u103.1 u103.2 hf
