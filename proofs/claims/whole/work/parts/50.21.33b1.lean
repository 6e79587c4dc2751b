set_option maxHeartbeats 4000000 in
set_option maxRecDepth 20000 in
theorem f_X13_label_ok (X : Nat × (Nat → Int32)) {F L : Nat} (hF : 0 ≤ F) (hL : 0 ≤ L) (nn : Nat) (a0 : Nat) (h : mx_H) {r : (Int32 × mx_H)} (hf : f_X13_label nn a0 h = some r) : mx_R X F L 464 [.ref a0] h (some (.int r.1), r.2, 0, 0) := by
  have hm : mx_mt 464 = some (yX13_label, cX13_label, 1, (some .int)) := mt_X13_label
  show mx_S X F L 464 0 [(0, .ref a0)] [] h 0 0 (some (.int r.1), r.2, 0, 0)
  unfold f_X13_label at hf
  refine mx_S.pu (pc2 := 1) (lv2 := [(0, .ref a0)]) (st2 := [.ref a0]) hm dX13_label_0 rfl ?_
  refine mx_S.pu (pc2 := 2) (lv2 := [(0, .ref a0)]) (st2 := [.ref a0, .ref a0]) hm dX13_label_1 rfl ?_
  replace hf := mx_sv_el hf; obtain ⟨v1, e_v1, hf⟩ := hf
  refine sx_get hm dX13_label_2 rs_RX13_658 (xgi_el e_v1) ?_
  clear e_v1
  refine sx_ic (v := 1) hm dX13_label_5 (by decide) ?_
  replace hf := xl_el hf; obtain ⟨v2, e_v2, hf⟩ := hf
  refine mx_S.pu (pc2 := 7) (lv2 := [(0, .ref a0)]) (st2 := [.int v2, .ref a0]) hm dX13_label_6 (by rw [← e_v2]; rfl) ?_
  clear e_v2
  replace hf := mx_sv_el hf; obtain ⟨h3, e_h3, hf⟩ := hf
  refine sx_put hm dX13_label_7 rs_RX13_658 ft_13_88 ⟨rfl, rfl⟩ (fun z => by cases z) e_h3 ?_
  clear e_h3
  refine mx_S.pu (pc2 := 11) (lv2 := [(0, .ref a0)]) (st2 := [.ref a0]) hm dX13_label_10 rfl ?_
  replace hf := mx_sv_el hf; obtain ⟨v4, e_v4, hf⟩ := hf
  refine sx_get hm dX13_label_11 rs_RX13_658 (xgi_el e_v4) ?_
  clear e_v4
  cases hf
  exact sx_ire hm dX13_label_14 rfl rfl
set_option maxHeartbeats 4000000 in
set_option maxRecDepth 20000 in
theorem j_X13_number_60_ok (X : Nat × (Nat → Int32)) {F L : Nat} (hF : 2 ≤ F) (hL : 81 ≤ L) (nn : Nat) (l0 : Nat) (h : mx_H) {r : mx_H} (hf : j_X13_number_60 nn l0 h = some r) : mx_S X F L 472 60 [(0, .ref l0)] [] h 0 0 (none, r, 0, 0) := by
  have hm : mx_mt 472 = some (yX13_number, cX13_number, 3, none) := mt_X13_number
  unfold j_X13_number_60 at hf
  refine mx_S.pu (pc2 := 61) (lv2 := [(0, .ref l0)]) (st2 := [.ref l0]) hm dX13_number_60 rfl ?_
  refine sx_ic (v := 0) hm dX13_number_61 (by decide) ?_
  replace hf := mx_gd_el hf; obtain ⟨c1, hf⟩ := hf
  replace hf := mx_sv_el hf; obtain ⟨u2, e_u2, hf⟩ := hf
  refine sx_cv hm dX13_number_62 rs_RX13_640 mt_X13_push [.int 0] [] (b := l0) (ci := 13) rfl rfl rfl c1 (Nat.le_of_ble_eq_true rfl) (Nat.le_of_ble_eq_true rfl) (by omega) (by omega) (f_X13_push_ok X (by omega) (by omega) nn l0 0 h e_u2) ?_
  clear e_u2
  show mx_S X F L 472 65 [(0, .ref l0)] [] u2 0 0 (none, r, 0, 0)
  cases hf
  exact sx_ret hm dX13_number_65 rfl
set_option maxHeartbeats 4000000 in
set_option maxRecDepth 20000 in
theorem f_X13_number_ok (X : Nat × (Nat → Int32)) {F L : Nat} (hF : 2 ≤ F) (hL : 81 ≤ L) (nn : Nat) (a0 : Nat) (a1 : Int32) (h : mx_H) {r : mx_H} (hf : f_X13_number nn a0 a1 h = some r) : mx_R X F L 472 [.ref a0, .int a1] h (none, r, 0, 0) := by
  have hm : mx_mt 472 = some (yX13_number, cX13_number, 3, none) := mt_X13_number
  show mx_S X F L 472 0 [(0, .ref a0), (1, .int a1)] [] h 0 0 (none, r, 0, 0)
  unfold f_X13_number at hf
  refine mx_S.pu (pc2 := 1) (lv2 := [(0, .ref a0), (1, .int a1)]) (st2 := [.ref a0]) hm dX13_number_0 rfl ?_
  replace hf := mx_sv_el hf; obtain ⟨v3, e_v3, hf⟩ := hf
  refine sx_get hm dX13_number_1 rs_RX13_25 (xgr_el e_v3) ?_
  clear e_v3
  refine mx_S.pu (pc2 := 5) (lv2 := [(0, .ref a0), (1, .int a1)]) (st2 := [.int a1, .ref v3]) hm dX13_number_4 rfl ?_
  replace hf := mx_sv_el hf; obtain ⟨v4, e_v4, hf⟩ := hf
  refine sx_ald hm dX13_number_5 e_v4 ?_
  clear e_v4
  refine mx_S.pu (pc2 := 7) (lv2 := [(2, .int v4), (0, .ref a0), (1, .int a1)]) (st2 := []) hm dX13_number_6 rfl ?_
  refine mx_S.pu (pc2 := 8) (lv2 := [(2, .int v4), (0, .ref a0), (1, .int a1)]) (st2 := [.int v4]) hm dX13_number_7 rfl ?_
  refine sx_ic (v := 5) hm dX13_number_8 (by decide) ?_
  rcases mx_if_el hf with ⟨c19, hf⟩ | ⟨c19, hf⟩
  · refine sb_ic_gt hm dX13_number_9 (tgt := 22) rfl (fun _ => ?_) (fun z => absurd c19 z)
    refine mx_S.pu (pc2 := 23) (lv2 := [(2, .int v4), (0, .ref a0), (1, .int a1)]) (st2 := [.int v4]) hm dX13_number_22 rfl ?_
    refine sx_bi (v := 127) hm dX13_number_23 (by decide) ?_
    rcases mx_if_el hf with ⟨c15, hf⟩ | ⟨c15, hf⟩
    · refine sb_ic_gt hm dX13_number_25 (tgt := 42) rfl (fun _ => ?_) (fun z => absurd c15 z)
      refine mx_S.pu (pc2 := 43) (lv2 := [(2, .int v4), (0, .ref a0), (1, .int a1)]) (st2 := [.ref a0]) hm dX13_number_42 rfl ?_
      refine sx_bi (v := 18) hm dX13_number_43 (by decide) ?_
      replace hf := mx_gd_el hf; obtain ⟨c5, hf⟩ := hf
      replace hf := mx_sv_el hf; obtain ⟨u6, e_u6, hf⟩ := hf
      refine sx_cv hm dX13_number_45 rs_RX13_646 mt_X13_put [.int 18] [] (b := a0) (ci := 13) rfl rfl rfl c5 (Nat.le_of_ble_eq_true rfl) (Nat.le_of_ble_eq_true rfl) (by omega) (by omega) (f_X13_put_ok X (by omega) (by omega) nn a0 18 h e_u6) ?_
      clear e_u6
      show mx_S X F L 472 48 [(2, .int v4), (0, .ref a0), (1, .int a1)] [] u6 0 0 (none, r, 0, 0)
      refine mx_S.pu (pc2 := 49) (lv2 := [(2, .int v4), (0, .ref a0), (1, .int a1)]) (st2 := [.ref a0]) hm dX13_number_48 rfl ?_
      refine mx_S.pu (pc2 := 50) (lv2 := [(2, .int v4), (0, .ref a0), (1, .int a1)]) (st2 := [.ref a0, .ref a0]) hm dX13_number_49 rfl ?_
      refine sx_ic (v := 2) hm dX13_number_50 (by decide) ?_
      refine mx_S.pu (pc2 := 52) (lv2 := [(2, .int v4), (0, .ref a0), (1, .int a1)]) (st2 := [.int v4, .int 2, .ref a0, .ref a0]) hm dX13_number_51 rfl ?_
      refine sx_ic (v := 0) hm dX13_number_52 (by decide) ?_
      refine sx_ic (v := 0) hm dX13_number_53 (by decide) ?_
      replace hf := mx_gd_el hf; obtain ⟨c7, hf⟩ := hf
      replace hf := mx_sv_el hf; obtain ⟨u8, e_u8, hf⟩ := hf
      refine sx_cv hm dX13_number_54 rs_RX13_608 mt_X13_constant [.int 2, .int v4, .int 0, .int 0] [.ref a0] (b := a0) (ci := 13) rfl rfl rfl c7 (Nat.le_of_ble_eq_true rfl) (Nat.le_of_ble_eq_true rfl) (by omega) (by omega) (f_X13_constant_ok X (by omega) (by omega) nn a0 2 v4 0 0 u6 e_u8) ?_
      clear e_u8
      show mx_S X F L 472 57 [(2, .int v4), (0, .ref a0), (1, .int a1)] [.int u8.1, .ref a0] u8.2 0 0 (none, r, 0, 0)
      replace hf := mx_gd_el hf; obtain ⟨c9, hf⟩ := hf
      replace hf := mx_sv_el hf; obtain ⟨u10, e_u10, hf⟩ := hf
      refine sx_cv hm dX13_number_57 rs_RX13_646 mt_X13_put [.int u8.1] [] (b := a0) (ci := 13) rfl rfl rfl c9 (Nat.le_of_ble_eq_true rfl) (Nat.le_of_ble_eq_true rfl) (by omega) (by omega) (f_X13_put_ok X (by omega) (by omega) nn a0 u8.1 u8.2 e_u10) ?_
      clear e_u10
      show mx_S X F L 472 60 [(2, .int v4), (0, .ref a0), (1, .int a1)] [] u10 0 0 (none, r, 0, 0)
      refine mx_S.ext [(0, .ref a0)] (mx_sub_pos [1] rfl (show ([2, 0, 1] : List Nat).Nodup by decide)) ?_
      exact j_X13_number_60_ok X hF hL nn a0 u10 hf
    · refine sb_ic_gt hm dX13_number_25 (tgt := 42) rfl (fun z => absurd z c15) (fun _ => ?_)
      refine mx_S.pu (pc2 := 29) (lv2 := [(2, .int v4), (0, .ref a0), (1, .int a1)]) (st2 := [.ref a0]) hm dX13_number_28 rfl ?_
      refine sx_bi (v := 16) hm dX13_number_29 (by decide) ?_
      replace hf := mx_gd_el hf; obtain ⟨c11, hf⟩ := hf
      replace hf := mx_sv_el hf; obtain ⟨u12, e_u12, hf⟩ := hf
      refine sx_cv hm dX13_number_31 rs_RX13_646 mt_X13_put [.int 16] [] (b := a0) (ci := 13) rfl rfl rfl c11 (Nat.le_of_ble_eq_true rfl) (Nat.le_of_ble_eq_true rfl) (by omega) (by omega) (f_X13_put_ok X (by omega) (by omega) nn a0 16 h e_u12) ?_
      clear e_u12
      show mx_S X F L 472 34 [(2, .int v4), (0, .ref a0), (1, .int a1)] [] u12 0 0 (none, r, 0, 0)
      refine mx_S.pu (pc2 := 35) (lv2 := [(2, .int v4), (0, .ref a0), (1, .int a1)]) (st2 := [.ref a0]) hm dX13_number_34 rfl ?_
      refine mx_S.pu (pc2 := 36) (lv2 := [(2, .int v4), (0, .ref a0), (1, .int a1)]) (st2 := [.int v4, .ref a0]) hm dX13_number_35 rfl ?_
      replace hf := mx_gd_el hf; obtain ⟨c13, hf⟩ := hf
      replace hf := mx_sv_el hf; obtain ⟨u14, e_u14, hf⟩ := hf
      refine sx_cv hm dX13_number_36 rs_RX13_646 mt_X13_put [.int v4] [] (b := a0) (ci := 13) rfl rfl rfl c13 (Nat.le_of_ble_eq_true rfl) (Nat.le_of_ble_eq_true rfl) (by omega) (by omega) (f_X13_put_ok X (by omega) (by omega) nn a0 v4 u12 e_u14) ?_
      clear e_u14
      show mx_S X F L 472 39 [(2, .int v4), (0, .ref a0), (1, .int a1)] [] u14 0 0 (none, r, 0, 0)
      refine mx_S.pu (pc2 := 60) (lv2 := [(2, .int v4), (0, .ref a0), (1, .int a1)]) (st2 := []) hm dX13_number_39 rfl ?_
      refine mx_S.ext [(0, .ref a0)] (mx_sub_pos [1] rfl (show ([2, 0, 1] : List Nat).Nodup by decide)) ?_
      exact j_X13_number_60_ok X hF hL nn a0 u14 hf
  · refine sb_ic_gt hm dX13_number_9 (tgt := 22) rfl (fun z => absurd z c19) (fun _ => ?_)
    refine mx_S.pu (pc2 := 13) (lv2 := [(2, .int v4), (0, .ref a0), (1, .int a1)]) (st2 := [.ref a0]) hm dX13_number_12 rfl ?_
    refine sx_ic (v := 3) hm dX13_number_13 (by decide) ?_
    refine mx_S.pu (pc2 := 15) (lv2 := [(2, .int v4), (0, .ref a0), (1, .int a1)]) (st2 := [.int v4, .int 3, .ref a0]) hm dX13_number_14 rfl ?_
    replace hf := xl_el hf; obtain ⟨v16, e_v16, hf⟩ := hf
    refine mx_S.pu (pc2 := 16) (lv2 := [(2, .int v4), (0, .ref a0), (1, .int a1)]) (st2 := [.int v16, .ref a0]) hm dX13_number_15 (by rw [← e_v16]; rfl) ?_
    clear e_v16
    replace hf := mx_gd_el hf; obtain ⟨c17, hf⟩ := hf
    replace hf := mx_sv_el hf; obtain ⟨u18, e_u18, hf⟩ := hf
    refine sx_cv hm dX13_number_16 rs_RX13_646 mt_X13_put [.int v16] [] (b := a0) (ci := 13) rfl rfl rfl c17 (Nat.le_of_ble_eq_true rfl) (Nat.le_of_ble_eq_true rfl) (by omega) (by omega) (f_X13_put_ok X (by omega) (by omega) nn a0 v16 h e_u18) ?_
    clear e_u18
    show mx_S X F L 472 19 [(2, .int v4), (0, .ref a0), (1, .int a1)] [] u18 0 0 (none, r, 0, 0)
    refine mx_S.pu (pc2 := 60) (lv2 := [(2, .int v4), (0, .ref a0), (1, .int a1)]) (st2 := []) hm dX13_number_19 rfl ?_
    refine mx_S.ext [(0, .ref a0)] (mx_sub_pos [1] rfl (show ([2, 0, 1] : List Nat).Nodup by decide)) ?_
    exact j_X13_number_60_ok X hF hL nn a0 u18 hf
