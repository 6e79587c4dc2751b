set_option maxHeartbeats 4000000 in
set_option maxRecDepth 20000 in
theorem j_X13_tell_26_ok (X : Nat × (Nat → Int32)) {F L : Nat} (hF : 0 ≤ F) (hL : 0 ≤ L) (nn : Nat) (l0 : Nat) (h : mx_H) {r : mx_H} (hf : j_X13_tell_26 nn l0 h = some r) : mx_S X F L 480 26 [(0, .ref l0)] [] h 0 0 (none, r, 0, 0) := by
  have hm : mx_mt 480 = some (yX13_tell, cX13_tell, 2, none) := mt_X13_tell
  unfold j_X13_tell_26 at hf
  refine mx_S.pu (pc2 := 27) (lv2 := [(0, .ref l0)]) (st2 := [.ref l0]) hm dX13_tell_26 rfl ?_
  refine mx_S.pu (pc2 := 28) (lv2 := [(0, .ref l0)]) (st2 := [.ref l0, .ref l0]) hm dX13_tell_27 rfl ?_
  replace hf := mx_sv_el hf; obtain ⟨v1, e_v1, hf⟩ := hf
  refine sx_get hm dX13_tell_28 rs_RX13_728 (xgi_el e_v1) ?_
  clear e_v1
  refine sx_ic (v := 1) hm dX13_tell_31 (by decide) ?_
  replace hf := xl_el hf; obtain ⟨v2, e_v2, hf⟩ := hf
  refine mx_S.pu (pc2 := 33) (lv2 := [(0, .ref l0)]) (st2 := [.int v2, .ref l0]) hm dX13_tell_32 (by rw [← e_v2]; rfl) ?_
  clear e_v2
  replace hf := mx_sv_el hf; obtain ⟨h3, e_h3, hf⟩ := hf
  refine sx_put hm dX13_tell_33 rs_RX13_728 ft_13_97 ⟨rfl, rfl⟩ (fun z => by cases z) e_h3 ?_
  clear e_h3
  cases hf
  exact sx_ret hm dX13_tell_36 rfl
set_option maxHeartbeats 4000000 in
set_option maxRecDepth 20000 in
theorem f_X13_tell_ok (X : Nat × (Nat → Int32)) {F L : Nat} (hF : 0 ≤ F) (hL : 0 ≤ L) (nn : Nat) (a0 : Nat) (a1 : Int32) (h : mx_H) {r : mx_H} (hf : f_X13_tell nn a0 a1 h = some r) : mx_R X F L 480 [.ref a0, .int a1] h (none, r, 0, 0) := by
  have hm : mx_mt 480 = some (yX13_tell, cX13_tell, 2, none) := mt_X13_tell
  show mx_S X F L 480 0 [(0, .ref a0), (1, .int a1)] [] h 0 0 (none, r, 0, 0)
  unfold f_X13_tell at hf
  refine mx_S.pu (pc2 := 1) (lv2 := [(0, .ref a0), (1, .int a1)]) (st2 := [.ref a0]) hm dX13_tell_0 rfl ?_
  replace hf := mx_sv_el hf; obtain ⟨v4, e_v4, hf⟩ := hf
  refine sx_get hm dX13_tell_1 rs_RX13_728 (xgi_el e_v4) ?_
  clear e_v4
  refine mx_S.pu (pc2 := 5) (lv2 := [(0, .ref a0), (1, .int a1)]) (st2 := [.ref a0, .int v4]) hm dX13_tell_4 rfl ?_
  replace hf := mx_sv_el hf; obtain ⟨v5, e_v5, hf⟩ := hf
  refine sx_get hm dX13_tell_5 rs_RX13_206 (xgr_el e_v5) ?_
  clear e_v5
  replace hf := mx_sv_el hf; obtain ⟨v6, e_v6, hf⟩ := hf
  refine sx_len hm dX13_tell_8 e_v6 ?_
  clear e_v6
  rcases mx_if_el hf with ⟨c11, hf⟩ | ⟨c11, hf⟩
  · refine sb_ic_ge hm dX13_tell_9 (tgt := 26) rfl (fun _ => ?_) (fun z => absurd c11 z)
    refine mx_S.ext [(0, .ref a0)] (mx_sub_pos [0] rfl (show ([0, 1] : List Nat).Nodup by decide)) ?_
    exact j_X13_tell_26_ok X hF hL nn a0 h hf
  · refine sb_ic_ge hm dX13_tell_9 (tgt := 26) rfl (fun z => absurd z c11) (fun _ => ?_)
    refine mx_S.pu (pc2 := 13) (lv2 := [(0, .ref a0), (1, .int a1)]) (st2 := [.ref a0]) hm dX13_tell_12 rfl ?_
    replace hf := mx_sv_el hf; obtain ⟨v7, e_v7, hf⟩ := hf
    refine sx_get hm dX13_tell_13 rs_RX13_206 (xgr_el e_v7) ?_
    clear e_v7
    refine mx_S.pu (pc2 := 17) (lv2 := [(0, .ref a0), (1, .int a1)]) (st2 := [.ref a0, .ref v7]) hm dX13_tell_16 rfl ?_
    replace hf := mx_sv_el hf; obtain ⟨v8, e_v8, hf⟩ := hf
    refine sx_get hm dX13_tell_17 rs_RX13_728 (xgi_el e_v8) ?_
    clear e_v8
    refine mx_S.pu (pc2 := 21) (lv2 := [(0, .ref a0), (1, .int a1)]) (st2 := [.int a1, .int v8, .ref v7]) hm dX13_tell_20 rfl ?_
    refine sx_si (v := 255) hm dX13_tell_21 (by decide) ?_
    replace hf := xl_el hf; obtain ⟨v9, e_v9, hf⟩ := hf
    refine mx_S.pu (pc2 := 25) (lv2 := [(0, .ref a0), (1, .int a1)]) (st2 := [.int v9, .int v8, .ref v7]) hm dX13_tell_24 (by rw [← e_v9]; rfl) ?_
    clear e_v9
    replace hf := mx_sv_el hf; obtain ⟨h10, e_h10, hf⟩ := hf
    refine sx_ast hm dX13_tell_25 e_h10 ?_
    clear e_h10
    refine mx_S.ext [(0, .ref a0)] (mx_sub_pos [0] rfl (show ([0, 1] : List Nat).Nodup by decide)) ?_
    exact j_X13_tell_26_ok X hF hL nn a0 h10 hf
set_option maxHeartbeats 4000000 in
set_option maxRecDepth 20000 in
theorem f_X13_tellPair_ok (X : Nat × (Nat → Int32)) {F L : Nat} (hF : 1 ≤ F) (hL : 21 ≤ L) (nn : Nat) (a0 : Nat) (a1 : Int32) (h : mx_H) {r : mx_H} (hf : f_X13_tellPair nn a0 a1 h = some r) : mx_R X F L 481 [.ref a0, .int a1] h (none, r, 0, 0) := by
  have hm : mx_mt 481 = some (yX13_tellPair, cX13_tellPair, 2, none) := mt_X13_tellPair
  show mx_S X F L 481 0 [(0, .ref a0), (1, .int a1)] [] h 0 0 (none, r, 0, 0)
  unfold f_X13_tellPair at hf
  refine mx_S.pu (pc2 := 1) (lv2 := [(0, .ref a0), (1, .int a1)]) (st2 := [.ref a0]) hm dX13_tellPair_0 rfl ?_
  refine mx_S.pu (pc2 := 2) (lv2 := [(0, .ref a0), (1, .int a1)]) (st2 := [.int a1, .ref a0]) hm dX13_tellPair_1 rfl ?_
  refine sx_bi (v := 8) hm dX13_tellPair_2 (by decide) ?_
  replace hf := xl_el hf; obtain ⟨v1, e_v1, hf⟩ := hf
  refine mx_S.pu (pc2 := 5) (lv2 := [(0, .ref a0), (1, .int a1)]) (st2 := [.int v1, .ref a0]) hm dX13_tellPair_4 (by rw [← e_v1]; rfl) ?_
  clear e_v1
  replace hf := mx_gd_el hf; obtain ⟨c2, hf⟩ := hf
  replace hf := mx_sv_el hf; obtain ⟨u3, e_u3, hf⟩ := hf
  refine sx_cv hm dX13_tellPair_5 rs_RX13_731 mt_X13_tell [.int v1] [] (b := a0) (ci := 13) rfl rfl rfl c2 (Nat.le_of_ble_eq_true rfl) (Nat.le_of_ble_eq_true rfl) (by omega) (by omega) (f_X13_tell_ok X (by omega) (by omega) nn a0 v1 h e_u3) ?_
  clear e_u3
  show mx_S X F L 481 8 [(0, .ref a0), (1, .int a1)] [] u3 0 0 (none, r, 0, 0)
  refine mx_S.pu (pc2 := 9) (lv2 := [(0, .ref a0), (1, .int a1)]) (st2 := [.ref a0]) hm dX13_tellPair_8 rfl ?_
  refine mx_S.pu (pc2 := 10) (lv2 := [(0, .ref a0), (1, .int a1)]) (st2 := [.int a1, .ref a0]) hm dX13_tellPair_9 rfl ?_
  replace hf := mx_gd_el hf; obtain ⟨c4, hf⟩ := hf
  replace hf := mx_sv_el hf; obtain ⟨u5, e_u5, hf⟩ := hf
  refine sx_cv hm dX13_tellPair_10 rs_RX13_731 mt_X13_tell [.int a1] [] (b := a0) (ci := 13) rfl rfl rfl c4 (Nat.le_of_ble_eq_true rfl) (Nat.le_of_ble_eq_true rfl) (by omega) (by omega) (f_X13_tell_ok X (by omega) (by omega) nn a0 a1 u3 e_u5) ?_
  clear e_u5
  show mx_S X F L 481 13 [(0, .ref a0), (1, .int a1)] [] u5 0 0 (none, r, 0, 0)
  cases hf
  exact sx_ret hm dX13_tellPair_13 rfl
set_option maxHeartbeats 4000000 in
set_option maxRecDepth 20000 in
theorem j_X13_tellType_20_ok (X : Nat × (Nat → Int32)) {F L : Nat} (hF : 7 ≤ F) (hL : 150 ≤ L) (nn : Nat) (l0 : Nat) (l1 : Int32) (s0 : Int32) (s1 : Nat) (h : mx_H) {r : mx_H} (hf : j_X13_tellType_20 nn l0 l1 s0 s1 h = some r) : mx_S X F L 483 20 [(0, .ref l0), (1, .int l1)] [.int s0, .ref s1] h 0 0 (none, r, 0, 0) := by
  have hm : mx_mt 483 = some (yX13_tellType, cX13_tellType, 2, none) := mt_X13_tellType
  unfold j_X13_tellType_20 at hf
  replace hf := mx_gd_el hf; obtain ⟨c1, hf⟩ := hf
  replace hf := mx_sv_el hf; obtain ⟨u2, e_u2, hf⟩ := hf
  refine sx_cv hm dX13_tellType_20 rs_RX13_731 mt_X13_tell [.int s0] [] (b := s1) (ci := 13) rfl rfl rfl c1 (Nat.le_of_ble_eq_true rfl) (Nat.le_of_ble_eq_true rfl) (by omega) (by omega) (f_X13_tell_ok X (by omega) (by omega) nn s1 s0 h e_u2) ?_
  clear e_u2
  show mx_S X F L 483 23 [(0, .ref l0), (1, .int l1)] [] u2 0 0 (none, r, 0, 0)
  refine mx_S.pu (pc2 := 24) (lv2 := [(0, .ref l0), (1, .int l1)]) (st2 := [.int l1]) hm dX13_tellType_23 rfl ?_
  refine sx_ic (v := 2) hm dX13_tellType_24 (by decide) ?_
  rcases mx_if_el hf with ⟨c7, hf⟩ | ⟨c7, hf⟩
  · refine sb_ic_le hm dX13_tellType_25 (tgt := 37) rfl (fun _ => ?_) (fun z => absurd c7 z)
    cases hf
    exact sx_ret hm dX13_tellType_37 rfl
  · refine sb_ic_le hm dX13_tellType_25 (tgt := 37) rfl (fun z => absurd z c7) (fun _ => ?_)
    refine mx_S.pu (pc2 := 29) (lv2 := [(0, .ref l0), (1, .int l1)]) (st2 := [.ref l0]) hm dX13_tellType_28 rfl ?_
    refine mx_S.pu (pc2 := 30) (lv2 := [(0, .ref l0), (1, .int l1)]) (st2 := [.ref l0, .ref l0]) hm dX13_tellType_29 rfl ?_
    refine mx_S.pu (pc2 := 31) (lv2 := [(0, .ref l0), (1, .int l1)]) (st2 := [.int l1, .ref l0, .ref l0]) hm dX13_tellType_30 rfl ?_
    replace hf := mx_gd_el hf; obtain ⟨c3, hf⟩ := hf
    replace hf := mx_sv_el hf; obtain ⟨u4, e_u4, hf⟩ := hf
    refine sx_cv hm dX13_tellType_31 rs_RX13_618 mt_X13_classConstant [.int l1] [.ref l0] (b := l0) (ci := 13) rfl rfl rfl c3 (Nat.le_of_ble_eq_true rfl) (Nat.le_of_ble_eq_true rfl) (by omega) (by omega) (f_X13_classConstant_ok X (by omega) (by omega) nn l0 l1 u2 e_u4) ?_
    clear e_u4
    show mx_S X F L 483 34 [(0, .ref l0), (1, .int l1)] [.int u4.1, .ref l0] u4.2 0 0 (none, r, 0, 0)
    replace hf := mx_gd_el hf; obtain ⟨c5, hf⟩ := hf
    replace hf := mx_sv_el hf; obtain ⟨u6, e_u6, hf⟩ := hf
    refine sx_cv hm dX13_tellType_34 rs_RX13_731 mt_X13_tell [.int u4.1] [] (b := l0) (ci := 13) rfl rfl rfl c5 (Nat.le_of_ble_eq_true rfl) (Nat.le_of_ble_eq_true rfl) (by omega) (by omega) (f_X13_tell_ok X (by omega) (by omega) nn l0 u4.1 u4.2 e_u6) ?_
    clear e_u6
    show mx_S X F L 483 37 [(0, .ref l0), (1, .int l1)] [] u6 0 0 (none, r, 0, 0)
    cases hf
    exact sx_ret hm dX13_tellType_37 rfl
set_option maxHeartbeats 4000000 in
set_option maxRecDepth 20000 in
theorem f_X13_tellType_ok (X : Nat × (Nat → Int32)) {F L : Nat} (hF : 7 ≤ F) (hL : 150 ≤ L) (nn : Nat) (a0 : Nat) (a1 : Int32) (h : mx_H) {r : mx_H} (hf : f_X13_tellType nn a0 a1 h = some r) : mx_R X F L 483 [.ref a0, .int a1] h (none, r, 0, 0) := by
  have hm : mx_mt 483 = some (yX13_tellType, cX13_tellType, 2, none) := mt_X13_tellType
  show mx_S X F L 483 0 [(0, .ref a0), (1, .int a1)] [] h 0 0 (none, r, 0, 0)
  unfold f_X13_tellType at hf
  refine mx_S.pu (pc2 := 1) (lv2 := [(0, .ref a0), (1, .int a1)]) (st2 := [.ref a0]) hm dX13_tellType_0 rfl ?_
  refine mx_S.pu (pc2 := 2) (lv2 := [(0, .ref a0), (1, .int a1)]) (st2 := [.int a1, .ref a0]) hm dX13_tellType_1 rfl ?_
  refine sx_ic (v := 1) hm dX13_tellType_2 (by decide) ?_
  rcases mx_if_el hf with ⟨c9, hf⟩ | ⟨c9, hf⟩
  · refine sb_ic_gt hm dX13_tellType_3 (tgt := 10) rfl (fun _ => ?_) (fun z => absurd c9 z)
    refine mx_S.pu (pc2 := 11) (lv2 := [(0, .ref a0), (1, .int a1)]) (st2 := [.int a1, .ref a0]) hm dX13_tellType_10 rfl ?_
    refine sx_ic (v := 2) hm dX13_tellType_11 (by decide) ?_
    rcases mx_if_el hf with ⟨c8, hf⟩ | ⟨c8, hf⟩
    · refine sb_ic_ne hm dX13_tellType_12 (tgt := 19) rfl (fun _ => ?_) (fun z => absurd c8 z)
      refine sx_ic (v := 3) hm dX13_tellType_19 (by decide) ?_
      exact j_X13_tellType_20_ok X hF hL nn a0 a1 3 a0 h hf
    · refine sb_ic_ne hm dX13_tellType_12 (tgt := 19) rfl (fun z => absurd z c8) (fun _ => ?_)
      refine sx_ic (v := 2) hm dX13_tellType_15 (by decide) ?_
      refine mx_S.pu (pc2 := 20) (lv2 := [(0, .ref a0), (1, .int a1)]) (st2 := [.int 2, .ref a0]) hm dX13_tellType_16 rfl ?_
      exact j_X13_tellType_20_ok X hF hL nn a0 a1 2 a0 h hf
  · refine sb_ic_gt hm dX13_tellType_3 (tgt := 10) rfl (fun z => absurd z c9) (fun _ => ?_)
    refine sx_ic (v := 1) hm dX13_tellType_6 (by decide) ?_
    refine mx_S.pu (pc2 := 20) (lv2 := [(0, .ref a0), (1, .int a1)]) (st2 := [.int 1, .ref a0]) hm dX13_tellType_7 rfl ?_
    exact j_X13_tellType_20_ok X hF hL nn a0 a1 1 a0 h hf
