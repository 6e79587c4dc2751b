set_option maxHeartbeats 4000000 in
set_option maxRecDepth 20000 in
theorem j_X13_is_26_ok (X : Nat × (Nat → Int32)) {F L : Nat} (hF : 12 ≤ F) (hL : 277 ≤ L) (nn : Nat) (l0 : Nat) (l1 : Int32) (l3 : Int32) (h : mx_H) {r : (Int32 × mx_H)} (hf : j_X13_is_26 nn l0 l1 l3 h = some r) : mx_S X F L 595 26 [(0, .ref l0), (1, .int l1), (3, .int l3)] [] h 0 0 (some (.int r.1), r.2, 0, 0) := by
  have hm : mx_mt 595 = some (yX13_is, cX13_is, 5, (some .boolean)) := mt_X13_is
  unfold j_X13_is_26 at hf
  refine sx_ic (v := 0) hm dX13_is_26 (by decide) ?_
  exact j_X13_is_27_ok X hF hL nn l0 l1 l3 0 h hf
set_option maxHeartbeats 4000000 in
set_option maxRecDepth 20000 in
theorem f_X13_is_ok (X : Nat × (Nat → Int32)) {F L : Nat} (hF : 12 ≤ F) (hL : 277 ≤ L) (nn : Nat) (a0 : Nat) (a1 : Int32) (a2 : Int32) (h : mx_H) {r : (Int32 × mx_H)} (hf : f_X13_is nn a0 a1 a2 h = some r) : mx_R X F L 595 [.ref a0, .int a1, .int a2] h (some (.int r.1), r.2, 0, 0) := by
  have hm : mx_mt 595 = some (yX13_is, cX13_is, 5, (some .boolean)) := mt_X13_is
  show mx_S X F L 595 0 [(0, .ref a0), (1, .int a1), (2, .int a2)] [] h 0 0 (some (.int r.1), r.2, 0, 0)
  unfold f_X13_is at hf
  refine mx_S.pu (pc2 := 1) (lv2 := [(0, .ref a0), (1, .int a1), (2, .int a2)]) (st2 := [.ref a0]) hm dX13_is_0 rfl ?_
  replace hf := mx_gd_el hf; obtain ⟨c13, hf⟩ := hf
  replace hf := mx_sv_el hf; obtain ⟨u14, e_u14, hf⟩ := hf
  refine sx_cv hm dX13_is_1 rs_RX13_1087 mt_X13_drop [] [] (b := a0) (ci := 13) rfl rfl rfl c13 (Nat.le_of_ble_eq_true rfl) (Nat.le_of_ble_eq_true rfl) (by omega) (by omega) (f_X13_drop_ok X (by omega) (by omega) nn a0 h e_u14) ?_
  clear e_u14
  show mx_S X F L 595 4 [(0, .ref a0), (1, .int a1), (2, .int a2)] [.int u14.1] u14.2 0 0 (some (.int r.1), r.2, 0, 0)
  refine mx_S.pu (pc2 := 5) (lv2 := [(3, .int u14.1), (0, .ref a0), (1, .int a1), (2, .int a2)]) (st2 := []) hm dX13_is_4 rfl ?_
  refine mx_S.pu (pc2 := 6) (lv2 := [(3, .int u14.1), (0, .ref a0), (1, .int a1), (2, .int a2)]) (st2 := [.int u14.1]) hm dX13_is_5 rfl ?_
  rcases mx_if_el hf with ⟨c20, hf⟩ | ⟨c20, hf⟩
  · refine sb_if_eq hm dX13_is_6 (tgt := 26) rfl (fun _ => ?_) (fun z => absurd c20 z)
    refine mx_S.ext [(0, .ref a0), (1, .int a1), (3, .int u14.1)] (mx_sub_pos [1, 2, 0] rfl (show ([3, 0, 1, 2] : List Nat).Nodup by decide)) ?_
    exact j_X13_is_26_ok X hF hL nn a0 a1 u14.1 u14.2 hf
  · refine sb_if_eq hm dX13_is_6 (tgt := 26) rfl (fun z => absurd z c20) (fun _ => ?_)
    refine mx_S.pu (pc2 := 10) (lv2 := [(3, .int u14.1), (0, .ref a0), (1, .int a1), (2, .int a2)]) (st2 := [.ref a0]) hm dX13_is_9 rfl ?_
    refine mx_S.pu (pc2 := 11) (lv2 := [(3, .int u14.1), (0, .ref a0), (1, .int a1), (2, .int a2)]) (st2 := [.int u14.1, .ref a0]) hm dX13_is_10 rfl ?_
    refine mx_S.pu (pc2 := 12) (lv2 := [(3, .int u14.1), (0, .ref a0), (1, .int a1), (2, .int a2)]) (st2 := [.ref a0, .int u14.1, .ref a0]) hm dX13_is_11 rfl ?_
    refine mx_S.pu (pc2 := 13) (lv2 := [(3, .int u14.1), (0, .ref a0), (1, .int a1), (2, .int a2)]) (st2 := [.int a2, .ref a0, .int u14.1, .ref a0]) hm dX13_is_12 rfl ?_
    replace hf := mx_gd_el hf; obtain ⟨c15, hf⟩ := hf
    replace hf := mx_sv_el hf; obtain ⟨u16, e_u16, hf⟩ := hf
    refine sx_cv hm dX13_is_13 rs_RX13_1125 mt_X13_classIn [.int a2] [.int u14.1, .ref a0] (b := a0) (ci := 13) rfl rfl rfl c15 (Nat.le_of_ble_eq_true rfl) (Nat.le_of_ble_eq_true rfl) (by omega) (by omega) (f_X13_classIn_ok X (by omega) (by omega) nn a0 a2 u14.2 e_u16) ?_
    clear e_u16
    show mx_S X F L 595 16 [(3, .int u14.1), (0, .ref a0), (1, .int a1), (2, .int a2)] [.int u16.1, .int u14.1, .ref a0] u16.2 0 0 (some (.int r.1), r.2, 0, 0)
    replace hf := mx_gd_el hf; obtain ⟨c17, hf⟩ := hf
    replace hf := mx_sv_el hf; obtain ⟨u18, e_u18, hf⟩ := hf
    refine sx_cv hm dX13_is_16 rs_RX13_1069 mt_X13_isOne [.int u14.1, .int u16.1] [] (b := a0) (ci := 13) rfl rfl rfl c17 (Nat.le_of_ble_eq_true rfl) (Nat.le_of_ble_eq_true rfl) (by omega) (by omega) (f_X13_isOne_ok X (by omega) (by omega) nn a0 u14.1 u16.1 u16.2 e_u18) ?_
    clear e_u18
    show mx_S X F L 595 19 [(3, .int u14.1), (0, .ref a0), (1, .int a1), (2, .int a2)] [.int u18.1] u18.2 0 0 (some (.int r.1), r.2, 0, 0)
    rcases mx_if_el hf with ⟨c19, hf⟩ | ⟨c19, hf⟩
    · refine sb_if_eq hm dX13_is_19 (tgt := 26) rfl (fun _ => ?_) (fun z => absurd c19 z)
      refine mx_S.ext [(0, .ref a0), (1, .int a1), (3, .int u14.1)] (mx_sub_pos [1, 2, 0] rfl (show ([3, 0, 1, 2] : List Nat).Nodup by decide)) ?_
      exact j_X13_is_26_ok X hF hL nn a0 a1 u14.1 u18.2 hf
    · refine sb_if_eq hm dX13_is_19 (tgt := 26) rfl (fun z => absurd z c19) (fun _ => ?_)
      refine sx_ic (v := 1) hm dX13_is_22 (by decide) ?_
      refine mx_S.pu (pc2 := 27) (lv2 := [(3, .int u14.1), (0, .ref a0), (1, .int a1), (2, .int a2)]) (st2 := [.int 1]) hm dX13_is_23 rfl ?_
      refine mx_S.ext [(0, .ref a0), (1, .int a1), (3, .int u14.1)] (mx_sub_pos [1, 2, 0] rfl (show ([3, 0, 1, 2] : List Nat).Nodup by decide)) ?_
      exact j_X13_is_27_ok X hF hL nn a0 a1 u14.1 1 u18.2 hf
