set_option maxHeartbeats 4000000 in
set_option maxRecDepth 20000 in
theorem f_X13_wanted_ok (X : Nat × (Nat → Int32)) {F L : Nat} (hF : 12 ≤ F) (hL : 276 ≤ L) (nn : Nat) (a0 : Nat) (a1 : Int32) (h : mx_H) {r : (Int32 × mx_H)} (hf : f_X13_wanted nn a0 a1 h = some r) : mx_R X F L 567 [.ref a0, .int a1] h (some (.int r.1), r.2, 0, 0) := by
  have hm : mx_mt 567 = some (yX13_wanted, cX13_wanted, 5, (some .boolean)) := mt_X13_wanted
  show mx_S X F L 567 0 [(0, .ref a0), (1, .int a1)] [] h 0 0 (some (.int r.1), r.2, 0, 0)
  unfold f_X13_wanted at hf
  refine mx_S.pu (pc2 := 1) (lv2 := [(0, .ref a0), (1, .int a1)]) (st2 := [.ref a0]) hm dX13_wanted_0 rfl ?_
  refine mx_S.pu (pc2 := 2) (lv2 := [(0, .ref a0), (1, .int a1)]) (st2 := [.int a1, .ref a0]) hm dX13_wanted_1 rfl ?_
  replace hf := mx_gd_el hf; obtain ⟨c241, hf⟩ := hf
  replace hf := mx_sv_el hf; obtain ⟨u242, e_u242, hf⟩ := hf
  refine sx_cv hm dX13_wanted_2 rs_RX13_938 mt_X13_code [.int a1] [] (b := a0) (ci := 13) rfl rfl rfl c241 (Nat.le_of_ble_eq_true rfl) (Nat.le_of_ble_eq_true rfl) (by omega) (by omega) (f_X13_code_ok X (by omega) (by omega) nn a0 a1 h e_u242) ?_
  clear e_u242
  show mx_S X F L 567 5 [(0, .ref a0), (1, .int a1)] [.int u242.1] u242.2 0 0 (some (.int r.1), r.2, 0, 0)
  refine mx_S.pu (pc2 := 6) (lv2 := [(2, .int u242.1), (0, .ref a0), (1, .int a1)]) (st2 := []) hm dX13_wanted_5 rfl ?_
  refine mx_S.pu (pc2 := 7) (lv2 := [(2, .int u242.1), (0, .ref a0), (1, .int a1)]) (st2 := [.int u242.1]) hm dX13_wanted_6 rfl ?_
  replace hf := mx_sv_el hf; obtain ⟨u243, e_u243, hf⟩ := hf
  refine sx_cs hm dX13_wanted_7 rs_RX13_975 mt_X13_widthOf [.int u242.1] [] rfl rfl (Nat.le_of_ble_eq_true rfl) (Nat.le_of_ble_eq_true rfl) (by omega) (by omega) (f_X13_widthOf_ok X (by omega) (by omega) nn u242.1 u242.2 e_u243) ?_
  clear e_u243
  show mx_S X F L 567 10 [(2, .int u242.1), (0, .ref a0), (1, .int a1)] [.int u243.1] u243.2 0 0 (some (.int r.1), r.2, 0, 0)
  refine sx_ic (v := 1) hm dX13_wanted_10 (by decide) ?_
  rcases mx_if_el hf with ⟨c247, hf⟩ | ⟨c247, hf⟩
  · refine sb_ic_le hm dX13_wanted_11 (tgt := 24) rfl (fun _ => ?_) (fun z => absurd c247 z)
    refine sx_ic (v := 0) hm dX13_wanted_24 (by decide) ?_
    refine mx_S.ext [(0, .ref a0), (2, .int u242.1)] (mx_sub_pos [1, 0] rfl (show ([2, 0, 1] : List Nat).Nodup by decide)) ?_
    exact j_X13_wanted_25_ok X hF hL nn a0 u242.1 0 u243.2 hf
  · refine sb_ic_le hm dX13_wanted_11 (tgt := 24) rfl (fun z => absurd z c247) (fun _ => ?_)
    refine mx_S.pu (pc2 := 15) (lv2 := [(2, .int u242.1), (0, .ref a0), (1, .int a1)]) (st2 := [.ref a0]) hm dX13_wanted_14 rfl ?_
    refine mx_S.pu (pc2 := 16) (lv2 := [(2, .int u242.1), (0, .ref a0), (1, .int a1)]) (st2 := [.int a1, .ref a0]) hm dX13_wanted_15 rfl ?_
    refine sx_ic (v := 1) hm dX13_wanted_16 (by decide) ?_
    replace hf := xl_el hf; obtain ⟨v244, e_v244, hf⟩ := hf
    refine mx_S.pu (pc2 := 18) (lv2 := [(2, .int u242.1), (0, .ref a0), (1, .int a1)]) (st2 := [.int v244, .ref a0]) hm dX13_wanted_17 (by rw [← e_v244]; rfl) ?_
    clear e_v244
    replace hf := mx_gd_el hf; obtain ⟨c245, hf⟩ := hf
    replace hf := mx_sv_el hf; obtain ⟨u246, e_u246, hf⟩ := hf
    refine sx_cv hm dX13_wanted_18 rs_RX13_938 mt_X13_code [.int v244] [] (b := a0) (ci := 13) rfl rfl rfl c245 (Nat.le_of_ble_eq_true rfl) (Nat.le_of_ble_eq_true rfl) (by omega) (by omega) (f_X13_code_ok X (by omega) (by omega) nn a0 v244 u243.2 e_u246) ?_
    clear e_u246
    show mx_S X F L 567 21 [(2, .int u242.1), (0, .ref a0), (1, .int a1)] [.int u246.1] u246.2 0 0 (some (.int r.1), r.2, 0, 0)
    refine mx_S.pu (pc2 := 25) (lv2 := [(2, .int u242.1), (0, .ref a0), (1, .int a1)]) (st2 := [.int u246.1]) hm dX13_wanted_21 rfl ?_
    refine mx_S.ext [(0, .ref a0), (2, .int u242.1)] (mx_sub_pos [1, 0] rfl (show ([2, 0, 1] : List Nat).Nodup by decide)) ?_
    exact j_X13_wanted_25_ok X hF hL nn a0 u242.1 u246.1 u246.2 hf
