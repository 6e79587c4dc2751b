set_option maxHeartbeats 4000000 in
set_option maxRecDepth 20000 in
theorem f_X13_becomes_ok (X : Nat × (Nat → Int32)) {F L : Nat} (hF : 10 ≤ F) (hL : 232 ≤ L) (nn : Nat) (a0 : Nat) (a1 : Int32) (h : mx_H) {r : mx_H} (hf : f_X13_becomes nn a0 a1 h = some r) : mx_R X F L 552 [.ref a0, .int a1] h (none, r, 0, 0) := by
  have hm : mx_mt 552 = some (yX13_becomes, cX13_becomes, 5, none) := mt_X13_becomes
  show mx_S X F L 552 0 [(0, .ref a0), (1, .int a1)] [] h 0 0 (none, r, 0, 0)
  unfold f_X13_becomes at hf
  refine mx_S.pu (pc2 := 1) (lv2 := [(0, .ref a0), (1, .int a1)]) (st2 := [.int a1]) hm dX13_becomes_0 rfl ?_
  refine sx_ic (v := 2) hm dX13_becomes_1 (by decide) ?_
  replace hf := xl_el hf; obtain ⟨v36, e_v36, hf⟩ := hf
  refine mx_S.pu (pc2 := 3) (lv2 := [(0, .ref a0), (1, .int a1)]) (st2 := [.int v36]) hm dX13_becomes_2 (by rw [← e_v36]; rfl) ?_
  clear e_v36
  refine mx_S.pu (pc2 := 4) (lv2 := [(2, .int v36), (0, .ref a0), (1, .int a1)]) (st2 := []) hm dX13_becomes_3 rfl ?_
  refine mx_S.pu (pc2 := 5) (lv2 := [(2, .int v36), (0, .ref a0), (1, .int a1)]) (st2 := [.ref a0]) hm dX13_becomes_4 rfl ?_
  refine mx_S.pu (pc2 := 6) (lv2 := [(2, .int v36), (0, .ref a0), (1, .int a1)]) (st2 := [.ref a0, .ref a0]) hm dX13_becomes_5 rfl ?_
  replace hf := mx_sv_el hf; obtain ⟨v37, e_v37, hf⟩ := hf
  refine sx_get hm dX13_becomes_6 rs_RX13_932 (xgi_el e_v37) ?_
  clear e_v37
  refine mx_S.pu (pc2 := 10) (lv2 := [(2, .int v36), (0, .ref a0), (1, .int a1)]) (st2 := [.int v36, .int v37, .ref a0]) hm dX13_becomes_9 rfl ?_
  replace hf := mx_gd_el hf; obtain ⟨c38, hf⟩ := hf
  replace hf := mx_sv_el hf; obtain ⟨u39, e_u39, hf⟩ := hf
  refine sx_cv hm dX13_becomes_10 rs_RX13_864 mt_X13_byteAt [.int v37, .int v36] [] (b := a0) (ci := 13) rfl rfl rfl c38 (Nat.le_of_ble_eq_true rfl) (Nat.le_of_ble_eq_true rfl) (by omega) (by omega) (f_X13_byteAt_ok X (by omega) (by omega) nn a0 v37 v36 h e_u39) ?_
  clear e_u39
  show mx_S X F L 552 13 [(2, .int v36), (0, .ref a0), (1, .int a1)] [.int u39.1] u39.2 0 0 (none, r, 0, 0)
  refine mx_S.pu (pc2 := 14) (lv2 := [(3, .int u39.1), (2, .int v36), (0, .ref a0), (1, .int a1)]) (st2 := []) hm dX13_becomes_13 rfl ?_
  replace hf := xl_el hf; obtain ⟨v40, e_v40, hf⟩ := hf
  refine mx_S.pu (pc2 := 17) (lv2 := [(2, .int v40), (3, .int u39.1), (0, .ref a0), (1, .int a1)]) (st2 := []) hm dX13_becomes_14 (by rw [← e_v40]; rfl) ?_
  clear e_v40
  refine sx_ic (v := 0) hm dX13_becomes_17 (by decide) ?_
  refine mx_S.pu (pc2 := 20) (lv2 := [(4, .int 0), (2, .int v40), (3, .int u39.1), (0, .ref a0), (1, .int a1)]) (st2 := []) hm dX13_becomes_18 rfl ?_
  refine mx_S.ext [(0, .ref a0), (1, .int a1), (2, .int v40), (3, .int u39.1), (4, .int 0)] (mx_sub_pos [3, 4, 1, 2, 0] rfl (show ([4, 2, 3, 0, 1] : List Nat).Nodup by decide)) ?_
  exact w_X13_becomes_20_ok X hF hL nn nn a0 a1 v40 u39.1 0 u39.2 _ hf
set_option maxHeartbeats 4000000 in
set_option maxRecDepth 20000 in
theorem f_X13_frameMany_ok (X : Nat × (Nat → Int32)) {F L : Nat} (hF : 1 ≤ F) (hL : 22 ≤ L) (nn : Nat) (a0 : Nat) (h : mx_H) {r : (Int32 × mx_H)} (hf : f_X13_frameMany nn a0 h = some r) : mx_R X F L 547 [.ref a0] h (some (.int r.1), r.2, 0, 0) := by
  have hm : mx_mt 547 = some (yX13_frameMany, cX13_frameMany, 1, (some .int)) := mt_X13_frameMany
  show mx_S X F L 547 0 [(0, .ref a0)] [] h 0 0 (some (.int r.1), r.2, 0, 0)
  unfold f_X13_frameMany at hf
  refine mx_S.pu (pc2 := 1) (lv2 := [(0, .ref a0)]) (st2 := [.ref a0]) hm dX13_frameMany_0 rfl ?_
  refine mx_S.pu (pc2 := 2) (lv2 := [(0, .ref a0)]) (st2 := [.ref a0, .ref a0]) hm dX13_frameMany_1 rfl ?_
  replace hf := mx_sv_el hf; obtain ⟨v1, e_v1, hf⟩ := hf
  refine sx_get hm dX13_frameMany_2 rs_RX13_932 (xgi_el e_v1) ?_
  clear e_v1
  refine mx_S.pu (pc2 := 6) (lv2 := [(0, .ref a0)]) (st2 := [.ref a0, .int v1, .ref a0]) hm dX13_frameMany_5 rfl ?_
  replace hf := mx_sv_el hf; obtain ⟨v2, e_v2, hf⟩ := hf
  refine sx_get hm dX13_frameMany_6 rs_RX13_242 (xgr_el e_v2) ?_
  clear e_v2
  refine sx_bi (v := 12) hm dX13_frameMany_9 (by decide) ?_
  refine mx_S.pu (pc2 := 12) (lv2 := [(0, .ref a0)]) (st2 := [.ref a0, .int 12, .ref v2, .int v1, .ref a0]) hm dX13_frameMany_11 rfl ?_
  replace hf := mx_sv_el hf; obtain ⟨v3, e_v3, hf⟩ := hf
  refine sx_get hm dX13_frameMany_12 rs_RX13_932 (xgi_el e_v3) ?_
  clear e_v3
  replace hf := xl_el hf; obtain ⟨v4, e_v4, hf⟩ := hf
  refine mx_S.pu (pc2 := 16) (lv2 := [(0, .ref a0)]) (st2 := [.int v4, .ref v2, .int v1, .ref a0]) hm dX13_frameMany_15 (by rw [← e_v4]; rfl) ?_
  clear e_v4
  refine mx_S.pu (pc2 := 17) (lv2 := [(0, .ref a0)]) (st2 := [.ref a0, .int v4, .ref v2, .int v1, .ref a0]) hm dX13_frameMany_16 rfl ?_
  replace hf := mx_sv_el hf; obtain ⟨v5, e_v5, hf⟩ := hf
  refine sx_get hm dX13_frameMany_17 rs_RX13_940 (xgi_el e_v5) ?_
  clear e_v5
  replace hf := xl_el hf; obtain ⟨v6, e_v6, hf⟩ := hf
  refine mx_S.pu (pc2 := 21) (lv2 := [(0, .ref a0)]) (st2 := [.int v6, .ref v2, .int v1, .ref a0]) hm dX13_frameMany_20 (by rw [← e_v6]; rfl) ?_
  clear e_v6
  replace hf := mx_sv_el hf; obtain ⟨v7, e_v7, hf⟩ := hf
  refine sx_ald hm dX13_frameMany_21 e_v7 ?_
  clear e_v7
  replace hf := mx_gd_el hf; obtain ⟨c8, hf⟩ := hf
  replace hf := mx_sv_el hf; obtain ⟨u9, e_u9, hf⟩ := hf
  refine sx_cv hm dX13_frameMany_22 rs_RX13_864 mt_X13_byteAt [.int v1, .int v7] [] (b := a0) (ci := 13) rfl rfl rfl c8 (Nat.le_of_ble_eq_true rfl) (Nat.le_of_ble_eq_true rfl) (by omega) (by omega) (f_X13_byteAt_ok X (by omega) (by omega) nn a0 v1 v7 h e_u9) ?_
  clear e_u9
  show mx_S X F L 547 25 [(0, .ref a0)] [.int u9.1] u9.2 0 0 (some (.int r.1), r.2, 0, 0)
  cases hf
  exact sx_ire hm dX13_frameMany_25 rfl rfl
