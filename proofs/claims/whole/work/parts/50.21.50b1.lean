set_option maxHeartbeats 4000000 in
set_option maxRecDepth 20000 in
theorem f_X13_holder_ok (X : Nat × (Nat → Int32)) {F L : Nat} (hF : 8 ≤ F) (hL : 181 ≤ L) (nn : Nat) (a0 : Nat) (a1 : Int32) (a2 : Int32) (a3 : Int32) (a4 : Int32) (h : mx_H) {r : (Int32 × mx_H)} (hf : f_X13_holder nn a0 a1 a2 a3 a4 h = some r) : mx_R X F L 532 [.ref a0, .int a1, .int a2, .int a3, .int a4] h (some (.int r.1), r.2, 0, 0) := by
  have hm : mx_mt 532 = some (yX13_holder, cX13_holder, 11, (some .int)) := mt_X13_holder
  show mx_S X F L 532 0 [(0, .ref a0), (1, .int a1), (2, .int a2), (3, .int a3), (4, .int a4)] [] h 0 0 (some (.int r.1), r.2, 0, 0)
  unfold f_X13_holder at hf
  refine mx_S.pu (pc2 := 1) (lv2 := [(0, .ref a0), (1, .int a1), (2, .int a2), (3, .int a3), (4, .int a4)]) (st2 := [.int a1]) hm dX13_holder_0 rfl ?_
  refine mx_S.pu (pc2 := 3) (lv2 := [(5, .int a1), (0, .ref a0), (1, .int a1), (2, .int a2), (3, .int a3), (4, .int a4)]) (st2 := []) hm dX13_holder_1 rfl ?_
  refine sx_ic (v := 0) hm dX13_holder_3 (by decide) ?_
  refine mx_S.pu (pc2 := 6) (lv2 := [(6, .int 0), (5, .int a1), (0, .ref a0), (1, .int a1), (2, .int a2), (3, .int a3), (4, .int a4)]) (st2 := []) hm dX13_holder_4 rfl ?_
  refine mx_S.ext [(0, .ref a0), (2, .int a2), (3, .int a3), (4, .int a4), (5, .int a1), (6, .int 0)] (mx_sub_pos [2, 4, 5, 6, 1, 0] rfl (show ([6, 5, 0, 1, 2, 3, 4] : List Nat).Nodup by decide)) ?_
  exact w_X13_holder_6_ok X hF hL nn nn a0 a2 a3 a4 a1 0 h _ hf
set_option maxHeartbeats 4000000 in
set_option maxRecDepth 20000 in
theorem f_X13_memberPart_ok (X : Nat × (Nat → Int32)) {F L : Nat} (hF : 1 ≤ F) (hL : 22 ≤ L) (nn : Nat) (a0 : Nat) (a1 : Int32) (a2 : Int32) (h : mx_H) {r : (Int32 × mx_H)} (hf : f_X13_memberPart nn a0 a1 a2 h = some r) : mx_R X F L 589 [.ref a0, .int a1, .int a2] h (some (.int r.1), r.2, 0, 0) := by
  have hm : mx_mt 589 = some (yX13_memberPart, cX13_memberPart, 4, (some .int)) := mt_X13_memberPart
  show mx_S X F L 589 0 [(0, .ref a0), (1, .int a1), (2, .int a2)] [] h 0 0 (some (.int r.1), r.2, 0, 0)
  unfold f_X13_memberPart at hf
  refine mx_S.pu (pc2 := 1) (lv2 := [(0, .ref a0), (1, .int a1), (2, .int a2)]) (st2 := [.ref a0]) hm dX13_memberPart_0 rfl ?_
  replace hf := mx_sv_el hf; obtain ⟨v1, e_v1, hf⟩ := hf
  refine sx_get hm dX13_memberPart_1 rs_RX13_294 (xgr_el e_v1) ?_
  clear e_v1
  refine mx_S.pu (pc2 := 5) (lv2 := [(0, .ref a0), (1, .int a1), (2, .int a2)]) (st2 := [.ref a0, .ref v1]) hm dX13_memberPart_4 rfl ?_
  replace hf := mx_sv_el hf; obtain ⟨v2, e_v2, hf⟩ := hf
  refine sx_get hm dX13_memberPart_5 rs_RX13_1058 (xgi_el e_v2) ?_
  clear e_v2
  refine sx_ic (v := 1) hm dX13_memberPart_8 (by decide) ?_
  replace hf := xl_el hf; obtain ⟨v3, e_v3, hf⟩ := hf
  refine mx_S.pu (pc2 := 10) (lv2 := [(0, .ref a0), (1, .int a1), (2, .int a2)]) (st2 := [.int v3, .ref v1]) hm dX13_memberPart_9 (by rw [← e_v3]; rfl) ?_
  clear e_v3
  replace hf := mx_sv_el hf; obtain ⟨v4, e_v4, hf⟩ := hf
  refine sx_ald hm dX13_memberPart_10 e_v4 ?_
  clear e_v4
  refine sx_bi (v := 8) hm dX13_memberPart_11 (by decide) ?_
  replace hf := xl_el hf; obtain ⟨v5, e_v5, hf⟩ := hf
  refine mx_S.pu (pc2 := 14) (lv2 := [(0, .ref a0), (1, .int a1), (2, .int a2)]) (st2 := [.int v5]) hm dX13_memberPart_13 (by rw [← e_v5]; rfl) ?_
  clear e_v5
  refine mx_S.pu (pc2 := 15) (lv2 := [(3, .int v5), (0, .ref a0), (1, .int a1), (2, .int a2)]) (st2 := []) hm dX13_memberPart_14 rfl ?_
  refine mx_S.pu (pc2 := 16) (lv2 := [(3, .int v5), (0, .ref a0), (1, .int a1), (2, .int a2)]) (st2 := [.ref a0]) hm dX13_memberPart_15 rfl ?_
  refine mx_S.pu (pc2 := 17) (lv2 := [(3, .int v5), (0, .ref a0), (1, .int a1), (2, .int a2)]) (st2 := [.int v5, .ref a0]) hm dX13_memberPart_16 rfl ?_
  refine mx_S.pu (pc2 := 18) (lv2 := [(3, .int v5), (0, .ref a0), (1, .int a1), (2, .int a2)]) (st2 := [.ref a0, .int v5, .ref a0]) hm dX13_memberPart_17 rfl ?_
  replace hf := mx_sv_el hf; obtain ⟨v6, e_v6, hf⟩ := hf
  refine sx_get hm dX13_memberPart_18 rs_RX13_215 (xgr_el e_v6) ?_
  clear e_v6
  refine sx_si (v := 256) hm dX13_memberPart_21 (by decide) ?_
  refine mx_S.pu (pc2 := 25) (lv2 := [(3, .int v5), (0, .ref a0), (1, .int a1), (2, .int a2)]) (st2 := [.int v5, .int 256, .ref v6, .int v5, .ref a0]) hm dX13_memberPart_24 rfl ?_
  replace hf := xl_el hf; obtain ⟨v7, e_v7, hf⟩ := hf
  refine mx_S.pu (pc2 := 26) (lv2 := [(3, .int v5), (0, .ref a0), (1, .int a1), (2, .int a2)]) (st2 := [.int v7, .ref v6, .int v5, .ref a0]) hm dX13_memberPart_25 (by rw [← e_v7]; rfl) ?_
  clear e_v7
  refine mx_S.pu (pc2 := 27) (lv2 := [(3, .int v5), (0, .ref a0), (1, .int a1), (2, .int a2)]) (st2 := [.int a1, .int v7, .ref v6, .int v5, .ref a0]) hm dX13_memberPart_26 rfl ?_
  replace hf := xl_el hf; obtain ⟨v8, e_v8, hf⟩ := hf
  refine mx_S.pu (pc2 := 28) (lv2 := [(3, .int v5), (0, .ref a0), (1, .int a1), (2, .int a2)]) (st2 := [.int v8, .ref v6, .int v5, .ref a0]) hm dX13_memberPart_27 (by rw [← e_v8]; rfl) ?_
  clear e_v8
  replace hf := mx_sv_el hf; obtain ⟨v9, e_v9, hf⟩ := hf
  refine sx_ald hm dX13_memberPart_28 e_v9 ?_
  clear e_v9
  refine sx_ic (v := 1) hm dX13_memberPart_29 (by decide) ?_
  replace hf := xl_el hf; obtain ⟨v10, e_v10, hf⟩ := hf
  refine mx_S.pu (pc2 := 31) (lv2 := [(3, .int v5), (0, .ref a0), (1, .int a1), (2, .int a2)]) (st2 := [.int v10, .int v5, .ref a0]) hm dX13_memberPart_30 (by rw [← e_v10]; rfl) ?_
  clear e_v10
  refine mx_S.pu (pc2 := 32) (lv2 := [(3, .int v5), (0, .ref a0), (1, .int a1), (2, .int a2)]) (st2 := [.int a2, .int v10, .int v5, .ref a0]) hm dX13_memberPart_31 rfl ?_
  replace hf := xl_el hf; obtain ⟨v11, e_v11, hf⟩ := hf
  refine mx_S.pu (pc2 := 33) (lv2 := [(3, .int v5), (0, .ref a0), (1, .int a1), (2, .int a2)]) (st2 := [.int v11, .int v5, .ref a0]) hm dX13_memberPart_32 (by rw [← e_v11]; rfl) ?_
  clear e_v11
  replace hf := mx_gd_el hf; obtain ⟨c12, hf⟩ := hf
  replace hf := mx_sv_el hf; obtain ⟨u13, e_u13, hf⟩ := hf
  refine sx_cv hm dX13_memberPart_33 rs_RX13_864 mt_X13_byteAt [.int v5, .int v11] [] (b := a0) (ci := 13) rfl rfl rfl c12 (Nat.le_of_ble_eq_true rfl) (Nat.le_of_ble_eq_true rfl) (by omega) (by omega) (f_X13_byteAt_ok X (by omega) (by omega) nn a0 v5 v11 h e_u13) ?_
  clear e_u13
  show mx_S X F L 589 36 [(3, .int v5), (0, .ref a0), (1, .int a1), (2, .int a2)] [.int u13.1] u13.2 0 0 (some (.int r.1), r.2, 0, 0)
  cases hf
  exact sx_ire hm dX13_memberPart_36 rfl rfl
