set_option maxHeartbeats 4000000 in
set_option maxRecDepth 20000 in
theorem f_X13_back_ok (X : Nat × (Nat → Int32)) {F L : Nat} (hF : 1 ≤ F) (hL : 22 ≤ L) (nn : Nat) (a0 : Nat) (a1 : Int32) (h : mx_H) {r : mx_H} (hf : f_X13_back nn a0 a1 h = some r) : mx_R X F L 592 [.ref a0, .int a1] h (none, r, 0, 0) := by
  have hm : mx_mt 592 = some (yX13_back, cX13_back, 3, none) := mt_X13_back
  show mx_S X F L 592 0 [(0, .ref a0), (1, .int a1)] [] h 0 0 (none, r, 0, 0)
  unfold f_X13_back at hf
  refine mx_S.pu (pc2 := 1) (lv2 := [(0, .ref a0), (1, .int a1)]) (st2 := [.int a1]) hm dX13_back_0 rfl ?_
  refine sx_si (v := 177) hm dX13_back_1 (by decide) ?_
  rcases mx_if_el hf with ⟨c21, hf⟩ | ⟨c21, hf⟩
  · refine sb_ic_ne hm dX13_back_4 (tgt := 11) rfl (fun _ => ?_) (fun z => absurd c21 z)
    refine mx_S.pu (pc2 := 12) (lv2 := [(0, .ref a0), (1, .int a1)]) (st2 := [.ref a0]) hm dX13_back_11 rfl ?_
    replace hf := mx_gd_el hf; obtain ⟨c19, hf⟩ := hf
    replace hf := mx_sv_el hf; obtain ⟨u20, e_u20, hf⟩ := hf
    refine sx_cv hm dX13_back_12 rs_RX13_1087 mt_X13_drop [] [] (b := a0) (ci := 13) rfl rfl rfl c19 (Nat.le_of_ble_eq_true rfl) (Nat.le_of_ble_eq_true rfl) (by omega) (by omega) (f_X13_drop_ok X (by omega) (by omega) nn a0 h e_u20) ?_
    clear e_u20
    show mx_S X F L 592 15 [(0, .ref a0), (1, .int a1)] [.int u20.1] u20.2 0 0 (none, r, 0, 0)
    exact j_X13_back_15_ok X hF hL nn a0 a1 u20.1 u20.2 hf
  · refine sb_ic_ne hm dX13_back_4 (tgt := 11) rfl (fun z => absurd z c21) (fun _ => ?_)
    refine sx_ic (v := 0) hm dX13_back_7 (by decide) ?_
    refine mx_S.pu (pc2 := 15) (lv2 := [(0, .ref a0), (1, .int a1)]) (st2 := [.int 0]) hm dX13_back_8 rfl ?_
    exact j_X13_back_15_ok X hF hL nn a0 a1 0 h hf
set_option maxHeartbeats 4000000 in
set_option maxRecDepth 20000 in
theorem f_X13_classAtText_ok (X : Nat × (Nat → Int32)) {F L : Nat} (hF : 6 ≤ F) (hL : 137 ≤ L) (nn : Nat) (a0 : Nat) (a1 : Int32) (a2 : Int32) (h : mx_H) {r : (Int32 × mx_H)} (hf : f_X13_classAtText nn a0 a1 a2 h = some r) : mx_R X F L 521 [.ref a0, .int a1, .int a2] h (some (.int r.1), r.2, 0, 0) := by
  have hm : mx_mt 521 = some (yX13_classAtText, cX13_classAtText, 4, (some .int)) := mt_X13_classAtText
  show mx_S X F L 521 0 [(0, .ref a0), (1, .int a1), (2, .int a2)] [] h 0 0 (some (.int r.1), r.2, 0, 0)
  unfold f_X13_classAtText at hf
  refine sx_si (v := 6000) hm dX13_classAtText_0 (by decide) ?_
  refine mx_S.pu (pc2 := 4) (lv2 := [(0, .ref a0), (1, .int a1), (2, .int a2)]) (st2 := [.int a1, .int 6000]) hm dX13_classAtText_3 rfl ?_
  replace hf := xl_el hf; obtain ⟨v1, e_v1, hf⟩ := hf
  refine mx_S.pu (pc2 := 5) (lv2 := [(0, .ref a0), (1, .int a1), (2, .int a2)]) (st2 := [.int v1]) hm dX13_classAtText_4 (by rw [← e_v1]; rfl) ?_
  clear e_v1
  refine mx_S.pu (pc2 := 6) (lv2 := [(0, .ref a0), (1, .int a1), (2, .int a2)]) (st2 := [.ref a0, .int v1]) hm dX13_classAtText_5 rfl ?_
  replace hf := mx_sv_el hf; obtain ⟨v2, e_v2, hf⟩ := hf
  refine sx_get hm dX13_classAtText_6 rs_RX13_215 (xgr_el e_v2) ?_
  clear e_v2
  refine sx_si (v := 256) hm dX13_classAtText_9 (by decide) ?_
  refine mx_S.pu (pc2 := 13) (lv2 := [(0, .ref a0), (1, .int a1), (2, .int a2)]) (st2 := [.int a1, .int 256, .ref v2, .int v1]) hm dX13_classAtText_12 rfl ?_
  replace hf := xl_el hf; obtain ⟨v3, e_v3, hf⟩ := hf
  refine mx_S.pu (pc2 := 14) (lv2 := [(0, .ref a0), (1, .int a1), (2, .int a2)]) (st2 := [.int v3, .ref v2, .int v1]) hm dX13_classAtText_13 (by rw [← e_v3]; rfl) ?_
  clear e_v3
  refine mx_S.pu (pc2 := 15) (lv2 := [(0, .ref a0), (1, .int a1), (2, .int a2)]) (st2 := [.int a2, .int v3, .ref v2, .int v1]) hm dX13_classAtText_14 rfl ?_
  replace hf := xl_el hf; obtain ⟨v4, e_v4, hf⟩ := hf
  refine mx_S.pu (pc2 := 16) (lv2 := [(0, .ref a0), (1, .int a1), (2, .int a2)]) (st2 := [.int v4, .ref v2, .int v1]) hm dX13_classAtText_15 (by rw [← e_v4]; rfl) ?_
  clear e_v4
  replace hf := mx_sv_el hf; obtain ⟨v5, e_v5, hf⟩ := hf
  refine sx_ald hm dX13_classAtText_16 e_v5 ?_
  clear e_v5
  replace hf := xl_el hf; obtain ⟨v6, e_v6, hf⟩ := hf
  refine mx_S.pu (pc2 := 18) (lv2 := [(0, .ref a0), (1, .int a1), (2, .int a2)]) (st2 := [.int v6]) hm dX13_classAtText_17 (by rw [← e_v6]; rfl) ?_
  clear e_v6
  refine mx_S.pu (pc2 := 19) (lv2 := [(3, .int v6), (0, .ref a0), (1, .int a1), (2, .int a2)]) (st2 := []) hm dX13_classAtText_18 rfl ?_
  refine mx_S.pu (pc2 := 20) (lv2 := [(3, .int v6), (0, .ref a0), (1, .int a1), (2, .int a2)]) (st2 := [.ref a0]) hm dX13_classAtText_19 rfl ?_
  refine mx_S.pu (pc2 := 21) (lv2 := [(3, .int v6), (0, .ref a0), (1, .int a1), (2, .int a2)]) (st2 := [.ref a0, .ref a0]) hm dX13_classAtText_20 rfl ?_
  replace hf := mx_sv_el hf; obtain ⟨v7, e_v7, hf⟩ := hf
  refine sx_get hm dX13_classAtText_21 rs_RX13_209 (xgr_el e_v7) ?_
  clear e_v7
  refine mx_S.pu (pc2 := 25) (lv2 := [(3, .int v6), (0, .ref a0), (1, .int a1), (2, .int a2)]) (st2 := [.int v6, .ref v7, .ref a0]) hm dX13_classAtText_24 rfl ?_
  refine sx_ic (v := 2) hm dX13_classAtText_25 (by decide) ?_
  replace hf := xl_el hf; obtain ⟨v8, e_v8, hf⟩ := hf
  refine mx_S.pu (pc2 := 27) (lv2 := [(3, .int v6), (0, .ref a0), (1, .int a1), (2, .int a2)]) (st2 := [.int v8, .ref v7, .ref a0]) hm dX13_classAtText_26 (by rw [← e_v8]; rfl) ?_
  clear e_v8
  refine mx_S.pu (pc2 := 28) (lv2 := [(3, .int v6), (0, .ref a0), (1, .int a1), (2, .int a2)]) (st2 := [.ref a0, .int v8, .ref v7, .ref a0]) hm dX13_classAtText_27 rfl ?_
  replace hf := mx_sv_el hf; obtain ⟨v9, e_v9, hf⟩ := hf
  refine sx_get hm dX13_classAtText_28 rs_RX13_209 (xgr_el e_v9) ?_
  clear e_v9
  refine mx_S.pu (pc2 := 32) (lv2 := [(3, .int v6), (0, .ref a0), (1, .int a1), (2, .int a2)]) (st2 := [.int v6, .ref v9, .int v8, .ref v7, .ref a0]) hm dX13_classAtText_31 rfl ?_
  refine sx_ic (v := 1) hm dX13_classAtText_32 (by decide) ?_
  replace hf := xl_el hf; obtain ⟨v10, e_v10, hf⟩ := hf
  refine mx_S.pu (pc2 := 34) (lv2 := [(3, .int v6), (0, .ref a0), (1, .int a1), (2, .int a2)]) (st2 := [.int v10, .ref v9, .int v8, .ref v7, .ref a0]) hm dX13_classAtText_33 (by rw [← e_v10]; rfl) ?_
  clear e_v10
  replace hf := mx_sv_el hf; obtain ⟨v11, e_v11, hf⟩ := hf
  refine sx_ald hm dX13_classAtText_34 e_v11 ?_
  clear e_v11
  replace hf := mx_gd_el hf; obtain ⟨c12, hf⟩ := hf
  replace hf := mx_sv_el hf; obtain ⟨u13, e_u13, hf⟩ := hf
  refine sx_cv hm dX13_classAtText_35 rs_RX13_849 mt_X13_classNamed [.ref v7, .int v8, .int v11] [] (b := a0) (ci := 13) rfl rfl rfl c12 (Nat.le_of_ble_eq_true rfl) (Nat.le_of_ble_eq_true rfl) (by omega) (by omega) (f_X13_classNamed_ok X (by omega) (by omega) nn a0 v7 v8 v11 h e_u13) ?_
  clear e_u13
  show mx_S X F L 521 38 [(3, .int v6), (0, .ref a0), (1, .int a1), (2, .int a2)] [.int u13.1] u13.2 0 0 (some (.int r.1), r.2, 0, 0)
  cases hf
  exact sx_ire hm dX13_classAtText_38 rfl rfl
set_option maxHeartbeats 4000000 in
set_option maxRecDepth 20000 in
theorem f_X13_byteAt_ok (X : Nat × (Nat → Int32)) {F L : Nat} (hF : 0 ≤ F) (hL : 0 ≤ L) (nn : Nat) (a0 : Nat) (a1 : Int32) (a2 : Int32) (h : mx_H) {r : (Int32 × mx_H)} (hf : f_X13_byteAt nn a0 a1 a2 h = some r) : mx_R X F L 520 [.ref a0, .int a1, .int a2] h (some (.int r.1), r.2, 0, 0) := by
  have hm : mx_mt 520 = some (yX13_byteAt, cX13_byteAt, 3, (some .int)) := mt_X13_byteAt
  show mx_S X F L 520 0 [(0, .ref a0), (1, .int a1), (2, .int a2)] [] h 0 0 (some (.int r.1), r.2, 0, 0)
  unfold f_X13_byteAt at hf
  refine mx_S.pu (pc2 := 1) (lv2 := [(0, .ref a0), (1, .int a1), (2, .int a2)]) (st2 := [.ref a0]) hm dX13_byteAt_0 rfl ?_
  replace hf := mx_sv_el hf; obtain ⟨v1, e_v1, hf⟩ := hf
  refine sx_get hm dX13_byteAt_1 rs_RX13_209 (xgr_el e_v1) ?_
  clear e_v1
  refine sx_si (v := 6000) hm dX13_byteAt_4 (by decide) ?_
  refine mx_S.pu (pc2 := 8) (lv2 := [(0, .ref a0), (1, .int a1), (2, .int a2)]) (st2 := [.int a1, .int 6000, .ref v1]) hm dX13_byteAt_7 rfl ?_
  replace hf := xl_el hf; obtain ⟨v2, e_v2, hf⟩ := hf
  refine mx_S.pu (pc2 := 9) (lv2 := [(0, .ref a0), (1, .int a1), (2, .int a2)]) (st2 := [.int v2, .ref v1]) hm dX13_byteAt_8 (by rw [← e_v2]; rfl) ?_
  clear e_v2
  refine mx_S.pu (pc2 := 10) (lv2 := [(0, .ref a0), (1, .int a1), (2, .int a2)]) (st2 := [.int a2, .int v2, .ref v1]) hm dX13_byteAt_9 rfl ?_
  replace hf := xl_el hf; obtain ⟨v3, e_v3, hf⟩ := hf
  refine mx_S.pu (pc2 := 11) (lv2 := [(0, .ref a0), (1, .int a1), (2, .int a2)]) (st2 := [.int v3, .ref v1]) hm dX13_byteAt_10 (by rw [← e_v3]; rfl) ?_
  clear e_v3
  replace hf := mx_sv_el hf; obtain ⟨v4, e_v4, hf⟩ := hf
  refine sx_ald hm dX13_byteAt_11 e_v4 ?_
  clear e_v4
  cases hf
  exact sx_ire hm dX13_byteAt_12 rfl rfl
set_option maxHeartbeats 4000000 in
set_option maxRecDepth 20000 in
theorem f_X13_textOfClass_ok (X : Nat × (Nat → Int32)) {F L : Nat} (hF : 1 ≤ F) (hL : 22 ≤ L) (nn : Nat) (a0 : Nat) (a1 : Int32) (a2 : Int32) (h : mx_H) {r : (Int32 × mx_H)} (hf : f_X13_textOfClass nn a0 a1 a2 h = some r) : mx_R X F L 522 [.ref a0, .int a1, .int a2] h (some (.int r.1), r.2, 0, 0) := by
  have hm : mx_mt 522 = some (yX13_textOfClass, cX13_textOfClass, 3, (some .int)) := mt_X13_textOfClass
  show mx_S X F L 522 0 [(0, .ref a0), (1, .int a1), (2, .int a2)] [] h 0 0 (some (.int r.1), r.2, 0, 0)
  unfold f_X13_textOfClass at hf
  refine mx_S.pu (pc2 := 1) (lv2 := [(0, .ref a0), (1, .int a1), (2, .int a2)]) (st2 := [.ref a0]) hm dX13_textOfClass_0 rfl ?_
  refine mx_S.pu (pc2 := 2) (lv2 := [(0, .ref a0), (1, .int a1), (2, .int a2)]) (st2 := [.int a1, .ref a0]) hm dX13_textOfClass_1 rfl ?_
  refine mx_S.pu (pc2 := 3) (lv2 := [(0, .ref a0), (1, .int a1), (2, .int a2)]) (st2 := [.ref a0, .int a1, .ref a0]) hm dX13_textOfClass_2 rfl ?_
  replace hf := mx_sv_el hf; obtain ⟨v1, e_v1, hf⟩ := hf
  refine sx_get hm dX13_textOfClass_3 rs_RX13_215 (xgr_el e_v1) ?_
  clear e_v1
  refine sx_si (v := 256) hm dX13_textOfClass_6 (by decide) ?_
  refine mx_S.pu (pc2 := 10) (lv2 := [(0, .ref a0), (1, .int a1), (2, .int a2)]) (st2 := [.int a1, .int 256, .ref v1, .int a1, .ref a0]) hm dX13_textOfClass_9 rfl ?_
  replace hf := xl_el hf; obtain ⟨v2, e_v2, hf⟩ := hf
  refine mx_S.pu (pc2 := 11) (lv2 := [(0, .ref a0), (1, .int a1), (2, .int a2)]) (st2 := [.int v2, .ref v1, .int a1, .ref a0]) hm dX13_textOfClass_10 (by rw [← e_v2]; rfl) ?_
  clear e_v2
  refine mx_S.pu (pc2 := 12) (lv2 := [(0, .ref a0), (1, .int a1), (2, .int a2)]) (st2 := [.int a2, .int v2, .ref v1, .int a1, .ref a0]) hm dX13_textOfClass_11 rfl ?_
  replace hf := xl_el hf; obtain ⟨v3, e_v3, hf⟩ := hf
  refine mx_S.pu (pc2 := 13) (lv2 := [(0, .ref a0), (1, .int a1), (2, .int a2)]) (st2 := [.int v3, .ref v1, .int a1, .ref a0]) hm dX13_textOfClass_12 (by rw [← e_v3]; rfl) ?_
  clear e_v3
  replace hf := mx_sv_el hf; obtain ⟨v4, e_v4, hf⟩ := hf
  refine sx_ald hm dX13_textOfClass_13 e_v4 ?_
  clear e_v4
  refine sx_ic (v := 1) hm dX13_textOfClass_14 (by decide) ?_
  replace hf := xl_el hf; obtain ⟨v5, e_v5, hf⟩ := hf
  refine mx_S.pu (pc2 := 16) (lv2 := [(0, .ref a0), (1, .int a1), (2, .int a2)]) (st2 := [.int v5, .int a1, .ref a0]) hm dX13_textOfClass_15 (by rw [← e_v5]; rfl) ?_
  clear e_v5
  replace hf := mx_gd_el hf; obtain ⟨c6, hf⟩ := hf
  replace hf := mx_sv_el hf; obtain ⟨u7, e_u7, hf⟩ := hf
  refine sx_cv hm dX13_textOfClass_16 rs_RX13_864 mt_X13_byteAt [.int a1, .int v5] [] (b := a0) (ci := 13) rfl rfl rfl c6 (Nat.le_of_ble_eq_true rfl) (Nat.le_of_ble_eq_true rfl) (by omega) (by omega) (f_X13_byteAt_ok X (by omega) (by omega) nn a0 a1 v5 h e_u7) ?_
  clear e_u7
  show mx_S X F L 522 19 [(0, .ref a0), (1, .int a1), (2, .int a2)] [.int u7.1] u7.2 0 0 (some (.int r.1), r.2, 0, 0)
  cases hf
  exact sx_ire hm dX13_textOfClass_19 rfl rfl
set_option maxHeartbeats 4000000 in
set_option maxRecDepth 20000 in
theorem f_X13_classIn_ok (X : Nat × (Nat → Int32)) {F L : Nat} (hF : 7 ≤ F) (hL : 160 ≤ L) (nn : Nat) (a0 : Nat) (a1 : Int32) (h : mx_H) {r : (Int32 × mx_H)} (hf : f_X13_classIn nn a0 a1 h = some r) : mx_R X F L 588 [.ref a0, .int a1] h (some (.int r.1), r.2, 0, 0) := by
  have hm : mx_mt 588 = some (yX13_classIn, cX13_classIn, 3, (some .int)) := mt_X13_classIn
  show mx_S X F L 588 0 [(0, .ref a0), (1, .int a1)] [] h 0 0 (some (.int r.1), r.2, 0, 0)
  unfold f_X13_classIn at hf
  refine mx_S.pu (pc2 := 1) (lv2 := [(0, .ref a0), (1, .int a1)]) (st2 := [.ref a0]) hm dX13_classIn_0 rfl ?_
  replace hf := mx_sv_el hf; obtain ⟨v1, e_v1, hf⟩ := hf
  refine sx_get hm dX13_classIn_1 rs_RX13_294 (xgr_el e_v1) ?_
  clear e_v1
  refine mx_S.pu (pc2 := 5) (lv2 := [(0, .ref a0), (1, .int a1)]) (st2 := [.ref a0, .ref v1]) hm dX13_classIn_4 rfl ?_
  replace hf := mx_sv_el hf; obtain ⟨v2, e_v2, hf⟩ := hf
  refine sx_get hm dX13_classIn_5 rs_RX13_1058 (xgi_el e_v2) ?_
  clear e_v2
  refine sx_ic (v := 1) hm dX13_classIn_8 (by decide) ?_
  replace hf := xl_el hf; obtain ⟨v3, e_v3, hf⟩ := hf
  refine mx_S.pu (pc2 := 10) (lv2 := [(0, .ref a0), (1, .int a1)]) (st2 := [.int v3, .ref v1]) hm dX13_classIn_9 (by rw [← e_v3]; rfl) ?_
  clear e_v3
  replace hf := mx_sv_el hf; obtain ⟨v4, e_v4, hf⟩ := hf
  refine sx_ald hm dX13_classIn_10 e_v4 ?_
  clear e_v4
  refine sx_bi (v := 8) hm dX13_classIn_11 (by decide) ?_
  replace hf := xl_el hf; obtain ⟨v5, e_v5, hf⟩ := hf
  refine mx_S.pu (pc2 := 14) (lv2 := [(0, .ref a0), (1, .int a1)]) (st2 := [.int v5]) hm dX13_classIn_13 (by rw [← e_v5]; rfl) ?_
  clear e_v5
  refine mx_S.pu (pc2 := 15) (lv2 := [(2, .int v5), (0, .ref a0), (1, .int a1)]) (st2 := []) hm dX13_classIn_14 rfl ?_
  refine mx_S.pu (pc2 := 16) (lv2 := [(2, .int v5), (0, .ref a0), (1, .int a1)]) (st2 := [.ref a0]) hm dX13_classIn_15 rfl ?_
  refine mx_S.pu (pc2 := 17) (lv2 := [(2, .int v5), (0, .ref a0), (1, .int a1)]) (st2 := [.int v5, .ref a0]) hm dX13_classIn_16 rfl ?_
  refine mx_S.pu (pc2 := 18) (lv2 := [(2, .int v5), (0, .ref a0), (1, .int a1)]) (st2 := [.ref a0, .int v5, .ref a0]) hm dX13_classIn_17 rfl ?_
  refine mx_S.pu (pc2 := 19) (lv2 := [(2, .int v5), (0, .ref a0), (1, .int a1)]) (st2 := [.int v5, .ref a0, .int v5, .ref a0]) hm dX13_classIn_18 rfl ?_
  refine mx_S.pu (pc2 := 20) (lv2 := [(2, .int v5), (0, .ref a0), (1, .int a1)]) (st2 := [.int a1, .int v5, .ref a0, .int v5, .ref a0]) hm dX13_classIn_19 rfl ?_
  replace hf := mx_gd_el hf; obtain ⟨c6, hf⟩ := hf
  replace hf := mx_sv_el hf; obtain ⟨u7, e_u7, hf⟩ := hf
  refine sx_cv hm dX13_classIn_20 rs_RX13_867 mt_X13_textOfClass [.int v5, .int a1] [.int v5, .ref a0] (b := a0) (ci := 13) rfl rfl rfl c6 (Nat.le_of_ble_eq_true rfl) (Nat.le_of_ble_eq_true rfl) (by omega) (by omega) (f_X13_textOfClass_ok X (by omega) (by omega) nn a0 v5 a1 h e_u7) ?_
  clear e_u7
  show mx_S X F L 588 23 [(2, .int v5), (0, .ref a0), (1, .int a1)] [.int u7.1, .int v5, .ref a0] u7.2 0 0 (some (.int r.1), r.2, 0, 0)
  replace hf := mx_gd_el hf; obtain ⟨c8, hf⟩ := hf
  replace hf := mx_sv_el hf; obtain ⟨u9, e_u9, hf⟩ := hf
  refine sx_cv hm dX13_classIn_23 rs_RX13_870 mt_X13_classAtText [.int v5, .int u7.1] [] (b := a0) (ci := 13) rfl rfl rfl c8 (Nat.le_of_ble_eq_true rfl) (Nat.le_of_ble_eq_true rfl) (by omega) (by omega) (f_X13_classAtText_ok X (by omega) (by omega) nn a0 v5 u7.1 u7.2 e_u9) ?_
  clear e_u9
  show mx_S X F L 588 26 [(2, .int v5), (0, .ref a0), (1, .int a1)] [.int u9.1] u9.2 0 0 (some (.int r.1), r.2, 0, 0)
  cases hf
  exact sx_ire hm dX13_classIn_26 rfl rfl
