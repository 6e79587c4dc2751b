set_option maxHeartbeats 4000000 in
set_option maxRecDepth 20000 in
theorem j_X10_readNew_28_ok (X : Nat × (Nat → Int32)) {F L d : Nat} (hF : 5 + (d + 1) ≤ F) (hL : 152 + (d + 1) * 30 ≤ L) (nn : Nat) {rc : tg_X10_readValue} (hrc : hg5_X10_readValue X d rc) (l0 : Nat) (l1 : Int32) (l2 : Int32) (s0 : Int32) (h : mx_H) {r : mx_H} (hf : j_X10_readNew_28 nn rc l0 l1 l2 s0 h = some r) : mx_S X F L 297 28 [(0, .ref l0), (1, .int l1), (2, .int l2)] [.int s0] h 0 0 (none, r, 0, 0) := by
  have hm : mx_mt 297 = some (yX10_readNew, cX10_readNew, 5, none) := mt_X10_readNew
  unfold j_X10_readNew_28 at hf
  refine mx_S.pu (pc2 := 29) (lv2 := [(3, .int s0), (0, .ref l0), (1, .int l1), (2, .int l2)]) (st2 := []) hm dX10_readNew_28 rfl ?_
  refine mx_S.pu (pc2 := 30) (lv2 := [(3, .int s0), (0, .ref l0), (1, .int l1), (2, .int l2)]) (st2 := [.int s0]) hm dX10_readNew_29 rfl ?_
  rcases mx_if_el hf with ⟨c51, hf⟩ | ⟨c51, hf⟩
  · refine sb_if_eq hm dX10_readNew_30 (tgt := 37) rfl (fun _ => ?_) (fun z => absurd c51 z)
    refine mx_S.pu (pc2 := 38) (lv2 := [(3, .int s0), (0, .ref l0), (1, .int l1), (2, .int l2)]) (st2 := [.ref l0]) hm dX10_readNew_37 rfl ?_
    refine mx_S.pu (pc2 := 39) (lv2 := [(3, .int s0), (0, .ref l0), (1, .int l1), (2, .int l2)]) (st2 := [.int l2, .ref l0]) hm dX10_readNew_38 rfl ?_
    refine mx_S.pu (pc2 := 40) (lv2 := [(3, .int s0), (0, .ref l0), (1, .int l1), (2, .int l2)]) (st2 := [.int l2, .int l2, .ref l0]) hm dX10_readNew_39 rfl ?_
    replace hf := mx_gd_el hf; obtain ⟨c49, hf⟩ := hf
    replace hf := mx_sv_el hf; obtain ⟨u50, e_u50, hf⟩ := hf
    refine sx_cv hm dX10_readNew_40 rs_RX10_168 mt_X10_readNamedClass [.int l2, .int l2] [] (b := l0) (ci := 10) rfl rfl rfl c49 (Nat.le_of_ble_eq_true rfl) (Nat.le_of_ble_eq_true rfl) (by omega) (by omega) (f_X10_readNamedClass_ok X (by omega) (by omega) nn l0 l2 l2 h e_u50) ?_
    clear e_u50
    show mx_S X F L 297 43 [(3, .int s0), (0, .ref l0), (1, .int l1), (2, .int l2)] [.int u50.1] u50.2 0 0 (none, r, 0, 0)
    refine mx_S.ext [(0, .ref l0), (1, .int l1), (2, .int l2), (3, .int s0)] (mx_sub_pos [1, 2, 3, 0] rfl (show ([3, 0, 1, 2] : List Nat).Nodup by decide)) ?_
    exact j_X10_readNew_43_ok X hF hL nn hrc l0 l1 l2 s0 u50.1 u50.2 hf
  · refine sb_if_eq hm dX10_readNew_30 (tgt := 37) rfl (fun z => absurd z c51) (fun _ => ?_)
    refine sx_ic (v := 0) hm dX10_readNew_33 (by decide) ?_
    refine mx_S.pu (pc2 := 43) (lv2 := [(3, .int s0), (0, .ref l0), (1, .int l1), (2, .int l2)]) (st2 := [.int 0]) hm dX10_readNew_34 rfl ?_
    refine mx_S.ext [(0, .ref l0), (1, .int l1), (2, .int l2), (3, .int s0)] (mx_sub_pos [1, 2, 3, 0] rfl (show ([3, 0, 1, 2] : List Nat).Nodup by decide)) ?_
    exact j_X10_readNew_43_ok X hF hL nn hrc l0 l1 l2 s0 0 h hf
set_option maxHeartbeats 4000000 in
set_option maxRecDepth 20000 in
theorem o_X10_readNew_ok (X : Nat × (Nat → Int32)) {F L d : Nat} (hF : 5 + (d + 1) ≤ F) (hL : 152 + (d + 1) * 30 ≤ L) (nn : Nat) {rc : tg_X10_readValue} (hrc : hg5_X10_readValue X d rc) (a0 : Nat) (a1 : Int32) (h : mx_H) {r : mx_H} (hf : o_X10_readNew nn rc a0 a1 h = some r) : mx_R X F L 297 [.ref a0, .int a1] h (none, r, 0, 0) := by
  have hm : mx_mt 297 = some (yX10_readNew, cX10_readNew, 5, none) := mt_X10_readNew
  show mx_S X F L 297 0 [(0, .ref a0), (1, .int a1)] [] h 0 0 (none, r, 0, 0)
  unfold o_X10_readNew at hf
  refine mx_S.pu (pc2 := 1) (lv2 := [(0, .ref a0), (1, .int a1)]) (st2 := [.ref a0]) hm dX10_readNew_0 rfl ?_
  replace hf := mx_sv_el hf; obtain ⟨v52, e_v52, hf⟩ := hf
  refine sx_get hm dX10_readNew_1 rs_RX10_31 (xgr_el e_v52) ?_
  clear e_v52
  replace hf := mx_sv_el hf; obtain ⟨v53, e_v53, hf⟩ := hf
  refine sx_get hm dX10_readNew_4 rs_RX10_72 (xgi_el e_v53) ?_
  clear e_v53
  refine sx_ic (v := 1) hm dX10_readNew_7 (by decide) ?_
  replace hf := xl_el hf; obtain ⟨v54, e_v54, hf⟩ := hf
  refine mx_S.pu (pc2 := 9) (lv2 := [(0, .ref a0), (1, .int a1)]) (st2 := [.int v54]) hm dX10_readNew_8 (by rw [← e_v54]; rfl) ?_
  clear e_v54
  refine mx_S.pu (pc2 := 10) (lv2 := [(2, .int v54), (0, .ref a0), (1, .int a1)]) (st2 := []) hm dX10_readNew_9 rfl ?_
  refine mx_S.pu (pc2 := 11) (lv2 := [(2, .int v54), (0, .ref a0), (1, .int a1)]) (st2 := [.ref a0]) hm dX10_readNew_10 rfl ?_
  replace hf := mx_sv_el hf; obtain ⟨v55, e_v55, hf⟩ := hf
  refine sx_get hm dX10_readNew_11 rs_RX10_31 (xgr_el e_v55) ?_
  clear e_v55
  refine mx_S.pu (pc2 := 15) (lv2 := [(2, .int v54), (0, .ref a0), (1, .int a1)]) (st2 := [.int v54, .ref v55]) hm dX10_readNew_14 rfl ?_
  replace hf := mx_gd_el hf; obtain ⟨c56, hf⟩ := hf
  replace hf := mx_sv_el hf; obtain ⟨u57, e_u57, hf⟩ := hf
  refine sx_cv hm dX10_readNew_15 rs_RX10_224 mt_X9_kindAt [.int v54] [] (b := v55) (ci := 9) rfl rfl rfl c56 (Nat.le_of_ble_eq_true rfl) (Nat.le_of_ble_eq_true rfl) (by omega) (by omega) (f_X9_kindAt_ok X (by omega) (by omega) nn v55 v54 h e_u57) ?_
  clear e_u57
  show mx_S X F L 297 18 [(2, .int v54), (0, .ref a0), (1, .int a1)] [.int u57.1] u57.2 0 0 (none, r, 0, 0)
  refine sx_bi (v := 20) hm dX10_readNew_18 (by decide) ?_
  rcases mx_if_el hf with ⟨c58, hf⟩ | ⟨c58, hf⟩
  · refine sb_ic_ne hm dX10_readNew_20 (tgt := 27) rfl (fun _ => ?_) (fun z => absurd c58 z)
    refine sx_ic (v := 0) hm dX10_readNew_27 (by decide) ?_
    refine mx_S.ext [(0, .ref a0), (1, .int a1), (2, .int v54)] (mx_sub_pos [1, 2, 0] rfl (show ([2, 0, 1] : List Nat).Nodup by decide)) ?_
    exact j_X10_readNew_28_ok X hF hL nn hrc a0 a1 v54 0 u57.2 hf
  · refine sb_ic_ne hm dX10_readNew_20 (tgt := 27) rfl (fun z => absurd z c58) (fun _ => ?_)
    refine sx_ic (v := 1) hm dX10_readNew_23 (by decide) ?_
    refine mx_S.pu (pc2 := 28) (lv2 := [(2, .int v54), (0, .ref a0), (1, .int a1)]) (st2 := [.int 1]) hm dX10_readNew_24 rfl ?_
    refine mx_S.ext [(0, .ref a0), (1, .int a1), (2, .int v54)] (mx_sub_pos [1, 2, 0] rfl (show ([2, 0, 1] : List Nat).Nodup by decide)) ?_
    exact j_X10_readNew_28_ok X hF hL nn hrc a0 a1 v54 1 u57.2 hf
set_option maxHeartbeats 4000000 in
set_option maxRecDepth 20000 in
theorem j_X10_readElement_67_ok (X : Nat × (Nat → Int32)) {F L d : Nat} (hF : 5 + (d + 1) ≤ F) (hL : 152 + (d + 1) * 30 ≤ L) (nn : Nat) {rc : tg_X10_readValue} (hrc : hg5_X10_readValue X d rc) (l0 : Nat) (l2 : Int32) (l3 : Int32) (s0 : Int32) (s1 : Nat) (h : mx_H) {r : mx_H} (hf : j_X10_readElement_67 nn rc l0 l2 l3 s0 s1 h = some r) : mx_S X F L 298 67 [(0, .ref l0), (2, .int l2), (3, .int l3)] [.int s0, .ref s1] h 0 0 (none, r, 0, 0) := by
  have hm : mx_mt 298 = some (yX10_readElement, cX10_readElement, 4, none) := mt_X10_readElement
  unfold j_X10_readElement_67 at hf
  refine mx_S.pu (pc2 := 68) (lv2 := [(0, .ref l0), (2, .int l2), (3, .int l3)]) (st2 := [.int l2, .int s0, .ref s1]) hm dX10_readElement_67 rfl ?_
  replace hf := mx_gd_el hf; obtain ⟨c1, hf⟩ := hf
  replace hf := mx_sv_el hf; obtain ⟨u2, e_u2, hf⟩ := hf
  refine sx_cv hm dX10_readElement_68 rs_RX10_80 mt_X10_wantType [.int s0, .int l2] [] (b := s1) (ci := 10) rfl rfl rfl c1 (Nat.le_of_ble_eq_true rfl) (Nat.le_of_ble_eq_true rfl) (by omega) (by omega) (f_X10_wantType_ok X (by omega) (by omega) nn s1 s0 l2 h e_u2) ?_
  clear e_u2
  show mx_S X F L 298 71 [(0, .ref l0), (2, .int l2), (3, .int l3)] [] u2 0 0 (none, r, 0, 0)
  refine mx_S.pu (pc2 := 72) (lv2 := [(0, .ref l0), (2, .int l2), (3, .int l3)]) (st2 := [.ref l0]) hm dX10_readElement_71 rfl ?_
  refine mx_S.pu (pc2 := 73) (lv2 := [(0, .ref l0), (2, .int l2), (3, .int l3)]) (st2 := [.int l3, .ref l0]) hm dX10_readElement_72 rfl ?_
  replace hf := mx_sv_el hf; obtain ⟨u3, e_u3, hf⟩ := hf
  refine sx_cs hm dX10_readElement_73 rs_RX10_245 mt_X4_elementOf [.int l3] [.ref l0] rfl rfl (Nat.le_of_ble_eq_true rfl) (Nat.le_of_ble_eq_true rfl) (by omega) (by omega) (f_X4_elementOf_ok X (by omega) (by omega) nn l3 u2 e_u3) ?_
  clear e_u3
  show mx_S X F L 298 76 [(0, .ref l0), (2, .int l2), (3, .int l3)] [.int u3.1, .ref l0] u3.2 0 0 (none, r, 0, 0)
  replace hf := mx_sv_el hf; obtain ⟨h4, e_h4, hf⟩ := hf
  refine sx_put hm dX10_readElement_76 rs_RX10_75 ft_10_12 ⟨rfl, rfl⟩ (fun z => by cases z) e_h4 ?_
  clear e_h4
  refine mx_S.pu (pc2 := 80) (lv2 := [(0, .ref l0), (2, .int l2), (3, .int l3)]) (st2 := [.ref l0]) hm dX10_readElement_79 rfl ?_
  refine sx_ic (v := 4) hm dX10_readElement_80 (by decide) ?_
  replace hf := mx_sv_el hf; obtain ⟨h5, e_h5, hf⟩ := hf
  refine sx_put hm dX10_readElement_81 rs_RX10_133 ft_10_11 ⟨rfl, rfl⟩ (fun z => by cases z) e_h5 ?_
  clear e_h5
  cases hf
  exact sx_ret hm dX10_readElement_84 rfl
set_option maxHeartbeats 4000000 in
set_option maxRecDepth 20000 in
theorem j_X10_readElement_66_ok (X : Nat × (Nat → Int32)) {F L d : Nat} (hF : 5 + (d + 1) ≤ F) (hL : 152 + (d + 1) * 30 ≤ L) (nn : Nat) {rc : tg_X10_readValue} (hrc : hg5_X10_readValue X d rc) (l0 : Nat) (l2 : Int32) (l3 : Int32) (s0 : Nat) (h : mx_H) {r : mx_H} (hf : j_X10_readElement_66 nn rc l0 l2 l3 s0 h = some r) : mx_S X F L 298 66 [(0, .ref l0), (2, .int l2), (3, .int l3)] [.ref s0] h 0 0 (none, r, 0, 0) := by
  have hm : mx_mt 298 = some (yX10_readElement, cX10_readElement, 4, none) := mt_X10_readElement
  unfold j_X10_readElement_66 at hf
  refine sx_ic (v := 0) hm dX10_readElement_66 (by decide) ?_
  exact j_X10_readElement_67_ok X hF hL nn hrc l0 l2 l3 0 s0 h hf
set_option maxHeartbeats 4000000 in
set_option maxRecDepth 20000 in
theorem o_X10_readElement_ok (X : Nat × (Nat → Int32)) {F L d : Nat} (hF : 5 + (d + 1) ≤ F) (hL : 152 + (d + 1) * 30 ≤ L) (nn : Nat) {rc : tg_X10_readValue} (hrc : hg5_X10_readValue X d rc) (a0 : Nat) (a1 : Int32) (h : mx_H) {r : mx_H} (hf : o_X10_readElement nn rc a0 a1 h = some r) : mx_R X F L 298 [.ref a0, .int a1] h (none, r, 0, 0) := by
  have hm : mx_mt 298 = some (yX10_readElement, cX10_readElement, 4, none) := mt_X10_readElement
  show mx_S X F L 298 0 [(0, .ref a0), (1, .int a1)] [] h 0 0 (none, r, 0, 0)
  unfold o_X10_readElement at hf
  refine mx_S.pu (pc2 := 1) (lv2 := [(0, .ref a0), (1, .int a1)]) (st2 := [.ref a0]) hm dX10_readElement_0 rfl ?_
  replace hf := mx_sv_el hf; obtain ⟨v6, e_v6, hf⟩ := hf
  refine sx_get hm dX10_readElement_1 rs_RX10_31 (xgr_el e_v6) ?_
  clear e_v6
  replace hf := mx_sv_el hf; obtain ⟨v7, e_v7, hf⟩ := hf
  refine sx_get hm dX10_readElement_4 rs_RX10_72 (xgi_el e_v7) ?_
  clear e_v7
  refine mx_S.pu (pc2 := 8) (lv2 := [(2, .int v7), (0, .ref a0), (1, .int a1)]) (st2 := []) hm dX10_readElement_7 rfl ?_
  refine mx_S.pu (pc2 := 9) (lv2 := [(2, .int v7), (0, .ref a0), (1, .int a1)]) (st2 := [.ref a0]) hm dX10_readElement_8 rfl ?_
  replace hf := mx_sv_el hf; obtain ⟨v8, e_v8, hf⟩ := hf
  refine sx_get hm dX10_readElement_9 rs_RX10_75 (xgi_el e_v8) ?_
  clear e_v8
  refine mx_S.pu (pc2 := 13) (lv2 := [(3, .int v8), (2, .int v7), (0, .ref a0), (1, .int a1)]) (st2 := []) hm dX10_readElement_12 rfl ?_
  refine mx_S.pu (pc2 := 14) (lv2 := [(3, .int v8), (2, .int v7), (0, .ref a0), (1, .int a1)]) (st2 := [.ref a0]) hm dX10_readElement_13 rfl ?_
  replace hf := mx_sv_el hf; obtain ⟨v9, e_v9, hf⟩ := hf
  refine sx_get hm dX10_readElement_14 rs_RX10_31 (xgr_el e_v9) ?_
  clear e_v9
  refine mx_S.pu (pc2 := 18) (lv2 := [(3, .int v8), (2, .int v7), (0, .ref a0), (1, .int a1)]) (st2 := [.ref v9, .ref v9]) hm dX10_readElement_17 rfl ?_
  replace hf := mx_sv_el hf; obtain ⟨v10, e_v10, hf⟩ := hf
  refine sx_get hm dX10_readElement_18 rs_RX10_72 (xgi_el e_v10) ?_
  clear e_v10
  refine sx_ic (v := 1) hm dX10_readElement_21 (by decide) ?_
  replace hf := xl_el hf; obtain ⟨v11, e_v11, hf⟩ := hf
  refine mx_S.pu (pc2 := 23) (lv2 := [(3, .int v8), (2, .int v7), (0, .ref a0), (1, .int a1)]) (st2 := [.int v11, .ref v9]) hm dX10_readElement_22 (by rw [← e_v11]; rfl) ?_
  clear e_v11
  replace hf := mx_sv_el hf; obtain ⟨h12, e_h12, hf⟩ := hf
  refine sx_put hm dX10_readElement_23 rs_RX10_72 ft_9_10 ⟨rfl, rfl⟩ (fun z => by cases z) e_h12 ?_
  clear e_h12
  refine mx_S.pu (pc2 := 27) (lv2 := [(3, .int v8), (2, .int v7), (0, .ref a0), (1, .int a1)]) (st2 := [.ref a0]) hm dX10_readElement_26 rfl ?_
  refine mx_S.pu (pc2 := 28) (lv2 := [(3, .int v8), (2, .int v7), (0, .ref a0), (1, .int a1)]) (st2 := [.int a1, .ref a0]) hm dX10_readElement_27 rfl ?_
  replace hf := mx_gd_el hf; obtain ⟨c13, hf⟩ := hf
  replace hf := mx_sv_el hf; obtain ⟨u14, e_u14, hf⟩ := hf
  refine sx_cv hm dX10_readElement_28 rs_RX10_68 mt_X10_readValue [.int a1] [] (b := a0) (ci := 10) rfl rfl rfl c13 (Nat.le_of_ble_eq_true rfl) (Nat.le_of_ble_eq_true rfl) (by omega) (by omega) (hrc.1 (by omega) (by omega) a0 a1 h12 e_u14) ?_
  clear e_u14
  show mx_S X F L 298 31 [(3, .int v8), (2, .int v7), (0, .ref a0), (1, .int a1)] [] u14 0 0 (none, r, 0, 0)
  refine mx_S.pu (pc2 := 32) (lv2 := [(3, .int v8), (2, .int v7), (0, .ref a0), (1, .int a1)]) (st2 := [.ref a0]) hm dX10_readElement_31 rfl ?_
  replace hf := mx_sv_el hf; obtain ⟨v15, e_v15, hf⟩ := hf
  refine sx_get hm dX10_readElement_32 rs_RX10_31 (xgr_el e_v15) ?_
  clear e_v15
  refine mx_S.pu (pc2 := 36) (lv2 := [(3, .int v8), (2, .int v7), (0, .ref a0), (1, .int a1)]) (st2 := [.ref v15, .ref v15]) hm dX10_readElement_35 rfl ?_
  replace hf := mx_sv_el hf; obtain ⟨v16, e_v16, hf⟩ := hf
  refine sx_get hm dX10_readElement_36 rs_RX10_72 (xgi_el e_v16) ?_
  clear e_v16
  refine sx_ic (v := 1) hm dX10_readElement_39 (by decide) ?_
  replace hf := xl_el hf; obtain ⟨v17, e_v17, hf⟩ := hf
  refine mx_S.pu (pc2 := 41) (lv2 := [(3, .int v8), (2, .int v7), (0, .ref a0), (1, .int a1)]) (st2 := [.int v17, .ref v15]) hm dX10_readElement_40 (by rw [← e_v17]; rfl) ?_
  clear e_v17
  replace hf := mx_sv_el hf; obtain ⟨h18, e_h18, hf⟩ := hf
  refine sx_put hm dX10_readElement_41 rs_RX10_72 ft_9_10 ⟨rfl, rfl⟩ (fun z => by cases z) e_h18 ?_
  clear e_h18
  refine mx_S.pu (pc2 := 45) (lv2 := [(3, .int v8), (2, .int v7), (0, .ref a0), (1, .int a1)]) (st2 := [.ref a0]) hm dX10_readElement_44 rfl ?_
  refine mx_S.pu (pc2 := 46) (lv2 := [(3, .int v8), (2, .int v7), (0, .ref a0), (1, .int a1)]) (st2 := [.int v8, .ref a0]) hm dX10_readElement_45 rfl ?_
  replace hf := mx_sv_el hf; obtain ⟨u19, e_u19, hf⟩ := hf
  refine sx_cs hm dX10_readElement_46 rs_RX10_242 mt_X4_isArray [.int v8] [.ref a0] rfl rfl (Nat.le_of_ble_eq_true rfl) (Nat.le_of_ble_eq_true rfl) (by omega) (by omega) (f_X4_isArray_ok X (by omega) (by omega) nn v8 h18 e_u19) ?_
  clear e_u19
  show mx_S X F L 298 49 [(3, .int v8), (2, .int v7), (0, .ref a0), (1, .int a1)] [.int u19.1, .ref a0] u19.2 0 0 (none, r, 0, 0)
  rcases mx_if_el hf with ⟨c22, hf⟩ | ⟨c22, hf⟩
  · refine sb_if_eq hm dX10_readElement_49 (tgt := 66) rfl (fun _ => ?_) (fun z => absurd c22 z)
    refine mx_S.ext [(0, .ref a0), (2, .int v7), (3, .int v8)] (mx_sub_pos [2, 1, 0] rfl (show ([3, 2, 0, 1] : List Nat).Nodup by decide)) ?_
    exact j_X10_readElement_66_ok X hF hL nn hrc a0 v7 v8 a0 u19.2 hf
  · refine sb_if_eq hm dX10_readElement_49 (tgt := 66) rfl (fun z => absurd z c22) (fun _ => ?_)
    refine mx_S.pu (pc2 := 53) (lv2 := [(3, .int v8), (2, .int v7), (0, .ref a0), (1, .int a1)]) (st2 := [.ref a0, .ref a0]) hm dX10_readElement_52 rfl ?_
    replace hf := mx_sv_el hf; obtain ⟨v20, e_v20, hf⟩ := hf
    refine sx_get hm dX10_readElement_53 rs_RX10_75 (xgi_el e_v20) ?_
    clear e_v20
    refine sx_si (v := 301) hm dX10_readElement_56 (by decide) ?_
    rcases mx_if_el hf with ⟨c21, hf⟩ | ⟨c21, hf⟩
    · refine sb_ic_ne hm dX10_readElement_59 (tgt := 66) rfl (fun _ => ?_) (fun z => absurd c21 z)
      refine mx_S.ext [(0, .ref a0), (2, .int v7), (3, .int v8)] (mx_sub_pos [2, 1, 0] rfl (show ([3, 2, 0, 1] : List Nat).Nodup by decide)) ?_
      exact j_X10_readElement_66_ok X hF hL nn hrc a0 v7 v8 a0 u19.2 hf
    · refine sb_ic_ne hm dX10_readElement_59 (tgt := 66) rfl (fun z => absurd z c21) (fun _ => ?_)
      refine sx_ic (v := 1) hm dX10_readElement_62 (by decide) ?_
      refine mx_S.pu (pc2 := 67) (lv2 := [(3, .int v8), (2, .int v7), (0, .ref a0), (1, .int a1)]) (st2 := [.int 1, .ref a0]) hm dX10_readElement_63 rfl ?_
      refine mx_S.ext [(0, .ref a0), (2, .int v7), (3, .int v8)] (mx_sub_pos [2, 1, 0] rfl (show ([3, 2, 0, 1] : List Nat).Nodup by decide)) ?_
      exact j_X10_readElement_67_ok X hF hL nn hrc a0 v7 v8 1 a0 u19.2 hf
set_option maxHeartbeats 4000000 in
set_option maxRecDepth 20000 in
theorem j_X10_readNamed_123_ok (X : Nat × (Nat → Int32)) {F L d : Nat} (hF : 5 + (d + 1) ≤ F) (hL : 152 + (d + 1) * 30 ≤ L) (nn : Nat) {rc : tg_X10_readValue} (hrc : hg5_X10_readValue X d rc) (l0 : Nat) (l1 : Int32) (l2 : Int32) (l4 : Int32) (s0 : Int32) (h : mx_H) {r : mx_H} (hf : j_X10_readNamed_123 nn rc l0 l1 l2 l4 s0 h = some r) : mx_S X F L 299 123 [(0, .ref l0), (1, .int l1), (2, .int l2), (4, .int l4)] [.int s0] h 0 0 (none, r, 0, 0) := by
  have hm : mx_mt 299 = some (yX10_readNamed, cX10_readNamed, 7, none) := mt_X10_readNamed
  unfold j_X10_readNamed_123 at hf
  refine mx_S.pu (pc2 := 125) (lv2 := [(5, .int s0), (0, .ref l0), (1, .int l1), (2, .int l2), (4, .int l4)]) (st2 := []) hm dX10_readNamed_123 rfl ?_
  refine mx_S.pu (pc2 := 127) (lv2 := [(5, .int s0), (0, .ref l0), (1, .int l1), (2, .int l2), (4, .int l4)]) (st2 := [.int l4]) hm dX10_readNamed_125 rfl ?_
  refine sx_ic (v := (-1)) hm dX10_readNamed_127 (by decide) ?_
  rcases mx_if_el hf with ⟨c29, hf⟩ | ⟨c29, hf⟩
  · refine sb_ic_eq hm dX10_readNamed_128 (tgt := 158) rfl (fun _ => ?_) (fun z => absurd c29 z)
    refine mx_S.pu (pc2 := 160) (lv2 := [(5, .int s0), (0, .ref l0), (1, .int l1), (2, .int l2), (4, .int l4)]) (st2 := [.int s0]) hm dX10_readNamed_158 rfl ?_
    refine sx_ic (v := (-1)) hm dX10_readNamed_160 (by decide) ?_
    rcases mx_if_el hf with ⟨c22, hf⟩ | ⟨c22, hf⟩
    · refine sb_ic_eq hm dX10_readNamed_161 (tgt := 182) rfl (fun _ => ?_) (fun z => absurd c22 z)
      refine mx_S.pu (pc2 := 183) (lv2 := [(5, .int s0), (0, .ref l0), (1, .int l1), (2, .int l2), (4, .int l4)]) (st2 := [.ref l0]) hm dX10_readNamed_182 rfl ?_
      refine mx_S.pu (pc2 := 184) (lv2 := [(5, .int s0), (0, .ref l0), (1, .int l1), (2, .int l2), (4, .int l4)]) (st2 := [.int l2, .ref l0]) hm dX10_readNamed_183 rfl ?_
      refine sx_ic (v := 1) hm dX10_readNamed_184 (by decide) ?_
      replace hf := xl_el hf; obtain ⟨v1, e_v1, hf⟩ := hf
      refine mx_S.pu (pc2 := 186) (lv2 := [(5, .int s0), (0, .ref l0), (1, .int l1), (2, .int l2), (4, .int l4)]) (st2 := [.int v1, .ref l0]) hm dX10_readNamed_185 (by rw [← e_v1]; rfl) ?_
      clear e_v1
      replace hf := mx_gd_el hf; obtain ⟨c2, hf⟩ := hf
      replace hf := mx_sv_el hf; obtain ⟨u3, e_u3, hf⟩ := hf
      refine sx_cv hm dX10_readNamed_186 rs_RX10_268 mt_X10_isCallBehindPoint [.int v1] [] (b := l0) (ci := 10) rfl rfl rfl c2 (Nat.le_of_ble_eq_true rfl) (Nat.le_of_ble_eq_true rfl) (by omega) (by omega) (f_X10_isCallBehindPoint_ok X (by omega) (by omega) nn l0 v1 h e_u3) ?_
      clear e_u3
      show mx_S X F L 299 189 [(5, .int s0), (0, .ref l0), (1, .int l1), (2, .int l2), (4, .int l4)] [.int u3.1] u3.2 0 0 (none, r, 0, 0)
      rcases mx_if_el hf with ⟨c16, hf⟩ | ⟨c16, hf⟩
      · refine sb_if_eq hm dX10_readNamed_189 (tgt := 226) rfl (fun _ => ?_) (fun z => absurd c16 z)
        refine mx_S.pu (pc2 := 227) (lv2 := [(5, .int s0), (0, .ref l0), (1, .int l1), (2, .int l2), (4, .int l4)]) (st2 := [.ref l0]) hm dX10_readNamed_226 rfl ?_
        replace hf := mx_sv_el hf; obtain ⟨v4, e_v4, hf⟩ := hf
        refine sx_get hm dX10_readNamed_227 rs_RX10_31 (xgr_el e_v4) ?_
        clear e_v4
        refine sx_ic (v := 5) hm dX10_readNamed_230 (by decide) ?_
        refine mx_S.pu (pc2 := 232) (lv2 := [(5, .int s0), (0, .ref l0), (1, .int l1), (2, .int l2), (4, .int l4)]) (st2 := [.int l2, .int 5, .ref v4]) hm dX10_readNamed_231 rfl ?_
        replace hf := mx_gd_el hf; obtain ⟨c5, hf⟩ := hf
        replace hf := mx_sv_el hf; obtain ⟨u6, e_u6, hf⟩ := hf
        refine sx_cv hm dX10_readNamed_232 rs_RX10_165 mt_X9_tell [.int 5, .int l2] [] (b := v4) (ci := 9) rfl rfl rfl c5 (Nat.le_of_ble_eq_true rfl) (Nat.le_of_ble_eq_true rfl) (by omega) (by omega) (f_X9_tell_ok X (by omega) (by omega) nn v4 5 l2 u3.2 e_u6) ?_
        clear e_u6
        show mx_S X F L 299 235 [(5, .int s0), (0, .ref l0), (1, .int l1), (2, .int l2), (4, .int l4)] [] u6 0 0 (none, r, 0, 0)
        cases hf
        exact sx_ret hm dX10_readNamed_235 rfl
      · refine sb_if_eq hm dX10_readNamed_189 (tgt := 226) rfl (fun z => absurd z c16) (fun _ => ?_)
        refine mx_S.pu (pc2 := 193) (lv2 := [(5, .int s0), (0, .ref l0), (1, .int l1), (2, .int l2), (4, .int l4)]) (st2 := [.ref l0]) hm dX10_readNamed_192 rfl ?_
        refine mx_S.pu (pc2 := 194) (lv2 := [(5, .int s0), (0, .ref l0), (1, .int l1), (2, .int l2), (4, .int l4)]) (st2 := [.int l2, .ref l0]) hm dX10_readNamed_193 rfl ?_
        refine mx_S.pu (pc2 := 195) (lv2 := [(5, .int s0), (0, .ref l0), (1, .int l1), (2, .int l2), (4, .int l4)]) (st2 := [.int l2, .int l2, .ref l0]) hm dX10_readNamed_194 rfl ?_
        refine sx_ic (v := 3) hm dX10_readNamed_195 (by decide) ?_
        replace hf := xl_el hf; obtain ⟨v7, e_v7, hf⟩ := hf
        refine mx_S.pu (pc2 := 197) (lv2 := [(5, .int s0), (0, .ref l0), (1, .int l1), (2, .int l2), (4, .int l4)]) (st2 := [.int v7, .int l2, .ref l0]) hm dX10_readNamed_196 (by rw [← e_v7]; rfl) ?_
        clear e_v7
        replace hf := mx_gd_el hf; obtain ⟨c8, hf⟩ := hf
        replace hf := mx_sv_el hf; obtain ⟨u9, e_u9, hf⟩ := hf
        refine sx_cv hm dX10_readNamed_197 rs_RX10_168 mt_X10_readNamedClass [.int l2, .int v7] [] (b := l0) (ci := 10) rfl rfl rfl c8 (Nat.le_of_ble_eq_true rfl) (Nat.le_of_ble_eq_true rfl) (by omega) (by omega) (f_X10_readNamedClass_ok X (by omega) (by omega) nn l0 l2 v7 u3.2 e_u9) ?_
        clear e_u9
        show mx_S X F L 299 200 [(5, .int s0), (0, .ref l0), (1, .int l1), (2, .int l2), (4, .int l4)] [.int u9.1] u9.2 0 0 (none, r, 0, 0)
        refine mx_S.pu (pc2 := 202) (lv2 := [(6, .int u9.1), (5, .int s0), (0, .ref l0), (1, .int l1), (2, .int l2), (4, .int l4)]) (st2 := []) hm dX10_readNamed_200 rfl ?_
        refine mx_S.pu (pc2 := 203) (lv2 := [(6, .int u9.1), (5, .int s0), (0, .ref l0), (1, .int l1), (2, .int l2), (4, .int l4)]) (st2 := [.ref l0]) hm dX10_readNamed_202 rfl ?_
        refine mx_S.pu (pc2 := 205) (lv2 := [(6, .int u9.1), (5, .int s0), (0, .ref l0), (1, .int l1), (2, .int l2), (4, .int l4)]) (st2 := [.int u9.1, .ref l0]) hm dX10_readNamed_203 rfl ?_
        refine mx_S.pu (pc2 := 206) (lv2 := [(6, .int u9.1), (5, .int s0), (0, .ref l0), (1, .int l1), (2, .int l2), (4, .int l4)]) (st2 := [.ref l0, .int u9.1, .ref l0]) hm dX10_readNamed_205 rfl ?_
        refine mx_S.pu (pc2 := 208) (lv2 := [(6, .int u9.1), (5, .int s0), (0, .ref l0), (1, .int l1), (2, .int l2), (4, .int l4)]) (st2 := [.int u9.1, .ref l0, .int u9.1, .ref l0]) hm dX10_readNamed_206 rfl ?_
        refine mx_S.pu (pc2 := 209) (lv2 := [(6, .int u9.1), (5, .int s0), (0, .ref l0), (1, .int l1), (2, .int l2), (4, .int l4)]) (st2 := [.int l2, .int u9.1, .ref l0, .int u9.1, .ref l0]) hm dX10_readNamed_208 rfl ?_
        refine sx_ic (v := 2) hm dX10_readNamed_209 (by decide) ?_
        replace hf := xl_el hf; obtain ⟨v10, e_v10, hf⟩ := hf
        refine mx_S.pu (pc2 := 211) (lv2 := [(6, .int u9.1), (5, .int s0), (0, .ref l0), (1, .int l1), (2, .int l2), (4, .int l4)]) (st2 := [.int v10, .int u9.1, .ref l0, .int u9.1, .ref l0]) hm dX10_readNamed_210 (by rw [← e_v10]; rfl) ?_
        clear e_v10
        replace hf := mx_gd_el hf; obtain ⟨c11, hf⟩ := hf
        replace hf := mx_sv_el hf; obtain ⟨u12, e_u12, hf⟩ := hf
        refine sx_cv hm dX10_readNamed_211 rs_RX10_248 mt_X10_methodNamed [.int u9.1, .int v10] [.int u9.1, .ref l0] (b := l0) (ci := 10) rfl rfl rfl c11 (Nat.le_of_ble_eq_true rfl) (Nat.le_of_ble_eq_true rfl) (by omega) (by omega) (f_X10_methodNamed_ok X (by omega) (by omega) nn l0 u9.1 v10 u9.2 e_u12) ?_
        clear e_u12
        show mx_S X F L 299 214 [(6, .int u9.1), (5, .int s0), (0, .ref l0), (1, .int l1), (2, .int l2), (4, .int l4)] [.int u12.1, .int u9.1, .ref l0] u12.2 0 0 (none, r, 0, 0)
        refine mx_S.pu (pc2 := 215) (lv2 := [(6, .int u9.1), (5, .int s0), (0, .ref l0), (1, .int l1), (2, .int l2), (4, .int l4)]) (st2 := [.int l2, .int u12.1, .int u9.1, .ref l0]) hm dX10_readNamed_214 rfl ?_
        refine sx_ic (v := 2) hm dX10_readNamed_215 (by decide) ?_
        replace hf := xl_el hf; obtain ⟨v13, e_v13, hf⟩ := hf
        refine mx_S.pu (pc2 := 217) (lv2 := [(6, .int u9.1), (5, .int s0), (0, .ref l0), (1, .int l1), (2, .int l2), (4, .int l4)]) (st2 := [.int v13, .int u12.1, .int u9.1, .ref l0]) hm dX10_readNamed_216 (by rw [← e_v13]; rfl) ?_
        clear e_v13
        refine sx_ic (v := 2) hm dX10_readNamed_217 (by decide) ?_
        refine mx_S.pu (pc2 := 219) (lv2 := [(6, .int u9.1), (5, .int s0), (0, .ref l0), (1, .int l1), (2, .int l2), (4, .int l4)]) (st2 := [.int l2, .int 2, .int v13, .int u12.1, .int u9.1, .ref l0]) hm dX10_readNamed_218 rfl ?_
        refine mx_S.pu (pc2 := 220) (lv2 := [(6, .int u9.1), (5, .int s0), (0, .ref l0), (1, .int l1), (2, .int l2), (4, .int l4)]) (st2 := [.int l1, .int l2, .int 2, .int v13, .int u12.1, .int u9.1, .ref l0]) hm dX10_readNamed_219 rfl ?_
        replace hf := mx_gd_el hf; obtain ⟨c14, hf⟩ := hf
        replace hf := mx_sv_el hf; obtain ⟨u15, e_u15, hf⟩ := hf
        refine sx_cv hm dX10_readNamed_220 rs_RX10_254 mt_X10_readCall [.int u9.1, .int u12.1, .int v13, .int 2, .int l2, .int l1] [] (b := l0) (ci := 10) rfl rfl rfl c14 (Nat.le_of_ble_eq_true rfl) (Nat.le_of_ble_eq_true rfl) (by omega) (by omega) (hrc.2.2.2.2.2.2.2.2 (by omega) (by omega) l0 u9.1 u12.1 v13 2 l2 l1 u12.2 e_u15) ?_
        clear e_u15
        show mx_S X F L 299 223 [(6, .int u9.1), (5, .int s0), (0, .ref l0), (1, .int l1), (2, .int l2), (4, .int l4)] [] u15 0 0 (none, r, 0, 0)
        refine mx_S.pu (pc2 := 235) (lv2 := [(6, .int u9.1), (5, .int s0), (0, .ref l0), (1, .int l1), (2, .int l2), (4, .int l4)]) (st2 := []) hm dX10_readNamed_223 rfl ?_
        cases hf
        exact sx_ret hm dX10_readNamed_235 rfl
    · refine sb_ic_eq hm dX10_readNamed_161 (tgt := 182) rfl (fun z => absurd z c22) (fun _ => ?_)
      refine mx_S.pu (pc2 := 165) (lv2 := [(5, .int s0), (0, .ref l0), (1, .int l1), (2, .int l2), (4, .int l4)]) (st2 := [.ref l0]) hm dX10_readNamed_164 rfl ?_
      refine mx_S.pu (pc2 := 166) (lv2 := [(5, .int s0), (0, .ref l0), (1, .int l1), (2, .int l2), (4, .int l4)]) (st2 := [.int l2, .ref l0]) hm dX10_readNamed_165 rfl ?_
      replace hf := mx_gd_el hf; obtain ⟨c17, hf⟩ := hf
      replace hf := mx_sv_el hf; obtain ⟨u18, e_u18, hf⟩ := hf
      refine sx_cv hm dX10_readNamed_166 rs_RX10_236 mt_X10_giveThis [.int l2] [] (b := l0) (ci := 10) rfl rfl rfl c17 (Nat.le_of_ble_eq_true rfl) (Nat.le_of_ble_eq_true rfl) (by omega) (by omega) (f_X10_giveThis_ok X (by omega) (by omega) nn l0 l2 h e_u18) ?_
      clear e_u18
      show mx_S X F L 299 169 [(5, .int s0), (0, .ref l0), (1, .int l1), (2, .int l2), (4, .int l4)] [] u18 0 0 (none, r, 0, 0)
      refine mx_S.pu (pc2 := 170) (lv2 := [(5, .int s0), (0, .ref l0), (1, .int l1), (2, .int l2), (4, .int l4)]) (st2 := [.ref l0]) hm dX10_readNamed_169 rfl ?_
      refine mx_S.pu (pc2 := 171) (lv2 := [(5, .int s0), (0, .ref l0), (1, .int l1), (2, .int l2), (4, .int l4)]) (st2 := [.ref l0, .ref l0]) hm dX10_readNamed_170 rfl ?_
      replace hf := mx_sv_el hf; obtain ⟨v19, e_v19, hf⟩ := hf
      refine sx_get hm dX10_readNamed_171 rs_RX10_54 (xgi_el e_v19) ?_
      clear e_v19
      refine mx_S.pu (pc2 := 176) (lv2 := [(5, .int s0), (0, .ref l0), (1, .int l1), (2, .int l2), (4, .int l4)]) (st2 := [.int s0, .int v19, .ref l0]) hm dX10_readNamed_174 rfl ?_
      replace hf := mx_gd_el hf; obtain ⟨c20, hf⟩ := hf
      replace hf := mx_sv_el hf; obtain ⟨u21, e_u21, hf⟩ := hf
      refine sx_cv hm dX10_readNamed_176 rs_RX10_265 mt_X10_nameField [.int v19, .int s0] [] (b := l0) (ci := 10) rfl rfl rfl c20 (Nat.le_of_ble_eq_true rfl) (Nat.le_of_ble_eq_true rfl) (by omega) (by omega) (f_X10_nameField_ok X (by omega) (by omega) nn l0 v19 s0 u18 e_u21) ?_
      clear e_u21
      show mx_S X F L 299 179 [(5, .int s0), (0, .ref l0), (1, .int l1), (2, .int l2), (4, .int l4)] [] u21 0 0 (none, r, 0, 0)
      refine mx_S.pu (pc2 := 235) (lv2 := [(5, .int s0), (0, .ref l0), (1, .int l1), (2, .int l2), (4, .int l4)]) (st2 := []) hm dX10_readNamed_179 rfl ?_
      cases hf
      exact sx_ret hm dX10_readNamed_235 rfl
  · refine sb_ic_eq hm dX10_readNamed_128 (tgt := 158) rfl (fun z => absurd z c29) (fun _ => ?_)
    refine mx_S.pu (pc2 := 132) (lv2 := [(5, .int s0), (0, .ref l0), (1, .int l1), (2, .int l2), (4, .int l4)]) (st2 := [.ref l0]) hm dX10_readNamed_131 rfl ?_
    refine sx_ic (v := 2) hm dX10_readNamed_132 (by decide) ?_
    replace hf := mx_sv_el hf; obtain ⟨h23, e_h23, hf⟩ := hf
    refine sx_put hm dX10_readNamed_133 rs_RX10_133 ft_10_11 ⟨rfl, rfl⟩ (fun z => by cases z) e_h23 ?_
    clear e_h23
    refine mx_S.pu (pc2 := 137) (lv2 := [(5, .int s0), (0, .ref l0), (1, .int l1), (2, .int l2), (4, .int l4)]) (st2 := [.ref l0]) hm dX10_readNamed_136 rfl ?_
    refine mx_S.pu (pc2 := 139) (lv2 := [(5, .int s0), (0, .ref l0), (1, .int l1), (2, .int l2), (4, .int l4)]) (st2 := [.int l4, .ref l0]) hm dX10_readNamed_137 rfl ?_
    replace hf := mx_sv_el hf; obtain ⟨h24, e_h24, hf⟩ := hf
    refine sx_put hm dX10_readNamed_139 rs_RX10_215 ft_10_14 ⟨rfl, rfl⟩ (fun z => by cases z) e_h24 ?_
    clear e_h24
    refine mx_S.pu (pc2 := 143) (lv2 := [(5, .int s0), (0, .ref l0), (1, .int l1), (2, .int l2), (4, .int l4)]) (st2 := [.ref l0]) hm dX10_readNamed_142 rfl ?_
    refine mx_S.pu (pc2 := 144) (lv2 := [(5, .int s0), (0, .ref l0), (1, .int l1), (2, .int l2), (4, .int l4)]) (st2 := [.ref l0, .ref l0]) hm dX10_readNamed_143 rfl ?_
    replace hf := mx_sv_el hf; obtain ⟨v25, e_v25, hf⟩ := hf
    refine sx_get hm dX10_readNamed_144 rs_RX10_46 (xgr_el e_v25) ?_
    clear e_v25
    refine mx_S.pu (pc2 := 149) (lv2 := [(5, .int s0), (0, .ref l0), (1, .int l1), (2, .int l2), (4, .int l4)]) (st2 := [.int l4, .ref v25, .ref l0]) hm dX10_readNamed_147 rfl ?_
    replace hf := mx_gd_el hf; obtain ⟨c26, hf⟩ := hf
    replace hf := mx_sv_el hf; obtain ⟨u27, e_u27, hf⟩ := hf
    refine sx_cv hm dX10_readNamed_149 rs_RX10_262 mt_X1_typeOfLocal [.int l4] [.ref l0] (b := v25) (ci := 1) rfl rfl rfl c26 (Nat.le_of_ble_eq_true rfl) (Nat.le_of_ble_eq_true rfl) (by omega) (by omega) (f_X1_typeOfLocal_ok X (by omega) (by omega) nn v25 l4 h24 e_u27) ?_
    clear e_u27
    show mx_S X F L 299 152 [(5, .int s0), (0, .ref l0), (1, .int l1), (2, .int l2), (4, .int l4)] [.int u27.1, .ref l0] u27.2 0 0 (none, r, 0, 0)
    replace hf := mx_sv_el hf; obtain ⟨h28, e_h28, hf⟩ := hf
    refine sx_put hm dX10_readNamed_152 rs_RX10_75 ft_10_12 ⟨rfl, rfl⟩ (fun z => by cases z) e_h28 ?_
    clear e_h28
    refine mx_S.pu (pc2 := 235) (lv2 := [(5, .int s0), (0, .ref l0), (1, .int l1), (2, .int l2), (4, .int l4)]) (st2 := []) hm dX10_readNamed_155 rfl ?_
    cases hf
    exact sx_ret hm dX10_readNamed_235 rfl
set_option maxHeartbeats 4000000 in
set_option maxRecDepth 20000 in
theorem j_X10_readNamed_76_ok (X : Nat × (Nat → Int32)) {F L d : Nat} (hF : 5 + (d + 1) ≤ F) (hL : 152 + (d + 1) * 30 ≤ L) (nn : Nat) {rc : tg_X10_readValue} (hrc : hg5_X10_readValue X d rc) (l0 : Nat) (l1 : Int32) (l2 : Int32) (l4 : Int32) (h : mx_H) {r : mx_H} (hf : j_X10_readNamed_76 nn rc l0 l1 l2 l4 h = some r) : mx_S X F L 299 76 [(0, .ref l0), (1, .int l1), (2, .int l2), (4, .int l4)] [] h 0 0 (none, r, 0, 0) := by
  have hm : mx_mt 299 = some (yX10_readNamed, cX10_readNamed, 7, none) := mt_X10_readNamed
  unfold j_X10_readNamed_76 at hf
  refine mx_S.pu (pc2 := 77) (lv2 := [(0, .ref l0), (1, .int l1), (2, .int l2), (4, .int l4)]) (st2 := [.ref l0]) hm dX10_readNamed_76 rfl ?_
  refine mx_S.pu (pc2 := 78) (lv2 := [(0, .ref l0), (1, .int l1), (2, .int l2), (4, .int l4)]) (st2 := [.ref l0, .ref l0]) hm dX10_readNamed_77 rfl ?_
  replace hf := mx_sv_el hf; obtain ⟨v30, e_v30, hf⟩ := hf
  refine sx_get hm dX10_readNamed_78 rs_RX10_54 (xgi_el e_v30) ?_
  clear e_v30
  refine mx_S.pu (pc2 := 83) (lv2 := [(0, .ref l0), (1, .int l1), (2, .int l2), (4, .int l4)]) (st2 := [.int l4, .int v30, .ref l0]) hm dX10_readNamed_81 rfl ?_
  refine mx_S.pu (pc2 := 84) (lv2 := [(0, .ref l0), (1, .int l1), (2, .int l2), (4, .int l4)]) (st2 := [.int l2, .int l4, .int v30, .ref l0]) hm dX10_readNamed_83 rfl ?_
  refine sx_ic (v := 0) hm dX10_readNamed_84 (by decide) ?_
  refine mx_S.pu (pc2 := 86) (lv2 := [(0, .ref l0), (1, .int l1), (2, .int l2), (4, .int l4)]) (st2 := [.int l2, .int 0, .int l2, .int l4, .int v30, .ref l0]) hm dX10_readNamed_85 rfl ?_
  refine mx_S.pu (pc2 := 87) (lv2 := [(0, .ref l0), (1, .int l1), (2, .int l2), (4, .int l4)]) (st2 := [.int l1, .int l2, .int 0, .int l2, .int l4, .int v30, .ref l0]) hm dX10_readNamed_86 rfl ?_
  replace hf := mx_gd_el hf; obtain ⟨c31, hf⟩ := hf
  replace hf := mx_sv_el hf; obtain ⟨u32, e_u32, hf⟩ := hf
  refine sx_cv hm dX10_readNamed_87 rs_RX10_254 mt_X10_readCall [.int v30, .int l4, .int l2, .int 0, .int l2, .int l1] [] (b := l0) (ci := 10) rfl rfl rfl c31 (Nat.le_of_ble_eq_true rfl) (Nat.le_of_ble_eq_true rfl) (by omega) (by omega) (hrc.2.2.2.2.2.2.2.2 (by omega) (by omega) l0 v30 l4 l2 0 l2 l1 h e_u32) ?_
  clear e_u32
  show mx_S X F L 299 90 [(0, .ref l0), (1, .int l1), (2, .int l2), (4, .int l4)] [] u32 0 0 (none, r, 0, 0)
  cases hf
  exact sx_ret hm dX10_readNamed_90 rfl
set_option maxHeartbeats 4000000 in
set_option maxRecDepth 20000 in
theorem o_X10_readNamed_ok (X : Nat × (Nat → Int32)) {F L d : Nat} (hF : 5 + (d + 1) ≤ F) (hL : 152 + (d + 1) * 30 ≤ L) (nn : Nat) {rc : tg_X10_readValue} (hrc : hg5_X10_readValue X d rc) (a0 : Nat) (a1 : Int32) (h : mx_H) {r : mx_H} (hf : o_X10_readNamed nn rc a0 a1 h = some r) : mx_R X F L 299 [.ref a0, .int a1] h (none, r, 0, 0) := by
  have hm : mx_mt 299 = some (yX10_readNamed, cX10_readNamed, 7, none) := mt_X10_readNamed
  show mx_S X F L 299 0 [(0, .ref a0), (1, .int a1)] [] h 0 0 (none, r, 0, 0)
  unfold o_X10_readNamed at hf
  refine mx_S.pu (pc2 := 1) (lv2 := [(0, .ref a0), (1, .int a1)]) (st2 := [.ref a0]) hm dX10_readNamed_0 rfl ?_
  replace hf := mx_sv_el hf; obtain ⟨v33, e_v33, hf⟩ := hf
  refine sx_get hm dX10_readNamed_1 rs_RX10_31 (xgr_el e_v33) ?_
  clear e_v33
  replace hf := mx_sv_el hf; obtain ⟨v34, e_v34, hf⟩ := hf
  refine sx_get hm dX10_readNamed_4 rs_RX10_72 (xgi_el e_v34) ?_
  clear e_v34
  refine mx_S.pu (pc2 := 8) (lv2 := [(2, .int v34), (0, .ref a0), (1, .int a1)]) (st2 := []) hm dX10_readNamed_7 rfl ?_
  refine mx_S.pu (pc2 := 9) (lv2 := [(2, .int v34), (0, .ref a0), (1, .int a1)]) (st2 := [.ref a0]) hm dX10_readNamed_8 rfl ?_
  replace hf := mx_sv_el hf; obtain ⟨v35, e_v35, hf⟩ := hf
  refine sx_get hm dX10_readNamed_9 rs_RX10_31 (xgr_el e_v35) ?_
  clear e_v35
  refine mx_S.pu (pc2 := 13) (lv2 := [(2, .int v34), (0, .ref a0), (1, .int a1)]) (st2 := [.int v34, .ref v35]) hm dX10_readNamed_12 rfl ?_
  replace hf := mx_gd_el hf; obtain ⟨c36, hf⟩ := hf
  replace hf := mx_sv_el hf; obtain ⟨u37, e_u37, hf⟩ := hf
  refine sx_cv hm dX10_readNamed_13 rs_RX10_227 mt_X9_valueAt [.int v34] [] (b := v35) (ci := 9) rfl rfl rfl c36 (Nat.le_of_ble_eq_true rfl) (Nat.le_of_ble_eq_true rfl) (by omega) (by omega) (f_X9_valueAt_ok X (by omega) (by omega) nn v35 v34 h e_u37) ?_
  clear e_u37
  show mx_S X F L 299 16 [(2, .int v34), (0, .ref a0), (1, .int a1)] [.int u37.1] u37.2 0 0 (none, r, 0, 0)
  refine mx_S.pu (pc2 := 17) (lv2 := [(3, .int u37.1), (2, .int v34), (0, .ref a0), (1, .int a1)]) (st2 := []) hm dX10_readNamed_16 rfl ?_
  refine mx_S.pu (pc2 := 18) (lv2 := [(3, .int u37.1), (2, .int v34), (0, .ref a0), (1, .int a1)]) (st2 := [.ref a0]) hm dX10_readNamed_17 rfl ?_
  replace hf := mx_sv_el hf; obtain ⟨v38, e_v38, hf⟩ := hf
  refine sx_get hm dX10_readNamed_18 rs_RX10_31 (xgr_el e_v38) ?_
  clear e_v38
  refine mx_S.pu (pc2 := 22) (lv2 := [(3, .int u37.1), (2, .int v34), (0, .ref a0), (1, .int a1)]) (st2 := [.ref v38, .ref v38]) hm dX10_readNamed_21 rfl ?_
  replace hf := mx_sv_el hf; obtain ⟨v39, e_v39, hf⟩ := hf
  refine sx_get hm dX10_readNamed_22 rs_RX10_72 (xgi_el e_v39) ?_
  clear e_v39
  refine sx_ic (v := 1) hm dX10_readNamed_25 (by decide) ?_
  replace hf := xl_el hf; obtain ⟨v40, e_v40, hf⟩ := hf
  refine mx_S.pu (pc2 := 27) (lv2 := [(3, .int u37.1), (2, .int v34), (0, .ref a0), (1, .int a1)]) (st2 := [.int v40, .ref v38]) hm dX10_readNamed_26 (by rw [← e_v40]; rfl) ?_
  clear e_v40
  replace hf := mx_sv_el hf; obtain ⟨h41, e_h41, hf⟩ := hf
  refine sx_put hm dX10_readNamed_27 rs_RX10_72 ft_9_10 ⟨rfl, rfl⟩ (fun z => by cases z) e_h41 ?_
  clear e_h41
  refine mx_S.pu (pc2 := 31) (lv2 := [(3, .int u37.1), (2, .int v34), (0, .ref a0), (1, .int a1)]) (st2 := [.ref a0]) hm dX10_readNamed_30 rfl ?_
  replace hf := mx_sv_el hf; obtain ⟨v42, e_v42, hf⟩ := hf
  refine sx_get hm dX10_readNamed_31 rs_RX10_31 (xgr_el e_v42) ?_
  clear e_v42
  replace hf := mx_gd_el hf; obtain ⟨c43, hf⟩ := hf
  replace hf := mx_sv_el hf; obtain ⟨u44, e_u44, hf⟩ := hf
  refine sx_cv hm dX10_readNamed_34 rs_RX10_93 mt_X9_kind [] [] (b := v42) (ci := 9) rfl rfl rfl c43 (Nat.le_of_ble_eq_true rfl) (Nat.le_of_ble_eq_true rfl) (by omega) (by omega) (f_X9_kind_ok X (by omega) (by omega) nn v42 h41 e_u44) ?_
  clear e_u44
  show mx_S X F L 299 37 [(3, .int u37.1), (2, .int v34), (0, .ref a0), (1, .int a1)] [.int u44.1] u44.2 0 0 (none, r, 0, 0)
  refine sx_bi (v := 40) hm dX10_readNamed_37 (by decide) ?_
  rcases mx_if_el hf with ⟨c63, hf⟩ | ⟨c63, hf⟩
  · refine sb_ic_ne hm dX10_readNamed_39 (tgt := 91) rfl (fun _ => ?_) (fun z => absurd c63 z)
    refine mx_S.pu (pc2 := 92) (lv2 := [(3, .int u37.1), (2, .int v34), (0, .ref a0), (1, .int a1)]) (st2 := [.ref a0]) hm dX10_readNamed_91 rfl ?_
    replace hf := mx_sv_el hf; obtain ⟨v45, e_v45, hf⟩ := hf
    refine sx_get hm dX10_readNamed_92 rs_RX10_46 (xgr_el e_v45) ?_
    clear e_v45
    refine mx_S.pu (pc2 := 96) (lv2 := [(3, .int u37.1), (2, .int v34), (0, .ref a0), (1, .int a1)]) (st2 := [.int u37.1, .ref v45]) hm dX10_readNamed_95 rfl ?_
    replace hf := mx_gd_el hf; obtain ⟨c46, hf⟩ := hf
    replace hf := mx_sv_el hf; obtain ⟨u47, e_u47, hf⟩ := hf
    refine sx_cv hm dX10_readNamed_96 rs_RX10_258 mt_X1_localOf [.int u37.1] [] (b := v45) (ci := 1) rfl rfl rfl c46 (Nat.le_of_ble_eq_true rfl) (Nat.le_of_ble_eq_true rfl) (by omega) (by omega) (f_X1_localOf_ok X (by omega) (by omega) nn v45 u37.1 u44.2 e_u47) ?_
    clear e_u47
    show mx_S X F L 299 99 [(3, .int u37.1), (2, .int v34), (0, .ref a0), (1, .int a1)] [.int u47.1] u47.2 0 0 (none, r, 0, 0)
    refine mx_S.pu (pc2 := 101) (lv2 := [(4, .int u47.1), (3, .int u37.1), (2, .int v34), (0, .ref a0), (1, .int a1)]) (st2 := []) hm dX10_readNamed_99 rfl ?_
    refine mx_S.pu (pc2 := 103) (lv2 := [(4, .int u47.1), (3, .int u37.1), (2, .int v34), (0, .ref a0), (1, .int a1)]) (st2 := [.int u47.1]) hm dX10_readNamed_101 rfl ?_
    refine sx_ic (v := (-1)) hm dX10_readNamed_103 (by decide) ?_
    rcases mx_if_el hf with ⟨c52, hf⟩ | ⟨c52, hf⟩
    · refine sb_ic_ne hm dX10_readNamed_104 (tgt := 122) rfl (fun _ => ?_) (fun z => absurd c52 z)
      refine sx_ic (v := (-1)) hm dX10_readNamed_122 (by decide) ?_
      refine mx_S.ext [(0, .ref a0), (1, .int a1), (2, .int v34), (4, .int u47.1)] (mx_sub_pos [3, 4, 2, 0] rfl (show ([4, 3, 2, 0, 1] : List Nat).Nodup by decide)) ?_
      exact j_X10_readNamed_123_ok X hF hL nn hrc a0 a1 v34 u47.1 (-1) u47.2 hf
    · refine sb_ic_ne hm dX10_readNamed_104 (tgt := 122) rfl (fun z => absurd z c52) (fun _ => ?_)
      refine mx_S.pu (pc2 := 108) (lv2 := [(4, .int u47.1), (3, .int u37.1), (2, .int v34), (0, .ref a0), (1, .int a1)]) (st2 := [.ref a0]) hm dX10_readNamed_107 rfl ?_
      replace hf := mx_sv_el hf; obtain ⟨v48, e_v48, hf⟩ := hf
      refine sx_get hm dX10_readNamed_108 rs_RX10_35 (xgr_el e_v48) ?_
      clear e_v48
      refine mx_S.pu (pc2 := 112) (lv2 := [(4, .int u47.1), (3, .int u37.1), (2, .int v34), (0, .ref a0), (1, .int a1)]) (st2 := [.ref a0, .ref v48]) hm dX10_readNamed_111 rfl ?_
      replace hf := mx_sv_el hf; obtain ⟨v49, e_v49, hf⟩ := hf
      refine sx_get hm dX10_readNamed_112 rs_RX10_54 (xgi_el e_v49) ?_
      clear e_v49
      refine mx_S.pu (pc2 := 116) (lv2 := [(4, .int u47.1), (3, .int u37.1), (2, .int v34), (0, .ref a0), (1, .int a1)]) (st2 := [.int u37.1, .int v49, .ref v48]) hm dX10_readNamed_115 rfl ?_
      replace hf := mx_gd_el hf; obtain ⟨c50, hf⟩ := hf
      replace hf := mx_sv_el hf; obtain ⟨u51, e_u51, hf⟩ := hf
      refine sx_cv hm dX10_readNamed_116 rs_RX10_261 mt_X2_fieldOf [.int v49, .int u37.1] [] (b := v48) (ci := 2) rfl rfl rfl c50 (Nat.le_of_ble_eq_true rfl) (Nat.le_of_ble_eq_true rfl) (by omega) (by omega) (f_X2_fieldOf_ok X (by omega) (by omega) nn v48 v49 u37.1 u47.2 e_u51) ?_
      clear e_u51
      show mx_S X F L 299 119 [(4, .int u47.1), (3, .int u37.1), (2, .int v34), (0, .ref a0), (1, .int a1)] [.int u51.1] u51.2 0 0 (none, r, 0, 0)
      refine mx_S.pu (pc2 := 123) (lv2 := [(4, .int u47.1), (3, .int u37.1), (2, .int v34), (0, .ref a0), (1, .int a1)]) (st2 := [.int u51.1]) hm dX10_readNamed_119 rfl ?_
      refine mx_S.ext [(0, .ref a0), (1, .int a1), (2, .int v34), (4, .int u47.1)] (mx_sub_pos [3, 4, 2, 0] rfl (show ([4, 3, 2, 0, 1] : List Nat).Nodup by decide)) ?_
      exact j_X10_readNamed_123_ok X hF hL nn hrc a0 a1 v34 u47.1 u51.1 u51.2 hf
  · refine sb_ic_ne hm dX10_readNamed_39 (tgt := 91) rfl (fun z => absurd z c63) (fun _ => ?_)
    refine mx_S.pu (pc2 := 43) (lv2 := [(3, .int u37.1), (2, .int v34), (0, .ref a0), (1, .int a1)]) (st2 := [.ref a0]) hm dX10_readNamed_42 rfl ?_
    refine mx_S.pu (pc2 := 44) (lv2 := [(3, .int u37.1), (2, .int v34), (0, .ref a0), (1, .int a1)]) (st2 := [.ref a0, .ref a0]) hm dX10_readNamed_43 rfl ?_
    replace hf := mx_sv_el hf; obtain ⟨v53, e_v53, hf⟩ := hf
    refine sx_get hm dX10_readNamed_44 rs_RX10_54 (xgi_el e_v53) ?_
    clear e_v53
    refine mx_S.pu (pc2 := 48) (lv2 := [(3, .int u37.1), (2, .int v34), (0, .ref a0), (1, .int a1)]) (st2 := [.int v34, .int v53, .ref a0]) hm dX10_readNamed_47 rfl ?_
    replace hf := mx_gd_el hf; obtain ⟨c54, hf⟩ := hf
    replace hf := mx_sv_el hf; obtain ⟨u55, e_u55, hf⟩ := hf
    refine sx_cv hm dX10_readNamed_48 rs_RX10_248 mt_X10_methodNamed [.int v53, .int v34] [] (b := a0) (ci := 10) rfl rfl rfl c54 (Nat.le_of_ble_eq_true rfl) (Nat.le_of_ble_eq_true rfl) (by omega) (by omega) (f_X10_methodNamed_ok X (by omega) (by omega) nn a0 v53 v34 u44.2 e_u55) ?_
    clear e_u55
    show mx_S X F L 299 51 [(3, .int u37.1), (2, .int v34), (0, .ref a0), (1, .int a1)] [.int u55.1] u55.2 0 0 (none, r, 0, 0)
    refine mx_S.pu (pc2 := 53) (lv2 := [(4, .int u55.1), (3, .int u37.1), (2, .int v34), (0, .ref a0), (1, .int a1)]) (st2 := []) hm dX10_readNamed_51 rfl ?_
    refine mx_S.pu (pc2 := 55) (lv2 := [(4, .int u55.1), (3, .int u37.1), (2, .int v34), (0, .ref a0), (1, .int a1)]) (st2 := [.int u55.1]) hm dX10_readNamed_53 rfl ?_
    refine sx_ic (v := (-1)) hm dX10_readNamed_55 (by decide) ?_
    rcases mx_if_el hf with ⟨c62, hf⟩ | ⟨c62, hf⟩
    · refine sb_ic_eq hm dX10_readNamed_56 (tgt := 76) rfl (fun _ => ?_) (fun z => absurd c62 z)
      refine mx_S.ext [(0, .ref a0), (1, .int a1), (2, .int v34), (4, .int u55.1)] (mx_sub_pos [3, 4, 2, 0] rfl (show ([4, 3, 2, 0, 1] : List Nat).Nodup by decide)) ?_
      exact j_X10_readNamed_76_ok X hF hL nn hrc a0 a1 v34 u55.1 u55.2 hf
    · refine sb_ic_eq hm dX10_readNamed_56 (tgt := 76) rfl (fun z => absurd z c62) (fun _ => ?_)
      refine mx_S.pu (pc2 := 60) (lv2 := [(4, .int u55.1), (3, .int u37.1), (2, .int v34), (0, .ref a0), (1, .int a1)]) (st2 := [.ref a0]) hm dX10_readNamed_59 rfl ?_
      replace hf := mx_sv_el hf; obtain ⟨v56, e_v56, hf⟩ := hf
      refine sx_get hm dX10_readNamed_60 rs_RX10_35 (xgr_el e_v56) ?_
      clear e_v56
      refine mx_S.pu (pc2 := 65) (lv2 := [(4, .int u55.1), (3, .int u37.1), (2, .int v34), (0, .ref a0), (1, .int a1)]) (st2 := [.int u55.1, .ref v56]) hm dX10_readNamed_63 rfl ?_
      replace hf := mx_gd_el hf; obtain ⟨c57, hf⟩ := hf
      replace hf := mx_sv_el hf; obtain ⟨u58, e_u58, hf⟩ := hf
      refine sx_cv hm dX10_readNamed_65 rs_RX10_251 mt_X2_isFixed [.int u55.1] [] (b := v56) (ci := 2) rfl rfl rfl c57 (Nat.le_of_ble_eq_true rfl) (Nat.le_of_ble_eq_true rfl) (by omega) (by omega) (f_X2_isFixed_ok X (by omega) (by omega) nn v56 u55.1 u55.2 e_u58) ?_
      clear e_u58
      show mx_S X F L 299 68 [(4, .int u55.1), (3, .int u37.1), (2, .int v34), (0, .ref a0), (1, .int a1)] [.int u58.1] u58.2 0 0 (none, r, 0, 0)
      rcases mx_if_el hf with ⟨c61, hf⟩ | ⟨c61, hf⟩
      · refine sb_if_ne hm dX10_readNamed_68 (tgt := 76) rfl (fun _ => ?_) (fun z => absurd c61 z)
        refine mx_S.ext [(0, .ref a0), (1, .int a1), (2, .int v34), (4, .int u55.1)] (mx_sub_pos [3, 4, 2, 0] rfl (show ([4, 3, 2, 0, 1] : List Nat).Nodup by decide)) ?_
        exact j_X10_readNamed_76_ok X hF hL nn hrc a0 a1 v34 u55.1 u58.2 hf
      · refine sb_if_ne hm dX10_readNamed_68 (tgt := 76) rfl (fun z => absurd z c61) (fun _ => ?_)
        refine mx_S.pu (pc2 := 72) (lv2 := [(4, .int u55.1), (3, .int u37.1), (2, .int v34), (0, .ref a0), (1, .int a1)]) (st2 := [.ref a0]) hm dX10_readNamed_71 rfl ?_
        refine mx_S.pu (pc2 := 73) (lv2 := [(4, .int u55.1), (3, .int u37.1), (2, .int v34), (0, .ref a0), (1, .int a1)]) (st2 := [.int v34, .ref a0]) hm dX10_readNamed_72 rfl ?_
        replace hf := mx_gd_el hf; obtain ⟨c59, hf⟩ := hf
        replace hf := mx_sv_el hf; obtain ⟨u60, e_u60, hf⟩ := hf
        refine sx_cv hm dX10_readNamed_73 rs_RX10_236 mt_X10_giveThis [.int v34] [] (b := a0) (ci := 10) rfl rfl rfl c59 (Nat.le_of_ble_eq_true rfl) (Nat.le_of_ble_eq_true rfl) (by omega) (by omega) (f_X10_giveThis_ok X (by omega) (by omega) nn a0 v34 u58.2 e_u60) ?_
        clear e_u60
        show mx_S X F L 299 76 [(4, .int u55.1), (3, .int u37.1), (2, .int v34), (0, .ref a0), (1, .int a1)] [] u60 0 0 (none, r, 0, 0)
        refine mx_S.ext [(0, .ref a0), (1, .int a1), (2, .int v34), (4, .int u55.1)] (mx_sub_pos [3, 4, 2, 0] rfl (show ([4, 3, 2, 0, 1] : List Nat).Nodup by decide)) ?_
        exact j_X10_readNamed_76_ok X hF hL nn hrc a0 a1 v34 u55.1 u60 hf
set_option maxHeartbeats 4000000 in
set_option maxRecDepth 20000 in
theorem j_X10_readBehindPoint_149_ok (X : Nat × (Nat → Int32)) {F L d : Nat} (hF : 5 + (d + 1) ≤ F) (hL : 152 + (d + 1) * 30 ≤ L) (nn : Nat) {rc : tg_X10_readValue} (hrc : hg5_X10_readValue X d rc) (l0 : Nat) (l1 : Int32) (l2 : Int32) (l3 : Int32) (l5 : Int32) (l6 : Int32) (l7 : Int32) (h : mx_H) {r : mx_H} (hf : j_X10_readBehindPoint_149 nn rc l0 l1 l2 l3 l5 l6 l7 h = some r) : mx_S X F L 303 149 [(0, .ref l0), (1, .int l1), (2, .int l2), (3, .int l3), (5, .int l5), (6, .int l6), (7, .int l7)] [] h 0 0 (none, r, 0, 0) := by
  have hm : mx_mt 303 = some (yX10_readBehindPoint, cX10_readBehindPoint, 8, none) := mt_X10_readBehindPoint
  unfold j_X10_readBehindPoint_149 at hf
  refine mx_S.pu (pc2 := 150) (lv2 := [(0, .ref l0), (1, .int l1), (2, .int l2), (3, .int l3), (5, .int l5), (6, .int l6), (7, .int l7)]) (st2 := [.ref l0]) hm dX10_readBehindPoint_149 rfl ?_
  replace hf := mx_sv_el hf; obtain ⟨v1, e_v1, hf⟩ := hf
  refine sx_get hm dX10_readBehindPoint_150 rs_RX10_31 (xgr_el e_v1) ?_
  clear e_v1
  refine mx_S.pu (pc2 := 154) (lv2 := [(0, .ref l0), (1, .int l1), (2, .int l2), (3, .int l3), (5, .int l5), (6, .int l6), (7, .int l7)]) (st2 := [.int l3, .ref v1]) hm dX10_readBehindPoint_153 rfl ?_
  refine sx_ic (v := 1) hm dX10_readBehindPoint_154 (by decide) ?_
  replace hf := xl_el hf; obtain ⟨v2, e_v2, hf⟩ := hf
  refine mx_S.pu (pc2 := 156) (lv2 := [(0, .ref l0), (1, .int l1), (2, .int l2), (3, .int l3), (5, .int l5), (6, .int l6), (7, .int l7)]) (st2 := [.int v2, .ref v1]) hm dX10_readBehindPoint_155 (by rw [← e_v2]; rfl) ?_
  clear e_v2
  replace hf := mx_sv_el hf; obtain ⟨h3, e_h3, hf⟩ := hf
  refine sx_put hm dX10_readBehindPoint_156 rs_RX10_72 ft_9_10 ⟨rfl, rfl⟩ (fun z => by cases z) e_h3 ?_
  clear e_h3
  refine mx_S.pu (pc2 := 161) (lv2 := [(0, .ref l0), (1, .int l1), (2, .int l2), (3, .int l3), (5, .int l5), (6, .int l6), (7, .int l7)]) (st2 := [.int l5]) hm dX10_readBehindPoint_159 rfl ?_
  rcases mx_if_el hf with ⟨c19, hf⟩ | ⟨c19, hf⟩
  · refine sb_if_eq hm dX10_readBehindPoint_161 (tgt := 181) rfl (fun _ => ?_) (fun z => absurd c19 z)
    refine mx_S.pu (pc2 := 183) (lv2 := [(0, .ref l0), (1, .int l1), (2, .int l2), (3, .int l3), (5, .int l5), (6, .int l6), (7, .int l7)]) (st2 := [.int l6]) hm dX10_readBehindPoint_181 rfl ?_
    rcases mx_if_el hf with ⟨c15, hf⟩ | ⟨c15, hf⟩
    · refine sb_if_eq hm dX10_readBehindPoint_183 (tgt := 214) rfl (fun _ => ?_) (fun z => absurd c15 z)
      refine mx_S.pu (pc2 := 215) (lv2 := [(0, .ref l0), (1, .int l1), (2, .int l2), (3, .int l3), (5, .int l5), (6, .int l6), (7, .int l7)]) (st2 := [.ref l0]) hm dX10_readBehindPoint_214 rfl ?_
      refine mx_S.pu (pc2 := 216) (lv2 := [(0, .ref l0), (1, .int l1), (2, .int l2), (3, .int l3), (5, .int l5), (6, .int l6), (7, .int l7)]) (st2 := [.ref l0, .ref l0]) hm dX10_readBehindPoint_215 rfl ?_
      replace hf := mx_sv_el hf; obtain ⟨v4, e_v4, hf⟩ := hf
      refine sx_get hm dX10_readBehindPoint_216 rs_RX10_75 (xgi_el e_v4) ?_
      clear e_v4
      refine mx_S.pu (pc2 := 221) (lv2 := [(0, .ref l0), (1, .int l1), (2, .int l2), (3, .int l3), (5, .int l5), (6, .int l6), (7, .int l7)]) (st2 := [.int l7, .int v4, .ref l0]) hm dX10_readBehindPoint_219 rfl ?_
      replace hf := mx_gd_el hf; obtain ⟨c5, hf⟩ := hf
      replace hf := mx_sv_el hf; obtain ⟨u6, e_u6, hf⟩ := hf
      refine sx_cv hm dX10_readBehindPoint_221 rs_RX10_265 mt_X10_nameField [.int v4, .int l7] [] (b := l0) (ci := 10) rfl rfl rfl c5 (Nat.le_of_ble_eq_true rfl) (Nat.le_of_ble_eq_true rfl) (by omega) (by omega) (f_X10_nameField_ok X (by omega) (by omega) nn l0 v4 l7 h3 e_u6) ?_
      clear e_u6
      show mx_S X F L 303 224 [(0, .ref l0), (1, .int l1), (2, .int l2), (3, .int l3), (5, .int l5), (6, .int l6), (7, .int l7)] [] u6 0 0 (none, r, 0, 0)
      cases hf
      exact sx_ret hm dX10_readBehindPoint_224 rfl
    · refine sb_if_eq hm dX10_readBehindPoint_183 (tgt := 214) rfl (fun z => absurd z c15) (fun _ => ?_)
      refine mx_S.pu (pc2 := 187) (lv2 := [(0, .ref l0), (1, .int l1), (2, .int l2), (3, .int l3), (5, .int l5), (6, .int l6), (7, .int l7)]) (st2 := [.ref l0]) hm dX10_readBehindPoint_186 rfl ?_
      replace hf := mx_sv_el hf; obtain ⟨v7, e_v7, hf⟩ := hf
      refine sx_get hm dX10_readBehindPoint_187 rs_RX10_46 (xgr_el e_v7) ?_
      clear e_v7
      refine sx_si (v := 190) hm dX10_readBehindPoint_190 (by decide) ?_
      replace hf := mx_gd_el hf; obtain ⟨c8, hf⟩ := hf
      replace hf := mx_sv_el hf; obtain ⟨u9, e_u9, hf⟩ := hf
      refine sx_cv hm dX10_readBehindPoint_193 rs_RX10_162 mt_X1_op [.int 190] [] (b := v7) (ci := 1) rfl rfl rfl c8 (Nat.le_of_ble_eq_true rfl) (Nat.le_of_ble_eq_true rfl) (by omega) (by omega) (f_X1_op_ok X (by omega) (by omega) nn v7 190 h3 e_u9) ?_
      clear e_u9
      show mx_S X F L 303 196 [(0, .ref l0), (1, .int l1), (2, .int l2), (3, .int l3), (5, .int l5), (6, .int l6), (7, .int l7)] [] u9 0 0 (none, r, 0, 0)
      refine mx_S.pu (pc2 := 197) (lv2 := [(0, .ref l0), (1, .int l1), (2, .int l2), (3, .int l3), (5, .int l5), (6, .int l6), (7, .int l7)]) (st2 := [.ref l0]) hm dX10_readBehindPoint_196 rfl ?_
      replace hf := mx_sv_el hf; obtain ⟨v10, e_v10, hf⟩ := hf
      refine sx_get hm dX10_readBehindPoint_197 rs_RX10_46 (xgr_el e_v10) ?_
      clear e_v10
      refine sx_ic (v := 1) hm dX10_readBehindPoint_200 (by decide) ?_
      replace hf := mx_gd_el hf; obtain ⟨c11, hf⟩ := hf
      replace hf := mx_sv_el hf; obtain ⟨u12, e_u12, hf⟩ := hf
      refine sx_cv hm dX10_readBehindPoint_201 rs_RX10_118 mt_X1_pop [.int 1] [] (b := v10) (ci := 1) rfl rfl rfl c11 (Nat.le_of_ble_eq_true rfl) (Nat.le_of_ble_eq_true rfl) (by omega) (by omega) (f_X1_pop_ok X (by omega) (by omega) nn v10 1 u9 e_u12) ?_
      clear e_u12
      show mx_S X F L 303 204 [(0, .ref l0), (1, .int l1), (2, .int l2), (3, .int l3), (5, .int l5), (6, .int l6), (7, .int l7)] [] u12 0 0 (none, r, 0, 0)
      refine mx_S.pu (pc2 := 205) (lv2 := [(0, .ref l0), (1, .int l1), (2, .int l2), (3, .int l3), (5, .int l5), (6, .int l6), (7, .int l7)]) (st2 := [.ref l0]) hm dX10_readBehindPoint_204 rfl ?_
      refine sx_si (v := 301) hm dX10_readBehindPoint_205 (by decide) ?_
      replace hf := mx_gd_el hf; obtain ⟨c13, hf⟩ := hf
      replace hf := mx_sv_el hf; obtain ⟨u14, e_u14, hf⟩ := hf
      refine sx_cv hm dX10_readBehindPoint_208 rs_RX10_233 mt_X10_give [.int 301] [] (b := l0) (ci := 10) rfl rfl rfl c13 (Nat.le_of_ble_eq_true rfl) (Nat.le_of_ble_eq_true rfl) (by omega) (by omega) (f_X10_give_ok X (by omega) (by omega) nn l0 301 u12 e_u14) ?_
      clear e_u14
      show mx_S X F L 303 211 [(0, .ref l0), (1, .int l1), (2, .int l2), (3, .int l3), (5, .int l5), (6, .int l6), (7, .int l7)] [] u14 0 0 (none, r, 0, 0)
      refine mx_S.pu (pc2 := 224) (lv2 := [(0, .ref l0), (1, .int l1), (2, .int l2), (3, .int l3), (5, .int l5), (6, .int l6), (7, .int l7)]) (st2 := []) hm dX10_readBehindPoint_211 rfl ?_
      cases hf
      exact sx_ret hm dX10_readBehindPoint_224 rfl
  · refine sb_if_eq hm dX10_readBehindPoint_161 (tgt := 181) rfl (fun z => absurd z c19) (fun _ => ?_)
    refine mx_S.pu (pc2 := 165) (lv2 := [(0, .ref l0), (1, .int l1), (2, .int l2), (3, .int l3), (5, .int l5), (6, .int l6), (7, .int l7)]) (st2 := [.ref l0]) hm dX10_readBehindPoint_164 rfl ?_
    refine mx_S.pu (pc2 := 166) (lv2 := [(0, .ref l0), (1, .int l1), (2, .int l2), (3, .int l3), (5, .int l5), (6, .int l6), (7, .int l7)]) (st2 := [.ref l0, .ref l0]) hm dX10_readBehindPoint_165 rfl ?_
    replace hf := mx_sv_el hf; obtain ⟨v16, e_v16, hf⟩ := hf
    refine sx_get hm dX10_readBehindPoint_166 rs_RX10_75 (xgi_el e_v16) ?_
    clear e_v16
    refine mx_S.pu (pc2 := 171) (lv2 := [(0, .ref l0), (1, .int l1), (2, .int l2), (3, .int l3), (5, .int l5), (6, .int l6), (7, .int l7)]) (st2 := [.int l7, .int v16, .ref l0]) hm dX10_readBehindPoint_169 rfl ?_
    refine mx_S.pu (pc2 := 172) (lv2 := [(0, .ref l0), (1, .int l1), (2, .int l2), (3, .int l3), (5, .int l5), (6, .int l6), (7, .int l7)]) (st2 := [.int l3, .int l7, .int v16, .ref l0]) hm dX10_readBehindPoint_171 rfl ?_
    refine sx_ic (v := 1) hm dX10_readBehindPoint_172 (by decide) ?_
    refine mx_S.pu (pc2 := 174) (lv2 := [(0, .ref l0), (1, .int l1), (2, .int l2), (3, .int l3), (5, .int l5), (6, .int l6), (7, .int l7)]) (st2 := [.int l1, .int 1, .int l3, .int l7, .int v16, .ref l0]) hm dX10_readBehindPoint_173 rfl ?_
    refine mx_S.pu (pc2 := 175) (lv2 := [(0, .ref l0), (1, .int l1), (2, .int l2), (3, .int l3), (5, .int l5), (6, .int l6), (7, .int l7)]) (st2 := [.int l2, .int l1, .int 1, .int l3, .int l7, .int v16, .ref l0]) hm dX10_readBehindPoint_174 rfl ?_
    replace hf := mx_gd_el hf; obtain ⟨c17, hf⟩ := hf
    replace hf := mx_sv_el hf; obtain ⟨u18, e_u18, hf⟩ := hf
    refine sx_cv hm dX10_readBehindPoint_175 rs_RX10_254 mt_X10_readCall [.int v16, .int l7, .int l3, .int 1, .int l1, .int l2] [] (b := l0) (ci := 10) rfl rfl rfl c17 (Nat.le_of_ble_eq_true rfl) (Nat.le_of_ble_eq_true rfl) (by omega) (by omega) (hrc.2.2.2.2.2.2.2.2 (by omega) (by omega) l0 v16 l7 l3 1 l1 l2 h3 e_u18) ?_
    clear e_u18
    show mx_S X F L 303 178 [(0, .ref l0), (1, .int l1), (2, .int l2), (3, .int l3), (5, .int l5), (6, .int l6), (7, .int l7)] [] u18 0 0 (none, r, 0, 0)
    refine mx_S.pu (pc2 := 224) (lv2 := [(0, .ref l0), (1, .int l1), (2, .int l2), (3, .int l3), (5, .int l5), (6, .int l6), (7, .int l7)]) (st2 := []) hm dX10_readBehindPoint_178 rfl ?_
    cases hf
    exact sx_ret hm dX10_readBehindPoint_224 rfl
set_option maxHeartbeats 4000000 in
set_option maxRecDepth 20000 in
theorem j_X10_readBehindPoint_140_ok (X : Nat × (Nat → Int32)) {F L d : Nat} (hF : 5 + (d + 1) ≤ F) (hL : 152 + (d + 1) * 30 ≤ L) (nn : Nat) {rc : tg_X10_readValue} (hrc : hg5_X10_readValue X d rc) (l0 : Nat) (l1 : Int32) (l2 : Int32) (l3 : Int32) (l5 : Int32) (l6 : Int32) (l7 : Int32) (h : mx_H) {r : mx_H} (hf : j_X10_readBehindPoint_140 nn rc l0 l1 l2 l3 l5 l6 l7 h = some r) : mx_S X F L 303 140 [(0, .ref l0), (1, .int l1), (2, .int l2), (3, .int l3), (5, .int l5), (6, .int l6), (7, .int l7)] [] h 0 0 (none, r, 0, 0) := by
  have hm : mx_mt 303 = some (yX10_readBehindPoint, cX10_readBehindPoint, 8, none) := mt_X10_readBehindPoint
  unfold j_X10_readBehindPoint_140 at hf
  refine mx_S.pu (pc2 := 141) (lv2 := [(0, .ref l0), (1, .int l1), (2, .int l2), (3, .int l3), (5, .int l5), (6, .int l6), (7, .int l7)]) (st2 := [.ref l0]) hm dX10_readBehindPoint_140 rfl ?_
  replace hf := mx_sv_el hf; obtain ⟨v20, e_v20, hf⟩ := hf
  refine sx_get hm dX10_readBehindPoint_141 rs_RX10_31 (xgr_el e_v20) ?_
  clear e_v20
  refine sx_ic (v := 5) hm dX10_readBehindPoint_144 (by decide) ?_
  refine mx_S.pu (pc2 := 146) (lv2 := [(0, .ref l0), (1, .int l1), (2, .int l2), (3, .int l3), (5, .int l5), (6, .int l6), (7, .int l7)]) (st2 := [.int l3, .int 5, .ref v20]) hm dX10_readBehindPoint_145 rfl ?_
  replace hf := mx_gd_el hf; obtain ⟨c21, hf⟩ := hf
  replace hf := mx_sv_el hf; obtain ⟨u22, e_u22, hf⟩ := hf
  refine sx_cv hm dX10_readBehindPoint_146 rs_RX10_165 mt_X9_tell [.int 5, .int l3] [] (b := v20) (ci := 9) rfl rfl rfl c21 (Nat.le_of_ble_eq_true rfl) (Nat.le_of_ble_eq_true rfl) (by omega) (by omega) (f_X9_tell_ok X (by omega) (by omega) nn v20 5 l3 h e_u22) ?_
  clear e_u22
  show mx_S X F L 303 149 [(0, .ref l0), (1, .int l1), (2, .int l2), (3, .int l3), (5, .int l5), (6, .int l6), (7, .int l7)] [] u22 0 0 (none, r, 0, 0)
  exact j_X10_readBehindPoint_149_ok X hF hL nn hrc l0 l1 l2 l3 l5 l6 l7 u22 hf
set_option maxHeartbeats 4000000 in
set_option maxRecDepth 20000 in
theorem j_X10_readBehindPoint_112_ok (X : Nat × (Nat → Int32)) {F L d : Nat} (hF : 5 + (d + 1) ≤ F) (hL : 152 + (d + 1) * 30 ≤ L) (nn : Nat) {rc : tg_X10_readValue} (hrc : hg5_X10_readValue X d rc) (l0 : Nat) (l1 : Int32) (l2 : Int32) (l3 : Int32) (l4 : Int32) (l5 : Int32) (l6 : Int32) (s0 : Int32) (h : mx_H) {r : mx_H} (hf : j_X10_readBehindPoint_112 nn rc l0 l1 l2 l3 l4 l5 l6 s0 h = some r) : mx_S X F L 303 112 [(0, .ref l0), (1, .int l1), (2, .int l2), (3, .int l3), (4, .int l4), (5, .int l5), (6, .int l6)] [.int s0] h 0 0 (none, r, 0, 0) := by
  have hm : mx_mt 303 = some (yX10_readBehindPoint, cX10_readBehindPoint, 8, none) := mt_X10_readBehindPoint
  unfold j_X10_readBehindPoint_112 at hf
  refine mx_S.pu (pc2 := 114) (lv2 := [(7, .int s0), (0, .ref l0), (1, .int l1), (2, .int l2), (3, .int l3), (4, .int l4), (5, .int l5), (6, .int l6)]) (st2 := []) hm dX10_readBehindPoint_112 rfl ?_
  refine mx_S.pu (pc2 := 116) (lv2 := [(7, .int s0), (0, .ref l0), (1, .int l1), (2, .int l2), (3, .int l3), (4, .int l4), (5, .int l5), (6, .int l6)]) (st2 := [.int l6]) hm dX10_readBehindPoint_114 rfl ?_
  rcases mx_if_el hf with ⟨c26, hf⟩ | ⟨c26, hf⟩
  · refine sb_if_eq hm dX10_readBehindPoint_116 (tgt := 134) rfl (fun _ => ?_) (fun z => absurd c26 z)
    refine mx_S.pu (pc2 := 136) (lv2 := [(7, .int s0), (0, .ref l0), (1, .int l1), (2, .int l2), (3, .int l3), (4, .int l4), (5, .int l5), (6, .int l6)]) (st2 := [.int s0]) hm dX10_readBehindPoint_134 rfl ?_
    refine sx_ic (v := (-1)) hm dX10_readBehindPoint_136 (by decide) ?_
    rcases mx_if_el hf with ⟨c23, hf⟩ | ⟨c23, hf⟩
    · refine sb_ic_ne hm dX10_readBehindPoint_137 (tgt := 149) rfl (fun _ => ?_) (fun z => absurd c23 z)
      refine mx_S.ext [(0, .ref l0), (1, .int l1), (2, .int l2), (3, .int l3), (5, .int l5), (6, .int l6), (7, .int s0)] (mx_sub_pos [1, 2, 3, 4, 6, 7, 0] rfl (show ([7, 0, 1, 2, 3, 4, 5, 6] : List Nat).Nodup by decide)) ?_
      exact j_X10_readBehindPoint_149_ok X hF hL nn hrc l0 l1 l2 l3 l5 l6 s0 h hf
    · refine sb_ic_ne hm dX10_readBehindPoint_137 (tgt := 149) rfl (fun z => absurd z c23) (fun _ => ?_)
      refine mx_S.ext [(0, .ref l0), (1, .int l1), (2, .int l2), (3, .int l3), (5, .int l5), (6, .int l6), (7, .int s0)] (mx_sub_pos [1, 2, 3, 4, 6, 7, 0] rfl (show ([7, 0, 1, 2, 3, 4, 5, 6] : List Nat).Nodup by decide)) ?_
      exact j_X10_readBehindPoint_140_ok X hF hL nn hrc l0 l1 l2 l3 l5 l6 s0 h hf
  · refine sb_if_eq hm dX10_readBehindPoint_116 (tgt := 134) rfl (fun z => absurd z c26) (fun _ => ?_)
    refine mx_S.pu (pc2 := 121) (lv2 := [(7, .int s0), (0, .ref l0), (1, .int l1), (2, .int l2), (3, .int l3), (4, .int l4), (5, .int l5), (6, .int l6)]) (st2 := [.int l5]) hm dX10_readBehindPoint_119 rfl ?_
    rcases mx_if_el hf with ⟨c25, hf⟩ | ⟨c25, hf⟩
    · refine sb_if_ne hm dX10_readBehindPoint_121 (tgt := 140) rfl (fun _ => ?_) (fun z => absurd c25 z)
      refine mx_S.ext [(0, .ref l0), (1, .int l1), (2, .int l2), (3, .int l3), (5, .int l5), (6, .int l6), (7, .int s0)] (mx_sub_pos [1, 2, 3, 4, 6, 7, 0] rfl (show ([7, 0, 1, 2, 3, 4, 5, 6] : List Nat).Nodup by decide)) ?_
      exact j_X10_readBehindPoint_140_ok X hF hL nn hrc l0 l1 l2 l3 l5 l6 s0 h hf
    · refine sb_if_ne hm dX10_readBehindPoint_121 (tgt := 140) rfl (fun z => absurd z c25) (fun _ => ?_)
      refine mx_S.pu (pc2 := 126) (lv2 := [(7, .int s0), (0, .ref l0), (1, .int l1), (2, .int l2), (3, .int l3), (4, .int l4), (5, .int l5), (6, .int l6)]) (st2 := [.int l4]) hm dX10_readBehindPoint_124 rfl ?_
      refine sx_bi (v := 8) hm dX10_readBehindPoint_126 (by decide) ?_
      rcases mx_if_el hf with ⟨c24, hf⟩ | ⟨c24, hf⟩
      · refine sb_ic_eq hm dX10_readBehindPoint_128 (tgt := 149) rfl (fun _ => ?_) (fun z => absurd c24 z)
        refine mx_S.ext [(0, .ref l0), (1, .int l1), (2, .int l2), (3, .int l3), (5, .int l5), (6, .int l6), (7, .int s0)] (mx_sub_pos [1, 2, 3, 4, 6, 7, 0] rfl (show ([7, 0, 1, 2, 3, 4, 5, 6] : List Nat).Nodup by decide)) ?_
        exact j_X10_readBehindPoint_149_ok X hF hL nn hrc l0 l1 l2 l3 l5 l6 s0 h hf
      · refine sb_ic_eq hm dX10_readBehindPoint_128 (tgt := 149) rfl (fun z => absurd z c24) (fun _ => ?_)
        refine mx_S.pu (pc2 := 140) (lv2 := [(7, .int s0), (0, .ref l0), (1, .int l1), (2, .int l2), (3, .int l3), (4, .int l4), (5, .int l5), (6, .int l6)]) (st2 := []) hm dX10_readBehindPoint_131 rfl ?_
        refine mx_S.ext [(0, .ref l0), (1, .int l1), (2, .int l2), (3, .int l3), (5, .int l5), (6, .int l6), (7, .int s0)] (mx_sub_pos [1, 2, 3, 4, 6, 7, 0] rfl (show ([7, 0, 1, 2, 3, 4, 5, 6] : List Nat).Nodup by decide)) ?_
        exact j_X10_readBehindPoint_140_ok X hF hL nn hrc l0 l1 l2 l3 l5 l6 s0 h hf
set_option maxHeartbeats 4000000 in
set_option maxRecDepth 20000 in
theorem j_X10_readBehindPoint_72_ok (X : Nat × (Nat → Int32)) {F L d : Nat} (hF : 5 + (d + 1) ≤ F) (hL : 152 + (d + 1) * 30 ≤ L) (nn : Nat) {rc : tg_X10_readValue} (hrc : hg5_X10_readValue X d rc) (l0 : Nat) (l1 : Int32) (l2 : Int32) (l3 : Int32) (l4 : Int32) (l5 : Int32) (l6 : Int32) (s0 : Int32) (s1 : Nat) (h : mx_H) {r : mx_H} (hf : j_X10_readBehindPoint_72 nn rc l0 l1 l2 l3 l4 l5 l6 s0 s1 h = some r) : mx_S X F L 303 72 [(0, .ref l0), (1, .int l1), (2, .int l2), (3, .int l3), (4, .int l4), (5, .int l5), (6, .int l6)] [.int s0, .ref s1] h 0 0 (none, r, 0, 0) := by
  have hm : mx_mt 303 = some (yX10_readBehindPoint, cX10_readBehindPoint, 8, none) := mt_X10_readBehindPoint
  unfold j_X10_readBehindPoint_72 at hf
  refine mx_S.pu (pc2 := 73) (lv2 := [(0, .ref l0), (1, .int l1), (2, .int l2), (3, .int l3), (4, .int l4), (5, .int l5), (6, .int l6)]) (st2 := [.int l3, .int s0, .ref s1]) hm dX10_readBehindPoint_72 rfl ?_
  refine sx_ic (v := 1) hm dX10_readBehindPoint_73 (by decide) ?_
  replace hf := xl_el hf; obtain ⟨v27, e_v27, hf⟩ := hf
  refine mx_S.pu (pc2 := 75) (lv2 := [(0, .ref l0), (1, .int l1), (2, .int l2), (3, .int l3), (4, .int l4), (5, .int l5), (6, .int l6)]) (st2 := [.int v27, .int s0, .ref s1]) hm dX10_readBehindPoint_74 (by rw [← e_v27]; rfl) ?_
  clear e_v27
  replace hf := mx_gd_el hf; obtain ⟨c28, hf⟩ := hf
  replace hf := mx_sv_el hf; obtain ⟨u29, e_u29, hf⟩ := hf
  refine sx_cv hm dX10_readBehindPoint_75 rs_RX10_80 mt_X10_wantType [.int s0, .int v27] [] (b := s1) (ci := 10) rfl rfl rfl c28 (Nat.le_of_ble_eq_true rfl) (Nat.le_of_ble_eq_true rfl) (by omega) (by omega) (f_X10_wantType_ok X (by omega) (by omega) nn s1 s0 v27 h e_u29) ?_
  clear e_u29
  show mx_S X F L 303 78 [(0, .ref l0), (1, .int l1), (2, .int l2), (3, .int l3), (4, .int l4), (5, .int l5), (6, .int l6)] [] u29 0 0 (none, r, 0, 0)
  refine mx_S.pu (pc2 := 80) (lv2 := [(0, .ref l0), (1, .int l1), (2, .int l2), (3, .int l3), (4, .int l4), (5, .int l5), (6, .int l6)]) (st2 := [.int l5]) hm dX10_readBehindPoint_78 rfl ?_
  rcases mx_if_el hf with ⟨c38, hf⟩ | ⟨c38, hf⟩
  · refine sb_if_eq hm dX10_readBehindPoint_80 (tgt := 99) rfl (fun _ => ?_) (fun z => absurd c38 z)
    refine mx_S.pu (pc2 := 100) (lv2 := [(0, .ref l0), (1, .int l1), (2, .int l2), (3, .int l3), (4, .int l4), (5, .int l5), (6, .int l6)]) (st2 := [.ref l0]) hm dX10_readBehindPoint_99 rfl ?_
    replace hf := mx_sv_el hf; obtain ⟨v30, e_v30, hf⟩ := hf
    refine sx_get hm dX10_readBehindPoint_100 rs_RX10_35 (xgr_el e_v30) ?_
    clear e_v30
    refine mx_S.pu (pc2 := 104) (lv2 := [(0, .ref l0), (1, .int l1), (2, .int l2), (3, .int l3), (4, .int l4), (5, .int l5), (6, .int l6)]) (st2 := [.ref l0, .ref v30]) hm dX10_readBehindPoint_103 rfl ?_
    replace hf := mx_sv_el hf; obtain ⟨v31, e_v31, hf⟩ := hf
    refine sx_get hm dX10_readBehindPoint_104 rs_RX10_75 (xgi_el e_v31) ?_
    clear e_v31
    refine mx_S.pu (pc2 := 109) (lv2 := [(0, .ref l0), (1, .int l1), (2, .int l2), (3, .int l3), (4, .int l4), (5, .int l5), (6, .int l6)]) (st2 := [.int l4, .int v31, .ref v30]) hm dX10_readBehindPoint_107 rfl ?_
    replace hf := mx_gd_el hf; obtain ⟨c32, hf⟩ := hf
    replace hf := mx_sv_el hf; obtain ⟨u33, e_u33, hf⟩ := hf
    refine sx_cv hm dX10_readBehindPoint_109 rs_RX10_261 mt_X2_fieldOf [.int v31, .int l4] [] (b := v30) (ci := 2) rfl rfl rfl c32 (Nat.le_of_ble_eq_true rfl) (Nat.le_of_ble_eq_true rfl) (by omega) (by omega) (f_X2_fieldOf_ok X (by omega) (by omega) nn v30 v31 l4 u29 e_u33) ?_
    clear e_u33
    show mx_S X F L 303 112 [(0, .ref l0), (1, .int l1), (2, .int l2), (3, .int l3), (4, .int l4), (5, .int l5), (6, .int l6)] [.int u33.1] u33.2 0 0 (none, r, 0, 0)
    exact j_X10_readBehindPoint_112_ok X hF hL nn hrc l0 l1 l2 l3 l4 l5 l6 u33.1 u33.2 hf
  · refine sb_if_eq hm dX10_readBehindPoint_80 (tgt := 99) rfl (fun z => absurd z c38) (fun _ => ?_)
    refine mx_S.pu (pc2 := 84) (lv2 := [(0, .ref l0), (1, .int l1), (2, .int l2), (3, .int l3), (4, .int l4), (5, .int l5), (6, .int l6)]) (st2 := [.ref l0]) hm dX10_readBehindPoint_83 rfl ?_
    replace hf := mx_sv_el hf; obtain ⟨v34, e_v34, hf⟩ := hf
    refine sx_get hm dX10_readBehindPoint_84 rs_RX10_35 (xgr_el e_v34) ?_
    clear e_v34
    refine mx_S.pu (pc2 := 88) (lv2 := [(0, .ref l0), (1, .int l1), (2, .int l2), (3, .int l3), (4, .int l4), (5, .int l5), (6, .int l6)]) (st2 := [.ref l0, .ref v34]) hm dX10_readBehindPoint_87 rfl ?_
    replace hf := mx_sv_el hf; obtain ⟨v35, e_v35, hf⟩ := hf
    refine sx_get hm dX10_readBehindPoint_88 rs_RX10_75 (xgi_el e_v35) ?_
    clear e_v35
    refine mx_S.pu (pc2 := 93) (lv2 := [(0, .ref l0), (1, .int l1), (2, .int l2), (3, .int l3), (4, .int l4), (5, .int l5), (6, .int l6)]) (st2 := [.int l4, .int v35, .ref v34]) hm dX10_readBehindPoint_91 rfl ?_
    replace hf := mx_gd_el hf; obtain ⟨c36, hf⟩ := hf
    replace hf := mx_sv_el hf; obtain ⟨u37, e_u37, hf⟩ := hf
    refine sx_cv hm dX10_readBehindPoint_93 rs_RX10_271 mt_X2_methodOf [.int v35, .int l4] [] (b := v34) (ci := 2) rfl rfl rfl c36 (Nat.le_of_ble_eq_true rfl) (Nat.le_of_ble_eq_true rfl) (by omega) (by omega) (f_X2_methodOf_ok X (by omega) (by omega) nn v34 v35 l4 u29 e_u37) ?_
    clear e_u37
    show mx_S X F L 303 96 [(0, .ref l0), (1, .int l1), (2, .int l2), (3, .int l3), (4, .int l4), (5, .int l5), (6, .int l6)] [.int u37.1] u37.2 0 0 (none, r, 0, 0)
    refine mx_S.pu (pc2 := 112) (lv2 := [(0, .ref l0), (1, .int l1), (2, .int l2), (3, .int l3), (4, .int l4), (5, .int l5), (6, .int l6)]) (st2 := [.int u37.1]) hm dX10_readBehindPoint_96 rfl ?_
    exact j_X10_readBehindPoint_112_ok X hF hL nn hrc l0 l1 l2 l3 l4 l5 l6 u37.1 u37.2 hf
set_option maxHeartbeats 4000000 in
set_option maxRecDepth 20000 in
theorem j_X10_readBehindPoint_67_ok (X : Nat × (Nat → Int32)) {F L d : Nat} (hF : 5 + (d + 1) ≤ F) (hL : 152 + (d + 1) * 30 ≤ L) (nn : Nat) {rc : tg_X10_readValue} (hrc : hg5_X10_readValue X d rc) (l0 : Nat) (l1 : Int32) (l2 : Int32) (l3 : Int32) (l4 : Int32) (l5 : Int32) (l6 : Int32) (s0 : Nat) (h : mx_H) {r : mx_H} (hf : j_X10_readBehindPoint_67 nn rc l0 l1 l2 l3 l4 l5 l6 s0 h = some r) : mx_S X F L 303 67 [(0, .ref l0), (1, .int l1), (2, .int l2), (3, .int l3), (4, .int l4), (5, .int l5), (6, .int l6)] [.ref s0] h 0 0 (none, r, 0, 0) := by
  have hm : mx_mt 303 = some (yX10_readBehindPoint, cX10_readBehindPoint, 8, none) := mt_X10_readBehindPoint
  unfold j_X10_readBehindPoint_67 at hf
  refine sx_ic (v := 1) hm dX10_readBehindPoint_67 (by decide) ?_
  refine mx_S.pu (pc2 := 72) (lv2 := [(0, .ref l0), (1, .int l1), (2, .int l2), (3, .int l3), (4, .int l4), (5, .int l5), (6, .int l6)]) (st2 := [.int 1, .ref s0]) hm dX10_readBehindPoint_68 rfl ?_
  exact j_X10_readBehindPoint_72_ok X hF hL nn hrc l0 l1 l2 l3 l4 l5 l6 1 s0 h hf
set_option maxHeartbeats 4000000 in
set_option maxRecDepth 20000 in
theorem j_X10_readBehindPoint_40_ok (X : Nat × (Nat → Int32)) {F L d : Nat} (hF : 5 + (d + 1) ≤ F) (hL : 152 + (d + 1) * 30 ≤ L) (nn : Nat) {rc : tg_X10_readValue} (hrc : hg5_X10_readValue X d rc) (l0 : Nat) (l1 : Int32) (l2 : Int32) (l3 : Int32) (l4 : Int32) (s0 : Int32) (h : mx_H) {r : mx_H} (hf : j_X10_readBehindPoint_40 nn rc l0 l1 l2 l3 l4 s0 h = some r) : mx_S X F L 303 40 [(0, .ref l0), (1, .int l1), (2, .int l2), (3, .int l3), (4, .int l4)] [.int s0] h 0 0 (none, r, 0, 0) := by
  have hm : mx_mt 303 = some (yX10_readBehindPoint, cX10_readBehindPoint, 8, none) := mt_X10_readBehindPoint
  unfold j_X10_readBehindPoint_40 at hf
  refine mx_S.pu (pc2 := 42) (lv2 := [(5, .int s0), (0, .ref l0), (1, .int l1), (2, .int l2), (3, .int l3), (4, .int l4)]) (st2 := []) hm dX10_readBehindPoint_40 rfl ?_
  refine mx_S.pu (pc2 := 43) (lv2 := [(5, .int s0), (0, .ref l0), (1, .int l1), (2, .int l2), (3, .int l3), (4, .int l4)]) (st2 := [.ref l0]) hm dX10_readBehindPoint_42 rfl ?_
  replace hf := mx_sv_el hf; obtain ⟨v39, e_v39, hf⟩ := hf
  refine sx_get hm dX10_readBehindPoint_43 rs_RX10_75 (xgi_el e_v39) ?_
  clear e_v39
  replace hf := mx_sv_el hf; obtain ⟨u40, e_u40, hf⟩ := hf
  refine sx_cs hm dX10_readBehindPoint_46 rs_RX10_242 mt_X4_isArray [.int v39] [] rfl rfl (Nat.le_of_ble_eq_true rfl) (Nat.le_of_ble_eq_true rfl) (by omega) (by omega) (f_X4_isArray_ok X (by omega) (by omega) nn v39 h e_u40) ?_
  clear e_u40
  show mx_S X F L 303 49 [(5, .int s0), (0, .ref l0), (1, .int l1), (2, .int l2), (3, .int l3), (4, .int l4)] [.int u40.1] u40.2 0 0 (none, r, 0, 0)
  refine mx_S.pu (pc2 := 51) (lv2 := [(6, .int u40.1), (5, .int s0), (0, .ref l0), (1, .int l1), (2, .int l2), (3, .int l3), (4, .int l4)]) (st2 := []) hm dX10_readBehindPoint_49 rfl ?_
  refine mx_S.pu (pc2 := 52) (lv2 := [(6, .int u40.1), (5, .int s0), (0, .ref l0), (1, .int l1), (2, .int l2), (3, .int l3), (4, .int l4)]) (st2 := [.ref l0]) hm dX10_readBehindPoint_51 rfl ?_
  refine mx_S.pu (pc2 := 54) (lv2 := [(6, .int u40.1), (5, .int s0), (0, .ref l0), (1, .int l1), (2, .int l2), (3, .int l3), (4, .int l4)]) (st2 := [.int u40.1, .ref l0]) hm dX10_readBehindPoint_52 rfl ?_
  rcases mx_if_el hf with ⟨c44, hf⟩ | ⟨c44, hf⟩
  · refine sb_if_ne hm dX10_readBehindPoint_54 (tgt := 67) rfl (fun _ => ?_) (fun z => absurd c44 z)
    refine mx_S.ext [(0, .ref l0), (1, .int l1), (2, .int l2), (3, .int l3), (4, .int l4), (5, .int s0), (6, .int u40.1)] (mx_sub_pos [2, 3, 4, 5, 6, 1, 0] rfl (show ([6, 5, 0, 1, 2, 3, 4] : List Nat).Nodup by decide)) ?_
    exact j_X10_readBehindPoint_67_ok X hF hL nn hrc l0 l1 l2 l3 l4 s0 u40.1 l0 u40.2 hf
  · refine sb_if_ne hm dX10_readBehindPoint_54 (tgt := 67) rfl (fun z => absurd z c44) (fun _ => ?_)
    refine mx_S.pu (pc2 := 58) (lv2 := [(6, .int u40.1), (5, .int s0), (0, .ref l0), (1, .int l1), (2, .int l2), (3, .int l3), (4, .int l4)]) (st2 := [.ref l0, .ref l0]) hm dX10_readBehindPoint_57 rfl ?_
    replace hf := mx_sv_el hf; obtain ⟨v41, e_v41, hf⟩ := hf
    refine sx_get hm dX10_readBehindPoint_58 rs_RX10_75 (xgi_el e_v41) ?_
    clear e_v41
    replace hf := mx_sv_el hf; obtain ⟨u42, e_u42, hf⟩ := hf
    refine sx_cs hm dX10_readBehindPoint_61 rs_RX10_277 mt_X4_isClass [.int v41] [.ref l0] rfl rfl (Nat.le_of_ble_eq_true rfl) (Nat.le_of_ble_eq_true rfl) (by omega) (by omega) (f_X4_isClass_ok X (by omega) (by omega) nn v41 u40.2 e_u42) ?_
    clear e_u42
    show mx_S X F L 303 64 [(6, .int u40.1), (5, .int s0), (0, .ref l0), (1, .int l1), (2, .int l2), (3, .int l3), (4, .int l4)] [.int u42.1, .ref l0] u42.2 0 0 (none, r, 0, 0)
    rcases mx_if_el hf with ⟨c43, hf⟩ | ⟨c43, hf⟩
    · refine sb_if_eq hm dX10_readBehindPoint_64 (tgt := 71) rfl (fun _ => ?_) (fun z => absurd c43 z)
      refine sx_ic (v := 0) hm dX10_readBehindPoint_71 (by decide) ?_
      refine mx_S.ext [(0, .ref l0), (1, .int l1), (2, .int l2), (3, .int l3), (4, .int l4), (5, .int s0), (6, .int u40.1)] (mx_sub_pos [2, 3, 4, 5, 6, 1, 0] rfl (show ([6, 5, 0, 1, 2, 3, 4] : List Nat).Nodup by decide)) ?_
      exact j_X10_readBehindPoint_72_ok X hF hL nn hrc l0 l1 l2 l3 l4 s0 u40.1 0 l0 u42.2 hf
    · refine sb_if_eq hm dX10_readBehindPoint_64 (tgt := 71) rfl (fun z => absurd z c43) (fun _ => ?_)
      refine mx_S.ext [(0, .ref l0), (1, .int l1), (2, .int l2), (3, .int l3), (4, .int l4), (5, .int s0), (6, .int u40.1)] (mx_sub_pos [2, 3, 4, 5, 6, 1, 0] rfl (show ([6, 5, 0, 1, 2, 3, 4] : List Nat).Nodup by decide)) ?_
      exact j_X10_readBehindPoint_67_ok X hF hL nn hrc l0 l1 l2 l3 l4 s0 u40.1 l0 u42.2 hf
set_option maxHeartbeats 4000000 in
set_option maxRecDepth 20000 in
theorem o_X10_readBehindPoint_ok (X : Nat × (Nat → Int32)) {F L d : Nat} (hF : 5 + (d + 1) ≤ F) (hL : 152 + (d + 1) * 30 ≤ L) (nn : Nat) {rc : tg_X10_readValue} (hrc : hg5_X10_readValue X d rc) (a0 : Nat) (a1 : Int32) (a2 : Int32) (h : mx_H) {r : mx_H} (hf : o_X10_readBehindPoint nn rc a0 a1 a2 h = some r) : mx_R X F L 303 [.ref a0, .int a1, .int a2] h (none, r, 0, 0) := by
  have hm : mx_mt 303 = some (yX10_readBehindPoint, cX10_readBehindPoint, 8, none) := mt_X10_readBehindPoint
  show mx_S X F L 303 0 [(0, .ref a0), (1, .int a1), (2, .int a2)] [] h 0 0 (none, r, 0, 0)
  unfold o_X10_readBehindPoint at hf
  refine mx_S.pu (pc2 := 1) (lv2 := [(0, .ref a0), (1, .int a1), (2, .int a2)]) (st2 := [.ref a0]) hm dX10_readBehindPoint_0 rfl ?_
  replace hf := mx_sv_el hf; obtain ⟨v45, e_v45, hf⟩ := hf
  refine sx_get hm dX10_readBehindPoint_1 rs_RX10_31 (xgr_el e_v45) ?_
  clear e_v45
  replace hf := mx_sv_el hf; obtain ⟨v46, e_v46, hf⟩ := hf
  refine sx_get hm dX10_readBehindPoint_4 rs_RX10_72 (xgi_el e_v46) ?_
  clear e_v46
  refine sx_ic (v := 1) hm dX10_readBehindPoint_7 (by decide) ?_
  replace hf := xl_el hf; obtain ⟨v47, e_v47, hf⟩ := hf
  refine mx_S.pu (pc2 := 9) (lv2 := [(0, .ref a0), (1, .int a1), (2, .int a2)]) (st2 := [.int v47]) hm dX10_readBehindPoint_8 (by rw [← e_v47]; rfl) ?_
  clear e_v47
  refine mx_S.pu (pc2 := 10) (lv2 := [(3, .int v47), (0, .ref a0), (1, .int a1), (2, .int a2)]) (st2 := []) hm dX10_readBehindPoint_9 rfl ?_
  refine mx_S.pu (pc2 := 11) (lv2 := [(3, .int v47), (0, .ref a0), (1, .int a1), (2, .int a2)]) (st2 := [.ref a0]) hm dX10_readBehindPoint_10 rfl ?_
  replace hf := mx_sv_el hf; obtain ⟨v48, e_v48, hf⟩ := hf
  refine sx_get hm dX10_readBehindPoint_11 rs_RX10_31 (xgr_el e_v48) ?_
  clear e_v48
  refine mx_S.pu (pc2 := 15) (lv2 := [(3, .int v47), (0, .ref a0), (1, .int a1), (2, .int a2)]) (st2 := [.int v47, .ref v48]) hm dX10_readBehindPoint_14 rfl ?_
  replace hf := mx_gd_el hf; obtain ⟨c49, hf⟩ := hf
  replace hf := mx_sv_el hf; obtain ⟨u50, e_u50, hf⟩ := hf
  refine sx_cv hm dX10_readBehindPoint_15 rs_RX10_227 mt_X9_valueAt [.int v47] [] (b := v48) (ci := 9) rfl rfl rfl c49 (Nat.le_of_ble_eq_true rfl) (Nat.le_of_ble_eq_true rfl) (by omega) (by omega) (f_X9_valueAt_ok X (by omega) (by omega) nn v48 v47 h e_u50) ?_
  clear e_u50
  show mx_S X F L 303 18 [(3, .int v47), (0, .ref a0), (1, .int a1), (2, .int a2)] [.int u50.1] u50.2 0 0 (none, r, 0, 0)
  refine mx_S.pu (pc2 := 20) (lv2 := [(4, .int u50.1), (3, .int v47), (0, .ref a0), (1, .int a1), (2, .int a2)]) (st2 := []) hm dX10_readBehindPoint_18 rfl ?_
  refine mx_S.pu (pc2 := 21) (lv2 := [(4, .int u50.1), (3, .int v47), (0, .ref a0), (1, .int a1), (2, .int a2)]) (st2 := [.ref a0]) hm dX10_readBehindPoint_20 rfl ?_
  replace hf := mx_sv_el hf; obtain ⟨v51, e_v51, hf⟩ := hf
  refine sx_get hm dX10_readBehindPoint_21 rs_RX10_31 (xgr_el e_v51) ?_
  clear e_v51
  refine mx_S.pu (pc2 := 25) (lv2 := [(4, .int u50.1), (3, .int v47), (0, .ref a0), (1, .int a1), (2, .int a2)]) (st2 := [.int v47, .ref v51]) hm dX10_readBehindPoint_24 rfl ?_
  refine sx_ic (v := 1) hm dX10_readBehindPoint_25 (by decide) ?_
  replace hf := xl_el hf; obtain ⟨v52, e_v52, hf⟩ := hf
  refine mx_S.pu (pc2 := 27) (lv2 := [(4, .int u50.1), (3, .int v47), (0, .ref a0), (1, .int a1), (2, .int a2)]) (st2 := [.int v52, .ref v51]) hm dX10_readBehindPoint_26 (by rw [← e_v52]; rfl) ?_
  clear e_v52
  replace hf := mx_gd_el hf; obtain ⟨c53, hf⟩ := hf
  replace hf := mx_sv_el hf; obtain ⟨u54, e_u54, hf⟩ := hf
  refine sx_cv hm dX10_readBehindPoint_27 rs_RX10_224 mt_X9_kindAt [.int v52] [] (b := v51) (ci := 9) rfl rfl rfl c53 (Nat.le_of_ble_eq_true rfl) (Nat.le_of_ble_eq_true rfl) (by omega) (by omega) (f_X9_kindAt_ok X (by omega) (by omega) nn v51 v52 u50.2 e_u54) ?_
  clear e_u54
  show mx_S X F L 303 30 [(4, .int u50.1), (3, .int v47), (0, .ref a0), (1, .int a1), (2, .int a2)] [.int u54.1] u54.2 0 0 (none, r, 0, 0)
  refine sx_bi (v := 40) hm dX10_readBehindPoint_30 (by decide) ?_
  rcases mx_if_el hf with ⟨c55, hf⟩ | ⟨c55, hf⟩
  · refine sb_ic_ne hm dX10_readBehindPoint_32 (tgt := 39) rfl (fun _ => ?_) (fun z => absurd c55 z)
    refine sx_ic (v := 0) hm dX10_readBehindPoint_39 (by decide) ?_
    refine mx_S.ext [(0, .ref a0), (1, .int a1), (2, .int a2), (3, .int v47), (4, .int u50.1)] (mx_sub_pos [2, 3, 4, 1, 0] rfl (show ([4, 3, 0, 1, 2] : List Nat).Nodup by decide)) ?_
    exact j_X10_readBehindPoint_40_ok X hF hL nn hrc a0 a1 a2 v47 u50.1 0 u54.2 hf
  · refine sb_ic_ne hm dX10_readBehindPoint_32 (tgt := 39) rfl (fun z => absurd z c55) (fun _ => ?_)
    refine sx_ic (v := 1) hm dX10_readBehindPoint_35 (by decide) ?_
    refine mx_S.pu (pc2 := 40) (lv2 := [(4, .int u50.1), (3, .int v47), (0, .ref a0), (1, .int a1), (2, .int a2)]) (st2 := [.int 1]) hm dX10_readBehindPoint_36 rfl ?_
    refine mx_S.ext [(0, .ref a0), (1, .int a1), (2, .int a2), (3, .int v47), (4, .int u50.1)] (mx_sub_pos [2, 3, 4, 1, 0] rfl (show ([4, 3, 0, 1, 2] : List Nat).Nodup by decide)) ?_
    exact j_X10_readBehindPoint_40_ok X hF hL nn hrc a0 a1 a2 v47 u50.1 1 u54.2 hf
set_option maxHeartbeats 4000000 in
set_option maxRecDepth 20000 in
theorem j_X10_readCall_275_ok (X : Nat × (Nat → Int32)) {F L d : Nat} (hF : 5 + (d + 1) ≤ F) (hL : 152 + (d + 1) * 30 ≤ L) (nn : Nat) {rc : tg_X10_readValue} (hrc : hg5_X10_readValue X d rc) (l0 : Nat) (l2 : Int32) (l3 : Int32) (l5 : Int32) (s0 : Int32) (s1 : Nat) (h : mx_H) {r : mx_H} (hf : j_X10_readCall_275 nn rc l0 l2 l3 l5 s0 s1 h = some r) : mx_S X F L 304 275 [(0, .ref l0), (2, .int l2), (3, .int l3), (5, .int l5)] [.int s0, .ref s1] h 0 0 (none, r, 0, 0) := by
  have hm : mx_mt 304 = some (yX10_readCall, cX10_readCall, 11, none) := mt_X10_readCall
  unfold j_X10_readCall_275 at hf
  replace hf := mx_gd_el hf; obtain ⟨c1, hf⟩ := hf
  replace hf := mx_sv_el hf; obtain ⟨u2, e_u2, hf⟩ := hf
  refine sx_cv hm dX10_readCall_275 rs_RX10_118 mt_X1_pop [.int s0] [] (b := s1) (ci := 1) rfl rfl rfl c1 (Nat.le_of_ble_eq_true rfl) (Nat.le_of_ble_eq_true rfl) (by omega) (by omega) (f_X1_pop_ok X (by omega) (by omega) nn s1 s0 h e_u2) ?_
  clear e_u2
  show mx_S X F L 304 278 [(0, .ref l0), (2, .int l2), (3, .int l3), (5, .int l5)] [] u2 0 0 (none, r, 0, 0)
  refine mx_S.pu (pc2 := 279) (lv2 := [(0, .ref l0), (2, .int l2), (3, .int l3), (5, .int l5)]) (st2 := [.ref l0]) hm dX10_readCall_278 rfl ?_
  refine mx_S.pu (pc2 := 280) (lv2 := [(0, .ref l0), (2, .int l2), (3, .int l3), (5, .int l5)]) (st2 := [.ref l0, .ref l0]) hm dX10_readCall_279 rfl ?_
  replace hf := mx_sv_el hf; obtain ⟨v3, e_v3, hf⟩ := hf
  refine sx_get hm dX10_readCall_280 rs_RX10_35 (xgr_el e_v3) ?_
  clear e_v3
  refine mx_S.pu (pc2 := 284) (lv2 := [(0, .ref l0), (2, .int l2), (3, .int l3), (5, .int l5)]) (st2 := [.int l2, .ref v3, .ref l0]) hm dX10_readCall_283 rfl ?_
  replace hf := mx_gd_el hf; obtain ⟨c4, hf⟩ := hf
  replace hf := mx_sv_el hf; obtain ⟨u5, e_u5, hf⟩ := hf
  refine sx_cv hm dX10_readCall_284 rs_RX10_290 mt_X2_resultOf [.int l2] [.ref l0] (b := v3) (ci := 2) rfl rfl rfl c4 (Nat.le_of_ble_eq_true rfl) (Nat.le_of_ble_eq_true rfl) (by omega) (by omega) (f_X2_resultOf_ok X (by omega) (by omega) nn v3 l2 u2 e_u5) ?_
  clear e_u5
  show mx_S X F L 304 287 [(0, .ref l0), (2, .int l2), (3, .int l3), (5, .int l5)] [.int u5.1, .ref l0] u5.2 0 0 (none, r, 0, 0)
  refine mx_S.pu (pc2 := 288) (lv2 := [(0, .ref l0), (2, .int l2), (3, .int l3), (5, .int l5)]) (st2 := [.int l3, .int u5.1, .ref l0]) hm dX10_readCall_287 rfl ?_
  refine mx_S.pu (pc2 := 290) (lv2 := [(0, .ref l0), (2, .int l2), (3, .int l3), (5, .int l5)]) (st2 := [.int l5, .int l3, .int u5.1, .ref l0]) hm dX10_readCall_288 rfl ?_
  replace hf := mx_gd_el hf; obtain ⟨c6, hf⟩ := hf
  replace hf := mx_sv_el hf; obtain ⟨u7, e_u7, hf⟩ := hf
  refine sx_cv hm dX10_readCall_290 rs_RX10_293 mt_X10_closeCall [.int u5.1, .int l3, .int l5] [] (b := l0) (ci := 10) rfl rfl rfl c6 (Nat.le_of_ble_eq_true rfl) (Nat.le_of_ble_eq_true rfl) (by omega) (by omega) (f_X10_closeCall_ok X (by omega) (by omega) nn l0 u5.1 l3 l5 u5.2 e_u7) ?_
  clear e_u7
  show mx_S X F L 304 293 [(0, .ref l0), (2, .int l2), (3, .int l3), (5, .int l5)] [] u7 0 0 (none, r, 0, 0)
  cases hf
  exact sx_ret hm dX10_readCall_293 rfl
set_option maxHeartbeats 4000000 in
set_option maxRecDepth 20000 in
theorem j_X10_readCall_245_ok (X : Nat × (Nat → Int32)) {F L d : Nat} (hF : 5 + (d + 1) ≤ F) (hL : 152 + (d + 1) * 30 ≤ L) (nn : Nat) {rc : tg_X10_readValue} (hrc : hg5_X10_readValue X d rc) (l0 : Nat) (l1 : Int32) (l2 : Int32) (l3 : Int32) (l5 : Int32) (l7 : Int32) (l9 : Int32) (s0 : Int32) (s1 : Nat) (h : mx_H) {r : mx_H} (hf : j_X10_readCall_245 nn rc l0 l1 l2 l3 l5 l7 l9 s0 s1 h = some r) : mx_S X F L 304 245 [(0, .ref l0), (1, .int l1), (2, .int l2), (3, .int l3), (5, .int l5), (7, .int l7), (9, .int l9)] [.int s0, .ref s1] h 0 0 (none, r, 0, 0) := by
  have hm : mx_mt 304 = some (yX10_readCall, cX10_readCall, 11, none) := mt_X10_readCall
  unfold j_X10_readCall_245 at hf
  refine mx_S.pu (pc2 := 246) (lv2 := [(0, .ref l0), (1, .int l1), (2, .int l2), (3, .int l3), (5, .int l5), (7, .int l7), (9, .int l9)]) (st2 := [.ref l0, .int s0, .ref s1]) hm dX10_readCall_245 rfl ?_
  replace hf := mx_sv_el hf; obtain ⟨v8, e_v8, hf⟩ := hf
  refine sx_get hm dX10_readCall_246 rs_RX10_50 (xgr_el e_v8) ?_
  clear e_v8
  refine mx_S.pu (pc2 := 250) (lv2 := [(0, .ref l0), (1, .int l1), (2, .int l2), (3, .int l3), (5, .int l5), (7, .int l7), (9, .int l9)]) (st2 := [.int l1, .ref v8, .int s0, .ref s1]) hm dX10_readCall_249 rfl ?_
  refine mx_S.pu (pc2 := 251) (lv2 := [(0, .ref l0), (1, .int l1), (2, .int l2), (3, .int l3), (5, .int l5), (7, .int l7), (9, .int l9)]) (st2 := [.int l2, .int l1, .ref v8, .int s0, .ref s1]) hm dX10_readCall_250 rfl ?_
  replace hf := mx_gd_el hf; obtain ⟨c9, hf⟩ := hf
  replace hf := mx_sv_el hf; obtain ⟨u10, e_u10, hf⟩ := hf
  refine sx_cv hm dX10_readCall_251 rs_RX10_289 mt_X6_methodOf [.int l1, .int l2] [.int s0, .ref s1] (b := v8) (ci := 6) rfl rfl rfl c9 (Nat.le_of_ble_eq_true rfl) (Nat.le_of_ble_eq_true rfl) (by omega) (by omega) (f_X6_methodOf_ok X (by omega) (by omega) nn v8 l1 l2 h e_u10) ?_
  clear e_u10
  show mx_S X F L 304 254 [(0, .ref l0), (1, .int l1), (2, .int l2), (3, .int l3), (5, .int l5), (7, .int l7), (9, .int l9)] [.int u10.1, .int s0, .ref s1] u10.2 0 0 (none, r, 0, 0)
  replace hf := mx_gd_el hf; obtain ⟨c11, hf⟩ := hf
  replace hf := mx_sv_el hf; obtain ⟨u12, e_u12, hf⟩ := hf
  refine sx_cv hm dX10_readCall_254 rs_RX10_179 mt_X1_op_ [.int s0, .int u10.1] [] (b := s1) (ci := 1) rfl rfl rfl c11 (Nat.le_of_ble_eq_true rfl) (Nat.le_of_ble_eq_true rfl) (by omega) (by omega) (f_X1_op__ok X (by omega) (by omega) nn s1 s0 u10.1 u10.2 e_u12) ?_
  clear e_u12
  show mx_S X F L 304 257 [(0, .ref l0), (1, .int l1), (2, .int l2), (3, .int l3), (5, .int l5), (7, .int l7), (9, .int l9)] [] u12 0 0 (none, r, 0, 0)
  refine mx_S.pu (pc2 := 258) (lv2 := [(0, .ref l0), (1, .int l1), (2, .int l2), (3, .int l3), (5, .int l5), (7, .int l7), (9, .int l9)]) (st2 := [.ref l0]) hm dX10_readCall_257 rfl ?_
  replace hf := mx_sv_el hf; obtain ⟨v13, e_v13, hf⟩ := hf
  refine sx_get hm dX10_readCall_258 rs_RX10_46 (xgr_el e_v13) ?_
  clear e_v13
  refine mx_S.pu (pc2 := 263) (lv2 := [(0, .ref l0), (1, .int l1), (2, .int l2), (3, .int l3), (5, .int l5), (7, .int l7), (9, .int l9)]) (st2 := [.int l9, .ref v13]) hm dX10_readCall_261 rfl ?_
  rcases mx_if_el hf with ⟨c15, hf⟩ | ⟨c15, hf⟩
  · refine sb_if_eq hm dX10_readCall_263 (tgt := 271) rfl (fun _ => ?_) (fun z => absurd c15 z)
    refine mx_S.pu (pc2 := 273) (lv2 := [(0, .ref l0), (1, .int l1), (2, .int l2), (3, .int l3), (5, .int l5), (7, .int l7), (9, .int l9)]) (st2 := [.int l7, .ref v13]) hm dX10_readCall_271 rfl ?_
    refine sx_ic (v := 1) hm dX10_readCall_273 (by decide) ?_
    replace hf := xl_el hf; obtain ⟨v14, e_v14, hf⟩ := hf
    refine mx_S.pu (pc2 := 275) (lv2 := [(0, .ref l0), (1, .int l1), (2, .int l2), (3, .int l3), (5, .int l5), (7, .int l7), (9, .int l9)]) (st2 := [.int v14, .ref v13]) hm dX10_readCall_274 (by rw [← e_v14]; rfl) ?_
    clear e_v14
    refine mx_S.ext [(0, .ref l0), (2, .int l2), (3, .int l3), (5, .int l5)] (mx_sub_pos [0, 2, 3, 4] rfl (show ([0, 1, 2, 3, 5, 7, 9] : List Nat).Nodup by decide)) ?_
    exact j_X10_readCall_275_ok X hF hL nn hrc l0 l2 l3 l5 v14 v13 u12 hf
  · refine sb_if_eq hm dX10_readCall_263 (tgt := 271) rfl (fun z => absurd z c15) (fun _ => ?_)
    refine mx_S.pu (pc2 := 268) (lv2 := [(0, .ref l0), (1, .int l1), (2, .int l2), (3, .int l3), (5, .int l5), (7, .int l7), (9, .int l9)]) (st2 := [.int l7, .ref v13]) hm dX10_readCall_266 rfl ?_
    refine mx_S.pu (pc2 := 275) (lv2 := [(0, .ref l0), (1, .int l1), (2, .int l2), (3, .int l3), (5, .int l5), (7, .int l7), (9, .int l9)]) (st2 := [.int l7, .ref v13]) hm dX10_readCall_268 rfl ?_
    refine mx_S.ext [(0, .ref l0), (2, .int l2), (3, .int l3), (5, .int l5)] (mx_sub_pos [0, 2, 3, 4] rfl (show ([0, 1, 2, 3, 5, 7, 9] : List Nat).Nodup by decide)) ?_
    exact j_X10_readCall_275_ok X hF hL nn hrc l0 l2 l3 l5 l7 v13 u12 hf
set_option maxHeartbeats 4000000 in
set_option maxRecDepth 20000 in
theorem j_X10_readCall_223_ok (X : Nat × (Nat → Int32)) {F L d : Nat} (hF : 5 + (d + 1) ≤ F) (hL : 152 + (d + 1) * 30 ≤ L) (nn : Nat) {rc : tg_X10_readValue} (hrc : hg5_X10_readValue X d rc) (l0 : Nat) (l1 : Int32) (l2 : Int32) (l3 : Int32) (l5 : Int32) (l7 : Int32) (l9 : Int32) (s0 : Int32) (s1 : Nat) (h : mx_H) {r : mx_H} (hf : j_X10_readCall_223 nn rc l0 l1 l2 l3 l5 l7 l9 s0 s1 h = some r) : mx_S X F L 304 223 [(0, .ref l0), (1, .int l1), (2, .int l2), (3, .int l3), (5, .int l5), (7, .int l7), (9, .int l9)] [.int s0, .ref s1] h 0 0 (none, r, 0, 0) := by
  have hm : mx_mt 304 = some (yX10_readCall, cX10_readCall, 11, none) := mt_X10_readCall
  unfold j_X10_readCall_223 at hf
  refine mx_S.pu (pc2 := 224) (lv2 := [(0, .ref l0), (1, .int l1), (2, .int l2), (3, .int l3), (5, .int l5), (7, .int l7), (9, .int l9)]) (st2 := [.int l3, .int s0, .ref s1]) hm dX10_readCall_223 rfl ?_
  replace hf := mx_gd_el hf; obtain ⟨c16, hf⟩ := hf
  replace hf := mx_sv_el hf; obtain ⟨u17, e_u17, hf⟩ := hf
  refine sx_cv hm dX10_readCall_224 rs_RX10_80 mt_X10_wantType [.int s0, .int l3] [] (b := s1) (ci := 10) rfl rfl rfl c16 (Nat.le_of_ble_eq_true rfl) (Nat.le_of_ble_eq_true rfl) (by omega) (by omega) (f_X10_wantType_ok X (by omega) (by omega) nn s1 s0 l3 h e_u17) ?_
  clear e_u17
  show mx_S X F L 304 227 [(0, .ref l0), (1, .int l1), (2, .int l2), (3, .int l3), (5, .int l5), (7, .int l7), (9, .int l9)] [] u17 0 0 (none, r, 0, 0)
  refine mx_S.pu (pc2 := 228) (lv2 := [(0, .ref l0), (1, .int l1), (2, .int l2), (3, .int l3), (5, .int l5), (7, .int l7), (9, .int l9)]) (st2 := [.ref l0]) hm dX10_readCall_227 rfl ?_
  replace hf := mx_sv_el hf; obtain ⟨v18, e_v18, hf⟩ := hf
  refine sx_get hm dX10_readCall_228 rs_RX10_46 (xgr_el e_v18) ?_
  clear e_v18
  refine mx_S.pu (pc2 := 233) (lv2 := [(0, .ref l0), (1, .int l1), (2, .int l2), (3, .int l3), (5, .int l5), (7, .int l7), (9, .int l9)]) (st2 := [.int l9, .ref v18]) hm dX10_readCall_231 rfl ?_
  rcases mx_if_el hf with ⟨c19, hf⟩ | ⟨c19, hf⟩
  · refine sb_if_eq hm dX10_readCall_233 (tgt := 242) rfl (fun _ => ?_) (fun z => absurd c19 z)
    refine sx_si (v := 182) hm dX10_readCall_242 (by decide) ?_
    exact j_X10_readCall_245_ok X hF hL nn hrc l0 l1 l2 l3 l5 l7 l9 182 v18 u17 hf
  · refine sb_if_eq hm dX10_readCall_233 (tgt := 242) rfl (fun z => absurd z c19) (fun _ => ?_)
    refine sx_si (v := 184) hm dX10_readCall_236 (by decide) ?_
    refine mx_S.pu (pc2 := 245) (lv2 := [(0, .ref l0), (1, .int l1), (2, .int l2), (3, .int l3), (5, .int l5), (7, .int l7), (9, .int l9)]) (st2 := [.int 184, .ref v18]) hm dX10_readCall_239 rfl ?_
    exact j_X10_readCall_245_ok X hF hL nn hrc l0 l1 l2 l3 l5 l7 l9 184 v18 u17 hf
set_option maxHeartbeats 4000000 in
set_option maxRecDepth 20000 in
theorem j_X10_readCall_222_ok (X : Nat × (Nat → Int32)) {F L d : Nat} (hF : 5 + (d + 1) ≤ F) (hL : 152 + (d + 1) * 30 ≤ L) (nn : Nat) {rc : tg_X10_readValue} (hrc : hg5_X10_readValue X d rc) (l0 : Nat) (l1 : Int32) (l2 : Int32) (l3 : Int32) (l5 : Int32) (l7 : Int32) (l9 : Int32) (s0 : Nat) (h : mx_H) {r : mx_H} (hf : j_X10_readCall_222 nn rc l0 l1 l2 l3 l5 l7 l9 s0 h = some r) : mx_S X F L 304 222 [(0, .ref l0), (1, .int l1), (2, .int l2), (3, .int l3), (5, .int l5), (7, .int l7), (9, .int l9)] [.ref s0] h 0 0 (none, r, 0, 0) := by
  have hm : mx_mt 304 = some (yX10_readCall, cX10_readCall, 11, none) := mt_X10_readCall
  unfold j_X10_readCall_222 at hf
  refine sx_ic (v := 0) hm dX10_readCall_222 (by decide) ?_
  exact j_X10_readCall_223_ok X hF hL nn hrc l0 l1 l2 l3 l5 l7 l9 0 s0 h hf
set_option maxHeartbeats 4000000 in
set_option maxRecDepth 20000 in
theorem j_X10_readCall_192_ok (X : Nat × (Nat → Int32)) {F L d : Nat} (hF : 5 + (d + 1) ≤ F) (hL : 152 + (d + 1) * 30 ≤ L) (nn : Nat) {rc : tg_X10_readValue} (hrc : hg5_X10_readValue X d rc) (l0 : Nat) (l1 : Int32) (l2 : Int32) (l3 : Int32) (l5 : Int32) (l7 : Int32) (l8 : Int32) (l9 : Int32) (s0 : Int32) (h : mx_H) {r : mx_H} (hf : j_X10_readCall_192 nn rc l0 l1 l2 l3 l5 l7 l8 l9 s0 h = some r) : mx_S X F L 304 192 [(0, .ref l0), (1, .int l1), (2, .int l2), (3, .int l3), (5, .int l5), (7, .int l7), (8, .int l8), (9, .int l9)] [.int s0] h 0 0 (none, r, 0, 0) := by
  have hm : mx_mt 304 = some (yX10_readCall, cX10_readCall, 11, none) := mt_X10_readCall
  unfold j_X10_readCall_192 at hf
  refine mx_S.pu (pc2 := 194) (lv2 := [(10, .int s0), (0, .ref l0), (1, .int l1), (2, .int l2), (3, .int l3), (5, .int l5), (7, .int l7), (8, .int l8), (9, .int l9)]) (st2 := []) hm dX10_readCall_192 rfl ?_
  refine mx_S.pu (pc2 := 195) (lv2 := [(10, .int s0), (0, .ref l0), (1, .int l1), (2, .int l2), (3, .int l3), (5, .int l5), (7, .int l7), (8, .int l8), (9, .int l9)]) (st2 := [.ref l0]) hm dX10_readCall_194 rfl ?_
  refine mx_S.pu (pc2 := 197) (lv2 := [(10, .int s0), (0, .ref l0), (1, .int l1), (2, .int l2), (3, .int l3), (5, .int l5), (7, .int l7), (8, .int l8), (9, .int l9)]) (st2 := [.int l8, .ref l0]) hm dX10_readCall_195 rfl ?_
  rcases mx_if_el hf with ⟨c25, hf⟩ | ⟨c25, hf⟩
  · refine sb_if_eq hm dX10_readCall_197 (tgt := 222) rfl (fun _ => ?_) (fun z => absurd c25 z)
    refine mx_S.ext [(0, .ref l0), (1, .int l1), (2, .int l2), (3, .int l3), (5, .int l5), (7, .int l7), (9, .int l9)] (mx_sub_pos [1, 2, 3, 4, 5, 6, 8] rfl (show ([10, 0, 1, 2, 3, 5, 7, 8, 9] : List Nat).Nodup by decide)) ?_
    exact j_X10_readCall_222_ok X hF hL nn hrc l0 l1 l2 l3 l5 l7 l9 l0 h hf
  · refine sb_if_eq hm dX10_readCall_197 (tgt := 222) rfl (fun z => absurd z c25) (fun _ => ?_)
    refine mx_S.pu (pc2 := 202) (lv2 := [(10, .int s0), (0, .ref l0), (1, .int l1), (2, .int l2), (3, .int l3), (5, .int l5), (7, .int l7), (8, .int l8), (9, .int l9)]) (st2 := [.int s0, .ref l0]) hm dX10_readCall_200 rfl ?_
    rcases mx_if_el hf with ⟨c24, hf⟩ | ⟨c24, hf⟩
    · refine sb_if_ne hm dX10_readCall_202 (tgt := 222) rfl (fun _ => ?_) (fun z => absurd c24 z)
      refine mx_S.ext [(0, .ref l0), (1, .int l1), (2, .int l2), (3, .int l3), (5, .int l5), (7, .int l7), (9, .int l9)] (mx_sub_pos [1, 2, 3, 4, 5, 6, 8] rfl (show ([10, 0, 1, 2, 3, 5, 7, 8, 9] : List Nat).Nodup by decide)) ?_
      exact j_X10_readCall_222_ok X hF hL nn hrc l0 l1 l2 l3 l5 l7 l9 l0 h hf
    · refine sb_if_ne hm dX10_readCall_202 (tgt := 222) rfl (fun z => absurd z c24) (fun _ => ?_)
      refine mx_S.pu (pc2 := 207) (lv2 := [(10, .int s0), (0, .ref l0), (1, .int l1), (2, .int l2), (3, .int l3), (5, .int l5), (7, .int l7), (8, .int l8), (9, .int l9)]) (st2 := [.int l7, .ref l0]) hm dX10_readCall_205 rfl ?_
      refine mx_S.pu (pc2 := 208) (lv2 := [(10, .int s0), (0, .ref l0), (1, .int l1), (2, .int l2), (3, .int l3), (5, .int l5), (7, .int l7), (8, .int l8), (9, .int l9)]) (st2 := [.ref l0, .int l7, .ref l0]) hm dX10_readCall_207 rfl ?_
      replace hf := mx_sv_el hf; obtain ⟨v20, e_v20, hf⟩ := hf
      refine sx_get hm dX10_readCall_208 rs_RX10_35 (xgr_el e_v20) ?_
      clear e_v20
      refine mx_S.pu (pc2 := 212) (lv2 := [(10, .int s0), (0, .ref l0), (1, .int l1), (2, .int l2), (3, .int l3), (5, .int l5), (7, .int l7), (8, .int l8), (9, .int l9)]) (st2 := [.int l2, .ref v20, .int l7, .ref l0]) hm dX10_readCall_211 rfl ?_
      replace hf := mx_gd_el hf; obtain ⟨c21, hf⟩ := hf
      replace hf := mx_sv_el hf; obtain ⟨u22, e_u22, hf⟩ := hf
      refine sx_cv hm dX10_readCall_212 rs_RX10_286 mt_X2_parametersOf [.int l2] [.int l7, .ref l0] (b := v20) (ci := 2) rfl rfl rfl c21 (Nat.le_of_ble_eq_true rfl) (Nat.le_of_ble_eq_true rfl) (by omega) (by omega) (f_X2_parametersOf_ok X (by omega) (by omega) nn v20 l2 h e_u22) ?_
      clear e_u22
      show mx_S X F L 304 215 [(10, .int s0), (0, .ref l0), (1, .int l1), (2, .int l2), (3, .int l3), (5, .int l5), (7, .int l7), (8, .int l8), (9, .int l9)] [.int u22.1, .int l7, .ref l0] u22.2 0 0 (none, r, 0, 0)
      rcases mx_if_el hf with ⟨c23, hf⟩ | ⟨c23, hf⟩
      · refine sb_ic_ne hm dX10_readCall_215 (tgt := 222) rfl (fun _ => ?_) (fun z => absurd c23 z)
        refine mx_S.ext [(0, .ref l0), (1, .int l1), (2, .int l2), (3, .int l3), (5, .int l5), (7, .int l7), (9, .int l9)] (mx_sub_pos [1, 2, 3, 4, 5, 6, 8] rfl (show ([10, 0, 1, 2, 3, 5, 7, 8, 9] : List Nat).Nodup by decide)) ?_
        exact j_X10_readCall_222_ok X hF hL nn hrc l0 l1 l2 l3 l5 l7 l9 l0 u22.2 hf
      · refine sb_ic_ne hm dX10_readCall_215 (tgt := 222) rfl (fun z => absurd z c23) (fun _ => ?_)
        refine sx_ic (v := 1) hm dX10_readCall_218 (by decide) ?_
        refine mx_S.pu (pc2 := 223) (lv2 := [(10, .int s0), (0, .ref l0), (1, .int l1), (2, .int l2), (3, .int l3), (5, .int l5), (7, .int l7), (8, .int l8), (9, .int l9)]) (st2 := [.int 1, .ref l0]) hm dX10_readCall_219 rfl ?_
        refine mx_S.ext [(0, .ref l0), (1, .int l1), (2, .int l2), (3, .int l3), (5, .int l5), (7, .int l7), (9, .int l9)] (mx_sub_pos [1, 2, 3, 4, 5, 6, 8] rfl (show ([10, 0, 1, 2, 3, 5, 7, 8, 9] : List Nat).Nodup by decide)) ?_
        exact j_X10_readCall_223_ok X hF hL nn hrc l0 l1 l2 l3 l5 l7 l9 1 l0 u22.2 hf
set_option maxHeartbeats 4000000 in
set_option maxRecDepth 20000 in
theorem j_X10_readCall_128_ok (X : Nat × (Nat → Int32)) {F L d : Nat} (hF : 5 + (d + 1) ≤ F) (hL : 152 + (d + 1) * 30 ≤ L) (nn : Nat) {rc : tg_X10_readValue} (hrc : hg5_X10_readValue X d rc) (l0 : Nat) (l1 : Int32) (l2 : Int32) (l3 : Int32) (l4 : Int32) (l5 : Int32) (l7 : Int32) (l8 : Int32) (h : mx_H) {r : mx_H} (hf : j_X10_readCall_128 nn rc l0 l1 l2 l3 l4 l5 l7 l8 h = some r) : mx_S X F L 304 128 [(0, .ref l0), (1, .int l1), (2, .int l2), (3, .int l3), (4, .int l4), (5, .int l5), (7, .int l7), (8, .int l8)] [] h 0 0 (none, r, 0, 0) := by
  have hm : mx_mt 304 = some (yX10_readCall, cX10_readCall, 11, none) := mt_X10_readCall
  unfold j_X10_readCall_128 at hf
  refine mx_S.pu (pc2 := 129) (lv2 := [(0, .ref l0), (1, .int l1), (2, .int l2), (3, .int l3), (4, .int l4), (5, .int l5), (7, .int l7), (8, .int l8)]) (st2 := [.ref l0]) hm dX10_readCall_128 rfl ?_
  replace hf := mx_sv_el hf; obtain ⟨v26, e_v26, hf⟩ := hf
  refine sx_get hm dX10_readCall_129 rs_RX10_31 (xgr_el e_v26) ?_
  clear e_v26
  refine mx_S.pu (pc2 := 133) (lv2 := [(0, .ref l0), (1, .int l1), (2, .int l2), (3, .int l3), (4, .int l4), (5, .int l5), (7, .int l7), (8, .int l8)]) (st2 := [.ref v26, .ref v26]) hm dX10_readCall_132 rfl ?_
  replace hf := mx_sv_el hf; obtain ⟨v27, e_v27, hf⟩ := hf
  refine sx_get hm dX10_readCall_133 rs_RX10_72 (xgi_el e_v27) ?_
  clear e_v27
  refine sx_ic (v := 1) hm dX10_readCall_136 (by decide) ?_
  replace hf := xl_el hf; obtain ⟨v28, e_v28, hf⟩ := hf
  refine mx_S.pu (pc2 := 138) (lv2 := [(0, .ref l0), (1, .int l1), (2, .int l2), (3, .int l3), (4, .int l4), (5, .int l5), (7, .int l7), (8, .int l8)]) (st2 := [.int v28, .ref v26]) hm dX10_readCall_137 (by rw [← e_v28]; rfl) ?_
  clear e_v28
  replace hf := mx_sv_el hf; obtain ⟨h29, e_h29, hf⟩ := hf
  refine sx_put hm dX10_readCall_138 rs_RX10_72 ft_9_10 ⟨rfl, rfl⟩ (fun z => by cases z) e_h29 ?_
  clear e_h29
  refine mx_S.pu (pc2 := 142) (lv2 := [(0, .ref l0), (1, .int l1), (2, .int l2), (3, .int l3), (4, .int l4), (5, .int l5), (7, .int l7), (8, .int l8)]) (st2 := [.ref l0]) hm dX10_readCall_141 rfl ?_
  replace hf := mx_sv_el hf; obtain ⟨v30, e_v30, hf⟩ := hf
  refine sx_get hm dX10_readCall_142 rs_RX10_31 (xgr_el e_v30) ?_
  clear e_v30
  replace hf := mx_sv_el hf; obtain ⟨v31, e_v31, hf⟩ := hf
  refine sx_get hm dX10_readCall_145 rs_RX10_280 (xgi_el e_v31) ?_
  clear e_v31
  rcases mx_if_el hf with ⟨c38, hf⟩ | ⟨c38, hf⟩
  · refine sb_if_eq hm dX10_readCall_148 (tgt := 152) rfl (fun _ => ?_) (fun z => absurd c38 z)
    refine mx_S.pu (pc2 := 153) (lv2 := [(0, .ref l0), (1, .int l1), (2, .int l2), (3, .int l3), (4, .int l4), (5, .int l5), (7, .int l7), (8, .int l8)]) (st2 := [.ref l0]) hm dX10_readCall_152 rfl ?_
    replace hf := mx_sv_el hf; obtain ⟨v32, e_v32, hf⟩ := hf
    refine sx_get hm dX10_readCall_153 rs_RX10_35 (xgr_el e_v32) ?_
    clear e_v32
    refine mx_S.pu (pc2 := 157) (lv2 := [(0, .ref l0), (1, .int l1), (2, .int l2), (3, .int l3), (4, .int l4), (5, .int l5), (7, .int l7), (8, .int l8)]) (st2 := [.int l2, .ref v32]) hm dX10_readCall_156 rfl ?_
    replace hf := mx_gd_el hf; obtain ⟨c33, hf⟩ := hf
    replace hf := mx_sv_el hf; obtain ⟨u34, e_u34, hf⟩ := hf
    refine sx_cv hm dX10_readCall_157 rs_RX10_251 mt_X2_isFixed [.int l2] [] (b := v32) (ci := 2) rfl rfl rfl c33 (Nat.le_of_ble_eq_true rfl) (Nat.le_of_ble_eq_true rfl) (by omega) (by omega) (f_X2_isFixed_ok X (by omega) (by omega) nn v32 l2 h29 e_u34) ?_
    clear e_u34
    show mx_S X F L 304 160 [(0, .ref l0), (1, .int l1), (2, .int l2), (3, .int l3), (4, .int l4), (5, .int l5), (7, .int l7), (8, .int l8)] [.int u34.1] u34.2 0 0 (none, r, 0, 0)
    refine mx_S.pu (pc2 := 162) (lv2 := [(9, .int u34.1), (0, .ref l0), (1, .int l1), (2, .int l2), (3, .int l3), (4, .int l4), (5, .int l5), (7, .int l7), (8, .int l8)]) (st2 := []) hm dX10_readCall_160 rfl ?_
    refine mx_S.pu (pc2 := 164) (lv2 := [(9, .int u34.1), (0, .ref l0), (1, .int l1), (2, .int l2), (3, .int l3), (4, .int l4), (5, .int l5), (7, .int l7), (8, .int l8)]) (st2 := [.int u34.1]) hm dX10_readCall_162 rfl ?_
    rcases mx_if_el hf with ⟨c37, hf⟩ | ⟨c37, hf⟩
    · refine sb_if_eq hm dX10_readCall_164 (tgt := 181) rfl (fun _ => ?_) (fun z => absurd c37 z)
      refine mx_S.pu (pc2 := 183) (lv2 := [(9, .int u34.1), (0, .ref l0), (1, .int l1), (2, .int l2), (3, .int l3), (4, .int l4), (5, .int l5), (7, .int l7), (8, .int l8)]) (st2 := [.int l4]) hm dX10_readCall_181 rfl ?_
      refine sx_ic (v := 2) hm dX10_readCall_183 (by decide) ?_
      rcases mx_if_el hf with ⟨c35, hf⟩ | ⟨c35, hf⟩
      · refine sb_ic_ne hm dX10_readCall_184 (tgt := 191) rfl (fun _ => ?_) (fun z => absurd c35 z)
        refine sx_ic (v := 0) hm dX10_readCall_191 (by decide) ?_
        refine mx_S.ext [(0, .ref l0), (1, .int l1), (2, .int l2), (3, .int l3), (5, .int l5), (7, .int l7), (8, .int l8), (9, .int u34.1)] (mx_sub_pos [1, 2, 3, 4, 6, 7, 8, 0] rfl (show ([9, 0, 1, 2, 3, 4, 5, 7, 8] : List Nat).Nodup by decide)) ?_
        exact j_X10_readCall_192_ok X hF hL nn hrc l0 l1 l2 l3 l5 l7 l8 u34.1 0 u34.2 hf
      · refine sb_ic_ne hm dX10_readCall_184 (tgt := 191) rfl (fun z => absurd z c35) (fun _ => ?_)
        refine sx_ic (v := 1) hm dX10_readCall_187 (by decide) ?_
        refine mx_S.pu (pc2 := 192) (lv2 := [(9, .int u34.1), (0, .ref l0), (1, .int l1), (2, .int l2), (3, .int l3), (4, .int l4), (5, .int l5), (7, .int l7), (8, .int l8)]) (st2 := [.int 1]) hm dX10_readCall_188 rfl ?_
        refine mx_S.ext [(0, .ref l0), (1, .int l1), (2, .int l2), (3, .int l3), (5, .int l5), (7, .int l7), (8, .int l8), (9, .int u34.1)] (mx_sub_pos [1, 2, 3, 4, 6, 7, 8, 0] rfl (show ([9, 0, 1, 2, 3, 4, 5, 7, 8] : List Nat).Nodup by decide)) ?_
        exact j_X10_readCall_192_ok X hF hL nn hrc l0 l1 l2 l3 l5 l7 l8 u34.1 1 u34.2 hf
    · refine sb_if_eq hm dX10_readCall_164 (tgt := 181) rfl (fun z => absurd z c37) (fun _ => ?_)
      refine mx_S.pu (pc2 := 169) (lv2 := [(9, .int u34.1), (0, .ref l0), (1, .int l1), (2, .int l2), (3, .int l3), (4, .int l4), (5, .int l5), (7, .int l7), (8, .int l8)]) (st2 := [.int l4]) hm dX10_readCall_167 rfl ?_
      refine sx_ic (v := 1) hm dX10_readCall_169 (by decide) ?_
      rcases mx_if_el hf with ⟨c36, hf⟩ | ⟨c36, hf⟩
      · refine sb_ic_ne hm dX10_readCall_170 (tgt := 177) rfl (fun _ => ?_) (fun z => absurd c36 z)
        refine sx_ic (v := 0) hm dX10_readCall_177 (by decide) ?_
        refine mx_S.pu (pc2 := 192) (lv2 := [(9, .int u34.1), (0, .ref l0), (1, .int l1), (2, .int l2), (3, .int l3), (4, .int l4), (5, .int l5), (7, .int l7), (8, .int l8)]) (st2 := [.int 0]) hm dX10_readCall_178 rfl ?_
        refine mx_S.ext [(0, .ref l0), (1, .int l1), (2, .int l2), (3, .int l3), (5, .int l5), (7, .int l7), (8, .int l8), (9, .int u34.1)] (mx_sub_pos [1, 2, 3, 4, 6, 7, 8, 0] rfl (show ([9, 0, 1, 2, 3, 4, 5, 7, 8] : List Nat).Nodup by decide)) ?_
        exact j_X10_readCall_192_ok X hF hL nn hrc l0 l1 l2 l3 l5 l7 l8 u34.1 0 u34.2 hf
      · refine sb_ic_ne hm dX10_readCall_170 (tgt := 177) rfl (fun z => absurd z c36) (fun _ => ?_)
        refine sx_ic (v := 1) hm dX10_readCall_173 (by decide) ?_
        refine mx_S.pu (pc2 := 192) (lv2 := [(9, .int u34.1), (0, .ref l0), (1, .int l1), (2, .int l2), (3, .int l3), (4, .int l4), (5, .int l5), (7, .int l7), (8, .int l8)]) (st2 := [.int 1]) hm dX10_readCall_174 rfl ?_
        refine mx_S.ext [(0, .ref l0), (1, .int l1), (2, .int l2), (3, .int l3), (5, .int l5), (7, .int l7), (8, .int l8), (9, .int u34.1)] (mx_sub_pos [1, 2, 3, 4, 6, 7, 8, 0] rfl (show ([9, 0, 1, 2, 3, 4, 5, 7, 8] : List Nat).Nodup by decide)) ?_
        exact j_X10_readCall_192_ok X hF hL nn hrc l0 l1 l2 l3 l5 l7 l8 u34.1 1 u34.2 hf
  · refine sb_if_eq hm dX10_readCall_148 (tgt := 152) rfl (fun z => absurd z c38) (fun _ => ?_)
    cases hf
    exact sx_ret hm dX10_readCall_151 rfl
set_option maxHeartbeats 4000000 in
set_option maxRecDepth 20000 in
theorem j_X10_readCall_92_ok (X : Nat × (Nat → Int32)) {F L d : Nat} (hF : 5 + (d + 1) ≤ F) (hL : 152 + (d + 1) * 30 ≤ L) (nn : Nat) {rc : tg_X10_readValue} (hrc : hg5_X10_readValue X d rc) {kk_22 : Nat → Int32 → Int32 → Int32 → Int32 → Int32 → Int32 → Int32 → Int32 → Int32 → mx_H → Option mx_H} (hk_22 : ∀ (l0 : Nat) (l1 : Int32) (l2 : Int32) (l3 : Int32) (l4 : Int32) (l5 : Int32) (l6 : Int32) (l7 : Int32) (l8 : Int32) (l9 : Int32) (h : mx_H) (r : mx_H), kk_22 l0 l1 l2 l3 l4 l5 l6 l7 l8 l9 h = some r → mx_S X F L 304 22 [(0, .ref l0), (1, .int l1), (2, .int l2), (3, .int l3), (4, .int l4), (5, .int l5), (6, .int l6), (7, .int l7), (8, .int l8), (9, .int l9)] [] h 0 0 (none, r, 0, 0)) (l0 : Nat) (l1 : Int32) (l2 : Int32) (l3 : Int32) (l4 : Int32) (l5 : Int32) (l6 : Int32) (l7 : Int32) (l9 : Int32) (s0 : Int32) (h : mx_H) {r : mx_H} (hf : j_X10_readCall_92 nn rc kk_22 l0 l1 l2 l3 l4 l5 l6 l7 l9 s0 h = some r) : mx_S X F L 304 92 [(0, .ref l0), (1, .int l1), (2, .int l2), (3, .int l3), (4, .int l4), (5, .int l5), (6, .int l6), (7, .int l7), (9, .int l9)] [.int s0] h 0 0 (none, r, 0, 0) := by
  have hm : mx_mt 304 = some (yX10_readCall, cX10_readCall, 11, none) := mt_X10_readCall
  unfold j_X10_readCall_92 at hf
  refine mx_S.pu (pc2 := 94) (lv2 := [(8, .int s0), (0, .ref l0), (1, .int l1), (2, .int l2), (3, .int l3), (4, .int l4), (5, .int l5), (6, .int l6), (7, .int l7), (9, .int l9)]) (st2 := []) hm dX10_readCall_92 rfl ?_
  replace hf := xl_el hf; obtain ⟨v39, e_v39, hf⟩ := hf
  refine mx_S.pu (pc2 := 97) (lv2 := [(7, .int v39), (8, .int s0), (0, .ref l0), (1, .int l1), (2, .int l2), (3, .int l3), (4, .int l4), (5, .int l5), (6, .int l6), (9, .int l9)]) (st2 := []) hm dX10_readCall_94 (by rw [← e_v39]; rfl) ?_
  clear e_v39
  refine mx_S.pu (pc2 := 98) (lv2 := [(7, .int v39), (8, .int s0), (0, .ref l0), (1, .int l1), (2, .int l2), (3, .int l3), (4, .int l4), (5, .int l5), (6, .int l6), (9, .int l9)]) (st2 := [.ref l0]) hm dX10_readCall_97 rfl ?_
  replace hf := mx_sv_el hf; obtain ⟨v40, e_v40, hf⟩ := hf
  refine sx_get hm dX10_readCall_98 rs_RX10_31 (xgr_el e_v40) ?_
  clear e_v40
  replace hf := mx_gd_el hf; obtain ⟨c41, hf⟩ := hf
  replace hf := mx_sv_el hf; obtain ⟨u42, e_u42, hf⟩ := hf
  refine sx_cv hm dX10_readCall_101 rs_RX10_93 mt_X9_kind [] [] (b := v40) (ci := 9) rfl rfl rfl c41 (Nat.le_of_ble_eq_true rfl) (Nat.le_of_ble_eq_true rfl) (by omega) (by omega) (f_X9_kind_ok X (by omega) (by omega) nn v40 h e_u42) ?_
  clear e_u42
  show mx_S X F L 304 104 [(7, .int v39), (8, .int s0), (0, .ref l0), (1, .int l1), (2, .int l2), (3, .int l3), (4, .int l4), (5, .int l5), (6, .int l6), (9, .int l9)] [.int u42.1] u42.2 0 0 (none, r, 0, 0)
  refine sx_bi (v := 47) hm dX10_readCall_104 (by decide) ?_
  rcases mx_if_el hf with ⟨c49, hf⟩ | ⟨c49, hf⟩
  · refine sb_ic_ne hm dX10_readCall_106 (tgt := 122) rfl (fun _ => ?_) (fun z => absurd c49 z)
    replace hf := xl_el hf; obtain ⟨v43, e_v43, hf⟩ := hf
    refine mx_S.pu (pc2 := 125) (lv2 := [(9, .int v43), (7, .int v39), (8, .int s0), (0, .ref l0), (1, .int l1), (2, .int l2), (3, .int l3), (4, .int l4), (5, .int l5), (6, .int l6)]) (st2 := []) hm dX10_readCall_122 (by rw [← e_v43]; rfl) ?_
    clear e_v43
    refine mx_S.pu (pc2 := 22) (lv2 := [(9, .int v43), (7, .int v39), (8, .int s0), (0, .ref l0), (1, .int l1), (2, .int l2), (3, .int l3), (4, .int l4), (5, .int l5), (6, .int l6)]) (st2 := []) hm dX10_readCall_125 rfl ?_
    refine mx_S.ext [(0, .ref l0), (1, .int l1), (2, .int l2), (3, .int l3), (4, .int l4), (5, .int l5), (6, .int l6), (7, .int v39), (8, .int s0), (9, .int v43)] (mx_sub_pos [3, 4, 5, 6, 7, 8, 9, 1, 2, 0] rfl (show ([9, 7, 8, 0, 1, 2, 3, 4, 5, 6] : List Nat).Nodup by decide)) ?_
    exact hk_22 l0 l1 l2 l3 l4 l5 l6 v39 s0 v43 u42.2 _ hf
  · refine sb_ic_ne hm dX10_readCall_106 (tgt := 122) rfl (fun z => absurd z c49) (fun _ => ?_)
    refine mx_S.pu (pc2 := 110) (lv2 := [(7, .int v39), (8, .int s0), (0, .ref l0), (1, .int l1), (2, .int l2), (3, .int l3), (4, .int l4), (5, .int l5), (6, .int l6), (9, .int l9)]) (st2 := [.ref l0]) hm dX10_readCall_109 rfl ?_
    replace hf := mx_sv_el hf; obtain ⟨v44, e_v44, hf⟩ := hf
    refine sx_get hm dX10_readCall_110 rs_RX10_31 (xgr_el e_v44) ?_
    clear e_v44
    refine mx_S.pu (pc2 := 114) (lv2 := [(7, .int v39), (8, .int s0), (0, .ref l0), (1, .int l1), (2, .int l2), (3, .int l3), (4, .int l4), (5, .int l5), (6, .int l6), (9, .int l9)]) (st2 := [.ref v44, .ref v44]) hm dX10_readCall_113 rfl ?_
    replace hf := mx_sv_el hf; obtain ⟨v45, e_v45, hf⟩ := hf
    refine sx_get hm dX10_readCall_114 rs_RX10_72 (xgi_el e_v45) ?_
    clear e_v45
    refine sx_ic (v := 1) hm dX10_readCall_117 (by decide) ?_
    replace hf := xl_el hf; obtain ⟨v46, e_v46, hf⟩ := hf
    refine mx_S.pu (pc2 := 119) (lv2 := [(7, .int v39), (8, .int s0), (0, .ref l0), (1, .int l1), (2, .int l2), (3, .int l3), (4, .int l4), (5, .int l5), (6, .int l6), (9, .int l9)]) (st2 := [.int v46, .ref v44]) hm dX10_readCall_118 (by rw [← e_v46]; rfl) ?_
    clear e_v46
    replace hf := mx_sv_el hf; obtain ⟨h47, e_h47, hf⟩ := hf
    refine sx_put hm dX10_readCall_119 rs_RX10_72 ft_9_10 ⟨rfl, rfl⟩ (fun z => by cases z) e_h47 ?_
    clear e_h47
    replace hf := xl_el hf; obtain ⟨v48, e_v48, hf⟩ := hf
    refine mx_S.pu (pc2 := 125) (lv2 := [(9, .int v48), (7, .int v39), (8, .int s0), (0, .ref l0), (1, .int l1), (2, .int l2), (3, .int l3), (4, .int l4), (5, .int l5), (6, .int l6)]) (st2 := []) hm dX10_readCall_122 (by rw [← e_v48]; rfl) ?_
    clear e_v48
    refine mx_S.pu (pc2 := 22) (lv2 := [(9, .int v48), (7, .int v39), (8, .int s0), (0, .ref l0), (1, .int l1), (2, .int l2), (3, .int l3), (4, .int l4), (5, .int l5), (6, .int l6)]) (st2 := []) hm dX10_readCall_125 rfl ?_
    refine mx_S.ext [(0, .ref l0), (1, .int l1), (2, .int l2), (3, .int l3), (4, .int l4), (5, .int l5), (6, .int l6), (7, .int v39), (8, .int s0), (9, .int v48)] (mx_sub_pos [3, 4, 5, 6, 7, 8, 9, 1, 2, 0] rfl (show ([9, 7, 8, 0, 1, 2, 3, 4, 5, 6] : List Nat).Nodup by decide)) ?_
    exact hk_22 l0 l1 l2 l3 l4 l5 l6 v39 s0 v48 h47 _ hf
set_option maxHeartbeats 4000000 in
set_option maxRecDepth 20000 in
theorem j_X10_readCall_91_ok (X : Nat × (Nat → Int32)) {F L d : Nat} (hF : 5 + (d + 1) ≤ F) (hL : 152 + (d + 1) * 30 ≤ L) (nn : Nat) {rc : tg_X10_readValue} (hrc : hg5_X10_readValue X d rc) {kk_22 : Nat → Int32 → Int32 → Int32 → Int32 → Int32 → Int32 → Int32 → Int32 → Int32 → mx_H → Option mx_H} (hk_22 : ∀ (l0 : Nat) (l1 : Int32) (l2 : Int32) (l3 : Int32) (l4 : Int32) (l5 : Int32) (l6 : Int32) (l7 : Int32) (l8 : Int32) (l9 : Int32) (h : mx_H) (r : mx_H), kk_22 l0 l1 l2 l3 l4 l5 l6 l7 l8 l9 h = some r → mx_S X F L 304 22 [(0, .ref l0), (1, .int l1), (2, .int l2), (3, .int l3), (4, .int l4), (5, .int l5), (6, .int l6), (7, .int l7), (8, .int l8), (9, .int l9)] [] h 0 0 (none, r, 0, 0)) (l0 : Nat) (l1 : Int32) (l2 : Int32) (l3 : Int32) (l4 : Int32) (l5 : Int32) (l6 : Int32) (l7 : Int32) (l9 : Int32) (h : mx_H) {r : mx_H} (hf : j_X10_readCall_91 nn rc kk_22 l0 l1 l2 l3 l4 l5 l6 l7 l9 h = some r) : mx_S X F L 304 91 [(0, .ref l0), (1, .int l1), (2, .int l2), (3, .int l3), (4, .int l4), (5, .int l5), (6, .int l6), (7, .int l7), (9, .int l9)] [] h 0 0 (none, r, 0, 0) := by
  have hm : mx_mt 304 = some (yX10_readCall, cX10_readCall, 11, none) := mt_X10_readCall
  unfold j_X10_readCall_91 at hf
  refine sx_ic (v := 0) hm dX10_readCall_91 (by decide) ?_
  exact j_X10_readCall_92_ok X hF hL nn hrc hk_22 l0 l1 l2 l3 l4 l5 l6 l7 l9 0 h hf
