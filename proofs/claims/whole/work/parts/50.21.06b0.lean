set_option maxHeartbeats 4000000 in
set_option maxRecDepth 20000 in
theorem j_X10_readCondition_39_ok (X : Nat × (Nat → Int32)) {F L : Nat} (hF : 426 ≤ F) (hL : 12777 ≤ L) (nn : Nat) (l0 : Nat) (l2 : Int32) (s0 : Int32) (s1 : Nat) (h : mx_H) {r : (Int32 × mx_H)} (hf : j_X10_readCondition_39 nn l0 l2 s0 s1 h = some r) : mx_S X F L 274 39 [(0, .ref l0), (2, .int l2)] [.int s0, .ref s1] h 0 0 (some (.int r.1), r.2, 0, 0) := by
  have hm : mx_mt 274 = some (yX10_readCondition, cX10_readCondition, 3, (some .int)) := mt_X10_readCondition
  unfold j_X10_readCondition_39 at hf
  refine mx_S.pu (pc2 := 40) (lv2 := [(0, .ref l0), (2, .int l2)]) (st2 := [.int l2, .int s0, .ref s1]) hm dX10_readCondition_39 rfl ?_
  replace hf := mx_gd_el hf; obtain ⟨c1, hf⟩ := hf
  replace hf := mx_sv_el hf; obtain ⟨u2, e_u2, hf⟩ := hf
  refine sx_cv hm dX10_readCondition_40 rs_RX10_80 mt_X10_wantType [.int s0, .int l2] [] (b := s1) (ci := 10) rfl rfl rfl c1 (Nat.le_of_ble_eq_true rfl) (Nat.le_of_ble_eq_true rfl) (by omega) (by omega) (f_X10_wantType_ok X (by omega) (by omega) nn s1 s0 l2 h e_u2) ?_
  clear e_u2
  show mx_S X F L 274 43 [(0, .ref l0), (2, .int l2)] [] u2 0 0 (some (.int r.1), r.2, 0, 0)
  refine mx_S.pu (pc2 := 44) (lv2 := [(0, .ref l0), (2, .int l2)]) (st2 := [.ref l0]) hm dX10_readCondition_43 rfl ?_
  replace hf := mx_sv_el hf; obtain ⟨v3, e_v3, hf⟩ := hf
  refine sx_get hm dX10_readCondition_44 rs_RX10_31 (xgr_el e_v3) ?_
  clear e_v3
  refine mx_S.pu (pc2 := 48) (lv2 := [(0, .ref l0), (2, .int l2)]) (st2 := [.ref v3, .ref v3]) hm dX10_readCondition_47 rfl ?_
  replace hf := mx_sv_el hf; obtain ⟨v4, e_v4, hf⟩ := hf
  refine sx_get hm dX10_readCondition_48 rs_RX10_72 (xgi_el e_v4) ?_
  clear e_v4
  refine sx_ic (v := 1) hm dX10_readCondition_51 (by decide) ?_
  replace hf := xl_el hf; obtain ⟨v5, e_v5, hf⟩ := hf
  refine mx_S.pu (pc2 := 53) (lv2 := [(0, .ref l0), (2, .int l2)]) (st2 := [.int v5, .ref v3]) hm dX10_readCondition_52 (by rw [← e_v5]; rfl) ?_
  clear e_v5
  replace hf := mx_sv_el hf; obtain ⟨h6, e_h6, hf⟩ := hf
  refine sx_put hm dX10_readCondition_53 rs_RX10_72 ft_9_10 ⟨rfl, rfl⟩ (fun z => by cases z) e_h6 ?_
  clear e_h6
  refine mx_S.pu (pc2 := 57) (lv2 := [(0, .ref l0), (2, .int l2)]) (st2 := [.ref l0]) hm dX10_readCondition_56 rfl ?_
  replace hf := mx_sv_el hf; obtain ⟨v7, e_v7, hf⟩ := hf
  refine sx_get hm dX10_readCondition_57 rs_RX10_46 (xgr_el e_v7) ?_
  clear e_v7
  refine sx_si (v := 153) hm dX10_readCondition_60 (by decide) ?_
  refine sx_ic (v := 1) hm dX10_readCondition_63 (by decide) ?_
  replace hf := mx_gd_el hf; obtain ⟨c8, hf⟩ := hf
  replace hf := mx_sv_el hf; obtain ⟨u9, e_u9, hf⟩ := hf
  refine sx_cv hm dX10_readCondition_64 rs_RX10_86 mt_X1_jump [.int 153, .int 1] [] (b := v7) (ci := 1) rfl rfl rfl c8 (Nat.le_of_ble_eq_true rfl) (Nat.le_of_ble_eq_true rfl) (by omega) (by omega) (f_X1_jump_ok X (by omega) (by omega) nn v7 153 1 h6 e_u9) ?_
  clear e_u9
  show mx_S X F L 274 67 [(0, .ref l0), (2, .int l2)] [.int u9.1] u9.2 0 0 (some (.int r.1), r.2, 0, 0)
  cases hf
  exact sx_ire hm dX10_readCondition_67 rfl rfl
set_option maxHeartbeats 4000000 in
set_option maxRecDepth 20000 in
theorem f_X10_readCondition_ok (X : Nat × (Nat → Int32)) {F L : Nat} (hF : 426 ≤ F) (hL : 12777 ≤ L) (nn : Nat) (a0 : Nat) (a1 : Int32) (h : mx_H) {r : (Int32 × mx_H)} (hf : f_X10_readCondition nn a0 a1 h = some r) : mx_R X F L 274 [.ref a0, .int a1] h (some (.int r.1), r.2, 0, 0) := by
  have hm : mx_mt 274 = some (yX10_readCondition, cX10_readCondition, 3, (some .int)) := mt_X10_readCondition
  show mx_S X F L 274 0 [(0, .ref a0), (1, .int a1)] [] h 0 0 (some (.int r.1), r.2, 0, 0)
  unfold f_X10_readCondition at hf
  refine mx_S.pu (pc2 := 1) (lv2 := [(0, .ref a0), (1, .int a1)]) (st2 := [.ref a0]) hm dX10_readCondition_0 rfl ?_
  replace hf := mx_sv_el hf; obtain ⟨v10, e_v10, hf⟩ := hf
  refine sx_get hm dX10_readCondition_1 rs_RX10_31 (xgr_el e_v10) ?_
  clear e_v10
  replace hf := mx_sv_el hf; obtain ⟨v11, e_v11, hf⟩ := hf
  refine sx_get hm dX10_readCondition_4 rs_RX10_72 (xgi_el e_v11) ?_
  clear e_v11
  refine sx_ic (v := 2) hm dX10_readCondition_7 (by decide) ?_
  replace hf := xl_el hf; obtain ⟨v12, e_v12, hf⟩ := hf
  refine mx_S.pu (pc2 := 9) (lv2 := [(0, .ref a0), (1, .int a1)]) (st2 := [.int v12]) hm dX10_readCondition_8 (by rw [← e_v12]; rfl) ?_
  clear e_v12
  refine mx_S.pu (pc2 := 10) (lv2 := [(2, .int v12), (0, .ref a0), (1, .int a1)]) (st2 := []) hm dX10_readCondition_9 rfl ?_
  refine mx_S.pu (pc2 := 11) (lv2 := [(2, .int v12), (0, .ref a0), (1, .int a1)]) (st2 := [.ref a0]) hm dX10_readCondition_10 rfl ?_
  replace hf := mx_sv_el hf; obtain ⟨v13, e_v13, hf⟩ := hf
  refine sx_get hm dX10_readCondition_11 rs_RX10_31 (xgr_el e_v13) ?_
  clear e_v13
  refine mx_S.pu (pc2 := 15) (lv2 := [(2, .int v12), (0, .ref a0), (1, .int a1)]) (st2 := [.int v12, .ref v13]) hm dX10_readCondition_14 rfl ?_
  replace hf := mx_sv_el hf; obtain ⟨h14, e_h14, hf⟩ := hf
  refine sx_put hm dX10_readCondition_15 rs_RX10_72 ft_9_10 ⟨rfl, rfl⟩ (fun z => by cases z) e_h14 ?_
  clear e_h14
  refine mx_S.pu (pc2 := 19) (lv2 := [(2, .int v12), (0, .ref a0), (1, .int a1)]) (st2 := [.ref a0]) hm dX10_readCondition_18 rfl ?_
  refine mx_S.pu (pc2 := 20) (lv2 := [(2, .int v12), (0, .ref a0), (1, .int a1)]) (st2 := [.int a1, .ref a0]) hm dX10_readCondition_19 rfl ?_
  replace hf := mx_gd_el hf; obtain ⟨c15, hf⟩ := hf
  replace hf := mx_sv_el hf; obtain ⟨u16, e_u16, hf⟩ := hf
  refine sx_cv hm dX10_readCondition_20 rs_RX10_68 mt_X10_readValue [.int a1] [] (b := a0) (ci := 10) rfl rfl rfl c15 (Nat.le_of_ble_eq_true rfl) (Nat.le_of_ble_eq_true rfl) (by omega) (by omega) (f_X10_readValue_ok X (by omega) (by omega) nn a0 a1 h14 e_u16) ?_
  clear e_u16
  show mx_S X F L 274 23 [(2, .int v12), (0, .ref a0), (1, .int a1)] [] u16 0 0 (some (.int r.1), r.2, 0, 0)
  refine mx_S.pu (pc2 := 24) (lv2 := [(2, .int v12), (0, .ref a0), (1, .int a1)]) (st2 := [.ref a0]) hm dX10_readCondition_23 rfl ?_
  refine mx_S.pu (pc2 := 25) (lv2 := [(2, .int v12), (0, .ref a0), (1, .int a1)]) (st2 := [.ref a0, .ref a0]) hm dX10_readCondition_24 rfl ?_
  replace hf := mx_sv_el hf; obtain ⟨v17, e_v17, hf⟩ := hf
  refine sx_get hm dX10_readCondition_25 rs_RX10_75 (xgi_el e_v17) ?_
  clear e_v17
  refine sx_si (v := 302) hm dX10_readCondition_28 (by decide) ?_
  rcases mx_if_el hf with ⟨c18, hf⟩ | ⟨c18, hf⟩
  · refine sb_ic_ne hm dX10_readCondition_31 (tgt := 38) rfl (fun _ => ?_) (fun z => absurd c18 z)
    refine sx_ic (v := 0) hm dX10_readCondition_38 (by decide) ?_
    refine mx_S.ext [(0, .ref a0), (2, .int v12)] (mx_sub_pos [1, 0] rfl (show ([2, 0, 1] : List Nat).Nodup by decide)) ?_
    exact j_X10_readCondition_39_ok X hF hL nn a0 v12 0 a0 u16 hf
  · refine sb_ic_ne hm dX10_readCondition_31 (tgt := 38) rfl (fun z => absurd z c18) (fun _ => ?_)
    refine sx_ic (v := 1) hm dX10_readCondition_34 (by decide) ?_
    refine mx_S.pu (pc2 := 39) (lv2 := [(2, .int v12), (0, .ref a0), (1, .int a1)]) (st2 := [.int 1, .ref a0]) hm dX10_readCondition_35 rfl ?_
    refine mx_S.ext [(0, .ref a0), (2, .int v12)] (mx_sub_pos [1, 0] rfl (show ([2, 0, 1] : List Nat).Nodup by decide)) ?_
    exact j_X10_readCondition_39_ok X hF hL nn a0 v12 1 a0 u16 hf
set_option maxHeartbeats 4000000 in
set_option maxRecDepth 20000 in
theorem f_X1_jumpBack_ok (X : Nat × (Nat → Int32)) {F L : Nat} (hF : 3 ≤ F) (hL : 104 ≤ L) (nn : Nat) (a0 : Nat) (a1 : Int32) (a2 : Int32) (h : mx_H) {r : mx_H} (hf : f_X1_jumpBack nn a0 a1 a2 h = some r) : mx_R X F L 36 [.ref a0, .int a1, .int a2] h (none, r, 0, 0) := by
  have hm : mx_mt 36 = some (yX1_jumpBack, cX1_jumpBack, 3, none) := mt_X1_jumpBack
  show mx_S X F L 36 0 [(0, .ref a0), (1, .int a1), (2, .int a2)] [] h 0 0 (none, r, 0, 0)
  unfold f_X1_jumpBack at hf
  refine mx_S.pu (pc2 := 1) (lv2 := [(0, .ref a0), (1, .int a1), (2, .int a2)]) (st2 := [.ref a0]) hm dX1_jumpBack_0 rfl ?_
  refine mx_S.pu (pc2 := 2) (lv2 := [(0, .ref a0), (1, .int a1), (2, .int a2)]) (st2 := [.ref a0, .ref a0]) hm dX1_jumpBack_1 rfl ?_
  refine sx_si (v := 167) hm dX1_jumpBack_2 (by decide) ?_
  refine sx_ic (v := 0) hm dX1_jumpBack_5 (by decide) ?_
  replace hf := mx_gd_el hf; obtain ⟨c1, hf⟩ := hf
  replace hf := mx_sv_el hf; obtain ⟨u2, e_u2, hf⟩ := hf
  refine sx_cv hm dX1_jumpBack_6 rs_RX1_90 mt_X1_jump [.int 167, .int 0] [.ref a0] (b := a0) (ci := 1) rfl rfl rfl c1 (Nat.le_of_ble_eq_true rfl) (Nat.le_of_ble_eq_true rfl) (by omega) (by omega) (f_X1_jump_ok X (by omega) (by omega) nn a0 167 0 h e_u2) ?_
  clear e_u2
  show mx_S X F L 36 9 [(0, .ref a0), (1, .int a1), (2, .int a2)] [.int u2.1, .ref a0] u2.2 0 0 (none, r, 0, 0)
  refine mx_S.pu (pc2 := 10) (lv2 := [(0, .ref a0), (1, .int a1), (2, .int a2)]) (st2 := [.int a1, .int u2.1, .ref a0]) hm dX1_jumpBack_9 rfl ?_
  replace hf := mx_gd_el hf; obtain ⟨c3, hf⟩ := hf
  replace hf := mx_sv_el hf; obtain ⟨u4, e_u4, hf⟩ := hf
  refine sx_cv hm dX1_jumpBack_10 rs_RX1_93 mt_X1_aimAt [.int u2.1, .int a1] [] (b := a0) (ci := 1) rfl rfl rfl c3 (Nat.le_of_ble_eq_true rfl) (Nat.le_of_ble_eq_true rfl) (by omega) (by omega) (f_X1_aimAt_ok X (by omega) (by omega) nn a0 u2.1 a1 u2.2 e_u4) ?_
  clear e_u4
  show mx_S X F L 36 13 [(0, .ref a0), (1, .int a1), (2, .int a2)] [] u4 0 0 (none, r, 0, 0)
  refine mx_S.pu (pc2 := 14) (lv2 := [(0, .ref a0), (1, .int a1), (2, .int a2)]) (st2 := [.ref a0]) hm dX1_jumpBack_13 rfl ?_
  refine mx_S.pu (pc2 := 15) (lv2 := [(0, .ref a0), (1, .int a1), (2, .int a2)]) (st2 := [.ref a0, .ref a0]) hm dX1_jumpBack_14 rfl ?_
  refine mx_S.pu (pc2 := 16) (lv2 := [(0, .ref a0), (1, .int a1), (2, .int a2)]) (st2 := [.int a1, .ref a0, .ref a0]) hm dX1_jumpBack_15 rfl ?_
  replace hf := mx_gd_el hf; obtain ⟨c5, hf⟩ := hf
  replace hf := mx_sv_el hf; obtain ⟨u6, e_u6, hf⟩ := hf
  refine sx_cv hm dX1_jumpBack_16 rs_RX1_96 mt_X1_slotOfFrame [.int a1] [.ref a0] (b := a0) (ci := 1) rfl rfl rfl c5 (Nat.le_of_ble_eq_true rfl) (Nat.le_of_ble_eq_true rfl) (by omega) (by omega) (f_X1_slotOfFrame_ok X (by omega) (by omega) nn a0 a1 u4 e_u6) ?_
  clear e_u6
  show mx_S X F L 36 19 [(0, .ref a0), (1, .int a1), (2, .int a2)] [.int u6.1, .ref a0] u6.2 0 0 (none, r, 0, 0)
  refine mx_S.pu (pc2 := 20) (lv2 := [(0, .ref a0), (1, .int a1), (2, .int a2)]) (st2 := [.int a2, .int u6.1, .ref a0]) hm dX1_jumpBack_19 rfl ?_
  refine sx_ic (v := 0) hm dX1_jumpBack_20 (by decide) ?_
  replace hf := mx_gd_el hf; obtain ⟨c7, hf⟩ := hf
  replace hf := mx_sv_el hf; obtain ⟨u8, e_u8, hf⟩ := hf
  refine sx_cv hm dX1_jumpBack_21 rs_RX1_100 mt_X1_fillFrame [.int u6.1, .int a2, .int 0] [] (b := a0) (ci := 1) rfl rfl rfl c7 (Nat.le_of_ble_eq_true rfl) (Nat.le_of_ble_eq_true rfl) (by omega) (by omega) (f_X1_fillFrame_ok X (by omega) (by omega) nn a0 u6.1 a2 0 u6.2 e_u8) ?_
  clear e_u8
  show mx_S X F L 36 24 [(0, .ref a0), (1, .int a1), (2, .int a2)] [] u8 0 0 (none, r, 0, 0)
  cases hf
  exact sx_ret hm dX1_jumpBack_24 rfl
set_option maxHeartbeats 4000000 in
set_option maxRecDepth 20000 in
theorem j_X0_readLeave_99_ok (X : Nat × (Nat → Int32)) {F L : Nat} (hF : 4 ≤ F) (hL : 126 ≤ L) (nn : Nat) (l0 : Nat) (h : mx_H) {r : (Int32 × mx_H)} (hf : j_X0_readLeave_99 nn l0 h = some r) : mx_S X F L 14 99 [(0, .ref l0)] [] h 0 0 (some (.int r.1), r.2, 0, 0) := by
  have hm : mx_mt 14 = some (yX0_readLeave, cX0_readLeave, 1, (some .boolean)) := mt_X0_readLeave
  unfold j_X0_readLeave_99 at hf
  refine mx_S.pu (pc2 := 100) (lv2 := [(0, .ref l0)]) (st2 := [.ref l0]) hm dX0_readLeave_99 rfl ?_
  replace hf := mx_sv_el hf; obtain ⟨v1, e_v1, hf⟩ := hf
  refine sx_get hm dX0_readLeave_100 rs_RX0_34 (xgr_el e_v1) ?_
  clear e_v1
  refine mx_S.pu (pc2 := 104) (lv2 := [(0, .ref l0)]) (st2 := [.ref v1, .ref v1]) hm dX0_readLeave_103 rfl ?_
  replace hf := mx_sv_el hf; obtain ⟨v2, e_v2, hf⟩ := hf
  refine sx_get hm dX0_readLeave_104 rs_RX0_138 (xgi_el e_v2) ?_
  clear e_v2
  refine sx_ic (v := 2) hm dX0_readLeave_107 (by decide) ?_
  replace hf := xl_el hf; obtain ⟨v3, e_v3, hf⟩ := hf
  refine mx_S.pu (pc2 := 109) (lv2 := [(0, .ref l0)]) (st2 := [.int v3, .ref v1]) hm dX0_readLeave_108 (by rw [← e_v3]; rfl) ?_
  clear e_v3
  replace hf := mx_sv_el hf; obtain ⟨h4, e_h4, hf⟩ := hf
  refine sx_put hm dX0_readLeave_109 rs_RX0_138 ft_9_10 ⟨rfl, rfl⟩ (fun z => by cases z) e_h4 ?_
  clear e_h4
  refine sx_ic (v := 0) hm dX0_readLeave_112 (by decide) ?_
  cases hf
  exact sx_ire hm dX0_readLeave_113 rfl (by decide)
set_option maxHeartbeats 4000000 in
set_option maxRecDepth 20000 in
theorem f_X0_readLeave_ok (X : Nat × (Nat → Int32)) {F L : Nat} (hF : 4 ≤ F) (hL : 126 ≤ L) (nn : Nat) (a0 : Nat) (h : mx_H) {r : (Int32 × mx_H)} (hf : f_X0_readLeave nn a0 h = some r) : mx_R X F L 14 [.ref a0] h (some (.int r.1), r.2, 0, 0) := by
  have hm : mx_mt 14 = some (yX0_readLeave, cX0_readLeave, 1, (some .boolean)) := mt_X0_readLeave
  show mx_S X F L 14 0 [(0, .ref a0)] [] h 0 0 (some (.int r.1), r.2, 0, 0)
  unfold f_X0_readLeave at hf
  refine mx_S.pu (pc2 := 1) (lv2 := [(0, .ref a0)]) (st2 := [.ref a0]) hm dX0_readLeave_0 rfl ?_
  replace hf := mx_sv_el hf; obtain ⟨v5, e_v5, hf⟩ := hf
  refine sx_get hm dX0_readLeave_1 rs_RX0_129 (xgi_el e_v5) ?_
  clear e_v5
  refine sx_ic (v := (-1)) hm dX0_readLeave_4 (by decide) ?_
  rcases mx_if_el hf with ⟨c33, hf⟩ | ⟨c33, hf⟩
  · refine sb_ic_ne hm dX0_readLeave_5 (tgt := 27) rfl (fun _ => ?_) (fun z => absurd c33 z)
    refine mx_S.pu (pc2 := 28) (lv2 := [(0, .ref a0)]) (st2 := [.ref a0]) hm dX0_readLeave_27 rfl ?_
    replace hf := mx_sv_el hf; obtain ⟨v6, e_v6, hf⟩ := hf
    refine sx_get hm dX0_readLeave_28 rs_RX0_34 (xgr_el e_v6) ?_
    clear e_v6
    replace hf := mx_gd_el hf; obtain ⟨c7, hf⟩ := hf
    replace hf := mx_sv_el hf; obtain ⟨u8, e_u8, hf⟩ := hf
    refine sx_cv hm dX0_readLeave_31 rs_RX0_158 mt_X9_kind [] [] (b := v6) (ci := 9) rfl rfl rfl c7 (Nat.le_of_ble_eq_true rfl) (Nat.le_of_ble_eq_true rfl) (by omega) (by omega) (f_X9_kind_ok X (by omega) (by omega) nn v6 h e_u8) ?_
    clear e_u8
    show mx_S X F L 14 34 [(0, .ref a0)] [.int u8.1] u8.2 0 0 (some (.int r.1), r.2, 0, 0)
    refine sx_bi (v := 14) hm dX0_readLeave_34 (by decide) ?_
    rcases mx_if_el hf with ⟨c27, hf⟩ | ⟨c27, hf⟩
    · refine sb_ic_ne hm dX0_readLeave_36 (tgt := 57) rfl (fun _ => ?_) (fun z => absurd c27 z)
      refine mx_S.pu (pc2 := 58) (lv2 := [(0, .ref a0)]) (st2 := [.ref a0]) hm dX0_readLeave_57 rfl ?_
      replace hf := mx_sv_el hf; obtain ⟨v9, e_v9, hf⟩ := hf
      refine sx_get hm dX0_readLeave_58 rs_RX0_132 (xgi_el e_v9) ?_
      clear e_v9
      refine mx_S.pu (pc2 := 62) (lv2 := [(0, .ref a0)]) (st2 := [.ref a0, .int v9]) hm dX0_readLeave_61 rfl ?_
      replace hf := mx_sv_el hf; obtain ⟨v10, e_v10, hf⟩ := hf
      refine sx_get hm dX0_readLeave_62 rs_RX0_30 (xgr_el e_v10) ?_
      clear e_v10
      replace hf := mx_sv_el hf; obtain ⟨v11, e_v11, hf⟩ := hf
      refine sx_len hm dX0_readLeave_65 e_v11 ?_
      clear e_v11
      rcases mx_if_el hf with ⟨c21, hf⟩ | ⟨c21, hf⟩
      · refine sb_ic_ge hm dX0_readLeave_66 (tgt := 99) rfl (fun _ => ?_) (fun z => absurd c21 z)
        exact j_X0_readLeave_99_ok X hF hL nn a0 u8.2 hf
      · refine sb_ic_ge hm dX0_readLeave_66 (tgt := 99) rfl (fun z => absurd z c21) (fun _ => ?_)
        refine mx_S.pu (pc2 := 70) (lv2 := [(0, .ref a0)]) (st2 := [.ref a0]) hm dX0_readLeave_69 rfl ?_
        replace hf := mx_sv_el hf; obtain ⟨v12, e_v12, hf⟩ := hf
        refine sx_get hm dX0_readLeave_70 rs_RX0_30 (xgr_el e_v12) ?_
        clear e_v12
        refine mx_S.pu (pc2 := 74) (lv2 := [(0, .ref a0)]) (st2 := [.ref a0, .ref v12]) hm dX0_readLeave_73 rfl ?_
        replace hf := mx_sv_el hf; obtain ⟨v13, e_v13, hf⟩ := hf
        refine sx_get hm dX0_readLeave_74 rs_RX0_132 (xgi_el e_v13) ?_
        clear e_v13
        refine mx_S.pu (pc2 := 78) (lv2 := [(0, .ref a0)]) (st2 := [.ref a0, .int v13, .ref v12]) hm dX0_readLeave_77 rfl ?_
        replace hf := mx_sv_el hf; obtain ⟨v14, e_v14, hf⟩ := hf
        refine sx_get hm dX0_readLeave_78 rs_RX0_16 (xgr_el e_v14) ?_
        clear e_v14
        refine sx_si (v := 167) hm dX0_readLeave_81 (by decide) ?_
        refine sx_ic (v := 0) hm dX0_readLeave_84 (by decide) ?_
        replace hf := mx_gd_el hf; obtain ⟨c15, hf⟩ := hf
        replace hf := mx_sv_el hf; obtain ⟨u16, e_u16, hf⟩ := hf
        refine sx_cv hm dX0_readLeave_85 rs_RX0_204 mt_X1_jump [.int 167, .int 0] [.int v13, .ref v12] (b := v14) (ci := 1) rfl rfl rfl c15 (Nat.le_of_ble_eq_true rfl) (Nat.le_of_ble_eq_true rfl) (by omega) (by omega) (f_X1_jump_ok X (by omega) (by omega) nn v14 167 0 u8.2 e_u16) ?_
        clear e_u16
        show mx_S X F L 14 88 [(0, .ref a0)] [.int u16.1, .int v13, .ref v12] u16.2 0 0 (some (.int r.1), r.2, 0, 0)
        replace hf := mx_sv_el hf; obtain ⟨h17, e_h17, hf⟩ := hf
        refine sx_ast hm dX0_readLeave_88 e_h17 ?_
        clear e_h17
        refine mx_S.pu (pc2 := 90) (lv2 := [(0, .ref a0)]) (st2 := [.ref a0]) hm dX0_readLeave_89 rfl ?_
        refine mx_S.pu (pc2 := 91) (lv2 := [(0, .ref a0)]) (st2 := [.ref a0, .ref a0]) hm dX0_readLeave_90 rfl ?_
        replace hf := mx_sv_el hf; obtain ⟨v18, e_v18, hf⟩ := hf
        refine sx_get hm dX0_readLeave_91 rs_RX0_132 (xgi_el e_v18) ?_
        clear e_v18
        refine sx_ic (v := 1) hm dX0_readLeave_94 (by decide) ?_
        replace hf := xl_el hf; obtain ⟨v19, e_v19, hf⟩ := hf
        refine mx_S.pu (pc2 := 96) (lv2 := [(0, .ref a0)]) (st2 := [.int v19, .ref a0]) hm dX0_readLeave_95 (by rw [← e_v19]; rfl) ?_
        clear e_v19
        replace hf := mx_sv_el hf; obtain ⟨h20, e_h20, hf⟩ := hf
        refine sx_put hm dX0_readLeave_96 rs_RX0_132 ft_0_12 ⟨rfl, rfl⟩ (fun z => by cases z) e_h20 ?_
        clear e_h20
        exact j_X0_readLeave_99_ok X hF hL nn a0 h20 hf
    · refine sb_ic_ne hm dX0_readLeave_36 (tgt := 57) rfl (fun z => absurd z c27) (fun _ => ?_)
      refine mx_S.pu (pc2 := 40) (lv2 := [(0, .ref a0)]) (st2 := [.ref a0]) hm dX0_readLeave_39 rfl ?_
      replace hf := mx_sv_el hf; obtain ⟨v22, e_v22, hf⟩ := hf
      refine sx_get hm dX0_readLeave_40 rs_RX0_16 (xgr_el e_v22) ?_
      clear e_v22
      refine mx_S.pu (pc2 := 44) (lv2 := [(0, .ref a0)]) (st2 := [.ref a0, .ref v22]) hm dX0_readLeave_43 rfl ?_
      replace hf := mx_sv_el hf; obtain ⟨v23, e_v23, hf⟩ := hf
      refine sx_get hm dX0_readLeave_44 rs_RX0_129 (xgi_el e_v23) ?_
      clear e_v23
      refine mx_S.pu (pc2 := 48) (lv2 := [(0, .ref a0)]) (st2 := [.ref a0, .int v23, .ref v22]) hm dX0_readLeave_47 rfl ?_
      replace hf := mx_sv_el hf; obtain ⟨v24, e_v24, hf⟩ := hf
      refine sx_get hm dX0_readLeave_48 rs_RX0_207 (xgi_el e_v24) ?_
      clear e_v24
      replace hf := mx_gd_el hf; obtain ⟨c25, hf⟩ := hf
      replace hf := mx_sv_el hf; obtain ⟨u26, e_u26, hf⟩ := hf
      refine sx_cv hm dX0_readLeave_51 rs_RX0_216 mt_X1_jumpBack [.int v23, .int v24] [] (b := v22) (ci := 1) rfl rfl rfl c25 (Nat.le_of_ble_eq_true rfl) (Nat.le_of_ble_eq_true rfl) (by omega) (by omega) (f_X1_jumpBack_ok X (by omega) (by omega) nn v22 v23 v24 u8.2 e_u26) ?_
      clear e_u26
      show mx_S X F L 14 54 [(0, .ref a0)] [] u26 0 0 (some (.int r.1), r.2, 0, 0)
      refine mx_S.pu (pc2 := 99) (lv2 := [(0, .ref a0)]) (st2 := []) hm dX0_readLeave_54 rfl ?_
      exact j_X0_readLeave_99_ok X hF hL nn a0 u26 hf
  · refine sb_ic_ne hm dX0_readLeave_5 (tgt := 27) rfl (fun z => absurd z c33) (fun _ => ?_)
    refine mx_S.pu (pc2 := 9) (lv2 := [(0, .ref a0)]) (st2 := [.ref a0]) hm dX0_readLeave_8 rfl ?_
    replace hf := mx_sv_el hf; obtain ⟨v28, e_v28, hf⟩ := hf
    refine sx_get hm dX0_readLeave_9 rs_RX0_34 (xgr_el e_v28) ?_
    clear e_v28
    refine sx_bi (v := 7) hm dX0_readLeave_12 (by decide) ?_
    refine mx_S.pu (pc2 := 15) (lv2 := [(0, .ref a0)]) (st2 := [.ref a0, .int 7, .ref v28]) hm dX0_readLeave_14 rfl ?_
    replace hf := mx_sv_el hf; obtain ⟨v29, e_v29, hf⟩ := hf
    refine sx_get hm dX0_readLeave_15 rs_RX0_34 (xgr_el e_v29) ?_
    clear e_v29
    replace hf := mx_sv_el hf; obtain ⟨v30, e_v30, hf⟩ := hf
    refine sx_get hm dX0_readLeave_18 rs_RX0_138 (xgi_el e_v30) ?_
    clear e_v30
    replace hf := mx_gd_el hf; obtain ⟨c31, hf⟩ := hf
    replace hf := mx_sv_el hf; obtain ⟨u32, e_u32, hf⟩ := hf
    refine sx_cv hm dX0_readLeave_21 rs_RX0_69 mt_X9_tell [.int 7, .int v30] [] (b := v28) (ci := 9) rfl rfl rfl c31 (Nat.le_of_ble_eq_true rfl) (Nat.le_of_ble_eq_true rfl) (by omega) (by omega) (f_X9_tell_ok X (by omega) (by omega) nn v28 7 v30 h e_u32) ?_
    clear e_u32
    show mx_S X F L 14 24 [(0, .ref a0)] [] u32 0 0 (some (.int r.1), r.2, 0, 0)
    refine mx_S.pu (pc2 := 99) (lv2 := [(0, .ref a0)]) (st2 := []) hm dX0_readLeave_24 rfl ?_
    exact j_X0_readLeave_99_ok X hF hL nn a0 u32 hf
set_option maxHeartbeats 4000000 in
set_option maxRecDepth 20000 in
theorem j_X0_closeAlone_21_ok (X : Nat × (Nat → Int32)) {F L : Nat} (hF : 2 ≤ F) (hL : 81 ≤ L) (nn : Nat) (l0 : Nat) (h : mx_H) {r : mx_H} (hf : j_X0_closeAlone_21 nn l0 h = some r) : mx_S X F L 22 21 [(0, .ref l0)] [] h 0 0 (none, r, 0, 0) := by
  have hm : mx_mt 22 = some (yX0_closeAlone, cX0_closeAlone, 2, none) := mt_X0_closeAlone
  unfold j_X0_closeAlone_21 at hf
  refine mx_S.pu (pc2 := 22) (lv2 := [(0, .ref l0)]) (st2 := [.ref l0]) hm dX0_closeAlone_21 rfl ?_
  replace hf := mx_sv_el hf; obtain ⟨v1, e_v1, hf⟩ := hf
  refine sx_get hm dX0_closeAlone_22 rs_RX0_61 (xgr_el e_v1) ?_
  clear e_v1
  replace hf := mx_sv_el hf; obtain ⟨v2, e_v2, hf⟩ := hf
  refine sx_get hm dX0_closeAlone_25 rs_RX0_245 (xgi_el e_v2) ?_
  clear e_v2
  refine sx_si (v := 303) hm dX0_closeAlone_28 (by decide) ?_
  rcases mx_if_el hf with ⟨c9, hf⟩ | ⟨c9, hf⟩
  · refine sb_ic_eq hm dX0_closeAlone_31 (tgt := 51) rfl (fun _ => ?_) (fun z => absurd c9 z)
    cases hf
    exact sx_ret hm dX0_closeAlone_51 rfl
  · refine sb_ic_eq hm dX0_closeAlone_31 (tgt := 51) rfl (fun z => absurd z c9) (fun _ => ?_)
    refine mx_S.pu (pc2 := 35) (lv2 := [(0, .ref l0)]) (st2 := [.ref l0]) hm dX0_closeAlone_34 rfl ?_
    replace hf := mx_sv_el hf; obtain ⟨v3, e_v3, hf⟩ := hf
    refine sx_get hm dX0_closeAlone_35 rs_RX0_16 (xgr_el e_v3) ?_
    clear e_v3
    refine sx_bi (v := 87) hm dX0_closeAlone_38 (by decide) ?_
    replace hf := mx_gd_el hf; obtain ⟨c4, hf⟩ := hf
    replace hf := mx_sv_el hf; obtain ⟨u5, e_u5, hf⟩ := hf
    refine sx_cv hm dX0_closeAlone_40 rs_RX0_147 mt_X1_op [.int 87] [] (b := v3) (ci := 1) rfl rfl rfl c4 (Nat.le_of_ble_eq_true rfl) (Nat.le_of_ble_eq_true rfl) (by omega) (by omega) (f_X1_op_ok X (by omega) (by omega) nn v3 87 h e_u5) ?_
    clear e_u5
    show mx_S X F L 22 43 [(0, .ref l0)] [] u5 0 0 (none, r, 0, 0)
    refine mx_S.pu (pc2 := 44) (lv2 := [(0, .ref l0)]) (st2 := [.ref l0]) hm dX0_closeAlone_43 rfl ?_
    replace hf := mx_sv_el hf; obtain ⟨v6, e_v6, hf⟩ := hf
    refine sx_get hm dX0_closeAlone_44 rs_RX0_16 (xgr_el e_v6) ?_
    clear e_v6
    refine sx_ic (v := 1) hm dX0_closeAlone_47 (by decide) ?_
    replace hf := mx_gd_el hf; obtain ⟨c7, hf⟩ := hf
    replace hf := mx_sv_el hf; obtain ⟨u8, e_u8, hf⟩ := hf
    refine sx_cv hm dX0_closeAlone_48 rs_RX0_251 mt_X1_pop [.int 1] [] (b := v6) (ci := 1) rfl rfl rfl c7 (Nat.le_of_ble_eq_true rfl) (Nat.le_of_ble_eq_true rfl) (by omega) (by omega) (f_X1_pop_ok X (by omega) (by omega) nn v6 1 u5 e_u8) ?_
    clear e_u8
    show mx_S X F L 22 51 [(0, .ref l0)] [] u8 0 0 (none, r, 0, 0)
    cases hf
    exact sx_ret hm dX0_closeAlone_51 rfl
set_option maxHeartbeats 4000000 in
set_option maxRecDepth 20000 in
theorem f_X0_closeAlone_ok (X : Nat × (Nat → Int32)) {F L : Nat} (hF : 2 ≤ F) (hL : 81 ≤ L) (nn : Nat) (a0 : Nat) (a1 : Int32) (h : mx_H) {r : mx_H} (hf : f_X0_closeAlone nn a0 a1 h = some r) : mx_R X F L 22 [.ref a0, .int a1] h (none, r, 0, 0) := by
  have hm : mx_mt 22 = some (yX0_closeAlone, cX0_closeAlone, 2, none) := mt_X0_closeAlone
  show mx_S X F L 22 0 [(0, .ref a0), (1, .int a1)] [] h 0 0 (none, r, 0, 0)
  unfold f_X0_closeAlone at hf
  refine mx_S.pu (pc2 := 1) (lv2 := [(0, .ref a0), (1, .int a1)]) (st2 := [.ref a0]) hm dX0_closeAlone_0 rfl ?_
  replace hf := mx_sv_el hf; obtain ⟨v10, e_v10, hf⟩ := hf
  refine sx_get hm dX0_closeAlone_1 rs_RX0_61 (xgr_el e_v10) ?_
  clear e_v10
  replace hf := mx_sv_el hf; obtain ⟨v11, e_v11, hf⟩ := hf
  refine sx_get hm dX0_closeAlone_4 rs_RX0_260 (xgi_el e_v11) ?_
  clear e_v11
  refine sx_ic (v := 1) hm dX0_closeAlone_7 (by decide) ?_
  rcases mx_if_el hf with ⟨c15, hf⟩ | ⟨c15, hf⟩
  · refine sb_ic_eq hm dX0_closeAlone_8 (tgt := 21) rfl (fun _ => ?_) (fun z => absurd c15 z)
    refine mx_S.ext [(0, .ref a0)] (mx_sub_pos [0] rfl (show ([0, 1] : List Nat).Nodup by decide)) ?_
    exact j_X0_closeAlone_21_ok X hF hL nn a0 h hf
  · refine sb_ic_eq hm dX0_closeAlone_8 (tgt := 21) rfl (fun z => absurd z c15) (fun _ => ?_)
    refine mx_S.pu (pc2 := 12) (lv2 := [(0, .ref a0), (1, .int a1)]) (st2 := [.ref a0]) hm dX0_closeAlone_11 rfl ?_
    replace hf := mx_sv_el hf; obtain ⟨v12, e_v12, hf⟩ := hf
    refine sx_get hm dX0_closeAlone_12 rs_RX0_34 (xgr_el e_v12) ?_
    clear e_v12
    refine sx_bi (v := 6) hm dX0_closeAlone_15 (by decide) ?_
    refine mx_S.pu (pc2 := 18) (lv2 := [(0, .ref a0), (1, .int a1)]) (st2 := [.int a1, .int 6, .ref v12]) hm dX0_closeAlone_17 rfl ?_
    replace hf := mx_gd_el hf; obtain ⟨c13, hf⟩ := hf
    replace hf := mx_sv_el hf; obtain ⟨u14, e_u14, hf⟩ := hf
    refine sx_cv hm dX0_closeAlone_18 rs_RX0_69 mt_X9_tell [.int 6, .int a1] [] (b := v12) (ci := 9) rfl rfl rfl c13 (Nat.le_of_ble_eq_true rfl) (Nat.le_of_ble_eq_true rfl) (by omega) (by omega) (f_X9_tell_ok X (by omega) (by omega) nn v12 6 a1 h e_u14) ?_
    clear e_u14
    show mx_S X F L 22 21 [(0, .ref a0), (1, .int a1)] [] u14 0 0 (none, r, 0, 0)
    refine mx_S.ext [(0, .ref a0)] (mx_sub_pos [0] rfl (show ([0, 1] : List Nat).Nodup by decide)) ?_
    exact j_X0_closeAlone_21_ok X hF hL nn a0 u14 hf
set_option maxHeartbeats 4000000 in
set_option maxRecDepth 20000 in
theorem j_X1_store_15_ok (X : Nat × (Nat → Int32)) {F L : Nat} (hF : 2 ≤ F) (hL : 81 ≤ L) (nn : Nat) (l0 : Nat) (l1 : Int32) (s0 : Int32) (s1 : Nat) (h : mx_H) {r : mx_H} (hf : j_X1_store_15 nn l0 l1 s0 s1 h = some r) : mx_S X F L 34 15 [(0, .ref l0), (1, .int l1)] [.int s0, .ref s1] h 0 0 (none, r, 0, 0) := by
  have hm : mx_mt 34 = some (yX1_store, cX1_store, 3, none) := mt_X1_store
  unfold j_X1_store_15 at hf
  refine mx_S.pu (pc2 := 16) (lv2 := [(0, .ref l0), (1, .int l1)]) (st2 := [.int l1, .int s0, .ref s1]) hm dX1_store_15 rfl ?_
  replace hf := mx_gd_el hf; obtain ⟨c1, hf⟩ := hf
  replace hf := mx_sv_el hf; obtain ⟨u2, e_u2, hf⟩ := hf
  refine sx_cv hm dX1_store_16 rs_RX1_84 mt_X1_op_ [.int s0, .int l1] [] (b := s1) (ci := 1) rfl rfl rfl c1 (Nat.le_of_ble_eq_true rfl) (Nat.le_of_ble_eq_true rfl) (by omega) (by omega) (f_X1_op__ok X (by omega) (by omega) nn s1 s0 l1 h e_u2) ?_
  clear e_u2
  show mx_S X F L 34 19 [(0, .ref l0), (1, .int l1)] [] u2 0 0 (none, r, 0, 0)
  refine mx_S.pu (pc2 := 20) (lv2 := [(0, .ref l0), (1, .int l1)]) (st2 := [.ref l0]) hm dX1_store_19 rfl ?_
  refine sx_ic (v := 1) hm dX1_store_20 (by decide) ?_
  replace hf := mx_gd_el hf; obtain ⟨c3, hf⟩ := hf
  replace hf := mx_sv_el hf; obtain ⟨u4, e_u4, hf⟩ := hf
  refine sx_cv hm dX1_store_21 rs_RX1_87 mt_X1_pop [.int 1] [] (b := l0) (ci := 1) rfl rfl rfl c3 (Nat.le_of_ble_eq_true rfl) (Nat.le_of_ble_eq_true rfl) (by omega) (by omega) (f_X1_pop_ok X (by omega) (by omega) nn l0 1 u2 e_u4) ?_
  clear e_u4
  show mx_S X F L 34 24 [(0, .ref l0), (1, .int l1)] [] u4 0 0 (none, r, 0, 0)
  cases hf
  exact sx_ret hm dX1_store_24 rfl
set_option maxHeartbeats 4000000 in
set_option maxRecDepth 20000 in
theorem f_X1_store_ok (X : Nat × (Nat → Int32)) {F L : Nat} (hF : 2 ≤ F) (hL : 81 ≤ L) (nn : Nat) (a0 : Nat) (a1 : Int32) (a2 : Int32) (h : mx_H) {r : mx_H} (hf : f_X1_store nn a0 a1 a2 h = some r) : mx_R X F L 34 [.ref a0, .int a1, .int a2] h (none, r, 0, 0) := by
  have hm : mx_mt 34 = some (yX1_store, cX1_store, 3, none) := mt_X1_store
  show mx_S X F L 34 0 [(0, .ref a0), (1, .int a1), (2, .int a2)] [] h 0 0 (none, r, 0, 0)
  unfold f_X1_store at hf
  refine mx_S.pu (pc2 := 1) (lv2 := [(0, .ref a0), (1, .int a1), (2, .int a2)]) (st2 := [.ref a0]) hm dX1_store_0 rfl ?_
  refine mx_S.pu (pc2 := 2) (lv2 := [(0, .ref a0), (1, .int a1), (2, .int a2)]) (st2 := [.int a2, .ref a0]) hm dX1_store_1 rfl ?_
  replace hf := mx_sv_el hf; obtain ⟨u5, e_u5, hf⟩ := hf
  refine sx_cs hm dX1_store_2 rs_RX1_80 mt_X4_isNumber [.int a2] [.ref a0] rfl rfl (Nat.le_of_ble_eq_true rfl) (Nat.le_of_ble_eq_true rfl) (by omega) (by omega) (f_X4_isNumber_ok X (by omega) (by omega) nn a2 h e_u5) ?_
  clear e_u5
  show mx_S X F L 34 5 [(0, .ref a0), (1, .int a1), (2, .int a2)] [.int u5.1, .ref a0] u5.2 0 0 (none, r, 0, 0)
  rcases mx_if_el hf with ⟨c6, hf⟩ | ⟨c6, hf⟩
  · refine sb_if_eq hm dX1_store_5 (tgt := 13) rfl (fun _ => ?_) (fun z => absurd c6 z)
    refine sx_bi (v := 58) hm dX1_store_13 (by decide) ?_
    refine mx_S.ext [(0, .ref a0), (1, .int a1)] (mx_sub_pos [0, 1] rfl (show ([0, 1, 2] : List Nat).Nodup by decide)) ?_
    exact j_X1_store_15_ok X hF hL nn a0 a1 58 a0 u5.2 hf
  · refine sb_if_eq hm dX1_store_5 (tgt := 13) rfl (fun z => absurd z c6) (fun _ => ?_)
    refine sx_bi (v := 54) hm dX1_store_8 (by decide) ?_
    refine mx_S.pu (pc2 := 15) (lv2 := [(0, .ref a0), (1, .int a1), (2, .int a2)]) (st2 := [.int 54, .ref a0]) hm dX1_store_10 rfl ?_
    refine mx_S.ext [(0, .ref a0), (1, .int a1)] (mx_sub_pos [0, 1] rfl (show ([0, 1, 2] : List Nat).Nodup by decide)) ?_
    exact j_X1_store_15_ok X hF hL nn a0 a1 54 a0 u5.2 hf
set_option maxHeartbeats 4000000 in
set_option maxRecDepth 20000 in
theorem j_X0_closeGiving_90_ok (X : Nat × (Nat → Int32)) {F L : Nat} (hF : 3 ≤ F) (hL : 103 ≤ L) (nn : Nat) (l0 : Nat) (s0 : Int32) (s1 : Nat) (h : mx_H) {r : mx_H} (hf : j_X0_closeGiving_90 nn l0 s0 s1 h = some r) : mx_S X F L 23 90 [(0, .ref l0)] [.int s0, .ref s1] h 0 0 (none, r, 0, 0) := by
  have hm : mx_mt 23 = some (yX0_closeGiving, cX0_closeGiving, 5, none) := mt_X0_closeGiving
  unfold j_X0_closeGiving_90 at hf
  replace hf := mx_gd_el hf; obtain ⟨c1, hf⟩ := hf
  replace hf := mx_sv_el hf; obtain ⟨u2, e_u2, hf⟩ := hf
  refine sx_cv hm dX0_closeGiving_90 rs_RX0_147 mt_X1_op [.int s0] [] (b := s1) (ci := 1) rfl rfl rfl c1 (Nat.le_of_ble_eq_true rfl) (Nat.le_of_ble_eq_true rfl) (by omega) (by omega) (f_X1_op_ok X (by omega) (by omega) nn s1 s0 h e_u2) ?_
  clear e_u2
  show mx_S X F L 23 93 [(0, .ref l0)] [] u2 0 0 (none, r, 0, 0)
  refine mx_S.pu (pc2 := 94) (lv2 := [(0, .ref l0)]) (st2 := [.ref l0]) hm dX0_closeGiving_93 rfl ?_
  replace hf := mx_sv_el hf; obtain ⟨v3, e_v3, hf⟩ := hf
  refine sx_get hm dX0_closeGiving_94 rs_RX0_16 (xgr_el e_v3) ?_
  clear e_v3
  refine sx_ic (v := 3) hm dX0_closeGiving_97 (by decide) ?_
  replace hf := mx_gd_el hf; obtain ⟨c4, hf⟩ := hf
  replace hf := mx_sv_el hf; obtain ⟨u5, e_u5, hf⟩ := hf
  refine sx_cv hm dX0_closeGiving_98 rs_RX0_251 mt_X1_pop [.int 3] [] (b := v3) (ci := 1) rfl rfl rfl c4 (Nat.le_of_ble_eq_true rfl) (Nat.le_of_ble_eq_true rfl) (by omega) (by omega) (f_X1_pop_ok X (by omega) (by omega) nn v3 3 u2 e_u5) ?_
  clear e_u5
  show mx_S X F L 23 101 [(0, .ref l0)] [] u5 0 0 (none, r, 0, 0)
  cases hf
  exact sx_ret hm dX0_closeGiving_101 rfl
set_option maxHeartbeats 4000000 in
set_option maxRecDepth 20000 in
theorem f_X0_closeGiving_ok (X : Nat × (Nat → Int32)) {F L : Nat} (hF : 3 ≤ F) (hL : 103 ≤ L) (nn : Nat) (a0 : Nat) (a1 : Int32) (a2 : Int32) (a3 : Int32) (a4 : Int32) (h : mx_H) {r : mx_H} (hf : f_X0_closeGiving nn a0 a1 a2 a3 a4 h = some r) : mx_R X F L 23 [.ref a0, .int a1, .int a2, .int a3, .int a4] h (none, r, 0, 0) := by
  have hm : mx_mt 23 = some (yX0_closeGiving, cX0_closeGiving, 5, none) := mt_X0_closeGiving
  show mx_S X F L 23 0 [(0, .ref a0), (1, .int a1), (2, .int a2), (3, .int a3), (4, .int a4)] [] h 0 0 (none, r, 0, 0)
  unfold f_X0_closeGiving at hf
  refine mx_S.pu (pc2 := 1) (lv2 := [(0, .ref a0), (1, .int a1), (2, .int a2), (3, .int a3), (4, .int a4)]) (st2 := [.int a1]) hm dX0_closeGiving_0 rfl ?_
  rcases mx_if_el hf with ⟨n_0, hf⟩ | ⟨n_0, hf⟩
  · refine sx_look hm dX0_closeGiving_1 rfl (off := 27) (by rw [n_0]; rfl) (tgt := 28) rfl ?_
    clear n_0
    refine mx_S.pu (pc2 := 29) (lv2 := [(0, .ref a0), (1, .int a1), (2, .int a2), (3, .int a3), (4, .int a4)]) (st2 := [.ref a0]) hm dX0_closeGiving_28 rfl ?_
    replace hf := mx_sv_el hf; obtain ⟨v8, e_v8, hf⟩ := hf
    refine sx_get hm dX0_closeGiving_29 rs_RX0_16 (xgr_el e_v8) ?_
    clear e_v8
    refine mx_S.pu (pc2 := 34) (lv2 := [(0, .ref a0), (1, .int a1), (2, .int a2), (3, .int a3), (4, .int a4)]) (st2 := [.int a4, .ref v8]) hm dX0_closeGiving_32 rfl ?_
    refine mx_S.pu (pc2 := 35) (lv2 := [(0, .ref a0), (1, .int a1), (2, .int a2), (3, .int a3), (4, .int a4)]) (st2 := [.int a2, .int a4, .ref v8]) hm dX0_closeGiving_34 rfl ?_
    replace hf := mx_gd_el hf; obtain ⟨c9, hf⟩ := hf
    replace hf := mx_sv_el hf; obtain ⟨u10, e_u10, hf⟩ := hf
    refine sx_cv hm dX0_closeGiving_35 rs_RX0_236 mt_X1_store [.int a4, .int a2] [] (b := v8) (ci := 1) rfl rfl rfl c9 (Nat.le_of_ble_eq_true rfl) (Nat.le_of_ble_eq_true rfl) (by omega) (by omega) (f_X1_store_ok X (by omega) (by omega) nn v8 a4 a2 h e_u10) ?_
    clear e_u10
    show mx_S X F L 23 38 [(0, .ref a0), (1, .int a1), (2, .int a2), (3, .int a3), (4, .int a4)] [] u10 0 0 (none, r, 0, 0)
    refine mx_S.pu (pc2 := 101) (lv2 := [(0, .ref a0), (1, .int a1), (2, .int a2), (3, .int a3), (4, .int a4)]) (st2 := []) hm dX0_closeGiving_38 rfl ?_
    cases hf
    exact sx_ret hm dX0_closeGiving_101 rfl
  · rcases mx_if_el hf with ⟨n_1, hf⟩ | ⟨n_1, hf⟩
    · refine sx_look hm dX0_closeGiving_1 rfl (off := 40) (by rw [n_1]; rfl) (tgt := 41) rfl ?_
      clear n_0 n_1
      refine mx_S.pu (pc2 := 42) (lv2 := [(0, .ref a0), (1, .int a1), (2, .int a2), (3, .int a3), (4, .int a4)]) (st2 := [.ref a0]) hm dX0_closeGiving_41 rfl ?_
      replace hf := mx_sv_el hf; obtain ⟨v11, e_v11, hf⟩ := hf
      refine sx_get hm dX0_closeGiving_42 rs_RX0_16 (xgr_el e_v11) ?_
      clear e_v11
      refine sx_si (v := 181) hm dX0_closeGiving_45 (by decide) ?_
      refine mx_S.pu (pc2 := 49) (lv2 := [(0, .ref a0), (1, .int a1), (2, .int a2), (3, .int a3), (4, .int a4)]) (st2 := [.ref a0, .int 181, .ref v11]) hm dX0_closeGiving_48 rfl ?_
      replace hf := mx_sv_el hf; obtain ⟨v12, e_v12, hf⟩ := hf
      refine sx_get hm dX0_closeGiving_49 rs_RX0_52 (xgr_el e_v12) ?_
      clear e_v12
      refine mx_S.pu (pc2 := 53) (lv2 := [(0, .ref a0), (1, .int a1), (2, .int a2), (3, .int a3), (4, .int a4)]) (st2 := [.int a3, .ref v12, .int 181, .ref v11]) hm dX0_closeGiving_52 rfl ?_
      refine mx_S.pu (pc2 := 55) (lv2 := [(0, .ref a0), (1, .int a1), (2, .int a2), (3, .int a3), (4, .int a4)]) (st2 := [.int a4, .int a3, .ref v12, .int 181, .ref v11]) hm dX0_closeGiving_53 rfl ?_
      replace hf := mx_gd_el hf; obtain ⟨c13, hf⟩ := hf
      replace hf := mx_sv_el hf; obtain ⟨u14, e_u14, hf⟩ := hf
      refine sx_cv hm dX0_closeGiving_55 rs_RX0_276 mt_X6_fieldOf [.int a3, .int a4] [.int 181, .ref v11] (b := v12) (ci := 6) rfl rfl rfl c13 (Nat.le_of_ble_eq_true rfl) (Nat.le_of_ble_eq_true rfl) (by omega) (by omega) (f_X6_fieldOf_ok X (by omega) (by omega) nn v12 a3 a4 h e_u14) ?_
      clear e_u14
      show mx_S X F L 23 58 [(0, .ref a0), (1, .int a1), (2, .int a2), (3, .int a3), (4, .int a4)] [.int u14.1, .int 181, .ref v11] u14.2 0 0 (none, r, 0, 0)
      replace hf := mx_gd_el hf; obtain ⟨c15, hf⟩ := hf
      replace hf := mx_sv_el hf; obtain ⟨u16, e_u16, hf⟩ := hf
      refine sx_cv hm dX0_closeGiving_58 rs_RX0_279 mt_X1_op_ [.int 181, .int u14.1] [] (b := v11) (ci := 1) rfl rfl rfl c15 (Nat.le_of_ble_eq_true rfl) (Nat.le_of_ble_eq_true rfl) (by omega) (by omega) (f_X1_op__ok X (by omega) (by omega) nn v11 181 u14.1 u14.2 e_u16) ?_
      clear e_u16
      show mx_S X F L 23 61 [(0, .ref a0), (1, .int a1), (2, .int a2), (3, .int a3), (4, .int a4)] [] u16 0 0 (none, r, 0, 0)
      refine mx_S.pu (pc2 := 62) (lv2 := [(0, .ref a0), (1, .int a1), (2, .int a2), (3, .int a3), (4, .int a4)]) (st2 := [.ref a0]) hm dX0_closeGiving_61 rfl ?_
      replace hf := mx_sv_el hf; obtain ⟨v17, e_v17, hf⟩ := hf
      refine sx_get hm dX0_closeGiving_62 rs_RX0_16 (xgr_el e_v17) ?_
      clear e_v17
      refine sx_ic (v := 2) hm dX0_closeGiving_65 (by decide) ?_
      replace hf := mx_gd_el hf; obtain ⟨c18, hf⟩ := hf
      replace hf := mx_sv_el hf; obtain ⟨u19, e_u19, hf⟩ := hf
      refine sx_cv hm dX0_closeGiving_66 rs_RX0_251 mt_X1_pop [.int 2] [] (b := v17) (ci := 1) rfl rfl rfl c18 (Nat.le_of_ble_eq_true rfl) (Nat.le_of_ble_eq_true rfl) (by omega) (by omega) (f_X1_pop_ok X (by omega) (by omega) nn v17 2 u16 e_u19) ?_
      clear e_u19
      show mx_S X F L 23 69 [(0, .ref a0), (1, .int a1), (2, .int a2), (3, .int a3), (4, .int a4)] [] u19 0 0 (none, r, 0, 0)
      refine mx_S.pu (pc2 := 101) (lv2 := [(0, .ref a0), (1, .int a1), (2, .int a2), (3, .int a3), (4, .int a4)]) (st2 := []) hm dX0_closeGiving_69 rfl ?_
      cases hf
      exact sx_ret hm dX0_closeGiving_101 rfl
    · refine sx_look hm dX0_closeGiving_1 rfl (off := 71) (by show Op.lookupswitch.offset [(2, 27), (3, 40)] 71 a1.toInt = _; rw [lv_osw n_0 (by decide), lv_osw n_1 (by decide)]; rfl) (tgt := 72) rfl ?_
      refine mx_S.pu (pc2 := 73) (lv2 := [(0, .ref a0), (1, .int a1), (2, .int a2), (3, .int a3), (4, .int a4)]) (st2 := [.ref a0]) hm dX0_closeGiving_72 rfl ?_
      replace hf := mx_sv_el hf; obtain ⟨v6, e_v6, hf⟩ := hf
      refine sx_get hm dX0_closeGiving_73 rs_RX0_16 (xgr_el e_v6) ?_
      clear e_v6
      refine mx_S.pu (pc2 := 77) (lv2 := [(0, .ref a0), (1, .int a1), (2, .int a2), (3, .int a3), (4, .int a4)]) (st2 := [.int a2, .ref v6]) hm dX0_closeGiving_76 rfl ?_
      refine sx_si (v := 301) hm dX0_closeGiving_77 (by decide) ?_
      rcases mx_if_el hf with ⟨c7, hf⟩ | ⟨c7, hf⟩
      · refine sb_ic_ne hm dX0_closeGiving_80 (tgt := 88) rfl (fun _ => ?_) (fun z => absurd c7 z)
        refine sx_bi (v := 83) hm dX0_closeGiving_88 (by decide) ?_
        refine mx_S.ext [(0, .ref a0)] (mx_sub_pos [0] rfl (show ([0, 1, 2, 3, 4] : List Nat).Nodup by decide)) ?_
        exact j_X0_closeGiving_90_ok X hF hL nn a0 83 v6 h hf
      · refine sb_ic_ne hm dX0_closeGiving_80 (tgt := 88) rfl (fun z => absurd z c7) (fun _ => ?_)
        refine sx_bi (v := 79) hm dX0_closeGiving_83 (by decide) ?_
        refine mx_S.pu (pc2 := 90) (lv2 := [(0, .ref a0), (1, .int a1), (2, .int a2), (3, .int a3), (4, .int a4)]) (st2 := [.int 79, .ref v6]) hm dX0_closeGiving_85 rfl ?_
        refine mx_S.ext [(0, .ref a0)] (mx_sub_pos [0] rfl (show ([0, 1, 2, 3, 4] : List Nat).Nodup by decide)) ?_
        exact j_X0_closeGiving_90_ok X hF hL nn a0 79 v6 h hf
set_option maxHeartbeats 4000000 in
set_option maxRecDepth 20000 in
theorem f_X10_readWhole_ok (X : Nat × (Nat → Int32)) {F L : Nat} (hF : 426 ≤ F) (hL : 12777 ≤ L) (nn : Nat) (a0 : Nat) (a1 : Int32) (h : mx_H) {r : mx_H} (hf : f_X10_readWhole nn a0 a1 h = some r) : mx_R X F L 273 [.ref a0, .int a1] h (none, r, 0, 0) := by
  have hm : mx_mt 273 = some (yX10_readWhole, cX10_readWhole, 2, none) := mt_X10_readWhole
  show mx_S X F L 273 0 [(0, .ref a0), (1, .int a1)] [] h 0 0 (none, r, 0, 0)
  unfold f_X10_readWhole at hf
  refine mx_S.pu (pc2 := 1) (lv2 := [(0, .ref a0), (1, .int a1)]) (st2 := [.ref a0]) hm dX10_readWhole_0 rfl ?_
  refine mx_S.pu (pc2 := 2) (lv2 := [(0, .ref a0), (1, .int a1)]) (st2 := [.int a1, .ref a0]) hm dX10_readWhole_1 rfl ?_
  replace hf := mx_gd_el hf; obtain ⟨c1, hf⟩ := hf
  replace hf := mx_sv_el hf; obtain ⟨u2, e_u2, hf⟩ := hf
  refine sx_cv hm dX10_readWhole_2 rs_RX10_68 mt_X10_readValue [.int a1] [] (b := a0) (ci := 10) rfl rfl rfl c1 (Nat.le_of_ble_eq_true rfl) (Nat.le_of_ble_eq_true rfl) (by omega) (by omega) (f_X10_readValue_ok X (by omega) (by omega) nn a0 a1 h e_u2) ?_
  clear e_u2
  show mx_S X F L 273 5 [(0, .ref a0), (1, .int a1)] [] u2 0 0 (none, r, 0, 0)
  cases hf
  exact sx_ret hm dX10_readWhole_5 rfl
set_option maxHeartbeats 4000000 in
set_option maxRecDepth 20000 in
theorem j_X0_readPlain_156_ok (X : Nat × (Nat → Int32)) {F L : Nat} (hF : 427 ≤ F) (hL : 12798 ≤ L) (nn : Nat) (l0 : Nat) (h : mx_H) {r : (Int32 × mx_H)} (hf : j_X0_readPlain_156 nn l0 h = some r) : mx_S X F L 21 156 [(0, .ref l0)] [] h 0 0 (some (.int r.1), r.2, 0, 0) := by
  have hm : mx_mt 21 = some (yX0_readPlain, cX0_readPlain, 8, (some .boolean)) := mt_X0_readPlain
  unfold j_X0_readPlain_156 at hf
  refine mx_S.pu (pc2 := 157) (lv2 := [(0, .ref l0)]) (st2 := [.ref l0]) hm dX0_readPlain_156 rfl ?_
  replace hf := mx_sv_el hf; obtain ⟨v1, e_v1, hf⟩ := hf
  refine sx_get hm dX0_readPlain_157 rs_RX0_34 (xgr_el e_v1) ?_
  clear e_v1
  refine mx_S.pu (pc2 := 161) (lv2 := [(0, .ref l0)]) (st2 := [.ref v1, .ref v1]) hm dX0_readPlain_160 rfl ?_
  replace hf := mx_sv_el hf; obtain ⟨v2, e_v2, hf⟩ := hf
  refine sx_get hm dX0_readPlain_161 rs_RX0_138 (xgi_el e_v2) ?_
  clear e_v2
  refine sx_ic (v := 1) hm dX0_readPlain_164 (by decide) ?_
  replace hf := xl_el hf; obtain ⟨v3, e_v3, hf⟩ := hf
  refine mx_S.pu (pc2 := 166) (lv2 := [(0, .ref l0)]) (st2 := [.int v3, .ref v1]) hm dX0_readPlain_165 (by rw [← e_v3]; rfl) ?_
  clear e_v3
  replace hf := mx_sv_el hf; obtain ⟨h4, e_h4, hf⟩ := hf
  refine sx_put hm dX0_readPlain_166 rs_RX0_138 ft_9_10 ⟨rfl, rfl⟩ (fun z => by cases z) e_h4 ?_
  clear e_h4
  refine sx_ic (v := 1) hm dX0_readPlain_169 (by decide) ?_
  cases hf
  exact sx_ire hm dX0_readPlain_170 rfl (by decide)
set_option maxHeartbeats 4000000 in
set_option maxRecDepth 20000 in
theorem j_X0_readPlain_136_ok (X : Nat × (Nat → Int32)) {F L : Nat} (hF : 427 ≤ F) (hL : 12798 ≤ L) (nn : Nat) (l0 : Nat) (l4 : Int32) (l5 : Int32) (l6 : Int32) (l7 : Int32) (h : mx_H) {r : (Int32 × mx_H)} (hf : j_X0_readPlain_136 nn l0 l4 l5 l6 l7 h = some r) : mx_S X F L 21 136 [(0, .ref l0), (4, .int l4), (5, .int l5), (6, .int l6), (7, .int l7)] [] h 0 0 (some (.int r.1), r.2, 0, 0) := by
  have hm : mx_mt 21 = some (yX0_readPlain, cX0_readPlain, 8, (some .boolean)) := mt_X0_readPlain
  unfold j_X0_readPlain_136 at hf
  refine mx_S.pu (pc2 := 137) (lv2 := [(0, .ref l0), (4, .int l4), (5, .int l5), (6, .int l6), (7, .int l7)]) (st2 := [.ref l0]) hm dX0_readPlain_136 rfl ?_
  refine mx_S.pu (pc2 := 139) (lv2 := [(0, .ref l0), (4, .int l4), (5, .int l5), (6, .int l6), (7, .int l7)]) (st2 := [.int l4, .ref l0]) hm dX0_readPlain_137 rfl ?_
  refine mx_S.pu (pc2 := 141) (lv2 := [(0, .ref l0), (4, .int l4), (5, .int l5), (6, .int l6), (7, .int l7)]) (st2 := [.int l5, .int l4, .ref l0]) hm dX0_readPlain_139 rfl ?_
  refine mx_S.pu (pc2 := 143) (lv2 := [(0, .ref l0), (4, .int l4), (5, .int l5), (6, .int l6), (7, .int l7)]) (st2 := [.int l6, .int l5, .int l4, .ref l0]) hm dX0_readPlain_141 rfl ?_
  refine mx_S.pu (pc2 := 145) (lv2 := [(0, .ref l0), (4, .int l4), (5, .int l5), (6, .int l6), (7, .int l7)]) (st2 := [.int l7, .int l6, .int l5, .int l4, .ref l0]) hm dX0_readPlain_143 rfl ?_
  replace hf := mx_gd_el hf; obtain ⟨c5, hf⟩ := hf
  replace hf := mx_sv_el hf; obtain ⟨u6, e_u6, hf⟩ := hf
  refine sx_cv hm dX0_readPlain_145 rs_RX0_269 mt_X0_closeGiving [.int l4, .int l5, .int l6, .int l7] [] (b := l0) (ci := 0) rfl rfl rfl c5 (Nat.le_of_ble_eq_true rfl) (Nat.le_of_ble_eq_true rfl) (by omega) (by omega) (f_X0_closeGiving_ok X (by omega) (by omega) nn l0 l4 l5 l6 l7 h e_u6) ?_
  clear e_u6
  show mx_S X F L 21 148 [(0, .ref l0), (4, .int l4), (5, .int l5), (6, .int l6), (7, .int l7)] [] u6 0 0 (some (.int r.1), r.2, 0, 0)
  refine mx_S.pu (pc2 := 156) (lv2 := [(0, .ref l0), (4, .int l4), (5, .int l5), (6, .int l6), (7, .int l7)]) (st2 := []) hm dX0_readPlain_148 rfl ?_
  refine mx_S.ext [(0, .ref l0)] (mx_sub_pos [0] rfl (show ([0, 4, 5, 6, 7] : List Nat).Nodup by decide)) ?_
  exact j_X0_readPlain_156_ok X hF hL nn l0 u6 hf
set_option maxHeartbeats 4000000 in
set_option maxRecDepth 20000 in
theorem j_X0_readPlain_126_ok (X : Nat × (Nat → Int32)) {F L : Nat} (hF : 427 ≤ F) (hL : 12798 ≤ L) (nn : Nat) (l0 : Nat) (l3 : Int32) (l4 : Int32) (l5 : Int32) (l6 : Int32) (l7 : Int32) (h : mx_H) {r : (Int32 × mx_H)} (hf : j_X0_readPlain_126 nn l0 l3 l4 l5 l6 l7 h = some r) : mx_S X F L 21 126 [(0, .ref l0), (3, .int l3), (4, .int l4), (5, .int l5), (6, .int l6), (7, .int l7)] [] h 0 0 (some (.int r.1), r.2, 0, 0) := by
  have hm : mx_mt 21 = some (yX0_readPlain, cX0_readPlain, 8, (some .boolean)) := mt_X0_readPlain
  unfold j_X0_readPlain_126 at hf
  refine mx_S.pu (pc2 := 127) (lv2 := [(0, .ref l0), (3, .int l3), (4, .int l4), (5, .int l5), (6, .int l6), (7, .int l7)]) (st2 := [.ref l0]) hm dX0_readPlain_126 rfl ?_
  replace hf := mx_sv_el hf; obtain ⟨v7, e_v7, hf⟩ := hf
  refine sx_get hm dX0_readPlain_127 rs_RX0_34 (xgr_el e_v7) ?_
  clear e_v7
  refine sx_bi (v := 6) hm dX0_readPlain_130 (by decide) ?_
  refine mx_S.pu (pc2 := 133) (lv2 := [(0, .ref l0), (3, .int l3), (4, .int l4), (5, .int l5), (6, .int l6), (7, .int l7)]) (st2 := [.int l3, .int 6, .ref v7]) hm dX0_readPlain_132 rfl ?_
  replace hf := mx_gd_el hf; obtain ⟨c8, hf⟩ := hf
  replace hf := mx_sv_el hf; obtain ⟨u9, e_u9, hf⟩ := hf
  refine sx_cv hm dX0_readPlain_133 rs_RX0_69 mt_X9_tell [.int 6, .int l3] [] (b := v7) (ci := 9) rfl rfl rfl c8 (Nat.le_of_ble_eq_true rfl) (Nat.le_of_ble_eq_true rfl) (by omega) (by omega) (f_X9_tell_ok X (by omega) (by omega) nn v7 6 l3 h e_u9) ?_
  clear e_u9
  show mx_S X F L 21 136 [(0, .ref l0), (3, .int l3), (4, .int l4), (5, .int l5), (6, .int l6), (7, .int l7)] [] u9 0 0 (some (.int r.1), r.2, 0, 0)
  refine mx_S.ext [(0, .ref l0), (4, .int l4), (5, .int l5), (6, .int l6), (7, .int l7)] (mx_sub_pos [0, 2, 3, 4, 5] rfl (show ([0, 3, 4, 5, 6, 7] : List Nat).Nodup by decide)) ?_
  exact j_X0_readPlain_136_ok X hF hL nn l0 l4 l5 l6 l7 u9 hf
set_option maxHeartbeats 4000000 in
set_option maxRecDepth 20000 in
theorem f_X0_readPlain_ok (X : Nat × (Nat → Int32)) {F L : Nat} (hF : 427 ≤ F) (hL : 12798 ≤ L) (nn : Nat) (a0 : Nat) (a1 : Int32) (h : mx_H) {r : (Int32 × mx_H)} (hf : f_X0_readPlain nn a0 a1 h = some r) : mx_R X F L 21 [.ref a0, .int a1] h (some (.int r.1), r.2, 0, 0) := by
  have hm : mx_mt 21 = some (yX0_readPlain, cX0_readPlain, 8, (some .boolean)) := mt_X0_readPlain
  show mx_S X F L 21 0 [(0, .ref a0), (1, .int a1)] [] h 0 0 (some (.int r.1), r.2, 0, 0)
  unfold f_X0_readPlain at hf
  refine mx_S.pu (pc2 := 1) (lv2 := [(0, .ref a0), (1, .int a1)]) (st2 := [.ref a0]) hm dX0_readPlain_0 rfl ?_
  replace hf := mx_sv_el hf; obtain ⟨v10, e_v10, hf⟩ := hf
  refine sx_get hm dX0_readPlain_1 rs_RX0_34 (xgr_el e_v10) ?_
  clear e_v10
  replace hf := mx_sv_el hf; obtain ⟨v11, e_v11, hf⟩ := hf
  refine sx_get hm dX0_readPlain_4 rs_RX0_138 (xgi_el e_v11) ?_
  clear e_v11
  refine mx_S.pu (pc2 := 8) (lv2 := [(2, .int v11), (0, .ref a0), (1, .int a1)]) (st2 := []) hm dX0_readPlain_7 rfl ?_
  refine mx_S.pu (pc2 := 9) (lv2 := [(2, .int v11), (0, .ref a0), (1, .int a1)]) (st2 := [.ref a0]) hm dX0_readPlain_8 rfl ?_
  replace hf := mx_sv_el hf; obtain ⟨v12, e_v12, hf⟩ := hf
  refine sx_get hm dX0_readPlain_9 rs_RX0_61 (xgr_el e_v12) ?_
  clear e_v12
  refine mx_S.pu (pc2 := 13) (lv2 := [(2, .int v11), (0, .ref a0), (1, .int a1)]) (st2 := [.int v11, .ref v12]) hm dX0_readPlain_12 rfl ?_
  replace hf := mx_sv_el hf; obtain ⟨h13, e_h13, hf⟩ := hf
  refine sx_put hm dX0_readPlain_13 rs_RX0_257 ft_10_18 ⟨rfl, rfl⟩ (fun z => by cases z) e_h13 ?_
  clear e_h13
  refine mx_S.pu (pc2 := 17) (lv2 := [(2, .int v11), (0, .ref a0), (1, .int a1)]) (st2 := [.ref a0]) hm dX0_readPlain_16 rfl ?_
  replace hf := mx_sv_el hf; obtain ⟨v14, e_v14, hf⟩ := hf
  refine sx_get hm dX0_readPlain_17 rs_RX0_61 (xgr_el e_v14) ?_
  clear e_v14
  refine mx_S.pu (pc2 := 21) (lv2 := [(2, .int v11), (0, .ref a0), (1, .int a1)]) (st2 := [.int a1, .ref v14]) hm dX0_readPlain_20 rfl ?_
  replace hf := mx_gd_el hf; obtain ⟨c15, hf⟩ := hf
  replace hf := mx_sv_el hf; obtain ⟨u16, e_u16, hf⟩ := hf
  refine sx_cv hm dX0_readPlain_21 rs_RX0_242 mt_X10_readWhole [.int a1] [] (b := v14) (ci := 10) rfl rfl rfl c15 (Nat.le_of_ble_eq_true rfl) (Nat.le_of_ble_eq_true rfl) (by omega) (by omega) (f_X10_readWhole_ok X (by omega) (by omega) nn v14 a1 h13 e_u16) ?_
  clear e_u16
  show mx_S X F L 21 24 [(2, .int v11), (0, .ref a0), (1, .int a1)] [] u16 0 0 (some (.int r.1), r.2, 0, 0)
  refine mx_S.pu (pc2 := 25) (lv2 := [(2, .int v11), (0, .ref a0), (1, .int a1)]) (st2 := [.ref a0]) hm dX0_readPlain_24 rfl ?_
  replace hf := mx_sv_el hf; obtain ⟨v17, e_v17, hf⟩ := hf
  refine sx_get hm dX0_readPlain_25 rs_RX0_34 (xgr_el e_v17) ?_
  clear e_v17
  replace hf := mx_gd_el hf; obtain ⟨c18, hf⟩ := hf
  replace hf := mx_sv_el hf; obtain ⟨u19, e_u19, hf⟩ := hf
  refine sx_cv hm dX0_readPlain_28 rs_RX0_158 mt_X9_kind [] [] (b := v17) (ci := 9) rfl rfl rfl c18 (Nat.le_of_ble_eq_true rfl) (Nat.le_of_ble_eq_true rfl) (by omega) (by omega) (f_X9_kind_ok X (by omega) (by omega) nn v17 u16 e_u19) ?_
  clear e_u19
  show mx_S X F L 21 31 [(2, .int v11), (0, .ref a0), (1, .int a1)] [.int u19.1] u19.2 0 0 (some (.int r.1), r.2, 0, 0)
  refine sx_bi (v := 51) hm dX0_readPlain_31 (by decide) ?_
  rcases mx_if_el hf with ⟨c46, hf⟩ | ⟨c46, hf⟩
  · refine sb_ic_ne hm dX0_readPlain_33 (tgt := 151) rfl (fun _ => ?_) (fun z => absurd c46 z)
    refine mx_S.pu (pc2 := 152) (lv2 := [(2, .int v11), (0, .ref a0), (1, .int a1)]) (st2 := [.ref a0]) hm dX0_readPlain_151 rfl ?_
    refine mx_S.pu (pc2 := 153) (lv2 := [(2, .int v11), (0, .ref a0), (1, .int a1)]) (st2 := [.int v11, .ref a0]) hm dX0_readPlain_152 rfl ?_
    replace hf := mx_gd_el hf; obtain ⟨c20, hf⟩ := hf
    replace hf := mx_sv_el hf; obtain ⟨u21, e_u21, hf⟩ := hf
    refine sx_cv hm dX0_readPlain_153 rs_RX0_273 mt_X0_closeAlone [.int v11] [] (b := a0) (ci := 0) rfl rfl rfl c20 (Nat.le_of_ble_eq_true rfl) (Nat.le_of_ble_eq_true rfl) (by omega) (by omega) (f_X0_closeAlone_ok X (by omega) (by omega) nn a0 v11 u19.2 e_u21) ?_
    clear e_u21
    show mx_S X F L 21 156 [(2, .int v11), (0, .ref a0), (1, .int a1)] [] u21 0 0 (some (.int r.1), r.2, 0, 0)
    refine mx_S.ext [(0, .ref a0)] (mx_sub_pos [1] rfl (show ([2, 0, 1] : List Nat).Nodup by decide)) ?_
    exact j_X0_readPlain_156_ok X hF hL nn a0 u21 hf
  · refine sb_ic_ne hm dX0_readPlain_33 (tgt := 151) rfl (fun z => absurd z c46) (fun _ => ?_)
    refine mx_S.pu (pc2 := 37) (lv2 := [(2, .int v11), (0, .ref a0), (1, .int a1)]) (st2 := [.ref a0]) hm dX0_readPlain_36 rfl ?_
    replace hf := mx_sv_el hf; obtain ⟨v22, e_v22, hf⟩ := hf
    refine sx_get hm dX0_readPlain_37 rs_RX0_34 (xgr_el e_v22) ?_
    clear e_v22
    replace hf := mx_sv_el hf; obtain ⟨v23, e_v23, hf⟩ := hf
    refine sx_get hm dX0_readPlain_40 rs_RX0_138 (xgi_el e_v23) ?_
    clear e_v23
    refine mx_S.pu (pc2 := 44) (lv2 := [(3, .int v23), (2, .int v11), (0, .ref a0), (1, .int a1)]) (st2 := []) hm dX0_readPlain_43 rfl ?_
    refine mx_S.pu (pc2 := 45) (lv2 := [(3, .int v23), (2, .int v11), (0, .ref a0), (1, .int a1)]) (st2 := [.ref a0]) hm dX0_readPlain_44 rfl ?_
    replace hf := mx_sv_el hf; obtain ⟨v24, e_v24, hf⟩ := hf
    refine sx_get hm dX0_readPlain_45 rs_RX0_61 (xgr_el e_v24) ?_
    clear e_v24
    replace hf := mx_sv_el hf; obtain ⟨v25, e_v25, hf⟩ := hf
    refine sx_get hm dX0_readPlain_48 rs_RX0_260 (xgi_el e_v25) ?_
    clear e_v25
    refine mx_S.pu (pc2 := 53) (lv2 := [(4, .int v25), (3, .int v23), (2, .int v11), (0, .ref a0), (1, .int a1)]) (st2 := []) hm dX0_readPlain_51 rfl ?_
    refine mx_S.pu (pc2 := 54) (lv2 := [(4, .int v25), (3, .int v23), (2, .int v11), (0, .ref a0), (1, .int a1)]) (st2 := [.ref a0]) hm dX0_readPlain_53 rfl ?_
    replace hf := mx_sv_el hf; obtain ⟨v26, e_v26, hf⟩ := hf
    refine sx_get hm dX0_readPlain_54 rs_RX0_61 (xgr_el e_v26) ?_
    clear e_v26
    replace hf := mx_sv_el hf; obtain ⟨v27, e_v27, hf⟩ := hf
    refine sx_get hm dX0_readPlain_57 rs_RX0_245 (xgi_el e_v27) ?_
    clear e_v27
    refine mx_S.pu (pc2 := 62) (lv2 := [(5, .int v27), (4, .int v25), (3, .int v23), (2, .int v11), (0, .ref a0), (1, .int a1)]) (st2 := []) hm dX0_readPlain_60 rfl ?_
    refine mx_S.pu (pc2 := 63) (lv2 := [(5, .int v27), (4, .int v25), (3, .int v23), (2, .int v11), (0, .ref a0), (1, .int a1)]) (st2 := [.ref a0]) hm dX0_readPlain_62 rfl ?_
    replace hf := mx_sv_el hf; obtain ⟨v28, e_v28, hf⟩ := hf
    refine sx_get hm dX0_readPlain_63 rs_RX0_61 (xgr_el e_v28) ?_
    clear e_v28
    replace hf := mx_sv_el hf; obtain ⟨v29, e_v29, hf⟩ := hf
    refine sx_get hm dX0_readPlain_66 rs_RX0_263 (xgi_el e_v29) ?_
    clear e_v29
    refine mx_S.pu (pc2 := 71) (lv2 := [(6, .int v29), (5, .int v27), (4, .int v25), (3, .int v23), (2, .int v11), (0, .ref a0), (1, .int a1)]) (st2 := []) hm dX0_readPlain_69 rfl ?_
    refine mx_S.pu (pc2 := 72) (lv2 := [(6, .int v29), (5, .int v27), (4, .int v25), (3, .int v23), (2, .int v11), (0, .ref a0), (1, .int a1)]) (st2 := [.ref a0]) hm dX0_readPlain_71 rfl ?_
    replace hf := mx_sv_el hf; obtain ⟨v30, e_v30, hf⟩ := hf
    refine sx_get hm dX0_readPlain_72 rs_RX0_61 (xgr_el e_v30) ?_
    clear e_v30
    replace hf := mx_sv_el hf; obtain ⟨v31, e_v31, hf⟩ := hf
    refine sx_get hm dX0_readPlain_75 rs_RX0_266 (xgi_el e_v31) ?_
    clear e_v31
    refine mx_S.pu (pc2 := 80) (lv2 := [(7, .int v31), (6, .int v29), (5, .int v27), (4, .int v25), (3, .int v23), (2, .int v11), (0, .ref a0), (1, .int a1)]) (st2 := []) hm dX0_readPlain_78 rfl ?_
    refine mx_S.pu (pc2 := 81) (lv2 := [(7, .int v31), (6, .int v29), (5, .int v27), (4, .int v25), (3, .int v23), (2, .int v11), (0, .ref a0), (1, .int a1)]) (st2 := [.ref a0]) hm dX0_readPlain_80 rfl ?_
    replace hf := mx_sv_el hf; obtain ⟨v32, e_v32, hf⟩ := hf
    refine sx_get hm dX0_readPlain_81 rs_RX0_34 (xgr_el e_v32) ?_
    clear e_v32
    refine mx_S.pu (pc2 := 85) (lv2 := [(7, .int v31), (6, .int v29), (5, .int v27), (4, .int v25), (3, .int v23), (2, .int v11), (0, .ref a0), (1, .int a1)]) (st2 := [.ref v32, .ref v32]) hm dX0_readPlain_84 rfl ?_
    replace hf := mx_sv_el hf; obtain ⟨v33, e_v33, hf⟩ := hf
    refine sx_get hm dX0_readPlain_85 rs_RX0_138 (xgi_el e_v33) ?_
    clear e_v33
    refine sx_ic (v := 1) hm dX0_readPlain_88 (by decide) ?_
    replace hf := xl_el hf; obtain ⟨v34, e_v34, hf⟩ := hf
    refine mx_S.pu (pc2 := 90) (lv2 := [(7, .int v31), (6, .int v29), (5, .int v27), (4, .int v25), (3, .int v23), (2, .int v11), (0, .ref a0), (1, .int a1)]) (st2 := [.int v34, .ref v32]) hm dX0_readPlain_89 (by rw [← e_v34]; rfl) ?_
    clear e_v34
    replace hf := mx_sv_el hf; obtain ⟨h35, e_h35, hf⟩ := hf
    refine sx_put hm dX0_readPlain_90 rs_RX0_138 ft_9_10 ⟨rfl, rfl⟩ (fun z => by cases z) e_h35 ?_
    clear e_h35
    refine mx_S.pu (pc2 := 94) (lv2 := [(7, .int v31), (6, .int v29), (5, .int v27), (4, .int v25), (3, .int v23), (2, .int v11), (0, .ref a0), (1, .int a1)]) (st2 := [.ref a0]) hm dX0_readPlain_93 rfl ?_
    replace hf := mx_sv_el hf; obtain ⟨v36, e_v36, hf⟩ := hf
    refine sx_get hm dX0_readPlain_94 rs_RX0_61 (xgr_el e_v36) ?_
    clear e_v36
    refine mx_S.pu (pc2 := 98) (lv2 := [(7, .int v31), (6, .int v29), (5, .int v27), (4, .int v25), (3, .int v23), (2, .int v11), (0, .ref a0), (1, .int a1)]) (st2 := [.int a1, .ref v36]) hm dX0_readPlain_97 rfl ?_
    replace hf := mx_gd_el hf; obtain ⟨c37, hf⟩ := hf
    replace hf := mx_sv_el hf; obtain ⟨u38, e_u38, hf⟩ := hf
    refine sx_cv hm dX0_readPlain_98 rs_RX0_242 mt_X10_readWhole [.int a1] [] (b := v36) (ci := 10) rfl rfl rfl c37 (Nat.le_of_ble_eq_true rfl) (Nat.le_of_ble_eq_true rfl) (by omega) (by omega) (f_X10_readWhole_ok X (by omega) (by omega) nn v36 a1 h35 e_u38) ?_
    clear e_u38
    show mx_S X F L 21 101 [(7, .int v31), (6, .int v29), (5, .int v27), (4, .int v25), (3, .int v23), (2, .int v11), (0, .ref a0), (1, .int a1)] [] u38 0 0 (some (.int r.1), r.2, 0, 0)
    refine mx_S.pu (pc2 := 103) (lv2 := [(7, .int v31), (6, .int v29), (5, .int v27), (4, .int v25), (3, .int v23), (2, .int v11), (0, .ref a0), (1, .int a1)]) (st2 := [.int v25]) hm dX0_readPlain_101 rfl ?_
    refine sx_ic (v := 2) hm dX0_readPlain_103 (by decide) ?_
    rcases mx_if_el hf with ⟨c45, hf⟩ | ⟨c45, hf⟩
    · refine sb_ic_lt hm dX0_readPlain_104 (tgt := 126) rfl (fun _ => ?_) (fun z => absurd c45 z)
      refine mx_S.ext [(0, .ref a0), (3, .int v23), (4, .int v25), (5, .int v27), (6, .int v29), (7, .int v31)] (mx_sub_pos [6, 4, 3, 2, 1, 0] rfl (show ([7, 6, 5, 4, 3, 2, 0, 1] : List Nat).Nodup by decide)) ?_
      exact j_X0_readPlain_126_ok X hF hL nn a0 v23 v25 v27 v29 v31 u38 hf
    · refine sb_ic_lt hm dX0_readPlain_104 (tgt := 126) rfl (fun z => absurd z c45) (fun _ => ?_)
      refine mx_S.pu (pc2 := 108) (lv2 := [(7, .int v31), (6, .int v29), (5, .int v27), (4, .int v25), (3, .int v23), (2, .int v11), (0, .ref a0), (1, .int a1)]) (st2 := [.ref a0]) hm dX0_readPlain_107 rfl ?_
      replace hf := mx_sv_el hf; obtain ⟨v39, e_v39, hf⟩ := hf
      refine sx_get hm dX0_readPlain_108 rs_RX0_46 (xgr_el e_v39) ?_
      clear e_v39
      refine mx_S.pu (pc2 := 112) (lv2 := [(7, .int v31), (6, .int v29), (5, .int v27), (4, .int v25), (3, .int v23), (2, .int v11), (0, .ref a0), (1, .int a1)]) (st2 := [.ref a0, .ref v39]) hm dX0_readPlain_111 rfl ?_
      replace hf := mx_sv_el hf; obtain ⟨v40, e_v40, hf⟩ := hf
      refine sx_get hm dX0_readPlain_112 rs_RX0_61 (xgr_el e_v40) ?_
      clear e_v40
      replace hf := mx_sv_el hf; obtain ⟨v41, e_v41, hf⟩ := hf
      refine sx_get hm dX0_readPlain_115 rs_RX0_245 (xgi_el e_v41) ?_
      clear e_v41
      refine mx_S.pu (pc2 := 120) (lv2 := [(7, .int v31), (6, .int v29), (5, .int v27), (4, .int v25), (3, .int v23), (2, .int v11), (0, .ref a0), (1, .int a1)]) (st2 := [.int v27, .int v41, .ref v39]) hm dX0_readPlain_118 rfl ?_
      replace hf := mx_gd_el hf; obtain ⟨c42, hf⟩ := hf
      replace hf := mx_sv_el hf; obtain ⟨u43, e_u43, hf⟩ := hf
      refine sx_cv hm dX0_readPlain_120 rs_RX0_222 mt_X4_fits [.int v41, .int v27] [] (b := v39) (ci := 4) rfl rfl rfl c42 (Nat.le_of_ble_eq_true rfl) (Nat.le_of_ble_eq_true rfl) (by omega) (by omega) (f_X4_fits_ok X (by omega) (by omega) nn v39 v41 v27 u38 e_u43) ?_
      clear e_u43
      show mx_S X F L 21 123 [(7, .int v31), (6, .int v29), (5, .int v27), (4, .int v25), (3, .int v23), (2, .int v11), (0, .ref a0), (1, .int a1)] [.int u43.1] u43.2 0 0 (some (.int r.1), r.2, 0, 0)
      rcases mx_if_el hf with ⟨c44, hf⟩ | ⟨c44, hf⟩
      · refine sb_if_ne hm dX0_readPlain_123 (tgt := 136) rfl (fun _ => ?_) (fun z => absurd c44 z)
        refine mx_S.ext [(0, .ref a0), (4, .int v25), (5, .int v27), (6, .int v29), (7, .int v31)] (mx_sub_pos [6, 3, 2, 1, 0] rfl (show ([7, 6, 5, 4, 3, 2, 0, 1] : List Nat).Nodup by decide)) ?_
        exact j_X0_readPlain_136_ok X hF hL nn a0 v25 v27 v29 v31 u43.2 hf
      · refine sb_if_ne hm dX0_readPlain_123 (tgt := 136) rfl (fun z => absurd z c44) (fun _ => ?_)
        refine mx_S.ext [(0, .ref a0), (3, .int v23), (4, .int v25), (5, .int v27), (6, .int v29), (7, .int v31)] (mx_sub_pos [6, 4, 3, 2, 1, 0] rfl (show ([7, 6, 5, 4, 3, 2, 0, 1] : List Nat).Nodup by decide)) ?_
        exact j_X0_readPlain_126_ok X hF hL nn a0 v23 v25 v27 v29 v31 u43.2 hf
set_option maxHeartbeats 4000000 in
set_option maxRecDepth 20000 in
theorem j_X0_readPrint_52_ok (X : Nat × (Nat → Int32)) {F L : Nat} (hF : 427 ≤ F) (hL : 12798 ≤ L) (nn : Nat) (l0 : Nat) (h : mx_H) {r : (Int32 × mx_H)} (hf : j_X0_readPrint_52 nn l0 h = some r) : mx_S X F L 19 52 [(0, .ref l0)] [] h 0 0 (some (.int r.1), r.2, 0, 0) := by
  have hm : mx_mt 19 = some (yX0_readPrint, cX0_readPrint, 3, (some .boolean)) := mt_X0_readPrint
  unfold j_X0_readPrint_52 at hf
  refine mx_S.pu (pc2 := 53) (lv2 := [(0, .ref l0)]) (st2 := [.ref l0]) hm dX0_readPrint_52 rfl ?_
  replace hf := mx_sv_el hf; obtain ⟨v1, e_v1, hf⟩ := hf
  refine sx_get hm dX0_readPrint_53 rs_RX0_16 (xgr_el e_v1) ?_
  clear e_v1
  refine sx_si (v := 186) hm dX0_readPrint_56 (by decide) ?_
  replace hf := mx_gd_el hf; obtain ⟨c2, hf⟩ := hf
  replace hf := mx_sv_el hf; obtain ⟨u3, e_u3, hf⟩ := hf
  refine sx_cv hm dX0_readPrint_59 rs_RX0_147 mt_X1_op [.int 186] [] (b := v1) (ci := 1) rfl rfl rfl c2 (Nat.le_of_ble_eq_true rfl) (Nat.le_of_ble_eq_true rfl) (by omega) (by omega) (f_X1_op_ok X (by omega) (by omega) nn v1 186 h e_u3) ?_
  clear e_u3
  show mx_S X F L 19 62 [(0, .ref l0)] [] u3 0 0 (some (.int r.1), r.2, 0, 0)
  refine mx_S.pu (pc2 := 63) (lv2 := [(0, .ref l0)]) (st2 := [.ref l0]) hm dX0_readPrint_62 rfl ?_
  replace hf := mx_sv_el hf; obtain ⟨v4, e_v4, hf⟩ := hf
  refine sx_get hm dX0_readPrint_63 rs_RX0_16 (xgr_el e_v4) ?_
  clear e_v4
  refine sx_ic (v := 1) hm dX0_readPrint_66 (by decide) ?_
  replace hf := mx_gd_el hf; obtain ⟨c5, hf⟩ := hf
  replace hf := mx_sv_el hf; obtain ⟨u6, e_u6, hf⟩ := hf
  refine sx_cv hm dX0_readPrint_67 rs_RX0_251 mt_X1_pop [.int 1] [] (b := v4) (ci := 1) rfl rfl rfl c5 (Nat.le_of_ble_eq_true rfl) (Nat.le_of_ble_eq_true rfl) (by omega) (by omega) (f_X1_pop_ok X (by omega) (by omega) nn v4 1 u3 e_u6) ?_
  clear e_u6
  show mx_S X F L 19 70 [(0, .ref l0)] [] u6 0 0 (some (.int r.1), r.2, 0, 0)
  refine mx_S.pu (pc2 := 71) (lv2 := [(0, .ref l0)]) (st2 := [.ref l0]) hm dX0_readPrint_70 rfl ?_
  replace hf := mx_sv_el hf; obtain ⟨v7, e_v7, hf⟩ := hf
  refine sx_get hm dX0_readPrint_71 rs_RX0_34 (xgr_el e_v7) ?_
  clear e_v7
  refine mx_S.pu (pc2 := 75) (lv2 := [(0, .ref l0)]) (st2 := [.ref v7, .ref v7]) hm dX0_readPrint_74 rfl ?_
  replace hf := mx_sv_el hf; obtain ⟨v8, e_v8, hf⟩ := hf
  refine sx_get hm dX0_readPrint_75 rs_RX0_138 (xgi_el e_v8) ?_
  clear e_v8
  refine sx_ic (v := 2) hm dX0_readPrint_78 (by decide) ?_
  replace hf := xl_el hf; obtain ⟨v9, e_v9, hf⟩ := hf
  refine mx_S.pu (pc2 := 80) (lv2 := [(0, .ref l0)]) (st2 := [.int v9, .ref v7]) hm dX0_readPrint_79 (by rw [← e_v9]; rfl) ?_
  clear e_v9
  replace hf := mx_sv_el hf; obtain ⟨h10, e_h10, hf⟩ := hf
  refine sx_put hm dX0_readPrint_80 rs_RX0_138 ft_9_10 ⟨rfl, rfl⟩ (fun z => by cases z) e_h10 ?_
  clear e_h10
  refine sx_ic (v := 1) hm dX0_readPrint_83 (by decide) ?_
  cases hf
  exact sx_ire hm dX0_readPrint_84 rfl (by decide)
set_option maxHeartbeats 4000000 in
set_option maxRecDepth 20000 in
theorem f_X0_readPrint_ok (X : Nat × (Nat → Int32)) {F L : Nat} (hF : 427 ≤ F) (hL : 12798 ≤ L) (nn : Nat) (a0 : Nat) (a1 : Int32) (h : mx_H) {r : (Int32 × mx_H)} (hf : f_X0_readPrint nn a0 a1 h = some r) : mx_R X F L 19 [.ref a0, .int a1] h (some (.int r.1), r.2, 0, 0) := by
  have hm : mx_mt 19 = some (yX0_readPrint, cX0_readPrint, 3, (some .boolean)) := mt_X0_readPrint
  show mx_S X F L 19 0 [(0, .ref a0), (1, .int a1)] [] h 0 0 (some (.int r.1), r.2, 0, 0)
  unfold f_X0_readPrint at hf
  refine mx_S.pu (pc2 := 1) (lv2 := [(0, .ref a0), (1, .int a1)]) (st2 := [.ref a0]) hm dX0_readPrint_0 rfl ?_
  replace hf := mx_sv_el hf; obtain ⟨v11, e_v11, hf⟩ := hf
  refine sx_get hm dX0_readPrint_1 rs_RX0_34 (xgr_el e_v11) ?_
  clear e_v11
  replace hf := mx_sv_el hf; obtain ⟨v12, e_v12, hf⟩ := hf
  refine sx_get hm dX0_readPrint_4 rs_RX0_138 (xgi_el e_v12) ?_
  clear e_v12
  refine mx_S.pu (pc2 := 8) (lv2 := [(2, .int v12), (0, .ref a0), (1, .int a1)]) (st2 := []) hm dX0_readPrint_7 rfl ?_
  refine mx_S.pu (pc2 := 9) (lv2 := [(2, .int v12), (0, .ref a0), (1, .int a1)]) (st2 := [.ref a0]) hm dX0_readPrint_8 rfl ?_
  replace hf := mx_sv_el hf; obtain ⟨v13, e_v13, hf⟩ := hf
  refine sx_get hm dX0_readPrint_9 rs_RX0_34 (xgr_el e_v13) ?_
  clear e_v13
  refine mx_S.pu (pc2 := 13) (lv2 := [(2, .int v12), (0, .ref a0), (1, .int a1)]) (st2 := [.ref v13, .ref v13]) hm dX0_readPrint_12 rfl ?_
  replace hf := mx_sv_el hf; obtain ⟨v14, e_v14, hf⟩ := hf
  refine sx_get hm dX0_readPrint_13 rs_RX0_138 (xgi_el e_v14) ?_
  clear e_v14
  refine sx_ic (v := 2) hm dX0_readPrint_16 (by decide) ?_
  replace hf := xl_el hf; obtain ⟨v15, e_v15, hf⟩ := hf
  refine mx_S.pu (pc2 := 18) (lv2 := [(2, .int v12), (0, .ref a0), (1, .int a1)]) (st2 := [.int v15, .ref v13]) hm dX0_readPrint_17 (by rw [← e_v15]; rfl) ?_
  clear e_v15
  replace hf := mx_sv_el hf; obtain ⟨h16, e_h16, hf⟩ := hf
  refine sx_put hm dX0_readPrint_18 rs_RX0_138 ft_9_10 ⟨rfl, rfl⟩ (fun z => by cases z) e_h16 ?_
  clear e_h16
  refine mx_S.pu (pc2 := 22) (lv2 := [(2, .int v12), (0, .ref a0), (1, .int a1)]) (st2 := [.ref a0]) hm dX0_readPrint_21 rfl ?_
  replace hf := mx_sv_el hf; obtain ⟨v17, e_v17, hf⟩ := hf
  refine sx_get hm dX0_readPrint_22 rs_RX0_61 (xgr_el e_v17) ?_
  clear e_v17
  refine mx_S.pu (pc2 := 26) (lv2 := [(2, .int v12), (0, .ref a0), (1, .int a1)]) (st2 := [.int a1, .ref v17]) hm dX0_readPrint_25 rfl ?_
  replace hf := mx_gd_el hf; obtain ⟨c18, hf⟩ := hf
  replace hf := mx_sv_el hf; obtain ⟨u19, e_u19, hf⟩ := hf
  refine sx_cv hm dX0_readPrint_26 rs_RX0_242 mt_X10_readWhole [.int a1] [] (b := v17) (ci := 10) rfl rfl rfl c18 (Nat.le_of_ble_eq_true rfl) (Nat.le_of_ble_eq_true rfl) (by omega) (by omega) (f_X10_readWhole_ok X (by omega) (by omega) nn v17 a1 h16 e_u19) ?_
  clear e_u19
  show mx_S X F L 19 29 [(2, .int v12), (0, .ref a0), (1, .int a1)] [] u19 0 0 (some (.int r.1), r.2, 0, 0)
  refine mx_S.pu (pc2 := 30) (lv2 := [(2, .int v12), (0, .ref a0), (1, .int a1)]) (st2 := [.ref a0]) hm dX0_readPrint_29 rfl ?_
  replace hf := mx_sv_el hf; obtain ⟨v20, e_v20, hf⟩ := hf
  refine sx_get hm dX0_readPrint_30 rs_RX0_61 (xgr_el e_v20) ?_
  clear e_v20
  replace hf := mx_sv_el hf; obtain ⟨v21, e_v21, hf⟩ := hf
  refine sx_get hm dX0_readPrint_33 rs_RX0_245 (xgi_el e_v21) ?_
  clear e_v21
  replace hf := mx_sv_el hf; obtain ⟨u22, e_u22, hf⟩ := hf
  refine sx_cs hm dX0_readPrint_36 rs_RX0_248 mt_X4_isNumber [.int v21] [] rfl rfl (Nat.le_of_ble_eq_true rfl) (Nat.le_of_ble_eq_true rfl) (by omega) (by omega) (f_X4_isNumber_ok X (by omega) (by omega) nn v21 u19 e_u22) ?_
  clear e_u22
  show mx_S X F L 19 39 [(2, .int v12), (0, .ref a0), (1, .int a1)] [.int u22.1] u22.2 0 0 (some (.int r.1), r.2, 0, 0)
  rcases mx_if_el hf with ⟨c26, hf⟩ | ⟨c26, hf⟩
  · refine sb_if_ne hm dX0_readPrint_39 (tgt := 52) rfl (fun _ => ?_) (fun z => absurd c26 z)
    refine mx_S.ext [(0, .ref a0)] (mx_sub_pos [1] rfl (show ([2, 0, 1] : List Nat).Nodup by decide)) ?_
    exact j_X0_readPrint_52_ok X hF hL nn a0 u22.2 hf
  · refine sb_if_ne hm dX0_readPrint_39 (tgt := 52) rfl (fun z => absurd z c26) (fun _ => ?_)
    refine mx_S.pu (pc2 := 43) (lv2 := [(2, .int v12), (0, .ref a0), (1, .int a1)]) (st2 := [.ref a0]) hm dX0_readPrint_42 rfl ?_
    replace hf := mx_sv_el hf; obtain ⟨v23, e_v23, hf⟩ := hf
    refine sx_get hm dX0_readPrint_43 rs_RX0_34 (xgr_el e_v23) ?_
    clear e_v23
    refine sx_bi (v := 6) hm dX0_readPrint_46 (by decide) ?_
    refine mx_S.pu (pc2 := 49) (lv2 := [(2, .int v12), (0, .ref a0), (1, .int a1)]) (st2 := [.int v12, .int 6, .ref v23]) hm dX0_readPrint_48 rfl ?_
    replace hf := mx_gd_el hf; obtain ⟨c24, hf⟩ := hf
    replace hf := mx_sv_el hf; obtain ⟨u25, e_u25, hf⟩ := hf
    refine sx_cv hm dX0_readPrint_49 rs_RX0_69 mt_X9_tell [.int 6, .int v12] [] (b := v23) (ci := 9) rfl rfl rfl c24 (Nat.le_of_ble_eq_true rfl) (Nat.le_of_ble_eq_true rfl) (by omega) (by omega) (f_X9_tell_ok X (by omega) (by omega) nn v23 6 v12 u22.2 e_u25) ?_
    clear e_u25
    show mx_S X F L 19 52 [(2, .int v12), (0, .ref a0), (1, .int a1)] [] u25 0 0 (some (.int r.1), r.2, 0, 0)
    refine mx_S.ext [(0, .ref a0)] (mx_sub_pos [1] rfl (show ([2, 0, 1] : List Nat).Nodup by decide)) ?_
    exact j_X0_readPrint_52_ok X hF hL nn a0 u25 hf
set_option maxHeartbeats 4000000 in
set_option maxRecDepth 20000 in
theorem j_X0_readReturn_158_ok (X : Nat × (Nat → Int32)) {F L : Nat} (hF : 427 ≤ F) (hL : 12798 ≤ L) (nn : Nat) (l0 : Nat) (h : mx_H) {r : (Int32 × mx_H)} (hf : j_X0_readReturn_158 nn l0 h = some r) : mx_S X F L 17 158 [(0, .ref l0)] [] h 0 0 (some (.int r.1), r.2, 0, 0) := by
  have hm : mx_mt 17 = some (yX0_readReturn, cX0_readReturn, 4, (some .boolean)) := mt_X0_readReturn
  unfold j_X0_readReturn_158 at hf
  refine mx_S.pu (pc2 := 159) (lv2 := [(0, .ref l0)]) (st2 := [.ref l0]) hm dX0_readReturn_158 rfl ?_
  replace hf := mx_sv_el hf; obtain ⟨v1, e_v1, hf⟩ := hf
  refine sx_get hm dX0_readReturn_159 rs_RX0_34 (xgr_el e_v1) ?_
  clear e_v1
  refine mx_S.pu (pc2 := 163) (lv2 := [(0, .ref l0)]) (st2 := [.ref v1, .ref v1]) hm dX0_readReturn_162 rfl ?_
  replace hf := mx_sv_el hf; obtain ⟨v2, e_v2, hf⟩ := hf
  refine sx_get hm dX0_readReturn_163 rs_RX0_138 (xgi_el e_v2) ?_
  clear e_v2
  refine sx_ic (v := 1) hm dX0_readReturn_166 (by decide) ?_
  replace hf := xl_el hf; obtain ⟨v3, e_v3, hf⟩ := hf
  refine mx_S.pu (pc2 := 168) (lv2 := [(0, .ref l0)]) (st2 := [.int v3, .ref v1]) hm dX0_readReturn_167 (by rw [← e_v3]; rfl) ?_
  clear e_v3
  replace hf := mx_sv_el hf; obtain ⟨h4, e_h4, hf⟩ := hf
  refine sx_put hm dX0_readReturn_168 rs_RX0_138 ft_9_10 ⟨rfl, rfl⟩ (fun z => by cases z) e_h4 ?_
  clear e_h4
  refine sx_ic (v := 0) hm dX0_readReturn_171 (by decide) ?_
  cases hf
  exact sx_ire hm dX0_readReturn_172 rfl (by decide)
set_option maxHeartbeats 4000000 in
set_option maxRecDepth 20000 in
theorem j_X0_readReturn_147_ok (X : Nat × (Nat → Int32)) {F L : Nat} (hF : 427 ≤ F) (hL : 12798 ≤ L) (nn : Nat) (l0 : Nat) (s0 : Int32) (s1 : Nat) (h : mx_H) {r : (Int32 × mx_H)} (hf : j_X0_readReturn_147 nn l0 s0 s1 h = some r) : mx_S X F L 17 147 [(0, .ref l0)] [.int s0, .ref s1] h 0 0 (some (.int r.1), r.2, 0, 0) := by
  have hm : mx_mt 17 = some (yX0_readReturn, cX0_readReturn, 4, (some .boolean)) := mt_X0_readReturn
  unfold j_X0_readReturn_147 at hf
  replace hf := mx_gd_el hf; obtain ⟨c5, hf⟩ := hf
  replace hf := mx_sv_el hf; obtain ⟨u6, e_u6, hf⟩ := hf
  refine sx_cv hm dX0_readReturn_147 rs_RX0_147 mt_X1_op [.int s0] [] (b := s1) (ci := 1) rfl rfl rfl c5 (Nat.le_of_ble_eq_true rfl) (Nat.le_of_ble_eq_true rfl) (by omega) (by omega) (f_X1_op_ok X (by omega) (by omega) nn s1 s0 h e_u6) ?_
  clear e_u6
  show mx_S X F L 17 150 [(0, .ref l0)] [] u6 0 0 (some (.int r.1), r.2, 0, 0)
  refine mx_S.pu (pc2 := 151) (lv2 := [(0, .ref l0)]) (st2 := [.ref l0]) hm dX0_readReturn_150 rfl ?_
  replace hf := mx_sv_el hf; obtain ⟨v7, e_v7, hf⟩ := hf
  refine sx_get hm dX0_readReturn_151 rs_RX0_16 (xgr_el e_v7) ?_
  clear e_v7
  refine sx_ic (v := 1) hm dX0_readReturn_154 (by decide) ?_
  replace hf := mx_gd_el hf; obtain ⟨c8, hf⟩ := hf
  replace hf := mx_sv_el hf; obtain ⟨u9, e_u9, hf⟩ := hf
  refine sx_cv hm dX0_readReturn_155 rs_RX0_251 mt_X1_pop [.int 1] [] (b := v7) (ci := 1) rfl rfl rfl c8 (Nat.le_of_ble_eq_true rfl) (Nat.le_of_ble_eq_true rfl) (by omega) (by omega) (f_X1_pop_ok X (by omega) (by omega) nn v7 1 u6 e_u9) ?_
  clear e_u9
  show mx_S X F L 17 158 [(0, .ref l0)] [] u9 0 0 (some (.int r.1), r.2, 0, 0)
  exact j_X0_readReturn_158_ok X hF hL nn l0 u9 hf
set_option maxHeartbeats 4000000 in
set_option maxRecDepth 20000 in
theorem j_X0_readReturn_124_ok (X : Nat × (Nat → Int32)) {F L : Nat} (hF : 427 ≤ F) (hL : 12798 ≤ L) (nn : Nat) (l0 : Nat) (h : mx_H) {r : (Int32 × mx_H)} (hf : j_X0_readReturn_124 nn l0 h = some r) : mx_S X F L 17 124 [(0, .ref l0)] [] h 0 0 (some (.int r.1), r.2, 0, 0) := by
  have hm : mx_mt 17 = some (yX0_readReturn, cX0_readReturn, 4, (some .boolean)) := mt_X0_readReturn
  unfold j_X0_readReturn_124 at hf
  refine mx_S.pu (pc2 := 125) (lv2 := [(0, .ref l0)]) (st2 := [.ref l0]) hm dX0_readReturn_124 rfl ?_
  replace hf := mx_sv_el hf; obtain ⟨v10, e_v10, hf⟩ := hf
  refine sx_get hm dX0_readReturn_125 rs_RX0_16 (xgr_el e_v10) ?_
  clear e_v10
  refine mx_S.pu (pc2 := 129) (lv2 := [(0, .ref l0)]) (st2 := [.ref l0, .ref v10]) hm dX0_readReturn_128 rfl ?_
  replace hf := mx_sv_el hf; obtain ⟨v11, e_v11, hf⟩ := hf
  refine sx_get hm dX0_readReturn_129 rs_RX0_126 (xgi_el e_v11) ?_
  clear e_v11
  replace hf := mx_sv_el hf; obtain ⟨u12, e_u12, hf⟩ := hf
  refine sx_cs hm dX0_readReturn_132 rs_RX0_248 mt_X4_isNumber [.int v11] [.ref v10] rfl rfl (Nat.le_of_ble_eq_true rfl) (Nat.le_of_ble_eq_true rfl) (by omega) (by omega) (f_X4_isNumber_ok X (by omega) (by omega) nn v11 h e_u12) ?_
  clear e_u12
  show mx_S X F L 17 135 [(0, .ref l0)] [.int u12.1, .ref v10] u12.2 0 0 (some (.int r.1), r.2, 0, 0)
  rcases mx_if_el hf with ⟨c13, hf⟩ | ⟨c13, hf⟩
  · refine sb_if_eq hm dX0_readReturn_135 (tgt := 144) rfl (fun _ => ?_) (fun z => absurd c13 z)
    refine sx_si (v := 176) hm dX0_readReturn_144 (by decide) ?_
    exact j_X0_readReturn_147_ok X hF hL nn l0 176 v10 u12.2 hf
  · refine sb_if_eq hm dX0_readReturn_135 (tgt := 144) rfl (fun z => absurd z c13) (fun _ => ?_)
    refine sx_si (v := 172) hm dX0_readReturn_138 (by decide) ?_
    refine mx_S.pu (pc2 := 147) (lv2 := [(0, .ref l0)]) (st2 := [.int 172, .ref v10]) hm dX0_readReturn_141 rfl ?_
    exact j_X0_readReturn_147_ok X hF hL nn l0 172 v10 u12.2 hf
set_option maxHeartbeats 4000000 in
set_option maxRecDepth 20000 in
theorem j_X0_readReturn_68_ok (X : Nat × (Nat → Int32)) {F L : Nat} (hF : 427 ≤ F) (hL : 12798 ≤ L) (nn : Nat) (l0 : Nat) (l1 : Int32) (l2 : Int32) (l3 : Int32) (h : mx_H) {r : (Int32 × mx_H)} (hf : j_X0_readReturn_68 nn l0 l1 l2 l3 h = some r) : mx_S X F L 17 68 [(0, .ref l0), (1, .int l1), (2, .int l2), (3, .int l3)] [] h 0 0 (some (.int r.1), r.2, 0, 0) := by
  have hm : mx_mt 17 = some (yX0_readReturn, cX0_readReturn, 4, (some .boolean)) := mt_X0_readReturn
  unfold j_X0_readReturn_68 at hf
  refine mx_S.pu (pc2 := 69) (lv2 := [(0, .ref l0), (1, .int l1), (2, .int l2), (3, .int l3)]) (st2 := [.int l3]) hm dX0_readReturn_68 rfl ?_
  rcases mx_if_el hf with ⟨c30, hf⟩ | ⟨c30, hf⟩
  · refine sb_if_eq hm dX0_readReturn_69 (tgt := 85) rfl (fun _ => ?_) (fun z => absurd c30 z)
    refine mx_S.pu (pc2 := 86) (lv2 := [(0, .ref l0), (1, .int l1), (2, .int l2), (3, .int l3)]) (st2 := [.ref l0]) hm dX0_readReturn_85 rfl ?_
    replace hf := mx_sv_el hf; obtain ⟨v14, e_v14, hf⟩ := hf
    refine sx_get hm dX0_readReturn_86 rs_RX0_61 (xgr_el e_v14) ?_
    clear e_v14
    refine mx_S.pu (pc2 := 90) (lv2 := [(0, .ref l0), (1, .int l1), (2, .int l2), (3, .int l3)]) (st2 := [.int l1, .ref v14]) hm dX0_readReturn_89 rfl ?_
    replace hf := mx_gd_el hf; obtain ⟨c15, hf⟩ := hf
    replace hf := mx_sv_el hf; obtain ⟨u16, e_u16, hf⟩ := hf
    refine sx_cv hm dX0_readReturn_90 rs_RX0_242 mt_X10_readWhole [.int l1] [] (b := v14) (ci := 10) rfl rfl rfl c15 (Nat.le_of_ble_eq_true rfl) (Nat.le_of_ble_eq_true rfl) (by omega) (by omega) (f_X10_readWhole_ok X (by omega) (by omega) nn v14 l1 h e_u16) ?_
    clear e_u16
    show mx_S X F L 17 93 [(0, .ref l0), (1, .int l1), (2, .int l2), (3, .int l3)] [] u16 0 0 (some (.int r.1), r.2, 0, 0)
    refine mx_S.pu (pc2 := 94) (lv2 := [(0, .ref l0), (1, .int l1), (2, .int l2), (3, .int l3)]) (st2 := [.ref l0]) hm dX0_readReturn_93 rfl ?_
    replace hf := mx_sv_el hf; obtain ⟨v17, e_v17, hf⟩ := hf
    refine sx_get hm dX0_readReturn_94 rs_RX0_46 (xgr_el e_v17) ?_
    clear e_v17
    refine mx_S.pu (pc2 := 98) (lv2 := [(0, .ref l0), (1, .int l1), (2, .int l2), (3, .int l3)]) (st2 := [.ref l0, .ref v17]) hm dX0_readReturn_97 rfl ?_
    replace hf := mx_sv_el hf; obtain ⟨v18, e_v18, hf⟩ := hf
    refine sx_get hm dX0_readReturn_98 rs_RX0_61 (xgr_el e_v18) ?_
    clear e_v18
    replace hf := mx_sv_el hf; obtain ⟨v19, e_v19, hf⟩ := hf
    refine sx_get hm dX0_readReturn_101 rs_RX0_245 (xgi_el e_v19) ?_
    clear e_v19
    refine mx_S.pu (pc2 := 105) (lv2 := [(0, .ref l0), (1, .int l1), (2, .int l2), (3, .int l3)]) (st2 := [.ref l0, .int v19, .ref v17]) hm dX0_readReturn_104 rfl ?_
    replace hf := mx_sv_el hf; obtain ⟨v20, e_v20, hf⟩ := hf
    refine sx_get hm dX0_readReturn_105 rs_RX0_126 (xgi_el e_v20) ?_
    clear e_v20
    replace hf := mx_gd_el hf; obtain ⟨c21, hf⟩ := hf
    replace hf := mx_sv_el hf; obtain ⟨u22, e_u22, hf⟩ := hf
    refine sx_cv hm dX0_readReturn_108 rs_RX0_222 mt_X4_fits [.int v19, .int v20] [] (b := v17) (ci := 4) rfl rfl rfl c21 (Nat.le_of_ble_eq_true rfl) (Nat.le_of_ble_eq_true rfl) (by omega) (by omega) (f_X4_fits_ok X (by omega) (by omega) nn v17 v19 v20 u16 e_u22) ?_
    clear e_u22
    show mx_S X F L 17 111 [(0, .ref l0), (1, .int l1), (2, .int l2), (3, .int l3)] [.int u22.1] u22.2 0 0 (some (.int r.1), r.2, 0, 0)
    rcases mx_if_el hf with ⟨c26, hf⟩ | ⟨c26, hf⟩
    · refine sb_if_ne hm dX0_readReturn_111 (tgt := 124) rfl (fun _ => ?_) (fun z => absurd c26 z)
      refine mx_S.ext [(0, .ref l0)] (mx_sub_pos [0] rfl (show ([0, 1, 2, 3] : List Nat).Nodup by decide)) ?_
      exact j_X0_readReturn_124_ok X hF hL nn l0 u22.2 hf
    · refine sb_if_ne hm dX0_readReturn_111 (tgt := 124) rfl (fun z => absurd z c26) (fun _ => ?_)
      refine mx_S.pu (pc2 := 115) (lv2 := [(0, .ref l0), (1, .int l1), (2, .int l2), (3, .int l3)]) (st2 := [.ref l0]) hm dX0_readReturn_114 rfl ?_
      replace hf := mx_sv_el hf; obtain ⟨v23, e_v23, hf⟩ := hf
      refine sx_get hm dX0_readReturn_115 rs_RX0_34 (xgr_el e_v23) ?_
      clear e_v23
      refine sx_bi (v := 6) hm dX0_readReturn_118 (by decide) ?_
      refine mx_S.pu (pc2 := 121) (lv2 := [(0, .ref l0), (1, .int l1), (2, .int l2), (3, .int l3)]) (st2 := [.int l2, .int 6, .ref v23]) hm dX0_readReturn_120 rfl ?_
      replace hf := mx_gd_el hf; obtain ⟨c24, hf⟩ := hf
      replace hf := mx_sv_el hf; obtain ⟨u25, e_u25, hf⟩ := hf
      refine sx_cv hm dX0_readReturn_121 rs_RX0_69 mt_X9_tell [.int 6, .int l2] [] (b := v23) (ci := 9) rfl rfl rfl c24 (Nat.le_of_ble_eq_true rfl) (Nat.le_of_ble_eq_true rfl) (by omega) (by omega) (f_X9_tell_ok X (by omega) (by omega) nn v23 6 l2 u22.2 e_u25) ?_
      clear e_u25
      show mx_S X F L 17 124 [(0, .ref l0), (1, .int l1), (2, .int l2), (3, .int l3)] [] u25 0 0 (some (.int r.1), r.2, 0, 0)
      refine mx_S.ext [(0, .ref l0)] (mx_sub_pos [0] rfl (show ([0, 1, 2, 3] : List Nat).Nodup by decide)) ?_
      exact j_X0_readReturn_124_ok X hF hL nn l0 u25 hf
  · refine sb_if_eq hm dX0_readReturn_69 (tgt := 85) rfl (fun z => absurd z c30) (fun _ => ?_)
    refine mx_S.pu (pc2 := 73) (lv2 := [(0, .ref l0), (1, .int l1), (2, .int l2), (3, .int l3)]) (st2 := [.ref l0]) hm dX0_readReturn_72 rfl ?_
    replace hf := mx_sv_el hf; obtain ⟨v27, e_v27, hf⟩ := hf
    refine sx_get hm dX0_readReturn_73 rs_RX0_16 (xgr_el e_v27) ?_
    clear e_v27
    refine sx_si (v := 177) hm dX0_readReturn_76 (by decide) ?_
    replace hf := mx_gd_el hf; obtain ⟨c28, hf⟩ := hf
    replace hf := mx_sv_el hf; obtain ⟨u29, e_u29, hf⟩ := hf
    refine sx_cv hm dX0_readReturn_79 rs_RX0_147 mt_X1_op [.int 177] [] (b := v27) (ci := 1) rfl rfl rfl c28 (Nat.le_of_ble_eq_true rfl) (Nat.le_of_ble_eq_true rfl) (by omega) (by omega) (f_X1_op_ok X (by omega) (by omega) nn v27 177 h e_u29) ?_
    clear e_u29
    show mx_S X F L 17 82 [(0, .ref l0), (1, .int l1), (2, .int l2), (3, .int l3)] [] u29 0 0 (some (.int r.1), r.2, 0, 0)
    refine mx_S.pu (pc2 := 158) (lv2 := [(0, .ref l0), (1, .int l1), (2, .int l2), (3, .int l3)]) (st2 := []) hm dX0_readReturn_82 rfl ?_
    refine mx_S.ext [(0, .ref l0)] (mx_sub_pos [0] rfl (show ([0, 1, 2, 3] : List Nat).Nodup by decide)) ?_
    exact j_X0_readReturn_158_ok X hF hL nn l0 u29 hf
set_option maxHeartbeats 4000000 in
set_option maxRecDepth 20000 in
theorem j_X0_readReturn_55_ok (X : Nat × (Nat → Int32)) {F L : Nat} (hF : 427 ≤ F) (hL : 12798 ≤ L) (nn : Nat) (l0 : Nat) (l1 : Int32) (l2 : Int32) (l3 : Int32) (s0 : Int32) (s1 : Int32) (h : mx_H) {r : (Int32 × mx_H)} (hf : j_X0_readReturn_55 nn l0 l1 l2 l3 s0 s1 h = some r) : mx_S X F L 17 55 [(0, .ref l0), (1, .int l1), (2, .int l2), (3, .int l3)] [.int s0, .int s1] h 0 0 (some (.int r.1), r.2, 0, 0) := by
  have hm : mx_mt 17 = some (yX0_readReturn, cX0_readReturn, 4, (some .boolean)) := mt_X0_readReturn
  unfold j_X0_readReturn_55 at hf
  rcases mx_if_el hf with ⟨c34, hf⟩ | ⟨c34, hf⟩
  · refine sb_ic_eq hm dX0_readReturn_55 (tgt := 68) rfl (fun _ => ?_) (fun z => absurd c34 z)
    exact j_X0_readReturn_68_ok X hF hL nn l0 l1 l2 l3 h hf
  · refine sb_ic_eq hm dX0_readReturn_55 (tgt := 68) rfl (fun z => absurd z c34) (fun _ => ?_)
    refine mx_S.pu (pc2 := 59) (lv2 := [(0, .ref l0), (1, .int l1), (2, .int l2), (3, .int l3)]) (st2 := [.ref l0]) hm dX0_readReturn_58 rfl ?_
    replace hf := mx_sv_el hf; obtain ⟨v31, e_v31, hf⟩ := hf
    refine sx_get hm dX0_readReturn_59 rs_RX0_34 (xgr_el e_v31) ?_
    clear e_v31
    refine sx_bi (v := 7) hm dX0_readReturn_62 (by decide) ?_
    refine mx_S.pu (pc2 := 65) (lv2 := [(0, .ref l0), (1, .int l1), (2, .int l2), (3, .int l3)]) (st2 := [.int l2, .int 7, .ref v31]) hm dX0_readReturn_64 rfl ?_
    replace hf := mx_gd_el hf; obtain ⟨c32, hf⟩ := hf
    replace hf := mx_sv_el hf; obtain ⟨u33, e_u33, hf⟩ := hf
    refine sx_cv hm dX0_readReturn_65 rs_RX0_69 mt_X9_tell [.int 7, .int l2] [] (b := v31) (ci := 9) rfl rfl rfl c32 (Nat.le_of_ble_eq_true rfl) (Nat.le_of_ble_eq_true rfl) (by omega) (by omega) (f_X9_tell_ok X (by omega) (by omega) nn v31 7 l2 h e_u33) ?_
    clear e_u33
    show mx_S X F L 17 68 [(0, .ref l0), (1, .int l1), (2, .int l2), (3, .int l3)] [] u33 0 0 (some (.int r.1), r.2, 0, 0)
    exact j_X0_readReturn_68_ok X hF hL nn l0 l1 l2 l3 u33 hf
set_option maxHeartbeats 4000000 in
set_option maxRecDepth 20000 in
theorem j_X0_readReturn_38_ok (X : Nat × (Nat → Int32)) {F L : Nat} (hF : 427 ≤ F) (hL : 12798 ≤ L) (nn : Nat) (l0 : Nat) (l1 : Int32) (l2 : Int32) (s0 : Int32) (h : mx_H) {r : (Int32 × mx_H)} (hf : j_X0_readReturn_38 nn l0 l1 l2 s0 h = some r) : mx_S X F L 17 38 [(0, .ref l0), (1, .int l1), (2, .int l2)] [.int s0] h 0 0 (some (.int r.1), r.2, 0, 0) := by
  have hm : mx_mt 17 = some (yX0_readReturn, cX0_readReturn, 4, (some .boolean)) := mt_X0_readReturn
  unfold j_X0_readReturn_38 at hf
  refine mx_S.pu (pc2 := 39) (lv2 := [(3, .int s0), (0, .ref l0), (1, .int l1), (2, .int l2)]) (st2 := []) hm dX0_readReturn_38 rfl ?_
  refine mx_S.pu (pc2 := 40) (lv2 := [(3, .int s0), (0, .ref l0), (1, .int l1), (2, .int l2)]) (st2 := [.int s0]) hm dX0_readReturn_39 rfl ?_
  refine mx_S.pu (pc2 := 41) (lv2 := [(3, .int s0), (0, .ref l0), (1, .int l1), (2, .int l2)]) (st2 := [.ref l0, .int s0]) hm dX0_readReturn_40 rfl ?_
  replace hf := mx_sv_el hf; obtain ⟨v35, e_v35, hf⟩ := hf
  refine sx_get hm dX0_readReturn_41 rs_RX0_126 (xgi_el e_v35) ?_
  clear e_v35
  refine sx_si (v := 303) hm dX0_readReturn_44 (by decide) ?_
  rcases mx_if_el hf with ⟨c36, hf⟩ | ⟨c36, hf⟩
  · refine sb_ic_ne hm dX0_readReturn_47 (tgt := 54) rfl (fun _ => ?_) (fun z => absurd c36 z)
    refine sx_ic (v := 0) hm dX0_readReturn_54 (by decide) ?_
    refine mx_S.ext [(0, .ref l0), (1, .int l1), (2, .int l2), (3, .int s0)] (mx_sub_pos [1, 2, 3, 0] rfl (show ([3, 0, 1, 2] : List Nat).Nodup by decide)) ?_
    exact j_X0_readReturn_55_ok X hF hL nn l0 l1 l2 s0 0 s0 h hf
  · refine sb_ic_ne hm dX0_readReturn_47 (tgt := 54) rfl (fun z => absurd z c36) (fun _ => ?_)
    refine sx_ic (v := 1) hm dX0_readReturn_50 (by decide) ?_
    refine mx_S.pu (pc2 := 55) (lv2 := [(3, .int s0), (0, .ref l0), (1, .int l1), (2, .int l2)]) (st2 := [.int 1, .int s0]) hm dX0_readReturn_51 rfl ?_
    refine mx_S.ext [(0, .ref l0), (1, .int l1), (2, .int l2), (3, .int s0)] (mx_sub_pos [1, 2, 3, 0] rfl (show ([3, 0, 1, 2] : List Nat).Nodup by decide)) ?_
    exact j_X0_readReturn_55_ok X hF hL nn l0 l1 l2 s0 1 s0 h hf
set_option maxHeartbeats 4000000 in
set_option maxRecDepth 20000 in
theorem f_X0_readReturn_ok (X : Nat × (Nat → Int32)) {F L : Nat} (hF : 427 ≤ F) (hL : 12798 ≤ L) (nn : Nat) (a0 : Nat) (a1 : Int32) (h : mx_H) {r : (Int32 × mx_H)} (hf : f_X0_readReturn nn a0 a1 h = some r) : mx_R X F L 17 [.ref a0, .int a1] h (some (.int r.1), r.2, 0, 0) := by
  have hm : mx_mt 17 = some (yX0_readReturn, cX0_readReturn, 4, (some .boolean)) := mt_X0_readReturn
  show mx_S X F L 17 0 [(0, .ref a0), (1, .int a1)] [] h 0 0 (some (.int r.1), r.2, 0, 0)
  unfold f_X0_readReturn at hf
  refine mx_S.pu (pc2 := 1) (lv2 := [(0, .ref a0), (1, .int a1)]) (st2 := [.ref a0]) hm dX0_readReturn_0 rfl ?_
  replace hf := mx_sv_el hf; obtain ⟨v37, e_v37, hf⟩ := hf
  refine sx_get hm dX0_readReturn_1 rs_RX0_34 (xgr_el e_v37) ?_
  clear e_v37
  replace hf := mx_sv_el hf; obtain ⟨v38, e_v38, hf⟩ := hf
  refine sx_get hm dX0_readReturn_4 rs_RX0_138 (xgi_el e_v38) ?_
  clear e_v38
  refine mx_S.pu (pc2 := 8) (lv2 := [(2, .int v38), (0, .ref a0), (1, .int a1)]) (st2 := []) hm dX0_readReturn_7 rfl ?_
  refine mx_S.pu (pc2 := 9) (lv2 := [(2, .int v38), (0, .ref a0), (1, .int a1)]) (st2 := [.ref a0]) hm dX0_readReturn_8 rfl ?_
  replace hf := mx_sv_el hf; obtain ⟨v39, e_v39, hf⟩ := hf
  refine sx_get hm dX0_readReturn_9 rs_RX0_34 (xgr_el e_v39) ?_
  clear e_v39
  refine mx_S.pu (pc2 := 13) (lv2 := [(2, .int v38), (0, .ref a0), (1, .int a1)]) (st2 := [.ref v39, .ref v39]) hm dX0_readReturn_12 rfl ?_
  replace hf := mx_sv_el hf; obtain ⟨v40, e_v40, hf⟩ := hf
  refine sx_get hm dX0_readReturn_13 rs_RX0_138 (xgi_el e_v40) ?_
  clear e_v40
  refine sx_ic (v := 1) hm dX0_readReturn_16 (by decide) ?_
  replace hf := xl_el hf; obtain ⟨v41, e_v41, hf⟩ := hf
  refine mx_S.pu (pc2 := 18) (lv2 := [(2, .int v38), (0, .ref a0), (1, .int a1)]) (st2 := [.int v41, .ref v39]) hm dX0_readReturn_17 (by rw [← e_v41]; rfl) ?_
  clear e_v41
  replace hf := mx_sv_el hf; obtain ⟨h42, e_h42, hf⟩ := hf
  refine sx_put hm dX0_readReturn_18 rs_RX0_138 ft_9_10 ⟨rfl, rfl⟩ (fun z => by cases z) e_h42 ?_
  clear e_h42
  refine mx_S.pu (pc2 := 22) (lv2 := [(2, .int v38), (0, .ref a0), (1, .int a1)]) (st2 := [.ref a0]) hm dX0_readReturn_21 rfl ?_
  replace hf := mx_sv_el hf; obtain ⟨v43, e_v43, hf⟩ := hf
  refine sx_get hm dX0_readReturn_22 rs_RX0_34 (xgr_el e_v43) ?_
  clear e_v43
  replace hf := mx_gd_el hf; obtain ⟨c44, hf⟩ := hf
  replace hf := mx_sv_el hf; obtain ⟨u45, e_u45, hf⟩ := hf
  refine sx_cv hm dX0_readReturn_25 rs_RX0_158 mt_X9_kind [] [] (b := v43) (ci := 9) rfl rfl rfl c44 (Nat.le_of_ble_eq_true rfl) (Nat.le_of_ble_eq_true rfl) (by omega) (by omega) (f_X9_kind_ok X (by omega) (by omega) nn v43 h42 e_u45) ?_
  clear e_u45
  show mx_S X F L 17 28 [(2, .int v38), (0, .ref a0), (1, .int a1)] [.int u45.1] u45.2 0 0 (some (.int r.1), r.2, 0, 0)
  refine sx_bi (v := 46) hm dX0_readReturn_28 (by decide) ?_
  rcases mx_if_el hf with ⟨c46, hf⟩ | ⟨c46, hf⟩
  · refine sb_ic_ne hm dX0_readReturn_30 (tgt := 37) rfl (fun _ => ?_) (fun z => absurd c46 z)
    refine sx_ic (v := 0) hm dX0_readReturn_37 (by decide) ?_
    refine mx_S.ext [(0, .ref a0), (1, .int a1), (2, .int v38)] (mx_sub_pos [1, 2, 0] rfl (show ([2, 0, 1] : List Nat).Nodup by decide)) ?_
    exact j_X0_readReturn_38_ok X hF hL nn a0 a1 v38 0 u45.2 hf
  · refine sb_ic_ne hm dX0_readReturn_30 (tgt := 37) rfl (fun z => absurd z c46) (fun _ => ?_)
    refine sx_ic (v := 1) hm dX0_readReturn_33 (by decide) ?_
    refine mx_S.pu (pc2 := 38) (lv2 := [(2, .int v38), (0, .ref a0), (1, .int a1)]) (st2 := [.int 1]) hm dX0_readReturn_34 rfl ?_
    refine mx_S.ext [(0, .ref a0), (1, .int a1), (2, .int v38)] (mx_sub_pos [1, 2, 0] rfl (show ([2, 0, 1] : List Nat).Nodup by decide)) ?_
    exact j_X0_readReturn_38_ok X hF hL nn a0 a1 v38 1 u45.2 hf
set_option maxHeartbeats 4000000 in
set_option maxRecDepth 20000 in
theorem j_X0_readThrow_57_ok (X : Nat × (Nat → Int32)) {F L : Nat} (hF : 427 ≤ F) (hL : 12798 ≤ L) (nn : Nat) (l0 : Nat) (h : mx_H) {r : (Int32 × mx_H)} (hf : j_X0_readThrow_57 nn l0 h = some r) : mx_S X F L 18 57 [(0, .ref l0)] [] h 0 0 (some (.int r.1), r.2, 0, 0) := by
  have hm : mx_mt 18 = some (yX0_readThrow, cX0_readThrow, 3, (some .boolean)) := mt_X0_readThrow
  unfold j_X0_readThrow_57 at hf
  refine mx_S.pu (pc2 := 58) (lv2 := [(0, .ref l0)]) (st2 := [.ref l0]) hm dX0_readThrow_57 rfl ?_
  replace hf := mx_sv_el hf; obtain ⟨v1, e_v1, hf⟩ := hf
  refine sx_get hm dX0_readThrow_58 rs_RX0_16 (xgr_el e_v1) ?_
  clear e_v1
  refine sx_si (v := 191) hm dX0_readThrow_61 (by decide) ?_
  replace hf := mx_gd_el hf; obtain ⟨c2, hf⟩ := hf
  replace hf := mx_sv_el hf; obtain ⟨u3, e_u3, hf⟩ := hf
  refine sx_cv hm dX0_readThrow_64 rs_RX0_147 mt_X1_op [.int 191] [] (b := v1) (ci := 1) rfl rfl rfl c2 (Nat.le_of_ble_eq_true rfl) (Nat.le_of_ble_eq_true rfl) (by omega) (by omega) (f_X1_op_ok X (by omega) (by omega) nn v1 191 h e_u3) ?_
  clear e_u3
  show mx_S X F L 18 67 [(0, .ref l0)] [] u3 0 0 (some (.int r.1), r.2, 0, 0)
  refine mx_S.pu (pc2 := 68) (lv2 := [(0, .ref l0)]) (st2 := [.ref l0]) hm dX0_readThrow_67 rfl ?_
  replace hf := mx_sv_el hf; obtain ⟨v4, e_v4, hf⟩ := hf
  refine sx_get hm dX0_readThrow_68 rs_RX0_16 (xgr_el e_v4) ?_
  clear e_v4
  refine sx_ic (v := 1) hm dX0_readThrow_71 (by decide) ?_
  replace hf := mx_gd_el hf; obtain ⟨c5, hf⟩ := hf
  replace hf := mx_sv_el hf; obtain ⟨u6, e_u6, hf⟩ := hf
  refine sx_cv hm dX0_readThrow_72 rs_RX0_251 mt_X1_pop [.int 1] [] (b := v4) (ci := 1) rfl rfl rfl c5 (Nat.le_of_ble_eq_true rfl) (Nat.le_of_ble_eq_true rfl) (by omega) (by omega) (f_X1_pop_ok X (by omega) (by omega) nn v4 1 u3 e_u6) ?_
  clear e_u6
  show mx_S X F L 18 75 [(0, .ref l0)] [] u6 0 0 (some (.int r.1), r.2, 0, 0)
  refine mx_S.pu (pc2 := 76) (lv2 := [(0, .ref l0)]) (st2 := [.ref l0]) hm dX0_readThrow_75 rfl ?_
  replace hf := mx_sv_el hf; obtain ⟨v7, e_v7, hf⟩ := hf
  refine sx_get hm dX0_readThrow_76 rs_RX0_34 (xgr_el e_v7) ?_
  clear e_v7
  refine mx_S.pu (pc2 := 80) (lv2 := [(0, .ref l0)]) (st2 := [.ref v7, .ref v7]) hm dX0_readThrow_79 rfl ?_
  replace hf := mx_sv_el hf; obtain ⟨v8, e_v8, hf⟩ := hf
  refine sx_get hm dX0_readThrow_80 rs_RX0_138 (xgi_el e_v8) ?_
  clear e_v8
  refine sx_ic (v := 1) hm dX0_readThrow_83 (by decide) ?_
  replace hf := xl_el hf; obtain ⟨v9, e_v9, hf⟩ := hf
  refine mx_S.pu (pc2 := 85) (lv2 := [(0, .ref l0)]) (st2 := [.int v9, .ref v7]) hm dX0_readThrow_84 (by rw [← e_v9]; rfl) ?_
  clear e_v9
  replace hf := mx_sv_el hf; obtain ⟨h10, e_h10, hf⟩ := hf
  refine sx_put hm dX0_readThrow_85 rs_RX0_138 ft_9_10 ⟨rfl, rfl⟩ (fun z => by cases z) e_h10 ?_
  clear e_h10
  refine sx_ic (v := 0) hm dX0_readThrow_88 (by decide) ?_
  cases hf
  exact sx_ire hm dX0_readThrow_89 rfl (by decide)
set_option maxHeartbeats 4000000 in
set_option maxRecDepth 20000 in
theorem f_X0_readThrow_ok (X : Nat × (Nat → Int32)) {F L : Nat} (hF : 427 ≤ F) (hL : 12798 ≤ L) (nn : Nat) (a0 : Nat) (a1 : Int32) (h : mx_H) {r : (Int32 × mx_H)} (hf : f_X0_readThrow nn a0 a1 h = some r) : mx_R X F L 18 [.ref a0, .int a1] h (some (.int r.1), r.2, 0, 0) := by
  have hm : mx_mt 18 = some (yX0_readThrow, cX0_readThrow, 3, (some .boolean)) := mt_X0_readThrow
  show mx_S X F L 18 0 [(0, .ref a0), (1, .int a1)] [] h 0 0 (some (.int r.1), r.2, 0, 0)
  unfold f_X0_readThrow at hf
  refine mx_S.pu (pc2 := 1) (lv2 := [(0, .ref a0), (1, .int a1)]) (st2 := [.ref a0]) hm dX0_readThrow_0 rfl ?_
  replace hf := mx_sv_el hf; obtain ⟨v11, e_v11, hf⟩ := hf
  refine sx_get hm dX0_readThrow_1 rs_RX0_34 (xgr_el e_v11) ?_
  clear e_v11
  replace hf := mx_sv_el hf; obtain ⟨v12, e_v12, hf⟩ := hf
  refine sx_get hm dX0_readThrow_4 rs_RX0_138 (xgi_el e_v12) ?_
  clear e_v12
  refine mx_S.pu (pc2 := 8) (lv2 := [(2, .int v12), (0, .ref a0), (1, .int a1)]) (st2 := []) hm dX0_readThrow_7 rfl ?_
  refine mx_S.pu (pc2 := 9) (lv2 := [(2, .int v12), (0, .ref a0), (1, .int a1)]) (st2 := [.ref a0]) hm dX0_readThrow_8 rfl ?_
  replace hf := mx_sv_el hf; obtain ⟨v13, e_v13, hf⟩ := hf
  refine sx_get hm dX0_readThrow_9 rs_RX0_34 (xgr_el e_v13) ?_
  clear e_v13
  refine mx_S.pu (pc2 := 13) (lv2 := [(2, .int v12), (0, .ref a0), (1, .int a1)]) (st2 := [.ref v13, .ref v13]) hm dX0_readThrow_12 rfl ?_
  replace hf := mx_sv_el hf; obtain ⟨v14, e_v14, hf⟩ := hf
  refine sx_get hm dX0_readThrow_13 rs_RX0_138 (xgi_el e_v14) ?_
  clear e_v14
  refine sx_ic (v := 1) hm dX0_readThrow_16 (by decide) ?_
  replace hf := xl_el hf; obtain ⟨v15, e_v15, hf⟩ := hf
  refine mx_S.pu (pc2 := 18) (lv2 := [(2, .int v12), (0, .ref a0), (1, .int a1)]) (st2 := [.int v15, .ref v13]) hm dX0_readThrow_17 (by rw [← e_v15]; rfl) ?_
  clear e_v15
  replace hf := mx_sv_el hf; obtain ⟨h16, e_h16, hf⟩ := hf
  refine sx_put hm dX0_readThrow_18 rs_RX0_138 ft_9_10 ⟨rfl, rfl⟩ (fun z => by cases z) e_h16 ?_
  clear e_h16
  refine mx_S.pu (pc2 := 22) (lv2 := [(2, .int v12), (0, .ref a0), (1, .int a1)]) (st2 := [.ref a0]) hm dX0_readThrow_21 rfl ?_
  replace hf := mx_sv_el hf; obtain ⟨v17, e_v17, hf⟩ := hf
  refine sx_get hm dX0_readThrow_22 rs_RX0_61 (xgr_el e_v17) ?_
  clear e_v17
  refine mx_S.pu (pc2 := 26) (lv2 := [(2, .int v12), (0, .ref a0), (1, .int a1)]) (st2 := [.int a1, .ref v17]) hm dX0_readThrow_25 rfl ?_
  replace hf := mx_gd_el hf; obtain ⟨c18, hf⟩ := hf
  replace hf := mx_sv_el hf; obtain ⟨u19, e_u19, hf⟩ := hf
  refine sx_cv hm dX0_readThrow_26 rs_RX0_242 mt_X10_readWhole [.int a1] [] (b := v17) (ci := 10) rfl rfl rfl c18 (Nat.le_of_ble_eq_true rfl) (Nat.le_of_ble_eq_true rfl) (by omega) (by omega) (f_X10_readWhole_ok X (by omega) (by omega) nn v17 a1 h16 e_u19) ?_
  clear e_u19
  show mx_S X F L 18 29 [(2, .int v12), (0, .ref a0), (1, .int a1)] [] u19 0 0 (some (.int r.1), r.2, 0, 0)
  refine mx_S.pu (pc2 := 30) (lv2 := [(2, .int v12), (0, .ref a0), (1, .int a1)]) (st2 := [.ref a0]) hm dX0_readThrow_29 rfl ?_
  replace hf := mx_sv_el hf; obtain ⟨v20, e_v20, hf⟩ := hf
  refine sx_get hm dX0_readThrow_30 rs_RX0_46 (xgr_el e_v20) ?_
  clear e_v20
  refine mx_S.pu (pc2 := 34) (lv2 := [(2, .int v12), (0, .ref a0), (1, .int a1)]) (st2 := [.ref a0, .ref v20]) hm dX0_readThrow_33 rfl ?_
  replace hf := mx_sv_el hf; obtain ⟨v21, e_v21, hf⟩ := hf
  refine sx_get hm dX0_readThrow_34 rs_RX0_61 (xgr_el e_v21) ?_
  clear e_v21
  replace hf := mx_sv_el hf; obtain ⟨v22, e_v22, hf⟩ := hf
  refine sx_get hm dX0_readThrow_37 rs_RX0_245 (xgi_el e_v22) ?_
  clear e_v22
  refine sx_ic (v := 1) hm dX0_readThrow_40 (by decide) ?_
  replace hf := mx_gd_el hf; obtain ⟨c23, hf⟩ := hf
  replace hf := mx_sv_el hf; obtain ⟨u24, e_u24, hf⟩ := hf
  refine sx_cv hm dX0_readThrow_41 rs_RX0_222 mt_X4_fits [.int v22, .int 1] [] (b := v20) (ci := 4) rfl rfl rfl c23 (Nat.le_of_ble_eq_true rfl) (Nat.le_of_ble_eq_true rfl) (by omega) (by omega) (f_X4_fits_ok X (by omega) (by omega) nn v20 v22 1 u19 e_u24) ?_
  clear e_u24
  show mx_S X F L 18 44 [(2, .int v12), (0, .ref a0), (1, .int a1)] [.int u24.1] u24.2 0 0 (some (.int r.1), r.2, 0, 0)
  rcases mx_if_el hf with ⟨c28, hf⟩ | ⟨c28, hf⟩
  · refine sb_if_ne hm dX0_readThrow_44 (tgt := 57) rfl (fun _ => ?_) (fun z => absurd c28 z)
    refine mx_S.ext [(0, .ref a0)] (mx_sub_pos [1] rfl (show ([2, 0, 1] : List Nat).Nodup by decide)) ?_
    exact j_X0_readThrow_57_ok X hF hL nn a0 u24.2 hf
  · refine sb_if_ne hm dX0_readThrow_44 (tgt := 57) rfl (fun z => absurd z c28) (fun _ => ?_)
    refine mx_S.pu (pc2 := 48) (lv2 := [(2, .int v12), (0, .ref a0), (1, .int a1)]) (st2 := [.ref a0]) hm dX0_readThrow_47 rfl ?_
    replace hf := mx_sv_el hf; obtain ⟨v25, e_v25, hf⟩ := hf
    refine sx_get hm dX0_readThrow_48 rs_RX0_34 (xgr_el e_v25) ?_
    clear e_v25
    refine sx_bi (v := 6) hm dX0_readThrow_51 (by decide) ?_
    refine mx_S.pu (pc2 := 54) (lv2 := [(2, .int v12), (0, .ref a0), (1, .int a1)]) (st2 := [.int v12, .int 6, .ref v25]) hm dX0_readThrow_53 rfl ?_
    replace hf := mx_gd_el hf; obtain ⟨c26, hf⟩ := hf
    replace hf := mx_sv_el hf; obtain ⟨u27, e_u27, hf⟩ := hf
    refine sx_cv hm dX0_readThrow_54 rs_RX0_69 mt_X9_tell [.int 6, .int v12] [] (b := v25) (ci := 9) rfl rfl rfl c26 (Nat.le_of_ble_eq_true rfl) (Nat.le_of_ble_eq_true rfl) (by omega) (by omega) (f_X9_tell_ok X (by omega) (by omega) nn v25 6 v12 u24.2 e_u27) ?_
    clear e_u27
    show mx_S X F L 18 57 [(2, .int v12), (0, .ref a0), (1, .int a1)] [] u27 0 0 (some (.int r.1), r.2, 0, 0)
    refine mx_S.ext [(0, .ref a0)] (mx_sub_pos [1] rfl (show ([2, 0, 1] : List Nat).Nodup by decide)) ?_
    exact j_X0_readThrow_57_ok X hF hL nn a0 u27 hf
set_option maxHeartbeats 4000000 in
set_option maxRecDepth 20000 in
theorem f_X0_checkTwice_ok (X : Nat × (Nat → Int32)) {F L : Nat} (hF : 2 ≤ F) (hL : 82 ≤ L) (nn : Nat) (a0 : Nat) (a1 : Int32) (h : mx_H) {r : mx_H} (hf : f_X0_checkTwice nn a0 a1 h = some r) : mx_R X F L 16 [.ref a0, .int a1] h (none, r, 0, 0) := by
  have hm : mx_mt 16 = some (yX0_checkTwice, cX0_checkTwice, 2, none) := mt_X0_checkTwice
  show mx_S X F L 16 0 [(0, .ref a0), (1, .int a1)] [] h 0 0 (none, r, 0, 0)
  unfold f_X0_checkTwice at hf
  refine mx_S.pu (pc2 := 1) (lv2 := [(0, .ref a0), (1, .int a1)]) (st2 := [.ref a0]) hm dX0_checkTwice_0 rfl ?_
  replace hf := mx_sv_el hf; obtain ⟨v1, e_v1, hf⟩ := hf
  refine sx_get hm dX0_checkTwice_1 rs_RX0_16 (xgr_el e_v1) ?_
  clear e_v1
  refine mx_S.pu (pc2 := 5) (lv2 := [(0, .ref a0), (1, .int a1)]) (st2 := [.ref a0, .ref v1]) hm dX0_checkTwice_4 rfl ?_
  replace hf := mx_sv_el hf; obtain ⟨v2, e_v2, hf⟩ := hf
  refine sx_get hm dX0_checkTwice_5 rs_RX0_34 (xgr_el e_v2) ?_
  clear e_v2
  refine mx_S.pu (pc2 := 9) (lv2 := [(0, .ref a0), (1, .int a1)]) (st2 := [.int a1, .ref v2, .ref v1]) hm dX0_checkTwice_8 rfl ?_
  replace hf := mx_gd_el hf; obtain ⟨c3, hf⟩ := hf
  replace hf := mx_sv_el hf; obtain ⟨u4, e_u4, hf⟩ := hf
  refine sx_cv hm dX0_checkTwice_9 rs_RX0_233 mt_X9_valueAt [.int a1] [.ref v1] (b := v2) (ci := 9) rfl rfl rfl c3 (Nat.le_of_ble_eq_true rfl) (Nat.le_of_ble_eq_true rfl) (by omega) (by omega) (f_X9_valueAt_ok X (by omega) (by omega) nn v2 a1 h e_u4) ?_
  clear e_u4
  show mx_S X F L 16 12 [(0, .ref a0), (1, .int a1)] [.int u4.1, .ref v1] u4.2 0 0 (none, r, 0, 0)
  replace hf := mx_gd_el hf; obtain ⟨c5, hf⟩ := hf
  replace hf := mx_sv_el hf; obtain ⟨u6, e_u6, hf⟩ := hf
  refine sx_cv hm dX0_checkTwice_12 rs_RX0_239 mt_X1_localOf [.int u4.1] [] (b := v1) (ci := 1) rfl rfl rfl c5 (Nat.le_of_ble_eq_true rfl) (Nat.le_of_ble_eq_true rfl) (by omega) (by omega) (f_X1_localOf_ok X (by omega) (by omega) nn v1 u4.1 u4.2 e_u6) ?_
  clear e_u6
  show mx_S X F L 16 15 [(0, .ref a0), (1, .int a1)] [.int u6.1] u6.2 0 0 (none, r, 0, 0)
  refine sx_ic (v := (-1)) hm dX0_checkTwice_15 (by decide) ?_
  rcases mx_if_el hf with ⟨c10, hf⟩ | ⟨c10, hf⟩
  · refine sb_ic_eq hm dX0_checkTwice_16 (tgt := 28) rfl (fun _ => ?_) (fun z => absurd c10 z)
    cases hf
    exact sx_ret hm dX0_checkTwice_28 rfl
  · refine sb_ic_eq hm dX0_checkTwice_16 (tgt := 28) rfl (fun z => absurd z c10) (fun _ => ?_)
    refine mx_S.pu (pc2 := 20) (lv2 := [(0, .ref a0), (1, .int a1)]) (st2 := [.ref a0]) hm dX0_checkTwice_19 rfl ?_
    replace hf := mx_sv_el hf; obtain ⟨v7, e_v7, hf⟩ := hf
    refine sx_get hm dX0_checkTwice_20 rs_RX0_34 (xgr_el e_v7) ?_
    clear e_v7
    refine sx_ic (v := 4) hm dX0_checkTwice_23 (by decide) ?_
    refine mx_S.pu (pc2 := 25) (lv2 := [(0, .ref a0), (1, .int a1)]) (st2 := [.int a1, .int 4, .ref v7]) hm dX0_checkTwice_24 rfl ?_
    replace hf := mx_gd_el hf; obtain ⟨c8, hf⟩ := hf
    replace hf := mx_sv_el hf; obtain ⟨u9, e_u9, hf⟩ := hf
    refine sx_cv hm dX0_checkTwice_25 rs_RX0_69 mt_X9_tell [.int 4, .int a1] [] (b := v7) (ci := 9) rfl rfl rfl c8 (Nat.le_of_ble_eq_true rfl) (Nat.le_of_ble_eq_true rfl) (by omega) (by omega) (f_X9_tell_ok X (by omega) (by omega) nn v7 4 a1 u6.2 e_u9) ?_
    clear e_u9
    show mx_S X F L 16 28 [(0, .ref a0), (1, .int a1)] [] u9 0 0 (none, r, 0, 0)
    cases hf
    exact sx_ret hm dX0_checkTwice_28 rfl
set_option maxHeartbeats 4000000 in
set_option maxRecDepth 20000 in
theorem j_X1_addHandler_76_ok (X : Nat × (Nat → Int32)) {F L : Nat} (hF : 2 ≤ F) (hL : 84 ≤ L) (nn : Nat) (l0 : Nat) (l3 : Int32) (h : mx_H) {r : mx_H} (hf : j_X1_addHandler_76 nn l0 l3 h = some r) : mx_S X F L 40 76 [(0, .ref l0), (3, .int l3)] [] h 0 0 (none, r, 0, 0) := by
  have hm : mx_mt 40 = some (yX1_addHandler, cX1_addHandler, 5, none) := mt_X1_addHandler
  unfold j_X1_addHandler_76 at hf
  refine mx_S.pu (pc2 := 77) (lv2 := [(0, .ref l0), (3, .int l3)]) (st2 := [.ref l0]) hm dX1_addHandler_76 rfl ?_
  refine mx_S.pu (pc2 := 78) (lv2 := [(0, .ref l0), (3, .int l3)]) (st2 := [.int l3, .ref l0]) hm dX1_addHandler_77 rfl ?_
  replace hf := mx_gd_el hf; obtain ⟨c1, hf⟩ := hf
  replace hf := mx_sv_el hf; obtain ⟨u2, e_u2, hf⟩ := hf
  refine sx_cv hm dX1_addHandler_78 rs_RX1_104 mt_X1_push [.int l3] [] (b := l0) (ci := 1) rfl rfl rfl c1 (Nat.le_of_ble_eq_true rfl) (Nat.le_of_ble_eq_true rfl) (by omega) (by omega) (f_X1_push_ok X (by omega) (by omega) nn l0 l3 h e_u2) ?_
  clear e_u2
  show mx_S X F L 40 81 [(0, .ref l0), (3, .int l3)] [] u2 0 0 (none, r, 0, 0)
  refine mx_S.pu (pc2 := 82) (lv2 := [(0, .ref l0), (3, .int l3)]) (st2 := [.ref l0]) hm dX1_addHandler_81 rfl ?_
  refine mx_S.pu (pc2 := 83) (lv2 := [(0, .ref l0), (3, .int l3)]) (st2 := [.ref l0, .ref l0]) hm dX1_addHandler_82 rfl ?_
  refine mx_S.pu (pc2 := 84) (lv2 := [(0, .ref l0), (3, .int l3)]) (st2 := [.ref l0, .ref l0, .ref l0]) hm dX1_addHandler_83 rfl ?_
  replace hf := mx_sv_el hf; obtain ⟨v3, e_v3, hf⟩ := hf
  refine sx_get hm dX1_addHandler_84 rs_RX1_39 (xgi_el e_v3) ?_
  clear e_v3
  replace hf := mx_gd_el hf; obtain ⟨c4, hf⟩ := hf
  replace hf := mx_sv_el hf; obtain ⟨u5, e_u5, hf⟩ := hf
  refine sx_cv hm dX1_addHandler_87 rs_RX1_96 mt_X1_slotOfFrame [.int v3] [.ref l0] (b := l0) (ci := 1) rfl rfl rfl c4 (Nat.le_of_ble_eq_true rfl) (Nat.le_of_ble_eq_true rfl) (by omega) (by omega) (f_X1_slotOfFrame_ok X (by omega) (by omega) nn l0 v3 u2 e_u5) ?_
  clear e_u5
  show mx_S X F L 40 90 [(0, .ref l0), (3, .int l3)] [.int u5.1, .ref l0] u5.2 0 0 (none, r, 0, 0)
  refine mx_S.pu (pc2 := 91) (lv2 := [(0, .ref l0), (3, .int l3)]) (st2 := [.ref l0, .int u5.1, .ref l0]) hm dX1_addHandler_90 rfl ?_
  replace hf := mx_sv_el hf; obtain ⟨v6, e_v6, hf⟩ := hf
  refine sx_get hm dX1_addHandler_91 rs_RX1_49 (xgi_el e_v6) ?_
  clear e_v6
  refine mx_S.pu (pc2 := 95) (lv2 := [(0, .ref l0), (3, .int l3)]) (st2 := [.ref l0, .int v6, .int u5.1, .ref l0]) hm dX1_addHandler_94 rfl ?_
  replace hf := mx_sv_el hf; obtain ⟨v7, e_v7, hf⟩ := hf
  refine sx_get hm dX1_addHandler_95 rs_RX1_43 (xgi_el e_v7) ?_
  clear e_v7
  replace hf := mx_gd_el hf; obtain ⟨c8, hf⟩ := hf
  replace hf := mx_sv_el hf; obtain ⟨u9, e_u9, hf⟩ := hf
  refine sx_cv hm dX1_addHandler_98 rs_RX1_100 mt_X1_fillFrame [.int u5.1, .int v6, .int v7] [] (b := l0) (ci := 1) rfl rfl rfl c8 (Nat.le_of_ble_eq_true rfl) (Nat.le_of_ble_eq_true rfl) (by omega) (by omega) (f_X1_fillFrame_ok X (by omega) (by omega) nn l0 u5.1 v6 v7 u5.2 e_u9) ?_
  clear e_u9
  show mx_S X F L 40 101 [(0, .ref l0), (3, .int l3)] [] u9 0 0 (none, r, 0, 0)
  cases hf
  exact sx_ret hm dX1_addHandler_101 rfl
set_option maxHeartbeats 4000000 in
set_option maxRecDepth 20000 in
theorem f_X1_addHandler_ok (X : Nat × (Nat → Int32)) {F L : Nat} (hF : 2 ≤ F) (hL : 84 ≤ L) (nn : Nat) (a0 : Nat) (a1 : Int32) (a2 : Int32) (a3 : Int32) (h : mx_H) {r : mx_H} (hf : f_X1_addHandler nn a0 a1 a2 a3 h = some r) : mx_R X F L 40 [.ref a0, .int a1, .int a2, .int a3] h (none, r, 0, 0) := by
  have hm : mx_mt 40 = some (yX1_addHandler, cX1_addHandler, 5, none) := mt_X1_addHandler
  show mx_S X F L 40 0 [(0, .ref a0), (1, .int a1), (2, .int a2), (3, .int a3)] [] h 0 0 (none, r, 0, 0)
  unfold f_X1_addHandler at hf
  refine mx_S.pu (pc2 := 1) (lv2 := [(0, .ref a0), (1, .int a1), (2, .int a2), (3, .int a3)]) (st2 := [.ref a0]) hm dX1_addHandler_0 rfl ?_
  replace hf := mx_sv_el hf; obtain ⟨v10, e_v10, hf⟩ := hf
  refine sx_get hm dX1_addHandler_1 rs_RX1_55 (xgi_el e_v10) ?_
  clear e_v10
  refine sx_bi (v := 20) hm dX1_addHandler_4 (by decide) ?_
  rcases mx_if_el hf with ⟨c29, hf⟩ | ⟨c29, hf⟩
  · refine sb_ic_lt hm dX1_addHandler_6 (tgt := 17) rfl (fun _ => ?_) (fun z => absurd c29 z)
    refine mx_S.pu (pc2 := 18) (lv2 := [(0, .ref a0), (1, .int a1), (2, .int a2), (3, .int a3)]) (st2 := [.ref a0]) hm dX1_addHandler_17 rfl ?_
    replace hf := mx_sv_el hf; obtain ⟨v11, e_v11, hf⟩ := hf
    refine sx_get hm dX1_addHandler_18 rs_RX1_55 (xgi_el e_v11) ?_
    clear e_v11
    refine sx_ic (v := 4) hm dX1_addHandler_21 (by decide) ?_
    replace hf := xl_el hf; obtain ⟨v12, e_v12, hf⟩ := hf
    refine mx_S.pu (pc2 := 23) (lv2 := [(0, .ref a0), (1, .int a1), (2, .int a2), (3, .int a3)]) (st2 := [.int v12]) hm dX1_addHandler_22 (by rw [← e_v12]; rfl) ?_
    clear e_v12
    refine mx_S.pu (pc2 := 25) (lv2 := [(4, .int v12), (0, .ref a0), (1, .int a1), (2, .int a2), (3, .int a3)]) (st2 := []) hm dX1_addHandler_23 rfl ?_
    refine mx_S.pu (pc2 := 26) (lv2 := [(4, .int v12), (0, .ref a0), (1, .int a1), (2, .int a2), (3, .int a3)]) (st2 := [.ref a0]) hm dX1_addHandler_25 rfl ?_
    replace hf := mx_sv_el hf; obtain ⟨v13, e_v13, hf⟩ := hf
    refine sx_get hm dX1_addHandler_26 rs_RX1_27 (xgr_el e_v13) ?_
    clear e_v13
    refine mx_S.pu (pc2 := 31) (lv2 := [(4, .int v12), (0, .ref a0), (1, .int a1), (2, .int a2), (3, .int a3)]) (st2 := [.int v12, .ref v13]) hm dX1_addHandler_29 rfl ?_
    refine mx_S.pu (pc2 := 32) (lv2 := [(4, .int v12), (0, .ref a0), (1, .int a1), (2, .int a2), (3, .int a3)]) (st2 := [.int a1, .int v12, .ref v13]) hm dX1_addHandler_31 rfl ?_
    replace hf := mx_sv_el hf; obtain ⟨h14, e_h14, hf⟩ := hf
    refine sx_ast hm dX1_addHandler_32 e_h14 ?_
    clear e_h14
    refine mx_S.pu (pc2 := 34) (lv2 := [(4, .int v12), (0, .ref a0), (1, .int a1), (2, .int a2), (3, .int a3)]) (st2 := [.ref a0]) hm dX1_addHandler_33 rfl ?_
    replace hf := mx_sv_el hf; obtain ⟨v15, e_v15, hf⟩ := hf
    refine sx_get hm dX1_addHandler_34 rs_RX1_27 (xgr_el e_v15) ?_
    clear e_v15
    refine mx_S.pu (pc2 := 39) (lv2 := [(4, .int v12), (0, .ref a0), (1, .int a1), (2, .int a2), (3, .int a3)]) (st2 := [.int v12, .ref v15]) hm dX1_addHandler_37 rfl ?_
    refine sx_ic (v := 1) hm dX1_addHandler_39 (by decide) ?_
    replace hf := xl_el hf; obtain ⟨v16, e_v16, hf⟩ := hf
    refine mx_S.pu (pc2 := 41) (lv2 := [(4, .int v12), (0, .ref a0), (1, .int a1), (2, .int a2), (3, .int a3)]) (st2 := [.int v16, .ref v15]) hm dX1_addHandler_40 (by rw [← e_v16]; rfl) ?_
    clear e_v16
    refine mx_S.pu (pc2 := 42) (lv2 := [(4, .int v12), (0, .ref a0), (1, .int a1), (2, .int a2), (3, .int a3)]) (st2 := [.int a2, .int v16, .ref v15]) hm dX1_addHandler_41 rfl ?_
    replace hf := mx_sv_el hf; obtain ⟨h17, e_h17, hf⟩ := hf
    refine sx_ast hm dX1_addHandler_42 e_h17 ?_
    clear e_h17
    refine mx_S.pu (pc2 := 44) (lv2 := [(4, .int v12), (0, .ref a0), (1, .int a1), (2, .int a2), (3, .int a3)]) (st2 := [.ref a0]) hm dX1_addHandler_43 rfl ?_
    replace hf := mx_sv_el hf; obtain ⟨v18, e_v18, hf⟩ := hf
    refine sx_get hm dX1_addHandler_44 rs_RX1_27 (xgr_el e_v18) ?_
    clear e_v18
    refine mx_S.pu (pc2 := 49) (lv2 := [(4, .int v12), (0, .ref a0), (1, .int a1), (2, .int a2), (3, .int a3)]) (st2 := [.int v12, .ref v18]) hm dX1_addHandler_47 rfl ?_
    refine sx_ic (v := 2) hm dX1_addHandler_49 (by decide) ?_
    replace hf := xl_el hf; obtain ⟨v19, e_v19, hf⟩ := hf
    refine mx_S.pu (pc2 := 51) (lv2 := [(4, .int v12), (0, .ref a0), (1, .int a1), (2, .int a2), (3, .int a3)]) (st2 := [.int v19, .ref v18]) hm dX1_addHandler_50 (by rw [← e_v19]; rfl) ?_
    clear e_v19
    refine mx_S.pu (pc2 := 52) (lv2 := [(4, .int v12), (0, .ref a0), (1, .int a1), (2, .int a2), (3, .int a3)]) (st2 := [.ref a0, .int v19, .ref v18]) hm dX1_addHandler_51 rfl ?_
    replace hf := mx_sv_el hf; obtain ⟨v20, e_v20, hf⟩ := hf
    refine sx_get hm dX1_addHandler_52 rs_RX1_39 (xgi_el e_v20) ?_
    clear e_v20
    replace hf := mx_sv_el hf; obtain ⟨h21, e_h21, hf⟩ := hf
    refine sx_ast hm dX1_addHandler_55 e_h21 ?_
    clear e_h21
    refine mx_S.pu (pc2 := 57) (lv2 := [(4, .int v12), (0, .ref a0), (1, .int a1), (2, .int a2), (3, .int a3)]) (st2 := [.ref a0]) hm dX1_addHandler_56 rfl ?_
    replace hf := mx_sv_el hf; obtain ⟨v22, e_v22, hf⟩ := hf
    refine sx_get hm dX1_addHandler_57 rs_RX1_27 (xgr_el e_v22) ?_
    clear e_v22
    refine mx_S.pu (pc2 := 62) (lv2 := [(4, .int v12), (0, .ref a0), (1, .int a1), (2, .int a2), (3, .int a3)]) (st2 := [.int v12, .ref v22]) hm dX1_addHandler_60 rfl ?_
    refine sx_ic (v := 3) hm dX1_addHandler_62 (by decide) ?_
    replace hf := xl_el hf; obtain ⟨v23, e_v23, hf⟩ := hf
    refine mx_S.pu (pc2 := 64) (lv2 := [(4, .int v12), (0, .ref a0), (1, .int a1), (2, .int a2), (3, .int a3)]) (st2 := [.int v23, .ref v22]) hm dX1_addHandler_63 (by rw [← e_v23]; rfl) ?_
    clear e_v23
    refine mx_S.pu (pc2 := 65) (lv2 := [(4, .int v12), (0, .ref a0), (1, .int a1), (2, .int a2), (3, .int a3)]) (st2 := [.int a3, .int v23, .ref v22]) hm dX1_addHandler_64 rfl ?_
    replace hf := mx_sv_el hf; obtain ⟨h24, e_h24, hf⟩ := hf
    refine sx_ast hm dX1_addHandler_65 e_h24 ?_
    clear e_h24
    refine mx_S.pu (pc2 := 67) (lv2 := [(4, .int v12), (0, .ref a0), (1, .int a1), (2, .int a2), (3, .int a3)]) (st2 := [.ref a0]) hm dX1_addHandler_66 rfl ?_
    refine mx_S.pu (pc2 := 68) (lv2 := [(4, .int v12), (0, .ref a0), (1, .int a1), (2, .int a2), (3, .int a3)]) (st2 := [.ref a0, .ref a0]) hm dX1_addHandler_67 rfl ?_
    replace hf := mx_sv_el hf; obtain ⟨v25, e_v25, hf⟩ := hf
    refine sx_get hm dX1_addHandler_68 rs_RX1_55 (xgi_el e_v25) ?_
    clear e_v25
    refine sx_ic (v := 1) hm dX1_addHandler_71 (by decide) ?_
    replace hf := xl_el hf; obtain ⟨v26, e_v26, hf⟩ := hf
    refine mx_S.pu (pc2 := 73) (lv2 := [(4, .int v12), (0, .ref a0), (1, .int a1), (2, .int a2), (3, .int a3)]) (st2 := [.int v26, .ref a0]) hm dX1_addHandler_72 (by rw [← e_v26]; rfl) ?_
    clear e_v26
    replace hf := mx_sv_el hf; obtain ⟨h27, e_h27, hf⟩ := hf
    refine sx_put hm dX1_addHandler_73 rs_RX1_55 ft_1_10 ⟨rfl, rfl⟩ (fun z => by cases z) e_h27 ?_
    clear e_h27
    refine mx_S.ext [(0, .ref a0), (3, .int a3)] (mx_sub_pos [1, 4] rfl (show ([4, 0, 1, 2, 3] : List Nat).Nodup by decide)) ?_
    exact j_X1_addHandler_76_ok X hF hL nn a0 a3 h27 hf
  · refine sb_ic_lt hm dX1_addHandler_6 (tgt := 17) rfl (fun z => absurd z c29) (fun _ => ?_)
    refine mx_S.pu (pc2 := 10) (lv2 := [(0, .ref a0), (1, .int a1), (2, .int a2), (3, .int a3)]) (st2 := [.ref a0]) hm dX1_addHandler_9 rfl ?_
    refine sx_ic (v := 1) hm dX1_addHandler_10 (by decide) ?_
    replace hf := mx_sv_el hf; obtain ⟨h28, e_h28, hf⟩ := hf
    refine sx_put hm dX1_addHandler_11 rs_RX1_61 ft_1_15 ⟨by decide, by decide⟩ (fun z => by cases z) e_h28 ?_
    clear e_h28
    refine mx_S.pu (pc2 := 76) (lv2 := [(0, .ref a0), (1, .int a1), (2, .int a2), (3, .int a3)]) (st2 := []) hm dX1_addHandler_14 rfl ?_
    refine mx_S.ext [(0, .ref a0), (3, .int a3)] (mx_sub_pos [0, 3] rfl (show ([0, 1, 2, 3] : List Nat).Nodup by decide)) ?_
    exact j_X1_addHandler_76_ok X hF hL nn a0 a3 h28 hf
set_option maxHeartbeats 4000000 in
set_option maxRecDepth 20000 in
theorem j_X1_addLocal_28_ok (X : Nat × (Nat → Int32)) {F L : Nat} (hF : 1 ≤ F) (hL : 60 ≤ L) (nn : Nat) (l0 : Nat) (l3 : Int32) (h : mx_H) {r : (Int32 × mx_H)} (hf : j_X1_addLocal_28 nn l0 l3 h = some r) : mx_S X F L 31 28 [(0, .ref l0), (3, .int l3)] [] h 0 0 (some (.int r.1), r.2, 0, 0) := by
  have hm : mx_mt 31 = some (yX1_addLocal, cX1_addLocal, 4, (some .int)) := mt_X1_addLocal
  unfold j_X1_addLocal_28 at hf
  refine mx_S.pu (pc2 := 29) (lv2 := [(0, .ref l0), (3, .int l3)]) (st2 := [.ref l0]) hm dX1_addLocal_28 rfl ?_
  refine mx_S.pu (pc2 := 30) (lv2 := [(0, .ref l0), (3, .int l3)]) (st2 := [.ref l0, .ref l0]) hm dX1_addLocal_29 rfl ?_
  replace hf := mx_sv_el hf; obtain ⟨v1, e_v1, hf⟩ := hf
  refine sx_get hm dX1_addLocal_30 rs_RX1_49 (xgi_el e_v1) ?_
  clear e_v1
  refine sx_ic (v := 1) hm dX1_addLocal_33 (by decide) ?_
  replace hf := xl_el hf; obtain ⟨v2, e_v2, hf⟩ := hf
  refine mx_S.pu (pc2 := 35) (lv2 := [(0, .ref l0), (3, .int l3)]) (st2 := [.int v2, .ref l0]) hm dX1_addLocal_34 (by rw [← e_v2]; rfl) ?_
  clear e_v2
  replace hf := mx_sv_el hf; obtain ⟨h3, e_h3, hf⟩ := hf
  refine sx_put hm dX1_addLocal_35 rs_RX1_49 ft_1_7 ⟨rfl, rfl⟩ (fun z => by cases z) e_h3 ?_
  clear e_h3
  refine mx_S.pu (pc2 := 39) (lv2 := [(0, .ref l0), (3, .int l3)]) (st2 := [.ref l0]) hm dX1_addLocal_38 rfl ?_
  refine mx_S.pu (pc2 := 40) (lv2 := [(0, .ref l0), (3, .int l3)]) (st2 := [.ref l0, .ref l0]) hm dX1_addLocal_39 rfl ?_
  replace hf := mx_sv_el hf; obtain ⟨v4, e_v4, hf⟩ := hf
  refine sx_get hm dX1_addLocal_40 rs_RX1_52 (xgi_el e_v4) ?_
  clear e_v4
  refine mx_S.pu (pc2 := 44) (lv2 := [(0, .ref l0), (3, .int l3)]) (st2 := [.ref l0, .int v4, .ref l0]) hm dX1_addLocal_43 rfl ?_
  replace hf := mx_sv_el hf; obtain ⟨v5, e_v5, hf⟩ := hf
  refine sx_get hm dX1_addLocal_44 rs_RX1_49 (xgi_el e_v5) ?_
  clear e_v5
  replace hf := xl_el hf; obtain ⟨v6, e_v6, hf⟩ := hf
  refine sx_max hm dX1_addLocal_47 rs_RX1_69 (by omega) (Nat.le_trans (Nat.le_of_ble_eq_true rfl : _ ≤ 60) (by omega)) ?_
  rw [e_v6]
  clear e_v6
  replace hf := mx_sv_el hf; obtain ⟨h7, e_h7, hf⟩ := hf
  refine sx_put hm dX1_addLocal_50 rs_RX1_52 ft_1_8 ⟨rfl, rfl⟩ (fun z => by cases z) e_h7 ?_
  clear e_h7
  refine mx_S.pu (pc2 := 54) (lv2 := [(0, .ref l0), (3, .int l3)]) (st2 := [.int l3]) hm dX1_addLocal_53 rfl ?_
  cases hf
  exact sx_ire hm dX1_addLocal_54 rfl rfl
