set_option maxHeartbeats 4000000 in
set_option maxRecDepth 20000 in
theorem j_X13_step_1150_ok (X : Nat × (Nat → Int32)) {F L : Nat} (hF : 13 ≤ F) (hL : 308 ≤ L) (nn : Nat) (l0 : Nat) (l3 : Int32) (h : mx_H) {r : mx_H} (hf : j_X13_step_1150 nn l0 l3 h = some r) : mx_S X F L 582 1150 [(0, .ref l0), (3, .int l3)] [] h 0 0 (none, r, 0, 0) := by
  have hm : mx_mt 582 = some (yX13_step, cX13_step, 7, none) := mt_X13_step
  unfold j_X13_step_1150 at hf
  refine mx_S.pu (pc2 := 1151) (lv2 := [(0, .ref l0), (3, .int l3)]) (st2 := [.ref l0]) hm dX13_step_1150 rfl ?_
  refine mx_S.pu (pc2 := 1152) (lv2 := [(0, .ref l0), (3, .int l3)]) (st2 := [.int l3, .ref l0]) hm dX13_step_1151 rfl ?_
  replace hf := mx_gd_el hf; obtain ⟨c1, hf⟩ := hf
  replace hf := mx_sv_el hf; obtain ⟨u2, e_u2, hf⟩ := hf
  refine sx_cv hm dX13_step_1152 rs_RX13_1116 mt_X13_on [.int l3] [] (b := l0) (ci := 13) rfl rfl rfl c1 (Nat.le_of_ble_eq_true rfl) (Nat.le_of_ble_eq_true rfl) (by omega) (by omega) (f_X13_on_ok X (by omega) (by omega) nn l0 l3 h e_u2) ?_
  clear e_u2
  show mx_S X F L 582 1155 [(0, .ref l0), (3, .int l3)] [] u2 0 0 (none, r, 0, 0)
  cases hf
  exact sx_ret hm dX13_step_1155 rfl
set_option maxHeartbeats 4000000 in
set_option maxRecDepth 20000 in
theorem j_X13_step_1122_ok (X : Nat × (Nat → Int32)) {F L : Nat} (hF : 13 ≤ F) (hL : 308 ≤ L) (nn : Nat) (l0 : Nat) (l1 : Int32) (l2 : Int32) (l3 : Int32) (h : mx_H) {r : mx_H} (hf : j_X13_step_1122 nn l0 l1 l2 l3 h = some r) : mx_S X F L 582 1122 [(0, .ref l0), (1, .int l1), (2, .int l2), (3, .int l3)] [] h 0 0 (none, r, 0, 0) := by
  have hm : mx_mt 582 = some (yX13_step, cX13_step, 7, none) := mt_X13_step
  unfold j_X13_step_1122 at hf
  refine mx_S.pu (pc2 := 1123) (lv2 := [(0, .ref l0), (1, .int l1), (2, .int l2), (3, .int l3)]) (st2 := [.ref l0]) hm dX13_step_1122 rfl ?_
  refine mx_S.pu (pc2 := 1124) (lv2 := [(0, .ref l0), (1, .int l1), (2, .int l2), (3, .int l3)]) (st2 := [.int l2, .ref l0]) hm dX13_step_1123 rfl ?_
  replace hf := mx_gd_el hf; obtain ⟨c3, hf⟩ := hf
  replace hf := mx_sv_el hf; obtain ⟨u4, e_u4, hf⟩ := hf
  refine sx_cv hm dX13_step_1124 rs_RX13_1114 mt_X13_jumps [.int l2] [] (b := l0) (ci := 13) rfl rfl rfl c3 (Nat.le_of_ble_eq_true rfl) (Nat.le_of_ble_eq_true rfl) (by omega) (by omega) (f_X13_jumps_ok X (by omega) (by omega) nn l0 l2 h e_u4) ?_
  clear e_u4
  show mx_S X F L 582 1127 [(0, .ref l0), (1, .int l1), (2, .int l2), (3, .int l3)] [.int u4.1] u4.2 0 0 (none, r, 0, 0)
  rcases mx_if_el hf with ⟨c14, hf⟩ | ⟨c14, hf⟩
  · refine sb_if_eq hm dX13_step_1127 (tgt := 1150) rfl (fun _ => ?_) (fun z => absurd c14 z)
    refine mx_S.ext [(0, .ref l0), (3, .int l3)] (mx_sub_pos [0, 3] rfl (show ([0, 1, 2, 3] : List Nat).Nodup by decide)) ?_
    exact j_X13_step_1150_ok X hF hL nn l0 l3 u4.2 hf
  · refine sb_if_eq hm dX13_step_1127 (tgt := 1150) rfl (fun z => absurd z c14) (fun _ => ?_)
    refine mx_S.pu (pc2 := 1131) (lv2 := [(0, .ref l0), (1, .int l1), (2, .int l2), (3, .int l3)]) (st2 := [.ref l0]) hm dX13_step_1130 rfl ?_
    refine mx_S.pu (pc2 := 1132) (lv2 := [(0, .ref l0), (1, .int l1), (2, .int l2), (3, .int l3)]) (st2 := [.int l1, .ref l0]) hm dX13_step_1131 rfl ?_
    refine sx_ic (v := 1) hm dX13_step_1132 (by decide) ?_
    replace hf := xl_el hf; obtain ⟨v5, e_v5, hf⟩ := hf
    refine mx_S.pu (pc2 := 1134) (lv2 := [(0, .ref l0), (1, .int l1), (2, .int l2), (3, .int l3)]) (st2 := [.int v5, .ref l0]) hm dX13_step_1133 (by rw [← e_v5]; rfl) ?_
    clear e_v5
    replace hf := mx_gd_el hf; obtain ⟨c6, hf⟩ := hf
    replace hf := mx_sv_el hf; obtain ⟨u7, e_u7, hf⟩ := hf
    refine sx_cv hm dX13_step_1134 rs_RX13_1078 mt_X13_opAt [.int v5] [] (b := l0) (ci := 13) rfl rfl rfl c6 (Nat.le_of_ble_eq_true rfl) (Nat.le_of_ble_eq_true rfl) (by omega) (by omega) (f_X13_opAt_ok X (by omega) (by omega) nn l0 v5 u4.2 e_u7) ?_
    clear e_u7
    show mx_S X F L 582 1137 [(0, .ref l0), (1, .int l1), (2, .int l2), (3, .int l3)] [.int u7.1] u7.2 0 0 (none, r, 0, 0)
    refine sx_bi (v := 8) hm dX13_step_1137 (by decide) ?_
    replace hf := xl_el hf; obtain ⟨v8, e_v8, hf⟩ := hf
    refine mx_S.pu (pc2 := 1140) (lv2 := [(0, .ref l0), (1, .int l1), (2, .int l2), (3, .int l3)]) (st2 := [.int v8]) hm dX13_step_1139 (by rw [← e_v8]; rfl) ?_
    clear e_v8
    refine mx_S.pu (pc2 := 1141) (lv2 := [(0, .ref l0), (1, .int l1), (2, .int l2), (3, .int l3)]) (st2 := [.ref l0, .int v8]) hm dX13_step_1140 rfl ?_
    refine mx_S.pu (pc2 := 1142) (lv2 := [(0, .ref l0), (1, .int l1), (2, .int l2), (3, .int l3)]) (st2 := [.int l1, .ref l0, .int v8]) hm dX13_step_1141 rfl ?_
    refine sx_ic (v := 2) hm dX13_step_1142 (by decide) ?_
    replace hf := xl_el hf; obtain ⟨v9, e_v9, hf⟩ := hf
    refine mx_S.pu (pc2 := 1144) (lv2 := [(0, .ref l0), (1, .int l1), (2, .int l2), (3, .int l3)]) (st2 := [.int v9, .ref l0, .int v8]) hm dX13_step_1143 (by rw [← e_v9]; rfl) ?_
    clear e_v9
    replace hf := mx_gd_el hf; obtain ⟨c10, hf⟩ := hf
    replace hf := mx_sv_el hf; obtain ⟨u11, e_u11, hf⟩ := hf
    refine sx_cv hm dX13_step_1144 rs_RX13_1078 mt_X13_opAt [.int v9] [.int v8] (b := l0) (ci := 13) rfl rfl rfl c10 (Nat.le_of_ble_eq_true rfl) (Nat.le_of_ble_eq_true rfl) (by omega) (by omega) (f_X13_opAt_ok X (by omega) (by omega) nn l0 v9 u7.2 e_u11) ?_
    clear e_u11
    show mx_S X F L 582 1147 [(0, .ref l0), (1, .int l1), (2, .int l2), (3, .int l3)] [.int u11.1, .int v8] u11.2 0 0 (none, r, 0, 0)
    replace hf := xl_el hf; obtain ⟨v12, e_v12, hf⟩ := hf
    refine mx_S.pu (pc2 := 1148) (lv2 := [(0, .ref l0), (1, .int l1), (2, .int l2), (3, .int l3)]) (st2 := [.int v12]) hm dX13_step_1147 (by rw [← e_v12]; rfl) ?_
    clear e_v12
    replace hf := xl_el hf; obtain ⟨v13, e_v13, hf⟩ := hf
    refine mx_S.pu (pc2 := 1149) (lv2 := [(0, .ref l0), (1, .int l1), (2, .int l2), (3, .int l3)]) (st2 := [.int v13]) hm dX13_step_1148 (by rw [← e_v13]; rfl) ?_
    clear e_v13
    refine mx_S.pu (pc2 := 1150) (lv2 := [(3, .int v13), (0, .ref l0), (1, .int l1), (2, .int l2)]) (st2 := []) hm dX13_step_1149 rfl ?_
    refine mx_S.ext [(0, .ref l0), (3, .int v13)] (mx_sub_pos [1, 0] rfl (show ([3, 0, 1, 2] : List Nat).Nodup by decide)) ?_
    exact j_X13_step_1150_ok X hF hL nn l0 v13 u11.2 hf
set_option maxHeartbeats 4000000 in
set_option maxRecDepth 20000 in
theorem j_X13_step_1111_ok (X : Nat × (Nat → Int32)) {F L : Nat} (hF : 13 ≤ F) (hL : 308 ≤ L) (nn : Nat) (l0 : Nat) (l2 : Int32) (l3 : Int32) (l4 : Int32) (h : mx_H) {r : mx_H} (hf : j_X13_step_1111 nn l0 l2 l3 l4 h = some r) : mx_S X F L 582 1111 [(0, .ref l0), (2, .int l2), (3, .int l3), (4, .int l4)] [] h 0 0 (none, r, 0, 0) := by
  have hm : mx_mt 582 = some (yX13_step, cX13_step, 7, none) := mt_X13_step
  unfold j_X13_step_1111 at hf
  refine mx_S.pu (pc2 := 1112) (lv2 := [(0, .ref l0), (2, .int l2), (3, .int l3), (4, .int l4)]) (st2 := [.ref l0]) hm dX13_step_1111 rfl ?_
  refine mx_S.pu (pc2 := 1113) (lv2 := [(0, .ref l0), (2, .int l2), (3, .int l3), (4, .int l4)]) (st2 := [.int l2, .ref l0]) hm dX13_step_1112 rfl ?_
  refine mx_S.pu (pc2 := 1115) (lv2 := [(0, .ref l0), (2, .int l2), (3, .int l3), (4, .int l4)]) (st2 := [.int l4, .int l2, .ref l0]) hm dX13_step_1113 rfl ?_
  replace hf := mx_gd_el hf; obtain ⟨c15, hf⟩ := hf
  replace hf := mx_sv_el hf; obtain ⟨u16, e_u16, hf⟩ := hf
  refine sx_cv hm dX13_step_1115 rs_RX13_1111 mt_X13_is [.int l2, .int l4] [] (b := l0) (ci := 13) rfl rfl rfl c15 (Nat.le_of_ble_eq_true rfl) (Nat.le_of_ble_eq_true rfl) (by omega) (by omega) (f_X13_is_ok X (by omega) (by omega) nn l0 l2 l4 h e_u16) ?_
  clear e_u16
  show mx_S X F L 582 1118 [(0, .ref l0), (2, .int l2), (3, .int l3), (4, .int l4)] [.int u16.1] u16.2 0 0 (none, r, 0, 0)
  rcases mx_if_el hf with ⟨c17, hf⟩ | ⟨c17, hf⟩
  · refine sb_if_ne hm dX13_step_1118 (tgt := 1150) rfl (fun _ => ?_) (fun z => absurd c17 z)
    refine mx_S.ext [(0, .ref l0), (3, .int l3)] (mx_sub_pos [0, 2] rfl (show ([0, 2, 3, 4] : List Nat).Nodup by decide)) ?_
    exact j_X13_step_1150_ok X hF hL nn l0 l3 u16.2 hf
  · refine sb_if_ne hm dX13_step_1118 (tgt := 1150) rfl (fun z => absurd z c17) (fun _ => ?_)
    cases hf
    exact sx_ret hm dX13_step_1121 rfl
set_option maxHeartbeats 4000000 in
set_option maxRecDepth 20000 in
theorem j_X13_step_1077_ok (X : Nat × (Nat → Int32)) {F L : Nat} (hF : 13 ≤ F) (hL : 308 ≤ L) (nn : Nat) (l0 : Nat) (l2 : Int32) (l4 : Int32) (h : mx_H) {r : mx_H} (hf : j_X13_step_1077 nn l0 l2 l4 h = some r) : mx_S X F L 582 1077 [(0, .ref l0), (2, .int l2), (4, .int l4)] [] h 0 0 (none, r, 0, 0) := by
  have hm : mx_mt 582 = some (yX13_step, cX13_step, 7, none) := mt_X13_step
  unfold j_X13_step_1077 at hf
  refine mx_S.pu (pc2 := 1078) (lv2 := [(0, .ref l0), (2, .int l2), (4, .int l4)]) (st2 := [.ref l0]) hm dX13_step_1077 rfl ?_
  refine mx_S.pu (pc2 := 1079) (lv2 := [(0, .ref l0), (2, .int l2), (4, .int l4)]) (st2 := [.int l2, .ref l0]) hm dX13_step_1078 rfl ?_
  refine mx_S.pu (pc2 := 1081) (lv2 := [(0, .ref l0), (2, .int l2), (4, .int l4)]) (st2 := [.int l4, .int l2, .ref l0]) hm dX13_step_1079 rfl ?_
  replace hf := mx_gd_el hf; obtain ⟨c18, hf⟩ := hf
  replace hf := mx_sv_el hf; obtain ⟨u19, e_u19, hf⟩ := hf
  refine sx_cv hm dX13_step_1081 rs_RX13_1109 mt_X13_fresh_ [.int l2, .int l4] [] (b := l0) (ci := 13) rfl rfl rfl c18 (Nat.le_of_ble_eq_true rfl) (Nat.le_of_ble_eq_true rfl) (by omega) (by omega) (f_X13_fresh__ok X (by omega) (by omega) nn l0 l2 l4 h e_u19) ?_
  clear e_u19
  show mx_S X F L 582 1084 [(0, .ref l0), (2, .int l2), (4, .int l4)] [] u19 0 0 (none, r, 0, 0)
  cases hf
  exact sx_ret hm dX13_step_1084 rfl
set_option maxHeartbeats 4000000 in
set_option maxRecDepth 20000 in
theorem j_X13_step_1064_ok (X : Nat × (Nat → Int32)) {F L : Nat} (hF : 13 ≤ F) (hL : 308 ≤ L) (nn : Nat) (l0 : Nat) (l3 : Int32) (h : mx_H) {r : mx_H} (hf : j_X13_step_1064 nn l0 l3 h = some r) : mx_S X F L 582 1064 [(0, .ref l0), (3, .int l3)] [] h 0 0 (none, r, 0, 0) := by
  have hm : mx_mt 582 = some (yX13_step, cX13_step, 7, none) := mt_X13_step
  unfold j_X13_step_1064 at hf
  refine mx_S.pu (pc2 := 1065) (lv2 := [(0, .ref l0), (3, .int l3)]) (st2 := [.ref l0]) hm dX13_step_1064 rfl ?_
  refine mx_S.pu (pc2 := 1066) (lv2 := [(0, .ref l0), (3, .int l3)]) (st2 := [.ref l0, .ref l0]) hm dX13_step_1065 rfl ?_
  replace hf := mx_sv_el hf; obtain ⟨v20, e_v20, hf⟩ := hf
  refine sx_get hm dX13_step_1066 rs_RX13_1055 (xgi_el e_v20) ?_
  clear e_v20
  refine sx_ic (v := 1) hm dX13_step_1069 (by decide) ?_
  replace hf := xl_el hf; obtain ⟨v21, e_v21, hf⟩ := hf
  refine mx_S.pu (pc2 := 1071) (lv2 := [(0, .ref l0), (3, .int l3)]) (st2 := [.int v21, .ref l0]) hm dX13_step_1070 (by rw [← e_v21]; rfl) ?_
  clear e_v21
  replace hf := mx_sv_el hf; obtain ⟨h22, e_h22, hf⟩ := hf
  refine sx_put hm dX13_step_1071 rs_RX13_1055 ft_13_143 ⟨rfl, rfl⟩ (fun z => by cases z) e_h22 ?_
  clear e_h22
  refine mx_S.pu (pc2 := 1150) (lv2 := [(0, .ref l0), (3, .int l3)]) (st2 := []) hm dX13_step_1074 rfl ?_
  exact j_X13_step_1150_ok X hF hL nn l0 l3 h22 hf
set_option maxHeartbeats 4000000 in
set_option maxRecDepth 20000 in
theorem j_X13_step_1029_ok (X : Nat × (Nat → Int32)) {F L : Nat} (hF : 13 ≤ F) (hL : 308 ≤ L) (nn : Nat) (l0 : Nat) (l2 : Int32) (l4 : Int32) (h : mx_H) {r : mx_H} (hf : j_X13_step_1029 nn l0 l2 l4 h = some r) : mx_S X F L 582 1029 [(0, .ref l0), (2, .int l2), (4, .int l4)] [] h 0 0 (none, r, 0, 0) := by
  have hm : mx_mt 582 = some (yX13_step, cX13_step, 7, none) := mt_X13_step
  unfold j_X13_step_1029 at hf
  refine mx_S.pu (pc2 := 1030) (lv2 := [(0, .ref l0), (2, .int l2), (4, .int l4)]) (st2 := [.ref l0]) hm dX13_step_1029 rfl ?_
  refine mx_S.pu (pc2 := 1031) (lv2 := [(0, .ref l0), (2, .int l2), (4, .int l4)]) (st2 := [.int l2, .ref l0]) hm dX13_step_1030 rfl ?_
  refine mx_S.pu (pc2 := 1033) (lv2 := [(0, .ref l0), (2, .int l2), (4, .int l4)]) (st2 := [.int l4, .int l2, .ref l0]) hm dX13_step_1031 rfl ?_
  replace hf := mx_gd_el hf; obtain ⟨c23, hf⟩ := hf
  replace hf := mx_sv_el hf; obtain ⟨u24, e_u24, hf⟩ := hf
  refine sx_cv hm dX13_step_1033 rs_RX13_1106 mt_X13_call [.int l2, .int l4] [] (b := l0) (ci := 13) rfl rfl rfl c23 (Nat.le_of_ble_eq_true rfl) (Nat.le_of_ble_eq_true rfl) (by omega) (by omega) (f_X13_call_ok X (by omega) (by omega) nn l0 l2 l4 h e_u24) ?_
  clear e_u24
  show mx_S X F L 582 1036 [(0, .ref l0), (2, .int l2), (4, .int l4)] [] u24 0 0 (none, r, 0, 0)
  cases hf
  exact sx_ret hm dX13_step_1036 rfl
set_option maxHeartbeats 4000000 in
set_option maxRecDepth 20000 in
theorem j_X13_step_1020_ok (X : Nat × (Nat → Int32)) {F L : Nat} (hF : 13 ≤ F) (hL : 308 ≤ L) (nn : Nat) (l0 : Nat) (l2 : Int32) (l3 : Int32) (l4 : Int32) (h : mx_H) {r : mx_H} (hf : j_X13_step_1020 nn l0 l2 l3 l4 h = some r) : mx_S X F L 582 1020 [(0, .ref l0), (2, .int l2), (3, .int l3), (4, .int l4)] [] h 0 0 (none, r, 0, 0) := by
  have hm : mx_mt 582 = some (yX13_step, cX13_step, 7, none) := mt_X13_step
  unfold j_X13_step_1020 at hf
  refine mx_S.pu (pc2 := 1021) (lv2 := [(0, .ref l0), (2, .int l2), (3, .int l3), (4, .int l4)]) (st2 := [.ref l0]) hm dX13_step_1020 rfl ?_
  refine mx_S.pu (pc2 := 1022) (lv2 := [(0, .ref l0), (2, .int l2), (3, .int l3), (4, .int l4)]) (st2 := [.int l2, .ref l0]) hm dX13_step_1021 rfl ?_
  refine mx_S.pu (pc2 := 1024) (lv2 := [(0, .ref l0), (2, .int l2), (3, .int l3), (4, .int l4)]) (st2 := [.int l4, .int l2, .ref l0]) hm dX13_step_1022 rfl ?_
  refine mx_S.pu (pc2 := 1025) (lv2 := [(0, .ref l0), (2, .int l2), (3, .int l3), (4, .int l4)]) (st2 := [.int l3, .int l4, .int l2, .ref l0]) hm dX13_step_1024 rfl ?_
  replace hf := mx_gd_el hf; obtain ⟨c25, hf⟩ := hf
  replace hf := mx_sv_el hf; obtain ⟨u26, e_u26, hf⟩ := hf
  refine sx_cv hm dX13_step_1025 rs_RX13_1102 mt_X13_fieldOf [.int l2, .int l4, .int l3] [] (b := l0) (ci := 13) rfl rfl rfl c25 (Nat.le_of_ble_eq_true rfl) (Nat.le_of_ble_eq_true rfl) (by omega) (by omega) (f_X13_fieldOf_ok X (by omega) (by omega) nn l0 l2 l4 l3 h e_u26) ?_
  clear e_u26
  show mx_S X F L 582 1028 [(0, .ref l0), (2, .int l2), (3, .int l3), (4, .int l4)] [] u26 0 0 (none, r, 0, 0)
  cases hf
  exact sx_ret hm dX13_step_1028 rfl
set_option maxHeartbeats 4000000 in
set_option maxRecDepth 20000 in
theorem j_X13_step_1014_ok (X : Nat × (Nat → Int32)) {F L : Nat} (hF : 13 ≤ F) (hL : 308 ≤ L) (nn : Nat) (l0 : Nat) (l2 : Int32) (h : mx_H) {r : mx_H} (hf : j_X13_step_1014 nn l0 l2 h = some r) : mx_S X F L 582 1014 [(0, .ref l0), (2, .int l2)] [] h 0 0 (none, r, 0, 0) := by
  have hm : mx_mt 582 = some (yX13_step, cX13_step, 7, none) := mt_X13_step
  unfold j_X13_step_1014 at hf
  refine mx_S.pu (pc2 := 1015) (lv2 := [(0, .ref l0), (2, .int l2)]) (st2 := [.ref l0]) hm dX13_step_1014 rfl ?_
  refine mx_S.pu (pc2 := 1016) (lv2 := [(0, .ref l0), (2, .int l2)]) (st2 := [.int l2, .ref l0]) hm dX13_step_1015 rfl ?_
  replace hf := mx_gd_el hf; obtain ⟨c27, hf⟩ := hf
  replace hf := mx_sv_el hf; obtain ⟨u28, e_u28, hf⟩ := hf
  refine sx_cv hm dX13_step_1016 rs_RX13_1099 mt_X13_back [.int l2] [] (b := l0) (ci := 13) rfl rfl rfl c27 (Nat.le_of_ble_eq_true rfl) (Nat.le_of_ble_eq_true rfl) (by omega) (by omega) (f_X13_back_ok X (by omega) (by omega) nn l0 l2 h e_u28) ?_
  clear e_u28
  show mx_S X F L 582 1019 [(0, .ref l0), (2, .int l2)] [] u28 0 0 (none, r, 0, 0)
  cases hf
  exact sx_ret hm dX13_step_1019 rfl
set_option maxHeartbeats 4000000 in
set_option maxRecDepth 20000 in
theorem j_X13_step_999_ok (X : Nat × (Nat → Int32)) {F L : Nat} (hF : 13 ≤ F) (hL : 308 ≤ L) (nn : Nat) (l0 : Nat) (l2 : Int32) (l3 : Int32) (l5 : Int32) (l6 : Int32) (h : mx_H) {r : mx_H} (hf : j_X13_step_999 nn l0 l2 l3 l5 l6 h = some r) : mx_S X F L 582 999 [(0, .ref l0), (2, .int l2), (3, .int l3), (5, .int l5), (6, .int l6)] [] h 0 0 (none, r, 0, 0) := by
  have hm : mx_mt 582 = some (yX13_step, cX13_step, 7, none) := mt_X13_step
  unfold j_X13_step_999 at hf
  refine mx_S.pu (pc2 := 1000) (lv2 := [(0, .ref l0), (2, .int l2), (3, .int l3), (5, .int l5), (6, .int l6)]) (st2 := [.ref l0]) hm dX13_step_999 rfl ?_
  refine mx_S.pu (pc2 := 1001) (lv2 := [(0, .ref l0), (2, .int l2), (3, .int l3), (5, .int l5), (6, .int l6)]) (st2 := [.int l2, .ref l0]) hm dX13_step_1000 rfl ?_
  refine mx_S.pu (pc2 := 1003) (lv2 := [(0, .ref l0), (2, .int l2), (3, .int l3), (5, .int l5), (6, .int l6)]) (st2 := [.int l5, .int l2, .ref l0]) hm dX13_step_1001 rfl ?_
  refine mx_S.pu (pc2 := 1005) (lv2 := [(0, .ref l0), (2, .int l2), (3, .int l3), (5, .int l5), (6, .int l6)]) (st2 := [.int l6, .int l5, .int l2, .ref l0]) hm dX13_step_1003 rfl ?_
  replace hf := mx_sv_el hf; obtain ⟨u29, e_u29, hf⟩ := hf
  refine sx_cs hm dX13_step_1005 rs_RX13_1096 mt_X13_reckon [.int l2, .int l5, .int l6] [.ref l0] rfl rfl (Nat.le_of_ble_eq_true rfl) (Nat.le_of_ble_eq_true rfl) (by omega) (by omega) (f_X13_reckon_ok X (by omega) (by omega) nn l2 l5 l6 h e_u29) ?_
  clear e_u29
  show mx_S X F L 582 1008 [(0, .ref l0), (2, .int l2), (3, .int l3), (5, .int l5), (6, .int l6)] [.int u29.1, .ref l0] u29.2 0 0 (none, r, 0, 0)
  replace hf := mx_gd_el hf; obtain ⟨c30, hf⟩ := hf
  replace hf := mx_sv_el hf; obtain ⟨u31, e_u31, hf⟩ := hf
  refine sx_cv hm dX13_step_1008 rs_RX13_1072 mt_X13_give [.int u29.1] [] (b := l0) (ci := 13) rfl rfl rfl c30 (Nat.le_of_ble_eq_true rfl) (Nat.le_of_ble_eq_true rfl) (by omega) (by omega) (f_X13_give_ok X (by omega) (by omega) nn l0 u29.1 u29.2 e_u31) ?_
  clear e_u31
  show mx_S X F L 582 1011 [(0, .ref l0), (2, .int l2), (3, .int l3), (5, .int l5), (6, .int l6)] [] u31 0 0 (none, r, 0, 0)
  refine mx_S.pu (pc2 := 1150) (lv2 := [(0, .ref l0), (2, .int l2), (3, .int l3), (5, .int l5), (6, .int l6)]) (st2 := []) hm dX13_step_1011 rfl ?_
  refine mx_S.ext [(0, .ref l0), (3, .int l3)] (mx_sub_pos [0, 2] rfl (show ([0, 2, 3, 5, 6] : List Nat).Nodup by decide)) ?_
  exact j_X13_step_1150_ok X hF hL nn l0 l3 u31 hf
set_option maxHeartbeats 4000000 in
set_option maxRecDepth 20000 in
theorem j_X13_step_993_ok (X : Nat × (Nat → Int32)) {F L : Nat} (hF : 13 ≤ F) (hL : 308 ≤ L) (nn : Nat) (l0 : Nat) (h : mx_H) {r : mx_H} (hf : j_X13_step_993 nn l0 h = some r) : mx_S X F L 582 993 [(0, .ref l0)] [] h 0 0 (none, r, 0, 0) := by
  have hm : mx_mt 582 = some (yX13_step, cX13_step, 7, none) := mt_X13_step
  unfold j_X13_step_993 at hf
  refine mx_S.pu (pc2 := 994) (lv2 := [(0, .ref l0)]) (st2 := [.ref l0]) hm dX13_step_993 rfl ?_
  refine sx_ic (v := 4) hm dX13_step_994 (by decide) ?_
  replace hf := mx_gd_el hf; obtain ⟨c32, hf⟩ := hf
  replace hf := mx_sv_el hf; obtain ⟨u33, e_u33, hf⟩ := hf
  refine sx_cv hm dX13_step_995 rs_RX13_1093 mt_X13_fails [.int 4] [] (b := l0) (ci := 13) rfl rfl rfl c32 (Nat.le_of_ble_eq_true rfl) (Nat.le_of_ble_eq_true rfl) (by omega) (by omega) (f_X13_fails_ok X (by omega) (by omega) nn l0 4 h e_u33) ?_
  clear e_u33
  show mx_S X F L 582 998 [(0, .ref l0)] [] u33 0 0 (none, r, 0, 0)
  cases hf
  exact sx_ret hm dX13_step_998 rfl
set_option maxHeartbeats 4000000 in
set_option maxRecDepth 20000 in
theorem j_X13_step_964_ok (X : Nat × (Nat → Int32)) {F L : Nat} (hF : 13 ≤ F) (hL : 308 ≤ L) (nn : Nat) (l0 : Nat) (l2 : Int32) (l3 : Int32) (h : mx_H) {r : mx_H} (hf : j_X13_step_964 nn l0 l2 l3 h = some r) : mx_S X F L 582 964 [(0, .ref l0), (2, .int l2), (3, .int l3)] [] h 0 0 (none, r, 0, 0) := by
  have hm : mx_mt 582 = some (yX13_step, cX13_step, 7, none) := mt_X13_step
  unfold j_X13_step_964 at hf
  refine mx_S.pu (pc2 := 965) (lv2 := [(0, .ref l0), (2, .int l2), (3, .int l3)]) (st2 := [.ref l0]) hm dX13_step_964 rfl ?_
  replace hf := mx_gd_el hf; obtain ⟨c34, hf⟩ := hf
  replace hf := mx_sv_el hf; obtain ⟨u35, e_u35, hf⟩ := hf
  refine sx_cv hm dX13_step_965 rs_RX13_1087 mt_X13_drop [] [] (b := l0) (ci := 13) rfl rfl rfl c34 (Nat.le_of_ble_eq_true rfl) (Nat.le_of_ble_eq_true rfl) (by omega) (by omega) (f_X13_drop_ok X (by omega) (by omega) nn l0 h e_u35) ?_
  clear e_u35
  show mx_S X F L 582 968 [(0, .ref l0), (2, .int l2), (3, .int l3)] [.int u35.1] u35.2 0 0 (none, r, 0, 0)
  refine mx_S.pu (pc2 := 970) (lv2 := [(6, .int u35.1), (0, .ref l0), (2, .int l2), (3, .int l3)]) (st2 := []) hm dX13_step_968 rfl ?_
  refine mx_S.pu (pc2 := 971) (lv2 := [(6, .int u35.1), (0, .ref l0), (2, .int l2), (3, .int l3)]) (st2 := [.ref l0]) hm dX13_step_970 rfl ?_
  replace hf := mx_gd_el hf; obtain ⟨c36, hf⟩ := hf
  replace hf := mx_sv_el hf; obtain ⟨u37, e_u37, hf⟩ := hf
  refine sx_cv hm dX13_step_971 rs_RX13_1087 mt_X13_drop [] [] (b := l0) (ci := 13) rfl rfl rfl c36 (Nat.le_of_ble_eq_true rfl) (Nat.le_of_ble_eq_true rfl) (by omega) (by omega) (f_X13_drop_ok X (by omega) (by omega) nn l0 u35.2 e_u37) ?_
  clear e_u37
  show mx_S X F L 582 974 [(6, .int u35.1), (0, .ref l0), (2, .int l2), (3, .int l3)] [.int u37.1] u37.2 0 0 (none, r, 0, 0)
  refine mx_S.pu (pc2 := 976) (lv2 := [(5, .int u37.1), (6, .int u35.1), (0, .ref l0), (2, .int l2), (3, .int l3)]) (st2 := []) hm dX13_step_974 rfl ?_
  refine mx_S.pu (pc2 := 978) (lv2 := [(5, .int u37.1), (6, .int u35.1), (0, .ref l0), (2, .int l2), (3, .int l3)]) (st2 := [.int u35.1]) hm dX13_step_976 rfl ?_
  rcases mx_if_el hf with ⟨c40, hf⟩ | ⟨c40, hf⟩
  · refine sb_if_ne hm dX13_step_978 (tgt := 999) rfl (fun _ => ?_) (fun z => absurd c40 z)
    refine mx_S.ext [(0, .ref l0), (2, .int l2), (3, .int l3), (5, .int u37.1), (6, .int u35.1)] (mx_sub_pos [2, 3, 4, 0, 1] rfl (show ([5, 6, 0, 2, 3] : List Nat).Nodup by decide)) ?_
    exact j_X13_step_999_ok X hF hL nn l0 l2 l3 u37.1 u35.1 u37.2 hf
  · refine sb_if_ne hm dX13_step_978 (tgt := 999) rfl (fun z => absurd z c40) (fun _ => ?_)
    refine mx_S.pu (pc2 := 982) (lv2 := [(5, .int u37.1), (6, .int u35.1), (0, .ref l0), (2, .int l2), (3, .int l3)]) (st2 := [.int l2]) hm dX13_step_981 rfl ?_
    refine sx_bi (v := 108) hm dX13_step_982 (by decide) ?_
    rcases mx_if_el hf with ⟨c39, hf⟩ | ⟨c39, hf⟩
    · refine sb_ic_eq hm dX13_step_984 (tgt := 993) rfl (fun _ => ?_) (fun z => absurd c39 z)
      refine mx_S.ext [(0, .ref l0)] (mx_sub_pos [2] rfl (show ([5, 6, 0, 2, 3] : List Nat).Nodup by decide)) ?_
      exact j_X13_step_993_ok X hF hL nn l0 u37.2 hf
    · refine sb_ic_eq hm dX13_step_984 (tgt := 993) rfl (fun z => absurd z c39) (fun _ => ?_)
      refine mx_S.pu (pc2 := 988) (lv2 := [(5, .int u37.1), (6, .int u35.1), (0, .ref l0), (2, .int l2), (3, .int l3)]) (st2 := [.int l2]) hm dX13_step_987 rfl ?_
      refine sx_bi (v := 112) hm dX13_step_988 (by decide) ?_
      rcases mx_if_el hf with ⟨c38, hf⟩ | ⟨c38, hf⟩
      · refine sb_ic_ne hm dX13_step_990 (tgt := 999) rfl (fun _ => ?_) (fun z => absurd c38 z)
        refine mx_S.ext [(0, .ref l0), (2, .int l2), (3, .int l3), (5, .int u37.1), (6, .int u35.1)] (mx_sub_pos [2, 3, 4, 0, 1] rfl (show ([5, 6, 0, 2, 3] : List Nat).Nodup by decide)) ?_
        exact j_X13_step_999_ok X hF hL nn l0 l2 l3 u37.1 u35.1 u37.2 hf
      · refine sb_ic_ne hm dX13_step_990 (tgt := 999) rfl (fun z => absurd z c38) (fun _ => ?_)
        refine mx_S.ext [(0, .ref l0)] (mx_sub_pos [2] rfl (show ([5, 6, 0, 2, 3] : List Nat).Nodup by decide)) ?_
        exact j_X13_step_993_ok X hF hL nn l0 u37.2 hf
set_option maxHeartbeats 4000000 in
set_option maxRecDepth 20000 in
theorem j_X13_step_958_ok (X : Nat × (Nat → Int32)) {F L : Nat} (hF : 13 ≤ F) (hL : 308 ≤ L) (nn : Nat) (l0 : Nat) (l2 : Int32) (h : mx_H) {r : mx_H} (hf : j_X13_step_958 nn l0 l2 h = some r) : mx_S X F L 582 958 [(0, .ref l0), (2, .int l2)] [] h 0 0 (none, r, 0, 0) := by
  have hm : mx_mt 582 = some (yX13_step, cX13_step, 7, none) := mt_X13_step
  unfold j_X13_step_958 at hf
  refine mx_S.pu (pc2 := 959) (lv2 := [(0, .ref l0), (2, .int l2)]) (st2 := [.ref l0]) hm dX13_step_958 rfl ?_
  refine mx_S.pu (pc2 := 960) (lv2 := [(0, .ref l0), (2, .int l2)]) (st2 := [.int l2, .ref l0]) hm dX13_step_959 rfl ?_
  replace hf := mx_gd_el hf; obtain ⟨c41, hf⟩ := hf
  replace hf := mx_sv_el hf; obtain ⟨u42, e_u42, hf⟩ := hf
  refine sx_cv hm dX13_step_960 rs_RX13_1090 mt_X13_element [.int l2] [] (b := l0) (ci := 13) rfl rfl rfl c41 (Nat.le_of_ble_eq_true rfl) (Nat.le_of_ble_eq_true rfl) (by omega) (by omega) (f_X13_element_ok X (by omega) (by omega) nn l0 l2 h e_u42) ?_
  clear e_u42
  show mx_S X F L 582 963 [(0, .ref l0), (2, .int l2)] [] u42 0 0 (none, r, 0, 0)
  cases hf
  exact sx_ret hm dX13_step_963 rfl
set_option maxHeartbeats 4000000 in
set_option maxRecDepth 20000 in
theorem j_X13_step_889_ok (X : Nat × (Nat → Int32)) {F L : Nat} (hF : 13 ≤ F) (hL : 308 ≤ L) (nn : Nat) (l0 : Nat) (l3 : Int32) (l4 : Int32) (h : mx_H) {r : mx_H} (hf : j_X13_step_889 nn l0 l3 l4 h = some r) : mx_S X F L 582 889 [(0, .ref l0), (3, .int l3), (4, .int l4)] [] h 0 0 (none, r, 0, 0) := by
  have hm : mx_mt 582 = some (yX13_step, cX13_step, 7, none) := mt_X13_step
  unfold j_X13_step_889 at hf
  refine mx_S.pu (pc2 := 890) (lv2 := [(0, .ref l0), (3, .int l3), (4, .int l4)]) (st2 := [.ref l0]) hm dX13_step_889 rfl ?_
  replace hf := mx_gd_el hf; obtain ⟨c43, hf⟩ := hf
  replace hf := mx_sv_el hf; obtain ⟨u44, e_u44, hf⟩ := hf
  refine sx_cv hm dX13_step_890 rs_RX13_1087 mt_X13_drop [] [] (b := l0) (ci := 13) rfl rfl rfl c43 (Nat.le_of_ble_eq_true rfl) (Nat.le_of_ble_eq_true rfl) (by omega) (by omega) (f_X13_drop_ok X (by omega) (by omega) nn l0 h e_u44) ?_
  clear e_u44
  show mx_S X F L 582 893 [(0, .ref l0), (3, .int l3), (4, .int l4)] [.int u44.1] u44.2 0 0 (none, r, 0, 0)
  refine mx_S.pu (pc2 := 895) (lv2 := [(5, .int u44.1), (0, .ref l0), (3, .int l3), (4, .int l4)]) (st2 := []) hm dX13_step_893 rfl ?_
  refine mx_S.pu (pc2 := 896) (lv2 := [(5, .int u44.1), (0, .ref l0), (3, .int l3), (4, .int l4)]) (st2 := [.ref l0]) hm dX13_step_895 rfl ?_
  replace hf := mx_sv_el hf; obtain ⟨v45, e_v45, hf⟩ := hf
  refine sx_get hm dX13_step_896 rs_RX13_306 (xgr_el e_v45) ?_
  clear e_v45
  refine sx_bi (v := 60) hm dX13_step_899 (by decide) ?_
  refine mx_S.pu (pc2 := 902) (lv2 := [(5, .int u44.1), (0, .ref l0), (3, .int l3), (4, .int l4)]) (st2 := [.ref l0, .int 60, .ref v45]) hm dX13_step_901 rfl ?_
  replace hf := mx_sv_el hf; obtain ⟨v46, e_v46, hf⟩ := hf
  refine sx_get hm dX13_step_902 rs_RX13_1058 (xgi_el e_v46) ?_
  clear e_v46
  refine sx_ic (v := 1) hm dX13_step_905 (by decide) ?_
  replace hf := xl_el hf; obtain ⟨v47, e_v47, hf⟩ := hf
  refine mx_S.pu (pc2 := 907) (lv2 := [(5, .int u44.1), (0, .ref l0), (3, .int l3), (4, .int l4)]) (st2 := [.int v47, .int 60, .ref v45]) hm dX13_step_906 (by rw [← e_v47]; rfl) ?_
  clear e_v47
  replace hf := xl_el hf; obtain ⟨v48, e_v48, hf⟩ := hf
  refine mx_S.pu (pc2 := 908) (lv2 := [(5, .int u44.1), (0, .ref l0), (3, .int l3), (4, .int l4)]) (st2 := [.int v48, .ref v45]) hm dX13_step_907 (by rw [← e_v48]; rfl) ?_
  clear e_v48
  refine mx_S.pu (pc2 := 910) (lv2 := [(5, .int u44.1), (0, .ref l0), (3, .int l3), (4, .int l4)]) (st2 := [.int l4, .int v48, .ref v45]) hm dX13_step_908 rfl ?_
  replace hf := xl_el hf; obtain ⟨v49, e_v49, hf⟩ := hf
  refine mx_S.pu (pc2 := 911) (lv2 := [(5, .int u44.1), (0, .ref l0), (3, .int l3), (4, .int l4)]) (st2 := [.int v49, .ref v45]) hm dX13_step_910 (by rw [← e_v49]; rfl) ?_
  clear e_v49
  refine mx_S.pu (pc2 := 913) (lv2 := [(5, .int u44.1), (0, .ref l0), (3, .int l3), (4, .int l4)]) (st2 := [.int u44.1, .int v49, .ref v45]) hm dX13_step_911 rfl ?_
  replace hf := mx_sv_el hf; obtain ⟨h50, e_h50, hf⟩ := hf
  refine sx_ast hm dX13_step_913 e_h50 ?_
  clear e_h50
  refine mx_S.pu (pc2 := 1150) (lv2 := [(5, .int u44.1), (0, .ref l0), (3, .int l3), (4, .int l4)]) (st2 := []) hm dX13_step_914 rfl ?_
  refine mx_S.ext [(0, .ref l0), (3, .int l3)] (mx_sub_pos [1, 2] rfl (show ([5, 0, 3, 4] : List Nat).Nodup by decide)) ?_
  exact j_X13_step_1150_ok X hF hL nn l0 l3 h50 hf
set_option maxHeartbeats 4000000 in
set_option maxRecDepth 20000 in
theorem j_X13_step_876_ok (X : Nat × (Nat → Int32)) {F L : Nat} (hF : 13 ≤ F) (hL : 308 ≤ L) (nn : Nat) (l0 : Nat) (l3 : Int32) (l4 : Int32) (h : mx_H) {r : mx_H} (hf : j_X13_step_876 nn l0 l3 l4 h = some r) : mx_S X F L 582 876 [(0, .ref l0), (3, .int l3), (4, .int l4)] [] h 0 0 (none, r, 0, 0) := by
  have hm : mx_mt 582 = some (yX13_step, cX13_step, 7, none) := mt_X13_step
  unfold j_X13_step_876 at hf
  refine mx_S.pu (pc2 := 877) (lv2 := [(0, .ref l0), (3, .int l3), (4, .int l4)]) (st2 := [.ref l0]) hm dX13_step_876 rfl ?_
  refine mx_S.pu (pc2 := 878) (lv2 := [(0, .ref l0), (3, .int l3), (4, .int l4)]) (st2 := [.ref l0, .ref l0]) hm dX13_step_877 rfl ?_
  refine mx_S.pu (pc2 := 880) (lv2 := [(0, .ref l0), (3, .int l3), (4, .int l4)]) (st2 := [.int l4, .ref l0, .ref l0]) hm dX13_step_878 rfl ?_
  replace hf := mx_gd_el hf; obtain ⟨c51, hf⟩ := hf
  replace hf := mx_sv_el hf; obtain ⟨u52, e_u52, hf⟩ := hf
  refine sx_cv hm dX13_step_880 rs_RX13_1084 mt_X13_cell [.int l4] [.ref l0] (b := l0) (ci := 13) rfl rfl rfl c51 (Nat.le_of_ble_eq_true rfl) (Nat.le_of_ble_eq_true rfl) (by omega) (by omega) (f_X13_cell_ok X (by omega) (by omega) nn l0 l4 h e_u52) ?_
  clear e_u52
  show mx_S X F L 582 883 [(0, .ref l0), (3, .int l3), (4, .int l4)] [.int u52.1, .ref l0] u52.2 0 0 (none, r, 0, 0)
  replace hf := mx_gd_el hf; obtain ⟨c53, hf⟩ := hf
  replace hf := mx_sv_el hf; obtain ⟨u54, e_u54, hf⟩ := hf
  refine sx_cv hm dX13_step_883 rs_RX13_1072 mt_X13_give [.int u52.1] [] (b := l0) (ci := 13) rfl rfl rfl c53 (Nat.le_of_ble_eq_true rfl) (Nat.le_of_ble_eq_true rfl) (by omega) (by omega) (f_X13_give_ok X (by omega) (by omega) nn l0 u52.1 u52.2 e_u54) ?_
  clear e_u54
  show mx_S X F L 582 886 [(0, .ref l0), (3, .int l3), (4, .int l4)] [] u54 0 0 (none, r, 0, 0)
  refine mx_S.pu (pc2 := 1150) (lv2 := [(0, .ref l0), (3, .int l3), (4, .int l4)]) (st2 := []) hm dX13_step_886 rfl ?_
  refine mx_S.ext [(0, .ref l0), (3, .int l3)] (mx_sub_pos [0, 1] rfl (show ([0, 3, 4] : List Nat).Nodup by decide)) ?_
  exact j_X13_step_1150_ok X hF hL nn l0 l3 u54 hf
set_option maxHeartbeats 4000000 in
set_option maxRecDepth 20000 in
theorem j_X13_step_843_ok (X : Nat × (Nat → Int32)) {F L : Nat} (hF : 13 ≤ F) (hL : 308 ≤ L) (nn : Nat) (l0 : Nat) (l2 : Int32) (l3 : Int32) (h : mx_H) {r : mx_H} (hf : j_X13_step_843 nn l0 l2 l3 h = some r) : mx_S X F L 582 843 [(0, .ref l0), (2, .int l2), (3, .int l3)] [] h 0 0 (none, r, 0, 0) := by
  have hm : mx_mt 582 = some (yX13_step, cX13_step, 7, none) := mt_X13_step
  unfold j_X13_step_843 at hf
  refine mx_S.pu (pc2 := 844) (lv2 := [(0, .ref l0), (2, .int l2), (3, .int l3)]) (st2 := [.ref l0]) hm dX13_step_843 rfl ?_
  refine mx_S.pu (pc2 := 845) (lv2 := [(0, .ref l0), (2, .int l2), (3, .int l3)]) (st2 := [.int l2, .ref l0]) hm dX13_step_844 rfl ?_
  refine sx_ic (v := 3) hm dX13_step_845 (by decide) ?_
  replace hf := xl_el hf; obtain ⟨v55, e_v55, hf⟩ := hf
  refine mx_S.pu (pc2 := 847) (lv2 := [(0, .ref l0), (2, .int l2), (3, .int l3)]) (st2 := [.int v55, .ref l0]) hm dX13_step_846 (by rw [← e_v55]; rfl) ?_
  clear e_v55
  replace hf := mx_gd_el hf; obtain ⟨c56, hf⟩ := hf
  replace hf := mx_sv_el hf; obtain ⟨u57, e_u57, hf⟩ := hf
  refine sx_cv hm dX13_step_847 rs_RX13_1072 mt_X13_give [.int v55] [] (b := l0) (ci := 13) rfl rfl rfl c56 (Nat.le_of_ble_eq_true rfl) (Nat.le_of_ble_eq_true rfl) (by omega) (by omega) (f_X13_give_ok X (by omega) (by omega) nn l0 v55 h e_u57) ?_
  clear e_u57
  show mx_S X F L 582 850 [(0, .ref l0), (2, .int l2), (3, .int l3)] [] u57 0 0 (none, r, 0, 0)
  refine mx_S.pu (pc2 := 1150) (lv2 := [(0, .ref l0), (2, .int l2), (3, .int l3)]) (st2 := []) hm dX13_step_850 rfl ?_
  refine mx_S.ext [(0, .ref l0), (3, .int l3)] (mx_sub_pos [0, 2] rfl (show ([0, 2, 3] : List Nat).Nodup by decide)) ?_
  exact j_X13_step_1150_ok X hF hL nn l0 l3 u57 hf
set_option maxHeartbeats 4000000 in
set_option maxRecDepth 20000 in
theorem j_X13_step_835_ok (X : Nat × (Nat → Int32)) {F L : Nat} (hF : 13 ≤ F) (hL : 308 ≤ L) (nn : Nat) (l0 : Nat) (l3 : Int32) (h : mx_H) {r : mx_H} (hf : j_X13_step_835 nn l0 l3 h = some r) : mx_S X F L 582 835 [(0, .ref l0), (3, .int l3)] [] h 0 0 (none, r, 0, 0) := by
  have hm : mx_mt 582 = some (yX13_step, cX13_step, 7, none) := mt_X13_step
  unfold j_X13_step_835 at hf
  refine mx_S.pu (pc2 := 836) (lv2 := [(0, .ref l0), (3, .int l3)]) (st2 := [.ref l0]) hm dX13_step_835 rfl ?_
  refine sx_ic (v := 0) hm dX13_step_836 (by decide) ?_
  replace hf := mx_gd_el hf; obtain ⟨c58, hf⟩ := hf
  replace hf := mx_sv_el hf; obtain ⟨u59, e_u59, hf⟩ := hf
  refine sx_cv hm dX13_step_837 rs_RX13_1072 mt_X13_give [.int 0] [] (b := l0) (ci := 13) rfl rfl rfl c58 (Nat.le_of_ble_eq_true rfl) (Nat.le_of_ble_eq_true rfl) (by omega) (by omega) (f_X13_give_ok X (by omega) (by omega) nn l0 0 h e_u59) ?_
  clear e_u59
  show mx_S X F L 582 840 [(0, .ref l0), (3, .int l3)] [] u59 0 0 (none, r, 0, 0)
  refine mx_S.pu (pc2 := 1150) (lv2 := [(0, .ref l0), (3, .int l3)]) (st2 := []) hm dX13_step_840 rfl ?_
  exact j_X13_step_1150_ok X hF hL nn l0 l3 u59 hf
set_option maxHeartbeats 4000000 in
set_option maxRecDepth 20000 in
theorem j_X13_step_39_ok (X : Nat × (Nat → Int32)) {F L : Nat} (hF : 13 ≤ F) (hL : 308 ≤ L) (nn : Nat) (l0 : Nat) (l1 : Int32) (l2 : Int32) (l3 : Int32) (s0 : Int32) (h : mx_H) {r : mx_H} (hf : j_X13_step_39 nn l0 l1 l2 l3 s0 h = some r) : mx_S X F L 582 39 [(0, .ref l0), (1, .int l1), (2, .int l2), (3, .int l3)] [.int s0] h 0 0 (none, r, 0, 0) := by
  have hm : mx_mt 582 = some (yX13_step, cX13_step, 7, none) := mt_X13_step
  unfold j_X13_step_39 at hf
  refine mx_S.pu (pc2 := 41) (lv2 := [(4, .int s0), (0, .ref l0), (1, .int l1), (2, .int l2), (3, .int l3)]) (st2 := []) hm dX13_step_39 rfl ?_
  refine mx_S.pu (pc2 := 42) (lv2 := [(4, .int s0), (0, .ref l0), (1, .int l1), (2, .int l2), (3, .int l3)]) (st2 := [.int l2]) hm dX13_step_41 rfl ?_
  rcases mx_if_el hf with ⟨n_0, hf⟩ | ⟨n_0, hf⟩
  · refine sx_tin hm dX13_step_42 (by rw [n_0]; decide) (by rw [n_0]; decide) (off := 790) (by rw [n_0]; rfl) (tgt := 832) rfl ?_
    clear n_0
    refine mx_S.pu (pc2 := 1150) (lv2 := [(4, .int s0), (0, .ref l0), (1, .int l1), (2, .int l2), (3, .int l3)]) (st2 := []) hm dX13_step_832 rfl ?_
    refine mx_S.ext [(0, .ref l0), (3, .int l3)] (mx_sub_pos [1, 4] rfl (show ([4, 0, 1, 2, 3] : List Nat).Nodup by decide)) ?_
    exact j_X13_step_1150_ok X hF hL nn l0 l3 h hf
  · rcases mx_if_el hf with ⟨n_1, hf⟩ | ⟨n_1, hf⟩
    · refine sx_tin hm dX13_step_42 (by rw [n_1]; decide) (by rw [n_1]; decide) (off := 793) (by rw [n_1]; rfl) (tgt := 835) rfl ?_
      clear n_0 n_1
      refine mx_S.ext [(0, .ref l0), (3, .int l3)] (mx_sub_pos [1, 4] rfl (show ([4, 0, 1, 2, 3] : List Nat).Nodup by decide)) ?_
      exact j_X13_step_835_ok X hF hL nn l0 l3 h hf
    · rcases mx_if_el hf with ⟨n_2, hf⟩ | ⟨n_2, hf⟩
      · refine sx_tin hm dX13_step_42 (by rw [n_2]; decide) (by rw [n_2]; decide) (off := 801) (by rw [n_2]; rfl) (tgt := 843) rfl ?_
        clear n_0 n_1 n_2
        refine mx_S.ext [(0, .ref l0), (2, .int l2), (3, .int l3)] (mx_sub_pos [1, 3, 4] rfl (show ([4, 0, 1, 2, 3] : List Nat).Nodup by decide)) ?_
        exact j_X13_step_843_ok X hF hL nn l0 l2 l3 h hf
      · rcases mx_if_el hf with ⟨n_3, hf⟩ | ⟨n_3, hf⟩
        · refine sx_tin hm dX13_step_42 (by rw [n_3]; decide) (by rw [n_3]; decide) (off := 793) (by rw [n_3]; rfl) (tgt := 835) rfl ?_
          clear n_0 n_1 n_2 n_3
          refine mx_S.ext [(0, .ref l0), (3, .int l3)] (mx_sub_pos [1, 4] rfl (show ([4, 0, 1, 2, 3] : List Nat).Nodup by decide)) ?_
          exact j_X13_step_835_ok X hF hL nn l0 l3 h hf
        · rcases mx_if_el hf with ⟨n_4, hf⟩ | ⟨n_4, hf⟩
          · refine sx_tin hm dX13_step_42 (by rw [n_4]; decide) (by rw [n_4]; decide) (off := 801) (by rw [n_4]; rfl) (tgt := 843) rfl ?_
            clear n_0 n_1 n_2 n_3 n_4
            refine mx_S.ext [(0, .ref l0), (2, .int l2), (3, .int l3)] (mx_sub_pos [1, 3, 4] rfl (show ([4, 0, 1, 2, 3] : List Nat).Nodup by decide)) ?_
            exact j_X13_step_843_ok X hF hL nn l0 l2 l3 h hf
          · rcases mx_if_el hf with ⟨n_5, hf⟩ | ⟨n_5, hf⟩
            · refine sx_tin hm dX13_step_42 (by rw [n_5]; decide) (by rw [n_5]; decide) (off := 801) (by rw [n_5]; rfl) (tgt := 843) rfl ?_
              clear n_0 n_1 n_2 n_3 n_4 n_5
              refine mx_S.ext [(0, .ref l0), (2, .int l2), (3, .int l3)] (mx_sub_pos [1, 3, 4] rfl (show ([4, 0, 1, 2, 3] : List Nat).Nodup by decide)) ?_
              exact j_X13_step_843_ok X hF hL nn l0 l2 l3 h hf
            · rcases mx_if_el hf with ⟨n_6, hf⟩ | ⟨n_6, hf⟩
              · refine sx_tin hm dX13_step_42 (by rw [n_6]; decide) (by rw [n_6]; decide) (off := 801) (by rw [n_6]; rfl) (tgt := 843) rfl ?_
                clear n_0 n_1 n_2 n_3 n_4 n_5 n_6
                refine mx_S.ext [(0, .ref l0), (2, .int l2), (3, .int l3)] (mx_sub_pos [1, 3, 4] rfl (show ([4, 0, 1, 2, 3] : List Nat).Nodup by decide)) ?_
                exact j_X13_step_843_ok X hF hL nn l0 l2 l3 h hf
              · rcases mx_if_el hf with ⟨n_7, hf⟩ | ⟨n_7, hf⟩
                · refine sx_tin hm dX13_step_42 (by rw [n_7]; decide) (by rw [n_7]; decide) (off := 801) (by rw [n_7]; rfl) (tgt := 843) rfl ?_
                  clear n_0 n_1 n_2 n_3 n_4 n_5 n_6 n_7
                  refine mx_S.ext [(0, .ref l0), (2, .int l2), (3, .int l3)] (mx_sub_pos [1, 3, 4] rfl (show ([4, 0, 1, 2, 3] : List Nat).Nodup by decide)) ?_
                  exact j_X13_step_843_ok X hF hL nn l0 l2 l3 h hf
                · rcases mx_if_el hf with ⟨n_8, hf⟩ | ⟨n_8, hf⟩
                  · refine sx_tin hm dX13_step_42 (by rw [n_8]; decide) (by rw [n_8]; decide) (off := 801) (by rw [n_8]; rfl) (tgt := 843) rfl ?_
                    clear n_0 n_1 n_2 n_3 n_4 n_5 n_6 n_7 n_8
                    refine mx_S.ext [(0, .ref l0), (2, .int l2), (3, .int l3)] (mx_sub_pos [1, 3, 4] rfl (show ([4, 0, 1, 2, 3] : List Nat).Nodup by decide)) ?_
                    exact j_X13_step_843_ok X hF hL nn l0 l2 l3 h hf
                  · rcases mx_if_el hf with ⟨n_9, hf⟩ | ⟨n_9, hf⟩
                    · refine sx_tin hm dX13_step_42 (by rw [n_9]; decide) (by rw [n_9]; decide) (off := 811) (by rw [n_9]; rfl) (tgt := 853) rfl ?_
                      clear n_0 n_1 n_2 n_3 n_4 n_5 n_6 n_7 n_8 n_9
                      refine mx_S.pu (pc2 := 854) (lv2 := [(4, .int s0), (0, .ref l0), (1, .int l1), (2, .int l2), (3, .int l3)]) (st2 := [.ref l0]) hm dX13_step_853 rfl ?_
                      refine mx_S.pu (pc2 := 856) (lv2 := [(4, .int s0), (0, .ref l0), (1, .int l1), (2, .int l2), (3, .int l3)]) (st2 := [.int s0, .ref l0]) hm dX13_step_854 rfl ?_
                      replace hf := xl_el hf; obtain ⟨v60, e_v60, hf⟩ := hf
                      refine mx_S.pu (pc2 := 857) (lv2 := [(4, .int s0), (0, .ref l0), (1, .int l1), (2, .int l2), (3, .int l3)]) (st2 := [.int v60, .ref l0]) hm dX13_step_856 (by rw [← e_v60]; rfl) ?_
                      clear e_v60
                      replace hf := mx_gd_el hf; obtain ⟨c61, hf⟩ := hf
                      replace hf := mx_sv_el hf; obtain ⟨u62, e_u62, hf⟩ := hf
                      refine sx_cv hm dX13_step_857 rs_RX13_1072 mt_X13_give [.int v60] [] (b := l0) (ci := 13) rfl rfl rfl c61 (Nat.le_of_ble_eq_true rfl) (Nat.le_of_ble_eq_true rfl) (by omega) (by omega) (f_X13_give_ok X (by omega) (by omega) nn l0 v60 h e_u62) ?_
                      clear e_u62
                      show mx_S X F L 582 860 [(4, .int s0), (0, .ref l0), (1, .int l1), (2, .int l2), (3, .int l3)] [] u62 0 0 (none, r, 0, 0)
                      refine mx_S.pu (pc2 := 1150) (lv2 := [(4, .int s0), (0, .ref l0), (1, .int l1), (2, .int l2), (3, .int l3)]) (st2 := []) hm dX13_step_860 rfl ?_
                      refine mx_S.ext [(0, .ref l0), (3, .int l3)] (mx_sub_pos [1, 4] rfl (show ([4, 0, 1, 2, 3] : List Nat).Nodup by decide)) ?_
                      exact j_X13_step_1150_ok X hF hL nn l0 l3 u62 hf
                    · rcases mx_if_el hf with ⟨n_10, hf⟩ | ⟨n_10, hf⟩
                      · refine sx_tin hm dX13_step_42 (by rw [n_10]; decide) (by rw [n_10]; decide) (off := 821) (by rw [n_10]; rfl) (tgt := 863) rfl ?_
                        clear n_0 n_1 n_2 n_3 n_4 n_5 n_6 n_7 n_8 n_9 n_10
                        refine mx_S.pu (pc2 := 864) (lv2 := [(4, .int s0), (0, .ref l0), (1, .int l1), (2, .int l2), (3, .int l3)]) (st2 := [.ref l0]) hm dX13_step_863 rfl ?_
                        refine mx_S.pu (pc2 := 865) (lv2 := [(4, .int s0), (0, .ref l0), (1, .int l1), (2, .int l2), (3, .int l3)]) (st2 := [.ref l0, .ref l0]) hm dX13_step_864 rfl ?_
                        refine mx_S.pu (pc2 := 867) (lv2 := [(4, .int s0), (0, .ref l0), (1, .int l1), (2, .int l2), (3, .int l3)]) (st2 := [.int s0, .ref l0, .ref l0]) hm dX13_step_865 rfl ?_
                        replace hf := mx_gd_el hf; obtain ⟨c63, hf⟩ := hf
                        replace hf := mx_sv_el hf; obtain ⟨u64, e_u64, hf⟩ := hf
                        refine sx_cv hm dX13_step_867 rs_RX13_1081 mt_X13_intOf [.int s0] [.ref l0] (b := l0) (ci := 13) rfl rfl rfl c63 (Nat.le_of_ble_eq_true rfl) (Nat.le_of_ble_eq_true rfl) (by omega) (by omega) (f_X13_intOf_ok X (by omega) (by omega) nn l0 s0 h e_u64) ?_
                        clear e_u64
                        show mx_S X F L 582 870 [(4, .int s0), (0, .ref l0), (1, .int l1), (2, .int l2), (3, .int l3)] [.int u64.1, .ref l0] u64.2 0 0 (none, r, 0, 0)
                        replace hf := mx_gd_el hf; obtain ⟨c65, hf⟩ := hf
                        replace hf := mx_sv_el hf; obtain ⟨u66, e_u66, hf⟩ := hf
                        refine sx_cv hm dX13_step_870 rs_RX13_1072 mt_X13_give [.int u64.1] [] (b := l0) (ci := 13) rfl rfl rfl c65 (Nat.le_of_ble_eq_true rfl) (Nat.le_of_ble_eq_true rfl) (by omega) (by omega) (f_X13_give_ok X (by omega) (by omega) nn l0 u64.1 u64.2 e_u66) ?_
                        clear e_u66
                        show mx_S X F L 582 873 [(4, .int s0), (0, .ref l0), (1, .int l1), (2, .int l2), (3, .int l3)] [] u66 0 0 (none, r, 0, 0)
                        refine mx_S.pu (pc2 := 1150) (lv2 := [(4, .int s0), (0, .ref l0), (1, .int l1), (2, .int l2), (3, .int l3)]) (st2 := []) hm dX13_step_873 rfl ?_
                        refine mx_S.ext [(0, .ref l0), (3, .int l3)] (mx_sub_pos [1, 4] rfl (show ([4, 0, 1, 2, 3] : List Nat).Nodup by decide)) ?_
                        exact j_X13_step_1150_ok X hF hL nn l0 l3 u66 hf
                      · rcases mx_if_el hf with ⟨n_11, hf⟩ | ⟨n_11, hf⟩
                        · refine sx_tin hm dX13_step_42 (by rw [n_11]; decide) (by rw [n_11]; decide) (off := 834) (by rw [n_11]; rfl) (tgt := 876) rfl ?_
                          clear n_0 n_1 n_2 n_3 n_4 n_5 n_6 n_7 n_8 n_9 n_10 n_11
                          refine mx_S.ext [(0, .ref l0), (3, .int l3), (4, .int s0)] (mx_sub_pos [1, 4, 0] rfl (show ([4, 0, 1, 2, 3] : List Nat).Nodup by decide)) ?_
                          exact j_X13_step_876_ok X hF hL nn l0 l3 s0 h hf
                        · rcases mx_if_el hf with ⟨n_12, hf⟩ | ⟨n_12, hf⟩
                          · refine sx_tin hm dX13_step_42 (by rw [n_12]; decide) (by rw [n_12]; decide) (off := 834) (by rw [n_12]; rfl) (tgt := 876) rfl ?_
                            clear n_0 n_1 n_2 n_3 n_4 n_5 n_6 n_7 n_8 n_9 n_10 n_11 n_12
                            refine mx_S.ext [(0, .ref l0), (3, .int l3), (4, .int s0)] (mx_sub_pos [1, 4, 0] rfl (show ([4, 0, 1, 2, 3] : List Nat).Nodup by decide)) ?_
                            exact j_X13_step_876_ok X hF hL nn l0 l3 s0 h hf
                          · rcases mx_if_el hf with ⟨n_13, hf⟩ | ⟨n_13, hf⟩
                            · refine sx_tin hm dX13_step_42 (by rw [n_13]; decide) (by rw [n_13]; decide) (off := 916) (by rw [n_13]; rfl) (tgt := 958) rfl ?_
                              clear n_0 n_1 n_2 n_3 n_4 n_5 n_6 n_7 n_8 n_9 n_10 n_11 n_12 n_13
                              refine mx_S.ext [(0, .ref l0), (2, .int l2)] (mx_sub_pos [1, 3] rfl (show ([4, 0, 1, 2, 3] : List Nat).Nodup by decide)) ?_
                              exact j_X13_step_958_ok X hF hL nn l0 l2 h hf
                            · rcases mx_if_el hf with ⟨n_14, hf⟩ | ⟨n_14, hf⟩
                              · refine sx_tin hm dX13_step_42 (by rw [n_14]; decide) (by rw [n_14]; decide) (off := 916) (by rw [n_14]; rfl) (tgt := 958) rfl ?_
                                clear n_0 n_1 n_2 n_3 n_4 n_5 n_6 n_7 n_8 n_9 n_10 n_11 n_12 n_13 n_14
                                refine mx_S.ext [(0, .ref l0), (2, .int l2)] (mx_sub_pos [1, 3] rfl (show ([4, 0, 1, 2, 3] : List Nat).Nodup by decide)) ?_
                                exact j_X13_step_958_ok X hF hL nn l0 l2 h hf
                              · rcases mx_if_el hf with ⟨n_15, hf⟩ | ⟨n_15, hf⟩
                                · refine sx_tin hm dX13_step_42 (by rw [n_15]; decide) (by rw [n_15]; decide) (off := 847) (by rw [n_15]; rfl) (tgt := 889) rfl ?_
                                  clear n_0 n_1 n_2 n_3 n_4 n_5 n_6 n_7 n_8 n_9 n_10 n_11 n_12 n_13 n_14 n_15
                                  refine mx_S.ext [(0, .ref l0), (3, .int l3), (4, .int s0)] (mx_sub_pos [1, 4, 0] rfl (show ([4, 0, 1, 2, 3] : List Nat).Nodup by decide)) ?_
                                  exact j_X13_step_889_ok X hF hL nn l0 l3 s0 h hf
                                · rcases mx_if_el hf with ⟨n_16, hf⟩ | ⟨n_16, hf⟩
                                  · refine sx_tin hm dX13_step_42 (by rw [n_16]; decide) (by rw [n_16]; decide) (off := 847) (by rw [n_16]; rfl) (tgt := 889) rfl ?_
                                    clear n_0 n_1 n_2 n_3 n_4 n_5 n_6 n_7 n_8 n_9 n_10 n_11 n_12 n_13 n_14 n_15 n_16
                                    refine mx_S.ext [(0, .ref l0), (3, .int l3), (4, .int s0)] (mx_sub_pos [1, 4, 0] rfl (show ([4, 0, 1, 2, 3] : List Nat).Nodup by decide)) ?_
                                    exact j_X13_step_889_ok X hF hL nn l0 l3 s0 h hf
                                  · rcases mx_if_el hf with ⟨n_17, hf⟩ | ⟨n_17, hf⟩
                                    · refine sx_tin hm dX13_step_42 (by rw [n_17]; decide) (by rw [n_17]; decide) (off := 916) (by rw [n_17]; rfl) (tgt := 958) rfl ?_
                                      clear n_0 n_1 n_2 n_3 n_4 n_5 n_6 n_7 n_8 n_9 n_10 n_11 n_12 n_13 n_14 n_15 n_16 n_17
                                      refine mx_S.ext [(0, .ref l0), (2, .int l2)] (mx_sub_pos [1, 3] rfl (show ([4, 0, 1, 2, 3] : List Nat).Nodup by decide)) ?_
                                      exact j_X13_step_958_ok X hF hL nn l0 l2 h hf
                                    · rcases mx_if_el hf with ⟨n_18, hf⟩ | ⟨n_18, hf⟩
                                      · refine sx_tin hm dX13_step_42 (by rw [n_18]; decide) (by rw [n_18]; decide) (off := 916) (by rw [n_18]; rfl) (tgt := 958) rfl ?_
                                        clear n_0 n_1 n_2 n_3 n_4 n_5 n_6 n_7 n_8 n_9 n_10 n_11 n_12 n_13 n_14 n_15 n_16 n_17 n_18
                                        refine mx_S.ext [(0, .ref l0), (2, .int l2)] (mx_sub_pos [1, 3] rfl (show ([4, 0, 1, 2, 3] : List Nat).Nodup by decide)) ?_
                                        exact j_X13_step_958_ok X hF hL nn l0 l2 h hf
                                      · rcases mx_if_el hf with ⟨n_19, hf⟩ | ⟨n_19, hf⟩
                                        · refine sx_tin hm dX13_step_42 (by rw [n_19]; decide) (by rw [n_19]; decide) (off := 875) (by rw [n_19]; rfl) (tgt := 917) rfl ?_
                                          clear n_0 n_1 n_2 n_3 n_4 n_5 n_6 n_7 n_8 n_9 n_10 n_11 n_12 n_13 n_14 n_15 n_16 n_17 n_18 n_19
                                          refine mx_S.pu (pc2 := 918) (lv2 := [(4, .int s0), (0, .ref l0), (1, .int l1), (2, .int l2), (3, .int l3)]) (st2 := [.ref l0]) hm dX13_step_917 rfl ?_
                                          replace hf := mx_gd_el hf; obtain ⟨c67, hf⟩ := hf
                                          replace hf := mx_sv_el hf; obtain ⟨u68, e_u68, hf⟩ := hf
                                          refine sx_cv hm dX13_step_918 rs_RX13_1087 mt_X13_drop [] [] (b := l0) (ci := 13) rfl rfl rfl c67 (Nat.le_of_ble_eq_true rfl) (Nat.le_of_ble_eq_true rfl) (by omega) (by omega) (f_X13_drop_ok X (by omega) (by omega) nn l0 h e_u68) ?_
                                          clear e_u68
                                          show mx_S X F L 582 921 [(4, .int s0), (0, .ref l0), (1, .int l1), (2, .int l2), (3, .int l3)] [.int u68.1] u68.2 0 0 (none, r, 0, 0)
                                          refine mx_S.pu (pc2 := 922) (lv2 := [(4, .int s0), (0, .ref l0), (1, .int l1), (2, .int l2), (3, .int l3)]) (st2 := []) hm dX13_step_921 rfl ?_
                                          refine mx_S.pu (pc2 := 1150) (lv2 := [(4, .int s0), (0, .ref l0), (1, .int l1), (2, .int l2), (3, .int l3)]) (st2 := []) hm dX13_step_922 rfl ?_
                                          refine mx_S.ext [(0, .ref l0), (3, .int l3)] (mx_sub_pos [1, 4] rfl (show ([4, 0, 1, 2, 3] : List Nat).Nodup by decide)) ?_
                                          exact j_X13_step_1150_ok X hF hL nn l0 l3 u68.2 hf
                                        · rcases mx_if_el hf with ⟨n_20, hf⟩ | ⟨n_20, hf⟩
                                          · refine sx_tin hm dX13_step_42 (by rw [n_20]; decide) (by rw [n_20]; decide) (off := 883) (by rw [n_20]; rfl) (tgt := 925) rfl ?_
                                            clear n_0 n_1 n_2 n_3 n_4 n_5 n_6 n_7 n_8 n_9 n_10 n_11 n_12 n_13 n_14 n_15 n_16 n_17 n_18 n_19 n_20
                                            refine mx_S.pu (pc2 := 926) (lv2 := [(4, .int s0), (0, .ref l0), (1, .int l1), (2, .int l2), (3, .int l3)]) (st2 := [.ref l0]) hm dX13_step_925 rfl ?_
                                            replace hf := mx_gd_el hf; obtain ⟨c69, hf⟩ := hf
                                            replace hf := mx_sv_el hf; obtain ⟨u70, e_u70, hf⟩ := hf
                                            refine sx_cv hm dX13_step_926 rs_RX13_1087 mt_X13_drop [] [] (b := l0) (ci := 13) rfl rfl rfl c69 (Nat.le_of_ble_eq_true rfl) (Nat.le_of_ble_eq_true rfl) (by omega) (by omega) (f_X13_drop_ok X (by omega) (by omega) nn l0 h e_u70) ?_
                                            clear e_u70
                                            show mx_S X F L 582 929 [(4, .int s0), (0, .ref l0), (1, .int l1), (2, .int l2), (3, .int l3)] [.int u70.1] u70.2 0 0 (none, r, 0, 0)
                                            refine mx_S.pu (pc2 := 931) (lv2 := [(5, .int u70.1), (4, .int s0), (0, .ref l0), (1, .int l1), (2, .int l2), (3, .int l3)]) (st2 := []) hm dX13_step_929 rfl ?_
                                            refine mx_S.pu (pc2 := 932) (lv2 := [(5, .int u70.1), (4, .int s0), (0, .ref l0), (1, .int l1), (2, .int l2), (3, .int l3)]) (st2 := [.ref l0]) hm dX13_step_931 rfl ?_
                                            refine mx_S.pu (pc2 := 934) (lv2 := [(5, .int u70.1), (4, .int s0), (0, .ref l0), (1, .int l1), (2, .int l2), (3, .int l3)]) (st2 := [.int u70.1, .ref l0]) hm dX13_step_932 rfl ?_
                                            replace hf := mx_gd_el hf; obtain ⟨c71, hf⟩ := hf
                                            replace hf := mx_sv_el hf; obtain ⟨u72, e_u72, hf⟩ := hf
                                            refine sx_cv hm dX13_step_934 rs_RX13_1072 mt_X13_give [.int u70.1] [] (b := l0) (ci := 13) rfl rfl rfl c71 (Nat.le_of_ble_eq_true rfl) (Nat.le_of_ble_eq_true rfl) (by omega) (by omega) (f_X13_give_ok X (by omega) (by omega) nn l0 u70.1 u70.2 e_u72) ?_
                                            clear e_u72
                                            show mx_S X F L 582 937 [(5, .int u70.1), (4, .int s0), (0, .ref l0), (1, .int l1), (2, .int l2), (3, .int l3)] [] u72 0 0 (none, r, 0, 0)
                                            refine mx_S.pu (pc2 := 938) (lv2 := [(5, .int u70.1), (4, .int s0), (0, .ref l0), (1, .int l1), (2, .int l2), (3, .int l3)]) (st2 := [.ref l0]) hm dX13_step_937 rfl ?_
                                            refine mx_S.pu (pc2 := 940) (lv2 := [(5, .int u70.1), (4, .int s0), (0, .ref l0), (1, .int l1), (2, .int l2), (3, .int l3)]) (st2 := [.int u70.1, .ref l0]) hm dX13_step_938 rfl ?_
                                            replace hf := mx_gd_el hf; obtain ⟨c73, hf⟩ := hf
                                            replace hf := mx_sv_el hf; obtain ⟨u74, e_u74, hf⟩ := hf
                                            refine sx_cv hm dX13_step_940 rs_RX13_1072 mt_X13_give [.int u70.1] [] (b := l0) (ci := 13) rfl rfl rfl c73 (Nat.le_of_ble_eq_true rfl) (Nat.le_of_ble_eq_true rfl) (by omega) (by omega) (f_X13_give_ok X (by omega) (by omega) nn l0 u70.1 u72 e_u74) ?_
                                            clear e_u74
                                            show mx_S X F L 582 943 [(5, .int u70.1), (4, .int s0), (0, .ref l0), (1, .int l1), (2, .int l2), (3, .int l3)] [] u74 0 0 (none, r, 0, 0)
                                            refine mx_S.pu (pc2 := 1150) (lv2 := [(5, .int u70.1), (4, .int s0), (0, .ref l0), (1, .int l1), (2, .int l2), (3, .int l3)]) (st2 := []) hm dX13_step_943 rfl ?_
                                            refine mx_S.ext [(0, .ref l0), (3, .int l3)] (mx_sub_pos [2, 5] rfl (show ([5, 4, 0, 1, 2, 3] : List Nat).Nodup by decide)) ?_
                                            exact j_X13_step_1150_ok X hF hL nn l0 l3 u74 hf
                                          · rcases mx_if_el hf with ⟨n_21, hf⟩ | ⟨n_21, hf⟩
                                            · refine sx_tin hm dX13_step_42 (by rw [n_21]; decide) (by rw [n_21]; decide) (off := 922) (by rw [n_21]; rfl) (tgt := 964) rfl ?_
                                              clear n_0 n_1 n_2 n_3 n_4 n_5 n_6 n_7 n_8 n_9 n_10 n_11 n_12 n_13 n_14 n_15 n_16 n_17 n_18 n_19 n_20 n_21
                                              refine mx_S.ext [(0, .ref l0), (2, .int l2), (3, .int l3)] (mx_sub_pos [1, 3, 4] rfl (show ([4, 0, 1, 2, 3] : List Nat).Nodup by decide)) ?_
                                              exact j_X13_step_964_ok X hF hL nn l0 l2 l3 h hf
                                            · rcases mx_if_el hf with ⟨n_22, hf⟩ | ⟨n_22, hf⟩
                                              · refine sx_tin hm dX13_step_42 (by rw [n_22]; decide) (by rw [n_22]; decide) (off := 922) (by rw [n_22]; rfl) (tgt := 964) rfl ?_
                                                clear n_0 n_1 n_2 n_3 n_4 n_5 n_6 n_7 n_8 n_9 n_10 n_11 n_12 n_13 n_14 n_15 n_16 n_17 n_18 n_19 n_20 n_21 n_22
                                                refine mx_S.ext [(0, .ref l0), (2, .int l2), (3, .int l3)] (mx_sub_pos [1, 3, 4] rfl (show ([4, 0, 1, 2, 3] : List Nat).Nodup by decide)) ?_
                                                exact j_X13_step_964_ok X hF hL nn l0 l2 l3 h hf
                                              · rcases mx_if_el hf with ⟨n_23, hf⟩ | ⟨n_23, hf⟩
                                                · refine sx_tin hm dX13_step_42 (by rw [n_23]; decide) (by rw [n_23]; decide) (off := 922) (by rw [n_23]; rfl) (tgt := 964) rfl ?_
                                                  clear n_0 n_1 n_2 n_3 n_4 n_5 n_6 n_7 n_8 n_9 n_10 n_11 n_12 n_13 n_14 n_15 n_16 n_17 n_18 n_19 n_20 n_21 n_22 n_23
                                                  refine mx_S.ext [(0, .ref l0), (2, .int l2), (3, .int l3)] (mx_sub_pos [1, 3, 4] rfl (show ([4, 0, 1, 2, 3] : List Nat).Nodup by decide)) ?_
                                                  exact j_X13_step_964_ok X hF hL nn l0 l2 l3 h hf
                                                · rcases mx_if_el hf with ⟨n_24, hf⟩ | ⟨n_24, hf⟩
                                                  · refine sx_tin hm dX13_step_42 (by rw [n_24]; decide) (by rw [n_24]; decide) (off := 922) (by rw [n_24]; rfl) (tgt := 964) rfl ?_
                                                    clear n_0 n_1 n_2 n_3 n_4 n_5 n_6 n_7 n_8 n_9 n_10 n_11 n_12 n_13 n_14 n_15 n_16 n_17 n_18 n_19 n_20 n_21 n_22 n_23 n_24
                                                    refine mx_S.ext [(0, .ref l0), (2, .int l2), (3, .int l3)] (mx_sub_pos [1, 3, 4] rfl (show ([4, 0, 1, 2, 3] : List Nat).Nodup by decide)) ?_
                                                    exact j_X13_step_964_ok X hF hL nn l0 l2 l3 h hf
                                                  · rcases mx_if_el hf with ⟨n_25, hf⟩ | ⟨n_25, hf⟩
                                                    · refine sx_tin hm dX13_step_42 (by rw [n_25]; decide) (by rw [n_25]; decide) (off := 922) (by rw [n_25]; rfl) (tgt := 964) rfl ?_
                                                      clear n_0 n_1 n_2 n_3 n_4 n_5 n_6 n_7 n_8 n_9 n_10 n_11 n_12 n_13 n_14 n_15 n_16 n_17 n_18 n_19 n_20 n_21 n_22 n_23 n_24 n_25
                                                      refine mx_S.ext [(0, .ref l0), (2, .int l2), (3, .int l3)] (mx_sub_pos [1, 3, 4] rfl (show ([4, 0, 1, 2, 3] : List Nat).Nodup by decide)) ?_
                                                      exact j_X13_step_964_ok X hF hL nn l0 l2 l3 h hf
                                                    · rcases mx_if_el hf with ⟨n_26, hf⟩ | ⟨n_26, hf⟩
                                                      · refine sx_tin hm dX13_step_42 (by rw [n_26]; decide) (by rw [n_26]; decide) (off := 904) (by rw [n_26]; rfl) (tgt := 946) rfl ?_
                                                        clear n_0 n_1 n_2 n_3 n_4 n_5 n_6 n_7 n_8 n_9 n_10 n_11 n_12 n_13 n_14 n_15 n_16 n_17 n_18 n_19 n_20 n_21 n_22 n_23 n_24 n_25 n_26
                                                        refine mx_S.pu (pc2 := 947) (lv2 := [(4, .int s0), (0, .ref l0), (1, .int l1), (2, .int l2), (3, .int l3)]) (st2 := [.ref l0]) hm dX13_step_946 rfl ?_
                                                        refine mx_S.pu (pc2 := 948) (lv2 := [(4, .int s0), (0, .ref l0), (1, .int l1), (2, .int l2), (3, .int l3)]) (st2 := [.ref l0, .ref l0]) hm dX13_step_947 rfl ?_
                                                        replace hf := mx_gd_el hf; obtain ⟨c75, hf⟩ := hf
                                                        replace hf := mx_sv_el hf; obtain ⟨u76, e_u76, hf⟩ := hf
                                                        refine sx_cv hm dX13_step_948 rs_RX13_1087 mt_X13_drop [] [.ref l0] (b := l0) (ci := 13) rfl rfl rfl c75 (Nat.le_of_ble_eq_true rfl) (Nat.le_of_ble_eq_true rfl) (by omega) (by omega) (f_X13_drop_ok X (by omega) (by omega) nn l0 h e_u76) ?_
                                                        clear e_u76
                                                        show mx_S X F L 582 951 [(4, .int s0), (0, .ref l0), (1, .int l1), (2, .int l2), (3, .int l3)] [.int u76.1, .ref l0] u76.2 0 0 (none, r, 0, 0)
                                                        replace hf := xl_el hf; obtain ⟨v77, e_v77, hf⟩ := hf
                                                        refine mx_S.pu (pc2 := 952) (lv2 := [(4, .int s0), (0, .ref l0), (1, .int l1), (2, .int l2), (3, .int l3)]) (st2 := [.int v77, .ref l0]) hm dX13_step_951 (by rw [← e_v77]; rfl) ?_
                                                        clear e_v77
                                                        replace hf := mx_gd_el hf; obtain ⟨c78, hf⟩ := hf
                                                        replace hf := mx_sv_el hf; obtain ⟨u79, e_u79, hf⟩ := hf
                                                        refine sx_cv hm dX13_step_952 rs_RX13_1072 mt_X13_give [.int v77] [] (b := l0) (ci := 13) rfl rfl rfl c78 (Nat.le_of_ble_eq_true rfl) (Nat.le_of_ble_eq_true rfl) (by omega) (by omega) (f_X13_give_ok X (by omega) (by omega) nn l0 v77 u76.2 e_u79) ?_
                                                        clear e_u79
                                                        show mx_S X F L 582 955 [(4, .int s0), (0, .ref l0), (1, .int l1), (2, .int l2), (3, .int l3)] [] u79 0 0 (none, r, 0, 0)
                                                        refine mx_S.pu (pc2 := 1150) (lv2 := [(4, .int s0), (0, .ref l0), (1, .int l1), (2, .int l2), (3, .int l3)]) (st2 := []) hm dX13_step_955 rfl ?_
                                                        refine mx_S.ext [(0, .ref l0), (3, .int l3)] (mx_sub_pos [1, 4] rfl (show ([4, 0, 1, 2, 3] : List Nat).Nodup by decide)) ?_
                                                        exact j_X13_step_1150_ok X hF hL nn l0 l3 u79 hf
                                                      · rcases mx_if_el hf with ⟨n_27, hf⟩ | ⟨n_27, hf⟩
                                                        · refine sx_tin hm dX13_step_42 (by rw [n_27]; decide) (by rw [n_27]; decide) (off := 922) (by rw [n_27]; rfl) (tgt := 964) rfl ?_
                                                          clear n_0 n_1 n_2 n_3 n_4 n_5 n_6 n_7 n_8 n_9 n_10 n_11 n_12 n_13 n_14 n_15 n_16 n_17 n_18 n_19 n_20 n_21 n_22 n_23 n_24 n_25 n_26 n_27
                                                          refine mx_S.ext [(0, .ref l0), (2, .int l2), (3, .int l3)] (mx_sub_pos [1, 3, 4] rfl (show ([4, 0, 1, 2, 3] : List Nat).Nodup by decide)) ?_
                                                          exact j_X13_step_964_ok X hF hL nn l0 l2 l3 h hf
                                                        · rcases mx_if_el hf with ⟨n_28, hf⟩ | ⟨n_28, hf⟩
                                                          · refine sx_tin hm dX13_step_42 (by rw [n_28]; decide) (by rw [n_28]; decide) (off := 922) (by rw [n_28]; rfl) (tgt := 964) rfl ?_
                                                            clear n_0 n_1 n_2 n_3 n_4 n_5 n_6 n_7 n_8 n_9 n_10 n_11 n_12 n_13 n_14 n_15 n_16 n_17 n_18 n_19 n_20 n_21 n_22 n_23 n_24 n_25 n_26 n_27 n_28
                                                            refine mx_S.ext [(0, .ref l0), (2, .int l2), (3, .int l3)] (mx_sub_pos [1, 3, 4] rfl (show ([4, 0, 1, 2, 3] : List Nat).Nodup by decide)) ?_
                                                            exact j_X13_step_964_ok X hF hL nn l0 l2 l3 h hf
                                                          · rcases mx_if_el hf with ⟨n_29, hf⟩ | ⟨n_29, hf⟩
                                                            · refine sx_tin hm dX13_step_42 (by rw [n_29]; decide) (by rw [n_29]; decide) (off := 922) (by rw [n_29]; rfl) (tgt := 964) rfl ?_
                                                              clear n_0 n_1 n_2 n_3 n_4 n_5 n_6 n_7 n_8 n_9 n_10 n_11 n_12 n_13 n_14 n_15 n_16 n_17 n_18 n_19 n_20 n_21 n_22 n_23 n_24 n_25 n_26 n_27 n_28 n_29
                                                              refine mx_S.ext [(0, .ref l0), (2, .int l2), (3, .int l3)] (mx_sub_pos [1, 3, 4] rfl (show ([4, 0, 1, 2, 3] : List Nat).Nodup by decide)) ?_
                                                              exact j_X13_step_964_ok X hF hL nn l0 l2 l3 h hf
                                                            · rcases mx_if_el hf with ⟨n_30, hf⟩ | ⟨n_30, hf⟩
                                                              · refine sx_tin hm dX13_step_42 (by rw [n_30]; decide) (by rw [n_30]; decide) (off := 922) (by rw [n_30]; rfl) (tgt := 964) rfl ?_
                                                                clear n_0 n_1 n_2 n_3 n_4 n_5 n_6 n_7 n_8 n_9 n_10 n_11 n_12 n_13 n_14 n_15 n_16 n_17 n_18 n_19 n_20 n_21 n_22 n_23 n_24 n_25 n_26 n_27 n_28 n_29 n_30
                                                                refine mx_S.ext [(0, .ref l0), (2, .int l2), (3, .int l3)] (mx_sub_pos [1, 3, 4] rfl (show ([4, 0, 1, 2, 3] : List Nat).Nodup by decide)) ?_
                                                                exact j_X13_step_964_ok X hF hL nn l0 l2 l3 h hf
                                                              · rcases mx_if_el hf with ⟨n_31, hf⟩ | ⟨n_31, hf⟩
                                                                · refine sx_tin hm dX13_step_42 (by rw [n_31]; decide) (by rw [n_31]; decide) (off := 922) (by rw [n_31]; rfl) (tgt := 964) rfl ?_
                                                                  clear n_0 n_1 n_2 n_3 n_4 n_5 n_6 n_7 n_8 n_9 n_10 n_11 n_12 n_13 n_14 n_15 n_16 n_17 n_18 n_19 n_20 n_21 n_22 n_23 n_24 n_25 n_26 n_27 n_28 n_29 n_30 n_31
                                                                  refine mx_S.ext [(0, .ref l0), (2, .int l2), (3, .int l3)] (mx_sub_pos [1, 3, 4] rfl (show ([4, 0, 1, 2, 3] : List Nat).Nodup by decide)) ?_
                                                                  exact j_X13_step_964_ok X hF hL nn l0 l2 l3 h hf
                                                                · rcases mx_if_el hf with ⟨n_32, hf⟩ | ⟨n_32, hf⟩
                                                                  · refine sx_tin hm dX13_step_42 (by rw [n_32]; decide) (by rw [n_32]; decide) (off := 922) (by rw [n_32]; rfl) (tgt := 964) rfl ?_
                                                                    clear n_0 n_1 n_2 n_3 n_4 n_5 n_6 n_7 n_8 n_9 n_10 n_11 n_12 n_13 n_14 n_15 n_16 n_17 n_18 n_19 n_20 n_21 n_22 n_23 n_24 n_25 n_26 n_27 n_28 n_29 n_30 n_31 n_32
                                                                    refine mx_S.ext [(0, .ref l0), (2, .int l2), (3, .int l3)] (mx_sub_pos [1, 3, 4] rfl (show ([4, 0, 1, 2, 3] : List Nat).Nodup by decide)) ?_
                                                                    exact j_X13_step_964_ok X hF hL nn l0 l2 l3 h hf
                                                                  · rcases mx_if_el hf with ⟨n_33, hf⟩ | ⟨n_33, hf⟩
                                                                    · refine sx_tin hm dX13_step_42 (by rw [n_33]; decide) (by rw [n_33]; decide) (off := 972) (by rw [n_33]; rfl) (tgt := 1014) rfl ?_
                                                                      clear n_0 n_1 n_2 n_3 n_4 n_5 n_6 n_7 n_8 n_9 n_10 n_11 n_12 n_13 n_14 n_15 n_16 n_17 n_18 n_19 n_20 n_21 n_22 n_23 n_24 n_25 n_26 n_27 n_28 n_29 n_30 n_31 n_32 n_33
                                                                      refine mx_S.ext [(0, .ref l0), (2, .int l2)] (mx_sub_pos [1, 3] rfl (show ([4, 0, 1, 2, 3] : List Nat).Nodup by decide)) ?_
                                                                      exact j_X13_step_1014_ok X hF hL nn l0 l2 h hf
                                                                    · rcases mx_if_el hf with ⟨n_34, hf⟩ | ⟨n_34, hf⟩
                                                                      · refine sx_tin hm dX13_step_42 (by rw [n_34]; decide) (by rw [n_34]; decide) (off := 972) (by rw [n_34]; rfl) (tgt := 1014) rfl ?_
                                                                        clear n_0 n_1 n_2 n_3 n_4 n_5 n_6 n_7 n_8 n_9 n_10 n_11 n_12 n_13 n_14 n_15 n_16 n_17 n_18 n_19 n_20 n_21 n_22 n_23 n_24 n_25 n_26 n_27 n_28 n_29 n_30 n_31 n_32 n_33 n_34
                                                                        refine mx_S.ext [(0, .ref l0), (2, .int l2)] (mx_sub_pos [1, 3] rfl (show ([4, 0, 1, 2, 3] : List Nat).Nodup by decide)) ?_
                                                                        exact j_X13_step_1014_ok X hF hL nn l0 l2 h hf
                                                                      · rcases mx_if_el hf with ⟨n_35, hf⟩ | ⟨n_35, hf⟩
                                                                        · refine sx_tin hm dX13_step_42 (by rw [n_35]; decide) (by rw [n_35]; decide) (off := 972) (by rw [n_35]; rfl) (tgt := 1014) rfl ?_
                                                                          clear n_0 n_1 n_2 n_3 n_4 n_5 n_6 n_7 n_8 n_9 n_10 n_11 n_12 n_13 n_14 n_15 n_16 n_17 n_18 n_19 n_20 n_21 n_22 n_23 n_24 n_25 n_26 n_27 n_28 n_29 n_30 n_31 n_32 n_33 n_34 n_35
                                                                          refine mx_S.ext [(0, .ref l0), (2, .int l2)] (mx_sub_pos [1, 3] rfl (show ([4, 0, 1, 2, 3] : List Nat).Nodup by decide)) ?_
                                                                          exact j_X13_step_1014_ok X hF hL nn l0 l2 h hf
                                                                        · rcases mx_if_el hf with ⟨n_36, hf⟩ | ⟨n_36, hf⟩
                                                                          · refine sx_tin hm dX13_step_42 (by rw [n_36]; decide) (by rw [n_36]; decide) (off := 978) (by rw [n_36]; rfl) (tgt := 1020) rfl ?_
                                                                            clear n_0 n_1 n_2 n_3 n_4 n_5 n_6 n_7 n_8 n_9 n_10 n_11 n_12 n_13 n_14 n_15 n_16 n_17 n_18 n_19 n_20 n_21 n_22 n_23 n_24 n_25 n_26 n_27 n_28 n_29 n_30 n_31 n_32 n_33 n_34 n_35 n_36
                                                                            refine mx_S.ext [(0, .ref l0), (2, .int l2), (3, .int l3), (4, .int s0)] (mx_sub_pos [1, 3, 4, 0] rfl (show ([4, 0, 1, 2, 3] : List Nat).Nodup by decide)) ?_
                                                                            exact j_X13_step_1020_ok X hF hL nn l0 l2 l3 s0 h hf
                                                                          · rcases mx_if_el hf with ⟨n_37, hf⟩ | ⟨n_37, hf⟩
                                                                            · refine sx_tin hm dX13_step_42 (by rw [n_37]; decide) (by rw [n_37]; decide) (off := 978) (by rw [n_37]; rfl) (tgt := 1020) rfl ?_
                                                                              clear n_0 n_1 n_2 n_3 n_4 n_5 n_6 n_7 n_8 n_9 n_10 n_11 n_12 n_13 n_14 n_15 n_16 n_17 n_18 n_19 n_20 n_21 n_22 n_23 n_24 n_25 n_26 n_27 n_28 n_29 n_30 n_31 n_32 n_33 n_34 n_35 n_36 n_37
                                                                              refine mx_S.ext [(0, .ref l0), (2, .int l2), (3, .int l3), (4, .int s0)] (mx_sub_pos [1, 3, 4, 0] rfl (show ([4, 0, 1, 2, 3] : List Nat).Nodup by decide)) ?_
                                                                              exact j_X13_step_1020_ok X hF hL nn l0 l2 l3 s0 h hf
                                                                            · rcases mx_if_el hf with ⟨n_38, hf⟩ | ⟨n_38, hf⟩
                                                                              · refine sx_tin hm dX13_step_42 (by rw [n_38]; decide) (by rw [n_38]; decide) (off := 987) (by rw [n_38]; rfl) (tgt := 1029) rfl ?_
                                                                                clear n_0 n_1 n_2 n_3 n_4 n_5 n_6 n_7 n_8 n_9 n_10 n_11 n_12 n_13 n_14 n_15 n_16 n_17 n_18 n_19 n_20 n_21 n_22 n_23 n_24 n_25 n_26 n_27 n_28 n_29 n_30 n_31 n_32 n_33 n_34 n_35 n_36 n_37 n_38
                                                                                refine mx_S.ext [(0, .ref l0), (2, .int l2), (4, .int s0)] (mx_sub_pos [1, 3, 0] rfl (show ([4, 0, 1, 2, 3] : List Nat).Nodup by decide)) ?_
                                                                                exact j_X13_step_1029_ok X hF hL nn l0 l2 s0 h hf
                                                                              · rcases mx_if_el hf with ⟨n_39, hf⟩ | ⟨n_39, hf⟩
                                                                                · refine sx_tin hm dX13_step_42 (by rw [n_39]; decide) (by rw [n_39]; decide) (off := 987) (by rw [n_39]; rfl) (tgt := 1029) rfl ?_
                                                                                  clear n_0 n_1 n_2 n_3 n_4 n_5 n_6 n_7 n_8 n_9 n_10 n_11 n_12 n_13 n_14 n_15 n_16 n_17 n_18 n_19 n_20 n_21 n_22 n_23 n_24 n_25 n_26 n_27 n_28 n_29 n_30 n_31 n_32 n_33 n_34 n_35 n_36 n_37 n_38 n_39
                                                                                  refine mx_S.ext [(0, .ref l0), (2, .int l2), (4, .int s0)] (mx_sub_pos [1, 3, 0] rfl (show ([4, 0, 1, 2, 3] : List Nat).Nodup by decide)) ?_
                                                                                  exact j_X13_step_1029_ok X hF hL nn l0 l2 s0 h hf
                                                                                · rcases mx_if_el hf with ⟨n_40, hf⟩ | ⟨n_40, hf⟩
                                                                                  · refine sx_tin hm dX13_step_42 (by rw [n_40]; decide) (by rw [n_40]; decide) (off := 995) (by rw [n_40]; rfl) (tgt := 1037) rfl ?_
                                                                                    clear n_0 n_1 n_2 n_3 n_4 n_5 n_6 n_7 n_8 n_9 n_10 n_11 n_12 n_13 n_14 n_15 n_16 n_17 n_18 n_19 n_20 n_21 n_22 n_23 n_24 n_25 n_26 n_27 n_28 n_29 n_30 n_31 n_32 n_33 n_34 n_35 n_36 n_37 n_38 n_39 n_40
                                                                                    refine mx_S.pu (pc2 := 1038) (lv2 := [(4, .int s0), (0, .ref l0), (1, .int l1), (2, .int l2), (3, .int l3)]) (st2 := [.ref l0]) hm dX13_step_1037 rfl ?_
                                                                                    replace hf := mx_gd_el hf; obtain ⟨c80, hf⟩ := hf
                                                                                    replace hf := mx_sv_el hf; obtain ⟨u81, e_u81, hf⟩ := hf
                                                                                    refine sx_cv hm dX13_step_1038 rs_RX13_1087 mt_X13_drop [] [] (b := l0) (ci := 13) rfl rfl rfl c80 (Nat.le_of_ble_eq_true rfl) (Nat.le_of_ble_eq_true rfl) (by omega) (by omega) (f_X13_drop_ok X (by omega) (by omega) nn l0 h e_u81) ?_
                                                                                    clear e_u81
                                                                                    show mx_S X F L 582 1041 [(4, .int s0), (0, .ref l0), (1, .int l1), (2, .int l2), (3, .int l3)] [.int u81.1] u81.2 0 0 (none, r, 0, 0)
                                                                                    refine mx_S.pu (pc2 := 1043) (lv2 := [(5, .int u81.1), (4, .int s0), (0, .ref l0), (1, .int l1), (2, .int l2), (3, .int l3)]) (st2 := []) hm dX13_step_1041 rfl ?_
                                                                                    refine mx_S.pu (pc2 := 1044) (lv2 := [(5, .int u81.1), (4, .int s0), (0, .ref l0), (1, .int l1), (2, .int l2), (3, .int l3)]) (st2 := [.ref l0]) hm dX13_step_1043 rfl ?_
                                                                                    replace hf := mx_sv_el hf; obtain ⟨v82, e_v82, hf⟩ := hf
                                                                                    refine sx_get hm dX13_step_1044 rs_RX13_1055 (xgi_el e_v82) ?_
                                                                                    clear e_v82
                                                                                    refine sx_si (v := 1000) hm dX13_step_1047 (by decide) ?_
                                                                                    rcases mx_if_el hf with ⟨c86, hf⟩ | ⟨c86, hf⟩
                                                                                    · refine sb_ic_ge hm dX13_step_1050 (tgt := 1064) rfl (fun _ => ?_) (fun z => absurd c86 z)
                                                                                      refine mx_S.ext [(0, .ref l0), (3, .int l3)] (mx_sub_pos [2, 5] rfl (show ([5, 4, 0, 1, 2, 3] : List Nat).Nodup by decide)) ?_
                                                                                      exact j_X13_step_1064_ok X hF hL nn l0 l3 u81.2 hf
                                                                                    · refine sb_ic_ge hm dX13_step_1050 (tgt := 1064) rfl (fun z => absurd z c86) (fun _ => ?_)
                                                                                      refine mx_S.pu (pc2 := 1054) (lv2 := [(5, .int u81.1), (4, .int s0), (0, .ref l0), (1, .int l1), (2, .int l2), (3, .int l3)]) (st2 := [.ref l0]) hm dX13_step_1053 rfl ?_
                                                                                      replace hf := mx_sv_el hf; obtain ⟨v83, e_v83, hf⟩ := hf
                                                                                      refine sx_get hm dX13_step_1054 rs_RX13_291 (xgr_el e_v83) ?_
                                                                                      clear e_v83
                                                                                      refine mx_S.pu (pc2 := 1058) (lv2 := [(5, .int u81.1), (4, .int s0), (0, .ref l0), (1, .int l1), (2, .int l2), (3, .int l3)]) (st2 := [.ref l0, .ref v83]) hm dX13_step_1057 rfl ?_
                                                                                      replace hf := mx_sv_el hf; obtain ⟨v84, e_v84, hf⟩ := hf
                                                                                      refine sx_get hm dX13_step_1058 rs_RX13_1055 (xgi_el e_v84) ?_
                                                                                      clear e_v84
                                                                                      refine mx_S.pu (pc2 := 1063) (lv2 := [(5, .int u81.1), (4, .int s0), (0, .ref l0), (1, .int l1), (2, .int l2), (3, .int l3)]) (st2 := [.int u81.1, .int v84, .ref v83]) hm dX13_step_1061 rfl ?_
                                                                                      replace hf := mx_sv_el hf; obtain ⟨h85, e_h85, hf⟩ := hf
                                                                                      refine sx_ast hm dX13_step_1063 e_h85 ?_
                                                                                      clear e_h85
                                                                                      refine mx_S.ext [(0, .ref l0), (3, .int l3)] (mx_sub_pos [2, 5] rfl (show ([5, 4, 0, 1, 2, 3] : List Nat).Nodup by decide)) ?_
                                                                                      exact j_X13_step_1064_ok X hF hL nn l0 l3 h85 hf
                                                                                  · rcases mx_if_el hf with ⟨n_41, hf⟩ | ⟨n_41, hf⟩
                                                                                    · refine sx_tin hm dX13_step_42 (by rw [n_41]; decide) (by rw [n_41]; decide) (off := 1035) (by rw [n_41]; rfl) (tgt := 1077) rfl ?_
                                                                                      clear n_0 n_1 n_2 n_3 n_4 n_5 n_6 n_7 n_8 n_9 n_10 n_11 n_12 n_13 n_14 n_15 n_16 n_17 n_18 n_19 n_20 n_21 n_22 n_23 n_24 n_25 n_26 n_27 n_28 n_29 n_30 n_31 n_32 n_33 n_34 n_35 n_36 n_37 n_38 n_39 n_40 n_41
                                                                                      refine mx_S.ext [(0, .ref l0), (2, .int l2), (4, .int s0)] (mx_sub_pos [1, 3, 0] rfl (show ([4, 0, 1, 2, 3] : List Nat).Nodup by decide)) ?_
                                                                                      exact j_X13_step_1077_ok X hF hL nn l0 l2 s0 h hf
                                                                                    · rcases mx_if_el hf with ⟨n_42, hf⟩ | ⟨n_42, hf⟩
                                                                                      · refine sx_tin hm dX13_step_42 (by rw [n_42]; decide) (by rw [n_42]; decide) (off := 1035) (by rw [n_42]; rfl) (tgt := 1077) rfl ?_
                                                                                        clear n_0 n_1 n_2 n_3 n_4 n_5 n_6 n_7 n_8 n_9 n_10 n_11 n_12 n_13 n_14 n_15 n_16 n_17 n_18 n_19 n_20 n_21 n_22 n_23 n_24 n_25 n_26 n_27 n_28 n_29 n_30 n_31 n_32 n_33 n_34 n_35 n_36 n_37 n_38 n_39 n_40 n_41 n_42
                                                                                        refine mx_S.ext [(0, .ref l0), (2, .int l2), (4, .int s0)] (mx_sub_pos [1, 3, 0] rfl (show ([4, 0, 1, 2, 3] : List Nat).Nodup by decide)) ?_
                                                                                        exact j_X13_step_1077_ok X hF hL nn l0 l2 s0 h hf
                                                                                      · rcases mx_if_el hf with ⟨n_43, hf⟩ | ⟨n_43, hf⟩
                                                                                        · refine sx_tin hm dX13_step_42 (by rw [n_43]; decide) (by rw [n_43]; decide) (off := 1035) (by rw [n_43]; rfl) (tgt := 1077) rfl ?_
                                                                                          clear n_0 n_1 n_2 n_3 n_4 n_5 n_6 n_7 n_8 n_9 n_10 n_11 n_12 n_13 n_14 n_15 n_16 n_17 n_18 n_19 n_20 n_21 n_22 n_23 n_24 n_25 n_26 n_27 n_28 n_29 n_30 n_31 n_32 n_33 n_34 n_35 n_36 n_37 n_38 n_39 n_40 n_41 n_42 n_43
                                                                                          refine mx_S.ext [(0, .ref l0), (2, .int l2), (4, .int s0)] (mx_sub_pos [1, 3, 0] rfl (show ([4, 0, 1, 2, 3] : List Nat).Nodup by decide)) ?_
                                                                                          exact j_X13_step_1077_ok X hF hL nn l0 l2 s0 h hf
                                                                                        · rcases mx_if_el hf with ⟨n_44, hf⟩ | ⟨n_44, hf⟩
                                                                                          · refine sx_tin hm dX13_step_42 (by rw [n_44]; decide) (by rw [n_44]; decide) (off := 978) (by rw [n_44]; rfl) (tgt := 1020) rfl ?_
                                                                                            clear n_0 n_1 n_2 n_3 n_4 n_5 n_6 n_7 n_8 n_9 n_10 n_11 n_12 n_13 n_14 n_15 n_16 n_17 n_18 n_19 n_20 n_21 n_22 n_23 n_24 n_25 n_26 n_27 n_28 n_29 n_30 n_31 n_32 n_33 n_34 n_35 n_36 n_37 n_38 n_39 n_40 n_41 n_42 n_43 n_44
                                                                                            refine mx_S.ext [(0, .ref l0), (2, .int l2), (3, .int l3), (4, .int s0)] (mx_sub_pos [1, 3, 4, 0] rfl (show ([4, 0, 1, 2, 3] : List Nat).Nodup by decide)) ?_
                                                                                            exact j_X13_step_1020_ok X hF hL nn l0 l2 l3 s0 h hf
                                                                                          · rcases mx_if_el hf with ⟨n_45, hf⟩ | ⟨n_45, hf⟩
                                                                                            · refine sx_tin hm dX13_step_42 (by rw [n_45]; decide) (by rw [n_45]; decide) (off := 1043) (by rw [n_45]; rfl) (tgt := 1085) rfl ?_
                                                                                              clear n_0 n_1 n_2 n_3 n_4 n_5 n_6 n_7 n_8 n_9 n_10 n_11 n_12 n_13 n_14 n_15 n_16 n_17 n_18 n_19 n_20 n_21 n_22 n_23 n_24 n_25 n_26 n_27 n_28 n_29 n_30 n_31 n_32 n_33 n_34 n_35 n_36 n_37 n_38 n_39 n_40 n_41 n_42 n_43 n_44 n_45
                                                                                              refine mx_S.pu (pc2 := 1086) (lv2 := [(4, .int s0), (0, .ref l0), (1, .int l1), (2, .int l2), (3, .int l3)]) (st2 := [.ref l0]) hm dX13_step_1085 rfl ?_
                                                                                              replace hf := mx_gd_el hf; obtain ⟨c87, hf⟩ := hf
                                                                                              replace hf := mx_sv_el hf; obtain ⟨u88, e_u88, hf⟩ := hf
                                                                                              refine sx_cv hm dX13_step_1086 rs_RX13_1087 mt_X13_drop [] [] (b := l0) (ci := 13) rfl rfl rfl c87 (Nat.le_of_ble_eq_true rfl) (Nat.le_of_ble_eq_true rfl) (by omega) (by omega) (f_X13_drop_ok X (by omega) (by omega) nn l0 h e_u88) ?_
                                                                                              clear e_u88
                                                                                              show mx_S X F L 582 1089 [(4, .int s0), (0, .ref l0), (1, .int l1), (2, .int l2), (3, .int l3)] [.int u88.1] u88.2 0 0 (none, r, 0, 0)
                                                                                              refine mx_S.pu (pc2 := 1091) (lv2 := [(5, .int u88.1), (4, .int s0), (0, .ref l0), (1, .int l1), (2, .int l2), (3, .int l3)]) (st2 := []) hm dX13_step_1089 rfl ?_
                                                                                              refine mx_S.pu (pc2 := 1093) (lv2 := [(5, .int u88.1), (4, .int s0), (0, .ref l0), (1, .int l1), (2, .int l2), (3, .int l3)]) (st2 := [.int u88.1]) hm dX13_step_1091 rfl ?_
                                                                                              rcases mx_if_el hf with ⟨c93, hf⟩ | ⟨c93, hf⟩
                                                                                              · refine sb_if_ne hm dX13_step_1093 (tgt := 1104) rfl (fun _ => ?_) (fun z => absurd c93 z)
                                                                                                refine mx_S.pu (pc2 := 1105) (lv2 := [(5, .int u88.1), (4, .int s0), (0, .ref l0), (1, .int l1), (2, .int l2), (3, .int l3)]) (st2 := [.ref l0]) hm dX13_step_1104 rfl ?_
                                                                                                refine mx_S.pu (pc2 := 1107) (lv2 := [(5, .int u88.1), (4, .int s0), (0, .ref l0), (1, .int l1), (2, .int l2), (3, .int l3)]) (st2 := [.int u88.1, .ref l0]) hm dX13_step_1105 rfl ?_
                                                                                                replace hf := mx_gd_el hf; obtain ⟨c89, hf⟩ := hf
                                                                                                replace hf := mx_sv_el hf; obtain ⟨u90, e_u90, hf⟩ := hf
                                                                                                refine sx_cv hm dX13_step_1107 rs_RX13_1066 mt_X13_thrown [.int u88.1] [] (b := l0) (ci := 13) rfl rfl rfl c89 (Nat.le_of_ble_eq_true rfl) (Nat.le_of_ble_eq_true rfl) (by omega) (by omega) (f_X13_thrown_ok X (by omega) (by omega) nn l0 u88.1 u88.2 e_u90) ?_
                                                                                                clear e_u90
                                                                                                show mx_S X F L 582 1110 [(5, .int u88.1), (4, .int s0), (0, .ref l0), (1, .int l1), (2, .int l2), (3, .int l3)] [] u90 0 0 (none, r, 0, 0)
                                                                                                cases hf
                                                                                                exact sx_ret hm dX13_step_1110 rfl
                                                                                              · refine sb_if_ne hm dX13_step_1093 (tgt := 1104) rfl (fun z => absurd z c93) (fun _ => ?_)
                                                                                                refine mx_S.pu (pc2 := 1097) (lv2 := [(5, .int u88.1), (4, .int s0), (0, .ref l0), (1, .int l1), (2, .int l2), (3, .int l3)]) (st2 := [.ref l0]) hm dX13_step_1096 rfl ?_
                                                                                                refine sx_ic (v := 2) hm dX13_step_1097 (by decide) ?_
                                                                                                replace hf := mx_gd_el hf; obtain ⟨c91, hf⟩ := hf
                                                                                                replace hf := mx_sv_el hf; obtain ⟨u92, e_u92, hf⟩ := hf
                                                                                                refine sx_cv hm dX13_step_1098 rs_RX13_1093 mt_X13_fails [.int 2] [] (b := l0) (ci := 13) rfl rfl rfl c91 (Nat.le_of_ble_eq_true rfl) (Nat.le_of_ble_eq_true rfl) (by omega) (by omega) (f_X13_fails_ok X (by omega) (by omega) nn l0 2 u88.2 e_u92) ?_
                                                                                                clear e_u92
                                                                                                show mx_S X F L 582 1101 [(5, .int u88.1), (4, .int s0), (0, .ref l0), (1, .int l1), (2, .int l2), (3, .int l3)] [] u92 0 0 (none, r, 0, 0)
                                                                                                refine mx_S.pu (pc2 := 1110) (lv2 := [(5, .int u88.1), (4, .int s0), (0, .ref l0), (1, .int l1), (2, .int l2), (3, .int l3)]) (st2 := []) hm dX13_step_1101 rfl ?_
                                                                                                cases hf
                                                                                                exact sx_ret hm dX13_step_1110 rfl
                                                                                            · rcases mx_if_el hf with ⟨n_46, hf⟩ | ⟨n_46, hf⟩
                                                                                              · refine sx_tin hm dX13_step_42 (by rw [n_46]; decide) (by rw [n_46]; decide) (off := 1069) (by rw [n_46]; rfl) (tgt := 1111) rfl ?_
                                                                                                clear n_0 n_1 n_2 n_3 n_4 n_5 n_6 n_7 n_8 n_9 n_10 n_11 n_12 n_13 n_14 n_15 n_16 n_17 n_18 n_19 n_20 n_21 n_22 n_23 n_24 n_25 n_26 n_27 n_28 n_29 n_30 n_31 n_32 n_33 n_34 n_35 n_36 n_37 n_38 n_39 n_40 n_41 n_42 n_43 n_44 n_45 n_46
                                                                                                refine mx_S.ext [(0, .ref l0), (2, .int l2), (3, .int l3), (4, .int s0)] (mx_sub_pos [1, 3, 4, 0] rfl (show ([4, 0, 1, 2, 3] : List Nat).Nodup by decide)) ?_
                                                                                                exact j_X13_step_1111_ok X hF hL nn l0 l2 l3 s0 h hf
                                                                                              · rcases mx_if_el hf with ⟨n_47, hf⟩ | ⟨n_47, hf⟩
                                                                                                · refine sx_tin hm dX13_step_42 (by rw [n_47]; decide) (by rw [n_47]; decide) (off := 1069) (by rw [n_47]; rfl) (tgt := 1111) rfl ?_
                                                                                                  clear n_0 n_1 n_2 n_3 n_4 n_5 n_6 n_7 n_8 n_9 n_10 n_11 n_12 n_13 n_14 n_15 n_16 n_17 n_18 n_19 n_20 n_21 n_22 n_23 n_24 n_25 n_26 n_27 n_28 n_29 n_30 n_31 n_32 n_33 n_34 n_35 n_36 n_37 n_38 n_39 n_40 n_41 n_42 n_43 n_44 n_45 n_46 n_47
                                                                                                  refine mx_S.ext [(0, .ref l0), (2, .int l2), (3, .int l3), (4, .int s0)] (mx_sub_pos [1, 3, 4, 0] rfl (show ([4, 0, 1, 2, 3] : List Nat).Nodup by decide)) ?_
                                                                                                  exact j_X13_step_1111_ok X hF hL nn l0 l2 l3 s0 h hf
                                                                                                · rcases (show (l2.toInt < 0 ∨ 193 < l2.toInt) ∨ l2.toInt = 0 ∨ l2.toInt = 1 ∨ l2.toInt = 2 ∨ l2.toInt = 3 ∨ l2.toInt = 4 ∨ l2.toInt = 5 ∨ l2.toInt = 6 ∨ l2.toInt = 7 ∨ l2.toInt = 8 ∨ l2.toInt = 9 ∨ l2.toInt = 10 ∨ l2.toInt = 11 ∨ l2.toInt = 12 ∨ l2.toInt = 13 ∨ l2.toInt = 14 ∨ l2.toInt = 15 ∨ l2.toInt = 16 ∨ l2.toInt = 17 ∨ l2.toInt = 18 ∨ l2.toInt = 19 ∨ l2.toInt = 20 ∨ l2.toInt = 21 ∨ l2.toInt = 22 ∨ l2.toInt = 23 ∨ l2.toInt = 24 ∨ l2.toInt = 25 ∨ l2.toInt = 26 ∨ l2.toInt = 27 ∨ l2.toInt = 28 ∨ l2.toInt = 29 ∨ l2.toInt = 30 ∨ l2.toInt = 31 ∨ l2.toInt = 32 ∨ l2.toInt = 33 ∨ l2.toInt = 34 ∨ l2.toInt = 35 ∨ l2.toInt = 36 ∨ l2.toInt = 37 ∨ l2.toInt = 38 ∨ l2.toInt = 39 ∨ l2.toInt = 40 ∨ l2.toInt = 41 ∨ l2.toInt = 42 ∨ l2.toInt = 43 ∨ l2.toInt = 44 ∨ l2.toInt = 45 ∨ l2.toInt = 46 ∨ l2.toInt = 47 ∨ l2.toInt = 48 ∨ l2.toInt = 49 ∨ l2.toInt = 50 ∨ l2.toInt = 51 ∨ l2.toInt = 52 ∨ l2.toInt = 53 ∨ l2.toInt = 54 ∨ l2.toInt = 55 ∨ l2.toInt = 56 ∨ l2.toInt = 57 ∨ l2.toInt = 58 ∨ l2.toInt = 59 ∨ l2.toInt = 60 ∨ l2.toInt = 61 ∨ l2.toInt = 62 ∨ l2.toInt = 63 ∨ l2.toInt = 64 ∨ l2.toInt = 65 ∨ l2.toInt = 66 ∨ l2.toInt = 67 ∨ l2.toInt = 68 ∨ l2.toInt = 69 ∨ l2.toInt = 70 ∨ l2.toInt = 71 ∨ l2.toInt = 72 ∨ l2.toInt = 73 ∨ l2.toInt = 74 ∨ l2.toInt = 75 ∨ l2.toInt = 76 ∨ l2.toInt = 77 ∨ l2.toInt = 78 ∨ l2.toInt = 79 ∨ l2.toInt = 80 ∨ l2.toInt = 81 ∨ l2.toInt = 82 ∨ l2.toInt = 83 ∨ l2.toInt = 84 ∨ l2.toInt = 85 ∨ l2.toInt = 86 ∨ l2.toInt = 87 ∨ l2.toInt = 88 ∨ l2.toInt = 89 ∨ l2.toInt = 90 ∨ l2.toInt = 91 ∨ l2.toInt = 92 ∨ l2.toInt = 93 ∨ l2.toInt = 94 ∨ l2.toInt = 95 ∨ l2.toInt = 96 ∨ l2.toInt = 97 ∨ l2.toInt = 98 ∨ l2.toInt = 99 ∨ l2.toInt = 100 ∨ l2.toInt = 101 ∨ l2.toInt = 102 ∨ l2.toInt = 103 ∨ l2.toInt = 104 ∨ l2.toInt = 105 ∨ l2.toInt = 106 ∨ l2.toInt = 107 ∨ l2.toInt = 108 ∨ l2.toInt = 109 ∨ l2.toInt = 110 ∨ l2.toInt = 111 ∨ l2.toInt = 112 ∨ l2.toInt = 113 ∨ l2.toInt = 114 ∨ l2.toInt = 115 ∨ l2.toInt = 116 ∨ l2.toInt = 117 ∨ l2.toInt = 118 ∨ l2.toInt = 119 ∨ l2.toInt = 120 ∨ l2.toInt = 121 ∨ l2.toInt = 122 ∨ l2.toInt = 123 ∨ l2.toInt = 124 ∨ l2.toInt = 125 ∨ l2.toInt = 126 ∨ l2.toInt = 127 ∨ l2.toInt = 128 ∨ l2.toInt = 129 ∨ l2.toInt = 130 ∨ l2.toInt = 131 ∨ l2.toInt = 132 ∨ l2.toInt = 133 ∨ l2.toInt = 134 ∨ l2.toInt = 135 ∨ l2.toInt = 136 ∨ l2.toInt = 137 ∨ l2.toInt = 138 ∨ l2.toInt = 139 ∨ l2.toInt = 140 ∨ l2.toInt = 141 ∨ l2.toInt = 142 ∨ l2.toInt = 143 ∨ l2.toInt = 144 ∨ l2.toInt = 145 ∨ l2.toInt = 146 ∨ l2.toInt = 147 ∨ l2.toInt = 148 ∨ l2.toInt = 149 ∨ l2.toInt = 150 ∨ l2.toInt = 151 ∨ l2.toInt = 152 ∨ l2.toInt = 153 ∨ l2.toInt = 154 ∨ l2.toInt = 155 ∨ l2.toInt = 156 ∨ l2.toInt = 157 ∨ l2.toInt = 158 ∨ l2.toInt = 159 ∨ l2.toInt = 160 ∨ l2.toInt = 161 ∨ l2.toInt = 162 ∨ l2.toInt = 163 ∨ l2.toInt = 164 ∨ l2.toInt = 165 ∨ l2.toInt = 166 ∨ l2.toInt = 167 ∨ l2.toInt = 168 ∨ l2.toInt = 169 ∨ l2.toInt = 170 ∨ l2.toInt = 171 ∨ l2.toInt = 172 ∨ l2.toInt = 173 ∨ l2.toInt = 174 ∨ l2.toInt = 175 ∨ l2.toInt = 176 ∨ l2.toInt = 177 ∨ l2.toInt = 178 ∨ l2.toInt = 179 ∨ l2.toInt = 180 ∨ l2.toInt = 181 ∨ l2.toInt = 182 ∨ l2.toInt = 183 ∨ l2.toInt = 184 ∨ l2.toInt = 185 ∨ l2.toInt = 186 ∨ l2.toInt = 187 ∨ l2.toInt = 188 ∨ l2.toInt = 189 ∨ l2.toInt = 190 ∨ l2.toInt = 191 ∨ l2.toInt = 192 ∨ l2.toInt = 193 by omega) with z0 | z0 | z0 | z0 | z0 | z0 | z0 | z0 | z0 | z0 | z0 | z0 | z0 | z0 | z0 | z0 | z0 | z0 | z0 | z0 | z0 | z0 | z0 | z0 | z0 | z0 | z0 | z0 | z0 | z0 | z0 | z0 | z0 | z0 | z0 | z0 | z0 | z0 | z0 | z0 | z0 | z0 | z0 | z0 | z0 | z0 | z0 | z0 | z0 | z0 | z0 | z0 | z0 | z0 | z0 | z0 | z0 | z0 | z0 | z0 | z0 | z0 | z0 | z0 | z0 | z0 | z0 | z0 | z0 | z0 | z0 | z0 | z0 | z0 | z0 | z0 | z0 | z0 | z0 | z0 | z0 | z0 | z0 | z0 | z0 | z0 | z0 | z0 | z0 | z0 | z0 | z0 | z0 | z0 | z0 | z0 | z0 | z0 | z0 | z0 | z0 | z0 | z0 | z0 | z0 | z0 | z0 | z0 | z0 | z0 | z0 | z0 | z0 | z0 | z0 | z0 | z0 | z0 | z0 | z0 | z0 | z0 | z0 | z0 | z0 | z0 | z0 | z0 | z0 | z0 | z0 | z0 | z0 | z0 | z0 | z0 | z0 | z0 | z0 | z0 | z0 | z0 | z0 | z0 | z0 | z0 | z0 | z0 | z0 | z0 | z0 | z0 | z0 | z0 | z0 | z0 | z0 | z0 | z0 | z0 | z0 | z0 | z0 | z0 | z0 | z0 | z0 | z0 | z0 | z0 | z0 | z0 | z0 | z0 | z0 | z0 | z0 | z0 | z0 | z0 | z0 | z0 | z0 | z0 | z0 | z0 | z0 | z0 | z0 | z0 | z0 | z0 | z0 | z0 | z0
                                                                                                  · refine sx_tout hm dX13_step_42 z0 (tgt := 1122) rfl ?_
                                                                                                    refine mx_S.ext [(0, .ref l0), (1, .int l1), (2, .int l2), (3, .int l3)] (mx_sub_pos [1, 2, 3, 4] rfl (show ([4, 0, 1, 2, 3] : List Nat).Nodup by decide)) ?_
                                                                                                    exact j_X13_step_1122_ok X hF hL nn l0 l1 l2 l3 h hf
                                                                                                  · exact absurd (Int32.toInt_inj.mp (z0.trans (by decide : (0 : Int) = (0 : Int32).toInt))) n_0
                                                                                                  · exact absurd (Int32.toInt_inj.mp (z0.trans (by decide : (1 : Int) = (1 : Int32).toInt))) n_1
                                                                                                  · exact absurd (Int32.toInt_inj.mp (z0.trans (by decide : (2 : Int) = (2 : Int32).toInt))) n_2
                                                                                                  · exact absurd (Int32.toInt_inj.mp (z0.trans (by decide : (3 : Int) = (3 : Int32).toInt))) n_3
                                                                                                  · exact absurd (Int32.toInt_inj.mp (z0.trans (by decide : (4 : Int) = (4 : Int32).toInt))) n_4
                                                                                                  · exact absurd (Int32.toInt_inj.mp (z0.trans (by decide : (5 : Int) = (5 : Int32).toInt))) n_5
                                                                                                  · exact absurd (Int32.toInt_inj.mp (z0.trans (by decide : (6 : Int) = (6 : Int32).toInt))) n_6
                                                                                                  · exact absurd (Int32.toInt_inj.mp (z0.trans (by decide : (7 : Int) = (7 : Int32).toInt))) n_7
                                                                                                  · exact absurd (Int32.toInt_inj.mp (z0.trans (by decide : (8 : Int) = (8 : Int32).toInt))) n_8
                                                                                                  · refine sx_tin hm dX13_step_42 (by omega) (by omega) (off := 1080) (by rw [z0]; rfl) (tgt := 1122) rfl ?_
                                                                                                    refine mx_S.ext [(0, .ref l0), (1, .int l1), (2, .int l2), (3, .int l3)] (mx_sub_pos [1, 2, 3, 4] rfl (show ([4, 0, 1, 2, 3] : List Nat).Nodup by decide)) ?_
                                                                                                    exact j_X13_step_1122_ok X hF hL nn l0 l1 l2 l3 h hf
                                                                                                  · refine sx_tin hm dX13_step_42 (by omega) (by omega) (off := 1080) (by rw [z0]; rfl) (tgt := 1122) rfl ?_
                                                                                                    refine mx_S.ext [(0, .ref l0), (1, .int l1), (2, .int l2), (3, .int l3)] (mx_sub_pos [1, 2, 3, 4] rfl (show ([4, 0, 1, 2, 3] : List Nat).Nodup by decide)) ?_
                                                                                                    exact j_X13_step_1122_ok X hF hL nn l0 l1 l2 l3 h hf
                                                                                                  · refine sx_tin hm dX13_step_42 (by omega) (by omega) (off := 1080) (by rw [z0]; rfl) (tgt := 1122) rfl ?_
                                                                                                    refine mx_S.ext [(0, .ref l0), (1, .int l1), (2, .int l2), (3, .int l3)] (mx_sub_pos [1, 2, 3, 4] rfl (show ([4, 0, 1, 2, 3] : List Nat).Nodup by decide)) ?_
                                                                                                    exact j_X13_step_1122_ok X hF hL nn l0 l1 l2 l3 h hf
                                                                                                  · refine sx_tin hm dX13_step_42 (by omega) (by omega) (off := 1080) (by rw [z0]; rfl) (tgt := 1122) rfl ?_
                                                                                                    refine mx_S.ext [(0, .ref l0), (1, .int l1), (2, .int l2), (3, .int l3)] (mx_sub_pos [1, 2, 3, 4] rfl (show ([4, 0, 1, 2, 3] : List Nat).Nodup by decide)) ?_
                                                                                                    exact j_X13_step_1122_ok X hF hL nn l0 l1 l2 l3 h hf
                                                                                                  · refine sx_tin hm dX13_step_42 (by omega) (by omega) (off := 1080) (by rw [z0]; rfl) (tgt := 1122) rfl ?_
                                                                                                    refine mx_S.ext [(0, .ref l0), (1, .int l1), (2, .int l2), (3, .int l3)] (mx_sub_pos [1, 2, 3, 4] rfl (show ([4, 0, 1, 2, 3] : List Nat).Nodup by decide)) ?_
                                                                                                    exact j_X13_step_1122_ok X hF hL nn l0 l1 l2 l3 h hf
                                                                                                  · refine sx_tin hm dX13_step_42 (by omega) (by omega) (off := 1080) (by rw [z0]; rfl) (tgt := 1122) rfl ?_
                                                                                                    refine mx_S.ext [(0, .ref l0), (1, .int l1), (2, .int l2), (3, .int l3)] (mx_sub_pos [1, 2, 3, 4] rfl (show ([4, 0, 1, 2, 3] : List Nat).Nodup by decide)) ?_
                                                                                                    exact j_X13_step_1122_ok X hF hL nn l0 l1 l2 l3 h hf
                                                                                                  · refine sx_tin hm dX13_step_42 (by omega) (by omega) (off := 1080) (by rw [z0]; rfl) (tgt := 1122) rfl ?_
                                                                                                    refine mx_S.ext [(0, .ref l0), (1, .int l1), (2, .int l2), (3, .int l3)] (mx_sub_pos [1, 2, 3, 4] rfl (show ([4, 0, 1, 2, 3] : List Nat).Nodup by decide)) ?_
                                                                                                    exact j_X13_step_1122_ok X hF hL nn l0 l1 l2 l3 h hf
                                                                                                  · exact absurd (Int32.toInt_inj.mp (z0.trans (by decide : (16 : Int) = (16 : Int32).toInt))) n_9
                                                                                                  · refine sx_tin hm dX13_step_42 (by omega) (by omega) (off := 1080) (by rw [z0]; rfl) (tgt := 1122) rfl ?_
                                                                                                    refine mx_S.ext [(0, .ref l0), (1, .int l1), (2, .int l2), (3, .int l3)] (mx_sub_pos [1, 2, 3, 4] rfl (show ([4, 0, 1, 2, 3] : List Nat).Nodup by decide)) ?_
                                                                                                    exact j_X13_step_1122_ok X hF hL nn l0 l1 l2 l3 h hf
                                                                                                  · exact absurd (Int32.toInt_inj.mp (z0.trans (by decide : (18 : Int) = (18 : Int32).toInt))) n_10
                                                                                                  · refine sx_tin hm dX13_step_42 (by omega) (by omega) (off := 1080) (by rw [z0]; rfl) (tgt := 1122) rfl ?_
                                                                                                    refine mx_S.ext [(0, .ref l0), (1, .int l1), (2, .int l2), (3, .int l3)] (mx_sub_pos [1, 2, 3, 4] rfl (show ([4, 0, 1, 2, 3] : List Nat).Nodup by decide)) ?_
                                                                                                    exact j_X13_step_1122_ok X hF hL nn l0 l1 l2 l3 h hf
                                                                                                  · refine sx_tin hm dX13_step_42 (by omega) (by omega) (off := 1080) (by rw [z0]; rfl) (tgt := 1122) rfl ?_
                                                                                                    refine mx_S.ext [(0, .ref l0), (1, .int l1), (2, .int l2), (3, .int l3)] (mx_sub_pos [1, 2, 3, 4] rfl (show ([4, 0, 1, 2, 3] : List Nat).Nodup by decide)) ?_
                                                                                                    exact j_X13_step_1122_ok X hF hL nn l0 l1 l2 l3 h hf
                                                                                                  · exact absurd (Int32.toInt_inj.mp (z0.trans (by decide : (21 : Int) = (21 : Int32).toInt))) n_11
                                                                                                  · refine sx_tin hm dX13_step_42 (by omega) (by omega) (off := 1080) (by rw [z0]; rfl) (tgt := 1122) rfl ?_
                                                                                                    refine mx_S.ext [(0, .ref l0), (1, .int l1), (2, .int l2), (3, .int l3)] (mx_sub_pos [1, 2, 3, 4] rfl (show ([4, 0, 1, 2, 3] : List Nat).Nodup by decide)) ?_
                                                                                                    exact j_X13_step_1122_ok X hF hL nn l0 l1 l2 l3 h hf
                                                                                                  · refine sx_tin hm dX13_step_42 (by omega) (by omega) (off := 1080) (by rw [z0]; rfl) (tgt := 1122) rfl ?_
                                                                                                    refine mx_S.ext [(0, .ref l0), (1, .int l1), (2, .int l2), (3, .int l3)] (mx_sub_pos [1, 2, 3, 4] rfl (show ([4, 0, 1, 2, 3] : List Nat).Nodup by decide)) ?_
                                                                                                    exact j_X13_step_1122_ok X hF hL nn l0 l1 l2 l3 h hf
                                                                                                  · refine sx_tin hm dX13_step_42 (by omega) (by omega) (off := 1080) (by rw [z0]; rfl) (tgt := 1122) rfl ?_
                                                                                                    refine mx_S.ext [(0, .ref l0), (1, .int l1), (2, .int l2), (3, .int l3)] (mx_sub_pos [1, 2, 3, 4] rfl (show ([4, 0, 1, 2, 3] : List Nat).Nodup by decide)) ?_
                                                                                                    exact j_X13_step_1122_ok X hF hL nn l0 l1 l2 l3 h hf
                                                                                                  · exact absurd (Int32.toInt_inj.mp (z0.trans (by decide : (25 : Int) = (25 : Int32).toInt))) n_12
                                                                                                  · refine sx_tin hm dX13_step_42 (by omega) (by omega) (off := 1080) (by rw [z0]; rfl) (tgt := 1122) rfl ?_
                                                                                                    refine mx_S.ext [(0, .ref l0), (1, .int l1), (2, .int l2), (3, .int l3)] (mx_sub_pos [1, 2, 3, 4] rfl (show ([4, 0, 1, 2, 3] : List Nat).Nodup by decide)) ?_
                                                                                                    exact j_X13_step_1122_ok X hF hL nn l0 l1 l2 l3 h hf
                                                                                                  · refine sx_tin hm dX13_step_42 (by omega) (by omega) (off := 1080) (by rw [z0]; rfl) (tgt := 1122) rfl ?_
                                                                                                    refine mx_S.ext [(0, .ref l0), (1, .int l1), (2, .int l2), (3, .int l3)] (mx_sub_pos [1, 2, 3, 4] rfl (show ([4, 0, 1, 2, 3] : List Nat).Nodup by decide)) ?_
                                                                                                    exact j_X13_step_1122_ok X hF hL nn l0 l1 l2 l3 h hf
                                                                                                  · refine sx_tin hm dX13_step_42 (by omega) (by omega) (off := 1080) (by rw [z0]; rfl) (tgt := 1122) rfl ?_
                                                                                                    refine mx_S.ext [(0, .ref l0), (1, .int l1), (2, .int l2), (3, .int l3)] (mx_sub_pos [1, 2, 3, 4] rfl (show ([4, 0, 1, 2, 3] : List Nat).Nodup by decide)) ?_
                                                                                                    exact j_X13_step_1122_ok X hF hL nn l0 l1 l2 l3 h hf
                                                                                                  · refine sx_tin hm dX13_step_42 (by omega) (by omega) (off := 1080) (by rw [z0]; rfl) (tgt := 1122) rfl ?_
                                                                                                    refine mx_S.ext [(0, .ref l0), (1, .int l1), (2, .int l2), (3, .int l3)] (mx_sub_pos [1, 2, 3, 4] rfl (show ([4, 0, 1, 2, 3] : List Nat).Nodup by decide)) ?_
                                                                                                    exact j_X13_step_1122_ok X hF hL nn l0 l1 l2 l3 h hf
                                                                                                  · refine sx_tin hm dX13_step_42 (by omega) (by omega) (off := 1080) (by rw [z0]; rfl) (tgt := 1122) rfl ?_
                                                                                                    refine mx_S.ext [(0, .ref l0), (1, .int l1), (2, .int l2), (3, .int l3)] (mx_sub_pos [1, 2, 3, 4] rfl (show ([4, 0, 1, 2, 3] : List Nat).Nodup by decide)) ?_
                                                                                                    exact j_X13_step_1122_ok X hF hL nn l0 l1 l2 l3 h hf
                                                                                                  · refine sx_tin hm dX13_step_42 (by omega) (by omega) (off := 1080) (by rw [z0]; rfl) (tgt := 1122) rfl ?_
                                                                                                    refine mx_S.ext [(0, .ref l0), (1, .int l1), (2, .int l2), (3, .int l3)] (mx_sub_pos [1, 2, 3, 4] rfl (show ([4, 0, 1, 2, 3] : List Nat).Nodup by decide)) ?_
                                                                                                    exact j_X13_step_1122_ok X hF hL nn l0 l1 l2 l3 h hf
                                                                                                  · refine sx_tin hm dX13_step_42 (by omega) (by omega) (off := 1080) (by rw [z0]; rfl) (tgt := 1122) rfl ?_
                                                                                                    refine mx_S.ext [(0, .ref l0), (1, .int l1), (2, .int l2), (3, .int l3)] (mx_sub_pos [1, 2, 3, 4] rfl (show ([4, 0, 1, 2, 3] : List Nat).Nodup by decide)) ?_
                                                                                                    exact j_X13_step_1122_ok X hF hL nn l0 l1 l2 l3 h hf
                                                                                                  · refine sx_tin hm dX13_step_42 (by omega) (by omega) (off := 1080) (by rw [z0]; rfl) (tgt := 1122) rfl ?_
                                                                                                    refine mx_S.ext [(0, .ref l0), (1, .int l1), (2, .int l2), (3, .int l3)] (mx_sub_pos [1, 2, 3, 4] rfl (show ([4, 0, 1, 2, 3] : List Nat).Nodup by decide)) ?_
                                                                                                    exact j_X13_step_1122_ok X hF hL nn l0 l1 l2 l3 h hf
                                                                                                  · refine sx_tin hm dX13_step_42 (by omega) (by omega) (off := 1080) (by rw [z0]; rfl) (tgt := 1122) rfl ?_
                                                                                                    refine mx_S.ext [(0, .ref l0), (1, .int l1), (2, .int l2), (3, .int l3)] (mx_sub_pos [1, 2, 3, 4] rfl (show ([4, 0, 1, 2, 3] : List Nat).Nodup by decide)) ?_
                                                                                                    exact j_X13_step_1122_ok X hF hL nn l0 l1 l2 l3 h hf
                                                                                                  · refine sx_tin hm dX13_step_42 (by omega) (by omega) (off := 1080) (by rw [z0]; rfl) (tgt := 1122) rfl ?_
                                                                                                    refine mx_S.ext [(0, .ref l0), (1, .int l1), (2, .int l2), (3, .int l3)] (mx_sub_pos [1, 2, 3, 4] rfl (show ([4, 0, 1, 2, 3] : List Nat).Nodup by decide)) ?_
                                                                                                    exact j_X13_step_1122_ok X hF hL nn l0 l1 l2 l3 h hf
                                                                                                  · refine sx_tin hm dX13_step_42 (by omega) (by omega) (off := 1080) (by rw [z0]; rfl) (tgt := 1122) rfl ?_
                                                                                                    refine mx_S.ext [(0, .ref l0), (1, .int l1), (2, .int l2), (3, .int l3)] (mx_sub_pos [1, 2, 3, 4] rfl (show ([4, 0, 1, 2, 3] : List Nat).Nodup by decide)) ?_
                                                                                                    exact j_X13_step_1122_ok X hF hL nn l0 l1 l2 l3 h hf
                                                                                                  · refine sx_tin hm dX13_step_42 (by omega) (by omega) (off := 1080) (by rw [z0]; rfl) (tgt := 1122) rfl ?_
                                                                                                    refine mx_S.ext [(0, .ref l0), (1, .int l1), (2, .int l2), (3, .int l3)] (mx_sub_pos [1, 2, 3, 4] rfl (show ([4, 0, 1, 2, 3] : List Nat).Nodup by decide)) ?_
                                                                                                    exact j_X13_step_1122_ok X hF hL nn l0 l1 l2 l3 h hf
                                                                                                  · refine sx_tin hm dX13_step_42 (by omega) (by omega) (off := 1080) (by rw [z0]; rfl) (tgt := 1122) rfl ?_
                                                                                                    refine mx_S.ext [(0, .ref l0), (1, .int l1), (2, .int l2), (3, .int l3)] (mx_sub_pos [1, 2, 3, 4] rfl (show ([4, 0, 1, 2, 3] : List Nat).Nodup by decide)) ?_
                                                                                                    exact j_X13_step_1122_ok X hF hL nn l0 l1 l2 l3 h hf
                                                                                                  · refine sx_tin hm dX13_step_42 (by omega) (by omega) (off := 1080) (by rw [z0]; rfl) (tgt := 1122) rfl ?_
                                                                                                    refine mx_S.ext [(0, .ref l0), (1, .int l1), (2, .int l2), (3, .int l3)] (mx_sub_pos [1, 2, 3, 4] rfl (show ([4, 0, 1, 2, 3] : List Nat).Nodup by decide)) ?_
                                                                                                    exact j_X13_step_1122_ok X hF hL nn l0 l1 l2 l3 h hf
                                                                                                  · refine sx_tin hm dX13_step_42 (by omega) (by omega) (off := 1080) (by rw [z0]; rfl) (tgt := 1122) rfl ?_
                                                                                                    refine mx_S.ext [(0, .ref l0), (1, .int l1), (2, .int l2), (3, .int l3)] (mx_sub_pos [1, 2, 3, 4] rfl (show ([4, 0, 1, 2, 3] : List Nat).Nodup by decide)) ?_
                                                                                                    exact j_X13_step_1122_ok X hF hL nn l0 l1 l2 l3 h hf
                                                                                                  · refine sx_tin hm dX13_step_42 (by omega) (by omega) (off := 1080) (by rw [z0]; rfl) (tgt := 1122) rfl ?_
                                                                                                    refine mx_S.ext [(0, .ref l0), (1, .int l1), (2, .int l2), (3, .int l3)] (mx_sub_pos [1, 2, 3, 4] rfl (show ([4, 0, 1, 2, 3] : List Nat).Nodup by decide)) ?_
                                                                                                    exact j_X13_step_1122_ok X hF hL nn l0 l1 l2 l3 h hf
                                                                                                  · refine sx_tin hm dX13_step_42 (by omega) (by omega) (off := 1080) (by rw [z0]; rfl) (tgt := 1122) rfl ?_
                                                                                                    refine mx_S.ext [(0, .ref l0), (1, .int l1), (2, .int l2), (3, .int l3)] (mx_sub_pos [1, 2, 3, 4] rfl (show ([4, 0, 1, 2, 3] : List Nat).Nodup by decide)) ?_
                                                                                                    exact j_X13_step_1122_ok X hF hL nn l0 l1 l2 l3 h hf
                                                                                                  · refine sx_tin hm dX13_step_42 (by omega) (by omega) (off := 1080) (by rw [z0]; rfl) (tgt := 1122) rfl ?_
                                                                                                    refine mx_S.ext [(0, .ref l0), (1, .int l1), (2, .int l2), (3, .int l3)] (mx_sub_pos [1, 2, 3, 4] rfl (show ([4, 0, 1, 2, 3] : List Nat).Nodup by decide)) ?_
                                                                                                    exact j_X13_step_1122_ok X hF hL nn l0 l1 l2 l3 h hf
                                                                                                  · refine sx_tin hm dX13_step_42 (by omega) (by omega) (off := 1080) (by rw [z0]; rfl) (tgt := 1122) rfl ?_
                                                                                                    refine mx_S.ext [(0, .ref l0), (1, .int l1), (2, .int l2), (3, .int l3)] (mx_sub_pos [1, 2, 3, 4] rfl (show ([4, 0, 1, 2, 3] : List Nat).Nodup by decide)) ?_
                                                                                                    exact j_X13_step_1122_ok X hF hL nn l0 l1 l2 l3 h hf
                                                                                                  · refine sx_tin hm dX13_step_42 (by omega) (by omega) (off := 1080) (by rw [z0]; rfl) (tgt := 1122) rfl ?_
                                                                                                    refine mx_S.ext [(0, .ref l0), (1, .int l1), (2, .int l2), (3, .int l3)] (mx_sub_pos [1, 2, 3, 4] rfl (show ([4, 0, 1, 2, 3] : List Nat).Nodup by decide)) ?_
                                                                                                    exact j_X13_step_1122_ok X hF hL nn l0 l1 l2 l3 h hf
                                                                                                  · exact absurd (Int32.toInt_inj.mp (z0.trans (by decide : (46 : Int) = (46 : Int32).toInt))) n_13
                                                                                                  · refine sx_tin hm dX13_step_42 (by omega) (by omega) (off := 1080) (by rw [z0]; rfl) (tgt := 1122) rfl ?_
                                                                                                    refine mx_S.ext [(0, .ref l0), (1, .int l1), (2, .int l2), (3, .int l3)] (mx_sub_pos [1, 2, 3, 4] rfl (show ([4, 0, 1, 2, 3] : List Nat).Nodup by decide)) ?_
                                                                                                    exact j_X13_step_1122_ok X hF hL nn l0 l1 l2 l3 h hf
                                                                                                  · refine sx_tin hm dX13_step_42 (by omega) (by omega) (off := 1080) (by rw [z0]; rfl) (tgt := 1122) rfl ?_
                                                                                                    refine mx_S.ext [(0, .ref l0), (1, .int l1), (2, .int l2), (3, .int l3)] (mx_sub_pos [1, 2, 3, 4] rfl (show ([4, 0, 1, 2, 3] : List Nat).Nodup by decide)) ?_
                                                                                                    exact j_X13_step_1122_ok X hF hL nn l0 l1 l2 l3 h hf
                                                                                                  · refine sx_tin hm dX13_step_42 (by omega) (by omega) (off := 1080) (by rw [z0]; rfl) (tgt := 1122) rfl ?_
                                                                                                    refine mx_S.ext [(0, .ref l0), (1, .int l1), (2, .int l2), (3, .int l3)] (mx_sub_pos [1, 2, 3, 4] rfl (show ([4, 0, 1, 2, 3] : List Nat).Nodup by decide)) ?_
                                                                                                    exact j_X13_step_1122_ok X hF hL nn l0 l1 l2 l3 h hf
                                                                                                  · exact absurd (Int32.toInt_inj.mp (z0.trans (by decide : (50 : Int) = (50 : Int32).toInt))) n_14
                                                                                                  · refine sx_tin hm dX13_step_42 (by omega) (by omega) (off := 1080) (by rw [z0]; rfl) (tgt := 1122) rfl ?_
                                                                                                    refine mx_S.ext [(0, .ref l0), (1, .int l1), (2, .int l2), (3, .int l3)] (mx_sub_pos [1, 2, 3, 4] rfl (show ([4, 0, 1, 2, 3] : List Nat).Nodup by decide)) ?_
                                                                                                    exact j_X13_step_1122_ok X hF hL nn l0 l1 l2 l3 h hf
                                                                                                  · refine sx_tin hm dX13_step_42 (by omega) (by omega) (off := 1080) (by rw [z0]; rfl) (tgt := 1122) rfl ?_
                                                                                                    refine mx_S.ext [(0, .ref l0), (1, .int l1), (2, .int l2), (3, .int l3)] (mx_sub_pos [1, 2, 3, 4] rfl (show ([4, 0, 1, 2, 3] : List Nat).Nodup by decide)) ?_
                                                                                                    exact j_X13_step_1122_ok X hF hL nn l0 l1 l2 l3 h hf
                                                                                                  · refine sx_tin hm dX13_step_42 (by omega) (by omega) (off := 1080) (by rw [z0]; rfl) (tgt := 1122) rfl ?_
                                                                                                    refine mx_S.ext [(0, .ref l0), (1, .int l1), (2, .int l2), (3, .int l3)] (mx_sub_pos [1, 2, 3, 4] rfl (show ([4, 0, 1, 2, 3] : List Nat).Nodup by decide)) ?_
                                                                                                    exact j_X13_step_1122_ok X hF hL nn l0 l1 l2 l3 h hf
                                                                                                  · exact absurd (Int32.toInt_inj.mp (z0.trans (by decide : (54 : Int) = (54 : Int32).toInt))) n_15
                                                                                                  · refine sx_tin hm dX13_step_42 (by omega) (by omega) (off := 1080) (by rw [z0]; rfl) (tgt := 1122) rfl ?_
                                                                                                    refine mx_S.ext [(0, .ref l0), (1, .int l1), (2, .int l2), (3, .int l3)] (mx_sub_pos [1, 2, 3, 4] rfl (show ([4, 0, 1, 2, 3] : List Nat).Nodup by decide)) ?_
                                                                                                    exact j_X13_step_1122_ok X hF hL nn l0 l1 l2 l3 h hf
                                                                                                  · refine sx_tin hm dX13_step_42 (by omega) (by omega) (off := 1080) (by rw [z0]; rfl) (tgt := 1122) rfl ?_
                                                                                                    refine mx_S.ext [(0, .ref l0), (1, .int l1), (2, .int l2), (3, .int l3)] (mx_sub_pos [1, 2, 3, 4] rfl (show ([4, 0, 1, 2, 3] : List Nat).Nodup by decide)) ?_
                                                                                                    exact j_X13_step_1122_ok X hF hL nn l0 l1 l2 l3 h hf
                                                                                                  · refine sx_tin hm dX13_step_42 (by omega) (by omega) (off := 1080) (by rw [z0]; rfl) (tgt := 1122) rfl ?_
                                                                                                    refine mx_S.ext [(0, .ref l0), (1, .int l1), (2, .int l2), (3, .int l3)] (mx_sub_pos [1, 2, 3, 4] rfl (show ([4, 0, 1, 2, 3] : List Nat).Nodup by decide)) ?_
                                                                                                    exact j_X13_step_1122_ok X hF hL nn l0 l1 l2 l3 h hf
                                                                                                  · exact absurd (Int32.toInt_inj.mp (z0.trans (by decide : (58 : Int) = (58 : Int32).toInt))) n_16
                                                                                                  · refine sx_tin hm dX13_step_42 (by omega) (by omega) (off := 1080) (by rw [z0]; rfl) (tgt := 1122) rfl ?_
                                                                                                    refine mx_S.ext [(0, .ref l0), (1, .int l1), (2, .int l2), (3, .int l3)] (mx_sub_pos [1, 2, 3, 4] rfl (show ([4, 0, 1, 2, 3] : List Nat).Nodup by decide)) ?_
                                                                                                    exact j_X13_step_1122_ok X hF hL nn l0 l1 l2 l3 h hf
                                                                                                  · refine sx_tin hm dX13_step_42 (by omega) (by omega) (off := 1080) (by rw [z0]; rfl) (tgt := 1122) rfl ?_
                                                                                                    refine mx_S.ext [(0, .ref l0), (1, .int l1), (2, .int l2), (3, .int l3)] (mx_sub_pos [1, 2, 3, 4] rfl (show ([4, 0, 1, 2, 3] : List Nat).Nodup by decide)) ?_
                                                                                                    exact j_X13_step_1122_ok X hF hL nn l0 l1 l2 l3 h hf
                                                                                                  · refine sx_tin hm dX13_step_42 (by omega) (by omega) (off := 1080) (by rw [z0]; rfl) (tgt := 1122) rfl ?_
                                                                                                    refine mx_S.ext [(0, .ref l0), (1, .int l1), (2, .int l2), (3, .int l3)] (mx_sub_pos [1, 2, 3, 4] rfl (show ([4, 0, 1, 2, 3] : List Nat).Nodup by decide)) ?_
                                                                                                    exact j_X13_step_1122_ok X hF hL nn l0 l1 l2 l3 h hf
                                                                                                  · refine sx_tin hm dX13_step_42 (by omega) (by omega) (off := 1080) (by rw [z0]; rfl) (tgt := 1122) rfl ?_
                                                                                                    refine mx_S.ext [(0, .ref l0), (1, .int l1), (2, .int l2), (3, .int l3)] (mx_sub_pos [1, 2, 3, 4] rfl (show ([4, 0, 1, 2, 3] : List Nat).Nodup by decide)) ?_
                                                                                                    exact j_X13_step_1122_ok X hF hL nn l0 l1 l2 l3 h hf
                                                                                                  · refine sx_tin hm dX13_step_42 (by omega) (by omega) (off := 1080) (by rw [z0]; rfl) (tgt := 1122) rfl ?_
                                                                                                    refine mx_S.ext [(0, .ref l0), (1, .int l1), (2, .int l2), (3, .int l3)] (mx_sub_pos [1, 2, 3, 4] rfl (show ([4, 0, 1, 2, 3] : List Nat).Nodup by decide)) ?_
                                                                                                    exact j_X13_step_1122_ok X hF hL nn l0 l1 l2 l3 h hf
                                                                                                  · refine sx_tin hm dX13_step_42 (by omega) (by omega) (off := 1080) (by rw [z0]; rfl) (tgt := 1122) rfl ?_
                                                                                                    refine mx_S.ext [(0, .ref l0), (1, .int l1), (2, .int l2), (3, .int l3)] (mx_sub_pos [1, 2, 3, 4] rfl (show ([4, 0, 1, 2, 3] : List Nat).Nodup by decide)) ?_
                                                                                                    exact j_X13_step_1122_ok X hF hL nn l0 l1 l2 l3 h hf
                                                                                                  · refine sx_tin hm dX13_step_42 (by omega) (by omega) (off := 1080) (by rw [z0]; rfl) (tgt := 1122) rfl ?_
                                                                                                    refine mx_S.ext [(0, .ref l0), (1, .int l1), (2, .int l2), (3, .int l3)] (mx_sub_pos [1, 2, 3, 4] rfl (show ([4, 0, 1, 2, 3] : List Nat).Nodup by decide)) ?_
                                                                                                    exact j_X13_step_1122_ok X hF hL nn l0 l1 l2 l3 h hf
                                                                                                  · refine sx_tin hm dX13_step_42 (by omega) (by omega) (off := 1080) (by rw [z0]; rfl) (tgt := 1122) rfl ?_
                                                                                                    refine mx_S.ext [(0, .ref l0), (1, .int l1), (2, .int l2), (3, .int l3)] (mx_sub_pos [1, 2, 3, 4] rfl (show ([4, 0, 1, 2, 3] : List Nat).Nodup by decide)) ?_
                                                                                                    exact j_X13_step_1122_ok X hF hL nn l0 l1 l2 l3 h hf
                                                                                                  · refine sx_tin hm dX13_step_42 (by omega) (by omega) (off := 1080) (by rw [z0]; rfl) (tgt := 1122) rfl ?_
                                                                                                    refine mx_S.ext [(0, .ref l0), (1, .int l1), (2, .int l2), (3, .int l3)] (mx_sub_pos [1, 2, 3, 4] rfl (show ([4, 0, 1, 2, 3] : List Nat).Nodup by decide)) ?_
                                                                                                    exact j_X13_step_1122_ok X hF hL nn l0 l1 l2 l3 h hf
                                                                                                  · refine sx_tin hm dX13_step_42 (by omega) (by omega) (off := 1080) (by rw [z0]; rfl) (tgt := 1122) rfl ?_
                                                                                                    refine mx_S.ext [(0, .ref l0), (1, .int l1), (2, .int l2), (3, .int l3)] (mx_sub_pos [1, 2, 3, 4] rfl (show ([4, 0, 1, 2, 3] : List Nat).Nodup by decide)) ?_
                                                                                                    exact j_X13_step_1122_ok X hF hL nn l0 l1 l2 l3 h hf
                                                                                                  · refine sx_tin hm dX13_step_42 (by omega) (by omega) (off := 1080) (by rw [z0]; rfl) (tgt := 1122) rfl ?_
                                                                                                    refine mx_S.ext [(0, .ref l0), (1, .int l1), (2, .int l2), (3, .int l3)] (mx_sub_pos [1, 2, 3, 4] rfl (show ([4, 0, 1, 2, 3] : List Nat).Nodup by decide)) ?_
                                                                                                    exact j_X13_step_1122_ok X hF hL nn l0 l1 l2 l3 h hf
                                                                                                  · refine sx_tin hm dX13_step_42 (by omega) (by omega) (off := 1080) (by rw [z0]; rfl) (tgt := 1122) rfl ?_
                                                                                                    refine mx_S.ext [(0, .ref l0), (1, .int l1), (2, .int l2), (3, .int l3)] (mx_sub_pos [1, 2, 3, 4] rfl (show ([4, 0, 1, 2, 3] : List Nat).Nodup by decide)) ?_
                                                                                                    exact j_X13_step_1122_ok X hF hL nn l0 l1 l2 l3 h hf
                                                                                                  · refine sx_tin hm dX13_step_42 (by omega) (by omega) (off := 1080) (by rw [z0]; rfl) (tgt := 1122) rfl ?_
                                                                                                    refine mx_S.ext [(0, .ref l0), (1, .int l1), (2, .int l2), (3, .int l3)] (mx_sub_pos [1, 2, 3, 4] rfl (show ([4, 0, 1, 2, 3] : List Nat).Nodup by decide)) ?_
                                                                                                    exact j_X13_step_1122_ok X hF hL nn l0 l1 l2 l3 h hf
                                                                                                  · refine sx_tin hm dX13_step_42 (by omega) (by omega) (off := 1080) (by rw [z0]; rfl) (tgt := 1122) rfl ?_
                                                                                                    refine mx_S.ext [(0, .ref l0), (1, .int l1), (2, .int l2), (3, .int l3)] (mx_sub_pos [1, 2, 3, 4] rfl (show ([4, 0, 1, 2, 3] : List Nat).Nodup by decide)) ?_
                                                                                                    exact j_X13_step_1122_ok X hF hL nn l0 l1 l2 l3 h hf
                                                                                                  · refine sx_tin hm dX13_step_42 (by omega) (by omega) (off := 1080) (by rw [z0]; rfl) (tgt := 1122) rfl ?_
                                                                                                    refine mx_S.ext [(0, .ref l0), (1, .int l1), (2, .int l2), (3, .int l3)] (mx_sub_pos [1, 2, 3, 4] rfl (show ([4, 0, 1, 2, 3] : List Nat).Nodup by decide)) ?_
                                                                                                    exact j_X13_step_1122_ok X hF hL nn l0 l1 l2 l3 h hf
                                                                                                  · refine sx_tin hm dX13_step_42 (by omega) (by omega) (off := 1080) (by rw [z0]; rfl) (tgt := 1122) rfl ?_
                                                                                                    refine mx_S.ext [(0, .ref l0), (1, .int l1), (2, .int l2), (3, .int l3)] (mx_sub_pos [1, 2, 3, 4] rfl (show ([4, 0, 1, 2, 3] : List Nat).Nodup by decide)) ?_
                                                                                                    exact j_X13_step_1122_ok X hF hL nn l0 l1 l2 l3 h hf
                                                                                                  · refine sx_tin hm dX13_step_42 (by omega) (by omega) (off := 1080) (by rw [z0]; rfl) (tgt := 1122) rfl ?_
                                                                                                    refine mx_S.ext [(0, .ref l0), (1, .int l1), (2, .int l2), (3, .int l3)] (mx_sub_pos [1, 2, 3, 4] rfl (show ([4, 0, 1, 2, 3] : List Nat).Nodup by decide)) ?_
                                                                                                    exact j_X13_step_1122_ok X hF hL nn l0 l1 l2 l3 h hf
                                                                                                  · refine sx_tin hm dX13_step_42 (by omega) (by omega) (off := 1080) (by rw [z0]; rfl) (tgt := 1122) rfl ?_
                                                                                                    refine mx_S.ext [(0, .ref l0), (1, .int l1), (2, .int l2), (3, .int l3)] (mx_sub_pos [1, 2, 3, 4] rfl (show ([4, 0, 1, 2, 3] : List Nat).Nodup by decide)) ?_
                                                                                                    exact j_X13_step_1122_ok X hF hL nn l0 l1 l2 l3 h hf
                                                                                                  · refine sx_tin hm dX13_step_42 (by omega) (by omega) (off := 1080) (by rw [z0]; rfl) (tgt := 1122) rfl ?_
                                                                                                    refine mx_S.ext [(0, .ref l0), (1, .int l1), (2, .int l2), (3, .int l3)] (mx_sub_pos [1, 2, 3, 4] rfl (show ([4, 0, 1, 2, 3] : List Nat).Nodup by decide)) ?_
                                                                                                    exact j_X13_step_1122_ok X hF hL nn l0 l1 l2 l3 h hf
                                                                                                  · refine sx_tin hm dX13_step_42 (by omega) (by omega) (off := 1080) (by rw [z0]; rfl) (tgt := 1122) rfl ?_
                                                                                                    refine mx_S.ext [(0, .ref l0), (1, .int l1), (2, .int l2), (3, .int l3)] (mx_sub_pos [1, 2, 3, 4] rfl (show ([4, 0, 1, 2, 3] : List Nat).Nodup by decide)) ?_
                                                                                                    exact j_X13_step_1122_ok X hF hL nn l0 l1 l2 l3 h hf
                                                                                                  · exact absurd (Int32.toInt_inj.mp (z0.trans (by decide : (79 : Int) = (79 : Int32).toInt))) n_17
                                                                                                  · refine sx_tin hm dX13_step_42 (by omega) (by omega) (off := 1080) (by rw [z0]; rfl) (tgt := 1122) rfl ?_
                                                                                                    refine mx_S.ext [(0, .ref l0), (1, .int l1), (2, .int l2), (3, .int l3)] (mx_sub_pos [1, 2, 3, 4] rfl (show ([4, 0, 1, 2, 3] : List Nat).Nodup by decide)) ?_
                                                                                                    exact j_X13_step_1122_ok X hF hL nn l0 l1 l2 l3 h hf
                                                                                                  · refine sx_tin hm dX13_step_42 (by omega) (by omega) (off := 1080) (by rw [z0]; rfl) (tgt := 1122) rfl ?_
                                                                                                    refine mx_S.ext [(0, .ref l0), (1, .int l1), (2, .int l2), (3, .int l3)] (mx_sub_pos [1, 2, 3, 4] rfl (show ([4, 0, 1, 2, 3] : List Nat).Nodup by decide)) ?_
                                                                                                    exact j_X13_step_1122_ok X hF hL nn l0 l1 l2 l3 h hf
                                                                                                  · refine sx_tin hm dX13_step_42 (by omega) (by omega) (off := 1080) (by rw [z0]; rfl) (tgt := 1122) rfl ?_
                                                                                                    refine mx_S.ext [(0, .ref l0), (1, .int l1), (2, .int l2), (3, .int l3)] (mx_sub_pos [1, 2, 3, 4] rfl (show ([4, 0, 1, 2, 3] : List Nat).Nodup by decide)) ?_
                                                                                                    exact j_X13_step_1122_ok X hF hL nn l0 l1 l2 l3 h hf
                                                                                                  · exact absurd (Int32.toInt_inj.mp (z0.trans (by decide : (83 : Int) = (83 : Int32).toInt))) n_18
                                                                                                  · refine sx_tin hm dX13_step_42 (by omega) (by omega) (off := 1080) (by rw [z0]; rfl) (tgt := 1122) rfl ?_
                                                                                                    refine mx_S.ext [(0, .ref l0), (1, .int l1), (2, .int l2), (3, .int l3)] (mx_sub_pos [1, 2, 3, 4] rfl (show ([4, 0, 1, 2, 3] : List Nat).Nodup by decide)) ?_
                                                                                                    exact j_X13_step_1122_ok X hF hL nn l0 l1 l2 l3 h hf
                                                                                                  · refine sx_tin hm dX13_step_42 (by omega) (by omega) (off := 1080) (by rw [z0]; rfl) (tgt := 1122) rfl ?_
                                                                                                    refine mx_S.ext [(0, .ref l0), (1, .int l1), (2, .int l2), (3, .int l3)] (mx_sub_pos [1, 2, 3, 4] rfl (show ([4, 0, 1, 2, 3] : List Nat).Nodup by decide)) ?_
                                                                                                    exact j_X13_step_1122_ok X hF hL nn l0 l1 l2 l3 h hf
                                                                                                  · refine sx_tin hm dX13_step_42 (by omega) (by omega) (off := 1080) (by rw [z0]; rfl) (tgt := 1122) rfl ?_
                                                                                                    refine mx_S.ext [(0, .ref l0), (1, .int l1), (2, .int l2), (3, .int l3)] (mx_sub_pos [1, 2, 3, 4] rfl (show ([4, 0, 1, 2, 3] : List Nat).Nodup by decide)) ?_
                                                                                                    exact j_X13_step_1122_ok X hF hL nn l0 l1 l2 l3 h hf
                                                                                                  · exact absurd (Int32.toInt_inj.mp (z0.trans (by decide : (87 : Int) = (87 : Int32).toInt))) n_19
                                                                                                  · refine sx_tin hm dX13_step_42 (by omega) (by omega) (off := 1080) (by rw [z0]; rfl) (tgt := 1122) rfl ?_
                                                                                                    refine mx_S.ext [(0, .ref l0), (1, .int l1), (2, .int l2), (3, .int l3)] (mx_sub_pos [1, 2, 3, 4] rfl (show ([4, 0, 1, 2, 3] : List Nat).Nodup by decide)) ?_
                                                                                                    exact j_X13_step_1122_ok X hF hL nn l0 l1 l2 l3 h hf
                                                                                                  · exact absurd (Int32.toInt_inj.mp (z0.trans (by decide : (89 : Int) = (89 : Int32).toInt))) n_20
                                                                                                  · refine sx_tin hm dX13_step_42 (by omega) (by omega) (off := 1080) (by rw [z0]; rfl) (tgt := 1122) rfl ?_
                                                                                                    refine mx_S.ext [(0, .ref l0), (1, .int l1), (2, .int l2), (3, .int l3)] (mx_sub_pos [1, 2, 3, 4] rfl (show ([4, 0, 1, 2, 3] : List Nat).Nodup by decide)) ?_
                                                                                                    exact j_X13_step_1122_ok X hF hL nn l0 l1 l2 l3 h hf
                                                                                                  · refine sx_tin hm dX13_step_42 (by omega) (by omega) (off := 1080) (by rw [z0]; rfl) (tgt := 1122) rfl ?_
                                                                                                    refine mx_S.ext [(0, .ref l0), (1, .int l1), (2, .int l2), (3, .int l3)] (mx_sub_pos [1, 2, 3, 4] rfl (show ([4, 0, 1, 2, 3] : List Nat).Nodup by decide)) ?_
                                                                                                    exact j_X13_step_1122_ok X hF hL nn l0 l1 l2 l3 h hf
                                                                                                  · refine sx_tin hm dX13_step_42 (by omega) (by omega) (off := 1080) (by rw [z0]; rfl) (tgt := 1122) rfl ?_
                                                                                                    refine mx_S.ext [(0, .ref l0), (1, .int l1), (2, .int l2), (3, .int l3)] (mx_sub_pos [1, 2, 3, 4] rfl (show ([4, 0, 1, 2, 3] : List Nat).Nodup by decide)) ?_
                                                                                                    exact j_X13_step_1122_ok X hF hL nn l0 l1 l2 l3 h hf
                                                                                                  · refine sx_tin hm dX13_step_42 (by omega) (by omega) (off := 1080) (by rw [z0]; rfl) (tgt := 1122) rfl ?_
                                                                                                    refine mx_S.ext [(0, .ref l0), (1, .int l1), (2, .int l2), (3, .int l3)] (mx_sub_pos [1, 2, 3, 4] rfl (show ([4, 0, 1, 2, 3] : List Nat).Nodup by decide)) ?_
                                                                                                    exact j_X13_step_1122_ok X hF hL nn l0 l1 l2 l3 h hf
                                                                                                  · refine sx_tin hm dX13_step_42 (by omega) (by omega) (off := 1080) (by rw [z0]; rfl) (tgt := 1122) rfl ?_
                                                                                                    refine mx_S.ext [(0, .ref l0), (1, .int l1), (2, .int l2), (3, .int l3)] (mx_sub_pos [1, 2, 3, 4] rfl (show ([4, 0, 1, 2, 3] : List Nat).Nodup by decide)) ?_
                                                                                                    exact j_X13_step_1122_ok X hF hL nn l0 l1 l2 l3 h hf
                                                                                                  · refine sx_tin hm dX13_step_42 (by omega) (by omega) (off := 1080) (by rw [z0]; rfl) (tgt := 1122) rfl ?_
                                                                                                    refine mx_S.ext [(0, .ref l0), (1, .int l1), (2, .int l2), (3, .int l3)] (mx_sub_pos [1, 2, 3, 4] rfl (show ([4, 0, 1, 2, 3] : List Nat).Nodup by decide)) ?_
                                                                                                    exact j_X13_step_1122_ok X hF hL nn l0 l1 l2 l3 h hf
                                                                                                  · exact absurd (Int32.toInt_inj.mp (z0.trans (by decide : (96 : Int) = (96 : Int32).toInt))) n_21
                                                                                                  · refine sx_tin hm dX13_step_42 (by omega) (by omega) (off := 1080) (by rw [z0]; rfl) (tgt := 1122) rfl ?_
                                                                                                    refine mx_S.ext [(0, .ref l0), (1, .int l1), (2, .int l2), (3, .int l3)] (mx_sub_pos [1, 2, 3, 4] rfl (show ([4, 0, 1, 2, 3] : List Nat).Nodup by decide)) ?_
                                                                                                    exact j_X13_step_1122_ok X hF hL nn l0 l1 l2 l3 h hf
                                                                                                  · refine sx_tin hm dX13_step_42 (by omega) (by omega) (off := 1080) (by rw [z0]; rfl) (tgt := 1122) rfl ?_
                                                                                                    refine mx_S.ext [(0, .ref l0), (1, .int l1), (2, .int l2), (3, .int l3)] (mx_sub_pos [1, 2, 3, 4] rfl (show ([4, 0, 1, 2, 3] : List Nat).Nodup by decide)) ?_
                                                                                                    exact j_X13_step_1122_ok X hF hL nn l0 l1 l2 l3 h hf
                                                                                                  · refine sx_tin hm dX13_step_42 (by omega) (by omega) (off := 1080) (by rw [z0]; rfl) (tgt := 1122) rfl ?_
                                                                                                    refine mx_S.ext [(0, .ref l0), (1, .int l1), (2, .int l2), (3, .int l3)] (mx_sub_pos [1, 2, 3, 4] rfl (show ([4, 0, 1, 2, 3] : List Nat).Nodup by decide)) ?_
                                                                                                    exact j_X13_step_1122_ok X hF hL nn l0 l1 l2 l3 h hf
                                                                                                  · exact absurd (Int32.toInt_inj.mp (z0.trans (by decide : (100 : Int) = (100 : Int32).toInt))) n_22
                                                                                                  · refine sx_tin hm dX13_step_42 (by omega) (by omega) (off := 1080) (by rw [z0]; rfl) (tgt := 1122) rfl ?_
                                                                                                    refine mx_S.ext [(0, .ref l0), (1, .int l1), (2, .int l2), (3, .int l3)] (mx_sub_pos [1, 2, 3, 4] rfl (show ([4, 0, 1, 2, 3] : List Nat).Nodup by decide)) ?_
                                                                                                    exact j_X13_step_1122_ok X hF hL nn l0 l1 l2 l3 h hf
                                                                                                  · refine sx_tin hm dX13_step_42 (by omega) (by omega) (off := 1080) (by rw [z0]; rfl) (tgt := 1122) rfl ?_
                                                                                                    refine mx_S.ext [(0, .ref l0), (1, .int l1), (2, .int l2), (3, .int l3)] (mx_sub_pos [1, 2, 3, 4] rfl (show ([4, 0, 1, 2, 3] : List Nat).Nodup by decide)) ?_
                                                                                                    exact j_X13_step_1122_ok X hF hL nn l0 l1 l2 l3 h hf
                                                                                                  · refine sx_tin hm dX13_step_42 (by omega) (by omega) (off := 1080) (by rw [z0]; rfl) (tgt := 1122) rfl ?_
                                                                                                    refine mx_S.ext [(0, .ref l0), (1, .int l1), (2, .int l2), (3, .int l3)] (mx_sub_pos [1, 2, 3, 4] rfl (show ([4, 0, 1, 2, 3] : List Nat).Nodup by decide)) ?_
                                                                                                    exact j_X13_step_1122_ok X hF hL nn l0 l1 l2 l3 h hf
                                                                                                  · exact absurd (Int32.toInt_inj.mp (z0.trans (by decide : (104 : Int) = (104 : Int32).toInt))) n_23
                                                                                                  · refine sx_tin hm dX13_step_42 (by omega) (by omega) (off := 1080) (by rw [z0]; rfl) (tgt := 1122) rfl ?_
                                                                                                    refine mx_S.ext [(0, .ref l0), (1, .int l1), (2, .int l2), (3, .int l3)] (mx_sub_pos [1, 2, 3, 4] rfl (show ([4, 0, 1, 2, 3] : List Nat).Nodup by decide)) ?_
                                                                                                    exact j_X13_step_1122_ok X hF hL nn l0 l1 l2 l3 h hf
                                                                                                  · refine sx_tin hm dX13_step_42 (by omega) (by omega) (off := 1080) (by rw [z0]; rfl) (tgt := 1122) rfl ?_
                                                                                                    refine mx_S.ext [(0, .ref l0), (1, .int l1), (2, .int l2), (3, .int l3)] (mx_sub_pos [1, 2, 3, 4] rfl (show ([4, 0, 1, 2, 3] : List Nat).Nodup by decide)) ?_
                                                                                                    exact j_X13_step_1122_ok X hF hL nn l0 l1 l2 l3 h hf
                                                                                                  · refine sx_tin hm dX13_step_42 (by omega) (by omega) (off := 1080) (by rw [z0]; rfl) (tgt := 1122) rfl ?_
                                                                                                    refine mx_S.ext [(0, .ref l0), (1, .int l1), (2, .int l2), (3, .int l3)] (mx_sub_pos [1, 2, 3, 4] rfl (show ([4, 0, 1, 2, 3] : List Nat).Nodup by decide)) ?_
                                                                                                    exact j_X13_step_1122_ok X hF hL nn l0 l1 l2 l3 h hf
                                                                                                  · exact absurd (Int32.toInt_inj.mp (z0.trans (by decide : (108 : Int) = (108 : Int32).toInt))) n_24
                                                                                                  · refine sx_tin hm dX13_step_42 (by omega) (by omega) (off := 1080) (by rw [z0]; rfl) (tgt := 1122) rfl ?_
                                                                                                    refine mx_S.ext [(0, .ref l0), (1, .int l1), (2, .int l2), (3, .int l3)] (mx_sub_pos [1, 2, 3, 4] rfl (show ([4, 0, 1, 2, 3] : List Nat).Nodup by decide)) ?_
                                                                                                    exact j_X13_step_1122_ok X hF hL nn l0 l1 l2 l3 h hf
                                                                                                  · refine sx_tin hm dX13_step_42 (by omega) (by omega) (off := 1080) (by rw [z0]; rfl) (tgt := 1122) rfl ?_
                                                                                                    refine mx_S.ext [(0, .ref l0), (1, .int l1), (2, .int l2), (3, .int l3)] (mx_sub_pos [1, 2, 3, 4] rfl (show ([4, 0, 1, 2, 3] : List Nat).Nodup by decide)) ?_
                                                                                                    exact j_X13_step_1122_ok X hF hL nn l0 l1 l2 l3 h hf
                                                                                                  · refine sx_tin hm dX13_step_42 (by omega) (by omega) (off := 1080) (by rw [z0]; rfl) (tgt := 1122) rfl ?_
                                                                                                    refine mx_S.ext [(0, .ref l0), (1, .int l1), (2, .int l2), (3, .int l3)] (mx_sub_pos [1, 2, 3, 4] rfl (show ([4, 0, 1, 2, 3] : List Nat).Nodup by decide)) ?_
                                                                                                    exact j_X13_step_1122_ok X hF hL nn l0 l1 l2 l3 h hf
                                                                                                  · exact absurd (Int32.toInt_inj.mp (z0.trans (by decide : (112 : Int) = (112 : Int32).toInt))) n_25
                                                                                                  · refine sx_tin hm dX13_step_42 (by omega) (by omega) (off := 1080) (by rw [z0]; rfl) (tgt := 1122) rfl ?_
                                                                                                    refine mx_S.ext [(0, .ref l0), (1, .int l1), (2, .int l2), (3, .int l3)] (mx_sub_pos [1, 2, 3, 4] rfl (show ([4, 0, 1, 2, 3] : List Nat).Nodup by decide)) ?_
                                                                                                    exact j_X13_step_1122_ok X hF hL nn l0 l1 l2 l3 h hf
                                                                                                  · refine sx_tin hm dX13_step_42 (by omega) (by omega) (off := 1080) (by rw [z0]; rfl) (tgt := 1122) rfl ?_
                                                                                                    refine mx_S.ext [(0, .ref l0), (1, .int l1), (2, .int l2), (3, .int l3)] (mx_sub_pos [1, 2, 3, 4] rfl (show ([4, 0, 1, 2, 3] : List Nat).Nodup by decide)) ?_
                                                                                                    exact j_X13_step_1122_ok X hF hL nn l0 l1 l2 l3 h hf
                                                                                                  · refine sx_tin hm dX13_step_42 (by omega) (by omega) (off := 1080) (by rw [z0]; rfl) (tgt := 1122) rfl ?_
                                                                                                    refine mx_S.ext [(0, .ref l0), (1, .int l1), (2, .int l2), (3, .int l3)] (mx_sub_pos [1, 2, 3, 4] rfl (show ([4, 0, 1, 2, 3] : List Nat).Nodup by decide)) ?_
                                                                                                    exact j_X13_step_1122_ok X hF hL nn l0 l1 l2 l3 h hf
                                                                                                  · exact absurd (Int32.toInt_inj.mp (z0.trans (by decide : (116 : Int) = (116 : Int32).toInt))) n_26
                                                                                                  · refine sx_tin hm dX13_step_42 (by omega) (by omega) (off := 1080) (by rw [z0]; rfl) (tgt := 1122) rfl ?_
                                                                                                    refine mx_S.ext [(0, .ref l0), (1, .int l1), (2, .int l2), (3, .int l3)] (mx_sub_pos [1, 2, 3, 4] rfl (show ([4, 0, 1, 2, 3] : List Nat).Nodup by decide)) ?_
                                                                                                    exact j_X13_step_1122_ok X hF hL nn l0 l1 l2 l3 h hf
                                                                                                  · refine sx_tin hm dX13_step_42 (by omega) (by omega) (off := 1080) (by rw [z0]; rfl) (tgt := 1122) rfl ?_
                                                                                                    refine mx_S.ext [(0, .ref l0), (1, .int l1), (2, .int l2), (3, .int l3)] (mx_sub_pos [1, 2, 3, 4] rfl (show ([4, 0, 1, 2, 3] : List Nat).Nodup by decide)) ?_
                                                                                                    exact j_X13_step_1122_ok X hF hL nn l0 l1 l2 l3 h hf
                                                                                                  · refine sx_tin hm dX13_step_42 (by omega) (by omega) (off := 1080) (by rw [z0]; rfl) (tgt := 1122) rfl ?_
                                                                                                    refine mx_S.ext [(0, .ref l0), (1, .int l1), (2, .int l2), (3, .int l3)] (mx_sub_pos [1, 2, 3, 4] rfl (show ([4, 0, 1, 2, 3] : List Nat).Nodup by decide)) ?_
                                                                                                    exact j_X13_step_1122_ok X hF hL nn l0 l1 l2 l3 h hf
                                                                                                  · exact absurd (Int32.toInt_inj.mp (z0.trans (by decide : (120 : Int) = (120 : Int32).toInt))) n_27
                                                                                                  · refine sx_tin hm dX13_step_42 (by omega) (by omega) (off := 1080) (by rw [z0]; rfl) (tgt := 1122) rfl ?_
                                                                                                    refine mx_S.ext [(0, .ref l0), (1, .int l1), (2, .int l2), (3, .int l3)] (mx_sub_pos [1, 2, 3, 4] rfl (show ([4, 0, 1, 2, 3] : List Nat).Nodup by decide)) ?_
                                                                                                    exact j_X13_step_1122_ok X hF hL nn l0 l1 l2 l3 h hf
                                                                                                  · exact absurd (Int32.toInt_inj.mp (z0.trans (by decide : (122 : Int) = (122 : Int32).toInt))) n_28
                                                                                                  · refine sx_tin hm dX13_step_42 (by omega) (by omega) (off := 1080) (by rw [z0]; rfl) (tgt := 1122) rfl ?_
                                                                                                    refine mx_S.ext [(0, .ref l0), (1, .int l1), (2, .int l2), (3, .int l3)] (mx_sub_pos [1, 2, 3, 4] rfl (show ([4, 0, 1, 2, 3] : List Nat).Nodup by decide)) ?_
                                                                                                    exact j_X13_step_1122_ok X hF hL nn l0 l1 l2 l3 h hf
                                                                                                  · exact absurd (Int32.toInt_inj.mp (z0.trans (by decide : (124 : Int) = (124 : Int32).toInt))) n_29
                                                                                                  · refine sx_tin hm dX13_step_42 (by omega) (by omega) (off := 1080) (by rw [z0]; rfl) (tgt := 1122) rfl ?_
                                                                                                    refine mx_S.ext [(0, .ref l0), (1, .int l1), (2, .int l2), (3, .int l3)] (mx_sub_pos [1, 2, 3, 4] rfl (show ([4, 0, 1, 2, 3] : List Nat).Nodup by decide)) ?_
                                                                                                    exact j_X13_step_1122_ok X hF hL nn l0 l1 l2 l3 h hf
                                                                                                  · exact absurd (Int32.toInt_inj.mp (z0.trans (by decide : (126 : Int) = (126 : Int32).toInt))) n_30
                                                                                                  · refine sx_tin hm dX13_step_42 (by omega) (by omega) (off := 1080) (by rw [z0]; rfl) (tgt := 1122) rfl ?_
                                                                                                    refine mx_S.ext [(0, .ref l0), (1, .int l1), (2, .int l2), (3, .int l3)] (mx_sub_pos [1, 2, 3, 4] rfl (show ([4, 0, 1, 2, 3] : List Nat).Nodup by decide)) ?_
                                                                                                    exact j_X13_step_1122_ok X hF hL nn l0 l1 l2 l3 h hf
                                                                                                  · exact absurd (Int32.toInt_inj.mp (z0.trans (by decide : (128 : Int) = (128 : Int32).toInt))) n_31
                                                                                                  · refine sx_tin hm dX13_step_42 (by omega) (by omega) (off := 1080) (by rw [z0]; rfl) (tgt := 1122) rfl ?_
                                                                                                    refine mx_S.ext [(0, .ref l0), (1, .int l1), (2, .int l2), (3, .int l3)] (mx_sub_pos [1, 2, 3, 4] rfl (show ([4, 0, 1, 2, 3] : List Nat).Nodup by decide)) ?_
                                                                                                    exact j_X13_step_1122_ok X hF hL nn l0 l1 l2 l3 h hf
                                                                                                  · exact absurd (Int32.toInt_inj.mp (z0.trans (by decide : (130 : Int) = (130 : Int32).toInt))) n_32
                                                                                                  · refine sx_tin hm dX13_step_42 (by omega) (by omega) (off := 1080) (by rw [z0]; rfl) (tgt := 1122) rfl ?_
                                                                                                    refine mx_S.ext [(0, .ref l0), (1, .int l1), (2, .int l2), (3, .int l3)] (mx_sub_pos [1, 2, 3, 4] rfl (show ([4, 0, 1, 2, 3] : List Nat).Nodup by decide)) ?_
                                                                                                    exact j_X13_step_1122_ok X hF hL nn l0 l1 l2 l3 h hf
                                                                                                  · refine sx_tin hm dX13_step_42 (by omega) (by omega) (off := 1080) (by rw [z0]; rfl) (tgt := 1122) rfl ?_
                                                                                                    refine mx_S.ext [(0, .ref l0), (1, .int l1), (2, .int l2), (3, .int l3)] (mx_sub_pos [1, 2, 3, 4] rfl (show ([4, 0, 1, 2, 3] : List Nat).Nodup by decide)) ?_
                                                                                                    exact j_X13_step_1122_ok X hF hL nn l0 l1 l2 l3 h hf
                                                                                                  · refine sx_tin hm dX13_step_42 (by omega) (by omega) (off := 1080) (by rw [z0]; rfl) (tgt := 1122) rfl ?_
                                                                                                    refine mx_S.ext [(0, .ref l0), (1, .int l1), (2, .int l2), (3, .int l3)] (mx_sub_pos [1, 2, 3, 4] rfl (show ([4, 0, 1, 2, 3] : List Nat).Nodup by decide)) ?_
                                                                                                    exact j_X13_step_1122_ok X hF hL nn l0 l1 l2 l3 h hf
                                                                                                  · refine sx_tin hm dX13_step_42 (by omega) (by omega) (off := 1080) (by rw [z0]; rfl) (tgt := 1122) rfl ?_
                                                                                                    refine mx_S.ext [(0, .ref l0), (1, .int l1), (2, .int l2), (3, .int l3)] (mx_sub_pos [1, 2, 3, 4] rfl (show ([4, 0, 1, 2, 3] : List Nat).Nodup by decide)) ?_
                                                                                                    exact j_X13_step_1122_ok X hF hL nn l0 l1 l2 l3 h hf
                                                                                                  · refine sx_tin hm dX13_step_42 (by omega) (by omega) (off := 1080) (by rw [z0]; rfl) (tgt := 1122) rfl ?_
                                                                                                    refine mx_S.ext [(0, .ref l0), (1, .int l1), (2, .int l2), (3, .int l3)] (mx_sub_pos [1, 2, 3, 4] rfl (show ([4, 0, 1, 2, 3] : List Nat).Nodup by decide)) ?_
                                                                                                    exact j_X13_step_1122_ok X hF hL nn l0 l1 l2 l3 h hf
                                                                                                  · refine sx_tin hm dX13_step_42 (by omega) (by omega) (off := 1080) (by rw [z0]; rfl) (tgt := 1122) rfl ?_
                                                                                                    refine mx_S.ext [(0, .ref l0), (1, .int l1), (2, .int l2), (3, .int l3)] (mx_sub_pos [1, 2, 3, 4] rfl (show ([4, 0, 1, 2, 3] : List Nat).Nodup by decide)) ?_
                                                                                                    exact j_X13_step_1122_ok X hF hL nn l0 l1 l2 l3 h hf
                                                                                                  · refine sx_tin hm dX13_step_42 (by omega) (by omega) (off := 1080) (by rw [z0]; rfl) (tgt := 1122) rfl ?_
                                                                                                    refine mx_S.ext [(0, .ref l0), (1, .int l1), (2, .int l2), (3, .int l3)] (mx_sub_pos [1, 2, 3, 4] rfl (show ([4, 0, 1, 2, 3] : List Nat).Nodup by decide)) ?_
                                                                                                    exact j_X13_step_1122_ok X hF hL nn l0 l1 l2 l3 h hf
                                                                                                  · refine sx_tin hm dX13_step_42 (by omega) (by omega) (off := 1080) (by rw [z0]; rfl) (tgt := 1122) rfl ?_
                                                                                                    refine mx_S.ext [(0, .ref l0), (1, .int l1), (2, .int l2), (3, .int l3)] (mx_sub_pos [1, 2, 3, 4] rfl (show ([4, 0, 1, 2, 3] : List Nat).Nodup by decide)) ?_
                                                                                                    exact j_X13_step_1122_ok X hF hL nn l0 l1 l2 l3 h hf
                                                                                                  · refine sx_tin hm dX13_step_42 (by omega) (by omega) (off := 1080) (by rw [z0]; rfl) (tgt := 1122) rfl ?_
                                                                                                    refine mx_S.ext [(0, .ref l0), (1, .int l1), (2, .int l2), (3, .int l3)] (mx_sub_pos [1, 2, 3, 4] rfl (show ([4, 0, 1, 2, 3] : List Nat).Nodup by decide)) ?_
                                                                                                    exact j_X13_step_1122_ok X hF hL nn l0 l1 l2 l3 h hf
                                                                                                  · refine sx_tin hm dX13_step_42 (by omega) (by omega) (off := 1080) (by rw [z0]; rfl) (tgt := 1122) rfl ?_
                                                                                                    refine mx_S.ext [(0, .ref l0), (1, .int l1), (2, .int l2), (3, .int l3)] (mx_sub_pos [1, 2, 3, 4] rfl (show ([4, 0, 1, 2, 3] : List Nat).Nodup by decide)) ?_
                                                                                                    exact j_X13_step_1122_ok X hF hL nn l0 l1 l2 l3 h hf
                                                                                                  · refine sx_tin hm dX13_step_42 (by omega) (by omega) (off := 1080) (by rw [z0]; rfl) (tgt := 1122) rfl ?_
                                                                                                    refine mx_S.ext [(0, .ref l0), (1, .int l1), (2, .int l2), (3, .int l3)] (mx_sub_pos [1, 2, 3, 4] rfl (show ([4, 0, 1, 2, 3] : List Nat).Nodup by decide)) ?_
                                                                                                    exact j_X13_step_1122_ok X hF hL nn l0 l1 l2 l3 h hf
                                                                                                  · refine sx_tin hm dX13_step_42 (by omega) (by omega) (off := 1080) (by rw [z0]; rfl) (tgt := 1122) rfl ?_
                                                                                                    refine mx_S.ext [(0, .ref l0), (1, .int l1), (2, .int l2), (3, .int l3)] (mx_sub_pos [1, 2, 3, 4] rfl (show ([4, 0, 1, 2, 3] : List Nat).Nodup by decide)) ?_
                                                                                                    exact j_X13_step_1122_ok X hF hL nn l0 l1 l2 l3 h hf
                                                                                                  · refine sx_tin hm dX13_step_42 (by omega) (by omega) (off := 1080) (by rw [z0]; rfl) (tgt := 1122) rfl ?_
                                                                                                    refine mx_S.ext [(0, .ref l0), (1, .int l1), (2, .int l2), (3, .int l3)] (mx_sub_pos [1, 2, 3, 4] rfl (show ([4, 0, 1, 2, 3] : List Nat).Nodup by decide)) ?_
                                                                                                    exact j_X13_step_1122_ok X hF hL nn l0 l1 l2 l3 h hf
                                                                                                  · refine sx_tin hm dX13_step_42 (by omega) (by omega) (off := 1080) (by rw [z0]; rfl) (tgt := 1122) rfl ?_
                                                                                                    refine mx_S.ext [(0, .ref l0), (1, .int l1), (2, .int l2), (3, .int l3)] (mx_sub_pos [1, 2, 3, 4] rfl (show ([4, 0, 1, 2, 3] : List Nat).Nodup by decide)) ?_
                                                                                                    exact j_X13_step_1122_ok X hF hL nn l0 l1 l2 l3 h hf
                                                                                                  · refine sx_tin hm dX13_step_42 (by omega) (by omega) (off := 1080) (by rw [z0]; rfl) (tgt := 1122) rfl ?_
                                                                                                    refine mx_S.ext [(0, .ref l0), (1, .int l1), (2, .int l2), (3, .int l3)] (mx_sub_pos [1, 2, 3, 4] rfl (show ([4, 0, 1, 2, 3] : List Nat).Nodup by decide)) ?_
                                                                                                    exact j_X13_step_1122_ok X hF hL nn l0 l1 l2 l3 h hf
                                                                                                  · refine sx_tin hm dX13_step_42 (by omega) (by omega) (off := 1080) (by rw [z0]; rfl) (tgt := 1122) rfl ?_
                                                                                                    refine mx_S.ext [(0, .ref l0), (1, .int l1), (2, .int l2), (3, .int l3)] (mx_sub_pos [1, 2, 3, 4] rfl (show ([4, 0, 1, 2, 3] : List Nat).Nodup by decide)) ?_
                                                                                                    exact j_X13_step_1122_ok X hF hL nn l0 l1 l2 l3 h hf
                                                                                                  · refine sx_tin hm dX13_step_42 (by omega) (by omega) (off := 1080) (by rw [z0]; rfl) (tgt := 1122) rfl ?_
                                                                                                    refine mx_S.ext [(0, .ref l0), (1, .int l1), (2, .int l2), (3, .int l3)] (mx_sub_pos [1, 2, 3, 4] rfl (show ([4, 0, 1, 2, 3] : List Nat).Nodup by decide)) ?_
                                                                                                    exact j_X13_step_1122_ok X hF hL nn l0 l1 l2 l3 h hf
                                                                                                  · refine sx_tin hm dX13_step_42 (by omega) (by omega) (off := 1080) (by rw [z0]; rfl) (tgt := 1122) rfl ?_
                                                                                                    refine mx_S.ext [(0, .ref l0), (1, .int l1), (2, .int l2), (3, .int l3)] (mx_sub_pos [1, 2, 3, 4] rfl (show ([4, 0, 1, 2, 3] : List Nat).Nodup by decide)) ?_
                                                                                                    exact j_X13_step_1122_ok X hF hL nn l0 l1 l2 l3 h hf
                                                                                                  · refine sx_tin hm dX13_step_42 (by omega) (by omega) (off := 1080) (by rw [z0]; rfl) (tgt := 1122) rfl ?_
                                                                                                    refine mx_S.ext [(0, .ref l0), (1, .int l1), (2, .int l2), (3, .int l3)] (mx_sub_pos [1, 2, 3, 4] rfl (show ([4, 0, 1, 2, 3] : List Nat).Nodup by decide)) ?_
                                                                                                    exact j_X13_step_1122_ok X hF hL nn l0 l1 l2 l3 h hf
                                                                                                  · refine sx_tin hm dX13_step_42 (by omega) (by omega) (off := 1080) (by rw [z0]; rfl) (tgt := 1122) rfl ?_
                                                                                                    refine mx_S.ext [(0, .ref l0), (1, .int l1), (2, .int l2), (3, .int l3)] (mx_sub_pos [1, 2, 3, 4] rfl (show ([4, 0, 1, 2, 3] : List Nat).Nodup by decide)) ?_
                                                                                                    exact j_X13_step_1122_ok X hF hL nn l0 l1 l2 l3 h hf
                                                                                                  · refine sx_tin hm dX13_step_42 (by omega) (by omega) (off := 1080) (by rw [z0]; rfl) (tgt := 1122) rfl ?_
                                                                                                    refine mx_S.ext [(0, .ref l0), (1, .int l1), (2, .int l2), (3, .int l3)] (mx_sub_pos [1, 2, 3, 4] rfl (show ([4, 0, 1, 2, 3] : List Nat).Nodup by decide)) ?_
                                                                                                    exact j_X13_step_1122_ok X hF hL nn l0 l1 l2 l3 h hf
                                                                                                  · refine sx_tin hm dX13_step_42 (by omega) (by omega) (off := 1080) (by rw [z0]; rfl) (tgt := 1122) rfl ?_
                                                                                                    refine mx_S.ext [(0, .ref l0), (1, .int l1), (2, .int l2), (3, .int l3)] (mx_sub_pos [1, 2, 3, 4] rfl (show ([4, 0, 1, 2, 3] : List Nat).Nodup by decide)) ?_
                                                                                                    exact j_X13_step_1122_ok X hF hL nn l0 l1 l2 l3 h hf
                                                                                                  · refine sx_tin hm dX13_step_42 (by omega) (by omega) (off := 1080) (by rw [z0]; rfl) (tgt := 1122) rfl ?_
                                                                                                    refine mx_S.ext [(0, .ref l0), (1, .int l1), (2, .int l2), (3, .int l3)] (mx_sub_pos [1, 2, 3, 4] rfl (show ([4, 0, 1, 2, 3] : List Nat).Nodup by decide)) ?_
                                                                                                    exact j_X13_step_1122_ok X hF hL nn l0 l1 l2 l3 h hf
                                                                                                  · refine sx_tin hm dX13_step_42 (by omega) (by omega) (off := 1080) (by rw [z0]; rfl) (tgt := 1122) rfl ?_
                                                                                                    refine mx_S.ext [(0, .ref l0), (1, .int l1), (2, .int l2), (3, .int l3)] (mx_sub_pos [1, 2, 3, 4] rfl (show ([4, 0, 1, 2, 3] : List Nat).Nodup by decide)) ?_
                                                                                                    exact j_X13_step_1122_ok X hF hL nn l0 l1 l2 l3 h hf
                                                                                                  · refine sx_tin hm dX13_step_42 (by omega) (by omega) (off := 1080) (by rw [z0]; rfl) (tgt := 1122) rfl ?_
                                                                                                    refine mx_S.ext [(0, .ref l0), (1, .int l1), (2, .int l2), (3, .int l3)] (mx_sub_pos [1, 2, 3, 4] rfl (show ([4, 0, 1, 2, 3] : List Nat).Nodup by decide)) ?_
                                                                                                    exact j_X13_step_1122_ok X hF hL nn l0 l1 l2 l3 h hf
                                                                                                  · refine sx_tin hm dX13_step_42 (by omega) (by omega) (off := 1080) (by rw [z0]; rfl) (tgt := 1122) rfl ?_
                                                                                                    refine mx_S.ext [(0, .ref l0), (1, .int l1), (2, .int l2), (3, .int l3)] (mx_sub_pos [1, 2, 3, 4] rfl (show ([4, 0, 1, 2, 3] : List Nat).Nodup by decide)) ?_
                                                                                                    exact j_X13_step_1122_ok X hF hL nn l0 l1 l2 l3 h hf
                                                                                                  · refine sx_tin hm dX13_step_42 (by omega) (by omega) (off := 1080) (by rw [z0]; rfl) (tgt := 1122) rfl ?_
                                                                                                    refine mx_S.ext [(0, .ref l0), (1, .int l1), (2, .int l2), (3, .int l3)] (mx_sub_pos [1, 2, 3, 4] rfl (show ([4, 0, 1, 2, 3] : List Nat).Nodup by decide)) ?_
                                                                                                    exact j_X13_step_1122_ok X hF hL nn l0 l1 l2 l3 h hf
                                                                                                  · refine sx_tin hm dX13_step_42 (by omega) (by omega) (off := 1080) (by rw [z0]; rfl) (tgt := 1122) rfl ?_
                                                                                                    refine mx_S.ext [(0, .ref l0), (1, .int l1), (2, .int l2), (3, .int l3)] (mx_sub_pos [1, 2, 3, 4] rfl (show ([4, 0, 1, 2, 3] : List Nat).Nodup by decide)) ?_
                                                                                                    exact j_X13_step_1122_ok X hF hL nn l0 l1 l2 l3 h hf
                                                                                                  · refine sx_tin hm dX13_step_42 (by omega) (by omega) (off := 1080) (by rw [z0]; rfl) (tgt := 1122) rfl ?_
                                                                                                    refine mx_S.ext [(0, .ref l0), (1, .int l1), (2, .int l2), (3, .int l3)] (mx_sub_pos [1, 2, 3, 4] rfl (show ([4, 0, 1, 2, 3] : List Nat).Nodup by decide)) ?_
                                                                                                    exact j_X13_step_1122_ok X hF hL nn l0 l1 l2 l3 h hf
                                                                                                  · refine sx_tin hm dX13_step_42 (by omega) (by omega) (off := 1080) (by rw [z0]; rfl) (tgt := 1122) rfl ?_
                                                                                                    refine mx_S.ext [(0, .ref l0), (1, .int l1), (2, .int l2), (3, .int l3)] (mx_sub_pos [1, 2, 3, 4] rfl (show ([4, 0, 1, 2, 3] : List Nat).Nodup by decide)) ?_
                                                                                                    exact j_X13_step_1122_ok X hF hL nn l0 l1 l2 l3 h hf
                                                                                                  · refine sx_tin hm dX13_step_42 (by omega) (by omega) (off := 1080) (by rw [z0]; rfl) (tgt := 1122) rfl ?_
                                                                                                    refine mx_S.ext [(0, .ref l0), (1, .int l1), (2, .int l2), (3, .int l3)] (mx_sub_pos [1, 2, 3, 4] rfl (show ([4, 0, 1, 2, 3] : List Nat).Nodup by decide)) ?_
                                                                                                    exact j_X13_step_1122_ok X hF hL nn l0 l1 l2 l3 h hf
                                                                                                  · refine sx_tin hm dX13_step_42 (by omega) (by omega) (off := 1080) (by rw [z0]; rfl) (tgt := 1122) rfl ?_
                                                                                                    refine mx_S.ext [(0, .ref l0), (1, .int l1), (2, .int l2), (3, .int l3)] (mx_sub_pos [1, 2, 3, 4] rfl (show ([4, 0, 1, 2, 3] : List Nat).Nodup by decide)) ?_
                                                                                                    exact j_X13_step_1122_ok X hF hL nn l0 l1 l2 l3 h hf
                                                                                                  · refine sx_tin hm dX13_step_42 (by omega) (by omega) (off := 1080) (by rw [z0]; rfl) (tgt := 1122) rfl ?_
                                                                                                    refine mx_S.ext [(0, .ref l0), (1, .int l1), (2, .int l2), (3, .int l3)] (mx_sub_pos [1, 2, 3, 4] rfl (show ([4, 0, 1, 2, 3] : List Nat).Nodup by decide)) ?_
                                                                                                    exact j_X13_step_1122_ok X hF hL nn l0 l1 l2 l3 h hf
                                                                                                  · refine sx_tin hm dX13_step_42 (by omega) (by omega) (off := 1080) (by rw [z0]; rfl) (tgt := 1122) rfl ?_
                                                                                                    refine mx_S.ext [(0, .ref l0), (1, .int l1), (2, .int l2), (3, .int l3)] (mx_sub_pos [1, 2, 3, 4] rfl (show ([4, 0, 1, 2, 3] : List Nat).Nodup by decide)) ?_
                                                                                                    exact j_X13_step_1122_ok X hF hL nn l0 l1 l2 l3 h hf
                                                                                                  · refine sx_tin hm dX13_step_42 (by omega) (by omega) (off := 1080) (by rw [z0]; rfl) (tgt := 1122) rfl ?_
                                                                                                    refine mx_S.ext [(0, .ref l0), (1, .int l1), (2, .int l2), (3, .int l3)] (mx_sub_pos [1, 2, 3, 4] rfl (show ([4, 0, 1, 2, 3] : List Nat).Nodup by decide)) ?_
                                                                                                    exact j_X13_step_1122_ok X hF hL nn l0 l1 l2 l3 h hf
                                                                                                  · refine sx_tin hm dX13_step_42 (by omega) (by omega) (off := 1080) (by rw [z0]; rfl) (tgt := 1122) rfl ?_
                                                                                                    refine mx_S.ext [(0, .ref l0), (1, .int l1), (2, .int l2), (3, .int l3)] (mx_sub_pos [1, 2, 3, 4] rfl (show ([4, 0, 1, 2, 3] : List Nat).Nodup by decide)) ?_
                                                                                                    exact j_X13_step_1122_ok X hF hL nn l0 l1 l2 l3 h hf
                                                                                                  · refine sx_tin hm dX13_step_42 (by omega) (by omega) (off := 1080) (by rw [z0]; rfl) (tgt := 1122) rfl ?_
                                                                                                    refine mx_S.ext [(0, .ref l0), (1, .int l1), (2, .int l2), (3, .int l3)] (mx_sub_pos [1, 2, 3, 4] rfl (show ([4, 0, 1, 2, 3] : List Nat).Nodup by decide)) ?_
                                                                                                    exact j_X13_step_1122_ok X hF hL nn l0 l1 l2 l3 h hf
                                                                                                  · refine sx_tin hm dX13_step_42 (by omega) (by omega) (off := 1080) (by rw [z0]; rfl) (tgt := 1122) rfl ?_
                                                                                                    refine mx_S.ext [(0, .ref l0), (1, .int l1), (2, .int l2), (3, .int l3)] (mx_sub_pos [1, 2, 3, 4] rfl (show ([4, 0, 1, 2, 3] : List Nat).Nodup by decide)) ?_
                                                                                                    exact j_X13_step_1122_ok X hF hL nn l0 l1 l2 l3 h hf
                                                                                                  · refine sx_tin hm dX13_step_42 (by omega) (by omega) (off := 1080) (by rw [z0]; rfl) (tgt := 1122) rfl ?_
                                                                                                    refine mx_S.ext [(0, .ref l0), (1, .int l1), (2, .int l2), (3, .int l3)] (mx_sub_pos [1, 2, 3, 4] rfl (show ([4, 0, 1, 2, 3] : List Nat).Nodup by decide)) ?_
                                                                                                    exact j_X13_step_1122_ok X hF hL nn l0 l1 l2 l3 h hf
                                                                                                  · refine sx_tin hm dX13_step_42 (by omega) (by omega) (off := 1080) (by rw [z0]; rfl) (tgt := 1122) rfl ?_
                                                                                                    refine mx_S.ext [(0, .ref l0), (1, .int l1), (2, .int l2), (3, .int l3)] (mx_sub_pos [1, 2, 3, 4] rfl (show ([4, 0, 1, 2, 3] : List Nat).Nodup by decide)) ?_
                                                                                                    exact j_X13_step_1122_ok X hF hL nn l0 l1 l2 l3 h hf
                                                                                                  · refine sx_tin hm dX13_step_42 (by omega) (by omega) (off := 1080) (by rw [z0]; rfl) (tgt := 1122) rfl ?_
                                                                                                    refine mx_S.ext [(0, .ref l0), (1, .int l1), (2, .int l2), (3, .int l3)] (mx_sub_pos [1, 2, 3, 4] rfl (show ([4, 0, 1, 2, 3] : List Nat).Nodup by decide)) ?_
                                                                                                    exact j_X13_step_1122_ok X hF hL nn l0 l1 l2 l3 h hf
                                                                                                  · exact absurd (Int32.toInt_inj.mp (z0.trans (by decide : (172 : Int) = (172 : Int32).toInt))) n_33
                                                                                                  · refine sx_tin hm dX13_step_42 (by omega) (by omega) (off := 1080) (by rw [z0]; rfl) (tgt := 1122) rfl ?_
                                                                                                    refine mx_S.ext [(0, .ref l0), (1, .int l1), (2, .int l2), (3, .int l3)] (mx_sub_pos [1, 2, 3, 4] rfl (show ([4, 0, 1, 2, 3] : List Nat).Nodup by decide)) ?_
                                                                                                    exact j_X13_step_1122_ok X hF hL nn l0 l1 l2 l3 h hf
                                                                                                  · refine sx_tin hm dX13_step_42 (by omega) (by omega) (off := 1080) (by rw [z0]; rfl) (tgt := 1122) rfl ?_
                                                                                                    refine mx_S.ext [(0, .ref l0), (1, .int l1), (2, .int l2), (3, .int l3)] (mx_sub_pos [1, 2, 3, 4] rfl (show ([4, 0, 1, 2, 3] : List Nat).Nodup by decide)) ?_
                                                                                                    exact j_X13_step_1122_ok X hF hL nn l0 l1 l2 l3 h hf
                                                                                                  · refine sx_tin hm dX13_step_42 (by omega) (by omega) (off := 1080) (by rw [z0]; rfl) (tgt := 1122) rfl ?_
                                                                                                    refine mx_S.ext [(0, .ref l0), (1, .int l1), (2, .int l2), (3, .int l3)] (mx_sub_pos [1, 2, 3, 4] rfl (show ([4, 0, 1, 2, 3] : List Nat).Nodup by decide)) ?_
                                                                                                    exact j_X13_step_1122_ok X hF hL nn l0 l1 l2 l3 h hf
                                                                                                  · exact absurd (Int32.toInt_inj.mp (z0.trans (by decide : (176 : Int) = (176 : Int32).toInt))) n_34
                                                                                                  · exact absurd (Int32.toInt_inj.mp (z0.trans (by decide : (177 : Int) = (177 : Int32).toInt))) n_35
                                                                                                  · refine sx_tin hm dX13_step_42 (by omega) (by omega) (off := 1080) (by rw [z0]; rfl) (tgt := 1122) rfl ?_
                                                                                                    refine mx_S.ext [(0, .ref l0), (1, .int l1), (2, .int l2), (3, .int l3)] (mx_sub_pos [1, 2, 3, 4] rfl (show ([4, 0, 1, 2, 3] : List Nat).Nodup by decide)) ?_
                                                                                                    exact j_X13_step_1122_ok X hF hL nn l0 l1 l2 l3 h hf
                                                                                                  · refine sx_tin hm dX13_step_42 (by omega) (by omega) (off := 1080) (by rw [z0]; rfl) (tgt := 1122) rfl ?_
                                                                                                    refine mx_S.ext [(0, .ref l0), (1, .int l1), (2, .int l2), (3, .int l3)] (mx_sub_pos [1, 2, 3, 4] rfl (show ([4, 0, 1, 2, 3] : List Nat).Nodup by decide)) ?_
                                                                                                    exact j_X13_step_1122_ok X hF hL nn l0 l1 l2 l3 h hf
                                                                                                  · exact absurd (Int32.toInt_inj.mp (z0.trans (by decide : (180 : Int) = (180 : Int32).toInt))) n_36
                                                                                                  · exact absurd (Int32.toInt_inj.mp (z0.trans (by decide : (181 : Int) = (181 : Int32).toInt))) n_37
                                                                                                  · exact absurd (Int32.toInt_inj.mp (z0.trans (by decide : (182 : Int) = (182 : Int32).toInt))) n_38
                                                                                                  · refine sx_tin hm dX13_step_42 (by omega) (by omega) (off := 1080) (by rw [z0]; rfl) (tgt := 1122) rfl ?_
                                                                                                    refine mx_S.ext [(0, .ref l0), (1, .int l1), (2, .int l2), (3, .int l3)] (mx_sub_pos [1, 2, 3, 4] rfl (show ([4, 0, 1, 2, 3] : List Nat).Nodup by decide)) ?_
                                                                                                    exact j_X13_step_1122_ok X hF hL nn l0 l1 l2 l3 h hf
                                                                                                  · exact absurd (Int32.toInt_inj.mp (z0.trans (by decide : (184 : Int) = (184 : Int32).toInt))) n_39
                                                                                                  · refine sx_tin hm dX13_step_42 (by omega) (by omega) (off := 1080) (by rw [z0]; rfl) (tgt := 1122) rfl ?_
                                                                                                    refine mx_S.ext [(0, .ref l0), (1, .int l1), (2, .int l2), (3, .int l3)] (mx_sub_pos [1, 2, 3, 4] rfl (show ([4, 0, 1, 2, 3] : List Nat).Nodup by decide)) ?_
                                                                                                    exact j_X13_step_1122_ok X hF hL nn l0 l1 l2 l3 h hf
                                                                                                  · exact absurd (Int32.toInt_inj.mp (z0.trans (by decide : (186 : Int) = (186 : Int32).toInt))) n_40
                                                                                                  · exact absurd (Int32.toInt_inj.mp (z0.trans (by decide : (187 : Int) = (187 : Int32).toInt))) n_41
                                                                                                  · exact absurd (Int32.toInt_inj.mp (z0.trans (by decide : (188 : Int) = (188 : Int32).toInt))) n_42
                                                                                                  · exact absurd (Int32.toInt_inj.mp (z0.trans (by decide : (189 : Int) = (189 : Int32).toInt))) n_43
                                                                                                  · exact absurd (Int32.toInt_inj.mp (z0.trans (by decide : (190 : Int) = (190 : Int32).toInt))) n_44
                                                                                                  · exact absurd (Int32.toInt_inj.mp (z0.trans (by decide : (191 : Int) = (191 : Int32).toInt))) n_45
                                                                                                  · exact absurd (Int32.toInt_inj.mp (z0.trans (by decide : (192 : Int) = (192 : Int32).toInt))) n_46
                                                                                                  · exact absurd (Int32.toInt_inj.mp (z0.trans (by decide : (193 : Int) = (193 : Int32).toInt))) n_47
