set_option maxHeartbeats 4000000 in
set_option maxRecDepth 20000 in
theorem j_X5_stepArithmetic_35_ok (X : Nat × (Nat → Int32)) {F L : Nat} (hF : 2 ≤ F) (hL : 44 ≤ L) (nn : Nat) (l0 : Nat) (l1 : Int32) (l2 : Int32) (l3 : Int32) (h : mx_H) {r : mx_H} (hf : j_X5_stepArithmetic_35 nn l0 l1 l2 l3 h = some r) : mx_S X F L 158 35 [(0, .ref l0), (1, .int l1), (2, .int l2), (3, .int l3)] [] h 0 0 (none, r, 0, 0) := by
  have hm : mx_mt 158 = some (yX5_stepArithmetic, cX5_stepArithmetic, 4, none) := mt_X5_stepArithmetic
  unfold j_X5_stepArithmetic_35 at hf
  refine mx_S.pu (pc2 := 36) (lv2 := [(0, .ref l0), (1, .int l1), (2, .int l2), (3, .int l3)]) (st2 := [.ref l0]) hm dX5_stepArithmetic_35 rfl ?_
  refine mx_S.pu (pc2 := 37) (lv2 := [(0, .ref l0), (1, .int l1), (2, .int l2), (3, .int l3)]) (st2 := [.int l1, .ref l0]) hm dX5_stepArithmetic_36 rfl ?_
  refine mx_S.pu (pc2 := 38) (lv2 := [(0, .ref l0), (1, .int l1), (2, .int l2), (3, .int l3)]) (st2 := [.int l3, .int l1, .ref l0]) hm dX5_stepArithmetic_37 rfl ?_
  refine mx_S.pu (pc2 := 39) (lv2 := [(0, .ref l0), (1, .int l1), (2, .int l2), (3, .int l3)]) (st2 := [.int l2, .int l3, .int l1, .ref l0]) hm dX5_stepArithmetic_38 rfl ?_
  replace hf := mx_sv_el hf; obtain ⟨u1, e_u1, hf⟩ := hf
  refine sx_cs hm dX5_stepArithmetic_39 rs_RX5_176 mt_X5_computed [.int l1, .int l3, .int l2] [.ref l0] rfl rfl (Nat.le_of_ble_eq_true rfl) (Nat.le_of_ble_eq_true rfl) (by omega) (by omega) (f_X5_computed_ok X (by omega) (by omega) nn l1 l3 l2 h e_u1) ?_
  clear e_u1
  show mx_S X F L 158 42 [(0, .ref l0), (1, .int l1), (2, .int l2), (3, .int l3)] [.int u1.1, .ref l0] u1.2 0 0 (none, r, 0, 0)
  refine sx_ic (v := 1) hm dX5_stepArithmetic_42 (by decide) ?_
  replace hf := mx_gd_el hf; obtain ⟨c2, hf⟩ := hf
  replace hf := mx_sv_el hf; obtain ⟨u3, e_u3, hf⟩ := hf
  refine sx_cv hm dX5_stepArithmetic_43 rs_RX5_145 mt_X5_give [.int u1.1, .int 1] [] (b := l0) (ci := 5) rfl rfl rfl c2 (Nat.le_of_ble_eq_true rfl) (Nat.le_of_ble_eq_true rfl) (by omega) (by omega) (f_X5_give_ok X (by omega) (by omega) nn l0 u1.1 1 u1.2 e_u3) ?_
  clear e_u3
  show mx_S X F L 158 46 [(0, .ref l0), (1, .int l1), (2, .int l2), (3, .int l3)] [] u3 0 0 (none, r, 0, 0)
  cases hf
  exact sx_ret hm dX5_stepArithmetic_46 rfl
set_option maxHeartbeats 4000000 in
set_option maxRecDepth 20000 in
theorem j_X5_stepArithmetic_26_ok (X : Nat × (Nat → Int32)) {F L : Nat} (hF : 2 ≤ F) (hL : 44 ≤ L) (nn : Nat) (l0 : Nat) (h : mx_H) {r : mx_H} (hf : j_X5_stepArithmetic_26 nn l0 h = some r) : mx_S X F L 158 26 [(0, .ref l0)] [] h 0 0 (none, r, 0, 0) := by
  have hm : mx_mt 158 = some (yX5_stepArithmetic, cX5_stepArithmetic, 4, none) := mt_X5_stepArithmetic
  unfold j_X5_stepArithmetic_26 at hf
  refine mx_S.pu (pc2 := 27) (lv2 := [(0, .ref l0)]) (st2 := [.ref l0]) hm dX5_stepArithmetic_26 rfl ?_
  refine sx_bi (v := (-4)) hm dX5_stepArithmetic_27 (by decide) ?_
  replace hf := mx_sv_el hf; obtain ⟨h4, e_h4, hf⟩ := hf
  refine sx_put hm dX5_stepArithmetic_29 rs_RX5_86 ft_5_20 ⟨rfl, rfl⟩ (fun z => by cases z) e_h4 ?_
  clear e_h4
  refine mx_S.pu (pc2 := 46) (lv2 := [(0, .ref l0)]) (st2 := []) hm dX5_stepArithmetic_32 rfl ?_
  cases hf
  exact sx_ret hm dX5_stepArithmetic_46 rfl
set_option maxHeartbeats 4000000 in
set_option maxRecDepth 20000 in
theorem f_X5_stepArithmetic_ok (X : Nat × (Nat → Int32)) {F L : Nat} (hF : 2 ≤ F) (hL : 44 ≤ L) (nn : Nat) (a0 : Nat) (a1 : Int32) (h : mx_H) {r : mx_H} (hf : f_X5_stepArithmetic nn a0 a1 h = some r) : mx_R X F L 158 [.ref a0, .int a1] h (none, r, 0, 0) := by
  have hm : mx_mt 158 = some (yX5_stepArithmetic, cX5_stepArithmetic, 4, none) := mt_X5_stepArithmetic
  show mx_S X F L 158 0 [(0, .ref a0), (1, .int a1)] [] h 0 0 (none, r, 0, 0)
  unfold f_X5_stepArithmetic at hf
  refine mx_S.pu (pc2 := 1) (lv2 := [(0, .ref a0), (1, .int a1)]) (st2 := [.ref a0]) hm dX5_stepArithmetic_0 rfl ?_
  replace hf := mx_gd_el hf; obtain ⟨c5, hf⟩ := hf
  replace hf := mx_sv_el hf; obtain ⟨u6, e_u6, hf⟩ := hf
  refine sx_cv hm dX5_stepArithmetic_1 rs_RX5_154 mt_X5_pop [] [] (b := a0) (ci := 5) rfl rfl rfl c5 (Nat.le_of_ble_eq_true rfl) (Nat.le_of_ble_eq_true rfl) (by omega) (by omega) (f_X5_pop_ok X (by omega) (by omega) nn a0 h e_u6) ?_
  clear e_u6
  show mx_S X F L 158 4 [(0, .ref a0), (1, .int a1)] [.int u6.1] u6.2 0 0 (none, r, 0, 0)
  refine mx_S.pu (pc2 := 5) (lv2 := [(2, .int u6.1), (0, .ref a0), (1, .int a1)]) (st2 := []) hm dX5_stepArithmetic_4 rfl ?_
  refine mx_S.pu (pc2 := 6) (lv2 := [(2, .int u6.1), (0, .ref a0), (1, .int a1)]) (st2 := [.ref a0]) hm dX5_stepArithmetic_5 rfl ?_
  replace hf := mx_gd_el hf; obtain ⟨c7, hf⟩ := hf
  replace hf := mx_sv_el hf; obtain ⟨u8, e_u8, hf⟩ := hf
  refine sx_cv hm dX5_stepArithmetic_6 rs_RX5_154 mt_X5_pop [] [] (b := a0) (ci := 5) rfl rfl rfl c7 (Nat.le_of_ble_eq_true rfl) (Nat.le_of_ble_eq_true rfl) (by omega) (by omega) (f_X5_pop_ok X (by omega) (by omega) nn a0 u6.2 e_u8) ?_
  clear e_u8
  show mx_S X F L 158 9 [(2, .int u6.1), (0, .ref a0), (1, .int a1)] [.int u8.1] u8.2 0 0 (none, r, 0, 0)
  refine mx_S.pu (pc2 := 10) (lv2 := [(3, .int u8.1), (2, .int u6.1), (0, .ref a0), (1, .int a1)]) (st2 := []) hm dX5_stepArithmetic_9 rfl ?_
  refine mx_S.pu (pc2 := 11) (lv2 := [(3, .int u8.1), (2, .int u6.1), (0, .ref a0), (1, .int a1)]) (st2 := [.int u6.1]) hm dX5_stepArithmetic_10 rfl ?_
  rcases mx_if_el hf with ⟨c11, hf⟩ | ⟨c11, hf⟩
  · refine sb_if_ne hm dX5_stepArithmetic_11 (tgt := 35) rfl (fun _ => ?_) (fun z => absurd c11 z)
    refine mx_S.ext [(0, .ref a0), (1, .int a1), (2, .int u6.1), (3, .int u8.1)] (mx_sub_pos [2, 3, 1, 0] rfl (show ([3, 2, 0, 1] : List Nat).Nodup by decide)) ?_
    exact j_X5_stepArithmetic_35_ok X hF hL nn a0 a1 u6.1 u8.1 u8.2 hf
  · refine sb_if_ne hm dX5_stepArithmetic_11 (tgt := 35) rfl (fun z => absurd z c11) (fun _ => ?_)
    refine mx_S.pu (pc2 := 15) (lv2 := [(3, .int u8.1), (2, .int u6.1), (0, .ref a0), (1, .int a1)]) (st2 := [.int a1]) hm dX5_stepArithmetic_14 rfl ?_
    refine sx_bi (v := 108) hm dX5_stepArithmetic_15 (by decide) ?_
    rcases mx_if_el hf with ⟨c10, hf⟩ | ⟨c10, hf⟩
    · refine sb_ic_eq hm dX5_stepArithmetic_17 (tgt := 26) rfl (fun _ => ?_) (fun z => absurd c10 z)
      refine mx_S.ext [(0, .ref a0)] (mx_sub_pos [2] rfl (show ([3, 2, 0, 1] : List Nat).Nodup by decide)) ?_
      exact j_X5_stepArithmetic_26_ok X hF hL nn a0 u8.2 hf
    · refine sb_ic_eq hm dX5_stepArithmetic_17 (tgt := 26) rfl (fun z => absurd z c10) (fun _ => ?_)
      refine mx_S.pu (pc2 := 21) (lv2 := [(3, .int u8.1), (2, .int u6.1), (0, .ref a0), (1, .int a1)]) (st2 := [.int a1]) hm dX5_stepArithmetic_20 rfl ?_
      refine sx_bi (v := 112) hm dX5_stepArithmetic_21 (by decide) ?_
      rcases mx_if_el hf with ⟨c9, hf⟩ | ⟨c9, hf⟩
      · refine sb_ic_ne hm dX5_stepArithmetic_23 (tgt := 35) rfl (fun _ => ?_) (fun z => absurd c9 z)
        refine mx_S.ext [(0, .ref a0), (1, .int a1), (2, .int u6.1), (3, .int u8.1)] (mx_sub_pos [2, 3, 1, 0] rfl (show ([3, 2, 0, 1] : List Nat).Nodup by decide)) ?_
        exact j_X5_stepArithmetic_35_ok X hF hL nn a0 a1 u6.1 u8.1 u8.2 hf
      · refine sb_ic_ne hm dX5_stepArithmetic_23 (tgt := 35) rfl (fun z => absurd z c9) (fun _ => ?_)
        refine mx_S.ext [(0, .ref a0)] (mx_sub_pos [2] rfl (show ([3, 2, 0, 1] : List Nat).Nodup by decide)) ?_
        exact j_X5_stepArithmetic_26_ok X hF hL nn a0 u8.2 hf
set_option maxHeartbeats 4000000 in
set_option maxRecDepth 20000 in
theorem f_X3_pairAt_ok (X : Nat × (Nat → Int32)) {F L : Nat} (hF : 1 ≤ F) (hL : 21 ≤ L) (nn : Nat) (a0 : Nat) (a1 : Int32) (h : mx_H) {r : (Int32 × mx_H)} (hf : f_X3_pairAt nn a0 a1 h = some r) : mx_R X F L 104 [.ref a0, .int a1] h (some (.int r.1), r.2, 0, 0) := by
  have hm : mx_mt 104 = some (yX3_pairAt, cX3_pairAt, 2, (some .int)) := mt_X3_pairAt
  show mx_S X F L 104 0 [(0, .ref a0), (1, .int a1)] [] h 0 0 (some (.int r.1), r.2, 0, 0)
  unfold f_X3_pairAt at hf
  refine mx_S.pu (pc2 := 1) (lv2 := [(0, .ref a0), (1, .int a1)]) (st2 := [.ref a0]) hm dX3_pairAt_0 rfl ?_
  refine mx_S.pu (pc2 := 2) (lv2 := [(0, .ref a0), (1, .int a1)]) (st2 := [.int a1, .ref a0]) hm dX3_pairAt_1 rfl ?_
  replace hf := mx_gd_el hf; obtain ⟨c1, hf⟩ := hf
  replace hf := mx_sv_el hf; obtain ⟨u2, e_u2, hf⟩ := hf
  refine sx_cv hm dX3_pairAt_2 rs_RX3_119 mt_X3_byteAt [.int a1] [] (b := a0) (ci := 3) rfl rfl rfl c1 (Nat.le_of_ble_eq_true rfl) (Nat.le_of_ble_eq_true rfl) (by omega) (by omega) (f_X3_byteAt_ok X (by omega) (by omega) nn a0 a1 h e_u2) ?_
  clear e_u2
  show mx_S X F L 104 5 [(0, .ref a0), (1, .int a1)] [.int u2.1] u2.2 0 0 (some (.int r.1), r.2, 0, 0)
  refine sx_bi (v := 8) hm dX3_pairAt_5 (by decide) ?_
  replace hf := xl_el hf; obtain ⟨v3, e_v3, hf⟩ := hf
  refine mx_S.pu (pc2 := 8) (lv2 := [(0, .ref a0), (1, .int a1)]) (st2 := [.int v3]) hm dX3_pairAt_7 (by rw [← e_v3]; rfl) ?_
  clear e_v3
  refine mx_S.pu (pc2 := 9) (lv2 := [(0, .ref a0), (1, .int a1)]) (st2 := [.ref a0, .int v3]) hm dX3_pairAt_8 rfl ?_
  refine mx_S.pu (pc2 := 10) (lv2 := [(0, .ref a0), (1, .int a1)]) (st2 := [.int a1, .ref a0, .int v3]) hm dX3_pairAt_9 rfl ?_
  refine sx_ic (v := 1) hm dX3_pairAt_10 (by decide) ?_
  replace hf := xl_el hf; obtain ⟨v4, e_v4, hf⟩ := hf
  refine mx_S.pu (pc2 := 12) (lv2 := [(0, .ref a0), (1, .int a1)]) (st2 := [.int v4, .ref a0, .int v3]) hm dX3_pairAt_11 (by rw [← e_v4]; rfl) ?_
  clear e_v4
  replace hf := mx_gd_el hf; obtain ⟨c5, hf⟩ := hf
  replace hf := mx_sv_el hf; obtain ⟨u6, e_u6, hf⟩ := hf
  refine sx_cv hm dX3_pairAt_12 rs_RX3_119 mt_X3_byteAt [.int v4] [.int v3] (b := a0) (ci := 3) rfl rfl rfl c5 (Nat.le_of_ble_eq_true rfl) (Nat.le_of_ble_eq_true rfl) (by omega) (by omega) (f_X3_byteAt_ok X (by omega) (by omega) nn a0 v4 u2.2 e_u6) ?_
  clear e_u6
  show mx_S X F L 104 15 [(0, .ref a0), (1, .int a1)] [.int u6.1, .int v3] u6.2 0 0 (some (.int r.1), r.2, 0, 0)
  replace hf := xl_el hf; obtain ⟨v7, e_v7, hf⟩ := hf
  refine mx_S.pu (pc2 := 16) (lv2 := [(0, .ref a0), (1, .int a1)]) (st2 := [.int v7]) hm dX3_pairAt_15 (by rw [← e_v7]; rfl) ?_
  clear e_v7
  cases hf
  exact sx_ire hm dX3_pairAt_16 rfl rfl
set_option maxHeartbeats 4000000 in
set_option maxRecDepth 20000 in
theorem j_X5_compares_103_ok (X : Nat × (Nat → Int32)) {F L : Nat} (hF : 0 ≤ F) (hL : 0 ≤ L) (nn : Nat) (l1 : Int32) (l2 : Int32) (h : mx_H) {r : (Int32 × mx_H)} (hf : j_X5_compares_103 nn l1 l2 h = some r) : mx_S X F L 161 103 [(1, .int l1), (2, .int l2)] [] h 0 0 (some (.int r.1), r.2, 0, 0) := by
  have hm : mx_mt 161 = some (yX5_compares, cX5_compares, 3, (some .boolean)) := mt_X5_compares
  unfold j_X5_compares_103 at hf
  refine mx_S.pu (pc2 := 104) (lv2 := [(1, .int l1), (2, .int l2)]) (st2 := [.int l1]) hm dX5_compares_103 rfl ?_
  refine mx_S.pu (pc2 := 105) (lv2 := [(1, .int l1), (2, .int l2)]) (st2 := [.int l2, .int l1]) hm dX5_compares_104 rfl ?_
  rcases mx_if_el hf with ⟨c1, hf⟩ | ⟨c1, hf⟩
  · refine sb_ic_gt hm dX5_compares_105 (tgt := 112) rfl (fun _ => ?_) (fun z => absurd c1 z)
    refine sx_ic (v := 0) hm dX5_compares_112 (by decide) ?_
    cases hf
    exact sx_ire hm dX5_compares_113 rfl (by decide)
  · refine sb_ic_gt hm dX5_compares_105 (tgt := 112) rfl (fun z => absurd z c1) (fun _ => ?_)
    refine sx_ic (v := 1) hm dX5_compares_108 (by decide) ?_
    refine mx_S.pu (pc2 := 113) (lv2 := [(1, .int l1), (2, .int l2)]) (st2 := [.int 1]) hm dX5_compares_109 rfl ?_
    cases hf
    exact sx_ire hm dX5_compares_113 rfl (by decide)
set_option maxHeartbeats 4000000 in
set_option maxRecDepth 20000 in
theorem j_X5_compares_59_ok (X : Nat × (Nat → Int32)) {F L : Nat} (hF : 0 ≤ F) (hL : 0 ≤ L) (nn : Nat) (l1 : Int32) (l2 : Int32) (h : mx_H) {r : (Int32 × mx_H)} (hf : j_X5_compares_59 nn l1 l2 h = some r) : mx_S X F L 161 59 [(1, .int l1), (2, .int l2)] [] h 0 0 (some (.int r.1), r.2, 0, 0) := by
  have hm : mx_mt 161 = some (yX5_compares, cX5_compares, 3, (some .boolean)) := mt_X5_compares
  unfold j_X5_compares_59 at hf
  refine mx_S.pu (pc2 := 60) (lv2 := [(1, .int l1), (2, .int l2)]) (st2 := [.int l1]) hm dX5_compares_59 rfl ?_
  refine mx_S.pu (pc2 := 61) (lv2 := [(1, .int l1), (2, .int l2)]) (st2 := [.int l2, .int l1]) hm dX5_compares_60 rfl ?_
  rcases mx_if_el hf with ⟨c2, hf⟩ | ⟨c2, hf⟩
  · refine sb_ic_eq hm dX5_compares_61 (tgt := 68) rfl (fun _ => ?_) (fun z => absurd c2 z)
    refine sx_ic (v := 0) hm dX5_compares_68 (by decide) ?_
    cases hf
    exact sx_ire hm dX5_compares_69 rfl (by decide)
  · refine sb_ic_eq hm dX5_compares_61 (tgt := 68) rfl (fun z => absurd z c2) (fun _ => ?_)
    refine sx_ic (v := 1) hm dX5_compares_64 (by decide) ?_
    refine mx_S.pu (pc2 := 69) (lv2 := [(1, .int l1), (2, .int l2)]) (st2 := [.int 1]) hm dX5_compares_65 rfl ?_
    cases hf
    exact sx_ire hm dX5_compares_69 rfl (by decide)
set_option maxHeartbeats 4000000 in
set_option maxRecDepth 20000 in
theorem j_X5_compares_48_ok (X : Nat × (Nat → Int32)) {F L : Nat} (hF : 0 ≤ F) (hL : 0 ≤ L) (nn : Nat) (l1 : Int32) (l2 : Int32) (h : mx_H) {r : (Int32 × mx_H)} (hf : j_X5_compares_48 nn l1 l2 h = some r) : mx_S X F L 161 48 [(1, .int l1), (2, .int l2)] [] h 0 0 (some (.int r.1), r.2, 0, 0) := by
  have hm : mx_mt 161 = some (yX5_compares, cX5_compares, 3, (some .boolean)) := mt_X5_compares
  unfold j_X5_compares_48 at hf
  refine mx_S.pu (pc2 := 49) (lv2 := [(1, .int l1), (2, .int l2)]) (st2 := [.int l1]) hm dX5_compares_48 rfl ?_
  refine mx_S.pu (pc2 := 50) (lv2 := [(1, .int l1), (2, .int l2)]) (st2 := [.int l2, .int l1]) hm dX5_compares_49 rfl ?_
  rcases mx_if_el hf with ⟨c3, hf⟩ | ⟨c3, hf⟩
  · refine sb_ic_ne hm dX5_compares_50 (tgt := 57) rfl (fun _ => ?_) (fun z => absurd c3 z)
    refine sx_ic (v := 0) hm dX5_compares_57 (by decide) ?_
    cases hf
    exact sx_ire hm dX5_compares_58 rfl (by decide)
  · refine sb_ic_ne hm dX5_compares_50 (tgt := 57) rfl (fun z => absurd z c3) (fun _ => ?_)
    refine sx_ic (v := 1) hm dX5_compares_53 (by decide) ?_
    refine mx_S.pu (pc2 := 58) (lv2 := [(1, .int l1), (2, .int l2)]) (st2 := [.int 1]) hm dX5_compares_54 rfl ?_
    cases hf
    exact sx_ire hm dX5_compares_58 rfl (by decide)
set_option maxHeartbeats 4000000 in
set_option maxRecDepth 20000 in
theorem f_X5_compares_ok (X : Nat × (Nat → Int32)) {F L : Nat} (hF : 0 ≤ F) (hL : 0 ≤ L) (nn : Nat) (a0 : Int32) (a1 : Int32) (a2 : Int32) (h : mx_H) {r : (Int32 × mx_H)} (hf : f_X5_compares nn a0 a1 a2 h = some r) : mx_R X F L 161 [.int a0, .int a1, .int a2] h (some (.int r.1), r.2, 0, 0) := by
  have hm : mx_mt 161 = some (yX5_compares, cX5_compares, 3, (some .boolean)) := mt_X5_compares
  show mx_S X F L 161 0 [(0, .int a0), (1, .int a1), (2, .int a2)] [] h 0 0 (some (.int r.1), r.2, 0, 0)
  unfold f_X5_compares at hf
  refine mx_S.pu (pc2 := 1) (lv2 := [(0, .int a0), (1, .int a1), (2, .int a2)]) (st2 := [.int a0]) hm dX5_compares_0 rfl ?_
  rcases mx_if_el hf with ⟨n_0, hf⟩ | ⟨n_0, hf⟩
  · refine sx_tin hm dX5_compares_1 (by rw [n_0]; decide) (by rw [n_0]; decide) (off := 47) (by rw [n_0]; rfl) (tgt := 48) rfl ?_
    clear n_0
    refine mx_S.ext [(1, .int a1), (2, .int a2)] (mx_sub_pos [1, 2] rfl (show ([0, 1, 2] : List Nat).Nodup by decide)) ?_
    exact j_X5_compares_48_ok X hF hL nn a1 a2 h hf
  · rcases mx_if_el hf with ⟨n_1, hf⟩ | ⟨n_1, hf⟩
    · refine sx_tin hm dX5_compares_1 (by rw [n_1]; decide) (by rw [n_1]; decide) (off := 58) (by rw [n_1]; rfl) (tgt := 59) rfl ?_
      clear n_0 n_1
      refine mx_S.ext [(1, .int a1), (2, .int a2)] (mx_sub_pos [1, 2] rfl (show ([0, 1, 2] : List Nat).Nodup by decide)) ?_
      exact j_X5_compares_59_ok X hF hL nn a1 a2 h hf
    · rcases mx_if_el hf with ⟨n_2, hf⟩ | ⟨n_2, hf⟩
      · refine sx_tin hm dX5_compares_1 (by rw [n_2]; decide) (by rw [n_2]; decide) (off := 69) (by rw [n_2]; rfl) (tgt := 70) rfl ?_
        clear n_0 n_1 n_2
        refine mx_S.pu (pc2 := 71) (lv2 := [(0, .int a0), (1, .int a1), (2, .int a2)]) (st2 := [.int a1]) hm dX5_compares_70 rfl ?_
        refine mx_S.pu (pc2 := 72) (lv2 := [(0, .int a0), (1, .int a1), (2, .int a2)]) (st2 := [.int a2, .int a1]) hm dX5_compares_71 rfl ?_
        rcases mx_if_el hf with ⟨c4, hf⟩ | ⟨c4, hf⟩
        · refine sb_ic_ge hm dX5_compares_72 (tgt := 79) rfl (fun _ => ?_) (fun z => absurd c4 z)
          refine sx_ic (v := 0) hm dX5_compares_79 (by decide) ?_
          cases hf
          exact sx_ire hm dX5_compares_80 rfl (by decide)
        · refine sb_ic_ge hm dX5_compares_72 (tgt := 79) rfl (fun z => absurd z c4) (fun _ => ?_)
          refine sx_ic (v := 1) hm dX5_compares_75 (by decide) ?_
          refine mx_S.pu (pc2 := 80) (lv2 := [(0, .int a0), (1, .int a1), (2, .int a2)]) (st2 := [.int 1]) hm dX5_compares_76 rfl ?_
          cases hf
          exact sx_ire hm dX5_compares_80 rfl (by decide)
      · rcases mx_if_el hf with ⟨n_3, hf⟩ | ⟨n_3, hf⟩
        · refine sx_tin hm dX5_compares_1 (by rw [n_3]; decide) (by rw [n_3]; decide) (off := 80) (by rw [n_3]; rfl) (tgt := 81) rfl ?_
          clear n_0 n_1 n_2 n_3
          refine mx_S.pu (pc2 := 82) (lv2 := [(0, .int a0), (1, .int a1), (2, .int a2)]) (st2 := [.int a1]) hm dX5_compares_81 rfl ?_
          refine mx_S.pu (pc2 := 83) (lv2 := [(0, .int a0), (1, .int a1), (2, .int a2)]) (st2 := [.int a2, .int a1]) hm dX5_compares_82 rfl ?_
          rcases mx_if_el hf with ⟨c5, hf⟩ | ⟨c5, hf⟩
          · refine sb_ic_lt hm dX5_compares_83 (tgt := 90) rfl (fun _ => ?_) (fun z => absurd c5 z)
            refine sx_ic (v := 0) hm dX5_compares_90 (by decide) ?_
            cases hf
            exact sx_ire hm dX5_compares_91 rfl (by decide)
          · refine sb_ic_lt hm dX5_compares_83 (tgt := 90) rfl (fun z => absurd z c5) (fun _ => ?_)
            refine sx_ic (v := 1) hm dX5_compares_86 (by decide) ?_
            refine mx_S.pu (pc2 := 91) (lv2 := [(0, .int a0), (1, .int a1), (2, .int a2)]) (st2 := [.int 1]) hm dX5_compares_87 rfl ?_
            cases hf
            exact sx_ire hm dX5_compares_91 rfl (by decide)
        · rcases mx_if_el hf with ⟨n_4, hf⟩ | ⟨n_4, hf⟩
          · refine sx_tin hm dX5_compares_1 (by rw [n_4]; decide) (by rw [n_4]; decide) (off := 91) (by rw [n_4]; rfl) (tgt := 92) rfl ?_
            clear n_0 n_1 n_2 n_3 n_4
            refine mx_S.pu (pc2 := 93) (lv2 := [(0, .int a0), (1, .int a1), (2, .int a2)]) (st2 := [.int a1]) hm dX5_compares_92 rfl ?_
            refine mx_S.pu (pc2 := 94) (lv2 := [(0, .int a0), (1, .int a1), (2, .int a2)]) (st2 := [.int a2, .int a1]) hm dX5_compares_93 rfl ?_
            rcases mx_if_el hf with ⟨c6, hf⟩ | ⟨c6, hf⟩
            · refine sb_ic_le hm dX5_compares_94 (tgt := 101) rfl (fun _ => ?_) (fun z => absurd c6 z)
              refine sx_ic (v := 0) hm dX5_compares_101 (by decide) ?_
              cases hf
              exact sx_ire hm dX5_compares_102 rfl (by decide)
            · refine sb_ic_le hm dX5_compares_94 (tgt := 101) rfl (fun z => absurd z c6) (fun _ => ?_)
              refine sx_ic (v := 1) hm dX5_compares_97 (by decide) ?_
              refine mx_S.pu (pc2 := 102) (lv2 := [(0, .int a0), (1, .int a1), (2, .int a2)]) (st2 := [.int 1]) hm dX5_compares_98 rfl ?_
              cases hf
              exact sx_ire hm dX5_compares_102 rfl (by decide)
          · rcases mx_if_el hf with ⟨n_5, hf⟩ | ⟨n_5, hf⟩
            · refine sx_tin hm dX5_compares_1 (by rw [n_5]; decide) (by rw [n_5]; decide) (off := 47) (by rw [n_5]; rfl) (tgt := 48) rfl ?_
              clear n_0 n_1 n_2 n_3 n_4 n_5
              refine mx_S.ext [(1, .int a1), (2, .int a2)] (mx_sub_pos [1, 2] rfl (show ([0, 1, 2] : List Nat).Nodup by decide)) ?_
              exact j_X5_compares_48_ok X hF hL nn a1 a2 h hf
            · rcases mx_if_el hf with ⟨n_6, hf⟩ | ⟨n_6, hf⟩
              · refine sx_tin hm dX5_compares_1 (by rw [n_6]; decide) (by rw [n_6]; decide) (off := 58) (by rw [n_6]; rfl) (tgt := 59) rfl ?_
                clear n_0 n_1 n_2 n_3 n_4 n_5 n_6
                refine mx_S.ext [(1, .int a1), (2, .int a2)] (mx_sub_pos [1, 2] rfl (show ([0, 1, 2] : List Nat).Nodup by decide)) ?_
                exact j_X5_compares_59_ok X hF hL nn a1 a2 h hf
              · rcases (show (a0.toInt < 159 ∨ 166 < a0.toInt) ∨ a0.toInt = 159 ∨ a0.toInt = 160 ∨ a0.toInt = 161 ∨ a0.toInt = 162 ∨ a0.toInt = 163 ∨ a0.toInt = 164 ∨ a0.toInt = 165 ∨ a0.toInt = 166 by omega) with z0 | z0 | z0 | z0 | z0 | z0 | z0 | z0 | z0
                · refine sx_tout hm dX5_compares_1 z0 (tgt := 103) rfl ?_
                  refine mx_S.ext [(1, .int a1), (2, .int a2)] (mx_sub_pos [1, 2] rfl (show ([0, 1, 2] : List Nat).Nodup by decide)) ?_
                  exact j_X5_compares_103_ok X hF hL nn a1 a2 h hf
                · exact absurd (Int32.toInt_inj.mp (z0.trans (by decide : (159 : Int) = (159 : Int32).toInt))) n_0
                · exact absurd (Int32.toInt_inj.mp (z0.trans (by decide : (160 : Int) = (160 : Int32).toInt))) n_1
                · exact absurd (Int32.toInt_inj.mp (z0.trans (by decide : (161 : Int) = (161 : Int32).toInt))) n_2
                · exact absurd (Int32.toInt_inj.mp (z0.trans (by decide : (162 : Int) = (162 : Int32).toInt))) n_3
                · exact absurd (Int32.toInt_inj.mp (z0.trans (by decide : (163 : Int) = (163 : Int32).toInt))) n_4
                · refine sx_tin hm dX5_compares_1 (by omega) (by omega) (off := 102) (by rw [z0]; rfl) (tgt := 103) rfl ?_
                  refine mx_S.ext [(1, .int a1), (2, .int a2)] (mx_sub_pos [1, 2] rfl (show ([0, 1, 2] : List Nat).Nodup by decide)) ?_
                  exact j_X5_compares_103_ok X hF hL nn a1 a2 h hf
                · exact absurd (Int32.toInt_inj.mp (z0.trans (by decide : (165 : Int) = (165 : Int32).toInt))) n_5
                · exact absurd (Int32.toInt_inj.mp (z0.trans (by decide : (166 : Int) = (166 : Int32).toInt))) n_6
set_option maxHeartbeats 4000000 in
set_option maxRecDepth 20000 in
theorem j_X5_stepJump_76_ok (X : Nat × (Nat → Int32)) {F L : Nat} (hF : 2 ≤ F) (hL : 42 ≤ L) (nn : Nat) (l0 : Nat) (l2 : Int32) (l3 : Int32) (h : mx_H) {r : mx_H} (hf : j_X5_stepJump_76 nn l0 l2 l3 h = some r) : mx_S X F L 160 76 [(0, .ref l0), (2, .int l2), (3, .int l3)] [] h 0 0 (none, r, 0, 0) := by
  have hm : mx_mt 160 = some (yX5_stepJump, cX5_stepJump, 6, none) := mt_X5_stepJump
  unfold j_X5_stepJump_76 at hf
  refine mx_S.pu (pc2 := 77) (lv2 := [(0, .ref l0), (2, .int l2), (3, .int l3)]) (st2 := [.ref l0]) hm dX5_stepJump_76 rfl ?_
  refine mx_S.pu (pc2 := 78) (lv2 := [(0, .ref l0), (2, .int l2), (3, .int l3)]) (st2 := [.int l3, .ref l0]) hm dX5_stepJump_77 rfl ?_
  rcases mx_if_el hf with ⟨c12, hf⟩ | ⟨c12, hf⟩
  · refine sb_if_eq hm dX5_stepJump_78 (tgt := 100) rfl (fun _ => ?_) (fun z => absurd c12 z)
    refine sx_ic (v := 3) hm dX5_stepJump_100 (by decide) ?_
    replace hf := mx_gd_el hf; obtain ⟨c1, hf⟩ := hf
    replace hf := mx_sv_el hf; obtain ⟨u2, e_u2, hf⟩ := hf
    refine sx_cv hm dX5_stepJump_101 rs_RX5_138 mt_X5_goOn [.int 3] [] (b := l0) (ci := 5) rfl rfl rfl c1 (Nat.le_of_ble_eq_true rfl) (Nat.le_of_ble_eq_true rfl) (by omega) (by omega) (f_X5_goOn_ok X (by omega) (by omega) nn l0 3 h e_u2) ?_
    clear e_u2
    show mx_S X F L 160 104 [(0, .ref l0), (2, .int l2), (3, .int l3)] [] u2 0 0 (none, r, 0, 0)
    cases hf
    exact sx_ret hm dX5_stepJump_104 rfl
  · refine sb_if_eq hm dX5_stepJump_78 (tgt := 100) rfl (fun z => absurd z c12) (fun _ => ?_)
    refine mx_S.pu (pc2 := 82) (lv2 := [(0, .ref l0), (2, .int l2), (3, .int l3)]) (st2 := [.ref l0, .ref l0]) hm dX5_stepJump_81 rfl ?_
    replace hf := mx_sv_el hf; obtain ⟨v3, e_v3, hf⟩ := hf
    refine sx_get hm dX5_stepJump_82 rs_RX5_46 (xgr_el e_v3) ?_
    clear e_v3
    refine mx_S.pu (pc2 := 86) (lv2 := [(0, .ref l0), (2, .int l2), (3, .int l3)]) (st2 := [.ref l0, .ref v3, .ref l0]) hm dX5_stepJump_85 rfl ?_
    replace hf := mx_sv_el hf; obtain ⟨v4, e_v4, hf⟩ := hf
    refine sx_get hm dX5_stepJump_86 rs_RX5_129 (xgi_el e_v4) ?_
    clear e_v4
    refine mx_S.pu (pc2 := 90) (lv2 := [(0, .ref l0), (2, .int l2), (3, .int l3)]) (st2 := [.int l2, .int v4, .ref v3, .ref l0]) hm dX5_stepJump_89 rfl ?_
    replace hf := xl_el hf; obtain ⟨v5, e_v5, hf⟩ := hf
    refine mx_S.pu (pc2 := 91) (lv2 := [(0, .ref l0), (2, .int l2), (3, .int l3)]) (st2 := [.int v5, .ref v3, .ref l0]) hm dX5_stepJump_90 (by rw [← e_v5]; rfl) ?_
    clear e_v5
    refine sx_ic (v := 1) hm dX5_stepJump_91 (by decide) ?_
    replace hf := xl_el hf; obtain ⟨v6, e_v6, hf⟩ := hf
    refine mx_S.pu (pc2 := 93) (lv2 := [(0, .ref l0), (2, .int l2), (3, .int l3)]) (st2 := [.int v6, .ref v3, .ref l0]) hm dX5_stepJump_92 (by rw [← e_v6]; rfl) ?_
    clear e_v6
    replace hf := mx_gd_el hf; obtain ⟨c7, hf⟩ := hf
    replace hf := mx_sv_el hf; obtain ⟨u8, e_u8, hf⟩ := hf
    refine sx_cv hm dX5_stepJump_93 rs_RX5_184 mt_X3_pairAt [.int v6] [.ref l0] (b := v3) (ci := 3) rfl rfl rfl c7 (Nat.le_of_ble_eq_true rfl) (Nat.le_of_ble_eq_true rfl) (by omega) (by omega) (f_X3_pairAt_ok X (by omega) (by omega) nn v3 v6 h e_u8) ?_
    clear e_u8
    show mx_S X F L 160 96 [(0, .ref l0), (2, .int l2), (3, .int l3)] [.int u8.1, .ref l0] u8.2 0 0 (none, r, 0, 0)
    replace hf := xl_el hf; obtain ⟨v9, e_v9, hf⟩ := hf
    refine mx_S.pu (pc2 := 97) (lv2 := [(0, .ref l0), (2, .int l2), (3, .int l3)]) (st2 := [.int v9, .ref l0]) hm dX5_stepJump_96 (by rw [← e_v9]; rfl) ?_
    clear e_v9
    refine mx_S.pu (pc2 := 101) (lv2 := [(0, .ref l0), (2, .int l2), (3, .int l3)]) (st2 := [.int v9, .ref l0]) hm dX5_stepJump_97 rfl ?_
    replace hf := mx_gd_el hf; obtain ⟨c10, hf⟩ := hf
    replace hf := mx_sv_el hf; obtain ⟨u11, e_u11, hf⟩ := hf
    refine sx_cv hm dX5_stepJump_101 rs_RX5_138 mt_X5_goOn [.int v9] [] (b := l0) (ci := 5) rfl rfl rfl c10 (Nat.le_of_ble_eq_true rfl) (Nat.le_of_ble_eq_true rfl) (by omega) (by omega) (f_X5_goOn_ok X (by omega) (by omega) nn l0 v9 u8.2 e_u11) ?_
    clear e_u11
    show mx_S X F L 160 104 [(0, .ref l0), (2, .int l2), (3, .int l3)] [] u11 0 0 (none, r, 0, 0)
    cases hf
    exact sx_ret hm dX5_stepJump_104 rfl
set_option maxHeartbeats 4000000 in
set_option maxRecDepth 20000 in
theorem j_X5_stepJump_44_ok (X : Nat × (Nat → Int32)) {F L : Nat} (hF : 2 ≤ F) (hL : 42 ≤ L) (nn : Nat) (l0 : Nat) (l2 : Int32) (s0 : Int32) (h : mx_H) {r : mx_H} (hf : j_X5_stepJump_44 nn l0 l2 s0 h = some r) : mx_S X F L 160 44 [(0, .ref l0), (2, .int l2)] [.int s0] h 0 0 (none, r, 0, 0) := by
  have hm : mx_mt 160 = some (yX5_stepJump, cX5_stepJump, 6, none) := mt_X5_stepJump
  unfold j_X5_stepJump_44 at hf
  refine mx_S.pu (pc2 := 45) (lv2 := [(3, .int s0), (0, .ref l0), (2, .int l2)]) (st2 := []) hm dX5_stepJump_44 rfl ?_
  refine mx_S.pu (pc2 := 76) (lv2 := [(3, .int s0), (0, .ref l0), (2, .int l2)]) (st2 := []) hm dX5_stepJump_45 rfl ?_
  refine mx_S.ext [(0, .ref l0), (2, .int l2), (3, .int s0)] (mx_sub_pos [1, 2, 0] rfl (show ([3, 0, 2] : List Nat).Nodup by decide)) ?_
  exact j_X5_stepJump_76_ok X hF hL nn l0 l2 s0 h hf
set_option maxHeartbeats 4000000 in
set_option maxRecDepth 20000 in
theorem j_X5_stepJump_21_ok (X : Nat × (Nat → Int32)) {F L : Nat} (hF : 2 ≤ F) (hL : 42 ≤ L) (nn : Nat) (l0 : Nat) (l2 : Int32) (s0 : Int32) (h : mx_H) {r : mx_H} (hf : j_X5_stepJump_21 nn l0 l2 s0 h = some r) : mx_S X F L 160 21 [(0, .ref l0), (2, .int l2)] [.int s0] h 0 0 (none, r, 0, 0) := by
  have hm : mx_mt 160 = some (yX5_stepJump, cX5_stepJump, 6, none) := mt_X5_stepJump
  unfold j_X5_stepJump_21 at hf
  refine mx_S.pu (pc2 := 22) (lv2 := [(3, .int s0), (0, .ref l0), (2, .int l2)]) (st2 := []) hm dX5_stepJump_21 rfl ?_
  refine mx_S.pu (pc2 := 76) (lv2 := [(3, .int s0), (0, .ref l0), (2, .int l2)]) (st2 := []) hm dX5_stepJump_22 rfl ?_
  refine mx_S.ext [(0, .ref l0), (2, .int l2), (3, .int s0)] (mx_sub_pos [1, 2, 0] rfl (show ([3, 0, 2] : List Nat).Nodup by decide)) ?_
  exact j_X5_stepJump_76_ok X hF hL nn l0 l2 s0 h hf
set_option maxHeartbeats 4000000 in
set_option maxRecDepth 20000 in
theorem f_X5_stepJump_ok (X : Nat × (Nat → Int32)) {F L : Nat} (hF : 2 ≤ F) (hL : 42 ≤ L) (nn : Nat) (a0 : Nat) (a1 : Int32) (a2 : Int32) (h : mx_H) {r : mx_H} (hf : f_X5_stepJump nn a0 a1 a2 h = some r) : mx_R X F L 160 [.ref a0, .int a1, .int a2] h (none, r, 0, 0) := by
  have hm : mx_mt 160 = some (yX5_stepJump, cX5_stepJump, 6, none) := mt_X5_stepJump
  show mx_S X F L 160 0 [(0, .ref a0), (1, .int a1), (2, .int a2)] [] h 0 0 (none, r, 0, 0)
  unfold f_X5_stepJump at hf
  refine sx_ic (v := 1) hm dX5_stepJump_0 (by decide) ?_
  refine mx_S.pu (pc2 := 2) (lv2 := [(3, .int 1), (0, .ref a0), (1, .int a1), (2, .int a2)]) (st2 := []) hm dX5_stepJump_1 rfl ?_
  refine mx_S.pu (pc2 := 3) (lv2 := [(3, .int 1), (0, .ref a0), (1, .int a1), (2, .int a2)]) (st2 := [.int a1]) hm dX5_stepJump_2 rfl ?_
  refine sx_si (v := 153) hm dX5_stepJump_3 (by decide) ?_
  rcases mx_if_el hf with ⟨c26, hf⟩ | ⟨c26, hf⟩
  · refine sb_ic_ne hm dX5_stepJump_6 (tgt := 25) rfl (fun _ => ?_) (fun z => absurd c26 z)
    refine mx_S.pu (pc2 := 26) (lv2 := [(3, .int 1), (0, .ref a0), (1, .int a1), (2, .int a2)]) (st2 := [.int a1]) hm dX5_stepJump_25 rfl ?_
    refine sx_si (v := 154) hm dX5_stepJump_26 (by decide) ?_
    rcases mx_if_el hf with ⟨c22, hf⟩ | ⟨c22, hf⟩
    · refine sb_ic_ne hm dX5_stepJump_29 (tgt := 48) rfl (fun _ => ?_) (fun z => absurd c22 z)
      refine mx_S.pu (pc2 := 49) (lv2 := [(3, .int 1), (0, .ref a0), (1, .int a1), (2, .int a2)]) (st2 := [.int a1]) hm dX5_stepJump_48 rfl ?_
      refine sx_si (v := 167) hm dX5_stepJump_49 (by decide) ?_
      rcases mx_if_el hf with ⟨c18, hf⟩ | ⟨c18, hf⟩
      · refine sb_ic_eq hm dX5_stepJump_52 (tgt := 76) rfl (fun _ => ?_) (fun z => absurd c18 z)
        refine mx_S.ext [(0, .ref a0), (2, .int a2), (3, .int 1)] (mx_sub_pos [1, 3, 0] rfl (show ([3, 0, 1, 2] : List Nat).Nodup by decide)) ?_
        exact j_X5_stepJump_76_ok X hF hL nn a0 a2 1 h hf
      · refine sb_ic_eq hm dX5_stepJump_52 (tgt := 76) rfl (fun z => absurd z c18) (fun _ => ?_)
        refine mx_S.pu (pc2 := 56) (lv2 := [(3, .int 1), (0, .ref a0), (1, .int a1), (2, .int a2)]) (st2 := [.ref a0]) hm dX5_stepJump_55 rfl ?_
        replace hf := mx_gd_el hf; obtain ⟨c13, hf⟩ := hf
        replace hf := mx_sv_el hf; obtain ⟨u14, e_u14, hf⟩ := hf
        refine sx_cv hm dX5_stepJump_56 rs_RX5_154 mt_X5_pop [] [] (b := a0) (ci := 5) rfl rfl rfl c13 (Nat.le_of_ble_eq_true rfl) (Nat.le_of_ble_eq_true rfl) (by omega) (by omega) (f_X5_pop_ok X (by omega) (by omega) nn a0 h e_u14) ?_
        clear e_u14
        show mx_S X F L 160 59 [(3, .int 1), (0, .ref a0), (1, .int a1), (2, .int a2)] [.int u14.1] u14.2 0 0 (none, r, 0, 0)
        refine mx_S.pu (pc2 := 61) (lv2 := [(4, .int u14.1), (3, .int 1), (0, .ref a0), (1, .int a1), (2, .int a2)]) (st2 := []) hm dX5_stepJump_59 rfl ?_
        refine mx_S.pu (pc2 := 62) (lv2 := [(4, .int u14.1), (3, .int 1), (0, .ref a0), (1, .int a1), (2, .int a2)]) (st2 := [.ref a0]) hm dX5_stepJump_61 rfl ?_
        replace hf := mx_gd_el hf; obtain ⟨c15, hf⟩ := hf
        replace hf := mx_sv_el hf; obtain ⟨u16, e_u16, hf⟩ := hf
        refine sx_cv hm dX5_stepJump_62 rs_RX5_154 mt_X5_pop [] [] (b := a0) (ci := 5) rfl rfl rfl c15 (Nat.le_of_ble_eq_true rfl) (Nat.le_of_ble_eq_true rfl) (by omega) (by omega) (f_X5_pop_ok X (by omega) (by omega) nn a0 u14.2 e_u16) ?_
        clear e_u16
        show mx_S X F L 160 65 [(4, .int u14.1), (3, .int 1), (0, .ref a0), (1, .int a1), (2, .int a2)] [.int u16.1] u16.2 0 0 (none, r, 0, 0)
        refine mx_S.pu (pc2 := 67) (lv2 := [(5, .int u16.1), (4, .int u14.1), (3, .int 1), (0, .ref a0), (1, .int a1), (2, .int a2)]) (st2 := []) hm dX5_stepJump_65 rfl ?_
        refine mx_S.pu (pc2 := 68) (lv2 := [(5, .int u16.1), (4, .int u14.1), (3, .int 1), (0, .ref a0), (1, .int a1), (2, .int a2)]) (st2 := [.int a1]) hm dX5_stepJump_67 rfl ?_
        refine mx_S.pu (pc2 := 70) (lv2 := [(5, .int u16.1), (4, .int u14.1), (3, .int 1), (0, .ref a0), (1, .int a1), (2, .int a2)]) (st2 := [.int u16.1, .int a1]) hm dX5_stepJump_68 rfl ?_
        refine mx_S.pu (pc2 := 72) (lv2 := [(5, .int u16.1), (4, .int u14.1), (3, .int 1), (0, .ref a0), (1, .int a1), (2, .int a2)]) (st2 := [.int u14.1, .int u16.1, .int a1]) hm dX5_stepJump_70 rfl ?_
        replace hf := mx_sv_el hf; obtain ⟨u17, e_u17, hf⟩ := hf
        refine sx_cs hm dX5_stepJump_72 rs_RX5_180 mt_X5_compares [.int a1, .int u16.1, .int u14.1] [] rfl rfl (Nat.le_of_ble_eq_true rfl) (Nat.le_of_ble_eq_true rfl) (by omega) (by omega) (f_X5_compares_ok X (by omega) (by omega) nn a1 u16.1 u14.1 u16.2 e_u17) ?_
        clear e_u17
        show mx_S X F L 160 75 [(5, .int u16.1), (4, .int u14.1), (3, .int 1), (0, .ref a0), (1, .int a1), (2, .int a2)] [.int u17.1] u17.2 0 0 (none, r, 0, 0)
        refine mx_S.pu (pc2 := 76) (lv2 := [(3, .int u17.1), (5, .int u16.1), (4, .int u14.1), (0, .ref a0), (1, .int a1), (2, .int a2)]) (st2 := []) hm dX5_stepJump_75 rfl ?_
        refine mx_S.ext [(0, .ref a0), (2, .int a2), (3, .int u17.1)] (mx_sub_pos [3, 5, 0] rfl (show ([3, 5, 4, 0, 1, 2] : List Nat).Nodup by decide)) ?_
        exact j_X5_stepJump_76_ok X hF hL nn a0 a2 u17.1 u17.2 hf
    · refine sb_ic_ne hm dX5_stepJump_29 (tgt := 48) rfl (fun z => absurd z c22) (fun _ => ?_)
      refine mx_S.pu (pc2 := 33) (lv2 := [(3, .int 1), (0, .ref a0), (1, .int a1), (2, .int a2)]) (st2 := [.ref a0]) hm dX5_stepJump_32 rfl ?_
      replace hf := mx_gd_el hf; obtain ⟨c19, hf⟩ := hf
      replace hf := mx_sv_el hf; obtain ⟨u20, e_u20, hf⟩ := hf
      refine sx_cv hm dX5_stepJump_33 rs_RX5_154 mt_X5_pop [] [] (b := a0) (ci := 5) rfl rfl rfl c19 (Nat.le_of_ble_eq_true rfl) (Nat.le_of_ble_eq_true rfl) (by omega) (by omega) (f_X5_pop_ok X (by omega) (by omega) nn a0 h e_u20) ?_
      clear e_u20
      show mx_S X F L 160 36 [(3, .int 1), (0, .ref a0), (1, .int a1), (2, .int a2)] [.int u20.1] u20.2 0 0 (none, r, 0, 0)
      rcases mx_if_el hf with ⟨c21, hf⟩ | ⟨c21, hf⟩
      · refine sb_if_eq hm dX5_stepJump_36 (tgt := 43) rfl (fun _ => ?_) (fun z => absurd c21 z)
        refine sx_ic (v := 0) hm dX5_stepJump_43 (by decide) ?_
        refine mx_S.ext [(0, .ref a0), (2, .int a2)] (mx_sub_pos [1, 3] rfl (show ([3, 0, 1, 2] : List Nat).Nodup by decide)) ?_
        exact j_X5_stepJump_44_ok X hF hL nn a0 a2 0 u20.2 hf
      · refine sb_if_eq hm dX5_stepJump_36 (tgt := 43) rfl (fun z => absurd z c21) (fun _ => ?_)
        refine sx_ic (v := 1) hm dX5_stepJump_39 (by decide) ?_
        refine mx_S.pu (pc2 := 44) (lv2 := [(3, .int 1), (0, .ref a0), (1, .int a1), (2, .int a2)]) (st2 := [.int 1]) hm dX5_stepJump_40 rfl ?_
        refine mx_S.ext [(0, .ref a0), (2, .int a2)] (mx_sub_pos [1, 3] rfl (show ([3, 0, 1, 2] : List Nat).Nodup by decide)) ?_
        exact j_X5_stepJump_44_ok X hF hL nn a0 a2 1 u20.2 hf
  · refine sb_ic_ne hm dX5_stepJump_6 (tgt := 25) rfl (fun z => absurd z c26) (fun _ => ?_)
    refine mx_S.pu (pc2 := 10) (lv2 := [(3, .int 1), (0, .ref a0), (1, .int a1), (2, .int a2)]) (st2 := [.ref a0]) hm dX5_stepJump_9 rfl ?_
    replace hf := mx_gd_el hf; obtain ⟨c23, hf⟩ := hf
    replace hf := mx_sv_el hf; obtain ⟨u24, e_u24, hf⟩ := hf
    refine sx_cv hm dX5_stepJump_10 rs_RX5_154 mt_X5_pop [] [] (b := a0) (ci := 5) rfl rfl rfl c23 (Nat.le_of_ble_eq_true rfl) (Nat.le_of_ble_eq_true rfl) (by omega) (by omega) (f_X5_pop_ok X (by omega) (by omega) nn a0 h e_u24) ?_
    clear e_u24
    show mx_S X F L 160 13 [(3, .int 1), (0, .ref a0), (1, .int a1), (2, .int a2)] [.int u24.1] u24.2 0 0 (none, r, 0, 0)
    rcases mx_if_el hf with ⟨c25, hf⟩ | ⟨c25, hf⟩
    · refine sb_if_ne hm dX5_stepJump_13 (tgt := 20) rfl (fun _ => ?_) (fun z => absurd c25 z)
      refine sx_ic (v := 0) hm dX5_stepJump_20 (by decide) ?_
      refine mx_S.ext [(0, .ref a0), (2, .int a2)] (mx_sub_pos [1, 3] rfl (show ([3, 0, 1, 2] : List Nat).Nodup by decide)) ?_
      exact j_X5_stepJump_21_ok X hF hL nn a0 a2 0 u24.2 hf
    · refine sb_if_ne hm dX5_stepJump_13 (tgt := 20) rfl (fun z => absurd z c25) (fun _ => ?_)
      refine sx_ic (v := 1) hm dX5_stepJump_16 (by decide) ?_
      refine mx_S.pu (pc2 := 21) (lv2 := [(3, .int 1), (0, .ref a0), (1, .int a1), (2, .int a2)]) (st2 := [.int 1]) hm dX5_stepJump_17 rfl ?_
      refine mx_S.ext [(0, .ref a0), (2, .int a2)] (mx_sub_pos [1, 3] rfl (show ([3, 0, 1, 2] : List Nat).Nodup by decide)) ?_
      exact j_X5_stepJump_21_ok X hF hL nn a0 a2 1 u24.2 hf
set_option maxHeartbeats 4000000 in
set_option maxRecDepth 20000 in
theorem j_X5_stepLocal_37_ok (X : Nat × (Nat → Int32)) {F L : Nat} (hF : 2 ≤ F) (hL : 44 ≤ L) (nn : Nat) (l0 : Nat) (l3 : Int32) (h : mx_H) {r : mx_H} (hf : j_X5_stepLocal_37 nn l0 l3 h = some r) : mx_S X F L 157 37 [(0, .ref l0), (3, .int l3)] [] h 0 0 (none, r, 0, 0) := by
  have hm : mx_mt 157 = some (yX5_stepLocal, cX5_stepLocal, 4, none) := mt_X5_stepLocal
  unfold j_X5_stepLocal_37 at hf
  refine mx_S.pu (pc2 := 38) (lv2 := [(0, .ref l0), (3, .int l3)]) (st2 := [.ref l0]) hm dX5_stepLocal_37 rfl ?_
  refine mx_S.pu (pc2 := 39) (lv2 := [(0, .ref l0), (3, .int l3)]) (st2 := [.ref l0, .ref l0]) hm dX5_stepLocal_38 rfl ?_
  replace hf := mx_sv_el hf; obtain ⟨v1, e_v1, hf⟩ := hf
  refine sx_get hm dX5_stepLocal_39 rs_RX5_35 (xgr_el e_v1) ?_
  clear e_v1
  refine mx_S.pu (pc2 := 43) (lv2 := [(0, .ref l0), (3, .int l3)]) (st2 := [.int l3, .ref v1, .ref l0]) hm dX5_stepLocal_42 rfl ?_
  replace hf := mx_sv_el hf; obtain ⟨v2, e_v2, hf⟩ := hf
  refine sx_ald hm dX5_stepLocal_43 e_v2 ?_
  clear e_v2
  refine sx_ic (v := 2) hm dX5_stepLocal_44 (by decide) ?_
  replace hf := mx_gd_el hf; obtain ⟨c3, hf⟩ := hf
  replace hf := mx_sv_el hf; obtain ⟨u4, e_u4, hf⟩ := hf
  refine sx_cv hm dX5_stepLocal_45 rs_RX5_145 mt_X5_give [.int v2, .int 2] [] (b := l0) (ci := 5) rfl rfl rfl c3 (Nat.le_of_ble_eq_true rfl) (Nat.le_of_ble_eq_true rfl) (by omega) (by omega) (f_X5_give_ok X (by omega) (by omega) nn l0 v2 2 h e_u4) ?_
  clear e_u4
  show mx_S X F L 157 48 [(0, .ref l0), (3, .int l3)] [] u4 0 0 (none, r, 0, 0)
  refine mx_S.pu (pc2 := 66) (lv2 := [(0, .ref l0), (3, .int l3)]) (st2 := []) hm dX5_stepLocal_48 rfl ?_
  cases hf
  exact sx_ret hm dX5_stepLocal_66 rfl
set_option maxHeartbeats 4000000 in
set_option maxRecDepth 20000 in
theorem f_X5_stepLocal_ok (X : Nat × (Nat → Int32)) {F L : Nat} (hF : 2 ≤ F) (hL : 44 ≤ L) (nn : Nat) (a0 : Nat) (a1 : Int32) (a2 : Int32) (h : mx_H) {r : mx_H} (hf : f_X5_stepLocal nn a0 a1 a2 h = some r) : mx_R X F L 157 [.ref a0, .int a1, .int a2] h (none, r, 0, 0) := by
  have hm : mx_mt 157 = some (yX5_stepLocal, cX5_stepLocal, 4, none) := mt_X5_stepLocal
  show mx_S X F L 157 0 [(0, .ref a0), (1, .int a1), (2, .int a2)] [] h 0 0 (none, r, 0, 0)
  unfold f_X5_stepLocal at hf
  refine mx_S.pu (pc2 := 1) (lv2 := [(0, .ref a0), (1, .int a1), (2, .int a2)]) (st2 := [.ref a0]) hm dX5_stepLocal_0 rfl ?_
  replace hf := mx_sv_el hf; obtain ⟨v5, e_v5, hf⟩ := hf
  refine sx_get hm dX5_stepLocal_1 rs_RX5_97 (xgi_el e_v5) ?_
  clear e_v5
  refine sx_bi (v := 30) hm dX5_stepLocal_4 (by decide) ?_
  replace hf := xl_el hf; obtain ⟨v6, e_v6, hf⟩ := hf
  refine mx_S.pu (pc2 := 7) (lv2 := [(0, .ref a0), (1, .int a1), (2, .int a2)]) (st2 := [.int v6]) hm dX5_stepLocal_6 (by rw [← e_v6]; rfl) ?_
  clear e_v6
  refine mx_S.pu (pc2 := 8) (lv2 := [(0, .ref a0), (1, .int a1), (2, .int a2)]) (st2 := [.int a2, .int v6]) hm dX5_stepLocal_7 rfl ?_
  replace hf := xl_el hf; obtain ⟨v7, e_v7, hf⟩ := hf
  refine mx_S.pu (pc2 := 9) (lv2 := [(0, .ref a0), (1, .int a1), (2, .int a2)]) (st2 := [.int v7]) hm dX5_stepLocal_8 (by rw [← e_v7]; rfl) ?_
  clear e_v7
  refine mx_S.pu (pc2 := 10) (lv2 := [(3, .int v7), (0, .ref a0), (1, .int a1), (2, .int a2)]) (st2 := []) hm dX5_stepLocal_9 rfl ?_
  refine mx_S.pu (pc2 := 11) (lv2 := [(3, .int v7), (0, .ref a0), (1, .int a1), (2, .int a2)]) (st2 := [.int a2]) hm dX5_stepLocal_10 rfl ?_
  refine sx_bi (v := 30) hm dX5_stepLocal_11 (by decide) ?_
  rcases mx_if_el hf with ⟨c17, hf⟩ | ⟨c17, hf⟩
  · refine sb_ic_lt hm dX5_stepLocal_13 (tgt := 25) rfl (fun _ => ?_) (fun z => absurd c17 z)
    refine mx_S.pu (pc2 := 26) (lv2 := [(3, .int v7), (0, .ref a0), (1, .int a1), (2, .int a2)]) (st2 := [.int a1]) hm dX5_stepLocal_25 rfl ?_
    refine sx_bi (v := 21) hm dX5_stepLocal_26 (by decide) ?_
    rcases mx_if_el hf with ⟨c15, hf⟩ | ⟨c15, hf⟩
    · refine sb_ic_eq hm dX5_stepLocal_28 (tgt := 37) rfl (fun _ => ?_) (fun z => absurd c15 z)
      refine mx_S.ext [(0, .ref a0), (3, .int v7)] (mx_sub_pos [1, 0] rfl (show ([3, 0, 1, 2] : List Nat).Nodup by decide)) ?_
      exact j_X5_stepLocal_37_ok X hF hL nn a0 v7 h hf
    · refine sb_ic_eq hm dX5_stepLocal_28 (tgt := 37) rfl (fun z => absurd z c15) (fun _ => ?_)
      refine mx_S.pu (pc2 := 32) (lv2 := [(3, .int v7), (0, .ref a0), (1, .int a1), (2, .int a2)]) (st2 := [.int a1]) hm dX5_stepLocal_31 rfl ?_
      refine sx_bi (v := 25) hm dX5_stepLocal_32 (by decide) ?_
      rcases mx_if_el hf with ⟨c14, hf⟩ | ⟨c14, hf⟩
      · refine sb_ic_ne hm dX5_stepLocal_34 (tgt := 51) rfl (fun _ => ?_) (fun z => absurd c14 z)
        refine mx_S.pu (pc2 := 52) (lv2 := [(3, .int v7), (0, .ref a0), (1, .int a1), (2, .int a2)]) (st2 := [.ref a0]) hm dX5_stepLocal_51 rfl ?_
        replace hf := mx_sv_el hf; obtain ⟨v8, e_v8, hf⟩ := hf
        refine sx_get hm dX5_stepLocal_52 rs_RX5_35 (xgr_el e_v8) ?_
        clear e_v8
        refine mx_S.pu (pc2 := 56) (lv2 := [(3, .int v7), (0, .ref a0), (1, .int a1), (2, .int a2)]) (st2 := [.int v7, .ref v8]) hm dX5_stepLocal_55 rfl ?_
        refine mx_S.pu (pc2 := 57) (lv2 := [(3, .int v7), (0, .ref a0), (1, .int a1), (2, .int a2)]) (st2 := [.ref a0, .int v7, .ref v8]) hm dX5_stepLocal_56 rfl ?_
        replace hf := mx_gd_el hf; obtain ⟨c9, hf⟩ := hf
        replace hf := mx_sv_el hf; obtain ⟨u10, e_u10, hf⟩ := hf
        refine sx_cv hm dX5_stepLocal_57 rs_RX5_154 mt_X5_pop [] [.int v7, .ref v8] (b := a0) (ci := 5) rfl rfl rfl c9 (Nat.le_of_ble_eq_true rfl) (Nat.le_of_ble_eq_true rfl) (by omega) (by omega) (f_X5_pop_ok X (by omega) (by omega) nn a0 h e_u10) ?_
        clear e_u10
        show mx_S X F L 157 60 [(3, .int v7), (0, .ref a0), (1, .int a1), (2, .int a2)] [.int u10.1, .int v7, .ref v8] u10.2 0 0 (none, r, 0, 0)
        replace hf := mx_sv_el hf; obtain ⟨h11, e_h11, hf⟩ := hf
        refine sx_ast hm dX5_stepLocal_60 e_h11 ?_
        clear e_h11
        refine mx_S.pu (pc2 := 62) (lv2 := [(3, .int v7), (0, .ref a0), (1, .int a1), (2, .int a2)]) (st2 := [.ref a0]) hm dX5_stepLocal_61 rfl ?_
        refine sx_ic (v := 2) hm dX5_stepLocal_62 (by decide) ?_
        replace hf := mx_gd_el hf; obtain ⟨c12, hf⟩ := hf
        replace hf := mx_sv_el hf; obtain ⟨u13, e_u13, hf⟩ := hf
        refine sx_cv hm dX5_stepLocal_63 rs_RX5_138 mt_X5_goOn [.int 2] [] (b := a0) (ci := 5) rfl rfl rfl c12 (Nat.le_of_ble_eq_true rfl) (Nat.le_of_ble_eq_true rfl) (by omega) (by omega) (f_X5_goOn_ok X (by omega) (by omega) nn a0 2 h11 e_u13) ?_
        clear e_u13
        show mx_S X F L 157 66 [(3, .int v7), (0, .ref a0), (1, .int a1), (2, .int a2)] [] u13 0 0 (none, r, 0, 0)
        cases hf
        exact sx_ret hm dX5_stepLocal_66 rfl
      · refine sb_ic_ne hm dX5_stepLocal_34 (tgt := 51) rfl (fun z => absurd z c14) (fun _ => ?_)
        refine mx_S.ext [(0, .ref a0), (3, .int v7)] (mx_sub_pos [1, 0] rfl (show ([3, 0, 1, 2] : List Nat).Nodup by decide)) ?_
        exact j_X5_stepLocal_37_ok X hF hL nn a0 v7 h hf
  · refine sb_ic_lt hm dX5_stepLocal_13 (tgt := 25) rfl (fun z => absurd z c17) (fun _ => ?_)
    refine mx_S.pu (pc2 := 17) (lv2 := [(3, .int v7), (0, .ref a0), (1, .int a1), (2, .int a2)]) (st2 := [.ref a0]) hm dX5_stepLocal_16 rfl ?_
    refine sx_bi (v := 6) hm dX5_stepLocal_17 (by decide) ?_
    replace hf := mx_sv_el hf; obtain ⟨h16, e_h16, hf⟩ := hf
    refine sx_put hm dX5_stepLocal_19 rs_RX5_54 ft_5_1 ⟨rfl, rfl⟩ (fun z => by cases z) e_h16 ?_
    clear e_h16
    refine mx_S.pu (pc2 := 66) (lv2 := [(3, .int v7), (0, .ref a0), (1, .int a1), (2, .int a2)]) (st2 := []) hm dX5_stepLocal_22 rfl ?_
    cases hf
    exact sx_ret hm dX5_stepLocal_66 rfl
set_option maxHeartbeats 4000000 in
set_option maxRecDepth 20000 in
theorem f_X5_giveNew_ok (X : Nat × (Nat → Int32)) {F L : Nat} (hF : 3 ≤ F) (hL : 68 ≤ L) (nn : Nat) (a0 : Nat) (a1 : Int32) (a2 : Int32) (h : mx_H) {r : mx_H} (hf : f_X5_giveNew nn a0 a1 a2 h = some r) : mx_R X F L 174 [.ref a0, .int a1, .int a2] h (none, r, 0, 0) := by
  have hm : mx_mt 174 = some (yX5_giveNew, cX5_giveNew, 4, none) := mt_X5_giveNew
  show mx_S X F L 174 0 [(0, .ref a0), (1, .int a1), (2, .int a2)] [] h 0 0 (none, r, 0, 0)
  unfold f_X5_giveNew at hf
  refine mx_S.pu (pc2 := 1) (lv2 := [(0, .ref a0), (1, .int a1), (2, .int a2)]) (st2 := [.ref a0]) hm dX5_giveNew_0 rfl ?_
  refine mx_S.pu (pc2 := 2) (lv2 := [(0, .ref a0), (1, .int a1), (2, .int a2)]) (st2 := [.int a1, .ref a0]) hm dX5_giveNew_1 rfl ?_
  refine mx_S.pu (pc2 := 3) (lv2 := [(0, .ref a0), (1, .int a1), (2, .int a2)]) (st2 := [.int a2, .int a1, .ref a0]) hm dX5_giveNew_2 rfl ?_
  replace hf := mx_gd_el hf; obtain ⟨c1, hf⟩ := hf
  replace hf := mx_sv_el hf; obtain ⟨u2, e_u2, hf⟩ := hf
  refine sx_cv hm dX5_giveNew_3 rs_RX5_89 mt_X5_make [.int a1, .int a2] [] (b := a0) (ci := 5) rfl rfl rfl c1 (Nat.le_of_ble_eq_true rfl) (Nat.le_of_ble_eq_true rfl) (by omega) (by omega) (f_X5_make_ok X (by omega) (by omega) nn a0 a1 a2 h e_u2) ?_
  clear e_u2
  show mx_S X F L 174 6 [(0, .ref a0), (1, .int a1), (2, .int a2)] [.int u2.1] u2.2 0 0 (none, r, 0, 0)
  refine mx_S.pu (pc2 := 7) (lv2 := [(3, .int u2.1), (0, .ref a0), (1, .int a1), (2, .int a2)]) (st2 := []) hm dX5_giveNew_6 rfl ?_
  refine mx_S.pu (pc2 := 8) (lv2 := [(3, .int u2.1), (0, .ref a0), (1, .int a1), (2, .int a2)]) (st2 := [.int u2.1]) hm dX5_giveNew_7 rfl ?_
  rcases mx_if_el hf with ⟨c5, hf⟩ | ⟨c5, hf⟩
  · refine sb_if_eq hm dX5_giveNew_8 (tgt := 17) rfl (fun _ => ?_) (fun z => absurd c5 z)
    cases hf
    exact sx_ret hm dX5_giveNew_17 rfl
  · refine sb_if_eq hm dX5_giveNew_8 (tgt := 17) rfl (fun z => absurd z c5) (fun _ => ?_)
    refine mx_S.pu (pc2 := 12) (lv2 := [(3, .int u2.1), (0, .ref a0), (1, .int a1), (2, .int a2)]) (st2 := [.ref a0]) hm dX5_giveNew_11 rfl ?_
    refine mx_S.pu (pc2 := 13) (lv2 := [(3, .int u2.1), (0, .ref a0), (1, .int a1), (2, .int a2)]) (st2 := [.int u2.1, .ref a0]) hm dX5_giveNew_12 rfl ?_
    refine sx_ic (v := 2) hm dX5_giveNew_13 (by decide) ?_
    replace hf := mx_gd_el hf; obtain ⟨c3, hf⟩ := hf
    replace hf := mx_sv_el hf; obtain ⟨u4, e_u4, hf⟩ := hf
    refine sx_cv hm dX5_giveNew_14 rs_RX5_145 mt_X5_give [.int u2.1, .int 2] [] (b := a0) (ci := 5) rfl rfl rfl c3 (Nat.le_of_ble_eq_true rfl) (Nat.le_of_ble_eq_true rfl) (by omega) (by omega) (f_X5_give_ok X (by omega) (by omega) nn a0 u2.1 2 u2.2 e_u4) ?_
    clear e_u4
    show mx_S X F L 174 17 [(3, .int u2.1), (0, .ref a0), (1, .int a1), (2, .int a2)] [] u4 0 0 (none, r, 0, 0)
    cases hf
    exact sx_ret hm dX5_giveNew_17 rfl
set_option maxHeartbeats 4000000 in
set_option maxRecDepth 20000 in
theorem f_X3_of_ok (X : Nat × (Nat → Int32)) {F L : Nat} (hF : 0 ≤ F) (hL : 0 ≤ L) (nn : Nat) (a0 : Nat) (a1 : Int32) (a2 : Int32) (h : mx_H) {r : (Int32 × mx_H)} (hf : f_X3_of nn a0 a1 a2 h = some r) : mx_R X F L 126 [.ref a0, .int a1, .int a2] h (some (.int r.1), r.2, 0, 0) := by
  have hm : mx_mt 126 = some (yX3_of, cX3_of, 4, (some .int)) := mt_X3_of
  show mx_S X F L 126 0 [(0, .ref a0), (1, .int a1), (2, .int a2)] [] h 0 0 (some (.int r.1), r.2, 0, 0)
  unfold f_X3_of at hf
  refine mx_S.pu (pc2 := 1) (lv2 := [(0, .ref a0), (1, .int a1), (2, .int a2)]) (st2 := [.int a1]) hm dX3_of_0 rfl ?_
  refine sx_bi (v := 12) hm dX3_of_1 (by decide) ?_
  replace hf := xl_el hf; obtain ⟨v1, e_v1, hf⟩ := hf
  refine mx_S.pu (pc2 := 4) (lv2 := [(0, .ref a0), (1, .int a1), (2, .int a2)]) (st2 := [.int v1]) hm dX3_of_3 (by rw [← e_v1]; rfl) ?_
  clear e_v1
  refine mx_S.pu (pc2 := 5) (lv2 := [(0, .ref a0), (1, .int a1), (2, .int a2)]) (st2 := [.int a2, .int v1]) hm dX3_of_4 rfl ?_
  replace hf := xl_el hf; obtain ⟨v2, e_v2, hf⟩ := hf
  refine mx_S.pu (pc2 := 6) (lv2 := [(0, .ref a0), (1, .int a1), (2, .int a2)]) (st2 := [.int v2]) hm dX3_of_5 (by rw [← e_v2]; rfl) ?_
  clear e_v2
  refine mx_S.pu (pc2 := 7) (lv2 := [(3, .int v2), (0, .ref a0), (1, .int a1), (2, .int a2)]) (st2 := []) hm dX3_of_6 rfl ?_
  refine mx_S.pu (pc2 := 8) (lv2 := [(3, .int v2), (0, .ref a0), (1, .int a1), (2, .int a2)]) (st2 := [.int a1]) hm dX3_of_7 rfl ?_
  rcases mx_if_el hf with ⟨c10, hf⟩ | ⟨c10, hf⟩
  · refine sb_if_lt hm dX3_of_8 (tgt := 37) rfl (fun _ => ?_) (fun z => absurd c10 z)
    refine sx_ic (v := 0) hm dX3_of_37 (by decide) ?_
    cases hf
    exact sx_ire hm dX3_of_38 rfl rfl
  · refine sb_if_lt hm dX3_of_8 (tgt := 37) rfl (fun z => absurd z c10) (fun _ => ?_)
    refine mx_S.pu (pc2 := 12) (lv2 := [(3, .int v2), (0, .ref a0), (1, .int a1), (2, .int a2)]) (st2 := [.int a1]) hm dX3_of_11 rfl ?_
    refine mx_S.pu (pc2 := 13) (lv2 := [(3, .int v2), (0, .ref a0), (1, .int a1), (2, .int a2)]) (st2 := [.ref a0, .int a1]) hm dX3_of_12 rfl ?_
    replace hf := mx_sv_el hf; obtain ⟨v3, e_v3, hf⟩ := hf
    refine sx_get hm dX3_of_13 rs_RX3_52 (xgi_el e_v3) ?_
    clear e_v3
    rcases mx_if_el hf with ⟨c9, hf⟩ | ⟨c9, hf⟩
    · refine sb_ic_ge hm dX3_of_16 (tgt := 37) rfl (fun _ => ?_) (fun z => absurd c9 z)
      refine sx_ic (v := 0) hm dX3_of_37 (by decide) ?_
      cases hf
      exact sx_ire hm dX3_of_38 rfl rfl
    · refine sb_ic_ge hm dX3_of_16 (tgt := 37) rfl (fun z => absurd z c9) (fun _ => ?_)
      refine mx_S.pu (pc2 := 20) (lv2 := [(3, .int v2), (0, .ref a0), (1, .int a1), (2, .int a2)]) (st2 := [.int v2]) hm dX3_of_19 rfl ?_
      refine mx_S.pu (pc2 := 21) (lv2 := [(3, .int v2), (0, .ref a0), (1, .int a1), (2, .int a2)]) (st2 := [.ref a0, .int v2]) hm dX3_of_20 rfl ?_
      replace hf := mx_sv_el hf; obtain ⟨v4, e_v4, hf⟩ := hf
      refine sx_get hm dX3_of_21 rs_RX3_30 (xgr_el e_v4) ?_
      clear e_v4
      replace hf := mx_sv_el hf; obtain ⟨v5, e_v5, hf⟩ := hf
      refine sx_len hm dX3_of_24 e_v5 ?_
      clear e_v5
      rcases mx_if_el hf with ⟨c8, hf⟩ | ⟨c8, hf⟩
      · refine sb_ic_ge hm dX3_of_25 (tgt := 37) rfl (fun _ => ?_) (fun z => absurd c8 z)
        refine sx_ic (v := 0) hm dX3_of_37 (by decide) ?_
        cases hf
        exact sx_ire hm dX3_of_38 rfl rfl
      · refine sb_ic_ge hm dX3_of_25 (tgt := 37) rfl (fun z => absurd z c8) (fun _ => ?_)
        refine mx_S.pu (pc2 := 29) (lv2 := [(3, .int v2), (0, .ref a0), (1, .int a1), (2, .int a2)]) (st2 := [.ref a0]) hm dX3_of_28 rfl ?_
        replace hf := mx_sv_el hf; obtain ⟨v6, e_v6, hf⟩ := hf
        refine sx_get hm dX3_of_29 rs_RX3_30 (xgr_el e_v6) ?_
        clear e_v6
        refine mx_S.pu (pc2 := 33) (lv2 := [(3, .int v2), (0, .ref a0), (1, .int a1), (2, .int a2)]) (st2 := [.int v2, .ref v6]) hm dX3_of_32 rfl ?_
        replace hf := mx_sv_el hf; obtain ⟨v7, e_v7, hf⟩ := hf
        refine sx_ald hm dX3_of_33 e_v7 ?_
        clear e_v7
        refine mx_S.pu (pc2 := 38) (lv2 := [(3, .int v2), (0, .ref a0), (1, .int a1), (2, .int a2)]) (st2 := [.int v7]) hm dX3_of_34 rfl ?_
        cases hf
        exact sx_ire hm dX3_of_38 rfl rfl
set_option maxHeartbeats 4000000 in
set_option maxRecDepth 20000 in
theorem f_X7_imageOfMember_ok (X : Nat × (Nat → Int32)) {F L : Nat} (hF : 0 ≤ F) (hL : 0 ≤ L) (nn : Nat) (a0 : Nat) (a1 : Int32) (h : mx_H) {r : (Option Nat × mx_H)} (hf : f_X7_imageOfMember nn a0 a1 h = some r) : mx_R X F L 209 [.ref a0, .int a1] h (some (va_rf r.1), r.2, 0, 0) := by
  have hm : mx_mt 209 = some (yX7_imageOfMember, cX7_imageOfMember, 2, (some (.object "ClassMill$Image"))) := mt_X7_imageOfMember
  show mx_S X F L 209 0 [(0, .ref a0), (1, .int a1)] [] h 0 0 (some (va_rf r.1), r.2, 0, 0)
  unfold f_X7_imageOfMember at hf
  refine mx_S.pu (pc2 := 1) (lv2 := [(0, .ref a0), (1, .int a1)]) (st2 := [.int a1]) hm dX7_imageOfMember_0 rfl ?_
  rcases mx_if_el hf with ⟨c7, hf⟩ | ⟨c7, hf⟩
  · refine sb_if_lt hm dX7_imageOfMember_1 (tgt := 27) rfl (fun _ => ?_) (fun z => absurd c7 z)
    refine mx_S.pu (pc2 := 28) (lv2 := [(0, .ref a0), (1, .int a1)]) (st2 := [va_rf none]) hm dX7_imageOfMember_27 rfl ?_
    cases hf
    exact sx_are hm dX7_imageOfMember_28 rfl rfl (v := none)
  · refine sb_if_lt hm dX7_imageOfMember_1 (tgt := 27) rfl (fun z => absurd z c7) (fun _ => ?_)
    refine mx_S.pu (pc2 := 5) (lv2 := [(0, .ref a0), (1, .int a1)]) (st2 := [.int a1]) hm dX7_imageOfMember_4 rfl ?_
    refine mx_S.pu (pc2 := 6) (lv2 := [(0, .ref a0), (1, .int a1)]) (st2 := [.ref a0, .int a1]) hm dX7_imageOfMember_5 rfl ?_
    replace hf := mx_sv_el hf; obtain ⟨v1, e_v1, hf⟩ := hf
    refine sx_get hm dX7_imageOfMember_6 rs_RX7_41 (xgi_el e_v1) ?_
    clear e_v1
    refine sx_bi (v := 12) hm dX7_imageOfMember_9 (by decide) ?_
    replace hf := xl_el hf; obtain ⟨v2, e_v2, hf⟩ := hf
    refine mx_S.pu (pc2 := 12) (lv2 := [(0, .ref a0), (1, .int a1)]) (st2 := [.int v2, .int a1]) hm dX7_imageOfMember_11 (by rw [← e_v2]; rfl) ?_
    clear e_v2
    rcases mx_if_el hf with ⟨c6, hf⟩ | ⟨c6, hf⟩
    · refine sb_ic_ge hm dX7_imageOfMember_12 (tgt := 27) rfl (fun _ => ?_) (fun z => absurd c6 z)
      refine mx_S.pu (pc2 := 28) (lv2 := [(0, .ref a0), (1, .int a1)]) (st2 := [va_rf none]) hm dX7_imageOfMember_27 rfl ?_
      cases hf
      exact sx_are hm dX7_imageOfMember_28 rfl rfl (v := none)
    · refine sb_ic_ge hm dX7_imageOfMember_12 (tgt := 27) rfl (fun z => absurd z c6) (fun _ => ?_)
      refine mx_S.pu (pc2 := 16) (lv2 := [(0, .ref a0), (1, .int a1)]) (st2 := [.ref a0]) hm dX7_imageOfMember_15 rfl ?_
      replace hf := mx_sv_el hf; obtain ⟨v3, e_v3, hf⟩ := hf
      refine sx_get hm dX7_imageOfMember_16 rs_RX7_22 (xgr_el e_v3) ?_
      clear e_v3
      refine mx_S.pu (pc2 := 20) (lv2 := [(0, .ref a0), (1, .int a1)]) (st2 := [.int a1, .ref v3]) hm dX7_imageOfMember_19 rfl ?_
      refine sx_bi (v := 12) hm dX7_imageOfMember_20 (by decide) ?_
      replace hf := xl_el hf; obtain ⟨v4, e_v4, hf⟩ := hf
      refine sx_idiv (v := v4) hm dX7_imageOfMember_22 (by decide) e_v4 ?_
      clear e_v4
      replace hf := mx_sv_el hf; obtain ⟨v5, e_v5, hf⟩ := hf
      refine sx_qld hm dX7_imageOfMember_23 e_v5 ?_
      clear e_v5
      refine mx_S.pu (pc2 := 28) (lv2 := [(0, .ref a0), (1, .int a1)]) (st2 := [va_rf v5]) hm dX7_imageOfMember_24 rfl ?_
      cases hf
      exact sx_are hm dX7_imageOfMember_28 rfl rfl (v := v5)
set_option maxHeartbeats 4000000 in
set_option maxRecDepth 20000 in
theorem f_X5_takeTop_ok (X : Nat × (Nat → Int32)) {F L : Nat} (hF : 1 ≤ F) (hL : 60 ≤ L) (nn : Nat) (a0 : Nat) (h : mx_H) {r : mx_H} (hf : f_X5_takeTop nn a0 h = some r) : mx_R X F L 150 [.ref a0] h (none, r, 0, 0) := by
  have hm : mx_mt 150 = some (yX5_takeTop, cX5_takeTop, 2, none) := mt_X5_takeTop
  show mx_S X F L 150 0 [(0, .ref a0)] [] h 0 0 (none, r, 0, 0)
  unfold f_X5_takeTop at hf
  refine mx_S.pu (pc2 := 1) (lv2 := [(0, .ref a0)]) (st2 := [.ref a0]) hm dX5_takeTop_0 rfl ?_
  refine sx_ic (v := 0) hm dX5_takeTop_1 (by decide) ?_
  refine mx_S.pu (pc2 := 3) (lv2 := [(0, .ref a0)]) (st2 := [.ref a0, .int 0, .ref a0]) hm dX5_takeTop_2 rfl ?_
  replace hf := mx_sv_el hf; obtain ⟨v1, e_v1, hf⟩ := hf
  refine sx_get hm dX5_takeTop_3 rs_RX5_66 (xgi_el e_v1) ?_
  clear e_v1
  refine sx_ic (v := 1) hm dX5_takeTop_6 (by decide) ?_
  replace hf := xl_el hf; obtain ⟨v2, e_v2, hf⟩ := hf
  refine mx_S.pu (pc2 := 8) (lv2 := [(0, .ref a0)]) (st2 := [.int v2, .int 0, .ref a0]) hm dX5_takeTop_7 (by rw [← e_v2]; rfl) ?_
  clear e_v2
  replace hf := xl_el hf; obtain ⟨v3, e_v3, hf⟩ := hf
  refine sx_max hm dX5_takeTop_8 rs_RX5_115 (by omega) (Nat.le_trans (Nat.le_of_ble_eq_true rfl : _ ≤ 60) (by omega)) ?_
  rw [e_v3]
  clear e_v3
  replace hf := mx_sv_el hf; obtain ⟨h4, e_h4, hf⟩ := hf
  refine sx_put hm dX5_takeTop_11 rs_RX5_97 ft_5_17 ⟨rfl, rfl⟩ (fun z => by cases z) e_h4 ?_
  clear e_h4
  refine mx_S.pu (pc2 := 15) (lv2 := [(0, .ref a0)]) (st2 := [.ref a0]) hm dX5_takeTop_14 rfl ?_
  replace hf := mx_sv_el hf; obtain ⟨v5, e_v5, hf⟩ := hf
  refine sx_get hm dX5_takeTop_15 rs_RX5_41 (xgr_el e_v5) ?_
  clear e_v5
  refine mx_S.pu (pc2 := 19) (lv2 := [(0, .ref a0)]) (st2 := [.ref a0, .ref v5]) hm dX5_takeTop_18 rfl ?_
  replace hf := mx_sv_el hf; obtain ⟨v6, e_v6, hf⟩ := hf
  refine sx_get hm dX5_takeTop_19 rs_RX5_26 (xgr_el e_v6) ?_
  clear e_v6
  refine mx_S.pu (pc2 := 23) (lv2 := [(0, .ref a0)]) (st2 := [.ref a0, .ref v6, .ref v5]) hm dX5_takeTop_22 rfl ?_
  replace hf := mx_sv_el hf; obtain ⟨v7, e_v7, hf⟩ := hf
  refine sx_get hm dX5_takeTop_23 rs_RX5_97 (xgi_el e_v7) ?_
  clear e_v7
  replace hf := mx_sv_el hf; obtain ⟨v8, e_v8, hf⟩ := hf
  refine sx_ald hm dX5_takeTop_26 e_v8 ?_
  clear e_v8
  replace hf := mx_gd_el hf; obtain ⟨c9, hf⟩ := hf
  replace hf := mx_sv_el hf; obtain ⟨u10, e_u10, hf⟩ := hf
  refine sx_cv hm dX5_takeTop_27 rs_RX5_120 mt_X7_imageOfMember [.int v8] [] (b := v5) (ci := 7) rfl rfl rfl c9 (Nat.le_of_ble_eq_true rfl) (Nat.le_of_ble_eq_true rfl) (by omega) (by omega) (f_X7_imageOfMember_ok X (by omega) (by omega) nn v5 v8 h4 e_u10) ?_
  clear e_u10
  show mx_S X F L 150 30 [(0, .ref a0)] [va_rf u10.1] u10.2 0 0 (none, r, 0, 0)
  refine sx_son (lv2 := [(1, va_rf u10.1), (0, .ref a0)]) hm dX5_takeTop_30 rfl rfl ?_
  refine sx_aon hm dX5_takeTop_31 rfl ?_
  rcases mx_oc_el hf with ⟨c12, hf⟩ | ⟨b11, c12, hf⟩
  · refine sx_ifnonnull_n hm dX5_takeTop_32 c12 (tgt := 42) rfl ?_
    refine mx_S.pu (pc2 := 36) (lv2 := [(1, va_rf u10.1), (0, .ref a0)]) (st2 := [.ref a0]) hm dX5_takeTop_35 rfl ?_
    refine sx_bi (v := 6) hm dX5_takeTop_36 (by decide) ?_
    replace hf := mx_sv_el hf; obtain ⟨h13, e_h13, hf⟩ := hf
    refine sx_put hm dX5_takeTop_38 rs_RX5_54 ft_5_1 ⟨rfl, rfl⟩ (fun z => by cases z) e_h13 ?_
    clear e_h13
    cases hf
    exact sx_ret hm dX5_takeTop_41 rfl
  · refine sx_ifnonnull_s hm dX5_takeTop_32 c12 (tgt := 42) rfl ?_
    rw [show va_rf u10.1 = Value.ref b11 by rw [c12]; rfl]
    refine mx_S.pu (pc2 := 43) (lv2 := [(1, .ref b11), (0, .ref a0)]) (st2 := [.ref a0]) hm dX5_takeTop_42 rfl ?_
    refine mx_S.pu (pc2 := 44) (lv2 := [(1, .ref b11), (0, .ref a0)]) (st2 := [.ref b11, .ref a0]) hm dX5_takeTop_43 rfl ?_
    replace hf := mx_sv_el hf; obtain ⟨h14, e_h14, hf⟩ := hf
    refine sx_put hm dX5_takeTop_44 rs_RX5_46 ft_5_18 ⟨rfl, rfl⟩ (fun z => by cases z) e_h14 ?_
    clear e_h14
    refine mx_S.pu (pc2 := 48) (lv2 := [(1, .ref b11), (0, .ref a0)]) (st2 := [.ref a0]) hm dX5_takeTop_47 rfl ?_
    refine mx_S.pu (pc2 := 49) (lv2 := [(1, .ref b11), (0, .ref a0)]) (st2 := [.ref a0, .ref a0]) hm dX5_takeTop_48 rfl ?_
    replace hf := mx_sv_el hf; obtain ⟨v15, e_v15, hf⟩ := hf
    refine sx_get hm dX5_takeTop_49 rs_RX5_46 (xgr_el e_v15) ?_
    clear e_v15
    refine mx_S.pu (pc2 := 53) (lv2 := [(1, .ref b11), (0, .ref a0)]) (st2 := [.ref a0, .ref v15, .ref a0]) hm dX5_takeTop_52 rfl ?_
    replace hf := mx_sv_el hf; obtain ⟨v16, e_v16, hf⟩ := hf
    refine sx_get hm dX5_takeTop_53 rs_RX5_26 (xgr_el e_v16) ?_
    clear e_v16
    refine mx_S.pu (pc2 := 57) (lv2 := [(1, .ref b11), (0, .ref a0)]) (st2 := [.ref a0, .ref v16, .ref v15, .ref a0]) hm dX5_takeTop_56 rfl ?_
    replace hf := mx_sv_el hf; obtain ⟨v17, e_v17, hf⟩ := hf
    refine sx_get hm dX5_takeTop_57 rs_RX5_97 (xgi_el e_v17) ?_
    clear e_v17
    replace hf := mx_sv_el hf; obtain ⟨v18, e_v18, hf⟩ := hf
    refine sx_ald hm dX5_takeTop_60 e_v18 ?_
    clear e_v18
    refine sx_bi (v := 12) hm dX5_takeTop_61 (by decide) ?_
    replace hf := xl_el hf; obtain ⟨v19, e_v19, hf⟩ := hf
    refine sx_irem (v := v19) hm dX5_takeTop_63 (by decide) e_v19 ?_
    clear e_v19
    refine sx_bi (v := 6) hm dX5_takeTop_64 (by decide) ?_
    replace hf := mx_gd_el hf; obtain ⟨c20, hf⟩ := hf
    replace hf := mx_sv_el hf; obtain ⟨u21, e_u21, hf⟩ := hf
    refine sx_cv hm dX5_takeTop_66 rs_RX5_126 mt_X3_of [.int v19, .int 6] [.ref a0] (b := v15) (ci := 3) rfl rfl rfl c20 (Nat.le_of_ble_eq_true rfl) (Nat.le_of_ble_eq_true rfl) (by omega) (by omega) (f_X3_of_ok X (by omega) (by omega) nn v15 v19 6 h14 e_u21) ?_
    clear e_u21
    show mx_S X F L 150 69 [(1, .ref b11), (0, .ref a0)] [.int u21.1, .ref a0] u21.2 0 0 (none, r, 0, 0)
    replace hf := mx_sv_el hf; obtain ⟨h22, e_h22, hf⟩ := hf
    refine sx_put hm dX5_takeTop_69 rs_RX5_129 ft_5_19 ⟨rfl, rfl⟩ (fun z => by cases z) e_h22 ?_
    clear e_h22
    cases hf
    exact sx_ret hm dX5_takeTop_72 rfl
set_option maxHeartbeats 4000000 in
set_option maxRecDepth 20000 in
theorem f_X5_beginMethod_ok (X : Nat × (Nat → Int32)) {F L : Nat} (hF : 2 ≤ F) (hL : 81 ≤ L) (nn : Nat) (a0 : Nat) (a1 : Int32) (a2 : Int32) (a3 : Int32) (h : mx_H) {r : mx_H} (hf : f_X5_beginMethod nn a0 a1 a2 a3 h = some r) : mx_R X F L 149 [.ref a0, .int a1, .int a2, .int a3] h (none, r, 0, 0) := by
  have hm : mx_mt 149 = some (yX5_beginMethod, cX5_beginMethod, 5, none) := mt_X5_beginMethod
  show mx_S X F L 149 0 [(0, .ref a0), (1, .int a1), (2, .int a2), (3, .int a3)] [] h 0 0 (none, r, 0, 0)
  unfold f_X5_beginMethod at hf
  refine mx_S.pu (pc2 := 1) (lv2 := [(0, .ref a0), (1, .int a1), (2, .int a2), (3, .int a3)]) (st2 := [.ref a0]) hm dX5_beginMethod_0 rfl ?_
  replace hf := mx_sv_el hf; obtain ⟨v1, e_v1, hf⟩ := hf
  refine sx_get hm dX5_beginMethod_1 rs_RX5_66 (xgi_el e_v1) ?_
  clear e_v1
  refine sx_bi (v := 60) hm dX5_beginMethod_4 (by decide) ?_
  rcases mx_if_el hf with ⟨c25, hf⟩ | ⟨c25, hf⟩
  · refine sb_ic_lt hm dX5_beginMethod_6 (tgt := 15) rfl (fun _ => ?_) (fun z => absurd c25 z)
    refine mx_S.pu (pc2 := 16) (lv2 := [(0, .ref a0), (1, .int a1), (2, .int a2), (3, .int a3)]) (st2 := [.ref a0]) hm dX5_beginMethod_15 rfl ?_
    replace hf := mx_sv_el hf; obtain ⟨v2, e_v2, hf⟩ := hf
    refine sx_get hm dX5_beginMethod_16 rs_RX5_66 (xgi_el e_v2) ?_
    clear e_v2
    refine sx_bi (v := 30) hm dX5_beginMethod_19 (by decide) ?_
    replace hf := xl_el hf; obtain ⟨v3, e_v3, hf⟩ := hf
    refine mx_S.pu (pc2 := 22) (lv2 := [(0, .ref a0), (1, .int a1), (2, .int a2), (3, .int a3)]) (st2 := [.int v3]) hm dX5_beginMethod_21 (by rw [← e_v3]; rfl) ?_
    clear e_v3
    refine mx_S.pu (pc2 := 24) (lv2 := [(4, .int v3), (0, .ref a0), (1, .int a1), (2, .int a2), (3, .int a3)]) (st2 := []) hm dX5_beginMethod_22 rfl ?_
    refine mx_S.pu (pc2 := 25) (lv2 := [(4, .int v3), (0, .ref a0), (1, .int a1), (2, .int a2), (3, .int a3)]) (st2 := [.ref a0]) hm dX5_beginMethod_24 rfl ?_
    replace hf := mx_sv_el hf; obtain ⟨v4, e_v4, hf⟩ := hf
    refine sx_get hm dX5_beginMethod_25 rs_RX5_35 (xgr_el e_v4) ?_
    clear e_v4
    refine mx_S.pu (pc2 := 30) (lv2 := [(4, .int v3), (0, .ref a0), (1, .int a1), (2, .int a2), (3, .int a3)]) (st2 := [.int v3, .ref v4]) hm dX5_beginMethod_28 rfl ?_
    refine mx_S.pu (pc2 := 32) (lv2 := [(4, .int v3), (0, .ref a0), (1, .int a1), (2, .int a2), (3, .int a3)]) (st2 := [.int v3, .int v3, .ref v4]) hm dX5_beginMethod_30 rfl ?_
    refine sx_bi (v := 30) hm dX5_beginMethod_32 (by decide) ?_
    replace hf := xl_el hf; obtain ⟨v5, e_v5, hf⟩ := hf
    refine mx_S.pu (pc2 := 35) (lv2 := [(4, .int v3), (0, .ref a0), (1, .int a1), (2, .int a2), (3, .int a3)]) (st2 := [.int v5, .int v3, .ref v4]) hm dX5_beginMethod_34 (by rw [← e_v5]; rfl) ?_
    clear e_v5
    refine sx_ic (v := 0) hm dX5_beginMethod_35 (by decide) ?_
    replace hf := mx_sv_el hf; obtain ⟨u6, e_u6, hf⟩ := hf
    refine sx_cs hm dX5_beginMethod_36 rs_RX5_100 mt_J7_fill_fda19 [.ref v4, .int v3, .int v5, .int 0] [] rfl rfl (Nat.le_of_ble_eq_true rfl) (Nat.le_of_ble_eq_true rfl) (by omega) (by omega) (f_J7_fill_fda19_ok X (by omega) (by omega) nn v4 v3 v5 0 h e_u6) ?_
    clear e_u6
    show mx_S X F L 149 39 [(4, .int v3), (0, .ref a0), (1, .int a1), (2, .int a2), (3, .int a3)] [] u6 0 0 (none, r, 0, 0)
    refine mx_S.pu (pc2 := 40) (lv2 := [(4, .int v3), (0, .ref a0), (1, .int a1), (2, .int a2), (3, .int a3)]) (st2 := [.ref a0]) hm dX5_beginMethod_39 rfl ?_
    replace hf := mx_sv_el hf; obtain ⟨v7, e_v7, hf⟩ := hf
    refine sx_get hm dX5_beginMethod_40 rs_RX5_38 (xgr_el e_v7) ?_
    clear e_v7
    refine mx_S.pu (pc2 := 44) (lv2 := [(4, .int v3), (0, .ref a0), (1, .int a1), (2, .int a2), (3, .int a3)]) (st2 := [.int a2, .ref v7]) hm dX5_beginMethod_43 rfl ?_
    refine mx_S.pu (pc2 := 45) (lv2 := [(4, .int v3), (0, .ref a0), (1, .int a1), (2, .int a2), (3, .int a3)]) (st2 := [.ref a0, .int a2, .ref v7]) hm dX5_beginMethod_44 rfl ?_
    replace hf := mx_sv_el hf; obtain ⟨v8, e_v8, hf⟩ := hf
    refine sx_get hm dX5_beginMethod_45 rs_RX5_35 (xgr_el e_v8) ?_
    clear e_v8
    refine mx_S.pu (pc2 := 50) (lv2 := [(4, .int v3), (0, .ref a0), (1, .int a1), (2, .int a2), (3, .int a3)]) (st2 := [.int v3, .ref v8, .int a2, .ref v7]) hm dX5_beginMethod_48 rfl ?_
    refine mx_S.pu (pc2 := 51) (lv2 := [(4, .int v3), (0, .ref a0), (1, .int a1), (2, .int a2), (3, .int a3)]) (st2 := [.int a3, .int v3, .ref v8, .int a2, .ref v7]) hm dX5_beginMethod_50 rfl ?_
    replace hf := mx_sv_el hf; obtain ⟨h9, e_h9, hf⟩ := hf
    refine sx_copy hm dX5_beginMethod_51 rs_RX5_106 e_h9 (by omega) (Nat.le_trans (Nat.le_of_ble_eq_true rfl : _ ≤ 60) (by omega)) ?_
    clear e_h9
    refine mx_S.pu (pc2 := 55) (lv2 := [(4, .int v3), (0, .ref a0), (1, .int a1), (2, .int a2), (3, .int a3)]) (st2 := [.ref a0]) hm dX5_beginMethod_54 rfl ?_
    replace hf := mx_sv_el hf; obtain ⟨v10, e_v10, hf⟩ := hf
    refine sx_get hm dX5_beginMethod_55 rs_RX5_26 (xgr_el e_v10) ?_
    clear e_v10
    refine mx_S.pu (pc2 := 59) (lv2 := [(4, .int v3), (0, .ref a0), (1, .int a1), (2, .int a2), (3, .int a3)]) (st2 := [.ref a0, .ref v10]) hm dX5_beginMethod_58 rfl ?_
    replace hf := mx_sv_el hf; obtain ⟨v11, e_v11, hf⟩ := hf
    refine sx_get hm dX5_beginMethod_59 rs_RX5_66 (xgi_el e_v11) ?_
    clear e_v11
    refine mx_S.pu (pc2 := 63) (lv2 := [(4, .int v3), (0, .ref a0), (1, .int a1), (2, .int a2), (3, .int a3)]) (st2 := [.int a1, .int v11, .ref v10]) hm dX5_beginMethod_62 rfl ?_
    replace hf := mx_sv_el hf; obtain ⟨h12, e_h12, hf⟩ := hf
    refine sx_ast hm dX5_beginMethod_63 e_h12 ?_
    clear e_h12
    refine mx_S.pu (pc2 := 65) (lv2 := [(4, .int v3), (0, .ref a0), (1, .int a1), (2, .int a2), (3, .int a3)]) (st2 := [.ref a0]) hm dX5_beginMethod_64 rfl ?_
    replace hf := mx_sv_el hf; obtain ⟨v13, e_v13, hf⟩ := hf
    refine sx_get hm dX5_beginMethod_65 rs_RX5_29 (xgr_el e_v13) ?_
    clear e_v13
    refine mx_S.pu (pc2 := 69) (lv2 := [(4, .int v3), (0, .ref a0), (1, .int a1), (2, .int a2), (3, .int a3)]) (st2 := [.ref a0, .ref v13]) hm dX5_beginMethod_68 rfl ?_
    replace hf := mx_sv_el hf; obtain ⟨v14, e_v14, hf⟩ := hf
    refine sx_get hm dX5_beginMethod_69 rs_RX5_66 (xgi_el e_v14) ?_
    clear e_v14
    refine sx_ic (v := 0) hm dX5_beginMethod_72 (by decide) ?_
    replace hf := mx_sv_el hf; obtain ⟨h15, e_h15, hf⟩ := hf
    refine sx_ast hm dX5_beginMethod_73 e_h15 ?_
    clear e_h15
    refine mx_S.pu (pc2 := 75) (lv2 := [(4, .int v3), (0, .ref a0), (1, .int a1), (2, .int a2), (3, .int a3)]) (st2 := [.ref a0]) hm dX5_beginMethod_74 rfl ?_
    replace hf := mx_sv_el hf; obtain ⟨v16, e_v16, hf⟩ := hf
    refine sx_get hm dX5_beginMethod_75 rs_RX5_32 (xgr_el e_v16) ?_
    clear e_v16
    refine mx_S.pu (pc2 := 79) (lv2 := [(4, .int v3), (0, .ref a0), (1, .int a1), (2, .int a2), (3, .int a3)]) (st2 := [.ref a0, .ref v16]) hm dX5_beginMethod_78 rfl ?_
    replace hf := mx_sv_el hf; obtain ⟨v17, e_v17, hf⟩ := hf
    refine sx_get hm dX5_beginMethod_79 rs_RX5_66 (xgi_el e_v17) ?_
    clear e_v17
    refine sx_ic (v := 0) hm dX5_beginMethod_82 (by decide) ?_
    replace hf := mx_sv_el hf; obtain ⟨h18, e_h18, hf⟩ := hf
    refine sx_ast hm dX5_beginMethod_83 e_h18 ?_
    clear e_h18
    refine mx_S.pu (pc2 := 85) (lv2 := [(4, .int v3), (0, .ref a0), (1, .int a1), (2, .int a2), (3, .int a3)]) (st2 := [.ref a0]) hm dX5_beginMethod_84 rfl ?_
    refine mx_S.pu (pc2 := 86) (lv2 := [(4, .int v3), (0, .ref a0), (1, .int a1), (2, .int a2), (3, .int a3)]) (st2 := [.ref a0, .ref a0]) hm dX5_beginMethod_85 rfl ?_
    replace hf := mx_sv_el hf; obtain ⟨v19, e_v19, hf⟩ := hf
    refine sx_get hm dX5_beginMethod_86 rs_RX5_66 (xgi_el e_v19) ?_
    clear e_v19
    refine sx_ic (v := 1) hm dX5_beginMethod_89 (by decide) ?_
    replace hf := xl_el hf; obtain ⟨v20, e_v20, hf⟩ := hf
    refine mx_S.pu (pc2 := 91) (lv2 := [(4, .int v3), (0, .ref a0), (1, .int a1), (2, .int a2), (3, .int a3)]) (st2 := [.int v20, .ref a0]) hm dX5_beginMethod_90 (by rw [← e_v20]; rfl) ?_
    clear e_v20
    replace hf := mx_sv_el hf; obtain ⟨h21, e_h21, hf⟩ := hf
    refine sx_put hm dX5_beginMethod_91 rs_RX5_66 ft_5_6 ⟨rfl, rfl⟩ (fun z => by cases z) e_h21 ?_
    clear e_h21
    refine mx_S.pu (pc2 := 95) (lv2 := [(4, .int v3), (0, .ref a0), (1, .int a1), (2, .int a2), (3, .int a3)]) (st2 := [.ref a0]) hm dX5_beginMethod_94 rfl ?_
    replace hf := mx_gd_el hf; obtain ⟨c22, hf⟩ := hf
    replace hf := mx_sv_el hf; obtain ⟨u23, e_u23, hf⟩ := hf
    refine sx_cv hm dX5_beginMethod_95 rs_RX5_112 mt_X5_takeTop [] [] (b := a0) (ci := 5) rfl rfl rfl c22 (Nat.le_of_ble_eq_true rfl) (Nat.le_of_ble_eq_true rfl) (by omega) (by omega) (f_X5_takeTop_ok X (by omega) (by omega) nn a0 h21 e_u23) ?_
    clear e_u23
    show mx_S X F L 149 98 [(4, .int v3), (0, .ref a0), (1, .int a1), (2, .int a2), (3, .int a3)] [] u23 0 0 (none, r, 0, 0)
    cases hf
    exact sx_ret hm dX5_beginMethod_98 rfl
  · refine sb_ic_lt hm dX5_beginMethod_6 (tgt := 15) rfl (fun z => absurd z c25) (fun _ => ?_)
    refine mx_S.pu (pc2 := 10) (lv2 := [(0, .ref a0), (1, .int a1), (2, .int a2), (3, .int a3)]) (st2 := [.ref a0]) hm dX5_beginMethod_9 rfl ?_
    refine sx_ic (v := 5) hm dX5_beginMethod_10 (by decide) ?_
    replace hf := mx_sv_el hf; obtain ⟨h24, e_h24, hf⟩ := hf
    refine sx_put hm dX5_beginMethod_11 rs_RX5_54 ft_5_1 ⟨rfl, rfl⟩ (fun z => by cases z) e_h24 ?_
    clear e_h24
    cases hf
    exact sx_ret hm dX5_beginMethod_14 rfl
set_option maxHeartbeats 4000000 in
set_option maxRecDepth 20000 in
theorem f_X5_isObject_ok (X : Nat × (Nat → Int32)) {F L : Nat} (hF : 0 ≤ F) (hL : 0 ≤ L) (nn : Nat) (a0 : Nat) (a1 : Int32) (h : mx_H) {r : (Int32 × mx_H)} (hf : f_X5_isObject nn a0 a1 h = some r) : mx_R X F L 163 [.ref a0, .int a1] h (some (.int r.1), r.2, 0, 0) := by
  have hm : mx_mt 163 = some (yX5_isObject, cX5_isObject, 2, (some .boolean)) := mt_X5_isObject
  show mx_S X F L 163 0 [(0, .ref a0), (1, .int a1)] [] h 0 0 (some (.int r.1), r.2, 0, 0)
  unfold f_X5_isObject at hf
  refine mx_S.pu (pc2 := 1) (lv2 := [(0, .ref a0), (1, .int a1)]) (st2 := [.int a1]) hm dX5_isObject_0 rfl ?_
  rcases mx_if_el hf with ⟨c4, hf⟩ | ⟨c4, hf⟩
  · refine sb_if_le hm dX5_isObject_1 (tgt := 23) rfl (fun _ => ?_) (fun z => absurd c4 z)
    refine sx_ic (v := 0) hm dX5_isObject_23 (by decide) ?_
    cases hf
    exact sx_ire hm dX5_isObject_24 rfl (by decide)
  · refine sb_if_le hm dX5_isObject_1 (tgt := 23) rfl (fun z => absurd z c4) (fun _ => ?_)
    refine mx_S.pu (pc2 := 5) (lv2 := [(0, .ref a0), (1, .int a1)]) (st2 := [.int a1]) hm dX5_isObject_4 rfl ?_
    refine mx_S.pu (pc2 := 6) (lv2 := [(0, .ref a0), (1, .int a1)]) (st2 := [.ref a0, .int a1]) hm dX5_isObject_5 rfl ?_
    replace hf := mx_sv_el hf; obtain ⟨v1, e_v1, hf⟩ := hf
    refine sx_get hm dX5_isObject_6 rs_RX5_60 (xgi_el e_v1) ?_
    clear e_v1
    rcases mx_if_el hf with ⟨c3, hf⟩ | ⟨c3, hf⟩
    · refine sb_ic_gt hm dX5_isObject_9 (tgt := 23) rfl (fun _ => ?_) (fun z => absurd c3 z)
      refine sx_ic (v := 0) hm dX5_isObject_23 (by decide) ?_
      cases hf
      exact sx_ire hm dX5_isObject_24 rfl (by decide)
    · refine sb_ic_gt hm dX5_isObject_9 (tgt := 23) rfl (fun z => absurd z c3) (fun _ => ?_)
      refine mx_S.pu (pc2 := 13) (lv2 := [(0, .ref a0), (1, .int a1)]) (st2 := [.int a1]) hm dX5_isObject_12 rfl ?_
      refine sx_si (v := 2000) hm dX5_isObject_13 (by decide) ?_
      rcases mx_if_el hf with ⟨c2, hf⟩ | ⟨c2, hf⟩
      · refine sb_ic_gt hm dX5_isObject_16 (tgt := 23) rfl (fun _ => ?_) (fun z => absurd c2 z)
        refine sx_ic (v := 0) hm dX5_isObject_23 (by decide) ?_
        cases hf
        exact sx_ire hm dX5_isObject_24 rfl (by decide)
      · refine sb_ic_gt hm dX5_isObject_16 (tgt := 23) rfl (fun z => absurd z c2) (fun _ => ?_)
        refine sx_ic (v := 1) hm dX5_isObject_19 (by decide) ?_
        refine mx_S.pu (pc2 := 24) (lv2 := [(0, .ref a0), (1, .int a1)]) (st2 := [.int 1]) hm dX5_isObject_20 rfl ?_
        cases hf
        exact sx_ire hm dX5_isObject_24 rfl (by decide)
set_option maxHeartbeats 4000000 in
set_option maxRecDepth 20000 in
theorem f_X7_nearestTo_ok (X : Nat × (Nat → Int32)) {F L : Nat} (hF : 0 ≤ F) (hL : 0 ≤ L) (nn : Nat) (a0 : Nat) (a1 : Int32) (a2 : Int32) (h : mx_H) {r : (Int32 × mx_H)} (hf : f_X7_nearestTo nn a0 a1 a2 h = some r) : mx_R X F L 218 [.ref a0, .int a1, .int a2] h (some (.int r.1), r.2, 0, 0) := by
  have hm : mx_mt 218 = some (yX7_nearestTo, cX7_nearestTo, 4, (some .int)) := mt_X7_nearestTo
  show mx_S X F L 218 0 [(0, .ref a0), (1, .int a1), (2, .int a2)] [] h 0 0 (some (.int r.1), r.2, 0, 0)
  unfold f_X7_nearestTo at hf
  refine mx_S.pu (pc2 := 1) (lv2 := [(0, .ref a0), (1, .int a1), (2, .int a2)]) (st2 := [.int a1]) hm dX7_nearestTo_0 rfl ?_
  refine sx_bi (v := 8) hm dX7_nearestTo_1 (by decide) ?_
  replace hf := xl_el hf; obtain ⟨v1, e_v1, hf⟩ := hf
  refine mx_S.pu (pc2 := 4) (lv2 := [(0, .ref a0), (1, .int a1), (2, .int a2)]) (st2 := [.int v1]) hm dX7_nearestTo_3 (by rw [← e_v1]; rfl) ?_
  clear e_v1
  refine mx_S.pu (pc2 := 5) (lv2 := [(3, .int v1), (0, .ref a0), (1, .int a1), (2, .int a2)]) (st2 := []) hm dX7_nearestTo_4 rfl ?_
  refine mx_S.pu (pc2 := 6) (lv2 := [(3, .int v1), (0, .ref a0), (1, .int a1), (2, .int a2)]) (st2 := [.int v1]) hm dX7_nearestTo_5 rfl ?_
  rcases mx_if_el hf with ⟨c9, hf⟩ | ⟨c9, hf⟩
  · refine sb_if_lt hm dX7_nearestTo_6 (tgt := 39) rfl (fun _ => ?_) (fun z => absurd c9 z)
    refine sx_ic (v := (-1)) hm dX7_nearestTo_39 (by decide) ?_
    cases hf
    exact sx_ire hm dX7_nearestTo_40 rfl rfl
  · refine sb_if_lt hm dX7_nearestTo_6 (tgt := 39) rfl (fun z => absurd z c9) (fun _ => ?_)
    refine mx_S.pu (pc2 := 10) (lv2 := [(3, .int v1), (0, .ref a0), (1, .int a1), (2, .int a2)]) (st2 := [.int v1]) hm dX7_nearestTo_9 rfl ?_
    refine sx_bi (v := 8) hm dX7_nearestTo_10 (by decide) ?_
    rcases mx_if_el hf with ⟨c8, hf⟩ | ⟨c8, hf⟩
    · refine sb_ic_ge hm dX7_nearestTo_12 (tgt := 39) rfl (fun _ => ?_) (fun z => absurd c8 z)
      refine sx_ic (v := (-1)) hm dX7_nearestTo_39 (by decide) ?_
      cases hf
      exact sx_ire hm dX7_nearestTo_40 rfl rfl
    · refine sb_ic_ge hm dX7_nearestTo_12 (tgt := 39) rfl (fun z => absurd z c8) (fun _ => ?_)
      refine mx_S.pu (pc2 := 16) (lv2 := [(3, .int v1), (0, .ref a0), (1, .int a1), (2, .int a2)]) (st2 := [.int a2]) hm dX7_nearestTo_15 rfl ?_
      rcases mx_if_el hf with ⟨c7, hf⟩ | ⟨c7, hf⟩
      · refine sb_if_lt hm dX7_nearestTo_16 (tgt := 39) rfl (fun _ => ?_) (fun z => absurd c7 z)
        refine sx_ic (v := (-1)) hm dX7_nearestTo_39 (by decide) ?_
        cases hf
        exact sx_ire hm dX7_nearestTo_40 rfl rfl
      · refine sb_if_lt hm dX7_nearestTo_16 (tgt := 39) rfl (fun z => absurd z c7) (fun _ => ?_)
        refine mx_S.pu (pc2 := 20) (lv2 := [(3, .int v1), (0, .ref a0), (1, .int a1), (2, .int a2)]) (st2 := [.int a2]) hm dX7_nearestTo_19 rfl ?_
        refine sx_bi (v := 96) hm dX7_nearestTo_20 (by decide) ?_
        rcases mx_if_el hf with ⟨c6, hf⟩ | ⟨c6, hf⟩
        · refine sb_ic_ge hm dX7_nearestTo_22 (tgt := 39) rfl (fun _ => ?_) (fun z => absurd c6 z)
          refine sx_ic (v := (-1)) hm dX7_nearestTo_39 (by decide) ?_
          cases hf
          exact sx_ire hm dX7_nearestTo_40 rfl rfl
        · refine sb_ic_ge hm dX7_nearestTo_22 (tgt := 39) rfl (fun z => absurd z c6) (fun _ => ?_)
          refine mx_S.pu (pc2 := 26) (lv2 := [(3, .int v1), (0, .ref a0), (1, .int a1), (2, .int a2)]) (st2 := [.ref a0]) hm dX7_nearestTo_25 rfl ?_
          replace hf := mx_sv_el hf; obtain ⟨v2, e_v2, hf⟩ := hf
          refine sx_get hm dX7_nearestTo_26 rs_RX7_38 (xgr_el e_v2) ?_
          clear e_v2
          refine mx_S.pu (pc2 := 30) (lv2 := [(3, .int v1), (0, .ref a0), (1, .int a1), (2, .int a2)]) (st2 := [.int v1, .ref v2]) hm dX7_nearestTo_29 rfl ?_
          refine sx_bi (v := 96) hm dX7_nearestTo_30 (by decide) ?_
          replace hf := xl_el hf; obtain ⟨v3, e_v3, hf⟩ := hf
          refine mx_S.pu (pc2 := 33) (lv2 := [(3, .int v1), (0, .ref a0), (1, .int a1), (2, .int a2)]) (st2 := [.int v3, .ref v2]) hm dX7_nearestTo_32 (by rw [← e_v3]; rfl) ?_
          clear e_v3
          refine mx_S.pu (pc2 := 34) (lv2 := [(3, .int v1), (0, .ref a0), (1, .int a1), (2, .int a2)]) (st2 := [.int a2, .int v3, .ref v2]) hm dX7_nearestTo_33 rfl ?_
          replace hf := xl_el hf; obtain ⟨v4, e_v4, hf⟩ := hf
          refine mx_S.pu (pc2 := 35) (lv2 := [(3, .int v1), (0, .ref a0), (1, .int a1), (2, .int a2)]) (st2 := [.int v4, .ref v2]) hm dX7_nearestTo_34 (by rw [← e_v4]; rfl) ?_
          clear e_v4
          replace hf := mx_sv_el hf; obtain ⟨v5, e_v5, hf⟩ := hf
          refine sx_ald hm dX7_nearestTo_35 e_v5 ?_
          clear e_v5
          refine mx_S.pu (pc2 := 40) (lv2 := [(3, .int v1), (0, .ref a0), (1, .int a1), (2, .int a2)]) (st2 := [.int v5]) hm dX7_nearestTo_36 rfl ?_
          cases hf
          exact sx_ire hm dX7_nearestTo_40 rfl rfl
set_option maxHeartbeats 4000000 in
set_option maxRecDepth 20000 in
theorem j_X5_stepCall_136_ok (X : Nat × (Nat → Int32)) {F L : Nat} (hF : 3 ≤ F) (hL : 105 ≤ L) (nn : Nat) (l0 : Nat) (l3 : Int32) (l5 : Int32) (l6 : Int32) (h : mx_H) {r : mx_H} (hf : j_X5_stepCall_136 nn l0 l3 l5 l6 h = some r) : mx_S X F L 170 136 [(0, .ref l0), (3, .int l3), (5, .int l5), (6, .int l6)] [] h 0 0 (none, r, 0, 0) := by
  have hm : mx_mt 170 = some (yX5_stepCall, cX5_stepCall, 8, none) := mt_X5_stepCall
  unfold j_X5_stepCall_136 at hf
  refine mx_S.pu (pc2 := 137) (lv2 := [(0, .ref l0), (3, .int l3), (5, .int l5), (6, .int l6)]) (st2 := [.ref l0]) hm dX5_stepCall_136 rfl ?_
  replace hf := mx_sv_el hf; obtain ⟨v1, e_v1, hf⟩ := hf
  refine sx_get hm dX5_stepCall_137 rs_RX5_32 (xgr_el e_v1) ?_
  clear e_v1
  refine mx_S.pu (pc2 := 141) (lv2 := [(0, .ref l0), (3, .int l3), (5, .int l5), (6, .int l6)]) (st2 := [.ref l0, .ref v1]) hm dX5_stepCall_140 rfl ?_
  replace hf := mx_sv_el hf; obtain ⟨v2, e_v2, hf⟩ := hf
  refine sx_get hm dX5_stepCall_141 rs_RX5_97 (xgi_el e_v2) ?_
  clear e_v2
  refine mx_S.pu (pc2 := 146) (lv2 := [(0, .ref l0), (3, .int l3), (5, .int l5), (6, .int l6)]) (st2 := [.int l6, .int v2, .ref v1]) hm dX5_stepCall_144 rfl ?_
  replace hf := mx_sv_el hf; obtain ⟨h3, e_h3, hf⟩ := hf
  refine sx_ast hm dX5_stepCall_146 e_h3 ?_
  clear e_h3
  refine mx_S.pu (pc2 := 148) (lv2 := [(0, .ref l0), (3, .int l3), (5, .int l5), (6, .int l6)]) (st2 := [.ref l0]) hm dX5_stepCall_147 rfl ?_
  refine mx_S.pu (pc2 := 149) (lv2 := [(0, .ref l0), (3, .int l3), (5, .int l5), (6, .int l6)]) (st2 := [.int l3, .ref l0]) hm dX5_stepCall_148 rfl ?_
  refine mx_S.pu (pc2 := 150) (lv2 := [(0, .ref l0), (3, .int l3), (5, .int l5), (6, .int l6)]) (st2 := [.ref l0, .int l3, .ref l0]) hm dX5_stepCall_149 rfl ?_
  replace hf := mx_sv_el hf; obtain ⟨v4, e_v4, hf⟩ := hf
  refine sx_get hm dX5_stepCall_150 rs_RX5_97 (xgi_el e_v4) ?_
  clear e_v4
  refine sx_bi (v := 30) hm dX5_stepCall_153 (by decide) ?_
  replace hf := xl_el hf; obtain ⟨v5, e_v5, hf⟩ := hf
  refine mx_S.pu (pc2 := 156) (lv2 := [(0, .ref l0), (3, .int l3), (5, .int l5), (6, .int l6)]) (st2 := [.int v5, .int l3, .ref l0]) hm dX5_stepCall_155 (by rw [← e_v5]; rfl) ?_
  clear e_v5
  refine mx_S.pu (pc2 := 158) (lv2 := [(0, .ref l0), (3, .int l3), (5, .int l5), (6, .int l6)]) (st2 := [.int l6, .int v5, .int l3, .ref l0]) hm dX5_stepCall_156 rfl ?_
  replace hf := xl_el hf; obtain ⟨v6, e_v6, hf⟩ := hf
  refine mx_S.pu (pc2 := 159) (lv2 := [(0, .ref l0), (3, .int l3), (5, .int l5), (6, .int l6)]) (st2 := [.int v6, .int l3, .ref l0]) hm dX5_stepCall_158 (by rw [← e_v6]; rfl) ?_
  clear e_v6
  refine mx_S.pu (pc2 := 161) (lv2 := [(0, .ref l0), (3, .int l3), (5, .int l5), (6, .int l6)]) (st2 := [.int l5, .int v6, .int l3, .ref l0]) hm dX5_stepCall_159 rfl ?_
  replace hf := mx_gd_el hf; obtain ⟨c7, hf⟩ := hf
  replace hf := mx_sv_el hf; obtain ⟨u8, e_u8, hf⟩ := hf
  refine sx_cv hm dX5_stepCall_161 rs_RX5_79 mt_X5_beginMethod [.int l3, .int v6, .int l5] [] (b := l0) (ci := 5) rfl rfl rfl c7 (Nat.le_of_ble_eq_true rfl) (Nat.le_of_ble_eq_true rfl) (by omega) (by omega) (f_X5_beginMethod_ok X (by omega) (by omega) nn l0 l3 v6 l5 h3 e_u8) ?_
  clear e_u8
  show mx_S X F L 170 164 [(0, .ref l0), (3, .int l3), (5, .int l5), (6, .int l6)] [] u8 0 0 (none, r, 0, 0)
  cases hf
  exact sx_ret hm dX5_stepCall_164 rfl
set_option maxHeartbeats 4000000 in
set_option maxRecDepth 20000 in
theorem j_X5_stepCall_51_ok (X : Nat × (Nat → Int32)) {F L : Nat} (hF : 3 ≤ F) (hL : 105 ≤ L) (nn : Nat) (l0 : Nat) (l1 : Int32) (l3 : Int32) (s0 : Int32) (s1 : Int32) (h : mx_H) {r : mx_H} (hf : j_X5_stepCall_51 nn l0 l1 l3 s0 s1 h = some r) : mx_S X F L 170 51 [(0, .ref l0), (1, .int l1), (3, .int l3)] [.int s0, .int s1] h 0 0 (none, r, 0, 0) := by
  have hm : mx_mt 170 = some (yX5_stepCall, cX5_stepCall, 8, none) := mt_X5_stepCall
  unfold j_X5_stepCall_51 at hf
  replace hf := xl_el hf; obtain ⟨v9, e_v9, hf⟩ := hf
  refine mx_S.pu (pc2 := 52) (lv2 := [(0, .ref l0), (1, .int l1), (3, .int l3)]) (st2 := [.int v9]) hm dX5_stepCall_51 (by rw [← e_v9]; rfl) ?_
  clear e_v9
  refine mx_S.pu (pc2 := 54) (lv2 := [(5, .int v9), (0, .ref l0), (1, .int l1), (3, .int l3)]) (st2 := []) hm dX5_stepCall_52 rfl ?_
  refine mx_S.pu (pc2 := 55) (lv2 := [(5, .int v9), (0, .ref l0), (1, .int l1), (3, .int l3)]) (st2 := [.ref l0]) hm dX5_stepCall_54 rfl ?_
  replace hf := mx_sv_el hf; obtain ⟨v10, e_v10, hf⟩ := hf
  refine sx_get hm dX5_stepCall_55 rs_RX5_32 (xgr_el e_v10) ?_
  clear e_v10
  refine mx_S.pu (pc2 := 59) (lv2 := [(5, .int v9), (0, .ref l0), (1, .int l1), (3, .int l3)]) (st2 := [.ref l0, .ref v10]) hm dX5_stepCall_58 rfl ?_
  replace hf := mx_sv_el hf; obtain ⟨v11, e_v11, hf⟩ := hf
  refine sx_get hm dX5_stepCall_59 rs_RX5_97 (xgi_el e_v11) ?_
  clear e_v11
  replace hf := mx_sv_el hf; obtain ⟨v12, e_v12, hf⟩ := hf
  refine sx_ald hm dX5_stepCall_62 e_v12 ?_
  clear e_v12
  refine mx_S.pu (pc2 := 65) (lv2 := [(5, .int v9), (0, .ref l0), (1, .int l1), (3, .int l3)]) (st2 := [.int v9, .int v12]) hm dX5_stepCall_63 rfl ?_
  replace hf := xl_el hf; obtain ⟨v13, e_v13, hf⟩ := hf
  refine mx_S.pu (pc2 := 66) (lv2 := [(5, .int v9), (0, .ref l0), (1, .int l1), (3, .int l3)]) (st2 := [.int v13]) hm dX5_stepCall_65 (by rw [← e_v13]; rfl) ?_
  clear e_v13
  refine mx_S.pu (pc2 := 68) (lv2 := [(6, .int v13), (5, .int v9), (0, .ref l0), (1, .int l1), (3, .int l3)]) (st2 := []) hm dX5_stepCall_66 rfl ?_
  refine mx_S.pu (pc2 := 70) (lv2 := [(6, .int v13), (5, .int v9), (0, .ref l0), (1, .int l1), (3, .int l3)]) (st2 := [.int v13]) hm dX5_stepCall_68 rfl ?_
  rcases mx_if_el hf with ⟨c30, hf⟩ | ⟨c30, hf⟩
  · refine sb_if_ge hm dX5_stepCall_70 (tgt := 80) rfl (fun _ => ?_) (fun z => absurd c30 z)
    refine mx_S.pu (pc2 := 81) (lv2 := [(6, .int v13), (5, .int v9), (0, .ref l0), (1, .int l1), (3, .int l3)]) (st2 := [.int l1]) hm dX5_stepCall_80 rfl ?_
    refine sx_si (v := 182) hm dX5_stepCall_81 (by decide) ?_
    rcases mx_if_el hf with ⟨c28, hf⟩ | ⟨c28, hf⟩
    · refine sb_ic_ne hm dX5_stepCall_84 (tgt := 136) rfl (fun _ => ?_) (fun z => absurd c28 z)
      refine mx_S.ext [(0, .ref l0), (3, .int l3), (5, .int v9), (6, .int v13)] (mx_sub_pos [2, 4, 1, 0] rfl (show ([6, 5, 0, 1, 3] : List Nat).Nodup by decide)) ?_
      exact j_X5_stepCall_136_ok X hF hL nn l0 l3 v9 v13 h hf
    · refine sb_ic_ne hm dX5_stepCall_84 (tgt := 136) rfl (fun z => absurd z c28) (fun _ => ?_)
      refine mx_S.pu (pc2 := 88) (lv2 := [(6, .int v13), (5, .int v9), (0, .ref l0), (1, .int l1), (3, .int l3)]) (st2 := [.ref l0]) hm dX5_stepCall_87 rfl ?_
      replace hf := mx_sv_el hf; obtain ⟨v14, e_v14, hf⟩ := hf
      refine sx_get hm dX5_stepCall_88 rs_RX5_38 (xgr_el e_v14) ?_
      clear e_v14
      refine mx_S.pu (pc2 := 92) (lv2 := [(6, .int v13), (5, .int v9), (0, .ref l0), (1, .int l1), (3, .int l3)]) (st2 := [.ref l0, .ref v14]) hm dX5_stepCall_91 rfl ?_
      replace hf := mx_sv_el hf; obtain ⟨v15, e_v15, hf⟩ := hf
      refine sx_get hm dX5_stepCall_92 rs_RX5_97 (xgi_el e_v15) ?_
      clear e_v15
      refine sx_bi (v := 30) hm dX5_stepCall_95 (by decide) ?_
      replace hf := xl_el hf; obtain ⟨v16, e_v16, hf⟩ := hf
      refine mx_S.pu (pc2 := 98) (lv2 := [(6, .int v13), (5, .int v9), (0, .ref l0), (1, .int l1), (3, .int l3)]) (st2 := [.int v16, .ref v14]) hm dX5_stepCall_97 (by rw [← e_v16]; rfl) ?_
      clear e_v16
      refine mx_S.pu (pc2 := 100) (lv2 := [(6, .int v13), (5, .int v9), (0, .ref l0), (1, .int l1), (3, .int l3)]) (st2 := [.int v13, .int v16, .ref v14]) hm dX5_stepCall_98 rfl ?_
      replace hf := xl_el hf; obtain ⟨v17, e_v17, hf⟩ := hf
      refine mx_S.pu (pc2 := 101) (lv2 := [(6, .int v13), (5, .int v9), (0, .ref l0), (1, .int l1), (3, .int l3)]) (st2 := [.int v17, .ref v14]) hm dX5_stepCall_100 (by rw [← e_v17]; rfl) ?_
      clear e_v17
      replace hf := mx_sv_el hf; obtain ⟨v18, e_v18, hf⟩ := hf
      refine sx_ald hm dX5_stepCall_101 e_v18 ?_
      clear e_v18
      refine mx_S.pu (pc2 := 104) (lv2 := [(7, .int v18), (6, .int v13), (5, .int v9), (0, .ref l0), (1, .int l1), (3, .int l3)]) (st2 := []) hm dX5_stepCall_102 rfl ?_
      refine mx_S.pu (pc2 := 105) (lv2 := [(7, .int v18), (6, .int v13), (5, .int v9), (0, .ref l0), (1, .int l1), (3, .int l3)]) (st2 := [.ref l0]) hm dX5_stepCall_104 rfl ?_
      refine mx_S.pu (pc2 := 107) (lv2 := [(7, .int v18), (6, .int v13), (5, .int v9), (0, .ref l0), (1, .int l1), (3, .int l3)]) (st2 := [.int v18, .ref l0]) hm dX5_stepCall_105 rfl ?_
      replace hf := mx_gd_el hf; obtain ⟨c19, hf⟩ := hf
      replace hf := mx_sv_el hf; obtain ⟨u20, e_u20, hf⟩ := hf
      refine sx_cv hm dX5_stepCall_107 rs_RX5_226 mt_X5_isObject [.int v18] [] (b := l0) (ci := 5) rfl rfl rfl c19 (Nat.le_of_ble_eq_true rfl) (Nat.le_of_ble_eq_true rfl) (by omega) (by omega) (f_X5_isObject_ok X (by omega) (by omega) nn l0 v18 h e_u20) ?_
      clear e_u20
      show mx_S X F L 170 110 [(7, .int v18), (6, .int v13), (5, .int v9), (0, .ref l0), (1, .int l1), (3, .int l3)] [.int u20.1] u20.2 0 0 (none, r, 0, 0)
      rcases mx_if_el hf with ⟨c27, hf⟩ | ⟨c27, hf⟩
      · refine sb_if_ne hm dX5_stepCall_110 (tgt := 120) rfl (fun _ => ?_) (fun z => absurd c27 z)
        refine mx_S.pu (pc2 := 121) (lv2 := [(7, .int v18), (6, .int v13), (5, .int v9), (0, .ref l0), (1, .int l1), (3, .int l3)]) (st2 := [.ref l0]) hm dX5_stepCall_120 rfl ?_
        replace hf := mx_sv_el hf; obtain ⟨v21, e_v21, hf⟩ := hf
        refine sx_get hm dX5_stepCall_121 rs_RX5_41 (xgr_el e_v21) ?_
        clear e_v21
        refine mx_S.pu (pc2 := 125) (lv2 := [(7, .int v18), (6, .int v13), (5, .int v9), (0, .ref l0), (1, .int l1), (3, .int l3)]) (st2 := [.ref l0, .ref v21]) hm dX5_stepCall_124 rfl ?_
        replace hf := mx_sv_el hf; obtain ⟨v22, e_v22, hf⟩ := hf
        refine sx_get hm dX5_stepCall_125 rs_RX5_17 (xgr_el e_v22) ?_
        clear e_v22
        refine mx_S.pu (pc2 := 130) (lv2 := [(7, .int v18), (6, .int v13), (5, .int v9), (0, .ref l0), (1, .int l1), (3, .int l3)]) (st2 := [.int v18, .ref v22, .ref v21]) hm dX5_stepCall_128 rfl ?_
        replace hf := mx_sv_el hf; obtain ⟨v23, e_v23, hf⟩ := hf
        refine sx_ald hm dX5_stepCall_130 e_v23 ?_
        clear e_v23
        refine mx_S.pu (pc2 := 132) (lv2 := [(7, .int v18), (6, .int v13), (5, .int v9), (0, .ref l0), (1, .int l1), (3, .int l3)]) (st2 := [.int l3, .int v23, .ref v21]) hm dX5_stepCall_131 rfl ?_
        replace hf := mx_gd_el hf; obtain ⟨c24, hf⟩ := hf
        replace hf := mx_sv_el hf; obtain ⟨u25, e_u25, hf⟩ := hf
        refine sx_cv hm dX5_stepCall_132 rs_RX5_246 mt_X7_nearestTo [.int v23, .int l3] [] (b := v21) (ci := 7) rfl rfl rfl c24 (Nat.le_of_ble_eq_true rfl) (Nat.le_of_ble_eq_true rfl) (by omega) (by omega) (f_X7_nearestTo_ok X (by omega) (by omega) nn v21 v23 l3 u20.2 e_u25) ?_
        clear e_u25
        show mx_S X F L 170 135 [(7, .int v18), (6, .int v13), (5, .int v9), (0, .ref l0), (1, .int l1), (3, .int l3)] [.int u25.1] u25.2 0 0 (none, r, 0, 0)
        refine mx_S.pu (pc2 := 136) (lv2 := [(3, .int u25.1), (7, .int v18), (6, .int v13), (5, .int v9), (0, .ref l0), (1, .int l1)]) (st2 := []) hm dX5_stepCall_135 rfl ?_
        refine mx_S.ext [(0, .ref l0), (3, .int u25.1), (5, .int v9), (6, .int v13)] (mx_sub_pos [4, 0, 3, 2] rfl (show ([3, 7, 6, 5, 0, 1] : List Nat).Nodup by decide)) ?_
        exact j_X5_stepCall_136_ok X hF hL nn l0 u25.1 v9 v13 u25.2 hf
      · refine sb_if_ne hm dX5_stepCall_110 (tgt := 120) rfl (fun z => absurd z c27) (fun _ => ?_)
        refine mx_S.pu (pc2 := 114) (lv2 := [(7, .int v18), (6, .int v13), (5, .int v9), (0, .ref l0), (1, .int l1), (3, .int l3)]) (st2 := [.ref l0]) hm dX5_stepCall_113 rfl ?_
        refine sx_bi (v := (-2)) hm dX5_stepCall_114 (by decide) ?_
        replace hf := mx_sv_el hf; obtain ⟨h26, e_h26, hf⟩ := hf
        refine sx_put hm dX5_stepCall_116 rs_RX5_86 ft_5_20 ⟨rfl, rfl⟩ (fun z => by cases z) e_h26 ?_
        clear e_h26
        cases hf
        exact sx_ret hm dX5_stepCall_119 rfl
  · refine sb_if_ge hm dX5_stepCall_70 (tgt := 80) rfl (fun z => absurd z c30) (fun _ => ?_)
    refine mx_S.pu (pc2 := 74) (lv2 := [(6, .int v13), (5, .int v9), (0, .ref l0), (1, .int l1), (3, .int l3)]) (st2 := [.ref l0]) hm dX5_stepCall_73 rfl ?_
    refine sx_bi (v := 6) hm dX5_stepCall_74 (by decide) ?_
    replace hf := mx_sv_el hf; obtain ⟨h29, e_h29, hf⟩ := hf
    refine sx_put hm dX5_stepCall_76 rs_RX5_54 ft_5_1 ⟨rfl, rfl⟩ (fun z => by cases z) e_h29 ?_
    clear e_h29
    cases hf
    exact sx_ret hm dX5_stepCall_79 rfl
set_option maxHeartbeats 4000000 in
set_option maxRecDepth 20000 in
theorem f_X5_stepCall_ok (X : Nat × (Nat → Int32)) {F L : Nat} (hF : 3 ≤ F) (hL : 105 ≤ L) (nn : Nat) (a0 : Nat) (a1 : Int32) (a2 : Int32) (h : mx_H) {r : mx_H} (hf : f_X5_stepCall nn a0 a1 a2 h = some r) : mx_R X F L 170 [.ref a0, .int a1, .int a2] h (none, r, 0, 0) := by
  have hm : mx_mt 170 = some (yX5_stepCall, cX5_stepCall, 8, none) := mt_X5_stepCall
  show mx_S X F L 170 0 [(0, .ref a0), (1, .int a1), (2, .int a2)] [] h 0 0 (none, r, 0, 0)
  unfold f_X5_stepCall at hf
  refine mx_S.pu (pc2 := 1) (lv2 := [(0, .ref a0), (1, .int a1), (2, .int a2)]) (st2 := [.ref a0]) hm dX5_stepCall_0 rfl ?_
  refine mx_S.pu (pc2 := 2) (lv2 := [(0, .ref a0), (1, .int a1), (2, .int a2)]) (st2 := [.int a2, .ref a0]) hm dX5_stepCall_1 rfl ?_
  replace hf := mx_gd_el hf; obtain ⟨c31, hf⟩ := hf
  replace hf := mx_sv_el hf; obtain ⟨u32, e_u32, hf⟩ := hf
  refine sx_cv hm dX5_stepCall_2 rs_RX5_149 mt_X5_link [.int a2] [] (b := a0) (ci := 5) rfl rfl rfl c31 (Nat.le_of_ble_eq_true rfl) (Nat.le_of_ble_eq_true rfl) (by omega) (by omega) (f_X5_link_ok X (by omega) (by omega) nn a0 a2 h e_u32) ?_
  clear e_u32
  show mx_S X F L 170 5 [(0, .ref a0), (1, .int a1), (2, .int a2)] [.int u32.1] u32.2 0 0 (none, r, 0, 0)
  refine mx_S.pu (pc2 := 6) (lv2 := [(3, .int u32.1), (0, .ref a0), (1, .int a1), (2, .int a2)]) (st2 := []) hm dX5_stepCall_5 rfl ?_
  refine mx_S.pu (pc2 := 7) (lv2 := [(3, .int u32.1), (0, .ref a0), (1, .int a1), (2, .int a2)]) (st2 := [.ref a0]) hm dX5_stepCall_6 rfl ?_
  replace hf := mx_sv_el hf; obtain ⟨v33, e_v33, hf⟩ := hf
  refine sx_get hm dX5_stepCall_7 rs_RX5_41 (xgr_el e_v33) ?_
  clear e_v33
  refine mx_S.pu (pc2 := 11) (lv2 := [(3, .int u32.1), (0, .ref a0), (1, .int a1), (2, .int a2)]) (st2 := [.int u32.1, .ref v33]) hm dX5_stepCall_10 rfl ?_
  replace hf := mx_gd_el hf; obtain ⟨c34, hf⟩ := hf
  replace hf := mx_sv_el hf; obtain ⟨u35, e_u35, hf⟩ := hf
  refine sx_cv hm dX5_stepCall_11 rs_RX5_120 mt_X7_imageOfMember [.int u32.1] [] (b := v33) (ci := 7) rfl rfl rfl c34 (Nat.le_of_ble_eq_true rfl) (Nat.le_of_ble_eq_true rfl) (by omega) (by omega) (f_X7_imageOfMember_ok X (by omega) (by omega) nn v33 u32.1 u32.2 e_u35) ?_
  clear e_u35
  show mx_S X F L 170 14 [(3, .int u32.1), (0, .ref a0), (1, .int a1), (2, .int a2)] [va_rf u35.1] u35.2 0 0 (none, r, 0, 0)
  refine sx_so (lv2 := [(4, va_rf u35.1), (3, .int u32.1), (0, .ref a0), (1, .int a1), (2, .int a2)]) hm dX5_stepCall_14 rfl rfl ?_
  refine sx_ao hm dX5_stepCall_16 rfl ?_
  rcases mx_oc_el hf with ⟨c37, hf⟩ | ⟨b36, c37, hf⟩
  · refine sx_ifnonnull_n hm dX5_stepCall_18 c37 (tgt := 28) rfl ?_
    refine mx_S.pu (pc2 := 22) (lv2 := [(4, va_rf u35.1), (3, .int u32.1), (0, .ref a0), (1, .int a1), (2, .int a2)]) (st2 := [.ref a0]) hm dX5_stepCall_21 rfl ?_
    refine sx_bi (v := 6) hm dX5_stepCall_22 (by decide) ?_
    replace hf := mx_sv_el hf; obtain ⟨h38, e_h38, hf⟩ := hf
    refine sx_put hm dX5_stepCall_24 rs_RX5_54 ft_5_1 ⟨rfl, rfl⟩ (fun z => by cases z) e_h38 ?_
    clear e_h38
    cases hf
    exact sx_ret hm dX5_stepCall_27 rfl
  · refine sx_ifnonnull_s hm dX5_stepCall_18 c37 (tgt := 28) rfl ?_
    rw [show va_rf u35.1 = Value.ref b36 by rw [c37]; rfl]
    refine mx_S.pu (pc2 := 30) (lv2 := [(4, .ref b36), (3, .int u32.1), (0, .ref a0), (1, .int a1), (2, .int a2)]) (st2 := [.ref b36]) hm dX5_stepCall_28 rfl ?_
    refine mx_S.pu (pc2 := 31) (lv2 := [(4, .ref b36), (3, .int u32.1), (0, .ref a0), (1, .int a1), (2, .int a2)]) (st2 := [.int u32.1, .ref b36]) hm dX5_stepCall_30 rfl ?_
    refine sx_bi (v := 12) hm dX5_stepCall_31 (by decide) ?_
    replace hf := xl_el hf; obtain ⟨v39, e_v39, hf⟩ := hf
    refine sx_irem (v := v39) hm dX5_stepCall_33 (by decide) e_v39 ?_
    clear e_v39
    refine sx_bi (v := 11) hm dX5_stepCall_34 (by decide) ?_
    replace hf := mx_gd_el hf; obtain ⟨c40, hf⟩ := hf
    replace hf := mx_sv_el hf; obtain ⟨u41, e_u41, hf⟩ := hf
    refine sx_cv hm dX5_stepCall_36 rs_RX5_126 mt_X3_of [.int v39, .int 11] [] (b := b36) (ci := 3) rfl rfl rfl c40 (Nat.le_of_ble_eq_true rfl) (Nat.le_of_ble_eq_true rfl) (by omega) (by omega) (f_X3_of_ok X (by omega) (by omega) nn b36 v39 11 u35.2 e_u41) ?_
    clear e_u41
    show mx_S X F L 170 39 [(4, .ref b36), (3, .int u32.1), (0, .ref a0), (1, .int a1), (2, .int a2)] [.int u41.1] u41.2 0 0 (none, r, 0, 0)
    refine mx_S.pu (pc2 := 40) (lv2 := [(4, .ref b36), (3, .int u32.1), (0, .ref a0), (1, .int a1), (2, .int a2)]) (st2 := [.int a1, .int u41.1]) hm dX5_stepCall_39 rfl ?_
    refine sx_si (v := 182) hm dX5_stepCall_40 (by decide) ?_
    rcases mx_if_el hf with ⟨c42, hf⟩ | ⟨c42, hf⟩
    · refine sb_ic_ne hm dX5_stepCall_43 (tgt := 50) rfl (fun _ => ?_) (fun z => absurd c42 z)
      refine sx_ic (v := 0) hm dX5_stepCall_50 (by decide) ?_
      refine mx_S.ext [(0, .ref a0), (1, .int a1), (3, .int u32.1)] (mx_sub_pos [2, 3, 1] rfl (show ([4, 3, 0, 1, 2] : List Nat).Nodup by decide)) ?_
      exact j_X5_stepCall_51_ok X hF hL nn a0 a1 u32.1 0 u41.1 u41.2 hf
    · refine sb_ic_ne hm dX5_stepCall_43 (tgt := 50) rfl (fun z => absurd z c42) (fun _ => ?_)
      refine sx_ic (v := 1) hm dX5_stepCall_46 (by decide) ?_
      refine mx_S.pu (pc2 := 51) (lv2 := [(4, .ref b36), (3, .int u32.1), (0, .ref a0), (1, .int a1), (2, .int a2)]) (st2 := [.int 1, .int u41.1]) hm dX5_stepCall_47 rfl ?_
      refine mx_S.ext [(0, .ref a0), (1, .int a1), (3, .int u32.1)] (mx_sub_pos [2, 3, 1] rfl (show ([4, 3, 0, 1, 2] : List Nat).Nodup by decide)) ?_
      exact j_X5_stepCall_51_ok X hF hL nn a0 a1 u32.1 1 u41.1 u41.2 hf
set_option maxHeartbeats 4000000 in
set_option maxRecDepth 20000 in
theorem j_X5_cellOf_39_ok (X : Nat × (Nat → Int32)) {F L : Nat} (hF : 1 ≤ F) (hL : 21 ≤ L) (nn : Nat) (l0 : Nat) (h : mx_H) {r : (Int32 × mx_H)} (hf : j_X5_cellOf_39 nn l0 h = some r) : mx_S X F L 164 39 [(0, .ref l0)] [] h 0 0 (some (.int r.1), r.2, 0, 0) := by
  have hm : mx_mt 164 = some (yX5_cellOf, cX5_cellOf, 3, (some .int)) := mt_X5_cellOf
  unfold j_X5_cellOf_39 at hf
  refine mx_S.pu (pc2 := 40) (lv2 := [(0, .ref l0)]) (st2 := [.ref l0]) hm dX5_cellOf_39 rfl ?_
  refine sx_bi (v := (-3)) hm dX5_cellOf_40 (by decide) ?_
  replace hf := mx_sv_el hf; obtain ⟨h1, e_h1, hf⟩ := hf
  refine sx_put hm dX5_cellOf_42 rs_RX5_86 ft_5_20 ⟨rfl, rfl⟩ (fun z => by cases z) e_h1 ?_
  clear e_h1
  refine sx_ic (v := (-1)) hm dX5_cellOf_45 (by decide) ?_
  cases hf
  exact sx_ire hm dX5_cellOf_46 rfl rfl
set_option maxHeartbeats 4000000 in
set_option maxRecDepth 20000 in
theorem f_X5_cellOf_ok (X : Nat × (Nat → Int32)) {F L : Nat} (hF : 1 ≤ F) (hL : 21 ≤ L) (nn : Nat) (a0 : Nat) (a1 : Int32) (a2 : Int32) (h : mx_H) {r : (Int32 × mx_H)} (hf : f_X5_cellOf nn a0 a1 a2 h = some r) : mx_R X F L 164 [.ref a0, .int a1, .int a2] h (some (.int r.1), r.2, 0, 0) := by
  have hm : mx_mt 164 = some (yX5_cellOf, cX5_cellOf, 3, (some .int)) := mt_X5_cellOf
  show mx_S X F L 164 0 [(0, .ref a0), (1, .int a1), (2, .int a2)] [] h 0 0 (some (.int r.1), r.2, 0, 0)
  unfold f_X5_cellOf at hf
  refine mx_S.pu (pc2 := 1) (lv2 := [(0, .ref a0), (1, .int a1), (2, .int a2)]) (st2 := [.ref a0]) hm dX5_cellOf_0 rfl ?_
  refine mx_S.pu (pc2 := 2) (lv2 := [(0, .ref a0), (1, .int a1), (2, .int a2)]) (st2 := [.int a1, .ref a0]) hm dX5_cellOf_1 rfl ?_
  replace hf := mx_gd_el hf; obtain ⟨c2, hf⟩ := hf
  replace hf := mx_sv_el hf; obtain ⟨u3, e_u3, hf⟩ := hf
  refine sx_cv hm dX5_cellOf_2 rs_RX5_226 mt_X5_isObject [.int a1] [] (b := a0) (ci := 5) rfl rfl rfl c2 (Nat.le_of_ble_eq_true rfl) (Nat.le_of_ble_eq_true rfl) (by omega) (by omega) (f_X5_isObject_ok X (by omega) (by omega) nn a0 a1 h e_u3) ?_
  clear e_u3
  show mx_S X F L 164 5 [(0, .ref a0), (1, .int a1), (2, .int a2)] [.int u3.1] u3.2 0 0 (some (.int r.1), r.2, 0, 0)
  rcases mx_if_el hf with ⟨c16, hf⟩ | ⟨c16, hf⟩
  · refine sb_if_ne hm dX5_cellOf_5 (tgt := 16) rfl (fun _ => ?_) (fun z => absurd c16 z)
    refine mx_S.pu (pc2 := 17) (lv2 := [(0, .ref a0), (1, .int a1), (2, .int a2)]) (st2 := [.int a2]) hm dX5_cellOf_16 rfl ?_
    rcases mx_if_el hf with ⟨c14, hf⟩ | ⟨c14, hf⟩
    · refine sb_if_lt hm dX5_cellOf_17 (tgt := 39) rfl (fun _ => ?_) (fun z => absurd c14 z)
      refine mx_S.ext [(0, .ref a0)] (mx_sub_pos [0] rfl (show ([0, 1, 2] : List Nat).Nodup by decide)) ?_
      exact j_X5_cellOf_39_ok X hF hL nn a0 u3.2 hf
    · refine sb_if_lt hm dX5_cellOf_17 (tgt := 39) rfl (fun z => absurd z c14) (fun _ => ?_)
      refine mx_S.pu (pc2 := 21) (lv2 := [(0, .ref a0), (1, .int a1), (2, .int a2)]) (st2 := [.int a2]) hm dX5_cellOf_20 rfl ?_
      refine mx_S.pu (pc2 := 22) (lv2 := [(0, .ref a0), (1, .int a1), (2, .int a2)]) (st2 := [.ref a0, .int a2]) hm dX5_cellOf_21 rfl ?_
      replace hf := mx_sv_el hf; obtain ⟨v4, e_v4, hf⟩ := hf
      refine sx_get hm dX5_cellOf_22 rs_RX5_20 (xgr_el e_v4) ?_
      clear e_v4
      refine mx_S.pu (pc2 := 26) (lv2 := [(0, .ref a0), (1, .int a1), (2, .int a2)]) (st2 := [.int a1, .ref v4, .int a2]) hm dX5_cellOf_25 rfl ?_
      refine sx_ic (v := 1) hm dX5_cellOf_26 (by decide) ?_
      replace hf := xl_el hf; obtain ⟨v5, e_v5, hf⟩ := hf
      refine mx_S.pu (pc2 := 28) (lv2 := [(0, .ref a0), (1, .int a1), (2, .int a2)]) (st2 := [.int v5, .ref v4, .int a2]) hm dX5_cellOf_27 (by rw [← e_v5]; rfl) ?_
      clear e_v5
      replace hf := mx_sv_el hf; obtain ⟨v6, e_v6, hf⟩ := hf
      refine sx_ald hm dX5_cellOf_28 e_v6 ?_
      clear e_v6
      refine mx_S.pu (pc2 := 30) (lv2 := [(0, .ref a0), (1, .int a1), (2, .int a2)]) (st2 := [.ref a0, .int v6, .int a2]) hm dX5_cellOf_29 rfl ?_
      replace hf := mx_sv_el hf; obtain ⟨v7, e_v7, hf⟩ := hf
      refine sx_get hm dX5_cellOf_30 rs_RX5_20 (xgr_el e_v7) ?_
      clear e_v7
      refine mx_S.pu (pc2 := 34) (lv2 := [(0, .ref a0), (1, .int a1), (2, .int a2)]) (st2 := [.int a1, .ref v7, .int v6, .int a2]) hm dX5_cellOf_33 rfl ?_
      replace hf := mx_sv_el hf; obtain ⟨v8, e_v8, hf⟩ := hf
      refine sx_ald hm dX5_cellOf_34 e_v8 ?_
      clear e_v8
      replace hf := xl_el hf; obtain ⟨v9, e_v9, hf⟩ := hf
      refine mx_S.pu (pc2 := 36) (lv2 := [(0, .ref a0), (1, .int a1), (2, .int a2)]) (st2 := [.int v9, .int a2]) hm dX5_cellOf_35 (by rw [← e_v9]; rfl) ?_
      clear e_v9
      rcases mx_if_el hf with ⟨c13, hf⟩ | ⟨c13, hf⟩
      · refine sb_ic_lt hm dX5_cellOf_36 (tgt := 47) rfl (fun _ => ?_) (fun z => absurd c13 z)
        refine mx_S.pu (pc2 := 48) (lv2 := [(0, .ref a0), (1, .int a1), (2, .int a2)]) (st2 := [.ref a0]) hm dX5_cellOf_47 rfl ?_
        replace hf := mx_sv_el hf; obtain ⟨v10, e_v10, hf⟩ := hf
        refine sx_get hm dX5_cellOf_48 rs_RX5_20 (xgr_el e_v10) ?_
        clear e_v10
        refine mx_S.pu (pc2 := 52) (lv2 := [(0, .ref a0), (1, .int a1), (2, .int a2)]) (st2 := [.int a1, .ref v10]) hm dX5_cellOf_51 rfl ?_
        replace hf := mx_sv_el hf; obtain ⟨v11, e_v11, hf⟩ := hf
        refine sx_ald hm dX5_cellOf_52 e_v11 ?_
        clear e_v11
        refine mx_S.pu (pc2 := 54) (lv2 := [(0, .ref a0), (1, .int a1), (2, .int a2)]) (st2 := [.int a2, .int v11]) hm dX5_cellOf_53 rfl ?_
        replace hf := xl_el hf; obtain ⟨v12, e_v12, hf⟩ := hf
        refine mx_S.pu (pc2 := 55) (lv2 := [(0, .ref a0), (1, .int a1), (2, .int a2)]) (st2 := [.int v12]) hm dX5_cellOf_54 (by rw [← e_v12]; rfl) ?_
        clear e_v12
        cases hf
        exact sx_ire hm dX5_cellOf_55 rfl rfl
      · refine sb_ic_lt hm dX5_cellOf_36 (tgt := 47) rfl (fun z => absurd z c13) (fun _ => ?_)
        refine mx_S.ext [(0, .ref a0)] (mx_sub_pos [0] rfl (show ([0, 1, 2] : List Nat).Nodup by decide)) ?_
        exact j_X5_cellOf_39_ok X hF hL nn a0 u3.2 hf
  · refine sb_if_ne hm dX5_cellOf_5 (tgt := 16) rfl (fun z => absurd z c16) (fun _ => ?_)
    refine mx_S.pu (pc2 := 9) (lv2 := [(0, .ref a0), (1, .int a1), (2, .int a2)]) (st2 := [.ref a0]) hm dX5_cellOf_8 rfl ?_
    refine sx_bi (v := (-2)) hm dX5_cellOf_9 (by decide) ?_
    replace hf := mx_sv_el hf; obtain ⟨h15, e_h15, hf⟩ := hf
    refine sx_put hm dX5_cellOf_11 rs_RX5_86 ft_5_20 ⟨rfl, rfl⟩ (fun z => by cases z) e_h15 ?_
    clear e_h15
    refine sx_ic (v := (-1)) hm dX5_cellOf_14 (by decide) ?_
    cases hf
    exact sx_ire hm dX5_cellOf_15 rfl rfl
set_option maxHeartbeats 4000000 in
set_option maxRecDepth 20000 in
theorem f_X5_stepElement_ok (X : Nat × (Nat → Int32)) {F L : Nat} (hF : 2 ≤ F) (hL : 44 ≤ L) (nn : Nat) (a0 : Nat) (h : mx_H) {r : mx_H} (hf : f_X5_stepElement nn a0 h = some r) : mx_R X F L 165 [.ref a0] h (none, r, 0, 0) := by
  have hm : mx_mt 165 = some (yX5_stepElement, cX5_stepElement, 4, none) := mt_X5_stepElement
  show mx_S X F L 165 0 [(0, .ref a0)] [] h 0 0 (none, r, 0, 0)
  unfold f_X5_stepElement at hf
  refine mx_S.pu (pc2 := 1) (lv2 := [(0, .ref a0)]) (st2 := [.ref a0]) hm dX5_stepElement_0 rfl ?_
  replace hf := mx_gd_el hf; obtain ⟨c1, hf⟩ := hf
  replace hf := mx_sv_el hf; obtain ⟨u2, e_u2, hf⟩ := hf
  refine sx_cv hm dX5_stepElement_1 rs_RX5_154 mt_X5_pop [] [] (b := a0) (ci := 5) rfl rfl rfl c1 (Nat.le_of_ble_eq_true rfl) (Nat.le_of_ble_eq_true rfl) (by omega) (by omega) (f_X5_pop_ok X (by omega) (by omega) nn a0 h e_u2) ?_
  clear e_u2
  show mx_S X F L 165 4 [(0, .ref a0)] [.int u2.1] u2.2 0 0 (none, r, 0, 0)
  refine mx_S.pu (pc2 := 5) (lv2 := [(1, .int u2.1), (0, .ref a0)]) (st2 := []) hm dX5_stepElement_4 rfl ?_
  refine mx_S.pu (pc2 := 6) (lv2 := [(1, .int u2.1), (0, .ref a0)]) (st2 := [.ref a0]) hm dX5_stepElement_5 rfl ?_
  replace hf := mx_gd_el hf; obtain ⟨c3, hf⟩ := hf
  replace hf := mx_sv_el hf; obtain ⟨u4, e_u4, hf⟩ := hf
  refine sx_cv hm dX5_stepElement_6 rs_RX5_154 mt_X5_pop [] [] (b := a0) (ci := 5) rfl rfl rfl c3 (Nat.le_of_ble_eq_true rfl) (Nat.le_of_ble_eq_true rfl) (by omega) (by omega) (f_X5_pop_ok X (by omega) (by omega) nn a0 u2.2 e_u4) ?_
  clear e_u4
  show mx_S X F L 165 9 [(1, .int u2.1), (0, .ref a0)] [.int u4.1] u4.2 0 0 (none, r, 0, 0)
  refine mx_S.pu (pc2 := 10) (lv2 := [(2, .int u4.1), (1, .int u2.1), (0, .ref a0)]) (st2 := []) hm dX5_stepElement_9 rfl ?_
  refine mx_S.pu (pc2 := 11) (lv2 := [(2, .int u4.1), (1, .int u2.1), (0, .ref a0)]) (st2 := [.ref a0]) hm dX5_stepElement_10 rfl ?_
  refine mx_S.pu (pc2 := 12) (lv2 := [(2, .int u4.1), (1, .int u2.1), (0, .ref a0)]) (st2 := [.int u4.1, .ref a0]) hm dX5_stepElement_11 rfl ?_
  refine mx_S.pu (pc2 := 13) (lv2 := [(2, .int u4.1), (1, .int u2.1), (0, .ref a0)]) (st2 := [.int u2.1, .int u4.1, .ref a0]) hm dX5_stepElement_12 rfl ?_
  replace hf := mx_gd_el hf; obtain ⟨c5, hf⟩ := hf
  replace hf := mx_sv_el hf; obtain ⟨u6, e_u6, hf⟩ := hf
  refine sx_cv hm dX5_stepElement_13 rs_RX5_229 mt_X5_cellOf [.int u4.1, .int u2.1] [] (b := a0) (ci := 5) rfl rfl rfl c5 (Nat.le_of_ble_eq_true rfl) (Nat.le_of_ble_eq_true rfl) (by omega) (by omega) (f_X5_cellOf_ok X (by omega) (by omega) nn a0 u4.1 u2.1 u4.2 e_u6) ?_
  clear e_u6
  show mx_S X F L 165 16 [(2, .int u4.1), (1, .int u2.1), (0, .ref a0)] [.int u6.1] u6.2 0 0 (none, r, 0, 0)
  refine mx_S.pu (pc2 := 17) (lv2 := [(3, .int u6.1), (2, .int u4.1), (1, .int u2.1), (0, .ref a0)]) (st2 := []) hm dX5_stepElement_16 rfl ?_
  refine mx_S.pu (pc2 := 18) (lv2 := [(3, .int u6.1), (2, .int u4.1), (1, .int u2.1), (0, .ref a0)]) (st2 := [.int u6.1]) hm dX5_stepElement_17 rfl ?_
  rcases mx_if_el hf with ⟨c12, hf⟩ | ⟨c12, hf⟩
  · refine sb_if_lt hm dX5_stepElement_18 (tgt := 39) rfl (fun _ => ?_) (fun z => absurd c12 z)
    cases hf
    exact sx_ret hm dX5_stepElement_39 rfl
  · refine sb_if_lt hm dX5_stepElement_18 (tgt := 39) rfl (fun z => absurd z c12) (fun _ => ?_)
    refine mx_S.pu (pc2 := 22) (lv2 := [(3, .int u6.1), (2, .int u4.1), (1, .int u2.1), (0, .ref a0)]) (st2 := [.int u6.1]) hm dX5_stepElement_21 rfl ?_
    refine sx_si (v := 20000) hm dX5_stepElement_22 (by decide) ?_
    rcases mx_if_el hf with ⟨c11, hf⟩ | ⟨c11, hf⟩
    · refine sb_ic_ge hm dX5_stepElement_25 (tgt := 39) rfl (fun _ => ?_) (fun z => absurd c11 z)
      cases hf
      exact sx_ret hm dX5_stepElement_39 rfl
    · refine sb_ic_ge hm dX5_stepElement_25 (tgt := 39) rfl (fun z => absurd z c11) (fun _ => ?_)
      refine mx_S.pu (pc2 := 29) (lv2 := [(3, .int u6.1), (2, .int u4.1), (1, .int u2.1), (0, .ref a0)]) (st2 := [.ref a0]) hm dX5_stepElement_28 rfl ?_
      refine mx_S.pu (pc2 := 30) (lv2 := [(3, .int u6.1), (2, .int u4.1), (1, .int u2.1), (0, .ref a0)]) (st2 := [.ref a0, .ref a0]) hm dX5_stepElement_29 rfl ?_
      replace hf := mx_sv_el hf; obtain ⟨v7, e_v7, hf⟩ := hf
      refine sx_get hm dX5_stepElement_30 rs_RX5_23 (xgr_el e_v7) ?_
      clear e_v7
      refine mx_S.pu (pc2 := 34) (lv2 := [(3, .int u6.1), (2, .int u4.1), (1, .int u2.1), (0, .ref a0)]) (st2 := [.int u6.1, .ref v7, .ref a0]) hm dX5_stepElement_33 rfl ?_
      replace hf := mx_sv_el hf; obtain ⟨v8, e_v8, hf⟩ := hf
      refine sx_ald hm dX5_stepElement_34 e_v8 ?_
      clear e_v8
      refine sx_ic (v := 1) hm dX5_stepElement_35 (by decide) ?_
      replace hf := mx_gd_el hf; obtain ⟨c9, hf⟩ := hf
      replace hf := mx_sv_el hf; obtain ⟨u10, e_u10, hf⟩ := hf
      refine sx_cv hm dX5_stepElement_36 rs_RX5_145 mt_X5_give [.int v8, .int 1] [] (b := a0) (ci := 5) rfl rfl rfl c9 (Nat.le_of_ble_eq_true rfl) (Nat.le_of_ble_eq_true rfl) (by omega) (by omega) (f_X5_give_ok X (by omega) (by omega) nn a0 v8 1 u6.2 e_u10) ?_
      clear e_u10
      show mx_S X F L 165 39 [(3, .int u6.1), (2, .int u4.1), (1, .int u2.1), (0, .ref a0)] [] u10 0 0 (none, r, 0, 0)
      cases hf
      exact sx_ret hm dX5_stepElement_39 rfl
set_option maxHeartbeats 4000000 in
set_option maxRecDepth 20000 in
theorem j_X5_fieldCell_20_ok (X : Nat × (Nat → Int32)) {F L : Nat} (hF : 1 ≤ F) (hL : 21 ≤ L) (nn : Nat) (l2 : Int32) (s0 : Int32) (h : mx_H) {r : (Int32 × mx_H)} (hf : j_X5_fieldCell_20 nn l2 s0 h = some r) : mx_S X F L 167 20 [(2, .int l2)] [.int s0] h 0 0 (some (.int r.1), r.2, 0, 0) := by
  have hm : mx_mt 167 = some (yX5_fieldCell, cX5_fieldCell, 4, (some .int)) := mt_X5_fieldCell
  unfold j_X5_fieldCell_20 at hf
  refine mx_S.pu (pc2 := 21) (lv2 := [(3, .int s0), (2, .int l2)]) (st2 := []) hm dX5_fieldCell_20 rfl ?_
  refine mx_S.pu (pc2 := 22) (lv2 := [(3, .int s0), (2, .int l2)]) (st2 := [.int l2]) hm dX5_fieldCell_21 rfl ?_
  rcases mx_if_el hf with ⟨c2, hf⟩ | ⟨c2, hf⟩
  · refine sb_if_lt hm dX5_fieldCell_22 (tgt := 36) rfl (fun _ => ?_) (fun z => absurd c2 z)
    refine sx_ic (v := (-1)) hm dX5_fieldCell_36 (by decide) ?_
    cases hf
    exact sx_ire hm dX5_fieldCell_37 rfl rfl
  · refine sb_if_lt hm dX5_fieldCell_22 (tgt := 36) rfl (fun z => absurd z c2) (fun _ => ?_)
    refine mx_S.pu (pc2 := 26) (lv2 := [(3, .int s0), (2, .int l2)]) (st2 := [.int s0]) hm dX5_fieldCell_25 rfl ?_
    refine sx_si (v := 20000) hm dX5_fieldCell_26 (by decide) ?_
    rcases mx_if_el hf with ⟨c1, hf⟩ | ⟨c1, hf⟩
    · refine sb_ic_ge hm dX5_fieldCell_29 (tgt := 36) rfl (fun _ => ?_) (fun z => absurd c1 z)
      refine sx_ic (v := (-1)) hm dX5_fieldCell_36 (by decide) ?_
      cases hf
      exact sx_ire hm dX5_fieldCell_37 rfl rfl
    · refine sb_ic_ge hm dX5_fieldCell_29 (tgt := 36) rfl (fun z => absurd z c1) (fun _ => ?_)
      refine mx_S.pu (pc2 := 33) (lv2 := [(3, .int s0), (2, .int l2)]) (st2 := [.int s0]) hm dX5_fieldCell_32 rfl ?_
      refine mx_S.pu (pc2 := 37) (lv2 := [(3, .int s0), (2, .int l2)]) (st2 := [.int s0]) hm dX5_fieldCell_33 rfl ?_
      cases hf
      exact sx_ire hm dX5_fieldCell_37 rfl rfl
set_option maxHeartbeats 4000000 in
set_option maxRecDepth 20000 in
theorem f_X5_fieldCell_ok (X : Nat × (Nat → Int32)) {F L : Nat} (hF : 1 ≤ F) (hL : 21 ≤ L) (nn : Nat) (a0 : Nat) (a1 : Int32) (a2 : Int32) (h : mx_H) {r : (Int32 × mx_H)} (hf : f_X5_fieldCell nn a0 a1 a2 h = some r) : mx_R X F L 167 [.ref a0, .int a1, .int a2] h (some (.int r.1), r.2, 0, 0) := by
  have hm : mx_mt 167 = some (yX5_fieldCell, cX5_fieldCell, 4, (some .int)) := mt_X5_fieldCell
  show mx_S X F L 167 0 [(0, .ref a0), (1, .int a1), (2, .int a2)] [] h 0 0 (some (.int r.1), r.2, 0, 0)
  unfold f_X5_fieldCell at hf
  refine mx_S.pu (pc2 := 1) (lv2 := [(0, .ref a0), (1, .int a1), (2, .int a2)]) (st2 := [.ref a0]) hm dX5_fieldCell_0 rfl ?_
  refine mx_S.pu (pc2 := 2) (lv2 := [(0, .ref a0), (1, .int a1), (2, .int a2)]) (st2 := [.int a1, .ref a0]) hm dX5_fieldCell_1 rfl ?_
  replace hf := mx_gd_el hf; obtain ⟨c3, hf⟩ := hf
  replace hf := mx_sv_el hf; obtain ⟨u4, e_u4, hf⟩ := hf
  refine sx_cv hm dX5_fieldCell_2 rs_RX5_226 mt_X5_isObject [.int a1] [] (b := a0) (ci := 5) rfl rfl rfl c3 (Nat.le_of_ble_eq_true rfl) (Nat.le_of_ble_eq_true rfl) (by omega) (by omega) (f_X5_isObject_ok X (by omega) (by omega) nn a0 a1 h e_u4) ?_
  clear e_u4
  show mx_S X F L 167 5 [(0, .ref a0), (1, .int a1), (2, .int a2)] [.int u4.1] u4.2 0 0 (some (.int r.1), r.2, 0, 0)
  rcases mx_if_el hf with ⟨c8, hf⟩ | ⟨c8, hf⟩
  · refine sb_if_eq hm dX5_fieldCell_5 (tgt := 19) rfl (fun _ => ?_) (fun z => absurd c8 z)
    refine sx_ic (v := (-1)) hm dX5_fieldCell_19 (by decide) ?_
    refine mx_S.ext [(2, .int a2)] (mx_sub_pos [2] rfl (show ([0, 1, 2] : List Nat).Nodup by decide)) ?_
    exact j_X5_fieldCell_20_ok X hF hL nn a2 (-1) u4.2 hf
  · refine sb_if_eq hm dX5_fieldCell_5 (tgt := 19) rfl (fun z => absurd z c8) (fun _ => ?_)
    refine mx_S.pu (pc2 := 9) (lv2 := [(0, .ref a0), (1, .int a1), (2, .int a2)]) (st2 := [.ref a0]) hm dX5_fieldCell_8 rfl ?_
    replace hf := mx_sv_el hf; obtain ⟨v5, e_v5, hf⟩ := hf
    refine sx_get hm dX5_fieldCell_9 rs_RX5_20 (xgr_el e_v5) ?_
    clear e_v5
    refine mx_S.pu (pc2 := 13) (lv2 := [(0, .ref a0), (1, .int a1), (2, .int a2)]) (st2 := [.int a1, .ref v5]) hm dX5_fieldCell_12 rfl ?_
    replace hf := mx_sv_el hf; obtain ⟨v6, e_v6, hf⟩ := hf
    refine sx_ald hm dX5_fieldCell_13 e_v6 ?_
    clear e_v6
    refine mx_S.pu (pc2 := 15) (lv2 := [(0, .ref a0), (1, .int a1), (2, .int a2)]) (st2 := [.int a2, .int v6]) hm dX5_fieldCell_14 rfl ?_
    replace hf := xl_el hf; obtain ⟨v7, e_v7, hf⟩ := hf
    refine mx_S.pu (pc2 := 16) (lv2 := [(0, .ref a0), (1, .int a1), (2, .int a2)]) (st2 := [.int v7]) hm dX5_fieldCell_15 (by rw [← e_v7]; rfl) ?_
    clear e_v7
    refine mx_S.pu (pc2 := 20) (lv2 := [(0, .ref a0), (1, .int a1), (2, .int a2)]) (st2 := [.int v7]) hm dX5_fieldCell_16 rfl ?_
    refine mx_S.ext [(2, .int a2)] (mx_sub_pos [2] rfl (show ([0, 1, 2] : List Nat).Nodup by decide)) ?_
    exact j_X5_fieldCell_20_ok X hF hL nn a2 v7 u4.2 hf
