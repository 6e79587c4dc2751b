set_option maxHeartbeats 4000000 in
set_option maxRecDepth 20000 in
theorem f_X5_stepGiveField_ok (X : Nat × (Nat → Int32)) {F L : Nat} (hF : 2 ≤ F) (hL : 44 ≤ L) (nn : Nat) (a0 : Nat) (a1 : Int32) (h : mx_H) {r : mx_H} (hf : f_X5_stepGiveField nn a0 a1 h = some r) : mx_R X F L 169 [.ref a0, .int a1] h (none, r, 0, 0) := by
  have hm : mx_mt 169 = some (yX5_stepGiveField, cX5_stepGiveField, 5, none) := mt_X5_stepGiveField
  show mx_S X F L 169 0 [(0, .ref a0), (1, .int a1)] [] h 0 0 (none, r, 0, 0)
  unfold f_X5_stepGiveField at hf
  refine mx_S.pu (pc2 := 1) (lv2 := [(0, .ref a0), (1, .int a1)]) (st2 := [.ref a0]) hm dX5_stepGiveField_0 rfl ?_
  replace hf := mx_gd_el hf; obtain ⟨c1, hf⟩ := hf
  replace hf := mx_sv_el hf; obtain ⟨u2, e_u2, hf⟩ := hf
  refine sx_cv hm dX5_stepGiveField_1 rs_RX5_154 mt_X5_pop [] [] (b := a0) (ci := 5) rfl rfl rfl c1 (Nat.le_of_ble_eq_true rfl) (Nat.le_of_ble_eq_true rfl) (by omega) (by omega) (f_X5_pop_ok X (by omega) (by omega) nn a0 h e_u2) ?_
  clear e_u2
  show mx_S X F L 169 4 [(0, .ref a0), (1, .int a1)] [.int u2.1] u2.2 0 0 (none, r, 0, 0)
  refine mx_S.pu (pc2 := 5) (lv2 := [(2, .int u2.1), (0, .ref a0), (1, .int a1)]) (st2 := []) hm dX5_stepGiveField_4 rfl ?_
  refine mx_S.pu (pc2 := 6) (lv2 := [(2, .int u2.1), (0, .ref a0), (1, .int a1)]) (st2 := [.ref a0]) hm dX5_stepGiveField_5 rfl ?_
  replace hf := mx_gd_el hf; obtain ⟨c3, hf⟩ := hf
  replace hf := mx_sv_el hf; obtain ⟨u4, e_u4, hf⟩ := hf
  refine sx_cv hm dX5_stepGiveField_6 rs_RX5_154 mt_X5_pop [] [] (b := a0) (ci := 5) rfl rfl rfl c3 (Nat.le_of_ble_eq_true rfl) (Nat.le_of_ble_eq_true rfl) (by omega) (by omega) (f_X5_pop_ok X (by omega) (by omega) nn a0 u2.2 e_u4) ?_
  clear e_u4
  show mx_S X F L 169 9 [(2, .int u2.1), (0, .ref a0), (1, .int a1)] [.int u4.1] u4.2 0 0 (none, r, 0, 0)
  refine mx_S.pu (pc2 := 10) (lv2 := [(3, .int u4.1), (2, .int u2.1), (0, .ref a0), (1, .int a1)]) (st2 := []) hm dX5_stepGiveField_9 rfl ?_
  refine mx_S.pu (pc2 := 11) (lv2 := [(3, .int u4.1), (2, .int u2.1), (0, .ref a0), (1, .int a1)]) (st2 := [.ref a0]) hm dX5_stepGiveField_10 rfl ?_
  refine mx_S.pu (pc2 := 12) (lv2 := [(3, .int u4.1), (2, .int u2.1), (0, .ref a0), (1, .int a1)]) (st2 := [.int u4.1, .ref a0]) hm dX5_stepGiveField_11 rfl ?_
  refine mx_S.pu (pc2 := 13) (lv2 := [(3, .int u4.1), (2, .int u2.1), (0, .ref a0), (1, .int a1)]) (st2 := [.ref a0, .int u4.1, .ref a0]) hm dX5_stepGiveField_12 rfl ?_
  refine mx_S.pu (pc2 := 14) (lv2 := [(3, .int u4.1), (2, .int u2.1), (0, .ref a0), (1, .int a1)]) (st2 := [.int a1, .ref a0, .int u4.1, .ref a0]) hm dX5_stepGiveField_13 rfl ?_
  replace hf := mx_gd_el hf; obtain ⟨c5, hf⟩ := hf
  replace hf := mx_sv_el hf; obtain ⟨u6, e_u6, hf⟩ := hf
  refine sx_cv hm dX5_stepGiveField_14 rs_RX5_149 mt_X5_link [.int a1] [.int u4.1, .ref a0] (b := a0) (ci := 5) rfl rfl rfl c5 (Nat.le_of_ble_eq_true rfl) (Nat.le_of_ble_eq_true rfl) (by omega) (by omega) (f_X5_link_ok X (by omega) (by omega) nn a0 a1 u4.2 e_u6) ?_
  clear e_u6
  show mx_S X F L 169 17 [(3, .int u4.1), (2, .int u2.1), (0, .ref a0), (1, .int a1)] [.int u6.1, .int u4.1, .ref a0] u6.2 0 0 (none, r, 0, 0)
  replace hf := mx_gd_el hf; obtain ⟨c7, hf⟩ := hf
  replace hf := mx_sv_el hf; obtain ⟨u8, e_u8, hf⟩ := hf
  refine sx_cv hm dX5_stepGiveField_17 rs_RX5_243 mt_X5_fieldCell [.int u4.1, .int u6.1] [] (b := a0) (ci := 5) rfl rfl rfl c7 (Nat.le_of_ble_eq_true rfl) (Nat.le_of_ble_eq_true rfl) (by omega) (by omega) (f_X5_fieldCell_ok X (by omega) (by omega) nn a0 u4.1 u6.1 u6.2 e_u8) ?_
  clear e_u8
  show mx_S X F L 169 20 [(3, .int u4.1), (2, .int u2.1), (0, .ref a0), (1, .int a1)] [.int u8.1] u8.2 0 0 (none, r, 0, 0)
  refine mx_S.pu (pc2 := 22) (lv2 := [(4, .int u8.1), (3, .int u4.1), (2, .int u2.1), (0, .ref a0), (1, .int a1)]) (st2 := []) hm dX5_stepGiveField_20 rfl ?_
  refine mx_S.pu (pc2 := 24) (lv2 := [(4, .int u8.1), (3, .int u4.1), (2, .int u2.1), (0, .ref a0), (1, .int a1)]) (st2 := [.int u8.1]) hm dX5_stepGiveField_22 rfl ?_
  refine sx_ic (v := (-1)) hm dX5_stepGiveField_24 (by decide) ?_
  rcases mx_if_el hf with ⟨c14, hf⟩ | ⟨c14, hf⟩
  · refine sb_ic_ne hm dX5_stepGiveField_25 (tgt := 37) rfl (fun _ => ?_) (fun z => absurd c14 z)
    refine mx_S.pu (pc2 := 38) (lv2 := [(4, .int u8.1), (3, .int u4.1), (2, .int u2.1), (0, .ref a0), (1, .int a1)]) (st2 := [.ref a0]) hm dX5_stepGiveField_37 rfl ?_
    replace hf := mx_sv_el hf; obtain ⟨v9, e_v9, hf⟩ := hf
    refine sx_get hm dX5_stepGiveField_38 rs_RX5_23 (xgr_el e_v9) ?_
    clear e_v9
    refine mx_S.pu (pc2 := 43) (lv2 := [(4, .int u8.1), (3, .int u4.1), (2, .int u2.1), (0, .ref a0), (1, .int a1)]) (st2 := [.int u8.1, .ref v9]) hm dX5_stepGiveField_41 rfl ?_
    refine mx_S.pu (pc2 := 44) (lv2 := [(4, .int u8.1), (3, .int u4.1), (2, .int u2.1), (0, .ref a0), (1, .int a1)]) (st2 := [.int u2.1, .int u8.1, .ref v9]) hm dX5_stepGiveField_43 rfl ?_
    replace hf := mx_sv_el hf; obtain ⟨h10, e_h10, hf⟩ := hf
    refine sx_ast hm dX5_stepGiveField_44 e_h10 ?_
    clear e_h10
    refine mx_S.pu (pc2 := 46) (lv2 := [(4, .int u8.1), (3, .int u4.1), (2, .int u2.1), (0, .ref a0), (1, .int a1)]) (st2 := [.ref a0]) hm dX5_stepGiveField_45 rfl ?_
    refine sx_ic (v := 2) hm dX5_stepGiveField_46 (by decide) ?_
    replace hf := mx_gd_el hf; obtain ⟨c11, hf⟩ := hf
    replace hf := mx_sv_el hf; obtain ⟨u12, e_u12, hf⟩ := hf
    refine sx_cv hm dX5_stepGiveField_47 rs_RX5_138 mt_X5_goOn [.int 2] [] (b := a0) (ci := 5) rfl rfl rfl c11 (Nat.le_of_ble_eq_true rfl) (Nat.le_of_ble_eq_true rfl) (by omega) (by omega) (f_X5_goOn_ok X (by omega) (by omega) nn a0 2 h10 e_u12) ?_
    clear e_u12
    show mx_S X F L 169 50 [(4, .int u8.1), (3, .int u4.1), (2, .int u2.1), (0, .ref a0), (1, .int a1)] [] u12 0 0 (none, r, 0, 0)
    cases hf
    exact sx_ret hm dX5_stepGiveField_50 rfl
  · refine sb_ic_ne hm dX5_stepGiveField_25 (tgt := 37) rfl (fun z => absurd z c14) (fun _ => ?_)
    refine mx_S.pu (pc2 := 29) (lv2 := [(4, .int u8.1), (3, .int u4.1), (2, .int u2.1), (0, .ref a0), (1, .int a1)]) (st2 := [.ref a0]) hm dX5_stepGiveField_28 rfl ?_
    refine sx_bi (v := (-2)) hm dX5_stepGiveField_29 (by decide) ?_
    replace hf := mx_sv_el hf; obtain ⟨h13, e_h13, hf⟩ := hf
    refine sx_put hm dX5_stepGiveField_31 rs_RX5_86 ft_5_20 ⟨rfl, rfl⟩ (fun z => by cases z) e_h13 ?_
    clear e_h13
    refine mx_S.pu (pc2 := 50) (lv2 := [(4, .int u8.1), (3, .int u4.1), (2, .int u2.1), (0, .ref a0), (1, .int a1)]) (st2 := []) hm dX5_stepGiveField_34 rfl ?_
    cases hf
    exact sx_ret hm dX5_stepGiveField_50 rfl
set_option maxHeartbeats 4000000 in
set_option maxRecDepth 20000 in
theorem j_X5_stepKin_74_ok (X : Nat × (Nat → Int32)) {F L : Nat} (hF : 2 ≤ F) (hL : 44 ≤ L) (nn : Nat) (l0 : Nat) (l3 : Int32) (h : mx_H) {r : mx_H} (hf : j_X5_stepKin_74 nn l0 l3 h = some r) : mx_S X F L 177 74 [(0, .ref l0), (3, .int l3)] [] h 0 0 (none, r, 0, 0) := by
  have hm : mx_mt 177 = some (yX5_stepKin, cX5_stepKin, 5, none) := mt_X5_stepKin
  unfold j_X5_stepKin_74 at hf
  refine mx_S.pu (pc2 := 75) (lv2 := [(0, .ref l0), (3, .int l3)]) (st2 := [.ref l0]) hm dX5_stepKin_74 rfl ?_
  refine mx_S.pu (pc2 := 76) (lv2 := [(0, .ref l0), (3, .int l3)]) (st2 := [.int l3, .ref l0]) hm dX5_stepKin_75 rfl ?_
  refine sx_ic (v := 2) hm dX5_stepKin_76 (by decide) ?_
  replace hf := mx_gd_el hf; obtain ⟨c1, hf⟩ := hf
  replace hf := mx_sv_el hf; obtain ⟨u2, e_u2, hf⟩ := hf
  refine sx_cv hm dX5_stepKin_77 rs_RX5_145 mt_X5_give [.int l3, .int 2] [] (b := l0) (ci := 5) rfl rfl rfl c1 (Nat.le_of_ble_eq_true rfl) (Nat.le_of_ble_eq_true rfl) (by omega) (by omega) (f_X5_give_ok X (by omega) (by omega) nn l0 l3 2 h e_u2) ?_
  clear e_u2
  show mx_S X F L 177 80 [(0, .ref l0), (3, .int l3)] [] u2 0 0 (none, r, 0, 0)
  refine mx_S.pu (pc2 := 89) (lv2 := [(0, .ref l0), (3, .int l3)]) (st2 := []) hm dX5_stepKin_80 rfl ?_
  cases hf
  exact sx_ret hm dX5_stepKin_89 rfl
set_option maxHeartbeats 4000000 in
set_option maxRecDepth 20000 in
theorem j_X5_stepKin_58_ok (X : Nat × (Nat → Int32)) {F L : Nat} (hF : 2 ≤ F) (hL : 44 ≤ L) (nn : Nat) (s0 : Int32) (s1 : Nat) (h : mx_H) {r : mx_H} (hf : j_X5_stepKin_58 nn s0 s1 h = some r) : mx_S X F L 177 58 [] [.int s0, .ref s1] h 0 0 (none, r, 0, 0) := by
  have hm : mx_mt 177 = some (yX5_stepKin, cX5_stepKin, 5, none) := mt_X5_stepKin
  unfold j_X5_stepKin_58 at hf
  refine sx_ic (v := 2) hm dX5_stepKin_58 (by decide) ?_
  replace hf := mx_gd_el hf; obtain ⟨c3, hf⟩ := hf
  replace hf := mx_sv_el hf; obtain ⟨u4, e_u4, hf⟩ := hf
  refine sx_cv hm dX5_stepKin_59 rs_RX5_145 mt_X5_give [.int s0, .int 2] [] (b := s1) (ci := 5) rfl rfl rfl c3 (Nat.le_of_ble_eq_true rfl) (Nat.le_of_ble_eq_true rfl) (by omega) (by omega) (f_X5_give_ok X (by omega) (by omega) nn s1 s0 2 h e_u4) ?_
  clear e_u4
  show mx_S X F L 177 62 [] [] u4 0 0 (none, r, 0, 0)
  refine mx_S.pu (pc2 := 89) (lv2 := []) (st2 := []) hm dX5_stepKin_62 rfl ?_
  cases hf
  exact sx_ret hm dX5_stepKin_89 rfl
set_option maxHeartbeats 4000000 in
set_option maxRecDepth 20000 in
theorem j_X5_stepKin_38_ok (X : Nat × (Nat → Int32)) {F L : Nat} (hF : 2 ≤ F) (hL : 44 ≤ L) (nn : Nat) (l0 : Nat) (l1 : Int32) (l3 : Int32) (s0 : Int32) (h : mx_H) {r : mx_H} (hf : j_X5_stepKin_38 nn l0 l1 l3 s0 h = some r) : mx_S X F L 177 38 [(0, .ref l0), (1, .int l1), (3, .int l3)] [.int s0] h 0 0 (none, r, 0, 0) := by
  have hm : mx_mt 177 = some (yX5_stepKin, cX5_stepKin, 5, none) := mt_X5_stepKin
  unfold j_X5_stepKin_38 at hf
  refine mx_S.pu (pc2 := 40) (lv2 := [(4, .int s0), (0, .ref l0), (1, .int l1), (3, .int l3)]) (st2 := []) hm dX5_stepKin_38 rfl ?_
  refine mx_S.pu (pc2 := 41) (lv2 := [(4, .int s0), (0, .ref l0), (1, .int l1), (3, .int l3)]) (st2 := [.int l1]) hm dX5_stepKin_40 rfl ?_
  refine sx_si (v := 193) hm dX5_stepKin_41 (by decide) ?_
  rcases mx_if_el hf with ⟨c9, hf⟩ | ⟨c9, hf⟩
  · refine sb_ic_ne hm dX5_stepKin_44 (tgt := 65) rfl (fun _ => ?_) (fun z => absurd c9 z)
    refine mx_S.pu (pc2 := 66) (lv2 := [(4, .int s0), (0, .ref l0), (1, .int l1), (3, .int l3)]) (st2 := [.int l3]) hm dX5_stepKin_65 rfl ?_
    rcases mx_if_el hf with ⟨c7, hf⟩ | ⟨c7, hf⟩
    · refine sb_if_eq hm dX5_stepKin_66 (tgt := 74) rfl (fun _ => ?_) (fun z => absurd c7 z)
      refine mx_S.ext [(0, .ref l0), (3, .int l3)] (mx_sub_pos [1, 3] rfl (show ([4, 0, 1, 3] : List Nat).Nodup by decide)) ?_
      exact j_X5_stepKin_74_ok X hF hL nn l0 l3 h hf
    · refine sb_if_eq hm dX5_stepKin_66 (tgt := 74) rfl (fun z => absurd z c7) (fun _ => ?_)
      refine mx_S.pu (pc2 := 71) (lv2 := [(4, .int s0), (0, .ref l0), (1, .int l1), (3, .int l3)]) (st2 := [.int s0]) hm dX5_stepKin_69 rfl ?_
      rcases mx_if_el hf with ⟨c6, hf⟩ | ⟨c6, hf⟩
      · refine sb_if_eq hm dX5_stepKin_71 (tgt := 83) rfl (fun _ => ?_) (fun z => absurd c6 z)
        refine mx_S.pu (pc2 := 84) (lv2 := [(4, .int s0), (0, .ref l0), (1, .int l1), (3, .int l3)]) (st2 := [.ref l0]) hm dX5_stepKin_83 rfl ?_
        refine sx_bi (v := (-5)) hm dX5_stepKin_84 (by decide) ?_
        replace hf := mx_sv_el hf; obtain ⟨h5, e_h5, hf⟩ := hf
        refine sx_put hm dX5_stepKin_86 rs_RX5_86 ft_5_20 ⟨rfl, rfl⟩ (fun z => by cases z) e_h5 ?_
        clear e_h5
        cases hf
        exact sx_ret hm dX5_stepKin_89 rfl
      · refine sb_if_eq hm dX5_stepKin_71 (tgt := 83) rfl (fun z => absurd z c6) (fun _ => ?_)
        refine mx_S.ext [(0, .ref l0), (3, .int l3)] (mx_sub_pos [1, 3] rfl (show ([4, 0, 1, 3] : List Nat).Nodup by decide)) ?_
        exact j_X5_stepKin_74_ok X hF hL nn l0 l3 h hf
  · refine sb_ic_ne hm dX5_stepKin_44 (tgt := 65) rfl (fun z => absurd z c9) (fun _ => ?_)
    refine mx_S.pu (pc2 := 48) (lv2 := [(4, .int s0), (0, .ref l0), (1, .int l1), (3, .int l3)]) (st2 := [.ref l0]) hm dX5_stepKin_47 rfl ?_
    refine mx_S.pu (pc2 := 50) (lv2 := [(4, .int s0), (0, .ref l0), (1, .int l1), (3, .int l3)]) (st2 := [.int s0, .ref l0]) hm dX5_stepKin_48 rfl ?_
    rcases mx_if_el hf with ⟨c8, hf⟩ | ⟨c8, hf⟩
    · refine sb_if_eq hm dX5_stepKin_50 (tgt := 57) rfl (fun _ => ?_) (fun z => absurd c8 z)
      refine sx_ic (v := 0) hm dX5_stepKin_57 (by decide) ?_
      refine mx_S.ext [] (mx_sub_pos [] rfl (show ([4, 0, 1, 3] : List Nat).Nodup by decide)) ?_
      exact j_X5_stepKin_58_ok X hF hL nn 0 l0 h hf
    · refine sb_if_eq hm dX5_stepKin_50 (tgt := 57) rfl (fun z => absurd z c8) (fun _ => ?_)
      refine sx_ic (v := 1) hm dX5_stepKin_53 (by decide) ?_
      refine mx_S.pu (pc2 := 58) (lv2 := [(4, .int s0), (0, .ref l0), (1, .int l1), (3, .int l3)]) (st2 := [.int 1, .ref l0]) hm dX5_stepKin_54 rfl ?_
      refine mx_S.ext [] (mx_sub_pos [] rfl (show ([4, 0, 1, 3] : List Nat).Nodup by decide)) ?_
      exact j_X5_stepKin_58_ok X hF hL nn 1 l0 h hf
set_option maxHeartbeats 4000000 in
set_option maxRecDepth 20000 in
theorem j_X5_stepKin_37_ok (X : Nat × (Nat → Int32)) {F L : Nat} (hF : 2 ≤ F) (hL : 44 ≤ L) (nn : Nat) (l0 : Nat) (l1 : Int32) (l3 : Int32) (h : mx_H) {r : mx_H} (hf : j_X5_stepKin_37 nn l0 l1 l3 h = some r) : mx_S X F L 177 37 [(0, .ref l0), (1, .int l1), (3, .int l3)] [] h 0 0 (none, r, 0, 0) := by
  have hm : mx_mt 177 = some (yX5_stepKin, cX5_stepKin, 5, none) := mt_X5_stepKin
  unfold j_X5_stepKin_37 at hf
  refine sx_ic (v := 0) hm dX5_stepKin_37 (by decide) ?_
  exact j_X5_stepKin_38_ok X hF hL nn l0 l1 l3 0 h hf
set_option maxHeartbeats 4000000 in
set_option maxRecDepth 20000 in
theorem f_X5_stepKin_ok (X : Nat × (Nat → Int32)) {F L : Nat} (hF : 2 ≤ F) (hL : 44 ≤ L) (nn : Nat) (a0 : Nat) (a1 : Int32) (a2 : Int32) (h : mx_H) {r : mx_H} (hf : f_X5_stepKin nn a0 a1 a2 h = some r) : mx_R X F L 177 [.ref a0, .int a1, .int a2] h (none, r, 0, 0) := by
  have hm : mx_mt 177 = some (yX5_stepKin, cX5_stepKin, 5, none) := mt_X5_stepKin
  show mx_S X F L 177 0 [(0, .ref a0), (1, .int a1), (2, .int a2)] [] h 0 0 (none, r, 0, 0)
  unfold f_X5_stepKin at hf
  refine mx_S.pu (pc2 := 1) (lv2 := [(0, .ref a0), (1, .int a1), (2, .int a2)]) (st2 := [.ref a0]) hm dX5_stepKin_0 rfl ?_
  replace hf := mx_gd_el hf; obtain ⟨c10, hf⟩ := hf
  replace hf := mx_sv_el hf; obtain ⟨u11, e_u11, hf⟩ := hf
  refine sx_cv hm dX5_stepKin_1 rs_RX5_154 mt_X5_pop [] [] (b := a0) (ci := 5) rfl rfl rfl c10 (Nat.le_of_ble_eq_true rfl) (Nat.le_of_ble_eq_true rfl) (by omega) (by omega) (f_X5_pop_ok X (by omega) (by omega) nn a0 h e_u11) ?_
  clear e_u11
  show mx_S X F L 177 4 [(0, .ref a0), (1, .int a1), (2, .int a2)] [.int u11.1] u11.2 0 0 (none, r, 0, 0)
  refine mx_S.pu (pc2 := 5) (lv2 := [(3, .int u11.1), (0, .ref a0), (1, .int a1), (2, .int a2)]) (st2 := []) hm dX5_stepKin_4 rfl ?_
  refine mx_S.pu (pc2 := 6) (lv2 := [(3, .int u11.1), (0, .ref a0), (1, .int a1), (2, .int a2)]) (st2 := [.ref a0]) hm dX5_stepKin_5 rfl ?_
  refine mx_S.pu (pc2 := 7) (lv2 := [(3, .int u11.1), (0, .ref a0), (1, .int a1), (2, .int a2)]) (st2 := [.int u11.1, .ref a0]) hm dX5_stepKin_6 rfl ?_
  replace hf := mx_gd_el hf; obtain ⟨c12, hf⟩ := hf
  replace hf := mx_sv_el hf; obtain ⟨u13, e_u13, hf⟩ := hf
  refine sx_cv hm dX5_stepKin_7 rs_RX5_226 mt_X5_isObject [.int u11.1] [] (b := a0) (ci := 5) rfl rfl rfl c12 (Nat.le_of_ble_eq_true rfl) (Nat.le_of_ble_eq_true rfl) (by omega) (by omega) (f_X5_isObject_ok X (by omega) (by omega) nn a0 u11.1 u11.2 e_u13) ?_
  clear e_u13
  show mx_S X F L 177 10 [(3, .int u11.1), (0, .ref a0), (1, .int a1), (2, .int a2)] [.int u13.1] u13.2 0 0 (none, r, 0, 0)
  rcases mx_if_el hf with ⟨c21, hf⟩ | ⟨c21, hf⟩
  · refine sb_if_eq hm dX5_stepKin_10 (tgt := 37) rfl (fun _ => ?_) (fun z => absurd c21 z)
    refine mx_S.ext [(0, .ref a0), (1, .int a1), (3, .int u11.1)] (mx_sub_pos [1, 2, 0] rfl (show ([3, 0, 1, 2] : List Nat).Nodup by decide)) ?_
    exact j_X5_stepKin_37_ok X hF hL nn a0 a1 u11.1 u13.2 hf
  · refine sb_if_eq hm dX5_stepKin_10 (tgt := 37) rfl (fun z => absurd z c21) (fun _ => ?_)
    refine mx_S.pu (pc2 := 14) (lv2 := [(3, .int u11.1), (0, .ref a0), (1, .int a1), (2, .int a2)]) (st2 := [.ref a0]) hm dX5_stepKin_13 rfl ?_
    replace hf := mx_sv_el hf; obtain ⟨v14, e_v14, hf⟩ := hf
    refine sx_get hm dX5_stepKin_14 rs_RX5_41 (xgr_el e_v14) ?_
    clear e_v14
    replace hf := mx_sv_el hf; obtain ⟨v15, e_v15, hf⟩ := hf
    refine sx_get hm dX5_stepKin_17 rs_RX5_232 (xgr_el e_v15) ?_
    clear e_v15
    refine mx_S.pu (pc2 := 21) (lv2 := [(3, .int u11.1), (0, .ref a0), (1, .int a1), (2, .int a2)]) (st2 := [.ref a0, .ref v15]) hm dX5_stepKin_20 rfl ?_
    replace hf := mx_sv_el hf; obtain ⟨v16, e_v16, hf⟩ := hf
    refine sx_get hm dX5_stepKin_21 rs_RX5_17 (xgr_el e_v16) ?_
    clear e_v16
    refine mx_S.pu (pc2 := 25) (lv2 := [(3, .int u11.1), (0, .ref a0), (1, .int a1), (2, .int a2)]) (st2 := [.int u11.1, .ref v16, .ref v15]) hm dX5_stepKin_24 rfl ?_
    replace hf := mx_sv_el hf; obtain ⟨v17, e_v17, hf⟩ := hf
    refine sx_ald hm dX5_stepKin_25 e_v17 ?_
    clear e_v17
    refine mx_S.pu (pc2 := 27) (lv2 := [(3, .int u11.1), (0, .ref a0), (1, .int a1), (2, .int a2)]) (st2 := [.int a2, .int v17, .ref v15]) hm dX5_stepKin_26 rfl ?_
    replace hf := mx_gd_el hf; obtain ⟨c18, hf⟩ := hf
    replace hf := mx_sv_el hf; obtain ⟨u19, e_u19, hf⟩ := hf
    refine sx_cv hm dX5_stepKin_27 rs_RX5_239 mt_X4_fits [.int v17, .int a2] [] (b := v15) (ci := 4) rfl rfl rfl c18 (Nat.le_of_ble_eq_true rfl) (Nat.le_of_ble_eq_true rfl) (by omega) (by omega) (f_X4_fits_ok X (by omega) (by omega) nn v15 v17 a2 u13.2 e_u19) ?_
    clear e_u19
    show mx_S X F L 177 30 [(3, .int u11.1), (0, .ref a0), (1, .int a1), (2, .int a2)] [.int u19.1] u19.2 0 0 (none, r, 0, 0)
    rcases mx_if_el hf with ⟨c20, hf⟩ | ⟨c20, hf⟩
    · refine sb_if_eq hm dX5_stepKin_30 (tgt := 37) rfl (fun _ => ?_) (fun z => absurd c20 z)
      refine mx_S.ext [(0, .ref a0), (1, .int a1), (3, .int u11.1)] (mx_sub_pos [1, 2, 0] rfl (show ([3, 0, 1, 2] : List Nat).Nodup by decide)) ?_
      exact j_X5_stepKin_37_ok X hF hL nn a0 a1 u11.1 u19.2 hf
    · refine sb_if_eq hm dX5_stepKin_30 (tgt := 37) rfl (fun z => absurd z c20) (fun _ => ?_)
      refine sx_ic (v := 1) hm dX5_stepKin_33 (by decide) ?_
      refine mx_S.pu (pc2 := 38) (lv2 := [(3, .int u11.1), (0, .ref a0), (1, .int a1), (2, .int a2)]) (st2 := [.int 1]) hm dX5_stepKin_34 rfl ?_
      refine mx_S.ext [(0, .ref a0), (1, .int a1), (3, .int u11.1)] (mx_sub_pos [1, 2, 0] rfl (show ([3, 0, 1, 2] : List Nat).Nodup by decide)) ?_
      exact j_X5_stepKin_38_ok X hF hL nn a0 a1 u11.1 1 u19.2 hf
set_option maxHeartbeats 4000000 in
set_option maxRecDepth 20000 in
theorem f_X5_stepLength_ok (X : Nat × (Nat → Int32)) {F L : Nat} (hF : 2 ≤ F) (hL : 44 ≤ L) (nn : Nat) (a0 : Nat) (h : mx_H) {r : mx_H} (hf : f_X5_stepLength nn a0 h = some r) : mx_R X F L 176 [.ref a0] h (none, r, 0, 0) := by
  have hm : mx_mt 176 = some (yX5_stepLength, cX5_stepLength, 2, none) := mt_X5_stepLength
  show mx_S X F L 176 0 [(0, .ref a0)] [] h 0 0 (none, r, 0, 0)
  unfold f_X5_stepLength at hf
  refine mx_S.pu (pc2 := 1) (lv2 := [(0, .ref a0)]) (st2 := [.ref a0]) hm dX5_stepLength_0 rfl ?_
  replace hf := mx_gd_el hf; obtain ⟨c1, hf⟩ := hf
  replace hf := mx_sv_el hf; obtain ⟨u2, e_u2, hf⟩ := hf
  refine sx_cv hm dX5_stepLength_1 rs_RX5_154 mt_X5_pop [] [] (b := a0) (ci := 5) rfl rfl rfl c1 (Nat.le_of_ble_eq_true rfl) (Nat.le_of_ble_eq_true rfl) (by omega) (by omega) (f_X5_pop_ok X (by omega) (by omega) nn a0 h e_u2) ?_
  clear e_u2
  show mx_S X F L 176 4 [(0, .ref a0)] [.int u2.1] u2.2 0 0 (none, r, 0, 0)
  refine mx_S.pu (pc2 := 5) (lv2 := [(1, .int u2.1), (0, .ref a0)]) (st2 := []) hm dX5_stepLength_4 rfl ?_
  refine mx_S.pu (pc2 := 6) (lv2 := [(1, .int u2.1), (0, .ref a0)]) (st2 := [.ref a0]) hm dX5_stepLength_5 rfl ?_
  refine mx_S.pu (pc2 := 7) (lv2 := [(1, .int u2.1), (0, .ref a0)]) (st2 := [.int u2.1, .ref a0]) hm dX5_stepLength_6 rfl ?_
  replace hf := mx_gd_el hf; obtain ⟨c3, hf⟩ := hf
  replace hf := mx_sv_el hf; obtain ⟨u4, e_u4, hf⟩ := hf
  refine sx_cv hm dX5_stepLength_7 rs_RX5_226 mt_X5_isObject [.int u2.1] [] (b := a0) (ci := 5) rfl rfl rfl c3 (Nat.le_of_ble_eq_true rfl) (Nat.le_of_ble_eq_true rfl) (by omega) (by omega) (f_X5_isObject_ok X (by omega) (by omega) nn a0 u2.1 u2.2 e_u4) ?_
  clear e_u4
  show mx_S X F L 176 10 [(1, .int u2.1), (0, .ref a0)] [.int u4.1] u4.2 0 0 (none, r, 0, 0)
  rcases mx_if_el hf with ⟨c14, hf⟩ | ⟨c14, hf⟩
  · refine sb_if_eq hm dX5_stepLength_10 (tgt := 36) rfl (fun _ => ?_) (fun z => absurd c14 z)
    refine mx_S.pu (pc2 := 37) (lv2 := [(1, .int u2.1), (0, .ref a0)]) (st2 := [.ref a0]) hm dX5_stepLength_36 rfl ?_
    refine sx_bi (v := (-2)) hm dX5_stepLength_37 (by decide) ?_
    replace hf := mx_sv_el hf; obtain ⟨h5, e_h5, hf⟩ := hf
    refine sx_put hm dX5_stepLength_39 rs_RX5_86 ft_5_20 ⟨rfl, rfl⟩ (fun z => by cases z) e_h5 ?_
    clear e_h5
    cases hf
    exact sx_ret hm dX5_stepLength_42 rfl
  · refine sb_if_eq hm dX5_stepLength_10 (tgt := 36) rfl (fun z => absurd z c14) (fun _ => ?_)
    refine mx_S.pu (pc2 := 14) (lv2 := [(1, .int u2.1), (0, .ref a0)]) (st2 := [.ref a0]) hm dX5_stepLength_13 rfl ?_
    refine mx_S.pu (pc2 := 15) (lv2 := [(1, .int u2.1), (0, .ref a0)]) (st2 := [.ref a0, .ref a0]) hm dX5_stepLength_14 rfl ?_
    replace hf := mx_sv_el hf; obtain ⟨v6, e_v6, hf⟩ := hf
    refine sx_get hm dX5_stepLength_15 rs_RX5_20 (xgr_el e_v6) ?_
    clear e_v6
    refine mx_S.pu (pc2 := 19) (lv2 := [(1, .int u2.1), (0, .ref a0)]) (st2 := [.int u2.1, .ref v6, .ref a0]) hm dX5_stepLength_18 rfl ?_
    refine sx_ic (v := 1) hm dX5_stepLength_19 (by decide) ?_
    replace hf := xl_el hf; obtain ⟨v7, e_v7, hf⟩ := hf
    refine mx_S.pu (pc2 := 21) (lv2 := [(1, .int u2.1), (0, .ref a0)]) (st2 := [.int v7, .ref v6, .ref a0]) hm dX5_stepLength_20 (by rw [← e_v7]; rfl) ?_
    clear e_v7
    replace hf := mx_sv_el hf; obtain ⟨v8, e_v8, hf⟩ := hf
    refine sx_ald hm dX5_stepLength_21 e_v8 ?_
    clear e_v8
    refine mx_S.pu (pc2 := 23) (lv2 := [(1, .int u2.1), (0, .ref a0)]) (st2 := [.ref a0, .int v8, .ref a0]) hm dX5_stepLength_22 rfl ?_
    replace hf := mx_sv_el hf; obtain ⟨v9, e_v9, hf⟩ := hf
    refine sx_get hm dX5_stepLength_23 rs_RX5_20 (xgr_el e_v9) ?_
    clear e_v9
    refine mx_S.pu (pc2 := 27) (lv2 := [(1, .int u2.1), (0, .ref a0)]) (st2 := [.int u2.1, .ref v9, .int v8, .ref a0]) hm dX5_stepLength_26 rfl ?_
    replace hf := mx_sv_el hf; obtain ⟨v10, e_v10, hf⟩ := hf
    refine sx_ald hm dX5_stepLength_27 e_v10 ?_
    clear e_v10
    replace hf := xl_el hf; obtain ⟨v11, e_v11, hf⟩ := hf
    refine mx_S.pu (pc2 := 29) (lv2 := [(1, .int u2.1), (0, .ref a0)]) (st2 := [.int v11, .ref a0]) hm dX5_stepLength_28 (by rw [← e_v11]; rfl) ?_
    clear e_v11
    refine sx_ic (v := 1) hm dX5_stepLength_29 (by decide) ?_
    replace hf := mx_gd_el hf; obtain ⟨c12, hf⟩ := hf
    replace hf := mx_sv_el hf; obtain ⟨u13, e_u13, hf⟩ := hf
    refine sx_cv hm dX5_stepLength_30 rs_RX5_145 mt_X5_give [.int v11, .int 1] [] (b := a0) (ci := 5) rfl rfl rfl c12 (Nat.le_of_ble_eq_true rfl) (Nat.le_of_ble_eq_true rfl) (by omega) (by omega) (f_X5_give_ok X (by omega) (by omega) nn a0 v11 1 u4.2 e_u13) ?_
    clear e_u13
    show mx_S X F L 176 33 [(1, .int u2.1), (0, .ref a0)] [] u13 0 0 (none, r, 0, 0)
    refine mx_S.pu (pc2 := 42) (lv2 := [(1, .int u2.1), (0, .ref a0)]) (st2 := []) hm dX5_stepLength_33 rfl ?_
    cases hf
    exact sx_ret hm dX5_stepLength_42 rfl
set_option maxHeartbeats 4000000 in
set_option maxRecDepth 20000 in
theorem f_X5_stepNewArray_ok (X : Nat × (Nat → Int32)) {F L : Nat} (hF : 4 ≤ F) (hL : 91 ≤ L) (nn : Nat) (a0 : Nat) (a1 : Int32) (h : mx_H) {r : mx_H} (hf : f_X5_stepNewArray nn a0 a1 h = some r) : mx_R X F L 175 [.ref a0, .int a1] h (none, r, 0, 0) := by
  have hm : mx_mt 175 = some (yX5_stepNewArray, cX5_stepNewArray, 3, none) := mt_X5_stepNewArray
  show mx_S X F L 175 0 [(0, .ref a0), (1, .int a1)] [] h 0 0 (none, r, 0, 0)
  unfold f_X5_stepNewArray at hf
  refine mx_S.pu (pc2 := 1) (lv2 := [(0, .ref a0), (1, .int a1)]) (st2 := [.ref a0]) hm dX5_stepNewArray_0 rfl ?_
  replace hf := mx_gd_el hf; obtain ⟨c1, hf⟩ := hf
  replace hf := mx_sv_el hf; obtain ⟨u2, e_u2, hf⟩ := hf
  refine sx_cv hm dX5_stepNewArray_1 rs_RX5_154 mt_X5_pop [] [] (b := a0) (ci := 5) rfl rfl rfl c1 (Nat.le_of_ble_eq_true rfl) (Nat.le_of_ble_eq_true rfl) (by omega) (by omega) (f_X5_pop_ok X (by omega) (by omega) nn a0 h e_u2) ?_
  clear e_u2
  show mx_S X F L 175 4 [(0, .ref a0), (1, .int a1)] [.int u2.1] u2.2 0 0 (none, r, 0, 0)
  refine mx_S.pu (pc2 := 5) (lv2 := [(2, .int u2.1), (0, .ref a0), (1, .int a1)]) (st2 := []) hm dX5_stepNewArray_4 rfl ?_
  refine mx_S.pu (pc2 := 6) (lv2 := [(2, .int u2.1), (0, .ref a0), (1, .int a1)]) (st2 := [.int u2.1]) hm dX5_stepNewArray_5 rfl ?_
  rcases mx_if_el hf with ⟨c6, hf⟩ | ⟨c6, hf⟩
  · refine sb_if_ge hm dX5_stepNewArray_6 (tgt := 18) rfl (fun _ => ?_) (fun z => absurd c6 z)
    refine mx_S.pu (pc2 := 19) (lv2 := [(2, .int u2.1), (0, .ref a0), (1, .int a1)]) (st2 := [.ref a0]) hm dX5_stepNewArray_18 rfl ?_
    refine mx_S.pu (pc2 := 20) (lv2 := [(2, .int u2.1), (0, .ref a0), (1, .int a1)]) (st2 := [.int a1, .ref a0]) hm dX5_stepNewArray_19 rfl ?_
    refine mx_S.pu (pc2 := 21) (lv2 := [(2, .int u2.1), (0, .ref a0), (1, .int a1)]) (st2 := [.int u2.1, .int a1, .ref a0]) hm dX5_stepNewArray_20 rfl ?_
    replace hf := mx_gd_el hf; obtain ⟨c3, hf⟩ := hf
    replace hf := mx_sv_el hf; obtain ⟨u4, e_u4, hf⟩ := hf
    refine sx_cv hm dX5_stepNewArray_21 rs_RX5_211 mt_X5_giveNew [.int a1, .int u2.1] [] (b := a0) (ci := 5) rfl rfl rfl c3 (Nat.le_of_ble_eq_true rfl) (Nat.le_of_ble_eq_true rfl) (by omega) (by omega) (f_X5_giveNew_ok X (by omega) (by omega) nn a0 a1 u2.1 u2.2 e_u4) ?_
    clear e_u4
    show mx_S X F L 175 24 [(2, .int u2.1), (0, .ref a0), (1, .int a1)] [] u4 0 0 (none, r, 0, 0)
    cases hf
    exact sx_ret hm dX5_stepNewArray_24 rfl
  · refine sb_if_ge hm dX5_stepNewArray_6 (tgt := 18) rfl (fun z => absurd z c6) (fun _ => ?_)
    refine mx_S.pu (pc2 := 10) (lv2 := [(2, .int u2.1), (0, .ref a0), (1, .int a1)]) (st2 := [.ref a0]) hm dX5_stepNewArray_9 rfl ?_
    refine sx_bi (v := (-6)) hm dX5_stepNewArray_10 (by decide) ?_
    replace hf := mx_sv_el hf; obtain ⟨h5, e_h5, hf⟩ := hf
    refine sx_put hm dX5_stepNewArray_12 rs_RX5_86 ft_5_20 ⟨rfl, rfl⟩ (fun z => by cases z) e_h5 ?_
    clear e_h5
    refine mx_S.pu (pc2 := 24) (lv2 := [(2, .int u2.1), (0, .ref a0), (1, .int a1)]) (st2 := []) hm dX5_stepNewArray_15 rfl ?_
    cases hf
    exact sx_ret hm dX5_stepNewArray_24 rfl
set_option maxHeartbeats 4000000 in
set_option maxRecDepth 20000 in
theorem j_X5_stepPrint_25_ok (X : Nat × (Nat → Int32)) {F L : Nat} (hF : 1 ≤ F) (hL : 21 ≤ L) (nn : Nat) (l0 : Nat) (h : mx_H) {r : mx_H} (hf : j_X5_stepPrint_25 nn l0 h = some r) : mx_S X F L 172 25 [(0, .ref l0)] [] h 0 0 (none, r, 0, 0) := by
  have hm : mx_mt 172 = some (yX5_stepPrint, cX5_stepPrint, 2, none) := mt_X5_stepPrint
  unfold j_X5_stepPrint_25 at hf
  refine mx_S.pu (pc2 := 26) (lv2 := [(0, .ref l0)]) (st2 := [.ref l0]) hm dX5_stepPrint_25 rfl ?_
  refine mx_S.pu (pc2 := 27) (lv2 := [(0, .ref l0)]) (st2 := [.ref l0, .ref l0]) hm dX5_stepPrint_26 rfl ?_
  replace hf := mx_sv_el hf; obtain ⟨v1, e_v1, hf⟩ := hf
  refine sx_get hm dX5_stepPrint_27 rs_RX5_69 (xgi_el e_v1) ?_
  clear e_v1
  refine sx_ic (v := 1) hm dX5_stepPrint_30 (by decide) ?_
  replace hf := xl_el hf; obtain ⟨v2, e_v2, hf⟩ := hf
  refine mx_S.pu (pc2 := 32) (lv2 := [(0, .ref l0)]) (st2 := [.int v2, .ref l0]) hm dX5_stepPrint_31 (by rw [← e_v2]; rfl) ?_
  clear e_v2
  replace hf := mx_sv_el hf; obtain ⟨h3, e_h3, hf⟩ := hf
  refine sx_put hm dX5_stepPrint_32 rs_RX5_69 ft_5_7 ⟨rfl, rfl⟩ (fun z => by cases z) e_h3 ?_
  clear e_h3
  refine mx_S.pu (pc2 := 36) (lv2 := [(0, .ref l0)]) (st2 := [.ref l0]) hm dX5_stepPrint_35 rfl ?_
  refine sx_ic (v := 1) hm dX5_stepPrint_36 (by decide) ?_
  replace hf := mx_gd_el hf; obtain ⟨c4, hf⟩ := hf
  replace hf := mx_sv_el hf; obtain ⟨u5, e_u5, hf⟩ := hf
  refine sx_cv hm dX5_stepPrint_37 rs_RX5_138 mt_X5_goOn [.int 1] [] (b := l0) (ci := 5) rfl rfl rfl c4 (Nat.le_of_ble_eq_true rfl) (Nat.le_of_ble_eq_true rfl) (by omega) (by omega) (f_X5_goOn_ok X (by omega) (by omega) nn l0 1 h3 e_u5) ?_
  clear e_u5
  show mx_S X F L 172 40 [(0, .ref l0)] [] u5 0 0 (none, r, 0, 0)
  cases hf
  exact sx_ret hm dX5_stepPrint_40 rfl
set_option maxHeartbeats 4000000 in
set_option maxRecDepth 20000 in
theorem f_X5_stepPrint_ok (X : Nat × (Nat → Int32)) {F L : Nat} (hF : 1 ≤ F) (hL : 21 ≤ L) (nn : Nat) (a0 : Nat) (h : mx_H) {r : mx_H} (hf : f_X5_stepPrint nn a0 h = some r) : mx_R X F L 172 [.ref a0] h (none, r, 0, 0) := by
  have hm : mx_mt 172 = some (yX5_stepPrint, cX5_stepPrint, 2, none) := mt_X5_stepPrint
  show mx_S X F L 172 0 [(0, .ref a0)] [] h 0 0 (none, r, 0, 0)
  unfold f_X5_stepPrint at hf
  refine mx_S.pu (pc2 := 1) (lv2 := [(0, .ref a0)]) (st2 := [.ref a0]) hm dX5_stepPrint_0 rfl ?_
  replace hf := mx_gd_el hf; obtain ⟨c6, hf⟩ := hf
  replace hf := mx_sv_el hf; obtain ⟨u7, e_u7, hf⟩ := hf
  refine sx_cv hm dX5_stepPrint_1 rs_RX5_154 mt_X5_pop [] [] (b := a0) (ci := 5) rfl rfl rfl c6 (Nat.le_of_ble_eq_true rfl) (Nat.le_of_ble_eq_true rfl) (by omega) (by omega) (f_X5_pop_ok X (by omega) (by omega) nn a0 h e_u7) ?_
  clear e_u7
  show mx_S X F L 172 4 [(0, .ref a0)] [.int u7.1] u7.2 0 0 (none, r, 0, 0)
  refine mx_S.pu (pc2 := 5) (lv2 := [(1, .int u7.1), (0, .ref a0)]) (st2 := []) hm dX5_stepPrint_4 rfl ?_
  refine mx_S.pu (pc2 := 6) (lv2 := [(1, .int u7.1), (0, .ref a0)]) (st2 := [.ref a0]) hm dX5_stepPrint_5 rfl ?_
  replace hf := mx_sv_el hf; obtain ⟨v8, e_v8, hf⟩ := hf
  refine sx_get hm dX5_stepPrint_6 rs_RX5_69 (xgi_el e_v8) ?_
  clear e_v8
  refine sx_si (v := 1000) hm dX5_stepPrint_9 (by decide) ?_
  rcases mx_if_el hf with ⟨c12, hf⟩ | ⟨c12, hf⟩
  · refine sb_ic_ge hm dX5_stepPrint_12 (tgt := 25) rfl (fun _ => ?_) (fun z => absurd c12 z)
    refine mx_S.ext [(0, .ref a0)] (mx_sub_pos [1] rfl (show ([1, 0] : List Nat).Nodup by decide)) ?_
    exact j_X5_stepPrint_25_ok X hF hL nn a0 u7.2 hf
  · refine sb_ic_ge hm dX5_stepPrint_12 (tgt := 25) rfl (fun z => absurd z c12) (fun _ => ?_)
    refine mx_S.pu (pc2 := 16) (lv2 := [(1, .int u7.1), (0, .ref a0)]) (st2 := [.ref a0]) hm dX5_stepPrint_15 rfl ?_
    replace hf := mx_sv_el hf; obtain ⟨v9, e_v9, hf⟩ := hf
    refine sx_get hm dX5_stepPrint_16 rs_RX5_13 (xgr_el e_v9) ?_
    clear e_v9
    refine mx_S.pu (pc2 := 20) (lv2 := [(1, .int u7.1), (0, .ref a0)]) (st2 := [.ref a0, .ref v9]) hm dX5_stepPrint_19 rfl ?_
    replace hf := mx_sv_el hf; obtain ⟨v10, e_v10, hf⟩ := hf
    refine sx_get hm dX5_stepPrint_20 rs_RX5_69 (xgi_el e_v10) ?_
    clear e_v10
    refine mx_S.pu (pc2 := 24) (lv2 := [(1, .int u7.1), (0, .ref a0)]) (st2 := [.int u7.1, .int v10, .ref v9]) hm dX5_stepPrint_23 rfl ?_
    replace hf := mx_sv_el hf; obtain ⟨h11, e_h11, hf⟩ := hf
    refine sx_ast hm dX5_stepPrint_24 e_h11 ?_
    clear e_h11
    refine mx_S.ext [(0, .ref a0)] (mx_sub_pos [1] rfl (show ([1, 0] : List Nat).Nodup by decide)) ?_
    exact j_X5_stepPrint_25_ok X hF hL nn a0 h11 hf
set_option maxHeartbeats 4000000 in
set_option maxRecDepth 20000 in
theorem j_X5_stepReturn_15_ok (X : Nat × (Nat → Int32)) {F L : Nat} (hF : 2 ≤ F) (hL : 81 ≤ L) (nn : Nat) (l0 : Nat) (l1 : Int32) (s0 : Int32) (h : mx_H) {r : mx_H} (hf : j_X5_stepReturn_15 nn l0 l1 s0 h = some r) : mx_S X F L 171 15 [(0, .ref l0), (1, .int l1)] [.int s0] h 0 0 (none, r, 0, 0) := by
  have hm : mx_mt 171 = some (yX5_stepReturn, cX5_stepReturn, 3, none) := mt_X5_stepReturn
  unfold j_X5_stepReturn_15 at hf
  refine mx_S.pu (pc2 := 16) (lv2 := [(2, .int s0), (0, .ref l0), (1, .int l1)]) (st2 := []) hm dX5_stepReturn_15 rfl ?_
  refine mx_S.pu (pc2 := 17) (lv2 := [(2, .int s0), (0, .ref l0), (1, .int l1)]) (st2 := [.ref l0]) hm dX5_stepReturn_16 rfl ?_
  refine mx_S.pu (pc2 := 18) (lv2 := [(2, .int s0), (0, .ref l0), (1, .int l1)]) (st2 := [.ref l0, .ref l0]) hm dX5_stepReturn_17 rfl ?_
  replace hf := mx_sv_el hf; obtain ⟨v1, e_v1, hf⟩ := hf
  refine sx_get hm dX5_stepReturn_18 rs_RX5_66 (xgi_el e_v1) ?_
  clear e_v1
  refine sx_ic (v := 1) hm dX5_stepReturn_21 (by decide) ?_
  replace hf := xl_el hf; obtain ⟨v2, e_v2, hf⟩ := hf
  refine mx_S.pu (pc2 := 23) (lv2 := [(2, .int s0), (0, .ref l0), (1, .int l1)]) (st2 := [.int v2, .ref l0]) hm dX5_stepReturn_22 (by rw [← e_v2]; rfl) ?_
  clear e_v2
  replace hf := mx_sv_el hf; obtain ⟨h3, e_h3, hf⟩ := hf
  refine sx_put hm dX5_stepReturn_23 rs_RX5_66 ft_5_6 ⟨rfl, rfl⟩ (fun z => by cases z) e_h3 ?_
  clear e_h3
  refine mx_S.pu (pc2 := 27) (lv2 := [(2, .int s0), (0, .ref l0), (1, .int l1)]) (st2 := [.ref l0]) hm dX5_stepReturn_26 rfl ?_
  replace hf := mx_sv_el hf; obtain ⟨v4, e_v4, hf⟩ := hf
  refine sx_get hm dX5_stepReturn_27 rs_RX5_66 (xgi_el e_v4) ?_
  clear e_v4
  rcases mx_if_el hf with ⟨c22, hf⟩ | ⟨c22, hf⟩
  · refine sb_if_le hm dX5_stepReturn_30 (tgt := 55) rfl (fun _ => ?_) (fun z => absurd c22 z)
    refine mx_S.pu (pc2 := 56) (lv2 := [(2, .int s0), (0, .ref l0), (1, .int l1)]) (st2 := [.ref l0]) hm dX5_stepReturn_55 rfl ?_
    refine sx_ic (v := 2) hm dX5_stepReturn_56 (by decide) ?_
    replace hf := mx_sv_el hf; obtain ⟨h5, e_h5, hf⟩ := hf
    refine sx_put hm dX5_stepReturn_57 rs_RX5_54 ft_5_1 ⟨rfl, rfl⟩ (fun z => by cases z) e_h5 ?_
    clear e_h5
    refine mx_S.pu (pc2 := 61) (lv2 := [(2, .int s0), (0, .ref l0), (1, .int l1)]) (st2 := [.ref l0]) hm dX5_stepReturn_60 rfl ?_
    refine mx_S.pu (pc2 := 62) (lv2 := [(2, .int s0), (0, .ref l0), (1, .int l1)]) (st2 := [.int l1, .ref l0]) hm dX5_stepReturn_61 rfl ?_
    refine sx_si (v := 172) hm dX5_stepReturn_62 (by decide) ?_
    rcases mx_if_el hf with ⟨c14, hf⟩ | ⟨c14, hf⟩
    · refine sb_ic_ne hm dX5_stepReturn_65 (tgt := 72) rfl (fun _ => ?_) (fun z => absurd c14 z)
      refine mx_S.pu (pc2 := 73) (lv2 := [(2, .int s0), (0, .ref l0), (1, .int l1)]) (st2 := [.ref l0, .ref l0]) hm dX5_stepReturn_72 rfl ?_
      refine mx_S.pu (pc2 := 74) (lv2 := [(2, .int s0), (0, .ref l0), (1, .int l1)]) (st2 := [.int s0, .ref l0, .ref l0]) hm dX5_stepReturn_73 rfl ?_
      replace hf := mx_gd_el hf; obtain ⟨c6, hf⟩ := hf
      replace hf := mx_sv_el hf; obtain ⟨u7, e_u7, hf⟩ := hf
      refine sx_cv hm dX5_stepReturn_74 rs_RX5_226 mt_X5_isObject [.int s0] [.ref l0] (b := l0) (ci := 5) rfl rfl rfl c6 (Nat.le_of_ble_eq_true rfl) (Nat.le_of_ble_eq_true rfl) (by omega) (by omega) (f_X5_isObject_ok X (by omega) (by omega) nn l0 s0 h5 e_u7) ?_
      clear e_u7
      show mx_S X F L 171 77 [(2, .int s0), (0, .ref l0), (1, .int l1)] [.int u7.1, .ref l0] u7.2 0 0 (none, r, 0, 0)
      rcases mx_if_el hf with ⟨c12, hf⟩ | ⟨c12, hf⟩
      · refine sb_if_eq hm dX5_stepReturn_77 (tgt := 89) rfl (fun _ => ?_) (fun z => absurd c12 z)
        refine sx_ic (v := (-1)) hm dX5_stepReturn_89 (by decide) ?_
        replace hf := mx_sv_el hf; obtain ⟨h8, e_h8, hf⟩ := hf
        refine sx_put hm dX5_stepReturn_90 rs_RX5_50 ft_5_2 ⟨rfl, rfl⟩ (fun z => by cases z) e_h8 ?_
        clear e_h8
        cases hf
        exact sx_ret hm dX5_stepReturn_93 rfl
      · refine sb_if_eq hm dX5_stepReturn_77 (tgt := 89) rfl (fun z => absurd z c12) (fun _ => ?_)
        refine mx_S.pu (pc2 := 81) (lv2 := [(2, .int s0), (0, .ref l0), (1, .int l1)]) (st2 := [.ref l0, .ref l0]) hm dX5_stepReturn_80 rfl ?_
        replace hf := mx_sv_el hf; obtain ⟨v9, e_v9, hf⟩ := hf
        refine sx_get hm dX5_stepReturn_81 rs_RX5_17 (xgr_el e_v9) ?_
        clear e_v9
        refine mx_S.pu (pc2 := 85) (lv2 := [(2, .int s0), (0, .ref l0), (1, .int l1)]) (st2 := [.int s0, .ref v9, .ref l0]) hm dX5_stepReturn_84 rfl ?_
        replace hf := mx_sv_el hf; obtain ⟨v10, e_v10, hf⟩ := hf
        refine sx_ald hm dX5_stepReturn_85 e_v10 ?_
        clear e_v10
        refine mx_S.pu (pc2 := 90) (lv2 := [(2, .int s0), (0, .ref l0), (1, .int l1)]) (st2 := [.int v10, .ref l0]) hm dX5_stepReturn_86 rfl ?_
        replace hf := mx_sv_el hf; obtain ⟨h11, e_h11, hf⟩ := hf
        refine sx_put hm dX5_stepReturn_90 rs_RX5_50 ft_5_2 ⟨rfl, rfl⟩ (fun z => by cases z) e_h11 ?_
        clear e_h11
        cases hf
        exact sx_ret hm dX5_stepReturn_93 rfl
    · refine sb_ic_ne hm dX5_stepReturn_65 (tgt := 72) rfl (fun z => absurd z c14) (fun _ => ?_)
      refine mx_S.pu (pc2 := 69) (lv2 := [(2, .int s0), (0, .ref l0), (1, .int l1)]) (st2 := [.int s0, .ref l0]) hm dX5_stepReturn_68 rfl ?_
      refine mx_S.pu (pc2 := 90) (lv2 := [(2, .int s0), (0, .ref l0), (1, .int l1)]) (st2 := [.int s0, .ref l0]) hm dX5_stepReturn_69 rfl ?_
      replace hf := mx_sv_el hf; obtain ⟨h13, e_h13, hf⟩ := hf
      refine sx_put hm dX5_stepReturn_90 rs_RX5_50 ft_5_2 ⟨rfl, rfl⟩ (fun z => by cases z) e_h13 ?_
      clear e_h13
      cases hf
      exact sx_ret hm dX5_stepReturn_93 rfl
  · refine sb_if_le hm dX5_stepReturn_30 (tgt := 55) rfl (fun z => absurd z c22) (fun _ => ?_)
    refine mx_S.pu (pc2 := 34) (lv2 := [(2, .int s0), (0, .ref l0), (1, .int l1)]) (st2 := [.ref l0]) hm dX5_stepReturn_33 rfl ?_
    replace hf := mx_gd_el hf; obtain ⟨c15, hf⟩ := hf
    replace hf := mx_sv_el hf; obtain ⟨u16, e_u16, hf⟩ := hf
    refine sx_cv hm dX5_stepReturn_34 rs_RX5_112 mt_X5_takeTop [] [] (b := l0) (ci := 5) rfl rfl rfl c15 (Nat.le_of_ble_eq_true rfl) (Nat.le_of_ble_eq_true rfl) (by omega) (by omega) (f_X5_takeTop_ok X (by omega) (by omega) nn l0 h3 e_u16) ?_
    clear e_u16
    show mx_S X F L 171 37 [(2, .int s0), (0, .ref l0), (1, .int l1)] [] u16 0 0 (none, r, 0, 0)
    refine mx_S.pu (pc2 := 38) (lv2 := [(2, .int s0), (0, .ref l0), (1, .int l1)]) (st2 := [.ref l0]) hm dX5_stepReturn_37 rfl ?_
    refine sx_ic (v := 2) hm dX5_stepReturn_38 (by decide) ?_
    replace hf := mx_gd_el hf; obtain ⟨c17, hf⟩ := hf
    replace hf := mx_sv_el hf; obtain ⟨u18, e_u18, hf⟩ := hf
    refine sx_cv hm dX5_stepReturn_39 rs_RX5_138 mt_X5_goOn [.int 2] [] (b := l0) (ci := 5) rfl rfl rfl c17 (Nat.le_of_ble_eq_true rfl) (Nat.le_of_ble_eq_true rfl) (by omega) (by omega) (f_X5_goOn_ok X (by omega) (by omega) nn l0 2 u16 e_u18) ?_
    clear e_u18
    show mx_S X F L 171 42 [(2, .int s0), (0, .ref l0), (1, .int l1)] [] u18 0 0 (none, r, 0, 0)
    refine mx_S.pu (pc2 := 43) (lv2 := [(2, .int s0), (0, .ref l0), (1, .int l1)]) (st2 := [.int l1]) hm dX5_stepReturn_42 rfl ?_
    refine sx_si (v := 177) hm dX5_stepReturn_43 (by decide) ?_
    rcases mx_if_el hf with ⟨c21, hf⟩ | ⟨c21, hf⟩
    · refine sb_ic_eq hm dX5_stepReturn_46 (tgt := 54) rfl (fun _ => ?_) (fun z => absurd c21 z)
      cases hf
      exact sx_ret hm dX5_stepReturn_54 rfl
    · refine sb_ic_eq hm dX5_stepReturn_46 (tgt := 54) rfl (fun z => absurd z c21) (fun _ => ?_)
      refine mx_S.pu (pc2 := 50) (lv2 := [(2, .int s0), (0, .ref l0), (1, .int l1)]) (st2 := [.ref l0]) hm dX5_stepReturn_49 rfl ?_
      refine mx_S.pu (pc2 := 51) (lv2 := [(2, .int s0), (0, .ref l0), (1, .int l1)]) (st2 := [.int s0, .ref l0]) hm dX5_stepReturn_50 rfl ?_
      replace hf := mx_gd_el hf; obtain ⟨c19, hf⟩ := hf
      replace hf := mx_sv_el hf; obtain ⟨u20, e_u20, hf⟩ := hf
      refine sx_cv hm dX5_stepReturn_51 rs_RX5_135 mt_X5_push [.int s0] [] (b := l0) (ci := 5) rfl rfl rfl c19 (Nat.le_of_ble_eq_true rfl) (Nat.le_of_ble_eq_true rfl) (by omega) (by omega) (f_X5_push_ok X (by omega) (by omega) nn l0 s0 u18 e_u20) ?_
      clear e_u20
      show mx_S X F L 171 54 [(2, .int s0), (0, .ref l0), (1, .int l1)] [] u20 0 0 (none, r, 0, 0)
      cases hf
      exact sx_ret hm dX5_stepReturn_54 rfl
set_option maxHeartbeats 4000000 in
set_option maxRecDepth 20000 in
theorem f_X5_stepReturn_ok (X : Nat × (Nat → Int32)) {F L : Nat} (hF : 2 ≤ F) (hL : 81 ≤ L) (nn : Nat) (a0 : Nat) (a1 : Int32) (h : mx_H) {r : mx_H} (hf : f_X5_stepReturn nn a0 a1 h = some r) : mx_R X F L 171 [.ref a0, .int a1] h (none, r, 0, 0) := by
  have hm : mx_mt 171 = some (yX5_stepReturn, cX5_stepReturn, 3, none) := mt_X5_stepReturn
  show mx_S X F L 171 0 [(0, .ref a0), (1, .int a1)] [] h 0 0 (none, r, 0, 0)
  unfold f_X5_stepReturn at hf
  refine mx_S.pu (pc2 := 1) (lv2 := [(0, .ref a0), (1, .int a1)]) (st2 := [.int a1]) hm dX5_stepReturn_0 rfl ?_
  refine sx_si (v := 177) hm dX5_stepReturn_1 (by decide) ?_
  rcases mx_if_el hf with ⟨c25, hf⟩ | ⟨c25, hf⟩
  · refine sb_ic_ne hm dX5_stepReturn_4 (tgt := 11) rfl (fun _ => ?_) (fun z => absurd c25 z)
    refine mx_S.pu (pc2 := 12) (lv2 := [(0, .ref a0), (1, .int a1)]) (st2 := [.ref a0]) hm dX5_stepReturn_11 rfl ?_
    replace hf := mx_gd_el hf; obtain ⟨c23, hf⟩ := hf
    replace hf := mx_sv_el hf; obtain ⟨u24, e_u24, hf⟩ := hf
    refine sx_cv hm dX5_stepReturn_12 rs_RX5_154 mt_X5_pop [] [] (b := a0) (ci := 5) rfl rfl rfl c23 (Nat.le_of_ble_eq_true rfl) (Nat.le_of_ble_eq_true rfl) (by omega) (by omega) (f_X5_pop_ok X (by omega) (by omega) nn a0 h e_u24) ?_
    clear e_u24
    show mx_S X F L 171 15 [(0, .ref a0), (1, .int a1)] [.int u24.1] u24.2 0 0 (none, r, 0, 0)
    exact j_X5_stepReturn_15_ok X hF hL nn a0 a1 u24.1 u24.2 hf
  · refine sb_ic_ne hm dX5_stepReturn_4 (tgt := 11) rfl (fun z => absurd z c25) (fun _ => ?_)
    refine sx_ic (v := 0) hm dX5_stepReturn_7 (by decide) ?_
    refine mx_S.pu (pc2 := 15) (lv2 := [(0, .ref a0), (1, .int a1)]) (st2 := [.int 0]) hm dX5_stepReturn_8 rfl ?_
    exact j_X5_stepReturn_15_ok X hF hL nn a0 a1 0 h hf
set_option maxHeartbeats 4000000 in
set_option maxRecDepth 20000 in
theorem f_X5_stepThrow_ok (X : Nat × (Nat → Int32)) {F L : Nat} (hF : 1 ≤ F) (hL : 21 ≤ L) (nn : Nat) (a0 : Nat) (h : mx_H) {r : mx_H} (hf : f_X5_stepThrow nn a0 h = some r) : mx_R X F L 178 [.ref a0] h (none, r, 0, 0) := by
  have hm : mx_mt 178 = some (yX5_stepThrow, cX5_stepThrow, 2, none) := mt_X5_stepThrow
  show mx_S X F L 178 0 [(0, .ref a0)] [] h 0 0 (none, r, 0, 0)
  unfold f_X5_stepThrow at hf
  refine mx_S.pu (pc2 := 1) (lv2 := [(0, .ref a0)]) (st2 := [.ref a0]) hm dX5_stepThrow_0 rfl ?_
  replace hf := mx_gd_el hf; obtain ⟨c1, hf⟩ := hf
  replace hf := mx_sv_el hf; obtain ⟨u2, e_u2, hf⟩ := hf
  refine sx_cv hm dX5_stepThrow_1 rs_RX5_154 mt_X5_pop [] [] (b := a0) (ci := 5) rfl rfl rfl c1 (Nat.le_of_ble_eq_true rfl) (Nat.le_of_ble_eq_true rfl) (by omega) (by omega) (f_X5_pop_ok X (by omega) (by omega) nn a0 h e_u2) ?_
  clear e_u2
  show mx_S X F L 178 4 [(0, .ref a0)] [.int u2.1] u2.2 0 0 (none, r, 0, 0)
  refine mx_S.pu (pc2 := 5) (lv2 := [(1, .int u2.1), (0, .ref a0)]) (st2 := []) hm dX5_stepThrow_4 rfl ?_
  refine mx_S.pu (pc2 := 6) (lv2 := [(1, .int u2.1), (0, .ref a0)]) (st2 := [.ref a0]) hm dX5_stepThrow_5 rfl ?_
  refine mx_S.pu (pc2 := 7) (lv2 := [(1, .int u2.1), (0, .ref a0)]) (st2 := [.int u2.1, .ref a0]) hm dX5_stepThrow_6 rfl ?_
  rcases mx_if_el hf with ⟨c5, hf⟩ | ⟨c5, hf⟩
  · refine sb_if_ne hm dX5_stepThrow_7 (tgt := 15) rfl (fun _ => ?_) (fun z => absurd c5 z)
    refine mx_S.pu (pc2 := 16) (lv2 := [(1, .int u2.1), (0, .ref a0)]) (st2 := [.int u2.1, .ref a0]) hm dX5_stepThrow_15 rfl ?_
    replace hf := mx_sv_el hf; obtain ⟨h3, e_h3, hf⟩ := hf
    refine sx_put hm dX5_stepThrow_16 rs_RX5_86 ft_5_20 ⟨rfl, rfl⟩ (fun z => by cases z) e_h3 ?_
    clear e_h3
    cases hf
    exact sx_ret hm dX5_stepThrow_19 rfl
  · refine sb_if_ne hm dX5_stepThrow_7 (tgt := 15) rfl (fun z => absurd z c5) (fun _ => ?_)
    refine sx_bi (v := (-2)) hm dX5_stepThrow_10 (by decide) ?_
    refine mx_S.pu (pc2 := 16) (lv2 := [(1, .int u2.1), (0, .ref a0)]) (st2 := [.int (-2), .ref a0]) hm dX5_stepThrow_12 rfl ?_
    replace hf := mx_sv_el hf; obtain ⟨h4, e_h4, hf⟩ := hf
    refine sx_put hm dX5_stepThrow_16 rs_RX5_86 ft_5_20 ⟨rfl, rfl⟩ (fun z => by cases z) e_h4 ?_
    clear e_h4
    cases hf
    exact sx_ret hm dX5_stepThrow_19 rfl
set_option maxHeartbeats 4000000 in
set_option maxRecDepth 20000 in
theorem f_X7_cellsOf_ok (X : Nat × (Nat → Int32)) {F L : Nat} (hF : 1 ≤ F) (hL : 20 ≤ L) (nn : Nat) (a0 : Nat) (a1 : Int32) (h : mx_H) {r : (Int32 × mx_H)} (hf : f_X7_cellsOf nn a0 a1 h = some r) : mx_R X F L 217 [.ref a0, .int a1] h (some (.int r.1), r.2, 0, 0) := by
  have hm : mx_mt 217 = some (yX7_cellsOf, cX7_cellsOf, 2, (some .int)) := mt_X7_cellsOf
  show mx_S X F L 217 0 [(0, .ref a0), (1, .int a1)] [] h 0 0 (some (.int r.1), r.2, 0, 0)
  unfold f_X7_cellsOf at hf
  refine mx_S.pu (pc2 := 1) (lv2 := [(0, .ref a0), (1, .int a1)]) (st2 := [.int a1]) hm dX7_cellsOf_0 rfl ?_
  replace hf := mx_sv_el hf; obtain ⟨u1, e_u1, hf⟩ := hf
  refine sx_cs hm dX7_cellsOf_1 rs_RX7_175 mt_X4_isClass [.int a1] [] rfl rfl (Nat.le_of_ble_eq_true rfl) (Nat.le_of_ble_eq_true rfl) (by omega) (by omega) (f_X4_isClass_ok X (by omega) (by omega) nn a1 h e_u1) ?_
  clear e_u1
  show mx_S X F L 217 4 [(0, .ref a0), (1, .int a1)] [.int u1.1] u1.2 0 0 (some (.int r.1), r.2, 0, 0)
  rcases mx_if_el hf with ⟨c4, hf⟩ | ⟨c4, hf⟩
  · refine sb_if_eq hm dX7_cellsOf_4 (tgt := 16) rfl (fun _ => ?_) (fun z => absurd c4 z)
    refine sx_ic (v := 0) hm dX7_cellsOf_16 (by decide) ?_
    cases hf
    exact sx_ire hm dX7_cellsOf_17 rfl rfl
  · refine sb_if_eq hm dX7_cellsOf_4 (tgt := 16) rfl (fun z => absurd z c4) (fun _ => ?_)
    refine mx_S.pu (pc2 := 8) (lv2 := [(0, .ref a0), (1, .int a1)]) (st2 := [.ref a0]) hm dX7_cellsOf_7 rfl ?_
    replace hf := mx_sv_el hf; obtain ⟨v2, e_v2, hf⟩ := hf
    refine sx_get hm dX7_cellsOf_8 rs_RX7_35 (xgr_el e_v2) ?_
    clear e_v2
    refine mx_S.pu (pc2 := 12) (lv2 := [(0, .ref a0), (1, .int a1)]) (st2 := [.int a1, .ref v2]) hm dX7_cellsOf_11 rfl ?_
    replace hf := mx_sv_el hf; obtain ⟨v3, e_v3, hf⟩ := hf
    refine sx_ald hm dX7_cellsOf_12 e_v3 ?_
    clear e_v3
    refine mx_S.pu (pc2 := 17) (lv2 := [(0, .ref a0), (1, .int a1)]) (st2 := [.int v3]) hm dX7_cellsOf_13 rfl ?_
    cases hf
    exact sx_ire hm dX7_cellsOf_17 rfl rfl
set_option maxHeartbeats 4000000 in
set_option maxRecDepth 20000 in
theorem j_X5_stepObject_285_ok (X : Nat × (Nat → Int32)) {F L : Nat} (hF : 5 ≤ F) (hL : 132 ≤ L) (nn : Nat) (l0 : Nat) (l1 : Int32) (l2 : Int32) (h : mx_H) {r : mx_H} (hf : j_X5_stepObject_285 nn l0 l1 l2 h = some r) : mx_S X F L 162 285 [(0, .ref l0), (1, .int l1), (2, .int l2)] [] h 0 0 (none, r, 0, 0) := by
  have hm : mx_mt 162 = some (yX5_stepObject, cX5_stepObject, 3, none) := mt_X5_stepObject
  unfold j_X5_stepObject_285 at hf
  refine mx_S.pu (pc2 := 286) (lv2 := [(0, .ref l0), (1, .int l1), (2, .int l2)]) (st2 := [.ref l0]) hm dX5_stepObject_285 rfl ?_
  refine mx_S.pu (pc2 := 287) (lv2 := [(0, .ref l0), (1, .int l1), (2, .int l2)]) (st2 := [.int l1, .ref l0]) hm dX5_stepObject_286 rfl ?_
  refine mx_S.pu (pc2 := 288) (lv2 := [(0, .ref l0), (1, .int l1), (2, .int l2)]) (st2 := [.ref l0, .int l1, .ref l0]) hm dX5_stepObject_287 rfl ?_
  refine mx_S.pu (pc2 := 289) (lv2 := [(0, .ref l0), (1, .int l1), (2, .int l2)]) (st2 := [.int l2, .ref l0, .int l1, .ref l0]) hm dX5_stepObject_288 rfl ?_
  replace hf := mx_gd_el hf; obtain ⟨c1, hf⟩ := hf
  replace hf := mx_sv_el hf; obtain ⟨u2, e_u2, hf⟩ := hf
  refine sx_cv hm dX5_stepObject_289 rs_RX5_149 mt_X5_link [.int l2] [.int l1, .ref l0] (b := l0) (ci := 5) rfl rfl rfl c1 (Nat.le_of_ble_eq_true rfl) (Nat.le_of_ble_eq_true rfl) (by omega) (by omega) (f_X5_link_ok X (by omega) (by omega) nn l0 l2 h e_u2) ?_
  clear e_u2
  show mx_S X F L 162 292 [(0, .ref l0), (1, .int l1), (2, .int l2)] [.int u2.1, .int l1, .ref l0] u2.2 0 0 (none, r, 0, 0)
  replace hf := mx_gd_el hf; obtain ⟨c3, hf⟩ := hf
  replace hf := mx_sv_el hf; obtain ⟨u4, e_u4, hf⟩ := hf
  refine sx_cv hm dX5_stepObject_292 rs_RX5_223 mt_X5_stepKin [.int l1, .int u2.1] [] (b := l0) (ci := 5) rfl rfl rfl c3 (Nat.le_of_ble_eq_true rfl) (Nat.le_of_ble_eq_true rfl) (by omega) (by omega) (f_X5_stepKin_ok X (by omega) (by omega) nn l0 l1 u2.1 u2.2 e_u4) ?_
  clear e_u4
  show mx_S X F L 162 295 [(0, .ref l0), (1, .int l1), (2, .int l2)] [] u4 0 0 (none, r, 0, 0)
  refine mx_S.pu (pc2 := 304) (lv2 := [(0, .ref l0), (1, .int l1), (2, .int l2)]) (st2 := []) hm dX5_stepObject_295 rfl ?_
  cases hf
  exact sx_ret hm dX5_stepObject_304 rfl
set_option maxHeartbeats 4000000 in
set_option maxRecDepth 20000 in
theorem j_X5_stepObject_243_ok (X : Nat × (Nat → Int32)) {F L : Nat} (hF : 5 ≤ F) (hL : 132 ≤ L) (nn : Nat) (l0 : Nat) (l1 : Int32) (l2 : Int32) (h : mx_H) {r : mx_H} (hf : j_X5_stepObject_243 nn l0 l1 l2 h = some r) : mx_S X F L 162 243 [(0, .ref l0), (1, .int l1), (2, .int l2)] [] h 0 0 (none, r, 0, 0) := by
  have hm : mx_mt 162 = some (yX5_stepObject, cX5_stepObject, 3, none) := mt_X5_stepObject
  unfold j_X5_stepObject_243 at hf
  refine mx_S.pu (pc2 := 244) (lv2 := [(0, .ref l0), (1, .int l1), (2, .int l2)]) (st2 := [.ref l0]) hm dX5_stepObject_243 rfl ?_
  refine mx_S.pu (pc2 := 245) (lv2 := [(0, .ref l0), (1, .int l1), (2, .int l2)]) (st2 := [.int l1, .ref l0]) hm dX5_stepObject_244 rfl ?_
  refine sx_si (v := 188) hm dX5_stepObject_245 (by decide) ?_
  rcases mx_if_el hf with ⟨c12, hf⟩ | ⟨c12, hf⟩
  · refine sb_ic_ne hm dX5_stepObject_248 (tgt := 257) rfl (fun _ => ?_) (fun z => absurd c12 z)
    refine sx_bi (v := 100) hm dX5_stepObject_257 (by decide) ?_
    refine mx_S.pu (pc2 := 260) (lv2 := [(0, .ref l0), (1, .int l1), (2, .int l2)]) (st2 := [.ref l0, .int 100, .ref l0]) hm dX5_stepObject_259 rfl ?_
    refine mx_S.pu (pc2 := 261) (lv2 := [(0, .ref l0), (1, .int l1), (2, .int l2)]) (st2 := [.int l2, .ref l0, .int 100, .ref l0]) hm dX5_stepObject_260 rfl ?_
    replace hf := mx_gd_el hf; obtain ⟨c5, hf⟩ := hf
    replace hf := mx_sv_el hf; obtain ⟨u6, e_u6, hf⟩ := hf
    refine sx_cv hm dX5_stepObject_261 rs_RX5_149 mt_X5_link [.int l2] [.int 100, .ref l0] (b := l0) (ci := 5) rfl rfl rfl c5 (Nat.le_of_ble_eq_true rfl) (Nat.le_of_ble_eq_true rfl) (by omega) (by omega) (f_X5_link_ok X (by omega) (by omega) nn l0 l2 h e_u6) ?_
    clear e_u6
    show mx_S X F L 162 264 [(0, .ref l0), (1, .int l1), (2, .int l2)] [.int u6.1, .int 100, .ref l0] u6.2 0 0 (none, r, 0, 0)
    replace hf := xl_el hf; obtain ⟨v7, e_v7, hf⟩ := hf
    refine mx_S.pu (pc2 := 265) (lv2 := [(0, .ref l0), (1, .int l1), (2, .int l2)]) (st2 := [.int v7, .ref l0]) hm dX5_stepObject_264 (by rw [← e_v7]; rfl) ?_
    clear e_v7
    replace hf := mx_gd_el hf; obtain ⟨c8, hf⟩ := hf
    replace hf := mx_sv_el hf; obtain ⟨u9, e_u9, hf⟩ := hf
    refine sx_cv hm dX5_stepObject_265 rs_RX5_214 mt_X5_stepNewArray [.int v7] [] (b := l0) (ci := 5) rfl rfl rfl c8 (Nat.le_of_ble_eq_true rfl) (Nat.le_of_ble_eq_true rfl) (by omega) (by omega) (f_X5_stepNewArray_ok X (by omega) (by omega) nn l0 v7 u6.2 e_u9) ?_
    clear e_u9
    show mx_S X F L 162 268 [(0, .ref l0), (1, .int l1), (2, .int l2)] [] u9 0 0 (none, r, 0, 0)
    refine mx_S.pu (pc2 := 304) (lv2 := [(0, .ref l0), (1, .int l1), (2, .int l2)]) (st2 := []) hm dX5_stepObject_268 rfl ?_
    cases hf
    exact sx_ret hm dX5_stepObject_304 rfl
  · refine sb_ic_ne hm dX5_stepObject_248 (tgt := 257) rfl (fun z => absurd z c12) (fun _ => ?_)
    refine sx_si (v := 200) hm dX5_stepObject_251 (by decide) ?_
    refine mx_S.pu (pc2 := 265) (lv2 := [(0, .ref l0), (1, .int l1), (2, .int l2)]) (st2 := [.int 200, .ref l0]) hm dX5_stepObject_254 rfl ?_
    replace hf := mx_gd_el hf; obtain ⟨c10, hf⟩ := hf
    replace hf := mx_sv_el hf; obtain ⟨u11, e_u11, hf⟩ := hf
    refine sx_cv hm dX5_stepObject_265 rs_RX5_214 mt_X5_stepNewArray [.int 200] [] (b := l0) (ci := 5) rfl rfl rfl c10 (Nat.le_of_ble_eq_true rfl) (Nat.le_of_ble_eq_true rfl) (by omega) (by omega) (f_X5_stepNewArray_ok X (by omega) (by omega) nn l0 200 h e_u11) ?_
    clear e_u11
    show mx_S X F L 162 268 [(0, .ref l0), (1, .int l1), (2, .int l2)] [] u11 0 0 (none, r, 0, 0)
    refine mx_S.pu (pc2 := 304) (lv2 := [(0, .ref l0), (1, .int l1), (2, .int l2)]) (st2 := []) hm dX5_stepObject_268 rfl ?_
    cases hf
    exact sx_ret hm dX5_stepObject_304 rfl
set_option maxHeartbeats 4000000 in
set_option maxRecDepth 20000 in
theorem j_X5_stepObject_203_ok (X : Nat × (Nat → Int32)) {F L : Nat} (hF : 5 ≤ F) (hL : 132 ≤ L) (nn : Nat) (l0 : Nat) (l1 : Int32) (l2 : Int32) (h : mx_H) {r : mx_H} (hf : j_X5_stepObject_203 nn l0 l1 l2 h = some r) : mx_S X F L 162 203 [(0, .ref l0), (1, .int l1), (2, .int l2)] [] h 0 0 (none, r, 0, 0) := by
  have hm : mx_mt 162 = some (yX5_stepObject, cX5_stepObject, 3, none) := mt_X5_stepObject
  unfold j_X5_stepObject_203 at hf
  refine mx_S.pu (pc2 := 204) (lv2 := [(0, .ref l0), (1, .int l1), (2, .int l2)]) (st2 := [.ref l0]) hm dX5_stepObject_203 rfl ?_
  refine mx_S.pu (pc2 := 205) (lv2 := [(0, .ref l0), (1, .int l1), (2, .int l2)]) (st2 := [.int l1, .ref l0]) hm dX5_stepObject_204 rfl ?_
  refine mx_S.pu (pc2 := 206) (lv2 := [(0, .ref l0), (1, .int l1), (2, .int l2)]) (st2 := [.int l2, .int l1, .ref l0]) hm dX5_stepObject_205 rfl ?_
  replace hf := mx_gd_el hf; obtain ⟨c13, hf⟩ := hf
  replace hf := mx_sv_el hf; obtain ⟨u14, e_u14, hf⟩ := hf
  refine sx_cv hm dX5_stepObject_206 rs_RX5_202 mt_X5_stepCall [.int l1, .int l2] [] (b := l0) (ci := 5) rfl rfl rfl c13 (Nat.le_of_ble_eq_true rfl) (Nat.le_of_ble_eq_true rfl) (by omega) (by omega) (f_X5_stepCall_ok X (by omega) (by omega) nn l0 l1 l2 h e_u14) ?_
  clear e_u14
  show mx_S X F L 162 209 [(0, .ref l0), (1, .int l1), (2, .int l2)] [] u14 0 0 (none, r, 0, 0)
  refine mx_S.pu (pc2 := 304) (lv2 := [(0, .ref l0), (1, .int l1), (2, .int l2)]) (st2 := []) hm dX5_stepObject_209 rfl ?_
  cases hf
  exact sx_ret hm dX5_stepObject_304 rfl
set_option maxHeartbeats 4000000 in
set_option maxRecDepth 20000 in
theorem j_X5_stepObject_179_ok (X : Nat × (Nat → Int32)) {F L : Nat} (hF : 5 ≤ F) (hL : 132 ≤ L) (nn : Nat) (l0 : Nat) (l1 : Int32) (h : mx_H) {r : mx_H} (hf : j_X5_stepObject_179 nn l0 l1 h = some r) : mx_S X F L 162 179 [(0, .ref l0), (1, .int l1)] [] h 0 0 (none, r, 0, 0) := by
  have hm : mx_mt 162 = some (yX5_stepObject, cX5_stepObject, 3, none) := mt_X5_stepObject
  unfold j_X5_stepObject_179 at hf
  refine mx_S.pu (pc2 := 180) (lv2 := [(0, .ref l0), (1, .int l1)]) (st2 := [.ref l0]) hm dX5_stepObject_179 rfl ?_
  refine mx_S.pu (pc2 := 181) (lv2 := [(0, .ref l0), (1, .int l1)]) (st2 := [.int l1, .ref l0]) hm dX5_stepObject_180 rfl ?_
  replace hf := mx_gd_el hf; obtain ⟨c15, hf⟩ := hf
  replace hf := mx_sv_el hf; obtain ⟨u16, e_u16, hf⟩ := hf
  refine sx_cv hm dX5_stepObject_181 rs_RX5_193 mt_X5_stepReturn [.int l1] [] (b := l0) (ci := 5) rfl rfl rfl c15 (Nat.le_of_ble_eq_true rfl) (Nat.le_of_ble_eq_true rfl) (by omega) (by omega) (f_X5_stepReturn_ok X (by omega) (by omega) nn l0 l1 h e_u16) ?_
  clear e_u16
  show mx_S X F L 162 184 [(0, .ref l0), (1, .int l1)] [] u16 0 0 (none, r, 0, 0)
  refine mx_S.pu (pc2 := 304) (lv2 := [(0, .ref l0), (1, .int l1)]) (st2 := []) hm dX5_stepObject_184 rfl ?_
  cases hf
  exact sx_ret hm dX5_stepObject_304 rfl
set_option maxHeartbeats 4000000 in
set_option maxRecDepth 20000 in
theorem j_X5_stepObject_171_ok (X : Nat × (Nat → Int32)) {F L : Nat} (hF : 5 ≤ F) (hL : 132 ≤ L) (nn : Nat) (l0 : Nat) (l1 : Int32) (h : mx_H) {r : mx_H} (hf : j_X5_stepObject_171 nn l0 l1 h = some r) : mx_S X F L 162 171 [(0, .ref l0), (1, .int l1)] [] h 0 0 (none, r, 0, 0) := by
  have hm : mx_mt 162 = some (yX5_stepObject, cX5_stepObject, 3, none) := mt_X5_stepObject
  unfold j_X5_stepObject_171 at hf
  refine mx_S.pu (pc2 := 172) (lv2 := [(0, .ref l0), (1, .int l1)]) (st2 := [.ref l0]) hm dX5_stepObject_171 rfl ?_
  refine mx_S.pu (pc2 := 173) (lv2 := [(0, .ref l0), (1, .int l1)]) (st2 := [.int l1, .ref l0]) hm dX5_stepObject_172 rfl ?_
  replace hf := mx_gd_el hf; obtain ⟨c17, hf⟩ := hf
  replace hf := mx_sv_el hf; obtain ⟨u18, e_u18, hf⟩ := hf
  refine sx_cv hm dX5_stepObject_173 rs_RX5_190 mt_X5_stepGiveElement [.int l1] [] (b := l0) (ci := 5) rfl rfl rfl c17 (Nat.le_of_ble_eq_true rfl) (Nat.le_of_ble_eq_true rfl) (by omega) (by omega) (f_X5_stepGiveElement_ok X (by omega) (by omega) nn l0 l1 h e_u18) ?_
  clear e_u18
  show mx_S X F L 162 176 [(0, .ref l0), (1, .int l1)] [] u18 0 0 (none, r, 0, 0)
  refine mx_S.pu (pc2 := 304) (lv2 := [(0, .ref l0), (1, .int l1)]) (st2 := []) hm dX5_stepObject_176 rfl ?_
  cases hf
  exact sx_ret hm dX5_stepObject_304 rfl
set_option maxHeartbeats 4000000 in
set_option maxRecDepth 20000 in
theorem j_X5_stepObject_164_ok (X : Nat × (Nat → Int32)) {F L : Nat} (hF : 5 ≤ F) (hL : 132 ≤ L) (nn : Nat) (l0 : Nat) (h : mx_H) {r : mx_H} (hf : j_X5_stepObject_164 nn l0 h = some r) : mx_S X F L 162 164 [(0, .ref l0)] [] h 0 0 (none, r, 0, 0) := by
  have hm : mx_mt 162 = some (yX5_stepObject, cX5_stepObject, 3, none) := mt_X5_stepObject
  unfold j_X5_stepObject_164 at hf
  refine mx_S.pu (pc2 := 165) (lv2 := [(0, .ref l0)]) (st2 := [.ref l0]) hm dX5_stepObject_164 rfl ?_
  replace hf := mx_gd_el hf; obtain ⟨c19, hf⟩ := hf
  replace hf := mx_sv_el hf; obtain ⟨u20, e_u20, hf⟩ := hf
  refine sx_cv hm dX5_stepObject_165 rs_RX5_187 mt_X5_stepElement [] [] (b := l0) (ci := 5) rfl rfl rfl c19 (Nat.le_of_ble_eq_true rfl) (Nat.le_of_ble_eq_true rfl) (by omega) (by omega) (f_X5_stepElement_ok X (by omega) (by omega) nn l0 h e_u20) ?_
  clear e_u20
  show mx_S X F L 162 168 [(0, .ref l0)] [] u20 0 0 (none, r, 0, 0)
  refine mx_S.pu (pc2 := 304) (lv2 := [(0, .ref l0)]) (st2 := []) hm dX5_stepObject_168 rfl ?_
  cases hf
  exact sx_ret hm dX5_stepObject_304 rfl
set_option maxHeartbeats 4000000 in
set_option maxRecDepth 20000 in
theorem f_X5_stepObject_ok (X : Nat × (Nat → Int32)) {F L : Nat} (hF : 5 ≤ F) (hL : 132 ≤ L) (nn : Nat) (a0 : Nat) (a1 : Int32) (a2 : Int32) (h : mx_H) {r : mx_H} (hf : f_X5_stepObject nn a0 a1 a2 h = some r) : mx_R X F L 162 [.ref a0, .int a1, .int a2] h (none, r, 0, 0) := by
  have hm : mx_mt 162 = some (yX5_stepObject, cX5_stepObject, 3, none) := mt_X5_stepObject
  show mx_S X F L 162 0 [(0, .ref a0), (1, .int a1), (2, .int a2)] [] h 0 0 (none, r, 0, 0)
  unfold f_X5_stepObject at hf
  refine mx_S.pu (pc2 := 1) (lv2 := [(0, .ref a0), (1, .int a1), (2, .int a2)]) (st2 := [.int a1]) hm dX5_stepObject_0 rfl ?_
  rcases mx_if_el hf with ⟨n_0, hf⟩ | ⟨n_0, hf⟩
  · refine sx_look hm dX5_stepObject_1 rfl (off := 163) (by rw [n_0]; rfl) (tgt := 164) rfl ?_
    clear n_0
    refine mx_S.ext [(0, .ref a0)] (mx_sub_pos [0] rfl (show ([0, 1, 2] : List Nat).Nodup by decide)) ?_
    exact j_X5_stepObject_164_ok X hF hL nn a0 h hf
  · rcases mx_if_el hf with ⟨n_1, hf⟩ | ⟨n_1, hf⟩
    · refine sx_look hm dX5_stepObject_1 rfl (off := 163) (by rw [n_1]; rfl) (tgt := 164) rfl ?_
      clear n_0 n_1
      refine mx_S.ext [(0, .ref a0)] (mx_sub_pos [0] rfl (show ([0, 1, 2] : List Nat).Nodup by decide)) ?_
      exact j_X5_stepObject_164_ok X hF hL nn a0 h hf
    · rcases mx_if_el hf with ⟨n_2, hf⟩ | ⟨n_2, hf⟩
      · refine sx_look hm dX5_stepObject_1 rfl (off := 170) (by rw [n_2]; rfl) (tgt := 171) rfl ?_
        clear n_0 n_1 n_2
        refine mx_S.ext [(0, .ref a0), (1, .int a1)] (mx_sub_pos [0, 1] rfl (show ([0, 1, 2] : List Nat).Nodup by decide)) ?_
        exact j_X5_stepObject_171_ok X hF hL nn a0 a1 h hf
      · rcases mx_if_el hf with ⟨n_3, hf⟩ | ⟨n_3, hf⟩
        · refine sx_look hm dX5_stepObject_1 rfl (off := 170) (by rw [n_3]; rfl) (tgt := 171) rfl ?_
          clear n_0 n_1 n_2 n_3
          refine mx_S.ext [(0, .ref a0), (1, .int a1)] (mx_sub_pos [0, 1] rfl (show ([0, 1, 2] : List Nat).Nodup by decide)) ?_
          exact j_X5_stepObject_171_ok X hF hL nn a0 a1 h hf
        · rcases mx_if_el hf with ⟨n_4, hf⟩ | ⟨n_4, hf⟩
          · refine sx_look hm dX5_stepObject_1 rfl (off := 178) (by rw [n_4]; rfl) (tgt := 179) rfl ?_
            clear n_0 n_1 n_2 n_3 n_4
            refine mx_S.ext [(0, .ref a0), (1, .int a1)] (mx_sub_pos [0, 1] rfl (show ([0, 1, 2] : List Nat).Nodup by decide)) ?_
            exact j_X5_stepObject_179_ok X hF hL nn a0 a1 h hf
          · rcases mx_if_el hf with ⟨n_5, hf⟩ | ⟨n_5, hf⟩
            · refine sx_look hm dX5_stepObject_1 rfl (off := 178) (by rw [n_5]; rfl) (tgt := 179) rfl ?_
              clear n_0 n_1 n_2 n_3 n_4 n_5
              refine mx_S.ext [(0, .ref a0), (1, .int a1)] (mx_sub_pos [0, 1] rfl (show ([0, 1, 2] : List Nat).Nodup by decide)) ?_
              exact j_X5_stepObject_179_ok X hF hL nn a0 a1 h hf
            · rcases mx_if_el hf with ⟨n_6, hf⟩ | ⟨n_6, hf⟩
              · refine sx_look hm dX5_stepObject_1 rfl (off := 178) (by rw [n_6]; rfl) (tgt := 179) rfl ?_
                clear n_0 n_1 n_2 n_3 n_4 n_5 n_6
                refine mx_S.ext [(0, .ref a0), (1, .int a1)] (mx_sub_pos [0, 1] rfl (show ([0, 1, 2] : List Nat).Nodup by decide)) ?_
                exact j_X5_stepObject_179_ok X hF hL nn a0 a1 h hf
              · rcases mx_if_el hf with ⟨n_7, hf⟩ | ⟨n_7, hf⟩
                · refine sx_look hm dX5_stepObject_1 rfl (off := 186) (by rw [n_7]; rfl) (tgt := 187) rfl ?_
                  clear n_0 n_1 n_2 n_3 n_4 n_5 n_6 n_7
                  refine mx_S.pu (pc2 := 188) (lv2 := [(0, .ref a0), (1, .int a1), (2, .int a2)]) (st2 := [.ref a0]) hm dX5_stepObject_187 rfl ?_
                  refine mx_S.pu (pc2 := 189) (lv2 := [(0, .ref a0), (1, .int a1), (2, .int a2)]) (st2 := [.int a2, .ref a0]) hm dX5_stepObject_188 rfl ?_
                  replace hf := mx_gd_el hf; obtain ⟨c22, hf⟩ := hf
                  replace hf := mx_sv_el hf; obtain ⟨u23, e_u23, hf⟩ := hf
                  refine sx_cv hm dX5_stepObject_189 rs_RX5_196 mt_X5_stepField [.int a2] [] (b := a0) (ci := 5) rfl rfl rfl c22 (Nat.le_of_ble_eq_true rfl) (Nat.le_of_ble_eq_true rfl) (by omega) (by omega) (f_X5_stepField_ok X (by omega) (by omega) nn a0 a2 h e_u23) ?_
                  clear e_u23
                  show mx_S X F L 162 192 [(0, .ref a0), (1, .int a1), (2, .int a2)] [] u23 0 0 (none, r, 0, 0)
                  refine mx_S.pu (pc2 := 304) (lv2 := [(0, .ref a0), (1, .int a1), (2, .int a2)]) (st2 := []) hm dX5_stepObject_192 rfl ?_
                  cases hf
                  exact sx_ret hm dX5_stepObject_304 rfl
                · rcases mx_if_el hf with ⟨n_8, hf⟩ | ⟨n_8, hf⟩
                  · refine sx_look hm dX5_stepObject_1 rfl (off := 194) (by rw [n_8]; rfl) (tgt := 195) rfl ?_
                    clear n_0 n_1 n_2 n_3 n_4 n_5 n_6 n_7 n_8
                    refine mx_S.pu (pc2 := 196) (lv2 := [(0, .ref a0), (1, .int a1), (2, .int a2)]) (st2 := [.ref a0]) hm dX5_stepObject_195 rfl ?_
                    refine mx_S.pu (pc2 := 197) (lv2 := [(0, .ref a0), (1, .int a1), (2, .int a2)]) (st2 := [.int a2, .ref a0]) hm dX5_stepObject_196 rfl ?_
                    replace hf := mx_gd_el hf; obtain ⟨c24, hf⟩ := hf
                    replace hf := mx_sv_el hf; obtain ⟨u25, e_u25, hf⟩ := hf
                    refine sx_cv hm dX5_stepObject_197 rs_RX5_199 mt_X5_stepGiveField [.int a2] [] (b := a0) (ci := 5) rfl rfl rfl c24 (Nat.le_of_ble_eq_true rfl) (Nat.le_of_ble_eq_true rfl) (by omega) (by omega) (f_X5_stepGiveField_ok X (by omega) (by omega) nn a0 a2 h e_u25) ?_
                    clear e_u25
                    show mx_S X F L 162 200 [(0, .ref a0), (1, .int a1), (2, .int a2)] [] u25 0 0 (none, r, 0, 0)
                    refine mx_S.pu (pc2 := 304) (lv2 := [(0, .ref a0), (1, .int a1), (2, .int a2)]) (st2 := []) hm dX5_stepObject_200 rfl ?_
                    cases hf
                    exact sx_ret hm dX5_stepObject_304 rfl
                  · rcases mx_if_el hf with ⟨n_9, hf⟩ | ⟨n_9, hf⟩
                    · refine sx_look hm dX5_stepObject_1 rfl (off := 202) (by rw [n_9]; rfl) (tgt := 203) rfl ?_
                      clear n_0 n_1 n_2 n_3 n_4 n_5 n_6 n_7 n_8 n_9
                      exact j_X5_stepObject_203_ok X hF hL nn a0 a1 a2 h hf
                    · rcases mx_if_el hf with ⟨n_10, hf⟩ | ⟨n_10, hf⟩
                      · refine sx_look hm dX5_stepObject_1 rfl (off := 202) (by rw [n_10]; rfl) (tgt := 203) rfl ?_
                        clear n_0 n_1 n_2 n_3 n_4 n_5 n_6 n_7 n_8 n_9 n_10
                        exact j_X5_stepObject_203_ok X hF hL nn a0 a1 a2 h hf
                      · rcases mx_if_el hf with ⟨n_11, hf⟩ | ⟨n_11, hf⟩
                        · refine sx_look hm dX5_stepObject_1 rfl (off := 211) (by rw [n_11]; rfl) (tgt := 212) rfl ?_
                          clear n_0 n_1 n_2 n_3 n_4 n_5 n_6 n_7 n_8 n_9 n_10 n_11
                          refine mx_S.pu (pc2 := 213) (lv2 := [(0, .ref a0), (1, .int a1), (2, .int a2)]) (st2 := [.ref a0]) hm dX5_stepObject_212 rfl ?_
                          replace hf := mx_gd_el hf; obtain ⟨c26, hf⟩ := hf
                          replace hf := mx_sv_el hf; obtain ⟨u27, e_u27, hf⟩ := hf
                          refine sx_cv hm dX5_stepObject_213 rs_RX5_205 mt_X5_stepPrint [] [] (b := a0) (ci := 5) rfl rfl rfl c26 (Nat.le_of_ble_eq_true rfl) (Nat.le_of_ble_eq_true rfl) (by omega) (by omega) (f_X5_stepPrint_ok X (by omega) (by omega) nn a0 h e_u27) ?_
                          clear e_u27
                          show mx_S X F L 162 216 [(0, .ref a0), (1, .int a1), (2, .int a2)] [] u27 0 0 (none, r, 0, 0)
                          refine mx_S.pu (pc2 := 304) (lv2 := [(0, .ref a0), (1, .int a1), (2, .int a2)]) (st2 := []) hm dX5_stepObject_216 rfl ?_
                          cases hf
                          exact sx_ret hm dX5_stepObject_304 rfl
                        · rcases mx_if_el hf with ⟨n_12, hf⟩ | ⟨n_12, hf⟩
                          · refine sx_look hm dX5_stepObject_1 rfl (off := 218) (by rw [n_12]; rfl) (tgt := 219) rfl ?_
                            clear n_0 n_1 n_2 n_3 n_4 n_5 n_6 n_7 n_8 n_9 n_10 n_11 n_12
                            refine mx_S.pu (pc2 := 220) (lv2 := [(0, .ref a0), (1, .int a1), (2, .int a2)]) (st2 := [.ref a0]) hm dX5_stepObject_219 rfl ?_
                            refine mx_S.pu (pc2 := 221) (lv2 := [(0, .ref a0), (1, .int a1), (2, .int a2)]) (st2 := [.ref a0, .ref a0]) hm dX5_stepObject_220 rfl ?_
                            refine mx_S.pu (pc2 := 222) (lv2 := [(0, .ref a0), (1, .int a1), (2, .int a2)]) (st2 := [.int a2, .ref a0, .ref a0]) hm dX5_stepObject_221 rfl ?_
                            replace hf := mx_gd_el hf; obtain ⟨c28, hf⟩ := hf
                            replace hf := mx_sv_el hf; obtain ⟨u29, e_u29, hf⟩ := hf
                            refine sx_cv hm dX5_stepObject_222 rs_RX5_149 mt_X5_link [.int a2] [.ref a0] (b := a0) (ci := 5) rfl rfl rfl c28 (Nat.le_of_ble_eq_true rfl) (Nat.le_of_ble_eq_true rfl) (by omega) (by omega) (f_X5_link_ok X (by omega) (by omega) nn a0 a2 h e_u29) ?_
                            clear e_u29
                            show mx_S X F L 162 225 [(0, .ref a0), (1, .int a1), (2, .int a2)] [.int u29.1, .ref a0] u29.2 0 0 (none, r, 0, 0)
                            refine mx_S.pu (pc2 := 226) (lv2 := [(0, .ref a0), (1, .int a1), (2, .int a2)]) (st2 := [.ref a0, .int u29.1, .ref a0]) hm dX5_stepObject_225 rfl ?_
                            replace hf := mx_sv_el hf; obtain ⟨v30, e_v30, hf⟩ := hf
                            refine sx_get hm dX5_stepObject_226 rs_RX5_41 (xgr_el e_v30) ?_
                            clear e_v30
                            refine mx_S.pu (pc2 := 230) (lv2 := [(0, .ref a0), (1, .int a1), (2, .int a2)]) (st2 := [.ref a0, .ref v30, .int u29.1, .ref a0]) hm dX5_stepObject_229 rfl ?_
                            refine mx_S.pu (pc2 := 231) (lv2 := [(0, .ref a0), (1, .int a1), (2, .int a2)]) (st2 := [.int a2, .ref a0, .ref v30, .int u29.1, .ref a0]) hm dX5_stepObject_230 rfl ?_
                            replace hf := mx_gd_el hf; obtain ⟨c31, hf⟩ := hf
                            replace hf := mx_sv_el hf; obtain ⟨u32, e_u32, hf⟩ := hf
                            refine sx_cv hm dX5_stepObject_231 rs_RX5_149 mt_X5_link [.int a2] [.ref v30, .int u29.1, .ref a0] (b := a0) (ci := 5) rfl rfl rfl c31 (Nat.le_of_ble_eq_true rfl) (Nat.le_of_ble_eq_true rfl) (by omega) (by omega) (f_X5_link_ok X (by omega) (by omega) nn a0 a2 u29.2 e_u32) ?_
                            clear e_u32
                            show mx_S X F L 162 234 [(0, .ref a0), (1, .int a1), (2, .int a2)] [.int u32.1, .ref v30, .int u29.1, .ref a0] u32.2 0 0 (none, r, 0, 0)
                            replace hf := mx_gd_el hf; obtain ⟨c33, hf⟩ := hf
                            replace hf := mx_sv_el hf; obtain ⟨u34, e_u34, hf⟩ := hf
                            refine sx_cv hm dX5_stepObject_234 rs_RX5_208 mt_X7_cellsOf [.int u32.1] [.int u29.1, .ref a0] (b := v30) (ci := 7) rfl rfl rfl c33 (Nat.le_of_ble_eq_true rfl) (Nat.le_of_ble_eq_true rfl) (by omega) (by omega) (f_X7_cellsOf_ok X (by omega) (by omega) nn v30 u32.1 u32.2 e_u34) ?_
                            clear e_u34
                            show mx_S X F L 162 237 [(0, .ref a0), (1, .int a1), (2, .int a2)] [.int u34.1, .int u29.1, .ref a0] u34.2 0 0 (none, r, 0, 0)
                            replace hf := mx_gd_el hf; obtain ⟨c35, hf⟩ := hf
                            replace hf := mx_sv_el hf; obtain ⟨u36, e_u36, hf⟩ := hf
                            refine sx_cv hm dX5_stepObject_237 rs_RX5_211 mt_X5_giveNew [.int u29.1, .int u34.1] [] (b := a0) (ci := 5) rfl rfl rfl c35 (Nat.le_of_ble_eq_true rfl) (Nat.le_of_ble_eq_true rfl) (by omega) (by omega) (f_X5_giveNew_ok X (by omega) (by omega) nn a0 u29.1 u34.1 u34.2 e_u36) ?_
                            clear e_u36
                            show mx_S X F L 162 240 [(0, .ref a0), (1, .int a1), (2, .int a2)] [] u36 0 0 (none, r, 0, 0)
                            refine mx_S.pu (pc2 := 304) (lv2 := [(0, .ref a0), (1, .int a1), (2, .int a2)]) (st2 := []) hm dX5_stepObject_240 rfl ?_
                            cases hf
                            exact sx_ret hm dX5_stepObject_304 rfl
                          · rcases mx_if_el hf with ⟨n_13, hf⟩ | ⟨n_13, hf⟩
                            · refine sx_look hm dX5_stepObject_1 rfl (off := 242) (by rw [n_13]; rfl) (tgt := 243) rfl ?_
                              clear n_0 n_1 n_2 n_3 n_4 n_5 n_6 n_7 n_8 n_9 n_10 n_11 n_12 n_13
                              exact j_X5_stepObject_243_ok X hF hL nn a0 a1 a2 h hf
                            · rcases mx_if_el hf with ⟨n_14, hf⟩ | ⟨n_14, hf⟩
                              · refine sx_look hm dX5_stepObject_1 rfl (off := 242) (by rw [n_14]; rfl) (tgt := 243) rfl ?_
                                clear n_0 n_1 n_2 n_3 n_4 n_5 n_6 n_7 n_8 n_9 n_10 n_11 n_12 n_13 n_14
                                exact j_X5_stepObject_243_ok X hF hL nn a0 a1 a2 h hf
                              · rcases mx_if_el hf with ⟨n_15, hf⟩ | ⟨n_15, hf⟩
                                · refine sx_look hm dX5_stepObject_1 rfl (off := 270) (by rw [n_15]; rfl) (tgt := 271) rfl ?_
                                  clear n_0 n_1 n_2 n_3 n_4 n_5 n_6 n_7 n_8 n_9 n_10 n_11 n_12 n_13 n_14 n_15
                                  refine mx_S.pu (pc2 := 272) (lv2 := [(0, .ref a0), (1, .int a1), (2, .int a2)]) (st2 := [.ref a0]) hm dX5_stepObject_271 rfl ?_
                                  replace hf := mx_gd_el hf; obtain ⟨c37, hf⟩ := hf
                                  replace hf := mx_sv_el hf; obtain ⟨u38, e_u38, hf⟩ := hf
                                  refine sx_cv hm dX5_stepObject_272 rs_RX5_217 mt_X5_stepLength [] [] (b := a0) (ci := 5) rfl rfl rfl c37 (Nat.le_of_ble_eq_true rfl) (Nat.le_of_ble_eq_true rfl) (by omega) (by omega) (f_X5_stepLength_ok X (by omega) (by omega) nn a0 h e_u38) ?_
                                  clear e_u38
                                  show mx_S X F L 162 275 [(0, .ref a0), (1, .int a1), (2, .int a2)] [] u38 0 0 (none, r, 0, 0)
                                  refine mx_S.pu (pc2 := 304) (lv2 := [(0, .ref a0), (1, .int a1), (2, .int a2)]) (st2 := []) hm dX5_stepObject_275 rfl ?_
                                  cases hf
                                  exact sx_ret hm dX5_stepObject_304 rfl
                                · rcases mx_if_el hf with ⟨n_16, hf⟩ | ⟨n_16, hf⟩
                                  · refine sx_look hm dX5_stepObject_1 rfl (off := 277) (by rw [n_16]; rfl) (tgt := 278) rfl ?_
                                    clear n_0 n_1 n_2 n_3 n_4 n_5 n_6 n_7 n_8 n_9 n_10 n_11 n_12 n_13 n_14 n_15 n_16
                                    refine mx_S.pu (pc2 := 279) (lv2 := [(0, .ref a0), (1, .int a1), (2, .int a2)]) (st2 := [.ref a0]) hm dX5_stepObject_278 rfl ?_
                                    replace hf := mx_gd_el hf; obtain ⟨c39, hf⟩ := hf
                                    replace hf := mx_sv_el hf; obtain ⟨u40, e_u40, hf⟩ := hf
                                    refine sx_cv hm dX5_stepObject_279 rs_RX5_220 mt_X5_stepThrow [] [] (b := a0) (ci := 5) rfl rfl rfl c39 (Nat.le_of_ble_eq_true rfl) (Nat.le_of_ble_eq_true rfl) (by omega) (by omega) (f_X5_stepThrow_ok X (by omega) (by omega) nn a0 h e_u40) ?_
                                    clear e_u40
                                    show mx_S X F L 162 282 [(0, .ref a0), (1, .int a1), (2, .int a2)] [] u40 0 0 (none, r, 0, 0)
                                    refine mx_S.pu (pc2 := 304) (lv2 := [(0, .ref a0), (1, .int a1), (2, .int a2)]) (st2 := []) hm dX5_stepObject_282 rfl ?_
                                    cases hf
                                    exact sx_ret hm dX5_stepObject_304 rfl
                                  · rcases mx_if_el hf with ⟨n_17, hf⟩ | ⟨n_17, hf⟩
                                    · refine sx_look hm dX5_stepObject_1 rfl (off := 284) (by rw [n_17]; rfl) (tgt := 285) rfl ?_
                                      clear n_0 n_1 n_2 n_3 n_4 n_5 n_6 n_7 n_8 n_9 n_10 n_11 n_12 n_13 n_14 n_15 n_16 n_17
                                      exact j_X5_stepObject_285_ok X hF hL nn a0 a1 a2 h hf
                                    · rcases mx_if_el hf with ⟨n_18, hf⟩ | ⟨n_18, hf⟩
                                      · refine sx_look hm dX5_stepObject_1 rfl (off := 284) (by rw [n_18]; rfl) (tgt := 285) rfl ?_
                                        clear n_0 n_1 n_2 n_3 n_4 n_5 n_6 n_7 n_8 n_9 n_10 n_11 n_12 n_13 n_14 n_15 n_16 n_17 n_18
                                        exact j_X5_stepObject_285_ok X hF hL nn a0 a1 a2 h hf
                                      · refine sx_look hm dX5_stepObject_1 rfl (off := 297) (by show Op.lookupswitch.offset [(46, 163), (50, 163), (79, 170), (83, 170), (172, 178), (176, 178), (177, 178), (180, 186), (181, 194), (182, 202), (184, 202), (186, 211), (187, 218), (188, 242), (189, 242), (190, 270), (191, 277), (192, 284), (193, 284)] 297 a1.toInt = _; rw [lv_osw n_0 (by decide), lv_osw n_1 (by decide), lv_osw n_2 (by decide), lv_osw n_3 (by decide), lv_osw n_4 (by decide), lv_osw n_5 (by decide), lv_osw n_6 (by decide), lv_osw n_7 (by decide), lv_osw n_8 (by decide), lv_osw n_9 (by decide), lv_osw n_10 (by decide), lv_osw n_11 (by decide), lv_osw n_12 (by decide), lv_osw n_13 (by decide), lv_osw n_14 (by decide), lv_osw n_15 (by decide), lv_osw n_16 (by decide), lv_osw n_17 (by decide), lv_osw n_18 (by decide)]; rfl) (tgt := 298) rfl ?_
                                        refine mx_S.pu (pc2 := 299) (lv2 := [(0, .ref a0), (1, .int a1), (2, .int a2)]) (st2 := [.ref a0]) hm dX5_stepObject_298 rfl ?_
                                        refine sx_bi (v := 6) hm dX5_stepObject_299 (by decide) ?_
                                        replace hf := mx_sv_el hf; obtain ⟨h21, e_h21, hf⟩ := hf
                                        refine sx_put hm dX5_stepObject_301 rs_RX5_54 ft_5_1 ⟨rfl, rfl⟩ (fun z => by cases z) e_h21 ?_
                                        clear e_h21
                                        cases hf
                                        exact sx_ret hm dX5_stepObject_304 rfl
set_option maxHeartbeats 4000000 in
set_option maxRecDepth 20000 in
theorem j_X5_step_247_ok (X : Nat × (Nat → Int32)) {F L : Nat} (hF : 6 ≤ F) (hL : 154 ≤ L) (nn : Nat) (l0 : Nat) (l2 : Int32) (l3 : Int32) (h : mx_H) {r : mx_H} (hf : j_X5_step_247 nn l0 l2 l3 h = some r) : mx_S X F L 156 247 [(0, .ref l0), (2, .int l2), (3, .int l3)] [] h 0 0 (none, r, 0, 0) := by
  have hm : mx_mt 156 = some (yX5_step, cX5_step, 5, none) := mt_X5_step
  unfold j_X5_step_247 at hf
  refine mx_S.pu (pc2 := 248) (lv2 := [(0, .ref l0), (2, .int l2), (3, .int l3)]) (st2 := [.ref l0]) hm dX5_step_247 rfl ?_
  refine mx_S.pu (pc2 := 249) (lv2 := [(0, .ref l0), (2, .int l2), (3, .int l3)]) (st2 := [.int l2, .ref l0]) hm dX5_step_248 rfl ?_
  refine mx_S.pu (pc2 := 250) (lv2 := [(0, .ref l0), (2, .int l2), (3, .int l3)]) (st2 := [.int l3, .int l2, .ref l0]) hm dX5_step_249 rfl ?_
  replace hf := mx_gd_el hf; obtain ⟨c1, hf⟩ := hf
  replace hf := mx_sv_el hf; obtain ⟨u2, e_u2, hf⟩ := hf
  refine sx_cv hm dX5_step_250 rs_RX5_151 mt_X5_stepLocal [.int l2, .int l3] [] (b := l0) (ci := 5) rfl rfl rfl c1 (Nat.le_of_ble_eq_true rfl) (Nat.le_of_ble_eq_true rfl) (by omega) (by omega) (f_X5_stepLocal_ok X (by omega) (by omega) nn l0 l2 l3 h e_u2) ?_
  clear e_u2
  show mx_S X F L 156 253 [(0, .ref l0), (2, .int l2), (3, .int l3)] [] u2 0 0 (none, r, 0, 0)
  refine mx_S.pu (pc2 := 341) (lv2 := [(0, .ref l0), (2, .int l2), (3, .int l3)]) (st2 := []) hm dX5_step_253 rfl ?_
  cases hf
  exact sx_ret hm dX5_step_341 rfl
set_option maxHeartbeats 4000000 in
set_option maxRecDepth 20000 in
theorem j_X5_step_213_ok (X : Nat × (Nat → Int32)) {F L : Nat} (hF : 6 ≤ F) (hL : 154 ≤ L) (nn : Nat) (l0 : Nat) (l2 : Int32) (h : mx_H) {r : mx_H} (hf : j_X5_step_213 nn l0 l2 h = some r) : mx_S X F L 156 213 [(0, .ref l0), (2, .int l2)] [] h 0 0 (none, r, 0, 0) := by
  have hm : mx_mt 156 = some (yX5_step, cX5_step, 5, none) := mt_X5_step
  unfold j_X5_step_213 at hf
  refine mx_S.pu (pc2 := 214) (lv2 := [(0, .ref l0), (2, .int l2)]) (st2 := [.ref l0]) hm dX5_step_213 rfl ?_
  refine mx_S.pu (pc2 := 215) (lv2 := [(0, .ref l0), (2, .int l2)]) (st2 := [.int l2, .ref l0]) hm dX5_step_214 rfl ?_
  refine sx_ic (v := 3) hm dX5_step_215 (by decide) ?_
  replace hf := xl_el hf; obtain ⟨v3, e_v3, hf⟩ := hf
  refine mx_S.pu (pc2 := 217) (lv2 := [(0, .ref l0), (2, .int l2)]) (st2 := [.int v3, .ref l0]) hm dX5_step_216 (by rw [← e_v3]; rfl) ?_
  clear e_v3
  refine sx_ic (v := 1) hm dX5_step_217 (by decide) ?_
  replace hf := mx_gd_el hf; obtain ⟨c4, hf⟩ := hf
  replace hf := mx_sv_el hf; obtain ⟨u5, e_u5, hf⟩ := hf
  refine sx_cv hm dX5_step_218 rs_RX5_145 mt_X5_give [.int v3, .int 1] [] (b := l0) (ci := 5) rfl rfl rfl c4 (Nat.le_of_ble_eq_true rfl) (Nat.le_of_ble_eq_true rfl) (by omega) (by omega) (f_X5_give_ok X (by omega) (by omega) nn l0 v3 1 h e_u5) ?_
  clear e_u5
  show mx_S X F L 156 221 [(0, .ref l0), (2, .int l2)] [] u5 0 0 (none, r, 0, 0)
  refine mx_S.pu (pc2 := 341) (lv2 := [(0, .ref l0), (2, .int l2)]) (st2 := []) hm dX5_step_221 rfl ?_
  cases hf
  exact sx_ret hm dX5_step_341 rfl
set_option maxHeartbeats 4000000 in
set_option maxRecDepth 20000 in
theorem f_X5_step_ok (X : Nat × (Nat → Int32)) {F L : Nat} (hF : 6 ≤ F) (hL : 154 ≤ L) (nn : Nat) (a0 : Nat) (h : mx_H) {r : mx_H} (hf : f_X5_step nn a0 h = some r) : mx_R X F L 156 [.ref a0] h (none, r, 0, 0) := by
  have hm : mx_mt 156 = some (yX5_step, cX5_step, 5, none) := mt_X5_step
  show mx_S X F L 156 0 [(0, .ref a0)] [] h 0 0 (none, r, 0, 0)
  unfold f_X5_step at hf
  refine mx_S.pu (pc2 := 1) (lv2 := [(0, .ref a0)]) (st2 := [.ref a0]) hm dX5_step_0 rfl ?_
  replace hf := mx_sv_el hf; obtain ⟨v6, e_v6, hf⟩ := hf
  refine sx_get hm dX5_step_1 rs_RX5_29 (xgr_el e_v6) ?_
  clear e_v6
  refine mx_S.pu (pc2 := 5) (lv2 := [(0, .ref a0)]) (st2 := [.ref a0, .ref v6]) hm dX5_step_4 rfl ?_
  replace hf := mx_sv_el hf; obtain ⟨v7, e_v7, hf⟩ := hf
  refine sx_get hm dX5_step_5 rs_RX5_97 (xgi_el e_v7) ?_
  clear e_v7
  replace hf := mx_sv_el hf; obtain ⟨v8, e_v8, hf⟩ := hf
  refine sx_ald hm dX5_step_8 e_v8 ?_
  clear e_v8
  refine mx_S.pu (pc2 := 10) (lv2 := [(1, .int v8), (0, .ref a0)]) (st2 := []) hm dX5_step_9 rfl ?_
  refine mx_S.pu (pc2 := 11) (lv2 := [(1, .int v8), (0, .ref a0)]) (st2 := [.ref a0]) hm dX5_step_10 rfl ?_
  replace hf := mx_sv_el hf; obtain ⟨v9, e_v9, hf⟩ := hf
  refine sx_get hm dX5_step_11 rs_RX5_46 (xgr_el e_v9) ?_
  clear e_v9
  refine mx_S.pu (pc2 := 15) (lv2 := [(1, .int v8), (0, .ref a0)]) (st2 := [.ref a0, .ref v9]) hm dX5_step_14 rfl ?_
  replace hf := mx_sv_el hf; obtain ⟨v10, e_v10, hf⟩ := hf
  refine sx_get hm dX5_step_15 rs_RX5_129 (xgi_el e_v10) ?_
  clear e_v10
  refine mx_S.pu (pc2 := 19) (lv2 := [(1, .int v8), (0, .ref a0)]) (st2 := [.int v8, .int v10, .ref v9]) hm dX5_step_18 rfl ?_
  replace hf := xl_el hf; obtain ⟨v11, e_v11, hf⟩ := hf
  refine mx_S.pu (pc2 := 20) (lv2 := [(1, .int v8), (0, .ref a0)]) (st2 := [.int v11, .ref v9]) hm dX5_step_19 (by rw [← e_v11]; rfl) ?_
  clear e_v11
  replace hf := mx_gd_el hf; obtain ⟨c12, hf⟩ := hf
  replace hf := mx_sv_el hf; obtain ⟨u13, e_u13, hf⟩ := hf
  refine sx_cv hm dX5_step_20 rs_RX5_141 mt_X3_byteAt [.int v11] [] (b := v9) (ci := 3) rfl rfl rfl c12 (Nat.le_of_ble_eq_true rfl) (Nat.le_of_ble_eq_true rfl) (by omega) (by omega) (f_X3_byteAt_ok X (by omega) (by omega) nn v9 v11 h e_u13) ?_
  clear e_u13
  show mx_S X F L 156 23 [(1, .int v8), (0, .ref a0)] [.int u13.1] u13.2 0 0 (none, r, 0, 0)
  refine mx_S.pu (pc2 := 24) (lv2 := [(2, .int u13.1), (1, .int v8), (0, .ref a0)]) (st2 := []) hm dX5_step_23 rfl ?_
  refine mx_S.pu (pc2 := 25) (lv2 := [(2, .int u13.1), (1, .int v8), (0, .ref a0)]) (st2 := [.ref a0]) hm dX5_step_24 rfl ?_
  replace hf := mx_sv_el hf; obtain ⟨v14, e_v14, hf⟩ := hf
  refine sx_get hm dX5_step_25 rs_RX5_46 (xgr_el e_v14) ?_
  clear e_v14
  refine mx_S.pu (pc2 := 29) (lv2 := [(2, .int u13.1), (1, .int v8), (0, .ref a0)]) (st2 := [.ref a0, .ref v14]) hm dX5_step_28 rfl ?_
  replace hf := mx_sv_el hf; obtain ⟨v15, e_v15, hf⟩ := hf
  refine sx_get hm dX5_step_29 rs_RX5_129 (xgi_el e_v15) ?_
  clear e_v15
  refine mx_S.pu (pc2 := 33) (lv2 := [(2, .int u13.1), (1, .int v8), (0, .ref a0)]) (st2 := [.int v8, .int v15, .ref v14]) hm dX5_step_32 rfl ?_
  replace hf := xl_el hf; obtain ⟨v16, e_v16, hf⟩ := hf
  refine mx_S.pu (pc2 := 34) (lv2 := [(2, .int u13.1), (1, .int v8), (0, .ref a0)]) (st2 := [.int v16, .ref v14]) hm dX5_step_33 (by rw [← e_v16]; rfl) ?_
  clear e_v16
  refine sx_ic (v := 1) hm dX5_step_34 (by decide) ?_
  replace hf := xl_el hf; obtain ⟨v17, e_v17, hf⟩ := hf
  refine mx_S.pu (pc2 := 36) (lv2 := [(2, .int u13.1), (1, .int v8), (0, .ref a0)]) (st2 := [.int v17, .ref v14]) hm dX5_step_35 (by rw [← e_v17]; rfl) ?_
  clear e_v17
  replace hf := mx_gd_el hf; obtain ⟨c18, hf⟩ := hf
  replace hf := mx_sv_el hf; obtain ⟨u19, e_u19, hf⟩ := hf
  refine sx_cv hm dX5_step_36 rs_RX5_141 mt_X3_byteAt [.int v17] [] (b := v14) (ci := 3) rfl rfl rfl c18 (Nat.le_of_ble_eq_true rfl) (Nat.le_of_ble_eq_true rfl) (by omega) (by omega) (f_X3_byteAt_ok X (by omega) (by omega) nn v14 v17 u13.2 e_u19) ?_
  clear e_u19
  show mx_S X F L 156 39 [(2, .int u13.1), (1, .int v8), (0, .ref a0)] [.int u19.1] u19.2 0 0 (none, r, 0, 0)
  refine mx_S.pu (pc2 := 40) (lv2 := [(3, .int u19.1), (2, .int u13.1), (1, .int v8), (0, .ref a0)]) (st2 := []) hm dX5_step_39 rfl ?_
  refine mx_S.pu (pc2 := 41) (lv2 := [(3, .int u19.1), (2, .int u13.1), (1, .int v8), (0, .ref a0)]) (st2 := [.int u13.1]) hm dX5_step_40 rfl ?_
  rcases mx_if_el hf with ⟨n_0, hf⟩ | ⟨n_0, hf⟩
  · refine sx_look hm dX5_step_41 rfl (off := 155) (by rw [n_0]; rfl) (tgt := 196) rfl ?_
    clear n_0
    refine mx_S.pu (pc2 := 197) (lv2 := [(3, .int u19.1), (2, .int u13.1), (1, .int v8), (0, .ref a0)]) (st2 := [.ref a0]) hm dX5_step_196 rfl ?_
    refine sx_ic (v := 1) hm dX5_step_197 (by decide) ?_
    replace hf := mx_gd_el hf; obtain ⟨c30, hf⟩ := hf
    replace hf := mx_sv_el hf; obtain ⟨u31, e_u31, hf⟩ := hf
    refine sx_cv hm dX5_step_198 rs_RX5_138 mt_X5_goOn [.int 1] [] (b := a0) (ci := 5) rfl rfl rfl c30 (Nat.le_of_ble_eq_true rfl) (Nat.le_of_ble_eq_true rfl) (by omega) (by omega) (f_X5_goOn_ok X (by omega) (by omega) nn a0 1 u19.2 e_u31) ?_
    clear e_u31
    show mx_S X F L 156 201 [(3, .int u19.1), (2, .int u13.1), (1, .int v8), (0, .ref a0)] [] u31 0 0 (none, r, 0, 0)
    refine mx_S.pu (pc2 := 341) (lv2 := [(3, .int u19.1), (2, .int u13.1), (1, .int v8), (0, .ref a0)]) (st2 := []) hm dX5_step_201 rfl ?_
    cases hf
    exact sx_ret hm dX5_step_341 rfl
  · rcases mx_if_el hf with ⟨n_1, hf⟩ | ⟨n_1, hf⟩
    · refine sx_look hm dX5_step_41 rfl (off := 163) (by rw [n_1]; rfl) (tgt := 204) rfl ?_
      clear n_0 n_1
      refine mx_S.pu (pc2 := 205) (lv2 := [(3, .int u19.1), (2, .int u13.1), (1, .int v8), (0, .ref a0)]) (st2 := [.ref a0]) hm dX5_step_204 rfl ?_
      refine sx_ic (v := 0) hm dX5_step_205 (by decide) ?_
      refine sx_ic (v := 1) hm dX5_step_206 (by decide) ?_
      replace hf := mx_gd_el hf; obtain ⟨c32, hf⟩ := hf
      replace hf := mx_sv_el hf; obtain ⟨u33, e_u33, hf⟩ := hf
      refine sx_cv hm dX5_step_207 rs_RX5_145 mt_X5_give [.int 0, .int 1] [] (b := a0) (ci := 5) rfl rfl rfl c32 (Nat.le_of_ble_eq_true rfl) (Nat.le_of_ble_eq_true rfl) (by omega) (by omega) (f_X5_give_ok X (by omega) (by omega) nn a0 0 1 u19.2 e_u33) ?_
      clear e_u33
      show mx_S X F L 156 210 [(3, .int u19.1), (2, .int u13.1), (1, .int v8), (0, .ref a0)] [] u33 0 0 (none, r, 0, 0)
      refine mx_S.pu (pc2 := 341) (lv2 := [(3, .int u19.1), (2, .int u13.1), (1, .int v8), (0, .ref a0)]) (st2 := []) hm dX5_step_210 rfl ?_
      cases hf
      exact sx_ret hm dX5_step_341 rfl
    · rcases mx_if_el hf with ⟨n_2, hf⟩ | ⟨n_2, hf⟩
      · refine sx_look hm dX5_step_41 rfl (off := 172) (by rw [n_2]; rfl) (tgt := 213) rfl ?_
        clear n_0 n_1 n_2
        refine mx_S.ext [(0, .ref a0), (2, .int u13.1)] (mx_sub_pos [3, 1] rfl (show ([3, 2, 1, 0] : List Nat).Nodup by decide)) ?_
        exact j_X5_step_213_ok X hF hL nn a0 u13.1 u19.2 hf
      · rcases mx_if_el hf with ⟨n_3, hf⟩ | ⟨n_3, hf⟩
        · refine sx_look hm dX5_step_41 rfl (off := 172) (by rw [n_3]; rfl) (tgt := 213) rfl ?_
          clear n_0 n_1 n_2 n_3
          refine mx_S.ext [(0, .ref a0), (2, .int u13.1)] (mx_sub_pos [3, 1] rfl (show ([3, 2, 1, 0] : List Nat).Nodup by decide)) ?_
          exact j_X5_step_213_ok X hF hL nn a0 u13.1 u19.2 hf
        · rcases mx_if_el hf with ⟨n_4, hf⟩ | ⟨n_4, hf⟩
          · refine sx_look hm dX5_step_41 rfl (off := 172) (by rw [n_4]; rfl) (tgt := 213) rfl ?_
            clear n_0 n_1 n_2 n_3 n_4
            refine mx_S.ext [(0, .ref a0), (2, .int u13.1)] (mx_sub_pos [3, 1] rfl (show ([3, 2, 1, 0] : List Nat).Nodup by decide)) ?_
            exact j_X5_step_213_ok X hF hL nn a0 u13.1 u19.2 hf
          · rcases mx_if_el hf with ⟨n_5, hf⟩ | ⟨n_5, hf⟩
            · refine sx_look hm dX5_step_41 rfl (off := 172) (by rw [n_5]; rfl) (tgt := 213) rfl ?_
              clear n_0 n_1 n_2 n_3 n_4 n_5
              refine mx_S.ext [(0, .ref a0), (2, .int u13.1)] (mx_sub_pos [3, 1] rfl (show ([3, 2, 1, 0] : List Nat).Nodup by decide)) ?_
              exact j_X5_step_213_ok X hF hL nn a0 u13.1 u19.2 hf
            · rcases mx_if_el hf with ⟨n_6, hf⟩ | ⟨n_6, hf⟩
              · refine sx_look hm dX5_step_41 rfl (off := 172) (by rw [n_6]; rfl) (tgt := 213) rfl ?_
                clear n_0 n_1 n_2 n_3 n_4 n_5 n_6
                refine mx_S.ext [(0, .ref a0), (2, .int u13.1)] (mx_sub_pos [3, 1] rfl (show ([3, 2, 1, 0] : List Nat).Nodup by decide)) ?_
                exact j_X5_step_213_ok X hF hL nn a0 u13.1 u19.2 hf
              · rcases mx_if_el hf with ⟨n_7, hf⟩ | ⟨n_7, hf⟩
                · refine sx_look hm dX5_step_41 rfl (off := 172) (by rw [n_7]; rfl) (tgt := 213) rfl ?_
                  clear n_0 n_1 n_2 n_3 n_4 n_5 n_6 n_7
                  refine mx_S.ext [(0, .ref a0), (2, .int u13.1)] (mx_sub_pos [3, 1] rfl (show ([3, 2, 1, 0] : List Nat).Nodup by decide)) ?_
                  exact j_X5_step_213_ok X hF hL nn a0 u13.1 u19.2 hf
                · rcases mx_if_el hf with ⟨n_8, hf⟩ | ⟨n_8, hf⟩
                  · refine sx_look hm dX5_step_41 rfl (off := 172) (by rw [n_8]; rfl) (tgt := 213) rfl ?_
                    clear n_0 n_1 n_2 n_3 n_4 n_5 n_6 n_7 n_8
                    refine mx_S.ext [(0, .ref a0), (2, .int u13.1)] (mx_sub_pos [3, 1] rfl (show ([3, 2, 1, 0] : List Nat).Nodup by decide)) ?_
                    exact j_X5_step_213_ok X hF hL nn a0 u13.1 u19.2 hf
                  · rcases mx_if_el hf with ⟨n_9, hf⟩ | ⟨n_9, hf⟩
                    · refine sx_look hm dX5_step_41 rfl (off := 183) (by rw [n_9]; rfl) (tgt := 224) rfl ?_
                      clear n_0 n_1 n_2 n_3 n_4 n_5 n_6 n_7 n_8 n_9
                      refine mx_S.pu (pc2 := 225) (lv2 := [(3, .int u19.1), (2, .int u13.1), (1, .int v8), (0, .ref a0)]) (st2 := [.ref a0]) hm dX5_step_224 rfl ?_
                      refine mx_S.pu (pc2 := 226) (lv2 := [(3, .int u19.1), (2, .int u13.1), (1, .int v8), (0, .ref a0)]) (st2 := [.int u19.1, .ref a0]) hm dX5_step_225 rfl ?_
                      replace hf := xl_el hf; obtain ⟨v34, e_v34, hf⟩ := hf
                      refine mx_S.pu (pc2 := 227) (lv2 := [(3, .int u19.1), (2, .int u13.1), (1, .int v8), (0, .ref a0)]) (st2 := [.int v34, .ref a0]) hm dX5_step_226 (by rw [← e_v34]; rfl) ?_
                      clear e_v34
                      refine sx_ic (v := 2) hm dX5_step_227 (by decide) ?_
                      replace hf := mx_gd_el hf; obtain ⟨c35, hf⟩ := hf
                      replace hf := mx_sv_el hf; obtain ⟨u36, e_u36, hf⟩ := hf
                      refine sx_cv hm dX5_step_228 rs_RX5_145 mt_X5_give [.int v34, .int 2] [] (b := a0) (ci := 5) rfl rfl rfl c35 (Nat.le_of_ble_eq_true rfl) (Nat.le_of_ble_eq_true rfl) (by omega) (by omega) (f_X5_give_ok X (by omega) (by omega) nn a0 v34 2 u19.2 e_u36) ?_
                      clear e_u36
                      show mx_S X F L 156 231 [(3, .int u19.1), (2, .int u13.1), (1, .int v8), (0, .ref a0)] [] u36 0 0 (none, r, 0, 0)
                      refine mx_S.pu (pc2 := 341) (lv2 := [(3, .int u19.1), (2, .int u13.1), (1, .int v8), (0, .ref a0)]) (st2 := []) hm dX5_step_231 rfl ?_
                      cases hf
                      exact sx_ret hm dX5_step_341 rfl
                    · rcases mx_if_el hf with ⟨n_10, hf⟩ | ⟨n_10, hf⟩
                      · refine sx_look hm dX5_step_41 rfl (off := 193) (by rw [n_10]; rfl) (tgt := 234) rfl ?_
                        clear n_0 n_1 n_2 n_3 n_4 n_5 n_6 n_7 n_8 n_9 n_10
                        refine mx_S.pu (pc2 := 235) (lv2 := [(3, .int u19.1), (2, .int u13.1), (1, .int v8), (0, .ref a0)]) (st2 := [.ref a0]) hm dX5_step_234 rfl ?_
                        refine mx_S.pu (pc2 := 236) (lv2 := [(3, .int u19.1), (2, .int u13.1), (1, .int v8), (0, .ref a0)]) (st2 := [.ref a0, .ref a0]) hm dX5_step_235 rfl ?_
                        refine mx_S.pu (pc2 := 237) (lv2 := [(3, .int u19.1), (2, .int u13.1), (1, .int v8), (0, .ref a0)]) (st2 := [.int u19.1, .ref a0, .ref a0]) hm dX5_step_236 rfl ?_
                        replace hf := mx_gd_el hf; obtain ⟨c37, hf⟩ := hf
                        replace hf := mx_sv_el hf; obtain ⟨u38, e_u38, hf⟩ := hf
                        refine sx_cv hm dX5_step_237 rs_RX5_149 mt_X5_link [.int u19.1] [.ref a0] (b := a0) (ci := 5) rfl rfl rfl c37 (Nat.le_of_ble_eq_true rfl) (Nat.le_of_ble_eq_true rfl) (by omega) (by omega) (f_X5_link_ok X (by omega) (by omega) nn a0 u19.1 u19.2 e_u38) ?_
                        clear e_u38
                        show mx_S X F L 156 240 [(3, .int u19.1), (2, .int u13.1), (1, .int v8), (0, .ref a0)] [.int u38.1, .ref a0] u38.2 0 0 (none, r, 0, 0)
                        refine sx_ic (v := 2) hm dX5_step_240 (by decide) ?_
                        replace hf := mx_gd_el hf; obtain ⟨c39, hf⟩ := hf
                        replace hf := mx_sv_el hf; obtain ⟨u40, e_u40, hf⟩ := hf
                        refine sx_cv hm dX5_step_241 rs_RX5_145 mt_X5_give [.int u38.1, .int 2] [] (b := a0) (ci := 5) rfl rfl rfl c39 (Nat.le_of_ble_eq_true rfl) (Nat.le_of_ble_eq_true rfl) (by omega) (by omega) (f_X5_give_ok X (by omega) (by omega) nn a0 u38.1 2 u38.2 e_u40) ?_
                        clear e_u40
                        show mx_S X F L 156 244 [(3, .int u19.1), (2, .int u13.1), (1, .int v8), (0, .ref a0)] [] u40 0 0 (none, r, 0, 0)
                        refine mx_S.pu (pc2 := 341) (lv2 := [(3, .int u19.1), (2, .int u13.1), (1, .int v8), (0, .ref a0)]) (st2 := []) hm dX5_step_244 rfl ?_
                        cases hf
                        exact sx_ret hm dX5_step_341 rfl
                      · rcases mx_if_el hf with ⟨n_11, hf⟩ | ⟨n_11, hf⟩
                        · refine sx_look hm dX5_step_41 rfl (off := 206) (by rw [n_11]; rfl) (tgt := 247) rfl ?_
                          clear n_0 n_1 n_2 n_3 n_4 n_5 n_6 n_7 n_8 n_9 n_10 n_11
                          refine mx_S.ext [(0, .ref a0), (2, .int u13.1), (3, .int u19.1)] (mx_sub_pos [3, 1, 0] rfl (show ([3, 2, 1, 0] : List Nat).Nodup by decide)) ?_
                          exact j_X5_step_247_ok X hF hL nn a0 u13.1 u19.1 u19.2 hf
                        · rcases mx_if_el hf with ⟨n_12, hf⟩ | ⟨n_12, hf⟩
                          · refine sx_look hm dX5_step_41 rfl (off := 206) (by rw [n_12]; rfl) (tgt := 247) rfl ?_
                            clear n_0 n_1 n_2 n_3 n_4 n_5 n_6 n_7 n_8 n_9 n_10 n_11 n_12
                            refine mx_S.ext [(0, .ref a0), (2, .int u13.1), (3, .int u19.1)] (mx_sub_pos [3, 1, 0] rfl (show ([3, 2, 1, 0] : List Nat).Nodup by decide)) ?_
                            exact j_X5_step_247_ok X hF hL nn a0 u13.1 u19.1 u19.2 hf
                          · rcases mx_if_el hf with ⟨n_13, hf⟩ | ⟨n_13, hf⟩
                            · refine sx_look hm dX5_step_41 rfl (off := 206) (by rw [n_13]; rfl) (tgt := 247) rfl ?_
                              clear n_0 n_1 n_2 n_3 n_4 n_5 n_6 n_7 n_8 n_9 n_10 n_11 n_12 n_13
                              refine mx_S.ext [(0, .ref a0), (2, .int u13.1), (3, .int u19.1)] (mx_sub_pos [3, 1, 0] rfl (show ([3, 2, 1, 0] : List Nat).Nodup by decide)) ?_
                              exact j_X5_step_247_ok X hF hL nn a0 u13.1 u19.1 u19.2 hf
                            · rcases mx_if_el hf with ⟨n_14, hf⟩ | ⟨n_14, hf⟩
                              · refine sx_look hm dX5_step_41 rfl (off := 206) (by rw [n_14]; rfl) (tgt := 247) rfl ?_
                                clear n_0 n_1 n_2 n_3 n_4 n_5 n_6 n_7 n_8 n_9 n_10 n_11 n_12 n_13 n_14
                                refine mx_S.ext [(0, .ref a0), (2, .int u13.1), (3, .int u19.1)] (mx_sub_pos [3, 1, 0] rfl (show ([3, 2, 1, 0] : List Nat).Nodup by decide)) ?_
                                exact j_X5_step_247_ok X hF hL nn a0 u13.1 u19.1 u19.2 hf
                              · rcases mx_if_el hf with ⟨n_15, hf⟩ | ⟨n_15, hf⟩
                                · refine sx_look hm dX5_step_41 rfl (off := 215) (by rw [n_15]; rfl) (tgt := 256) rfl ?_
                                  clear n_0 n_1 n_2 n_3 n_4 n_5 n_6 n_7 n_8 n_9 n_10 n_11 n_12 n_13 n_14 n_15
                                  refine mx_S.pu (pc2 := 257) (lv2 := [(3, .int u19.1), (2, .int u13.1), (1, .int v8), (0, .ref a0)]) (st2 := [.ref a0]) hm dX5_step_256 rfl ?_
                                  replace hf := mx_gd_el hf; obtain ⟨c41, hf⟩ := hf
                                  replace hf := mx_sv_el hf; obtain ⟨u42, e_u42, hf⟩ := hf
                                  refine sx_cv hm dX5_step_257 rs_RX5_154 mt_X5_pop [] [] (b := a0) (ci := 5) rfl rfl rfl c41 (Nat.le_of_ble_eq_true rfl) (Nat.le_of_ble_eq_true rfl) (by omega) (by omega) (f_X5_pop_ok X (by omega) (by omega) nn a0 u19.2 e_u42) ?_
                                  clear e_u42
                                  show mx_S X F L 156 260 [(3, .int u19.1), (2, .int u13.1), (1, .int v8), (0, .ref a0)] [.int u42.1] u42.2 0 0 (none, r, 0, 0)
                                  refine mx_S.pu (pc2 := 261) (lv2 := [(3, .int u19.1), (2, .int u13.1), (1, .int v8), (0, .ref a0)]) (st2 := []) hm dX5_step_260 rfl ?_
                                  refine mx_S.pu (pc2 := 262) (lv2 := [(3, .int u19.1), (2, .int u13.1), (1, .int v8), (0, .ref a0)]) (st2 := [.ref a0]) hm dX5_step_261 rfl ?_
                                  refine sx_ic (v := 1) hm dX5_step_262 (by decide) ?_
                                  replace hf := mx_gd_el hf; obtain ⟨c43, hf⟩ := hf
                                  replace hf := mx_sv_el hf; obtain ⟨u44, e_u44, hf⟩ := hf
                                  refine sx_cv hm dX5_step_263 rs_RX5_138 mt_X5_goOn [.int 1] [] (b := a0) (ci := 5) rfl rfl rfl c43 (Nat.le_of_ble_eq_true rfl) (Nat.le_of_ble_eq_true rfl) (by omega) (by omega) (f_X5_goOn_ok X (by omega) (by omega) nn a0 1 u42.2 e_u44) ?_
                                  clear e_u44
                                  show mx_S X F L 156 266 [(3, .int u19.1), (2, .int u13.1), (1, .int v8), (0, .ref a0)] [] u44 0 0 (none, r, 0, 0)
                                  refine mx_S.pu (pc2 := 341) (lv2 := [(3, .int u19.1), (2, .int u13.1), (1, .int v8), (0, .ref a0)]) (st2 := []) hm dX5_step_266 rfl ?_
                                  cases hf
                                  exact sx_ret hm dX5_step_341 rfl
                                · rcases mx_if_el hf with ⟨n_16, hf⟩ | ⟨n_16, hf⟩
                                  · refine sx_look hm dX5_step_41 rfl (off := 228) (by rw [n_16]; rfl) (tgt := 269) rfl ?_
                                    clear n_0 n_1 n_2 n_3 n_4 n_5 n_6 n_7 n_8 n_9 n_10 n_11 n_12 n_13 n_14 n_15 n_16
                                    refine mx_S.pu (pc2 := 270) (lv2 := [(3, .int u19.1), (2, .int u13.1), (1, .int v8), (0, .ref a0)]) (st2 := [.ref a0]) hm dX5_step_269 rfl ?_
                                    replace hf := mx_gd_el hf; obtain ⟨c45, hf⟩ := hf
                                    replace hf := mx_sv_el hf; obtain ⟨u46, e_u46, hf⟩ := hf
                                    refine sx_cv hm dX5_step_270 rs_RX5_154 mt_X5_pop [] [] (b := a0) (ci := 5) rfl rfl rfl c45 (Nat.le_of_ble_eq_true rfl) (Nat.le_of_ble_eq_true rfl) (by omega) (by omega) (f_X5_pop_ok X (by omega) (by omega) nn a0 u19.2 e_u46) ?_
                                    clear e_u46
                                    show mx_S X F L 156 273 [(3, .int u19.1), (2, .int u13.1), (1, .int v8), (0, .ref a0)] [.int u46.1] u46.2 0 0 (none, r, 0, 0)
                                    refine mx_S.pu (pc2 := 275) (lv2 := [(4, .int u46.1), (3, .int u19.1), (2, .int u13.1), (1, .int v8), (0, .ref a0)]) (st2 := []) hm dX5_step_273 rfl ?_
                                    refine mx_S.pu (pc2 := 276) (lv2 := [(4, .int u46.1), (3, .int u19.1), (2, .int u13.1), (1, .int v8), (0, .ref a0)]) (st2 := [.ref a0]) hm dX5_step_275 rfl ?_
                                    refine mx_S.pu (pc2 := 278) (lv2 := [(4, .int u46.1), (3, .int u19.1), (2, .int u13.1), (1, .int v8), (0, .ref a0)]) (st2 := [.int u46.1, .ref a0]) hm dX5_step_276 rfl ?_
                                    replace hf := mx_gd_el hf; obtain ⟨c47, hf⟩ := hf
                                    replace hf := mx_sv_el hf; obtain ⟨u48, e_u48, hf⟩ := hf
                                    refine sx_cv hm dX5_step_278 rs_RX5_135 mt_X5_push [.int u46.1] [] (b := a0) (ci := 5) rfl rfl rfl c47 (Nat.le_of_ble_eq_true rfl) (Nat.le_of_ble_eq_true rfl) (by omega) (by omega) (f_X5_push_ok X (by omega) (by omega) nn a0 u46.1 u46.2 e_u48) ?_
                                    clear e_u48
                                    show mx_S X F L 156 281 [(4, .int u46.1), (3, .int u19.1), (2, .int u13.1), (1, .int v8), (0, .ref a0)] [] u48 0 0 (none, r, 0, 0)
                                    refine mx_S.pu (pc2 := 282) (lv2 := [(4, .int u46.1), (3, .int u19.1), (2, .int u13.1), (1, .int v8), (0, .ref a0)]) (st2 := [.ref a0]) hm dX5_step_281 rfl ?_
                                    refine mx_S.pu (pc2 := 284) (lv2 := [(4, .int u46.1), (3, .int u19.1), (2, .int u13.1), (1, .int v8), (0, .ref a0)]) (st2 := [.int u46.1, .ref a0]) hm dX5_step_282 rfl ?_
                                    refine sx_ic (v := 1) hm dX5_step_284 (by decide) ?_
                                    replace hf := mx_gd_el hf; obtain ⟨c49, hf⟩ := hf
                                    replace hf := mx_sv_el hf; obtain ⟨u50, e_u50, hf⟩ := hf
                                    refine sx_cv hm dX5_step_285 rs_RX5_145 mt_X5_give [.int u46.1, .int 1] [] (b := a0) (ci := 5) rfl rfl rfl c49 (Nat.le_of_ble_eq_true rfl) (Nat.le_of_ble_eq_true rfl) (by omega) (by omega) (f_X5_give_ok X (by omega) (by omega) nn a0 u46.1 1 u48 e_u50) ?_
                                    clear e_u50
                                    show mx_S X F L 156 288 [(4, .int u46.1), (3, .int u19.1), (2, .int u13.1), (1, .int v8), (0, .ref a0)] [] u50 0 0 (none, r, 0, 0)
                                    refine mx_S.pu (pc2 := 341) (lv2 := [(4, .int u46.1), (3, .int u19.1), (2, .int u13.1), (1, .int v8), (0, .ref a0)]) (st2 := []) hm dX5_step_288 rfl ?_
                                    cases hf
                                    exact sx_ret hm dX5_step_341 rfl
                                  · rcases mx_if_el hf with ⟨n_17, hf⟩ | ⟨n_17, hf⟩
                                    · refine sx_look hm dX5_step_41 rfl (off := 250) (by rw [n_17]; rfl) (tgt := 291) rfl ?_
                                      clear n_0 n_1 n_2 n_3 n_4 n_5 n_6 n_7 n_8 n_9 n_10 n_11 n_12 n_13 n_14 n_15 n_16 n_17
                                      refine mx_S.pu (pc2 := 292) (lv2 := [(3, .int u19.1), (2, .int u13.1), (1, .int v8), (0, .ref a0)]) (st2 := [.ref a0]) hm dX5_step_291 rfl ?_
                                      refine mx_S.pu (pc2 := 293) (lv2 := [(3, .int u19.1), (2, .int u13.1), (1, .int v8), (0, .ref a0)]) (st2 := [.ref a0, .ref a0]) hm dX5_step_292 rfl ?_
                                      replace hf := mx_gd_el hf; obtain ⟨c51, hf⟩ := hf
                                      replace hf := mx_sv_el hf; obtain ⟨u52, e_u52, hf⟩ := hf
                                      refine sx_cv hm dX5_step_293 rs_RX5_154 mt_X5_pop [] [.ref a0] (b := a0) (ci := 5) rfl rfl rfl c51 (Nat.le_of_ble_eq_true rfl) (Nat.le_of_ble_eq_true rfl) (by omega) (by omega) (f_X5_pop_ok X (by omega) (by omega) nn a0 u19.2 e_u52) ?_
                                      clear e_u52
                                      show mx_S X F L 156 296 [(3, .int u19.1), (2, .int u13.1), (1, .int v8), (0, .ref a0)] [.int u52.1, .ref a0] u52.2 0 0 (none, r, 0, 0)
                                      replace hf := xl_el hf; obtain ⟨v53, e_v53, hf⟩ := hf
                                      refine mx_S.pu (pc2 := 297) (lv2 := [(3, .int u19.1), (2, .int u13.1), (1, .int v8), (0, .ref a0)]) (st2 := [.int v53, .ref a0]) hm dX5_step_296 (by rw [← e_v53]; rfl) ?_
                                      clear e_v53
                                      refine sx_ic (v := 1) hm dX5_step_297 (by decide) ?_
                                      replace hf := mx_gd_el hf; obtain ⟨c54, hf⟩ := hf
                                      replace hf := mx_sv_el hf; obtain ⟨u55, e_u55, hf⟩ := hf
                                      refine sx_cv hm dX5_step_298 rs_RX5_145 mt_X5_give [.int v53, .int 1] [] (b := a0) (ci := 5) rfl rfl rfl c54 (Nat.le_of_ble_eq_true rfl) (Nat.le_of_ble_eq_true rfl) (by omega) (by omega) (f_X5_give_ok X (by omega) (by omega) nn a0 v53 1 u52.2 e_u55) ?_
                                      clear e_u55
                                      show mx_S X F L 156 301 [(3, .int u19.1), (2, .int u13.1), (1, .int v8), (0, .ref a0)] [] u55 0 0 (none, r, 0, 0)
                                      refine mx_S.pu (pc2 := 341) (lv2 := [(3, .int u19.1), (2, .int u13.1), (1, .int v8), (0, .ref a0)]) (st2 := []) hm dX5_step_301 rfl ?_
                                      cases hf
                                      exact sx_ret hm dX5_step_341 rfl
                                    · refine sx_look hm dX5_step_41 rfl (off := 263) (by show Op.lookupswitch.offset [(0, 155), (1, 163), (2, 172), (3, 172), (4, 172), (5, 172), (6, 172), (7, 172), (8, 172), (16, 183), (18, 193), (21, 206), (25, 206), (54, 206), (58, 206), (87, 215), (89, 228), (116, 250)] 263 u13.1.toInt = _; rw [lv_osw n_0 (by decide), lv_osw n_1 (by decide), lv_osw n_2 (by decide), lv_osw n_3 (by decide), lv_osw n_4 (by decide), lv_osw n_5 (by decide), lv_osw n_6 (by decide), lv_osw n_7 (by decide), lv_osw n_8 (by decide), lv_osw n_9 (by decide), lv_osw n_10 (by decide), lv_osw n_11 (by decide), lv_osw n_12 (by decide), lv_osw n_13 (by decide), lv_osw n_14 (by decide), lv_osw n_15 (by decide), lv_osw n_16 (by decide), lv_osw n_17 (by decide)]; rfl) (tgt := 304) rfl ?_
                                      refine mx_S.pu (pc2 := 305) (lv2 := [(3, .int u19.1), (2, .int u13.1), (1, .int v8), (0, .ref a0)]) (st2 := [.int u13.1]) hm dX5_step_304 rfl ?_
                                      replace hf := mx_sv_el hf; obtain ⟨u20, e_u20, hf⟩ := hf
                                      refine sx_cs hm dX5_step_305 rs_RX5_158 mt_X11_isJump [.int u13.1] [] rfl rfl (Nat.le_of_ble_eq_true rfl) (Nat.le_of_ble_eq_true rfl) (by omega) (by omega) (f_X11_isJump_ok X (by omega) (by omega) nn u13.1 u19.2 e_u20) ?_
                                      clear e_u20
                                      show mx_S X F L 156 308 [(3, .int u19.1), (2, .int u13.1), (1, .int v8), (0, .ref a0)] [.int u20.1] u20.2 0 0 (none, r, 0, 0)
                                      rcases mx_if_el hf with ⟨c29, hf⟩ | ⟨c29, hf⟩
                                      · refine sb_if_eq hm dX5_step_308 (tgt := 320) rfl (fun _ => ?_) (fun z => absurd c29 z)
                                        refine mx_S.pu (pc2 := 321) (lv2 := [(3, .int u19.1), (2, .int u13.1), (1, .int v8), (0, .ref a0)]) (st2 := [.int u13.1]) hm dX5_step_320 rfl ?_
                                        replace hf := mx_sv_el hf; obtain ⟨u21, e_u21, hf⟩ := hf
                                        refine sx_cs hm dX5_step_321 rs_RX5_167 mt_X11_isArithmetic [.int u13.1] [] rfl rfl (Nat.le_of_ble_eq_true rfl) (Nat.le_of_ble_eq_true rfl) (by omega) (by omega) (f_X11_isArithmetic_ok X (by omega) (by omega) nn u13.1 u20.2 e_u21) ?_
                                        clear e_u21
                                        show mx_S X F L 156 324 [(3, .int u19.1), (2, .int u13.1), (1, .int v8), (0, .ref a0)] [.int u21.1] u21.2 0 0 (none, r, 0, 0)
                                        rcases mx_if_el hf with ⟨c26, hf⟩ | ⟨c26, hf⟩
                                        · refine sb_if_eq hm dX5_step_324 (tgt := 335) rfl (fun _ => ?_) (fun z => absurd c26 z)
                                          refine mx_S.pu (pc2 := 336) (lv2 := [(3, .int u19.1), (2, .int u13.1), (1, .int v8), (0, .ref a0)]) (st2 := [.ref a0]) hm dX5_step_335 rfl ?_
                                          refine mx_S.pu (pc2 := 337) (lv2 := [(3, .int u19.1), (2, .int u13.1), (1, .int v8), (0, .ref a0)]) (st2 := [.int u13.1, .ref a0]) hm dX5_step_336 rfl ?_
                                          refine mx_S.pu (pc2 := 338) (lv2 := [(3, .int u19.1), (2, .int u13.1), (1, .int v8), (0, .ref a0)]) (st2 := [.int u19.1, .int u13.1, .ref a0]) hm dX5_step_337 rfl ?_
                                          replace hf := mx_gd_el hf; obtain ⟨c22, hf⟩ := hf
                                          replace hf := mx_sv_el hf; obtain ⟨u23, e_u23, hf⟩ := hf
                                          refine sx_cv hm dX5_step_338 rs_RX5_173 mt_X5_stepObject [.int u13.1, .int u19.1] [] (b := a0) (ci := 5) rfl rfl rfl c22 (Nat.le_of_ble_eq_true rfl) (Nat.le_of_ble_eq_true rfl) (by omega) (by omega) (f_X5_stepObject_ok X (by omega) (by omega) nn a0 u13.1 u19.1 u21.2 e_u23) ?_
                                          clear e_u23
                                          show mx_S X F L 156 341 [(3, .int u19.1), (2, .int u13.1), (1, .int v8), (0, .ref a0)] [] u23 0 0 (none, r, 0, 0)
                                          cases hf
                                          exact sx_ret hm dX5_step_341 rfl
                                        · refine sb_if_eq hm dX5_step_324 (tgt := 335) rfl (fun z => absurd z c26) (fun _ => ?_)
                                          refine mx_S.pu (pc2 := 328) (lv2 := [(3, .int u19.1), (2, .int u13.1), (1, .int v8), (0, .ref a0)]) (st2 := [.ref a0]) hm dX5_step_327 rfl ?_
                                          refine mx_S.pu (pc2 := 329) (lv2 := [(3, .int u19.1), (2, .int u13.1), (1, .int v8), (0, .ref a0)]) (st2 := [.int u13.1, .ref a0]) hm dX5_step_328 rfl ?_
                                          replace hf := mx_gd_el hf; obtain ⟨c24, hf⟩ := hf
                                          replace hf := mx_sv_el hf; obtain ⟨u25, e_u25, hf⟩ := hf
                                          refine sx_cv hm dX5_step_329 rs_RX5_170 mt_X5_stepArithmetic [.int u13.1] [] (b := a0) (ci := 5) rfl rfl rfl c24 (Nat.le_of_ble_eq_true rfl) (Nat.le_of_ble_eq_true rfl) (by omega) (by omega) (f_X5_stepArithmetic_ok X (by omega) (by omega) nn a0 u13.1 u21.2 e_u25) ?_
                                          clear e_u25
                                          show mx_S X F L 156 332 [(3, .int u19.1), (2, .int u13.1), (1, .int v8), (0, .ref a0)] [] u25 0 0 (none, r, 0, 0)
                                          refine mx_S.pu (pc2 := 341) (lv2 := [(3, .int u19.1), (2, .int u13.1), (1, .int v8), (0, .ref a0)]) (st2 := []) hm dX5_step_332 rfl ?_
                                          cases hf
                                          exact sx_ret hm dX5_step_341 rfl
                                      · refine sb_if_eq hm dX5_step_308 (tgt := 320) rfl (fun z => absurd z c29) (fun _ => ?_)
                                        refine mx_S.pu (pc2 := 312) (lv2 := [(3, .int u19.1), (2, .int u13.1), (1, .int v8), (0, .ref a0)]) (st2 := [.ref a0]) hm dX5_step_311 rfl ?_
                                        refine mx_S.pu (pc2 := 313) (lv2 := [(3, .int u19.1), (2, .int u13.1), (1, .int v8), (0, .ref a0)]) (st2 := [.int u13.1, .ref a0]) hm dX5_step_312 rfl ?_
                                        refine mx_S.pu (pc2 := 314) (lv2 := [(3, .int u19.1), (2, .int u13.1), (1, .int v8), (0, .ref a0)]) (st2 := [.int v8, .int u13.1, .ref a0]) hm dX5_step_313 rfl ?_
                                        replace hf := mx_gd_el hf; obtain ⟨c27, hf⟩ := hf
                                        replace hf := mx_sv_el hf; obtain ⟨u28, e_u28, hf⟩ := hf
                                        refine sx_cv hm dX5_step_314 rs_RX5_164 mt_X5_stepJump [.int u13.1, .int v8] [] (b := a0) (ci := 5) rfl rfl rfl c27 (Nat.le_of_ble_eq_true rfl) (Nat.le_of_ble_eq_true rfl) (by omega) (by omega) (f_X5_stepJump_ok X (by omega) (by omega) nn a0 u13.1 v8 u20.2 e_u28) ?_
                                        clear e_u28
                                        show mx_S X F L 156 317 [(3, .int u19.1), (2, .int u13.1), (1, .int v8), (0, .ref a0)] [] u28 0 0 (none, r, 0, 0)
                                        refine mx_S.pu (pc2 := 341) (lv2 := [(3, .int u19.1), (2, .int u13.1), (1, .int v8), (0, .ref a0)]) (st2 := []) hm dX5_step_317 rfl ?_
                                        cases hf
                                        exact sx_ret hm dX5_step_341 rfl
