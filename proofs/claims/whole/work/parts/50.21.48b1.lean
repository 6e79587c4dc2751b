set_option maxHeartbeats 4000000 in
set_option maxRecDepth 20000 in
theorem j_X13_scan_65_ok (X : Nat × (Nat → Int32)) {F L : Nat} (hF : 9 ≤ F) (hL : 214 ≤ L) (nn : Nat) (l0 : Nat) (l1 : Int32) (h : mx_H) {r : mx_H} (hf : j_X13_scan_65 nn l0 l1 h = some r) : mx_S X F L 502 65 [(0, .ref l0), (1, .int l1)] [] h 0 0 (none, r, 0, 0) := by
  have hm : mx_mt 502 = some (yX13_scan, cX13_scan, 5, none) := mt_X13_scan
  unfold j_X13_scan_65 at hf
  refine mx_S.pu (pc2 := 66) (lv2 := [(0, .ref l0), (1, .int l1)]) (st2 := [.ref l0]) hm dX13_scan_65 rfl ?_
  refine sx_ic (v := 2) hm dX13_scan_66 (by decide) ?_
  replace hf := mx_gd_el hf; obtain ⟨c96, hf⟩ := hf
  replace hf := mx_sv_el hf; obtain ⟨u97, e_u97, hf⟩ := hf
  refine sx_cv hm dX13_scan_67 rs_RX13_800 mt_X13_isByte [.int 2] [] (b := l0) (ci := 13) rfl rfl rfl c96 (Nat.le_of_ble_eq_true rfl) (Nat.le_of_ble_eq_true rfl) (by omega) (by omega) (f_X13_isByte_ok X (by omega) (by omega) nn l0 2 h e_u97) ?_
  clear e_u97
  show mx_S X F L 502 70 [(0, .ref l0), (1, .int l1)] [.int u97.1] u97.2 0 0 (none, r, 0, 0)
  rcases mx_if_el hf with ⟨c100, hf⟩ | ⟨c100, hf⟩
  · refine sb_if_ne hm dX13_scan_70 (tgt := 74) rfl (fun _ => ?_) (fun z => absurd c100 z)
    refine mx_S.pu (pc2 := 75) (lv2 := [(0, .ref l0), (1, .int l1)]) (st2 := [.ref l0]) hm dX13_scan_74 rfl ?_
    replace hf := mx_sv_el hf; obtain ⟨v98, e_v98, hf⟩ := hf
    refine sx_get hm dX13_scan_75 rs_RX13_245 (xgr_el e_v98) ?_
    clear e_v98
    refine sx_ic (v := 2) hm dX13_scan_78 (by decide) ?_
    replace hf := mx_sv_el hf; obtain ⟨v99, e_v99, hf⟩ := hf
    refine sx_ald hm dX13_scan_79 e_v99 ?_
    clear e_v99
    refine mx_S.pu (pc2 := 81) (lv2 := [(2, .int v99), (0, .ref l0), (1, .int l1)]) (st2 := []) hm dX13_scan_80 rfl ?_
    refine sx_ic (v := 3) hm dX13_scan_81 (by decide) ?_
    refine mx_S.pu (pc2 := 83) (lv2 := [(3, .int 3), (2, .int v99), (0, .ref l0), (1, .int l1)]) (st2 := []) hm dX13_scan_82 rfl ?_
    refine sx_ic (v := 1) hm dX13_scan_83 (by decide) ?_
    refine mx_S.pu (pc2 := 86) (lv2 := [(4, .int 1), (3, .int 3), (2, .int v99), (0, .ref l0), (1, .int l1)]) (st2 := []) hm dX13_scan_84 rfl ?_
    refine mx_S.ext [(0, .ref l0), (1, .int l1), (2, .int v99), (3, .int 3), (4, .int 1)] (mx_sub_pos [3, 4, 2, 1, 0] rfl (show ([4, 3, 2, 0, 1] : List Nat).Nodup by decide)) ?_
    exact w_X13_scan_86_ok X hF hL nn nn l0 l1 v99 3 1 u97.2 _ hf
  · refine sb_if_ne hm dX13_scan_70 (tgt := 74) rfl (fun z => absurd z c100) (fun _ => ?_)
    cases hf
    exact sx_ret hm dX13_scan_73 rfl
set_option maxHeartbeats 4000000 in
set_option maxRecDepth 20000 in
theorem j_X13_scan_41_ok (X : Nat × (Nat → Int32)) {F L : Nat} (hF : 9 ≤ F) (hL : 214 ≤ L) (nn : Nat) (l0 : Nat) (l1 : Int32) (h : mx_H) {r : mx_H} (hf : j_X13_scan_41 nn l0 l1 h = some r) : mx_S X F L 502 41 [(0, .ref l0), (1, .int l1)] [] h 0 0 (none, r, 0, 0) := by
  have hm : mx_mt 502 = some (yX13_scan, cX13_scan, 5, none) := mt_X13_scan
  unfold j_X13_scan_41 at hf
  refine mx_S.pu (pc2 := 42) (lv2 := [(0, .ref l0), (1, .int l1)]) (st2 := [.ref l0]) hm dX13_scan_41 rfl ?_
  refine sx_ic (v := 1) hm dX13_scan_42 (by decide) ?_
  replace hf := mx_gd_el hf; obtain ⟨c101, hf⟩ := hf
  replace hf := mx_sv_el hf; obtain ⟨u102, e_u102, hf⟩ := hf
  refine sx_cv hm dX13_scan_43 rs_RX13_800 mt_X13_isByte [.int 1] [] (b := l0) (ci := 13) rfl rfl rfl c101 (Nat.le_of_ble_eq_true rfl) (Nat.le_of_ble_eq_true rfl) (by omega) (by omega) (f_X13_isByte_ok X (by omega) (by omega) nn l0 1 h e_u102) ?_
  clear e_u102
  show mx_S X F L 502 46 [(0, .ref l0), (1, .int l1)] [.int u102.1] u102.2 0 0 (none, r, 0, 0)
  rcases mx_if_el hf with ⟨c108, hf⟩ | ⟨c108, hf⟩
  · refine sb_if_eq hm dX13_scan_46 (tgt := 65) rfl (fun _ => ?_) (fun z => absurd c108 z)
    exact j_X13_scan_65_ok X hF hL nn l0 l1 u102.2 hf
  · refine sb_if_eq hm dX13_scan_46 (tgt := 65) rfl (fun z => absurd z c108) (fun _ => ?_)
    refine mx_S.pu (pc2 := 50) (lv2 := [(0, .ref l0), (1, .int l1)]) (st2 := [.ref l0]) hm dX13_scan_49 rfl ?_
    replace hf := mx_sv_el hf; obtain ⟨v103, e_v103, hf⟩ := hf
    refine sx_get hm dX13_scan_50 rs_RX13_245 (xgr_el e_v103) ?_
    clear e_v103
    refine sx_ic (v := 1) hm dX13_scan_53 (by decide) ?_
    replace hf := mx_sv_el hf; obtain ⟨v104, e_v104, hf⟩ := hf
    refine sx_ald hm dX13_scan_54 e_v104 ?_
    clear e_v104
    refine sx_bi (v := 77) hm dX13_scan_55 (by decide) ?_
    rcases mx_if_el hf with ⟨c107, hf⟩ | ⟨c107, hf⟩
    · refine sb_ic_eq hm dX13_scan_57 (tgt := 65) rfl (fun _ => ?_) (fun z => absurd c107 z)
      exact j_X13_scan_65_ok X hF hL nn l0 l1 u102.2 hf
    · refine sb_ic_eq hm dX13_scan_57 (tgt := 65) rfl (fun z => absurd z c107) (fun _ => ?_)
      refine mx_S.pu (pc2 := 61) (lv2 := [(0, .ref l0), (1, .int l1)]) (st2 := [.ref l0]) hm dX13_scan_60 rfl ?_
      refine sx_ic (v := 1) hm dX13_scan_61 (by decide) ?_
      replace hf := mx_gd_el hf; obtain ⟨c105, hf⟩ := hf
      replace hf := mx_sv_el hf; obtain ⟨u106, e_u106, hf⟩ := hf
      refine sx_cv hm dX13_scan_62 rs_RX13_803 mt_X13_unfit [.int 1] [] (b := l0) (ci := 13) rfl rfl rfl c105 (Nat.le_of_ble_eq_true rfl) (Nat.le_of_ble_eq_true rfl) (by omega) (by omega) (f_X13_unfit_ok X (by omega) (by omega) nn l0 1 u102.2 e_u106) ?_
      clear e_u106
      show mx_S X F L 502 65 [(0, .ref l0), (1, .int l1)] [] u106 0 0 (none, r, 0, 0)
      exact j_X13_scan_65_ok X hF hL nn l0 l1 u106 hf
set_option maxHeartbeats 4000000 in
set_option maxRecDepth 20000 in
theorem f_X13_scan_ok (X : Nat × (Nat → Int32)) {F L : Nat} (hF : 9 ≤ F) (hL : 214 ≤ L) (nn : Nat) (a0 : Nat) (a1 : Int32) (h : mx_H) {r : mx_H} (hf : f_X13_scan nn a0 a1 h = some r) : mx_R X F L 502 [.ref a0, .int a1] h (none, r, 0, 0) := by
  have hm : mx_mt 502 = some (yX13_scan, cX13_scan, 5, none) := mt_X13_scan
  show mx_S X F L 502 0 [(0, .ref a0), (1, .int a1)] [] h 0 0 (none, r, 0, 0)
  unfold f_X13_scan at hf
  refine mx_S.pu (pc2 := 1) (lv2 := [(0, .ref a0), (1, .int a1)]) (st2 := [.ref a0]) hm dX13_scan_0 rfl ?_
  refine mx_S.pu (pc2 := 2) (lv2 := [(0, .ref a0), (1, .int a1)]) (st2 := [.int a1, .ref a0]) hm dX13_scan_1 rfl ?_
  replace hf := mx_sv_el hf; obtain ⟨h109, e_h109, hf⟩ := hf
  refine sx_put hm dX13_scan_2 rs_RX13_788 ft_13_115 ⟨rfl, rfl⟩ (fun z => by cases z) e_h109 ?_
  clear e_h109
  refine mx_S.pu (pc2 := 6) (lv2 := [(0, .ref a0), (1, .int a1)]) (st2 := [.ref a0]) hm dX13_scan_5 rfl ?_
  refine sx_ic (v := (-1)) hm dX13_scan_6 (by decide) ?_
  replace hf := mx_sv_el hf; obtain ⟨h110, e_h110, hf⟩ := hf
  refine sx_put hm dX13_scan_7 rs_RX13_764 ft_13_114 ⟨rfl, rfl⟩ (fun z => by cases z) e_h110 ?_
  clear e_h110
  refine mx_S.pu (pc2 := 11) (lv2 := [(0, .ref a0), (1, .int a1)]) (st2 := [.ref a0]) hm dX13_scan_10 rfl ?_
  replace hf := mx_sv_el hf; obtain ⟨v111, e_v111, hf⟩ := hf
  refine sx_get hm dX13_scan_11 rs_RX13_218 (xgr_el e_v111) ?_
  clear e_v111
  refine mx_S.pu (pc2 := 15) (lv2 := [(0, .ref a0), (1, .int a1)]) (st2 := [.int a1, .ref v111]) hm dX13_scan_14 rfl ?_
  refine sx_ic (v := 0) hm dX13_scan_15 (by decide) ?_
  replace hf := mx_sv_el hf; obtain ⟨h112, e_h112, hf⟩ := hf
  refine sx_ast hm dX13_scan_16 e_h112 ?_
  clear e_h112
  refine mx_S.pu (pc2 := 18) (lv2 := [(0, .ref a0), (1, .int a1)]) (st2 := [.ref a0]) hm dX13_scan_17 rfl ?_
  refine sx_ic (v := 0) hm dX13_scan_18 (by decide) ?_
  replace hf := mx_gd_el hf; obtain ⟨c113, hf⟩ := hf
  replace hf := mx_sv_el hf; obtain ⟨u114, e_u114, hf⟩ := hf
  refine sx_cv hm dX13_scan_19 rs_RX13_800 mt_X13_isByte [.int 0] [] (b := a0) (ci := 13) rfl rfl rfl c113 (Nat.le_of_ble_eq_true rfl) (Nat.le_of_ble_eq_true rfl) (by omega) (by omega) (f_X13_isByte_ok X (by omega) (by omega) nn a0 0 h112 e_u114) ?_
  clear e_u114
  show mx_S X F L 502 22 [(0, .ref a0), (1, .int a1)] [.int u114.1] u114.2 0 0 (none, r, 0, 0)
  rcases mx_if_el hf with ⟨c120, hf⟩ | ⟨c120, hf⟩
  · refine sb_if_eq hm dX13_scan_22 (tgt := 41) rfl (fun _ => ?_) (fun z => absurd c120 z)
    exact j_X13_scan_41_ok X hF hL nn a0 a1 u114.2 hf
  · refine sb_if_eq hm dX13_scan_22 (tgt := 41) rfl (fun z => absurd z c120) (fun _ => ?_)
    refine mx_S.pu (pc2 := 26) (lv2 := [(0, .ref a0), (1, .int a1)]) (st2 := [.ref a0]) hm dX13_scan_25 rfl ?_
    replace hf := mx_sv_el hf; obtain ⟨v115, e_v115, hf⟩ := hf
    refine sx_get hm dX13_scan_26 rs_RX13_245 (xgr_el e_v115) ?_
    clear e_v115
    refine sx_ic (v := 0) hm dX13_scan_29 (by decide) ?_
    replace hf := mx_sv_el hf; obtain ⟨v116, e_v116, hf⟩ := hf
    refine sx_ald hm dX13_scan_30 e_v116 ?_
    clear e_v116
    refine sx_bi (v := 74) hm dX13_scan_31 (by decide) ?_
    rcases mx_if_el hf with ⟨c119, hf⟩ | ⟨c119, hf⟩
    · refine sb_ic_eq hm dX13_scan_33 (tgt := 41) rfl (fun _ => ?_) (fun z => absurd c119 z)
      exact j_X13_scan_41_ok X hF hL nn a0 a1 u114.2 hf
    · refine sb_ic_eq hm dX13_scan_33 (tgt := 41) rfl (fun z => absurd z c119) (fun _ => ?_)
      refine mx_S.pu (pc2 := 37) (lv2 := [(0, .ref a0), (1, .int a1)]) (st2 := [.ref a0]) hm dX13_scan_36 rfl ?_
      refine sx_ic (v := 0) hm dX13_scan_37 (by decide) ?_
      replace hf := mx_gd_el hf; obtain ⟨c117, hf⟩ := hf
      replace hf := mx_sv_el hf; obtain ⟨u118, e_u118, hf⟩ := hf
      refine sx_cv hm dX13_scan_38 rs_RX13_803 mt_X13_unfit [.int 0] [] (b := a0) (ci := 13) rfl rfl rfl c117 (Nat.le_of_ble_eq_true rfl) (Nat.le_of_ble_eq_true rfl) (by omega) (by omega) (f_X13_unfit_ok X (by omega) (by omega) nn a0 0 u114.2 e_u118) ?_
      clear e_u118
      show mx_S X F L 502 41 [(0, .ref a0), (1, .int a1)] [] u118 0 0 (none, r, 0, 0)
      exact j_X13_scan_41_ok X hF hL nn a0 a1 u118 hf
