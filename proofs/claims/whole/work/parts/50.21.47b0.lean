set_option maxHeartbeats 4000000 in
set_option maxRecDepth 20000 in
theorem j_X13_checkConstant_105_ok (X : Nat × (Nat → Int32)) {F L : Nat} (hF : 8 ≤ F) (hL : 184 ≤ L) (nn : Nat) (l0 : Nat) (l1 : Int32) (h : mx_H) {r : mx_H} (hf : j_X13_checkConstant_105 nn l0 l1 h = some r) : mx_S X F L 504 105 [(0, .ref l0), (1, .int l1)] [] h 0 0 (none, r, 0, 0) := by
  have hm : mx_mt 504 = some (yX13_checkConstant, cX13_checkConstant, 3, none) := mt_X13_checkConstant
  unfold j_X13_checkConstant_105 at hf
  refine mx_S.pu (pc2 := 106) (lv2 := [(0, .ref l0), (1, .int l1)]) (st2 := [.ref l0]) hm dX13_checkConstant_105 rfl ?_
  refine mx_S.pu (pc2 := 107) (lv2 := [(0, .ref l0), (1, .int l1)]) (st2 := [.ref l0, .ref l0]) hm dX13_checkConstant_106 rfl ?_
  replace hf := mx_sv_el hf; obtain ⟨v1, e_v1, hf⟩ := hf
  refine sx_get hm dX13_checkConstant_107 rs_RX13_245 (xgr_el e_v1) ?_
  clear e_v1
  refine mx_S.pu (pc2 := 111) (lv2 := [(0, .ref l0), (1, .int l1)]) (st2 := [.int l1, .ref v1, .ref l0]) hm dX13_checkConstant_110 rfl ?_
  refine sx_ic (v := 3) hm dX13_checkConstant_111 (by decide) ?_
  replace hf := xl_el hf; obtain ⟨v2, e_v2, hf⟩ := hf
  refine mx_S.pu (pc2 := 113) (lv2 := [(0, .ref l0), (1, .int l1)]) (st2 := [.int v2, .ref v1, .ref l0]) hm dX13_checkConstant_112 (by rw [← e_v2]; rfl) ?_
  clear e_v2
  replace hf := mx_sv_el hf; obtain ⟨v3, e_v3, hf⟩ := hf
  refine sx_ald hm dX13_checkConstant_113 e_v3 ?_
  clear e_v3
  refine sx_ic (v := 3) hm dX13_checkConstant_114 (by decide) ?_
  replace hf := mx_gd_el hf; obtain ⟨c4, hf⟩ := hf
  replace hf := mx_sv_el hf; obtain ⟨u5, e_u5, hf⟩ := hf
  refine sx_cv hm dX13_checkConstant_115 rs_RX13_821 mt_X13_isText [.int v3, .int 3] [] (b := l0) (ci := 13) rfl rfl rfl c4 (Nat.le_of_ble_eq_true rfl) (Nat.le_of_ble_eq_true rfl) (by omega) (by omega) (f_X13_isText_ok X (by omega) (by omega) nn l0 v3 3 h e_u5) ?_
  clear e_u5
  show mx_S X F L 504 118 [(0, .ref l0), (1, .int l1)] [.int u5.1] u5.2 0 0 (none, r, 0, 0)
  rcases mx_if_el hf with ⟨c9, hf⟩ | ⟨c9, hf⟩
  · refine sb_if_ne hm dX13_checkConstant_118 (tgt := 128) rfl (fun _ => ?_) (fun z => absurd c9 z)
    cases hf
    exact sx_ret hm dX13_checkConstant_128 rfl
  · refine sb_if_ne hm dX13_checkConstant_118 (tgt := 128) rfl (fun z => absurd z c9) (fun _ => ?_)
    refine mx_S.pu (pc2 := 122) (lv2 := [(0, .ref l0), (1, .int l1)]) (st2 := [.ref l0]) hm dX13_checkConstant_121 rfl ?_
    refine mx_S.pu (pc2 := 123) (lv2 := [(0, .ref l0), (1, .int l1)]) (st2 := [.int l1, .ref l0]) hm dX13_checkConstant_122 rfl ?_
    refine sx_ic (v := 3) hm dX13_checkConstant_123 (by decide) ?_
    replace hf := xl_el hf; obtain ⟨v6, e_v6, hf⟩ := hf
    refine mx_S.pu (pc2 := 125) (lv2 := [(0, .ref l0), (1, .int l1)]) (st2 := [.int v6, .ref l0]) hm dX13_checkConstant_124 (by rw [← e_v6]; rfl) ?_
    clear e_v6
    replace hf := mx_gd_el hf; obtain ⟨c7, hf⟩ := hf
    replace hf := mx_sv_el hf; obtain ⟨u8, e_u8, hf⟩ := hf
    refine sx_cv hm dX13_checkConstant_125 rs_RX13_803 mt_X13_unfit [.int v6] [] (b := l0) (ci := 13) rfl rfl rfl c7 (Nat.le_of_ble_eq_true rfl) (Nat.le_of_ble_eq_true rfl) (by omega) (by omega) (f_X13_unfit_ok X (by omega) (by omega) nn l0 v6 u5.2 e_u8) ?_
    clear e_u8
    show mx_S X F L 504 128 [(0, .ref l0), (1, .int l1)] [] u8 0 0 (none, r, 0, 0)
    cases hf
    exact sx_ret hm dX13_checkConstant_128 rfl
set_option maxHeartbeats 4000000 in
set_option maxRecDepth 20000 in
theorem j_X13_checkConstant_82_ok (X : Nat × (Nat → Int32)) {F L : Nat} (hF : 8 ≤ F) (hL : 184 ≤ L) (nn : Nat) (l0 : Nat) (l1 : Int32) (h : mx_H) {r : mx_H} (hf : j_X13_checkConstant_82 nn l0 l1 h = some r) : mx_S X F L 504 82 [(0, .ref l0), (1, .int l1)] [] h 0 0 (none, r, 0, 0) := by
  have hm : mx_mt 504 = some (yX13_checkConstant, cX13_checkConstant, 3, none) := mt_X13_checkConstant
  unfold j_X13_checkConstant_82 at hf
  refine mx_S.pu (pc2 := 83) (lv2 := [(0, .ref l0), (1, .int l1)]) (st2 := [.ref l0]) hm dX13_checkConstant_82 rfl ?_
  refine mx_S.pu (pc2 := 84) (lv2 := [(0, .ref l0), (1, .int l1)]) (st2 := [.ref l0, .ref l0]) hm dX13_checkConstant_83 rfl ?_
  replace hf := mx_sv_el hf; obtain ⟨v10, e_v10, hf⟩ := hf
  refine sx_get hm dX13_checkConstant_84 rs_RX13_245 (xgr_el e_v10) ?_
  clear e_v10
  refine mx_S.pu (pc2 := 88) (lv2 := [(0, .ref l0), (1, .int l1)]) (st2 := [.int l1, .ref v10, .ref l0]) hm dX13_checkConstant_87 rfl ?_
  refine sx_ic (v := 2) hm dX13_checkConstant_88 (by decide) ?_
  replace hf := xl_el hf; obtain ⟨v11, e_v11, hf⟩ := hf
  refine mx_S.pu (pc2 := 90) (lv2 := [(0, .ref l0), (1, .int l1)]) (st2 := [.int v11, .ref v10, .ref l0]) hm dX13_checkConstant_89 (by rw [← e_v11]; rfl) ?_
  clear e_v11
  replace hf := mx_sv_el hf; obtain ⟨v12, e_v12, hf⟩ := hf
  refine sx_ald hm dX13_checkConstant_90 e_v12 ?_
  clear e_v12
  refine sx_ic (v := 0) hm dX13_checkConstant_91 (by decide) ?_
  replace hf := mx_gd_el hf; obtain ⟨c13, hf⟩ := hf
  replace hf := mx_sv_el hf; obtain ⟨u14, e_u14, hf⟩ := hf
  refine sx_cv hm dX13_checkConstant_92 rs_RX13_821 mt_X13_isText [.int v12, .int 0] [] (b := l0) (ci := 13) rfl rfl rfl c13 (Nat.le_of_ble_eq_true rfl) (Nat.le_of_ble_eq_true rfl) (by omega) (by omega) (f_X13_isText_ok X (by omega) (by omega) nn l0 v12 0 h e_u14) ?_
  clear e_u14
  show mx_S X F L 504 95 [(0, .ref l0), (1, .int l1)] [.int u14.1] u14.2 0 0 (none, r, 0, 0)
  rcases mx_if_el hf with ⟨c18, hf⟩ | ⟨c18, hf⟩
  · refine sb_if_ne hm dX13_checkConstant_95 (tgt := 105) rfl (fun _ => ?_) (fun z => absurd c18 z)
    exact j_X13_checkConstant_105_ok X hF hL nn l0 l1 u14.2 hf
  · refine sb_if_ne hm dX13_checkConstant_95 (tgt := 105) rfl (fun z => absurd z c18) (fun _ => ?_)
    refine mx_S.pu (pc2 := 99) (lv2 := [(0, .ref l0), (1, .int l1)]) (st2 := [.ref l0]) hm dX13_checkConstant_98 rfl ?_
    refine mx_S.pu (pc2 := 100) (lv2 := [(0, .ref l0), (1, .int l1)]) (st2 := [.int l1, .ref l0]) hm dX13_checkConstant_99 rfl ?_
    refine sx_ic (v := 2) hm dX13_checkConstant_100 (by decide) ?_
    replace hf := xl_el hf; obtain ⟨v15, e_v15, hf⟩ := hf
    refine mx_S.pu (pc2 := 102) (lv2 := [(0, .ref l0), (1, .int l1)]) (st2 := [.int v15, .ref l0]) hm dX13_checkConstant_101 (by rw [← e_v15]; rfl) ?_
    clear e_v15
    replace hf := mx_gd_el hf; obtain ⟨c16, hf⟩ := hf
    replace hf := mx_sv_el hf; obtain ⟨u17, e_u17, hf⟩ := hf
    refine sx_cv hm dX13_checkConstant_102 rs_RX13_803 mt_X13_unfit [.int v15] [] (b := l0) (ci := 13) rfl rfl rfl c16 (Nat.le_of_ble_eq_true rfl) (Nat.le_of_ble_eq_true rfl) (by omega) (by omega) (f_X13_unfit_ok X (by omega) (by omega) nn l0 v15 u14.2 e_u17) ?_
    clear e_u17
    show mx_S X F L 504 105 [(0, .ref l0), (1, .int l1)] [] u17 0 0 (none, r, 0, 0)
    exact j_X13_checkConstant_105_ok X hF hL nn l0 l1 u17 hf
set_option maxHeartbeats 4000000 in
set_option maxRecDepth 20000 in
theorem j_X13_checkConstant_75_ok (X : Nat × (Nat → Int32)) {F L : Nat} (hF : 8 ≤ F) (hL : 184 ≤ L) (nn : Nat) (l0 : Nat) (l1 : Int32) (h : mx_H) {r : mx_H} (hf : j_X13_checkConstant_75 nn l0 l1 h = some r) : mx_S X F L 504 75 [(0, .ref l0), (1, .int l1)] [] h 0 0 (none, r, 0, 0) := by
  have hm : mx_mt 504 = some (yX13_checkConstant, cX13_checkConstant, 3, none) := mt_X13_checkConstant
  unfold j_X13_checkConstant_75 at hf
  refine mx_S.pu (pc2 := 76) (lv2 := [(0, .ref l0), (1, .int l1)]) (st2 := [.ref l0]) hm dX13_checkConstant_75 rfl ?_
  refine mx_S.pu (pc2 := 77) (lv2 := [(0, .ref l0), (1, .int l1)]) (st2 := [.int l1, .ref l0]) hm dX13_checkConstant_76 rfl ?_
  refine sx_ic (v := 1) hm dX13_checkConstant_77 (by decide) ?_
  replace hf := xl_el hf; obtain ⟨v19, e_v19, hf⟩ := hf
  refine mx_S.pu (pc2 := 79) (lv2 := [(0, .ref l0), (1, .int l1)]) (st2 := [.int v19, .ref l0]) hm dX13_checkConstant_78 (by rw [← e_v19]; rfl) ?_
  clear e_v19
  replace hf := mx_gd_el hf; obtain ⟨c20, hf⟩ := hf
  replace hf := mx_sv_el hf; obtain ⟨u21, e_u21, hf⟩ := hf
  refine sx_cv hm dX13_checkConstant_79 rs_RX13_803 mt_X13_unfit [.int v19] [] (b := l0) (ci := 13) rfl rfl rfl c20 (Nat.le_of_ble_eq_true rfl) (Nat.le_of_ble_eq_true rfl) (by omega) (by omega) (f_X13_unfit_ok X (by omega) (by omega) nn l0 v19 h e_u21) ?_
  clear e_u21
  show mx_S X F L 504 82 [(0, .ref l0), (1, .int l1)] [] u21 0 0 (none, r, 0, 0)
  exact j_X13_checkConstant_82_ok X hF hL nn l0 l1 u21 hf
set_option maxHeartbeats 4000000 in
set_option maxRecDepth 20000 in
theorem j_X13_checkConstant_33_ok (X : Nat × (Nat → Int32)) {F L : Nat} (hF : 8 ≤ F) (hL : 184 ≤ L) (nn : Nat) (l0 : Nat) (l1 : Int32) (h : mx_H) {r : mx_H} (hf : j_X13_checkConstant_33 nn l0 l1 h = some r) : mx_S X F L 504 33 [(0, .ref l0), (1, .int l1)] [] h 0 0 (none, r, 0, 0) := by
  have hm : mx_mt 504 = some (yX13_checkConstant, cX13_checkConstant, 3, none) := mt_X13_checkConstant
  unfold j_X13_checkConstant_33 at hf
  refine mx_S.pu (pc2 := 34) (lv2 := [(0, .ref l0), (1, .int l1)]) (st2 := [.ref l0]) hm dX13_checkConstant_33 rfl ?_
  replace hf := mx_sv_el hf; obtain ⟨v22, e_v22, hf⟩ := hf
  refine sx_get hm dX13_checkConstant_34 rs_RX13_245 (xgr_el e_v22) ?_
  clear e_v22
  refine mx_S.pu (pc2 := 38) (lv2 := [(0, .ref l0), (1, .int l1)]) (st2 := [.int l1, .ref v22]) hm dX13_checkConstant_37 rfl ?_
  replace hf := mx_sv_el hf; obtain ⟨v23, e_v23, hf⟩ := hf
  refine sx_ald hm dX13_checkConstant_38 e_v23 ?_
  clear e_v23
  refine sx_ic (v := 4) hm dX13_checkConstant_39 (by decide) ?_
  rcases mx_if_el hf with ⟨c34, hf⟩ | ⟨c34, hf⟩
  · refine sb_ic_eq hm dX13_checkConstant_40 (tgt := 44) rfl (fun _ => ?_) (fun z => absurd c34 z)
    refine mx_S.pu (pc2 := 45) (lv2 := [(0, .ref l0), (1, .int l1)]) (st2 := [.ref l0]) hm dX13_checkConstant_44 rfl ?_
    refine mx_S.pu (pc2 := 46) (lv2 := [(0, .ref l0), (1, .int l1)]) (st2 := [.ref l0, .ref l0]) hm dX13_checkConstant_45 rfl ?_
    replace hf := mx_sv_el hf; obtain ⟨v24, e_v24, hf⟩ := hf
    refine sx_get hm dX13_checkConstant_46 rs_RX13_788 (xgi_el e_v24) ?_
    clear e_v24
    refine mx_S.pu (pc2 := 50) (lv2 := [(0, .ref l0), (1, .int l1)]) (st2 := [.ref l0, .int v24, .ref l0]) hm dX13_checkConstant_49 rfl ?_
    replace hf := mx_sv_el hf; obtain ⟨v25, e_v25, hf⟩ := hf
    refine sx_get hm dX13_checkConstant_50 rs_RX13_245 (xgr_el e_v25) ?_
    clear e_v25
    refine mx_S.pu (pc2 := 54) (lv2 := [(0, .ref l0), (1, .int l1)]) (st2 := [.int l1, .ref v25, .int v24, .ref l0]) hm dX13_checkConstant_53 rfl ?_
    refine sx_ic (v := 1) hm dX13_checkConstant_54 (by decide) ?_
    replace hf := xl_el hf; obtain ⟨v26, e_v26, hf⟩ := hf
    refine mx_S.pu (pc2 := 56) (lv2 := [(0, .ref l0), (1, .int l1)]) (st2 := [.int v26, .ref v25, .int v24, .ref l0]) hm dX13_checkConstant_55 (by rw [← e_v26]; rfl) ?_
    clear e_v26
    replace hf := mx_sv_el hf; obtain ⟨v27, e_v27, hf⟩ := hf
    refine sx_ald hm dX13_checkConstant_56 e_v27 ?_
    clear e_v27
    replace hf := mx_gd_el hf; obtain ⟨c28, hf⟩ := hf
    replace hf := mx_sv_el hf; obtain ⟨u29, e_u29, hf⟩ := hf
    refine sx_cv hm dX13_checkConstant_57 rs_RX13_791 mt_X13_constantOf [.int v24, .int v27] [] (b := l0) (ci := 13) rfl rfl rfl c28 (Nat.le_of_ble_eq_true rfl) (Nat.le_of_ble_eq_true rfl) (by omega) (by omega) (f_X13_constantOf_ok X (by omega) (by omega) nn l0 v24 v27 h e_u29) ?_
    clear e_u29
    show mx_S X F L 504 60 [(0, .ref l0), (1, .int l1)] [.int u29.1] u29.2 0 0 (none, r, 0, 0)
    refine mx_S.pu (pc2 := 61) (lv2 := [(2, .int u29.1), (0, .ref l0), (1, .int l1)]) (st2 := []) hm dX13_checkConstant_60 rfl ?_
    refine mx_S.pu (pc2 := 62) (lv2 := [(2, .int u29.1), (0, .ref l0), (1, .int l1)]) (st2 := [.int u29.1]) hm dX13_checkConstant_61 rfl ?_
    rcases mx_if_el hf with ⟨c33, hf⟩ | ⟨c33, hf⟩
    · refine sb_if_lt hm dX13_checkConstant_62 (tgt := 75) rfl (fun _ => ?_) (fun z => absurd c33 z)
      refine mx_S.ext [(0, .ref l0), (1, .int l1)] (mx_sub_pos [1, 2] rfl (show ([2, 0, 1] : List Nat).Nodup by decide)) ?_
      exact j_X13_checkConstant_75_ok X hF hL nn l0 l1 u29.2 hf
    · refine sb_if_lt hm dX13_checkConstant_62 (tgt := 75) rfl (fun z => absurd z c33) (fun _ => ?_)
      refine mx_S.pu (pc2 := 66) (lv2 := [(2, .int u29.1), (0, .ref l0), (1, .int l1)]) (st2 := [.ref l0]) hm dX13_checkConstant_65 rfl ?_
      replace hf := mx_sv_el hf; obtain ⟨v30, e_v30, hf⟩ := hf
      refine sx_get hm dX13_checkConstant_66 rs_RX13_245 (xgr_el e_v30) ?_
      clear e_v30
      refine mx_S.pu (pc2 := 70) (lv2 := [(2, .int u29.1), (0, .ref l0), (1, .int l1)]) (st2 := [.int u29.1, .ref v30]) hm dX13_checkConstant_69 rfl ?_
      replace hf := mx_sv_el hf; obtain ⟨v31, e_v31, hf⟩ := hf
      refine sx_ald hm dX13_checkConstant_70 e_v31 ?_
      clear e_v31
      refine sx_ic (v := 3) hm dX13_checkConstant_71 (by decide) ?_
      rcases mx_if_el hf with ⟨c32, hf⟩ | ⟨c32, hf⟩
      · refine sb_ic_eq hm dX13_checkConstant_72 (tgt := 82) rfl (fun _ => ?_) (fun z => absurd c32 z)
        refine mx_S.ext [(0, .ref l0), (1, .int l1)] (mx_sub_pos [1, 2] rfl (show ([2, 0, 1] : List Nat).Nodup by decide)) ?_
        exact j_X13_checkConstant_82_ok X hF hL nn l0 l1 u29.2 hf
      · refine sb_ic_eq hm dX13_checkConstant_72 (tgt := 82) rfl (fun z => absurd z c32) (fun _ => ?_)
        refine mx_S.ext [(0, .ref l0), (1, .int l1)] (mx_sub_pos [1, 2] rfl (show ([2, 0, 1] : List Nat).Nodup by decide)) ?_
        exact j_X13_checkConstant_75_ok X hF hL nn l0 l1 u29.2 hf
  · refine sb_ic_eq hm dX13_checkConstant_40 (tgt := 44) rfl (fun z => absurd z c34) (fun _ => ?_)
    cases hf
    exact sx_ret hm dX13_checkConstant_43 rfl
set_option maxHeartbeats 4000000 in
set_option maxRecDepth 20000 in
theorem f_X13_checkConstant_ok (X : Nat × (Nat → Int32)) {F L : Nat} (hF : 8 ≤ F) (hL : 184 ≤ L) (nn : Nat) (a0 : Nat) (a1 : Int32) (h : mx_H) {r : mx_H} (hf : f_X13_checkConstant nn a0 a1 h = some r) : mx_R X F L 504 [.ref a0, .int a1] h (none, r, 0, 0) := by
  have hm : mx_mt 504 = some (yX13_checkConstant, cX13_checkConstant, 3, none) := mt_X13_checkConstant
  show mx_S X F L 504 0 [(0, .ref a0), (1, .int a1)] [] h 0 0 (none, r, 0, 0)
  unfold f_X13_checkConstant at hf
  refine mx_S.pu (pc2 := 1) (lv2 := [(0, .ref a0), (1, .int a1)]) (st2 := [.ref a0]) hm dX13_checkConstant_0 rfl ?_
  replace hf := mx_sv_el hf; obtain ⟨v35, e_v35, hf⟩ := hf
  refine sx_get hm dX13_checkConstant_1 rs_RX13_245 (xgr_el e_v35) ?_
  clear e_v35
  refine mx_S.pu (pc2 := 5) (lv2 := [(0, .ref a0), (1, .int a1)]) (st2 := [.int a1, .ref v35]) hm dX13_checkConstant_4 rfl ?_
  replace hf := mx_sv_el hf; obtain ⟨v36, e_v36, hf⟩ := hf
  refine sx_ald hm dX13_checkConstant_5 e_v36 ?_
  clear e_v36
  refine sx_ic (v := 3) hm dX13_checkConstant_6 (by decide) ?_
  rcases mx_if_el hf with ⟨c46, hf⟩ | ⟨c46, hf⟩
  · refine sb_ic_ne hm dX13_checkConstant_7 (tgt := 33) rfl (fun _ => ?_) (fun z => absurd c46 z)
    exact j_X13_checkConstant_33_ok X hF hL nn a0 a1 h hf
  · refine sb_ic_ne hm dX13_checkConstant_7 (tgt := 33) rfl (fun z => absurd z c46) (fun _ => ?_)
    refine mx_S.pu (pc2 := 11) (lv2 := [(0, .ref a0), (1, .int a1)]) (st2 := [.ref a0]) hm dX13_checkConstant_10 rfl ?_
    refine mx_S.pu (pc2 := 12) (lv2 := [(0, .ref a0), (1, .int a1)]) (st2 := [.ref a0, .ref a0]) hm dX13_checkConstant_11 rfl ?_
    replace hf := mx_sv_el hf; obtain ⟨v37, e_v37, hf⟩ := hf
    refine sx_get hm dX13_checkConstant_12 rs_RX13_245 (xgr_el e_v37) ?_
    clear e_v37
    refine mx_S.pu (pc2 := 16) (lv2 := [(0, .ref a0), (1, .int a1)]) (st2 := [.int a1, .ref v37, .ref a0]) hm dX13_checkConstant_15 rfl ?_
    refine sx_ic (v := 1) hm dX13_checkConstant_16 (by decide) ?_
    replace hf := xl_el hf; obtain ⟨v38, e_v38, hf⟩ := hf
    refine mx_S.pu (pc2 := 18) (lv2 := [(0, .ref a0), (1, .int a1)]) (st2 := [.int v38, .ref v37, .ref a0]) hm dX13_checkConstant_17 (by rw [← e_v38]; rfl) ?_
    clear e_v38
    replace hf := mx_sv_el hf; obtain ⟨v39, e_v39, hf⟩ := hf
    refine sx_ald hm dX13_checkConstant_18 e_v39 ?_
    clear e_v39
    refine sx_ic (v := 4) hm dX13_checkConstant_19 (by decide) ?_
    replace hf := mx_gd_el hf; obtain ⟨c40, hf⟩ := hf
    replace hf := mx_sv_el hf; obtain ⟨u41, e_u41, hf⟩ := hf
    refine sx_cv hm dX13_checkConstant_20 rs_RX13_821 mt_X13_isText [.int v39, .int 4] [] (b := a0) (ci := 13) rfl rfl rfl c40 (Nat.le_of_ble_eq_true rfl) (Nat.le_of_ble_eq_true rfl) (by omega) (by omega) (f_X13_isText_ok X (by omega) (by omega) nn a0 v39 4 h e_u41) ?_
    clear e_u41
    show mx_S X F L 504 23 [(0, .ref a0), (1, .int a1)] [.int u41.1] u41.2 0 0 (none, r, 0, 0)
    rcases mx_if_el hf with ⟨c45, hf⟩ | ⟨c45, hf⟩
    · refine sb_if_ne hm dX13_checkConstant_23 (tgt := 33) rfl (fun _ => ?_) (fun z => absurd c45 z)
      exact j_X13_checkConstant_33_ok X hF hL nn a0 a1 u41.2 hf
    · refine sb_if_ne hm dX13_checkConstant_23 (tgt := 33) rfl (fun z => absurd z c45) (fun _ => ?_)
      refine mx_S.pu (pc2 := 27) (lv2 := [(0, .ref a0), (1, .int a1)]) (st2 := [.ref a0]) hm dX13_checkConstant_26 rfl ?_
      refine mx_S.pu (pc2 := 28) (lv2 := [(0, .ref a0), (1, .int a1)]) (st2 := [.int a1, .ref a0]) hm dX13_checkConstant_27 rfl ?_
      refine sx_ic (v := 1) hm dX13_checkConstant_28 (by decide) ?_
      replace hf := xl_el hf; obtain ⟨v42, e_v42, hf⟩ := hf
      refine mx_S.pu (pc2 := 30) (lv2 := [(0, .ref a0), (1, .int a1)]) (st2 := [.int v42, .ref a0]) hm dX13_checkConstant_29 (by rw [← e_v42]; rfl) ?_
      clear e_v42
      replace hf := mx_gd_el hf; obtain ⟨c43, hf⟩ := hf
      replace hf := mx_sv_el hf; obtain ⟨u44, e_u44, hf⟩ := hf
      refine sx_cv hm dX13_checkConstant_30 rs_RX13_803 mt_X13_unfit [.int v42] [] (b := a0) (ci := 13) rfl rfl rfl c43 (Nat.le_of_ble_eq_true rfl) (Nat.le_of_ble_eq_true rfl) (by omega) (by omega) (f_X13_unfit_ok X (by omega) (by omega) nn a0 v42 u41.2 e_u44) ?_
      clear e_u44
      show mx_S X F L 504 33 [(0, .ref a0), (1, .int a1)] [] u44 0 0 (none, r, 0, 0)
      exact j_X13_checkConstant_33_ok X hF hL nn a0 a1 u44 hf
set_option maxHeartbeats 4000000 in
set_option maxRecDepth 20000 in
theorem j_X13_isByte_26_ok (X : Nat × (Nat → Int32)) {F L : Nat} (hF : 0 ≤ F) (hL : 0 ≤ L) (nn : Nat) (l0 : Nat) (h : mx_H) {r : (Int32 × mx_H)} (hf : j_X13_isByte_26 nn l0 h = some r) : mx_S X F L 489 26 [(0, .ref l0)] [] h 0 0 (some (.int r.1), r.2, 0, 0) := by
  have hm : mx_mt 489 = some (yX13_isByte, cX13_isByte, 2, (some .boolean)) := mt_X13_isByte
  unfold j_X13_isByte_26 at hf
  refine mx_S.pu (pc2 := 27) (lv2 := [(0, .ref l0)]) (st2 := [.ref l0]) hm dX13_isByte_26 rfl ?_
  replace hf := mx_sv_el hf; obtain ⟨v1, e_v1, hf⟩ := hf
  refine sx_get hm dX13_isByte_27 rs_RX13_764 (xgi_el e_v1) ?_
  clear e_v1
  refine sx_ic (v := (-1)) hm dX13_isByte_30 (by decide) ?_
  rcases mx_if_el hf with ⟨c2, hf⟩ | ⟨c2, hf⟩
  · refine sb_ic_ne hm dX13_isByte_31 (tgt := 38) rfl (fun _ => ?_) (fun z => absurd c2 z)
    refine sx_ic (v := 0) hm dX13_isByte_38 (by decide) ?_
    cases hf
    exact sx_ire hm dX13_isByte_39 rfl (by decide)
  · refine sb_ic_ne hm dX13_isByte_31 (tgt := 38) rfl (fun z => absurd z c2) (fun _ => ?_)
    refine sx_ic (v := 1) hm dX13_isByte_34 (by decide) ?_
    refine mx_S.pu (pc2 := 39) (lv2 := [(0, .ref l0)]) (st2 := [.int 1]) hm dX13_isByte_35 rfl ?_
    cases hf
    exact sx_ire hm dX13_isByte_39 rfl (by decide)
set_option maxHeartbeats 4000000 in
set_option maxRecDepth 20000 in
theorem f_X13_isByte_ok (X : Nat × (Nat → Int32)) {F L : Nat} (hF : 0 ≤ F) (hL : 0 ≤ L) (nn : Nat) (a0 : Nat) (a1 : Int32) (h : mx_H) {r : (Int32 × mx_H)} (hf : f_X13_isByte nn a0 a1 h = some r) : mx_R X F L 489 [.ref a0, .int a1] h (some (.int r.1), r.2, 0, 0) := by
  have hm : mx_mt 489 = some (yX13_isByte, cX13_isByte, 2, (some .boolean)) := mt_X13_isByte
  show mx_S X F L 489 0 [(0, .ref a0), (1, .int a1)] [] h 0 0 (some (.int r.1), r.2, 0, 0)
  unfold f_X13_isByte at hf
  refine mx_S.pu (pc2 := 1) (lv2 := [(0, .ref a0), (1, .int a1)]) (st2 := [.ref a0]) hm dX13_isByte_0 rfl ?_
  replace hf := mx_sv_el hf; obtain ⟨v3, e_v3, hf⟩ := hf
  refine sx_get hm dX13_isByte_1 rs_RX13_764 (xgi_el e_v3) ?_
  clear e_v3
  refine sx_ic (v := (-1)) hm dX13_isByte_4 (by decide) ?_
  rcases mx_if_el hf with ⟨c8, hf⟩ | ⟨c8, hf⟩
  · refine sb_ic_eq hm dX13_isByte_5 (tgt := 10) rfl (fun _ => ?_) (fun z => absurd c8 z)
    refine mx_S.pu (pc2 := 11) (lv2 := [(0, .ref a0), (1, .int a1)]) (st2 := [.int a1]) hm dX13_isByte_10 rfl ?_
    refine mx_S.pu (pc2 := 12) (lv2 := [(0, .ref a0), (1, .int a1)]) (st2 := [.ref a0, .int a1]) hm dX13_isByte_11 rfl ?_
    replace hf := mx_sv_el hf; obtain ⟨v4, e_v4, hf⟩ := hf
    refine sx_get hm dX13_isByte_12 rs_RX13_767 (xgi_el e_v4) ?_
    clear e_v4
    rcases mx_if_el hf with ⟨c7, hf⟩ | ⟨c7, hf⟩
    · refine sb_ic_lt hm dX13_isByte_15 (tgt := 26) rfl (fun _ => ?_) (fun z => absurd c7 z)
      refine mx_S.ext [(0, .ref a0)] (mx_sub_pos [0] rfl (show ([0, 1] : List Nat).Nodup by decide)) ?_
      exact j_X13_isByte_26_ok X hF hL nn a0 h hf
    · refine sb_ic_lt hm dX13_isByte_15 (tgt := 26) rfl (fun z => absurd z c7) (fun _ => ?_)
      refine mx_S.pu (pc2 := 19) (lv2 := [(0, .ref a0), (1, .int a1)]) (st2 := [.ref a0]) hm dX13_isByte_18 rfl ?_
      refine mx_S.pu (pc2 := 20) (lv2 := [(0, .ref a0), (1, .int a1)]) (st2 := [.ref a0, .ref a0]) hm dX13_isByte_19 rfl ?_
      replace hf := mx_sv_el hf; obtain ⟨v5, e_v5, hf⟩ := hf
      refine sx_get hm dX13_isByte_20 rs_RX13_767 (xgi_el e_v5) ?_
      clear e_v5
      replace hf := mx_sv_el hf; obtain ⟨h6, e_h6, hf⟩ := hf
      refine sx_put hm dX13_isByte_23 rs_RX13_764 ft_13_114 ⟨rfl, rfl⟩ (fun z => by cases z) e_h6 ?_
      clear e_h6
      refine mx_S.ext [(0, .ref a0)] (mx_sub_pos [0] rfl (show ([0, 1] : List Nat).Nodup by decide)) ?_
      exact j_X13_isByte_26_ok X hF hL nn a0 h6 hf
  · refine sb_ic_eq hm dX13_isByte_5 (tgt := 10) rfl (fun z => absurd z c8) (fun _ => ?_)
    refine sx_ic (v := 0) hm dX13_isByte_8 (by decide) ?_
    cases hf
    exact sx_ire hm dX13_isByte_9 rfl (by decide)
set_option maxHeartbeats 4000000 in
set_option maxRecDepth 20000 in
theorem f_X13_isClassConstant_ok (X : Nat × (Nat → Int32)) {F L : Nat} (hF : 1 ≤ F) (hL : 22 ≤ L) (nn : Nat) (a0 : Nat) (a1 : Int32) (a2 : Int32) (h : mx_H) {r : (Int32 × mx_H)} (hf : f_X13_isClassConstant nn a0 a1 a2 h = some r) : mx_R X F L 500 [.ref a0, .int a1, .int a2] h (some (.int r.1), r.2, 0, 0) := by
  have hm : mx_mt 500 = some (yX13_isClassConstant, cX13_isClassConstant, 5, (some .boolean)) := mt_X13_isClassConstant
  show mx_S X F L 500 0 [(0, .ref a0), (1, .int a1), (2, .int a2)] [] h 0 0 (some (.int r.1), r.2, 0, 0)
  unfold f_X13_isClassConstant at hf
  refine mx_S.pu (pc2 := 1) (lv2 := [(0, .ref a0), (1, .int a1), (2, .int a2)]) (st2 := [.ref a0]) hm dX13_isClassConstant_0 rfl ?_
  refine mx_S.pu (pc2 := 2) (lv2 := [(0, .ref a0), (1, .int a1), (2, .int a2)]) (st2 := [.ref a0, .ref a0]) hm dX13_isClassConstant_1 rfl ?_
  replace hf := mx_sv_el hf; obtain ⟨v1, e_v1, hf⟩ := hf
  refine sx_get hm dX13_isClassConstant_2 rs_RX13_788 (xgi_el e_v1) ?_
  clear e_v1
  refine mx_S.pu (pc2 := 6) (lv2 := [(0, .ref a0), (1, .int a1), (2, .int a2)]) (st2 := [.int a1, .int v1, .ref a0]) hm dX13_isClassConstant_5 rfl ?_
  replace hf := mx_gd_el hf; obtain ⟨c2, hf⟩ := hf
  replace hf := mx_sv_el hf; obtain ⟨u3, e_u3, hf⟩ := hf
  refine sx_cv hm dX13_isClassConstant_6 rs_RX13_791 mt_X13_constantOf [.int v1, .int a1] [] (b := a0) (ci := 13) rfl rfl rfl c2 (Nat.le_of_ble_eq_true rfl) (Nat.le_of_ble_eq_true rfl) (by omega) (by omega) (f_X13_constantOf_ok X (by omega) (by omega) nn a0 v1 a1 h e_u3) ?_
  clear e_u3
  show mx_S X F L 500 9 [(0, .ref a0), (1, .int a1), (2, .int a2)] [.int u3.1] u3.2 0 0 (some (.int r.1), r.2, 0, 0)
  refine mx_S.pu (pc2 := 10) (lv2 := [(3, .int u3.1), (0, .ref a0), (1, .int a1), (2, .int a2)]) (st2 := []) hm dX13_isClassConstant_9 rfl ?_
  refine mx_S.pu (pc2 := 11) (lv2 := [(3, .int u3.1), (0, .ref a0), (1, .int a1), (2, .int a2)]) (st2 := [.int u3.1]) hm dX13_isClassConstant_10 rfl ?_
  rcases mx_if_el hf with ⟨c22, hf⟩ | ⟨c22, hf⟩
  · refine sb_if_lt hm dX13_isClassConstant_11 (tgt := 24) rfl (fun _ => ?_) (fun z => absurd c22 z)
    refine sx_ic (v := 0) hm dX13_isClassConstant_24 (by decide) ?_
    cases hf
    exact sx_ire hm dX13_isClassConstant_25 rfl (by decide)
  · refine sb_if_lt hm dX13_isClassConstant_11 (tgt := 24) rfl (fun z => absurd z c22) (fun _ => ?_)
    refine mx_S.pu (pc2 := 15) (lv2 := [(3, .int u3.1), (0, .ref a0), (1, .int a1), (2, .int a2)]) (st2 := [.ref a0]) hm dX13_isClassConstant_14 rfl ?_
    replace hf := mx_sv_el hf; obtain ⟨v4, e_v4, hf⟩ := hf
    refine sx_get hm dX13_isClassConstant_15 rs_RX13_245 (xgr_el e_v4) ?_
    clear e_v4
    refine mx_S.pu (pc2 := 19) (lv2 := [(3, .int u3.1), (0, .ref a0), (1, .int a1), (2, .int a2)]) (st2 := [.int u3.1, .ref v4]) hm dX13_isClassConstant_18 rfl ?_
    replace hf := mx_sv_el hf; obtain ⟨v5, e_v5, hf⟩ := hf
    refine sx_ald hm dX13_isClassConstant_19 e_v5 ?_
    clear e_v5
    refine sx_ic (v := 3) hm dX13_isClassConstant_20 (by decide) ?_
    rcases mx_if_el hf with ⟨c21, hf⟩ | ⟨c21, hf⟩
    · refine sb_ic_eq hm dX13_isClassConstant_21 (tgt := 26) rfl (fun _ => ?_) (fun z => absurd c21 z)
      refine mx_S.pu (pc2 := 27) (lv2 := [(3, .int u3.1), (0, .ref a0), (1, .int a1), (2, .int a2)]) (st2 := [.ref a0]) hm dX13_isClassConstant_26 rfl ?_
      refine mx_S.pu (pc2 := 28) (lv2 := [(3, .int u3.1), (0, .ref a0), (1, .int a1), (2, .int a2)]) (st2 := [.ref a0, .ref a0]) hm dX13_isClassConstant_27 rfl ?_
      replace hf := mx_sv_el hf; obtain ⟨v6, e_v6, hf⟩ := hf
      refine sx_get hm dX13_isClassConstant_28 rs_RX13_788 (xgi_el e_v6) ?_
      clear e_v6
      refine mx_S.pu (pc2 := 32) (lv2 := [(3, .int u3.1), (0, .ref a0), (1, .int a1), (2, .int a2)]) (st2 := [.ref a0, .int v6, .ref a0]) hm dX13_isClassConstant_31 rfl ?_
      replace hf := mx_sv_el hf; obtain ⟨v7, e_v7, hf⟩ := hf
      refine sx_get hm dX13_isClassConstant_32 rs_RX13_245 (xgr_el e_v7) ?_
      clear e_v7
      refine mx_S.pu (pc2 := 36) (lv2 := [(3, .int u3.1), (0, .ref a0), (1, .int a1), (2, .int a2)]) (st2 := [.int u3.1, .ref v7, .int v6, .ref a0]) hm dX13_isClassConstant_35 rfl ?_
      refine sx_ic (v := 1) hm dX13_isClassConstant_36 (by decide) ?_
      replace hf := xl_el hf; obtain ⟨v8, e_v8, hf⟩ := hf
      refine mx_S.pu (pc2 := 38) (lv2 := [(3, .int u3.1), (0, .ref a0), (1, .int a1), (2, .int a2)]) (st2 := [.int v8, .ref v7, .int v6, .ref a0]) hm dX13_isClassConstant_37 (by rw [← e_v8]; rfl) ?_
      clear e_v8
      replace hf := mx_sv_el hf; obtain ⟨v9, e_v9, hf⟩ := hf
      refine sx_ald hm dX13_isClassConstant_38 e_v9 ?_
      clear e_v9
      replace hf := mx_gd_el hf; obtain ⟨c10, hf⟩ := hf
      replace hf := mx_sv_el hf; obtain ⟨u11, e_u11, hf⟩ := hf
      refine sx_cv hm dX13_isClassConstant_39 rs_RX13_791 mt_X13_constantOf [.int v6, .int v9] [] (b := a0) (ci := 13) rfl rfl rfl c10 (Nat.le_of_ble_eq_true rfl) (Nat.le_of_ble_eq_true rfl) (by omega) (by omega) (f_X13_constantOf_ok X (by omega) (by omega) nn a0 v6 v9 u3.2 e_u11) ?_
      clear e_u11
      show mx_S X F L 500 42 [(3, .int u3.1), (0, .ref a0), (1, .int a1), (2, .int a2)] [.int u11.1] u11.2 0 0 (some (.int r.1), r.2, 0, 0)
      refine mx_S.pu (pc2 := 44) (lv2 := [(4, .int u11.1), (3, .int u3.1), (0, .ref a0), (1, .int a1), (2, .int a2)]) (st2 := []) hm dX13_isClassConstant_42 rfl ?_
      refine mx_S.pu (pc2 := 45) (lv2 := [(4, .int u11.1), (3, .int u3.1), (0, .ref a0), (1, .int a1), (2, .int a2)]) (st2 := [.int a2]) hm dX13_isClassConstant_44 rfl ?_
      rcases mx_if_el hf with ⟨c20, hf⟩ | ⟨c20, hf⟩
      · refine sb_if_ne hm dX13_isClassConstant_45 (tgt := 78) rfl (fun _ => ?_) (fun z => absurd c20 z)
        refine sx_ic (v := 1) hm dX13_isClassConstant_78 (by decide) ?_
        refine mx_S.pu (pc2 := 83) (lv2 := [(4, .int u11.1), (3, .int u3.1), (0, .ref a0), (1, .int a1), (2, .int a2)]) (st2 := [.int 1]) hm dX13_isClassConstant_79 rfl ?_
        cases hf
        exact sx_ire hm dX13_isClassConstant_83 rfl (by decide)
      · refine sb_if_ne hm dX13_isClassConstant_45 (tgt := 78) rfl (fun z => absurd z c20) (fun _ => ?_)
        refine mx_S.pu (pc2 := 50) (lv2 := [(4, .int u11.1), (3, .int u3.1), (0, .ref a0), (1, .int a1), (2, .int a2)]) (st2 := [.int u11.1]) hm dX13_isClassConstant_48 rfl ?_
        rcases mx_if_el hf with ⟨c19, hf⟩ | ⟨c19, hf⟩
        · refine sb_if_lt hm dX13_isClassConstant_50 (tgt := 82) rfl (fun _ => ?_) (fun z => absurd c19 z)
          refine sx_ic (v := 0) hm dX13_isClassConstant_82 (by decide) ?_
          cases hf
          exact sx_ire hm dX13_isClassConstant_83 rfl (by decide)
        · refine sb_if_lt hm dX13_isClassConstant_50 (tgt := 82) rfl (fun z => absurd z c19) (fun _ => ?_)
          refine mx_S.pu (pc2 := 54) (lv2 := [(4, .int u11.1), (3, .int u3.1), (0, .ref a0), (1, .int a1), (2, .int a2)]) (st2 := [.ref a0]) hm dX13_isClassConstant_53 rfl ?_
          replace hf := mx_sv_el hf; obtain ⟨v12, e_v12, hf⟩ := hf
          refine sx_get hm dX13_isClassConstant_54 rs_RX13_245 (xgr_el e_v12) ?_
          clear e_v12
          refine mx_S.pu (pc2 := 59) (lv2 := [(4, .int u11.1), (3, .int u3.1), (0, .ref a0), (1, .int a1), (2, .int a2)]) (st2 := [.int u11.1, .ref v12]) hm dX13_isClassConstant_57 rfl ?_
          replace hf := mx_sv_el hf; obtain ⟨v13, e_v13, hf⟩ := hf
          refine sx_ald hm dX13_isClassConstant_59 e_v13 ?_
          clear e_v13
          refine sx_ic (v := 1) hm dX13_isClassConstant_60 (by decide) ?_
          rcases mx_if_el hf with ⟨c18, hf⟩ | ⟨c18, hf⟩
          · refine sb_ic_ne hm dX13_isClassConstant_61 (tgt := 82) rfl (fun _ => ?_) (fun z => absurd c18 z)
            refine sx_ic (v := 0) hm dX13_isClassConstant_82 (by decide) ?_
            cases hf
            exact sx_ire hm dX13_isClassConstant_83 rfl (by decide)
          · refine sb_ic_ne hm dX13_isClassConstant_61 (tgt := 82) rfl (fun z => absurd z c18) (fun _ => ?_)
            refine mx_S.pu (pc2 := 65) (lv2 := [(4, .int u11.1), (3, .int u3.1), (0, .ref a0), (1, .int a1), (2, .int a2)]) (st2 := [.ref a0]) hm dX13_isClassConstant_64 rfl ?_
            replace hf := mx_sv_el hf; obtain ⟨v14, e_v14, hf⟩ := hf
            refine sx_get hm dX13_isClassConstant_65 rs_RX13_245 (xgr_el e_v14) ?_
            clear e_v14
            refine mx_S.pu (pc2 := 70) (lv2 := [(4, .int u11.1), (3, .int u3.1), (0, .ref a0), (1, .int a1), (2, .int a2)]) (st2 := [.int u11.1, .ref v14]) hm dX13_isClassConstant_68 rfl ?_
            refine sx_ic (v := 2) hm dX13_isClassConstant_70 (by decide) ?_
            replace hf := xl_el hf; obtain ⟨v15, e_v15, hf⟩ := hf
            refine mx_S.pu (pc2 := 72) (lv2 := [(4, .int u11.1), (3, .int u3.1), (0, .ref a0), (1, .int a1), (2, .int a2)]) (st2 := [.int v15, .ref v14]) hm dX13_isClassConstant_71 (by rw [← e_v15]; rfl) ?_
            clear e_v15
            replace hf := mx_sv_el hf; obtain ⟨v16, e_v16, hf⟩ := hf
            refine sx_ald hm dX13_isClassConstant_72 e_v16 ?_
            clear e_v16
            refine sx_bi (v := 91) hm dX13_isClassConstant_73 (by decide) ?_
            rcases mx_if_el hf with ⟨c17, hf⟩ | ⟨c17, hf⟩
            · refine sb_ic_eq hm dX13_isClassConstant_75 (tgt := 82) rfl (fun _ => ?_) (fun z => absurd c17 z)
              refine sx_ic (v := 0) hm dX13_isClassConstant_82 (by decide) ?_
              cases hf
              exact sx_ire hm dX13_isClassConstant_83 rfl (by decide)
            · refine sb_ic_eq hm dX13_isClassConstant_75 (tgt := 82) rfl (fun z => absurd z c17) (fun _ => ?_)
              refine sx_ic (v := 1) hm dX13_isClassConstant_78 (by decide) ?_
              refine mx_S.pu (pc2 := 83) (lv2 := [(4, .int u11.1), (3, .int u3.1), (0, .ref a0), (1, .int a1), (2, .int a2)]) (st2 := [.int 1]) hm dX13_isClassConstant_79 rfl ?_
              cases hf
              exact sx_ire hm dX13_isClassConstant_83 rfl (by decide)
    · refine sb_ic_eq hm dX13_isClassConstant_21 (tgt := 26) rfl (fun z => absurd z c21) (fun _ => ?_)
      refine sx_ic (v := 0) hm dX13_isClassConstant_24 (by decide) ?_
      cases hf
      exact sx_ire hm dX13_isClassConstant_25 rfl (by decide)
set_option maxHeartbeats 4000000 in
set_option maxRecDepth 20000 in
theorem j_X13_scanConstant_147_ok (X : Nat × (Nat → Int32)) {F L : Nat} (hF : 1 ≤ F) (hL : 21 ≤ L) (nn : Nat) (l1 : Int32) (l2 : Int32) (h : mx_H) {r : (Int32 × mx_H)} (hf : j_X13_scanConstant_147 nn l1 l2 h = some r) : mx_S X F L 503 147 [(1, .int l1), (2, .int l2)] [] h 0 0 (some (.int r.1), r.2, 0, 0) := by
  have hm : mx_mt 503 = some (yX13_scanConstant, cX13_scanConstant, 4, (some .int)) := mt_X13_scanConstant
  unfold j_X13_scanConstant_147 at hf
  refine mx_S.pu (pc2 := 148) (lv2 := [(1, .int l1), (2, .int l2)]) (st2 := [.int l1]) hm dX13_scanConstant_147 rfl ?_
  refine sx_ic (v := 2) hm dX13_scanConstant_148 (by decide) ?_
  replace hf := xl_el hf; obtain ⟨v1, e_v1, hf⟩ := hf
  refine mx_S.pu (pc2 := 150) (lv2 := [(1, .int l1), (2, .int l2)]) (st2 := [.int v1]) hm dX13_scanConstant_149 (by rw [← e_v1]; rfl) ?_
  clear e_v1
  refine mx_S.pu (pc2 := 151) (lv2 := [(1, .int l1), (2, .int l2)]) (st2 := [.int l2, .int v1]) hm dX13_scanConstant_150 rfl ?_
  replace hf := xl_el hf; obtain ⟨v2, e_v2, hf⟩ := hf
  refine mx_S.pu (pc2 := 152) (lv2 := [(1, .int l1), (2, .int l2)]) (st2 := [.int v2]) hm dX13_scanConstant_151 (by rw [← e_v2]; rfl) ?_
  clear e_v2
  cases hf
  exact sx_ire hm dX13_scanConstant_152 rfl rfl
set_option maxHeartbeats 4000000 in
set_option maxRecDepth 20000 in
theorem j_X13_scanConstant_132_ok (X : Nat × (Nat → Int32)) {F L : Nat} (hF : 1 ≤ F) (hL : 21 ≤ L) (nn : Nat) {kk_77 : Nat → Int32 → Int32 → Int32 → mx_H → Option (Int32 × mx_H)} (hk_77 : ∀ (l0 : Nat) (l1 : Int32) (l2 : Int32) (l3 : Int32) (h : mx_H) (r : (Int32 × mx_H)), kk_77 l0 l1 l2 l3 h = some r → mx_S X F L 503 77 [(0, .ref l0), (1, .int l1), (2, .int l2), (3, .int l3)] [] h 0 0 (some (.int r.1), r.2, 0, 0)) (l0 : Nat) (l1 : Int32) (l2 : Int32) (l3 : Int32) (h : mx_H) {r : (Int32 × mx_H)} (hf : j_X13_scanConstant_132 nn kk_77 l0 l1 l2 l3 h = some r) : mx_S X F L 503 132 [(0, .ref l0), (1, .int l1), (2, .int l2), (3, .int l3)] [] h 0 0 (some (.int r.1), r.2, 0, 0) := by
  have hm : mx_mt 503 = some (yX13_scanConstant, cX13_scanConstant, 4, (some .int)) := mt_X13_scanConstant
  unfold j_X13_scanConstant_132 at hf
  refine mx_S.pu (pc2 := 133) (lv2 := [(0, .ref l0), (1, .int l1), (2, .int l2), (3, .int l3)]) (st2 := [.ref l0]) hm dX13_scanConstant_132 rfl ?_
  refine mx_S.pu (pc2 := 134) (lv2 := [(0, .ref l0), (1, .int l1), (2, .int l2), (3, .int l3)]) (st2 := [.int l1, .ref l0]) hm dX13_scanConstant_133 rfl ?_
  refine sx_ic (v := 2) hm dX13_scanConstant_134 (by decide) ?_
  replace hf := xl_el hf; obtain ⟨v3, e_v3, hf⟩ := hf
  refine mx_S.pu (pc2 := 136) (lv2 := [(0, .ref l0), (1, .int l1), (2, .int l2), (3, .int l3)]) (st2 := [.int v3, .ref l0]) hm dX13_scanConstant_135 (by rw [← e_v3]; rfl) ?_
  clear e_v3
  refine mx_S.pu (pc2 := 137) (lv2 := [(0, .ref l0), (1, .int l1), (2, .int l2), (3, .int l3)]) (st2 := [.int l3, .int v3, .ref l0]) hm dX13_scanConstant_136 rfl ?_
  replace hf := xl_el hf; obtain ⟨v4, e_v4, hf⟩ := hf
  refine mx_S.pu (pc2 := 138) (lv2 := [(0, .ref l0), (1, .int l1), (2, .int l2), (3, .int l3)]) (st2 := [.int v4, .ref l0]) hm dX13_scanConstant_137 (by rw [← e_v4]; rfl) ?_
  clear e_v4
  replace hf := mx_gd_el hf; obtain ⟨c5, hf⟩ := hf
  replace hf := mx_sv_el hf; obtain ⟨u6, e_u6, hf⟩ := hf
  refine sx_cv hm dX13_scanConstant_138 rs_RX13_803 mt_X13_unfit [.int v4] [] (b := l0) (ci := 13) rfl rfl rfl c5 (Nat.le_of_ble_eq_true rfl) (Nat.le_of_ble_eq_true rfl) (by omega) (by omega) (f_X13_unfit_ok X (by omega) (by omega) nn l0 v4 h e_u6) ?_
  clear e_u6
  show mx_S X F L 503 141 [(0, .ref l0), (1, .int l1), (2, .int l2), (3, .int l3)] [] u6 0 0 (some (.int r.1), r.2, 0, 0)
  replace hf := xl_el hf; obtain ⟨v7, e_v7, hf⟩ := hf
  refine mx_S.pu (pc2 := 144) (lv2 := [(3, .int v7), (0, .ref l0), (1, .int l1), (2, .int l2)]) (st2 := []) hm dX13_scanConstant_141 (by rw [← e_v7]; rfl) ?_
  clear e_v7
  refine mx_S.pu (pc2 := 77) (lv2 := [(3, .int v7), (0, .ref l0), (1, .int l1), (2, .int l2)]) (st2 := []) hm dX13_scanConstant_144 rfl ?_
  refine mx_S.ext [(0, .ref l0), (1, .int l1), (2, .int l2), (3, .int v7)] (mx_sub_pos [1, 2, 3, 0] rfl (show ([3, 0, 1, 2] : List Nat).Nodup by decide)) ?_
  exact hk_77 l0 l1 l2 v7 u6 _ hf
set_option maxHeartbeats 4000000 in
set_option maxRecDepth 20000 in
theorem w_X13_scanConstant_77_ok (X : Nat × (Nat → Int32)) {F L : Nat} (hF : 1 ≤ F) (hL : 21 ≤ L) (nn : Nat) : ∀ (k : Nat) (l0 : Nat) (l1 : Int32) (l2 : Int32) (l3 : Int32) (h : mx_H) (r : (Int32 × mx_H)), w_X13_scanConstant_77 nn k l0 l1 l2 l3 h = some r → mx_S X F L 503 77 [(0, .ref l0), (1, .int l1), (2, .int l2), (3, .int l3)] [] h 0 0 (some (.int r.1), r.2, 0, 0) := by
  have hm : mx_mt 503 = some (yX13_scanConstant, cX13_scanConstant, 4, (some .int)) := mt_X13_scanConstant
  intro k
  induction k with
  | zero => intro l0 l1 l2 l3 h r hf; cases hf
  | succ k ih =>
    intro l0 l1 l2 l3 h r hf
    unfold w_X13_scanConstant_77 at hf
    refine mx_S.pu (pc2 := 78) (lv2 := [(0, .ref l0), (1, .int l1), (2, .int l2), (3, .int l3)]) (st2 := [.int l3]) hm dX13_scanConstant_77 rfl ?_
    refine mx_S.pu (pc2 := 79) (lv2 := [(0, .ref l0), (1, .int l1), (2, .int l2), (3, .int l3)]) (st2 := [.int l2, .int l3]) hm dX13_scanConstant_78 rfl ?_
    rcases mx_if_el hf with ⟨c27, hf⟩ | ⟨c27, hf⟩
    · refine sb_ic_ge hm dX13_scanConstant_79 (tgt := 147) rfl (fun _ => ?_) (fun z => absurd c27 z)
      refine mx_S.ext [(1, .int l1), (2, .int l2)] (mx_sub_pos [1, 2] rfl (show ([0, 1, 2, 3] : List Nat).Nodup by decide)) ?_
      exact j_X13_scanConstant_147_ok X hF hL nn l1 l2 h hf
    · refine sb_ic_ge hm dX13_scanConstant_79 (tgt := 147) rfl (fun z => absurd z c27) (fun _ => ?_)
      refine mx_S.pu (pc2 := 83) (lv2 := [(0, .ref l0), (1, .int l1), (2, .int l2), (3, .int l3)]) (st2 := [.ref l0]) hm dX13_scanConstant_82 rfl ?_
      replace hf := mx_sv_el hf; obtain ⟨v8, e_v8, hf⟩ := hf
      refine sx_get hm dX13_scanConstant_83 rs_RX13_764 (xgi_el e_v8) ?_
      clear e_v8
      refine sx_ic (v := (-1)) hm dX13_scanConstant_86 (by decide) ?_
      rcases mx_if_el hf with ⟨c26, hf⟩ | ⟨c26, hf⟩
      · refine sb_ic_ne hm dX13_scanConstant_87 (tgt := 147) rfl (fun _ => ?_) (fun z => absurd c26 z)
        refine mx_S.ext [(1, .int l1), (2, .int l2)] (mx_sub_pos [1, 2] rfl (show ([0, 1, 2, 3] : List Nat).Nodup by decide)) ?_
        exact j_X13_scanConstant_147_ok X hF hL nn l1 l2 h hf
      · refine sb_ic_ne hm dX13_scanConstant_87 (tgt := 147) rfl (fun z => absurd z c26) (fun _ => ?_)
        refine mx_S.pu (pc2 := 91) (lv2 := [(0, .ref l0), (1, .int l1), (2, .int l2), (3, .int l3)]) (st2 := [.ref l0]) hm dX13_scanConstant_90 rfl ?_
        refine mx_S.pu (pc2 := 92) (lv2 := [(0, .ref l0), (1, .int l1), (2, .int l2), (3, .int l3)]) (st2 := [.int l1, .ref l0]) hm dX13_scanConstant_91 rfl ?_
        refine sx_ic (v := 2) hm dX13_scanConstant_92 (by decide) ?_
        replace hf := xl_el hf; obtain ⟨v9, e_v9, hf⟩ := hf
        refine mx_S.pu (pc2 := 94) (lv2 := [(0, .ref l0), (1, .int l1), (2, .int l2), (3, .int l3)]) (st2 := [.int v9, .ref l0]) hm dX13_scanConstant_93 (by rw [← e_v9]; rfl) ?_
        clear e_v9
        refine mx_S.pu (pc2 := 95) (lv2 := [(0, .ref l0), (1, .int l1), (2, .int l2), (3, .int l3)]) (st2 := [.int l3, .int v9, .ref l0]) hm dX13_scanConstant_94 rfl ?_
        replace hf := xl_el hf; obtain ⟨v10, e_v10, hf⟩ := hf
        refine mx_S.pu (pc2 := 96) (lv2 := [(0, .ref l0), (1, .int l1), (2, .int l2), (3, .int l3)]) (st2 := [.int v10, .ref l0]) hm dX13_scanConstant_95 (by rw [← e_v10]; rfl) ?_
        clear e_v10
        replace hf := mx_gd_el hf; obtain ⟨c11, hf⟩ := hf
        replace hf := mx_sv_el hf; obtain ⟨u12, e_u12, hf⟩ := hf
        refine sx_cv hm dX13_scanConstant_96 rs_RX13_800 mt_X13_isByte [.int v10] [] (b := l0) (ci := 13) rfl rfl rfl c11 (Nat.le_of_ble_eq_true rfl) (Nat.le_of_ble_eq_true rfl) (by omega) (by omega) (f_X13_isByte_ok X (by omega) (by omega) nn l0 v10 h e_u12) ?_
        clear e_u12
        show mx_S X F L 503 99 [(0, .ref l0), (1, .int l1), (2, .int l2), (3, .int l3)] [.int u12.1] u12.2 0 0 (some (.int r.1), r.2, 0, 0)
        rcases mx_if_el hf with ⟨c25, hf⟩ | ⟨c25, hf⟩
        · refine sb_if_eq hm dX13_scanConstant_99 (tgt := 141) rfl (fun _ => ?_) (fun z => absurd c25 z)
          replace hf := xl_el hf; obtain ⟨v13, e_v13, hf⟩ := hf
          refine mx_S.pu (pc2 := 144) (lv2 := [(3, .int v13), (0, .ref l0), (1, .int l1), (2, .int l2)]) (st2 := []) hm dX13_scanConstant_141 (by rw [← e_v13]; rfl) ?_
          clear e_v13
          refine mx_S.pu (pc2 := 77) (lv2 := [(3, .int v13), (0, .ref l0), (1, .int l1), (2, .int l2)]) (st2 := []) hm dX13_scanConstant_144 rfl ?_
          refine mx_S.ext [(0, .ref l0), (1, .int l1), (2, .int l2), (3, .int v13)] (mx_sub_pos [1, 2, 3, 0] rfl (show ([3, 0, 1, 2] : List Nat).Nodup by decide)) ?_
          exact ih l0 l1 l2 v13 u12.2 _ hf
        · refine sb_if_eq hm dX13_scanConstant_99 (tgt := 141) rfl (fun z => absurd z c25) (fun _ => ?_)
          refine mx_S.pu (pc2 := 103) (lv2 := [(0, .ref l0), (1, .int l1), (2, .int l2), (3, .int l3)]) (st2 := [.ref l0]) hm dX13_scanConstant_102 rfl ?_
          replace hf := mx_sv_el hf; obtain ⟨v14, e_v14, hf⟩ := hf
          refine sx_get hm dX13_scanConstant_103 rs_RX13_245 (xgr_el e_v14) ?_
          clear e_v14
          refine mx_S.pu (pc2 := 107) (lv2 := [(0, .ref l0), (1, .int l1), (2, .int l2), (3, .int l3)]) (st2 := [.int l1, .ref v14]) hm dX13_scanConstant_106 rfl ?_
          refine sx_ic (v := 2) hm dX13_scanConstant_107 (by decide) ?_
          replace hf := xl_el hf; obtain ⟨v15, e_v15, hf⟩ := hf
          refine mx_S.pu (pc2 := 109) (lv2 := [(0, .ref l0), (1, .int l1), (2, .int l2), (3, .int l3)]) (st2 := [.int v15, .ref v14]) hm dX13_scanConstant_108 (by rw [← e_v15]; rfl) ?_
          clear e_v15
          refine mx_S.pu (pc2 := 110) (lv2 := [(0, .ref l0), (1, .int l1), (2, .int l2), (3, .int l3)]) (st2 := [.int l3, .int v15, .ref v14]) hm dX13_scanConstant_109 rfl ?_
          replace hf := xl_el hf; obtain ⟨v16, e_v16, hf⟩ := hf
          refine mx_S.pu (pc2 := 111) (lv2 := [(0, .ref l0), (1, .int l1), (2, .int l2), (3, .int l3)]) (st2 := [.int v16, .ref v14]) hm dX13_scanConstant_110 (by rw [← e_v16]; rfl) ?_
          clear e_v16
          replace hf := mx_sv_el hf; obtain ⟨v17, e_v17, hf⟩ := hf
          refine sx_ald hm dX13_scanConstant_111 e_v17 ?_
          clear e_v17
          refine sx_bi (v := 33) hm dX13_scanConstant_112 (by decide) ?_
          rcases mx_if_el hf with ⟨c24, hf⟩ | ⟨c24, hf⟩
          · refine sb_ic_lt hm dX13_scanConstant_114 (tgt := 132) rfl (fun _ => ?_) (fun z => absurd c24 z)
            exact j_X13_scanConstant_132_ok X hF hL nn ih l0 l1 l2 l3 u12.2 hf
          · refine sb_ic_lt hm dX13_scanConstant_114 (tgt := 132) rfl (fun z => absurd z c24) (fun _ => ?_)
            refine mx_S.pu (pc2 := 118) (lv2 := [(0, .ref l0), (1, .int l1), (2, .int l2), (3, .int l3)]) (st2 := [.ref l0]) hm dX13_scanConstant_117 rfl ?_
            replace hf := mx_sv_el hf; obtain ⟨v18, e_v18, hf⟩ := hf
            refine sx_get hm dX13_scanConstant_118 rs_RX13_245 (xgr_el e_v18) ?_
            clear e_v18
            refine mx_S.pu (pc2 := 122) (lv2 := [(0, .ref l0), (1, .int l1), (2, .int l2), (3, .int l3)]) (st2 := [.int l1, .ref v18]) hm dX13_scanConstant_121 rfl ?_
            refine sx_ic (v := 2) hm dX13_scanConstant_122 (by decide) ?_
            replace hf := xl_el hf; obtain ⟨v19, e_v19, hf⟩ := hf
            refine mx_S.pu (pc2 := 124) (lv2 := [(0, .ref l0), (1, .int l1), (2, .int l2), (3, .int l3)]) (st2 := [.int v19, .ref v18]) hm dX13_scanConstant_123 (by rw [← e_v19]; rfl) ?_
            clear e_v19
            refine mx_S.pu (pc2 := 125) (lv2 := [(0, .ref l0), (1, .int l1), (2, .int l2), (3, .int l3)]) (st2 := [.int l3, .int v19, .ref v18]) hm dX13_scanConstant_124 rfl ?_
            replace hf := xl_el hf; obtain ⟨v20, e_v20, hf⟩ := hf
            refine mx_S.pu (pc2 := 126) (lv2 := [(0, .ref l0), (1, .int l1), (2, .int l2), (3, .int l3)]) (st2 := [.int v20, .ref v18]) hm dX13_scanConstant_125 (by rw [← e_v20]; rfl) ?_
            clear e_v20
            replace hf := mx_sv_el hf; obtain ⟨v21, e_v21, hf⟩ := hf
            refine sx_ald hm dX13_scanConstant_126 e_v21 ?_
            clear e_v21
            refine sx_bi (v := 126) hm dX13_scanConstant_127 (by decide) ?_
            rcases mx_if_el hf with ⟨c23, hf⟩ | ⟨c23, hf⟩
            · refine sb_ic_le hm dX13_scanConstant_129 (tgt := 141) rfl (fun _ => ?_) (fun z => absurd c23 z)
              replace hf := xl_el hf; obtain ⟨v22, e_v22, hf⟩ := hf
              refine mx_S.pu (pc2 := 144) (lv2 := [(3, .int v22), (0, .ref l0), (1, .int l1), (2, .int l2)]) (st2 := []) hm dX13_scanConstant_141 (by rw [← e_v22]; rfl) ?_
              clear e_v22
              refine mx_S.pu (pc2 := 77) (lv2 := [(3, .int v22), (0, .ref l0), (1, .int l1), (2, .int l2)]) (st2 := []) hm dX13_scanConstant_144 rfl ?_
              refine mx_S.ext [(0, .ref l0), (1, .int l1), (2, .int l2), (3, .int v22)] (mx_sub_pos [1, 2, 3, 0] rfl (show ([3, 0, 1, 2] : List Nat).Nodup by decide)) ?_
              exact ih l0 l1 l2 v22 u12.2 _ hf
            · refine sb_ic_le hm dX13_scanConstant_129 (tgt := 141) rfl (fun z => absurd z c23) (fun _ => ?_)
              exact j_X13_scanConstant_132_ok X hF hL nn ih l0 l1 l2 l3 u12.2 hf
set_option maxHeartbeats 4000000 in
set_option maxRecDepth 20000 in
theorem j_X13_scanConstant_68_ok (X : Nat × (Nat → Int32)) {F L : Nat} (hF : 1 ≤ F) (hL : 21 ≤ L) (nn : Nat) (l0 : Nat) (l1 : Int32) (l2 : Int32) (h : mx_H) {r : (Int32 × mx_H)} (hf : j_X13_scanConstant_68 nn l0 l1 l2 h = some r) : mx_S X F L 503 68 [(0, .ref l0), (1, .int l1), (2, .int l2)] [] h 0 0 (some (.int r.1), r.2, 0, 0) := by
  have hm : mx_mt 503 = some (yX13_scanConstant, cX13_scanConstant, 4, (some .int)) := mt_X13_scanConstant
  unfold j_X13_scanConstant_68 at hf
  refine mx_S.pu (pc2 := 69) (lv2 := [(0, .ref l0), (1, .int l1), (2, .int l2)]) (st2 := [.ref l0]) hm dX13_scanConstant_68 rfl ?_
  refine mx_S.pu (pc2 := 70) (lv2 := [(0, .ref l0), (1, .int l1), (2, .int l2)]) (st2 := [.int l1, .ref l0]) hm dX13_scanConstant_69 rfl ?_
  refine sx_ic (v := 1) hm dX13_scanConstant_70 (by decide) ?_
  replace hf := xl_el hf; obtain ⟨v28, e_v28, hf⟩ := hf
  refine mx_S.pu (pc2 := 72) (lv2 := [(0, .ref l0), (1, .int l1), (2, .int l2)]) (st2 := [.int v28, .ref l0]) hm dX13_scanConstant_71 (by rw [← e_v28]; rfl) ?_
  clear e_v28
  replace hf := mx_gd_el hf; obtain ⟨c29, hf⟩ := hf
  replace hf := mx_sv_el hf; obtain ⟨u30, e_u30, hf⟩ := hf
  refine sx_cv hm dX13_scanConstant_72 rs_RX13_803 mt_X13_unfit [.int v28] [] (b := l0) (ci := 13) rfl rfl rfl c29 (Nat.le_of_ble_eq_true rfl) (Nat.le_of_ble_eq_true rfl) (by omega) (by omega) (f_X13_unfit_ok X (by omega) (by omega) nn l0 v28 h e_u30) ?_
  clear e_u30
  show mx_S X F L 503 75 [(0, .ref l0), (1, .int l1), (2, .int l2)] [] u30 0 0 (some (.int r.1), r.2, 0, 0)
  refine sx_ic (v := 0) hm dX13_scanConstant_75 (by decide) ?_
  refine mx_S.pu (pc2 := 77) (lv2 := [(3, .int 0), (0, .ref l0), (1, .int l1), (2, .int l2)]) (st2 := []) hm dX13_scanConstant_76 rfl ?_
  refine mx_S.ext [(0, .ref l0), (1, .int l1), (2, .int l2), (3, .int 0)] (mx_sub_pos [1, 2, 3, 0] rfl (show ([3, 0, 1, 2] : List Nat).Nodup by decide)) ?_
  exact w_X13_scanConstant_77_ok X hF hL nn nn l0 l1 l2 0 u30 _ hf
set_option maxHeartbeats 4000000 in
set_option maxRecDepth 20000 in
theorem f_X13_scanConstant_ok (X : Nat × (Nat → Int32)) {F L : Nat} (hF : 1 ≤ F) (hL : 21 ≤ L) (nn : Nat) (a0 : Nat) (a1 : Int32) (h : mx_H) {r : (Int32 × mx_H)} (hf : f_X13_scanConstant nn a0 a1 h = some r) : mx_R X F L 503 [.ref a0, .int a1] h (some (.int r.1), r.2, 0, 0) := by
  have hm : mx_mt 503 = some (yX13_scanConstant, cX13_scanConstant, 4, (some .int)) := mt_X13_scanConstant
  show mx_S X F L 503 0 [(0, .ref a0), (1, .int a1)] [] h 0 0 (some (.int r.1), r.2, 0, 0)
  unfold f_X13_scanConstant at hf
  refine mx_S.pu (pc2 := 1) (lv2 := [(0, .ref a0), (1, .int a1)]) (st2 := [.ref a0]) hm dX13_scanConstant_0 rfl ?_
  replace hf := mx_sv_el hf; obtain ⟨v31, e_v31, hf⟩ := hf
  refine sx_get hm dX13_scanConstant_1 rs_RX13_245 (xgr_el e_v31) ?_
  clear e_v31
  refine mx_S.pu (pc2 := 5) (lv2 := [(0, .ref a0), (1, .int a1)]) (st2 := [.int a1, .ref v31]) hm dX13_scanConstant_4 rfl ?_
  replace hf := mx_sv_el hf; obtain ⟨v32, e_v32, hf⟩ := hf
  refine sx_ald hm dX13_scanConstant_5 e_v32 ?_
  clear e_v32
  rcases mx_if_el hf with ⟨n_0, hf⟩ | ⟨n_0, hf⟩
  · refine sx_tin hm dX13_scanConstant_6 (by rw [n_0]; decide) (by rw [n_0]; decide) (off := 30) (by rw [n_0]; rfl) (tgt := 36) rfl ?_
    clear n_0
    refine mx_S.pu (pc2 := 37) (lv2 := [(0, .ref a0), (1, .int a1)]) (st2 := [.ref a0]) hm dX13_scanConstant_36 rfl ?_
    refine mx_S.pu (pc2 := 38) (lv2 := [(0, .ref a0), (1, .int a1)]) (st2 := [.int a1, .ref a0]) hm dX13_scanConstant_37 rfl ?_
    refine sx_ic (v := 1) hm dX13_scanConstant_38 (by decide) ?_
    replace hf := xl_el hf; obtain ⟨v35, e_v35, hf⟩ := hf
    refine mx_S.pu (pc2 := 40) (lv2 := [(0, .ref a0), (1, .int a1)]) (st2 := [.int v35, .ref a0]) hm dX13_scanConstant_39 (by rw [← e_v35]; rfl) ?_
    clear e_v35
    replace hf := mx_gd_el hf; obtain ⟨c36, hf⟩ := hf
    replace hf := mx_sv_el hf; obtain ⟨u37, e_u37, hf⟩ := hf
    refine sx_cv hm dX13_scanConstant_40 rs_RX13_800 mt_X13_isByte [.int v35] [] (b := a0) (ci := 13) rfl rfl rfl c36 (Nat.le_of_ble_eq_true rfl) (Nat.le_of_ble_eq_true rfl) (by omega) (by omega) (f_X13_isByte_ok X (by omega) (by omega) nn a0 v35 h e_u37) ?_
    clear e_u37
    show mx_S X F L 503 43 [(0, .ref a0), (1, .int a1)] [.int u37.1] u37.2 0 0 (some (.int r.1), r.2, 0, 0)
    rcases mx_if_el hf with ⟨c43, hf⟩ | ⟨c43, hf⟩
    · refine sb_if_ne hm dX13_scanConstant_43 (tgt := 48) rfl (fun _ => ?_) (fun z => absurd c43 z)
      refine mx_S.pu (pc2 := 49) (lv2 := [(0, .ref a0), (1, .int a1)]) (st2 := [.ref a0]) hm dX13_scanConstant_48 rfl ?_
      replace hf := mx_sv_el hf; obtain ⟨v38, e_v38, hf⟩ := hf
      refine sx_get hm dX13_scanConstant_49 rs_RX13_245 (xgr_el e_v38) ?_
      clear e_v38
      refine mx_S.pu (pc2 := 53) (lv2 := [(0, .ref a0), (1, .int a1)]) (st2 := [.int a1, .ref v38]) hm dX13_scanConstant_52 rfl ?_
      refine sx_ic (v := 1) hm dX13_scanConstant_53 (by decide) ?_
      replace hf := xl_el hf; obtain ⟨v39, e_v39, hf⟩ := hf
      refine mx_S.pu (pc2 := 55) (lv2 := [(0, .ref a0), (1, .int a1)]) (st2 := [.int v39, .ref v38]) hm dX13_scanConstant_54 (by rw [← e_v39]; rfl) ?_
      clear e_v39
      replace hf := mx_sv_el hf; obtain ⟨v40, e_v40, hf⟩ := hf
      refine sx_ald hm dX13_scanConstant_55 e_v40 ?_
      clear e_v40
      refine mx_S.pu (pc2 := 57) (lv2 := [(2, .int v40), (0, .ref a0), (1, .int a1)]) (st2 := []) hm dX13_scanConstant_56 rfl ?_
      refine mx_S.pu (pc2 := 58) (lv2 := [(2, .int v40), (0, .ref a0), (1, .int a1)]) (st2 := [.int v40]) hm dX13_scanConstant_57 rfl ?_
      refine sx_ic (v := 1) hm dX13_scanConstant_58 (by decide) ?_
      rcases mx_if_el hf with ⟨c42, hf⟩ | ⟨c42, hf⟩
      · refine sb_ic_lt hm dX13_scanConstant_59 (tgt := 68) rfl (fun _ => ?_) (fun z => absurd c42 z)
        refine mx_S.ext [(0, .ref a0), (1, .int a1), (2, .int v40)] (mx_sub_pos [1, 2, 0] rfl (show ([2, 0, 1] : List Nat).Nodup by decide)) ?_
        exact j_X13_scanConstant_68_ok X hF hL nn a0 a1 v40 u37.2 hf
      · refine sb_ic_lt hm dX13_scanConstant_59 (tgt := 68) rfl (fun z => absurd z c42) (fun _ => ?_)
        refine mx_S.pu (pc2 := 63) (lv2 := [(2, .int v40), (0, .ref a0), (1, .int a1)]) (st2 := [.int v40]) hm dX13_scanConstant_62 rfl ?_
        refine sx_bi (v := 120) hm dX13_scanConstant_63 (by decide) ?_
        rcases mx_if_el hf with ⟨c41, hf⟩ | ⟨c41, hf⟩
        · refine sb_ic_le hm dX13_scanConstant_65 (tgt := 75) rfl (fun _ => ?_) (fun z => absurd c41 z)
          refine sx_ic (v := 0) hm dX13_scanConstant_75 (by decide) ?_
          refine mx_S.pu (pc2 := 77) (lv2 := [(3, .int 0), (2, .int v40), (0, .ref a0), (1, .int a1)]) (st2 := []) hm dX13_scanConstant_76 rfl ?_
          refine mx_S.ext [(0, .ref a0), (1, .int a1), (2, .int v40), (3, .int 0)] (mx_sub_pos [2, 3, 1, 0] rfl (show ([3, 2, 0, 1] : List Nat).Nodup by decide)) ?_
          exact w_X13_scanConstant_77_ok X hF hL nn nn a0 a1 v40 0 u37.2 _ hf
        · refine sb_ic_le hm dX13_scanConstant_65 (tgt := 75) rfl (fun z => absurd z c41) (fun _ => ?_)
          refine mx_S.ext [(0, .ref a0), (1, .int a1), (2, .int v40)] (mx_sub_pos [1, 2, 0] rfl (show ([2, 0, 1] : List Nat).Nodup by decide)) ?_
          exact j_X13_scanConstant_68_ok X hF hL nn a0 a1 v40 u37.2 hf
    · refine sb_if_ne hm dX13_scanConstant_43 (tgt := 48) rfl (fun z => absurd z c43) (fun _ => ?_)
      refine mx_S.pu (pc2 := 47) (lv2 := [(0, .ref a0), (1, .int a1)]) (st2 := [.int a1]) hm dX13_scanConstant_46 rfl ?_
      cases hf
      exact sx_ire hm dX13_scanConstant_47 rfl rfl
  · rcases mx_if_el hf with ⟨n_1, hf⟩ | ⟨n_1, hf⟩
    · refine sx_tin hm dX13_scanConstant_6 (by rw [n_1]; decide) (by rw [n_1]; decide) (off := 147) (by rw [n_1]; rfl) (tgt := 153) rfl ?_
      clear n_0 n_1
      refine mx_S.pu (pc2 := 154) (lv2 := [(0, .ref a0), (1, .int a1)]) (st2 := [.ref a0]) hm dX13_scanConstant_153 rfl ?_
      refine mx_S.pu (pc2 := 155) (lv2 := [(0, .ref a0), (1, .int a1)]) (st2 := [.int a1, .ref a0]) hm dX13_scanConstant_154 rfl ?_
      refine sx_ic (v := 4) hm dX13_scanConstant_155 (by decide) ?_
      replace hf := xl_el hf; obtain ⟨v44, e_v44, hf⟩ := hf
      refine mx_S.pu (pc2 := 157) (lv2 := [(0, .ref a0), (1, .int a1)]) (st2 := [.int v44, .ref a0]) hm dX13_scanConstant_156 (by rw [← e_v44]; rfl) ?_
      clear e_v44
      replace hf := mx_gd_el hf; obtain ⟨c45, hf⟩ := hf
      replace hf := mx_sv_el hf; obtain ⟨u46, e_u46, hf⟩ := hf
      refine sx_cv hm dX13_scanConstant_157 rs_RX13_800 mt_X13_isByte [.int v44] [] (b := a0) (ci := 13) rfl rfl rfl c45 (Nat.le_of_ble_eq_true rfl) (Nat.le_of_ble_eq_true rfl) (by omega) (by omega) (f_X13_isByte_ok X (by omega) (by omega) nn a0 v44 h e_u46) ?_
      clear e_u46
      show mx_S X F L 503 160 [(0, .ref a0), (1, .int a1)] [.int u46.1] u46.2 0 0 (some (.int r.1), r.2, 0, 0)
      refine mx_S.pu (pc2 := 161) (lv2 := [(0, .ref a0), (1, .int a1)]) (st2 := []) hm dX13_scanConstant_160 rfl ?_
      refine mx_S.pu (pc2 := 162) (lv2 := [(0, .ref a0), (1, .int a1)]) (st2 := [.int a1]) hm dX13_scanConstant_161 rfl ?_
      refine sx_ic (v := 5) hm dX13_scanConstant_162 (by decide) ?_
      replace hf := xl_el hf; obtain ⟨v47, e_v47, hf⟩ := hf
      refine mx_S.pu (pc2 := 164) (lv2 := [(0, .ref a0), (1, .int a1)]) (st2 := [.int v47]) hm dX13_scanConstant_163 (by rw [← e_v47]; rfl) ?_
      clear e_v47
      cases hf
      exact sx_ire hm dX13_scanConstant_164 rfl rfl
    · rcases mx_if_el hf with ⟨n_2, hf⟩ | ⟨n_2, hf⟩
      · refine sx_tin hm dX13_scanConstant_6 (by rw [n_2]; decide) (by rw [n_2]; decide) (off := 159) (by rw [n_2]; rfl) (tgt := 165) rfl ?_
        clear n_0 n_1 n_2
        refine mx_S.pu (pc2 := 166) (lv2 := [(0, .ref a0), (1, .int a1)]) (st2 := [.ref a0]) hm dX13_scanConstant_165 rfl ?_
        refine mx_S.pu (pc2 := 167) (lv2 := [(0, .ref a0), (1, .int a1)]) (st2 := [.int a1, .ref a0]) hm dX13_scanConstant_166 rfl ?_
        refine sx_ic (v := 1) hm dX13_scanConstant_167 (by decide) ?_
        replace hf := xl_el hf; obtain ⟨v48, e_v48, hf⟩ := hf
        refine mx_S.pu (pc2 := 169) (lv2 := [(0, .ref a0), (1, .int a1)]) (st2 := [.int v48, .ref a0]) hm dX13_scanConstant_168 (by rw [← e_v48]; rfl) ?_
        clear e_v48
        replace hf := mx_gd_el hf; obtain ⟨c49, hf⟩ := hf
        replace hf := mx_sv_el hf; obtain ⟨u50, e_u50, hf⟩ := hf
        refine sx_cv hm dX13_scanConstant_169 rs_RX13_800 mt_X13_isByte [.int v48] [] (b := a0) (ci := 13) rfl rfl rfl c49 (Nat.le_of_ble_eq_true rfl) (Nat.le_of_ble_eq_true rfl) (by omega) (by omega) (f_X13_isByte_ok X (by omega) (by omega) nn a0 v48 h e_u50) ?_
        clear e_u50
        show mx_S X F L 503 172 [(0, .ref a0), (1, .int a1)] [.int u50.1] u50.2 0 0 (some (.int r.1), r.2, 0, 0)
        refine mx_S.pu (pc2 := 173) (lv2 := [(0, .ref a0), (1, .int a1)]) (st2 := []) hm dX13_scanConstant_172 rfl ?_
        refine mx_S.pu (pc2 := 174) (lv2 := [(0, .ref a0), (1, .int a1)]) (st2 := [.int a1]) hm dX13_scanConstant_173 rfl ?_
        refine sx_ic (v := 2) hm dX13_scanConstant_174 (by decide) ?_
        replace hf := xl_el hf; obtain ⟨v51, e_v51, hf⟩ := hf
        refine mx_S.pu (pc2 := 176) (lv2 := [(0, .ref a0), (1, .int a1)]) (st2 := [.int v51]) hm dX13_scanConstant_175 (by rw [← e_v51]; rfl) ?_
        clear e_v51
        cases hf
        exact sx_ire hm dX13_scanConstant_176 rfl rfl
      · rcases mx_if_el hf with ⟨n_3, hf⟩ | ⟨n_3, hf⟩
        · refine sx_tin hm dX13_scanConstant_6 (by rw [n_3]; decide) (by rw [n_3]; decide) (off := 171) (by rw [n_3]; rfl) (tgt := 177) rfl ?_
          clear n_0 n_1 n_2 n_3
          refine mx_S.pu (pc2 := 178) (lv2 := [(0, .ref a0), (1, .int a1)]) (st2 := [.ref a0]) hm dX13_scanConstant_177 rfl ?_
          refine mx_S.pu (pc2 := 179) (lv2 := [(0, .ref a0), (1, .int a1)]) (st2 := [.int a1, .ref a0]) hm dX13_scanConstant_178 rfl ?_
          refine sx_ic (v := 3) hm dX13_scanConstant_179 (by decide) ?_
          replace hf := xl_el hf; obtain ⟨v52, e_v52, hf⟩ := hf
          refine mx_S.pu (pc2 := 181) (lv2 := [(0, .ref a0), (1, .int a1)]) (st2 := [.int v52, .ref a0]) hm dX13_scanConstant_180 (by rw [← e_v52]; rfl) ?_
          clear e_v52
          replace hf := mx_gd_el hf; obtain ⟨c53, hf⟩ := hf
          replace hf := mx_sv_el hf; obtain ⟨u54, e_u54, hf⟩ := hf
          refine sx_cv hm dX13_scanConstant_181 rs_RX13_800 mt_X13_isByte [.int v52] [] (b := a0) (ci := 13) rfl rfl rfl c53 (Nat.le_of_ble_eq_true rfl) (Nat.le_of_ble_eq_true rfl) (by omega) (by omega) (f_X13_isByte_ok X (by omega) (by omega) nn a0 v52 h e_u54) ?_
          clear e_u54
          show mx_S X F L 503 184 [(0, .ref a0), (1, .int a1)] [.int u54.1] u54.2 0 0 (some (.int r.1), r.2, 0, 0)
          refine mx_S.pu (pc2 := 185) (lv2 := [(0, .ref a0), (1, .int a1)]) (st2 := []) hm dX13_scanConstant_184 rfl ?_
          refine mx_S.pu (pc2 := 186) (lv2 := [(0, .ref a0), (1, .int a1)]) (st2 := [.int a1]) hm dX13_scanConstant_185 rfl ?_
          refine sx_ic (v := 4) hm dX13_scanConstant_186 (by decide) ?_
          replace hf := xl_el hf; obtain ⟨v55, e_v55, hf⟩ := hf
          refine mx_S.pu (pc2 := 188) (lv2 := [(0, .ref a0), (1, .int a1)]) (st2 := [.int v55]) hm dX13_scanConstant_187 (by rw [← e_v55]; rfl) ?_
          clear e_v55
          cases hf
          exact sx_ire hm dX13_scanConstant_188 rfl rfl
        · rcases (show (v32.toInt < 1 ∨ 4 < v32.toInt) ∨ v32.toInt = 1 ∨ v32.toInt = 2 ∨ v32.toInt = 3 ∨ v32.toInt = 4 by omega) with z0 | z0 | z0 | z0 | z0
          · refine sx_tout hm dX13_scanConstant_6 z0 (tgt := 189) rfl ?_
            refine mx_S.pu (pc2 := 190) (lv2 := [(0, .ref a0), (1, .int a1)]) (st2 := [.ref a0]) hm dX13_scanConstant_189 rfl ?_
            refine mx_S.pu (pc2 := 191) (lv2 := [(0, .ref a0), (1, .int a1)]) (st2 := [.int a1, .ref a0]) hm dX13_scanConstant_190 rfl ?_
            replace hf := mx_gd_el hf; obtain ⟨c33, hf⟩ := hf
            replace hf := mx_sv_el hf; obtain ⟨u34, e_u34, hf⟩ := hf
            refine sx_cv hm dX13_scanConstant_191 rs_RX13_803 mt_X13_unfit [.int a1] [] (b := a0) (ci := 13) rfl rfl rfl c33 (Nat.le_of_ble_eq_true rfl) (Nat.le_of_ble_eq_true rfl) (by omega) (by omega) (f_X13_unfit_ok X (by omega) (by omega) nn a0 a1 h e_u34) ?_
            clear e_u34
            show mx_S X F L 503 194 [(0, .ref a0), (1, .int a1)] [] u34 0 0 (some (.int r.1), r.2, 0, 0)
            refine mx_S.pu (pc2 := 195) (lv2 := [(0, .ref a0), (1, .int a1)]) (st2 := [.int a1]) hm dX13_scanConstant_194 rfl ?_
            cases hf
            exact sx_ire hm dX13_scanConstant_195 rfl rfl
          · exact absurd (Int32.toInt_inj.mp (z0.trans (by decide : (1 : Int) = (1 : Int32).toInt))) n_0
          · exact absurd (Int32.toInt_inj.mp (z0.trans (by decide : (2 : Int) = (2 : Int32).toInt))) n_1
          · exact absurd (Int32.toInt_inj.mp (z0.trans (by decide : (3 : Int) = (3 : Int32).toInt))) n_2
          · exact absurd (Int32.toInt_inj.mp (z0.trans (by decide : (4 : Int) = (4 : Int32).toInt))) n_3
set_option maxHeartbeats 4000000 in
set_option maxRecDepth 20000 in
theorem j_X13_scanFields_94_ok (X : Nat × (Nat → Int32)) {F L : Nat} (hF : 8 ≤ F) (hL : 184 ≤ L) (nn : Nat) {kk_35 : Nat → Int32 → Int32 → Int32 → Int32 → mx_H → Option (Int32 × mx_H)} (hk_35 : ∀ (l0 : Nat) (l1 : Int32) (l2 : Int32) (l3 : Int32) (l4 : Int32) (h : mx_H) (r : (Int32 × mx_H)), kk_35 l0 l1 l2 l3 l4 h = some r → mx_S X F L 505 35 [(0, .ref l0), (1, .int l1), (2, .int l2), (3, .int l3), (4, .int l4)] [] h 0 0 (some (.int r.1), r.2, 0, 0)) (l0 : Nat) (l1 : Int32) (l2 : Int32) (l3 : Int32) (l4 : Int32) (h : mx_H) {r : (Int32 × mx_H)} (hf : j_X13_scanFields_94 nn kk_35 l0 l1 l2 l3 l4 h = some r) : mx_S X F L 505 94 [(0, .ref l0), (1, .int l1), (2, .int l2), (3, .int l3), (4, .int l4)] [] h 0 0 (some (.int r.1), r.2, 0, 0) := by
  have hm : mx_mt 505 = some (yX13_scanFields, cX13_scanFields, 5, (some .int)) := mt_X13_scanFields
  unfold j_X13_scanFields_94 at hf
  refine mx_S.pu (pc2 := 95) (lv2 := [(0, .ref l0), (1, .int l1), (2, .int l2), (3, .int l3), (4, .int l4)]) (st2 := [.ref l0]) hm dX13_scanFields_94 rfl ?_
  refine mx_S.pu (pc2 := 96) (lv2 := [(0, .ref l0), (1, .int l1), (2, .int l2), (3, .int l3), (4, .int l4)]) (st2 := [.int l3, .ref l0]) hm dX13_scanFields_95 rfl ?_
  refine sx_ic (v := 1) hm dX13_scanFields_96 (by decide) ?_
  replace hf := xl_el hf; obtain ⟨v1, e_v1, hf⟩ := hf
  refine mx_S.pu (pc2 := 98) (lv2 := [(0, .ref l0), (1, .int l1), (2, .int l2), (3, .int l3), (4, .int l4)]) (st2 := [.int v1, .ref l0]) hm dX13_scanFields_97 (by rw [← e_v1]; rfl) ?_
  clear e_v1
  replace hf := mx_gd_el hf; obtain ⟨c2, hf⟩ := hf
  replace hf := mx_sv_el hf; obtain ⟨u3, e_u3, hf⟩ := hf
  refine sx_cv hm dX13_scanFields_98 rs_RX13_800 mt_X13_isByte [.int v1] [] (b := l0) (ci := 13) rfl rfl rfl c2 (Nat.le_of_ble_eq_true rfl) (Nat.le_of_ble_eq_true rfl) (by omega) (by omega) (f_X13_isByte_ok X (by omega) (by omega) nn l0 v1 h e_u3) ?_
  clear e_u3
  show mx_S X F L 505 101 [(0, .ref l0), (1, .int l1), (2, .int l2), (3, .int l3), (4, .int l4)] [.int u3.1] u3.2 0 0 (some (.int r.1), r.2, 0, 0)
  rcases mx_if_el hf with ⟨c19, hf⟩ | ⟨c19, hf⟩
  · refine sb_if_eq hm dX13_scanFields_101 (tgt := 127) rfl (fun _ => ?_) (fun z => absurd c19 z)
    replace hf := xl_el hf; obtain ⟨v4, e_v4, hf⟩ := hf
    refine mx_S.pu (pc2 := 130) (lv2 := [(3, .int v4), (0, .ref l0), (1, .int l1), (2, .int l2), (4, .int l4)]) (st2 := []) hm dX13_scanFields_127 (by rw [← e_v4]; rfl) ?_
    clear e_v4
    replace hf := xl_el hf; obtain ⟨v5, e_v5, hf⟩ := hf
    refine mx_S.pu (pc2 := 133) (lv2 := [(4, .int v5), (3, .int v4), (0, .ref l0), (1, .int l1), (2, .int l2)]) (st2 := []) hm dX13_scanFields_130 (by rw [← e_v5]; rfl) ?_
    clear e_v5
    refine mx_S.pu (pc2 := 35) (lv2 := [(4, .int v5), (3, .int v4), (0, .ref l0), (1, .int l1), (2, .int l2)]) (st2 := []) hm dX13_scanFields_133 rfl ?_
    refine mx_S.ext [(0, .ref l0), (1, .int l1), (2, .int l2), (3, .int v4), (4, .int v5)] (mx_sub_pos [2, 3, 4, 1, 0] rfl (show ([4, 3, 0, 1, 2] : List Nat).Nodup by decide)) ?_
    exact hk_35 l0 l1 l2 v4 v5 u3.2 _ hf
  · refine sb_if_eq hm dX13_scanFields_101 (tgt := 127) rfl (fun z => absurd z c19) (fun _ => ?_)
    refine mx_S.pu (pc2 := 105) (lv2 := [(0, .ref l0), (1, .int l1), (2, .int l2), (3, .int l3), (4, .int l4)]) (st2 := [.ref l0]) hm dX13_scanFields_104 rfl ?_
    refine mx_S.pu (pc2 := 106) (lv2 := [(0, .ref l0), (1, .int l1), (2, .int l2), (3, .int l3), (4, .int l4)]) (st2 := [.ref l0, .ref l0]) hm dX13_scanFields_105 rfl ?_
    replace hf := mx_sv_el hf; obtain ⟨v6, e_v6, hf⟩ := hf
    refine sx_get hm dX13_scanFields_106 rs_RX13_245 (xgr_el e_v6) ?_
    clear e_v6
    refine mx_S.pu (pc2 := 110) (lv2 := [(0, .ref l0), (1, .int l1), (2, .int l2), (3, .int l3), (4, .int l4)]) (st2 := [.int l3, .ref v6, .ref l0]) hm dX13_scanFields_109 rfl ?_
    refine sx_ic (v := 1) hm dX13_scanFields_110 (by decide) ?_
    replace hf := xl_el hf; obtain ⟨v7, e_v7, hf⟩ := hf
    refine mx_S.pu (pc2 := 112) (lv2 := [(0, .ref l0), (1, .int l1), (2, .int l2), (3, .int l3), (4, .int l4)]) (st2 := [.int v7, .ref v6, .ref l0]) hm dX13_scanFields_111 (by rw [← e_v7]; rfl) ?_
    clear e_v7
    replace hf := mx_sv_el hf; obtain ⟨v8, e_v8, hf⟩ := hf
    refine sx_ald hm dX13_scanFields_112 e_v8 ?_
    clear e_v8
    refine sx_ic (v := 1) hm dX13_scanFields_113 (by decide) ?_
    replace hf := mx_gd_el hf; obtain ⟨c9, hf⟩ := hf
    replace hf := mx_sv_el hf; obtain ⟨u10, e_u10, hf⟩ := hf
    refine sx_cv hm dX13_scanFields_114 rs_RX13_821 mt_X13_isText [.int v8, .int 1] [] (b := l0) (ci := 13) rfl rfl rfl c9 (Nat.le_of_ble_eq_true rfl) (Nat.le_of_ble_eq_true rfl) (by omega) (by omega) (f_X13_isText_ok X (by omega) (by omega) nn l0 v8 1 u3.2 e_u10) ?_
    clear e_u10
    show mx_S X F L 505 117 [(0, .ref l0), (1, .int l1), (2, .int l2), (3, .int l3), (4, .int l4)] [.int u10.1] u10.2 0 0 (some (.int r.1), r.2, 0, 0)
    rcases mx_if_el hf with ⟨c18, hf⟩ | ⟨c18, hf⟩
    · refine sb_if_ne hm dX13_scanFields_117 (tgt := 127) rfl (fun _ => ?_) (fun z => absurd c18 z)
      replace hf := xl_el hf; obtain ⟨v11, e_v11, hf⟩ := hf
      refine mx_S.pu (pc2 := 130) (lv2 := [(3, .int v11), (0, .ref l0), (1, .int l1), (2, .int l2), (4, .int l4)]) (st2 := []) hm dX13_scanFields_127 (by rw [← e_v11]; rfl) ?_
      clear e_v11
      replace hf := xl_el hf; obtain ⟨v12, e_v12, hf⟩ := hf
      refine mx_S.pu (pc2 := 133) (lv2 := [(4, .int v12), (3, .int v11), (0, .ref l0), (1, .int l1), (2, .int l2)]) (st2 := []) hm dX13_scanFields_130 (by rw [← e_v12]; rfl) ?_
      clear e_v12
      refine mx_S.pu (pc2 := 35) (lv2 := [(4, .int v12), (3, .int v11), (0, .ref l0), (1, .int l1), (2, .int l2)]) (st2 := []) hm dX13_scanFields_133 rfl ?_
      refine mx_S.ext [(0, .ref l0), (1, .int l1), (2, .int l2), (3, .int v11), (4, .int v12)] (mx_sub_pos [2, 3, 4, 1, 0] rfl (show ([4, 3, 0, 1, 2] : List Nat).Nodup by decide)) ?_
      exact hk_35 l0 l1 l2 v11 v12 u10.2 _ hf
    · refine sb_if_ne hm dX13_scanFields_117 (tgt := 127) rfl (fun z => absurd z c18) (fun _ => ?_)
      refine mx_S.pu (pc2 := 121) (lv2 := [(0, .ref l0), (1, .int l1), (2, .int l2), (3, .int l3), (4, .int l4)]) (st2 := [.ref l0]) hm dX13_scanFields_120 rfl ?_
      refine mx_S.pu (pc2 := 122) (lv2 := [(0, .ref l0), (1, .int l1), (2, .int l2), (3, .int l3), (4, .int l4)]) (st2 := [.int l3, .ref l0]) hm dX13_scanFields_121 rfl ?_
      refine sx_ic (v := 1) hm dX13_scanFields_122 (by decide) ?_
      replace hf := xl_el hf; obtain ⟨v13, e_v13, hf⟩ := hf
      refine mx_S.pu (pc2 := 124) (lv2 := [(0, .ref l0), (1, .int l1), (2, .int l2), (3, .int l3), (4, .int l4)]) (st2 := [.int v13, .ref l0]) hm dX13_scanFields_123 (by rw [← e_v13]; rfl) ?_
      clear e_v13
      replace hf := mx_gd_el hf; obtain ⟨c14, hf⟩ := hf
      replace hf := mx_sv_el hf; obtain ⟨u15, e_u15, hf⟩ := hf
      refine sx_cv hm dX13_scanFields_124 rs_RX13_803 mt_X13_unfit [.int v13] [] (b := l0) (ci := 13) rfl rfl rfl c14 (Nat.le_of_ble_eq_true rfl) (Nat.le_of_ble_eq_true rfl) (by omega) (by omega) (f_X13_unfit_ok X (by omega) (by omega) nn l0 v13 u10.2 e_u15) ?_
      clear e_u15
      show mx_S X F L 505 127 [(0, .ref l0), (1, .int l1), (2, .int l2), (3, .int l3), (4, .int l4)] [] u15 0 0 (some (.int r.1), r.2, 0, 0)
      replace hf := xl_el hf; obtain ⟨v16, e_v16, hf⟩ := hf
      refine mx_S.pu (pc2 := 130) (lv2 := [(3, .int v16), (0, .ref l0), (1, .int l1), (2, .int l2), (4, .int l4)]) (st2 := []) hm dX13_scanFields_127 (by rw [← e_v16]; rfl) ?_
      clear e_v16
      replace hf := xl_el hf; obtain ⟨v17, e_v17, hf⟩ := hf
      refine mx_S.pu (pc2 := 133) (lv2 := [(4, .int v17), (3, .int v16), (0, .ref l0), (1, .int l1), (2, .int l2)]) (st2 := []) hm dX13_scanFields_130 (by rw [← e_v17]; rfl) ?_
      clear e_v17
      refine mx_S.pu (pc2 := 35) (lv2 := [(4, .int v17), (3, .int v16), (0, .ref l0), (1, .int l1), (2, .int l2)]) (st2 := []) hm dX13_scanFields_133 rfl ?_
      refine mx_S.ext [(0, .ref l0), (1, .int l1), (2, .int l2), (3, .int v16), (4, .int v17)] (mx_sub_pos [2, 3, 4, 1, 0] rfl (show ([4, 3, 0, 1, 2] : List Nat).Nodup by decide)) ?_
      exact hk_35 l0 l1 l2 v16 v17 u15 _ hf
set_option maxHeartbeats 4000000 in
set_option maxRecDepth 20000 in
theorem w_X13_scanFields_35_ok (X : Nat × (Nat → Int32)) {F L : Nat} (hF : 8 ≤ F) (hL : 184 ≤ L) (nn : Nat) : ∀ (k : Nat) (l0 : Nat) (l1 : Int32) (l2 : Int32) (l3 : Int32) (l4 : Int32) (h : mx_H) (r : (Int32 × mx_H)), w_X13_scanFields_35 nn k l0 l1 l2 l3 l4 h = some r → mx_S X F L 505 35 [(0, .ref l0), (1, .int l1), (2, .int l2), (3, .int l3), (4, .int l4)] [] h 0 0 (some (.int r.1), r.2, 0, 0) := by
  have hm : mx_mt 505 = some (yX13_scanFields, cX13_scanFields, 5, (some .int)) := mt_X13_scanFields
  intro k
  induction k with
  | zero => intro l0 l1 l2 l3 l4 h r hf; cases hf
  | succ k ih =>
    intro l0 l1 l2 l3 l4 h r hf
    unfold w_X13_scanFields_35 at hf
    refine mx_S.pu (pc2 := 37) (lv2 := [(0, .ref l0), (1, .int l1), (2, .int l2), (3, .int l3), (4, .int l4)]) (st2 := [.int l4]) hm dX13_scanFields_35 rfl ?_
    refine mx_S.pu (pc2 := 38) (lv2 := [(0, .ref l0), (1, .int l1), (2, .int l2), (3, .int l3), (4, .int l4)]) (st2 := [.ref l0, .int l4]) hm dX13_scanFields_37 rfl ?_
    replace hf := mx_sv_el hf; obtain ⟨v20, e_v20, hf⟩ := hf
    refine sx_get hm dX13_scanFields_38 rs_RX13_245 (xgr_el e_v20) ?_
    clear e_v20
    refine mx_S.pu (pc2 := 42) (lv2 := [(0, .ref l0), (1, .int l1), (2, .int l2), (3, .int l3), (4, .int l4)]) (st2 := [.int l2, .ref v20, .int l4]) hm dX13_scanFields_41 rfl ?_
    replace hf := mx_sv_el hf; obtain ⟨v21, e_v21, hf⟩ := hf
    refine sx_ald hm dX13_scanFields_42 e_v21 ?_
    clear e_v21
    rcases mx_if_el hf with ⟨c38, hf⟩ | ⟨c38, hf⟩
    · refine sb_ic_ge hm dX13_scanFields_43 (tgt := 136) rfl (fun _ => ?_) (fun z => absurd c38 z)
      refine mx_S.pu (pc2 := 137) (lv2 := [(0, .ref l0), (1, .int l1), (2, .int l2), (3, .int l3), (4, .int l4)]) (st2 := [.int l3]) hm dX13_scanFields_136 rfl ?_
      cases hf
      exact sx_ire hm dX13_scanFields_137 rfl rfl
    · refine sb_ic_ge hm dX13_scanFields_43 (tgt := 136) rfl (fun z => absurd z c38) (fun _ => ?_)
      refine mx_S.pu (pc2 := 47) (lv2 := [(0, .ref l0), (1, .int l1), (2, .int l2), (3, .int l3), (4, .int l4)]) (st2 := [.ref l0]) hm dX13_scanFields_46 rfl ?_
      replace hf := mx_sv_el hf; obtain ⟨v22, e_v22, hf⟩ := hf
      refine sx_get hm dX13_scanFields_47 rs_RX13_764 (xgi_el e_v22) ?_
      clear e_v22
      refine sx_ic (v := (-1)) hm dX13_scanFields_50 (by decide) ?_
      rcases mx_if_el hf with ⟨c37, hf⟩ | ⟨c37, hf⟩
      · refine sb_ic_ne hm dX13_scanFields_51 (tgt := 136) rfl (fun _ => ?_) (fun z => absurd c37 z)
        refine mx_S.pu (pc2 := 137) (lv2 := [(0, .ref l0), (1, .int l1), (2, .int l2), (3, .int l3), (4, .int l4)]) (st2 := [.int l3]) hm dX13_scanFields_136 rfl ?_
        cases hf
        exact sx_ire hm dX13_scanFields_137 rfl rfl
      · refine sb_ic_ne hm dX13_scanFields_51 (tgt := 136) rfl (fun z => absurd z c37) (fun _ => ?_)
        refine mx_S.pu (pc2 := 55) (lv2 := [(0, .ref l0), (1, .int l1), (2, .int l2), (3, .int l3), (4, .int l4)]) (st2 := [.ref l0]) hm dX13_scanFields_54 rfl ?_
        replace hf := mx_sv_el hf; obtain ⟨v23, e_v23, hf⟩ := hf
        refine sx_get hm dX13_scanFields_55 rs_RX13_230 (xgr_el e_v23) ?_
        clear e_v23
        refine sx_bi (v := 12) hm dX13_scanFields_58 (by decide) ?_
        refine mx_S.pu (pc2 := 61) (lv2 := [(0, .ref l0), (1, .int l1), (2, .int l2), (3, .int l3), (4, .int l4)]) (st2 := [.int l1, .int 12, .ref v23]) hm dX13_scanFields_60 rfl ?_
        replace hf := xl_el hf; obtain ⟨v24, e_v24, hf⟩ := hf
        refine mx_S.pu (pc2 := 62) (lv2 := [(0, .ref l0), (1, .int l1), (2, .int l2), (3, .int l3), (4, .int l4)]) (st2 := [.int v24, .ref v23]) hm dX13_scanFields_61 (by rw [← e_v24]; rfl) ?_
        clear e_v24
        refine mx_S.pu (pc2 := 64) (lv2 := [(0, .ref l0), (1, .int l1), (2, .int l2), (3, .int l3), (4, .int l4)]) (st2 := [.int l4, .int v24, .ref v23]) hm dX13_scanFields_62 rfl ?_
        replace hf := xl_el hf; obtain ⟨v25, e_v25, hf⟩ := hf
        refine mx_S.pu (pc2 := 65) (lv2 := [(0, .ref l0), (1, .int l1), (2, .int l2), (3, .int l3), (4, .int l4)]) (st2 := [.int v25, .ref v23]) hm dX13_scanFields_64 (by rw [← e_v25]; rfl) ?_
        clear e_v25
        refine mx_S.pu (pc2 := 66) (lv2 := [(0, .ref l0), (1, .int l1), (2, .int l2), (3, .int l3), (4, .int l4)]) (st2 := [.int l3, .int v25, .ref v23]) hm dX13_scanFields_65 rfl ?_
        replace hf := mx_sv_el hf; obtain ⟨h26, e_h26, hf⟩ := hf
        refine sx_ast hm dX13_scanFields_66 e_h26 ?_
        clear e_h26
        refine mx_S.pu (pc2 := 68) (lv2 := [(0, .ref l0), (1, .int l1), (2, .int l2), (3, .int l3), (4, .int l4)]) (st2 := [.ref l0]) hm dX13_scanFields_67 rfl ?_
        refine mx_S.pu (pc2 := 69) (lv2 := [(0, .ref l0), (1, .int l1), (2, .int l2), (3, .int l3), (4, .int l4)]) (st2 := [.int l3, .ref l0]) hm dX13_scanFields_68 rfl ?_
        replace hf := mx_gd_el hf; obtain ⟨c27, hf⟩ := hf
        replace hf := mx_sv_el hf; obtain ⟨u28, e_u28, hf⟩ := hf
        refine sx_cv hm dX13_scanFields_69 rs_RX13_800 mt_X13_isByte [.int l3] [] (b := l0) (ci := 13) rfl rfl rfl c27 (Nat.le_of_ble_eq_true rfl) (Nat.le_of_ble_eq_true rfl) (by omega) (by omega) (f_X13_isByte_ok X (by omega) (by omega) nn l0 l3 h26 e_u28) ?_
        clear e_u28
        show mx_S X F L 505 72 [(0, .ref l0), (1, .int l1), (2, .int l2), (3, .int l3), (4, .int l4)] [.int u28.1] u28.2 0 0 (some (.int r.1), r.2, 0, 0)
        rcases mx_if_el hf with ⟨c36, hf⟩ | ⟨c36, hf⟩
        · refine sb_if_eq hm dX13_scanFields_72 (tgt := 94) rfl (fun _ => ?_) (fun z => absurd c36 z)
          exact j_X13_scanFields_94_ok X hF hL nn ih l0 l1 l2 l3 l4 u28.2 hf
        · refine sb_if_eq hm dX13_scanFields_72 (tgt := 94) rfl (fun z => absurd z c36) (fun _ => ?_)
          refine mx_S.pu (pc2 := 76) (lv2 := [(0, .ref l0), (1, .int l1), (2, .int l2), (3, .int l3), (4, .int l4)]) (st2 := [.ref l0]) hm dX13_scanFields_75 rfl ?_
          refine mx_S.pu (pc2 := 77) (lv2 := [(0, .ref l0), (1, .int l1), (2, .int l2), (3, .int l3), (4, .int l4)]) (st2 := [.ref l0, .ref l0]) hm dX13_scanFields_76 rfl ?_
          replace hf := mx_sv_el hf; obtain ⟨v29, e_v29, hf⟩ := hf
          refine sx_get hm dX13_scanFields_77 rs_RX13_245 (xgr_el e_v29) ?_
          clear e_v29
          refine mx_S.pu (pc2 := 81) (lv2 := [(0, .ref l0), (1, .int l1), (2, .int l2), (3, .int l3), (4, .int l4)]) (st2 := [.int l3, .ref v29, .ref l0]) hm dX13_scanFields_80 rfl ?_
          replace hf := mx_sv_el hf; obtain ⟨v30, e_v30, hf⟩ := hf
          refine sx_ald hm dX13_scanFields_81 e_v30 ?_
          clear e_v30
          refine sx_ic (v := 0) hm dX13_scanFields_82 (by decide) ?_
          replace hf := mx_gd_el hf; obtain ⟨c31, hf⟩ := hf
          replace hf := mx_sv_el hf; obtain ⟨u32, e_u32, hf⟩ := hf
          refine sx_cv hm dX13_scanFields_83 rs_RX13_821 mt_X13_isText [.int v30, .int 0] [] (b := l0) (ci := 13) rfl rfl rfl c31 (Nat.le_of_ble_eq_true rfl) (Nat.le_of_ble_eq_true rfl) (by omega) (by omega) (f_X13_isText_ok X (by omega) (by omega) nn l0 v30 0 u28.2 e_u32) ?_
          clear e_u32
          show mx_S X F L 505 86 [(0, .ref l0), (1, .int l1), (2, .int l2), (3, .int l3), (4, .int l4)] [.int u32.1] u32.2 0 0 (some (.int r.1), r.2, 0, 0)
          rcases mx_if_el hf with ⟨c35, hf⟩ | ⟨c35, hf⟩
          · refine sb_if_ne hm dX13_scanFields_86 (tgt := 94) rfl (fun _ => ?_) (fun z => absurd c35 z)
            exact j_X13_scanFields_94_ok X hF hL nn ih l0 l1 l2 l3 l4 u32.2 hf
          · refine sb_if_ne hm dX13_scanFields_86 (tgt := 94) rfl (fun z => absurd z c35) (fun _ => ?_)
            refine mx_S.pu (pc2 := 90) (lv2 := [(0, .ref l0), (1, .int l1), (2, .int l2), (3, .int l3), (4, .int l4)]) (st2 := [.ref l0]) hm dX13_scanFields_89 rfl ?_
            refine mx_S.pu (pc2 := 91) (lv2 := [(0, .ref l0), (1, .int l1), (2, .int l2), (3, .int l3), (4, .int l4)]) (st2 := [.int l3, .ref l0]) hm dX13_scanFields_90 rfl ?_
            replace hf := mx_gd_el hf; obtain ⟨c33, hf⟩ := hf
            replace hf := mx_sv_el hf; obtain ⟨u34, e_u34, hf⟩ := hf
            refine sx_cv hm dX13_scanFields_91 rs_RX13_803 mt_X13_unfit [.int l3] [] (b := l0) (ci := 13) rfl rfl rfl c33 (Nat.le_of_ble_eq_true rfl) (Nat.le_of_ble_eq_true rfl) (by omega) (by omega) (f_X13_unfit_ok X (by omega) (by omega) nn l0 l3 u32.2 e_u34) ?_
            clear e_u34
            show mx_S X F L 505 94 [(0, .ref l0), (1, .int l1), (2, .int l2), (3, .int l3), (4, .int l4)] [] u34 0 0 (some (.int r.1), r.2, 0, 0)
            exact j_X13_scanFields_94_ok X hF hL nn ih l0 l1 l2 l3 l4 u34 hf
set_option maxHeartbeats 4000000 in
set_option maxRecDepth 20000 in
theorem j_X13_scanFields_16_ok (X : Nat × (Nat → Int32)) {F L : Nat} (hF : 8 ≤ F) (hL : 184 ≤ L) (nn : Nat) (l0 : Nat) (l1 : Int32) (l2 : Int32) (h : mx_H) {r : (Int32 × mx_H)} (hf : j_X13_scanFields_16 nn l0 l1 l2 h = some r) : mx_S X F L 505 16 [(0, .ref l0), (1, .int l1), (2, .int l2)] [] h 0 0 (some (.int r.1), r.2, 0, 0) := by
  have hm : mx_mt 505 = some (yX13_scanFields, cX13_scanFields, 5, (some .int)) := mt_X13_scanFields
  unfold j_X13_scanFields_16 at hf
  refine mx_S.pu (pc2 := 17) (lv2 := [(0, .ref l0), (1, .int l1), (2, .int l2)]) (st2 := [.ref l0]) hm dX13_scanFields_16 rfl ?_
  replace hf := mx_sv_el hf; obtain ⟨v39, e_v39, hf⟩ := hf
  refine sx_get hm dX13_scanFields_17 rs_RX13_227 (xgr_el e_v39) ?_
  clear e_v39
  refine mx_S.pu (pc2 := 21) (lv2 := [(0, .ref l0), (1, .int l1), (2, .int l2)]) (st2 := [.int l1, .ref v39]) hm dX13_scanFields_20 rfl ?_
  refine mx_S.pu (pc2 := 22) (lv2 := [(0, .ref l0), (1, .int l1), (2, .int l2)]) (st2 := [.ref l0, .int l1, .ref v39]) hm dX13_scanFields_21 rfl ?_
  replace hf := mx_sv_el hf; obtain ⟨v40, e_v40, hf⟩ := hf
  refine sx_get hm dX13_scanFields_22 rs_RX13_245 (xgr_el e_v40) ?_
  clear e_v40
  refine mx_S.pu (pc2 := 26) (lv2 := [(0, .ref l0), (1, .int l1), (2, .int l2)]) (st2 := [.int l2, .ref v40, .int l1, .ref v39]) hm dX13_scanFields_25 rfl ?_
  replace hf := mx_sv_el hf; obtain ⟨v41, e_v41, hf⟩ := hf
  refine sx_ald hm dX13_scanFields_26 e_v41 ?_
  clear e_v41
  replace hf := mx_sv_el hf; obtain ⟨h42, e_h42, hf⟩ := hf
  refine sx_ast hm dX13_scanFields_27 e_h42 ?_
  clear e_h42
  refine mx_S.pu (pc2 := 29) (lv2 := [(0, .ref l0), (1, .int l1), (2, .int l2)]) (st2 := [.int l2]) hm dX13_scanFields_28 rfl ?_
  refine sx_ic (v := 1) hm dX13_scanFields_29 (by decide) ?_
  replace hf := xl_el hf; obtain ⟨v43, e_v43, hf⟩ := hf
  refine mx_S.pu (pc2 := 31) (lv2 := [(0, .ref l0), (1, .int l1), (2, .int l2)]) (st2 := [.int v43]) hm dX13_scanFields_30 (by rw [← e_v43]; rfl) ?_
  clear e_v43
  refine mx_S.pu (pc2 := 32) (lv2 := [(3, .int v43), (0, .ref l0), (1, .int l1), (2, .int l2)]) (st2 := []) hm dX13_scanFields_31 rfl ?_
  refine sx_ic (v := 0) hm dX13_scanFields_32 (by decide) ?_
  refine mx_S.pu (pc2 := 35) (lv2 := [(4, .int 0), (3, .int v43), (0, .ref l0), (1, .int l1), (2, .int l2)]) (st2 := []) hm dX13_scanFields_33 rfl ?_
  refine mx_S.ext [(0, .ref l0), (1, .int l1), (2, .int l2), (3, .int v43), (4, .int 0)] (mx_sub_pos [2, 3, 4, 1, 0] rfl (show ([4, 3, 0, 1, 2] : List Nat).Nodup by decide)) ?_
  exact w_X13_scanFields_35_ok X hF hL nn nn l0 l1 l2 v43 0 h42 _ hf
set_option maxHeartbeats 4000000 in
set_option maxRecDepth 20000 in
theorem f_X13_scanFields_ok (X : Nat × (Nat → Int32)) {F L : Nat} (hF : 8 ≤ F) (hL : 184 ≤ L) (nn : Nat) (a0 : Nat) (a1 : Int32) (a2 : Int32) (h : mx_H) {r : (Int32 × mx_H)} (hf : f_X13_scanFields nn a0 a1 a2 h = some r) : mx_R X F L 505 [.ref a0, .int a1, .int a2] h (some (.int r.1), r.2, 0, 0) := by
  have hm : mx_mt 505 = some (yX13_scanFields, cX13_scanFields, 5, (some .int)) := mt_X13_scanFields
  show mx_S X F L 505 0 [(0, .ref a0), (1, .int a1), (2, .int a2)] [] h 0 0 (some (.int r.1), r.2, 0, 0)
  unfold f_X13_scanFields at hf
  refine mx_S.pu (pc2 := 1) (lv2 := [(0, .ref a0), (1, .int a1), (2, .int a2)]) (st2 := [.ref a0]) hm dX13_scanFields_0 rfl ?_
  replace hf := mx_sv_el hf; obtain ⟨v44, e_v44, hf⟩ := hf
  refine sx_get hm dX13_scanFields_1 rs_RX13_245 (xgr_el e_v44) ?_
  clear e_v44
  refine mx_S.pu (pc2 := 5) (lv2 := [(0, .ref a0), (1, .int a1), (2, .int a2)]) (st2 := [.int a2, .ref v44]) hm dX13_scanFields_4 rfl ?_
  replace hf := mx_sv_el hf; obtain ⟨v45, e_v45, hf⟩ := hf
  refine sx_ald hm dX13_scanFields_5 e_v45 ?_
  clear e_v45
  refine sx_bi (v := 12) hm dX13_scanFields_6 (by decide) ?_
  rcases mx_if_el hf with ⟨c48, hf⟩ | ⟨c48, hf⟩
  · refine sb_ic_le hm dX13_scanFields_8 (tgt := 16) rfl (fun _ => ?_) (fun z => absurd c48 z)
    exact j_X13_scanFields_16_ok X hF hL nn a0 a1 a2 h hf
  · refine sb_ic_le hm dX13_scanFields_8 (tgt := 16) rfl (fun z => absurd z c48) (fun _ => ?_)
    refine mx_S.pu (pc2 := 12) (lv2 := [(0, .ref a0), (1, .int a1), (2, .int a2)]) (st2 := [.ref a0]) hm dX13_scanFields_11 rfl ?_
    refine mx_S.pu (pc2 := 13) (lv2 := [(0, .ref a0), (1, .int a1), (2, .int a2)]) (st2 := [.int a2, .ref a0]) hm dX13_scanFields_12 rfl ?_
    replace hf := mx_gd_el hf; obtain ⟨c46, hf⟩ := hf
    replace hf := mx_sv_el hf; obtain ⟨u47, e_u47, hf⟩ := hf
    refine sx_cv hm dX13_scanFields_13 rs_RX13_803 mt_X13_unfit [.int a2] [] (b := a0) (ci := 13) rfl rfl rfl c46 (Nat.le_of_ble_eq_true rfl) (Nat.le_of_ble_eq_true rfl) (by omega) (by omega) (f_X13_unfit_ok X (by omega) (by omega) nn a0 a2 h e_u47) ?_
    clear e_u47
    show mx_S X F L 505 16 [(0, .ref a0), (1, .int a1), (2, .int a2)] [] u47 0 0 (some (.int r.1), r.2, 0, 0)
    exact j_X13_scanFields_16_ok X hF hL nn a0 a1 a2 u47 hf
set_option maxHeartbeats 4000000 in
set_option maxRecDepth 20000 in
theorem f_X13_pairAt_ok (X : Nat × (Nat → Int32)) {F L : Nat} (hF : 0 ≤ F) (hL : 0 ≤ L) (nn : Nat) (a0 : Nat) (a1 : Int32) (h : mx_H) {r : (Int32 × mx_H)} (hf : f_X13_pairAt nn a0 a1 h = some r) : mx_R X F L 501 [.ref a0, .int a1] h (some (.int r.1), r.2, 0, 0) := by
  have hm : mx_mt 501 = some (yX13_pairAt, cX13_pairAt, 2, (some .int)) := mt_X13_pairAt
  show mx_S X F L 501 0 [(0, .ref a0), (1, .int a1)] [] h 0 0 (some (.int r.1), r.2, 0, 0)
  unfold f_X13_pairAt at hf
  refine mx_S.pu (pc2 := 1) (lv2 := [(0, .ref a0), (1, .int a1)]) (st2 := [.ref a0]) hm dX13_pairAt_0 rfl ?_
  replace hf := mx_sv_el hf; obtain ⟨v1, e_v1, hf⟩ := hf
  refine sx_get hm dX13_pairAt_1 rs_RX13_245 (xgr_el e_v1) ?_
  clear e_v1
  refine mx_S.pu (pc2 := 5) (lv2 := [(0, .ref a0), (1, .int a1)]) (st2 := [.int a1, .ref v1]) hm dX13_pairAt_4 rfl ?_
  replace hf := mx_sv_el hf; obtain ⟨v2, e_v2, hf⟩ := hf
  refine sx_ald hm dX13_pairAt_5 e_v2 ?_
  clear e_v2
  refine sx_bi (v := 8) hm dX13_pairAt_6 (by decide) ?_
  replace hf := xl_el hf; obtain ⟨v3, e_v3, hf⟩ := hf
  refine mx_S.pu (pc2 := 9) (lv2 := [(0, .ref a0), (1, .int a1)]) (st2 := [.int v3]) hm dX13_pairAt_8 (by rw [← e_v3]; rfl) ?_
  clear e_v3
  refine mx_S.pu (pc2 := 10) (lv2 := [(0, .ref a0), (1, .int a1)]) (st2 := [.ref a0, .int v3]) hm dX13_pairAt_9 rfl ?_
  replace hf := mx_sv_el hf; obtain ⟨v4, e_v4, hf⟩ := hf
  refine sx_get hm dX13_pairAt_10 rs_RX13_245 (xgr_el e_v4) ?_
  clear e_v4
  refine mx_S.pu (pc2 := 14) (lv2 := [(0, .ref a0), (1, .int a1)]) (st2 := [.int a1, .ref v4, .int v3]) hm dX13_pairAt_13 rfl ?_
  refine sx_ic (v := 1) hm dX13_pairAt_14 (by decide) ?_
  replace hf := xl_el hf; obtain ⟨v5, e_v5, hf⟩ := hf
  refine mx_S.pu (pc2 := 16) (lv2 := [(0, .ref a0), (1, .int a1)]) (st2 := [.int v5, .ref v4, .int v3]) hm dX13_pairAt_15 (by rw [← e_v5]; rfl) ?_
  clear e_v5
  replace hf := mx_sv_el hf; obtain ⟨v6, e_v6, hf⟩ := hf
  refine sx_ald hm dX13_pairAt_16 e_v6 ?_
  clear e_v6
  replace hf := xl_el hf; obtain ⟨v7, e_v7, hf⟩ := hf
  refine mx_S.pu (pc2 := 18) (lv2 := [(0, .ref a0), (1, .int a1)]) (st2 := [.int v7]) hm dX13_pairAt_17 (by rw [← e_v7]; rfl) ?_
  clear e_v7
  cases hf
  exact sx_ire hm dX13_pairAt_18 rfl rfl
set_option maxHeartbeats 4000000 in
set_option maxRecDepth 20000 in
theorem j_X13_scanTypes_55_ok (X : Nat × (Nat → Int32)) {F L : Nat} (hF : 2 ≤ F) (hL : 46 ≤ L) (nn : Nat) {kk_24 : Nat → Int32 → Int32 → Int32 → mx_H → Option (Int32 × mx_H)} (hk_24 : ∀ (l0 : Nat) (l2 : Int32) (l3 : Int32) (l4 : Int32) (h : mx_H) (r : (Int32 × mx_H)), kk_24 l0 l2 l3 l4 h = some r → mx_S X F L 507 24 [(0, .ref l0), (2, .int l2), (3, .int l3), (4, .int l4)] [] h 0 0 (some (.int r.1), r.2, 0, 0)) (l0 : Nat) (l2 : Int32) (l3 : Int32) (l4 : Int32) (h : mx_H) {r : (Int32 × mx_H)} (hf : j_X13_scanTypes_55 nn kk_24 l0 l2 l3 l4 h = some r) : mx_S X F L 507 55 [(0, .ref l0), (2, .int l2), (3, .int l3), (4, .int l4)] [] h 0 0 (some (.int r.1), r.2, 0, 0) := by
  have hm : mx_mt 507 = some (yX13_scanTypes, cX13_scanTypes, 5, (some .int)) := mt_X13_scanTypes
  unfold j_X13_scanTypes_55 at hf
  refine mx_S.pu (pc2 := 56) (lv2 := [(0, .ref l0), (2, .int l2), (3, .int l3), (4, .int l4)]) (st2 := [.ref l0]) hm dX13_scanTypes_55 rfl ?_
  replace hf := mx_sv_el hf; obtain ⟨v1, e_v1, hf⟩ := hf
  refine sx_get hm dX13_scanTypes_56 rs_RX13_245 (xgr_el e_v1) ?_
  clear e_v1
  refine mx_S.pu (pc2 := 60) (lv2 := [(0, .ref l0), (2, .int l2), (3, .int l3), (4, .int l4)]) (st2 := [.int l3, .ref v1]) hm dX13_scanTypes_59 rfl ?_
  replace hf := mx_sv_el hf; obtain ⟨v2, e_v2, hf⟩ := hf
  refine sx_ald hm dX13_scanTypes_60 e_v2 ?_
  clear e_v2
  refine sx_ic (v := 3) hm dX13_scanTypes_61 (by decide) ?_
  rcases mx_if_el hf with ⟨c22, hf⟩ | ⟨c22, hf⟩
  · refine sb_ic_ne hm dX13_scanTypes_62 (tgt := 95) rfl (fun _ => ?_) (fun z => absurd c22 z)
    replace hf := xl_el hf; obtain ⟨v3, e_v3, hf⟩ := hf
    refine mx_S.pu (pc2 := 98) (lv2 := [(3, .int v3), (0, .ref l0), (2, .int l2), (4, .int l4)]) (st2 := []) hm dX13_scanTypes_95 (by rw [← e_v3]; rfl) ?_
    clear e_v3
    replace hf := xl_el hf; obtain ⟨v4, e_v4, hf⟩ := hf
    refine mx_S.pu (pc2 := 101) (lv2 := [(4, .int v4), (3, .int v3), (0, .ref l0), (2, .int l2)]) (st2 := []) hm dX13_scanTypes_98 (by rw [← e_v4]; rfl) ?_
    clear e_v4
    refine mx_S.pu (pc2 := 24) (lv2 := [(4, .int v4), (3, .int v3), (0, .ref l0), (2, .int l2)]) (st2 := []) hm dX13_scanTypes_101 rfl ?_
    refine mx_S.ext [(0, .ref l0), (2, .int l2), (3, .int v3), (4, .int v4)] (mx_sub_pos [2, 3, 1, 0] rfl (show ([4, 3, 0, 2] : List Nat).Nodup by decide)) ?_
    exact hk_24 l0 l2 v3 v4 h _ hf
  · refine sb_ic_ne hm dX13_scanTypes_62 (tgt := 95) rfl (fun z => absurd z c22) (fun _ => ?_)
    replace hf := xl_el hf; obtain ⟨v5, e_v5, hf⟩ := hf
    refine mx_S.pu (pc2 := 68) (lv2 := [(3, .int v5), (0, .ref l0), (2, .int l2), (4, .int l4)]) (st2 := []) hm dX13_scanTypes_65 (by rw [← e_v5]; rfl) ?_
    clear e_v5
    refine mx_S.pu (pc2 := 69) (lv2 := [(3, .int v5), (0, .ref l0), (2, .int l2), (4, .int l4)]) (st2 := [.ref l0]) hm dX13_scanTypes_68 rfl ?_
    refine mx_S.pu (pc2 := 70) (lv2 := [(3, .int v5), (0, .ref l0), (2, .int l2), (4, .int l4)]) (st2 := [.int v5, .ref l0]) hm dX13_scanTypes_69 rfl ?_
    replace hf := mx_gd_el hf; obtain ⟨c6, hf⟩ := hf
    replace hf := mx_sv_el hf; obtain ⟨u7, e_u7, hf⟩ := hf
    refine sx_cv hm dX13_scanTypes_70 rs_RX13_800 mt_X13_isByte [.int v5] [] (b := l0) (ci := 13) rfl rfl rfl c6 (Nat.le_of_ble_eq_true rfl) (Nat.le_of_ble_eq_true rfl) (by omega) (by omega) (f_X13_isByte_ok X (by omega) (by omega) nn l0 v5 h e_u7) ?_
    clear e_u7
    show mx_S X F L 507 73 [(3, .int v5), (0, .ref l0), (2, .int l2), (4, .int l4)] [.int u7.1] u7.2 0 0 (some (.int r.1), r.2, 0, 0)
    rcases mx_if_el hf with ⟨c21, hf⟩ | ⟨c21, hf⟩
    · refine sb_if_eq hm dX13_scanTypes_73 (tgt := 95) rfl (fun _ => ?_) (fun z => absurd c21 z)
      replace hf := xl_el hf; obtain ⟨v8, e_v8, hf⟩ := hf
      refine mx_S.pu (pc2 := 98) (lv2 := [(3, .int v8), (0, .ref l0), (2, .int l2), (4, .int l4)]) (st2 := []) hm dX13_scanTypes_95 (by rw [← e_v8]; rfl) ?_
      clear e_v8
      replace hf := xl_el hf; obtain ⟨v9, e_v9, hf⟩ := hf
      refine mx_S.pu (pc2 := 101) (lv2 := [(4, .int v9), (3, .int v8), (0, .ref l0), (2, .int l2)]) (st2 := []) hm dX13_scanTypes_98 (by rw [← e_v9]; rfl) ?_
      clear e_v9
      refine mx_S.pu (pc2 := 24) (lv2 := [(4, .int v9), (3, .int v8), (0, .ref l0), (2, .int l2)]) (st2 := []) hm dX13_scanTypes_101 rfl ?_
      refine mx_S.ext [(0, .ref l0), (2, .int l2), (3, .int v8), (4, .int v9)] (mx_sub_pos [2, 3, 1, 0] rfl (show ([4, 3, 0, 2] : List Nat).Nodup by decide)) ?_
      exact hk_24 l0 l2 v8 v9 u7.2 _ hf
    · refine sb_if_eq hm dX13_scanTypes_73 (tgt := 95) rfl (fun z => absurd z c21) (fun _ => ?_)
      refine mx_S.pu (pc2 := 77) (lv2 := [(3, .int v5), (0, .ref l0), (2, .int l2), (4, .int l4)]) (st2 := [.ref l0]) hm dX13_scanTypes_76 rfl ?_
      refine mx_S.pu (pc2 := 78) (lv2 := [(3, .int v5), (0, .ref l0), (2, .int l2), (4, .int l4)]) (st2 := [.ref l0, .ref l0]) hm dX13_scanTypes_77 rfl ?_
      replace hf := mx_sv_el hf; obtain ⟨v10, e_v10, hf⟩ := hf
      refine sx_get hm dX13_scanTypes_78 rs_RX13_245 (xgr_el e_v10) ?_
      clear e_v10
      refine mx_S.pu (pc2 := 82) (lv2 := [(3, .int v5), (0, .ref l0), (2, .int l2), (4, .int l4)]) (st2 := [.int v5, .ref v10, .ref l0]) hm dX13_scanTypes_81 rfl ?_
      replace hf := mx_sv_el hf; obtain ⟨v11, e_v11, hf⟩ := hf
      refine sx_ald hm dX13_scanTypes_82 e_v11 ?_
      clear e_v11
      refine sx_ic (v := 1) hm dX13_scanTypes_83 (by decide) ?_
      replace hf := mx_gd_el hf; obtain ⟨c12, hf⟩ := hf
      replace hf := mx_sv_el hf; obtain ⟨u13, e_u13, hf⟩ := hf
      refine sx_cv hm dX13_scanTypes_84 rs_RX13_812 mt_X13_isClassConstant [.int v11, .int 1] [] (b := l0) (ci := 13) rfl rfl rfl c12 (Nat.le_of_ble_eq_true rfl) (Nat.le_of_ble_eq_true rfl) (by omega) (by omega) (f_X13_isClassConstant_ok X (by omega) (by omega) nn l0 v11 1 u7.2 e_u13) ?_
      clear e_u13
      show mx_S X F L 507 87 [(3, .int v5), (0, .ref l0), (2, .int l2), (4, .int l4)] [.int u13.1] u13.2 0 0 (some (.int r.1), r.2, 0, 0)
      rcases mx_if_el hf with ⟨c20, hf⟩ | ⟨c20, hf⟩
      · refine sb_if_ne hm dX13_scanTypes_87 (tgt := 95) rfl (fun _ => ?_) (fun z => absurd c20 z)
        replace hf := xl_el hf; obtain ⟨v14, e_v14, hf⟩ := hf
        refine mx_S.pu (pc2 := 98) (lv2 := [(3, .int v14), (0, .ref l0), (2, .int l2), (4, .int l4)]) (st2 := []) hm dX13_scanTypes_95 (by rw [← e_v14]; rfl) ?_
        clear e_v14
        replace hf := xl_el hf; obtain ⟨v15, e_v15, hf⟩ := hf
        refine mx_S.pu (pc2 := 101) (lv2 := [(4, .int v15), (3, .int v14), (0, .ref l0), (2, .int l2)]) (st2 := []) hm dX13_scanTypes_98 (by rw [← e_v15]; rfl) ?_
        clear e_v15
        refine mx_S.pu (pc2 := 24) (lv2 := [(4, .int v15), (3, .int v14), (0, .ref l0), (2, .int l2)]) (st2 := []) hm dX13_scanTypes_101 rfl ?_
        refine mx_S.ext [(0, .ref l0), (2, .int l2), (3, .int v14), (4, .int v15)] (mx_sub_pos [2, 3, 1, 0] rfl (show ([4, 3, 0, 2] : List Nat).Nodup by decide)) ?_
        exact hk_24 l0 l2 v14 v15 u13.2 _ hf
      · refine sb_if_ne hm dX13_scanTypes_87 (tgt := 95) rfl (fun z => absurd z c20) (fun _ => ?_)
        refine mx_S.pu (pc2 := 91) (lv2 := [(3, .int v5), (0, .ref l0), (2, .int l2), (4, .int l4)]) (st2 := [.ref l0]) hm dX13_scanTypes_90 rfl ?_
        refine mx_S.pu (pc2 := 92) (lv2 := [(3, .int v5), (0, .ref l0), (2, .int l2), (4, .int l4)]) (st2 := [.int v5, .ref l0]) hm dX13_scanTypes_91 rfl ?_
        replace hf := mx_gd_el hf; obtain ⟨c16, hf⟩ := hf
        replace hf := mx_sv_el hf; obtain ⟨u17, e_u17, hf⟩ := hf
        refine sx_cv hm dX13_scanTypes_92 rs_RX13_803 mt_X13_unfit [.int v5] [] (b := l0) (ci := 13) rfl rfl rfl c16 (Nat.le_of_ble_eq_true rfl) (Nat.le_of_ble_eq_true rfl) (by omega) (by omega) (f_X13_unfit_ok X (by omega) (by omega) nn l0 v5 u13.2 e_u17) ?_
        clear e_u17
        show mx_S X F L 507 95 [(3, .int v5), (0, .ref l0), (2, .int l2), (4, .int l4)] [] u17 0 0 (some (.int r.1), r.2, 0, 0)
        replace hf := xl_el hf; obtain ⟨v18, e_v18, hf⟩ := hf
        refine mx_S.pu (pc2 := 98) (lv2 := [(3, .int v18), (0, .ref l0), (2, .int l2), (4, .int l4)]) (st2 := []) hm dX13_scanTypes_95 (by rw [← e_v18]; rfl) ?_
        clear e_v18
        replace hf := xl_el hf; obtain ⟨v19, e_v19, hf⟩ := hf
        refine mx_S.pu (pc2 := 101) (lv2 := [(4, .int v19), (3, .int v18), (0, .ref l0), (2, .int l2)]) (st2 := []) hm dX13_scanTypes_98 (by rw [← e_v19]; rfl) ?_
        clear e_v19
        refine mx_S.pu (pc2 := 24) (lv2 := [(4, .int v19), (3, .int v18), (0, .ref l0), (2, .int l2)]) (st2 := []) hm dX13_scanTypes_101 rfl ?_
        refine mx_S.ext [(0, .ref l0), (2, .int l2), (3, .int v18), (4, .int v19)] (mx_sub_pos [2, 3, 1, 0] rfl (show ([4, 3, 0, 2] : List Nat).Nodup by decide)) ?_
        exact hk_24 l0 l2 v18 v19 u17 _ hf
set_option maxHeartbeats 4000000 in
set_option maxRecDepth 20000 in
theorem w_X13_scanTypes_24_ok (X : Nat × (Nat → Int32)) {F L : Nat} (hF : 2 ≤ F) (hL : 46 ≤ L) (nn : Nat) : ∀ (k : Nat) (l0 : Nat) (l2 : Int32) (l3 : Int32) (l4 : Int32) (h : mx_H) (r : (Int32 × mx_H)), w_X13_scanTypes_24 nn k l0 l2 l3 l4 h = some r → mx_S X F L 507 24 [(0, .ref l0), (2, .int l2), (3, .int l3), (4, .int l4)] [] h 0 0 (some (.int r.1), r.2, 0, 0) := by
  have hm : mx_mt 507 = some (yX13_scanTypes, cX13_scanTypes, 5, (some .int)) := mt_X13_scanTypes
  intro k
  induction k with
  | zero => intro l0 l2 l3 l4 h r hf; cases hf
  | succ k ih =>
    intro l0 l2 l3 l4 h r hf
    unfold w_X13_scanTypes_24 at hf
    refine mx_S.pu (pc2 := 26) (lv2 := [(0, .ref l0), (2, .int l2), (3, .int l3), (4, .int l4)]) (st2 := [.int l4]) hm dX13_scanTypes_24 rfl ?_
    refine mx_S.pu (pc2 := 27) (lv2 := [(0, .ref l0), (2, .int l2), (3, .int l3), (4, .int l4)]) (st2 := [.int l2, .int l4]) hm dX13_scanTypes_26 rfl ?_
    rcases mx_if_el hf with ⟨c31, hf⟩ | ⟨c31, hf⟩
    · refine sb_ic_ge hm dX13_scanTypes_27 (tgt := 104) rfl (fun _ => ?_) (fun z => absurd c31 z)
      refine mx_S.pu (pc2 := 105) (lv2 := [(0, .ref l0), (2, .int l2), (3, .int l3), (4, .int l4)]) (st2 := [.int l3]) hm dX13_scanTypes_104 rfl ?_
      cases hf
      exact sx_ire hm dX13_scanTypes_105 rfl rfl
    · refine sb_ic_ge hm dX13_scanTypes_27 (tgt := 104) rfl (fun z => absurd z c31) (fun _ => ?_)
      refine mx_S.pu (pc2 := 31) (lv2 := [(0, .ref l0), (2, .int l2), (3, .int l3), (4, .int l4)]) (st2 := [.ref l0]) hm dX13_scanTypes_30 rfl ?_
      refine mx_S.pu (pc2 := 32) (lv2 := [(0, .ref l0), (2, .int l2), (3, .int l3), (4, .int l4)]) (st2 := [.int l3, .ref l0]) hm dX13_scanTypes_31 rfl ?_
      replace hf := mx_gd_el hf; obtain ⟨c23, hf⟩ := hf
      replace hf := mx_sv_el hf; obtain ⟨u24, e_u24, hf⟩ := hf
      refine sx_cv hm dX13_scanTypes_32 rs_RX13_800 mt_X13_isByte [.int l3] [] (b := l0) (ci := 13) rfl rfl rfl c23 (Nat.le_of_ble_eq_true rfl) (Nat.le_of_ble_eq_true rfl) (by omega) (by omega) (f_X13_isByte_ok X (by omega) (by omega) nn l0 l3 h e_u24) ?_
      clear e_u24
      show mx_S X F L 507 35 [(0, .ref l0), (2, .int l2), (3, .int l3), (4, .int l4)] [.int u24.1] u24.2 0 0 (some (.int r.1), r.2, 0, 0)
      rcases mx_if_el hf with ⟨c30, hf⟩ | ⟨c30, hf⟩
      · refine sb_if_ne hm dX13_scanTypes_35 (tgt := 40) rfl (fun _ => ?_) (fun z => absurd c30 z)
        refine mx_S.pu (pc2 := 41) (lv2 := [(0, .ref l0), (2, .int l2), (3, .int l3), (4, .int l4)]) (st2 := [.ref l0]) hm dX13_scanTypes_40 rfl ?_
        replace hf := mx_sv_el hf; obtain ⟨v25, e_v25, hf⟩ := hf
        refine sx_get hm dX13_scanTypes_41 rs_RX13_245 (xgr_el e_v25) ?_
        clear e_v25
        refine mx_S.pu (pc2 := 45) (lv2 := [(0, .ref l0), (2, .int l2), (3, .int l3), (4, .int l4)]) (st2 := [.int l3, .ref v25]) hm dX13_scanTypes_44 rfl ?_
        replace hf := mx_sv_el hf; obtain ⟨v26, e_v26, hf⟩ := hf
        refine sx_ald hm dX13_scanTypes_45 e_v26 ?_
        clear e_v26
        refine sx_ic (v := 3) hm dX13_scanTypes_46 (by decide) ?_
        rcases mx_if_el hf with ⟨c29, hf⟩ | ⟨c29, hf⟩
        · refine sb_ic_le hm dX13_scanTypes_47 (tgt := 55) rfl (fun _ => ?_) (fun z => absurd c29 z)
          exact j_X13_scanTypes_55_ok X hF hL nn ih l0 l2 l3 l4 u24.2 hf
        · refine sb_ic_le hm dX13_scanTypes_47 (tgt := 55) rfl (fun z => absurd z c29) (fun _ => ?_)
          refine mx_S.pu (pc2 := 51) (lv2 := [(0, .ref l0), (2, .int l2), (3, .int l3), (4, .int l4)]) (st2 := [.ref l0]) hm dX13_scanTypes_50 rfl ?_
          refine mx_S.pu (pc2 := 52) (lv2 := [(0, .ref l0), (2, .int l2), (3, .int l3), (4, .int l4)]) (st2 := [.int l3, .ref l0]) hm dX13_scanTypes_51 rfl ?_
          replace hf := mx_gd_el hf; obtain ⟨c27, hf⟩ := hf
          replace hf := mx_sv_el hf; obtain ⟨u28, e_u28, hf⟩ := hf
          refine sx_cv hm dX13_scanTypes_52 rs_RX13_803 mt_X13_unfit [.int l3] [] (b := l0) (ci := 13) rfl rfl rfl c27 (Nat.le_of_ble_eq_true rfl) (Nat.le_of_ble_eq_true rfl) (by omega) (by omega) (f_X13_unfit_ok X (by omega) (by omega) nn l0 l3 u24.2 e_u28) ?_
          clear e_u28
          show mx_S X F L 507 55 [(0, .ref l0), (2, .int l2), (3, .int l3), (4, .int l4)] [] u28 0 0 (some (.int r.1), r.2, 0, 0)
          exact j_X13_scanTypes_55_ok X hF hL nn ih l0 l2 l3 l4 u28 hf
      · refine sb_if_ne hm dX13_scanTypes_35 (tgt := 40) rfl (fun z => absurd z c30) (fun _ => ?_)
        refine mx_S.pu (pc2 := 39) (lv2 := [(0, .ref l0), (2, .int l2), (3, .int l3), (4, .int l4)]) (st2 := [.int l3]) hm dX13_scanTypes_38 rfl ?_
        cases hf
        exact sx_ire hm dX13_scanTypes_39 rfl rfl
set_option maxHeartbeats 4000000 in
set_option maxRecDepth 20000 in
theorem f_X13_scanTypes_ok (X : Nat × (Nat → Int32)) {F L : Nat} (hF : 2 ≤ F) (hL : 46 ≤ L) (nn : Nat) (a0 : Nat) (a1 : Int32) (h : mx_H) {r : (Int32 × mx_H)} (hf : f_X13_scanTypes nn a0 a1 h = some r) : mx_R X F L 507 [.ref a0, .int a1] h (some (.int r.1), r.2, 0, 0) := by
  have hm : mx_mt 507 = some (yX13_scanTypes, cX13_scanTypes, 5, (some .int)) := mt_X13_scanTypes
  show mx_S X F L 507 0 [(0, .ref a0), (1, .int a1)] [] h 0 0 (some (.int r.1), r.2, 0, 0)
  unfold f_X13_scanTypes at hf
  refine mx_S.pu (pc2 := 1) (lv2 := [(0, .ref a0), (1, .int a1)]) (st2 := [.ref a0]) hm dX13_scanTypes_0 rfl ?_
  refine mx_S.pu (pc2 := 2) (lv2 := [(0, .ref a0), (1, .int a1)]) (st2 := [.int a1, .ref a0]) hm dX13_scanTypes_1 rfl ?_
  replace hf := mx_gd_el hf; obtain ⟨c32, hf⟩ := hf
  replace hf := mx_sv_el hf; obtain ⟨u33, e_u33, hf⟩ := hf
  refine sx_cv hm dX13_scanTypes_2 rs_RX13_800 mt_X13_isByte [.int a1] [] (b := a0) (ci := 13) rfl rfl rfl c32 (Nat.le_of_ble_eq_true rfl) (Nat.le_of_ble_eq_true rfl) (by omega) (by omega) (f_X13_isByte_ok X (by omega) (by omega) nn a0 a1 h e_u33) ?_
  clear e_u33
  show mx_S X F L 507 5 [(0, .ref a0), (1, .int a1)] [.int u33.1] u33.2 0 0 (some (.int r.1), r.2, 0, 0)
  rcases mx_if_el hf with ⟨c37, hf⟩ | ⟨c37, hf⟩
  · refine sb_if_ne hm dX13_scanTypes_5 (tgt := 10) rfl (fun _ => ?_) (fun z => absurd c37 z)
    refine mx_S.pu (pc2 := 11) (lv2 := [(0, .ref a0), (1, .int a1)]) (st2 := [.ref a0]) hm dX13_scanTypes_10 rfl ?_
    replace hf := mx_sv_el hf; obtain ⟨v34, e_v34, hf⟩ := hf
    refine sx_get hm dX13_scanTypes_11 rs_RX13_245 (xgr_el e_v34) ?_
    clear e_v34
    refine mx_S.pu (pc2 := 15) (lv2 := [(0, .ref a0), (1, .int a1)]) (st2 := [.int a1, .ref v34]) hm dX13_scanTypes_14 rfl ?_
    replace hf := mx_sv_el hf; obtain ⟨v35, e_v35, hf⟩ := hf
    refine sx_ald hm dX13_scanTypes_15 e_v35 ?_
    clear e_v35
    refine mx_S.pu (pc2 := 17) (lv2 := [(2, .int v35), (0, .ref a0), (1, .int a1)]) (st2 := []) hm dX13_scanTypes_16 rfl ?_
    refine mx_S.pu (pc2 := 18) (lv2 := [(2, .int v35), (0, .ref a0), (1, .int a1)]) (st2 := [.int a1]) hm dX13_scanTypes_17 rfl ?_
    refine sx_ic (v := 1) hm dX13_scanTypes_18 (by decide) ?_
    replace hf := xl_el hf; obtain ⟨v36, e_v36, hf⟩ := hf
    refine mx_S.pu (pc2 := 20) (lv2 := [(2, .int v35), (0, .ref a0), (1, .int a1)]) (st2 := [.int v36]) hm dX13_scanTypes_19 (by rw [← e_v36]; rfl) ?_
    clear e_v36
    refine mx_S.pu (pc2 := 21) (lv2 := [(3, .int v36), (2, .int v35), (0, .ref a0), (1, .int a1)]) (st2 := []) hm dX13_scanTypes_20 rfl ?_
    refine sx_ic (v := 0) hm dX13_scanTypes_21 (by decide) ?_
    refine mx_S.pu (pc2 := 24) (lv2 := [(4, .int 0), (3, .int v36), (2, .int v35), (0, .ref a0), (1, .int a1)]) (st2 := []) hm dX13_scanTypes_22 rfl ?_
    refine mx_S.ext [(0, .ref a0), (2, .int v35), (3, .int v36), (4, .int 0)] (mx_sub_pos [3, 2, 1, 0] rfl (show ([4, 3, 2, 0, 1] : List Nat).Nodup by decide)) ?_
    exact w_X13_scanTypes_24_ok X hF hL nn nn a0 v35 v36 0 u33.2 _ hf
  · refine sb_if_ne hm dX13_scanTypes_5 (tgt := 10) rfl (fun z => absurd z c37) (fun _ => ?_)
    refine mx_S.pu (pc2 := 9) (lv2 := [(0, .ref a0), (1, .int a1)]) (st2 := [.int a1]) hm dX13_scanTypes_8 rfl ?_
    cases hf
    exact sx_ire hm dX13_scanTypes_9 rfl rfl
