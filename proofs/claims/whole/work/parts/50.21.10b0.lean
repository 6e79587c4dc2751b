set_option maxHeartbeats 4000000 in
set_option maxRecDepth 20000 in
theorem f_X2_addKindByte_ok (X : Nat × (Nat → Int32)) {F L : Nat} (hF : 0 ≤ F) (hL : 0 ≤ L) (nn : Nat) (a0 : Nat) (a1 : Int32) (h : mx_H) {r : mx_H} (hf : f_X2_addKindByte nn a0 a1 h = some r) : mx_R X F L 55 [.ref a0, .int a1] h (none, r, 0, 0) := by
  have hm : mx_mt 55 = some (yX2_addKindByte, cX2_addKindByte, 2, none) := mt_X2_addKindByte
  show mx_S X F L 55 0 [(0, .ref a0), (1, .int a1)] [] h 0 0 (none, r, 0, 0)
  unfold f_X2_addKindByte at hf
  refine mx_S.pu (pc2 := 1) (lv2 := [(0, .ref a0), (1, .int a1)]) (st2 := [.ref a0]) hm dX2_addKindByte_0 rfl ?_
  replace hf := mx_sv_el hf; obtain ⟨v1, e_v1, hf⟩ := hf
  refine sx_get hm dX2_addKindByte_1 rs_RX2_144 (xgi_el e_v1) ?_
  clear e_v1
  refine mx_S.pu (pc2 := 5) (lv2 := [(0, .ref a0), (1, .int a1)]) (st2 := [.ref a0, .int v1]) hm dX2_addKindByte_4 rfl ?_
  replace hf := mx_sv_el hf; obtain ⟨v2, e_v2, hf⟩ := hf
  refine sx_get hm dX2_addKindByte_5 rs_RX2_70 (xgr_el e_v2) ?_
  clear e_v2
  replace hf := mx_sv_el hf; obtain ⟨v3, e_v3, hf⟩ := hf
  refine sx_len hm dX2_addKindByte_8 e_v3 ?_
  clear e_v3
  rcases mx_if_el hf with ⟨c11, hf⟩ | ⟨c11, hf⟩
  · refine sb_ic_ge hm dX2_addKindByte_9 (tgt := 33) rfl (fun _ => ?_) (fun z => absurd c11 z)
    cases hf
    exact sx_ret hm dX2_addKindByte_33 rfl
  · refine sb_ic_ge hm dX2_addKindByte_9 (tgt := 33) rfl (fun z => absurd z c11) (fun _ => ?_)
    refine mx_S.pu (pc2 := 13) (lv2 := [(0, .ref a0), (1, .int a1)]) (st2 := [.ref a0]) hm dX2_addKindByte_12 rfl ?_
    replace hf := mx_sv_el hf; obtain ⟨v4, e_v4, hf⟩ := hf
    refine sx_get hm dX2_addKindByte_13 rs_RX2_70 (xgr_el e_v4) ?_
    clear e_v4
    refine mx_S.pu (pc2 := 17) (lv2 := [(0, .ref a0), (1, .int a1)]) (st2 := [.ref a0, .ref v4]) hm dX2_addKindByte_16 rfl ?_
    replace hf := mx_sv_el hf; obtain ⟨v5, e_v5, hf⟩ := hf
    refine sx_get hm dX2_addKindByte_17 rs_RX2_144 (xgi_el e_v5) ?_
    clear e_v5
    refine mx_S.pu (pc2 := 21) (lv2 := [(0, .ref a0), (1, .int a1)]) (st2 := [.int a1, .int v5, .ref v4]) hm dX2_addKindByte_20 rfl ?_
    replace hf := xl_el hf; obtain ⟨v6, e_v6, hf⟩ := hf
    refine mx_S.pu (pc2 := 22) (lv2 := [(0, .ref a0), (1, .int a1)]) (st2 := [.int v6, .int v5, .ref v4]) hm dX2_addKindByte_21 (by rw [← e_v6]; rfl) ?_
    clear e_v6
    replace hf := mx_sv_el hf; obtain ⟨h7, e_h7, hf⟩ := hf
    refine sx_bst hm dX2_addKindByte_22 e_h7 ?_
    clear e_h7
    refine mx_S.pu (pc2 := 24) (lv2 := [(0, .ref a0), (1, .int a1)]) (st2 := [.ref a0]) hm dX2_addKindByte_23 rfl ?_
    refine mx_S.pu (pc2 := 25) (lv2 := [(0, .ref a0), (1, .int a1)]) (st2 := [.ref a0, .ref a0]) hm dX2_addKindByte_24 rfl ?_
    replace hf := mx_sv_el hf; obtain ⟨v8, e_v8, hf⟩ := hf
    refine sx_get hm dX2_addKindByte_25 rs_RX2_144 (xgi_el e_v8) ?_
    clear e_v8
    refine sx_ic (v := 1) hm dX2_addKindByte_28 (by decide) ?_
    replace hf := xl_el hf; obtain ⟨v9, e_v9, hf⟩ := hf
    refine mx_S.pu (pc2 := 30) (lv2 := [(0, .ref a0), (1, .int a1)]) (st2 := [.int v9, .ref a0]) hm dX2_addKindByte_29 (by rw [← e_v9]; rfl) ?_
    clear e_v9
    replace hf := mx_sv_el hf; obtain ⟨h10, e_h10, hf⟩ := hf
    refine sx_put hm dX2_addKindByte_30 rs_RX2_144 ft_2_20 ⟨rfl, rfl⟩ (fun z => by cases z) e_h10 ?_
    clear e_h10
    cases hf
    exact sx_ret hm dX2_addKindByte_33 rfl
set_option maxHeartbeats 4000000 in
set_option maxRecDepth 20000 in
theorem j_X2_addKind_20_ok (X : Nat × (Nat → Int32)) {F L : Nat} (hF : 2 ≤ F) (hL : 84 ≤ L) (nn : Nat) (l0 : Nat) (l2 : Int32) (h : mx_H) {r : mx_H} (hf : j_X2_addKind_20 nn l0 l2 h = some r) : mx_S X F L 56 20 [(0, .ref l0), (2, .int l2)] [] h 0 0 (none, r, 0, 0) := by
  have hm : mx_mt 56 = some (yX2_addKind, cX2_addKind, 4, none) := mt_X2_addKind
  unfold j_X2_addKind_20 at hf
  refine mx_S.pu (pc2 := 21) (lv2 := [(0, .ref l0), (2, .int l2)]) (st2 := [.int l2]) hm dX2_addKind_20 rfl ?_
  replace hf := mx_sv_el hf; obtain ⟨u1, e_u1, hf⟩ := hf
  refine sx_cs hm dX2_addKind_21 rs_RX2_166 mt_X4_isClass [.int l2] [] rfl rfl (Nat.le_of_ble_eq_true rfl) (Nat.le_of_ble_eq_true rfl) (by omega) (by omega) (f_X4_isClass_ok X (by omega) (by omega) nn l2 h e_u1) ?_
  clear e_u1
  show mx_S X F L 56 24 [(0, .ref l0), (2, .int l2)] [.int u1.1] u1.2 0 0 (none, r, 0, 0)
  rcases mx_if_el hf with ⟨c30, hf⟩ | ⟨c30, hf⟩
  · refine sb_if_ne hm dX2_addKind_24 (tgt := 58) rfl (fun _ => ?_) (fun z => absurd c30 z)
    refine mx_S.pu (pc2 := 59) (lv2 := [(0, .ref l0), (2, .int l2)]) (st2 := [.ref l0]) hm dX2_addKind_58 rfl ?_
    refine sx_bi (v := 76) hm dX2_addKind_59 (by decide) ?_
    replace hf := mx_gd_el hf; obtain ⟨c2, hf⟩ := hf
    replace hf := mx_sv_el hf; obtain ⟨u3, e_u3, hf⟩ := hf
    refine sx_cv hm dX2_addKind_61 rs_RX2_154 mt_X2_addKindByte [.int 76] [] (b := l0) (ci := 2) rfl rfl rfl c2 (Nat.le_of_ble_eq_true rfl) (Nat.le_of_ble_eq_true rfl) (by omega) (by omega) (f_X2_addKindByte_ok X (by omega) (by omega) nn l0 76 u1.2 e_u3) ?_
    clear e_u3
    show mx_S X F L 56 64 [(0, .ref l0), (2, .int l2)] [] u3 0 0 (none, r, 0, 0)
    refine mx_S.pu (pc2 := 65) (lv2 := [(0, .ref l0), (2, .int l2)]) (st2 := [.ref l0]) hm dX2_addKind_64 rfl ?_
    replace hf := mx_sv_el hf; obtain ⟨v4, e_v4, hf⟩ := hf
    refine sx_get hm dX2_addKind_65 rs_RX2_67 (xgr_el e_v4) ?_
    clear e_v4
    refine mx_S.pu (pc2 := 69) (lv2 := [(0, .ref l0), (2, .int l2)]) (st2 := [.int l2, .ref v4]) hm dX2_addKind_68 rfl ?_
    replace hf := mx_sv_el hf; obtain ⟨v5, e_v5, hf⟩ := hf
    refine sx_ald hm dX2_addKind_69 e_v5 ?_
    clear e_v5
    refine mx_S.pu (pc2 := 71) (lv2 := [(3, .int v5), (0, .ref l0), (2, .int l2)]) (st2 := []) hm dX2_addKind_70 rfl ?_
    refine mx_S.pu (pc2 := 72) (lv2 := [(3, .int v5), (0, .ref l0), (2, .int l2)]) (st2 := [.ref l0]) hm dX2_addKind_71 rfl ?_
    replace hf := mx_sv_el hf; obtain ⟨v6, e_v6, hf⟩ := hf
    refine sx_get hm dX2_addKind_72 rs_RX2_74 (xgr_el e_v6) ?_
    clear e_v6
    refine mx_S.pu (pc2 := 76) (lv2 := [(3, .int v5), (0, .ref l0), (2, .int l2)]) (st2 := [.int v5, .ref v6]) hm dX2_addKind_75 rfl ?_
    refine mx_S.pu (pc2 := 77) (lv2 := [(3, .int v5), (0, .ref l0), (2, .int l2)]) (st2 := [.ref l0, .int v5, .ref v6]) hm dX2_addKind_76 rfl ?_
    replace hf := mx_sv_el hf; obtain ⟨v7, e_v7, hf⟩ := hf
    refine sx_get hm dX2_addKind_77 rs_RX2_70 (xgr_el e_v7) ?_
    clear e_v7
    refine mx_S.pu (pc2 := 81) (lv2 := [(3, .int v5), (0, .ref l0), (2, .int l2)]) (st2 := [.ref l0, .ref v7, .int v5, .ref v6]) hm dX2_addKind_80 rfl ?_
    replace hf := mx_sv_el hf; obtain ⟨v8, e_v8, hf⟩ := hf
    refine sx_get hm dX2_addKind_81 rs_RX2_144 (xgi_el e_v8) ?_
    clear e_v8
    replace hf := mx_gd_el hf; obtain ⟨c9, hf⟩ := hf
    replace hf := mx_sv_el hf; obtain ⟨u10, e_u10, hf⟩ := hf
    refine sx_cv hm dX2_addKind_84 rs_RX2_169 mt_X9_copyName [.int v5, .ref v7, .int v8] [] (b := v6) (ci := 9) rfl rfl rfl c9 (Nat.le_of_ble_eq_true rfl) (Nat.le_of_ble_eq_true rfl) (by omega) (by omega) (f_X9_copyName_ok X (by omega) (by omega) nn v6 v5 v7 v8 u3 e_u10) ?_
    clear e_u10
    show mx_S X F L 56 87 [(3, .int v5), (0, .ref l0), (2, .int l2)] [] u10 0 0 (none, r, 0, 0)
    refine mx_S.pu (pc2 := 88) (lv2 := [(3, .int v5), (0, .ref l0), (2, .int l2)]) (st2 := [.ref l0]) hm dX2_addKind_87 rfl ?_
    refine mx_S.pu (pc2 := 89) (lv2 := [(3, .int v5), (0, .ref l0), (2, .int l2)]) (st2 := [.ref l0, .ref l0]) hm dX2_addKind_88 rfl ?_
    replace hf := mx_sv_el hf; obtain ⟨v11, e_v11, hf⟩ := hf
    refine sx_get hm dX2_addKind_89 rs_RX2_144 (xgi_el e_v11) ?_
    clear e_v11
    refine mx_S.pu (pc2 := 93) (lv2 := [(3, .int v5), (0, .ref l0), (2, .int l2)]) (st2 := [.ref l0, .int v11, .ref l0]) hm dX2_addKind_92 rfl ?_
    replace hf := mx_sv_el hf; obtain ⟨v12, e_v12, hf⟩ := hf
    refine sx_get hm dX2_addKind_93 rs_RX2_74 (xgr_el e_v12) ?_
    clear e_v12
    refine mx_S.pu (pc2 := 97) (lv2 := [(3, .int v5), (0, .ref l0), (2, .int l2)]) (st2 := [.int v5, .ref v12, .int v11, .ref l0]) hm dX2_addKind_96 rfl ?_
    replace hf := mx_gd_el hf; obtain ⟨c13, hf⟩ := hf
    replace hf := mx_sv_el hf; obtain ⟨u14, e_u14, hf⟩ := hf
    refine sx_cv hm dX2_addKind_97 rs_RX2_173 mt_X9_nameLength [.int v5] [.int v11, .ref l0] (b := v12) (ci := 9) rfl rfl rfl c13 (Nat.le_of_ble_eq_true rfl) (Nat.le_of_ble_eq_true rfl) (by omega) (by omega) (f_X9_nameLength_ok X (by omega) (by omega) nn v12 v5 u10 e_u14) ?_
    clear e_u14
    show mx_S X F L 56 100 [(3, .int v5), (0, .ref l0), (2, .int l2)] [.int u14.1, .int v11, .ref l0] u14.2 0 0 (none, r, 0, 0)
    replace hf := xl_el hf; obtain ⟨v15, e_v15, hf⟩ := hf
    refine mx_S.pu (pc2 := 101) (lv2 := [(3, .int v5), (0, .ref l0), (2, .int l2)]) (st2 := [.int v15, .ref l0]) hm dX2_addKind_100 (by rw [← e_v15]; rfl) ?_
    clear e_v15
    refine mx_S.pu (pc2 := 102) (lv2 := [(3, .int v5), (0, .ref l0), (2, .int l2)]) (st2 := [.ref l0, .int v15, .ref l0]) hm dX2_addKind_101 rfl ?_
    replace hf := mx_sv_el hf; obtain ⟨v16, e_v16, hf⟩ := hf
    refine sx_get hm dX2_addKind_102 rs_RX2_70 (xgr_el e_v16) ?_
    clear e_v16
    replace hf := mx_sv_el hf; obtain ⟨v17, e_v17, hf⟩ := hf
    refine sx_len hm dX2_addKind_105 e_v17 ?_
    clear e_v17
    replace hf := xl_el hf; obtain ⟨v18, e_v18, hf⟩ := hf
    refine sx_min hm dX2_addKind_106 rs_RX2_176 (by omega) (Nat.le_trans (Nat.le_of_ble_eq_true rfl : _ ≤ 60) (by omega)) ?_
    rw [e_v18]
    clear e_v18
    replace hf := mx_sv_el hf; obtain ⟨h19, e_h19, hf⟩ := hf
    refine sx_put hm dX2_addKind_109 rs_RX2_144 ft_2_20 ⟨rfl, rfl⟩ (fun z => by cases z) e_h19 ?_
    clear e_h19
    refine mx_S.pu (pc2 := 113) (lv2 := [(3, .int v5), (0, .ref l0), (2, .int l2)]) (st2 := [.ref l0]) hm dX2_addKind_112 rfl ?_
    refine sx_bi (v := 59) hm dX2_addKind_113 (by decide) ?_
    replace hf := mx_gd_el hf; obtain ⟨c20, hf⟩ := hf
    replace hf := mx_sv_el hf; obtain ⟨u21, e_u21, hf⟩ := hf
    refine sx_cv hm dX2_addKind_115 rs_RX2_154 mt_X2_addKindByte [.int 59] [] (b := l0) (ci := 2) rfl rfl rfl c20 (Nat.le_of_ble_eq_true rfl) (Nat.le_of_ble_eq_true rfl) (by omega) (by omega) (f_X2_addKindByte_ok X (by omega) (by omega) nn l0 59 h19 e_u21) ?_
    clear e_u21
    show mx_S X F L 56 118 [(3, .int v5), (0, .ref l0), (2, .int l2)] [] u21 0 0 (none, r, 0, 0)
    cases hf
    exact sx_ret hm dX2_addKind_118 rfl
  · refine sb_if_ne hm dX2_addKind_24 (tgt := 58) rfl (fun z => absurd z c30) (fun _ => ?_)
    refine mx_S.pu (pc2 := 28) (lv2 := [(0, .ref l0), (2, .int l2)]) (st2 := [.ref l0]) hm dX2_addKind_27 rfl ?_
    refine mx_S.pu (pc2 := 29) (lv2 := [(0, .ref l0), (2, .int l2)]) (st2 := [.int l2, .ref l0]) hm dX2_addKind_28 rfl ?_
    refine sx_si (v := 301) hm dX2_addKind_29 (by decide) ?_
    rcases mx_if_el hf with ⟨c29, hf⟩ | ⟨c29, hf⟩
    · refine sb_ic_ne hm dX2_addKind_32 (tgt := 40) rfl (fun _ => ?_) (fun z => absurd c29 z)
      refine mx_S.pu (pc2 := 41) (lv2 := [(0, .ref l0), (2, .int l2)]) (st2 := [.int l2, .ref l0]) hm dX2_addKind_40 rfl ?_
      refine sx_si (v := 302) hm dX2_addKind_41 (by decide) ?_
      rcases mx_if_el hf with ⟨c26, hf⟩ | ⟨c26, hf⟩
      · refine sb_ic_ne hm dX2_addKind_44 (tgt := 52) rfl (fun _ => ?_) (fun z => absurd c26 z)
        refine sx_bi (v := 86) hm dX2_addKind_52 (by decide) ?_
        replace hf := mx_gd_el hf; obtain ⟨c22, hf⟩ := hf
        replace hf := mx_sv_el hf; obtain ⟨u23, e_u23, hf⟩ := hf
        refine sx_cv hm dX2_addKind_54 rs_RX2_154 mt_X2_addKindByte [.int 86] [] (b := l0) (ci := 2) rfl rfl rfl c22 (Nat.le_of_ble_eq_true rfl) (Nat.le_of_ble_eq_true rfl) (by omega) (by omega) (f_X2_addKindByte_ok X (by omega) (by omega) nn l0 86 u1.2 e_u23) ?_
        clear e_u23
        show mx_S X F L 56 57 [(0, .ref l0), (2, .int l2)] [] u23 0 0 (none, r, 0, 0)
        cases hf
        exact sx_ret hm dX2_addKind_57 rfl
      · refine sb_ic_ne hm dX2_addKind_44 (tgt := 52) rfl (fun z => absurd z c26) (fun _ => ?_)
        refine sx_bi (v := 90) hm dX2_addKind_47 (by decide) ?_
        refine mx_S.pu (pc2 := 54) (lv2 := [(0, .ref l0), (2, .int l2)]) (st2 := [.int 90, .ref l0]) hm dX2_addKind_49 rfl ?_
        replace hf := mx_gd_el hf; obtain ⟨c24, hf⟩ := hf
        replace hf := mx_sv_el hf; obtain ⟨u25, e_u25, hf⟩ := hf
        refine sx_cv hm dX2_addKind_54 rs_RX2_154 mt_X2_addKindByte [.int 90] [] (b := l0) (ci := 2) rfl rfl rfl c24 (Nat.le_of_ble_eq_true rfl) (Nat.le_of_ble_eq_true rfl) (by omega) (by omega) (f_X2_addKindByte_ok X (by omega) (by omega) nn l0 90 u1.2 e_u25) ?_
        clear e_u25
        show mx_S X F L 56 57 [(0, .ref l0), (2, .int l2)] [] u25 0 0 (none, r, 0, 0)
        cases hf
        exact sx_ret hm dX2_addKind_57 rfl
    · refine sb_ic_ne hm dX2_addKind_32 (tgt := 40) rfl (fun z => absurd z c29) (fun _ => ?_)
      refine sx_bi (v := 73) hm dX2_addKind_35 (by decide) ?_
      refine mx_S.pu (pc2 := 54) (lv2 := [(0, .ref l0), (2, .int l2)]) (st2 := [.int 73, .ref l0]) hm dX2_addKind_37 rfl ?_
      replace hf := mx_gd_el hf; obtain ⟨c27, hf⟩ := hf
      replace hf := mx_sv_el hf; obtain ⟨u28, e_u28, hf⟩ := hf
      refine sx_cv hm dX2_addKind_54 rs_RX2_154 mt_X2_addKindByte [.int 73] [] (b := l0) (ci := 2) rfl rfl rfl c27 (Nat.le_of_ble_eq_true rfl) (Nat.le_of_ble_eq_true rfl) (by omega) (by omega) (f_X2_addKindByte_ok X (by omega) (by omega) nn l0 73 u1.2 e_u28) ?_
      clear e_u28
      show mx_S X F L 56 57 [(0, .ref l0), (2, .int l2)] [] u28 0 0 (none, r, 0, 0)
      cases hf
      exact sx_ret hm dX2_addKind_57 rfl
set_option maxHeartbeats 4000000 in
set_option maxRecDepth 20000 in
theorem f_X2_addKind_ok (X : Nat × (Nat → Int32)) {F L : Nat} (hF : 2 ≤ F) (hL : 84 ≤ L) (nn : Nat) (a0 : Nat) (a1 : Int32) (h : mx_H) {r : mx_H} (hf : f_X2_addKind nn a0 a1 h = some r) : mx_R X F L 56 [.ref a0, .int a1] h (none, r, 0, 0) := by
  have hm : mx_mt 56 = some (yX2_addKind, cX2_addKind, 4, none) := mt_X2_addKind
  show mx_S X F L 56 0 [(0, .ref a0), (1, .int a1)] [] h 0 0 (none, r, 0, 0)
  unfold f_X2_addKind at hf
  refine mx_S.pu (pc2 := 1) (lv2 := [(0, .ref a0), (1, .int a1)]) (st2 := [.int a1]) hm dX2_addKind_0 rfl ?_
  refine mx_S.pu (pc2 := 2) (lv2 := [(2, .int a1), (0, .ref a0), (1, .int a1)]) (st2 := []) hm dX2_addKind_1 rfl ?_
  refine mx_S.pu (pc2 := 3) (lv2 := [(2, .int a1), (0, .ref a0), (1, .int a1)]) (st2 := [.int a1]) hm dX2_addKind_2 rfl ?_
  replace hf := mx_sv_el hf; obtain ⟨u31, e_u31, hf⟩ := hf
  refine sx_cs hm dX2_addKind_3 rs_RX2_160 mt_X4_isArray [.int a1] [] rfl rfl (Nat.le_of_ble_eq_true rfl) (Nat.le_of_ble_eq_true rfl) (by omega) (by omega) (f_X4_isArray_ok X (by omega) (by omega) nn a1 h e_u31) ?_
  clear e_u31
  show mx_S X F L 56 6 [(2, .int a1), (0, .ref a0), (1, .int a1)] [.int u31.1] u31.2 0 0 (none, r, 0, 0)
  rcases mx_if_el hf with ⟨c35, hf⟩ | ⟨c35, hf⟩
  · refine sb_if_eq hm dX2_addKind_6 (tgt := 20) rfl (fun _ => ?_) (fun z => absurd c35 z)
    refine mx_S.ext [(0, .ref a0), (2, .int a1)] (mx_sub_pos [1, 0] rfl (show ([2, 0, 1] : List Nat).Nodup by decide)) ?_
    exact j_X2_addKind_20_ok X hF hL nn a0 a1 u31.2 hf
  · refine sb_if_eq hm dX2_addKind_6 (tgt := 20) rfl (fun z => absurd z c35) (fun _ => ?_)
    refine mx_S.pu (pc2 := 10) (lv2 := [(2, .int a1), (0, .ref a0), (1, .int a1)]) (st2 := [.ref a0]) hm dX2_addKind_9 rfl ?_
    refine sx_bi (v := 91) hm dX2_addKind_10 (by decide) ?_
    replace hf := mx_gd_el hf; obtain ⟨c32, hf⟩ := hf
    replace hf := mx_sv_el hf; obtain ⟨u33, e_u33, hf⟩ := hf
    refine sx_cv hm dX2_addKind_12 rs_RX2_154 mt_X2_addKindByte [.int 91] [] (b := a0) (ci := 2) rfl rfl rfl c32 (Nat.le_of_ble_eq_true rfl) (Nat.le_of_ble_eq_true rfl) (by omega) (by omega) (f_X2_addKindByte_ok X (by omega) (by omega) nn a0 91 u31.2 e_u33) ?_
    clear e_u33
    show mx_S X F L 56 15 [(2, .int a1), (0, .ref a0), (1, .int a1)] [] u33 0 0 (none, r, 0, 0)
    refine mx_S.pu (pc2 := 16) (lv2 := [(2, .int a1), (0, .ref a0), (1, .int a1)]) (st2 := [.int a1]) hm dX2_addKind_15 rfl ?_
    replace hf := mx_sv_el hf; obtain ⟨u34, e_u34, hf⟩ := hf
    refine sx_cs hm dX2_addKind_16 rs_RX2_163 mt_X4_elementOf [.int a1] [] rfl rfl (Nat.le_of_ble_eq_true rfl) (Nat.le_of_ble_eq_true rfl) (by omega) (by omega) (f_X4_elementOf_ok X (by omega) (by omega) nn a1 u33 e_u34) ?_
    clear e_u34
    show mx_S X F L 56 19 [(2, .int a1), (0, .ref a0), (1, .int a1)] [.int u34.1] u34.2 0 0 (none, r, 0, 0)
    refine mx_S.pu (pc2 := 20) (lv2 := [(2, .int u34.1), (0, .ref a0), (1, .int a1)]) (st2 := []) hm dX2_addKind_19 rfl ?_
    refine mx_S.ext [(0, .ref a0), (2, .int u34.1)] (mx_sub_pos [1, 0] rfl (show ([2, 0, 1] : List Nat).Nodup by decide)) ?_
    exact j_X2_addKind_20_ok X hF hL nn a0 u34.1 u34.2 hf
set_option maxHeartbeats 4000000 in
set_option maxRecDepth 20000 in
theorem f_X9_bucketOf_ok (X : Nat × (Nat → Int32)) {F L : Nat} (hF : 0 ≤ F) (hL : 0 ≤ L) (nn : Nat) (a0 : Nat) (a1 : Int32) (a2 : Int32) (h : mx_H) {r : (Int32 × mx_H)} (hf : f_X9_bucketOf nn a0 a1 a2 h = some r) : mx_R X F L 243 [.ref a0, .int a1, .int a2] h (some (.int r.1), r.2, 0, 0) := by
  have hm : mx_mt 243 = some (yX9_bucketOf, cX9_bucketOf, 3, (some .int)) := mt_X9_bucketOf
  show mx_S X F L 243 0 [(0, .ref a0), (1, .int a1), (2, .int a2)] [] h 0 0 (some (.int r.1), r.2, 0, 0)
  unfold f_X9_bucketOf at hf
  refine mx_S.pu (pc2 := 1) (lv2 := [(0, .ref a0), (1, .int a1), (2, .int a2)]) (st2 := [.ref a0]) hm dX9_bucketOf_0 rfl ?_
  refine mx_S.pu (pc2 := 2) (lv2 := [(0, .ref a0), (1, .int a1), (2, .int a2)]) (st2 := [.int a1, .ref a0]) hm dX9_bucketOf_1 rfl ?_
  replace hf := mx_sv_el hf; obtain ⟨v1, e_v1, hf⟩ := hf
  refine sx_bld hm dX9_bucketOf_2 e_v1 ?_
  clear e_v1
  refine sx_ic (v := 5) hm dX9_bucketOf_3 (by decide) ?_
  replace hf := xl_el hf; obtain ⟨v2, e_v2, hf⟩ := hf
  refine mx_S.pu (pc2 := 5) (lv2 := [(0, .ref a0), (1, .int a1), (2, .int a2)]) (st2 := [.int v2]) hm dX9_bucketOf_4 (by rw [← e_v2]; rfl) ?_
  clear e_v2
  refine mx_S.pu (pc2 := 6) (lv2 := [(0, .ref a0), (1, .int a1), (2, .int a2)]) (st2 := [.ref a0, .int v2]) hm dX9_bucketOf_5 rfl ?_
  refine mx_S.pu (pc2 := 7) (lv2 := [(0, .ref a0), (1, .int a1), (2, .int a2)]) (st2 := [.int a1, .ref a0, .int v2]) hm dX9_bucketOf_6 rfl ?_
  refine mx_S.pu (pc2 := 8) (lv2 := [(0, .ref a0), (1, .int a1), (2, .int a2)]) (st2 := [.int a2, .int a1, .ref a0, .int v2]) hm dX9_bucketOf_7 rfl ?_
  replace hf := xl_el hf; obtain ⟨v3, e_v3, hf⟩ := hf
  refine mx_S.pu (pc2 := 9) (lv2 := [(0, .ref a0), (1, .int a1), (2, .int a2)]) (st2 := [.int v3, .ref a0, .int v2]) hm dX9_bucketOf_8 (by rw [← e_v3]; rfl) ?_
  clear e_v3
  refine sx_ic (v := 1) hm dX9_bucketOf_9 (by decide) ?_
  replace hf := xl_el hf; obtain ⟨v4, e_v4, hf⟩ := hf
  refine mx_S.pu (pc2 := 11) (lv2 := [(0, .ref a0), (1, .int a1), (2, .int a2)]) (st2 := [.int v4, .ref a0, .int v2]) hm dX9_bucketOf_10 (by rw [← e_v4]; rfl) ?_
  clear e_v4
  replace hf := mx_sv_el hf; obtain ⟨v5, e_v5, hf⟩ := hf
  refine sx_bld hm dX9_bucketOf_11 e_v5 ?_
  clear e_v5
  refine sx_ic (v := 3) hm dX9_bucketOf_12 (by decide) ?_
  replace hf := xl_el hf; obtain ⟨v6, e_v6, hf⟩ := hf
  refine mx_S.pu (pc2 := 14) (lv2 := [(0, .ref a0), (1, .int a1), (2, .int a2)]) (st2 := [.int v6, .int v2]) hm dX9_bucketOf_13 (by rw [← e_v6]; rfl) ?_
  clear e_v6
  replace hf := xl_el hf; obtain ⟨v7, e_v7, hf⟩ := hf
  refine mx_S.pu (pc2 := 15) (lv2 := [(0, .ref a0), (1, .int a1), (2, .int a2)]) (st2 := [.int v7]) hm dX9_bucketOf_14 (by rw [← e_v7]; rfl) ?_
  clear e_v7
  refine mx_S.pu (pc2 := 16) (lv2 := [(0, .ref a0), (1, .int a1), (2, .int a2)]) (st2 := [.int a2, .int v7]) hm dX9_bucketOf_15 rfl ?_
  replace hf := xl_el hf; obtain ⟨v8, e_v8, hf⟩ := hf
  refine mx_S.pu (pc2 := 17) (lv2 := [(0, .ref a0), (1, .int a1), (2, .int a2)]) (st2 := [.int v8]) hm dX9_bucketOf_16 (by rw [← e_v8]; rfl) ?_
  clear e_v8
  refine sx_bi (v := 63) hm dX9_bucketOf_17 (by decide) ?_
  replace hf := xl_el hf; obtain ⟨v9, e_v9, hf⟩ := hf
  refine mx_S.pu (pc2 := 20) (lv2 := [(0, .ref a0), (1, .int a1), (2, .int a2)]) (st2 := [.int v9]) hm dX9_bucketOf_19 (by rw [← e_v9]; rfl) ?_
  clear e_v9
  cases hf
  exact sx_ire hm dX9_bucketOf_20 rfl rfl
set_option maxHeartbeats 4000000 in
set_option maxRecDepth 20000 in
theorem f_X9_closeName_ok (X : Nat × (Nat → Int32)) {F L : Nat} (hF : 1 ≤ F) (hL : 22 ≤ L) (nn : Nat) (a0 : Nat) (a1 : Int32) (h : mx_H) {r : mx_H} (hf : f_X9_closeName nn a0 a1 h = some r) : mx_R X F L 242 [.ref a0, .int a1] h (none, r, 0, 0) := by
  have hm : mx_mt 242 = some (yX9_closeName, cX9_closeName, 4, none) := mt_X9_closeName
  show mx_S X F L 242 0 [(0, .ref a0), (1, .int a1)] [] h 0 0 (none, r, 0, 0)
  unfold f_X9_closeName at hf
  refine mx_S.pu (pc2 := 1) (lv2 := [(0, .ref a0), (1, .int a1)]) (st2 := [.ref a0]) hm dX9_closeName_0 rfl ?_
  replace hf := mx_sv_el hf; obtain ⟨v1, e_v1, hf⟩ := hf
  refine sx_get hm dX9_closeName_1 rs_RX9_29 (xgr_el e_v1) ?_
  clear e_v1
  refine mx_S.pu (pc2 := 5) (lv2 := [(0, .ref a0), (1, .int a1)]) (st2 := [.ref a0, .ref v1]) hm dX9_closeName_4 rfl ?_
  replace hf := mx_sv_el hf; obtain ⟨v2, e_v2, hf⟩ := hf
  refine sx_get hm dX9_closeName_5 rs_RX9_73 (xgi_el e_v2) ?_
  clear e_v2
  replace hf := mx_sv_el hf; obtain ⟨v3, e_v3, hf⟩ := hf
  refine sx_ald hm dX9_closeName_8 e_v3 ?_
  clear e_v3
  refine mx_S.pu (pc2 := 10) (lv2 := [(2, .int v3), (0, .ref a0), (1, .int a1)]) (st2 := []) hm dX9_closeName_9 rfl ?_
  refine mx_S.pu (pc2 := 11) (lv2 := [(2, .int v3), (0, .ref a0), (1, .int a1)]) (st2 := [.ref a0]) hm dX9_closeName_10 rfl ?_
  replace hf := mx_sv_el hf; obtain ⟨v4, e_v4, hf⟩ := hf
  refine sx_get hm dX9_closeName_11 rs_RX9_25 (xgr_el e_v4) ?_
  clear e_v4
  refine mx_S.pu (pc2 := 15) (lv2 := [(2, .int v3), (0, .ref a0), (1, .int a1)]) (st2 := [.int v3, .ref v4]) hm dX9_closeName_14 rfl ?_
  refine mx_S.pu (pc2 := 16) (lv2 := [(2, .int v3), (0, .ref a0), (1, .int a1)]) (st2 := [.int a1, .int v3, .ref v4]) hm dX9_closeName_15 rfl ?_
  refine mx_S.pu (pc2 := 17) (lv2 := [(2, .int v3), (0, .ref a0), (1, .int a1)]) (st2 := [.int v3, .int a1, .int v3, .ref v4]) hm dX9_closeName_16 rfl ?_
  replace hf := xl_el hf; obtain ⟨v5, e_v5, hf⟩ := hf
  refine mx_S.pu (pc2 := 18) (lv2 := [(2, .int v3), (0, .ref a0), (1, .int a1)]) (st2 := [.int v5, .int v3, .ref v4]) hm dX9_closeName_17 (by rw [← e_v5]; rfl) ?_
  clear e_v5
  replace hf := mx_sv_el hf; obtain ⟨u6, e_u6, hf⟩ := hf
  refine sx_cs hm dX9_closeName_18 rs_RX9_76 mt_X9_bucketOf [.ref v4, .int v3, .int v5] [] rfl rfl (Nat.le_of_ble_eq_true rfl) (Nat.le_of_ble_eq_true rfl) (by omega) (by omega) (f_X9_bucketOf_ok X (by omega) (by omega) nn v4 v3 v5 h e_u6) ?_
  clear e_u6
  show mx_S X F L 242 21 [(2, .int v3), (0, .ref a0), (1, .int a1)] [.int u6.1] u6.2 0 0 (none, r, 0, 0)
  refine mx_S.pu (pc2 := 22) (lv2 := [(3, .int u6.1), (2, .int v3), (0, .ref a0), (1, .int a1)]) (st2 := []) hm dX9_closeName_21 rfl ?_
  refine mx_S.pu (pc2 := 23) (lv2 := [(3, .int u6.1), (2, .int v3), (0, .ref a0), (1, .int a1)]) (st2 := [.ref a0]) hm dX9_closeName_22 rfl ?_
  replace hf := mx_sv_el hf; obtain ⟨v7, e_v7, hf⟩ := hf
  refine sx_get hm dX9_closeName_23 rs_RX9_32 (xgr_el e_v7) ?_
  clear e_v7
  refine mx_S.pu (pc2 := 27) (lv2 := [(3, .int u6.1), (2, .int v3), (0, .ref a0), (1, .int a1)]) (st2 := [.ref a0, .ref v7]) hm dX9_closeName_26 rfl ?_
  replace hf := mx_sv_el hf; obtain ⟨v8, e_v8, hf⟩ := hf
  refine sx_get hm dX9_closeName_27 rs_RX9_73 (xgi_el e_v8) ?_
  clear e_v8
  refine mx_S.pu (pc2 := 31) (lv2 := [(3, .int u6.1), (2, .int v3), (0, .ref a0), (1, .int a1)]) (st2 := [.ref a0, .int v8, .ref v7]) hm dX9_closeName_30 rfl ?_
  replace hf := mx_sv_el hf; obtain ⟨v9, e_v9, hf⟩ := hf
  refine sx_get hm dX9_closeName_31 rs_RX9_35 (xgr_el e_v9) ?_
  clear e_v9
  refine mx_S.pu (pc2 := 35) (lv2 := [(3, .int u6.1), (2, .int v3), (0, .ref a0), (1, .int a1)]) (st2 := [.int u6.1, .ref v9, .int v8, .ref v7]) hm dX9_closeName_34 rfl ?_
  replace hf := mx_sv_el hf; obtain ⟨v10, e_v10, hf⟩ := hf
  refine sx_ald hm dX9_closeName_35 e_v10 ?_
  clear e_v10
  replace hf := mx_sv_el hf; obtain ⟨h11, e_h11, hf⟩ := hf
  refine sx_ast hm dX9_closeName_36 e_h11 ?_
  clear e_h11
  refine mx_S.pu (pc2 := 38) (lv2 := [(3, .int u6.1), (2, .int v3), (0, .ref a0), (1, .int a1)]) (st2 := [.ref a0]) hm dX9_closeName_37 rfl ?_
  replace hf := mx_sv_el hf; obtain ⟨v12, e_v12, hf⟩ := hf
  refine sx_get hm dX9_closeName_38 rs_RX9_35 (xgr_el e_v12) ?_
  clear e_v12
  refine mx_S.pu (pc2 := 42) (lv2 := [(3, .int u6.1), (2, .int v3), (0, .ref a0), (1, .int a1)]) (st2 := [.int u6.1, .ref v12]) hm dX9_closeName_41 rfl ?_
  refine mx_S.pu (pc2 := 43) (lv2 := [(3, .int u6.1), (2, .int v3), (0, .ref a0), (1, .int a1)]) (st2 := [.ref a0, .int u6.1, .ref v12]) hm dX9_closeName_42 rfl ?_
  replace hf := mx_sv_el hf; obtain ⟨v13, e_v13, hf⟩ := hf
  refine sx_get hm dX9_closeName_43 rs_RX9_73 (xgi_el e_v13) ?_
  clear e_v13
  replace hf := mx_sv_el hf; obtain ⟨h14, e_h14, hf⟩ := hf
  refine sx_ast hm dX9_closeName_46 e_h14 ?_
  clear e_h14
  refine mx_S.pu (pc2 := 48) (lv2 := [(3, .int u6.1), (2, .int v3), (0, .ref a0), (1, .int a1)]) (st2 := [.ref a0]) hm dX9_closeName_47 rfl ?_
  refine mx_S.pu (pc2 := 49) (lv2 := [(3, .int u6.1), (2, .int v3), (0, .ref a0), (1, .int a1)]) (st2 := [.ref a0, .ref a0]) hm dX9_closeName_48 rfl ?_
  replace hf := mx_sv_el hf; obtain ⟨v15, e_v15, hf⟩ := hf
  refine sx_get hm dX9_closeName_49 rs_RX9_73 (xgi_el e_v15) ?_
  clear e_v15
  refine sx_ic (v := 1) hm dX9_closeName_52 (by decide) ?_
  replace hf := xl_el hf; obtain ⟨v16, e_v16, hf⟩ := hf
  refine mx_S.pu (pc2 := 54) (lv2 := [(3, .int u6.1), (2, .int v3), (0, .ref a0), (1, .int a1)]) (st2 := [.int v16, .ref a0]) hm dX9_closeName_53 (by rw [← e_v16]; rfl) ?_
  clear e_v16
  replace hf := mx_sv_el hf; obtain ⟨h17, e_h17, hf⟩ := hf
  refine sx_put hm dX9_closeName_54 rs_RX9_73 ft_9_9 ⟨rfl, rfl⟩ (fun z => by cases z) e_h17 ?_
  clear e_h17
  refine mx_S.pu (pc2 := 58) (lv2 := [(3, .int u6.1), (2, .int v3), (0, .ref a0), (1, .int a1)]) (st2 := [.ref a0]) hm dX9_closeName_57 rfl ?_
  replace hf := mx_sv_el hf; obtain ⟨v18, e_v18, hf⟩ := hf
  refine sx_get hm dX9_closeName_58 rs_RX9_29 (xgr_el e_v18) ?_
  clear e_v18
  refine mx_S.pu (pc2 := 62) (lv2 := [(3, .int u6.1), (2, .int v3), (0, .ref a0), (1, .int a1)]) (st2 := [.ref a0, .ref v18]) hm dX9_closeName_61 rfl ?_
  replace hf := mx_sv_el hf; obtain ⟨v19, e_v19, hf⟩ := hf
  refine sx_get hm dX9_closeName_62 rs_RX9_73 (xgi_el e_v19) ?_
  clear e_v19
  refine mx_S.pu (pc2 := 66) (lv2 := [(3, .int u6.1), (2, .int v3), (0, .ref a0), (1, .int a1)]) (st2 := [.int a1, .int v19, .ref v18]) hm dX9_closeName_65 rfl ?_
  replace hf := mx_sv_el hf; obtain ⟨h20, e_h20, hf⟩ := hf
  refine sx_ast hm dX9_closeName_66 e_h20 ?_
  clear e_h20
  cases hf
  exact sx_ret hm dX9_closeName_67 rfl
set_option maxHeartbeats 4000000 in
set_option maxRecDepth 20000 in
theorem w_X9_isNamed_29_ok (X : Nat × (Nat → Int32)) {F L : Nat} (hF : 0 ≤ F) (hL : 0 ≤ L) (nn : Nat) : ∀ (k : Nat) (l0 : Nat) (l2 : Nat) (l3 : Int32) (l4 : Int32) (l5 : Int32) (l6 : Int32) (h : mx_H) (r : (Int32 × mx_H)), w_X9_isNamed_29 nn k l0 l2 l3 l4 l5 l6 h = some r → mx_S X F L 262 29 [(0, .ref l0), (2, .ref l2), (3, .int l3), (4, .int l4), (5, .int l5), (6, .int l6)] [] h 0 0 (some (.int r.1), r.2, 0, 0) := by
  have hm : mx_mt 262 = some (yX9_isNamed, cX9_isNamed, 7, (some .boolean)) := mt_X9_isNamed
  intro k
  induction k with
  | zero => intro l0 l2 l3 l4 l5 l6 h r hf; cases hf
  | succ k ih =>
    intro l0 l2 l3 l4 l5 l6 h r hf
    unfold w_X9_isNamed_29 at hf
    refine mx_S.pu (pc2 := 31) (lv2 := [(0, .ref l0), (2, .ref l2), (3, .int l3), (4, .int l4), (5, .int l5), (6, .int l6)]) (st2 := [.int l6]) hm dX9_isNamed_29 rfl ?_
    refine mx_S.pu (pc2 := 33) (lv2 := [(0, .ref l0), (2, .ref l2), (3, .int l3), (4, .int l4), (5, .int l5), (6, .int l6)]) (st2 := [.int l4, .int l6]) hm dX9_isNamed_31 rfl ?_
    rcases mx_if_el hf with ⟨c8, hf⟩ | ⟨c8, hf⟩
    · refine sb_ic_ge hm dX9_isNamed_33 (tgt := 63) rfl (fun _ => ?_) (fun z => absurd c8 z)
      refine sx_ic (v := 1) hm dX9_isNamed_63 (by decide) ?_
      cases hf
      exact sx_ire hm dX9_isNamed_64 rfl (by decide)
    · refine sb_ic_ge hm dX9_isNamed_33 (tgt := 63) rfl (fun z => absurd z c8) (fun _ => ?_)
      refine mx_S.pu (pc2 := 37) (lv2 := [(0, .ref l0), (2, .ref l2), (3, .int l3), (4, .int l4), (5, .int l5), (6, .int l6)]) (st2 := [.ref l0]) hm dX9_isNamed_36 rfl ?_
      replace hf := mx_sv_el hf; obtain ⟨v1, e_v1, hf⟩ := hf
      refine sx_get hm dX9_isNamed_37 rs_RX9_25 (xgr_el e_v1) ?_
      clear e_v1
      refine mx_S.pu (pc2 := 42) (lv2 := [(0, .ref l0), (2, .ref l2), (3, .int l3), (4, .int l4), (5, .int l5), (6, .int l6)]) (st2 := [.int l5, .ref v1]) hm dX9_isNamed_40 rfl ?_
      refine mx_S.pu (pc2 := 44) (lv2 := [(0, .ref l0), (2, .ref l2), (3, .int l3), (4, .int l4), (5, .int l5), (6, .int l6)]) (st2 := [.int l6, .int l5, .ref v1]) hm dX9_isNamed_42 rfl ?_
      replace hf := xl_el hf; obtain ⟨v2, e_v2, hf⟩ := hf
      refine mx_S.pu (pc2 := 45) (lv2 := [(0, .ref l0), (2, .ref l2), (3, .int l3), (4, .int l4), (5, .int l5), (6, .int l6)]) (st2 := [.int v2, .ref v1]) hm dX9_isNamed_44 (by rw [← e_v2]; rfl) ?_
      clear e_v2
      replace hf := mx_sv_el hf; obtain ⟨v3, e_v3, hf⟩ := hf
      refine sx_bld hm dX9_isNamed_45 e_v3 ?_
      clear e_v3
      refine mx_S.pu (pc2 := 47) (lv2 := [(0, .ref l0), (2, .ref l2), (3, .int l3), (4, .int l4), (5, .int l5), (6, .int l6)]) (st2 := [.ref l2, .int v3]) hm dX9_isNamed_46 rfl ?_
      refine mx_S.pu (pc2 := 48) (lv2 := [(0, .ref l0), (2, .ref l2), (3, .int l3), (4, .int l4), (5, .int l5), (6, .int l6)]) (st2 := [.int l3, .ref l2, .int v3]) hm dX9_isNamed_47 rfl ?_
      refine mx_S.pu (pc2 := 50) (lv2 := [(0, .ref l0), (2, .ref l2), (3, .int l3), (4, .int l4), (5, .int l5), (6, .int l6)]) (st2 := [.int l6, .int l3, .ref l2, .int v3]) hm dX9_isNamed_48 rfl ?_
      replace hf := xl_el hf; obtain ⟨v4, e_v4, hf⟩ := hf
      refine mx_S.pu (pc2 := 51) (lv2 := [(0, .ref l0), (2, .ref l2), (3, .int l3), (4, .int l4), (5, .int l5), (6, .int l6)]) (st2 := [.int v4, .ref l2, .int v3]) hm dX9_isNamed_50 (by rw [← e_v4]; rfl) ?_
      clear e_v4
      replace hf := mx_sv_el hf; obtain ⟨v5, e_v5, hf⟩ := hf
      refine sx_bld hm dX9_isNamed_51 e_v5 ?_
      clear e_v5
      rcases mx_if_el hf with ⟨c7, hf⟩ | ⟨c7, hf⟩
      · refine sb_ic_eq hm dX9_isNamed_52 (tgt := 57) rfl (fun _ => ?_) (fun z => absurd c7 z)
        replace hf := xl_el hf; obtain ⟨v6, e_v6, hf⟩ := hf
        refine mx_S.pu (pc2 := 60) (lv2 := [(6, .int v6), (0, .ref l0), (2, .ref l2), (3, .int l3), (4, .int l4), (5, .int l5)]) (st2 := []) hm dX9_isNamed_57 (by rw [← e_v6]; rfl) ?_
        clear e_v6
        refine mx_S.pu (pc2 := 29) (lv2 := [(6, .int v6), (0, .ref l0), (2, .ref l2), (3, .int l3), (4, .int l4), (5, .int l5)]) (st2 := []) hm dX9_isNamed_60 rfl ?_
        refine mx_S.ext [(0, .ref l0), (2, .ref l2), (3, .int l3), (4, .int l4), (5, .int l5), (6, .int v6)] (mx_sub_pos [1, 2, 3, 4, 5, 0] rfl (show ([6, 0, 2, 3, 4, 5] : List Nat).Nodup by decide)) ?_
        exact ih l0 l2 l3 l4 l5 v6 h _ hf
      · refine sb_ic_eq hm dX9_isNamed_52 (tgt := 57) rfl (fun z => absurd z c7) (fun _ => ?_)
        refine sx_ic (v := 0) hm dX9_isNamed_55 (by decide) ?_
        cases hf
        exact sx_ire hm dX9_isNamed_56 rfl (by decide)
set_option maxHeartbeats 4000000 in
set_option maxRecDepth 20000 in
theorem f_X9_isNamed_ok (X : Nat × (Nat → Int32)) {F L : Nat} (hF : 0 ≤ F) (hL : 0 ≤ L) (nn : Nat) (a0 : Nat) (a1 : Int32) (a2 : Nat) (a3 : Int32) (a4 : Int32) (h : mx_H) {r : (Int32 × mx_H)} (hf : f_X9_isNamed nn a0 a1 a2 a3 a4 h = some r) : mx_R X F L 262 [.ref a0, .int a1, .ref a2, .int a3, .int a4] h (some (.int r.1), r.2, 0, 0) := by
  have hm : mx_mt 262 = some (yX9_isNamed, cX9_isNamed, 7, (some .boolean)) := mt_X9_isNamed
  show mx_S X F L 262 0 [(0, .ref a0), (1, .int a1), (2, .ref a2), (3, .int a3), (4, .int a4)] [] h 0 0 (some (.int r.1), r.2, 0, 0)
  unfold f_X9_isNamed at hf
  refine mx_S.pu (pc2 := 1) (lv2 := [(0, .ref a0), (1, .int a1), (2, .ref a2), (3, .int a3), (4, .int a4)]) (st2 := [.ref a0]) hm dX9_isNamed_0 rfl ?_
  replace hf := mx_sv_el hf; obtain ⟨v9, e_v9, hf⟩ := hf
  refine sx_get hm dX9_isNamed_1 rs_RX9_29 (xgr_el e_v9) ?_
  clear e_v9
  refine mx_S.pu (pc2 := 5) (lv2 := [(0, .ref a0), (1, .int a1), (2, .ref a2), (3, .int a3), (4, .int a4)]) (st2 := [.int a1, .ref v9]) hm dX9_isNamed_4 rfl ?_
  replace hf := mx_sv_el hf; obtain ⟨v10, e_v10, hf⟩ := hf
  refine sx_ald hm dX9_isNamed_5 e_v10 ?_
  clear e_v10
  refine mx_S.pu (pc2 := 8) (lv2 := [(5, .int v10), (0, .ref a0), (1, .int a1), (2, .ref a2), (3, .int a3), (4, .int a4)]) (st2 := []) hm dX9_isNamed_6 rfl ?_
  refine mx_S.pu (pc2 := 9) (lv2 := [(5, .int v10), (0, .ref a0), (1, .int a1), (2, .ref a2), (3, .int a3), (4, .int a4)]) (st2 := [.ref a0]) hm dX9_isNamed_8 rfl ?_
  replace hf := mx_sv_el hf; obtain ⟨v11, e_v11, hf⟩ := hf
  refine sx_get hm dX9_isNamed_9 rs_RX9_29 (xgr_el e_v11) ?_
  clear e_v11
  refine mx_S.pu (pc2 := 13) (lv2 := [(5, .int v10), (0, .ref a0), (1, .int a1), (2, .ref a2), (3, .int a3), (4, .int a4)]) (st2 := [.int a1, .ref v11]) hm dX9_isNamed_12 rfl ?_
  refine sx_ic (v := 1) hm dX9_isNamed_13 (by decide) ?_
  replace hf := xl_el hf; obtain ⟨v12, e_v12, hf⟩ := hf
  refine mx_S.pu (pc2 := 15) (lv2 := [(5, .int v10), (0, .ref a0), (1, .int a1), (2, .ref a2), (3, .int a3), (4, .int a4)]) (st2 := [.int v12, .ref v11]) hm dX9_isNamed_14 (by rw [← e_v12]; rfl) ?_
  clear e_v12
  replace hf := mx_sv_el hf; obtain ⟨v13, e_v13, hf⟩ := hf
  refine sx_ald hm dX9_isNamed_15 e_v13 ?_
  clear e_v13
  refine mx_S.pu (pc2 := 18) (lv2 := [(5, .int v10), (0, .ref a0), (1, .int a1), (2, .ref a2), (3, .int a3), (4, .int a4)]) (st2 := [.int v10, .int v13]) hm dX9_isNamed_16 rfl ?_
  replace hf := xl_el hf; obtain ⟨v14, e_v14, hf⟩ := hf
  refine mx_S.pu (pc2 := 19) (lv2 := [(5, .int v10), (0, .ref a0), (1, .int a1), (2, .ref a2), (3, .int a3), (4, .int a4)]) (st2 := [.int v14]) hm dX9_isNamed_18 (by rw [← e_v14]; rfl) ?_
  clear e_v14
  refine mx_S.pu (pc2 := 21) (lv2 := [(5, .int v10), (0, .ref a0), (1, .int a1), (2, .ref a2), (3, .int a3), (4, .int a4)]) (st2 := [.int a4, .int v14]) hm dX9_isNamed_19 rfl ?_
  rcases mx_if_el hf with ⟨c15, hf⟩ | ⟨c15, hf⟩
  · refine sb_ic_eq hm dX9_isNamed_21 (tgt := 26) rfl (fun _ => ?_) (fun z => absurd c15 z)
    refine sx_ic (v := 0) hm dX9_isNamed_26 (by decide) ?_
    refine mx_S.pu (pc2 := 29) (lv2 := [(6, .int 0), (5, .int v10), (0, .ref a0), (1, .int a1), (2, .ref a2), (3, .int a3), (4, .int a4)]) (st2 := []) hm dX9_isNamed_27 rfl ?_
    refine mx_S.ext [(0, .ref a0), (2, .ref a2), (3, .int a3), (4, .int a4), (5, .int v10), (6, .int 0)] (mx_sub_pos [2, 4, 5, 6, 1, 0] rfl (show ([6, 5, 0, 1, 2, 3, 4] : List Nat).Nodup by decide)) ?_
    exact w_X9_isNamed_29_ok X hF hL nn nn a0 a2 a3 a4 v10 0 h _ hf
  · refine sb_ic_eq hm dX9_isNamed_21 (tgt := 26) rfl (fun z => absurd z c15) (fun _ => ?_)
    refine sx_ic (v := 0) hm dX9_isNamed_24 (by decide) ?_
    cases hf
    exact sx_ire hm dX9_isNamed_25 rfl (by decide)
set_option maxHeartbeats 4000000 in
set_option maxRecDepth 20000 in
theorem j_X9_nameOf_79_ok (X : Nat × (Nat → Int32)) {F L : Nat} (hF : 2 ≤ F) (hL : 60 ≤ L) (nn : Nat) (l0 : Nat) (l1 : Nat) (l2 : Int32) (l3 : Int32) (h : mx_H) {r : (Int32 × mx_H)} (hf : j_X9_nameOf_79 nn l0 l1 l2 l3 h = some r) : mx_S X F L 261 79 [(0, .ref l0), (1, .ref l1), (2, .int l2), (3, .int l3)] [] h 0 0 (some (.int r.1), r.2, 0, 0) := by
  have hm : mx_mt 261 = some (yX9_nameOf, cX9_nameOf, 6, (some .int)) := mt_X9_nameOf
  unfold j_X9_nameOf_79 at hf
  refine mx_S.pu (pc2 := 80) (lv2 := [(0, .ref l0), (1, .ref l1), (2, .int l2), (3, .int l3)]) (st2 := [.ref l0]) hm dX9_nameOf_79 rfl ?_
  replace hf := mx_sv_el hf; obtain ⟨v1, e_v1, hf⟩ := hf
  refine sx_get hm dX9_nameOf_80 rs_RX9_29 (xgr_el e_v1) ?_
  clear e_v1
  refine mx_S.pu (pc2 := 84) (lv2 := [(0, .ref l0), (1, .ref l1), (2, .int l2), (3, .int l3)]) (st2 := [.ref l0, .ref v1]) hm dX9_nameOf_83 rfl ?_
  replace hf := mx_sv_el hf; obtain ⟨v2, e_v2, hf⟩ := hf
  refine sx_get hm dX9_nameOf_84 rs_RX9_73 (xgi_el e_v2) ?_
  clear e_v2
  replace hf := mx_sv_el hf; obtain ⟨v3, e_v3, hf⟩ := hf
  refine sx_ald hm dX9_nameOf_87 e_v3 ?_
  clear e_v3
  refine mx_S.pu (pc2 := 90) (lv2 := [(5, .int v3), (0, .ref l0), (1, .ref l1), (2, .int l2), (3, .int l3)]) (st2 := []) hm dX9_nameOf_88 rfl ?_
  refine mx_S.pu (pc2 := 91) (lv2 := [(5, .int v3), (0, .ref l0), (1, .ref l1), (2, .int l2), (3, .int l3)]) (st2 := [.ref l0]) hm dX9_nameOf_90 rfl ?_
  replace hf := mx_sv_el hf; obtain ⟨v4, e_v4, hf⟩ := hf
  refine sx_get hm dX9_nameOf_91 rs_RX9_73 (xgi_el e_v4) ?_
  clear e_v4
  refine sx_si (v := 1740) hm dX9_nameOf_94 (by decide) ?_
  rcases mx_if_el hf with ⟨c16, hf⟩ | ⟨c16, hf⟩
  · refine sb_ic_ge hm dX9_nameOf_97 (tgt := 112) rfl (fun _ => ?_) (fun z => absurd c16 z)
    refine sx_ic (v := 0) hm dX9_nameOf_112 (by decide) ?_
    cases hf
    exact sx_ire hm dX9_nameOf_113 rfl rfl
  · refine sb_ic_ge hm dX9_nameOf_97 (tgt := 112) rfl (fun z => absurd z c16) (fun _ => ?_)
    refine mx_S.pu (pc2 := 102) (lv2 := [(5, .int v3), (0, .ref l0), (1, .ref l1), (2, .int l2), (3, .int l3)]) (st2 := [.int v3]) hm dX9_nameOf_100 rfl ?_
    refine mx_S.pu (pc2 := 103) (lv2 := [(5, .int v3), (0, .ref l0), (1, .ref l1), (2, .int l2), (3, .int l3)]) (st2 := [.int l3, .int v3]) hm dX9_nameOf_102 rfl ?_
    replace hf := xl_el hf; obtain ⟨v5, e_v5, hf⟩ := hf
    refine mx_S.pu (pc2 := 104) (lv2 := [(5, .int v3), (0, .ref l0), (1, .ref l1), (2, .int l2), (3, .int l3)]) (st2 := [.int v5]) hm dX9_nameOf_103 (by rw [← e_v5]; rfl) ?_
    clear e_v5
    refine mx_S.pu (pc2 := 105) (lv2 := [(5, .int v3), (0, .ref l0), (1, .ref l1), (2, .int l2), (3, .int l3)]) (st2 := [.ref l0, .int v5]) hm dX9_nameOf_104 rfl ?_
    replace hf := mx_sv_el hf; obtain ⟨v6, e_v6, hf⟩ := hf
    refine sx_get hm dX9_nameOf_105 rs_RX9_25 (xgr_el e_v6) ?_
    clear e_v6
    replace hf := mx_sv_el hf; obtain ⟨v7, e_v7, hf⟩ := hf
    refine sx_len hm dX9_nameOf_108 e_v7 ?_
    clear e_v7
    rcases mx_if_el hf with ⟨c15, hf⟩ | ⟨c15, hf⟩
    · refine sb_ic_le hm dX9_nameOf_109 (tgt := 114) rfl (fun _ => ?_) (fun z => absurd c15 z)
      refine mx_S.pu (pc2 := 115) (lv2 := [(5, .int v3), (0, .ref l0), (1, .ref l1), (2, .int l2), (3, .int l3)]) (st2 := [.ref l1]) hm dX9_nameOf_114 rfl ?_
      refine mx_S.pu (pc2 := 116) (lv2 := [(5, .int v3), (0, .ref l0), (1, .ref l1), (2, .int l2), (3, .int l3)]) (st2 := [.int l2, .ref l1]) hm dX9_nameOf_115 rfl ?_
      refine mx_S.pu (pc2 := 117) (lv2 := [(5, .int v3), (0, .ref l0), (1, .ref l1), (2, .int l2), (3, .int l3)]) (st2 := [.ref l0, .int l2, .ref l1]) hm dX9_nameOf_116 rfl ?_
      replace hf := mx_sv_el hf; obtain ⟨v8, e_v8, hf⟩ := hf
      refine sx_get hm dX9_nameOf_117 rs_RX9_25 (xgr_el e_v8) ?_
      clear e_v8
      refine mx_S.pu (pc2 := 122) (lv2 := [(5, .int v3), (0, .ref l0), (1, .ref l1), (2, .int l2), (3, .int l3)]) (st2 := [.int v3, .ref v8, .int l2, .ref l1]) hm dX9_nameOf_120 rfl ?_
      refine mx_S.pu (pc2 := 123) (lv2 := [(5, .int v3), (0, .ref l0), (1, .ref l1), (2, .int l2), (3, .int l3)]) (st2 := [.int l3, .int v3, .ref v8, .int l2, .ref l1]) hm dX9_nameOf_122 rfl ?_
      replace hf := mx_sv_el hf; obtain ⟨h9, e_h9, hf⟩ := hf
      refine sx_copy hm dX9_nameOf_123 rs_RX9_67 e_h9 (by omega) (Nat.le_trans (Nat.le_of_ble_eq_true rfl : _ ≤ 60) (by omega)) ?_
      clear e_h9
      refine mx_S.pu (pc2 := 127) (lv2 := [(5, .int v3), (0, .ref l0), (1, .ref l1), (2, .int l2), (3, .int l3)]) (st2 := [.ref l0]) hm dX9_nameOf_126 rfl ?_
      refine mx_S.pu (pc2 := 129) (lv2 := [(5, .int v3), (0, .ref l0), (1, .ref l1), (2, .int l2), (3, .int l3)]) (st2 := [.int v3, .ref l0]) hm dX9_nameOf_127 rfl ?_
      refine mx_S.pu (pc2 := 130) (lv2 := [(5, .int v3), (0, .ref l0), (1, .ref l1), (2, .int l2), (3, .int l3)]) (st2 := [.int l3, .int v3, .ref l0]) hm dX9_nameOf_129 rfl ?_
      replace hf := xl_el hf; obtain ⟨v10, e_v10, hf⟩ := hf
      refine mx_S.pu (pc2 := 131) (lv2 := [(5, .int v3), (0, .ref l0), (1, .ref l1), (2, .int l2), (3, .int l3)]) (st2 := [.int v10, .ref l0]) hm dX9_nameOf_130 (by rw [← e_v10]; rfl) ?_
      clear e_v10
      replace hf := mx_gd_el hf; obtain ⟨c11, hf⟩ := hf
      replace hf := mx_sv_el hf; obtain ⟨u12, e_u12, hf⟩ := hf
      refine sx_cv hm dX9_nameOf_131 rs_RX9_63 mt_X9_closeName [.int v10] [] (b := l0) (ci := 9) rfl rfl rfl c11 (Nat.le_of_ble_eq_true rfl) (Nat.le_of_ble_eq_true rfl) (by omega) (by omega) (f_X9_closeName_ok X (by omega) (by omega) nn l0 v10 h9 e_u12) ?_
      clear e_u12
      show mx_S X F L 261 134 [(5, .int v3), (0, .ref l0), (1, .ref l1), (2, .int l2), (3, .int l3)] [] u12 0 0 (some (.int r.1), r.2, 0, 0)
      refine mx_S.pu (pc2 := 135) (lv2 := [(5, .int v3), (0, .ref l0), (1, .ref l1), (2, .int l2), (3, .int l3)]) (st2 := [.ref l0]) hm dX9_nameOf_134 rfl ?_
      replace hf := mx_sv_el hf; obtain ⟨v13, e_v13, hf⟩ := hf
      refine sx_get hm dX9_nameOf_135 rs_RX9_73 (xgi_el e_v13) ?_
      clear e_v13
      refine sx_ic (v := 1) hm dX9_nameOf_138 (by decide) ?_
      replace hf := xl_el hf; obtain ⟨v14, e_v14, hf⟩ := hf
      refine mx_S.pu (pc2 := 140) (lv2 := [(5, .int v3), (0, .ref l0), (1, .ref l1), (2, .int l2), (3, .int l3)]) (st2 := [.int v14]) hm dX9_nameOf_139 (by rw [← e_v14]; rfl) ?_
      clear e_v14
      cases hf
      exact sx_ire hm dX9_nameOf_140 rfl rfl
    · refine sb_ic_le hm dX9_nameOf_109 (tgt := 114) rfl (fun z => absurd z c15) (fun _ => ?_)
      refine sx_ic (v := 0) hm dX9_nameOf_112 (by decide) ?_
      cases hf
      exact sx_ire hm dX9_nameOf_113 rfl rfl
set_option maxHeartbeats 4000000 in
set_option maxRecDepth 20000 in
theorem w_X9_nameOf_35_ok (X : Nat × (Nat → Int32)) {F L : Nat} (hF : 2 ≤ F) (hL : 60 ≤ L) (nn : Nat) : ∀ (k : Nat) (l0 : Nat) (l1 : Nat) (l2 : Int32) (l3 : Int32) (l4 : Int32) (l5 : Int32) (h : mx_H) (r : (Int32 × mx_H)), w_X9_nameOf_35 nn k l0 l1 l2 l3 l4 l5 h = some r → mx_S X F L 261 35 [(0, .ref l0), (1, .ref l1), (2, .int l2), (3, .int l3), (4, .int l4), (5, .int l5)] [] h 0 0 (some (.int r.1), r.2, 0, 0) := by
  have hm : mx_mt 261 = some (yX9_nameOf, cX9_nameOf, 6, (some .int)) := mt_X9_nameOf
  intro k
  induction k with
  | zero => intro l0 l1 l2 l3 l4 l5 h r hf; cases hf
  | succ k ih =>
    intro l0 l1 l2 l3 l4 l5 h r hf
    unfold w_X9_nameOf_35 at hf
    refine mx_S.pu (pc2 := 37) (lv2 := [(0, .ref l0), (1, .ref l1), (2, .int l2), (3, .int l3), (4, .int l4), (5, .int l5)]) (st2 := [.int l5]) hm dX9_nameOf_35 rfl ?_
    refine sx_si (v := 1740) hm dX9_nameOf_37 (by decide) ?_
    rcases mx_if_el hf with ⟨c24, hf⟩ | ⟨c24, hf⟩
    · refine sb_ic_ge hm dX9_nameOf_40 (tgt := 79) rfl (fun _ => ?_) (fun z => absurd c24 z)
      refine mx_S.ext [(0, .ref l0), (1, .ref l1), (2, .int l2), (3, .int l3)] (mx_sub_pos [0, 1, 2, 3] rfl (show ([0, 1, 2, 3, 4, 5] : List Nat).Nodup by decide)) ?_
      exact j_X9_nameOf_79_ok X hF hL nn l0 l1 l2 l3 h hf
    · refine sb_ic_ge hm dX9_nameOf_40 (tgt := 79) rfl (fun z => absurd z c24) (fun _ => ?_)
      refine mx_S.pu (pc2 := 45) (lv2 := [(0, .ref l0), (1, .ref l1), (2, .int l2), (3, .int l3), (4, .int l4), (5, .int l5)]) (st2 := [.int l4]) hm dX9_nameOf_43 rfl ?_
      refine sx_ic (v := (-1)) hm dX9_nameOf_45 (by decide) ?_
      rcases mx_if_el hf with ⟨c23, hf⟩ | ⟨c23, hf⟩
      · refine sb_ic_eq hm dX9_nameOf_46 (tgt := 79) rfl (fun _ => ?_) (fun z => absurd c23 z)
        refine mx_S.ext [(0, .ref l0), (1, .ref l1), (2, .int l2), (3, .int l3)] (mx_sub_pos [0, 1, 2, 3] rfl (show ([0, 1, 2, 3, 4, 5] : List Nat).Nodup by decide)) ?_
        exact j_X9_nameOf_79_ok X hF hL nn l0 l1 l2 l3 h hf
      · refine sb_ic_eq hm dX9_nameOf_46 (tgt := 79) rfl (fun z => absurd z c23) (fun _ => ?_)
        refine mx_S.pu (pc2 := 50) (lv2 := [(0, .ref l0), (1, .ref l1), (2, .int l2), (3, .int l3), (4, .int l4), (5, .int l5)]) (st2 := [.ref l0]) hm dX9_nameOf_49 rfl ?_
        refine mx_S.pu (pc2 := 52) (lv2 := [(0, .ref l0), (1, .ref l1), (2, .int l2), (3, .int l3), (4, .int l4), (5, .int l5)]) (st2 := [.int l4, .ref l0]) hm dX9_nameOf_50 rfl ?_
        refine mx_S.pu (pc2 := 53) (lv2 := [(0, .ref l0), (1, .ref l1), (2, .int l2), (3, .int l3), (4, .int l4), (5, .int l5)]) (st2 := [.ref l1, .int l4, .ref l0]) hm dX9_nameOf_52 rfl ?_
        refine mx_S.pu (pc2 := 54) (lv2 := [(0, .ref l0), (1, .ref l1), (2, .int l2), (3, .int l3), (4, .int l4), (5, .int l5)]) (st2 := [.int l2, .ref l1, .int l4, .ref l0]) hm dX9_nameOf_53 rfl ?_
        refine mx_S.pu (pc2 := 55) (lv2 := [(0, .ref l0), (1, .ref l1), (2, .int l2), (3, .int l3), (4, .int l4), (5, .int l5)]) (st2 := [.int l3, .int l2, .ref l1, .int l4, .ref l0]) hm dX9_nameOf_54 rfl ?_
        replace hf := mx_gd_el hf; obtain ⟨c17, hf⟩ := hf
        replace hf := mx_sv_el hf; obtain ⟨u18, e_u18, hf⟩ := hf
        refine sx_cv hm dX9_nameOf_55 rs_RX9_129 mt_X9_isNamed [.int l4, .ref l1, .int l2, .int l3] [] (b := l0) (ci := 9) rfl rfl rfl c17 (Nat.le_of_ble_eq_true rfl) (Nat.le_of_ble_eq_true rfl) (by omega) (by omega) (f_X9_isNamed_ok X (by omega) (by omega) nn l0 l4 l1 l2 l3 h e_u18) ?_
        clear e_u18
        show mx_S X F L 261 58 [(0, .ref l0), (1, .ref l1), (2, .int l2), (3, .int l3), (4, .int l4), (5, .int l5)] [.int u18.1] u18.2 0 0 (some (.int r.1), r.2, 0, 0)
        rcases mx_if_el hf with ⟨c22, hf⟩ | ⟨c22, hf⟩
        · refine sb_if_eq hm dX9_nameOf_58 (tgt := 64) rfl (fun _ => ?_) (fun z => absurd c22 z)
          refine mx_S.pu (pc2 := 65) (lv2 := [(0, .ref l0), (1, .ref l1), (2, .int l2), (3, .int l3), (4, .int l4), (5, .int l5)]) (st2 := [.ref l0]) hm dX9_nameOf_64 rfl ?_
          replace hf := mx_sv_el hf; obtain ⟨v19, e_v19, hf⟩ := hf
          refine sx_get hm dX9_nameOf_65 rs_RX9_32 (xgr_el e_v19) ?_
          clear e_v19
          refine mx_S.pu (pc2 := 70) (lv2 := [(0, .ref l0), (1, .ref l1), (2, .int l2), (3, .int l3), (4, .int l4), (5, .int l5)]) (st2 := [.int l4, .ref v19]) hm dX9_nameOf_68 rfl ?_
          replace hf := mx_sv_el hf; obtain ⟨v20, e_v20, hf⟩ := hf
          refine sx_ald hm dX9_nameOf_70 e_v20 ?_
          clear e_v20
          refine mx_S.pu (pc2 := 73) (lv2 := [(4, .int v20), (0, .ref l0), (1, .ref l1), (2, .int l2), (3, .int l3), (5, .int l5)]) (st2 := []) hm dX9_nameOf_71 rfl ?_
          replace hf := xl_el hf; obtain ⟨v21, e_v21, hf⟩ := hf
          refine mx_S.pu (pc2 := 76) (lv2 := [(5, .int v21), (4, .int v20), (0, .ref l0), (1, .ref l1), (2, .int l2), (3, .int l3)]) (st2 := []) hm dX9_nameOf_73 (by rw [← e_v21]; rfl) ?_
          clear e_v21
          refine mx_S.pu (pc2 := 35) (lv2 := [(5, .int v21), (4, .int v20), (0, .ref l0), (1, .ref l1), (2, .int l2), (3, .int l3)]) (st2 := []) hm dX9_nameOf_76 rfl ?_
          refine mx_S.ext [(0, .ref l0), (1, .ref l1), (2, .int l2), (3, .int l3), (4, .int v20), (5, .int v21)] (mx_sub_pos [2, 3, 4, 5, 1, 0] rfl (show ([5, 4, 0, 1, 2, 3] : List Nat).Nodup by decide)) ?_
          exact ih l0 l1 l2 l3 v20 v21 u18.2 _ hf
        · refine sb_if_eq hm dX9_nameOf_58 (tgt := 64) rfl (fun z => absurd z c22) (fun _ => ?_)
          refine mx_S.pu (pc2 := 63) (lv2 := [(0, .ref l0), (1, .ref l1), (2, .int l2), (3, .int l3), (4, .int l4), (5, .int l5)]) (st2 := [.int l4]) hm dX9_nameOf_61 rfl ?_
          cases hf
          exact sx_ire hm dX9_nameOf_63 rfl rfl
set_option maxHeartbeats 4000000 in
set_option maxRecDepth 20000 in
theorem f_X9_nameOf_ok (X : Nat × (Nat → Int32)) {F L : Nat} (hF : 2 ≤ F) (hL : 60 ≤ L) (nn : Nat) (a0 : Nat) (a1 : Nat) (a2 : Int32) (a3 : Int32) (h : mx_H) {r : (Int32 × mx_H)} (hf : f_X9_nameOf nn a0 a1 a2 a3 h = some r) : mx_R X F L 261 [.ref a0, .ref a1, .int a2, .int a3] h (some (.int r.1), r.2, 0, 0) := by
  have hm : mx_mt 261 = some (yX9_nameOf, cX9_nameOf, 6, (some .int)) := mt_X9_nameOf
  show mx_S X F L 261 0 [(0, .ref a0), (1, .ref a1), (2, .int a2), (3, .int a3)] [] h 0 0 (some (.int r.1), r.2, 0, 0)
  unfold f_X9_nameOf at hf
  refine mx_S.pu (pc2 := 1) (lv2 := [(0, .ref a0), (1, .ref a1), (2, .int a2), (3, .int a3)]) (st2 := [.int a3]) hm dX9_nameOf_0 rfl ?_
  refine sx_ic (v := 1) hm dX9_nameOf_1 (by decide) ?_
  rcases mx_if_el hf with ⟨c32, hf⟩ | ⟨c32, hf⟩
  · refine sb_ic_lt hm dX9_nameOf_2 (tgt := 17) rfl (fun _ => ?_) (fun z => absurd c32 z)
    refine sx_ic (v := 0) hm dX9_nameOf_17 (by decide) ?_
    cases hf
    exact sx_ire hm dX9_nameOf_18 rfl rfl
  · refine sb_ic_lt hm dX9_nameOf_2 (tgt := 17) rfl (fun z => absurd z c32) (fun _ => ?_)
    refine mx_S.pu (pc2 := 6) (lv2 := [(0, .ref a0), (1, .ref a1), (2, .int a2), (3, .int a3)]) (st2 := [.int a2]) hm dX9_nameOf_5 rfl ?_
    rcases mx_if_el hf with ⟨c31, hf⟩ | ⟨c31, hf⟩
    · refine sb_if_lt hm dX9_nameOf_6 (tgt := 17) rfl (fun _ => ?_) (fun z => absurd c31 z)
      refine sx_ic (v := 0) hm dX9_nameOf_17 (by decide) ?_
      cases hf
      exact sx_ire hm dX9_nameOf_18 rfl rfl
    · refine sb_if_lt hm dX9_nameOf_6 (tgt := 17) rfl (fun z => absurd z c31) (fun _ => ?_)
      refine mx_S.pu (pc2 := 10) (lv2 := [(0, .ref a0), (1, .ref a1), (2, .int a2), (3, .int a3)]) (st2 := [.int a2]) hm dX9_nameOf_9 rfl ?_
      refine mx_S.pu (pc2 := 11) (lv2 := [(0, .ref a0), (1, .ref a1), (2, .int a2), (3, .int a3)]) (st2 := [.int a3, .int a2]) hm dX9_nameOf_10 rfl ?_
      replace hf := xl_el hf; obtain ⟨v25, e_v25, hf⟩ := hf
      refine mx_S.pu (pc2 := 12) (lv2 := [(0, .ref a0), (1, .ref a1), (2, .int a2), (3, .int a3)]) (st2 := [.int v25]) hm dX9_nameOf_11 (by rw [← e_v25]; rfl) ?_
      clear e_v25
      refine mx_S.pu (pc2 := 13) (lv2 := [(0, .ref a0), (1, .ref a1), (2, .int a2), (3, .int a3)]) (st2 := [.ref a1, .int v25]) hm dX9_nameOf_12 rfl ?_
      replace hf := mx_sv_el hf; obtain ⟨v26, e_v26, hf⟩ := hf
      refine sx_len hm dX9_nameOf_13 e_v26 ?_
      clear e_v26
      rcases mx_if_el hf with ⟨c30, hf⟩ | ⟨c30, hf⟩
      · refine sb_ic_le hm dX9_nameOf_14 (tgt := 19) rfl (fun _ => ?_) (fun z => absurd c30 z)
        refine mx_S.pu (pc2 := 20) (lv2 := [(0, .ref a0), (1, .ref a1), (2, .int a2), (3, .int a3)]) (st2 := [.ref a0]) hm dX9_nameOf_19 rfl ?_
        replace hf := mx_sv_el hf; obtain ⟨v27, e_v27, hf⟩ := hf
        refine sx_get hm dX9_nameOf_20 rs_RX9_35 (xgr_el e_v27) ?_
        clear e_v27
        refine mx_S.pu (pc2 := 24) (lv2 := [(0, .ref a0), (1, .ref a1), (2, .int a2), (3, .int a3)]) (st2 := [.ref a1, .ref v27]) hm dX9_nameOf_23 rfl ?_
        refine mx_S.pu (pc2 := 25) (lv2 := [(0, .ref a0), (1, .ref a1), (2, .int a2), (3, .int a3)]) (st2 := [.int a2, .ref a1, .ref v27]) hm dX9_nameOf_24 rfl ?_
        refine mx_S.pu (pc2 := 26) (lv2 := [(0, .ref a0), (1, .ref a1), (2, .int a2), (3, .int a3)]) (st2 := [.int a3, .int a2, .ref a1, .ref v27]) hm dX9_nameOf_25 rfl ?_
        replace hf := mx_sv_el hf; obtain ⟨u28, e_u28, hf⟩ := hf
        refine sx_cs hm dX9_nameOf_26 rs_RX9_76 mt_X9_bucketOf [.ref a1, .int a2, .int a3] [.ref v27] rfl rfl (Nat.le_of_ble_eq_true rfl) (Nat.le_of_ble_eq_true rfl) (by omega) (by omega) (f_X9_bucketOf_ok X (by omega) (by omega) nn a1 a2 a3 h e_u28) ?_
        clear e_u28
        show mx_S X F L 261 29 [(0, .ref a0), (1, .ref a1), (2, .int a2), (3, .int a3)] [.int u28.1, .ref v27] u28.2 0 0 (some (.int r.1), r.2, 0, 0)
        replace hf := mx_sv_el hf; obtain ⟨v29, e_v29, hf⟩ := hf
        refine sx_ald hm dX9_nameOf_29 e_v29 ?_
        clear e_v29
        refine mx_S.pu (pc2 := 32) (lv2 := [(4, .int v29), (0, .ref a0), (1, .ref a1), (2, .int a2), (3, .int a3)]) (st2 := []) hm dX9_nameOf_30 rfl ?_
        refine sx_ic (v := 0) hm dX9_nameOf_32 (by decide) ?_
        refine mx_S.pu (pc2 := 35) (lv2 := [(5, .int 0), (4, .int v29), (0, .ref a0), (1, .ref a1), (2, .int a2), (3, .int a3)]) (st2 := []) hm dX9_nameOf_33 rfl ?_
        refine mx_S.ext [(0, .ref a0), (1, .ref a1), (2, .int a2), (3, .int a3), (4, .int v29), (5, .int 0)] (mx_sub_pos [2, 3, 4, 5, 1, 0] rfl (show ([5, 4, 0, 1, 2, 3] : List Nat).Nodup by decide)) ?_
        exact w_X9_nameOf_35_ok X hF hL nn nn a0 a1 a2 a3 v29 0 u28.2 _ hf
      · refine sb_ic_le hm dX9_nameOf_14 (tgt := 19) rfl (fun z => absurd z c30) (fun _ => ?_)
        refine sx_ic (v := 0) hm dX9_nameOf_17 (by decide) ?_
        cases hf
        exact sx_ire hm dX9_nameOf_18 rfl rfl
set_option maxHeartbeats 4000000 in
set_option maxRecDepth 20000 in
theorem f_X2_nameKind_ok (X : Nat × (Nat → Int32)) {F L : Nat} (hF : 3 ≤ F) (hL : 107 ≤ L) (nn : Nat) (a0 : Nat) (a1 : Int32) (h : mx_H) {r : (Int32 × mx_H)} (hf : f_X2_nameKind nn a0 a1 h = some r) : mx_R X F L 53 [.ref a0, .int a1] h (some (.int r.1), r.2, 0, 0) := by
  have hm : mx_mt 53 = some (yX2_nameKind, cX2_nameKind, 2, (some .int)) := mt_X2_nameKind
  show mx_S X F L 53 0 [(0, .ref a0), (1, .int a1)] [] h 0 0 (some (.int r.1), r.2, 0, 0)
  unfold f_X2_nameKind at hf
  refine mx_S.pu (pc2 := 1) (lv2 := [(0, .ref a0), (1, .int a1)]) (st2 := [.ref a0]) hm dX2_nameKind_0 rfl ?_
  refine sx_ic (v := 0) hm dX2_nameKind_1 (by decide) ?_
  replace hf := mx_sv_el hf; obtain ⟨h1, e_h1, hf⟩ := hf
  refine sx_put hm dX2_nameKind_2 rs_RX2_144 ft_2_20 ⟨rfl, rfl⟩ (fun z => by cases z) e_h1 ?_
  clear e_h1
  refine mx_S.pu (pc2 := 6) (lv2 := [(0, .ref a0), (1, .int a1)]) (st2 := [.ref a0]) hm dX2_nameKind_5 rfl ?_
  refine mx_S.pu (pc2 := 7) (lv2 := [(0, .ref a0), (1, .int a1)]) (st2 := [.int a1, .ref a0]) hm dX2_nameKind_6 rfl ?_
  replace hf := mx_gd_el hf; obtain ⟨c2, hf⟩ := hf
  replace hf := mx_sv_el hf; obtain ⟨u3, e_u3, hf⟩ := hf
  refine sx_cv hm dX2_nameKind_7 rs_RX2_147 mt_X2_addKind [.int a1] [] (b := a0) (ci := 2) rfl rfl rfl c2 (Nat.le_of_ble_eq_true rfl) (Nat.le_of_ble_eq_true rfl) (by omega) (by omega) (f_X2_addKind_ok X (by omega) (by omega) nn a0 a1 h1 e_u3) ?_
  clear e_u3
  show mx_S X F L 53 10 [(0, .ref a0), (1, .int a1)] [] u3 0 0 (some (.int r.1), r.2, 0, 0)
  refine mx_S.pu (pc2 := 11) (lv2 := [(0, .ref a0), (1, .int a1)]) (st2 := [.ref a0]) hm dX2_nameKind_10 rfl ?_
  replace hf := mx_sv_el hf; obtain ⟨v4, e_v4, hf⟩ := hf
  refine sx_get hm dX2_nameKind_11 rs_RX2_74 (xgr_el e_v4) ?_
  clear e_v4
  refine mx_S.pu (pc2 := 15) (lv2 := [(0, .ref a0), (1, .int a1)]) (st2 := [.ref a0, .ref v4]) hm dX2_nameKind_14 rfl ?_
  replace hf := mx_sv_el hf; obtain ⟨v5, e_v5, hf⟩ := hf
  refine sx_get hm dX2_nameKind_15 rs_RX2_70 (xgr_el e_v5) ?_
  clear e_v5
  refine sx_ic (v := 0) hm dX2_nameKind_18 (by decide) ?_
  refine mx_S.pu (pc2 := 20) (lv2 := [(0, .ref a0), (1, .int a1)]) (st2 := [.ref a0, .int 0, .ref v5, .ref v4]) hm dX2_nameKind_19 rfl ?_
  replace hf := mx_sv_el hf; obtain ⟨v6, e_v6, hf⟩ := hf
  refine sx_get hm dX2_nameKind_20 rs_RX2_144 (xgi_el e_v6) ?_
  clear e_v6
  replace hf := mx_gd_el hf; obtain ⟨c7, hf⟩ := hf
  replace hf := mx_sv_el hf; obtain ⟨u8, e_u8, hf⟩ := hf
  refine sx_cv hm dX2_nameKind_23 rs_RX2_150 mt_X9_nameOf [.ref v5, .int 0, .int v6] [] (b := v4) (ci := 9) rfl rfl rfl c7 (Nat.le_of_ble_eq_true rfl) (Nat.le_of_ble_eq_true rfl) (by omega) (by omega) (f_X9_nameOf_ok X (by omega) (by omega) nn v4 v5 0 v6 u3 e_u8) ?_
  clear e_u8
  show mx_S X F L 53 26 [(0, .ref a0), (1, .int a1)] [.int u8.1] u8.2 0 0 (some (.int r.1), r.2, 0, 0)
  cases hf
  exact sx_ire hm dX2_nameKind_26 rfl rfl
set_option maxHeartbeats 4000000 in
set_option maxRecDepth 20000 in
theorem w_X2_nameMethodKind_13_ok (X : Nat × (Nat → Int32)) {F L : Nat} (hF : 3 ≤ F) (hL : 107 ≤ L) (nn : Nat) : ∀ (k : Nat) (l0 : Nat) (l1 : Int32) (l2 : Int32) (h : mx_H) (r : (Int32 × mx_H)), w_X2_nameMethodKind_13 nn k l0 l1 l2 h = some r → mx_S X F L 54 13 [(0, .ref l0), (1, .int l1), (2, .int l2)] [] h 0 0 (some (.int r.1), r.2, 0, 0) := by
  have hm : mx_mt 54 = some (yX2_nameMethodKind, cX2_nameMethodKind, 3, (some .int)) := mt_X2_nameMethodKind
  intro k
  induction k with
  | zero => intro l0 l1 l2 h r hf; cases hf
  | succ k ih =>
    intro l0 l1 l2 h r hf
    unfold w_X2_nameMethodKind_13 at hf
    refine mx_S.pu (pc2 := 14) (lv2 := [(0, .ref l0), (1, .int l1), (2, .int l2)]) (st2 := [.int l2]) hm dX2_nameMethodKind_13 rfl ?_
    refine mx_S.pu (pc2 := 15) (lv2 := [(0, .ref l0), (1, .int l1), (2, .int l2)]) (st2 := [.ref l0, .int l2]) hm dX2_nameMethodKind_14 rfl ?_
    replace hf := mx_sv_el hf; obtain ⟨v1, e_v1, hf⟩ := hf
    refine sx_get hm dX2_nameMethodKind_15 rs_RX2_58 (xgr_el e_v1) ?_
    clear e_v1
    refine mx_S.pu (pc2 := 19) (lv2 := [(0, .ref l0), (1, .int l1), (2, .int l2)]) (st2 := [.int l1, .ref v1, .int l2]) hm dX2_nameMethodKind_18 rfl ?_
    replace hf := mx_sv_el hf; obtain ⟨v2, e_v2, hf⟩ := hf
    refine sx_ald hm dX2_nameMethodKind_19 e_v2 ?_
    clear e_v2
    rcases mx_if_el hf with ⟨c19, hf⟩ | ⟨c19, hf⟩
    · refine sb_ic_ge hm dX2_nameMethodKind_20 (tgt := 39) rfl (fun _ => ?_) (fun z => absurd c19 z)
      refine mx_S.pu (pc2 := 40) (lv2 := [(0, .ref l0), (1, .int l1), (2, .int l2)]) (st2 := [.ref l0]) hm dX2_nameMethodKind_39 rfl ?_
      refine sx_bi (v := 41) hm dX2_nameMethodKind_40 (by decide) ?_
      replace hf := mx_gd_el hf; obtain ⟨c3, hf⟩ := hf
      replace hf := mx_sv_el hf; obtain ⟨u4, e_u4, hf⟩ := hf
      refine sx_cv hm dX2_nameMethodKind_42 rs_RX2_154 mt_X2_addKindByte [.int 41] [] (b := l0) (ci := 2) rfl rfl rfl c3 (Nat.le_of_ble_eq_true rfl) (Nat.le_of_ble_eq_true rfl) (by omega) (by omega) (f_X2_addKindByte_ok X (by omega) (by omega) nn l0 41 h e_u4) ?_
      clear e_u4
      show mx_S X F L 54 45 [(0, .ref l0), (1, .int l1), (2, .int l2)] [] u4 0 0 (some (.int r.1), r.2, 0, 0)
      refine mx_S.pu (pc2 := 46) (lv2 := [(0, .ref l0), (1, .int l1), (2, .int l2)]) (st2 := [.ref l0]) hm dX2_nameMethodKind_45 rfl ?_
      refine mx_S.pu (pc2 := 47) (lv2 := [(0, .ref l0), (1, .int l1), (2, .int l2)]) (st2 := [.ref l0, .ref l0]) hm dX2_nameMethodKind_46 rfl ?_
      replace hf := mx_sv_el hf; obtain ⟨v5, e_v5, hf⟩ := hf
      refine sx_get hm dX2_nameMethodKind_47 rs_RX2_48 (xgr_el e_v5) ?_
      clear e_v5
      refine mx_S.pu (pc2 := 51) (lv2 := [(0, .ref l0), (1, .int l1), (2, .int l2)]) (st2 := [.int l1, .ref v5, .ref l0]) hm dX2_nameMethodKind_50 rfl ?_
      replace hf := mx_sv_el hf; obtain ⟨v6, e_v6, hf⟩ := hf
      refine sx_ald hm dX2_nameMethodKind_51 e_v6 ?_
      clear e_v6
      replace hf := mx_gd_el hf; obtain ⟨c7, hf⟩ := hf
      replace hf := mx_sv_el hf; obtain ⟨u8, e_u8, hf⟩ := hf
      refine sx_cv hm dX2_nameMethodKind_52 rs_RX2_147 mt_X2_addKind [.int v6] [] (b := l0) (ci := 2) rfl rfl rfl c7 (Nat.le_of_ble_eq_true rfl) (Nat.le_of_ble_eq_true rfl) (by omega) (by omega) (f_X2_addKind_ok X (by omega) (by omega) nn l0 v6 u4 e_u8) ?_
      clear e_u8
      show mx_S X F L 54 55 [(0, .ref l0), (1, .int l1), (2, .int l2)] [] u8 0 0 (some (.int r.1), r.2, 0, 0)
      refine mx_S.pu (pc2 := 56) (lv2 := [(0, .ref l0), (1, .int l1), (2, .int l2)]) (st2 := [.ref l0]) hm dX2_nameMethodKind_55 rfl ?_
      replace hf := mx_sv_el hf; obtain ⟨v9, e_v9, hf⟩ := hf
      refine sx_get hm dX2_nameMethodKind_56 rs_RX2_74 (xgr_el e_v9) ?_
      clear e_v9
      refine mx_S.pu (pc2 := 60) (lv2 := [(0, .ref l0), (1, .int l1), (2, .int l2)]) (st2 := [.ref l0, .ref v9]) hm dX2_nameMethodKind_59 rfl ?_
      replace hf := mx_sv_el hf; obtain ⟨v10, e_v10, hf⟩ := hf
      refine sx_get hm dX2_nameMethodKind_60 rs_RX2_70 (xgr_el e_v10) ?_
      clear e_v10
      refine sx_ic (v := 0) hm dX2_nameMethodKind_63 (by decide) ?_
      refine mx_S.pu (pc2 := 65) (lv2 := [(0, .ref l0), (1, .int l1), (2, .int l2)]) (st2 := [.ref l0, .int 0, .ref v10, .ref v9]) hm dX2_nameMethodKind_64 rfl ?_
      replace hf := mx_sv_el hf; obtain ⟨v11, e_v11, hf⟩ := hf
      refine sx_get hm dX2_nameMethodKind_65 rs_RX2_144 (xgi_el e_v11) ?_
      clear e_v11
      replace hf := mx_gd_el hf; obtain ⟨c12, hf⟩ := hf
      replace hf := mx_sv_el hf; obtain ⟨u13, e_u13, hf⟩ := hf
      refine sx_cv hm dX2_nameMethodKind_68 rs_RX2_150 mt_X9_nameOf [.ref v10, .int 0, .int v11] [] (b := v9) (ci := 9) rfl rfl rfl c12 (Nat.le_of_ble_eq_true rfl) (Nat.le_of_ble_eq_true rfl) (by omega) (by omega) (f_X9_nameOf_ok X (by omega) (by omega) nn v9 v10 0 v11 u8 e_u13) ?_
      clear e_u13
      show mx_S X F L 54 71 [(0, .ref l0), (1, .int l1), (2, .int l2)] [.int u13.1] u13.2 0 0 (some (.int r.1), r.2, 0, 0)
      cases hf
      exact sx_ire hm dX2_nameMethodKind_71 rfl rfl
    · refine sb_ic_ge hm dX2_nameMethodKind_20 (tgt := 39) rfl (fun z => absurd z c19) (fun _ => ?_)
      refine mx_S.pu (pc2 := 24) (lv2 := [(0, .ref l0), (1, .int l1), (2, .int l2)]) (st2 := [.ref l0]) hm dX2_nameMethodKind_23 rfl ?_
      refine mx_S.pu (pc2 := 25) (lv2 := [(0, .ref l0), (1, .int l1), (2, .int l2)]) (st2 := [.ref l0, .ref l0]) hm dX2_nameMethodKind_24 rfl ?_
      refine mx_S.pu (pc2 := 26) (lv2 := [(0, .ref l0), (1, .int l1), (2, .int l2)]) (st2 := [.int l1, .ref l0, .ref l0]) hm dX2_nameMethodKind_25 rfl ?_
      refine mx_S.pu (pc2 := 27) (lv2 := [(0, .ref l0), (1, .int l1), (2, .int l2)]) (st2 := [.int l2, .int l1, .ref l0, .ref l0]) hm dX2_nameMethodKind_26 rfl ?_
      replace hf := mx_gd_el hf; obtain ⟨c14, hf⟩ := hf
      replace hf := mx_sv_el hf; obtain ⟨u15, e_u15, hf⟩ := hf
      refine sx_cv hm dX2_nameMethodKind_27 rs_RX2_157 mt_X2_parameterType [.int l1, .int l2] [.ref l0] (b := l0) (ci := 2) rfl rfl rfl c14 (Nat.le_of_ble_eq_true rfl) (Nat.le_of_ble_eq_true rfl) (by omega) (by omega) (f_X2_parameterType_ok X (by omega) (by omega) nn l0 l1 l2 h e_u15) ?_
      clear e_u15
      show mx_S X F L 54 30 [(0, .ref l0), (1, .int l1), (2, .int l2)] [.int u15.1, .ref l0] u15.2 0 0 (some (.int r.1), r.2, 0, 0)
      replace hf := mx_gd_el hf; obtain ⟨c16, hf⟩ := hf
      replace hf := mx_sv_el hf; obtain ⟨u17, e_u17, hf⟩ := hf
      refine sx_cv hm dX2_nameMethodKind_30 rs_RX2_147 mt_X2_addKind [.int u15.1] [] (b := l0) (ci := 2) rfl rfl rfl c16 (Nat.le_of_ble_eq_true rfl) (Nat.le_of_ble_eq_true rfl) (by omega) (by omega) (f_X2_addKind_ok X (by omega) (by omega) nn l0 u15.1 u15.2 e_u17) ?_
      clear e_u17
      show mx_S X F L 54 33 [(0, .ref l0), (1, .int l1), (2, .int l2)] [] u17 0 0 (some (.int r.1), r.2, 0, 0)
      replace hf := xl_el hf; obtain ⟨v18, e_v18, hf⟩ := hf
      refine mx_S.pu (pc2 := 36) (lv2 := [(2, .int v18), (0, .ref l0), (1, .int l1)]) (st2 := []) hm dX2_nameMethodKind_33 (by rw [← e_v18]; rfl) ?_
      clear e_v18
      refine mx_S.pu (pc2 := 13) (lv2 := [(2, .int v18), (0, .ref l0), (1, .int l1)]) (st2 := []) hm dX2_nameMethodKind_36 rfl ?_
      refine mx_S.ext [(0, .ref l0), (1, .int l1), (2, .int v18)] (mx_sub_pos [1, 2, 0] rfl (show ([2, 0, 1] : List Nat).Nodup by decide)) ?_
      exact ih l0 l1 v18 u17 _ hf
set_option maxHeartbeats 4000000 in
set_option maxRecDepth 20000 in
theorem f_X2_nameMethodKind_ok (X : Nat × (Nat → Int32)) {F L : Nat} (hF : 3 ≤ F) (hL : 107 ≤ L) (nn : Nat) (a0 : Nat) (a1 : Int32) (h : mx_H) {r : (Int32 × mx_H)} (hf : f_X2_nameMethodKind nn a0 a1 h = some r) : mx_R X F L 54 [.ref a0, .int a1] h (some (.int r.1), r.2, 0, 0) := by
  have hm : mx_mt 54 = some (yX2_nameMethodKind, cX2_nameMethodKind, 3, (some .int)) := mt_X2_nameMethodKind
  show mx_S X F L 54 0 [(0, .ref a0), (1, .int a1)] [] h 0 0 (some (.int r.1), r.2, 0, 0)
  unfold f_X2_nameMethodKind at hf
  refine mx_S.pu (pc2 := 1) (lv2 := [(0, .ref a0), (1, .int a1)]) (st2 := [.ref a0]) hm dX2_nameMethodKind_0 rfl ?_
  refine sx_ic (v := 0) hm dX2_nameMethodKind_1 (by decide) ?_
  replace hf := mx_sv_el hf; obtain ⟨h20, e_h20, hf⟩ := hf
  refine sx_put hm dX2_nameMethodKind_2 rs_RX2_144 ft_2_20 ⟨rfl, rfl⟩ (fun z => by cases z) e_h20 ?_
  clear e_h20
  refine mx_S.pu (pc2 := 6) (lv2 := [(0, .ref a0), (1, .int a1)]) (st2 := [.ref a0]) hm dX2_nameMethodKind_5 rfl ?_
  refine sx_bi (v := 40) hm dX2_nameMethodKind_6 (by decide) ?_
  replace hf := mx_gd_el hf; obtain ⟨c21, hf⟩ := hf
  replace hf := mx_sv_el hf; obtain ⟨u22, e_u22, hf⟩ := hf
  refine sx_cv hm dX2_nameMethodKind_8 rs_RX2_154 mt_X2_addKindByte [.int 40] [] (b := a0) (ci := 2) rfl rfl rfl c21 (Nat.le_of_ble_eq_true rfl) (Nat.le_of_ble_eq_true rfl) (by omega) (by omega) (f_X2_addKindByte_ok X (by omega) (by omega) nn a0 40 h20 e_u22) ?_
  clear e_u22
  show mx_S X F L 54 11 [(0, .ref a0), (1, .int a1)] [] u22 0 0 (some (.int r.1), r.2, 0, 0)
  refine sx_ic (v := 0) hm dX2_nameMethodKind_11 (by decide) ?_
  refine mx_S.pu (pc2 := 13) (lv2 := [(2, .int 0), (0, .ref a0), (1, .int a1)]) (st2 := []) hm dX2_nameMethodKind_12 rfl ?_
  refine mx_S.ext [(0, .ref a0), (1, .int a1), (2, .int 0)] (mx_sub_pos [1, 2, 0] rfl (show ([2, 0, 1] : List Nat).Nodup by decide)) ?_
  exact w_X2_nameMethodKind_13_ok X hF hL nn nn a0 a1 0 u22 _ hf
set_option maxHeartbeats 4000000 in
set_option maxRecDepth 20000 in
theorem w_X2_nameKinds_144_ok (X : Nat × (Nat → Int32)) {F L : Nat} (hF : 4 ≤ F) (hL : 129 ≤ L) (nn : Nat) : ∀ (k : Nat) (l0 : Nat) (l1 : Int32) (h : mx_H) (r : mx_H), w_X2_nameKinds_144 nn k l0 l1 h = some r → mx_S X F L 52 144 [(0, .ref l0), (1, .int l1)] [] h 0 0 (none, r, 0, 0) := by
  have hm : mx_mt 52 = some (yX2_nameKinds, cX2_nameKinds, 2, none) := mt_X2_nameKinds
  intro k
  induction k with
  | zero => intro l0 l1 h r hf; cases hf
  | succ k ih =>
    intro l0 l1 h r hf
    unfold w_X2_nameKinds_144 at hf
    refine mx_S.pu (pc2 := 145) (lv2 := [(0, .ref l0), (1, .int l1)]) (st2 := [.int l1]) hm dX2_nameKinds_144 rfl ?_
    refine mx_S.pu (pc2 := 146) (lv2 := [(0, .ref l0), (1, .int l1)]) (st2 := [.ref l0, .int l1]) hm dX2_nameKinds_145 rfl ?_
    replace hf := mx_sv_el hf; obtain ⟨v1, e_v1, hf⟩ := hf
    refine sx_get hm dX2_nameKinds_146 rs_RX2_42 (xgr_el e_v1) ?_
    clear e_v1
    replace hf := mx_sv_el hf; obtain ⟨v2, e_v2, hf⟩ := hf
    refine sx_len hm dX2_nameKinds_149 e_v2 ?_
    clear e_v2
    rcases mx_if_el hf with ⟨c15, hf⟩ | ⟨c15, hf⟩
    · refine sb_ic_ge hm dX2_nameKinds_150 (tgt := 188) rfl (fun _ => ?_) (fun z => absurd c15 z)
      cases hf
      exact sx_ret hm dX2_nameKinds_188 rfl
    · refine sb_ic_ge hm dX2_nameKinds_150 (tgt := 188) rfl (fun z => absurd z c15) (fun _ => ?_)
      refine mx_S.pu (pc2 := 154) (lv2 := [(0, .ref l0), (1, .int l1)]) (st2 := [.ref l0]) hm dX2_nameKinds_153 rfl ?_
      replace hf := mx_sv_el hf; obtain ⟨v3, e_v3, hf⟩ := hf
      refine sx_get hm dX2_nameKinds_154 rs_RX2_74 (xgr_el e_v3) ?_
      clear e_v3
      replace hf := mx_sv_el hf; obtain ⟨v4, e_v4, hf⟩ := hf
      refine sx_get hm dX2_nameKinds_157 rs_RX2_91 (xgi_el e_v4) ?_
      clear e_v4
      rcases mx_if_el hf with ⟨c14, hf⟩ | ⟨c14, hf⟩
      · refine sb_if_ne hm dX2_nameKinds_160 (tgt := 188) rfl (fun _ => ?_) (fun z => absurd c14 z)
        cases hf
        exact sx_ret hm dX2_nameKinds_188 rfl
      · refine sb_if_ne hm dX2_nameKinds_160 (tgt := 188) rfl (fun z => absurd z c14) (fun _ => ?_)
        refine mx_S.pu (pc2 := 164) (lv2 := [(0, .ref l0), (1, .int l1)]) (st2 := [.ref l0]) hm dX2_nameKinds_163 rfl ?_
        refine mx_S.pu (pc2 := 165) (lv2 := [(0, .ref l0), (1, .int l1)]) (st2 := [.int l1, .ref l0]) hm dX2_nameKinds_164 rfl ?_
        replace hf := mx_gd_el hf; obtain ⟨c5, hf⟩ := hf
        replace hf := mx_sv_el hf; obtain ⟨u6, e_u6, hf⟩ := hf
        refine sx_cv hm dX2_nameKinds_165 rs_RX2_128 mt_X2_isMethod [.int l1] [] (b := l0) (ci := 2) rfl rfl rfl c5 (Nat.le_of_ble_eq_true rfl) (Nat.le_of_ble_eq_true rfl) (by omega) (by omega) (f_X2_isMethod_ok X (by omega) (by omega) nn l0 l1 h e_u6) ?_
        clear e_u6
        show mx_S X F L 52 168 [(0, .ref l0), (1, .int l1)] [.int u6.1] u6.2 0 0 (none, r, 0, 0)
        rcases mx_if_el hf with ⟨c13, hf⟩ | ⟨c13, hf⟩
        · refine sb_if_eq hm dX2_nameKinds_168 (tgt := 182) rfl (fun _ => ?_) (fun z => absurd c13 z)
          replace hf := xl_el hf; obtain ⟨v7, e_v7, hf⟩ := hf
          refine mx_S.pu (pc2 := 185) (lv2 := [(1, .int v7), (0, .ref l0)]) (st2 := []) hm dX2_nameKinds_182 (by rw [← e_v7]; rfl) ?_
          clear e_v7
          refine mx_S.pu (pc2 := 144) (lv2 := [(1, .int v7), (0, .ref l0)]) (st2 := []) hm dX2_nameKinds_185 rfl ?_
          refine mx_S.ext [(0, .ref l0), (1, .int v7)] (mx_sub_pos [1, 0] rfl (show ([1, 0] : List Nat).Nodup by decide)) ?_
          exact ih l0 v7 u6.2 _ hf
        · refine sb_if_eq hm dX2_nameKinds_168 (tgt := 182) rfl (fun z => absurd z c13) (fun _ => ?_)
          refine mx_S.pu (pc2 := 172) (lv2 := [(0, .ref l0), (1, .int l1)]) (st2 := [.ref l0]) hm dX2_nameKinds_171 rfl ?_
          replace hf := mx_sv_el hf; obtain ⟨v8, e_v8, hf⟩ := hf
          refine sx_get hm dX2_nameKinds_172 rs_RX2_55 (xgr_el e_v8) ?_
          clear e_v8
          refine mx_S.pu (pc2 := 176) (lv2 := [(0, .ref l0), (1, .int l1)]) (st2 := [.int l1, .ref v8]) hm dX2_nameKinds_175 rfl ?_
          refine mx_S.pu (pc2 := 177) (lv2 := [(0, .ref l0), (1, .int l1)]) (st2 := [.ref l0, .int l1, .ref v8]) hm dX2_nameKinds_176 rfl ?_
          refine mx_S.pu (pc2 := 178) (lv2 := [(0, .ref l0), (1, .int l1)]) (st2 := [.int l1, .ref l0, .int l1, .ref v8]) hm dX2_nameKinds_177 rfl ?_
          replace hf := mx_gd_el hf; obtain ⟨c9, hf⟩ := hf
          replace hf := mx_sv_el hf; obtain ⟨u10, e_u10, hf⟩ := hf
          refine sx_cv hm dX2_nameKinds_178 rs_RX2_141 mt_X2_nameMethodKind [.int l1] [.int l1, .ref v8] (b := l0) (ci := 2) rfl rfl rfl c9 (Nat.le_of_ble_eq_true rfl) (Nat.le_of_ble_eq_true rfl) (by omega) (by omega) (f_X2_nameMethodKind_ok X (by omega) (by omega) nn l0 l1 u6.2 e_u10) ?_
          clear e_u10
          show mx_S X F L 52 181 [(0, .ref l0), (1, .int l1)] [.int u10.1, .int l1, .ref v8] u10.2 0 0 (none, r, 0, 0)
          replace hf := mx_sv_el hf; obtain ⟨h11, e_h11, hf⟩ := hf
          refine sx_ast hm dX2_nameKinds_181 e_h11 ?_
          clear e_h11
          replace hf := xl_el hf; obtain ⟨v12, e_v12, hf⟩ := hf
          refine mx_S.pu (pc2 := 185) (lv2 := [(1, .int v12), (0, .ref l0)]) (st2 := []) hm dX2_nameKinds_182 (by rw [← e_v12]; rfl) ?_
          clear e_v12
          refine mx_S.pu (pc2 := 144) (lv2 := [(1, .int v12), (0, .ref l0)]) (st2 := []) hm dX2_nameKinds_185 rfl ?_
          refine mx_S.ext [(0, .ref l0), (1, .int v12)] (mx_sub_pos [1, 0] rfl (show ([1, 0] : List Nat).Nodup by decide)) ?_
          exact ih l0 v12 h11 _ hf
set_option maxHeartbeats 4000000 in
set_option maxRecDepth 20000 in
theorem w_X2_nameKinds_85_ok (X : Nat × (Nat → Int32)) {F L : Nat} (hF : 4 ≤ F) (hL : 129 ≤ L) (nn : Nat) : ∀ (k : Nat) (l0 : Nat) (l1 : Int32) (h : mx_H) (r : mx_H), w_X2_nameKinds_85 nn k l0 l1 h = some r → mx_S X F L 52 85 [(0, .ref l0), (1, .int l1)] [] h 0 0 (none, r, 0, 0) := by
  have hm : mx_mt 52 = some (yX2_nameKinds, cX2_nameKinds, 2, none) := mt_X2_nameKinds
  intro k
  induction k with
  | zero => intro l0 l1 h r hf; cases hf
  | succ k ih =>
    intro l0 l1 h r hf
    unfold w_X2_nameKinds_85 at hf
    refine mx_S.pu (pc2 := 86) (lv2 := [(0, .ref l0), (1, .int l1)]) (st2 := [.int l1]) hm dX2_nameKinds_85 rfl ?_
    refine mx_S.pu (pc2 := 87) (lv2 := [(0, .ref l0), (1, .int l1)]) (st2 := [.ref l0, .int l1]) hm dX2_nameKinds_86 rfl ?_
    replace hf := mx_sv_el hf; obtain ⟨v16, e_v16, hf⟩ := hf
    refine sx_get hm dX2_nameKinds_87 rs_RX2_30 (xgr_el e_v16) ?_
    clear e_v16
    replace hf := mx_sv_el hf; obtain ⟨v17, e_v17, hf⟩ := hf
    refine sx_len hm dX2_nameKinds_90 e_v17 ?_
    clear e_v17
    rcases mx_if_el hf with ⟨c34, hf⟩ | ⟨c34, hf⟩
    · refine sb_ic_ge hm dX2_nameKinds_91 (tgt := 142) rfl (fun _ => ?_) (fun z => absurd c34 z)
      refine sx_ic (v := 0) hm dX2_nameKinds_142 (by decide) ?_
      refine mx_S.pu (pc2 := 144) (lv2 := [(1, .int 0), (0, .ref l0)]) (st2 := []) hm dX2_nameKinds_143 rfl ?_
      refine mx_S.ext [(0, .ref l0), (1, .int 0)] (mx_sub_pos [1, 0] rfl (show ([1, 0] : List Nat).Nodup by decide)) ?_
      exact w_X2_nameKinds_144_ok X hF hL nn nn l0 0 h _ hf
    · refine sb_ic_ge hm dX2_nameKinds_91 (tgt := 142) rfl (fun z => absurd z c34) (fun _ => ?_)
      refine mx_S.pu (pc2 := 95) (lv2 := [(0, .ref l0), (1, .int l1)]) (st2 := [.ref l0]) hm dX2_nameKinds_94 rfl ?_
      replace hf := mx_sv_el hf; obtain ⟨v18, e_v18, hf⟩ := hf
      refine sx_get hm dX2_nameKinds_95 rs_RX2_74 (xgr_el e_v18) ?_
      clear e_v18
      replace hf := mx_sv_el hf; obtain ⟨v19, e_v19, hf⟩ := hf
      refine sx_get hm dX2_nameKinds_98 rs_RX2_91 (xgi_el e_v19) ?_
      clear e_v19
      rcases mx_if_el hf with ⟨c33, hf⟩ | ⟨c33, hf⟩
      · refine sb_if_ne hm dX2_nameKinds_101 (tgt := 142) rfl (fun _ => ?_) (fun z => absurd c33 z)
        refine sx_ic (v := 0) hm dX2_nameKinds_142 (by decide) ?_
        refine mx_S.pu (pc2 := 144) (lv2 := [(1, .int 0), (0, .ref l0)]) (st2 := []) hm dX2_nameKinds_143 rfl ?_
        refine mx_S.ext [(0, .ref l0), (1, .int 0)] (mx_sub_pos [1, 0] rfl (show ([1, 0] : List Nat).Nodup by decide)) ?_
        exact w_X2_nameKinds_144_ok X hF hL nn nn l0 0 h _ hf
      · refine sb_if_ne hm dX2_nameKinds_101 (tgt := 142) rfl (fun z => absurd z c33) (fun _ => ?_)
        refine mx_S.pu (pc2 := 105) (lv2 := [(0, .ref l0), (1, .int l1)]) (st2 := [.int l1]) hm dX2_nameKinds_104 rfl ?_
        refine sx_bi (v := 12) hm dX2_nameKinds_105 (by decide) ?_
        replace hf := xl_el hf; obtain ⟨v20, e_v20, hf⟩ := hf
        refine sx_irem (v := v20) hm dX2_nameKinds_107 (by decide) e_v20 ?_
        clear e_v20
        refine mx_S.pu (pc2 := 109) (lv2 := [(0, .ref l0), (1, .int l1)]) (st2 := [.ref l0, .int v20]) hm dX2_nameKinds_108 rfl ?_
        replace hf := mx_sv_el hf; obtain ⟨v21, e_v21, hf⟩ := hf
        refine sx_get hm dX2_nameKinds_109 rs_RX2_27 (xgr_el e_v21) ?_
        clear e_v21
        refine mx_S.pu (pc2 := 113) (lv2 := [(0, .ref l0), (1, .int l1)]) (st2 := [.int l1, .ref v21, .int v20]) hm dX2_nameKinds_112 rfl ?_
        refine sx_bi (v := 12) hm dX2_nameKinds_113 (by decide) ?_
        replace hf := xl_el hf; obtain ⟨v22, e_v22, hf⟩ := hf
        refine sx_idiv (v := v22) hm dX2_nameKinds_115 (by decide) e_v22 ?_
        clear e_v22
        replace hf := mx_sv_el hf; obtain ⟨v23, e_v23, hf⟩ := hf
        refine sx_ald hm dX2_nameKinds_116 e_v23 ?_
        clear e_v23
        rcases mx_if_el hf with ⟨c32, hf⟩ | ⟨c32, hf⟩
        · refine sb_ic_ge hm dX2_nameKinds_117 (tgt := 136) rfl (fun _ => ?_) (fun z => absurd c32 z)
          replace hf := xl_el hf; obtain ⟨v24, e_v24, hf⟩ := hf
          refine mx_S.pu (pc2 := 139) (lv2 := [(1, .int v24), (0, .ref l0)]) (st2 := []) hm dX2_nameKinds_136 (by rw [← e_v24]; rfl) ?_
          clear e_v24
          refine mx_S.pu (pc2 := 85) (lv2 := [(1, .int v24), (0, .ref l0)]) (st2 := []) hm dX2_nameKinds_139 rfl ?_
          refine mx_S.ext [(0, .ref l0), (1, .int v24)] (mx_sub_pos [1, 0] rfl (show ([1, 0] : List Nat).Nodup by decide)) ?_
          exact ih l0 v24 h _ hf
        · refine sb_ic_ge hm dX2_nameKinds_117 (tgt := 136) rfl (fun z => absurd z c32) (fun _ => ?_)
          refine mx_S.pu (pc2 := 121) (lv2 := [(0, .ref l0), (1, .int l1)]) (st2 := [.ref l0]) hm dX2_nameKinds_120 rfl ?_
          replace hf := mx_sv_el hf; obtain ⟨v25, e_v25, hf⟩ := hf
          refine sx_get hm dX2_nameKinds_121 rs_RX2_36 (xgr_el e_v25) ?_
          clear e_v25
          refine mx_S.pu (pc2 := 125) (lv2 := [(0, .ref l0), (1, .int l1)]) (st2 := [.int l1, .ref v25]) hm dX2_nameKinds_124 rfl ?_
          refine mx_S.pu (pc2 := 126) (lv2 := [(0, .ref l0), (1, .int l1)]) (st2 := [.ref l0, .int l1, .ref v25]) hm dX2_nameKinds_125 rfl ?_
          refine mx_S.pu (pc2 := 127) (lv2 := [(0, .ref l0), (1, .int l1)]) (st2 := [.ref l0, .ref l0, .int l1, .ref v25]) hm dX2_nameKinds_126 rfl ?_
          replace hf := mx_sv_el hf; obtain ⟨v26, e_v26, hf⟩ := hf
          refine sx_get hm dX2_nameKinds_127 rs_RX2_33 (xgr_el e_v26) ?_
          clear e_v26
          refine mx_S.pu (pc2 := 131) (lv2 := [(0, .ref l0), (1, .int l1)]) (st2 := [.int l1, .ref v26, .ref l0, .int l1, .ref v25]) hm dX2_nameKinds_130 rfl ?_
          replace hf := mx_sv_el hf; obtain ⟨v27, e_v27, hf⟩ := hf
          refine sx_ald hm dX2_nameKinds_131 e_v27 ?_
          clear e_v27
          replace hf := mx_gd_el hf; obtain ⟨c28, hf⟩ := hf
          replace hf := mx_sv_el hf; obtain ⟨u29, e_u29, hf⟩ := hf
          refine sx_cv hm dX2_nameKinds_132 rs_RX2_138 mt_X2_nameKind [.int v27] [.int l1, .ref v25] (b := l0) (ci := 2) rfl rfl rfl c28 (Nat.le_of_ble_eq_true rfl) (Nat.le_of_ble_eq_true rfl) (by omega) (by omega) (f_X2_nameKind_ok X (by omega) (by omega) nn l0 v27 h e_u29) ?_
          clear e_u29
          show mx_S X F L 52 135 [(0, .ref l0), (1, .int l1)] [.int u29.1, .int l1, .ref v25] u29.2 0 0 (none, r, 0, 0)
          replace hf := mx_sv_el hf; obtain ⟨h30, e_h30, hf⟩ := hf
          refine sx_ast hm dX2_nameKinds_135 e_h30 ?_
          clear e_h30
          replace hf := xl_el hf; obtain ⟨v31, e_v31, hf⟩ := hf
          refine mx_S.pu (pc2 := 139) (lv2 := [(1, .int v31), (0, .ref l0)]) (st2 := []) hm dX2_nameKinds_136 (by rw [← e_v31]; rfl) ?_
          clear e_v31
          refine mx_S.pu (pc2 := 85) (lv2 := [(1, .int v31), (0, .ref l0)]) (st2 := []) hm dX2_nameKinds_139 rfl ?_
          refine mx_S.ext [(0, .ref l0), (1, .int v31)] (mx_sub_pos [1, 0] rfl (show ([1, 0] : List Nat).Nodup by decide)) ?_
          exact ih l0 v31 h30 _ hf
set_option maxHeartbeats 4000000 in
set_option maxRecDepth 20000 in
theorem j_X2_nameKinds_59_ok (X : Nat × (Nat → Int32)) {F L : Nat} (hF : 4 ≤ F) (hL : 129 ≤ L) (nn : Nat) {kk_2 : Nat → Int32 → mx_H → Option mx_H} (hk_2 : ∀ (l0 : Nat) (l1 : Int32) (h : mx_H) (r : mx_H), kk_2 l0 l1 h = some r → mx_S X F L 52 2 [(0, .ref l0), (1, .int l1)] [] h 0 0 (none, r, 0, 0)) (l0 : Nat) (l1 : Int32) (s0 : Int32) (s1 : Int32) (s2 : Nat) (h : mx_H) {r : mx_H} (hf : j_X2_nameKinds_59 nn kk_2 l0 l1 s0 s1 s2 h = some r) : mx_S X F L 52 59 [(0, .ref l0), (1, .int l1)] [.int s0, .int s1, .ref s2] h 0 0 (none, r, 0, 0) := by
  have hm : mx_mt 52 = some (yX2_nameKinds, cX2_nameKinds, 2, none) := mt_X2_nameKinds
  unfold j_X2_nameKinds_59 at hf
  replace hf := mx_sv_el hf; obtain ⟨h35, e_h35, hf⟩ := hf
  refine sx_ast hm dX2_nameKinds_59 e_h35 ?_
  clear e_h35
  refine mx_S.pu (pc2 := 61) (lv2 := [(0, .ref l0), (1, .int l1)]) (st2 := [.ref l0]) hm dX2_nameKinds_60 rfl ?_
  replace hf := mx_sv_el hf; obtain ⟨v36, e_v36, hf⟩ := hf
  refine sx_get hm dX2_nameKinds_61 rs_RX2_67 (xgr_el e_v36) ?_
  clear e_v36
  refine sx_bi (v := 16) hm dX2_nameKinds_64 (by decide) ?_
  refine mx_S.pu (pc2 := 67) (lv2 := [(0, .ref l0), (1, .int l1)]) (st2 := [.int l1, .int 16, .ref v36]) hm dX2_nameKinds_66 rfl ?_
  replace hf := xl_el hf; obtain ⟨v37, e_v37, hf⟩ := hf
  refine mx_S.pu (pc2 := 68) (lv2 := [(0, .ref l0), (1, .int l1)]) (st2 := [.int v37, .ref v36]) hm dX2_nameKinds_67 (by rw [← e_v37]; rfl) ?_
  clear e_v37
  refine mx_S.pu (pc2 := 69) (lv2 := [(0, .ref l0), (1, .int l1)]) (st2 := [.ref l0, .int v37, .ref v36]) hm dX2_nameKinds_68 rfl ?_
  refine sx_bi (v := 100) hm dX2_nameKinds_69 (by decide) ?_
  refine mx_S.pu (pc2 := 72) (lv2 := [(0, .ref l0), (1, .int l1)]) (st2 := [.int l1, .int 100, .ref l0, .int v37, .ref v36]) hm dX2_nameKinds_71 rfl ?_
  replace hf := xl_el hf; obtain ⟨v38, e_v38, hf⟩ := hf
  refine mx_S.pu (pc2 := 73) (lv2 := [(0, .ref l0), (1, .int l1)]) (st2 := [.int v38, .ref l0, .int v37, .ref v36]) hm dX2_nameKinds_72 (by rw [← e_v38]; rfl) ?_
  clear e_v38
  replace hf := mx_gd_el hf; obtain ⟨c39, hf⟩ := hf
  replace hf := mx_sv_el hf; obtain ⟨u40, e_u40, hf⟩ := hf
  refine sx_cv hm dX2_nameKinds_73 rs_RX2_138 mt_X2_nameKind [.int v38] [.int v37, .ref v36] (b := l0) (ci := 2) rfl rfl rfl c39 (Nat.le_of_ble_eq_true rfl) (Nat.le_of_ble_eq_true rfl) (by omega) (by omega) (f_X2_nameKind_ok X (by omega) (by omega) nn l0 v38 h35 e_u40) ?_
  clear e_u40
  show mx_S X F L 52 76 [(0, .ref l0), (1, .int l1)] [.int u40.1, .int v37, .ref v36] u40.2 0 0 (none, r, 0, 0)
  replace hf := mx_sv_el hf; obtain ⟨h41, e_h41, hf⟩ := hf
  refine sx_ast hm dX2_nameKinds_76 e_h41 ?_
  clear e_h41
  replace hf := xl_el hf; obtain ⟨v42, e_v42, hf⟩ := hf
  refine mx_S.pu (pc2 := 80) (lv2 := [(1, .int v42), (0, .ref l0)]) (st2 := []) hm dX2_nameKinds_77 (by rw [← e_v42]; rfl) ?_
  clear e_v42
  refine mx_S.pu (pc2 := 2) (lv2 := [(1, .int v42), (0, .ref l0)]) (st2 := []) hm dX2_nameKinds_80 rfl ?_
  refine mx_S.ext [(0, .ref l0), (1, .int v42)] (mx_sub_pos [1, 0] rfl (show ([1, 0] : List Nat).Nodup by decide)) ?_
  exact hk_2 l0 v42 h41 _ hf
set_option maxHeartbeats 4000000 in
set_option maxRecDepth 20000 in
theorem w_X2_nameKinds_2_ok (X : Nat × (Nat → Int32)) {F L : Nat} (hF : 4 ≤ F) (hL : 129 ≤ L) (nn : Nat) : ∀ (k : Nat) (l0 : Nat) (l1 : Int32) (h : mx_H) (r : mx_H), w_X2_nameKinds_2 nn k l0 l1 h = some r → mx_S X F L 52 2 [(0, .ref l0), (1, .int l1)] [] h 0 0 (none, r, 0, 0) := by
  have hm : mx_mt 52 = some (yX2_nameKinds, cX2_nameKinds, 2, none) := mt_X2_nameKinds
  intro k
  induction k with
  | zero => intro l0 l1 h r hf; cases hf
  | succ k ih =>
    intro l0 l1 h r hf
    unfold w_X2_nameKinds_2 at hf
    refine mx_S.pu (pc2 := 3) (lv2 := [(0, .ref l0), (1, .int l1)]) (st2 := [.int l1]) hm dX2_nameKinds_2 rfl ?_
    refine sx_bi (v := 8) hm dX2_nameKinds_3 (by decide) ?_
    refine mx_S.pu (pc2 := 6) (lv2 := [(0, .ref l0), (1, .int l1)]) (st2 := [.ref l0, .int 8, .int l1]) hm dX2_nameKinds_5 rfl ?_
    replace hf := mx_sv_el hf; obtain ⟨v43, e_v43, hf⟩ := hf
    refine sx_get hm dX2_nameKinds_6 rs_RX2_78 (xgi_el e_v43) ?_
    clear e_v43
    replace hf := xl_el hf; obtain ⟨v44, e_v44, hf⟩ := hf
    refine mx_S.pu (pc2 := 10) (lv2 := [(0, .ref l0), (1, .int l1)]) (st2 := [.int v44, .int l1]) hm dX2_nameKinds_9 (by rw [← e_v44]; rfl) ?_
    clear e_v44
    rcases mx_if_el hf with ⟨c57, hf⟩ | ⟨c57, hf⟩
    · refine sb_ic_ge hm dX2_nameKinds_10 (tgt := 83) rfl (fun _ => ?_) (fun z => absurd c57 z)
      refine sx_ic (v := 0) hm dX2_nameKinds_83 (by decide) ?_
      refine mx_S.pu (pc2 := 85) (lv2 := [(1, .int 0), (0, .ref l0)]) (st2 := []) hm dX2_nameKinds_84 rfl ?_
      refine mx_S.ext [(0, .ref l0), (1, .int 0)] (mx_sub_pos [1, 0] rfl (show ([1, 0] : List Nat).Nodup by decide)) ?_
      exact w_X2_nameKinds_85_ok X hF hL nn nn l0 0 h _ hf
    · refine sb_ic_ge hm dX2_nameKinds_10 (tgt := 83) rfl (fun z => absurd z c57) (fun _ => ?_)
      refine mx_S.pu (pc2 := 14) (lv2 := [(0, .ref l0), (1, .int l1)]) (st2 := [.int l1]) hm dX2_nameKinds_13 rfl ?_
      refine sx_bi (v := 16) hm dX2_nameKinds_14 (by decide) ?_
      rcases mx_if_el hf with ⟨c56, hf⟩ | ⟨c56, hf⟩
      · refine sb_ic_ge hm dX2_nameKinds_16 (tgt := 83) rfl (fun _ => ?_) (fun z => absurd c56 z)
        refine sx_ic (v := 0) hm dX2_nameKinds_83 (by decide) ?_
        refine mx_S.pu (pc2 := 85) (lv2 := [(1, .int 0), (0, .ref l0)]) (st2 := []) hm dX2_nameKinds_84 rfl ?_
        refine mx_S.ext [(0, .ref l0), (1, .int 0)] (mx_sub_pos [1, 0] rfl (show ([1, 0] : List Nat).Nodup by decide)) ?_
        exact w_X2_nameKinds_85_ok X hF hL nn nn l0 0 h _ hf
      · refine sb_ic_ge hm dX2_nameKinds_16 (tgt := 83) rfl (fun z => absurd z c56) (fun _ => ?_)
        refine mx_S.pu (pc2 := 20) (lv2 := [(0, .ref l0), (1, .int l1)]) (st2 := [.ref l0]) hm dX2_nameKinds_19 rfl ?_
        replace hf := mx_sv_el hf; obtain ⟨v45, e_v45, hf⟩ := hf
        refine sx_get hm dX2_nameKinds_20 rs_RX2_74 (xgr_el e_v45) ?_
        clear e_v45
        replace hf := mx_sv_el hf; obtain ⟨v46, e_v46, hf⟩ := hf
        refine sx_get hm dX2_nameKinds_23 rs_RX2_91 (xgi_el e_v46) ?_
        clear e_v46
        rcases mx_if_el hf with ⟨c55, hf⟩ | ⟨c55, hf⟩
        · refine sb_if_ne hm dX2_nameKinds_26 (tgt := 83) rfl (fun _ => ?_) (fun z => absurd c55 z)
          refine sx_ic (v := 0) hm dX2_nameKinds_83 (by decide) ?_
          refine mx_S.pu (pc2 := 85) (lv2 := [(1, .int 0), (0, .ref l0)]) (st2 := []) hm dX2_nameKinds_84 rfl ?_
          refine mx_S.ext [(0, .ref l0), (1, .int 0)] (mx_sub_pos [1, 0] rfl (show ([1, 0] : List Nat).Nodup by decide)) ?_
          exact w_X2_nameKinds_85_ok X hF hL nn nn l0 0 h _ hf
        · refine sb_if_ne hm dX2_nameKinds_26 (tgt := 83) rfl (fun z => absurd z c55) (fun _ => ?_)
          refine mx_S.pu (pc2 := 30) (lv2 := [(0, .ref l0), (1, .int l1)]) (st2 := [.ref l0]) hm dX2_nameKinds_29 rfl ?_
          replace hf := mx_sv_el hf; obtain ⟨v47, e_v47, hf⟩ := hf
          refine sx_get hm dX2_nameKinds_30 rs_RX2_67 (xgr_el e_v47) ?_
          clear e_v47
          refine mx_S.pu (pc2 := 34) (lv2 := [(0, .ref l0), (1, .int l1)]) (st2 := [.int l1, .ref v47]) hm dX2_nameKinds_33 rfl ?_
          refine mx_S.pu (pc2 := 35) (lv2 := [(0, .ref l0), (1, .int l1)]) (st2 := [.int l1, .int l1, .ref v47]) hm dX2_nameKinds_34 rfl ?_
          refine sx_bi (v := 8) hm dX2_nameKinds_35 (by decide) ?_
          rcases mx_if_el hf with ⟨c54, hf⟩ | ⟨c54, hf⟩
          · refine sb_ic_ge hm dX2_nameKinds_37 (tgt := 44) rfl (fun _ => ?_) (fun z => absurd c54 z)
            refine mx_S.pu (pc2 := 45) (lv2 := [(0, .ref l0), (1, .int l1)]) (st2 := [.ref l0, .int l1, .ref v47]) hm dX2_nameKinds_44 rfl ?_
            replace hf := mx_sv_el hf; obtain ⟨v48, e_v48, hf⟩ := hf
            refine sx_get hm dX2_nameKinds_45 rs_RX2_74 (xgr_el e_v48) ?_
            clear e_v48
            refine mx_S.pu (pc2 := 49) (lv2 := [(0, .ref l0), (1, .int l1)]) (st2 := [.ref l0, .ref v48, .int l1, .ref v47]) hm dX2_nameKinds_48 rfl ?_
            refine mx_S.pu (pc2 := 50) (lv2 := [(0, .ref l0), (1, .int l1)]) (st2 := [.int l1, .ref l0, .ref v48, .int l1, .ref v47]) hm dX2_nameKinds_49 rfl ?_
            refine sx_bi (v := 8) hm dX2_nameKinds_50 (by decide) ?_
            replace hf := xl_el hf; obtain ⟨v49, e_v49, hf⟩ := hf
            refine mx_S.pu (pc2 := 53) (lv2 := [(0, .ref l0), (1, .int l1)]) (st2 := [.int v49, .ref l0, .ref v48, .int l1, .ref v47]) hm dX2_nameKinds_52 (by rw [← e_v49]; rfl) ?_
            clear e_v49
            replace hf := mx_gd_el hf; obtain ⟨c50, hf⟩ := hf
            replace hf := mx_sv_el hf; obtain ⟨u51, e_u51, hf⟩ := hf
            refine sx_cv hm dX2_nameKinds_53 rs_RX2_112 mt_X2_tokenOfClass [.int v49] [.ref v48, .int l1, .ref v47] (b := l0) (ci := 2) rfl rfl rfl c50 (Nat.le_of_ble_eq_true rfl) (Nat.le_of_ble_eq_true rfl) (by omega) (by omega) (f_X2_tokenOfClass_ok X (by omega) (by omega) nn l0 v49 h e_u51) ?_
            clear e_u51
            show mx_S X F L 52 56 [(0, .ref l0), (1, .int l1)] [.int u51.1, .ref v48, .int l1, .ref v47] u51.2 0 0 (none, r, 0, 0)
            replace hf := mx_gd_el hf; obtain ⟨c52, hf⟩ := hf
            replace hf := mx_sv_el hf; obtain ⟨u53, e_u53, hf⟩ := hf
            refine sx_cv hm dX2_nameKinds_56 rs_RX2_135 mt_X9_valueAt [.int u51.1] [.int l1, .ref v47] (b := v48) (ci := 9) rfl rfl rfl c52 (Nat.le_of_ble_eq_true rfl) (Nat.le_of_ble_eq_true rfl) (by omega) (by omega) (f_X9_valueAt_ok X (by omega) (by omega) nn v48 u51.1 u51.2 e_u53) ?_
            clear e_u53
            show mx_S X F L 52 59 [(0, .ref l0), (1, .int l1)] [.int u53.1, .int l1, .ref v47] u53.2 0 0 (none, r, 0, 0)
            exact j_X2_nameKinds_59_ok X hF hL nn ih l0 l1 u53.1 l1 v47 u53.2 hf
          · refine sb_ic_ge hm dX2_nameKinds_37 (tgt := 44) rfl (fun z => absurd z c54) (fun _ => ?_)
            refine mx_S.pu (pc2 := 41) (lv2 := [(0, .ref l0), (1, .int l1)]) (st2 := [.int l1, .int l1, .ref v47]) hm dX2_nameKinds_40 rfl ?_
            refine mx_S.pu (pc2 := 59) (lv2 := [(0, .ref l0), (1, .int l1)]) (st2 := [.int l1, .int l1, .ref v47]) hm dX2_nameKinds_41 rfl ?_
            exact j_X2_nameKinds_59_ok X hF hL nn ih l0 l1 l1 l1 v47 h hf
set_option maxHeartbeats 4000000 in
set_option maxRecDepth 20000 in
theorem f_X2_nameKinds_ok (X : Nat × (Nat → Int32)) {F L : Nat} (hF : 4 ≤ F) (hL : 129 ≤ L) (nn : Nat) (a0 : Nat) (h : mx_H) {r : mx_H} (hf : f_X2_nameKinds nn a0 h = some r) : mx_R X F L 52 [.ref a0] h (none, r, 0, 0) := by
  have hm : mx_mt 52 = some (yX2_nameKinds, cX2_nameKinds, 2, none) := mt_X2_nameKinds
  show mx_S X F L 52 0 [(0, .ref a0)] [] h 0 0 (none, r, 0, 0)
  unfold f_X2_nameKinds at hf
  refine sx_ic (v := 0) hm dX2_nameKinds_0 (by decide) ?_
  refine mx_S.pu (pc2 := 2) (lv2 := [(1, .int 0), (0, .ref a0)]) (st2 := []) hm dX2_nameKinds_1 rfl ?_
  refine mx_S.ext [(0, .ref a0), (1, .int 0)] (mx_sub_pos [1, 0] rfl (show ([1, 0] : List Nat).Nodup by decide)) ?_
  exact w_X2_nameKinds_2_ok X hF hL nn nn a0 0 h _ hf
set_option maxHeartbeats 4000000 in
set_option maxRecDepth 20000 in
theorem f_X2_classAbove_ok (X : Nat × (Nat → Int32)) {F L : Nat} (hF : 2 ≤ F) (hL : 43 ≤ L) (nn : Nat) (a0 : Nat) (a1 : Int32) (h : mx_H) {r : (Int32 × mx_H)} (hf : f_X2_classAbove nn a0 a1 h = some r) : mx_R X F L 61 [.ref a0, .int a1] h (some (.int r.1), r.2, 0, 0) := by
  have hm : mx_mt 61 = some (yX2_classAbove, cX2_classAbove, 3, (some .int)) := mt_X2_classAbove
  show mx_S X F L 61 0 [(0, .ref a0), (1, .int a1)] [] h 0 0 (some (.int r.1), r.2, 0, 0)
  unfold f_X2_classAbove at hf
  refine mx_S.pu (pc2 := 1) (lv2 := [(0, .ref a0), (1, .int a1)]) (st2 := [.ref a0]) hm dX2_classAbove_0 rfl ?_
  refine mx_S.pu (pc2 := 2) (lv2 := [(0, .ref a0), (1, .int a1)]) (st2 := [.int a1, .ref a0]) hm dX2_classAbove_1 rfl ?_
  replace hf := mx_gd_el hf; obtain ⟨c1, hf⟩ := hf
  replace hf := mx_sv_el hf; obtain ⟨u2, e_u2, hf⟩ := hf
  refine sx_cv hm dX2_classAbove_2 rs_RX2_112 mt_X2_tokenOfClass [.int a1] [] (b := a0) (ci := 2) rfl rfl rfl c1 (Nat.le_of_ble_eq_true rfl) (Nat.le_of_ble_eq_true rfl) (by omega) (by omega) (f_X2_tokenOfClass_ok X (by omega) (by omega) nn a0 a1 h e_u2) ?_
  clear e_u2
  show mx_S X F L 61 5 [(0, .ref a0), (1, .int a1)] [.int u2.1] u2.2 0 0 (some (.int r.1), r.2, 0, 0)
  refine mx_S.pu (pc2 := 6) (lv2 := [(2, .int u2.1), (0, .ref a0), (1, .int a1)]) (st2 := []) hm dX2_classAbove_5 rfl ?_
  refine mx_S.pu (pc2 := 7) (lv2 := [(2, .int u2.1), (0, .ref a0), (1, .int a1)]) (st2 := [.ref a0]) hm dX2_classAbove_6 rfl ?_
  replace hf := mx_sv_el hf; obtain ⟨v3, e_v3, hf⟩ := hf
  refine sx_get hm dX2_classAbove_7 rs_RX2_74 (xgr_el e_v3) ?_
  clear e_v3
  refine mx_S.pu (pc2 := 11) (lv2 := [(2, .int u2.1), (0, .ref a0), (1, .int a1)]) (st2 := [.int u2.1, .ref v3]) hm dX2_classAbove_10 rfl ?_
  refine sx_ic (v := 1) hm dX2_classAbove_11 (by decide) ?_
  replace hf := xl_el hf; obtain ⟨v4, e_v4, hf⟩ := hf
  refine mx_S.pu (pc2 := 13) (lv2 := [(2, .int u2.1), (0, .ref a0), (1, .int a1)]) (st2 := [.int v4, .ref v3]) hm dX2_classAbove_12 (by rw [← e_v4]; rfl) ?_
  clear e_v4
  replace hf := mx_gd_el hf; obtain ⟨c5, hf⟩ := hf
  replace hf := mx_sv_el hf; obtain ⟨u6, e_u6, hf⟩ := hf
  refine sx_cv hm dX2_classAbove_13 rs_RX2_115 mt_X9_kindAt [.int v4] [] (b := v3) (ci := 9) rfl rfl rfl c5 (Nat.le_of_ble_eq_true rfl) (Nat.le_of_ble_eq_true rfl) (by omega) (by omega) (f_X9_kindAt_ok X (by omega) (by omega) nn v3 v4 u2.2 e_u6) ?_
  clear e_u6
  show mx_S X F L 61 16 [(2, .int u2.1), (0, .ref a0), (1, .int a1)] [.int u6.1] u6.2 0 0 (some (.int r.1), r.2, 0, 0)
  refine sx_bi (v := 16) hm dX2_classAbove_16 (by decide) ?_
  rcases mx_if_el hf with ⟨c10, hf⟩ | ⟨c10, hf⟩
  · refine sb_ic_ne hm dX2_classAbove_18 (tgt := 31) rfl (fun _ => ?_) (fun z => absurd c10 z)
    refine sx_ic (v := 0) hm dX2_classAbove_31 (by decide) ?_
    cases hf
    exact sx_ire hm dX2_classAbove_32 rfl rfl
  · refine sb_ic_ne hm dX2_classAbove_18 (tgt := 31) rfl (fun z => absurd z c10) (fun _ => ?_)
    refine mx_S.pu (pc2 := 22) (lv2 := [(2, .int u2.1), (0, .ref a0), (1, .int a1)]) (st2 := [.ref a0]) hm dX2_classAbove_21 rfl ?_
    refine mx_S.pu (pc2 := 23) (lv2 := [(2, .int u2.1), (0, .ref a0), (1, .int a1)]) (st2 := [.int u2.1, .ref a0]) hm dX2_classAbove_22 rfl ?_
    refine sx_ic (v := 2) hm dX2_classAbove_23 (by decide) ?_
    replace hf := xl_el hf; obtain ⟨v7, e_v7, hf⟩ := hf
    refine mx_S.pu (pc2 := 25) (lv2 := [(2, .int u2.1), (0, .ref a0), (1, .int a1)]) (st2 := [.int v7, .ref a0]) hm dX2_classAbove_24 (by rw [← e_v7]; rfl) ?_
    clear e_v7
    replace hf := mx_gd_el hf; obtain ⟨c8, hf⟩ := hf
    replace hf := mx_sv_el hf; obtain ⟨u9, e_u9, hf⟩ := hf
    refine sx_cv hm dX2_classAbove_25 rs_RX2_184 mt_X2_classAt [.int v7] [] (b := a0) (ci := 2) rfl rfl rfl c8 (Nat.le_of_ble_eq_true rfl) (Nat.le_of_ble_eq_true rfl) (by omega) (by omega) (f_X2_classAt_ok X (by omega) (by omega) nn a0 v7 u6.2 e_u9) ?_
    clear e_u9
    show mx_S X F L 61 28 [(2, .int u2.1), (0, .ref a0), (1, .int a1)] [.int u9.1] u9.2 0 0 (some (.int r.1), r.2, 0, 0)
    refine mx_S.pu (pc2 := 32) (lv2 := [(2, .int u2.1), (0, .ref a0), (1, .int a1)]) (st2 := [.int u9.1]) hm dX2_classAbove_28 rfl ?_
    cases hf
    exact sx_ire hm dX2_classAbove_32 rfl rfl
set_option maxHeartbeats 4000000 in
set_option maxRecDepth 20000 in
theorem j_X2_endsAbove_36_ok (X : Nat × (Nat → Int32)) {F L : Nat} (hF : 3 ≤ F) (hL : 65 ≤ L) (nn : Nat) (l2 : Int32) (h : mx_H) {r : (Int32 × mx_H)} (hf : j_X2_endsAbove_36 nn l2 h = some r) : mx_S X F L 63 36 [(2, .int l2)] [] h 0 0 (some (.int r.1), r.2, 0, 0) := by
  have hm : mx_mt 63 = some (yX2_endsAbove, cX2_endsAbove, 4, (some .boolean)) := mt_X2_endsAbove
  unfold j_X2_endsAbove_36 at hf
  refine mx_S.pu (pc2 := 37) (lv2 := [(2, .int l2)]) (st2 := [.int l2]) hm dX2_endsAbove_36 rfl ?_
  refine sx_bi (v := 8) hm dX2_endsAbove_37 (by decide) ?_
  rcases mx_if_el hf with ⟨c1, hf⟩ | ⟨c1, hf⟩
  · refine sb_ic_ge hm dX2_endsAbove_39 (tgt := 46) rfl (fun _ => ?_) (fun z => absurd c1 z)
    refine sx_ic (v := 0) hm dX2_endsAbove_46 (by decide) ?_
    cases hf
    exact sx_ire hm dX2_endsAbove_47 rfl (by decide)
  · refine sb_ic_ge hm dX2_endsAbove_39 (tgt := 46) rfl (fun z => absurd z c1) (fun _ => ?_)
    refine sx_ic (v := 1) hm dX2_endsAbove_42 (by decide) ?_
    refine mx_S.pu (pc2 := 47) (lv2 := [(2, .int l2)]) (st2 := [.int 1]) hm dX2_endsAbove_43 rfl ?_
    cases hf
    exact sx_ire hm dX2_endsAbove_47 rfl (by decide)
set_option maxHeartbeats 4000000 in
set_option maxRecDepth 20000 in
theorem w_X2_endsAbove_7_ok (X : Nat × (Nat → Int32)) {F L : Nat} (hF : 3 ≤ F) (hL : 65 ≤ L) (nn : Nat) : ∀ (k : Nat) (l0 : Nat) (l2 : Int32) (l3 : Int32) (h : mx_H) (r : (Int32 × mx_H)), w_X2_endsAbove_7 nn k l0 l2 l3 h = some r → mx_S X F L 63 7 [(0, .ref l0), (2, .int l2), (3, .int l3)] [] h 0 0 (some (.int r.1), r.2, 0, 0) := by
  have hm : mx_mt 63 = some (yX2_endsAbove, cX2_endsAbove, 4, (some .boolean)) := mt_X2_endsAbove
  intro k
  induction k with
  | zero => intro l0 l2 l3 h r hf; cases hf
  | succ k ih =>
    intro l0 l2 l3 h r hf
    unfold w_X2_endsAbove_7 at hf
    refine mx_S.pu (pc2 := 8) (lv2 := [(0, .ref l0), (2, .int l2), (3, .int l3)]) (st2 := [.int l3]) hm dX2_endsAbove_7 rfl ?_
    refine mx_S.pu (pc2 := 9) (lv2 := [(0, .ref l0), (2, .int l2), (3, .int l3)]) (st2 := [.ref l0, .int l3]) hm dX2_endsAbove_8 rfl ?_
    replace hf := mx_sv_el hf; obtain ⟨v2, e_v2, hf⟩ := hf
    refine sx_get hm dX2_endsAbove_9 rs_RX2_78 (xgi_el e_v2) ?_
    clear e_v2
    rcases mx_if_el hf with ⟨c8, hf⟩ | ⟨c8, hf⟩
    · refine sb_ic_gt hm dX2_endsAbove_12 (tgt := 36) rfl (fun _ => ?_) (fun z => absurd c8 z)
      refine mx_S.ext [(2, .int l2)] (mx_sub_pos [1] rfl (show ([0, 2, 3] : List Nat).Nodup by decide)) ?_
      exact j_X2_endsAbove_36_ok X hF hL nn l2 h hf
    · refine sb_ic_gt hm dX2_endsAbove_12 (tgt := 36) rfl (fun z => absurd z c8) (fun _ => ?_)
      refine mx_S.pu (pc2 := 16) (lv2 := [(0, .ref l0), (2, .int l2), (3, .int l3)]) (st2 := [.int l2]) hm dX2_endsAbove_15 rfl ?_
      refine sx_bi (v := 8) hm dX2_endsAbove_16 (by decide) ?_
      rcases mx_if_el hf with ⟨c7, hf⟩ | ⟨c7, hf⟩
      · refine sb_ic_lt hm dX2_endsAbove_18 (tgt := 36) rfl (fun _ => ?_) (fun z => absurd c7 z)
        refine mx_S.ext [(2, .int l2)] (mx_sub_pos [1] rfl (show ([0, 2, 3] : List Nat).Nodup by decide)) ?_
        exact j_X2_endsAbove_36_ok X hF hL nn l2 h hf
      · refine sb_ic_lt hm dX2_endsAbove_18 (tgt := 36) rfl (fun z => absurd z c7) (fun _ => ?_)
        refine mx_S.pu (pc2 := 22) (lv2 := [(0, .ref l0), (2, .int l2), (3, .int l3)]) (st2 := [.ref l0]) hm dX2_endsAbove_21 rfl ?_
        refine mx_S.pu (pc2 := 23) (lv2 := [(0, .ref l0), (2, .int l2), (3, .int l3)]) (st2 := [.int l2, .ref l0]) hm dX2_endsAbove_22 rfl ?_
        refine sx_bi (v := 8) hm dX2_endsAbove_23 (by decide) ?_
        replace hf := xl_el hf; obtain ⟨v3, e_v3, hf⟩ := hf
        refine mx_S.pu (pc2 := 26) (lv2 := [(0, .ref l0), (2, .int l2), (3, .int l3)]) (st2 := [.int v3, .ref l0]) hm dX2_endsAbove_25 (by rw [← e_v3]; rfl) ?_
        clear e_v3
        replace hf := mx_gd_el hf; obtain ⟨c4, hf⟩ := hf
        replace hf := mx_sv_el hf; obtain ⟨u5, e_u5, hf⟩ := hf
        refine sx_cv hm dX2_endsAbove_26 rs_RX2_101 mt_X2_classAbove [.int v3] [] (b := l0) (ci := 2) rfl rfl rfl c4 (Nat.le_of_ble_eq_true rfl) (Nat.le_of_ble_eq_true rfl) (by omega) (by omega) (f_X2_classAbove_ok X (by omega) (by omega) nn l0 v3 h e_u5) ?_
        clear e_u5
        show mx_S X F L 63 29 [(0, .ref l0), (2, .int l2), (3, .int l3)] [.int u5.1] u5.2 0 0 (some (.int r.1), r.2, 0, 0)
        refine mx_S.pu (pc2 := 30) (lv2 := [(2, .int u5.1), (0, .ref l0), (3, .int l3)]) (st2 := []) hm dX2_endsAbove_29 rfl ?_
        replace hf := xl_el hf; obtain ⟨v6, e_v6, hf⟩ := hf
        refine mx_S.pu (pc2 := 33) (lv2 := [(3, .int v6), (2, .int u5.1), (0, .ref l0)]) (st2 := []) hm dX2_endsAbove_30 (by rw [← e_v6]; rfl) ?_
        clear e_v6
        refine mx_S.pu (pc2 := 7) (lv2 := [(3, .int v6), (2, .int u5.1), (0, .ref l0)]) (st2 := []) hm dX2_endsAbove_33 rfl ?_
        refine mx_S.ext [(0, .ref l0), (2, .int u5.1), (3, .int v6)] (mx_sub_pos [2, 1, 0] rfl (show ([3, 2, 0] : List Nat).Nodup by decide)) ?_
        exact ih l0 u5.1 v6 u5.2 _ hf
set_option maxHeartbeats 4000000 in
set_option maxRecDepth 20000 in
theorem f_X2_endsAbove_ok (X : Nat × (Nat → Int32)) {F L : Nat} (hF : 3 ≤ F) (hL : 65 ≤ L) (nn : Nat) (a0 : Nat) (a1 : Int32) (h : mx_H) {r : (Int32 × mx_H)} (hf : f_X2_endsAbove nn a0 a1 h = some r) : mx_R X F L 63 [.ref a0, .int a1] h (some (.int r.1), r.2, 0, 0) := by
  have hm : mx_mt 63 = some (yX2_endsAbove, cX2_endsAbove, 4, (some .boolean)) := mt_X2_endsAbove
  show mx_S X F L 63 0 [(0, .ref a0), (1, .int a1)] [] h 0 0 (some (.int r.1), r.2, 0, 0)
  unfold f_X2_endsAbove at hf
  refine sx_bi (v := 8) hm dX2_endsAbove_0 (by decide) ?_
  refine mx_S.pu (pc2 := 3) (lv2 := [(0, .ref a0), (1, .int a1)]) (st2 := [.int a1, .int 8]) hm dX2_endsAbove_2 rfl ?_
  replace hf := xl_el hf; obtain ⟨v9, e_v9, hf⟩ := hf
  refine mx_S.pu (pc2 := 4) (lv2 := [(0, .ref a0), (1, .int a1)]) (st2 := [.int v9]) hm dX2_endsAbove_3 (by rw [← e_v9]; rfl) ?_
  clear e_v9
  refine mx_S.pu (pc2 := 5) (lv2 := [(2, .int v9), (0, .ref a0), (1, .int a1)]) (st2 := []) hm dX2_endsAbove_4 rfl ?_
  refine sx_ic (v := 0) hm dX2_endsAbove_5 (by decide) ?_
  refine mx_S.pu (pc2 := 7) (lv2 := [(3, .int 0), (2, .int v9), (0, .ref a0), (1, .int a1)]) (st2 := []) hm dX2_endsAbove_6 rfl ?_
  refine mx_S.ext [(0, .ref a0), (2, .int v9), (3, .int 0)] (mx_sub_pos [2, 1, 0] rfl (show ([3, 2, 0, 1] : List Nat).Nodup by decide)) ?_
  exact w_X2_endsAbove_7_ok X hF hL nn nn a0 v9 0 h _ hf
set_option maxHeartbeats 4000000 in
set_option maxRecDepth 20000 in
theorem j_X2_checkClassHead_64_ok (X : Nat × (Nat → Int32)) {F L : Nat} (hF : 4 ≤ F) (hL : 88 ≤ L) (nn : Nat) (l0 : Nat) (l1 : Int32) (l2 : Int32) (h : mx_H) {r : mx_H} (hf : j_X2_checkClassHead_64 nn l0 l1 l2 h = some r) : mx_S X F L 62 64 [(0, .ref l0), (1, .int l1), (2, .int l2)] [] h 0 0 (none, r, 0, 0) := by
  have hm : mx_mt 62 = some (yX2_checkClassHead, cX2_checkClassHead, 3, none) := mt_X2_checkClassHead
  unfold j_X2_checkClassHead_64 at hf
  refine mx_S.pu (pc2 := 65) (lv2 := [(0, .ref l0), (1, .int l1), (2, .int l2)]) (st2 := [.ref l0]) hm dX2_checkClassHead_64 rfl ?_
  refine mx_S.pu (pc2 := 66) (lv2 := [(0, .ref l0), (1, .int l1), (2, .int l2)]) (st2 := [.int l1, .ref l0]) hm dX2_checkClassHead_65 rfl ?_
  replace hf := mx_gd_el hf; obtain ⟨c1, hf⟩ := hf
  replace hf := mx_sv_el hf; obtain ⟨u2, e_u2, hf⟩ := hf
  refine sx_cv hm dX2_checkClassHead_66 rs_RX2_189 mt_X2_endsAbove [.int l1] [] (b := l0) (ci := 2) rfl rfl rfl c1 (Nat.le_of_ble_eq_true rfl) (Nat.le_of_ble_eq_true rfl) (by omega) (by omega) (f_X2_endsAbove_ok X (by omega) (by omega) nn l0 l1 h e_u2) ?_
  clear e_u2
  show mx_S X F L 62 69 [(0, .ref l0), (1, .int l1), (2, .int l2)] [.int u2.1] u2.2 0 0 (none, r, 0, 0)
  rcases mx_if_el hf with ⟨c7, hf⟩ | ⟨c7, hf⟩
  · refine sb_if_ne hm dX2_checkClassHead_69 (tgt := 84) rfl (fun _ => ?_) (fun z => absurd c7 z)
    cases hf
    exact sx_ret hm dX2_checkClassHead_84 rfl
  · refine sb_if_ne hm dX2_checkClassHead_69 (tgt := 84) rfl (fun z => absurd z c7) (fun _ => ?_)
    refine mx_S.pu (pc2 := 73) (lv2 := [(0, .ref l0), (1, .int l1), (2, .int l2)]) (st2 := [.ref l0]) hm dX2_checkClassHead_72 rfl ?_
    replace hf := mx_sv_el hf; obtain ⟨v3, e_v3, hf⟩ := hf
    refine sx_get hm dX2_checkClassHead_73 rs_RX2_74 (xgr_el e_v3) ?_
    clear e_v3
    refine sx_bi (v := 6) hm dX2_checkClassHead_76 (by decide) ?_
    refine mx_S.pu (pc2 := 79) (lv2 := [(0, .ref l0), (1, .int l1), (2, .int l2)]) (st2 := [.int l2, .int 6, .ref v3]) hm dX2_checkClassHead_78 rfl ?_
    refine sx_ic (v := 2) hm dX2_checkClassHead_79 (by decide) ?_
    replace hf := xl_el hf; obtain ⟨v4, e_v4, hf⟩ := hf
    refine mx_S.pu (pc2 := 81) (lv2 := [(0, .ref l0), (1, .int l1), (2, .int l2)]) (st2 := [.int v4, .int 6, .ref v3]) hm dX2_checkClassHead_80 (by rw [← e_v4]; rfl) ?_
    clear e_v4
    replace hf := mx_gd_el hf; obtain ⟨c5, hf⟩ := hf
    replace hf := mx_sv_el hf; obtain ⟨u6, e_u6, hf⟩ := hf
    refine sx_cv hm dX2_checkClassHead_81 rs_RX2_186 mt_X9_tell [.int 6, .int v4] [] (b := v3) (ci := 9) rfl rfl rfl c5 (Nat.le_of_ble_eq_true rfl) (Nat.le_of_ble_eq_true rfl) (by omega) (by omega) (f_X9_tell_ok X (by omega) (by omega) nn v3 6 v4 u2.2 e_u6) ?_
    clear e_u6
    show mx_S X F L 62 84 [(0, .ref l0), (1, .int l1), (2, .int l2)] [] u6 0 0 (none, r, 0, 0)
    cases hf
    exact sx_ret hm dX2_checkClassHead_84 rfl
set_option maxHeartbeats 4000000 in
set_option maxRecDepth 20000 in
theorem j_X2_checkClassHead_44_ok (X : Nat × (Nat → Int32)) {F L : Nat} (hF : 4 ≤ F) (hL : 88 ≤ L) (nn : Nat) (l0 : Nat) (l1 : Int32) (l2 : Int32) (h : mx_H) {r : mx_H} (hf : j_X2_checkClassHead_44 nn l0 l1 l2 h = some r) : mx_S X F L 62 44 [(0, .ref l0), (1, .int l1), (2, .int l2)] [] h 0 0 (none, r, 0, 0) := by
  have hm : mx_mt 62 = some (yX2_checkClassHead, cX2_checkClassHead, 3, none) := mt_X2_checkClassHead
  unfold j_X2_checkClassHead_44 at hf
  refine mx_S.pu (pc2 := 45) (lv2 := [(0, .ref l0), (1, .int l1), (2, .int l2)]) (st2 := [.ref l0]) hm dX2_checkClassHead_44 rfl ?_
  refine mx_S.pu (pc2 := 46) (lv2 := [(0, .ref l0), (1, .int l1), (2, .int l2)]) (st2 := [.int l1, .ref l0]) hm dX2_checkClassHead_45 rfl ?_
  replace hf := mx_gd_el hf; obtain ⟨c8, hf⟩ := hf
  replace hf := mx_sv_el hf; obtain ⟨u9, e_u9, hf⟩ := hf
  refine sx_cv hm dX2_checkClassHead_46 rs_RX2_101 mt_X2_classAbove [.int l1] [] (b := l0) (ci := 2) rfl rfl rfl c8 (Nat.le_of_ble_eq_true rfl) (Nat.le_of_ble_eq_true rfl) (by omega) (by omega) (f_X2_classAbove_ok X (by omega) (by omega) nn l0 l1 h e_u9) ?_
  clear e_u9
  show mx_S X F L 62 49 [(0, .ref l0), (1, .int l1), (2, .int l2)] [.int u9.1] u9.2 0 0 (none, r, 0, 0)
  refine sx_ic (v := (-1)) hm dX2_checkClassHead_49 (by decide) ?_
  rcases mx_if_el hf with ⟨c14, hf⟩ | ⟨c14, hf⟩
  · refine sb_ic_ne hm dX2_checkClassHead_50 (tgt := 64) rfl (fun _ => ?_) (fun z => absurd c14 z)
    exact j_X2_checkClassHead_64_ok X hF hL nn l0 l1 l2 u9.2 hf
  · refine sb_ic_ne hm dX2_checkClassHead_50 (tgt := 64) rfl (fun z => absurd z c14) (fun _ => ?_)
    refine mx_S.pu (pc2 := 54) (lv2 := [(0, .ref l0), (1, .int l1), (2, .int l2)]) (st2 := [.ref l0]) hm dX2_checkClassHead_53 rfl ?_
    replace hf := mx_sv_el hf; obtain ⟨v10, e_v10, hf⟩ := hf
    refine sx_get hm dX2_checkClassHead_54 rs_RX2_74 (xgr_el e_v10) ?_
    clear e_v10
    refine sx_ic (v := 5) hm dX2_checkClassHead_57 (by decide) ?_
    refine mx_S.pu (pc2 := 59) (lv2 := [(0, .ref l0), (1, .int l1), (2, .int l2)]) (st2 := [.int l2, .int 5, .ref v10]) hm dX2_checkClassHead_58 rfl ?_
    refine sx_ic (v := 2) hm dX2_checkClassHead_59 (by decide) ?_
    replace hf := xl_el hf; obtain ⟨v11, e_v11, hf⟩ := hf
    refine mx_S.pu (pc2 := 61) (lv2 := [(0, .ref l0), (1, .int l1), (2, .int l2)]) (st2 := [.int v11, .int 5, .ref v10]) hm dX2_checkClassHead_60 (by rw [← e_v11]; rfl) ?_
    clear e_v11
    replace hf := mx_gd_el hf; obtain ⟨c12, hf⟩ := hf
    replace hf := mx_sv_el hf; obtain ⟨u13, e_u13, hf⟩ := hf
    refine sx_cv hm dX2_checkClassHead_61 rs_RX2_186 mt_X9_tell [.int 5, .int v11] [] (b := v10) (ci := 9) rfl rfl rfl c12 (Nat.le_of_ble_eq_true rfl) (Nat.le_of_ble_eq_true rfl) (by omega) (by omega) (f_X9_tell_ok X (by omega) (by omega) nn v10 5 v11 u9.2 e_u13) ?_
    clear e_u13
    show mx_S X F L 62 64 [(0, .ref l0), (1, .int l1), (2, .int l2)] [] u13 0 0 (none, r, 0, 0)
    exact j_X2_checkClassHead_64_ok X hF hL nn l0 l1 l2 u13 hf
set_option maxHeartbeats 4000000 in
set_option maxRecDepth 20000 in
theorem j_X2_checkClassHead_23_ok (X : Nat × (Nat → Int32)) {F L : Nat} (hF : 4 ≤ F) (hL : 88 ≤ L) (nn : Nat) (l0 : Nat) (l1 : Int32) (l2 : Int32) (h : mx_H) {r : mx_H} (hf : j_X2_checkClassHead_23 nn l0 l1 l2 h = some r) : mx_S X F L 62 23 [(0, .ref l0), (1, .int l1), (2, .int l2)] [] h 0 0 (none, r, 0, 0) := by
  have hm : mx_mt 62 = some (yX2_checkClassHead, cX2_checkClassHead, 3, none) := mt_X2_checkClassHead
  unfold j_X2_checkClassHead_23 at hf
  refine mx_S.pu (pc2 := 24) (lv2 := [(0, .ref l0), (1, .int l1), (2, .int l2)]) (st2 := [.ref l0]) hm dX2_checkClassHead_23 rfl ?_
  refine mx_S.pu (pc2 := 25) (lv2 := [(0, .ref l0), (1, .int l1), (2, .int l2)]) (st2 := [.int l2, .ref l0]) hm dX2_checkClassHead_24 rfl ?_
  replace hf := mx_gd_el hf; obtain ⟨c15, hf⟩ := hf
  replace hf := mx_sv_el hf; obtain ⟨u16, e_u16, hf⟩ := hf
  refine sx_cv hm dX2_checkClassHead_25 rs_RX2_184 mt_X2_classAt [.int l2] [] (b := l0) (ci := 2) rfl rfl rfl c15 (Nat.le_of_ble_eq_true rfl) (Nat.le_of_ble_eq_true rfl) (by omega) (by omega) (f_X2_classAt_ok X (by omega) (by omega) nn l0 l2 h e_u16) ?_
  clear e_u16
  show mx_S X F L 62 28 [(0, .ref l0), (1, .int l1), (2, .int l2)] [.int u16.1] u16.2 0 0 (none, r, 0, 0)
  refine sx_bi (v := 8) hm dX2_checkClassHead_28 (by decide) ?_
  refine mx_S.pu (pc2 := 31) (lv2 := [(0, .ref l0), (1, .int l1), (2, .int l2)]) (st2 := [.int l1, .int 8, .int u16.1]) hm dX2_checkClassHead_30 rfl ?_
  replace hf := xl_el hf; obtain ⟨v17, e_v17, hf⟩ := hf
  refine mx_S.pu (pc2 := 32) (lv2 := [(0, .ref l0), (1, .int l1), (2, .int l2)]) (st2 := [.int v17, .int u16.1]) hm dX2_checkClassHead_31 (by rw [← e_v17]; rfl) ?_
  clear e_v17
  rcases mx_if_el hf with ⟨c21, hf⟩ | ⟨c21, hf⟩
  · refine sb_ic_eq hm dX2_checkClassHead_32 (tgt := 44) rfl (fun _ => ?_) (fun z => absurd c21 z)
    exact j_X2_checkClassHead_44_ok X hF hL nn l0 l1 l2 u16.2 hf
  · refine sb_ic_eq hm dX2_checkClassHead_32 (tgt := 44) rfl (fun z => absurd z c21) (fun _ => ?_)
    refine mx_S.pu (pc2 := 36) (lv2 := [(0, .ref l0), (1, .int l1), (2, .int l2)]) (st2 := [.ref l0]) hm dX2_checkClassHead_35 rfl ?_
    replace hf := mx_sv_el hf; obtain ⟨v18, e_v18, hf⟩ := hf
    refine sx_get hm dX2_checkClassHead_36 rs_RX2_74 (xgr_el e_v18) ?_
    clear e_v18
    refine sx_ic (v := 4) hm dX2_checkClassHead_39 (by decide) ?_
    refine mx_S.pu (pc2 := 41) (lv2 := [(0, .ref l0), (1, .int l1), (2, .int l2)]) (st2 := [.int l2, .int 4, .ref v18]) hm dX2_checkClassHead_40 rfl ?_
    replace hf := mx_gd_el hf; obtain ⟨c19, hf⟩ := hf
    replace hf := mx_sv_el hf; obtain ⟨u20, e_u20, hf⟩ := hf
    refine sx_cv hm dX2_checkClassHead_41 rs_RX2_186 mt_X9_tell [.int 4, .int l2] [] (b := v18) (ci := 9) rfl rfl rfl c19 (Nat.le_of_ble_eq_true rfl) (Nat.le_of_ble_eq_true rfl) (by omega) (by omega) (f_X9_tell_ok X (by omega) (by omega) nn v18 4 l2 u16.2 e_u20) ?_
    clear e_u20
    show mx_S X F L 62 44 [(0, .ref l0), (1, .int l1), (2, .int l2)] [] u20 0 0 (none, r, 0, 0)
    exact j_X2_checkClassHead_44_ok X hF hL nn l0 l1 l2 u20 hf
set_option maxHeartbeats 4000000 in
set_option maxRecDepth 20000 in
theorem f_X2_checkClassHead_ok (X : Nat × (Nat → Int32)) {F L : Nat} (hF : 4 ≤ F) (hL : 88 ≤ L) (nn : Nat) (a0 : Nat) (a1 : Int32) (h : mx_H) {r : mx_H} (hf : f_X2_checkClassHead nn a0 a1 h = some r) : mx_R X F L 62 [.ref a0, .int a1] h (none, r, 0, 0) := by
  have hm : mx_mt 62 = some (yX2_checkClassHead, cX2_checkClassHead, 3, none) := mt_X2_checkClassHead
  show mx_S X F L 62 0 [(0, .ref a0), (1, .int a1)] [] h 0 0 (none, r, 0, 0)
  unfold f_X2_checkClassHead at hf
  refine mx_S.pu (pc2 := 1) (lv2 := [(0, .ref a0), (1, .int a1)]) (st2 := [.ref a0]) hm dX2_checkClassHead_0 rfl ?_
  replace hf := mx_sv_el hf; obtain ⟨v22, e_v22, hf⟩ := hf
  refine sx_get hm dX2_checkClassHead_1 rs_RX2_20 (xgr_el e_v22) ?_
  clear e_v22
  refine mx_S.pu (pc2 := 5) (lv2 := [(0, .ref a0), (1, .int a1)]) (st2 := [.int a1, .ref v22]) hm dX2_checkClassHead_4 rfl ?_
  replace hf := mx_sv_el hf; obtain ⟨v23, e_v23, hf⟩ := hf
  refine sx_ald hm dX2_checkClassHead_5 e_v23 ?_
  clear e_v23
  refine mx_S.pu (pc2 := 7) (lv2 := [(2, .int v23), (0, .ref a0), (1, .int a1)]) (st2 := []) hm dX2_checkClassHead_6 rfl ?_
  refine mx_S.pu (pc2 := 8) (lv2 := [(2, .int v23), (0, .ref a0), (1, .int a1)]) (st2 := [.int a1]) hm dX2_checkClassHead_7 rfl ?_
  refine sx_bi (v := 8) hm dX2_checkClassHead_8 (by decide) ?_
  rcases mx_if_el hf with ⟨c27, hf⟩ | ⟨c27, hf⟩
  · refine sb_ic_lt hm dX2_checkClassHead_10 (tgt := 23) rfl (fun _ => ?_) (fun z => absurd c27 z)
    refine mx_S.ext [(0, .ref a0), (1, .int a1), (2, .int v23)] (mx_sub_pos [1, 2, 0] rfl (show ([2, 0, 1] : List Nat).Nodup by decide)) ?_
    exact j_X2_checkClassHead_23_ok X hF hL nn a0 a1 v23 h hf
  · refine sb_ic_lt hm dX2_checkClassHead_10 (tgt := 23) rfl (fun z => absurd z c27) (fun _ => ?_)
    refine mx_S.pu (pc2 := 14) (lv2 := [(2, .int v23), (0, .ref a0), (1, .int a1)]) (st2 := [.ref a0]) hm dX2_checkClassHead_13 rfl ?_
    replace hf := mx_sv_el hf; obtain ⟨v24, e_v24, hf⟩ := hf
    refine sx_get hm dX2_checkClassHead_14 rs_RX2_74 (xgr_el e_v24) ?_
    clear e_v24
    refine sx_bi (v := 11) hm dX2_checkClassHead_17 (by decide) ?_
    refine mx_S.pu (pc2 := 20) (lv2 := [(2, .int v23), (0, .ref a0), (1, .int a1)]) (st2 := [.int v23, .int 11, .ref v24]) hm dX2_checkClassHead_19 rfl ?_
    replace hf := mx_gd_el hf; obtain ⟨c25, hf⟩ := hf
    replace hf := mx_sv_el hf; obtain ⟨u26, e_u26, hf⟩ := hf
    refine sx_cv hm dX2_checkClassHead_20 rs_RX2_186 mt_X9_tell [.int 11, .int v23] [] (b := v24) (ci := 9) rfl rfl rfl c25 (Nat.le_of_ble_eq_true rfl) (Nat.le_of_ble_eq_true rfl) (by omega) (by omega) (f_X9_tell_ok X (by omega) (by omega) nn v24 11 v23 h e_u26) ?_
    clear e_u26
    show mx_S X F L 62 23 [(2, .int v23), (0, .ref a0), (1, .int a1)] [] u26 0 0 (none, r, 0, 0)
    refine mx_S.ext [(0, .ref a0), (1, .int a1), (2, .int v23)] (mx_sub_pos [1, 2, 0] rfl (show ([2, 0, 1] : List Nat).Nodup by decide)) ?_
    exact j_X2_checkClassHead_23_ok X hF hL nn a0 a1 v23 u26 hf
set_option maxHeartbeats 4000000 in
set_option maxRecDepth 20000 in
theorem w_X2_nameClasses_47_ok (X : Nat × (Nat → Int32)) {F L : Nat} (hF : 1 ≤ F) (hL : 21 ≤ L) (nn : Nat) : ∀ (k : Nat) (l0 : Nat) (l1 : Int32) (h : mx_H) (r : mx_H), w_X2_nameClasses_47 nn k l0 l1 h = some r → mx_S X F L 57 47 [(0, .ref l0), (1, .int l1)] [] h 0 0 (none, r, 0, 0) := by
  have hm : mx_mt 57 = some (yX2_nameClasses, cX2_nameClasses, 3, none) := mt_X2_nameClasses
  intro k
  induction k with
  | zero => intro l0 l1 h r hf; cases hf
  | succ k ih =>
    intro l0 l1 h r hf
    unfold w_X2_nameClasses_47 at hf
    refine mx_S.pu (pc2 := 48) (lv2 := [(0, .ref l0), (1, .int l1)]) (st2 := [.int l1]) hm dX2_nameClasses_47 rfl ?_
    refine mx_S.pu (pc2 := 49) (lv2 := [(0, .ref l0), (1, .int l1)]) (st2 := [.ref l0, .int l1]) hm dX2_nameClasses_48 rfl ?_
    replace hf := mx_sv_el hf; obtain ⟨v1, e_v1, hf⟩ := hf
    refine sx_get hm dX2_nameClasses_49 rs_RX2_78 (xgi_el e_v1) ?_
    clear e_v1
    rcases mx_if_el hf with ⟨c19, hf⟩ | ⟨c19, hf⟩
    · refine sb_ic_ge hm dX2_nameClasses_52 (tgt := 104) rfl (fun _ => ?_) (fun z => absurd c19 z)
      cases hf
      exact sx_ret hm dX2_nameClasses_104 rfl
    · refine sb_ic_ge hm dX2_nameClasses_52 (tgt := 104) rfl (fun z => absurd z c19) (fun _ => ?_)
      refine mx_S.pu (pc2 := 56) (lv2 := [(0, .ref l0), (1, .int l1)]) (st2 := [.ref l0]) hm dX2_nameClasses_55 rfl ?_
      replace hf := mx_sv_el hf; obtain ⟨v2, e_v2, hf⟩ := hf
      refine sx_get hm dX2_nameClasses_56 rs_RX2_74 (xgr_el e_v2) ?_
      clear e_v2
      refine mx_S.pu (pc2 := 60) (lv2 := [(0, .ref l0), (1, .int l1)]) (st2 := [.ref l0, .ref v2]) hm dX2_nameClasses_59 rfl ?_
      replace hf := mx_sv_el hf; obtain ⟨v3, e_v3, hf⟩ := hf
      refine sx_get hm dX2_nameClasses_60 rs_RX2_20 (xgr_el e_v3) ?_
      clear e_v3
      refine mx_S.pu (pc2 := 64) (lv2 := [(0, .ref l0), (1, .int l1)]) (st2 := [.int l1, .ref v3, .ref v2]) hm dX2_nameClasses_63 rfl ?_
      replace hf := mx_sv_el hf; obtain ⟨v4, e_v4, hf⟩ := hf
      refine sx_ald hm dX2_nameClasses_64 e_v4 ?_
      clear e_v4
      replace hf := mx_gd_el hf; obtain ⟨c5, hf⟩ := hf
      replace hf := mx_sv_el hf; obtain ⟨u6, e_u6, hf⟩ := hf
      refine sx_cv hm dX2_nameClasses_65 rs_RX2_135 mt_X9_valueAt [.int v4] [] (b := v2) (ci := 9) rfl rfl rfl c5 (Nat.le_of_ble_eq_true rfl) (Nat.le_of_ble_eq_true rfl) (by omega) (by omega) (f_X9_valueAt_ok X (by omega) (by omega) nn v2 v4 h e_u6) ?_
      clear e_u6
      show mx_S X F L 57 68 [(0, .ref l0), (1, .int l1)] [.int u6.1] u6.2 0 0 (none, r, 0, 0)
      refine mx_S.pu (pc2 := 69) (lv2 := [(2, .int u6.1), (0, .ref l0), (1, .int l1)]) (st2 := []) hm dX2_nameClasses_68 rfl ?_
      refine mx_S.pu (pc2 := 70) (lv2 := [(2, .int u6.1), (0, .ref l0), (1, .int l1)]) (st2 := [.int u6.1]) hm dX2_nameClasses_69 rfl ?_
      refine mx_S.pu (pc2 := 71) (lv2 := [(2, .int u6.1), (0, .ref l0), (1, .int l1)]) (st2 := [.ref l0, .int u6.1]) hm dX2_nameClasses_70 rfl ?_
      replace hf := mx_sv_el hf; obtain ⟨v7, e_v7, hf⟩ := hf
      refine sx_get hm dX2_nameClasses_71 rs_RX2_24 (xgr_el e_v7) ?_
      clear e_v7
      replace hf := mx_sv_el hf; obtain ⟨v8, e_v8, hf⟩ := hf
      refine sx_len hm dX2_nameClasses_74 e_v8 ?_
      clear e_v8
      rcases mx_if_el hf with ⟨c18, hf⟩ | ⟨c18, hf⟩
      · refine sb_ic_ge hm dX2_nameClasses_75 (tgt := 98) rfl (fun _ => ?_) (fun z => absurd c18 z)
        replace hf := xl_el hf; obtain ⟨v9, e_v9, hf⟩ := hf
        refine mx_S.pu (pc2 := 101) (lv2 := [(1, .int v9), (2, .int u6.1), (0, .ref l0)]) (st2 := []) hm dX2_nameClasses_98 (by rw [← e_v9]; rfl) ?_
        clear e_v9
        refine mx_S.pu (pc2 := 47) (lv2 := [(1, .int v9), (2, .int u6.1), (0, .ref l0)]) (st2 := []) hm dX2_nameClasses_101 rfl ?_
        refine mx_S.ext [(0, .ref l0), (1, .int v9)] (mx_sub_pos [2, 0] rfl (show ([1, 2, 0] : List Nat).Nodup by decide)) ?_
        exact ih l0 v9 u6.2 _ hf
      · refine sb_ic_ge hm dX2_nameClasses_75 (tgt := 98) rfl (fun z => absurd z c18) (fun _ => ?_)
        refine mx_S.pu (pc2 := 79) (lv2 := [(2, .int u6.1), (0, .ref l0), (1, .int l1)]) (st2 := [.ref l0]) hm dX2_nameClasses_78 rfl ?_
        replace hf := mx_sv_el hf; obtain ⟨v10, e_v10, hf⟩ := hf
        refine sx_get hm dX2_nameClasses_79 rs_RX2_24 (xgr_el e_v10) ?_
        clear e_v10
        refine mx_S.pu (pc2 := 83) (lv2 := [(2, .int u6.1), (0, .ref l0), (1, .int l1)]) (st2 := [.int u6.1, .ref v10]) hm dX2_nameClasses_82 rfl ?_
        replace hf := mx_sv_el hf; obtain ⟨v11, e_v11, hf⟩ := hf
        refine sx_ald hm dX2_nameClasses_83 e_v11 ?_
        clear e_v11
        refine sx_ic (v := (-1)) hm dX2_nameClasses_84 (by decide) ?_
        rcases mx_if_el hf with ⟨c17, hf⟩ | ⟨c17, hf⟩
        · refine sb_ic_ne hm dX2_nameClasses_85 (tgt := 98) rfl (fun _ => ?_) (fun z => absurd c17 z)
          replace hf := xl_el hf; obtain ⟨v12, e_v12, hf⟩ := hf
          refine mx_S.pu (pc2 := 101) (lv2 := [(1, .int v12), (2, .int u6.1), (0, .ref l0)]) (st2 := []) hm dX2_nameClasses_98 (by rw [← e_v12]; rfl) ?_
          clear e_v12
          refine mx_S.pu (pc2 := 47) (lv2 := [(1, .int v12), (2, .int u6.1), (0, .ref l0)]) (st2 := []) hm dX2_nameClasses_101 rfl ?_
          refine mx_S.ext [(0, .ref l0), (1, .int v12)] (mx_sub_pos [2, 0] rfl (show ([1, 2, 0] : List Nat).Nodup by decide)) ?_
          exact ih l0 v12 u6.2 _ hf
        · refine sb_ic_ne hm dX2_nameClasses_85 (tgt := 98) rfl (fun z => absurd z c17) (fun _ => ?_)
          refine mx_S.pu (pc2 := 89) (lv2 := [(2, .int u6.1), (0, .ref l0), (1, .int l1)]) (st2 := [.ref l0]) hm dX2_nameClasses_88 rfl ?_
          replace hf := mx_sv_el hf; obtain ⟨v13, e_v13, hf⟩ := hf
          refine sx_get hm dX2_nameClasses_89 rs_RX2_24 (xgr_el e_v13) ?_
          clear e_v13
          refine mx_S.pu (pc2 := 93) (lv2 := [(2, .int u6.1), (0, .ref l0), (1, .int l1)]) (st2 := [.int u6.1, .ref v13]) hm dX2_nameClasses_92 rfl ?_
          refine sx_bi (v := 8) hm dX2_nameClasses_93 (by decide) ?_
          refine mx_S.pu (pc2 := 96) (lv2 := [(2, .int u6.1), (0, .ref l0), (1, .int l1)]) (st2 := [.int l1, .int 8, .int u6.1, .ref v13]) hm dX2_nameClasses_95 rfl ?_
          replace hf := xl_el hf; obtain ⟨v14, e_v14, hf⟩ := hf
          refine mx_S.pu (pc2 := 97) (lv2 := [(2, .int u6.1), (0, .ref l0), (1, .int l1)]) (st2 := [.int v14, .int u6.1, .ref v13]) hm dX2_nameClasses_96 (by rw [← e_v14]; rfl) ?_
          clear e_v14
          replace hf := mx_sv_el hf; obtain ⟨h15, e_h15, hf⟩ := hf
          refine sx_ast hm dX2_nameClasses_97 e_h15 ?_
          clear e_h15
          replace hf := xl_el hf; obtain ⟨v16, e_v16, hf⟩ := hf
          refine mx_S.pu (pc2 := 101) (lv2 := [(1, .int v16), (2, .int u6.1), (0, .ref l0)]) (st2 := []) hm dX2_nameClasses_98 (by rw [← e_v16]; rfl) ?_
          clear e_v16
          refine mx_S.pu (pc2 := 47) (lv2 := [(1, .int v16), (2, .int u6.1), (0, .ref l0)]) (st2 := []) hm dX2_nameClasses_101 rfl ?_
          refine mx_S.ext [(0, .ref l0), (1, .int v16)] (mx_sub_pos [2, 0] rfl (show ([1, 2, 0] : List Nat).Nodup by decide)) ?_
          exact ih l0 v16 h15 _ hf
