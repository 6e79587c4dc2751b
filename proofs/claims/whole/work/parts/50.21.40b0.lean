def hg5_X13_expression (X : Nat × (Nat → Int32)) (d : Nat) (rc : tg_X13_expression) : Prop := (∀ {F L : Nat}, 3 + d ≤ F → 63 + d * 28 ≤ L → ∀ (a0 : Nat) (a1 : Int32) (h : mx_H) {r : (Int32 × mx_H)}, rc.1 a0 a1 h = some r → mx_R X F L 407 [.ref a0, .int a1] h (some (.int r.1), r.2, 0, 0)) ∧ (∀ {F L : Nat}, 3 + d ≤ F → 63 + d * 28 ≤ L → ∀ (a0 : Nat) (a1 : Int32) (a2 : Int32) (h : mx_H) {r : (Int32 × mx_H)}, rc.2.1 a0 a1 a2 h = some r → mx_R X F L 409 [.ref a0, .int a1, .int a2] h (some (.int r.1), r.2, 0, 0)) ∧ (∀ {F L : Nat}, 3 + d ≤ F → 63 + d * 28 ≤ L → ∀ (a0 : Nat) (a1 : Int32) (h : mx_H) {r : (Int32 × mx_H)}, rc.2.2.1 a0 a1 h = some r → mx_R X F L 411 [.ref a0, .int a1] h (some (.int r.1), r.2, 0, 0)) ∧ (∀ {F L : Nat}, 3 + d ≤ F → 63 + d * 28 ≤ L → ∀ (a0 : Nat) (a1 : Int32) (h : mx_H) {r : (Int32 × mx_H)}, rc.2.2.2.1 a0 a1 h = some r → mx_R X F L 412 [.ref a0, .int a1] h (some (.int r.1), r.2, 0, 0)) ∧ (∀ {F L : Nat}, 3 + d ≤ F → 63 + d * 28 ≤ L → ∀ (a0 : Nat) (a1 : Int32) (h : mx_H) {r : (Int32 × mx_H)}, rc.2.2.2.2.1 a0 a1 h = some r → mx_R X F L 413 [.ref a0, .int a1] h (some (.int r.1), r.2, 0, 0)) ∧ (∀ {F L : Nat}, 3 + d ≤ F → 63 + d * 28 ≤ L → ∀ (a0 : Nat) (a1 : Int32) (h : mx_H) {r : (Int32 × mx_H)}, rc.2.2.2.2.2.1 a0 a1 h = some r → mx_R X F L 414 [.ref a0, .int a1] h (some (.int r.1), r.2, 0, 0)) ∧ (∀ {F L : Nat}, 3 + d ≤ F → 63 + d * 28 ≤ L → ∀ (a0 : Nat) (a1 : Int32) (h : mx_H) {r : (Int32 × mx_H)}, rc.2.2.2.2.2.2 a0 a1 h = some r → mx_R X F L 415 [.ref a0, .int a1] h (some (.int r.1), r.2, 0, 0))
set_option maxHeartbeats 4000000 in
set_option maxRecDepth 20000 in
theorem o_X13_expression_ok (X : Nat × (Nat → Int32)) {F L d : Nat} (hF : 3 + (d + 1) ≤ F) (hL : 63 + (d + 1) * 28 ≤ L) (nn : Nat) {rc : tg_X13_expression} (hrc : hg5_X13_expression X d rc) (a0 : Nat) (a1 : Int32) (h : mx_H) {r : (Int32 × mx_H)} (hf : o_X13_expression nn rc a0 a1 h = some r) : mx_R X F L 407 [.ref a0, .int a1] h (some (.int r.1), r.2, 0, 0) := by
  have hm : mx_mt 407 = some (yX13_expression, cX13_expression, 5, (some .int)) := mt_X13_expression
  show mx_S X F L 407 0 [(0, .ref a0), (1, .int a1)] [] h 0 0 (some (.int r.1), r.2, 0, 0)
  unfold o_X13_expression at hf
  refine mx_S.pu (pc2 := 1) (lv2 := [(0, .ref a0), (1, .int a1)]) (st2 := [.ref a0]) hm dX13_expression_0 rfl ?_
  refine mx_S.pu (pc2 := 2) (lv2 := [(0, .ref a0), (1, .int a1)]) (st2 := [.int a1, .ref a0]) hm dX13_expression_1 rfl ?_
  replace hf := mx_gd_el hf; obtain ⟨c1, hf⟩ := hf
  replace hf := mx_sv_el hf; obtain ⟨u2, e_u2, hf⟩ := hf
  refine sx_cv hm dX13_expression_2 rs_RX13_437 mt_X13_isDeep [.int a1] [] (b := a0) (ci := 13) rfl rfl rfl c1 (Nat.le_of_ble_eq_true rfl) (Nat.le_of_ble_eq_true rfl) (by omega) (by omega) (f_X13_isDeep_ok X (by omega) (by omega) nn a0 a1 h e_u2) ?_
  clear e_u2
  show mx_S X F L 407 5 [(0, .ref a0), (1, .int a1)] [.int u2.1] u2.2 0 0 (some (.int r.1), r.2, 0, 0)
  rcases mx_if_el hf with ⟨c33, hf⟩ | ⟨c33, hf⟩
  · refine sb_if_eq hm dX13_expression_5 (tgt := 10) rfl (fun _ => ?_) (fun z => absurd c33 z)
    refine mx_S.pu (pc2 := 11) (lv2 := [(0, .ref a0), (1, .int a1)]) (st2 := [.ref a0]) hm dX13_expression_10 rfl ?_
    replace hf := mx_sv_el hf; obtain ⟨v3, e_v3, hf⟩ := hf
    refine sx_get hm dX13_expression_11 rs_RX13_376 (xgi_el e_v3) ?_
    clear e_v3
    refine mx_S.pu (pc2 := 15) (lv2 := [(2, .int v3), (0, .ref a0), (1, .int a1)]) (st2 := []) hm dX13_expression_14 rfl ?_
    refine mx_S.pu (pc2 := 16) (lv2 := [(2, .int v3), (0, .ref a0), (1, .int a1)]) (st2 := [.ref a0]) hm dX13_expression_15 rfl ?_
    refine sx_ic (v := 0) hm dX13_expression_16 (by decide) ?_
    refine mx_S.pu (pc2 := 18) (lv2 := [(2, .int v3), (0, .ref a0), (1, .int a1)]) (st2 := [.int a1, .int 0, .ref a0]) hm dX13_expression_17 rfl ?_
    refine sx_ic (v := 1) hm dX13_expression_18 (by decide) ?_
    replace hf := xl_el hf; obtain ⟨v4, e_v4, hf⟩ := hf
    refine mx_S.pu (pc2 := 20) (lv2 := [(2, .int v3), (0, .ref a0), (1, .int a1)]) (st2 := [.int v4, .int 0, .ref a0]) hm dX13_expression_19 (by rw [← e_v4]; rfl) ?_
    clear e_v4
    replace hf := mx_gd_el hf; obtain ⟨c5, hf⟩ := hf
    replace hf := mx_sv_el hf; obtain ⟨u6, e_u6, hf⟩ := hf
    refine sx_cv hm dX13_expression_20 rs_RX13_450 mt_X13_sides [.int 0, .int v4] [] (b := a0) (ci := 13) rfl rfl rfl c5 (Nat.le_of_ble_eq_true rfl) (Nat.le_of_ble_eq_true rfl) (by omega) (by omega) (hrc.2.1 (by omega) (by omega) a0 0 v4 u2.2 e_u6) ?_
    clear e_u6
    show mx_S X F L 407 23 [(2, .int v3), (0, .ref a0), (1, .int a1)] [.int u6.1] u6.2 0 0 (some (.int r.1), r.2, 0, 0)
    refine mx_S.pu (pc2 := 24) (lv2 := [(3, .int u6.1), (2, .int v3), (0, .ref a0), (1, .int a1)]) (st2 := []) hm dX13_expression_23 rfl ?_
    refine mx_S.pu (pc2 := 25) (lv2 := [(3, .int u6.1), (2, .int v3), (0, .ref a0), (1, .int a1)]) (st2 := [.ref a0]) hm dX13_expression_24 rfl ?_
    replace hf := mx_sv_el hf; obtain ⟨v7, e_v7, hf⟩ := hf
    refine sx_get hm dX13_expression_25 rs_RX13_319 (xgi_el e_v7) ?_
    clear e_v7
    rcases mx_if_el hf with ⟨c32, hf⟩ | ⟨c32, hf⟩
    · refine sb_if_ne hm dX13_expression_28 (tgt := 44) rfl (fun _ => ?_) (fun z => absurd c32 z)
      refine mx_S.pu (pc2 := 45) (lv2 := [(3, .int u6.1), (2, .int v3), (0, .ref a0), (1, .int a1)]) (st2 := [.int u6.1]) hm dX13_expression_44 rfl ?_
      cases hf
      exact sx_ire hm dX13_expression_45 rfl rfl
    · refine sb_if_ne hm dX13_expression_28 (tgt := 44) rfl (fun z => absurd z c32) (fun _ => ?_)
      refine mx_S.pu (pc2 := 32) (lv2 := [(3, .int u6.1), (2, .int v3), (0, .ref a0), (1, .int a1)]) (st2 := [.ref a0]) hm dX13_expression_31 rfl ?_
      refine mx_S.pu (pc2 := 33) (lv2 := [(3, .int u6.1), (2, .int v3), (0, .ref a0), (1, .int a1)]) (st2 := [.ref a0, .ref a0]) hm dX13_expression_32 rfl ?_
      replace hf := mx_sv_el hf; obtain ⟨v8, e_v8, hf⟩ := hf
      refine sx_get hm dX13_expression_33 rs_RX13_376 (xgi_el e_v8) ?_
      clear e_v8
      refine sx_bi (v := 63) hm dX13_expression_36 (by decide) ?_
      replace hf := mx_gd_el hf; obtain ⟨c9, hf⟩ := hf
      replace hf := mx_sv_el hf; obtain ⟨u10, e_u10, hf⟩ := hf
      refine sx_cv hm dX13_expression_38 rs_RX13_383 mt_X13_isSign [.int v8, .int 63] [] (b := a0) (ci := 13) rfl rfl rfl c9 (Nat.le_of_ble_eq_true rfl) (Nat.le_of_ble_eq_true rfl) (by omega) (by omega) (f_X13_isSign_ok X (by omega) (by omega) nn a0 v8 63 u6.2 e_u10) ?_
      clear e_u10
      show mx_S X F L 407 41 [(3, .int u6.1), (2, .int v3), (0, .ref a0), (1, .int a1)] [.int u10.1] u10.2 0 0 (some (.int r.1), r.2, 0, 0)
      rcases mx_if_el hf with ⟨c31, hf⟩ | ⟨c31, hf⟩
      · refine sb_if_ne hm dX13_expression_41 (tgt := 46) rfl (fun _ => ?_) (fun z => absurd c31 z)
        refine mx_S.pu (pc2 := 47) (lv2 := [(3, .int u6.1), (2, .int v3), (0, .ref a0), (1, .int a1)]) (st2 := [.ref a0]) hm dX13_expression_46 rfl ?_
        refine sx_bi (v := 39) hm dX13_expression_47 (by decide) ?_
        refine mx_S.pu (pc2 := 50) (lv2 := [(3, .int u6.1), (2, .int v3), (0, .ref a0), (1, .int a1)]) (st2 := [.ref a0, .int 39, .ref a0]) hm dX13_expression_49 rfl ?_
        replace hf := mx_sv_el hf; obtain ⟨v11, e_v11, hf⟩ := hf
        refine sx_get hm dX13_expression_50 rs_RX13_376 (xgi_el e_v11) ?_
        clear e_v11
        refine mx_S.pu (pc2 := 54) (lv2 := [(3, .int u6.1), (2, .int v3), (0, .ref a0), (1, .int a1)]) (st2 := [.int v3, .int v11, .int 39, .ref a0]) hm dX13_expression_53 rfl ?_
        replace hf := mx_gd_el hf; obtain ⟨c12, hf⟩ := hf
        replace hf := mx_sv_el hf; obtain ⟨u13, e_u13, hf⟩ := hf
        refine sx_cv hm dX13_expression_54 rs_RX13_430 mt_X13_add [.int 39, .int v11, .int v3] [] (b := a0) (ci := 13) rfl rfl rfl c12 (Nat.le_of_ble_eq_true rfl) (Nat.le_of_ble_eq_true rfl) (by omega) (by omega) (f_X13_add_ok X (by omega) (by omega) nn a0 39 v11 v3 u10.2 e_u13) ?_
        clear e_u13
        show mx_S X F L 407 57 [(3, .int u6.1), (2, .int v3), (0, .ref a0), (1, .int a1)] [.int u13.1] u13.2 0 0 (some (.int r.1), r.2, 0, 0)
        refine mx_S.pu (pc2 := 59) (lv2 := [(4, .int u13.1), (3, .int u6.1), (2, .int v3), (0, .ref a0), (1, .int a1)]) (st2 := []) hm dX13_expression_57 rfl ?_
        refine mx_S.pu (pc2 := 60) (lv2 := [(4, .int u13.1), (3, .int u6.1), (2, .int v3), (0, .ref a0), (1, .int a1)]) (st2 := [.ref a0]) hm dX13_expression_59 rfl ?_
        refine mx_S.pu (pc2 := 61) (lv2 := [(4, .int u13.1), (3, .int u6.1), (2, .int v3), (0, .ref a0), (1, .int a1)]) (st2 := [.ref a0, .ref a0]) hm dX13_expression_60 rfl ?_
        replace hf := mx_sv_el hf; obtain ⟨v14, e_v14, hf⟩ := hf
        refine sx_get hm dX13_expression_61 rs_RX13_376 (xgi_el e_v14) ?_
        clear e_v14
        refine sx_ic (v := 1) hm dX13_expression_64 (by decide) ?_
        replace hf := xl_el hf; obtain ⟨v15, e_v15, hf⟩ := hf
        refine mx_S.pu (pc2 := 66) (lv2 := [(4, .int u13.1), (3, .int u6.1), (2, .int v3), (0, .ref a0), (1, .int a1)]) (st2 := [.int v15, .ref a0]) hm dX13_expression_65 (by rw [← e_v15]; rfl) ?_
        clear e_v15
        replace hf := mx_sv_el hf; obtain ⟨h16, e_h16, hf⟩ := hf
        refine sx_put hm dX13_expression_66 rs_RX13_376 ft_13_23 ⟨rfl, rfl⟩ (fun z => by cases z) e_h16 ?_
        clear e_h16
        refine mx_S.pu (pc2 := 70) (lv2 := [(4, .int u13.1), (3, .int u6.1), (2, .int v3), (0, .ref a0), (1, .int a1)]) (st2 := [.ref a0]) hm dX13_expression_69 rfl ?_
        replace hf := mx_sv_el hf; obtain ⟨v17, e_v17, hf⟩ := hf
        refine sx_get hm dX13_expression_70 rs_RX13_37 (xgr_el e_v17) ?_
        clear e_v17
        refine mx_S.pu (pc2 := 75) (lv2 := [(4, .int u13.1), (3, .int u6.1), (2, .int v3), (0, .ref a0), (1, .int a1)]) (st2 := [.int u13.1, .ref v17]) hm dX13_expression_73 rfl ?_
        refine mx_S.pu (pc2 := 76) (lv2 := [(4, .int u13.1), (3, .int u6.1), (2, .int v3), (0, .ref a0), (1, .int a1)]) (st2 := [.int u6.1, .int u13.1, .ref v17]) hm dX13_expression_75 rfl ?_
        replace hf := mx_sv_el hf; obtain ⟨h18, e_h18, hf⟩ := hf
        refine sx_ast hm dX13_expression_76 e_h18 ?_
        clear e_h18
        refine mx_S.pu (pc2 := 78) (lv2 := [(4, .int u13.1), (3, .int u6.1), (2, .int v3), (0, .ref a0), (1, .int a1)]) (st2 := [.ref a0]) hm dX13_expression_77 rfl ?_
        replace hf := mx_sv_el hf; obtain ⟨v19, e_v19, hf⟩ := hf
        refine sx_get hm dX13_expression_78 rs_RX13_40 (xgr_el e_v19) ?_
        clear e_v19
        refine mx_S.pu (pc2 := 83) (lv2 := [(4, .int u13.1), (3, .int u6.1), (2, .int v3), (0, .ref a0), (1, .int a1)]) (st2 := [.int u13.1, .ref v19]) hm dX13_expression_81 rfl ?_
        refine mx_S.pu (pc2 := 84) (lv2 := [(4, .int u13.1), (3, .int u6.1), (2, .int v3), (0, .ref a0), (1, .int a1)]) (st2 := [.ref a0, .int u13.1, .ref v19]) hm dX13_expression_83 rfl ?_
        refine mx_S.pu (pc2 := 85) (lv2 := [(4, .int u13.1), (3, .int u6.1), (2, .int v3), (0, .ref a0), (1, .int a1)]) (st2 := [.int a1, .ref a0, .int u13.1, .ref v19]) hm dX13_expression_84 rfl ?_
        refine sx_ic (v := 1) hm dX13_expression_85 (by decide) ?_
        replace hf := xl_el hf; obtain ⟨v20, e_v20, hf⟩ := hf
        refine mx_S.pu (pc2 := 87) (lv2 := [(4, .int u13.1), (3, .int u6.1), (2, .int v3), (0, .ref a0), (1, .int a1)]) (st2 := [.int v20, .ref a0, .int u13.1, .ref v19]) hm dX13_expression_86 (by rw [← e_v20]; rfl) ?_
        clear e_v20
        replace hf := mx_gd_el hf; obtain ⟨c21, hf⟩ := hf
        replace hf := mx_sv_el hf; obtain ⟨u22, e_u22, hf⟩ := hf
        refine sx_cv hm dX13_expression_87 rs_RX13_444 mt_X13_expression [.int v20] [.int u13.1, .ref v19] (b := a0) (ci := 13) rfl rfl rfl c21 (Nat.le_of_ble_eq_true rfl) (Nat.le_of_ble_eq_true rfl) (by omega) (by omega) (hrc.1 (by omega) (by omega) a0 v20 h18 e_u22) ?_
        clear e_u22
        show mx_S X F L 407 90 [(4, .int u13.1), (3, .int u6.1), (2, .int v3), (0, .ref a0), (1, .int a1)] [.int u22.1, .int u13.1, .ref v19] u22.2 0 0 (some (.int r.1), r.2, 0, 0)
        replace hf := mx_sv_el hf; obtain ⟨h23, e_h23, hf⟩ := hf
        refine sx_ast hm dX13_expression_90 e_h23 ?_
        clear e_h23
        refine mx_S.pu (pc2 := 92) (lv2 := [(4, .int u13.1), (3, .int u6.1), (2, .int v3), (0, .ref a0), (1, .int a1)]) (st2 := [.ref a0]) hm dX13_expression_91 rfl ?_
        refine sx_bi (v := 58) hm dX13_expression_92 (by decide) ?_
        replace hf := mx_gd_el hf; obtain ⟨c24, hf⟩ := hf
        replace hf := mx_sv_el hf; obtain ⟨u25, e_u25, hf⟩ := hf
        refine sx_cv hm dX13_expression_94 rs_RX13_406 mt_X13_sign_ [.int 58] [] (b := a0) (ci := 13) rfl rfl rfl c24 (Nat.le_of_ble_eq_true rfl) (Nat.le_of_ble_eq_true rfl) (by omega) (by omega) (f_X13_sign__ok X (by omega) (by omega) nn a0 58 h23 e_u25) ?_
        clear e_u25
        show mx_S X F L 407 97 [(4, .int u13.1), (3, .int u6.1), (2, .int v3), (0, .ref a0), (1, .int a1)] [] u25 0 0 (some (.int r.1), r.2, 0, 0)
        refine mx_S.pu (pc2 := 98) (lv2 := [(4, .int u13.1), (3, .int u6.1), (2, .int v3), (0, .ref a0), (1, .int a1)]) (st2 := [.ref a0]) hm dX13_expression_97 rfl ?_
        replace hf := mx_sv_el hf; obtain ⟨v26, e_v26, hf⟩ := hf
        refine sx_get hm dX13_expression_98 rs_RX13_43 (xgr_el e_v26) ?_
        clear e_v26
        refine mx_S.pu (pc2 := 103) (lv2 := [(4, .int u13.1), (3, .int u6.1), (2, .int v3), (0, .ref a0), (1, .int a1)]) (st2 := [.int u13.1, .ref v26]) hm dX13_expression_101 rfl ?_
        refine mx_S.pu (pc2 := 104) (lv2 := [(4, .int u13.1), (3, .int u6.1), (2, .int v3), (0, .ref a0), (1, .int a1)]) (st2 := [.ref a0, .int u13.1, .ref v26]) hm dX13_expression_103 rfl ?_
        refine mx_S.pu (pc2 := 105) (lv2 := [(4, .int u13.1), (3, .int u6.1), (2, .int v3), (0, .ref a0), (1, .int a1)]) (st2 := [.int a1, .ref a0, .int u13.1, .ref v26]) hm dX13_expression_104 rfl ?_
        refine sx_ic (v := 1) hm dX13_expression_105 (by decide) ?_
        replace hf := xl_el hf; obtain ⟨v27, e_v27, hf⟩ := hf
        refine mx_S.pu (pc2 := 107) (lv2 := [(4, .int u13.1), (3, .int u6.1), (2, .int v3), (0, .ref a0), (1, .int a1)]) (st2 := [.int v27, .ref a0, .int u13.1, .ref v26]) hm dX13_expression_106 (by rw [← e_v27]; rfl) ?_
        clear e_v27
        replace hf := mx_gd_el hf; obtain ⟨c28, hf⟩ := hf
        replace hf := mx_sv_el hf; obtain ⟨u29, e_u29, hf⟩ := hf
        refine sx_cv hm dX13_expression_107 rs_RX13_444 mt_X13_expression [.int v27] [.int u13.1, .ref v26] (b := a0) (ci := 13) rfl rfl rfl c28 (Nat.le_of_ble_eq_true rfl) (Nat.le_of_ble_eq_true rfl) (by omega) (by omega) (hrc.1 (by omega) (by omega) a0 v27 u25 e_u29) ?_
        clear e_u29
        show mx_S X F L 407 110 [(4, .int u13.1), (3, .int u6.1), (2, .int v3), (0, .ref a0), (1, .int a1)] [.int u29.1, .int u13.1, .ref v26] u29.2 0 0 (some (.int r.1), r.2, 0, 0)
        replace hf := mx_sv_el hf; obtain ⟨h30, e_h30, hf⟩ := hf
        refine sx_ast hm dX13_expression_110 e_h30 ?_
        clear e_h30
        refine mx_S.pu (pc2 := 113) (lv2 := [(4, .int u13.1), (3, .int u6.1), (2, .int v3), (0, .ref a0), (1, .int a1)]) (st2 := [.int u13.1]) hm dX13_expression_111 rfl ?_
        cases hf
        exact sx_ire hm dX13_expression_113 rfl rfl
      · refine sb_if_ne hm dX13_expression_41 (tgt := 46) rfl (fun z => absurd z c31) (fun _ => ?_)
        refine mx_S.pu (pc2 := 45) (lv2 := [(3, .int u6.1), (2, .int v3), (0, .ref a0), (1, .int a1)]) (st2 := [.int u6.1]) hm dX13_expression_44 rfl ?_
        cases hf
        exact sx_ire hm dX13_expression_45 rfl rfl
  · refine sb_if_eq hm dX13_expression_5 (tgt := 10) rfl (fun z => absurd z c33) (fun _ => ?_)
    refine sx_ic (v := (-1)) hm dX13_expression_8 (by decide) ?_
    cases hf
    exact sx_ire hm dX13_expression_9 rfl rfl
set_option maxHeartbeats 4000000 in
set_option maxRecDepth 20000 in
theorem j_X13_sides_157_ok (X : Nat × (Nat → Int32)) {F L d : Nat} (hF : 3 + (d + 1) ≤ F) (hL : 63 + (d + 1) * 28 ≤ L) (nn : Nat) {rc : tg_X13_expression} (hrc : hg5_X13_expression X d rc) {kk_37 : Nat → Int32 → Int32 → Int32 → Int32 → Int32 → Int32 → mx_H → Option (Int32 × mx_H)} (hk_37 : ∀ (l0 : Nat) (l1 : Int32) (l2 : Int32) (l3 : Int32) (l4 : Int32) (l5 : Int32) (l6 : Int32) (h : mx_H) (r : (Int32 × mx_H)), kk_37 l0 l1 l2 l3 l4 l5 l6 h = some r → mx_S X F L 409 37 [(0, .ref l0), (1, .int l1), (2, .int l2), (3, .int l3), (4, .int l4), (5, .int l5), (6, .int l6)] [] h 0 0 (some (.int r.1), r.2, 0, 0)) (l0 : Nat) (l1 : Int32) (l2 : Int32) (l3 : Int32) (l4 : Int32) (l6 : Int32) (h : mx_H) {r : (Int32 × mx_H)} (hf : j_X13_sides_157 nn rc kk_37 l0 l1 l2 l3 l4 l6 h = some r) : mx_S X F L 409 157 [(0, .ref l0), (1, .int l1), (2, .int l2), (3, .int l3), (4, .int l4), (6, .int l6)] [] h 0 0 (some (.int r.1), r.2, 0, 0) := by
  have hm : mx_mt 409 = some (yX13_sides, cX13_sides, 9, (some .int)) := mt_X13_sides
  unfold j_X13_sides_157 at hf
  refine mx_S.pu (pc2 := 158) (lv2 := [(0, .ref l0), (1, .int l1), (2, .int l2), (3, .int l3), (4, .int l4), (6, .int l6)]) (st2 := [.ref l0]) hm dX13_sides_157 rfl ?_
  replace hf := mx_sv_el hf; obtain ⟨v1, e_v1, hf⟩ := hf
  refine sx_get hm dX13_sides_158 rs_RX13_319 (xgi_el e_v1) ?_
  clear e_v1
  rcases mx_if_el hf with ⟨c5, hf⟩ | ⟨c5, hf⟩
  · refine sb_if_ne hm dX13_sides_161 (tgt := 175) rfl (fun _ => ?_) (fun z => absurd c5 z)
    refine sx_ic (v := (-1)) hm dX13_sides_175 (by decide) ?_
    refine mx_S.pu (pc2 := 178) (lv2 := [(5, .int (-1)), (0, .ref l0), (1, .int l1), (2, .int l2), (3, .int l3), (4, .int l4), (6, .int l6)]) (st2 := []) hm dX13_sides_176 rfl ?_
    refine mx_S.pu (pc2 := 37) (lv2 := [(5, .int (-1)), (0, .ref l0), (1, .int l1), (2, .int l2), (3, .int l3), (4, .int l4), (6, .int l6)]) (st2 := []) hm dX13_sides_178 rfl ?_
    refine mx_S.ext [(0, .ref l0), (1, .int l1), (2, .int l2), (3, .int l3), (4, .int l4), (5, .int (-1)), (6, .int l6)] (mx_sub_pos [1, 2, 3, 4, 5, 0, 6] rfl (show ([5, 0, 1, 2, 3, 4, 6] : List Nat).Nodup by decide)) ?_
    exact hk_37 l0 l1 l2 l3 l4 (-1) l6 h _ hf
  · refine sb_if_ne hm dX13_sides_161 (tgt := 175) rfl (fun z => absurd z c5) (fun _ => ?_)
    refine mx_S.pu (pc2 := 165) (lv2 := [(0, .ref l0), (1, .int l1), (2, .int l2), (3, .int l3), (4, .int l4), (6, .int l6)]) (st2 := [.ref l0]) hm dX13_sides_164 rfl ?_
    refine mx_S.pu (pc2 := 166) (lv2 := [(0, .ref l0), (1, .int l1), (2, .int l2), (3, .int l3), (4, .int l4), (6, .int l6)]) (st2 := [.ref l0, .ref l0]) hm dX13_sides_165 rfl ?_
    replace hf := mx_sv_el hf; obtain ⟨v2, e_v2, hf⟩ := hf
    refine sx_get hm dX13_sides_166 rs_RX13_376 (xgi_el e_v2) ?_
    clear e_v2
    replace hf := mx_gd_el hf; obtain ⟨c3, hf⟩ := hf
    replace hf := mx_sv_el hf; obtain ⟨u4, e_u4, hf⟩ := hf
    refine sx_cv hm dX13_sides_169 rs_RX13_459 mt_X13_strength [.int v2] [] (b := l0) (ci := 13) rfl rfl rfl c3 (Nat.le_of_ble_eq_true rfl) (Nat.le_of_ble_eq_true rfl) (by omega) (by omega) (f_X13_strength_ok X (by omega) (by omega) nn l0 v2 h e_u4) ?_
    clear e_u4
    show mx_S X F L 409 172 [(0, .ref l0), (1, .int l1), (2, .int l2), (3, .int l3), (4, .int l4), (6, .int l6)] [.int u4.1] u4.2 0 0 (some (.int r.1), r.2, 0, 0)
    refine mx_S.pu (pc2 := 176) (lv2 := [(0, .ref l0), (1, .int l1), (2, .int l2), (3, .int l3), (4, .int l4), (6, .int l6)]) (st2 := [.int u4.1]) hm dX13_sides_172 rfl ?_
    refine mx_S.pu (pc2 := 178) (lv2 := [(5, .int u4.1), (0, .ref l0), (1, .int l1), (2, .int l2), (3, .int l3), (4, .int l4), (6, .int l6)]) (st2 := []) hm dX13_sides_176 rfl ?_
    refine mx_S.pu (pc2 := 37) (lv2 := [(5, .int u4.1), (0, .ref l0), (1, .int l1), (2, .int l2), (3, .int l3), (4, .int l4), (6, .int l6)]) (st2 := []) hm dX13_sides_178 rfl ?_
    refine mx_S.ext [(0, .ref l0), (1, .int l1), (2, .int l2), (3, .int l3), (4, .int l4), (5, .int u4.1), (6, .int l6)] (mx_sub_pos [1, 2, 3, 4, 5, 0, 6] rfl (show ([5, 0, 1, 2, 3, 4, 6] : List Nat).Nodup by decide)) ?_
    exact hk_37 l0 l1 l2 l3 l4 u4.1 l6 u4.2 _ hf
set_option maxHeartbeats 4000000 in
set_option maxRecDepth 20000 in
theorem w_X13_sides_37_ok (X : Nat × (Nat → Int32)) {F L d : Nat} (hF : 3 + (d + 1) ≤ F) (hL : 63 + (d + 1) * 28 ≤ L) (nn : Nat) {rc : tg_X13_expression} (hrc : hg5_X13_expression X d rc) : ∀ (k : Nat) (l0 : Nat) (l1 : Int32) (l2 : Int32) (l3 : Int32) (l4 : Int32) (l5 : Int32) (l6 : Int32) (h : mx_H) (r : (Int32 × mx_H)), w_X13_sides_37 nn rc k l0 l1 l2 l3 l4 l5 l6 h = some r → mx_S X F L 409 37 [(0, .ref l0), (1, .int l1), (2, .int l2), (3, .int l3), (4, .int l4), (5, .int l5), (6, .int l6)] [] h 0 0 (some (.int r.1), r.2, 0, 0) := by
  have hm : mx_mt 409 = some (yX13_sides, cX13_sides, 9, (some .int)) := mt_X13_sides
  intro k
  induction k with
  | zero => intro l0 l1 l2 l3 l4 l5 l6 h r hf; cases hf
  | succ k ih =>
    intro l0 l1 l2 l3 l4 l5 l6 h r hf
    unfold w_X13_sides_37 at hf
    refine mx_S.pu (pc2 := 38) (lv2 := [(0, .ref l0), (1, .int l1), (2, .int l2), (3, .int l3), (4, .int l4), (5, .int l5), (6, .int l6)]) (st2 := [.ref l0]) hm dX13_sides_37 rfl ?_
    replace hf := mx_sv_el hf; obtain ⟨v6, e_v6, hf⟩ := hf
    refine sx_get hm dX13_sides_38 rs_RX13_319 (xgi_el e_v6) ?_
    clear e_v6
    rcases mx_if_el hf with ⟨c31, hf⟩ | ⟨c31, hf⟩
    · refine sb_if_ne hm dX13_sides_41 (tgt := 181) rfl (fun _ => ?_) (fun z => absurd c31 z)
      refine mx_S.pu (pc2 := 183) (lv2 := [(0, .ref l0), (1, .int l1), (2, .int l2), (3, .int l3), (4, .int l4), (5, .int l5), (6, .int l6)]) (st2 := [.int l4]) hm dX13_sides_181 rfl ?_
      cases hf
      exact sx_ire hm dX13_sides_183 rfl rfl
    · refine sb_if_ne hm dX13_sides_41 (tgt := 181) rfl (fun z => absurd z c31) (fun _ => ?_)
      refine mx_S.pu (pc2 := 46) (lv2 := [(0, .ref l0), (1, .int l1), (2, .int l2), (3, .int l3), (4, .int l4), (5, .int l5), (6, .int l6)]) (st2 := [.int l5]) hm dX13_sides_44 rfl ?_
      refine mx_S.pu (pc2 := 47) (lv2 := [(0, .ref l0), (1, .int l1), (2, .int l2), (3, .int l3), (4, .int l4), (5, .int l5), (6, .int l6)]) (st2 := [.int l1, .int l5]) hm dX13_sides_46 rfl ?_
      rcases mx_if_el hf with ⟨c30, hf⟩ | ⟨c30, hf⟩
      · refine sb_ic_lt hm dX13_sides_47 (tgt := 181) rfl (fun _ => ?_) (fun z => absurd c30 z)
        refine mx_S.pu (pc2 := 183) (lv2 := [(0, .ref l0), (1, .int l1), (2, .int l2), (3, .int l3), (4, .int l4), (5, .int l5), (6, .int l6)]) (st2 := [.int l4]) hm dX13_sides_181 rfl ?_
        cases hf
        exact sx_ire hm dX13_sides_183 rfl rfl
      · refine sb_ic_lt hm dX13_sides_47 (tgt := 181) rfl (fun z => absurd z c30) (fun _ => ?_)
        refine mx_S.pu (pc2 := 52) (lv2 := [(0, .ref l0), (1, .int l1), (2, .int l2), (3, .int l3), (4, .int l4), (5, .int l5), (6, .int l6)]) (st2 := [.int l5]) hm dX13_sides_50 rfl ?_
        refine mx_S.pu (pc2 := 54) (lv2 := [(0, .ref l0), (1, .int l1), (2, .int l2), (3, .int l3), (4, .int l4), (5, .int l5), (6, .int l6)]) (st2 := [.int l6, .int l5]) hm dX13_sides_52 rfl ?_
        rcases mx_if_el hf with ⟨c29, hf⟩ | ⟨c29, hf⟩
        · refine sb_ic_gt hm dX13_sides_54 (tgt := 181) rfl (fun _ => ?_) (fun z => absurd c29 z)
          refine mx_S.pu (pc2 := 183) (lv2 := [(0, .ref l0), (1, .int l1), (2, .int l2), (3, .int l3), (4, .int l4), (5, .int l5), (6, .int l6)]) (st2 := [.int l4]) hm dX13_sides_181 rfl ?_
          cases hf
          exact sx_ire hm dX13_sides_183 rfl rfl
        · refine sb_ic_gt hm dX13_sides_54 (tgt := 181) rfl (fun z => absurd z c29) (fun _ => ?_)
          refine mx_S.pu (pc2 := 58) (lv2 := [(0, .ref l0), (1, .int l1), (2, .int l2), (3, .int l3), (4, .int l4), (5, .int l5), (6, .int l6)]) (st2 := [.ref l0]) hm dX13_sides_57 rfl ?_
          replace hf := mx_sv_el hf; obtain ⟨v7, e_v7, hf⟩ := hf
          refine sx_get hm dX13_sides_58 rs_RX13_376 (xgi_el e_v7) ?_
          clear e_v7
          refine mx_S.pu (pc2 := 63) (lv2 := [(7, .int v7), (0, .ref l0), (1, .int l1), (2, .int l2), (3, .int l3), (4, .int l4), (5, .int l5), (6, .int l6)]) (st2 := []) hm dX13_sides_61 rfl ?_
          refine mx_S.pu (pc2 := 65) (lv2 := [(7, .int v7), (0, .ref l0), (1, .int l1), (2, .int l2), (3, .int l3), (4, .int l4), (5, .int l5), (6, .int l6)]) (st2 := [.int l5]) hm dX13_sides_63 rfl ?_
          refine mx_S.pu (pc2 := 67) (lv2 := [(6, .int l5), (7, .int v7), (0, .ref l0), (1, .int l1), (2, .int l2), (3, .int l3), (4, .int l4), (5, .int l5)]) (st2 := []) hm dX13_sides_65 rfl ?_
          refine mx_S.pu (pc2 := 68) (lv2 := [(6, .int l5), (7, .int v7), (0, .ref l0), (1, .int l1), (2, .int l2), (3, .int l3), (4, .int l4), (5, .int l5)]) (st2 := [.ref l0]) hm dX13_sides_67 rfl ?_
          refine mx_S.pu (pc2 := 69) (lv2 := [(6, .int l5), (7, .int v7), (0, .ref l0), (1, .int l1), (2, .int l2), (3, .int l3), (4, .int l4), (5, .int l5)]) (st2 := [.ref l0, .ref l0]) hm dX13_sides_68 rfl ?_
          replace hf := mx_sv_el hf; obtain ⟨v8, e_v8, hf⟩ := hf
          refine sx_get hm dX13_sides_69 rs_RX13_376 (xgi_el e_v8) ?_
          clear e_v8
          refine sx_ic (v := 1) hm dX13_sides_72 (by decide) ?_
          replace hf := xl_el hf; obtain ⟨v9, e_v9, hf⟩ := hf
          refine mx_S.pu (pc2 := 74) (lv2 := [(6, .int l5), (7, .int v7), (0, .ref l0), (1, .int l1), (2, .int l2), (3, .int l3), (4, .int l4), (5, .int l5)]) (st2 := [.int v9, .ref l0]) hm dX13_sides_73 (by rw [← e_v9]; rfl) ?_
          clear e_v9
          replace hf := mx_sv_el hf; obtain ⟨h10, e_h10, hf⟩ := hf
          refine sx_put hm dX13_sides_74 rs_RX13_376 ft_13_23 ⟨rfl, rfl⟩ (fun z => by cases z) e_h10 ?_
          clear e_h10
          refine mx_S.pu (pc2 := 78) (lv2 := [(6, .int l5), (7, .int v7), (0, .ref l0), (1, .int l1), (2, .int l2), (3, .int l3), (4, .int l4), (5, .int l5)]) (st2 := [.ref l0]) hm dX13_sides_77 rfl ?_
          refine mx_S.pu (pc2 := 80) (lv2 := [(6, .int l5), (7, .int v7), (0, .ref l0), (1, .int l1), (2, .int l2), (3, .int l3), (4, .int l4), (5, .int l5)]) (st2 := [.int v7, .ref l0]) hm dX13_sides_78 rfl ?_
          refine sx_bi (v := 9) hm dX13_sides_80 (by decide) ?_
          replace hf := mx_gd_el hf; obtain ⟨c11, hf⟩ := hf
          replace hf := mx_sv_el hf; obtain ⟨u12, e_u12, hf⟩ := hf
          refine sx_cv hm dX13_sides_82 rs_RX13_390 mt_X13_isWord [.int v7, .int 9] [] (b := l0) (ci := 13) rfl rfl rfl c11 (Nat.le_of_ble_eq_true rfl) (Nat.le_of_ble_eq_true rfl) (by omega) (by omega) (f_X13_isWord_ok X (by omega) (by omega) nn l0 v7 9 h10 e_u12) ?_
          clear e_u12
          show mx_S X F L 409 85 [(6, .int l5), (7, .int v7), (0, .ref l0), (1, .int l1), (2, .int l2), (3, .int l3), (4, .int l4), (5, .int l5)] [.int u12.1] u12.2 0 0 (some (.int r.1), r.2, 0, 0)
          rcases mx_if_el hf with ⟨c28, hf⟩ | ⟨c28, hf⟩
          · refine sb_if_eq hm dX13_sides_85 (tgt := 117) rfl (fun _ => ?_) (fun z => absurd c28 z)
            refine mx_S.pu (pc2 := 118) (lv2 := [(6, .int l5), (7, .int v7), (0, .ref l0), (1, .int l1), (2, .int l2), (3, .int l3), (4, .int l4), (5, .int l5)]) (st2 := [.ref l0]) hm dX13_sides_117 rfl ?_
            refine sx_bi (v := 37) hm dX13_sides_118 (by decide) ?_
            refine mx_S.pu (pc2 := 122) (lv2 := [(6, .int l5), (7, .int v7), (0, .ref l0), (1, .int l1), (2, .int l2), (3, .int l3), (4, .int l4), (5, .int l5)]) (st2 := [.int v7, .int 37, .ref l0]) hm dX13_sides_120 rfl ?_
            refine mx_S.pu (pc2 := 123) (lv2 := [(6, .int l5), (7, .int v7), (0, .ref l0), (1, .int l1), (2, .int l2), (3, .int l3), (4, .int l4), (5, .int l5)]) (st2 := [.int l3, .int v7, .int 37, .ref l0]) hm dX13_sides_122 rfl ?_
            replace hf := mx_gd_el hf; obtain ⟨c13, hf⟩ := hf
            replace hf := mx_sv_el hf; obtain ⟨u14, e_u14, hf⟩ := hf
            refine sx_cv hm dX13_sides_123 rs_RX13_430 mt_X13_add [.int 37, .int v7, .int l3] [] (b := l0) (ci := 13) rfl rfl rfl c13 (Nat.le_of_ble_eq_true rfl) (Nat.le_of_ble_eq_true rfl) (by omega) (by omega) (f_X13_add_ok X (by omega) (by omega) nn l0 37 v7 l3 u12.2 e_u14) ?_
            clear e_u14
            show mx_S X F L 409 126 [(6, .int l5), (7, .int v7), (0, .ref l0), (1, .int l1), (2, .int l2), (3, .int l3), (4, .int l4), (5, .int l5)] [.int u14.1] u14.2 0 0 (some (.int r.1), r.2, 0, 0)
            refine mx_S.pu (pc2 := 128) (lv2 := [(8, .int u14.1), (6, .int l5), (7, .int v7), (0, .ref l0), (1, .int l1), (2, .int l2), (3, .int l3), (4, .int l4), (5, .int l5)]) (st2 := []) hm dX13_sides_126 rfl ?_
            refine mx_S.pu (pc2 := 129) (lv2 := [(8, .int u14.1), (6, .int l5), (7, .int v7), (0, .ref l0), (1, .int l1), (2, .int l2), (3, .int l3), (4, .int l4), (5, .int l5)]) (st2 := [.ref l0]) hm dX13_sides_128 rfl ?_
            replace hf := mx_sv_el hf; obtain ⟨v15, e_v15, hf⟩ := hf
            refine sx_get hm dX13_sides_129 rs_RX13_37 (xgr_el e_v15) ?_
            clear e_v15
            refine mx_S.pu (pc2 := 134) (lv2 := [(8, .int u14.1), (6, .int l5), (7, .int v7), (0, .ref l0), (1, .int l1), (2, .int l2), (3, .int l3), (4, .int l4), (5, .int l5)]) (st2 := [.int u14.1, .ref v15]) hm dX13_sides_132 rfl ?_
            refine mx_S.pu (pc2 := 136) (lv2 := [(8, .int u14.1), (6, .int l5), (7, .int v7), (0, .ref l0), (1, .int l1), (2, .int l2), (3, .int l3), (4, .int l4), (5, .int l5)]) (st2 := [.int l4, .int u14.1, .ref v15]) hm dX13_sides_134 rfl ?_
            replace hf := mx_sv_el hf; obtain ⟨h16, e_h16, hf⟩ := hf
            refine sx_ast hm dX13_sides_136 e_h16 ?_
            clear e_h16
            refine mx_S.pu (pc2 := 138) (lv2 := [(8, .int u14.1), (6, .int l5), (7, .int v7), (0, .ref l0), (1, .int l1), (2, .int l2), (3, .int l3), (4, .int l4), (5, .int l5)]) (st2 := [.ref l0]) hm dX13_sides_137 rfl ?_
            replace hf := mx_sv_el hf; obtain ⟨v17, e_v17, hf⟩ := hf
            refine sx_get hm dX13_sides_138 rs_RX13_40 (xgr_el e_v17) ?_
            clear e_v17
            refine mx_S.pu (pc2 := 143) (lv2 := [(8, .int u14.1), (6, .int l5), (7, .int v7), (0, .ref l0), (1, .int l1), (2, .int l2), (3, .int l3), (4, .int l4), (5, .int l5)]) (st2 := [.int u14.1, .ref v17]) hm dX13_sides_141 rfl ?_
            refine mx_S.pu (pc2 := 144) (lv2 := [(8, .int u14.1), (6, .int l5), (7, .int v7), (0, .ref l0), (1, .int l1), (2, .int l2), (3, .int l3), (4, .int l4), (5, .int l5)]) (st2 := [.ref l0, .int u14.1, .ref v17]) hm dX13_sides_143 rfl ?_
            refine mx_S.pu (pc2 := 146) (lv2 := [(8, .int u14.1), (6, .int l5), (7, .int v7), (0, .ref l0), (1, .int l1), (2, .int l2), (3, .int l3), (4, .int l4), (5, .int l5)]) (st2 := [.int l5, .ref l0, .int u14.1, .ref v17]) hm dX13_sides_144 rfl ?_
            refine sx_ic (v := 1) hm dX13_sides_146 (by decide) ?_
            replace hf := xl_el hf; obtain ⟨v18, e_v18, hf⟩ := hf
            refine mx_S.pu (pc2 := 148) (lv2 := [(8, .int u14.1), (6, .int l5), (7, .int v7), (0, .ref l0), (1, .int l1), (2, .int l2), (3, .int l3), (4, .int l4), (5, .int l5)]) (st2 := [.int v18, .ref l0, .int u14.1, .ref v17]) hm dX13_sides_147 (by rw [← e_v18]; rfl) ?_
            clear e_v18
            refine mx_S.pu (pc2 := 149) (lv2 := [(8, .int u14.1), (6, .int l5), (7, .int v7), (0, .ref l0), (1, .int l1), (2, .int l2), (3, .int l3), (4, .int l4), (5, .int l5)]) (st2 := [.int l2, .int v18, .ref l0, .int u14.1, .ref v17]) hm dX13_sides_148 rfl ?_
            replace hf := mx_gd_el hf; obtain ⟨c19, hf⟩ := hf
            replace hf := mx_sv_el hf; obtain ⟨u20, e_u20, hf⟩ := hf
            refine sx_cv hm dX13_sides_149 rs_RX13_450 mt_X13_sides [.int v18, .int l2] [.int u14.1, .ref v17] (b := l0) (ci := 13) rfl rfl rfl c19 (Nat.le_of_ble_eq_true rfl) (Nat.le_of_ble_eq_true rfl) (by omega) (by omega) (hrc.2.1 (by omega) (by omega) l0 v18 l2 h16 e_u20) ?_
            clear e_u20
            show mx_S X F L 409 152 [(8, .int u14.1), (6, .int l5), (7, .int v7), (0, .ref l0), (1, .int l1), (2, .int l2), (3, .int l3), (4, .int l4), (5, .int l5)] [.int u20.1, .int u14.1, .ref v17] u20.2 0 0 (some (.int r.1), r.2, 0, 0)
            replace hf := mx_sv_el hf; obtain ⟨h21, e_h21, hf⟩ := hf
            refine sx_ast hm dX13_sides_152 e_h21 ?_
            clear e_h21
            refine mx_S.pu (pc2 := 155) (lv2 := [(8, .int u14.1), (6, .int l5), (7, .int v7), (0, .ref l0), (1, .int l1), (2, .int l2), (3, .int l3), (4, .int l4), (5, .int l5)]) (st2 := [.int u14.1]) hm dX13_sides_153 rfl ?_
            refine mx_S.pu (pc2 := 157) (lv2 := [(4, .int u14.1), (8, .int u14.1), (6, .int l5), (7, .int v7), (0, .ref l0), (1, .int l1), (2, .int l2), (3, .int l3), (5, .int l5)]) (st2 := []) hm dX13_sides_155 rfl ?_
            refine mx_S.ext [(0, .ref l0), (1, .int l1), (2, .int l2), (3, .int l3), (4, .int u14.1), (6, .int l5)] (mx_sub_pos [4, 5, 6, 7, 0, 2] rfl (show ([4, 8, 6, 7, 0, 1, 2, 3, 5] : List Nat).Nodup by decide)) ?_
            exact j_X13_sides_157_ok X hF hL nn hrc ih l0 l1 l2 l3 u14.1 l5 h21 hf
          · refine sb_if_eq hm dX13_sides_85 (tgt := 117) rfl (fun z => absurd z c28) (fun _ => ?_)
            refine mx_S.pu (pc2 := 89) (lv2 := [(6, .int l5), (7, .int v7), (0, .ref l0), (1, .int l1), (2, .int l2), (3, .int l3), (4, .int l4), (5, .int l5)]) (st2 := [.ref l0]) hm dX13_sides_88 rfl ?_
            refine sx_bi (v := 38) hm dX13_sides_89 (by decide) ?_
            refine mx_S.pu (pc2 := 92) (lv2 := [(6, .int l5), (7, .int v7), (0, .ref l0), (1, .int l1), (2, .int l2), (3, .int l3), (4, .int l4), (5, .int l5)]) (st2 := [.ref l0, .int 38, .ref l0]) hm dX13_sides_91 rfl ?_
            replace hf := mx_gd_el hf; obtain ⟨c22, hf⟩ := hf
            replace hf := mx_sv_el hf; obtain ⟨u23, e_u23, hf⟩ := hf
            refine sx_cv hm dX13_sides_92 rs_RX13_403 mt_X13_name [] [.int 38, .ref l0] (b := l0) (ci := 13) rfl rfl rfl c22 (Nat.le_of_ble_eq_true rfl) (Nat.le_of_ble_eq_true rfl) (by omega) (by omega) (f_X13_name_ok X (by omega) (by omega) nn l0 u12.2 e_u23) ?_
            clear e_u23
            show mx_S X F L 409 95 [(6, .int l5), (7, .int v7), (0, .ref l0), (1, .int l1), (2, .int l2), (3, .int l3), (4, .int l4), (5, .int l5)] [.int u23.1, .int 38, .ref l0] u23.2 0 0 (some (.int r.1), r.2, 0, 0)
            refine mx_S.pu (pc2 := 96) (lv2 := [(6, .int l5), (7, .int v7), (0, .ref l0), (1, .int l1), (2, .int l2), (3, .int l3), (4, .int l4), (5, .int l5)]) (st2 := [.int l3, .int u23.1, .int 38, .ref l0]) hm dX13_sides_95 rfl ?_
            replace hf := mx_gd_el hf; obtain ⟨c24, hf⟩ := hf
            replace hf := mx_sv_el hf; obtain ⟨u25, e_u25, hf⟩ := hf
            refine sx_cv hm dX13_sides_96 rs_RX13_430 mt_X13_add [.int 38, .int u23.1, .int l3] [] (b := l0) (ci := 13) rfl rfl rfl c24 (Nat.le_of_ble_eq_true rfl) (Nat.le_of_ble_eq_true rfl) (by omega) (by omega) (f_X13_add_ok X (by omega) (by omega) nn l0 38 u23.1 l3 u23.2 e_u25) ?_
            clear e_u25
            show mx_S X F L 409 99 [(6, .int l5), (7, .int v7), (0, .ref l0), (1, .int l1), (2, .int l2), (3, .int l3), (4, .int l4), (5, .int l5)] [.int u25.1] u25.2 0 0 (some (.int r.1), r.2, 0, 0)
            refine mx_S.pu (pc2 := 101) (lv2 := [(8, .int u25.1), (6, .int l5), (7, .int v7), (0, .ref l0), (1, .int l1), (2, .int l2), (3, .int l3), (4, .int l4), (5, .int l5)]) (st2 := []) hm dX13_sides_99 rfl ?_
            refine mx_S.pu (pc2 := 102) (lv2 := [(8, .int u25.1), (6, .int l5), (7, .int v7), (0, .ref l0), (1, .int l1), (2, .int l2), (3, .int l3), (4, .int l4), (5, .int l5)]) (st2 := [.ref l0]) hm dX13_sides_101 rfl ?_
            replace hf := mx_sv_el hf; obtain ⟨v26, e_v26, hf⟩ := hf
            refine sx_get hm dX13_sides_102 rs_RX13_37 (xgr_el e_v26) ?_
            clear e_v26
            refine mx_S.pu (pc2 := 107) (lv2 := [(8, .int u25.1), (6, .int l5), (7, .int v7), (0, .ref l0), (1, .int l1), (2, .int l2), (3, .int l3), (4, .int l4), (5, .int l5)]) (st2 := [.int u25.1, .ref v26]) hm dX13_sides_105 rfl ?_
            refine mx_S.pu (pc2 := 109) (lv2 := [(8, .int u25.1), (6, .int l5), (7, .int v7), (0, .ref l0), (1, .int l1), (2, .int l2), (3, .int l3), (4, .int l4), (5, .int l5)]) (st2 := [.int l4, .int u25.1, .ref v26]) hm dX13_sides_107 rfl ?_
            replace hf := mx_sv_el hf; obtain ⟨h27, e_h27, hf⟩ := hf
            refine sx_ast hm dX13_sides_109 e_h27 ?_
            clear e_h27
            refine mx_S.pu (pc2 := 112) (lv2 := [(8, .int u25.1), (6, .int l5), (7, .int v7), (0, .ref l0), (1, .int l1), (2, .int l2), (3, .int l3), (4, .int l4), (5, .int l5)]) (st2 := [.int u25.1]) hm dX13_sides_110 rfl ?_
            refine mx_S.pu (pc2 := 114) (lv2 := [(4, .int u25.1), (8, .int u25.1), (6, .int l5), (7, .int v7), (0, .ref l0), (1, .int l1), (2, .int l2), (3, .int l3), (5, .int l5)]) (st2 := []) hm dX13_sides_112 rfl ?_
            refine mx_S.pu (pc2 := 157) (lv2 := [(4, .int u25.1), (8, .int u25.1), (6, .int l5), (7, .int v7), (0, .ref l0), (1, .int l1), (2, .int l2), (3, .int l3), (5, .int l5)]) (st2 := []) hm dX13_sides_114 rfl ?_
            refine mx_S.ext [(0, .ref l0), (1, .int l1), (2, .int l2), (3, .int l3), (4, .int u25.1), (6, .int l5)] (mx_sub_pos [4, 5, 6, 7, 0, 2] rfl (show ([4, 8, 6, 7, 0, 1, 2, 3, 5] : List Nat).Nodup by decide)) ?_
            exact j_X13_sides_157_ok X hF hL nn hrc ih l0 l1 l2 l3 u25.1 l5 h27 hf
set_option maxHeartbeats 4000000 in
set_option maxRecDepth 20000 in
theorem o_X13_sides_ok (X : Nat × (Nat → Int32)) {F L d : Nat} (hF : 3 + (d + 1) ≤ F) (hL : 63 + (d + 1) * 28 ≤ L) (nn : Nat) {rc : tg_X13_expression} (hrc : hg5_X13_expression X d rc) (a0 : Nat) (a1 : Int32) (a2 : Int32) (h : mx_H) {r : (Int32 × mx_H)} (hf : o_X13_sides nn rc a0 a1 a2 h = some r) : mx_R X F L 409 [.ref a0, .int a1, .int a2] h (some (.int r.1), r.2, 0, 0) := by
  have hm : mx_mt 409 = some (yX13_sides, cX13_sides, 9, (some .int)) := mt_X13_sides
  show mx_S X F L 409 0 [(0, .ref a0), (1, .int a1), (2, .int a2)] [] h 0 0 (some (.int r.1), r.2, 0, 0)
  unfold o_X13_sides at hf
  refine mx_S.pu (pc2 := 1) (lv2 := [(0, .ref a0), (1, .int a1), (2, .int a2)]) (st2 := [.ref a0]) hm dX13_sides_0 rfl ?_
  replace hf := mx_sv_el hf; obtain ⟨v32, e_v32, hf⟩ := hf
  refine sx_get hm dX13_sides_1 rs_RX13_376 (xgi_el e_v32) ?_
  clear e_v32
  refine mx_S.pu (pc2 := 5) (lv2 := [(3, .int v32), (0, .ref a0), (1, .int a1), (2, .int a2)]) (st2 := []) hm dX13_sides_4 rfl ?_
  refine mx_S.pu (pc2 := 6) (lv2 := [(3, .int v32), (0, .ref a0), (1, .int a1), (2, .int a2)]) (st2 := [.ref a0]) hm dX13_sides_5 rfl ?_
  refine mx_S.pu (pc2 := 7) (lv2 := [(3, .int v32), (0, .ref a0), (1, .int a1), (2, .int a2)]) (st2 := [.int a2, .ref a0]) hm dX13_sides_6 rfl ?_
  replace hf := mx_gd_el hf; obtain ⟨c33, hf⟩ := hf
  replace hf := mx_sv_el hf; obtain ⟨u34, e_u34, hf⟩ := hf
  refine sx_cv hm dX13_sides_7 rs_RX13_456 mt_X13_unary [.int a2] [] (b := a0) (ci := 13) rfl rfl rfl c33 (Nat.le_of_ble_eq_true rfl) (Nat.le_of_ble_eq_true rfl) (by omega) (by omega) (hrc.2.2.1 (by omega) (by omega) a0 a2 h e_u34) ?_
  clear e_u34
  show mx_S X F L 409 10 [(3, .int v32), (0, .ref a0), (1, .int a1), (2, .int a2)] [.int u34.1] u34.2 0 0 (some (.int r.1), r.2, 0, 0)
  refine mx_S.pu (pc2 := 12) (lv2 := [(4, .int u34.1), (3, .int v32), (0, .ref a0), (1, .int a1), (2, .int a2)]) (st2 := []) hm dX13_sides_10 rfl ?_
  refine mx_S.pu (pc2 := 13) (lv2 := [(4, .int u34.1), (3, .int v32), (0, .ref a0), (1, .int a1), (2, .int a2)]) (st2 := [.ref a0]) hm dX13_sides_12 rfl ?_
  replace hf := mx_sv_el hf; obtain ⟨v35, e_v35, hf⟩ := hf
  refine sx_get hm dX13_sides_13 rs_RX13_319 (xgi_el e_v35) ?_
  clear e_v35
  rcases mx_if_el hf with ⟨c39, hf⟩ | ⟨c39, hf⟩
  · refine sb_if_ne hm dX13_sides_16 (tgt := 30) rfl (fun _ => ?_) (fun z => absurd c39 z)
    refine sx_ic (v := (-1)) hm dX13_sides_30 (by decide) ?_
    refine mx_S.pu (pc2 := 33) (lv2 := [(5, .int (-1)), (4, .int u34.1), (3, .int v32), (0, .ref a0), (1, .int a1), (2, .int a2)]) (st2 := []) hm dX13_sides_31 rfl ?_
    refine sx_bi (v := 9) hm dX13_sides_33 (by decide) ?_
    refine mx_S.pu (pc2 := 37) (lv2 := [(6, .int 9), (5, .int (-1)), (4, .int u34.1), (3, .int v32), (0, .ref a0), (1, .int a1), (2, .int a2)]) (st2 := []) hm dX13_sides_35 rfl ?_
    refine mx_S.ext [(0, .ref a0), (1, .int a1), (2, .int a2), (3, .int v32), (4, .int u34.1), (5, .int (-1)), (6, .int 9)] (mx_sub_pos [4, 5, 6, 3, 2, 1, 0] rfl (show ([6, 5, 4, 3, 0, 1, 2] : List Nat).Nodup by decide)) ?_
    exact w_X13_sides_37_ok X hF hL nn hrc nn a0 a1 a2 v32 u34.1 (-1) 9 u34.2 _ hf
  · refine sb_if_ne hm dX13_sides_16 (tgt := 30) rfl (fun z => absurd z c39) (fun _ => ?_)
    refine mx_S.pu (pc2 := 20) (lv2 := [(4, .int u34.1), (3, .int v32), (0, .ref a0), (1, .int a1), (2, .int a2)]) (st2 := [.ref a0]) hm dX13_sides_19 rfl ?_
    refine mx_S.pu (pc2 := 21) (lv2 := [(4, .int u34.1), (3, .int v32), (0, .ref a0), (1, .int a1), (2, .int a2)]) (st2 := [.ref a0, .ref a0]) hm dX13_sides_20 rfl ?_
    replace hf := mx_sv_el hf; obtain ⟨v36, e_v36, hf⟩ := hf
    refine sx_get hm dX13_sides_21 rs_RX13_376 (xgi_el e_v36) ?_
    clear e_v36
    replace hf := mx_gd_el hf; obtain ⟨c37, hf⟩ := hf
    replace hf := mx_sv_el hf; obtain ⟨u38, e_u38, hf⟩ := hf
    refine sx_cv hm dX13_sides_24 rs_RX13_459 mt_X13_strength [.int v36] [] (b := a0) (ci := 13) rfl rfl rfl c37 (Nat.le_of_ble_eq_true rfl) (Nat.le_of_ble_eq_true rfl) (by omega) (by omega) (f_X13_strength_ok X (by omega) (by omega) nn a0 v36 u34.2 e_u38) ?_
    clear e_u38
    show mx_S X F L 409 27 [(4, .int u34.1), (3, .int v32), (0, .ref a0), (1, .int a1), (2, .int a2)] [.int u38.1] u38.2 0 0 (some (.int r.1), r.2, 0, 0)
    refine mx_S.pu (pc2 := 31) (lv2 := [(4, .int u34.1), (3, .int v32), (0, .ref a0), (1, .int a1), (2, .int a2)]) (st2 := [.int u38.1]) hm dX13_sides_27 rfl ?_
    refine mx_S.pu (pc2 := 33) (lv2 := [(5, .int u38.1), (4, .int u34.1), (3, .int v32), (0, .ref a0), (1, .int a1), (2, .int a2)]) (st2 := []) hm dX13_sides_31 rfl ?_
    refine sx_bi (v := 9) hm dX13_sides_33 (by decide) ?_
    refine mx_S.pu (pc2 := 37) (lv2 := [(6, .int 9), (5, .int u38.1), (4, .int u34.1), (3, .int v32), (0, .ref a0), (1, .int a1), (2, .int a2)]) (st2 := []) hm dX13_sides_35 rfl ?_
    refine mx_S.ext [(0, .ref a0), (1, .int a1), (2, .int a2), (3, .int v32), (4, .int u34.1), (5, .int u38.1), (6, .int 9)] (mx_sub_pos [4, 5, 6, 3, 2, 1, 0] rfl (show ([6, 5, 4, 3, 0, 1, 2] : List Nat).Nodup by decide)) ?_
    exact w_X13_sides_37_ok X hF hL nn hrc nn a0 a1 a2 v32 u34.1 u38.1 9 u38.2 _ hf
set_option maxHeartbeats 4000000 in
set_option maxRecDepth 20000 in
theorem j_X13_unary_141_ok (X : Nat × (Nat → Int32)) {F L d : Nat} (hF : 3 + (d + 1) ≤ F) (hL : 63 + (d + 1) * 28 ≤ L) (nn : Nat) {rc : tg_X13_expression} (hrc : hg5_X13_expression X d rc) (l0 : Nat) (l1 : Int32) (l4 : Int32) (s0 : Int32) (s1 : Int32) (s2 : Nat) (h : mx_H) {r : (Int32 × mx_H)} (hf : j_X13_unary_141 nn rc l0 l1 l4 s0 s1 s2 h = some r) : mx_S X F L 411 141 [(0, .ref l0), (1, .int l1), (4, .int l4)] [.int s0, .int s1, .ref s2] h 0 0 (some (.int r.1), r.2, 0, 0) := by
  have hm : mx_mt 411 = some (yX13_unary, cX13_unary, 5, (some .int)) := mt_X13_unary
  unfold j_X13_unary_141 at hf
  replace hf := xl_el hf; obtain ⟨v1, e_v1, hf⟩ := hf
  refine mx_S.pu (pc2 := 142) (lv2 := [(0, .ref l0), (1, .int l1), (4, .int l4)]) (st2 := [.int v1, .ref s2]) hm dX13_unary_141 (by rw [← e_v1]; rfl) ?_
  clear e_v1
  replace hf := mx_sv_el hf; obtain ⟨h2, e_h2, hf⟩ := hf
  refine sx_put hm dX13_unary_142 rs_RX13_376 ft_13_23 ⟨rfl, rfl⟩ (fun z => by cases z) e_h2 ?_
  clear e_h2
  refine mx_S.pu (pc2 := 146) (lv2 := [(0, .ref l0), (1, .int l1), (4, .int l4)]) (st2 := [.ref l0]) hm dX13_unary_145 rfl ?_
  replace hf := mx_sv_el hf; obtain ⟨v3, e_v3, hf⟩ := hf
  refine sx_get hm dX13_unary_146 rs_RX13_37 (xgr_el e_v3) ?_
  clear e_v3
  refine mx_S.pu (pc2 := 151) (lv2 := [(0, .ref l0), (1, .int l1), (4, .int l4)]) (st2 := [.int l4, .ref v3]) hm dX13_unary_149 rfl ?_
  refine mx_S.pu (pc2 := 152) (lv2 := [(0, .ref l0), (1, .int l1), (4, .int l4)]) (st2 := [.ref l0, .int l4, .ref v3]) hm dX13_unary_151 rfl ?_
  refine mx_S.pu (pc2 := 153) (lv2 := [(0, .ref l0), (1, .int l1), (4, .int l4)]) (st2 := [.int l1, .ref l0, .int l4, .ref v3]) hm dX13_unary_152 rfl ?_
  refine sx_ic (v := 1) hm dX13_unary_153 (by decide) ?_
  replace hf := xl_el hf; obtain ⟨v4, e_v4, hf⟩ := hf
  refine mx_S.pu (pc2 := 155) (lv2 := [(0, .ref l0), (1, .int l1), (4, .int l4)]) (st2 := [.int v4, .ref l0, .int l4, .ref v3]) hm dX13_unary_154 (by rw [← e_v4]; rfl) ?_
  clear e_v4
  replace hf := mx_gd_el hf; obtain ⟨c5, hf⟩ := hf
  replace hf := mx_sv_el hf; obtain ⟨u6, e_u6, hf⟩ := hf
  refine sx_cv hm dX13_unary_155 rs_RX13_456 mt_X13_unary [.int v4] [.int l4, .ref v3] (b := l0) (ci := 13) rfl rfl rfl c5 (Nat.le_of_ble_eq_true rfl) (Nat.le_of_ble_eq_true rfl) (by omega) (by omega) (hrc.2.2.1 (by omega) (by omega) l0 v4 h2 e_u6) ?_
  clear e_u6
  show mx_S X F L 411 158 [(0, .ref l0), (1, .int l1), (4, .int l4)] [.int u6.1, .int l4, .ref v3] u6.2 0 0 (some (.int r.1), r.2, 0, 0)
  replace hf := mx_sv_el hf; obtain ⟨h7, e_h7, hf⟩ := hf
  refine sx_ast hm dX13_unary_158 e_h7 ?_
  clear e_h7
  refine mx_S.pu (pc2 := 161) (lv2 := [(0, .ref l0), (1, .int l1), (4, .int l4)]) (st2 := [.int l4]) hm dX13_unary_159 rfl ?_
  cases hf
  exact sx_ire hm dX13_unary_161 rfl rfl
set_option maxHeartbeats 4000000 in
set_option maxRecDepth 20000 in
theorem j_X13_unary_118_ok (X : Nat × (Nat → Int32)) {F L d : Nat} (hF : 3 + (d + 1) ≤ F) (hL : 63 + (d + 1) * 28 ≤ L) (nn : Nat) {rc : tg_X13_expression} (hrc : hg5_X13_expression X d rc) (l0 : Nat) (l1 : Int32) (l2 : Int32) (s0 : Int32) (s1 : Int32) (s2 : Nat) (h : mx_H) {r : (Int32 × mx_H)} (hf : j_X13_unary_118 nn rc l0 l1 l2 s0 s1 s2 h = some r) : mx_S X F L 411 118 [(0, .ref l0), (1, .int l1), (2, .int l2)] [.int s0, .int s1, .ref s2] h 0 0 (some (.int r.1), r.2, 0, 0) := by
  have hm : mx_mt 411 = some (yX13_unary, cX13_unary, 5, (some .int)) := mt_X13_unary
  unfold j_X13_unary_118 at hf
  refine mx_S.pu (pc2 := 119) (lv2 := [(0, .ref l0), (1, .int l1), (2, .int l2)]) (st2 := [.ref l0, .int s0, .int s1, .ref s2]) hm dX13_unary_118 rfl ?_
  replace hf := mx_sv_el hf; obtain ⟨v8, e_v8, hf⟩ := hf
  refine sx_get hm dX13_unary_119 rs_RX13_376 (xgi_el e_v8) ?_
  clear e_v8
  replace hf := mx_gd_el hf; obtain ⟨c9, hf⟩ := hf
  replace hf := mx_sv_el hf; obtain ⟨u10, e_u10, hf⟩ := hf
  refine sx_cv hm dX13_unary_122 rs_RX13_430 mt_X13_add [.int s1, .int s0, .int v8] [] (b := s2) (ci := 13) rfl rfl rfl c9 (Nat.le_of_ble_eq_true rfl) (Nat.le_of_ble_eq_true rfl) (by omega) (by omega) (f_X13_add_ok X (by omega) (by omega) nn s2 s1 s0 v8 h e_u10) ?_
  clear e_u10
  show mx_S X F L 411 125 [(0, .ref l0), (1, .int l1), (2, .int l2)] [.int u10.1] u10.2 0 0 (some (.int r.1), r.2, 0, 0)
  refine mx_S.pu (pc2 := 127) (lv2 := [(4, .int u10.1), (0, .ref l0), (1, .int l1), (2, .int l2)]) (st2 := []) hm dX13_unary_125 rfl ?_
  refine mx_S.pu (pc2 := 128) (lv2 := [(4, .int u10.1), (0, .ref l0), (1, .int l1), (2, .int l2)]) (st2 := [.ref l0]) hm dX13_unary_127 rfl ?_
  refine mx_S.pu (pc2 := 129) (lv2 := [(4, .int u10.1), (0, .ref l0), (1, .int l1), (2, .int l2)]) (st2 := [.ref l0, .ref l0]) hm dX13_unary_128 rfl ?_
  replace hf := mx_sv_el hf; obtain ⟨v11, e_v11, hf⟩ := hf
  refine sx_get hm dX13_unary_129 rs_RX13_376 (xgi_el e_v11) ?_
  clear e_v11
  refine mx_S.pu (pc2 := 133) (lv2 := [(4, .int u10.1), (0, .ref l0), (1, .int l1), (2, .int l2)]) (st2 := [.int l2, .int v11, .ref l0]) hm dX13_unary_132 rfl ?_
  rcases mx_if_el hf with ⟨c12, hf⟩ | ⟨c12, hf⟩
  · refine sb_if_eq hm dX13_unary_133 (tgt := 140) rfl (fun _ => ?_) (fun z => absurd c12 z)
    refine sx_ic (v := 1) hm dX13_unary_140 (by decide) ?_
    refine mx_S.ext [(0, .ref l0), (1, .int l1), (4, .int u10.1)] (mx_sub_pos [1, 2, 0] rfl (show ([4, 0, 1, 2] : List Nat).Nodup by decide)) ?_
    exact j_X13_unary_141_ok X hF hL nn hrc l0 l1 u10.1 1 v11 l0 u10.2 hf
  · refine sb_if_eq hm dX13_unary_133 (tgt := 140) rfl (fun z => absurd z c12) (fun _ => ?_)
    refine sx_ic (v := 3) hm dX13_unary_136 (by decide) ?_
    refine mx_S.pu (pc2 := 141) (lv2 := [(4, .int u10.1), (0, .ref l0), (1, .int l1), (2, .int l2)]) (st2 := [.int 3, .int v11, .ref l0]) hm dX13_unary_137 rfl ?_
    refine mx_S.ext [(0, .ref l0), (1, .int l1), (4, .int u10.1)] (mx_sub_pos [1, 2, 0] rfl (show ([4, 0, 1, 2] : List Nat).Nodup by decide)) ?_
    exact j_X13_unary_141_ok X hF hL nn hrc l0 l1 u10.1 3 v11 l0 u10.2 hf
set_option maxHeartbeats 4000000 in
set_option maxRecDepth 20000 in
theorem j_X13_unary_78_ok (X : Nat × (Nat → Int32)) {F L d : Nat} (hF : 3 + (d + 1) ≤ F) (hL : 63 + (d + 1) * 28 ≤ L) (nn : Nat) {rc : tg_X13_expression} (hrc : hg5_X13_expression X d rc) (l0 : Nat) (l1 : Int32) (l2 : Int32) (s0 : Int32) (h : mx_H) {r : (Int32 × mx_H)} (hf : j_X13_unary_78 nn rc l0 l1 l2 s0 h = some r) : mx_S X F L 411 78 [(0, .ref l0), (1, .int l1), (2, .int l2)] [.int s0] h 0 0 (some (.int r.1), r.2, 0, 0) := by
  have hm : mx_mt 411 = some (yX13_unary, cX13_unary, 5, (some .int)) := mt_X13_unary
  unfold j_X13_unary_78 at hf
  refine mx_S.pu (pc2 := 79) (lv2 := [(3, .int s0), (0, .ref l0), (1, .int l1), (2, .int l2)]) (st2 := []) hm dX13_unary_78 rfl ?_
  refine mx_S.pu (pc2 := 80) (lv2 := [(3, .int s0), (0, .ref l0), (1, .int l1), (2, .int l2)]) (st2 := [.int s0]) hm dX13_unary_79 rfl ?_
  rcases mx_if_el hf with ⟨c22, hf⟩ | ⟨c22, hf⟩
  · refine sb_if_ne hm dX13_unary_80 (tgt := 89) rfl (fun _ => ?_) (fun z => absurd c22 z)
    refine mx_S.pu (pc2 := 90) (lv2 := [(3, .int s0), (0, .ref l0), (1, .int l1), (2, .int l2)]) (st2 := [.ref l0]) hm dX13_unary_89 rfl ?_
    refine mx_S.pu (pc2 := 91) (lv2 := [(3, .int s0), (0, .ref l0), (1, .int l1), (2, .int l2)]) (st2 := [.int l1, .ref l0]) hm dX13_unary_90 rfl ?_
    replace hf := mx_gd_el hf; obtain ⟨c13, hf⟩ := hf
    replace hf := mx_sv_el hf; obtain ⟨u14, e_u14, hf⟩ := hf
    refine sx_cv hm dX13_unary_91 rs_RX13_437 mt_X13_isDeep [.int l1] [] (b := l0) (ci := 13) rfl rfl rfl c13 (Nat.le_of_ble_eq_true rfl) (Nat.le_of_ble_eq_true rfl) (by omega) (by omega) (f_X13_isDeep_ok X (by omega) (by omega) nn l0 l1 h e_u14) ?_
    clear e_u14
    show mx_S X F L 411 94 [(3, .int s0), (0, .ref l0), (1, .int l1), (2, .int l2)] [.int u14.1] u14.2 0 0 (some (.int r.1), r.2, 0, 0)
    rcases mx_if_el hf with ⟨c19, hf⟩ | ⟨c19, hf⟩
    · refine sb_if_eq hm dX13_unary_94 (tgt := 99) rfl (fun _ => ?_) (fun z => absurd c19 z)
      refine mx_S.pu (pc2 := 100) (lv2 := [(3, .int s0), (0, .ref l0), (1, .int l1), (2, .int l2)]) (st2 := [.ref l0]) hm dX13_unary_99 rfl ?_
      refine mx_S.pu (pc2 := 101) (lv2 := [(3, .int s0), (0, .ref l0), (1, .int l1), (2, .int l2)]) (st2 := [.int s0, .ref l0]) hm dX13_unary_100 rfl ?_
      refine mx_S.pu (pc2 := 102) (lv2 := [(3, .int s0), (0, .ref l0), (1, .int l1), (2, .int l2)]) (st2 := [.int l2, .int s0, .ref l0]) hm dX13_unary_101 rfl ?_
      rcases mx_if_el hf with ⟨c18, hf⟩ | ⟨c18, hf⟩
      · refine sb_if_eq hm dX13_unary_102 (tgt := 114) rfl (fun _ => ?_) (fun z => absurd c18 z)
        refine mx_S.pu (pc2 := 115) (lv2 := [(3, .int s0), (0, .ref l0), (1, .int l1), (2, .int l2)]) (st2 := [.ref l0, .int s0, .ref l0]) hm dX13_unary_114 rfl ?_
        replace hf := mx_sv_el hf; obtain ⟨v15, e_v15, hf⟩ := hf
        refine sx_get hm dX13_unary_115 rs_RX13_376 (xgi_el e_v15) ?_
        clear e_v15
        refine mx_S.ext [(0, .ref l0), (1, .int l1), (2, .int l2)] (mx_sub_pos [1, 2, 3] rfl (show ([3, 0, 1, 2] : List Nat).Nodup by decide)) ?_
        exact j_X13_unary_118_ok X hF hL nn hrc l0 l1 l2 v15 s0 l0 u14.2 hf
      · refine sb_if_eq hm dX13_unary_102 (tgt := 114) rfl (fun z => absurd z c18) (fun _ => ?_)
        refine mx_S.pu (pc2 := 106) (lv2 := [(3, .int s0), (0, .ref l0), (1, .int l1), (2, .int l2)]) (st2 := [.ref l0, .int s0, .ref l0]) hm dX13_unary_105 rfl ?_
        replace hf := mx_sv_el hf; obtain ⟨v16, e_v16, hf⟩ := hf
        refine sx_get hm dX13_unary_106 rs_RX13_376 (xgi_el e_v16) ?_
        clear e_v16
        refine sx_ic (v := 1) hm dX13_unary_109 (by decide) ?_
        replace hf := xl_el hf; obtain ⟨v17, e_v17, hf⟩ := hf
        refine mx_S.pu (pc2 := 111) (lv2 := [(3, .int s0), (0, .ref l0), (1, .int l1), (2, .int l2)]) (st2 := [.int v17, .int s0, .ref l0]) hm dX13_unary_110 (by rw [← e_v17]; rfl) ?_
        clear e_v17
        refine mx_S.pu (pc2 := 118) (lv2 := [(3, .int s0), (0, .ref l0), (1, .int l1), (2, .int l2)]) (st2 := [.int v17, .int s0, .ref l0]) hm dX13_unary_111 rfl ?_
        refine mx_S.ext [(0, .ref l0), (1, .int l1), (2, .int l2)] (mx_sub_pos [1, 2, 3] rfl (show ([3, 0, 1, 2] : List Nat).Nodup by decide)) ?_
        exact j_X13_unary_118_ok X hF hL nn hrc l0 l1 l2 v17 s0 l0 u14.2 hf
    · refine sb_if_eq hm dX13_unary_94 (tgt := 99) rfl (fun z => absurd z c19) (fun _ => ?_)
      refine sx_ic (v := (-1)) hm dX13_unary_97 (by decide) ?_
      cases hf
      exact sx_ire hm dX13_unary_98 rfl rfl
  · refine sb_if_ne hm dX13_unary_80 (tgt := 89) rfl (fun z => absurd z c22) (fun _ => ?_)
    refine mx_S.pu (pc2 := 84) (lv2 := [(3, .int s0), (0, .ref l0), (1, .int l1), (2, .int l2)]) (st2 := [.ref l0]) hm dX13_unary_83 rfl ?_
    refine mx_S.pu (pc2 := 85) (lv2 := [(3, .int s0), (0, .ref l0), (1, .int l1), (2, .int l2)]) (st2 := [.int l1, .ref l0]) hm dX13_unary_84 rfl ?_
    replace hf := mx_gd_el hf; obtain ⟨c20, hf⟩ := hf
    replace hf := mx_sv_el hf; obtain ⟨u21, e_u21, hf⟩ := hf
    refine sx_cv hm dX13_unary_85 rs_RX13_465 mt_X13_postfix [.int l1] [] (b := l0) (ci := 13) rfl rfl rfl c20 (Nat.le_of_ble_eq_true rfl) (Nat.le_of_ble_eq_true rfl) (by omega) (by omega) (hrc.2.2.2.2.1 (by omega) (by omega) l0 l1 h e_u21) ?_
    clear e_u21
    show mx_S X F L 411 88 [(3, .int s0), (0, .ref l0), (1, .int l1), (2, .int l2)] [.int u21.1] u21.2 0 0 (some (.int r.1), r.2, 0, 0)
    cases hf
    exact sx_ire hm dX13_unary_88 rfl rfl
set_option maxHeartbeats 4000000 in
set_option maxRecDepth 20000 in
theorem o_X13_unary_ok (X : Nat × (Nat → Int32)) {F L d : Nat} (hF : 3 + (d + 1) ≤ F) (hL : 63 + (d + 1) * 28 ≤ L) (nn : Nat) {rc : tg_X13_expression} (hrc : hg5_X13_expression X d rc) (a0 : Nat) (a1 : Int32) (h : mx_H) {r : (Int32 × mx_H)} (hf : o_X13_unary nn rc a0 a1 h = some r) : mx_R X F L 411 [.ref a0, .int a1] h (some (.int r.1), r.2, 0, 0) := by
  have hm : mx_mt 411 = some (yX13_unary, cX13_unary, 5, (some .int)) := mt_X13_unary
  show mx_S X F L 411 0 [(0, .ref a0), (1, .int a1)] [] h 0 0 (some (.int r.1), r.2, 0, 0)
  unfold o_X13_unary at hf
  refine mx_S.pu (pc2 := 1) (lv2 := [(0, .ref a0), (1, .int a1)]) (st2 := [.ref a0]) hm dX13_unary_0 rfl ?_
  replace hf := mx_sv_el hf; obtain ⟨v23, e_v23, hf⟩ := hf
  refine sx_get hm dX13_unary_1 rs_RX13_319 (xgi_el e_v23) ?_
  clear e_v23
  rcases mx_if_el hf with ⟨c39, hf⟩ | ⟨c39, hf⟩
  · refine sb_if_eq hm dX13_unary_4 (tgt := 9) rfl (fun _ => ?_) (fun z => absurd c39 z)
    refine mx_S.pu (pc2 := 10) (lv2 := [(0, .ref a0), (1, .int a1)]) (st2 := [.ref a0]) hm dX13_unary_9 rfl ?_
    replace hf := mx_gd_el hf; obtain ⟨c24, hf⟩ := hf
    replace hf := mx_sv_el hf; obtain ⟨u25, e_u25, hf⟩ := hf
    refine sx_cv hm dX13_unary_10 rs_RX13_462 mt_X13_isCast [] [] (b := a0) (ci := 13) rfl rfl rfl c24 (Nat.le_of_ble_eq_true rfl) (Nat.le_of_ble_eq_true rfl) (by omega) (by omega) (f_X13_isCast_ok X (by omega) (by omega) nn a0 h e_u25) ?_
    clear e_u25
    show mx_S X F L 411 13 [(0, .ref a0), (1, .int a1)] [.int u25.1] u25.2 0 0 (some (.int r.1), r.2, 0, 0)
    refine mx_S.pu (pc2 := 14) (lv2 := [(2, .int u25.1), (0, .ref a0), (1, .int a1)]) (st2 := []) hm dX13_unary_13 rfl ?_
    refine mx_S.pu (pc2 := 15) (lv2 := [(2, .int u25.1), (0, .ref a0), (1, .int a1)]) (st2 := [.ref a0]) hm dX13_unary_14 rfl ?_
    refine mx_S.pu (pc2 := 16) (lv2 := [(2, .int u25.1), (0, .ref a0), (1, .int a1)]) (st2 := [.ref a0, .ref a0]) hm dX13_unary_15 rfl ?_
    replace hf := mx_sv_el hf; obtain ⟨v26, e_v26, hf⟩ := hf
    refine sx_get hm dX13_unary_16 rs_RX13_376 (xgi_el e_v26) ?_
    clear e_v26
    refine sx_bi (v := 45) hm dX13_unary_19 (by decide) ?_
    replace hf := mx_gd_el hf; obtain ⟨c27, hf⟩ := hf
    replace hf := mx_sv_el hf; obtain ⟨u28, e_u28, hf⟩ := hf
    refine sx_cv hm dX13_unary_21 rs_RX13_383 mt_X13_isSign [.int v26, .int 45] [] (b := a0) (ci := 13) rfl rfl rfl c27 (Nat.le_of_ble_eq_true rfl) (Nat.le_of_ble_eq_true rfl) (by omega) (by omega) (f_X13_isSign_ok X (by omega) (by omega) nn a0 v26 45 u25.2 e_u28) ?_
    clear e_u28
    show mx_S X F L 411 24 [(2, .int u25.1), (0, .ref a0), (1, .int a1)] [.int u28.1] u28.2 0 0 (some (.int r.1), r.2, 0, 0)
    rcases mx_if_el hf with ⟨c38, hf⟩ | ⟨c38, hf⟩
    · refine sb_if_eq hm dX13_unary_24 (tgt := 32) rfl (fun _ => ?_) (fun z => absurd c38 z)
      refine mx_S.pu (pc2 := 33) (lv2 := [(2, .int u25.1), (0, .ref a0), (1, .int a1)]) (st2 := [.ref a0]) hm dX13_unary_32 rfl ?_
      refine mx_S.pu (pc2 := 34) (lv2 := [(2, .int u25.1), (0, .ref a0), (1, .int a1)]) (st2 := [.ref a0, .ref a0]) hm dX13_unary_33 rfl ?_
      replace hf := mx_sv_el hf; obtain ⟨v29, e_v29, hf⟩ := hf
      refine sx_get hm dX13_unary_34 rs_RX13_376 (xgi_el e_v29) ?_
      clear e_v29
      refine sx_bi (v := 33) hm dX13_unary_37 (by decide) ?_
      replace hf := mx_gd_el hf; obtain ⟨c30, hf⟩ := hf
      replace hf := mx_sv_el hf; obtain ⟨u31, e_u31, hf⟩ := hf
      refine sx_cv hm dX13_unary_39 rs_RX13_383 mt_X13_isSign [.int v29, .int 33] [] (b := a0) (ci := 13) rfl rfl rfl c30 (Nat.le_of_ble_eq_true rfl) (Nat.le_of_ble_eq_true rfl) (by omega) (by omega) (f_X13_isSign_ok X (by omega) (by omega) nn a0 v29 33 u28.2 e_u31) ?_
      clear e_u31
      show mx_S X F L 411 42 [(2, .int u25.1), (0, .ref a0), (1, .int a1)] [.int u31.1] u31.2 0 0 (some (.int r.1), r.2, 0, 0)
      rcases mx_if_el hf with ⟨c37, hf⟩ | ⟨c37, hf⟩
      · refine sb_if_eq hm dX13_unary_42 (tgt := 50) rfl (fun _ => ?_) (fun z => absurd c37 z)
        refine mx_S.pu (pc2 := 51) (lv2 := [(2, .int u25.1), (0, .ref a0), (1, .int a1)]) (st2 := [.ref a0]) hm dX13_unary_50 rfl ?_
        refine mx_S.pu (pc2 := 52) (lv2 := [(2, .int u25.1), (0, .ref a0), (1, .int a1)]) (st2 := [.ref a0, .ref a0]) hm dX13_unary_51 rfl ?_
        replace hf := mx_sv_el hf; obtain ⟨v32, e_v32, hf⟩ := hf
        refine sx_get hm dX13_unary_52 rs_RX13_376 (xgi_el e_v32) ?_
        clear e_v32
        refine sx_bi (v := 126) hm dX13_unary_55 (by decide) ?_
        replace hf := mx_gd_el hf; obtain ⟨c33, hf⟩ := hf
        replace hf := mx_sv_el hf; obtain ⟨u34, e_u34, hf⟩ := hf
        refine sx_cv hm dX13_unary_57 rs_RX13_383 mt_X13_isSign [.int v32, .int 126] [] (b := a0) (ci := 13) rfl rfl rfl c33 (Nat.le_of_ble_eq_true rfl) (Nat.le_of_ble_eq_true rfl) (by omega) (by omega) (f_X13_isSign_ok X (by omega) (by omega) nn a0 v32 126 u31.2 e_u34) ?_
        clear e_u34
        show mx_S X F L 411 60 [(2, .int u25.1), (0, .ref a0), (1, .int a1)] [.int u34.1] u34.2 0 0 (some (.int r.1), r.2, 0, 0)
        rcases mx_if_el hf with ⟨c36, hf⟩ | ⟨c36, hf⟩
        · refine sb_if_eq hm dX13_unary_60 (tgt := 68) rfl (fun _ => ?_) (fun z => absurd c36 z)
          refine mx_S.pu (pc2 := 69) (lv2 := [(2, .int u25.1), (0, .ref a0), (1, .int a1)]) (st2 := [.int u25.1]) hm dX13_unary_68 rfl ?_
          rcases mx_if_el hf with ⟨c35, hf⟩ | ⟨c35, hf⟩
          · refine sb_if_eq hm dX13_unary_69 (tgt := 77) rfl (fun _ => ?_) (fun z => absurd c35 z)
            refine sx_ic (v := 0) hm dX13_unary_77 (by decide) ?_
            refine mx_S.ext [(0, .ref a0), (1, .int a1), (2, .int u25.1)] (mx_sub_pos [1, 2, 0] rfl (show ([2, 0, 1] : List Nat).Nodup by decide)) ?_
            exact j_X13_unary_78_ok X hF hL nn hrc a0 a1 u25.1 0 u34.2 hf
          · refine sb_if_eq hm dX13_unary_69 (tgt := 77) rfl (fun z => absurd z c35) (fun _ => ?_)
            refine sx_bi (v := 36) hm dX13_unary_72 (by decide) ?_
            refine mx_S.pu (pc2 := 78) (lv2 := [(2, .int u25.1), (0, .ref a0), (1, .int a1)]) (st2 := [.int 36]) hm dX13_unary_74 rfl ?_
            refine mx_S.ext [(0, .ref a0), (1, .int a1), (2, .int u25.1)] (mx_sub_pos [1, 2, 0] rfl (show ([2, 0, 1] : List Nat).Nodup by decide)) ?_
            exact j_X13_unary_78_ok X hF hL nn hrc a0 a1 u25.1 36 u34.2 hf
        · refine sb_if_eq hm dX13_unary_60 (tgt := 68) rfl (fun z => absurd z c36) (fun _ => ?_)
          refine sx_bi (v := 35) hm dX13_unary_63 (by decide) ?_
          refine mx_S.pu (pc2 := 78) (lv2 := [(2, .int u25.1), (0, .ref a0), (1, .int a1)]) (st2 := [.int 35]) hm dX13_unary_65 rfl ?_
          refine mx_S.ext [(0, .ref a0), (1, .int a1), (2, .int u25.1)] (mx_sub_pos [1, 2, 0] rfl (show ([2, 0, 1] : List Nat).Nodup by decide)) ?_
          exact j_X13_unary_78_ok X hF hL nn hrc a0 a1 u25.1 35 u34.2 hf
      · refine sb_if_eq hm dX13_unary_42 (tgt := 50) rfl (fun z => absurd z c37) (fun _ => ?_)
        refine sx_bi (v := 34) hm dX13_unary_45 (by decide) ?_
        refine mx_S.pu (pc2 := 78) (lv2 := [(2, .int u25.1), (0, .ref a0), (1, .int a1)]) (st2 := [.int 34]) hm dX13_unary_47 rfl ?_
        refine mx_S.ext [(0, .ref a0), (1, .int a1), (2, .int u25.1)] (mx_sub_pos [1, 2, 0] rfl (show ([2, 0, 1] : List Nat).Nodup by decide)) ?_
        exact j_X13_unary_78_ok X hF hL nn hrc a0 a1 u25.1 34 u31.2 hf
    · refine sb_if_eq hm dX13_unary_24 (tgt := 32) rfl (fun z => absurd z c38) (fun _ => ?_)
      refine sx_bi (v := 33) hm dX13_unary_27 (by decide) ?_
      refine mx_S.pu (pc2 := 78) (lv2 := [(2, .int u25.1), (0, .ref a0), (1, .int a1)]) (st2 := [.int 33]) hm dX13_unary_29 rfl ?_
      refine mx_S.ext [(0, .ref a0), (1, .int a1), (2, .int u25.1)] (mx_sub_pos [1, 2, 0] rfl (show ([2, 0, 1] : List Nat).Nodup by decide)) ?_
      exact j_X13_unary_78_ok X hF hL nn hrc a0 a1 u25.1 33 u28.2 hf
  · refine sb_if_eq hm dX13_unary_4 (tgt := 9) rfl (fun z => absurd z c39) (fun _ => ?_)
    refine sx_ic (v := (-1)) hm dX13_unary_7 (by decide) ?_
    cases hf
    exact sx_ire hm dX13_unary_8 rfl rfl
set_option maxHeartbeats 4000000 in
set_option maxRecDepth 20000 in
theorem j_X13_arguments_113_ok (X : Nat × (Nat → Int32)) {F L d : Nat} (hF : 3 + (d + 1) ≤ F) (hL : 63 + (d + 1) * 28 ≤ L) (nn : Nat) {rc : tg_X13_expression} (hrc : hg5_X13_expression X d rc) (l0 : Nat) (l2 : Int32) (h : mx_H) {r : (Int32 × mx_H)} (hf : j_X13_arguments_113 nn rc l0 l2 h = some r) : mx_S X F L 412 113 [(0, .ref l0), (2, .int l2)] [] h 0 0 (some (.int r.1), r.2, 0, 0) := by
  have hm : mx_mt 412 = some (yX13_arguments, cX13_arguments, 6, (some .int)) := mt_X13_arguments
  unfold j_X13_arguments_113 at hf
  refine mx_S.pu (pc2 := 114) (lv2 := [(0, .ref l0), (2, .int l2)]) (st2 := [.ref l0]) hm dX13_arguments_113 rfl ?_
  refine sx_bi (v := 41) hm dX13_arguments_114 (by decide) ?_
  replace hf := mx_gd_el hf; obtain ⟨c1, hf⟩ := hf
  replace hf := mx_sv_el hf; obtain ⟨u2, e_u2, hf⟩ := hf
  refine sx_cv hm dX13_arguments_116 rs_RX13_406 mt_X13_sign_ [.int 41] [] (b := l0) (ci := 13) rfl rfl rfl c1 (Nat.le_of_ble_eq_true rfl) (Nat.le_of_ble_eq_true rfl) (by omega) (by omega) (f_X13_sign__ok X (by omega) (by omega) nn l0 41 h e_u2) ?_
  clear e_u2
  show mx_S X F L 412 119 [(0, .ref l0), (2, .int l2)] [] u2 0 0 (some (.int r.1), r.2, 0, 0)
  refine mx_S.pu (pc2 := 120) (lv2 := [(0, .ref l0), (2, .int l2)]) (st2 := [.int l2]) hm dX13_arguments_119 rfl ?_
  cases hf
  exact sx_ire hm dX13_arguments_120 rfl rfl
set_option maxHeartbeats 4000000 in
set_option maxRecDepth 20000 in
theorem j_X13_arguments_41_ok (X : Nat × (Nat → Int32)) {F L d : Nat} (hF : 3 + (d + 1) ≤ F) (hL : 63 + (d + 1) * 28 ≤ L) (nn : Nat) {rc : tg_X13_expression} (hrc : hg5_X13_expression X d rc) {kk_10 : Nat → Int32 → Int32 → Int32 → mx_H → Option (Int32 × mx_H)} (hk_10 : ∀ (l0 : Nat) (l1 : Int32) (l2 : Int32) (l3 : Int32) (h : mx_H) (r : (Int32 × mx_H)), kk_10 l0 l1 l2 l3 h = some r → mx_S X F L 412 10 [(0, .ref l0), (1, .int l1), (2, .int l2), (3, .int l3)] [] h 0 0 (some (.int r.1), r.2, 0, 0)) (l0 : Nat) (l1 : Int32) (l2 : Int32) (l3 : Int32) (h : mx_H) {r : (Int32 × mx_H)} (hf : j_X13_arguments_41 nn rc kk_10 l0 l1 l2 l3 h = some r) : mx_S X F L 412 41 [(0, .ref l0), (1, .int l1), (2, .int l2), (3, .int l3)] [] h 0 0 (some (.int r.1), r.2, 0, 0) := by
  have hm : mx_mt 412 = some (yX13_arguments, cX13_arguments, 6, (some .int)) := mt_X13_arguments
  unfold j_X13_arguments_41 at hf
  refine mx_S.pu (pc2 := 42) (lv2 := [(0, .ref l0), (1, .int l1), (2, .int l2), (3, .int l3)]) (st2 := [.ref l0]) hm dX13_arguments_41 rfl ?_
  refine mx_S.pu (pc2 := 43) (lv2 := [(0, .ref l0), (1, .int l1), (2, .int l2), (3, .int l3)]) (st2 := [.int l1, .ref l0]) hm dX13_arguments_42 rfl ?_
  replace hf := mx_gd_el hf; obtain ⟨c3, hf⟩ := hf
  replace hf := mx_sv_el hf; obtain ⟨u4, e_u4, hf⟩ := hf
  refine sx_cv hm dX13_arguments_43 rs_RX13_444 mt_X13_expression [.int l1] [] (b := l0) (ci := 13) rfl rfl rfl c3 (Nat.le_of_ble_eq_true rfl) (Nat.le_of_ble_eq_true rfl) (by omega) (by omega) (hrc.1 (by omega) (by omega) l0 l1 h e_u4) ?_
  clear e_u4
  show mx_S X F L 412 46 [(0, .ref l0), (1, .int l1), (2, .int l2), (3, .int l3)] [.int u4.1] u4.2 0 0 (some (.int r.1), r.2, 0, 0)
  refine mx_S.pu (pc2 := 48) (lv2 := [(4, .int u4.1), (0, .ref l0), (1, .int l1), (2, .int l2), (3, .int l3)]) (st2 := []) hm dX13_arguments_46 rfl ?_
  refine mx_S.pu (pc2 := 49) (lv2 := [(4, .int u4.1), (0, .ref l0), (1, .int l1), (2, .int l2), (3, .int l3)]) (st2 := [.ref l0]) hm dX13_arguments_48 rfl ?_
  replace hf := mx_sv_el hf; obtain ⟨v5, e_v5, hf⟩ := hf
  refine sx_get hm dX13_arguments_49 rs_RX13_319 (xgi_el e_v5) ?_
  clear e_v5
  rcases mx_if_el hf with ⟨c17, hf⟩ | ⟨c17, hf⟩
  · refine sb_if_eq hm dX13_arguments_52 (tgt := 57) rfl (fun _ => ?_) (fun z => absurd c17 z)
    refine mx_S.pu (pc2 := 58) (lv2 := [(4, .int u4.1), (0, .ref l0), (1, .int l1), (2, .int l2), (3, .int l3)]) (st2 := [.ref l0]) hm dX13_arguments_57 rfl ?_
    refine sx_bi (v := 11) hm dX13_arguments_58 (by decide) ?_
    refine mx_S.pu (pc2 := 61) (lv2 := [(4, .int u4.1), (0, .ref l0), (1, .int l1), (2, .int l2), (3, .int l3)]) (st2 := [.ref l0, .int 11, .ref l0]) hm dX13_arguments_60 rfl ?_
    replace hf := mx_sv_el hf; obtain ⟨v6, e_v6, hf⟩ := hf
    refine sx_get hm dX13_arguments_61 rs_RX13_34 (xgr_el e_v6) ?_
    clear e_v6
    refine mx_S.pu (pc2 := 66) (lv2 := [(4, .int u4.1), (0, .ref l0), (1, .int l1), (2, .int l2), (3, .int l3)]) (st2 := [.int u4.1, .ref v6, .int 11, .ref l0]) hm dX13_arguments_64 rfl ?_
    replace hf := mx_sv_el hf; obtain ⟨v7, e_v7, hf⟩ := hf
    refine sx_ald hm dX13_arguments_66 e_v7 ?_
    clear e_v7
    refine mx_S.pu (pc2 := 68) (lv2 := [(4, .int u4.1), (0, .ref l0), (1, .int l1), (2, .int l2), (3, .int l3)]) (st2 := [.ref l0, .int v7, .int 11, .ref l0]) hm dX13_arguments_67 rfl ?_
    replace hf := mx_sv_el hf; obtain ⟨v8, e_v8, hf⟩ := hf
    refine sx_get hm dX13_arguments_68 rs_RX13_34 (xgr_el e_v8) ?_
    clear e_v8
    refine mx_S.pu (pc2 := 73) (lv2 := [(4, .int u4.1), (0, .ref l0), (1, .int l1), (2, .int l2), (3, .int l3)]) (st2 := [.int u4.1, .ref v8, .int v7, .int 11, .ref l0]) hm dX13_arguments_71 rfl ?_
    replace hf := mx_sv_el hf; obtain ⟨v9, e_v9, hf⟩ := hf
    refine sx_ald hm dX13_arguments_73 e_v9 ?_
    clear e_v9
    replace hf := mx_gd_el hf; obtain ⟨c10, hf⟩ := hf
    replace hf := mx_sv_el hf; obtain ⟨u11, e_u11, hf⟩ := hf
    refine sx_cv hm dX13_arguments_74 rs_RX13_430 mt_X13_add [.int 11, .int v7, .int v9] [] (b := l0) (ci := 13) rfl rfl rfl c10 (Nat.le_of_ble_eq_true rfl) (Nat.le_of_ble_eq_true rfl) (by omega) (by omega) (f_X13_add_ok X (by omega) (by omega) nn l0 11 v7 v9 u4.2 e_u11) ?_
    clear e_u11
    show mx_S X F L 412 77 [(4, .int u4.1), (0, .ref l0), (1, .int l1), (2, .int l2), (3, .int l3)] [.int u11.1] u11.2 0 0 (some (.int r.1), r.2, 0, 0)
    refine mx_S.pu (pc2 := 79) (lv2 := [(5, .int u11.1), (4, .int u4.1), (0, .ref l0), (1, .int l1), (2, .int l2), (3, .int l3)]) (st2 := []) hm dX13_arguments_77 rfl ?_
    refine mx_S.pu (pc2 := 80) (lv2 := [(5, .int u11.1), (4, .int u4.1), (0, .ref l0), (1, .int l1), (2, .int l2), (3, .int l3)]) (st2 := [.ref l0]) hm dX13_arguments_79 rfl ?_
    replace hf := mx_sv_el hf; obtain ⟨v12, e_v12, hf⟩ := hf
    refine sx_get hm dX13_arguments_80 rs_RX13_37 (xgr_el e_v12) ?_
    clear e_v12
    refine mx_S.pu (pc2 := 85) (lv2 := [(5, .int u11.1), (4, .int u4.1), (0, .ref l0), (1, .int l1), (2, .int l2), (3, .int l3)]) (st2 := [.int u11.1, .ref v12]) hm dX13_arguments_83 rfl ?_
    refine mx_S.pu (pc2 := 87) (lv2 := [(5, .int u11.1), (4, .int u4.1), (0, .ref l0), (1, .int l1), (2, .int l2), (3, .int l3)]) (st2 := [.int u4.1, .int u11.1, .ref v12]) hm dX13_arguments_85 rfl ?_
    replace hf := mx_sv_el hf; obtain ⟨h13, e_h13, hf⟩ := hf
    refine sx_ast hm dX13_arguments_87 e_h13 ?_
    clear e_h13
    refine mx_S.pu (pc2 := 89) (lv2 := [(5, .int u11.1), (4, .int u4.1), (0, .ref l0), (1, .int l1), (2, .int l2), (3, .int l3)]) (st2 := [.int l2]) hm dX13_arguments_88 rfl ?_
    refine sx_ic (v := (-1)) hm dX13_arguments_89 (by decide) ?_
    rcases mx_if_el hf with ⟨c16, hf⟩ | ⟨c16, hf⟩
    · refine sb_ic_ne hm dX13_arguments_90 (tgt := 99) rfl (fun _ => ?_) (fun z => absurd c16 z)
      refine mx_S.pu (pc2 := 100) (lv2 := [(5, .int u11.1), (4, .int u4.1), (0, .ref l0), (1, .int l1), (2, .int l2), (3, .int l3)]) (st2 := [.ref l0]) hm dX13_arguments_99 rfl ?_
      replace hf := mx_sv_el hf; obtain ⟨v14, e_v14, hf⟩ := hf
      refine sx_get hm dX13_arguments_100 rs_RX13_46 (xgr_el e_v14) ?_
      clear e_v14
      refine mx_S.pu (pc2 := 104) (lv2 := [(5, .int u11.1), (4, .int u4.1), (0, .ref l0), (1, .int l1), (2, .int l2), (3, .int l3)]) (st2 := [.int l3, .ref v14]) hm dX13_arguments_103 rfl ?_
      refine mx_S.pu (pc2 := 106) (lv2 := [(5, .int u11.1), (4, .int u4.1), (0, .ref l0), (1, .int l1), (2, .int l2), (3, .int l3)]) (st2 := [.int u11.1, .int l3, .ref v14]) hm dX13_arguments_104 rfl ?_
      replace hf := mx_sv_el hf; obtain ⟨h15, e_h15, hf⟩ := hf
      refine sx_ast hm dX13_arguments_106 e_h15 ?_
      clear e_h15
      refine mx_S.pu (pc2 := 109) (lv2 := [(5, .int u11.1), (4, .int u4.1), (0, .ref l0), (1, .int l1), (2, .int l2), (3, .int l3)]) (st2 := [.int u11.1]) hm dX13_arguments_107 rfl ?_
      refine mx_S.pu (pc2 := 110) (lv2 := [(3, .int u11.1), (5, .int u11.1), (4, .int u4.1), (0, .ref l0), (1, .int l1), (2, .int l2)]) (st2 := []) hm dX13_arguments_109 rfl ?_
      refine mx_S.pu (pc2 := 10) (lv2 := [(3, .int u11.1), (5, .int u11.1), (4, .int u4.1), (0, .ref l0), (1, .int l1), (2, .int l2)]) (st2 := []) hm dX13_arguments_110 rfl ?_
      refine mx_S.ext [(0, .ref l0), (1, .int l1), (2, .int l2), (3, .int u11.1)] (mx_sub_pos [3, 4, 5, 0] rfl (show ([3, 5, 4, 0, 1, 2] : List Nat).Nodup by decide)) ?_
      exact hk_10 l0 l1 l2 u11.1 h15 _ hf
    · refine sb_ic_ne hm dX13_arguments_90 (tgt := 99) rfl (fun z => absurd z c16) (fun _ => ?_)
      refine mx_S.pu (pc2 := 95) (lv2 := [(5, .int u11.1), (4, .int u4.1), (0, .ref l0), (1, .int l1), (2, .int l2), (3, .int l3)]) (st2 := [.int u11.1]) hm dX13_arguments_93 rfl ?_
      refine mx_S.pu (pc2 := 96) (lv2 := [(2, .int u11.1), (5, .int u11.1), (4, .int u4.1), (0, .ref l0), (1, .int l1), (3, .int l3)]) (st2 := []) hm dX13_arguments_95 rfl ?_
      refine mx_S.pu (pc2 := 107) (lv2 := [(2, .int u11.1), (5, .int u11.1), (4, .int u4.1), (0, .ref l0), (1, .int l1), (3, .int l3)]) (st2 := []) hm dX13_arguments_96 rfl ?_
      refine mx_S.pu (pc2 := 109) (lv2 := [(2, .int u11.1), (5, .int u11.1), (4, .int u4.1), (0, .ref l0), (1, .int l1), (3, .int l3)]) (st2 := [.int u11.1]) hm dX13_arguments_107 rfl ?_
      refine mx_S.pu (pc2 := 110) (lv2 := [(3, .int u11.1), (2, .int u11.1), (5, .int u11.1), (4, .int u4.1), (0, .ref l0), (1, .int l1)]) (st2 := []) hm dX13_arguments_109 rfl ?_
      refine mx_S.pu (pc2 := 10) (lv2 := [(3, .int u11.1), (2, .int u11.1), (5, .int u11.1), (4, .int u4.1), (0, .ref l0), (1, .int l1)]) (st2 := []) hm dX13_arguments_110 rfl ?_
      refine mx_S.ext [(0, .ref l0), (1, .int l1), (2, .int u11.1), (3, .int u11.1)] (mx_sub_pos [4, 5, 1, 0] rfl (show ([3, 2, 5, 4, 0, 1] : List Nat).Nodup by decide)) ?_
      exact hk_10 l0 l1 u11.1 u11.1 h13 _ hf
  · refine sb_if_eq hm dX13_arguments_52 (tgt := 57) rfl (fun z => absurd z c17) (fun _ => ?_)
    refine sx_ic (v := (-1)) hm dX13_arguments_55 (by decide) ?_
    cases hf
    exact sx_ire hm dX13_arguments_56 rfl rfl
set_option maxHeartbeats 4000000 in
set_option maxRecDepth 20000 in
theorem w_X13_arguments_10_ok (X : Nat × (Nat → Int32)) {F L d : Nat} (hF : 3 + (d + 1) ≤ F) (hL : 63 + (d + 1) * 28 ≤ L) (nn : Nat) {rc : tg_X13_expression} (hrc : hg5_X13_expression X d rc) : ∀ (k : Nat) (l0 : Nat) (l1 : Int32) (l2 : Int32) (l3 : Int32) (h : mx_H) (r : (Int32 × mx_H)), w_X13_arguments_10 nn rc k l0 l1 l2 l3 h = some r → mx_S X F L 412 10 [(0, .ref l0), (1, .int l1), (2, .int l2), (3, .int l3)] [] h 0 0 (some (.int r.1), r.2, 0, 0) := by
  have hm : mx_mt 412 = some (yX13_arguments, cX13_arguments, 6, (some .int)) := mt_X13_arguments
  intro k
  induction k with
  | zero => intro l0 l1 l2 l3 h r hf; cases hf
  | succ k ih =>
    intro l0 l1 l2 l3 h r hf
    unfold w_X13_arguments_10 at hf
    refine mx_S.pu (pc2 := 11) (lv2 := [(0, .ref l0), (1, .int l1), (2, .int l2), (3, .int l3)]) (st2 := [.ref l0]) hm dX13_arguments_10 rfl ?_
    replace hf := mx_sv_el hf; obtain ⟨v18, e_v18, hf⟩ := hf
    refine sx_get hm dX13_arguments_11 rs_RX13_319 (xgi_el e_v18) ?_
    clear e_v18
    rcases mx_if_el hf with ⟨c26, hf⟩ | ⟨c26, hf⟩
    · refine sb_if_ne hm dX13_arguments_14 (tgt := 113) rfl (fun _ => ?_) (fun z => absurd c26 z)
      refine mx_S.ext [(0, .ref l0), (2, .int l2)] (mx_sub_pos [0, 2] rfl (show ([0, 1, 2, 3] : List Nat).Nodup by decide)) ?_
      exact j_X13_arguments_113_ok X hF hL nn hrc l0 l2 h hf
    · refine sb_if_ne hm dX13_arguments_14 (tgt := 113) rfl (fun z => absurd z c26) (fun _ => ?_)
      refine mx_S.pu (pc2 := 18) (lv2 := [(0, .ref l0), (1, .int l1), (2, .int l2), (3, .int l3)]) (st2 := [.ref l0]) hm dX13_arguments_17 rfl ?_
      refine mx_S.pu (pc2 := 19) (lv2 := [(0, .ref l0), (1, .int l1), (2, .int l2), (3, .int l3)]) (st2 := [.ref l0, .ref l0]) hm dX13_arguments_18 rfl ?_
      replace hf := mx_sv_el hf; obtain ⟨v19, e_v19, hf⟩ := hf
      refine sx_get hm dX13_arguments_19 rs_RX13_376 (xgi_el e_v19) ?_
      clear e_v19
      refine sx_bi (v := 41) hm dX13_arguments_22 (by decide) ?_
      replace hf := mx_gd_el hf; obtain ⟨c20, hf⟩ := hf
      replace hf := mx_sv_el hf; obtain ⟨u21, e_u21, hf⟩ := hf
      refine sx_cv hm dX13_arguments_24 rs_RX13_383 mt_X13_isSign [.int v19, .int 41] [] (b := l0) (ci := 13) rfl rfl rfl c20 (Nat.le_of_ble_eq_true rfl) (Nat.le_of_ble_eq_true rfl) (by omega) (by omega) (f_X13_isSign_ok X (by omega) (by omega) nn l0 v19 41 h e_u21) ?_
      clear e_u21
      show mx_S X F L 412 27 [(0, .ref l0), (1, .int l1), (2, .int l2), (3, .int l3)] [.int u21.1] u21.2 0 0 (some (.int r.1), r.2, 0, 0)
      rcases mx_if_el hf with ⟨c25, hf⟩ | ⟨c25, hf⟩
      · refine sb_if_ne hm dX13_arguments_27 (tgt := 113) rfl (fun _ => ?_) (fun z => absurd c25 z)
        refine mx_S.ext [(0, .ref l0), (2, .int l2)] (mx_sub_pos [0, 2] rfl (show ([0, 1, 2, 3] : List Nat).Nodup by decide)) ?_
        exact j_X13_arguments_113_ok X hF hL nn hrc l0 l2 u21.2 hf
      · refine sb_if_ne hm dX13_arguments_27 (tgt := 113) rfl (fun z => absurd z c25) (fun _ => ?_)
        refine mx_S.pu (pc2 := 31) (lv2 := [(0, .ref l0), (1, .int l1), (2, .int l2), (3, .int l3)]) (st2 := [.int l2]) hm dX13_arguments_30 rfl ?_
        refine sx_ic (v := (-1)) hm dX13_arguments_31 (by decide) ?_
        rcases mx_if_el hf with ⟨c24, hf⟩ | ⟨c24, hf⟩
        · refine sb_ic_eq hm dX13_arguments_32 (tgt := 41) rfl (fun _ => ?_) (fun z => absurd c24 z)
          exact j_X13_arguments_41_ok X hF hL nn hrc ih l0 l1 l2 l3 u21.2 hf
        · refine sb_ic_eq hm dX13_arguments_32 (tgt := 41) rfl (fun z => absurd z c24) (fun _ => ?_)
          refine mx_S.pu (pc2 := 36) (lv2 := [(0, .ref l0), (1, .int l1), (2, .int l2), (3, .int l3)]) (st2 := [.ref l0]) hm dX13_arguments_35 rfl ?_
          refine sx_bi (v := 44) hm dX13_arguments_36 (by decide) ?_
          replace hf := mx_gd_el hf; obtain ⟨c22, hf⟩ := hf
          replace hf := mx_sv_el hf; obtain ⟨u23, e_u23, hf⟩ := hf
          refine sx_cv hm dX13_arguments_38 rs_RX13_406 mt_X13_sign_ [.int 44] [] (b := l0) (ci := 13) rfl rfl rfl c22 (Nat.le_of_ble_eq_true rfl) (Nat.le_of_ble_eq_true rfl) (by omega) (by omega) (f_X13_sign__ok X (by omega) (by omega) nn l0 44 u21.2 e_u23) ?_
          clear e_u23
          show mx_S X F L 412 41 [(0, .ref l0), (1, .int l1), (2, .int l2), (3, .int l3)] [] u23 0 0 (some (.int r.1), r.2, 0, 0)
          exact j_X13_arguments_41_ok X hF hL nn hrc ih l0 l1 l2 l3 u23 hf
set_option maxHeartbeats 4000000 in
set_option maxRecDepth 20000 in
theorem o_X13_arguments_ok (X : Nat × (Nat → Int32)) {F L d : Nat} (hF : 3 + (d + 1) ≤ F) (hL : 63 + (d + 1) * 28 ≤ L) (nn : Nat) {rc : tg_X13_expression} (hrc : hg5_X13_expression X d rc) (a0 : Nat) (a1 : Int32) (h : mx_H) {r : (Int32 × mx_H)} (hf : o_X13_arguments nn rc a0 a1 h = some r) : mx_R X F L 412 [.ref a0, .int a1] h (some (.int r.1), r.2, 0, 0) := by
  have hm : mx_mt 412 = some (yX13_arguments, cX13_arguments, 6, (some .int)) := mt_X13_arguments
  show mx_S X F L 412 0 [(0, .ref a0), (1, .int a1)] [] h 0 0 (some (.int r.1), r.2, 0, 0)
  unfold o_X13_arguments at hf
  refine mx_S.pu (pc2 := 1) (lv2 := [(0, .ref a0), (1, .int a1)]) (st2 := [.ref a0]) hm dX13_arguments_0 rfl ?_
  refine sx_bi (v := 40) hm dX13_arguments_1 (by decide) ?_
  replace hf := mx_gd_el hf; obtain ⟨c27, hf⟩ := hf
  replace hf := mx_sv_el hf; obtain ⟨u28, e_u28, hf⟩ := hf
  refine sx_cv hm dX13_arguments_3 rs_RX13_406 mt_X13_sign_ [.int 40] [] (b := a0) (ci := 13) rfl rfl rfl c27 (Nat.le_of_ble_eq_true rfl) (Nat.le_of_ble_eq_true rfl) (by omega) (by omega) (f_X13_sign__ok X (by omega) (by omega) nn a0 40 h e_u28) ?_
  clear e_u28
  show mx_S X F L 412 6 [(0, .ref a0), (1, .int a1)] [] u28 0 0 (some (.int r.1), r.2, 0, 0)
  refine sx_ic (v := (-1)) hm dX13_arguments_6 (by decide) ?_
  refine mx_S.pu (pc2 := 8) (lv2 := [(2, .int (-1)), (0, .ref a0), (1, .int a1)]) (st2 := []) hm dX13_arguments_7 rfl ?_
  refine sx_ic (v := (-1)) hm dX13_arguments_8 (by decide) ?_
  refine mx_S.pu (pc2 := 10) (lv2 := [(3, .int (-1)), (2, .int (-1)), (0, .ref a0), (1, .int a1)]) (st2 := []) hm dX13_arguments_9 rfl ?_
  refine mx_S.ext [(0, .ref a0), (1, .int a1), (2, .int (-1)), (3, .int (-1))] (mx_sub_pos [2, 3, 1, 0] rfl (show ([3, 2, 0, 1] : List Nat).Nodup by decide)) ?_
  exact w_X13_arguments_10_ok X hF hL nn hrc nn a0 a1 (-1) (-1) u28 _ hf
set_option maxHeartbeats 4000000 in
set_option maxRecDepth 20000 in
theorem j_X13_postfix_194_ok (X : Nat × (Nat → Int32)) {F L d : Nat} (hF : 3 + (d + 1) ≤ F) (hL : 63 + (d + 1) * 28 ≤ L) (nn : Nat) {rc : tg_X13_expression} (hrc : hg5_X13_expression X d rc) {kk_11 : Nat → Int32 → Int32 → Int32 → mx_H → Option (Int32 × mx_H)} (hk_11 : ∀ (l0 : Nat) (l1 : Int32) (l2 : Int32) (l3 : Int32) (h : mx_H) (r : (Int32 × mx_H)), kk_11 l0 l1 l2 l3 h = some r → mx_S X F L 413 11 [(0, .ref l0), (1, .int l1), (2, .int l2), (3, .int l3)] [] h 0 0 (some (.int r.1), r.2, 0, 0)) (l0 : Nat) (l1 : Int32) (l2 : Int32) (l4 : Int32) (h : mx_H) {r : (Int32 × mx_H)} (hf : j_X13_postfix_194 nn rc kk_11 l0 l1 l2 l4 h = some r) : mx_S X F L 413 194 [(0, .ref l0), (1, .int l1), (2, .int l2), (4, .int l4)] [] h 0 0 (some (.int r.1), r.2, 0, 0) := by
  have hm : mx_mt 413 = some (yX13_postfix, cX13_postfix, 5, (some .int)) := mt_X13_postfix
  unfold j_X13_postfix_194 at hf
  refine mx_S.pu (pc2 := 195) (lv2 := [(0, .ref l0), (1, .int l1), (2, .int l2), (4, .int l4)]) (st2 := [.ref l0]) hm dX13_postfix_194 rfl ?_
  refine sx_bi (v := 93) hm dX13_postfix_195 (by decide) ?_
  replace hf := mx_gd_el hf; obtain ⟨c1, hf⟩ := hf
  replace hf := mx_sv_el hf; obtain ⟨u2, e_u2, hf⟩ := hf
  refine sx_cv hm dX13_postfix_197 rs_RX13_406 mt_X13_sign_ [.int 93] [] (b := l0) (ci := 13) rfl rfl rfl c1 (Nat.le_of_ble_eq_true rfl) (Nat.le_of_ble_eq_true rfl) (by omega) (by omega) (f_X13_sign__ok X (by omega) (by omega) nn l0 93 h e_u2) ?_
  clear e_u2
  show mx_S X F L 413 200 [(0, .ref l0), (1, .int l1), (2, .int l2), (4, .int l4)] [] u2 0 0 (some (.int r.1), r.2, 0, 0)
  refine mx_S.pu (pc2 := 202) (lv2 := [(0, .ref l0), (1, .int l1), (2, .int l2), (4, .int l4)]) (st2 := [.int l4]) hm dX13_postfix_200 rfl ?_
  refine mx_S.pu (pc2 := 203) (lv2 := [(3, .int l4), (0, .ref l0), (1, .int l1), (2, .int l2), (4, .int l4)]) (st2 := []) hm dX13_postfix_202 rfl ?_
  refine mx_S.pu (pc2 := 11) (lv2 := [(3, .int l4), (0, .ref l0), (1, .int l1), (2, .int l2), (4, .int l4)]) (st2 := []) hm dX13_postfix_203 rfl ?_
  refine mx_S.ext [(0, .ref l0), (1, .int l1), (2, .int l2), (3, .int l4)] (mx_sub_pos [1, 2, 3, 0] rfl (show ([3, 0, 1, 2, 4] : List Nat).Nodup by decide)) ?_
  exact hk_11 l0 l1 l2 l4 u2 _ hf
set_option maxHeartbeats 4000000 in
set_option maxRecDepth 20000 in
theorem j_X13_postfix_44_ok (X : Nat × (Nat → Int32)) {F L d : Nat} (hF : 3 + (d + 1) ≤ F) (hL : 63 + (d + 1) * 28 ≤ L) (nn : Nat) {rc : tg_X13_expression} (hrc : hg5_X13_expression X d rc) {kk_11 : Nat → Int32 → Int32 → Int32 → mx_H → Option (Int32 × mx_H)} (hk_11 : ∀ (l0 : Nat) (l1 : Int32) (l2 : Int32) (l3 : Int32) (h : mx_H) (r : (Int32 × mx_H)), kk_11 l0 l1 l2 l3 h = some r → mx_S X F L 413 11 [(0, .ref l0), (1, .int l1), (2, .int l2), (3, .int l3)] [] h 0 0 (some (.int r.1), r.2, 0, 0)) (l0 : Nat) (l1 : Int32) (l2 : Int32) (l3 : Int32) (h : mx_H) {r : (Int32 × mx_H)} (hf : j_X13_postfix_44 nn rc kk_11 l0 l1 l2 l3 h = some r) : mx_S X F L 413 44 [(0, .ref l0), (1, .int l1), (2, .int l2), (3, .int l3)] [] h 0 0 (some (.int r.1), r.2, 0, 0) := by
  have hm : mx_mt 413 = some (yX13_postfix, cX13_postfix, 5, (some .int)) := mt_X13_postfix
  unfold j_X13_postfix_44 at hf
  refine mx_S.pu (pc2 := 45) (lv2 := [(0, .ref l0), (1, .int l1), (2, .int l2), (3, .int l3)]) (st2 := [.ref l0]) hm dX13_postfix_44 rfl ?_
  refine mx_S.pu (pc2 := 46) (lv2 := [(0, .ref l0), (1, .int l1), (2, .int l2), (3, .int l3)]) (st2 := [.ref l0, .ref l0]) hm dX13_postfix_45 rfl ?_
  replace hf := mx_sv_el hf; obtain ⟨v3, e_v3, hf⟩ := hf
  refine sx_get hm dX13_postfix_46 rs_RX13_376 (xgi_el e_v3) ?_
  clear e_v3
  refine sx_bi (v := 46) hm dX13_postfix_49 (by decide) ?_
  replace hf := mx_gd_el hf; obtain ⟨c4, hf⟩ := hf
  replace hf := mx_sv_el hf; obtain ⟨u5, e_u5, hf⟩ := hf
  refine sx_cv hm dX13_postfix_51 rs_RX13_383 mt_X13_isSign [.int v3, .int 46] [] (b := l0) (ci := 13) rfl rfl rfl c4 (Nat.le_of_ble_eq_true rfl) (Nat.le_of_ble_eq_true rfl) (by omega) (by omega) (f_X13_isSign_ok X (by omega) (by omega) nn l0 v3 46 h e_u5) ?_
  clear e_u5
  show mx_S X F L 413 54 [(0, .ref l0), (1, .int l1), (2, .int l2), (3, .int l3)] [.int u5.1] u5.2 0 0 (some (.int r.1), r.2, 0, 0)
  rcases mx_if_el hf with ⟨c44, hf⟩ | ⟨c44, hf⟩
  · refine sb_if_eq hm dX13_postfix_54 (tgt := 151) rfl (fun _ => ?_) (fun z => absurd c44 z)
    refine mx_S.pu (pc2 := 152) (lv2 := [(0, .ref l0), (1, .int l1), (2, .int l2), (3, .int l3)]) (st2 := [.ref l0]) hm dX13_postfix_151 rfl ?_
    refine sx_bi (v := 32) hm dX13_postfix_152 (by decide) ?_
    refine mx_S.pu (pc2 := 155) (lv2 := [(0, .ref l0), (1, .int l1), (2, .int l2), (3, .int l3)]) (st2 := [.ref l0, .int 32, .ref l0]) hm dX13_postfix_154 rfl ?_
    replace hf := mx_sv_el hf; obtain ⟨v6, e_v6, hf⟩ := hf
    refine sx_get hm dX13_postfix_155 rs_RX13_376 (xgi_el e_v6) ?_
    clear e_v6
    refine mx_S.pu (pc2 := 159) (lv2 := [(0, .ref l0), (1, .int l1), (2, .int l2), (3, .int l3)]) (st2 := [.int l2, .int v6, .int 32, .ref l0]) hm dX13_postfix_158 rfl ?_
    replace hf := mx_gd_el hf; obtain ⟨c7, hf⟩ := hf
    replace hf := mx_sv_el hf; obtain ⟨u8, e_u8, hf⟩ := hf
    refine sx_cv hm dX13_postfix_159 rs_RX13_430 mt_X13_add [.int 32, .int v6, .int l2] [] (b := l0) (ci := 13) rfl rfl rfl c7 (Nat.le_of_ble_eq_true rfl) (Nat.le_of_ble_eq_true rfl) (by omega) (by omega) (f_X13_add_ok X (by omega) (by omega) nn l0 32 v6 l2 u5.2 e_u8) ?_
    clear e_u8
    show mx_S X F L 413 162 [(0, .ref l0), (1, .int l1), (2, .int l2), (3, .int l3)] [.int u8.1] u8.2 0 0 (some (.int r.1), r.2, 0, 0)
    refine mx_S.pu (pc2 := 164) (lv2 := [(4, .int u8.1), (0, .ref l0), (1, .int l1), (2, .int l2), (3, .int l3)]) (st2 := []) hm dX13_postfix_162 rfl ?_
    refine mx_S.pu (pc2 := 165) (lv2 := [(4, .int u8.1), (0, .ref l0), (1, .int l1), (2, .int l2), (3, .int l3)]) (st2 := [.ref l0]) hm dX13_postfix_164 rfl ?_
    refine mx_S.pu (pc2 := 166) (lv2 := [(4, .int u8.1), (0, .ref l0), (1, .int l1), (2, .int l2), (3, .int l3)]) (st2 := [.ref l0, .ref l0]) hm dX13_postfix_165 rfl ?_
    replace hf := mx_sv_el hf; obtain ⟨v9, e_v9, hf⟩ := hf
    refine sx_get hm dX13_postfix_166 rs_RX13_376 (xgi_el e_v9) ?_
    clear e_v9
    refine sx_ic (v := 1) hm dX13_postfix_169 (by decide) ?_
    replace hf := xl_el hf; obtain ⟨v10, e_v10, hf⟩ := hf
    refine mx_S.pu (pc2 := 171) (lv2 := [(4, .int u8.1), (0, .ref l0), (1, .int l1), (2, .int l2), (3, .int l3)]) (st2 := [.int v10, .ref l0]) hm dX13_postfix_170 (by rw [← e_v10]; rfl) ?_
    clear e_v10
    replace hf := mx_sv_el hf; obtain ⟨h11, e_h11, hf⟩ := hf
    refine sx_put hm dX13_postfix_171 rs_RX13_376 ft_13_23 ⟨rfl, rfl⟩ (fun z => by cases z) e_h11 ?_
    clear e_h11
    refine mx_S.pu (pc2 := 175) (lv2 := [(4, .int u8.1), (0, .ref l0), (1, .int l1), (2, .int l2), (3, .int l3)]) (st2 := [.ref l0]) hm dX13_postfix_174 rfl ?_
    replace hf := mx_sv_el hf; obtain ⟨v12, e_v12, hf⟩ := hf
    refine sx_get hm dX13_postfix_175 rs_RX13_37 (xgr_el e_v12) ?_
    clear e_v12
    refine mx_S.pu (pc2 := 180) (lv2 := [(4, .int u8.1), (0, .ref l0), (1, .int l1), (2, .int l2), (3, .int l3)]) (st2 := [.int u8.1, .ref v12]) hm dX13_postfix_178 rfl ?_
    refine mx_S.pu (pc2 := 181) (lv2 := [(4, .int u8.1), (0, .ref l0), (1, .int l1), (2, .int l2), (3, .int l3)]) (st2 := [.int l3, .int u8.1, .ref v12]) hm dX13_postfix_180 rfl ?_
    replace hf := mx_sv_el hf; obtain ⟨h13, e_h13, hf⟩ := hf
    refine sx_ast hm dX13_postfix_181 e_h13 ?_
    clear e_h13
    refine mx_S.pu (pc2 := 183) (lv2 := [(4, .int u8.1), (0, .ref l0), (1, .int l1), (2, .int l2), (3, .int l3)]) (st2 := [.ref l0]) hm dX13_postfix_182 rfl ?_
    replace hf := mx_sv_el hf; obtain ⟨v14, e_v14, hf⟩ := hf
    refine sx_get hm dX13_postfix_183 rs_RX13_40 (xgr_el e_v14) ?_
    clear e_v14
    refine mx_S.pu (pc2 := 188) (lv2 := [(4, .int u8.1), (0, .ref l0), (1, .int l1), (2, .int l2), (3, .int l3)]) (st2 := [.int u8.1, .ref v14]) hm dX13_postfix_186 rfl ?_
    refine mx_S.pu (pc2 := 189) (lv2 := [(4, .int u8.1), (0, .ref l0), (1, .int l1), (2, .int l2), (3, .int l3)]) (st2 := [.ref l0, .int u8.1, .ref v14]) hm dX13_postfix_188 rfl ?_
    refine mx_S.pu (pc2 := 190) (lv2 := [(4, .int u8.1), (0, .ref l0), (1, .int l1), (2, .int l2), (3, .int l3)]) (st2 := [.int l1, .ref l0, .int u8.1, .ref v14]) hm dX13_postfix_189 rfl ?_
    replace hf := mx_gd_el hf; obtain ⟨c15, hf⟩ := hf
    replace hf := mx_sv_el hf; obtain ⟨u16, e_u16, hf⟩ := hf
    refine sx_cv hm dX13_postfix_190 rs_RX13_444 mt_X13_expression [.int l1] [.int u8.1, .ref v14] (b := l0) (ci := 13) rfl rfl rfl c15 (Nat.le_of_ble_eq_true rfl) (Nat.le_of_ble_eq_true rfl) (by omega) (by omega) (hrc.1 (by omega) (by omega) l0 l1 h13 e_u16) ?_
    clear e_u16
    show mx_S X F L 413 193 [(4, .int u8.1), (0, .ref l0), (1, .int l1), (2, .int l2), (3, .int l3)] [.int u16.1, .int u8.1, .ref v14] u16.2 0 0 (some (.int r.1), r.2, 0, 0)
    replace hf := mx_sv_el hf; obtain ⟨h17, e_h17, hf⟩ := hf
    refine sx_ast hm dX13_postfix_193 e_h17 ?_
    clear e_h17
    refine mx_S.ext [(0, .ref l0), (1, .int l1), (2, .int l2), (4, .int u8.1)] (mx_sub_pos [1, 2, 3, 0] rfl (show ([4, 0, 1, 2, 3] : List Nat).Nodup by decide)) ?_
    exact j_X13_postfix_194_ok X hF hL nn hrc hk_11 l0 l1 l2 u8.1 h17 hf
  · refine sb_if_eq hm dX13_postfix_54 (tgt := 151) rfl (fun z => absurd z c44) (fun _ => ?_)
    refine mx_S.pu (pc2 := 58) (lv2 := [(0, .ref l0), (1, .int l1), (2, .int l2), (3, .int l3)]) (st2 := [.ref l0]) hm dX13_postfix_57 rfl ?_
    refine sx_bi (v := 30) hm dX13_postfix_58 (by decide) ?_
    refine sx_ic (v := 0) hm dX13_postfix_60 (by decide) ?_
    refine mx_S.pu (pc2 := 62) (lv2 := [(0, .ref l0), (1, .int l1), (2, .int l2), (3, .int l3)]) (st2 := [.int l2, .int 0, .int 30, .ref l0]) hm dX13_postfix_61 rfl ?_
    replace hf := mx_gd_el hf; obtain ⟨c18, hf⟩ := hf
    replace hf := mx_sv_el hf; obtain ⟨u19, e_u19, hf⟩ := hf
    refine sx_cv hm dX13_postfix_62 rs_RX13_430 mt_X13_add [.int 30, .int 0, .int l2] [] (b := l0) (ci := 13) rfl rfl rfl c18 (Nat.le_of_ble_eq_true rfl) (Nat.le_of_ble_eq_true rfl) (by omega) (by omega) (f_X13_add_ok X (by omega) (by omega) nn l0 30 0 l2 u5.2 e_u19) ?_
    clear e_u19
    show mx_S X F L 413 65 [(0, .ref l0), (1, .int l1), (2, .int l2), (3, .int l3)] [.int u19.1] u19.2 0 0 (some (.int r.1), r.2, 0, 0)
    refine mx_S.pu (pc2 := 67) (lv2 := [(4, .int u19.1), (0, .ref l0), (1, .int l1), (2, .int l2), (3, .int l3)]) (st2 := []) hm dX13_postfix_65 rfl ?_
    refine mx_S.pu (pc2 := 68) (lv2 := [(4, .int u19.1), (0, .ref l0), (1, .int l1), (2, .int l2), (3, .int l3)]) (st2 := [.ref l0]) hm dX13_postfix_67 rfl ?_
    replace hf := mx_sv_el hf; obtain ⟨v20, e_v20, hf⟩ := hf
    refine sx_get hm dX13_postfix_68 rs_RX13_43 (xgr_el e_v20) ?_
    clear e_v20
    refine mx_S.pu (pc2 := 73) (lv2 := [(4, .int u19.1), (0, .ref l0), (1, .int l1), (2, .int l2), (3, .int l3)]) (st2 := [.int u19.1, .ref v20]) hm dX13_postfix_71 rfl ?_
    refine mx_S.pu (pc2 := 74) (lv2 := [(4, .int u19.1), (0, .ref l0), (1, .int l1), (2, .int l2), (3, .int l3)]) (st2 := [.ref l0, .int u19.1, .ref v20]) hm dX13_postfix_73 rfl ?_
    replace hf := mx_sv_el hf; obtain ⟨v21, e_v21, hf⟩ := hf
    refine sx_get hm dX13_postfix_74 rs_RX13_376 (xgi_el e_v21) ?_
    clear e_v21
    replace hf := mx_sv_el hf; obtain ⟨h22, e_h22, hf⟩ := hf
    refine sx_ast hm dX13_postfix_77 e_h22 ?_
    clear e_h22
    refine mx_S.pu (pc2 := 79) (lv2 := [(4, .int u19.1), (0, .ref l0), (1, .int l1), (2, .int l2), (3, .int l3)]) (st2 := [.ref l0]) hm dX13_postfix_78 rfl ?_
    refine mx_S.pu (pc2 := 80) (lv2 := [(4, .int u19.1), (0, .ref l0), (1, .int l1), (2, .int l2), (3, .int l3)]) (st2 := [.ref l0, .ref l0]) hm dX13_postfix_79 rfl ?_
    replace hf := mx_sv_el hf; obtain ⟨v23, e_v23, hf⟩ := hf
    refine sx_get hm dX13_postfix_80 rs_RX13_376 (xgi_el e_v23) ?_
    clear e_v23
    refine sx_ic (v := 1) hm dX13_postfix_83 (by decide) ?_
    replace hf := xl_el hf; obtain ⟨v24, e_v24, hf⟩ := hf
    refine mx_S.pu (pc2 := 85) (lv2 := [(4, .int u19.1), (0, .ref l0), (1, .int l1), (2, .int l2), (3, .int l3)]) (st2 := [.int v24, .ref l0]) hm dX13_postfix_84 (by rw [← e_v24]; rfl) ?_
    clear e_v24
    replace hf := mx_sv_el hf; obtain ⟨h25, e_h25, hf⟩ := hf
    refine sx_put hm dX13_postfix_85 rs_RX13_376 ft_13_23 ⟨rfl, rfl⟩ (fun z => by cases z) e_h25 ?_
    clear e_h25
    refine mx_S.pu (pc2 := 89) (lv2 := [(4, .int u19.1), (0, .ref l0), (1, .int l1), (2, .int l2), (3, .int l3)]) (st2 := [.ref l0]) hm dX13_postfix_88 rfl ?_
    replace hf := mx_sv_el hf; obtain ⟨v26, e_v26, hf⟩ := hf
    refine sx_get hm dX13_postfix_89 rs_RX13_31 (xgr_el e_v26) ?_
    clear e_v26
    refine mx_S.pu (pc2 := 94) (lv2 := [(4, .int u19.1), (0, .ref l0), (1, .int l1), (2, .int l2), (3, .int l3)]) (st2 := [.int u19.1, .ref v26]) hm dX13_postfix_92 rfl ?_
    refine mx_S.pu (pc2 := 95) (lv2 := [(4, .int u19.1), (0, .ref l0), (1, .int l1), (2, .int l2), (3, .int l3)]) (st2 := [.ref l0, .int u19.1, .ref v26]) hm dX13_postfix_94 rfl ?_
    replace hf := mx_gd_el hf; obtain ⟨c27, hf⟩ := hf
    replace hf := mx_sv_el hf; obtain ⟨u28, e_u28, hf⟩ := hf
    refine sx_cv hm dX13_postfix_95 rs_RX13_403 mt_X13_name [] [.int u19.1, .ref v26] (b := l0) (ci := 13) rfl rfl rfl c27 (Nat.le_of_ble_eq_true rfl) (Nat.le_of_ble_eq_true rfl) (by omega) (by omega) (f_X13_name_ok X (by omega) (by omega) nn l0 h25 e_u28) ?_
    clear e_u28
    show mx_S X F L 413 98 [(4, .int u19.1), (0, .ref l0), (1, .int l1), (2, .int l2), (3, .int l3)] [.int u28.1, .int u19.1, .ref v26] u28.2 0 0 (some (.int r.1), r.2, 0, 0)
    replace hf := mx_sv_el hf; obtain ⟨h29, e_h29, hf⟩ := hf
    refine sx_ast hm dX13_postfix_98 e_h29 ?_
    clear e_h29
    refine mx_S.pu (pc2 := 100) (lv2 := [(4, .int u19.1), (0, .ref l0), (1, .int l1), (2, .int l2), (3, .int l3)]) (st2 := [.ref l0]) hm dX13_postfix_99 rfl ?_
    replace hf := mx_sv_el hf; obtain ⟨v30, e_v30, hf⟩ := hf
    refine sx_get hm dX13_postfix_100 rs_RX13_37 (xgr_el e_v30) ?_
    clear e_v30
    refine mx_S.pu (pc2 := 105) (lv2 := [(4, .int u19.1), (0, .ref l0), (1, .int l1), (2, .int l2), (3, .int l3)]) (st2 := [.int u19.1, .ref v30]) hm dX13_postfix_103 rfl ?_
    refine mx_S.pu (pc2 := 106) (lv2 := [(4, .int u19.1), (0, .ref l0), (1, .int l1), (2, .int l2), (3, .int l3)]) (st2 := [.int l3, .int u19.1, .ref v30]) hm dX13_postfix_105 rfl ?_
    replace hf := mx_sv_el hf; obtain ⟨h31, e_h31, hf⟩ := hf
    refine sx_ast hm dX13_postfix_106 e_h31 ?_
    clear e_h31
    refine mx_S.pu (pc2 := 108) (lv2 := [(4, .int u19.1), (0, .ref l0), (1, .int l1), (2, .int l2), (3, .int l3)]) (st2 := [.ref l0]) hm dX13_postfix_107 rfl ?_
    replace hf := mx_sv_el hf; obtain ⟨v32, e_v32, hf⟩ := hf
    refine sx_get hm dX13_postfix_108 rs_RX13_319 (xgi_el e_v32) ?_
    clear e_v32
    rcases mx_if_el hf with ⟨c43, hf⟩ | ⟨c43, hf⟩
    · refine sb_if_ne hm dX13_postfix_111 (tgt := 200) rfl (fun _ => ?_) (fun z => absurd c43 z)
      refine mx_S.pu (pc2 := 202) (lv2 := [(4, .int u19.1), (0, .ref l0), (1, .int l1), (2, .int l2), (3, .int l3)]) (st2 := [.int u19.1]) hm dX13_postfix_200 rfl ?_
      refine mx_S.pu (pc2 := 203) (lv2 := [(3, .int u19.1), (4, .int u19.1), (0, .ref l0), (1, .int l1), (2, .int l2)]) (st2 := []) hm dX13_postfix_202 rfl ?_
      refine mx_S.pu (pc2 := 11) (lv2 := [(3, .int u19.1), (4, .int u19.1), (0, .ref l0), (1, .int l1), (2, .int l2)]) (st2 := []) hm dX13_postfix_203 rfl ?_
      refine mx_S.ext [(0, .ref l0), (1, .int l1), (2, .int l2), (3, .int u19.1)] (mx_sub_pos [2, 3, 4, 0] rfl (show ([3, 4, 0, 1, 2] : List Nat).Nodup by decide)) ?_
      exact hk_11 l0 l1 l2 u19.1 h31 _ hf
    · refine sb_if_ne hm dX13_postfix_111 (tgt := 200) rfl (fun z => absurd z c43) (fun _ => ?_)
      refine mx_S.pu (pc2 := 115) (lv2 := [(4, .int u19.1), (0, .ref l0), (1, .int l1), (2, .int l2), (3, .int l3)]) (st2 := [.ref l0]) hm dX13_postfix_114 rfl ?_
      refine mx_S.pu (pc2 := 116) (lv2 := [(4, .int u19.1), (0, .ref l0), (1, .int l1), (2, .int l2), (3, .int l3)]) (st2 := [.ref l0, .ref l0]) hm dX13_postfix_115 rfl ?_
      replace hf := mx_sv_el hf; obtain ⟨v33, e_v33, hf⟩ := hf
      refine sx_get hm dX13_postfix_116 rs_RX13_376 (xgi_el e_v33) ?_
      clear e_v33
      refine sx_bi (v := 40) hm dX13_postfix_119 (by decide) ?_
      replace hf := mx_gd_el hf; obtain ⟨c34, hf⟩ := hf
      replace hf := mx_sv_el hf; obtain ⟨u35, e_u35, hf⟩ := hf
      refine sx_cv hm dX13_postfix_121 rs_RX13_383 mt_X13_isSign [.int v33, .int 40] [] (b := l0) (ci := 13) rfl rfl rfl c34 (Nat.le_of_ble_eq_true rfl) (Nat.le_of_ble_eq_true rfl) (by omega) (by omega) (f_X13_isSign_ok X (by omega) (by omega) nn l0 v33 40 h31 e_u35) ?_
      clear e_u35
      show mx_S X F L 413 124 [(4, .int u19.1), (0, .ref l0), (1, .int l1), (2, .int l2), (3, .int l3)] [.int u35.1] u35.2 0 0 (some (.int r.1), r.2, 0, 0)
      rcases mx_if_el hf with ⟨c42, hf⟩ | ⟨c42, hf⟩
      · refine sb_if_eq hm dX13_postfix_124 (tgt := 200) rfl (fun _ => ?_) (fun z => absurd c42 z)
        refine mx_S.pu (pc2 := 202) (lv2 := [(4, .int u19.1), (0, .ref l0), (1, .int l1), (2, .int l2), (3, .int l3)]) (st2 := [.int u19.1]) hm dX13_postfix_200 rfl ?_
        refine mx_S.pu (pc2 := 203) (lv2 := [(3, .int u19.1), (4, .int u19.1), (0, .ref l0), (1, .int l1), (2, .int l2)]) (st2 := []) hm dX13_postfix_202 rfl ?_
        refine mx_S.pu (pc2 := 11) (lv2 := [(3, .int u19.1), (4, .int u19.1), (0, .ref l0), (1, .int l1), (2, .int l2)]) (st2 := []) hm dX13_postfix_203 rfl ?_
        refine mx_S.ext [(0, .ref l0), (1, .int l1), (2, .int l2), (3, .int u19.1)] (mx_sub_pos [2, 3, 4, 0] rfl (show ([3, 4, 0, 1, 2] : List Nat).Nodup by decide)) ?_
        exact hk_11 l0 l1 l2 u19.1 u35.2 _ hf
      · refine sb_if_eq hm dX13_postfix_124 (tgt := 200) rfl (fun z => absurd z c42) (fun _ => ?_)
        refine mx_S.pu (pc2 := 128) (lv2 := [(4, .int u19.1), (0, .ref l0), (1, .int l1), (2, .int l2), (3, .int l3)]) (st2 := [.ref l0]) hm dX13_postfix_127 rfl ?_
        replace hf := mx_sv_el hf; obtain ⟨v36, e_v36, hf⟩ := hf
        refine sx_get hm dX13_postfix_128 rs_RX13_28 (xgr_el e_v36) ?_
        clear e_v36
        refine mx_S.pu (pc2 := 133) (lv2 := [(4, .int u19.1), (0, .ref l0), (1, .int l1), (2, .int l2), (3, .int l3)]) (st2 := [.int u19.1, .ref v36]) hm dX13_postfix_131 rfl ?_
        refine sx_bi (v := 31) hm dX13_postfix_133 (by decide) ?_
        replace hf := mx_sv_el hf; obtain ⟨h37, e_h37, hf⟩ := hf
        refine sx_ast hm dX13_postfix_135 e_h37 ?_
        clear e_h37
        refine mx_S.pu (pc2 := 137) (lv2 := [(4, .int u19.1), (0, .ref l0), (1, .int l1), (2, .int l2), (3, .int l3)]) (st2 := [.ref l0]) hm dX13_postfix_136 rfl ?_
        replace hf := mx_sv_el hf; obtain ⟨v38, e_v38, hf⟩ := hf
        refine sx_get hm dX13_postfix_137 rs_RX13_40 (xgr_el e_v38) ?_
        clear e_v38
        refine mx_S.pu (pc2 := 142) (lv2 := [(4, .int u19.1), (0, .ref l0), (1, .int l1), (2, .int l2), (3, .int l3)]) (st2 := [.int u19.1, .ref v38]) hm dX13_postfix_140 rfl ?_
        refine mx_S.pu (pc2 := 143) (lv2 := [(4, .int u19.1), (0, .ref l0), (1, .int l1), (2, .int l2), (3, .int l3)]) (st2 := [.ref l0, .int u19.1, .ref v38]) hm dX13_postfix_142 rfl ?_
        refine mx_S.pu (pc2 := 144) (lv2 := [(4, .int u19.1), (0, .ref l0), (1, .int l1), (2, .int l2), (3, .int l3)]) (st2 := [.int l1, .ref l0, .int u19.1, .ref v38]) hm dX13_postfix_143 rfl ?_
        replace hf := mx_gd_el hf; obtain ⟨c39, hf⟩ := hf
        replace hf := mx_sv_el hf; obtain ⟨u40, e_u40, hf⟩ := hf
        refine sx_cv hm dX13_postfix_144 rs_RX13_471 mt_X13_arguments [.int l1] [.int u19.1, .ref v38] (b := l0) (ci := 13) rfl rfl rfl c39 (Nat.le_of_ble_eq_true rfl) (Nat.le_of_ble_eq_true rfl) (by omega) (by omega) (hrc.2.2.2.1 (by omega) (by omega) l0 l1 h37 e_u40) ?_
        clear e_u40
        show mx_S X F L 413 147 [(4, .int u19.1), (0, .ref l0), (1, .int l1), (2, .int l2), (3, .int l3)] [.int u40.1, .int u19.1, .ref v38] u40.2 0 0 (some (.int r.1), r.2, 0, 0)
        replace hf := mx_sv_el hf; obtain ⟨h41, e_h41, hf⟩ := hf
        refine sx_ast hm dX13_postfix_147 e_h41 ?_
        clear e_h41
        refine mx_S.pu (pc2 := 200) (lv2 := [(4, .int u19.1), (0, .ref l0), (1, .int l1), (2, .int l2), (3, .int l3)]) (st2 := []) hm dX13_postfix_148 rfl ?_
        refine mx_S.pu (pc2 := 202) (lv2 := [(4, .int u19.1), (0, .ref l0), (1, .int l1), (2, .int l2), (3, .int l3)]) (st2 := [.int u19.1]) hm dX13_postfix_200 rfl ?_
        refine mx_S.pu (pc2 := 203) (lv2 := [(3, .int u19.1), (4, .int u19.1), (0, .ref l0), (1, .int l1), (2, .int l2)]) (st2 := []) hm dX13_postfix_202 rfl ?_
        refine mx_S.pu (pc2 := 11) (lv2 := [(3, .int u19.1), (4, .int u19.1), (0, .ref l0), (1, .int l1), (2, .int l2)]) (st2 := []) hm dX13_postfix_203 rfl ?_
        refine mx_S.ext [(0, .ref l0), (1, .int l1), (2, .int l2), (3, .int u19.1)] (mx_sub_pos [2, 3, 4, 0] rfl (show ([3, 4, 0, 1, 2] : List Nat).Nodup by decide)) ?_
        exact hk_11 l0 l1 l2 u19.1 h41 _ hf
set_option maxHeartbeats 4000000 in
set_option maxRecDepth 20000 in
theorem w_X13_postfix_11_ok (X : Nat × (Nat → Int32)) {F L d : Nat} (hF : 3 + (d + 1) ≤ F) (hL : 63 + (d + 1) * 28 ≤ L) (nn : Nat) {rc : tg_X13_expression} (hrc : hg5_X13_expression X d rc) : ∀ (k : Nat) (l0 : Nat) (l1 : Int32) (l2 : Int32) (l3 : Int32) (h : mx_H) (r : (Int32 × mx_H)), w_X13_postfix_11 nn rc k l0 l1 l2 l3 h = some r → mx_S X F L 413 11 [(0, .ref l0), (1, .int l1), (2, .int l2), (3, .int l3)] [] h 0 0 (some (.int r.1), r.2, 0, 0) := by
  have hm : mx_mt 413 = some (yX13_postfix, cX13_postfix, 5, (some .int)) := mt_X13_postfix
  intro k
  induction k with
  | zero => intro l0 l1 l2 l3 h r hf; cases hf
  | succ k ih =>
    intro l0 l1 l2 l3 h r hf
    unfold w_X13_postfix_11 at hf
    refine mx_S.pu (pc2 := 12) (lv2 := [(0, .ref l0), (1, .int l1), (2, .int l2), (3, .int l3)]) (st2 := [.ref l0]) hm dX13_postfix_11 rfl ?_
    replace hf := mx_sv_el hf; obtain ⟨v45, e_v45, hf⟩ := hf
    refine sx_get hm dX13_postfix_12 rs_RX13_319 (xgi_el e_v45) ?_
    clear e_v45
    rcases mx_if_el hf with ⟨c54, hf⟩ | ⟨c54, hf⟩
    · refine sb_if_ne hm dX13_postfix_15 (tgt := 206) rfl (fun _ => ?_) (fun z => absurd c54 z)
      refine mx_S.pu (pc2 := 207) (lv2 := [(0, .ref l0), (1, .int l1), (2, .int l2), (3, .int l3)]) (st2 := [.int l3]) hm dX13_postfix_206 rfl ?_
      cases hf
      exact sx_ire hm dX13_postfix_207 rfl rfl
    · refine sb_if_ne hm dX13_postfix_15 (tgt := 206) rfl (fun z => absurd z c54) (fun _ => ?_)
      refine mx_S.pu (pc2 := 19) (lv2 := [(0, .ref l0), (1, .int l1), (2, .int l2), (3, .int l3)]) (st2 := [.ref l0]) hm dX13_postfix_18 rfl ?_
      refine mx_S.pu (pc2 := 20) (lv2 := [(0, .ref l0), (1, .int l1), (2, .int l2), (3, .int l3)]) (st2 := [.ref l0, .ref l0]) hm dX13_postfix_19 rfl ?_
      replace hf := mx_sv_el hf; obtain ⟨v46, e_v46, hf⟩ := hf
      refine sx_get hm dX13_postfix_20 rs_RX13_376 (xgi_el e_v46) ?_
      clear e_v46
      refine sx_bi (v := 46) hm dX13_postfix_23 (by decide) ?_
      replace hf := mx_gd_el hf; obtain ⟨c47, hf⟩ := hf
      replace hf := mx_sv_el hf; obtain ⟨u48, e_u48, hf⟩ := hf
      refine sx_cv hm dX13_postfix_25 rs_RX13_383 mt_X13_isSign [.int v46, .int 46] [] (b := l0) (ci := 13) rfl rfl rfl c47 (Nat.le_of_ble_eq_true rfl) (Nat.le_of_ble_eq_true rfl) (by omega) (by omega) (f_X13_isSign_ok X (by omega) (by omega) nn l0 v46 46 h e_u48) ?_
      clear e_u48
      show mx_S X F L 413 28 [(0, .ref l0), (1, .int l1), (2, .int l2), (3, .int l3)] [.int u48.1] u48.2 0 0 (some (.int r.1), r.2, 0, 0)
      rcases mx_if_el hf with ⟨c53, hf⟩ | ⟨c53, hf⟩
      · refine sb_if_ne hm dX13_postfix_28 (tgt := 44) rfl (fun _ => ?_) (fun z => absurd c53 z)
        exact j_X13_postfix_44_ok X hF hL nn hrc ih l0 l1 l2 l3 u48.2 hf
      · refine sb_if_ne hm dX13_postfix_28 (tgt := 44) rfl (fun z => absurd z c53) (fun _ => ?_)
        refine mx_S.pu (pc2 := 32) (lv2 := [(0, .ref l0), (1, .int l1), (2, .int l2), (3, .int l3)]) (st2 := [.ref l0]) hm dX13_postfix_31 rfl ?_
        refine mx_S.pu (pc2 := 33) (lv2 := [(0, .ref l0), (1, .int l1), (2, .int l2), (3, .int l3)]) (st2 := [.ref l0, .ref l0]) hm dX13_postfix_32 rfl ?_
        replace hf := mx_sv_el hf; obtain ⟨v49, e_v49, hf⟩ := hf
        refine sx_get hm dX13_postfix_33 rs_RX13_376 (xgi_el e_v49) ?_
        clear e_v49
        refine sx_bi (v := 91) hm dX13_postfix_36 (by decide) ?_
        replace hf := mx_gd_el hf; obtain ⟨c50, hf⟩ := hf
        replace hf := mx_sv_el hf; obtain ⟨u51, e_u51, hf⟩ := hf
        refine sx_cv hm dX13_postfix_38 rs_RX13_383 mt_X13_isSign [.int v49, .int 91] [] (b := l0) (ci := 13) rfl rfl rfl c50 (Nat.le_of_ble_eq_true rfl) (Nat.le_of_ble_eq_true rfl) (by omega) (by omega) (f_X13_isSign_ok X (by omega) (by omega) nn l0 v49 91 u48.2 e_u51) ?_
        clear e_u51
        show mx_S X F L 413 41 [(0, .ref l0), (1, .int l1), (2, .int l2), (3, .int l3)] [.int u51.1] u51.2 0 0 (some (.int r.1), r.2, 0, 0)
        rcases mx_if_el hf with ⟨c52, hf⟩ | ⟨c52, hf⟩
        · refine sb_if_eq hm dX13_postfix_41 (tgt := 206) rfl (fun _ => ?_) (fun z => absurd c52 z)
          refine mx_S.pu (pc2 := 207) (lv2 := [(0, .ref l0), (1, .int l1), (2, .int l2), (3, .int l3)]) (st2 := [.int l3]) hm dX13_postfix_206 rfl ?_
          cases hf
          exact sx_ire hm dX13_postfix_207 rfl rfl
        · refine sb_if_eq hm dX13_postfix_41 (tgt := 206) rfl (fun z => absurd z c52) (fun _ => ?_)
          exact j_X13_postfix_44_ok X hF hL nn hrc ih l0 l1 l2 l3 u51.2 hf
set_option maxHeartbeats 4000000 in
set_option maxRecDepth 20000 in
theorem o_X13_postfix_ok (X : Nat × (Nat → Int32)) {F L d : Nat} (hF : 3 + (d + 1) ≤ F) (hL : 63 + (d + 1) * 28 ≤ L) (nn : Nat) {rc : tg_X13_expression} (hrc : hg5_X13_expression X d rc) (a0 : Nat) (a1 : Int32) (h : mx_H) {r : (Int32 × mx_H)} (hf : o_X13_postfix nn rc a0 a1 h = some r) : mx_R X F L 413 [.ref a0, .int a1] h (some (.int r.1), r.2, 0, 0) := by
  have hm : mx_mt 413 = some (yX13_postfix, cX13_postfix, 5, (some .int)) := mt_X13_postfix
  show mx_S X F L 413 0 [(0, .ref a0), (1, .int a1)] [] h 0 0 (some (.int r.1), r.2, 0, 0)
  unfold o_X13_postfix at hf
  refine mx_S.pu (pc2 := 1) (lv2 := [(0, .ref a0), (1, .int a1)]) (st2 := [.ref a0]) hm dX13_postfix_0 rfl ?_
  replace hf := mx_sv_el hf; obtain ⟨v55, e_v55, hf⟩ := hf
  refine sx_get hm dX13_postfix_1 rs_RX13_376 (xgi_el e_v55) ?_
  clear e_v55
  refine mx_S.pu (pc2 := 5) (lv2 := [(2, .int v55), (0, .ref a0), (1, .int a1)]) (st2 := []) hm dX13_postfix_4 rfl ?_
  refine mx_S.pu (pc2 := 6) (lv2 := [(2, .int v55), (0, .ref a0), (1, .int a1)]) (st2 := [.ref a0]) hm dX13_postfix_5 rfl ?_
  refine mx_S.pu (pc2 := 7) (lv2 := [(2, .int v55), (0, .ref a0), (1, .int a1)]) (st2 := [.int a1, .ref a0]) hm dX13_postfix_6 rfl ?_
  replace hf := mx_gd_el hf; obtain ⟨c56, hf⟩ := hf
  replace hf := mx_sv_el hf; obtain ⟨u57, e_u57, hf⟩ := hf
  refine sx_cv hm dX13_postfix_7 rs_RX13_468 mt_X13_primary [.int a1] [] (b := a0) (ci := 13) rfl rfl rfl c56 (Nat.le_of_ble_eq_true rfl) (Nat.le_of_ble_eq_true rfl) (by omega) (by omega) (hrc.2.2.2.2.2.1 (by omega) (by omega) a0 a1 h e_u57) ?_
  clear e_u57
  show mx_S X F L 413 10 [(2, .int v55), (0, .ref a0), (1, .int a1)] [.int u57.1] u57.2 0 0 (some (.int r.1), r.2, 0, 0)
  refine mx_S.pu (pc2 := 11) (lv2 := [(3, .int u57.1), (2, .int v55), (0, .ref a0), (1, .int a1)]) (st2 := []) hm dX13_postfix_10 rfl ?_
  refine mx_S.ext [(0, .ref a0), (1, .int a1), (2, .int v55), (3, .int u57.1)] (mx_sub_pos [2, 3, 1, 0] rfl (show ([3, 2, 0, 1] : List Nat).Nodup by decide)) ?_
  exact w_X13_postfix_11_ok X hF hL nn hrc nn a0 a1 v55 u57.1 u57.2 _ hf
set_option maxHeartbeats 4000000 in
set_option maxRecDepth 20000 in
theorem j_X13_primary_283_ok (X : Nat × (Nat → Int32)) {F L d : Nat} (hF : 3 + (d + 1) ≤ F) (hL : 63 + (d + 1) * 28 ≤ L) (nn : Nat) {rc : tg_X13_expression} (hrc : hg5_X13_expression X d rc) (l0 : Nat) (h : mx_H) {r : (Int32 × mx_H)} (hf : j_X13_primary_283 nn rc l0 h = some r) : mx_S X F L 414 283 [(0, .ref l0)] [] h 0 0 (some (.int r.1), r.2, 0, 0) := by
  have hm : mx_mt 414 = some (yX13_primary, cX13_primary, 5, (some .int)) := mt_X13_primary
  unfold j_X13_primary_283 at hf
  refine mx_S.pu (pc2 := 284) (lv2 := [(0, .ref l0)]) (st2 := [.ref l0]) hm dX13_primary_283 rfl ?_
  replace hf := mx_gd_el hf; obtain ⟨c1, hf⟩ := hf
  replace hf := mx_sv_el hf; obtain ⟨u2, e_u2, hf⟩ := hf
  refine sx_cv hm dX13_primary_284 rs_RX13_387 mt_X13_misplaced [] [] (b := l0) (ci := 13) rfl rfl rfl c1 (Nat.le_of_ble_eq_true rfl) (Nat.le_of_ble_eq_true rfl) (by omega) (by omega) (f_X13_misplaced_ok X (by omega) (by omega) nn l0 h e_u2) ?_
  clear e_u2
  show mx_S X F L 414 287 [(0, .ref l0)] [] u2 0 0 (some (.int r.1), r.2, 0, 0)
  refine sx_ic (v := (-1)) hm dX13_primary_287 (by decide) ?_
  cases hf
  exact sx_ire hm dX13_primary_288 rfl rfl
set_option maxHeartbeats 4000000 in
set_option maxRecDepth 20000 in
theorem j_X13_primary_264_ok (X : Nat × (Nat → Int32)) {F L d : Nat} (hF : 3 + (d + 1) ≤ F) (hL : 63 + (d + 1) * 28 ≤ L) (nn : Nat) {rc : tg_X13_expression} (hrc : hg5_X13_expression X d rc) (l2 : Int32) (s0 : Int32) (s1 : Nat) (h : mx_H) {r : (Int32 × mx_H)} (hf : j_X13_primary_264 nn rc l2 s0 s1 h = some r) : mx_S X F L 414 264 [(2, .int l2)] [.int s0, .ref s1] h 0 0 (some (.int r.1), r.2, 0, 0) := by
  have hm : mx_mt 414 = some (yX13_primary, cX13_primary, 5, (some .int)) := mt_X13_primary
  unfold j_X13_primary_264 at hf
  refine mx_S.pu (pc2 := 265) (lv2 := [(2, .int l2)]) (st2 := [.int l2, .int s0, .ref s1]) hm dX13_primary_264 rfl ?_
  refine mx_S.pu (pc2 := 266) (lv2 := [(2, .int l2)]) (st2 := [.int l2, .int l2, .int s0, .ref s1]) hm dX13_primary_265 rfl ?_
  replace hf := mx_gd_el hf; obtain ⟨c3, hf⟩ := hf
  replace hf := mx_sv_el hf; obtain ⟨u4, e_u4, hf⟩ := hf
  refine sx_cv hm dX13_primary_266 rs_RX13_430 mt_X13_add [.int s0, .int l2, .int l2] [] (b := s1) (ci := 13) rfl rfl rfl c3 (Nat.le_of_ble_eq_true rfl) (Nat.le_of_ble_eq_true rfl) (by omega) (by omega) (f_X13_add_ok X (by omega) (by omega) nn s1 s0 l2 l2 h e_u4) ?_
  clear e_u4
  show mx_S X F L 414 269 [(2, .int l2)] [.int u4.1] u4.2 0 0 (some (.int r.1), r.2, 0, 0)
  cases hf
  exact sx_ire hm dX13_primary_269 rfl rfl
set_option maxHeartbeats 4000000 in
set_option maxRecDepth 20000 in
theorem j_X13_primary_215_ok (X : Nat × (Nat → Int32)) {F L d : Nat} (hF : 3 + (d + 1) ≤ F) (hL : 63 + (d + 1) * 28 ≤ L) (nn : Nat) {rc : tg_X13_expression} (hrc : hg5_X13_expression X d rc) (l0 : Nat) (l2 : Int32) (l4 : Int32) (h : mx_H) {r : (Int32 × mx_H)} (hf : j_X13_primary_215 nn rc l0 l2 l4 h = some r) : mx_S X F L 414 215 [(0, .ref l0), (2, .int l2), (4, .int l4)] [] h 0 0 (some (.int r.1), r.2, 0, 0) := by
  have hm : mx_mt 414 = some (yX13_primary, cX13_primary, 5, (some .int)) := mt_X13_primary
  unfold j_X13_primary_215 at hf
  refine mx_S.pu (pc2 := 216) (lv2 := [(0, .ref l0), (2, .int l2), (4, .int l4)]) (st2 := [.ref l0]) hm dX13_primary_215 rfl ?_
  refine mx_S.pu (pc2 := 217) (lv2 := [(0, .ref l0), (2, .int l2), (4, .int l4)]) (st2 := [.ref l0, .ref l0]) hm dX13_primary_216 rfl ?_
  replace hf := mx_sv_el hf; obtain ⟨v5, e_v5, hf⟩ := hf
  refine sx_get hm dX13_primary_217 rs_RX13_376 (xgi_el e_v5) ?_
  clear e_v5
  refine sx_ic (v := 1) hm dX13_primary_220 (by decide) ?_
  replace hf := xl_el hf; obtain ⟨v6, e_v6, hf⟩ := hf
  refine mx_S.pu (pc2 := 222) (lv2 := [(0, .ref l0), (2, .int l2), (4, .int l4)]) (st2 := [.int v6, .ref l0]) hm dX13_primary_221 (by rw [← e_v6]; rfl) ?_
  clear e_v6
  replace hf := mx_sv_el hf; obtain ⟨h7, e_h7, hf⟩ := hf
  refine sx_put hm dX13_primary_222 rs_RX13_376 ft_13_23 ⟨rfl, rfl⟩ (fun z => by cases z) e_h7 ?_
  clear e_h7
  refine mx_S.pu (pc2 := 226) (lv2 := [(0, .ref l0), (2, .int l2), (4, .int l4)]) (st2 := [.ref l0]) hm dX13_primary_225 rfl ?_
  refine mx_S.pu (pc2 := 228) (lv2 := [(0, .ref l0), (2, .int l2), (4, .int l4)]) (st2 := [.int l4, .ref l0]) hm dX13_primary_226 rfl ?_
  refine sx_bi (v := 18) hm dX13_primary_228 (by decide) ?_
  rcases mx_if_el hf with ⟨c10, hf⟩ | ⟨c10, hf⟩
  · refine sb_ic_ne hm dX13_primary_230 (tgt := 238) rfl (fun _ => ?_) (fun z => absurd c10 z)
    refine mx_S.pu (pc2 := 240) (lv2 := [(0, .ref l0), (2, .int l2), (4, .int l4)]) (st2 := [.int l4, .ref l0]) hm dX13_primary_238 rfl ?_
    refine sx_bi (v := 7) hm dX13_primary_240 (by decide) ?_
    rcases mx_if_el hf with ⟨c9, hf⟩ | ⟨c9, hf⟩
    · refine sb_ic_ne hm dX13_primary_242 (tgt := 250) rfl (fun _ => ?_) (fun z => absurd c9 z)
      refine mx_S.pu (pc2 := 252) (lv2 := [(0, .ref l0), (2, .int l2), (4, .int l4)]) (st2 := [.int l4, .ref l0]) hm dX13_primary_250 rfl ?_
      refine sx_bi (v := 12) hm dX13_primary_252 (by decide) ?_
      rcases mx_if_el hf with ⟨c8, hf⟩ | ⟨c8, hf⟩
      · refine sb_ic_ne hm dX13_primary_254 (tgt := 262) rfl (fun _ => ?_) (fun z => absurd c8 z)
        refine sx_bi (v := 24) hm dX13_primary_262 (by decide) ?_
        refine mx_S.ext [(2, .int l2)] (mx_sub_pos [1] rfl (show ([0, 2, 4] : List Nat).Nodup by decide)) ?_
        exact j_X13_primary_264_ok X hF hL nn hrc l2 24 l0 h7 hf
      · refine sb_ic_ne hm dX13_primary_254 (tgt := 262) rfl (fun z => absurd z c8) (fun _ => ?_)
        refine sx_bi (v := 23) hm dX13_primary_257 (by decide) ?_
        refine mx_S.pu (pc2 := 264) (lv2 := [(0, .ref l0), (2, .int l2), (4, .int l4)]) (st2 := [.int 23, .ref l0]) hm dX13_primary_259 rfl ?_
        refine mx_S.ext [(2, .int l2)] (mx_sub_pos [1] rfl (show ([0, 2, 4] : List Nat).Nodup by decide)) ?_
        exact j_X13_primary_264_ok X hF hL nn hrc l2 23 l0 h7 hf
    · refine sb_ic_ne hm dX13_primary_242 (tgt := 250) rfl (fun z => absurd z c9) (fun _ => ?_)
      refine sx_bi (v := 22) hm dX13_primary_245 (by decide) ?_
      refine mx_S.pu (pc2 := 264) (lv2 := [(0, .ref l0), (2, .int l2), (4, .int l4)]) (st2 := [.int 22, .ref l0]) hm dX13_primary_247 rfl ?_
      refine mx_S.ext [(2, .int l2)] (mx_sub_pos [1] rfl (show ([0, 2, 4] : List Nat).Nodup by decide)) ?_
      exact j_X13_primary_264_ok X hF hL nn hrc l2 22 l0 h7 hf
  · refine sb_ic_ne hm dX13_primary_230 (tgt := 238) rfl (fun z => absurd z c10) (fun _ => ?_)
    refine sx_bi (v := 21) hm dX13_primary_233 (by decide) ?_
    refine mx_S.pu (pc2 := 264) (lv2 := [(0, .ref l0), (2, .int l2), (4, .int l4)]) (st2 := [.int 21, .ref l0]) hm dX13_primary_235 rfl ?_
    refine mx_S.ext [(2, .int l2)] (mx_sub_pos [1] rfl (show ([0, 2, 4] : List Nat).Nodup by decide)) ?_
    exact j_X13_primary_264_ok X hF hL nn hrc l2 21 l0 h7 hf
