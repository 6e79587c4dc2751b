def hg5_X13_condition (X : Nat × (Nat → Int32)) (d : Nat) (rc : tg_X13_condition) : Prop := (∀ {F L : Nat}, 6 + d ≤ F → 135 + d * 27 ≤ L → ∀ (a0 : Nat) (a1 : Int32) (h : mx_H) {r : mx_H}, rc.1 a0 a1 h = some r → mx_R X F L 435 [.ref a0, .int a1] h (none, r, 0, 0)) ∧ (∀ {F L : Nat}, 6 + d ≤ F → 135 + d * 27 ≤ L → ∀ (a0 : Nat) (a1 : Int32) (h : mx_H) {r : (Int32 × mx_H)}, rc.2.1 a0 a1 h = some r → mx_R X F L 436 [.ref a0, .int a1] h (some (.int r.1), r.2, 0, 0)) ∧ (∀ {F L : Nat}, 6 + d ≤ F → 135 + d * 27 ≤ L → ∀ (a0 : Nat) (a1 : Int32) (h : mx_H) {r : (Int32 × mx_H)}, rc.2.2.1 a0 a1 h = some r → mx_R X F L 438 [.ref a0, .int a1] h (some (.int r.1), r.2, 0, 0)) ∧ (∀ {F L : Nat}, 6 + d ≤ F → 135 + d * 27 ≤ L → ∀ (a0 : Nat) (a1 : Int32) (h : mx_H) {r : (Int32 × mx_H)}, rc.2.2.2.1 a0 a1 h = some r → mx_R X F L 441 [.ref a0, .int a1] h (some (.int r.1), r.2, 0, 0)) ∧ (∀ {F L : Nat}, 6 + d ≤ F → 135 + d * 27 ≤ L → ∀ (a0 : Nat) (a1 : Int32) (h : mx_H) {r : (Int32 × mx_H)}, rc.2.2.2.2.1 a0 a1 h = some r → mx_R X F L 443 [.ref a0, .int a1] h (some (.int r.1), r.2, 0, 0)) ∧ (∀ {F L : Nat}, 6 + d ≤ F → 135 + d * 27 ≤ L → ∀ (a0 : Nat) (a1 : Int32) (h : mx_H) {r : (Int32 × mx_H)}, rc.2.2.2.2.2.1 a0 a1 h = some r → mx_R X F L 446 [.ref a0, .int a1] h (some (.int r.1), r.2, 0, 0)) ∧ (∀ {F L : Nat}, 6 + d ≤ F → 135 + d * 27 ≤ L → ∀ (a0 : Nat) (a1 : Int32) (a2 : Int32) (a3 : Int32) (h : mx_H) {r : (Int32 × mx_H)}, rc.2.2.2.2.2.2 a0 a1 a2 a3 h = some r → mx_R X F L 447 [.ref a0, .int a1, .int a2, .int a3] h (some (.int r.1), r.2, 0, 0))
set_option maxHeartbeats 4000000 in
set_option maxRecDepth 20000 in
theorem o_X13_condition_ok (X : Nat × (Nat → Int32)) {F L d : Nat} (hF : 6 + (d + 1) ≤ F) (hL : 135 + (d + 1) * 27 ≤ L) (nn : Nat) {rc : tg_X13_condition} (hrc : hg5_X13_condition X d rc) (a0 : Nat) (a1 : Int32) (h : mx_H) {r : mx_H} (hf : o_X13_condition nn rc a0 a1 h = some r) : mx_R X F L 435 [.ref a0, .int a1] h (none, r, 0, 0) := by
  have hm : mx_mt 435 = some (yX13_condition, cX13_condition, 2, none) := mt_X13_condition
  show mx_S X F L 435 0 [(0, .ref a0), (1, .int a1)] [] h 0 0 (none, r, 0, 0)
  unfold o_X13_condition at hf
  refine mx_S.pu (pc2 := 1) (lv2 := [(0, .ref a0), (1, .int a1)]) (st2 := [.ref a0]) hm dX13_condition_0 rfl ?_
  refine mx_S.pu (pc2 := 2) (lv2 := [(0, .ref a0), (1, .int a1)]) (st2 := [.int a1, .ref a0]) hm dX13_condition_1 rfl ?_
  replace hf := mx_gd_el hf; obtain ⟨c1, hf⟩ := hf
  replace hf := mx_sv_el hf; obtain ⟨u2, e_u2, hf⟩ := hf
  refine sx_cv hm dX13_condition_2 rs_RX13_537 mt_X13_given [.int a1] [] (b := a0) (ci := 13) rfl rfl rfl c1 (Nat.le_of_ble_eq_true rfl) (Nat.le_of_ble_eq_true rfl) (by omega) (by omega) (hrc.2.1 (by omega) (by omega) a0 a1 h e_u2) ?_
  clear e_u2
  show mx_S X F L 435 5 [(0, .ref a0), (1, .int a1)] [.int u2.1] u2.2 0 0 (none, r, 0, 0)
  refine sx_ic (v := 1) hm dX13_condition_5 (by decide) ?_
  rcases mx_if_el hf with ⟨c7, hf⟩ | ⟨c7, hf⟩
  · refine sb_ic_eq hm dX13_condition_6 (tgt := 21) rfl (fun _ => ?_) (fun z => absurd c7 z)
    cases hf
    exact sx_ret hm dX13_condition_21 rfl
  · refine sb_ic_eq hm dX13_condition_6 (tgt := 21) rfl (fun z => absurd z c7) (fun _ => ?_)
    refine mx_S.pu (pc2 := 10) (lv2 := [(0, .ref a0), (1, .int a1)]) (st2 := [.ref a0]) hm dX13_condition_9 rfl ?_
    refine sx_bi (v := 6) hm dX13_condition_10 (by decide) ?_
    refine mx_S.pu (pc2 := 13) (lv2 := [(0, .ref a0), (1, .int a1)]) (st2 := [.ref a0, .int 6, .ref a0]) hm dX13_condition_12 rfl ?_
    replace hf := mx_sv_el hf; obtain ⟨v3, e_v3, hf⟩ := hf
    refine sx_get hm dX13_condition_13 rs_RX13_34 (xgr_el e_v3) ?_
    clear e_v3
    refine mx_S.pu (pc2 := 17) (lv2 := [(0, .ref a0), (1, .int a1)]) (st2 := [.int a1, .ref v3, .int 6, .ref a0]) hm dX13_condition_16 rfl ?_
    replace hf := mx_sv_el hf; obtain ⟨v4, e_v4, hf⟩ := hf
    refine sx_ald hm dX13_condition_17 e_v4 ?_
    clear e_v4
    replace hf := mx_gd_el hf; obtain ⟨c5, hf⟩ := hf
    replace hf := mx_sv_el hf; obtain ⟨u6, e_u6, hf⟩ := hf
    refine sx_cv hm dX13_condition_18 rs_RX13_379 mt_X13_wrong [.int 6, .int v4] [] (b := a0) (ci := 13) rfl rfl rfl c5 (Nat.le_of_ble_eq_true rfl) (Nat.le_of_ble_eq_true rfl) (by omega) (by omega) (f_X13_wrong_ok X (by omega) (by omega) nn a0 6 v4 u2.2 e_u6) ?_
    clear e_u6
    show mx_S X F L 435 21 [(0, .ref a0), (1, .int a1)] [] u6 0 0 (none, r, 0, 0)
    cases hf
    exact sx_ret hm dX13_condition_21 rfl
set_option maxHeartbeats 4000000 in
set_option maxRecDepth 20000 in
theorem o_X13_given_ok (X : Nat × (Nat → Int32)) {F L d : Nat} (hF : 6 + (d + 1) ≤ F) (hL : 135 + (d + 1) * 27 ≤ L) (nn : Nat) {rc : tg_X13_condition} (hrc : hg5_X13_condition X d rc) (a0 : Nat) (a1 : Int32) (h : mx_H) {r : (Int32 × mx_H)} (hf : o_X13_given nn rc a0 a1 h = some r) : mx_R X F L 436 [.ref a0, .int a1] h (some (.int r.1), r.2, 0, 0) := by
  have hm : mx_mt 436 = some (yX13_given, cX13_given, 3, (some .int)) := mt_X13_given
  show mx_S X F L 436 0 [(0, .ref a0), (1, .int a1)] [] h 0 0 (some (.int r.1), r.2, 0, 0)
  unfold o_X13_given at hf
  refine mx_S.pu (pc2 := 1) (lv2 := [(0, .ref a0), (1, .int a1)]) (st2 := [.ref a0]) hm dX13_given_0 rfl ?_
  refine mx_S.pu (pc2 := 2) (lv2 := [(0, .ref a0), (1, .int a1)]) (st2 := [.int a1, .ref a0]) hm dX13_given_1 rfl ?_
  replace hf := mx_gd_el hf; obtain ⟨c1, hf⟩ := hf
  replace hf := mx_sv_el hf; obtain ⟨u2, e_u2, hf⟩ := hf
  refine sx_cv hm dX13_given_2 rs_RX13_546 mt_X13_worked [.int a1] [] (b := a0) (ci := 13) rfl rfl rfl c1 (Nat.le_of_ble_eq_true rfl) (Nat.le_of_ble_eq_true rfl) (by omega) (by omega) (hrc.2.2.1 (by omega) (by omega) a0 a1 h e_u2) ?_
  clear e_u2
  show mx_S X F L 436 5 [(0, .ref a0), (1, .int a1)] [.int u2.1] u2.2 0 0 (some (.int r.1), r.2, 0, 0)
  refine mx_S.pu (pc2 := 6) (lv2 := [(2, .int u2.1), (0, .ref a0), (1, .int a1)]) (st2 := []) hm dX13_given_5 rfl ?_
  refine mx_S.pu (pc2 := 7) (lv2 := [(2, .int u2.1), (0, .ref a0), (1, .int a1)]) (st2 := [.int u2.1]) hm dX13_given_6 rfl ?_
  refine sx_ic (v := 3) hm dX13_given_7 (by decide) ?_
  rcases mx_if_el hf with ⟨c7, hf⟩ | ⟨c7, hf⟩
  · refine sb_ic_ne hm dX13_given_8 (tgt := 23) rfl (fun _ => ?_) (fun z => absurd c7 z)
    refine mx_S.pu (pc2 := 24) (lv2 := [(2, .int u2.1), (0, .ref a0), (1, .int a1)]) (st2 := [.int u2.1]) hm dX13_given_23 rfl ?_
    cases hf
    exact sx_ire hm dX13_given_24 rfl rfl
  · refine sb_ic_ne hm dX13_given_8 (tgt := 23) rfl (fun z => absurd z c7) (fun _ => ?_)
    refine mx_S.pu (pc2 := 12) (lv2 := [(2, .int u2.1), (0, .ref a0), (1, .int a1)]) (st2 := [.ref a0]) hm dX13_given_11 rfl ?_
    refine sx_bi (v := 6) hm dX13_given_12 (by decide) ?_
    refine mx_S.pu (pc2 := 15) (lv2 := [(2, .int u2.1), (0, .ref a0), (1, .int a1)]) (st2 := [.ref a0, .int 6, .ref a0]) hm dX13_given_14 rfl ?_
    replace hf := mx_sv_el hf; obtain ⟨v3, e_v3, hf⟩ := hf
    refine sx_get hm dX13_given_15 rs_RX13_31 (xgr_el e_v3) ?_
    clear e_v3
    refine mx_S.pu (pc2 := 19) (lv2 := [(2, .int u2.1), (0, .ref a0), (1, .int a1)]) (st2 := [.int a1, .ref v3, .int 6, .ref a0]) hm dX13_given_18 rfl ?_
    replace hf := mx_sv_el hf; obtain ⟨v4, e_v4, hf⟩ := hf
    refine sx_ald hm dX13_given_19 e_v4 ?_
    clear e_v4
    replace hf := mx_gd_el hf; obtain ⟨c5, hf⟩ := hf
    replace hf := mx_sv_el hf; obtain ⟨u6, e_u6, hf⟩ := hf
    refine sx_cv hm dX13_given_20 rs_RX13_379 mt_X13_wrong [.int 6, .int v4] [] (b := a0) (ci := 13) rfl rfl rfl c5 (Nat.le_of_ble_eq_true rfl) (Nat.le_of_ble_eq_true rfl) (by omega) (by omega) (f_X13_wrong_ok X (by omega) (by omega) nn a0 6 v4 u2.2 e_u6) ?_
    clear e_u6
    show mx_S X F L 436 23 [(2, .int u2.1), (0, .ref a0), (1, .int a1)] [] u6 0 0 (some (.int r.1), r.2, 0, 0)
    refine mx_S.pu (pc2 := 24) (lv2 := [(2, .int u2.1), (0, .ref a0), (1, .int a1)]) (st2 := [.int u2.1]) hm dX13_given_23 rfl ?_
    cases hf
    exact sx_ire hm dX13_given_24 rfl rfl
set_option maxHeartbeats 4000000 in
set_option maxRecDepth 20000 in
theorem w_X13_worked_65_ok (X : Nat × (Nat → Int32)) {F L d : Nat} (hF : 6 + (d + 1) ≤ F) (hL : 135 + (d + 1) * 27 ≤ L) (nn : Nat) {rc : tg_X13_condition} (hrc : hg5_X13_condition X d rc) : ∀ (k : Nat) (l0 : Nat) (l1 : Int32) (l2 : Int32) (h : mx_H) (r : (Int32 × mx_H)), w_X13_worked_65 nn rc k l0 l1 l2 h = some r → mx_S X F L 438 65 [(0, .ref l0), (1, .int l1), (2, .int l2)] [] h 0 0 (some (.int r.1), r.2, 0, 0) := by
  have hm : mx_mt 438 = some (yX13_worked, cX13_worked, 4, (some .int)) := mt_X13_worked
  intro k
  induction k with
  | zero => intro l0 l1 l2 h r hf; cases hf
  | succ k ih =>
    intro l0 l1 l2 h r hf
    unfold w_X13_worked_65 at hf
    refine mx_S.pu (pc2 := 66) (lv2 := [(0, .ref l0), (1, .int l1), (2, .int l2)]) (st2 := [.ref l0]) hm dX13_worked_65 rfl ?_
    replace hf := mx_sv_el hf; obtain ⟨v1, e_v1, hf⟩ := hf
    refine sx_get hm dX13_worked_66 rs_RX13_525 (xgi_el e_v1) ?_
    clear e_v1
    refine mx_S.pu (pc2 := 70) (lv2 := [(0, .ref l0), (1, .int l1), (2, .int l2)]) (st2 := [.int l2, .int v1]) hm dX13_worked_69 rfl ?_
    rcases mx_if_el hf with ⟨c20, hf⟩ | ⟨c20, hf⟩
    · refine sb_ic_le hm dX13_worked_70 (tgt := 118) rfl (fun _ => ?_) (fun z => absurd c20 z)
      refine mx_S.pu (pc2 := 119) (lv2 := [(0, .ref l0), (1, .int l1), (2, .int l2)]) (st2 := [.ref l0]) hm dX13_worked_118 rfl ?_
      refine mx_S.pu (pc2 := 120) (lv2 := [(0, .ref l0), (1, .int l1), (2, .int l2)]) (st2 := [.int l2, .ref l0]) hm dX13_worked_119 rfl ?_
      replace hf := mx_sv_el hf; obtain ⟨h2, e_h2, hf⟩ := hf
      refine sx_put hm dX13_worked_120 rs_RX13_525 ft_13_57 ⟨rfl, rfl⟩ (fun z => by cases z) e_h2 ?_
      clear e_h2
      refine mx_S.pu (pc2 := 124) (lv2 := [(0, .ref l0), (1, .int l1), (2, .int l2)]) (st2 := [.ref l0]) hm dX13_worked_123 rfl ?_
      replace hf := mx_sv_el hf; obtain ⟨v3, e_v3, hf⟩ := hf
      refine sx_get hm dX13_worked_124 rs_RX13_319 (xgi_el e_v3) ?_
      clear e_v3
      rcases mx_if_el hf with ⟨c6, hf⟩ | ⟨c6, hf⟩
      · refine sb_if_eq hm dX13_worked_127 (tgt := 134) rfl (fun _ => ?_) (fun z => absurd c6 z)
        refine mx_S.pu (pc2 := 135) (lv2 := [(0, .ref l0), (1, .int l1), (2, .int l2)]) (st2 := [.ref l0]) hm dX13_worked_134 rfl ?_
        replace hf := mx_sv_el hf; obtain ⟨v4, e_v4, hf⟩ := hf
        refine sx_get hm dX13_worked_135 rs_RX13_49 (xgr_el e_v4) ?_
        clear e_v4
        refine mx_S.pu (pc2 := 139) (lv2 := [(0, .ref l0), (1, .int l1), (2, .int l2)]) (st2 := [.int l1, .ref v4]) hm dX13_worked_138 rfl ?_
        replace hf := mx_sv_el hf; obtain ⟨v5, e_v5, hf⟩ := hf
        refine sx_ald hm dX13_worked_139 e_v5 ?_
        clear e_v5
        cases hf
        exact sx_ire hm dX13_worked_140 rfl rfl
      · refine sb_if_eq hm dX13_worked_127 (tgt := 134) rfl (fun z => absurd z c6) (fun _ => ?_)
        refine sx_ic (v := 0) hm dX13_worked_130 (by decide) ?_
        refine mx_S.pu (pc2 := 140) (lv2 := [(0, .ref l0), (1, .int l1), (2, .int l2)]) (st2 := [.int 0]) hm dX13_worked_131 rfl ?_
        cases hf
        exact sx_ire hm dX13_worked_140 rfl rfl
    · refine sb_ic_le hm dX13_worked_70 (tgt := 118) rfl (fun z => absurd z c20) (fun _ => ?_)
      refine mx_S.pu (pc2 := 74) (lv2 := [(0, .ref l0), (1, .int l1), (2, .int l2)]) (st2 := [.ref l0]) hm dX13_worked_73 rfl ?_
      refine mx_S.pu (pc2 := 75) (lv2 := [(0, .ref l0), (1, .int l1), (2, .int l2)]) (st2 := [.ref l0, .ref l0]) hm dX13_worked_74 rfl ?_
      replace hf := mx_sv_el hf; obtain ⟨v7, e_v7, hf⟩ := hf
      refine sx_get hm dX13_worked_75 rs_RX13_525 (xgi_el e_v7) ?_
      clear e_v7
      refine sx_ic (v := 1) hm dX13_worked_78 (by decide) ?_
      replace hf := xl_el hf; obtain ⟨v8, e_v8, hf⟩ := hf
      refine mx_S.pu (pc2 := 80) (lv2 := [(0, .ref l0), (1, .int l1), (2, .int l2)]) (st2 := [.int v8, .ref l0]) hm dX13_worked_79 (by rw [← e_v8]; rfl) ?_
      clear e_v8
      replace hf := mx_sv_el hf; obtain ⟨h9, e_h9, hf⟩ := hf
      refine sx_put hm dX13_worked_80 rs_RX13_525 ft_13_57 ⟨rfl, rfl⟩ (fun z => by cases z) e_h9 ?_
      clear e_h9
      refine mx_S.pu (pc2 := 84) (lv2 := [(0, .ref l0), (1, .int l1), (2, .int l2)]) (st2 := [.ref l0]) hm dX13_worked_83 rfl ?_
      replace hf := mx_sv_el hf; obtain ⟨v10, e_v10, hf⟩ := hf
      refine sx_get hm dX13_worked_84 rs_RX13_125 (xgr_el e_v10) ?_
      clear e_v10
      refine mx_S.pu (pc2 := 88) (lv2 := [(0, .ref l0), (1, .int l1), (2, .int l2)]) (st2 := [.ref l0, .ref v10]) hm dX13_worked_87 rfl ?_
      replace hf := mx_sv_el hf; obtain ⟨v11, e_v11, hf⟩ := hf
      refine sx_get hm dX13_worked_88 rs_RX13_525 (xgi_el e_v11) ?_
      clear e_v11
      replace hf := mx_sv_el hf; obtain ⟨v12, e_v12, hf⟩ := hf
      refine sx_ald hm dX13_worked_91 e_v12 ?_
      clear e_v12
      refine mx_S.pu (pc2 := 93) (lv2 := [(3, .int v12), (0, .ref l0), (1, .int l1), (2, .int l2)]) (st2 := []) hm dX13_worked_92 rfl ?_
      refine mx_S.pu (pc2 := 94) (lv2 := [(3, .int v12), (0, .ref l0), (1, .int l1), (2, .int l2)]) (st2 := [.ref l0]) hm dX13_worked_93 rfl ?_
      replace hf := mx_sv_el hf; obtain ⟨v13, e_v13, hf⟩ := hf
      refine sx_get hm dX13_worked_94 rs_RX13_49 (xgr_el e_v13) ?_
      clear e_v13
      refine mx_S.pu (pc2 := 98) (lv2 := [(3, .int v12), (0, .ref l0), (1, .int l1), (2, .int l2)]) (st2 := [.int v12, .ref v13]) hm dX13_worked_97 rfl ?_
      refine mx_S.pu (pc2 := 99) (lv2 := [(3, .int v12), (0, .ref l0), (1, .int l1), (2, .int l2)]) (st2 := [.ref l0, .int v12, .ref v13]) hm dX13_worked_98 rfl ?_
      replace hf := mx_sv_el hf; obtain ⟨v14, e_v14, hf⟩ := hf
      refine sx_get hm dX13_worked_99 rs_RX13_319 (xgi_el e_v14) ?_
      clear e_v14
      rcases mx_if_el hf with ⟨c19, hf⟩ | ⟨c19, hf⟩
      · refine sb_if_eq hm dX13_worked_102 (tgt := 109) rfl (fun _ => ?_) (fun z => absurd c19 z)
        refine mx_S.pu (pc2 := 110) (lv2 := [(3, .int v12), (0, .ref l0), (1, .int l1), (2, .int l2)]) (st2 := [.ref l0, .int v12, .ref v13]) hm dX13_worked_109 rfl ?_
        refine mx_S.pu (pc2 := 111) (lv2 := [(3, .int v12), (0, .ref l0), (1, .int l1), (2, .int l2)]) (st2 := [.int v12, .ref l0, .int v12, .ref v13]) hm dX13_worked_110 rfl ?_
        replace hf := mx_gd_el hf; obtain ⟨c15, hf⟩ := hf
        replace hf := mx_sv_el hf; obtain ⟨u16, e_u16, hf⟩ := hf
        refine sx_cv hm dX13_worked_111 rs_RX13_558 mt_X13_rule [.int v12] [.int v12, .ref v13] (b := l0) (ci := 13) rfl rfl rfl c15 (Nat.le_of_ble_eq_true rfl) (Nat.le_of_ble_eq_true rfl) (by omega) (by omega) (hrc.2.2.2.1 (by omega) (by omega) l0 v12 h9 e_u16) ?_
        clear e_u16
        show mx_S X F L 438 114 [(3, .int v12), (0, .ref l0), (1, .int l1), (2, .int l2)] [.int u16.1, .int v12, .ref v13] u16.2 0 0 (some (.int r.1), r.2, 0, 0)
        replace hf := mx_sv_el hf; obtain ⟨h17, e_h17, hf⟩ := hf
        refine sx_ast hm dX13_worked_114 e_h17 ?_
        clear e_h17
        refine mx_S.pu (pc2 := 65) (lv2 := [(3, .int v12), (0, .ref l0), (1, .int l1), (2, .int l2)]) (st2 := []) hm dX13_worked_115 rfl ?_
        refine mx_S.ext [(0, .ref l0), (1, .int l1), (2, .int l2)] (mx_sub_pos [1, 2, 3] rfl (show ([3, 0, 1, 2] : List Nat).Nodup by decide)) ?_
        exact ih l0 l1 l2 h17 _ hf
      · refine sb_if_eq hm dX13_worked_102 (tgt := 109) rfl (fun z => absurd z c19) (fun _ => ?_)
        refine sx_ic (v := 0) hm dX13_worked_105 (by decide) ?_
        refine mx_S.pu (pc2 := 114) (lv2 := [(3, .int v12), (0, .ref l0), (1, .int l1), (2, .int l2)]) (st2 := [.int 0, .int v12, .ref v13]) hm dX13_worked_106 rfl ?_
        replace hf := mx_sv_el hf; obtain ⟨h18, e_h18, hf⟩ := hf
        refine sx_ast hm dX13_worked_114 e_h18 ?_
        clear e_h18
        refine mx_S.pu (pc2 := 65) (lv2 := [(3, .int v12), (0, .ref l0), (1, .int l1), (2, .int l2)]) (st2 := []) hm dX13_worked_115 rfl ?_
        refine mx_S.ext [(0, .ref l0), (1, .int l1), (2, .int l2)] (mx_sub_pos [1, 2, 3] rfl (show ([3, 0, 1, 2] : List Nat).Nodup by decide)) ?_
        exact ih l0 l1 l2 h18 _ hf
set_option maxHeartbeats 4000000 in
set_option maxRecDepth 20000 in
theorem w_X13_worked_16_ok (X : Nat × (Nat → Int32)) {F L d : Nat} (hF : 6 + (d + 1) ≤ F) (hL : 135 + (d + 1) * 27 ≤ L) (nn : Nat) {rc : tg_X13_condition} (hrc : hg5_X13_condition X d rc) : ∀ (k : Nat) (l0 : Nat) (l1 : Int32) (l2 : Int32) (l3 : Int32) (h : mx_H) (r : (Int32 × mx_H)), w_X13_worked_16 nn rc k l0 l1 l2 l3 h = some r → mx_S X F L 438 16 [(0, .ref l0), (1, .int l1), (2, .int l2), (3, .int l3)] [] h 0 0 (some (.int r.1), r.2, 0, 0) := by
  have hm : mx_mt 438 = some (yX13_worked, cX13_worked, 4, (some .int)) := mt_X13_worked
  intro k
  induction k with
  | zero => intro l0 l1 l2 l3 h r hf; cases hf
  | succ k ih =>
    intro l0 l1 l2 l3 h r hf
    unfold w_X13_worked_16 at hf
    refine mx_S.pu (pc2 := 17) (lv2 := [(0, .ref l0), (1, .int l1), (2, .int l2), (3, .int l3)]) (st2 := [.ref l0]) hm dX13_worked_16 rfl ?_
    refine mx_S.pu (pc2 := 18) (lv2 := [(0, .ref l0), (1, .int l1), (2, .int l2), (3, .int l3)]) (st2 := [.int l3, .ref l0]) hm dX13_worked_17 rfl ?_
    replace hf := mx_gd_el hf; obtain ⟨c21, hf⟩ := hf
    replace hf := mx_sv_el hf; obtain ⟨u22, e_u22, hf⟩ := hf
    refine sx_cv hm dX13_worked_18 rs_RX13_555 mt_X13_isLed [.int l3] [] (b := l0) (ci := 13) rfl rfl rfl c21 (Nat.le_of_ble_eq_true rfl) (Nat.le_of_ble_eq_true rfl) (by omega) (by omega) (f_X13_isLed_ok X (by omega) (by omega) nn l0 l3 h e_u22) ?_
    clear e_u22
    show mx_S X F L 438 21 [(0, .ref l0), (1, .int l1), (2, .int l2), (3, .int l3)] [.int u22.1] u22.2 0 0 (some (.int r.1), r.2, 0, 0)
    rcases mx_if_el hf with ⟨c35, hf⟩ | ⟨c35, hf⟩
    · refine sb_if_eq hm dX13_worked_21 (tgt := 54) rfl (fun _ => ?_) (fun z => absurd c35 z)
      refine mx_S.pu (pc2 := 55) (lv2 := [(0, .ref l0), (1, .int l1), (2, .int l2), (3, .int l3)]) (st2 := [.ref l0]) hm dX13_worked_54 rfl ?_
      replace hf := mx_sv_el hf; obtain ⟨v23, e_v23, hf⟩ := hf
      refine sx_get hm dX13_worked_55 rs_RX13_49 (xgr_el e_v23) ?_
      clear e_v23
      refine mx_S.pu (pc2 := 59) (lv2 := [(0, .ref l0), (1, .int l1), (2, .int l2), (3, .int l3)]) (st2 := [.int l3, .ref v23]) hm dX13_worked_58 rfl ?_
      refine mx_S.pu (pc2 := 60) (lv2 := [(0, .ref l0), (1, .int l1), (2, .int l2), (3, .int l3)]) (st2 := [.ref l0, .int l3, .ref v23]) hm dX13_worked_59 rfl ?_
      refine mx_S.pu (pc2 := 61) (lv2 := [(0, .ref l0), (1, .int l1), (2, .int l2), (3, .int l3)]) (st2 := [.int l3, .ref l0, .int l3, .ref v23]) hm dX13_worked_60 rfl ?_
      replace hf := mx_gd_el hf; obtain ⟨c24, hf⟩ := hf
      replace hf := mx_sv_el hf; obtain ⟨u25, e_u25, hf⟩ := hf
      refine sx_cv hm dX13_worked_61 rs_RX13_558 mt_X13_rule [.int l3] [.int l3, .ref v23] (b := l0) (ci := 13) rfl rfl rfl c24 (Nat.le_of_ble_eq_true rfl) (Nat.le_of_ble_eq_true rfl) (by omega) (by omega) (hrc.2.2.2.1 (by omega) (by omega) l0 l3 u22.2 e_u25) ?_
      clear e_u25
      show mx_S X F L 438 64 [(0, .ref l0), (1, .int l1), (2, .int l2), (3, .int l3)] [.int u25.1, .int l3, .ref v23] u25.2 0 0 (some (.int r.1), r.2, 0, 0)
      replace hf := mx_sv_el hf; obtain ⟨h26, e_h26, hf⟩ := hf
      refine sx_ast hm dX13_worked_64 e_h26 ?_
      clear e_h26
      refine mx_S.ext [(0, .ref l0), (1, .int l1), (2, .int l2)] (mx_sub_pos [0, 1, 2] rfl (show ([0, 1, 2, 3] : List Nat).Nodup by decide)) ?_
      exact w_X13_worked_65_ok X hF hL nn hrc nn l0 l1 l2 h26 _ hf
    · refine sb_if_eq hm dX13_worked_21 (tgt := 54) rfl (fun z => absurd z c35) (fun _ => ?_)
      refine mx_S.pu (pc2 := 25) (lv2 := [(0, .ref l0), (1, .int l1), (2, .int l2), (3, .int l3)]) (st2 := [.ref l0]) hm dX13_worked_24 rfl ?_
      replace hf := mx_sv_el hf; obtain ⟨v27, e_v27, hf⟩ := hf
      refine sx_get hm dX13_worked_25 rs_RX13_125 (xgr_el e_v27) ?_
      clear e_v27
      refine mx_S.pu (pc2 := 29) (lv2 := [(0, .ref l0), (1, .int l1), (2, .int l2), (3, .int l3)]) (st2 := [.ref l0, .ref v27]) hm dX13_worked_28 rfl ?_
      replace hf := mx_sv_el hf; obtain ⟨v28, e_v28, hf⟩ := hf
      refine sx_get hm dX13_worked_29 rs_RX13_525 (xgi_el e_v28) ?_
      clear e_v28
      refine mx_S.pu (pc2 := 33) (lv2 := [(0, .ref l0), (1, .int l1), (2, .int l2), (3, .int l3)]) (st2 := [.int l3, .int v28, .ref v27]) hm dX13_worked_32 rfl ?_
      replace hf := mx_sv_el hf; obtain ⟨h29, e_h29, hf⟩ := hf
      refine sx_ast hm dX13_worked_33 e_h29 ?_
      clear e_h29
      refine mx_S.pu (pc2 := 35) (lv2 := [(0, .ref l0), (1, .int l1), (2, .int l2), (3, .int l3)]) (st2 := [.ref l0]) hm dX13_worked_34 rfl ?_
      refine mx_S.pu (pc2 := 36) (lv2 := [(0, .ref l0), (1, .int l1), (2, .int l2), (3, .int l3)]) (st2 := [.ref l0, .ref l0]) hm dX13_worked_35 rfl ?_
      replace hf := mx_sv_el hf; obtain ⟨v30, e_v30, hf⟩ := hf
      refine sx_get hm dX13_worked_36 rs_RX13_525 (xgi_el e_v30) ?_
      clear e_v30
      refine sx_ic (v := 1) hm dX13_worked_39 (by decide) ?_
      replace hf := xl_el hf; obtain ⟨v31, e_v31, hf⟩ := hf
      refine mx_S.pu (pc2 := 41) (lv2 := [(0, .ref l0), (1, .int l1), (2, .int l2), (3, .int l3)]) (st2 := [.int v31, .ref l0]) hm dX13_worked_40 (by rw [← e_v31]; rfl) ?_
      clear e_v31
      replace hf := mx_sv_el hf; obtain ⟨h32, e_h32, hf⟩ := hf
      refine sx_put hm dX13_worked_41 rs_RX13_525 ft_13_57 ⟨rfl, rfl⟩ (fun z => by cases z) e_h32 ?_
      clear e_h32
      refine mx_S.pu (pc2 := 45) (lv2 := [(0, .ref l0), (1, .int l1), (2, .int l2), (3, .int l3)]) (st2 := [.ref l0]) hm dX13_worked_44 rfl ?_
      replace hf := mx_sv_el hf; obtain ⟨v33, e_v33, hf⟩ := hf
      refine sx_get hm dX13_worked_45 rs_RX13_37 (xgr_el e_v33) ?_
      clear e_v33
      refine mx_S.pu (pc2 := 49) (lv2 := [(0, .ref l0), (1, .int l1), (2, .int l2), (3, .int l3)]) (st2 := [.int l3, .ref v33]) hm dX13_worked_48 rfl ?_
      replace hf := mx_sv_el hf; obtain ⟨v34, e_v34, hf⟩ := hf
      refine sx_ald hm dX13_worked_49 e_v34 ?_
      clear e_v34
      refine mx_S.pu (pc2 := 51) (lv2 := [(3, .int v34), (0, .ref l0), (1, .int l1), (2, .int l2)]) (st2 := []) hm dX13_worked_50 rfl ?_
      refine mx_S.pu (pc2 := 16) (lv2 := [(3, .int v34), (0, .ref l0), (1, .int l1), (2, .int l2)]) (st2 := []) hm dX13_worked_51 rfl ?_
      refine mx_S.ext [(0, .ref l0), (1, .int l1), (2, .int l2), (3, .int v34)] (mx_sub_pos [1, 2, 3, 0] rfl (show ([3, 0, 1, 2] : List Nat).Nodup by decide)) ?_
      exact ih l0 l1 l2 v34 h32 _ hf
set_option maxHeartbeats 4000000 in
set_option maxRecDepth 20000 in
theorem o_X13_worked_ok (X : Nat × (Nat → Int32)) {F L d : Nat} (hF : 6 + (d + 1) ≤ F) (hL : 135 + (d + 1) * 27 ≤ L) (nn : Nat) {rc : tg_X13_condition} (hrc : hg5_X13_condition X d rc) (a0 : Nat) (a1 : Int32) (h : mx_H) {r : (Int32 × mx_H)} (hf : o_X13_worked nn rc a0 a1 h = some r) : mx_R X F L 438 [.ref a0, .int a1] h (some (.int r.1), r.2, 0, 0) := by
  have hm : mx_mt 438 = some (yX13_worked, cX13_worked, 4, (some .int)) := mt_X13_worked
  show mx_S X F L 438 0 [(0, .ref a0), (1, .int a1)] [] h 0 0 (some (.int r.1), r.2, 0, 0)
  unfold o_X13_worked at hf
  refine mx_S.pu (pc2 := 1) (lv2 := [(0, .ref a0), (1, .int a1)]) (st2 := [.ref a0]) hm dX13_worked_0 rfl ?_
  replace hf := mx_sv_el hf; obtain ⟨v36, e_v36, hf⟩ := hf
  refine sx_get hm dX13_worked_1 rs_RX13_319 (xgi_el e_v36) ?_
  clear e_v36
  rcases mx_if_el hf with ⟨c38, hf⟩ | ⟨c38, hf⟩
  · refine sb_if_eq hm dX13_worked_4 (tgt := 9) rfl (fun _ => ?_) (fun z => absurd c38 z)
    refine mx_S.pu (pc2 := 10) (lv2 := [(0, .ref a0), (1, .int a1)]) (st2 := [.ref a0]) hm dX13_worked_9 rfl ?_
    replace hf := mx_sv_el hf; obtain ⟨v37, e_v37, hf⟩ := hf
    refine sx_get hm dX13_worked_10 rs_RX13_525 (xgi_el e_v37) ?_
    clear e_v37
    refine mx_S.pu (pc2 := 14) (lv2 := [(2, .int v37), (0, .ref a0), (1, .int a1)]) (st2 := []) hm dX13_worked_13 rfl ?_
    refine mx_S.pu (pc2 := 15) (lv2 := [(2, .int v37), (0, .ref a0), (1, .int a1)]) (st2 := [.int a1]) hm dX13_worked_14 rfl ?_
    refine mx_S.pu (pc2 := 16) (lv2 := [(3, .int a1), (2, .int v37), (0, .ref a0), (1, .int a1)]) (st2 := []) hm dX13_worked_15 rfl ?_
    refine mx_S.ext [(0, .ref a0), (1, .int a1), (2, .int v37), (3, .int a1)] (mx_sub_pos [2, 3, 1, 0] rfl (show ([3, 2, 0, 1] : List Nat).Nodup by decide)) ?_
    exact w_X13_worked_16_ok X hF hL nn hrc nn a0 a1 v37 a1 h _ hf
  · refine sb_if_eq hm dX13_worked_4 (tgt := 9) rfl (fun z => absurd z c38) (fun _ => ?_)
    refine sx_ic (v := 0) hm dX13_worked_7 (by decide) ?_
    cases hf
    exact sx_ire hm dX13_worked_8 rfl rfl
set_option maxHeartbeats 4000000 in
set_option maxRecDepth 20000 in
theorem j_X13_rule_657_ok (X : Nat × (Nat → Int32)) {F L d : Nat} (hF : 6 + (d + 1) ≤ F) (hL : 135 + (d + 1) * 27 ≤ L) (nn : Nat) {rc : tg_X13_condition} (hrc : hg5_X13_condition X d rc) (l0 : Nat) (l2 : Int32) (l3 : Int32) (h : mx_H) {r : (Int32 × mx_H)} (hf : j_X13_rule_657 nn rc l0 l2 l3 h = some r) : mx_S X F L 441 657 [(0, .ref l0), (2, .int l2), (3, .int l3)] [] h 0 0 (some (.int r.1), r.2, 0, 0) := by
  have hm : mx_mt 441 = some (yX13_rule, cX13_rule, 4, (some .int)) := mt_X13_rule
  unfold j_X13_rule_657 at hf
  refine mx_S.pu (pc2 := 658) (lv2 := [(0, .ref l0), (2, .int l2), (3, .int l3)]) (st2 := [.ref l0]) hm dX13_rule_657 rfl ?_
  refine mx_S.pu (pc2 := 659) (lv2 := [(0, .ref l0), (2, .int l2), (3, .int l3)]) (st2 := [.int l2, .ref l0]) hm dX13_rule_658 rfl ?_
  refine mx_S.pu (pc2 := 660) (lv2 := [(0, .ref l0), (2, .int l2), (3, .int l3)]) (st2 := [.int l3, .int l2, .ref l0]) hm dX13_rule_659 rfl ?_
  replace hf := mx_gd_el hf; obtain ⟨c1, hf⟩ := hf
  replace hf := mx_sv_el hf; obtain ⟨u2, e_u2, hf⟩ := hf
  refine sx_cv hm dX13_rule_660 rs_RX13_491 mt_X13_fits [.int l2, .int l3] [] (b := l0) (ci := 13) rfl rfl rfl c1 (Nat.le_of_ble_eq_true rfl) (Nat.le_of_ble_eq_true rfl) (by omega) (by omega) (f_X13_fits_ok X (by omega) (by omega) nn l0 l2 l3 h e_u2) ?_
  clear e_u2
  show mx_S X F L 441 663 [(0, .ref l0), (2, .int l2), (3, .int l3)] [.int u2.1] u2.2 0 0 (some (.int r.1), r.2, 0, 0)
  rcases mx_if_el hf with ⟨c3, hf⟩ | ⟨c3, hf⟩
  · refine sb_if_eq hm dX13_rule_663 (tgt := 670) rfl (fun _ => ?_) (fun z => absurd c3 z)
    refine mx_S.pu (pc2 := 671) (lv2 := [(0, .ref l0), (2, .int l2), (3, .int l3)]) (st2 := [.int l2]) hm dX13_rule_670 rfl ?_
    cases hf
    exact sx_ire hm dX13_rule_671 rfl rfl
  · refine sb_if_eq hm dX13_rule_663 (tgt := 670) rfl (fun z => absurd z c3) (fun _ => ?_)
    refine mx_S.pu (pc2 := 667) (lv2 := [(0, .ref l0), (2, .int l2), (3, .int l3)]) (st2 := [.int l3]) hm dX13_rule_666 rfl ?_
    refine mx_S.pu (pc2 := 671) (lv2 := [(0, .ref l0), (2, .int l2), (3, .int l3)]) (st2 := [.int l3]) hm dX13_rule_667 rfl ?_
    cases hf
    exact sx_ire hm dX13_rule_671 rfl rfl
set_option maxHeartbeats 4000000 in
set_option maxRecDepth 20000 in
theorem j_X13_rule_574_ok (X : Nat × (Nat → Int32)) {F L d : Nat} (hF : 6 + (d + 1) ≤ F) (hL : 135 + (d + 1) * 27 ≤ L) (nn : Nat) {rc : tg_X13_condition} (hrc : hg5_X13_condition X d rc) (l0 : Nat) (l1 : Int32) (l3 : Int32) (h : mx_H) {r : (Int32 × mx_H)} (hf : j_X13_rule_574 nn rc l0 l1 l3 h = some r) : mx_S X F L 441 574 [(0, .ref l0), (1, .int l1), (3, .int l3)] [] h 0 0 (some (.int r.1), r.2, 0, 0) := by
  have hm : mx_mt 441 = some (yX13_rule, cX13_rule, 4, (some .int)) := mt_X13_rule
  unfold j_X13_rule_574 at hf
  refine mx_S.pu (pc2 := 575) (lv2 := [(0, .ref l0), (1, .int l1), (3, .int l3)]) (st2 := [.ref l0]) hm dX13_rule_574 rfl ?_
  replace hf := mx_sv_el hf; obtain ⟨v4, e_v4, hf⟩ := hf
  refine sx_get hm dX13_rule_575 rs_RX13_55 (xgr_el e_v4) ?_
  clear e_v4
  refine mx_S.pu (pc2 := 579) (lv2 := [(0, .ref l0), (1, .int l1), (3, .int l3)]) (st2 := [.int l1, .ref v4]) hm dX13_rule_578 rfl ?_
  refine mx_S.pu (pc2 := 580) (lv2 := [(0, .ref l0), (1, .int l1), (3, .int l3)]) (st2 := [.int l3, .int l1, .ref v4]) hm dX13_rule_579 rfl ?_
  replace hf := mx_sv_el hf; obtain ⟨h5, e_h5, hf⟩ := hf
  refine sx_ast hm dX13_rule_580 e_h5 ?_
  clear e_h5
  refine mx_S.pu (pc2 := 582) (lv2 := [(0, .ref l0), (1, .int l1), (3, .int l3)]) (st2 := [.ref l0]) hm dX13_rule_581 rfl ?_
  replace hf := mx_sv_el hf; obtain ⟨v6, e_v6, hf⟩ := hf
  refine sx_get hm dX13_rule_582 rs_RX13_28 (xgr_el e_v6) ?_
  clear e_v6
  refine mx_S.pu (pc2 := 586) (lv2 := [(0, .ref l0), (1, .int l1), (3, .int l3)]) (st2 := [.int l1, .ref v6]) hm dX13_rule_585 rfl ?_
  replace hf := mx_sv_el hf; obtain ⟨v7, e_v7, hf⟩ := hf
  refine sx_ald hm dX13_rule_586 e_v7 ?_
  clear e_v7
  refine sx_bi (v := 38) hm dX13_rule_587 (by decide) ?_
  rcases mx_if_el hf with ⟨c8, hf⟩ | ⟨c8, hf⟩
  · refine sb_ic_ne hm dX13_rule_589 (tgt := 596) rfl (fun _ => ?_) (fun z => absurd c8 z)
    refine mx_S.pu (pc2 := 597) (lv2 := [(0, .ref l0), (1, .int l1), (3, .int l3)]) (st2 := [.int l3]) hm dX13_rule_596 rfl ?_
    cases hf
    exact sx_ire hm dX13_rule_597 rfl rfl
  · refine sb_ic_ne hm dX13_rule_589 (tgt := 596) rfl (fun z => absurd z c8) (fun _ => ?_)
    refine sx_ic (v := 1) hm dX13_rule_592 (by decide) ?_
    refine mx_S.pu (pc2 := 597) (lv2 := [(0, .ref l0), (1, .int l1), (3, .int l3)]) (st2 := [.int 1]) hm dX13_rule_593 rfl ?_
    cases hf
    exact sx_ire hm dX13_rule_597 rfl rfl
set_option maxHeartbeats 4000000 in
set_option maxRecDepth 20000 in
theorem j_X13_rule_562_ok (X : Nat × (Nat → Int32)) {F L d : Nat} (hF : 6 + (d + 1) ≤ F) (hL : 135 + (d + 1) * 27 ≤ L) (nn : Nat) {rc : tg_X13_condition} (hrc : hg5_X13_condition X d rc) (l0 : Nat) (l1 : Int32) (l3 : Int32) (h : mx_H) {r : (Int32 × mx_H)} (hf : j_X13_rule_562 nn rc l0 l1 l3 h = some r) : mx_S X F L 441 562 [(0, .ref l0), (1, .int l1), (3, .int l3)] [] h 0 0 (some (.int r.1), r.2, 0, 0) := by
  have hm : mx_mt 441 = some (yX13_rule, cX13_rule, 4, (some .int)) := mt_X13_rule
  unfold j_X13_rule_562 at hf
  refine mx_S.pu (pc2 := 563) (lv2 := [(0, .ref l0), (1, .int l1), (3, .int l3)]) (st2 := [.ref l0]) hm dX13_rule_562 rfl ?_
  refine sx_bi (v := 6) hm dX13_rule_563 (by decide) ?_
  refine mx_S.pu (pc2 := 566) (lv2 := [(0, .ref l0), (1, .int l1), (3, .int l3)]) (st2 := [.ref l0, .int 6, .ref l0]) hm dX13_rule_565 rfl ?_
  replace hf := mx_sv_el hf; obtain ⟨v9, e_v9, hf⟩ := hf
  refine sx_get hm dX13_rule_566 rs_RX13_31 (xgr_el e_v9) ?_
  clear e_v9
  refine mx_S.pu (pc2 := 570) (lv2 := [(0, .ref l0), (1, .int l1), (3, .int l3)]) (st2 := [.int l1, .ref v9, .int 6, .ref l0]) hm dX13_rule_569 rfl ?_
  replace hf := mx_sv_el hf; obtain ⟨v10, e_v10, hf⟩ := hf
  refine sx_ald hm dX13_rule_570 e_v10 ?_
  clear e_v10
  replace hf := mx_gd_el hf; obtain ⟨c11, hf⟩ := hf
  replace hf := mx_sv_el hf; obtain ⟨u12, e_u12, hf⟩ := hf
  refine sx_cv hm dX13_rule_571 rs_RX13_379 mt_X13_wrong [.int 6, .int v10] [] (b := l0) (ci := 13) rfl rfl rfl c11 (Nat.le_of_ble_eq_true rfl) (Nat.le_of_ble_eq_true rfl) (by omega) (by omega) (f_X13_wrong_ok X (by omega) (by omega) nn l0 6 v10 h e_u12) ?_
  clear e_u12
  show mx_S X F L 441 574 [(0, .ref l0), (1, .int l1), (3, .int l3)] [] u12 0 0 (some (.int r.1), r.2, 0, 0)
  exact j_X13_rule_574_ok X hF hL nn hrc l0 l1 l3 u12 hf
set_option maxHeartbeats 4000000 in
set_option maxRecDepth 20000 in
theorem j_X13_rule_539_ok (X : Nat × (Nat → Int32)) {F L d : Nat} (hF : 6 + (d + 1) ≤ F) (hL : 135 + (d + 1) * 27 ≤ L) (nn : Nat) {rc : tg_X13_condition} (hrc : hg5_X13_condition X d rc) (l0 : Nat) (l1 : Int32) (l2 : Int32) (l3 : Int32) (h : mx_H) {r : (Int32 × mx_H)} (hf : j_X13_rule_539 nn rc l0 l1 l2 l3 h = some r) : mx_S X F L 441 539 [(0, .ref l0), (1, .int l1), (2, .int l2), (3, .int l3)] [] h 0 0 (some (.int r.1), r.2, 0, 0) := by
  have hm : mx_mt 441 = some (yX13_rule, cX13_rule, 4, (some .int)) := mt_X13_rule
  unfold j_X13_rule_539 at hf
  refine sx_bi (v := 8) hm dX13_rule_539 (by decide) ?_
  refine sx_ic (v := 2) hm dX13_rule_541 (by decide) ?_
  refine mx_S.pu (pc2 := 543) (lv2 := [(0, .ref l0), (1, .int l1), (2, .int l2), (3, .int l3)]) (st2 := [.int l3, .int 2, .int 8]) hm dX13_rule_542 rfl ?_
  replace hf := xl_el hf; obtain ⟨v13, e_v13, hf⟩ := hf
  refine mx_S.pu (pc2 := 544) (lv2 := [(0, .ref l0), (1, .int l1), (2, .int l2), (3, .int l3)]) (st2 := [.int v13, .int 8]) hm dX13_rule_543 (by rw [← e_v13]; rfl) ?_
  clear e_v13
  replace hf := xl_el hf; obtain ⟨v14, e_v14, hf⟩ := hf
  refine mx_S.pu (pc2 := 545) (lv2 := [(0, .ref l0), (1, .int l1), (2, .int l2), (3, .int l3)]) (st2 := [.int v14]) hm dX13_rule_544 (by rw [← e_v14]; rfl) ?_
  clear e_v14
  refine mx_S.pu (pc2 := 546) (lv2 := [(3, .int v14), (0, .ref l0), (1, .int l1), (2, .int l2)]) (st2 := []) hm dX13_rule_545 rfl ?_
  refine mx_S.pu (pc2 := 547) (lv2 := [(3, .int v14), (0, .ref l0), (1, .int l1), (2, .int l2)]) (st2 := [.int l2]) hm dX13_rule_546 rfl ?_
  replace hf := mx_sv_el hf; obtain ⟨u15, e_u15, hf⟩ := hf
  refine sx_cs hm dX13_rule_547 rs_RX13_543 mt_X13_isThing [.int l2] [] rfl rfl (Nat.le_of_ble_eq_true rfl) (Nat.le_of_ble_eq_true rfl) (by omega) (by omega) (f_X13_isThing_ok X (by omega) (by omega) nn l2 h e_u15) ?_
  clear e_u15
  show mx_S X F L 441 550 [(3, .int v14), (0, .ref l0), (1, .int l1), (2, .int l2)] [.int u15.1] u15.2 0 0 (some (.int r.1), r.2, 0, 0)
  rcases mx_if_el hf with ⟨c19, hf⟩ | ⟨c19, hf⟩
  · refine sb_if_eq hm dX13_rule_550 (tgt := 562) rfl (fun _ => ?_) (fun z => absurd c19 z)
    refine mx_S.ext [(0, .ref l0), (1, .int l1), (3, .int v14)] (mx_sub_pos [1, 2, 0] rfl (show ([3, 0, 1, 2] : List Nat).Nodup by decide)) ?_
    exact j_X13_rule_562_ok X hF hL nn hrc l0 l1 v14 u15.2 hf
  · refine sb_if_eq hm dX13_rule_550 (tgt := 562) rfl (fun z => absurd z c19) (fun _ => ?_)
    refine mx_S.pu (pc2 := 554) (lv2 := [(3, .int v14), (0, .ref l0), (1, .int l1), (2, .int l2)]) (st2 := [.ref l0]) hm dX13_rule_553 rfl ?_
    refine mx_S.pu (pc2 := 555) (lv2 := [(3, .int v14), (0, .ref l0), (1, .int l1), (2, .int l2)]) (st2 := [.int l2, .ref l0]) hm dX13_rule_554 rfl ?_
    refine mx_S.pu (pc2 := 556) (lv2 := [(3, .int v14), (0, .ref l0), (1, .int l1), (2, .int l2)]) (st2 := [.int v14, .int l2, .ref l0]) hm dX13_rule_555 rfl ?_
    replace hf := mx_gd_el hf; obtain ⟨c16, hf⟩ := hf
    replace hf := mx_sv_el hf; obtain ⟨u17, e_u17, hf⟩ := hf
    refine sx_cv hm dX13_rule_556 rs_RX13_576 mt_X13_goTogether [.int l2, .int v14] [] (b := l0) (ci := 13) rfl rfl rfl c16 (Nat.le_of_ble_eq_true rfl) (Nat.le_of_ble_eq_true rfl) (by omega) (by omega) (f_X13_goTogether_ok X (by omega) (by omega) nn l0 l2 v14 u15.2 e_u17) ?_
    clear e_u17
    show mx_S X F L 441 559 [(3, .int v14), (0, .ref l0), (1, .int l1), (2, .int l2)] [.int u17.1] u17.2 0 0 (some (.int r.1), r.2, 0, 0)
    rcases mx_if_el hf with ⟨c18, hf⟩ | ⟨c18, hf⟩
    · refine sb_if_ne hm dX13_rule_559 (tgt := 574) rfl (fun _ => ?_) (fun z => absurd c18 z)
      refine mx_S.ext [(0, .ref l0), (1, .int l1), (3, .int v14)] (mx_sub_pos [1, 2, 0] rfl (show ([3, 0, 1, 2] : List Nat).Nodup by decide)) ?_
      exact j_X13_rule_574_ok X hF hL nn hrc l0 l1 v14 u17.2 hf
    · refine sb_if_ne hm dX13_rule_559 (tgt := 574) rfl (fun z => absurd z c18) (fun _ => ?_)
      refine mx_S.ext [(0, .ref l0), (1, .int l1), (3, .int v14)] (mx_sub_pos [1, 2, 0] rfl (show ([3, 0, 1, 2] : List Nat).Nodup by decide)) ?_
      exact j_X13_rule_562_ok X hF hL nn hrc l0 l1 v14 u17.2 hf
set_option maxHeartbeats 4000000 in
set_option maxRecDepth 20000 in
theorem j_X13_rule_522_ok (X : Nat × (Nat → Int32)) {F L d : Nat} (hF : 6 + (d + 1) ≤ F) (hL : 135 + (d + 1) * 27 ≤ L) (nn : Nat) {rc : tg_X13_condition} (hrc : hg5_X13_condition X d rc) (l0 : Nat) (l1 : Int32) (l3 : Int32) (s0 : Int32) (h : mx_H) {r : (Int32 × mx_H)} (hf : j_X13_rule_522 nn rc l0 l1 l3 s0 h = some r) : mx_S X F L 441 522 [(0, .ref l0), (1, .int l1), (3, .int l3)] [.int s0] h 0 0 (some (.int r.1), r.2, 0, 0) := by
  have hm : mx_mt 441 = some (yX13_rule, cX13_rule, 4, (some .int)) := mt_X13_rule
  unfold j_X13_rule_522 at hf
  refine mx_S.pu (pc2 := 523) (lv2 := [(2, .int s0), (0, .ref l0), (1, .int l1), (3, .int l3)]) (st2 := []) hm dX13_rule_522 rfl ?_
  refine mx_S.pu (pc2 := 524) (lv2 := [(2, .int s0), (0, .ref l0), (1, .int l1), (3, .int l3)]) (st2 := [.int l3]) hm dX13_rule_523 rfl ?_
  refine sx_ic (v := (-1)) hm dX13_rule_524 (by decide) ?_
  rcases mx_if_el hf with ⟨c24, hf⟩ | ⟨c24, hf⟩
  · refine sb_ic_ne hm dX13_rule_525 (tgt := 539) rfl (fun _ => ?_) (fun z => absurd c24 z)
    refine mx_S.ext [(0, .ref l0), (1, .int l1), (2, .int s0), (3, .int l3)] (mx_sub_pos [1, 2, 0, 3] rfl (show ([2, 0, 1, 3] : List Nat).Nodup by decide)) ?_
    exact j_X13_rule_539_ok X hF hL nn hrc l0 l1 s0 l3 h hf
  · refine sb_ic_ne hm dX13_rule_525 (tgt := 539) rfl (fun z => absurd z c24) (fun _ => ?_)
    refine mx_S.pu (pc2 := 529) (lv2 := [(2, .int s0), (0, .ref l0), (1, .int l1), (3, .int l3)]) (st2 := [.ref l0]) hm dX13_rule_528 rfl ?_
    refine sx_ic (v := 5) hm dX13_rule_529 (by decide) ?_
    refine mx_S.pu (pc2 := 531) (lv2 := [(2, .int s0), (0, .ref l0), (1, .int l1), (3, .int l3)]) (st2 := [.ref l0, .int 5, .ref l0]) hm dX13_rule_530 rfl ?_
    replace hf := mx_sv_el hf; obtain ⟨v20, e_v20, hf⟩ := hf
    refine sx_get hm dX13_rule_531 rs_RX13_31 (xgr_el e_v20) ?_
    clear e_v20
    refine mx_S.pu (pc2 := 535) (lv2 := [(2, .int s0), (0, .ref l0), (1, .int l1), (3, .int l3)]) (st2 := [.int l1, .ref v20, .int 5, .ref l0]) hm dX13_rule_534 rfl ?_
    replace hf := mx_sv_el hf; obtain ⟨v21, e_v21, hf⟩ := hf
    refine sx_ald hm dX13_rule_535 e_v21 ?_
    clear e_v21
    replace hf := mx_gd_el hf; obtain ⟨c22, hf⟩ := hf
    replace hf := mx_sv_el hf; obtain ⟨u23, e_u23, hf⟩ := hf
    refine sx_cv hm dX13_rule_536 rs_RX13_379 mt_X13_wrong [.int 5, .int v21] [] (b := l0) (ci := 13) rfl rfl rfl c22 (Nat.le_of_ble_eq_true rfl) (Nat.le_of_ble_eq_true rfl) (by omega) (by omega) (f_X13_wrong_ok X (by omega) (by omega) nn l0 5 v21 h e_u23) ?_
    clear e_u23
    show mx_S X F L 441 539 [(2, .int s0), (0, .ref l0), (1, .int l1), (3, .int l3)] [] u23 0 0 (some (.int r.1), r.2, 0, 0)
    refine mx_S.ext [(0, .ref l0), (1, .int l1), (2, .int s0), (3, .int l3)] (mx_sub_pos [1, 2, 0, 3] rfl (show ([2, 0, 1, 3] : List Nat).Nodup by decide)) ?_
    exact j_X13_rule_539_ok X hF hL nn hrc l0 l1 s0 l3 u23 hf
set_option maxHeartbeats 4000000 in
set_option maxRecDepth 20000 in
theorem j_X13_rule_493_ok (X : Nat × (Nat → Int32)) {F L d : Nat} (hF : 6 + (d + 1) ≤ F) (hL : 135 + (d + 1) * 27 ≤ L) (nn : Nat) {rc : tg_X13_condition} (hrc : hg5_X13_condition X d rc) (l0 : Nat) (l1 : Int32) (l3 : Int32) (h : mx_H) {r : (Int32 × mx_H)} (hf : j_X13_rule_493 nn rc l0 l1 l3 h = some r) : mx_S X F L 441 493 [(0, .ref l0), (1, .int l1), (3, .int l3)] [] h 0 0 (some (.int r.1), r.2, 0, 0) := by
  have hm : mx_mt 441 = some (yX13_rule, cX13_rule, 4, (some .int)) := mt_X13_rule
  unfold j_X13_rule_493 at hf
  refine mx_S.pu (pc2 := 494) (lv2 := [(0, .ref l0), (1, .int l1), (3, .int l3)]) (st2 := [.ref l0]) hm dX13_rule_493 rfl ?_
  replace hf := mx_sv_el hf; obtain ⟨v25, e_v25, hf⟩ := hf
  refine sx_get hm dX13_rule_494 rs_RX13_28 (xgr_el e_v25) ?_
  clear e_v25
  refine mx_S.pu (pc2 := 498) (lv2 := [(0, .ref l0), (1, .int l1), (3, .int l3)]) (st2 := [.int l1, .ref v25]) hm dX13_rule_497 rfl ?_
  replace hf := mx_sv_el hf; obtain ⟨v26, e_v26, hf⟩ := hf
  refine sx_ald hm dX13_rule_498 e_v26 ?_
  clear e_v26
  refine sx_bi (v := 36) hm dX13_rule_499 (by decide) ?_
  rcases mx_if_el hf with ⟨c33, hf⟩ | ⟨c33, hf⟩
  · refine sb_ic_ne hm dX13_rule_501 (tgt := 517) rfl (fun _ => ?_) (fun z => absurd c33 z)
    refine mx_S.pu (pc2 := 518) (lv2 := [(0, .ref l0), (1, .int l1), (3, .int l3)]) (st2 := [.ref l0]) hm dX13_rule_517 rfl ?_
    refine mx_S.pu (pc2 := 519) (lv2 := [(0, .ref l0), (1, .int l1), (3, .int l3)]) (st2 := [.int l1, .ref l0]) hm dX13_rule_518 rfl ?_
    replace hf := mx_gd_el hf; obtain ⟨c27, hf⟩ := hf
    replace hf := mx_sv_el hf; obtain ⟨u28, e_u28, hf⟩ := hf
    refine sx_cv hm dX13_rule_519 rs_RX13_573 mt_X13_led [.int l1] [] (b := l0) (ci := 13) rfl rfl rfl c27 (Nat.le_of_ble_eq_true rfl) (Nat.le_of_ble_eq_true rfl) (by omega) (by omega) (f_X13_led_ok X (by omega) (by omega) nn l0 l1 h e_u28) ?_
    clear e_u28
    show mx_S X F L 441 522 [(0, .ref l0), (1, .int l1), (3, .int l3)] [.int u28.1] u28.2 0 0 (some (.int r.1), r.2, 0, 0)
    exact j_X13_rule_522_ok X hF hL nn hrc l0 l1 l3 u28.1 u28.2 hf
  · refine sb_ic_ne hm dX13_rule_501 (tgt := 517) rfl (fun z => absurd z c33) (fun _ => ?_)
    refine mx_S.pu (pc2 := 505) (lv2 := [(0, .ref l0), (1, .int l1), (3, .int l3)]) (st2 := [.ref l0]) hm dX13_rule_504 rfl ?_
    refine mx_S.pu (pc2 := 506) (lv2 := [(0, .ref l0), (1, .int l1), (3, .int l3)]) (st2 := [.ref l0, .ref l0]) hm dX13_rule_505 rfl ?_
    replace hf := mx_sv_el hf; obtain ⟨v29, e_v29, hf⟩ := hf
    refine sx_get hm dX13_rule_506 rs_RX13_37 (xgr_el e_v29) ?_
    clear e_v29
    refine mx_S.pu (pc2 := 510) (lv2 := [(0, .ref l0), (1, .int l1), (3, .int l3)]) (st2 := [.int l1, .ref v29, .ref l0]) hm dX13_rule_509 rfl ?_
    replace hf := mx_sv_el hf; obtain ⟨v30, e_v30, hf⟩ := hf
    refine sx_ald hm dX13_rule_510 e_v30 ?_
    clear e_v30
    replace hf := mx_gd_el hf; obtain ⟨c31, hf⟩ := hf
    replace hf := mx_sv_el hf; obtain ⟨u32, e_u32, hf⟩ := hf
    refine sx_cv hm dX13_rule_511 rs_RX13_537 mt_X13_given [.int v30] [] (b := l0) (ci := 13) rfl rfl rfl c31 (Nat.le_of_ble_eq_true rfl) (Nat.le_of_ble_eq_true rfl) (by omega) (by omega) (hrc.2.1 (by omega) (by omega) l0 v30 h e_u32) ?_
    clear e_u32
    show mx_S X F L 441 514 [(0, .ref l0), (1, .int l1), (3, .int l3)] [.int u32.1] u32.2 0 0 (some (.int r.1), r.2, 0, 0)
    refine mx_S.pu (pc2 := 522) (lv2 := [(0, .ref l0), (1, .int l1), (3, .int l3)]) (st2 := [.int u32.1]) hm dX13_rule_514 rfl ?_
    exact j_X13_rule_522_ok X hF hL nn hrc l0 l1 l3 u32.1 u32.2 hf
set_option maxHeartbeats 4000000 in
set_option maxRecDepth 20000 in
theorem j_X13_rule_455_ok (X : Nat × (Nat → Int32)) {F L d : Nat} (hF : 6 + (d + 1) ≤ F) (hL : 135 + (d + 1) * 27 ≤ L) (nn : Nat) {rc : tg_X13_condition} (hrc : hg5_X13_condition X d rc) (l0 : Nat) (l1 : Int32) (h : mx_H) {r : (Int32 × mx_H)} (hf : j_X13_rule_455 nn rc l0 l1 h = some r) : mx_S X F L 441 455 [(0, .ref l0), (1, .int l1)] [] h 0 0 (some (.int r.1), r.2, 0, 0) := by
  have hm : mx_mt 441 = some (yX13_rule, cX13_rule, 4, (some .int)) := mt_X13_rule
  unfold j_X13_rule_455 at hf
  refine mx_S.pu (pc2 := 456) (lv2 := [(0, .ref l0), (1, .int l1)]) (st2 := [.ref l0]) hm dX13_rule_455 rfl ?_
  refine mx_S.pu (pc2 := 457) (lv2 := [(0, .ref l0), (1, .int l1)]) (st2 := [.ref l0, .ref l0]) hm dX13_rule_456 rfl ?_
  replace hf := mx_sv_el hf; obtain ⟨v34, e_v34, hf⟩ := hf
  refine sx_get hm dX13_rule_457 rs_RX13_31 (xgr_el e_v34) ?_
  clear e_v34
  refine mx_S.pu (pc2 := 461) (lv2 := [(0, .ref l0), (1, .int l1)]) (st2 := [.int l1, .ref v34, .ref l0]) hm dX13_rule_460 rfl ?_
  replace hf := mx_sv_el hf; obtain ⟨v35, e_v35, hf⟩ := hf
  refine sx_ald hm dX13_rule_461 e_v35 ?_
  clear e_v35
  replace hf := mx_gd_el hf; obtain ⟨c36, hf⟩ := hf
  replace hf := mx_sv_el hf; obtain ⟨u37, e_u37, hf⟩ := hf
  refine sx_cv hm dX13_rule_462 rs_RX13_494 mt_X13_classOf [.int v35] [] (b := l0) (ci := 13) rfl rfl rfl c36 (Nat.le_of_ble_eq_true rfl) (Nat.le_of_ble_eq_true rfl) (by omega) (by omega) (f_X13_classOf_ok X (by omega) (by omega) nn l0 v35 h e_u37) ?_
  clear e_u37
  show mx_S X F L 441 465 [(0, .ref l0), (1, .int l1)] [.int u37.1] u37.2 0 0 (some (.int r.1), r.2, 0, 0)
  refine mx_S.pu (pc2 := 466) (lv2 := [(3, .int u37.1), (0, .ref l0), (1, .int l1)]) (st2 := []) hm dX13_rule_465 rfl ?_
  refine mx_S.pu (pc2 := 467) (lv2 := [(3, .int u37.1), (0, .ref l0), (1, .int l1)]) (st2 := [.int u37.1]) hm dX13_rule_466 rfl ?_
  refine sx_ic (v := (-1)) hm dX13_rule_467 (by decide) ?_
  rcases mx_if_el hf with ⟨c45, hf⟩ | ⟨c45, hf⟩
  · refine sb_ic_ne hm dX13_rule_468 (tgt := 493) rfl (fun _ => ?_) (fun z => absurd c45 z)
    refine mx_S.ext [(0, .ref l0), (1, .int l1), (3, .int u37.1)] (mx_sub_pos [1, 2, 0] rfl (show ([3, 0, 1] : List Nat).Nodup by decide)) ?_
    exact j_X13_rule_493_ok X hF hL nn hrc l0 l1 u37.1 u37.2 hf
  · refine sb_ic_ne hm dX13_rule_468 (tgt := 493) rfl (fun z => absurd z c45) (fun _ => ?_)
    refine mx_S.pu (pc2 := 472) (lv2 := [(3, .int u37.1), (0, .ref l0), (1, .int l1)]) (st2 := [.ref l0]) hm dX13_rule_471 rfl ?_
    replace hf := mx_sv_el hf; obtain ⟨v38, e_v38, hf⟩ := hf
    refine sx_get hm dX13_rule_472 rs_RX13_28 (xgr_el e_v38) ?_
    clear e_v38
    refine mx_S.pu (pc2 := 476) (lv2 := [(3, .int u37.1), (0, .ref l0), (1, .int l1)]) (st2 := [.int l1, .ref v38]) hm dX13_rule_475 rfl ?_
    replace hf := mx_sv_el hf; obtain ⟨v39, e_v39, hf⟩ := hf
    refine sx_ald hm dX13_rule_476 e_v39 ?_
    clear e_v39
    refine sx_bi (v := 36) hm dX13_rule_477 (by decide) ?_
    rcases mx_if_el hf with ⟨c44, hf⟩ | ⟨c44, hf⟩
    · refine sb_ic_ne hm dX13_rule_479 (tgt := 493) rfl (fun _ => ?_) (fun z => absurd c44 z)
      refine mx_S.ext [(0, .ref l0), (1, .int l1), (3, .int u37.1)] (mx_sub_pos [1, 2, 0] rfl (show ([3, 0, 1] : List Nat).Nodup by decide)) ?_
      exact j_X13_rule_493_ok X hF hL nn hrc l0 l1 u37.1 u37.2 hf
    · refine sb_ic_ne hm dX13_rule_479 (tgt := 493) rfl (fun z => absurd z c44) (fun _ => ?_)
      refine mx_S.pu (pc2 := 483) (lv2 := [(3, .int u37.1), (0, .ref l0), (1, .int l1)]) (st2 := [.ref l0]) hm dX13_rule_482 rfl ?_
      refine sx_ic (v := 5) hm dX13_rule_483 (by decide) ?_
      refine mx_S.pu (pc2 := 485) (lv2 := [(3, .int u37.1), (0, .ref l0), (1, .int l1)]) (st2 := [.ref l0, .int 5, .ref l0]) hm dX13_rule_484 rfl ?_
      replace hf := mx_sv_el hf; obtain ⟨v40, e_v40, hf⟩ := hf
      refine sx_get hm dX13_rule_485 rs_RX13_31 (xgr_el e_v40) ?_
      clear e_v40
      refine mx_S.pu (pc2 := 489) (lv2 := [(3, .int u37.1), (0, .ref l0), (1, .int l1)]) (st2 := [.int l1, .ref v40, .int 5, .ref l0]) hm dX13_rule_488 rfl ?_
      replace hf := mx_sv_el hf; obtain ⟨v41, e_v41, hf⟩ := hf
      refine sx_ald hm dX13_rule_489 e_v41 ?_
      clear e_v41
      replace hf := mx_gd_el hf; obtain ⟨c42, hf⟩ := hf
      replace hf := mx_sv_el hf; obtain ⟨u43, e_u43, hf⟩ := hf
      refine sx_cv hm dX13_rule_490 rs_RX13_379 mt_X13_wrong [.int 5, .int v41] [] (b := l0) (ci := 13) rfl rfl rfl c42 (Nat.le_of_ble_eq_true rfl) (Nat.le_of_ble_eq_true rfl) (by omega) (by omega) (f_X13_wrong_ok X (by omega) (by omega) nn l0 5 v41 u37.2 e_u43) ?_
      clear e_u43
      show mx_S X F L 441 493 [(3, .int u37.1), (0, .ref l0), (1, .int l1)] [] u43 0 0 (some (.int r.1), r.2, 0, 0)
      refine mx_S.ext [(0, .ref l0), (1, .int l1), (3, .int u37.1)] (mx_sub_pos [1, 2, 0] rfl (show ([3, 0, 1] : List Nat).Nodup by decide)) ?_
      exact j_X13_rule_493_ok X hF hL nn hrc l0 l1 u37.1 u43 hf
set_option maxHeartbeats 4000000 in
set_option maxRecDepth 20000 in
theorem j_X13_rule_416_ok (X : Nat × (Nat → Int32)) {F L d : Nat} (hF : 6 + (d + 1) ≤ F) (hL : 135 + (d + 1) * 27 ≤ L) (nn : Nat) {rc : tg_X13_condition} (hrc : hg5_X13_condition X d rc) (l0 : Nat) (l1 : Int32) (h : mx_H) {r : (Int32 × mx_H)} (hf : j_X13_rule_416 nn rc l0 l1 h = some r) : mx_S X F L 441 416 [(0, .ref l0), (1, .int l1)] [] h 0 0 (some (.int r.1), r.2, 0, 0) := by
  have hm : mx_mt 441 = some (yX13_rule, cX13_rule, 4, (some .int)) := mt_X13_rule
  unfold j_X13_rule_416 at hf
  refine mx_S.pu (pc2 := 417) (lv2 := [(0, .ref l0), (1, .int l1)]) (st2 := [.ref l0]) hm dX13_rule_416 rfl ?_
  refine mx_S.pu (pc2 := 418) (lv2 := [(0, .ref l0), (1, .int l1)]) (st2 := [.ref l0, .ref l0]) hm dX13_rule_417 rfl ?_
  replace hf := mx_sv_el hf; obtain ⟨v46, e_v46, hf⟩ := hf
  refine sx_get hm dX13_rule_418 rs_RX13_37 (xgr_el e_v46) ?_
  clear e_v46
  refine mx_S.pu (pc2 := 422) (lv2 := [(0, .ref l0), (1, .int l1)]) (st2 := [.int l1, .ref v46, .ref l0]) hm dX13_rule_421 rfl ?_
  replace hf := mx_sv_el hf; obtain ⟨v47, e_v47, hf⟩ := hf
  refine sx_ald hm dX13_rule_422 e_v47 ?_
  clear e_v47
  replace hf := mx_gd_el hf; obtain ⟨c48, hf⟩ := hf
  replace hf := mx_sv_el hf; obtain ⟨u49, e_u49, hf⟩ := hf
  refine sx_cv hm dX13_rule_423 rs_RX13_537 mt_X13_given [.int v47] [] (b := l0) (ci := 13) rfl rfl rfl c48 (Nat.le_of_ble_eq_true rfl) (Nat.le_of_ble_eq_true rfl) (by omega) (by omega) (hrc.2.1 (by omega) (by omega) l0 v47 h e_u49) ?_
  clear e_u49
  show mx_S X F L 441 426 [(0, .ref l0), (1, .int l1)] [.int u49.1] u49.2 0 0 (some (.int r.1), r.2, 0, 0)
  rcases mx_if_el hf with ⟨c54, hf⟩ | ⟨c54, hf⟩
  · refine sb_if_eq hm dX13_rule_426 (tgt := 441) rfl (fun _ => ?_) (fun z => absurd c54 z)
    refine sx_ic (v := 0) hm dX13_rule_441 (by decide) ?_
    cases hf
    exact sx_ire hm dX13_rule_442 rfl rfl
  · refine sb_if_eq hm dX13_rule_426 (tgt := 441) rfl (fun z => absurd z c54) (fun _ => ?_)
    refine mx_S.pu (pc2 := 430) (lv2 := [(0, .ref l0), (1, .int l1)]) (st2 := [.ref l0]) hm dX13_rule_429 rfl ?_
    refine sx_bi (v := 6) hm dX13_rule_430 (by decide) ?_
    refine mx_S.pu (pc2 := 433) (lv2 := [(0, .ref l0), (1, .int l1)]) (st2 := [.ref l0, .int 6, .ref l0]) hm dX13_rule_432 rfl ?_
    replace hf := mx_sv_el hf; obtain ⟨v50, e_v50, hf⟩ := hf
    refine sx_get hm dX13_rule_433 rs_RX13_31 (xgr_el e_v50) ?_
    clear e_v50
    refine mx_S.pu (pc2 := 437) (lv2 := [(0, .ref l0), (1, .int l1)]) (st2 := [.int l1, .ref v50, .int 6, .ref l0]) hm dX13_rule_436 rfl ?_
    replace hf := mx_sv_el hf; obtain ⟨v51, e_v51, hf⟩ := hf
    refine sx_ald hm dX13_rule_437 e_v51 ?_
    clear e_v51
    replace hf := mx_gd_el hf; obtain ⟨c52, hf⟩ := hf
    replace hf := mx_sv_el hf; obtain ⟨u53, e_u53, hf⟩ := hf
    refine sx_cv hm dX13_rule_438 rs_RX13_379 mt_X13_wrong [.int 6, .int v51] [] (b := l0) (ci := 13) rfl rfl rfl c52 (Nat.le_of_ble_eq_true rfl) (Nat.le_of_ble_eq_true rfl) (by omega) (by omega) (f_X13_wrong_ok X (by omega) (by omega) nn l0 6 v51 u49.2 e_u53) ?_
    clear e_u53
    show mx_S X F L 441 441 [(0, .ref l0), (1, .int l1)] [] u53 0 0 (some (.int r.1), r.2, 0, 0)
    refine sx_ic (v := 0) hm dX13_rule_441 (by decide) ?_
    cases hf
    exact sx_ire hm dX13_rule_442 rfl rfl
set_option maxHeartbeats 4000000 in
set_option maxRecDepth 20000 in
theorem j_X13_rule_403_ok (X : Nat × (Nat → Int32)) {F L d : Nat} (hF : 6 + (d + 1) ≤ F) (hL : 135 + (d + 1) * 27 ≤ L) (nn : Nat) {rc : tg_X13_condition} (hrc : hg5_X13_condition X d rc) (l2 : Int32) (h : mx_H) {r : (Int32 × mx_H)} (hf : j_X13_rule_403 nn rc l2 h = some r) : mx_S X F L 441 403 [(2, .int l2)] [] h 0 0 (some (.int r.1), r.2, 0, 0) := by
  have hm : mx_mt 441 = some (yX13_rule, cX13_rule, 4, (some .int)) := mt_X13_rule
  unfold j_X13_rule_403 at hf
  refine mx_S.pu (pc2 := 404) (lv2 := [(2, .int l2)]) (st2 := [.int l2]) hm dX13_rule_403 rfl ?_
  refine sx_ic (v := 4) hm dX13_rule_404 (by decide) ?_
  rcases mx_if_el hf with ⟨c56, hf⟩ | ⟨c56, hf⟩
  · refine sb_ic_ne hm dX13_rule_405 (tgt := 412) rfl (fun _ => ?_) (fun z => absurd c56 z)
    refine mx_S.pu (pc2 := 413) (lv2 := [(2, .int l2)]) (st2 := [.int l2]) hm dX13_rule_412 rfl ?_
    refine sx_ic (v := 1) hm dX13_rule_413 (by decide) ?_
    replace hf := xl_el hf; obtain ⟨v55, e_v55, hf⟩ := hf
    refine mx_S.pu (pc2 := 415) (lv2 := [(2, .int l2)]) (st2 := [.int v55]) hm dX13_rule_414 (by rw [← e_v55]; rfl) ?_
    clear e_v55
    cases hf
    exact sx_ire hm dX13_rule_415 rfl rfl
  · refine sb_ic_ne hm dX13_rule_405 (tgt := 412) rfl (fun z => absurd z c56) (fun _ => ?_)
    refine sx_ic (v := 0) hm dX13_rule_408 (by decide) ?_
    refine mx_S.pu (pc2 := 415) (lv2 := [(2, .int l2)]) (st2 := [.int 0]) hm dX13_rule_409 rfl ?_
    cases hf
    exact sx_ire hm dX13_rule_415 rfl rfl
set_option maxHeartbeats 4000000 in
set_option maxRecDepth 20000 in
theorem j_X13_rule_391_ok (X : Nat × (Nat → Int32)) {F L d : Nat} (hF : 6 + (d + 1) ≤ F) (hL : 135 + (d + 1) * 27 ≤ L) (nn : Nat) {rc : tg_X13_condition} (hrc : hg5_X13_condition X d rc) (l0 : Nat) (l1 : Int32) (l2 : Int32) (h : mx_H) {r : (Int32 × mx_H)} (hf : j_X13_rule_391 nn rc l0 l1 l2 h = some r) : mx_S X F L 441 391 [(0, .ref l0), (1, .int l1), (2, .int l2)] [] h 0 0 (some (.int r.1), r.2, 0, 0) := by
  have hm : mx_mt 441 = some (yX13_rule, cX13_rule, 4, (some .int)) := mt_X13_rule
  unfold j_X13_rule_391 at hf
  refine mx_S.pu (pc2 := 392) (lv2 := [(0, .ref l0), (1, .int l1), (2, .int l2)]) (st2 := [.ref l0]) hm dX13_rule_391 rfl ?_
  refine sx_bi (v := 6) hm dX13_rule_392 (by decide) ?_
  refine mx_S.pu (pc2 := 395) (lv2 := [(0, .ref l0), (1, .int l1), (2, .int l2)]) (st2 := [.ref l0, .int 6, .ref l0]) hm dX13_rule_394 rfl ?_
  replace hf := mx_sv_el hf; obtain ⟨v57, e_v57, hf⟩ := hf
  refine sx_get hm dX13_rule_395 rs_RX13_31 (xgr_el e_v57) ?_
  clear e_v57
  refine mx_S.pu (pc2 := 399) (lv2 := [(0, .ref l0), (1, .int l1), (2, .int l2)]) (st2 := [.int l1, .ref v57, .int 6, .ref l0]) hm dX13_rule_398 rfl ?_
  replace hf := mx_sv_el hf; obtain ⟨v58, e_v58, hf⟩ := hf
  refine sx_ald hm dX13_rule_399 e_v58 ?_
  clear e_v58
  replace hf := mx_gd_el hf; obtain ⟨c59, hf⟩ := hf
  replace hf := mx_sv_el hf; obtain ⟨u60, e_u60, hf⟩ := hf
  refine sx_cv hm dX13_rule_400 rs_RX13_379 mt_X13_wrong [.int 6, .int v58] [] (b := l0) (ci := 13) rfl rfl rfl c59 (Nat.le_of_ble_eq_true rfl) (Nat.le_of_ble_eq_true rfl) (by omega) (by omega) (f_X13_wrong_ok X (by omega) (by omega) nn l0 6 v58 h e_u60) ?_
  clear e_u60
  show mx_S X F L 441 403 [(0, .ref l0), (1, .int l1), (2, .int l2)] [] u60 0 0 (some (.int r.1), r.2, 0, 0)
  refine mx_S.ext [(2, .int l2)] (mx_sub_pos [2] rfl (show ([0, 1, 2] : List Nat).Nodup by decide)) ?_
  exact j_X13_rule_403_ok X hF hL nn hrc l2 u60 hf
set_option maxHeartbeats 4000000 in
set_option maxRecDepth 20000 in
theorem j_X13_rule_342_ok (X : Nat × (Nat → Int32)) {F L d : Nat} (hF : 6 + (d + 1) ≤ F) (hL : 135 + (d + 1) * 27 ≤ L) (nn : Nat) {rc : tg_X13_condition} (hrc : hg5_X13_condition X d rc) (l2 : Int32) (h : mx_H) {r : (Int32 × mx_H)} (hf : j_X13_rule_342 nn rc l2 h = some r) : mx_S X F L 441 342 [(2, .int l2)] [] h 0 0 (some (.int r.1), r.2, 0, 0) := by
  have hm : mx_mt 441 = some (yX13_rule, cX13_rule, 4, (some .int)) := mt_X13_rule
  unfold j_X13_rule_342 at hf
  refine sx_bi (v := 8) hm dX13_rule_342 (by decide) ?_
  refine sx_ic (v := 2) hm dX13_rule_344 (by decide) ?_
  refine mx_S.pu (pc2 := 346) (lv2 := [(2, .int l2)]) (st2 := [.int l2, .int 2, .int 8]) hm dX13_rule_345 rfl ?_
  replace hf := xl_el hf; obtain ⟨v61, e_v61, hf⟩ := hf
  refine mx_S.pu (pc2 := 347) (lv2 := [(2, .int l2)]) (st2 := [.int v61, .int 8]) hm dX13_rule_346 (by rw [← e_v61]; rfl) ?_
  clear e_v61
  replace hf := xl_el hf; obtain ⟨v62, e_v62, hf⟩ := hf
  refine mx_S.pu (pc2 := 348) (lv2 := [(2, .int l2)]) (st2 := [.int v62]) hm dX13_rule_347 (by rw [← e_v62]; rfl) ?_
  clear e_v62
  refine sx_ic (v := 1) hm dX13_rule_348 (by decide) ?_
  replace hf := xl_el hf; obtain ⟨v63, e_v63, hf⟩ := hf
  refine mx_S.pu (pc2 := 350) (lv2 := [(2, .int l2)]) (st2 := [.int v63]) hm dX13_rule_349 (by rw [← e_v63]; rfl) ?_
  clear e_v63
  cases hf
  exact sx_ire hm dX13_rule_350 rfl rfl
set_option maxHeartbeats 4000000 in
set_option maxRecDepth 20000 in
theorem j_X13_rule_317_ok (X : Nat × (Nat → Int32)) {F L d : Nat} (hF : 6 + (d + 1) ≤ F) (hL : 135 + (d + 1) * 27 ≤ L) (nn : Nat) {rc : tg_X13_condition} (hrc : hg5_X13_condition X d rc) (l0 : Nat) (l1 : Int32) (l2 : Int32) (h : mx_H) {r : (Int32 × mx_H)} (hf : j_X13_rule_317 nn rc l0 l1 l2 h = some r) : mx_S X F L 441 317 [(0, .ref l0), (1, .int l1), (2, .int l2)] [] h 0 0 (some (.int r.1), r.2, 0, 0) := by
  have hm : mx_mt 441 = some (yX13_rule, cX13_rule, 4, (some .int)) := mt_X13_rule
  unfold j_X13_rule_317 at hf
  refine mx_S.pu (pc2 := 318) (lv2 := [(0, .ref l0), (1, .int l1), (2, .int l2)]) (st2 := [.ref l0]) hm dX13_rule_317 rfl ?_
  refine mx_S.pu (pc2 := 319) (lv2 := [(0, .ref l0), (1, .int l1), (2, .int l2)]) (st2 := [.ref l0, .ref l0]) hm dX13_rule_318 rfl ?_
  replace hf := mx_sv_el hf; obtain ⟨v64, e_v64, hf⟩ := hf
  refine sx_get hm dX13_rule_319 rs_RX13_37 (xgr_el e_v64) ?_
  clear e_v64
  refine mx_S.pu (pc2 := 323) (lv2 := [(0, .ref l0), (1, .int l1), (2, .int l2)]) (st2 := [.int l1, .ref v64, .ref l0]) hm dX13_rule_322 rfl ?_
  replace hf := mx_sv_el hf; obtain ⟨v65, e_v65, hf⟩ := hf
  refine sx_ald hm dX13_rule_323 e_v65 ?_
  clear e_v65
  replace hf := mx_gd_el hf; obtain ⟨c66, hf⟩ := hf
  replace hf := mx_sv_el hf; obtain ⟨u67, e_u67, hf⟩ := hf
  refine sx_cv hm dX13_rule_324 rs_RX13_537 mt_X13_given [.int v65] [] (b := l0) (ci := 13) rfl rfl rfl c66 (Nat.le_of_ble_eq_true rfl) (Nat.le_of_ble_eq_true rfl) (by omega) (by omega) (hrc.2.1 (by omega) (by omega) l0 v65 h e_u67) ?_
  clear e_u67
  show mx_S X F L 441 327 [(0, .ref l0), (1, .int l1), (2, .int l2)] [.int u67.1] u67.2 0 0 (some (.int r.1), r.2, 0, 0)
  rcases mx_if_el hf with ⟨c72, hf⟩ | ⟨c72, hf⟩
  · refine sb_if_eq hm dX13_rule_327 (tgt := 342) rfl (fun _ => ?_) (fun z => absurd c72 z)
    refine mx_S.ext [(2, .int l2)] (mx_sub_pos [2] rfl (show ([0, 1, 2] : List Nat).Nodup by decide)) ?_
    exact j_X13_rule_342_ok X hF hL nn hrc l2 u67.2 hf
  · refine sb_if_eq hm dX13_rule_327 (tgt := 342) rfl (fun z => absurd z c72) (fun _ => ?_)
    refine mx_S.pu (pc2 := 331) (lv2 := [(0, .ref l0), (1, .int l1), (2, .int l2)]) (st2 := [.ref l0]) hm dX13_rule_330 rfl ?_
    refine sx_bi (v := 6) hm dX13_rule_331 (by decide) ?_
    refine mx_S.pu (pc2 := 334) (lv2 := [(0, .ref l0), (1, .int l1), (2, .int l2)]) (st2 := [.ref l0, .int 6, .ref l0]) hm dX13_rule_333 rfl ?_
    replace hf := mx_sv_el hf; obtain ⟨v68, e_v68, hf⟩ := hf
    refine sx_get hm dX13_rule_334 rs_RX13_43 (xgr_el e_v68) ?_
    clear e_v68
    refine mx_S.pu (pc2 := 338) (lv2 := [(0, .ref l0), (1, .int l1), (2, .int l2)]) (st2 := [.int l1, .ref v68, .int 6, .ref l0]) hm dX13_rule_337 rfl ?_
    replace hf := mx_sv_el hf; obtain ⟨v69, e_v69, hf⟩ := hf
    refine sx_ald hm dX13_rule_338 e_v69 ?_
    clear e_v69
    replace hf := mx_gd_el hf; obtain ⟨c70, hf⟩ := hf
    replace hf := mx_sv_el hf; obtain ⟨u71, e_u71, hf⟩ := hf
    refine sx_cv hm dX13_rule_339 rs_RX13_379 mt_X13_wrong [.int 6, .int v69] [] (b := l0) (ci := 13) rfl rfl rfl c70 (Nat.le_of_ble_eq_true rfl) (Nat.le_of_ble_eq_true rfl) (by omega) (by omega) (f_X13_wrong_ok X (by omega) (by omega) nn l0 6 v69 u67.2 e_u71) ?_
    clear e_u71
    show mx_S X F L 441 342 [(0, .ref l0), (1, .int l1), (2, .int l2)] [] u71 0 0 (some (.int r.1), r.2, 0, 0)
    refine mx_S.ext [(2, .int l2)] (mx_sub_pos [2] rfl (show ([0, 1, 2] : List Nat).Nodup by decide)) ?_
    exact j_X13_rule_342_ok X hF hL nn hrc l2 u71 hf
set_option maxHeartbeats 4000000 in
set_option maxRecDepth 20000 in
theorem j_X13_rule_256_ok (X : Nat × (Nat → Int32)) {F L d : Nat} (hF : 6 + (d + 1) ≤ F) (hL : 135 + (d + 1) * 27 ≤ L) (nn : Nat) {rc : tg_X13_condition} (hrc : hg5_X13_condition X d rc) (l2 : Int32) (h : mx_H) {r : (Int32 × mx_H)} (hf : j_X13_rule_256 nn rc l2 h = some r) : mx_S X F L 441 256 [(2, .int l2)] [] h 0 0 (some (.int r.1), r.2, 0, 0) := by
  have hm : mx_mt 441 = some (yX13_rule, cX13_rule, 4, (some .int)) := mt_X13_rule
  unfold j_X13_rule_256 at hf
  refine sx_bi (v := 8) hm dX13_rule_256 (by decide) ?_
  refine sx_ic (v := 2) hm dX13_rule_258 (by decide) ?_
  refine mx_S.pu (pc2 := 260) (lv2 := [(2, .int l2)]) (st2 := [.int l2, .int 2, .int 8]) hm dX13_rule_259 rfl ?_
  replace hf := xl_el hf; obtain ⟨v73, e_v73, hf⟩ := hf
  refine mx_S.pu (pc2 := 261) (lv2 := [(2, .int l2)]) (st2 := [.int v73, .int 8]) hm dX13_rule_260 (by rw [← e_v73]; rfl) ?_
  clear e_v73
  replace hf := xl_el hf; obtain ⟨v74, e_v74, hf⟩ := hf
  refine mx_S.pu (pc2 := 262) (lv2 := [(2, .int l2)]) (st2 := [.int v74]) hm dX13_rule_261 (by rw [← e_v74]; rfl) ?_
  clear e_v74
  cases hf
  exact sx_ire hm dX13_rule_262 rfl rfl
set_option maxHeartbeats 4000000 in
set_option maxRecDepth 20000 in
theorem j_X13_rule_216_ok (X : Nat × (Nat → Int32)) {F L d : Nat} (hF : 6 + (d + 1) ≤ F) (hL : 135 + (d + 1) * 27 ≤ L) (nn : Nat) {rc : tg_X13_condition} (hrc : hg5_X13_condition X d rc) (l0 : Nat) (l1 : Int32) (h : mx_H) {r : (Int32 × mx_H)} (hf : j_X13_rule_216 nn rc l0 l1 h = some r) : mx_S X F L 441 216 [(0, .ref l0), (1, .int l1)] [] h 0 0 (some (.int r.1), r.2, 0, 0) := by
  have hm : mx_mt 441 = some (yX13_rule, cX13_rule, 4, (some .int)) := mt_X13_rule
  unfold j_X13_rule_216 at hf
  refine mx_S.pu (pc2 := 217) (lv2 := [(0, .ref l0), (1, .int l1)]) (st2 := [.ref l0]) hm dX13_rule_216 rfl ?_
  refine mx_S.pu (pc2 := 218) (lv2 := [(0, .ref l0), (1, .int l1)]) (st2 := [.int l1, .ref l0]) hm dX13_rule_217 rfl ?_
  refine mx_S.pu (pc2 := 219) (lv2 := [(0, .ref l0), (1, .int l1)]) (st2 := [.ref l0, .int l1, .ref l0]) hm dX13_rule_218 rfl ?_
  replace hf := mx_sv_el hf; obtain ⟨v75, e_v75, hf⟩ := hf
  refine sx_get hm dX13_rule_219 rs_RX13_52 (xgr_el e_v75) ?_
  clear e_v75
  refine mx_S.pu (pc2 := 223) (lv2 := [(0, .ref l0), (1, .int l1)]) (st2 := [.int l1, .ref v75, .int l1, .ref l0]) hm dX13_rule_222 rfl ?_
  replace hf := mx_sv_el hf; obtain ⟨v76, e_v76, hf⟩ := hf
  refine sx_ald hm dX13_rule_223 e_v76 ?_
  clear e_v76
  refine sx_ic (v := 1) hm dX13_rule_224 (by decide) ?_
  replace hf := mx_gd_el hf; obtain ⟨c77, hf⟩ := hf
  replace hf := mx_sv_el hf; obtain ⟨u78, e_u78, hf⟩ := hf
  refine sx_cv hm dX13_rule_225 rs_RX13_564 mt_X13_called [.int l1, .int v76, .int 1] [] (b := l0) (ci := 13) rfl rfl rfl c77 (Nat.le_of_ble_eq_true rfl) (Nat.le_of_ble_eq_true rfl) (by omega) (by omega) (hrc.2.2.2.2.2.2 (by omega) (by omega) l0 l1 v76 1 h e_u78) ?_
  clear e_u78
  show mx_S X F L 441 228 [(0, .ref l0), (1, .int l1)] [.int u78.1] u78.2 0 0 (some (.int r.1), r.2, 0, 0)
  cases hf
  exact sx_ire hm dX13_rule_228 rfl rfl
set_option maxHeartbeats 4000000 in
set_option maxRecDepth 20000 in
theorem j_X13_rule_121_ok (X : Nat × (Nat → Int32)) {F L d : Nat} (hF : 6 + (d + 1) ≤ F) (hL : 135 + (d + 1) * 27 ≤ L) (nn : Nat) {rc : tg_X13_condition} (hrc : hg5_X13_condition X d rc) (l0 : Nat) (h : mx_H) {r : (Int32 × mx_H)} (hf : j_X13_rule_121 nn rc l0 h = some r) : mx_S X F L 441 121 [(0, .ref l0)] [] h 0 0 (some (.int r.1), r.2, 0, 0) := by
  have hm : mx_mt 441 = some (yX13_rule, cX13_rule, 4, (some .int)) := mt_X13_rule
  unfold j_X13_rule_121 at hf
  refine sx_bi (v := 8) hm dX13_rule_121 (by decide) ?_
  refine sx_ic (v := 2) hm dX13_rule_123 (by decide) ?_
  refine mx_S.pu (pc2 := 125) (lv2 := [(0, .ref l0)]) (st2 := [.ref l0, .int 2, .int 8]) hm dX13_rule_124 rfl ?_
  replace hf := mx_sv_el hf; obtain ⟨v79, e_v79, hf⟩ := hf
  refine sx_get hm dX13_rule_125 rs_RX13_519 (xgi_el e_v79) ?_
  clear e_v79
  replace hf := xl_el hf; obtain ⟨v80, e_v80, hf⟩ := hf
  refine mx_S.pu (pc2 := 129) (lv2 := [(0, .ref l0)]) (st2 := [.int v80, .int 8]) hm dX13_rule_128 (by rw [← e_v80]; rfl) ?_
  clear e_v80
  replace hf := xl_el hf; obtain ⟨v81, e_v81, hf⟩ := hf
  refine mx_S.pu (pc2 := 130) (lv2 := [(0, .ref l0)]) (st2 := [.int v81]) hm dX13_rule_129 (by rw [← e_v81]; rfl) ?_
  clear e_v81
  cases hf
  exact sx_ire hm dX13_rule_130 rfl rfl
set_option maxHeartbeats 4000000 in
set_option maxRecDepth 20000 in
theorem j_X13_rule_98_ok (X : Nat × (Nat → Int32)) {F L d : Nat} (hF : 6 + (d + 1) ≤ F) (hL : 135 + (d + 1) * 27 ≤ L) (nn : Nat) {rc : tg_X13_condition} (hrc : hg5_X13_condition X d rc) (h : mx_H) {r : (Int32 × mx_H)} (hf : j_X13_rule_98 nn rc h = some r) : mx_S X F L 441 98 [] [] h 0 0 (some (.int r.1), r.2, 0, 0) := by
  have hm : mx_mt 441 = some (yX13_rule, cX13_rule, 4, (some .int)) := mt_X13_rule
  unfold j_X13_rule_98 at hf
  refine sx_ic (v := 1) hm dX13_rule_98 (by decide) ?_
  cases hf
  exact sx_ire hm dX13_rule_99 rfl rfl
set_option maxHeartbeats 4000000 in
set_option maxRecDepth 20000 in
theorem o_X13_rule_ok (X : Nat × (Nat → Int32)) {F L d : Nat} (hF : 6 + (d + 1) ≤ F) (hL : 135 + (d + 1) * 27 ≤ L) (nn : Nat) {rc : tg_X13_condition} (hrc : hg5_X13_condition X d rc) (a0 : Nat) (a1 : Int32) (h : mx_H) {r : (Int32 × mx_H)} (hf : o_X13_rule nn rc a0 a1 h = some r) : mx_R X F L 441 [.ref a0, .int a1] h (some (.int r.1), r.2, 0, 0) := by
  have hm : mx_mt 441 = some (yX13_rule, cX13_rule, 4, (some .int)) := mt_X13_rule
  show mx_S X F L 441 0 [(0, .ref a0), (1, .int a1)] [] h 0 0 (some (.int r.1), r.2, 0, 0)
  unfold o_X13_rule at hf
  refine mx_S.pu (pc2 := 1) (lv2 := [(0, .ref a0), (1, .int a1)]) (st2 := [.ref a0]) hm dX13_rule_0 rfl ?_
  replace hf := mx_sv_el hf; obtain ⟨v82, e_v82, hf⟩ := hf
  refine sx_get hm dX13_rule_1 rs_RX13_28 (xgr_el e_v82) ?_
  clear e_v82
  refine mx_S.pu (pc2 := 5) (lv2 := [(0, .ref a0), (1, .int a1)]) (st2 := [.int a1, .ref v82]) hm dX13_rule_4 rfl ?_
  replace hf := mx_sv_el hf; obtain ⟨v83, e_v83, hf⟩ := hf
  refine sx_ald hm dX13_rule_5 e_v83 ?_
  clear e_v83
  rcases mx_if_el hf with ⟨n_0, hf⟩ | ⟨n_0, hf⟩
  · refine sx_tin hm dX13_rule_6 (by rw [n_0]; decide) (by rw [n_0]; decide) (off := 90) (by rw [n_0]; rfl) (tgt := 96) rfl ?_
    clear n_0
    refine sx_ic (v := 0) hm dX13_rule_96 (by decide) ?_
    cases hf
    exact sx_ire hm dX13_rule_97 rfl rfl
  · rcases mx_if_el hf with ⟨n_1, hf⟩ | ⟨n_1, hf⟩
    · refine sx_tin hm dX13_rule_6 (by rw [n_1]; decide) (by rw [n_1]; decide) (off := 92) (by rw [n_1]; rfl) (tgt := 98) rfl ?_
      clear n_0 n_1
      refine mx_S.ext [] (mx_sub_pos [] rfl (show ([0, 1] : List Nat).Nodup by decide)) ?_
      exact j_X13_rule_98_ok X hF hL nn hrc h hf
    · rcases mx_if_el hf with ⟨n_2, hf⟩ | ⟨n_2, hf⟩
      · refine sx_tin hm dX13_rule_6 (by rw [n_2]; decide) (by rw [n_2]; decide) (off := 92) (by rw [n_2]; rfl) (tgt := 98) rfl ?_
        clear n_0 n_1 n_2
        refine mx_S.ext [] (mx_sub_pos [] rfl (show ([0, 1] : List Nat).Nodup by decide)) ?_
        exact j_X13_rule_98_ok X hF hL nn hrc h hf
      · rcases mx_if_el hf with ⟨n_3, hf⟩ | ⟨n_3, hf⟩
        · refine sx_tin hm dX13_rule_6 (by rw [n_3]; decide) (by rw [n_3]; decide) (off := 94) (by rw [n_3]; rfl) (tgt := 100) rfl ?_
          clear n_0 n_1 n_2 n_3
          refine sx_ic (v := 2) hm dX13_rule_100 (by decide) ?_
          cases hf
          exact sx_ire hm dX13_rule_101 rfl rfl
        · rcases mx_if_el hf with ⟨n_4, hf⟩ | ⟨n_4, hf⟩
          · refine sx_tin hm dX13_rule_6 (by rw [n_4]; decide) (by rw [n_4]; decide) (off := 96) (by rw [n_4]; rfl) (tgt := 102) rfl ?_
            clear n_0 n_1 n_2 n_3 n_4
            refine mx_S.pu (pc2 := 103) (lv2 := [(0, .ref a0), (1, .int a1)]) (st2 := [.ref a0]) hm dX13_rule_102 rfl ?_
            replace hf := mx_sv_el hf; obtain ⟨v103, e_v103, hf⟩ := hf
            refine sx_get hm dX13_rule_103 rs_RX13_510 (xgi_el e_v103) ?_
            clear e_v103
            rcases mx_if_el hf with ⟨c108, hf⟩ | ⟨c108, hf⟩
            · refine sb_if_eq hm dX13_rule_106 (tgt := 121) rfl (fun _ => ?_) (fun z => absurd c108 z)
              refine mx_S.ext [(0, .ref a0)] (mx_sub_pos [0] rfl (show ([0, 1] : List Nat).Nodup by decide)) ?_
              exact j_X13_rule_121_ok X hF hL nn hrc a0 h hf
            · refine sb_if_eq hm dX13_rule_106 (tgt := 121) rfl (fun z => absurd z c108) (fun _ => ?_)
              refine mx_S.pu (pc2 := 110) (lv2 := [(0, .ref a0), (1, .int a1)]) (st2 := [.ref a0]) hm dX13_rule_109 rfl ?_
              refine sx_bi (v := 7) hm dX13_rule_110 (by decide) ?_
              refine mx_S.pu (pc2 := 113) (lv2 := [(0, .ref a0), (1, .int a1)]) (st2 := [.ref a0, .int 7, .ref a0]) hm dX13_rule_112 rfl ?_
              replace hf := mx_sv_el hf; obtain ⟨v104, e_v104, hf⟩ := hf
              refine sx_get hm dX13_rule_113 rs_RX13_31 (xgr_el e_v104) ?_
              clear e_v104
              refine mx_S.pu (pc2 := 117) (lv2 := [(0, .ref a0), (1, .int a1)]) (st2 := [.int a1, .ref v104, .int 7, .ref a0]) hm dX13_rule_116 rfl ?_
              replace hf := mx_sv_el hf; obtain ⟨v105, e_v105, hf⟩ := hf
              refine sx_ald hm dX13_rule_117 e_v105 ?_
              clear e_v105
              replace hf := mx_gd_el hf; obtain ⟨c106, hf⟩ := hf
              replace hf := mx_sv_el hf; obtain ⟨u107, e_u107, hf⟩ := hf
              refine sx_cv hm dX13_rule_118 rs_RX13_379 mt_X13_wrong [.int 7, .int v105] [] (b := a0) (ci := 13) rfl rfl rfl c106 (Nat.le_of_ble_eq_true rfl) (Nat.le_of_ble_eq_true rfl) (by omega) (by omega) (f_X13_wrong_ok X (by omega) (by omega) nn a0 7 v105 h e_u107) ?_
              clear e_u107
              show mx_S X F L 441 121 [(0, .ref a0), (1, .int a1)] [] u107 0 0 (some (.int r.1), r.2, 0, 0)
              refine mx_S.ext [(0, .ref a0)] (mx_sub_pos [0] rfl (show ([0, 1] : List Nat).Nodup by decide)) ?_
              exact j_X13_rule_121_ok X hF hL nn hrc a0 u107 hf
          · rcases mx_if_el hf with ⟨n_5, hf⟩ | ⟨n_5, hf⟩
            · refine sx_tin hm dX13_rule_6 (by rw [n_5]; decide) (by rw [n_5]; decide) (off := 125) (by rw [n_5]; rfl) (tgt := 131) rfl ?_
              clear n_0 n_1 n_2 n_3 n_4 n_5
              refine mx_S.pu (pc2 := 132) (lv2 := [(0, .ref a0), (1, .int a1)]) (st2 := [.ref a0]) hm dX13_rule_131 rfl ?_
              refine mx_S.pu (pc2 := 133) (lv2 := [(0, .ref a0), (1, .int a1)]) (st2 := [.int a1, .ref a0]) hm dX13_rule_132 rfl ?_
              replace hf := mx_gd_el hf; obtain ⟨c109, hf⟩ := hf
              replace hf := mx_sv_el hf; obtain ⟨u110, e_u110, hf⟩ := hf
              refine sx_cv hm dX13_rule_133 rs_RX13_561 mt_X13_named [.int a1] [] (b := a0) (ci := 13) rfl rfl rfl c109 (Nat.le_of_ble_eq_true rfl) (Nat.le_of_ble_eq_true rfl) (by omega) (by omega) (f_X13_named_ok X (by omega) (by omega) nn a0 a1 h e_u110) ?_
              clear e_u110
              show mx_S X F L 441 136 [(0, .ref a0), (1, .int a1)] [.int u110.1] u110.2 0 0 (some (.int r.1), r.2, 0, 0)
              cases hf
              exact sx_ire hm dX13_rule_136 rfl rfl
            · rcases mx_if_el hf with ⟨n_6, hf⟩ | ⟨n_6, hf⟩
              · refine sx_tin hm dX13_rule_6 (by rw [n_6]; decide) (by rw [n_6]; decide) (off := 131) (by rw [n_6]; rfl) (tgt := 137) rfl ?_
                clear n_0 n_1 n_2 n_3 n_4 n_5 n_6
                refine mx_S.pu (pc2 := 138) (lv2 := [(0, .ref a0), (1, .int a1)]) (st2 := [.ref a0]) hm dX13_rule_137 rfl ?_
                replace hf := mx_sv_el hf; obtain ⟨v111, e_v111, hf⟩ := hf
                refine sx_get hm dX13_rule_138 rs_RX13_52 (xgr_el e_v111) ?_
                clear e_v111
                refine mx_S.pu (pc2 := 142) (lv2 := [(0, .ref a0), (1, .int a1)]) (st2 := [.int a1, .ref v111]) hm dX13_rule_141 rfl ?_
                refine mx_S.pu (pc2 := 143) (lv2 := [(0, .ref a0), (1, .int a1)]) (st2 := [.ref a0, .int a1, .ref v111]) hm dX13_rule_142 rfl ?_
                refine mx_S.pu (pc2 := 144) (lv2 := [(0, .ref a0), (1, .int a1)]) (st2 := [.ref a0, .ref a0, .int a1, .ref v111]) hm dX13_rule_143 rfl ?_
                replace hf := mx_sv_el hf; obtain ⟨v112, e_v112, hf⟩ := hf
                refine sx_get hm dX13_rule_144 rs_RX13_519 (xgi_el e_v112) ?_
                clear e_v112
                refine mx_S.pu (pc2 := 148) (lv2 := [(0, .ref a0), (1, .int a1)]) (st2 := [.ref a0, .int v112, .ref a0, .int a1, .ref v111]) hm dX13_rule_147 rfl ?_
                replace hf := mx_sv_el hf; obtain ⟨v113, e_v113, hf⟩ := hf
                refine sx_get hm dX13_rule_148 rs_RX13_31 (xgr_el e_v113) ?_
                clear e_v113
                refine mx_S.pu (pc2 := 152) (lv2 := [(0, .ref a0), (1, .int a1)]) (st2 := [.int a1, .ref v113, .int v112, .ref a0, .int a1, .ref v111]) hm dX13_rule_151 rfl ?_
                replace hf := mx_sv_el hf; obtain ⟨v114, e_v114, hf⟩ := hf
                refine sx_ald hm dX13_rule_152 e_v114 ?_
                clear e_v114
                refine sx_ic (v := 1) hm dX13_rule_153 (by decide) ?_
                replace hf := mx_gd_el hf; obtain ⟨c115, hf⟩ := hf
                replace hf := mx_sv_el hf; obtain ⟨u116, e_u116, hf⟩ := hf
                refine sx_cv hm dX13_rule_154 rs_RX13_507 mt_X13_memberOf [.int v112, .int v114, .int 1] [.int a1, .ref v111] (b := a0) (ci := 13) rfl rfl rfl c115 (Nat.le_of_ble_eq_true rfl) (Nat.le_of_ble_eq_true rfl) (by omega) (by omega) (f_X13_memberOf_ok X (by omega) (by omega) nn a0 v112 v114 1 h e_u116) ?_
                clear e_u116
                show mx_S X F L 441 157 [(0, .ref a0), (1, .int a1)] [.int u116.1, .int a1, .ref v111] u116.2 0 0 (some (.int r.1), r.2, 0, 0)
                replace hf := mx_sv_el hf; obtain ⟨h117, e_h117, hf⟩ := hf
                refine sx_ast hm dX13_rule_157 e_h117 ?_
                clear e_h117
                refine mx_S.pu (pc2 := 159) (lv2 := [(0, .ref a0), (1, .int a1)]) (st2 := [.ref a0]) hm dX13_rule_158 rfl ?_
                replace hf := mx_sv_el hf; obtain ⟨v118, e_v118, hf⟩ := hf
                refine sx_get hm dX13_rule_159 rs_RX13_52 (xgr_el e_v118) ?_
                clear e_v118
                refine mx_S.pu (pc2 := 163) (lv2 := [(0, .ref a0), (1, .int a1)]) (st2 := [.int a1, .ref v118]) hm dX13_rule_162 rfl ?_
                replace hf := mx_sv_el hf; obtain ⟨v119, e_v119, hf⟩ := hf
                refine sx_ald hm dX13_rule_163 e_v119 ?_
                clear e_v119
                refine sx_ic (v := (-1)) hm dX13_rule_164 (by decide) ?_
                rcases mx_if_el hf with ⟨c135, hf⟩ | ⟨c135, hf⟩
                · refine sb_ic_ne hm dX13_rule_165 (tgt := 182) rfl (fun _ => ?_) (fun z => absurd c135 z)
                  refine mx_S.pu (pc2 := 183) (lv2 := [(0, .ref a0), (1, .int a1)]) (st2 := [.ref a0]) hm dX13_rule_182 rfl ?_
                  replace hf := mx_sv_el hf; obtain ⟨v120, e_v120, hf⟩ := hf
                  refine sx_get hm dX13_rule_183 rs_RX13_510 (xgi_el e_v120) ?_
                  clear e_v120
                  rcases mx_if_el hf with ⟨c130, hf⟩ | ⟨c130, hf⟩
                  · refine sb_if_eq hm dX13_rule_186 (tgt := 216) rfl (fun _ => ?_) (fun z => absurd c130 z)
                    exact j_X13_rule_216_ok X hF hL nn hrc a0 a1 h117 hf
                  · refine sb_if_eq hm dX13_rule_186 (tgt := 216) rfl (fun z => absurd z c130) (fun _ => ?_)
                    refine mx_S.pu (pc2 := 190) (lv2 := [(0, .ref a0), (1, .int a1)]) (st2 := [.ref a0]) hm dX13_rule_189 rfl ?_
                    replace hf := mx_sv_el hf; obtain ⟨v121, e_v121, hf⟩ := hf
                    refine sx_get hm dX13_rule_190 rs_RX13_74 (xgr_el e_v121) ?_
                    clear e_v121
                    refine mx_S.pu (pc2 := 194) (lv2 := [(0, .ref a0), (1, .int a1)]) (st2 := [.ref a0, .ref v121]) hm dX13_rule_193 rfl ?_
                    replace hf := mx_sv_el hf; obtain ⟨v122, e_v122, hf⟩ := hf
                    refine sx_get hm dX13_rule_194 rs_RX13_52 (xgr_el e_v122) ?_
                    clear e_v122
                    refine mx_S.pu (pc2 := 198) (lv2 := [(0, .ref a0), (1, .int a1)]) (st2 := [.int a1, .ref v122, .ref v121]) hm dX13_rule_197 rfl ?_
                    replace hf := mx_sv_el hf; obtain ⟨v123, e_v123, hf⟩ := hf
                    refine sx_ald hm dX13_rule_198 e_v123 ?_
                    clear e_v123
                    replace hf := mx_sv_el hf; obtain ⟨v124, e_v124, hf⟩ := hf
                    refine sx_ald hm dX13_rule_199 e_v124 ?_
                    clear e_v124
                    refine sx_ic (v := 1) hm dX13_rule_200 (by decide) ?_
                    rcases mx_if_el hf with ⟨c129, hf⟩ | ⟨c129, hf⟩
                    · refine sb_ic_ne hm dX13_rule_201 (tgt := 216) rfl (fun _ => ?_) (fun z => absurd c129 z)
                      exact j_X13_rule_216_ok X hF hL nn hrc a0 a1 h117 hf
                    · refine sb_ic_ne hm dX13_rule_201 (tgt := 216) rfl (fun z => absurd z c129) (fun _ => ?_)
                      refine mx_S.pu (pc2 := 205) (lv2 := [(0, .ref a0), (1, .int a1)]) (st2 := [.ref a0]) hm dX13_rule_204 rfl ?_
                      refine sx_bi (v := 7) hm dX13_rule_205 (by decide) ?_
                      refine mx_S.pu (pc2 := 208) (lv2 := [(0, .ref a0), (1, .int a1)]) (st2 := [.ref a0, .int 7, .ref a0]) hm dX13_rule_207 rfl ?_
                      replace hf := mx_sv_el hf; obtain ⟨v125, e_v125, hf⟩ := hf
                      refine sx_get hm dX13_rule_208 rs_RX13_31 (xgr_el e_v125) ?_
                      clear e_v125
                      refine mx_S.pu (pc2 := 212) (lv2 := [(0, .ref a0), (1, .int a1)]) (st2 := [.int a1, .ref v125, .int 7, .ref a0]) hm dX13_rule_211 rfl ?_
                      replace hf := mx_sv_el hf; obtain ⟨v126, e_v126, hf⟩ := hf
                      refine sx_ald hm dX13_rule_212 e_v126 ?_
                      clear e_v126
                      replace hf := mx_gd_el hf; obtain ⟨c127, hf⟩ := hf
                      replace hf := mx_sv_el hf; obtain ⟨u128, e_u128, hf⟩ := hf
                      refine sx_cv hm dX13_rule_213 rs_RX13_379 mt_X13_wrong [.int 7, .int v126] [] (b := a0) (ci := 13) rfl rfl rfl c127 (Nat.le_of_ble_eq_true rfl) (Nat.le_of_ble_eq_true rfl) (by omega) (by omega) (f_X13_wrong_ok X (by omega) (by omega) nn a0 7 v126 h117 e_u128) ?_
                      clear e_u128
                      show mx_S X F L 441 216 [(0, .ref a0), (1, .int a1)] [] u128 0 0 (some (.int r.1), r.2, 0, 0)
                      exact j_X13_rule_216_ok X hF hL nn hrc a0 a1 u128 hf
                · refine sb_ic_ne hm dX13_rule_165 (tgt := 182) rfl (fun z => absurd z c135) (fun _ => ?_)
                  refine mx_S.pu (pc2 := 169) (lv2 := [(0, .ref a0), (1, .int a1)]) (st2 := [.ref a0]) hm dX13_rule_168 rfl ?_
                  refine sx_ic (v := 5) hm dX13_rule_169 (by decide) ?_
                  refine mx_S.pu (pc2 := 171) (lv2 := [(0, .ref a0), (1, .int a1)]) (st2 := [.ref a0, .int 5, .ref a0]) hm dX13_rule_170 rfl ?_
                  replace hf := mx_sv_el hf; obtain ⟨v131, e_v131, hf⟩ := hf
                  refine sx_get hm dX13_rule_171 rs_RX13_31 (xgr_el e_v131) ?_
                  clear e_v131
                  refine mx_S.pu (pc2 := 175) (lv2 := [(0, .ref a0), (1, .int a1)]) (st2 := [.int a1, .ref v131, .int 5, .ref a0]) hm dX13_rule_174 rfl ?_
                  replace hf := mx_sv_el hf; obtain ⟨v132, e_v132, hf⟩ := hf
                  refine sx_ald hm dX13_rule_175 e_v132 ?_
                  clear e_v132
                  replace hf := mx_gd_el hf; obtain ⟨c133, hf⟩ := hf
                  replace hf := mx_sv_el hf; obtain ⟨u134, e_u134, hf⟩ := hf
                  refine sx_cv hm dX13_rule_176 rs_RX13_379 mt_X13_wrong [.int 5, .int v132] [] (b := a0) (ci := 13) rfl rfl rfl c133 (Nat.le_of_ble_eq_true rfl) (Nat.le_of_ble_eq_true rfl) (by omega) (by omega) (f_X13_wrong_ok X (by omega) (by omega) nn a0 5 v132 h117 e_u134) ?_
                  clear e_u134
                  show mx_S X F L 441 179 [(0, .ref a0), (1, .int a1)] [] u134 0 0 (some (.int r.1), r.2, 0, 0)
                  refine mx_S.pu (pc2 := 216) (lv2 := [(0, .ref a0), (1, .int a1)]) (st2 := []) hm dX13_rule_179 rfl ?_
                  exact j_X13_rule_216_ok X hF hL nn hrc a0 a1 u134 hf
              · rcases mx_if_el hf with ⟨n_7, hf⟩ | ⟨n_7, hf⟩
                · refine sx_tin hm dX13_rule_6 (by rw [n_7]; decide) (by rw [n_7]; decide) (off := 223) (by rw [n_7]; rfl) (tgt := 229) rfl ?_
                  clear n_0 n_1 n_2 n_3 n_4 n_5 n_6 n_7
                  refine mx_S.pu (pc2 := 230) (lv2 := [(0, .ref a0), (1, .int a1)]) (st2 := [.ref a0]) hm dX13_rule_229 rfl ?_
                  refine mx_S.pu (pc2 := 231) (lv2 := [(0, .ref a0), (1, .int a1)]) (st2 := [.ref a0, .ref a0]) hm dX13_rule_230 rfl ?_
                  replace hf := mx_sv_el hf; obtain ⟨v136, e_v136, hf⟩ := hf
                  refine sx_get hm dX13_rule_231 rs_RX13_31 (xgr_el e_v136) ?_
                  clear e_v136
                  refine mx_S.pu (pc2 := 235) (lv2 := [(0, .ref a0), (1, .int a1)]) (st2 := [.int a1, .ref v136, .ref a0]) hm dX13_rule_234 rfl ?_
                  replace hf := mx_sv_el hf; obtain ⟨v137, e_v137, hf⟩ := hf
                  refine sx_ald hm dX13_rule_235 e_v137 ?_
                  clear e_v137
                  replace hf := mx_gd_el hf; obtain ⟨c138, hf⟩ := hf
                  replace hf := mx_sv_el hf; obtain ⟨u139, e_u139, hf⟩ := hf
                  refine sx_cv hm dX13_rule_236 rs_RX13_494 mt_X13_classOf [.int v137] [] (b := a0) (ci := 13) rfl rfl rfl c138 (Nat.le_of_ble_eq_true rfl) (Nat.le_of_ble_eq_true rfl) (by omega) (by omega) (f_X13_classOf_ok X (by omega) (by omega) nn a0 v137 h e_u139) ?_
                  clear e_u139
                  show mx_S X F L 441 239 [(0, .ref a0), (1, .int a1)] [.int u139.1] u139.2 0 0 (some (.int r.1), r.2, 0, 0)
                  refine mx_S.pu (pc2 := 240) (lv2 := [(2, .int u139.1), (0, .ref a0), (1, .int a1)]) (st2 := []) hm dX13_rule_239 rfl ?_
                  refine mx_S.pu (pc2 := 241) (lv2 := [(2, .int u139.1), (0, .ref a0), (1, .int a1)]) (st2 := [.int u139.1]) hm dX13_rule_240 rfl ?_
                  refine sx_ic (v := (-1)) hm dX13_rule_241 (by decide) ?_
                  rcases mx_if_el hf with ⟨c144, hf⟩ | ⟨c144, hf⟩
                  · refine sb_ic_ne hm dX13_rule_242 (tgt := 256) rfl (fun _ => ?_) (fun z => absurd c144 z)
                    refine mx_S.ext [(2, .int u139.1)] (mx_sub_pos [0] rfl (show ([2, 0, 1] : List Nat).Nodup by decide)) ?_
                    exact j_X13_rule_256_ok X hF hL nn hrc u139.1 u139.2 hf
                  · refine sb_ic_ne hm dX13_rule_242 (tgt := 256) rfl (fun z => absurd z c144) (fun _ => ?_)
                    refine mx_S.pu (pc2 := 246) (lv2 := [(2, .int u139.1), (0, .ref a0), (1, .int a1)]) (st2 := [.ref a0]) hm dX13_rule_245 rfl ?_
                    refine sx_ic (v := 5) hm dX13_rule_246 (by decide) ?_
                    refine mx_S.pu (pc2 := 248) (lv2 := [(2, .int u139.1), (0, .ref a0), (1, .int a1)]) (st2 := [.ref a0, .int 5, .ref a0]) hm dX13_rule_247 rfl ?_
                    replace hf := mx_sv_el hf; obtain ⟨v140, e_v140, hf⟩ := hf
                    refine sx_get hm dX13_rule_248 rs_RX13_31 (xgr_el e_v140) ?_
                    clear e_v140
                    refine mx_S.pu (pc2 := 252) (lv2 := [(2, .int u139.1), (0, .ref a0), (1, .int a1)]) (st2 := [.int a1, .ref v140, .int 5, .ref a0]) hm dX13_rule_251 rfl ?_
                    replace hf := mx_sv_el hf; obtain ⟨v141, e_v141, hf⟩ := hf
                    refine sx_ald hm dX13_rule_252 e_v141 ?_
                    clear e_v141
                    replace hf := mx_gd_el hf; obtain ⟨c142, hf⟩ := hf
                    replace hf := mx_sv_el hf; obtain ⟨u143, e_u143, hf⟩ := hf
                    refine sx_cv hm dX13_rule_253 rs_RX13_379 mt_X13_wrong [.int 5, .int v141] [] (b := a0) (ci := 13) rfl rfl rfl c142 (Nat.le_of_ble_eq_true rfl) (Nat.le_of_ble_eq_true rfl) (by omega) (by omega) (f_X13_wrong_ok X (by omega) (by omega) nn a0 5 v141 u139.2 e_u143) ?_
                    clear e_u143
                    show mx_S X F L 441 256 [(2, .int u139.1), (0, .ref a0), (1, .int a1)] [] u143 0 0 (some (.int r.1), r.2, 0, 0)
                    refine mx_S.ext [(2, .int u139.1)] (mx_sub_pos [0] rfl (show ([2, 0, 1] : List Nat).Nodup by decide)) ?_
                    exact j_X13_rule_256_ok X hF hL nn hrc u139.1 u143 hf
                · rcases mx_if_el hf with ⟨n_8, hf⟩ | ⟨n_8, hf⟩
                  · refine sx_tin hm dX13_rule_6 (by rw [n_8]; decide) (by rw [n_8]; decide) (off := 257) (by rw [n_8]; rfl) (tgt := 263) rfl ?_
                    clear n_0 n_1 n_2 n_3 n_4 n_5 n_6 n_7 n_8
                    refine mx_S.pu (pc2 := 264) (lv2 := [(0, .ref a0), (1, .int a1)]) (st2 := [.ref a0]) hm dX13_rule_263 rfl ?_
                    refine mx_S.pu (pc2 := 265) (lv2 := [(0, .ref a0), (1, .int a1)]) (st2 := [.ref a0, .ref a0]) hm dX13_rule_264 rfl ?_
                    replace hf := mx_sv_el hf; obtain ⟨v145, e_v145, hf⟩ := hf
                    refine sx_get hm dX13_rule_265 rs_RX13_37 (xgr_el e_v145) ?_
                    clear e_v145
                    refine mx_S.pu (pc2 := 269) (lv2 := [(0, .ref a0), (1, .int a1)]) (st2 := [.int a1, .ref v145, .ref a0]) hm dX13_rule_268 rfl ?_
                    replace hf := mx_sv_el hf; obtain ⟨v146, e_v146, hf⟩ := hf
                    refine sx_ald hm dX13_rule_269 e_v146 ?_
                    clear e_v146
                    replace hf := mx_gd_el hf; obtain ⟨c147, hf⟩ := hf
                    replace hf := mx_sv_el hf; obtain ⟨u148, e_u148, hf⟩ := hf
                    refine sx_cv hm dX13_rule_270 rs_RX13_537 mt_X13_given [.int v146] [] (b := a0) (ci := 13) rfl rfl rfl c147 (Nat.le_of_ble_eq_true rfl) (Nat.le_of_ble_eq_true rfl) (by omega) (by omega) (hrc.2.1 (by omega) (by omega) a0 v146 h e_u148) ?_
                    clear e_u148
                    show mx_S X F L 441 273 [(0, .ref a0), (1, .int a1)] [.int u148.1] u148.2 0 0 (some (.int r.1), r.2, 0, 0)
                    rcases mx_if_el hf with ⟨c153, hf⟩ | ⟨c153, hf⟩
                    · refine sb_if_eq hm dX13_rule_273 (tgt := 288) rfl (fun _ => ?_) (fun z => absurd c153 z)
                      refine sx_ic (v := 4) hm dX13_rule_288 (by decide) ?_
                      cases hf
                      exact sx_ire hm dX13_rule_289 rfl rfl
                    · refine sb_if_eq hm dX13_rule_273 (tgt := 288) rfl (fun z => absurd z c153) (fun _ => ?_)
                      refine mx_S.pu (pc2 := 277) (lv2 := [(0, .ref a0), (1, .int a1)]) (st2 := [.ref a0]) hm dX13_rule_276 rfl ?_
                      refine sx_bi (v := 6) hm dX13_rule_277 (by decide) ?_
                      refine mx_S.pu (pc2 := 280) (lv2 := [(0, .ref a0), (1, .int a1)]) (st2 := [.ref a0, .int 6, .ref a0]) hm dX13_rule_279 rfl ?_
                      replace hf := mx_sv_el hf; obtain ⟨v149, e_v149, hf⟩ := hf
                      refine sx_get hm dX13_rule_280 rs_RX13_31 (xgr_el e_v149) ?_
                      clear e_v149
                      refine mx_S.pu (pc2 := 284) (lv2 := [(0, .ref a0), (1, .int a1)]) (st2 := [.int a1, .ref v149, .int 6, .ref a0]) hm dX13_rule_283 rfl ?_
                      replace hf := mx_sv_el hf; obtain ⟨v150, e_v150, hf⟩ := hf
                      refine sx_ald hm dX13_rule_284 e_v150 ?_
                      clear e_v150
                      replace hf := mx_gd_el hf; obtain ⟨c151, hf⟩ := hf
                      replace hf := mx_sv_el hf; obtain ⟨u152, e_u152, hf⟩ := hf
                      refine sx_cv hm dX13_rule_285 rs_RX13_379 mt_X13_wrong [.int 6, .int v150] [] (b := a0) (ci := 13) rfl rfl rfl c151 (Nat.le_of_ble_eq_true rfl) (Nat.le_of_ble_eq_true rfl) (by omega) (by omega) (f_X13_wrong_ok X (by omega) (by omega) nn a0 6 v150 u148.2 e_u152) ?_
                      clear e_u152
                      show mx_S X F L 441 288 [(0, .ref a0), (1, .int a1)] [] u152 0 0 (some (.int r.1), r.2, 0, 0)
                      refine sx_ic (v := 4) hm dX13_rule_288 (by decide) ?_
                      cases hf
                      exact sx_ire hm dX13_rule_289 rfl rfl
                  · rcases mx_if_el hf with ⟨n_9, hf⟩ | ⟨n_9, hf⟩
                    · refine sx_tin hm dX13_rule_6 (by rw [n_9]; decide) (by rw [n_9]; decide) (off := 284) (by rw [n_9]; rfl) (tgt := 290) rfl ?_
                      clear n_0 n_1 n_2 n_3 n_4 n_5 n_6 n_7 n_8 n_9
                      refine mx_S.pu (pc2 := 291) (lv2 := [(0, .ref a0), (1, .int a1)]) (st2 := [.ref a0]) hm dX13_rule_290 rfl ?_
                      refine mx_S.pu (pc2 := 292) (lv2 := [(0, .ref a0), (1, .int a1)]) (st2 := [.ref a0, .ref a0]) hm dX13_rule_291 rfl ?_
                      replace hf := mx_sv_el hf; obtain ⟨v154, e_v154, hf⟩ := hf
                      refine sx_get hm dX13_rule_292 rs_RX13_31 (xgr_el e_v154) ?_
                      clear e_v154
                      refine mx_S.pu (pc2 := 296) (lv2 := [(0, .ref a0), (1, .int a1)]) (st2 := [.int a1, .ref v154, .ref a0]) hm dX13_rule_295 rfl ?_
                      replace hf := mx_sv_el hf; obtain ⟨v155, e_v155, hf⟩ := hf
                      refine sx_ald hm dX13_rule_296 e_v155 ?_
                      clear e_v155
                      replace hf := mx_gd_el hf; obtain ⟨c156, hf⟩ := hf
                      replace hf := mx_sv_el hf; obtain ⟨u157, e_u157, hf⟩ := hf
                      refine sx_cv hm dX13_rule_297 rs_RX13_494 mt_X13_classOf [.int v155] [] (b := a0) (ci := 13) rfl rfl rfl c156 (Nat.le_of_ble_eq_true rfl) (Nat.le_of_ble_eq_true rfl) (by omega) (by omega) (f_X13_classOf_ok X (by omega) (by omega) nn a0 v155 h e_u157) ?_
                      clear e_u157
                      show mx_S X F L 441 300 [(0, .ref a0), (1, .int a1)] [.int u157.1] u157.2 0 0 (some (.int r.1), r.2, 0, 0)
                      refine mx_S.pu (pc2 := 301) (lv2 := [(2, .int u157.1), (0, .ref a0), (1, .int a1)]) (st2 := []) hm dX13_rule_300 rfl ?_
                      refine mx_S.pu (pc2 := 302) (lv2 := [(2, .int u157.1), (0, .ref a0), (1, .int a1)]) (st2 := [.int u157.1]) hm dX13_rule_301 rfl ?_
                      refine sx_ic (v := (-1)) hm dX13_rule_302 (by decide) ?_
                      rcases mx_if_el hf with ⟨c162, hf⟩ | ⟨c162, hf⟩
                      · refine sb_ic_ne hm dX13_rule_303 (tgt := 317) rfl (fun _ => ?_) (fun z => absurd c162 z)
                        refine mx_S.ext [(0, .ref a0), (1, .int a1), (2, .int u157.1)] (mx_sub_pos [1, 2, 0] rfl (show ([2, 0, 1] : List Nat).Nodup by decide)) ?_
                        exact j_X13_rule_317_ok X hF hL nn hrc a0 a1 u157.1 u157.2 hf
                      · refine sb_ic_ne hm dX13_rule_303 (tgt := 317) rfl (fun z => absurd z c162) (fun _ => ?_)
                        refine mx_S.pu (pc2 := 307) (lv2 := [(2, .int u157.1), (0, .ref a0), (1, .int a1)]) (st2 := [.ref a0]) hm dX13_rule_306 rfl ?_
                        refine sx_ic (v := 5) hm dX13_rule_307 (by decide) ?_
                        refine mx_S.pu (pc2 := 309) (lv2 := [(2, .int u157.1), (0, .ref a0), (1, .int a1)]) (st2 := [.ref a0, .int 5, .ref a0]) hm dX13_rule_308 rfl ?_
                        replace hf := mx_sv_el hf; obtain ⟨v158, e_v158, hf⟩ := hf
                        refine sx_get hm dX13_rule_309 rs_RX13_31 (xgr_el e_v158) ?_
                        clear e_v158
                        refine mx_S.pu (pc2 := 313) (lv2 := [(2, .int u157.1), (0, .ref a0), (1, .int a1)]) (st2 := [.int a1, .ref v158, .int 5, .ref a0]) hm dX13_rule_312 rfl ?_
                        replace hf := mx_sv_el hf; obtain ⟨v159, e_v159, hf⟩ := hf
                        refine sx_ald hm dX13_rule_313 e_v159 ?_
                        clear e_v159
                        replace hf := mx_gd_el hf; obtain ⟨c160, hf⟩ := hf
                        replace hf := mx_sv_el hf; obtain ⟨u161, e_u161, hf⟩ := hf
                        refine sx_cv hm dX13_rule_314 rs_RX13_379 mt_X13_wrong [.int 5, .int v159] [] (b := a0) (ci := 13) rfl rfl rfl c160 (Nat.le_of_ble_eq_true rfl) (Nat.le_of_ble_eq_true rfl) (by omega) (by omega) (f_X13_wrong_ok X (by omega) (by omega) nn a0 5 v159 u157.2 e_u161) ?_
                        clear e_u161
                        show mx_S X F L 441 317 [(2, .int u157.1), (0, .ref a0), (1, .int a1)] [] u161 0 0 (some (.int r.1), r.2, 0, 0)
                        refine mx_S.ext [(0, .ref a0), (1, .int a1), (2, .int u157.1)] (mx_sub_pos [1, 2, 0] rfl (show ([2, 0, 1] : List Nat).Nodup by decide)) ?_
                        exact j_X13_rule_317_ok X hF hL nn hrc a0 a1 u157.1 u161 hf
                    · rcases mx_if_el hf with ⟨n_10, hf⟩ | ⟨n_10, hf⟩
                      · refine sx_tin hm dX13_rule_6 (by rw [n_10]; decide) (by rw [n_10]; decide) (off := 345) (by rw [n_10]; rfl) (tgt := 351) rfl ?_
                        clear n_0 n_1 n_2 n_3 n_4 n_5 n_6 n_7 n_8 n_9 n_10
                        refine mx_S.pu (pc2 := 352) (lv2 := [(0, .ref a0), (1, .int a1)]) (st2 := [.ref a0]) hm dX13_rule_351 rfl ?_
                        refine mx_S.pu (pc2 := 353) (lv2 := [(0, .ref a0), (1, .int a1)]) (st2 := [.int a1, .ref a0]) hm dX13_rule_352 rfl ?_
                        replace hf := mx_gd_el hf; obtain ⟨c163, hf⟩ := hf
                        replace hf := mx_sv_el hf; obtain ⟨u164, e_u164, hf⟩ := hf
                        refine sx_cv hm dX13_rule_353 rs_RX13_567 mt_X13_field [.int a1] [] (b := a0) (ci := 13) rfl rfl rfl c163 (Nat.le_of_ble_eq_true rfl) (Nat.le_of_ble_eq_true rfl) (by omega) (by omega) (f_X13_field_ok X (by omega) (by omega) nn a0 a1 h e_u164) ?_
                        clear e_u164
                        show mx_S X F L 441 356 [(0, .ref a0), (1, .int a1)] [.int u164.1] u164.2 0 0 (some (.int r.1), r.2, 0, 0)
                        cases hf
                        exact sx_ire hm dX13_rule_356 rfl rfl
                      · rcases mx_if_el hf with ⟨n_11, hf⟩ | ⟨n_11, hf⟩
                        · refine sx_tin hm dX13_rule_6 (by rw [n_11]; decide) (by rw [n_11]; decide) (off := 351) (by rw [n_11]; rfl) (tgt := 357) rfl ?_
                          clear n_0 n_1 n_2 n_3 n_4 n_5 n_6 n_7 n_8 n_9 n_10 n_11
                          refine mx_S.pu (pc2 := 358) (lv2 := [(0, .ref a0), (1, .int a1)]) (st2 := [.ref a0]) hm dX13_rule_357 rfl ?_
                          refine mx_S.pu (pc2 := 359) (lv2 := [(0, .ref a0), (1, .int a1)]) (st2 := [.int a1, .ref a0]) hm dX13_rule_358 rfl ?_
                          replace hf := mx_gd_el hf; obtain ⟨c165, hf⟩ := hf
                          replace hf := mx_sv_el hf; obtain ⟨u166, e_u166, hf⟩ := hf
                          refine sx_cv hm dX13_rule_359 rs_RX13_570 mt_X13_invoked [.int a1] [] (b := a0) (ci := 13) rfl rfl rfl c165 (Nat.le_of_ble_eq_true rfl) (Nat.le_of_ble_eq_true rfl) (by omega) (by omega) (hrc.2.2.2.2.2.1 (by omega) (by omega) a0 a1 h e_u166) ?_
                          clear e_u166
                          show mx_S X F L 441 362 [(0, .ref a0), (1, .int a1)] [.int u166.1] u166.2 0 0 (some (.int r.1), r.2, 0, 0)
                          cases hf
                          exact sx_ire hm dX13_rule_362 rfl rfl
                        · rcases mx_if_el hf with ⟨n_12, hf⟩ | ⟨n_12, hf⟩
                          · refine sx_tin hm dX13_rule_6 (by rw [n_12]; decide) (by rw [n_12]; decide) (off := 357) (by rw [n_12]; rfl) (tgt := 363) rfl ?_
                            clear n_0 n_1 n_2 n_3 n_4 n_5 n_6 n_7 n_8 n_9 n_10 n_11 n_12
                            refine mx_S.pu (pc2 := 364) (lv2 := [(0, .ref a0), (1, .int a1)]) (st2 := [.ref a0]) hm dX13_rule_363 rfl ?_
                            refine mx_S.pu (pc2 := 365) (lv2 := [(0, .ref a0), (1, .int a1)]) (st2 := [.int a1, .ref a0]) hm dX13_rule_364 rfl ?_
                            replace hf := mx_gd_el hf; obtain ⟨c167, hf⟩ := hf
                            replace hf := mx_sv_el hf; obtain ⟨u168, e_u168, hf⟩ := hf
                            refine sx_cv hm dX13_rule_365 rs_RX13_573 mt_X13_led [.int a1] [] (b := a0) (ci := 13) rfl rfl rfl c167 (Nat.le_of_ble_eq_true rfl) (Nat.le_of_ble_eq_true rfl) (by omega) (by omega) (f_X13_led_ok X (by omega) (by omega) nn a0 a1 h e_u168) ?_
                            clear e_u168
                            show mx_S X F L 441 368 [(0, .ref a0), (1, .int a1)] [.int u168.1] u168.2 0 0 (some (.int r.1), r.2, 0, 0)
                            refine mx_S.pu (pc2 := 369) (lv2 := [(2, .int u168.1), (0, .ref a0), (1, .int a1)]) (st2 := []) hm dX13_rule_368 rfl ?_
                            refine mx_S.pu (pc2 := 370) (lv2 := [(2, .int u168.1), (0, .ref a0), (1, .int a1)]) (st2 := [.ref a0]) hm dX13_rule_369 rfl ?_
                            refine mx_S.pu (pc2 := 371) (lv2 := [(2, .int u168.1), (0, .ref a0), (1, .int a1)]) (st2 := [.ref a0, .ref a0]) hm dX13_rule_370 rfl ?_
                            replace hf := mx_sv_el hf; obtain ⟨v169, e_v169, hf⟩ := hf
                            refine sx_get hm dX13_rule_371 rs_RX13_40 (xgr_el e_v169) ?_
                            clear e_v169
                            refine mx_S.pu (pc2 := 375) (lv2 := [(2, .int u168.1), (0, .ref a0), (1, .int a1)]) (st2 := [.int a1, .ref v169, .ref a0]) hm dX13_rule_374 rfl ?_
                            replace hf := mx_sv_el hf; obtain ⟨v170, e_v170, hf⟩ := hf
                            refine sx_ald hm dX13_rule_375 e_v170 ?_
                            clear e_v170
                            replace hf := mx_gd_el hf; obtain ⟨c171, hf⟩ := hf
                            replace hf := mx_sv_el hf; obtain ⟨u172, e_u172, hf⟩ := hf
                            refine sx_cv hm dX13_rule_376 rs_RX13_537 mt_X13_given [.int v170] [] (b := a0) (ci := 13) rfl rfl rfl c171 (Nat.le_of_ble_eq_true rfl) (Nat.le_of_ble_eq_true rfl) (by omega) (by omega) (hrc.2.1 (by omega) (by omega) a0 v170 u168.2 e_u172) ?_
                            clear e_u172
                            show mx_S X F L 441 379 [(2, .int u168.1), (0, .ref a0), (1, .int a1)] [.int u172.1] u172.2 0 0 (some (.int r.1), r.2, 0, 0)
                            refine mx_S.pu (pc2 := 380) (lv2 := [(3, .int u172.1), (2, .int u168.1), (0, .ref a0), (1, .int a1)]) (st2 := []) hm dX13_rule_379 rfl ?_
                            refine mx_S.pu (pc2 := 381) (lv2 := [(3, .int u172.1), (2, .int u168.1), (0, .ref a0), (1, .int a1)]) (st2 := [.int u168.1]) hm dX13_rule_380 rfl ?_
                            replace hf := mx_sv_el hf; obtain ⟨u173, e_u173, hf⟩ := hf
                            refine sx_cs hm dX13_rule_381 rs_RX13_485 mt_X13_isArray [.int u168.1] [] rfl rfl (Nat.le_of_ble_eq_true rfl) (Nat.le_of_ble_eq_true rfl) (by omega) (by omega) (f_X13_isArray_ok X (by omega) (by omega) nn u168.1 u172.2 e_u173) ?_
                            clear e_u173
                            show mx_S X F L 441 384 [(3, .int u172.1), (2, .int u168.1), (0, .ref a0), (1, .int a1)] [.int u173.1] u173.2 0 0 (some (.int r.1), r.2, 0, 0)
                            rcases mx_if_el hf with ⟨c175, hf⟩ | ⟨c175, hf⟩
                            · refine sb_if_eq hm dX13_rule_384 (tgt := 391) rfl (fun _ => ?_) (fun z => absurd c175 z)
                              refine mx_S.ext [(0, .ref a0), (1, .int a1), (2, .int u168.1)] (mx_sub_pos [2, 3, 1] rfl (show ([3, 2, 0, 1] : List Nat).Nodup by decide)) ?_
                              exact j_X13_rule_391_ok X hF hL nn hrc a0 a1 u168.1 u173.2 hf
                            · refine sb_if_eq hm dX13_rule_384 (tgt := 391) rfl (fun z => absurd z c175) (fun _ => ?_)
                              refine mx_S.pu (pc2 := 388) (lv2 := [(3, .int u172.1), (2, .int u168.1), (0, .ref a0), (1, .int a1)]) (st2 := [.int u172.1]) hm dX13_rule_387 rfl ?_
                              rcases mx_if_el hf with ⟨c174, hf⟩ | ⟨c174, hf⟩
                              · refine sb_if_eq hm dX13_rule_388 (tgt := 403) rfl (fun _ => ?_) (fun z => absurd c174 z)
                                refine mx_S.ext [(2, .int u168.1)] (mx_sub_pos [1] rfl (show ([3, 2, 0, 1] : List Nat).Nodup by decide)) ?_
                                exact j_X13_rule_403_ok X hF hL nn hrc u168.1 u173.2 hf
                              · refine sb_if_eq hm dX13_rule_388 (tgt := 403) rfl (fun z => absurd z c174) (fun _ => ?_)
                                refine mx_S.ext [(0, .ref a0), (1, .int a1), (2, .int u168.1)] (mx_sub_pos [2, 3, 1] rfl (show ([3, 2, 0, 1] : List Nat).Nodup by decide)) ?_
                                exact j_X13_rule_391_ok X hF hL nn hrc a0 a1 u168.1 u173.2 hf
                          · rcases mx_if_el hf with ⟨n_13, hf⟩ | ⟨n_13, hf⟩
                            · refine sx_tin hm dX13_rule_6 (by rw [n_13]; decide) (by rw [n_13]; decide) (off := 410) (by rw [n_13]; rfl) (tgt := 416) rfl ?_
                              clear n_0 n_1 n_2 n_3 n_4 n_5 n_6 n_7 n_8 n_9 n_10 n_11 n_12 n_13
                              exact j_X13_rule_416_ok X hF hL nn hrc a0 a1 h hf
                            · rcases mx_if_el hf with ⟨n_14, hf⟩ | ⟨n_14, hf⟩
                              · refine sx_tin hm dX13_rule_6 (by rw [n_14]; decide) (by rw [n_14]; decide) (off := 437) (by rw [n_14]; rfl) (tgt := 443) rfl ?_
                                clear n_0 n_1 n_2 n_3 n_4 n_5 n_6 n_7 n_8 n_9 n_10 n_11 n_12 n_13 n_14
                                refine mx_S.pu (pc2 := 444) (lv2 := [(0, .ref a0), (1, .int a1)]) (st2 := [.ref a0]) hm dX13_rule_443 rfl ?_
                                refine mx_S.pu (pc2 := 445) (lv2 := [(0, .ref a0), (1, .int a1)]) (st2 := [.ref a0, .ref a0]) hm dX13_rule_444 rfl ?_
                                replace hf := mx_sv_el hf; obtain ⟨v176, e_v176, hf⟩ := hf
                                refine sx_get hm dX13_rule_445 rs_RX13_37 (xgr_el e_v176) ?_
                                clear e_v176
                                refine mx_S.pu (pc2 := 449) (lv2 := [(0, .ref a0), (1, .int a1)]) (st2 := [.int a1, .ref v176, .ref a0]) hm dX13_rule_448 rfl ?_
                                replace hf := mx_sv_el hf; obtain ⟨v177, e_v177, hf⟩ := hf
                                refine sx_ald hm dX13_rule_449 e_v177 ?_
                                clear e_v177
                                replace hf := mx_gd_el hf; obtain ⟨c178, hf⟩ := hf
                                replace hf := mx_sv_el hf; obtain ⟨u179, e_u179, hf⟩ := hf
                                refine sx_cv hm dX13_rule_450 rs_RX13_540 mt_X13_condition [.int v177] [] (b := a0) (ci := 13) rfl rfl rfl c178 (Nat.le_of_ble_eq_true rfl) (Nat.le_of_ble_eq_true rfl) (by omega) (by omega) (hrc.1 (by omega) (by omega) a0 v177 h e_u179) ?_
                                clear e_u179
                                show mx_S X F L 441 453 [(0, .ref a0), (1, .int a1)] [] u179 0 0 (some (.int r.1), r.2, 0, 0)
                                refine sx_ic (v := 1) hm dX13_rule_453 (by decide) ?_
                                cases hf
                                exact sx_ire hm dX13_rule_454 rfl rfl
                              · rcases mx_if_el hf with ⟨n_15, hf⟩ | ⟨n_15, hf⟩
                                · refine sx_tin hm dX13_rule_6 (by rw [n_15]; decide) (by rw [n_15]; decide) (off := 410) (by rw [n_15]; rfl) (tgt := 416) rfl ?_
                                  clear n_0 n_1 n_2 n_3 n_4 n_5 n_6 n_7 n_8 n_9 n_10 n_11 n_12 n_13 n_14 n_15
                                  exact j_X13_rule_416_ok X hF hL nn hrc a0 a1 h hf
                                · rcases mx_if_el hf with ⟨n_16, hf⟩ | ⟨n_16, hf⟩
                                  · refine sx_tin hm dX13_rule_6 (by rw [n_16]; decide) (by rw [n_16]; decide) (off := 449) (by rw [n_16]; rfl) (tgt := 455) rfl ?_
                                    clear n_0 n_1 n_2 n_3 n_4 n_5 n_6 n_7 n_8 n_9 n_10 n_11 n_12 n_13 n_14 n_15 n_16
                                    exact j_X13_rule_455_ok X hF hL nn hrc a0 a1 h hf
                                  · rcases mx_if_el hf with ⟨n_17, hf⟩ | ⟨n_17, hf⟩
                                    · refine sx_tin hm dX13_rule_6 (by rw [n_17]; decide) (by rw [n_17]; decide) (off := 592) (by rw [n_17]; rfl) (tgt := 598) rfl ?_
                                      clear n_0 n_1 n_2 n_3 n_4 n_5 n_6 n_7 n_8 n_9 n_10 n_11 n_12 n_13 n_14 n_15 n_16 n_17
                                      refine mx_S.pu (pc2 := 599) (lv2 := [(0, .ref a0), (1, .int a1)]) (st2 := [.ref a0]) hm dX13_rule_598 rfl ?_
                                      refine mx_S.pu (pc2 := 600) (lv2 := [(0, .ref a0), (1, .int a1)]) (st2 := [.int a1, .ref a0]) hm dX13_rule_599 rfl ?_
                                      replace hf := mx_gd_el hf; obtain ⟨c180, hf⟩ := hf
                                      replace hf := mx_sv_el hf; obtain ⟨u181, e_u181, hf⟩ := hf
                                      refine sx_cv hm dX13_rule_600 rs_RX13_579 mt_X13_both [.int a1] [] (b := a0) (ci := 13) rfl rfl rfl c180 (Nat.le_of_ble_eq_true rfl) (Nat.le_of_ble_eq_true rfl) (by omega) (by omega) (hrc.2.2.2.2.1 (by omega) (by omega) a0 a1 h e_u181) ?_
                                      clear e_u181
                                      show mx_S X F L 441 603 [(0, .ref a0), (1, .int a1)] [.int u181.1] u181.2 0 0 (some (.int r.1), r.2, 0, 0)
                                      cases hf
                                      exact sx_ire hm dX13_rule_603 rfl rfl
                                    · rcases mx_if_el hf with ⟨n_18, hf⟩ | ⟨n_18, hf⟩
                                      · refine sx_tin hm dX13_rule_6 (by rw [n_18]; decide) (by rw [n_18]; decide) (off := 449) (by rw [n_18]; rfl) (tgt := 455) rfl ?_
                                        clear n_0 n_1 n_2 n_3 n_4 n_5 n_6 n_7 n_8 n_9 n_10 n_11 n_12 n_13 n_14 n_15 n_16 n_17 n_18
                                        exact j_X13_rule_455_ok X hF hL nn hrc a0 a1 h hf
                                      · rcases (show (v83.toInt < 20 ∨ 38 < v83.toInt) ∨ v83.toInt = 20 ∨ v83.toInt = 21 ∨ v83.toInt = 22 ∨ v83.toInt = 23 ∨ v83.toInt = 24 ∨ v83.toInt = 25 ∨ v83.toInt = 26 ∨ v83.toInt = 27 ∨ v83.toInt = 28 ∨ v83.toInt = 29 ∨ v83.toInt = 30 ∨ v83.toInt = 31 ∨ v83.toInt = 32 ∨ v83.toInt = 33 ∨ v83.toInt = 34 ∨ v83.toInt = 35 ∨ v83.toInt = 36 ∨ v83.toInt = 37 ∨ v83.toInt = 38 by omega) with z0 | z0 | z0 | z0 | z0 | z0 | z0 | z0 | z0 | z0 | z0 | z0 | z0 | z0 | z0 | z0 | z0 | z0 | z0 | z0
                                        · refine sx_tout hm dX13_rule_6 z0 (tgt := 604) rfl ?_
                                          refine mx_S.pu (pc2 := 605) (lv2 := [(0, .ref a0), (1, .int a1)]) (st2 := [.ref a0]) hm dX13_rule_604 rfl ?_
                                          refine mx_S.pu (pc2 := 606) (lv2 := [(0, .ref a0), (1, .int a1)]) (st2 := [.ref a0, .ref a0]) hm dX13_rule_605 rfl ?_
                                          replace hf := mx_sv_el hf; obtain ⟨v84, e_v84, hf⟩ := hf
                                          refine sx_get hm dX13_rule_606 rs_RX13_37 (xgr_el e_v84) ?_
                                          clear e_v84
                                          refine mx_S.pu (pc2 := 610) (lv2 := [(0, .ref a0), (1, .int a1)]) (st2 := [.int a1, .ref v84, .ref a0]) hm dX13_rule_609 rfl ?_
                                          replace hf := mx_sv_el hf; obtain ⟨v85, e_v85, hf⟩ := hf
                                          refine sx_ald hm dX13_rule_610 e_v85 ?_
                                          clear e_v85
                                          replace hf := mx_gd_el hf; obtain ⟨c86, hf⟩ := hf
                                          replace hf := mx_sv_el hf; obtain ⟨u87, e_u87, hf⟩ := hf
                                          refine sx_cv hm dX13_rule_611 rs_RX13_540 mt_X13_condition [.int v85] [] (b := a0) (ci := 13) rfl rfl rfl c86 (Nat.le_of_ble_eq_true rfl) (Nat.le_of_ble_eq_true rfl) (by omega) (by omega) (hrc.1 (by omega) (by omega) a0 v85 h e_u87) ?_
                                          clear e_u87
                                          show mx_S X F L 441 614 [(0, .ref a0), (1, .int a1)] [] u87 0 0 (some (.int r.1), r.2, 0, 0)
                                          refine mx_S.pu (pc2 := 615) (lv2 := [(0, .ref a0), (1, .int a1)]) (st2 := [.ref a0]) hm dX13_rule_614 rfl ?_
                                          refine mx_S.pu (pc2 := 616) (lv2 := [(0, .ref a0), (1, .int a1)]) (st2 := [.ref a0, .ref a0]) hm dX13_rule_615 rfl ?_
                                          replace hf := mx_sv_el hf; obtain ⟨v88, e_v88, hf⟩ := hf
                                          refine sx_get hm dX13_rule_616 rs_RX13_40 (xgr_el e_v88) ?_
                                          clear e_v88
                                          refine mx_S.pu (pc2 := 620) (lv2 := [(0, .ref a0), (1, .int a1)]) (st2 := [.int a1, .ref v88, .ref a0]) hm dX13_rule_619 rfl ?_
                                          replace hf := mx_sv_el hf; obtain ⟨v89, e_v89, hf⟩ := hf
                                          refine sx_ald hm dX13_rule_620 e_v89 ?_
                                          clear e_v89
                                          replace hf := mx_gd_el hf; obtain ⟨c90, hf⟩ := hf
                                          replace hf := mx_sv_el hf; obtain ⟨u91, e_u91, hf⟩ := hf
                                          refine sx_cv hm dX13_rule_621 rs_RX13_537 mt_X13_given [.int v89] [] (b := a0) (ci := 13) rfl rfl rfl c90 (Nat.le_of_ble_eq_true rfl) (Nat.le_of_ble_eq_true rfl) (by omega) (by omega) (hrc.2.1 (by omega) (by omega) a0 v89 u87 e_u91) ?_
                                          clear e_u91
                                          show mx_S X F L 441 624 [(0, .ref a0), (1, .int a1)] [.int u91.1] u91.2 0 0 (some (.int r.1), r.2, 0, 0)
                                          refine mx_S.pu (pc2 := 625) (lv2 := [(2, .int u91.1), (0, .ref a0), (1, .int a1)]) (st2 := []) hm dX13_rule_624 rfl ?_
                                          refine mx_S.pu (pc2 := 626) (lv2 := [(2, .int u91.1), (0, .ref a0), (1, .int a1)]) (st2 := [.ref a0]) hm dX13_rule_625 rfl ?_
                                          refine mx_S.pu (pc2 := 627) (lv2 := [(2, .int u91.1), (0, .ref a0), (1, .int a1)]) (st2 := [.ref a0, .ref a0]) hm dX13_rule_626 rfl ?_
                                          replace hf := mx_sv_el hf; obtain ⟨v92, e_v92, hf⟩ := hf
                                          refine sx_get hm dX13_rule_627 rs_RX13_43 (xgr_el e_v92) ?_
                                          clear e_v92
                                          refine mx_S.pu (pc2 := 631) (lv2 := [(2, .int u91.1), (0, .ref a0), (1, .int a1)]) (st2 := [.int a1, .ref v92, .ref a0]) hm dX13_rule_630 rfl ?_
                                          replace hf := mx_sv_el hf; obtain ⟨v93, e_v93, hf⟩ := hf
                                          refine sx_ald hm dX13_rule_631 e_v93 ?_
                                          clear e_v93
                                          replace hf := mx_gd_el hf; obtain ⟨c94, hf⟩ := hf
                                          replace hf := mx_sv_el hf; obtain ⟨u95, e_u95, hf⟩ := hf
                                          refine sx_cv hm dX13_rule_632 rs_RX13_537 mt_X13_given [.int v93] [] (b := a0) (ci := 13) rfl rfl rfl c94 (Nat.le_of_ble_eq_true rfl) (Nat.le_of_ble_eq_true rfl) (by omega) (by omega) (hrc.2.1 (by omega) (by omega) a0 v93 u91.2 e_u95) ?_
                                          clear e_u95
                                          show mx_S X F L 441 635 [(2, .int u91.1), (0, .ref a0), (1, .int a1)] [.int u95.1] u95.2 0 0 (some (.int r.1), r.2, 0, 0)
                                          refine mx_S.pu (pc2 := 636) (lv2 := [(3, .int u95.1), (2, .int u91.1), (0, .ref a0), (1, .int a1)]) (st2 := []) hm dX13_rule_635 rfl ?_
                                          refine mx_S.pu (pc2 := 637) (lv2 := [(3, .int u95.1), (2, .int u91.1), (0, .ref a0), (1, .int a1)]) (st2 := [.ref a0]) hm dX13_rule_636 rfl ?_
                                          refine mx_S.pu (pc2 := 638) (lv2 := [(3, .int u95.1), (2, .int u91.1), (0, .ref a0), (1, .int a1)]) (st2 := [.int u91.1, .ref a0]) hm dX13_rule_637 rfl ?_
                                          refine mx_S.pu (pc2 := 639) (lv2 := [(3, .int u95.1), (2, .int u91.1), (0, .ref a0), (1, .int a1)]) (st2 := [.int u95.1, .int u91.1, .ref a0]) hm dX13_rule_638 rfl ?_
                                          replace hf := mx_gd_el hf; obtain ⟨c96, hf⟩ := hf
                                          replace hf := mx_sv_el hf; obtain ⟨u97, e_u97, hf⟩ := hf
                                          refine sx_cv hm dX13_rule_639 rs_RX13_576 mt_X13_goTogether [.int u91.1, .int u95.1] [] (b := a0) (ci := 13) rfl rfl rfl c96 (Nat.le_of_ble_eq_true rfl) (Nat.le_of_ble_eq_true rfl) (by omega) (by omega) (f_X13_goTogether_ok X (by omega) (by omega) nn a0 u91.1 u95.1 u95.2 e_u97) ?_
                                          clear e_u97
                                          show mx_S X F L 441 642 [(3, .int u95.1), (2, .int u91.1), (0, .ref a0), (1, .int a1)] [.int u97.1] u97.2 0 0 (some (.int r.1), r.2, 0, 0)
                                          rcases mx_if_el hf with ⟨c102, hf⟩ | ⟨c102, hf⟩
                                          · refine sb_if_ne hm dX13_rule_642 (tgt := 657) rfl (fun _ => ?_) (fun z => absurd c102 z)
                                            refine mx_S.ext [(0, .ref a0), (2, .int u91.1), (3, .int u95.1)] (mx_sub_pos [2, 1, 0] rfl (show ([3, 2, 0, 1] : List Nat).Nodup by decide)) ?_
                                            exact j_X13_rule_657_ok X hF hL nn hrc a0 u91.1 u95.1 u97.2 hf
                                          · refine sb_if_ne hm dX13_rule_642 (tgt := 657) rfl (fun z => absurd z c102) (fun _ => ?_)
                                            refine mx_S.pu (pc2 := 646) (lv2 := [(3, .int u95.1), (2, .int u91.1), (0, .ref a0), (1, .int a1)]) (st2 := [.ref a0]) hm dX13_rule_645 rfl ?_
                                            refine sx_bi (v := 6) hm dX13_rule_646 (by decide) ?_
                                            refine mx_S.pu (pc2 := 649) (lv2 := [(3, .int u95.1), (2, .int u91.1), (0, .ref a0), (1, .int a1)]) (st2 := [.ref a0, .int 6, .ref a0]) hm dX13_rule_648 rfl ?_
                                            replace hf := mx_sv_el hf; obtain ⟨v98, e_v98, hf⟩ := hf
                                            refine sx_get hm dX13_rule_649 rs_RX13_31 (xgr_el e_v98) ?_
                                            clear e_v98
                                            refine mx_S.pu (pc2 := 653) (lv2 := [(3, .int u95.1), (2, .int u91.1), (0, .ref a0), (1, .int a1)]) (st2 := [.int a1, .ref v98, .int 6, .ref a0]) hm dX13_rule_652 rfl ?_
                                            replace hf := mx_sv_el hf; obtain ⟨v99, e_v99, hf⟩ := hf
                                            refine sx_ald hm dX13_rule_653 e_v99 ?_
                                            clear e_v99
                                            replace hf := mx_gd_el hf; obtain ⟨c100, hf⟩ := hf
                                            replace hf := mx_sv_el hf; obtain ⟨u101, e_u101, hf⟩ := hf
                                            refine sx_cv hm dX13_rule_654 rs_RX13_379 mt_X13_wrong [.int 6, .int v99] [] (b := a0) (ci := 13) rfl rfl rfl c100 (Nat.le_of_ble_eq_true rfl) (Nat.le_of_ble_eq_true rfl) (by omega) (by omega) (f_X13_wrong_ok X (by omega) (by omega) nn a0 6 v99 u97.2 e_u101) ?_
                                            clear e_u101
                                            show mx_S X F L 441 657 [(3, .int u95.1), (2, .int u91.1), (0, .ref a0), (1, .int a1)] [] u101 0 0 (some (.int r.1), r.2, 0, 0)
                                            refine mx_S.ext [(0, .ref a0), (2, .int u91.1), (3, .int u95.1)] (mx_sub_pos [2, 1, 0] rfl (show ([3, 2, 0, 1] : List Nat).Nodup by decide)) ?_
                                            exact j_X13_rule_657_ok X hF hL nn hrc a0 u91.1 u95.1 u101 hf
                                        · exact absurd (Int32.toInt_inj.mp (z0.trans (by decide : (20 : Int) = (20 : Int32).toInt))) n_0
                                        · exact absurd (Int32.toInt_inj.mp (z0.trans (by decide : (21 : Int) = (21 : Int32).toInt))) n_1
                                        · exact absurd (Int32.toInt_inj.mp (z0.trans (by decide : (22 : Int) = (22 : Int32).toInt))) n_2
                                        · exact absurd (Int32.toInt_inj.mp (z0.trans (by decide : (23 : Int) = (23 : Int32).toInt))) n_3
                                        · exact absurd (Int32.toInt_inj.mp (z0.trans (by decide : (24 : Int) = (24 : Int32).toInt))) n_4
                                        · exact absurd (Int32.toInt_inj.mp (z0.trans (by decide : (25 : Int) = (25 : Int32).toInt))) n_5
                                        · exact absurd (Int32.toInt_inj.mp (z0.trans (by decide : (26 : Int) = (26 : Int32).toInt))) n_6
                                        · exact absurd (Int32.toInt_inj.mp (z0.trans (by decide : (27 : Int) = (27 : Int32).toInt))) n_7
                                        · exact absurd (Int32.toInt_inj.mp (z0.trans (by decide : (28 : Int) = (28 : Int32).toInt))) n_8
                                        · exact absurd (Int32.toInt_inj.mp (z0.trans (by decide : (29 : Int) = (29 : Int32).toInt))) n_9
                                        · exact absurd (Int32.toInt_inj.mp (z0.trans (by decide : (30 : Int) = (30 : Int32).toInt))) n_10
                                        · exact absurd (Int32.toInt_inj.mp (z0.trans (by decide : (31 : Int) = (31 : Int32).toInt))) n_11
                                        · exact absurd (Int32.toInt_inj.mp (z0.trans (by decide : (32 : Int) = (32 : Int32).toInt))) n_12
                                        · exact absurd (Int32.toInt_inj.mp (z0.trans (by decide : (33 : Int) = (33 : Int32).toInt))) n_13
                                        · exact absurd (Int32.toInt_inj.mp (z0.trans (by decide : (34 : Int) = (34 : Int32).toInt))) n_14
                                        · exact absurd (Int32.toInt_inj.mp (z0.trans (by decide : (35 : Int) = (35 : Int32).toInt))) n_15
                                        · exact absurd (Int32.toInt_inj.mp (z0.trans (by decide : (36 : Int) = (36 : Int32).toInt))) n_16
                                        · exact absurd (Int32.toInt_inj.mp (z0.trans (by decide : (37 : Int) = (37 : Int32).toInt))) n_17
                                        · exact absurd (Int32.toInt_inj.mp (z0.trans (by decide : (38 : Int) = (38 : Int32).toInt))) n_18
