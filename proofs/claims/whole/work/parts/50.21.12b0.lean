def hg5_X8_readValue (X : Nat × (Nat → Int32)) (d : Nat) (rc : tg_X8_readValue) : Prop := (∀ {F L : Nat}, 2 + d ≤ F → 42 + d * 23 ≤ L → ∀ (a0 : Nat) (a1 : Int32) (h : mx_H) {r : mx_H}, rc.1 a0 a1 h = some r → mx_R X F L 234 [.ref a0, .int a1] h (none, r, 0, 0)) ∧ (∀ {F L : Nat}, 2 + d ≤ F → 42 + d * 23 ≤ L → ∀ (a0 : Nat) (a1 : Int32) (h : mx_H) {r : mx_H}, rc.2.1 a0 a1 h = some r → mx_R X F L 236 [.ref a0, .int a1] h (none, r, 0, 0)) ∧ (∀ {F L : Nat}, 2 + d ≤ F → 42 + d * 23 ≤ L → ∀ (a0 : Nat) (a1 : Int32) (h : mx_H) {r : mx_H}, rc.2.2.1 a0 a1 h = some r → mx_R X F L 237 [.ref a0, .int a1] h (none, r, 0, 0)) ∧ (∀ {F L : Nat}, 2 + d ≤ F → 42 + d * 23 ≤ L → ∀ (a0 : Nat) (a1 : Int32) (h : mx_H) {r : mx_H}, rc.2.2.2.1 a0 a1 h = some r → mx_R X F L 238 [.ref a0, .int a1] h (none, r, 0, 0)) ∧ (∀ {F L : Nat}, 2 + d ≤ F → 42 + d * 23 ≤ L → ∀ (a0 : Nat) (a1 : Int32) (h : mx_H) {r : mx_H}, rc.2.2.2.2.1 a0 a1 h = some r → mx_R X F L 239 [.ref a0, .int a1] h (none, r, 0, 0)) ∧ (∀ {F L : Nat}, 2 + d ≤ F → 42 + d * 23 ≤ L → ∀ (a0 : Nat) (a1 : Int32) (h : mx_H) {r : mx_H}, rc.2.2.2.2.2 a0 a1 h = some r → mx_R X F L 240 [.ref a0, .int a1] h (none, r, 0, 0))
set_option maxHeartbeats 4000000 in
set_option maxRecDepth 20000 in
theorem j_X8_readValue_88_ok (X : Nat × (Nat → Int32)) {F L d : Nat} (hF : 2 + (d + 1) ≤ F) (hL : 42 + (d + 1) * 23 ≤ L) (nn : Nat) {rc : tg_X8_readValue} (hrc : hg5_X8_readValue X d rc) (l0 : Nat) (l1 : Int32) (h : mx_H) {r : mx_H} (hf : j_X8_readValue_88 nn rc l0 l1 h = some r) : mx_S X F L 234 88 [(0, .ref l0), (1, .int l1)] [] h 0 0 (none, r, 0, 0) := by
  have hm : mx_mt 234 = some (yX8_readValue, cX8_readValue, 4, none) := mt_X8_readValue
  unfold j_X8_readValue_88 at hf
  refine mx_S.pu (pc2 := 89) (lv2 := [(0, .ref l0), (1, .int l1)]) (st2 := [.ref l0]) hm dX8_readValue_88 rfl ?_
  refine sx_bi (v := 49) hm dX8_readValue_89 (by decide) ?_
  replace hf := mx_gd_el hf; obtain ⟨c1, hf⟩ := hf
  replace hf := mx_sv_el hf; obtain ⟨u2, e_u2, hf⟩ := hf
  refine sx_cv hm dX8_readValue_91 rs_RX8_45 mt_X8_accept [.int 49] [] (b := l0) (ci := 8) rfl rfl rfl c1 (Nat.le_of_ble_eq_true rfl) (Nat.le_of_ble_eq_true rfl) (by omega) (by omega) (f_X8_accept_ok X (by omega) (by omega) nn l0 49 h e_u2) ?_
  clear e_u2
  show mx_S X F L 234 94 [(0, .ref l0), (1, .int l1)] [.int u2.1] u2.2 0 0 (none, r, 0, 0)
  rcases mx_if_el hf with ⟨c11, hf⟩ | ⟨c11, hf⟩
  · refine sb_if_eq hm dX8_readValue_94 (tgt := 117) rfl (fun _ => ?_) (fun z => absurd c11 z)
    cases hf
    exact sx_ret hm dX8_readValue_117 rfl
  · refine sb_if_eq hm dX8_readValue_94 (tgt := 117) rfl (fun z => absurd z c11) (fun _ => ?_)
    refine mx_S.pu (pc2 := 98) (lv2 := [(0, .ref l0), (1, .int l1)]) (st2 := [.ref l0]) hm dX8_readValue_97 rfl ?_
    refine mx_S.pu (pc2 := 99) (lv2 := [(0, .ref l0), (1, .int l1)]) (st2 := [.int l1, .ref l0]) hm dX8_readValue_98 rfl ?_
    refine sx_ic (v := 1) hm dX8_readValue_99 (by decide) ?_
    replace hf := xl_el hf; obtain ⟨v3, e_v3, hf⟩ := hf
    refine mx_S.pu (pc2 := 101) (lv2 := [(0, .ref l0), (1, .int l1)]) (st2 := [.int v3, .ref l0]) hm dX8_readValue_100 (by rw [← e_v3]; rfl) ?_
    clear e_v3
    replace hf := mx_gd_el hf; obtain ⟨c4, hf⟩ := hf
    replace hf := mx_sv_el hf; obtain ⟨u5, e_u5, hf⟩ := hf
    refine sx_cv hm dX8_readValue_101 rs_RX8_83 mt_X8_readValue [.int v3] [] (b := l0) (ci := 8) rfl rfl rfl c4 (Nat.le_of_ble_eq_true rfl) (Nat.le_of_ble_eq_true rfl) (by omega) (by omega) (hrc.1 (by omega) (by omega) l0 v3 u2.2 e_u5) ?_
    clear e_u5
    show mx_S X F L 234 104 [(0, .ref l0), (1, .int l1)] [] u5 0 0 (none, r, 0, 0)
    refine mx_S.pu (pc2 := 105) (lv2 := [(0, .ref l0), (1, .int l1)]) (st2 := [.ref l0]) hm dX8_readValue_104 rfl ?_
    refine sx_bi (v := 50) hm dX8_readValue_105 (by decide) ?_
    replace hf := mx_gd_el hf; obtain ⟨c6, hf⟩ := hf
    replace hf := mx_sv_el hf; obtain ⟨u7, e_u7, hf⟩ := hf
    refine sx_cv hm dX8_readValue_107 rs_RX8_37 mt_X8_need [.int 50] [] (b := l0) (ci := 8) rfl rfl rfl c6 (Nat.le_of_ble_eq_true rfl) (Nat.le_of_ble_eq_true rfl) (by omega) (by omega) (f_X8_need_ok X (by omega) (by omega) nn l0 50 u5 e_u7) ?_
    clear e_u7
    show mx_S X F L 234 110 [(0, .ref l0), (1, .int l1)] [] u7 0 0 (none, r, 0, 0)
    refine mx_S.pu (pc2 := 111) (lv2 := [(0, .ref l0), (1, .int l1)]) (st2 := [.ref l0]) hm dX8_readValue_110 rfl ?_
    refine mx_S.pu (pc2 := 112) (lv2 := [(0, .ref l0), (1, .int l1)]) (st2 := [.int l1, .ref l0]) hm dX8_readValue_111 rfl ?_
    refine sx_ic (v := 1) hm dX8_readValue_112 (by decide) ?_
    replace hf := xl_el hf; obtain ⟨v8, e_v8, hf⟩ := hf
    refine mx_S.pu (pc2 := 114) (lv2 := [(0, .ref l0), (1, .int l1)]) (st2 := [.int v8, .ref l0]) hm dX8_readValue_113 (by rw [← e_v8]; rfl) ?_
    clear e_v8
    replace hf := mx_gd_el hf; obtain ⟨c9, hf⟩ := hf
    replace hf := mx_sv_el hf; obtain ⟨u10, e_u10, hf⟩ := hf
    refine sx_cv hm dX8_readValue_114 rs_RX8_83 mt_X8_readValue [.int v8] [] (b := l0) (ci := 8) rfl rfl rfl c9 (Nat.le_of_ble_eq_true rfl) (Nat.le_of_ble_eq_true rfl) (by omega) (by omega) (hrc.1 (by omega) (by omega) l0 v8 u7 e_u10) ?_
    clear e_u10
    show mx_S X F L 234 117 [(0, .ref l0), (1, .int l1)] [] u10 0 0 (none, r, 0, 0)
    cases hf
    exact sx_ret hm dX8_readValue_117 rfl
set_option maxHeartbeats 4000000 in
set_option maxRecDepth 20000 in
theorem j_X8_readValue_49_ok (X : Nat × (Nat → Int32)) {F L d : Nat} (hF : 2 + (d + 1) ≤ F) (hL : 42 + (d + 1) * 23 ≤ L) (nn : Nat) {rc : tg_X8_readValue} (hrc : hg5_X8_readValue X d rc) {kk_20 : Nat → Int32 → Int32 → Int32 → mx_H → Option mx_H} (hk_20 : ∀ (l0 : Nat) (l1 : Int32) (l2 : Int32) (l3 : Int32) (h : mx_H) (r : mx_H), kk_20 l0 l1 l2 l3 h = some r → mx_S X F L 234 20 [(0, .ref l0), (1, .int l1), (2, .int l2), (3, .int l3)] [] h 0 0 (none, r, 0, 0)) (l0 : Nat) (l1 : Int32) (l3 : Int32) (s0 : Int32) (h : mx_H) {r : mx_H} (hf : j_X8_readValue_49 nn rc kk_20 l0 l1 l3 s0 h = some r) : mx_S X F L 234 49 [(0, .ref l0), (1, .int l1), (3, .int l3)] [.int s0] h 0 0 (none, r, 0, 0) := by
  have hm : mx_mt 234 = some (yX8_readValue, cX8_readValue, 4, none) := mt_X8_readValue
  unfold j_X8_readValue_49 at hf
  refine mx_S.pu (pc2 := 50) (lv2 := [(2, .int s0), (0, .ref l0), (1, .int l1), (3, .int l3)]) (st2 := []) hm dX8_readValue_49 rfl ?_
  refine mx_S.pu (pc2 := 51) (lv2 := [(2, .int s0), (0, .ref l0), (1, .int l1), (3, .int l3)]) (st2 := [.int s0]) hm dX8_readValue_50 rfl ?_
  rcases mx_if_el hf with ⟨c23, hf⟩ | ⟨c23, hf⟩
  · refine sb_if_eq hm dX8_readValue_51 (tgt := 77) rfl (fun _ => ?_) (fun z => absurd c23 z)
    refine mx_S.pu (pc2 := 78) (lv2 := [(2, .int s0), (0, .ref l0), (1, .int l1), (3, .int l3)]) (st2 := [.ref l0]) hm dX8_readValue_77 rfl ?_
    refine sx_ic (v := 2) hm dX8_readValue_78 (by decide) ?_
    replace hf := mx_gd_el hf; obtain ⟨c12, hf⟩ := hf
    replace hf := mx_sv_el hf; obtain ⟨u13, e_u13, hf⟩ := hf
    refine sx_cv hm dX8_readValue_79 rs_RX8_37 mt_X8_need [.int 2] [] (b := l0) (ci := 8) rfl rfl rfl c12 (Nat.le_of_ble_eq_true rfl) (Nat.le_of_ble_eq_true rfl) (by omega) (by omega) (f_X8_need_ok X (by omega) (by omega) nn l0 2 h e_u13) ?_
    clear e_u13
    show mx_S X F L 234 82 [(2, .int s0), (0, .ref l0), (1, .int l1), (3, .int l3)] [] u13 0 0 (none, r, 0, 0)
    replace hf := xl_el hf; obtain ⟨v14, e_v14, hf⟩ := hf
    refine mx_S.pu (pc2 := 85) (lv2 := [(3, .int v14), (2, .int s0), (0, .ref l0), (1, .int l1)]) (st2 := []) hm dX8_readValue_82 (by rw [← e_v14]; rfl) ?_
    clear e_v14
    refine mx_S.pu (pc2 := 20) (lv2 := [(3, .int v14), (2, .int s0), (0, .ref l0), (1, .int l1)]) (st2 := []) hm dX8_readValue_85 rfl ?_
    refine mx_S.ext [(0, .ref l0), (1, .int l1), (2, .int s0), (3, .int v14)] (mx_sub_pos [2, 3, 1, 0] rfl (show ([3, 2, 0, 1] : List Nat).Nodup by decide)) ?_
    exact hk_20 l0 l1 s0 v14 u13 _ hf
  · refine sb_if_eq hm dX8_readValue_51 (tgt := 77) rfl (fun z => absurd z c23) (fun _ => ?_)
    refine mx_S.pu (pc2 := 55) (lv2 := [(2, .int s0), (0, .ref l0), (1, .int l1), (3, .int l3)]) (st2 := [.ref l0]) hm dX8_readValue_54 rfl ?_
    replace hf := mx_sv_el hf; obtain ⟨v15, e_v15, hf⟩ := hf
    refine sx_get hm dX8_readValue_55 rs_RX8_7 (xgr_el e_v15) ?_
    clear e_v15
    refine mx_S.pu (pc2 := 59) (lv2 := [(2, .int s0), (0, .ref l0), (1, .int l1), (3, .int l3)]) (st2 := [.ref v15, .ref v15]) hm dX8_readValue_58 rfl ?_
    replace hf := mx_sv_el hf; obtain ⟨v16, e_v16, hf⟩ := hf
    refine sx_get hm dX8_readValue_59 rs_RX8_30 (xgi_el e_v16) ?_
    clear e_v16
    refine sx_ic (v := 1) hm dX8_readValue_62 (by decide) ?_
    replace hf := xl_el hf; obtain ⟨v17, e_v17, hf⟩ := hf
    refine mx_S.pu (pc2 := 64) (lv2 := [(2, .int s0), (0, .ref l0), (1, .int l1), (3, .int l3)]) (st2 := [.int v17, .ref v15]) hm dX8_readValue_63 (by rw [← e_v17]; rfl) ?_
    clear e_v17
    replace hf := mx_sv_el hf; obtain ⟨h18, e_h18, hf⟩ := hf
    refine sx_put hm dX8_readValue_64 rs_RX8_30 ft_9_10 ⟨rfl, rfl⟩ (fun z => by cases z) e_h18 ?_
    clear e_h18
    refine mx_S.pu (pc2 := 68) (lv2 := [(2, .int s0), (0, .ref l0), (1, .int l1), (3, .int l3)]) (st2 := [.ref l0]) hm dX8_readValue_67 rfl ?_
    refine mx_S.pu (pc2 := 69) (lv2 := [(2, .int s0), (0, .ref l0), (1, .int l1), (3, .int l3)]) (st2 := [.int l1, .ref l0]) hm dX8_readValue_68 rfl ?_
    refine sx_ic (v := 1) hm dX8_readValue_69 (by decide) ?_
    replace hf := xl_el hf; obtain ⟨v19, e_v19, hf⟩ := hf
    refine mx_S.pu (pc2 := 71) (lv2 := [(2, .int s0), (0, .ref l0), (1, .int l1), (3, .int l3)]) (st2 := [.int v19, .ref l0]) hm dX8_readValue_70 (by rw [← e_v19]; rfl) ?_
    clear e_v19
    replace hf := mx_gd_el hf; obtain ⟨c20, hf⟩ := hf
    replace hf := mx_sv_el hf; obtain ⟨u21, e_u21, hf⟩ := hf
    refine sx_cv hm dX8_readValue_71 rs_RX8_86 mt_X8_readUnary [.int v19] [] (b := l0) (ci := 8) rfl rfl rfl c20 (Nat.le_of_ble_eq_true rfl) (Nat.le_of_ble_eq_true rfl) (by omega) (by omega) (hrc.2.1 (by omega) (by omega) l0 v19 h18 e_u21) ?_
    clear e_u21
    show mx_S X F L 234 74 [(2, .int s0), (0, .ref l0), (1, .int l1), (3, .int l3)] [] u21 0 0 (none, r, 0, 0)
    refine mx_S.pu (pc2 := 82) (lv2 := [(2, .int s0), (0, .ref l0), (1, .int l1), (3, .int l3)]) (st2 := []) hm dX8_readValue_74 rfl ?_
    replace hf := xl_el hf; obtain ⟨v22, e_v22, hf⟩ := hf
    refine mx_S.pu (pc2 := 85) (lv2 := [(3, .int v22), (2, .int s0), (0, .ref l0), (1, .int l1)]) (st2 := []) hm dX8_readValue_82 (by rw [← e_v22]; rfl) ?_
    clear e_v22
    refine mx_S.pu (pc2 := 20) (lv2 := [(3, .int v22), (2, .int s0), (0, .ref l0), (1, .int l1)]) (st2 := []) hm dX8_readValue_85 rfl ?_
    refine mx_S.ext [(0, .ref l0), (1, .int l1), (2, .int s0), (3, .int v22)] (mx_sub_pos [2, 3, 1, 0] rfl (show ([3, 2, 0, 1] : List Nat).Nodup by decide)) ?_
    exact hk_20 l0 l1 s0 v22 u21 _ hf
set_option maxHeartbeats 4000000 in
set_option maxRecDepth 20000 in
theorem w_X8_readValue_20_ok (X : Nat × (Nat → Int32)) {F L d : Nat} (hF : 2 + (d + 1) ≤ F) (hL : 42 + (d + 1) * 23 ≤ L) (nn : Nat) {rc : tg_X8_readValue} (hrc : hg5_X8_readValue X d rc) : ∀ (k : Nat) (l0 : Nat) (l1 : Int32) (l2 : Int32) (l3 : Int32) (h : mx_H) (r : mx_H), w_X8_readValue_20 nn rc k l0 l1 l2 l3 h = some r → mx_S X F L 234 20 [(0, .ref l0), (1, .int l1), (2, .int l2), (3, .int l3)] [] h 0 0 (none, r, 0, 0) := by
  have hm : mx_mt 234 = some (yX8_readValue, cX8_readValue, 4, none) := mt_X8_readValue
  intro k
  induction k with
  | zero => intro l0 l1 l2 l3 h r hf; cases hf
  | succ k ih =>
    intro l0 l1 l2 l3 h r hf
    unfold w_X8_readValue_20 at hf
    refine mx_S.pu (pc2 := 21) (lv2 := [(0, .ref l0), (1, .int l1), (2, .int l2), (3, .int l3)]) (st2 := [.int l3]) hm dX8_readValue_20 rfl ?_
    refine sx_si (v := 3000) hm dX8_readValue_21 (by decide) ?_
    rcases mx_if_el hf with ⟨c30, hf⟩ | ⟨c30, hf⟩
    · refine sb_ic_ge hm dX8_readValue_24 (tgt := 88) rfl (fun _ => ?_) (fun z => absurd c30 z)
      refine mx_S.ext [(0, .ref l0), (1, .int l1)] (mx_sub_pos [0, 1] rfl (show ([0, 1, 2, 3] : List Nat).Nodup by decide)) ?_
      exact j_X8_readValue_88_ok X hF hL nn hrc l0 l1 h hf
    · refine sb_ic_ge hm dX8_readValue_24 (tgt := 88) rfl (fun z => absurd z c30) (fun _ => ?_)
      refine mx_S.pu (pc2 := 28) (lv2 := [(0, .ref l0), (1, .int l1), (2, .int l2), (3, .int l3)]) (st2 := [.ref l0]) hm dX8_readValue_27 rfl ?_
      refine mx_S.pu (pc2 := 29) (lv2 := [(0, .ref l0), (1, .int l1), (2, .int l2), (3, .int l3)]) (st2 := [.int l2, .ref l0]) hm dX8_readValue_28 rfl ?_
      replace hf := mx_gd_el hf; obtain ⟨c24, hf⟩ := hf
      replace hf := mx_sv_el hf; obtain ⟨u25, e_u25, hf⟩ := hf
      refine sx_cv hm dX8_readValue_29 rs_RX8_89 mt_X8_binaryAhead [.int l2] [] (b := l0) (ci := 8) rfl rfl rfl c24 (Nat.le_of_ble_eq_true rfl) (Nat.le_of_ble_eq_true rfl) (by omega) (by omega) (f_X8_binaryAhead_ok X (by omega) (by omega) nn l0 l2 h e_u25) ?_
      clear e_u25
      show mx_S X F L 234 32 [(0, .ref l0), (1, .int l1), (2, .int l2), (3, .int l3)] [.int u25.1] u25.2 0 0 (none, r, 0, 0)
      rcases mx_if_el hf with ⟨c29, hf⟩ | ⟨c29, hf⟩
      · refine sb_if_eq hm dX8_readValue_32 (tgt := 88) rfl (fun _ => ?_) (fun z => absurd c29 z)
        refine mx_S.ext [(0, .ref l0), (1, .int l1)] (mx_sub_pos [0, 1] rfl (show ([0, 1, 2, 3] : List Nat).Nodup by decide)) ?_
        exact j_X8_readValue_88_ok X hF hL nn hrc l0 l1 u25.2 hf
      · refine sb_if_eq hm dX8_readValue_32 (tgt := 88) rfl (fun z => absurd z c29) (fun _ => ?_)
        refine mx_S.pu (pc2 := 36) (lv2 := [(0, .ref l0), (1, .int l1), (2, .int l2), (3, .int l3)]) (st2 := [.ref l0]) hm dX8_readValue_35 rfl ?_
        refine sx_bi (v := 19) hm dX8_readValue_36 (by decide) ?_
        replace hf := mx_gd_el hf; obtain ⟨c26, hf⟩ := hf
        replace hf := mx_sv_el hf; obtain ⟨u27, e_u27, hf⟩ := hf
        refine sx_cv hm dX8_readValue_38 rs_RX8_45 mt_X8_accept [.int 19] [] (b := l0) (ci := 8) rfl rfl rfl c26 (Nat.le_of_ble_eq_true rfl) (Nat.le_of_ble_eq_true rfl) (by omega) (by omega) (f_X8_accept_ok X (by omega) (by omega) nn l0 19 u25.2 e_u27) ?_
        clear e_u27
        show mx_S X F L 234 41 [(0, .ref l0), (1, .int l1), (2, .int l2), (3, .int l3)] [.int u27.1] u27.2 0 0 (none, r, 0, 0)
        rcases mx_if_el hf with ⟨c28, hf⟩ | ⟨c28, hf⟩
        · refine sb_if_ne hm dX8_readValue_41 (tgt := 48) rfl (fun _ => ?_) (fun z => absurd c28 z)
          refine sx_ic (v := 0) hm dX8_readValue_48 (by decide) ?_
          refine mx_S.ext [(0, .ref l0), (1, .int l1), (3, .int l3)] (mx_sub_pos [0, 1, 3] rfl (show ([0, 1, 2, 3] : List Nat).Nodup by decide)) ?_
          exact j_X8_readValue_49_ok X hF hL nn hrc ih l0 l1 l3 0 u27.2 hf
        · refine sb_if_ne hm dX8_readValue_41 (tgt := 48) rfl (fun z => absurd z c28) (fun _ => ?_)
          refine sx_ic (v := 1) hm dX8_readValue_44 (by decide) ?_
          refine mx_S.pu (pc2 := 49) (lv2 := [(0, .ref l0), (1, .int l1), (2, .int l2), (3, .int l3)]) (st2 := [.int 1]) hm dX8_readValue_45 rfl ?_
          refine mx_S.ext [(0, .ref l0), (1, .int l1), (3, .int l3)] (mx_sub_pos [0, 1, 3] rfl (show ([0, 1, 2, 3] : List Nat).Nodup by decide)) ?_
          exact j_X8_readValue_49_ok X hF hL nn hrc ih l0 l1 l3 1 u27.2 hf
set_option maxHeartbeats 4000000 in
set_option maxRecDepth 20000 in
theorem o_X8_readValue_ok (X : Nat × (Nat → Int32)) {F L d : Nat} (hF : 2 + (d + 1) ≤ F) (hL : 42 + (d + 1) * 23 ≤ L) (nn : Nat) {rc : tg_X8_readValue} (hrc : hg5_X8_readValue X d rc) (a0 : Nat) (a1 : Int32) (h : mx_H) {r : mx_H} (hf : o_X8_readValue nn rc a0 a1 h = some r) : mx_R X F L 234 [.ref a0, .int a1] h (none, r, 0, 0) := by
  have hm : mx_mt 234 = some (yX8_readValue, cX8_readValue, 4, none) := mt_X8_readValue
  show mx_S X F L 234 0 [(0, .ref a0), (1, .int a1)] [] h 0 0 (none, r, 0, 0)
  unfold o_X8_readValue at hf
  refine mx_S.pu (pc2 := 1) (lv2 := [(0, .ref a0), (1, .int a1)]) (st2 := [.ref a0]) hm dX8_readValue_0 rfl ?_
  refine mx_S.pu (pc2 := 2) (lv2 := [(0, .ref a0), (1, .int a1)]) (st2 := [.int a1, .ref a0]) hm dX8_readValue_1 rfl ?_
  replace hf := mx_gd_el hf; obtain ⟨c31, hf⟩ := hf
  replace hf := mx_sv_el hf; obtain ⟨u32, e_u32, hf⟩ := hf
  refine sx_cv hm dX8_readValue_2 rs_RX8_64 mt_X8_tooDeep [.int a1] [] (b := a0) (ci := 8) rfl rfl rfl c31 (Nat.le_of_ble_eq_true rfl) (Nat.le_of_ble_eq_true rfl) (by omega) (by omega) (f_X8_tooDeep_ok X (by omega) (by omega) nn a0 a1 h e_u32) ?_
  clear e_u32
  show mx_S X F L 234 5 [(0, .ref a0), (1, .int a1)] [.int u32.1] u32.2 0 0 (none, r, 0, 0)
  rcases mx_if_el hf with ⟨c36, hf⟩ | ⟨c36, hf⟩
  · refine sb_if_eq hm dX8_readValue_5 (tgt := 9) rfl (fun _ => ?_) (fun z => absurd c36 z)
    refine sx_ic (v := 1) hm dX8_readValue_9 (by decide) ?_
    refine mx_S.pu (pc2 := 11) (lv2 := [(2, .int 1), (0, .ref a0), (1, .int a1)]) (st2 := []) hm dX8_readValue_10 rfl ?_
    refine mx_S.pu (pc2 := 12) (lv2 := [(2, .int 1), (0, .ref a0), (1, .int a1)]) (st2 := [.ref a0]) hm dX8_readValue_11 rfl ?_
    refine mx_S.pu (pc2 := 13) (lv2 := [(2, .int 1), (0, .ref a0), (1, .int a1)]) (st2 := [.int a1, .ref a0]) hm dX8_readValue_12 rfl ?_
    refine sx_ic (v := 1) hm dX8_readValue_13 (by decide) ?_
    replace hf := xl_el hf; obtain ⟨v33, e_v33, hf⟩ := hf
    refine mx_S.pu (pc2 := 15) (lv2 := [(2, .int 1), (0, .ref a0), (1, .int a1)]) (st2 := [.int v33, .ref a0]) hm dX8_readValue_14 (by rw [← e_v33]; rfl) ?_
    clear e_v33
    replace hf := mx_gd_el hf; obtain ⟨c34, hf⟩ := hf
    replace hf := mx_sv_el hf; obtain ⟨u35, e_u35, hf⟩ := hf
    refine sx_cv hm dX8_readValue_15 rs_RX8_86 mt_X8_readUnary [.int v33] [] (b := a0) (ci := 8) rfl rfl rfl c34 (Nat.le_of_ble_eq_true rfl) (Nat.le_of_ble_eq_true rfl) (by omega) (by omega) (hrc.2.1 (by omega) (by omega) a0 v33 u32.2 e_u35) ?_
    clear e_u35
    show mx_S X F L 234 18 [(2, .int 1), (0, .ref a0), (1, .int a1)] [] u35 0 0 (none, r, 0, 0)
    refine sx_ic (v := 0) hm dX8_readValue_18 (by decide) ?_
    refine mx_S.pu (pc2 := 20) (lv2 := [(3, .int 0), (2, .int 1), (0, .ref a0), (1, .int a1)]) (st2 := []) hm dX8_readValue_19 rfl ?_
    refine mx_S.ext [(0, .ref a0), (1, .int a1), (2, .int 1), (3, .int 0)] (mx_sub_pos [2, 3, 1, 0] rfl (show ([3, 2, 0, 1] : List Nat).Nodup by decide)) ?_
    exact w_X8_readValue_20_ok X hF hL nn hrc nn a0 a1 1 0 u35 _ hf
  · refine sb_if_eq hm dX8_readValue_5 (tgt := 9) rfl (fun z => absurd z c36) (fun _ => ?_)
    cases hf
    exact sx_ret hm dX8_readValue_8 rfl
set_option maxHeartbeats 4000000 in
set_option maxRecDepth 20000 in
theorem j_X8_readUnary_70_ok (X : Nat × (Nat → Int32)) {F L d : Nat} (hF : 2 + (d + 1) ≤ F) (hL : 42 + (d + 1) * 23 ≤ L) (nn : Nat) {rc : tg_X8_readValue} (hrc : hg5_X8_readValue X d rc) (l0 : Nat) (l1 : Int32) (s0 : Int32) (s1 : Int32) (s2 : Nat) (h : mx_H) {r : mx_H} (hf : j_X8_readUnary_70 nn rc l0 l1 s0 s1 s2 h = some r) : mx_S X F L 236 70 [(0, .ref l0), (1, .int l1)] [.int s0, .int s1, .ref s2] h 0 0 (none, r, 0, 0) := by
  have hm : mx_mt 236 = some (yX8_readUnary, cX8_readUnary, 4, none) := mt_X8_readUnary
  unfold j_X8_readUnary_70 at hf
  replace hf := xl_el hf; obtain ⟨v1, e_v1, hf⟩ := hf
  refine mx_S.pu (pc2 := 71) (lv2 := [(0, .ref l0), (1, .int l1)]) (st2 := [.int v1, .ref s2]) hm dX8_readUnary_70 (by rw [← e_v1]; rfl) ?_
  clear e_v1
  replace hf := mx_sv_el hf; obtain ⟨h2, e_h2, hf⟩ := hf
  refine sx_put hm dX8_readUnary_71 rs_RX8_30 ft_9_10 ⟨rfl, rfl⟩ (fun z => by cases z) e_h2 ?_
  clear e_h2
  refine mx_S.pu (pc2 := 75) (lv2 := [(0, .ref l0), (1, .int l1)]) (st2 := [.ref l0]) hm dX8_readUnary_74 rfl ?_
  refine mx_S.pu (pc2 := 76) (lv2 := [(0, .ref l0), (1, .int l1)]) (st2 := [.int l1, .ref l0]) hm dX8_readUnary_75 rfl ?_
  refine sx_ic (v := 1) hm dX8_readUnary_76 (by decide) ?_
  replace hf := xl_el hf; obtain ⟨v3, e_v3, hf⟩ := hf
  refine mx_S.pu (pc2 := 78) (lv2 := [(0, .ref l0), (1, .int l1)]) (st2 := [.int v3, .ref l0]) hm dX8_readUnary_77 (by rw [← e_v3]; rfl) ?_
  clear e_v3
  replace hf := mx_gd_el hf; obtain ⟨c4, hf⟩ := hf
  replace hf := mx_sv_el hf; obtain ⟨u5, e_u5, hf⟩ := hf
  refine sx_cv hm dX8_readUnary_78 rs_RX8_86 mt_X8_readUnary [.int v3] [] (b := l0) (ci := 8) rfl rfl rfl c4 (Nat.le_of_ble_eq_true rfl) (Nat.le_of_ble_eq_true rfl) (by omega) (by omega) (hrc.2.1 (by omega) (by omega) l0 v3 h2 e_u5) ?_
  clear e_u5
  show mx_S X F L 236 81 [(0, .ref l0), (1, .int l1)] [] u5 0 0 (none, r, 0, 0)
  cases hf
  exact sx_ret hm dX8_readUnary_81 rfl
set_option maxHeartbeats 4000000 in
set_option maxRecDepth 20000 in
theorem j_X8_readUnary_44_ok (X : Nat × (Nat → Int32)) {F L d : Nat} (hF : 2 + (d + 1) ≤ F) (hL : 42 + (d + 1) * 23 ≤ L) (nn : Nat) {rc : tg_X8_readValue} (hrc : hg5_X8_readValue X d rc) (l0 : Nat) (l1 : Int32) (l3 : Int32) (h : mx_H) {r : mx_H} (hf : j_X8_readUnary_44 nn rc l0 l1 l3 h = some r) : mx_S X F L 236 44 [(0, .ref l0), (1, .int l1), (3, .int l3)] [] h 0 0 (none, r, 0, 0) := by
  have hm : mx_mt 236 = some (yX8_readUnary, cX8_readUnary, 4, none) := mt_X8_readUnary
  unfold j_X8_readUnary_44 at hf
  refine mx_S.pu (pc2 := 45) (lv2 := [(0, .ref l0), (1, .int l1), (3, .int l3)]) (st2 := [.ref l0]) hm dX8_readUnary_44 rfl ?_
  refine mx_S.pu (pc2 := 46) (lv2 := [(0, .ref l0), (1, .int l1), (3, .int l3)]) (st2 := [.int l1, .ref l0]) hm dX8_readUnary_45 rfl ?_
  replace hf := mx_gd_el hf; obtain ⟨c6, hf⟩ := hf
  replace hf := mx_sv_el hf; obtain ⟨u7, e_u7, hf⟩ := hf
  refine sx_cv hm dX8_readUnary_46 rs_RX8_64 mt_X8_tooDeep [.int l1] [] (b := l0) (ci := 8) rfl rfl rfl c6 (Nat.le_of_ble_eq_true rfl) (Nat.le_of_ble_eq_true rfl) (by omega) (by omega) (f_X8_tooDeep_ok X (by omega) (by omega) nn l0 l1 h e_u7) ?_
  clear e_u7
  show mx_S X F L 236 49 [(0, .ref l0), (1, .int l1), (3, .int l3)] [.int u7.1] u7.2 0 0 (none, r, 0, 0)
  rcases mx_if_el hf with ⟨c11, hf⟩ | ⟨c11, hf⟩
  · refine sb_if_eq hm dX8_readUnary_49 (tgt := 53) rfl (fun _ => ?_) (fun z => absurd c11 z)
    refine mx_S.pu (pc2 := 54) (lv2 := [(0, .ref l0), (1, .int l1), (3, .int l3)]) (st2 := [.ref l0]) hm dX8_readUnary_53 rfl ?_
    replace hf := mx_sv_el hf; obtain ⟨v8, e_v8, hf⟩ := hf
    refine sx_get hm dX8_readUnary_54 rs_RX8_7 (xgr_el e_v8) ?_
    clear e_v8
    refine mx_S.pu (pc2 := 58) (lv2 := [(0, .ref l0), (1, .int l1), (3, .int l3)]) (st2 := [.ref v8, .ref v8]) hm dX8_readUnary_57 rfl ?_
    replace hf := mx_sv_el hf; obtain ⟨v9, e_v9, hf⟩ := hf
    refine sx_get hm dX8_readUnary_58 rs_RX8_30 (xgi_el e_v9) ?_
    clear e_v9
    refine mx_S.pu (pc2 := 62) (lv2 := [(0, .ref l0), (1, .int l1), (3, .int l3)]) (st2 := [.int l3, .int v9, .ref v8]) hm dX8_readUnary_61 rfl ?_
    rcases mx_if_el hf with ⟨c10, hf⟩ | ⟨c10, hf⟩
    · refine sb_if_eq hm dX8_readUnary_62 (tgt := 69) rfl (fun _ => ?_) (fun z => absurd c10 z)
      refine sx_ic (v := 1) hm dX8_readUnary_69 (by decide) ?_
      refine mx_S.ext [(0, .ref l0), (1, .int l1)] (mx_sub_pos [0, 1] rfl (show ([0, 1, 3] : List Nat).Nodup by decide)) ?_
      exact j_X8_readUnary_70_ok X hF hL nn hrc l0 l1 1 v9 v8 u7.2 hf
    · refine sb_if_eq hm dX8_readUnary_62 (tgt := 69) rfl (fun z => absurd z c10) (fun _ => ?_)
      refine sx_ic (v := 3) hm dX8_readUnary_65 (by decide) ?_
      refine mx_S.pu (pc2 := 70) (lv2 := [(0, .ref l0), (1, .int l1), (3, .int l3)]) (st2 := [.int 3, .int v9, .ref v8]) hm dX8_readUnary_66 rfl ?_
      refine mx_S.ext [(0, .ref l0), (1, .int l1)] (mx_sub_pos [0, 1] rfl (show ([0, 1, 3] : List Nat).Nodup by decide)) ?_
      exact j_X8_readUnary_70_ok X hF hL nn hrc l0 l1 3 v9 v8 u7.2 hf
  · refine sb_if_eq hm dX8_readUnary_49 (tgt := 53) rfl (fun z => absurd z c11) (fun _ => ?_)
    cases hf
    exact sx_ret hm dX8_readUnary_52 rfl
set_option maxHeartbeats 4000000 in
set_option maxRecDepth 20000 in
theorem o_X8_readUnary_ok (X : Nat × (Nat → Int32)) {F L d : Nat} (hF : 2 + (d + 1) ≤ F) (hL : 42 + (d + 1) * 23 ≤ L) (nn : Nat) {rc : tg_X8_readValue} (hrc : hg5_X8_readValue X d rc) (a0 : Nat) (a1 : Int32) (h : mx_H) {r : mx_H} (hf : o_X8_readUnary nn rc a0 a1 h = some r) : mx_R X F L 236 [.ref a0, .int a1] h (none, r, 0, 0) := by
  have hm : mx_mt 236 = some (yX8_readUnary, cX8_readUnary, 4, none) := mt_X8_readUnary
  show mx_S X F L 236 0 [(0, .ref a0), (1, .int a1)] [] h 0 0 (none, r, 0, 0)
  unfold o_X8_readUnary at hf
  refine mx_S.pu (pc2 := 1) (lv2 := [(0, .ref a0), (1, .int a1)]) (st2 := [.ref a0]) hm dX8_readUnary_0 rfl ?_
  replace hf := mx_sv_el hf; obtain ⟨v12, e_v12, hf⟩ := hf
  refine sx_get hm dX8_readUnary_1 rs_RX8_7 (xgr_el e_v12) ?_
  clear e_v12
  replace hf := mx_gd_el hf; obtain ⟨c13, hf⟩ := hf
  replace hf := mx_sv_el hf; obtain ⟨u14, e_u14, hf⟩ := hf
  refine sx_cv hm dX8_readUnary_4 rs_RX8_23 mt_X9_kind [] [] (b := v12) (ci := 9) rfl rfl rfl c13 (Nat.le_of_ble_eq_true rfl) (Nat.le_of_ble_eq_true rfl) (by omega) (by omega) (f_X9_kind_ok X (by omega) (by omega) nn v12 h e_u14) ?_
  clear e_u14
  show mx_S X F L 236 7 [(0, .ref a0), (1, .int a1)] [.int u14.1] u14.2 0 0 (none, r, 0, 0)
  refine mx_S.pu (pc2 := 8) (lv2 := [(2, .int u14.1), (0, .ref a0), (1, .int a1)]) (st2 := []) hm dX8_readUnary_7 rfl ?_
  refine mx_S.pu (pc2 := 9) (lv2 := [(2, .int u14.1), (0, .ref a0), (1, .int a1)]) (st2 := [.ref a0]) hm dX8_readUnary_8 rfl ?_
  replace hf := mx_sv_el hf; obtain ⟨v15, e_v15, hf⟩ := hf
  refine sx_get hm dX8_readUnary_9 rs_RX8_7 (xgr_el e_v15) ?_
  clear e_v15
  replace hf := mx_gd_el hf; obtain ⟨c16, hf⟩ := hf
  replace hf := mx_sv_el hf; obtain ⟨u17, e_u17, hf⟩ := hf
  refine sx_cv hm dX8_readUnary_12 rs_RX8_97 mt_X9_beginsCast [] [] (b := v15) (ci := 9) rfl rfl rfl c16 (Nat.le_of_ble_eq_true rfl) (Nat.le_of_ble_eq_true rfl) (by omega) (by omega) (f_X9_beginsCast_ok X (by omega) (by omega) nn v15 u14.2 e_u17) ?_
  clear e_u17
  show mx_S X F L 236 15 [(2, .int u14.1), (0, .ref a0), (1, .int a1)] [.int u17.1] u17.2 0 0 (none, r, 0, 0)
  refine mx_S.pu (pc2 := 16) (lv2 := [(3, .int u17.1), (2, .int u14.1), (0, .ref a0), (1, .int a1)]) (st2 := []) hm dX8_readUnary_15 rfl ?_
  refine mx_S.pu (pc2 := 17) (lv2 := [(3, .int u17.1), (2, .int u14.1), (0, .ref a0), (1, .int a1)]) (st2 := [.int u17.1]) hm dX8_readUnary_16 rfl ?_
  rcases mx_if_el hf with ⟨c23, hf⟩ | ⟨c23, hf⟩
  · refine sb_if_ne hm dX8_readUnary_17 (tgt := 44) rfl (fun _ => ?_) (fun z => absurd c23 z)
    refine mx_S.ext [(0, .ref a0), (1, .int a1), (3, .int u17.1)] (mx_sub_pos [2, 3, 0] rfl (show ([3, 2, 0, 1] : List Nat).Nodup by decide)) ?_
    exact j_X8_readUnary_44_ok X hF hL nn hrc a0 a1 u17.1 u17.2 hf
  · refine sb_if_ne hm dX8_readUnary_17 (tgt := 44) rfl (fun z => absurd z c23) (fun _ => ?_)
    refine mx_S.pu (pc2 := 21) (lv2 := [(3, .int u17.1), (2, .int u14.1), (0, .ref a0), (1, .int a1)]) (st2 := [.int u14.1]) hm dX8_readUnary_20 rfl ?_
    refine sx_bi (v := 62) hm dX8_readUnary_21 (by decide) ?_
    rcases mx_if_el hf with ⟨c22, hf⟩ | ⟨c22, hf⟩
    · refine sb_ic_eq hm dX8_readUnary_23 (tgt := 44) rfl (fun _ => ?_) (fun z => absurd c22 z)
      refine mx_S.ext [(0, .ref a0), (1, .int a1), (3, .int u17.1)] (mx_sub_pos [2, 3, 0] rfl (show ([3, 2, 0, 1] : List Nat).Nodup by decide)) ?_
      exact j_X8_readUnary_44_ok X hF hL nn hrc a0 a1 u17.1 u17.2 hf
    · refine sb_ic_eq hm dX8_readUnary_23 (tgt := 44) rfl (fun z => absurd z c22) (fun _ => ?_)
      refine mx_S.pu (pc2 := 27) (lv2 := [(3, .int u17.1), (2, .int u14.1), (0, .ref a0), (1, .int a1)]) (st2 := [.int u14.1]) hm dX8_readUnary_26 rfl ?_
      refine sx_bi (v := 71) hm dX8_readUnary_27 (by decide) ?_
      rcases mx_if_el hf with ⟨c21, hf⟩ | ⟨c21, hf⟩
      · refine sb_ic_eq hm dX8_readUnary_29 (tgt := 44) rfl (fun _ => ?_) (fun z => absurd c21 z)
        refine mx_S.ext [(0, .ref a0), (1, .int a1), (3, .int u17.1)] (mx_sub_pos [2, 3, 0] rfl (show ([3, 2, 0, 1] : List Nat).Nodup by decide)) ?_
        exact j_X8_readUnary_44_ok X hF hL nn hrc a0 a1 u17.1 u17.2 hf
      · refine sb_ic_eq hm dX8_readUnary_29 (tgt := 44) rfl (fun z => absurd z c21) (fun _ => ?_)
        refine mx_S.pu (pc2 := 33) (lv2 := [(3, .int u17.1), (2, .int u14.1), (0, .ref a0), (1, .int a1)]) (st2 := [.int u14.1]) hm dX8_readUnary_32 rfl ?_
        refine sx_bi (v := 72) hm dX8_readUnary_33 (by decide) ?_
        rcases mx_if_el hf with ⟨c20, hf⟩ | ⟨c20, hf⟩
        · refine sb_ic_eq hm dX8_readUnary_35 (tgt := 44) rfl (fun _ => ?_) (fun z => absurd c20 z)
          refine mx_S.ext [(0, .ref a0), (1, .int a1), (3, .int u17.1)] (mx_sub_pos [2, 3, 0] rfl (show ([3, 2, 0, 1] : List Nat).Nodup by decide)) ?_
          exact j_X8_readUnary_44_ok X hF hL nn hrc a0 a1 u17.1 u17.2 hf
        · refine sb_ic_eq hm dX8_readUnary_35 (tgt := 44) rfl (fun z => absurd z c20) (fun _ => ?_)
          refine mx_S.pu (pc2 := 39) (lv2 := [(3, .int u17.1), (2, .int u14.1), (0, .ref a0), (1, .int a1)]) (st2 := [.ref a0]) hm dX8_readUnary_38 rfl ?_
          refine mx_S.pu (pc2 := 40) (lv2 := [(3, .int u17.1), (2, .int u14.1), (0, .ref a0), (1, .int a1)]) (st2 := [.int a1, .ref a0]) hm dX8_readUnary_39 rfl ?_
          replace hf := mx_gd_el hf; obtain ⟨c18, hf⟩ := hf
          replace hf := mx_sv_el hf; obtain ⟨u19, e_u19, hf⟩ := hf
          refine sx_cv hm dX8_readUnary_40 rs_RX8_100 mt_X8_readPrimary [.int a1] [] (b := a0) (ci := 8) rfl rfl rfl c18 (Nat.le_of_ble_eq_true rfl) (Nat.le_of_ble_eq_true rfl) (by omega) (by omega) (hrc.2.2.1 (by omega) (by omega) a0 a1 u17.2 e_u19) ?_
          clear e_u19
          show mx_S X F L 236 43 [(3, .int u17.1), (2, .int u14.1), (0, .ref a0), (1, .int a1)] [] u19 0 0 (none, r, 0, 0)
          cases hf
          exact sx_ret hm dX8_readUnary_43 rfl
set_option maxHeartbeats 4000000 in
set_option maxRecDepth 20000 in
theorem j_X8_readPrimary_160_ok (X : Nat × (Nat → Int32)) {F L d : Nat} (hF : 2 + (d + 1) ≤ F) (hL : 42 + (d + 1) * 23 ≤ L) (nn : Nat) {rc : tg_X8_readValue} (hrc : hg5_X8_readValue X d rc) (l0 : Nat) (l1 : Int32) (h : mx_H) {r : mx_H} (hf : j_X8_readPrimary_160 nn rc l0 l1 h = some r) : mx_S X F L 237 160 [(0, .ref l0), (1, .int l1)] [] h 0 0 (none, r, 0, 0) := by
  have hm : mx_mt 237 = some (yX8_readPrimary, cX8_readPrimary, 2, none) := mt_X8_readPrimary
  unfold j_X8_readPrimary_160 at hf
  refine mx_S.pu (pc2 := 161) (lv2 := [(0, .ref l0), (1, .int l1)]) (st2 := [.ref l0]) hm dX8_readPrimary_160 rfl ?_
  refine mx_S.pu (pc2 := 162) (lv2 := [(0, .ref l0), (1, .int l1)]) (st2 := [.int l1, .ref l0]) hm dX8_readPrimary_161 rfl ?_
  replace hf := mx_gd_el hf; obtain ⟨c1, hf⟩ := hf
  replace hf := mx_sv_el hf; obtain ⟨u2, e_u2, hf⟩ := hf
  refine sx_cv hm dX8_readPrimary_162 rs_RX8_109 mt_X8_readBehind [.int l1] [] (b := l0) (ci := 8) rfl rfl rfl c1 (Nat.le_of_ble_eq_true rfl) (Nat.le_of_ble_eq_true rfl) (by omega) (by omega) (hrc.2.2.2.1 (by omega) (by omega) l0 l1 h e_u2) ?_
  clear e_u2
  show mx_S X F L 237 165 [(0, .ref l0), (1, .int l1)] [] u2 0 0 (none, r, 0, 0)
  cases hf
  exact sx_ret hm dX8_readPrimary_165 rfl
set_option maxHeartbeats 4000000 in
set_option maxRecDepth 20000 in
theorem j_X8_readPrimary_80_ok (X : Nat × (Nat → Int32)) {F L d : Nat} (hF : 2 + (d + 1) ≤ F) (hL : 42 + (d + 1) * 23 ≤ L) (nn : Nat) {rc : tg_X8_readValue} (hrc : hg5_X8_readValue X d rc) (l0 : Nat) (l1 : Int32) (h : mx_H) {r : mx_H} (hf : j_X8_readPrimary_80 nn rc l0 l1 h = some r) : mx_S X F L 237 80 [(0, .ref l0), (1, .int l1)] [] h 0 0 (none, r, 0, 0) := by
  have hm : mx_mt 237 = some (yX8_readPrimary, cX8_readPrimary, 2, none) := mt_X8_readPrimary
  unfold j_X8_readPrimary_80 at hf
  refine mx_S.pu (pc2 := 81) (lv2 := [(0, .ref l0), (1, .int l1)]) (st2 := [.ref l0]) hm dX8_readPrimary_80 rfl ?_
  replace hf := mx_sv_el hf; obtain ⟨v3, e_v3, hf⟩ := hf
  refine sx_get hm dX8_readPrimary_81 rs_RX8_7 (xgr_el e_v3) ?_
  clear e_v3
  refine mx_S.pu (pc2 := 85) (lv2 := [(0, .ref l0), (1, .int l1)]) (st2 := [.ref v3, .ref v3]) hm dX8_readPrimary_84 rfl ?_
  replace hf := mx_sv_el hf; obtain ⟨v4, e_v4, hf⟩ := hf
  refine sx_get hm dX8_readPrimary_85 rs_RX8_30 (xgi_el e_v4) ?_
  clear e_v4
  refine sx_ic (v := 1) hm dX8_readPrimary_88 (by decide) ?_
  replace hf := xl_el hf; obtain ⟨v5, e_v5, hf⟩ := hf
  refine mx_S.pu (pc2 := 90) (lv2 := [(0, .ref l0), (1, .int l1)]) (st2 := [.int v5, .ref v3]) hm dX8_readPrimary_89 (by rw [← e_v5]; rfl) ?_
  clear e_v5
  replace hf := mx_sv_el hf; obtain ⟨h6, e_h6, hf⟩ := hf
  refine sx_put hm dX8_readPrimary_90 rs_RX8_30 ft_9_10 ⟨rfl, rfl⟩ (fun z => by cases z) e_h6 ?_
  clear e_h6
  refine mx_S.pu (pc2 := 160) (lv2 := [(0, .ref l0), (1, .int l1)]) (st2 := []) hm dX8_readPrimary_93 rfl ?_
  exact j_X8_readPrimary_160_ok X hF hL nn hrc l0 l1 h6 hf
set_option maxHeartbeats 4000000 in
set_option maxRecDepth 20000 in
theorem o_X8_readPrimary_ok (X : Nat × (Nat → Int32)) {F L d : Nat} (hF : 2 + (d + 1) ≤ F) (hL : 42 + (d + 1) * 23 ≤ L) (nn : Nat) {rc : tg_X8_readValue} (hrc : hg5_X8_readValue X d rc) (a0 : Nat) (a1 : Int32) (h : mx_H) {r : mx_H} (hf : o_X8_readPrimary nn rc a0 a1 h = some r) : mx_R X F L 237 [.ref a0, .int a1] h (none, r, 0, 0) := by
  have hm : mx_mt 237 = some (yX8_readPrimary, cX8_readPrimary, 2, none) := mt_X8_readPrimary
  show mx_S X F L 237 0 [(0, .ref a0), (1, .int a1)] [] h 0 0 (none, r, 0, 0)
  unfold o_X8_readPrimary at hf
  refine mx_S.pu (pc2 := 1) (lv2 := [(0, .ref a0), (1, .int a1)]) (st2 := [.ref a0]) hm dX8_readPrimary_0 rfl ?_
  replace hf := mx_sv_el hf; obtain ⟨v7, e_v7, hf⟩ := hf
  refine sx_get hm dX8_readPrimary_1 rs_RX8_7 (xgr_el e_v7) ?_
  clear e_v7
  replace hf := mx_gd_el hf; obtain ⟨c8, hf⟩ := hf
  replace hf := mx_sv_el hf; obtain ⟨u9, e_u9, hf⟩ := hf
  refine sx_cv hm dX8_readPrimary_4 rs_RX8_23 mt_X9_kind [] [] (b := v7) (ci := 9) rfl rfl rfl c8 (Nat.le_of_ble_eq_true rfl) (Nat.le_of_ble_eq_true rfl) (by omega) (by omega) (f_X9_kind_ok X (by omega) (by omega) nn v7 h e_u9) ?_
  clear e_u9
  show mx_S X F L 237 7 [(0, .ref a0), (1, .int a1)] [.int u9.1] u9.2 0 0 (none, r, 0, 0)
  rcases mx_if_el hf with ⟨n_0, hf⟩ | ⟨n_0, hf⟩
  · refine sx_look hm dX8_readPrimary_7 rfl (off := 89) (by rw [n_0]; rfl) (tgt := 96) rfl ?_
    clear n_0
    refine mx_S.pu (pc2 := 97) (lv2 := [(0, .ref a0), (1, .int a1)]) (st2 := [.ref a0]) hm dX8_readPrimary_96 rfl ?_
    replace hf := mx_sv_el hf; obtain ⟨v13, e_v13, hf⟩ := hf
    refine sx_get hm dX8_readPrimary_97 rs_RX8_7 (xgr_el e_v13) ?_
    clear e_v13
    refine mx_S.pu (pc2 := 101) (lv2 := [(0, .ref a0), (1, .int a1)]) (st2 := [.ref v13, .ref v13]) hm dX8_readPrimary_100 rfl ?_
    replace hf := mx_sv_el hf; obtain ⟨v14, e_v14, hf⟩ := hf
    refine sx_get hm dX8_readPrimary_101 rs_RX8_30 (xgi_el e_v14) ?_
    clear e_v14
    refine sx_ic (v := 1) hm dX8_readPrimary_104 (by decide) ?_
    replace hf := xl_el hf; obtain ⟨v15, e_v15, hf⟩ := hf
    refine mx_S.pu (pc2 := 106) (lv2 := [(0, .ref a0), (1, .int a1)]) (st2 := [.int v15, .ref v13]) hm dX8_readPrimary_105 (by rw [← e_v15]; rfl) ?_
    clear e_v15
    replace hf := mx_sv_el hf; obtain ⟨h16, e_h16, hf⟩ := hf
    refine sx_put hm dX8_readPrimary_106 rs_RX8_30 ft_9_10 ⟨rfl, rfl⟩ (fun z => by cases z) e_h16 ?_
    clear e_h16
    refine mx_S.pu (pc2 := 110) (lv2 := [(0, .ref a0), (1, .int a1)]) (st2 := [.ref a0]) hm dX8_readPrimary_109 rfl ?_
    refine mx_S.pu (pc2 := 111) (lv2 := [(0, .ref a0), (1, .int a1)]) (st2 := [.int a1, .ref a0]) hm dX8_readPrimary_110 rfl ?_
    replace hf := mx_gd_el hf; obtain ⟨c17, hf⟩ := hf
    replace hf := mx_sv_el hf; obtain ⟨u18, e_u18, hf⟩ := hf
    refine sx_cv hm dX8_readPrimary_111 rs_RX8_103 mt_X8_readArguments [.int a1] [] (b := a0) (ci := 8) rfl rfl rfl c17 (Nat.le_of_ble_eq_true rfl) (Nat.le_of_ble_eq_true rfl) (by omega) (by omega) (hrc.2.2.2.2.2 (by omega) (by omega) a0 a1 h16 e_u18) ?_
    clear e_u18
    show mx_S X F L 237 114 [(0, .ref a0), (1, .int a1)] [] u18 0 0 (none, r, 0, 0)
    refine mx_S.pu (pc2 := 160) (lv2 := [(0, .ref a0), (1, .int a1)]) (st2 := []) hm dX8_readPrimary_114 rfl ?_
    exact j_X8_readPrimary_160_ok X hF hL nn hrc a0 a1 u18 hf
  · rcases mx_if_el hf with ⟨n_1, hf⟩ | ⟨n_1, hf⟩
    · refine sx_look hm dX8_readPrimary_7 rfl (off := 73) (by rw [n_1]; rfl) (tgt := 80) rfl ?_
      clear n_0 n_1
      exact j_X8_readPrimary_80_ok X hF hL nn hrc a0 a1 u9.2 hf
    · rcases mx_if_el hf with ⟨n_2, hf⟩ | ⟨n_2, hf⟩
      · refine sx_look hm dX8_readPrimary_7 rfl (off := 73) (by rw [n_2]; rfl) (tgt := 80) rfl ?_
        clear n_0 n_1 n_2
        exact j_X8_readPrimary_80_ok X hF hL nn hrc a0 a1 u9.2 hf
      · rcases mx_if_el hf with ⟨n_3, hf⟩ | ⟨n_3, hf⟩
        · refine sx_look hm dX8_readPrimary_7 rfl (off := 137) (by rw [n_3]; rfl) (tgt := 144) rfl ?_
          clear n_0 n_1 n_2 n_3
          refine mx_S.pu (pc2 := 145) (lv2 := [(0, .ref a0), (1, .int a1)]) (st2 := [.ref a0]) hm dX8_readPrimary_144 rfl ?_
          refine mx_S.pu (pc2 := 146) (lv2 := [(0, .ref a0), (1, .int a1)]) (st2 := [.int a1, .ref a0]) hm dX8_readPrimary_145 rfl ?_
          replace hf := mx_gd_el hf; obtain ⟨c19, hf⟩ := hf
          replace hf := mx_sv_el hf; obtain ⟨u20, e_u20, hf⟩ := hf
          refine sx_cv hm dX8_readPrimary_146 rs_RX8_106 mt_X8_readNew [.int a1] [] (b := a0) (ci := 8) rfl rfl rfl c19 (Nat.le_of_ble_eq_true rfl) (Nat.le_of_ble_eq_true rfl) (by omega) (by omega) (hrc.2.2.2.2.1 (by omega) (by omega) a0 a1 u9.2 e_u20) ?_
          clear e_u20
          show mx_S X F L 237 149 [(0, .ref a0), (1, .int a1)] [] u20 0 0 (none, r, 0, 0)
          refine mx_S.pu (pc2 := 160) (lv2 := [(0, .ref a0), (1, .int a1)]) (st2 := []) hm dX8_readPrimary_149 rfl ?_
          exact j_X8_readPrimary_160_ok X hF hL nn hrc a0 a1 u20 hf
        · rcases mx_if_el hf with ⟨n_4, hf⟩ | ⟨n_4, hf⟩
          · refine sx_look hm dX8_readPrimary_7 rfl (off := 73) (by rw [n_4]; rfl) (tgt := 80) rfl ?_
            clear n_0 n_1 n_2 n_3 n_4
            exact j_X8_readPrimary_80_ok X hF hL nn hrc a0 a1 u9.2 hf
          · rcases mx_if_el hf with ⟨n_5, hf⟩ | ⟨n_5, hf⟩
            · refine sx_look hm dX8_readPrimary_7 rfl (off := 73) (by rw [n_5]; rfl) (tgt := 80) rfl ?_
              clear n_0 n_1 n_2 n_3 n_4 n_5
              exact j_X8_readPrimary_80_ok X hF hL nn hrc a0 a1 u9.2 hf
            · rcases mx_if_el hf with ⟨n_6, hf⟩ | ⟨n_6, hf⟩
              · refine sx_look hm dX8_readPrimary_7 rfl (off := 73) (by rw [n_6]; rfl) (tgt := 80) rfl ?_
                clear n_0 n_1 n_2 n_3 n_4 n_5 n_6
                exact j_X8_readPrimary_80_ok X hF hL nn hrc a0 a1 u9.2 hf
              · rcases mx_if_el hf with ⟨n_7, hf⟩ | ⟨n_7, hf⟩
                · refine sx_look hm dX8_readPrimary_7 rfl (off := 110) (by rw [n_7]; rfl) (tgt := 117) rfl ?_
                  clear n_0 n_1 n_2 n_3 n_4 n_5 n_6 n_7
                  refine mx_S.pu (pc2 := 118) (lv2 := [(0, .ref a0), (1, .int a1)]) (st2 := [.ref a0]) hm dX8_readPrimary_117 rfl ?_
                  replace hf := mx_sv_el hf; obtain ⟨v21, e_v21, hf⟩ := hf
                  refine sx_get hm dX8_readPrimary_118 rs_RX8_7 (xgr_el e_v21) ?_
                  clear e_v21
                  refine mx_S.pu (pc2 := 122) (lv2 := [(0, .ref a0), (1, .int a1)]) (st2 := [.ref v21, .ref v21]) hm dX8_readPrimary_121 rfl ?_
                  replace hf := mx_sv_el hf; obtain ⟨v22, e_v22, hf⟩ := hf
                  refine sx_get hm dX8_readPrimary_122 rs_RX8_30 (xgi_el e_v22) ?_
                  clear e_v22
                  refine sx_ic (v := 1) hm dX8_readPrimary_125 (by decide) ?_
                  replace hf := xl_el hf; obtain ⟨v23, e_v23, hf⟩ := hf
                  refine mx_S.pu (pc2 := 127) (lv2 := [(0, .ref a0), (1, .int a1)]) (st2 := [.int v23, .ref v21]) hm dX8_readPrimary_126 (by rw [← e_v23]; rfl) ?_
                  clear e_v23
                  replace hf := mx_sv_el hf; obtain ⟨h24, e_h24, hf⟩ := hf
                  refine sx_put hm dX8_readPrimary_127 rs_RX8_30 ft_9_10 ⟨rfl, rfl⟩ (fun z => by cases z) e_h24 ?_
                  clear e_h24
                  refine mx_S.pu (pc2 := 131) (lv2 := [(0, .ref a0), (1, .int a1)]) (st2 := [.ref a0]) hm dX8_readPrimary_130 rfl ?_
                  refine mx_S.pu (pc2 := 132) (lv2 := [(0, .ref a0), (1, .int a1)]) (st2 := [.int a1, .ref a0]) hm dX8_readPrimary_131 rfl ?_
                  replace hf := mx_gd_el hf; obtain ⟨c25, hf⟩ := hf
                  replace hf := mx_sv_el hf; obtain ⟨u26, e_u26, hf⟩ := hf
                  refine sx_cv hm dX8_readPrimary_132 rs_RX8_83 mt_X8_readValue [.int a1] [] (b := a0) (ci := 8) rfl rfl rfl c25 (Nat.le_of_ble_eq_true rfl) (Nat.le_of_ble_eq_true rfl) (by omega) (by omega) (hrc.1 (by omega) (by omega) a0 a1 h24 e_u26) ?_
                  clear e_u26
                  show mx_S X F L 237 135 [(0, .ref a0), (1, .int a1)] [] u26 0 0 (none, r, 0, 0)
                  refine mx_S.pu (pc2 := 136) (lv2 := [(0, .ref a0), (1, .int a1)]) (st2 := [.ref a0]) hm dX8_readPrimary_135 rfl ?_
                  refine sx_bi (v := 41) hm dX8_readPrimary_136 (by decide) ?_
                  replace hf := mx_gd_el hf; obtain ⟨c27, hf⟩ := hf
                  replace hf := mx_sv_el hf; obtain ⟨u28, e_u28, hf⟩ := hf
                  refine sx_cv hm dX8_readPrimary_138 rs_RX8_37 mt_X8_need [.int 41] [] (b := a0) (ci := 8) rfl rfl rfl c27 (Nat.le_of_ble_eq_true rfl) (Nat.le_of_ble_eq_true rfl) (by omega) (by omega) (f_X8_need_ok X (by omega) (by omega) nn a0 41 u26 e_u28) ?_
                  clear e_u28
                  show mx_S X F L 237 141 [(0, .ref a0), (1, .int a1)] [] u28 0 0 (none, r, 0, 0)
                  refine mx_S.pu (pc2 := 160) (lv2 := [(0, .ref a0), (1, .int a1)]) (st2 := []) hm dX8_readPrimary_141 rfl ?_
                  exact j_X8_readPrimary_160_ok X hF hL nn hrc a0 a1 u28 hf
                · refine sx_look hm dX8_readPrimary_7 rfl (off := 145) (by show Op.lookupswitch.offset [(2, 89), (3, 73), (17, 73), (21, 137), (22, 73), (26, 73), (28, 73), (40, 110)] 145 u9.1.toInt = _; rw [lv_osw n_0 (by decide), lv_osw n_1 (by decide), lv_osw n_2 (by decide), lv_osw n_3 (by decide), lv_osw n_4 (by decide), lv_osw n_5 (by decide), lv_osw n_6 (by decide), lv_osw n_7 (by decide)]; rfl) (tgt := 152) rfl ?_
                  refine mx_S.pu (pc2 := 153) (lv2 := [(0, .ref a0), (1, .int a1)]) (st2 := [.ref a0]) hm dX8_readPrimary_152 rfl ?_
                  replace hf := mx_sv_el hf; obtain ⟨v10, e_v10, hf⟩ := hf
                  refine sx_get hm dX8_readPrimary_153 rs_RX8_7 (xgr_el e_v10) ?_
                  clear e_v10
                  refine sx_ic (v := 2) hm dX8_readPrimary_156 (by decide) ?_
                  replace hf := mx_gd_el hf; obtain ⟨c11, hf⟩ := hf
                  replace hf := mx_sv_el hf; obtain ⟨u12, e_u12, hf⟩ := hf
                  refine sx_cv hm dX8_readPrimary_157 rs_RX8_33 mt_X9_tellHere [.int 2] [] (b := v10) (ci := 9) rfl rfl rfl c11 (Nat.le_of_ble_eq_true rfl) (Nat.le_of_ble_eq_true rfl) (by omega) (by omega) (f_X9_tellHere_ok X (by omega) (by omega) nn v10 2 u9.2 e_u12) ?_
                  clear e_u12
                  show mx_S X F L 237 160 [(0, .ref a0), (1, .int a1)] [] u12 0 0 (none, r, 0, 0)
                  exact j_X8_readPrimary_160_ok X hF hL nn hrc a0 a1 u12 hf
set_option maxHeartbeats 4000000 in
set_option maxRecDepth 20000 in
theorem w_X8_readBehind_4_ok (X : Nat × (Nat → Int32)) {F L d : Nat} (hF : 2 + (d + 1) ≤ F) (hL : 42 + (d + 1) * 23 ≤ L) (nn : Nat) {rc : tg_X8_readValue} (hrc : hg5_X8_readValue X d rc) : ∀ (k : Nat) (l0 : Nat) (l1 : Int32) (l2 : Int32) (l3 : Int32) (h : mx_H) (r : mx_H), w_X8_readBehind_4 nn rc k l0 l1 l2 l3 h = some r → mx_S X F L 238 4 [(0, .ref l0), (1, .int l1), (2, .int l2), (3, .int l3)] [] h 0 0 (none, r, 0, 0) := by
  have hm : mx_mt 238 = some (yX8_readBehind, cX8_readBehind, 4, none) := mt_X8_readBehind
  intro k
  induction k with
  | zero => intro l0 l1 l2 l3 h r hf; cases hf
  | succ k ih =>
    intro l0 l1 l2 l3 h r hf
    unfold w_X8_readBehind_4 at hf
    refine mx_S.pu (pc2 := 5) (lv2 := [(0, .ref l0), (1, .int l1), (2, .int l2), (3, .int l3)]) (st2 := [.int l3]) hm dX8_readBehind_4 rfl ?_
    refine sx_si (v := 3000) hm dX8_readBehind_5 (by decide) ?_
    rcases mx_if_el hf with ⟨c19, hf⟩ | ⟨c19, hf⟩
    · refine sb_ic_ge hm dX8_readBehind_8 (tgt := 68) rfl (fun _ => ?_) (fun z => absurd c19 z)
      cases hf
      exact sx_ret hm dX8_readBehind_68 rfl
    · refine sb_ic_ge hm dX8_readBehind_8 (tgt := 68) rfl (fun z => absurd z c19) (fun _ => ?_)
      refine mx_S.pu (pc2 := 12) (lv2 := [(0, .ref l0), (1, .int l1), (2, .int l2), (3, .int l3)]) (st2 := [.int l2]) hm dX8_readBehind_11 rfl ?_
      rcases mx_if_el hf with ⟨c18, hf⟩ | ⟨c18, hf⟩
      · refine sb_if_eq hm dX8_readBehind_12 (tgt := 68) rfl (fun _ => ?_) (fun z => absurd c18 z)
        cases hf
        exact sx_ret hm dX8_readBehind_68 rfl
      · refine sb_if_eq hm dX8_readBehind_12 (tgt := 68) rfl (fun z => absurd z c18) (fun _ => ?_)
        refine mx_S.pu (pc2 := 16) (lv2 := [(0, .ref l0), (1, .int l1), (2, .int l2), (3, .int l3)]) (st2 := [.ref l0]) hm dX8_readBehind_15 rfl ?_
        refine sx_bi (v := 48) hm dX8_readBehind_16 (by decide) ?_
        replace hf := mx_gd_el hf; obtain ⟨c1, hf⟩ := hf
        replace hf := mx_sv_el hf; obtain ⟨u2, e_u2, hf⟩ := hf
        refine sx_cv hm dX8_readBehind_18 rs_RX8_45 mt_X8_accept [.int 48] [] (b := l0) (ci := 8) rfl rfl rfl c1 (Nat.le_of_ble_eq_true rfl) (Nat.le_of_ble_eq_true rfl) (by omega) (by omega) (f_X8_accept_ok X (by omega) (by omega) nn l0 48 h e_u2) ?_
        clear e_u2
        show mx_S X F L 238 21 [(0, .ref l0), (1, .int l1), (2, .int l2), (3, .int l3)] [.int u2.1] u2.2 0 0 (none, r, 0, 0)
        rcases mx_if_el hf with ⟨c17, hf⟩ | ⟨c17, hf⟩
        · refine sb_if_eq hm dX8_readBehind_21 (tgt := 37) rfl (fun _ => ?_) (fun z => absurd c17 z)
          refine mx_S.pu (pc2 := 38) (lv2 := [(0, .ref l0), (1, .int l1), (2, .int l2), (3, .int l3)]) (st2 := [.ref l0]) hm dX8_readBehind_37 rfl ?_
          refine sx_bi (v := 44) hm dX8_readBehind_38 (by decide) ?_
          replace hf := mx_gd_el hf; obtain ⟨c3, hf⟩ := hf
          replace hf := mx_sv_el hf; obtain ⟨u4, e_u4, hf⟩ := hf
          refine sx_cv hm dX8_readBehind_40 rs_RX8_45 mt_X8_accept [.int 44] [] (b := l0) (ci := 8) rfl rfl rfl c3 (Nat.le_of_ble_eq_true rfl) (Nat.le_of_ble_eq_true rfl) (by omega) (by omega) (f_X8_accept_ok X (by omega) (by omega) nn l0 44 u2.2 e_u4) ?_
          clear e_u4
          show mx_S X F L 238 43 [(0, .ref l0), (1, .int l1), (2, .int l2), (3, .int l3)] [.int u4.1] u4.2 0 0 (none, r, 0, 0)
          rcases mx_if_el hf with ⟨c11, hf⟩ | ⟨c11, hf⟩
          · refine sb_if_eq hm dX8_readBehind_43 (tgt := 60) rfl (fun _ => ?_) (fun z => absurd c11 z)
            refine sx_ic (v := 0) hm dX8_readBehind_60 (by decide) ?_
            refine mx_S.pu (pc2 := 62) (lv2 := [(2, .int 0), (0, .ref l0), (1, .int l1), (3, .int l3)]) (st2 := []) hm dX8_readBehind_61 rfl ?_
            replace hf := xl_el hf; obtain ⟨v5, e_v5, hf⟩ := hf
            refine mx_S.pu (pc2 := 65) (lv2 := [(3, .int v5), (2, .int 0), (0, .ref l0), (1, .int l1)]) (st2 := []) hm dX8_readBehind_62 (by rw [← e_v5]; rfl) ?_
            clear e_v5
            refine mx_S.pu (pc2 := 4) (lv2 := [(3, .int v5), (2, .int 0), (0, .ref l0), (1, .int l1)]) (st2 := []) hm dX8_readBehind_65 rfl ?_
            refine mx_S.ext [(0, .ref l0), (1, .int l1), (2, .int 0), (3, .int v5)] (mx_sub_pos [2, 3, 1, 0] rfl (show ([3, 2, 0, 1] : List Nat).Nodup by decide)) ?_
            exact ih l0 l1 0 v5 u4.2 _ hf
          · refine sb_if_eq hm dX8_readBehind_43 (tgt := 60) rfl (fun z => absurd z c11) (fun _ => ?_)
            refine mx_S.pu (pc2 := 47) (lv2 := [(0, .ref l0), (1, .int l1), (2, .int l2), (3, .int l3)]) (st2 := [.ref l0]) hm dX8_readBehind_46 rfl ?_
            refine mx_S.pu (pc2 := 48) (lv2 := [(0, .ref l0), (1, .int l1), (2, .int l2), (3, .int l3)]) (st2 := [.int l1, .ref l0]) hm dX8_readBehind_47 rfl ?_
            replace hf := mx_gd_el hf; obtain ⟨c6, hf⟩ := hf
            replace hf := mx_sv_el hf; obtain ⟨u7, e_u7, hf⟩ := hf
            refine sx_cv hm dX8_readBehind_48 rs_RX8_83 mt_X8_readValue [.int l1] [] (b := l0) (ci := 8) rfl rfl rfl c6 (Nat.le_of_ble_eq_true rfl) (Nat.le_of_ble_eq_true rfl) (by omega) (by omega) (hrc.1 (by omega) (by omega) l0 l1 u4.2 e_u7) ?_
            clear e_u7
            show mx_S X F L 238 51 [(0, .ref l0), (1, .int l1), (2, .int l2), (3, .int l3)] [] u7 0 0 (none, r, 0, 0)
            refine mx_S.pu (pc2 := 52) (lv2 := [(0, .ref l0), (1, .int l1), (2, .int l2), (3, .int l3)]) (st2 := [.ref l0]) hm dX8_readBehind_51 rfl ?_
            refine sx_bi (v := 45) hm dX8_readBehind_52 (by decide) ?_
            replace hf := mx_gd_el hf; obtain ⟨c8, hf⟩ := hf
            replace hf := mx_sv_el hf; obtain ⟨u9, e_u9, hf⟩ := hf
            refine sx_cv hm dX8_readBehind_54 rs_RX8_37 mt_X8_need [.int 45] [] (b := l0) (ci := 8) rfl rfl rfl c8 (Nat.le_of_ble_eq_true rfl) (Nat.le_of_ble_eq_true rfl) (by omega) (by omega) (f_X8_need_ok X (by omega) (by omega) nn l0 45 u7 e_u9) ?_
            clear e_u9
            show mx_S X F L 238 57 [(0, .ref l0), (1, .int l1), (2, .int l2), (3, .int l3)] [] u9 0 0 (none, r, 0, 0)
            refine mx_S.pu (pc2 := 62) (lv2 := [(0, .ref l0), (1, .int l1), (2, .int l2), (3, .int l3)]) (st2 := []) hm dX8_readBehind_57 rfl ?_
            replace hf := xl_el hf; obtain ⟨v10, e_v10, hf⟩ := hf
            refine mx_S.pu (pc2 := 65) (lv2 := [(3, .int v10), (0, .ref l0), (1, .int l1), (2, .int l2)]) (st2 := []) hm dX8_readBehind_62 (by rw [← e_v10]; rfl) ?_
            clear e_v10
            refine mx_S.pu (pc2 := 4) (lv2 := [(3, .int v10), (0, .ref l0), (1, .int l1), (2, .int l2)]) (st2 := []) hm dX8_readBehind_65 rfl ?_
            refine mx_S.ext [(0, .ref l0), (1, .int l1), (2, .int l2), (3, .int v10)] (mx_sub_pos [1, 2, 3, 0] rfl (show ([3, 0, 1, 2] : List Nat).Nodup by decide)) ?_
            exact ih l0 l1 l2 v10 u9 _ hf
        · refine sb_if_eq hm dX8_readBehind_21 (tgt := 37) rfl (fun z => absurd z c17) (fun _ => ?_)
          refine mx_S.pu (pc2 := 25) (lv2 := [(0, .ref l0), (1, .int l1), (2, .int l2), (3, .int l3)]) (st2 := [.ref l0]) hm dX8_readBehind_24 rfl ?_
          refine sx_ic (v := 2) hm dX8_readBehind_25 (by decide) ?_
          replace hf := mx_gd_el hf; obtain ⟨c12, hf⟩ := hf
          replace hf := mx_sv_el hf; obtain ⟨u13, e_u13, hf⟩ := hf
          refine sx_cv hm dX8_readBehind_26 rs_RX8_37 mt_X8_need [.int 2] [] (b := l0) (ci := 8) rfl rfl rfl c12 (Nat.le_of_ble_eq_true rfl) (Nat.le_of_ble_eq_true rfl) (by omega) (by omega) (f_X8_need_ok X (by omega) (by omega) nn l0 2 u2.2 e_u13) ?_
          clear e_u13
          show mx_S X F L 238 29 [(0, .ref l0), (1, .int l1), (2, .int l2), (3, .int l3)] [] u13 0 0 (none, r, 0, 0)
          refine mx_S.pu (pc2 := 30) (lv2 := [(0, .ref l0), (1, .int l1), (2, .int l2), (3, .int l3)]) (st2 := [.ref l0]) hm dX8_readBehind_29 rfl ?_
          refine mx_S.pu (pc2 := 31) (lv2 := [(0, .ref l0), (1, .int l1), (2, .int l2), (3, .int l3)]) (st2 := [.int l1, .ref l0]) hm dX8_readBehind_30 rfl ?_
          replace hf := mx_gd_el hf; obtain ⟨c14, hf⟩ := hf
          replace hf := mx_sv_el hf; obtain ⟨u15, e_u15, hf⟩ := hf
          refine sx_cv hm dX8_readBehind_31 rs_RX8_103 mt_X8_readArguments [.int l1] [] (b := l0) (ci := 8) rfl rfl rfl c14 (Nat.le_of_ble_eq_true rfl) (Nat.le_of_ble_eq_true rfl) (by omega) (by omega) (hrc.2.2.2.2.2 (by omega) (by omega) l0 l1 u13 e_u15) ?_
          clear e_u15
          show mx_S X F L 238 34 [(0, .ref l0), (1, .int l1), (2, .int l2), (3, .int l3)] [] u15 0 0 (none, r, 0, 0)
          refine mx_S.pu (pc2 := 62) (lv2 := [(0, .ref l0), (1, .int l1), (2, .int l2), (3, .int l3)]) (st2 := []) hm dX8_readBehind_34 rfl ?_
          replace hf := xl_el hf; obtain ⟨v16, e_v16, hf⟩ := hf
          refine mx_S.pu (pc2 := 65) (lv2 := [(3, .int v16), (0, .ref l0), (1, .int l1), (2, .int l2)]) (st2 := []) hm dX8_readBehind_62 (by rw [← e_v16]; rfl) ?_
          clear e_v16
          refine mx_S.pu (pc2 := 4) (lv2 := [(3, .int v16), (0, .ref l0), (1, .int l1), (2, .int l2)]) (st2 := []) hm dX8_readBehind_65 rfl ?_
          refine mx_S.ext [(0, .ref l0), (1, .int l1), (2, .int l2), (3, .int v16)] (mx_sub_pos [1, 2, 3, 0] rfl (show ([3, 0, 1, 2] : List Nat).Nodup by decide)) ?_
          exact ih l0 l1 l2 v16 u15 _ hf
set_option maxHeartbeats 4000000 in
set_option maxRecDepth 20000 in
theorem o_X8_readBehind_ok (X : Nat × (Nat → Int32)) {F L d : Nat} (hF : 2 + (d + 1) ≤ F) (hL : 42 + (d + 1) * 23 ≤ L) (nn : Nat) {rc : tg_X8_readValue} (hrc : hg5_X8_readValue X d rc) (a0 : Nat) (a1 : Int32) (h : mx_H) {r : mx_H} (hf : o_X8_readBehind nn rc a0 a1 h = some r) : mx_R X F L 238 [.ref a0, .int a1] h (none, r, 0, 0) := by
  have hm : mx_mt 238 = some (yX8_readBehind, cX8_readBehind, 4, none) := mt_X8_readBehind
  show mx_S X F L 238 0 [(0, .ref a0), (1, .int a1)] [] h 0 0 (none, r, 0, 0)
  unfold o_X8_readBehind at hf
  refine sx_ic (v := 1) hm dX8_readBehind_0 (by decide) ?_
  refine mx_S.pu (pc2 := 2) (lv2 := [(2, .int 1), (0, .ref a0), (1, .int a1)]) (st2 := []) hm dX8_readBehind_1 rfl ?_
  refine sx_ic (v := 0) hm dX8_readBehind_2 (by decide) ?_
  refine mx_S.pu (pc2 := 4) (lv2 := [(3, .int 0), (2, .int 1), (0, .ref a0), (1, .int a1)]) (st2 := []) hm dX8_readBehind_3 rfl ?_
  refine mx_S.ext [(0, .ref a0), (1, .int a1), (2, .int 1), (3, .int 0)] (mx_sub_pos [2, 3, 1, 0] rfl (show ([3, 2, 0, 1] : List Nat).Nodup by decide)) ?_
  exact w_X8_readBehind_4_ok X hF hL nn hrc nn a0 a1 1 0 h _ hf
set_option maxHeartbeats 4000000 in
set_option maxRecDepth 20000 in
theorem j_X8_readNew_45_ok (X : Nat × (Nat → Int32)) {F L d : Nat} (hF : 2 + (d + 1) ≤ F) (hL : 42 + (d + 1) * 23 ≤ L) (nn : Nat) {rc : tg_X8_readValue} (hrc : hg5_X8_readValue X d rc) (l0 : Nat) (l1 : Int32) (h : mx_H) {r : mx_H} (hf : j_X8_readNew_45 nn rc l0 l1 h = some r) : mx_S X F L 239 45 [(0, .ref l0), (1, .int l1)] [] h 0 0 (none, r, 0, 0) := by
  have hm : mx_mt 239 = some (yX8_readNew, cX8_readNew, 3, none) := mt_X8_readNew
  unfold j_X8_readNew_45 at hf
  refine mx_S.pu (pc2 := 46) (lv2 := [(0, .ref l0), (1, .int l1)]) (st2 := [.ref l0]) hm dX8_readNew_45 rfl ?_
  refine sx_bi (v := 44) hm dX8_readNew_46 (by decide) ?_
  replace hf := mx_gd_el hf; obtain ⟨c1, hf⟩ := hf
  replace hf := mx_sv_el hf; obtain ⟨u2, e_u2, hf⟩ := hf
  refine sx_cv hm dX8_readNew_48 rs_RX8_37 mt_X8_need [.int 44] [] (b := l0) (ci := 8) rfl rfl rfl c1 (Nat.le_of_ble_eq_true rfl) (Nat.le_of_ble_eq_true rfl) (by omega) (by omega) (f_X8_need_ok X (by omega) (by omega) nn l0 44 h e_u2) ?_
  clear e_u2
  show mx_S X F L 239 51 [(0, .ref l0), (1, .int l1)] [] u2 0 0 (none, r, 0, 0)
  refine mx_S.pu (pc2 := 52) (lv2 := [(0, .ref l0), (1, .int l1)]) (st2 := [.ref l0]) hm dX8_readNew_51 rfl ?_
  refine mx_S.pu (pc2 := 53) (lv2 := [(0, .ref l0), (1, .int l1)]) (st2 := [.int l1, .ref l0]) hm dX8_readNew_52 rfl ?_
  replace hf := mx_gd_el hf; obtain ⟨c3, hf⟩ := hf
  replace hf := mx_sv_el hf; obtain ⟨u4, e_u4, hf⟩ := hf
  refine sx_cv hm dX8_readNew_53 rs_RX8_83 mt_X8_readValue [.int l1] [] (b := l0) (ci := 8) rfl rfl rfl c3 (Nat.le_of_ble_eq_true rfl) (Nat.le_of_ble_eq_true rfl) (by omega) (by omega) (hrc.1 (by omega) (by omega) l0 l1 u2 e_u4) ?_
  clear e_u4
  show mx_S X F L 239 56 [(0, .ref l0), (1, .int l1)] [] u4 0 0 (none, r, 0, 0)
  refine mx_S.pu (pc2 := 57) (lv2 := [(0, .ref l0), (1, .int l1)]) (st2 := [.ref l0]) hm dX8_readNew_56 rfl ?_
  refine sx_bi (v := 45) hm dX8_readNew_57 (by decide) ?_
  replace hf := mx_gd_el hf; obtain ⟨c5, hf⟩ := hf
  replace hf := mx_sv_el hf; obtain ⟨u6, e_u6, hf⟩ := hf
  refine sx_cv hm dX8_readNew_59 rs_RX8_37 mt_X8_need [.int 45] [] (b := l0) (ci := 8) rfl rfl rfl c5 (Nat.le_of_ble_eq_true rfl) (Nat.le_of_ble_eq_true rfl) (by omega) (by omega) (f_X8_need_ok X (by omega) (by omega) nn l0 45 u4 e_u6) ?_
  clear e_u6
  show mx_S X F L 239 62 [(0, .ref l0), (1, .int l1)] [] u6 0 0 (none, r, 0, 0)
  cases hf
  exact sx_ret hm dX8_readNew_62 rfl
set_option maxHeartbeats 4000000 in
set_option maxRecDepth 20000 in
theorem o_X8_readNew_ok (X : Nat × (Nat → Int32)) {F L d : Nat} (hF : 2 + (d + 1) ≤ F) (hL : 42 + (d + 1) * 23 ≤ L) (nn : Nat) {rc : tg_X8_readValue} (hrc : hg5_X8_readValue X d rc) (a0 : Nat) (a1 : Int32) (h : mx_H) {r : mx_H} (hf : o_X8_readNew nn rc a0 a1 h = some r) : mx_R X F L 239 [.ref a0, .int a1] h (none, r, 0, 0) := by
  have hm : mx_mt 239 = some (yX8_readNew, cX8_readNew, 3, none) := mt_X8_readNew
  show mx_S X F L 239 0 [(0, .ref a0), (1, .int a1)] [] h 0 0 (none, r, 0, 0)
  unfold o_X8_readNew at hf
  refine mx_S.pu (pc2 := 1) (lv2 := [(0, .ref a0), (1, .int a1)]) (st2 := [.ref a0]) hm dX8_readNew_0 rfl ?_
  replace hf := mx_sv_el hf; obtain ⟨v7, e_v7, hf⟩ := hf
  refine sx_get hm dX8_readNew_1 rs_RX8_7 (xgr_el e_v7) ?_
  clear e_v7
  refine mx_S.pu (pc2 := 5) (lv2 := [(0, .ref a0), (1, .int a1)]) (st2 := [.ref v7, .ref v7]) hm dX8_readNew_4 rfl ?_
  replace hf := mx_sv_el hf; obtain ⟨v8, e_v8, hf⟩ := hf
  refine sx_get hm dX8_readNew_5 rs_RX8_30 (xgi_el e_v8) ?_
  clear e_v8
  refine sx_ic (v := 1) hm dX8_readNew_8 (by decide) ?_
  replace hf := xl_el hf; obtain ⟨v9, e_v9, hf⟩ := hf
  refine mx_S.pu (pc2 := 10) (lv2 := [(0, .ref a0), (1, .int a1)]) (st2 := [.int v9, .ref v7]) hm dX8_readNew_9 (by rw [← e_v9]; rfl) ?_
  clear e_v9
  replace hf := mx_sv_el hf; obtain ⟨h10, e_h10, hf⟩ := hf
  refine sx_put hm dX8_readNew_10 rs_RX8_30 ft_9_10 ⟨rfl, rfl⟩ (fun z => by cases z) e_h10 ?_
  clear e_h10
  refine mx_S.pu (pc2 := 14) (lv2 := [(0, .ref a0), (1, .int a1)]) (st2 := [.ref a0]) hm dX8_readNew_13 rfl ?_
  refine sx_bi (v := 20) hm dX8_readNew_14 (by decide) ?_
  replace hf := mx_gd_el hf; obtain ⟨c11, hf⟩ := hf
  replace hf := mx_sv_el hf; obtain ⟨u12, e_u12, hf⟩ := hf
  refine sx_cv hm dX8_readNew_16 rs_RX8_45 mt_X8_accept [.int 20] [] (b := a0) (ci := 8) rfl rfl rfl c11 (Nat.le_of_ble_eq_true rfl) (Nat.le_of_ble_eq_true rfl) (by omega) (by omega) (f_X8_accept_ok X (by omega) (by omega) nn a0 20 h10 e_u12) ?_
  clear e_u12
  show mx_S X F L 239 19 [(0, .ref a0), (1, .int a1)] [.int u12.1] u12.2 0 0 (none, r, 0, 0)
  refine mx_S.pu (pc2 := 20) (lv2 := [(2, .int u12.1), (0, .ref a0), (1, .int a1)]) (st2 := []) hm dX8_readNew_19 rfl ?_
  refine mx_S.pu (pc2 := 21) (lv2 := [(2, .int u12.1), (0, .ref a0), (1, .int a1)]) (st2 := [.int u12.1]) hm dX8_readNew_20 rfl ?_
  rcases mx_if_el hf with ⟨c20, hf⟩ | ⟨c20, hf⟩
  · refine sb_if_ne hm dX8_readNew_21 (tgt := 45) rfl (fun _ => ?_) (fun z => absurd c20 z)
    refine mx_S.ext [(0, .ref a0), (1, .int a1)] (mx_sub_pos [1, 2] rfl (show ([2, 0, 1] : List Nat).Nodup by decide)) ?_
    exact j_X8_readNew_45_ok X hF hL nn hrc a0 a1 u12.2 hf
  · refine sb_if_ne hm dX8_readNew_21 (tgt := 45) rfl (fun z => absurd z c20) (fun _ => ?_)
    refine mx_S.pu (pc2 := 25) (lv2 := [(2, .int u12.1), (0, .ref a0), (1, .int a1)]) (st2 := [.ref a0]) hm dX8_readNew_24 rfl ?_
    refine sx_ic (v := 2) hm dX8_readNew_25 (by decide) ?_
    replace hf := mx_gd_el hf; obtain ⟨c13, hf⟩ := hf
    replace hf := mx_sv_el hf; obtain ⟨u14, e_u14, hf⟩ := hf
    refine sx_cv hm dX8_readNew_26 rs_RX8_37 mt_X8_need [.int 2] [] (b := a0) (ci := 8) rfl rfl rfl c13 (Nat.le_of_ble_eq_true rfl) (Nat.le_of_ble_eq_true rfl) (by omega) (by omega) (f_X8_need_ok X (by omega) (by omega) nn a0 2 u12.2 e_u14) ?_
    clear e_u14
    show mx_S X F L 239 29 [(2, .int u12.1), (0, .ref a0), (1, .int a1)] [] u14 0 0 (none, r, 0, 0)
    refine mx_S.pu (pc2 := 30) (lv2 := [(2, .int u12.1), (0, .ref a0), (1, .int a1)]) (st2 := [.ref a0]) hm dX8_readNew_29 rfl ?_
    refine sx_bi (v := 40) hm dX8_readNew_30 (by decide) ?_
    replace hf := mx_gd_el hf; obtain ⟨c15, hf⟩ := hf
    replace hf := mx_sv_el hf; obtain ⟨u16, e_u16, hf⟩ := hf
    refine sx_cv hm dX8_readNew_32 rs_RX8_45 mt_X8_accept [.int 40] [] (b := a0) (ci := 8) rfl rfl rfl c15 (Nat.le_of_ble_eq_true rfl) (Nat.le_of_ble_eq_true rfl) (by omega) (by omega) (f_X8_accept_ok X (by omega) (by omega) nn a0 40 u14 e_u16) ?_
    clear e_u16
    show mx_S X F L 239 35 [(2, .int u12.1), (0, .ref a0), (1, .int a1)] [.int u16.1] u16.2 0 0 (none, r, 0, 0)
    rcases mx_if_el hf with ⟨c19, hf⟩ | ⟨c19, hf⟩
    · refine sb_if_eq hm dX8_readNew_35 (tgt := 45) rfl (fun _ => ?_) (fun z => absurd c19 z)
      refine mx_S.ext [(0, .ref a0), (1, .int a1)] (mx_sub_pos [1, 2] rfl (show ([2, 0, 1] : List Nat).Nodup by decide)) ?_
      exact j_X8_readNew_45_ok X hF hL nn hrc a0 a1 u16.2 hf
    · refine sb_if_eq hm dX8_readNew_35 (tgt := 45) rfl (fun z => absurd z c19) (fun _ => ?_)
      refine mx_S.pu (pc2 := 39) (lv2 := [(2, .int u12.1), (0, .ref a0), (1, .int a1)]) (st2 := [.ref a0]) hm dX8_readNew_38 rfl ?_
      refine sx_bi (v := 41) hm dX8_readNew_39 (by decide) ?_
      replace hf := mx_gd_el hf; obtain ⟨c17, hf⟩ := hf
      replace hf := mx_sv_el hf; obtain ⟨u18, e_u18, hf⟩ := hf
      refine sx_cv hm dX8_readNew_41 rs_RX8_37 mt_X8_need [.int 41] [] (b := a0) (ci := 8) rfl rfl rfl c17 (Nat.le_of_ble_eq_true rfl) (Nat.le_of_ble_eq_true rfl) (by omega) (by omega) (f_X8_need_ok X (by omega) (by omega) nn a0 41 u16.2 e_u18) ?_
      clear e_u18
      show mx_S X F L 239 44 [(2, .int u12.1), (0, .ref a0), (1, .int a1)] [] u18 0 0 (none, r, 0, 0)
      cases hf
      exact sx_ret hm dX8_readNew_44 rfl
set_option maxHeartbeats 4000000 in
set_option maxRecDepth 20000 in
theorem j_X8_readArguments_52_ok (X : Nat × (Nat → Int32)) {F L d : Nat} (hF : 2 + (d + 1) ≤ F) (hL : 42 + (d + 1) * 23 ≤ L) (nn : Nat) {rc : tg_X8_readValue} (hrc : hg5_X8_readValue X d rc) (l0 : Nat) (h : mx_H) {r : mx_H} (hf : j_X8_readArguments_52 nn rc l0 h = some r) : mx_S X F L 240 52 [(0, .ref l0)] [] h 0 0 (none, r, 0, 0) := by
  have hm : mx_mt 240 = some (yX8_readArguments, cX8_readArguments, 4, none) := mt_X8_readArguments
  unfold j_X8_readArguments_52 at hf
  refine mx_S.pu (pc2 := 53) (lv2 := [(0, .ref l0)]) (st2 := [.ref l0]) hm dX8_readArguments_52 rfl ?_
  refine sx_bi (v := 41) hm dX8_readArguments_53 (by decide) ?_
  replace hf := mx_gd_el hf; obtain ⟨c1, hf⟩ := hf
  replace hf := mx_sv_el hf; obtain ⟨u2, e_u2, hf⟩ := hf
  refine sx_cv hm dX8_readArguments_55 rs_RX8_37 mt_X8_need [.int 41] [] (b := l0) (ci := 8) rfl rfl rfl c1 (Nat.le_of_ble_eq_true rfl) (Nat.le_of_ble_eq_true rfl) (by omega) (by omega) (f_X8_need_ok X (by omega) (by omega) nn l0 41 h e_u2) ?_
  clear e_u2
  show mx_S X F L 240 58 [(0, .ref l0)] [] u2 0 0 (none, r, 0, 0)
  cases hf
  exact sx_ret hm dX8_readArguments_58 rfl
set_option maxHeartbeats 4000000 in
set_option maxRecDepth 20000 in
theorem w_X8_readArguments_23_ok (X : Nat × (Nat → Int32)) {F L d : Nat} (hF : 2 + (d + 1) ≤ F) (hL : 42 + (d + 1) * 23 ≤ L) (nn : Nat) {rc : tg_X8_readValue} (hrc : hg5_X8_readValue X d rc) : ∀ (k : Nat) (l0 : Nat) (l1 : Int32) (l2 : Int32) (l3 : Int32) (h : mx_H) (r : mx_H), w_X8_readArguments_23 nn rc k l0 l1 l2 l3 h = some r → mx_S X F L 240 23 [(0, .ref l0), (1, .int l1), (2, .int l2), (3, .int l3)] [] h 0 0 (none, r, 0, 0) := by
  have hm : mx_mt 240 = some (yX8_readArguments, cX8_readArguments, 4, none) := mt_X8_readArguments
  intro k
  induction k with
  | zero => intro l0 l1 l2 l3 h r hf; cases hf
  | succ k ih =>
    intro l0 l1 l2 l3 h r hf
    unfold w_X8_readArguments_23 at hf
    refine mx_S.pu (pc2 := 24) (lv2 := [(0, .ref l0), (1, .int l1), (2, .int l2), (3, .int l3)]) (st2 := [.int l3]) hm dX8_readArguments_23 rfl ?_
    refine sx_si (v := 3000) hm dX8_readArguments_24 (by decide) ?_
    rcases mx_if_el hf with ⟨c9, hf⟩ | ⟨c9, hf⟩
    · refine sb_ic_ge hm dX8_readArguments_27 (tgt := 52) rfl (fun _ => ?_) (fun z => absurd c9 z)
      refine mx_S.ext [(0, .ref l0)] (mx_sub_pos [0] rfl (show ([0, 1, 2, 3] : List Nat).Nodup by decide)) ?_
      exact j_X8_readArguments_52_ok X hF hL nn hrc l0 h hf
    · refine sb_ic_ge hm dX8_readArguments_27 (tgt := 52) rfl (fun z => absurd z c9) (fun _ => ?_)
      refine mx_S.pu (pc2 := 31) (lv2 := [(0, .ref l0), (1, .int l1), (2, .int l2), (3, .int l3)]) (st2 := [.int l2]) hm dX8_readArguments_30 rfl ?_
      rcases mx_if_el hf with ⟨c8, hf⟩ | ⟨c8, hf⟩
      · refine sb_if_eq hm dX8_readArguments_31 (tgt := 52) rfl (fun _ => ?_) (fun z => absurd c8 z)
        refine mx_S.ext [(0, .ref l0)] (mx_sub_pos [0] rfl (show ([0, 1, 2, 3] : List Nat).Nodup by decide)) ?_
        exact j_X8_readArguments_52_ok X hF hL nn hrc l0 h hf
      · refine sb_if_eq hm dX8_readArguments_31 (tgt := 52) rfl (fun z => absurd z c8) (fun _ => ?_)
        refine mx_S.pu (pc2 := 35) (lv2 := [(0, .ref l0), (1, .int l1), (2, .int l2), (3, .int l3)]) (st2 := [.ref l0]) hm dX8_readArguments_34 rfl ?_
        refine mx_S.pu (pc2 := 36) (lv2 := [(0, .ref l0), (1, .int l1), (2, .int l2), (3, .int l3)]) (st2 := [.int l1, .ref l0]) hm dX8_readArguments_35 rfl ?_
        replace hf := mx_gd_el hf; obtain ⟨c3, hf⟩ := hf
        replace hf := mx_sv_el hf; obtain ⟨u4, e_u4, hf⟩ := hf
        refine sx_cv hm dX8_readArguments_36 rs_RX8_83 mt_X8_readValue [.int l1] [] (b := l0) (ci := 8) rfl rfl rfl c3 (Nat.le_of_ble_eq_true rfl) (Nat.le_of_ble_eq_true rfl) (by omega) (by omega) (hrc.1 (by omega) (by omega) l0 l1 h e_u4) ?_
        clear e_u4
        show mx_S X F L 240 39 [(0, .ref l0), (1, .int l1), (2, .int l2), (3, .int l3)] [] u4 0 0 (none, r, 0, 0)
        refine mx_S.pu (pc2 := 40) (lv2 := [(0, .ref l0), (1, .int l1), (2, .int l2), (3, .int l3)]) (st2 := [.ref l0]) hm dX8_readArguments_39 rfl ?_
        refine sx_bi (v := 47) hm dX8_readArguments_40 (by decide) ?_
        replace hf := mx_gd_el hf; obtain ⟨c5, hf⟩ := hf
        replace hf := mx_sv_el hf; obtain ⟨u6, e_u6, hf⟩ := hf
        refine sx_cv hm dX8_readArguments_42 rs_RX8_45 mt_X8_accept [.int 47] [] (b := l0) (ci := 8) rfl rfl rfl c5 (Nat.le_of_ble_eq_true rfl) (Nat.le_of_ble_eq_true rfl) (by omega) (by omega) (f_X8_accept_ok X (by omega) (by omega) nn l0 47 u4 e_u6) ?_
        clear e_u6
        show mx_S X F L 240 45 [(0, .ref l0), (1, .int l1), (2, .int l2), (3, .int l3)] [.int u6.1] u6.2 0 0 (none, r, 0, 0)
        refine mx_S.pu (pc2 := 46) (lv2 := [(2, .int u6.1), (0, .ref l0), (1, .int l1), (3, .int l3)]) (st2 := []) hm dX8_readArguments_45 rfl ?_
        replace hf := xl_el hf; obtain ⟨v7, e_v7, hf⟩ := hf
        refine mx_S.pu (pc2 := 49) (lv2 := [(3, .int v7), (2, .int u6.1), (0, .ref l0), (1, .int l1)]) (st2 := []) hm dX8_readArguments_46 (by rw [← e_v7]; rfl) ?_
        clear e_v7
        refine mx_S.pu (pc2 := 23) (lv2 := [(3, .int v7), (2, .int u6.1), (0, .ref l0), (1, .int l1)]) (st2 := []) hm dX8_readArguments_49 rfl ?_
        refine mx_S.ext [(0, .ref l0), (1, .int l1), (2, .int u6.1), (3, .int v7)] (mx_sub_pos [2, 3, 1, 0] rfl (show ([3, 2, 0, 1] : List Nat).Nodup by decide)) ?_
        exact ih l0 l1 u6.1 v7 u6.2 _ hf
set_option maxHeartbeats 4000000 in
set_option maxRecDepth 20000 in
theorem o_X8_readArguments_ok (X : Nat × (Nat → Int32)) {F L d : Nat} (hF : 2 + (d + 1) ≤ F) (hL : 42 + (d + 1) * 23 ≤ L) (nn : Nat) {rc : tg_X8_readValue} (hrc : hg5_X8_readValue X d rc) (a0 : Nat) (a1 : Int32) (h : mx_H) {r : mx_H} (hf : o_X8_readArguments nn rc a0 a1 h = some r) : mx_R X F L 240 [.ref a0, .int a1] h (none, r, 0, 0) := by
  have hm : mx_mt 240 = some (yX8_readArguments, cX8_readArguments, 4, none) := mt_X8_readArguments
  show mx_S X F L 240 0 [(0, .ref a0), (1, .int a1)] [] h 0 0 (none, r, 0, 0)
  unfold o_X8_readArguments at hf
  refine mx_S.pu (pc2 := 1) (lv2 := [(0, .ref a0), (1, .int a1)]) (st2 := [.ref a0]) hm dX8_readArguments_0 rfl ?_
  refine sx_bi (v := 40) hm dX8_readArguments_1 (by decide) ?_
  replace hf := mx_gd_el hf; obtain ⟨c10, hf⟩ := hf
  replace hf := mx_sv_el hf; obtain ⟨u11, e_u11, hf⟩ := hf
  refine sx_cv hm dX8_readArguments_3 rs_RX8_45 mt_X8_accept [.int 40] [] (b := a0) (ci := 8) rfl rfl rfl c10 (Nat.le_of_ble_eq_true rfl) (Nat.le_of_ble_eq_true rfl) (by omega) (by omega) (f_X8_accept_ok X (by omega) (by omega) nn a0 40 h e_u11) ?_
  clear e_u11
  show mx_S X F L 240 6 [(0, .ref a0), (1, .int a1)] [.int u11.1] u11.2 0 0 (none, r, 0, 0)
  rcases mx_if_el hf with ⟨c15, hf⟩ | ⟨c15, hf⟩
  · refine sb_if_eq hm dX8_readArguments_6 (tgt := 18) rfl (fun _ => ?_) (fun z => absurd c15 z)
    cases hf
    exact sx_ret hm dX8_readArguments_18 rfl
  · refine sb_if_eq hm dX8_readArguments_6 (tgt := 18) rfl (fun z => absurd z c15) (fun _ => ?_)
    refine mx_S.pu (pc2 := 10) (lv2 := [(0, .ref a0), (1, .int a1)]) (st2 := [.ref a0]) hm dX8_readArguments_9 rfl ?_
    refine sx_bi (v := 41) hm dX8_readArguments_10 (by decide) ?_
    replace hf := mx_gd_el hf; obtain ⟨c12, hf⟩ := hf
    replace hf := mx_sv_el hf; obtain ⟨u13, e_u13, hf⟩ := hf
    refine sx_cv hm dX8_readArguments_12 rs_RX8_45 mt_X8_accept [.int 41] [] (b := a0) (ci := 8) rfl rfl rfl c12 (Nat.le_of_ble_eq_true rfl) (Nat.le_of_ble_eq_true rfl) (by omega) (by omega) (f_X8_accept_ok X (by omega) (by omega) nn a0 41 u11.2 e_u13) ?_
    clear e_u13
    show mx_S X F L 240 15 [(0, .ref a0), (1, .int a1)] [.int u13.1] u13.2 0 0 (none, r, 0, 0)
    rcases mx_if_el hf with ⟨c14, hf⟩ | ⟨c14, hf⟩
    · refine sb_if_eq hm dX8_readArguments_15 (tgt := 19) rfl (fun _ => ?_) (fun z => absurd c14 z)
      refine sx_ic (v := 1) hm dX8_readArguments_19 (by decide) ?_
      refine mx_S.pu (pc2 := 21) (lv2 := [(2, .int 1), (0, .ref a0), (1, .int a1)]) (st2 := []) hm dX8_readArguments_20 rfl ?_
      refine sx_ic (v := 0) hm dX8_readArguments_21 (by decide) ?_
      refine mx_S.pu (pc2 := 23) (lv2 := [(3, .int 0), (2, .int 1), (0, .ref a0), (1, .int a1)]) (st2 := []) hm dX8_readArguments_22 rfl ?_
      refine mx_S.ext [(0, .ref a0), (1, .int a1), (2, .int 1), (3, .int 0)] (mx_sub_pos [2, 3, 1, 0] rfl (show ([3, 2, 0, 1] : List Nat).Nodup by decide)) ?_
      exact w_X8_readArguments_23_ok X hF hL nn hrc nn a0 a1 1 0 u13.2 _ hf
    · refine sb_if_eq hm dX8_readArguments_15 (tgt := 19) rfl (fun z => absurd z c14) (fun _ => ?_)
      cases hf
      exact sx_ret hm dX8_readArguments_18 rfl
theorem g_X8_readValue_ok (X : Nat × (Nat → Int32)) (nn : Nat) : ∀ d, hg5_X8_readValue X d (g_X8_readValue nn d) := by
  intro d
  induction d with
  | zero => exact ⟨(fun {F L} _ _ a0 a1 h {r} hf => by cases hf), (fun {F L} _ _ a0 a1 h {r} hf => by cases hf), (fun {F L} _ _ a0 a1 h {r} hf => by cases hf), (fun {F L} _ _ a0 a1 h {r} hf => by cases hf), (fun {F L} _ _ a0 a1 h {r} hf => by cases hf), (fun {F L} _ _ a0 a1 h {r} hf => by cases hf)⟩
  | succ d ih => exact ⟨(fun {F L} hF hL a0 a1 h {r} hf => o_X8_readValue_ok X hF hL nn ih a0 a1 h hf), (fun {F L} hF hL a0 a1 h {r} hf => o_X8_readUnary_ok X hF hL nn ih a0 a1 h hf), (fun {F L} hF hL a0 a1 h {r} hf => o_X8_readPrimary_ok X hF hL nn ih a0 a1 h hf), (fun {F L} hF hL a0 a1 h {r} hf => o_X8_readBehind_ok X hF hL nn ih a0 a1 h hf), (fun {F L} hF hL a0 a1 h {r} hf => o_X8_readNew_ok X hF hL nn ih a0 a1 h hf), (fun {F L} hF hL a0 a1 h {r} hf => o_X8_readArguments_ok X hF hL nn ih a0 a1 h hf)⟩
theorem f_X8_readValue_ok (X : Nat × (Nat → Int32)) {F L : Nat} (hF : 262 ≤ F) (hL : 6022 ≤ L) (nn : Nat) (a0 : Nat) (a1 : Int32) (h : mx_H) {r : mx_H} (hf : f_X8_readValue nn a0 a1 h = some r) : mx_R X F L 234 [.ref a0, .int a1] h (none, r, 0, 0) := (g_X8_readValue_ok X nn 260).1 (by omega) (by omega) a0 a1 h hf
theorem f_X8_readUnary_ok (X : Nat × (Nat → Int32)) {F L : Nat} (hF : 262 ≤ F) (hL : 6022 ≤ L) (nn : Nat) (a0 : Nat) (a1 : Int32) (h : mx_H) {r : mx_H} (hf : f_X8_readUnary nn a0 a1 h = some r) : mx_R X F L 236 [.ref a0, .int a1] h (none, r, 0, 0) := (g_X8_readValue_ok X nn 260).2.1 (by omega) (by omega) a0 a1 h hf
theorem f_X8_readPrimary_ok (X : Nat × (Nat → Int32)) {F L : Nat} (hF : 262 ≤ F) (hL : 6022 ≤ L) (nn : Nat) (a0 : Nat) (a1 : Int32) (h : mx_H) {r : mx_H} (hf : f_X8_readPrimary nn a0 a1 h = some r) : mx_R X F L 237 [.ref a0, .int a1] h (none, r, 0, 0) := (g_X8_readValue_ok X nn 260).2.2.1 (by omega) (by omega) a0 a1 h hf
theorem f_X8_readBehind_ok (X : Nat × (Nat → Int32)) {F L : Nat} (hF : 262 ≤ F) (hL : 6022 ≤ L) (nn : Nat) (a0 : Nat) (a1 : Int32) (h : mx_H) {r : mx_H} (hf : f_X8_readBehind nn a0 a1 h = some r) : mx_R X F L 238 [.ref a0, .int a1] h (none, r, 0, 0) := (g_X8_readValue_ok X nn 260).2.2.2.1 (by omega) (by omega) a0 a1 h hf
theorem f_X8_readNew_ok (X : Nat × (Nat → Int32)) {F L : Nat} (hF : 262 ≤ F) (hL : 6022 ≤ L) (nn : Nat) (a0 : Nat) (a1 : Int32) (h : mx_H) {r : mx_H} (hf : f_X8_readNew nn a0 a1 h = some r) : mx_R X F L 239 [.ref a0, .int a1] h (none, r, 0, 0) := (g_X8_readValue_ok X nn 260).2.2.2.2.1 (by omega) (by omega) a0 a1 h hf
theorem f_X8_readArguments_ok (X : Nat × (Nat → Int32)) {F L : Nat} (hF : 262 ≤ F) (hL : 6022 ≤ L) (nn : Nat) (a0 : Nat) (a1 : Int32) (h : mx_H) {r : mx_H} (hf : f_X8_readArguments nn a0 a1 h = some r) : mx_R X F L 240 [.ref a0, .int a1] h (none, r, 0, 0) := (g_X8_readValue_ok X nn 260).2.2.2.2.2 (by omega) (by omega) a0 a1 h hf
set_option maxHeartbeats 4000000 in
set_option maxRecDepth 20000 in
theorem f_X8_readCondition_ok (X : Nat × (Nat → Int32)) {F L : Nat} (hF : 263 ≤ F) (hL : 6045 ≤ L) (nn : Nat) (a0 : Nat) (a1 : Int32) (h : mx_H) {r : mx_H} (hf : f_X8_readCondition nn a0 a1 h = some r) : mx_R X F L 231 [.ref a0, .int a1] h (none, r, 0, 0) := by
  have hm : mx_mt 231 = some (yX8_readCondition, cX8_readCondition, 2, none) := mt_X8_readCondition
  show mx_S X F L 231 0 [(0, .ref a0), (1, .int a1)] [] h 0 0 (none, r, 0, 0)
  unfold f_X8_readCondition at hf
  refine mx_S.pu (pc2 := 1) (lv2 := [(0, .ref a0), (1, .int a1)]) (st2 := [.ref a0]) hm dX8_readCondition_0 rfl ?_
  replace hf := mx_sv_el hf; obtain ⟨v1, e_v1, hf⟩ := hf
  refine sx_get hm dX8_readCondition_1 rs_RX8_7 (xgr_el e_v1) ?_
  clear e_v1
  refine mx_S.pu (pc2 := 5) (lv2 := [(0, .ref a0), (1, .int a1)]) (st2 := [.ref v1, .ref v1]) hm dX8_readCondition_4 rfl ?_
  replace hf := mx_sv_el hf; obtain ⟨v2, e_v2, hf⟩ := hf
  refine sx_get hm dX8_readCondition_5 rs_RX8_30 (xgi_el e_v2) ?_
  clear e_v2
  refine sx_ic (v := 1) hm dX8_readCondition_8 (by decide) ?_
  replace hf := xl_el hf; obtain ⟨v3, e_v3, hf⟩ := hf
  refine mx_S.pu (pc2 := 10) (lv2 := [(0, .ref a0), (1, .int a1)]) (st2 := [.int v3, .ref v1]) hm dX8_readCondition_9 (by rw [← e_v3]; rfl) ?_
  clear e_v3
  replace hf := mx_sv_el hf; obtain ⟨h4, e_h4, hf⟩ := hf
  refine sx_put hm dX8_readCondition_10 rs_RX8_30 ft_9_10 ⟨rfl, rfl⟩ (fun z => by cases z) e_h4 ?_
  clear e_h4
  refine mx_S.pu (pc2 := 14) (lv2 := [(0, .ref a0), (1, .int a1)]) (st2 := [.ref a0]) hm dX8_readCondition_13 rfl ?_
  refine sx_bi (v := 40) hm dX8_readCondition_14 (by decide) ?_
  replace hf := mx_gd_el hf; obtain ⟨c5, hf⟩ := hf
  replace hf := mx_sv_el hf; obtain ⟨u6, e_u6, hf⟩ := hf
  refine sx_cv hm dX8_readCondition_16 rs_RX8_37 mt_X8_need [.int 40] [] (b := a0) (ci := 8) rfl rfl rfl c5 (Nat.le_of_ble_eq_true rfl) (Nat.le_of_ble_eq_true rfl) (by omega) (by omega) (f_X8_need_ok X (by omega) (by omega) nn a0 40 h4 e_u6) ?_
  clear e_u6
  show mx_S X F L 231 19 [(0, .ref a0), (1, .int a1)] [] u6 0 0 (none, r, 0, 0)
  refine mx_S.pu (pc2 := 20) (lv2 := [(0, .ref a0), (1, .int a1)]) (st2 := [.ref a0]) hm dX8_readCondition_19 rfl ?_
  refine mx_S.pu (pc2 := 21) (lv2 := [(0, .ref a0), (1, .int a1)]) (st2 := [.int a1, .ref a0]) hm dX8_readCondition_20 rfl ?_
  replace hf := mx_gd_el hf; obtain ⟨c7, hf⟩ := hf
  replace hf := mx_sv_el hf; obtain ⟨u8, e_u8, hf⟩ := hf
  refine sx_cv hm dX8_readCondition_21 rs_RX8_83 mt_X8_readValue [.int a1] [] (b := a0) (ci := 8) rfl rfl rfl c7 (Nat.le_of_ble_eq_true rfl) (Nat.le_of_ble_eq_true rfl) (by omega) (by omega) (f_X8_readValue_ok X (by omega) (by omega) nn a0 a1 u6 e_u8) ?_
  clear e_u8
  show mx_S X F L 231 24 [(0, .ref a0), (1, .int a1)] [] u8 0 0 (none, r, 0, 0)
  refine mx_S.pu (pc2 := 25) (lv2 := [(0, .ref a0), (1, .int a1)]) (st2 := [.ref a0]) hm dX8_readCondition_24 rfl ?_
  refine sx_bi (v := 41) hm dX8_readCondition_25 (by decide) ?_
  replace hf := mx_gd_el hf; obtain ⟨c9, hf⟩ := hf
  replace hf := mx_sv_el hf; obtain ⟨u10, e_u10, hf⟩ := hf
  refine sx_cv hm dX8_readCondition_27 rs_RX8_37 mt_X8_need [.int 41] [] (b := a0) (ci := 8) rfl rfl rfl c9 (Nat.le_of_ble_eq_true rfl) (Nat.le_of_ble_eq_true rfl) (by omega) (by omega) (f_X8_need_ok X (by omega) (by omega) nn a0 41 u8 e_u10) ?_
  clear e_u10
  show mx_S X F L 231 30 [(0, .ref a0), (1, .int a1)] [] u10 0 0 (none, r, 0, 0)
  cases hf
  exact sx_ret hm dX8_readCondition_30 rfl
set_option maxHeartbeats 4000000 in
set_option maxRecDepth 20000 in
theorem j_X8_readPlain_56_ok (X : Nat × (Nat → Int32)) {F L : Nat} (hF : 264 ≤ F) (hL : 6066 ≤ L) (nn : Nat) (l0 : Nat) (h : mx_H) {r : mx_H} (hf : j_X8_readPlain_56 nn l0 h = some r) : mx_S X F L 233 56 [(0, .ref l0)] [] h 0 0 (none, r, 0, 0) := by
  have hm : mx_mt 233 = some (yX8_readPlain, cX8_readPlain, 2, none) := mt_X8_readPlain
  unfold j_X8_readPlain_56 at hf
  refine mx_S.pu (pc2 := 57) (lv2 := [(0, .ref l0)]) (st2 := [.ref l0]) hm dX8_readPlain_56 rfl ?_
  replace hf := mx_sv_el hf; obtain ⟨v1, e_v1, hf⟩ := hf
  refine sx_get hm dX8_readPlain_57 rs_RX8_7 (xgr_el e_v1) ?_
  clear e_v1
  refine mx_S.pu (pc2 := 61) (lv2 := [(0, .ref l0)]) (st2 := [.ref v1, .ref v1]) hm dX8_readPlain_60 rfl ?_
  replace hf := mx_sv_el hf; obtain ⟨v2, e_v2, hf⟩ := hf
  refine sx_get hm dX8_readPlain_61 rs_RX8_30 (xgi_el e_v2) ?_
  clear e_v2
  refine sx_ic (v := 1) hm dX8_readPlain_64 (by decide) ?_
  replace hf := xl_el hf; obtain ⟨v3, e_v3, hf⟩ := hf
  refine mx_S.pu (pc2 := 66) (lv2 := [(0, .ref l0)]) (st2 := [.int v3, .ref v1]) hm dX8_readPlain_65 (by rw [← e_v3]; rfl) ?_
  clear e_v3
  replace hf := mx_sv_el hf; obtain ⟨h4, e_h4, hf⟩ := hf
  refine sx_put hm dX8_readPlain_66 rs_RX8_30 ft_9_10 ⟨rfl, rfl⟩ (fun z => by cases z) e_h4 ?_
  clear e_h4
  refine mx_S.pu (pc2 := 153) (lv2 := [(0, .ref l0)]) (st2 := []) hm dX8_readPlain_69 rfl ?_
  cases hf
  exact sx_ret hm dX8_readPlain_153 rfl
set_option maxHeartbeats 4000000 in
set_option maxRecDepth 20000 in
theorem f_X8_readPlain_ok (X : Nat × (Nat → Int32)) {F L : Nat} (hF : 264 ≤ F) (hL : 6066 ≤ L) (nn : Nat) (a0 : Nat) (a1 : Int32) (h : mx_H) {r : mx_H} (hf : f_X8_readPlain nn a0 a1 h = some r) : mx_R X F L 233 [.ref a0, .int a1] h (none, r, 0, 0) := by
  have hm : mx_mt 233 = some (yX8_readPlain, cX8_readPlain, 2, none) := mt_X8_readPlain
  show mx_S X F L 233 0 [(0, .ref a0), (1, .int a1)] [] h 0 0 (none, r, 0, 0)
  unfold f_X8_readPlain at hf
  refine mx_S.pu (pc2 := 1) (lv2 := [(0, .ref a0), (1, .int a1)]) (st2 := [.ref a0]) hm dX8_readPlain_0 rfl ?_
  replace hf := mx_sv_el hf; obtain ⟨v5, e_v5, hf⟩ := hf
  refine sx_get hm dX8_readPlain_1 rs_RX8_7 (xgr_el e_v5) ?_
  clear e_v5
  replace hf := mx_gd_el hf; obtain ⟨c6, hf⟩ := hf
  replace hf := mx_sv_el hf; obtain ⟨u7, e_u7, hf⟩ := hf
  refine sx_cv hm dX8_readPlain_4 rs_RX8_23 mt_X9_kind [] [] (b := v5) (ci := 9) rfl rfl rfl c6 (Nat.le_of_ble_eq_true rfl) (Nat.le_of_ble_eq_true rfl) (by omega) (by omega) (f_X9_kind_ok X (by omega) (by omega) nn v5 h e_u7) ?_
  clear e_u7
  show mx_S X F L 233 7 [(0, .ref a0), (1, .int a1)] [.int u7.1] u7.2 0 0 (none, r, 0, 0)
  rcases mx_if_el hf with ⟨n_0, hf⟩ | ⟨n_0, hf⟩
  · refine sx_look hm dX8_readPlain_7 rfl (off := 49) (by rw [n_0]; rfl) (tgt := 56) rfl ?_
    clear n_0
    refine mx_S.ext [(0, .ref a0)] (mx_sub_pos [0] rfl (show ([0, 1] : List Nat).Nodup by decide)) ?_
    exact j_X8_readPlain_56_ok X hF hL nn a0 u7.2 hf
  · rcases mx_if_el hf with ⟨n_1, hf⟩ | ⟨n_1, hf⟩
    · refine sx_look hm dX8_readPlain_7 rfl (off := 49) (by rw [n_1]; rfl) (tgt := 56) rfl ?_
      clear n_0 n_1
      refine mx_S.ext [(0, .ref a0)] (mx_sub_pos [0] rfl (show ([0, 1] : List Nat).Nodup by decide)) ?_
      exact j_X8_readPlain_56_ok X hF hL nn a0 u7.2 hf
    · rcases mx_if_el hf with ⟨n_2, hf⟩ | ⟨n_2, hf⟩
      · refine sx_look hm dX8_readPlain_7 rfl (off := 119) (by rw [n_2]; rfl) (tgt := 126) rfl ?_
        clear n_0 n_1 n_2
        refine mx_S.pu (pc2 := 127) (lv2 := [(0, .ref a0), (1, .int a1)]) (st2 := [.ref a0]) hm dX8_readPlain_126 rfl ?_
        refine mx_S.pu (pc2 := 128) (lv2 := [(0, .ref a0), (1, .int a1)]) (st2 := [.int a1, .ref a0]) hm dX8_readPlain_127 rfl ?_
        replace hf := mx_gd_el hf; obtain ⟨c15, hf⟩ := hf
        replace hf := mx_sv_el hf; obtain ⟨u16, e_u16, hf⟩ := hf
        refine sx_cv hm dX8_readPlain_128 rs_RX8_67 mt_X8_readCondition [.int a1] [] (b := a0) (ci := 8) rfl rfl rfl c15 (Nat.le_of_ble_eq_true rfl) (Nat.le_of_ble_eq_true rfl) (by omega) (by omega) (f_X8_readCondition_ok X (by omega) (by omega) nn a0 a1 u7.2 e_u16) ?_
        clear e_u16
        show mx_S X F L 233 131 [(0, .ref a0), (1, .int a1)] [] u16 0 0 (none, r, 0, 0)
        refine mx_S.pu (pc2 := 153) (lv2 := [(0, .ref a0), (1, .int a1)]) (st2 := []) hm dX8_readPlain_131 rfl ?_
        cases hf
        exact sx_ret hm dX8_readPlain_153 rfl
      · rcases mx_if_el hf with ⟨n_3, hf⟩ | ⟨n_3, hf⟩
        · refine sx_look hm dX8_readPlain_7 rfl (off := 65) (by rw [n_3]; rfl) (tgt := 72) rfl ?_
          clear n_0 n_1 n_2 n_3
          refine mx_S.pu (pc2 := 73) (lv2 := [(0, .ref a0), (1, .int a1)]) (st2 := [.ref a0]) hm dX8_readPlain_72 rfl ?_
          replace hf := mx_sv_el hf; obtain ⟨v17, e_v17, hf⟩ := hf
          refine sx_get hm dX8_readPlain_73 rs_RX8_7 (xgr_el e_v17) ?_
          clear e_v17
          refine mx_S.pu (pc2 := 77) (lv2 := [(0, .ref a0), (1, .int a1)]) (st2 := [.ref v17, .ref v17]) hm dX8_readPlain_76 rfl ?_
          replace hf := mx_sv_el hf; obtain ⟨v18, e_v18, hf⟩ := hf
          refine sx_get hm dX8_readPlain_77 rs_RX8_30 (xgi_el e_v18) ?_
          clear e_v18
          refine sx_ic (v := 1) hm dX8_readPlain_80 (by decide) ?_
          replace hf := xl_el hf; obtain ⟨v19, e_v19, hf⟩ := hf
          refine mx_S.pu (pc2 := 82) (lv2 := [(0, .ref a0), (1, .int a1)]) (st2 := [.int v19, .ref v17]) hm dX8_readPlain_81 (by rw [← e_v19]; rfl) ?_
          clear e_v19
          replace hf := mx_sv_el hf; obtain ⟨h20, e_h20, hf⟩ := hf
          refine sx_put hm dX8_readPlain_82 rs_RX8_30 ft_9_10 ⟨rfl, rfl⟩ (fun z => by cases z) e_h20 ?_
          clear e_h20
          refine mx_S.pu (pc2 := 86) (lv2 := [(0, .ref a0), (1, .int a1)]) (st2 := [.ref a0]) hm dX8_readPlain_85 rfl ?_
          replace hf := mx_sv_el hf; obtain ⟨v21, e_v21, hf⟩ := hf
          refine sx_get hm dX8_readPlain_86 rs_RX8_7 (xgr_el e_v21) ?_
          clear e_v21
          replace hf := mx_gd_el hf; obtain ⟨c22, hf⟩ := hf
          replace hf := mx_sv_el hf; obtain ⟨u23, e_u23, hf⟩ := hf
          refine sx_cv hm dX8_readPlain_89 rs_RX8_23 mt_X9_kind [] [] (b := v21) (ci := 9) rfl rfl rfl c22 (Nat.le_of_ble_eq_true rfl) (Nat.le_of_ble_eq_true rfl) (by omega) (by omega) (f_X9_kind_ok X (by omega) (by omega) nn v21 h20 e_u23) ?_
          clear e_u23
          show mx_S X F L 233 92 [(0, .ref a0), (1, .int a1)] [.int u23.1] u23.2 0 0 (none, r, 0, 0)
          refine sx_bi (v := 46) hm dX8_readPlain_92 (by decide) ?_
          rcases mx_if_el hf with ⟨c26, hf⟩ | ⟨c26, hf⟩
          · refine sb_ic_eq hm dX8_readPlain_94 (tgt := 153) rfl (fun _ => ?_) (fun z => absurd c26 z)
            cases hf
            exact sx_ret hm dX8_readPlain_153 rfl
          · refine sb_ic_eq hm dX8_readPlain_94 (tgt := 153) rfl (fun z => absurd z c26) (fun _ => ?_)
            refine mx_S.pu (pc2 := 98) (lv2 := [(0, .ref a0), (1, .int a1)]) (st2 := [.ref a0]) hm dX8_readPlain_97 rfl ?_
            refine mx_S.pu (pc2 := 99) (lv2 := [(0, .ref a0), (1, .int a1)]) (st2 := [.int a1, .ref a0]) hm dX8_readPlain_98 rfl ?_
            replace hf := mx_gd_el hf; obtain ⟨c24, hf⟩ := hf
            replace hf := mx_sv_el hf; obtain ⟨u25, e_u25, hf⟩ := hf
            refine sx_cv hm dX8_readPlain_99 rs_RX8_83 mt_X8_readValue [.int a1] [] (b := a0) (ci := 8) rfl rfl rfl c24 (Nat.le_of_ble_eq_true rfl) (Nat.le_of_ble_eq_true rfl) (by omega) (by omega) (f_X8_readValue_ok X (by omega) (by omega) nn a0 a1 u23.2 e_u25) ?_
            clear e_u25
            show mx_S X F L 233 102 [(0, .ref a0), (1, .int a1)] [] u25 0 0 (none, r, 0, 0)
            refine mx_S.pu (pc2 := 153) (lv2 := [(0, .ref a0), (1, .int a1)]) (st2 := []) hm dX8_readPlain_102 rfl ?_
            cases hf
            exact sx_ret hm dX8_readPlain_153 rfl
        · rcases mx_if_el hf with ⟨n_4, hf⟩ | ⟨n_4, hf⟩
          · refine sx_look hm dX8_readPlain_7 rfl (off := 98) (by rw [n_4]; rfl) (tgt := 105) rfl ?_
            clear n_0 n_1 n_2 n_3 n_4
            refine mx_S.pu (pc2 := 106) (lv2 := [(0, .ref a0), (1, .int a1)]) (st2 := [.ref a0]) hm dX8_readPlain_105 rfl ?_
            replace hf := mx_sv_el hf; obtain ⟨v27, e_v27, hf⟩ := hf
            refine sx_get hm dX8_readPlain_106 rs_RX8_7 (xgr_el e_v27) ?_
            clear e_v27
            refine mx_S.pu (pc2 := 110) (lv2 := [(0, .ref a0), (1, .int a1)]) (st2 := [.ref v27, .ref v27]) hm dX8_readPlain_109 rfl ?_
            replace hf := mx_sv_el hf; obtain ⟨v28, e_v28, hf⟩ := hf
            refine sx_get hm dX8_readPlain_110 rs_RX8_30 (xgi_el e_v28) ?_
            clear e_v28
            refine sx_ic (v := 1) hm dX8_readPlain_113 (by decide) ?_
            replace hf := xl_el hf; obtain ⟨v29, e_v29, hf⟩ := hf
            refine mx_S.pu (pc2 := 115) (lv2 := [(0, .ref a0), (1, .int a1)]) (st2 := [.int v29, .ref v27]) hm dX8_readPlain_114 (by rw [← e_v29]; rfl) ?_
            clear e_v29
            replace hf := mx_sv_el hf; obtain ⟨h30, e_h30, hf⟩ := hf
            refine sx_put hm dX8_readPlain_115 rs_RX8_30 ft_9_10 ⟨rfl, rfl⟩ (fun z => by cases z) e_h30 ?_
            clear e_h30
            refine mx_S.pu (pc2 := 119) (lv2 := [(0, .ref a0), (1, .int a1)]) (st2 := [.ref a0]) hm dX8_readPlain_118 rfl ?_
            refine mx_S.pu (pc2 := 120) (lv2 := [(0, .ref a0), (1, .int a1)]) (st2 := [.int a1, .ref a0]) hm dX8_readPlain_119 rfl ?_
            replace hf := mx_gd_el hf; obtain ⟨c31, hf⟩ := hf
            replace hf := mx_sv_el hf; obtain ⟨u32, e_u32, hf⟩ := hf
            refine sx_cv hm dX8_readPlain_120 rs_RX8_83 mt_X8_readValue [.int a1] [] (b := a0) (ci := 8) rfl rfl rfl c31 (Nat.le_of_ble_eq_true rfl) (Nat.le_of_ble_eq_true rfl) (by omega) (by omega) (f_X8_readValue_ok X (by omega) (by omega) nn a0 a1 h30 e_u32) ?_
            clear e_u32
            show mx_S X F L 233 123 [(0, .ref a0), (1, .int a1)] [] u32 0 0 (none, r, 0, 0)
            refine mx_S.pu (pc2 := 153) (lv2 := [(0, .ref a0), (1, .int a1)]) (st2 := []) hm dX8_readPlain_123 rfl ?_
            cases hf
            exact sx_ret hm dX8_readPlain_153 rfl
          · refine sx_look hm dX8_readPlain_7 rfl (off := 127) (by show Op.lookupswitch.offset [(11, 49), (14, 49), (23, 119), (24, 65), (27, 98)] 127 u7.1.toInt = _; rw [lv_osw n_0 (by decide), lv_osw n_1 (by decide), lv_osw n_2 (by decide), lv_osw n_3 (by decide), lv_osw n_4 (by decide)]; rfl) (tgt := 134) rfl ?_
            refine mx_S.pu (pc2 := 135) (lv2 := [(0, .ref a0), (1, .int a1)]) (st2 := [.ref a0]) hm dX8_readPlain_134 rfl ?_
            refine mx_S.pu (pc2 := 136) (lv2 := [(0, .ref a0), (1, .int a1)]) (st2 := [.int a1, .ref a0]) hm dX8_readPlain_135 rfl ?_
            replace hf := mx_gd_el hf; obtain ⟨c8, hf⟩ := hf
            replace hf := mx_sv_el hf; obtain ⟨u9, e_u9, hf⟩ := hf
            refine sx_cv hm dX8_readPlain_136 rs_RX8_83 mt_X8_readValue [.int a1] [] (b := a0) (ci := 8) rfl rfl rfl c8 (Nat.le_of_ble_eq_true rfl) (Nat.le_of_ble_eq_true rfl) (by omega) (by omega) (f_X8_readValue_ok X (by omega) (by omega) nn a0 a1 u7.2 e_u9) ?_
            clear e_u9
            show mx_S X F L 233 139 [(0, .ref a0), (1, .int a1)] [] u9 0 0 (none, r, 0, 0)
            refine mx_S.pu (pc2 := 140) (lv2 := [(0, .ref a0), (1, .int a1)]) (st2 := [.ref a0]) hm dX8_readPlain_139 rfl ?_
            refine sx_bi (v := 51) hm dX8_readPlain_140 (by decide) ?_
            replace hf := mx_gd_el hf; obtain ⟨c10, hf⟩ := hf
            replace hf := mx_sv_el hf; obtain ⟨u11, e_u11, hf⟩ := hf
            refine sx_cv hm dX8_readPlain_142 rs_RX8_45 mt_X8_accept [.int 51] [] (b := a0) (ci := 8) rfl rfl rfl c10 (Nat.le_of_ble_eq_true rfl) (Nat.le_of_ble_eq_true rfl) (by omega) (by omega) (f_X8_accept_ok X (by omega) (by omega) nn a0 51 u9 e_u11) ?_
            clear e_u11
            show mx_S X F L 233 145 [(0, .ref a0), (1, .int a1)] [.int u11.1] u11.2 0 0 (none, r, 0, 0)
            rcases mx_if_el hf with ⟨c14, hf⟩ | ⟨c14, hf⟩
            · refine sb_if_eq hm dX8_readPlain_145 (tgt := 153) rfl (fun _ => ?_) (fun z => absurd c14 z)
              cases hf
              exact sx_ret hm dX8_readPlain_153 rfl
            · refine sb_if_eq hm dX8_readPlain_145 (tgt := 153) rfl (fun z => absurd z c14) (fun _ => ?_)
              refine mx_S.pu (pc2 := 149) (lv2 := [(0, .ref a0), (1, .int a1)]) (st2 := [.ref a0]) hm dX8_readPlain_148 rfl ?_
              refine mx_S.pu (pc2 := 150) (lv2 := [(0, .ref a0), (1, .int a1)]) (st2 := [.int a1, .ref a0]) hm dX8_readPlain_149 rfl ?_
              replace hf := mx_gd_el hf; obtain ⟨c12, hf⟩ := hf
              replace hf := mx_sv_el hf; obtain ⟨u13, e_u13, hf⟩ := hf
              refine sx_cv hm dX8_readPlain_150 rs_RX8_83 mt_X8_readValue [.int a1] [] (b := a0) (ci := 8) rfl rfl rfl c12 (Nat.le_of_ble_eq_true rfl) (Nat.le_of_ble_eq_true rfl) (by omega) (by omega) (f_X8_readValue_ok X (by omega) (by omega) nn a0 a1 u11.2 e_u13) ?_
              clear e_u13
              show mx_S X F L 233 153 [(0, .ref a0), (1, .int a1)] [] u13 0 0 (none, r, 0, 0)
              cases hf
              exact sx_ret hm dX8_readPlain_153 rfl
set_option maxHeartbeats 4000000 in
set_option maxRecDepth 20000 in
theorem j_X8_readType_24_ok (X : Nat × (Nat → Int32)) {F L : Nat} (hF : 2 ≤ F) (hL : 42 ≤ L) (nn : Nat) (l0 : Nat) (h : mx_H) {r : mx_H} (hf : j_X8_readType_24 nn l0 h = some r) : mx_S X F L 227 24 [(0, .ref l0)] [] h 0 0 (none, r, 0, 0) := by
  have hm : mx_mt 227 = some (yX8_readType, cX8_readType, 1, none) := mt_X8_readType
  unfold j_X8_readType_24 at hf
  refine mx_S.pu (pc2 := 25) (lv2 := [(0, .ref l0)]) (st2 := [.ref l0]) hm dX8_readType_24 rfl ?_
  refine sx_bi (v := 44) hm dX8_readType_25 (by decide) ?_
  replace hf := mx_gd_el hf; obtain ⟨c1, hf⟩ := hf
  replace hf := mx_sv_el hf; obtain ⟨u2, e_u2, hf⟩ := hf
  refine sx_cv hm dX8_readType_27 rs_RX8_45 mt_X8_accept [.int 44] [] (b := l0) (ci := 8) rfl rfl rfl c1 (Nat.le_of_ble_eq_true rfl) (Nat.le_of_ble_eq_true rfl) (by omega) (by omega) (f_X8_accept_ok X (by omega) (by omega) nn l0 44 h e_u2) ?_
  clear e_u2
  show mx_S X F L 227 30 [(0, .ref l0)] [.int u2.1] u2.2 0 0 (none, r, 0, 0)
  rcases mx_if_el hf with ⟨c5, hf⟩ | ⟨c5, hf⟩
  · refine sb_if_eq hm dX8_readType_30 (tgt := 39) rfl (fun _ => ?_) (fun z => absurd c5 z)
    cases hf
    exact sx_ret hm dX8_readType_39 rfl
  · refine sb_if_eq hm dX8_readType_30 (tgt := 39) rfl (fun z => absurd z c5) (fun _ => ?_)
    refine mx_S.pu (pc2 := 34) (lv2 := [(0, .ref l0)]) (st2 := [.ref l0]) hm dX8_readType_33 rfl ?_
    refine sx_bi (v := 45) hm dX8_readType_34 (by decide) ?_
    replace hf := mx_gd_el hf; obtain ⟨c3, hf⟩ := hf
    replace hf := mx_sv_el hf; obtain ⟨u4, e_u4, hf⟩ := hf
    refine sx_cv hm dX8_readType_36 rs_RX8_37 mt_X8_need [.int 45] [] (b := l0) (ci := 8) rfl rfl rfl c3 (Nat.le_of_ble_eq_true rfl) (Nat.le_of_ble_eq_true rfl) (by omega) (by omega) (f_X8_need_ok X (by omega) (by omega) nn l0 45 u2.2 e_u4) ?_
    clear e_u4
    show mx_S X F L 227 39 [(0, .ref l0)] [] u4 0 0 (none, r, 0, 0)
    cases hf
    exact sx_ret hm dX8_readType_39 rfl
set_option maxHeartbeats 4000000 in
set_option maxRecDepth 20000 in
theorem f_X8_readType_ok (X : Nat × (Nat → Int32)) {F L : Nat} (hF : 2 ≤ F) (hL : 42 ≤ L) (nn : Nat) (a0 : Nat) (h : mx_H) {r : mx_H} (hf : f_X8_readType nn a0 h = some r) : mx_R X F L 227 [.ref a0] h (none, r, 0, 0) := by
  have hm : mx_mt 227 = some (yX8_readType, cX8_readType, 1, none) := mt_X8_readType
  show mx_S X F L 227 0 [(0, .ref a0)] [] h 0 0 (none, r, 0, 0)
  unfold f_X8_readType at hf
  refine mx_S.pu (pc2 := 1) (lv2 := [(0, .ref a0)]) (st2 := [.ref a0]) hm dX8_readType_0 rfl ?_
  refine sx_bi (v := 10) hm dX8_readType_1 (by decide) ?_
  replace hf := mx_gd_el hf; obtain ⟨c6, hf⟩ := hf
  replace hf := mx_sv_el hf; obtain ⟨u7, e_u7, hf⟩ := hf
  refine sx_cv hm dX8_readType_3 rs_RX8_45 mt_X8_accept [.int 10] [] (b := a0) (ci := 8) rfl rfl rfl c6 (Nat.le_of_ble_eq_true rfl) (Nat.le_of_ble_eq_true rfl) (by omega) (by omega) (f_X8_accept_ok X (by omega) (by omega) nn a0 10 h e_u7) ?_
  clear e_u7
  show mx_S X F L 227 6 [(0, .ref a0)] [.int u7.1] u7.2 0 0 (none, r, 0, 0)
  rcases mx_if_el hf with ⟨c13, hf⟩ | ⟨c13, hf⟩
  · refine sb_if_eq hm dX8_readType_6 (tgt := 10) rfl (fun _ => ?_) (fun z => absurd c13 z)
    refine mx_S.pu (pc2 := 11) (lv2 := [(0, .ref a0)]) (st2 := [.ref a0]) hm dX8_readType_10 rfl ?_
    refine sx_bi (v := 20) hm dX8_readType_11 (by decide) ?_
    replace hf := mx_gd_el hf; obtain ⟨c8, hf⟩ := hf
    replace hf := mx_sv_el hf; obtain ⟨u9, e_u9, hf⟩ := hf
    refine sx_cv hm dX8_readType_13 rs_RX8_45 mt_X8_accept [.int 20] [] (b := a0) (ci := 8) rfl rfl rfl c8 (Nat.le_of_ble_eq_true rfl) (Nat.le_of_ble_eq_true rfl) (by omega) (by omega) (f_X8_accept_ok X (by omega) (by omega) nn a0 20 u7.2 e_u9) ?_
    clear e_u9
    show mx_S X F L 227 16 [(0, .ref a0)] [.int u9.1] u9.2 0 0 (none, r, 0, 0)
    rcases mx_if_el hf with ⟨c12, hf⟩ | ⟨c12, hf⟩
    · refine sb_if_ne hm dX8_readType_16 (tgt := 24) rfl (fun _ => ?_) (fun z => absurd c12 z)
      exact j_X8_readType_24_ok X hF hL nn a0 u9.2 hf
    · refine sb_if_ne hm dX8_readType_16 (tgt := 24) rfl (fun z => absurd z c12) (fun _ => ?_)
      refine mx_S.pu (pc2 := 20) (lv2 := [(0, .ref a0)]) (st2 := [.ref a0]) hm dX8_readType_19 rfl ?_
      refine sx_ic (v := 2) hm dX8_readType_20 (by decide) ?_
      replace hf := mx_gd_el hf; obtain ⟨c10, hf⟩ := hf
      replace hf := mx_sv_el hf; obtain ⟨u11, e_u11, hf⟩ := hf
      refine sx_cv hm dX8_readType_21 rs_RX8_37 mt_X8_need [.int 2] [] (b := a0) (ci := 8) rfl rfl rfl c10 (Nat.le_of_ble_eq_true rfl) (Nat.le_of_ble_eq_true rfl) (by omega) (by omega) (f_X8_need_ok X (by omega) (by omega) nn a0 2 u9.2 e_u11) ?_
      clear e_u11
      show mx_S X F L 227 24 [(0, .ref a0)] [] u11 0 0 (none, r, 0, 0)
      exact j_X8_readType_24_ok X hF hL nn a0 u11 hf
  · refine sb_if_eq hm dX8_readType_6 (tgt := 10) rfl (fun z => absurd z c13) (fun _ => ?_)
    cases hf
    exact sx_ret hm dX8_readType_9 rfl
set_option maxHeartbeats 4000000 in
set_option maxRecDepth 20000 in
theorem f_X8_readVariable_ok (X : Nat × (Nat → Int32)) {F L : Nat} (hF : 263 ≤ F) (hL : 6045 ≤ L) (nn : Nat) (a0 : Nat) (a1 : Int32) (h : mx_H) {r : mx_H} (hf : f_X8_readVariable nn a0 a1 h = some r) : mx_R X F L 230 [.ref a0, .int a1] h (none, r, 0, 0) := by
  have hm : mx_mt 230 = some (yX8_readVariable, cX8_readVariable, 2, none) := mt_X8_readVariable
  show mx_S X F L 230 0 [(0, .ref a0), (1, .int a1)] [] h 0 0 (none, r, 0, 0)
  unfold f_X8_readVariable at hf
  refine mx_S.pu (pc2 := 1) (lv2 := [(0, .ref a0), (1, .int a1)]) (st2 := [.ref a0]) hm dX8_readVariable_0 rfl ?_
  replace hf := mx_gd_el hf; obtain ⟨c1, hf⟩ := hf
  replace hf := mx_sv_el hf; obtain ⟨u2, e_u2, hf⟩ := hf
  refine sx_cv hm dX8_readVariable_1 rs_RX8_52 mt_X8_readType [] [] (b := a0) (ci := 8) rfl rfl rfl c1 (Nat.le_of_ble_eq_true rfl) (Nat.le_of_ble_eq_true rfl) (by omega) (by omega) (f_X8_readType_ok X (by omega) (by omega) nn a0 h e_u2) ?_
  clear e_u2
  show mx_S X F L 230 4 [(0, .ref a0), (1, .int a1)] [] u2 0 0 (none, r, 0, 0)
  refine mx_S.pu (pc2 := 5) (lv2 := [(0, .ref a0), (1, .int a1)]) (st2 := [.ref a0]) hm dX8_readVariable_4 rfl ?_
  refine sx_ic (v := 2) hm dX8_readVariable_5 (by decide) ?_
  replace hf := mx_gd_el hf; obtain ⟨c3, hf⟩ := hf
  replace hf := mx_sv_el hf; obtain ⟨u4, e_u4, hf⟩ := hf
  refine sx_cv hm dX8_readVariable_6 rs_RX8_37 mt_X8_need [.int 2] [] (b := a0) (ci := 8) rfl rfl rfl c3 (Nat.le_of_ble_eq_true rfl) (Nat.le_of_ble_eq_true rfl) (by omega) (by omega) (f_X8_need_ok X (by omega) (by omega) nn a0 2 u2 e_u4) ?_
  clear e_u4
  show mx_S X F L 230 9 [(0, .ref a0), (1, .int a1)] [] u4 0 0 (none, r, 0, 0)
  refine mx_S.pu (pc2 := 10) (lv2 := [(0, .ref a0), (1, .int a1)]) (st2 := [.ref a0]) hm dX8_readVariable_9 rfl ?_
  refine sx_bi (v := 51) hm dX8_readVariable_10 (by decide) ?_
  replace hf := mx_gd_el hf; obtain ⟨c5, hf⟩ := hf
  replace hf := mx_sv_el hf; obtain ⟨u6, e_u6, hf⟩ := hf
  refine sx_cv hm dX8_readVariable_12 rs_RX8_37 mt_X8_need [.int 51] [] (b := a0) (ci := 8) rfl rfl rfl c5 (Nat.le_of_ble_eq_true rfl) (Nat.le_of_ble_eq_true rfl) (by omega) (by omega) (f_X8_need_ok X (by omega) (by omega) nn a0 51 u4 e_u6) ?_
  clear e_u6
  show mx_S X F L 230 15 [(0, .ref a0), (1, .int a1)] [] u6 0 0 (none, r, 0, 0)
  refine mx_S.pu (pc2 := 16) (lv2 := [(0, .ref a0), (1, .int a1)]) (st2 := [.ref a0]) hm dX8_readVariable_15 rfl ?_
  refine mx_S.pu (pc2 := 17) (lv2 := [(0, .ref a0), (1, .int a1)]) (st2 := [.int a1, .ref a0]) hm dX8_readVariable_16 rfl ?_
  replace hf := mx_gd_el hf; obtain ⟨c7, hf⟩ := hf
  replace hf := mx_sv_el hf; obtain ⟨u8, e_u8, hf⟩ := hf
  refine sx_cv hm dX8_readVariable_17 rs_RX8_83 mt_X8_readValue [.int a1] [] (b := a0) (ci := 8) rfl rfl rfl c7 (Nat.le_of_ble_eq_true rfl) (Nat.le_of_ble_eq_true rfl) (by omega) (by omega) (f_X8_readValue_ok X (by omega) (by omega) nn a0 a1 u6 e_u8) ?_
  clear e_u8
  show mx_S X F L 230 20 [(0, .ref a0), (1, .int a1)] [] u8 0 0 (none, r, 0, 0)
  cases hf
  exact sx_ret hm dX8_readVariable_20 rfl
def hg5_X8_readBlock (X : Nat × (Nat → Int32)) (d : Nat) (rc : tg_X8_readBlock) : Prop := (∀ {F L : Nat}, 265 + d ≤ F → 6087 + d * 22 ≤ L → ∀ (a0 : Nat) (a1 : Int32) (h : mx_H) {r : mx_H}, rc.1 a0 a1 h = some r → mx_R X F L 228 [.ref a0, .int a1] h (none, r, 0, 0)) ∧ (∀ {F L : Nat}, 265 + d ≤ F → 6087 + d * 22 ≤ L → ∀ (a0 : Nat) (a1 : Int32) (h : mx_H) {r : mx_H}, rc.2.1 a0 a1 h = some r → mx_R X F L 229 [.ref a0, .int a1] h (none, r, 0, 0)) ∧ (∀ {F L : Nat}, 265 + d ≤ F → 6087 + d * 22 ≤ L → ∀ (a0 : Nat) (a1 : Int32) (h : mx_H) {r : mx_H}, rc.2.2 a0 a1 h = some r → mx_R X F L 232 [.ref a0, .int a1] h (none, r, 0, 0))
set_option maxHeartbeats 4000000 in
set_option maxRecDepth 20000 in
theorem j_X8_readBlock_48_ok (X : Nat × (Nat → Int32)) {F L d : Nat} (hF : 265 + (d + 1) ≤ F) (hL : 6087 + (d + 1) * 22 ≤ L) (nn : Nat) {rc : tg_X8_readBlock} (hrc : hg5_X8_readBlock X d rc) (l0 : Nat) (h : mx_H) {r : mx_H} (hf : j_X8_readBlock_48 nn rc l0 h = some r) : mx_S X F L 228 48 [(0, .ref l0)] [] h 0 0 (none, r, 0, 0) := by
  have hm : mx_mt 228 = some (yX8_readBlock, cX8_readBlock, 3, none) := mt_X8_readBlock
  unfold j_X8_readBlock_48 at hf
  refine mx_S.pu (pc2 := 49) (lv2 := [(0, .ref l0)]) (st2 := [.ref l0]) hm dX8_readBlock_48 rfl ?_
  refine sx_bi (v := 43) hm dX8_readBlock_49 (by decide) ?_
  replace hf := mx_gd_el hf; obtain ⟨c1, hf⟩ := hf
  replace hf := mx_sv_el hf; obtain ⟨u2, e_u2, hf⟩ := hf
  refine sx_cv hm dX8_readBlock_51 rs_RX8_37 mt_X8_need [.int 43] [] (b := l0) (ci := 8) rfl rfl rfl c1 (Nat.le_of_ble_eq_true rfl) (Nat.le_of_ble_eq_true rfl) (by omega) (by omega) (f_X8_need_ok X (by omega) (by omega) nn l0 43 h e_u2) ?_
  clear e_u2
  show mx_S X F L 228 54 [(0, .ref l0)] [] u2 0 0 (none, r, 0, 0)
  cases hf
  exact sx_ret hm dX8_readBlock_54 rfl
set_option maxHeartbeats 4000000 in
set_option maxRecDepth 20000 in
theorem w_X8_readBlock_8_ok (X : Nat × (Nat → Int32)) {F L d : Nat} (hF : 265 + (d + 1) ≤ F) (hL : 6087 + (d + 1) * 22 ≤ L) (nn : Nat) {rc : tg_X8_readBlock} (hrc : hg5_X8_readBlock X d rc) : ∀ (k : Nat) (l0 : Nat) (l1 : Int32) (l2 : Int32) (h : mx_H) (r : mx_H), w_X8_readBlock_8 nn rc k l0 l1 l2 h = some r → mx_S X F L 228 8 [(0, .ref l0), (1, .int l1), (2, .int l2)] [] h 0 0 (none, r, 0, 0) := by
  have hm : mx_mt 228 = some (yX8_readBlock, cX8_readBlock, 3, none) := mt_X8_readBlock
  intro k
  induction k with
  | zero => intro l0 l1 l2 h r hf; cases hf
  | succ k ih =>
    intro l0 l1 l2 h r hf
    unfold w_X8_readBlock_8 at hf
    refine mx_S.pu (pc2 := 9) (lv2 := [(0, .ref l0), (1, .int l1), (2, .int l2)]) (st2 := [.int l2]) hm dX8_readBlock_8 rfl ?_
    refine sx_si (v := 3000) hm dX8_readBlock_9 (by decide) ?_
    rcases mx_if_el hf with ⟨c13, hf⟩ | ⟨c13, hf⟩
    · refine sb_ic_ge hm dX8_readBlock_12 (tgt := 48) rfl (fun _ => ?_) (fun z => absurd c13 z)
      refine mx_S.ext [(0, .ref l0)] (mx_sub_pos [0] rfl (show ([0, 1, 2] : List Nat).Nodup by decide)) ?_
      exact j_X8_readBlock_48_ok X hF hL nn hrc l0 h hf
    · refine sb_ic_ge hm dX8_readBlock_12 (tgt := 48) rfl (fun z => absurd z c13) (fun _ => ?_)
      refine mx_S.pu (pc2 := 16) (lv2 := [(0, .ref l0), (1, .int l1), (2, .int l2)]) (st2 := [.ref l0]) hm dX8_readBlock_15 rfl ?_
      replace hf := mx_sv_el hf; obtain ⟨v3, e_v3, hf⟩ := hf
      refine sx_get hm dX8_readBlock_16 rs_RX8_7 (xgr_el e_v3) ?_
      clear e_v3
      replace hf := mx_sv_el hf; obtain ⟨v4, e_v4, hf⟩ := hf
      refine sx_get hm dX8_readBlock_19 rs_RX8_19 (xgi_el e_v4) ?_
      clear e_v4
      rcases mx_if_el hf with ⟨c12, hf⟩ | ⟨c12, hf⟩
      · refine sb_if_ne hm dX8_readBlock_22 (tgt := 48) rfl (fun _ => ?_) (fun z => absurd c12 z)
        refine mx_S.ext [(0, .ref l0)] (mx_sub_pos [0] rfl (show ([0, 1, 2] : List Nat).Nodup by decide)) ?_
        exact j_X8_readBlock_48_ok X hF hL nn hrc l0 h hf
      · refine sb_if_ne hm dX8_readBlock_22 (tgt := 48) rfl (fun z => absurd z c12) (fun _ => ?_)
        refine mx_S.pu (pc2 := 26) (lv2 := [(0, .ref l0), (1, .int l1), (2, .int l2)]) (st2 := [.ref l0]) hm dX8_readBlock_25 rfl ?_
        replace hf := mx_sv_el hf; obtain ⟨v5, e_v5, hf⟩ := hf
        refine sx_get hm dX8_readBlock_26 rs_RX8_7 (xgr_el e_v5) ?_
        clear e_v5
        replace hf := mx_gd_el hf; obtain ⟨c6, hf⟩ := hf
        replace hf := mx_sv_el hf; obtain ⟨u7, e_u7, hf⟩ := hf
        refine sx_cv hm dX8_readBlock_29 rs_RX8_23 mt_X9_kind [] [] (b := v5) (ci := 9) rfl rfl rfl c6 (Nat.le_of_ble_eq_true rfl) (Nat.le_of_ble_eq_true rfl) (by omega) (by omega) (f_X9_kind_ok X (by omega) (by omega) nn v5 h e_u7) ?_
        clear e_u7
        show mx_S X F L 228 32 [(0, .ref l0), (1, .int l1), (2, .int l2)] [.int u7.1] u7.2 0 0 (none, r, 0, 0)
        refine sx_bi (v := 43) hm dX8_readBlock_32 (by decide) ?_
        rcases mx_if_el hf with ⟨c11, hf⟩ | ⟨c11, hf⟩
        · refine sb_ic_eq hm dX8_readBlock_34 (tgt := 48) rfl (fun _ => ?_) (fun z => absurd c11 z)
          refine mx_S.ext [(0, .ref l0)] (mx_sub_pos [0] rfl (show ([0, 1, 2] : List Nat).Nodup by decide)) ?_
          exact j_X8_readBlock_48_ok X hF hL nn hrc l0 u7.2 hf
        · refine sb_ic_eq hm dX8_readBlock_34 (tgt := 48) rfl (fun z => absurd z c11) (fun _ => ?_)
          refine mx_S.pu (pc2 := 38) (lv2 := [(0, .ref l0), (1, .int l1), (2, .int l2)]) (st2 := [.ref l0]) hm dX8_readBlock_37 rfl ?_
          refine mx_S.pu (pc2 := 39) (lv2 := [(0, .ref l0), (1, .int l1), (2, .int l2)]) (st2 := [.int l1, .ref l0]) hm dX8_readBlock_38 rfl ?_
          replace hf := mx_gd_el hf; obtain ⟨c8, hf⟩ := hf
          replace hf := mx_sv_el hf; obtain ⟨u9, e_u9, hf⟩ := hf
          refine sx_cv hm dX8_readBlock_39 rs_RX8_61 mt_X8_readStatement [.int l1] [] (b := l0) (ci := 8) rfl rfl rfl c8 (Nat.le_of_ble_eq_true rfl) (Nat.le_of_ble_eq_true rfl) (by omega) (by omega) (hrc.2.1 (by omega) (by omega) l0 l1 u7.2 e_u9) ?_
          clear e_u9
          show mx_S X F L 228 42 [(0, .ref l0), (1, .int l1), (2, .int l2)] [] u9 0 0 (none, r, 0, 0)
          replace hf := xl_el hf; obtain ⟨v10, e_v10, hf⟩ := hf
          refine mx_S.pu (pc2 := 45) (lv2 := [(2, .int v10), (0, .ref l0), (1, .int l1)]) (st2 := []) hm dX8_readBlock_42 (by rw [← e_v10]; rfl) ?_
          clear e_v10
          refine mx_S.pu (pc2 := 8) (lv2 := [(2, .int v10), (0, .ref l0), (1, .int l1)]) (st2 := []) hm dX8_readBlock_45 rfl ?_
          refine mx_S.ext [(0, .ref l0), (1, .int l1), (2, .int v10)] (mx_sub_pos [1, 2, 0] rfl (show ([2, 0, 1] : List Nat).Nodup by decide)) ?_
          exact ih l0 l1 v10 u9 _ hf
set_option maxHeartbeats 4000000 in
set_option maxRecDepth 20000 in
theorem o_X8_readBlock_ok (X : Nat × (Nat → Int32)) {F L d : Nat} (hF : 265 + (d + 1) ≤ F) (hL : 6087 + (d + 1) * 22 ≤ L) (nn : Nat) {rc : tg_X8_readBlock} (hrc : hg5_X8_readBlock X d rc) (a0 : Nat) (a1 : Int32) (h : mx_H) {r : mx_H} (hf : o_X8_readBlock nn rc a0 a1 h = some r) : mx_R X F L 228 [.ref a0, .int a1] h (none, r, 0, 0) := by
  have hm : mx_mt 228 = some (yX8_readBlock, cX8_readBlock, 3, none) := mt_X8_readBlock
  show mx_S X F L 228 0 [(0, .ref a0), (1, .int a1)] [] h 0 0 (none, r, 0, 0)
  unfold o_X8_readBlock at hf
  refine mx_S.pu (pc2 := 1) (lv2 := [(0, .ref a0), (1, .int a1)]) (st2 := [.ref a0]) hm dX8_readBlock_0 rfl ?_
  refine sx_bi (v := 42) hm dX8_readBlock_1 (by decide) ?_
  replace hf := mx_gd_el hf; obtain ⟨c14, hf⟩ := hf
  replace hf := mx_sv_el hf; obtain ⟨u15, e_u15, hf⟩ := hf
  refine sx_cv hm dX8_readBlock_3 rs_RX8_37 mt_X8_need [.int 42] [] (b := a0) (ci := 8) rfl rfl rfl c14 (Nat.le_of_ble_eq_true rfl) (Nat.le_of_ble_eq_true rfl) (by omega) (by omega) (f_X8_need_ok X (by omega) (by omega) nn a0 42 h e_u15) ?_
  clear e_u15
  show mx_S X F L 228 6 [(0, .ref a0), (1, .int a1)] [] u15 0 0 (none, r, 0, 0)
  refine sx_ic (v := 0) hm dX8_readBlock_6 (by decide) ?_
  refine mx_S.pu (pc2 := 8) (lv2 := [(2, .int 0), (0, .ref a0), (1, .int a1)]) (st2 := []) hm dX8_readBlock_7 rfl ?_
  refine mx_S.ext [(0, .ref a0), (1, .int a1), (2, .int 0)] (mx_sub_pos [1, 2, 0] rfl (show ([2, 0, 1] : List Nat).Nodup by decide)) ?_
  exact w_X8_readBlock_8_ok X hF hL nn hrc nn a0 a1 0 u15 _ hf
set_option maxHeartbeats 4000000 in
set_option maxRecDepth 20000 in
theorem j_X8_readStatement_157_ok (X : Nat × (Nat → Int32)) {F L d : Nat} (hF : 265 + (d + 1) ≤ F) (hL : 6087 + (d + 1) * 22 ≤ L) (nn : Nat) {rc : tg_X8_readBlock} (hrc : hg5_X8_readBlock X d rc) (l0 : Nat) (h : mx_H) {r : mx_H} (hf : j_X8_readStatement_157 nn rc l0 h = some r) : mx_S X F L 229 157 [(0, .ref l0)] [] h 0 0 (none, r, 0, 0) := by
  have hm : mx_mt 229 = some (yX8_readStatement, cX8_readStatement, 2, none) := mt_X8_readStatement
  unfold j_X8_readStatement_157 at hf
  refine mx_S.pu (pc2 := 158) (lv2 := [(0, .ref l0)]) (st2 := [.ref l0]) hm dX8_readStatement_157 rfl ?_
  refine sx_bi (v := 46) hm dX8_readStatement_158 (by decide) ?_
  replace hf := mx_gd_el hf; obtain ⟨c1, hf⟩ := hf
  replace hf := mx_sv_el hf; obtain ⟨u2, e_u2, hf⟩ := hf
  refine sx_cv hm dX8_readStatement_160 rs_RX8_37 mt_X8_need [.int 46] [] (b := l0) (ci := 8) rfl rfl rfl c1 (Nat.le_of_ble_eq_true rfl) (Nat.le_of_ble_eq_true rfl) (by omega) (by omega) (f_X8_need_ok X (by omega) (by omega) nn l0 46 h e_u2) ?_
  clear e_u2
  show mx_S X F L 229 163 [(0, .ref l0)] [] u2 0 0 (none, r, 0, 0)
  cases hf
  exact sx_ret hm dX8_readStatement_163 rfl
set_option maxHeartbeats 4000000 in
set_option maxRecDepth 20000 in
theorem o_X8_readStatement_ok (X : Nat × (Nat → Int32)) {F L d : Nat} (hF : 265 + (d + 1) ≤ F) (hL : 6087 + (d + 1) * 22 ≤ L) (nn : Nat) {rc : tg_X8_readBlock} (hrc : hg5_X8_readBlock X d rc) (a0 : Nat) (a1 : Int32) (h : mx_H) {r : mx_H} (hf : o_X8_readStatement nn rc a0 a1 h = some r) : mx_R X F L 229 [.ref a0, .int a1] h (none, r, 0, 0) := by
  have hm : mx_mt 229 = some (yX8_readStatement, cX8_readStatement, 2, none) := mt_X8_readStatement
  show mx_S X F L 229 0 [(0, .ref a0), (1, .int a1)] [] h 0 0 (none, r, 0, 0)
  unfold o_X8_readStatement at hf
  refine mx_S.pu (pc2 := 1) (lv2 := [(0, .ref a0), (1, .int a1)]) (st2 := [.ref a0]) hm dX8_readStatement_0 rfl ?_
  refine mx_S.pu (pc2 := 2) (lv2 := [(0, .ref a0), (1, .int a1)]) (st2 := [.int a1, .ref a0]) hm dX8_readStatement_1 rfl ?_
  replace hf := mx_gd_el hf; obtain ⟨c3, hf⟩ := hf
  replace hf := mx_sv_el hf; obtain ⟨u4, e_u4, hf⟩ := hf
  refine sx_cv hm dX8_readStatement_2 rs_RX8_64 mt_X8_tooDeep [.int a1] [] (b := a0) (ci := 8) rfl rfl rfl c3 (Nat.le_of_ble_eq_true rfl) (Nat.le_of_ble_eq_true rfl) (by omega) (by omega) (f_X8_tooDeep_ok X (by omega) (by omega) nn a0 a1 h e_u4) ?_
  clear e_u4
  show mx_S X F L 229 5 [(0, .ref a0), (1, .int a1)] [.int u4.1] u4.2 0 0 (none, r, 0, 0)
  rcases mx_if_el hf with ⟨c42, hf⟩ | ⟨c42, hf⟩
  · refine sb_if_eq hm dX8_readStatement_5 (tgt := 9) rfl (fun _ => ?_) (fun z => absurd c42 z)
    refine mx_S.pu (pc2 := 10) (lv2 := [(0, .ref a0), (1, .int a1)]) (st2 := [.ref a0]) hm dX8_readStatement_9 rfl ?_
    replace hf := mx_sv_el hf; obtain ⟨v5, e_v5, hf⟩ := hf
    refine sx_get hm dX8_readStatement_10 rs_RX8_7 (xgr_el e_v5) ?_
    clear e_v5
    replace hf := mx_gd_el hf; obtain ⟨c6, hf⟩ := hf
    replace hf := mx_sv_el hf; obtain ⟨u7, e_u7, hf⟩ := hf
    refine sx_cv hm dX8_readStatement_13 rs_RX8_23 mt_X9_kind [] [] (b := v5) (ci := 9) rfl rfl rfl c6 (Nat.le_of_ble_eq_true rfl) (Nat.le_of_ble_eq_true rfl) (by omega) (by omega) (f_X9_kind_ok X (by omega) (by omega) nn v5 u4.2 e_u7) ?_
    clear e_u7
    show mx_S X F L 229 16 [(0, .ref a0), (1, .int a1)] [.int u7.1] u7.2 0 0 (none, r, 0, 0)
    rcases mx_if_el hf with ⟨n_0, hf⟩ | ⟨n_0, hf⟩
    · refine sx_look hm dX8_readStatement_16 rfl (off := 54) (by rw [n_0]; rfl) (tgt := 70) rfl ?_
      clear n_0
      refine mx_S.pu (pc2 := 71) (lv2 := [(0, .ref a0), (1, .int a1)]) (st2 := [.ref a0]) hm dX8_readStatement_70 rfl ?_
      refine mx_S.pu (pc2 := 72) (lv2 := [(0, .ref a0), (1, .int a1)]) (st2 := [.int a1, .ref a0]) hm dX8_readStatement_71 rfl ?_
      refine sx_ic (v := 1) hm dX8_readStatement_72 (by decide) ?_
      replace hf := xl_el hf; obtain ⟨v18, e_v18, hf⟩ := hf
      refine mx_S.pu (pc2 := 74) (lv2 := [(0, .ref a0), (1, .int a1)]) (st2 := [.int v18, .ref a0]) hm dX8_readStatement_73 (by rw [← e_v18]; rfl) ?_
      clear e_v18
      replace hf := mx_gd_el hf; obtain ⟨c19, hf⟩ := hf
      replace hf := mx_sv_el hf; obtain ⟨u20, e_u20, hf⟩ := hf
      refine sx_cv hm dX8_readStatement_74 rs_RX8_67 mt_X8_readCondition [.int v18] [] (b := a0) (ci := 8) rfl rfl rfl c19 (Nat.le_of_ble_eq_true rfl) (Nat.le_of_ble_eq_true rfl) (by omega) (by omega) (f_X8_readCondition_ok X (by omega) (by omega) nn a0 v18 u7.2 e_u20) ?_
      clear e_u20
      show mx_S X F L 229 77 [(0, .ref a0), (1, .int a1)] [] u20 0 0 (none, r, 0, 0)
      refine mx_S.pu (pc2 := 78) (lv2 := [(0, .ref a0), (1, .int a1)]) (st2 := [.ref a0]) hm dX8_readStatement_77 rfl ?_
      refine mx_S.pu (pc2 := 79) (lv2 := [(0, .ref a0), (1, .int a1)]) (st2 := [.int a1, .ref a0]) hm dX8_readStatement_78 rfl ?_
      refine sx_ic (v := 1) hm dX8_readStatement_79 (by decide) ?_
      replace hf := xl_el hf; obtain ⟨v21, e_v21, hf⟩ := hf
      refine mx_S.pu (pc2 := 81) (lv2 := [(0, .ref a0), (1, .int a1)]) (st2 := [.int v21, .ref a0]) hm dX8_readStatement_80 (by rw [← e_v21]; rfl) ?_
      clear e_v21
      replace hf := mx_gd_el hf; obtain ⟨c22, hf⟩ := hf
      replace hf := mx_sv_el hf; obtain ⟨u23, e_u23, hf⟩ := hf
      refine sx_cv hm dX8_readStatement_81 rs_RX8_61 mt_X8_readStatement [.int v21] [] (b := a0) (ci := 8) rfl rfl rfl c22 (Nat.le_of_ble_eq_true rfl) (Nat.le_of_ble_eq_true rfl) (by omega) (by omega) (hrc.2.1 (by omega) (by omega) a0 v21 u20 e_u23) ?_
      clear e_u23
      show mx_S X F L 229 84 [(0, .ref a0), (1, .int a1)] [] u23 0 0 (none, r, 0, 0)
      refine mx_S.pu (pc2 := 85) (lv2 := [(0, .ref a0), (1, .int a1)]) (st2 := [.ref a0]) hm dX8_readStatement_84 rfl ?_
      refine sx_bi (v := 15) hm dX8_readStatement_85 (by decide) ?_
      replace hf := mx_gd_el hf; obtain ⟨c24, hf⟩ := hf
      replace hf := mx_sv_el hf; obtain ⟨u25, e_u25, hf⟩ := hf
      refine sx_cv hm dX8_readStatement_87 rs_RX8_45 mt_X8_accept [.int 15] [] (b := a0) (ci := 8) rfl rfl rfl c24 (Nat.le_of_ble_eq_true rfl) (Nat.le_of_ble_eq_true rfl) (by omega) (by omega) (f_X8_accept_ok X (by omega) (by omega) nn a0 15 u23 e_u25) ?_
      clear e_u25
      show mx_S X F L 229 90 [(0, .ref a0), (1, .int a1)] [.int u25.1] u25.2 0 0 (none, r, 0, 0)
      rcases mx_if_el hf with ⟨c29, hf⟩ | ⟨c29, hf⟩
      · refine sb_if_eq hm dX8_readStatement_90 (tgt := 163) rfl (fun _ => ?_) (fun z => absurd c29 z)
        cases hf
        exact sx_ret hm dX8_readStatement_163 rfl
      · refine sb_if_eq hm dX8_readStatement_90 (tgt := 163) rfl (fun z => absurd z c29) (fun _ => ?_)
        refine mx_S.pu (pc2 := 94) (lv2 := [(0, .ref a0), (1, .int a1)]) (st2 := [.ref a0]) hm dX8_readStatement_93 rfl ?_
        refine mx_S.pu (pc2 := 95) (lv2 := [(0, .ref a0), (1, .int a1)]) (st2 := [.int a1, .ref a0]) hm dX8_readStatement_94 rfl ?_
        refine sx_ic (v := 1) hm dX8_readStatement_95 (by decide) ?_
        replace hf := xl_el hf; obtain ⟨v26, e_v26, hf⟩ := hf
        refine mx_S.pu (pc2 := 97) (lv2 := [(0, .ref a0), (1, .int a1)]) (st2 := [.int v26, .ref a0]) hm dX8_readStatement_96 (by rw [← e_v26]; rfl) ?_
        clear e_v26
        replace hf := mx_gd_el hf; obtain ⟨c27, hf⟩ := hf
        replace hf := mx_sv_el hf; obtain ⟨u28, e_u28, hf⟩ := hf
        refine sx_cv hm dX8_readStatement_97 rs_RX8_61 mt_X8_readStatement [.int v26] [] (b := a0) (ci := 8) rfl rfl rfl c27 (Nat.le_of_ble_eq_true rfl) (Nat.le_of_ble_eq_true rfl) (by omega) (by omega) (hrc.2.1 (by omega) (by omega) a0 v26 u25.2 e_u28) ?_
        clear e_u28
        show mx_S X F L 229 100 [(0, .ref a0), (1, .int a1)] [] u28 0 0 (none, r, 0, 0)
        refine mx_S.pu (pc2 := 163) (lv2 := [(0, .ref a0), (1, .int a1)]) (st2 := []) hm dX8_readStatement_100 rfl ?_
        cases hf
        exact sx_ret hm dX8_readStatement_163 rfl
    · rcases mx_if_el hf with ⟨n_1, hf⟩ | ⟨n_1, hf⟩
      · refine sx_look hm dX8_readStatement_16 rfl (off := 104) (by rw [n_1]; rfl) (tgt := 120) rfl ?_
        clear n_0 n_1
        refine mx_S.pu (pc2 := 121) (lv2 := [(0, .ref a0), (1, .int a1)]) (st2 := [.ref a0]) hm dX8_readStatement_120 rfl ?_
        refine mx_S.pu (pc2 := 122) (lv2 := [(0, .ref a0), (1, .int a1)]) (st2 := [.int a1, .ref a0]) hm dX8_readStatement_121 rfl ?_
        refine sx_ic (v := 1) hm dX8_readStatement_122 (by decide) ?_
        replace hf := xl_el hf; obtain ⟨v30, e_v30, hf⟩ := hf
        refine mx_S.pu (pc2 := 124) (lv2 := [(0, .ref a0), (1, .int a1)]) (st2 := [.int v30, .ref a0]) hm dX8_readStatement_123 (by rw [← e_v30]; rfl) ?_
        clear e_v30
        replace hf := mx_gd_el hf; obtain ⟨c31, hf⟩ := hf
        replace hf := mx_sv_el hf; obtain ⟨u32, e_u32, hf⟩ := hf
        refine sx_cv hm dX8_readStatement_124 rs_RX8_70 mt_X8_readTry [.int v30] [] (b := a0) (ci := 8) rfl rfl rfl c31 (Nat.le_of_ble_eq_true rfl) (Nat.le_of_ble_eq_true rfl) (by omega) (by omega) (hrc.2.2 (by omega) (by omega) a0 v30 u7.2 e_u32) ?_
        clear e_u32
        show mx_S X F L 229 127 [(0, .ref a0), (1, .int a1)] [] u32 0 0 (none, r, 0, 0)
        refine mx_S.pu (pc2 := 163) (lv2 := [(0, .ref a0), (1, .int a1)]) (st2 := []) hm dX8_readStatement_127 rfl ?_
        cases hf
        exact sx_ret hm dX8_readStatement_163 rfl
      · rcases mx_if_el hf with ⟨n_2, hf⟩ | ⟨n_2, hf⟩
        · refine sx_look hm dX8_readStatement_16 rfl (off := 87) (by rw [n_2]; rfl) (tgt := 103) rfl ?_
          clear n_0 n_1 n_2
          refine mx_S.pu (pc2 := 104) (lv2 := [(0, .ref a0), (1, .int a1)]) (st2 := [.ref a0]) hm dX8_readStatement_103 rfl ?_
          refine mx_S.pu (pc2 := 105) (lv2 := [(0, .ref a0), (1, .int a1)]) (st2 := [.int a1, .ref a0]) hm dX8_readStatement_104 rfl ?_
          refine sx_ic (v := 1) hm dX8_readStatement_105 (by decide) ?_
          replace hf := xl_el hf; obtain ⟨v33, e_v33, hf⟩ := hf
          refine mx_S.pu (pc2 := 107) (lv2 := [(0, .ref a0), (1, .int a1)]) (st2 := [.int v33, .ref a0]) hm dX8_readStatement_106 (by rw [← e_v33]; rfl) ?_
          clear e_v33
          replace hf := mx_gd_el hf; obtain ⟨c34, hf⟩ := hf
          replace hf := mx_sv_el hf; obtain ⟨u35, e_u35, hf⟩ := hf
          refine sx_cv hm dX8_readStatement_107 rs_RX8_67 mt_X8_readCondition [.int v33] [] (b := a0) (ci := 8) rfl rfl rfl c34 (Nat.le_of_ble_eq_true rfl) (Nat.le_of_ble_eq_true rfl) (by omega) (by omega) (f_X8_readCondition_ok X (by omega) (by omega) nn a0 v33 u7.2 e_u35) ?_
          clear e_u35
          show mx_S X F L 229 110 [(0, .ref a0), (1, .int a1)] [] u35 0 0 (none, r, 0, 0)
          refine mx_S.pu (pc2 := 111) (lv2 := [(0, .ref a0), (1, .int a1)]) (st2 := [.ref a0]) hm dX8_readStatement_110 rfl ?_
          refine mx_S.pu (pc2 := 112) (lv2 := [(0, .ref a0), (1, .int a1)]) (st2 := [.int a1, .ref a0]) hm dX8_readStatement_111 rfl ?_
          refine sx_ic (v := 1) hm dX8_readStatement_112 (by decide) ?_
          replace hf := xl_el hf; obtain ⟨v36, e_v36, hf⟩ := hf
          refine mx_S.pu (pc2 := 114) (lv2 := [(0, .ref a0), (1, .int a1)]) (st2 := [.int v36, .ref a0]) hm dX8_readStatement_113 (by rw [← e_v36]; rfl) ?_
          clear e_v36
          replace hf := mx_gd_el hf; obtain ⟨c37, hf⟩ := hf
          replace hf := mx_sv_el hf; obtain ⟨u38, e_u38, hf⟩ := hf
          refine sx_cv hm dX8_readStatement_114 rs_RX8_61 mt_X8_readStatement [.int v36] [] (b := a0) (ci := 8) rfl rfl rfl c37 (Nat.le_of_ble_eq_true rfl) (Nat.le_of_ble_eq_true rfl) (by omega) (by omega) (hrc.2.1 (by omega) (by omega) a0 v36 u35 e_u38) ?_
          clear e_u38
          show mx_S X F L 229 117 [(0, .ref a0), (1, .int a1)] [] u38 0 0 (none, r, 0, 0)
          refine mx_S.pu (pc2 := 163) (lv2 := [(0, .ref a0), (1, .int a1)]) (st2 := []) hm dX8_readStatement_117 rfl ?_
          cases hf
          exact sx_ret hm dX8_readStatement_163 rfl
        · rcases mx_if_el hf with ⟨n_3, hf⟩ | ⟨n_3, hf⟩
          · refine sx_look hm dX8_readStatement_16 rfl (off := 44) (by rw [n_3]; rfl) (tgt := 60) rfl ?_
            clear n_0 n_1 n_2 n_3
            refine mx_S.pu (pc2 := 61) (lv2 := [(0, .ref a0), (1, .int a1)]) (st2 := [.ref a0]) hm dX8_readStatement_60 rfl ?_
            refine mx_S.pu (pc2 := 62) (lv2 := [(0, .ref a0), (1, .int a1)]) (st2 := [.int a1, .ref a0]) hm dX8_readStatement_61 rfl ?_
            refine sx_ic (v := 1) hm dX8_readStatement_62 (by decide) ?_
            replace hf := xl_el hf; obtain ⟨v39, e_v39, hf⟩ := hf
            refine mx_S.pu (pc2 := 64) (lv2 := [(0, .ref a0), (1, .int a1)]) (st2 := [.int v39, .ref a0]) hm dX8_readStatement_63 (by rw [← e_v39]; rfl) ?_
            clear e_v39
            replace hf := mx_gd_el hf; obtain ⟨c40, hf⟩ := hf
            replace hf := mx_sv_el hf; obtain ⟨u41, e_u41, hf⟩ := hf
            refine sx_cv hm dX8_readStatement_64 rs_RX8_58 mt_X8_readBlock [.int v39] [] (b := a0) (ci := 8) rfl rfl rfl c40 (Nat.le_of_ble_eq_true rfl) (Nat.le_of_ble_eq_true rfl) (by omega) (by omega) (hrc.1 (by omega) (by omega) a0 v39 u7.2 e_u41) ?_
            clear e_u41
            show mx_S X F L 229 67 [(0, .ref a0), (1, .int a1)] [] u41 0 0 (none, r, 0, 0)
            refine mx_S.pu (pc2 := 163) (lv2 := [(0, .ref a0), (1, .int a1)]) (st2 := []) hm dX8_readStatement_67 rfl ?_
            cases hf
            exact sx_ret hm dX8_readStatement_163 rfl
          · refine sx_look hm dX8_readStatement_16 rfl (off := 114) (by show Op.lookupswitch.offset [(18, 54), (29, 104), (31, 87), (42, 44)] 114 u7.1.toInt = _; rw [lv_osw n_0 (by decide), lv_osw n_1 (by decide), lv_osw n_2 (by decide), lv_osw n_3 (by decide)]; rfl) (tgt := 130) rfl ?_
            refine mx_S.pu (pc2 := 131) (lv2 := [(0, .ref a0), (1, .int a1)]) (st2 := [.ref a0]) hm dX8_readStatement_130 rfl ?_
            replace hf := mx_sv_el hf; obtain ⟨v8, e_v8, hf⟩ := hf
            refine sx_get hm dX8_readStatement_131 rs_RX8_7 (xgr_el e_v8) ?_
            clear e_v8
            replace hf := mx_gd_el hf; obtain ⟨c9, hf⟩ := hf
            replace hf := mx_sv_el hf; obtain ⟨u10, e_u10, hf⟩ := hf
            refine sx_cv hm dX8_readStatement_134 rs_RX8_73 mt_X9_beginsVariable [] [] (b := v8) (ci := 9) rfl rfl rfl c9 (Nat.le_of_ble_eq_true rfl) (Nat.le_of_ble_eq_true rfl) (by omega) (by omega) (f_X9_beginsVariable_ok X (by omega) (by omega) nn v8 u7.2 e_u10) ?_
            clear e_u10
            show mx_S X F L 229 137 [(0, .ref a0), (1, .int a1)] [.int u10.1] u10.2 0 0 (none, r, 0, 0)
            rcases mx_if_el hf with ⟨c17, hf⟩ | ⟨c17, hf⟩
            · refine sb_if_eq hm dX8_readStatement_137 (tgt := 150) rfl (fun _ => ?_) (fun z => absurd c17 z)
              refine mx_S.pu (pc2 := 151) (lv2 := [(0, .ref a0), (1, .int a1)]) (st2 := [.ref a0]) hm dX8_readStatement_150 rfl ?_
              refine mx_S.pu (pc2 := 152) (lv2 := [(0, .ref a0), (1, .int a1)]) (st2 := [.int a1, .ref a0]) hm dX8_readStatement_151 rfl ?_
              refine sx_ic (v := 1) hm dX8_readStatement_152 (by decide) ?_
              replace hf := xl_el hf; obtain ⟨v11, e_v11, hf⟩ := hf
              refine mx_S.pu (pc2 := 154) (lv2 := [(0, .ref a0), (1, .int a1)]) (st2 := [.int v11, .ref a0]) hm dX8_readStatement_153 (by rw [← e_v11]; rfl) ?_
              clear e_v11
              replace hf := mx_gd_el hf; obtain ⟨c12, hf⟩ := hf
              replace hf := mx_sv_el hf; obtain ⟨u13, e_u13, hf⟩ := hf
              refine sx_cv hm dX8_readStatement_154 rs_RX8_80 mt_X8_readPlain [.int v11] [] (b := a0) (ci := 8) rfl rfl rfl c12 (Nat.le_of_ble_eq_true rfl) (Nat.le_of_ble_eq_true rfl) (by omega) (by omega) (f_X8_readPlain_ok X (by omega) (by omega) nn a0 v11 u10.2 e_u13) ?_
              clear e_u13
              show mx_S X F L 229 157 [(0, .ref a0), (1, .int a1)] [] u13 0 0 (none, r, 0, 0)
              refine mx_S.ext [(0, .ref a0)] (mx_sub_pos [0] rfl (show ([0, 1] : List Nat).Nodup by decide)) ?_
              exact j_X8_readStatement_157_ok X hF hL nn hrc a0 u13 hf
            · refine sb_if_eq hm dX8_readStatement_137 (tgt := 150) rfl (fun z => absurd z c17) (fun _ => ?_)
              refine mx_S.pu (pc2 := 141) (lv2 := [(0, .ref a0), (1, .int a1)]) (st2 := [.ref a0]) hm dX8_readStatement_140 rfl ?_
              refine mx_S.pu (pc2 := 142) (lv2 := [(0, .ref a0), (1, .int a1)]) (st2 := [.int a1, .ref a0]) hm dX8_readStatement_141 rfl ?_
              refine sx_ic (v := 1) hm dX8_readStatement_142 (by decide) ?_
              replace hf := xl_el hf; obtain ⟨v14, e_v14, hf⟩ := hf
              refine mx_S.pu (pc2 := 144) (lv2 := [(0, .ref a0), (1, .int a1)]) (st2 := [.int v14, .ref a0]) hm dX8_readStatement_143 (by rw [← e_v14]; rfl) ?_
              clear e_v14
              replace hf := mx_gd_el hf; obtain ⟨c15, hf⟩ := hf
              replace hf := mx_sv_el hf; obtain ⟨u16, e_u16, hf⟩ := hf
              refine sx_cv hm dX8_readStatement_144 rs_RX8_77 mt_X8_readVariable [.int v14] [] (b := a0) (ci := 8) rfl rfl rfl c15 (Nat.le_of_ble_eq_true rfl) (Nat.le_of_ble_eq_true rfl) (by omega) (by omega) (f_X8_readVariable_ok X (by omega) (by omega) nn a0 v14 u10.2 e_u16) ?_
              clear e_u16
              show mx_S X F L 229 147 [(0, .ref a0), (1, .int a1)] [] u16 0 0 (none, r, 0, 0)
              refine mx_S.pu (pc2 := 157) (lv2 := [(0, .ref a0), (1, .int a1)]) (st2 := []) hm dX8_readStatement_147 rfl ?_
              refine mx_S.ext [(0, .ref a0)] (mx_sub_pos [0] rfl (show ([0, 1] : List Nat).Nodup by decide)) ?_
              exact j_X8_readStatement_157_ok X hF hL nn hrc a0 u16 hf
  · refine sb_if_eq hm dX8_readStatement_5 (tgt := 9) rfl (fun z => absurd z c42) (fun _ => ?_)
    cases hf
    exact sx_ret hm dX8_readStatement_8 rfl
