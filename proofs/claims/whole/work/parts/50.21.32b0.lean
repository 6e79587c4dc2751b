set_option maxHeartbeats 4000000 in
set_option maxRecDepth 20000 in
theorem w_X13_bodies_83_ok (X : Nat × (Nat → Int32)) {F L : Nat} (hF : 1808 ≤ F) (hL : 48785 ≤ L) (nn : Nat) {kk_2 : Nat → Int32 → mx_H → Option mx_H} (hk_2 : ∀ (l0 : Nat) (l1 : Int32) (h : mx_H) (r : mx_H), kk_2 l0 l1 h = some r → mx_S X F L 432 2 [(0, .ref l0), (1, .int l1)] [] h 0 0 (none, r, 0, 0)) : ∀ (k : Nat) (l0 : Nat) (l1 : Int32) (l2 : Int32) (h : mx_H) (r : mx_H), w_X13_bodies_83 nn kk_2 k l0 l1 l2 h = some r → mx_S X F L 432 83 [(0, .ref l0), (1, .int l1), (2, .int l2)] [] h 0 0 (none, r, 0, 0) := by
  have hm : mx_mt 432 = some (yX13_bodies, cX13_bodies, 3, none) := mt_X13_bodies
  intro k
  induction k with
  | zero => intro l0 l1 l2 h r hf; cases hf
  | succ k ih =>
    intro l0 l1 l2 h r hf
    unfold w_X13_bodies_83 at hf
    refine mx_S.pu (pc2 := 84) (lv2 := [(0, .ref l0), (1, .int l1), (2, .int l2)]) (st2 := [.int l2]) hm dX13_bodies_83 rfl ?_
    refine mx_S.pu (pc2 := 85) (lv2 := [(0, .ref l0), (1, .int l1), (2, .int l2)]) (st2 := [.ref l0, .int l2]) hm dX13_bodies_84 rfl ?_
    replace hf := mx_sv_el hf; obtain ⟨v1, e_v1, hf⟩ := hf
    refine sx_get hm dX13_bodies_85 rs_RX13_95 (xgr_el e_v1) ?_
    clear e_v1
    refine mx_S.pu (pc2 := 89) (lv2 := [(0, .ref l0), (1, .int l1), (2, .int l2)]) (st2 := [.int l1, .ref v1, .int l2]) hm dX13_bodies_88 rfl ?_
    replace hf := mx_sv_el hf; obtain ⟨v2, e_v2, hf⟩ := hf
    refine sx_ald hm dX13_bodies_89 e_v2 ?_
    clear e_v2
    rcases mx_if_el hf with ⟨c31, hf⟩ | ⟨c31, hf⟩
    · refine sb_ic_ge hm dX13_bodies_90 (tgt := 129) rfl (fun _ => ?_) (fun z => absurd c31 z)
      refine mx_S.pu (pc2 := 130) (lv2 := [(0, .ref l0), (1, .int l1), (2, .int l2)]) (st2 := [.ref l0]) hm dX13_bodies_129 rfl ?_
      refine mx_S.pu (pc2 := 131) (lv2 := [(0, .ref l0), (1, .int l1), (2, .int l2)]) (st2 := [.ref l0, .ref l0]) hm dX13_bodies_130 rfl ?_
      replace hf := mx_sv_el hf; obtain ⟨v3, e_v3, hf⟩ := hf
      refine sx_get hm dX13_bodies_131 rs_RX13_98 (xgr_el e_v3) ?_
      clear e_v3
      refine mx_S.pu (pc2 := 135) (lv2 := [(0, .ref l0), (1, .int l1), (2, .int l2)]) (st2 := [.int l1, .ref v3, .ref l0]) hm dX13_bodies_134 rfl ?_
      replace hf := mx_sv_el hf; obtain ⟨v4, e_v4, hf⟩ := hf
      refine sx_ald hm dX13_bodies_135 e_v4 ?_
      clear e_v4
      replace hf := mx_gd_el hf; obtain ⟨c5, hf⟩ := hf
      replace hf := mx_sv_el hf; obtain ⟨u6, e_u6, hf⟩ := hf
      refine sx_cv hm dX13_bodies_136 rs_RX13_531 mt_X13_ruled [.int v4] [] (b := l0) (ci := 13) rfl rfl rfl c5 (Nat.le_of_ble_eq_true rfl) (Nat.le_of_ble_eq_true rfl) (by omega) (by omega) (f_X13_ruled_ok X (by omega) (by omega) nn l0 v4 h e_u6) ?_
      clear e_u6
      show mx_S X F L 432 139 [(0, .ref l0), (1, .int l1), (2, .int l2)] [.int u6.1] u6.2 0 0 (none, r, 0, 0)
      refine mx_S.pu (pc2 := 140) (lv2 := [(2, .int u6.1), (0, .ref l0), (1, .int l1)]) (st2 := []) hm dX13_bodies_139 rfl ?_
      refine mx_S.pu (pc2 := 141) (lv2 := [(2, .int u6.1), (0, .ref l0), (1, .int l1)]) (st2 := [.int u6.1]) hm dX13_bodies_140 rfl ?_
      rcases mx_if_el hf with ⟨c17, hf⟩ | ⟨c17, hf⟩
      · refine sb_if_eq hm dX13_bodies_141 (tgt := 166) rfl (fun _ => ?_) (fun z => absurd c17 z)
        replace hf := xl_el hf; obtain ⟨v7, e_v7, hf⟩ := hf
        refine mx_S.pu (pc2 := 169) (lv2 := [(1, .int v7), (2, .int u6.1), (0, .ref l0)]) (st2 := []) hm dX13_bodies_166 (by rw [← e_v7]; rfl) ?_
        clear e_v7
        refine mx_S.pu (pc2 := 2) (lv2 := [(1, .int v7), (2, .int u6.1), (0, .ref l0)]) (st2 := []) hm dX13_bodies_169 rfl ?_
        refine mx_S.ext [(0, .ref l0), (1, .int v7)] (mx_sub_pos [2, 0] rfl (show ([1, 2, 0] : List Nat).Nodup by decide)) ?_
        exact hk_2 l0 v7 u6.2 _ hf
      · refine sb_if_eq hm dX13_bodies_141 (tgt := 166) rfl (fun z => absurd z c17) (fun _ => ?_)
        refine mx_S.pu (pc2 := 145) (lv2 := [(2, .int u6.1), (0, .ref l0), (1, .int l1)]) (st2 := [.ref l0]) hm dX13_bodies_144 rfl ?_
        replace hf := mx_sv_el hf; obtain ⟨v8, e_v8, hf⟩ := hf
        refine sx_get hm dX13_bodies_145 rs_RX13_89 (xgr_el e_v8) ?_
        clear e_v8
        refine mx_S.pu (pc2 := 149) (lv2 := [(2, .int u6.1), (0, .ref l0), (1, .int l1)]) (st2 := [.int l1, .ref v8]) hm dX13_bodies_148 rfl ?_
        replace hf := mx_sv_el hf; obtain ⟨v9, e_v9, hf⟩ := hf
        refine sx_ald hm dX13_bodies_149 e_v9 ?_
        clear e_v9
        refine sx_ic (v := 3) hm dX13_bodies_150 (by decide) ?_
        rcases mx_if_el hf with ⟨c16, hf⟩ | ⟨c16, hf⟩
        · refine sb_ic_eq hm dX13_bodies_151 (tgt := 166) rfl (fun _ => ?_) (fun z => absurd c16 z)
          replace hf := xl_el hf; obtain ⟨v10, e_v10, hf⟩ := hf
          refine mx_S.pu (pc2 := 169) (lv2 := [(1, .int v10), (2, .int u6.1), (0, .ref l0)]) (st2 := []) hm dX13_bodies_166 (by rw [← e_v10]; rfl) ?_
          clear e_v10
          refine mx_S.pu (pc2 := 2) (lv2 := [(1, .int v10), (2, .int u6.1), (0, .ref l0)]) (st2 := []) hm dX13_bodies_169 rfl ?_
          refine mx_S.ext [(0, .ref l0), (1, .int v10)] (mx_sub_pos [2, 0] rfl (show ([1, 2, 0] : List Nat).Nodup by decide)) ?_
          exact hk_2 l0 v10 u6.2 _ hf
        · refine sb_ic_eq hm dX13_bodies_151 (tgt := 166) rfl (fun z => absurd z c16) (fun _ => ?_)
          refine mx_S.pu (pc2 := 155) (lv2 := [(2, .int u6.1), (0, .ref l0), (1, .int l1)]) (st2 := [.ref l0]) hm dX13_bodies_154 rfl ?_
          refine sx_bi (v := 8) hm dX13_bodies_155 (by decide) ?_
          refine mx_S.pu (pc2 := 158) (lv2 := [(2, .int u6.1), (0, .ref l0), (1, .int l1)]) (st2 := [.ref l0, .int 8, .ref l0]) hm dX13_bodies_157 rfl ?_
          replace hf := mx_sv_el hf; obtain ⟨v11, e_v11, hf⟩ := hf
          refine sx_get hm dX13_bodies_158 rs_RX13_86 (xgr_el e_v11) ?_
          clear e_v11
          refine mx_S.pu (pc2 := 162) (lv2 := [(2, .int u6.1), (0, .ref l0), (1, .int l1)]) (st2 := [.int l1, .ref v11, .int 8, .ref l0]) hm dX13_bodies_161 rfl ?_
          replace hf := mx_sv_el hf; obtain ⟨v12, e_v12, hf⟩ := hf
          refine sx_ald hm dX13_bodies_162 e_v12 ?_
          clear e_v12
          replace hf := mx_gd_el hf; obtain ⟨c13, hf⟩ := hf
          replace hf := mx_sv_el hf; obtain ⟨u14, e_u14, hf⟩ := hf
          refine sx_cv hm dX13_bodies_163 rs_RX13_379 mt_X13_wrong [.int 8, .int v12] [] (b := l0) (ci := 13) rfl rfl rfl c13 (Nat.le_of_ble_eq_true rfl) (Nat.le_of_ble_eq_true rfl) (by omega) (by omega) (f_X13_wrong_ok X (by omega) (by omega) nn l0 8 v12 u6.2 e_u14) ?_
          clear e_u14
          show mx_S X F L 432 166 [(2, .int u6.1), (0, .ref l0), (1, .int l1)] [] u14 0 0 (none, r, 0, 0)
          replace hf := xl_el hf; obtain ⟨v15, e_v15, hf⟩ := hf
          refine mx_S.pu (pc2 := 169) (lv2 := [(1, .int v15), (2, .int u6.1), (0, .ref l0)]) (st2 := []) hm dX13_bodies_166 (by rw [← e_v15]; rfl) ?_
          clear e_v15
          refine mx_S.pu (pc2 := 2) (lv2 := [(1, .int v15), (2, .int u6.1), (0, .ref l0)]) (st2 := []) hm dX13_bodies_169 rfl ?_
          refine mx_S.ext [(0, .ref l0), (1, .int v15)] (mx_sub_pos [2, 0] rfl (show ([1, 2, 0] : List Nat).Nodup by decide)) ?_
          exact hk_2 l0 v15 u14 _ hf
    · refine sb_ic_ge hm dX13_bodies_90 (tgt := 129) rfl (fun z => absurd z c31) (fun _ => ?_)
      refine mx_S.pu (pc2 := 94) (lv2 := [(0, .ref l0), (1, .int l1), (2, .int l2)]) (st2 := [.ref l0]) hm dX13_bodies_93 rfl ?_
      refine mx_S.pu (pc2 := 95) (lv2 := [(0, .ref l0), (1, .int l1), (2, .int l2)]) (st2 := [.ref l0, .ref l0]) hm dX13_bodies_94 rfl ?_
      replace hf := mx_sv_el hf; obtain ⟨v18, e_v18, hf⟩ := hf
      refine sx_get hm dX13_bodies_95 rs_RX13_110 (xgr_el e_v18) ?_
      clear e_v18
      refine mx_S.pu (pc2 := 99) (lv2 := [(0, .ref l0), (1, .int l1), (2, .int l2)]) (st2 := [.ref l0, .ref v18, .ref l0]) hm dX13_bodies_98 rfl ?_
      replace hf := mx_sv_el hf; obtain ⟨v19, e_v19, hf⟩ := hf
      refine sx_get hm dX13_bodies_99 rs_RX13_92 (xgr_el e_v19) ?_
      clear e_v19
      refine mx_S.pu (pc2 := 103) (lv2 := [(0, .ref l0), (1, .int l1), (2, .int l2)]) (st2 := [.int l1, .ref v19, .ref v18, .ref l0]) hm dX13_bodies_102 rfl ?_
      replace hf := mx_sv_el hf; obtain ⟨v20, e_v20, hf⟩ := hf
      refine sx_ald hm dX13_bodies_103 e_v20 ?_
      clear e_v20
      refine mx_S.pu (pc2 := 105) (lv2 := [(0, .ref l0), (1, .int l1), (2, .int l2)]) (st2 := [.int l2, .int v20, .ref v18, .ref l0]) hm dX13_bodies_104 rfl ?_
      replace hf := xl_el hf; obtain ⟨v21, e_v21, hf⟩ := hf
      refine mx_S.pu (pc2 := 106) (lv2 := [(0, .ref l0), (1, .int l1), (2, .int l2)]) (st2 := [.int v21, .ref v18, .ref l0]) hm dX13_bodies_105 (by rw [← e_v21]; rfl) ?_
      clear e_v21
      replace hf := mx_sv_el hf; obtain ⟨v22, e_v22, hf⟩ := hf
      refine sx_ald hm dX13_bodies_106 e_v22 ?_
      clear e_v22
      refine mx_S.pu (pc2 := 108) (lv2 := [(0, .ref l0), (1, .int l1), (2, .int l2)]) (st2 := [.ref l0, .int v22, .ref l0]) hm dX13_bodies_107 rfl ?_
      replace hf := mx_sv_el hf; obtain ⟨v23, e_v23, hf⟩ := hf
      refine sx_get hm dX13_bodies_108 rs_RX13_113 (xgr_el e_v23) ?_
      clear e_v23
      refine mx_S.pu (pc2 := 112) (lv2 := [(0, .ref l0), (1, .int l1), (2, .int l2)]) (st2 := [.ref l0, .ref v23, .int v22, .ref l0]) hm dX13_bodies_111 rfl ?_
      replace hf := mx_sv_el hf; obtain ⟨v24, e_v24, hf⟩ := hf
      refine sx_get hm dX13_bodies_112 rs_RX13_92 (xgr_el e_v24) ?_
      clear e_v24
      refine mx_S.pu (pc2 := 116) (lv2 := [(0, .ref l0), (1, .int l1), (2, .int l2)]) (st2 := [.int l1, .ref v24, .ref v23, .int v22, .ref l0]) hm dX13_bodies_115 rfl ?_
      replace hf := mx_sv_el hf; obtain ⟨v25, e_v25, hf⟩ := hf
      refine sx_ald hm dX13_bodies_116 e_v25 ?_
      clear e_v25
      refine mx_S.pu (pc2 := 118) (lv2 := [(0, .ref l0), (1, .int l1), (2, .int l2)]) (st2 := [.int l2, .int v25, .ref v23, .int v22, .ref l0]) hm dX13_bodies_117 rfl ?_
      replace hf := xl_el hf; obtain ⟨v26, e_v26, hf⟩ := hf
      refine mx_S.pu (pc2 := 119) (lv2 := [(0, .ref l0), (1, .int l1), (2, .int l2)]) (st2 := [.int v26, .ref v23, .int v22, .ref l0]) hm dX13_bodies_118 (by rw [← e_v26]; rfl) ?_
      clear e_v26
      replace hf := mx_sv_el hf; obtain ⟨v27, e_v27, hf⟩ := hf
      refine sx_ald hm dX13_bodies_119 e_v27 ?_
      clear e_v27
      replace hf := mx_gd_el hf; obtain ⟨c28, hf⟩ := hf
      replace hf := mx_sv_el hf; obtain ⟨u29, e_u29, hf⟩ := hf
      refine sx_cv hm dX13_bodies_120 rs_RX13_528 mt_X13_come [.int v22, .int v27] [] (b := l0) (ci := 13) rfl rfl rfl c28 (Nat.le_of_ble_eq_true rfl) (Nat.le_of_ble_eq_true rfl) (by omega) (by omega) (f_X13_come_ok X (by omega) (by omega) nn l0 v22 v27 h e_u29) ?_
      clear e_u29
      show mx_S X F L 432 123 [(0, .ref l0), (1, .int l1), (2, .int l2)] [] u29 0 0 (none, r, 0, 0)
      replace hf := xl_el hf; obtain ⟨v30, e_v30, hf⟩ := hf
      refine mx_S.pu (pc2 := 126) (lv2 := [(2, .int v30), (0, .ref l0), (1, .int l1)]) (st2 := []) hm dX13_bodies_123 (by rw [← e_v30]; rfl) ?_
      clear e_v30
      refine mx_S.pu (pc2 := 83) (lv2 := [(2, .int v30), (0, .ref l0), (1, .int l1)]) (st2 := []) hm dX13_bodies_126 rfl ?_
      refine mx_S.ext [(0, .ref l0), (1, .int l1), (2, .int v30)] (mx_sub_pos [1, 2, 0] rfl (show ([2, 0, 1] : List Nat).Nodup by decide)) ?_
      exact ih l0 l1 v30 u29 _ hf
set_option maxHeartbeats 4000000 in
set_option maxRecDepth 20000 in
theorem j_X13_bodies_63_ok (X : Nat × (Nat → Int32)) {F L : Nat} (hF : 1808 ≤ F) (hL : 48785 ≤ L) (nn : Nat) {kk_2 : Nat → Int32 → mx_H → Option mx_H} (hk_2 : ∀ (l0 : Nat) (l1 : Int32) (h : mx_H) (r : mx_H), kk_2 l0 l1 h = some r → mx_S X F L 432 2 [(0, .ref l0), (1, .int l1)] [] h 0 0 (none, r, 0, 0)) (l0 : Nat) (l1 : Int32) (s0 : Int32) (s1 : Nat) (h : mx_H) {r : mx_H} (hf : j_X13_bodies_63 nn kk_2 l0 l1 s0 s1 h = some r) : mx_S X F L 432 63 [(0, .ref l0), (1, .int l1)] [.int s0, .ref s1] h 0 0 (none, r, 0, 0) := by
  have hm : mx_mt 432 = some (yX13_bodies, cX13_bodies, 3, none) := mt_X13_bodies
  unfold j_X13_bodies_63 at hf
  replace hf := mx_gd_el hf; obtain ⟨c32, hf⟩ := hf
  replace hf := mx_sv_el hf; obtain ⟨h33, e_h33, hf⟩ := hf
  refine sx_put hm dX13_bodies_63 rs_RX13_510 ft_13_53 (xbq_ok c32) (fun z => by cases z) e_h33 ?_
  clear e_h33
  refine mx_S.pu (pc2 := 67) (lv2 := [(0, .ref l0), (1, .int l1)]) (st2 := [.ref l0]) hm dX13_bodies_66 rfl ?_
  refine sx_ic (v := 0) hm dX13_bodies_67 (by decide) ?_
  replace hf := mx_sv_el hf; obtain ⟨h34, e_h34, hf⟩ := hf
  refine sx_put hm dX13_bodies_68 rs_RX13_513 ft_13_50 ⟨rfl, rfl⟩ (fun z => by cases z) e_h34 ?_
  clear e_h34
  refine mx_S.pu (pc2 := 72) (lv2 := [(0, .ref l0), (1, .int l1)]) (st2 := [.ref l0]) hm dX13_bodies_71 rfl ?_
  refine sx_ic (v := 0) hm dX13_bodies_72 (by decide) ?_
  replace hf := mx_sv_el hf; obtain ⟨h35, e_h35, hf⟩ := hf
  refine sx_put hm dX13_bodies_73 rs_RX13_522 ft_13_54 ⟨rfl, rfl⟩ (fun z => by cases z) e_h35 ?_
  clear e_h35
  refine mx_S.pu (pc2 := 77) (lv2 := [(0, .ref l0), (1, .int l1)]) (st2 := [.ref l0]) hm dX13_bodies_76 rfl ?_
  refine sx_ic (v := 0) hm dX13_bodies_77 (by decide) ?_
  replace hf := mx_sv_el hf; obtain ⟨h36, e_h36, hf⟩ := hf
  refine sx_put hm dX13_bodies_78 rs_RX13_525 ft_13_57 ⟨rfl, rfl⟩ (fun z => by cases z) e_h36 ?_
  clear e_h36
  refine sx_ic (v := 0) hm dX13_bodies_81 (by decide) ?_
  refine mx_S.pu (pc2 := 83) (lv2 := [(2, .int 0), (0, .ref l0), (1, .int l1)]) (st2 := []) hm dX13_bodies_82 rfl ?_
  refine mx_S.ext [(0, .ref l0), (1, .int l1), (2, .int 0)] (mx_sub_pos [1, 2, 0] rfl (show ([2, 0, 1] : List Nat).Nodup by decide)) ?_
  exact w_X13_bodies_83_ok X hF hL nn hk_2 nn l0 l1 0 h36 _ hf
set_option maxHeartbeats 4000000 in
set_option maxRecDepth 20000 in
theorem w_X13_bodies_2_ok (X : Nat × (Nat → Int32)) {F L : Nat} (hF : 1808 ≤ F) (hL : 48785 ≤ L) (nn : Nat) : ∀ (k : Nat) (l0 : Nat) (l1 : Int32) (h : mx_H) (r : mx_H), w_X13_bodies_2 nn k l0 l1 h = some r → mx_S X F L 432 2 [(0, .ref l0), (1, .int l1)] [] h 0 0 (none, r, 0, 0) := by
  have hm : mx_mt 432 = some (yX13_bodies, cX13_bodies, 3, none) := mt_X13_bodies
  intro k
  induction k with
  | zero => intro l0 l1 h r hf; cases hf
  | succ k ih =>
    intro l0 l1 h r hf
    unfold w_X13_bodies_2 at hf
    refine mx_S.pu (pc2 := 3) (lv2 := [(0, .ref l0), (1, .int l1)]) (st2 := [.int l1]) hm dX13_bodies_2 rfl ?_
    refine mx_S.pu (pc2 := 4) (lv2 := [(0, .ref l0), (1, .int l1)]) (st2 := [.ref l0, .int l1]) hm dX13_bodies_3 rfl ?_
    replace hf := mx_sv_el hf; obtain ⟨v37, e_v37, hf⟩ := hf
    refine sx_get hm dX13_bodies_4 rs_RX13_412 (xgi_el e_v37) ?_
    clear e_v37
    rcases mx_if_el hf with ⟨c52, hf⟩ | ⟨c52, hf⟩
    · refine sb_ic_ge hm dX13_bodies_7 (tgt := 172) rfl (fun _ => ?_) (fun z => absurd c52 z)
      cases hf
      exact sx_ret hm dX13_bodies_172 rfl
    · refine sb_ic_ge hm dX13_bodies_7 (tgt := 172) rfl (fun z => absurd z c52) (fun _ => ?_)
      refine mx_S.pu (pc2 := 11) (lv2 := [(0, .ref l0), (1, .int l1)]) (st2 := [.ref l0]) hm dX13_bodies_10 rfl ?_
      replace hf := mx_sv_el hf; obtain ⟨v38, e_v38, hf⟩ := hf
      refine sx_get hm dX13_bodies_11 rs_RX13_319 (xgi_el e_v38) ?_
      clear e_v38
      rcases mx_if_el hf with ⟨c51, hf⟩ | ⟨c51, hf⟩
      · refine sb_if_ne hm dX13_bodies_14 (tgt := 172) rfl (fun _ => ?_) (fun z => absurd c51 z)
        cases hf
        exact sx_ret hm dX13_bodies_172 rfl
      · refine sb_if_ne hm dX13_bodies_14 (tgt := 172) rfl (fun z => absurd z c51) (fun _ => ?_)
        refine mx_S.pu (pc2 := 18) (lv2 := [(0, .ref l0), (1, .int l1)]) (st2 := [.ref l0]) hm dX13_bodies_17 rfl ?_
        replace hf := mx_sv_el hf; obtain ⟨v39, e_v39, hf⟩ := hf
        refine sx_get hm dX13_bodies_18 rs_RX13_74 (xgr_el e_v39) ?_
        clear e_v39
        refine mx_S.pu (pc2 := 22) (lv2 := [(0, .ref l0), (1, .int l1)]) (st2 := [.int l1, .ref v39]) hm dX13_bodies_21 rfl ?_
        replace hf := mx_sv_el hf; obtain ⟨v40, e_v40, hf⟩ := hf
        refine sx_ald hm dX13_bodies_22 e_v40 ?_
        clear e_v40
        rcases mx_if_el hf with ⟨c50, hf⟩ | ⟨c50, hf⟩
        · refine sb_if_ne hm dX13_bodies_23 (tgt := 29) rfl (fun _ => ?_) (fun z => absurd c50 z)
          refine mx_S.pu (pc2 := 30) (lv2 := [(0, .ref l0), (1, .int l1)]) (st2 := [.ref l0]) hm dX13_bodies_29 rfl ?_
          refine mx_S.pu (pc2 := 31) (lv2 := [(0, .ref l0), (1, .int l1)]) (st2 := [.int l1, .ref l0]) hm dX13_bodies_30 rfl ?_
          replace hf := mx_sv_el hf; obtain ⟨h41, e_h41, hf⟩ := hf
          refine sx_put hm dX13_bodies_31 rs_RX13_516 ft_13_51 ⟨rfl, rfl⟩ (fun z => by cases z) e_h41 ?_
          clear e_h41
          refine mx_S.pu (pc2 := 35) (lv2 := [(0, .ref l0), (1, .int l1)]) (st2 := [.ref l0]) hm dX13_bodies_34 rfl ?_
          refine sx_bi (v := 8) hm dX13_bodies_35 (by decide) ?_
          refine mx_S.pu (pc2 := 38) (lv2 := [(0, .ref l0), (1, .int l1)]) (st2 := [.ref l0, .int 8, .ref l0]) hm dX13_bodies_37 rfl ?_
          replace hf := mx_sv_el hf; obtain ⟨v42, e_v42, hf⟩ := hf
          refine sx_get hm dX13_bodies_38 rs_RX13_71 (xgr_el e_v42) ?_
          clear e_v42
          refine mx_S.pu (pc2 := 42) (lv2 := [(0, .ref l0), (1, .int l1)]) (st2 := [.int l1, .ref v42, .int 8, .ref l0]) hm dX13_bodies_41 rfl ?_
          replace hf := mx_sv_el hf; obtain ⟨v43, e_v43, hf⟩ := hf
          refine sx_ald hm dX13_bodies_42 e_v43 ?_
          clear e_v43
          replace hf := xl_el hf; obtain ⟨v44, e_v44, hf⟩ := hf
          refine mx_S.pu (pc2 := 44) (lv2 := [(0, .ref l0), (1, .int l1)]) (st2 := [.int v44, .ref l0]) hm dX13_bodies_43 (by rw [← e_v44]; rfl) ?_
          clear e_v44
          replace hf := mx_sv_el hf; obtain ⟨h45, e_h45, hf⟩ := hf
          refine sx_put hm dX13_bodies_44 rs_RX13_519 ft_13_52 ⟨rfl, rfl⟩ (fun z => by cases z) e_h45 ?_
          clear e_h45
          refine mx_S.pu (pc2 := 48) (lv2 := [(0, .ref l0), (1, .int l1)]) (st2 := [.ref l0]) hm dX13_bodies_47 rfl ?_
          refine mx_S.pu (pc2 := 49) (lv2 := [(0, .ref l0), (1, .int l1)]) (st2 := [.ref l0, .ref l0]) hm dX13_bodies_48 rfl ?_
          replace hf := mx_sv_el hf; obtain ⟨v46, e_v46, hf⟩ := hf
          refine sx_get hm dX13_bodies_49 rs_RX13_74 (xgr_el e_v46) ?_
          clear e_v46
          refine mx_S.pu (pc2 := 53) (lv2 := [(0, .ref l0), (1, .int l1)]) (st2 := [.int l1, .ref v46, .ref l0]) hm dX13_bodies_52 rfl ?_
          replace hf := mx_sv_el hf; obtain ⟨v47, e_v47, hf⟩ := hf
          refine sx_ald hm dX13_bodies_53 e_v47 ?_
          clear e_v47
          refine sx_ic (v := 2) hm dX13_bodies_54 (by decide) ?_
          rcases mx_if_el hf with ⟨c48, hf⟩ | ⟨c48, hf⟩
          · refine sb_ic_ne hm dX13_bodies_55 (tgt := 62) rfl (fun _ => ?_) (fun z => absurd c48 z)
            refine sx_ic (v := 0) hm dX13_bodies_62 (by decide) ?_
            exact j_X13_bodies_63_ok X hF hL nn ih l0 l1 0 l0 h45 hf
          · refine sb_ic_ne hm dX13_bodies_55 (tgt := 62) rfl (fun z => absurd z c48) (fun _ => ?_)
            refine sx_ic (v := 1) hm dX13_bodies_58 (by decide) ?_
            refine mx_S.pu (pc2 := 63) (lv2 := [(0, .ref l0), (1, .int l1)]) (st2 := [.int 1, .ref l0]) hm dX13_bodies_59 rfl ?_
            exact j_X13_bodies_63_ok X hF hL nn ih l0 l1 1 l0 h45 hf
        · refine sb_if_ne hm dX13_bodies_23 (tgt := 29) rfl (fun z => absurd z c50) (fun _ => ?_)
          refine mx_S.pu (pc2 := 166) (lv2 := [(0, .ref l0), (1, .int l1)]) (st2 := []) hm dX13_bodies_26 rfl ?_
          replace hf := xl_el hf; obtain ⟨v49, e_v49, hf⟩ := hf
          refine mx_S.pu (pc2 := 169) (lv2 := [(1, .int v49), (0, .ref l0)]) (st2 := []) hm dX13_bodies_166 (by rw [← e_v49]; rfl) ?_
          clear e_v49
          refine mx_S.pu (pc2 := 2) (lv2 := [(1, .int v49), (0, .ref l0)]) (st2 := []) hm dX13_bodies_169 rfl ?_
          refine mx_S.ext [(0, .ref l0), (1, .int v49)] (mx_sub_pos [1, 0] rfl (show ([1, 0] : List Nat).Nodup by decide)) ?_
          exact ih l0 v49 h _ hf
set_option maxHeartbeats 4000000 in
set_option maxRecDepth 20000 in
theorem f_X13_bodies_ok (X : Nat × (Nat → Int32)) {F L : Nat} (hF : 1808 ≤ F) (hL : 48785 ≤ L) (nn : Nat) (a0 : Nat) (h : mx_H) {r : mx_H} (hf : f_X13_bodies nn a0 h = some r) : mx_R X F L 432 [.ref a0] h (none, r, 0, 0) := by
  have hm : mx_mt 432 = some (yX13_bodies, cX13_bodies, 3, none) := mt_X13_bodies
  show mx_S X F L 432 0 [(0, .ref a0)] [] h 0 0 (none, r, 0, 0)
  unfold f_X13_bodies at hf
  refine sx_ic (v := 0) hm dX13_bodies_0 (by decide) ?_
  refine mx_S.pu (pc2 := 2) (lv2 := [(1, .int 0), (0, .ref a0)]) (st2 := []) hm dX13_bodies_1 rfl ?_
  refine mx_S.ext [(0, .ref a0), (1, .int 0)] (mx_sub_pos [1, 0] rfl (show ([1, 0] : List Nat).Nodup by decide)) ?_
  exact w_X13_bodies_2_ok X hF hL nn nn a0 0 h _ hf
set_option maxHeartbeats 4000000 in
set_option maxRecDepth 20000 in
theorem w_X13_memberHead_239_ok (X : Nat × (Nat → Int32)) {F L : Nat} (hF : 7 ≤ F) (hL : 159 ≤ L) (nn : Nat) {kk_157 : Nat → Int32 → Int32 → mx_H → Option mx_H} (hk_157 : ∀ (l0 : Nat) (l1 : Int32) (l4 : Int32) (h : mx_H) (r : mx_H), kk_157 l0 l1 l4 h = some r → mx_S X F L 427 157 [(0, .ref l0), (1, .int l1), (4, .int l4)] [] h 0 0 (none, r, 0, 0)) : ∀ (k : Nat) (l0 : Nat) (l1 : Int32) (l4 : Int32) (l5 : Int32) (l6 : Int32) (h : mx_H) (r : mx_H), w_X13_memberHead_239 nn kk_157 k l0 l1 l4 l5 l6 h = some r → mx_S X F L 427 239 [(0, .ref l0), (1, .int l1), (4, .int l4), (5, .int l5), (6, .int l6)] [] h 0 0 (none, r, 0, 0) := by
  have hm : mx_mt 427 = some (yX13_memberHead, cX13_memberHead, 7, none) := mt_X13_memberHead
  intro k
  induction k with
  | zero => intro l0 l1 l4 l5 l6 h r hf; cases hf
  | succ k ih =>
    intro l0 l1 l4 l5 l6 h r hf
    unfold w_X13_memberHead_239 at hf
    refine mx_S.pu (pc2 := 241) (lv2 := [(0, .ref l0), (1, .int l1), (4, .int l4), (5, .int l5), (6, .int l6)]) (st2 := [.int l6]) hm dX13_memberHead_239 rfl ?_
    refine mx_S.pu (pc2 := 243) (lv2 := [(0, .ref l0), (1, .int l1), (4, .int l4), (5, .int l5), (6, .int l6)]) (st2 := [.int l5, .int l6]) hm dX13_memberHead_241 rfl ?_
    rcases mx_if_el hf with ⟨c15, hf⟩ | ⟨c15, hf⟩
    · refine sb_ic_ge hm dX13_memberHead_243 (tgt := 285) rfl (fun _ => ?_) (fun z => absurd c15 z)
      replace hf := xl_el hf; obtain ⟨v1, e_v1, hf⟩ := hf
      refine mx_S.pu (pc2 := 288) (lv2 := [(4, .int v1), (0, .ref l0), (1, .int l1), (5, .int l5), (6, .int l6)]) (st2 := []) hm dX13_memberHead_285 (by rw [← e_v1]; rfl) ?_
      clear e_v1
      refine mx_S.pu (pc2 := 157) (lv2 := [(4, .int v1), (0, .ref l0), (1, .int l1), (5, .int l5), (6, .int l6)]) (st2 := []) hm dX13_memberHead_288 rfl ?_
      refine mx_S.ext [(0, .ref l0), (1, .int l1), (4, .int v1)] (mx_sub_pos [1, 2, 0] rfl (show ([4, 0, 1, 5, 6] : List Nat).Nodup by decide)) ?_
      exact hk_157 l0 l1 v1 h _ hf
    · refine sb_ic_ge hm dX13_memberHead_243 (tgt := 285) rfl (fun z => absurd z c15) (fun _ => ?_)
      refine mx_S.pu (pc2 := 247) (lv2 := [(0, .ref l0), (1, .int l1), (4, .int l4), (5, .int l5), (6, .int l6)]) (st2 := [.ref l0]) hm dX13_memberHead_246 rfl ?_
      refine mx_S.pu (pc2 := 248) (lv2 := [(0, .ref l0), (1, .int l1), (4, .int l4), (5, .int l5), (6, .int l6)]) (st2 := [.ref l0, .ref l0]) hm dX13_memberHead_247 rfl ?_
      replace hf := mx_sv_el hf; obtain ⟨v2, e_v2, hf⟩ := hf
      refine sx_get hm dX13_memberHead_248 rs_RX13_110 (xgr_el e_v2) ?_
      clear e_v2
      refine mx_S.pu (pc2 := 253) (lv2 := [(0, .ref l0), (1, .int l1), (4, .int l4), (5, .int l5), (6, .int l6)]) (st2 := [.int l6, .ref v2, .ref l0]) hm dX13_memberHead_251 rfl ?_
      replace hf := mx_sv_el hf; obtain ⟨v3, e_v3, hf⟩ := hf
      refine sx_ald hm dX13_memberHead_253 e_v3 ?_
      clear e_v3
      refine mx_S.pu (pc2 := 255) (lv2 := [(0, .ref l0), (1, .int l1), (4, .int l4), (5, .int l5), (6, .int l6)]) (st2 := [.ref l0, .int v3, .ref l0]) hm dX13_memberHead_254 rfl ?_
      replace hf := mx_sv_el hf; obtain ⟨v4, e_v4, hf⟩ := hf
      refine sx_get hm dX13_memberHead_255 rs_RX13_110 (xgr_el e_v4) ?_
      clear e_v4
      refine mx_S.pu (pc2 := 260) (lv2 := [(0, .ref l0), (1, .int l1), (4, .int l4), (5, .int l5), (6, .int l6)]) (st2 := [.int l5, .ref v4, .int v3, .ref l0]) hm dX13_memberHead_258 rfl ?_
      replace hf := mx_sv_el hf; obtain ⟨v5, e_v5, hf⟩ := hf
      refine sx_ald hm dX13_memberHead_260 e_v5 ?_
      clear e_v5
      replace hf := mx_gd_el hf; obtain ⟨c6, hf⟩ := hf
      replace hf := mx_sv_el hf; obtain ⟨u7, e_u7, hf⟩ := hf
      refine sx_cv hm dX13_memberHead_261 rs_RX13_479 mt_X13_isLike [.int v3, .int v5] [] (b := l0) (ci := 13) rfl rfl rfl c6 (Nat.le_of_ble_eq_true rfl) (Nat.le_of_ble_eq_true rfl) (by omega) (by omega) (f_X13_isLike_ok X (by omega) (by omega) nn l0 v3 v5 h e_u7) ?_
      clear e_u7
      show mx_S X F L 427 264 [(0, .ref l0), (1, .int l1), (4, .int l4), (5, .int l5), (6, .int l6)] [.int u7.1] u7.2 0 0 (none, r, 0, 0)
      rcases mx_if_el hf with ⟨c14, hf⟩ | ⟨c14, hf⟩
      · refine sb_if_eq hm dX13_memberHead_264 (tgt := 279) rfl (fun _ => ?_) (fun z => absurd c14 z)
        replace hf := xl_el hf; obtain ⟨v8, e_v8, hf⟩ := hf
        refine mx_S.pu (pc2 := 282) (lv2 := [(6, .int v8), (0, .ref l0), (1, .int l1), (4, .int l4), (5, .int l5)]) (st2 := []) hm dX13_memberHead_279 (by rw [← e_v8]; rfl) ?_
        clear e_v8
        refine mx_S.pu (pc2 := 239) (lv2 := [(6, .int v8), (0, .ref l0), (1, .int l1), (4, .int l4), (5, .int l5)]) (st2 := []) hm dX13_memberHead_282 rfl ?_
        refine mx_S.ext [(0, .ref l0), (1, .int l1), (4, .int l4), (5, .int l5), (6, .int v8)] (mx_sub_pos [1, 2, 3, 4, 0] rfl (show ([6, 0, 1, 4, 5] : List Nat).Nodup by decide)) ?_
        exact ih l0 l1 l4 l5 v8 u7.2 _ hf
      · refine sb_if_eq hm dX13_memberHead_264 (tgt := 279) rfl (fun z => absurd z c14) (fun _ => ?_)
        refine mx_S.pu (pc2 := 268) (lv2 := [(0, .ref l0), (1, .int l1), (4, .int l4), (5, .int l5), (6, .int l6)]) (st2 := [.ref l0]) hm dX13_memberHead_267 rfl ?_
        refine sx_ic (v := 4) hm dX13_memberHead_268 (by decide) ?_
        refine mx_S.pu (pc2 := 270) (lv2 := [(0, .ref l0), (1, .int l1), (4, .int l4), (5, .int l5), (6, .int l6)]) (st2 := [.ref l0, .int 4, .ref l0]) hm dX13_memberHead_269 rfl ?_
        replace hf := mx_sv_el hf; obtain ⟨v9, e_v9, hf⟩ := hf
        refine sx_get hm dX13_memberHead_270 rs_RX13_110 (xgr_el e_v9) ?_
        clear e_v9
        refine mx_S.pu (pc2 := 275) (lv2 := [(0, .ref l0), (1, .int l1), (4, .int l4), (5, .int l5), (6, .int l6)]) (st2 := [.int l5, .ref v9, .int 4, .ref l0]) hm dX13_memberHead_273 rfl ?_
        replace hf := mx_sv_el hf; obtain ⟨v10, e_v10, hf⟩ := hf
        refine sx_ald hm dX13_memberHead_275 e_v10 ?_
        clear e_v10
        replace hf := mx_gd_el hf; obtain ⟨c11, hf⟩ := hf
        replace hf := mx_sv_el hf; obtain ⟨u12, e_u12, hf⟩ := hf
        refine sx_cv hm dX13_memberHead_276 rs_RX13_379 mt_X13_wrong [.int 4, .int v10] [] (b := l0) (ci := 13) rfl rfl rfl c11 (Nat.le_of_ble_eq_true rfl) (Nat.le_of_ble_eq_true rfl) (by omega) (by omega) (f_X13_wrong_ok X (by omega) (by omega) nn l0 4 v10 u7.2 e_u12) ?_
        clear e_u12
        show mx_S X F L 427 279 [(0, .ref l0), (1, .int l1), (4, .int l4), (5, .int l5), (6, .int l6)] [] u12 0 0 (none, r, 0, 0)
        replace hf := xl_el hf; obtain ⟨v13, e_v13, hf⟩ := hf
        refine mx_S.pu (pc2 := 282) (lv2 := [(6, .int v13), (0, .ref l0), (1, .int l1), (4, .int l4), (5, .int l5)]) (st2 := []) hm dX13_memberHead_279 (by rw [← e_v13]; rfl) ?_
        clear e_v13
        refine mx_S.pu (pc2 := 239) (lv2 := [(6, .int v13), (0, .ref l0), (1, .int l1), (4, .int l4), (5, .int l5)]) (st2 := []) hm dX13_memberHead_282 rfl ?_
        refine mx_S.ext [(0, .ref l0), (1, .int l1), (4, .int l4), (5, .int l5), (6, .int v13)] (mx_sub_pos [1, 2, 3, 4, 0] rfl (show ([6, 0, 1, 4, 5] : List Nat).Nodup by decide)) ?_
        exact ih l0 l1 l4 l5 v13 u12 _ hf
set_option maxHeartbeats 4000000 in
set_option maxRecDepth 20000 in
theorem j_X13_memberHead_231_ok (X : Nat × (Nat → Int32)) {F L : Nat} (hF : 7 ≤ F) (hL : 159 ≤ L) (nn : Nat) {kk_157 : Nat → Int32 → Int32 → mx_H → Option mx_H} (hk_157 : ∀ (l0 : Nat) (l1 : Int32) (l4 : Int32) (h : mx_H) (r : mx_H), kk_157 l0 l1 l4 h = some r → mx_S X F L 427 157 [(0, .ref l0), (1, .int l1), (4, .int l4)] [] h 0 0 (none, r, 0, 0)) (l0 : Nat) (l1 : Int32) (l4 : Int32) (l5 : Int32) (h : mx_H) {r : mx_H} (hf : j_X13_memberHead_231 nn kk_157 l0 l1 l4 l5 h = some r) : mx_S X F L 427 231 [(0, .ref l0), (1, .int l1), (4, .int l4), (5, .int l5)] [] h 0 0 (none, r, 0, 0) := by
  have hm : mx_mt 427 = some (yX13_memberHead, cX13_memberHead, 7, none) := mt_X13_memberHead
  unfold j_X13_memberHead_231 at hf
  refine mx_S.pu (pc2 := 232) (lv2 := [(0, .ref l0), (1, .int l1), (4, .int l4), (5, .int l5)]) (st2 := [.ref l0]) hm dX13_memberHead_231 rfl ?_
  replace hf := mx_sv_el hf; obtain ⟨v16, e_v16, hf⟩ := hf
  refine sx_get hm dX13_memberHead_232 rs_RX13_92 (xgr_el e_v16) ?_
  clear e_v16
  refine mx_S.pu (pc2 := 236) (lv2 := [(0, .ref l0), (1, .int l1), (4, .int l4), (5, .int l5)]) (st2 := [.int l1, .ref v16]) hm dX13_memberHead_235 rfl ?_
  replace hf := mx_sv_el hf; obtain ⟨v17, e_v17, hf⟩ := hf
  refine sx_ald hm dX13_memberHead_236 e_v17 ?_
  clear e_v17
  refine mx_S.pu (pc2 := 239) (lv2 := [(6, .int v17), (0, .ref l0), (1, .int l1), (4, .int l4), (5, .int l5)]) (st2 := []) hm dX13_memberHead_237 rfl ?_
  refine mx_S.ext [(0, .ref l0), (1, .int l1), (4, .int l4), (5, .int l5), (6, .int v17)] (mx_sub_pos [1, 2, 3, 4, 0] rfl (show ([6, 0, 1, 4, 5] : List Nat).Nodup by decide)) ?_
  exact w_X13_memberHead_239_ok X hF hL nn hk_157 nn l0 l1 l4 l5 v17 h _ hf
set_option maxHeartbeats 4000000 in
set_option maxRecDepth 20000 in
theorem w_X13_memberHead_157_ok (X : Nat × (Nat → Int32)) {F L : Nat} (hF : 7 ≤ F) (hL : 159 ≤ L) (nn : Nat) : ∀ (k : Nat) (l0 : Nat) (l1 : Int32) (l4 : Int32) (h : mx_H) (r : mx_H), w_X13_memberHead_157 nn k l0 l1 l4 h = some r → mx_S X F L 427 157 [(0, .ref l0), (1, .int l1), (4, .int l4)] [] h 0 0 (none, r, 0, 0) := by
  have hm : mx_mt 427 = some (yX13_memberHead, cX13_memberHead, 7, none) := mt_X13_memberHead
  intro k
  induction k with
  | zero => intro l0 l1 l4 h r hf; cases hf
  | succ k ih =>
    intro l0 l1 l4 h r hf
    unfold w_X13_memberHead_157 at hf
    refine mx_S.pu (pc2 := 159) (lv2 := [(0, .ref l0), (1, .int l1), (4, .int l4)]) (st2 := [.int l4]) hm dX13_memberHead_157 rfl ?_
    refine mx_S.pu (pc2 := 160) (lv2 := [(0, .ref l0), (1, .int l1), (4, .int l4)]) (st2 := [.ref l0, .int l4]) hm dX13_memberHead_159 rfl ?_
    replace hf := mx_sv_el hf; obtain ⟨v18, e_v18, hf⟩ := hf
    refine sx_get hm dX13_memberHead_160 rs_RX13_95 (xgr_el e_v18) ?_
    clear e_v18
    refine mx_S.pu (pc2 := 164) (lv2 := [(0, .ref l0), (1, .int l1), (4, .int l4)]) (st2 := [.int l1, .ref v18, .int l4]) hm dX13_memberHead_163 rfl ?_
    replace hf := mx_sv_el hf; obtain ⟨v19, e_v19, hf⟩ := hf
    refine sx_ald hm dX13_memberHead_164 e_v19 ?_
    clear e_v19
    rcases mx_if_el hf with ⟨c38, hf⟩ | ⟨c38, hf⟩
    · refine sb_ic_ge hm dX13_memberHead_165 (tgt := 291) rfl (fun _ => ?_) (fun z => absurd c38 z)
      cases hf
      exact sx_ret hm dX13_memberHead_291 rfl
    · refine sb_ic_ge hm dX13_memberHead_165 (tgt := 291) rfl (fun z => absurd z c38) (fun _ => ?_)
      refine mx_S.pu (pc2 := 169) (lv2 := [(0, .ref l0), (1, .int l1), (4, .int l4)]) (st2 := [.ref l0]) hm dX13_memberHead_168 rfl ?_
      replace hf := mx_sv_el hf; obtain ⟨v20, e_v20, hf⟩ := hf
      refine sx_get hm dX13_memberHead_169 rs_RX13_92 (xgr_el e_v20) ?_
      clear e_v20
      refine mx_S.pu (pc2 := 173) (lv2 := [(0, .ref l0), (1, .int l1), (4, .int l4)]) (st2 := [.int l1, .ref v20]) hm dX13_memberHead_172 rfl ?_
      replace hf := mx_sv_el hf; obtain ⟨v21, e_v21, hf⟩ := hf
      refine sx_ald hm dX13_memberHead_173 e_v21 ?_
      clear e_v21
      refine mx_S.pu (pc2 := 176) (lv2 := [(0, .ref l0), (1, .int l1), (4, .int l4)]) (st2 := [.int l4, .int v21]) hm dX13_memberHead_174 rfl ?_
      replace hf := xl_el hf; obtain ⟨v22, e_v22, hf⟩ := hf
      refine mx_S.pu (pc2 := 177) (lv2 := [(0, .ref l0), (1, .int l1), (4, .int l4)]) (st2 := [.int v22]) hm dX13_memberHead_176 (by rw [← e_v22]; rfl) ?_
      clear e_v22
      refine mx_S.pu (pc2 := 179) (lv2 := [(5, .int v22), (0, .ref l0), (1, .int l1), (4, .int l4)]) (st2 := []) hm dX13_memberHead_177 rfl ?_
      refine mx_S.pu (pc2 := 180) (lv2 := [(5, .int v22), (0, .ref l0), (1, .int l1), (4, .int l4)]) (st2 := [.ref l0]) hm dX13_memberHead_179 rfl ?_
      replace hf := mx_sv_el hf; obtain ⟨v23, e_v23, hf⟩ := hf
      refine sx_get hm dX13_memberHead_180 rs_RX13_113 (xgr_el e_v23) ?_
      clear e_v23
      refine mx_S.pu (pc2 := 185) (lv2 := [(5, .int v22), (0, .ref l0), (1, .int l1), (4, .int l4)]) (st2 := [.int v22, .ref v23]) hm dX13_memberHead_183 rfl ?_
      refine mx_S.pu (pc2 := 186) (lv2 := [(5, .int v22), (0, .ref l0), (1, .int l1), (4, .int l4)]) (st2 := [.ref l0, .int v22, .ref v23]) hm dX13_memberHead_185 rfl ?_
      refine mx_S.pu (pc2 := 187) (lv2 := [(5, .int v22), (0, .ref l0), (1, .int l1), (4, .int l4)]) (st2 := [.ref l0, .ref l0, .int v22, .ref v23]) hm dX13_memberHead_186 rfl ?_
      replace hf := mx_sv_el hf; obtain ⟨v24, e_v24, hf⟩ := hf
      refine sx_get hm dX13_memberHead_187 rs_RX13_101 (xgr_el e_v24) ?_
      clear e_v24
      refine mx_S.pu (pc2 := 192) (lv2 := [(5, .int v22), (0, .ref l0), (1, .int l1), (4, .int l4)]) (st2 := [.int v22, .ref v24, .ref l0, .int v22, .ref v23]) hm dX13_memberHead_190 rfl ?_
      replace hf := mx_sv_el hf; obtain ⟨v25, e_v25, hf⟩ := hf
      refine sx_ald hm dX13_memberHead_192 e_v25 ?_
      clear e_v25
      refine mx_S.pu (pc2 := 194) (lv2 := [(5, .int v22), (0, .ref l0), (1, .int l1), (4, .int l4)]) (st2 := [.ref l0, .int v25, .ref l0, .int v22, .ref v23]) hm dX13_memberHead_193 rfl ?_
      replace hf := mx_sv_el hf; obtain ⟨v26, e_v26, hf⟩ := hf
      refine sx_get hm dX13_memberHead_194 rs_RX13_104 (xgr_el e_v26) ?_
      clear e_v26
      refine mx_S.pu (pc2 := 199) (lv2 := [(5, .int v22), (0, .ref l0), (1, .int l1), (4, .int l4)]) (st2 := [.int v22, .ref v26, .int v25, .ref l0, .int v22, .ref v23]) hm dX13_memberHead_197 rfl ?_
      replace hf := mx_sv_el hf; obtain ⟨v27, e_v27, hf⟩ := hf
      refine sx_ald hm dX13_memberHead_199 e_v27 ?_
      clear e_v27
      refine mx_S.pu (pc2 := 201) (lv2 := [(5, .int v22), (0, .ref l0), (1, .int l1), (4, .int l4)]) (st2 := [.ref l0, .int v27, .int v25, .ref l0, .int v22, .ref v23]) hm dX13_memberHead_200 rfl ?_
      replace hf := mx_sv_el hf; obtain ⟨v28, e_v28, hf⟩ := hf
      refine sx_get hm dX13_memberHead_201 rs_RX13_107 (xgr_el e_v28) ?_
      clear e_v28
      refine mx_S.pu (pc2 := 206) (lv2 := [(5, .int v22), (0, .ref l0), (1, .int l1), (4, .int l4)]) (st2 := [.int v22, .ref v28, .int v27, .int v25, .ref l0, .int v22, .ref v23]) hm dX13_memberHead_204 rfl ?_
      replace hf := mx_sv_el hf; obtain ⟨v29, e_v29, hf⟩ := hf
      refine sx_bld hm dX13_memberHead_206 e_v29 ?_
      clear e_v29
      replace hf := mx_gd_el hf; obtain ⟨c30, hf⟩ := hf
      replace hf := mx_sv_el hf; obtain ⟨u31, e_u31, hf⟩ := hf
      refine sx_cv hm dX13_memberHead_207 rs_RX13_503 mt_X13_typeOf [.int v25, .int v27, .int v29] [.int v22, .ref v23] (b := l0) (ci := 13) rfl rfl rfl c30 (Nat.le_of_ble_eq_true rfl) (Nat.le_of_ble_eq_true rfl) (by omega) (by omega) (f_X13_typeOf_ok X (by omega) (by omega) nn l0 v25 v27 v29 h e_u31) ?_
      clear e_u31
      show mx_S X F L 427 210 [(5, .int v22), (0, .ref l0), (1, .int l1), (4, .int l4)] [.int u31.1, .int v22, .ref v23] u31.2 0 0 (none, r, 0, 0)
      replace hf := mx_sv_el hf; obtain ⟨h32, e_h32, hf⟩ := hf
      refine sx_ast hm dX13_memberHead_210 e_h32 ?_
      clear e_h32
      refine mx_S.pu (pc2 := 213) (lv2 := [(5, .int v22), (0, .ref l0), (1, .int l1), (4, .int l4)]) (st2 := [.int l4]) hm dX13_memberHead_211 rfl ?_
      refine sx_bi (v := 6) hm dX13_memberHead_213 (by decide) ?_
      rcases mx_if_el hf with ⟨c37, hf⟩ | ⟨c37, hf⟩
      · refine sb_ic_ne hm dX13_memberHead_215 (tgt := 231) rfl (fun _ => ?_) (fun z => absurd c37 z)
        refine mx_S.ext [(0, .ref l0), (1, .int l1), (4, .int l4), (5, .int v22)] (mx_sub_pos [1, 2, 3, 0] rfl (show ([5, 0, 1, 4] : List Nat).Nodup by decide)) ?_
        exact j_X13_memberHead_231_ok X hF hL nn ih l0 l1 l4 v22 h32 hf
      · refine sb_ic_ne hm dX13_memberHead_215 (tgt := 231) rfl (fun z => absurd z c37) (fun _ => ?_)
        refine mx_S.pu (pc2 := 219) (lv2 := [(5, .int v22), (0, .ref l0), (1, .int l1), (4, .int l4)]) (st2 := [.ref l0]) hm dX13_memberHead_218 rfl ?_
        refine sx_bi (v := 11) hm dX13_memberHead_219 (by decide) ?_
        refine mx_S.pu (pc2 := 222) (lv2 := [(5, .int v22), (0, .ref l0), (1, .int l1), (4, .int l4)]) (st2 := [.ref l0, .int 11, .ref l0]) hm dX13_memberHead_221 rfl ?_
        replace hf := mx_sv_el hf; obtain ⟨v33, e_v33, hf⟩ := hf
        refine sx_get hm dX13_memberHead_222 rs_RX13_110 (xgr_el e_v33) ?_
        clear e_v33
        refine mx_S.pu (pc2 := 227) (lv2 := [(5, .int v22), (0, .ref l0), (1, .int l1), (4, .int l4)]) (st2 := [.int v22, .ref v33, .int 11, .ref l0]) hm dX13_memberHead_225 rfl ?_
        replace hf := mx_sv_el hf; obtain ⟨v34, e_v34, hf⟩ := hf
        refine sx_ald hm dX13_memberHead_227 e_v34 ?_
        clear e_v34
        replace hf := mx_gd_el hf; obtain ⟨c35, hf⟩ := hf
        replace hf := mx_sv_el hf; obtain ⟨u36, e_u36, hf⟩ := hf
        refine sx_cv hm dX13_memberHead_228 rs_RX13_379 mt_X13_wrong [.int 11, .int v34] [] (b := l0) (ci := 13) rfl rfl rfl c35 (Nat.le_of_ble_eq_true rfl) (Nat.le_of_ble_eq_true rfl) (by omega) (by omega) (f_X13_wrong_ok X (by omega) (by omega) nn l0 11 v34 h32 e_u36) ?_
        clear e_u36
        show mx_S X F L 427 231 [(5, .int v22), (0, .ref l0), (1, .int l1), (4, .int l4)] [] u36 0 0 (none, r, 0, 0)
        refine mx_S.ext [(0, .ref l0), (1, .int l1), (4, .int l4), (5, .int v22)] (mx_sub_pos [1, 2, 3, 0] rfl (show ([5, 0, 1, 4] : List Nat).Nodup by decide)) ?_
        exact j_X13_memberHead_231_ok X hF hL nn ih l0 l1 l4 v22 u36 hf
set_option maxHeartbeats 4000000 in
set_option maxRecDepth 20000 in
theorem j_X13_memberHead_139_ok (X : Nat × (Nat → Int32)) {F L : Nat} (hF : 7 ≤ F) (hL : 159 ≤ L) (nn : Nat) (l0 : Nat) (l1 : Int32) (l3 : Int32) (h : mx_H) {r : mx_H} (hf : j_X13_memberHead_139 nn l0 l1 l3 h = some r) : mx_S X F L 427 139 [(0, .ref l0), (1, .int l1), (3, .int l3)] [] h 0 0 (none, r, 0, 0) := by
  have hm : mx_mt 427 = some (yX13_memberHead, cX13_memberHead, 7, none) := mt_X13_memberHead
  unfold j_X13_memberHead_139 at hf
  refine mx_S.pu (pc2 := 140) (lv2 := [(0, .ref l0), (1, .int l1), (3, .int l3)]) (st2 := [.int l3]) hm dX13_memberHead_139 rfl ?_
  rcases mx_if_el hf with ⟨c43, hf⟩ | ⟨c43, hf⟩
  · refine sb_if_eq hm dX13_memberHead_140 (tgt := 154) rfl (fun _ => ?_) (fun z => absurd c43 z)
    refine sx_ic (v := 0) hm dX13_memberHead_154 (by decide) ?_
    refine mx_S.pu (pc2 := 157) (lv2 := [(4, .int 0), (0, .ref l0), (1, .int l1), (3, .int l3)]) (st2 := []) hm dX13_memberHead_155 rfl ?_
    refine mx_S.ext [(0, .ref l0), (1, .int l1), (4, .int 0)] (mx_sub_pos [1, 2, 0] rfl (show ([4, 0, 1, 3] : List Nat).Nodup by decide)) ?_
    exact w_X13_memberHead_157_ok X hF hL nn nn l0 l1 0 h _ hf
  · refine sb_if_eq hm dX13_memberHead_140 (tgt := 154) rfl (fun z => absurd z c43) (fun _ => ?_)
    refine mx_S.pu (pc2 := 144) (lv2 := [(0, .ref l0), (1, .int l1), (3, .int l3)]) (st2 := [.ref l0]) hm dX13_memberHead_143 rfl ?_
    refine sx_ic (v := 4) hm dX13_memberHead_144 (by decide) ?_
    refine mx_S.pu (pc2 := 146) (lv2 := [(0, .ref l0), (1, .int l1), (3, .int l3)]) (st2 := [.ref l0, .int 4, .ref l0]) hm dX13_memberHead_145 rfl ?_
    replace hf := mx_sv_el hf; obtain ⟨v39, e_v39, hf⟩ := hf
    refine sx_get hm dX13_memberHead_146 rs_RX13_86 (xgr_el e_v39) ?_
    clear e_v39
    refine mx_S.pu (pc2 := 150) (lv2 := [(0, .ref l0), (1, .int l1), (3, .int l3)]) (st2 := [.int l1, .ref v39, .int 4, .ref l0]) hm dX13_memberHead_149 rfl ?_
    replace hf := mx_sv_el hf; obtain ⟨v40, e_v40, hf⟩ := hf
    refine sx_ald hm dX13_memberHead_150 e_v40 ?_
    clear e_v40
    replace hf := mx_gd_el hf; obtain ⟨c41, hf⟩ := hf
    replace hf := mx_sv_el hf; obtain ⟨u42, e_u42, hf⟩ := hf
    refine sx_cv hm dX13_memberHead_151 rs_RX13_379 mt_X13_wrong [.int 4, .int v40] [] (b := l0) (ci := 13) rfl rfl rfl c41 (Nat.le_of_ble_eq_true rfl) (Nat.le_of_ble_eq_true rfl) (by omega) (by omega) (f_X13_wrong_ok X (by omega) (by omega) nn l0 4 v40 h e_u42) ?_
    clear e_u42
    show mx_S X F L 427 154 [(0, .ref l0), (1, .int l1), (3, .int l3)] [] u42 0 0 (none, r, 0, 0)
    refine sx_ic (v := 0) hm dX13_memberHead_154 (by decide) ?_
    refine mx_S.pu (pc2 := 157) (lv2 := [(4, .int 0), (0, .ref l0), (1, .int l1), (3, .int l3)]) (st2 := []) hm dX13_memberHead_155 rfl ?_
    refine mx_S.ext [(0, .ref l0), (1, .int l1), (4, .int 0)] (mx_sub_pos [1, 2, 0] rfl (show ([4, 0, 1, 3] : List Nat).Nodup by decide)) ?_
    exact w_X13_memberHead_157_ok X hF hL nn nn l0 l1 0 u42 _ hf
set_option maxHeartbeats 4000000 in
set_option maxRecDepth 20000 in
theorem j_X13_memberHead_86_ok (X : Nat × (Nat → Int32)) {F L : Nat} (hF : 7 ≤ F) (hL : 159 ≤ L) (nn : Nat) {kk_35 : Nat → Int32 → Int32 → Int32 → Int32 → mx_H → Option mx_H} (hk_35 : ∀ (l0 : Nat) (l1 : Int32) (l2 : Int32) (l3 : Int32) (l4 : Int32) (h : mx_H) (r : mx_H), kk_35 l0 l1 l2 l3 l4 h = some r → mx_S X F L 427 35 [(0, .ref l0), (1, .int l1), (2, .int l2), (3, .int l3), (4, .int l4)] [] h 0 0 (none, r, 0, 0)) (l0 : Nat) (l1 : Int32) (l2 : Int32) (l3 : Int32) (l4 : Int32) (s0 : Int32) (s1 : Int32) (h : mx_H) {r : mx_H} (hf : j_X13_memberHead_86 nn kk_35 l0 l1 l2 l3 l4 s0 s1 h = some r) : mx_S X F L 427 86 [(0, .ref l0), (1, .int l1), (2, .int l2), (3, .int l3), (4, .int l4)] [.int s0, .int s1] h 0 0 (none, r, 0, 0) := by
  have hm : mx_mt 427 = some (yX13_memberHead, cX13_memberHead, 7, none) := mt_X13_memberHead
  unfold j_X13_memberHead_86 at hf
  rcases mx_if_el hf with ⟨c54, hf⟩ | ⟨c54, hf⟩
  · refine sb_ic_eq hm dX13_memberHead_86 (tgt := 92) rfl (fun _ => ?_) (fun z => absurd c54 z)
    replace hf := xl_el hf; obtain ⟨v44, e_v44, hf⟩ := hf
    refine mx_S.pu (pc2 := 95) (lv2 := [(2, .int v44), (0, .ref l0), (1, .int l1), (3, .int l3), (4, .int l4)]) (st2 := []) hm dX13_memberHead_92 (by rw [← e_v44]; rfl) ?_
    clear e_v44
    refine mx_S.pu (pc2 := 96) (lv2 := [(2, .int v44), (0, .ref l0), (1, .int l1), (3, .int l3), (4, .int l4)]) (st2 := [.int l3]) hm dX13_memberHead_95 rfl ?_
    refine mx_S.pu (pc2 := 97) (lv2 := [(2, .int v44), (0, .ref l0), (1, .int l1), (3, .int l3), (4, .int l4)]) (st2 := [.ref l0, .int l3]) hm dX13_memberHead_96 rfl ?_
    refine mx_S.pu (pc2 := 98) (lv2 := [(2, .int v44), (0, .ref l0), (1, .int l1), (3, .int l3), (4, .int l4)]) (st2 := [.ref l0, .ref l0, .int l3]) hm dX13_memberHead_97 rfl ?_
    replace hf := mx_sv_el hf; obtain ⟨v45, e_v45, hf⟩ := hf
    refine sx_get hm dX13_memberHead_98 rs_RX13_86 (xgr_el e_v45) ?_
    clear e_v45
    refine mx_S.pu (pc2 := 103) (lv2 := [(2, .int v44), (0, .ref l0), (1, .int l1), (3, .int l3), (4, .int l4)]) (st2 := [.int l4, .ref v45, .ref l0, .int l3]) hm dX13_memberHead_101 rfl ?_
    replace hf := mx_sv_el hf; obtain ⟨v46, e_v46, hf⟩ := hf
    refine sx_ald hm dX13_memberHead_103 e_v46 ?_
    clear e_v46
    refine mx_S.pu (pc2 := 105) (lv2 := [(2, .int v44), (0, .ref l0), (1, .int l1), (3, .int l3), (4, .int l4)]) (st2 := [.ref l0, .int v46, .ref l0, .int l3]) hm dX13_memberHead_104 rfl ?_
    replace hf := mx_sv_el hf; obtain ⟨v47, e_v47, hf⟩ := hf
    refine sx_get hm dX13_memberHead_105 rs_RX13_86 (xgr_el e_v47) ?_
    clear e_v47
    refine mx_S.pu (pc2 := 109) (lv2 := [(2, .int v44), (0, .ref l0), (1, .int l1), (3, .int l3), (4, .int l4)]) (st2 := [.int l1, .ref v47, .int v46, .ref l0, .int l3]) hm dX13_memberHead_108 rfl ?_
    replace hf := mx_sv_el hf; obtain ⟨v48, e_v48, hf⟩ := hf
    refine sx_ald hm dX13_memberHead_109 e_v48 ?_
    clear e_v48
    replace hf := mx_gd_el hf; obtain ⟨c49, hf⟩ := hf
    replace hf := mx_sv_el hf; obtain ⟨u50, e_u50, hf⟩ := hf
    refine sx_cv hm dX13_memberHead_110 rs_RX13_479 mt_X13_isLike [.int v46, .int v48] [.int l3] (b := l0) (ci := 13) rfl rfl rfl c49 (Nat.le_of_ble_eq_true rfl) (Nat.le_of_ble_eq_true rfl) (by omega) (by omega) (f_X13_isLike_ok X (by omega) (by omega) nn l0 v46 v48 h e_u50) ?_
    clear e_u50
    show mx_S X F L 427 113 [(2, .int v44), (0, .ref l0), (1, .int l1), (3, .int l3), (4, .int l4)] [.int u50.1, .int l3] u50.2 0 0 (none, r, 0, 0)
    replace hf := xl_el hf; obtain ⟨v51, e_v51, hf⟩ := hf
    refine mx_S.pu (pc2 := 114) (lv2 := [(2, .int v44), (0, .ref l0), (1, .int l1), (3, .int l3), (4, .int l4)]) (st2 := [.int v51]) hm dX13_memberHead_113 (by rw [← e_v51]; rfl) ?_
    clear e_v51
    refine mx_S.pu (pc2 := 115) (lv2 := [(3, .int v51), (2, .int v44), (0, .ref l0), (1, .int l1), (4, .int l4)]) (st2 := []) hm dX13_memberHead_114 rfl ?_
    replace hf := xl_el hf; obtain ⟨v52, e_v52, hf⟩ := hf
    refine mx_S.pu (pc2 := 118) (lv2 := [(4, .int v52), (3, .int v51), (2, .int v44), (0, .ref l0), (1, .int l1)]) (st2 := []) hm dX13_memberHead_115 (by rw [← e_v52]; rfl) ?_
    clear e_v52
    refine mx_S.pu (pc2 := 35) (lv2 := [(4, .int v52), (3, .int v51), (2, .int v44), (0, .ref l0), (1, .int l1)]) (st2 := []) hm dX13_memberHead_118 rfl ?_
    refine mx_S.ext [(0, .ref l0), (1, .int l1), (2, .int v44), (3, .int v51), (4, .int v52)] (mx_sub_pos [3, 4, 2, 1, 0] rfl (show ([4, 3, 2, 0, 1] : List Nat).Nodup by decide)) ?_
    exact hk_35 l0 l1 v44 v51 v52 u50.2 _ hf
  · refine sb_ic_eq hm dX13_memberHead_86 (tgt := 92) rfl (fun z => absurd z c54) (fun _ => ?_)
    refine mx_S.pu (pc2 := 115) (lv2 := [(0, .ref l0), (1, .int l1), (2, .int l2), (3, .int l3), (4, .int l4)]) (st2 := []) hm dX13_memberHead_89 rfl ?_
    replace hf := xl_el hf; obtain ⟨v53, e_v53, hf⟩ := hf
    refine mx_S.pu (pc2 := 118) (lv2 := [(4, .int v53), (0, .ref l0), (1, .int l1), (2, .int l2), (3, .int l3)]) (st2 := []) hm dX13_memberHead_115 (by rw [← e_v53]; rfl) ?_
    clear e_v53
    refine mx_S.pu (pc2 := 35) (lv2 := [(4, .int v53), (0, .ref l0), (1, .int l1), (2, .int l2), (3, .int l3)]) (st2 := []) hm dX13_memberHead_118 rfl ?_
    refine mx_S.ext [(0, .ref l0), (1, .int l1), (2, .int l2), (3, .int l3), (4, .int v53)] (mx_sub_pos [1, 2, 3, 4, 0] rfl (show ([4, 0, 1, 2, 3] : List Nat).Nodup by decide)) ?_
    exact hk_35 l0 l1 l2 l3 v53 h _ hf
set_option maxHeartbeats 4000000 in
set_option maxRecDepth 20000 in
theorem j_X13_memberHead_72_ok (X : Nat × (Nat → Int32)) {F L : Nat} (hF : 7 ≤ F) (hL : 159 ≤ L) (nn : Nat) {kk_35 : Nat → Int32 → Int32 → Int32 → Int32 → mx_H → Option mx_H} (hk_35 : ∀ (l0 : Nat) (l1 : Int32) (l2 : Int32) (l3 : Int32) (l4 : Int32) (h : mx_H) (r : mx_H), kk_35 l0 l1 l2 l3 l4 h = some r → mx_S X F L 427 35 [(0, .ref l0), (1, .int l1), (2, .int l2), (3, .int l3), (4, .int l4)] [] h 0 0 (none, r, 0, 0)) (l0 : Nat) (l1 : Int32) (l2 : Int32) (l3 : Int32) (l4 : Int32) (s0 : Int32) (h : mx_H) {r : mx_H} (hf : j_X13_memberHead_72 nn kk_35 l0 l1 l2 l3 l4 s0 h = some r) : mx_S X F L 427 72 [(0, .ref l0), (1, .int l1), (2, .int l2), (3, .int l3), (4, .int l4)] [.int s0] h 0 0 (none, r, 0, 0) := by
  have hm : mx_mt 427 = some (yX13_memberHead, cX13_memberHead, 7, none) := mt_X13_memberHead
  unfold j_X13_memberHead_72 at hf
  refine mx_S.pu (pc2 := 73) (lv2 := [(0, .ref l0), (1, .int l1), (2, .int l2), (3, .int l3), (4, .int l4)]) (st2 := [.ref l0, .int s0]) hm dX13_memberHead_72 rfl ?_
  replace hf := mx_sv_el hf; obtain ⟨v55, e_v55, hf⟩ := hf
  refine sx_get hm dX13_memberHead_73 rs_RX13_74 (xgr_el e_v55) ?_
  clear e_v55
  refine mx_S.pu (pc2 := 77) (lv2 := [(0, .ref l0), (1, .int l1), (2, .int l2), (3, .int l3), (4, .int l4)]) (st2 := [.int l1, .ref v55, .int s0]) hm dX13_memberHead_76 rfl ?_
  replace hf := mx_sv_el hf; obtain ⟨v56, e_v56, hf⟩ := hf
  refine sx_ald hm dX13_memberHead_77 e_v56 ?_
  clear e_v56
  rcases mx_if_el hf with ⟨c57, hf⟩ | ⟨c57, hf⟩
  · refine sb_if_le hm dX13_memberHead_78 (tgt := 85) rfl (fun _ => ?_) (fun z => absurd c57 z)
    refine sx_ic (v := 0) hm dX13_memberHead_85 (by decide) ?_
    exact j_X13_memberHead_86_ok X hF hL nn hk_35 l0 l1 l2 l3 l4 0 s0 h hf
  · refine sb_if_le hm dX13_memberHead_78 (tgt := 85) rfl (fun z => absurd z c57) (fun _ => ?_)
    refine sx_ic (v := 1) hm dX13_memberHead_81 (by decide) ?_
    refine mx_S.pu (pc2 := 86) (lv2 := [(0, .ref l0), (1, .int l1), (2, .int l2), (3, .int l3), (4, .int l4)]) (st2 := [.int 1, .int s0]) hm dX13_memberHead_82 rfl ?_
    exact j_X13_memberHead_86_ok X hF hL nn hk_35 l0 l1 l2 l3 l4 1 s0 h hf
set_option maxHeartbeats 4000000 in
set_option maxRecDepth 20000 in
theorem w_X13_memberHead_35_ok (X : Nat × (Nat → Int32)) {F L : Nat} (hF : 7 ≤ F) (hL : 159 ≤ L) (nn : Nat) : ∀ (k : Nat) (l0 : Nat) (l1 : Int32) (l2 : Int32) (l3 : Int32) (l4 : Int32) (h : mx_H) (r : mx_H), w_X13_memberHead_35 nn k l0 l1 l2 l3 l4 h = some r → mx_S X F L 427 35 [(0, .ref l0), (1, .int l1), (2, .int l2), (3, .int l3), (4, .int l4)] [] h 0 0 (none, r, 0, 0) := by
  have hm : mx_mt 427 = some (yX13_memberHead, cX13_memberHead, 7, none) := mt_X13_memberHead
  intro k
  induction k with
  | zero => intro l0 l1 l2 l3 l4 h r hf; cases hf
  | succ k ih =>
    intro l0 l1 l2 l3 l4 h r hf
    unfold w_X13_memberHead_35 at hf
    refine mx_S.pu (pc2 := 37) (lv2 := [(0, .ref l0), (1, .int l1), (2, .int l2), (3, .int l3), (4, .int l4)]) (st2 := [.int l4]) hm dX13_memberHead_35 rfl ?_
    refine mx_S.pu (pc2 := 38) (lv2 := [(0, .ref l0), (1, .int l1), (2, .int l2), (3, .int l3), (4, .int l4)]) (st2 := [.int l1, .int l4]) hm dX13_memberHead_37 rfl ?_
    rcases mx_if_el hf with ⟨c72, hf⟩ | ⟨c72, hf⟩
    · refine sb_ic_ge hm dX13_memberHead_38 (tgt := 121) rfl (fun _ => ?_) (fun z => absurd c72 z)
      refine mx_S.pu (pc2 := 122) (lv2 := [(0, .ref l0), (1, .int l1), (2, .int l2), (3, .int l3), (4, .int l4)]) (st2 := [.int l2]) hm dX13_memberHead_121 rfl ?_
      refine sx_bi (v := 12) hm dX13_memberHead_122 (by decide) ?_
      rcases mx_if_el hf with ⟨c62, hf⟩ | ⟨c62, hf⟩
      · refine sb_ic_ne hm dX13_memberHead_124 (tgt := 139) rfl (fun _ => ?_) (fun z => absurd c62 z)
        refine mx_S.ext [(0, .ref l0), (1, .int l1), (3, .int l3)] (mx_sub_pos [0, 1, 3] rfl (show ([0, 1, 2, 3, 4] : List Nat).Nodup by decide)) ?_
        exact j_X13_memberHead_139_ok X hF hL nn l0 l1 l3 h hf
      · refine sb_ic_ne hm dX13_memberHead_124 (tgt := 139) rfl (fun z => absurd z c62) (fun _ => ?_)
        refine mx_S.pu (pc2 := 128) (lv2 := [(0, .ref l0), (1, .int l1), (2, .int l2), (3, .int l3), (4, .int l4)]) (st2 := [.ref l0]) hm dX13_memberHead_127 rfl ?_
        refine sx_bi (v := 11) hm dX13_memberHead_128 (by decide) ?_
        refine mx_S.pu (pc2 := 131) (lv2 := [(0, .ref l0), (1, .int l1), (2, .int l2), (3, .int l3), (4, .int l4)]) (st2 := [.ref l0, .int 11, .ref l0]) hm dX13_memberHead_130 rfl ?_
        replace hf := mx_sv_el hf; obtain ⟨v58, e_v58, hf⟩ := hf
        refine sx_get hm dX13_memberHead_131 rs_RX13_86 (xgr_el e_v58) ?_
        clear e_v58
        refine mx_S.pu (pc2 := 135) (lv2 := [(0, .ref l0), (1, .int l1), (2, .int l2), (3, .int l3), (4, .int l4)]) (st2 := [.int l1, .ref v58, .int 11, .ref l0]) hm dX13_memberHead_134 rfl ?_
        replace hf := mx_sv_el hf; obtain ⟨v59, e_v59, hf⟩ := hf
        refine sx_ald hm dX13_memberHead_135 e_v59 ?_
        clear e_v59
        replace hf := mx_gd_el hf; obtain ⟨c60, hf⟩ := hf
        replace hf := mx_sv_el hf; obtain ⟨u61, e_u61, hf⟩ := hf
        refine sx_cv hm dX13_memberHead_136 rs_RX13_379 mt_X13_wrong [.int 11, .int v59] [] (b := l0) (ci := 13) rfl rfl rfl c60 (Nat.le_of_ble_eq_true rfl) (Nat.le_of_ble_eq_true rfl) (by omega) (by omega) (f_X13_wrong_ok X (by omega) (by omega) nn l0 11 v59 h e_u61) ?_
        clear e_u61
        show mx_S X F L 427 139 [(0, .ref l0), (1, .int l1), (2, .int l2), (3, .int l3), (4, .int l4)] [] u61 0 0 (none, r, 0, 0)
        refine mx_S.ext [(0, .ref l0), (1, .int l1), (3, .int l3)] (mx_sub_pos [0, 1, 3] rfl (show ([0, 1, 2, 3, 4] : List Nat).Nodup by decide)) ?_
        exact j_X13_memberHead_139_ok X hF hL nn l0 l1 l3 u61 hf
    · refine sb_ic_ge hm dX13_memberHead_38 (tgt := 121) rfl (fun z => absurd z c72) (fun _ => ?_)
      refine mx_S.pu (pc2 := 42) (lv2 := [(0, .ref l0), (1, .int l1), (2, .int l2), (3, .int l3), (4, .int l4)]) (st2 := [.ref l0]) hm dX13_memberHead_41 rfl ?_
      replace hf := mx_sv_el hf; obtain ⟨v63, e_v63, hf⟩ := hf
      refine sx_get hm dX13_memberHead_42 rs_RX13_71 (xgr_el e_v63) ?_
      clear e_v63
      refine mx_S.pu (pc2 := 47) (lv2 := [(0, .ref l0), (1, .int l1), (2, .int l2), (3, .int l3), (4, .int l4)]) (st2 := [.int l4, .ref v63]) hm dX13_memberHead_45 rfl ?_
      replace hf := mx_sv_el hf; obtain ⟨v64, e_v64, hf⟩ := hf
      refine sx_ald hm dX13_memberHead_47 e_v64 ?_
      clear e_v64
      refine mx_S.pu (pc2 := 49) (lv2 := [(0, .ref l0), (1, .int l1), (2, .int l2), (3, .int l3), (4, .int l4)]) (st2 := [.ref l0, .int v64]) hm dX13_memberHead_48 rfl ?_
      replace hf := mx_sv_el hf; obtain ⟨v65, e_v65, hf⟩ := hf
      refine sx_get hm dX13_memberHead_49 rs_RX13_71 (xgr_el e_v65) ?_
      clear e_v65
      refine mx_S.pu (pc2 := 53) (lv2 := [(0, .ref l0), (1, .int l1), (2, .int l2), (3, .int l3), (4, .int l4)]) (st2 := [.int l1, .ref v65, .int v64]) hm dX13_memberHead_52 rfl ?_
      replace hf := mx_sv_el hf; obtain ⟨v66, e_v66, hf⟩ := hf
      refine sx_ald hm dX13_memberHead_53 e_v66 ?_
      clear e_v66
      rcases mx_if_el hf with ⟨c71, hf⟩ | ⟨c71, hf⟩
      · refine sb_ic_ne hm dX13_memberHead_54 (tgt := 115) rfl (fun _ => ?_) (fun z => absurd c71 z)
        replace hf := xl_el hf; obtain ⟨v67, e_v67, hf⟩ := hf
        refine mx_S.pu (pc2 := 118) (lv2 := [(4, .int v67), (0, .ref l0), (1, .int l1), (2, .int l2), (3, .int l3)]) (st2 := []) hm dX13_memberHead_115 (by rw [← e_v67]; rfl) ?_
        clear e_v67
        refine mx_S.pu (pc2 := 35) (lv2 := [(4, .int v67), (0, .ref l0), (1, .int l1), (2, .int l2), (3, .int l3)]) (st2 := []) hm dX13_memberHead_118 rfl ?_
        refine mx_S.ext [(0, .ref l0), (1, .int l1), (2, .int l2), (3, .int l3), (4, .int v67)] (mx_sub_pos [1, 2, 3, 4, 0] rfl (show ([4, 0, 1, 2, 3] : List Nat).Nodup by decide)) ?_
        exact ih l0 l1 l2 l3 v67 h _ hf
      · refine sb_ic_ne hm dX13_memberHead_54 (tgt := 115) rfl (fun z => absurd z c71) (fun _ => ?_)
        refine mx_S.pu (pc2 := 58) (lv2 := [(0, .ref l0), (1, .int l1), (2, .int l2), (3, .int l3), (4, .int l4)]) (st2 := [.ref l0]) hm dX13_memberHead_57 rfl ?_
        replace hf := mx_sv_el hf; obtain ⟨v68, e_v68, hf⟩ := hf
        refine sx_get hm dX13_memberHead_58 rs_RX13_74 (xgr_el e_v68) ?_
        clear e_v68
        refine mx_S.pu (pc2 := 63) (lv2 := [(0, .ref l0), (1, .int l1), (2, .int l2), (3, .int l3), (4, .int l4)]) (st2 := [.int l4, .ref v68]) hm dX13_memberHead_61 rfl ?_
        replace hf := mx_sv_el hf; obtain ⟨v69, e_v69, hf⟩ := hf
        refine sx_ald hm dX13_memberHead_63 e_v69 ?_
        clear e_v69
        rcases mx_if_el hf with ⟨c70, hf⟩ | ⟨c70, hf⟩
        · refine sb_if_le hm dX13_memberHead_64 (tgt := 71) rfl (fun _ => ?_) (fun z => absurd c70 z)
          refine sx_ic (v := 0) hm dX13_memberHead_71 (by decide) ?_
          exact j_X13_memberHead_72_ok X hF hL nn ih l0 l1 l2 l3 l4 0 h hf
        · refine sb_if_le hm dX13_memberHead_64 (tgt := 71) rfl (fun z => absurd z c70) (fun _ => ?_)
          refine sx_ic (v := 1) hm dX13_memberHead_67 (by decide) ?_
          refine mx_S.pu (pc2 := 72) (lv2 := [(0, .ref l0), (1, .int l1), (2, .int l2), (3, .int l3), (4, .int l4)]) (st2 := [.int 1]) hm dX13_memberHead_68 rfl ?_
          exact j_X13_memberHead_72_ok X hF hL nn ih l0 l1 l2 l3 l4 1 h hf
set_option maxHeartbeats 4000000 in
set_option maxRecDepth 20000 in
theorem f_X13_memberHead_ok (X : Nat × (Nat → Int32)) {F L : Nat} (hF : 7 ≤ F) (hL : 159 ≤ L) (nn : Nat) (a0 : Nat) (a1 : Int32) (h : mx_H) {r : mx_H} (hf : f_X13_memberHead nn a0 a1 h = some r) : mx_R X F L 427 [.ref a0, .int a1] h (none, r, 0, 0) := by
  have hm : mx_mt 427 = some (yX13_memberHead, cX13_memberHead, 7, none) := mt_X13_memberHead
  show mx_S X F L 427 0 [(0, .ref a0), (1, .int a1)] [] h 0 0 (none, r, 0, 0)
  unfold f_X13_memberHead at hf
  refine mx_S.pu (pc2 := 1) (lv2 := [(0, .ref a0), (1, .int a1)]) (st2 := [.ref a0]) hm dX13_memberHead_0 rfl ?_
  replace hf := mx_sv_el hf; obtain ⟨v73, e_v73, hf⟩ := hf
  refine sx_get hm dX13_memberHead_1 rs_RX13_89 (xgr_el e_v73) ?_
  clear e_v73
  refine mx_S.pu (pc2 := 5) (lv2 := [(0, .ref a0), (1, .int a1)]) (st2 := [.int a1, .ref v73]) hm dX13_memberHead_4 rfl ?_
  refine mx_S.pu (pc2 := 6) (lv2 := [(0, .ref a0), (1, .int a1)]) (st2 := [.ref a0, .int a1, .ref v73]) hm dX13_memberHead_5 rfl ?_
  refine mx_S.pu (pc2 := 7) (lv2 := [(0, .ref a0), (1, .int a1)]) (st2 := [.ref a0, .ref a0, .int a1, .ref v73]) hm dX13_memberHead_6 rfl ?_
  replace hf := mx_sv_el hf; obtain ⟨v74, e_v74, hf⟩ := hf
  refine sx_get hm dX13_memberHead_7 rs_RX13_77 (xgr_el e_v74) ?_
  clear e_v74
  refine mx_S.pu (pc2 := 11) (lv2 := [(0, .ref a0), (1, .int a1)]) (st2 := [.int a1, .ref v74, .ref a0, .int a1, .ref v73]) hm dX13_memberHead_10 rfl ?_
  replace hf := mx_sv_el hf; obtain ⟨v75, e_v75, hf⟩ := hf
  refine sx_ald hm dX13_memberHead_11 e_v75 ?_
  clear e_v75
  refine mx_S.pu (pc2 := 13) (lv2 := [(0, .ref a0), (1, .int a1)]) (st2 := [.ref a0, .int v75, .ref a0, .int a1, .ref v73]) hm dX13_memberHead_12 rfl ?_
  replace hf := mx_sv_el hf; obtain ⟨v76, e_v76, hf⟩ := hf
  refine sx_get hm dX13_memberHead_13 rs_RX13_80 (xgr_el e_v76) ?_
  clear e_v76
  refine mx_S.pu (pc2 := 17) (lv2 := [(0, .ref a0), (1, .int a1)]) (st2 := [.int a1, .ref v76, .int v75, .ref a0, .int a1, .ref v73]) hm dX13_memberHead_16 rfl ?_
  replace hf := mx_sv_el hf; obtain ⟨v77, e_v77, hf⟩ := hf
  refine sx_ald hm dX13_memberHead_17 e_v77 ?_
  clear e_v77
  refine mx_S.pu (pc2 := 19) (lv2 := [(0, .ref a0), (1, .int a1)]) (st2 := [.ref a0, .int v77, .int v75, .ref a0, .int a1, .ref v73]) hm dX13_memberHead_18 rfl ?_
  replace hf := mx_sv_el hf; obtain ⟨v78, e_v78, hf⟩ := hf
  refine sx_get hm dX13_memberHead_19 rs_RX13_83 (xgr_el e_v78) ?_
  clear e_v78
  refine mx_S.pu (pc2 := 23) (lv2 := [(0, .ref a0), (1, .int a1)]) (st2 := [.int a1, .ref v78, .int v77, .int v75, .ref a0, .int a1, .ref v73]) hm dX13_memberHead_22 rfl ?_
  replace hf := mx_sv_el hf; obtain ⟨v79, e_v79, hf⟩ := hf
  refine sx_bld hm dX13_memberHead_23 e_v79 ?_
  clear e_v79
  replace hf := mx_gd_el hf; obtain ⟨c80, hf⟩ := hf
  replace hf := mx_sv_el hf; obtain ⟨u81, e_u81, hf⟩ := hf
  refine sx_cv hm dX13_memberHead_24 rs_RX13_503 mt_X13_typeOf [.int v75, .int v77, .int v79] [.int a1, .ref v73] (b := a0) (ci := 13) rfl rfl rfl c80 (Nat.le_of_ble_eq_true rfl) (Nat.le_of_ble_eq_true rfl) (by omega) (by omega) (f_X13_typeOf_ok X (by omega) (by omega) nn a0 v75 v77 v79 h e_u81) ?_
  clear e_u81
  show mx_S X F L 427 27 [(0, .ref a0), (1, .int a1)] [.int u81.1, .int a1, .ref v73] u81.2 0 0 (none, r, 0, 0)
  replace hf := mx_sv_el hf; obtain ⟨h82, e_h82, hf⟩ := hf
  refine sx_ast hm dX13_memberHead_27 e_h82 ?_
  clear e_h82
  refine sx_ic (v := 0) hm dX13_memberHead_28 (by decide) ?_
  refine mx_S.pu (pc2 := 30) (lv2 := [(2, .int 0), (0, .ref a0), (1, .int a1)]) (st2 := []) hm dX13_memberHead_29 rfl ?_
  refine sx_ic (v := 0) hm dX13_memberHead_30 (by decide) ?_
  refine mx_S.pu (pc2 := 32) (lv2 := [(3, .int 0), (2, .int 0), (0, .ref a0), (1, .int a1)]) (st2 := []) hm dX13_memberHead_31 rfl ?_
  refine sx_ic (v := 0) hm dX13_memberHead_32 (by decide) ?_
  refine mx_S.pu (pc2 := 35) (lv2 := [(4, .int 0), (3, .int 0), (2, .int 0), (0, .ref a0), (1, .int a1)]) (st2 := []) hm dX13_memberHead_33 rfl ?_
  refine mx_S.ext [(0, .ref a0), (1, .int a1), (2, .int 0), (3, .int 0), (4, .int 0)] (mx_sub_pos [3, 4, 2, 1, 0] rfl (show ([4, 3, 2, 0, 1] : List Nat).Nodup by decide)) ?_
  exact w_X13_memberHead_35_ok X hF hL nn nn a0 a1 0 0 0 h82 _ hf
set_option maxHeartbeats 4000000 in
set_option maxRecDepth 20000 in
theorem j_X13_overrides_148_ok (X : Nat × (Nat → Int32)) {F L : Nat} (hF : 2 ≤ F) (hL : 49 ≤ L) (nn : Nat) (l0 : Nat) (l1 : Int32) (l3 : Int32) (h : mx_H) {r : mx_H} (hf : j_X13_overrides_148 nn l0 l1 l3 h = some r) : mx_S X F L 428 148 [(0, .ref l0), (1, .int l1), (3, .int l3)] [] h 0 0 (none, r, 0, 0) := by
  have hm : mx_mt 428 = some (yX13_overrides, cX13_overrides, 5, none) := mt_X13_overrides
  unfold j_X13_overrides_148 at hf
  refine mx_S.pu (pc2 := 149) (lv2 := [(0, .ref l0), (1, .int l1), (3, .int l3)]) (st2 := [.int l3]) hm dX13_overrides_148 rfl ?_
  rcases mx_if_el hf with ⟨c5, hf⟩ | ⟨c5, hf⟩
  · refine sb_if_ne hm dX13_overrides_149 (tgt := 164) rfl (fun _ => ?_) (fun z => absurd c5 z)
    cases hf
    exact sx_ret hm dX13_overrides_164 rfl
  · refine sb_if_ne hm dX13_overrides_149 (tgt := 164) rfl (fun z => absurd z c5) (fun _ => ?_)
    refine mx_S.pu (pc2 := 153) (lv2 := [(0, .ref l0), (1, .int l1), (3, .int l3)]) (st2 := [.ref l0]) hm dX13_overrides_152 rfl ?_
    refine sx_bi (v := 10) hm dX13_overrides_153 (by decide) ?_
    refine mx_S.pu (pc2 := 156) (lv2 := [(0, .ref l0), (1, .int l1), (3, .int l3)]) (st2 := [.ref l0, .int 10, .ref l0]) hm dX13_overrides_155 rfl ?_
    replace hf := mx_sv_el hf; obtain ⟨v1, e_v1, hf⟩ := hf
    refine sx_get hm dX13_overrides_156 rs_RX13_86 (xgr_el e_v1) ?_
    clear e_v1
    refine mx_S.pu (pc2 := 160) (lv2 := [(0, .ref l0), (1, .int l1), (3, .int l3)]) (st2 := [.int l1, .ref v1, .int 10, .ref l0]) hm dX13_overrides_159 rfl ?_
    replace hf := mx_sv_el hf; obtain ⟨v2, e_v2, hf⟩ := hf
    refine sx_ald hm dX13_overrides_160 e_v2 ?_
    clear e_v2
    replace hf := mx_gd_el hf; obtain ⟨c3, hf⟩ := hf
    replace hf := mx_sv_el hf; obtain ⟨u4, e_u4, hf⟩ := hf
    refine sx_cv hm dX13_overrides_161 rs_RX13_379 mt_X13_wrong [.int 10, .int v2] [] (b := l0) (ci := 13) rfl rfl rfl c3 (Nat.le_of_ble_eq_true rfl) (Nat.le_of_ble_eq_true rfl) (by omega) (by omega) (f_X13_wrong_ok X (by omega) (by omega) nn l0 10 v2 h e_u4) ?_
    clear e_u4
    show mx_S X F L 428 164 [(0, .ref l0), (1, .int l1), (3, .int l3)] [] u4 0 0 (none, r, 0, 0)
    cases hf
    exact sx_ret hm dX13_overrides_164 rfl
set_option maxHeartbeats 4000000 in
set_option maxRecDepth 20000 in
theorem w_X13_overrides_90_ok (X : Nat × (Nat → Int32)) {F L : Nat} (hF : 2 ≤ F) (hL : 49 ≤ L) (nn : Nat) : ∀ (k : Nat) (l0 : Nat) (l1 : Int32) (l2 : Int32) (l3 : Int32) (l4 : Int32) (h : mx_H) (r : mx_H), w_X13_overrides_90 nn k l0 l1 l2 l3 l4 h = some r → mx_S X F L 428 90 [(0, .ref l0), (1, .int l1), (2, .int l2), (3, .int l3), (4, .int l4)] [] h 0 0 (none, r, 0, 0) := by
  have hm : mx_mt 428 = some (yX13_overrides, cX13_overrides, 5, none) := mt_X13_overrides
  intro k
  induction k with
  | zero => intro l0 l1 l2 l3 l4 h r hf; cases hf
  | succ k ih =>
    intro l0 l1 l2 l3 l4 h r hf
    unfold w_X13_overrides_90 at hf
    refine mx_S.pu (pc2 := 92) (lv2 := [(0, .ref l0), (1, .int l1), (2, .int l2), (3, .int l3), (4, .int l4)]) (st2 := [.int l4]) hm dX13_overrides_90 rfl ?_
    refine mx_S.pu (pc2 := 93) (lv2 := [(0, .ref l0), (1, .int l1), (2, .int l2), (3, .int l3), (4, .int l4)]) (st2 := [.ref l0, .int l4]) hm dX13_overrides_92 rfl ?_
    replace hf := mx_sv_el hf; obtain ⟨v6, e_v6, hf⟩ := hf
    refine sx_get hm dX13_overrides_93 rs_RX13_95 (xgr_el e_v6) ?_
    clear e_v6
    refine mx_S.pu (pc2 := 97) (lv2 := [(0, .ref l0), (1, .int l1), (2, .int l2), (3, .int l3), (4, .int l4)]) (st2 := [.int l1, .ref v6, .int l4]) hm dX13_overrides_96 rfl ?_
    replace hf := mx_sv_el hf; obtain ⟨v7, e_v7, hf⟩ := hf
    refine sx_ald hm dX13_overrides_97 e_v7 ?_
    clear e_v7
    rcases mx_if_el hf with ⟨c22, hf⟩ | ⟨c22, hf⟩
    · refine sb_ic_ge hm dX13_overrides_98 (tgt := 148) rfl (fun _ => ?_) (fun z => absurd c22 z)
      refine mx_S.ext [(0, .ref l0), (1, .int l1), (3, .int l3)] (mx_sub_pos [0, 1, 3] rfl (show ([0, 1, 2, 3, 4] : List Nat).Nodup by decide)) ?_
      exact j_X13_overrides_148_ok X hF hL nn l0 l1 l3 h hf
    · refine sb_ic_ge hm dX13_overrides_98 (tgt := 148) rfl (fun z => absurd z c22) (fun _ => ?_)
      refine mx_S.pu (pc2 := 102) (lv2 := [(0, .ref l0), (1, .int l1), (2, .int l2), (3, .int l3), (4, .int l4)]) (st2 := [.int l3]) hm dX13_overrides_101 rfl ?_
      rcases mx_if_el hf with ⟨c21, hf⟩ | ⟨c21, hf⟩
      · refine sb_if_eq hm dX13_overrides_102 (tgt := 148) rfl (fun _ => ?_) (fun z => absurd c21 z)
        refine mx_S.ext [(0, .ref l0), (1, .int l1), (3, .int l3)] (mx_sub_pos [0, 1, 3] rfl (show ([0, 1, 2, 3, 4] : List Nat).Nodup by decide)) ?_
        exact j_X13_overrides_148_ok X hF hL nn l0 l1 l3 h hf
      · refine sb_if_eq hm dX13_overrides_102 (tgt := 148) rfl (fun z => absurd z c21) (fun _ => ?_)
        refine mx_S.pu (pc2 := 106) (lv2 := [(0, .ref l0), (1, .int l1), (2, .int l2), (3, .int l3), (4, .int l4)]) (st2 := [.ref l0]) hm dX13_overrides_105 rfl ?_
        replace hf := mx_sv_el hf; obtain ⟨v8, e_v8, hf⟩ := hf
        refine sx_get hm dX13_overrides_106 rs_RX13_113 (xgr_el e_v8) ?_
        clear e_v8
        refine mx_S.pu (pc2 := 110) (lv2 := [(0, .ref l0), (1, .int l1), (2, .int l2), (3, .int l3), (4, .int l4)]) (st2 := [.ref l0, .ref v8]) hm dX13_overrides_109 rfl ?_
        replace hf := mx_sv_el hf; obtain ⟨v9, e_v9, hf⟩ := hf
        refine sx_get hm dX13_overrides_110 rs_RX13_92 (xgr_el e_v9) ?_
        clear e_v9
        refine mx_S.pu (pc2 := 114) (lv2 := [(0, .ref l0), (1, .int l1), (2, .int l2), (3, .int l3), (4, .int l4)]) (st2 := [.int l1, .ref v9, .ref v8]) hm dX13_overrides_113 rfl ?_
        replace hf := mx_sv_el hf; obtain ⟨v10, e_v10, hf⟩ := hf
        refine sx_ald hm dX13_overrides_114 e_v10 ?_
        clear e_v10
        refine mx_S.pu (pc2 := 117) (lv2 := [(0, .ref l0), (1, .int l1), (2, .int l2), (3, .int l3), (4, .int l4)]) (st2 := [.int l4, .int v10, .ref v8]) hm dX13_overrides_115 rfl ?_
        replace hf := xl_el hf; obtain ⟨v11, e_v11, hf⟩ := hf
        refine mx_S.pu (pc2 := 118) (lv2 := [(0, .ref l0), (1, .int l1), (2, .int l2), (3, .int l3), (4, .int l4)]) (st2 := [.int v11, .ref v8]) hm dX13_overrides_117 (by rw [← e_v11]; rfl) ?_
        clear e_v11
        replace hf := mx_sv_el hf; obtain ⟨v12, e_v12, hf⟩ := hf
        refine sx_ald hm dX13_overrides_118 e_v12 ?_
        clear e_v12
        refine mx_S.pu (pc2 := 120) (lv2 := [(0, .ref l0), (1, .int l1), (2, .int l2), (3, .int l3), (4, .int l4)]) (st2 := [.ref l0, .int v12]) hm dX13_overrides_119 rfl ?_
        replace hf := mx_sv_el hf; obtain ⟨v13, e_v13, hf⟩ := hf
        refine sx_get hm dX13_overrides_120 rs_RX13_113 (xgr_el e_v13) ?_
        clear e_v13
        refine mx_S.pu (pc2 := 124) (lv2 := [(0, .ref l0), (1, .int l1), (2, .int l2), (3, .int l3), (4, .int l4)]) (st2 := [.ref l0, .ref v13, .int v12]) hm dX13_overrides_123 rfl ?_
        replace hf := mx_sv_el hf; obtain ⟨v14, e_v14, hf⟩ := hf
        refine sx_get hm dX13_overrides_124 rs_RX13_92 (xgr_el e_v14) ?_
        clear e_v14
        refine mx_S.pu (pc2 := 128) (lv2 := [(0, .ref l0), (1, .int l1), (2, .int l2), (3, .int l3), (4, .int l4)]) (st2 := [.int l2, .ref v14, .ref v13, .int v12]) hm dX13_overrides_127 rfl ?_
        replace hf := mx_sv_el hf; obtain ⟨v15, e_v15, hf⟩ := hf
        refine sx_ald hm dX13_overrides_128 e_v15 ?_
        clear e_v15
        refine mx_S.pu (pc2 := 131) (lv2 := [(0, .ref l0), (1, .int l1), (2, .int l2), (3, .int l3), (4, .int l4)]) (st2 := [.int l4, .int v15, .ref v13, .int v12]) hm dX13_overrides_129 rfl ?_
        replace hf := xl_el hf; obtain ⟨v16, e_v16, hf⟩ := hf
        refine mx_S.pu (pc2 := 132) (lv2 := [(0, .ref l0), (1, .int l1), (2, .int l2), (3, .int l3), (4, .int l4)]) (st2 := [.int v16, .ref v13, .int v12]) hm dX13_overrides_131 (by rw [← e_v16]; rfl) ?_
        clear e_v16
        replace hf := mx_sv_el hf; obtain ⟨v17, e_v17, hf⟩ := hf
        refine sx_ald hm dX13_overrides_132 e_v17 ?_
        clear e_v17
        rcases mx_if_el hf with ⟨c20, hf⟩ | ⟨c20, hf⟩
        · refine sb_ic_ne hm dX13_overrides_133 (tgt := 140) rfl (fun _ => ?_) (fun z => absurd c20 z)
          refine sx_ic (v := 0) hm dX13_overrides_140 (by decide) ?_
          refine mx_S.pu (pc2 := 142) (lv2 := [(3, .int 0), (0, .ref l0), (1, .int l1), (2, .int l2), (4, .int l4)]) (st2 := []) hm dX13_overrides_141 rfl ?_
          replace hf := xl_el hf; obtain ⟨v18, e_v18, hf⟩ := hf
          refine mx_S.pu (pc2 := 145) (lv2 := [(4, .int v18), (3, .int 0), (0, .ref l0), (1, .int l1), (2, .int l2)]) (st2 := []) hm dX13_overrides_142 (by rw [← e_v18]; rfl) ?_
          clear e_v18
          refine mx_S.pu (pc2 := 90) (lv2 := [(4, .int v18), (3, .int 0), (0, .ref l0), (1, .int l1), (2, .int l2)]) (st2 := []) hm dX13_overrides_145 rfl ?_
          refine mx_S.ext [(0, .ref l0), (1, .int l1), (2, .int l2), (3, .int 0), (4, .int v18)] (mx_sub_pos [2, 3, 4, 1, 0] rfl (show ([4, 3, 0, 1, 2] : List Nat).Nodup by decide)) ?_
          exact ih l0 l1 l2 0 v18 h _ hf
        · refine sb_ic_ne hm dX13_overrides_133 (tgt := 140) rfl (fun z => absurd z c20) (fun _ => ?_)
          refine sx_ic (v := 1) hm dX13_overrides_136 (by decide) ?_
          refine mx_S.pu (pc2 := 141) (lv2 := [(0, .ref l0), (1, .int l1), (2, .int l2), (3, .int l3), (4, .int l4)]) (st2 := [.int 1]) hm dX13_overrides_137 rfl ?_
          refine mx_S.pu (pc2 := 142) (lv2 := [(3, .int 1), (0, .ref l0), (1, .int l1), (2, .int l2), (4, .int l4)]) (st2 := []) hm dX13_overrides_141 rfl ?_
          replace hf := xl_el hf; obtain ⟨v19, e_v19, hf⟩ := hf
          refine mx_S.pu (pc2 := 145) (lv2 := [(4, .int v19), (3, .int 1), (0, .ref l0), (1, .int l1), (2, .int l2)]) (st2 := []) hm dX13_overrides_142 (by rw [← e_v19]; rfl) ?_
          clear e_v19
          refine mx_S.pu (pc2 := 90) (lv2 := [(4, .int v19), (3, .int 1), (0, .ref l0), (1, .int l1), (2, .int l2)]) (st2 := []) hm dX13_overrides_145 rfl ?_
          refine mx_S.ext [(0, .ref l0), (1, .int l1), (2, .int l2), (3, .int 1), (4, .int v19)] (mx_sub_pos [2, 3, 4, 1, 0] rfl (show ([4, 3, 0, 1, 2] : List Nat).Nodup by decide)) ?_
          exact ih l0 l1 l2 1 v19 h _ hf
set_option maxHeartbeats 4000000 in
set_option maxRecDepth 20000 in
theorem j_X13_overrides_85_ok (X : Nat × (Nat → Int32)) {F L : Nat} (hF : 2 ≤ F) (hL : 49 ≤ L) (nn : Nat) (l0 : Nat) (l1 : Int32) (l2 : Int32) (h : mx_H) {r : mx_H} (hf : j_X13_overrides_85 nn l0 l1 l2 h = some r) : mx_S X F L 428 85 [(0, .ref l0), (1, .int l1), (2, .int l2)] [] h 0 0 (none, r, 0, 0) := by
  have hm : mx_mt 428 = some (yX13_overrides, cX13_overrides, 5, none) := mt_X13_overrides
  unfold j_X13_overrides_85 at hf
  refine sx_ic (v := 0) hm dX13_overrides_85 (by decide) ?_
  refine mx_S.pu (pc2 := 87) (lv2 := [(3, .int 0), (0, .ref l0), (1, .int l1), (2, .int l2)]) (st2 := []) hm dX13_overrides_86 rfl ?_
  refine sx_ic (v := 0) hm dX13_overrides_87 (by decide) ?_
  refine mx_S.pu (pc2 := 90) (lv2 := [(4, .int 0), (3, .int 0), (0, .ref l0), (1, .int l1), (2, .int l2)]) (st2 := []) hm dX13_overrides_88 rfl ?_
  refine mx_S.ext [(0, .ref l0), (1, .int l1), (2, .int l2), (3, .int 0), (4, .int 0)] (mx_sub_pos [2, 3, 4, 1, 0] rfl (show ([4, 3, 0, 1, 2] : List Nat).Nodup by decide)) ?_
  exact w_X13_overrides_90_ok X hF hL nn nn l0 l1 l2 0 0 h _ hf
set_option maxHeartbeats 4000000 in
set_option maxRecDepth 20000 in
theorem f_X13_overrides_ok (X : Nat × (Nat → Int32)) {F L : Nat} (hF : 2 ≤ F) (hL : 49 ≤ L) (nn : Nat) (a0 : Nat) (a1 : Int32) (h : mx_H) {r : mx_H} (hf : f_X13_overrides nn a0 a1 h = some r) : mx_R X F L 428 [.ref a0, .int a1] h (none, r, 0, 0) := by
  have hm : mx_mt 428 = some (yX13_overrides, cX13_overrides, 5, none) := mt_X13_overrides
  show mx_S X F L 428 0 [(0, .ref a0), (1, .int a1)] [] h 0 0 (none, r, 0, 0)
  unfold f_X13_overrides at hf
  refine mx_S.pu (pc2 := 1) (lv2 := [(0, .ref a0), (1, .int a1)]) (st2 := [.ref a0]) hm dX13_overrides_0 rfl ?_
  refine mx_S.pu (pc2 := 2) (lv2 := [(0, .ref a0), (1, .int a1)]) (st2 := [.ref a0, .ref a0]) hm dX13_overrides_1 rfl ?_
  refine sx_bi (v := 8) hm dX13_overrides_2 (by decide) ?_
  refine mx_S.pu (pc2 := 5) (lv2 := [(0, .ref a0), (1, .int a1)]) (st2 := [.ref a0, .int 8, .ref a0, .ref a0]) hm dX13_overrides_4 rfl ?_
  replace hf := mx_sv_el hf; obtain ⟨v23, e_v23, hf⟩ := hf
  refine sx_get hm dX13_overrides_5 rs_RX13_71 (xgr_el e_v23) ?_
  clear e_v23
  refine mx_S.pu (pc2 := 9) (lv2 := [(0, .ref a0), (1, .int a1)]) (st2 := [.int a1, .ref v23, .int 8, .ref a0, .ref a0]) hm dX13_overrides_8 rfl ?_
  replace hf := mx_sv_el hf; obtain ⟨v24, e_v24, hf⟩ := hf
  refine sx_ald hm dX13_overrides_9 e_v24 ?_
  clear e_v24
  replace hf := xl_el hf; obtain ⟨v25, e_v25, hf⟩ := hf
  refine mx_S.pu (pc2 := 11) (lv2 := [(0, .ref a0), (1, .int a1)]) (st2 := [.int v25, .ref a0, .ref a0]) hm dX13_overrides_10 (by rw [← e_v25]; rfl) ?_
  clear e_v25
  replace hf := mx_gd_el hf; obtain ⟨c26, hf⟩ := hf
  replace hf := mx_sv_el hf; obtain ⟨u27, e_u27, hf⟩ := hf
  refine sx_cv hm dX13_overrides_11 rs_RX13_482 mt_X13_upperOf [.int v25] [.ref a0] (b := a0) (ci := 13) rfl rfl rfl c26 (Nat.le_of_ble_eq_true rfl) (Nat.le_of_ble_eq_true rfl) (by omega) (by omega) (f_X13_upperOf_ok X (by omega) (by omega) nn a0 v25 h e_u27) ?_
  clear e_u27
  show mx_S X F L 428 14 [(0, .ref a0), (1, .int a1)] [.int u27.1, .ref a0] u27.2 0 0 (none, r, 0, 0)
  refine mx_S.pu (pc2 := 15) (lv2 := [(0, .ref a0), (1, .int a1)]) (st2 := [.ref a0, .int u27.1, .ref a0]) hm dX13_overrides_14 rfl ?_
  replace hf := mx_sv_el hf; obtain ⟨v28, e_v28, hf⟩ := hf
  refine sx_get hm dX13_overrides_15 rs_RX13_86 (xgr_el e_v28) ?_
  clear e_v28
  refine mx_S.pu (pc2 := 19) (lv2 := [(0, .ref a0), (1, .int a1)]) (st2 := [.int a1, .ref v28, .int u27.1, .ref a0]) hm dX13_overrides_18 rfl ?_
  replace hf := mx_sv_el hf; obtain ⟨v29, e_v29, hf⟩ := hf
  refine sx_ald hm dX13_overrides_19 e_v29 ?_
  clear e_v29
  refine sx_ic (v := 1) hm dX13_overrides_20 (by decide) ?_
  replace hf := mx_gd_el hf; obtain ⟨c30, hf⟩ := hf
  replace hf := mx_sv_el hf; obtain ⟨u31, e_u31, hf⟩ := hf
  refine sx_cv hm dX13_overrides_21 rs_RX13_507 mt_X13_memberOf [.int u27.1, .int v29, .int 1] [] (b := a0) (ci := 13) rfl rfl rfl c30 (Nat.le_of_ble_eq_true rfl) (Nat.le_of_ble_eq_true rfl) (by omega) (by omega) (f_X13_memberOf_ok X (by omega) (by omega) nn a0 u27.1 v29 1 u27.2 e_u31) ?_
  clear e_u31
  show mx_S X F L 428 24 [(0, .ref a0), (1, .int a1)] [.int u31.1] u31.2 0 0 (none, r, 0, 0)
  refine mx_S.pu (pc2 := 25) (lv2 := [(2, .int u31.1), (0, .ref a0), (1, .int a1)]) (st2 := []) hm dX13_overrides_24 rfl ?_
  refine mx_S.pu (pc2 := 26) (lv2 := [(2, .int u31.1), (0, .ref a0), (1, .int a1)]) (st2 := [.int u31.1]) hm dX13_overrides_25 rfl ?_
  refine sx_ic (v := (-1)) hm dX13_overrides_26 (by decide) ?_
  rcases mx_if_el hf with ⟨c48, hf⟩ | ⟨c48, hf⟩
  · refine sb_ic_ne hm dX13_overrides_27 (tgt := 31) rfl (fun _ => ?_) (fun z => absurd c48 z)
    refine mx_S.pu (pc2 := 32) (lv2 := [(2, .int u31.1), (0, .ref a0), (1, .int a1)]) (st2 := [.ref a0]) hm dX13_overrides_31 rfl ?_
    replace hf := mx_sv_el hf; obtain ⟨v32, e_v32, hf⟩ := hf
    refine sx_get hm dX13_overrides_32 rs_RX13_74 (xgr_el e_v32) ?_
    clear e_v32
    refine mx_S.pu (pc2 := 36) (lv2 := [(2, .int u31.1), (0, .ref a0), (1, .int a1)]) (st2 := [.int a1, .ref v32]) hm dX13_overrides_35 rfl ?_
    replace hf := mx_sv_el hf; obtain ⟨v33, e_v33, hf⟩ := hf
    refine sx_ald hm dX13_overrides_36 e_v33 ?_
    clear e_v33
    refine sx_ic (v := 1) hm dX13_overrides_37 (by decide) ?_
    rcases mx_if_el hf with ⟨c47, hf⟩ | ⟨c47, hf⟩
    · refine sb_ic_ne hm dX13_overrides_38 (tgt := 85) rfl (fun _ => ?_) (fun z => absurd c47 z)
      refine mx_S.ext [(0, .ref a0), (1, .int a1), (2, .int u31.1)] (mx_sub_pos [1, 2, 0] rfl (show ([2, 0, 1] : List Nat).Nodup by decide)) ?_
      exact j_X13_overrides_85_ok X hF hL nn a0 a1 u31.1 u31.2 hf
    · refine sb_ic_ne hm dX13_overrides_38 (tgt := 85) rfl (fun z => absurd z c47) (fun _ => ?_)
      refine mx_S.pu (pc2 := 42) (lv2 := [(2, .int u31.1), (0, .ref a0), (1, .int a1)]) (st2 := [.ref a0]) hm dX13_overrides_41 rfl ?_
      replace hf := mx_sv_el hf; obtain ⟨v34, e_v34, hf⟩ := hf
      refine sx_get hm dX13_overrides_42 rs_RX13_74 (xgr_el e_v34) ?_
      clear e_v34
      refine mx_S.pu (pc2 := 46) (lv2 := [(2, .int u31.1), (0, .ref a0), (1, .int a1)]) (st2 := [.int u31.1, .ref v34]) hm dX13_overrides_45 rfl ?_
      replace hf := mx_sv_el hf; obtain ⟨v35, e_v35, hf⟩ := hf
      refine sx_ald hm dX13_overrides_46 e_v35 ?_
      clear e_v35
      refine sx_ic (v := 1) hm dX13_overrides_47 (by decide) ?_
      rcases mx_if_el hf with ⟨c46, hf⟩ | ⟨c46, hf⟩
      · refine sb_ic_ne hm dX13_overrides_48 (tgt := 85) rfl (fun _ => ?_) (fun z => absurd c46 z)
        refine mx_S.ext [(0, .ref a0), (1, .int a1), (2, .int u31.1)] (mx_sub_pos [1, 2, 0] rfl (show ([2, 0, 1] : List Nat).Nodup by decide)) ?_
        exact j_X13_overrides_85_ok X hF hL nn a0 a1 u31.1 u31.2 hf
      · refine sb_ic_ne hm dX13_overrides_48 (tgt := 85) rfl (fun z => absurd z c46) (fun _ => ?_)
        refine mx_S.pu (pc2 := 52) (lv2 := [(2, .int u31.1), (0, .ref a0), (1, .int a1)]) (st2 := [.ref a0]) hm dX13_overrides_51 rfl ?_
        replace hf := mx_sv_el hf; obtain ⟨v36, e_v36, hf⟩ := hf
        refine sx_get hm dX13_overrides_52 rs_RX13_89 (xgr_el e_v36) ?_
        clear e_v36
        refine mx_S.pu (pc2 := 56) (lv2 := [(2, .int u31.1), (0, .ref a0), (1, .int a1)]) (st2 := [.int a1, .ref v36]) hm dX13_overrides_55 rfl ?_
        replace hf := mx_sv_el hf; obtain ⟨v37, e_v37, hf⟩ := hf
        refine sx_ald hm dX13_overrides_56 e_v37 ?_
        clear e_v37
        refine mx_S.pu (pc2 := 58) (lv2 := [(2, .int u31.1), (0, .ref a0), (1, .int a1)]) (st2 := [.ref a0, .int v37]) hm dX13_overrides_57 rfl ?_
        replace hf := mx_sv_el hf; obtain ⟨v38, e_v38, hf⟩ := hf
        refine sx_get hm dX13_overrides_58 rs_RX13_89 (xgr_el e_v38) ?_
        clear e_v38
        refine mx_S.pu (pc2 := 62) (lv2 := [(2, .int u31.1), (0, .ref a0), (1, .int a1)]) (st2 := [.int u31.1, .ref v38, .int v37]) hm dX13_overrides_61 rfl ?_
        replace hf := mx_sv_el hf; obtain ⟨v39, e_v39, hf⟩ := hf
        refine sx_ald hm dX13_overrides_62 e_v39 ?_
        clear e_v39
        rcases mx_if_el hf with ⟨c45, hf⟩ | ⟨c45, hf⟩
        · refine sb_ic_ne hm dX13_overrides_63 (tgt := 85) rfl (fun _ => ?_) (fun z => absurd c45 z)
          refine mx_S.ext [(0, .ref a0), (1, .int a1), (2, .int u31.1)] (mx_sub_pos [1, 2, 0] rfl (show ([2, 0, 1] : List Nat).Nodup by decide)) ?_
          exact j_X13_overrides_85_ok X hF hL nn a0 a1 u31.1 u31.2 hf
        · refine sb_ic_ne hm dX13_overrides_63 (tgt := 85) rfl (fun z => absurd z c45) (fun _ => ?_)
          refine mx_S.pu (pc2 := 67) (lv2 := [(2, .int u31.1), (0, .ref a0), (1, .int a1)]) (st2 := [.ref a0]) hm dX13_overrides_66 rfl ?_
          replace hf := mx_sv_el hf; obtain ⟨v40, e_v40, hf⟩ := hf
          refine sx_get hm dX13_overrides_67 rs_RX13_95 (xgr_el e_v40) ?_
          clear e_v40
          refine mx_S.pu (pc2 := 71) (lv2 := [(2, .int u31.1), (0, .ref a0), (1, .int a1)]) (st2 := [.int a1, .ref v40]) hm dX13_overrides_70 rfl ?_
          replace hf := mx_sv_el hf; obtain ⟨v41, e_v41, hf⟩ := hf
          refine sx_ald hm dX13_overrides_71 e_v41 ?_
          clear e_v41
          refine mx_S.pu (pc2 := 73) (lv2 := [(2, .int u31.1), (0, .ref a0), (1, .int a1)]) (st2 := [.ref a0, .int v41]) hm dX13_overrides_72 rfl ?_
          replace hf := mx_sv_el hf; obtain ⟨v42, e_v42, hf⟩ := hf
          refine sx_get hm dX13_overrides_73 rs_RX13_95 (xgr_el e_v42) ?_
          clear e_v42
          refine mx_S.pu (pc2 := 77) (lv2 := [(2, .int u31.1), (0, .ref a0), (1, .int a1)]) (st2 := [.int u31.1, .ref v42, .int v41]) hm dX13_overrides_76 rfl ?_
          replace hf := mx_sv_el hf; obtain ⟨v43, e_v43, hf⟩ := hf
          refine sx_ald hm dX13_overrides_77 e_v43 ?_
          clear e_v43
          rcases mx_if_el hf with ⟨c44, hf⟩ | ⟨c44, hf⟩
          · refine sb_ic_ne hm dX13_overrides_78 (tgt := 85) rfl (fun _ => ?_) (fun z => absurd c44 z)
            refine mx_S.ext [(0, .ref a0), (1, .int a1), (2, .int u31.1)] (mx_sub_pos [1, 2, 0] rfl (show ([2, 0, 1] : List Nat).Nodup by decide)) ?_
            exact j_X13_overrides_85_ok X hF hL nn a0 a1 u31.1 u31.2 hf
          · refine sb_ic_ne hm dX13_overrides_78 (tgt := 85) rfl (fun z => absurd z c44) (fun _ => ?_)
            refine sx_ic (v := 1) hm dX13_overrides_81 (by decide) ?_
            refine mx_S.pu (pc2 := 86) (lv2 := [(2, .int u31.1), (0, .ref a0), (1, .int a1)]) (st2 := [.int 1]) hm dX13_overrides_82 rfl ?_
            refine mx_S.pu (pc2 := 87) (lv2 := [(3, .int 1), (2, .int u31.1), (0, .ref a0), (1, .int a1)]) (st2 := []) hm dX13_overrides_86 rfl ?_
            refine sx_ic (v := 0) hm dX13_overrides_87 (by decide) ?_
            refine mx_S.pu (pc2 := 90) (lv2 := [(4, .int 0), (3, .int 1), (2, .int u31.1), (0, .ref a0), (1, .int a1)]) (st2 := []) hm dX13_overrides_88 rfl ?_
            refine mx_S.ext [(0, .ref a0), (1, .int a1), (2, .int u31.1), (3, .int 1), (4, .int 0)] (mx_sub_pos [3, 4, 2, 1, 0] rfl (show ([4, 3, 2, 0, 1] : List Nat).Nodup by decide)) ?_
            exact w_X13_overrides_90_ok X hF hL nn nn a0 a1 u31.1 1 0 u31.2 _ hf
  · refine sb_ic_ne hm dX13_overrides_27 (tgt := 31) rfl (fun z => absurd z c48) (fun _ => ?_)
    cases hf
    exact sx_ret hm dX13_overrides_30 rfl
set_option maxHeartbeats 4000000 in
set_option maxRecDepth 20000 in
theorem w_X13_heads_220_ok (X : Nat × (Nat → Int32)) {F L : Nat} (hF : 8 ≤ F) (hL : 185 ≤ L) (nn : Nat) : ∀ (k : Nat) (l0 : Nat) (l1 : Int32) (h : mx_H) (r : mx_H), w_X13_heads_220 nn k l0 l1 h = some r → mx_S X F L 426 220 [(0, .ref l0), (1, .int l1)] [] h 0 0 (none, r, 0, 0) := by
  have hm : mx_mt 426 = some (yX13_heads, cX13_heads, 4, none) := mt_X13_heads
  intro k
  induction k with
  | zero => intro l0 l1 h r hf; cases hf
  | succ k ih =>
    intro l0 l1 h r hf
    unfold w_X13_heads_220 at hf
    refine mx_S.pu (pc2 := 221) (lv2 := [(0, .ref l0), (1, .int l1)]) (st2 := [.int l1]) hm dX13_heads_220 rfl ?_
    refine mx_S.pu (pc2 := 222) (lv2 := [(0, .ref l0), (1, .int l1)]) (st2 := [.ref l0, .int l1]) hm dX13_heads_221 rfl ?_
    replace hf := mx_sv_el hf; obtain ⟨v1, e_v1, hf⟩ := hf
    refine sx_get hm dX13_heads_222 rs_RX13_412 (xgi_el e_v1) ?_
    clear e_v1
    rcases mx_if_el hf with ⟨c11, hf⟩ | ⟨c11, hf⟩
    · refine sb_ic_ge hm dX13_heads_225 (tgt := 255) rfl (fun _ => ?_) (fun z => absurd c11 z)
      cases hf
      exact sx_ret hm dX13_heads_255 rfl
    · refine sb_ic_ge hm dX13_heads_225 (tgt := 255) rfl (fun z => absurd z c11) (fun _ => ?_)
      refine mx_S.pu (pc2 := 229) (lv2 := [(0, .ref l0), (1, .int l1)]) (st2 := [.ref l0]) hm dX13_heads_228 rfl ?_
      replace hf := mx_sv_el hf; obtain ⟨v2, e_v2, hf⟩ := hf
      refine sx_get hm dX13_heads_229 rs_RX13_319 (xgi_el e_v2) ?_
      clear e_v2
      rcases mx_if_el hf with ⟨c10, hf⟩ | ⟨c10, hf⟩
      · refine sb_if_ne hm dX13_heads_232 (tgt := 255) rfl (fun _ => ?_) (fun z => absurd c10 z)
        cases hf
        exact sx_ret hm dX13_heads_255 rfl
      · refine sb_if_ne hm dX13_heads_232 (tgt := 255) rfl (fun z => absurd z c10) (fun _ => ?_)
        refine mx_S.pu (pc2 := 236) (lv2 := [(0, .ref l0), (1, .int l1)]) (st2 := [.ref l0]) hm dX13_heads_235 rfl ?_
        replace hf := mx_sv_el hf; obtain ⟨v3, e_v3, hf⟩ := hf
        refine sx_get hm dX13_heads_236 rs_RX13_74 (xgr_el e_v3) ?_
        clear e_v3
        refine mx_S.pu (pc2 := 240) (lv2 := [(0, .ref l0), (1, .int l1)]) (st2 := [.int l1, .ref v3]) hm dX13_heads_239 rfl ?_
        replace hf := mx_sv_el hf; obtain ⟨v4, e_v4, hf⟩ := hf
        refine sx_ald hm dX13_heads_240 e_v4 ?_
        clear e_v4
        rcases mx_if_el hf with ⟨c9, hf⟩ | ⟨c9, hf⟩
        · refine sb_if_le hm dX13_heads_241 (tgt := 249) rfl (fun _ => ?_) (fun z => absurd c9 z)
          replace hf := xl_el hf; obtain ⟨v5, e_v5, hf⟩ := hf
          refine mx_S.pu (pc2 := 252) (lv2 := [(1, .int v5), (0, .ref l0)]) (st2 := []) hm dX13_heads_249 (by rw [← e_v5]; rfl) ?_
          clear e_v5
          refine mx_S.pu (pc2 := 220) (lv2 := [(1, .int v5), (0, .ref l0)]) (st2 := []) hm dX13_heads_252 rfl ?_
          refine mx_S.ext [(0, .ref l0), (1, .int v5)] (mx_sub_pos [1, 0] rfl (show ([1, 0] : List Nat).Nodup by decide)) ?_
          exact ih l0 v5 h _ hf
        · refine sb_if_le hm dX13_heads_241 (tgt := 249) rfl (fun z => absurd z c9) (fun _ => ?_)
          refine mx_S.pu (pc2 := 245) (lv2 := [(0, .ref l0), (1, .int l1)]) (st2 := [.ref l0]) hm dX13_heads_244 rfl ?_
          refine mx_S.pu (pc2 := 246) (lv2 := [(0, .ref l0), (1, .int l1)]) (st2 := [.int l1, .ref l0]) hm dX13_heads_245 rfl ?_
          replace hf := mx_gd_el hf; obtain ⟨c6, hf⟩ := hf
          replace hf := mx_sv_el hf; obtain ⟨u7, e_u7, hf⟩ := hf
          refine sx_cv hm dX13_heads_246 rs_RX13_500 mt_X13_overrides [.int l1] [] (b := l0) (ci := 13) rfl rfl rfl c6 (Nat.le_of_ble_eq_true rfl) (Nat.le_of_ble_eq_true rfl) (by omega) (by omega) (f_X13_overrides_ok X (by omega) (by omega) nn l0 l1 h e_u7) ?_
          clear e_u7
          show mx_S X F L 426 249 [(0, .ref l0), (1, .int l1)] [] u7 0 0 (none, r, 0, 0)
          replace hf := xl_el hf; obtain ⟨v8, e_v8, hf⟩ := hf
          refine mx_S.pu (pc2 := 252) (lv2 := [(1, .int v8), (0, .ref l0)]) (st2 := []) hm dX13_heads_249 (by rw [← e_v8]; rfl) ?_
          clear e_v8
          refine mx_S.pu (pc2 := 220) (lv2 := [(1, .int v8), (0, .ref l0)]) (st2 := []) hm dX13_heads_252 rfl ?_
          refine mx_S.ext [(0, .ref l0), (1, .int v8)] (mx_sub_pos [1, 0] rfl (show ([1, 0] : List Nat).Nodup by decide)) ?_
          exact ih l0 v8 u7 _ hf
set_option maxHeartbeats 4000000 in
set_option maxRecDepth 20000 in
theorem w_X13_heads_192_ok (X : Nat × (Nat → Int32)) {F L : Nat} (hF : 8 ≤ F) (hL : 185 ≤ L) (nn : Nat) : ∀ (k : Nat) (l0 : Nat) (l1 : Int32) (h : mx_H) (r : mx_H), w_X13_heads_192 nn k l0 l1 h = some r → mx_S X F L 426 192 [(0, .ref l0), (1, .int l1)] [] h 0 0 (none, r, 0, 0) := by
  have hm : mx_mt 426 = some (yX13_heads, cX13_heads, 4, none) := mt_X13_heads
  intro k
  induction k with
  | zero => intro l0 l1 h r hf; cases hf
  | succ k ih =>
    intro l0 l1 h r hf
    unfold w_X13_heads_192 at hf
    refine mx_S.pu (pc2 := 193) (lv2 := [(0, .ref l0), (1, .int l1)]) (st2 := [.int l1]) hm dX13_heads_192 rfl ?_
    refine mx_S.pu (pc2 := 194) (lv2 := [(0, .ref l0), (1, .int l1)]) (st2 := [.ref l0, .int l1]) hm dX13_heads_193 rfl ?_
    replace hf := mx_sv_el hf; obtain ⟨v12, e_v12, hf⟩ := hf
    refine sx_get hm dX13_heads_194 rs_RX13_412 (xgi_el e_v12) ?_
    clear e_v12
    rcases mx_if_el hf with ⟨c18, hf⟩ | ⟨c18, hf⟩
    · refine sb_ic_ge hm dX13_heads_197 (tgt := 218) rfl (fun _ => ?_) (fun z => absurd c18 z)
      refine sx_ic (v := 0) hm dX13_heads_218 (by decide) ?_
      refine mx_S.pu (pc2 := 220) (lv2 := [(1, .int 0), (0, .ref l0)]) (st2 := []) hm dX13_heads_219 rfl ?_
      refine mx_S.ext [(0, .ref l0), (1, .int 0)] (mx_sub_pos [1, 0] rfl (show ([1, 0] : List Nat).Nodup by decide)) ?_
      exact w_X13_heads_220_ok X hF hL nn nn l0 0 h _ hf
    · refine sb_ic_ge hm dX13_heads_197 (tgt := 218) rfl (fun z => absurd z c18) (fun _ => ?_)
      refine mx_S.pu (pc2 := 201) (lv2 := [(0, .ref l0), (1, .int l1)]) (st2 := [.ref l0]) hm dX13_heads_200 rfl ?_
      replace hf := mx_sv_el hf; obtain ⟨v13, e_v13, hf⟩ := hf
      refine sx_get hm dX13_heads_201 rs_RX13_319 (xgi_el e_v13) ?_
      clear e_v13
      rcases mx_if_el hf with ⟨c17, hf⟩ | ⟨c17, hf⟩
      · refine sb_if_ne hm dX13_heads_204 (tgt := 218) rfl (fun _ => ?_) (fun z => absurd c17 z)
        refine sx_ic (v := 0) hm dX13_heads_218 (by decide) ?_
        refine mx_S.pu (pc2 := 220) (lv2 := [(1, .int 0), (0, .ref l0)]) (st2 := []) hm dX13_heads_219 rfl ?_
        refine mx_S.ext [(0, .ref l0), (1, .int 0)] (mx_sub_pos [1, 0] rfl (show ([1, 0] : List Nat).Nodup by decide)) ?_
        exact w_X13_heads_220_ok X hF hL nn nn l0 0 h _ hf
      · refine sb_if_ne hm dX13_heads_204 (tgt := 218) rfl (fun z => absurd z c17) (fun _ => ?_)
        refine mx_S.pu (pc2 := 208) (lv2 := [(0, .ref l0), (1, .int l1)]) (st2 := [.ref l0]) hm dX13_heads_207 rfl ?_
        refine mx_S.pu (pc2 := 209) (lv2 := [(0, .ref l0), (1, .int l1)]) (st2 := [.int l1, .ref l0]) hm dX13_heads_208 rfl ?_
        replace hf := mx_gd_el hf; obtain ⟨c14, hf⟩ := hf
        replace hf := mx_sv_el hf; obtain ⟨u15, e_u15, hf⟩ := hf
        refine sx_cv hm dX13_heads_209 rs_RX13_497 mt_X13_memberHead [.int l1] [] (b := l0) (ci := 13) rfl rfl rfl c14 (Nat.le_of_ble_eq_true rfl) (Nat.le_of_ble_eq_true rfl) (by omega) (by omega) (f_X13_memberHead_ok X (by omega) (by omega) nn l0 l1 h e_u15) ?_
        clear e_u15
        show mx_S X F L 426 212 [(0, .ref l0), (1, .int l1)] [] u15 0 0 (none, r, 0, 0)
        replace hf := xl_el hf; obtain ⟨v16, e_v16, hf⟩ := hf
        refine mx_S.pu (pc2 := 215) (lv2 := [(1, .int v16), (0, .ref l0)]) (st2 := []) hm dX13_heads_212 (by rw [← e_v16]; rfl) ?_
        clear e_v16
        refine mx_S.pu (pc2 := 192) (lv2 := [(1, .int v16), (0, .ref l0)]) (st2 := []) hm dX13_heads_215 rfl ?_
        refine mx_S.ext [(0, .ref l0), (1, .int v16)] (mx_sub_pos [1, 0] rfl (show ([1, 0] : List Nat).Nodup by decide)) ?_
        exact ih l0 v16 u15 _ hf
set_option maxHeartbeats 4000000 in
set_option maxRecDepth 20000 in
theorem j_X13_heads_167_ok (X : Nat × (Nat → Int32)) {F L : Nat} (hF : 8 ≤ F) (hL : 185 ≤ L) (nn : Nat) {kk_50 : Nat → Int32 → mx_H → Option mx_H} (hk_50 : ∀ (l0 : Nat) (l1 : Int32) (h : mx_H) (r : mx_H), kk_50 l0 l1 h = some r → mx_S X F L 426 50 [(0, .ref l0), (1, .int l1)] [] h 0 0 (none, r, 0, 0)) (l0 : Nat) (l1 : Int32) (l2 : Int32) (h : mx_H) {r : mx_H} (hf : j_X13_heads_167 nn kk_50 l0 l1 l2 h = some r) : mx_S X F L 426 167 [(0, .ref l0), (1, .int l1), (2, .int l2)] [] h 0 0 (none, r, 0, 0) := by
  have hm : mx_mt 426 = some (yX13_heads, cX13_heads, 4, none) := mt_X13_heads
  unfold j_X13_heads_167 at hf
  refine mx_S.pu (pc2 := 168) (lv2 := [(0, .ref l0), (1, .int l1), (2, .int l2)]) (st2 := [.int l2]) hm dX13_heads_167 rfl ?_
  refine sx_ic (v := (-1)) hm dX13_heads_168 (by decide) ?_
  rcases mx_if_el hf with ⟨c25, hf⟩ | ⟨c25, hf⟩
  · refine sb_ic_eq hm dX13_heads_169 (tgt := 184) rfl (fun _ => ?_) (fun z => absurd c25 z)
    replace hf := xl_el hf; obtain ⟨v19, e_v19, hf⟩ := hf
    refine mx_S.pu (pc2 := 187) (lv2 := [(1, .int v19), (0, .ref l0), (2, .int l2)]) (st2 := []) hm dX13_heads_184 (by rw [← e_v19]; rfl) ?_
    clear e_v19
    refine mx_S.pu (pc2 := 50) (lv2 := [(1, .int v19), (0, .ref l0), (2, .int l2)]) (st2 := []) hm dX13_heads_187 rfl ?_
    refine mx_S.ext [(0, .ref l0), (1, .int v19)] (mx_sub_pos [1, 0] rfl (show ([1, 0, 2] : List Nat).Nodup by decide)) ?_
    exact hk_50 l0 v19 h _ hf
  · refine sb_ic_eq hm dX13_heads_169 (tgt := 184) rfl (fun z => absurd z c25) (fun _ => ?_)
    refine mx_S.pu (pc2 := 173) (lv2 := [(0, .ref l0), (1, .int l1), (2, .int l2)]) (st2 := [.ref l0]) hm dX13_heads_172 rfl ?_
    refine sx_bi (v := 6) hm dX13_heads_173 (by decide) ?_
    refine mx_S.pu (pc2 := 176) (lv2 := [(0, .ref l0), (1, .int l1), (2, .int l2)]) (st2 := [.ref l0, .int 6, .ref l0]) hm dX13_heads_175 rfl ?_
    replace hf := mx_sv_el hf; obtain ⟨v20, e_v20, hf⟩ := hf
    refine sx_get hm dX13_heads_176 rs_RX13_65 (xgr_el e_v20) ?_
    clear e_v20
    refine mx_S.pu (pc2 := 180) (lv2 := [(0, .ref l0), (1, .int l1), (2, .int l2)]) (st2 := [.int l1, .ref v20, .int 6, .ref l0]) hm dX13_heads_179 rfl ?_
    replace hf := mx_sv_el hf; obtain ⟨v21, e_v21, hf⟩ := hf
    refine sx_ald hm dX13_heads_180 e_v21 ?_
    clear e_v21
    replace hf := mx_gd_el hf; obtain ⟨c22, hf⟩ := hf
    replace hf := mx_sv_el hf; obtain ⟨u23, e_u23, hf⟩ := hf
    refine sx_cv hm dX13_heads_181 rs_RX13_379 mt_X13_wrong [.int 6, .int v21] [] (b := l0) (ci := 13) rfl rfl rfl c22 (Nat.le_of_ble_eq_true rfl) (Nat.le_of_ble_eq_true rfl) (by omega) (by omega) (f_X13_wrong_ok X (by omega) (by omega) nn l0 6 v21 h e_u23) ?_
    clear e_u23
    show mx_S X F L 426 184 [(0, .ref l0), (1, .int l1), (2, .int l2)] [] u23 0 0 (none, r, 0, 0)
    replace hf := xl_el hf; obtain ⟨v24, e_v24, hf⟩ := hf
    refine mx_S.pu (pc2 := 187) (lv2 := [(1, .int v24), (0, .ref l0), (2, .int l2)]) (st2 := []) hm dX13_heads_184 (by rw [← e_v24]; rfl) ?_
    clear e_v24
    refine mx_S.pu (pc2 := 50) (lv2 := [(1, .int v24), (0, .ref l0), (2, .int l2)]) (st2 := []) hm dX13_heads_187 rfl ?_
    refine mx_S.ext [(0, .ref l0), (1, .int v24)] (mx_sub_pos [1, 0] rfl (show ([1, 0, 2] : List Nat).Nodup by decide)) ?_
    exact hk_50 l0 v24 u23 _ hf
set_option maxHeartbeats 4000000 in
set_option maxRecDepth 20000 in
theorem w_X13_heads_139_ok (X : Nat × (Nat → Int32)) {F L : Nat} (hF : 8 ≤ F) (hL : 185 ≤ L) (nn : Nat) {kk_50 : Nat → Int32 → mx_H → Option mx_H} (hk_50 : ∀ (l0 : Nat) (l1 : Int32) (h : mx_H) (r : mx_H), kk_50 l0 l1 h = some r → mx_S X F L 426 50 [(0, .ref l0), (1, .int l1)] [] h 0 0 (none, r, 0, 0)) : ∀ (k : Nat) (l0 : Nat) (l1 : Int32) (l2 : Int32) (l3 : Int32) (h : mx_H) (r : mx_H), w_X13_heads_139 nn kk_50 k l0 l1 l2 l3 h = some r → mx_S X F L 426 139 [(0, .ref l0), (1, .int l1), (2, .int l2), (3, .int l3)] [] h 0 0 (none, r, 0, 0) := by
  have hm : mx_mt 426 = some (yX13_heads, cX13_heads, 4, none) := mt_X13_heads
  intro k
  induction k with
  | zero => intro l0 l1 l2 l3 h r hf; cases hf
  | succ k ih =>
    intro l0 l1 l2 l3 h r hf
    unfold w_X13_heads_139 at hf
    refine mx_S.pu (pc2 := 140) (lv2 := [(0, .ref l0), (1, .int l1), (2, .int l2), (3, .int l3)]) (st2 := [.int l3]) hm dX13_heads_139 rfl ?_
    refine mx_S.pu (pc2 := 141) (lv2 := [(0, .ref l0), (1, .int l1), (2, .int l2), (3, .int l3)]) (st2 := [.ref l0, .int l3]) hm dX13_heads_140 rfl ?_
    replace hf := mx_sv_el hf; obtain ⟨v26, e_v26, hf⟩ := hf
    refine sx_get hm dX13_heads_141 rs_RX13_409 (xgi_el e_v26) ?_
    clear e_v26
    refine sx_bi (v := 9) hm dX13_heads_144 (by decide) ?_
    replace hf := xl_el hf; obtain ⟨v27, e_v27, hf⟩ := hf
    refine mx_S.pu (pc2 := 147) (lv2 := [(0, .ref l0), (1, .int l1), (2, .int l2), (3, .int l3)]) (st2 := [.int v27, .int l3]) hm dX13_heads_146 (by rw [← e_v27]; rfl) ?_
    clear e_v27
    rcases mx_if_el hf with ⟨c32, hf⟩ | ⟨c32, hf⟩
    · refine sb_ic_gt hm dX13_heads_147 (tgt := 167) rfl (fun _ => ?_) (fun z => absurd c32 z)
      refine mx_S.ext [(0, .ref l0), (1, .int l1), (2, .int l2)] (mx_sub_pos [0, 1, 2] rfl (show ([0, 1, 2, 3] : List Nat).Nodup by decide)) ?_
      exact j_X13_heads_167_ok X hF hL nn hk_50 l0 l1 l2 h hf
    · refine sb_ic_gt hm dX13_heads_147 (tgt := 167) rfl (fun z => absurd z c32) (fun _ => ?_)
      refine mx_S.pu (pc2 := 151) (lv2 := [(0, .ref l0), (1, .int l1), (2, .int l2), (3, .int l3)]) (st2 := [.int l2]) hm dX13_heads_150 rfl ?_
      refine sx_ic (v := (-1)) hm dX13_heads_151 (by decide) ?_
      rcases mx_if_el hf with ⟨c31, hf⟩ | ⟨c31, hf⟩
      · refine sb_ic_eq hm dX13_heads_152 (tgt := 167) rfl (fun _ => ?_) (fun z => absurd c31 z)
        refine mx_S.ext [(0, .ref l0), (1, .int l1), (2, .int l2)] (mx_sub_pos [0, 1, 2] rfl (show ([0, 1, 2, 3] : List Nat).Nodup by decide)) ?_
        exact j_X13_heads_167_ok X hF hL nn hk_50 l0 l1 l2 h hf
      · refine sb_ic_eq hm dX13_heads_152 (tgt := 167) rfl (fun z => absurd z c31) (fun _ => ?_)
        refine mx_S.pu (pc2 := 156) (lv2 := [(0, .ref l0), (1, .int l1), (2, .int l2), (3, .int l3)]) (st2 := [.ref l0]) hm dX13_heads_155 rfl ?_
        refine mx_S.pu (pc2 := 157) (lv2 := [(0, .ref l0), (1, .int l1), (2, .int l2), (3, .int l3)]) (st2 := [.int l2, .ref l0]) hm dX13_heads_156 rfl ?_
        replace hf := mx_gd_el hf; obtain ⟨c28, hf⟩ := hf
        replace hf := mx_sv_el hf; obtain ⟨u29, e_u29, hf⟩ := hf
        refine sx_cv hm dX13_heads_157 rs_RX13_482 mt_X13_upperOf [.int l2] [] (b := l0) (ci := 13) rfl rfl rfl c28 (Nat.le_of_ble_eq_true rfl) (Nat.le_of_ble_eq_true rfl) (by omega) (by omega) (f_X13_upperOf_ok X (by omega) (by omega) nn l0 l2 h e_u29) ?_
        clear e_u29
        show mx_S X F L 426 160 [(0, .ref l0), (1, .int l1), (2, .int l2), (3, .int l3)] [.int u29.1] u29.2 0 0 (none, r, 0, 0)
        refine mx_S.pu (pc2 := 161) (lv2 := [(2, .int u29.1), (0, .ref l0), (1, .int l1), (3, .int l3)]) (st2 := []) hm dX13_heads_160 rfl ?_
        replace hf := xl_el hf; obtain ⟨v30, e_v30, hf⟩ := hf
        refine mx_S.pu (pc2 := 164) (lv2 := [(3, .int v30), (2, .int u29.1), (0, .ref l0), (1, .int l1)]) (st2 := []) hm dX13_heads_161 (by rw [← e_v30]; rfl) ?_
        clear e_v30
        refine mx_S.pu (pc2 := 139) (lv2 := [(3, .int v30), (2, .int u29.1), (0, .ref l0), (1, .int l1)]) (st2 := []) hm dX13_heads_164 rfl ?_
        refine mx_S.ext [(0, .ref l0), (1, .int l1), (2, .int u29.1), (3, .int v30)] (mx_sub_pos [2, 3, 1, 0] rfl (show ([3, 2, 0, 1] : List Nat).Nodup by decide)) ?_
        exact ih l0 l1 u29.1 v30 u29.2 _ hf
set_option maxHeartbeats 4000000 in
set_option maxRecDepth 20000 in
theorem j_X13_heads_132_ok (X : Nat × (Nat → Int32)) {F L : Nat} (hF : 8 ≤ F) (hL : 185 ≤ L) (nn : Nat) {kk_50 : Nat → Int32 → mx_H → Option mx_H} (hk_50 : ∀ (l0 : Nat) (l1 : Int32) (h : mx_H) (r : mx_H), kk_50 l0 l1 h = some r → mx_S X F L 426 50 [(0, .ref l0), (1, .int l1)] [] h 0 0 (none, r, 0, 0)) (l0 : Nat) (l1 : Int32) (h : mx_H) {r : mx_H} (hf : j_X13_heads_132 nn kk_50 l0 l1 h = some r) : mx_S X F L 426 132 [(0, .ref l0), (1, .int l1)] [] h 0 0 (none, r, 0, 0) := by
  have hm : mx_mt 426 = some (yX13_heads, cX13_heads, 4, none) := mt_X13_heads
  unfold j_X13_heads_132 at hf
  refine sx_bi (v := 8) hm dX13_heads_132 (by decide) ?_
  refine mx_S.pu (pc2 := 135) (lv2 := [(0, .ref l0), (1, .int l1)]) (st2 := [.int l1, .int 8]) hm dX13_heads_134 rfl ?_
  replace hf := xl_el hf; obtain ⟨v33, e_v33, hf⟩ := hf
  refine mx_S.pu (pc2 := 136) (lv2 := [(0, .ref l0), (1, .int l1)]) (st2 := [.int v33]) hm dX13_heads_135 (by rw [← e_v33]; rfl) ?_
  clear e_v33
  refine mx_S.pu (pc2 := 137) (lv2 := [(2, .int v33), (0, .ref l0), (1, .int l1)]) (st2 := []) hm dX13_heads_136 rfl ?_
  refine sx_ic (v := 0) hm dX13_heads_137 (by decide) ?_
  refine mx_S.pu (pc2 := 139) (lv2 := [(3, .int 0), (2, .int v33), (0, .ref l0), (1, .int l1)]) (st2 := []) hm dX13_heads_138 rfl ?_
  refine mx_S.ext [(0, .ref l0), (1, .int l1), (2, .int v33), (3, .int 0)] (mx_sub_pos [2, 3, 1, 0] rfl (show ([3, 2, 0, 1] : List Nat).Nodup by decide)) ?_
  exact w_X13_heads_139_ok X hF hL nn hk_50 nn l0 l1 v33 0 h _ hf
set_option maxHeartbeats 4000000 in
set_option maxRecDepth 20000 in
theorem j_X13_heads_111_ok (X : Nat × (Nat → Int32)) {F L : Nat} (hF : 8 ≤ F) (hL : 185 ≤ L) (nn : Nat) {kk_50 : Nat → Int32 → mx_H → Option mx_H} (hk_50 : ∀ (l0 : Nat) (l1 : Int32) (h : mx_H) (r : mx_H), kk_50 l0 l1 h = some r → mx_S X F L 426 50 [(0, .ref l0), (1, .int l1)] [] h 0 0 (none, r, 0, 0)) (l0 : Nat) (l1 : Int32) (h : mx_H) {r : mx_H} (hf : j_X13_heads_111 nn kk_50 l0 l1 h = some r) : mx_S X F L 426 111 [(0, .ref l0), (1, .int l1)] [] h 0 0 (none, r, 0, 0) := by
  have hm : mx_mt 426 = some (yX13_heads, cX13_heads, 4, none) := mt_X13_heads
  unfold j_X13_heads_111 at hf
  refine mx_S.pu (pc2 := 112) (lv2 := [(0, .ref l0), (1, .int l1)]) (st2 := [.ref l0]) hm dX13_heads_111 rfl ?_
  replace hf := mx_sv_el hf; obtain ⟨v34, e_v34, hf⟩ := hf
  refine sx_get hm dX13_heads_112 rs_RX13_68 (xgr_el e_v34) ?_
  clear e_v34
  refine mx_S.pu (pc2 := 116) (lv2 := [(0, .ref l0), (1, .int l1)]) (st2 := [.int l1, .ref v34]) hm dX13_heads_115 rfl ?_
  replace hf := mx_sv_el hf; obtain ⟨v35, e_v35, hf⟩ := hf
  refine sx_ald hm dX13_heads_116 e_v35 ?_
  clear e_v35
  refine sx_ic (v := (-1)) hm dX13_heads_117 (by decide) ?_
  rcases mx_if_el hf with ⟨c40, hf⟩ | ⟨c40, hf⟩
  · refine sb_ic_ne hm dX13_heads_118 (tgt := 132) rfl (fun _ => ?_) (fun z => absurd c40 z)
    exact j_X13_heads_132_ok X hF hL nn hk_50 l0 l1 h hf
  · refine sb_ic_ne hm dX13_heads_118 (tgt := 132) rfl (fun z => absurd z c40) (fun _ => ?_)
    refine mx_S.pu (pc2 := 122) (lv2 := [(0, .ref l0), (1, .int l1)]) (st2 := [.ref l0]) hm dX13_heads_121 rfl ?_
    refine sx_ic (v := 5) hm dX13_heads_122 (by decide) ?_
    refine mx_S.pu (pc2 := 124) (lv2 := [(0, .ref l0), (1, .int l1)]) (st2 := [.ref l0, .int 5, .ref l0]) hm dX13_heads_123 rfl ?_
    replace hf := mx_sv_el hf; obtain ⟨v36, e_v36, hf⟩ := hf
    refine sx_get hm dX13_heads_124 rs_RX13_65 (xgr_el e_v36) ?_
    clear e_v36
    refine mx_S.pu (pc2 := 128) (lv2 := [(0, .ref l0), (1, .int l1)]) (st2 := [.int l1, .ref v36, .int 5, .ref l0]) hm dX13_heads_127 rfl ?_
    replace hf := mx_sv_el hf; obtain ⟨v37, e_v37, hf⟩ := hf
    refine sx_ald hm dX13_heads_128 e_v37 ?_
    clear e_v37
    replace hf := mx_gd_el hf; obtain ⟨c38, hf⟩ := hf
    replace hf := mx_sv_el hf; obtain ⟨u39, e_u39, hf⟩ := hf
    refine sx_cv hm dX13_heads_129 rs_RX13_379 mt_X13_wrong [.int 5, .int v37] [] (b := l0) (ci := 13) rfl rfl rfl c38 (Nat.le_of_ble_eq_true rfl) (Nat.le_of_ble_eq_true rfl) (by omega) (by omega) (f_X13_wrong_ok X (by omega) (by omega) nn l0 5 v37 h e_u39) ?_
    clear e_u39
    show mx_S X F L 426 132 [(0, .ref l0), (1, .int l1)] [] u39 0 0 (none, r, 0, 0)
    exact j_X13_heads_132_ok X hF hL nn hk_50 l0 l1 u39 hf
set_option maxHeartbeats 4000000 in
set_option maxRecDepth 20000 in
theorem j_X13_heads_83_ok (X : Nat × (Nat → Int32)) {F L : Nat} (hF : 8 ≤ F) (hL : 185 ≤ L) (nn : Nat) {kk_50 : Nat → Int32 → mx_H → Option mx_H} (hk_50 : ∀ (l0 : Nat) (l1 : Int32) (h : mx_H) (r : mx_H), kk_50 l0 l1 h = some r → mx_S X F L 426 50 [(0, .ref l0), (1, .int l1)] [] h 0 0 (none, r, 0, 0)) (l0 : Nat) (l1 : Int32) (h : mx_H) {r : mx_H} (hf : j_X13_heads_83 nn kk_50 l0 l1 h = some r) : mx_S X F L 426 83 [(0, .ref l0), (1, .int l1)] [] h 0 0 (none, r, 0, 0) := by
  have hm : mx_mt 426 = some (yX13_heads, cX13_heads, 4, none) := mt_X13_heads
  unfold j_X13_heads_83 at hf
  refine mx_S.pu (pc2 := 84) (lv2 := [(0, .ref l0), (1, .int l1)]) (st2 := [.ref l0]) hm dX13_heads_83 rfl ?_
  refine mx_S.pu (pc2 := 85) (lv2 := [(0, .ref l0), (1, .int l1)]) (st2 := [.ref l0, .ref l0]) hm dX13_heads_84 rfl ?_
  replace hf := mx_sv_el hf; obtain ⟨v41, e_v41, hf⟩ := hf
  refine sx_get hm dX13_heads_85 rs_RX13_62 (xgr_el e_v41) ?_
  clear e_v41
  refine mx_S.pu (pc2 := 89) (lv2 := [(0, .ref l0), (1, .int l1)]) (st2 := [.int l1, .ref v41, .ref l0]) hm dX13_heads_88 rfl ?_
  replace hf := mx_sv_el hf; obtain ⟨v42, e_v42, hf⟩ := hf
  refine sx_ald hm dX13_heads_89 e_v42 ?_
  clear e_v42
  replace hf := mx_gd_el hf; obtain ⟨c43, hf⟩ := hf
  replace hf := mx_sv_el hf; obtain ⟨u44, e_u44, hf⟩ := hf
  refine sx_cv hm dX13_heads_90 rs_RX13_494 mt_X13_classOf [.int v42] [] (b := l0) (ci := 13) rfl rfl rfl c43 (Nat.le_of_ble_eq_true rfl) (Nat.le_of_ble_eq_true rfl) (by omega) (by omega) (f_X13_classOf_ok X (by omega) (by omega) nn l0 v42 h e_u44) ?_
  clear e_u44
  show mx_S X F L 426 93 [(0, .ref l0), (1, .int l1)] [.int u44.1] u44.2 0 0 (none, r, 0, 0)
  refine sx_bi (v := 8) hm dX13_heads_93 (by decide) ?_
  refine mx_S.pu (pc2 := 96) (lv2 := [(0, .ref l0), (1, .int l1)]) (st2 := [.int l1, .int 8, .int u44.1]) hm dX13_heads_95 rfl ?_
  replace hf := xl_el hf; obtain ⟨v45, e_v45, hf⟩ := hf
  refine mx_S.pu (pc2 := 97) (lv2 := [(0, .ref l0), (1, .int l1)]) (st2 := [.int v45, .int u44.1]) hm dX13_heads_96 (by rw [← e_v45]; rfl) ?_
  clear e_v45
  rcases mx_if_el hf with ⟨c50, hf⟩ | ⟨c50, hf⟩
  · refine sb_ic_eq hm dX13_heads_97 (tgt := 111) rfl (fun _ => ?_) (fun z => absurd c50 z)
    exact j_X13_heads_111_ok X hF hL nn hk_50 l0 l1 u44.2 hf
  · refine sb_ic_eq hm dX13_heads_97 (tgt := 111) rfl (fun z => absurd z c50) (fun _ => ?_)
    refine mx_S.pu (pc2 := 101) (lv2 := [(0, .ref l0), (1, .int l1)]) (st2 := [.ref l0]) hm dX13_heads_100 rfl ?_
    refine sx_ic (v := 4) hm dX13_heads_101 (by decide) ?_
    refine mx_S.pu (pc2 := 103) (lv2 := [(0, .ref l0), (1, .int l1)]) (st2 := [.ref l0, .int 4, .ref l0]) hm dX13_heads_102 rfl ?_
    replace hf := mx_sv_el hf; obtain ⟨v46, e_v46, hf⟩ := hf
    refine sx_get hm dX13_heads_103 rs_RX13_62 (xgr_el e_v46) ?_
    clear e_v46
    refine mx_S.pu (pc2 := 107) (lv2 := [(0, .ref l0), (1, .int l1)]) (st2 := [.int l1, .ref v46, .int 4, .ref l0]) hm dX13_heads_106 rfl ?_
    replace hf := mx_sv_el hf; obtain ⟨v47, e_v47, hf⟩ := hf
    refine sx_ald hm dX13_heads_107 e_v47 ?_
    clear e_v47
    replace hf := mx_gd_el hf; obtain ⟨c48, hf⟩ := hf
    replace hf := mx_sv_el hf; obtain ⟨u49, e_u49, hf⟩ := hf
    refine sx_cv hm dX13_heads_108 rs_RX13_379 mt_X13_wrong [.int 4, .int v47] [] (b := l0) (ci := 13) rfl rfl rfl c48 (Nat.le_of_ble_eq_true rfl) (Nat.le_of_ble_eq_true rfl) (by omega) (by omega) (f_X13_wrong_ok X (by omega) (by omega) nn l0 4 v47 u44.2 e_u49) ?_
    clear e_u49
    show mx_S X F L 426 111 [(0, .ref l0), (1, .int l1)] [] u49 0 0 (none, r, 0, 0)
    exact j_X13_heads_111_ok X hF hL nn hk_50 l0 l1 u49 hf
set_option maxHeartbeats 4000000 in
set_option maxRecDepth 20000 in
theorem w_X13_heads_50_ok (X : Nat × (Nat → Int32)) {F L : Nat} (hF : 8 ≤ F) (hL : 185 ≤ L) (nn : Nat) : ∀ (k : Nat) (l0 : Nat) (l1 : Int32) (h : mx_H) (r : mx_H), w_X13_heads_50 nn k l0 l1 h = some r → mx_S X F L 426 50 [(0, .ref l0), (1, .int l1)] [] h 0 0 (none, r, 0, 0) := by
  have hm : mx_mt 426 = some (yX13_heads, cX13_heads, 4, none) := mt_X13_heads
  intro k
  induction k with
  | zero => intro l0 l1 h r hf; cases hf
  | succ k ih =>
    intro l0 l1 h r hf
    unfold w_X13_heads_50 at hf
    refine mx_S.pu (pc2 := 51) (lv2 := [(0, .ref l0), (1, .int l1)]) (st2 := [.int l1]) hm dX13_heads_50 rfl ?_
    refine mx_S.pu (pc2 := 52) (lv2 := [(0, .ref l0), (1, .int l1)]) (st2 := [.ref l0, .int l1]) hm dX13_heads_51 rfl ?_
    replace hf := mx_sv_el hf; obtain ⟨v51, e_v51, hf⟩ := hf
    refine sx_get hm dX13_heads_52 rs_RX13_409 (xgi_el e_v51) ?_
    clear e_v51
    rcases mx_if_el hf with ⟨c59, hf⟩ | ⟨c59, hf⟩
    · refine sb_ic_ge hm dX13_heads_55 (tgt := 190) rfl (fun _ => ?_) (fun z => absurd c59 z)
      refine sx_ic (v := 0) hm dX13_heads_190 (by decide) ?_
      refine mx_S.pu (pc2 := 192) (lv2 := [(1, .int 0), (0, .ref l0)]) (st2 := []) hm dX13_heads_191 rfl ?_
      refine mx_S.ext [(0, .ref l0), (1, .int 0)] (mx_sub_pos [1, 0] rfl (show ([1, 0] : List Nat).Nodup by decide)) ?_
      exact w_X13_heads_192_ok X hF hL nn nn l0 0 h _ hf
    · refine sb_ic_ge hm dX13_heads_55 (tgt := 190) rfl (fun z => absurd z c59) (fun _ => ?_)
      refine mx_S.pu (pc2 := 59) (lv2 := [(0, .ref l0), (1, .int l1)]) (st2 := [.ref l0]) hm dX13_heads_58 rfl ?_
      replace hf := mx_sv_el hf; obtain ⟨v52, e_v52, hf⟩ := hf
      refine sx_get hm dX13_heads_59 rs_RX13_319 (xgi_el e_v52) ?_
      clear e_v52
      rcases mx_if_el hf with ⟨c58, hf⟩ | ⟨c58, hf⟩
      · refine sb_if_ne hm dX13_heads_62 (tgt := 190) rfl (fun _ => ?_) (fun z => absurd c58 z)
        refine sx_ic (v := 0) hm dX13_heads_190 (by decide) ?_
        refine mx_S.pu (pc2 := 192) (lv2 := [(1, .int 0), (0, .ref l0)]) (st2 := []) hm dX13_heads_191 rfl ?_
        refine mx_S.ext [(0, .ref l0), (1, .int 0)] (mx_sub_pos [1, 0] rfl (show ([1, 0] : List Nat).Nodup by decide)) ?_
        exact w_X13_heads_192_ok X hF hL nn nn l0 0 h _ hf
      · refine sb_if_ne hm dX13_heads_62 (tgt := 190) rfl (fun z => absurd z c58) (fun _ => ?_)
        refine mx_S.pu (pc2 := 66) (lv2 := [(0, .ref l0), (1, .int l1)]) (st2 := [.int l1]) hm dX13_heads_65 rfl ?_
        refine sx_bi (v := 8) hm dX13_heads_66 (by decide) ?_
        rcases mx_if_el hf with ⟨c57, hf⟩ | ⟨c57, hf⟩
        · refine sb_ic_ne hm dX13_heads_68 (tgt := 83) rfl (fun _ => ?_) (fun z => absurd c57 z)
          exact j_X13_heads_83_ok X hF hL nn ih l0 l1 h hf
        · refine sb_ic_ne hm dX13_heads_68 (tgt := 83) rfl (fun z => absurd z c57) (fun _ => ?_)
          refine mx_S.pu (pc2 := 72) (lv2 := [(0, .ref l0), (1, .int l1)]) (st2 := [.ref l0]) hm dX13_heads_71 rfl ?_
          refine sx_bi (v := 11) hm dX13_heads_72 (by decide) ?_
          refine mx_S.pu (pc2 := 75) (lv2 := [(0, .ref l0), (1, .int l1)]) (st2 := [.ref l0, .int 11, .ref l0]) hm dX13_heads_74 rfl ?_
          replace hf := mx_sv_el hf; obtain ⟨v53, e_v53, hf⟩ := hf
          refine sx_get hm dX13_heads_75 rs_RX13_62 (xgr_el e_v53) ?_
          clear e_v53
          refine mx_S.pu (pc2 := 79) (lv2 := [(0, .ref l0), (1, .int l1)]) (st2 := [.int l1, .ref v53, .int 11, .ref l0]) hm dX13_heads_78 rfl ?_
          replace hf := mx_sv_el hf; obtain ⟨v54, e_v54, hf⟩ := hf
          refine sx_ald hm dX13_heads_79 e_v54 ?_
          clear e_v54
          replace hf := mx_gd_el hf; obtain ⟨c55, hf⟩ := hf
          replace hf := mx_sv_el hf; obtain ⟨u56, e_u56, hf⟩ := hf
          refine sx_cv hm dX13_heads_80 rs_RX13_379 mt_X13_wrong [.int 11, .int v54] [] (b := l0) (ci := 13) rfl rfl rfl c55 (Nat.le_of_ble_eq_true rfl) (Nat.le_of_ble_eq_true rfl) (by omega) (by omega) (f_X13_wrong_ok X (by omega) (by omega) nn l0 11 v54 h e_u56) ?_
          clear e_u56
          show mx_S X F L 426 83 [(0, .ref l0), (1, .int l1)] [] u56 0 0 (none, r, 0, 0)
          exact j_X13_heads_83_ok X hF hL nn ih l0 l1 u56 hf
set_option maxHeartbeats 4000000 in
set_option maxRecDepth 20000 in
theorem j_X13_heads_34_ok (X : Nat × (Nat → Int32)) {F L : Nat} (hF : 8 ≤ F) (hL : 185 ≤ L) (nn : Nat) {kk_2 : Nat → Int32 → mx_H → Option mx_H} (hk_2 : ∀ (l0 : Nat) (l1 : Int32) (h : mx_H) (r : mx_H), kk_2 l0 l1 h = some r → mx_S X F L 426 2 [(0, .ref l0), (1, .int l1)] [] h 0 0 (none, r, 0, 0)) (l0 : Nat) (l1 : Int32) (s0 : Int32) (h : mx_H) {r : mx_H} (hf : j_X13_heads_34 nn kk_2 l0 l1 s0 h = some r) : mx_S X F L 426 34 [(0, .ref l0), (1, .int l1)] [.int s0] h 0 0 (none, r, 0, 0) := by
  have hm : mx_mt 426 = some (yX13_heads, cX13_heads, 4, none) := mt_X13_heads
  unfold j_X13_heads_34 at hf
  refine mx_S.pu (pc2 := 35) (lv2 := [(2, .int s0), (0, .ref l0), (1, .int l1)]) (st2 := []) hm dX13_heads_34 rfl ?_
  refine mx_S.pu (pc2 := 36) (lv2 := [(2, .int s0), (0, .ref l0), (1, .int l1)]) (st2 := [.ref l0]) hm dX13_heads_35 rfl ?_
  replace hf := mx_sv_el hf; obtain ⟨v60, e_v60, hf⟩ := hf
  refine sx_get hm dX13_heads_36 rs_RX13_68 (xgr_el e_v60) ?_
  clear e_v60
  refine mx_S.pu (pc2 := 40) (lv2 := [(2, .int s0), (0, .ref l0), (1, .int l1)]) (st2 := [.int l1, .ref v60]) hm dX13_heads_39 rfl ?_
  refine mx_S.pu (pc2 := 41) (lv2 := [(2, .int s0), (0, .ref l0), (1, .int l1)]) (st2 := [.int s0, .int l1, .ref v60]) hm dX13_heads_40 rfl ?_
  replace hf := mx_sv_el hf; obtain ⟨h61, e_h61, hf⟩ := hf
  refine sx_ast hm dX13_heads_41 e_h61 ?_
  clear e_h61
  replace hf := xl_el hf; obtain ⟨v62, e_v62, hf⟩ := hf
  refine mx_S.pu (pc2 := 45) (lv2 := [(1, .int v62), (2, .int s0), (0, .ref l0)]) (st2 := []) hm dX13_heads_42 (by rw [← e_v62]; rfl) ?_
  clear e_v62
  refine mx_S.pu (pc2 := 2) (lv2 := [(1, .int v62), (2, .int s0), (0, .ref l0)]) (st2 := []) hm dX13_heads_45 rfl ?_
  refine mx_S.ext [(0, .ref l0), (1, .int v62)] (mx_sub_pos [2, 0] rfl (show ([1, 2, 0] : List Nat).Nodup by decide)) ?_
  exact hk_2 l0 v62 h61 _ hf
set_option maxHeartbeats 4000000 in
set_option maxRecDepth 20000 in
theorem w_X13_heads_2_ok (X : Nat × (Nat → Int32)) {F L : Nat} (hF : 8 ≤ F) (hL : 185 ≤ L) (nn : Nat) : ∀ (k : Nat) (l0 : Nat) (l1 : Int32) (h : mx_H) (r : mx_H), w_X13_heads_2 nn k l0 l1 h = some r → mx_S X F L 426 2 [(0, .ref l0), (1, .int l1)] [] h 0 0 (none, r, 0, 0) := by
  have hm : mx_mt 426 = some (yX13_heads, cX13_heads, 4, none) := mt_X13_heads
  intro k
  induction k with
  | zero => intro l0 l1 h r hf; cases hf
  | succ k ih =>
    intro l0 l1 h r hf
    unfold w_X13_heads_2 at hf
    refine mx_S.pu (pc2 := 3) (lv2 := [(0, .ref l0), (1, .int l1)]) (st2 := [.int l1]) hm dX13_heads_2 rfl ?_
    refine mx_S.pu (pc2 := 4) (lv2 := [(0, .ref l0), (1, .int l1)]) (st2 := [.ref l0, .int l1]) hm dX13_heads_3 rfl ?_
    replace hf := mx_sv_el hf; obtain ⟨v63, e_v63, hf⟩ := hf
    refine sx_get hm dX13_heads_4 rs_RX13_409 (xgi_el e_v63) ?_
    clear e_v63
    rcases mx_if_el hf with ⟨c71, hf⟩ | ⟨c71, hf⟩
    · refine sb_ic_ge hm dX13_heads_7 (tgt := 48) rfl (fun _ => ?_) (fun z => absurd c71 z)
      refine sx_ic (v := 0) hm dX13_heads_48 (by decide) ?_
      refine mx_S.pu (pc2 := 50) (lv2 := [(1, .int 0), (0, .ref l0)]) (st2 := []) hm dX13_heads_49 rfl ?_
      refine mx_S.ext [(0, .ref l0), (1, .int 0)] (mx_sub_pos [1, 0] rfl (show ([1, 0] : List Nat).Nodup by decide)) ?_
      exact w_X13_heads_50_ok X hF hL nn nn l0 0 h _ hf
    · refine sb_ic_ge hm dX13_heads_7 (tgt := 48) rfl (fun z => absurd z c71) (fun _ => ?_)
      refine mx_S.pu (pc2 := 11) (lv2 := [(0, .ref l0), (1, .int l1)]) (st2 := [.ref l0]) hm dX13_heads_10 rfl ?_
      replace hf := mx_sv_el hf; obtain ⟨v64, e_v64, hf⟩ := hf
      refine sx_get hm dX13_heads_11 rs_RX13_65 (xgr_el e_v64) ?_
      clear e_v64
      refine mx_S.pu (pc2 := 15) (lv2 := [(0, .ref l0), (1, .int l1)]) (st2 := [.int l1, .ref v64]) hm dX13_heads_14 rfl ?_
      replace hf := mx_sv_el hf; obtain ⟨v65, e_v65, hf⟩ := hf
      refine sx_ald hm dX13_heads_15 e_v65 ?_
      clear e_v65
      refine sx_ic (v := (-1)) hm dX13_heads_16 (by decide) ?_
      rcases mx_if_el hf with ⟨c70, hf⟩ | ⟨c70, hf⟩
      · refine sb_ic_ne hm dX13_heads_17 (tgt := 24) rfl (fun _ => ?_) (fun z => absurd c70 z)
        refine mx_S.pu (pc2 := 25) (lv2 := [(0, .ref l0), (1, .int l1)]) (st2 := [.ref l0]) hm dX13_heads_24 rfl ?_
        refine mx_S.pu (pc2 := 26) (lv2 := [(0, .ref l0), (1, .int l1)]) (st2 := [.ref l0, .ref l0]) hm dX13_heads_25 rfl ?_
        replace hf := mx_sv_el hf; obtain ⟨v66, e_v66, hf⟩ := hf
        refine sx_get hm dX13_heads_26 rs_RX13_65 (xgr_el e_v66) ?_
        clear e_v66
        refine mx_S.pu (pc2 := 30) (lv2 := [(0, .ref l0), (1, .int l1)]) (st2 := [.int l1, .ref v66, .ref l0]) hm dX13_heads_29 rfl ?_
        replace hf := mx_sv_el hf; obtain ⟨v67, e_v67, hf⟩ := hf
        refine sx_ald hm dX13_heads_30 e_v67 ?_
        clear e_v67
        replace hf := mx_gd_el hf; obtain ⟨c68, hf⟩ := hf
        replace hf := mx_sv_el hf; obtain ⟨u69, e_u69, hf⟩ := hf
        refine sx_cv hm dX13_heads_31 rs_RX13_494 mt_X13_classOf [.int v67] [] (b := l0) (ci := 13) rfl rfl rfl c68 (Nat.le_of_ble_eq_true rfl) (Nat.le_of_ble_eq_true rfl) (by omega) (by omega) (f_X13_classOf_ok X (by omega) (by omega) nn l0 v67 h e_u69) ?_
        clear e_u69
        show mx_S X F L 426 34 [(0, .ref l0), (1, .int l1)] [.int u69.1] u69.2 0 0 (none, r, 0, 0)
        exact j_X13_heads_34_ok X hF hL nn ih l0 l1 u69.1 u69.2 hf
      · refine sb_ic_ne hm dX13_heads_17 (tgt := 24) rfl (fun z => absurd z c70) (fun _ => ?_)
        refine sx_ic (v := 0) hm dX13_heads_20 (by decide) ?_
        refine mx_S.pu (pc2 := 34) (lv2 := [(0, .ref l0), (1, .int l1)]) (st2 := [.int 0]) hm dX13_heads_21 rfl ?_
        exact j_X13_heads_34_ok X hF hL nn ih l0 l1 0 h hf
