set_option maxHeartbeats 4000000 in
set_option maxRecDepth 20000 in
theorem j_X5_isCaught_89_ok (X : Nat × (Nat → Int32)) {F L : Nat} (hF : 2 ≤ F) (hL : 44 ≤ L) (nn : Nat) {kk_27 : Nat → Int32 → Int32 → Int32 → Int32 → mx_H → Option (Int32 × mx_H)} (hk_27 : ∀ (l0 : Nat) (l1 : Int32) (l2 : Int32) (l3 : Int32) (l4 : Int32) (h : mx_H) (r : (Int32 × mx_H)), kk_27 l0 l1 l2 l3 l4 h = some r → mx_S X F L 180 27 [(0, .ref l0), (1, .int l1), (2, .int l2), (3, .int l3), (4, .int l4)] [] h 0 0 (some (.int r.1), r.2, 0, 0)) (l0 : Nat) (l1 : Int32) (l2 : Int32) (l3 : Int32) (l4 : Int32) (s0 : Int32) (h : mx_H) {r : (Int32 × mx_H)} (hf : j_X5_isCaught_89 nn kk_27 l0 l1 l2 l3 l4 s0 h = some r) : mx_S X F L 180 89 [(0, .ref l0), (1, .int l1), (2, .int l2), (3, .int l3), (4, .int l4)] [.int s0] h 0 0 (some (.int r.1), r.2, 0, 0) := by
  have hm : mx_mt 180 = some (yX5_isCaught, cX5_isCaught, 6, (some .boolean)) := mt_X5_isCaught
  unfold j_X5_isCaught_89 at hf
  refine mx_S.pu (pc2 := 91) (lv2 := [(5, .int s0), (0, .ref l0), (1, .int l1), (2, .int l2), (3, .int l3), (4, .int l4)]) (st2 := []) hm dX5_isCaught_89 rfl ?_
  refine mx_S.pu (pc2 := 93) (lv2 := [(5, .int s0), (0, .ref l0), (1, .int l1), (2, .int l2), (3, .int l3), (4, .int l4)]) (st2 := [.int s0]) hm dX5_isCaught_91 rfl ?_
  rcases mx_if_el hf with ⟨c31, hf⟩ | ⟨c31, hf⟩
  · refine sb_if_eq hm dX5_isCaught_93 (tgt := 167) rfl (fun _ => ?_) (fun z => absurd c31 z)
    replace hf := xl_el hf; obtain ⟨v1, e_v1, hf⟩ := hf
    refine mx_S.pu (pc2 := 170) (lv2 := [(3, .int v1), (5, .int s0), (0, .ref l0), (1, .int l1), (2, .int l2), (4, .int l4)]) (st2 := []) hm dX5_isCaught_167 (by rw [← e_v1]; rfl) ?_
    clear e_v1
    replace hf := xl_el hf; obtain ⟨v2, e_v2, hf⟩ := hf
    refine mx_S.pu (pc2 := 173) (lv2 := [(4, .int v2), (3, .int v1), (5, .int s0), (0, .ref l0), (1, .int l1), (2, .int l2)]) (st2 := []) hm dX5_isCaught_170 (by rw [← e_v2]; rfl) ?_
    clear e_v2
    refine mx_S.pu (pc2 := 27) (lv2 := [(4, .int v2), (3, .int v1), (5, .int s0), (0, .ref l0), (1, .int l1), (2, .int l2)]) (st2 := []) hm dX5_isCaught_173 rfl ?_
    refine mx_S.ext [(0, .ref l0), (1, .int l1), (2, .int l2), (3, .int v1), (4, .int v2)] (mx_sub_pos [3, 4, 5, 1, 0] rfl (show ([4, 3, 5, 0, 1, 2] : List Nat).Nodup by decide)) ?_
    exact hk_27 l0 l1 l2 v1 v2 h _ hf
  · refine sb_if_eq hm dX5_isCaught_93 (tgt := 167) rfl (fun z => absurd z c31) (fun _ => ?_)
    refine mx_S.pu (pc2 := 97) (lv2 := [(5, .int s0), (0, .ref l0), (1, .int l1), (2, .int l2), (3, .int l3), (4, .int l4)]) (st2 := [.ref l0]) hm dX5_isCaught_96 rfl ?_
    replace hf := mx_sv_el hf; obtain ⟨v3, e_v3, hf⟩ := hf
    refine sx_get hm dX5_isCaught_97 rs_RX5_41 (xgr_el e_v3) ?_
    clear e_v3
    replace hf := mx_sv_el hf; obtain ⟨v4, e_v4, hf⟩ := hf
    refine sx_get hm dX5_isCaught_100 rs_RX5_232 (xgr_el e_v4) ?_
    clear e_v4
    refine mx_S.pu (pc2 := 104) (lv2 := [(5, .int s0), (0, .ref l0), (1, .int l1), (2, .int l2), (3, .int l3), (4, .int l4)]) (st2 := [.ref l0, .ref v4]) hm dX5_isCaught_103 rfl ?_
    replace hf := mx_sv_el hf; obtain ⟨v5, e_v5, hf⟩ := hf
    refine sx_get hm dX5_isCaught_104 rs_RX5_17 (xgr_el e_v5) ?_
    clear e_v5
    refine mx_S.pu (pc2 := 108) (lv2 := [(5, .int s0), (0, .ref l0), (1, .int l1), (2, .int l2), (3, .int l3), (4, .int l4)]) (st2 := [.int l1, .ref v5, .ref v4]) hm dX5_isCaught_107 rfl ?_
    replace hf := mx_sv_el hf; obtain ⟨v6, e_v6, hf⟩ := hf
    refine sx_ald hm dX5_isCaught_108 e_v6 ?_
    clear e_v6
    refine mx_S.pu (pc2 := 110) (lv2 := [(5, .int s0), (0, .ref l0), (1, .int l1), (2, .int l2), (3, .int l3), (4, .int l4)]) (st2 := [.ref l0, .int v6, .ref v4]) hm dX5_isCaught_109 rfl ?_
    refine mx_S.pu (pc2 := 111) (lv2 := [(5, .int s0), (0, .ref l0), (1, .int l1), (2, .int l2), (3, .int l3), (4, .int l4)]) (st2 := [.ref l0, .ref l0, .int v6, .ref v4]) hm dX5_isCaught_110 rfl ?_
    replace hf := mx_sv_el hf; obtain ⟨v7, e_v7, hf⟩ := hf
    refine sx_get hm dX5_isCaught_111 rs_RX5_46 (xgr_el e_v7) ?_
    clear e_v7
    refine mx_S.pu (pc2 := 115) (lv2 := [(5, .int s0), (0, .ref l0), (1, .int l1), (2, .int l2), (3, .int l3), (4, .int l4)]) (st2 := [.int l3, .ref v7, .ref l0, .int v6, .ref v4]) hm dX5_isCaught_114 rfl ?_
    refine sx_bi (v := 6) hm dX5_isCaught_115 (by decide) ?_
    replace hf := xl_el hf; obtain ⟨v8, e_v8, hf⟩ := hf
    refine mx_S.pu (pc2 := 118) (lv2 := [(5, .int s0), (0, .ref l0), (1, .int l1), (2, .int l2), (3, .int l3), (4, .int l4)]) (st2 := [.int v8, .ref v7, .ref l0, .int v6, .ref v4]) hm dX5_isCaught_117 (by rw [← e_v8]; rfl) ?_
    clear e_v8
    replace hf := mx_gd_el hf; obtain ⟨c9, hf⟩ := hf
    replace hf := mx_sv_el hf; obtain ⟨u10, e_u10, hf⟩ := hf
    refine sx_cv hm dX5_isCaught_118 rs_RX5_141 mt_X3_byteAt [.int v8] [.ref l0, .int v6, .ref v4] (b := v7) (ci := 3) rfl rfl rfl c9 (Nat.le_of_ble_eq_true rfl) (Nat.le_of_ble_eq_true rfl) (by omega) (by omega) (f_X3_byteAt_ok X (by omega) (by omega) nn v7 v8 h e_u10) ?_
    clear e_u10
    show mx_S X F L 180 121 [(5, .int s0), (0, .ref l0), (1, .int l1), (2, .int l2), (3, .int l3), (4, .int l4)] [.int u10.1, .ref l0, .int v6, .ref v4] u10.2 0 0 (some (.int r.1), r.2, 0, 0)
    replace hf := mx_gd_el hf; obtain ⟨c11, hf⟩ := hf
    replace hf := mx_sv_el hf; obtain ⟨u12, e_u12, hf⟩ := hf
    refine sx_cv hm dX5_isCaught_121 rs_RX5_149 mt_X5_link [.int u10.1] [.int v6, .ref v4] (b := l0) (ci := 5) rfl rfl rfl c11 (Nat.le_of_ble_eq_true rfl) (Nat.le_of_ble_eq_true rfl) (by omega) (by omega) (f_X5_link_ok X (by omega) (by omega) nn l0 u10.1 u10.2 e_u12) ?_
    clear e_u12
    show mx_S X F L 180 124 [(5, .int s0), (0, .ref l0), (1, .int l1), (2, .int l2), (3, .int l3), (4, .int l4)] [.int u12.1, .int v6, .ref v4] u12.2 0 0 (some (.int r.1), r.2, 0, 0)
    replace hf := mx_gd_el hf; obtain ⟨c13, hf⟩ := hf
    replace hf := mx_sv_el hf; obtain ⟨u14, e_u14, hf⟩ := hf
    refine sx_cv hm dX5_isCaught_124 rs_RX5_239 mt_X4_fits [.int v6, .int u12.1] [] (b := v4) (ci := 4) rfl rfl rfl c13 (Nat.le_of_ble_eq_true rfl) (Nat.le_of_ble_eq_true rfl) (by omega) (by omega) (f_X4_fits_ok X (by omega) (by omega) nn v4 v6 u12.1 u12.2 e_u14) ?_
    clear e_u14
    show mx_S X F L 180 127 [(5, .int s0), (0, .ref l0), (1, .int l1), (2, .int l2), (3, .int l3), (4, .int l4)] [.int u14.1] u14.2 0 0 (some (.int r.1), r.2, 0, 0)
    rcases mx_if_el hf with ⟨c30, hf⟩ | ⟨c30, hf⟩
    · refine sb_if_eq hm dX5_isCaught_127 (tgt := 167) rfl (fun _ => ?_) (fun z => absurd c30 z)
      replace hf := xl_el hf; obtain ⟨v15, e_v15, hf⟩ := hf
      refine mx_S.pu (pc2 := 170) (lv2 := [(3, .int v15), (5, .int s0), (0, .ref l0), (1, .int l1), (2, .int l2), (4, .int l4)]) (st2 := []) hm dX5_isCaught_167 (by rw [← e_v15]; rfl) ?_
      clear e_v15
      replace hf := xl_el hf; obtain ⟨v16, e_v16, hf⟩ := hf
      refine mx_S.pu (pc2 := 173) (lv2 := [(4, .int v16), (3, .int v15), (5, .int s0), (0, .ref l0), (1, .int l1), (2, .int l2)]) (st2 := []) hm dX5_isCaught_170 (by rw [← e_v16]; rfl) ?_
      clear e_v16
      refine mx_S.pu (pc2 := 27) (lv2 := [(4, .int v16), (3, .int v15), (5, .int s0), (0, .ref l0), (1, .int l1), (2, .int l2)]) (st2 := []) hm dX5_isCaught_173 rfl ?_
      refine mx_S.ext [(0, .ref l0), (1, .int l1), (2, .int l2), (3, .int v15), (4, .int v16)] (mx_sub_pos [3, 4, 5, 1, 0] rfl (show ([4, 3, 5, 0, 1, 2] : List Nat).Nodup by decide)) ?_
      exact hk_27 l0 l1 l2 v15 v16 u14.2 _ hf
    · refine sb_if_eq hm dX5_isCaught_127 (tgt := 167) rfl (fun z => absurd z c30) (fun _ => ?_)
      refine mx_S.pu (pc2 := 131) (lv2 := [(5, .int s0), (0, .ref l0), (1, .int l1), (2, .int l2), (3, .int l3), (4, .int l4)]) (st2 := [.ref l0]) hm dX5_isCaught_130 rfl ?_
      replace hf := mx_sv_el hf; obtain ⟨v17, e_v17, hf⟩ := hf
      refine sx_get hm dX5_isCaught_131 rs_RX5_32 (xgr_el e_v17) ?_
      clear e_v17
      refine mx_S.pu (pc2 := 135) (lv2 := [(5, .int s0), (0, .ref l0), (1, .int l1), (2, .int l2), (3, .int l3), (4, .int l4)]) (st2 := [.ref l0, .ref v17]) hm dX5_isCaught_134 rfl ?_
      replace hf := mx_sv_el hf; obtain ⟨v18, e_v18, hf⟩ := hf
      refine sx_get hm dX5_isCaught_135 rs_RX5_97 (xgi_el e_v18) ?_
      clear e_v18
      refine sx_ic (v := 0) hm dX5_isCaught_138 (by decide) ?_
      replace hf := mx_sv_el hf; obtain ⟨h19, e_h19, hf⟩ := hf
      refine sx_ast hm dX5_isCaught_139 e_h19 ?_
      clear e_h19
      refine mx_S.pu (pc2 := 141) (lv2 := [(5, .int s0), (0, .ref l0), (1, .int l1), (2, .int l2), (3, .int l3), (4, .int l4)]) (st2 := [.ref l0]) hm dX5_isCaught_140 rfl ?_
      refine mx_S.pu (pc2 := 142) (lv2 := [(5, .int s0), (0, .ref l0), (1, .int l1), (2, .int l2), (3, .int l3), (4, .int l4)]) (st2 := [.int l1, .ref l0]) hm dX5_isCaught_141 rfl ?_
      refine mx_S.pu (pc2 := 143) (lv2 := [(5, .int s0), (0, .ref l0), (1, .int l1), (2, .int l2), (3, .int l3), (4, .int l4)]) (st2 := [.ref l0, .int l1, .ref l0]) hm dX5_isCaught_142 rfl ?_
      replace hf := mx_sv_el hf; obtain ⟨v20, e_v20, hf⟩ := hf
      refine sx_get hm dX5_isCaught_143 rs_RX5_46 (xgr_el e_v20) ?_
      clear e_v20
      refine mx_S.pu (pc2 := 147) (lv2 := [(5, .int s0), (0, .ref l0), (1, .int l1), (2, .int l2), (3, .int l3), (4, .int l4)]) (st2 := [.int l3, .ref v20, .int l1, .ref l0]) hm dX5_isCaught_146 rfl ?_
      refine sx_ic (v := 4) hm dX5_isCaught_147 (by decide) ?_
      replace hf := xl_el hf; obtain ⟨v21, e_v21, hf⟩ := hf
      refine mx_S.pu (pc2 := 149) (lv2 := [(5, .int s0), (0, .ref l0), (1, .int l1), (2, .int l2), (3, .int l3), (4, .int l4)]) (st2 := [.int v21, .ref v20, .int l1, .ref l0]) hm dX5_isCaught_148 (by rw [← e_v21]; rfl) ?_
      clear e_v21
      replace hf := mx_gd_el hf; obtain ⟨c22, hf⟩ := hf
      replace hf := mx_sv_el hf; obtain ⟨u23, e_u23, hf⟩ := hf
      refine sx_cv hm dX5_isCaught_149 rs_RX5_184 mt_X3_pairAt [.int v21] [.int l1, .ref l0] (b := v20) (ci := 3) rfl rfl rfl c22 (Nat.le_of_ble_eq_true rfl) (Nat.le_of_ble_eq_true rfl) (by omega) (by omega) (f_X3_pairAt_ok X (by omega) (by omega) nn v20 v21 h19 e_u23) ?_
      clear e_u23
      show mx_S X F L 180 152 [(5, .int s0), (0, .ref l0), (1, .int l1), (2, .int l2), (3, .int l3), (4, .int l4)] [.int u23.1, .int l1, .ref l0] u23.2 0 0 (some (.int r.1), r.2, 0, 0)
      refine mx_S.pu (pc2 := 153) (lv2 := [(5, .int s0), (0, .ref l0), (1, .int l1), (2, .int l2), (3, .int l3), (4, .int l4)]) (st2 := [.ref l0, .int u23.1, .int l1, .ref l0]) hm dX5_isCaught_152 rfl ?_
      replace hf := mx_sv_el hf; obtain ⟨v24, e_v24, hf⟩ := hf
      refine sx_get hm dX5_isCaught_153 rs_RX5_29 (xgr_el e_v24) ?_
      clear e_v24
      refine mx_S.pu (pc2 := 157) (lv2 := [(5, .int s0), (0, .ref l0), (1, .int l1), (2, .int l2), (3, .int l3), (4, .int l4)]) (st2 := [.ref l0, .ref v24, .int u23.1, .int l1, .ref l0]) hm dX5_isCaught_156 rfl ?_
      replace hf := mx_sv_el hf; obtain ⟨v25, e_v25, hf⟩ := hf
      refine sx_get hm dX5_isCaught_157 rs_RX5_97 (xgi_el e_v25) ?_
      clear e_v25
      replace hf := mx_sv_el hf; obtain ⟨v26, e_v26, hf⟩ := hf
      refine sx_ald hm dX5_isCaught_160 e_v26 ?_
      clear e_v26
      replace hf := xl_el hf; obtain ⟨v27, e_v27, hf⟩ := hf
      refine mx_S.pu (pc2 := 162) (lv2 := [(5, .int s0), (0, .ref l0), (1, .int l1), (2, .int l2), (3, .int l3), (4, .int l4)]) (st2 := [.int v27, .int l1, .ref l0]) hm dX5_isCaught_161 (by rw [← e_v27]; rfl) ?_
      clear e_v27
      replace hf := mx_gd_el hf; obtain ⟨c28, hf⟩ := hf
      replace hf := mx_sv_el hf; obtain ⟨u29, e_u29, hf⟩ := hf
      refine sx_cv hm dX5_isCaught_162 rs_RX5_145 mt_X5_give [.int l1, .int v27] [] (b := l0) (ci := 5) rfl rfl rfl c28 (Nat.le_of_ble_eq_true rfl) (Nat.le_of_ble_eq_true rfl) (by omega) (by omega) (f_X5_give_ok X (by omega) (by omega) nn l0 l1 v27 u23.2 e_u29) ?_
      clear e_u29
      show mx_S X F L 180 165 [(5, .int s0), (0, .ref l0), (1, .int l1), (2, .int l2), (3, .int l3), (4, .int l4)] [] u29 0 0 (some (.int r.1), r.2, 0, 0)
      refine sx_ic (v := 1) hm dX5_isCaught_165 (by decide) ?_
      cases hf
      exact sx_ire hm dX5_isCaught_166 rfl (by decide)
set_option maxHeartbeats 4000000 in
set_option maxRecDepth 20000 in
theorem j_X5_isCaught_88_ok (X : Nat × (Nat → Int32)) {F L : Nat} (hF : 2 ≤ F) (hL : 44 ≤ L) (nn : Nat) {kk_27 : Nat → Int32 → Int32 → Int32 → Int32 → mx_H → Option (Int32 × mx_H)} (hk_27 : ∀ (l0 : Nat) (l1 : Int32) (l2 : Int32) (l3 : Int32) (l4 : Int32) (h : mx_H) (r : (Int32 × mx_H)), kk_27 l0 l1 l2 l3 l4 h = some r → mx_S X F L 180 27 [(0, .ref l0), (1, .int l1), (2, .int l2), (3, .int l3), (4, .int l4)] [] h 0 0 (some (.int r.1), r.2, 0, 0)) (l0 : Nat) (l1 : Int32) (l2 : Int32) (l3 : Int32) (l4 : Int32) (h : mx_H) {r : (Int32 × mx_H)} (hf : j_X5_isCaught_88 nn kk_27 l0 l1 l2 l3 l4 h = some r) : mx_S X F L 180 88 [(0, .ref l0), (1, .int l1), (2, .int l2), (3, .int l3), (4, .int l4)] [] h 0 0 (some (.int r.1), r.2, 0, 0) := by
  have hm : mx_mt 180 = some (yX5_isCaught, cX5_isCaught, 6, (some .boolean)) := mt_X5_isCaught
  unfold j_X5_isCaught_88 at hf
  refine sx_ic (v := 0) hm dX5_isCaught_88 (by decide) ?_
  exact j_X5_isCaught_89_ok X hF hL nn hk_27 l0 l1 l2 l3 l4 0 h hf
set_option maxHeartbeats 4000000 in
set_option maxRecDepth 20000 in
theorem w_X5_isCaught_27_ok (X : Nat × (Nat → Int32)) {F L : Nat} (hF : 2 ≤ F) (hL : 44 ≤ L) (nn : Nat) : ∀ (k : Nat) (l0 : Nat) (l1 : Int32) (l2 : Int32) (l3 : Int32) (l4 : Int32) (h : mx_H) (r : (Int32 × mx_H)), w_X5_isCaught_27 nn k l0 l1 l2 l3 l4 h = some r → mx_S X F L 180 27 [(0, .ref l0), (1, .int l1), (2, .int l2), (3, .int l3), (4, .int l4)] [] h 0 0 (some (.int r.1), r.2, 0, 0) := by
  have hm : mx_mt 180 = some (yX5_isCaught, cX5_isCaught, 6, (some .boolean)) := mt_X5_isCaught
  intro k
  induction k with
  | zero => intro l0 l1 l2 l3 l4 h r hf; cases hf
  | succ k ih =>
    intro l0 l1 l2 l3 l4 h r hf
    unfold w_X5_isCaught_27 at hf
    refine mx_S.pu (pc2 := 29) (lv2 := [(0, .ref l0), (1, .int l1), (2, .int l2), (3, .int l3), (4, .int l4)]) (st2 := [.int l4]) hm dX5_isCaught_27 rfl ?_
    refine mx_S.pu (pc2 := 30) (lv2 := [(0, .ref l0), (1, .int l1), (2, .int l2), (3, .int l3), (4, .int l4)]) (st2 := [.ref l0, .int l4]) hm dX5_isCaught_29 rfl ?_
    replace hf := mx_sv_el hf; obtain ⟨v32, e_v32, hf⟩ := hf
    refine sx_get hm dX5_isCaught_30 rs_RX5_46 (xgr_el e_v32) ?_
    clear e_v32
    refine mx_S.pu (pc2 := 34) (lv2 := [(0, .ref l0), (1, .int l1), (2, .int l2), (3, .int l3), (4, .int l4)]) (st2 := [.int l2, .ref v32, .int l4]) hm dX5_isCaught_33 rfl ?_
    refine sx_bi (v := 7) hm dX5_isCaught_34 (by decide) ?_
    replace hf := mx_gd_el hf; obtain ⟨c33, hf⟩ := hf
    replace hf := mx_sv_el hf; obtain ⟨u34, e_u34, hf⟩ := hf
    refine sx_cv hm dX5_isCaught_36 rs_RX5_126 mt_X3_of [.int l2, .int 7] [.int l4] (b := v32) (ci := 3) rfl rfl rfl c33 (Nat.le_of_ble_eq_true rfl) (Nat.le_of_ble_eq_true rfl) (by omega) (by omega) (f_X3_of_ok X (by omega) (by omega) nn v32 l2 7 h e_u34) ?_
    clear e_u34
    show mx_S X F L 180 39 [(0, .ref l0), (1, .int l1), (2, .int l2), (3, .int l3), (4, .int l4)] [.int u34.1, .int l4] u34.2 0 0 (some (.int r.1), r.2, 0, 0)
    rcases mx_if_el hf with ⟨c50, hf⟩ | ⟨c50, hf⟩
    · refine sb_ic_ge hm dX5_isCaught_39 (tgt := 176) rfl (fun _ => ?_) (fun z => absurd c50 z)
      refine sx_ic (v := 0) hm dX5_isCaught_176 (by decide) ?_
      cases hf
      exact sx_ire hm dX5_isCaught_177 rfl (by decide)
    · refine sb_ic_ge hm dX5_isCaught_39 (tgt := 176) rfl (fun z => absurd z c50) (fun _ => ?_)
      refine mx_S.pu (pc2 := 43) (lv2 := [(0, .ref l0), (1, .int l1), (2, .int l2), (3, .int l3), (4, .int l4)]) (st2 := [.ref l0]) hm dX5_isCaught_42 rfl ?_
      replace hf := mx_sv_el hf; obtain ⟨v35, e_v35, hf⟩ := hf
      refine sx_get hm dX5_isCaught_43 rs_RX5_29 (xgr_el e_v35) ?_
      clear e_v35
      refine mx_S.pu (pc2 := 47) (lv2 := [(0, .ref l0), (1, .int l1), (2, .int l2), (3, .int l3), (4, .int l4)]) (st2 := [.ref l0, .ref v35]) hm dX5_isCaught_46 rfl ?_
      replace hf := mx_sv_el hf; obtain ⟨v36, e_v36, hf⟩ := hf
      refine sx_get hm dX5_isCaught_47 rs_RX5_97 (xgi_el e_v36) ?_
      clear e_v36
      replace hf := mx_sv_el hf; obtain ⟨v37, e_v37, hf⟩ := hf
      refine sx_ald hm dX5_isCaught_50 e_v37 ?_
      clear e_v37
      refine mx_S.pu (pc2 := 52) (lv2 := [(0, .ref l0), (1, .int l1), (2, .int l2), (3, .int l3), (4, .int l4)]) (st2 := [.ref l0, .int v37]) hm dX5_isCaught_51 rfl ?_
      replace hf := mx_sv_el hf; obtain ⟨v38, e_v38, hf⟩ := hf
      refine sx_get hm dX5_isCaught_52 rs_RX5_46 (xgr_el e_v38) ?_
      clear e_v38
      refine mx_S.pu (pc2 := 56) (lv2 := [(0, .ref l0), (1, .int l1), (2, .int l2), (3, .int l3), (4, .int l4)]) (st2 := [.int l3, .ref v38, .int v37]) hm dX5_isCaught_55 rfl ?_
      replace hf := mx_gd_el hf; obtain ⟨c39, hf⟩ := hf
      replace hf := mx_sv_el hf; obtain ⟨u40, e_u40, hf⟩ := hf
      refine sx_cv hm dX5_isCaught_56 rs_RX5_184 mt_X3_pairAt [.int l3] [.int v37] (b := v38) (ci := 3) rfl rfl rfl c39 (Nat.le_of_ble_eq_true rfl) (Nat.le_of_ble_eq_true rfl) (by omega) (by omega) (f_X3_pairAt_ok X (by omega) (by omega) nn v38 l3 u34.2 e_u40) ?_
      clear e_u40
      show mx_S X F L 180 59 [(0, .ref l0), (1, .int l1), (2, .int l2), (3, .int l3), (4, .int l4)] [.int u40.1, .int v37] u40.2 0 0 (some (.int r.1), r.2, 0, 0)
      rcases mx_if_el hf with ⟨c49, hf⟩ | ⟨c49, hf⟩
      · refine sb_ic_lt hm dX5_isCaught_59 (tgt := 88) rfl (fun _ => ?_) (fun z => absurd c49 z)
        exact j_X5_isCaught_88_ok X hF hL nn ih l0 l1 l2 l3 l4 u40.2 hf
      · refine sb_ic_lt hm dX5_isCaught_59 (tgt := 88) rfl (fun z => absurd z c49) (fun _ => ?_)
        refine mx_S.pu (pc2 := 63) (lv2 := [(0, .ref l0), (1, .int l1), (2, .int l2), (3, .int l3), (4, .int l4)]) (st2 := [.ref l0]) hm dX5_isCaught_62 rfl ?_
        replace hf := mx_sv_el hf; obtain ⟨v41, e_v41, hf⟩ := hf
        refine sx_get hm dX5_isCaught_63 rs_RX5_29 (xgr_el e_v41) ?_
        clear e_v41
        refine mx_S.pu (pc2 := 67) (lv2 := [(0, .ref l0), (1, .int l1), (2, .int l2), (3, .int l3), (4, .int l4)]) (st2 := [.ref l0, .ref v41]) hm dX5_isCaught_66 rfl ?_
        replace hf := mx_sv_el hf; obtain ⟨v42, e_v42, hf⟩ := hf
        refine sx_get hm dX5_isCaught_67 rs_RX5_97 (xgi_el e_v42) ?_
        clear e_v42
        replace hf := mx_sv_el hf; obtain ⟨v43, e_v43, hf⟩ := hf
        refine sx_ald hm dX5_isCaught_70 e_v43 ?_
        clear e_v43
        refine mx_S.pu (pc2 := 72) (lv2 := [(0, .ref l0), (1, .int l1), (2, .int l2), (3, .int l3), (4, .int l4)]) (st2 := [.ref l0, .int v43]) hm dX5_isCaught_71 rfl ?_
        replace hf := mx_sv_el hf; obtain ⟨v44, e_v44, hf⟩ := hf
        refine sx_get hm dX5_isCaught_72 rs_RX5_46 (xgr_el e_v44) ?_
        clear e_v44
        refine mx_S.pu (pc2 := 76) (lv2 := [(0, .ref l0), (1, .int l1), (2, .int l2), (3, .int l3), (4, .int l4)]) (st2 := [.int l3, .ref v44, .int v43]) hm dX5_isCaught_75 rfl ?_
        refine sx_ic (v := 2) hm dX5_isCaught_76 (by decide) ?_
        replace hf := xl_el hf; obtain ⟨v45, e_v45, hf⟩ := hf
        refine mx_S.pu (pc2 := 78) (lv2 := [(0, .ref l0), (1, .int l1), (2, .int l2), (3, .int l3), (4, .int l4)]) (st2 := [.int v45, .ref v44, .int v43]) hm dX5_isCaught_77 (by rw [← e_v45]; rfl) ?_
        clear e_v45
        replace hf := mx_gd_el hf; obtain ⟨c46, hf⟩ := hf
        replace hf := mx_sv_el hf; obtain ⟨u47, e_u47, hf⟩ := hf
        refine sx_cv hm dX5_isCaught_78 rs_RX5_184 mt_X3_pairAt [.int v45] [.int v43] (b := v44) (ci := 3) rfl rfl rfl c46 (Nat.le_of_ble_eq_true rfl) (Nat.le_of_ble_eq_true rfl) (by omega) (by omega) (f_X3_pairAt_ok X (by omega) (by omega) nn v44 v45 u40.2 e_u47) ?_
        clear e_u47
        show mx_S X F L 180 81 [(0, .ref l0), (1, .int l1), (2, .int l2), (3, .int l3), (4, .int l4)] [.int u47.1, .int v43] u47.2 0 0 (some (.int r.1), r.2, 0, 0)
        rcases mx_if_el hf with ⟨c48, hf⟩ | ⟨c48, hf⟩
        · refine sb_ic_ge hm dX5_isCaught_81 (tgt := 88) rfl (fun _ => ?_) (fun z => absurd c48 z)
          exact j_X5_isCaught_88_ok X hF hL nn ih l0 l1 l2 l3 l4 u47.2 hf
        · refine sb_ic_ge hm dX5_isCaught_81 (tgt := 88) rfl (fun z => absurd z c48) (fun _ => ?_)
          refine sx_ic (v := 1) hm dX5_isCaught_84 (by decide) ?_
          refine mx_S.pu (pc2 := 89) (lv2 := [(0, .ref l0), (1, .int l1), (2, .int l2), (3, .int l3), (4, .int l4)]) (st2 := [.int 1]) hm dX5_isCaught_85 rfl ?_
          exact j_X5_isCaught_89_ok X hF hL nn ih l0 l1 l2 l3 l4 1 u47.2 hf
set_option maxHeartbeats 4000000 in
set_option maxRecDepth 20000 in
theorem f_X5_isCaught_ok (X : Nat × (Nat → Int32)) {F L : Nat} (hF : 2 ≤ F) (hL : 44 ≤ L) (nn : Nat) (a0 : Nat) (a1 : Int32) (h : mx_H) {r : (Int32 × mx_H)} (hf : f_X5_isCaught nn a0 a1 h = some r) : mx_R X F L 180 [.ref a0, .int a1] h (some (.int r.1), r.2, 0, 0) := by
  have hm : mx_mt 180 = some (yX5_isCaught, cX5_isCaught, 6, (some .boolean)) := mt_X5_isCaught
  show mx_S X F L 180 0 [(0, .ref a0), (1, .int a1)] [] h 0 0 (some (.int r.1), r.2, 0, 0)
  unfold f_X5_isCaught at hf
  refine mx_S.pu (pc2 := 1) (lv2 := [(0, .ref a0), (1, .int a1)]) (st2 := [.ref a0]) hm dX5_isCaught_0 rfl ?_
  replace hf := mx_sv_el hf; obtain ⟨v51, e_v51, hf⟩ := hf
  refine sx_get hm dX5_isCaught_1 rs_RX5_26 (xgr_el e_v51) ?_
  clear e_v51
  refine mx_S.pu (pc2 := 5) (lv2 := [(0, .ref a0), (1, .int a1)]) (st2 := [.ref a0, .ref v51]) hm dX5_isCaught_4 rfl ?_
  replace hf := mx_sv_el hf; obtain ⟨v52, e_v52, hf⟩ := hf
  refine sx_get hm dX5_isCaught_5 rs_RX5_97 (xgi_el e_v52) ?_
  clear e_v52
  replace hf := mx_sv_el hf; obtain ⟨v53, e_v53, hf⟩ := hf
  refine sx_ald hm dX5_isCaught_8 e_v53 ?_
  clear e_v53
  refine sx_bi (v := 12) hm dX5_isCaught_9 (by decide) ?_
  replace hf := xl_el hf; obtain ⟨v54, e_v54, hf⟩ := hf
  refine sx_irem (v := v54) hm dX5_isCaught_11 (by decide) e_v54 ?_
  clear e_v54
  refine mx_S.pu (pc2 := 13) (lv2 := [(2, .int v54), (0, .ref a0), (1, .int a1)]) (st2 := []) hm dX5_isCaught_12 rfl ?_
  refine mx_S.pu (pc2 := 14) (lv2 := [(2, .int v54), (0, .ref a0), (1, .int a1)]) (st2 := [.ref a0]) hm dX5_isCaught_13 rfl ?_
  replace hf := mx_sv_el hf; obtain ⟨v55, e_v55, hf⟩ := hf
  refine sx_get hm dX5_isCaught_14 rs_RX5_46 (xgr_el e_v55) ?_
  clear e_v55
  refine mx_S.pu (pc2 := 18) (lv2 := [(2, .int v54), (0, .ref a0), (1, .int a1)]) (st2 := [.int v54, .ref v55]) hm dX5_isCaught_17 rfl ?_
  refine sx_bi (v := 8) hm dX5_isCaught_18 (by decide) ?_
  replace hf := mx_gd_el hf; obtain ⟨c56, hf⟩ := hf
  replace hf := mx_sv_el hf; obtain ⟨u57, e_u57, hf⟩ := hf
  refine sx_cv hm dX5_isCaught_20 rs_RX5_126 mt_X3_of [.int v54, .int 8] [] (b := v55) (ci := 3) rfl rfl rfl c56 (Nat.le_of_ble_eq_true rfl) (Nat.le_of_ble_eq_true rfl) (by omega) (by omega) (f_X3_of_ok X (by omega) (by omega) nn v55 v54 8 h e_u57) ?_
  clear e_u57
  show mx_S X F L 180 23 [(2, .int v54), (0, .ref a0), (1, .int a1)] [.int u57.1] u57.2 0 0 (some (.int r.1), r.2, 0, 0)
  refine mx_S.pu (pc2 := 24) (lv2 := [(3, .int u57.1), (2, .int v54), (0, .ref a0), (1, .int a1)]) (st2 := []) hm dX5_isCaught_23 rfl ?_
  refine sx_ic (v := 0) hm dX5_isCaught_24 (by decide) ?_
  refine mx_S.pu (pc2 := 27) (lv2 := [(4, .int 0), (3, .int u57.1), (2, .int v54), (0, .ref a0), (1, .int a1)]) (st2 := []) hm dX5_isCaught_25 rfl ?_
  refine mx_S.ext [(0, .ref a0), (1, .int a1), (2, .int v54), (3, .int u57.1), (4, .int 0)] (mx_sub_pos [3, 4, 2, 1, 0] rfl (show ([4, 3, 2, 0, 1] : List Nat).Nodup by decide)) ?_
  exact w_X5_isCaught_27_ok X hF hL nn nn a0 a1 v54 u57.1 0 u57.2 _ hf
set_option maxHeartbeats 4000000 in
set_option maxRecDepth 20000 in
theorem j_X5_throwUp_59_ok (X : Nat × (Nat → Int32)) {F L : Nat} (hF : 3 ≤ F) (hL : 81 ≤ L) (nn : Nat) (l0 : Nat) (l1 : Int32) (h : mx_H) {r : mx_H} (hf : j_X5_throwUp_59 nn l0 l1 h = some r) : mx_S X F L 179 59 [(0, .ref l0), (1, .int l1)] [] h 0 0 (none, r, 0, 0) := by
  have hm : mx_mt 179 = some (yX5_throwUp, cX5_throwUp, 3, none) := mt_X5_throwUp
  unfold j_X5_throwUp_59 at hf
  refine mx_S.pu (pc2 := 60) (lv2 := [(0, .ref l0), (1, .int l1)]) (st2 := [.ref l0]) hm dX5_throwUp_59 rfl ?_
  refine sx_ic (v := 3) hm dX5_throwUp_60 (by decide) ?_
  replace hf := mx_sv_el hf; obtain ⟨h1, e_h1, hf⟩ := hf
  refine sx_put hm dX5_throwUp_61 rs_RX5_54 ft_5_1 ⟨rfl, rfl⟩ (fun z => by cases z) e_h1 ?_
  clear e_h1
  refine mx_S.pu (pc2 := 65) (lv2 := [(0, .ref l0), (1, .int l1)]) (st2 := [.ref l0]) hm dX5_throwUp_64 rfl ?_
  refine mx_S.pu (pc2 := 66) (lv2 := [(0, .ref l0), (1, .int l1)]) (st2 := [.ref l0, .ref l0]) hm dX5_throwUp_65 rfl ?_
  replace hf := mx_sv_el hf; obtain ⟨v2, e_v2, hf⟩ := hf
  refine sx_get hm dX5_throwUp_66 rs_RX5_17 (xgr_el e_v2) ?_
  clear e_v2
  refine mx_S.pu (pc2 := 70) (lv2 := [(0, .ref l0), (1, .int l1)]) (st2 := [.int l1, .ref v2, .ref l0]) hm dX5_throwUp_69 rfl ?_
  replace hf := mx_sv_el hf; obtain ⟨v3, e_v3, hf⟩ := hf
  refine sx_ald hm dX5_throwUp_70 e_v3 ?_
  clear e_v3
  replace hf := mx_sv_el hf; obtain ⟨h4, e_h4, hf⟩ := hf
  refine sx_put hm dX5_throwUp_71 rs_RX5_50 ft_5_2 ⟨rfl, rfl⟩ (fun z => by cases z) e_h4 ?_
  clear e_h4
  cases hf
  exact sx_ret hm dX5_throwUp_74 rfl
set_option maxHeartbeats 4000000 in
set_option maxRecDepth 20000 in
theorem w_X5_throwUp_17_ok (X : Nat × (Nat → Int32)) {F L : Nat} (hF : 3 ≤ F) (hL : 81 ≤ L) (nn : Nat) : ∀ (k : Nat) (l0 : Nat) (l1 : Int32) (l2 : Int32) (h : mx_H) (r : mx_H), w_X5_throwUp_17 nn k l0 l1 l2 h = some r → mx_S X F L 179 17 [(0, .ref l0), (1, .int l1), (2, .int l2)] [] h 0 0 (none, r, 0, 0) := by
  have hm : mx_mt 179 = some (yX5_throwUp, cX5_throwUp, 3, none) := mt_X5_throwUp
  intro k
  induction k with
  | zero => intro l0 l1 l2 h r hf; cases hf
  | succ k ih =>
    intro l0 l1 l2 h r hf
    unfold w_X5_throwUp_17 at hf
    refine mx_S.pu (pc2 := 18) (lv2 := [(0, .ref l0), (1, .int l1), (2, .int l2)]) (st2 := [.int l2]) hm dX5_throwUp_17 rfl ?_
    refine sx_bi (v := 60) hm dX5_throwUp_18 (by decide) ?_
    rcases mx_if_el hf with ⟨c16, hf⟩ | ⟨c16, hf⟩
    · refine sb_ic_ge hm dX5_throwUp_20 (tgt := 59) rfl (fun _ => ?_) (fun z => absurd c16 z)
      refine mx_S.ext [(0, .ref l0), (1, .int l1)] (mx_sub_pos [0, 1] rfl (show ([0, 1, 2] : List Nat).Nodup by decide)) ?_
      exact j_X5_throwUp_59_ok X hF hL nn l0 l1 h hf
    · refine sb_ic_ge hm dX5_throwUp_20 (tgt := 59) rfl (fun z => absurd z c16) (fun _ => ?_)
      refine mx_S.pu (pc2 := 24) (lv2 := [(0, .ref l0), (1, .int l1), (2, .int l2)]) (st2 := [.ref l0]) hm dX5_throwUp_23 rfl ?_
      replace hf := mx_sv_el hf; obtain ⟨v5, e_v5, hf⟩ := hf
      refine sx_get hm dX5_throwUp_24 rs_RX5_66 (xgi_el e_v5) ?_
      clear e_v5
      rcases mx_if_el hf with ⟨c15, hf⟩ | ⟨c15, hf⟩
      · refine sb_if_le hm dX5_throwUp_27 (tgt := 59) rfl (fun _ => ?_) (fun z => absurd c15 z)
        refine mx_S.ext [(0, .ref l0), (1, .int l1)] (mx_sub_pos [0, 1] rfl (show ([0, 1, 2] : List Nat).Nodup by decide)) ?_
        exact j_X5_throwUp_59_ok X hF hL nn l0 l1 h hf
      · refine sb_if_le hm dX5_throwUp_27 (tgt := 59) rfl (fun z => absurd z c15) (fun _ => ?_)
        refine mx_S.pu (pc2 := 31) (lv2 := [(0, .ref l0), (1, .int l1), (2, .int l2)]) (st2 := [.ref l0]) hm dX5_throwUp_30 rfl ?_
        replace hf := mx_gd_el hf; obtain ⟨c6, hf⟩ := hf
        replace hf := mx_sv_el hf; obtain ⟨u7, e_u7, hf⟩ := hf
        refine sx_cv hm dX5_throwUp_31 rs_RX5_112 mt_X5_takeTop [] [] (b := l0) (ci := 5) rfl rfl rfl c6 (Nat.le_of_ble_eq_true rfl) (Nat.le_of_ble_eq_true rfl) (by omega) (by omega) (f_X5_takeTop_ok X (by omega) (by omega) nn l0 h e_u7) ?_
        clear e_u7
        show mx_S X F L 179 34 [(0, .ref l0), (1, .int l1), (2, .int l2)] [] u7 0 0 (none, r, 0, 0)
        refine mx_S.pu (pc2 := 35) (lv2 := [(0, .ref l0), (1, .int l1), (2, .int l2)]) (st2 := [.ref l0]) hm dX5_throwUp_34 rfl ?_
        refine mx_S.pu (pc2 := 36) (lv2 := [(0, .ref l0), (1, .int l1), (2, .int l2)]) (st2 := [.int l1, .ref l0]) hm dX5_throwUp_35 rfl ?_
        replace hf := mx_gd_el hf; obtain ⟨c8, hf⟩ := hf
        replace hf := mx_sv_el hf; obtain ⟨u9, e_u9, hf⟩ := hf
        refine sx_cv hm dX5_throwUp_36 rs_RX5_249 mt_X5_isCaught [.int l1] [] (b := l0) (ci := 5) rfl rfl rfl c8 (Nat.le_of_ble_eq_true rfl) (Nat.le_of_ble_eq_true rfl) (by omega) (by omega) (f_X5_isCaught_ok X (by omega) (by omega) nn l0 l1 u7 e_u9) ?_
        clear e_u9
        show mx_S X F L 179 39 [(0, .ref l0), (1, .int l1), (2, .int l2)] [.int u9.1] u9.2 0 0 (none, r, 0, 0)
        rcases mx_if_el hf with ⟨c14, hf⟩ | ⟨c14, hf⟩
        · refine sb_if_eq hm dX5_throwUp_39 (tgt := 43) rfl (fun _ => ?_) (fun z => absurd c14 z)
          refine mx_S.pu (pc2 := 44) (lv2 := [(0, .ref l0), (1, .int l1), (2, .int l2)]) (st2 := [.ref l0]) hm dX5_throwUp_43 rfl ?_
          refine mx_S.pu (pc2 := 45) (lv2 := [(0, .ref l0), (1, .int l1), (2, .int l2)]) (st2 := [.ref l0, .ref l0]) hm dX5_throwUp_44 rfl ?_
          replace hf := mx_sv_el hf; obtain ⟨v10, e_v10, hf⟩ := hf
          refine sx_get hm dX5_throwUp_45 rs_RX5_66 (xgi_el e_v10) ?_
          clear e_v10
          refine sx_ic (v := 1) hm dX5_throwUp_48 (by decide) ?_
          replace hf := xl_el hf; obtain ⟨v11, e_v11, hf⟩ := hf
          refine mx_S.pu (pc2 := 50) (lv2 := [(0, .ref l0), (1, .int l1), (2, .int l2)]) (st2 := [.int v11, .ref l0]) hm dX5_throwUp_49 (by rw [← e_v11]; rfl) ?_
          clear e_v11
          replace hf := mx_sv_el hf; obtain ⟨h12, e_h12, hf⟩ := hf
          refine sx_put hm dX5_throwUp_50 rs_RX5_66 ft_5_6 ⟨rfl, rfl⟩ (fun z => by cases z) e_h12 ?_
          clear e_h12
          replace hf := xl_el hf; obtain ⟨v13, e_v13, hf⟩ := hf
          refine mx_S.pu (pc2 := 56) (lv2 := [(2, .int v13), (0, .ref l0), (1, .int l1)]) (st2 := []) hm dX5_throwUp_53 (by rw [← e_v13]; rfl) ?_
          clear e_v13
          refine mx_S.pu (pc2 := 17) (lv2 := [(2, .int v13), (0, .ref l0), (1, .int l1)]) (st2 := []) hm dX5_throwUp_56 rfl ?_
          refine mx_S.ext [(0, .ref l0), (1, .int l1), (2, .int v13)] (mx_sub_pos [1, 2, 0] rfl (show ([2, 0, 1] : List Nat).Nodup by decide)) ?_
          exact ih l0 l1 v13 h12 _ hf
        · refine sb_if_eq hm dX5_throwUp_39 (tgt := 43) rfl (fun z => absurd z c14) (fun _ => ?_)
          cases hf
          exact sx_ret hm dX5_throwUp_42 rfl
set_option maxHeartbeats 4000000 in
set_option maxRecDepth 20000 in
theorem f_X5_throwUp_ok (X : Nat × (Nat → Int32)) {F L : Nat} (hF : 3 ≤ F) (hL : 81 ≤ L) (nn : Nat) (a0 : Nat) (a1 : Int32) (h : mx_H) {r : mx_H} (hf : f_X5_throwUp nn a0 a1 h = some r) : mx_R X F L 179 [.ref a0, .int a1] h (none, r, 0, 0) := by
  have hm : mx_mt 179 = some (yX5_throwUp, cX5_throwUp, 3, none) := mt_X5_throwUp
  show mx_S X F L 179 0 [(0, .ref a0), (1, .int a1)] [] h 0 0 (none, r, 0, 0)
  unfold f_X5_throwUp at hf
  refine mx_S.pu (pc2 := 1) (lv2 := [(0, .ref a0), (1, .int a1)]) (st2 := [.ref a0]) hm dX5_throwUp_0 rfl ?_
  refine mx_S.pu (pc2 := 2) (lv2 := [(0, .ref a0), (1, .int a1)]) (st2 := [.int a1, .ref a0]) hm dX5_throwUp_1 rfl ?_
  replace hf := mx_gd_el hf; obtain ⟨c17, hf⟩ := hf
  replace hf := mx_sv_el hf; obtain ⟨u18, e_u18, hf⟩ := hf
  refine sx_cv hm dX5_throwUp_2 rs_RX5_226 mt_X5_isObject [.int a1] [] (b := a0) (ci := 5) rfl rfl rfl c17 (Nat.le_of_ble_eq_true rfl) (Nat.le_of_ble_eq_true rfl) (by omega) (by omega) (f_X5_isObject_ok X (by omega) (by omega) nn a0 a1 h e_u18) ?_
  clear e_u18
  show mx_S X F L 179 5 [(0, .ref a0), (1, .int a1)] [.int u18.1] u18.2 0 0 (none, r, 0, 0)
  rcases mx_if_el hf with ⟨c20, hf⟩ | ⟨c20, hf⟩
  · refine sb_if_ne hm dX5_throwUp_5 (tgt := 15) rfl (fun _ => ?_) (fun z => absurd c20 z)
    refine sx_ic (v := 0) hm dX5_throwUp_15 (by decide) ?_
    refine mx_S.pu (pc2 := 17) (lv2 := [(2, .int 0), (0, .ref a0), (1, .int a1)]) (st2 := []) hm dX5_throwUp_16 rfl ?_
    refine mx_S.ext [(0, .ref a0), (1, .int a1), (2, .int 0)] (mx_sub_pos [1, 2, 0] rfl (show ([2, 0, 1] : List Nat).Nodup by decide)) ?_
    exact w_X5_throwUp_17_ok X hF hL nn nn a0 a1 0 u18.2 _ hf
  · refine sb_if_ne hm dX5_throwUp_5 (tgt := 15) rfl (fun z => absurd z c20) (fun _ => ?_)
    refine mx_S.pu (pc2 := 9) (lv2 := [(0, .ref a0), (1, .int a1)]) (st2 := [.ref a0]) hm dX5_throwUp_8 rfl ?_
    refine sx_bi (v := 6) hm dX5_throwUp_9 (by decide) ?_
    replace hf := mx_sv_el hf; obtain ⟨h19, e_h19, hf⟩ := hf
    refine sx_put hm dX5_throwUp_11 rs_RX5_54 ft_5_1 ⟨rfl, rfl⟩ (fun z => by cases z) e_h19 ?_
    clear e_h19
    cases hf
    exact sx_ret hm dX5_throwUp_14 rfl
set_option maxHeartbeats 4000000 in
set_option maxRecDepth 20000 in
theorem j_X5_go_66_ok (X : Nat × (Nat → Int32)) {F L : Nat} (hF : 7 ≤ F) (hL : 178 ≤ L) (nn : Nat) (l0 : Nat) (l2 : Int32) (h : mx_H) {r : (Int32 × mx_H)} (hf : j_X5_go_66 nn l0 l2 h = some r) : mx_S X F L 145 66 [(0, .ref l0), (2, .int l2)] [] h 0 0 (some (.int r.1), r.2, 0, 0) := by
  have hm : mx_mt 145 = some (yX5_go, cX5_go, 3, (some .int)) := mt_X5_go
  unfold j_X5_go_66 at hf
  refine mx_S.pu (pc2 := 67) (lv2 := [(0, .ref l0), (2, .int l2)]) (st2 := [.ref l0]) hm dX5_go_66 rfl ?_
  refine mx_S.pu (pc2 := 68) (lv2 := [(0, .ref l0), (2, .int l2)]) (st2 := [.ref l0, .ref l0]) hm dX5_go_67 rfl ?_
  replace hf := mx_sv_el hf; obtain ⟨v1, e_v1, hf⟩ := hf
  refine sx_get hm dX5_go_68 rs_RX5_57 (xgi_el e_v1) ?_
  clear e_v1
  refine mx_S.pu (pc2 := 72) (lv2 := [(0, .ref l0), (2, .int l2)]) (st2 := [.int l2, .int v1, .ref l0]) hm dX5_go_71 rfl ?_
  replace hf := xl_el hf; obtain ⟨v2, e_v2, hf⟩ := hf
  refine mx_S.pu (pc2 := 73) (lv2 := [(0, .ref l0), (2, .int l2)]) (st2 := [.int v2, .ref l0]) hm dX5_go_72 (by rw [← e_v2]; rfl) ?_
  clear e_v2
  replace hf := mx_sv_el hf; obtain ⟨h3, e_h3, hf⟩ := hf
  refine sx_put hm dX5_go_73 rs_RX5_57 ft_5_3 ⟨rfl, rfl⟩ (fun z => by cases z) e_h3 ?_
  clear e_h3
  refine mx_S.pu (pc2 := 77) (lv2 := [(0, .ref l0), (2, .int l2)]) (st2 := [.int l2]) hm dX5_go_76 rfl ?_
  cases hf
  exact sx_ire hm dX5_go_77 rfl rfl
set_option maxHeartbeats 4000000 in
set_option maxRecDepth 20000 in
theorem j_X5_go_55_ok (X : Nat × (Nat → Int32)) {F L : Nat} (hF : 7 ≤ F) (hL : 178 ≤ L) (nn : Nat) {kk_2 : Nat → Int32 → Int32 → mx_H → Option (Int32 × mx_H)} (hk_2 : ∀ (l0 : Nat) (l1 : Int32) (l2 : Int32) (h : mx_H) (r : (Int32 × mx_H)), kk_2 l0 l1 l2 h = some r → mx_S X F L 145 2 [(0, .ref l0), (1, .int l1), (2, .int l2)] [] h 0 0 (some (.int r.1), r.2, 0, 0)) (l0 : Nat) (l1 : Int32) (l2 : Int32) (h : mx_H) {r : (Int32 × mx_H)} (hf : j_X5_go_55 nn kk_2 l0 l1 l2 h = some r) : mx_S X F L 145 55 [(0, .ref l0), (1, .int l1), (2, .int l2)] [] h 0 0 (some (.int r.1), r.2, 0, 0) := by
  have hm : mx_mt 145 = some (yX5_go, cX5_go, 3, (some .int)) := mt_X5_go
  unfold j_X5_go_55 at hf
  refine mx_S.pu (pc2 := 56) (lv2 := [(0, .ref l0), (1, .int l1), (2, .int l2)]) (st2 := [.ref l0]) hm dX5_go_55 rfl ?_
  refine sx_ic (v := 0) hm dX5_go_56 (by decide) ?_
  replace hf := mx_sv_el hf; obtain ⟨h4, e_h4, hf⟩ := hf
  refine sx_put hm dX5_go_57 rs_RX5_86 ft_5_20 ⟨rfl, rfl⟩ (fun z => by cases z) e_h4 ?_
  clear e_h4
  replace hf := xl_el hf; obtain ⟨v5, e_v5, hf⟩ := hf
  refine mx_S.pu (pc2 := 63) (lv2 := [(2, .int v5), (0, .ref l0), (1, .int l1)]) (st2 := []) hm dX5_go_60 (by rw [← e_v5]; rfl) ?_
  clear e_v5
  refine mx_S.pu (pc2 := 2) (lv2 := [(2, .int v5), (0, .ref l0), (1, .int l1)]) (st2 := []) hm dX5_go_63 rfl ?_
  refine mx_S.ext [(0, .ref l0), (1, .int l1), (2, .int v5)] (mx_sub_pos [1, 2, 0] rfl (show ([2, 0, 1] : List Nat).Nodup by decide)) ?_
  exact hk_2 l0 l1 v5 h4 _ hf
set_option maxHeartbeats 4000000 in
set_option maxRecDepth 20000 in
theorem j_X5_go_40_ok (X : Nat × (Nat → Int32)) {F L : Nat} (hF : 7 ≤ F) (hL : 178 ≤ L) (nn : Nat) {kk_2 : Nat → Int32 → Int32 → mx_H → Option (Int32 × mx_H)} (hk_2 : ∀ (l0 : Nat) (l1 : Int32) (l2 : Int32) (h : mx_H) (r : (Int32 × mx_H)), kk_2 l0 l1 l2 h = some r → mx_S X F L 145 2 [(0, .ref l0), (1, .int l1), (2, .int l2)] [] h 0 0 (some (.int r.1), r.2, 0, 0)) (l0 : Nat) (l1 : Int32) (l2 : Int32) (h : mx_H) {r : (Int32 × mx_H)} (hf : j_X5_go_40 nn kk_2 l0 l1 l2 h = some r) : mx_S X F L 145 40 [(0, .ref l0), (1, .int l1), (2, .int l2)] [] h 0 0 (some (.int r.1), r.2, 0, 0) := by
  have hm : mx_mt 145 = some (yX5_go, cX5_go, 3, (some .int)) := mt_X5_go
  unfold j_X5_go_40 at hf
  refine mx_S.pu (pc2 := 41) (lv2 := [(0, .ref l0), (1, .int l1), (2, .int l2)]) (st2 := [.ref l0]) hm dX5_go_40 rfl ?_
  replace hf := mx_sv_el hf; obtain ⟨v6, e_v6, hf⟩ := hf
  refine sx_get hm dX5_go_41 rs_RX5_86 (xgi_el e_v6) ?_
  clear e_v6
  rcases mx_if_el hf with ⟨c10, hf⟩ | ⟨c10, hf⟩
  · refine sb_if_le hm dX5_go_44 (tgt := 55) rfl (fun _ => ?_) (fun z => absurd c10 z)
    exact j_X5_go_55_ok X hF hL nn hk_2 l0 l1 l2 h hf
  · refine sb_if_le hm dX5_go_44 (tgt := 55) rfl (fun z => absurd z c10) (fun _ => ?_)
    refine mx_S.pu (pc2 := 48) (lv2 := [(0, .ref l0), (1, .int l1), (2, .int l2)]) (st2 := [.ref l0]) hm dX5_go_47 rfl ?_
    refine mx_S.pu (pc2 := 49) (lv2 := [(0, .ref l0), (1, .int l1), (2, .int l2)]) (st2 := [.ref l0, .ref l0]) hm dX5_go_48 rfl ?_
    replace hf := mx_sv_el hf; obtain ⟨v7, e_v7, hf⟩ := hf
    refine sx_get hm dX5_go_49 rs_RX5_86 (xgi_el e_v7) ?_
    clear e_v7
    replace hf := mx_gd_el hf; obtain ⟨c8, hf⟩ := hf
    replace hf := mx_sv_el hf; obtain ⟨u9, e_u9, hf⟩ := hf
    refine sx_cv hm dX5_go_52 rs_RX5_93 mt_X5_throwUp [.int v7] [] (b := l0) (ci := 5) rfl rfl rfl c8 (Nat.le_of_ble_eq_true rfl) (Nat.le_of_ble_eq_true rfl) (by omega) (by omega) (f_X5_throwUp_ok X (by omega) (by omega) nn l0 v7 h e_u9) ?_
    clear e_u9
    show mx_S X F L 145 55 [(0, .ref l0), (1, .int l1), (2, .int l2)] [] u9 0 0 (some (.int r.1), r.2, 0, 0)
    exact j_X5_go_55_ok X hF hL nn hk_2 l0 l1 l2 u9 hf
set_option maxHeartbeats 4000000 in
set_option maxRecDepth 20000 in
theorem w_X5_go_2_ok (X : Nat × (Nat → Int32)) {F L : Nat} (hF : 7 ≤ F) (hL : 178 ≤ L) (nn : Nat) : ∀ (k : Nat) (l0 : Nat) (l1 : Int32) (l2 : Int32) (h : mx_H) (r : (Int32 × mx_H)), w_X5_go_2 nn k l0 l1 l2 h = some r → mx_S X F L 145 2 [(0, .ref l0), (1, .int l1), (2, .int l2)] [] h 0 0 (some (.int r.1), r.2, 0, 0) := by
  have hm : mx_mt 145 = some (yX5_go, cX5_go, 3, (some .int)) := mt_X5_go
  intro k
  induction k with
  | zero => intro l0 l1 l2 h r hf; cases hf
  | succ k ih =>
    intro l0 l1 l2 h r hf
    unfold w_X5_go_2 at hf
    refine mx_S.pu (pc2 := 3) (lv2 := [(0, .ref l0), (1, .int l1), (2, .int l2)]) (st2 := [.int l2]) hm dX5_go_2 rfl ?_
    refine mx_S.pu (pc2 := 4) (lv2 := [(0, .ref l0), (1, .int l1), (2, .int l2)]) (st2 := [.int l1, .int l2]) hm dX5_go_3 rfl ?_
    rcases mx_if_el hf with ⟨c22, hf⟩ | ⟨c22, hf⟩
    · refine sb_ic_ge hm dX5_go_4 (tgt := 66) rfl (fun _ => ?_) (fun z => absurd c22 z)
      refine mx_S.ext [(0, .ref l0), (2, .int l2)] (mx_sub_pos [0, 2] rfl (show ([0, 1, 2] : List Nat).Nodup by decide)) ?_
      exact j_X5_go_66_ok X hF hL nn l0 l2 h hf
    · refine sb_ic_ge hm dX5_go_4 (tgt := 66) rfl (fun z => absurd z c22) (fun _ => ?_)
      refine mx_S.pu (pc2 := 8) (lv2 := [(0, .ref l0), (1, .int l1), (2, .int l2)]) (st2 := [.ref l0]) hm dX5_go_7 rfl ?_
      replace hf := mx_sv_el hf; obtain ⟨v11, e_v11, hf⟩ := hf
      refine sx_get hm dX5_go_8 rs_RX5_54 (xgi_el e_v11) ?_
      clear e_v11
      refine sx_ic (v := 1) hm dX5_go_11 (by decide) ?_
      rcases mx_if_el hf with ⟨c21, hf⟩ | ⟨c21, hf⟩
      · refine sb_ic_ne hm dX5_go_12 (tgt := 66) rfl (fun _ => ?_) (fun z => absurd c21 z)
        refine mx_S.ext [(0, .ref l0), (2, .int l2)] (mx_sub_pos [0, 2] rfl (show ([0, 1, 2] : List Nat).Nodup by decide)) ?_
        exact j_X5_go_66_ok X hF hL nn l0 l2 h hf
      · refine sb_ic_ne hm dX5_go_12 (tgt := 66) rfl (fun z => absurd z c21) (fun _ => ?_)
        refine mx_S.pu (pc2 := 16) (lv2 := [(0, .ref l0), (1, .int l1), (2, .int l2)]) (st2 := [.ref l0]) hm dX5_go_15 rfl ?_
        replace hf := mx_gd_el hf; obtain ⟨c12, hf⟩ := hf
        replace hf := mx_sv_el hf; obtain ⟨u13, e_u13, hf⟩ := hf
        refine sx_cv hm dX5_go_16 rs_RX5_83 mt_X5_step [] [] (b := l0) (ci := 5) rfl rfl rfl c12 (Nat.le_of_ble_eq_true rfl) (Nat.le_of_ble_eq_true rfl) (by omega) (by omega) (f_X5_step_ok X (by omega) (by omega) nn l0 h e_u13) ?_
        clear e_u13
        show mx_S X F L 145 19 [(0, .ref l0), (1, .int l1), (2, .int l2)] [] u13 0 0 (some (.int r.1), r.2, 0, 0)
        refine mx_S.pu (pc2 := 20) (lv2 := [(0, .ref l0), (1, .int l1), (2, .int l2)]) (st2 := [.ref l0]) hm dX5_go_19 rfl ?_
        replace hf := mx_sv_el hf; obtain ⟨v14, e_v14, hf⟩ := hf
        refine sx_get hm dX5_go_20 rs_RX5_86 (xgi_el e_v14) ?_
        clear e_v14
        rcases mx_if_el hf with ⟨c20, hf⟩ | ⟨c20, hf⟩
        · refine sb_if_ge hm dX5_go_23 (tgt := 40) rfl (fun _ => ?_) (fun z => absurd c20 z)
          exact j_X5_go_40_ok X hF hL nn ih l0 l1 l2 u13 hf
        · refine sb_if_ge hm dX5_go_23 (tgt := 40) rfl (fun z => absurd z c20) (fun _ => ?_)
          refine mx_S.pu (pc2 := 27) (lv2 := [(0, .ref l0), (1, .int l1), (2, .int l2)]) (st2 := [.ref l0]) hm dX5_go_26 rfl ?_
          refine mx_S.pu (pc2 := 28) (lv2 := [(0, .ref l0), (1, .int l1), (2, .int l2)]) (st2 := [.ref l0, .ref l0]) hm dX5_go_27 rfl ?_
          refine mx_S.pu (pc2 := 29) (lv2 := [(0, .ref l0), (1, .int l1), (2, .int l2)]) (st2 := [.ref l0, .ref l0, .ref l0]) hm dX5_go_28 rfl ?_
          replace hf := mx_sv_el hf; obtain ⟨v15, e_v15, hf⟩ := hf
          refine sx_get hm dX5_go_29 rs_RX5_86 (xgi_el e_v15) ?_
          clear e_v15
          replace hf := xl_el hf; obtain ⟨v16, e_v16, hf⟩ := hf
          refine mx_S.pu (pc2 := 33) (lv2 := [(0, .ref l0), (1, .int l1), (2, .int l2)]) (st2 := [.int v16, .ref l0, .ref l0]) hm dX5_go_32 (by rw [← e_v16]; rfl) ?_
          clear e_v16
          refine sx_ic (v := 0) hm dX5_go_33 (by decide) ?_
          replace hf := mx_gd_el hf; obtain ⟨c17, hf⟩ := hf
          replace hf := mx_sv_el hf; obtain ⟨u18, e_u18, hf⟩ := hf
          refine sx_cv hm dX5_go_34 rs_RX5_89 mt_X5_make [.int v16, .int 0] [.ref l0] (b := l0) (ci := 5) rfl rfl rfl c17 (Nat.le_of_ble_eq_true rfl) (Nat.le_of_ble_eq_true rfl) (by omega) (by omega) (f_X5_make_ok X (by omega) (by omega) nn l0 v16 0 u13 e_u18) ?_
          clear e_u18
          show mx_S X F L 145 37 [(0, .ref l0), (1, .int l1), (2, .int l2)] [.int u18.1, .ref l0] u18.2 0 0 (some (.int r.1), r.2, 0, 0)
          replace hf := mx_sv_el hf; obtain ⟨h19, e_h19, hf⟩ := hf
          refine sx_put hm dX5_go_37 rs_RX5_86 ft_5_20 ⟨rfl, rfl⟩ (fun z => by cases z) e_h19 ?_
          clear e_h19
          exact j_X5_go_40_ok X hF hL nn ih l0 l1 l2 h19 hf
set_option maxHeartbeats 4000000 in
set_option maxRecDepth 20000 in
theorem f_X5_go_ok (X : Nat × (Nat → Int32)) {F L : Nat} (hF : 7 ≤ F) (hL : 178 ≤ L) (nn : Nat) (a0 : Nat) (a1 : Int32) (h : mx_H) {r : (Int32 × mx_H)} (hf : f_X5_go nn a0 a1 h = some r) : mx_R X F L 145 [.ref a0, .int a1] h (some (.int r.1), r.2, 0, 0) := by
  have hm : mx_mt 145 = some (yX5_go, cX5_go, 3, (some .int)) := mt_X5_go
  show mx_S X F L 145 0 [(0, .ref a0), (1, .int a1)] [] h 0 0 (some (.int r.1), r.2, 0, 0)
  unfold f_X5_go at hf
  refine sx_ic (v := 0) hm dX5_go_0 (by decide) ?_
  refine mx_S.pu (pc2 := 2) (lv2 := [(2, .int 0), (0, .ref a0), (1, .int a1)]) (st2 := []) hm dX5_go_1 rfl ?_
  refine mx_S.ext [(0, .ref a0), (1, .int a1), (2, .int 0)] (mx_sub_pos [1, 2, 0] rfl (show ([2, 0, 1] : List Nat).Nodup by decide)) ?_
  exact w_X5_go_2_ok X hF hL nn nn a0 a1 0 h _ hf
set_option maxHeartbeats 4000000 in
set_option maxRecDepth 20000 in
theorem f_X12_run_ok (X : Nat × (Nat → Int32)) {F L : Nat} (hF : 8 ≤ F) (hL : 200 ≤ L) (nn : Nat) (a0 : Nat) (a1 : Int32) (h : mx_H) {r : (Int32 × mx_H)} (hf : f_X12_run nn a0 a1 h = some r) : mx_R X F L 375 [.ref a0, .int a1] h (some (.int r.1), r.2, 0, 0) := by
  have hm : mx_mt 375 = some (yX12_run, cX12_run, 2, (some .int)) := mt_X12_run
  show mx_S X F L 375 0 [(0, .ref a0), (1, .int a1)] [] h 0 0 (some (.int r.1), r.2, 0, 0)
  unfold f_X12_run at hf
  refine mx_S.pu (pc2 := 1) (lv2 := [(0, .ref a0), (1, .int a1)]) (st2 := [.int a1]) hm dX12_run_0 rfl ?_
  refine sx_ic (v := 1) hm dX12_run_1 (by decide) ?_
  rcases mx_if_el hf with ⟨c5, hf⟩ | ⟨c5, hf⟩
  · refine sb_ic_lt hm dX12_run_2 (tgt := 12) rfl (fun _ => ?_) (fun z => absurd c5 z)
    refine sx_ic (v := (-1)) hm dX12_run_12 (by decide) ?_
    refine mx_S.pu (pc2 := 24) (lv2 := [(0, .ref a0), (1, .int a1)]) (st2 := [.int (-1)]) hm dX12_run_13 rfl ?_
    cases hf
    exact sx_ire hm dX12_run_24 rfl rfl
  · refine sb_ic_lt hm dX12_run_2 (tgt := 12) rfl (fun z => absurd z c5) (fun _ => ?_)
    refine mx_S.pu (pc2 := 6) (lv2 := [(0, .ref a0), (1, .int a1)]) (st2 := [.int a1]) hm dX12_run_5 rfl ?_
    refine sx_si (v := 20000) hm dX12_run_6 (by decide) ?_
    rcases mx_if_el hf with ⟨c4, hf⟩ | ⟨c4, hf⟩
    · refine sb_ic_le hm dX12_run_9 (tgt := 16) rfl (fun _ => ?_) (fun z => absurd c4 z)
      refine mx_S.pu (pc2 := 17) (lv2 := [(0, .ref a0), (1, .int a1)]) (st2 := [.ref a0]) hm dX12_run_16 rfl ?_
      replace hf := mx_sv_el hf; obtain ⟨v1, e_v1, hf⟩ := hf
      refine sx_get hm dX12_run_17 rs_RX12_69 (xgr_el e_v1) ?_
      clear e_v1
      refine mx_S.pu (pc2 := 21) (lv2 := [(0, .ref a0), (1, .int a1)]) (st2 := [.int a1, .ref v1]) hm dX12_run_20 rfl ?_
      replace hf := mx_gd_el hf; obtain ⟨c2, hf⟩ := hf
      replace hf := mx_sv_el hf; obtain ⟨u3, e_u3, hf⟩ := hf
      refine sx_cv hm dX12_run_21 rs_RX12_196 mt_X5_go [.int a1] [] (b := v1) (ci := 5) rfl rfl rfl c2 (Nat.le_of_ble_eq_true rfl) (Nat.le_of_ble_eq_true rfl) (by omega) (by omega) (f_X5_go_ok X (by omega) (by omega) nn v1 a1 h e_u3) ?_
      clear e_u3
      show mx_S X F L 375 24 [(0, .ref a0), (1, .int a1)] [.int u3.1] u3.2 0 0 (some (.int r.1), r.2, 0, 0)
      cases hf
      exact sx_ire hm dX12_run_24 rfl rfl
    · refine sb_ic_le hm dX12_run_9 (tgt := 16) rfl (fun z => absurd z c4) (fun _ => ?_)
      refine sx_ic (v := (-1)) hm dX12_run_12 (by decide) ?_
      refine mx_S.pu (pc2 := 24) (lv2 := [(0, .ref a0), (1, .int a1)]) (st2 := [.int (-1)]) hm dX12_run_13 rfl ?_
      cases hf
      exact sx_ire hm dX12_run_24 rfl rfl
set_option maxHeartbeats 4000000 in
set_option maxRecDepth 20000 in
theorem f_X5_beginRun_ok (X : Nat × (Nat → Int32)) {F L : Nat} (hF : 3 ≤ F) (hL : 105 ≤ L) (nn : Nat) (a0 : Nat) (a1 : Int32) (a2 : Int32) (h : mx_H) {r : mx_H} (hf : f_X5_beginRun nn a0 a1 a2 h = some r) : mx_R X F L 144 [.ref a0, .int a1, .int a2] h (none, r, 0, 0) := by
  have hm : mx_mt 144 = some (yX5_beginRun, cX5_beginRun, 3, none) := mt_X5_beginRun
  show mx_S X F L 144 0 [(0, .ref a0), (1, .int a1), (2, .int a2)] [] h 0 0 (none, r, 0, 0)
  unfold f_X5_beginRun at hf
  refine mx_S.pu (pc2 := 1) (lv2 := [(0, .ref a0), (1, .int a1), (2, .int a2)]) (st2 := [.ref a0]) hm dX5_beginRun_0 rfl ?_
  replace hf := mx_gd_el hf; obtain ⟨c1, hf⟩ := hf
  replace hf := mx_sv_el hf; obtain ⟨u2, e_u2, hf⟩ := hf
  refine sx_cv hm dX5_beginRun_1 rs_RX5_72 mt_X5_forget [] [] (b := a0) (ci := 5) rfl rfl rfl c1 (Nat.le_of_ble_eq_true rfl) (Nat.le_of_ble_eq_true rfl) (by omega) (by omega) (f_X5_forget_ok X (by omega) (by omega) nn a0 h e_u2) ?_
  clear e_u2
  show mx_S X F L 144 4 [(0, .ref a0), (1, .int a1), (2, .int a2)] [] u2 0 0 (none, r, 0, 0)
  refine mx_S.pu (pc2 := 5) (lv2 := [(0, .ref a0), (1, .int a1), (2, .int a2)]) (st2 := [.ref a0]) hm dX5_beginRun_4 rfl ?_
  refine sx_ic (v := 1) hm dX5_beginRun_5 (by decide) ?_
  replace hf := mx_sv_el hf; obtain ⟨h3, e_h3, hf⟩ := hf
  refine sx_put hm dX5_beginRun_6 rs_RX5_54 ft_5_1 ⟨rfl, rfl⟩ (fun z => by cases z) e_h3 ?_
  clear e_h3
  refine mx_S.pu (pc2 := 10) (lv2 := [(0, .ref a0), (1, .int a1), (2, .int a2)]) (st2 := [.ref a0]) hm dX5_beginRun_9 rfl ?_
  refine mx_S.pu (pc2 := 11) (lv2 := [(0, .ref a0), (1, .int a1), (2, .int a2)]) (st2 := [.int a1, .ref a0]) hm dX5_beginRun_10 rfl ?_
  refine sx_bi (v := 8) hm dX5_beginRun_11 (by decide) ?_
  replace hf := xl_el hf; obtain ⟨v4, e_v4, hf⟩ := hf
  refine mx_S.pu (pc2 := 14) (lv2 := [(0, .ref a0), (1, .int a1), (2, .int a2)]) (st2 := [.int v4, .ref a0]) hm dX5_beginRun_13 (by rw [← e_v4]; rfl) ?_
  clear e_v4
  refine sx_bi (v := 12) hm dX5_beginRun_14 (by decide) ?_
  replace hf := xl_el hf; obtain ⟨v5, e_v5, hf⟩ := hf
  refine mx_S.pu (pc2 := 17) (lv2 := [(0, .ref a0), (1, .int a1), (2, .int a2)]) (st2 := [.int v5, .ref a0]) hm dX5_beginRun_16 (by rw [← e_v5]; rfl) ?_
  clear e_v5
  refine mx_S.pu (pc2 := 18) (lv2 := [(0, .ref a0), (1, .int a1), (2, .int a2)]) (st2 := [.int a2, .int v5, .ref a0]) hm dX5_beginRun_17 rfl ?_
  replace hf := xl_el hf; obtain ⟨v6, e_v6, hf⟩ := hf
  refine mx_S.pu (pc2 := 19) (lv2 := [(0, .ref a0), (1, .int a1), (2, .int a2)]) (st2 := [.int v6, .ref a0]) hm dX5_beginRun_18 (by rw [← e_v6]; rfl) ?_
  clear e_v6
  refine sx_ic (v := 0) hm dX5_beginRun_19 (by decide) ?_
  refine sx_ic (v := 0) hm dX5_beginRun_20 (by decide) ?_
  replace hf := mx_gd_el hf; obtain ⟨c7, hf⟩ := hf
  replace hf := mx_sv_el hf; obtain ⟨u8, e_u8, hf⟩ := hf
  refine sx_cv hm dX5_beginRun_21 rs_RX5_79 mt_X5_beginMethod [.int v6, .int 0, .int 0] [] (b := a0) (ci := 5) rfl rfl rfl c7 (Nat.le_of_ble_eq_true rfl) (Nat.le_of_ble_eq_true rfl) (by omega) (by omega) (f_X5_beginMethod_ok X (by omega) (by omega) nn a0 v6 0 0 h3 e_u8) ?_
  clear e_u8
  show mx_S X F L 144 24 [(0, .ref a0), (1, .int a1), (2, .int a2)] [] u8 0 0 (none, r, 0, 0)
  cases hf
  exact sx_ret hm dX5_beginRun_24 rfl
set_option maxHeartbeats 4000000 in
set_option maxRecDepth 20000 in
theorem f_X12_start_ok (X : Nat × (Nat → Int32)) {F L : Nat} (hF : 4 ≤ F) (hL : 127 ≤ L) (nn : Nat) (a0 : Nat) (a1 : Int32) (a2 : Int32) (h : mx_H) {r : (Int32 × mx_H)} (hf : f_X12_start nn a0 a1 a2 h = some r) : mx_R X F L 374 [.ref a0, .int a1, .int a2] h (some (.int r.1), r.2, 0, 0) := by
  have hm : mx_mt 374 = some (yX12_start, cX12_start, 4, (some .boolean)) := mt_X12_start
  show mx_S X F L 374 0 [(0, .ref a0), (1, .int a1), (2, .int a2)] [] h 0 0 (some (.int r.1), r.2, 0, 0)
  unfold f_X12_start at hf
  refine mx_S.pu (pc2 := 1) (lv2 := [(0, .ref a0), (1, .int a1), (2, .int a2)]) (st2 := [.ref a0]) hm dX12_start_0 rfl ?_
  replace hf := mx_sv_el hf; obtain ⟨v1, e_v1, hf⟩ := hf
  refine sx_get hm dX12_start_1 rs_RX12_53 (xgr_el e_v1) ?_
  clear e_v1
  refine mx_S.pu (pc2 := 5) (lv2 := [(0, .ref a0), (1, .int a1), (2, .int a2)]) (st2 := [.int a1, .ref v1]) hm dX12_start_4 rfl ?_
  replace hf := mx_gd_el hf; obtain ⟨c2, hf⟩ := hf
  replace hf := mx_sv_el hf; obtain ⟨u3, e_u3, hf⟩ := hf
  refine sx_cv hm dX12_start_5 rs_RX12_181 mt_X7_imageOf [.int a1] [] (b := v1) (ci := 7) rfl rfl rfl c2 (Nat.le_of_ble_eq_true rfl) (Nat.le_of_ble_eq_true rfl) (by omega) (by omega) (f_X7_imageOf_ok X (by omega) (by omega) nn v1 a1 h e_u3) ?_
  clear e_u3
  show mx_S X F L 374 8 [(0, .ref a0), (1, .int a1), (2, .int a2)] [va_rf u3.1] u3.2 0 0 (some (.int r.1), r.2, 0, 0)
  refine sx_son (lv2 := [(3, va_rf u3.1), (0, .ref a0), (1, .int a1), (2, .int a2)]) hm dX12_start_8 rfl rfl ?_
  refine mx_S.pu (pc2 := 10) (lv2 := [(3, va_rf u3.1), (0, .ref a0), (1, .int a1), (2, .int a2)]) (st2 := [.ref a0]) hm dX12_start_9 rfl ?_
  replace hf := mx_sv_el hf; obtain ⟨v4, e_v4, hf⟩ := hf
  refine sx_get hm dX12_start_10 rs_RX12_53 (xgr_el e_v4) ?_
  clear e_v4
  replace hf := mx_sv_el hf; obtain ⟨v5, e_v5, hf⟩ := hf
  refine sx_get hm dX12_start_13 rs_RX12_165 (xgi_el e_v5) ?_
  clear e_v5
  rcases mx_if_el hf with ⟨c20, hf⟩ | ⟨c20, hf⟩
  · refine sb_if_eq hm dX12_start_16 (tgt := 35) rfl (fun _ => ?_) (fun z => absurd c20 z)
    refine sx_ic (v := 0) hm dX12_start_35 (by decide) ?_
    cases hf
    exact sx_ire hm dX12_start_36 rfl (by decide)
  · refine sb_if_eq hm dX12_start_16 (tgt := 35) rfl (fun z => absurd z c20) (fun _ => ?_)
    refine sx_aon hm dX12_start_19 rfl ?_
    rcases mx_oc_el hf with ⟨c7, hf⟩ | ⟨b6, c7, hf⟩
    · refine sx_ifnull_n hm dX12_start_20 c7 (tgt := 35) rfl ?_
      refine sx_ic (v := 0) hm dX12_start_35 (by decide) ?_
      cases hf
      exact sx_ire hm dX12_start_36 rfl (by decide)
    · refine sx_ifnull_s hm dX12_start_20 c7 (tgt := 35) rfl ?_
      rw [show va_rf u3.1 = Value.ref b6 by rw [c7]; rfl]
      refine mx_S.pu (pc2 := 24) (lv2 := [(3, .ref b6), (0, .ref a0), (1, .int a1), (2, .int a2)]) (st2 := [.int a2]) hm dX12_start_23 rfl ?_
      rcases mx_if_el hf with ⟨c19, hf⟩ | ⟨c19, hf⟩
      · refine sb_if_lt hm dX12_start_24 (tgt := 35) rfl (fun _ => ?_) (fun z => absurd c19 z)
        refine sx_ic (v := 0) hm dX12_start_35 (by decide) ?_
        cases hf
        exact sx_ire hm dX12_start_36 rfl (by decide)
      · refine sb_if_lt hm dX12_start_24 (tgt := 35) rfl (fun z => absurd z c19) (fun _ => ?_)
        refine mx_S.pu (pc2 := 28) (lv2 := [(3, .ref b6), (0, .ref a0), (1, .int a1), (2, .int a2)]) (st2 := [.int a2]) hm dX12_start_27 rfl ?_
        refine mx_S.pu (pc2 := 29) (lv2 := [(3, .ref b6), (0, .ref a0), (1, .int a1), (2, .int a2)]) (st2 := [.ref b6, .int a2]) hm dX12_start_28 rfl ?_
        replace hf := mx_sv_el hf; obtain ⟨v8, e_v8, hf⟩ := hf
        refine sx_get hm dX12_start_29 rs_RX12_184 (xgi_el e_v8) ?_
        clear e_v8
        rcases mx_if_el hf with ⟨c18, hf⟩ | ⟨c18, hf⟩
        · refine sb_ic_lt hm dX12_start_32 (tgt := 37) rfl (fun _ => ?_) (fun z => absurd c18 z)
          refine mx_S.pu (pc2 := 38) (lv2 := [(3, .ref b6), (0, .ref a0), (1, .int a1), (2, .int a2)]) (st2 := [.ref b6]) hm dX12_start_37 rfl ?_
          refine mx_S.pu (pc2 := 39) (lv2 := [(3, .ref b6), (0, .ref a0), (1, .int a1), (2, .int a2)]) (st2 := [.int a2, .ref b6]) hm dX12_start_38 rfl ?_
          refine sx_ic (v := 0) hm dX12_start_39 (by decide) ?_
          replace hf := mx_gd_el hf; obtain ⟨c9, hf⟩ := hf
          replace hf := mx_sv_el hf; obtain ⟨u10, e_u10, hf⟩ := hf
          refine sx_cv hm dX12_start_40 rs_RX12_189 mt_X3_of [.int a2, .int 0] [] (b := b6) (ci := 3) rfl rfl rfl c9 (Nat.le_of_ble_eq_true rfl) (Nat.le_of_ble_eq_true rfl) (by omega) (by omega) (f_X3_of_ok X (by omega) (by omega) nn b6 a2 0 u3.2 e_u10) ?_
          clear e_u10
          show mx_S X F L 374 43 [(3, .ref b6), (0, .ref a0), (1, .int a1), (2, .int a2)] [.int u10.1] u10.2 0 0 (some (.int r.1), r.2, 0, 0)
          rcases mx_if_el hf with ⟨c17, hf⟩ | ⟨c17, hf⟩
          · refine sb_if_eq hm dX12_start_43 (tgt := 56) rfl (fun _ => ?_) (fun z => absurd c17 z)
            refine sx_ic (v := 0) hm dX12_start_56 (by decide) ?_
            cases hf
            exact sx_ire hm dX12_start_57 rfl (by decide)
          · refine sb_if_eq hm dX12_start_43 (tgt := 56) rfl (fun z => absurd z c17) (fun _ => ?_)
            refine mx_S.pu (pc2 := 47) (lv2 := [(3, .ref b6), (0, .ref a0), (1, .int a1), (2, .int a2)]) (st2 := [.ref b6]) hm dX12_start_46 rfl ?_
            refine mx_S.pu (pc2 := 48) (lv2 := [(3, .ref b6), (0, .ref a0), (1, .int a1), (2, .int a2)]) (st2 := [.int a2, .ref b6]) hm dX12_start_47 rfl ?_
            refine sx_bi (v := 11) hm dX12_start_48 (by decide) ?_
            replace hf := mx_gd_el hf; obtain ⟨c11, hf⟩ := hf
            replace hf := mx_sv_el hf; obtain ⟨u12, e_u12, hf⟩ := hf
            refine sx_cv hm dX12_start_50 rs_RX12_189 mt_X3_of [.int a2, .int 11] [] (b := b6) (ci := 3) rfl rfl rfl c11 (Nat.le_of_ble_eq_true rfl) (Nat.le_of_ble_eq_true rfl) (by omega) (by omega) (f_X3_of_ok X (by omega) (by omega) nn b6 a2 11 u10.2 e_u12) ?_
            clear e_u12
            show mx_S X F L 374 53 [(3, .ref b6), (0, .ref a0), (1, .int a1), (2, .int a2)] [.int u12.1] u12.2 0 0 (some (.int r.1), r.2, 0, 0)
            rcases mx_if_el hf with ⟨c16, hf⟩ | ⟨c16, hf⟩
            · refine sb_if_eq hm dX12_start_53 (tgt := 58) rfl (fun _ => ?_) (fun z => absurd c16 z)
              refine mx_S.pu (pc2 := 59) (lv2 := [(3, .ref b6), (0, .ref a0), (1, .int a1), (2, .int a2)]) (st2 := [.ref a0]) hm dX12_start_58 rfl ?_
              replace hf := mx_sv_el hf; obtain ⟨v13, e_v13, hf⟩ := hf
              refine sx_get hm dX12_start_59 rs_RX12_69 (xgr_el e_v13) ?_
              clear e_v13
              refine mx_S.pu (pc2 := 63) (lv2 := [(3, .ref b6), (0, .ref a0), (1, .int a1), (2, .int a2)]) (st2 := [.int a1, .ref v13]) hm dX12_start_62 rfl ?_
              refine mx_S.pu (pc2 := 64) (lv2 := [(3, .ref b6), (0, .ref a0), (1, .int a1), (2, .int a2)]) (st2 := [.int a2, .int a1, .ref v13]) hm dX12_start_63 rfl ?_
              replace hf := mx_gd_el hf; obtain ⟨c14, hf⟩ := hf
              replace hf := mx_sv_el hf; obtain ⟨u15, e_u15, hf⟩ := hf
              refine sx_cv hm dX12_start_64 rs_RX12_193 mt_X5_beginRun [.int a1, .int a2] [] (b := v13) (ci := 5) rfl rfl rfl c14 (Nat.le_of_ble_eq_true rfl) (Nat.le_of_ble_eq_true rfl) (by omega) (by omega) (f_X5_beginRun_ok X (by omega) (by omega) nn v13 a1 a2 u12.2 e_u15) ?_
              clear e_u15
              show mx_S X F L 374 67 [(3, .ref b6), (0, .ref a0), (1, .int a1), (2, .int a2)] [] u15 0 0 (some (.int r.1), r.2, 0, 0)
              refine sx_ic (v := 1) hm dX12_start_67 (by decide) ?_
              cases hf
              exact sx_ire hm dX12_start_68 rfl (by decide)
            · refine sb_if_eq hm dX12_start_53 (tgt := 58) rfl (fun z => absurd z c16) (fun _ => ?_)
              refine sx_ic (v := 0) hm dX12_start_56 (by decide) ?_
              cases hf
              exact sx_ire hm dX12_start_57 rfl (by decide)
        · refine sb_ic_lt hm dX12_start_32 (tgt := 37) rfl (fun z => absurd z c18) (fun _ => ?_)
          refine sx_ic (v := 0) hm dX12_start_35 (by decide) ?_
          cases hf
          exact sx_ire hm dX12_start_36 rfl (by decide)
set_option maxHeartbeats 4000000 in
set_option maxRecDepth 20000 in
theorem f_X12_type_ok (X : Nat × (Nat → Int32)) {F L : Nat} (hF : 2 ≤ F) (hL : 41 ≤ L) (nn : Nat) (a0 : Nat) (a1 : Int32) (a2 : Int32) (h : mx_H) {r : (Int32 × mx_H)} (hf : f_X12_type nn a0 a1 a2 h = some r) : mx_R X F L 378 [.ref a0, .int a1, .int a2] h (some (.int r.1), r.2, 0, 0) := by
  have hm : mx_mt 378 = some (yX12_type, cX12_type, 4, (some .int)) := mt_X12_type
  show mx_S X F L 378 0 [(0, .ref a0), (1, .int a1), (2, .int a2)] [] h 0 0 (some (.int r.1), r.2, 0, 0)
  unfold f_X12_type at hf
  refine mx_S.pu (pc2 := 1) (lv2 := [(0, .ref a0), (1, .int a1), (2, .int a2)]) (st2 := [.int a1]) hm dX12_type_0 rfl ?_
  rcases mx_if_el hf with ⟨c21, hf⟩ | ⟨c21, hf⟩
  · refine sb_if_lt hm dX12_type_1 (tgt := 18) rfl (fun _ => ?_) (fun z => absurd c21 z)
    refine sx_ic (v := (-1)) hm dX12_type_18 (by decide) ?_
    cases hf
    exact sx_ire hm dX12_type_19 rfl rfl
  · refine sb_if_lt hm dX12_type_1 (tgt := 18) rfl (fun z => absurd z c21) (fun _ => ?_)
    refine mx_S.pu (pc2 := 5) (lv2 := [(0, .ref a0), (1, .int a1), (2, .int a2)]) (st2 := [.int a1]) hm dX12_type_4 rfl ?_
    refine sx_bi (v := 8) hm dX12_type_5 (by decide) ?_
    refine mx_S.pu (pc2 := 8) (lv2 := [(0, .ref a0), (1, .int a1), (2, .int a2)]) (st2 := [.ref a0, .int 8, .int a1]) hm dX12_type_7 rfl ?_
    replace hf := mx_sv_el hf; obtain ⟨v1, e_v1, hf⟩ := hf
    refine sx_get hm dX12_type_8 rs_RX12_53 (xgr_el e_v1) ?_
    clear e_v1
    replace hf := mx_sv_el hf; obtain ⟨v2, e_v2, hf⟩ := hf
    refine sx_get hm dX12_type_11 rs_RX12_199 (xgi_el e_v2) ?_
    clear e_v2
    replace hf := xl_el hf; obtain ⟨v3, e_v3, hf⟩ := hf
    refine mx_S.pu (pc2 := 15) (lv2 := [(0, .ref a0), (1, .int a1), (2, .int a2)]) (st2 := [.int v3, .int a1]) hm dX12_type_14 (by rw [← e_v3]; rfl) ?_
    clear e_v3
    rcases mx_if_el hf with ⟨c20, hf⟩ | ⟨c20, hf⟩
    · refine sb_ic_lt hm dX12_type_15 (tgt := 20) rfl (fun _ => ?_) (fun z => absurd c20 z)
      refine mx_S.pu (pc2 := 21) (lv2 := [(0, .ref a0), (1, .int a1), (2, .int a2)]) (st2 := [.int a2]) hm dX12_type_20 rfl ?_
      rcases mx_if_el hf with ⟨c19, hf⟩ | ⟨c19, hf⟩
      · refine sb_if_ne hm dX12_type_21 (tgt := 36) rfl (fun _ => ?_) (fun z => absurd c19 z)
        refine mx_S.pu (pc2 := 37) (lv2 := [(0, .ref a0), (1, .int a1), (2, .int a2)]) (st2 := [.ref a0]) hm dX12_type_36 rfl ?_
        replace hf := mx_sv_el hf; obtain ⟨v4, e_v4, hf⟩ := hf
        refine sx_get hm dX12_type_37 rs_RX12_53 (xgr_el e_v4) ?_
        clear e_v4
        refine mx_S.pu (pc2 := 41) (lv2 := [(0, .ref a0), (1, .int a1), (2, .int a2)]) (st2 := [.int a1, .ref v4]) hm dX12_type_40 rfl ?_
        replace hf := mx_gd_el hf; obtain ⟨c5, hf⟩ := hf
        replace hf := mx_sv_el hf; obtain ⟨u6, e_u6, hf⟩ := hf
        refine sx_cv hm dX12_type_41 rs_RX12_181 mt_X7_imageOf [.int a1] [] (b := v4) (ci := 7) rfl rfl rfl c5 (Nat.le_of_ble_eq_true rfl) (Nat.le_of_ble_eq_true rfl) (by omega) (by omega) (f_X7_imageOf_ok X (by omega) (by omega) nn v4 a1 h e_u6) ?_
        clear e_u6
        show mx_S X F L 378 44 [(0, .ref a0), (1, .int a1), (2, .int a2)] [va_rf u6.1] u6.2 0 0 (some (.int r.1), r.2, 0, 0)
        refine sx_son (lv2 := [(3, va_rf u6.1), (0, .ref a0), (1, .int a1), (2, .int a2)]) hm dX12_type_44 rfl rfl ?_
        refine sx_aon hm dX12_type_45 rfl ?_
        rcases mx_oc_el hf with ⟨c8, hf⟩ | ⟨b7, c8, hf⟩
        · refine sx_ifnonnull_n hm dX12_type_46 c8 (tgt := 65) rfl ?_
          refine mx_S.pu (pc2 := 50) (lv2 := [(3, va_rf u6.1), (0, .ref a0), (1, .int a1), (2, .int a2)]) (st2 := [.int a2]) hm dX12_type_49 rfl ?_
          refine sx_ic (v := 1) hm dX12_type_50 (by decide) ?_
          rcases mx_if_el hf with ⟨c10, hf⟩ | ⟨c10, hf⟩
          · refine sb_ic_lt hm dX12_type_51 (tgt := 63) rfl (fun _ => ?_) (fun z => absurd c10 z)
            refine sx_ic (v := (-1)) hm dX12_type_63 (by decide) ?_
            cases hf
            exact sx_ire hm dX12_type_64 rfl rfl
          · refine sb_ic_lt hm dX12_type_51 (tgt := 63) rfl (fun z => absurd z c10) (fun _ => ?_)
            refine mx_S.pu (pc2 := 55) (lv2 := [(3, va_rf u6.1), (0, .ref a0), (1, .int a1), (2, .int a2)]) (st2 := [.int a2]) hm dX12_type_54 rfl ?_
            refine sx_ic (v := 4) hm dX12_type_55 (by decide) ?_
            rcases mx_if_el hf with ⟨c9, hf⟩ | ⟨c9, hf⟩
            · refine sb_ic_gt hm dX12_type_56 (tgt := 63) rfl (fun _ => ?_) (fun z => absurd c9 z)
              refine sx_ic (v := (-1)) hm dX12_type_63 (by decide) ?_
              cases hf
              exact sx_ire hm dX12_type_64 rfl rfl
            · refine sb_ic_gt hm dX12_type_56 (tgt := 63) rfl (fun z => absurd z c9) (fun _ => ?_)
              refine sx_ic (v := 0) hm dX12_type_59 (by decide) ?_
              refine mx_S.pu (pc2 := 64) (lv2 := [(3, va_rf u6.1), (0, .ref a0), (1, .int a1), (2, .int a2)]) (st2 := [.int 0]) hm dX12_type_60 rfl ?_
              cases hf
              exact sx_ire hm dX12_type_64 rfl rfl
        · refine sx_ifnonnull_s hm dX12_type_46 c8 (tgt := 65) rfl ?_
          rw [show va_rf u6.1 = Value.ref b7 by rw [c8]; rfl]
          refine mx_S.pu (pc2 := 66) (lv2 := [(3, .ref b7), (0, .ref a0), (1, .int a1), (2, .int a2)]) (st2 := [.int a2]) hm dX12_type_65 rfl ?_
          rcases mx_if_el hf with ⟨n_0, hf⟩ | ⟨n_0, hf⟩
          · refine sx_tin hm dX12_type_66 (by rw [n_0]; decide) (by rw [n_0]; decide) (off := 30) (by rw [n_0]; rfl) (tgt := 96) rfl ?_
            clear n_0
            refine mx_S.pu (pc2 := 97) (lv2 := [(3, .ref b7), (0, .ref a0), (1, .int a1), (2, .int a2)]) (st2 := [.ref b7]) hm dX12_type_96 rfl ?_
            replace hf := mx_sv_el hf; obtain ⟨v11, e_v11, hf⟩ := hf
            refine sx_get hm dX12_type_97 rs_RX12_220 (xgi_el e_v11) ?_
            clear e_v11
            cases hf
            exact sx_ire hm dX12_type_100 rfl rfl
          · rcases mx_if_el hf with ⟨n_1, hf⟩ | ⟨n_1, hf⟩
            · refine sx_tin hm dX12_type_66 (by rw [n_1]; decide) (by rw [n_1]; decide) (off := 35) (by rw [n_1]; rfl) (tgt := 101) rfl ?_
              clear n_0 n_1
              refine mx_S.pu (pc2 := 102) (lv2 := [(3, .ref b7), (0, .ref a0), (1, .int a1), (2, .int a2)]) (st2 := [.ref b7]) hm dX12_type_101 rfl ?_
              replace hf := mx_sv_el hf; obtain ⟨v12, e_v12, hf⟩ := hf
              refine sx_get hm dX12_type_102 rs_RX12_184 (xgi_el e_v12) ?_
              clear e_v12
              cases hf
              exact sx_ire hm dX12_type_105 rfl rfl
            · rcases mx_if_el hf with ⟨n_2, hf⟩ | ⟨n_2, hf⟩
              · refine sx_tin hm dX12_type_66 (by rw [n_2]; decide) (by rw [n_2]; decide) (off := 40) (by rw [n_2]; rfl) (tgt := 106) rfl ?_
                clear n_0 n_1 n_2
                refine mx_S.pu (pc2 := 107) (lv2 := [(3, .ref b7), (0, .ref a0), (1, .int a1), (2, .int a2)]) (st2 := [.ref b7]) hm dX12_type_106 rfl ?_
                replace hf := mx_sv_el hf; obtain ⟨v13, e_v13, hf⟩ := hf
                refine sx_get hm dX12_type_107 rs_RX12_223 (xgi_el e_v13) ?_
                clear e_v13
                cases hf
                exact sx_ire hm dX12_type_110 rfl rfl
              · rcases mx_if_el hf with ⟨n_3, hf⟩ | ⟨n_3, hf⟩
                · refine sx_tin hm dX12_type_66 (by rw [n_3]; decide) (by rw [n_3]; decide) (off := 45) (by rw [n_3]; rfl) (tgt := 111) rfl ?_
                  clear n_0 n_1 n_2 n_3
                  refine mx_S.pu (pc2 := 112) (lv2 := [(3, .ref b7), (0, .ref a0), (1, .int a1), (2, .int a2)]) (st2 := [.ref b7]) hm dX12_type_111 rfl ?_
                  replace hf := mx_sv_el hf; obtain ⟨v14, e_v14, hf⟩ := hf
                  refine sx_get hm dX12_type_112 rs_RX12_226 (xgi_el e_v14) ?_
                  clear e_v14
                  cases hf
                  exact sx_ire hm dX12_type_115 rfl rfl
                · rcases (show (a2.toInt < 1 ∨ 4 < a2.toInt) ∨ a2.toInt = 1 ∨ a2.toInt = 2 ∨ a2.toInt = 3 ∨ a2.toInt = 4 by omega) with z0 | z0 | z0 | z0 | z0
                  · refine sx_tout hm dX12_type_66 z0 (tgt := 116) rfl ?_
                    refine sx_ic (v := (-1)) hm dX12_type_116 (by decide) ?_
                    cases hf
                    exact sx_ire hm dX12_type_117 rfl rfl
                  · exact absurd (Int32.toInt_inj.mp (z0.trans (by decide : (1 : Int) = (1 : Int32).toInt))) n_0
                  · exact absurd (Int32.toInt_inj.mp (z0.trans (by decide : (2 : Int) = (2 : Int32).toInt))) n_1
                  · exact absurd (Int32.toInt_inj.mp (z0.trans (by decide : (3 : Int) = (3 : Int32).toInt))) n_2
                  · exact absurd (Int32.toInt_inj.mp (z0.trans (by decide : (4 : Int) = (4 : Int32).toInt))) n_3
      · refine sb_if_ne hm dX12_type_21 (tgt := 36) rfl (fun z => absurd z c19) (fun _ => ?_)
        refine mx_S.pu (pc2 := 25) (lv2 := [(0, .ref a0), (1, .int a1), (2, .int a2)]) (st2 := [.ref a0]) hm dX12_type_24 rfl ?_
        replace hf := mx_sv_el hf; obtain ⟨v15, e_v15, hf⟩ := hf
        refine sx_get hm dX12_type_25 rs_RX12_53 (xgr_el e_v15) ?_
        clear e_v15
        replace hf := mx_sv_el hf; obtain ⟨v16, e_v16, hf⟩ := hf
        refine sx_get hm dX12_type_28 rs_RX12_213 (xgr_el e_v16) ?_
        clear e_v16
        refine mx_S.pu (pc2 := 32) (lv2 := [(0, .ref a0), (1, .int a1), (2, .int a2)]) (st2 := [.int a1, .ref v16]) hm dX12_type_31 rfl ?_
        replace hf := mx_gd_el hf; obtain ⟨c17, hf⟩ := hf
        replace hf := mx_sv_el hf; obtain ⟨u18, e_u18, hf⟩ := hf
        refine sx_cv hm dX12_type_32 rs_RX12_217 mt_X4_above [.int a1] [] (b := v16) (ci := 4) rfl rfl rfl c17 (Nat.le_of_ble_eq_true rfl) (Nat.le_of_ble_eq_true rfl) (by omega) (by omega) (f_X4_above_ok X (by omega) (by omega) nn v16 a1 h e_u18) ?_
        clear e_u18
        show mx_S X F L 378 35 [(0, .ref a0), (1, .int a1), (2, .int a2)] [.int u18.1] u18.2 0 0 (some (.int r.1), r.2, 0, 0)
        cases hf
        exact sx_ire hm dX12_type_35 rfl rfl
    · refine sb_ic_lt hm dX12_type_15 (tgt := 20) rfl (fun z => absurd z c20) (fun _ => ?_)
      refine sx_ic (v := (-1)) hm dX12_type_18 (by decide) ?_
      cases hf
      exact sx_ire hm dX12_type_19 rfl rfl
set_option maxHeartbeats 4000000 in
set_option maxRecDepth 20000 in
theorem f_X3_fieldKind_ok (X : Nat × (Nat → Int32)) {F L : Nat} (hF : 0 ≤ F) (hL : 0 ≤ L) (nn : Nat) (a0 : Nat) (a1 : Int32) (h : mx_H) {r : (Int32 × mx_H)} (hf : f_X3_fieldKind nn a0 a1 h = some r) : mx_R X F L 128 [.ref a0, .int a1] h (some (.int r.1), r.2, 0, 0) := by
  have hm : mx_mt 128 = some (yX3_fieldKind, cX3_fieldKind, 2, (some .int)) := mt_X3_fieldKind
  show mx_S X F L 128 0 [(0, .ref a0), (1, .int a1)] [] h 0 0 (some (.int r.1), r.2, 0, 0)
  unfold f_X3_fieldKind at hf
  refine mx_S.pu (pc2 := 1) (lv2 := [(0, .ref a0), (1, .int a1)]) (st2 := [.int a1]) hm dX3_fieldKind_0 rfl ?_
  rcases mx_if_el hf with ⟨c7, hf⟩ | ⟨c7, hf⟩
  · refine sb_if_lt hm dX3_fieldKind_1 (tgt := 25) rfl (fun _ => ?_) (fun z => absurd c7 z)
    refine sx_ic (v := 0) hm dX3_fieldKind_25 (by decide) ?_
    cases hf
    exact sx_ire hm dX3_fieldKind_26 rfl rfl
  · refine sb_if_lt hm dX3_fieldKind_1 (tgt := 25) rfl (fun z => absurd z c7) (fun _ => ?_)
    refine mx_S.pu (pc2 := 5) (lv2 := [(0, .ref a0), (1, .int a1)]) (st2 := [.int a1]) hm dX3_fieldKind_4 rfl ?_
    refine mx_S.pu (pc2 := 6) (lv2 := [(0, .ref a0), (1, .int a1)]) (st2 := [.ref a0, .int a1]) hm dX3_fieldKind_5 rfl ?_
    replace hf := mx_sv_el hf; obtain ⟨v1, e_v1, hf⟩ := hf
    refine sx_get hm dX3_fieldKind_6 rs_RX3_49 (xgi_el e_v1) ?_
    clear e_v1
    rcases mx_if_el hf with ⟨c6, hf⟩ | ⟨c6, hf⟩
    · refine sb_ic_ge hm dX3_fieldKind_9 (tgt := 25) rfl (fun _ => ?_) (fun z => absurd c6 z)
      refine sx_ic (v := 0) hm dX3_fieldKind_25 (by decide) ?_
      cases hf
      exact sx_ire hm dX3_fieldKind_26 rfl rfl
    · refine sb_ic_ge hm dX3_fieldKind_9 (tgt := 25) rfl (fun z => absurd z c6) (fun _ => ?_)
      refine mx_S.pu (pc2 := 13) (lv2 := [(0, .ref a0), (1, .int a1)]) (st2 := [.ref a0]) hm dX3_fieldKind_12 rfl ?_
      replace hf := mx_sv_el hf; obtain ⟨v2, e_v2, hf⟩ := hf
      refine sx_get hm dX3_fieldKind_13 rs_RX3_27 (xgr_el e_v2) ?_
      clear e_v2
      refine mx_S.pu (pc2 := 17) (lv2 := [(0, .ref a0), (1, .int a1)]) (st2 := [.int a1, .ref v2]) hm dX3_fieldKind_16 rfl ?_
      refine sx_ic (v := 2) hm dX3_fieldKind_17 (by decide) ?_
      replace hf := xl_el hf; obtain ⟨v3, e_v3, hf⟩ := hf
      refine mx_S.pu (pc2 := 19) (lv2 := [(0, .ref a0), (1, .int a1)]) (st2 := [.int v3, .ref v2]) hm dX3_fieldKind_18 (by rw [← e_v3]; rfl) ?_
      clear e_v3
      refine sx_ic (v := 1) hm dX3_fieldKind_19 (by decide) ?_
      replace hf := xl_el hf; obtain ⟨v4, e_v4, hf⟩ := hf
      refine mx_S.pu (pc2 := 21) (lv2 := [(0, .ref a0), (1, .int a1)]) (st2 := [.int v4, .ref v2]) hm dX3_fieldKind_20 (by rw [← e_v4]; rfl) ?_
      clear e_v4
      replace hf := mx_sv_el hf; obtain ⟨v5, e_v5, hf⟩ := hf
      refine sx_ald hm dX3_fieldKind_21 e_v5 ?_
      clear e_v5
      refine mx_S.pu (pc2 := 26) (lv2 := [(0, .ref a0), (1, .int a1)]) (st2 := [.int v5]) hm dX3_fieldKind_22 rfl ?_
      cases hf
      exact sx_ire hm dX3_fieldKind_26 rfl rfl
set_option maxHeartbeats 4000000 in
set_option maxRecDepth 20000 in
theorem f_X7_typeOfKind_ok (X : Nat × (Nat → Int32)) {F L : Nat} (hF : 6 ≤ F) (hL : 137 ≤ L) (nn : Nat) (a0 : Nat) (a1 : Nat) (a2 : Int32) (a3 : Int32) (h : mx_H) {r : (Int32 × mx_H)} (hf : f_X7_typeOfKind nn a0 a1 a2 a3 h = some r) : mx_R X F L 205 [.ref a0, .ref a1, .int a2, .int a3] h (some (.int r.1), r.2, 0, 0) := by
  have hm : mx_mt 205 = some (yX7_typeOfKind, cX7_typeOfKind, 6, (some .int)) := mt_X7_typeOfKind
  show mx_S X F L 205 0 [(0, .ref a0), (1, .ref a1), (2, .int a2), (3, .int a3)] [] h 0 0 (some (.int r.1), r.2, 0, 0)
  unfold f_X7_typeOfKind at hf
  refine mx_S.pu (pc2 := 1) (lv2 := [(0, .ref a0), (1, .ref a1), (2, .int a2), (3, .int a3)]) (st2 := [.ref a1]) hm dX7_typeOfKind_0 rfl ?_
  refine mx_S.pu (pc2 := 2) (lv2 := [(0, .ref a0), (1, .ref a1), (2, .int a2), (3, .int a3)]) (st2 := [.int a2, .ref a1]) hm dX7_typeOfKind_1 rfl ?_
  replace hf := mx_gd_el hf; obtain ⟨c1, hf⟩ := hf
  replace hf := mx_sv_el hf; obtain ⟨u2, e_u2, hf⟩ := hf
  refine sx_cv hm dX7_typeOfKind_2 rs_RX7_117 mt_X3_byteAt [.int a2] [] (b := a1) (ci := 3) rfl rfl rfl c1 (Nat.le_of_ble_eq_true rfl) (Nat.le_of_ble_eq_true rfl) (by omega) (by omega) (f_X3_byteAt_ok X (by omega) (by omega) nn a1 a2 h e_u2) ?_
  clear e_u2
  show mx_S X F L 205 5 [(0, .ref a0), (1, .ref a1), (2, .int a2), (3, .int a3)] [.int u2.1] u2.2 0 0 (some (.int r.1), r.2, 0, 0)
  refine mx_S.pu (pc2 := 7) (lv2 := [(4, .int u2.1), (0, .ref a0), (1, .ref a1), (2, .int a2), (3, .int a3)]) (st2 := []) hm dX7_typeOfKind_5 rfl ?_
  refine mx_S.pu (pc2 := 9) (lv2 := [(4, .int u2.1), (0, .ref a0), (1, .ref a1), (2, .int a2), (3, .int a3)]) (st2 := [.int u2.1]) hm dX7_typeOfKind_7 rfl ?_
  refine sx_bi (v := 73) hm dX7_typeOfKind_9 (by decide) ?_
  rcases mx_if_el hf with ⟨c20, hf⟩ | ⟨c20, hf⟩
  · refine sb_ic_eq hm dX7_typeOfKind_11 (tgt := 21) rfl (fun _ => ?_) (fun z => absurd c20 z)
    refine sx_si (v := 301) hm dX7_typeOfKind_21 (by decide) ?_
    cases hf
    exact sx_ire hm dX7_typeOfKind_24 rfl rfl
  · refine sb_ic_eq hm dX7_typeOfKind_11 (tgt := 21) rfl (fun z => absurd z c20) (fun _ => ?_)
    refine mx_S.pu (pc2 := 16) (lv2 := [(4, .int u2.1), (0, .ref a0), (1, .ref a1), (2, .int a2), (3, .int a3)]) (st2 := [.int u2.1]) hm dX7_typeOfKind_14 rfl ?_
    refine sx_bi (v := 90) hm dX7_typeOfKind_16 (by decide) ?_
    rcases mx_if_el hf with ⟨c19, hf⟩ | ⟨c19, hf⟩
    · refine sb_ic_ne hm dX7_typeOfKind_18 (tgt := 25) rfl (fun _ => ?_) (fun z => absurd c19 z)
      refine mx_S.pu (pc2 := 27) (lv2 := [(4, .int u2.1), (0, .ref a0), (1, .ref a1), (2, .int a2), (3, .int a3)]) (st2 := [.int u2.1]) hm dX7_typeOfKind_25 rfl ?_
      refine sx_bi (v := 86) hm dX7_typeOfKind_27 (by decide) ?_
      rcases mx_if_el hf with ⟨c18, hf⟩ | ⟨c18, hf⟩
      · refine sb_ic_ne hm dX7_typeOfKind_29 (tgt := 36) rfl (fun _ => ?_) (fun z => absurd c18 z)
        refine mx_S.pu (pc2 := 38) (lv2 := [(4, .int u2.1), (0, .ref a0), (1, .ref a1), (2, .int a2), (3, .int a3)]) (st2 := [.int u2.1]) hm dX7_typeOfKind_36 rfl ?_
        refine sx_bi (v := 91) hm dX7_typeOfKind_38 (by decide) ?_
        rcases mx_if_el hf with ⟨c17, hf⟩ | ⟨c17, hf⟩
        · refine sb_ic_eq hm dX7_typeOfKind_40 (tgt := 55) rfl (fun _ => ?_) (fun z => absurd c17 z)
          refine mx_S.pu (pc2 := 56) (lv2 := [(4, .int u2.1), (0, .ref a0), (1, .ref a1), (2, .int a2), (3, .int a3)]) (st2 := [.ref a1]) hm dX7_typeOfKind_55 rfl ?_
          refine mx_S.pu (pc2 := 57) (lv2 := [(4, .int u2.1), (0, .ref a0), (1, .ref a1), (2, .int a2), (3, .int a3)]) (st2 := [.int a2, .ref a1]) hm dX7_typeOfKind_56 rfl ?_
          refine sx_ic (v := 1) hm dX7_typeOfKind_57 (by decide) ?_
          replace hf := xl_el hf; obtain ⟨v3, e_v3, hf⟩ := hf
          refine mx_S.pu (pc2 := 59) (lv2 := [(4, .int u2.1), (0, .ref a0), (1, .ref a1), (2, .int a2), (3, .int a3)]) (st2 := [.int v3, .ref a1]) hm dX7_typeOfKind_58 (by rw [← e_v3]; rfl) ?_
          clear e_v3
          replace hf := mx_gd_el hf; obtain ⟨c4, hf⟩ := hf
          replace hf := mx_sv_el hf; obtain ⟨u5, e_u5, hf⟩ := hf
          refine sx_cv hm dX7_typeOfKind_59 rs_RX7_117 mt_X3_byteAt [.int v3] [] (b := a1) (ci := 3) rfl rfl rfl c4 (Nat.le_of_ble_eq_true rfl) (Nat.le_of_ble_eq_true rfl) (by omega) (by omega) (f_X3_byteAt_ok X (by omega) (by omega) nn a1 v3 u2.2 e_u5) ?_
          clear e_u5
          show mx_S X F L 205 62 [(4, .int u2.1), (0, .ref a0), (1, .ref a1), (2, .int a2), (3, .int a3)] [.int u5.1] u5.2 0 0 (some (.int r.1), r.2, 0, 0)
          refine sx_bi (v := 73) hm dX7_typeOfKind_62 (by decide) ?_
          rcases mx_if_el hf with ⟨c12, hf⟩ | ⟨c12, hf⟩
          · refine sb_ic_ne hm dX7_typeOfKind_64 (tgt := 71) rfl (fun _ => ?_) (fun z => absurd c12 z)
            refine mx_S.pu (pc2 := 72) (lv2 := [(4, .int u2.1), (0, .ref a0), (1, .ref a1), (2, .int a2), (3, .int a3)]) (st2 := [.ref a0]) hm dX7_typeOfKind_71 rfl ?_
            refine mx_S.pu (pc2 := 73) (lv2 := [(4, .int u2.1), (0, .ref a0), (1, .ref a1), (2, .int a2), (3, .int a3)]) (st2 := [.ref a1, .ref a0]) hm dX7_typeOfKind_72 rfl ?_
            refine mx_S.pu (pc2 := 74) (lv2 := [(4, .int u2.1), (0, .ref a0), (1, .ref a1), (2, .int a2), (3, .int a3)]) (st2 := [.int a2, .ref a1, .ref a0]) hm dX7_typeOfKind_73 rfl ?_
            refine sx_ic (v := 2) hm dX7_typeOfKind_74 (by decide) ?_
            replace hf := xl_el hf; obtain ⟨v6, e_v6, hf⟩ := hf
            refine mx_S.pu (pc2 := 76) (lv2 := [(4, .int u2.1), (0, .ref a0), (1, .ref a1), (2, .int a2), (3, .int a3)]) (st2 := [.int v6, .ref a1, .ref a0]) hm dX7_typeOfKind_75 (by rw [← e_v6]; rfl) ?_
            clear e_v6
            refine mx_S.pu (pc2 := 77) (lv2 := [(4, .int u2.1), (0, .ref a0), (1, .ref a1), (2, .int a2), (3, .int a3)]) (st2 := [.int a3, .int v6, .ref a1, .ref a0]) hm dX7_typeOfKind_76 rfl ?_
            refine sx_ic (v := 1) hm dX7_typeOfKind_77 (by decide) ?_
            replace hf := xl_el hf; obtain ⟨v7, e_v7, hf⟩ := hf
            refine mx_S.pu (pc2 := 79) (lv2 := [(4, .int u2.1), (0, .ref a0), (1, .ref a1), (2, .int a2), (3, .int a3)]) (st2 := [.int v7, .int v6, .ref a1, .ref a0]) hm dX7_typeOfKind_78 (by rw [← e_v7]; rfl) ?_
            clear e_v7
            replace hf := mx_gd_el hf; obtain ⟨c8, hf⟩ := hf
            replace hf := mx_sv_el hf; obtain ⟨u9, e_u9, hf⟩ := hf
            refine sx_cv hm dX7_typeOfKind_79 rs_RX7_66 mt_X7_classOf [.ref a1, .int v6, .int v7] [] (b := a0) (ci := 7) rfl rfl rfl c8 (Nat.le_of_ble_eq_true rfl) (Nat.le_of_ble_eq_true rfl) (by omega) (by omega) (f_X7_classOf_ok X (by omega) (by omega) nn a0 a1 v6 v7 u5.2 e_u9) ?_
            clear e_u9
            show mx_S X F L 205 82 [(4, .int u2.1), (0, .ref a0), (1, .ref a1), (2, .int a2), (3, .int a3)] [.int u9.1] u9.2 0 0 (some (.int r.1), r.2, 0, 0)
            refine mx_S.pu (pc2 := 84) (lv2 := [(5, .int u9.1), (4, .int u2.1), (0, .ref a0), (1, .ref a1), (2, .int a2), (3, .int a3)]) (st2 := []) hm dX7_typeOfKind_82 rfl ?_
            refine mx_S.pu (pc2 := 86) (lv2 := [(5, .int u9.1), (4, .int u2.1), (0, .ref a0), (1, .ref a1), (2, .int a2), (3, .int a3)]) (st2 := [.int u9.1]) hm dX7_typeOfKind_84 rfl ?_
            refine sx_ic (v := (-1)) hm dX7_typeOfKind_86 (by decide) ?_
            rcases mx_if_el hf with ⟨c11, hf⟩ | ⟨c11, hf⟩
            · refine sb_ic_ne hm dX7_typeOfKind_87 (tgt := 94) rfl (fun _ => ?_) (fun z => absurd c11 z)
              refine sx_bi (v := 100) hm dX7_typeOfKind_94 (by decide) ?_
              refine mx_S.pu (pc2 := 98) (lv2 := [(5, .int u9.1), (4, .int u2.1), (0, .ref a0), (1, .ref a1), (2, .int a2), (3, .int a3)]) (st2 := [.int u9.1, .int 100]) hm dX7_typeOfKind_96 rfl ?_
              replace hf := xl_el hf; obtain ⟨v10, e_v10, hf⟩ := hf
              refine mx_S.pu (pc2 := 99) (lv2 := [(5, .int u9.1), (4, .int u2.1), (0, .ref a0), (1, .ref a1), (2, .int a2), (3, .int a3)]) (st2 := [.int v10]) hm dX7_typeOfKind_98 (by rw [← e_v10]; rfl) ?_
              clear e_v10
              cases hf
              exact sx_ire hm dX7_typeOfKind_99 rfl rfl
            · refine sb_ic_ne hm dX7_typeOfKind_87 (tgt := 94) rfl (fun z => absurd z c11) (fun _ => ?_)
              refine sx_ic (v := (-1)) hm dX7_typeOfKind_90 (by decide) ?_
              refine mx_S.pu (pc2 := 99) (lv2 := [(5, .int u9.1), (4, .int u2.1), (0, .ref a0), (1, .ref a1), (2, .int a2), (3, .int a3)]) (st2 := [.int (-1)]) hm dX7_typeOfKind_91 rfl ?_
              cases hf
              exact sx_ire hm dX7_typeOfKind_99 rfl rfl
          · refine sb_ic_ne hm dX7_typeOfKind_64 (tgt := 71) rfl (fun z => absurd z c12) (fun _ => ?_)
            refine sx_si (v := 200) hm dX7_typeOfKind_67 (by decide) ?_
            cases hf
            exact sx_ire hm dX7_typeOfKind_70 rfl rfl
        · refine sb_ic_eq hm dX7_typeOfKind_40 (tgt := 55) rfl (fun z => absurd z c17) (fun _ => ?_)
          refine mx_S.pu (pc2 := 44) (lv2 := [(4, .int u2.1), (0, .ref a0), (1, .ref a1), (2, .int a2), (3, .int a3)]) (st2 := [.ref a0]) hm dX7_typeOfKind_43 rfl ?_
          refine mx_S.pu (pc2 := 45) (lv2 := [(4, .int u2.1), (0, .ref a0), (1, .ref a1), (2, .int a2), (3, .int a3)]) (st2 := [.ref a1, .ref a0]) hm dX7_typeOfKind_44 rfl ?_
          refine mx_S.pu (pc2 := 46) (lv2 := [(4, .int u2.1), (0, .ref a0), (1, .ref a1), (2, .int a2), (3, .int a3)]) (st2 := [.int a2, .ref a1, .ref a0]) hm dX7_typeOfKind_45 rfl ?_
          refine sx_ic (v := 1) hm dX7_typeOfKind_46 (by decide) ?_
          replace hf := xl_el hf; obtain ⟨v13, e_v13, hf⟩ := hf
          refine mx_S.pu (pc2 := 48) (lv2 := [(4, .int u2.1), (0, .ref a0), (1, .ref a1), (2, .int a2), (3, .int a3)]) (st2 := [.int v13, .ref a1, .ref a0]) hm dX7_typeOfKind_47 (by rw [← e_v13]; rfl) ?_
          clear e_v13
          refine mx_S.pu (pc2 := 49) (lv2 := [(4, .int u2.1), (0, .ref a0), (1, .ref a1), (2, .int a2), (3, .int a3)]) (st2 := [.int a3, .int v13, .ref a1, .ref a0]) hm dX7_typeOfKind_48 rfl ?_
          refine sx_ic (v := 1) hm dX7_typeOfKind_49 (by decide) ?_
          replace hf := xl_el hf; obtain ⟨v14, e_v14, hf⟩ := hf
          refine mx_S.pu (pc2 := 51) (lv2 := [(4, .int u2.1), (0, .ref a0), (1, .ref a1), (2, .int a2), (3, .int a3)]) (st2 := [.int v14, .int v13, .ref a1, .ref a0]) hm dX7_typeOfKind_50 (by rw [← e_v14]; rfl) ?_
          clear e_v14
          replace hf := mx_gd_el hf; obtain ⟨c15, hf⟩ := hf
          replace hf := mx_sv_el hf; obtain ⟨u16, e_u16, hf⟩ := hf
          refine sx_cv hm dX7_typeOfKind_51 rs_RX7_66 mt_X7_classOf [.ref a1, .int v13, .int v14] [] (b := a0) (ci := 7) rfl rfl rfl c15 (Nat.le_of_ble_eq_true rfl) (Nat.le_of_ble_eq_true rfl) (by omega) (by omega) (f_X7_classOf_ok X (by omega) (by omega) nn a0 a1 v13 v14 u2.2 e_u16) ?_
          clear e_u16
          show mx_S X F L 205 54 [(4, .int u2.1), (0, .ref a0), (1, .ref a1), (2, .int a2), (3, .int a3)] [.int u16.1] u16.2 0 0 (some (.int r.1), r.2, 0, 0)
          cases hf
          exact sx_ire hm dX7_typeOfKind_54 rfl rfl
      · refine sb_ic_ne hm dX7_typeOfKind_29 (tgt := 36) rfl (fun z => absurd z c18) (fun _ => ?_)
        refine sx_si (v := 303) hm dX7_typeOfKind_32 (by decide) ?_
        cases hf
        exact sx_ire hm dX7_typeOfKind_35 rfl rfl
    · refine sb_ic_ne hm dX7_typeOfKind_18 (tgt := 25) rfl (fun z => absurd z c19) (fun _ => ?_)
      refine sx_si (v := 301) hm dX7_typeOfKind_21 (by decide) ?_
      cases hf
      exact sx_ire hm dX7_typeOfKind_24 rfl rfl
set_option maxHeartbeats 4000000 in
set_option maxRecDepth 20000 in
theorem j_X7_readKind_130_ok (X : Nat × (Nat → Int32)) {F L : Nat} (hF : 7 ≤ F) (hL : 162 ≤ L) (nn : Nat) (l0 : Nat) (l1 : Nat) (l3 : Nat) (l4 : Int32) (l5 : Int32) (l6 : Int32) (l7 : Int32) (h : mx_H) {r : (Int32 × mx_H)} (hf : j_X7_readKind_130 nn l0 l1 l3 l4 l5 l6 l7 h = some r) : mx_S X F L 207 130 [(0, .ref l0), (1, .ref l1), (3, .ref l3), (4, .int l4), (5, .int l5), (6, .int l6), (7, .int l7)] [] h 0 0 (some (.int r.1), r.2, 0, 0) := by
  have hm : mx_mt 207 = some (yX7_readKind, cX7_readKind, 9, (some .int)) := mt_X7_readKind
  unfold j_X7_readKind_130 at hf
  refine mx_S.pu (pc2 := 131) (lv2 := [(0, .ref l0), (1, .ref l1), (3, .ref l3), (4, .int l4), (5, .int l5), (6, .int l6), (7, .int l7)]) (st2 := [.ref l3]) hm dX7_readKind_130 rfl ?_
  refine mx_S.pu (pc2 := 133) (lv2 := [(0, .ref l0), (1, .ref l1), (3, .ref l3), (4, .int l4), (5, .int l5), (6, .int l6), (7, .int l7)]) (st2 := [.int l4, .ref l3]) hm dX7_readKind_131 rfl ?_
  refine mx_S.pu (pc2 := 134) (lv2 := [(0, .ref l0), (1, .ref l1), (3, .ref l3), (4, .int l4), (5, .int l5), (6, .int l6), (7, .int l7)]) (st2 := [.ref l0, .int l4, .ref l3]) hm dX7_readKind_133 rfl ?_
  refine mx_S.pu (pc2 := 135) (lv2 := [(0, .ref l0), (1, .ref l1), (3, .ref l3), (4, .int l4), (5, .int l5), (6, .int l6), (7, .int l7)]) (st2 := [.ref l1, .ref l0, .int l4, .ref l3]) hm dX7_readKind_134 rfl ?_
  refine mx_S.pu (pc2 := 137) (lv2 := [(0, .ref l0), (1, .ref l1), (3, .ref l3), (4, .int l4), (5, .int l5), (6, .int l6), (7, .int l7)]) (st2 := [.int l6, .ref l1, .ref l0, .int l4, .ref l3]) hm dX7_readKind_135 rfl ?_
  refine sx_ic (v := 1) hm dX7_readKind_137 (by decide) ?_
  replace hf := xl_el hf; obtain ⟨v1, e_v1, hf⟩ := hf
  refine mx_S.pu (pc2 := 139) (lv2 := [(0, .ref l0), (1, .ref l1), (3, .ref l3), (4, .int l4), (5, .int l5), (6, .int l6), (7, .int l7)]) (st2 := [.int v1, .ref l1, .ref l0, .int l4, .ref l3]) hm dX7_readKind_138 (by rw [← e_v1]; rfl) ?_
  clear e_v1
  refine mx_S.pu (pc2 := 141) (lv2 := [(0, .ref l0), (1, .ref l1), (3, .ref l3), (4, .int l4), (5, .int l5), (6, .int l6), (7, .int l7)]) (st2 := [.int l5, .int v1, .ref l1, .ref l0, .int l4, .ref l3]) hm dX7_readKind_139 rfl ?_
  replace hf := mx_gd_el hf; obtain ⟨c2, hf⟩ := hf
  replace hf := mx_sv_el hf; obtain ⟨u3, e_u3, hf⟩ := hf
  refine sx_cv hm dX7_readKind_141 rs_RX7_123 mt_X7_typeOfKind [.ref l1, .int v1, .int l5] [.int l4, .ref l3] (b := l0) (ci := 7) rfl rfl rfl c2 (Nat.le_of_ble_eq_true rfl) (Nat.le_of_ble_eq_true rfl) (by omega) (by omega) (f_X7_typeOfKind_ok X (by omega) (by omega) nn l0 l1 v1 l5 h e_u3) ?_
  clear e_u3
  show mx_S X F L 207 144 [(0, .ref l0), (1, .ref l1), (3, .ref l3), (4, .int l4), (5, .int l5), (6, .int l6), (7, .int l7)] [.int u3.1, .int l4, .ref l3] u3.2 0 0 (some (.int r.1), r.2, 0, 0)
  replace hf := mx_sv_el hf; obtain ⟨h4, e_h4, hf⟩ := hf
  refine sx_ast hm dX7_readKind_144 e_h4 ?_
  clear e_h4
  refine mx_S.pu (pc2 := 147) (lv2 := [(0, .ref l0), (1, .ref l1), (3, .ref l3), (4, .int l4), (5, .int l5), (6, .int l6), (7, .int l7)]) (st2 := [.int l7]) hm dX7_readKind_145 rfl ?_
  cases hf
  exact sx_ire hm dX7_readKind_147 rfl rfl
set_option maxHeartbeats 4000000 in
set_option maxRecDepth 20000 in
theorem w_X7_readKind_63_ok (X : Nat × (Nat → Int32)) {F L : Nat} (hF : 7 ≤ F) (hL : 162 ≤ L) (nn : Nat) : ∀ (k : Nat) (l0 : Nat) (l1 : Nat) (l3 : Nat) (l4 : Int32) (l5 : Int32) (l6 : Int32) (l7 : Int32) (h : mx_H) (r : (Int32 × mx_H)), w_X7_readKind_63 nn k l0 l1 l3 l4 l5 l6 l7 h = some r → mx_S X F L 207 63 [(0, .ref l0), (1, .ref l1), (3, .ref l3), (4, .int l4), (5, .int l5), (6, .int l6), (7, .int l7)] [] h 0 0 (some (.int r.1), r.2, 0, 0) := by
  have hm : mx_mt 207 = some (yX7_readKind, cX7_readKind, 9, (some .int)) := mt_X7_readKind
  intro k
  induction k with
  | zero => intro l0 l1 l3 l4 l5 l6 l7 h r hf; cases hf
  | succ k ih =>
    intro l0 l1 l3 l4 l5 l6 l7 h r hf
    unfold w_X7_readKind_63 at hf
    refine mx_S.pu (pc2 := 65) (lv2 := [(0, .ref l0), (1, .ref l1), (3, .ref l3), (4, .int l4), (5, .int l5), (6, .int l6), (7, .int l7)]) (st2 := [.int l7]) hm dX7_readKind_63 rfl ?_
    refine sx_bi (v := 6) hm dX7_readKind_65 (by decide) ?_
    rcases mx_if_el hf with ⟨c17, hf⟩ | ⟨c17, hf⟩
    · refine sb_ic_ge hm dX7_readKind_67 (tgt := 130) rfl (fun _ => ?_) (fun z => absurd c17 z)
      exact j_X7_readKind_130_ok X hF hL nn l0 l1 l3 l4 l5 l6 l7 h hf
    · refine sb_ic_ge hm dX7_readKind_67 (tgt := 130) rfl (fun z => absurd z c17) (fun _ => ?_)
      refine mx_S.pu (pc2 := 72) (lv2 := [(0, .ref l0), (1, .ref l1), (3, .ref l3), (4, .int l4), (5, .int l5), (6, .int l6), (7, .int l7)]) (st2 := [.int l6]) hm dX7_readKind_70 rfl ?_
      refine sx_ic (v := (-1)) hm dX7_readKind_72 (by decide) ?_
      rcases mx_if_el hf with ⟨c16, hf⟩ | ⟨c16, hf⟩
      · refine sb_ic_eq hm dX7_readKind_73 (tgt := 130) rfl (fun _ => ?_) (fun z => absurd c16 z)
        exact j_X7_readKind_130_ok X hF hL nn l0 l1 l3 l4 l5 l6 l7 h hf
      · refine sb_ic_eq hm dX7_readKind_73 (tgt := 130) rfl (fun z => absurd z c16) (fun _ => ?_)
        refine mx_S.pu (pc2 := 78) (lv2 := [(0, .ref l0), (1, .ref l1), (3, .ref l3), (4, .int l4), (5, .int l5), (6, .int l6), (7, .int l7)]) (st2 := [.int l6]) hm dX7_readKind_76 rfl ?_
        refine mx_S.pu (pc2 := 80) (lv2 := [(0, .ref l0), (1, .ref l1), (3, .ref l3), (4, .int l4), (5, .int l5), (6, .int l6), (7, .int l7)]) (st2 := [.int l5, .int l6]) hm dX7_readKind_78 rfl ?_
        rcases mx_if_el hf with ⟨c15, hf⟩ | ⟨c15, hf⟩
        · refine sb_ic_ge hm dX7_readKind_80 (tgt := 130) rfl (fun _ => ?_) (fun z => absurd c15 z)
          exact j_X7_readKind_130_ok X hF hL nn l0 l1 l3 l4 l5 l6 l7 h hf
        · refine sb_ic_ge hm dX7_readKind_80 (tgt := 130) rfl (fun z => absurd z c15) (fun _ => ?_)
          refine mx_S.pu (pc2 := 84) (lv2 := [(0, .ref l0), (1, .ref l1), (3, .ref l3), (4, .int l4), (5, .int l5), (6, .int l6), (7, .int l7)]) (st2 := [.ref l1]) hm dX7_readKind_83 rfl ?_
          refine mx_S.pu (pc2 := 86) (lv2 := [(0, .ref l0), (1, .ref l1), (3, .ref l3), (4, .int l4), (5, .int l5), (6, .int l6), (7, .int l7)]) (st2 := [.int l6, .ref l1]) hm dX7_readKind_84 rfl ?_
          replace hf := mx_gd_el hf; obtain ⟨c5, hf⟩ := hf
          replace hf := mx_sv_el hf; obtain ⟨u6, e_u6, hf⟩ := hf
          refine sx_cv hm dX7_readKind_86 rs_RX7_117 mt_X3_byteAt [.int l6] [] (b := l1) (ci := 3) rfl rfl rfl c5 (Nat.le_of_ble_eq_true rfl) (Nat.le_of_ble_eq_true rfl) (by omega) (by omega) (f_X3_byteAt_ok X (by omega) (by omega) nn l1 l6 h e_u6) ?_
          clear e_u6
          show mx_S X F L 207 89 [(0, .ref l0), (1, .ref l1), (3, .ref l3), (4, .int l4), (5, .int l5), (6, .int l6), (7, .int l7)] [.int u6.1] u6.2 0 0 (some (.int r.1), r.2, 0, 0)
          refine sx_bi (v := 41) hm dX7_readKind_89 (by decide) ?_
          rcases mx_if_el hf with ⟨c14, hf⟩ | ⟨c14, hf⟩
          · refine sb_ic_eq hm dX7_readKind_91 (tgt := 130) rfl (fun _ => ?_) (fun z => absurd c14 z)
            exact j_X7_readKind_130_ok X hF hL nn l0 l1 l3 l4 l5 l6 l7 u6.2 hf
          · refine sb_ic_eq hm dX7_readKind_91 (tgt := 130) rfl (fun z => absurd z c14) (fun _ => ?_)
            refine mx_S.pu (pc2 := 95) (lv2 := [(0, .ref l0), (1, .ref l1), (3, .ref l3), (4, .int l4), (5, .int l5), (6, .int l6), (7, .int l7)]) (st2 := [.ref l1]) hm dX7_readKind_94 rfl ?_
            refine mx_S.pu (pc2 := 97) (lv2 := [(0, .ref l0), (1, .ref l1), (3, .ref l3), (4, .int l4), (5, .int l5), (6, .int l6), (7, .int l7)]) (st2 := [.int l6, .ref l1]) hm dX7_readKind_95 rfl ?_
            refine mx_S.pu (pc2 := 99) (lv2 := [(0, .ref l0), (1, .ref l1), (3, .ref l3), (4, .int l4), (5, .int l5), (6, .int l6), (7, .int l7)]) (st2 := [.int l5, .int l6, .ref l1]) hm dX7_readKind_97 rfl ?_
            replace hf := mx_gd_el hf; obtain ⟨c7, hf⟩ := hf
            replace hf := mx_sv_el hf; obtain ⟨u8, e_u8, hf⟩ := hf
            refine sx_cv hm dX7_readKind_99 rs_RX7_126 mt_X3_behindKind [.int l6, .int l5] [] (b := l1) (ci := 3) rfl rfl rfl c7 (Nat.le_of_ble_eq_true rfl) (Nat.le_of_ble_eq_true rfl) (by omega) (by omega) (f_X3_behindKind_ok X (by omega) (by omega) nn l1 l6 l5 u6.2 e_u8) ?_
            clear e_u8
            show mx_S X F L 207 102 [(0, .ref l0), (1, .ref l1), (3, .ref l3), (4, .int l4), (5, .int l5), (6, .int l6), (7, .int l7)] [.int u8.1] u8.2 0 0 (some (.int r.1), r.2, 0, 0)
            refine mx_S.pu (pc2 := 104) (lv2 := [(8, .int u8.1), (0, .ref l0), (1, .ref l1), (3, .ref l3), (4, .int l4), (5, .int l5), (6, .int l6), (7, .int l7)]) (st2 := []) hm dX7_readKind_102 rfl ?_
            replace hf := xl_el hf; obtain ⟨v9, e_v9, hf⟩ := hf
            refine mx_S.pu (pc2 := 107) (lv2 := [(7, .int v9), (8, .int u8.1), (0, .ref l0), (1, .ref l1), (3, .ref l3), (4, .int l4), (5, .int l5), (6, .int l6)]) (st2 := []) hm dX7_readKind_104 (by rw [← e_v9]; rfl) ?_
            clear e_v9
            refine mx_S.pu (pc2 := 108) (lv2 := [(7, .int v9), (8, .int u8.1), (0, .ref l0), (1, .ref l1), (3, .ref l3), (4, .int l4), (5, .int l5), (6, .int l6)]) (st2 := [.ref l3]) hm dX7_readKind_107 rfl ?_
            refine mx_S.pu (pc2 := 110) (lv2 := [(7, .int v9), (8, .int u8.1), (0, .ref l0), (1, .ref l1), (3, .ref l3), (4, .int l4), (5, .int l5), (6, .int l6)]) (st2 := [.int l4, .ref l3]) hm dX7_readKind_108 rfl ?_
            refine mx_S.pu (pc2 := 112) (lv2 := [(7, .int v9), (8, .int u8.1), (0, .ref l0), (1, .ref l1), (3, .ref l3), (4, .int l4), (5, .int l5), (6, .int l6)]) (st2 := [.int v9, .int l4, .ref l3]) hm dX7_readKind_110 rfl ?_
            replace hf := xl_el hf; obtain ⟨v10, e_v10, hf⟩ := hf
            refine mx_S.pu (pc2 := 113) (lv2 := [(7, .int v9), (8, .int u8.1), (0, .ref l0), (1, .ref l1), (3, .ref l3), (4, .int l4), (5, .int l5), (6, .int l6)]) (st2 := [.int v10, .ref l3]) hm dX7_readKind_112 (by rw [← e_v10]; rfl) ?_
            clear e_v10
            refine mx_S.pu (pc2 := 114) (lv2 := [(7, .int v9), (8, .int u8.1), (0, .ref l0), (1, .ref l1), (3, .ref l3), (4, .int l4), (5, .int l5), (6, .int l6)]) (st2 := [.ref l0, .int v10, .ref l3]) hm dX7_readKind_113 rfl ?_
            refine mx_S.pu (pc2 := 115) (lv2 := [(7, .int v9), (8, .int u8.1), (0, .ref l0), (1, .ref l1), (3, .ref l3), (4, .int l4), (5, .int l5), (6, .int l6)]) (st2 := [.ref l1, .ref l0, .int v10, .ref l3]) hm dX7_readKind_114 rfl ?_
            refine mx_S.pu (pc2 := 117) (lv2 := [(7, .int v9), (8, .int u8.1), (0, .ref l0), (1, .ref l1), (3, .ref l3), (4, .int l4), (5, .int l5), (6, .int l6)]) (st2 := [.int l6, .ref l1, .ref l0, .int v10, .ref l3]) hm dX7_readKind_115 rfl ?_
            refine mx_S.pu (pc2 := 119) (lv2 := [(7, .int v9), (8, .int u8.1), (0, .ref l0), (1, .ref l1), (3, .ref l3), (4, .int l4), (5, .int l5), (6, .int l6)]) (st2 := [.int u8.1, .int l6, .ref l1, .ref l0, .int v10, .ref l3]) hm dX7_readKind_117 rfl ?_
            replace hf := mx_gd_el hf; obtain ⟨c11, hf⟩ := hf
            replace hf := mx_sv_el hf; obtain ⟨u12, e_u12, hf⟩ := hf
            refine sx_cv hm dX7_readKind_119 rs_RX7_123 mt_X7_typeOfKind [.ref l1, .int l6, .int u8.1] [.int v10, .ref l3] (b := l0) (ci := 7) rfl rfl rfl c11 (Nat.le_of_ble_eq_true rfl) (Nat.le_of_ble_eq_true rfl) (by omega) (by omega) (f_X7_typeOfKind_ok X (by omega) (by omega) nn l0 l1 l6 u8.1 u8.2 e_u12) ?_
            clear e_u12
            show mx_S X F L 207 122 [(7, .int v9), (8, .int u8.1), (0, .ref l0), (1, .ref l1), (3, .ref l3), (4, .int l4), (5, .int l5), (6, .int l6)] [.int u12.1, .int v10, .ref l3] u12.2 0 0 (some (.int r.1), r.2, 0, 0)
            replace hf := mx_sv_el hf; obtain ⟨h13, e_h13, hf⟩ := hf
            refine sx_ast hm dX7_readKind_122 e_h13 ?_
            clear e_h13
            refine mx_S.pu (pc2 := 125) (lv2 := [(7, .int v9), (8, .int u8.1), (0, .ref l0), (1, .ref l1), (3, .ref l3), (4, .int l4), (5, .int l5), (6, .int l6)]) (st2 := [.int u8.1]) hm dX7_readKind_123 rfl ?_
            refine mx_S.pu (pc2 := 127) (lv2 := [(6, .int u8.1), (7, .int v9), (8, .int u8.1), (0, .ref l0), (1, .ref l1), (3, .ref l3), (4, .int l4), (5, .int l5)]) (st2 := []) hm dX7_readKind_125 rfl ?_
            refine mx_S.pu (pc2 := 63) (lv2 := [(6, .int u8.1), (7, .int v9), (8, .int u8.1), (0, .ref l0), (1, .ref l1), (3, .ref l3), (4, .int l4), (5, .int l5)]) (st2 := []) hm dX7_readKind_127 rfl ?_
            refine mx_S.ext [(0, .ref l0), (1, .ref l1), (3, .ref l3), (4, .int l4), (5, .int l5), (6, .int u8.1), (7, .int v9)] (mx_sub_pos [3, 4, 5, 6, 7, 0, 1] rfl (show ([6, 7, 8, 0, 1, 3, 4, 5] : List Nat).Nodup by decide)) ?_
            exact ih l0 l1 l3 l4 l5 u8.1 v9 h13 _ hf
set_option maxHeartbeats 4000000 in
set_option maxRecDepth 20000 in
theorem f_X7_readKind_ok (X : Nat × (Nat → Int32)) {F L : Nat} (hF : 7 ≤ F) (hL : 162 ≤ L) (nn : Nat) (a0 : Nat) (a1 : Nat) (a2 : Int32) (a3 : Nat) (a4 : Int32) (h : mx_H) {r : (Int32 × mx_H)} (hf : f_X7_readKind nn a0 a1 a2 a3 a4 h = some r) : mx_R X F L 207 [.ref a0, .ref a1, .int a2, .ref a3, .int a4] h (some (.int r.1), r.2, 0, 0) := by
  have hm : mx_mt 207 = some (yX7_readKind, cX7_readKind, 9, (some .int)) := mt_X7_readKind
  show mx_S X F L 207 0 [(0, .ref a0), (1, .ref a1), (2, .int a2), (3, .ref a3), (4, .int a4)] [] h 0 0 (some (.int r.1), r.2, 0, 0)
  unfold f_X7_readKind at hf
  refine mx_S.pu (pc2 := 1) (lv2 := [(0, .ref a0), (1, .ref a1), (2, .int a2), (3, .ref a3), (4, .int a4)]) (st2 := [.ref a1]) hm dX7_readKind_0 rfl ?_
  refine mx_S.pu (pc2 := 2) (lv2 := [(0, .ref a0), (1, .ref a1), (2, .int a2), (3, .ref a3), (4, .int a4)]) (st2 := [.int a2, .ref a1]) hm dX7_readKind_1 rfl ?_
  replace hf := mx_gd_el hf; obtain ⟨c18, hf⟩ := hf
  replace hf := mx_sv_el hf; obtain ⟨u19, e_u19, hf⟩ := hf
  refine sx_cv hm dX7_readKind_2 rs_RX7_63 mt_X3_textEnd [.int a2] [] (b := a1) (ci := 3) rfl rfl rfl c18 (Nat.le_of_ble_eq_true rfl) (Nat.le_of_ble_eq_true rfl) (by omega) (by omega) (f_X3_textEnd_ok X (by omega) (by omega) nn a1 a2 h e_u19) ?_
  clear e_u19
  show mx_S X F L 207 5 [(0, .ref a0), (1, .ref a1), (2, .int a2), (3, .ref a3), (4, .int a4)] [.int u19.1] u19.2 0 0 (some (.int r.1), r.2, 0, 0)
  refine mx_S.pu (pc2 := 7) (lv2 := [(5, .int u19.1), (0, .ref a0), (1, .ref a1), (2, .int a2), (3, .ref a3), (4, .int a4)]) (st2 := []) hm dX7_readKind_5 rfl ?_
  refine mx_S.pu (pc2 := 8) (lv2 := [(5, .int u19.1), (0, .ref a0), (1, .ref a1), (2, .int a2), (3, .ref a3), (4, .int a4)]) (st2 := [.ref a1]) hm dX7_readKind_7 rfl ?_
  refine mx_S.pu (pc2 := 9) (lv2 := [(5, .int u19.1), (0, .ref a0), (1, .ref a1), (2, .int a2), (3, .ref a3), (4, .int a4)]) (st2 := [.int a2, .ref a1]) hm dX7_readKind_8 rfl ?_
  replace hf := mx_gd_el hf; obtain ⟨c20, hf⟩ := hf
  replace hf := mx_sv_el hf; obtain ⟨u21, e_u21, hf⟩ := hf
  refine sx_cv hm dX7_readKind_9 rs_RX7_59 mt_X3_textAt [.int a2] [] (b := a1) (ci := 3) rfl rfl rfl c20 (Nat.le_of_ble_eq_true rfl) (Nat.le_of_ble_eq_true rfl) (by omega) (by omega) (f_X3_textAt_ok X (by omega) (by omega) nn a1 a2 u19.2 e_u21) ?_
  clear e_u21
  show mx_S X F L 207 12 [(5, .int u19.1), (0, .ref a0), (1, .ref a1), (2, .int a2), (3, .ref a3), (4, .int a4)] [.int u21.1] u21.2 0 0 (some (.int r.1), r.2, 0, 0)
  refine mx_S.pu (pc2 := 14) (lv2 := [(6, .int u21.1), (5, .int u19.1), (0, .ref a0), (1, .ref a1), (2, .int a2), (3, .ref a3), (4, .int a4)]) (st2 := []) hm dX7_readKind_12 rfl ?_
  refine mx_S.pu (pc2 := 16) (lv2 := [(6, .int u21.1), (5, .int u19.1), (0, .ref a0), (1, .ref a1), (2, .int a2), (3, .ref a3), (4, .int a4)]) (st2 := [.int a4]) hm dX7_readKind_14 rfl ?_
  rcases mx_if_el hf with ⟨c32, hf⟩ | ⟨c32, hf⟩
  · refine sb_if_lt hm dX7_readKind_16 (tgt := 29) rfl (fun _ => ?_) (fun z => absurd c32 z)
    refine sx_ic (v := 0) hm dX7_readKind_29 (by decide) ?_
    cases hf
    exact sx_ire hm dX7_readKind_30 rfl rfl
  · refine sb_if_lt hm dX7_readKind_16 (tgt := 29) rfl (fun z => absurd z c32) (fun _ => ?_)
    refine mx_S.pu (pc2 := 21) (lv2 := [(6, .int u21.1), (5, .int u19.1), (0, .ref a0), (1, .ref a1), (2, .int a2), (3, .ref a3), (4, .int a4)]) (st2 := [.int a4]) hm dX7_readKind_19 rfl ?_
    refine sx_bi (v := 6) hm dX7_readKind_21 (by decide) ?_
    replace hf := xl_el hf; obtain ⟨v22, e_v22, hf⟩ := hf
    refine mx_S.pu (pc2 := 24) (lv2 := [(6, .int u21.1), (5, .int u19.1), (0, .ref a0), (1, .ref a1), (2, .int a2), (3, .ref a3), (4, .int a4)]) (st2 := [.int v22]) hm dX7_readKind_23 (by rw [← e_v22]; rfl) ?_
    clear e_v22
    refine mx_S.pu (pc2 := 25) (lv2 := [(6, .int u21.1), (5, .int u19.1), (0, .ref a0), (1, .ref a1), (2, .int a2), (3, .ref a3), (4, .int a4)]) (st2 := [.ref a3, .int v22]) hm dX7_readKind_24 rfl ?_
    replace hf := mx_sv_el hf; obtain ⟨v23, e_v23, hf⟩ := hf
    refine sx_len hm dX7_readKind_25 e_v23 ?_
    clear e_v23
    rcases mx_if_el hf with ⟨c31, hf⟩ | ⟨c31, hf⟩
    · refine sb_ic_lt hm dX7_readKind_26 (tgt := 31) rfl (fun _ => ?_) (fun z => absurd c31 z)
      refine mx_S.pu (pc2 := 32) (lv2 := [(6, .int u21.1), (5, .int u19.1), (0, .ref a0), (1, .ref a1), (2, .int a2), (3, .ref a3), (4, .int a4)]) (st2 := [.ref a1]) hm dX7_readKind_31 rfl ?_
      refine mx_S.pu (pc2 := 34) (lv2 := [(6, .int u21.1), (5, .int u19.1), (0, .ref a0), (1, .ref a1), (2, .int a2), (3, .ref a3), (4, .int a4)]) (st2 := [.int u21.1, .ref a1]) hm dX7_readKind_32 rfl ?_
      replace hf := mx_gd_el hf; obtain ⟨c24, hf⟩ := hf
      replace hf := mx_sv_el hf; obtain ⟨u25, e_u25, hf⟩ := hf
      refine sx_cv hm dX7_readKind_34 rs_RX7_117 mt_X3_byteAt [.int u21.1] [] (b := a1) (ci := 3) rfl rfl rfl c24 (Nat.le_of_ble_eq_true rfl) (Nat.le_of_ble_eq_true rfl) (by omega) (by omega) (f_X3_byteAt_ok X (by omega) (by omega) nn a1 u21.1 u21.2 e_u25) ?_
      clear e_u25
      show mx_S X F L 207 37 [(6, .int u21.1), (5, .int u19.1), (0, .ref a0), (1, .ref a1), (2, .int a2), (3, .ref a3), (4, .int a4)] [.int u25.1] u25.2 0 0 (some (.int r.1), r.2, 0, 0)
      refine sx_bi (v := 40) hm dX7_readKind_37 (by decide) ?_
      rcases mx_if_el hf with ⟨c30, hf⟩ | ⟨c30, hf⟩
      · refine sb_ic_eq hm dX7_readKind_39 (tgt := 57) rfl (fun _ => ?_) (fun z => absurd c30 z)
        replace hf := xl_el hf; obtain ⟨v26, e_v26, hf⟩ := hf
        refine mx_S.pu (pc2 := 60) (lv2 := [(6, .int v26), (5, .int u19.1), (0, .ref a0), (1, .ref a1), (2, .int a2), (3, .ref a3), (4, .int a4)]) (st2 := []) hm dX7_readKind_57 (by rw [← e_v26]; rfl) ?_
        clear e_v26
        refine sx_ic (v := 0) hm dX7_readKind_60 (by decide) ?_
        refine mx_S.pu (pc2 := 63) (lv2 := [(7, .int 0), (6, .int v26), (5, .int u19.1), (0, .ref a0), (1, .ref a1), (2, .int a2), (3, .ref a3), (4, .int a4)]) (st2 := []) hm dX7_readKind_61 rfl ?_
        refine mx_S.ext [(0, .ref a0), (1, .ref a1), (3, .ref a3), (4, .int a4), (5, .int u19.1), (6, .int v26), (7, .int 0)] (mx_sub_pos [3, 4, 6, 7, 2, 1, 0] rfl (show ([7, 6, 5, 0, 1, 2, 3, 4] : List Nat).Nodup by decide)) ?_
        exact w_X7_readKind_63_ok X hF hL nn nn a0 a1 a3 a4 u19.1 v26 0 u25.2 _ hf
      · refine sb_ic_eq hm dX7_readKind_39 (tgt := 57) rfl (fun z => absurd z c30) (fun _ => ?_)
        refine mx_S.pu (pc2 := 43) (lv2 := [(6, .int u21.1), (5, .int u19.1), (0, .ref a0), (1, .ref a1), (2, .int a2), (3, .ref a3), (4, .int a4)]) (st2 := [.ref a3]) hm dX7_readKind_42 rfl ?_
        refine mx_S.pu (pc2 := 45) (lv2 := [(6, .int u21.1), (5, .int u19.1), (0, .ref a0), (1, .ref a1), (2, .int a2), (3, .ref a3), (4, .int a4)]) (st2 := [.int a4, .ref a3]) hm dX7_readKind_43 rfl ?_
        refine mx_S.pu (pc2 := 46) (lv2 := [(6, .int u21.1), (5, .int u19.1), (0, .ref a0), (1, .ref a1), (2, .int a2), (3, .ref a3), (4, .int a4)]) (st2 := [.ref a0, .int a4, .ref a3]) hm dX7_readKind_45 rfl ?_
        refine mx_S.pu (pc2 := 47) (lv2 := [(6, .int u21.1), (5, .int u19.1), (0, .ref a0), (1, .ref a1), (2, .int a2), (3, .ref a3), (4, .int a4)]) (st2 := [.ref a1, .ref a0, .int a4, .ref a3]) hm dX7_readKind_46 rfl ?_
        refine mx_S.pu (pc2 := 49) (lv2 := [(6, .int u21.1), (5, .int u19.1), (0, .ref a0), (1, .ref a1), (2, .int a2), (3, .ref a3), (4, .int a4)]) (st2 := [.int u21.1, .ref a1, .ref a0, .int a4, .ref a3]) hm dX7_readKind_47 rfl ?_
        refine mx_S.pu (pc2 := 51) (lv2 := [(6, .int u21.1), (5, .int u19.1), (0, .ref a0), (1, .ref a1), (2, .int a2), (3, .ref a3), (4, .int a4)]) (st2 := [.int u19.1, .int u21.1, .ref a1, .ref a0, .int a4, .ref a3]) hm dX7_readKind_49 rfl ?_
        replace hf := mx_gd_el hf; obtain ⟨c27, hf⟩ := hf
        replace hf := mx_sv_el hf; obtain ⟨u28, e_u28, hf⟩ := hf
        refine sx_cv hm dX7_readKind_51 rs_RX7_123 mt_X7_typeOfKind [.ref a1, .int u21.1, .int u19.1] [.int a4, .ref a3] (b := a0) (ci := 7) rfl rfl rfl c27 (Nat.le_of_ble_eq_true rfl) (Nat.le_of_ble_eq_true rfl) (by omega) (by omega) (f_X7_typeOfKind_ok X (by omega) (by omega) nn a0 a1 u21.1 u19.1 u25.2 e_u28) ?_
        clear e_u28
        show mx_S X F L 207 54 [(6, .int u21.1), (5, .int u19.1), (0, .ref a0), (1, .ref a1), (2, .int a2), (3, .ref a3), (4, .int a4)] [.int u28.1, .int a4, .ref a3] u28.2 0 0 (some (.int r.1), r.2, 0, 0)
        replace hf := mx_sv_el hf; obtain ⟨h29, e_h29, hf⟩ := hf
        refine sx_ast hm dX7_readKind_54 e_h29 ?_
        clear e_h29
        refine sx_ic (v := 0) hm dX7_readKind_55 (by decide) ?_
        cases hf
        exact sx_ire hm dX7_readKind_56 rfl rfl
    · refine sb_ic_lt hm dX7_readKind_26 (tgt := 31) rfl (fun z => absurd z c31) (fun _ => ?_)
      refine sx_ic (v := 0) hm dX7_readKind_29 (by decide) ?_
      cases hf
      exact sx_ire hm dX7_readKind_30 rfl rfl
set_option maxHeartbeats 4000000 in
set_option maxRecDepth 20000 in
theorem j_X11_areKindsThere_133_ok (X : Nat × (Nat → Int32)) {F L : Nat} (hF : 8 ≤ F) (hL : 190 ≤ L) (nn : Nat) {kk_68 : Nat → Int32 → Int32 → mx_H → Option (Int32 × mx_H)} (hk_68 : ∀ (l0 : Nat) (l1 : Int32) (l2 : Int32) (h : mx_H) (r : (Int32 × mx_H)), kk_68 l0 l1 l2 h = some r → mx_S X F L 312 68 [(0, .ref l0), (1, .int l1), (2, .int l2)] [] h 0 0 (some (.int r.1), r.2, 0, 0)) {kk_108 : Nat → Int32 → Int32 → Int32 → Int32 → mx_H → Option (Int32 × mx_H)} (hk_108 : ∀ (l0 : Nat) (l1 : Int32) (l2 : Int32) (l3 : Int32) (l4 : Int32) (h : mx_H) (r : (Int32 × mx_H)), kk_108 l0 l1 l2 l3 l4 h = some r → mx_S X F L 312 108 [(0, .ref l0), (1, .int l1), (2, .int l2), (3, .int l3), (4, .int l4)] [] h 0 0 (some (.int r.1), r.2, 0, 0)) (l0 : Nat) (l2 : Int32) (l3 : Int32) (l4 : Int32) (h : mx_H) {r : (Int32 × mx_H)} (hf : j_X11_areKindsThere_133 nn kk_68 kk_108 l0 l2 l3 l4 h = some r) : mx_S X F L 312 133 [(0, .ref l0), (2, .int l2), (3, .int l3), (4, .int l4)] [] h 0 0 (some (.int r.1), r.2, 0, 0) := by
  have hm : mx_mt 312 = some (yX11_areKindsThere, cX11_areKindsThere, 5, (some .boolean)) := mt_X11_areKindsThere
  unfold j_X11_areKindsThere_133 at hf
  refine sx_ic (v := 0) hm dX11_areKindsThere_133 (by decide) ?_
  refine mx_S.pu (pc2 := 135) (lv2 := [(1, .int 0), (0, .ref l0), (2, .int l2), (3, .int l3), (4, .int l4)]) (st2 := []) hm dX11_areKindsThere_134 rfl ?_
  replace hf := xl_el hf; obtain ⟨v1, e_v1, hf⟩ := hf
  refine mx_S.pu (pc2 := 138) (lv2 := [(4, .int v1), (1, .int 0), (0, .ref l0), (2, .int l2), (3, .int l3)]) (st2 := []) hm dX11_areKindsThere_135 (by rw [← e_v1]; rfl) ?_
  clear e_v1
  refine mx_S.pu (pc2 := 108) (lv2 := [(4, .int v1), (1, .int 0), (0, .ref l0), (2, .int l2), (3, .int l3)]) (st2 := []) hm dX11_areKindsThere_138 rfl ?_
  refine mx_S.ext [(0, .ref l0), (1, .int 0), (2, .int l2), (3, .int l3), (4, .int v1)] (mx_sub_pos [2, 1, 3, 4, 0] rfl (show ([4, 1, 0, 2, 3] : List Nat).Nodup by decide)) ?_
  exact hk_108 l0 0 l2 l3 v1 h _ hf
set_option maxHeartbeats 4000000 in
set_option maxRecDepth 20000 in
theorem w_X11_areKindsThere_108_ok (X : Nat × (Nat → Int32)) {F L : Nat} (hF : 8 ≤ F) (hL : 190 ≤ L) (nn : Nat) {kk_68 : Nat → Int32 → Int32 → mx_H → Option (Int32 × mx_H)} (hk_68 : ∀ (l0 : Nat) (l1 : Int32) (l2 : Int32) (h : mx_H) (r : (Int32 × mx_H)), kk_68 l0 l1 l2 h = some r → mx_S X F L 312 68 [(0, .ref l0), (1, .int l1), (2, .int l2)] [] h 0 0 (some (.int r.1), r.2, 0, 0)) : ∀ (k : Nat) (l0 : Nat) (l1 : Int32) (l2 : Int32) (l3 : Int32) (l4 : Int32) (h : mx_H) (r : (Int32 × mx_H)), w_X11_areKindsThere_108 nn kk_68 k l0 l1 l2 l3 l4 h = some r → mx_S X F L 312 108 [(0, .ref l0), (1, .int l1), (2, .int l2), (3, .int l3), (4, .int l4)] [] h 0 0 (some (.int r.1), r.2, 0, 0) := by
  have hm : mx_mt 312 = some (yX11_areKindsThere, cX11_areKindsThere, 5, (some .boolean)) := mt_X11_areKindsThere
  intro k
  induction k with
  | zero => intro l0 l1 l2 l3 l4 h r hf; cases hf
  | succ k ih =>
    intro l0 l1 l2 l3 l4 h r hf
    unfold w_X11_areKindsThere_108 at hf
    refine mx_S.pu (pc2 := 110) (lv2 := [(0, .ref l0), (1, .int l1), (2, .int l2), (3, .int l3), (4, .int l4)]) (st2 := [.int l4]) hm dX11_areKindsThere_108 rfl ?_
    refine mx_S.pu (pc2 := 111) (lv2 := [(0, .ref l0), (1, .int l1), (2, .int l2), (3, .int l3), (4, .int l4)]) (st2 := [.int l3, .int l4]) hm dX11_areKindsThere_110 rfl ?_
    rcases mx_if_el hf with ⟨c8, hf⟩ | ⟨c8, hf⟩
    · refine sb_ic_gt hm dX11_areKindsThere_111 (tgt := 141) rfl (fun _ => ?_) (fun z => absurd c8 z)
      replace hf := xl_el hf; obtain ⟨v2, e_v2, hf⟩ := hf
      refine mx_S.pu (pc2 := 144) (lv2 := [(2, .int v2), (0, .ref l0), (1, .int l1), (3, .int l3), (4, .int l4)]) (st2 := []) hm dX11_areKindsThere_141 (by rw [← e_v2]; rfl) ?_
      clear e_v2
      refine mx_S.pu (pc2 := 68) (lv2 := [(2, .int v2), (0, .ref l0), (1, .int l1), (3, .int l3), (4, .int l4)]) (st2 := []) hm dX11_areKindsThere_144 rfl ?_
      refine mx_S.ext [(0, .ref l0), (1, .int l1), (2, .int v2)] (mx_sub_pos [1, 2, 0] rfl (show ([2, 0, 1, 3, 4] : List Nat).Nodup by decide)) ?_
      exact hk_68 l0 l1 v2 h _ hf
    · refine sb_ic_gt hm dX11_areKindsThere_111 (tgt := 141) rfl (fun z => absurd z c8) (fun _ => ?_)
      refine mx_S.pu (pc2 := 115) (lv2 := [(0, .ref l0), (1, .int l1), (2, .int l2), (3, .int l3), (4, .int l4)]) (st2 := [.int l1]) hm dX11_areKindsThere_114 rfl ?_
      rcases mx_if_el hf with ⟨c7, hf⟩ | ⟨c7, hf⟩
      · refine sb_if_eq hm dX11_areKindsThere_115 (tgt := 133) rfl (fun _ => ?_) (fun z => absurd c7 z)
        refine mx_S.ext [(0, .ref l0), (2, .int l2), (3, .int l3), (4, .int l4)] (mx_sub_pos [0, 2, 3, 4] rfl (show ([0, 1, 2, 3, 4] : List Nat).Nodup by decide)) ?_
        exact j_X11_areKindsThere_133_ok X hF hL nn hk_68 ih l0 l2 l3 l4 h hf
      · refine sb_if_eq hm dX11_areKindsThere_115 (tgt := 133) rfl (fun z => absurd z c7) (fun _ => ?_)
        refine mx_S.pu (pc2 := 119) (lv2 := [(0, .ref l0), (1, .int l1), (2, .int l2), (3, .int l3), (4, .int l4)]) (st2 := [.ref l0]) hm dX11_areKindsThere_118 rfl ?_
        replace hf := mx_sv_el hf; obtain ⟨v3, e_v3, hf⟩ := hf
        refine sx_get hm dX11_areKindsThere_119 rs_RX11_33 (xgr_el e_v3) ?_
        clear e_v3
        refine mx_S.pu (pc2 := 124) (lv2 := [(0, .ref l0), (1, .int l1), (2, .int l2), (3, .int l3), (4, .int l4)]) (st2 := [.int l4, .ref v3]) hm dX11_areKindsThere_122 rfl ?_
        replace hf := mx_sv_el hf; obtain ⟨v4, e_v4, hf⟩ := hf
        refine sx_ald hm dX11_areKindsThere_124 e_v4 ?_
        clear e_v4
        refine sx_ic (v := (-1)) hm dX11_areKindsThere_125 (by decide) ?_
        rcases mx_if_el hf with ⟨c6, hf⟩ | ⟨c6, hf⟩
        · refine sb_ic_eq hm dX11_areKindsThere_126 (tgt := 133) rfl (fun _ => ?_) (fun z => absurd c6 z)
          refine mx_S.ext [(0, .ref l0), (2, .int l2), (3, .int l3), (4, .int l4)] (mx_sub_pos [0, 2, 3, 4] rfl (show ([0, 1, 2, 3, 4] : List Nat).Nodup by decide)) ?_
          exact j_X11_areKindsThere_133_ok X hF hL nn hk_68 ih l0 l2 l3 l4 h hf
        · refine sb_ic_eq hm dX11_areKindsThere_126 (tgt := 133) rfl (fun z => absurd z c6) (fun _ => ?_)
          refine sx_ic (v := 1) hm dX11_areKindsThere_129 (by decide) ?_
          refine mx_S.pu (pc2 := 134) (lv2 := [(0, .ref l0), (1, .int l1), (2, .int l2), (3, .int l3), (4, .int l4)]) (st2 := [.int 1]) hm dX11_areKindsThere_130 rfl ?_
          refine mx_S.pu (pc2 := 135) (lv2 := [(1, .int 1), (0, .ref l0), (2, .int l2), (3, .int l3), (4, .int l4)]) (st2 := []) hm dX11_areKindsThere_134 rfl ?_
          replace hf := xl_el hf; obtain ⟨v5, e_v5, hf⟩ := hf
          refine mx_S.pu (pc2 := 138) (lv2 := [(4, .int v5), (1, .int 1), (0, .ref l0), (2, .int l2), (3, .int l3)]) (st2 := []) hm dX11_areKindsThere_135 (by rw [← e_v5]; rfl) ?_
          clear e_v5
          refine mx_S.pu (pc2 := 108) (lv2 := [(4, .int v5), (1, .int 1), (0, .ref l0), (2, .int l2), (3, .int l3)]) (st2 := []) hm dX11_areKindsThere_138 rfl ?_
          refine mx_S.ext [(0, .ref l0), (1, .int 1), (2, .int l2), (3, .int l3), (4, .int v5)] (mx_sub_pos [2, 1, 3, 4, 0] rfl (show ([4, 1, 0, 2, 3] : List Nat).Nodup by decide)) ?_
          exact ih l0 1 l2 l3 v5 h _ hf
set_option maxHeartbeats 4000000 in
set_option maxRecDepth 20000 in
theorem w_X11_areKindsThere_68_ok (X : Nat × (Nat → Int32)) {F L : Nat} (hF : 8 ≤ F) (hL : 190 ≤ L) (nn : Nat) : ∀ (k : Nat) (l0 : Nat) (l1 : Int32) (l2 : Int32) (h : mx_H) (r : (Int32 × mx_H)), w_X11_areKindsThere_68 nn k l0 l1 l2 h = some r → mx_S X F L 312 68 [(0, .ref l0), (1, .int l1), (2, .int l2)] [] h 0 0 (some (.int r.1), r.2, 0, 0) := by
  have hm : mx_mt 312 = some (yX11_areKindsThere, cX11_areKindsThere, 5, (some .boolean)) := mt_X11_areKindsThere
  intro k
  induction k with
  | zero => intro l0 l1 l2 h r hf; cases hf
  | succ k ih =>
    intro l0 l1 l2 h r hf
    unfold w_X11_areKindsThere_68 at hf
    refine mx_S.pu (pc2 := 69) (lv2 := [(0, .ref l0), (1, .int l1), (2, .int l2)]) (st2 := [.int l2]) hm dX11_areKindsThere_68 rfl ?_
    refine mx_S.pu (pc2 := 70) (lv2 := [(0, .ref l0), (1, .int l1), (2, .int l2)]) (st2 := [.ref l0, .int l2]) hm dX11_areKindsThere_69 rfl ?_
    replace hf := mx_sv_el hf; obtain ⟨v9, e_v9, hf⟩ := hf
    refine sx_get hm dX11_areKindsThere_70 rs_RX11_62 (xgr_el e_v9) ?_
    clear e_v9
    replace hf := mx_sv_el hf; obtain ⟨v10, e_v10, hf⟩ := hf
    refine sx_get hm dX11_areKindsThere_73 rs_RX11_100 (xgi_el e_v10) ?_
    clear e_v10
    rcases mx_if_el hf with ⟨c20, hf⟩ | ⟨c20, hf⟩
    · refine sb_ic_ge hm dX11_areKindsThere_76 (tgt := 147) rfl (fun _ => ?_) (fun z => absurd c20 z)
      refine mx_S.pu (pc2 := 148) (lv2 := [(0, .ref l0), (1, .int l1), (2, .int l2)]) (st2 := [.int l1]) hm dX11_areKindsThere_147 rfl ?_
      replace hf := mx_gd_el hf; obtain ⟨c11, hf⟩ := hf
      cases hf
      exact sx_ire hm dX11_areKindsThere_148 rfl (xbq_ok c11).1
    · refine sb_ic_ge hm dX11_areKindsThere_76 (tgt := 147) rfl (fun z => absurd z c20) (fun _ => ?_)
      refine mx_S.pu (pc2 := 80) (lv2 := [(0, .ref l0), (1, .int l1), (2, .int l2)]) (st2 := [.ref l0]) hm dX11_areKindsThere_79 rfl ?_
      replace hf := mx_sv_el hf; obtain ⟨v12, e_v12, hf⟩ := hf
      refine sx_get hm dX11_areKindsThere_80 rs_RX11_50 (xgr_el e_v12) ?_
      clear e_v12
      refine mx_S.pu (pc2 := 84) (lv2 := [(0, .ref l0), (1, .int l1), (2, .int l2)]) (st2 := [.ref l0, .ref v12]) hm dX11_areKindsThere_83 rfl ?_
      replace hf := mx_sv_el hf; obtain ⟨v13, e_v13, hf⟩ := hf
      refine sx_get hm dX11_areKindsThere_84 rs_RX11_62 (xgr_el e_v13) ?_
      clear e_v13
      refine mx_S.pu (pc2 := 88) (lv2 := [(0, .ref l0), (1, .int l1), (2, .int l2)]) (st2 := [.ref l0, .ref v13, .ref v12]) hm dX11_areKindsThere_87 rfl ?_
      replace hf := mx_sv_el hf; obtain ⟨v14, e_v14, hf⟩ := hf
      refine sx_get hm dX11_areKindsThere_88 rs_RX11_62 (xgr_el e_v14) ?_
      clear e_v14
      refine mx_S.pu (pc2 := 92) (lv2 := [(0, .ref l0), (1, .int l1), (2, .int l2)]) (st2 := [.int l2, .ref v14, .ref v13, .ref v12]) hm dX11_areKindsThere_91 rfl ?_
      refine sx_ic (v := 2) hm dX11_areKindsThere_92 (by decide) ?_
      replace hf := mx_gd_el hf; obtain ⟨c15, hf⟩ := hf
      replace hf := mx_sv_el hf; obtain ⟨u16, e_u16, hf⟩ := hf
      refine sx_cv hm dX11_areKindsThere_93 rs_RX11_146 mt_X3_of [.int l2, .int 2] [.ref v13, .ref v12] (b := v14) (ci := 3) rfl rfl rfl c15 (Nat.le_of_ble_eq_true rfl) (Nat.le_of_ble_eq_true rfl) (by omega) (by omega) (f_X3_of_ok X (by omega) (by omega) nn v14 l2 2 h e_u16) ?_
      clear e_u16
      show mx_S X F L 312 96 [(0, .ref l0), (1, .int l1), (2, .int l2)] [.int u16.1, .ref v13, .ref v12] u16.2 0 0 (some (.int r.1), r.2, 0, 0)
      refine mx_S.pu (pc2 := 97) (lv2 := [(0, .ref l0), (1, .int l1), (2, .int l2)]) (st2 := [.ref l0, .int u16.1, .ref v13, .ref v12]) hm dX11_areKindsThere_96 rfl ?_
      replace hf := mx_sv_el hf; obtain ⟨v17, e_v17, hf⟩ := hf
      refine sx_get hm dX11_areKindsThere_97 rs_RX11_33 (xgr_el e_v17) ?_
      clear e_v17
      refine sx_ic (v := 0) hm dX11_areKindsThere_100 (by decide) ?_
      replace hf := mx_gd_el hf; obtain ⟨c18, hf⟩ := hf
      replace hf := mx_sv_el hf; obtain ⟨u19, e_u19, hf⟩ := hf
      refine sx_cv hm dX11_areKindsThere_101 rs_RX11_142 mt_X7_readKind [.ref v13, .int u16.1, .ref v17, .int 0] [] (b := v12) (ci := 7) rfl rfl rfl c18 (Nat.le_of_ble_eq_true rfl) (Nat.le_of_ble_eq_true rfl) (by omega) (by omega) (f_X7_readKind_ok X (by omega) (by omega) nn v12 v13 u16.1 v17 0 u16.2 e_u19) ?_
      clear e_u19
      show mx_S X F L 312 104 [(0, .ref l0), (1, .int l1), (2, .int l2)] [.int u19.1] u19.2 0 0 (some (.int r.1), r.2, 0, 0)
      refine mx_S.pu (pc2 := 105) (lv2 := [(3, .int u19.1), (0, .ref l0), (1, .int l1), (2, .int l2)]) (st2 := []) hm dX11_areKindsThere_104 rfl ?_
      refine sx_ic (v := 0) hm dX11_areKindsThere_105 (by decide) ?_
      refine mx_S.pu (pc2 := 108) (lv2 := [(4, .int 0), (3, .int u19.1), (0, .ref l0), (1, .int l1), (2, .int l2)]) (st2 := []) hm dX11_areKindsThere_106 rfl ?_
      refine mx_S.ext [(0, .ref l0), (1, .int l1), (2, .int l2), (3, .int u19.1), (4, .int 0)] (mx_sub_pos [2, 3, 4, 1, 0] rfl (show ([4, 3, 0, 1, 2] : List Nat).Nodup by decide)) ?_
      exact w_X11_areKindsThere_108_ok X hF hL nn ih nn l0 l1 l2 u19.1 0 u19.2 _ hf
