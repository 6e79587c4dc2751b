def hg5_X10_readValue (X : Nat × (Nat → Int32)) (d : Nat) (rc : tg_X10_readValue) : Prop := (∀ {F L : Nat}, 5 + d ≤ F → 152 + d * 30 ≤ L → ∀ (a0 : Nat) (a1 : Int32) (h : mx_H) {r : mx_H}, rc.1 a0 a1 h = some r → mx_R X F L 275 [.ref a0, .int a1] h (none, r, 0, 0)) ∧ (∀ {F L : Nat}, 5 + d ≤ F → 152 + d * 30 ≤ L → ∀ (a0 : Nat) (a1 : Int32) (a2 : Int32) (h : mx_H) {r : mx_H}, rc.2.1 a0 a1 a2 h = some r → mx_R X F L 276 [.ref a0, .int a1, .int a2] h (none, r, 0, 0)) ∧ (∀ {F L : Nat}, 5 + d ≤ F → 152 + d * 30 ≤ L → ∀ (a0 : Nat) (a1 : Int32) (h : mx_H) {r : mx_H}, rc.2.2.1 a0 a1 h = some r → mx_R X F L 288 [.ref a0, .int a1] h (none, r, 0, 0)) ∧ (∀ {F L : Nat}, 5 + d ≤ F → 152 + d * 30 ≤ L → ∀ (a0 : Nat) (a1 : Int32) (h : mx_H) {r : mx_H}, rc.2.2.2.1 a0 a1 h = some r → mx_R X F L 291 [.ref a0, .int a1] h (none, r, 0, 0)) ∧ (∀ {F L : Nat}, 5 + d ≤ F → 152 + d * 30 ≤ L → ∀ (a0 : Nat) (a1 : Int32) (h : mx_H) {r : mx_H}, rc.2.2.2.2.1 a0 a1 h = some r → mx_R X F L 297 [.ref a0, .int a1] h (none, r, 0, 0)) ∧ (∀ {F L : Nat}, 5 + d ≤ F → 152 + d * 30 ≤ L → ∀ (a0 : Nat) (a1 : Int32) (h : mx_H) {r : mx_H}, rc.2.2.2.2.2.1 a0 a1 h = some r → mx_R X F L 298 [.ref a0, .int a1] h (none, r, 0, 0)) ∧ (∀ {F L : Nat}, 5 + d ≤ F → 152 + d * 30 ≤ L → ∀ (a0 : Nat) (a1 : Int32) (h : mx_H) {r : mx_H}, rc.2.2.2.2.2.2.1 a0 a1 h = some r → mx_R X F L 299 [.ref a0, .int a1] h (none, r, 0, 0)) ∧ (∀ {F L : Nat}, 5 + d ≤ F → 152 + d * 30 ≤ L → ∀ (a0 : Nat) (a1 : Int32) (a2 : Int32) (h : mx_H) {r : mx_H}, rc.2.2.2.2.2.2.2.1 a0 a1 a2 h = some r → mx_R X F L 303 [.ref a0, .int a1, .int a2] h (none, r, 0, 0)) ∧ (∀ {F L : Nat}, 5 + d ≤ F → 152 + d * 30 ≤ L → ∀ (a0 : Nat) (a1 : Int32) (a2 : Int32) (a3 : Int32) (a4 : Int32) (a5 : Int32) (a6 : Int32) (h : mx_H) {r : mx_H}, rc.2.2.2.2.2.2.2.2 a0 a1 a2 a3 a4 a5 a6 h = some r → mx_R X F L 304 [.ref a0, .int a1, .int a2, .int a3, .int a4, .int a5, .int a6] h (none, r, 0, 0))
set_option maxHeartbeats 4000000 in
set_option maxRecDepth 20000 in
theorem j_X10_readValue_156_ok (X : Nat × (Nat → Int32)) {F L d : Nat} (hF : 5 + (d + 1) ≤ F) (hL : 152 + (d + 1) * 30 ≤ L) (nn : Nat) {rc : tg_X10_readValue} (hrc : hg5_X10_readValue X d rc) (l0 : Nat) (l1 : Int32) (l2 : Int32) (h : mx_H) {r : mx_H} (hf : j_X10_readValue_156 nn rc l0 l1 l2 h = some r) : mx_S X F L 275 156 [(0, .ref l0), (1, .int l1), (2, .int l2)] [] h 0 0 (none, r, 0, 0) := by
  have hm : mx_mt 275 = some (yX10_readValue, cX10_readValue, 6, none) := mt_X10_readValue
  unfold j_X10_readValue_156 at hf
  refine mx_S.pu (pc2 := 157) (lv2 := [(0, .ref l0), (1, .int l1), (2, .int l2)]) (st2 := [.ref l0]) hm dX10_readValue_156 rfl ?_
  replace hf := mx_sv_el hf; obtain ⟨v1, e_v1, hf⟩ := hf
  refine sx_get hm dX10_readValue_157 rs_RX10_31 (xgr_el e_v1) ?_
  clear e_v1
  replace hf := mx_gd_el hf; obtain ⟨c2, hf⟩ := hf
  replace hf := mx_sv_el hf; obtain ⟨u3, e_u3, hf⟩ := hf
  refine sx_cv hm dX10_readValue_160 rs_RX10_93 mt_X9_kind [] [] (b := v1) (ci := 9) rfl rfl rfl c2 (Nat.le_of_ble_eq_true rfl) (Nat.le_of_ble_eq_true rfl) (by omega) (by omega) (f_X9_kind_ok X (by omega) (by omega) nn v1 h e_u3) ?_
  clear e_u3
  show mx_S X F L 275 163 [(0, .ref l0), (1, .int l1), (2, .int l2)] [.int u3.1] u3.2 0 0 (none, r, 0, 0)
  refine sx_bi (v := 49) hm dX10_readValue_163 (by decide) ?_
  rcases mx_if_el hf with ⟨c6, hf⟩ | ⟨c6, hf⟩
  · refine sb_ic_ne hm dX10_readValue_165 (tgt := 174) rfl (fun _ => ?_) (fun z => absurd c6 z)
    cases hf
    exact sx_ret hm dX10_readValue_174 rfl
  · refine sb_ic_ne hm dX10_readValue_165 (tgt := 174) rfl (fun z => absurd z c6) (fun _ => ?_)
    refine mx_S.pu (pc2 := 169) (lv2 := [(0, .ref l0), (1, .int l1), (2, .int l2)]) (st2 := [.ref l0]) hm dX10_readValue_168 rfl ?_
    refine mx_S.pu (pc2 := 170) (lv2 := [(0, .ref l0), (1, .int l1), (2, .int l2)]) (st2 := [.int l2, .ref l0]) hm dX10_readValue_169 rfl ?_
    refine mx_S.pu (pc2 := 171) (lv2 := [(0, .ref l0), (1, .int l1), (2, .int l2)]) (st2 := [.int l1, .int l2, .ref l0]) hm dX10_readValue_170 rfl ?_
    replace hf := mx_gd_el hf; obtain ⟨c4, hf⟩ := hf
    replace hf := mx_sv_el hf; obtain ⟨u5, e_u5, hf⟩ := hf
    refine sx_cv hm dX10_readValue_171 rs_RX10_114 mt_X10_readChoice [.int l2, .int l1] [] (b := l0) (ci := 10) rfl rfl rfl c4 (Nat.le_of_ble_eq_true rfl) (Nat.le_of_ble_eq_true rfl) (by omega) (by omega) (hrc.2.1 (by omega) (by omega) l0 l2 l1 u3.2 e_u5) ?_
    clear e_u5
    show mx_S X F L 275 174 [(0, .ref l0), (1, .int l1), (2, .int l2)] [] u5 0 0 (none, r, 0, 0)
    cases hf
    exact sx_ret hm dX10_readValue_174 rfl
set_option maxHeartbeats 4000000 in
set_option maxRecDepth 20000 in
theorem w_X10_readValue_129_ok (X : Nat × (Nat → Int32)) {F L d : Nat} (hF : 5 + (d + 1) ≤ F) (hL : 152 + (d + 1) * 30 ≤ L) (nn : Nat) {rc : tg_X10_readValue} (hrc : hg5_X10_readValue X d rc) : ∀ (k : Nat) (l0 : Nat) (l1 : Int32) (l2 : Int32) (l3 : Int32) (l4 : Int32) (h : mx_H) (r : mx_H), w_X10_readValue_129 nn rc k l0 l1 l2 l3 l4 h = some r → mx_S X F L 275 129 [(0, .ref l0), (1, .int l1), (2, .int l2), (3, .int l3), (4, .int l4)] [] h 0 0 (none, r, 0, 0) := by
  have hm : mx_mt 275 = some (yX10_readValue, cX10_readValue, 6, none) := mt_X10_readValue
  intro k
  induction k with
  | zero => intro l0 l1 l2 l3 l4 h r hf; cases hf
  | succ k ih =>
    intro l0 l1 l2 l3 l4 h r hf
    unfold w_X10_readValue_129 at hf
    refine mx_S.pu (pc2 := 131) (lv2 := [(0, .ref l0), (1, .int l1), (2, .int l2), (3, .int l3), (4, .int l4)]) (st2 := [.int l4]) hm dX10_readValue_129 rfl ?_
    refine sx_si (v := 420) hm dX10_readValue_131 (by decide) ?_
    rcases mx_if_el hf with ⟨c13, hf⟩ | ⟨c13, hf⟩
    · refine sb_ic_ge hm dX10_readValue_134 (tgt := 156) rfl (fun _ => ?_) (fun z => absurd c13 z)
      refine mx_S.ext [(0, .ref l0), (1, .int l1), (2, .int l2)] (mx_sub_pos [0, 1, 2] rfl (show ([0, 1, 2, 3, 4] : List Nat).Nodup by decide)) ?_
      exact j_X10_readValue_156_ok X hF hL nn hrc l0 l1 l2 h hf
    · refine sb_ic_ge hm dX10_readValue_134 (tgt := 156) rfl (fun z => absurd z c13) (fun _ => ?_)
      refine mx_S.pu (pc2 := 138) (lv2 := [(0, .ref l0), (1, .int l1), (2, .int l2), (3, .int l3), (4, .int l4)]) (st2 := [.ref l0]) hm dX10_readValue_137 rfl ?_
      refine mx_S.pu (pc2 := 139) (lv2 := [(0, .ref l0), (1, .int l1), (2, .int l2), (3, .int l3), (4, .int l4)]) (st2 := [.int l3, .ref l0]) hm dX10_readValue_138 rfl ?_
      refine sx_ic (v := 1) hm dX10_readValue_139 (by decide) ?_
      replace hf := mx_gd_el hf; obtain ⟨c7, hf⟩ := hf
      replace hf := mx_sv_el hf; obtain ⟨u8, e_u8, hf⟩ := hf
      refine sx_cv hm dX10_readValue_140 rs_RX10_101 mt_X10_isSignDue [.int l3, .int 1] [] (b := l0) (ci := 10) rfl rfl rfl c7 (Nat.le_of_ble_eq_true rfl) (Nat.le_of_ble_eq_true rfl) (by omega) (by omega) (f_X10_isSignDue_ok X (by omega) (by omega) nn l0 l3 1 h e_u8) ?_
      clear e_u8
      show mx_S X F L 275 143 [(0, .ref l0), (1, .int l1), (2, .int l2), (3, .int l3), (4, .int l4)] [.int u8.1] u8.2 0 0 (none, r, 0, 0)
      rcases mx_if_el hf with ⟨c12, hf⟩ | ⟨c12, hf⟩
      · refine sb_if_eq hm dX10_readValue_143 (tgt := 156) rfl (fun _ => ?_) (fun z => absurd c12 z)
        refine mx_S.ext [(0, .ref l0), (1, .int l1), (2, .int l2)] (mx_sub_pos [0, 1, 2] rfl (show ([0, 1, 2, 3, 4] : List Nat).Nodup by decide)) ?_
        exact j_X10_readValue_156_ok X hF hL nn hrc l0 l1 l2 u8.2 hf
      · refine sb_if_eq hm dX10_readValue_143 (tgt := 156) rfl (fun z => absurd z c12) (fun _ => ?_)
        refine mx_S.pu (pc2 := 147) (lv2 := [(0, .ref l0), (1, .int l1), (2, .int l2), (3, .int l3), (4, .int l4)]) (st2 := [.ref l0]) hm dX10_readValue_146 rfl ?_
        replace hf := mx_gd_el hf; obtain ⟨c9, hf⟩ := hf
        replace hf := mx_sv_el hf; obtain ⟨u10, e_u10, hf⟩ := hf
        refine sx_cv hm dX10_readValue_147 rs_RX10_105 mt_X10_closeSign [] [] (b := l0) (ci := 10) rfl rfl rfl c9 (Nat.le_of_ble_eq_true rfl) (Nat.le_of_ble_eq_true rfl) (by omega) (by omega) (f_X10_closeSign_ok X (by omega) (by omega) nn l0 u8.2 e_u10) ?_
        clear e_u10
        show mx_S X F L 275 150 [(0, .ref l0), (1, .int l1), (2, .int l2), (3, .int l3), (4, .int l4)] [] u10 0 0 (none, r, 0, 0)
        replace hf := xl_el hf; obtain ⟨v11, e_v11, hf⟩ := hf
        refine mx_S.pu (pc2 := 153) (lv2 := [(4, .int v11), (0, .ref l0), (1, .int l1), (2, .int l2), (3, .int l3)]) (st2 := []) hm dX10_readValue_150 (by rw [← e_v11]; rfl) ?_
        clear e_v11
        refine mx_S.pu (pc2 := 129) (lv2 := [(4, .int v11), (0, .ref l0), (1, .int l1), (2, .int l2), (3, .int l3)]) (st2 := []) hm dX10_readValue_153 rfl ?_
        refine mx_S.ext [(0, .ref l0), (1, .int l1), (2, .int l2), (3, .int l3), (4, .int v11)] (mx_sub_pos [1, 2, 3, 4, 0] rfl (show ([4, 0, 1, 2, 3] : List Nat).Nodup by decide)) ?_
        exact ih l0 l1 l2 l3 v11 u10 _ hf
set_option maxHeartbeats 4000000 in
set_option maxRecDepth 20000 in
theorem j_X10_readValue_90_ok (X : Nat × (Nat → Int32)) {F L d : Nat} (hF : 5 + (d + 1) ≤ F) (hL : 152 + (d + 1) * 30 ≤ L) (nn : Nat) {rc : tg_X10_readValue} (hrc : hg5_X10_readValue X d rc) {kk_30 : Nat → Int32 → Int32 → Int32 → Int32 → mx_H → Option mx_H} (hk_30 : ∀ (l0 : Nat) (l1 : Int32) (l2 : Int32) (l3 : Int32) (l4 : Int32) (h : mx_H) (r : mx_H), kk_30 l0 l1 l2 l3 l4 h = some r → mx_S X F L 275 30 [(0, .ref l0), (1, .int l1), (2, .int l2), (3, .int l3), (4, .int l4)] [] h 0 0 (none, r, 0, 0)) (l0 : Nat) (l1 : Int32) (l2 : Int32) (l3 : Int32) (l4 : Int32) (h : mx_H) {r : mx_H} (hf : j_X10_readValue_90 nn rc kk_30 l0 l1 l2 l3 l4 h = some r) : mx_S X F L 275 90 [(0, .ref l0), (1, .int l1), (2, .int l2), (3, .int l3), (4, .int l4)] [] h 0 0 (none, r, 0, 0) := by
  have hm : mx_mt 275 = some (yX10_readValue, cX10_readValue, 6, none) := mt_X10_readValue
  unfold j_X10_readValue_90 at hf
  refine mx_S.pu (pc2 := 91) (lv2 := [(0, .ref l0), (1, .int l1), (2, .int l2), (3, .int l3), (4, .int l4)]) (st2 := [.ref l0]) hm dX10_readValue_90 rfl ?_
  replace hf := mx_sv_el hf; obtain ⟨v14, e_v14, hf⟩ := hf
  refine sx_get hm dX10_readValue_91 rs_RX10_31 (xgr_el e_v14) ?_
  clear e_v14
  replace hf := mx_gd_el hf; obtain ⟨c15, hf⟩ := hf
  replace hf := mx_sv_el hf; obtain ⟨u16, e_u16, hf⟩ := hf
  refine sx_cv hm dX10_readValue_94 rs_RX10_93 mt_X9_kind [] [] (b := v14) (ci := 9) rfl rfl rfl c15 (Nat.le_of_ble_eq_true rfl) (Nat.le_of_ble_eq_true rfl) (by omega) (by omega) (f_X9_kind_ok X (by omega) (by omega) nn v14 h e_u16) ?_
  clear e_u16
  show mx_S X F L 275 97 [(0, .ref l0), (1, .int l1), (2, .int l2), (3, .int l3), (4, .int l4)] [.int u16.1] u16.2 0 0 (none, r, 0, 0)
  refine sx_bi (v := 19) hm dX10_readValue_97 (by decide) ?_
  rcases mx_if_el hf with ⟨c26, hf⟩ | ⟨c26, hf⟩
  · refine sb_ic_ne hm dX10_readValue_99 (tgt := 109) rfl (fun _ => ?_) (fun z => absurd c26 z)
    refine mx_S.pu (pc2 := 110) (lv2 := [(0, .ref l0), (1, .int l1), (2, .int l2), (3, .int l3), (4, .int l4)]) (st2 := [.ref l0]) hm dX10_readValue_109 rfl ?_
    replace hf := mx_gd_el hf; obtain ⟨c17, hf⟩ := hf
    replace hf := mx_sv_el hf; obtain ⟨u18, e_u18, hf⟩ := hf
    refine sx_cv hm dX10_readValue_110 rs_RX10_111 mt_X10_openSign [] [] (b := l0) (ci := 10) rfl rfl rfl c17 (Nat.le_of_ble_eq_true rfl) (Nat.le_of_ble_eq_true rfl) (by omega) (by omega) (f_X10_openSign_ok X (by omega) (by omega) nn l0 u16.2 e_u18) ?_
    clear e_u18
    show mx_S X F L 275 113 [(0, .ref l0), (1, .int l1), (2, .int l2), (3, .int l3), (4, .int l4)] [] u18 0 0 (none, r, 0, 0)
    refine mx_S.pu (pc2 := 114) (lv2 := [(0, .ref l0), (1, .int l1), (2, .int l2), (3, .int l3), (4, .int l4)]) (st2 := [.ref l0]) hm dX10_readValue_113 rfl ?_
    refine mx_S.pu (pc2 := 115) (lv2 := [(0, .ref l0), (1, .int l1), (2, .int l2), (3, .int l3), (4, .int l4)]) (st2 := [.int l1, .ref l0]) hm dX10_readValue_114 rfl ?_
    refine sx_ic (v := 1) hm dX10_readValue_115 (by decide) ?_
    replace hf := xl_el hf; obtain ⟨v19, e_v19, hf⟩ := hf
    refine mx_S.pu (pc2 := 117) (lv2 := [(0, .ref l0), (1, .int l1), (2, .int l2), (3, .int l3), (4, .int l4)]) (st2 := [.int v19, .ref l0]) hm dX10_readValue_116 (by rw [← e_v19]; rfl) ?_
    clear e_v19
    replace hf := mx_gd_el hf; obtain ⟨c20, hf⟩ := hf
    replace hf := mx_sv_el hf; obtain ⟨u21, e_u21, hf⟩ := hf
    refine sx_cv hm dX10_readValue_117 rs_RX10_90 mt_X10_readUnary [.int v19] [] (b := l0) (ci := 10) rfl rfl rfl c20 (Nat.le_of_ble_eq_true rfl) (Nat.le_of_ble_eq_true rfl) (by omega) (by omega) (hrc.2.2.1 (by omega) (by omega) l0 v19 u18 e_u21) ?_
    clear e_u21
    show mx_S X F L 275 120 [(0, .ref l0), (1, .int l1), (2, .int l2), (3, .int l3), (4, .int l4)] [] u21 0 0 (none, r, 0, 0)
    replace hf := xl_el hf; obtain ⟨v22, e_v22, hf⟩ := hf
    refine mx_S.pu (pc2 := 123) (lv2 := [(4, .int v22), (0, .ref l0), (1, .int l1), (2, .int l2), (3, .int l3)]) (st2 := []) hm dX10_readValue_120 (by rw [← e_v22]; rfl) ?_
    clear e_v22
    refine mx_S.pu (pc2 := 30) (lv2 := [(4, .int v22), (0, .ref l0), (1, .int l1), (2, .int l2), (3, .int l3)]) (st2 := []) hm dX10_readValue_123 rfl ?_
    refine mx_S.ext [(0, .ref l0), (1, .int l1), (2, .int l2), (3, .int l3), (4, .int v22)] (mx_sub_pos [1, 2, 3, 4, 0] rfl (show ([4, 0, 1, 2, 3] : List Nat).Nodup by decide)) ?_
    exact hk_30 l0 l1 l2 l3 v22 u21 _ hf
  · refine sb_ic_ne hm dX10_readValue_99 (tgt := 109) rfl (fun z => absurd z c26) (fun _ => ?_)
    refine mx_S.pu (pc2 := 103) (lv2 := [(0, .ref l0), (1, .int l1), (2, .int l2), (3, .int l3), (4, .int l4)]) (st2 := [.ref l0]) hm dX10_readValue_102 rfl ?_
    replace hf := mx_gd_el hf; obtain ⟨c23, hf⟩ := hf
    replace hf := mx_sv_el hf; obtain ⟨u24, e_u24, hf⟩ := hf
    refine sx_cv hm dX10_readValue_103 rs_RX10_108 mt_X10_readInstanceof [] [] (b := l0) (ci := 10) rfl rfl rfl c23 (Nat.le_of_ble_eq_true rfl) (Nat.le_of_ble_eq_true rfl) (by omega) (by omega) (f_X10_readInstanceof_ok X (by omega) (by omega) nn l0 u16.2 e_u24) ?_
    clear e_u24
    show mx_S X F L 275 106 [(0, .ref l0), (1, .int l1), (2, .int l2), (3, .int l3), (4, .int l4)] [] u24 0 0 (none, r, 0, 0)
    refine mx_S.pu (pc2 := 120) (lv2 := [(0, .ref l0), (1, .int l1), (2, .int l2), (3, .int l3), (4, .int l4)]) (st2 := []) hm dX10_readValue_106 rfl ?_
    replace hf := xl_el hf; obtain ⟨v25, e_v25, hf⟩ := hf
    refine mx_S.pu (pc2 := 123) (lv2 := [(4, .int v25), (0, .ref l0), (1, .int l1), (2, .int l2), (3, .int l3)]) (st2 := []) hm dX10_readValue_120 (by rw [← e_v25]; rfl) ?_
    clear e_v25
    refine mx_S.pu (pc2 := 30) (lv2 := [(4, .int v25), (0, .ref l0), (1, .int l1), (2, .int l2), (3, .int l3)]) (st2 := []) hm dX10_readValue_123 rfl ?_
    refine mx_S.ext [(0, .ref l0), (1, .int l1), (2, .int l2), (3, .int l3), (4, .int v25)] (mx_sub_pos [1, 2, 3, 4, 0] rfl (show ([4, 0, 1, 2, 3] : List Nat).Nodup by decide)) ?_
    exact hk_30 l0 l1 l2 l3 v25 u24 _ hf
set_option maxHeartbeats 4000000 in
set_option maxRecDepth 20000 in
theorem w_X10_readValue_54_ok (X : Nat × (Nat → Int32)) {F L d : Nat} (hF : 5 + (d + 1) ≤ F) (hL : 152 + (d + 1) * 30 ≤ L) (nn : Nat) {rc : tg_X10_readValue} (hrc : hg5_X10_readValue X d rc) {kk_30 : Nat → Int32 → Int32 → Int32 → Int32 → mx_H → Option mx_H} (hk_30 : ∀ (l0 : Nat) (l1 : Int32) (l2 : Int32) (l3 : Int32) (l4 : Int32) (h : mx_H) (r : mx_H), kk_30 l0 l1 l2 l3 l4 h = some r → mx_S X F L 275 30 [(0, .ref l0), (1, .int l1), (2, .int l2), (3, .int l3), (4, .int l4)] [] h 0 0 (none, r, 0, 0)) : ∀ (k : Nat) (l0 : Nat) (l1 : Int32) (l2 : Int32) (l3 : Int32) (l4 : Int32) (l5 : Int32) (h : mx_H) (r : mx_H), w_X10_readValue_54 nn rc kk_30 k l0 l1 l2 l3 l4 l5 h = some r → mx_S X F L 275 54 [(0, .ref l0), (1, .int l1), (2, .int l2), (3, .int l3), (4, .int l4), (5, .int l5)] [] h 0 0 (none, r, 0, 0) := by
  have hm : mx_mt 275 = some (yX10_readValue, cX10_readValue, 6, none) := mt_X10_readValue
  intro k
  induction k with
  | zero => intro l0 l1 l2 l3 l4 l5 h r hf; cases hf
  | succ k ih =>
    intro l0 l1 l2 l3 l4 l5 h r hf
    unfold w_X10_readValue_54 at hf
    refine mx_S.pu (pc2 := 56) (lv2 := [(0, .ref l0), (1, .int l1), (2, .int l2), (3, .int l3), (4, .int l4), (5, .int l5)]) (st2 := [.int l5]) hm dX10_readValue_54 rfl ?_
    refine sx_si (v := 420) hm dX10_readValue_56 (by decide) ?_
    rcases mx_if_el hf with ⟨c37, hf⟩ | ⟨c37, hf⟩
    · refine sb_ic_ge hm dX10_readValue_59 (tgt := 90) rfl (fun _ => ?_) (fun z => absurd c37 z)
      refine mx_S.ext [(0, .ref l0), (1, .int l1), (2, .int l2), (3, .int l3), (4, .int l4)] (mx_sub_pos [0, 1, 2, 3, 4] rfl (show ([0, 1, 2, 3, 4, 5] : List Nat).Nodup by decide)) ?_
      exact j_X10_readValue_90_ok X hF hL nn hrc hk_30 l0 l1 l2 l3 l4 h hf
    · refine sb_ic_ge hm dX10_readValue_59 (tgt := 90) rfl (fun z => absurd z c37) (fun _ => ?_)
      refine mx_S.pu (pc2 := 63) (lv2 := [(0, .ref l0), (1, .int l1), (2, .int l2), (3, .int l3), (4, .int l4), (5, .int l5)]) (st2 := [.ref l0]) hm dX10_readValue_62 rfl ?_
      refine mx_S.pu (pc2 := 64) (lv2 := [(0, .ref l0), (1, .int l1), (2, .int l2), (3, .int l3), (4, .int l4), (5, .int l5)]) (st2 := [.int l3, .ref l0]) hm dX10_readValue_63 rfl ?_
      refine mx_S.pu (pc2 := 65) (lv2 := [(0, .ref l0), (1, .int l1), (2, .int l2), (3, .int l3), (4, .int l4), (5, .int l5)]) (st2 := [.ref l0, .int l3, .ref l0]) hm dX10_readValue_64 rfl ?_
      replace hf := mx_sv_el hf; obtain ⟨v27, e_v27, hf⟩ := hf
      refine sx_get hm dX10_readValue_65 rs_RX10_31 (xgr_el e_v27) ?_
      clear e_v27
      replace hf := mx_gd_el hf; obtain ⟨c28, hf⟩ := hf
      replace hf := mx_sv_el hf; obtain ⟨u29, e_u29, hf⟩ := hf
      refine sx_cv hm dX10_readValue_68 rs_RX10_93 mt_X9_kind [] [.int l3, .ref l0] (b := v27) (ci := 9) rfl rfl rfl c28 (Nat.le_of_ble_eq_true rfl) (Nat.le_of_ble_eq_true rfl) (by omega) (by omega) (f_X9_kind_ok X (by omega) (by omega) nn v27 h e_u29) ?_
      clear e_u29
      show mx_S X F L 275 71 [(0, .ref l0), (1, .int l1), (2, .int l2), (3, .int l3), (4, .int l4), (5, .int l5)] [.int u29.1, .int l3, .ref l0] u29.2 0 0 (none, r, 0, 0)
      replace hf := mx_sv_el hf; obtain ⟨u30, e_u30, hf⟩ := hf
      refine sx_cs hm dX10_readValue_71 rs_RX10_97 mt_X9_level [.int u29.1] [.int l3, .ref l0] rfl rfl (Nat.le_of_ble_eq_true rfl) (Nat.le_of_ble_eq_true rfl) (by omega) (by omega) (f_X9_level_ok X (by omega) (by omega) nn u29.1 u29.2 e_u30) ?_
      clear e_u30
      show mx_S X F L 275 74 [(0, .ref l0), (1, .int l1), (2, .int l2), (3, .int l3), (4, .int l4), (5, .int l5)] [.int u30.1, .int l3, .ref l0] u30.2 0 0 (none, r, 0, 0)
      replace hf := mx_gd_el hf; obtain ⟨c31, hf⟩ := hf
      replace hf := mx_sv_el hf; obtain ⟨u32, e_u32, hf⟩ := hf
      refine sx_cv hm dX10_readValue_74 rs_RX10_101 mt_X10_isSignDue [.int l3, .int u30.1] [] (b := l0) (ci := 10) rfl rfl rfl c31 (Nat.le_of_ble_eq_true rfl) (Nat.le_of_ble_eq_true rfl) (by omega) (by omega) (f_X10_isSignDue_ok X (by omega) (by omega) nn l0 l3 u30.1 u30.2 e_u32) ?_
      clear e_u32
      show mx_S X F L 275 77 [(0, .ref l0), (1, .int l1), (2, .int l2), (3, .int l3), (4, .int l4), (5, .int l5)] [.int u32.1] u32.2 0 0 (none, r, 0, 0)
      rcases mx_if_el hf with ⟨c36, hf⟩ | ⟨c36, hf⟩
      · refine sb_if_eq hm dX10_readValue_77 (tgt := 90) rfl (fun _ => ?_) (fun z => absurd c36 z)
        refine mx_S.ext [(0, .ref l0), (1, .int l1), (2, .int l2), (3, .int l3), (4, .int l4)] (mx_sub_pos [0, 1, 2, 3, 4] rfl (show ([0, 1, 2, 3, 4, 5] : List Nat).Nodup by decide)) ?_
        exact j_X10_readValue_90_ok X hF hL nn hrc hk_30 l0 l1 l2 l3 l4 u32.2 hf
      · refine sb_if_eq hm dX10_readValue_77 (tgt := 90) rfl (fun z => absurd z c36) (fun _ => ?_)
        refine mx_S.pu (pc2 := 81) (lv2 := [(0, .ref l0), (1, .int l1), (2, .int l2), (3, .int l3), (4, .int l4), (5, .int l5)]) (st2 := [.ref l0]) hm dX10_readValue_80 rfl ?_
        replace hf := mx_gd_el hf; obtain ⟨c33, hf⟩ := hf
        replace hf := mx_sv_el hf; obtain ⟨u34, e_u34, hf⟩ := hf
        refine sx_cv hm dX10_readValue_81 rs_RX10_105 mt_X10_closeSign [] [] (b := l0) (ci := 10) rfl rfl rfl c33 (Nat.le_of_ble_eq_true rfl) (Nat.le_of_ble_eq_true rfl) (by omega) (by omega) (f_X10_closeSign_ok X (by omega) (by omega) nn l0 u32.2 e_u34) ?_
        clear e_u34
        show mx_S X F L 275 84 [(0, .ref l0), (1, .int l1), (2, .int l2), (3, .int l3), (4, .int l4), (5, .int l5)] [] u34 0 0 (none, r, 0, 0)
        replace hf := xl_el hf; obtain ⟨v35, e_v35, hf⟩ := hf
        refine mx_S.pu (pc2 := 87) (lv2 := [(5, .int v35), (0, .ref l0), (1, .int l1), (2, .int l2), (3, .int l3), (4, .int l4)]) (st2 := []) hm dX10_readValue_84 (by rw [← e_v35]; rfl) ?_
        clear e_v35
        refine mx_S.pu (pc2 := 54) (lv2 := [(5, .int v35), (0, .ref l0), (1, .int l1), (2, .int l2), (3, .int l3), (4, .int l4)]) (st2 := []) hm dX10_readValue_87 rfl ?_
        refine mx_S.ext [(0, .ref l0), (1, .int l1), (2, .int l2), (3, .int l3), (4, .int l4), (5, .int v35)] (mx_sub_pos [1, 2, 3, 4, 5, 0] rfl (show ([5, 0, 1, 2, 3, 4] : List Nat).Nodup by decide)) ?_
        exact ih l0 l1 l2 l3 l4 v35 u34 _ hf
set_option maxHeartbeats 4000000 in
set_option maxRecDepth 20000 in
theorem w_X10_readValue_30_ok (X : Nat × (Nat → Int32)) {F L d : Nat} (hF : 5 + (d + 1) ≤ F) (hL : 152 + (d + 1) * 30 ≤ L) (nn : Nat) {rc : tg_X10_readValue} (hrc : hg5_X10_readValue X d rc) : ∀ (k : Nat) (l0 : Nat) (l1 : Int32) (l2 : Int32) (l3 : Int32) (l4 : Int32) (h : mx_H) (r : mx_H), w_X10_readValue_30 nn rc k l0 l1 l2 l3 l4 h = some r → mx_S X F L 275 30 [(0, .ref l0), (1, .int l1), (2, .int l2), (3, .int l3), (4, .int l4)] [] h 0 0 (none, r, 0, 0) := by
  have hm : mx_mt 275 = some (yX10_readValue, cX10_readValue, 6, none) := mt_X10_readValue
  intro k
  induction k with
  | zero => intro l0 l1 l2 l3 l4 h r hf; cases hf
  | succ k ih =>
    intro l0 l1 l2 l3 l4 h r hf
    unfold w_X10_readValue_30 at hf
    refine mx_S.pu (pc2 := 32) (lv2 := [(0, .ref l0), (1, .int l1), (2, .int l2), (3, .int l3), (4, .int l4)]) (st2 := [.int l4]) hm dX10_readValue_30 rfl ?_
    refine sx_si (v := 3000) hm dX10_readValue_32 (by decide) ?_
    rcases mx_if_el hf with ⟨c43, hf⟩ | ⟨c43, hf⟩
    · refine sb_ic_ge hm dX10_readValue_35 (tgt := 126) rfl (fun _ => ?_) (fun z => absurd c43 z)
      refine sx_ic (v := 0) hm dX10_readValue_126 (by decide) ?_
      refine mx_S.pu (pc2 := 129) (lv2 := [(4, .int 0), (0, .ref l0), (1, .int l1), (2, .int l2), (3, .int l3)]) (st2 := []) hm dX10_readValue_127 rfl ?_
      refine mx_S.ext [(0, .ref l0), (1, .int l1), (2, .int l2), (3, .int l3), (4, .int 0)] (mx_sub_pos [1, 2, 3, 4, 0] rfl (show ([4, 0, 1, 2, 3] : List Nat).Nodup by decide)) ?_
      exact w_X10_readValue_129_ok X hF hL nn hrc nn l0 l1 l2 l3 0 h _ hf
    · refine sb_ic_ge hm dX10_readValue_35 (tgt := 126) rfl (fun z => absurd z c43) (fun _ => ?_)
      refine mx_S.pu (pc2 := 39) (lv2 := [(0, .ref l0), (1, .int l1), (2, .int l2), (3, .int l3), (4, .int l4)]) (st2 := [.ref l0]) hm dX10_readValue_38 rfl ?_
      replace hf := mx_sv_el hf; obtain ⟨v38, e_v38, hf⟩ := hf
      refine sx_get hm dX10_readValue_39 rs_RX10_31 (xgr_el e_v38) ?_
      clear e_v38
      replace hf := mx_gd_el hf; obtain ⟨c39, hf⟩ := hf
      replace hf := mx_sv_el hf; obtain ⟨u40, e_u40, hf⟩ := hf
      refine sx_cv hm dX10_readValue_42 rs_RX10_93 mt_X9_kind [] [] (b := v38) (ci := 9) rfl rfl rfl c39 (Nat.le_of_ble_eq_true rfl) (Nat.le_of_ble_eq_true rfl) (by omega) (by omega) (f_X9_kind_ok X (by omega) (by omega) nn v38 h e_u40) ?_
      clear e_u40
      show mx_S X F L 275 45 [(0, .ref l0), (1, .int l1), (2, .int l2), (3, .int l3), (4, .int l4)] [.int u40.1] u40.2 0 0 (none, r, 0, 0)
      replace hf := mx_sv_el hf; obtain ⟨u41, e_u41, hf⟩ := hf
      refine sx_cs hm dX10_readValue_45 rs_RX10_97 mt_X9_level [.int u40.1] [] rfl rfl (Nat.le_of_ble_eq_true rfl) (Nat.le_of_ble_eq_true rfl) (by omega) (by omega) (f_X9_level_ok X (by omega) (by omega) nn u40.1 u40.2 e_u41) ?_
      clear e_u41
      show mx_S X F L 275 48 [(0, .ref l0), (1, .int l1), (2, .int l2), (3, .int l3), (4, .int l4)] [.int u41.1] u41.2 0 0 (none, r, 0, 0)
      rcases mx_if_el hf with ⟨c42, hf⟩ | ⟨c42, hf⟩
      · refine sb_if_le hm dX10_readValue_48 (tgt := 126) rfl (fun _ => ?_) (fun z => absurd c42 z)
        refine sx_ic (v := 0) hm dX10_readValue_126 (by decide) ?_
        refine mx_S.pu (pc2 := 129) (lv2 := [(4, .int 0), (0, .ref l0), (1, .int l1), (2, .int l2), (3, .int l3)]) (st2 := []) hm dX10_readValue_127 rfl ?_
        refine mx_S.ext [(0, .ref l0), (1, .int l1), (2, .int l2), (3, .int l3), (4, .int 0)] (mx_sub_pos [1, 2, 3, 4, 0] rfl (show ([4, 0, 1, 2, 3] : List Nat).Nodup by decide)) ?_
        exact w_X10_readValue_129_ok X hF hL nn hrc nn l0 l1 l2 l3 0 u41.2 _ hf
      · refine sb_if_le hm dX10_readValue_48 (tgt := 126) rfl (fun z => absurd z c42) (fun _ => ?_)
        refine sx_ic (v := 0) hm dX10_readValue_51 (by decide) ?_
        refine mx_S.pu (pc2 := 54) (lv2 := [(5, .int 0), (0, .ref l0), (1, .int l1), (2, .int l2), (3, .int l3), (4, .int l4)]) (st2 := []) hm dX10_readValue_52 rfl ?_
        refine mx_S.ext [(0, .ref l0), (1, .int l1), (2, .int l2), (3, .int l3), (4, .int l4), (5, .int 0)] (mx_sub_pos [1, 2, 3, 4, 5, 0] rfl (show ([5, 0, 1, 2, 3, 4] : List Nat).Nodup by decide)) ?_
        exact w_X10_readValue_54_ok X hF hL nn hrc ih nn l0 l1 l2 l3 l4 0 u41.2 _ hf
set_option maxHeartbeats 4000000 in
set_option maxRecDepth 20000 in
theorem o_X10_readValue_ok (X : Nat × (Nat → Int32)) {F L d : Nat} (hF : 5 + (d + 1) ≤ F) (hL : 152 + (d + 1) * 30 ≤ L) (nn : Nat) {rc : tg_X10_readValue} (hrc : hg5_X10_readValue X d rc) (a0 : Nat) (a1 : Int32) (h : mx_H) {r : mx_H} (hf : o_X10_readValue nn rc a0 a1 h = some r) : mx_R X F L 275 [.ref a0, .int a1] h (none, r, 0, 0) := by
  have hm : mx_mt 275 = some (yX10_readValue, cX10_readValue, 6, none) := mt_X10_readValue
  show mx_S X F L 275 0 [(0, .ref a0), (1, .int a1)] [] h 0 0 (none, r, 0, 0)
  unfold o_X10_readValue at hf
  refine mx_S.pu (pc2 := 1) (lv2 := [(0, .ref a0), (1, .int a1)]) (st2 := [.int a1]) hm dX10_readValue_0 rfl ?_
  refine sx_bi (v := 42) hm dX10_readValue_1 (by decide) ?_
  rcases mx_if_el hf with ⟨c50, hf⟩ | ⟨c50, hf⟩
  · refine sb_ic_le hm dX10_readValue_3 (tgt := 7) rfl (fun _ => ?_) (fun z => absurd c50 z)
    refine mx_S.pu (pc2 := 8) (lv2 := [(0, .ref a0), (1, .int a1)]) (st2 := [.ref a0]) hm dX10_readValue_7 rfl ?_
    replace hf := mx_sv_el hf; obtain ⟨v44, e_v44, hf⟩ := hf
    refine sx_get hm dX10_readValue_8 rs_RX10_31 (xgr_el e_v44) ?_
    clear e_v44
    replace hf := mx_sv_el hf; obtain ⟨v45, e_v45, hf⟩ := hf
    refine sx_get hm dX10_readValue_11 rs_RX10_72 (xgi_el e_v45) ?_
    clear e_v45
    refine mx_S.pu (pc2 := 15) (lv2 := [(2, .int v45), (0, .ref a0), (1, .int a1)]) (st2 := []) hm dX10_readValue_14 rfl ?_
    refine mx_S.pu (pc2 := 16) (lv2 := [(2, .int v45), (0, .ref a0), (1, .int a1)]) (st2 := [.ref a0]) hm dX10_readValue_15 rfl ?_
    replace hf := mx_sv_el hf; obtain ⟨v46, e_v46, hf⟩ := hf
    refine sx_get hm dX10_readValue_16 rs_RX10_65 (xgi_el e_v46) ?_
    clear e_v46
    refine mx_S.pu (pc2 := 20) (lv2 := [(3, .int v46), (2, .int v45), (0, .ref a0), (1, .int a1)]) (st2 := []) hm dX10_readValue_19 rfl ?_
    refine mx_S.pu (pc2 := 21) (lv2 := [(3, .int v46), (2, .int v45), (0, .ref a0), (1, .int a1)]) (st2 := [.ref a0]) hm dX10_readValue_20 rfl ?_
    refine mx_S.pu (pc2 := 22) (lv2 := [(3, .int v46), (2, .int v45), (0, .ref a0), (1, .int a1)]) (st2 := [.int a1, .ref a0]) hm dX10_readValue_21 rfl ?_
    refine sx_ic (v := 1) hm dX10_readValue_22 (by decide) ?_
    replace hf := xl_el hf; obtain ⟨v47, e_v47, hf⟩ := hf
    refine mx_S.pu (pc2 := 24) (lv2 := [(3, .int v46), (2, .int v45), (0, .ref a0), (1, .int a1)]) (st2 := [.int v47, .ref a0]) hm dX10_readValue_23 (by rw [← e_v47]; rfl) ?_
    clear e_v47
    replace hf := mx_gd_el hf; obtain ⟨c48, hf⟩ := hf
    replace hf := mx_sv_el hf; obtain ⟨u49, e_u49, hf⟩ := hf
    refine sx_cv hm dX10_readValue_24 rs_RX10_90 mt_X10_readUnary [.int v47] [] (b := a0) (ci := 10) rfl rfl rfl c48 (Nat.le_of_ble_eq_true rfl) (Nat.le_of_ble_eq_true rfl) (by omega) (by omega) (hrc.2.2.1 (by omega) (by omega) a0 v47 h e_u49) ?_
    clear e_u49
    show mx_S X F L 275 27 [(3, .int v46), (2, .int v45), (0, .ref a0), (1, .int a1)] [] u49 0 0 (none, r, 0, 0)
    refine sx_ic (v := 0) hm dX10_readValue_27 (by decide) ?_
    refine mx_S.pu (pc2 := 30) (lv2 := [(4, .int 0), (3, .int v46), (2, .int v45), (0, .ref a0), (1, .int a1)]) (st2 := []) hm dX10_readValue_28 rfl ?_
    refine mx_S.ext [(0, .ref a0), (1, .int a1), (2, .int v45), (3, .int v46), (4, .int 0)] (mx_sub_pos [3, 4, 2, 1, 0] rfl (show ([4, 3, 2, 0, 1] : List Nat).Nodup by decide)) ?_
    exact w_X10_readValue_30_ok X hF hL nn hrc nn a0 a1 v45 v46 0 u49 _ hf
  · refine sb_ic_le hm dX10_readValue_3 (tgt := 7) rfl (fun z => absurd z c50) (fun _ => ?_)
    cases hf
    exact sx_ret hm dX10_readValue_6 rfl
set_option maxHeartbeats 4000000 in
set_option maxRecDepth 20000 in
theorem j_X10_readChoice_158_ok (X : Nat × (Nat → Int32)) {F L d : Nat} (hF : 5 + (d + 1) ≤ F) (hL : 152 + (d + 1) * 30 ≤ L) (nn : Nat) {rc : tg_X10_readValue} (hrc : hg5_X10_readValue X d rc) (l0 : Nat) (l6 : Int32) (s0 : Int32) (s1 : Nat) (h : mx_H) {r : mx_H} (hf : j_X10_readChoice_158 nn rc l0 l6 s0 s1 h = some r) : mx_S X F L 276 158 [(0, .ref l0), (6, .int l6)] [.int s0, .ref s1] h 0 0 (none, r, 0, 0) := by
  have hm : mx_mt 276 = some (yX10_readChoice, cX10_readChoice, 7, none) := mt_X10_readChoice
  unfold j_X10_readChoice_158 at hf
  replace hf := mx_sv_el hf; obtain ⟨h1, e_h1, hf⟩ := hf
  refine sx_put hm dX10_readChoice_158 rs_RX10_75 ft_10_12 ⟨rfl, rfl⟩ (fun z => by cases z) e_h1 ?_
  clear e_h1
  refine mx_S.pu (pc2 := 162) (lv2 := [(0, .ref l0), (6, .int l6)]) (st2 := [.ref l0]) hm dX10_readChoice_161 rfl ?_
  replace hf := mx_sv_el hf; obtain ⟨v2, e_v2, hf⟩ := hf
  refine sx_get hm dX10_readChoice_162 rs_RX10_46 (xgr_el e_v2) ?_
  clear e_v2
  refine sx_ic (v := 1) hm dX10_readChoice_165 (by decide) ?_
  replace hf := mx_gd_el hf; obtain ⟨c3, hf⟩ := hf
  replace hf := mx_sv_el hf; obtain ⟨u4, e_u4, hf⟩ := hf
  refine sx_cv hm dX10_readChoice_166 rs_RX10_118 mt_X1_pop [.int 1] [] (b := v2) (ci := 1) rfl rfl rfl c3 (Nat.le_of_ble_eq_true rfl) (Nat.le_of_ble_eq_true rfl) (by omega) (by omega) (f_X1_pop_ok X (by omega) (by omega) nn v2 1 h1 e_u4) ?_
  clear e_u4
  show mx_S X F L 276 169 [(0, .ref l0), (6, .int l6)] [] u4 0 0 (none, r, 0, 0)
  refine mx_S.pu (pc2 := 170) (lv2 := [(0, .ref l0), (6, .int l6)]) (st2 := [.ref l0]) hm dX10_readChoice_169 rfl ?_
  replace hf := mx_sv_el hf; obtain ⟨v5, e_v5, hf⟩ := hf
  refine sx_get hm dX10_readChoice_170 rs_RX10_46 (xgr_el e_v5) ?_
  clear e_v5
  refine mx_S.pu (pc2 := 174) (lv2 := [(0, .ref l0), (6, .int l6)]) (st2 := [.ref l0, .ref v5]) hm dX10_readChoice_173 rfl ?_
  replace hf := mx_sv_el hf; obtain ⟨v6, e_v6, hf⟩ := hf
  refine sx_get hm dX10_readChoice_174 rs_RX10_75 (xgi_el e_v6) ?_
  clear e_v6
  replace hf := mx_gd_el hf; obtain ⟨c7, hf⟩ := hf
  replace hf := mx_sv_el hf; obtain ⟨u8, e_u8, hf⟩ := hf
  refine sx_cv hm dX10_readChoice_177 rs_RX10_130 mt_X1_push [.int v6] [] (b := v5) (ci := 1) rfl rfl rfl c7 (Nat.le_of_ble_eq_true rfl) (Nat.le_of_ble_eq_true rfl) (by omega) (by omega) (f_X1_push_ok X (by omega) (by omega) nn v5 v6 u4 e_u8) ?_
  clear e_u8
  show mx_S X F L 276 180 [(0, .ref l0), (6, .int l6)] [] u8 0 0 (none, r, 0, 0)
  refine mx_S.pu (pc2 := 181) (lv2 := [(0, .ref l0), (6, .int l6)]) (st2 := [.ref l0]) hm dX10_readChoice_180 rfl ?_
  replace hf := mx_sv_el hf; obtain ⟨v9, e_v9, hf⟩ := hf
  refine sx_get hm dX10_readChoice_181 rs_RX10_46 (xgr_el e_v9) ?_
  clear e_v9
  refine mx_S.pu (pc2 := 186) (lv2 := [(0, .ref l0), (6, .int l6)]) (st2 := [.int l6, .ref v9]) hm dX10_readChoice_184 rfl ?_
  replace hf := mx_gd_el hf; obtain ⟨c10, hf⟩ := hf
  replace hf := mx_sv_el hf; obtain ⟨u11, e_u11, hf⟩ := hf
  refine sx_cv hm dX10_readChoice_186 rs_RX10_121 mt_X1_aimHere [.int l6] [] (b := v9) (ci := 1) rfl rfl rfl c10 (Nat.le_of_ble_eq_true rfl) (Nat.le_of_ble_eq_true rfl) (by omega) (by omega) (f_X1_aimHere_ok X (by omega) (by omega) nn v9 l6 u8 e_u11) ?_
  clear e_u11
  show mx_S X F L 276 189 [(0, .ref l0), (6, .int l6)] [] u11 0 0 (none, r, 0, 0)
  refine mx_S.pu (pc2 := 190) (lv2 := [(0, .ref l0), (6, .int l6)]) (st2 := [.ref l0]) hm dX10_readChoice_189 rfl ?_
  refine sx_ic (v := 0) hm dX10_readChoice_190 (by decide) ?_
  replace hf := mx_sv_el hf; obtain ⟨h12, e_h12, hf⟩ := hf
  refine sx_put hm dX10_readChoice_191 rs_RX10_133 ft_10_11 ⟨rfl, rfl⟩ (fun z => by cases z) e_h12 ?_
  clear e_h12
  cases hf
  exact sx_ret hm dX10_readChoice_194 rfl
set_option maxHeartbeats 4000000 in
set_option maxRecDepth 20000 in
theorem j_X10_readChoice_24_ok (X : Nat × (Nat → Int32)) {F L d : Nat} (hF : 5 + (d + 1) ≤ F) (hL : 152 + (d + 1) * 30 ≤ L) (nn : Nat) {rc : tg_X10_readValue} (hrc : hg5_X10_readValue X d rc) (l0 : Nat) (l1 : Int32) (l2 : Int32) (l3 : Int32) (s0 : Int32) (s1 : Nat) (h : mx_H) {r : mx_H} (hf : j_X10_readChoice_24 nn rc l0 l1 l2 l3 s0 s1 h = some r) : mx_S X F L 276 24 [(0, .ref l0), (1, .int l1), (2, .int l2), (3, .int l3)] [.int s0, .ref s1] h 0 0 (none, r, 0, 0) := by
  have hm : mx_mt 276 = some (yX10_readChoice, cX10_readChoice, 7, none) := mt_X10_readChoice
  unfold j_X10_readChoice_24 at hf
  refine mx_S.pu (pc2 := 25) (lv2 := [(0, .ref l0), (1, .int l1), (2, .int l2), (3, .int l3)]) (st2 := [.int l1, .int s0, .ref s1]) hm dX10_readChoice_24 rfl ?_
  replace hf := mx_gd_el hf; obtain ⟨c13, hf⟩ := hf
  replace hf := mx_sv_el hf; obtain ⟨u14, e_u14, hf⟩ := hf
  refine sx_cv hm dX10_readChoice_25 rs_RX10_80 mt_X10_wantType [.int s0, .int l1] [] (b := s1) (ci := 10) rfl rfl rfl c13 (Nat.le_of_ble_eq_true rfl) (Nat.le_of_ble_eq_true rfl) (by omega) (by omega) (f_X10_wantType_ok X (by omega) (by omega) nn s1 s0 l1 h e_u14) ?_
  clear e_u14
  show mx_S X F L 276 28 [(0, .ref l0), (1, .int l1), (2, .int l2), (3, .int l3)] [] u14 0 0 (none, r, 0, 0)
  refine mx_S.pu (pc2 := 29) (lv2 := [(0, .ref l0), (1, .int l1), (2, .int l2), (3, .int l3)]) (st2 := [.ref l0]) hm dX10_readChoice_28 rfl ?_
  replace hf := mx_sv_el hf; obtain ⟨v15, e_v15, hf⟩ := hf
  refine sx_get hm dX10_readChoice_29 rs_RX10_46 (xgr_el e_v15) ?_
  clear e_v15
  refine sx_si (v := 153) hm dX10_readChoice_32 (by decide) ?_
  refine sx_ic (v := 1) hm dX10_readChoice_35 (by decide) ?_
  replace hf := mx_gd_el hf; obtain ⟨c16, hf⟩ := hf
  replace hf := mx_sv_el hf; obtain ⟨u17, e_u17, hf⟩ := hf
  refine sx_cv hm dX10_readChoice_36 rs_RX10_86 mt_X1_jump [.int 153, .int 1] [] (b := v15) (ci := 1) rfl rfl rfl c16 (Nat.le_of_ble_eq_true rfl) (Nat.le_of_ble_eq_true rfl) (by omega) (by omega) (f_X1_jump_ok X (by omega) (by omega) nn v15 153 1 u14 e_u17) ?_
  clear e_u17
  show mx_S X F L 276 39 [(0, .ref l0), (1, .int l1), (2, .int l2), (3, .int l3)] [.int u17.1] u17.2 0 0 (none, r, 0, 0)
  refine mx_S.pu (pc2 := 41) (lv2 := [(4, .int u17.1), (0, .ref l0), (1, .int l1), (2, .int l2), (3, .int l3)]) (st2 := []) hm dX10_readChoice_39 rfl ?_
  refine mx_S.pu (pc2 := 42) (lv2 := [(4, .int u17.1), (0, .ref l0), (1, .int l1), (2, .int l2), (3, .int l3)]) (st2 := [.ref l0]) hm dX10_readChoice_41 rfl ?_
  replace hf := mx_sv_el hf; obtain ⟨v18, e_v18, hf⟩ := hf
  refine sx_get hm dX10_readChoice_42 rs_RX10_31 (xgr_el e_v18) ?_
  clear e_v18
  refine mx_S.pu (pc2 := 46) (lv2 := [(4, .int u17.1), (0, .ref l0), (1, .int l1), (2, .int l2), (3, .int l3)]) (st2 := [.ref v18, .ref v18]) hm dX10_readChoice_45 rfl ?_
  replace hf := mx_sv_el hf; obtain ⟨v19, e_v19, hf⟩ := hf
  refine sx_get hm dX10_readChoice_46 rs_RX10_72 (xgi_el e_v19) ?_
  clear e_v19
  refine sx_ic (v := 1) hm dX10_readChoice_49 (by decide) ?_
  replace hf := xl_el hf; obtain ⟨v20, e_v20, hf⟩ := hf
  refine mx_S.pu (pc2 := 51) (lv2 := [(4, .int u17.1), (0, .ref l0), (1, .int l1), (2, .int l2), (3, .int l3)]) (st2 := [.int v20, .ref v18]) hm dX10_readChoice_50 (by rw [← e_v20]; rfl) ?_
  clear e_v20
  replace hf := mx_sv_el hf; obtain ⟨h21, e_h21, hf⟩ := hf
  refine sx_put hm dX10_readChoice_51 rs_RX10_72 ft_9_10 ⟨rfl, rfl⟩ (fun z => by cases z) e_h21 ?_
  clear e_h21
  refine mx_S.pu (pc2 := 55) (lv2 := [(4, .int u17.1), (0, .ref l0), (1, .int l1), (2, .int l2), (3, .int l3)]) (st2 := [.ref l0]) hm dX10_readChoice_54 rfl ?_
  refine mx_S.pu (pc2 := 56) (lv2 := [(4, .int u17.1), (0, .ref l0), (1, .int l1), (2, .int l2), (3, .int l3)]) (st2 := [.int l2, .ref l0]) hm dX10_readChoice_55 rfl ?_
  refine sx_ic (v := 1) hm dX10_readChoice_56 (by decide) ?_
  replace hf := xl_el hf; obtain ⟨v22, e_v22, hf⟩ := hf
  refine mx_S.pu (pc2 := 58) (lv2 := [(4, .int u17.1), (0, .ref l0), (1, .int l1), (2, .int l2), (3, .int l3)]) (st2 := [.int v22, .ref l0]) hm dX10_readChoice_57 (by rw [← e_v22]; rfl) ?_
  clear e_v22
  replace hf := mx_gd_el hf; obtain ⟨c23, hf⟩ := hf
  replace hf := mx_sv_el hf; obtain ⟨u24, e_u24, hf⟩ := hf
  refine sx_cv hm dX10_readChoice_58 rs_RX10_68 mt_X10_readValue [.int v22] [] (b := l0) (ci := 10) rfl rfl rfl c23 (Nat.le_of_ble_eq_true rfl) (Nat.le_of_ble_eq_true rfl) (by omega) (by omega) (hrc.1 (by omega) (by omega) l0 v22 h21 e_u24) ?_
  clear e_u24
  show mx_S X F L 276 61 [(4, .int u17.1), (0, .ref l0), (1, .int l1), (2, .int l2), (3, .int l3)] [] u24 0 0 (none, r, 0, 0)
  refine mx_S.pu (pc2 := 62) (lv2 := [(4, .int u17.1), (0, .ref l0), (1, .int l1), (2, .int l2), (3, .int l3)]) (st2 := [.ref l0]) hm dX10_readChoice_61 rfl ?_
  replace hf := mx_sv_el hf; obtain ⟨v25, e_v25, hf⟩ := hf
  refine sx_get hm dX10_readChoice_62 rs_RX10_75 (xgi_el e_v25) ?_
  clear e_v25
  refine mx_S.pu (pc2 := 67) (lv2 := [(5, .int v25), (4, .int u17.1), (0, .ref l0), (1, .int l1), (2, .int l2), (3, .int l3)]) (st2 := []) hm dX10_readChoice_65 rfl ?_
  refine mx_S.pu (pc2 := 68) (lv2 := [(5, .int v25), (4, .int u17.1), (0, .ref l0), (1, .int l1), (2, .int l2), (3, .int l3)]) (st2 := [.ref l0]) hm dX10_readChoice_67 rfl ?_
  replace hf := mx_sv_el hf; obtain ⟨v26, e_v26, hf⟩ := hf
  refine sx_get hm dX10_readChoice_68 rs_RX10_46 (xgr_el e_v26) ?_
  clear e_v26
  refine sx_si (v := 167) hm dX10_readChoice_71 (by decide) ?_
  refine sx_ic (v := 0) hm dX10_readChoice_74 (by decide) ?_
  replace hf := mx_gd_el hf; obtain ⟨c27, hf⟩ := hf
  replace hf := mx_sv_el hf; obtain ⟨u28, e_u28, hf⟩ := hf
  refine sx_cv hm dX10_readChoice_75 rs_RX10_86 mt_X1_jump [.int 167, .int 0] [] (b := v26) (ci := 1) rfl rfl rfl c27 (Nat.le_of_ble_eq_true rfl) (Nat.le_of_ble_eq_true rfl) (by omega) (by omega) (f_X1_jump_ok X (by omega) (by omega) nn v26 167 0 u24 e_u28) ?_
  clear e_u28
  show mx_S X F L 276 78 [(5, .int v25), (4, .int u17.1), (0, .ref l0), (1, .int l1), (2, .int l2), (3, .int l3)] [.int u28.1] u28.2 0 0 (none, r, 0, 0)
  refine mx_S.pu (pc2 := 80) (lv2 := [(6, .int u28.1), (5, .int v25), (4, .int u17.1), (0, .ref l0), (1, .int l1), (2, .int l2), (3, .int l3)]) (st2 := []) hm dX10_readChoice_78 rfl ?_
  refine mx_S.pu (pc2 := 81) (lv2 := [(6, .int u28.1), (5, .int v25), (4, .int u17.1), (0, .ref l0), (1, .int l1), (2, .int l2), (3, .int l3)]) (st2 := [.ref l0]) hm dX10_readChoice_80 rfl ?_
  replace hf := mx_sv_el hf; obtain ⟨v29, e_v29, hf⟩ := hf
  refine sx_get hm dX10_readChoice_81 rs_RX10_46 (xgr_el e_v29) ?_
  clear e_v29
  refine sx_ic (v := 1) hm dX10_readChoice_84 (by decide) ?_
  replace hf := mx_gd_el hf; obtain ⟨c30, hf⟩ := hf
  replace hf := mx_sv_el hf; obtain ⟨u31, e_u31, hf⟩ := hf
  refine sx_cv hm dX10_readChoice_85 rs_RX10_118 mt_X1_pop [.int 1] [] (b := v29) (ci := 1) rfl rfl rfl c30 (Nat.le_of_ble_eq_true rfl) (Nat.le_of_ble_eq_true rfl) (by omega) (by omega) (f_X1_pop_ok X (by omega) (by omega) nn v29 1 u28.2 e_u31) ?_
  clear e_u31
  show mx_S X F L 276 88 [(6, .int u28.1), (5, .int v25), (4, .int u17.1), (0, .ref l0), (1, .int l1), (2, .int l2), (3, .int l3)] [] u31 0 0 (none, r, 0, 0)
  refine mx_S.pu (pc2 := 89) (lv2 := [(6, .int u28.1), (5, .int v25), (4, .int u17.1), (0, .ref l0), (1, .int l1), (2, .int l2), (3, .int l3)]) (st2 := [.ref l0]) hm dX10_readChoice_88 rfl ?_
  replace hf := mx_sv_el hf; obtain ⟨v32, e_v32, hf⟩ := hf
  refine sx_get hm dX10_readChoice_89 rs_RX10_46 (xgr_el e_v32) ?_
  clear e_v32
  refine mx_S.pu (pc2 := 94) (lv2 := [(6, .int u28.1), (5, .int v25), (4, .int u17.1), (0, .ref l0), (1, .int l1), (2, .int l2), (3, .int l3)]) (st2 := [.int u17.1, .ref v32]) hm dX10_readChoice_92 rfl ?_
  replace hf := mx_gd_el hf; obtain ⟨c33, hf⟩ := hf
  replace hf := mx_sv_el hf; obtain ⟨u34, e_u34, hf⟩ := hf
  refine sx_cv hm dX10_readChoice_94 rs_RX10_121 mt_X1_aimHere [.int u17.1] [] (b := v32) (ci := 1) rfl rfl rfl c33 (Nat.le_of_ble_eq_true rfl) (Nat.le_of_ble_eq_true rfl) (by omega) (by omega) (f_X1_aimHere_ok X (by omega) (by omega) nn v32 u17.1 u31 e_u34) ?_
  clear e_u34
  show mx_S X F L 276 97 [(6, .int u28.1), (5, .int v25), (4, .int u17.1), (0, .ref l0), (1, .int l1), (2, .int l2), (3, .int l3)] [] u34 0 0 (none, r, 0, 0)
  refine mx_S.pu (pc2 := 98) (lv2 := [(6, .int u28.1), (5, .int v25), (4, .int u17.1), (0, .ref l0), (1, .int l1), (2, .int l2), (3, .int l3)]) (st2 := [.ref l0]) hm dX10_readChoice_97 rfl ?_
  replace hf := mx_sv_el hf; obtain ⟨v35, e_v35, hf⟩ := hf
  refine sx_get hm dX10_readChoice_98 rs_RX10_31 (xgr_el e_v35) ?_
  clear e_v35
  refine mx_S.pu (pc2 := 102) (lv2 := [(6, .int u28.1), (5, .int v25), (4, .int u17.1), (0, .ref l0), (1, .int l1), (2, .int l2), (3, .int l3)]) (st2 := [.ref v35, .ref v35]) hm dX10_readChoice_101 rfl ?_
  replace hf := mx_sv_el hf; obtain ⟨v36, e_v36, hf⟩ := hf
  refine sx_get hm dX10_readChoice_102 rs_RX10_72 (xgi_el e_v36) ?_
  clear e_v36
  refine sx_ic (v := 1) hm dX10_readChoice_105 (by decide) ?_
  replace hf := xl_el hf; obtain ⟨v37, e_v37, hf⟩ := hf
  refine mx_S.pu (pc2 := 107) (lv2 := [(6, .int u28.1), (5, .int v25), (4, .int u17.1), (0, .ref l0), (1, .int l1), (2, .int l2), (3, .int l3)]) (st2 := [.int v37, .ref v35]) hm dX10_readChoice_106 (by rw [← e_v37]; rfl) ?_
  clear e_v37
  replace hf := mx_sv_el hf; obtain ⟨h38, e_h38, hf⟩ := hf
  refine sx_put hm dX10_readChoice_107 rs_RX10_72 ft_9_10 ⟨rfl, rfl⟩ (fun z => by cases z) e_h38 ?_
  clear e_h38
  refine mx_S.pu (pc2 := 111) (lv2 := [(6, .int u28.1), (5, .int v25), (4, .int u17.1), (0, .ref l0), (1, .int l1), (2, .int l2), (3, .int l3)]) (st2 := [.ref l0]) hm dX10_readChoice_110 rfl ?_
  refine mx_S.pu (pc2 := 112) (lv2 := [(6, .int u28.1), (5, .int v25), (4, .int u17.1), (0, .ref l0), (1, .int l1), (2, .int l2), (3, .int l3)]) (st2 := [.int l2, .ref l0]) hm dX10_readChoice_111 rfl ?_
  refine sx_ic (v := 1) hm dX10_readChoice_112 (by decide) ?_
  replace hf := xl_el hf; obtain ⟨v39, e_v39, hf⟩ := hf
  refine mx_S.pu (pc2 := 114) (lv2 := [(6, .int u28.1), (5, .int v25), (4, .int u17.1), (0, .ref l0), (1, .int l1), (2, .int l2), (3, .int l3)]) (st2 := [.int v39, .ref l0]) hm dX10_readChoice_113 (by rw [← e_v39]; rfl) ?_
  clear e_v39
  replace hf := mx_gd_el hf; obtain ⟨c40, hf⟩ := hf
  replace hf := mx_sv_el hf; obtain ⟨u41, e_u41, hf⟩ := hf
  refine sx_cv hm dX10_readChoice_114 rs_RX10_68 mt_X10_readValue [.int v39] [] (b := l0) (ci := 10) rfl rfl rfl c40 (Nat.le_of_ble_eq_true rfl) (Nat.le_of_ble_eq_true rfl) (by omega) (by omega) (hrc.1 (by omega) (by omega) l0 v39 h38 e_u41) ?_
  clear e_u41
  show mx_S X F L 276 117 [(6, .int u28.1), (5, .int v25), (4, .int u17.1), (0, .ref l0), (1, .int l1), (2, .int l2), (3, .int l3)] [] u41 0 0 (none, r, 0, 0)
  refine mx_S.pu (pc2 := 118) (lv2 := [(6, .int u28.1), (5, .int v25), (4, .int u17.1), (0, .ref l0), (1, .int l1), (2, .int l2), (3, .int l3)]) (st2 := [.ref l0]) hm dX10_readChoice_117 rfl ?_
  refine mx_S.pu (pc2 := 119) (lv2 := [(6, .int u28.1), (5, .int v25), (4, .int u17.1), (0, .ref l0), (1, .int l1), (2, .int l2), (3, .int l3)]) (st2 := [.ref l0, .ref l0]) hm dX10_readChoice_118 rfl ?_
  refine mx_S.pu (pc2 := 121) (lv2 := [(6, .int u28.1), (5, .int v25), (4, .int u17.1), (0, .ref l0), (1, .int l1), (2, .int l2), (3, .int l3)]) (st2 := [.int v25, .ref l0, .ref l0]) hm dX10_readChoice_119 rfl ?_
  refine mx_S.pu (pc2 := 122) (lv2 := [(6, .int u28.1), (5, .int v25), (4, .int u17.1), (0, .ref l0), (1, .int l1), (2, .int l2), (3, .int l3)]) (st2 := [.ref l0, .int v25, .ref l0, .ref l0]) hm dX10_readChoice_121 rfl ?_
  replace hf := mx_sv_el hf; obtain ⟨v42, e_v42, hf⟩ := hf
  refine sx_get hm dX10_readChoice_122 rs_RX10_75 (xgi_el e_v42) ?_
  clear e_v42
  replace hf := mx_gd_el hf; obtain ⟨c43, hf⟩ := hf
  replace hf := mx_sv_el hf; obtain ⟨u44, e_u44, hf⟩ := hf
  refine sx_cv hm dX10_readChoice_125 rs_RX10_124 mt_X10_isPair [.int v25, .int v42] [.ref l0] (b := l0) (ci := 10) rfl rfl rfl c43 (Nat.le_of_ble_eq_true rfl) (Nat.le_of_ble_eq_true rfl) (by omega) (by omega) (f_X10_isPair_ok X (by omega) (by omega) nn l0 v25 v42 u41 e_u44) ?_
  clear e_u44
  show mx_S X F L 276 128 [(6, .int u28.1), (5, .int v25), (4, .int u17.1), (0, .ref l0), (1, .int l1), (2, .int l2), (3, .int l3)] [.int u44.1, .ref l0] u44.2 0 0 (none, r, 0, 0)
  refine mx_S.pu (pc2 := 129) (lv2 := [(6, .int u28.1), (5, .int v25), (4, .int u17.1), (0, .ref l0), (1, .int l1), (2, .int l2), (3, .int l3)]) (st2 := [.int l3, .int u44.1, .ref l0]) hm dX10_readChoice_128 rfl ?_
  replace hf := mx_gd_el hf; obtain ⟨c45, hf⟩ := hf
  replace hf := mx_sv_el hf; obtain ⟨u46, e_u46, hf⟩ := hf
  refine sx_cv hm dX10_readChoice_129 rs_RX10_80 mt_X10_wantType [.int u44.1, .int l3] [] (b := l0) (ci := 10) rfl rfl rfl c45 (Nat.le_of_ble_eq_true rfl) (Nat.le_of_ble_eq_true rfl) (by omega) (by omega) (f_X10_wantType_ok X (by omega) (by omega) nn l0 u44.1 l3 u44.2 e_u46) ?_
  clear e_u46
  show mx_S X F L 276 132 [(6, .int u28.1), (5, .int v25), (4, .int u17.1), (0, .ref l0), (1, .int l1), (2, .int l2), (3, .int l3)] [] u46 0 0 (none, r, 0, 0)
  refine mx_S.pu (pc2 := 133) (lv2 := [(6, .int u28.1), (5, .int v25), (4, .int u17.1), (0, .ref l0), (1, .int l1), (2, .int l2), (3, .int l3)]) (st2 := [.ref l0]) hm dX10_readChoice_132 rfl ?_
  refine mx_S.pu (pc2 := 134) (lv2 := [(6, .int u28.1), (5, .int v25), (4, .int u17.1), (0, .ref l0), (1, .int l1), (2, .int l2), (3, .int l3)]) (st2 := [.ref l0, .ref l0]) hm dX10_readChoice_133 rfl ?_
  replace hf := mx_sv_el hf; obtain ⟨v47, e_v47, hf⟩ := hf
  refine sx_get hm dX10_readChoice_134 rs_RX10_45 (xgr_el e_v47) ?_
  clear e_v47
  refine mx_S.pu (pc2 := 139) (lv2 := [(6, .int u28.1), (5, .int v25), (4, .int u17.1), (0, .ref l0), (1, .int l1), (2, .int l2), (3, .int l3)]) (st2 := [.int v25, .ref v47, .ref l0]) hm dX10_readChoice_137 rfl ?_
  refine mx_S.pu (pc2 := 140) (lv2 := [(6, .int u28.1), (5, .int v25), (4, .int u17.1), (0, .ref l0), (1, .int l1), (2, .int l2), (3, .int l3)]) (st2 := [.ref l0, .int v25, .ref v47, .ref l0]) hm dX10_readChoice_139 rfl ?_
  replace hf := mx_sv_el hf; obtain ⟨v48, e_v48, hf⟩ := hf
  refine sx_get hm dX10_readChoice_140 rs_RX10_75 (xgi_el e_v48) ?_
  clear e_v48
  replace hf := mx_gd_el hf; obtain ⟨c49, hf⟩ := hf
  replace hf := mx_sv_el hf; obtain ⟨u50, e_u50, hf⟩ := hf
  refine sx_cv hm dX10_readChoice_143 rs_RX10_127 mt_X4_fits [.int v25, .int v48] [.ref l0] (b := v47) (ci := 4) rfl rfl rfl c49 (Nat.le_of_ble_eq_true rfl) (Nat.le_of_ble_eq_true rfl) (by omega) (by omega) (f_X4_fits_ok X (by omega) (by omega) nn v47 v25 v48 u46 e_u50) ?_
  clear e_u50
  show mx_S X F L 276 146 [(6, .int u28.1), (5, .int v25), (4, .int u17.1), (0, .ref l0), (1, .int l1), (2, .int l2), (3, .int l3)] [.int u50.1, .ref l0] u50.2 0 0 (none, r, 0, 0)
  rcases mx_if_el hf with ⟨c52, hf⟩ | ⟨c52, hf⟩
  · refine sb_if_eq hm dX10_readChoice_146 (tgt := 156) rfl (fun _ => ?_) (fun z => absurd c52 z)
    refine mx_S.pu (pc2 := 158) (lv2 := [(6, .int u28.1), (5, .int v25), (4, .int u17.1), (0, .ref l0), (1, .int l1), (2, .int l2), (3, .int l3)]) (st2 := [.int v25, .ref l0]) hm dX10_readChoice_156 rfl ?_
    refine mx_S.ext [(0, .ref l0), (6, .int u28.1)] (mx_sub_pos [3, 0] rfl (show ([6, 5, 4, 0, 1, 2, 3] : List Nat).Nodup by decide)) ?_
    exact j_X10_readChoice_158_ok X hF hL nn hrc l0 u28.1 v25 l0 u50.2 hf
  · refine sb_if_eq hm dX10_readChoice_146 (tgt := 156) rfl (fun z => absurd z c52) (fun _ => ?_)
    refine mx_S.pu (pc2 := 150) (lv2 := [(6, .int u28.1), (5, .int v25), (4, .int u17.1), (0, .ref l0), (1, .int l1), (2, .int l2), (3, .int l3)]) (st2 := [.ref l0, .ref l0]) hm dX10_readChoice_149 rfl ?_
    replace hf := mx_sv_el hf; obtain ⟨v51, e_v51, hf⟩ := hf
    refine sx_get hm dX10_readChoice_150 rs_RX10_75 (xgi_el e_v51) ?_
    clear e_v51
    refine mx_S.pu (pc2 := 158) (lv2 := [(6, .int u28.1), (5, .int v25), (4, .int u17.1), (0, .ref l0), (1, .int l1), (2, .int l2), (3, .int l3)]) (st2 := [.int v51, .ref l0]) hm dX10_readChoice_153 rfl ?_
    refine mx_S.ext [(0, .ref l0), (6, .int u28.1)] (mx_sub_pos [3, 0] rfl (show ([6, 5, 4, 0, 1, 2, 3] : List Nat).Nodup by decide)) ?_
    exact j_X10_readChoice_158_ok X hF hL nn hrc l0 u28.1 v51 l0 u50.2 hf
set_option maxHeartbeats 4000000 in
set_option maxRecDepth 20000 in
theorem o_X10_readChoice_ok (X : Nat × (Nat → Int32)) {F L d : Nat} (hF : 5 + (d + 1) ≤ F) (hL : 152 + (d + 1) * 30 ≤ L) (nn : Nat) {rc : tg_X10_readValue} (hrc : hg5_X10_readValue X d rc) (a0 : Nat) (a1 : Int32) (a2 : Int32) (h : mx_H) {r : mx_H} (hf : o_X10_readChoice nn rc a0 a1 a2 h = some r) : mx_R X F L 276 [.ref a0, .int a1, .int a2] h (none, r, 0, 0) := by
  have hm : mx_mt 276 = some (yX10_readChoice, cX10_readChoice, 7, none) := mt_X10_readChoice
  show mx_S X F L 276 0 [(0, .ref a0), (1, .int a1), (2, .int a2)] [] h 0 0 (none, r, 0, 0)
  unfold o_X10_readChoice at hf
  refine mx_S.pu (pc2 := 1) (lv2 := [(0, .ref a0), (1, .int a1), (2, .int a2)]) (st2 := [.ref a0]) hm dX10_readChoice_0 rfl ?_
  replace hf := mx_sv_el hf; obtain ⟨v53, e_v53, hf⟩ := hf
  refine sx_get hm dX10_readChoice_1 rs_RX10_31 (xgr_el e_v53) ?_
  clear e_v53
  replace hf := mx_sv_el hf; obtain ⟨v54, e_v54, hf⟩ := hf
  refine sx_get hm dX10_readChoice_4 rs_RX10_72 (xgi_el e_v54) ?_
  clear e_v54
  refine mx_S.pu (pc2 := 8) (lv2 := [(3, .int v54), (0, .ref a0), (1, .int a1), (2, .int a2)]) (st2 := []) hm dX10_readChoice_7 rfl ?_
  refine mx_S.pu (pc2 := 9) (lv2 := [(3, .int v54), (0, .ref a0), (1, .int a1), (2, .int a2)]) (st2 := [.ref a0]) hm dX10_readChoice_8 rfl ?_
  refine mx_S.pu (pc2 := 10) (lv2 := [(3, .int v54), (0, .ref a0), (1, .int a1), (2, .int a2)]) (st2 := [.ref a0, .ref a0]) hm dX10_readChoice_9 rfl ?_
  replace hf := mx_sv_el hf; obtain ⟨v55, e_v55, hf⟩ := hf
  refine sx_get hm dX10_readChoice_10 rs_RX10_75 (xgi_el e_v55) ?_
  clear e_v55
  refine sx_si (v := 302) hm dX10_readChoice_13 (by decide) ?_
  rcases mx_if_el hf with ⟨c56, hf⟩ | ⟨c56, hf⟩
  · refine sb_ic_ne hm dX10_readChoice_16 (tgt := 23) rfl (fun _ => ?_) (fun z => absurd c56 z)
    refine sx_ic (v := 0) hm dX10_readChoice_23 (by decide) ?_
    refine mx_S.ext [(0, .ref a0), (1, .int a1), (2, .int a2), (3, .int v54)] (mx_sub_pos [1, 2, 3, 0] rfl (show ([3, 0, 1, 2] : List Nat).Nodup by decide)) ?_
    exact j_X10_readChoice_24_ok X hF hL nn hrc a0 a1 a2 v54 0 a0 h hf
  · refine sb_ic_ne hm dX10_readChoice_16 (tgt := 23) rfl (fun z => absurd z c56) (fun _ => ?_)
    refine sx_ic (v := 1) hm dX10_readChoice_19 (by decide) ?_
    refine mx_S.pu (pc2 := 24) (lv2 := [(3, .int v54), (0, .ref a0), (1, .int a1), (2, .int a2)]) (st2 := [.int 1, .ref a0]) hm dX10_readChoice_20 rfl ?_
    refine mx_S.ext [(0, .ref a0), (1, .int a1), (2, .int a2), (3, .int v54)] (mx_sub_pos [1, 2, 3, 0] rfl (show ([3, 0, 1, 2] : List Nat).Nodup by decide)) ?_
    exact j_X10_readChoice_24_ok X hF hL nn hrc a0 a1 a2 v54 1 a0 h hf
set_option maxHeartbeats 4000000 in
set_option maxRecDepth 20000 in
theorem j_X10_readUnary_116_ok (X : Nat × (Nat → Int32)) {F L d : Nat} (hF : 5 + (d + 1) ≤ F) (hL : 152 + (d + 1) * 30 ≤ L) (nn : Nat) {rc : tg_X10_readValue} (hrc : hg5_X10_readValue X d rc) (l0 : Nat) (l2 : Int32) (h : mx_H) {r : mx_H} (hf : j_X10_readUnary_116 nn rc l0 l2 h = some r) : mx_S X F L 288 116 [(0, .ref l0), (2, .int l2)] [] h 0 0 (none, r, 0, 0) := by
  have hm : mx_mt 288 = some (yX10_readUnary, cX10_readUnary, 5, none) := mt_X10_readUnary
  unfold j_X10_readUnary_116 at hf
  refine mx_S.pu (pc2 := 117) (lv2 := [(0, .ref l0), (2, .int l2)]) (st2 := [.ref l0]) hm dX10_readUnary_116 rfl ?_
  refine mx_S.pu (pc2 := 118) (lv2 := [(0, .ref l0), (2, .int l2)]) (st2 := [.int l2, .ref l0]) hm dX10_readUnary_117 rfl ?_
  replace hf := mx_sv_el hf; obtain ⟨h1, e_h1, hf⟩ := hf
  refine sx_put hm dX10_readUnary_118 rs_RX10_146 ft_10_15 ⟨rfl, rfl⟩ (fun z => by cases z) e_h1 ?_
  clear e_h1
  cases hf
  exact sx_ret hm dX10_readUnary_121 rfl
set_option maxHeartbeats 4000000 in
set_option maxRecDepth 20000 in
theorem j_X10_readUnary_41_ok (X : Nat × (Nat → Int32)) {F L d : Nat} (hF : 5 + (d + 1) ≤ F) (hL : 152 + (d + 1) * 30 ≤ L) (nn : Nat) {rc : tg_X10_readValue} (hrc : hg5_X10_readValue X d rc) (l0 : Nat) (l1 : Int32) (l2 : Int32) (l3 : Int32) (h : mx_H) {r : mx_H} (hf : j_X10_readUnary_41 nn rc l0 l1 l2 l3 h = some r) : mx_S X F L 288 41 [(0, .ref l0), (1, .int l1), (2, .int l2), (3, .int l3)] [] h 0 0 (none, r, 0, 0) := by
  have hm : mx_mt 288 = some (yX10_readUnary, cX10_readUnary, 5, none) := mt_X10_readUnary
  unfold j_X10_readUnary_41 at hf
  refine mx_S.pu (pc2 := 42) (lv2 := [(0, .ref l0), (1, .int l1), (2, .int l2), (3, .int l3)]) (st2 := [.ref l0]) hm dX10_readUnary_41 rfl ?_
  replace hf := mx_sv_el hf; obtain ⟨v2, e_v2, hf⟩ := hf
  refine sx_get hm dX10_readUnary_42 rs_RX10_31 (xgr_el e_v2) ?_
  clear e_v2
  refine mx_S.pu (pc2 := 46) (lv2 := [(0, .ref l0), (1, .int l1), (2, .int l2), (3, .int l3)]) (st2 := [.ref v2, .ref v2]) hm dX10_readUnary_45 rfl ?_
  replace hf := mx_sv_el hf; obtain ⟨v3, e_v3, hf⟩ := hf
  refine sx_get hm dX10_readUnary_46 rs_RX10_72 (xgi_el e_v3) ?_
  clear e_v3
  refine sx_ic (v := 1) hm dX10_readUnary_49 (by decide) ?_
  replace hf := xl_el hf; obtain ⟨v4, e_v4, hf⟩ := hf
  refine mx_S.pu (pc2 := 51) (lv2 := [(0, .ref l0), (1, .int l1), (2, .int l2), (3, .int l3)]) (st2 := [.int v4, .ref v2]) hm dX10_readUnary_50 (by rw [← e_v4]; rfl) ?_
  clear e_v4
  replace hf := mx_sv_el hf; obtain ⟨h5, e_h5, hf⟩ := hf
  refine sx_put hm dX10_readUnary_51 rs_RX10_72 ft_9_10 ⟨rfl, rfl⟩ (fun z => by cases z) e_h5 ?_
  clear e_h5
  refine mx_S.pu (pc2 := 55) (lv2 := [(0, .ref l0), (1, .int l1), (2, .int l2), (3, .int l3)]) (st2 := [.ref l0]) hm dX10_readUnary_54 rfl ?_
  refine mx_S.pu (pc2 := 56) (lv2 := [(0, .ref l0), (1, .int l1), (2, .int l2), (3, .int l3)]) (st2 := [.int l1, .ref l0]) hm dX10_readUnary_55 rfl ?_
  refine sx_ic (v := 1) hm dX10_readUnary_56 (by decide) ?_
  replace hf := xl_el hf; obtain ⟨v6, e_v6, hf⟩ := hf
  refine mx_S.pu (pc2 := 58) (lv2 := [(0, .ref l0), (1, .int l1), (2, .int l2), (3, .int l3)]) (st2 := [.int v6, .ref l0]) hm dX10_readUnary_57 (by rw [← e_v6]; rfl) ?_
  clear e_v6
  replace hf := mx_gd_el hf; obtain ⟨c7, hf⟩ := hf
  replace hf := mx_sv_el hf; obtain ⟨u8, e_u8, hf⟩ := hf
  refine sx_cv hm dX10_readUnary_58 rs_RX10_90 mt_X10_readUnary [.int v6] [] (b := l0) (ci := 10) rfl rfl rfl c7 (Nat.le_of_ble_eq_true rfl) (Nat.le_of_ble_eq_true rfl) (by omega) (by omega) (hrc.2.2.1 (by omega) (by omega) l0 v6 h5 e_u8) ?_
  clear e_u8
  show mx_S X F L 288 61 [(0, .ref l0), (1, .int l1), (2, .int l2), (3, .int l3)] [] u8 0 0 (none, r, 0, 0)
  refine mx_S.pu (pc2 := 62) (lv2 := [(0, .ref l0), (1, .int l1), (2, .int l2), (3, .int l3)]) (st2 := [.ref l0]) hm dX10_readUnary_61 rfl ?_
  refine mx_S.pu (pc2 := 63) (lv2 := [(0, .ref l0), (1, .int l1), (2, .int l2), (3, .int l3)]) (st2 := [.int l3, .ref l0]) hm dX10_readUnary_62 rfl ?_
  refine mx_S.pu (pc2 := 64) (lv2 := [(0, .ref l0), (1, .int l1), (2, .int l2), (3, .int l3)]) (st2 := [.int l2, .int l3, .ref l0]) hm dX10_readUnary_63 rfl ?_
  replace hf := mx_gd_el hf; obtain ⟨c9, hf⟩ := hf
  replace hf := mx_sv_el hf; obtain ⟨u10, e_u10, hf⟩ := hf
  refine sx_cv hm dX10_readUnary_64 rs_RX10_184 mt_X10_closeUnary [.int l3, .int l2] [] (b := l0) (ci := 10) rfl rfl rfl c9 (Nat.le_of_ble_eq_true rfl) (Nat.le_of_ble_eq_true rfl) (by omega) (by omega) (f_X10_closeUnary_ok X (by omega) (by omega) nn l0 l3 l2 u8 e_u10) ?_
  clear e_u10
  show mx_S X F L 288 67 [(0, .ref l0), (1, .int l1), (2, .int l2), (3, .int l3)] [] u10 0 0 (none, r, 0, 0)
  refine mx_S.pu (pc2 := 116) (lv2 := [(0, .ref l0), (1, .int l1), (2, .int l2), (3, .int l3)]) (st2 := []) hm dX10_readUnary_67 rfl ?_
  refine mx_S.ext [(0, .ref l0), (2, .int l2)] (mx_sub_pos [0, 2] rfl (show ([0, 1, 2, 3] : List Nat).Nodup by decide)) ?_
  exact j_X10_readUnary_116_ok X hF hL nn hrc l0 l2 u10 hf
set_option maxHeartbeats 4000000 in
set_option maxRecDepth 20000 in
theorem o_X10_readUnary_ok (X : Nat × (Nat → Int32)) {F L d : Nat} (hF : 5 + (d + 1) ≤ F) (hL : 152 + (d + 1) * 30 ≤ L) (nn : Nat) {rc : tg_X10_readValue} (hrc : hg5_X10_readValue X d rc) (a0 : Nat) (a1 : Int32) (h : mx_H) {r : mx_H} (hf : o_X10_readUnary nn rc a0 a1 h = some r) : mx_R X F L 288 [.ref a0, .int a1] h (none, r, 0, 0) := by
  have hm : mx_mt 288 = some (yX10_readUnary, cX10_readUnary, 5, none) := mt_X10_readUnary
  show mx_S X F L 288 0 [(0, .ref a0), (1, .int a1)] [] h 0 0 (none, r, 0, 0)
  unfold o_X10_readUnary at hf
  refine mx_S.pu (pc2 := 1) (lv2 := [(0, .ref a0), (1, .int a1)]) (st2 := [.int a1]) hm dX10_readUnary_0 rfl ?_
  refine sx_bi (v := 42) hm dX10_readUnary_1 (by decide) ?_
  rcases mx_if_el hf with ⟨c35, hf⟩ | ⟨c35, hf⟩
  · refine sb_ic_le hm dX10_readUnary_3 (tgt := 7) rfl (fun _ => ?_) (fun z => absurd c35 z)
    refine mx_S.pu (pc2 := 8) (lv2 := [(0, .ref a0), (1, .int a1)]) (st2 := [.ref a0]) hm dX10_readUnary_7 rfl ?_
    replace hf := mx_sv_el hf; obtain ⟨v11, e_v11, hf⟩ := hf
    refine sx_get hm dX10_readUnary_8 rs_RX10_31 (xgr_el e_v11) ?_
    clear e_v11
    replace hf := mx_sv_el hf; obtain ⟨v12, e_v12, hf⟩ := hf
    refine sx_get hm dX10_readUnary_11 rs_RX10_72 (xgi_el e_v12) ?_
    clear e_v12
    refine mx_S.pu (pc2 := 15) (lv2 := [(2, .int v12), (0, .ref a0), (1, .int a1)]) (st2 := []) hm dX10_readUnary_14 rfl ?_
    refine mx_S.pu (pc2 := 16) (lv2 := [(2, .int v12), (0, .ref a0), (1, .int a1)]) (st2 := [.ref a0]) hm dX10_readUnary_15 rfl ?_
    replace hf := mx_sv_el hf; obtain ⟨v13, e_v13, hf⟩ := hf
    refine sx_get hm dX10_readUnary_16 rs_RX10_31 (xgr_el e_v13) ?_
    clear e_v13
    replace hf := mx_gd_el hf; obtain ⟨c14, hf⟩ := hf
    replace hf := mx_sv_el hf; obtain ⟨u15, e_u15, hf⟩ := hf
    refine sx_cv hm dX10_readUnary_19 rs_RX10_93 mt_X9_kind [] [] (b := v13) (ci := 9) rfl rfl rfl c14 (Nat.le_of_ble_eq_true rfl) (Nat.le_of_ble_eq_true rfl) (by omega) (by omega) (f_X9_kind_ok X (by omega) (by omega) nn v13 h e_u15) ?_
    clear e_u15
    show mx_S X F L 288 22 [(2, .int v12), (0, .ref a0), (1, .int a1)] [.int u15.1] u15.2 0 0 (none, r, 0, 0)
    refine mx_S.pu (pc2 := 23) (lv2 := [(3, .int u15.1), (2, .int v12), (0, .ref a0), (1, .int a1)]) (st2 := []) hm dX10_readUnary_22 rfl ?_
    refine mx_S.pu (pc2 := 24) (lv2 := [(3, .int u15.1), (2, .int v12), (0, .ref a0), (1, .int a1)]) (st2 := [.int u15.1]) hm dX10_readUnary_23 rfl ?_
    refine sx_bi (v := 62) hm dX10_readUnary_24 (by decide) ?_
    rcases mx_if_el hf with ⟨c34, hf⟩ | ⟨c34, hf⟩
    · refine sb_ic_eq hm dX10_readUnary_26 (tgt := 41) rfl (fun _ => ?_) (fun z => absurd c34 z)
      refine mx_S.ext [(0, .ref a0), (1, .int a1), (2, .int v12), (3, .int u15.1)] (mx_sub_pos [2, 3, 1, 0] rfl (show ([3, 2, 0, 1] : List Nat).Nodup by decide)) ?_
      exact j_X10_readUnary_41_ok X hF hL nn hrc a0 a1 v12 u15.1 u15.2 hf
    · refine sb_ic_eq hm dX10_readUnary_26 (tgt := 41) rfl (fun z => absurd z c34) (fun _ => ?_)
      refine mx_S.pu (pc2 := 30) (lv2 := [(3, .int u15.1), (2, .int v12), (0, .ref a0), (1, .int a1)]) (st2 := [.int u15.1]) hm dX10_readUnary_29 rfl ?_
      refine sx_bi (v := 72) hm dX10_readUnary_30 (by decide) ?_
      rcases mx_if_el hf with ⟨c33, hf⟩ | ⟨c33, hf⟩
      · refine sb_ic_eq hm dX10_readUnary_32 (tgt := 41) rfl (fun _ => ?_) (fun z => absurd c33 z)
        refine mx_S.ext [(0, .ref a0), (1, .int a1), (2, .int v12), (3, .int u15.1)] (mx_sub_pos [2, 3, 1, 0] rfl (show ([3, 2, 0, 1] : List Nat).Nodup by decide)) ?_
        exact j_X10_readUnary_41_ok X hF hL nn hrc a0 a1 v12 u15.1 u15.2 hf
      · refine sb_ic_eq hm dX10_readUnary_32 (tgt := 41) rfl (fun z => absurd z c33) (fun _ => ?_)
        refine mx_S.pu (pc2 := 36) (lv2 := [(3, .int u15.1), (2, .int v12), (0, .ref a0), (1, .int a1)]) (st2 := [.int u15.1]) hm dX10_readUnary_35 rfl ?_
        refine sx_bi (v := 71) hm dX10_readUnary_36 (by decide) ?_
        rcases mx_if_el hf with ⟨c32, hf⟩ | ⟨c32, hf⟩
        · refine sb_ic_ne hm dX10_readUnary_38 (tgt := 70) rfl (fun _ => ?_) (fun z => absurd c32 z)
          refine mx_S.pu (pc2 := 71) (lv2 := [(3, .int u15.1), (2, .int v12), (0, .ref a0), (1, .int a1)]) (st2 := [.ref a0]) hm dX10_readUnary_70 rfl ?_
          replace hf := mx_sv_el hf; obtain ⟨v16, e_v16, hf⟩ := hf
          refine sx_get hm dX10_readUnary_71 rs_RX10_31 (xgr_el e_v16) ?_
          clear e_v16
          replace hf := mx_gd_el hf; obtain ⟨c17, hf⟩ := hf
          replace hf := mx_sv_el hf; obtain ⟨u18, e_u18, hf⟩ := hf
          refine sx_cv hm dX10_readUnary_74 rs_RX10_187 mt_X9_beginsCast [] [] (b := v16) (ci := 9) rfl rfl rfl c17 (Nat.le_of_ble_eq_true rfl) (Nat.le_of_ble_eq_true rfl) (by omega) (by omega) (f_X9_beginsCast_ok X (by omega) (by omega) nn v16 u15.2 e_u18) ?_
          clear e_u18
          show mx_S X F L 288 77 [(3, .int u15.1), (2, .int v12), (0, .ref a0), (1, .int a1)] [.int u18.1] u18.2 0 0 (none, r, 0, 0)
          rcases mx_if_el hf with ⟨c31, hf⟩ | ⟨c31, hf⟩
          · refine sb_if_eq hm dX10_readUnary_77 (tgt := 111) rfl (fun _ => ?_) (fun z => absurd c31 z)
            refine mx_S.pu (pc2 := 112) (lv2 := [(3, .int u15.1), (2, .int v12), (0, .ref a0), (1, .int a1)]) (st2 := [.ref a0]) hm dX10_readUnary_111 rfl ?_
            refine mx_S.pu (pc2 := 113) (lv2 := [(3, .int u15.1), (2, .int v12), (0, .ref a0), (1, .int a1)]) (st2 := [.int a1, .ref a0]) hm dX10_readUnary_112 rfl ?_
            replace hf := mx_gd_el hf; obtain ⟨c19, hf⟩ := hf
            replace hf := mx_sv_el hf; obtain ⟨u20, e_u20, hf⟩ := hf
            refine sx_cv hm dX10_readUnary_113 rs_RX10_194 mt_X10_readPrimary [.int a1] [] (b := a0) (ci := 10) rfl rfl rfl c19 (Nat.le_of_ble_eq_true rfl) (Nat.le_of_ble_eq_true rfl) (by omega) (by omega) (hrc.2.2.2.1 (by omega) (by omega) a0 a1 u18.2 e_u20) ?_
            clear e_u20
            show mx_S X F L 288 116 [(3, .int u15.1), (2, .int v12), (0, .ref a0), (1, .int a1)] [] u20 0 0 (none, r, 0, 0)
            refine mx_S.ext [(0, .ref a0), (2, .int v12)] (mx_sub_pos [2, 1] rfl (show ([3, 2, 0, 1] : List Nat).Nodup by decide)) ?_
            exact j_X10_readUnary_116_ok X hF hL nn hrc a0 v12 u20 hf
          · refine sb_if_eq hm dX10_readUnary_77 (tgt := 111) rfl (fun z => absurd z c31) (fun _ => ?_)
            refine mx_S.pu (pc2 := 81) (lv2 := [(3, .int u15.1), (2, .int v12), (0, .ref a0), (1, .int a1)]) (st2 := [.ref a0]) hm dX10_readUnary_80 rfl ?_
            refine mx_S.pu (pc2 := 82) (lv2 := [(3, .int u15.1), (2, .int v12), (0, .ref a0), (1, .int a1)]) (st2 := [.int v12, .ref a0]) hm dX10_readUnary_81 rfl ?_
            refine sx_ic (v := 1) hm dX10_readUnary_82 (by decide) ?_
            replace hf := xl_el hf; obtain ⟨v21, e_v21, hf⟩ := hf
            refine mx_S.pu (pc2 := 84) (lv2 := [(3, .int u15.1), (2, .int v12), (0, .ref a0), (1, .int a1)]) (st2 := [.int v21, .ref a0]) hm dX10_readUnary_83 (by rw [← e_v21]; rfl) ?_
            clear e_v21
            refine mx_S.pu (pc2 := 85) (lv2 := [(3, .int u15.1), (2, .int v12), (0, .ref a0), (1, .int a1)]) (st2 := [.int v12, .int v21, .ref a0]) hm dX10_readUnary_84 rfl ?_
            refine sx_ic (v := 3) hm dX10_readUnary_85 (by decide) ?_
            replace hf := xl_el hf; obtain ⟨v22, e_v22, hf⟩ := hf
            refine mx_S.pu (pc2 := 87) (lv2 := [(3, .int u15.1), (2, .int v12), (0, .ref a0), (1, .int a1)]) (st2 := [.int v22, .int v21, .ref a0]) hm dX10_readUnary_86 (by rw [← e_v22]; rfl) ?_
            clear e_v22
            replace hf := mx_gd_el hf; obtain ⟨c23, hf⟩ := hf
            replace hf := mx_sv_el hf; obtain ⟨u24, e_u24, hf⟩ := hf
            refine sx_cv hm dX10_readUnary_87 rs_RX10_168 mt_X10_readNamedClass [.int v21, .int v22] [] (b := a0) (ci := 10) rfl rfl rfl c23 (Nat.le_of_ble_eq_true rfl) (Nat.le_of_ble_eq_true rfl) (by omega) (by omega) (f_X10_readNamedClass_ok X (by omega) (by omega) nn a0 v21 v22 u18.2 e_u24) ?_
            clear e_u24
            show mx_S X F L 288 90 [(3, .int u15.1), (2, .int v12), (0, .ref a0), (1, .int a1)] [.int u24.1] u24.2 0 0 (none, r, 0, 0)
            refine mx_S.pu (pc2 := 92) (lv2 := [(4, .int u24.1), (3, .int u15.1), (2, .int v12), (0, .ref a0), (1, .int a1)]) (st2 := []) hm dX10_readUnary_90 rfl ?_
            refine mx_S.pu (pc2 := 93) (lv2 := [(4, .int u24.1), (3, .int u15.1), (2, .int v12), (0, .ref a0), (1, .int a1)]) (st2 := [.ref a0]) hm dX10_readUnary_92 rfl ?_
            refine mx_S.pu (pc2 := 94) (lv2 := [(4, .int u24.1), (3, .int u15.1), (2, .int v12), (0, .ref a0), (1, .int a1)]) (st2 := [.int a1, .ref a0]) hm dX10_readUnary_93 rfl ?_
            refine sx_ic (v := 1) hm dX10_readUnary_94 (by decide) ?_
            replace hf := xl_el hf; obtain ⟨v25, e_v25, hf⟩ := hf
            refine mx_S.pu (pc2 := 96) (lv2 := [(4, .int u24.1), (3, .int u15.1), (2, .int v12), (0, .ref a0), (1, .int a1)]) (st2 := [.int v25, .ref a0]) hm dX10_readUnary_95 (by rw [← e_v25]; rfl) ?_
            clear e_v25
            replace hf := mx_gd_el hf; obtain ⟨c26, hf⟩ := hf
            replace hf := mx_sv_el hf; obtain ⟨u27, e_u27, hf⟩ := hf
            refine sx_cv hm dX10_readUnary_96 rs_RX10_90 mt_X10_readUnary [.int v25] [] (b := a0) (ci := 10) rfl rfl rfl c26 (Nat.le_of_ble_eq_true rfl) (Nat.le_of_ble_eq_true rfl) (by omega) (by omega) (hrc.2.2.1 (by omega) (by omega) a0 v25 u24.2 e_u27) ?_
            clear e_u27
            show mx_S X F L 288 99 [(4, .int u24.1), (3, .int u15.1), (2, .int v12), (0, .ref a0), (1, .int a1)] [] u27 0 0 (none, r, 0, 0)
            refine mx_S.pu (pc2 := 100) (lv2 := [(4, .int u24.1), (3, .int u15.1), (2, .int v12), (0, .ref a0), (1, .int a1)]) (st2 := [.ref a0]) hm dX10_readUnary_99 rfl ?_
            refine mx_S.pu (pc2 := 102) (lv2 := [(4, .int u24.1), (3, .int u15.1), (2, .int v12), (0, .ref a0), (1, .int a1)]) (st2 := [.int u24.1, .ref a0]) hm dX10_readUnary_100 rfl ?_
            refine mx_S.pu (pc2 := 103) (lv2 := [(4, .int u24.1), (3, .int u15.1), (2, .int v12), (0, .ref a0), (1, .int a1)]) (st2 := [.int v12, .int u24.1, .ref a0]) hm dX10_readUnary_102 rfl ?_
            refine sx_ic (v := 1) hm dX10_readUnary_103 (by decide) ?_
            replace hf := xl_el hf; obtain ⟨v28, e_v28, hf⟩ := hf
            refine mx_S.pu (pc2 := 105) (lv2 := [(4, .int u24.1), (3, .int u15.1), (2, .int v12), (0, .ref a0), (1, .int a1)]) (st2 := [.int v28, .int u24.1, .ref a0]) hm dX10_readUnary_104 (by rw [← e_v28]; rfl) ?_
            clear e_v28
            replace hf := mx_gd_el hf; obtain ⟨c29, hf⟩ := hf
            replace hf := mx_sv_el hf; obtain ⟨u30, e_u30, hf⟩ := hf
            refine sx_cv hm dX10_readUnary_105 rs_RX10_191 mt_X10_closeCast [.int u24.1, .int v28] [] (b := a0) (ci := 10) rfl rfl rfl c29 (Nat.le_of_ble_eq_true rfl) (Nat.le_of_ble_eq_true rfl) (by omega) (by omega) (f_X10_closeCast_ok X (by omega) (by omega) nn a0 u24.1 v28 u27 e_u30) ?_
            clear e_u30
            show mx_S X F L 288 108 [(4, .int u24.1), (3, .int u15.1), (2, .int v12), (0, .ref a0), (1, .int a1)] [] u30 0 0 (none, r, 0, 0)
            refine mx_S.pu (pc2 := 116) (lv2 := [(4, .int u24.1), (3, .int u15.1), (2, .int v12), (0, .ref a0), (1, .int a1)]) (st2 := []) hm dX10_readUnary_108 rfl ?_
            refine mx_S.ext [(0, .ref a0), (2, .int v12)] (mx_sub_pos [3, 2] rfl (show ([4, 3, 2, 0, 1] : List Nat).Nodup by decide)) ?_
            exact j_X10_readUnary_116_ok X hF hL nn hrc a0 v12 u30 hf
        · refine sb_ic_ne hm dX10_readUnary_38 (tgt := 70) rfl (fun z => absurd z c32) (fun _ => ?_)
          refine mx_S.ext [(0, .ref a0), (1, .int a1), (2, .int v12), (3, .int u15.1)] (mx_sub_pos [2, 3, 1, 0] rfl (show ([3, 2, 0, 1] : List Nat).Nodup by decide)) ?_
          exact j_X10_readUnary_41_ok X hF hL nn hrc a0 a1 v12 u15.1 u15.2 hf
  · refine sb_ic_le hm dX10_readUnary_3 (tgt := 7) rfl (fun z => absurd z c35) (fun _ => ?_)
    cases hf
    exact sx_ret hm dX10_readUnary_6 rfl
set_option maxHeartbeats 4000000 in
set_option maxRecDepth 20000 in
theorem j_X10_readPrimary_176_ok (X : Nat × (Nat → Int32)) {F L d : Nat} (hF : 5 + (d + 1) ≤ F) (hL : 152 + (d + 1) * 30 ≤ L) (nn : Nat) {rc : tg_X10_readValue} (hrc : hg5_X10_readValue X d rc) (l0 : Nat) (l3 : Int32) (h : mx_H) {r : mx_H} (hf : j_X10_readPrimary_176 nn rc l0 l3 h = some r) : mx_S X F L 291 176 [(0, .ref l0), (3, .int l3)] [] h 0 0 (none, r, 0, 0) := by
  have hm : mx_mt 291 = some (yX10_readPrimary, cX10_readPrimary, 5, none) := mt_X10_readPrimary
  unfold j_X10_readPrimary_176 at hf
  refine mx_S.pu (pc2 := 177) (lv2 := [(0, .ref l0), (3, .int l3)]) (st2 := [.int l3]) hm dX10_readPrimary_176 rfl ?_
  refine sx_bi (v := 51) hm dX10_readPrimary_177 (by decide) ?_
  rcases mx_if_el hf with ⟨c3, hf⟩ | ⟨c3, hf⟩
  · refine sb_ic_eq hm dX10_readPrimary_179 (tgt := 186) rfl (fun _ => ?_) (fun z => absurd c3 z)
    cases hf
    exact sx_ret hm dX10_readPrimary_186 rfl
  · refine sb_ic_eq hm dX10_readPrimary_179 (tgt := 186) rfl (fun z => absurd z c3) (fun _ => ?_)
    refine mx_S.pu (pc2 := 183) (lv2 := [(0, .ref l0), (3, .int l3)]) (st2 := [.ref l0]) hm dX10_readPrimary_182 rfl ?_
    replace hf := mx_gd_el hf; obtain ⟨c1, hf⟩ := hf
    replace hf := mx_sv_el hf; obtain ⟨u2, e_u2, hf⟩ := hf
    refine sx_cv hm dX10_readPrimary_183 rs_RX10_206 mt_X10_fetch [] [] (b := l0) (ci := 10) rfl rfl rfl c1 (Nat.le_of_ble_eq_true rfl) (Nat.le_of_ble_eq_true rfl) (by omega) (by omega) (f_X10_fetch_ok X (by omega) (by omega) nn l0 h e_u2) ?_
    clear e_u2
    show mx_S X F L 291 186 [(0, .ref l0), (3, .int l3)] [] u2 0 0 (none, r, 0, 0)
    cases hf
    exact sx_ret hm dX10_readPrimary_186 rfl
set_option maxHeartbeats 4000000 in
set_option maxRecDepth 20000 in
theorem j_X10_readPrimary_162_ok (X : Nat × (Nat → Int32)) {F L d : Nat} (hF : 5 + (d + 1) ≤ F) (hL : 152 + (d + 1) * 30 ≤ L) (nn : Nat) {rc : tg_X10_readValue} (hrc : hg5_X10_readValue X d rc) {kk_118 : Nat → Int32 → Int32 → Int32 → Int32 → mx_H → Option mx_H} (hk_118 : ∀ (l0 : Nat) (l1 : Int32) (l2 : Int32) (l3 : Int32) (l4 : Int32) (h : mx_H) (r : mx_H), kk_118 l0 l1 l2 l3 l4 h = some r → mx_S X F L 291 118 [(0, .ref l0), (1, .int l1), (2, .int l2), (3, .int l3), (4, .int l4)] [] h 0 0 (none, r, 0, 0)) (l0 : Nat) (l1 : Int32) (l2 : Int32) (l4 : Int32) (h : mx_H) {r : mx_H} (hf : j_X10_readPrimary_162 nn rc kk_118 l0 l1 l2 l4 h = some r) : mx_S X F L 291 162 [(0, .ref l0), (1, .int l1), (2, .int l2), (4, .int l4)] [] h 0 0 (none, r, 0, 0) := by
  have hm : mx_mt 291 = some (yX10_readPrimary, cX10_readPrimary, 5, none) := mt_X10_readPrimary
  unfold j_X10_readPrimary_162 at hf
  refine mx_S.pu (pc2 := 163) (lv2 := [(0, .ref l0), (1, .int l1), (2, .int l2), (4, .int l4)]) (st2 := [.ref l0]) hm dX10_readPrimary_162 rfl ?_
  replace hf := mx_sv_el hf; obtain ⟨v4, e_v4, hf⟩ := hf
  refine sx_get hm dX10_readPrimary_163 rs_RX10_31 (xgr_el e_v4) ?_
  clear e_v4
  replace hf := mx_gd_el hf; obtain ⟨c5, hf⟩ := hf
  replace hf := mx_sv_el hf; obtain ⟨u6, e_u6, hf⟩ := hf
  refine sx_cv hm dX10_readPrimary_166 rs_RX10_93 mt_X9_kind [] [] (b := v4) (ci := 9) rfl rfl rfl c5 (Nat.le_of_ble_eq_true rfl) (Nat.le_of_ble_eq_true rfl) (by omega) (by omega) (f_X9_kind_ok X (by omega) (by omega) nn v4 h e_u6) ?_
  clear e_u6
  show mx_S X F L 291 169 [(0, .ref l0), (1, .int l1), (2, .int l2), (4, .int l4)] [.int u6.1] u6.2 0 0 (none, r, 0, 0)
  refine mx_S.pu (pc2 := 170) (lv2 := [(3, .int u6.1), (0, .ref l0), (1, .int l1), (2, .int l2), (4, .int l4)]) (st2 := []) hm dX10_readPrimary_169 rfl ?_
  replace hf := xl_el hf; obtain ⟨v7, e_v7, hf⟩ := hf
  refine mx_S.pu (pc2 := 173) (lv2 := [(4, .int v7), (3, .int u6.1), (0, .ref l0), (1, .int l1), (2, .int l2)]) (st2 := []) hm dX10_readPrimary_170 (by rw [← e_v7]; rfl) ?_
  clear e_v7
  refine mx_S.pu (pc2 := 118) (lv2 := [(4, .int v7), (3, .int u6.1), (0, .ref l0), (1, .int l1), (2, .int l2)]) (st2 := []) hm dX10_readPrimary_173 rfl ?_
  refine mx_S.ext [(0, .ref l0), (1, .int l1), (2, .int l2), (3, .int u6.1), (4, .int v7)] (mx_sub_pos [2, 3, 4, 1, 0] rfl (show ([4, 3, 0, 1, 2] : List Nat).Nodup by decide)) ?_
  exact hk_118 l0 l1 l2 u6.1 v7 u6.2 _ hf
set_option maxHeartbeats 4000000 in
set_option maxRecDepth 20000 in
theorem j_X10_readPrimary_138_ok (X : Nat × (Nat → Int32)) {F L d : Nat} (hF : 5 + (d + 1) ≤ F) (hL : 152 + (d + 1) * 30 ≤ L) (nn : Nat) {rc : tg_X10_readValue} (hrc : hg5_X10_readValue X d rc) {kk_118 : Nat → Int32 → Int32 → Int32 → Int32 → mx_H → Option mx_H} (hk_118 : ∀ (l0 : Nat) (l1 : Int32) (l2 : Int32) (l3 : Int32) (l4 : Int32) (h : mx_H) (r : mx_H), kk_118 l0 l1 l2 l3 l4 h = some r → mx_S X F L 291 118 [(0, .ref l0), (1, .int l1), (2, .int l2), (3, .int l3), (4, .int l4)] [] h 0 0 (none, r, 0, 0)) (l0 : Nat) (l1 : Int32) (l2 : Int32) (l3 : Int32) (l4 : Int32) (h : mx_H) {r : mx_H} (hf : j_X10_readPrimary_138 nn rc kk_118 l0 l1 l2 l3 l4 h = some r) : mx_S X F L 291 138 [(0, .ref l0), (1, .int l1), (2, .int l2), (3, .int l3), (4, .int l4)] [] h 0 0 (none, r, 0, 0) := by
  have hm : mx_mt 291 = some (yX10_readPrimary, cX10_readPrimary, 5, none) := mt_X10_readPrimary
  unfold j_X10_readPrimary_138 at hf
  refine mx_S.pu (pc2 := 139) (lv2 := [(0, .ref l0), (1, .int l1), (2, .int l2), (3, .int l3), (4, .int l4)]) (st2 := [.ref l0]) hm dX10_readPrimary_138 rfl ?_
  replace hf := mx_gd_el hf; obtain ⟨c8, hf⟩ := hf
  replace hf := mx_sv_el hf; obtain ⟨u9, e_u9, hf⟩ := hf
  refine sx_cv hm dX10_readPrimary_139 rs_RX10_206 mt_X10_fetch [] [] (b := l0) (ci := 10) rfl rfl rfl c8 (Nat.le_of_ble_eq_true rfl) (Nat.le_of_ble_eq_true rfl) (by omega) (by omega) (f_X10_fetch_ok X (by omega) (by omega) nn l0 h e_u9) ?_
  clear e_u9
  show mx_S X F L 291 142 [(0, .ref l0), (1, .int l1), (2, .int l2), (3, .int l3), (4, .int l4)] [] u9 0 0 (none, r, 0, 0)
  refine mx_S.pu (pc2 := 143) (lv2 := [(0, .ref l0), (1, .int l1), (2, .int l2), (3, .int l3), (4, .int l4)]) (st2 := [.int l3]) hm dX10_readPrimary_142 rfl ?_
  refine sx_bi (v := 48) hm dX10_readPrimary_143 (by decide) ?_
  rcases mx_if_el hf with ⟨c14, hf⟩ | ⟨c14, hf⟩
  · refine sb_ic_ne hm dX10_readPrimary_145 (tgt := 157) rfl (fun _ => ?_) (fun z => absurd c14 z)
    refine mx_S.pu (pc2 := 158) (lv2 := [(0, .ref l0), (1, .int l1), (2, .int l2), (3, .int l3), (4, .int l4)]) (st2 := [.ref l0]) hm dX10_readPrimary_157 rfl ?_
    refine mx_S.pu (pc2 := 159) (lv2 := [(0, .ref l0), (1, .int l1), (2, .int l2), (3, .int l3), (4, .int l4)]) (st2 := [.int l1, .ref l0]) hm dX10_readPrimary_158 rfl ?_
    replace hf := mx_gd_el hf; obtain ⟨c10, hf⟩ := hf
    replace hf := mx_sv_el hf; obtain ⟨u11, e_u11, hf⟩ := hf
    refine sx_cv hm dX10_readPrimary_159 rs_RX10_212 mt_X10_readElement [.int l1] [] (b := l0) (ci := 10) rfl rfl rfl c10 (Nat.le_of_ble_eq_true rfl) (Nat.le_of_ble_eq_true rfl) (by omega) (by omega) (hrc.2.2.2.2.2.1 (by omega) (by omega) l0 l1 u9 e_u11) ?_
    clear e_u11
    show mx_S X F L 291 162 [(0, .ref l0), (1, .int l1), (2, .int l2), (3, .int l3), (4, .int l4)] [] u11 0 0 (none, r, 0, 0)
    refine mx_S.ext [(0, .ref l0), (1, .int l1), (2, .int l2), (4, .int l4)] (mx_sub_pos [0, 1, 2, 4] rfl (show ([0, 1, 2, 3, 4] : List Nat).Nodup by decide)) ?_
    exact j_X10_readPrimary_162_ok X hF hL nn hrc hk_118 l0 l1 l2 l4 u11 hf
  · refine sb_ic_ne hm dX10_readPrimary_145 (tgt := 157) rfl (fun z => absurd z c14) (fun _ => ?_)
    refine mx_S.pu (pc2 := 149) (lv2 := [(0, .ref l0), (1, .int l1), (2, .int l2), (3, .int l3), (4, .int l4)]) (st2 := [.ref l0]) hm dX10_readPrimary_148 rfl ?_
    refine mx_S.pu (pc2 := 150) (lv2 := [(0, .ref l0), (1, .int l1), (2, .int l2), (3, .int l3), (4, .int l4)]) (st2 := [.int l2, .ref l0]) hm dX10_readPrimary_149 rfl ?_
    refine mx_S.pu (pc2 := 151) (lv2 := [(0, .ref l0), (1, .int l1), (2, .int l2), (3, .int l3), (4, .int l4)]) (st2 := [.int l1, .int l2, .ref l0]) hm dX10_readPrimary_150 rfl ?_
    replace hf := mx_gd_el hf; obtain ⟨c12, hf⟩ := hf
    replace hf := mx_sv_el hf; obtain ⟨u13, e_u13, hf⟩ := hf
    refine sx_cv hm dX10_readPrimary_151 rs_RX10_209 mt_X10_readBehindPoint [.int l2, .int l1] [] (b := l0) (ci := 10) rfl rfl rfl c12 (Nat.le_of_ble_eq_true rfl) (Nat.le_of_ble_eq_true rfl) (by omega) (by omega) (hrc.2.2.2.2.2.2.2.1 (by omega) (by omega) l0 l2 l1 u9 e_u13) ?_
    clear e_u13
    show mx_S X F L 291 154 [(0, .ref l0), (1, .int l1), (2, .int l2), (3, .int l3), (4, .int l4)] [] u13 0 0 (none, r, 0, 0)
    refine mx_S.pu (pc2 := 162) (lv2 := [(0, .ref l0), (1, .int l1), (2, .int l2), (3, .int l3), (4, .int l4)]) (st2 := []) hm dX10_readPrimary_154 rfl ?_
    refine mx_S.ext [(0, .ref l0), (1, .int l1), (2, .int l2), (4, .int l4)] (mx_sub_pos [0, 1, 2, 4] rfl (show ([0, 1, 2, 3, 4] : List Nat).Nodup by decide)) ?_
    exact j_X10_readPrimary_162_ok X hF hL nn hrc hk_118 l0 l1 l2 l4 u13 hf
set_option maxHeartbeats 4000000 in
set_option maxRecDepth 20000 in
theorem w_X10_readPrimary_118_ok (X : Nat × (Nat → Int32)) {F L d : Nat} (hF : 5 + (d + 1) ≤ F) (hL : 152 + (d + 1) * 30 ≤ L) (nn : Nat) {rc : tg_X10_readValue} (hrc : hg5_X10_readValue X d rc) : ∀ (k : Nat) (l0 : Nat) (l1 : Int32) (l2 : Int32) (l3 : Int32) (l4 : Int32) (h : mx_H) (r : mx_H), w_X10_readPrimary_118 nn rc k l0 l1 l2 l3 l4 h = some r → mx_S X F L 291 118 [(0, .ref l0), (1, .int l1), (2, .int l2), (3, .int l3), (4, .int l4)] [] h 0 0 (none, r, 0, 0) := by
  have hm : mx_mt 291 = some (yX10_readPrimary, cX10_readPrimary, 5, none) := mt_X10_readPrimary
  intro k
  induction k with
  | zero => intro l0 l1 l2 l3 l4 h r hf; cases hf
  | succ k ih =>
    intro l0 l1 l2 l3 l4 h r hf
    unfold w_X10_readPrimary_118 at hf
    refine mx_S.pu (pc2 := 120) (lv2 := [(0, .ref l0), (1, .int l1), (2, .int l2), (3, .int l3), (4, .int l4)]) (st2 := [.int l4]) hm dX10_readPrimary_118 rfl ?_
    refine sx_si (v := 3000) hm dX10_readPrimary_120 (by decide) ?_
    rcases mx_if_el hf with ⟨c17, hf⟩ | ⟨c17, hf⟩
    · refine sb_ic_ge hm dX10_readPrimary_123 (tgt := 176) rfl (fun _ => ?_) (fun z => absurd c17 z)
      refine mx_S.ext [(0, .ref l0), (3, .int l3)] (mx_sub_pos [0, 3] rfl (show ([0, 1, 2, 3, 4] : List Nat).Nodup by decide)) ?_
      exact j_X10_readPrimary_176_ok X hF hL nn hrc l0 l3 h hf
    · refine sb_ic_ge hm dX10_readPrimary_123 (tgt := 176) rfl (fun z => absurd z c17) (fun _ => ?_)
      refine mx_S.pu (pc2 := 127) (lv2 := [(0, .ref l0), (1, .int l1), (2, .int l2), (3, .int l3), (4, .int l4)]) (st2 := [.int l3]) hm dX10_readPrimary_126 rfl ?_
      refine sx_bi (v := 48) hm dX10_readPrimary_127 (by decide) ?_
      rcases mx_if_el hf with ⟨c16, hf⟩ | ⟨c16, hf⟩
      · refine sb_ic_eq hm dX10_readPrimary_129 (tgt := 138) rfl (fun _ => ?_) (fun z => absurd c16 z)
        exact j_X10_readPrimary_138_ok X hF hL nn hrc ih l0 l1 l2 l3 l4 h hf
      · refine sb_ic_eq hm dX10_readPrimary_129 (tgt := 138) rfl (fun z => absurd z c16) (fun _ => ?_)
        refine mx_S.pu (pc2 := 133) (lv2 := [(0, .ref l0), (1, .int l1), (2, .int l2), (3, .int l3), (4, .int l4)]) (st2 := [.int l3]) hm dX10_readPrimary_132 rfl ?_
        refine sx_bi (v := 44) hm dX10_readPrimary_133 (by decide) ?_
        rcases mx_if_el hf with ⟨c15, hf⟩ | ⟨c15, hf⟩
        · refine sb_ic_ne hm dX10_readPrimary_135 (tgt := 176) rfl (fun _ => ?_) (fun z => absurd c15 z)
          refine mx_S.ext [(0, .ref l0), (3, .int l3)] (mx_sub_pos [0, 3] rfl (show ([0, 1, 2, 3, 4] : List Nat).Nodup by decide)) ?_
          exact j_X10_readPrimary_176_ok X hF hL nn hrc l0 l3 h hf
        · refine sb_ic_ne hm dX10_readPrimary_135 (tgt := 176) rfl (fun z => absurd z c15) (fun _ => ?_)
          exact j_X10_readPrimary_138_ok X hF hL nn hrc ih l0 l1 l2 l3 l4 h hf
set_option maxHeartbeats 4000000 in
set_option maxRecDepth 20000 in
theorem j_X10_readPrimary_107_ok (X : Nat × (Nat → Int32)) {F L d : Nat} (hF : 5 + (d + 1) ≤ F) (hL : 152 + (d + 1) * 30 ≤ L) (nn : Nat) {rc : tg_X10_readValue} (hrc : hg5_X10_readValue X d rc) (l0 : Nat) (l1 : Int32) (l2 : Int32) (h : mx_H) {r : mx_H} (hf : j_X10_readPrimary_107 nn rc l0 l1 l2 h = some r) : mx_S X F L 291 107 [(0, .ref l0), (1, .int l1), (2, .int l2)] [] h 0 0 (none, r, 0, 0) := by
  have hm : mx_mt 291 = some (yX10_readPrimary, cX10_readPrimary, 5, none) := mt_X10_readPrimary
  unfold j_X10_readPrimary_107 at hf
  refine mx_S.pu (pc2 := 108) (lv2 := [(0, .ref l0), (1, .int l1), (2, .int l2)]) (st2 := [.ref l0]) hm dX10_readPrimary_107 rfl ?_
  replace hf := mx_sv_el hf; obtain ⟨v18, e_v18, hf⟩ := hf
  refine sx_get hm dX10_readPrimary_108 rs_RX10_31 (xgr_el e_v18) ?_
  clear e_v18
  replace hf := mx_gd_el hf; obtain ⟨c19, hf⟩ := hf
  replace hf := mx_sv_el hf; obtain ⟨u20, e_u20, hf⟩ := hf
  refine sx_cv hm dX10_readPrimary_111 rs_RX10_93 mt_X9_kind [] [] (b := v18) (ci := 9) rfl rfl rfl c19 (Nat.le_of_ble_eq_true rfl) (Nat.le_of_ble_eq_true rfl) (by omega) (by omega) (f_X9_kind_ok X (by omega) (by omega) nn v18 h e_u20) ?_
  clear e_u20
  show mx_S X F L 291 114 [(0, .ref l0), (1, .int l1), (2, .int l2)] [.int u20.1] u20.2 0 0 (none, r, 0, 0)
  refine mx_S.pu (pc2 := 115) (lv2 := [(3, .int u20.1), (0, .ref l0), (1, .int l1), (2, .int l2)]) (st2 := []) hm dX10_readPrimary_114 rfl ?_
  refine sx_ic (v := 0) hm dX10_readPrimary_115 (by decide) ?_
  refine mx_S.pu (pc2 := 118) (lv2 := [(4, .int 0), (3, .int u20.1), (0, .ref l0), (1, .int l1), (2, .int l2)]) (st2 := []) hm dX10_readPrimary_116 rfl ?_
  refine mx_S.ext [(0, .ref l0), (1, .int l1), (2, .int l2), (3, .int u20.1), (4, .int 0)] (mx_sub_pos [2, 3, 4, 1, 0] rfl (show ([4, 3, 0, 1, 2] : List Nat).Nodup by decide)) ?_
  exact w_X10_readPrimary_118_ok X hF hL nn hrc nn l0 l1 l2 u20.1 0 u20.2 _ hf
set_option maxHeartbeats 4000000 in
set_option maxRecDepth 20000 in
theorem o_X10_readPrimary_ok (X : Nat × (Nat → Int32)) {F L d : Nat} (hF : 5 + (d + 1) ≤ F) (hL : 152 + (d + 1) * 30 ≤ L) (nn : Nat) {rc : tg_X10_readValue} (hrc : hg5_X10_readValue X d rc) (a0 : Nat) (a1 : Int32) (h : mx_H) {r : mx_H} (hf : o_X10_readPrimary nn rc a0 a1 h = some r) : mx_R X F L 291 [.ref a0, .int a1] h (none, r, 0, 0) := by
  have hm : mx_mt 291 = some (yX10_readPrimary, cX10_readPrimary, 5, none) := mt_X10_readPrimary
  show mx_S X F L 291 0 [(0, .ref a0), (1, .int a1)] [] h 0 0 (none, r, 0, 0)
  unfold o_X10_readPrimary at hf
  refine mx_S.pu (pc2 := 1) (lv2 := [(0, .ref a0), (1, .int a1)]) (st2 := [.ref a0]) hm dX10_readPrimary_0 rfl ?_
  replace hf := mx_sv_el hf; obtain ⟨v21, e_v21, hf⟩ := hf
  refine sx_get hm dX10_readPrimary_1 rs_RX10_31 (xgr_el e_v21) ?_
  clear e_v21
  replace hf := mx_sv_el hf; obtain ⟨v22, e_v22, hf⟩ := hf
  refine sx_get hm dX10_readPrimary_4 rs_RX10_72 (xgi_el e_v22) ?_
  clear e_v22
  refine mx_S.pu (pc2 := 8) (lv2 := [(2, .int v22), (0, .ref a0), (1, .int a1)]) (st2 := []) hm dX10_readPrimary_7 rfl ?_
  refine mx_S.pu (pc2 := 9) (lv2 := [(2, .int v22), (0, .ref a0), (1, .int a1)]) (st2 := [.ref a0]) hm dX10_readPrimary_8 rfl ?_
  replace hf := mx_sv_el hf; obtain ⟨v23, e_v23, hf⟩ := hf
  refine sx_get hm dX10_readPrimary_9 rs_RX10_31 (xgr_el e_v23) ?_
  clear e_v23
  replace hf := mx_gd_el hf; obtain ⟨c24, hf⟩ := hf
  replace hf := mx_sv_el hf; obtain ⟨u25, e_u25, hf⟩ := hf
  refine sx_cv hm dX10_readPrimary_12 rs_RX10_93 mt_X9_kind [] [] (b := v23) (ci := 9) rfl rfl rfl c24 (Nat.le_of_ble_eq_true rfl) (Nat.le_of_ble_eq_true rfl) (by omega) (by omega) (f_X9_kind_ok X (by omega) (by omega) nn v23 h e_u25) ?_
  clear e_u25
  show mx_S X F L 291 15 [(2, .int v22), (0, .ref a0), (1, .int a1)] [.int u25.1] u25.2 0 0 (none, r, 0, 0)
  rcases mx_if_el hf with ⟨n_0, hf⟩ | ⟨n_0, hf⟩
  · refine sx_look hm dX10_readPrimary_15 rfl (off := 33) (by rw [n_0]; rfl) (tgt := 48) rfl ?_
    clear n_0
    refine mx_S.pu (pc2 := 49) (lv2 := [(2, .int v22), (0, .ref a0), (1, .int a1)]) (st2 := [.ref a0]) hm dX10_readPrimary_48 rfl ?_
    refine mx_S.pu (pc2 := 50) (lv2 := [(2, .int v22), (0, .ref a0), (1, .int a1)]) (st2 := [.int a1, .ref a0]) hm dX10_readPrimary_49 rfl ?_
    replace hf := mx_gd_el hf; obtain ⟨c28, hf⟩ := hf
    replace hf := mx_sv_el hf; obtain ⟨u29, e_u29, hf⟩ := hf
    refine sx_cv hm dX10_readPrimary_50 rs_RX10_197 mt_X10_readNamed [.int a1] [] (b := a0) (ci := 10) rfl rfl rfl c28 (Nat.le_of_ble_eq_true rfl) (Nat.le_of_ble_eq_true rfl) (by omega) (by omega) (hrc.2.2.2.2.2.2.1 (by omega) (by omega) a0 a1 u25.2 e_u29) ?_
    clear e_u29
    show mx_S X F L 291 53 [(2, .int v22), (0, .ref a0), (1, .int a1)] [] u29 0 0 (none, r, 0, 0)
    refine mx_S.pu (pc2 := 107) (lv2 := [(2, .int v22), (0, .ref a0), (1, .int a1)]) (st2 := []) hm dX10_readPrimary_53 rfl ?_
    refine mx_S.ext [(0, .ref a0), (1, .int a1), (2, .int v22)] (mx_sub_pos [1, 2, 0] rfl (show ([2, 0, 1] : List Nat).Nodup by decide)) ?_
    exact j_X10_readPrimary_107_ok X hF hL nn hrc a0 a1 v22 u29 hf
  · rcases mx_if_el hf with ⟨n_1, hf⟩ | ⟨n_1, hf⟩
    · refine sx_look hm dX10_readPrimary_15 rfl (off := 80) (by rw [n_1]; rfl) (tgt := 95) rfl ?_
      clear n_0 n_1
      refine mx_S.pu (pc2 := 96) (lv2 := [(2, .int v22), (0, .ref a0), (1, .int a1)]) (st2 := [.ref a0]) hm dX10_readPrimary_95 rfl ?_
      refine mx_S.pu (pc2 := 97) (lv2 := [(2, .int v22), (0, .ref a0), (1, .int a1)]) (st2 := [.int a1, .ref a0]) hm dX10_readPrimary_96 rfl ?_
      replace hf := mx_gd_el hf; obtain ⟨c30, hf⟩ := hf
      replace hf := mx_sv_el hf; obtain ⟨u31, e_u31, hf⟩ := hf
      refine sx_cv hm dX10_readPrimary_97 rs_RX10_200 mt_X10_readNew [.int a1] [] (b := a0) (ci := 10) rfl rfl rfl c30 (Nat.le_of_ble_eq_true rfl) (Nat.le_of_ble_eq_true rfl) (by omega) (by omega) (hrc.2.2.2.2.1 (by omega) (by omega) a0 a1 u25.2 e_u31) ?_
      clear e_u31
      show mx_S X F L 291 100 [(2, .int v22), (0, .ref a0), (1, .int a1)] [] u31 0 0 (none, r, 0, 0)
      refine mx_S.pu (pc2 := 107) (lv2 := [(2, .int v22), (0, .ref a0), (1, .int a1)]) (st2 := []) hm dX10_readPrimary_100 rfl ?_
      refine mx_S.ext [(0, .ref a0), (1, .int a1), (2, .int v22)] (mx_sub_pos [1, 2, 0] rfl (show ([2, 0, 1] : List Nat).Nodup by decide)) ?_
      exact j_X10_readPrimary_107_ok X hF hL nn hrc a0 a1 v22 u31 hf
    · rcases mx_if_el hf with ⟨n_2, hf⟩ | ⟨n_2, hf⟩
      · refine sx_look hm dX10_readPrimary_15 rfl (off := 41) (by rw [n_2]; rfl) (tgt := 56) rfl ?_
        clear n_0 n_1 n_2
        refine mx_S.pu (pc2 := 57) (lv2 := [(2, .int v22), (0, .ref a0), (1, .int a1)]) (st2 := [.ref a0]) hm dX10_readPrimary_56 rfl ?_
        replace hf := mx_sv_el hf; obtain ⟨v32, e_v32, hf⟩ := hf
        refine sx_get hm dX10_readPrimary_57 rs_RX10_31 (xgr_el e_v32) ?_
        clear e_v32
        refine mx_S.pu (pc2 := 61) (lv2 := [(2, .int v22), (0, .ref a0), (1, .int a1)]) (st2 := [.ref v32, .ref v32]) hm dX10_readPrimary_60 rfl ?_
        replace hf := mx_sv_el hf; obtain ⟨v33, e_v33, hf⟩ := hf
        refine sx_get hm dX10_readPrimary_61 rs_RX10_72 (xgi_el e_v33) ?_
        clear e_v33
        refine sx_ic (v := 1) hm dX10_readPrimary_64 (by decide) ?_
        replace hf := xl_el hf; obtain ⟨v34, e_v34, hf⟩ := hf
        refine mx_S.pu (pc2 := 66) (lv2 := [(2, .int v22), (0, .ref a0), (1, .int a1)]) (st2 := [.int v34, .ref v32]) hm dX10_readPrimary_65 (by rw [← e_v34]; rfl) ?_
        clear e_v34
        replace hf := mx_sv_el hf; obtain ⟨h35, e_h35, hf⟩ := hf
        refine sx_put hm dX10_readPrimary_66 rs_RX10_72 ft_9_10 ⟨rfl, rfl⟩ (fun z => by cases z) e_h35 ?_
        clear e_h35
        refine mx_S.pu (pc2 := 70) (lv2 := [(2, .int v22), (0, .ref a0), (1, .int a1)]) (st2 := [.ref a0]) hm dX10_readPrimary_69 rfl ?_
        refine mx_S.pu (pc2 := 71) (lv2 := [(2, .int v22), (0, .ref a0), (1, .int a1)]) (st2 := [.int a1, .ref a0]) hm dX10_readPrimary_70 rfl ?_
        replace hf := mx_gd_el hf; obtain ⟨c36, hf⟩ := hf
        replace hf := mx_sv_el hf; obtain ⟨u37, e_u37, hf⟩ := hf
        refine sx_cv hm dX10_readPrimary_71 rs_RX10_68 mt_X10_readValue [.int a1] [] (b := a0) (ci := 10) rfl rfl rfl c36 (Nat.le_of_ble_eq_true rfl) (Nat.le_of_ble_eq_true rfl) (by omega) (by omega) (hrc.1 (by omega) (by omega) a0 a1 h35 e_u37) ?_
        clear e_u37
        show mx_S X F L 291 74 [(2, .int v22), (0, .ref a0), (1, .int a1)] [] u37 0 0 (none, r, 0, 0)
        refine mx_S.pu (pc2 := 75) (lv2 := [(2, .int v22), (0, .ref a0), (1, .int a1)]) (st2 := [.ref a0]) hm dX10_readPrimary_74 rfl ?_
        replace hf := mx_sv_el hf; obtain ⟨v38, e_v38, hf⟩ := hf
        refine sx_get hm dX10_readPrimary_75 rs_RX10_31 (xgr_el e_v38) ?_
        clear e_v38
        refine mx_S.pu (pc2 := 79) (lv2 := [(2, .int v22), (0, .ref a0), (1, .int a1)]) (st2 := [.ref v38, .ref v38]) hm dX10_readPrimary_78 rfl ?_
        replace hf := mx_sv_el hf; obtain ⟨v39, e_v39, hf⟩ := hf
        refine sx_get hm dX10_readPrimary_79 rs_RX10_72 (xgi_el e_v39) ?_
        clear e_v39
        refine sx_ic (v := 1) hm dX10_readPrimary_82 (by decide) ?_
        replace hf := xl_el hf; obtain ⟨v40, e_v40, hf⟩ := hf
        refine mx_S.pu (pc2 := 84) (lv2 := [(2, .int v22), (0, .ref a0), (1, .int a1)]) (st2 := [.int v40, .ref v38]) hm dX10_readPrimary_83 (by rw [← e_v40]; rfl) ?_
        clear e_v40
        replace hf := mx_sv_el hf; obtain ⟨h41, e_h41, hf⟩ := hf
        refine sx_put hm dX10_readPrimary_84 rs_RX10_72 ft_9_10 ⟨rfl, rfl⟩ (fun z => by cases z) e_h41 ?_
        clear e_h41
        refine mx_S.pu (pc2 := 88) (lv2 := [(2, .int v22), (0, .ref a0), (1, .int a1)]) (st2 := [.ref a0]) hm dX10_readPrimary_87 rfl ?_
        refine sx_ic (v := 0) hm dX10_readPrimary_88 (by decide) ?_
        replace hf := mx_sv_el hf; obtain ⟨h42, e_h42, hf⟩ := hf
        refine sx_put hm dX10_readPrimary_89 rs_RX10_133 ft_10_11 ⟨rfl, rfl⟩ (fun z => by cases z) e_h42 ?_
        clear e_h42
        refine mx_S.pu (pc2 := 107) (lv2 := [(2, .int v22), (0, .ref a0), (1, .int a1)]) (st2 := []) hm dX10_readPrimary_92 rfl ?_
        refine mx_S.ext [(0, .ref a0), (1, .int a1), (2, .int v22)] (mx_sub_pos [1, 2, 0] rfl (show ([2, 0, 1] : List Nat).Nodup by decide)) ?_
        exact j_X10_readPrimary_107_ok X hF hL nn hrc a0 a1 v22 h42 hf
      · refine sx_look hm dX10_readPrimary_15 rfl (off := 88) (by show Op.lookupswitch.offset [(2, 33), (21, 80), (40, 41)] 88 u25.1.toInt = _; rw [lv_osw n_0 (by decide), lv_osw n_1 (by decide), lv_osw n_2 (by decide)]; rfl) (tgt := 103) rfl ?_
        refine mx_S.pu (pc2 := 104) (lv2 := [(2, .int v22), (0, .ref a0), (1, .int a1)]) (st2 := [.ref a0]) hm dX10_readPrimary_103 rfl ?_
        replace hf := mx_gd_el hf; obtain ⟨c26, hf⟩ := hf
        replace hf := mx_sv_el hf; obtain ⟨u27, e_u27, hf⟩ := hf
        refine sx_cv hm dX10_readPrimary_104 rs_RX10_203 mt_X10_readConstant [] [] (b := a0) (ci := 10) rfl rfl rfl c26 (Nat.le_of_ble_eq_true rfl) (Nat.le_of_ble_eq_true rfl) (by omega) (by omega) (f_X10_readConstant_ok X (by omega) (by omega) nn a0 u25.2 e_u27) ?_
        clear e_u27
        show mx_S X F L 291 107 [(2, .int v22), (0, .ref a0), (1, .int a1)] [] u27 0 0 (none, r, 0, 0)
        refine mx_S.ext [(0, .ref a0), (1, .int a1), (2, .int v22)] (mx_sub_pos [1, 2, 0] rfl (show ([2, 0, 1] : List Nat).Nodup by decide)) ?_
        exact j_X10_readPrimary_107_ok X hF hL nn hrc a0 a1 v22 u27 hf
set_option maxHeartbeats 4000000 in
set_option maxRecDepth 20000 in
theorem j_X10_readNew_188_ok (X : Nat × (Nat → Int32)) {F L d : Nat} (hF : 5 + (d + 1) ≤ F) (hL : 152 + (d + 1) * 30 ≤ L) (nn : Nat) {rc : tg_X10_readValue} (hrc : hg5_X10_readValue X d rc) (l0 : Nat) (l3 : Int32) (l4 : Int32) (s0 : Int32) (s1 : Int32) (s2 : Nat) (h : mx_H) {r : mx_H} (hf : j_X10_readNew_188 nn rc l0 l3 l4 s0 s1 s2 h = some r) : mx_S X F L 297 188 [(0, .ref l0), (3, .int l3), (4, .int l4)] [.int s0, .int s1, .ref s2] h 0 0 (none, r, 0, 0) := by
  have hm : mx_mt 297 = some (yX10_readNew, cX10_readNew, 5, none) := mt_X10_readNew
  unfold j_X10_readNew_188 at hf
  replace hf := mx_gd_el hf; obtain ⟨c1, hf⟩ := hf
  replace hf := mx_sv_el hf; obtain ⟨u2, e_u2, hf⟩ := hf
  refine sx_cv hm dX10_readNew_188 rs_RX10_179 mt_X1_op_ [.int s1, .int s0] [] (b := s2) (ci := 1) rfl rfl rfl c1 (Nat.le_of_ble_eq_true rfl) (Nat.le_of_ble_eq_true rfl) (by omega) (by omega) (f_X1_op__ok X (by omega) (by omega) nn s2 s1 s0 h e_u2) ?_
  clear e_u2
  show mx_S X F L 297 191 [(0, .ref l0), (3, .int l3), (4, .int l4)] [] u2 0 0 (none, r, 0, 0)
  refine mx_S.pu (pc2 := 192) (lv2 := [(0, .ref l0), (3, .int l3), (4, .int l4)]) (st2 := [.ref l0]) hm dX10_readNew_191 rfl ?_
  replace hf := mx_sv_el hf; obtain ⟨v3, e_v3, hf⟩ := hf
  refine sx_get hm dX10_readNew_192 rs_RX10_46 (xgr_el e_v3) ?_
  clear e_v3
  refine sx_ic (v := 1) hm dX10_readNew_195 (by decide) ?_
  replace hf := mx_gd_el hf; obtain ⟨c4, hf⟩ := hf
  replace hf := mx_sv_el hf; obtain ⟨u5, e_u5, hf⟩ := hf
  refine sx_cv hm dX10_readNew_196 rs_RX10_118 mt_X1_pop [.int 1] [] (b := v3) (ci := 1) rfl rfl rfl c4 (Nat.le_of_ble_eq_true rfl) (Nat.le_of_ble_eq_true rfl) (by omega) (by omega) (f_X1_pop_ok X (by omega) (by omega) nn v3 1 u2 e_u5) ?_
  clear e_u5
  show mx_S X F L 297 199 [(0, .ref l0), (3, .int l3), (4, .int l4)] [] u5 0 0 (none, r, 0, 0)
  refine mx_S.pu (pc2 := 200) (lv2 := [(0, .ref l0), (3, .int l3), (4, .int l4)]) (st2 := [.ref l0]) hm dX10_readNew_199 rfl ?_
  refine mx_S.pu (pc2 := 201) (lv2 := [(0, .ref l0), (3, .int l3), (4, .int l4)]) (st2 := [.int l3, .ref l0]) hm dX10_readNew_200 rfl ?_
  rcases mx_if_el hf with ⟨c11, hf⟩ | ⟨c11, hf⟩
  · refine sb_if_eq hm dX10_readNew_201 (tgt := 210) rfl (fun _ => ?_) (fun z => absurd c11 z)
    refine sx_bi (v := 100) hm dX10_readNew_210 (by decide) ?_
    refine mx_S.pu (pc2 := 214) (lv2 := [(0, .ref l0), (3, .int l3), (4, .int l4)]) (st2 := [.int l4, .int 100, .ref l0]) hm dX10_readNew_212 rfl ?_
    replace hf := xl_el hf; obtain ⟨v6, e_v6, hf⟩ := hf
    refine mx_S.pu (pc2 := 215) (lv2 := [(0, .ref l0), (3, .int l3), (4, .int l4)]) (st2 := [.int v6, .ref l0]) hm dX10_readNew_214 (by rw [← e_v6]; rfl) ?_
    clear e_v6
    replace hf := mx_gd_el hf; obtain ⟨c7, hf⟩ := hf
    replace hf := mx_sv_el hf; obtain ⟨u8, e_u8, hf⟩ := hf
    refine sx_cv hm dX10_readNew_215 rs_RX10_233 mt_X10_give [.int v6] [] (b := l0) (ci := 10) rfl rfl rfl c7 (Nat.le_of_ble_eq_true rfl) (Nat.le_of_ble_eq_true rfl) (by omega) (by omega) (f_X10_give_ok X (by omega) (by omega) nn l0 v6 u5 e_u8) ?_
    clear e_u8
    show mx_S X F L 297 218 [(0, .ref l0), (3, .int l3), (4, .int l4)] [] u8 0 0 (none, r, 0, 0)
    cases hf
    exact sx_ret hm dX10_readNew_218 rfl
  · refine sb_if_eq hm dX10_readNew_201 (tgt := 210) rfl (fun z => absurd z c11) (fun _ => ?_)
    refine sx_si (v := 200) hm dX10_readNew_204 (by decide) ?_
    refine mx_S.pu (pc2 := 215) (lv2 := [(0, .ref l0), (3, .int l3), (4, .int l4)]) (st2 := [.int 200, .ref l0]) hm dX10_readNew_207 rfl ?_
    replace hf := mx_gd_el hf; obtain ⟨c9, hf⟩ := hf
    replace hf := mx_sv_el hf; obtain ⟨u10, e_u10, hf⟩ := hf
    refine sx_cv hm dX10_readNew_215 rs_RX10_233 mt_X10_give [.int 200] [] (b := l0) (ci := 10) rfl rfl rfl c9 (Nat.le_of_ble_eq_true rfl) (Nat.le_of_ble_eq_true rfl) (by omega) (by omega) (f_X10_give_ok X (by omega) (by omega) nn l0 200 u5 e_u10) ?_
    clear e_u10
    show mx_S X F L 297 218 [(0, .ref l0), (3, .int l3), (4, .int l4)] [] u10 0 0 (none, r, 0, 0)
    cases hf
    exact sx_ret hm dX10_readNew_218 rfl
set_option maxHeartbeats 4000000 in
set_option maxRecDepth 20000 in
theorem j_X10_readNew_170_ok (X : Nat × (Nat → Int32)) {F L d : Nat} (hF : 5 + (d + 1) ≤ F) (hL : 152 + (d + 1) * 30 ≤ L) (nn : Nat) {rc : tg_X10_readValue} (hrc : hg5_X10_readValue X d rc) (l0 : Nat) (l3 : Int32) (l4 : Int32) (s0 : Int32) (s1 : Nat) (h : mx_H) {r : mx_H} (hf : j_X10_readNew_170 nn rc l0 l3 l4 s0 s1 h = some r) : mx_S X F L 297 170 [(0, .ref l0), (3, .int l3), (4, .int l4)] [.int s0, .ref s1] h 0 0 (none, r, 0, 0) := by
  have hm : mx_mt 297 = some (yX10_readNew, cX10_readNew, 5, none) := mt_X10_readNew
  unfold j_X10_readNew_170 at hf
  refine mx_S.pu (pc2 := 171) (lv2 := [(0, .ref l0), (3, .int l3), (4, .int l4)]) (st2 := [.int l3, .int s0, .ref s1]) hm dX10_readNew_170 rfl ?_
  rcases mx_if_el hf with ⟨c15, hf⟩ | ⟨c15, hf⟩
  · refine sb_if_eq hm dX10_readNew_171 (tgt := 179) rfl (fun _ => ?_) (fun z => absurd c15 z)
    refine mx_S.pu (pc2 := 180) (lv2 := [(0, .ref l0), (3, .int l3), (4, .int l4)]) (st2 := [.ref l0, .int s0, .ref s1]) hm dX10_readNew_179 rfl ?_
    replace hf := mx_sv_el hf; obtain ⟨v12, e_v12, hf⟩ := hf
    refine sx_get hm dX10_readNew_180 rs_RX10_50 (xgr_el e_v12) ?_
    clear e_v12
    refine mx_S.pu (pc2 := 185) (lv2 := [(0, .ref l0), (3, .int l3), (4, .int l4)]) (st2 := [.int l4, .ref v12, .int s0, .ref s1]) hm dX10_readNew_183 rfl ?_
    replace hf := mx_gd_el hf; obtain ⟨c13, hf⟩ := hf
    replace hf := mx_sv_el hf; obtain ⟨u14, e_u14, hf⟩ := hf
    refine sx_cv hm dX10_readNew_185 rs_RX10_174 mt_X6_classOf [.int l4] [.int s0, .ref s1] (b := v12) (ci := 6) rfl rfl rfl c13 (Nat.le_of_ble_eq_true rfl) (Nat.le_of_ble_eq_true rfl) (by omega) (by omega) (f_X6_classOf_ok X (by omega) (by omega) nn v12 l4 h e_u14) ?_
    clear e_u14
    show mx_S X F L 297 188 [(0, .ref l0), (3, .int l3), (4, .int l4)] [.int u14.1, .int s0, .ref s1] u14.2 0 0 (none, r, 0, 0)
    exact j_X10_readNew_188_ok X hF hL nn hrc l0 l3 l4 u14.1 s0 s1 u14.2 hf
  · refine sb_if_eq hm dX10_readNew_171 (tgt := 179) rfl (fun z => absurd z c15) (fun _ => ?_)
    refine sx_bi (v := 10) hm dX10_readNew_174 (by decide) ?_
    refine mx_S.pu (pc2 := 188) (lv2 := [(0, .ref l0), (3, .int l3), (4, .int l4)]) (st2 := [.int 10, .int s0, .ref s1]) hm dX10_readNew_176 rfl ?_
    exact j_X10_readNew_188_ok X hF hL nn hrc l0 l3 l4 10 s0 s1 h hf
set_option maxHeartbeats 4000000 in
set_option maxRecDepth 20000 in
theorem j_X10_readNew_147_ok (X : Nat × (Nat → Int32)) {F L d : Nat} (hF : 5 + (d + 1) ≤ F) (hL : 152 + (d + 1) * 30 ≤ L) (nn : Nat) {rc : tg_X10_readValue} (hrc : hg5_X10_readValue X d rc) (l0 : Nat) (l2 : Int32) (l3 : Int32) (l4 : Int32) (s0 : Int32) (s1 : Nat) (h : mx_H) {r : mx_H} (hf : j_X10_readNew_147 nn rc l0 l2 l3 l4 s0 s1 h = some r) : mx_S X F L 297 147 [(0, .ref l0), (2, .int l2), (3, .int l3), (4, .int l4)] [.int s0, .ref s1] h 0 0 (none, r, 0, 0) := by
  have hm : mx_mt 297 = some (yX10_readNew, cX10_readNew, 5, none) := mt_X10_readNew
  unfold j_X10_readNew_147 at hf
  refine mx_S.pu (pc2 := 148) (lv2 := [(0, .ref l0), (2, .int l2), (3, .int l3), (4, .int l4)]) (st2 := [.int l2, .int s0, .ref s1]) hm dX10_readNew_147 rfl ?_
  refine sx_ic (v := 1) hm dX10_readNew_148 (by decide) ?_
  replace hf := xl_el hf; obtain ⟨v16, e_v16, hf⟩ := hf
  refine mx_S.pu (pc2 := 150) (lv2 := [(0, .ref l0), (2, .int l2), (3, .int l3), (4, .int l4)]) (st2 := [.int v16, .int s0, .ref s1]) hm dX10_readNew_149 (by rw [← e_v16]; rfl) ?_
  clear e_v16
  replace hf := mx_gd_el hf; obtain ⟨c17, hf⟩ := hf
  replace hf := mx_sv_el hf; obtain ⟨u18, e_u18, hf⟩ := hf
  refine sx_cv hm dX10_readNew_150 rs_RX10_80 mt_X10_wantType [.int s0, .int v16] [] (b := s1) (ci := 10) rfl rfl rfl c17 (Nat.le_of_ble_eq_true rfl) (Nat.le_of_ble_eq_true rfl) (by omega) (by omega) (f_X10_wantType_ok X (by omega) (by omega) nn s1 s0 v16 h e_u18) ?_
  clear e_u18
  show mx_S X F L 297 153 [(0, .ref l0), (2, .int l2), (3, .int l3), (4, .int l4)] [] u18 0 0 (none, r, 0, 0)
  refine mx_S.pu (pc2 := 154) (lv2 := [(0, .ref l0), (2, .int l2), (3, .int l3), (4, .int l4)]) (st2 := [.ref l0]) hm dX10_readNew_153 rfl ?_
  replace hf := mx_sv_el hf; obtain ⟨v19, e_v19, hf⟩ := hf
  refine sx_get hm dX10_readNew_154 rs_RX10_46 (xgr_el e_v19) ?_
  clear e_v19
  refine mx_S.pu (pc2 := 158) (lv2 := [(0, .ref l0), (2, .int l2), (3, .int l3), (4, .int l4)]) (st2 := [.int l3, .ref v19]) hm dX10_readNew_157 rfl ?_
  rcases mx_if_el hf with ⟨c20, hf⟩ | ⟨c20, hf⟩
  · refine sb_if_eq hm dX10_readNew_158 (tgt := 167) rfl (fun _ => ?_) (fun z => absurd c20 z)
    refine sx_si (v := 189) hm dX10_readNew_167 (by decide) ?_
    refine mx_S.ext [(0, .ref l0), (3, .int l3), (4, .int l4)] (mx_sub_pos [0, 2, 3] rfl (show ([0, 2, 3, 4] : List Nat).Nodup by decide)) ?_
    exact j_X10_readNew_170_ok X hF hL nn hrc l0 l3 l4 189 v19 u18 hf
  · refine sb_if_eq hm dX10_readNew_158 (tgt := 167) rfl (fun z => absurd z c20) (fun _ => ?_)
    refine sx_si (v := 188) hm dX10_readNew_161 (by decide) ?_
    refine mx_S.pu (pc2 := 170) (lv2 := [(0, .ref l0), (2, .int l2), (3, .int l3), (4, .int l4)]) (st2 := [.int 188, .ref v19]) hm dX10_readNew_164 rfl ?_
    refine mx_S.ext [(0, .ref l0), (3, .int l3), (4, .int l4)] (mx_sub_pos [0, 2, 3] rfl (show ([0, 2, 3, 4] : List Nat).Nodup by decide)) ?_
    exact j_X10_readNew_170_ok X hF hL nn hrc l0 l3 l4 188 v19 u18 hf
set_option maxHeartbeats 4000000 in
set_option maxRecDepth 20000 in
theorem j_X10_readNew_43_ok (X : Nat × (Nat → Int32)) {F L d : Nat} (hF : 5 + (d + 1) ≤ F) (hL : 152 + (d + 1) * 30 ≤ L) (nn : Nat) {rc : tg_X10_readValue} (hrc : hg5_X10_readValue X d rc) (l0 : Nat) (l1 : Int32) (l2 : Int32) (l3 : Int32) (s0 : Int32) (h : mx_H) {r : mx_H} (hf : j_X10_readNew_43 nn rc l0 l1 l2 l3 s0 h = some r) : mx_S X F L 297 43 [(0, .ref l0), (1, .int l1), (2, .int l2), (3, .int l3)] [.int s0] h 0 0 (none, r, 0, 0) := by
  have hm : mx_mt 297 = some (yX10_readNew, cX10_readNew, 5, none) := mt_X10_readNew
  unfold j_X10_readNew_43 at hf
  refine mx_S.pu (pc2 := 45) (lv2 := [(4, .int s0), (0, .ref l0), (1, .int l1), (2, .int l2), (3, .int l3)]) (st2 := []) hm dX10_readNew_43 rfl ?_
  refine mx_S.pu (pc2 := 47) (lv2 := [(4, .int s0), (0, .ref l0), (1, .int l1), (2, .int l2), (3, .int l3)]) (st2 := [.int s0]) hm dX10_readNew_45 rfl ?_
  refine sx_ic (v := (-1)) hm dX10_readNew_47 (by decide) ?_
  rcases mx_if_el hf with ⟨c48, hf⟩ | ⟨c48, hf⟩
  · refine sb_ic_ne hm dX10_readNew_48 (tgt := 52) rfl (fun _ => ?_) (fun z => absurd c48 z)
    refine mx_S.pu (pc2 := 53) (lv2 := [(4, .int s0), (0, .ref l0), (1, .int l1), (2, .int l2), (3, .int l3)]) (st2 := [.ref l0]) hm dX10_readNew_52 rfl ?_
    replace hf := mx_sv_el hf; obtain ⟨v21, e_v21, hf⟩ := hf
    refine sx_get hm dX10_readNew_53 rs_RX10_31 (xgr_el e_v21) ?_
    clear e_v21
    refine mx_S.pu (pc2 := 57) (lv2 := [(4, .int s0), (0, .ref l0), (1, .int l1), (2, .int l2), (3, .int l3)]) (st2 := [.int l2, .ref v21]) hm dX10_readNew_56 rfl ?_
    refine sx_ic (v := 1) hm dX10_readNew_57 (by decide) ?_
    replace hf := xl_el hf; obtain ⟨v22, e_v22, hf⟩ := hf
    refine mx_S.pu (pc2 := 59) (lv2 := [(4, .int s0), (0, .ref l0), (1, .int l1), (2, .int l2), (3, .int l3)]) (st2 := [.int v22, .ref v21]) hm dX10_readNew_58 (by rw [← e_v22]; rfl) ?_
    clear e_v22
    replace hf := mx_gd_el hf; obtain ⟨c23, hf⟩ := hf
    replace hf := mx_sv_el hf; obtain ⟨u24, e_u24, hf⟩ := hf
    refine sx_cv hm dX10_readNew_59 rs_RX10_224 mt_X9_kindAt [.int v22] [] (b := v21) (ci := 9) rfl rfl rfl c23 (Nat.le_of_ble_eq_true rfl) (Nat.le_of_ble_eq_true rfl) (by omega) (by omega) (f_X9_kindAt_ok X (by omega) (by omega) nn v21 v22 h e_u24) ?_
    clear e_u24
    show mx_S X F L 297 62 [(4, .int s0), (0, .ref l0), (1, .int l1), (2, .int l2), (3, .int l3)] [.int u24.1] u24.2 0 0 (none, r, 0, 0)
    refine sx_bi (v := 40) hm dX10_readNew_62 (by decide) ?_
    rcases mx_if_el hf with ⟨c47, hf⟩ | ⟨c47, hf⟩
    · refine sb_ic_ne hm dX10_readNew_64 (tgt := 103) rfl (fun _ => ?_) (fun z => absurd c47 z)
      refine mx_S.pu (pc2 := 104) (lv2 := [(4, .int s0), (0, .ref l0), (1, .int l1), (2, .int l2), (3, .int l3)]) (st2 := [.ref l0]) hm dX10_readNew_103 rfl ?_
      replace hf := mx_sv_el hf; obtain ⟨v25, e_v25, hf⟩ := hf
      refine sx_get hm dX10_readNew_104 rs_RX10_31 (xgr_el e_v25) ?_
      clear e_v25
      refine mx_S.pu (pc2 := 108) (lv2 := [(4, .int s0), (0, .ref l0), (1, .int l1), (2, .int l2), (3, .int l3)]) (st2 := [.int l2, .ref v25]) hm dX10_readNew_107 rfl ?_
      refine sx_ic (v := 2) hm dX10_readNew_108 (by decide) ?_
      replace hf := xl_el hf; obtain ⟨v26, e_v26, hf⟩ := hf
      refine mx_S.pu (pc2 := 110) (lv2 := [(4, .int s0), (0, .ref l0), (1, .int l1), (2, .int l2), (3, .int l3)]) (st2 := [.int v26, .ref v25]) hm dX10_readNew_109 (by rw [← e_v26]; rfl) ?_
      clear e_v26
      replace hf := mx_sv_el hf; obtain ⟨h27, e_h27, hf⟩ := hf
      refine sx_put hm dX10_readNew_110 rs_RX10_72 ft_9_10 ⟨rfl, rfl⟩ (fun z => by cases z) e_h27 ?_
      clear e_h27
      refine mx_S.pu (pc2 := 114) (lv2 := [(4, .int s0), (0, .ref l0), (1, .int l1), (2, .int l2), (3, .int l3)]) (st2 := [.ref l0]) hm dX10_readNew_113 rfl ?_
      refine mx_S.pu (pc2 := 115) (lv2 := [(4, .int s0), (0, .ref l0), (1, .int l1), (2, .int l2), (3, .int l3)]) (st2 := [.int l1, .ref l0]) hm dX10_readNew_114 rfl ?_
      replace hf := mx_gd_el hf; obtain ⟨c28, hf⟩ := hf
      replace hf := mx_sv_el hf; obtain ⟨u29, e_u29, hf⟩ := hf
      refine sx_cv hm dX10_readNew_115 rs_RX10_68 mt_X10_readValue [.int l1] [] (b := l0) (ci := 10) rfl rfl rfl c28 (Nat.le_of_ble_eq_true rfl) (Nat.le_of_ble_eq_true rfl) (by omega) (by omega) (hrc.1 (by omega) (by omega) l0 l1 h27 e_u29) ?_
      clear e_u29
      show mx_S X F L 297 118 [(4, .int s0), (0, .ref l0), (1, .int l1), (2, .int l2), (3, .int l3)] [] u29 0 0 (none, r, 0, 0)
      refine mx_S.pu (pc2 := 119) (lv2 := [(4, .int s0), (0, .ref l0), (1, .int l1), (2, .int l2), (3, .int l3)]) (st2 := [.ref l0]) hm dX10_readNew_118 rfl ?_
      replace hf := mx_sv_el hf; obtain ⟨v30, e_v30, hf⟩ := hf
      refine sx_get hm dX10_readNew_119 rs_RX10_31 (xgr_el e_v30) ?_
      clear e_v30
      refine mx_S.pu (pc2 := 123) (lv2 := [(4, .int s0), (0, .ref l0), (1, .int l1), (2, .int l2), (3, .int l3)]) (st2 := [.ref v30, .ref v30]) hm dX10_readNew_122 rfl ?_
      replace hf := mx_sv_el hf; obtain ⟨v31, e_v31, hf⟩ := hf
      refine sx_get hm dX10_readNew_123 rs_RX10_72 (xgi_el e_v31) ?_
      clear e_v31
      refine sx_ic (v := 1) hm dX10_readNew_126 (by decide) ?_
      replace hf := xl_el hf; obtain ⟨v32, e_v32, hf⟩ := hf
      refine mx_S.pu (pc2 := 128) (lv2 := [(4, .int s0), (0, .ref l0), (1, .int l1), (2, .int l2), (3, .int l3)]) (st2 := [.int v32, .ref v30]) hm dX10_readNew_127 (by rw [← e_v32]; rfl) ?_
      clear e_v32
      replace hf := mx_sv_el hf; obtain ⟨h33, e_h33, hf⟩ := hf
      refine sx_put hm dX10_readNew_128 rs_RX10_72 ft_9_10 ⟨rfl, rfl⟩ (fun z => by cases z) e_h33 ?_
      clear e_h33
      refine mx_S.pu (pc2 := 132) (lv2 := [(4, .int s0), (0, .ref l0), (1, .int l1), (2, .int l2), (3, .int l3)]) (st2 := [.ref l0]) hm dX10_readNew_131 rfl ?_
      refine mx_S.pu (pc2 := 133) (lv2 := [(4, .int s0), (0, .ref l0), (1, .int l1), (2, .int l2), (3, .int l3)]) (st2 := [.ref l0, .ref l0]) hm dX10_readNew_132 rfl ?_
      replace hf := mx_sv_el hf; obtain ⟨v34, e_v34, hf⟩ := hf
      refine sx_get hm dX10_readNew_133 rs_RX10_75 (xgi_el e_v34) ?_
      clear e_v34
      refine sx_si (v := 301) hm dX10_readNew_136 (by decide) ?_
      rcases mx_if_el hf with ⟨c35, hf⟩ | ⟨c35, hf⟩
      · refine sb_ic_ne hm dX10_readNew_139 (tgt := 146) rfl (fun _ => ?_) (fun z => absurd c35 z)
        refine sx_ic (v := 0) hm dX10_readNew_146 (by decide) ?_
        refine mx_S.ext [(0, .ref l0), (2, .int l2), (3, .int l3), (4, .int s0)] (mx_sub_pos [1, 3, 4, 0] rfl (show ([4, 0, 1, 2, 3] : List Nat).Nodup by decide)) ?_
        exact j_X10_readNew_147_ok X hF hL nn hrc l0 l2 l3 s0 0 l0 h33 hf
      · refine sb_ic_ne hm dX10_readNew_139 (tgt := 146) rfl (fun z => absurd z c35) (fun _ => ?_)
        refine sx_ic (v := 1) hm dX10_readNew_142 (by decide) ?_
        refine mx_S.pu (pc2 := 147) (lv2 := [(4, .int s0), (0, .ref l0), (1, .int l1), (2, .int l2), (3, .int l3)]) (st2 := [.int 1, .ref l0]) hm dX10_readNew_143 rfl ?_
        refine mx_S.ext [(0, .ref l0), (2, .int l2), (3, .int l3), (4, .int s0)] (mx_sub_pos [1, 3, 4, 0] rfl (show ([4, 0, 1, 2, 3] : List Nat).Nodup by decide)) ?_
        exact j_X10_readNew_147_ok X hF hL nn hrc l0 l2 l3 s0 1 l0 h33 hf
    · refine sb_ic_ne hm dX10_readNew_64 (tgt := 103) rfl (fun z => absurd z c47) (fun _ => ?_)
      refine mx_S.pu (pc2 := 68) (lv2 := [(4, .int s0), (0, .ref l0), (1, .int l1), (2, .int l2), (3, .int l3)]) (st2 := [.ref l0]) hm dX10_readNew_67 rfl ?_
      replace hf := mx_sv_el hf; obtain ⟨v36, e_v36, hf⟩ := hf
      refine sx_get hm dX10_readNew_68 rs_RX10_31 (xgr_el e_v36) ?_
      clear e_v36
      refine mx_S.pu (pc2 := 72) (lv2 := [(4, .int s0), (0, .ref l0), (1, .int l1), (2, .int l2), (3, .int l3)]) (st2 := [.int l2, .ref v36]) hm dX10_readNew_71 rfl ?_
      refine sx_ic (v := 3) hm dX10_readNew_72 (by decide) ?_
      replace hf := xl_el hf; obtain ⟨v37, e_v37, hf⟩ := hf
      refine mx_S.pu (pc2 := 74) (lv2 := [(4, .int s0), (0, .ref l0), (1, .int l1), (2, .int l2), (3, .int l3)]) (st2 := [.int v37, .ref v36]) hm dX10_readNew_73 (by rw [← e_v37]; rfl) ?_
      clear e_v37
      replace hf := mx_sv_el hf; obtain ⟨h38, e_h38, hf⟩ := hf
      refine sx_put hm dX10_readNew_74 rs_RX10_72 ft_9_10 ⟨rfl, rfl⟩ (fun z => by cases z) e_h38 ?_
      clear e_h38
      refine mx_S.pu (pc2 := 78) (lv2 := [(4, .int s0), (0, .ref l0), (1, .int l1), (2, .int l2), (3, .int l3)]) (st2 := [.ref l0]) hm dX10_readNew_77 rfl ?_
      replace hf := mx_sv_el hf; obtain ⟨v39, e_v39, hf⟩ := hf
      refine sx_get hm dX10_readNew_78 rs_RX10_46 (xgr_el e_v39) ?_
      clear e_v39
      refine sx_si (v := 187) hm dX10_readNew_81 (by decide) ?_
      refine mx_S.pu (pc2 := 85) (lv2 := [(4, .int s0), (0, .ref l0), (1, .int l1), (2, .int l2), (3, .int l3)]) (st2 := [.ref l0, .int 187, .ref v39]) hm dX10_readNew_84 rfl ?_
      replace hf := mx_sv_el hf; obtain ⟨v40, e_v40, hf⟩ := hf
      refine sx_get hm dX10_readNew_85 rs_RX10_50 (xgr_el e_v40) ?_
      clear e_v40
      refine mx_S.pu (pc2 := 90) (lv2 := [(4, .int s0), (0, .ref l0), (1, .int l1), (2, .int l2), (3, .int l3)]) (st2 := [.int s0, .ref v40, .int 187, .ref v39]) hm dX10_readNew_88 rfl ?_
      replace hf := mx_gd_el hf; obtain ⟨c41, hf⟩ := hf
      replace hf := mx_sv_el hf; obtain ⟨u42, e_u42, hf⟩ := hf
      refine sx_cv hm dX10_readNew_90 rs_RX10_174 mt_X6_classOf [.int s0] [.int 187, .ref v39] (b := v40) (ci := 6) rfl rfl rfl c41 (Nat.le_of_ble_eq_true rfl) (Nat.le_of_ble_eq_true rfl) (by omega) (by omega) (f_X6_classOf_ok X (by omega) (by omega) nn v40 s0 h38 e_u42) ?_
      clear e_u42
      show mx_S X F L 297 93 [(4, .int s0), (0, .ref l0), (1, .int l1), (2, .int l2), (3, .int l3)] [.int u42.1, .int 187, .ref v39] u42.2 0 0 (none, r, 0, 0)
      replace hf := mx_gd_el hf; obtain ⟨c43, hf⟩ := hf
      replace hf := mx_sv_el hf; obtain ⟨u44, e_u44, hf⟩ := hf
      refine sx_cv hm dX10_readNew_93 rs_RX10_179 mt_X1_op_ [.int 187, .int u42.1] [] (b := v39) (ci := 1) rfl rfl rfl c43 (Nat.le_of_ble_eq_true rfl) (Nat.le_of_ble_eq_true rfl) (by omega) (by omega) (f_X1_op__ok X (by omega) (by omega) nn v39 187 u42.1 u42.2 e_u44) ?_
      clear e_u44
      show mx_S X F L 297 96 [(4, .int s0), (0, .ref l0), (1, .int l1), (2, .int l2), (3, .int l3)] [] u44 0 0 (none, r, 0, 0)
      refine mx_S.pu (pc2 := 97) (lv2 := [(4, .int s0), (0, .ref l0), (1, .int l1), (2, .int l2), (3, .int l3)]) (st2 := [.ref l0]) hm dX10_readNew_96 rfl ?_
      refine mx_S.pu (pc2 := 99) (lv2 := [(4, .int s0), (0, .ref l0), (1, .int l1), (2, .int l2), (3, .int l3)]) (st2 := [.int s0, .ref l0]) hm dX10_readNew_97 rfl ?_
      replace hf := mx_gd_el hf; obtain ⟨c45, hf⟩ := hf
      replace hf := mx_sv_el hf; obtain ⟨u46, e_u46, hf⟩ := hf
      refine sx_cv hm dX10_readNew_99 rs_RX10_233 mt_X10_give [.int s0] [] (b := l0) (ci := 10) rfl rfl rfl c45 (Nat.le_of_ble_eq_true rfl) (Nat.le_of_ble_eq_true rfl) (by omega) (by omega) (f_X10_give_ok X (by omega) (by omega) nn l0 s0 u44 e_u46) ?_
      clear e_u46
      show mx_S X F L 297 102 [(4, .int s0), (0, .ref l0), (1, .int l1), (2, .int l2), (3, .int l3)] [] u46 0 0 (none, r, 0, 0)
      cases hf
      exact sx_ret hm dX10_readNew_102 rfl
  · refine sb_ic_ne hm dX10_readNew_48 (tgt := 52) rfl (fun z => absurd z c48) (fun _ => ?_)
    cases hf
    exact sx_ret hm dX10_readNew_51 rfl
