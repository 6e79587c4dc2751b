set_option maxHeartbeats 4000000 in
set_option maxRecDepth 20000 in
theorem w_X7_linkAll_42_ok (X : Nat × (Nat → Int32)) {F L : Nat} (hF : 9 ≤ F) (hL : 213 ≤ L) (nn : Nat) {kk_32 : Nat → Int32 → mx_H → Option mx_H} (hk_32 : ∀ (l0 : Nat) (l1 : Int32) (h : mx_H) (r : mx_H), kk_32 l0 l1 h = some r → mx_S X F L 212 32 [(0, .ref l0), (1, .int l1)] [] h 0 0 (none, r, 0, 0)) : ∀ (k : Nat) (l0 : Nat) (l1 : Int32) (l2 : Int32) (h : mx_H) (r : mx_H), w_X7_linkAll_42 nn kk_32 k l0 l1 l2 h = some r → mx_S X F L 212 42 [(0, .ref l0), (1, .int l1), (2, .int l2)] [] h 0 0 (none, r, 0, 0) := by
  have hm : mx_mt 212 = some (yX7_linkAll, cX7_linkAll, 3, none) := mt_X7_linkAll
  intro k
  induction k with
  | zero => intro l0 l1 l2 h r hf; cases hf
  | succ k ih =>
    intro l0 l1 l2 h r hf
    unfold w_X7_linkAll_42 at hf
    refine mx_S.pu (pc2 := 43) (lv2 := [(0, .ref l0), (1, .int l1), (2, .int l2)]) (st2 := [.int l2]) hm dX7_linkAll_42 rfl ?_
    refine mx_S.pu (pc2 := 44) (lv2 := [(0, .ref l0), (1, .int l1), (2, .int l2)]) (st2 := [.ref l0, .int l2]) hm dX7_linkAll_43 rfl ?_
    replace hf := mx_sv_el hf; obtain ⟨v1, e_v1, hf⟩ := hf
    refine sx_get hm dX7_linkAll_44 rs_RX7_22 (xgr_el e_v1) ?_
    clear e_v1
    refine mx_S.pu (pc2 := 48) (lv2 := [(0, .ref l0), (1, .int l1), (2, .int l2)]) (st2 := [.int l1, .ref v1, .int l2]) hm dX7_linkAll_47 rfl ?_
    replace hf := mx_sv_el hf; obtain ⟨v2, e_v2, hf⟩ := hf
    refine sx_qld hm dX7_linkAll_48 e_v2 ?_
    clear e_v2
    replace hf := mx_sv_el hf; obtain ⟨b3, e_b3, hf⟩ := hf
    rw [show va_rf v2 = Value.ref b3 by rw [e_b3]; rfl]
    clear e_b3
    replace hf := mx_sv_el hf; obtain ⟨v4, e_v4, hf⟩ := hf
    refine sx_get hm dX7_linkAll_49 rs_RX7_150 (xgi_el e_v4) ?_
    clear e_v4
    rcases mx_if_el hf with ⟨c18, hf⟩ | ⟨c18, hf⟩
    · refine sb_ic_gt hm dX7_linkAll_52 (tgt := 84) rfl (fun _ => ?_) (fun z => absurd c18 z)
      refine mx_S.pu (pc2 := 85) (lv2 := [(0, .ref l0), (1, .int l1), (2, .int l2)]) (st2 := [.ref l0]) hm dX7_linkAll_84 rfl ?_
      refine mx_S.pu (pc2 := 86) (lv2 := [(0, .ref l0), (1, .int l1), (2, .int l2)]) (st2 := [.int l1, .ref l0]) hm dX7_linkAll_85 rfl ?_
      replace hf := mx_gd_el hf; obtain ⟨c5, hf⟩ := hf
      replace hf := mx_sv_el hf; obtain ⟨u6, e_u6, hf⟩ := hf
      refine sx_cv hm dX7_linkAll_86 rs_RX7_157 mt_X7_linkMethods [.int l1] [] (b := l0) (ci := 7) rfl rfl rfl c5 (Nat.le_of_ble_eq_true rfl) (Nat.le_of_ble_eq_true rfl) (by omega) (by omega) (f_X7_linkMethods_ok X (by omega) (by omega) nn l0 l1 h e_u6) ?_
      clear e_u6
      show mx_S X F L 212 89 [(0, .ref l0), (1, .int l1), (2, .int l2)] [] u6 0 0 (none, r, 0, 0)
      replace hf := xl_el hf; obtain ⟨v7, e_v7, hf⟩ := hf
      refine mx_S.pu (pc2 := 92) (lv2 := [(1, .int v7), (0, .ref l0), (2, .int l2)]) (st2 := []) hm dX7_linkAll_89 (by rw [← e_v7]; rfl) ?_
      clear e_v7
      refine mx_S.pu (pc2 := 32) (lv2 := [(1, .int v7), (0, .ref l0), (2, .int l2)]) (st2 := []) hm dX7_linkAll_92 rfl ?_
      refine mx_S.ext [(0, .ref l0), (1, .int v7)] (mx_sub_pos [1, 0] rfl (show ([1, 0, 2] : List Nat).Nodup by decide)) ?_
      exact hk_32 l0 v7 u6 _ hf
    · refine sb_ic_gt hm dX7_linkAll_52 (tgt := 84) rfl (fun z => absurd z c18) (fun _ => ?_)
      refine mx_S.pu (pc2 := 56) (lv2 := [(0, .ref l0), (1, .int l1), (2, .int l2)]) (st2 := [.ref l0]) hm dX7_linkAll_55 rfl ?_
      replace hf := mx_sv_el hf; obtain ⟨v8, e_v8, hf⟩ := hf
      refine sx_get hm dX7_linkAll_56 rs_RX7_31 (xgr_el e_v8) ?_
      clear e_v8
      refine mx_S.pu (pc2 := 60) (lv2 := [(0, .ref l0), (1, .int l1), (2, .int l2)]) (st2 := [.int l1, .ref v8]) hm dX7_linkAll_59 rfl ?_
      refine sx_si (v := 256) hm dX7_linkAll_60 (by decide) ?_
      replace hf := xl_el hf; obtain ⟨v9, e_v9, hf⟩ := hf
      refine mx_S.pu (pc2 := 64) (lv2 := [(0, .ref l0), (1, .int l1), (2, .int l2)]) (st2 := [.int v9, .ref v8]) hm dX7_linkAll_63 (by rw [← e_v9]; rfl) ?_
      clear e_v9
      refine mx_S.pu (pc2 := 65) (lv2 := [(0, .ref l0), (1, .int l1), (2, .int l2)]) (st2 := [.int l2, .int v9, .ref v8]) hm dX7_linkAll_64 rfl ?_
      replace hf := xl_el hf; obtain ⟨v10, e_v10, hf⟩ := hf
      refine mx_S.pu (pc2 := 66) (lv2 := [(0, .ref l0), (1, .int l1), (2, .int l2)]) (st2 := [.int v10, .ref v8]) hm dX7_linkAll_65 (by rw [← e_v10]; rfl) ?_
      clear e_v10
      refine mx_S.pu (pc2 := 67) (lv2 := [(0, .ref l0), (1, .int l1), (2, .int l2)]) (st2 := [.ref l0, .int v10, .ref v8]) hm dX7_linkAll_66 rfl ?_
      refine mx_S.pu (pc2 := 68) (lv2 := [(0, .ref l0), (1, .int l1), (2, .int l2)]) (st2 := [.ref l0, .ref l0, .int v10, .ref v8]) hm dX7_linkAll_67 rfl ?_
      replace hf := mx_sv_el hf; obtain ⟨v11, e_v11, hf⟩ := hf
      refine sx_get hm dX7_linkAll_68 rs_RX7_22 (xgr_el e_v11) ?_
      clear e_v11
      refine mx_S.pu (pc2 := 72) (lv2 := [(0, .ref l0), (1, .int l1), (2, .int l2)]) (st2 := [.int l1, .ref v11, .ref l0, .int v10, .ref v8]) hm dX7_linkAll_71 rfl ?_
      replace hf := mx_sv_el hf; obtain ⟨v12, e_v12, hf⟩ := hf
      refine sx_qld hm dX7_linkAll_72 e_v12 ?_
      clear e_v12
      refine mx_S.pu (pc2 := 74) (lv2 := [(0, .ref l0), (1, .int l1), (2, .int l2)]) (st2 := [.int l2, va_rf v12, .ref l0, .int v10, .ref v8]) hm dX7_linkAll_73 rfl ?_
      replace hf := mx_sv_el hf; obtain ⟨b13, e_b13, hf⟩ := hf
      rw [show va_rf v12 = Value.ref b13 by rw [e_b13]; rfl]
      clear e_b13
      replace hf := mx_gd_el hf; obtain ⟨c14, hf⟩ := hf
      replace hf := mx_sv_el hf; obtain ⟨u15, e_u15, hf⟩ := hf
      refine sx_cv hm dX7_linkAll_74 rs_RX7_153 mt_X7_linkOf [.ref b13, .int l2] [.int v10, .ref v8] (b := l0) (ci := 7) rfl rfl rfl c14 (Nat.le_of_ble_eq_true rfl) (Nat.le_of_ble_eq_true rfl) (by omega) (by omega) (f_X7_linkOf_ok X (by omega) (by omega) nn l0 b13 l2 h e_u15) ?_
      clear e_u15
      show mx_S X F L 212 77 [(0, .ref l0), (1, .int l1), (2, .int l2)] [.int u15.1, .int v10, .ref v8] u15.2 0 0 (none, r, 0, 0)
      replace hf := mx_sv_el hf; obtain ⟨h16, e_h16, hf⟩ := hf
      refine sx_ast hm dX7_linkAll_77 e_h16 ?_
      clear e_h16
      replace hf := xl_el hf; obtain ⟨v17, e_v17, hf⟩ := hf
      refine mx_S.pu (pc2 := 81) (lv2 := [(2, .int v17), (0, .ref l0), (1, .int l1)]) (st2 := []) hm dX7_linkAll_78 (by rw [← e_v17]; rfl) ?_
      clear e_v17
      refine mx_S.pu (pc2 := 42) (lv2 := [(2, .int v17), (0, .ref l0), (1, .int l1)]) (st2 := []) hm dX7_linkAll_81 rfl ?_
      refine mx_S.ext [(0, .ref l0), (1, .int l1), (2, .int v17)] (mx_sub_pos [1, 2, 0] rfl (show ([2, 0, 1] : List Nat).Nodup by decide)) ?_
      exact ih l0 l1 v17 h16 _ hf
set_option maxHeartbeats 4000000 in
set_option maxRecDepth 20000 in
theorem w_X7_linkAll_32_ok (X : Nat × (Nat → Int32)) {F L : Nat} (hF : 9 ≤ F) (hL : 213 ≤ L) (nn : Nat) : ∀ (k : Nat) (l0 : Nat) (l1 : Int32) (h : mx_H) (r : mx_H), w_X7_linkAll_32 nn k l0 l1 h = some r → mx_S X F L 212 32 [(0, .ref l0), (1, .int l1)] [] h 0 0 (none, r, 0, 0) := by
  have hm : mx_mt 212 = some (yX7_linkAll, cX7_linkAll, 3, none) := mt_X7_linkAll
  intro k
  induction k with
  | zero => intro l0 l1 h r hf; cases hf
  | succ k ih =>
    intro l0 l1 h r hf
    unfold w_X7_linkAll_32 at hf
    refine mx_S.pu (pc2 := 33) (lv2 := [(0, .ref l0), (1, .int l1)]) (st2 := [.int l1]) hm dX7_linkAll_32 rfl ?_
    refine mx_S.pu (pc2 := 34) (lv2 := [(0, .ref l0), (1, .int l1)]) (st2 := [.ref l0, .int l1]) hm dX7_linkAll_33 rfl ?_
    replace hf := mx_sv_el hf; obtain ⟨v19, e_v19, hf⟩ := hf
    refine sx_get hm dX7_linkAll_34 rs_RX7_41 (xgi_el e_v19) ?_
    clear e_v19
    rcases mx_if_el hf with ⟨c20, hf⟩ | ⟨c20, hf⟩
    · refine sb_ic_ge hm dX7_linkAll_37 (tgt := 95) rfl (fun _ => ?_) (fun z => absurd c20 z)
      cases hf
      exact sx_ret hm dX7_linkAll_95 rfl
    · refine sb_ic_ge hm dX7_linkAll_37 (tgt := 95) rfl (fun z => absurd z c20) (fun _ => ?_)
      refine sx_ic (v := 1) hm dX7_linkAll_40 (by decide) ?_
      refine mx_S.pu (pc2 := 42) (lv2 := [(2, .int 1), (0, .ref l0), (1, .int l1)]) (st2 := []) hm dX7_linkAll_41 rfl ?_
      refine mx_S.ext [(0, .ref l0), (1, .int l1), (2, .int 1)] (mx_sub_pos [1, 2, 0] rfl (show ([2, 0, 1] : List Nat).Nodup by decide)) ?_
      exact w_X7_linkAll_42_ok X hF hL nn ih nn l0 l1 1 h _ hf
set_option maxHeartbeats 4000000 in
set_option maxRecDepth 20000 in
theorem w_X7_linkAll_2_ok (X : Nat × (Nat → Int32)) {F L : Nat} (hF : 9 ≤ F) (hL : 213 ≤ L) (nn : Nat) : ∀ (k : Nat) (l0 : Nat) (l1 : Int32) (h : mx_H) (r : mx_H), w_X7_linkAll_2 nn k l0 l1 h = some r → mx_S X F L 212 2 [(0, .ref l0), (1, .int l1)] [] h 0 0 (none, r, 0, 0) := by
  have hm : mx_mt 212 = some (yX7_linkAll, cX7_linkAll, 3, none) := mt_X7_linkAll
  intro k
  induction k with
  | zero => intro l0 l1 h r hf; cases hf
  | succ k ih =>
    intro l0 l1 h r hf
    unfold w_X7_linkAll_2 at hf
    refine mx_S.pu (pc2 := 3) (lv2 := [(0, .ref l0), (1, .int l1)]) (st2 := [.int l1]) hm dX7_linkAll_2 rfl ?_
    refine sx_bi (v := 8) hm dX7_linkAll_3 (by decide) ?_
    refine mx_S.pu (pc2 := 6) (lv2 := [(0, .ref l0), (1, .int l1)]) (st2 := [.ref l0, .int 8, .int l1]) hm dX7_linkAll_5 rfl ?_
    replace hf := mx_sv_el hf; obtain ⟨v21, e_v21, hf⟩ := hf
    refine sx_get hm dX7_linkAll_6 rs_RX7_41 (xgi_el e_v21) ?_
    clear e_v21
    replace hf := xl_el hf; obtain ⟨v22, e_v22, hf⟩ := hf
    refine mx_S.pu (pc2 := 10) (lv2 := [(0, .ref l0), (1, .int l1)]) (st2 := [.int v22, .int l1]) hm dX7_linkAll_9 (by rw [← e_v22]; rfl) ?_
    clear e_v22
    rcases mx_if_el hf with ⟨c28, hf⟩ | ⟨c28, hf⟩
    · refine sb_ic_ge hm dX7_linkAll_10 (tgt := 30) rfl (fun _ => ?_) (fun z => absurd c28 z)
      refine sx_ic (v := 0) hm dX7_linkAll_30 (by decide) ?_
      refine mx_S.pu (pc2 := 32) (lv2 := [(1, .int 0), (0, .ref l0)]) (st2 := []) hm dX7_linkAll_31 rfl ?_
      refine mx_S.ext [(0, .ref l0), (1, .int 0)] (mx_sub_pos [1, 0] rfl (show ([1, 0] : List Nat).Nodup by decide)) ?_
      exact w_X7_linkAll_32_ok X hF hL nn nn l0 0 h _ hf
    · refine sb_ic_ge hm dX7_linkAll_10 (tgt := 30) rfl (fun z => absurd z c28) (fun _ => ?_)
      refine mx_S.pu (pc2 := 14) (lv2 := [(0, .ref l0), (1, .int l1)]) (st2 := [.ref l0]) hm dX7_linkAll_13 rfl ?_
      replace hf := mx_sv_el hf; obtain ⟨v23, e_v23, hf⟩ := hf
      refine sx_get hm dX7_linkAll_14 rs_RX7_35 (xgr_el e_v23) ?_
      clear e_v23
      refine mx_S.pu (pc2 := 18) (lv2 := [(0, .ref l0), (1, .int l1)]) (st2 := [.int l1, .ref v23]) hm dX7_linkAll_17 rfl ?_
      refine mx_S.pu (pc2 := 19) (lv2 := [(0, .ref l0), (1, .int l1)]) (st2 := [.ref l0, .int l1, .ref v23]) hm dX7_linkAll_18 rfl ?_
      refine mx_S.pu (pc2 := 20) (lv2 := [(0, .ref l0), (1, .int l1)]) (st2 := [.int l1, .ref l0, .int l1, .ref v23]) hm dX7_linkAll_19 rfl ?_
      replace hf := mx_gd_el hf; obtain ⟨c24, hf⟩ := hf
      replace hf := mx_sv_el hf; obtain ⟨u25, e_u25, hf⟩ := hf
      refine sx_cv hm dX7_linkAll_20 rs_RX7_147 mt_X7_cellsAbove [.int l1] [.int l1, .ref v23] (b := l0) (ci := 7) rfl rfl rfl c24 (Nat.le_of_ble_eq_true rfl) (Nat.le_of_ble_eq_true rfl) (by omega) (by omega) (f_X7_cellsAbove_ok X (by omega) (by omega) nn l0 l1 h e_u25) ?_
      clear e_u25
      show mx_S X F L 212 23 [(0, .ref l0), (1, .int l1)] [.int u25.1, .int l1, .ref v23] u25.2 0 0 (none, r, 0, 0)
      replace hf := mx_sv_el hf; obtain ⟨h26, e_h26, hf⟩ := hf
      refine sx_ast hm dX7_linkAll_23 e_h26 ?_
      clear e_h26
      replace hf := xl_el hf; obtain ⟨v27, e_v27, hf⟩ := hf
      refine mx_S.pu (pc2 := 27) (lv2 := [(1, .int v27), (0, .ref l0)]) (st2 := []) hm dX7_linkAll_24 (by rw [← e_v27]; rfl) ?_
      clear e_v27
      refine mx_S.pu (pc2 := 2) (lv2 := [(1, .int v27), (0, .ref l0)]) (st2 := []) hm dX7_linkAll_27 rfl ?_
      refine mx_S.ext [(0, .ref l0), (1, .int v27)] (mx_sub_pos [1, 0] rfl (show ([1, 0] : List Nat).Nodup by decide)) ?_
      exact ih l0 v27 h26 _ hf
set_option maxHeartbeats 4000000 in
set_option maxRecDepth 20000 in
theorem f_X7_linkAll_ok (X : Nat × (Nat → Int32)) {F L : Nat} (hF : 9 ≤ F) (hL : 213 ≤ L) (nn : Nat) (a0 : Nat) (h : mx_H) {r : mx_H} (hf : f_X7_linkAll nn a0 h = some r) : mx_R X F L 212 [.ref a0] h (none, r, 0, 0) := by
  have hm : mx_mt 212 = some (yX7_linkAll, cX7_linkAll, 3, none) := mt_X7_linkAll
  show mx_S X F L 212 0 [(0, .ref a0)] [] h 0 0 (none, r, 0, 0)
  unfold f_X7_linkAll at hf
  refine sx_ic (v := 0) hm dX7_linkAll_0 (by decide) ?_
  refine mx_S.pu (pc2 := 2) (lv2 := [(1, .int 0), (0, .ref a0)]) (st2 := []) hm dX7_linkAll_1 rfl ?_
  refine mx_S.ext [(0, .ref a0), (1, .int 0)] (mx_sub_pos [1, 0] rfl (show ([1, 0] : List Nat).Nodup by decide)) ?_
  exact w_X7_linkAll_2_ok X hF hL nn nn a0 0 h _ hf
set_option maxHeartbeats 4000000 in
set_option maxRecDepth 20000 in
theorem j_X12_verify_33_ok (X : Nat × (Nat → Int32)) {F L : Nat} (hF : 11 ≤ F) (hL : 261 ≤ L) (nn : Nat) (l0 : Nat) (l1 : Int32) (s0 : Int32) (s1 : Nat) (h : mx_H) {r : (Int32 × mx_H)} (hf : j_X12_verify_33 nn l0 l1 s0 s1 h = some r) : mx_S X F L 372 33 [(0, .ref l0), (1, .int l1)] [.int s0, .ref s1] h 0 0 (some (.int r.1), r.2, 0, 0) := by
  have hm : mx_mt 372 = some (yX12_verify, cX12_verify, 2, (some .int)) := mt_X12_verify
  unfold j_X12_verify_33 at hf
  replace hf := mx_gd_el hf; obtain ⟨c1, hf⟩ := hf
  replace hf := mx_sv_el hf; obtain ⟨h2, e_h2, hf⟩ := hf
  refine sx_put hm dX12_verify_33 rs_RX12_165 ft_7_4 (xbq_ok c1) (fun z => by cases z) e_h2 ?_
  clear e_h2
  refine mx_S.pu (pc2 := 37) (lv2 := [(0, .ref l0), (1, .int l1)]) (st2 := [.ref l0]) hm dX12_verify_36 rfl ?_
  replace hf := mx_sv_el hf; obtain ⟨v3, e_v3, hf⟩ := hf
  refine sx_get hm dX12_verify_37 rs_RX12_53 (xgr_el e_v3) ?_
  clear e_v3
  replace hf := mx_sv_el hf; obtain ⟨v4, e_v4, hf⟩ := hf
  refine sx_get hm dX12_verify_40 rs_RX12_165 (xgi_el e_v4) ?_
  clear e_v4
  rcases mx_if_el hf with ⟨c8, hf⟩ | ⟨c8, hf⟩
  · refine sb_if_eq hm dX12_verify_43 (tgt := 53) rfl (fun _ => ?_) (fun z => absurd c8 z)
    refine mx_S.pu (pc2 := 54) (lv2 := [(0, .ref l0), (1, .int l1)]) (st2 := [.int l1]) hm dX12_verify_53 rfl ?_
    cases hf
    exact sx_ire hm dX12_verify_54 rfl rfl
  · refine sb_if_eq hm dX12_verify_43 (tgt := 53) rfl (fun z => absurd z c8) (fun _ => ?_)
    refine mx_S.pu (pc2 := 47) (lv2 := [(0, .ref l0), (1, .int l1)]) (st2 := [.ref l0]) hm dX12_verify_46 rfl ?_
    replace hf := mx_sv_el hf; obtain ⟨v5, e_v5, hf⟩ := hf
    refine sx_get hm dX12_verify_47 rs_RX12_53 (xgr_el e_v5) ?_
    clear e_v5
    replace hf := mx_gd_el hf; obtain ⟨c6, hf⟩ := hf
    replace hf := mx_sv_el hf; obtain ⟨u7, e_u7, hf⟩ := hf
    refine sx_cv hm dX12_verify_50 rs_RX12_169 mt_X7_linkAll [] [] (b := v5) (ci := 7) rfl rfl rfl c6 (Nat.le_of_ble_eq_true rfl) (Nat.le_of_ble_eq_true rfl) (by omega) (by omega) (f_X7_linkAll_ok X (by omega) (by omega) nn v5 h2 e_u7) ?_
    clear e_u7
    show mx_S X F L 372 53 [(0, .ref l0), (1, .int l1)] [] u7 0 0 (some (.int r.1), r.2, 0, 0)
    refine mx_S.pu (pc2 := 54) (lv2 := [(0, .ref l0), (1, .int l1)]) (st2 := [.int l1]) hm dX12_verify_53 rfl ?_
    cases hf
    exact sx_ire hm dX12_verify_54 rfl rfl
set_option maxHeartbeats 4000000 in
set_option maxRecDepth 20000 in
theorem j_X12_verify_20_ok (X : Nat × (Nat → Int32)) {F L : Nat} (hF : 11 ≤ F) (hL : 261 ≤ L) (nn : Nat) (l0 : Nat) (l1 : Int32) (h : mx_H) {r : (Int32 × mx_H)} (hf : j_X12_verify_20 nn l0 l1 h = some r) : mx_S X F L 372 20 [(0, .ref l0), (1, .int l1)] [] h 0 0 (some (.int r.1), r.2, 0, 0) := by
  have hm : mx_mt 372 = some (yX12_verify, cX12_verify, 2, (some .int)) := mt_X12_verify
  unfold j_X12_verify_20 at hf
  refine mx_S.pu (pc2 := 21) (lv2 := [(0, .ref l0), (1, .int l1)]) (st2 := [.ref l0]) hm dX12_verify_20 rfl ?_
  replace hf := mx_sv_el hf; obtain ⟨v9, e_v9, hf⟩ := hf
  refine sx_get hm dX12_verify_21 rs_RX12_53 (xgr_el e_v9) ?_
  clear e_v9
  refine mx_S.pu (pc2 := 25) (lv2 := [(0, .ref l0), (1, .int l1)]) (st2 := [.int l1, .ref v9]) hm dX12_verify_24 rfl ?_
  rcases mx_if_el hf with ⟨c10, hf⟩ | ⟨c10, hf⟩
  · refine sb_if_ne hm dX12_verify_25 (tgt := 32) rfl (fun _ => ?_) (fun z => absurd c10 z)
    refine sx_ic (v := 0) hm dX12_verify_32 (by decide) ?_
    exact j_X12_verify_33_ok X hF hL nn l0 l1 0 v9 h hf
  · refine sb_if_ne hm dX12_verify_25 (tgt := 32) rfl (fun z => absurd z c10) (fun _ => ?_)
    refine sx_ic (v := 1) hm dX12_verify_28 (by decide) ?_
    refine mx_S.pu (pc2 := 33) (lv2 := [(0, .ref l0), (1, .int l1)]) (st2 := [.int 1, .ref v9]) hm dX12_verify_29 rfl ?_
    exact j_X12_verify_33_ok X hF hL nn l0 l1 1 v9 h hf
set_option maxHeartbeats 4000000 in
set_option maxRecDepth 20000 in
theorem f_X12_verify_ok (X : Nat × (Nat → Int32)) {F L : Nat} (hF : 11 ≤ F) (hL : 261 ≤ L) (nn : Nat) (a0 : Nat) (h : mx_H) {r : (Int32 × mx_H)} (hf : f_X12_verify nn a0 h = some r) : mx_R X F L 372 [.ref a0] h (some (.int r.1), r.2, 0, 0) := by
  have hm : mx_mt 372 = some (yX12_verify, cX12_verify, 2, (some .int)) := mt_X12_verify
  show mx_S X F L 372 0 [(0, .ref a0)] [] h 0 0 (some (.int r.1), r.2, 0, 0)
  unfold f_X12_verify at hf
  refine mx_S.pu (pc2 := 1) (lv2 := [(0, .ref a0)]) (st2 := [.ref a0]) hm dX12_verify_0 rfl ?_
  replace hf := mx_sv_el hf; obtain ⟨v11, e_v11, hf⟩ := hf
  refine sx_get hm dX12_verify_1 rs_RX12_62 (xgr_el e_v11) ?_
  clear e_v11
  replace hf := mx_gd_el hf; obtain ⟨c12, hf⟩ := hf
  replace hf := mx_sv_el hf; obtain ⟨u13, e_u13, hf⟩ := hf
  refine sx_cv hm dX12_verify_4 rs_RX12_159 mt_X11_proveHeads [] [] (b := v11) (ci := 11) rfl rfl rfl c12 (Nat.le_of_ble_eq_true rfl) (Nat.le_of_ble_eq_true rfl) (by omega) (by omega) (f_X11_proveHeads_ok X (by omega) (by omega) nn v11 h e_u13) ?_
  clear e_u13
  show mx_S X F L 372 7 [(0, .ref a0)] [.int u13.1] u13.2 0 0 (some (.int r.1), r.2, 0, 0)
  refine mx_S.pu (pc2 := 8) (lv2 := [(1, .int u13.1), (0, .ref a0)]) (st2 := []) hm dX12_verify_7 rfl ?_
  refine mx_S.pu (pc2 := 9) (lv2 := [(1, .int u13.1), (0, .ref a0)]) (st2 := [.int u13.1]) hm dX12_verify_8 rfl ?_
  rcases mx_if_el hf with ⟨c17, hf⟩ | ⟨c17, hf⟩
  · refine sb_if_ne hm dX12_verify_9 (tgt := 20) rfl (fun _ => ?_) (fun z => absurd c17 z)
    refine mx_S.ext [(0, .ref a0), (1, .int u13.1)] (mx_sub_pos [1, 0] rfl (show ([1, 0] : List Nat).Nodup by decide)) ?_
    exact j_X12_verify_20_ok X hF hL nn a0 u13.1 u13.2 hf
  · refine sb_if_ne hm dX12_verify_9 (tgt := 20) rfl (fun z => absurd z c17) (fun _ => ?_)
    refine mx_S.pu (pc2 := 13) (lv2 := [(1, .int u13.1), (0, .ref a0)]) (st2 := [.ref a0]) hm dX12_verify_12 rfl ?_
    replace hf := mx_sv_el hf; obtain ⟨v14, e_v14, hf⟩ := hf
    refine sx_get hm dX12_verify_13 rs_RX12_62 (xgr_el e_v14) ?_
    clear e_v14
    replace hf := mx_gd_el hf; obtain ⟨c15, hf⟩ := hf
    replace hf := mx_sv_el hf; obtain ⟨u16, e_u16, hf⟩ := hf
    refine sx_cv hm dX12_verify_16 rs_RX12_162 mt_X11_proveMethods [] [] (b := v14) (ci := 11) rfl rfl rfl c15 (Nat.le_of_ble_eq_true rfl) (Nat.le_of_ble_eq_true rfl) (by omega) (by omega) (f_X11_proveMethods_ok X (by omega) (by omega) nn v14 u13.2 e_u16) ?_
    clear e_u16
    show mx_S X F L 372 19 [(1, .int u13.1), (0, .ref a0)] [.int u16.1] u16.2 0 0 (some (.int r.1), r.2, 0, 0)
    refine mx_S.pu (pc2 := 20) (lv2 := [(1, .int u16.1), (0, .ref a0)]) (st2 := []) hm dX12_verify_19 rfl ?_
    refine mx_S.ext [(0, .ref a0), (1, .int u16.1)] (mx_sub_pos [1, 0] rfl (show ([1, 0] : List Nat).Nodup by decide)) ?_
    exact j_X12_verify_20_ok X hF hL nn a0 u16.1 u16.2 hf
set_option maxHeartbeats 4000000 in
set_option maxRecDepth 20000 in
theorem f_X12_where_ok (X : Nat × (Nat → Int32)) {F L : Nat} (hF : 0 ≤ F) (hL : 0 ≤ L) (nn : Nat) (a0 : Nat) (a1 : Int32) (h : mx_H) {r : (Int32 × mx_H)} (hf : f_X12_where nn a0 a1 h = some r) : mx_R X F L 373 [.ref a0, .int a1] h (some (.int r.1), r.2, 0, 0) := by
  have hm : mx_mt 373 = some (yX12_where, cX12_where, 2, (some .int)) := mt_X12_where
  show mx_S X F L 373 0 [(0, .ref a0), (1, .int a1)] [] h 0 0 (some (.int r.1), r.2, 0, 0)
  unfold f_X12_where at hf
  refine mx_S.pu (pc2 := 1) (lv2 := [(0, .ref a0), (1, .int a1)]) (st2 := [.int a1]) hm dX12_where_0 rfl ?_
  rcases mx_if_el hf with ⟨n_0, hf⟩ | ⟨n_0, hf⟩
  · refine sx_tin hm dX12_where_1 (by rw [n_0]; decide) (by rw [n_0]; decide) (off := 27) (by rw [n_0]; rfl) (tgt := 28) rfl ?_
    clear n_0
    refine mx_S.pu (pc2 := 29) (lv2 := [(0, .ref a0), (1, .int a1)]) (st2 := [.ref a0]) hm dX12_where_28 rfl ?_
    replace hf := mx_sv_el hf; obtain ⟨v1, e_v1, hf⟩ := hf
    refine sx_get hm dX12_where_29 rs_RX12_62 (xgr_el e_v1) ?_
    clear e_v1
    replace hf := mx_sv_el hf; obtain ⟨v2, e_v2, hf⟩ := hf
    refine sx_get hm dX12_where_32 rs_RX12_172 (xgi_el e_v2) ?_
    clear e_v2
    cases hf
    exact sx_ire hm dX12_where_35 rfl rfl
  · rcases mx_if_el hf with ⟨n_1, hf⟩ | ⟨n_1, hf⟩
    · refine sx_tin hm dX12_where_1 (by rw [n_1]; decide) (by rw [n_1]; decide) (off := 35) (by rw [n_1]; rfl) (tgt := 36) rfl ?_
      clear n_0 n_1
      refine mx_S.pu (pc2 := 37) (lv2 := [(0, .ref a0), (1, .int a1)]) (st2 := [.ref a0]) hm dX12_where_36 rfl ?_
      replace hf := mx_sv_el hf; obtain ⟨v3, e_v3, hf⟩ := hf
      refine sx_get hm dX12_where_37 rs_RX12_62 (xgr_el e_v3) ?_
      clear e_v3
      replace hf := mx_sv_el hf; obtain ⟨v4, e_v4, hf⟩ := hf
      refine sx_get hm dX12_where_40 rs_RX12_175 (xgi_el e_v4) ?_
      clear e_v4
      cases hf
      exact sx_ire hm dX12_where_43 rfl rfl
    · rcases mx_if_el hf with ⟨n_2, hf⟩ | ⟨n_2, hf⟩
      · refine sx_tin hm dX12_where_1 (by rw [n_2]; decide) (by rw [n_2]; decide) (off := 43) (by rw [n_2]; rfl) (tgt := 44) rfl ?_
        clear n_0 n_1 n_2
        refine mx_S.pu (pc2 := 45) (lv2 := [(0, .ref a0), (1, .int a1)]) (st2 := [.ref a0]) hm dX12_where_44 rfl ?_
        replace hf := mx_sv_el hf; obtain ⟨v5, e_v5, hf⟩ := hf
        refine sx_get hm dX12_where_45 rs_RX12_62 (xgr_el e_v5) ?_
        clear e_v5
        replace hf := mx_sv_el hf; obtain ⟨v6, e_v6, hf⟩ := hf
        refine sx_get hm dX12_where_48 rs_RX12_178 (xgi_el e_v6) ?_
        clear e_v6
        cases hf
        exact sx_ire hm dX12_where_51 rfl rfl
      · rcases (show (a1.toInt < 0 ∨ 2 < a1.toInt) ∨ a1.toInt = 0 ∨ a1.toInt = 1 ∨ a1.toInt = 2 by omega) with z0 | z0 | z0 | z0
        · refine sx_tout hm dX12_where_1 z0 (tgt := 52) rfl ?_
          refine sx_ic (v := (-1)) hm dX12_where_52 (by decide) ?_
          cases hf
          exact sx_ire hm dX12_where_53 rfl rfl
        · exact absurd (Int32.toInt_inj.mp (z0.trans (by decide : (0 : Int) = (0 : Int32).toInt))) n_0
        · exact absurd (Int32.toInt_inj.mp (z0.trans (by decide : (1 : Int) = (1 : Int32).toInt))) n_1
        · exact absurd (Int32.toInt_inj.mp (z0.trans (by decide : (2 : Int) = (2 : Int32).toInt))) n_2
set_option maxHeartbeats 4000000 in
set_option maxRecDepth 20000 in
theorem f_X13_clear_ok (X : Nat × (Nat → Int32)) {F L : Nat} (hF : 0 ≤ F) (hL : 0 ≤ L) (nn : Nat) (a0 : Nat) (h : mx_H) {r : mx_H} (hf : f_X13_clear nn a0 h = some r) : mx_R X F L 519 [.ref a0] h (none, r, 0, 0) := by
  have hm : mx_mt 519 = some (yX13_clear, cX13_clear, 1, none) := mt_X13_clear
  show mx_S X F L 519 0 [(0, .ref a0)] [] h 0 0 (none, r, 0, 0)
  unfold f_X13_clear at hf
  refine mx_S.pu (pc2 := 1) (lv2 := [(0, .ref a0)]) (st2 := [.ref a0]) hm dX13_clear_0 rfl ?_
  refine sx_ic (v := 0) hm dX13_clear_1 (by decide) ?_
  replace hf := mx_sv_el hf; obtain ⟨h1, e_h1, hf⟩ := hf
  refine sx_put hm dX13_clear_2 rs_RX13_833 ft_13_98 ⟨rfl, rfl⟩ (fun z => by cases z) e_h1 ?_
  clear e_h1
  refine mx_S.pu (pc2 := 6) (lv2 := [(0, .ref a0)]) (st2 := [.ref a0]) hm dX13_clear_5 rfl ?_
  refine sx_ic (v := 0) hm dX13_clear_6 (by decide) ?_
  replace hf := mx_sv_el hf; obtain ⟨h2, e_h2, hf⟩ := hf
  refine sx_put hm dX13_clear_7 rs_RX13_855 ft_13_99 ⟨by decide, by decide⟩ (fun z => by cases z) e_h2 ?_
  clear e_h2
  refine mx_S.pu (pc2 := 11) (lv2 := [(0, .ref a0)]) (st2 := [.ref a0]) hm dX13_clear_10 rfl ?_
  refine sx_ic (v := 0) hm dX13_clear_11 (by decide) ?_
  replace hf := mx_sv_el hf; obtain ⟨h3, e_h3, hf⟩ := hf
  refine sx_put hm dX13_clear_12 rs_RX13_858 ft_13_138 ⟨rfl, rfl⟩ (fun z => by cases z) e_h3 ?_
  clear e_h3
  cases hf
  exact sx_ret hm dX13_clear_15 rfl
set_option maxHeartbeats 4000000 in
set_option maxRecDepth 20000 in
theorem f_X13_come_ok (X : Nat × (Nat → Int32)) {F L : Nat} (hF : 0 ≤ F) (hL : 0 ≤ L) (nn : Nat) (a0 : Nat) (a1 : Int32) (a2 : Int32) (h : mx_H) {r : mx_H} (hf : f_X13_come nn a0 a1 a2 h = some r) : mx_R X F L 431 [.ref a0, .int a1, .int a2] h (none, r, 0, 0) := by
  have hm : mx_mt 431 = some (yX13_come, cX13_come, 3, none) := mt_X13_come
  show mx_S X F L 431 0 [(0, .ref a0), (1, .int a1), (2, .int a2)] [] h 0 0 (none, r, 0, 0)
  unfold f_X13_come at hf
  refine mx_S.pu (pc2 := 1) (lv2 := [(0, .ref a0), (1, .int a1), (2, .int a2)]) (st2 := [.ref a0]) hm dX13_come_0 rfl ?_
  replace hf := mx_sv_el hf; obtain ⟨v1, e_v1, hf⟩ := hf
  refine sx_get hm dX13_come_1 rs_RX13_116 (xgr_el e_v1) ?_
  clear e_v1
  refine mx_S.pu (pc2 := 5) (lv2 := [(0, .ref a0), (1, .int a1), (2, .int a2)]) (st2 := [.ref a0, .ref v1]) hm dX13_come_4 rfl ?_
  replace hf := mx_sv_el hf; obtain ⟨v2, e_v2, hf⟩ := hf
  refine sx_get hm dX13_come_5 rs_RX13_513 (xgi_el e_v2) ?_
  clear e_v2
  refine mx_S.pu (pc2 := 9) (lv2 := [(0, .ref a0), (1, .int a1), (2, .int a2)]) (st2 := [.int a1, .int v2, .ref v1]) hm dX13_come_8 rfl ?_
  replace hf := mx_sv_el hf; obtain ⟨h3, e_h3, hf⟩ := hf
  refine sx_ast hm dX13_come_9 e_h3 ?_
  clear e_h3
  refine mx_S.pu (pc2 := 11) (lv2 := [(0, .ref a0), (1, .int a1), (2, .int a2)]) (st2 := [.ref a0]) hm dX13_come_10 rfl ?_
  replace hf := mx_sv_el hf; obtain ⟨v4, e_v4, hf⟩ := hf
  refine sx_get hm dX13_come_11 rs_RX13_119 (xgr_el e_v4) ?_
  clear e_v4
  refine mx_S.pu (pc2 := 15) (lv2 := [(0, .ref a0), (1, .int a1), (2, .int a2)]) (st2 := [.ref a0, .ref v4]) hm dX13_come_14 rfl ?_
  replace hf := mx_sv_el hf; obtain ⟨v5, e_v5, hf⟩ := hf
  refine sx_get hm dX13_come_15 rs_RX13_513 (xgi_el e_v5) ?_
  clear e_v5
  refine mx_S.pu (pc2 := 19) (lv2 := [(0, .ref a0), (1, .int a1), (2, .int a2)]) (st2 := [.int a2, .int v5, .ref v4]) hm dX13_come_18 rfl ?_
  replace hf := mx_sv_el hf; obtain ⟨h6, e_h6, hf⟩ := hf
  refine sx_ast hm dX13_come_19 e_h6 ?_
  clear e_h6
  refine mx_S.pu (pc2 := 21) (lv2 := [(0, .ref a0), (1, .int a1), (2, .int a2)]) (st2 := [.ref a0]) hm dX13_come_20 rfl ?_
  refine mx_S.pu (pc2 := 22) (lv2 := [(0, .ref a0), (1, .int a1), (2, .int a2)]) (st2 := [.ref a0, .ref a0]) hm dX13_come_21 rfl ?_
  replace hf := mx_sv_el hf; obtain ⟨v7, e_v7, hf⟩ := hf
  refine sx_get hm dX13_come_22 rs_RX13_513 (xgi_el e_v7) ?_
  clear e_v7
  refine sx_ic (v := 1) hm dX13_come_25 (by decide) ?_
  replace hf := xl_el hf; obtain ⟨v8, e_v8, hf⟩ := hf
  refine mx_S.pu (pc2 := 27) (lv2 := [(0, .ref a0), (1, .int a1), (2, .int a2)]) (st2 := [.int v8, .ref a0]) hm dX13_come_26 (by rw [← e_v8]; rfl) ?_
  clear e_v8
  replace hf := mx_sv_el hf; obtain ⟨h9, e_h9, hf⟩ := hf
  refine sx_put hm dX13_come_27 rs_RX13_513 ft_13_50 ⟨rfl, rfl⟩ (fun z => by cases z) e_h9 ?_
  clear e_h9
  cases hf
  exact sx_ret hm dX13_come_30 rfl
set_option maxHeartbeats 4000000 in
set_option maxRecDepth 20000 in
theorem f_X13_canTake_ok (X : Nat × (Nat → Int32)) {F L : Nat} (hF : 0 ≤ F) (hL : 0 ≤ L) (nn : Nat) (a0 : Nat) (a1 : Int32) (h : mx_H) {r : (Int32 × mx_H)} (hf : f_X13_canTake nn a0 a1 h = some r) : mx_R X F L 434 [.ref a0, .int a1] h (some (.int r.1), r.2, 0, 0) := by
  have hm : mx_mt 434 = some (yX13_canTake, cX13_canTake, 2, (some .boolean)) := mt_X13_canTake
  show mx_S X F L 434 0 [(0, .ref a0), (1, .int a1)] [] h 0 0 (some (.int r.1), r.2, 0, 0)
  unfold f_X13_canTake at hf
  refine mx_S.pu (pc2 := 1) (lv2 := [(0, .ref a0), (1, .int a1)]) (st2 := [.ref a0]) hm dX13_canTake_0 rfl ?_
  replace hf := mx_sv_el hf; obtain ⟨v1, e_v1, hf⟩ := hf
  refine sx_get hm dX13_canTake_1 rs_RX13_319 (xgi_el e_v1) ?_
  clear e_v1
  rcases mx_if_el hf with ⟨c17, hf⟩ | ⟨c17, hf⟩
  · refine sb_if_eq hm dX13_canTake_4 (tgt := 9) rfl (fun _ => ?_) (fun z => absurd c17 z)
    refine mx_S.pu (pc2 := 10) (lv2 := [(0, .ref a0), (1, .int a1)]) (st2 := [.ref a0]) hm dX13_canTake_9 rfl ?_
    replace hf := mx_sv_el hf; obtain ⟨v2, e_v2, hf⟩ := hf
    refine sx_get hm dX13_canTake_10 rs_RX13_58 (xgr_el e_v2) ?_
    clear e_v2
    refine mx_S.pu (pc2 := 14) (lv2 := [(0, .ref a0), (1, .int a1)]) (st2 := [.int a1, .ref v2]) hm dX13_canTake_13 rfl ?_
    replace hf := mx_sv_el hf; obtain ⟨v3, e_v3, hf⟩ := hf
    refine sx_bld hm dX13_canTake_14 e_v3 ?_
    clear e_v3
    rcases mx_if_el hf with ⟨c16, hf⟩ | ⟨c16, hf⟩
    · refine sb_if_eq hm dX13_canTake_15 (tgt := 20) rfl (fun _ => ?_) (fun z => absurd c16 z)
      refine mx_S.pu (pc2 := 21) (lv2 := [(0, .ref a0), (1, .int a1)]) (st2 := [.ref a0]) hm dX13_canTake_20 rfl ?_
      replace hf := mx_sv_el hf; obtain ⟨v4, e_v4, hf⟩ := hf
      refine sx_get hm dX13_canTake_21 rs_RX13_28 (xgr_el e_v4) ?_
      clear e_v4
      refine mx_S.pu (pc2 := 25) (lv2 := [(0, .ref a0), (1, .int a1)]) (st2 := [.int a1, .ref v4]) hm dX13_canTake_24 rfl ?_
      replace hf := mx_sv_el hf; obtain ⟨v5, e_v5, hf⟩ := hf
      refine sx_ald hm dX13_canTake_25 e_v5 ?_
      clear e_v5
      refine sx_bi (v := 25) hm dX13_canTake_26 (by decide) ?_
      rcases mx_if_el hf with ⟨c15, hf⟩ | ⟨c15, hf⟩
      · refine sb_ic_eq hm dX13_canTake_28 (tgt := 42) rfl (fun _ => ?_) (fun z => absurd c15 z)
        refine sx_ic (v := 1) hm dX13_canTake_42 (by decide) ?_
        cases hf
        exact sx_ire hm dX13_canTake_43 rfl (by decide)
      · refine sb_ic_eq hm dX13_canTake_28 (tgt := 42) rfl (fun z => absurd z c15) (fun _ => ?_)
        refine mx_S.pu (pc2 := 32) (lv2 := [(0, .ref a0), (1, .int a1)]) (st2 := [.ref a0]) hm dX13_canTake_31 rfl ?_
        replace hf := mx_sv_el hf; obtain ⟨v6, e_v6, hf⟩ := hf
        refine sx_get hm dX13_canTake_32 rs_RX13_28 (xgr_el e_v6) ?_
        clear e_v6
        refine mx_S.pu (pc2 := 36) (lv2 := [(0, .ref a0), (1, .int a1)]) (st2 := [.int a1, .ref v6]) hm dX13_canTake_35 rfl ?_
        replace hf := mx_sv_el hf; obtain ⟨v7, e_v7, hf⟩ := hf
        refine sx_ald hm dX13_canTake_36 e_v7 ?_
        clear e_v7
        refine sx_bi (v := 32) hm dX13_canTake_37 (by decide) ?_
        rcases mx_if_el hf with ⟨c14, hf⟩ | ⟨c14, hf⟩
        · refine sb_ic_ne hm dX13_canTake_39 (tgt := 44) rfl (fun _ => ?_) (fun z => absurd c14 z)
          refine mx_S.pu (pc2 := 45) (lv2 := [(0, .ref a0), (1, .int a1)]) (st2 := [.ref a0]) hm dX13_canTake_44 rfl ?_
          replace hf := mx_sv_el hf; obtain ⟨v8, e_v8, hf⟩ := hf
          refine sx_get hm dX13_canTake_45 rs_RX13_28 (xgr_el e_v8) ?_
          clear e_v8
          refine mx_S.pu (pc2 := 49) (lv2 := [(0, .ref a0), (1, .int a1)]) (st2 := [.int a1, .ref v8]) hm dX13_canTake_48 rfl ?_
          replace hf := mx_sv_el hf; obtain ⟨v9, e_v9, hf⟩ := hf
          refine sx_ald hm dX13_canTake_49 e_v9 ?_
          clear e_v9
          refine sx_bi (v := 30) hm dX13_canTake_50 (by decide) ?_
          rcases mx_if_el hf with ⟨c13, hf⟩ | ⟨c13, hf⟩
          · refine sb_ic_ne hm dX13_canTake_52 (tgt := 69) rfl (fun _ => ?_) (fun z => absurd c13 z)
            refine sx_ic (v := 0) hm dX13_canTake_69 (by decide) ?_
            cases hf
            exact sx_ire hm dX13_canTake_70 rfl (by decide)
          · refine sb_ic_ne hm dX13_canTake_52 (tgt := 69) rfl (fun z => absurd z c13) (fun _ => ?_)
            refine mx_S.pu (pc2 := 56) (lv2 := [(0, .ref a0), (1, .int a1)]) (st2 := [.ref a0]) hm dX13_canTake_55 rfl ?_
            replace hf := mx_sv_el hf; obtain ⟨v10, e_v10, hf⟩ := hf
            refine sx_get hm dX13_canTake_56 rs_RX13_52 (xgr_el e_v10) ?_
            clear e_v10
            refine mx_S.pu (pc2 := 60) (lv2 := [(0, .ref a0), (1, .int a1)]) (st2 := [.int a1, .ref v10]) hm dX13_canTake_59 rfl ?_
            replace hf := mx_sv_el hf; obtain ⟨v11, e_v11, hf⟩ := hf
            refine sx_ald hm dX13_canTake_60 e_v11 ?_
            clear e_v11
            refine sx_ic (v := (-1)) hm dX13_canTake_61 (by decide) ?_
            rcases mx_if_el hf with ⟨c12, hf⟩ | ⟨c12, hf⟩
            · refine sb_ic_eq hm dX13_canTake_62 (tgt := 69) rfl (fun _ => ?_) (fun z => absurd c12 z)
              refine sx_ic (v := 0) hm dX13_canTake_69 (by decide) ?_
              cases hf
              exact sx_ire hm dX13_canTake_70 rfl (by decide)
            · refine sb_ic_eq hm dX13_canTake_62 (tgt := 69) rfl (fun z => absurd z c12) (fun _ => ?_)
              refine sx_ic (v := 1) hm dX13_canTake_65 (by decide) ?_
              refine mx_S.pu (pc2 := 70) (lv2 := [(0, .ref a0), (1, .int a1)]) (st2 := [.int 1]) hm dX13_canTake_66 rfl ?_
              cases hf
              exact sx_ire hm dX13_canTake_70 rfl (by decide)
        · refine sb_ic_ne hm dX13_canTake_39 (tgt := 44) rfl (fun z => absurd z c14) (fun _ => ?_)
          refine sx_ic (v := 1) hm dX13_canTake_42 (by decide) ?_
          cases hf
          exact sx_ire hm dX13_canTake_43 rfl (by decide)
    · refine sb_if_eq hm dX13_canTake_15 (tgt := 20) rfl (fun z => absurd z c16) (fun _ => ?_)
      refine sx_ic (v := 0) hm dX13_canTake_18 (by decide) ?_
      cases hf
      exact sx_ire hm dX13_canTake_19 rfl (by decide)
  · refine sb_if_eq hm dX13_canTake_4 (tgt := 9) rfl (fun z => absurd z c17) (fun _ => ?_)
    refine sx_ic (v := 1) hm dX13_canTake_7 (by decide) ?_
    cases hf
    exact sx_ire hm dX13_canTake_8 rfl (by decide)
set_option maxHeartbeats 4000000 in
set_option maxRecDepth 20000 in
theorem w_X13_isLike_24_ok (X : Nat × (Nat → Int32)) {F L : Nat} (hF : 0 ≤ F) (hL : 0 ≤ L) (nn : Nat) : ∀ (k : Nat) (l0 : Nat) (l1 : Int32) (l2 : Int32) (l3 : Int32) (l4 : Int32) (h : mx_H) (r : (Int32 × mx_H)), w_X13_isLike_24 nn k l0 l1 l2 l3 l4 h = some r → mx_S X F L 416 24 [(0, .ref l0), (1, .int l1), (2, .int l2), (3, .int l3), (4, .int l4)] [] h 0 0 (some (.int r.1), r.2, 0, 0) := by
  have hm : mx_mt 416 = some (yX13_isLike, cX13_isLike, 5, (some .boolean)) := mt_X13_isLike
  intro k
  induction k with
  | zero => intro l0 l1 l2 l3 l4 h r hf; cases hf
  | succ k ih =>
    intro l0 l1 l2 l3 l4 h r hf
    unfold w_X13_isLike_24 at hf
    refine mx_S.pu (pc2 := 26) (lv2 := [(0, .ref l0), (1, .int l1), (2, .int l2), (3, .int l3), (4, .int l4)]) (st2 := [.int l4]) hm dX13_isLike_24 rfl ?_
    refine mx_S.pu (pc2 := 27) (lv2 := [(0, .ref l0), (1, .int l1), (2, .int l2), (3, .int l3), (4, .int l4)]) (st2 := [.ref l0, .int l4]) hm dX13_isLike_26 rfl ?_
    replace hf := mx_sv_el hf; obtain ⟨v1, e_v1, hf⟩ := hf
    refine sx_get hm dX13_isLike_27 rs_RX13_22 (xgr_el e_v1) ?_
    clear e_v1
    refine mx_S.pu (pc2 := 31) (lv2 := [(0, .ref l0), (1, .int l1), (2, .int l2), (3, .int l3), (4, .int l4)]) (st2 := [.int l1, .ref v1, .int l4]) hm dX13_isLike_30 rfl ?_
    replace hf := mx_sv_el hf; obtain ⟨v2, e_v2, hf⟩ := hf
    refine sx_ald hm dX13_isLike_31 e_v2 ?_
    clear e_v2
    rcases mx_if_el hf with ⟨c19, hf⟩ | ⟨c19, hf⟩
    · refine sb_ic_ge hm dX13_isLike_32 (tgt := 82) rfl (fun _ => ?_) (fun z => absurd c19 z)
      refine mx_S.pu (pc2 := 83) (lv2 := [(0, .ref l0), (1, .int l1), (2, .int l2), (3, .int l3), (4, .int l4)]) (st2 := [.int l3]) hm dX13_isLike_82 rfl ?_
      replace hf := mx_gd_el hf; obtain ⟨c3, hf⟩ := hf
      cases hf
      exact sx_ire hm dX13_isLike_83 rfl (xbq_ok c3).1
    · refine sb_ic_ge hm dX13_isLike_32 (tgt := 82) rfl (fun z => absurd z c19) (fun _ => ?_)
      refine mx_S.pu (pc2 := 36) (lv2 := [(0, .ref l0), (1, .int l1), (2, .int l2), (3, .int l3), (4, .int l4)]) (st2 := [.int l3]) hm dX13_isLike_35 rfl ?_
      rcases mx_if_el hf with ⟨c18, hf⟩ | ⟨c18, hf⟩
      · refine sb_if_eq hm dX13_isLike_36 (tgt := 82) rfl (fun _ => ?_) (fun z => absurd c18 z)
        refine mx_S.pu (pc2 := 83) (lv2 := [(0, .ref l0), (1, .int l1), (2, .int l2), (3, .int l3), (4, .int l4)]) (st2 := [.int l3]) hm dX13_isLike_82 rfl ?_
        replace hf := mx_gd_el hf; obtain ⟨c4, hf⟩ := hf
        cases hf
        exact sx_ire hm dX13_isLike_83 rfl (xbq_ok c4).1
      · refine sb_if_eq hm dX13_isLike_36 (tgt := 82) rfl (fun z => absurd z c18) (fun _ => ?_)
        refine mx_S.pu (pc2 := 40) (lv2 := [(0, .ref l0), (1, .int l1), (2, .int l2), (3, .int l3), (4, .int l4)]) (st2 := [.ref l0]) hm dX13_isLike_39 rfl ?_
        replace hf := mx_sv_el hf; obtain ⟨v5, e_v5, hf⟩ := hf
        refine sx_get hm dX13_isLike_40 rs_RX13_13 (xgr_el e_v5) ?_
        clear e_v5
        refine mx_S.pu (pc2 := 44) (lv2 := [(0, .ref l0), (1, .int l1), (2, .int l2), (3, .int l3), (4, .int l4)]) (st2 := [.ref l0, .ref v5]) hm dX13_isLike_43 rfl ?_
        replace hf := mx_sv_el hf; obtain ⟨v6, e_v6, hf⟩ := hf
        refine sx_get hm dX13_isLike_44 rs_RX13_19 (xgr_el e_v6) ?_
        clear e_v6
        refine mx_S.pu (pc2 := 48) (lv2 := [(0, .ref l0), (1, .int l1), (2, .int l2), (3, .int l3), (4, .int l4)]) (st2 := [.int l1, .ref v6, .ref v5]) hm dX13_isLike_47 rfl ?_
        replace hf := mx_sv_el hf; obtain ⟨v7, e_v7, hf⟩ := hf
        refine sx_ald hm dX13_isLike_48 e_v7 ?_
        clear e_v7
        refine mx_S.pu (pc2 := 51) (lv2 := [(0, .ref l0), (1, .int l1), (2, .int l2), (3, .int l3), (4, .int l4)]) (st2 := [.int l4, .int v7, .ref v5]) hm dX13_isLike_49 rfl ?_
        replace hf := xl_el hf; obtain ⟨v8, e_v8, hf⟩ := hf
        refine mx_S.pu (pc2 := 52) (lv2 := [(0, .ref l0), (1, .int l1), (2, .int l2), (3, .int l3), (4, .int l4)]) (st2 := [.int v8, .ref v5]) hm dX13_isLike_51 (by rw [← e_v8]; rfl) ?_
        clear e_v8
        replace hf := mx_sv_el hf; obtain ⟨v9, e_v9, hf⟩ := hf
        refine sx_ald hm dX13_isLike_52 e_v9 ?_
        clear e_v9
        refine mx_S.pu (pc2 := 54) (lv2 := [(0, .ref l0), (1, .int l1), (2, .int l2), (3, .int l3), (4, .int l4)]) (st2 := [.ref l0, .int v9]) hm dX13_isLike_53 rfl ?_
        replace hf := mx_sv_el hf; obtain ⟨v10, e_v10, hf⟩ := hf
        refine sx_get hm dX13_isLike_54 rs_RX13_13 (xgr_el e_v10) ?_
        clear e_v10
        refine mx_S.pu (pc2 := 58) (lv2 := [(0, .ref l0), (1, .int l1), (2, .int l2), (3, .int l3), (4, .int l4)]) (st2 := [.ref l0, .ref v10, .int v9]) hm dX13_isLike_57 rfl ?_
        replace hf := mx_sv_el hf; obtain ⟨v11, e_v11, hf⟩ := hf
        refine sx_get hm dX13_isLike_58 rs_RX13_19 (xgr_el e_v11) ?_
        clear e_v11
        refine mx_S.pu (pc2 := 62) (lv2 := [(0, .ref l0), (1, .int l1), (2, .int l2), (3, .int l3), (4, .int l4)]) (st2 := [.int l2, .ref v11, .ref v10, .int v9]) hm dX13_isLike_61 rfl ?_
        replace hf := mx_sv_el hf; obtain ⟨v12, e_v12, hf⟩ := hf
        refine sx_ald hm dX13_isLike_62 e_v12 ?_
        clear e_v12
        refine mx_S.pu (pc2 := 65) (lv2 := [(0, .ref l0), (1, .int l1), (2, .int l2), (3, .int l3), (4, .int l4)]) (st2 := [.int l4, .int v12, .ref v10, .int v9]) hm dX13_isLike_63 rfl ?_
        replace hf := xl_el hf; obtain ⟨v13, e_v13, hf⟩ := hf
        refine mx_S.pu (pc2 := 66) (lv2 := [(0, .ref l0), (1, .int l1), (2, .int l2), (3, .int l3), (4, .int l4)]) (st2 := [.int v13, .ref v10, .int v9]) hm dX13_isLike_65 (by rw [← e_v13]; rfl) ?_
        clear e_v13
        replace hf := mx_sv_el hf; obtain ⟨v14, e_v14, hf⟩ := hf
        refine sx_ald hm dX13_isLike_66 e_v14 ?_
        clear e_v14
        rcases mx_if_el hf with ⟨c17, hf⟩ | ⟨c17, hf⟩
        · refine sb_ic_ne hm dX13_isLike_67 (tgt := 74) rfl (fun _ => ?_) (fun z => absurd c17 z)
          refine sx_ic (v := 0) hm dX13_isLike_74 (by decide) ?_
          refine mx_S.pu (pc2 := 76) (lv2 := [(3, .int 0), (0, .ref l0), (1, .int l1), (2, .int l2), (4, .int l4)]) (st2 := []) hm dX13_isLike_75 rfl ?_
          replace hf := xl_el hf; obtain ⟨v15, e_v15, hf⟩ := hf
          refine mx_S.pu (pc2 := 79) (lv2 := [(4, .int v15), (3, .int 0), (0, .ref l0), (1, .int l1), (2, .int l2)]) (st2 := []) hm dX13_isLike_76 (by rw [← e_v15]; rfl) ?_
          clear e_v15
          refine mx_S.pu (pc2 := 24) (lv2 := [(4, .int v15), (3, .int 0), (0, .ref l0), (1, .int l1), (2, .int l2)]) (st2 := []) hm dX13_isLike_79 rfl ?_
          refine mx_S.ext [(0, .ref l0), (1, .int l1), (2, .int l2), (3, .int 0), (4, .int v15)] (mx_sub_pos [2, 3, 4, 1, 0] rfl (show ([4, 3, 0, 1, 2] : List Nat).Nodup by decide)) ?_
          exact ih l0 l1 l2 0 v15 h _ hf
        · refine sb_ic_ne hm dX13_isLike_67 (tgt := 74) rfl (fun z => absurd z c17) (fun _ => ?_)
          refine sx_ic (v := 1) hm dX13_isLike_70 (by decide) ?_
          refine mx_S.pu (pc2 := 75) (lv2 := [(0, .ref l0), (1, .int l1), (2, .int l2), (3, .int l3), (4, .int l4)]) (st2 := [.int 1]) hm dX13_isLike_71 rfl ?_
          refine mx_S.pu (pc2 := 76) (lv2 := [(3, .int 1), (0, .ref l0), (1, .int l1), (2, .int l2), (4, .int l4)]) (st2 := []) hm dX13_isLike_75 rfl ?_
          replace hf := xl_el hf; obtain ⟨v16, e_v16, hf⟩ := hf
          refine mx_S.pu (pc2 := 79) (lv2 := [(4, .int v16), (3, .int 1), (0, .ref l0), (1, .int l1), (2, .int l2)]) (st2 := []) hm dX13_isLike_76 (by rw [← e_v16]; rfl) ?_
          clear e_v16
          refine mx_S.pu (pc2 := 24) (lv2 := [(4, .int v16), (3, .int 1), (0, .ref l0), (1, .int l1), (2, .int l2)]) (st2 := []) hm dX13_isLike_79 rfl ?_
          refine mx_S.ext [(0, .ref l0), (1, .int l1), (2, .int l2), (3, .int 1), (4, .int v16)] (mx_sub_pos [2, 3, 4, 1, 0] rfl (show ([4, 3, 0, 1, 2] : List Nat).Nodup by decide)) ?_
          exact ih l0 l1 l2 1 v16 h _ hf
set_option maxHeartbeats 4000000 in
set_option maxRecDepth 20000 in
theorem f_X13_isLike_ok (X : Nat × (Nat → Int32)) {F L : Nat} (hF : 0 ≤ F) (hL : 0 ≤ L) (nn : Nat) (a0 : Nat) (a1 : Int32) (a2 : Int32) (h : mx_H) {r : (Int32 × mx_H)} (hf : f_X13_isLike nn a0 a1 a2 h = some r) : mx_R X F L 416 [.ref a0, .int a1, .int a2] h (some (.int r.1), r.2, 0, 0) := by
  have hm : mx_mt 416 = some (yX13_isLike, cX13_isLike, 5, (some .boolean)) := mt_X13_isLike
  show mx_S X F L 416 0 [(0, .ref a0), (1, .int a1), (2, .int a2)] [] h 0 0 (some (.int r.1), r.2, 0, 0)
  unfold f_X13_isLike at hf
  refine mx_S.pu (pc2 := 1) (lv2 := [(0, .ref a0), (1, .int a1), (2, .int a2)]) (st2 := [.ref a0]) hm dX13_isLike_0 rfl ?_
  replace hf := mx_sv_el hf; obtain ⟨v20, e_v20, hf⟩ := hf
  refine sx_get hm dX13_isLike_1 rs_RX13_22 (xgr_el e_v20) ?_
  clear e_v20
  refine mx_S.pu (pc2 := 5) (lv2 := [(0, .ref a0), (1, .int a1), (2, .int a2)]) (st2 := [.int a1, .ref v20]) hm dX13_isLike_4 rfl ?_
  replace hf := mx_sv_el hf; obtain ⟨v21, e_v21, hf⟩ := hf
  refine sx_ald hm dX13_isLike_5 e_v21 ?_
  clear e_v21
  refine mx_S.pu (pc2 := 7) (lv2 := [(0, .ref a0), (1, .int a1), (2, .int a2)]) (st2 := [.ref a0, .int v21]) hm dX13_isLike_6 rfl ?_
  replace hf := mx_sv_el hf; obtain ⟨v22, e_v22, hf⟩ := hf
  refine sx_get hm dX13_isLike_7 rs_RX13_22 (xgr_el e_v22) ?_
  clear e_v22
  refine mx_S.pu (pc2 := 11) (lv2 := [(0, .ref a0), (1, .int a1), (2, .int a2)]) (st2 := [.int a2, .ref v22, .int v21]) hm dX13_isLike_10 rfl ?_
  replace hf := mx_sv_el hf; obtain ⟨v23, e_v23, hf⟩ := hf
  refine sx_ald hm dX13_isLike_11 e_v23 ?_
  clear e_v23
  rcases mx_if_el hf with ⟨c24, hf⟩ | ⟨c24, hf⟩
  · refine sb_ic_ne hm dX13_isLike_12 (tgt := 19) rfl (fun _ => ?_) (fun z => absurd c24 z)
    refine sx_ic (v := 0) hm dX13_isLike_19 (by decide) ?_
    refine mx_S.pu (pc2 := 21) (lv2 := [(3, .int 0), (0, .ref a0), (1, .int a1), (2, .int a2)]) (st2 := []) hm dX13_isLike_20 rfl ?_
    refine sx_ic (v := 0) hm dX13_isLike_21 (by decide) ?_
    refine mx_S.pu (pc2 := 24) (lv2 := [(4, .int 0), (3, .int 0), (0, .ref a0), (1, .int a1), (2, .int a2)]) (st2 := []) hm dX13_isLike_22 rfl ?_
    refine mx_S.ext [(0, .ref a0), (1, .int a1), (2, .int a2), (3, .int 0), (4, .int 0)] (mx_sub_pos [2, 3, 4, 1, 0] rfl (show ([4, 3, 0, 1, 2] : List Nat).Nodup by decide)) ?_
    exact w_X13_isLike_24_ok X hF hL nn nn a0 a1 a2 0 0 h _ hf
  · refine sb_ic_ne hm dX13_isLike_12 (tgt := 19) rfl (fun z => absurd z c24) (fun _ => ?_)
    refine sx_ic (v := 1) hm dX13_isLike_15 (by decide) ?_
    refine mx_S.pu (pc2 := 20) (lv2 := [(0, .ref a0), (1, .int a1), (2, .int a2)]) (st2 := [.int 1]) hm dX13_isLike_16 rfl ?_
    refine mx_S.pu (pc2 := 21) (lv2 := [(3, .int 1), (0, .ref a0), (1, .int a1), (2, .int a2)]) (st2 := []) hm dX13_isLike_20 rfl ?_
    refine sx_ic (v := 0) hm dX13_isLike_21 (by decide) ?_
    refine mx_S.pu (pc2 := 24) (lv2 := [(4, .int 0), (3, .int 1), (0, .ref a0), (1, .int a1), (2, .int a2)]) (st2 := []) hm dX13_isLike_22 rfl ?_
    refine mx_S.ext [(0, .ref a0), (1, .int a1), (2, .int a2), (3, .int 1), (4, .int 0)] (mx_sub_pos [2, 3, 4, 1, 0] rfl (show ([4, 3, 0, 1, 2] : List Nat).Nodup by decide)) ?_
    exact w_X13_isLike_24_ok X hF hL nn nn a0 a1 a2 1 0 h _ hf
set_option maxHeartbeats 4000000 in
set_option maxRecDepth 20000 in
theorem f_X13_upperOf_ok (X : Nat × (Nat → Int32)) {F L : Nat} (hF : 0 ≤ F) (hL : 0 ≤ L) (nn : Nat) (a0 : Nat) (a1 : Int32) (h : mx_H) {r : (Int32 × mx_H)} (hf : f_X13_upperOf nn a0 a1 h = some r) : mx_R X F L 418 [.ref a0, .int a1] h (some (.int r.1), r.2, 0, 0) := by
  have hm : mx_mt 418 = some (yX13_upperOf, cX13_upperOf, 2, (some .int)) := mt_X13_upperOf
  show mx_S X F L 418 0 [(0, .ref a0), (1, .int a1)] [] h 0 0 (some (.int r.1), r.2, 0, 0)
  unfold f_X13_upperOf at hf
  refine mx_S.pu (pc2 := 1) (lv2 := [(0, .ref a0), (1, .int a1)]) (st2 := [.int a1]) hm dX13_upperOf_0 rfl ?_
  rcases mx_if_el hf with ⟨c6, hf⟩ | ⟨c6, hf⟩
  · refine sb_if_ne hm dX13_upperOf_1 (tgt := 8) rfl (fun _ => ?_) (fun z => absurd c6 z)
    refine mx_S.pu (pc2 := 9) (lv2 := [(0, .ref a0), (1, .int a1)]) (st2 := [.int a1]) hm dX13_upperOf_8 rfl ?_
    refine sx_ic (v := 1) hm dX13_upperOf_9 (by decide) ?_
    rcases mx_if_el hf with ⟨c5, hf⟩ | ⟨c5, hf⟩
    · refine sb_ic_ne hm dX13_upperOf_10 (tgt := 17) rfl (fun _ => ?_) (fun z => absurd c5 z)
      refine mx_S.pu (pc2 := 18) (lv2 := [(0, .ref a0), (1, .int a1)]) (st2 := [.int a1]) hm dX13_upperOf_17 rfl ?_
      refine sx_bi (v := 8) hm dX13_upperOf_18 (by decide) ?_
      rcases mx_if_el hf with ⟨c4, hf⟩ | ⟨c4, hf⟩
      · refine sb_ic_ge hm dX13_upperOf_20 (tgt := 27) rfl (fun _ => ?_) (fun z => absurd c4 z)
        refine mx_S.pu (pc2 := 28) (lv2 := [(0, .ref a0), (1, .int a1)]) (st2 := [.ref a0]) hm dX13_upperOf_27 rfl ?_
        replace hf := mx_sv_el hf; obtain ⟨v1, e_v1, hf⟩ := hf
        refine sx_get hm dX13_upperOf_28 rs_RX13_68 (xgr_el e_v1) ?_
        clear e_v1
        refine mx_S.pu (pc2 := 32) (lv2 := [(0, .ref a0), (1, .int a1)]) (st2 := [.int a1, .ref v1]) hm dX13_upperOf_31 rfl ?_
        refine sx_bi (v := 8) hm dX13_upperOf_32 (by decide) ?_
        replace hf := xl_el hf; obtain ⟨v2, e_v2, hf⟩ := hf
        refine mx_S.pu (pc2 := 35) (lv2 := [(0, .ref a0), (1, .int a1)]) (st2 := [.int v2, .ref v1]) hm dX13_upperOf_34 (by rw [← e_v2]; rfl) ?_
        clear e_v2
        replace hf := mx_sv_el hf; obtain ⟨v3, e_v3, hf⟩ := hf
        refine sx_ald hm dX13_upperOf_35 e_v3 ?_
        clear e_v3
        cases hf
        exact sx_ire hm dX13_upperOf_36 rfl rfl
      · refine sb_ic_ge hm dX13_upperOf_20 (tgt := 27) rfl (fun z => absurd z c4) (fun _ => ?_)
        refine sx_ic (v := 1) hm dX13_upperOf_23 (by decide) ?_
        refine mx_S.pu (pc2 := 36) (lv2 := [(0, .ref a0), (1, .int a1)]) (st2 := [.int 1]) hm dX13_upperOf_24 rfl ?_
        cases hf
        exact sx_ire hm dX13_upperOf_36 rfl rfl
    · refine sb_ic_ne hm dX13_upperOf_10 (tgt := 17) rfl (fun z => absurd z c5) (fun _ => ?_)
      refine sx_ic (v := 0) hm dX13_upperOf_13 (by decide) ?_
      refine mx_S.pu (pc2 := 36) (lv2 := [(0, .ref a0), (1, .int a1)]) (st2 := [.int 0]) hm dX13_upperOf_14 rfl ?_
      cases hf
      exact sx_ire hm dX13_upperOf_36 rfl rfl
  · refine sb_if_ne hm dX13_upperOf_1 (tgt := 8) rfl (fun z => absurd z c6) (fun _ => ?_)
    refine sx_ic (v := (-1)) hm dX13_upperOf_4 (by decide) ?_
    refine mx_S.pu (pc2 := 36) (lv2 := [(0, .ref a0), (1, .int a1)]) (st2 := [.int (-1)]) hm dX13_upperOf_5 rfl ?_
    cases hf
    exact sx_ire hm dX13_upperOf_36 rfl rfl
set_option maxHeartbeats 4000000 in
set_option maxRecDepth 20000 in
theorem j_X13_memberOf_51_ok (X : Nat × (Nat → Int32)) {F L : Nat} (hF : 1 ≤ F) (hL : 24 ≤ L) (nn : Nat) {kk_3 : Nat → Int32 → Int32 → Int32 → mx_H → Option (Int32 × mx_H)} (hk_3 : ∀ (l0 : Nat) (l2 : Int32) (l3 : Int32) (l4 : Int32) (h : mx_H) (r : (Int32 × mx_H)), kk_3 l0 l2 l3 l4 h = some r → mx_S X F L 425 3 [(0, .ref l0), (2, .int l2), (3, .int l3), (4, .int l4)] [] h 0 0 (some (.int r.1), r.2, 0, 0)) {kk_12 : Nat → Int32 → Int32 → Int32 → Int32 → mx_H → Option (Int32 × mx_H)} (hk_12 : ∀ (l0 : Nat) (l2 : Int32) (l3 : Int32) (l4 : Int32) (l5 : Int32) (h : mx_H) (r : (Int32 × mx_H)), kk_12 l0 l2 l3 l4 l5 h = some r → mx_S X F L 425 12 [(0, .ref l0), (2, .int l2), (3, .int l3), (4, .int l4), (5, .int l5)] [] h 0 0 (some (.int r.1), r.2, 0, 0)) (l0 : Nat) (l2 : Int32) (l3 : Int32) (l4 : Int32) (l5 : Int32) (s0 : Int32) (h : mx_H) {r : (Int32 × mx_H)} (hf : j_X13_memberOf_51 nn kk_3 kk_12 l0 l2 l3 l4 l5 s0 h = some r) : mx_S X F L 425 51 [(0, .ref l0), (2, .int l2), (3, .int l3), (4, .int l4), (5, .int l5)] [.int s0] h 0 0 (some (.int r.1), r.2, 0, 0) := by
  have hm : mx_mt 425 = some (yX13_memberOf, cX13_memberOf, 6, (some .int)) := mt_X13_memberOf
  unfold j_X13_memberOf_51 at hf
  refine mx_S.pu (pc2 := 52) (lv2 := [(0, .ref l0), (2, .int l2), (3, .int l3), (4, .int l4), (5, .int l5)]) (st2 := [.int l3, .int s0]) hm dX13_memberOf_51 rfl ?_
  rcases mx_if_el hf with ⟨c8, hf⟩ | ⟨c8, hf⟩
  · refine sb_ic_ne hm dX13_memberOf_52 (tgt := 73) rfl (fun _ => ?_) (fun z => absurd c8 z)
    replace hf := xl_el hf; obtain ⟨v1, e_v1, hf⟩ := hf
    refine mx_S.pu (pc2 := 76) (lv2 := [(5, .int v1), (0, .ref l0), (2, .int l2), (3, .int l3), (4, .int l4)]) (st2 := []) hm dX13_memberOf_73 (by rw [← e_v1]; rfl) ?_
    clear e_v1
    refine mx_S.pu (pc2 := 12) (lv2 := [(5, .int v1), (0, .ref l0), (2, .int l2), (3, .int l3), (4, .int l4)]) (st2 := []) hm dX13_memberOf_76 rfl ?_
    refine mx_S.ext [(0, .ref l0), (2, .int l2), (3, .int l3), (4, .int l4), (5, .int v1)] (mx_sub_pos [1, 2, 3, 4, 0] rfl (show ([5, 0, 2, 3, 4] : List Nat).Nodup by decide)) ?_
    exact hk_12 l0 l2 l3 l4 v1 h _ hf
  · refine sb_ic_ne hm dX13_memberOf_52 (tgt := 73) rfl (fun z => absurd z c8) (fun _ => ?_)
    refine mx_S.pu (pc2 := 56) (lv2 := [(0, .ref l0), (2, .int l2), (3, .int l3), (4, .int l4), (5, .int l5)]) (st2 := [.ref l0]) hm dX13_memberOf_55 rfl ?_
    refine mx_S.pu (pc2 := 57) (lv2 := [(0, .ref l0), (2, .int l2), (3, .int l3), (4, .int l4), (5, .int l5)]) (st2 := [.ref l0, .ref l0]) hm dX13_memberOf_56 rfl ?_
    replace hf := mx_sv_el hf; obtain ⟨v2, e_v2, hf⟩ := hf
    refine sx_get hm dX13_memberOf_57 rs_RX13_86 (xgr_el e_v2) ?_
    clear e_v2
    refine mx_S.pu (pc2 := 62) (lv2 := [(0, .ref l0), (2, .int l2), (3, .int l3), (4, .int l4), (5, .int l5)]) (st2 := [.int l5, .ref v2, .ref l0]) hm dX13_memberOf_60 rfl ?_
    replace hf := mx_sv_el hf; obtain ⟨v3, e_v3, hf⟩ := hf
    refine sx_ald hm dX13_memberOf_62 e_v3 ?_
    clear e_v3
    refine mx_S.pu (pc2 := 64) (lv2 := [(0, .ref l0), (2, .int l2), (3, .int l3), (4, .int l4), (5, .int l5)]) (st2 := [.int l2, .int v3, .ref l0]) hm dX13_memberOf_63 rfl ?_
    replace hf := mx_gd_el hf; obtain ⟨c4, hf⟩ := hf
    replace hf := mx_sv_el hf; obtain ⟨u5, e_u5, hf⟩ := hf
    refine sx_cv hm dX13_memberOf_64 rs_RX13_479 mt_X13_isLike [.int v3, .int l2] [] (b := l0) (ci := 13) rfl rfl rfl c4 (Nat.le_of_ble_eq_true rfl) (Nat.le_of_ble_eq_true rfl) (by omega) (by omega) (f_X13_isLike_ok X (by omega) (by omega) nn l0 v3 l2 h e_u5) ?_
    clear e_u5
    show mx_S X F L 425 67 [(0, .ref l0), (2, .int l2), (3, .int l3), (4, .int l4), (5, .int l5)] [.int u5.1] u5.2 0 0 (some (.int r.1), r.2, 0, 0)
    rcases mx_if_el hf with ⟨c7, hf⟩ | ⟨c7, hf⟩
    · refine sb_if_eq hm dX13_memberOf_67 (tgt := 73) rfl (fun _ => ?_) (fun z => absurd c7 z)
      replace hf := xl_el hf; obtain ⟨v6, e_v6, hf⟩ := hf
      refine mx_S.pu (pc2 := 76) (lv2 := [(5, .int v6), (0, .ref l0), (2, .int l2), (3, .int l3), (4, .int l4)]) (st2 := []) hm dX13_memberOf_73 (by rw [← e_v6]; rfl) ?_
      clear e_v6
      refine mx_S.pu (pc2 := 12) (lv2 := [(5, .int v6), (0, .ref l0), (2, .int l2), (3, .int l3), (4, .int l4)]) (st2 := []) hm dX13_memberOf_76 rfl ?_
      refine mx_S.ext [(0, .ref l0), (2, .int l2), (3, .int l3), (4, .int l4), (5, .int v6)] (mx_sub_pos [1, 2, 3, 4, 0] rfl (show ([5, 0, 2, 3, 4] : List Nat).Nodup by decide)) ?_
      exact hk_12 l0 l2 l3 l4 v6 u5.2 _ hf
    · refine sb_if_eq hm dX13_memberOf_67 (tgt := 73) rfl (fun z => absurd z c7) (fun _ => ?_)
      refine mx_S.pu (pc2 := 72) (lv2 := [(0, .ref l0), (2, .int l2), (3, .int l3), (4, .int l4), (5, .int l5)]) (st2 := [.int l5]) hm dX13_memberOf_70 rfl ?_
      cases hf
      exact sx_ire hm dX13_memberOf_72 rfl rfl
set_option maxHeartbeats 4000000 in
set_option maxRecDepth 20000 in
theorem w_X13_memberOf_12_ok (X : Nat × (Nat → Int32)) {F L : Nat} (hF : 1 ≤ F) (hL : 24 ≤ L) (nn : Nat) {kk_3 : Nat → Int32 → Int32 → Int32 → mx_H → Option (Int32 × mx_H)} (hk_3 : ∀ (l0 : Nat) (l2 : Int32) (l3 : Int32) (l4 : Int32) (h : mx_H) (r : (Int32 × mx_H)), kk_3 l0 l2 l3 l4 h = some r → mx_S X F L 425 3 [(0, .ref l0), (2, .int l2), (3, .int l3), (4, .int l4)] [] h 0 0 (some (.int r.1), r.2, 0, 0)) : ∀ (k : Nat) (l0 : Nat) (l2 : Int32) (l3 : Int32) (l4 : Int32) (l5 : Int32) (h : mx_H) (r : (Int32 × mx_H)), w_X13_memberOf_12 nn kk_3 k l0 l2 l3 l4 l5 h = some r → mx_S X F L 425 12 [(0, .ref l0), (2, .int l2), (3, .int l3), (4, .int l4), (5, .int l5)] [] h 0 0 (some (.int r.1), r.2, 0, 0) := by
  have hm : mx_mt 425 = some (yX13_memberOf, cX13_memberOf, 6, (some .int)) := mt_X13_memberOf
  intro k
  induction k with
  | zero => intro l0 l2 l3 l4 l5 h r hf; cases hf
  | succ k ih =>
    intro l0 l2 l3 l4 l5 h r hf
    unfold w_X13_memberOf_12 at hf
    refine mx_S.pu (pc2 := 14) (lv2 := [(0, .ref l0), (2, .int l2), (3, .int l3), (4, .int l4), (5, .int l5)]) (st2 := [.int l5]) hm dX13_memberOf_12 rfl ?_
    refine mx_S.pu (pc2 := 15) (lv2 := [(0, .ref l0), (2, .int l2), (3, .int l3), (4, .int l4), (5, .int l5)]) (st2 := [.ref l0, .int l5]) hm dX13_memberOf_14 rfl ?_
    replace hf := mx_sv_el hf; obtain ⟨v9, e_v9, hf⟩ := hf
    refine sx_get hm dX13_memberOf_15 rs_RX13_412 (xgi_el e_v9) ?_
    clear e_v9
    rcases mx_if_el hf with ⟨c20, hf⟩ | ⟨c20, hf⟩
    · refine sb_ic_ge hm dX13_memberOf_18 (tgt := 79) rfl (fun _ => ?_) (fun z => absurd c20 z)
      refine mx_S.pu (pc2 := 80) (lv2 := [(0, .ref l0), (2, .int l2), (3, .int l3), (4, .int l4), (5, .int l5)]) (st2 := [.ref l0]) hm dX13_memberOf_79 rfl ?_
      refine mx_S.pu (pc2 := 82) (lv2 := [(0, .ref l0), (2, .int l2), (3, .int l3), (4, .int l4), (5, .int l5)]) (st2 := [.int l4, .ref l0]) hm dX13_memberOf_80 rfl ?_
      replace hf := mx_gd_el hf; obtain ⟨c10, hf⟩ := hf
      replace hf := mx_sv_el hf; obtain ⟨u11, e_u11, hf⟩ := hf
      refine sx_cv hm dX13_memberOf_82 rs_RX13_482 mt_X13_upperOf [.int l4] [] (b := l0) (ci := 13) rfl rfl rfl c10 (Nat.le_of_ble_eq_true rfl) (Nat.le_of_ble_eq_true rfl) (by omega) (by omega) (f_X13_upperOf_ok X (by omega) (by omega) nn l0 l4 h e_u11) ?_
      clear e_u11
      show mx_S X F L 425 85 [(0, .ref l0), (2, .int l2), (3, .int l3), (4, .int l4), (5, .int l5)] [.int u11.1] u11.2 0 0 (some (.int r.1), r.2, 0, 0)
      refine mx_S.pu (pc2 := 87) (lv2 := [(4, .int u11.1), (0, .ref l0), (2, .int l2), (3, .int l3), (5, .int l5)]) (st2 := []) hm dX13_memberOf_85 rfl ?_
      refine mx_S.pu (pc2 := 3) (lv2 := [(4, .int u11.1), (0, .ref l0), (2, .int l2), (3, .int l3), (5, .int l5)]) (st2 := []) hm dX13_memberOf_87 rfl ?_
      refine mx_S.ext [(0, .ref l0), (2, .int l2), (3, .int l3), (4, .int u11.1)] (mx_sub_pos [1, 2, 3, 0] rfl (show ([4, 0, 2, 3, 5] : List Nat).Nodup by decide)) ?_
      exact hk_3 l0 l2 l3 u11.1 u11.2 _ hf
    · refine sb_ic_ge hm dX13_memberOf_18 (tgt := 79) rfl (fun z => absurd z c20) (fun _ => ?_)
      refine mx_S.pu (pc2 := 22) (lv2 := [(0, .ref l0), (2, .int l2), (3, .int l3), (4, .int l4), (5, .int l5)]) (st2 := [.ref l0]) hm dX13_memberOf_21 rfl ?_
      replace hf := mx_sv_el hf; obtain ⟨v12, e_v12, hf⟩ := hf
      refine sx_get hm dX13_memberOf_22 rs_RX13_71 (xgr_el e_v12) ?_
      clear e_v12
      refine mx_S.pu (pc2 := 27) (lv2 := [(0, .ref l0), (2, .int l2), (3, .int l3), (4, .int l4), (5, .int l5)]) (st2 := [.int l5, .ref v12]) hm dX13_memberOf_25 rfl ?_
      replace hf := mx_sv_el hf; obtain ⟨v13, e_v13, hf⟩ := hf
      refine sx_ald hm dX13_memberOf_27 e_v13 ?_
      clear e_v13
      refine mx_S.pu (pc2 := 30) (lv2 := [(0, .ref l0), (2, .int l2), (3, .int l3), (4, .int l4), (5, .int l5)]) (st2 := [.int l4, .int v13]) hm dX13_memberOf_28 rfl ?_
      refine sx_bi (v := 8) hm dX13_memberOf_30 (by decide) ?_
      replace hf := xl_el hf; obtain ⟨v14, e_v14, hf⟩ := hf
      refine mx_S.pu (pc2 := 33) (lv2 := [(0, .ref l0), (2, .int l2), (3, .int l3), (4, .int l4), (5, .int l5)]) (st2 := [.int v14, .int v13]) hm dX13_memberOf_32 (by rw [← e_v14]; rfl) ?_
      clear e_v14
      rcases mx_if_el hf with ⟨c19, hf⟩ | ⟨c19, hf⟩
      · refine sb_ic_ne hm dX13_memberOf_33 (tgt := 73) rfl (fun _ => ?_) (fun z => absurd c19 z)
        replace hf := xl_el hf; obtain ⟨v15, e_v15, hf⟩ := hf
        refine mx_S.pu (pc2 := 76) (lv2 := [(5, .int v15), (0, .ref l0), (2, .int l2), (3, .int l3), (4, .int l4)]) (st2 := []) hm dX13_memberOf_73 (by rw [← e_v15]; rfl) ?_
        clear e_v15
        refine mx_S.pu (pc2 := 12) (lv2 := [(5, .int v15), (0, .ref l0), (2, .int l2), (3, .int l3), (4, .int l4)]) (st2 := []) hm dX13_memberOf_76 rfl ?_
        refine mx_S.ext [(0, .ref l0), (2, .int l2), (3, .int l3), (4, .int l4), (5, .int v15)] (mx_sub_pos [1, 2, 3, 4, 0] rfl (show ([5, 0, 2, 3, 4] : List Nat).Nodup by decide)) ?_
        exact ih l0 l2 l3 l4 v15 h _ hf
      · refine sb_ic_ne hm dX13_memberOf_33 (tgt := 73) rfl (fun z => absurd z c19) (fun _ => ?_)
        refine mx_S.pu (pc2 := 37) (lv2 := [(0, .ref l0), (2, .int l2), (3, .int l3), (4, .int l4), (5, .int l5)]) (st2 := [.ref l0]) hm dX13_memberOf_36 rfl ?_
        replace hf := mx_sv_el hf; obtain ⟨v16, e_v16, hf⟩ := hf
        refine sx_get hm dX13_memberOf_37 rs_RX13_74 (xgr_el e_v16) ?_
        clear e_v16
        refine mx_S.pu (pc2 := 42) (lv2 := [(0, .ref l0), (2, .int l2), (3, .int l3), (4, .int l4), (5, .int l5)]) (st2 := [.int l5, .ref v16]) hm dX13_memberOf_40 rfl ?_
        replace hf := mx_sv_el hf; obtain ⟨v17, e_v17, hf⟩ := hf
        refine sx_ald hm dX13_memberOf_42 e_v17 ?_
        clear e_v17
        rcases mx_if_el hf with ⟨c18, hf⟩ | ⟨c18, hf⟩
        · refine sb_if_le hm dX13_memberOf_43 (tgt := 50) rfl (fun _ => ?_) (fun z => absurd c18 z)
          refine sx_ic (v := 0) hm dX13_memberOf_50 (by decide) ?_
          exact j_X13_memberOf_51_ok X hF hL nn hk_3 ih l0 l2 l3 l4 l5 0 h hf
        · refine sb_if_le hm dX13_memberOf_43 (tgt := 50) rfl (fun z => absurd z c18) (fun _ => ?_)
          refine sx_ic (v := 1) hm dX13_memberOf_46 (by decide) ?_
          refine mx_S.pu (pc2 := 51) (lv2 := [(0, .ref l0), (2, .int l2), (3, .int l3), (4, .int l4), (5, .int l5)]) (st2 := [.int 1]) hm dX13_memberOf_47 rfl ?_
          exact j_X13_memberOf_51_ok X hF hL nn hk_3 ih l0 l2 l3 l4 l5 1 h hf
set_option maxHeartbeats 4000000 in
set_option maxRecDepth 20000 in
theorem w_X13_memberOf_3_ok (X : Nat × (Nat → Int32)) {F L : Nat} (hF : 1 ≤ F) (hL : 24 ≤ L) (nn : Nat) : ∀ (k : Nat) (l0 : Nat) (l2 : Int32) (l3 : Int32) (l4 : Int32) (h : mx_H) (r : (Int32 × mx_H)), w_X13_memberOf_3 nn k l0 l2 l3 l4 h = some r → mx_S X F L 425 3 [(0, .ref l0), (2, .int l2), (3, .int l3), (4, .int l4)] [] h 0 0 (some (.int r.1), r.2, 0, 0) := by
  have hm : mx_mt 425 = some (yX13_memberOf, cX13_memberOf, 6, (some .int)) := mt_X13_memberOf
  intro k
  induction k with
  | zero => intro l0 l2 l3 l4 h r hf; cases hf
  | succ k ih =>
    intro l0 l2 l3 l4 h r hf
    unfold w_X13_memberOf_3 at hf
    refine mx_S.pu (pc2 := 5) (lv2 := [(0, .ref l0), (2, .int l2), (3, .int l3), (4, .int l4)]) (st2 := [.int l4]) hm dX13_memberOf_3 rfl ?_
    refine sx_ic (v := (-1)) hm dX13_memberOf_5 (by decide) ?_
    rcases mx_if_el hf with ⟨c21, hf⟩ | ⟨c21, hf⟩
    · refine sb_ic_eq hm dX13_memberOf_6 (tgt := 90) rfl (fun _ => ?_) (fun z => absurd c21 z)
      refine sx_ic (v := (-1)) hm dX13_memberOf_90 (by decide) ?_
      cases hf
      exact sx_ire hm dX13_memberOf_91 rfl rfl
    · refine sb_ic_eq hm dX13_memberOf_6 (tgt := 90) rfl (fun z => absurd z c21) (fun _ => ?_)
      refine sx_ic (v := 0) hm dX13_memberOf_9 (by decide) ?_
      refine mx_S.pu (pc2 := 12) (lv2 := [(5, .int 0), (0, .ref l0), (2, .int l2), (3, .int l3), (4, .int l4)]) (st2 := []) hm dX13_memberOf_10 rfl ?_
      refine mx_S.ext [(0, .ref l0), (2, .int l2), (3, .int l3), (4, .int l4), (5, .int 0)] (mx_sub_pos [1, 2, 3, 4, 0] rfl (show ([5, 0, 2, 3, 4] : List Nat).Nodup by decide)) ?_
      exact w_X13_memberOf_12_ok X hF hL nn ih nn l0 l2 l3 l4 0 h _ hf
set_option maxHeartbeats 4000000 in
set_option maxRecDepth 20000 in
theorem f_X13_memberOf_ok (X : Nat × (Nat → Int32)) {F L : Nat} (hF : 1 ≤ F) (hL : 24 ≤ L) (nn : Nat) (a0 : Nat) (a1 : Int32) (a2 : Int32) (a3 : Int32) (h : mx_H) {r : (Int32 × mx_H)} (hf : f_X13_memberOf nn a0 a1 a2 a3 h = some r) : mx_R X F L 425 [.ref a0, .int a1, .int a2, .int a3] h (some (.int r.1), r.2, 0, 0) := by
  have hm : mx_mt 425 = some (yX13_memberOf, cX13_memberOf, 6, (some .int)) := mt_X13_memberOf
  show mx_S X F L 425 0 [(0, .ref a0), (1, .int a1), (2, .int a2), (3, .int a3)] [] h 0 0 (some (.int r.1), r.2, 0, 0)
  unfold f_X13_memberOf at hf
  refine mx_S.pu (pc2 := 1) (lv2 := [(0, .ref a0), (1, .int a1), (2, .int a2), (3, .int a3)]) (st2 := [.int a1]) hm dX13_memberOf_0 rfl ?_
  refine mx_S.pu (pc2 := 3) (lv2 := [(4, .int a1), (0, .ref a0), (1, .int a1), (2, .int a2), (3, .int a3)]) (st2 := []) hm dX13_memberOf_1 rfl ?_
  refine mx_S.ext [(0, .ref a0), (2, .int a2), (3, .int a3), (4, .int a1)] (mx_sub_pos [1, 3, 4, 0] rfl (show ([4, 0, 1, 2, 3] : List Nat).Nodup by decide)) ?_
  exact w_X13_memberOf_3_ok X hF hL nn nn a0 a2 a3 a1 h _ hf
set_option maxHeartbeats 4000000 in
set_option maxRecDepth 20000 in
theorem w_X13_sightOf_7_ok (X : Nat × (Nat → Int32)) {F L : Nat} (hF : 1 ≤ F) (hL : 24 ≤ L) (nn : Nat) : ∀ (k : Nat) (l0 : Nat) (l1 : Int32) (l2 : Int32) (h : mx_H) (r : (Int32 × mx_H)), w_X13_sightOf_7 nn k l0 l1 l2 h = some r → mx_S X F L 430 7 [(0, .ref l0), (1, .int l1), (2, .int l2)] [] h 0 0 (some (.int r.1), r.2, 0, 0) := by
  have hm : mx_mt 430 = some (yX13_sightOf, cX13_sightOf, 3, (some .int)) := mt_X13_sightOf
  intro k
  induction k with
  | zero => intro l0 l1 l2 h r hf; cases hf
  | succ k ih =>
    intro l0 l1 l2 h r hf
    unfold w_X13_sightOf_7 at hf
    refine mx_S.pu (pc2 := 8) (lv2 := [(0, .ref l0), (1, .int l1), (2, .int l2)]) (st2 := [.int l2]) hm dX13_sightOf_7 rfl ?_
    rcases mx_if_el hf with ⟨c7, hf⟩ | ⟨c7, hf⟩
    · refine sb_if_lt hm dX13_sightOf_8 (tgt := 33) rfl (fun _ => ?_) (fun z => absurd c7 z)
      refine sx_ic (v := (-1)) hm dX13_sightOf_33 (by decide) ?_
      cases hf
      exact sx_ire hm dX13_sightOf_34 rfl rfl
    · refine sb_if_lt hm dX13_sightOf_8 (tgt := 33) rfl (fun z => absurd z c7) (fun _ => ?_)
      refine mx_S.pu (pc2 := 12) (lv2 := [(0, .ref l0), (1, .int l1), (2, .int l2)]) (st2 := [.ref l0]) hm dX13_sightOf_11 rfl ?_
      refine mx_S.pu (pc2 := 13) (lv2 := [(0, .ref l0), (1, .int l1), (2, .int l2)]) (st2 := [.ref l0, .ref l0]) hm dX13_sightOf_12 rfl ?_
      replace hf := mx_sv_el hf; obtain ⟨v1, e_v1, hf⟩ := hf
      refine sx_get hm dX13_sightOf_13 rs_RX13_116 (xgr_el e_v1) ?_
      clear e_v1
      refine mx_S.pu (pc2 := 17) (lv2 := [(0, .ref l0), (1, .int l1), (2, .int l2)]) (st2 := [.int l2, .ref v1, .ref l0]) hm dX13_sightOf_16 rfl ?_
      replace hf := mx_sv_el hf; obtain ⟨v2, e_v2, hf⟩ := hf
      refine sx_ald hm dX13_sightOf_17 e_v2 ?_
      clear e_v2
      refine mx_S.pu (pc2 := 19) (lv2 := [(0, .ref l0), (1, .int l1), (2, .int l2)]) (st2 := [.int l1, .int v2, .ref l0]) hm dX13_sightOf_18 rfl ?_
      replace hf := mx_gd_el hf; obtain ⟨c3, hf⟩ := hf
      replace hf := mx_sv_el hf; obtain ⟨u4, e_u4, hf⟩ := hf
      refine sx_cv hm dX13_sightOf_19 rs_RX13_479 mt_X13_isLike [.int v2, .int l1] [] (b := l0) (ci := 13) rfl rfl rfl c3 (Nat.le_of_ble_eq_true rfl) (Nat.le_of_ble_eq_true rfl) (by omega) (by omega) (f_X13_isLike_ok X (by omega) (by omega) nn l0 v2 l1 h e_u4) ?_
      clear e_u4
      show mx_S X F L 430 22 [(0, .ref l0), (1, .int l1), (2, .int l2)] [.int u4.1] u4.2 0 0 (some (.int r.1), r.2, 0, 0)
      rcases mx_if_el hf with ⟨c6, hf⟩ | ⟨c6, hf⟩
      · refine sb_if_eq hm dX13_sightOf_22 (tgt := 27) rfl (fun _ => ?_) (fun z => absurd c6 z)
        replace hf := xl_el hf; obtain ⟨v5, e_v5, hf⟩ := hf
        refine mx_S.pu (pc2 := 30) (lv2 := [(2, .int v5), (0, .ref l0), (1, .int l1)]) (st2 := []) hm dX13_sightOf_27 (by rw [← e_v5]; rfl) ?_
        clear e_v5
        refine mx_S.pu (pc2 := 7) (lv2 := [(2, .int v5), (0, .ref l0), (1, .int l1)]) (st2 := []) hm dX13_sightOf_30 rfl ?_
        refine mx_S.ext [(0, .ref l0), (1, .int l1), (2, .int v5)] (mx_sub_pos [1, 2, 0] rfl (show ([2, 0, 1] : List Nat).Nodup by decide)) ?_
        exact ih l0 l1 v5 u4.2 _ hf
      · refine sb_if_eq hm dX13_sightOf_22 (tgt := 27) rfl (fun z => absurd z c6) (fun _ => ?_)
        refine mx_S.pu (pc2 := 26) (lv2 := [(0, .ref l0), (1, .int l1), (2, .int l2)]) (st2 := [.int l2]) hm dX13_sightOf_25 rfl ?_
        cases hf
        exact sx_ire hm dX13_sightOf_26 rfl rfl
set_option maxHeartbeats 4000000 in
set_option maxRecDepth 20000 in
theorem f_X13_sightOf_ok (X : Nat × (Nat → Int32)) {F L : Nat} (hF : 1 ≤ F) (hL : 24 ≤ L) (nn : Nat) (a0 : Nat) (a1 : Int32) (h : mx_H) {r : (Int32 × mx_H)} (hf : f_X13_sightOf nn a0 a1 h = some r) : mx_R X F L 430 [.ref a0, .int a1] h (some (.int r.1), r.2, 0, 0) := by
  have hm : mx_mt 430 = some (yX13_sightOf, cX13_sightOf, 3, (some .int)) := mt_X13_sightOf
  show mx_S X F L 430 0 [(0, .ref a0), (1, .int a1)] [] h 0 0 (some (.int r.1), r.2, 0, 0)
  unfold f_X13_sightOf at hf
  refine mx_S.pu (pc2 := 1) (lv2 := [(0, .ref a0), (1, .int a1)]) (st2 := [.ref a0]) hm dX13_sightOf_0 rfl ?_
  replace hf := mx_sv_el hf; obtain ⟨v8, e_v8, hf⟩ := hf
  refine sx_get hm dX13_sightOf_1 rs_RX13_513 (xgi_el e_v8) ?_
  clear e_v8
  refine sx_ic (v := 1) hm dX13_sightOf_4 (by decide) ?_
  replace hf := xl_el hf; obtain ⟨v9, e_v9, hf⟩ := hf
  refine mx_S.pu (pc2 := 6) (lv2 := [(0, .ref a0), (1, .int a1)]) (st2 := [.int v9]) hm dX13_sightOf_5 (by rw [← e_v9]; rfl) ?_
  clear e_v9
  refine mx_S.pu (pc2 := 7) (lv2 := [(2, .int v9), (0, .ref a0), (1, .int a1)]) (st2 := []) hm dX13_sightOf_6 rfl ?_
  refine mx_S.ext [(0, .ref a0), (1, .int a1), (2, .int v9)] (mx_sub_pos [1, 2, 0] rfl (show ([2, 0, 1] : List Nat).Nodup by decide)) ?_
  exact w_X13_sightOf_7_ok X hF hL nn nn a0 a1 v9 h _ hf
set_option maxHeartbeats 4000000 in
set_option maxRecDepth 20000 in
theorem f_X13_isByClass_ok (X : Nat × (Nat → Int32)) {F L : Nat} (hF : 2 ≤ F) (hL : 49 ≤ L) (nn : Nat) (a0 : Nat) (a1 : Int32) (h : mx_H) {r : (Int32 × mx_H)} (hf : f_X13_isByClass nn a0 a1 h = some r) : mx_R X F L 445 [.ref a0, .int a1] h (some (.int r.1), r.2, 0, 0) := by
  have hm : mx_mt 445 = some (yX13_isByClass, cX13_isByClass, 3, (some .boolean)) := mt_X13_isByClass
  show mx_S X F L 445 0 [(0, .ref a0), (1, .int a1)] [] h 0 0 (some (.int r.1), r.2, 0, 0)
  unfold f_X13_isByClass at hf
  refine mx_S.pu (pc2 := 1) (lv2 := [(0, .ref a0), (1, .int a1)]) (st2 := [.ref a0]) hm dX13_isByClass_0 rfl ?_
  replace hf := mx_sv_el hf; obtain ⟨v1, e_v1, hf⟩ := hf
  refine sx_get hm dX13_isByClass_1 rs_RX13_37 (xgr_el e_v1) ?_
  clear e_v1
  refine mx_S.pu (pc2 := 5) (lv2 := [(0, .ref a0), (1, .int a1)]) (st2 := [.int a1, .ref v1]) hm dX13_isByClass_4 rfl ?_
  replace hf := mx_sv_el hf; obtain ⟨v2, e_v2, hf⟩ := hf
  refine sx_ald hm dX13_isByClass_5 e_v2 ?_
  clear e_v2
  refine mx_S.pu (pc2 := 7) (lv2 := [(2, .int v2), (0, .ref a0), (1, .int a1)]) (st2 := []) hm dX13_isByClass_6 rfl ?_
  refine mx_S.pu (pc2 := 8) (lv2 := [(2, .int v2), (0, .ref a0), (1, .int a1)]) (st2 := [.ref a0]) hm dX13_isByClass_7 rfl ?_
  replace hf := mx_sv_el hf; obtain ⟨v3, e_v3, hf⟩ := hf
  refine sx_get hm dX13_isByClass_8 rs_RX13_28 (xgr_el e_v3) ?_
  clear e_v3
  refine mx_S.pu (pc2 := 12) (lv2 := [(2, .int v2), (0, .ref a0), (1, .int a1)]) (st2 := [.int v2, .ref v3]) hm dX13_isByClass_11 rfl ?_
  replace hf := mx_sv_el hf; obtain ⟨v4, e_v4, hf⟩ := hf
  refine sx_ald hm dX13_isByClass_12 e_v4 ?_
  clear e_v4
  refine sx_bi (v := 25) hm dX13_isByClass_13 (by decide) ?_
  rcases mx_if_el hf with ⟨c19, hf⟩ | ⟨c19, hf⟩
  · refine sb_ic_ne hm dX13_isByClass_15 (tgt := 64) rfl (fun _ => ?_) (fun z => absurd c19 z)
    refine sx_ic (v := 0) hm dX13_isByClass_64 (by decide) ?_
    cases hf
    exact sx_ire hm dX13_isByClass_65 rfl (by decide)
  · refine sb_ic_ne hm dX13_isByClass_15 (tgt := 64) rfl (fun z => absurd z c19) (fun _ => ?_)
    refine mx_S.pu (pc2 := 19) (lv2 := [(2, .int v2), (0, .ref a0), (1, .int a1)]) (st2 := [.ref a0]) hm dX13_isByClass_18 rfl ?_
    replace hf := mx_sv_el hf; obtain ⟨v5, e_v5, hf⟩ := hf
    refine sx_get hm dX13_isByClass_19 rs_RX13_58 (xgr_el e_v5) ?_
    clear e_v5
    refine mx_S.pu (pc2 := 23) (lv2 := [(2, .int v2), (0, .ref a0), (1, .int a1)]) (st2 := [.int v2, .ref v5]) hm dX13_isByClass_22 rfl ?_
    replace hf := mx_sv_el hf; obtain ⟨v6, e_v6, hf⟩ := hf
    refine sx_bld hm dX13_isByClass_23 e_v6 ?_
    clear e_v6
    rcases mx_if_el hf with ⟨c18, hf⟩ | ⟨c18, hf⟩
    · refine sb_if_ne hm dX13_isByClass_24 (tgt := 64) rfl (fun _ => ?_) (fun z => absurd c18 z)
      refine sx_ic (v := 0) hm dX13_isByClass_64 (by decide) ?_
      cases hf
      exact sx_ire hm dX13_isByClass_65 rfl (by decide)
    · refine sb_if_ne hm dX13_isByClass_24 (tgt := 64) rfl (fun z => absurd z c18) (fun _ => ?_)
      refine mx_S.pu (pc2 := 28) (lv2 := [(2, .int v2), (0, .ref a0), (1, .int a1)]) (st2 := [.ref a0]) hm dX13_isByClass_27 rfl ?_
      refine mx_S.pu (pc2 := 29) (lv2 := [(2, .int v2), (0, .ref a0), (1, .int a1)]) (st2 := [.ref a0, .ref a0]) hm dX13_isByClass_28 rfl ?_
      replace hf := mx_sv_el hf; obtain ⟨v7, e_v7, hf⟩ := hf
      refine sx_get hm dX13_isByClass_29 rs_RX13_31 (xgr_el e_v7) ?_
      clear e_v7
      refine mx_S.pu (pc2 := 33) (lv2 := [(2, .int v2), (0, .ref a0), (1, .int a1)]) (st2 := [.int v2, .ref v7, .ref a0]) hm dX13_isByClass_32 rfl ?_
      replace hf := mx_sv_el hf; obtain ⟨v8, e_v8, hf⟩ := hf
      refine sx_ald hm dX13_isByClass_33 e_v8 ?_
      clear e_v8
      replace hf := mx_gd_el hf; obtain ⟨c9, hf⟩ := hf
      replace hf := mx_sv_el hf; obtain ⟨u10, e_u10, hf⟩ := hf
      refine sx_cv hm dX13_isByClass_34 rs_RX13_534 mt_X13_sightOf [.int v8] [] (b := a0) (ci := 13) rfl rfl rfl c9 (Nat.le_of_ble_eq_true rfl) (Nat.le_of_ble_eq_true rfl) (by omega) (by omega) (f_X13_sightOf_ok X (by omega) (by omega) nn a0 v8 h e_u10) ?_
      clear e_u10
      show mx_S X F L 445 37 [(2, .int v2), (0, .ref a0), (1, .int a1)] [.int u10.1] u10.2 0 0 (some (.int r.1), r.2, 0, 0)
      refine sx_ic (v := (-1)) hm dX13_isByClass_37 (by decide) ?_
      rcases mx_if_el hf with ⟨c17, hf⟩ | ⟨c17, hf⟩
      · refine sb_ic_ne hm dX13_isByClass_38 (tgt := 64) rfl (fun _ => ?_) (fun z => absurd c17 z)
        refine sx_ic (v := 0) hm dX13_isByClass_64 (by decide) ?_
        cases hf
        exact sx_ire hm dX13_isByClass_65 rfl (by decide)
      · refine sb_ic_ne hm dX13_isByClass_38 (tgt := 64) rfl (fun z => absurd z c17) (fun _ => ?_)
        refine mx_S.pu (pc2 := 42) (lv2 := [(2, .int v2), (0, .ref a0), (1, .int a1)]) (st2 := [.ref a0]) hm dX13_isByClass_41 rfl ?_
        refine mx_S.pu (pc2 := 43) (lv2 := [(2, .int v2), (0, .ref a0), (1, .int a1)]) (st2 := [.ref a0, .ref a0]) hm dX13_isByClass_42 rfl ?_
        replace hf := mx_sv_el hf; obtain ⟨v11, e_v11, hf⟩ := hf
        refine sx_get hm dX13_isByClass_43 rs_RX13_519 (xgi_el e_v11) ?_
        clear e_v11
        refine mx_S.pu (pc2 := 47) (lv2 := [(2, .int v2), (0, .ref a0), (1, .int a1)]) (st2 := [.ref a0, .int v11, .ref a0]) hm dX13_isByClass_46 rfl ?_
        replace hf := mx_sv_el hf; obtain ⟨v12, e_v12, hf⟩ := hf
        refine sx_get hm dX13_isByClass_47 rs_RX13_31 (xgr_el e_v12) ?_
        clear e_v12
        refine mx_S.pu (pc2 := 51) (lv2 := [(2, .int v2), (0, .ref a0), (1, .int a1)]) (st2 := [.int v2, .ref v12, .int v11, .ref a0]) hm dX13_isByClass_50 rfl ?_
        replace hf := mx_sv_el hf; obtain ⟨v13, e_v13, hf⟩ := hf
        refine sx_ald hm dX13_isByClass_51 e_v13 ?_
        clear e_v13
        refine sx_ic (v := 0) hm dX13_isByClass_52 (by decide) ?_
        replace hf := mx_gd_el hf; obtain ⟨c14, hf⟩ := hf
        replace hf := mx_sv_el hf; obtain ⟨u15, e_u15, hf⟩ := hf
        refine sx_cv hm dX13_isByClass_53 rs_RX13_507 mt_X13_memberOf [.int v11, .int v13, .int 0] [] (b := a0) (ci := 13) rfl rfl rfl c14 (Nat.le_of_ble_eq_true rfl) (Nat.le_of_ble_eq_true rfl) (by omega) (by omega) (f_X13_memberOf_ok X (by omega) (by omega) nn a0 v11 v13 0 u10.2 e_u15) ?_
        clear e_u15
        show mx_S X F L 445 56 [(2, .int v2), (0, .ref a0), (1, .int a1)] [.int u15.1] u15.2 0 0 (some (.int r.1), r.2, 0, 0)
        refine sx_ic (v := (-1)) hm dX13_isByClass_56 (by decide) ?_
        rcases mx_if_el hf with ⟨c16, hf⟩ | ⟨c16, hf⟩
        · refine sb_ic_ne hm dX13_isByClass_57 (tgt := 64) rfl (fun _ => ?_) (fun z => absurd c16 z)
          refine sx_ic (v := 0) hm dX13_isByClass_64 (by decide) ?_
          cases hf
          exact sx_ire hm dX13_isByClass_65 rfl (by decide)
        · refine sb_ic_ne hm dX13_isByClass_57 (tgt := 64) rfl (fun z => absurd z c16) (fun _ => ?_)
          refine sx_ic (v := 1) hm dX13_isByClass_60 (by decide) ?_
          refine mx_S.pu (pc2 := 65) (lv2 := [(2, .int v2), (0, .ref a0), (1, .int a1)]) (st2 := [.int 1]) hm dX13_isByClass_61 rfl ?_
          cases hf
          exact sx_ire hm dX13_isByClass_65 rfl (by decide)
set_option maxHeartbeats 4000000 in
set_option maxRecDepth 20000 in
theorem f_X13_isLed_ok (X : Nat × (Nat → Int32)) {F L : Nat} (hF : 3 ≤ F) (hL : 71 ≤ L) (nn : Nat) (a0 : Nat) (a1 : Int32) (h : mx_H) {r : (Int32 × mx_H)} (hf : f_X13_isLed nn a0 a1 h = some r) : mx_R X F L 437 [.ref a0, .int a1] h (some (.int r.1), r.2, 0, 0) := by
  have hm : mx_mt 437 = some (yX13_isLed, cX13_isLed, 3, (some .boolean)) := mt_X13_isLed
  show mx_S X F L 437 0 [(0, .ref a0), (1, .int a1)] [] h 0 0 (some (.int r.1), r.2, 0, 0)
  unfold f_X13_isLed at hf
  refine mx_S.pu (pc2 := 1) (lv2 := [(0, .ref a0), (1, .int a1)]) (st2 := [.ref a0]) hm dX13_isLed_0 rfl ?_
  replace hf := mx_sv_el hf; obtain ⟨v1, e_v1, hf⟩ := hf
  refine sx_get hm dX13_isLed_1 rs_RX13_28 (xgr_el e_v1) ?_
  clear e_v1
  refine mx_S.pu (pc2 := 5) (lv2 := [(0, .ref a0), (1, .int a1)]) (st2 := [.int a1, .ref v1]) hm dX13_isLed_4 rfl ?_
  replace hf := mx_sv_el hf; obtain ⟨v2, e_v2, hf⟩ := hf
  refine sx_ald hm dX13_isLed_5 e_v2 ?_
  clear e_v2
  refine mx_S.pu (pc2 := 7) (lv2 := [(2, .int v2), (0, .ref a0), (1, .int a1)]) (st2 := []) hm dX13_isLed_6 rfl ?_
  refine mx_S.pu (pc2 := 8) (lv2 := [(2, .int v2), (0, .ref a0), (1, .int a1)]) (st2 := [.int v2]) hm dX13_isLed_7 rfl ?_
  refine sx_bi (v := 37) hm dX13_isLed_8 (by decide) ?_
  rcases mx_if_el hf with ⟨c10, hf⟩ | ⟨c10, hf⟩
  · refine sb_ic_eq hm dX13_isLed_10 (tgt := 45) rfl (fun _ => ?_) (fun z => absurd c10 z)
    refine sx_ic (v := 1) hm dX13_isLed_45 (by decide) ?_
    refine mx_S.pu (pc2 := 50) (lv2 := [(2, .int v2), (0, .ref a0), (1, .int a1)]) (st2 := [.int 1]) hm dX13_isLed_46 rfl ?_
    cases hf
    exact sx_ire hm dX13_isLed_50 rfl (by decide)
  · refine sb_ic_eq hm dX13_isLed_10 (tgt := 45) rfl (fun z => absurd z c10) (fun _ => ?_)
    refine mx_S.pu (pc2 := 14) (lv2 := [(2, .int v2), (0, .ref a0), (1, .int a1)]) (st2 := [.int v2]) hm dX13_isLed_13 rfl ?_
    refine sx_bi (v := 38) hm dX13_isLed_14 (by decide) ?_
    rcases mx_if_el hf with ⟨c9, hf⟩ | ⟨c9, hf⟩
    · refine sb_ic_eq hm dX13_isLed_16 (tgt := 45) rfl (fun _ => ?_) (fun z => absurd c9 z)
      refine sx_ic (v := 1) hm dX13_isLed_45 (by decide) ?_
      refine mx_S.pu (pc2 := 50) (lv2 := [(2, .int v2), (0, .ref a0), (1, .int a1)]) (st2 := [.int 1]) hm dX13_isLed_46 rfl ?_
      cases hf
      exact sx_ire hm dX13_isLed_50 rfl (by decide)
    · refine sb_ic_eq hm dX13_isLed_16 (tgt := 45) rfl (fun z => absurd z c9) (fun _ => ?_)
      refine mx_S.pu (pc2 := 20) (lv2 := [(2, .int v2), (0, .ref a0), (1, .int a1)]) (st2 := [.int v2]) hm dX13_isLed_19 rfl ?_
      refine sx_bi (v := 30) hm dX13_isLed_20 (by decide) ?_
      rcases mx_if_el hf with ⟨c8, hf⟩ | ⟨c8, hf⟩
      · refine sb_ic_eq hm dX13_isLed_22 (tgt := 45) rfl (fun _ => ?_) (fun z => absurd c8 z)
        refine sx_ic (v := 1) hm dX13_isLed_45 (by decide) ?_
        refine mx_S.pu (pc2 := 50) (lv2 := [(2, .int v2), (0, .ref a0), (1, .int a1)]) (st2 := [.int 1]) hm dX13_isLed_46 rfl ?_
        cases hf
        exact sx_ire hm dX13_isLed_50 rfl (by decide)
      · refine sb_ic_eq hm dX13_isLed_22 (tgt := 45) rfl (fun z => absurd z c8) (fun _ => ?_)
        refine mx_S.pu (pc2 := 26) (lv2 := [(2, .int v2), (0, .ref a0), (1, .int a1)]) (st2 := [.int v2]) hm dX13_isLed_25 rfl ?_
        refine sx_bi (v := 32) hm dX13_isLed_26 (by decide) ?_
        rcases mx_if_el hf with ⟨c7, hf⟩ | ⟨c7, hf⟩
        · refine sb_ic_eq hm dX13_isLed_28 (tgt := 45) rfl (fun _ => ?_) (fun z => absurd c7 z)
          refine sx_ic (v := 1) hm dX13_isLed_45 (by decide) ?_
          refine mx_S.pu (pc2 := 50) (lv2 := [(2, .int v2), (0, .ref a0), (1, .int a1)]) (st2 := [.int 1]) hm dX13_isLed_46 rfl ?_
          cases hf
          exact sx_ire hm dX13_isLed_50 rfl (by decide)
        · refine sb_ic_eq hm dX13_isLed_28 (tgt := 45) rfl (fun z => absurd z c7) (fun _ => ?_)
          refine mx_S.pu (pc2 := 32) (lv2 := [(2, .int v2), (0, .ref a0), (1, .int a1)]) (st2 := [.int v2]) hm dX13_isLed_31 rfl ?_
          refine sx_bi (v := 31) hm dX13_isLed_32 (by decide) ?_
          rcases mx_if_el hf with ⟨c6, hf⟩ | ⟨c6, hf⟩
          · refine sb_ic_ne hm dX13_isLed_34 (tgt := 49) rfl (fun _ => ?_) (fun z => absurd c6 z)
            refine sx_ic (v := 0) hm dX13_isLed_49 (by decide) ?_
            cases hf
            exact sx_ire hm dX13_isLed_50 rfl (by decide)
          · refine sb_ic_ne hm dX13_isLed_34 (tgt := 49) rfl (fun z => absurd z c6) (fun _ => ?_)
            refine mx_S.pu (pc2 := 38) (lv2 := [(2, .int v2), (0, .ref a0), (1, .int a1)]) (st2 := [.ref a0]) hm dX13_isLed_37 rfl ?_
            refine mx_S.pu (pc2 := 39) (lv2 := [(2, .int v2), (0, .ref a0), (1, .int a1)]) (st2 := [.int a1, .ref a0]) hm dX13_isLed_38 rfl ?_
            replace hf := mx_gd_el hf; obtain ⟨c3, hf⟩ := hf
            replace hf := mx_sv_el hf; obtain ⟨u4, e_u4, hf⟩ := hf
            refine sx_cv hm dX13_isLed_39 rs_RX13_552 mt_X13_isByClass [.int a1] [] (b := a0) (ci := 13) rfl rfl rfl c3 (Nat.le_of_ble_eq_true rfl) (Nat.le_of_ble_eq_true rfl) (by omega) (by omega) (f_X13_isByClass_ok X (by omega) (by omega) nn a0 a1 h e_u4) ?_
            clear e_u4
            show mx_S X F L 437 42 [(2, .int v2), (0, .ref a0), (1, .int a1)] [.int u4.1] u4.2 0 0 (some (.int r.1), r.2, 0, 0)
            rcases mx_if_el hf with ⟨c5, hf⟩ | ⟨c5, hf⟩
            · refine sb_if_ne hm dX13_isLed_42 (tgt := 49) rfl (fun _ => ?_) (fun z => absurd c5 z)
              refine sx_ic (v := 0) hm dX13_isLed_49 (by decide) ?_
              cases hf
              exact sx_ire hm dX13_isLed_50 rfl (by decide)
            · refine sb_if_ne hm dX13_isLed_42 (tgt := 49) rfl (fun z => absurd z c5) (fun _ => ?_)
              refine sx_ic (v := 1) hm dX13_isLed_45 (by decide) ?_
              refine mx_S.pu (pc2 := 50) (lv2 := [(2, .int v2), (0, .ref a0), (1, .int a1)]) (st2 := [.int 1]) hm dX13_isLed_46 rfl ?_
              cases hf
              exact sx_ire hm dX13_isLed_50 rfl (by decide)
set_option maxHeartbeats 4000000 in
set_option maxRecDepth 20000 in
theorem j_X13_extendsIt_21_ok (X : Nat × (Nat → Int32)) {F L : Nat} (hF : 1 ≤ F) (hL : 21 ≤ L) (nn : Nat) (l2 : Int32) (l3 : Int32) (h : mx_H) {r : (Int32 × mx_H)} (hf : j_X13_extendsIt_21 nn l2 l3 h = some r) : mx_S X F L 419 21 [(2, .int l2), (3, .int l3)] [] h 0 0 (some (.int r.1), r.2, 0, 0) := by
  have hm : mx_mt 419 = some (yX13_extendsIt, cX13_extendsIt, 4, (some .boolean)) := mt_X13_extendsIt
  unfold j_X13_extendsIt_21 at hf
  refine mx_S.pu (pc2 := 22) (lv2 := [(2, .int l2), (3, .int l3)]) (st2 := [.int l3]) hm dX13_extendsIt_21 rfl ?_
  refine mx_S.pu (pc2 := 23) (lv2 := [(2, .int l2), (3, .int l3)]) (st2 := [.int l2, .int l3]) hm dX13_extendsIt_22 rfl ?_
  rcases mx_if_el hf with ⟨c1, hf⟩ | ⟨c1, hf⟩
  · refine sb_ic_ne hm dX13_extendsIt_23 (tgt := 30) rfl (fun _ => ?_) (fun z => absurd c1 z)
    refine sx_ic (v := 0) hm dX13_extendsIt_30 (by decide) ?_
    cases hf
    exact sx_ire hm dX13_extendsIt_31 rfl (by decide)
  · refine sb_ic_ne hm dX13_extendsIt_23 (tgt := 30) rfl (fun z => absurd z c1) (fun _ => ?_)
    refine sx_ic (v := 1) hm dX13_extendsIt_26 (by decide) ?_
    refine mx_S.pu (pc2 := 31) (lv2 := [(2, .int l2), (3, .int l3)]) (st2 := [.int 1]) hm dX13_extendsIt_27 rfl ?_
    cases hf
    exact sx_ire hm dX13_extendsIt_31 rfl (by decide)
set_option maxHeartbeats 4000000 in
set_option maxRecDepth 20000 in
theorem w_X13_extendsIt_2_ok (X : Nat × (Nat → Int32)) {F L : Nat} (hF : 1 ≤ F) (hL : 21 ≤ L) (nn : Nat) : ∀ (k : Nat) (l0 : Nat) (l2 : Int32) (l3 : Int32) (h : mx_H) (r : (Int32 × mx_H)), w_X13_extendsIt_2 nn k l0 l2 l3 h = some r → mx_S X F L 419 2 [(0, .ref l0), (2, .int l2), (3, .int l3)] [] h 0 0 (some (.int r.1), r.2, 0, 0) := by
  have hm : mx_mt 419 = some (yX13_extendsIt, cX13_extendsIt, 4, (some .boolean)) := mt_X13_extendsIt
  intro k
  induction k with
  | zero => intro l0 l2 l3 h r hf; cases hf
  | succ k ih =>
    intro l0 l2 l3 h r hf
    unfold w_X13_extendsIt_2 at hf
    refine mx_S.pu (pc2 := 3) (lv2 := [(0, .ref l0), (2, .int l2), (3, .int l3)]) (st2 := [.int l3]) hm dX13_extendsIt_2 rfl ?_
    refine sx_ic (v := (-1)) hm dX13_extendsIt_3 (by decide) ?_
    rcases mx_if_el hf with ⟨c5, hf⟩ | ⟨c5, hf⟩
    · refine sb_ic_eq hm dX13_extendsIt_4 (tgt := 21) rfl (fun _ => ?_) (fun z => absurd c5 z)
      refine mx_S.ext [(2, .int l2), (3, .int l3)] (mx_sub_pos [1, 2] rfl (show ([0, 2, 3] : List Nat).Nodup by decide)) ?_
      exact j_X13_extendsIt_21_ok X hF hL nn l2 l3 h hf
    · refine sb_ic_eq hm dX13_extendsIt_4 (tgt := 21) rfl (fun z => absurd z c5) (fun _ => ?_)
      refine mx_S.pu (pc2 := 8) (lv2 := [(0, .ref l0), (2, .int l2), (3, .int l3)]) (st2 := [.int l3]) hm dX13_extendsIt_7 rfl ?_
      refine mx_S.pu (pc2 := 9) (lv2 := [(0, .ref l0), (2, .int l2), (3, .int l3)]) (st2 := [.int l2, .int l3]) hm dX13_extendsIt_8 rfl ?_
      rcases mx_if_el hf with ⟨c4, hf⟩ | ⟨c4, hf⟩
      · refine sb_ic_eq hm dX13_extendsIt_9 (tgt := 21) rfl (fun _ => ?_) (fun z => absurd c4 z)
        refine mx_S.ext [(2, .int l2), (3, .int l3)] (mx_sub_pos [1, 2] rfl (show ([0, 2, 3] : List Nat).Nodup by decide)) ?_
        exact j_X13_extendsIt_21_ok X hF hL nn l2 l3 h hf
      · refine sb_ic_eq hm dX13_extendsIt_9 (tgt := 21) rfl (fun z => absurd z c4) (fun _ => ?_)
        refine mx_S.pu (pc2 := 13) (lv2 := [(0, .ref l0), (2, .int l2), (3, .int l3)]) (st2 := [.ref l0]) hm dX13_extendsIt_12 rfl ?_
        refine mx_S.pu (pc2 := 14) (lv2 := [(0, .ref l0), (2, .int l2), (3, .int l3)]) (st2 := [.int l3, .ref l0]) hm dX13_extendsIt_13 rfl ?_
        replace hf := mx_gd_el hf; obtain ⟨c2, hf⟩ := hf
        replace hf := mx_sv_el hf; obtain ⟨u3, e_u3, hf⟩ := hf
        refine sx_cv hm dX13_extendsIt_14 rs_RX13_482 mt_X13_upperOf [.int l3] [] (b := l0) (ci := 13) rfl rfl rfl c2 (Nat.le_of_ble_eq_true rfl) (Nat.le_of_ble_eq_true rfl) (by omega) (by omega) (f_X13_upperOf_ok X (by omega) (by omega) nn l0 l3 h e_u3) ?_
        clear e_u3
        show mx_S X F L 419 17 [(0, .ref l0), (2, .int l2), (3, .int l3)] [.int u3.1] u3.2 0 0 (some (.int r.1), r.2, 0, 0)
        refine mx_S.pu (pc2 := 18) (lv2 := [(3, .int u3.1), (0, .ref l0), (2, .int l2)]) (st2 := []) hm dX13_extendsIt_17 rfl ?_
        refine mx_S.pu (pc2 := 2) (lv2 := [(3, .int u3.1), (0, .ref l0), (2, .int l2)]) (st2 := []) hm dX13_extendsIt_18 rfl ?_
        refine mx_S.ext [(0, .ref l0), (2, .int l2), (3, .int u3.1)] (mx_sub_pos [1, 2, 0] rfl (show ([3, 0, 2] : List Nat).Nodup by decide)) ?_
        exact ih l0 l2 u3.1 u3.2 _ hf
set_option maxHeartbeats 4000000 in
set_option maxRecDepth 20000 in
theorem f_X13_extendsIt_ok (X : Nat × (Nat → Int32)) {F L : Nat} (hF : 1 ≤ F) (hL : 21 ≤ L) (nn : Nat) (a0 : Nat) (a1 : Int32) (a2 : Int32) (h : mx_H) {r : (Int32 × mx_H)} (hf : f_X13_extendsIt nn a0 a1 a2 h = some r) : mx_R X F L 419 [.ref a0, .int a1, .int a2] h (some (.int r.1), r.2, 0, 0) := by
  have hm : mx_mt 419 = some (yX13_extendsIt, cX13_extendsIt, 4, (some .boolean)) := mt_X13_extendsIt
  show mx_S X F L 419 0 [(0, .ref a0), (1, .int a1), (2, .int a2)] [] h 0 0 (some (.int r.1), r.2, 0, 0)
  unfold f_X13_extendsIt at hf
  refine mx_S.pu (pc2 := 1) (lv2 := [(0, .ref a0), (1, .int a1), (2, .int a2)]) (st2 := [.int a1]) hm dX13_extendsIt_0 rfl ?_
  refine mx_S.pu (pc2 := 2) (lv2 := [(3, .int a1), (0, .ref a0), (1, .int a1), (2, .int a2)]) (st2 := []) hm dX13_extendsIt_1 rfl ?_
  refine mx_S.ext [(0, .ref a0), (2, .int a2), (3, .int a1)] (mx_sub_pos [1, 3, 0] rfl (show ([3, 0, 1, 2] : List Nat).Nodup by decide)) ?_
  exact w_X13_extendsIt_2_ok X hF hL nn nn a0 a2 a1 h _ hf
set_option maxHeartbeats 4000000 in
set_option maxRecDepth 20000 in
theorem f_X13_isArray_ok (X : Nat × (Nat → Int32)) {F L : Nat} (hF : 0 ≤ F) (hL : 0 ≤ L) (nn : Nat) (a0 : Int32) (h : mx_H) {r : (Int32 × mx_H)} (hf : f_X13_isArray nn a0 h = some r) : mx_R X F L 420 [.int a0] h (some (.int r.1), r.2, 0, 0) := by
  have hm : mx_mt 420 = some (yX13_isArray, cX13_isArray, 1, (some .boolean)) := mt_X13_isArray
  show mx_S X F L 420 0 [(0, .int a0)] [] h 0 0 (some (.int r.1), r.2, 0, 0)
  unfold f_X13_isArray at hf
  refine mx_S.pu (pc2 := 1) (lv2 := [(0, .int a0)]) (st2 := [.int a0]) hm dX13_isArray_0 rfl ?_
  refine sx_ic (v := 4) hm dX13_isArray_1 (by decide) ?_
  rcases mx_if_el hf with ⟨c4, hf⟩ | ⟨c4, hf⟩
  · refine sb_ic_eq hm dX13_isArray_2 (tgt := 18) rfl (fun _ => ?_) (fun z => absurd c4 z)
    refine sx_ic (v := 1) hm dX13_isArray_18 (by decide) ?_
    refine mx_S.pu (pc2 := 23) (lv2 := [(0, .int a0)]) (st2 := [.int 1]) hm dX13_isArray_19 rfl ?_
    cases hf
    exact sx_ire hm dX13_isArray_23 rfl (by decide)
  · refine sb_ic_eq hm dX13_isArray_2 (tgt := 18) rfl (fun z => absurd z c4) (fun _ => ?_)
    refine mx_S.pu (pc2 := 6) (lv2 := [(0, .int a0)]) (st2 := [.int a0]) hm dX13_isArray_5 rfl ?_
    refine sx_bi (v := 8) hm dX13_isArray_6 (by decide) ?_
    rcases mx_if_el hf with ⟨c3, hf⟩ | ⟨c3, hf⟩
    · refine sb_ic_lt hm dX13_isArray_8 (tgt := 22) rfl (fun _ => ?_) (fun z => absurd c3 z)
      refine sx_ic (v := 0) hm dX13_isArray_22 (by decide) ?_
      cases hf
      exact sx_ire hm dX13_isArray_23 rfl (by decide)
    · refine sb_ic_lt hm dX13_isArray_8 (tgt := 22) rfl (fun z => absurd z c3) (fun _ => ?_)
      refine mx_S.pu (pc2 := 12) (lv2 := [(0, .int a0)]) (st2 := [.int a0]) hm dX13_isArray_11 rfl ?_
      refine sx_ic (v := 2) hm dX13_isArray_12 (by decide) ?_
      replace hf := xl_el hf; obtain ⟨v1, e_v1, hf⟩ := hf
      refine sx_irem (v := v1) hm dX13_isArray_13 (by decide) e_v1 ?_
      clear e_v1
      refine sx_ic (v := 1) hm dX13_isArray_14 (by decide) ?_
      rcases mx_if_el hf with ⟨c2, hf⟩ | ⟨c2, hf⟩
      · refine sb_ic_ne hm dX13_isArray_15 (tgt := 22) rfl (fun _ => ?_) (fun z => absurd c2 z)
        refine sx_ic (v := 0) hm dX13_isArray_22 (by decide) ?_
        cases hf
        exact sx_ire hm dX13_isArray_23 rfl (by decide)
      · refine sb_ic_ne hm dX13_isArray_15 (tgt := 22) rfl (fun z => absurd z c2) (fun _ => ?_)
        refine sx_ic (v := 1) hm dX13_isArray_18 (by decide) ?_
        refine mx_S.pu (pc2 := 23) (lv2 := [(0, .int a0)]) (st2 := [.int 1]) hm dX13_isArray_19 rfl ?_
        cases hf
        exact sx_ire hm dX13_isArray_23 rfl (by decide)
set_option maxHeartbeats 4000000 in
set_option maxRecDepth 20000 in
theorem j_X13_fits_44_ok (X : Nat × (Nat → Int32)) {F L : Nat} (hF : 2 ≤ F) (hL : 44 ≤ L) (nn : Nat) (l0 : Nat) (l1 : Int32) (l2 : Int32) (h : mx_H) {r : (Int32 × mx_H)} (hf : j_X13_fits_44 nn l0 l1 l2 h = some r) : mx_S X F L 422 44 [(0, .ref l0), (1, .int l1), (2, .int l2)] [] h 0 0 (some (.int r.1), r.2, 0, 0) := by
  have hm : mx_mt 422 = some (yX13_fits, cX13_fits, 3, (some .boolean)) := mt_X13_fits
  unfold j_X13_fits_44 at hf
  refine mx_S.pu (pc2 := 45) (lv2 := [(0, .ref l0), (1, .int l1), (2, .int l2)]) (st2 := [.int l1]) hm dX13_fits_44 rfl ?_
  refine sx_bi (v := 8) hm dX13_fits_45 (by decide) ?_
  rcases mx_if_el hf with ⟨c12, hf⟩ | ⟨c12, hf⟩
  · refine sb_ic_lt hm dX13_fits_47 (tgt := 88) rfl (fun _ => ?_) (fun z => absurd c12 z)
    refine sx_ic (v := 0) hm dX13_fits_88 (by decide) ?_
    cases hf
    exact sx_ire hm dX13_fits_89 rfl (by decide)
  · refine sb_ic_lt hm dX13_fits_47 (tgt := 88) rfl (fun z => absurd z c12) (fun _ => ?_)
    refine mx_S.pu (pc2 := 51) (lv2 := [(0, .ref l0), (1, .int l1), (2, .int l2)]) (st2 := [.int l2]) hm dX13_fits_50 rfl ?_
    refine sx_bi (v := 8) hm dX13_fits_51 (by decide) ?_
    rcases mx_if_el hf with ⟨c11, hf⟩ | ⟨c11, hf⟩
    · refine sb_ic_lt hm dX13_fits_53 (tgt := 88) rfl (fun _ => ?_) (fun z => absurd c11 z)
      refine sx_ic (v := 0) hm dX13_fits_88 (by decide) ?_
      cases hf
      exact sx_ire hm dX13_fits_89 rfl (by decide)
    · refine sb_ic_lt hm dX13_fits_53 (tgt := 88) rfl (fun z => absurd z c11) (fun _ => ?_)
      refine mx_S.pu (pc2 := 57) (lv2 := [(0, .ref l0), (1, .int l1), (2, .int l2)]) (st2 := [.int l1]) hm dX13_fits_56 rfl ?_
      refine sx_ic (v := 2) hm dX13_fits_57 (by decide) ?_
      replace hf := xl_el hf; obtain ⟨v1, e_v1, hf⟩ := hf
      refine sx_irem (v := v1) hm dX13_fits_58 (by decide) e_v1 ?_
      clear e_v1
      refine mx_S.pu (pc2 := 60) (lv2 := [(0, .ref l0), (1, .int l1), (2, .int l2)]) (st2 := [.int l2, .int v1]) hm dX13_fits_59 rfl ?_
      refine sx_ic (v := 2) hm dX13_fits_60 (by decide) ?_
      replace hf := xl_el hf; obtain ⟨v2, e_v2, hf⟩ := hf
      refine sx_irem (v := v2) hm dX13_fits_61 (by decide) e_v2 ?_
      clear e_v2
      rcases mx_if_el hf with ⟨c10, hf⟩ | ⟨c10, hf⟩
      · refine sb_ic_ne hm dX13_fits_62 (tgt := 88) rfl (fun _ => ?_) (fun z => absurd c10 z)
        refine sx_ic (v := 0) hm dX13_fits_88 (by decide) ?_
        cases hf
        exact sx_ire hm dX13_fits_89 rfl (by decide)
      · refine sb_ic_ne hm dX13_fits_62 (tgt := 88) rfl (fun z => absurd z c10) (fun _ => ?_)
        refine mx_S.pu (pc2 := 66) (lv2 := [(0, .ref l0), (1, .int l1), (2, .int l2)]) (st2 := [.ref l0]) hm dX13_fits_65 rfl ?_
        refine mx_S.pu (pc2 := 67) (lv2 := [(0, .ref l0), (1, .int l1), (2, .int l2)]) (st2 := [.int l1, .ref l0]) hm dX13_fits_66 rfl ?_
        refine sx_bi (v := 8) hm dX13_fits_67 (by decide) ?_
        replace hf := xl_el hf; obtain ⟨v3, e_v3, hf⟩ := hf
        refine mx_S.pu (pc2 := 70) (lv2 := [(0, .ref l0), (1, .int l1), (2, .int l2)]) (st2 := [.int v3, .ref l0]) hm dX13_fits_69 (by rw [← e_v3]; rfl) ?_
        clear e_v3
        refine sx_ic (v := 2) hm dX13_fits_70 (by decide) ?_
        replace hf := xl_el hf; obtain ⟨v4, e_v4, hf⟩ := hf
        refine sx_idiv (v := v4) hm dX13_fits_71 (by decide) e_v4 ?_
        clear e_v4
        refine mx_S.pu (pc2 := 73) (lv2 := [(0, .ref l0), (1, .int l1), (2, .int l2)]) (st2 := [.int l2, .int v4, .ref l0]) hm dX13_fits_72 rfl ?_
        refine sx_bi (v := 8) hm dX13_fits_73 (by decide) ?_
        replace hf := xl_el hf; obtain ⟨v5, e_v5, hf⟩ := hf
        refine mx_S.pu (pc2 := 76) (lv2 := [(0, .ref l0), (1, .int l1), (2, .int l2)]) (st2 := [.int v5, .int v4, .ref l0]) hm dX13_fits_75 (by rw [← e_v5]; rfl) ?_
        clear e_v5
        refine sx_ic (v := 2) hm dX13_fits_76 (by decide) ?_
        replace hf := xl_el hf; obtain ⟨v6, e_v6, hf⟩ := hf
        refine sx_idiv (v := v6) hm dX13_fits_77 (by decide) e_v6 ?_
        clear e_v6
        replace hf := mx_gd_el hf; obtain ⟨c7, hf⟩ := hf
        replace hf := mx_sv_el hf; obtain ⟨u8, e_u8, hf⟩ := hf
        refine sx_cv hm dX13_fits_78 rs_RX13_488 mt_X13_extendsIt [.int v4, .int v6] [] (b := l0) (ci := 13) rfl rfl rfl c7 (Nat.le_of_ble_eq_true rfl) (Nat.le_of_ble_eq_true rfl) (by omega) (by omega) (f_X13_extendsIt_ok X (by omega) (by omega) nn l0 v4 v6 h e_u8) ?_
        clear e_u8
        show mx_S X F L 422 81 [(0, .ref l0), (1, .int l1), (2, .int l2)] [.int u8.1] u8.2 0 0 (some (.int r.1), r.2, 0, 0)
        rcases mx_if_el hf with ⟨c9, hf⟩ | ⟨c9, hf⟩
        · refine sb_if_eq hm dX13_fits_81 (tgt := 88) rfl (fun _ => ?_) (fun z => absurd c9 z)
          refine sx_ic (v := 0) hm dX13_fits_88 (by decide) ?_
          cases hf
          exact sx_ire hm dX13_fits_89 rfl (by decide)
        · refine sb_if_eq hm dX13_fits_81 (tgt := 88) rfl (fun z => absurd z c9) (fun _ => ?_)
          refine sx_ic (v := 1) hm dX13_fits_84 (by decide) ?_
          refine mx_S.pu (pc2 := 89) (lv2 := [(0, .ref l0), (1, .int l1), (2, .int l2)]) (st2 := [.int 1]) hm dX13_fits_85 rfl ?_
          cases hf
          exact sx_ire hm dX13_fits_89 rfl (by decide)
set_option maxHeartbeats 4000000 in
set_option maxRecDepth 20000 in
theorem f_X13_fits_ok (X : Nat × (Nat → Int32)) {F L : Nat} (hF : 2 ≤ F) (hL : 44 ≤ L) (nn : Nat) (a0 : Nat) (a1 : Int32) (a2 : Int32) (h : mx_H) {r : (Int32 × mx_H)} (hf : f_X13_fits nn a0 a1 a2 h = some r) : mx_R X F L 422 [.ref a0, .int a1, .int a2] h (some (.int r.1), r.2, 0, 0) := by
  have hm : mx_mt 422 = some (yX13_fits, cX13_fits, 3, (some .boolean)) := mt_X13_fits
  show mx_S X F L 422 0 [(0, .ref a0), (1, .int a1), (2, .int a2)] [] h 0 0 (some (.int r.1), r.2, 0, 0)
  unfold f_X13_fits at hf
  refine mx_S.pu (pc2 := 1) (lv2 := [(0, .ref a0), (1, .int a1), (2, .int a2)]) (st2 := [.int a1]) hm dX13_fits_0 rfl ?_
  refine mx_S.pu (pc2 := 2) (lv2 := [(0, .ref a0), (1, .int a1), (2, .int a2)]) (st2 := [.int a2, .int a1]) hm dX13_fits_1 rfl ?_
  rcases mx_if_el hf with ⟨c19, hf⟩ | ⟨c19, hf⟩
  · refine sb_ic_ne hm dX13_fits_2 (tgt := 7) rfl (fun _ => ?_) (fun z => absurd c19 z)
    refine mx_S.pu (pc2 := 8) (lv2 := [(0, .ref a0), (1, .int a1), (2, .int a2)]) (st2 := [.int a1]) hm dX13_fits_7 rfl ?_
    refine sx_ic (v := 2) hm dX13_fits_8 (by decide) ?_
    rcases mx_if_el hf with ⟨c18, hf⟩ | ⟨c18, hf⟩
    · refine sb_ic_ne hm dX13_fits_9 (tgt := 29) rfl (fun _ => ?_) (fun z => absurd c18 z)
      refine mx_S.pu (pc2 := 30) (lv2 := [(0, .ref a0), (1, .int a1), (2, .int a2)]) (st2 := [.int a1]) hm dX13_fits_29 rfl ?_
      replace hf := mx_sv_el hf; obtain ⟨u13, e_u13, hf⟩ := hf
      refine sx_cs hm dX13_fits_30 rs_RX13_485 mt_X13_isArray [.int a1] [] rfl rfl (Nat.le_of_ble_eq_true rfl) (Nat.le_of_ble_eq_true rfl) (by omega) (by omega) (f_X13_isArray_ok X (by omega) (by omega) nn a1 h e_u13) ?_
      clear e_u13
      show mx_S X F L 422 33 [(0, .ref a0), (1, .int a1), (2, .int a2)] [.int u13.1] u13.2 0 0 (some (.int r.1), r.2, 0, 0)
      rcases mx_if_el hf with ⟨c15, hf⟩ | ⟨c15, hf⟩
      · refine sb_if_eq hm dX13_fits_33 (tgt := 44) rfl (fun _ => ?_) (fun z => absurd c15 z)
        exact j_X13_fits_44_ok X hF hL nn a0 a1 a2 u13.2 hf
      · refine sb_if_eq hm dX13_fits_33 (tgt := 44) rfl (fun z => absurd z c15) (fun _ => ?_)
        refine mx_S.pu (pc2 := 37) (lv2 := [(0, .ref a0), (1, .int a1), (2, .int a2)]) (st2 := [.int a2]) hm dX13_fits_36 rfl ?_
        refine sx_bi (v := 8) hm dX13_fits_37 (by decide) ?_
        rcases mx_if_el hf with ⟨c14, hf⟩ | ⟨c14, hf⟩
        · refine sb_ic_ne hm dX13_fits_39 (tgt := 44) rfl (fun _ => ?_) (fun z => absurd c14 z)
          exact j_X13_fits_44_ok X hF hL nn a0 a1 a2 u13.2 hf
        · refine sb_ic_ne hm dX13_fits_39 (tgt := 44) rfl (fun z => absurd z c14) (fun _ => ?_)
          refine sx_ic (v := 1) hm dX13_fits_42 (by decide) ?_
          cases hf
          exact sx_ire hm dX13_fits_43 rfl (by decide)
    · refine sb_ic_ne hm dX13_fits_9 (tgt := 29) rfl (fun z => absurd z c18) (fun _ => ?_)
      refine mx_S.pu (pc2 := 13) (lv2 := [(0, .ref a0), (1, .int a1), (2, .int a2)]) (st2 := [.int a2]) hm dX13_fits_12 rfl ?_
      refine sx_ic (v := 4) hm dX13_fits_13 (by decide) ?_
      rcases mx_if_el hf with ⟨c17, hf⟩ | ⟨c17, hf⟩
      · refine sb_ic_eq hm dX13_fits_14 (tgt := 23) rfl (fun _ => ?_) (fun z => absurd c17 z)
        refine sx_ic (v := 1) hm dX13_fits_23 (by decide) ?_
        refine mx_S.pu (pc2 := 28) (lv2 := [(0, .ref a0), (1, .int a1), (2, .int a2)]) (st2 := [.int 1]) hm dX13_fits_24 rfl ?_
        cases hf
        exact sx_ire hm dX13_fits_28 rfl (by decide)
      · refine sb_ic_eq hm dX13_fits_14 (tgt := 23) rfl (fun z => absurd z c17) (fun _ => ?_)
        refine mx_S.pu (pc2 := 18) (lv2 := [(0, .ref a0), (1, .int a1), (2, .int a2)]) (st2 := [.int a2]) hm dX13_fits_17 rfl ?_
        refine sx_bi (v := 8) hm dX13_fits_18 (by decide) ?_
        rcases mx_if_el hf with ⟨c16, hf⟩ | ⟨c16, hf⟩
        · refine sb_ic_lt hm dX13_fits_20 (tgt := 27) rfl (fun _ => ?_) (fun z => absurd c16 z)
          refine sx_ic (v := 0) hm dX13_fits_27 (by decide) ?_
          cases hf
          exact sx_ire hm dX13_fits_28 rfl (by decide)
        · refine sb_ic_lt hm dX13_fits_20 (tgt := 27) rfl (fun z => absurd z c16) (fun _ => ?_)
          refine sx_ic (v := 1) hm dX13_fits_23 (by decide) ?_
          refine mx_S.pu (pc2 := 28) (lv2 := [(0, .ref a0), (1, .int a1), (2, .int a2)]) (st2 := [.int 1]) hm dX13_fits_24 rfl ?_
          cases hf
          exact sx_ire hm dX13_fits_28 rfl (by decide)
  · refine sb_ic_ne hm dX13_fits_2 (tgt := 7) rfl (fun z => absurd z c19) (fun _ => ?_)
    refine sx_ic (v := 1) hm dX13_fits_5 (by decide) ?_
    cases hf
    exact sx_ire hm dX13_fits_6 rfl (by decide)
set_option maxHeartbeats 4000000 in
set_option maxRecDepth 20000 in
theorem j_X13_goTogether_10_ok (X : Nat × (Nat → Int32)) {F L : Nat} (hF : 3 ≤ F) (hL : 66 ≤ L) (nn : Nat) (l1 : Int32) (l2 : Int32) (h : mx_H) {r : (Int32 × mx_H)} (hf : j_X13_goTogether_10 nn l1 l2 h = some r) : mx_S X F L 423 10 [(1, .int l1), (2, .int l2)] [] h 0 0 (some (.int r.1), r.2, 0, 0) := by
  have hm : mx_mt 423 = some (yX13_goTogether, cX13_goTogether, 3, (some .boolean)) := mt_X13_goTogether
  unfold j_X13_goTogether_10 at hf
  refine mx_S.pu (pc2 := 11) (lv2 := [(1, .int l1), (2, .int l2)]) (st2 := [.int l1]) hm dX13_goTogether_10 rfl ?_
  refine mx_S.pu (pc2 := 12) (lv2 := [(1, .int l1), (2, .int l2)]) (st2 := [.int l2, .int l1]) hm dX13_goTogether_11 rfl ?_
  rcases mx_if_el hf with ⟨c1, hf⟩ | ⟨c1, hf⟩
  · refine sb_ic_ne hm dX13_goTogether_12 (tgt := 19) rfl (fun _ => ?_) (fun z => absurd c1 z)
    refine sx_ic (v := 0) hm dX13_goTogether_19 (by decide) ?_
    cases hf
    exact sx_ire hm dX13_goTogether_20 rfl (by decide)
  · refine sb_ic_ne hm dX13_goTogether_12 (tgt := 19) rfl (fun z => absurd z c1) (fun _ => ?_)
    refine sx_ic (v := 1) hm dX13_goTogether_15 (by decide) ?_
    refine mx_S.pu (pc2 := 20) (lv2 := [(1, .int l1), (2, .int l2)]) (st2 := [.int 1]) hm dX13_goTogether_16 rfl ?_
    cases hf
    exact sx_ire hm dX13_goTogether_20 rfl (by decide)
set_option maxHeartbeats 4000000 in
set_option maxRecDepth 20000 in
theorem f_X13_goTogether_ok (X : Nat × (Nat → Int32)) {F L : Nat} (hF : 3 ≤ F) (hL : 66 ≤ L) (nn : Nat) (a0 : Nat) (a1 : Int32) (a2 : Int32) (h : mx_H) {r : (Int32 × mx_H)} (hf : f_X13_goTogether nn a0 a1 a2 h = some r) : mx_R X F L 423 [.ref a0, .int a1, .int a2] h (some (.int r.1), r.2, 0, 0) := by
  have hm : mx_mt 423 = some (yX13_goTogether, cX13_goTogether, 3, (some .boolean)) := mt_X13_goTogether
  show mx_S X F L 423 0 [(0, .ref a0), (1, .int a1), (2, .int a2)] [] h 0 0 (some (.int r.1), r.2, 0, 0)
  unfold f_X13_goTogether at hf
  refine mx_S.pu (pc2 := 1) (lv2 := [(0, .ref a0), (1, .int a1), (2, .int a2)]) (st2 := [.int a1]) hm dX13_goTogether_0 rfl ?_
  refine sx_ic (v := 2) hm dX13_goTogether_1 (by decide) ?_
  rcases mx_if_el hf with ⟨c9, hf⟩ | ⟨c9, hf⟩
  · refine sb_ic_lt hm dX13_goTogether_2 (tgt := 10) rfl (fun _ => ?_) (fun z => absurd c9 z)
    refine mx_S.ext [(1, .int a1), (2, .int a2)] (mx_sub_pos [1, 2] rfl (show ([0, 1, 2] : List Nat).Nodup by decide)) ?_
    exact j_X13_goTogether_10_ok X hF hL nn a1 a2 h hf
  · refine sb_ic_lt hm dX13_goTogether_2 (tgt := 10) rfl (fun z => absurd z c9) (fun _ => ?_)
    refine mx_S.pu (pc2 := 6) (lv2 := [(0, .ref a0), (1, .int a1), (2, .int a2)]) (st2 := [.int a2]) hm dX13_goTogether_5 rfl ?_
    refine sx_ic (v := 2) hm dX13_goTogether_6 (by decide) ?_
    rcases mx_if_el hf with ⟨c8, hf⟩ | ⟨c8, hf⟩
    · refine sb_ic_ge hm dX13_goTogether_7 (tgt := 21) rfl (fun _ => ?_) (fun z => absurd c8 z)
      refine mx_S.pu (pc2 := 22) (lv2 := [(0, .ref a0), (1, .int a1), (2, .int a2)]) (st2 := [.ref a0]) hm dX13_goTogether_21 rfl ?_
      refine mx_S.pu (pc2 := 23) (lv2 := [(0, .ref a0), (1, .int a1), (2, .int a2)]) (st2 := [.int a1, .ref a0]) hm dX13_goTogether_22 rfl ?_
      refine mx_S.pu (pc2 := 24) (lv2 := [(0, .ref a0), (1, .int a1), (2, .int a2)]) (st2 := [.int a2, .int a1, .ref a0]) hm dX13_goTogether_23 rfl ?_
      replace hf := mx_gd_el hf; obtain ⟨c2, hf⟩ := hf
      replace hf := mx_sv_el hf; obtain ⟨u3, e_u3, hf⟩ := hf
      refine sx_cv hm dX13_goTogether_24 rs_RX13_491 mt_X13_fits [.int a1, .int a2] [] (b := a0) (ci := 13) rfl rfl rfl c2 (Nat.le_of_ble_eq_true rfl) (Nat.le_of_ble_eq_true rfl) (by omega) (by omega) (f_X13_fits_ok X (by omega) (by omega) nn a0 a1 a2 h e_u3) ?_
      clear e_u3
      show mx_S X F L 423 27 [(0, .ref a0), (1, .int a1), (2, .int a2)] [.int u3.1] u3.2 0 0 (some (.int r.1), r.2, 0, 0)
      rcases mx_if_el hf with ⟨c7, hf⟩ | ⟨c7, hf⟩
      · refine sb_if_ne hm dX13_goTogether_27 (tgt := 39) rfl (fun _ => ?_) (fun z => absurd c7 z)
        refine sx_ic (v := 1) hm dX13_goTogether_39 (by decide) ?_
        refine mx_S.pu (pc2 := 44) (lv2 := [(0, .ref a0), (1, .int a1), (2, .int a2)]) (st2 := [.int 1]) hm dX13_goTogether_40 rfl ?_
        cases hf
        exact sx_ire hm dX13_goTogether_44 rfl (by decide)
      · refine sb_if_ne hm dX13_goTogether_27 (tgt := 39) rfl (fun z => absurd z c7) (fun _ => ?_)
        refine mx_S.pu (pc2 := 31) (lv2 := [(0, .ref a0), (1, .int a1), (2, .int a2)]) (st2 := [.ref a0]) hm dX13_goTogether_30 rfl ?_
        refine mx_S.pu (pc2 := 32) (lv2 := [(0, .ref a0), (1, .int a1), (2, .int a2)]) (st2 := [.int a2, .ref a0]) hm dX13_goTogether_31 rfl ?_
        refine mx_S.pu (pc2 := 33) (lv2 := [(0, .ref a0), (1, .int a1), (2, .int a2)]) (st2 := [.int a1, .int a2, .ref a0]) hm dX13_goTogether_32 rfl ?_
        replace hf := mx_gd_el hf; obtain ⟨c4, hf⟩ := hf
        replace hf := mx_sv_el hf; obtain ⟨u5, e_u5, hf⟩ := hf
        refine sx_cv hm dX13_goTogether_33 rs_RX13_491 mt_X13_fits [.int a2, .int a1] [] (b := a0) (ci := 13) rfl rfl rfl c4 (Nat.le_of_ble_eq_true rfl) (Nat.le_of_ble_eq_true rfl) (by omega) (by omega) (f_X13_fits_ok X (by omega) (by omega) nn a0 a2 a1 u3.2 e_u5) ?_
        clear e_u5
        show mx_S X F L 423 36 [(0, .ref a0), (1, .int a1), (2, .int a2)] [.int u5.1] u5.2 0 0 (some (.int r.1), r.2, 0, 0)
        rcases mx_if_el hf with ⟨c6, hf⟩ | ⟨c6, hf⟩
        · refine sb_if_eq hm dX13_goTogether_36 (tgt := 43) rfl (fun _ => ?_) (fun z => absurd c6 z)
          refine sx_ic (v := 0) hm dX13_goTogether_43 (by decide) ?_
          cases hf
          exact sx_ire hm dX13_goTogether_44 rfl (by decide)
        · refine sb_if_eq hm dX13_goTogether_36 (tgt := 43) rfl (fun z => absurd z c6) (fun _ => ?_)
          refine sx_ic (v := 1) hm dX13_goTogether_39 (by decide) ?_
          refine mx_S.pu (pc2 := 44) (lv2 := [(0, .ref a0), (1, .int a1), (2, .int a2)]) (st2 := [.int 1]) hm dX13_goTogether_40 rfl ?_
          cases hf
          exact sx_ire hm dX13_goTogether_44 rfl (by decide)
    · refine sb_ic_ge hm dX13_goTogether_7 (tgt := 21) rfl (fun z => absurd z c8) (fun _ => ?_)
      refine mx_S.ext [(1, .int a1), (2, .int a2)] (mx_sub_pos [1, 2] rfl (show ([0, 1, 2] : List Nat).Nodup by decide)) ?_
      exact j_X13_goTogether_10_ok X hF hL nn a1 a2 h hf
set_option maxHeartbeats 4000000 in
set_option maxRecDepth 20000 in
theorem f_X13_wrong_ok (X : Nat × (Nat → Int32)) {F L : Nat} (hF : 0 ≤ F) (hL : 0 ≤ L) (nn : Nat) (a0 : Nat) (a1 : Int32) (a2 : Int32) (h : mx_H) {r : mx_H} (hf : f_X13_wrong nn a0 a1 a2 h = some r) : mx_R X F L 383 [.ref a0, .int a1, .int a2] h (none, r, 0, 0) := by
  have hm : mx_mt 383 = some (yX13_wrong, cX13_wrong, 3, none) := mt_X13_wrong
  show mx_S X F L 383 0 [(0, .ref a0), (1, .int a1), (2, .int a2)] [] h 0 0 (none, r, 0, 0)
  unfold f_X13_wrong at hf
  refine mx_S.pu (pc2 := 1) (lv2 := [(0, .ref a0), (1, .int a1), (2, .int a2)]) (st2 := [.ref a0]) hm dX13_wrong_0 rfl ?_
  replace hf := mx_sv_el hf; obtain ⟨v1, e_v1, hf⟩ := hf
  refine sx_get hm dX13_wrong_1 rs_RX13_319 (xgi_el e_v1) ?_
  clear e_v1
  rcases mx_if_el hf with ⟨c6, hf⟩ | ⟨c6, hf⟩
  · refine sb_if_eq hm dX13_wrong_4 (tgt := 8) rfl (fun _ => ?_) (fun z => absurd c6 z)
    refine mx_S.pu (pc2 := 9) (lv2 := [(0, .ref a0), (1, .int a1), (2, .int a2)]) (st2 := [.ref a0]) hm dX13_wrong_8 rfl ?_
    refine mx_S.pu (pc2 := 10) (lv2 := [(0, .ref a0), (1, .int a1), (2, .int a2)]) (st2 := [.int a1, .ref a0]) hm dX13_wrong_9 rfl ?_
    replace hf := mx_sv_el hf; obtain ⟨h2, e_h2, hf⟩ := hf
    refine sx_put hm dX13_wrong_10 rs_RX13_319 ft_13_9 ⟨rfl, rfl⟩ (fun z => by cases z) e_h2 ?_
    clear e_h2
    refine mx_S.pu (pc2 := 14) (lv2 := [(0, .ref a0), (1, .int a1), (2, .int a2)]) (st2 := [.ref a0]) hm dX13_wrong_13 rfl ?_
    refine mx_S.pu (pc2 := 15) (lv2 := [(0, .ref a0), (1, .int a1), (2, .int a2)]) (st2 := [.ref a0, .ref a0]) hm dX13_wrong_14 rfl ?_
    replace hf := mx_sv_el hf; obtain ⟨v3, e_v3, hf⟩ := hf
    refine sx_get hm dX13_wrong_15 rs_RX13_19 (xgr_el e_v3) ?_
    clear e_v3
    refine mx_S.pu (pc2 := 19) (lv2 := [(0, .ref a0), (1, .int a1), (2, .int a2)]) (st2 := [.int a2, .ref v3, .ref a0]) hm dX13_wrong_18 rfl ?_
    replace hf := mx_sv_el hf; obtain ⟨v4, e_v4, hf⟩ := hf
    refine sx_ald hm dX13_wrong_19 e_v4 ?_
    clear e_v4
    replace hf := mx_sv_el hf; obtain ⟨h5, e_h5, hf⟩ := hf
    refine sx_put hm dX13_wrong_20 rs_RX13_322 ft_13_10 ⟨rfl, rfl⟩ (fun z => by cases z) e_h5 ?_
    clear e_h5
    cases hf
    exact sx_ret hm dX13_wrong_23 rfl
  · refine sb_if_eq hm dX13_wrong_4 (tgt := 8) rfl (fun z => absurd z c6) (fun _ => ?_)
    cases hf
    exact sx_ret hm dX13_wrong_7 rfl
set_option maxHeartbeats 4000000 in
set_option maxRecDepth 20000 in
theorem f_X13_led_ok (X : Nat × (Nat → Int32)) {F L : Nat} (hF : 1 ≤ F) (hL : 22 ≤ L) (nn : Nat) (a0 : Nat) (a1 : Int32) (h : mx_H) {r : (Int32 × mx_H)} (hf : f_X13_led nn a0 a1 h = some r) : mx_R X F L 440 [.ref a0, .int a1] h (some (.int r.1), r.2, 0, 0) := by
  have hm : mx_mt 440 = some (yX13_led, cX13_led, 3, (some .int)) := mt_X13_led
  show mx_S X F L 440 0 [(0, .ref a0), (1, .int a1)] [] h 0 0 (some (.int r.1), r.2, 0, 0)
  unfold f_X13_led at hf
  refine mx_S.pu (pc2 := 1) (lv2 := [(0, .ref a0), (1, .int a1)]) (st2 := [.ref a0]) hm dX13_led_0 rfl ?_
  replace hf := mx_sv_el hf; obtain ⟨v1, e_v1, hf⟩ := hf
  refine sx_get hm dX13_led_1 rs_RX13_319 (xgi_el e_v1) ?_
  clear e_v1
  rcases mx_if_el hf with ⟨c13, hf⟩ | ⟨c13, hf⟩
  · refine sb_if_eq hm dX13_led_4 (tgt := 9) rfl (fun _ => ?_) (fun z => absurd c13 z)
    refine mx_S.pu (pc2 := 10) (lv2 := [(0, .ref a0), (1, .int a1)]) (st2 := [.ref a0]) hm dX13_led_9 rfl ?_
    replace hf := mx_sv_el hf; obtain ⟨v2, e_v2, hf⟩ := hf
    refine sx_get hm dX13_led_10 rs_RX13_49 (xgr_el e_v2) ?_
    clear e_v2
    refine mx_S.pu (pc2 := 14) (lv2 := [(0, .ref a0), (1, .int a1)]) (st2 := [.ref a0, .ref v2]) hm dX13_led_13 rfl ?_
    replace hf := mx_sv_el hf; obtain ⟨v3, e_v3, hf⟩ := hf
    refine sx_get hm dX13_led_14 rs_RX13_37 (xgr_el e_v3) ?_
    clear e_v3
    refine mx_S.pu (pc2 := 18) (lv2 := [(0, .ref a0), (1, .int a1)]) (st2 := [.int a1, .ref v3, .ref v2]) hm dX13_led_17 rfl ?_
    replace hf := mx_sv_el hf; obtain ⟨v4, e_v4, hf⟩ := hf
    refine sx_ald hm dX13_led_18 e_v4 ?_
    clear e_v4
    replace hf := mx_sv_el hf; obtain ⟨v5, e_v5, hf⟩ := hf
    refine sx_ald hm dX13_led_19 e_v5 ?_
    clear e_v5
    refine mx_S.pu (pc2 := 21) (lv2 := [(2, .int v5), (0, .ref a0), (1, .int a1)]) (st2 := []) hm dX13_led_20 rfl ?_
    refine mx_S.pu (pc2 := 22) (lv2 := [(2, .int v5), (0, .ref a0), (1, .int a1)]) (st2 := [.int v5]) hm dX13_led_21 rfl ?_
    refine sx_ic (v := 3) hm dX13_led_22 (by decide) ?_
    rcases mx_if_el hf with ⟨c12, hf⟩ | ⟨c12, hf⟩
    · refine sb_ic_ne hm dX13_led_23 (tgt := 43) rfl (fun _ => ?_) (fun z => absurd c12 z)
      refine mx_S.pu (pc2 := 44) (lv2 := [(2, .int v5), (0, .ref a0), (1, .int a1)]) (st2 := [.int v5]) hm dX13_led_43 rfl ?_
      cases hf
      exact sx_ire hm dX13_led_44 rfl rfl
    · refine sb_ic_ne hm dX13_led_23 (tgt := 43) rfl (fun z => absurd z c12) (fun _ => ?_)
      refine mx_S.pu (pc2 := 27) (lv2 := [(2, .int v5), (0, .ref a0), (1, .int a1)]) (st2 := [.ref a0]) hm dX13_led_26 rfl ?_
      refine sx_bi (v := 6) hm dX13_led_27 (by decide) ?_
      refine mx_S.pu (pc2 := 30) (lv2 := [(2, .int v5), (0, .ref a0), (1, .int a1)]) (st2 := [.ref a0, .int 6, .ref a0]) hm dX13_led_29 rfl ?_
      replace hf := mx_sv_el hf; obtain ⟨v6, e_v6, hf⟩ := hf
      refine sx_get hm dX13_led_30 rs_RX13_31 (xgr_el e_v6) ?_
      clear e_v6
      refine mx_S.pu (pc2 := 34) (lv2 := [(2, .int v5), (0, .ref a0), (1, .int a1)]) (st2 := [.ref a0, .ref v6, .int 6, .ref a0]) hm dX13_led_33 rfl ?_
      replace hf := mx_sv_el hf; obtain ⟨v7, e_v7, hf⟩ := hf
      refine sx_get hm dX13_led_34 rs_RX13_37 (xgr_el e_v7) ?_
      clear e_v7
      refine mx_S.pu (pc2 := 38) (lv2 := [(2, .int v5), (0, .ref a0), (1, .int a1)]) (st2 := [.int a1, .ref v7, .ref v6, .int 6, .ref a0]) hm dX13_led_37 rfl ?_
      replace hf := mx_sv_el hf; obtain ⟨v8, e_v8, hf⟩ := hf
      refine sx_ald hm dX13_led_38 e_v8 ?_
      clear e_v8
      replace hf := mx_sv_el hf; obtain ⟨v9, e_v9, hf⟩ := hf
      refine sx_ald hm dX13_led_39 e_v9 ?_
      clear e_v9
      replace hf := mx_gd_el hf; obtain ⟨c10, hf⟩ := hf
      replace hf := mx_sv_el hf; obtain ⟨u11, e_u11, hf⟩ := hf
      refine sx_cv hm dX13_led_40 rs_RX13_379 mt_X13_wrong [.int 6, .int v9] [] (b := a0) (ci := 13) rfl rfl rfl c10 (Nat.le_of_ble_eq_true rfl) (Nat.le_of_ble_eq_true rfl) (by omega) (by omega) (f_X13_wrong_ok X (by omega) (by omega) nn a0 6 v9 h e_u11) ?_
      clear e_u11
      show mx_S X F L 440 43 [(2, .int v5), (0, .ref a0), (1, .int a1)] [] u11 0 0 (some (.int r.1), r.2, 0, 0)
      refine mx_S.pu (pc2 := 44) (lv2 := [(2, .int v5), (0, .ref a0), (1, .int a1)]) (st2 := [.int v5]) hm dX13_led_43 rfl ?_
      cases hf
      exact sx_ire hm dX13_led_44 rfl rfl
  · refine sb_if_eq hm dX13_led_4 (tgt := 9) rfl (fun z => absurd z c13) (fun _ => ?_)
    refine sx_ic (v := 0) hm dX13_led_7 (by decide) ?_
    cases hf
    exact sx_ire hm dX13_led_8 rfl rfl
set_option maxHeartbeats 4000000 in
set_option maxRecDepth 20000 in
theorem f_X13_side_ok (X : Nat × (Nat → Int32)) {F L : Nat} (hF : 1 ≤ F) (hL : 22 ≤ L) (nn : Nat) (a0 : Nat) (a1 : Int32) (a2 : Int32) (h : mx_H) {r : (Int32 × mx_H)} (hf : f_X13_side nn a0 a1 a2 h = some r) : mx_R X F L 439 [.ref a0, .int a1, .int a2] h (some (.int r.1), r.2, 0, 0) := by
  have hm : mx_mt 439 = some (yX13_side, cX13_side, 3, (some .int)) := mt_X13_side
  show mx_S X F L 439 0 [(0, .ref a0), (1, .int a1), (2, .int a2)] [] h 0 0 (some (.int r.1), r.2, 0, 0)
  unfold f_X13_side at hf
  refine mx_S.pu (pc2 := 1) (lv2 := [(0, .ref a0), (1, .int a1), (2, .int a2)]) (st2 := [.int a2]) hm dX13_side_0 rfl ?_
  refine sx_ic (v := 3) hm dX13_side_1 (by decide) ?_
  rcases mx_if_el hf with ⟨c5, hf⟩ | ⟨c5, hf⟩
  · refine sb_ic_ne hm dX13_side_2 (tgt := 17) rfl (fun _ => ?_) (fun z => absurd c5 z)
    refine mx_S.pu (pc2 := 18) (lv2 := [(0, .ref a0), (1, .int a1), (2, .int a2)]) (st2 := [.int a2]) hm dX13_side_17 rfl ?_
    cases hf
    exact sx_ire hm dX13_side_18 rfl rfl
  · refine sb_ic_ne hm dX13_side_2 (tgt := 17) rfl (fun z => absurd z c5) (fun _ => ?_)
    refine mx_S.pu (pc2 := 6) (lv2 := [(0, .ref a0), (1, .int a1), (2, .int a2)]) (st2 := [.ref a0]) hm dX13_side_5 rfl ?_
    refine sx_bi (v := 6) hm dX13_side_6 (by decide) ?_
    refine mx_S.pu (pc2 := 9) (lv2 := [(0, .ref a0), (1, .int a1), (2, .int a2)]) (st2 := [.ref a0, .int 6, .ref a0]) hm dX13_side_8 rfl ?_
    replace hf := mx_sv_el hf; obtain ⟨v1, e_v1, hf⟩ := hf
    refine sx_get hm dX13_side_9 rs_RX13_31 (xgr_el e_v1) ?_
    clear e_v1
    refine mx_S.pu (pc2 := 13) (lv2 := [(0, .ref a0), (1, .int a1), (2, .int a2)]) (st2 := [.int a1, .ref v1, .int 6, .ref a0]) hm dX13_side_12 rfl ?_
    replace hf := mx_sv_el hf; obtain ⟨v2, e_v2, hf⟩ := hf
    refine sx_ald hm dX13_side_13 e_v2 ?_
    clear e_v2
    replace hf := mx_gd_el hf; obtain ⟨c3, hf⟩ := hf
    replace hf := mx_sv_el hf; obtain ⟨u4, e_u4, hf⟩ := hf
    refine sx_cv hm dX13_side_14 rs_RX13_379 mt_X13_wrong [.int 6, .int v2] [] (b := a0) (ci := 13) rfl rfl rfl c3 (Nat.le_of_ble_eq_true rfl) (Nat.le_of_ble_eq_true rfl) (by omega) (by omega) (f_X13_wrong_ok X (by omega) (by omega) nn a0 6 v2 h e_u4) ?_
    clear e_u4
    show mx_S X F L 439 17 [(0, .ref a0), (1, .int a1), (2, .int a2)] [] u4 0 0 (some (.int r.1), r.2, 0, 0)
    refine mx_S.pu (pc2 := 18) (lv2 := [(0, .ref a0), (1, .int a1), (2, .int a2)]) (st2 := [.int a2]) hm dX13_side_17 rfl ?_
    cases hf
    exact sx_ire hm dX13_side_18 rfl rfl
