set_option maxHeartbeats 4000000 in
set_option maxRecDepth 20000 in
theorem f_X13_stackFits_ok (X : Nat × (Nat → Int32)) {F L : Nat} (hF : 10 ≤ F) (hL : 232 ≤ L) (nn : Nat) (a0 : Nat) (a1 : Int32) (h : mx_H) {r : (Int32 × mx_H)} (hf : f_X13_stackFits nn a0 a1 h = some r) : mx_R X F L 551 [.ref a0, .int a1] h (some (.int r.1), r.2, 0, 0) := by
  have hm : mx_mt 551 = some (yX13_stackFits, cX13_stackFits, 5, (some .boolean)) := mt_X13_stackFits
  show mx_S X F L 551 0 [(0, .ref a0), (1, .int a1)] [] h 0 0 (some (.int r.1), r.2, 0, 0)
  unfold f_X13_stackFits at hf
  refine mx_S.pu (pc2 := 1) (lv2 := [(0, .ref a0), (1, .int a1)]) (st2 := [.ref a0]) hm dX13_stackFits_0 rfl ?_
  refine mx_S.pu (pc2 := 2) (lv2 := [(0, .ref a0), (1, .int a1)]) (st2 := [.int a1, .ref a0]) hm dX13_stackFits_1 rfl ?_
  refine sx_ic (v := 2) hm dX13_stackFits_2 (by decide) ?_
  replace hf := xl_el hf; obtain ⟨v15, e_v15, hf⟩ := hf
  refine mx_S.pu (pc2 := 4) (lv2 := [(0, .ref a0), (1, .int a1)]) (st2 := [.int v15, .ref a0]) hm dX13_stackFits_3 (by rw [← e_v15]; rfl) ?_
  clear e_v15
  replace hf := mx_gd_el hf; obtain ⟨c16, hf⟩ := hf
  replace hf := mx_sv_el hf; obtain ⟨u17, e_u17, hf⟩ := hf
  refine sx_cv hm dX13_stackFits_4 rs_RX13_943 mt_X13_typesEnd [.int v15] [] (b := a0) (ci := 13) rfl rfl rfl c16 (Nat.le_of_ble_eq_true rfl) (Nat.le_of_ble_eq_true rfl) (by omega) (by omega) (f_X13_typesEnd_ok X (by omega) (by omega) nn a0 v15 h e_u17) ?_
  clear e_u17
  show mx_S X F L 551 7 [(0, .ref a0), (1, .int a1)] [.int u17.1] u17.2 0 0 (some (.int r.1), r.2, 0, 0)
  refine mx_S.pu (pc2 := 8) (lv2 := [(2, .int u17.1), (0, .ref a0), (1, .int a1)]) (st2 := []) hm dX13_stackFits_7 rfl ?_
  refine mx_S.pu (pc2 := 9) (lv2 := [(2, .int u17.1), (0, .ref a0), (1, .int a1)]) (st2 := [.ref a0]) hm dX13_stackFits_8 rfl ?_
  refine mx_S.pu (pc2 := 10) (lv2 := [(2, .int u17.1), (0, .ref a0), (1, .int a1)]) (st2 := [.ref a0, .ref a0]) hm dX13_stackFits_9 rfl ?_
  replace hf := mx_sv_el hf; obtain ⟨v18, e_v18, hf⟩ := hf
  refine sx_get hm dX13_stackFits_10 rs_RX13_932 (xgi_el e_v18) ?_
  clear e_v18
  refine mx_S.pu (pc2 := 14) (lv2 := [(2, .int u17.1), (0, .ref a0), (1, .int a1)]) (st2 := [.int u17.1, .int v18, .ref a0]) hm dX13_stackFits_13 rfl ?_
  replace hf := mx_gd_el hf; obtain ⟨c19, hf⟩ := hf
  replace hf := mx_sv_el hf; obtain ⟨u20, e_u20, hf⟩ := hf
  refine sx_cv hm dX13_stackFits_14 rs_RX13_864 mt_X13_byteAt [.int v18, .int u17.1] [] (b := a0) (ci := 13) rfl rfl rfl c19 (Nat.le_of_ble_eq_true rfl) (Nat.le_of_ble_eq_true rfl) (by omega) (by omega) (f_X13_byteAt_ok X (by omega) (by omega) nn a0 v18 u17.1 u17.2 e_u20) ?_
  clear e_u20
  show mx_S X F L 551 17 [(2, .int u17.1), (0, .ref a0), (1, .int a1)] [.int u20.1] u20.2 0 0 (some (.int r.1), r.2, 0, 0)
  refine mx_S.pu (pc2 := 18) (lv2 := [(3, .int u20.1), (2, .int u17.1), (0, .ref a0), (1, .int a1)]) (st2 := []) hm dX13_stackFits_17 rfl ?_
  replace hf := xl_el hf; obtain ⟨v21, e_v21, hf⟩ := hf
  refine mx_S.pu (pc2 := 21) (lv2 := [(2, .int v21), (3, .int u20.1), (0, .ref a0), (1, .int a1)]) (st2 := []) hm dX13_stackFits_18 (by rw [← e_v21]; rfl) ?_
  clear e_v21
  refine mx_S.pu (pc2 := 22) (lv2 := [(2, .int v21), (3, .int u20.1), (0, .ref a0), (1, .int a1)]) (st2 := [.int u20.1]) hm dX13_stackFits_21 rfl ?_
  refine mx_S.pu (pc2 := 23) (lv2 := [(2, .int v21), (3, .int u20.1), (0, .ref a0), (1, .int a1)]) (st2 := [.ref a0, .int u20.1]) hm dX13_stackFits_22 rfl ?_
  replace hf := mx_sv_el hf; obtain ⟨v22, e_v22, hf⟩ := hf
  refine sx_get hm dX13_stackFits_23 rs_RX13_961 (xgi_el e_v22) ?_
  clear e_v22
  rcases mx_if_el hf with ⟨c23, hf⟩ | ⟨c23, hf⟩
  · refine sb_ic_eq hm dX13_stackFits_26 (tgt := 31) rfl (fun _ => ?_) (fun z => absurd c23 z)
    refine sx_ic (v := 0) hm dX13_stackFits_31 (by decide) ?_
    refine mx_S.pu (pc2 := 34) (lv2 := [(4, .int 0), (2, .int v21), (3, .int u20.1), (0, .ref a0), (1, .int a1)]) (st2 := []) hm dX13_stackFits_32 rfl ?_
    refine mx_S.ext [(0, .ref a0), (2, .int v21), (3, .int u20.1), (4, .int 0)] (mx_sub_pos [3, 1, 2, 0] rfl (show ([4, 2, 3, 0, 1] : List Nat).Nodup by decide)) ?_
    exact w_X13_stackFits_34_ok X hF hL nn nn a0 v21 u20.1 0 u20.2 _ hf
  · refine sb_ic_eq hm dX13_stackFits_26 (tgt := 31) rfl (fun z => absurd z c23) (fun _ => ?_)
    refine sx_ic (v := 0) hm dX13_stackFits_29 (by decide) ?_
    cases hf
    exact sx_ire hm dX13_stackFits_30 rfl (by decide)
set_option maxHeartbeats 4000000 in
set_option maxRecDepth 20000 in
theorem f_X13_comesBack_ok (X : Nat × (Nat → Int32)) {F L : Nat} (hF : 0 ≤ F) (hL : 0 ≤ L) (nn : Nat) (a0 : Nat) (a1 : Int32) (h : mx_H) {r : (Int32 × mx_H)} (hf : f_X13_comesBack nn a0 a1 h = some r) : mx_R X F L 562 [.ref a0, .int a1] h (some (.int r.1), r.2, 0, 0) := by
  have hm : mx_mt 562 = some (yX13_comesBack, cX13_comesBack, 2, (some .boolean)) := mt_X13_comesBack
  show mx_S X F L 562 0 [(0, .ref a0), (1, .int a1)] [] h 0 0 (some (.int r.1), r.2, 0, 0)
  unfold f_X13_comesBack at hf
  refine mx_S.pu (pc2 := 1) (lv2 := [(0, .ref a0), (1, .int a1)]) (st2 := [.ref a0]) hm dX13_comesBack_0 rfl ?_
  replace hf := mx_sv_el hf; obtain ⟨v1, e_v1, hf⟩ := hf
  refine sx_get hm dX13_comesBack_1 rs_RX13_961 (xgi_el e_v1) ?_
  clear e_v1
  refine mx_S.pu (pc2 := 5) (lv2 := [(0, .ref a0), (1, .int a1)]) (st2 := [.ref a0, .int v1]) hm dX13_comesBack_4 rfl ?_
  replace hf := mx_sv_el hf; obtain ⟨v2, e_v2, hf⟩ := hf
  refine sx_get hm dX13_comesBack_5 rs_RX13_967 (xgi_el e_v2) ?_
  clear e_v2
  rcases mx_if_el hf with ⟨c9, hf⟩ | ⟨c9, hf⟩
  · refine sb_ic_lt hm dX13_comesBack_8 (tgt := 13) rfl (fun _ => ?_) (fun z => absurd c9 z)
    refine mx_S.pu (pc2 := 14) (lv2 := [(0, .ref a0), (1, .int a1)]) (st2 := [.ref a0]) hm dX13_comesBack_13 rfl ?_
    replace hf := mx_sv_el hf; obtain ⟨v3, e_v3, hf⟩ := hf
    refine sx_get hm dX13_comesBack_14 rs_RX13_273 (xgr_el e_v3) ?_
    clear e_v3
    refine mx_S.pu (pc2 := 18) (lv2 := [(0, .ref a0), (1, .int a1)]) (st2 := [.ref a0, .ref v3]) hm dX13_comesBack_17 rfl ?_
    replace hf := mx_sv_el hf; obtain ⟨v4, e_v4, hf⟩ := hf
    refine sx_get hm dX13_comesBack_18 rs_RX13_961 (xgi_el e_v4) ?_
    clear e_v4
    refine mx_S.pu (pc2 := 22) (lv2 := [(0, .ref a0), (1, .int a1)]) (st2 := [.int a1, .int v4, .ref v3]) hm dX13_comesBack_21 rfl ?_
    replace hf := mx_sv_el hf; obtain ⟨h5, e_h5, hf⟩ := hf
    refine sx_ast hm dX13_comesBack_22 e_h5 ?_
    clear e_h5
    refine mx_S.pu (pc2 := 24) (lv2 := [(0, .ref a0), (1, .int a1)]) (st2 := [.ref a0]) hm dX13_comesBack_23 rfl ?_
    refine mx_S.pu (pc2 := 25) (lv2 := [(0, .ref a0), (1, .int a1)]) (st2 := [.ref a0, .ref a0]) hm dX13_comesBack_24 rfl ?_
    replace hf := mx_sv_el hf; obtain ⟨v6, e_v6, hf⟩ := hf
    refine sx_get hm dX13_comesBack_25 rs_RX13_961 (xgi_el e_v6) ?_
    clear e_v6
    refine sx_ic (v := 1) hm dX13_comesBack_28 (by decide) ?_
    replace hf := xl_el hf; obtain ⟨v7, e_v7, hf⟩ := hf
    refine mx_S.pu (pc2 := 30) (lv2 := [(0, .ref a0), (1, .int a1)]) (st2 := [.int v7, .ref a0]) hm dX13_comesBack_29 (by rw [← e_v7]; rfl) ?_
    clear e_v7
    replace hf := mx_sv_el hf; obtain ⟨h8, e_h8, hf⟩ := hf
    refine sx_put hm dX13_comesBack_30 rs_RX13_961 ft_13_131 ⟨rfl, rfl⟩ (fun z => by cases z) e_h8 ?_
    clear e_h8
    refine sx_ic (v := 1) hm dX13_comesBack_33 (by decide) ?_
    cases hf
    exact sx_ire hm dX13_comesBack_34 rfl (by decide)
  · refine sb_ic_lt hm dX13_comesBack_8 (tgt := 13) rfl (fun z => absurd z c9) (fun _ => ?_)
    refine sx_ic (v := 0) hm dX13_comesBack_11 (by decide) ?_
    cases hf
    exact sx_ire hm dX13_comesBack_12 rfl (by decide)
set_option maxHeartbeats 4000000 in
set_option maxRecDepth 20000 in
theorem f_X13_pull_ok (X : Nat × (Nat → Int32)) {F L : Nat} (hF : 0 ≤ F) (hL : 0 ≤ L) (nn : Nat) (a0 : Nat) (h : mx_H) {r : (Int32 × mx_H)} (hf : f_X13_pull nn a0 h = some r) : mx_R X F L 563 [.ref a0] h (some (.int r.1), r.2, 0, 0) := by
  have hm : mx_mt 563 = some (yX13_pull, cX13_pull, 1, (some .int)) := mt_X13_pull
  show mx_S X F L 563 0 [(0, .ref a0)] [] h 0 0 (some (.int r.1), r.2, 0, 0)
  unfold f_X13_pull at hf
  refine mx_S.pu (pc2 := 1) (lv2 := [(0, .ref a0)]) (st2 := [.ref a0]) hm dX13_pull_0 rfl ?_
  replace hf := mx_sv_el hf; obtain ⟨v1, e_v1, hf⟩ := hf
  refine sx_get hm dX13_pull_1 rs_RX13_961 (xgi_el e_v1) ?_
  clear e_v1
  rcases mx_if_el hf with ⟨c8, hf⟩ | ⟨c8, hf⟩
  · refine sb_if_ne hm dX13_pull_4 (tgt := 9) rfl (fun _ => ?_) (fun z => absurd c8 z)
    refine mx_S.pu (pc2 := 10) (lv2 := [(0, .ref a0)]) (st2 := [.ref a0]) hm dX13_pull_9 rfl ?_
    refine mx_S.pu (pc2 := 11) (lv2 := [(0, .ref a0)]) (st2 := [.ref a0, .ref a0]) hm dX13_pull_10 rfl ?_
    replace hf := mx_sv_el hf; obtain ⟨v2, e_v2, hf⟩ := hf
    refine sx_get hm dX13_pull_11 rs_RX13_961 (xgi_el e_v2) ?_
    clear e_v2
    refine sx_ic (v := 1) hm dX13_pull_14 (by decide) ?_
    replace hf := xl_el hf; obtain ⟨v3, e_v3, hf⟩ := hf
    refine mx_S.pu (pc2 := 16) (lv2 := [(0, .ref a0)]) (st2 := [.int v3, .ref a0]) hm dX13_pull_15 (by rw [← e_v3]; rfl) ?_
    clear e_v3
    replace hf := mx_sv_el hf; obtain ⟨h4, e_h4, hf⟩ := hf
    refine sx_put hm dX13_pull_16 rs_RX13_961 ft_13_131 ⟨rfl, rfl⟩ (fun z => by cases z) e_h4 ?_
    clear e_h4
    refine mx_S.pu (pc2 := 20) (lv2 := [(0, .ref a0)]) (st2 := [.ref a0]) hm dX13_pull_19 rfl ?_
    replace hf := mx_sv_el hf; obtain ⟨v5, e_v5, hf⟩ := hf
    refine sx_get hm dX13_pull_20 rs_RX13_273 (xgr_el e_v5) ?_
    clear e_v5
    refine mx_S.pu (pc2 := 24) (lv2 := [(0, .ref a0)]) (st2 := [.ref a0, .ref v5]) hm dX13_pull_23 rfl ?_
    replace hf := mx_sv_el hf; obtain ⟨v6, e_v6, hf⟩ := hf
    refine sx_get hm dX13_pull_24 rs_RX13_961 (xgi_el e_v6) ?_
    clear e_v6
    replace hf := mx_sv_el hf; obtain ⟨v7, e_v7, hf⟩ := hf
    refine sx_ald hm dX13_pull_27 e_v7 ?_
    clear e_v7
    cases hf
    exact sx_ire hm dX13_pull_28 rfl rfl
  · refine sb_if_ne hm dX13_pull_4 (tgt := 9) rfl (fun z => absurd z c8) (fun _ => ?_)
    refine sx_ic (v := (-1)) hm dX13_pull_7 (by decide) ?_
    cases hf
    exact sx_ire hm dX13_pull_8 rfl rfl
set_option maxHeartbeats 4000000 in
set_option maxRecDepth 20000 in
theorem f_X13_pullFit_ok (X : Nat × (Nat → Int32)) {F L : Nat} (hF : 10 ≤ F) (hL : 229 ≤ L) (nn : Nat) (a0 : Nat) (a1 : Int32) (h : mx_H) {r : (Int32 × mx_H)} (hf : f_X13_pullFit nn a0 a1 h = some r) : mx_R X F L 565 [.ref a0, .int a1] h (some (.int r.1), r.2, 0, 0) := by
  have hm : mx_mt 565 = some (yX13_pullFit, cX13_pullFit, 3, (some .boolean)) := mt_X13_pullFit
  show mx_S X F L 565 0 [(0, .ref a0), (1, .int a1)] [] h 0 0 (some (.int r.1), r.2, 0, 0)
  unfold f_X13_pullFit at hf
  refine mx_S.pu (pc2 := 1) (lv2 := [(0, .ref a0), (1, .int a1)]) (st2 := [.ref a0]) hm dX13_pullFit_0 rfl ?_
  replace hf := mx_gd_el hf; obtain ⟨c1, hf⟩ := hf
  replace hf := mx_sv_el hf; obtain ⟨u2, e_u2, hf⟩ := hf
  refine sx_cv hm dX13_pullFit_1 rs_RX13_1025 mt_X13_pull [] [] (b := a0) (ci := 13) rfl rfl rfl c1 (Nat.le_of_ble_eq_true rfl) (Nat.le_of_ble_eq_true rfl) (by omega) (by omega) (f_X13_pull_ok X (by omega) (by omega) nn a0 h e_u2) ?_
  clear e_u2
  show mx_S X F L 565 4 [(0, .ref a0), (1, .int a1)] [.int u2.1] u2.2 0 0 (some (.int r.1), r.2, 0, 0)
  refine mx_S.pu (pc2 := 5) (lv2 := [(2, .int u2.1), (0, .ref a0), (1, .int a1)]) (st2 := []) hm dX13_pullFit_4 rfl ?_
  refine mx_S.pu (pc2 := 6) (lv2 := [(2, .int u2.1), (0, .ref a0), (1, .int a1)]) (st2 := [.int u2.1]) hm dX13_pullFit_5 rfl ?_
  refine sx_ic (v := (-1)) hm dX13_pullFit_6 (by decide) ?_
  rcases mx_if_el hf with ⟨c6, hf⟩ | ⟨c6, hf⟩
  · refine sb_ic_eq hm dX13_pullFit_7 (tgt := 23) rfl (fun _ => ?_) (fun z => absurd c6 z)
    refine sx_ic (v := 0) hm dX13_pullFit_23 (by decide) ?_
    cases hf
    exact sx_ire hm dX13_pullFit_24 rfl (by decide)
  · refine sb_ic_eq hm dX13_pullFit_7 (tgt := 23) rfl (fun z => absurd z c6) (fun _ => ?_)
    refine mx_S.pu (pc2 := 11) (lv2 := [(2, .int u2.1), (0, .ref a0), (1, .int a1)]) (st2 := [.ref a0]) hm dX13_pullFit_10 rfl ?_
    refine mx_S.pu (pc2 := 12) (lv2 := [(2, .int u2.1), (0, .ref a0), (1, .int a1)]) (st2 := [.int u2.1, .ref a0]) hm dX13_pullFit_11 rfl ?_
    refine mx_S.pu (pc2 := 13) (lv2 := [(2, .int u2.1), (0, .ref a0), (1, .int a1)]) (st2 := [.int a1, .int u2.1, .ref a0]) hm dX13_pullFit_12 rfl ?_
    replace hf := mx_gd_el hf; obtain ⟨c3, hf⟩ := hf
    replace hf := mx_sv_el hf; obtain ⟨u4, e_u4, hf⟩ := hf
    refine sx_cv hm dX13_pullFit_13 rs_RX13_958 mt_X13_goes [.int u2.1, .int a1] [] (b := a0) (ci := 13) rfl rfl rfl c3 (Nat.le_of_ble_eq_true rfl) (Nat.le_of_ble_eq_true rfl) (by omega) (by omega) (f_X13_goes_ok X (by omega) (by omega) nn a0 u2.1 a1 u2.2 e_u4) ?_
    clear e_u4
    show mx_S X F L 565 16 [(2, .int u2.1), (0, .ref a0), (1, .int a1)] [.int u4.1] u4.2 0 0 (some (.int r.1), r.2, 0, 0)
    rcases mx_if_el hf with ⟨c5, hf⟩ | ⟨c5, hf⟩
    · refine sb_if_eq hm dX13_pullFit_16 (tgt := 23) rfl (fun _ => ?_) (fun z => absurd c5 z)
      refine sx_ic (v := 0) hm dX13_pullFit_23 (by decide) ?_
      cases hf
      exact sx_ire hm dX13_pullFit_24 rfl (by decide)
    · refine sb_if_eq hm dX13_pullFit_16 (tgt := 23) rfl (fun z => absurd z c5) (fun _ => ?_)
      refine sx_ic (v := 1) hm dX13_pullFit_19 (by decide) ?_
      refine mx_S.pu (pc2 := 24) (lv2 := [(2, .int u2.1), (0, .ref a0), (1, .int a1)]) (st2 := [.int 1]) hm dX13_pullFit_20 rfl ?_
      cases hf
      exact sx_ire hm dX13_pullFit_24 rfl (by decide)
