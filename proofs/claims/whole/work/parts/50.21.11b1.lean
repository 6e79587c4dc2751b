set_option maxHeartbeats 4000000 in
set_option maxRecDepth 20000 in
theorem j_X9_tellHere_44_ok (X : Nat × (Nat → Int32)) {F L : Nat} (hF : 0 ≤ F) (hL : 0 ≤ L) (nn : Nat) (l0 : Nat) (s0 : Int32) (s1 : Nat) (h : mx_H) {r : mx_H} (hf : j_X9_tellHere_44 nn l0 s0 s1 h = some r) : mx_S X F L 246 44 [(0, .ref l0)] [.int s0, .ref s1] h 0 0 (none, r, 0, 0) := by
  have hm : mx_mt 246 = some (yX9_tellHere, cX9_tellHere, 2, none) := mt_X9_tellHere
  unfold j_X9_tellHere_44 at hf
  replace hf := mx_sv_el hf; obtain ⟨h1, e_h1, hf⟩ := hf
  refine sx_put hm dX9_tellHere_44 rs_RX9_80 ft_9_11 ⟨rfl, rfl⟩ (fun z => by cases z) e_h1 ?_
  clear e_h1
  refine mx_S.pu (pc2 := 48) (lv2 := [(0, .ref l0)]) (st2 := [.ref l0]) hm dX9_tellHere_47 rfl ?_
  refine mx_S.pu (pc2 := 49) (lv2 := [(0, .ref l0)]) (st2 := [.ref l0, .ref l0]) hm dX9_tellHere_48 rfl ?_
  replace hf := mx_sv_el hf; obtain ⟨v2, e_v2, hf⟩ := hf
  refine sx_get hm dX9_tellHere_49 rs_RX9_19 (xgr_el e_v2) ?_
  clear e_v2
  refine mx_S.pu (pc2 := 53) (lv2 := [(0, .ref l0)]) (st2 := [.ref l0, .ref v2, .ref l0]) hm dX9_tellHere_52 rfl ?_
  replace hf := mx_sv_el hf; obtain ⟨v3, e_v3, hf⟩ := hf
  refine sx_get hm dX9_tellHere_53 rs_RX9_86 (xgi_el e_v3) ?_
  clear e_v3
  replace hf := mx_sv_el hf; obtain ⟨v4, e_v4, hf⟩ := hf
  refine sx_ald hm dX9_tellHere_56 e_v4 ?_
  clear e_v4
  replace hf := mx_sv_el hf; obtain ⟨h5, e_h5, hf⟩ := hf
  refine sx_put hm dX9_tellHere_57 rs_RX9_41 ft_9_12 ⟨rfl, rfl⟩ (fun z => by cases z) e_h5 ?_
  clear e_h5
  cases hf
  exact sx_ret hm dX9_tellHere_60 rfl
set_option maxHeartbeats 4000000 in
set_option maxRecDepth 20000 in
theorem f_X9_tellHere_ok (X : Nat × (Nat → Int32)) {F L : Nat} (hF : 0 ≤ F) (hL : 0 ≤ L) (nn : Nat) (a0 : Nat) (a1 : Int32) (h : mx_H) {r : mx_H} (hf : f_X9_tellHere nn a0 a1 h = some r) : mx_R X F L 246 [.ref a0, .int a1] h (none, r, 0, 0) := by
  have hm : mx_mt 246 = some (yX9_tellHere, cX9_tellHere, 2, none) := mt_X9_tellHere
  show mx_S X F L 246 0 [(0, .ref a0), (1, .int a1)] [] h 0 0 (none, r, 0, 0)
  unfold f_X9_tellHere at hf
  refine mx_S.pu (pc2 := 1) (lv2 := [(0, .ref a0), (1, .int a1)]) (st2 := [.ref a0]) hm dX9_tellHere_0 rfl ?_
  replace hf := mx_sv_el hf; obtain ⟨v6, e_v6, hf⟩ := hf
  refine sx_get hm dX9_tellHere_1 rs_RX9_80 (xgi_el e_v6) ?_
  clear e_v6
  rcases mx_if_el hf with ⟨c16, hf⟩ | ⟨c16, hf⟩
  · refine sb_if_ne hm dX9_tellHere_4 (tgt := 60) rfl (fun _ => ?_) (fun z => absurd c16 z)
    cases hf
    exact sx_ret hm dX9_tellHere_60 rfl
  · refine sb_if_ne hm dX9_tellHere_4 (tgt := 60) rfl (fun z => absurd z c16) (fun _ => ?_)
    refine mx_S.pu (pc2 := 8) (lv2 := [(0, .ref a0), (1, .int a1)]) (st2 := [.ref a0]) hm dX9_tellHere_7 rfl ?_
    replace hf := mx_sv_el hf; obtain ⟨v7, e_v7, hf⟩ := hf
    refine sx_get hm dX9_tellHere_8 rs_RX9_86 (xgi_el e_v7) ?_
    clear e_v7
    rcases mx_if_el hf with ⟨c15, hf⟩ | ⟨c15, hf⟩
    · refine sb_if_lt hm dX9_tellHere_11 (tgt := 60) rfl (fun _ => ?_) (fun z => absurd c15 z)
      cases hf
      exact sx_ret hm dX9_tellHere_60 rfl
    · refine sb_if_lt hm dX9_tellHere_11 (tgt := 60) rfl (fun z => absurd z c15) (fun _ => ?_)
      refine mx_S.pu (pc2 := 15) (lv2 := [(0, .ref a0), (1, .int a1)]) (st2 := [.ref a0]) hm dX9_tellHere_14 rfl ?_
      replace hf := mx_sv_el hf; obtain ⟨v8, e_v8, hf⟩ := hf
      refine sx_get hm dX9_tellHere_15 rs_RX9_86 (xgi_el e_v8) ?_
      clear e_v8
      refine mx_S.pu (pc2 := 19) (lv2 := [(0, .ref a0), (1, .int a1)]) (st2 := [.ref a0, .int v8]) hm dX9_tellHere_18 rfl ?_
      replace hf := mx_sv_el hf; obtain ⟨v9, e_v9, hf⟩ := hf
      refine sx_get hm dX9_tellHere_19 rs_RX9_83 (xgi_el e_v9) ?_
      clear e_v9
      rcases mx_if_el hf with ⟨c14, hf⟩ | ⟨c14, hf⟩
      · refine sb_ic_ge hm dX9_tellHere_22 (tgt := 60) rfl (fun _ => ?_) (fun z => absurd c14 z)
        cases hf
        exact sx_ret hm dX9_tellHere_60 rfl
      · refine sb_ic_ge hm dX9_tellHere_22 (tgt := 60) rfl (fun z => absurd z c14) (fun _ => ?_)
        refine mx_S.pu (pc2 := 26) (lv2 := [(0, .ref a0), (1, .int a1)]) (st2 := [.ref a0]) hm dX9_tellHere_25 rfl ?_
        refine mx_S.pu (pc2 := 27) (lv2 := [(0, .ref a0), (1, .int a1)]) (st2 := [.ref a0, .ref a0]) hm dX9_tellHere_26 rfl ?_
        replace hf := mx_sv_el hf; obtain ⟨v10, e_v10, hf⟩ := hf
        refine sx_get hm dX9_tellHere_27 rs_RX9_15 (xgr_el e_v10) ?_
        clear e_v10
        refine mx_S.pu (pc2 := 31) (lv2 := [(0, .ref a0), (1, .int a1)]) (st2 := [.ref a0, .ref v10, .ref a0]) hm dX9_tellHere_30 rfl ?_
        replace hf := mx_sv_el hf; obtain ⟨v11, e_v11, hf⟩ := hf
        refine sx_get hm dX9_tellHere_31 rs_RX9_86 (xgi_el e_v11) ?_
        clear e_v11
        replace hf := mx_sv_el hf; obtain ⟨v12, e_v12, hf⟩ := hf
        refine sx_ald hm dX9_tellHere_34 e_v12 ?_
        clear e_v12
        refine sx_ic (v := 1) hm dX9_tellHere_35 (by decide) ?_
        rcases mx_if_el hf with ⟨c13, hf⟩ | ⟨c13, hf⟩
        · refine sb_ic_ne hm dX9_tellHere_36 (tgt := 43) rfl (fun _ => ?_) (fun z => absurd c13 z)
          refine mx_S.pu (pc2 := 44) (lv2 := [(0, .ref a0), (1, .int a1)]) (st2 := [.int a1, .ref a0]) hm dX9_tellHere_43 rfl ?_
          refine mx_S.ext [(0, .ref a0)] (mx_sub_pos [0] rfl (show ([0, 1] : List Nat).Nodup by decide)) ?_
          exact j_X9_tellHere_44_ok X hF hL nn a0 a1 a0 h hf
        · refine sb_ic_ne hm dX9_tellHere_36 (tgt := 43) rfl (fun z => absurd z c13) (fun _ => ?_)
          refine sx_ic (v := 1) hm dX9_tellHere_39 (by decide) ?_
          refine mx_S.pu (pc2 := 44) (lv2 := [(0, .ref a0), (1, .int a1)]) (st2 := [.int 1, .ref a0]) hm dX9_tellHere_40 rfl ?_
          refine mx_S.ext [(0, .ref a0)] (mx_sub_pos [0] rfl (show ([0, 1] : List Nat).Nodup by decide)) ?_
          exact j_X9_tellHere_44_ok X hF hL nn a0 1 a0 h hf
set_option maxHeartbeats 4000000 in
set_option maxRecDepth 20000 in
theorem f_X8_need_ok (X : Nat × (Nat → Int32)) {F L : Nat} (hF : 1 ≤ F) (hL : 21 ≤ L) (nn : Nat) (a0 : Nat) (a1 : Int32) (h : mx_H) {r : mx_H} (hf : f_X8_need nn a0 a1 h = some r) : mx_R X F L 221 [.ref a0, .int a1] h (none, r, 0, 0) := by
  have hm : mx_mt 221 = some (yX8_need, cX8_need, 2, none) := mt_X8_need
  show mx_S X F L 221 0 [(0, .ref a0), (1, .int a1)] [] h 0 0 (none, r, 0, 0)
  unfold f_X8_need at hf
  refine mx_S.pu (pc2 := 1) (lv2 := [(0, .ref a0), (1, .int a1)]) (st2 := [.ref a0]) hm dX8_need_0 rfl ?_
  replace hf := mx_sv_el hf; obtain ⟨v1, e_v1, hf⟩ := hf
  refine sx_get hm dX8_need_1 rs_RX8_7 (xgr_el e_v1) ?_
  clear e_v1
  replace hf := mx_gd_el hf; obtain ⟨c2, hf⟩ := hf
  replace hf := mx_sv_el hf; obtain ⟨u3, e_u3, hf⟩ := hf
  refine sx_cv hm dX8_need_4 rs_RX8_23 mt_X9_kind [] [] (b := v1) (ci := 9) rfl rfl rfl c2 (Nat.le_of_ble_eq_true rfl) (Nat.le_of_ble_eq_true rfl) (by omega) (by omega) (f_X9_kind_ok X (by omega) (by omega) nn v1 h e_u3) ?_
  clear e_u3
  show mx_S X F L 221 7 [(0, .ref a0), (1, .int a1)] [.int u3.1] u3.2 0 0 (none, r, 0, 0)
  refine mx_S.pu (pc2 := 8) (lv2 := [(0, .ref a0), (1, .int a1)]) (st2 := [.int a1, .int u3.1]) hm dX8_need_7 rfl ?_
  rcases mx_if_el hf with ⟨c11, hf⟩ | ⟨c11, hf⟩
  · refine sb_ic_ne hm dX8_need_8 (tgt := 27) rfl (fun _ => ?_) (fun z => absurd c11 z)
    refine mx_S.pu (pc2 := 28) (lv2 := [(0, .ref a0), (1, .int a1)]) (st2 := [.ref a0]) hm dX8_need_27 rfl ?_
    replace hf := mx_sv_el hf; obtain ⟨v4, e_v4, hf⟩ := hf
    refine sx_get hm dX8_need_28 rs_RX8_7 (xgr_el e_v4) ?_
    clear e_v4
    refine sx_ic (v := 2) hm dX8_need_31 (by decide) ?_
    replace hf := mx_gd_el hf; obtain ⟨c5, hf⟩ := hf
    replace hf := mx_sv_el hf; obtain ⟨u6, e_u6, hf⟩ := hf
    refine sx_cv hm dX8_need_32 rs_RX8_33 mt_X9_tellHere [.int 2] [] (b := v4) (ci := 9) rfl rfl rfl c5 (Nat.le_of_ble_eq_true rfl) (Nat.le_of_ble_eq_true rfl) (by omega) (by omega) (f_X9_tellHere_ok X (by omega) (by omega) nn v4 2 u3.2 e_u6) ?_
    clear e_u6
    show mx_S X F L 221 35 [(0, .ref a0), (1, .int a1)] [] u6 0 0 (none, r, 0, 0)
    cases hf
    exact sx_ret hm dX8_need_35 rfl
  · refine sb_ic_ne hm dX8_need_8 (tgt := 27) rfl (fun z => absurd z c11) (fun _ => ?_)
    refine mx_S.pu (pc2 := 12) (lv2 := [(0, .ref a0), (1, .int a1)]) (st2 := [.ref a0]) hm dX8_need_11 rfl ?_
    replace hf := mx_sv_el hf; obtain ⟨v7, e_v7, hf⟩ := hf
    refine sx_get hm dX8_need_12 rs_RX8_7 (xgr_el e_v7) ?_
    clear e_v7
    refine mx_S.pu (pc2 := 16) (lv2 := [(0, .ref a0), (1, .int a1)]) (st2 := [.ref v7, .ref v7]) hm dX8_need_15 rfl ?_
    replace hf := mx_sv_el hf; obtain ⟨v8, e_v8, hf⟩ := hf
    refine sx_get hm dX8_need_16 rs_RX8_30 (xgi_el e_v8) ?_
    clear e_v8
    refine sx_ic (v := 1) hm dX8_need_19 (by decide) ?_
    replace hf := xl_el hf; obtain ⟨v9, e_v9, hf⟩ := hf
    refine mx_S.pu (pc2 := 21) (lv2 := [(0, .ref a0), (1, .int a1)]) (st2 := [.int v9, .ref v7]) hm dX8_need_20 (by rw [← e_v9]; rfl) ?_
    clear e_v9
    replace hf := mx_sv_el hf; obtain ⟨h10, e_h10, hf⟩ := hf
    refine sx_put hm dX8_need_21 rs_RX8_30 ft_9_10 ⟨rfl, rfl⟩ (fun z => by cases z) e_h10 ?_
    clear e_h10
    refine mx_S.pu (pc2 := 35) (lv2 := [(0, .ref a0), (1, .int a1)]) (st2 := []) hm dX8_need_24 rfl ?_
    cases hf
    exact sx_ret hm dX8_need_35 rfl
set_option maxHeartbeats 4000000 in
set_option maxRecDepth 20000 in
theorem f_X8_binaryAhead_ok (X : Nat × (Nat → Int32)) {F L : Nat} (hF : 1 ≤ F) (hL : 20 ≤ L) (nn : Nat) (a0 : Nat) (a1 : Int32) (h : mx_H) {r : (Int32 × mx_H)} (hf : f_X8_binaryAhead nn a0 a1 h = some r) : mx_R X F L 235 [.ref a0, .int a1] h (some (.int r.1), r.2, 0, 0) := by
  have hm : mx_mt 235 = some (yX8_binaryAhead, cX8_binaryAhead, 3, (some .boolean)) := mt_X8_binaryAhead
  show mx_S X F L 235 0 [(0, .ref a0), (1, .int a1)] [] h 0 0 (some (.int r.1), r.2, 0, 0)
  unfold f_X8_binaryAhead at hf
  refine mx_S.pu (pc2 := 1) (lv2 := [(0, .ref a0), (1, .int a1)]) (st2 := [.ref a0]) hm dX8_binaryAhead_0 rfl ?_
  replace hf := mx_sv_el hf; obtain ⟨v1, e_v1, hf⟩ := hf
  refine sx_get hm dX8_binaryAhead_1 rs_RX8_7 (xgr_el e_v1) ?_
  clear e_v1
  replace hf := mx_gd_el hf; obtain ⟨c2, hf⟩ := hf
  replace hf := mx_sv_el hf; obtain ⟨u3, e_u3, hf⟩ := hf
  refine sx_cv hm dX8_binaryAhead_4 rs_RX8_23 mt_X9_kind [] [] (b := v1) (ci := 9) rfl rfl rfl c2 (Nat.le_of_ble_eq_true rfl) (Nat.le_of_ble_eq_true rfl) (by omega) (by omega) (f_X9_kind_ok X (by omega) (by omega) nn v1 h e_u3) ?_
  clear e_u3
  show mx_S X F L 235 7 [(0, .ref a0), (1, .int a1)] [.int u3.1] u3.2 0 0 (some (.int r.1), r.2, 0, 0)
  replace hf := mx_sv_el hf; obtain ⟨u4, e_u4, hf⟩ := hf
  refine sx_cs hm dX8_binaryAhead_7 rs_RX8_93 mt_X9_level [.int u3.1] [] rfl rfl (Nat.le_of_ble_eq_true rfl) (Nat.le_of_ble_eq_true rfl) (by omega) (by omega) (f_X9_level_ok X (by omega) (by omega) nn u3.1 u3.2 e_u4) ?_
  clear e_u4
  show mx_S X F L 235 10 [(0, .ref a0), (1, .int a1)] [.int u4.1] u4.2 0 0 (some (.int r.1), r.2, 0, 0)
  refine mx_S.pu (pc2 := 11) (lv2 := [(2, .int u4.1), (0, .ref a0), (1, .int a1)]) (st2 := []) hm dX8_binaryAhead_10 rfl ?_
  refine mx_S.pu (pc2 := 12) (lv2 := [(2, .int u4.1), (0, .ref a0), (1, .int a1)]) (st2 := [.int u4.1]) hm dX8_binaryAhead_11 rfl ?_
  rcases mx_if_el hf with ⟨c7, hf⟩ | ⟨c7, hf⟩
  · refine sb_if_le hm dX8_binaryAhead_12 (tgt := 29) rfl (fun _ => ?_) (fun z => absurd c7 z)
    refine sx_ic (v := 0) hm dX8_binaryAhead_29 (by decide) ?_
    cases hf
    exact sx_ire hm dX8_binaryAhead_30 rfl (by decide)
  · refine sb_if_le hm dX8_binaryAhead_12 (tgt := 29) rfl (fun z => absurd z c7) (fun _ => ?_)
    refine mx_S.pu (pc2 := 16) (lv2 := [(2, .int u4.1), (0, .ref a0), (1, .int a1)]) (st2 := [.int a1]) hm dX8_binaryAhead_15 rfl ?_
    rcases mx_if_el hf with ⟨c6, hf⟩ | ⟨c6, hf⟩
    · refine sb_if_ne hm dX8_binaryAhead_16 (tgt := 25) rfl (fun _ => ?_) (fun z => absurd c6 z)
      refine sx_ic (v := 1) hm dX8_binaryAhead_25 (by decide) ?_
      refine mx_S.pu (pc2 := 30) (lv2 := [(2, .int u4.1), (0, .ref a0), (1, .int a1)]) (st2 := [.int 1]) hm dX8_binaryAhead_26 rfl ?_
      cases hf
      exact sx_ire hm dX8_binaryAhead_30 rfl (by decide)
    · refine sb_if_ne hm dX8_binaryAhead_16 (tgt := 25) rfl (fun z => absurd z c6) (fun _ => ?_)
      refine mx_S.pu (pc2 := 20) (lv2 := [(2, .int u4.1), (0, .ref a0), (1, .int a1)]) (st2 := [.int u4.1]) hm dX8_binaryAhead_19 rfl ?_
      refine sx_bi (v := 7) hm dX8_binaryAhead_20 (by decide) ?_
      rcases mx_if_el hf with ⟨c5, hf⟩ | ⟨c5, hf⟩
      · refine sb_ic_gt hm dX8_binaryAhead_22 (tgt := 29) rfl (fun _ => ?_) (fun z => absurd c5 z)
        refine sx_ic (v := 0) hm dX8_binaryAhead_29 (by decide) ?_
        cases hf
        exact sx_ire hm dX8_binaryAhead_30 rfl (by decide)
      · refine sb_ic_gt hm dX8_binaryAhead_22 (tgt := 29) rfl (fun z => absurd z c5) (fun _ => ?_)
        refine sx_ic (v := 1) hm dX8_binaryAhead_25 (by decide) ?_
        refine mx_S.pu (pc2 := 30) (lv2 := [(2, .int u4.1), (0, .ref a0), (1, .int a1)]) (st2 := [.int 1]) hm dX8_binaryAhead_26 rfl ?_
        cases hf
        exact sx_ire hm dX8_binaryAhead_30 rfl (by decide)
set_option maxHeartbeats 4000000 in
set_option maxRecDepth 20000 in
theorem j_X8_tooDeep_14_ok (X : Nat × (Nat → Int32)) {F L : Nat} (hF : 1 ≤ F) (hL : 21 ≤ L) (nn : Nat) (l0 : Nat) (h : mx_H) {r : (Int32 × mx_H)} (hf : j_X8_tooDeep_14 nn l0 h = some r) : mx_S X F L 223 14 [(0, .ref l0)] [] h 0 0 (some (.int r.1), r.2, 0, 0) := by
  have hm : mx_mt 223 = some (yX8_tooDeep, cX8_tooDeep, 2, (some .boolean)) := mt_X8_tooDeep
  unfold j_X8_tooDeep_14 at hf
  refine mx_S.pu (pc2 := 15) (lv2 := [(0, .ref l0)]) (st2 := [.ref l0]) hm dX8_tooDeep_14 rfl ?_
  replace hf := mx_sv_el hf; obtain ⟨v1, e_v1, hf⟩ := hf
  refine sx_get hm dX8_tooDeep_15 rs_RX8_7 (xgr_el e_v1) ?_
  clear e_v1
  replace hf := mx_sv_el hf; obtain ⟨v2, e_v2, hf⟩ := hf
  refine sx_get hm dX8_tooDeep_18 rs_RX8_19 (xgi_el e_v2) ?_
  clear e_v2
  rcases mx_if_el hf with ⟨c3, hf⟩ | ⟨c3, hf⟩
  · refine sb_if_eq hm dX8_tooDeep_21 (tgt := 28) rfl (fun _ => ?_) (fun z => absurd c3 z)
    refine sx_ic (v := 0) hm dX8_tooDeep_28 (by decide) ?_
    cases hf
    exact sx_ire hm dX8_tooDeep_29 rfl (by decide)
  · refine sb_if_eq hm dX8_tooDeep_21 (tgt := 28) rfl (fun z => absurd z c3) (fun _ => ?_)
    refine sx_ic (v := 1) hm dX8_tooDeep_24 (by decide) ?_
    refine mx_S.pu (pc2 := 29) (lv2 := [(0, .ref l0)]) (st2 := [.int 1]) hm dX8_tooDeep_25 rfl ?_
    cases hf
    exact sx_ire hm dX8_tooDeep_29 rfl (by decide)
set_option maxHeartbeats 4000000 in
set_option maxRecDepth 20000 in
theorem f_X8_tooDeep_ok (X : Nat × (Nat → Int32)) {F L : Nat} (hF : 1 ≤ F) (hL : 21 ≤ L) (nn : Nat) (a0 : Nat) (a1 : Int32) (h : mx_H) {r : (Int32 × mx_H)} (hf : f_X8_tooDeep nn a0 a1 h = some r) : mx_R X F L 223 [.ref a0, .int a1] h (some (.int r.1), r.2, 0, 0) := by
  have hm : mx_mt 223 = some (yX8_tooDeep, cX8_tooDeep, 2, (some .boolean)) := mt_X8_tooDeep
  show mx_S X F L 223 0 [(0, .ref a0), (1, .int a1)] [] h 0 0 (some (.int r.1), r.2, 0, 0)
  unfold f_X8_tooDeep at hf
  refine mx_S.pu (pc2 := 1) (lv2 := [(0, .ref a0), (1, .int a1)]) (st2 := [.int a1]) hm dX8_tooDeep_0 rfl ?_
  refine sx_bi (v := 40) hm dX8_tooDeep_1 (by decide) ?_
  rcases mx_if_el hf with ⟨c7, hf⟩ | ⟨c7, hf⟩
  · refine sb_ic_lt hm dX8_tooDeep_3 (tgt := 14) rfl (fun _ => ?_) (fun z => absurd c7 z)
    refine mx_S.ext [(0, .ref a0)] (mx_sub_pos [0] rfl (show ([0, 1] : List Nat).Nodup by decide)) ?_
    exact j_X8_tooDeep_14_ok X hF hL nn a0 h hf
  · refine sb_ic_lt hm dX8_tooDeep_3 (tgt := 14) rfl (fun z => absurd z c7) (fun _ => ?_)
    refine mx_S.pu (pc2 := 7) (lv2 := [(0, .ref a0), (1, .int a1)]) (st2 := [.ref a0]) hm dX8_tooDeep_6 rfl ?_
    replace hf := mx_sv_el hf; obtain ⟨v4, e_v4, hf⟩ := hf
    refine sx_get hm dX8_tooDeep_7 rs_RX8_7 (xgr_el e_v4) ?_
    clear e_v4
    refine sx_ic (v := 3) hm dX8_tooDeep_10 (by decide) ?_
    replace hf := mx_gd_el hf; obtain ⟨c5, hf⟩ := hf
    replace hf := mx_sv_el hf; obtain ⟨u6, e_u6, hf⟩ := hf
    refine sx_cv hm dX8_tooDeep_11 rs_RX8_33 mt_X9_tellHere [.int 3] [] (b := v4) (ci := 9) rfl rfl rfl c5 (Nat.le_of_ble_eq_true rfl) (Nat.le_of_ble_eq_true rfl) (by omega) (by omega) (f_X9_tellHere_ok X (by omega) (by omega) nn v4 3 h e_u6) ?_
    clear e_u6
    show mx_S X F L 223 14 [(0, .ref a0), (1, .int a1)] [] u6 0 0 (some (.int r.1), r.2, 0, 0)
    refine mx_S.ext [(0, .ref a0)] (mx_sub_pos [0] rfl (show ([0, 1] : List Nat).Nodup by decide)) ?_
    exact j_X8_tooDeep_14_ok X hF hL nn a0 u6 hf
