set_option maxHeartbeats 4000000 in
set_option maxRecDepth 20000 in
theorem j_X13_run_39_ok (X : Nat × (Nat → Int32)) {F L : Nat} (hF : 14 ≤ F) (hL : 334 ≤ L) (nn : Nat) (l0 : Nat) (l2 : Int32) (h : mx_H) {r : (Int32 × mx_H)} (hf : j_X13_run_39 nn l0 l2 h = some r) : mx_S X F L 578 39 [(0, .ref l0), (2, .int l2)] [] h 0 0 (some (.int r.1), r.2, 0, 0) := by
  have hm : mx_mt 578 = some (yX13_run, cX13_run, 3, (some .int)) := mt_X13_run
  unfold j_X13_run_39 at hf
  refine mx_S.pu (pc2 := 40) (lv2 := [(0, .ref l0), (2, .int l2)]) (st2 := [.ref l0]) hm dX13_run_39 rfl ?_
  refine mx_S.pu (pc2 := 41) (lv2 := [(0, .ref l0), (2, .int l2)]) (st2 := [.ref l0, .ref l0]) hm dX13_run_40 rfl ?_
  replace hf := mx_sv_el hf; obtain ⟨v1, e_v1, hf⟩ := hf
  refine sx_get hm dX13_run_41 rs_RX13_1046 (xgi_el e_v1) ?_
  clear e_v1
  refine mx_S.pu (pc2 := 45) (lv2 := [(0, .ref l0), (2, .int l2)]) (st2 := [.int l2, .int v1, .ref l0]) hm dX13_run_44 rfl ?_
  replace hf := xl_el hf; obtain ⟨v2, e_v2, hf⟩ := hf
  refine mx_S.pu (pc2 := 46) (lv2 := [(0, .ref l0), (2, .int l2)]) (st2 := [.int v2, .ref l0]) hm dX13_run_45 (by rw [← e_v2]; rfl) ?_
  clear e_v2
  replace hf := mx_sv_el hf; obtain ⟨h3, e_h3, hf⟩ := hf
  refine sx_put hm dX13_run_46 rs_RX13_1046 ft_13_140 ⟨rfl, rfl⟩ (fun z => by cases z) e_h3 ?_
  clear e_h3
  refine mx_S.pu (pc2 := 50) (lv2 := [(0, .ref l0), (2, .int l2)]) (st2 := [.int l2]) hm dX13_run_49 rfl ?_
  cases hf
  exact sx_ire hm dX13_run_50 rfl rfl
set_option maxHeartbeats 4000000 in
set_option maxRecDepth 20000 in
theorem w_X13_run_16_ok (X : Nat × (Nat → Int32)) {F L : Nat} (hF : 14 ≤ F) (hL : 334 ≤ L) (nn : Nat) : ∀ (k : Nat) (l0 : Nat) (l1 : Int32) (l2 : Int32) (h : mx_H) (r : (Int32 × mx_H)), w_X13_run_16 nn k l0 l1 l2 h = some r → mx_S X F L 578 16 [(0, .ref l0), (1, .int l1), (2, .int l2)] [] h 0 0 (some (.int r.1), r.2, 0, 0) := by
  have hm : mx_mt 578 = some (yX13_run, cX13_run, 3, (some .int)) := mt_X13_run
  intro k
  induction k with
  | zero => intro l0 l1 l2 h r hf; cases hf
  | succ k ih =>
    intro l0 l1 l2 h r hf
    unfold w_X13_run_16 at hf
    refine mx_S.pu (pc2 := 17) (lv2 := [(0, .ref l0), (1, .int l1), (2, .int l2)]) (st2 := [.int l2]) hm dX13_run_16 rfl ?_
    refine mx_S.pu (pc2 := 18) (lv2 := [(0, .ref l0), (1, .int l1), (2, .int l2)]) (st2 := [.int l1, .int l2]) hm dX13_run_17 rfl ?_
    rcases mx_if_el hf with ⟨c9, hf⟩ | ⟨c9, hf⟩
    · refine sb_ic_ge hm dX13_run_18 (tgt := 39) rfl (fun _ => ?_) (fun z => absurd c9 z)
      refine mx_S.ext [(0, .ref l0), (2, .int l2)] (mx_sub_pos [0, 2] rfl (show ([0, 1, 2] : List Nat).Nodup by decide)) ?_
      exact j_X13_run_39_ok X hF hL nn l0 l2 h hf
    · refine sb_ic_ge hm dX13_run_18 (tgt := 39) rfl (fun z => absurd z c9) (fun _ => ?_)
      refine mx_S.pu (pc2 := 22) (lv2 := [(0, .ref l0), (1, .int l1), (2, .int l2)]) (st2 := [.ref l0]) hm dX13_run_21 rfl ?_
      replace hf := mx_sv_el hf; obtain ⟨v4, e_v4, hf⟩ := hf
      refine sx_get hm dX13_run_22 rs_RX13_858 (xgi_el e_v4) ?_
      clear e_v4
      refine sx_ic (v := 1) hm dX13_run_25 (by decide) ?_
      rcases mx_if_el hf with ⟨c8, hf⟩ | ⟨c8, hf⟩
      · refine sb_ic_ne hm dX13_run_26 (tgt := 39) rfl (fun _ => ?_) (fun z => absurd c8 z)
        refine mx_S.ext [(0, .ref l0), (2, .int l2)] (mx_sub_pos [0, 2] rfl (show ([0, 1, 2] : List Nat).Nodup by decide)) ?_
        exact j_X13_run_39_ok X hF hL nn l0 l2 h hf
      · refine sb_ic_ne hm dX13_run_26 (tgt := 39) rfl (fun z => absurd z c8) (fun _ => ?_)
        refine mx_S.pu (pc2 := 30) (lv2 := [(0, .ref l0), (1, .int l1), (2, .int l2)]) (st2 := [.ref l0]) hm dX13_run_29 rfl ?_
        replace hf := mx_gd_el hf; obtain ⟨c5, hf⟩ := hf
        replace hf := mx_sv_el hf; obtain ⟨u6, e_u6, hf⟩ := hf
        refine sx_cv hm dX13_run_30 rs_RX13_1075 mt_X13_step [] [] (b := l0) (ci := 13) rfl rfl rfl c5 (Nat.le_of_ble_eq_true rfl) (Nat.le_of_ble_eq_true rfl) (by omega) (by omega) (f_X13_step_ok X (by omega) (by omega) nn l0 h e_u6) ?_
        clear e_u6
        show mx_S X F L 578 33 [(0, .ref l0), (1, .int l1), (2, .int l2)] [] u6 0 0 (some (.int r.1), r.2, 0, 0)
        replace hf := xl_el hf; obtain ⟨v7, e_v7, hf⟩ := hf
        refine mx_S.pu (pc2 := 36) (lv2 := [(2, .int v7), (0, .ref l0), (1, .int l1)]) (st2 := []) hm dX13_run_33 (by rw [← e_v7]; rfl) ?_
        clear e_v7
        refine mx_S.pu (pc2 := 16) (lv2 := [(2, .int v7), (0, .ref l0), (1, .int l1)]) (st2 := []) hm dX13_run_36 rfl ?_
        refine mx_S.ext [(0, .ref l0), (1, .int l1), (2, .int v7)] (mx_sub_pos [1, 2, 0] rfl (show ([2, 0, 1] : List Nat).Nodup by decide)) ?_
        exact ih l0 l1 v7 u6 _ hf
set_option maxHeartbeats 4000000 in
set_option maxRecDepth 20000 in
theorem f_X13_run_ok (X : Nat × (Nat → Int32)) {F L : Nat} (hF : 14 ≤ F) (hL : 334 ≤ L) (nn : Nat) (a0 : Nat) (a1 : Int32) (h : mx_H) {r : (Int32 × mx_H)} (hf : f_X13_run nn a0 a1 h = some r) : mx_R X F L 578 [.ref a0, .int a1] h (some (.int r.1), r.2, 0, 0) := by
  have hm : mx_mt 578 = some (yX13_run, cX13_run, 3, (some .int)) := mt_X13_run
  show mx_S X F L 578 0 [(0, .ref a0), (1, .int a1)] [] h 0 0 (some (.int r.1), r.2, 0, 0)
  unfold f_X13_run at hf
  refine mx_S.pu (pc2 := 1) (lv2 := [(0, .ref a0), (1, .int a1)]) (st2 := [.int a1]) hm dX13_run_0 rfl ?_
  refine sx_ic (v := 1) hm dX13_run_1 (by decide) ?_
  rcases mx_if_el hf with ⟨c11, hf⟩ | ⟨c11, hf⟩
  · refine sb_ic_lt hm dX13_run_2 (tgt := 12) rfl (fun _ => ?_) (fun z => absurd c11 z)
    refine sx_ic (v := (-1)) hm dX13_run_12 (by decide) ?_
    cases hf
    exact sx_ire hm dX13_run_13 rfl rfl
  · refine sb_ic_lt hm dX13_run_2 (tgt := 12) rfl (fun z => absurd z c11) (fun _ => ?_)
    refine mx_S.pu (pc2 := 6) (lv2 := [(0, .ref a0), (1, .int a1)]) (st2 := [.int a1]) hm dX13_run_5 rfl ?_
    refine sx_si (v := 20000) hm dX13_run_6 (by decide) ?_
    rcases mx_if_el hf with ⟨c10, hf⟩ | ⟨c10, hf⟩
    · refine sb_ic_le hm dX13_run_9 (tgt := 14) rfl (fun _ => ?_) (fun z => absurd c10 z)
      refine sx_ic (v := 0) hm dX13_run_14 (by decide) ?_
      refine mx_S.pu (pc2 := 16) (lv2 := [(2, .int 0), (0, .ref a0), (1, .int a1)]) (st2 := []) hm dX13_run_15 rfl ?_
      refine mx_S.ext [(0, .ref a0), (1, .int a1), (2, .int 0)] (mx_sub_pos [1, 2, 0] rfl (show ([2, 0, 1] : List Nat).Nodup by decide)) ?_
      exact w_X13_run_16_ok X hF hL nn nn a0 a1 0 h _ hf
    · refine sb_ic_le hm dX13_run_9 (tgt := 14) rfl (fun z => absurd z c10) (fun _ => ?_)
      refine sx_ic (v := (-1)) hm dX13_run_12 (by decide) ?_
      cases hf
      exact sx_ire hm dX13_run_13 rfl rfl
set_option maxHeartbeats 4000000 in
set_option maxRecDepth 20000 in
theorem f_X13_kindText_ok (X : Nat × (Nat → Int32)) {F L : Nat} (hF : 1 ≤ F) (hL : 22 ≤ L) (nn : Nat) (a0 : Nat) (a1 : Int32) (a2 : Int32) (a3 : Int32) (h : mx_H) {r : (Int32 × mx_H)} (hf : f_X13_kindText nn a0 a1 a2 a3 h = some r) : mx_R X F L 534 [.ref a0, .int a1, .int a2, .int a3] h (some (.int r.1), r.2, 0, 0) := by
  have hm : mx_mt 534 = some (yX13_kindText, cX13_kindText, 4, (some .int)) := mt_X13_kindText
  show mx_S X F L 534 0 [(0, .ref a0), (1, .int a1), (2, .int a2), (3, .int a3)] [] h 0 0 (some (.int r.1), r.2, 0, 0)
  unfold f_X13_kindText at hf
  refine mx_S.pu (pc2 := 1) (lv2 := [(0, .ref a0), (1, .int a1), (2, .int a2), (3, .int a3)]) (st2 := [.int a3]) hm dX13_kindText_0 rfl ?_
  rcases mx_if_el hf with ⟨c15, hf⟩ | ⟨c15, hf⟩
  · refine sb_if_eq hm dX13_kindText_1 (tgt := 25) rfl (fun _ => ?_) (fun z => absurd c15 z)
    refine mx_S.pu (pc2 := 26) (lv2 := [(0, .ref a0), (1, .int a1), (2, .int a2), (3, .int a3)]) (st2 := [.ref a0]) hm dX13_kindText_25 rfl ?_
    refine mx_S.pu (pc2 := 27) (lv2 := [(0, .ref a0), (1, .int a1), (2, .int a2), (3, .int a3)]) (st2 := [.int a1, .ref a0]) hm dX13_kindText_26 rfl ?_
    refine mx_S.pu (pc2 := 28) (lv2 := [(0, .ref a0), (1, .int a1), (2, .int a2), (3, .int a3)]) (st2 := [.ref a0, .int a1, .ref a0]) hm dX13_kindText_27 rfl ?_
    replace hf := mx_sv_el hf; obtain ⟨v1, e_v1, hf⟩ := hf
    refine sx_get hm dX13_kindText_28 rs_RX13_230 (xgr_el e_v1) ?_
    clear e_v1
    refine sx_bi (v := 12) hm dX13_kindText_31 (by decide) ?_
    refine mx_S.pu (pc2 := 34) (lv2 := [(0, .ref a0), (1, .int a1), (2, .int a2), (3, .int a3)]) (st2 := [.int a1, .int 12, .ref v1, .int a1, .ref a0]) hm dX13_kindText_33 rfl ?_
    replace hf := xl_el hf; obtain ⟨v2, e_v2, hf⟩ := hf
    refine mx_S.pu (pc2 := 35) (lv2 := [(0, .ref a0), (1, .int a1), (2, .int a2), (3, .int a3)]) (st2 := [.int v2, .ref v1, .int a1, .ref a0]) hm dX13_kindText_34 (by rw [← e_v2]; rfl) ?_
    clear e_v2
    refine mx_S.pu (pc2 := 36) (lv2 := [(0, .ref a0), (1, .int a1), (2, .int a2), (3, .int a3)]) (st2 := [.int a2, .int v2, .ref v1, .int a1, .ref a0]) hm dX13_kindText_35 rfl ?_
    replace hf := xl_el hf; obtain ⟨v3, e_v3, hf⟩ := hf
    refine mx_S.pu (pc2 := 37) (lv2 := [(0, .ref a0), (1, .int a1), (2, .int a2), (3, .int a3)]) (st2 := [.int v3, .ref v1, .int a1, .ref a0]) hm dX13_kindText_36 (by rw [← e_v3]; rfl) ?_
    clear e_v3
    replace hf := mx_sv_el hf; obtain ⟨v4, e_v4, hf⟩ := hf
    refine sx_ald hm dX13_kindText_37 e_v4 ?_
    clear e_v4
    refine sx_ic (v := 1) hm dX13_kindText_38 (by decide) ?_
    replace hf := xl_el hf; obtain ⟨v5, e_v5, hf⟩ := hf
    refine mx_S.pu (pc2 := 40) (lv2 := [(0, .ref a0), (1, .int a1), (2, .int a2), (3, .int a3)]) (st2 := [.int v5, .int a1, .ref a0]) hm dX13_kindText_39 (by rw [← e_v5]; rfl) ?_
    clear e_v5
    replace hf := mx_gd_el hf; obtain ⟨c6, hf⟩ := hf
    replace hf := mx_sv_el hf; obtain ⟨u7, e_u7, hf⟩ := hf
    refine sx_cv hm dX13_kindText_40 rs_RX13_864 mt_X13_byteAt [.int a1, .int v5] [] (b := a0) (ci := 13) rfl rfl rfl c6 (Nat.le_of_ble_eq_true rfl) (Nat.le_of_ble_eq_true rfl) (by omega) (by omega) (f_X13_byteAt_ok X (by omega) (by omega) nn a0 a1 v5 h e_u7) ?_
    clear e_u7
    show mx_S X F L 534 43 [(0, .ref a0), (1, .int a1), (2, .int a2), (3, .int a3)] [.int u7.1] u7.2 0 0 (some (.int r.1), r.2, 0, 0)
    cases hf
    exact sx_ire hm dX13_kindText_43 rfl rfl
  · refine sb_if_eq hm dX13_kindText_1 (tgt := 25) rfl (fun z => absurd z c15) (fun _ => ?_)
    refine mx_S.pu (pc2 := 5) (lv2 := [(0, .ref a0), (1, .int a1), (2, .int a2), (3, .int a3)]) (st2 := [.ref a0]) hm dX13_kindText_4 rfl ?_
    refine mx_S.pu (pc2 := 6) (lv2 := [(0, .ref a0), (1, .int a1), (2, .int a2), (3, .int a3)]) (st2 := [.int a1, .ref a0]) hm dX13_kindText_5 rfl ?_
    refine mx_S.pu (pc2 := 7) (lv2 := [(0, .ref a0), (1, .int a1), (2, .int a2), (3, .int a3)]) (st2 := [.ref a0, .int a1, .ref a0]) hm dX13_kindText_6 rfl ?_
    replace hf := mx_sv_el hf; obtain ⟨v8, e_v8, hf⟩ := hf
    refine sx_get hm dX13_kindText_7 rs_RX13_236 (xgr_el e_v8) ?_
    clear e_v8
    refine sx_bi (v := 12) hm dX13_kindText_10 (by decide) ?_
    refine mx_S.pu (pc2 := 13) (lv2 := [(0, .ref a0), (1, .int a1), (2, .int a2), (3, .int a3)]) (st2 := [.int a1, .int 12, .ref v8, .int a1, .ref a0]) hm dX13_kindText_12 rfl ?_
    replace hf := xl_el hf; obtain ⟨v9, e_v9, hf⟩ := hf
    refine mx_S.pu (pc2 := 14) (lv2 := [(0, .ref a0), (1, .int a1), (2, .int a2), (3, .int a3)]) (st2 := [.int v9, .ref v8, .int a1, .ref a0]) hm dX13_kindText_13 (by rw [← e_v9]; rfl) ?_
    clear e_v9
    refine mx_S.pu (pc2 := 15) (lv2 := [(0, .ref a0), (1, .int a1), (2, .int a2), (3, .int a3)]) (st2 := [.int a2, .int v9, .ref v8, .int a1, .ref a0]) hm dX13_kindText_14 rfl ?_
    replace hf := xl_el hf; obtain ⟨v10, e_v10, hf⟩ := hf
    refine mx_S.pu (pc2 := 16) (lv2 := [(0, .ref a0), (1, .int a1), (2, .int a2), (3, .int a3)]) (st2 := [.int v10, .ref v8, .int a1, .ref a0]) hm dX13_kindText_15 (by rw [← e_v10]; rfl) ?_
    clear e_v10
    replace hf := mx_sv_el hf; obtain ⟨v11, e_v11, hf⟩ := hf
    refine sx_ald hm dX13_kindText_16 e_v11 ?_
    clear e_v11
    refine sx_ic (v := 2) hm dX13_kindText_17 (by decide) ?_
    replace hf := xl_el hf; obtain ⟨v12, e_v12, hf⟩ := hf
    refine mx_S.pu (pc2 := 19) (lv2 := [(0, .ref a0), (1, .int a1), (2, .int a2), (3, .int a3)]) (st2 := [.int v12, .int a1, .ref a0]) hm dX13_kindText_18 (by rw [← e_v12]; rfl) ?_
    clear e_v12
    replace hf := mx_gd_el hf; obtain ⟨c13, hf⟩ := hf
    replace hf := mx_sv_el hf; obtain ⟨u14, e_u14, hf⟩ := hf
    refine sx_cv hm dX13_kindText_19 rs_RX13_864 mt_X13_byteAt [.int a1, .int v12] [] (b := a0) (ci := 13) rfl rfl rfl c13 (Nat.le_of_ble_eq_true rfl) (Nat.le_of_ble_eq_true rfl) (by omega) (by omega) (f_X13_byteAt_ok X (by omega) (by omega) nn a0 a1 v12 h e_u14) ?_
    clear e_u14
    show mx_S X F L 534 22 [(0, .ref a0), (1, .int a1), (2, .int a2), (3, .int a3)] [.int u14.1] u14.2 0 0 (some (.int r.1), r.2, 0, 0)
    refine mx_S.pu (pc2 := 43) (lv2 := [(0, .ref a0), (1, .int a1), (2, .int a2), (3, .int a3)]) (st2 := [.int u14.1]) hm dX13_kindText_22 rfl ?_
    cases hf
    exact sx_ire hm dX13_kindText_43 rfl rfl
set_option maxHeartbeats 4000000 in
set_option maxRecDepth 20000 in
theorem j_X13_start_133_ok (X : Nat × (Nat → Int32)) {F L : Nat} (hF : 2 ≤ F) (hL : 45 ≤ L) (nn : Nat) (l0 : Nat) (l1 : Int32) (l2 : Int32) (h : mx_H) {r : (Int32 × mx_H)} (hf : j_X13_start_133 nn l0 l1 l2 h = some r) : mx_S X F L 569 133 [(0, .ref l0), (1, .int l1), (2, .int l2)] [] h 0 0 (some (.int r.1), r.2, 0, 0) := by
  have hm : mx_mt 569 = some (yX13_start, cX13_start, 5, (some .boolean)) := mt_X13_start
  unfold j_X13_start_133 at hf
  refine mx_S.pu (pc2 := 134) (lv2 := [(0, .ref l0), (1, .int l1), (2, .int l2)]) (st2 := [.ref l0]) hm dX13_start_133 rfl ?_
  refine sx_ic (v := 0) hm dX13_start_134 (by decide) ?_
  replace hf := mx_sv_el hf; obtain ⟨h1, e_h1, hf⟩ := hf
  refine sx_put hm dX13_start_135 rs_RX13_1058 ft_13_149 ⟨rfl, rfl⟩ (fun z => by cases z) e_h1 ?_
  clear e_h1
  refine mx_S.pu (pc2 := 139) (lv2 := [(0, .ref l0), (1, .int l1), (2, .int l2)]) (st2 := [.ref l0]) hm dX13_start_138 rfl ?_
  refine mx_S.pu (pc2 := 140) (lv2 := [(0, .ref l0), (1, .int l1), (2, .int l2)]) (st2 := [.int l1, .ref l0]) hm dX13_start_139 rfl ?_
  refine mx_S.pu (pc2 := 141) (lv2 := [(0, .ref l0), (1, .int l1), (2, .int l2)]) (st2 := [.int l2, .int l1, .ref l0]) hm dX13_start_140 rfl ?_
  replace hf := mx_gd_el hf; obtain ⟨c2, hf⟩ := hf
  replace hf := mx_sv_el hf; obtain ⟨u3, e_u3, hf⟩ := hf
  refine sx_cv hm dX13_start_141 rs_RX13_1061 mt_X13_enter [.int l1, .int l2] [] (b := l0) (ci := 13) rfl rfl rfl c2 (Nat.le_of_ble_eq_true rfl) (Nat.le_of_ble_eq_true rfl) (by omega) (by omega) (f_X13_enter_ok X (by omega) (by omega) nn l0 l1 l2 h1 e_u3) ?_
  clear e_u3
  show mx_S X F L 569 144 [(0, .ref l0), (1, .int l1), (2, .int l2)] [] u3 0 0 (some (.int r.1), r.2, 0, 0)
  refine sx_ic (v := 1) hm dX13_start_144 (by decide) ?_
  cases hf
  exact sx_ire hm dX13_start_145 rfl (by decide)
set_option maxHeartbeats 4000000 in
set_option maxRecDepth 20000 in
theorem f_X13_start_ok (X : Nat × (Nat → Int32)) {F L : Nat} (hF : 2 ≤ F) (hL : 45 ≤ L) (nn : Nat) (a0 : Nat) (a1 : Int32) (a2 : Int32) (h : mx_H) {r : (Int32 × mx_H)} (hf : f_X13_start nn a0 a1 a2 h = some r) : mx_R X F L 569 [.ref a0, .int a1, .int a2] h (some (.int r.1), r.2, 0, 0) := by
  have hm : mx_mt 569 = some (yX13_start, cX13_start, 5, (some .boolean)) := mt_X13_start
  show mx_S X F L 569 0 [(0, .ref a0), (1, .int a1), (2, .int a2)] [] h 0 0 (some (.int r.1), r.2, 0, 0)
  unfold f_X13_start at hf
  refine mx_S.pu (pc2 := 1) (lv2 := [(0, .ref a0), (1, .int a1), (2, .int a2)]) (st2 := [.int a1]) hm dX13_start_0 rfl ?_
  refine sx_bi (v := 8) hm dX13_start_1 (by decide) ?_
  replace hf := xl_el hf; obtain ⟨v4, e_v4, hf⟩ := hf
  refine mx_S.pu (pc2 := 4) (lv2 := [(0, .ref a0), (1, .int a1), (2, .int a2)]) (st2 := [.int v4]) hm dX13_start_3 (by rw [← e_v4]; rfl) ?_
  clear e_v4
  refine mx_S.pu (pc2 := 5) (lv2 := [(3, .int v4), (0, .ref a0), (1, .int a1), (2, .int a2)]) (st2 := []) hm dX13_start_4 rfl ?_
  refine mx_S.pu (pc2 := 6) (lv2 := [(3, .int v4), (0, .ref a0), (1, .int a1), (2, .int a2)]) (st2 := [.ref a0]) hm dX13_start_5 rfl ?_
  replace hf := mx_sv_el hf; obtain ⟨v5, e_v5, hf⟩ := hf
  refine sx_get hm dX13_start_6 rs_RX13_855 (xgi_el e_v5) ?_
  clear e_v5
  rcases mx_if_el hf with ⟨c39, hf⟩ | ⟨c39, hf⟩
  · refine sb_if_eq hm dX13_start_9 (tgt := 38) rfl (fun _ => ?_) (fun z => absurd c39 z)
    refine sx_ic (v := 0) hm dX13_start_38 (by decide) ?_
    cases hf
    exact sx_ire hm dX13_start_39 rfl (by decide)
  · refine sb_if_eq hm dX13_start_9 (tgt := 38) rfl (fun z => absurd z c39) (fun _ => ?_)
    refine mx_S.pu (pc2 := 13) (lv2 := [(3, .int v4), (0, .ref a0), (1, .int a1), (2, .int a2)]) (st2 := [.int v4]) hm dX13_start_12 rfl ?_
    rcases mx_if_el hf with ⟨c38, hf⟩ | ⟨c38, hf⟩
    · refine sb_if_lt hm dX13_start_13 (tgt := 38) rfl (fun _ => ?_) (fun z => absurd c38 z)
      refine sx_ic (v := 0) hm dX13_start_38 (by decide) ?_
      cases hf
      exact sx_ire hm dX13_start_39 rfl (by decide)
    · refine sb_if_lt hm dX13_start_13 (tgt := 38) rfl (fun z => absurd z c38) (fun _ => ?_)
      refine mx_S.pu (pc2 := 17) (lv2 := [(3, .int v4), (0, .ref a0), (1, .int a1), (2, .int a2)]) (st2 := [.int v4]) hm dX13_start_16 rfl ?_
      refine mx_S.pu (pc2 := 18) (lv2 := [(3, .int v4), (0, .ref a0), (1, .int a1), (2, .int a2)]) (st2 := [.ref a0, .int v4]) hm dX13_start_17 rfl ?_
      replace hf := mx_sv_el hf; obtain ⟨v6, e_v6, hf⟩ := hf
      refine sx_get hm dX13_start_18 rs_RX13_833 (xgi_el e_v6) ?_
      clear e_v6
      rcases mx_if_el hf with ⟨c37, hf⟩ | ⟨c37, hf⟩
      · refine sb_ic_ge hm dX13_start_21 (tgt := 38) rfl (fun _ => ?_) (fun z => absurd c37 z)
        refine sx_ic (v := 0) hm dX13_start_38 (by decide) ?_
        cases hf
        exact sx_ire hm dX13_start_39 rfl (by decide)
      · refine sb_ic_ge hm dX13_start_21 (tgt := 38) rfl (fun z => absurd z c37) (fun _ => ?_)
        refine mx_S.pu (pc2 := 25) (lv2 := [(3, .int v4), (0, .ref a0), (1, .int a1), (2, .int a2)]) (st2 := [.int a2]) hm dX13_start_24 rfl ?_
        rcases mx_if_el hf with ⟨c36, hf⟩ | ⟨c36, hf⟩
        · refine sb_if_lt hm dX13_start_25 (tgt := 38) rfl (fun _ => ?_) (fun z => absurd c36 z)
          refine sx_ic (v := 0) hm dX13_start_38 (by decide) ?_
          cases hf
          exact sx_ire hm dX13_start_39 rfl (by decide)
        · refine sb_if_lt hm dX13_start_25 (tgt := 38) rfl (fun z => absurd z c36) (fun _ => ?_)
          refine mx_S.pu (pc2 := 29) (lv2 := [(3, .int v4), (0, .ref a0), (1, .int a1), (2, .int a2)]) (st2 := [.int a2]) hm dX13_start_28 rfl ?_
          refine mx_S.pu (pc2 := 30) (lv2 := [(3, .int v4), (0, .ref a0), (1, .int a1), (2, .int a2)]) (st2 := [.ref a0, .int a2]) hm dX13_start_29 rfl ?_
          replace hf := mx_sv_el hf; obtain ⟨v7, e_v7, hf⟩ := hf
          refine sx_get hm dX13_start_30 rs_RX13_233 (xgr_el e_v7) ?_
          clear e_v7
          refine mx_S.pu (pc2 := 34) (lv2 := [(3, .int v4), (0, .ref a0), (1, .int a1), (2, .int a2)]) (st2 := [.int v4, .ref v7, .int a2]) hm dX13_start_33 rfl ?_
          replace hf := mx_sv_el hf; obtain ⟨v8, e_v8, hf⟩ := hf
          refine sx_ald hm dX13_start_34 e_v8 ?_
          clear e_v8
          rcases mx_if_el hf with ⟨c35, hf⟩ | ⟨c35, hf⟩
          · refine sb_ic_lt hm dX13_start_35 (tgt := 40) rfl (fun _ => ?_) (fun z => absurd c35 z)
            refine sx_si (v := 6000) hm dX13_start_40 (by decide) ?_
            refine mx_S.pu (pc2 := 44) (lv2 := [(3, .int v4), (0, .ref a0), (1, .int a1), (2, .int a2)]) (st2 := [.int v4, .int 6000]) hm dX13_start_43 rfl ?_
            replace hf := xl_el hf; obtain ⟨v9, e_v9, hf⟩ := hf
            refine mx_S.pu (pc2 := 45) (lv2 := [(3, .int v4), (0, .ref a0), (1, .int a1), (2, .int a2)]) (st2 := [.int v9]) hm dX13_start_44 (by rw [← e_v9]; rfl) ?_
            clear e_v9
            refine mx_S.pu (pc2 := 46) (lv2 := [(3, .int v4), (0, .ref a0), (1, .int a1), (2, .int a2)]) (st2 := [.ref a0, .int v9]) hm dX13_start_45 rfl ?_
            replace hf := mx_sv_el hf; obtain ⟨v10, e_v10, hf⟩ := hf
            refine sx_get hm dX13_start_46 rs_RX13_215 (xgr_el e_v10) ?_
            clear e_v10
            refine sx_si (v := 256) hm dX13_start_49 (by decide) ?_
            refine mx_S.pu (pc2 := 53) (lv2 := [(3, .int v4), (0, .ref a0), (1, .int a1), (2, .int a2)]) (st2 := [.int v4, .int 256, .ref v10, .int v9]) hm dX13_start_52 rfl ?_
            replace hf := xl_el hf; obtain ⟨v11, e_v11, hf⟩ := hf
            refine mx_S.pu (pc2 := 54) (lv2 := [(3, .int v4), (0, .ref a0), (1, .int a1), (2, .int a2)]) (st2 := [.int v11, .ref v10, .int v9]) hm dX13_start_53 (by rw [← e_v11]; rfl) ?_
            clear e_v11
            refine mx_S.pu (pc2 := 55) (lv2 := [(3, .int v4), (0, .ref a0), (1, .int a1), (2, .int a2)]) (st2 := [.ref a0, .int v11, .ref v10, .int v9]) hm dX13_start_54 rfl ?_
            refine mx_S.pu (pc2 := 56) (lv2 := [(3, .int v4), (0, .ref a0), (1, .int a1), (2, .int a2)]) (st2 := [.int v4, .ref a0, .int v11, .ref v10, .int v9]) hm dX13_start_55 rfl ?_
            refine mx_S.pu (pc2 := 57) (lv2 := [(3, .int v4), (0, .ref a0), (1, .int a1), (2, .int a2)]) (st2 := [.int a2, .int v4, .ref a0, .int v11, .ref v10, .int v9]) hm dX13_start_56 rfl ?_
            refine sx_ic (v := 1) hm dX13_start_57 (by decide) ?_
            replace hf := mx_gd_el hf; obtain ⟨c12, hf⟩ := hf
            replace hf := mx_sv_el hf; obtain ⟨u13, e_u13, hf⟩ := hf
            refine sx_cv hm dX13_start_58 rs_RX13_910 mt_X13_kindText [.int v4, .int a2, .int 1] [.int v11, .ref v10, .int v9] (b := a0) (ci := 13) rfl rfl rfl c12 (Nat.le_of_ble_eq_true rfl) (Nat.le_of_ble_eq_true rfl) (by omega) (by omega) (f_X13_kindText_ok X (by omega) (by omega) nn a0 v4 a2 1 h e_u13) ?_
            clear e_u13
            show mx_S X F L 569 61 [(3, .int v4), (0, .ref a0), (1, .int a1), (2, .int a2)] [.int u13.1, .int v11, .ref v10, .int v9] u13.2 0 0 (some (.int r.1), r.2, 0, 0)
            replace hf := xl_el hf; obtain ⟨v14, e_v14, hf⟩ := hf
            refine mx_S.pu (pc2 := 62) (lv2 := [(3, .int v4), (0, .ref a0), (1, .int a1), (2, .int a2)]) (st2 := [.int v14, .ref v10, .int v9]) hm dX13_start_61 (by rw [← e_v14]; rfl) ?_
            clear e_v14
            replace hf := mx_sv_el hf; obtain ⟨v15, e_v15, hf⟩ := hf
            refine sx_ald hm dX13_start_62 e_v15 ?_
            clear e_v15
            replace hf := xl_el hf; obtain ⟨v16, e_v16, hf⟩ := hf
            refine mx_S.pu (pc2 := 64) (lv2 := [(3, .int v4), (0, .ref a0), (1, .int a1), (2, .int a2)]) (st2 := [.int v16]) hm dX13_start_63 (by rw [← e_v16]; rfl) ?_
            clear e_v16
            refine sx_ic (v := 2) hm dX13_start_64 (by decide) ?_
            replace hf := xl_el hf; obtain ⟨v17, e_v17, hf⟩ := hf
            refine mx_S.pu (pc2 := 66) (lv2 := [(3, .int v4), (0, .ref a0), (1, .int a1), (2, .int a2)]) (st2 := [.int v17]) hm dX13_start_65 (by rw [← e_v17]; rfl) ?_
            clear e_v17
            refine mx_S.pu (pc2 := 68) (lv2 := [(4, .int v17), (3, .int v4), (0, .ref a0), (1, .int a1), (2, .int a2)]) (st2 := []) hm dX13_start_66 rfl ?_
            refine mx_S.pu (pc2 := 69) (lv2 := [(4, .int v17), (3, .int v4), (0, .ref a0), (1, .int a1), (2, .int a2)]) (st2 := [.ref a0]) hm dX13_start_68 rfl ?_
            refine mx_S.pu (pc2 := 70) (lv2 := [(4, .int v17), (3, .int v4), (0, .ref a0), (1, .int a1), (2, .int a2)]) (st2 := [.int v4, .ref a0]) hm dX13_start_69 rfl ?_
            refine mx_S.pu (pc2 := 71) (lv2 := [(4, .int v17), (3, .int v4), (0, .ref a0), (1, .int a1), (2, .int a2)]) (st2 := [.ref a0, .int v4, .ref a0]) hm dX13_start_70 rfl ?_
            replace hf := mx_sv_el hf; obtain ⟨v18, e_v18, hf⟩ := hf
            refine sx_get hm dX13_start_71 rs_RX13_236 (xgr_el e_v18) ?_
            clear e_v18
            refine sx_bi (v := 12) hm dX13_start_74 (by decide) ?_
            refine mx_S.pu (pc2 := 77) (lv2 := [(4, .int v17), (3, .int v4), (0, .ref a0), (1, .int a1), (2, .int a2)]) (st2 := [.int v4, .int 12, .ref v18, .int v4, .ref a0]) hm dX13_start_76 rfl ?_
            replace hf := xl_el hf; obtain ⟨v19, e_v19, hf⟩ := hf
            refine mx_S.pu (pc2 := 78) (lv2 := [(4, .int v17), (3, .int v4), (0, .ref a0), (1, .int a1), (2, .int a2)]) (st2 := [.int v19, .ref v18, .int v4, .ref a0]) hm dX13_start_77 (by rw [← e_v19]; rfl) ?_
            clear e_v19
            refine mx_S.pu (pc2 := 79) (lv2 := [(4, .int v17), (3, .int v4), (0, .ref a0), (1, .int a1), (2, .int a2)]) (st2 := [.int a2, .int v19, .ref v18, .int v4, .ref a0]) hm dX13_start_78 rfl ?_
            replace hf := xl_el hf; obtain ⟨v20, e_v20, hf⟩ := hf
            refine mx_S.pu (pc2 := 80) (lv2 := [(4, .int v17), (3, .int v4), (0, .ref a0), (1, .int a1), (2, .int a2)]) (st2 := [.int v20, .ref v18, .int v4, .ref a0]) hm dX13_start_79 (by rw [← e_v20]; rfl) ?_
            clear e_v20
            replace hf := mx_sv_el hf; obtain ⟨v21, e_v21, hf⟩ := hf
            refine sx_ald hm dX13_start_80 e_v21 ?_
            clear e_v21
            replace hf := mx_gd_el hf; obtain ⟨c22, hf⟩ := hf
            replace hf := mx_sv_el hf; obtain ⟨u23, e_u23, hf⟩ := hf
            refine sx_cv hm dX13_start_81 rs_RX13_864 mt_X13_byteAt [.int v4, .int v21] [] (b := a0) (ci := 13) rfl rfl rfl c22 (Nat.le_of_ble_eq_true rfl) (Nat.le_of_ble_eq_true rfl) (by omega) (by omega) (f_X13_byteAt_ok X (by omega) (by omega) nn a0 v4 v21 u13.2 e_u23) ?_
            clear e_u23
            show mx_S X F L 569 84 [(4, .int v17), (3, .int v4), (0, .ref a0), (1, .int a1), (2, .int a2)] [.int u23.1] u23.2 0 0 (some (.int r.1), r.2, 0, 0)
            rcases mx_if_el hf with ⟨c34, hf⟩ | ⟨c34, hf⟩
            · refine sb_if_eq hm dX13_start_84 (tgt := 101) rfl (fun _ => ?_) (fun z => absurd c34 z)
              refine sx_ic (v := 0) hm dX13_start_101 (by decide) ?_
              cases hf
              exact sx_ire hm dX13_start_102 rfl (by decide)
            · refine sb_if_eq hm dX13_start_84 (tgt := 101) rfl (fun z => absurd z c34) (fun _ => ?_)
              refine mx_S.pu (pc2 := 88) (lv2 := [(4, .int v17), (3, .int v4), (0, .ref a0), (1, .int a1), (2, .int a2)]) (st2 := [.ref a0]) hm dX13_start_87 rfl ?_
              replace hf := mx_sv_el hf; obtain ⟨v24, e_v24, hf⟩ := hf
              refine sx_get hm dX13_start_88 rs_RX13_209 (xgr_el e_v24) ?_
              clear e_v24
              refine mx_S.pu (pc2 := 93) (lv2 := [(4, .int v17), (3, .int v4), (0, .ref a0), (1, .int a1), (2, .int a2)]) (st2 := [.int v17, .ref v24]) hm dX13_start_91 rfl ?_
              refine sx_ic (v := 1) hm dX13_start_93 (by decide) ?_
              replace hf := xl_el hf; obtain ⟨v25, e_v25, hf⟩ := hf
              refine mx_S.pu (pc2 := 95) (lv2 := [(4, .int v17), (3, .int v4), (0, .ref a0), (1, .int a1), (2, .int a2)]) (st2 := [.int v25, .ref v24]) hm dX13_start_94 (by rw [← e_v25]; rfl) ?_
              clear e_v25
              replace hf := mx_sv_el hf; obtain ⟨v26, e_v26, hf⟩ := hf
              refine sx_ald hm dX13_start_95 e_v26 ?_
              clear e_v26
              refine sx_bi (v := 41) hm dX13_start_96 (by decide) ?_
              rcases mx_if_el hf with ⟨c33, hf⟩ | ⟨c33, hf⟩
              · refine sb_ic_eq hm dX13_start_98 (tgt := 103) rfl (fun _ => ?_) (fun z => absurd c33 z)
                refine mx_S.pu (pc2 := 104) (lv2 := [(4, .int v17), (3, .int v4), (0, .ref a0), (1, .int a1), (2, .int a2)]) (st2 := [.ref a0]) hm dX13_start_103 rfl ?_
                refine sx_ic (v := 1) hm dX13_start_104 (by decide) ?_
                replace hf := mx_sv_el hf; obtain ⟨h27, e_h27, hf⟩ := hf
                refine sx_put hm dX13_start_105 rs_RX13_858 ft_13_138 ⟨rfl, rfl⟩ (fun z => by cases z) e_h27 ?_
                clear e_h27
                refine mx_S.pu (pc2 := 109) (lv2 := [(4, .int v17), (3, .int v4), (0, .ref a0), (1, .int a1), (2, .int a2)]) (st2 := [.ref a0]) hm dX13_start_108 rfl ?_
                refine sx_ic (v := (-1)) hm dX13_start_109 (by decide) ?_
                replace hf := mx_sv_el hf; obtain ⟨h28, e_h28, hf⟩ := hf
                refine sx_put hm dX13_start_110 rs_RX13_1043 ft_13_139 ⟨rfl, rfl⟩ (fun z => by cases z) e_h28 ?_
                clear e_h28
                refine mx_S.pu (pc2 := 114) (lv2 := [(4, .int v17), (3, .int v4), (0, .ref a0), (1, .int a1), (2, .int a2)]) (st2 := [.ref a0]) hm dX13_start_113 rfl ?_
                refine sx_ic (v := 0) hm dX13_start_114 (by decide) ?_
                replace hf := mx_sv_el hf; obtain ⟨h29, e_h29, hf⟩ := hf
                refine sx_put hm dX13_start_115 rs_RX13_1046 ft_13_140 ⟨rfl, rfl⟩ (fun z => by cases z) e_h29 ?_
                clear e_h29
                refine mx_S.pu (pc2 := 119) (lv2 := [(4, .int v17), (3, .int v4), (0, .ref a0), (1, .int a1), (2, .int a2)]) (st2 := [.ref a0]) hm dX13_start_118 rfl ?_
                refine sx_ic (v := 0) hm dX13_start_119 (by decide) ?_
                replace hf := mx_sv_el hf; obtain ⟨h30, e_h30, hf⟩ := hf
                refine sx_put hm dX13_start_120 rs_RX13_1049 ft_13_141 ⟨rfl, rfl⟩ (fun z => by cases z) e_h30 ?_
                clear e_h30
                refine mx_S.pu (pc2 := 124) (lv2 := [(4, .int v17), (3, .int v4), (0, .ref a0), (1, .int a1), (2, .int a2)]) (st2 := [.ref a0]) hm dX13_start_123 rfl ?_
                refine sx_ic (v := 0) hm dX13_start_124 (by decide) ?_
                replace hf := mx_sv_el hf; obtain ⟨h31, e_h31, hf⟩ := hf
                refine sx_put hm dX13_start_125 rs_RX13_1052 ft_13_142 ⟨rfl, rfl⟩ (fun z => by cases z) e_h31 ?_
                clear e_h31
                refine mx_S.pu (pc2 := 129) (lv2 := [(4, .int v17), (3, .int v4), (0, .ref a0), (1, .int a1), (2, .int a2)]) (st2 := [.ref a0]) hm dX13_start_128 rfl ?_
                refine sx_ic (v := 0) hm dX13_start_129 (by decide) ?_
                replace hf := mx_sv_el hf; obtain ⟨h32, e_h32, hf⟩ := hf
                refine sx_put hm dX13_start_130 rs_RX13_1055 ft_13_143 ⟨rfl, rfl⟩ (fun z => by cases z) e_h32 ?_
                clear e_h32
                refine mx_S.ext [(0, .ref a0), (1, .int a1), (2, .int a2)] (mx_sub_pos [2, 3, 4] rfl (show ([4, 3, 0, 1, 2] : List Nat).Nodup by decide)) ?_
                exact j_X13_start_133_ok X hF hL nn a0 a1 a2 h32 hf
              · refine sb_ic_eq hm dX13_start_98 (tgt := 103) rfl (fun z => absurd z c33) (fun _ => ?_)
                refine sx_ic (v := 0) hm dX13_start_101 (by decide) ?_
                cases hf
                exact sx_ire hm dX13_start_102 rfl (by decide)
          · refine sb_ic_lt hm dX13_start_35 (tgt := 40) rfl (fun z => absurd z c35) (fun _ => ?_)
            refine sx_ic (v := 0) hm dX13_start_38 (by decide) ?_
            cases hf
            exact sx_ire hm dX13_start_39 rfl (by decide)
set_option maxHeartbeats 4000000 in
set_option maxRecDepth 20000 in
theorem f_X13_type__ok (X : Nat × (Nat → Int32)) {F L : Nat} (hF : 8 ≤ F) (hL : 181 ≤ L) (nn : Nat) (a0 : Nat) (a1 : Int32) (a2 : Int32) (h : mx_H) {r : (Int32 × mx_H)} (hf : f_X13_type_ nn a0 a1 a2 h = some r) : mx_R X F L 598 [.ref a0, .int a1, .int a2] h (some (.int r.1), r.2, 0, 0) := by
  have hm : mx_mt 598 = some (yX13_type_, cX13_type_, 4, (some .int)) := mt_X13_type_
  show mx_S X F L 598 0 [(0, .ref a0), (1, .int a1), (2, .int a2)] [] h 0 0 (some (.int r.1), r.2, 0, 0)
  unfold f_X13_type_ at hf
  refine mx_S.pu (pc2 := 1) (lv2 := [(0, .ref a0), (1, .int a1), (2, .int a2)]) (st2 := [.int a1]) hm dX13_type__0 rfl ?_
  rcases mx_if_el hf with ⟨c19, hf⟩ | ⟨c19, hf⟩
  · refine sb_if_lt hm dX13_type__1 (tgt := 24) rfl (fun _ => ?_) (fun z => absurd c19 z)
    refine sx_ic (v := (-1)) hm dX13_type__24 (by decide) ?_
    cases hf
    exact sx_ire hm dX13_type__25 rfl rfl
  · refine sb_if_lt hm dX13_type__1 (tgt := 24) rfl (fun z => absurd z c19) (fun _ => ?_)
    refine mx_S.pu (pc2 := 5) (lv2 := [(0, .ref a0), (1, .int a1), (2, .int a2)]) (st2 := [.int a1]) hm dX13_type__4 rfl ?_
    refine sx_bi (v := 8) hm dX13_type__5 (by decide) ?_
    refine mx_S.pu (pc2 := 8) (lv2 := [(0, .ref a0), (1, .int a1), (2, .int a2)]) (st2 := [.ref a0, .int 8, .int a1]) hm dX13_type__7 rfl ?_
    replace hf := mx_sv_el hf; obtain ⟨v1, e_v1, hf⟩ := hf
    refine sx_get hm dX13_type__8 rs_RX13_833 (xgi_el e_v1) ?_
    clear e_v1
    replace hf := xl_el hf; obtain ⟨v2, e_v2, hf⟩ := hf
    refine mx_S.pu (pc2 := 12) (lv2 := [(0, .ref a0), (1, .int a1), (2, .int a2)]) (st2 := [.int v2, .int a1]) hm dX13_type__11 (by rw [← e_v2]; rfl) ?_
    clear e_v2
    rcases mx_if_el hf with ⟨c18, hf⟩ | ⟨c18, hf⟩
    · refine sb_ic_ge hm dX13_type__12 (tgt := 24) rfl (fun _ => ?_) (fun z => absurd c18 z)
      refine sx_ic (v := (-1)) hm dX13_type__24 (by decide) ?_
      cases hf
      exact sx_ire hm dX13_type__25 rfl rfl
    · refine sb_ic_ge hm dX13_type__12 (tgt := 24) rfl (fun z => absurd z c18) (fun _ => ?_)
      refine mx_S.pu (pc2 := 16) (lv2 := [(0, .ref a0), (1, .int a1), (2, .int a2)]) (st2 := [.int a2]) hm dX13_type__15 rfl ?_
      rcases mx_if_el hf with ⟨c17, hf⟩ | ⟨c17, hf⟩
      · refine sb_if_lt hm dX13_type__16 (tgt := 24) rfl (fun _ => ?_) (fun z => absurd c17 z)
        refine sx_ic (v := (-1)) hm dX13_type__24 (by decide) ?_
        cases hf
        exact sx_ire hm dX13_type__25 rfl rfl
      · refine sb_if_lt hm dX13_type__16 (tgt := 24) rfl (fun z => absurd z c17) (fun _ => ?_)
        refine mx_S.pu (pc2 := 20) (lv2 := [(0, .ref a0), (1, .int a1), (2, .int a2)]) (st2 := [.int a2]) hm dX13_type__19 rfl ?_
        refine sx_ic (v := 4) hm dX13_type__20 (by decide) ?_
        rcases mx_if_el hf with ⟨c16, hf⟩ | ⟨c16, hf⟩
        · refine sb_ic_le hm dX13_type__21 (tgt := 26) rfl (fun _ => ?_) (fun z => absurd c16 z)
          refine mx_S.pu (pc2 := 27) (lv2 := [(0, .ref a0), (1, .int a1), (2, .int a2)]) (st2 := [.int a2]) hm dX13_type__26 rfl ?_
          rcases mx_if_el hf with ⟨c15, hf⟩ | ⟨c15, hf⟩
          · refine sb_if_ne hm dX13_type__27 (tgt := 36) rfl (fun _ => ?_) (fun z => absurd c15 z)
            refine mx_S.pu (pc2 := 37) (lv2 := [(0, .ref a0), (1, .int a1), (2, .int a2)]) (st2 := [.int a1]) hm dX13_type__36 rfl ?_
            refine sx_bi (v := 8) hm dX13_type__37 (by decide) ?_
            replace hf := xl_el hf; obtain ⟨v3, e_v3, hf⟩ := hf
            refine mx_S.pu (pc2 := 40) (lv2 := [(0, .ref a0), (1, .int a1), (2, .int a2)]) (st2 := [.int v3]) hm dX13_type__39 (by rw [← e_v3]; rfl) ?_
            clear e_v3
            refine mx_S.pu (pc2 := 41) (lv2 := [(3, .int v3), (0, .ref a0), (1, .int a1), (2, .int a2)]) (st2 := []) hm dX13_type__40 rfl ?_
            refine mx_S.pu (pc2 := 42) (lv2 := [(3, .int v3), (0, .ref a0), (1, .int a1), (2, .int a2)]) (st2 := [.int v3]) hm dX13_type__41 rfl ?_
            rcases mx_if_el hf with ⟨c12, hf⟩ | ⟨c12, hf⟩
            · refine sb_if_ge hm dX13_type__42 (tgt := 47) rfl (fun _ => ?_) (fun z => absurd c12 z)
              refine mx_S.pu (pc2 := 48) (lv2 := [(3, .int v3), (0, .ref a0), (1, .int a1), (2, .int a2)]) (st2 := [.int a2]) hm dX13_type__47 rfl ?_
              rcases mx_if_el hf with ⟨n_0, hf⟩ | ⟨n_0, hf⟩
              · refine sx_tin hm dX13_type__48 (by rw [n_0]; decide) (by rw [n_0]; decide) (off := 28) (by rw [n_0]; rfl) (tgt := 76) rfl ?_
                clear n_0
                refine mx_S.pu (pc2 := 77) (lv2 := [(3, .int v3), (0, .ref a0), (1, .int a1), (2, .int a2)]) (st2 := [.ref a0]) hm dX13_type__76 rfl ?_
                replace hf := mx_sv_el hf; obtain ⟨v6, e_v6, hf⟩ := hf
                refine sx_get hm dX13_type__77 rs_RX13_227 (xgr_el e_v6) ?_
                clear e_v6
                refine mx_S.pu (pc2 := 81) (lv2 := [(3, .int v3), (0, .ref a0), (1, .int a1), (2, .int a2)]) (st2 := [.int v3, .ref v6]) hm dX13_type__80 rfl ?_
                replace hf := mx_sv_el hf; obtain ⟨v7, e_v7, hf⟩ := hf
                refine sx_ald hm dX13_type__81 e_v7 ?_
                clear e_v7
                cases hf
                exact sx_ire hm dX13_type__82 rfl rfl
              · rcases mx_if_el hf with ⟨n_1, hf⟩ | ⟨n_1, hf⟩
                · refine sx_tin hm dX13_type__48 (by rw [n_1]; decide) (by rw [n_1]; decide) (off := 35) (by rw [n_1]; rfl) (tgt := 83) rfl ?_
                  clear n_0 n_1
                  refine mx_S.pu (pc2 := 84) (lv2 := [(3, .int v3), (0, .ref a0), (1, .int a1), (2, .int a2)]) (st2 := [.ref a0]) hm dX13_type__83 rfl ?_
                  replace hf := mx_sv_el hf; obtain ⟨v8, e_v8, hf⟩ := hf
                  refine sx_get hm dX13_type__84 rs_RX13_233 (xgr_el e_v8) ?_
                  clear e_v8
                  refine mx_S.pu (pc2 := 88) (lv2 := [(3, .int v3), (0, .ref a0), (1, .int a1), (2, .int a2)]) (st2 := [.int v3, .ref v8]) hm dX13_type__87 rfl ?_
                  replace hf := mx_sv_el hf; obtain ⟨v9, e_v9, hf⟩ := hf
                  refine sx_ald hm dX13_type__88 e_v9 ?_
                  clear e_v9
                  cases hf
                  exact sx_ire hm dX13_type__89 rfl rfl
                · rcases mx_if_el hf with ⟨n_2, hf⟩ | ⟨n_2, hf⟩
                  · refine sx_tin hm dX13_type__48 (by rw [n_2]; decide) (by rw [n_2]; decide) (off := 42) (by rw [n_2]; rfl) (tgt := 90) rfl ?_
                    clear n_0 n_1 n_2
                    refine mx_S.pu (pc2 := 91) (lv2 := [(3, .int v3), (0, .ref a0), (1, .int a1), (2, .int a2)]) (st2 := [.ref a0]) hm dX13_type__90 rfl ?_
                    replace hf := mx_sv_el hf; obtain ⟨v10, e_v10, hf⟩ := hf
                    refine sx_get hm dX13_type__91 rs_RX13_212 (xgr_el e_v10) ?_
                    clear e_v10
                    refine mx_S.pu (pc2 := 95) (lv2 := [(3, .int v3), (0, .ref a0), (1, .int a1), (2, .int a2)]) (st2 := [.int v3, .ref v10]) hm dX13_type__94 rfl ?_
                    replace hf := mx_sv_el hf; obtain ⟨v11, e_v11, hf⟩ := hf
                    refine sx_ald hm dX13_type__95 e_v11 ?_
                    clear e_v11
                    cases hf
                    exact sx_ire hm dX13_type__96 rfl rfl
                  · rcases (show (a2.toInt < 1 ∨ 3 < a2.toInt) ∨ a2.toInt = 1 ∨ a2.toInt = 2 ∨ a2.toInt = 3 by omega) with z0 | z0 | z0 | z0
                    · refine sx_tout hm dX13_type__48 z0 (tgt := 97) rfl ?_
                      refine mx_S.pu (pc2 := 98) (lv2 := [(3, .int v3), (0, .ref a0), (1, .int a1), (2, .int a2)]) (st2 := [.ref a0]) hm dX13_type__97 rfl ?_
                      replace hf := mx_sv_el hf; obtain ⟨v4, e_v4, hf⟩ := hf
                      refine sx_get hm dX13_type__98 rs_RX13_218 (xgr_el e_v4) ?_
                      clear e_v4
                      refine mx_S.pu (pc2 := 102) (lv2 := [(3, .int v3), (0, .ref a0), (1, .int a1), (2, .int a2)]) (st2 := [.int v3, .ref v4]) hm dX13_type__101 rfl ?_
                      replace hf := mx_sv_el hf; obtain ⟨v5, e_v5, hf⟩ := hf
                      refine sx_ald hm dX13_type__102 e_v5 ?_
                      clear e_v5
                      cases hf
                      exact sx_ire hm dX13_type__103 rfl rfl
                    · exact absurd (Int32.toInt_inj.mp (z0.trans (by decide : (1 : Int) = (1 : Int32).toInt))) n_0
                    · exact absurd (Int32.toInt_inj.mp (z0.trans (by decide : (2 : Int) = (2 : Int32).toInt))) n_1
                    · exact absurd (Int32.toInt_inj.mp (z0.trans (by decide : (3 : Int) = (3 : Int32).toInt))) n_2
            · refine sb_if_ge hm dX13_type__42 (tgt := 47) rfl (fun z => absurd z c12) (fun _ => ?_)
              refine sx_ic (v := 0) hm dX13_type__45 (by decide) ?_
              cases hf
              exact sx_ire hm dX13_type__46 rfl rfl
          · refine sb_if_ne hm dX13_type__27 (tgt := 36) rfl (fun z => absurd z c15) (fun _ => ?_)
            refine mx_S.pu (pc2 := 31) (lv2 := [(0, .ref a0), (1, .int a1), (2, .int a2)]) (st2 := [.ref a0]) hm dX13_type__30 rfl ?_
            refine mx_S.pu (pc2 := 32) (lv2 := [(0, .ref a0), (1, .int a1), (2, .int a2)]) (st2 := [.int a1, .ref a0]) hm dX13_type__31 rfl ?_
            replace hf := mx_gd_el hf; obtain ⟨c13, hf⟩ := hf
            replace hf := mx_sv_el hf; obtain ⟨u14, e_u14, hf⟩ := hf
            refine sx_cv hm dX13_type__32 rs_RX13_873 mt_X13_superOf [.int a1] [] (b := a0) (ci := 13) rfl rfl rfl c13 (Nat.le_of_ble_eq_true rfl) (Nat.le_of_ble_eq_true rfl) (by omega) (by omega) (f_X13_superOf_ok X (by omega) (by omega) nn a0 a1 h e_u14) ?_
            clear e_u14
            show mx_S X F L 598 35 [(0, .ref a0), (1, .int a1), (2, .int a2)] [.int u14.1] u14.2 0 0 (some (.int r.1), r.2, 0, 0)
            cases hf
            exact sx_ire hm dX13_type__35 rfl rfl
        · refine sb_ic_le hm dX13_type__21 (tgt := 26) rfl (fun z => absurd z c16) (fun _ => ?_)
          refine sx_ic (v := (-1)) hm dX13_type__24 (by decide) ?_
          cases hf
          exact sx_ire hm dX13_type__25 rfl rfl
set_option maxHeartbeats 4000000 in
set_option maxRecDepth 20000 in
theorem f_X13_bad_ok (X : Nat × (Nat → Int32)) {F L : Nat} (hF : 0 ≤ F) (hL : 0 ≤ L) (nn : Nat) (a0 : Nat) (a1 : Int32) (a2 : Int32) (a3 : Int32) (a4 : Int32) (h : mx_H) {r : (Int32 × mx_H)} (hf : f_X13_bad nn a0 a1 a2 a3 a4 h = some r) : mx_R X F L 535 [.ref a0, .int a1, .int a2, .int a3, .int a4] h (some (.int r.1), r.2, 0, 0) := by
  have hm : mx_mt 535 = some (yX13_bad, cX13_bad, 5, (some .boolean)) := mt_X13_bad
  show mx_S X F L 535 0 [(0, .ref a0), (1, .int a1), (2, .int a2), (3, .int a3), (4, .int a4)] [] h 0 0 (some (.int r.1), r.2, 0, 0)
  unfold f_X13_bad at hf
  refine mx_S.pu (pc2 := 1) (lv2 := [(0, .ref a0), (1, .int a1), (2, .int a2), (3, .int a3), (4, .int a4)]) (st2 := [.ref a0]) hm dX13_bad_0 rfl ?_
  refine mx_S.pu (pc2 := 2) (lv2 := [(0, .ref a0), (1, .int a1), (2, .int a2), (3, .int a3), (4, .int a4)]) (st2 := [.int a1, .ref a0]) hm dX13_bad_1 rfl ?_
  replace hf := mx_sv_el hf; obtain ⟨h1, e_h1, hf⟩ := hf
  refine sx_put hm dX13_bad_2 rs_RX13_901 ft_13_122 ⟨rfl, rfl⟩ (fun z => by cases z) e_h1 ?_
  clear e_h1
  refine mx_S.pu (pc2 := 6) (lv2 := [(0, .ref a0), (1, .int a1), (2, .int a2), (3, .int a3), (4, .int a4)]) (st2 := [.ref a0]) hm dX13_bad_5 rfl ?_
  refine mx_S.pu (pc2 := 7) (lv2 := [(0, .ref a0), (1, .int a1), (2, .int a2), (3, .int a3), (4, .int a4)]) (st2 := [.int a2, .ref a0]) hm dX13_bad_6 rfl ?_
  replace hf := mx_sv_el hf; obtain ⟨h2, e_h2, hf⟩ := hf
  refine sx_put hm dX13_bad_7 rs_RX13_257 ft_13_123 ⟨rfl, rfl⟩ (fun z => by cases z) e_h2 ?_
  clear e_h2
  refine mx_S.pu (pc2 := 11) (lv2 := [(0, .ref a0), (1, .int a1), (2, .int a2), (3, .int a3), (4, .int a4)]) (st2 := [.ref a0]) hm dX13_bad_10 rfl ?_
  refine mx_S.pu (pc2 := 12) (lv2 := [(0, .ref a0), (1, .int a1), (2, .int a2), (3, .int a3), (4, .int a4)]) (st2 := [.int a3, .ref a0]) hm dX13_bad_11 rfl ?_
  replace hf := mx_sv_el hf; obtain ⟨h3, e_h3, hf⟩ := hf
  refine sx_put hm dX13_bad_12 rs_RX13_261 ft_13_124 ⟨rfl, rfl⟩ (fun z => by cases z) e_h3 ?_
  clear e_h3
  refine mx_S.pu (pc2 := 16) (lv2 := [(0, .ref a0), (1, .int a1), (2, .int a2), (3, .int a3), (4, .int a4)]) (st2 := [.ref a0]) hm dX13_bad_15 rfl ?_
  refine mx_S.pu (pc2 := 18) (lv2 := [(0, .ref a0), (1, .int a1), (2, .int a2), (3, .int a3), (4, .int a4)]) (st2 := [.int a4, .ref a0]) hm dX13_bad_16 rfl ?_
  replace hf := mx_sv_el hf; obtain ⟨h4, e_h4, hf⟩ := hf
  refine sx_put hm dX13_bad_18 rs_RX13_264 ft_13_125 ⟨rfl, rfl⟩ (fun z => by cases z) e_h4 ?_
  clear e_h4
  refine sx_ic (v := 0) hm dX13_bad_21 (by decide) ?_
  cases hf
  exact sx_ire hm dX13_bad_22 rfl (by decide)
set_option maxHeartbeats 4000000 in
set_option maxRecDepth 20000 in
theorem f_X13_isThere_ok (X : Nat × (Nat → Int32)) {F L : Nat} (hF : 0 ≤ F) (hL : 0 ≤ L) (nn : Nat) (a0 : Int32) (h : mx_H) {r : (Int32 × mx_H)} (hf : f_X13_isThere nn a0 h = some r) : mx_R X F L 531 [.int a0] h (some (.int r.1), r.2, 0, 0) := by
  have hm : mx_mt 531 = some (yX13_isThere, cX13_isThere, 1, (some .boolean)) := mt_X13_isThere
  show mx_S X F L 531 0 [(0, .int a0)] [] h 0 0 (some (.int r.1), r.2, 0, 0)
  unfold f_X13_isThere at hf
  refine mx_S.pu (pc2 := 1) (lv2 := [(0, .int a0)]) (st2 := [.int a0]) hm dX13_isThere_0 rfl ?_
  refine sx_ic (v := 4) hm dX13_isThere_1 (by decide) ?_
  rcases mx_if_el hf with ⟨c4, hf⟩ | ⟨c4, hf⟩
  · refine sb_ic_lt hm dX13_isThere_2 (tgt := 15) rfl (fun _ => ?_) (fun z => absurd c4 z)
    refine sx_ic (v := 1) hm dX13_isThere_15 (by decide) ?_
    refine mx_S.pu (pc2 := 20) (lv2 := [(0, .int a0)]) (st2 := [.int 1]) hm dX13_isThere_16 rfl ?_
    cases hf
    exact sx_ire hm dX13_isThere_20 rfl (by decide)
  · refine sb_ic_lt hm dX13_isThere_2 (tgt := 15) rfl (fun z => absurd z c4) (fun _ => ?_)
    refine mx_S.pu (pc2 := 6) (lv2 := [(0, .int a0)]) (st2 := [.int a0]) hm dX13_isThere_5 rfl ?_
    refine sx_ic (v := 4) hm dX13_isThere_6 (by decide) ?_
    replace hf := xl_el hf; obtain ⟨v1, e_v1, hf⟩ := hf
    refine mx_S.pu (pc2 := 8) (lv2 := [(0, .int a0)]) (st2 := [.int v1]) hm dX13_isThere_7 (by rw [← e_v1]; rfl) ?_
    clear e_v1
    refine sx_ic (v := 2) hm dX13_isThere_8 (by decide) ?_
    replace hf := xl_el hf; obtain ⟨v2, e_v2, hf⟩ := hf
    refine sx_idiv (v := v2) hm dX13_isThere_9 (by decide) e_v2 ?_
    clear e_v2
    refine sx_bi (v := 16) hm dX13_isThere_10 (by decide) ?_
    rcases mx_if_el hf with ⟨c3, hf⟩ | ⟨c3, hf⟩
    · refine sb_ic_ge hm dX13_isThere_12 (tgt := 19) rfl (fun _ => ?_) (fun z => absurd c3 z)
      refine sx_ic (v := 0) hm dX13_isThere_19 (by decide) ?_
      cases hf
      exact sx_ire hm dX13_isThere_20 rfl (by decide)
    · refine sb_ic_ge hm dX13_isThere_12 (tgt := 19) rfl (fun z => absurd z c3) (fun _ => ?_)
      refine sx_ic (v := 1) hm dX13_isThere_15 (by decide) ?_
      refine mx_S.pu (pc2 := 20) (lv2 := [(0, .int a0)]) (st2 := [.int 1]) hm dX13_isThere_16 rfl ?_
      cases hf
      exact sx_ire hm dX13_isThere_20 rfl (by decide)
set_option maxHeartbeats 4000000 in
set_option maxRecDepth 20000 in
theorem j_X13_nameNumber_102_ok (X : Nat × (Nat → Int32)) {F L : Nat} (hF : 6 ≤ F) (hL : 137 ≤ L) (nn : Nat) {kk_21 : Nat → Int32 → Int32 → Int32 → mx_H → Option (Int32 × mx_H)} (hk_21 : ∀ (l0 : Nat) (l1 : Int32) (l2 : Int32) (l4 : Int32) (h : mx_H) (r : (Int32 × mx_H)), kk_21 l0 l1 l2 l4 h = some r → mx_S X F L 525 21 [(0, .ref l0), (1, .int l1), (2, .int l2), (4, .int l4)] [] h 0 0 (some (.int r.1), r.2, 0, 0)) (l0 : Nat) (l1 : Int32) (l2 : Int32) (l4 : Int32) (l5 : Int32) (h : mx_H) {r : (Int32 × mx_H)} (hf : j_X13_nameNumber_102 nn kk_21 l0 l1 l2 l4 l5 h = some r) : mx_S X F L 525 102 [(0, .ref l0), (1, .int l1), (2, .int l2), (4, .int l4), (5, .int l5)] [] h 0 0 (some (.int r.1), r.2, 0, 0) := by
  have hm : mx_mt 525 = some (yX13_nameNumber, cX13_nameNumber, 7, (some .int)) := mt_X13_nameNumber
  unfold j_X13_nameNumber_102 at hf
  refine mx_S.pu (pc2 := 104) (lv2 := [(0, .ref l0), (1, .int l1), (2, .int l2), (4, .int l4), (5, .int l5)]) (st2 := [.int l5]) hm dX13_nameNumber_102 rfl ?_
  rcases mx_if_el hf with ⟨c3, hf⟩ | ⟨c3, hf⟩
  · refine sb_if_eq hm dX13_nameNumber_104 (tgt := 113) rfl (fun _ => ?_) (fun z => absurd c3 z)
    replace hf := xl_el hf; obtain ⟨v1, e_v1, hf⟩ := hf
    refine mx_S.pu (pc2 := 116) (lv2 := [(4, .int v1), (0, .ref l0), (1, .int l1), (2, .int l2), (5, .int l5)]) (st2 := []) hm dX13_nameNumber_113 (by rw [← e_v1]; rfl) ?_
    clear e_v1
    refine mx_S.pu (pc2 := 21) (lv2 := [(4, .int v1), (0, .ref l0), (1, .int l1), (2, .int l2), (5, .int l5)]) (st2 := []) hm dX13_nameNumber_116 rfl ?_
    refine mx_S.ext [(0, .ref l0), (1, .int l1), (2, .int l2), (4, .int v1)] (mx_sub_pos [1, 2, 3, 0] rfl (show ([4, 0, 1, 2, 5] : List Nat).Nodup by decide)) ?_
    exact hk_21 l0 l1 l2 v1 h _ hf
  · refine sb_if_eq hm dX13_nameNumber_104 (tgt := 113) rfl (fun z => absurd z c3) (fun _ => ?_)
    refine sx_bi (v := 16) hm dX13_nameNumber_107 (by decide) ?_
    refine mx_S.pu (pc2 := 111) (lv2 := [(0, .ref l0), (1, .int l1), (2, .int l2), (4, .int l4), (5, .int l5)]) (st2 := [.int l4, .int 16]) hm dX13_nameNumber_109 rfl ?_
    replace hf := xl_el hf; obtain ⟨v2, e_v2, hf⟩ := hf
    refine mx_S.pu (pc2 := 112) (lv2 := [(0, .ref l0), (1, .int l1), (2, .int l2), (4, .int l4), (5, .int l5)]) (st2 := [.int v2]) hm dX13_nameNumber_111 (by rw [← e_v2]; rfl) ?_
    clear e_v2
    cases hf
    exact sx_ire hm dX13_nameNumber_112 rfl rfl
set_option maxHeartbeats 4000000 in
set_option maxRecDepth 20000 in
theorem w_X13_nameNumber_51_ok (X : Nat × (Nat → Int32)) {F L : Nat} (hF : 6 ≤ F) (hL : 137 ≤ L) (nn : Nat) {kk_21 : Nat → Int32 → Int32 → Int32 → mx_H → Option (Int32 × mx_H)} (hk_21 : ∀ (l0 : Nat) (l1 : Int32) (l2 : Int32) (l4 : Int32) (h : mx_H) (r : (Int32 × mx_H)), kk_21 l0 l1 l2 l4 h = some r → mx_S X F L 525 21 [(0, .ref l0), (1, .int l1), (2, .int l2), (4, .int l4)] [] h 0 0 (some (.int r.1), r.2, 0, 0)) : ∀ (k : Nat) (l0 : Nat) (l1 : Int32) (l2 : Int32) (l4 : Int32) (l5 : Int32) (l6 : Int32) (h : mx_H) (r : (Int32 × mx_H)), w_X13_nameNumber_51 nn kk_21 k l0 l1 l2 l4 l5 l6 h = some r → mx_S X F L 525 51 [(0, .ref l0), (1, .int l1), (2, .int l2), (4, .int l4), (5, .int l5), (6, .int l6)] [] h 0 0 (some (.int r.1), r.2, 0, 0) := by
  have hm : mx_mt 525 = some (yX13_nameNumber, cX13_nameNumber, 7, (some .int)) := mt_X13_nameNumber
  intro k
  induction k with
  | zero => intro l0 l1 l2 l4 l5 l6 h r hf; cases hf
  | succ k ih =>
    intro l0 l1 l2 l4 l5 l6 h r hf
    unfold w_X13_nameNumber_51 at hf
    refine mx_S.pu (pc2 := 53) (lv2 := [(0, .ref l0), (1, .int l1), (2, .int l2), (4, .int l4), (5, .int l5), (6, .int l6)]) (st2 := [.int l6]) hm dX13_nameNumber_51 rfl ?_
    refine mx_S.pu (pc2 := 54) (lv2 := [(0, .ref l0), (1, .int l1), (2, .int l2), (4, .int l4), (5, .int l5), (6, .int l6)]) (st2 := [.int l2, .int l6]) hm dX13_nameNumber_53 rfl ?_
    rcases mx_if_el hf with ⟨c16, hf⟩ | ⟨c16, hf⟩
    · refine sb_ic_ge hm dX13_nameNumber_54 (tgt := 102) rfl (fun _ => ?_) (fun z => absurd c16 z)
      refine mx_S.ext [(0, .ref l0), (1, .int l1), (2, .int l2), (4, .int l4), (5, .int l5)] (mx_sub_pos [0, 1, 2, 3, 4] rfl (show ([0, 1, 2, 4, 5, 6] : List Nat).Nodup by decide)) ?_
      exact j_X13_nameNumber_102_ok X hF hL nn hk_21 l0 l1 l2 l4 l5 h hf
    · refine sb_ic_ge hm dX13_nameNumber_54 (tgt := 102) rfl (fun z => absurd z c16) (fun _ => ?_)
      refine mx_S.pu (pc2 := 59) (lv2 := [(0, .ref l0), (1, .int l1), (2, .int l2), (4, .int l4), (5, .int l5), (6, .int l6)]) (st2 := [.int l5]) hm dX13_nameNumber_57 rfl ?_
      rcases mx_if_el hf with ⟨c15, hf⟩ | ⟨c15, hf⟩
      · refine sb_if_eq hm dX13_nameNumber_59 (tgt := 102) rfl (fun _ => ?_) (fun z => absurd c15 z)
        refine mx_S.ext [(0, .ref l0), (1, .int l1), (2, .int l2), (4, .int l4), (5, .int l5)] (mx_sub_pos [0, 1, 2, 3, 4] rfl (show ([0, 1, 2, 4, 5, 6] : List Nat).Nodup by decide)) ?_
        exact j_X13_nameNumber_102_ok X hF hL nn hk_21 l0 l1 l2 l4 l5 h hf
      · refine sb_if_eq hm dX13_nameNumber_59 (tgt := 102) rfl (fun z => absurd z c15) (fun _ => ?_)
        refine mx_S.pu (pc2 := 63) (lv2 := [(0, .ref l0), (1, .int l1), (2, .int l2), (4, .int l4), (5, .int l5), (6, .int l6)]) (st2 := [.ref l0]) hm dX13_nameNumber_62 rfl ?_
        replace hf := mx_sv_el hf; obtain ⟨v4, e_v4, hf⟩ := hf
        refine sx_get hm dX13_nameNumber_63 rs_RX13_209 (xgr_el e_v4) ?_
        clear e_v4
        refine mx_S.pu (pc2 := 67) (lv2 := [(0, .ref l0), (1, .int l1), (2, .int l2), (4, .int l4), (5, .int l5), (6, .int l6)]) (st2 := [.ref l0, .ref v4]) hm dX13_nameNumber_66 rfl ?_
        replace hf := mx_sv_el hf; obtain ⟨v5, e_v5, hf⟩ := hf
        refine sx_get hm dX13_nameNumber_67 rs_RX13_251 (xgr_el e_v5) ?_
        clear e_v5
        refine mx_S.pu (pc2 := 72) (lv2 := [(0, .ref l0), (1, .int l1), (2, .int l2), (4, .int l4), (5, .int l5), (6, .int l6)]) (st2 := [.int l4, .ref v5, .ref v4]) hm dX13_nameNumber_70 rfl ?_
        replace hf := mx_sv_el hf; obtain ⟨v6, e_v6, hf⟩ := hf
        refine sx_ald hm dX13_nameNumber_72 e_v6 ?_
        clear e_v6
        refine mx_S.pu (pc2 := 75) (lv2 := [(0, .ref l0), (1, .int l1), (2, .int l2), (4, .int l4), (5, .int l5), (6, .int l6)]) (st2 := [.int l6, .int v6, .ref v4]) hm dX13_nameNumber_73 rfl ?_
        replace hf := xl_el hf; obtain ⟨v7, e_v7, hf⟩ := hf
        refine mx_S.pu (pc2 := 76) (lv2 := [(0, .ref l0), (1, .int l1), (2, .int l2), (4, .int l4), (5, .int l5), (6, .int l6)]) (st2 := [.int v7, .ref v4]) hm dX13_nameNumber_75 (by rw [← e_v7]; rfl) ?_
        clear e_v7
        replace hf := mx_sv_el hf; obtain ⟨v8, e_v8, hf⟩ := hf
        refine sx_ald hm dX13_nameNumber_76 e_v8 ?_
        clear e_v8
        refine mx_S.pu (pc2 := 78) (lv2 := [(0, .ref l0), (1, .int l1), (2, .int l2), (4, .int l4), (5, .int l5), (6, .int l6)]) (st2 := [.ref l0, .int v8]) hm dX13_nameNumber_77 rfl ?_
        replace hf := mx_sv_el hf; obtain ⟨v9, e_v9, hf⟩ := hf
        refine sx_get hm dX13_nameNumber_78 rs_RX13_209 (xgr_el e_v9) ?_
        clear e_v9
        refine mx_S.pu (pc2 := 82) (lv2 := [(0, .ref l0), (1, .int l1), (2, .int l2), (4, .int l4), (5, .int l5), (6, .int l6)]) (st2 := [.int l1, .ref v9, .int v8]) hm dX13_nameNumber_81 rfl ?_
        refine mx_S.pu (pc2 := 84) (lv2 := [(0, .ref l0), (1, .int l1), (2, .int l2), (4, .int l4), (5, .int l5), (6, .int l6)]) (st2 := [.int l6, .int l1, .ref v9, .int v8]) hm dX13_nameNumber_82 rfl ?_
        replace hf := xl_el hf; obtain ⟨v10, e_v10, hf⟩ := hf
        refine mx_S.pu (pc2 := 85) (lv2 := [(0, .ref l0), (1, .int l1), (2, .int l2), (4, .int l4), (5, .int l5), (6, .int l6)]) (st2 := [.int v10, .ref v9, .int v8]) hm dX13_nameNumber_84 (by rw [← e_v10]; rfl) ?_
        clear e_v10
        replace hf := mx_sv_el hf; obtain ⟨v11, e_v11, hf⟩ := hf
        refine sx_ald hm dX13_nameNumber_85 e_v11 ?_
        clear e_v11
        rcases mx_if_el hf with ⟨c14, hf⟩ | ⟨c14, hf⟩
        · refine sb_ic_ne hm dX13_nameNumber_86 (tgt := 93) rfl (fun _ => ?_) (fun z => absurd c14 z)
          refine sx_ic (v := 0) hm dX13_nameNumber_93 (by decide) ?_
          refine mx_S.pu (pc2 := 96) (lv2 := [(5, .int 0), (0, .ref l0), (1, .int l1), (2, .int l2), (4, .int l4), (6, .int l6)]) (st2 := []) hm dX13_nameNumber_94 rfl ?_
          replace hf := xl_el hf; obtain ⟨v12, e_v12, hf⟩ := hf
          refine mx_S.pu (pc2 := 99) (lv2 := [(6, .int v12), (5, .int 0), (0, .ref l0), (1, .int l1), (2, .int l2), (4, .int l4)]) (st2 := []) hm dX13_nameNumber_96 (by rw [← e_v12]; rfl) ?_
          clear e_v12
          refine mx_S.pu (pc2 := 51) (lv2 := [(6, .int v12), (5, .int 0), (0, .ref l0), (1, .int l1), (2, .int l2), (4, .int l4)]) (st2 := []) hm dX13_nameNumber_99 rfl ?_
          refine mx_S.ext [(0, .ref l0), (1, .int l1), (2, .int l2), (4, .int l4), (5, .int 0), (6, .int v12)] (mx_sub_pos [2, 3, 4, 5, 1, 0] rfl (show ([6, 5, 0, 1, 2, 4] : List Nat).Nodup by decide)) ?_
          exact ih l0 l1 l2 l4 0 v12 h _ hf
        · refine sb_ic_ne hm dX13_nameNumber_86 (tgt := 93) rfl (fun z => absurd z c14) (fun _ => ?_)
          refine sx_ic (v := 1) hm dX13_nameNumber_89 (by decide) ?_
          refine mx_S.pu (pc2 := 94) (lv2 := [(0, .ref l0), (1, .int l1), (2, .int l2), (4, .int l4), (5, .int l5), (6, .int l6)]) (st2 := [.int 1]) hm dX13_nameNumber_90 rfl ?_
          refine mx_S.pu (pc2 := 96) (lv2 := [(5, .int 1), (0, .ref l0), (1, .int l1), (2, .int l2), (4, .int l4), (6, .int l6)]) (st2 := []) hm dX13_nameNumber_94 rfl ?_
          replace hf := xl_el hf; obtain ⟨v13, e_v13, hf⟩ := hf
          refine mx_S.pu (pc2 := 99) (lv2 := [(6, .int v13), (5, .int 1), (0, .ref l0), (1, .int l1), (2, .int l2), (4, .int l4)]) (st2 := []) hm dX13_nameNumber_96 (by rw [← e_v13]; rfl) ?_
          clear e_v13
          refine mx_S.pu (pc2 := 51) (lv2 := [(6, .int v13), (5, .int 1), (0, .ref l0), (1, .int l1), (2, .int l2), (4, .int l4)]) (st2 := []) hm dX13_nameNumber_99 rfl ?_
          refine mx_S.ext [(0, .ref l0), (1, .int l1), (2, .int l2), (4, .int l4), (5, .int 1), (6, .int v13)] (mx_sub_pos [2, 3, 4, 5, 1, 0] rfl (show ([6, 5, 0, 1, 2, 4] : List Nat).Nodup by decide)) ?_
          exact ih l0 l1 l2 l4 1 v13 h _ hf
set_option maxHeartbeats 4000000 in
set_option maxRecDepth 20000 in
theorem w_X13_nameNumber_21_ok (X : Nat × (Nat → Int32)) {F L : Nat} (hF : 6 ≤ F) (hL : 137 ≤ L) (nn : Nat) : ∀ (k : Nat) (l0 : Nat) (l1 : Int32) (l2 : Int32) (l4 : Int32) (h : mx_H) (r : (Int32 × mx_H)), w_X13_nameNumber_21 nn k l0 l1 l2 l4 h = some r → mx_S X F L 525 21 [(0, .ref l0), (1, .int l1), (2, .int l2), (4, .int l4)] [] h 0 0 (some (.int r.1), r.2, 0, 0) := by
  have hm : mx_mt 525 = some (yX13_nameNumber, cX13_nameNumber, 7, (some .int)) := mt_X13_nameNumber
  intro k
  induction k with
  | zero => intro l0 l1 l2 l4 h r hf; cases hf
  | succ k ih =>
    intro l0 l1 l2 l4 h r hf
    unfold w_X13_nameNumber_21 at hf
    refine mx_S.pu (pc2 := 23) (lv2 := [(0, .ref l0), (1, .int l1), (2, .int l2), (4, .int l4)]) (st2 := [.int l4]) hm dX13_nameNumber_21 rfl ?_
    refine mx_S.pu (pc2 := 24) (lv2 := [(0, .ref l0), (1, .int l1), (2, .int l2), (4, .int l4)]) (st2 := [.ref l0, .int l4]) hm dX13_nameNumber_23 rfl ?_
    replace hf := mx_sv_el hf; obtain ⟨v17, e_v17, hf⟩ := hf
    refine sx_get hm dX13_nameNumber_24 rs_RX13_876 (xgi_el e_v17) ?_
    clear e_v17
    rcases mx_if_el hf with ⟨c33, hf⟩ | ⟨c33, hf⟩
    · refine sb_ic_ge hm dX13_nameNumber_27 (tgt := 119) rfl (fun _ => ?_) (fun z => absurd c33 z)
      refine mx_S.pu (pc2 := 120) (lv2 := [(0, .ref l0), (1, .int l1), (2, .int l2), (4, .int l4)]) (st2 := [.ref l0]) hm dX13_nameNumber_119 rfl ?_
      replace hf := mx_sv_el hf; obtain ⟨v18, e_v18, hf⟩ := hf
      refine sx_get hm dX13_nameNumber_120 rs_RX13_251 (xgr_el e_v18) ?_
      clear e_v18
      refine mx_S.pu (pc2 := 124) (lv2 := [(0, .ref l0), (1, .int l1), (2, .int l2), (4, .int l4)]) (st2 := [.ref l0, .ref v18]) hm dX13_nameNumber_123 rfl ?_
      replace hf := mx_sv_el hf; obtain ⟨v19, e_v19, hf⟩ := hf
      refine sx_get hm dX13_nameNumber_124 rs_RX13_876 (xgi_el e_v19) ?_
      clear e_v19
      refine mx_S.pu (pc2 := 128) (lv2 := [(0, .ref l0), (1, .int l1), (2, .int l2), (4, .int l4)]) (st2 := [.int l1, .int v19, .ref v18]) hm dX13_nameNumber_127 rfl ?_
      replace hf := mx_sv_el hf; obtain ⟨h20, e_h20, hf⟩ := hf
      refine sx_ast hm dX13_nameNumber_128 e_h20 ?_
      clear e_h20
      refine mx_S.pu (pc2 := 130) (lv2 := [(0, .ref l0), (1, .int l1), (2, .int l2), (4, .int l4)]) (st2 := [.ref l0]) hm dX13_nameNumber_129 rfl ?_
      replace hf := mx_sv_el hf; obtain ⟨v21, e_v21, hf⟩ := hf
      refine sx_get hm dX13_nameNumber_130 rs_RX13_254 (xgr_el e_v21) ?_
      clear e_v21
      refine mx_S.pu (pc2 := 134) (lv2 := [(0, .ref l0), (1, .int l1), (2, .int l2), (4, .int l4)]) (st2 := [.ref l0, .ref v21]) hm dX13_nameNumber_133 rfl ?_
      replace hf := mx_sv_el hf; obtain ⟨v22, e_v22, hf⟩ := hf
      refine sx_get hm dX13_nameNumber_134 rs_RX13_876 (xgi_el e_v22) ?_
      clear e_v22
      refine mx_S.pu (pc2 := 138) (lv2 := [(0, .ref l0), (1, .int l1), (2, .int l2), (4, .int l4)]) (st2 := [.int l2, .int v22, .ref v21]) hm dX13_nameNumber_137 rfl ?_
      replace hf := mx_sv_el hf; obtain ⟨h23, e_h23, hf⟩ := hf
      refine sx_ast hm dX13_nameNumber_138 e_h23 ?_
      clear e_h23
      refine mx_S.pu (pc2 := 140) (lv2 := [(0, .ref l0), (1, .int l1), (2, .int l2), (4, .int l4)]) (st2 := [.ref l0]) hm dX13_nameNumber_139 rfl ?_
      refine mx_S.pu (pc2 := 141) (lv2 := [(0, .ref l0), (1, .int l1), (2, .int l2), (4, .int l4)]) (st2 := [.ref l0, .ref l0]) hm dX13_nameNumber_140 rfl ?_
      replace hf := mx_sv_el hf; obtain ⟨v24, e_v24, hf⟩ := hf
      refine sx_get hm dX13_nameNumber_141 rs_RX13_876 (xgi_el e_v24) ?_
      clear e_v24
      refine sx_ic (v := 1) hm dX13_nameNumber_144 (by decide) ?_
      replace hf := xl_el hf; obtain ⟨v25, e_v25, hf⟩ := hf
      refine mx_S.pu (pc2 := 146) (lv2 := [(0, .ref l0), (1, .int l1), (2, .int l2), (4, .int l4)]) (st2 := [.int v25, .ref l0]) hm dX13_nameNumber_145 (by rw [← e_v25]; rfl) ?_
      clear e_v25
      replace hf := mx_sv_el hf; obtain ⟨h26, e_h26, hf⟩ := hf
      refine sx_put hm dX13_nameNumber_146 rs_RX13_876 ft_13_117 ⟨rfl, rfl⟩ (fun z => by cases z) e_h26 ?_
      clear e_h26
      refine sx_bi (v := 16) hm dX13_nameNumber_149 (by decide) ?_
      refine mx_S.pu (pc2 := 152) (lv2 := [(0, .ref l0), (1, .int l1), (2, .int l2), (4, .int l4)]) (st2 := [.ref l0, .int 16]) hm dX13_nameNumber_151 rfl ?_
      replace hf := mx_sv_el hf; obtain ⟨v27, e_v27, hf⟩ := hf
      refine sx_get hm dX13_nameNumber_152 rs_RX13_876 (xgi_el e_v27) ?_
      clear e_v27
      replace hf := xl_el hf; obtain ⟨v28, e_v28, hf⟩ := hf
      refine mx_S.pu (pc2 := 156) (lv2 := [(0, .ref l0), (1, .int l1), (2, .int l2), (4, .int l4)]) (st2 := [.int v28]) hm dX13_nameNumber_155 (by rw [← e_v28]; rfl) ?_
      clear e_v28
      refine sx_ic (v := 1) hm dX13_nameNumber_156 (by decide) ?_
      replace hf := xl_el hf; obtain ⟨v29, e_v29, hf⟩ := hf
      refine mx_S.pu (pc2 := 158) (lv2 := [(0, .ref l0), (1, .int l1), (2, .int l2), (4, .int l4)]) (st2 := [.int v29]) hm dX13_nameNumber_157 (by rw [← e_v29]; rfl) ?_
      clear e_v29
      cases hf
      exact sx_ire hm dX13_nameNumber_158 rfl rfl
    · refine sb_ic_ge hm dX13_nameNumber_27 (tgt := 119) rfl (fun z => absurd z c33) (fun _ => ?_)
      refine mx_S.pu (pc2 := 31) (lv2 := [(0, .ref l0), (1, .int l1), (2, .int l2), (4, .int l4)]) (st2 := [.ref l0]) hm dX13_nameNumber_30 rfl ?_
      replace hf := mx_sv_el hf; obtain ⟨v30, e_v30, hf⟩ := hf
      refine sx_get hm dX13_nameNumber_31 rs_RX13_254 (xgr_el e_v30) ?_
      clear e_v30
      refine mx_S.pu (pc2 := 36) (lv2 := [(0, .ref l0), (1, .int l1), (2, .int l2), (4, .int l4)]) (st2 := [.int l4, .ref v30]) hm dX13_nameNumber_34 rfl ?_
      replace hf := mx_sv_el hf; obtain ⟨v31, e_v31, hf⟩ := hf
      refine sx_ald hm dX13_nameNumber_36 e_v31 ?_
      clear e_v31
      refine mx_S.pu (pc2 := 38) (lv2 := [(0, .ref l0), (1, .int l1), (2, .int l2), (4, .int l4)]) (st2 := [.int l2, .int v31]) hm dX13_nameNumber_37 rfl ?_
      rcases mx_if_el hf with ⟨c32, hf⟩ | ⟨c32, hf⟩
      · refine sb_ic_ne hm dX13_nameNumber_38 (tgt := 45) rfl (fun _ => ?_) (fun z => absurd c32 z)
        refine sx_ic (v := 0) hm dX13_nameNumber_45 (by decide) ?_
        refine mx_S.pu (pc2 := 48) (lv2 := [(5, .int 0), (0, .ref l0), (1, .int l1), (2, .int l2), (4, .int l4)]) (st2 := []) hm dX13_nameNumber_46 rfl ?_
        refine sx_ic (v := 0) hm dX13_nameNumber_48 (by decide) ?_
        refine mx_S.pu (pc2 := 51) (lv2 := [(6, .int 0), (5, .int 0), (0, .ref l0), (1, .int l1), (2, .int l2), (4, .int l4)]) (st2 := []) hm dX13_nameNumber_49 rfl ?_
        refine mx_S.ext [(0, .ref l0), (1, .int l1), (2, .int l2), (4, .int l4), (5, .int 0), (6, .int 0)] (mx_sub_pos [2, 3, 4, 5, 1, 0] rfl (show ([6, 5, 0, 1, 2, 4] : List Nat).Nodup by decide)) ?_
        exact w_X13_nameNumber_51_ok X hF hL nn ih nn l0 l1 l2 l4 0 0 h _ hf
      · refine sb_ic_ne hm dX13_nameNumber_38 (tgt := 45) rfl (fun z => absurd z c32) (fun _ => ?_)
        refine sx_ic (v := 1) hm dX13_nameNumber_41 (by decide) ?_
        refine mx_S.pu (pc2 := 46) (lv2 := [(0, .ref l0), (1, .int l1), (2, .int l2), (4, .int l4)]) (st2 := [.int 1]) hm dX13_nameNumber_42 rfl ?_
        refine mx_S.pu (pc2 := 48) (lv2 := [(5, .int 1), (0, .ref l0), (1, .int l1), (2, .int l2), (4, .int l4)]) (st2 := []) hm dX13_nameNumber_46 rfl ?_
        refine sx_ic (v := 0) hm dX13_nameNumber_48 (by decide) ?_
        refine mx_S.pu (pc2 := 51) (lv2 := [(6, .int 0), (5, .int 1), (0, .ref l0), (1, .int l1), (2, .int l2), (4, .int l4)]) (st2 := []) hm dX13_nameNumber_49 rfl ?_
        refine mx_S.ext [(0, .ref l0), (1, .int l1), (2, .int l2), (4, .int l4), (5, .int 1), (6, .int 0)] (mx_sub_pos [2, 3, 4, 5, 1, 0] rfl (show ([6, 5, 0, 1, 2, 4] : List Nat).Nodup by decide)) ?_
        exact w_X13_nameNumber_51_ok X hF hL nn ih nn l0 l1 l2 l4 1 0 h _ hf
set_option maxHeartbeats 4000000 in
set_option maxRecDepth 20000 in
theorem f_X13_nameNumber_ok (X : Nat × (Nat → Int32)) {F L : Nat} (hF : 6 ≤ F) (hL : 137 ≤ L) (nn : Nat) (a0 : Nat) (a1 : Int32) (a2 : Int32) (h : mx_H) {r : (Int32 × mx_H)} (hf : f_X13_nameNumber nn a0 a1 a2 h = some r) : mx_R X F L 525 [.ref a0, .int a1, .int a2] h (some (.int r.1), r.2, 0, 0) := by
  have hm : mx_mt 525 = some (yX13_nameNumber, cX13_nameNumber, 7, (some .int)) := mt_X13_nameNumber
  show mx_S X F L 525 0 [(0, .ref a0), (1, .int a1), (2, .int a2)] [] h 0 0 (some (.int r.1), r.2, 0, 0)
  unfold f_X13_nameNumber at hf
  refine mx_S.pu (pc2 := 1) (lv2 := [(0, .ref a0), (1, .int a1), (2, .int a2)]) (st2 := [.ref a0]) hm dX13_nameNumber_0 rfl ?_
  refine mx_S.pu (pc2 := 2) (lv2 := [(0, .ref a0), (1, .int a1), (2, .int a2)]) (st2 := [.ref a0, .ref a0]) hm dX13_nameNumber_1 rfl ?_
  replace hf := mx_sv_el hf; obtain ⟨v34, e_v34, hf⟩ := hf
  refine sx_get hm dX13_nameNumber_2 rs_RX13_209 (xgr_el e_v34) ?_
  clear e_v34
  refine mx_S.pu (pc2 := 6) (lv2 := [(0, .ref a0), (1, .int a1), (2, .int a2)]) (st2 := [.int a1, .ref v34, .ref a0]) hm dX13_nameNumber_5 rfl ?_
  refine mx_S.pu (pc2 := 7) (lv2 := [(0, .ref a0), (1, .int a1), (2, .int a2)]) (st2 := [.int a2, .int a1, .ref v34, .ref a0]) hm dX13_nameNumber_6 rfl ?_
  replace hf := mx_gd_el hf; obtain ⟨c35, hf⟩ := hf
  replace hf := mx_sv_el hf; obtain ⟨u36, e_u36, hf⟩ := hf
  refine sx_cv hm dX13_nameNumber_7 rs_RX13_849 mt_X13_classNamed [.ref v34, .int a1, .int a2] [] (b := a0) (ci := 13) rfl rfl rfl c35 (Nat.le_of_ble_eq_true rfl) (Nat.le_of_ble_eq_true rfl) (by omega) (by omega) (f_X13_classNamed_ok X (by omega) (by omega) nn a0 v34 a1 a2 h e_u36) ?_
  clear e_u36
  show mx_S X F L 525 10 [(0, .ref a0), (1, .int a1), (2, .int a2)] [.int u36.1] u36.2 0 0 (some (.int r.1), r.2, 0, 0)
  refine mx_S.pu (pc2 := 11) (lv2 := [(3, .int u36.1), (0, .ref a0), (1, .int a1), (2, .int a2)]) (st2 := []) hm dX13_nameNumber_10 rfl ?_
  refine mx_S.pu (pc2 := 12) (lv2 := [(3, .int u36.1), (0, .ref a0), (1, .int a1), (2, .int a2)]) (st2 := [.int u36.1]) hm dX13_nameNumber_11 rfl ?_
  refine sx_ic (v := (-1)) hm dX13_nameNumber_12 (by decide) ?_
  rcases mx_if_el hf with ⟨c37, hf⟩ | ⟨c37, hf⟩
  · refine sb_ic_eq hm dX13_nameNumber_13 (tgt := 18) rfl (fun _ => ?_) (fun z => absurd c37 z)
    refine sx_ic (v := 0) hm dX13_nameNumber_18 (by decide) ?_
    refine mx_S.pu (pc2 := 21) (lv2 := [(4, .int 0), (3, .int u36.1), (0, .ref a0), (1, .int a1), (2, .int a2)]) (st2 := []) hm dX13_nameNumber_19 rfl ?_
    refine mx_S.ext [(0, .ref a0), (1, .int a1), (2, .int a2), (4, .int 0)] (mx_sub_pos [2, 3, 4, 0] rfl (show ([4, 3, 0, 1, 2] : List Nat).Nodup by decide)) ?_
    exact w_X13_nameNumber_21_ok X hF hL nn nn a0 a1 a2 0 u36.2 _ hf
  · refine sb_ic_eq hm dX13_nameNumber_13 (tgt := 18) rfl (fun z => absurd z c37) (fun _ => ?_)
    refine mx_S.pu (pc2 := 17) (lv2 := [(3, .int u36.1), (0, .ref a0), (1, .int a1), (2, .int a2)]) (st2 := [.int u36.1]) hm dX13_nameNumber_16 rfl ?_
    cases hf
    exact sx_ire hm dX13_nameNumber_17 rfl rfl
set_option maxHeartbeats 4000000 in
set_option maxRecDepth 20000 in
theorem w_X13_typeAt_75_ok (X : Nat × (Nat → Int32)) {F L : Nat} (hF : 7 ≤ F) (hL : 163 ≤ L) (nn : Nat) : ∀ (k : Nat) (l0 : Nat) (l2 : Int32) (l3 : Int32) (l4 : Int32) (h : mx_H) (r : (Int32 × mx_H)), w_X13_typeAt_75 nn k l0 l2 l3 l4 h = some r → mx_S X F L 526 75 [(0, .ref l0), (2, .int l2), (3, .int l3), (4, .int l4)] [] h 0 0 (some (.int r.1), r.2, 0, 0) := by
  have hm : mx_mt 526 = some (yX13_typeAt, cX13_typeAt, 5, (some .int)) := mt_X13_typeAt
  intro k
  induction k with
  | zero => intro l0 l2 l3 l4 h r hf; cases hf
  | succ k ih =>
    intro l0 l2 l3 l4 h r hf
    unfold w_X13_typeAt_75 at hf
    refine mx_S.pu (pc2 := 76) (lv2 := [(0, .ref l0), (2, .int l2), (3, .int l3), (4, .int l4)]) (st2 := [.ref l0]) hm dX13_typeAt_75 rfl ?_
    replace hf := mx_sv_el hf; obtain ⟨v1, e_v1, hf⟩ := hf
    refine sx_get hm dX13_typeAt_76 rs_RX13_209 (xgr_el e_v1) ?_
    clear e_v1
    refine mx_S.pu (pc2 := 81) (lv2 := [(0, .ref l0), (2, .int l2), (3, .int l3), (4, .int l4)]) (st2 := [.int l4, .ref v1]) hm dX13_typeAt_79 rfl ?_
    replace hf := mx_sv_el hf; obtain ⟨v2, e_v2, hf⟩ := hf
    refine sx_ald hm dX13_typeAt_81 e_v2 ?_
    clear e_v2
    refine sx_bi (v := 59) hm dX13_typeAt_82 (by decide) ?_
    rcases mx_if_el hf with ⟨c16, hf⟩ | ⟨c16, hf⟩
    · refine sb_ic_eq hm dX13_typeAt_84 (tgt := 93) rfl (fun _ => ?_) (fun z => absurd c16 z)
      refine mx_S.pu (pc2 := 94) (lv2 := [(0, .ref l0), (2, .int l2), (3, .int l3), (4, .int l4)]) (st2 := [.ref l0]) hm dX13_typeAt_93 rfl ?_
      refine mx_S.pu (pc2 := 96) (lv2 := [(0, .ref l0), (2, .int l2), (3, .int l3), (4, .int l4)]) (st2 := [.int l4, .ref l0]) hm dX13_typeAt_94 rfl ?_
      refine sx_ic (v := 1) hm dX13_typeAt_96 (by decide) ?_
      replace hf := xl_el hf; obtain ⟨v3, e_v3, hf⟩ := hf
      refine mx_S.pu (pc2 := 98) (lv2 := [(0, .ref l0), (2, .int l2), (3, .int l3), (4, .int l4)]) (st2 := [.int v3, .ref l0]) hm dX13_typeAt_97 (by rw [← e_v3]; rfl) ?_
      clear e_v3
      replace hf := mx_sv_el hf; obtain ⟨h4, e_h4, hf⟩ := hf
      refine sx_put hm dX13_typeAt_98 rs_RX13_879 ft_13_120 ⟨rfl, rfl⟩ (fun z => by cases z) e_h4 ?_
      clear e_h4
      refine sx_ic (v := 4) hm dX13_typeAt_101 (by decide) ?_
      refine sx_ic (v := 2) hm dX13_typeAt_102 (by decide) ?_
      refine mx_S.pu (pc2 := 104) (lv2 := [(0, .ref l0), (2, .int l2), (3, .int l3), (4, .int l4)]) (st2 := [.ref l0, .int 2, .int 4]) hm dX13_typeAt_103 rfl ?_
      refine mx_S.pu (pc2 := 105) (lv2 := [(0, .ref l0), (2, .int l2), (3, .int l3), (4, .int l4)]) (st2 := [.int l3, .ref l0, .int 2, .int 4]) hm dX13_typeAt_104 rfl ?_
      refine sx_ic (v := 1) hm dX13_typeAt_105 (by decide) ?_
      replace hf := xl_el hf; obtain ⟨v5, e_v5, hf⟩ := hf
      refine mx_S.pu (pc2 := 107) (lv2 := [(0, .ref l0), (2, .int l2), (3, .int l3), (4, .int l4)]) (st2 := [.int v5, .ref l0, .int 2, .int 4]) hm dX13_typeAt_106 (by rw [← e_v5]; rfl) ?_
      clear e_v5
      refine mx_S.pu (pc2 := 109) (lv2 := [(0, .ref l0), (2, .int l2), (3, .int l3), (4, .int l4)]) (st2 := [.int l4, .int v5, .ref l0, .int 2, .int 4]) hm dX13_typeAt_107 rfl ?_
      refine mx_S.pu (pc2 := 110) (lv2 := [(0, .ref l0), (2, .int l2), (3, .int l3), (4, .int l4)]) (st2 := [.int l3, .int l4, .int v5, .ref l0, .int 2, .int 4]) hm dX13_typeAt_109 rfl ?_
      replace hf := xl_el hf; obtain ⟨v6, e_v6, hf⟩ := hf
      refine mx_S.pu (pc2 := 111) (lv2 := [(0, .ref l0), (2, .int l2), (3, .int l3), (4, .int l4)]) (st2 := [.int v6, .int v5, .ref l0, .int 2, .int 4]) hm dX13_typeAt_110 (by rw [← e_v6]; rfl) ?_
      clear e_v6
      refine sx_ic (v := 1) hm dX13_typeAt_111 (by decide) ?_
      replace hf := xl_el hf; obtain ⟨v7, e_v7, hf⟩ := hf
      refine mx_S.pu (pc2 := 113) (lv2 := [(0, .ref l0), (2, .int l2), (3, .int l3), (4, .int l4)]) (st2 := [.int v7, .int v5, .ref l0, .int 2, .int 4]) hm dX13_typeAt_112 (by rw [← e_v7]; rfl) ?_
      clear e_v7
      replace hf := mx_gd_el hf; obtain ⟨c8, hf⟩ := hf
      replace hf := mx_sv_el hf; obtain ⟨u9, e_u9, hf⟩ := hf
      refine sx_cv hm dX13_typeAt_113 rs_RX13_882 mt_X13_nameNumber [.int v5, .int v7] [.int 2, .int 4] (b := l0) (ci := 13) rfl rfl rfl c8 (Nat.le_of_ble_eq_true rfl) (Nat.le_of_ble_eq_true rfl) (by omega) (by omega) (f_X13_nameNumber_ok X (by omega) (by omega) nn l0 v5 v7 h4 e_u9) ?_
      clear e_u9
      show mx_S X F L 526 116 [(0, .ref l0), (2, .int l2), (3, .int l3), (4, .int l4)] [.int u9.1, .int 2, .int 4] u9.2 0 0 (some (.int r.1), r.2, 0, 0)
      replace hf := xl_el hf; obtain ⟨v10, e_v10, hf⟩ := hf
      refine mx_S.pu (pc2 := 117) (lv2 := [(0, .ref l0), (2, .int l2), (3, .int l3), (4, .int l4)]) (st2 := [.int v10, .int 4]) hm dX13_typeAt_116 (by rw [← e_v10]; rfl) ?_
      clear e_v10
      replace hf := xl_el hf; obtain ⟨v11, e_v11, hf⟩ := hf
      refine mx_S.pu (pc2 := 118) (lv2 := [(0, .ref l0), (2, .int l2), (3, .int l3), (4, .int l4)]) (st2 := [.int v11]) hm dX13_typeAt_117 (by rw [← e_v11]; rfl) ?_
      clear e_v11
      refine mx_S.pu (pc2 := 119) (lv2 := [(0, .ref l0), (2, .int l2), (3, .int l3), (4, .int l4)]) (st2 := [.int l2, .int v11]) hm dX13_typeAt_118 rfl ?_
      refine sx_bi (v := 91) hm dX13_typeAt_119 (by decide) ?_
      rcases mx_if_el hf with ⟨c14, hf⟩ | ⟨c14, hf⟩
      · refine sb_ic_ne hm dX13_typeAt_121 (tgt := 128) rfl (fun _ => ?_) (fun z => absurd c14 z)
        refine sx_ic (v := 0) hm dX13_typeAt_128 (by decide) ?_
        replace hf := xl_el hf; obtain ⟨v12, e_v12, hf⟩ := hf
        refine mx_S.pu (pc2 := 130) (lv2 := [(0, .ref l0), (2, .int l2), (3, .int l3), (4, .int l4)]) (st2 := [.int v12]) hm dX13_typeAt_129 (by rw [← e_v12]; rfl) ?_
        clear e_v12
        cases hf
        exact sx_ire hm dX13_typeAt_130 rfl rfl
      · refine sb_ic_ne hm dX13_typeAt_121 (tgt := 128) rfl (fun z => absurd z c14) (fun _ => ?_)
        refine sx_ic (v := 1) hm dX13_typeAt_124 (by decide) ?_
        refine mx_S.pu (pc2 := 129) (lv2 := [(0, .ref l0), (2, .int l2), (3, .int l3), (4, .int l4)]) (st2 := [.int 1, .int v11]) hm dX13_typeAt_125 rfl ?_
        replace hf := xl_el hf; obtain ⟨v13, e_v13, hf⟩ := hf
        refine mx_S.pu (pc2 := 130) (lv2 := [(0, .ref l0), (2, .int l2), (3, .int l3), (4, .int l4)]) (st2 := [.int v13]) hm dX13_typeAt_129 (by rw [← e_v13]; rfl) ?_
        clear e_v13
        cases hf
        exact sx_ire hm dX13_typeAt_130 rfl rfl
    · refine sb_ic_eq hm dX13_typeAt_84 (tgt := 93) rfl (fun z => absurd z c16) (fun _ => ?_)
      replace hf := xl_el hf; obtain ⟨v15, e_v15, hf⟩ := hf
      refine mx_S.pu (pc2 := 90) (lv2 := [(4, .int v15), (0, .ref l0), (2, .int l2), (3, .int l3)]) (st2 := []) hm dX13_typeAt_87 (by rw [← e_v15]; rfl) ?_
      clear e_v15
      refine mx_S.pu (pc2 := 75) (lv2 := [(4, .int v15), (0, .ref l0), (2, .int l2), (3, .int l3)]) (st2 := []) hm dX13_typeAt_90 rfl ?_
      refine mx_S.ext [(0, .ref l0), (2, .int l2), (3, .int l3), (4, .int v15)] (mx_sub_pos [1, 2, 3, 0] rfl (show ([4, 0, 2, 3] : List Nat).Nodup by decide)) ?_
      exact ih l0 l2 l3 v15 h _ hf
set_option maxHeartbeats 4000000 in
set_option maxRecDepth 20000 in
theorem j_X13_typeAt_49_ok (X : Nat × (Nat → Int32)) {F L : Nat} (hF : 7 ≤ F) (hL : 163 ≤ L) (nn : Nat) (l0 : Nat) (l2 : Int32) (s0 : Int32) (h : mx_H) {r : (Int32 × mx_H)} (hf : j_X13_typeAt_49 nn l0 l2 s0 h = some r) : mx_S X F L 526 49 [(0, .ref l0), (2, .int l2)] [.int s0] h 0 0 (some (.int r.1), r.2, 0, 0) := by
  have hm : mx_mt 526 = some (yX13_typeAt, cX13_typeAt, 5, (some .int)) := mt_X13_typeAt
  unfold j_X13_typeAt_49 at hf
  refine mx_S.pu (pc2 := 50) (lv2 := [(3, .int s0), (0, .ref l0), (2, .int l2)]) (st2 := []) hm dX13_typeAt_49 rfl ?_
  refine mx_S.pu (pc2 := 51) (lv2 := [(3, .int s0), (0, .ref l0), (2, .int l2)]) (st2 := [.ref l0]) hm dX13_typeAt_50 rfl ?_
  replace hf := mx_sv_el hf; obtain ⟨v17, e_v17, hf⟩ := hf
  refine sx_get hm dX13_typeAt_51 rs_RX13_209 (xgr_el e_v17) ?_
  clear e_v17
  refine mx_S.pu (pc2 := 55) (lv2 := [(3, .int s0), (0, .ref l0), (2, .int l2)]) (st2 := [.int s0, .ref v17]) hm dX13_typeAt_54 rfl ?_
  replace hf := mx_sv_el hf; obtain ⟨v18, e_v18, hf⟩ := hf
  refine sx_ald hm dX13_typeAt_55 e_v18 ?_
  clear e_v18
  refine sx_bi (v := 73) hm dX13_typeAt_56 (by decide) ?_
  rcases mx_if_el hf with ⟨c22, hf⟩ | ⟨c22, hf⟩
  · refine sb_ic_ne hm dX13_typeAt_58 (tgt := 70) rfl (fun _ => ?_) (fun z => absurd c22 z)
    refine mx_S.pu (pc2 := 71) (lv2 := [(3, .int s0), (0, .ref l0), (2, .int l2)]) (st2 := [.int s0]) hm dX13_typeAt_70 rfl ?_
    refine sx_ic (v := 1) hm dX13_typeAt_71 (by decide) ?_
    replace hf := xl_el hf; obtain ⟨v19, e_v19, hf⟩ := hf
    refine mx_S.pu (pc2 := 73) (lv2 := [(3, .int s0), (0, .ref l0), (2, .int l2)]) (st2 := [.int v19]) hm dX13_typeAt_72 (by rw [← e_v19]; rfl) ?_
    clear e_v19
    refine mx_S.pu (pc2 := 75) (lv2 := [(4, .int v19), (3, .int s0), (0, .ref l0), (2, .int l2)]) (st2 := []) hm dX13_typeAt_73 rfl ?_
    refine mx_S.ext [(0, .ref l0), (2, .int l2), (3, .int s0), (4, .int v19)] (mx_sub_pos [2, 3, 1, 0] rfl (show ([4, 3, 0, 2] : List Nat).Nodup by decide)) ?_
    exact w_X13_typeAt_75_ok X hF hL nn nn l0 l2 s0 v19 h _ hf
  · refine sb_ic_ne hm dX13_typeAt_58 (tgt := 70) rfl (fun z => absurd z c22) (fun _ => ?_)
    refine mx_S.pu (pc2 := 62) (lv2 := [(3, .int s0), (0, .ref l0), (2, .int l2)]) (st2 := [.ref l0]) hm dX13_typeAt_61 rfl ?_
    refine mx_S.pu (pc2 := 63) (lv2 := [(3, .int s0), (0, .ref l0), (2, .int l2)]) (st2 := [.int s0, .ref l0]) hm dX13_typeAt_62 rfl ?_
    refine sx_ic (v := 1) hm dX13_typeAt_63 (by decide) ?_
    replace hf := xl_el hf; obtain ⟨v20, e_v20, hf⟩ := hf
    refine mx_S.pu (pc2 := 65) (lv2 := [(3, .int s0), (0, .ref l0), (2, .int l2)]) (st2 := [.int v20, .ref l0]) hm dX13_typeAt_64 (by rw [← e_v20]; rfl) ?_
    clear e_v20
    replace hf := mx_sv_el hf; obtain ⟨h21, e_h21, hf⟩ := hf
    refine sx_put hm dX13_typeAt_65 rs_RX13_879 ft_13_120 ⟨rfl, rfl⟩ (fun z => by cases z) e_h21 ?_
    clear e_h21
    refine sx_ic (v := 3) hm dX13_typeAt_68 (by decide) ?_
    cases hf
    exact sx_ire hm dX13_typeAt_69 rfl rfl
set_option maxHeartbeats 4000000 in
set_option maxRecDepth 20000 in
theorem f_X13_typeAt_ok (X : Nat × (Nat → Int32)) {F L : Nat} (hF : 7 ≤ F) (hL : 163 ≤ L) (nn : Nat) (a0 : Nat) (a1 : Int32) (h : mx_H) {r : (Int32 × mx_H)} (hf : f_X13_typeAt nn a0 a1 h = some r) : mx_R X F L 526 [.ref a0, .int a1] h (some (.int r.1), r.2, 0, 0) := by
  have hm : mx_mt 526 = some (yX13_typeAt, cX13_typeAt, 5, (some .int)) := mt_X13_typeAt
  show mx_S X F L 526 0 [(0, .ref a0), (1, .int a1)] [] h 0 0 (some (.int r.1), r.2, 0, 0)
  unfold f_X13_typeAt at hf
  refine mx_S.pu (pc2 := 1) (lv2 := [(0, .ref a0), (1, .int a1)]) (st2 := [.ref a0]) hm dX13_typeAt_0 rfl ?_
  replace hf := mx_sv_el hf; obtain ⟨v23, e_v23, hf⟩ := hf
  refine sx_get hm dX13_typeAt_1 rs_RX13_209 (xgr_el e_v23) ?_
  clear e_v23
  refine mx_S.pu (pc2 := 5) (lv2 := [(0, .ref a0), (1, .int a1)]) (st2 := [.int a1, .ref v23]) hm dX13_typeAt_4 rfl ?_
  replace hf := mx_sv_el hf; obtain ⟨v24, e_v24, hf⟩ := hf
  refine sx_ald hm dX13_typeAt_5 e_v24 ?_
  clear e_v24
  refine mx_S.pu (pc2 := 7) (lv2 := [(2, .int v24), (0, .ref a0), (1, .int a1)]) (st2 := []) hm dX13_typeAt_6 rfl ?_
  refine mx_S.pu (pc2 := 8) (lv2 := [(2, .int v24), (0, .ref a0), (1, .int a1)]) (st2 := [.ref a0]) hm dX13_typeAt_7 rfl ?_
  refine mx_S.pu (pc2 := 9) (lv2 := [(2, .int v24), (0, .ref a0), (1, .int a1)]) (st2 := [.int a1, .ref a0]) hm dX13_typeAt_8 rfl ?_
  refine sx_ic (v := 1) hm dX13_typeAt_9 (by decide) ?_
  replace hf := xl_el hf; obtain ⟨v25, e_v25, hf⟩ := hf
  refine mx_S.pu (pc2 := 11) (lv2 := [(2, .int v24), (0, .ref a0), (1, .int a1)]) (st2 := [.int v25, .ref a0]) hm dX13_typeAt_10 (by rw [← e_v25]; rfl) ?_
  clear e_v25
  replace hf := mx_sv_el hf; obtain ⟨h26, e_h26, hf⟩ := hf
  refine sx_put hm dX13_typeAt_11 rs_RX13_879 ft_13_120 ⟨rfl, rfl⟩ (fun z => by cases z) e_h26 ?_
  clear e_h26
  refine mx_S.pu (pc2 := 15) (lv2 := [(2, .int v24), (0, .ref a0), (1, .int a1)]) (st2 := [.int v24]) hm dX13_typeAt_14 rfl ?_
  refine sx_bi (v := 73) hm dX13_typeAt_15 (by decide) ?_
  rcases mx_if_el hf with ⟨c31, hf⟩ | ⟨c31, hf⟩
  · refine sb_ic_eq hm dX13_typeAt_17 (tgt := 26) rfl (fun _ => ?_) (fun z => absurd c31 z)
    refine sx_ic (v := 1) hm dX13_typeAt_26 (by decide) ?_
    cases hf
    exact sx_ire hm dX13_typeAt_27 rfl rfl
  · refine sb_ic_eq hm dX13_typeAt_17 (tgt := 26) rfl (fun z => absurd z c31) (fun _ => ?_)
    refine mx_S.pu (pc2 := 21) (lv2 := [(2, .int v24), (0, .ref a0), (1, .int a1)]) (st2 := [.int v24]) hm dX13_typeAt_20 rfl ?_
    refine sx_bi (v := 90) hm dX13_typeAt_21 (by decide) ?_
    rcases mx_if_el hf with ⟨c30, hf⟩ | ⟨c30, hf⟩
    · refine sb_ic_ne hm dX13_typeAt_23 (tgt := 28) rfl (fun _ => ?_) (fun z => absurd c30 z)
      refine mx_S.pu (pc2 := 29) (lv2 := [(2, .int v24), (0, .ref a0), (1, .int a1)]) (st2 := [.int v24]) hm dX13_typeAt_28 rfl ?_
      refine sx_bi (v := 86) hm dX13_typeAt_29 (by decide) ?_
      rcases mx_if_el hf with ⟨c29, hf⟩ | ⟨c29, hf⟩
      · refine sb_ic_ne hm dX13_typeAt_31 (tgt := 36) rfl (fun _ => ?_) (fun z => absurd c29 z)
        refine mx_S.pu (pc2 := 37) (lv2 := [(2, .int v24), (0, .ref a0), (1, .int a1)]) (st2 := [.int v24]) hm dX13_typeAt_36 rfl ?_
        refine sx_bi (v := 91) hm dX13_typeAt_37 (by decide) ?_
        rcases mx_if_el hf with ⟨c28, hf⟩ | ⟨c28, hf⟩
        · refine sb_ic_ne hm dX13_typeAt_39 (tgt := 48) rfl (fun _ => ?_) (fun z => absurd c28 z)
          refine mx_S.pu (pc2 := 49) (lv2 := [(2, .int v24), (0, .ref a0), (1, .int a1)]) (st2 := [.int a1]) hm dX13_typeAt_48 rfl ?_
          refine mx_S.ext [(0, .ref a0), (2, .int v24)] (mx_sub_pos [1, 0] rfl (show ([2, 0, 1] : List Nat).Nodup by decide)) ?_
          exact j_X13_typeAt_49_ok X hF hL nn a0 v24 a1 h26 hf
        · refine sb_ic_ne hm dX13_typeAt_39 (tgt := 48) rfl (fun z => absurd z c28) (fun _ => ?_)
          refine mx_S.pu (pc2 := 43) (lv2 := [(2, .int v24), (0, .ref a0), (1, .int a1)]) (st2 := [.int a1]) hm dX13_typeAt_42 rfl ?_
          refine sx_ic (v := 1) hm dX13_typeAt_43 (by decide) ?_
          replace hf := xl_el hf; obtain ⟨v27, e_v27, hf⟩ := hf
          refine mx_S.pu (pc2 := 45) (lv2 := [(2, .int v24), (0, .ref a0), (1, .int a1)]) (st2 := [.int v27]) hm dX13_typeAt_44 (by rw [← e_v27]; rfl) ?_
          clear e_v27
          refine mx_S.pu (pc2 := 49) (lv2 := [(2, .int v24), (0, .ref a0), (1, .int a1)]) (st2 := [.int v27]) hm dX13_typeAt_45 rfl ?_
          refine mx_S.ext [(0, .ref a0), (2, .int v24)] (mx_sub_pos [1, 0] rfl (show ([2, 0, 1] : List Nat).Nodup by decide)) ?_
          exact j_X13_typeAt_49_ok X hF hL nn a0 v24 v27 h26 hf
      · refine sb_ic_ne hm dX13_typeAt_31 (tgt := 36) rfl (fun z => absurd z c29) (fun _ => ?_)
        refine sx_ic (v := 0) hm dX13_typeAt_34 (by decide) ?_
        cases hf
        exact sx_ire hm dX13_typeAt_35 rfl rfl
    · refine sb_ic_ne hm dX13_typeAt_23 (tgt := 28) rfl (fun z => absurd z c30) (fun _ => ?_)
      refine sx_ic (v := 1) hm dX13_typeAt_26 (by decide) ?_
      cases hf
      exact sx_ire hm dX13_typeAt_27 rfl rfl
set_option maxHeartbeats 4000000 in
set_option maxRecDepth 20000 in
theorem f_X13_kindType_ok (X : Nat × (Nat → Int32)) {F L : Nat} (hF : 8 ≤ F) (hL : 187 ≤ L) (nn : Nat) (a0 : Nat) (a1 : Int32) (a2 : Int32) (h : mx_H) {r : (Int32 × mx_H)} (hf : f_X13_kindType nn a0 a1 a2 h = some r) : mx_R X F L 528 [.ref a0, .int a1, .int a2] h (some (.int r.1), r.2, 0, 0) := by
  have hm : mx_mt 528 = some (yX13_kindType, cX13_kindType, 3, (some .int)) := mt_X13_kindType
  show mx_S X F L 528 0 [(0, .ref a0), (1, .int a1), (2, .int a2)] [] h 0 0 (some (.int r.1), r.2, 0, 0)
  unfold f_X13_kindType at hf
  refine mx_S.pu (pc2 := 1) (lv2 := [(0, .ref a0), (1, .int a1), (2, .int a2)]) (st2 := [.ref a0]) hm dX13_kindType_0 rfl ?_
  refine sx_si (v := 6000) hm dX13_kindType_1 (by decide) ?_
  refine mx_S.pu (pc2 := 5) (lv2 := [(0, .ref a0), (1, .int a1), (2, .int a2)]) (st2 := [.int a1, .int 6000, .ref a0]) hm dX13_kindType_4 rfl ?_
  replace hf := xl_el hf; obtain ⟨v1, e_v1, hf⟩ := hf
  refine mx_S.pu (pc2 := 6) (lv2 := [(0, .ref a0), (1, .int a1), (2, .int a2)]) (st2 := [.int v1, .ref a0]) hm dX13_kindType_5 (by rw [← e_v1]; rfl) ?_
  clear e_v1
  refine mx_S.pu (pc2 := 7) (lv2 := [(0, .ref a0), (1, .int a1), (2, .int a2)]) (st2 := [.ref a0, .int v1, .ref a0]) hm dX13_kindType_6 rfl ?_
  replace hf := mx_sv_el hf; obtain ⟨v2, e_v2, hf⟩ := hf
  refine sx_get hm dX13_kindType_7 rs_RX13_215 (xgr_el e_v2) ?_
  clear e_v2
  refine sx_si (v := 256) hm dX13_kindType_10 (by decide) ?_
  refine mx_S.pu (pc2 := 14) (lv2 := [(0, .ref a0), (1, .int a1), (2, .int a2)]) (st2 := [.int a1, .int 256, .ref v2, .int v1, .ref a0]) hm dX13_kindType_13 rfl ?_
  replace hf := xl_el hf; obtain ⟨v3, e_v3, hf⟩ := hf
  refine mx_S.pu (pc2 := 15) (lv2 := [(0, .ref a0), (1, .int a1), (2, .int a2)]) (st2 := [.int v3, .ref v2, .int v1, .ref a0]) hm dX13_kindType_14 (by rw [← e_v3]; rfl) ?_
  clear e_v3
  refine mx_S.pu (pc2 := 16) (lv2 := [(0, .ref a0), (1, .int a1), (2, .int a2)]) (st2 := [.int a2, .int v3, .ref v2, .int v1, .ref a0]) hm dX13_kindType_15 rfl ?_
  replace hf := xl_el hf; obtain ⟨v4, e_v4, hf⟩ := hf
  refine mx_S.pu (pc2 := 17) (lv2 := [(0, .ref a0), (1, .int a1), (2, .int a2)]) (st2 := [.int v4, .ref v2, .int v1, .ref a0]) hm dX13_kindType_16 (by rw [← e_v4]; rfl) ?_
  clear e_v4
  replace hf := mx_sv_el hf; obtain ⟨v5, e_v5, hf⟩ := hf
  refine sx_ald hm dX13_kindType_17 e_v5 ?_
  clear e_v5
  replace hf := xl_el hf; obtain ⟨v6, e_v6, hf⟩ := hf
  refine mx_S.pu (pc2 := 19) (lv2 := [(0, .ref a0), (1, .int a1), (2, .int a2)]) (st2 := [.int v6, .ref a0]) hm dX13_kindType_18 (by rw [← e_v6]; rfl) ?_
  clear e_v6
  refine sx_ic (v := 2) hm dX13_kindType_19 (by decide) ?_
  replace hf := xl_el hf; obtain ⟨v7, e_v7, hf⟩ := hf
  refine mx_S.pu (pc2 := 21) (lv2 := [(0, .ref a0), (1, .int a1), (2, .int a2)]) (st2 := [.int v7, .ref a0]) hm dX13_kindType_20 (by rw [← e_v7]; rfl) ?_
  clear e_v7
  replace hf := mx_gd_el hf; obtain ⟨c8, hf⟩ := hf
  replace hf := mx_sv_el hf; obtain ⟨u9, e_u9, hf⟩ := hf
  refine sx_cv hm dX13_kindType_21 rs_RX13_885 mt_X13_typeAt [.int v7] [] (b := a0) (ci := 13) rfl rfl rfl c8 (Nat.le_of_ble_eq_true rfl) (Nat.le_of_ble_eq_true rfl) (by omega) (by omega) (f_X13_typeAt_ok X (by omega) (by omega) nn a0 v7 h e_u9) ?_
  clear e_u9
  show mx_S X F L 528 24 [(0, .ref a0), (1, .int a1), (2, .int a2)] [.int u9.1] u9.2 0 0 (some (.int r.1), r.2, 0, 0)
  cases hf
  exact sx_ire hm dX13_kindType_24 rfl rfl
set_option maxHeartbeats 4000000 in
set_option maxRecDepth 20000 in
theorem j_X13_kindsAreThere_141_ok (X : Nat × (Nat → Int32)) {F L : Nat} (hF : 9 ≤ F) (hL : 209 ≤ L) (nn : Nat) {kk_42 : Nat → Int32 → Int32 → Int32 → mx_H → Option (Int32 × mx_H)} (hk_42 : ∀ (l0 : Nat) (l1 : Int32) (l2 : Int32) (l3 : Int32) (h : mx_H) (r : (Int32 × mx_H)), kk_42 l0 l1 l2 l3 h = some r → mx_S X F L 538 42 [(0, .ref l0), (1, .int l1), (2, .int l2), (3, .int l3)] [] h 0 0 (some (.int r.1), r.2, 0, 0)) (l0 : Nat) (l1 : Int32) (l3 : Int32) (h : mx_H) {r : (Int32 × mx_H)} (hf : j_X13_kindsAreThere_141 nn kk_42 l0 l1 l3 h = some r) : mx_S X F L 538 141 [(0, .ref l0), (1, .int l1), (3, .int l3)] [] h 0 0 (some (.int r.1), r.2, 0, 0) := by
  have hm : mx_mt 538 = some (yX13_kindsAreThere, cX13_kindsAreThere, 5, (some .boolean)) := mt_X13_kindsAreThere
  unfold j_X13_kindsAreThere_141 at hf
  refine sx_ic (v := 0) hm dX13_kindsAreThere_141 (by decide) ?_
  refine mx_S.pu (pc2 := 143) (lv2 := [(2, .int 0), (0, .ref l0), (1, .int l1), (3, .int l3)]) (st2 := []) hm dX13_kindsAreThere_142 rfl ?_
  replace hf := xl_el hf; obtain ⟨v1, e_v1, hf⟩ := hf
  refine mx_S.pu (pc2 := 146) (lv2 := [(3, .int v1), (2, .int 0), (0, .ref l0), (1, .int l1)]) (st2 := []) hm dX13_kindsAreThere_143 (by rw [← e_v1]; rfl) ?_
  clear e_v1
  refine mx_S.pu (pc2 := 42) (lv2 := [(3, .int v1), (2, .int 0), (0, .ref l0), (1, .int l1)]) (st2 := []) hm dX13_kindsAreThere_146 rfl ?_
  refine mx_S.ext [(0, .ref l0), (1, .int l1), (2, .int 0), (3, .int v1)] (mx_sub_pos [2, 3, 1, 0] rfl (show ([3, 2, 0, 1] : List Nat).Nodup by decide)) ?_
  exact hk_42 l0 l1 0 v1 h _ hf
set_option maxHeartbeats 4000000 in
set_option maxRecDepth 20000 in
theorem j_X13_kindsAreThere_119_ok (X : Nat × (Nat → Int32)) {F L : Nat} (hF : 9 ≤ F) (hL : 209 ≤ L) (nn : Nat) {kk_42 : Nat → Int32 → Int32 → Int32 → mx_H → Option (Int32 × mx_H)} (hk_42 : ∀ (l0 : Nat) (l1 : Int32) (l2 : Int32) (l3 : Int32) (h : mx_H) (r : (Int32 × mx_H)), kk_42 l0 l1 l2 l3 h = some r → mx_S X F L 538 42 [(0, .ref l0), (1, .int l1), (2, .int l2), (3, .int l3)] [] h 0 0 (some (.int r.1), r.2, 0, 0)) (l0 : Nat) (l1 : Int32) (l2 : Int32) (l3 : Int32) (l4 : Int32) (h : mx_H) {r : (Int32 × mx_H)} (hf : j_X13_kindsAreThere_119 nn kk_42 l0 l1 l2 l3 l4 h = some r) : mx_S X F L 538 119 [(0, .ref l0), (1, .int l1), (2, .int l2), (3, .int l3), (4, .int l4)] [] h 0 0 (some (.int r.1), r.2, 0, 0) := by
  have hm : mx_mt 538 = some (yX13_kindsAreThere, cX13_kindsAreThere, 5, (some .boolean)) := mt_X13_kindsAreThere
  unfold j_X13_kindsAreThere_119 at hf
  refine mx_S.pu (pc2 := 120) (lv2 := [(0, .ref l0), (1, .int l1), (2, .int l2), (3, .int l3), (4, .int l4)]) (st2 := [.int l2]) hm dX13_kindsAreThere_119 rfl ?_
  rcases mx_if_el hf with ⟨c8, hf⟩ | ⟨c8, hf⟩
  · refine sb_if_eq hm dX13_kindsAreThere_120 (tgt := 141) rfl (fun _ => ?_) (fun z => absurd c8 z)
    refine mx_S.ext [(0, .ref l0), (1, .int l1), (3, .int l3)] (mx_sub_pos [0, 1, 3] rfl (show ([0, 1, 2, 3, 4] : List Nat).Nodup by decide)) ?_
    exact j_X13_kindsAreThere_141_ok X hF hL nn hk_42 l0 l1 l3 h hf
  · refine sb_if_eq hm dX13_kindsAreThere_120 (tgt := 141) rfl (fun z => absurd z c8) (fun _ => ?_)
    refine mx_S.pu (pc2 := 124) (lv2 := [(0, .ref l0), (1, .int l1), (2, .int l2), (3, .int l3), (4, .int l4)]) (st2 := [.ref l0]) hm dX13_kindsAreThere_123 rfl ?_
    refine mx_S.pu (pc2 := 126) (lv2 := [(0, .ref l0), (1, .int l1), (2, .int l2), (3, .int l3), (4, .int l4)]) (st2 := [.int l4, .ref l0]) hm dX13_kindsAreThere_124 rfl ?_
    refine sx_ic (v := 1) hm dX13_kindsAreThere_126 (by decide) ?_
    replace hf := xl_el hf; obtain ⟨v2, e_v2, hf⟩ := hf
    refine mx_S.pu (pc2 := 128) (lv2 := [(0, .ref l0), (1, .int l1), (2, .int l2), (3, .int l3), (4, .int l4)]) (st2 := [.int v2, .ref l0]) hm dX13_kindsAreThere_127 (by rw [← e_v2]; rfl) ?_
    clear e_v2
    replace hf := mx_gd_el hf; obtain ⟨c3, hf⟩ := hf
    replace hf := mx_sv_el hf; obtain ⟨u4, e_u4, hf⟩ := hf
    refine sx_cv hm dX13_kindsAreThere_128 rs_RX13_885 mt_X13_typeAt [.int v2] [] (b := l0) (ci := 13) rfl rfl rfl c3 (Nat.le_of_ble_eq_true rfl) (Nat.le_of_ble_eq_true rfl) (by omega) (by omega) (f_X13_typeAt_ok X (by omega) (by omega) nn l0 v2 h e_u4) ?_
    clear e_u4
    show mx_S X F L 538 131 [(0, .ref l0), (1, .int l1), (2, .int l2), (3, .int l3), (4, .int l4)] [.int u4.1] u4.2 0 0 (some (.int r.1), r.2, 0, 0)
    replace hf := mx_sv_el hf; obtain ⟨u5, e_u5, hf⟩ := hf
    refine sx_cs hm dX13_kindsAreThere_131 rs_RX13_916 mt_X13_isThere [.int u4.1] [] rfl rfl (Nat.le_of_ble_eq_true rfl) (Nat.le_of_ble_eq_true rfl) (by omega) (by omega) (f_X13_isThere_ok X (by omega) (by omega) nn u4.1 u4.2 e_u5) ?_
    clear e_u5
    show mx_S X F L 538 134 [(0, .ref l0), (1, .int l1), (2, .int l2), (3, .int l3), (4, .int l4)] [.int u5.1] u5.2 0 0 (some (.int r.1), r.2, 0, 0)
    rcases mx_if_el hf with ⟨c7, hf⟩ | ⟨c7, hf⟩
    · refine sb_if_eq hm dX13_kindsAreThere_134 (tgt := 141) rfl (fun _ => ?_) (fun z => absurd c7 z)
      refine mx_S.ext [(0, .ref l0), (1, .int l1), (3, .int l3)] (mx_sub_pos [0, 1, 3] rfl (show ([0, 1, 2, 3, 4] : List Nat).Nodup by decide)) ?_
      exact j_X13_kindsAreThere_141_ok X hF hL nn hk_42 l0 l1 l3 u5.2 hf
    · refine sb_if_eq hm dX13_kindsAreThere_134 (tgt := 141) rfl (fun z => absurd z c7) (fun _ => ?_)
      refine sx_ic (v := 1) hm dX13_kindsAreThere_137 (by decide) ?_
      refine mx_S.pu (pc2 := 142) (lv2 := [(0, .ref l0), (1, .int l1), (2, .int l2), (3, .int l3), (4, .int l4)]) (st2 := [.int 1]) hm dX13_kindsAreThere_138 rfl ?_
      refine mx_S.pu (pc2 := 143) (lv2 := [(2, .int 1), (0, .ref l0), (1, .int l1), (3, .int l3), (4, .int l4)]) (st2 := []) hm dX13_kindsAreThere_142 rfl ?_
      replace hf := xl_el hf; obtain ⟨v6, e_v6, hf⟩ := hf
      refine mx_S.pu (pc2 := 146) (lv2 := [(3, .int v6), (2, .int 1), (0, .ref l0), (1, .int l1), (4, .int l4)]) (st2 := []) hm dX13_kindsAreThere_143 (by rw [← e_v6]; rfl) ?_
      clear e_v6
      refine mx_S.pu (pc2 := 42) (lv2 := [(3, .int v6), (2, .int 1), (0, .ref l0), (1, .int l1), (4, .int l4)]) (st2 := []) hm dX13_kindsAreThere_146 rfl ?_
      refine mx_S.ext [(0, .ref l0), (1, .int l1), (2, .int 1), (3, .int v6)] (mx_sub_pos [2, 3, 1, 0] rfl (show ([3, 2, 0, 1, 4] : List Nat).Nodup by decide)) ?_
      exact hk_42 l0 l1 1 v6 u5.2 _ hf
set_option maxHeartbeats 4000000 in
set_option maxRecDepth 20000 in
theorem w_X13_kindsAreThere_84_ok (X : Nat × (Nat → Int32)) {F L : Nat} (hF : 9 ≤ F) (hL : 209 ≤ L) (nn : Nat) {kk_42 : Nat → Int32 → Int32 → Int32 → mx_H → Option (Int32 × mx_H)} (hk_42 : ∀ (l0 : Nat) (l1 : Int32) (l2 : Int32) (l3 : Int32) (h : mx_H) (r : (Int32 × mx_H)), kk_42 l0 l1 l2 l3 h = some r → mx_S X F L 538 42 [(0, .ref l0), (1, .int l1), (2, .int l2), (3, .int l3)] [] h 0 0 (some (.int r.1), r.2, 0, 0)) : ∀ (k : Nat) (l0 : Nat) (l1 : Int32) (l2 : Int32) (l3 : Int32) (l4 : Int32) (h : mx_H) (r : (Int32 × mx_H)), w_X13_kindsAreThere_84 nn kk_42 k l0 l1 l2 l3 l4 h = some r → mx_S X F L 538 84 [(0, .ref l0), (1, .int l1), (2, .int l2), (3, .int l3), (4, .int l4)] [] h 0 0 (some (.int r.1), r.2, 0, 0) := by
  have hm : mx_mt 538 = some (yX13_kindsAreThere, cX13_kindsAreThere, 5, (some .boolean)) := mt_X13_kindsAreThere
  intro k
  induction k with
  | zero => intro l0 l1 l2 l3 l4 h r hf; cases hf
  | succ k ih =>
    intro l0 l1 l2 l3 l4 h r hf
    unfold w_X13_kindsAreThere_84 at hf
    refine mx_S.pu (pc2 := 85) (lv2 := [(0, .ref l0), (1, .int l1), (2, .int l2), (3, .int l3), (4, .int l4)]) (st2 := [.ref l0]) hm dX13_kindsAreThere_84 rfl ?_
    replace hf := mx_sv_el hf; obtain ⟨v9, e_v9, hf⟩ := hf
    refine sx_get hm dX13_kindsAreThere_85 rs_RX13_209 (xgr_el e_v9) ?_
    clear e_v9
    refine mx_S.pu (pc2 := 90) (lv2 := [(0, .ref l0), (1, .int l1), (2, .int l2), (3, .int l3), (4, .int l4)]) (st2 := [.int l4, .ref v9]) hm dX13_kindsAreThere_88 rfl ?_
    replace hf := mx_sv_el hf; obtain ⟨v10, e_v10, hf⟩ := hf
    refine sx_ald hm dX13_kindsAreThere_90 e_v10 ?_
    clear e_v10
    refine sx_bi (v := 41) hm dX13_kindsAreThere_91 (by decide) ?_
    rcases mx_if_el hf with ⟨c16, hf⟩ | ⟨c16, hf⟩
    · refine sb_ic_eq hm dX13_kindsAreThere_93 (tgt := 119) rfl (fun _ => ?_) (fun z => absurd c16 z)
      exact j_X13_kindsAreThere_119_ok X hF hL nn hk_42 l0 l1 l2 l3 l4 h hf
    · refine sb_ic_eq hm dX13_kindsAreThere_93 (tgt := 119) rfl (fun z => absurd z c16) (fun _ => ?_)
      refine mx_S.pu (pc2 := 97) (lv2 := [(0, .ref l0), (1, .int l1), (2, .int l2), (3, .int l3), (4, .int l4)]) (st2 := [.int l2]) hm dX13_kindsAreThere_96 rfl ?_
      rcases mx_if_el hf with ⟨c15, hf⟩ | ⟨c15, hf⟩
      · refine sb_if_eq hm dX13_kindsAreThere_97 (tgt := 119) rfl (fun _ => ?_) (fun z => absurd c15 z)
        exact j_X13_kindsAreThere_119_ok X hF hL nn hk_42 l0 l1 l2 l3 l4 h hf
      · refine sb_if_eq hm dX13_kindsAreThere_97 (tgt := 119) rfl (fun z => absurd z c15) (fun _ => ?_)
        refine mx_S.pu (pc2 := 101) (lv2 := [(0, .ref l0), (1, .int l1), (2, .int l2), (3, .int l3), (4, .int l4)]) (st2 := [.ref l0]) hm dX13_kindsAreThere_100 rfl ?_
        refine mx_S.pu (pc2 := 103) (lv2 := [(0, .ref l0), (1, .int l1), (2, .int l2), (3, .int l3), (4, .int l4)]) (st2 := [.int l4, .ref l0]) hm dX13_kindsAreThere_101 rfl ?_
        replace hf := mx_gd_el hf; obtain ⟨c11, hf⟩ := hf
        replace hf := mx_sv_el hf; obtain ⟨u12, e_u12, hf⟩ := hf
        refine sx_cv hm dX13_kindsAreThere_103 rs_RX13_885 mt_X13_typeAt [.int l4] [] (b := l0) (ci := 13) rfl rfl rfl c11 (Nat.le_of_ble_eq_true rfl) (Nat.le_of_ble_eq_true rfl) (by omega) (by omega) (f_X13_typeAt_ok X (by omega) (by omega) nn l0 l4 h e_u12) ?_
        clear e_u12
        show mx_S X F L 538 106 [(0, .ref l0), (1, .int l1), (2, .int l2), (3, .int l3), (4, .int l4)] [.int u12.1] u12.2 0 0 (some (.int r.1), r.2, 0, 0)
        replace hf := mx_sv_el hf; obtain ⟨u13, e_u13, hf⟩ := hf
        refine sx_cs hm dX13_kindsAreThere_106 rs_RX13_916 mt_X13_isThere [.int u12.1] [] rfl rfl (Nat.le_of_ble_eq_true rfl) (Nat.le_of_ble_eq_true rfl) (by omega) (by omega) (f_X13_isThere_ok X (by omega) (by omega) nn u12.1 u12.2 e_u13) ?_
        clear e_u13
        show mx_S X F L 538 109 [(0, .ref l0), (1, .int l1), (2, .int l2), (3, .int l3), (4, .int l4)] [.int u13.1] u13.2 0 0 (some (.int r.1), r.2, 0, 0)
        refine mx_S.pu (pc2 := 110) (lv2 := [(2, .int u13.1), (0, .ref l0), (1, .int l1), (3, .int l3), (4, .int l4)]) (st2 := []) hm dX13_kindsAreThere_109 rfl ?_
        refine mx_S.pu (pc2 := 111) (lv2 := [(2, .int u13.1), (0, .ref l0), (1, .int l1), (3, .int l3), (4, .int l4)]) (st2 := [.ref l0]) hm dX13_kindsAreThere_110 rfl ?_
        replace hf := mx_sv_el hf; obtain ⟨v14, e_v14, hf⟩ := hf
        refine sx_get hm dX13_kindsAreThere_111 rs_RX13_879 (xgi_el e_v14) ?_
        clear e_v14
        refine mx_S.pu (pc2 := 116) (lv2 := [(4, .int v14), (2, .int u13.1), (0, .ref l0), (1, .int l1), (3, .int l3)]) (st2 := []) hm dX13_kindsAreThere_114 rfl ?_
        refine mx_S.pu (pc2 := 84) (lv2 := [(4, .int v14), (2, .int u13.1), (0, .ref l0), (1, .int l1), (3, .int l3)]) (st2 := []) hm dX13_kindsAreThere_116 rfl ?_
        refine mx_S.ext [(0, .ref l0), (1, .int l1), (2, .int u13.1), (3, .int l3), (4, .int v14)] (mx_sub_pos [2, 3, 1, 4, 0] rfl (show ([4, 2, 0, 1, 3] : List Nat).Nodup by decide)) ?_
        exact ih l0 l1 u13.1 l3 v14 u13.2 _ hf
set_option maxHeartbeats 4000000 in
set_option maxRecDepth 20000 in
theorem w_X13_kindsAreThere_42_ok (X : Nat × (Nat → Int32)) {F L : Nat} (hF : 9 ≤ F) (hL : 209 ≤ L) (nn : Nat) : ∀ (k : Nat) (l0 : Nat) (l1 : Int32) (l2 : Int32) (l3 : Int32) (h : mx_H) (r : (Int32 × mx_H)), w_X13_kindsAreThere_42 nn k l0 l1 l2 l3 h = some r → mx_S X F L 538 42 [(0, .ref l0), (1, .int l1), (2, .int l2), (3, .int l3)] [] h 0 0 (some (.int r.1), r.2, 0, 0) := by
  have hm : mx_mt 538 = some (yX13_kindsAreThere, cX13_kindsAreThere, 5, (some .boolean)) := mt_X13_kindsAreThere
  intro k
  induction k with
  | zero => intro l0 l1 l2 l3 h r hf; cases hf
  | succ k ih =>
    intro l0 l1 l2 l3 h r hf
    unfold w_X13_kindsAreThere_42 at hf
    refine mx_S.pu (pc2 := 43) (lv2 := [(0, .ref l0), (1, .int l1), (2, .int l2), (3, .int l3)]) (st2 := [.int l3]) hm dX13_kindsAreThere_42 rfl ?_
    refine mx_S.pu (pc2 := 44) (lv2 := [(0, .ref l0), (1, .int l1), (2, .int l2), (3, .int l3)]) (st2 := [.ref l0, .int l3]) hm dX13_kindsAreThere_43 rfl ?_
    replace hf := mx_sv_el hf; obtain ⟨v17, e_v17, hf⟩ := hf
    refine sx_get hm dX13_kindsAreThere_44 rs_RX13_233 (xgr_el e_v17) ?_
    clear e_v17
    refine mx_S.pu (pc2 := 48) (lv2 := [(0, .ref l0), (1, .int l1), (2, .int l2), (3, .int l3)]) (st2 := [.int l1, .ref v17, .int l3]) hm dX13_kindsAreThere_47 rfl ?_
    replace hf := mx_sv_el hf; obtain ⟨v18, e_v18, hf⟩ := hf
    refine sx_ald hm dX13_kindsAreThere_48 e_v18 ?_
    clear e_v18
    rcases mx_if_el hf with ⟨c31, hf⟩ | ⟨c31, hf⟩
    · refine sb_ic_ge hm dX13_kindsAreThere_49 (tgt := 149) rfl (fun _ => ?_) (fun z => absurd c31 z)
      refine mx_S.pu (pc2 := 150) (lv2 := [(0, .ref l0), (1, .int l1), (2, .int l2), (3, .int l3)]) (st2 := [.int l2]) hm dX13_kindsAreThere_149 rfl ?_
      replace hf := mx_gd_el hf; obtain ⟨c19, hf⟩ := hf
      cases hf
      exact sx_ire hm dX13_kindsAreThere_150 rfl (xbq_ok c19).1
    · refine sb_ic_ge hm dX13_kindsAreThere_49 (tgt := 149) rfl (fun z => absurd z c31) (fun _ => ?_)
      refine mx_S.pu (pc2 := 53) (lv2 := [(0, .ref l0), (1, .int l1), (2, .int l2), (3, .int l3)]) (st2 := [.int l2]) hm dX13_kindsAreThere_52 rfl ?_
      rcases mx_if_el hf with ⟨c30, hf⟩ | ⟨c30, hf⟩
      · refine sb_if_eq hm dX13_kindsAreThere_53 (tgt := 149) rfl (fun _ => ?_) (fun z => absurd c30 z)
        refine mx_S.pu (pc2 := 150) (lv2 := [(0, .ref l0), (1, .int l1), (2, .int l2), (3, .int l3)]) (st2 := [.int l2]) hm dX13_kindsAreThere_149 rfl ?_
        replace hf := mx_gd_el hf; obtain ⟨c20, hf⟩ := hf
        cases hf
        exact sx_ire hm dX13_kindsAreThere_150 rfl (xbq_ok c20).1
      · refine sb_if_eq hm dX13_kindsAreThere_53 (tgt := 149) rfl (fun z => absurd z c30) (fun _ => ?_)
        refine sx_si (v := 6000) hm dX13_kindsAreThere_56 (by decide) ?_
        refine mx_S.pu (pc2 := 60) (lv2 := [(0, .ref l0), (1, .int l1), (2, .int l2), (3, .int l3)]) (st2 := [.int l1, .int 6000]) hm dX13_kindsAreThere_59 rfl ?_
        replace hf := xl_el hf; obtain ⟨v21, e_v21, hf⟩ := hf
        refine mx_S.pu (pc2 := 61) (lv2 := [(0, .ref l0), (1, .int l1), (2, .int l2), (3, .int l3)]) (st2 := [.int v21]) hm dX13_kindsAreThere_60 (by rw [← e_v21]; rfl) ?_
        clear e_v21
        refine mx_S.pu (pc2 := 62) (lv2 := [(0, .ref l0), (1, .int l1), (2, .int l2), (3, .int l3)]) (st2 := [.ref l0, .int v21]) hm dX13_kindsAreThere_61 rfl ?_
        replace hf := mx_sv_el hf; obtain ⟨v22, e_v22, hf⟩ := hf
        refine sx_get hm dX13_kindsAreThere_62 rs_RX13_215 (xgr_el e_v22) ?_
        clear e_v22
        refine sx_si (v := 256) hm dX13_kindsAreThere_65 (by decide) ?_
        refine mx_S.pu (pc2 := 69) (lv2 := [(0, .ref l0), (1, .int l1), (2, .int l2), (3, .int l3)]) (st2 := [.int l1, .int 256, .ref v22, .int v21]) hm dX13_kindsAreThere_68 rfl ?_
        replace hf := xl_el hf; obtain ⟨v23, e_v23, hf⟩ := hf
        refine mx_S.pu (pc2 := 70) (lv2 := [(0, .ref l0), (1, .int l1), (2, .int l2), (3, .int l3)]) (st2 := [.int v23, .ref v22, .int v21]) hm dX13_kindsAreThere_69 (by rw [← e_v23]; rfl) ?_
        clear e_v23
        refine mx_S.pu (pc2 := 71) (lv2 := [(0, .ref l0), (1, .int l1), (2, .int l2), (3, .int l3)]) (st2 := [.ref l0, .int v23, .ref v22, .int v21]) hm dX13_kindsAreThere_70 rfl ?_
        refine mx_S.pu (pc2 := 72) (lv2 := [(0, .ref l0), (1, .int l1), (2, .int l2), (3, .int l3)]) (st2 := [.int l1, .ref l0, .int v23, .ref v22, .int v21]) hm dX13_kindsAreThere_71 rfl ?_
        refine mx_S.pu (pc2 := 73) (lv2 := [(0, .ref l0), (1, .int l1), (2, .int l2), (3, .int l3)]) (st2 := [.int l3, .int l1, .ref l0, .int v23, .ref v22, .int v21]) hm dX13_kindsAreThere_72 rfl ?_
        refine sx_ic (v := 1) hm dX13_kindsAreThere_73 (by decide) ?_
        replace hf := mx_gd_el hf; obtain ⟨c24, hf⟩ := hf
        replace hf := mx_sv_el hf; obtain ⟨u25, e_u25, hf⟩ := hf
        refine sx_cv hm dX13_kindsAreThere_74 rs_RX13_910 mt_X13_kindText [.int l1, .int l3, .int 1] [.int v23, .ref v22, .int v21] (b := l0) (ci := 13) rfl rfl rfl c24 (Nat.le_of_ble_eq_true rfl) (Nat.le_of_ble_eq_true rfl) (by omega) (by omega) (f_X13_kindText_ok X (by omega) (by omega) nn l0 l1 l3 1 h e_u25) ?_
        clear e_u25
        show mx_S X F L 538 77 [(0, .ref l0), (1, .int l1), (2, .int l2), (3, .int l3)] [.int u25.1, .int v23, .ref v22, .int v21] u25.2 0 0 (some (.int r.1), r.2, 0, 0)
        replace hf := xl_el hf; obtain ⟨v26, e_v26, hf⟩ := hf
        refine mx_S.pu (pc2 := 78) (lv2 := [(0, .ref l0), (1, .int l1), (2, .int l2), (3, .int l3)]) (st2 := [.int v26, .ref v22, .int v21]) hm dX13_kindsAreThere_77 (by rw [← e_v26]; rfl) ?_
        clear e_v26
        replace hf := mx_sv_el hf; obtain ⟨v27, e_v27, hf⟩ := hf
        refine sx_ald hm dX13_kindsAreThere_78 e_v27 ?_
        clear e_v27
        replace hf := xl_el hf; obtain ⟨v28, e_v28, hf⟩ := hf
        refine mx_S.pu (pc2 := 80) (lv2 := [(0, .ref l0), (1, .int l1), (2, .int l2), (3, .int l3)]) (st2 := [.int v28]) hm dX13_kindsAreThere_79 (by rw [← e_v28]; rfl) ?_
        clear e_v28
        refine sx_ic (v := 3) hm dX13_kindsAreThere_80 (by decide) ?_
        replace hf := xl_el hf; obtain ⟨v29, e_v29, hf⟩ := hf
        refine mx_S.pu (pc2 := 82) (lv2 := [(0, .ref l0), (1, .int l1), (2, .int l2), (3, .int l3)]) (st2 := [.int v29]) hm dX13_kindsAreThere_81 (by rw [← e_v29]; rfl) ?_
        clear e_v29
        refine mx_S.pu (pc2 := 84) (lv2 := [(4, .int v29), (0, .ref l0), (1, .int l1), (2, .int l2), (3, .int l3)]) (st2 := []) hm dX13_kindsAreThere_82 rfl ?_
        refine mx_S.ext [(0, .ref l0), (1, .int l1), (2, .int l2), (3, .int l3), (4, .int v29)] (mx_sub_pos [1, 2, 3, 4, 0] rfl (show ([4, 0, 1, 2, 3] : List Nat).Nodup by decide)) ?_
        exact w_X13_kindsAreThere_84_ok X hF hL nn ih nn l0 l1 l2 l3 v29 u25.2 _ hf
set_option maxHeartbeats 4000000 in
set_option maxRecDepth 20000 in
theorem w_X13_kindsAreThere_4_ok (X : Nat × (Nat → Int32)) {F L : Nat} (hF : 9 ≤ F) (hL : 209 ≤ L) (nn : Nat) : ∀ (k : Nat) (l0 : Nat) (l1 : Int32) (l2 : Int32) (l3 : Int32) (h : mx_H) (r : (Int32 × mx_H)), w_X13_kindsAreThere_4 nn k l0 l1 l2 l3 h = some r → mx_S X F L 538 4 [(0, .ref l0), (1, .int l1), (2, .int l2), (3, .int l3)] [] h 0 0 (some (.int r.1), r.2, 0, 0) := by
  have hm : mx_mt 538 = some (yX13_kindsAreThere, cX13_kindsAreThere, 5, (some .boolean)) := mt_X13_kindsAreThere
  intro k
  induction k with
  | zero => intro l0 l1 l2 l3 h r hf; cases hf
  | succ k ih =>
    intro l0 l1 l2 l3 h r hf
    unfold w_X13_kindsAreThere_4 at hf
    refine mx_S.pu (pc2 := 5) (lv2 := [(0, .ref l0), (1, .int l1), (2, .int l2), (3, .int l3)]) (st2 := [.int l3]) hm dX13_kindsAreThere_4 rfl ?_
    refine mx_S.pu (pc2 := 6) (lv2 := [(0, .ref l0), (1, .int l1), (2, .int l2), (3, .int l3)]) (st2 := [.ref l0, .int l3]) hm dX13_kindsAreThere_5 rfl ?_
    replace hf := mx_sv_el hf; obtain ⟨v32, e_v32, hf⟩ := hf
    refine sx_get hm dX13_kindsAreThere_6 rs_RX13_227 (xgr_el e_v32) ?_
    clear e_v32
    refine mx_S.pu (pc2 := 10) (lv2 := [(0, .ref l0), (1, .int l1), (2, .int l2), (3, .int l3)]) (st2 := [.int l1, .ref v32, .int l3]) hm dX13_kindsAreThere_9 rfl ?_
    replace hf := mx_sv_el hf; obtain ⟨v33, e_v33, hf⟩ := hf
    refine sx_ald hm dX13_kindsAreThere_10 e_v33 ?_
    clear e_v33
    rcases mx_if_el hf with ⟨c41, hf⟩ | ⟨c41, hf⟩
    · refine sb_ic_ge hm dX13_kindsAreThere_11 (tgt := 40) rfl (fun _ => ?_) (fun z => absurd c41 z)
      refine sx_ic (v := 0) hm dX13_kindsAreThere_40 (by decide) ?_
      refine mx_S.pu (pc2 := 42) (lv2 := [(3, .int 0), (0, .ref l0), (1, .int l1), (2, .int l2)]) (st2 := []) hm dX13_kindsAreThere_41 rfl ?_
      refine mx_S.ext [(0, .ref l0), (1, .int l1), (2, .int l2), (3, .int 0)] (mx_sub_pos [1, 2, 3, 0] rfl (show ([3, 0, 1, 2] : List Nat).Nodup by decide)) ?_
      exact w_X13_kindsAreThere_42_ok X hF hL nn nn l0 l1 l2 0 h _ hf
    · refine sb_ic_ge hm dX13_kindsAreThere_11 (tgt := 40) rfl (fun z => absurd z c41) (fun _ => ?_)
      refine mx_S.pu (pc2 := 15) (lv2 := [(0, .ref l0), (1, .int l1), (2, .int l2), (3, .int l3)]) (st2 := [.int l2]) hm dX13_kindsAreThere_14 rfl ?_
      rcases mx_if_el hf with ⟨c40, hf⟩ | ⟨c40, hf⟩
      · refine sb_if_eq hm dX13_kindsAreThere_15 (tgt := 40) rfl (fun _ => ?_) (fun z => absurd c40 z)
        refine sx_ic (v := 0) hm dX13_kindsAreThere_40 (by decide) ?_
        refine mx_S.pu (pc2 := 42) (lv2 := [(3, .int 0), (0, .ref l0), (1, .int l1), (2, .int l2)]) (st2 := []) hm dX13_kindsAreThere_41 rfl ?_
        refine mx_S.ext [(0, .ref l0), (1, .int l1), (2, .int l2), (3, .int 0)] (mx_sub_pos [1, 2, 3, 0] rfl (show ([3, 0, 1, 2] : List Nat).Nodup by decide)) ?_
        exact w_X13_kindsAreThere_42_ok X hF hL nn nn l0 l1 l2 0 h _ hf
      · refine sb_if_eq hm dX13_kindsAreThere_15 (tgt := 40) rfl (fun z => absurd z c40) (fun _ => ?_)
        refine mx_S.pu (pc2 := 19) (lv2 := [(0, .ref l0), (1, .int l1), (2, .int l2), (3, .int l3)]) (st2 := [.ref l0]) hm dX13_kindsAreThere_18 rfl ?_
        refine mx_S.pu (pc2 := 20) (lv2 := [(0, .ref l0), (1, .int l1), (2, .int l2), (3, .int l3)]) (st2 := [.int l1, .ref l0]) hm dX13_kindsAreThere_19 rfl ?_
        refine mx_S.pu (pc2 := 21) (lv2 := [(0, .ref l0), (1, .int l1), (2, .int l2), (3, .int l3)]) (st2 := [.ref l0, .int l1, .ref l0]) hm dX13_kindsAreThere_20 rfl ?_
        refine mx_S.pu (pc2 := 22) (lv2 := [(0, .ref l0), (1, .int l1), (2, .int l2), (3, .int l3)]) (st2 := [.int l1, .ref l0, .int l1, .ref l0]) hm dX13_kindsAreThere_21 rfl ?_
        refine mx_S.pu (pc2 := 23) (lv2 := [(0, .ref l0), (1, .int l1), (2, .int l2), (3, .int l3)]) (st2 := [.int l3, .int l1, .ref l0, .int l1, .ref l0]) hm dX13_kindsAreThere_22 rfl ?_
        refine sx_ic (v := 0) hm dX13_kindsAreThere_23 (by decide) ?_
        replace hf := mx_gd_el hf; obtain ⟨c34, hf⟩ := hf
        replace hf := mx_sv_el hf; obtain ⟨u35, e_u35, hf⟩ := hf
        refine sx_cv hm dX13_kindsAreThere_24 rs_RX13_910 mt_X13_kindText [.int l1, .int l3, .int 0] [.int l1, .ref l0] (b := l0) (ci := 13) rfl rfl rfl c34 (Nat.le_of_ble_eq_true rfl) (Nat.le_of_ble_eq_true rfl) (by omega) (by omega) (f_X13_kindText_ok X (by omega) (by omega) nn l0 l1 l3 0 h e_u35) ?_
        clear e_u35
        show mx_S X F L 538 27 [(0, .ref l0), (1, .int l1), (2, .int l2), (3, .int l3)] [.int u35.1, .int l1, .ref l0] u35.2 0 0 (some (.int r.1), r.2, 0, 0)
        replace hf := mx_gd_el hf; obtain ⟨c36, hf⟩ := hf
        replace hf := mx_sv_el hf; obtain ⟨u37, e_u37, hf⟩ := hf
        refine sx_cv hm dX13_kindsAreThere_27 rs_RX13_913 mt_X13_kindType [.int l1, .int u35.1] [] (b := l0) (ci := 13) rfl rfl rfl c36 (Nat.le_of_ble_eq_true rfl) (Nat.le_of_ble_eq_true rfl) (by omega) (by omega) (f_X13_kindType_ok X (by omega) (by omega) nn l0 l1 u35.1 u35.2 e_u37) ?_
        clear e_u37
        show mx_S X F L 538 30 [(0, .ref l0), (1, .int l1), (2, .int l2), (3, .int l3)] [.int u37.1] u37.2 0 0 (some (.int r.1), r.2, 0, 0)
        replace hf := mx_sv_el hf; obtain ⟨u38, e_u38, hf⟩ := hf
        refine sx_cs hm dX13_kindsAreThere_30 rs_RX13_916 mt_X13_isThere [.int u37.1] [] rfl rfl (Nat.le_of_ble_eq_true rfl) (Nat.le_of_ble_eq_true rfl) (by omega) (by omega) (f_X13_isThere_ok X (by omega) (by omega) nn u37.1 u37.2 e_u38) ?_
        clear e_u38
        show mx_S X F L 538 33 [(0, .ref l0), (1, .int l1), (2, .int l2), (3, .int l3)] [.int u38.1] u38.2 0 0 (some (.int r.1), r.2, 0, 0)
        refine mx_S.pu (pc2 := 34) (lv2 := [(2, .int u38.1), (0, .ref l0), (1, .int l1), (3, .int l3)]) (st2 := []) hm dX13_kindsAreThere_33 rfl ?_
        replace hf := xl_el hf; obtain ⟨v39, e_v39, hf⟩ := hf
        refine mx_S.pu (pc2 := 37) (lv2 := [(3, .int v39), (2, .int u38.1), (0, .ref l0), (1, .int l1)]) (st2 := []) hm dX13_kindsAreThere_34 (by rw [← e_v39]; rfl) ?_
        clear e_v39
        refine mx_S.pu (pc2 := 4) (lv2 := [(3, .int v39), (2, .int u38.1), (0, .ref l0), (1, .int l1)]) (st2 := []) hm dX13_kindsAreThere_37 rfl ?_
        refine mx_S.ext [(0, .ref l0), (1, .int l1), (2, .int u38.1), (3, .int v39)] (mx_sub_pos [2, 3, 1, 0] rfl (show ([3, 2, 0, 1] : List Nat).Nodup by decide)) ?_
        exact ih l0 l1 u38.1 v39 u38.2 _ hf
set_option maxHeartbeats 4000000 in
set_option maxRecDepth 20000 in
theorem f_X13_kindsAreThere_ok (X : Nat × (Nat → Int32)) {F L : Nat} (hF : 9 ≤ F) (hL : 209 ≤ L) (nn : Nat) (a0 : Nat) (a1 : Int32) (h : mx_H) {r : (Int32 × mx_H)} (hf : f_X13_kindsAreThere nn a0 a1 h = some r) : mx_R X F L 538 [.ref a0, .int a1] h (some (.int r.1), r.2, 0, 0) := by
  have hm : mx_mt 538 = some (yX13_kindsAreThere, cX13_kindsAreThere, 5, (some .boolean)) := mt_X13_kindsAreThere
  show mx_S X F L 538 0 [(0, .ref a0), (1, .int a1)] [] h 0 0 (some (.int r.1), r.2, 0, 0)
  unfold f_X13_kindsAreThere at hf
  refine sx_ic (v := 1) hm dX13_kindsAreThere_0 (by decide) ?_
  refine mx_S.pu (pc2 := 2) (lv2 := [(2, .int 1), (0, .ref a0), (1, .int a1)]) (st2 := []) hm dX13_kindsAreThere_1 rfl ?_
  refine sx_ic (v := 0) hm dX13_kindsAreThere_2 (by decide) ?_
  refine mx_S.pu (pc2 := 4) (lv2 := [(3, .int 0), (2, .int 1), (0, .ref a0), (1, .int a1)]) (st2 := []) hm dX13_kindsAreThere_3 rfl ?_
  refine mx_S.ext [(0, .ref a0), (1, .int a1), (2, .int 1), (3, .int 0)] (mx_sub_pos [2, 3, 1, 0] rfl (show ([3, 2, 0, 1] : List Nat).Nodup by decide)) ?_
  exact w_X13_kindsAreThere_4_ok X hF hL nn nn a0 a1 1 0 h _ hf
set_option maxHeartbeats 4000000 in
set_option maxRecDepth 20000 in
theorem f_X13_nameText_ok (X : Nat × (Nat → Int32)) {F L : Nat} (hF : 1 ≤ F) (hL : 22 ≤ L) (nn : Nat) (a0 : Nat) (a1 : Int32) (a2 : Int32) (a3 : Int32) (h : mx_H) {r : (Int32 × mx_H)} (hf : f_X13_nameText nn a0 a1 a2 a3 h = some r) : mx_R X F L 533 [.ref a0, .int a1, .int a2, .int a3] h (some (.int r.1), r.2, 0, 0) := by
  have hm : mx_mt 533 = some (yX13_nameText, cX13_nameText, 4, (some .int)) := mt_X13_nameText
  show mx_S X F L 533 0 [(0, .ref a0), (1, .int a1), (2, .int a2), (3, .int a3)] [] h 0 0 (some (.int r.1), r.2, 0, 0)
  unfold f_X13_nameText at hf
  refine mx_S.pu (pc2 := 1) (lv2 := [(0, .ref a0), (1, .int a1), (2, .int a2), (3, .int a3)]) (st2 := [.int a3]) hm dX13_nameText_0 rfl ?_
  rcases mx_if_el hf with ⟨c14, hf⟩ | ⟨c14, hf⟩
  · refine sb_if_eq hm dX13_nameText_1 (tgt := 25) rfl (fun _ => ?_) (fun z => absurd c14 z)
    refine mx_S.pu (pc2 := 26) (lv2 := [(0, .ref a0), (1, .int a1), (2, .int a2), (3, .int a3)]) (st2 := [.ref a0]) hm dX13_nameText_25 rfl ?_
    refine mx_S.pu (pc2 := 27) (lv2 := [(0, .ref a0), (1, .int a1), (2, .int a2), (3, .int a3)]) (st2 := [.int a1, .ref a0]) hm dX13_nameText_26 rfl ?_
    refine mx_S.pu (pc2 := 28) (lv2 := [(0, .ref a0), (1, .int a1), (2, .int a2), (3, .int a3)]) (st2 := [.ref a0, .int a1, .ref a0]) hm dX13_nameText_27 rfl ?_
    replace hf := mx_sv_el hf; obtain ⟨v1, e_v1, hf⟩ := hf
    refine sx_get hm dX13_nameText_28 rs_RX13_230 (xgr_el e_v1) ?_
    clear e_v1
    refine sx_bi (v := 12) hm dX13_nameText_31 (by decide) ?_
    refine mx_S.pu (pc2 := 34) (lv2 := [(0, .ref a0), (1, .int a1), (2, .int a2), (3, .int a3)]) (st2 := [.int a1, .int 12, .ref v1, .int a1, .ref a0]) hm dX13_nameText_33 rfl ?_
    replace hf := xl_el hf; obtain ⟨v2, e_v2, hf⟩ := hf
    refine mx_S.pu (pc2 := 35) (lv2 := [(0, .ref a0), (1, .int a1), (2, .int a2), (3, .int a3)]) (st2 := [.int v2, .ref v1, .int a1, .ref a0]) hm dX13_nameText_34 (by rw [← e_v2]; rfl) ?_
    clear e_v2
    refine mx_S.pu (pc2 := 36) (lv2 := [(0, .ref a0), (1, .int a1), (2, .int a2), (3, .int a3)]) (st2 := [.int a2, .int v2, .ref v1, .int a1, .ref a0]) hm dX13_nameText_35 rfl ?_
    replace hf := xl_el hf; obtain ⟨v3, e_v3, hf⟩ := hf
    refine mx_S.pu (pc2 := 37) (lv2 := [(0, .ref a0), (1, .int a1), (2, .int a2), (3, .int a3)]) (st2 := [.int v3, .ref v1, .int a1, .ref a0]) hm dX13_nameText_36 (by rw [← e_v3]; rfl) ?_
    clear e_v3
    replace hf := mx_sv_el hf; obtain ⟨v4, e_v4, hf⟩ := hf
    refine sx_ald hm dX13_nameText_37 e_v4 ?_
    clear e_v4
    replace hf := mx_gd_el hf; obtain ⟨c5, hf⟩ := hf
    replace hf := mx_sv_el hf; obtain ⟨u6, e_u6, hf⟩ := hf
    refine sx_cv hm dX13_nameText_38 rs_RX13_864 mt_X13_byteAt [.int a1, .int v4] [] (b := a0) (ci := 13) rfl rfl rfl c5 (Nat.le_of_ble_eq_true rfl) (Nat.le_of_ble_eq_true rfl) (by omega) (by omega) (f_X13_byteAt_ok X (by omega) (by omega) nn a0 a1 v4 h e_u6) ?_
    clear e_u6
    show mx_S X F L 533 41 [(0, .ref a0), (1, .int a1), (2, .int a2), (3, .int a3)] [.int u6.1] u6.2 0 0 (some (.int r.1), r.2, 0, 0)
    cases hf
    exact sx_ire hm dX13_nameText_41 rfl rfl
  · refine sb_if_eq hm dX13_nameText_1 (tgt := 25) rfl (fun z => absurd z c14) (fun _ => ?_)
    refine mx_S.pu (pc2 := 5) (lv2 := [(0, .ref a0), (1, .int a1), (2, .int a2), (3, .int a3)]) (st2 := [.ref a0]) hm dX13_nameText_4 rfl ?_
    refine mx_S.pu (pc2 := 6) (lv2 := [(0, .ref a0), (1, .int a1), (2, .int a2), (3, .int a3)]) (st2 := [.int a1, .ref a0]) hm dX13_nameText_5 rfl ?_
    refine mx_S.pu (pc2 := 7) (lv2 := [(0, .ref a0), (1, .int a1), (2, .int a2), (3, .int a3)]) (st2 := [.ref a0, .int a1, .ref a0]) hm dX13_nameText_6 rfl ?_
    replace hf := mx_sv_el hf; obtain ⟨v7, e_v7, hf⟩ := hf
    refine sx_get hm dX13_nameText_7 rs_RX13_236 (xgr_el e_v7) ?_
    clear e_v7
    refine sx_bi (v := 12) hm dX13_nameText_10 (by decide) ?_
    refine mx_S.pu (pc2 := 13) (lv2 := [(0, .ref a0), (1, .int a1), (2, .int a2), (3, .int a3)]) (st2 := [.int a1, .int 12, .ref v7, .int a1, .ref a0]) hm dX13_nameText_12 rfl ?_
    replace hf := xl_el hf; obtain ⟨v8, e_v8, hf⟩ := hf
    refine mx_S.pu (pc2 := 14) (lv2 := [(0, .ref a0), (1, .int a1), (2, .int a2), (3, .int a3)]) (st2 := [.int v8, .ref v7, .int a1, .ref a0]) hm dX13_nameText_13 (by rw [← e_v8]; rfl) ?_
    clear e_v8
    refine mx_S.pu (pc2 := 15) (lv2 := [(0, .ref a0), (1, .int a1), (2, .int a2), (3, .int a3)]) (st2 := [.int a2, .int v8, .ref v7, .int a1, .ref a0]) hm dX13_nameText_14 rfl ?_
    replace hf := xl_el hf; obtain ⟨v9, e_v9, hf⟩ := hf
    refine mx_S.pu (pc2 := 16) (lv2 := [(0, .ref a0), (1, .int a1), (2, .int a2), (3, .int a3)]) (st2 := [.int v9, .ref v7, .int a1, .ref a0]) hm dX13_nameText_15 (by rw [← e_v9]; rfl) ?_
    clear e_v9
    replace hf := mx_sv_el hf; obtain ⟨v10, e_v10, hf⟩ := hf
    refine sx_ald hm dX13_nameText_16 e_v10 ?_
    clear e_v10
    refine sx_ic (v := 1) hm dX13_nameText_17 (by decide) ?_
    replace hf := xl_el hf; obtain ⟨v11, e_v11, hf⟩ := hf
    refine mx_S.pu (pc2 := 19) (lv2 := [(0, .ref a0), (1, .int a1), (2, .int a2), (3, .int a3)]) (st2 := [.int v11, .int a1, .ref a0]) hm dX13_nameText_18 (by rw [← e_v11]; rfl) ?_
    clear e_v11
    replace hf := mx_gd_el hf; obtain ⟨c12, hf⟩ := hf
    replace hf := mx_sv_el hf; obtain ⟨u13, e_u13, hf⟩ := hf
    refine sx_cv hm dX13_nameText_19 rs_RX13_864 mt_X13_byteAt [.int a1, .int v11] [] (b := a0) (ci := 13) rfl rfl rfl c12 (Nat.le_of_ble_eq_true rfl) (Nat.le_of_ble_eq_true rfl) (by omega) (by omega) (f_X13_byteAt_ok X (by omega) (by omega) nn a0 a1 v11 h e_u13) ?_
    clear e_u13
    show mx_S X F L 533 22 [(0, .ref a0), (1, .int a1), (2, .int a2), (3, .int a3)] [.int u13.1] u13.2 0 0 (some (.int r.1), r.2, 0, 0)
    refine mx_S.pu (pc2 := 41) (lv2 := [(0, .ref a0), (1, .int a1), (2, .int a2), (3, .int a3)]) (st2 := [.int u13.1]) hm dX13_nameText_22 rfl ?_
    cases hf
    exact sx_ire hm dX13_nameText_41 rfl rfl
