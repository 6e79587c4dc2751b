set_option maxHeartbeats 4000000 in
theorem f_X13_becomes_ok (X : Nat × (Nat → Int32)) {F L : Nat} (hF : 10 ≤ F) (hL : 232 ≤ L) (nn : Nat) (a0 : Nat) (a1 : Int32) (h : mx_H) {r : mx_H} (hf : f_X13_becomes nn a0 a1 h = some r) : mx_R X F L 552 [.ref a0, .int a1] h (none, r, 0, 0) := by
  have hm : mx_mt 552 = some (yX13_becomes, cX13_becomes, 5, none) := mt_X13_becomes
  show mx_S X F L 552 0 [(0, .ref a0), (1, .int a1)] [] h 0 0 (none, r, 0, 0)
  unfold f_X13_becomes at hf
  refine mx_S.pu (pc2 := 1) (lv2 := [(0, .ref a0), (1, .int a1)]) (st2 := [.int a1]) hm dX13_becomes_0 rfl ?_
  refine sx_ic (v := 2) hm dX13_becomes_1 (by decide) ?_
  replace hf := xl_el hf; obtain ⟨v36, e_v36, hf⟩ := hf
  refine mx_S.pu (pc2 := 3) (lv2 := [(0, .ref a0), (1, .int a1)]) (st2 := [.int v36]) hm dX13_becomes_2 (by rw [← e_v36]; rfl) ?_
  clear e_v36
  refine mx_S.pu (pc2 := 4) (lv2 := [(2, .int v36), (0, .ref a0), (1, .int a1)]) (st2 := []) hm dX13_becomes_3 rfl ?_
  refine mx_S.pu (pc2 := 5) (lv2 := [(2, .int v36), (0, .ref a0), (1, .int a1)]) (st2 := [.ref a0]) hm dX13_becomes_4 rfl ?_
  refine mx_S.pu (pc2 := 6) (lv2 := [(2, .int v36), (0, .ref a0), (1, .int a1)]) (st2 := [.ref a0, .ref a0]) hm dX13_becomes_5 rfl ?_
  replace hf := mx_sv_el hf; obtain ⟨v37, e_v37, hf⟩ := hf
  refine sx_get hm dX13_becomes_6 rs_RX13_932 (xgi_el e_v37) ?_
  clear e_v37
  refine mx_S.pu (pc2 := 10) (lv2 := [(2, .int v36), (0, .ref a0), (1, .int a1)]) (st2 := [.int v36, .int v37, .ref a0]) hm dX13_becomes_9 rfl ?_
  replace hf := mx_gd_el hf; obtain ⟨c38, hf⟩ := hf
  replace hf := mx_sv_el hf; obtain ⟨u39, e_u39, hf⟩ := hf
  refine sx_cv hm dX13_becomes_10 rs_RX13_864 mt_X13_byteAt [.int v37, .int v36] [] (b := a0) (ci := 13) rfl rfl rfl c38 (Nat.le_of_ble_eq_true rfl) (Nat.le_of_ble_eq_true rfl) (by omega) (by omega) (f_X13_byteAt_ok X (by omega) (by omega) nn a0 v37 v36 h e_u39) ?_
  clear e_u39
  show mx_S X F L 552 13 [(2, .int v36), (0, .ref a0), (1, .int a1)] [.int u39.1] u39.2 0 0 (none, r, 0, 0)
  refine mx_S.pu (pc2 := 14) (lv2 := [(3, .int u39.1), (2, .int v36), (0, .ref a0), (1, .int a1)]) (st2 := []) hm dX13_becomes_13 rfl ?_
  replace hf := xl_el hf; obtain ⟨v40, e_v40, hf⟩ := hf
  refine mx_S.pu (pc2 := 17) (lv2 := [(2, .int v40), (3, .int u39.1), (0, .ref a0), (1, .int a1)]) (st2 := []) hm dX13_becomes_14 (by rw [← e_v40]; rfl) ?_
  clear e_v40
  refine sx_ic (v := 0) hm dX13_becomes_17 (by decide) ?_
  refine mx_S.pu (pc2 := 20) (lv2 := [(4, .int 0), (2, .int v40), (3, .int u39.1), (0, .ref a0), (1, .int a1)]) (st2 := []) hm dX13_becomes_18 rfl ?_
  refine mx_S.ext [(0, .ref a0), (1, .int a1), (2, .int v40), (3, .int u39.1), (4, .int 0)] (mx_sub_pos [3, 4, 1, 2, 0] rfl (show ([4, 2, 3, 0, 1] : List Nat).Nodup by decide)) ?_
  exact w_X13_becomes_20_ok X hF hL nn nn a0 a1 v40 u39.1 0 u39.2 _ hf
set_option maxHeartbeats 4000000 in
theorem f_X13_frameMany_ok (X : Nat × (Nat → Int32)) {F L : Nat} (hF : 1 ≤ F) (hL : 22 ≤ L) (nn : Nat) (a0 : Nat) (h : mx_H) {r : (Int32 × mx_H)} (hf : f_X13_frameMany nn a0 h = some r) : mx_R X F L 547 [.ref a0] h (some (.int r.1), r.2, 0, 0) := by
  have hm : mx_mt 547 = some (yX13_frameMany, cX13_frameMany, 1, (some .int)) := mt_X13_frameMany
  show mx_S X F L 547 0 [(0, .ref a0)] [] h 0 0 (some (.int r.1), r.2, 0, 0)
  unfold f_X13_frameMany at hf
  refine mx_S.pu (pc2 := 1) (lv2 := [(0, .ref a0)]) (st2 := [.ref a0]) hm dX13_frameMany_0 rfl ?_
  refine mx_S.pu (pc2 := 2) (lv2 := [(0, .ref a0)]) (st2 := [.ref a0, .ref a0]) hm dX13_frameMany_1 rfl ?_
  replace hf := mx_sv_el hf; obtain ⟨v1, e_v1, hf⟩ := hf
  refine sx_get hm dX13_frameMany_2 rs_RX13_932 (xgi_el e_v1) ?_
  clear e_v1
  refine mx_S.pu (pc2 := 6) (lv2 := [(0, .ref a0)]) (st2 := [.ref a0, .int v1, .ref a0]) hm dX13_frameMany_5 rfl ?_
  replace hf := mx_sv_el hf; obtain ⟨v2, e_v2, hf⟩ := hf
  refine sx_get hm dX13_frameMany_6 rs_RX13_242 (xgr_el e_v2) ?_
  clear e_v2
  refine sx_bi (v := 12) hm dX13_frameMany_9 (by decide) ?_
  refine mx_S.pu (pc2 := 12) (lv2 := [(0, .ref a0)]) (st2 := [.ref a0, .int 12, .ref v2, .int v1, .ref a0]) hm dX13_frameMany_11 rfl ?_
  replace hf := mx_sv_el hf; obtain ⟨v3, e_v3, hf⟩ := hf
  refine sx_get hm dX13_frameMany_12 rs_RX13_932 (xgi_el e_v3) ?_
  clear e_v3
  replace hf := xl_el hf; obtain ⟨v4, e_v4, hf⟩ := hf
  refine mx_S.pu (pc2 := 16) (lv2 := [(0, .ref a0)]) (st2 := [.int v4, .ref v2, .int v1, .ref a0]) hm dX13_frameMany_15 (by rw [← e_v4]; rfl) ?_
  clear e_v4
  refine mx_S.pu (pc2 := 17) (lv2 := [(0, .ref a0)]) (st2 := [.ref a0, .int v4, .ref v2, .int v1, .ref a0]) hm dX13_frameMany_16 rfl ?_
  replace hf := mx_sv_el hf; obtain ⟨v5, e_v5, hf⟩ := hf
  refine sx_get hm dX13_frameMany_17 rs_RX13_940 (xgi_el e_v5) ?_
  clear e_v5
  replace hf := xl_el hf; obtain ⟨v6, e_v6, hf⟩ := hf
  refine mx_S.pu (pc2 := 21) (lv2 := [(0, .ref a0)]) (st2 := [.int v6, .ref v2, .int v1, .ref a0]) hm dX13_frameMany_20 (by rw [← e_v6]; rfl) ?_
  clear e_v6
  replace hf := mx_sv_el hf; obtain ⟨v7, e_v7, hf⟩ := hf
  refine sx_ald hm dX13_frameMany_21 e_v7 ?_
  clear e_v7
  replace hf := mx_gd_el hf; obtain ⟨c8, hf⟩ := hf
  replace hf := mx_sv_el hf; obtain ⟨u9, e_u9, hf⟩ := hf
  refine sx_cv hm dX13_frameMany_22 rs_RX13_864 mt_X13_byteAt [.int v1, .int v7] [] (b := a0) (ci := 13) rfl rfl rfl c8 (Nat.le_of_ble_eq_true rfl) (Nat.le_of_ble_eq_true rfl) (by omega) (by omega) (f_X13_byteAt_ok X (by omega) (by omega) nn a0 v1 v7 h e_u9) ?_
  clear e_u9
  show mx_S X F L 547 25 [(0, .ref a0)] [.int u9.1] u9.2 0 0 (some (.int r.1), r.2, 0, 0)
  cases hf
  exact sx_ire hm dX13_frameMany_25 rfl rfl
set_option maxHeartbeats 4000000 in
theorem w_X13_frameFor_22_ok (X : Nat × (Nat → Int32)) {F L : Nat} (hF : 2 ≤ F) (hL : 46 ≤ L) (nn : Nat) : ∀ (k : Nat) (l0 : Nat) (l1 : Int32) (l2 : Int32) (l3 : Int32) (h : mx_H) (r : (Int32 × mx_H)), w_X13_frameFor_22 nn k l0 l1 l2 l3 h = some r → mx_S X F L 548 22 [(0, .ref l0), (1, .int l1), (2, .int l2), (3, .int l3)] [] h 0 0 (some (.int r.1), r.2, 0, 0) := by
  have hm : mx_mt 548 = some (yX13_frameFor, cX13_frameFor, 4, (some .int)) := mt_X13_frameFor
  intro k
  induction k with
  | zero => intro l0 l1 l2 l3 h r hf; cases hf
  | succ k ih =>
    intro l0 l1 l2 l3 h r hf
    unfold w_X13_frameFor_22 at hf
    refine mx_S.pu (pc2 := 23) (lv2 := [(0, .ref l0), (1, .int l1), (2, .int l2), (3, .int l3)]) (st2 := [.int l3]) hm dX13_frameFor_22 rfl ?_
    refine mx_S.pu (pc2 := 24) (lv2 := [(0, .ref l0), (1, .int l1), (2, .int l2), (3, .int l3)]) (st2 := [.ref l0, .int l3]) hm dX13_frameFor_23 rfl ?_
    replace hf := mx_gd_el hf; obtain ⟨c1, hf⟩ := hf
    replace hf := mx_sv_el hf; obtain ⟨u2, e_u2, hf⟩ := hf
    refine sx_cv hm dX13_frameFor_24 rs_RX13_946 mt_X13_frameMany [] [.int l3] (b := l0) (ci := 13) rfl rfl rfl c1 (Nat.le_of_ble_eq_true rfl) (Nat.le_of_ble_eq_true rfl) (by omega) (by omega) (f_X13_frameMany_ok X (by omega) (by omega) nn l0 h e_u2) ?_
    clear e_u2
    show mx_S X F L 548 27 [(0, .ref l0), (1, .int l1), (2, .int l2), (3, .int l3)] [.int u2.1, .int l3] u2.2 0 0 (some (.int r.1), r.2, 0, 0)
    rcases mx_if_el hf with ⟨c12, hf⟩ | ⟨c12, hf⟩
    · refine sb_ic_ge hm dX13_frameFor_27 (tgt := 59) rfl (fun _ => ?_) (fun z => absurd c12 z)
      refine sx_ic (v := (-1)) hm dX13_frameFor_59 (by decide) ?_
      cases hf
      exact sx_ire hm dX13_frameFor_60 rfl rfl
    · refine sb_ic_ge hm dX13_frameFor_27 (tgt := 59) rfl (fun z => absurd z c12) (fun _ => ?_)
      refine mx_S.pu (pc2 := 31) (lv2 := [(0, .ref l0), (1, .int l1), (2, .int l2), (3, .int l3)]) (st2 := [.ref l0]) hm dX13_frameFor_30 rfl ?_
      refine mx_S.pu (pc2 := 32) (lv2 := [(0, .ref l0), (1, .int l1), (2, .int l2), (3, .int l3)]) (st2 := [.int l2, .ref l0]) hm dX13_frameFor_31 rfl ?_
      replace hf := mx_gd_el hf; obtain ⟨c3, hf⟩ := hf
      replace hf := mx_sv_el hf; obtain ⟨u4, e_u4, hf⟩ := hf
      refine sx_cv hm dX13_frameFor_32 rs_RX13_949 mt_X13_pairIn [.int l2] [] (b := l0) (ci := 13) rfl rfl rfl c3 (Nat.le_of_ble_eq_true rfl) (Nat.le_of_ble_eq_true rfl) (by omega) (by omega) (f_X13_pairIn_ok X (by omega) (by omega) nn l0 l2 u2.2 e_u4) ?_
      clear e_u4
      show mx_S X F L 548 35 [(0, .ref l0), (1, .int l1), (2, .int l2), (3, .int l3)] [.int u4.1] u4.2 0 0 (some (.int r.1), r.2, 0, 0)
      refine mx_S.pu (pc2 := 36) (lv2 := [(0, .ref l0), (1, .int l1), (2, .int l2), (3, .int l3)]) (st2 := [.int l1, .int u4.1]) hm dX13_frameFor_35 rfl ?_
      rcases mx_if_el hf with ⟨c11, hf⟩ | ⟨c11, hf⟩
      · refine sb_ic_ne hm dX13_frameFor_36 (tgt := 41) rfl (fun _ => ?_) (fun z => absurd c11 z)
        refine mx_S.pu (pc2 := 42) (lv2 := [(0, .ref l0), (1, .int l1), (2, .int l2), (3, .int l3)]) (st2 := [.ref l0]) hm dX13_frameFor_41 rfl ?_
        refine mx_S.pu (pc2 := 43) (lv2 := [(0, .ref l0), (1, .int l1), (2, .int l2), (3, .int l3)]) (st2 := [.ref l0, .ref l0]) hm dX13_frameFor_42 rfl ?_
        refine mx_S.pu (pc2 := 44) (lv2 := [(0, .ref l0), (1, .int l1), (2, .int l2), (3, .int l3)]) (st2 := [.int l2, .ref l0, .ref l0]) hm dX13_frameFor_43 rfl ?_
        refine sx_ic (v := 2) hm dX13_frameFor_44 (by decide) ?_
        replace hf := xl_el hf; obtain ⟨v5, e_v5, hf⟩ := hf
        refine mx_S.pu (pc2 := 46) (lv2 := [(0, .ref l0), (1, .int l1), (2, .int l2), (3, .int l3)]) (st2 := [.int v5, .ref l0, .ref l0]) hm dX13_frameFor_45 (by rw [← e_v5]; rfl) ?_
        clear e_v5
        replace hf := mx_gd_el hf; obtain ⟨c6, hf⟩ := hf
        replace hf := mx_sv_el hf; obtain ⟨u7, e_u7, hf⟩ := hf
        refine sx_cv hm dX13_frameFor_46 rs_RX13_943 mt_X13_typesEnd [.int v5] [.ref l0] (b := l0) (ci := 13) rfl rfl rfl c6 (Nat.le_of_ble_eq_true rfl) (Nat.le_of_ble_eq_true rfl) (by omega) (by omega) (f_X13_typesEnd_ok X (by omega) (by omega) nn l0 v5 u4.2 e_u7) ?_
        clear e_u7
        show mx_S X F L 548 49 [(0, .ref l0), (1, .int l1), (2, .int l2), (3, .int l3)] [.int u7.1, .ref l0] u7.2 0 0 (some (.int r.1), r.2, 0, 0)
        replace hf := mx_gd_el hf; obtain ⟨c8, hf⟩ := hf
        replace hf := mx_sv_el hf; obtain ⟨u9, e_u9, hf⟩ := hf
        refine sx_cv hm dX13_frameFor_49 rs_RX13_943 mt_X13_typesEnd [.int u7.1] [] (b := l0) (ci := 13) rfl rfl rfl c8 (Nat.le_of_ble_eq_true rfl) (Nat.le_of_ble_eq_true rfl) (by omega) (by omega) (f_X13_typesEnd_ok X (by omega) (by omega) nn l0 u7.1 u7.2 e_u9) ?_
        clear e_u9
        show mx_S X F L 548 52 [(0, .ref l0), (1, .int l1), (2, .int l2), (3, .int l3)] [.int u9.1] u9.2 0 0 (some (.int r.1), r.2, 0, 0)
        refine mx_S.pu (pc2 := 53) (lv2 := [(2, .int u9.1), (0, .ref l0), (1, .int l1), (3, .int l3)]) (st2 := []) hm dX13_frameFor_52 rfl ?_
        replace hf := xl_el hf; obtain ⟨v10, e_v10, hf⟩ := hf
        refine mx_S.pu (pc2 := 56) (lv2 := [(3, .int v10), (2, .int u9.1), (0, .ref l0), (1, .int l1)]) (st2 := []) hm dX13_frameFor_53 (by rw [← e_v10]; rfl) ?_
        clear e_v10
        refine mx_S.pu (pc2 := 22) (lv2 := [(3, .int v10), (2, .int u9.1), (0, .ref l0), (1, .int l1)]) (st2 := []) hm dX13_frameFor_56 rfl ?_
        refine mx_S.ext [(0, .ref l0), (1, .int l1), (2, .int u9.1), (3, .int v10)] (mx_sub_pos [2, 3, 1, 0] rfl (show ([3, 2, 0, 1] : List Nat).Nodup by decide)) ?_
        exact ih l0 l1 u9.1 v10 u9.2 _ hf
      · refine sb_ic_ne hm dX13_frameFor_36 (tgt := 41) rfl (fun z => absurd z c11) (fun _ => ?_)
        refine mx_S.pu (pc2 := 40) (lv2 := [(0, .ref l0), (1, .int l1), (2, .int l2), (3, .int l3)]) (st2 := [.int l2]) hm dX13_frameFor_39 rfl ?_
        cases hf
        exact sx_ire hm dX13_frameFor_40 rfl rfl
set_option maxHeartbeats 4000000 in
theorem f_X13_frameFor_ok (X : Nat × (Nat → Int32)) {F L : Nat} (hF : 2 ≤ F) (hL : 46 ≤ L) (nn : Nat) (a0 : Nat) (a1 : Int32) (h : mx_H) {r : (Int32 × mx_H)} (hf : f_X13_frameFor nn a0 a1 h = some r) : mx_R X F L 548 [.ref a0, .int a1] h (some (.int r.1), r.2, 0, 0) := by
  have hm : mx_mt 548 = some (yX13_frameFor, cX13_frameFor, 4, (some .int)) := mt_X13_frameFor
  show mx_S X F L 548 0 [(0, .ref a0), (1, .int a1)] [] h 0 0 (some (.int r.1), r.2, 0, 0)
  unfold f_X13_frameFor at hf
  refine mx_S.pu (pc2 := 1) (lv2 := [(0, .ref a0), (1, .int a1)]) (st2 := [.ref a0]) hm dX13_frameFor_0 rfl ?_
  replace hf := mx_sv_el hf; obtain ⟨v13, e_v13, hf⟩ := hf
  refine sx_get hm dX13_frameFor_1 rs_RX13_242 (xgr_el e_v13) ?_
  clear e_v13
  refine sx_bi (v := 12) hm dX13_frameFor_4 (by decide) ?_
  refine mx_S.pu (pc2 := 7) (lv2 := [(0, .ref a0), (1, .int a1)]) (st2 := [.ref a0, .int 12, .ref v13]) hm dX13_frameFor_6 rfl ?_
  replace hf := mx_sv_el hf; obtain ⟨v14, e_v14, hf⟩ := hf
  refine sx_get hm dX13_frameFor_7 rs_RX13_932 (xgi_el e_v14) ?_
  clear e_v14
  replace hf := xl_el hf; obtain ⟨v15, e_v15, hf⟩ := hf
  refine mx_S.pu (pc2 := 11) (lv2 := [(0, .ref a0), (1, .int a1)]) (st2 := [.int v15, .ref v13]) hm dX13_frameFor_10 (by rw [← e_v15]; rfl) ?_
  clear e_v15
  refine mx_S.pu (pc2 := 12) (lv2 := [(0, .ref a0), (1, .int a1)]) (st2 := [.ref a0, .int v15, .ref v13]) hm dX13_frameFor_11 rfl ?_
  replace hf := mx_sv_el hf; obtain ⟨v16, e_v16, hf⟩ := hf
  refine sx_get hm dX13_frameFor_12 rs_RX13_940 (xgi_el e_v16) ?_
  clear e_v16
  replace hf := xl_el hf; obtain ⟨v17, e_v17, hf⟩ := hf
  refine mx_S.pu (pc2 := 16) (lv2 := [(0, .ref a0), (1, .int a1)]) (st2 := [.int v17, .ref v13]) hm dX13_frameFor_15 (by rw [← e_v17]; rfl) ?_
  clear e_v17
  replace hf := mx_sv_el hf; obtain ⟨v18, e_v18, hf⟩ := hf
  refine sx_ald hm dX13_frameFor_16 e_v18 ?_
  clear e_v18
  refine sx_ic (v := 1) hm dX13_frameFor_17 (by decide) ?_
  replace hf := xl_el hf; obtain ⟨v19, e_v19, hf⟩ := hf
  refine mx_S.pu (pc2 := 19) (lv2 := [(0, .ref a0), (1, .int a1)]) (st2 := [.int v19]) hm dX13_frameFor_18 (by rw [← e_v19]; rfl) ?_
  clear e_v19
  refine mx_S.pu (pc2 := 20) (lv2 := [(2, .int v19), (0, .ref a0), (1, .int a1)]) (st2 := []) hm dX13_frameFor_19 rfl ?_
  refine sx_ic (v := 0) hm dX13_frameFor_20 (by decide) ?_
  refine mx_S.pu (pc2 := 22) (lv2 := [(3, .int 0), (2, .int v19), (0, .ref a0), (1, .int a1)]) (st2 := []) hm dX13_frameFor_21 rfl ?_
  refine mx_S.ext [(0, .ref a0), (1, .int a1), (2, .int v19), (3, .int 0)] (mx_sub_pos [2, 3, 1, 0] rfl (show ([3, 2, 0, 1] : List Nat).Nodup by decide)) ?_
  exact w_X13_frameFor_22_ok X hF hL nn nn a0 a1 v19 0 h _ hf
