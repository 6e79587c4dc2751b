set_option maxHeartbeats 4000000 in
set_option maxRecDepth 20000 in
theorem j_X13_workCall_65_ok (X : Nat × (Nat → Int32)) {F L d : Nat} (hF : 8 + (d + 1) ≤ F) (hL : 175 + (d + 1) * 26 ≤ L) (nn : Nat) {rc : tg_X13_work} (hrc : hg5_X13_work X d rc) (l0 : Nat) (l1 : Int32) (l2 : Int32) (l4 : Int32) (s0 : Int32) (s1 : Nat) (h : mx_H) {r : mx_H} (hf : j_X13_workCall_65 nn rc l0 l1 l2 l4 s0 s1 h = some r) : mx_S X F L 476 65 [(0, .ref l0), (1, .int l1), (2, .int l2), (4, .int l4)] [.int s0, .ref s1] h 0 0 (none, r, 0, 0) := by
  have hm : mx_mt 476 = some (yX13_workCall, cX13_workCall, 6, none) := mt_X13_workCall
  unfold j_X13_workCall_65 at hf
  replace hf := mx_gd_el hf; obtain ⟨c1, hf⟩ := hf
  replace hf := mx_sv_el hf; obtain ⟨u2, e_u2, hf⟩ := hf
  refine sx_cv hm dX13_workCall_65 rs_RX13_646 mt_X13_put [.int s0] [] (b := s1) (ci := 13) rfl rfl rfl c1 (Nat.le_of_ble_eq_true rfl) (Nat.le_of_ble_eq_true rfl) (by omega) (by omega) (f_X13_put_ok X (by omega) (by omega) nn s1 s0 h e_u2) ?_
  clear e_u2
  show mx_S X F L 476 68 [(0, .ref l0), (1, .int l1), (2, .int l2), (4, .int l4)] [] u2 0 0 (none, r, 0, 0)
  refine mx_S.pu (pc2 := 69) (lv2 := [(0, .ref l0), (1, .int l1), (2, .int l2), (4, .int l4)]) (st2 := [.ref l0]) hm dX13_workCall_68 rfl ?_
  refine mx_S.pu (pc2 := 70) (lv2 := [(0, .ref l0), (1, .int l1), (2, .int l2), (4, .int l4)]) (st2 := [.ref l0, .ref l0]) hm dX13_workCall_69 rfl ?_
  refine mx_S.pu (pc2 := 71) (lv2 := [(0, .ref l0), (1, .int l1), (2, .int l2), (4, .int l4)]) (st2 := [.int l2, .ref l0, .ref l0]) hm dX13_workCall_70 rfl ?_
  refine mx_S.pu (pc2 := 72) (lv2 := [(0, .ref l0), (1, .int l1), (2, .int l2), (4, .int l4)]) (st2 := [.ref l0, .int l2, .ref l0, .ref l0]) hm dX13_workCall_71 rfl ?_
  replace hf := mx_sv_el hf; obtain ⟨v3, e_v3, hf⟩ := hf
  refine sx_get hm dX13_workCall_72 rs_RX13_52 (xgr_el e_v3) ?_
  clear e_v3
  refine mx_S.pu (pc2 := 76) (lv2 := [(0, .ref l0), (1, .int l1), (2, .int l2), (4, .int l4)]) (st2 := [.int l1, .ref v3, .int l2, .ref l0, .ref l0]) hm dX13_workCall_75 rfl ?_
  replace hf := mx_sv_el hf; obtain ⟨v4, e_v4, hf⟩ := hf
  refine sx_ald hm dX13_workCall_76 e_v4 ?_
  clear e_v4
  replace hf := mx_gd_el hf; obtain ⟨c5, hf⟩ := hf
  replace hf := mx_sv_el hf; obtain ⟨u6, e_u6, hf⟩ := hf
  refine sx_cv hm dX13_workCall_77 rs_RX13_700 mt_X13_memberConstant [.int l2, .int v4] [.ref l0] (b := l0) (ci := 13) rfl rfl rfl c5 (Nat.le_of_ble_eq_true rfl) (Nat.le_of_ble_eq_true rfl) (by omega) (by omega) (f_X13_memberConstant_ok X (by omega) (by omega) nn l0 l2 v4 u2 e_u6) ?_
  clear e_u6
  show mx_S X F L 476 80 [(0, .ref l0), (1, .int l1), (2, .int l2), (4, .int l4)] [.int u6.1, .ref l0] u6.2 0 0 (none, r, 0, 0)
  replace hf := mx_gd_el hf; obtain ⟨c7, hf⟩ := hf
  replace hf := mx_sv_el hf; obtain ⟨u8, e_u8, hf⟩ := hf
  refine sx_cv hm dX13_workCall_80 rs_RX13_646 mt_X13_put [.int u6.1] [] (b := l0) (ci := 13) rfl rfl rfl c7 (Nat.le_of_ble_eq_true rfl) (Nat.le_of_ble_eq_true rfl) (by omega) (by omega) (f_X13_put_ok X (by omega) (by omega) nn l0 u6.1 u6.2 e_u8) ?_
  clear e_u8
  show mx_S X F L 476 83 [(0, .ref l0), (1, .int l1), (2, .int l2), (4, .int l4)] [] u8 0 0 (none, r, 0, 0)
  refine mx_S.pu (pc2 := 84) (lv2 := [(0, .ref l0), (1, .int l1), (2, .int l2), (4, .int l4)]) (st2 := [.ref l0]) hm dX13_workCall_83 rfl ?_
  refine mx_S.pu (pc2 := 86) (lv2 := [(0, .ref l0), (1, .int l1), (2, .int l2), (4, .int l4)]) (st2 := [.int l4, .ref l0]) hm dX13_workCall_84 rfl ?_
  refine mx_S.pu (pc2 := 87) (lv2 := [(0, .ref l0), (1, .int l1), (2, .int l2), (4, .int l4)]) (st2 := [.ref l0, .int l4, .ref l0]) hm dX13_workCall_86 rfl ?_
  replace hf := mx_sv_el hf; obtain ⟨v9, e_v9, hf⟩ := hf
  refine sx_get hm dX13_workCall_87 rs_RX13_49 (xgr_el e_v9) ?_
  clear e_v9
  refine mx_S.pu (pc2 := 91) (lv2 := [(0, .ref l0), (1, .int l1), (2, .int l2), (4, .int l4)]) (st2 := [.int l1, .ref v9, .int l4, .ref l0]) hm dX13_workCall_90 rfl ?_
  replace hf := mx_sv_el hf; obtain ⟨v10, e_v10, hf⟩ := hf
  refine sx_ald hm dX13_workCall_91 e_v10 ?_
  clear e_v10
  replace hf := mx_gd_el hf; obtain ⟨c11, hf⟩ := hf
  replace hf := mx_sv_el hf; obtain ⟨u12, e_u12, hf⟩ := hf
  refine sx_cv hm dX13_workCall_92 rs_RX13_712 mt_X13_turn [.int l4, .int v10] [] (b := l0) (ci := 13) rfl rfl rfl c11 (Nat.le_of_ble_eq_true rfl) (Nat.le_of_ble_eq_true rfl) (by omega) (by omega) (f_X13_turn_ok X (by omega) (by omega) nn l0 l4 v10 u8 e_u12) ?_
  clear e_u12
  show mx_S X F L 476 95 [(0, .ref l0), (1, .int l1), (2, .int l2), (4, .int l4)] [] u12 0 0 (none, r, 0, 0)
  cases hf
  exact sx_ret hm dX13_workCall_95 rfl
set_option maxHeartbeats 4000000 in
set_option maxRecDepth 20000 in
theorem w_X13_workCall_19_ok (X : Nat × (Nat → Int32)) {F L d : Nat} (hF : 8 + (d + 1) ≤ F) (hL : 175 + (d + 1) * 26 ≤ L) (nn : Nat) {rc : tg_X13_work} (hrc : hg5_X13_work X d rc) : ∀ (k : Nat) (l0 : Nat) (l1 : Int32) (l2 : Int32) (l3 : Int32) (l4 : Int32) (l5 : Int32) (h : mx_H) (r : mx_H), w_X13_workCall_19 nn rc k l0 l1 l2 l3 l4 l5 h = some r → mx_S X F L 476 19 [(0, .ref l0), (1, .int l1), (2, .int l2), (3, .int l3), (4, .int l4), (5, .int l5)] [] h 0 0 (none, r, 0, 0) := by
  have hm : mx_mt 476 = some (yX13_workCall, cX13_workCall, 6, none) := mt_X13_workCall
  intro k
  induction k with
  | zero => intro l0 l1 l2 l3 l4 l5 h r hf; cases hf
  | succ k ih =>
    intro l0 l1 l2 l3 l4 l5 h r hf
    unfold w_X13_workCall_19 at hf
    refine mx_S.pu (pc2 := 21) (lv2 := [(0, .ref l0), (1, .int l1), (2, .int l2), (3, .int l3), (4, .int l4), (5, .int l5)]) (st2 := [.int l5]) hm dX13_workCall_19 rfl ?_
    refine sx_ic (v := (-1)) hm dX13_workCall_21 (by decide) ?_
    rcases mx_if_el hf with ⟨c21, hf⟩ | ⟨c21, hf⟩
    · refine sb_ic_eq hm dX13_workCall_22 (tgt := 51) rfl (fun _ => ?_) (fun z => absurd c21 z)
      refine mx_S.pu (pc2 := 52) (lv2 := [(0, .ref l0), (1, .int l1), (2, .int l2), (3, .int l3), (4, .int l4), (5, .int l5)]) (st2 := [.ref l0]) hm dX13_workCall_51 rfl ?_
      refine mx_S.pu (pc2 := 53) (lv2 := [(0, .ref l0), (1, .int l1), (2, .int l2), (3, .int l3), (4, .int l4), (5, .int l5)]) (st2 := [.int l3, .ref l0]) hm dX13_workCall_52 rfl ?_
      rcases mx_if_el hf with ⟨c13, hf⟩ | ⟨c13, hf⟩
      · refine sb_if_eq hm dX13_workCall_53 (tgt := 62) rfl (fun _ => ?_) (fun z => absurd c13 z)
        refine sx_si (v := 182) hm dX13_workCall_62 (by decide) ?_
        refine mx_S.ext [(0, .ref l0), (1, .int l1), (2, .int l2), (4, .int l4)] (mx_sub_pos [0, 1, 2, 4] rfl (show ([0, 1, 2, 3, 4, 5] : List Nat).Nodup by decide)) ?_
        exact j_X13_workCall_65_ok X hF hL nn hrc l0 l1 l2 l4 182 l0 h hf
      · refine sb_if_eq hm dX13_workCall_53 (tgt := 62) rfl (fun z => absurd z c13) (fun _ => ?_)
        refine sx_si (v := 184) hm dX13_workCall_56 (by decide) ?_
        refine mx_S.pu (pc2 := 65) (lv2 := [(0, .ref l0), (1, .int l1), (2, .int l2), (3, .int l3), (4, .int l4), (5, .int l5)]) (st2 := [.int 184, .ref l0]) hm dX13_workCall_59 rfl ?_
        refine mx_S.ext [(0, .ref l0), (1, .int l1), (2, .int l2), (4, .int l4)] (mx_sub_pos [0, 1, 2, 4] rfl (show ([0, 1, 2, 3, 4, 5] : List Nat).Nodup by decide)) ?_
        exact j_X13_workCall_65_ok X hF hL nn hrc l0 l1 l2 l4 184 l0 h hf
    · refine sb_ic_eq hm dX13_workCall_22 (tgt := 51) rfl (fun z => absurd z c21) (fun _ => ?_)
      refine mx_S.pu (pc2 := 26) (lv2 := [(0, .ref l0), (1, .int l1), (2, .int l2), (3, .int l3), (4, .int l4), (5, .int l5)]) (st2 := [.ref l0]) hm dX13_workCall_25 rfl ?_
      refine mx_S.pu (pc2 := 27) (lv2 := [(0, .ref l0), (1, .int l1), (2, .int l2), (3, .int l3), (4, .int l4), (5, .int l5)]) (st2 := [.ref l0, .ref l0]) hm dX13_workCall_26 rfl ?_
      replace hf := mx_sv_el hf; obtain ⟨v14, e_v14, hf⟩ := hf
      refine sx_get hm dX13_workCall_27 rs_RX13_37 (xgr_el e_v14) ?_
      clear e_v14
      refine mx_S.pu (pc2 := 32) (lv2 := [(0, .ref l0), (1, .int l1), (2, .int l2), (3, .int l3), (4, .int l4), (5, .int l5)]) (st2 := [.int l5, .ref v14, .ref l0]) hm dX13_workCall_30 rfl ?_
      replace hf := mx_sv_el hf; obtain ⟨v15, e_v15, hf⟩ := hf
      refine sx_ald hm dX13_workCall_32 e_v15 ?_
      clear e_v15
      replace hf := mx_gd_el hf; obtain ⟨c16, hf⟩ := hf
      replace hf := mx_sv_el hf; obtain ⟨u17, e_u17, hf⟩ := hf
      refine sx_cv hm dX13_workCall_33 rs_RX13_667 mt_X13_work [.int v15] [] (b := l0) (ci := 13) rfl rfl rfl c16 (Nat.le_of_ble_eq_true rfl) (Nat.le_of_ble_eq_true rfl) (by omega) (by omega) (hrc.1 (by omega) (by omega) l0 v15 h e_u17) ?_
      clear e_u17
      show mx_S X F L 476 36 [(0, .ref l0), (1, .int l1), (2, .int l2), (3, .int l3), (4, .int l4), (5, .int l5)] [] u17 0 0 (none, r, 0, 0)
      replace hf := xl_el hf; obtain ⟨v18, e_v18, hf⟩ := hf
      refine mx_S.pu (pc2 := 39) (lv2 := [(4, .int v18), (0, .ref l0), (1, .int l1), (2, .int l2), (3, .int l3), (5, .int l5)]) (st2 := []) hm dX13_workCall_36 (by rw [← e_v18]; rfl) ?_
      clear e_v18
      refine mx_S.pu (pc2 := 40) (lv2 := [(4, .int v18), (0, .ref l0), (1, .int l1), (2, .int l2), (3, .int l3), (5, .int l5)]) (st2 := [.ref l0]) hm dX13_workCall_39 rfl ?_
      replace hf := mx_sv_el hf; obtain ⟨v19, e_v19, hf⟩ := hf
      refine sx_get hm dX13_workCall_40 rs_RX13_46 (xgr_el e_v19) ?_
      clear e_v19
      refine mx_S.pu (pc2 := 45) (lv2 := [(4, .int v18), (0, .ref l0), (1, .int l1), (2, .int l2), (3, .int l3), (5, .int l5)]) (st2 := [.int l5, .ref v19]) hm dX13_workCall_43 rfl ?_
      replace hf := mx_sv_el hf; obtain ⟨v20, e_v20, hf⟩ := hf
      refine sx_ald hm dX13_workCall_45 e_v20 ?_
      clear e_v20
      refine mx_S.pu (pc2 := 48) (lv2 := [(5, .int v20), (4, .int v18), (0, .ref l0), (1, .int l1), (2, .int l2), (3, .int l3)]) (st2 := []) hm dX13_workCall_46 rfl ?_
      refine mx_S.pu (pc2 := 19) (lv2 := [(5, .int v20), (4, .int v18), (0, .ref l0), (1, .int l1), (2, .int l2), (3, .int l3)]) (st2 := []) hm dX13_workCall_48 rfl ?_
      refine mx_S.ext [(0, .ref l0), (1, .int l1), (2, .int l2), (3, .int l3), (4, .int v18), (5, .int v20)] (mx_sub_pos [2, 3, 4, 5, 1, 0] rfl (show ([5, 4, 0, 1, 2, 3] : List Nat).Nodup by decide)) ?_
      exact ih l0 l1 l2 l3 v18 v20 u17 _ hf
set_option maxHeartbeats 4000000 in
set_option maxRecDepth 20000 in
theorem j_X13_workCall_9_ok (X : Nat × (Nat → Int32)) {F L d : Nat} (hF : 8 + (d + 1) ≤ F) (hL : 175 + (d + 1) * 26 ≤ L) (nn : Nat) {rc : tg_X13_work} (hrc : hg5_X13_work X d rc) (l0 : Nat) (l1 : Int32) (l2 : Int32) (l3 : Int32) (s0 : Int32) (h : mx_H) {r : mx_H} (hf : j_X13_workCall_9 nn rc l0 l1 l2 l3 s0 h = some r) : mx_S X F L 476 9 [(0, .ref l0), (1, .int l1), (2, .int l2), (3, .int l3)] [.int s0] h 0 0 (none, r, 0, 0) := by
  have hm : mx_mt 476 = some (yX13_workCall, cX13_workCall, 6, none) := mt_X13_workCall
  unfold j_X13_workCall_9 at hf
  refine mx_S.pu (pc2 := 11) (lv2 := [(4, .int s0), (0, .ref l0), (1, .int l1), (2, .int l2), (3, .int l3)]) (st2 := []) hm dX13_workCall_9 rfl ?_
  refine mx_S.pu (pc2 := 12) (lv2 := [(4, .int s0), (0, .ref l0), (1, .int l1), (2, .int l2), (3, .int l3)]) (st2 := [.ref l0]) hm dX13_workCall_11 rfl ?_
  replace hf := mx_sv_el hf; obtain ⟨v22, e_v22, hf⟩ := hf
  refine sx_get hm dX13_workCall_12 rs_RX13_40 (xgr_el e_v22) ?_
  clear e_v22
  refine mx_S.pu (pc2 := 16) (lv2 := [(4, .int s0), (0, .ref l0), (1, .int l1), (2, .int l2), (3, .int l3)]) (st2 := [.int l1, .ref v22]) hm dX13_workCall_15 rfl ?_
  replace hf := mx_sv_el hf; obtain ⟨v23, e_v23, hf⟩ := hf
  refine sx_ald hm dX13_workCall_16 e_v23 ?_
  clear e_v23
  refine mx_S.pu (pc2 := 19) (lv2 := [(5, .int v23), (4, .int s0), (0, .ref l0), (1, .int l1), (2, .int l2), (3, .int l3)]) (st2 := []) hm dX13_workCall_17 rfl ?_
  refine mx_S.ext [(0, .ref l0), (1, .int l1), (2, .int l2), (3, .int l3), (4, .int s0), (5, .int v23)] (mx_sub_pos [2, 3, 4, 5, 1, 0] rfl (show ([5, 4, 0, 1, 2, 3] : List Nat).Nodup by decide)) ?_
  exact w_X13_workCall_19_ok X hF hL nn hrc nn l0 l1 l2 l3 s0 v23 h _ hf
set_option maxHeartbeats 4000000 in
set_option maxRecDepth 20000 in
theorem o_X13_workCall_ok (X : Nat × (Nat → Int32)) {F L d : Nat} (hF : 8 + (d + 1) ≤ F) (hL : 175 + (d + 1) * 26 ≤ L) (nn : Nat) {rc : tg_X13_work} (hrc : hg5_X13_work X d rc) (a0 : Nat) (a1 : Int32) (a2 : Int32) (a3 : Int32) (h : mx_H) {r : mx_H} (hf : o_X13_workCall nn rc a0 a1 a2 a3 h = some r) : mx_R X F L 476 [.ref a0, .int a1, .int a2, .int a3] h (none, r, 0, 0) := by
  have hm : mx_mt 476 = some (yX13_workCall, cX13_workCall, 6, none) := mt_X13_workCall
  show mx_S X F L 476 0 [(0, .ref a0), (1, .int a1), (2, .int a2), (3, .int a3)] [] h 0 0 (none, r, 0, 0)
  unfold o_X13_workCall at hf
  refine mx_S.pu (pc2 := 1) (lv2 := [(0, .ref a0), (1, .int a1), (2, .int a2), (3, .int a3)]) (st2 := [.int a3]) hm dX13_workCall_0 rfl ?_
  rcases mx_if_el hf with ⟨c24, hf⟩ | ⟨c24, hf⟩
  · refine sb_if_eq hm dX13_workCall_1 (tgt := 8) rfl (fun _ => ?_) (fun z => absurd c24 z)
    refine sx_ic (v := 1) hm dX13_workCall_8 (by decide) ?_
    exact j_X13_workCall_9_ok X hF hL nn hrc a0 a1 a2 a3 1 h hf
  · refine sb_if_eq hm dX13_workCall_1 (tgt := 8) rfl (fun z => absurd z c24) (fun _ => ?_)
    refine sx_ic (v := 0) hm dX13_workCall_4 (by decide) ?_
    refine mx_S.pu (pc2 := 9) (lv2 := [(0, .ref a0), (1, .int a1), (2, .int a2), (3, .int a3)]) (st2 := [.int 0]) hm dX13_workCall_5 rfl ?_
    exact j_X13_workCall_9_ok X hF hL nn hrc a0 a1 a2 a3 0 h hf
set_option maxHeartbeats 4000000 in
set_option maxRecDepth 20000 in
theorem j_X13_workBoth_315_ok (X : Nat × (Nat → Int32)) {F L d : Nat} (hF : 8 + (d + 1) ≤ F) (hL : 175 + (d + 1) * 26 ≤ L) (nn : Nat) {rc : tg_X13_work} (hrc : hg5_X13_work X d rc) (l0 : Nat) (s0 : Int32) (h : mx_H) {r : mx_H} (hf : j_X13_workBoth_315 nn rc l0 s0 h = some r) : mx_S X F L 478 315 [(0, .ref l0)] [.int s0] h 0 0 (none, r, 0, 0) := by
  have hm : mx_mt 478 = some (yX13_workBoth, cX13_workBoth, 7, none) := mt_X13_workBoth
  unfold j_X13_workBoth_315 at hf
  refine mx_S.pu (pc2 := 317) (lv2 := [(6, .int s0), (0, .ref l0)]) (st2 := []) hm dX13_workBoth_315 rfl ?_
  refine mx_S.pu (pc2 := 318) (lv2 := [(6, .int s0), (0, .ref l0)]) (st2 := [.ref l0]) hm dX13_workBoth_317 rfl ?_
  refine mx_S.pu (pc2 := 320) (lv2 := [(6, .int s0), (0, .ref l0)]) (st2 := [.int s0, .ref l0]) hm dX13_workBoth_318 rfl ?_
  refine sx_ic (v := 2) hm dX13_workBoth_320 (by decide) ?_
  replace hf := mx_gd_el hf; obtain ⟨c1, hf⟩ := hf
  replace hf := mx_sv_el hf; obtain ⟨u2, e_u2, hf⟩ := hf
  refine sx_cv hm dX13_workBoth_321 rs_RX13_719 mt_X13_truth [.int s0, .int 2] [] (b := l0) (ci := 13) rfl rfl rfl c1 (Nat.le_of_ble_eq_true rfl) (Nat.le_of_ble_eq_true rfl) (by omega) (by omega) (f_X13_truth_ok X (by omega) (by omega) nn l0 s0 2 h e_u2) ?_
  clear e_u2
  show mx_S X F L 478 324 [(6, .int s0), (0, .ref l0)] [] u2 0 0 (none, r, 0, 0)
  cases hf
  exact sx_ret hm dX13_workBoth_324 rfl
set_option maxHeartbeats 4000000 in
set_option maxRecDepth 20000 in
theorem j_X13_workBoth_210_ok (X : Nat × (Nat → Int32)) {F L d : Nat} (hF : 8 + (d + 1) ≤ F) (hL : 175 + (d + 1) * 26 ≤ L) (nn : Nat) {rc : tg_X13_work} (hrc : hg5_X13_work X d rc) (l0 : Nat) (l2 : Int32) (s0 : Int32) (h : mx_H) {r : mx_H} (hf : j_X13_workBoth_210 nn rc l0 l2 s0 h = some r) : mx_S X F L 478 210 [(0, .ref l0), (2, .int l2)] [.int s0] h 0 0 (none, r, 0, 0) := by
  have hm : mx_mt 478 = some (yX13_workBoth, cX13_workBoth, 7, none) := mt_X13_workBoth
  unfold j_X13_workBoth_210 at hf
  refine mx_S.pu (pc2 := 212) (lv2 := [(5, .int s0), (0, .ref l0), (2, .int l2)]) (st2 := []) hm dX13_workBoth_210 rfl ?_
  refine mx_S.pu (pc2 := 213) (lv2 := [(5, .int s0), (0, .ref l0), (2, .int l2)]) (st2 := [.int l2]) hm dX13_workBoth_212 rfl ?_
  refine sx_ic (v := 0) hm dX13_workBoth_213 (by decide) ?_
  refine sx_bi (v := 61) hm dX13_workBoth_214 (by decide) ?_
  refine sx_bi (v := 61) hm dX13_workBoth_216 (by decide) ?_
  replace hf := mx_sv_el hf; obtain ⟨u3, e_u3, hf⟩ := hf
  refine sx_cs hm dX13_workBoth_218 rs_RX13_454 mt_X13_sign [.int 0, .int 61, .int 61] [.int l2] rfl rfl (Nat.le_of_ble_eq_true rfl) (Nat.le_of_ble_eq_true rfl) (by omega) (by omega) (f_X13_sign_ok X (by omega) (by omega) nn 0 61 61 h e_u3) ?_
  clear e_u3
  show mx_S X F L 478 221 [(5, .int s0), (0, .ref l0), (2, .int l2)] [.int u3.1, .int l2] u3.2 0 0 (none, r, 0, 0)
  rcases mx_if_el hf with ⟨c12, hf⟩ | ⟨c12, hf⟩
  · refine sb_ic_ne hm dX13_workBoth_221 (tgt := 241) rfl (fun _ => ?_) (fun z => absurd c12 z)
    refine mx_S.pu (pc2 := 242) (lv2 := [(5, .int s0), (0, .ref l0), (2, .int l2)]) (st2 := [.int l2]) hm dX13_workBoth_241 rfl ?_
    refine sx_ic (v := 0) hm dX13_workBoth_242 (by decide) ?_
    refine sx_bi (v := 33) hm dX13_workBoth_243 (by decide) ?_
    refine sx_bi (v := 61) hm dX13_workBoth_245 (by decide) ?_
    replace hf := mx_sv_el hf; obtain ⟨u4, e_u4, hf⟩ := hf
    refine sx_cs hm dX13_workBoth_247 rs_RX13_454 mt_X13_sign [.int 0, .int 33, .int 61] [.int l2] rfl rfl (Nat.le_of_ble_eq_true rfl) (Nat.le_of_ble_eq_true rfl) (by omega) (by omega) (f_X13_sign_ok X (by omega) (by omega) nn 0 33 61 u3.2 e_u4) ?_
    clear e_u4
    show mx_S X F L 478 250 [(5, .int s0), (0, .ref l0), (2, .int l2)] [.int u4.1, .int l2] u4.2 0 0 (none, r, 0, 0)
    rcases mx_if_el hf with ⟨c10, hf⟩ | ⟨c10, hf⟩
    · refine sb_ic_ne hm dX13_workBoth_250 (tgt := 270) rfl (fun _ => ?_) (fun z => absurd c10 z)
      refine mx_S.pu (pc2 := 271) (lv2 := [(5, .int s0), (0, .ref l0), (2, .int l2)]) (st2 := [.int l2]) hm dX13_workBoth_270 rfl ?_
      refine sx_bi (v := 60) hm dX13_workBoth_271 (by decide) ?_
      rcases mx_if_el hf with ⟨c8, hf⟩ | ⟨c8, hf⟩
      · refine sb_ic_ne hm dX13_workBoth_273 (tgt := 282) rfl (fun _ => ?_) (fun z => absurd c8 z)
        refine mx_S.pu (pc2 := 283) (lv2 := [(5, .int s0), (0, .ref l0), (2, .int l2)]) (st2 := [.int l2]) hm dX13_workBoth_282 rfl ?_
        refine sx_ic (v := 0) hm dX13_workBoth_283 (by decide) ?_
        refine sx_bi (v := 62) hm dX13_workBoth_284 (by decide) ?_
        refine sx_bi (v := 61) hm dX13_workBoth_286 (by decide) ?_
        replace hf := mx_sv_el hf; obtain ⟨u5, e_u5, hf⟩ := hf
        refine sx_cs hm dX13_workBoth_288 rs_RX13_454 mt_X13_sign [.int 0, .int 62, .int 61] [.int l2] rfl rfl (Nat.le_of_ble_eq_true rfl) (Nat.le_of_ble_eq_true rfl) (by omega) (by omega) (f_X13_sign_ok X (by omega) (by omega) nn 0 62 61 u4.2 e_u5) ?_
        clear e_u5
        show mx_S X F L 478 291 [(5, .int s0), (0, .ref l0), (2, .int l2)] [.int u5.1, .int l2] u5.2 0 0 (none, r, 0, 0)
        rcases mx_if_el hf with ⟨c7, hf⟩ | ⟨c7, hf⟩
        · refine sb_ic_ne hm dX13_workBoth_291 (tgt := 300) rfl (fun _ => ?_) (fun z => absurd c7 z)
          refine mx_S.pu (pc2 := 301) (lv2 := [(5, .int s0), (0, .ref l0), (2, .int l2)]) (st2 := [.int l2]) hm dX13_workBoth_300 rfl ?_
          refine sx_bi (v := 62) hm dX13_workBoth_301 (by decide) ?_
          rcases mx_if_el hf with ⟨c6, hf⟩ | ⟨c6, hf⟩
          · refine sb_ic_ne hm dX13_workBoth_303 (tgt := 312) rfl (fun _ => ?_) (fun z => absurd c6 z)
            refine sx_si (v := 164) hm dX13_workBoth_312 (by decide) ?_
            refine mx_S.ext [(0, .ref l0)] (mx_sub_pos [1] rfl (show ([5, 0, 2] : List Nat).Nodup by decide)) ?_
            exact j_X13_workBoth_315_ok X hF hL nn hrc l0 164 u5.2 hf
          · refine sb_ic_ne hm dX13_workBoth_303 (tgt := 312) rfl (fun z => absurd z c6) (fun _ => ?_)
            refine sx_si (v := 163) hm dX13_workBoth_306 (by decide) ?_
            refine mx_S.pu (pc2 := 315) (lv2 := [(5, .int s0), (0, .ref l0), (2, .int l2)]) (st2 := [.int 163]) hm dX13_workBoth_309 rfl ?_
            refine mx_S.ext [(0, .ref l0)] (mx_sub_pos [1] rfl (show ([5, 0, 2] : List Nat).Nodup by decide)) ?_
            exact j_X13_workBoth_315_ok X hF hL nn hrc l0 163 u5.2 hf
        · refine sb_ic_ne hm dX13_workBoth_291 (tgt := 300) rfl (fun z => absurd z c7) (fun _ => ?_)
          refine sx_si (v := 162) hm dX13_workBoth_294 (by decide) ?_
          refine mx_S.pu (pc2 := 315) (lv2 := [(5, .int s0), (0, .ref l0), (2, .int l2)]) (st2 := [.int 162]) hm dX13_workBoth_297 rfl ?_
          refine mx_S.ext [(0, .ref l0)] (mx_sub_pos [1] rfl (show ([5, 0, 2] : List Nat).Nodup by decide)) ?_
          exact j_X13_workBoth_315_ok X hF hL nn hrc l0 162 u5.2 hf
      · refine sb_ic_ne hm dX13_workBoth_273 (tgt := 282) rfl (fun z => absurd z c8) (fun _ => ?_)
        refine sx_si (v := 161) hm dX13_workBoth_276 (by decide) ?_
        refine mx_S.pu (pc2 := 315) (lv2 := [(5, .int s0), (0, .ref l0), (2, .int l2)]) (st2 := [.int 161]) hm dX13_workBoth_279 rfl ?_
        refine mx_S.ext [(0, .ref l0)] (mx_sub_pos [1] rfl (show ([5, 0, 2] : List Nat).Nodup by decide)) ?_
        exact j_X13_workBoth_315_ok X hF hL nn hrc l0 161 u4.2 hf
    · refine sb_ic_ne hm dX13_workBoth_250 (tgt := 270) rfl (fun z => absurd z c10) (fun _ => ?_)
      refine mx_S.pu (pc2 := 255) (lv2 := [(5, .int s0), (0, .ref l0), (2, .int l2)]) (st2 := [.int s0]) hm dX13_workBoth_253 rfl ?_
      rcases mx_if_el hf with ⟨c9, hf⟩ | ⟨c9, hf⟩
      · refine sb_if_eq hm dX13_workBoth_255 (tgt := 264) rfl (fun _ => ?_) (fun z => absurd c9 z)
        refine sx_si (v := 160) hm dX13_workBoth_264 (by decide) ?_
        refine mx_S.pu (pc2 := 315) (lv2 := [(5, .int s0), (0, .ref l0), (2, .int l2)]) (st2 := [.int 160]) hm dX13_workBoth_267 rfl ?_
        refine mx_S.ext [(0, .ref l0)] (mx_sub_pos [1] rfl (show ([5, 0, 2] : List Nat).Nodup by decide)) ?_
        exact j_X13_workBoth_315_ok X hF hL nn hrc l0 160 u4.2 hf
      · refine sb_if_eq hm dX13_workBoth_255 (tgt := 264) rfl (fun z => absurd z c9) (fun _ => ?_)
        refine sx_si (v := 166) hm dX13_workBoth_258 (by decide) ?_
        refine mx_S.pu (pc2 := 315) (lv2 := [(5, .int s0), (0, .ref l0), (2, .int l2)]) (st2 := [.int 166]) hm dX13_workBoth_261 rfl ?_
        refine mx_S.ext [(0, .ref l0)] (mx_sub_pos [1] rfl (show ([5, 0, 2] : List Nat).Nodup by decide)) ?_
        exact j_X13_workBoth_315_ok X hF hL nn hrc l0 166 u4.2 hf
  · refine sb_ic_ne hm dX13_workBoth_221 (tgt := 241) rfl (fun z => absurd z c12) (fun _ => ?_)
    refine mx_S.pu (pc2 := 226) (lv2 := [(5, .int s0), (0, .ref l0), (2, .int l2)]) (st2 := [.int s0]) hm dX13_workBoth_224 rfl ?_
    rcases mx_if_el hf with ⟨c11, hf⟩ | ⟨c11, hf⟩
    · refine sb_if_eq hm dX13_workBoth_226 (tgt := 235) rfl (fun _ => ?_) (fun z => absurd c11 z)
      refine sx_si (v := 159) hm dX13_workBoth_235 (by decide) ?_
      refine mx_S.pu (pc2 := 315) (lv2 := [(5, .int s0), (0, .ref l0), (2, .int l2)]) (st2 := [.int 159]) hm dX13_workBoth_238 rfl ?_
      refine mx_S.ext [(0, .ref l0)] (mx_sub_pos [1] rfl (show ([5, 0, 2] : List Nat).Nodup by decide)) ?_
      exact j_X13_workBoth_315_ok X hF hL nn hrc l0 159 u3.2 hf
    · refine sb_if_eq hm dX13_workBoth_226 (tgt := 235) rfl (fun z => absurd z c11) (fun _ => ?_)
      refine sx_si (v := 165) hm dX13_workBoth_229 (by decide) ?_
      refine mx_S.pu (pc2 := 315) (lv2 := [(5, .int s0), (0, .ref l0), (2, .int l2)]) (st2 := [.int 165]) hm dX13_workBoth_232 rfl ?_
      refine mx_S.ext [(0, .ref l0)] (mx_sub_pos [1] rfl (show ([5, 0, 2] : List Nat).Nodup by decide)) ?_
      exact j_X13_workBoth_315_ok X hF hL nn hrc l0 165 u3.2 hf
set_option maxHeartbeats 4000000 in
set_option maxRecDepth 20000 in
theorem j_X13_workBoth_190_ok (X : Nat × (Nat → Int32)) {F L d : Nat} (hF : 8 + (d + 1) ≤ F) (hL : 175 + (d + 1) * 26 ≤ L) (nn : Nat) {rc : tg_X13_work} (hrc : hg5_X13_work X d rc) (l0 : Nat) (l1 : Int32) (l2 : Int32) (h : mx_H) {r : mx_H} (hf : j_X13_workBoth_190 nn rc l0 l1 l2 h = some r) : mx_S X F L 478 190 [(0, .ref l0), (1, .int l1), (2, .int l2)] [] h 0 0 (none, r, 0, 0) := by
  have hm : mx_mt 478 = some (yX13_workBoth, cX13_workBoth, 7, none) := mt_X13_workBoth
  unfold j_X13_workBoth_190 at hf
  refine mx_S.pu (pc2 := 191) (lv2 := [(0, .ref l0), (1, .int l1), (2, .int l2)]) (st2 := [.ref l0]) hm dX13_workBoth_190 rfl ?_
  replace hf := mx_sv_el hf; obtain ⟨v13, e_v13, hf⟩ := hf
  refine sx_get hm dX13_workBoth_191 rs_RX13_49 (xgr_el e_v13) ?_
  clear e_v13
  refine mx_S.pu (pc2 := 195) (lv2 := [(0, .ref l0), (1, .int l1), (2, .int l2)]) (st2 := [.ref l0, .ref v13]) hm dX13_workBoth_194 rfl ?_
  replace hf := mx_sv_el hf; obtain ⟨v14, e_v14, hf⟩ := hf
  refine sx_get hm dX13_workBoth_195 rs_RX13_37 (xgr_el e_v14) ?_
  clear e_v14
  refine mx_S.pu (pc2 := 199) (lv2 := [(0, .ref l0), (1, .int l1), (2, .int l2)]) (st2 := [.int l1, .ref v14, .ref v13]) hm dX13_workBoth_198 rfl ?_
  replace hf := mx_sv_el hf; obtain ⟨v15, e_v15, hf⟩ := hf
  refine sx_ald hm dX13_workBoth_199 e_v15 ?_
  clear e_v15
  replace hf := mx_sv_el hf; obtain ⟨v16, e_v16, hf⟩ := hf
  refine sx_ald hm dX13_workBoth_200 e_v16 ?_
  clear e_v16
  refine sx_ic (v := 1) hm dX13_workBoth_201 (by decide) ?_
  rcases mx_if_el hf with ⟨c17, hf⟩ | ⟨c17, hf⟩
  · refine sb_ic_le hm dX13_workBoth_202 (tgt := 209) rfl (fun _ => ?_) (fun z => absurd c17 z)
    refine sx_ic (v := 0) hm dX13_workBoth_209 (by decide) ?_
    refine mx_S.ext [(0, .ref l0), (2, .int l2)] (mx_sub_pos [0, 2] rfl (show ([0, 1, 2] : List Nat).Nodup by decide)) ?_
    exact j_X13_workBoth_210_ok X hF hL nn hrc l0 l2 0 h hf
  · refine sb_ic_le hm dX13_workBoth_202 (tgt := 209) rfl (fun z => absurd z c17) (fun _ => ?_)
    refine sx_ic (v := 1) hm dX13_workBoth_205 (by decide) ?_
    refine mx_S.pu (pc2 := 210) (lv2 := [(0, .ref l0), (1, .int l1), (2, .int l2)]) (st2 := [.int 1]) hm dX13_workBoth_206 rfl ?_
    refine mx_S.ext [(0, .ref l0), (2, .int l2)] (mx_sub_pos [0, 2] rfl (show ([0, 1, 2] : List Nat).Nodup by decide)) ?_
    exact j_X13_workBoth_210_ok X hF hL nn hrc l0 l2 1 h hf
set_option maxHeartbeats 4000000 in
set_option maxRecDepth 20000 in
theorem j_X13_workBoth_136_ok (X : Nat × (Nat → Int32)) {F L d : Nat} (hF : 8 + (d + 1) ≤ F) (hL : 175 + (d + 1) * 26 ≤ L) (nn : Nat) {rc : tg_X13_work} (hrc : hg5_X13_work X d rc) (l0 : Nat) (l5 : Int32) (s0 : Int32) (s1 : Nat) (h : mx_H) {r : mx_H} (hf : j_X13_workBoth_136 nn rc l0 l5 s0 s1 h = some r) : mx_S X F L 478 136 [(0, .ref l0), (5, .int l5)] [.int s0, .ref s1] h 0 0 (none, r, 0, 0) := by
  have hm : mx_mt 478 = some (yX13_workBoth, cX13_workBoth, 7, none) := mt_X13_workBoth
  unfold j_X13_workBoth_136 at hf
  replace hf := mx_gd_el hf; obtain ⟨c18, hf⟩ := hf
  replace hf := mx_sv_el hf; obtain ⟨u19, e_u19, hf⟩ := hf
  refine sx_cv hm dX13_workBoth_136 rs_RX13_646 mt_X13_put [.int s0] [] (b := s1) (ci := 13) rfl rfl rfl c18 (Nat.le_of_ble_eq_true rfl) (Nat.le_of_ble_eq_true rfl) (by omega) (by omega) (f_X13_put_ok X (by omega) (by omega) nn s1 s0 h e_u19) ?_
  clear e_u19
  show mx_S X F L 478 139 [(0, .ref l0), (5, .int l5)] [] u19 0 0 (none, r, 0, 0)
  refine mx_S.pu (pc2 := 140) (lv2 := [(0, .ref l0), (5, .int l5)]) (st2 := [.ref l0]) hm dX13_workBoth_139 rfl ?_
  refine sx_ic (v := 1) hm dX13_workBoth_140 (by decide) ?_
  replace hf := mx_gd_el hf; obtain ⟨c20, hf⟩ := hf
  replace hf := mx_sv_el hf; obtain ⟨u21, e_u21, hf⟩ := hf
  refine sx_cv hm dX13_workBoth_141 rs_RX13_640 mt_X13_push [.int 1] [] (b := l0) (ci := 13) rfl rfl rfl c20 (Nat.le_of_ble_eq_true rfl) (Nat.le_of_ble_eq_true rfl) (by omega) (by omega) (f_X13_push_ok X (by omega) (by omega) nn l0 1 u19 e_u21) ?_
  clear e_u21
  show mx_S X F L 478 144 [(0, .ref l0), (5, .int l5)] [] u21 0 0 (none, r, 0, 0)
  refine mx_S.pu (pc2 := 145) (lv2 := [(0, .ref l0), (5, .int l5)]) (st2 := [.ref l0]) hm dX13_workBoth_144 rfl ?_
  refine mx_S.pu (pc2 := 147) (lv2 := [(0, .ref l0), (5, .int l5)]) (st2 := [.int l5, .ref l0]) hm dX13_workBoth_145 rfl ?_
  refine mx_S.pu (pc2 := 148) (lv2 := [(0, .ref l0), (5, .int l5)]) (st2 := [.ref l0, .int l5, .ref l0]) hm dX13_workBoth_147 rfl ?_
  replace hf := mx_sv_el hf; obtain ⟨v22, e_v22, hf⟩ := hf
  refine sx_get hm dX13_workBoth_148 rs_RX13_627 (xgi_el e_v22) ?_
  clear e_v22
  replace hf := mx_gd_el hf; obtain ⟨c23, hf⟩ := hf
  replace hf := mx_sv_el hf; obtain ⟨u24, e_u24, hf⟩ := hf
  refine sx_cv hm dX13_workBoth_151 rs_RX13_682 mt_X13_stands [.int l5, .int v22] [] (b := l0) (ci := 13) rfl rfl rfl c23 (Nat.le_of_ble_eq_true rfl) (Nat.le_of_ble_eq_true rfl) (by omega) (by omega) (f_X13_stands_ok X (by omega) (by omega) nn l0 l5 v22 u21 e_u24) ?_
  clear e_u24
  show mx_S X F L 478 154 [(0, .ref l0), (5, .int l5)] [] u24 0 0 (none, r, 0, 0)
  cases hf
  exact sx_ret hm dX13_workBoth_154 rfl
set_option maxHeartbeats 4000000 in
set_option maxRecDepth 20000 in
theorem j_X13_workBoth_82_ok (X : Nat × (Nat → Int32)) {F L d : Nat} (hF : 8 + (d + 1) ≤ F) (hL : 175 + (d + 1) * 26 ≤ L) (nn : Nat) {rc : tg_X13_work} (hrc : hg5_X13_work X d rc) (l0 : Nat) (l1 : Int32) (l3 : Int32) (l4 : Int32) (l5 : Int32) (s0 : Int32) (s1 : Nat) (h : mx_H) {r : mx_H} (hf : j_X13_workBoth_82 nn rc l0 l1 l3 l4 l5 s0 s1 h = some r) : mx_S X F L 478 82 [(0, .ref l0), (1, .int l1), (3, .int l3), (4, .int l4), (5, .int l5)] [.int s0, .ref s1] h 0 0 (none, r, 0, 0) := by
  have hm : mx_mt 478 = some (yX13_workBoth, cX13_workBoth, 7, none) := mt_X13_workBoth
  unfold j_X13_workBoth_82 at hf
  refine mx_S.pu (pc2 := 84) (lv2 := [(0, .ref l0), (1, .int l1), (3, .int l3), (4, .int l4), (5, .int l5)]) (st2 := [.int l4, .int s0, .ref s1]) hm dX13_workBoth_82 rfl ?_
  replace hf := mx_gd_el hf; obtain ⟨c25, hf⟩ := hf
  replace hf := mx_sv_el hf; obtain ⟨u26, e_u26, hf⟩ := hf
  refine sx_cv hm dX13_workBoth_84 rs_RX13_679 mt_X13_jump [.int s0, .int l4] [] (b := s1) (ci := 13) rfl rfl rfl c25 (Nat.le_of_ble_eq_true rfl) (Nat.le_of_ble_eq_true rfl) (by omega) (by omega) (f_X13_jump_ok X (by omega) (by omega) nn s1 s0 l4 h e_u26) ?_
  clear e_u26
  show mx_S X F L 478 87 [(0, .ref l0), (1, .int l1), (3, .int l3), (4, .int l4), (5, .int l5)] [] u26 0 0 (none, r, 0, 0)
  refine mx_S.pu (pc2 := 88) (lv2 := [(0, .ref l0), (1, .int l1), (3, .int l3), (4, .int l4), (5, .int l5)]) (st2 := [.ref l0]) hm dX13_workBoth_87 rfl ?_
  refine mx_S.pu (pc2 := 89) (lv2 := [(0, .ref l0), (1, .int l1), (3, .int l3), (4, .int l4), (5, .int l5)]) (st2 := [.ref l0, .ref l0]) hm dX13_workBoth_88 rfl ?_
  replace hf := mx_sv_el hf; obtain ⟨v27, e_v27, hf⟩ := hf
  refine sx_get hm dX13_workBoth_89 rs_RX13_40 (xgr_el e_v27) ?_
  clear e_v27
  refine mx_S.pu (pc2 := 93) (lv2 := [(0, .ref l0), (1, .int l1), (3, .int l3), (4, .int l4), (5, .int l5)]) (st2 := [.int l1, .ref v27, .ref l0]) hm dX13_workBoth_92 rfl ?_
  replace hf := mx_sv_el hf; obtain ⟨v28, e_v28, hf⟩ := hf
  refine sx_ald hm dX13_workBoth_93 e_v28 ?_
  clear e_v28
  replace hf := mx_gd_el hf; obtain ⟨c29, hf⟩ := hf
  replace hf := mx_sv_el hf; obtain ⟨u30, e_u30, hf⟩ := hf
  refine sx_cv hm dX13_workBoth_94 rs_RX13_667 mt_X13_work [.int v28] [] (b := l0) (ci := 13) rfl rfl rfl c29 (Nat.le_of_ble_eq_true rfl) (Nat.le_of_ble_eq_true rfl) (by omega) (by omega) (hrc.1 (by omega) (by omega) l0 v28 u26 e_u30) ?_
  clear e_u30
  show mx_S X F L 478 97 [(0, .ref l0), (1, .int l1), (3, .int l3), (4, .int l4), (5, .int l5)] [] u30 0 0 (none, r, 0, 0)
  refine mx_S.pu (pc2 := 98) (lv2 := [(0, .ref l0), (1, .int l1), (3, .int l3), (4, .int l4), (5, .int l5)]) (st2 := [.ref l0]) hm dX13_workBoth_97 rfl ?_
  refine mx_S.pu (pc2 := 99) (lv2 := [(0, .ref l0), (1, .int l1), (3, .int l3), (4, .int l4), (5, .int l5)]) (st2 := [.ref l0, .ref l0]) hm dX13_workBoth_98 rfl ?_
  replace hf := mx_sv_el hf; obtain ⟨v31, e_v31, hf⟩ := hf
  refine sx_get hm dX13_workBoth_99 rs_RX13_629 (xgi_el e_v31) ?_
  clear e_v31
  refine sx_ic (v := 1) hm dX13_workBoth_102 (by decide) ?_
  replace hf := xl_el hf; obtain ⟨v32, e_v32, hf⟩ := hf
  refine mx_S.pu (pc2 := 104) (lv2 := [(0, .ref l0), (1, .int l1), (3, .int l3), (4, .int l4), (5, .int l5)]) (st2 := [.int v32, .ref l0]) hm dX13_workBoth_103 (by rw [← e_v32]; rfl) ?_
  clear e_v32
  replace hf := mx_sv_el hf; obtain ⟨h33, e_h33, hf⟩ := hf
  refine sx_put hm dX13_workBoth_104 rs_RX13_629 ft_13_70 ⟨rfl, rfl⟩ (fun z => by cases z) e_h33 ?_
  clear e_h33
  refine mx_S.pu (pc2 := 108) (lv2 := [(0, .ref l0), (1, .int l1), (3, .int l3), (4, .int l4), (5, .int l5)]) (st2 := [.ref l0]) hm dX13_workBoth_107 rfl ?_
  refine sx_si (v := 167) hm dX13_workBoth_108 (by decide) ?_
  refine mx_S.pu (pc2 := 113) (lv2 := [(0, .ref l0), (1, .int l1), (3, .int l3), (4, .int l4), (5, .int l5)]) (st2 := [.int l5, .int 167, .ref l0]) hm dX13_workBoth_111 rfl ?_
  replace hf := mx_gd_el hf; obtain ⟨c34, hf⟩ := hf
  replace hf := mx_sv_el hf; obtain ⟨u35, e_u35, hf⟩ := hf
  refine sx_cv hm dX13_workBoth_113 rs_RX13_679 mt_X13_jump [.int 167, .int l5] [] (b := l0) (ci := 13) rfl rfl rfl c34 (Nat.le_of_ble_eq_true rfl) (Nat.le_of_ble_eq_true rfl) (by omega) (by omega) (f_X13_jump_ok X (by omega) (by omega) nn l0 167 l5 h33 e_u35) ?_
  clear e_u35
  show mx_S X F L 478 116 [(0, .ref l0), (1, .int l1), (3, .int l3), (4, .int l4), (5, .int l5)] [] u35 0 0 (none, r, 0, 0)
  refine mx_S.pu (pc2 := 117) (lv2 := [(0, .ref l0), (1, .int l1), (3, .int l3), (4, .int l4), (5, .int l5)]) (st2 := [.ref l0]) hm dX13_workBoth_116 rfl ?_
  refine mx_S.pu (pc2 := 119) (lv2 := [(0, .ref l0), (1, .int l1), (3, .int l3), (4, .int l4), (5, .int l5)]) (st2 := [.int l4, .ref l0]) hm dX13_workBoth_117 rfl ?_
  refine mx_S.pu (pc2 := 120) (lv2 := [(0, .ref l0), (1, .int l1), (3, .int l3), (4, .int l4), (5, .int l5)]) (st2 := [.ref l0, .int l4, .ref l0]) hm dX13_workBoth_119 rfl ?_
  replace hf := mx_sv_el hf; obtain ⟨v36, e_v36, hf⟩ := hf
  refine sx_get hm dX13_workBoth_120 rs_RX13_627 (xgi_el e_v36) ?_
  clear e_v36
  replace hf := mx_gd_el hf; obtain ⟨c37, hf⟩ := hf
  replace hf := mx_sv_el hf; obtain ⟨u38, e_u38, hf⟩ := hf
  refine sx_cv hm dX13_workBoth_123 rs_RX13_682 mt_X13_stands [.int l4, .int v36] [] (b := l0) (ci := 13) rfl rfl rfl c37 (Nat.le_of_ble_eq_true rfl) (Nat.le_of_ble_eq_true rfl) (by omega) (by omega) (f_X13_stands_ok X (by omega) (by omega) nn l0 l4 v36 u35 e_u38) ?_
  clear e_u38
  show mx_S X F L 478 126 [(0, .ref l0), (1, .int l1), (3, .int l3), (4, .int l4), (5, .int l5)] [] u38 0 0 (none, r, 0, 0)
  refine mx_S.pu (pc2 := 127) (lv2 := [(0, .ref l0), (1, .int l1), (3, .int l3), (4, .int l4), (5, .int l5)]) (st2 := [.ref l0]) hm dX13_workBoth_126 rfl ?_
  refine mx_S.pu (pc2 := 128) (lv2 := [(0, .ref l0), (1, .int l1), (3, .int l3), (4, .int l4), (5, .int l5)]) (st2 := [.int l3, .ref l0]) hm dX13_workBoth_127 rfl ?_
  rcases mx_if_el hf with ⟨c39, hf⟩ | ⟨c39, hf⟩
  · refine sb_if_eq hm dX13_workBoth_128 (tgt := 135) rfl (fun _ => ?_) (fun z => absurd c39 z)
    refine sx_ic (v := 4) hm dX13_workBoth_135 (by decide) ?_
    refine mx_S.ext [(0, .ref l0), (5, .int l5)] (mx_sub_pos [0, 4] rfl (show ([0, 1, 3, 4, 5] : List Nat).Nodup by decide)) ?_
    exact j_X13_workBoth_136_ok X hF hL nn hrc l0 l5 4 l0 u38 hf
  · refine sb_if_eq hm dX13_workBoth_128 (tgt := 135) rfl (fun z => absurd z c39) (fun _ => ?_)
    refine sx_ic (v := 3) hm dX13_workBoth_131 (by decide) ?_
    refine mx_S.pu (pc2 := 136) (lv2 := [(0, .ref l0), (1, .int l1), (3, .int l3), (4, .int l4), (5, .int l5)]) (st2 := [.int 3, .ref l0]) hm dX13_workBoth_132 rfl ?_
    refine mx_S.ext [(0, .ref l0), (5, .int l5)] (mx_sub_pos [0, 4] rfl (show ([0, 1, 3, 4, 5] : List Nat).Nodup by decide)) ?_
    exact j_X13_workBoth_136_ok X hF hL nn hrc l0 l5 3 l0 u38 hf
set_option maxHeartbeats 4000000 in
set_option maxRecDepth 20000 in
theorem j_X13_workBoth_46_ok (X : Nat × (Nat → Int32)) {F L d : Nat} (hF : 8 + (d + 1) ≤ F) (hL : 175 + (d + 1) * 26 ≤ L) (nn : Nat) {rc : tg_X13_work} (hrc : hg5_X13_work X d rc) (l0 : Nat) (l1 : Int32) (l3 : Int32) (h : mx_H) {r : mx_H} (hf : j_X13_workBoth_46 nn rc l0 l1 l3 h = some r) : mx_S X F L 478 46 [(0, .ref l0), (1, .int l1), (3, .int l3)] [] h 0 0 (none, r, 0, 0) := by
  have hm : mx_mt 478 = some (yX13_workBoth, cX13_workBoth, 7, none) := mt_X13_workBoth
  unfold j_X13_workBoth_46 at hf
  refine mx_S.pu (pc2 := 47) (lv2 := [(0, .ref l0), (1, .int l1), (3, .int l3)]) (st2 := [.ref l0]) hm dX13_workBoth_46 rfl ?_
  replace hf := mx_gd_el hf; obtain ⟨c40, hf⟩ := hf
  replace hf := mx_sv_el hf; obtain ⟨u41, e_u41, hf⟩ := hf
  refine sx_cv hm dX13_workBoth_47 rs_RX13_676 mt_X13_label [] [] (b := l0) (ci := 13) rfl rfl rfl c40 (Nat.le_of_ble_eq_true rfl) (Nat.le_of_ble_eq_true rfl) (by omega) (by omega) (f_X13_label_ok X (by omega) (by omega) nn l0 h e_u41) ?_
  clear e_u41
  show mx_S X F L 478 50 [(0, .ref l0), (1, .int l1), (3, .int l3)] [.int u41.1] u41.2 0 0 (none, r, 0, 0)
  refine mx_S.pu (pc2 := 52) (lv2 := [(4, .int u41.1), (0, .ref l0), (1, .int l1), (3, .int l3)]) (st2 := []) hm dX13_workBoth_50 rfl ?_
  refine mx_S.pu (pc2 := 53) (lv2 := [(4, .int u41.1), (0, .ref l0), (1, .int l1), (3, .int l3)]) (st2 := [.ref l0]) hm dX13_workBoth_52 rfl ?_
  replace hf := mx_gd_el hf; obtain ⟨c42, hf⟩ := hf
  replace hf := mx_sv_el hf; obtain ⟨u43, e_u43, hf⟩ := hf
  refine sx_cv hm dX13_workBoth_53 rs_RX13_676 mt_X13_label [] [] (b := l0) (ci := 13) rfl rfl rfl c42 (Nat.le_of_ble_eq_true rfl) (Nat.le_of_ble_eq_true rfl) (by omega) (by omega) (f_X13_label_ok X (by omega) (by omega) nn l0 u41.2 e_u43) ?_
  clear e_u43
  show mx_S X F L 478 56 [(4, .int u41.1), (0, .ref l0), (1, .int l1), (3, .int l3)] [.int u43.1] u43.2 0 0 (none, r, 0, 0)
  refine mx_S.pu (pc2 := 58) (lv2 := [(5, .int u43.1), (4, .int u41.1), (0, .ref l0), (1, .int l1), (3, .int l3)]) (st2 := []) hm dX13_workBoth_56 rfl ?_
  refine mx_S.pu (pc2 := 59) (lv2 := [(5, .int u43.1), (4, .int u41.1), (0, .ref l0), (1, .int l1), (3, .int l3)]) (st2 := [.ref l0]) hm dX13_workBoth_58 rfl ?_
  refine mx_S.pu (pc2 := 60) (lv2 := [(5, .int u43.1), (4, .int u41.1), (0, .ref l0), (1, .int l1), (3, .int l3)]) (st2 := [.ref l0, .ref l0]) hm dX13_workBoth_59 rfl ?_
  replace hf := mx_sv_el hf; obtain ⟨v44, e_v44, hf⟩ := hf
  refine sx_get hm dX13_workBoth_60 rs_RX13_629 (xgi_el e_v44) ?_
  clear e_v44
  refine sx_ic (v := 1) hm dX13_workBoth_63 (by decide) ?_
  replace hf := xl_el hf; obtain ⟨v45, e_v45, hf⟩ := hf
  refine mx_S.pu (pc2 := 65) (lv2 := [(5, .int u43.1), (4, .int u41.1), (0, .ref l0), (1, .int l1), (3, .int l3)]) (st2 := [.int v45, .ref l0]) hm dX13_workBoth_64 (by rw [← e_v45]; rfl) ?_
  clear e_v45
  replace hf := mx_sv_el hf; obtain ⟨h46, e_h46, hf⟩ := hf
  refine sx_put hm dX13_workBoth_65 rs_RX13_629 ft_13_70 ⟨rfl, rfl⟩ (fun z => by cases z) e_h46 ?_
  clear e_h46
  refine mx_S.pu (pc2 := 69) (lv2 := [(5, .int u43.1), (4, .int u41.1), (0, .ref l0), (1, .int l1), (3, .int l3)]) (st2 := [.ref l0]) hm dX13_workBoth_68 rfl ?_
  refine mx_S.pu (pc2 := 70) (lv2 := [(5, .int u43.1), (4, .int u41.1), (0, .ref l0), (1, .int l1), (3, .int l3)]) (st2 := [.int l3, .ref l0]) hm dX13_workBoth_69 rfl ?_
  rcases mx_if_el hf with ⟨c47, hf⟩ | ⟨c47, hf⟩
  · refine sb_if_eq hm dX13_workBoth_70 (tgt := 79) rfl (fun _ => ?_) (fun z => absurd c47 z)
    refine sx_si (v := 154) hm dX13_workBoth_79 (by decide) ?_
    refine mx_S.ext [(0, .ref l0), (1, .int l1), (3, .int l3), (4, .int u41.1), (5, .int u43.1)] (mx_sub_pos [2, 3, 4, 1, 0] rfl (show ([5, 4, 0, 1, 3] : List Nat).Nodup by decide)) ?_
    exact j_X13_workBoth_82_ok X hF hL nn hrc l0 l1 l3 u41.1 u43.1 154 l0 h46 hf
  · refine sb_if_eq hm dX13_workBoth_70 (tgt := 79) rfl (fun z => absurd z c47) (fun _ => ?_)
    refine sx_si (v := 153) hm dX13_workBoth_73 (by decide) ?_
    refine mx_S.pu (pc2 := 82) (lv2 := [(5, .int u43.1), (4, .int u41.1), (0, .ref l0), (1, .int l1), (3, .int l3)]) (st2 := [.int 153, .ref l0]) hm dX13_workBoth_76 rfl ?_
    refine mx_S.ext [(0, .ref l0), (1, .int l1), (3, .int l3), (4, .int u41.1), (5, .int u43.1)] (mx_sub_pos [2, 3, 4, 1, 0] rfl (show ([5, 4, 0, 1, 3] : List Nat).Nodup by decide)) ?_
    exact j_X13_workBoth_82_ok X hF hL nn hrc l0 l1 l3 u41.1 u43.1 153 l0 h46 hf
set_option maxHeartbeats 4000000 in
set_option maxRecDepth 20000 in
theorem j_X13_workBoth_29_ok (X : Nat × (Nat → Int32)) {F L d : Nat} (hF : 8 + (d + 1) ≤ F) (hL : 175 + (d + 1) * 26 ≤ L) (nn : Nat) {rc : tg_X13_work} (hrc : hg5_X13_work X d rc) (l0 : Nat) (l1 : Int32) (l2 : Int32) (s0 : Int32) (h : mx_H) {r : mx_H} (hf : j_X13_workBoth_29 nn rc l0 l1 l2 s0 h = some r) : mx_S X F L 478 29 [(0, .ref l0), (1, .int l1), (2, .int l2)] [.int s0] h 0 0 (none, r, 0, 0) := by
  have hm : mx_mt 478 = some (yX13_workBoth, cX13_workBoth, 7, none) := mt_X13_workBoth
  unfold j_X13_workBoth_29 at hf
  refine mx_S.pu (pc2 := 30) (lv2 := [(3, .int s0), (0, .ref l0), (1, .int l1), (2, .int l2)]) (st2 := []) hm dX13_workBoth_29 rfl ?_
  refine mx_S.pu (pc2 := 31) (lv2 := [(3, .int s0), (0, .ref l0), (1, .int l1), (2, .int l2)]) (st2 := [.int s0]) hm dX13_workBoth_30 rfl ?_
  rcases mx_if_el hf with ⟨c67, hf⟩ | ⟨c67, hf⟩
  · refine sb_if_ne hm dX13_workBoth_31 (tgt := 46) rfl (fun _ => ?_) (fun z => absurd c67 z)
    refine mx_S.ext [(0, .ref l0), (1, .int l1), (3, .int s0)] (mx_sub_pos [1, 2, 0] rfl (show ([3, 0, 1, 2] : List Nat).Nodup by decide)) ?_
    exact j_X13_workBoth_46_ok X hF hL nn hrc l0 l1 s0 h hf
  · refine sb_if_ne hm dX13_workBoth_31 (tgt := 46) rfl (fun z => absurd z c67) (fun _ => ?_)
    refine mx_S.pu (pc2 := 35) (lv2 := [(3, .int s0), (0, .ref l0), (1, .int l1), (2, .int l2)]) (st2 := [.int l2]) hm dX13_workBoth_34 rfl ?_
    refine sx_ic (v := 0) hm dX13_workBoth_35 (by decide) ?_
    refine sx_bi (v := 124) hm dX13_workBoth_36 (by decide) ?_
    refine sx_bi (v := 124) hm dX13_workBoth_38 (by decide) ?_
    replace hf := mx_sv_el hf; obtain ⟨u48, e_u48, hf⟩ := hf
    refine sx_cs hm dX13_workBoth_40 rs_RX13_454 mt_X13_sign [.int 0, .int 124, .int 124] [.int l2] rfl rfl (Nat.le_of_ble_eq_true rfl) (Nat.le_of_ble_eq_true rfl) (by omega) (by omega) (f_X13_sign_ok X (by omega) (by omega) nn 0 124 124 h e_u48) ?_
    clear e_u48
    show mx_S X F L 478 43 [(3, .int s0), (0, .ref l0), (1, .int l1), (2, .int l2)] [.int u48.1, .int l2] u48.2 0 0 (none, r, 0, 0)
    rcases mx_if_el hf with ⟨c66, hf⟩ | ⟨c66, hf⟩
    · refine sb_ic_ne hm dX13_workBoth_43 (tgt := 155) rfl (fun _ => ?_) (fun z => absurd c66 z)
      refine mx_S.pu (pc2 := 156) (lv2 := [(3, .int s0), (0, .ref l0), (1, .int l1), (2, .int l2)]) (st2 := [.ref l0]) hm dX13_workBoth_155 rfl ?_
      refine mx_S.pu (pc2 := 157) (lv2 := [(3, .int s0), (0, .ref l0), (1, .int l1), (2, .int l2)]) (st2 := [.ref l0, .ref l0]) hm dX13_workBoth_156 rfl ?_
      replace hf := mx_sv_el hf; obtain ⟨v49, e_v49, hf⟩ := hf
      refine sx_get hm dX13_workBoth_157 rs_RX13_40 (xgr_el e_v49) ?_
      clear e_v49
      refine mx_S.pu (pc2 := 161) (lv2 := [(3, .int s0), (0, .ref l0), (1, .int l1), (2, .int l2)]) (st2 := [.int l1, .ref v49, .ref l0]) hm dX13_workBoth_160 rfl ?_
      replace hf := mx_sv_el hf; obtain ⟨v50, e_v50, hf⟩ := hf
      refine sx_ald hm dX13_workBoth_161 e_v50 ?_
      clear e_v50
      replace hf := mx_gd_el hf; obtain ⟨c51, hf⟩ := hf
      replace hf := mx_sv_el hf; obtain ⟨u52, e_u52, hf⟩ := hf
      refine sx_cv hm dX13_workBoth_162 rs_RX13_667 mt_X13_work [.int v50] [] (b := l0) (ci := 13) rfl rfl rfl c51 (Nat.le_of_ble_eq_true rfl) (Nat.le_of_ble_eq_true rfl) (by omega) (by omega) (hrc.1 (by omega) (by omega) l0 v50 u48.2 e_u52) ?_
      clear e_u52
      show mx_S X F L 478 165 [(3, .int s0), (0, .ref l0), (1, .int l1), (2, .int l2)] [] u52 0 0 (none, r, 0, 0)
      refine mx_S.pu (pc2 := 166) (lv2 := [(3, .int s0), (0, .ref l0), (1, .int l1), (2, .int l2)]) (st2 := [.ref l0]) hm dX13_workBoth_165 rfl ?_
      refine mx_S.pu (pc2 := 167) (lv2 := [(3, .int s0), (0, .ref l0), (1, .int l1), (2, .int l2)]) (st2 := [.ref l0, .ref l0]) hm dX13_workBoth_166 rfl ?_
      replace hf := mx_sv_el hf; obtain ⟨v53, e_v53, hf⟩ := hf
      refine sx_get hm dX13_workBoth_167 rs_RX13_31 (xgr_el e_v53) ?_
      clear e_v53
      refine mx_S.pu (pc2 := 171) (lv2 := [(3, .int s0), (0, .ref l0), (1, .int l1), (2, .int l2)]) (st2 := [.int l1, .ref v53, .ref l0]) hm dX13_workBoth_170 rfl ?_
      replace hf := mx_sv_el hf; obtain ⟨v54, e_v54, hf⟩ := hf
      refine sx_ald hm dX13_workBoth_171 e_v54 ?_
      clear e_v54
      replace hf := mx_gd_el hf; obtain ⟨c55, hf⟩ := hf
      replace hf := mx_sv_el hf; obtain ⟨u56, e_u56, hf⟩ := hf
      refine sx_cv hm dX13_workBoth_172 rs_RX13_459 mt_X13_strength [.int v54] [] (b := l0) (ci := 13) rfl rfl rfl c55 (Nat.le_of_ble_eq_true rfl) (Nat.le_of_ble_eq_true rfl) (by omega) (by omega) (f_X13_strength_ok X (by omega) (by omega) nn l0 v54 u52 e_u56) ?_
      clear e_u56
      show mx_S X F L 478 175 [(3, .int s0), (0, .ref l0), (1, .int l1), (2, .int l2)] [.int u56.1] u56.2 0 0 (none, r, 0, 0)
      refine mx_S.pu (pc2 := 177) (lv2 := [(4, .int u56.1), (3, .int s0), (0, .ref l0), (1, .int l1), (2, .int l2)]) (st2 := []) hm dX13_workBoth_175 rfl ?_
      refine mx_S.pu (pc2 := 179) (lv2 := [(4, .int u56.1), (3, .int s0), (0, .ref l0), (1, .int l1), (2, .int l2)]) (st2 := [.int u56.1]) hm dX13_workBoth_177 rfl ?_
      refine sx_ic (v := 5) hm dX13_workBoth_179 (by decide) ?_
      rcases mx_if_el hf with ⟨c65, hf⟩ | ⟨c65, hf⟩
      · refine sb_ic_eq hm dX13_workBoth_180 (tgt := 190) rfl (fun _ => ?_) (fun z => absurd c65 z)
        refine mx_S.ext [(0, .ref l0), (1, .int l1), (2, .int l2)] (mx_sub_pos [2, 3, 4] rfl (show ([4, 3, 0, 1, 2] : List Nat).Nodup by decide)) ?_
        exact j_X13_workBoth_190_ok X hF hL nn hrc l0 l1 l2 u56.2 hf
      · refine sb_ic_eq hm dX13_workBoth_180 (tgt := 190) rfl (fun z => absurd z c65) (fun _ => ?_)
        refine mx_S.pu (pc2 := 185) (lv2 := [(4, .int u56.1), (3, .int s0), (0, .ref l0), (1, .int l1), (2, .int l2)]) (st2 := [.int u56.1]) hm dX13_workBoth_183 rfl ?_
        refine sx_bi (v := 6) hm dX13_workBoth_185 (by decide) ?_
        rcases mx_if_el hf with ⟨c64, hf⟩ | ⟨c64, hf⟩
        · refine sb_ic_ne hm dX13_workBoth_187 (tgt := 325) rfl (fun _ => ?_) (fun z => absurd c64 z)
          refine mx_S.pu (pc2 := 326) (lv2 := [(4, .int u56.1), (3, .int s0), (0, .ref l0), (1, .int l1), (2, .int l2)]) (st2 := [.ref l0]) hm dX13_workBoth_325 rfl ?_
          refine mx_S.pu (pc2 := 327) (lv2 := [(4, .int u56.1), (3, .int s0), (0, .ref l0), (1, .int l1), (2, .int l2)]) (st2 := [.int l2, .ref l0]) hm dX13_workBoth_326 rfl ?_
          replace hf := mx_sv_el hf; obtain ⟨u57, e_u57, hf⟩ := hf
          refine sx_cs hm dX13_workBoth_327 rs_RX13_725 mt_X13_operation [.int l2] [.ref l0] rfl rfl (Nat.le_of_ble_eq_true rfl) (Nat.le_of_ble_eq_true rfl) (by omega) (by omega) (f_X13_operation_ok X (by omega) (by omega) nn l2 u56.2 e_u57) ?_
          clear e_u57
          show mx_S X F L 478 330 [(4, .int u56.1), (3, .int s0), (0, .ref l0), (1, .int l1), (2, .int l2)] [.int u57.1, .ref l0] u57.2 0 0 (none, r, 0, 0)
          replace hf := mx_gd_el hf; obtain ⟨c58, hf⟩ := hf
          replace hf := mx_sv_el hf; obtain ⟨u59, e_u59, hf⟩ := hf
          refine sx_cv hm dX13_workBoth_330 rs_RX13_646 mt_X13_put [.int u57.1] [] (b := l0) (ci := 13) rfl rfl rfl c58 (Nat.le_of_ble_eq_true rfl) (Nat.le_of_ble_eq_true rfl) (by omega) (by omega) (f_X13_put_ok X (by omega) (by omega) nn l0 u57.1 u57.2 e_u59) ?_
          clear e_u59
          show mx_S X F L 478 333 [(4, .int u56.1), (3, .int s0), (0, .ref l0), (1, .int l1), (2, .int l2)] [] u59 0 0 (none, r, 0, 0)
          refine mx_S.pu (pc2 := 334) (lv2 := [(4, .int u56.1), (3, .int s0), (0, .ref l0), (1, .int l1), (2, .int l2)]) (st2 := [.ref l0]) hm dX13_workBoth_333 rfl ?_
          refine sx_ic (v := 2) hm dX13_workBoth_334 (by decide) ?_
          refine mx_S.pu (pc2 := 336) (lv2 := [(4, .int u56.1), (3, .int s0), (0, .ref l0), (1, .int l1), (2, .int l2)]) (st2 := [.ref l0, .int 2, .ref l0]) hm dX13_workBoth_335 rfl ?_
          replace hf := mx_sv_el hf; obtain ⟨v60, e_v60, hf⟩ := hf
          refine sx_get hm dX13_workBoth_336 rs_RX13_49 (xgr_el e_v60) ?_
          clear e_v60
          refine mx_S.pu (pc2 := 340) (lv2 := [(4, .int u56.1), (3, .int s0), (0, .ref l0), (1, .int l1), (2, .int l2)]) (st2 := [.int l1, .ref v60, .int 2, .ref l0]) hm dX13_workBoth_339 rfl ?_
          replace hf := mx_sv_el hf; obtain ⟨v61, e_v61, hf⟩ := hf
          refine sx_ald hm dX13_workBoth_340 e_v61 ?_
          clear e_v61
          replace hf := mx_gd_el hf; obtain ⟨c62, hf⟩ := hf
          replace hf := mx_sv_el hf; obtain ⟨u63, e_u63, hf⟩ := hf
          refine sx_cv hm dX13_workBoth_341 rs_RX13_712 mt_X13_turn [.int 2, .int v61] [] (b := l0) (ci := 13) rfl rfl rfl c62 (Nat.le_of_ble_eq_true rfl) (Nat.le_of_ble_eq_true rfl) (by omega) (by omega) (f_X13_turn_ok X (by omega) (by omega) nn l0 2 v61 u59 e_u63) ?_
          clear e_u63
          show mx_S X F L 478 344 [(4, .int u56.1), (3, .int s0), (0, .ref l0), (1, .int l1), (2, .int l2)] [] u63 0 0 (none, r, 0, 0)
          cases hf
          exact sx_ret hm dX13_workBoth_344 rfl
        · refine sb_ic_ne hm dX13_workBoth_187 (tgt := 325) rfl (fun z => absurd z c64) (fun _ => ?_)
          refine mx_S.ext [(0, .ref l0), (1, .int l1), (2, .int l2)] (mx_sub_pos [2, 3, 4] rfl (show ([4, 3, 0, 1, 2] : List Nat).Nodup by decide)) ?_
          exact j_X13_workBoth_190_ok X hF hL nn hrc l0 l1 l2 u56.2 hf
    · refine sb_ic_ne hm dX13_workBoth_43 (tgt := 155) rfl (fun z => absurd z c66) (fun _ => ?_)
      refine mx_S.ext [(0, .ref l0), (1, .int l1), (3, .int s0)] (mx_sub_pos [1, 2, 0] rfl (show ([3, 0, 1, 2] : List Nat).Nodup by decide)) ?_
      exact j_X13_workBoth_46_ok X hF hL nn hrc l0 l1 s0 u48.2 hf
set_option maxHeartbeats 4000000 in
set_option maxRecDepth 20000 in
theorem o_X13_workBoth_ok (X : Nat × (Nat → Int32)) {F L d : Nat} (hF : 8 + (d + 1) ≤ F) (hL : 175 + (d + 1) * 26 ≤ L) (nn : Nat) {rc : tg_X13_work} (hrc : hg5_X13_work X d rc) (a0 : Nat) (a1 : Int32) (h : mx_H) {r : mx_H} (hf : o_X13_workBoth nn rc a0 a1 h = some r) : mx_R X F L 478 [.ref a0, .int a1] h (none, r, 0, 0) := by
  have hm : mx_mt 478 = some (yX13_workBoth, cX13_workBoth, 7, none) := mt_X13_workBoth
  show mx_S X F L 478 0 [(0, .ref a0), (1, .int a1)] [] h 0 0 (none, r, 0, 0)
  unfold o_X13_workBoth at hf
  refine mx_S.pu (pc2 := 1) (lv2 := [(0, .ref a0), (1, .int a1)]) (st2 := [.ref a0]) hm dX13_workBoth_0 rfl ?_
  replace hf := mx_sv_el hf; obtain ⟨v68, e_v68, hf⟩ := hf
  refine sx_get hm dX13_workBoth_1 rs_RX13_25 (xgr_el e_v68) ?_
  clear e_v68
  refine mx_S.pu (pc2 := 5) (lv2 := [(0, .ref a0), (1, .int a1)]) (st2 := [.ref a0, .ref v68]) hm dX13_workBoth_4 rfl ?_
  replace hf := mx_sv_el hf; obtain ⟨v69, e_v69, hf⟩ := hf
  refine sx_get hm dX13_workBoth_5 rs_RX13_31 (xgr_el e_v69) ?_
  clear e_v69
  refine mx_S.pu (pc2 := 9) (lv2 := [(0, .ref a0), (1, .int a1)]) (st2 := [.int a1, .ref v69, .ref v68]) hm dX13_workBoth_8 rfl ?_
  replace hf := mx_sv_el hf; obtain ⟨v70, e_v70, hf⟩ := hf
  refine sx_ald hm dX13_workBoth_9 e_v70 ?_
  clear e_v70
  replace hf := mx_sv_el hf; obtain ⟨v71, e_v71, hf⟩ := hf
  refine sx_ald hm dX13_workBoth_10 e_v71 ?_
  clear e_v71
  refine mx_S.pu (pc2 := 12) (lv2 := [(2, .int v71), (0, .ref a0), (1, .int a1)]) (st2 := []) hm dX13_workBoth_11 rfl ?_
  refine mx_S.pu (pc2 := 13) (lv2 := [(2, .int v71), (0, .ref a0), (1, .int a1)]) (st2 := [.int v71]) hm dX13_workBoth_12 rfl ?_
  refine sx_ic (v := 0) hm dX13_workBoth_13 (by decide) ?_
  refine sx_bi (v := 38) hm dX13_workBoth_14 (by decide) ?_
  refine sx_bi (v := 38) hm dX13_workBoth_16 (by decide) ?_
  replace hf := mx_sv_el hf; obtain ⟨u72, e_u72, hf⟩ := hf
  refine sx_cs hm dX13_workBoth_18 rs_RX13_454 mt_X13_sign [.int 0, .int 38, .int 38] [.int v71] rfl rfl (Nat.le_of_ble_eq_true rfl) (Nat.le_of_ble_eq_true rfl) (by omega) (by omega) (f_X13_sign_ok X (by omega) (by omega) nn 0 38 38 h e_u72) ?_
  clear e_u72
  show mx_S X F L 478 21 [(2, .int v71), (0, .ref a0), (1, .int a1)] [.int u72.1, .int v71] u72.2 0 0 (none, r, 0, 0)
  rcases mx_if_el hf with ⟨c73, hf⟩ | ⟨c73, hf⟩
  · refine sb_ic_ne hm dX13_workBoth_21 (tgt := 28) rfl (fun _ => ?_) (fun z => absurd c73 z)
    refine sx_ic (v := 0) hm dX13_workBoth_28 (by decide) ?_
    refine mx_S.ext [(0, .ref a0), (1, .int a1), (2, .int v71)] (mx_sub_pos [1, 2, 0] rfl (show ([2, 0, 1] : List Nat).Nodup by decide)) ?_
    exact j_X13_workBoth_29_ok X hF hL nn hrc a0 a1 v71 0 u72.2 hf
  · refine sb_ic_ne hm dX13_workBoth_21 (tgt := 28) rfl (fun z => absurd z c73) (fun _ => ?_)
    refine sx_ic (v := 1) hm dX13_workBoth_24 (by decide) ?_
    refine mx_S.pu (pc2 := 29) (lv2 := [(2, .int v71), (0, .ref a0), (1, .int a1)]) (st2 := [.int 1]) hm dX13_workBoth_25 rfl ?_
    refine mx_S.ext [(0, .ref a0), (1, .int a1), (2, .int v71)] (mx_sub_pos [1, 2, 0] rfl (show ([2, 0, 1] : List Nat).Nodup by decide)) ?_
    exact j_X13_workBoth_29_ok X hF hL nn hrc a0 a1 v71 1 u72.2 hf
theorem g_X13_work_ok (X : Nat × (Nat → Int32)) (nn : Nat) : ∀ d, hg5_X13_work X d (g_X13_work nn d) := by
  intro d
  induction d with
  | zero => exact ⟨(fun {F L} _ _ a0 a1 h {r} hf => by cases hf), (fun {F L} _ _ a0 a1 h {r} hf => by cases hf), (fun {F L} _ _ a0 a1 a2 a3 h {r} hf => by cases hf), (fun {F L} _ _ a0 a1 h {r} hf => by cases hf)⟩
  | succ d ih => exact ⟨(fun {F L} hF hL a0 a1 h {r} hf => o_X13_work_ok X hF hL nn ih a0 a1 h hf), (fun {F L} hF hL a0 a1 h {r} hf => o_X13_workOne_ok X hF hL nn ih a0 a1 h hf), (fun {F L} hF hL a0 a1 a2 a3 h {r} hf => o_X13_workCall_ok X hF hL nn ih a0 a1 a2 a3 h hf), (fun {F L} hF hL a0 a1 h {r} hf => o_X13_workBoth_ok X hF hL nn ih a0 a1 h hf)⟩
theorem f_X13_work_ok (X : Nat × (Nat → Int32)) {F L : Nat} (hF : 1458 ≤ F) (hL : 37875 ≤ L) (nn : Nat) (a0 : Nat) (a1 : Int32) (h : mx_H) {r : mx_H} (hf : f_X13_work nn a0 a1 h = some r) : mx_R X F L 474 [.ref a0, .int a1] h (none, r, 0, 0) := (g_X13_work_ok X nn 1450).1 (by omega) (by omega) a0 a1 h hf
theorem f_X13_workOne_ok (X : Nat × (Nat → Int32)) {F L : Nat} (hF : 1458 ≤ F) (hL : 37875 ≤ L) (nn : Nat) (a0 : Nat) (a1 : Int32) (h : mx_H) {r : mx_H} (hf : f_X13_workOne nn a0 a1 h = some r) : mx_R X F L 475 [.ref a0, .int a1] h (none, r, 0, 0) := (g_X13_work_ok X nn 1450).2.1 (by omega) (by omega) a0 a1 h hf
theorem f_X13_workCall_ok (X : Nat × (Nat → Int32)) {F L : Nat} (hF : 1458 ≤ F) (hL : 37875 ≤ L) (nn : Nat) (a0 : Nat) (a1 : Int32) (a2 : Int32) (a3 : Int32) (h : mx_H) {r : mx_H} (hf : f_X13_workCall nn a0 a1 a2 a3 h = some r) : mx_R X F L 476 [.ref a0, .int a1, .int a2, .int a3] h (none, r, 0, 0) := (g_X13_work_ok X nn 1450).2.2.1 (by omega) (by omega) a0 a1 a2 a3 h hf
theorem f_X13_workBoth_ok (X : Nat × (Nat → Int32)) {F L : Nat} (hF : 1458 ≤ F) (hL : 37875 ≤ L) (nn : Nat) (a0 : Nat) (a1 : Int32) (h : mx_H) {r : mx_H} (hf : f_X13_workBoth nn a0 a1 h = some r) : mx_R X F L 478 [.ref a0, .int a1] h (none, r, 0, 0) := (g_X13_work_ok X nn 1450).2.2.2 (by omega) (by omega) a0 a1 h hf
