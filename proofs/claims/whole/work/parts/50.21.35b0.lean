def hg5_X13_work (X : Nat × (Nat → Int32)) (d : Nat) (rc : tg_X13_work) : Prop := (∀ {F L : Nat}, 8 + d ≤ F → 175 + d * 26 ≤ L → ∀ (a0 : Nat) (a1 : Int32) (h : mx_H) {r : mx_H}, rc.1 a0 a1 h = some r → mx_R X F L 474 [.ref a0, .int a1] h (none, r, 0, 0)) ∧ (∀ {F L : Nat}, 8 + d ≤ F → 175 + d * 26 ≤ L → ∀ (a0 : Nat) (a1 : Int32) (h : mx_H) {r : mx_H}, rc.2.1 a0 a1 h = some r → mx_R X F L 475 [.ref a0, .int a1] h (none, r, 0, 0)) ∧ (∀ {F L : Nat}, 8 + d ≤ F → 175 + d * 26 ≤ L → ∀ (a0 : Nat) (a1 : Int32) (a2 : Int32) (a3 : Int32) (h : mx_H) {r : mx_H}, rc.2.2.1 a0 a1 a2 a3 h = some r → mx_R X F L 476 [.ref a0, .int a1, .int a2, .int a3] h (none, r, 0, 0)) ∧ (∀ {F L : Nat}, 8 + d ≤ F → 175 + d * 26 ≤ L → ∀ (a0 : Nat) (a1 : Int32) (h : mx_H) {r : mx_H}, rc.2.2.2 a0 a1 h = some r → mx_R X F L 478 [.ref a0, .int a1] h (none, r, 0, 0))
set_option maxHeartbeats 4000000 in
set_option maxRecDepth 20000 in
theorem w_X13_work_50_ok (X : Nat × (Nat → Int32)) {F L d : Nat} (hF : 8 + (d + 1) ≤ F) (hL : 175 + (d + 1) * 26 ≤ L) (nn : Nat) {rc : tg_X13_work} (hrc : hg5_X13_work X d rc) : ∀ (k : Nat) (l0 : Nat) (l2 : Int32) (h : mx_H) (r : mx_H), w_X13_work_50 nn rc k l0 l2 h = some r → mx_S X F L 474 50 [(0, .ref l0), (2, .int l2)] [] h 0 0 (none, r, 0, 0) := by
  have hm : mx_mt 474 = some (yX13_work, cX13_work, 4, none) := mt_X13_work
  intro k
  induction k with
  | zero => intro l0 l2 h r hf; cases hf
  | succ k ih =>
    intro l0 l2 h r hf
    unfold w_X13_work_50 at hf
    refine mx_S.pu (pc2 := 51) (lv2 := [(0, .ref l0), (2, .int l2)]) (st2 := [.ref l0]) hm dX13_work_50 rfl ?_
    replace hf := mx_sv_el hf; obtain ⟨v1, e_v1, hf⟩ := hf
    refine sx_get hm dX13_work_51 rs_RX13_525 (xgi_el e_v1) ?_
    clear e_v1
    refine mx_S.pu (pc2 := 55) (lv2 := [(0, .ref l0), (2, .int l2)]) (st2 := [.int l2, .int v1]) hm dX13_work_54 rfl ?_
    rcases mx_if_el hf with ⟨c10, hf⟩ | ⟨c10, hf⟩
    · refine sb_ic_le hm dX13_work_55 (tgt := 84) rfl (fun _ => ?_) (fun z => absurd c10 z)
      cases hf
      exact sx_ret hm dX13_work_84 rfl
    · refine sb_ic_le hm dX13_work_55 (tgt := 84) rfl (fun z => absurd z c10) (fun _ => ?_)
      refine mx_S.pu (pc2 := 59) (lv2 := [(0, .ref l0), (2, .int l2)]) (st2 := [.ref l0]) hm dX13_work_58 rfl ?_
      refine mx_S.pu (pc2 := 60) (lv2 := [(0, .ref l0), (2, .int l2)]) (st2 := [.ref l0, .ref l0]) hm dX13_work_59 rfl ?_
      replace hf := mx_sv_el hf; obtain ⟨v2, e_v2, hf⟩ := hf
      refine sx_get hm dX13_work_60 rs_RX13_525 (xgi_el e_v2) ?_
      clear e_v2
      refine sx_ic (v := 1) hm dX13_work_63 (by decide) ?_
      replace hf := xl_el hf; obtain ⟨v3, e_v3, hf⟩ := hf
      refine mx_S.pu (pc2 := 65) (lv2 := [(0, .ref l0), (2, .int l2)]) (st2 := [.int v3, .ref l0]) hm dX13_work_64 (by rw [← e_v3]; rfl) ?_
      clear e_v3
      replace hf := mx_sv_el hf; obtain ⟨h4, e_h4, hf⟩ := hf
      refine sx_put hm dX13_work_65 rs_RX13_525 ft_13_57 ⟨rfl, rfl⟩ (fun z => by cases z) e_h4 ?_
      clear e_h4
      refine mx_S.pu (pc2 := 69) (lv2 := [(0, .ref l0), (2, .int l2)]) (st2 := [.ref l0]) hm dX13_work_68 rfl ?_
      refine mx_S.pu (pc2 := 70) (lv2 := [(0, .ref l0), (2, .int l2)]) (st2 := [.ref l0, .ref l0]) hm dX13_work_69 rfl ?_
      replace hf := mx_sv_el hf; obtain ⟨v5, e_v5, hf⟩ := hf
      refine sx_get hm dX13_work_70 rs_RX13_125 (xgr_el e_v5) ?_
      clear e_v5
      refine mx_S.pu (pc2 := 74) (lv2 := [(0, .ref l0), (2, .int l2)]) (st2 := [.ref l0, .ref v5, .ref l0]) hm dX13_work_73 rfl ?_
      replace hf := mx_sv_el hf; obtain ⟨v6, e_v6, hf⟩ := hf
      refine sx_get hm dX13_work_74 rs_RX13_525 (xgi_el e_v6) ?_
      clear e_v6
      replace hf := mx_sv_el hf; obtain ⟨v7, e_v7, hf⟩ := hf
      refine sx_ald hm dX13_work_77 e_v7 ?_
      clear e_v7
      replace hf := mx_gd_el hf; obtain ⟨c8, hf⟩ := hf
      replace hf := mx_sv_el hf; obtain ⟨u9, e_u9, hf⟩ := hf
      refine sx_cv hm dX13_work_78 rs_RX13_706 mt_X13_workOne [.int v7] [] (b := l0) (ci := 13) rfl rfl rfl c8 (Nat.le_of_ble_eq_true rfl) (Nat.le_of_ble_eq_true rfl) (by omega) (by omega) (hrc.2.1 (by omega) (by omega) l0 v7 h4 e_u9) ?_
      clear e_u9
      show mx_S X F L 474 81 [(0, .ref l0), (2, .int l2)] [] u9 0 0 (none, r, 0, 0)
      refine mx_S.pu (pc2 := 50) (lv2 := [(0, .ref l0), (2, .int l2)]) (st2 := []) hm dX13_work_81 rfl ?_
      exact ih l0 l2 u9 _ hf
set_option maxHeartbeats 4000000 in
set_option maxRecDepth 20000 in
theorem w_X13_work_7_ok (X : Nat × (Nat → Int32)) {F L d : Nat} (hF : 8 + (d + 1) ≤ F) (hL : 175 + (d + 1) * 26 ≤ L) (nn : Nat) {rc : tg_X13_work} (hrc : hg5_X13_work X d rc) : ∀ (k : Nat) (l0 : Nat) (l2 : Int32) (l3 : Int32) (h : mx_H) (r : mx_H), w_X13_work_7 nn rc k l0 l2 l3 h = some r → mx_S X F L 474 7 [(0, .ref l0), (2, .int l2), (3, .int l3)] [] h 0 0 (none, r, 0, 0) := by
  have hm : mx_mt 474 = some (yX13_work, cX13_work, 4, none) := mt_X13_work
  intro k
  induction k with
  | zero => intro l0 l2 l3 h r hf; cases hf
  | succ k ih =>
    intro l0 l2 l3 h r hf
    unfold w_X13_work_7 at hf
    refine mx_S.pu (pc2 := 8) (lv2 := [(0, .ref l0), (2, .int l2), (3, .int l3)]) (st2 := [.ref l0]) hm dX13_work_7 rfl ?_
    refine mx_S.pu (pc2 := 9) (lv2 := [(0, .ref l0), (2, .int l2), (3, .int l3)]) (st2 := [.int l3, .ref l0]) hm dX13_work_8 rfl ?_
    replace hf := mx_gd_el hf; obtain ⟨c11, hf⟩ := hf
    replace hf := mx_sv_el hf; obtain ⟨u12, e_u12, hf⟩ := hf
    refine sx_cv hm dX13_work_9 rs_RX13_703 mt_X13_isLedInWords [.int l3] [] (b := l0) (ci := 13) rfl rfl rfl c11 (Nat.le_of_ble_eq_true rfl) (Nat.le_of_ble_eq_true rfl) (by omega) (by omega) (f_X13_isLedInWords_ok X (by omega) (by omega) nn l0 l3 h e_u12) ?_
    clear e_u12
    show mx_S X F L 474 12 [(0, .ref l0), (2, .int l2), (3, .int l3)] [.int u12.1] u12.2 0 0 (none, r, 0, 0)
    rcases mx_if_el hf with ⟨c23, hf⟩ | ⟨c23, hf⟩
    · refine sb_if_eq hm dX13_work_12 (tgt := 45) rfl (fun _ => ?_) (fun z => absurd c23 z)
      refine mx_S.pu (pc2 := 46) (lv2 := [(0, .ref l0), (2, .int l2), (3, .int l3)]) (st2 := [.ref l0]) hm dX13_work_45 rfl ?_
      refine mx_S.pu (pc2 := 47) (lv2 := [(0, .ref l0), (2, .int l2), (3, .int l3)]) (st2 := [.int l3, .ref l0]) hm dX13_work_46 rfl ?_
      replace hf := mx_gd_el hf; obtain ⟨c13, hf⟩ := hf
      replace hf := mx_sv_el hf; obtain ⟨u14, e_u14, hf⟩ := hf
      refine sx_cv hm dX13_work_47 rs_RX13_706 mt_X13_workOne [.int l3] [] (b := l0) (ci := 13) rfl rfl rfl c13 (Nat.le_of_ble_eq_true rfl) (Nat.le_of_ble_eq_true rfl) (by omega) (by omega) (hrc.2.1 (by omega) (by omega) l0 l3 u12.2 e_u14) ?_
      clear e_u14
      show mx_S X F L 474 50 [(0, .ref l0), (2, .int l2), (3, .int l3)] [] u14 0 0 (none, r, 0, 0)
      refine mx_S.ext [(0, .ref l0), (2, .int l2)] (mx_sub_pos [0, 1] rfl (show ([0, 2, 3] : List Nat).Nodup by decide)) ?_
      exact w_X13_work_50_ok X hF hL nn hrc nn l0 l2 u14 _ hf
    · refine sb_if_eq hm dX13_work_12 (tgt := 45) rfl (fun z => absurd z c23) (fun _ => ?_)
      refine mx_S.pu (pc2 := 16) (lv2 := [(0, .ref l0), (2, .int l2), (3, .int l3)]) (st2 := [.ref l0]) hm dX13_work_15 rfl ?_
      replace hf := mx_sv_el hf; obtain ⟨v15, e_v15, hf⟩ := hf
      refine sx_get hm dX13_work_16 rs_RX13_125 (xgr_el e_v15) ?_
      clear e_v15
      refine mx_S.pu (pc2 := 20) (lv2 := [(0, .ref l0), (2, .int l2), (3, .int l3)]) (st2 := [.ref l0, .ref v15]) hm dX13_work_19 rfl ?_
      replace hf := mx_sv_el hf; obtain ⟨v16, e_v16, hf⟩ := hf
      refine sx_get hm dX13_work_20 rs_RX13_525 (xgi_el e_v16) ?_
      clear e_v16
      refine mx_S.pu (pc2 := 24) (lv2 := [(0, .ref l0), (2, .int l2), (3, .int l3)]) (st2 := [.int l3, .int v16, .ref v15]) hm dX13_work_23 rfl ?_
      replace hf := mx_sv_el hf; obtain ⟨h17, e_h17, hf⟩ := hf
      refine sx_ast hm dX13_work_24 e_h17 ?_
      clear e_h17
      refine mx_S.pu (pc2 := 26) (lv2 := [(0, .ref l0), (2, .int l2), (3, .int l3)]) (st2 := [.ref l0]) hm dX13_work_25 rfl ?_
      refine mx_S.pu (pc2 := 27) (lv2 := [(0, .ref l0), (2, .int l2), (3, .int l3)]) (st2 := [.ref l0, .ref l0]) hm dX13_work_26 rfl ?_
      replace hf := mx_sv_el hf; obtain ⟨v18, e_v18, hf⟩ := hf
      refine sx_get hm dX13_work_27 rs_RX13_525 (xgi_el e_v18) ?_
      clear e_v18
      refine sx_ic (v := 1) hm dX13_work_30 (by decide) ?_
      replace hf := xl_el hf; obtain ⟨v19, e_v19, hf⟩ := hf
      refine mx_S.pu (pc2 := 32) (lv2 := [(0, .ref l0), (2, .int l2), (3, .int l3)]) (st2 := [.int v19, .ref l0]) hm dX13_work_31 (by rw [← e_v19]; rfl) ?_
      clear e_v19
      replace hf := mx_sv_el hf; obtain ⟨h20, e_h20, hf⟩ := hf
      refine sx_put hm dX13_work_32 rs_RX13_525 ft_13_57 ⟨rfl, rfl⟩ (fun z => by cases z) e_h20 ?_
      clear e_h20
      refine mx_S.pu (pc2 := 36) (lv2 := [(0, .ref l0), (2, .int l2), (3, .int l3)]) (st2 := [.ref l0]) hm dX13_work_35 rfl ?_
      replace hf := mx_sv_el hf; obtain ⟨v21, e_v21, hf⟩ := hf
      refine sx_get hm dX13_work_36 rs_RX13_37 (xgr_el e_v21) ?_
      clear e_v21
      refine mx_S.pu (pc2 := 40) (lv2 := [(0, .ref l0), (2, .int l2), (3, .int l3)]) (st2 := [.int l3, .ref v21]) hm dX13_work_39 rfl ?_
      replace hf := mx_sv_el hf; obtain ⟨v22, e_v22, hf⟩ := hf
      refine sx_ald hm dX13_work_40 e_v22 ?_
      clear e_v22
      refine mx_S.pu (pc2 := 42) (lv2 := [(3, .int v22), (0, .ref l0), (2, .int l2)]) (st2 := []) hm dX13_work_41 rfl ?_
      refine mx_S.pu (pc2 := 7) (lv2 := [(3, .int v22), (0, .ref l0), (2, .int l2)]) (st2 := []) hm dX13_work_42 rfl ?_
      refine mx_S.ext [(0, .ref l0), (2, .int l2), (3, .int v22)] (mx_sub_pos [1, 2, 0] rfl (show ([3, 0, 2] : List Nat).Nodup by decide)) ?_
      exact ih l0 l2 v22 h20 _ hf
set_option maxHeartbeats 4000000 in
set_option maxRecDepth 20000 in
theorem o_X13_work_ok (X : Nat × (Nat → Int32)) {F L d : Nat} (hF : 8 + (d + 1) ≤ F) (hL : 175 + (d + 1) * 26 ≤ L) (nn : Nat) {rc : tg_X13_work} (hrc : hg5_X13_work X d rc) (a0 : Nat) (a1 : Int32) (h : mx_H) {r : mx_H} (hf : o_X13_work nn rc a0 a1 h = some r) : mx_R X F L 474 [.ref a0, .int a1] h (none, r, 0, 0) := by
  have hm : mx_mt 474 = some (yX13_work, cX13_work, 4, none) := mt_X13_work
  show mx_S X F L 474 0 [(0, .ref a0), (1, .int a1)] [] h 0 0 (none, r, 0, 0)
  unfold o_X13_work at hf
  refine mx_S.pu (pc2 := 1) (lv2 := [(0, .ref a0), (1, .int a1)]) (st2 := [.ref a0]) hm dX13_work_0 rfl ?_
  replace hf := mx_sv_el hf; obtain ⟨v24, e_v24, hf⟩ := hf
  refine sx_get hm dX13_work_1 rs_RX13_525 (xgi_el e_v24) ?_
  clear e_v24
  refine mx_S.pu (pc2 := 5) (lv2 := [(2, .int v24), (0, .ref a0), (1, .int a1)]) (st2 := []) hm dX13_work_4 rfl ?_
  refine mx_S.pu (pc2 := 6) (lv2 := [(2, .int v24), (0, .ref a0), (1, .int a1)]) (st2 := [.int a1]) hm dX13_work_5 rfl ?_
  refine mx_S.pu (pc2 := 7) (lv2 := [(3, .int a1), (2, .int v24), (0, .ref a0), (1, .int a1)]) (st2 := []) hm dX13_work_6 rfl ?_
  refine mx_S.ext [(0, .ref a0), (2, .int v24), (3, .int a1)] (mx_sub_pos [2, 1, 0] rfl (show ([3, 2, 0, 1] : List Nat).Nodup by decide)) ?_
  exact w_X13_work_7_ok X hF hL nn hrc nn a0 v24 a1 h _ hf
set_option maxHeartbeats 4000000 in
set_option maxRecDepth 20000 in
theorem j_X13_workOne_775_ok (X : Nat × (Nat → Int32)) {F L d : Nat} (hF : 8 + (d + 1) ≤ F) (hL : 175 + (d + 1) * 26 ≤ L) (nn : Nat) {rc : tg_X13_work} (hrc : hg5_X13_work X d rc) (h : mx_H) {r : mx_H} (hf : j_X13_workOne_775 nn rc h = some r) : mx_S X F L 475 775 [] [] h 0 0 (none, r, 0, 0) := by
  have hm : mx_mt 475 = some (yX13_workOne, cX13_workOne, 6, none) := mt_X13_workOne
  unfold j_X13_workOne_775 at hf
  cases hf
  exact sx_ret hm dX13_workOne_775 rfl
set_option maxHeartbeats 4000000 in
set_option maxRecDepth 20000 in
theorem j_X13_workOne_630_ok (X : Nat × (Nat → Int32)) {F L d : Nat} (hF : 8 + (d + 1) ≤ F) (hL : 175 + (d + 1) * 26 ≤ L) (nn : Nat) {rc : tg_X13_work} (hrc : hg5_X13_work X d rc) (l0 : Nat) (l1 : Int32) (l2 : Int32) (s0 : Int32) (s1 : Nat) (h : mx_H) {r : mx_H} (hf : j_X13_workOne_630 nn rc l0 l1 l2 s0 s1 h = some r) : mx_S X F L 475 630 [(0, .ref l0), (1, .int l1), (2, .int l2)] [.int s0, .ref s1] h 0 0 (none, r, 0, 0) := by
  have hm : mx_mt 475 = some (yX13_workOne, cX13_workOne, 6, none) := mt_X13_workOne
  unfold j_X13_workOne_630 at hf
  replace hf := mx_gd_el hf; obtain ⟨c1, hf⟩ := hf
  replace hf := mx_sv_el hf; obtain ⟨u2, e_u2, hf⟩ := hf
  refine sx_cv hm dX13_workOne_630 rs_RX13_646 mt_X13_put [.int s0] [] (b := s1) (ci := 13) rfl rfl rfl c1 (Nat.le_of_ble_eq_true rfl) (Nat.le_of_ble_eq_true rfl) (by omega) (by omega) (f_X13_put_ok X (by omega) (by omega) nn s1 s0 h e_u2) ?_
  clear e_u2
  show mx_S X F L 475 633 [(0, .ref l0), (1, .int l1), (2, .int l2)] [] u2 0 0 (none, r, 0, 0)
  refine mx_S.pu (pc2 := 634) (lv2 := [(0, .ref l0), (1, .int l1), (2, .int l2)]) (st2 := [.ref l0]) hm dX13_workOne_633 rfl ?_
  refine mx_S.pu (pc2 := 635) (lv2 := [(0, .ref l0), (1, .int l1), (2, .int l2)]) (st2 := [.ref l0, .ref l0]) hm dX13_workOne_634 rfl ?_
  refine mx_S.pu (pc2 := 636) (lv2 := [(0, .ref l0), (1, .int l1), (2, .int l2)]) (st2 := [.ref l0, .ref l0, .ref l0]) hm dX13_workOne_635 rfl ?_
  replace hf := mx_sv_el hf; obtain ⟨v3, e_v3, hf⟩ := hf
  refine sx_get hm dX13_workOne_636 rs_RX13_55 (xgr_el e_v3) ?_
  clear e_v3
  refine mx_S.pu (pc2 := 640) (lv2 := [(0, .ref l0), (1, .int l1), (2, .int l2)]) (st2 := [.int l1, .ref v3, .ref l0, .ref l0]) hm dX13_workOne_639 rfl ?_
  replace hf := mx_sv_el hf; obtain ⟨v4, e_v4, hf⟩ := hf
  refine sx_ald hm dX13_workOne_640 e_v4 ?_
  clear e_v4
  replace hf := mx_gd_el hf; obtain ⟨c5, hf⟩ := hf
  replace hf := mx_sv_el hf; obtain ⟨u6, e_u6, hf⟩ := hf
  refine sx_cv hm dX13_workOne_641 rs_RX13_618 mt_X13_classConstant [.int v4] [.ref l0] (b := l0) (ci := 13) rfl rfl rfl c5 (Nat.le_of_ble_eq_true rfl) (Nat.le_of_ble_eq_true rfl) (by omega) (by omega) (f_X13_classConstant_ok X (by omega) (by omega) nn l0 v4 u2 e_u6) ?_
  clear e_u6
  show mx_S X F L 475 644 [(0, .ref l0), (1, .int l1), (2, .int l2)] [.int u6.1, .ref l0] u6.2 0 0 (none, r, 0, 0)
  replace hf := mx_gd_el hf; obtain ⟨c7, hf⟩ := hf
  replace hf := mx_sv_el hf; obtain ⟨u8, e_u8, hf⟩ := hf
  refine sx_cv hm dX13_workOne_644 rs_RX13_646 mt_X13_put [.int u6.1] [] (b := l0) (ci := 13) rfl rfl rfl c7 (Nat.le_of_ble_eq_true rfl) (Nat.le_of_ble_eq_true rfl) (by omega) (by omega) (f_X13_put_ok X (by omega) (by omega) nn l0 u6.1 u6.2 e_u8) ?_
  clear e_u8
  show mx_S X F L 475 647 [(0, .ref l0), (1, .int l1), (2, .int l2)] [] u8 0 0 (none, r, 0, 0)
  refine mx_S.pu (pc2 := 648) (lv2 := [(0, .ref l0), (1, .int l1), (2, .int l2)]) (st2 := [.ref l0]) hm dX13_workOne_647 rfl ?_
  refine sx_ic (v := 1) hm dX13_workOne_648 (by decide) ?_
  refine mx_S.pu (pc2 := 650) (lv2 := [(0, .ref l0), (1, .int l1), (2, .int l2)]) (st2 := [.int l2, .int 1, .ref l0]) hm dX13_workOne_649 rfl ?_
  replace hf := mx_gd_el hf; obtain ⟨c9, hf⟩ := hf
  replace hf := mx_sv_el hf; obtain ⟨u10, e_u10, hf⟩ := hf
  refine sx_cv hm dX13_workOne_650 rs_RX13_712 mt_X13_turn [.int 1, .int l2] [] (b := l0) (ci := 13) rfl rfl rfl c9 (Nat.le_of_ble_eq_true rfl) (Nat.le_of_ble_eq_true rfl) (by omega) (by omega) (f_X13_turn_ok X (by omega) (by omega) nn l0 1 l2 u8 e_u10) ?_
  clear e_u10
  show mx_S X F L 475 653 [(0, .ref l0), (1, .int l1), (2, .int l2)] [] u10 0 0 (none, r, 0, 0)
  cases hf
  exact sx_ret hm dX13_workOne_653 rfl
set_option maxHeartbeats 4000000 in
set_option maxRecDepth 20000 in
theorem j_X13_workOne_609_ok (X : Nat × (Nat → Int32)) {F L d : Nat} (hF : 8 + (d + 1) ≤ F) (hL : 175 + (d + 1) * 26 ≤ L) (nn : Nat) {rc : tg_X13_work} (hrc : hg5_X13_work X d rc) (l0 : Nat) (l1 : Int32) (l2 : Int32) (h : mx_H) {r : mx_H} (hf : j_X13_workOne_609 nn rc l0 l1 l2 h = some r) : mx_S X F L 475 609 [(0, .ref l0), (1, .int l1), (2, .int l2)] [] h 0 0 (none, r, 0, 0) := by
  have hm : mx_mt 475 = some (yX13_workOne, cX13_workOne, 6, none) := mt_X13_workOne
  unfold j_X13_workOne_609 at hf
  refine mx_S.pu (pc2 := 610) (lv2 := [(0, .ref l0), (1, .int l1), (2, .int l2)]) (st2 := [.ref l0]) hm dX13_workOne_609 rfl ?_
  refine mx_S.pu (pc2 := 611) (lv2 := [(0, .ref l0), (1, .int l1), (2, .int l2)]) (st2 := [.ref l0, .ref l0]) hm dX13_workOne_610 rfl ?_
  replace hf := mx_sv_el hf; obtain ⟨v11, e_v11, hf⟩ := hf
  refine sx_get hm dX13_workOne_611 rs_RX13_28 (xgr_el e_v11) ?_
  clear e_v11
  refine mx_S.pu (pc2 := 615) (lv2 := [(0, .ref l0), (1, .int l1), (2, .int l2)]) (st2 := [.int l1, .ref v11, .ref l0]) hm dX13_workOne_614 rfl ?_
  replace hf := mx_sv_el hf; obtain ⟨v12, e_v12, hf⟩ := hf
  refine sx_ald hm dX13_workOne_615 e_v12 ?_
  clear e_v12
  refine sx_bi (v := 36) hm dX13_workOne_616 (by decide) ?_
  rcases mx_if_el hf with ⟨c13, hf⟩ | ⟨c13, hf⟩
  · refine sb_ic_ne hm dX13_workOne_618 (tgt := 627) rfl (fun _ => ?_) (fun z => absurd c13 z)
    refine sx_si (v := 193) hm dX13_workOne_627 (by decide) ?_
    exact j_X13_workOne_630_ok X hF hL nn hrc l0 l1 l2 193 l0 h hf
  · refine sb_ic_ne hm dX13_workOne_618 (tgt := 627) rfl (fun z => absurd z c13) (fun _ => ?_)
    refine sx_si (v := 192) hm dX13_workOne_621 (by decide) ?_
    refine mx_S.pu (pc2 := 630) (lv2 := [(0, .ref l0), (1, .int l1), (2, .int l2)]) (st2 := [.int 192, .ref l0]) hm dX13_workOne_624 rfl ?_
    exact j_X13_workOne_630_ok X hF hL nn hrc l0 l1 l2 192 l0 h hf
set_option maxHeartbeats 4000000 in
set_option maxRecDepth 20000 in
theorem j_X13_workOne_588_ok (X : Nat × (Nat → Int32)) {F L d : Nat} (hF : 8 + (d + 1) ≤ F) (hL : 175 + (d + 1) * 26 ≤ L) (nn : Nat) {rc : tg_X13_work} (hrc : hg5_X13_work X d rc) (l0 : Nat) (l1 : Int32) (l2 : Int32) (h : mx_H) {r : mx_H} (hf : j_X13_workOne_588 nn rc l0 l1 l2 h = some r) : mx_S X F L 475 588 [(0, .ref l0), (1, .int l1), (2, .int l2)] [] h 0 0 (none, r, 0, 0) := by
  have hm : mx_mt 475 = some (yX13_workOne, cX13_workOne, 6, none) := mt_X13_workOne
  unfold j_X13_workOne_588 at hf
  refine mx_S.pu (pc2 := 589) (lv2 := [(0, .ref l0), (1, .int l1), (2, .int l2)]) (st2 := [.ref l0]) hm dX13_workOne_588 rfl ?_
  replace hf := mx_sv_el hf; obtain ⟨v14, e_v14, hf⟩ := hf
  refine sx_get hm dX13_workOne_589 rs_RX13_28 (xgr_el e_v14) ?_
  clear e_v14
  refine mx_S.pu (pc2 := 593) (lv2 := [(0, .ref l0), (1, .int l1), (2, .int l2)]) (st2 := [.int l1, .ref v14]) hm dX13_workOne_592 rfl ?_
  replace hf := mx_sv_el hf; obtain ⟨v15, e_v15, hf⟩ := hf
  refine sx_ald hm dX13_workOne_593 e_v15 ?_
  clear e_v15
  refine sx_bi (v := 36) hm dX13_workOne_594 (by decide) ?_
  rcases mx_if_el hf with ⟨c20, hf⟩ | ⟨c20, hf⟩
  · refine sb_ic_ne hm dX13_workOne_596 (tgt := 609) rfl (fun _ => ?_) (fun z => absurd c20 z)
    exact j_X13_workOne_609_ok X hF hL nn hrc l0 l1 l2 h hf
  · refine sb_ic_ne hm dX13_workOne_596 (tgt := 609) rfl (fun z => absurd z c20) (fun _ => ?_)
    refine mx_S.pu (pc2 := 600) (lv2 := [(0, .ref l0), (1, .int l1), (2, .int l2)]) (st2 := [.ref l0]) hm dX13_workOne_599 rfl ?_
    refine mx_S.pu (pc2 := 601) (lv2 := [(0, .ref l0), (1, .int l1), (2, .int l2)]) (st2 := [.ref l0, .ref l0]) hm dX13_workOne_600 rfl ?_
    replace hf := mx_sv_el hf; obtain ⟨v16, e_v16, hf⟩ := hf
    refine sx_get hm dX13_workOne_601 rs_RX13_37 (xgr_el e_v16) ?_
    clear e_v16
    refine mx_S.pu (pc2 := 605) (lv2 := [(0, .ref l0), (1, .int l1), (2, .int l2)]) (st2 := [.int l1, .ref v16, .ref l0]) hm dX13_workOne_604 rfl ?_
    replace hf := mx_sv_el hf; obtain ⟨v17, e_v17, hf⟩ := hf
    refine sx_ald hm dX13_workOne_605 e_v17 ?_
    clear e_v17
    replace hf := mx_gd_el hf; obtain ⟨c18, hf⟩ := hf
    replace hf := mx_sv_el hf; obtain ⟨u19, e_u19, hf⟩ := hf
    refine sx_cv hm dX13_workOne_606 rs_RX13_667 mt_X13_work [.int v17] [] (b := l0) (ci := 13) rfl rfl rfl c18 (Nat.le_of_ble_eq_true rfl) (Nat.le_of_ble_eq_true rfl) (by omega) (by omega) (hrc.1 (by omega) (by omega) l0 v17 h e_u19) ?_
    clear e_u19
    show mx_S X F L 475 609 [(0, .ref l0), (1, .int l1), (2, .int l2)] [] u19 0 0 (none, r, 0, 0)
    exact j_X13_workOne_609_ok X hF hL nn hrc l0 l1 l2 u19 hf
set_option maxHeartbeats 4000000 in
set_option maxRecDepth 20000 in
theorem j_X13_workOne_508_ok (X : Nat × (Nat → Int32)) {F L d : Nat} (hF : 8 + (d + 1) ≤ F) (hL : 175 + (d + 1) * 26 ≤ L) (nn : Nat) {rc : tg_X13_work} (hrc : hg5_X13_work X d rc) (l0 : Nat) (l2 : Int32) (s0 : Int32) (s1 : Nat) (h : mx_H) {r : mx_H} (hf : j_X13_workOne_508 nn rc l0 l2 s0 s1 h = some r) : mx_S X F L 475 508 [(0, .ref l0), (2, .int l2)] [.int s0, .ref s1] h 0 0 (none, r, 0, 0) := by
  have hm : mx_mt 475 = some (yX13_workOne, cX13_workOne, 6, none) := mt_X13_workOne
  unfold j_X13_workOne_508 at hf
  replace hf := mx_gd_el hf; obtain ⟨c21, hf⟩ := hf
  replace hf := mx_sv_el hf; obtain ⟨u22, e_u22, hf⟩ := hf
  refine sx_cv hm dX13_workOne_508 rs_RX13_646 mt_X13_put [.int s0] [] (b := s1) (ci := 13) rfl rfl rfl c21 (Nat.le_of_ble_eq_true rfl) (Nat.le_of_ble_eq_true rfl) (by omega) (by omega) (f_X13_put_ok X (by omega) (by omega) nn s1 s0 h e_u22) ?_
  clear e_u22
  show mx_S X F L 475 511 [(0, .ref l0), (2, .int l2)] [] u22 0 0 (none, r, 0, 0)
  refine mx_S.pu (pc2 := 512) (lv2 := [(0, .ref l0), (2, .int l2)]) (st2 := [.ref l0]) hm dX13_workOne_511 rfl ?_
  refine sx_ic (v := 2) hm dX13_workOne_512 (by decide) ?_
  refine mx_S.pu (pc2 := 514) (lv2 := [(0, .ref l0), (2, .int l2)]) (st2 := [.int l2, .int 2, .ref l0]) hm dX13_workOne_513 rfl ?_
  replace hf := mx_gd_el hf; obtain ⟨c23, hf⟩ := hf
  replace hf := mx_sv_el hf; obtain ⟨u24, e_u24, hf⟩ := hf
  refine sx_cv hm dX13_workOne_514 rs_RX13_712 mt_X13_turn [.int 2, .int l2] [] (b := l0) (ci := 13) rfl rfl rfl c23 (Nat.le_of_ble_eq_true rfl) (Nat.le_of_ble_eq_true rfl) (by omega) (by omega) (f_X13_turn_ok X (by omega) (by omega) nn l0 2 l2 u22 e_u24) ?_
  clear e_u24
  show mx_S X F L 475 517 [(0, .ref l0), (2, .int l2)] [] u24 0 0 (none, r, 0, 0)
  cases hf
  exact sx_ret hm dX13_workOne_517 rfl
set_option maxHeartbeats 4000000 in
set_option maxRecDepth 20000 in
theorem j_X13_workOne_479_ok (X : Nat × (Nat → Int32)) {F L d : Nat} (hF : 8 + (d + 1) ≤ F) (hL : 175 + (d + 1) * 26 ≤ L) (nn : Nat) {rc : tg_X13_work} (hrc : hg5_X13_work X d rc) (l0 : Nat) (l2 : Int32) (h : mx_H) {r : mx_H} (hf : j_X13_workOne_479 nn rc l0 l2 h = some r) : mx_S X F L 475 479 [(0, .ref l0), (2, .int l2)] [] h 0 0 (none, r, 0, 0) := by
  have hm : mx_mt 475 = some (yX13_workOne, cX13_workOne, 6, none) := mt_X13_workOne
  unfold j_X13_workOne_479 at hf
  refine mx_S.pu (pc2 := 480) (lv2 := [(0, .ref l0), (2, .int l2)]) (st2 := [.ref l0]) hm dX13_workOne_479 rfl ?_
  refine sx_ic (v := 1) hm dX13_workOne_480 (by decide) ?_
  refine mx_S.pu (pc2 := 482) (lv2 := [(0, .ref l0), (2, .int l2)]) (st2 := [.int l2, .int 1, .ref l0]) hm dX13_workOne_481 rfl ?_
  replace hf := mx_gd_el hf; obtain ⟨c25, hf⟩ := hf
  replace hf := mx_sv_el hf; obtain ⟨u26, e_u26, hf⟩ := hf
  refine sx_cv hm dX13_workOne_482 rs_RX13_712 mt_X13_turn [.int 1, .int l2] [] (b := l0) (ci := 13) rfl rfl rfl c25 (Nat.le_of_ble_eq_true rfl) (Nat.le_of_ble_eq_true rfl) (by omega) (by omega) (f_X13_turn_ok X (by omega) (by omega) nn l0 1 l2 h e_u26) ?_
  clear e_u26
  show mx_S X F L 475 485 [(0, .ref l0), (2, .int l2)] [] u26 0 0 (none, r, 0, 0)
  cases hf
  exact sx_ret hm dX13_workOne_485 rfl
set_option maxHeartbeats 4000000 in
set_option maxRecDepth 20000 in
theorem j_X13_workOne_316_ok (X : Nat × (Nat → Int32)) {F L d : Nat} (hF : 8 + (d + 1) ≤ F) (hL : 175 + (d + 1) * 26 ≤ L) (nn : Nat) {rc : tg_X13_work} (hrc : hg5_X13_work X d rc) (l0 : Nat) (l1 : Int32) (s0 : Int32) (s1 : Int32) (s2 : Nat) (h : mx_H) {r : mx_H} (hf : j_X13_workOne_316 nn rc l0 l1 s0 s1 s2 h = some r) : mx_S X F L 475 316 [(0, .ref l0), (1, .int l1)] [.int s0, .int s1, .ref s2] h 0 0 (none, r, 0, 0) := by
  have hm : mx_mt 475 = some (yX13_workOne, cX13_workOne, 6, none) := mt_X13_workOne
  unfold j_X13_workOne_316 at hf
  refine mx_S.pu (pc2 := 317) (lv2 := [(0, .ref l0), (1, .int l1)]) (st2 := [.ref l0, .int s0, .int s1, .ref s2]) hm dX13_workOne_316 rfl ?_
  replace hf := mx_sv_el hf; obtain ⟨v27, e_v27, hf⟩ := hf
  refine sx_get hm dX13_workOne_317 rs_RX13_55 (xgr_el e_v27) ?_
  clear e_v27
  refine mx_S.pu (pc2 := 321) (lv2 := [(0, .ref l0), (1, .int l1)]) (st2 := [.int l1, .ref v27, .int s0, .int s1, .ref s2]) hm dX13_workOne_320 rfl ?_
  replace hf := mx_sv_el hf; obtain ⟨v28, e_v28, hf⟩ := hf
  refine sx_ald hm dX13_workOne_321 e_v28 ?_
  clear e_v28
  refine sx_ic (v := (-1)) hm dX13_workOne_322 (by decide) ?_
  rcases mx_if_el hf with ⟨c33, hf⟩ | ⟨c33, hf⟩
  · refine sb_ic_eq hm dX13_workOne_323 (tgt := 330) rfl (fun _ => ?_) (fun z => absurd c33 z)
    refine sx_ic (v := 0) hm dX13_workOne_330 (by decide) ?_
    replace hf := mx_gd_el hf; obtain ⟨c29, hf⟩ := hf
    replace hf := mx_sv_el hf; obtain ⟨u30, e_u30, hf⟩ := hf
    refine sx_cv hm dX13_workOne_331 rs_RX13_715 mt_X13_workCall [.int s1, .int s0, .int 0] [] (b := s2) (ci := 13) rfl rfl rfl c29 (Nat.le_of_ble_eq_true rfl) (Nat.le_of_ble_eq_true rfl) (by omega) (by omega) (hrc.2.2.1 (by omega) (by omega) s2 s1 s0 0 h e_u30) ?_
    clear e_u30
    show mx_S X F L 475 334 [(0, .ref l0), (1, .int l1)] [] u30 0 0 (none, r, 0, 0)
    cases hf
    exact sx_ret hm dX13_workOne_334 rfl
  · refine sb_ic_eq hm dX13_workOne_323 (tgt := 330) rfl (fun z => absurd z c33) (fun _ => ?_)
    refine sx_ic (v := 1) hm dX13_workOne_326 (by decide) ?_
    refine mx_S.pu (pc2 := 331) (lv2 := [(0, .ref l0), (1, .int l1)]) (st2 := [.int 1, .int s0, .int s1, .ref s2]) hm dX13_workOne_327 rfl ?_
    replace hf := mx_gd_el hf; obtain ⟨c31, hf⟩ := hf
    replace hf := mx_sv_el hf; obtain ⟨u32, e_u32, hf⟩ := hf
    refine sx_cv hm dX13_workOne_331 rs_RX13_715 mt_X13_workCall [.int s1, .int s0, .int 1] [] (b := s2) (ci := 13) rfl rfl rfl c31 (Nat.le_of_ble_eq_true rfl) (Nat.le_of_ble_eq_true rfl) (by omega) (by omega) (hrc.2.2.1 (by omega) (by omega) s2 s1 s0 1 h e_u32) ?_
    clear e_u32
    show mx_S X F L 475 334 [(0, .ref l0), (1, .int l1)] [] u32 0 0 (none, r, 0, 0)
    cases hf
    exact sx_ret hm dX13_workOne_334 rfl
set_option maxHeartbeats 4000000 in
set_option maxRecDepth 20000 in
theorem j_X13_workOne_268_ok (X : Nat × (Nat → Int32)) {F L d : Nat} (hF : 8 + (d + 1) ≤ F) (hL : 175 + (d + 1) * 26 ≤ L) (nn : Nat) {rc : tg_X13_work} (hrc : hg5_X13_work X d rc) (l0 : Nat) (l1 : Int32) (l3 : Int32) (h : mx_H) {r : mx_H} (hf : j_X13_workOne_268 nn rc l0 l1 l3 h = some r) : mx_S X F L 475 268 [(0, .ref l0), (1, .int l1), (3, .int l3)] [] h 0 0 (none, r, 0, 0) := by
  have hm : mx_mt 475 = some (yX13_workOne, cX13_workOne, 6, none) := mt_X13_workOne
  unfold j_X13_workOne_268 at hf
  refine mx_S.pu (pc2 := 269) (lv2 := [(0, .ref l0), (1, .int l1), (3, .int l3)]) (st2 := [.ref l0]) hm dX13_workOne_268 rfl ?_
  refine mx_S.pu (pc2 := 270) (lv2 := [(0, .ref l0), (1, .int l1), (3, .int l3)]) (st2 := [.int l1, .ref l0]) hm dX13_workOne_269 rfl ?_
  refine mx_S.pu (pc2 := 271) (lv2 := [(0, .ref l0), (1, .int l1), (3, .int l3)]) (st2 := [.ref l0, .int l1, .ref l0]) hm dX13_workOne_270 rfl ?_
  replace hf := mx_sv_el hf; obtain ⟨v34, e_v34, hf⟩ := hf
  refine sx_get hm dX13_workOne_271 rs_RX13_519 (xgi_el e_v34) ?_
  clear e_v34
  refine mx_S.pu (pc2 := 275) (lv2 := [(0, .ref l0), (1, .int l1), (3, .int l3)]) (st2 := [.int l3, .int v34, .int l1, .ref l0]) hm dX13_workOne_274 rfl ?_
  replace hf := mx_gd_el hf; obtain ⟨c35, hf⟩ := hf
  replace hf := mx_sv_el hf; obtain ⟨u36, e_u36, hf⟩ := hf
  refine sx_cv hm dX13_workOne_275 rs_RX13_715 mt_X13_workCall [.int l1, .int v34, .int l3] [] (b := l0) (ci := 13) rfl rfl rfl c35 (Nat.le_of_ble_eq_true rfl) (Nat.le_of_ble_eq_true rfl) (by omega) (by omega) (hrc.2.2.1 (by omega) (by omega) l0 l1 v34 l3 h e_u36) ?_
  clear e_u36
  show mx_S X F L 475 278 [(0, .ref l0), (1, .int l1), (3, .int l3)] [] u36 0 0 (none, r, 0, 0)
  cases hf
  exact sx_ret hm dX13_workOne_278 rfl
set_option maxHeartbeats 4000000 in
set_option maxRecDepth 20000 in
theorem j_X13_workOne_259_ok (X : Nat × (Nat → Int32)) {F L d : Nat} (hF : 8 + (d + 1) ≤ F) (hL : 175 + (d + 1) * 26 ≤ L) (nn : Nat) {rc : tg_X13_work} (hrc : hg5_X13_work X d rc) (l0 : Nat) (l1 : Int32) (s0 : Int32) (h : mx_H) {r : mx_H} (hf : j_X13_workOne_259 nn rc l0 l1 s0 h = some r) : mx_S X F L 475 259 [(0, .ref l0), (1, .int l1)] [.int s0] h 0 0 (none, r, 0, 0) := by
  have hm : mx_mt 475 = some (yX13_workOne, cX13_workOne, 6, none) := mt_X13_workOne
  unfold j_X13_workOne_259 at hf
  refine mx_S.pu (pc2 := 260) (lv2 := [(3, .int s0), (0, .ref l0), (1, .int l1)]) (st2 := []) hm dX13_workOne_259 rfl ?_
  refine mx_S.pu (pc2 := 261) (lv2 := [(3, .int s0), (0, .ref l0), (1, .int l1)]) (st2 := [.int s0]) hm dX13_workOne_260 rfl ?_
  rcases mx_if_el hf with ⟨c39, hf⟩ | ⟨c39, hf⟩
  · refine sb_if_ne hm dX13_workOne_261 (tgt := 268) rfl (fun _ => ?_) (fun z => absurd c39 z)
    refine mx_S.ext [(0, .ref l0), (1, .int l1), (3, .int s0)] (mx_sub_pos [1, 2, 0] rfl (show ([3, 0, 1] : List Nat).Nodup by decide)) ?_
    exact j_X13_workOne_268_ok X hF hL nn hrc l0 l1 s0 h hf
  · refine sb_if_ne hm dX13_workOne_261 (tgt := 268) rfl (fun z => absurd z c39) (fun _ => ?_)
    refine mx_S.pu (pc2 := 265) (lv2 := [(3, .int s0), (0, .ref l0), (1, .int l1)]) (st2 := [.ref l0]) hm dX13_workOne_264 rfl ?_
    replace hf := mx_gd_el hf; obtain ⟨c37, hf⟩ := hf
    replace hf := mx_sv_el hf; obtain ⟨u38, e_u38, hf⟩ := hf
    refine sx_cv hm dX13_workOne_265 rs_RX13_697 mt_X13_self [] [] (b := l0) (ci := 13) rfl rfl rfl c37 (Nat.le_of_ble_eq_true rfl) (Nat.le_of_ble_eq_true rfl) (by omega) (by omega) (f_X13_self_ok X (by omega) (by omega) nn l0 h e_u38) ?_
    clear e_u38
    show mx_S X F L 475 268 [(3, .int s0), (0, .ref l0), (1, .int l1)] [] u38 0 0 (none, r, 0, 0)
    refine mx_S.ext [(0, .ref l0), (1, .int l1), (3, .int s0)] (mx_sub_pos [1, 2, 0] rfl (show ([3, 0, 1] : List Nat).Nodup by decide)) ?_
    exact j_X13_workOne_268_ok X hF hL nn hrc l0 l1 s0 u38 hf
set_option maxHeartbeats 4000000 in
set_option maxRecDepth 20000 in
theorem j_X13_workOne_184_ok (X : Nat × (Nat → Int32)) {F L d : Nat} (hF : 8 + (d + 1) ≤ F) (hL : 175 + (d + 1) * 26 ≤ L) (nn : Nat) {rc : tg_X13_work} (hrc : hg5_X13_work X d rc) (l0 : Nat) (l1 : Int32) (l2 : Int32) (s0 : Int32) (s1 : Nat) (h : mx_H) {r : mx_H} (hf : j_X13_workOne_184 nn rc l0 l1 l2 s0 s1 h = some r) : mx_S X F L 475 184 [(0, .ref l0), (1, .int l1), (2, .int l2)] [.int s0, .ref s1] h 0 0 (none, r, 0, 0) := by
  have hm : mx_mt 475 = some (yX13_workOne, cX13_workOne, 6, none) := mt_X13_workOne
  unfold j_X13_workOne_184 at hf
  replace hf := mx_gd_el hf; obtain ⟨c40, hf⟩ := hf
  replace hf := mx_sv_el hf; obtain ⟨u41, e_u41, hf⟩ := hf
  refine sx_cv hm dX13_workOne_184 rs_RX13_646 mt_X13_put [.int s0] [] (b := s1) (ci := 13) rfl rfl rfl c40 (Nat.le_of_ble_eq_true rfl) (Nat.le_of_ble_eq_true rfl) (by omega) (by omega) (f_X13_put_ok X (by omega) (by omega) nn s1 s0 h e_u41) ?_
  clear e_u41
  show mx_S X F L 475 187 [(0, .ref l0), (1, .int l1), (2, .int l2)] [] u41 0 0 (none, r, 0, 0)
  refine mx_S.pu (pc2 := 188) (lv2 := [(0, .ref l0), (1, .int l1), (2, .int l2)]) (st2 := [.ref l0]) hm dX13_workOne_187 rfl ?_
  refine mx_S.pu (pc2 := 189) (lv2 := [(0, .ref l0), (1, .int l1), (2, .int l2)]) (st2 := [.ref l0, .ref l0]) hm dX13_workOne_188 rfl ?_
  replace hf := mx_sv_el hf; obtain ⟨v42, e_v42, hf⟩ := hf
  refine sx_get hm dX13_workOne_189 rs_RX13_55 (xgr_el e_v42) ?_
  clear e_v42
  refine mx_S.pu (pc2 := 193) (lv2 := [(0, .ref l0), (1, .int l1), (2, .int l2)]) (st2 := [.int l1, .ref v42, .ref l0]) hm dX13_workOne_192 rfl ?_
  replace hf := mx_sv_el hf; obtain ⟨v43, e_v43, hf⟩ := hf
  refine sx_ald hm dX13_workOne_193 e_v43 ?_
  clear e_v43
  replace hf := mx_gd_el hf; obtain ⟨c44, hf⟩ := hf
  replace hf := mx_sv_el hf; obtain ⟨u45, e_u45, hf⟩ := hf
  refine sx_cv hm dX13_workOne_194 rs_RX13_646 mt_X13_put [.int v43] [] (b := l0) (ci := 13) rfl rfl rfl c44 (Nat.le_of_ble_eq_true rfl) (Nat.le_of_ble_eq_true rfl) (by omega) (by omega) (f_X13_put_ok X (by omega) (by omega) nn l0 v43 u41 e_u45) ?_
  clear e_u45
  show mx_S X F L 475 197 [(0, .ref l0), (1, .int l1), (2, .int l2)] [] u45 0 0 (none, r, 0, 0)
  refine mx_S.pu (pc2 := 198) (lv2 := [(0, .ref l0), (1, .int l1), (2, .int l2)]) (st2 := [.ref l0]) hm dX13_workOne_197 rfl ?_
  refine mx_S.pu (pc2 := 199) (lv2 := [(0, .ref l0), (1, .int l1), (2, .int l2)]) (st2 := [.int l2, .ref l0]) hm dX13_workOne_198 rfl ?_
  replace hf := mx_gd_el hf; obtain ⟨c46, hf⟩ := hf
  replace hf := mx_sv_el hf; obtain ⟨u47, e_u47, hf⟩ := hf
  refine sx_cv hm dX13_workOne_199 rs_RX13_640 mt_X13_push [.int l2] [] (b := l0) (ci := 13) rfl rfl rfl c46 (Nat.le_of_ble_eq_true rfl) (Nat.le_of_ble_eq_true rfl) (by omega) (by omega) (f_X13_push_ok X (by omega) (by omega) nn l0 l2 u45 e_u47) ?_
  clear e_u47
  show mx_S X F L 475 202 [(0, .ref l0), (1, .int l1), (2, .int l2)] [] u47 0 0 (none, r, 0, 0)
  cases hf
  exact sx_ret hm dX13_workOne_202 rfl
set_option maxHeartbeats 4000000 in
set_option maxRecDepth 20000 in
theorem j_X13_workOne_147_ok (X : Nat × (Nat → Int32)) {F L d : Nat} (hF : 8 + (d + 1) ≤ F) (hL : 175 + (d + 1) * 26 ≤ L) (nn : Nat) {rc : tg_X13_work} (hrc : hg5_X13_work X d rc) (l0 : Nat) (l2 : Int32) (s0 : Int32) (s1 : Nat) (h : mx_H) {r : mx_H} (hf : j_X13_workOne_147 nn rc l0 l2 s0 s1 h = some r) : mx_S X F L 475 147 [(0, .ref l0), (2, .int l2)] [.int s0, .ref s1] h 0 0 (none, r, 0, 0) := by
  have hm : mx_mt 475 = some (yX13_workOne, cX13_workOne, 6, none) := mt_X13_workOne
  unfold j_X13_workOne_147 at hf
  replace hf := mx_gd_el hf; obtain ⟨c48, hf⟩ := hf
  replace hf := mx_sv_el hf; obtain ⟨u49, e_u49, hf⟩ := hf
  refine sx_cv hm dX13_workOne_147 rs_RX13_646 mt_X13_put [.int s0] [] (b := s1) (ci := 13) rfl rfl rfl c48 (Nat.le_of_ble_eq_true rfl) (Nat.le_of_ble_eq_true rfl) (by omega) (by omega) (f_X13_put_ok X (by omega) (by omega) nn s1 s0 h e_u49) ?_
  clear e_u49
  show mx_S X F L 475 150 [(0, .ref l0), (2, .int l2)] [] u49 0 0 (none, r, 0, 0)
  refine mx_S.pu (pc2 := 151) (lv2 := [(0, .ref l0), (2, .int l2)]) (st2 := [.ref l0]) hm dX13_workOne_150 rfl ?_
  refine mx_S.pu (pc2 := 152) (lv2 := [(0, .ref l0), (2, .int l2)]) (st2 := [.int l2, .ref l0]) hm dX13_workOne_151 rfl ?_
  replace hf := mx_gd_el hf; obtain ⟨c50, hf⟩ := hf
  replace hf := mx_sv_el hf; obtain ⟨u51, e_u51, hf⟩ := hf
  refine sx_cv hm dX13_workOne_152 rs_RX13_640 mt_X13_push [.int l2] [] (b := l0) (ci := 13) rfl rfl rfl c50 (Nat.le_of_ble_eq_true rfl) (Nat.le_of_ble_eq_true rfl) (by omega) (by omega) (f_X13_push_ok X (by omega) (by omega) nn l0 l2 u49 e_u51) ?_
  clear e_u51
  show mx_S X F L 475 155 [(0, .ref l0), (2, .int l2)] [] u51 0 0 (none, r, 0, 0)
  cases hf
  exact sx_ret hm dX13_workOne_155 rfl
set_option maxHeartbeats 4000000 in
set_option maxRecDepth 20000 in
theorem j_X13_workOne_115_ok (X : Nat × (Nat → Int32)) {F L d : Nat} (hF : 8 + (d + 1) ≤ F) (hL : 175 + (d + 1) * 26 ≤ L) (nn : Nat) {rc : tg_X13_work} (hrc : hg5_X13_work X d rc) (l0 : Nat) (l1 : Int32) (l2 : Int32) (h : mx_H) {r : mx_H} (hf : j_X13_workOne_115 nn rc l0 l1 l2 h = some r) : mx_S X F L 475 115 [(0, .ref l0), (1, .int l1), (2, .int l2)] [] h 0 0 (none, r, 0, 0) := by
  have hm : mx_mt 475 = some (yX13_workOne, cX13_workOne, 6, none) := mt_X13_workOne
  unfold j_X13_workOne_115 at hf
  refine mx_S.pu (pc2 := 116) (lv2 := [(0, .ref l0), (1, .int l1), (2, .int l2)]) (st2 := [.ref l0]) hm dX13_workOne_115 rfl ?_
  refine mx_S.pu (pc2 := 117) (lv2 := [(0, .ref l0), (1, .int l1), (2, .int l2)]) (st2 := [.ref l0, .ref l0]) hm dX13_workOne_116 rfl ?_
  replace hf := mx_sv_el hf; obtain ⟨v52, e_v52, hf⟩ := hf
  refine sx_get hm dX13_workOne_117 rs_RX13_28 (xgr_el e_v52) ?_
  clear e_v52
  refine mx_S.pu (pc2 := 121) (lv2 := [(0, .ref l0), (1, .int l1), (2, .int l2)]) (st2 := [.int l1, .ref v52, .ref l0]) hm dX13_workOne_120 rfl ?_
  replace hf := mx_sv_el hf; obtain ⟨v53, e_v53, hf⟩ := hf
  refine sx_ald hm dX13_workOne_121 e_v53 ?_
  clear e_v53
  refine sx_bi (v := 21) hm dX13_workOne_122 (by decide) ?_
  rcases mx_if_el hf with ⟨c57, hf⟩ | ⟨c57, hf⟩
  · refine sb_ic_ne hm dX13_workOne_124 (tgt := 131) rfl (fun _ => ?_) (fun z => absurd c57 z)
    refine mx_S.pu (pc2 := 132) (lv2 := [(0, .ref l0), (1, .int l1), (2, .int l2)]) (st2 := [.ref l0, .ref l0]) hm dX13_workOne_131 rfl ?_
    replace hf := mx_sv_el hf; obtain ⟨v54, e_v54, hf⟩ := hf
    refine sx_get hm dX13_workOne_132 rs_RX13_28 (xgr_el e_v54) ?_
    clear e_v54
    refine mx_S.pu (pc2 := 136) (lv2 := [(0, .ref l0), (1, .int l1), (2, .int l2)]) (st2 := [.int l1, .ref v54, .ref l0]) hm dX13_workOne_135 rfl ?_
    replace hf := mx_sv_el hf; obtain ⟨v55, e_v55, hf⟩ := hf
    refine sx_ald hm dX13_workOne_136 e_v55 ?_
    clear e_v55
    refine sx_bi (v := 22) hm dX13_workOne_137 (by decide) ?_
    rcases mx_if_el hf with ⟨c56, hf⟩ | ⟨c56, hf⟩
    · refine sb_ic_ne hm dX13_workOne_139 (tgt := 146) rfl (fun _ => ?_) (fun z => absurd c56 z)
      refine sx_ic (v := 1) hm dX13_workOne_146 (by decide) ?_
      refine mx_S.ext [(0, .ref l0), (2, .int l2)] (mx_sub_pos [0, 2] rfl (show ([0, 1, 2] : List Nat).Nodup by decide)) ?_
      exact j_X13_workOne_147_ok X hF hL nn hrc l0 l2 1 l0 h hf
    · refine sb_ic_ne hm dX13_workOne_139 (tgt := 146) rfl (fun z => absurd z c56) (fun _ => ?_)
      refine sx_ic (v := 3) hm dX13_workOne_142 (by decide) ?_
      refine mx_S.pu (pc2 := 147) (lv2 := [(0, .ref l0), (1, .int l1), (2, .int l2)]) (st2 := [.int 3, .ref l0]) hm dX13_workOne_143 rfl ?_
      refine mx_S.ext [(0, .ref l0), (2, .int l2)] (mx_sub_pos [0, 2] rfl (show ([0, 1, 2] : List Nat).Nodup by decide)) ?_
      exact j_X13_workOne_147_ok X hF hL nn hrc l0 l2 3 l0 h hf
  · refine sb_ic_ne hm dX13_workOne_124 (tgt := 131) rfl (fun z => absurd z c57) (fun _ => ?_)
    refine sx_ic (v := 4) hm dX13_workOne_127 (by decide) ?_
    refine mx_S.pu (pc2 := 147) (lv2 := [(0, .ref l0), (1, .int l1), (2, .int l2)]) (st2 := [.int 4, .ref l0]) hm dX13_workOne_128 rfl ?_
    refine mx_S.ext [(0, .ref l0), (2, .int l2)] (mx_sub_pos [0, 2] rfl (show ([0, 1, 2] : List Nat).Nodup by decide)) ?_
    exact j_X13_workOne_147_ok X hF hL nn hrc l0 l2 4 l0 h hf
set_option maxHeartbeats 4000000 in
set_option maxRecDepth 20000 in
theorem o_X13_workOne_ok (X : Nat × (Nat → Int32)) {F L d : Nat} (hF : 8 + (d + 1) ≤ F) (hL : 175 + (d + 1) * 26 ≤ L) (nn : Nat) {rc : tg_X13_work} (hrc : hg5_X13_work X d rc) (a0 : Nat) (a1 : Int32) (h : mx_H) {r : mx_H} (hf : o_X13_workOne nn rc a0 a1 h = some r) : mx_R X F L 475 [.ref a0, .int a1] h (none, r, 0, 0) := by
  have hm : mx_mt 475 = some (yX13_workOne, cX13_workOne, 6, none) := mt_X13_workOne
  show mx_S X F L 475 0 [(0, .ref a0), (1, .int a1)] [] h 0 0 (none, r, 0, 0)
  unfold o_X13_workOne at hf
  refine mx_S.pu (pc2 := 1) (lv2 := [(0, .ref a0), (1, .int a1)]) (st2 := [.ref a0]) hm dX13_workOne_0 rfl ?_
  replace hf := mx_sv_el hf; obtain ⟨v58, e_v58, hf⟩ := hf
  refine sx_get hm dX13_workOne_1 rs_RX13_49 (xgr_el e_v58) ?_
  clear e_v58
  refine mx_S.pu (pc2 := 5) (lv2 := [(0, .ref a0), (1, .int a1)]) (st2 := [.int a1, .ref v58]) hm dX13_workOne_4 rfl ?_
  replace hf := mx_sv_el hf; obtain ⟨v59, e_v59, hf⟩ := hf
  refine sx_ald hm dX13_workOne_5 e_v59 ?_
  clear e_v59
  refine mx_S.pu (pc2 := 7) (lv2 := [(2, .int v59), (0, .ref a0), (1, .int a1)]) (st2 := []) hm dX13_workOne_6 rfl ?_
  refine mx_S.pu (pc2 := 8) (lv2 := [(2, .int v59), (0, .ref a0), (1, .int a1)]) (st2 := [.ref a0]) hm dX13_workOne_7 rfl ?_
  replace hf := mx_sv_el hf; obtain ⟨v60, e_v60, hf⟩ := hf
  refine sx_get hm dX13_workOne_8 rs_RX13_28 (xgr_el e_v60) ?_
  clear e_v60
  refine mx_S.pu (pc2 := 12) (lv2 := [(2, .int v59), (0, .ref a0), (1, .int a1)]) (st2 := [.int a1, .ref v60]) hm dX13_workOne_11 rfl ?_
  replace hf := mx_sv_el hf; obtain ⟨v61, e_v61, hf⟩ := hf
  refine sx_ald hm dX13_workOne_12 e_v61 ?_
  clear e_v61
  rcases mx_if_el hf with ⟨n_0, hf⟩ | ⟨n_0, hf⟩
  · refine sx_tin hm dX13_workOne_13 (by rw [n_0]; decide) (by rw [n_0]; decide) (off := 91) (by rw [n_0]; rfl) (tgt := 104) rfl ?_
    clear n_0
    refine mx_S.pu (pc2 := 105) (lv2 := [(2, .int v59), (0, .ref a0), (1, .int a1)]) (st2 := [.ref a0]) hm dX13_workOne_104 rfl ?_
    refine mx_S.pu (pc2 := 106) (lv2 := [(2, .int v59), (0, .ref a0), (1, .int a1)]) (st2 := [.ref a0, .ref a0]) hm dX13_workOne_105 rfl ?_
    replace hf := mx_sv_el hf; obtain ⟨v99, e_v99, hf⟩ := hf
    refine sx_get hm dX13_workOne_106 rs_RX13_31 (xgr_el e_v99) ?_
    clear e_v99
    refine mx_S.pu (pc2 := 110) (lv2 := [(2, .int v59), (0, .ref a0), (1, .int a1)]) (st2 := [.int a1, .ref v99, .ref a0]) hm dX13_workOne_109 rfl ?_
    replace hf := mx_sv_el hf; obtain ⟨v100, e_v100, hf⟩ := hf
    refine sx_ald hm dX13_workOne_110 e_v100 ?_
    clear e_v100
    replace hf := mx_gd_el hf; obtain ⟨c101, hf⟩ := hf
    replace hf := mx_sv_el hf; obtain ⟨u102, e_u102, hf⟩ := hf
    refine sx_cv hm dX13_workOne_111 rs_RX13_709 mt_X13_number [.int v100] [] (b := a0) (ci := 13) rfl rfl rfl c101 (Nat.le_of_ble_eq_true rfl) (Nat.le_of_ble_eq_true rfl) (by omega) (by omega) (f_X13_number_ok X (by omega) (by omega) nn a0 v100 h e_u102) ?_
    clear e_u102
    show mx_S X F L 475 114 [(2, .int v59), (0, .ref a0), (1, .int a1)] [] u102 0 0 (none, r, 0, 0)
    cases hf
    exact sx_ret hm dX13_workOne_114 rfl
  · rcases mx_if_el hf with ⟨n_1, hf⟩ | ⟨n_1, hf⟩
    · refine sx_tin hm dX13_workOne_13 (by rw [n_1]; decide) (by rw [n_1]; decide) (off := 102) (by rw [n_1]; rfl) (tgt := 115) rfl ?_
      clear n_0 n_1
      refine mx_S.ext [(0, .ref a0), (1, .int a1), (2, .int v59)] (mx_sub_pos [1, 2, 0] rfl (show ([2, 0, 1] : List Nat).Nodup by decide)) ?_
      exact j_X13_workOne_115_ok X hF hL nn hrc a0 a1 v59 h hf
    · rcases mx_if_el hf with ⟨n_2, hf⟩ | ⟨n_2, hf⟩
      · refine sx_tin hm dX13_workOne_13 (by rw [n_2]; decide) (by rw [n_2]; decide) (off := 102) (by rw [n_2]; rfl) (tgt := 115) rfl ?_
        clear n_0 n_1 n_2
        refine mx_S.ext [(0, .ref a0), (1, .int a1), (2, .int v59)] (mx_sub_pos [1, 2, 0] rfl (show ([2, 0, 1] : List Nat).Nodup by decide)) ?_
        exact j_X13_workOne_115_ok X hF hL nn hrc a0 a1 v59 h hf
      · rcases mx_if_el hf with ⟨n_3, hf⟩ | ⟨n_3, hf⟩
        · refine sx_tin hm dX13_workOne_13 (by rw [n_3]; decide) (by rw [n_3]; decide) (off := 102) (by rw [n_3]; rfl) (tgt := 115) rfl ?_
          clear n_0 n_1 n_2 n_3
          refine mx_S.ext [(0, .ref a0), (1, .int a1), (2, .int v59)] (mx_sub_pos [1, 2, 0] rfl (show ([2, 0, 1] : List Nat).Nodup by decide)) ?_
          exact j_X13_workOne_115_ok X hF hL nn hrc a0 a1 v59 h hf
        · rcases mx_if_el hf with ⟨n_4, hf⟩ | ⟨n_4, hf⟩
          · refine sx_tin hm dX13_workOne_13 (by rw [n_4]; decide) (by rw [n_4]; decide) (off := 143) (by rw [n_4]; rfl) (tgt := 156) rfl ?_
            clear n_0 n_1 n_2 n_3 n_4
            refine mx_S.pu (pc2 := 157) (lv2 := [(2, .int v59), (0, .ref a0), (1, .int a1)]) (st2 := [.ref a0]) hm dX13_workOne_156 rfl ?_
            replace hf := mx_gd_el hf; obtain ⟨c103, hf⟩ := hf
            replace hf := mx_sv_el hf; obtain ⟨u104, e_u104, hf⟩ := hf
            refine sx_cv hm dX13_workOne_157 rs_RX13_697 mt_X13_self [] [] (b := a0) (ci := 13) rfl rfl rfl c103 (Nat.le_of_ble_eq_true rfl) (Nat.le_of_ble_eq_true rfl) (by omega) (by omega) (f_X13_self_ok X (by omega) (by omega) nn a0 h e_u104) ?_
            clear e_u104
            show mx_S X F L 475 160 [(2, .int v59), (0, .ref a0), (1, .int a1)] [] u104 0 0 (none, r, 0, 0)
            cases hf
            exact sx_ret hm dX13_workOne_160 rfl
          · rcases mx_if_el hf with ⟨n_5, hf⟩ | ⟨n_5, hf⟩
            · refine sx_tin hm dX13_workOne_13 (by rw [n_5]; decide) (by rw [n_5]; decide) (off := 148) (by rw [n_5]; rfl) (tgt := 161) rfl ?_
              clear n_0 n_1 n_2 n_3 n_4 n_5
              refine mx_S.pu (pc2 := 162) (lv2 := [(2, .int v59), (0, .ref a0), (1, .int a1)]) (st2 := [.ref a0]) hm dX13_workOne_161 rfl ?_
              replace hf := mx_sv_el hf; obtain ⟨v105, e_v105, hf⟩ := hf
              refine sx_get hm dX13_workOne_162 rs_RX13_52 (xgr_el e_v105) ?_
              clear e_v105
              refine mx_S.pu (pc2 := 166) (lv2 := [(2, .int v59), (0, .ref a0), (1, .int a1)]) (st2 := [.int a1, .ref v105]) hm dX13_workOne_165 rfl ?_
              replace hf := mx_sv_el hf; obtain ⟨v106, e_v106, hf⟩ := hf
              refine sx_ald hm dX13_workOne_166 e_v106 ?_
              clear e_v106
              refine sx_ic (v := (-1)) hm dX13_workOne_167 (by decide) ?_
              rcases mx_if_el hf with ⟨c121, hf⟩ | ⟨c121, hf⟩
              · refine sb_ic_ne hm dX13_workOne_168 (tgt := 203) rfl (fun _ => ?_) (fun z => absurd c121 z)
                refine mx_S.pu (pc2 := 204) (lv2 := [(2, .int v59), (0, .ref a0), (1, .int a1)]) (st2 := [.ref a0]) hm dX13_workOne_203 rfl ?_
                replace hf := mx_gd_el hf; obtain ⟨c107, hf⟩ := hf
                replace hf := mx_sv_el hf; obtain ⟨u108, e_u108, hf⟩ := hf
                refine sx_cv hm dX13_workOne_204 rs_RX13_697 mt_X13_self [] [] (b := a0) (ci := 13) rfl rfl rfl c107 (Nat.le_of_ble_eq_true rfl) (Nat.le_of_ble_eq_true rfl) (by omega) (by omega) (f_X13_self_ok X (by omega) (by omega) nn a0 h e_u108) ?_
                clear e_u108
                show mx_S X F L 475 207 [(2, .int v59), (0, .ref a0), (1, .int a1)] [] u108 0 0 (none, r, 0, 0)
                refine mx_S.pu (pc2 := 208) (lv2 := [(2, .int v59), (0, .ref a0), (1, .int a1)]) (st2 := [.ref a0]) hm dX13_workOne_207 rfl ?_
                refine sx_si (v := 180) hm dX13_workOne_208 (by decide) ?_
                replace hf := mx_gd_el hf; obtain ⟨c109, hf⟩ := hf
                replace hf := mx_sv_el hf; obtain ⟨u110, e_u110, hf⟩ := hf
                refine sx_cv hm dX13_workOne_211 rs_RX13_646 mt_X13_put [.int 180] [] (b := a0) (ci := 13) rfl rfl rfl c109 (Nat.le_of_ble_eq_true rfl) (Nat.le_of_ble_eq_true rfl) (by omega) (by omega) (f_X13_put_ok X (by omega) (by omega) nn a0 180 u108 e_u110) ?_
                clear e_u110
                show mx_S X F L 475 214 [(2, .int v59), (0, .ref a0), (1, .int a1)] [] u110 0 0 (none, r, 0, 0)
                refine mx_S.pu (pc2 := 215) (lv2 := [(2, .int v59), (0, .ref a0), (1, .int a1)]) (st2 := [.ref a0]) hm dX13_workOne_214 rfl ?_
                refine mx_S.pu (pc2 := 216) (lv2 := [(2, .int v59), (0, .ref a0), (1, .int a1)]) (st2 := [.ref a0, .ref a0]) hm dX13_workOne_215 rfl ?_
                refine mx_S.pu (pc2 := 217) (lv2 := [(2, .int v59), (0, .ref a0), (1, .int a1)]) (st2 := [.ref a0, .ref a0, .ref a0]) hm dX13_workOne_216 rfl ?_
                replace hf := mx_sv_el hf; obtain ⟨v111, e_v111, hf⟩ := hf
                refine sx_get hm dX13_workOne_217 rs_RX13_519 (xgi_el e_v111) ?_
                clear e_v111
                refine mx_S.pu (pc2 := 221) (lv2 := [(2, .int v59), (0, .ref a0), (1, .int a1)]) (st2 := [.ref a0, .int v111, .ref a0, .ref a0]) hm dX13_workOne_220 rfl ?_
                replace hf := mx_sv_el hf; obtain ⟨v112, e_v112, hf⟩ := hf
                refine sx_get hm dX13_workOne_221 rs_RX13_52 (xgr_el e_v112) ?_
                clear e_v112
                refine mx_S.pu (pc2 := 225) (lv2 := [(2, .int v59), (0, .ref a0), (1, .int a1)]) (st2 := [.int a1, .ref v112, .int v111, .ref a0, .ref a0]) hm dX13_workOne_224 rfl ?_
                replace hf := mx_sv_el hf; obtain ⟨v113, e_v113, hf⟩ := hf
                refine sx_ald hm dX13_workOne_225 e_v113 ?_
                clear e_v113
                replace hf := mx_gd_el hf; obtain ⟨c114, hf⟩ := hf
                replace hf := mx_sv_el hf; obtain ⟨u115, e_u115, hf⟩ := hf
                refine sx_cv hm dX13_workOne_226 rs_RX13_700 mt_X13_memberConstant [.int v111, .int v113] [.ref a0] (b := a0) (ci := 13) rfl rfl rfl c114 (Nat.le_of_ble_eq_true rfl) (Nat.le_of_ble_eq_true rfl) (by omega) (by omega) (f_X13_memberConstant_ok X (by omega) (by omega) nn a0 v111 v113 u110 e_u115) ?_
                clear e_u115
                show mx_S X F L 475 229 [(2, .int v59), (0, .ref a0), (1, .int a1)] [.int u115.1, .ref a0] u115.2 0 0 (none, r, 0, 0)
                replace hf := mx_gd_el hf; obtain ⟨c116, hf⟩ := hf
                replace hf := mx_sv_el hf; obtain ⟨u117, e_u117, hf⟩ := hf
                refine sx_cv hm dX13_workOne_229 rs_RX13_646 mt_X13_put [.int u115.1] [] (b := a0) (ci := 13) rfl rfl rfl c116 (Nat.le_of_ble_eq_true rfl) (Nat.le_of_ble_eq_true rfl) (by omega) (by omega) (f_X13_put_ok X (by omega) (by omega) nn a0 u115.1 u115.2 e_u117) ?_
                clear e_u117
                show mx_S X F L 475 232 [(2, .int v59), (0, .ref a0), (1, .int a1)] [] u117 0 0 (none, r, 0, 0)
                refine mx_S.pu (pc2 := 233) (lv2 := [(2, .int v59), (0, .ref a0), (1, .int a1)]) (st2 := [.ref a0]) hm dX13_workOne_232 rfl ?_
                refine sx_ic (v := 1) hm dX13_workOne_233 (by decide) ?_
                refine mx_S.pu (pc2 := 235) (lv2 := [(2, .int v59), (0, .ref a0), (1, .int a1)]) (st2 := [.int v59, .int 1, .ref a0]) hm dX13_workOne_234 rfl ?_
                replace hf := mx_gd_el hf; obtain ⟨c118, hf⟩ := hf
                replace hf := mx_sv_el hf; obtain ⟨u119, e_u119, hf⟩ := hf
                refine sx_cv hm dX13_workOne_235 rs_RX13_712 mt_X13_turn [.int 1, .int v59] [] (b := a0) (ci := 13) rfl rfl rfl c118 (Nat.le_of_ble_eq_true rfl) (Nat.le_of_ble_eq_true rfl) (by omega) (by omega) (f_X13_turn_ok X (by omega) (by omega) nn a0 1 v59 u117 e_u119) ?_
                clear e_u119
                show mx_S X F L 475 238 [(2, .int v59), (0, .ref a0), (1, .int a1)] [] u119 0 0 (none, r, 0, 0)
                cases hf
                exact sx_ret hm dX13_workOne_238 rfl
              · refine sb_ic_ne hm dX13_workOne_168 (tgt := 203) rfl (fun z => absurd z c121) (fun _ => ?_)
                refine mx_S.pu (pc2 := 172) (lv2 := [(2, .int v59), (0, .ref a0), (1, .int a1)]) (st2 := [.ref a0]) hm dX13_workOne_171 rfl ?_
                refine mx_S.pu (pc2 := 173) (lv2 := [(2, .int v59), (0, .ref a0), (1, .int a1)]) (st2 := [.int v59, .ref a0]) hm dX13_workOne_172 rfl ?_
                refine sx_ic (v := 1) hm dX13_workOne_173 (by decide) ?_
                rcases mx_if_el hf with ⟨c120, hf⟩ | ⟨c120, hf⟩
                · refine sb_ic_gt hm dX13_workOne_174 (tgt := 182) rfl (fun _ => ?_) (fun z => absurd c120 z)
                  refine sx_bi (v := 25) hm dX13_workOne_182 (by decide) ?_
                  refine mx_S.ext [(0, .ref a0), (1, .int a1), (2, .int v59)] (mx_sub_pos [1, 2, 0] rfl (show ([2, 0, 1] : List Nat).Nodup by decide)) ?_
                  exact j_X13_workOne_184_ok X hF hL nn hrc a0 a1 v59 25 a0 h hf
                · refine sb_ic_gt hm dX13_workOne_174 (tgt := 182) rfl (fun z => absurd z c120) (fun _ => ?_)
                  refine sx_bi (v := 21) hm dX13_workOne_177 (by decide) ?_
                  refine mx_S.pu (pc2 := 184) (lv2 := [(2, .int v59), (0, .ref a0), (1, .int a1)]) (st2 := [.int 21, .ref a0]) hm dX13_workOne_179 rfl ?_
                  refine mx_S.ext [(0, .ref a0), (1, .int a1), (2, .int v59)] (mx_sub_pos [1, 2, 0] rfl (show ([2, 0, 1] : List Nat).Nodup by decide)) ?_
                  exact j_X13_workOne_184_ok X hF hL nn hrc a0 a1 v59 21 a0 h hf
            · rcases mx_if_el hf with ⟨n_6, hf⟩ | ⟨n_6, hf⟩
              · refine sx_tin hm dX13_workOne_13 (by rw [n_6]; decide) (by rw [n_6]; decide) (off := 226) (by rw [n_6]; rfl) (tgt := 239) rfl ?_
                clear n_0 n_1 n_2 n_3 n_4 n_5 n_6
                refine mx_S.pu (pc2 := 240) (lv2 := [(2, .int v59), (0, .ref a0), (1, .int a1)]) (st2 := [.ref a0]) hm dX13_workOne_239 rfl ?_
                replace hf := mx_sv_el hf; obtain ⟨v122, e_v122, hf⟩ := hf
                refine sx_get hm dX13_workOne_240 rs_RX13_74 (xgr_el e_v122) ?_
                clear e_v122
                refine mx_S.pu (pc2 := 244) (lv2 := [(2, .int v59), (0, .ref a0), (1, .int a1)]) (st2 := [.ref a0, .ref v122]) hm dX13_workOne_243 rfl ?_
                replace hf := mx_sv_el hf; obtain ⟨v123, e_v123, hf⟩ := hf
                refine sx_get hm dX13_workOne_244 rs_RX13_52 (xgr_el e_v123) ?_
                clear e_v123
                refine mx_S.pu (pc2 := 248) (lv2 := [(2, .int v59), (0, .ref a0), (1, .int a1)]) (st2 := [.int a1, .ref v123, .ref v122]) hm dX13_workOne_247 rfl ?_
                replace hf := mx_sv_el hf; obtain ⟨v124, e_v124, hf⟩ := hf
                refine sx_ald hm dX13_workOne_248 e_v124 ?_
                clear e_v124
                replace hf := mx_sv_el hf; obtain ⟨v125, e_v125, hf⟩ := hf
                refine sx_ald hm dX13_workOne_249 e_v125 ?_
                clear e_v125
                refine sx_ic (v := 2) hm dX13_workOne_250 (by decide) ?_
                rcases mx_if_el hf with ⟨c126, hf⟩ | ⟨c126, hf⟩
                · refine sb_ic_ne hm dX13_workOne_251 (tgt := 258) rfl (fun _ => ?_) (fun z => absurd c126 z)
                  refine sx_ic (v := 0) hm dX13_workOne_258 (by decide) ?_
                  refine mx_S.ext [(0, .ref a0), (1, .int a1)] (mx_sub_pos [1, 2] rfl (show ([2, 0, 1] : List Nat).Nodup by decide)) ?_
                  exact j_X13_workOne_259_ok X hF hL nn hrc a0 a1 0 h hf
                · refine sb_ic_ne hm dX13_workOne_251 (tgt := 258) rfl (fun z => absurd z c126) (fun _ => ?_)
                  refine sx_ic (v := 1) hm dX13_workOne_254 (by decide) ?_
                  refine mx_S.pu (pc2 := 259) (lv2 := [(2, .int v59), (0, .ref a0), (1, .int a1)]) (st2 := [.int 1]) hm dX13_workOne_255 rfl ?_
                  refine mx_S.ext [(0, .ref a0), (1, .int a1)] (mx_sub_pos [1, 2] rfl (show ([2, 0, 1] : List Nat).Nodup by decide)) ?_
                  exact j_X13_workOne_259_ok X hF hL nn hrc a0 a1 1 h hf
              · rcases mx_if_el hf with ⟨n_7, hf⟩ | ⟨n_7, hf⟩
                · refine sx_tin hm dX13_workOne_13 (by rw [n_7]; decide) (by rw [n_7]; decide) (off := 322) (by rw [n_7]; rfl) (tgt := 335) rfl ?_
                  clear n_0 n_1 n_2 n_3 n_4 n_5 n_6 n_7
                  refine mx_S.pu (pc2 := 336) (lv2 := [(2, .int v59), (0, .ref a0), (1, .int a1)]) (st2 := [.ref a0]) hm dX13_workOne_335 rfl ?_
                  refine sx_si (v := 187) hm dX13_workOne_336 (by decide) ?_
                  replace hf := mx_gd_el hf; obtain ⟨c127, hf⟩ := hf
                  replace hf := mx_sv_el hf; obtain ⟨u128, e_u128, hf⟩ := hf
                  refine sx_cv hm dX13_workOne_339 rs_RX13_646 mt_X13_put [.int 187] [] (b := a0) (ci := 13) rfl rfl rfl c127 (Nat.le_of_ble_eq_true rfl) (Nat.le_of_ble_eq_true rfl) (by omega) (by omega) (f_X13_put_ok X (by omega) (by omega) nn a0 187 h e_u128) ?_
                  clear e_u128
                  show mx_S X F L 475 342 [(2, .int v59), (0, .ref a0), (1, .int a1)] [] u128 0 0 (none, r, 0, 0)
                  refine mx_S.pu (pc2 := 343) (lv2 := [(2, .int v59), (0, .ref a0), (1, .int a1)]) (st2 := [.ref a0]) hm dX13_workOne_342 rfl ?_
                  refine mx_S.pu (pc2 := 344) (lv2 := [(2, .int v59), (0, .ref a0), (1, .int a1)]) (st2 := [.ref a0, .ref a0]) hm dX13_workOne_343 rfl ?_
                  refine mx_S.pu (pc2 := 345) (lv2 := [(2, .int v59), (0, .ref a0), (1, .int a1)]) (st2 := [.int v59, .ref a0, .ref a0]) hm dX13_workOne_344 rfl ?_
                  replace hf := mx_gd_el hf; obtain ⟨c129, hf⟩ := hf
                  replace hf := mx_sv_el hf; obtain ⟨u130, e_u130, hf⟩ := hf
                  refine sx_cv hm dX13_workOne_345 rs_RX13_618 mt_X13_classConstant [.int v59] [.ref a0] (b := a0) (ci := 13) rfl rfl rfl c129 (Nat.le_of_ble_eq_true rfl) (Nat.le_of_ble_eq_true rfl) (by omega) (by omega) (f_X13_classConstant_ok X (by omega) (by omega) nn a0 v59 u128 e_u130) ?_
                  clear e_u130
                  show mx_S X F L 475 348 [(2, .int v59), (0, .ref a0), (1, .int a1)] [.int u130.1, .ref a0] u130.2 0 0 (none, r, 0, 0)
                  replace hf := mx_gd_el hf; obtain ⟨c131, hf⟩ := hf
                  replace hf := mx_sv_el hf; obtain ⟨u132, e_u132, hf⟩ := hf
                  refine sx_cv hm dX13_workOne_348 rs_RX13_646 mt_X13_put [.int u130.1] [] (b := a0) (ci := 13) rfl rfl rfl c131 (Nat.le_of_ble_eq_true rfl) (Nat.le_of_ble_eq_true rfl) (by omega) (by omega) (f_X13_put_ok X (by omega) (by omega) nn a0 u130.1 u130.2 e_u132) ?_
                  clear e_u132
                  show mx_S X F L 475 351 [(2, .int v59), (0, .ref a0), (1, .int a1)] [] u132 0 0 (none, r, 0, 0)
                  refine mx_S.pu (pc2 := 352) (lv2 := [(2, .int v59), (0, .ref a0), (1, .int a1)]) (st2 := [.ref a0]) hm dX13_workOne_351 rfl ?_
                  refine mx_S.pu (pc2 := 353) (lv2 := [(2, .int v59), (0, .ref a0), (1, .int a1)]) (st2 := [.int v59, .ref a0]) hm dX13_workOne_352 rfl ?_
                  replace hf := mx_gd_el hf; obtain ⟨c133, hf⟩ := hf
                  replace hf := mx_sv_el hf; obtain ⟨u134, e_u134, hf⟩ := hf
                  refine sx_cv hm dX13_workOne_353 rs_RX13_640 mt_X13_push [.int v59] [] (b := a0) (ci := 13) rfl rfl rfl c133 (Nat.le_of_ble_eq_true rfl) (Nat.le_of_ble_eq_true rfl) (by omega) (by omega) (f_X13_push_ok X (by omega) (by omega) nn a0 v59 u132 e_u134) ?_
                  clear e_u134
                  show mx_S X F L 475 356 [(2, .int v59), (0, .ref a0), (1, .int a1)] [] u134 0 0 (none, r, 0, 0)
                  cases hf
                  exact sx_ret hm dX13_workOne_356 rfl
                · rcases mx_if_el hf with ⟨n_8, hf⟩ | ⟨n_8, hf⟩
                  · refine sx_tin hm dX13_workOne_13 (by rw [n_8]; decide) (by rw [n_8]; decide) (off := 344) (by rw [n_8]; rfl) (tgt := 357) rfl ?_
                    clear n_0 n_1 n_2 n_3 n_4 n_5 n_6 n_7 n_8
                    refine mx_S.pu (pc2 := 358) (lv2 := [(2, .int v59), (0, .ref a0), (1, .int a1)]) (st2 := [.ref a0]) hm dX13_workOne_357 rfl ?_
                    refine mx_S.pu (pc2 := 359) (lv2 := [(2, .int v59), (0, .ref a0), (1, .int a1)]) (st2 := [.ref a0, .ref a0]) hm dX13_workOne_358 rfl ?_
                    replace hf := mx_sv_el hf; obtain ⟨v135, e_v135, hf⟩ := hf
                    refine sx_get hm dX13_workOne_359 rs_RX13_37 (xgr_el e_v135) ?_
                    clear e_v135
                    refine mx_S.pu (pc2 := 363) (lv2 := [(2, .int v59), (0, .ref a0), (1, .int a1)]) (st2 := [.int a1, .ref v135, .ref a0]) hm dX13_workOne_362 rfl ?_
                    replace hf := mx_sv_el hf; obtain ⟨v136, e_v136, hf⟩ := hf
                    refine sx_ald hm dX13_workOne_363 e_v136 ?_
                    clear e_v136
                    replace hf := mx_gd_el hf; obtain ⟨c137, hf⟩ := hf
                    replace hf := mx_sv_el hf; obtain ⟨u138, e_u138, hf⟩ := hf
                    refine sx_cv hm dX13_workOne_364 rs_RX13_667 mt_X13_work [.int v136] [] (b := a0) (ci := 13) rfl rfl rfl c137 (Nat.le_of_ble_eq_true rfl) (Nat.le_of_ble_eq_true rfl) (by omega) (by omega) (hrc.1 (by omega) (by omega) a0 v136 h e_u138) ?_
                    clear e_u138
                    show mx_S X F L 475 367 [(2, .int v59), (0, .ref a0), (1, .int a1)] [] u138 0 0 (none, r, 0, 0)
                    refine mx_S.pu (pc2 := 368) (lv2 := [(2, .int v59), (0, .ref a0), (1, .int a1)]) (st2 := [.ref a0]) hm dX13_workOne_367 rfl ?_
                    refine sx_si (v := 188) hm dX13_workOne_368 (by decide) ?_
                    replace hf := mx_gd_el hf; obtain ⟨c139, hf⟩ := hf
                    replace hf := mx_sv_el hf; obtain ⟨u140, e_u140, hf⟩ := hf
                    refine sx_cv hm dX13_workOne_371 rs_RX13_646 mt_X13_put [.int 188] [] (b := a0) (ci := 13) rfl rfl rfl c139 (Nat.le_of_ble_eq_true rfl) (Nat.le_of_ble_eq_true rfl) (by omega) (by omega) (f_X13_put_ok X (by omega) (by omega) nn a0 188 u138 e_u140) ?_
                    clear e_u140
                    show mx_S X F L 475 374 [(2, .int v59), (0, .ref a0), (1, .int a1)] [] u140 0 0 (none, r, 0, 0)
                    refine mx_S.pu (pc2 := 375) (lv2 := [(2, .int v59), (0, .ref a0), (1, .int a1)]) (st2 := [.ref a0]) hm dX13_workOne_374 rfl ?_
                    refine sx_bi (v := 10) hm dX13_workOne_375 (by decide) ?_
                    replace hf := mx_gd_el hf; obtain ⟨c141, hf⟩ := hf
                    replace hf := mx_sv_el hf; obtain ⟨u142, e_u142, hf⟩ := hf
                    refine sx_cv hm dX13_workOne_377 rs_RX13_646 mt_X13_put [.int 10] [] (b := a0) (ci := 13) rfl rfl rfl c141 (Nat.le_of_ble_eq_true rfl) (Nat.le_of_ble_eq_true rfl) (by omega) (by omega) (f_X13_put_ok X (by omega) (by omega) nn a0 10 u140 e_u142) ?_
                    clear e_u142
                    show mx_S X F L 475 380 [(2, .int v59), (0, .ref a0), (1, .int a1)] [] u142 0 0 (none, r, 0, 0)
                    refine mx_S.pu (pc2 := 381) (lv2 := [(2, .int v59), (0, .ref a0), (1, .int a1)]) (st2 := [.ref a0]) hm dX13_workOne_380 rfl ?_
                    refine sx_ic (v := 1) hm dX13_workOne_381 (by decide) ?_
                    refine mx_S.pu (pc2 := 383) (lv2 := [(2, .int v59), (0, .ref a0), (1, .int a1)]) (st2 := [.int v59, .int 1, .ref a0]) hm dX13_workOne_382 rfl ?_
                    replace hf := mx_gd_el hf; obtain ⟨c143, hf⟩ := hf
                    replace hf := mx_sv_el hf; obtain ⟨u144, e_u144, hf⟩ := hf
                    refine sx_cv hm dX13_workOne_383 rs_RX13_712 mt_X13_turn [.int 1, .int v59] [] (b := a0) (ci := 13) rfl rfl rfl c143 (Nat.le_of_ble_eq_true rfl) (Nat.le_of_ble_eq_true rfl) (by omega) (by omega) (f_X13_turn_ok X (by omega) (by omega) nn a0 1 v59 u142 e_u144) ?_
                    clear e_u144
                    show mx_S X F L 475 386 [(2, .int v59), (0, .ref a0), (1, .int a1)] [] u144 0 0 (none, r, 0, 0)
                    cases hf
                    exact sx_ret hm dX13_workOne_386 rfl
                  · rcases mx_if_el hf with ⟨n_9, hf⟩ | ⟨n_9, hf⟩
                    · refine sx_tin hm dX13_workOne_13 (by rw [n_9]; decide) (by rw [n_9]; decide) (off := 374) (by rw [n_9]; rfl) (tgt := 387) rfl ?_
                      clear n_0 n_1 n_2 n_3 n_4 n_5 n_6 n_7 n_8 n_9
                      refine mx_S.pu (pc2 := 388) (lv2 := [(2, .int v59), (0, .ref a0), (1, .int a1)]) (st2 := [.ref a0]) hm dX13_workOne_387 rfl ?_
                      refine mx_S.pu (pc2 := 389) (lv2 := [(2, .int v59), (0, .ref a0), (1, .int a1)]) (st2 := [.ref a0, .ref a0]) hm dX13_workOne_388 rfl ?_
                      replace hf := mx_sv_el hf; obtain ⟨v145, e_v145, hf⟩ := hf
                      refine sx_get hm dX13_workOne_389 rs_RX13_37 (xgr_el e_v145) ?_
                      clear e_v145
                      refine mx_S.pu (pc2 := 393) (lv2 := [(2, .int v59), (0, .ref a0), (1, .int a1)]) (st2 := [.int a1, .ref v145, .ref a0]) hm dX13_workOne_392 rfl ?_
                      replace hf := mx_sv_el hf; obtain ⟨v146, e_v146, hf⟩ := hf
                      refine sx_ald hm dX13_workOne_393 e_v146 ?_
                      clear e_v146
                      replace hf := mx_gd_el hf; obtain ⟨c147, hf⟩ := hf
                      replace hf := mx_sv_el hf; obtain ⟨u148, e_u148, hf⟩ := hf
                      refine sx_cv hm dX13_workOne_394 rs_RX13_667 mt_X13_work [.int v146] [] (b := a0) (ci := 13) rfl rfl rfl c147 (Nat.le_of_ble_eq_true rfl) (Nat.le_of_ble_eq_true rfl) (by omega) (by omega) (hrc.1 (by omega) (by omega) a0 v146 h e_u148) ?_
                      clear e_u148
                      show mx_S X F L 475 397 [(2, .int v59), (0, .ref a0), (1, .int a1)] [] u148 0 0 (none, r, 0, 0)
                      refine mx_S.pu (pc2 := 398) (lv2 := [(2, .int v59), (0, .ref a0), (1, .int a1)]) (st2 := [.ref a0]) hm dX13_workOne_397 rfl ?_
                      refine sx_si (v := 189) hm dX13_workOne_398 (by decide) ?_
                      replace hf := mx_gd_el hf; obtain ⟨c149, hf⟩ := hf
                      replace hf := mx_sv_el hf; obtain ⟨u150, e_u150, hf⟩ := hf
                      refine sx_cv hm dX13_workOne_401 rs_RX13_646 mt_X13_put [.int 189] [] (b := a0) (ci := 13) rfl rfl rfl c149 (Nat.le_of_ble_eq_true rfl) (Nat.le_of_ble_eq_true rfl) (by omega) (by omega) (f_X13_put_ok X (by omega) (by omega) nn a0 189 u148 e_u150) ?_
                      clear e_u150
                      show mx_S X F L 475 404 [(2, .int v59), (0, .ref a0), (1, .int a1)] [] u150 0 0 (none, r, 0, 0)
                      refine mx_S.pu (pc2 := 405) (lv2 := [(2, .int v59), (0, .ref a0), (1, .int a1)]) (st2 := [.ref a0]) hm dX13_workOne_404 rfl ?_
                      refine mx_S.pu (pc2 := 406) (lv2 := [(2, .int v59), (0, .ref a0), (1, .int a1)]) (st2 := [.ref a0, .ref a0]) hm dX13_workOne_405 rfl ?_
                      refine mx_S.pu (pc2 := 407) (lv2 := [(2, .int v59), (0, .ref a0), (1, .int a1)]) (st2 := [.int v59, .ref a0, .ref a0]) hm dX13_workOne_406 rfl ?_
                      refine sx_ic (v := 1) hm dX13_workOne_407 (by decide) ?_
                      replace hf := xl_el hf; obtain ⟨v151, e_v151, hf⟩ := hf
                      refine mx_S.pu (pc2 := 409) (lv2 := [(2, .int v59), (0, .ref a0), (1, .int a1)]) (st2 := [.int v151, .ref a0, .ref a0]) hm dX13_workOne_408 (by rw [← e_v151]; rfl) ?_
                      clear e_v151
                      replace hf := mx_gd_el hf; obtain ⟨c152, hf⟩ := hf
                      replace hf := mx_sv_el hf; obtain ⟨u153, e_u153, hf⟩ := hf
                      refine sx_cv hm dX13_workOne_409 rs_RX13_618 mt_X13_classConstant [.int v151] [.ref a0] (b := a0) (ci := 13) rfl rfl rfl c152 (Nat.le_of_ble_eq_true rfl) (Nat.le_of_ble_eq_true rfl) (by omega) (by omega) (f_X13_classConstant_ok X (by omega) (by omega) nn a0 v151 u150 e_u153) ?_
                      clear e_u153
                      show mx_S X F L 475 412 [(2, .int v59), (0, .ref a0), (1, .int a1)] [.int u153.1, .ref a0] u153.2 0 0 (none, r, 0, 0)
                      replace hf := mx_gd_el hf; obtain ⟨c154, hf⟩ := hf
                      replace hf := mx_sv_el hf; obtain ⟨u155, e_u155, hf⟩ := hf
                      refine sx_cv hm dX13_workOne_412 rs_RX13_646 mt_X13_put [.int u153.1] [] (b := a0) (ci := 13) rfl rfl rfl c154 (Nat.le_of_ble_eq_true rfl) (Nat.le_of_ble_eq_true rfl) (by omega) (by omega) (f_X13_put_ok X (by omega) (by omega) nn a0 u153.1 u153.2 e_u155) ?_
                      clear e_u155
                      show mx_S X F L 475 415 [(2, .int v59), (0, .ref a0), (1, .int a1)] [] u155 0 0 (none, r, 0, 0)
                      refine mx_S.pu (pc2 := 416) (lv2 := [(2, .int v59), (0, .ref a0), (1, .int a1)]) (st2 := [.ref a0]) hm dX13_workOne_415 rfl ?_
                      refine sx_ic (v := 1) hm dX13_workOne_416 (by decide) ?_
                      refine mx_S.pu (pc2 := 418) (lv2 := [(2, .int v59), (0, .ref a0), (1, .int a1)]) (st2 := [.int v59, .int 1, .ref a0]) hm dX13_workOne_417 rfl ?_
                      replace hf := mx_gd_el hf; obtain ⟨c156, hf⟩ := hf
                      replace hf := mx_sv_el hf; obtain ⟨u157, e_u157, hf⟩ := hf
                      refine sx_cv hm dX13_workOne_418 rs_RX13_712 mt_X13_turn [.int 1, .int v59] [] (b := a0) (ci := 13) rfl rfl rfl c156 (Nat.le_of_ble_eq_true rfl) (Nat.le_of_ble_eq_true rfl) (by omega) (by omega) (f_X13_turn_ok X (by omega) (by omega) nn a0 1 v59 u155 e_u157) ?_
                      clear e_u157
                      show mx_S X F L 475 421 [(2, .int v59), (0, .ref a0), (1, .int a1)] [] u157 0 0 (none, r, 0, 0)
                      cases hf
                      exact sx_ret hm dX13_workOne_421 rfl
                    · rcases mx_if_el hf with ⟨n_10, hf⟩ | ⟨n_10, hf⟩
                      · refine sx_tin hm dX13_workOne_13 (by rw [n_10]; decide) (by rw [n_10]; decide) (off := 409) (by rw [n_10]; rfl) (tgt := 422) rfl ?_
                        clear n_0 n_1 n_2 n_3 n_4 n_5 n_6 n_7 n_8 n_9 n_10
                        refine mx_S.pu (pc2 := 423) (lv2 := [(2, .int v59), (0, .ref a0), (1, .int a1)]) (st2 := [.ref a0]) hm dX13_workOne_422 rfl ?_
                        replace hf := mx_sv_el hf; obtain ⟨v158, e_v158, hf⟩ := hf
                        refine sx_get hm dX13_workOne_423 rs_RX13_52 (xgr_el e_v158) ?_
                        clear e_v158
                        refine mx_S.pu (pc2 := 427) (lv2 := [(2, .int v59), (0, .ref a0), (1, .int a1)]) (st2 := [.int a1, .ref v158]) hm dX13_workOne_426 rfl ?_
                        replace hf := mx_sv_el hf; obtain ⟨v159, e_v159, hf⟩ := hf
                        refine sx_ald hm dX13_workOne_427 e_v159 ?_
                        clear e_v159
                        refine sx_ic (v := (-1)) hm dX13_workOne_428 (by decide) ?_
                        rcases mx_if_el hf with ⟨c176, hf⟩ | ⟨c176, hf⟩
                        · refine sb_ic_ne hm dX13_workOne_429 (tgt := 442) rfl (fun _ => ?_) (fun z => absurd c176 z)
                          refine mx_S.pu (pc2 := 443) (lv2 := [(2, .int v59), (0, .ref a0), (1, .int a1)]) (st2 := [.ref a0]) hm dX13_workOne_442 rfl ?_
                          refine sx_si (v := 180) hm dX13_workOne_443 (by decide) ?_
                          replace hf := mx_gd_el hf; obtain ⟨c160, hf⟩ := hf
                          replace hf := mx_sv_el hf; obtain ⟨u161, e_u161, hf⟩ := hf
                          refine sx_cv hm dX13_workOne_446 rs_RX13_646 mt_X13_put [.int 180] [] (b := a0) (ci := 13) rfl rfl rfl c160 (Nat.le_of_ble_eq_true rfl) (Nat.le_of_ble_eq_true rfl) (by omega) (by omega) (f_X13_put_ok X (by omega) (by omega) nn a0 180 h e_u161) ?_
                          clear e_u161
                          show mx_S X F L 475 449 [(2, .int v59), (0, .ref a0), (1, .int a1)] [] u161 0 0 (none, r, 0, 0)
                          refine mx_S.pu (pc2 := 450) (lv2 := [(2, .int v59), (0, .ref a0), (1, .int a1)]) (st2 := [.ref a0]) hm dX13_workOne_449 rfl ?_
                          refine mx_S.pu (pc2 := 451) (lv2 := [(2, .int v59), (0, .ref a0), (1, .int a1)]) (st2 := [.ref a0, .ref a0]) hm dX13_workOne_450 rfl ?_
                          refine mx_S.pu (pc2 := 452) (lv2 := [(2, .int v59), (0, .ref a0), (1, .int a1)]) (st2 := [.ref a0, .ref a0, .ref a0]) hm dX13_workOne_451 rfl ?_
                          replace hf := mx_sv_el hf; obtain ⟨v162, e_v162, hf⟩ := hf
                          refine sx_get hm dX13_workOne_452 rs_RX13_49 (xgr_el e_v162) ?_
                          clear e_v162
                          refine mx_S.pu (pc2 := 456) (lv2 := [(2, .int v59), (0, .ref a0), (1, .int a1)]) (st2 := [.ref a0, .ref v162, .ref a0, .ref a0]) hm dX13_workOne_455 rfl ?_
                          replace hf := mx_sv_el hf; obtain ⟨v163, e_v163, hf⟩ := hf
                          refine sx_get hm dX13_workOne_456 rs_RX13_37 (xgr_el e_v163) ?_
                          clear e_v163
                          refine mx_S.pu (pc2 := 460) (lv2 := [(2, .int v59), (0, .ref a0), (1, .int a1)]) (st2 := [.int a1, .ref v163, .ref v162, .ref a0, .ref a0]) hm dX13_workOne_459 rfl ?_
                          replace hf := mx_sv_el hf; obtain ⟨v164, e_v164, hf⟩ := hf
                          refine sx_ald hm dX13_workOne_460 e_v164 ?_
                          clear e_v164
                          replace hf := mx_sv_el hf; obtain ⟨v165, e_v165, hf⟩ := hf
                          refine sx_ald hm dX13_workOne_461 e_v165 ?_
                          clear e_v165
                          refine sx_bi (v := 8) hm dX13_workOne_462 (by decide) ?_
                          replace hf := xl_el hf; obtain ⟨v166, e_v166, hf⟩ := hf
                          refine mx_S.pu (pc2 := 465) (lv2 := [(2, .int v59), (0, .ref a0), (1, .int a1)]) (st2 := [.int v166, .ref a0, .ref a0]) hm dX13_workOne_464 (by rw [← e_v166]; rfl) ?_
                          clear e_v166
                          refine sx_ic (v := 2) hm dX13_workOne_465 (by decide) ?_
                          replace hf := xl_el hf; obtain ⟨v167, e_v167, hf⟩ := hf
                          refine sx_idiv (v := v167) hm dX13_workOne_466 (by decide) e_v167 ?_
                          clear e_v167
                          refine mx_S.pu (pc2 := 468) (lv2 := [(2, .int v59), (0, .ref a0), (1, .int a1)]) (st2 := [.ref a0, .int v167, .ref a0, .ref a0]) hm dX13_workOne_467 rfl ?_
                          replace hf := mx_sv_el hf; obtain ⟨v168, e_v168, hf⟩ := hf
                          refine sx_get hm dX13_workOne_468 rs_RX13_52 (xgr_el e_v168) ?_
                          clear e_v168
                          refine mx_S.pu (pc2 := 472) (lv2 := [(2, .int v59), (0, .ref a0), (1, .int a1)]) (st2 := [.int a1, .ref v168, .int v167, .ref a0, .ref a0]) hm dX13_workOne_471 rfl ?_
                          replace hf := mx_sv_el hf; obtain ⟨v169, e_v169, hf⟩ := hf
                          refine sx_ald hm dX13_workOne_472 e_v169 ?_
                          clear e_v169
                          replace hf := mx_gd_el hf; obtain ⟨c170, hf⟩ := hf
                          replace hf := mx_sv_el hf; obtain ⟨u171, e_u171, hf⟩ := hf
                          refine sx_cv hm dX13_workOne_473 rs_RX13_700 mt_X13_memberConstant [.int v167, .int v169] [.ref a0] (b := a0) (ci := 13) rfl rfl rfl c170 (Nat.le_of_ble_eq_true rfl) (Nat.le_of_ble_eq_true rfl) (by omega) (by omega) (f_X13_memberConstant_ok X (by omega) (by omega) nn a0 v167 v169 u161 e_u171) ?_
                          clear e_u171
                          show mx_S X F L 475 476 [(2, .int v59), (0, .ref a0), (1, .int a1)] [.int u171.1, .ref a0] u171.2 0 0 (none, r, 0, 0)
                          replace hf := mx_gd_el hf; obtain ⟨c172, hf⟩ := hf
                          replace hf := mx_sv_el hf; obtain ⟨u173, e_u173, hf⟩ := hf
                          refine sx_cv hm dX13_workOne_476 rs_RX13_646 mt_X13_put [.int u171.1] [] (b := a0) (ci := 13) rfl rfl rfl c172 (Nat.le_of_ble_eq_true rfl) (Nat.le_of_ble_eq_true rfl) (by omega) (by omega) (f_X13_put_ok X (by omega) (by omega) nn a0 u171.1 u171.2 e_u173) ?_
                          clear e_u173
                          show mx_S X F L 475 479 [(2, .int v59), (0, .ref a0), (1, .int a1)] [] u173 0 0 (none, r, 0, 0)
                          refine mx_S.ext [(0, .ref a0), (2, .int v59)] (mx_sub_pos [1, 0] rfl (show ([2, 0, 1] : List Nat).Nodup by decide)) ?_
                          exact j_X13_workOne_479_ok X hF hL nn hrc a0 v59 u173 hf
                        · refine sb_ic_ne hm dX13_workOne_429 (tgt := 442) rfl (fun z => absurd z c176) (fun _ => ?_)
                          refine mx_S.pu (pc2 := 433) (lv2 := [(2, .int v59), (0, .ref a0), (1, .int a1)]) (st2 := [.ref a0]) hm dX13_workOne_432 rfl ?_
                          refine sx_si (v := 190) hm dX13_workOne_433 (by decide) ?_
                          replace hf := mx_gd_el hf; obtain ⟨c174, hf⟩ := hf
                          replace hf := mx_sv_el hf; obtain ⟨u175, e_u175, hf⟩ := hf
                          refine sx_cv hm dX13_workOne_436 rs_RX13_646 mt_X13_put [.int 190] [] (b := a0) (ci := 13) rfl rfl rfl c174 (Nat.le_of_ble_eq_true rfl) (Nat.le_of_ble_eq_true rfl) (by omega) (by omega) (f_X13_put_ok X (by omega) (by omega) nn a0 190 h e_u175) ?_
                          clear e_u175
                          show mx_S X F L 475 439 [(2, .int v59), (0, .ref a0), (1, .int a1)] [] u175 0 0 (none, r, 0, 0)
                          refine mx_S.pu (pc2 := 479) (lv2 := [(2, .int v59), (0, .ref a0), (1, .int a1)]) (st2 := []) hm dX13_workOne_439 rfl ?_
                          refine mx_S.ext [(0, .ref a0), (2, .int v59)] (mx_sub_pos [1, 0] rfl (show ([2, 0, 1] : List Nat).Nodup by decide)) ?_
                          exact j_X13_workOne_479_ok X hF hL nn hrc a0 v59 u175 hf
                      · rcases mx_if_el hf with ⟨n_11, hf⟩ | ⟨n_11, hf⟩
                        · refine sx_tin hm dX13_workOne_13 (by rw [n_11]; decide) (by rw [n_11]; decide) (off := 266) (by rw [n_11]; rfl) (tgt := 279) rfl ?_
                          clear n_0 n_1 n_2 n_3 n_4 n_5 n_6 n_7 n_8 n_9 n_10 n_11
                          refine mx_S.pu (pc2 := 280) (lv2 := [(2, .int v59), (0, .ref a0), (1, .int a1)]) (st2 := [.ref a0]) hm dX13_workOne_279 rfl ?_
                          refine mx_S.pu (pc2 := 281) (lv2 := [(2, .int v59), (0, .ref a0), (1, .int a1)]) (st2 := [.int a1, .ref a0]) hm dX13_workOne_280 rfl ?_
                          refine mx_S.pu (pc2 := 282) (lv2 := [(2, .int v59), (0, .ref a0), (1, .int a1)]) (st2 := [.ref a0, .int a1, .ref a0]) hm dX13_workOne_281 rfl ?_
                          replace hf := mx_sv_el hf; obtain ⟨v177, e_v177, hf⟩ := hf
                          refine sx_get hm dX13_workOne_282 rs_RX13_55 (xgr_el e_v177) ?_
                          clear e_v177
                          refine mx_S.pu (pc2 := 286) (lv2 := [(2, .int v59), (0, .ref a0), (1, .int a1)]) (st2 := [.int a1, .ref v177, .int a1, .ref a0]) hm dX13_workOne_285 rfl ?_
                          replace hf := mx_sv_el hf; obtain ⟨v178, e_v178, hf⟩ := hf
                          refine sx_ald hm dX13_workOne_286 e_v178 ?_
                          clear e_v178
                          refine sx_ic (v := (-1)) hm dX13_workOne_287 (by decide) ?_
                          rcases mx_if_el hf with ⟨c187, hf⟩ | ⟨c187, hf⟩
                          · refine sb_ic_ne hm dX13_workOne_288 (tgt := 310) rfl (fun _ => ?_) (fun z => absurd c187 z)
                            refine mx_S.pu (pc2 := 311) (lv2 := [(2, .int v59), (0, .ref a0), (1, .int a1)]) (st2 := [.ref a0, .int a1, .ref a0]) hm dX13_workOne_310 rfl ?_
                            replace hf := mx_sv_el hf; obtain ⟨v179, e_v179, hf⟩ := hf
                            refine sx_get hm dX13_workOne_311 rs_RX13_55 (xgr_el e_v179) ?_
                            clear e_v179
                            refine mx_S.pu (pc2 := 315) (lv2 := [(2, .int v59), (0, .ref a0), (1, .int a1)]) (st2 := [.int a1, .ref v179, .int a1, .ref a0]) hm dX13_workOne_314 rfl ?_
                            replace hf := mx_sv_el hf; obtain ⟨v180, e_v180, hf⟩ := hf
                            refine sx_ald hm dX13_workOne_315 e_v180 ?_
                            clear e_v180
                            refine mx_S.ext [(0, .ref a0), (1, .int a1)] (mx_sub_pos [1, 2] rfl (show ([2, 0, 1] : List Nat).Nodup by decide)) ?_
                            exact j_X13_workOne_316_ok X hF hL nn hrc a0 a1 v180 a1 a0 h hf
                          · refine sb_ic_ne hm dX13_workOne_288 (tgt := 310) rfl (fun z => absurd z c187) (fun _ => ?_)
                            refine mx_S.pu (pc2 := 292) (lv2 := [(2, .int v59), (0, .ref a0), (1, .int a1)]) (st2 := [.ref a0, .int a1, .ref a0]) hm dX13_workOne_291 rfl ?_
                            replace hf := mx_sv_el hf; obtain ⟨v181, e_v181, hf⟩ := hf
                            refine sx_get hm dX13_workOne_292 rs_RX13_49 (xgr_el e_v181) ?_
                            clear e_v181
                            refine mx_S.pu (pc2 := 296) (lv2 := [(2, .int v59), (0, .ref a0), (1, .int a1)]) (st2 := [.ref a0, .ref v181, .int a1, .ref a0]) hm dX13_workOne_295 rfl ?_
                            replace hf := mx_sv_el hf; obtain ⟨v182, e_v182, hf⟩ := hf
                            refine sx_get hm dX13_workOne_296 rs_RX13_37 (xgr_el e_v182) ?_
                            clear e_v182
                            refine mx_S.pu (pc2 := 300) (lv2 := [(2, .int v59), (0, .ref a0), (1, .int a1)]) (st2 := [.int a1, .ref v182, .ref v181, .int a1, .ref a0]) hm dX13_workOne_299 rfl ?_
                            replace hf := mx_sv_el hf; obtain ⟨v183, e_v183, hf⟩ := hf
                            refine sx_ald hm dX13_workOne_300 e_v183 ?_
                            clear e_v183
                            replace hf := mx_sv_el hf; obtain ⟨v184, e_v184, hf⟩ := hf
                            refine sx_ald hm dX13_workOne_301 e_v184 ?_
                            clear e_v184
                            refine sx_bi (v := 8) hm dX13_workOne_302 (by decide) ?_
                            replace hf := xl_el hf; obtain ⟨v185, e_v185, hf⟩ := hf
                            refine mx_S.pu (pc2 := 305) (lv2 := [(2, .int v59), (0, .ref a0), (1, .int a1)]) (st2 := [.int v185, .int a1, .ref a0]) hm dX13_workOne_304 (by rw [← e_v185]; rfl) ?_
                            clear e_v185
                            refine sx_ic (v := 2) hm dX13_workOne_305 (by decide) ?_
                            replace hf := xl_el hf; obtain ⟨v186, e_v186, hf⟩ := hf
                            refine sx_idiv (v := v186) hm dX13_workOne_306 (by decide) e_v186 ?_
                            clear e_v186
                            refine mx_S.pu (pc2 := 316) (lv2 := [(2, .int v59), (0, .ref a0), (1, .int a1)]) (st2 := [.int v186, .int a1, .ref a0]) hm dX13_workOne_307 rfl ?_
                            refine mx_S.ext [(0, .ref a0), (1, .int a1)] (mx_sub_pos [1, 2] rfl (show ([2, 0, 1] : List Nat).Nodup by decide)) ?_
                            exact j_X13_workOne_316_ok X hF hL nn hrc a0 a1 v186 a1 a0 h hf
                        · rcases mx_if_el hf with ⟨n_12, hf⟩ | ⟨n_12, hf⟩
                          · refine sx_tin hm dX13_workOne_13 (by rw [n_12]; decide) (by rw [n_12]; decide) (off := 473) (by rw [n_12]; rfl) (tgt := 486) rfl ?_
                            clear n_0 n_1 n_2 n_3 n_4 n_5 n_6 n_7 n_8 n_9 n_10 n_11 n_12
                            refine mx_S.pu (pc2 := 487) (lv2 := [(2, .int v59), (0, .ref a0), (1, .int a1)]) (st2 := [.ref a0]) hm dX13_workOne_486 rfl ?_
                            refine mx_S.pu (pc2 := 488) (lv2 := [(2, .int v59), (0, .ref a0), (1, .int a1)]) (st2 := [.ref a0, .ref a0]) hm dX13_workOne_487 rfl ?_
                            replace hf := mx_sv_el hf; obtain ⟨v188, e_v188, hf⟩ := hf
                            refine sx_get hm dX13_workOne_488 rs_RX13_40 (xgr_el e_v188) ?_
                            clear e_v188
                            refine mx_S.pu (pc2 := 492) (lv2 := [(2, .int v59), (0, .ref a0), (1, .int a1)]) (st2 := [.int a1, .ref v188, .ref a0]) hm dX13_workOne_491 rfl ?_
                            replace hf := mx_sv_el hf; obtain ⟨v189, e_v189, hf⟩ := hf
                            refine sx_ald hm dX13_workOne_492 e_v189 ?_
                            clear e_v189
                            replace hf := mx_gd_el hf; obtain ⟨c190, hf⟩ := hf
                            replace hf := mx_sv_el hf; obtain ⟨u191, e_u191, hf⟩ := hf
                            refine sx_cv hm dX13_workOne_493 rs_RX13_667 mt_X13_work [.int v189] [] (b := a0) (ci := 13) rfl rfl rfl c190 (Nat.le_of_ble_eq_true rfl) (Nat.le_of_ble_eq_true rfl) (by omega) (by omega) (hrc.1 (by omega) (by omega) a0 v189 h e_u191) ?_
                            clear e_u191
                            show mx_S X F L 475 496 [(2, .int v59), (0, .ref a0), (1, .int a1)] [] u191 0 0 (none, r, 0, 0)
                            refine mx_S.pu (pc2 := 497) (lv2 := [(2, .int v59), (0, .ref a0), (1, .int a1)]) (st2 := [.ref a0]) hm dX13_workOne_496 rfl ?_
                            refine mx_S.pu (pc2 := 498) (lv2 := [(2, .int v59), (0, .ref a0), (1, .int a1)]) (st2 := [.int v59, .ref a0]) hm dX13_workOne_497 rfl ?_
                            rcases mx_if_el hf with ⟨c192, hf⟩ | ⟨c192, hf⟩
                            · refine sb_if_ne hm dX13_workOne_498 (tgt := 506) rfl (fun _ => ?_) (fun z => absurd c192 z)
                              refine sx_bi (v := 50) hm dX13_workOne_506 (by decide) ?_
                              refine mx_S.ext [(0, .ref a0), (2, .int v59)] (mx_sub_pos [1, 0] rfl (show ([2, 0, 1] : List Nat).Nodup by decide)) ?_
                              exact j_X13_workOne_508_ok X hF hL nn hrc a0 v59 50 a0 u191 hf
                            · refine sb_if_ne hm dX13_workOne_498 (tgt := 506) rfl (fun z => absurd z c192) (fun _ => ?_)
                              refine sx_bi (v := 46) hm dX13_workOne_501 (by decide) ?_
                              refine mx_S.pu (pc2 := 508) (lv2 := [(2, .int v59), (0, .ref a0), (1, .int a1)]) (st2 := [.int 46, .ref a0]) hm dX13_workOne_503 rfl ?_
                              refine mx_S.ext [(0, .ref a0), (2, .int v59)] (mx_sub_pos [1, 0] rfl (show ([2, 0, 1] : List Nat).Nodup by decide)) ?_
                              exact j_X13_workOne_508_ok X hF hL nn hrc a0 v59 46 a0 u191 hf
                          · rcases mx_if_el hf with ⟨n_13, hf⟩ | ⟨n_13, hf⟩
                            · refine sx_tin hm dX13_workOne_13 (by rw [n_13]; decide) (by rw [n_13]; decide) (off := 505) (by rw [n_13]; rfl) (tgt := 518) rfl ?_
                              clear n_0 n_1 n_2 n_3 n_4 n_5 n_6 n_7 n_8 n_9 n_10 n_11 n_12 n_13
                              refine mx_S.pu (pc2 := 519) (lv2 := [(2, .int v59), (0, .ref a0), (1, .int a1)]) (st2 := [.ref a0]) hm dX13_workOne_518 rfl ?_
                              refine mx_S.pu (pc2 := 520) (lv2 := [(2, .int v59), (0, .ref a0), (1, .int a1)]) (st2 := [.ref a0, .ref a0]) hm dX13_workOne_519 rfl ?_
                              replace hf := mx_sv_el hf; obtain ⟨v193, e_v193, hf⟩ := hf
                              refine sx_get hm dX13_workOne_520 rs_RX13_37 (xgr_el e_v193) ?_
                              clear e_v193
                              refine mx_S.pu (pc2 := 524) (lv2 := [(2, .int v59), (0, .ref a0), (1, .int a1)]) (st2 := [.int a1, .ref v193, .ref a0]) hm dX13_workOne_523 rfl ?_
                              replace hf := mx_sv_el hf; obtain ⟨v194, e_v194, hf⟩ := hf
                              refine sx_ald hm dX13_workOne_524 e_v194 ?_
                              clear e_v194
                              replace hf := mx_gd_el hf; obtain ⟨c195, hf⟩ := hf
                              replace hf := mx_sv_el hf; obtain ⟨u196, e_u196, hf⟩ := hf
                              refine sx_cv hm dX13_workOne_525 rs_RX13_667 mt_X13_work [.int v194] [] (b := a0) (ci := 13) rfl rfl rfl c195 (Nat.le_of_ble_eq_true rfl) (Nat.le_of_ble_eq_true rfl) (by omega) (by omega) (hrc.1 (by omega) (by omega) a0 v194 h e_u196) ?_
                              clear e_u196
                              show mx_S X F L 475 528 [(2, .int v59), (0, .ref a0), (1, .int a1)] [] u196 0 0 (none, r, 0, 0)
                              refine mx_S.pu (pc2 := 529) (lv2 := [(2, .int v59), (0, .ref a0), (1, .int a1)]) (st2 := [.ref a0]) hm dX13_workOne_528 rfl ?_
                              refine sx_bi (v := 116) hm dX13_workOne_529 (by decide) ?_
                              replace hf := mx_gd_el hf; obtain ⟨c197, hf⟩ := hf
                              replace hf := mx_sv_el hf; obtain ⟨u198, e_u198, hf⟩ := hf
                              refine sx_cv hm dX13_workOne_531 rs_RX13_646 mt_X13_put [.int 116] [] (b := a0) (ci := 13) rfl rfl rfl c197 (Nat.le_of_ble_eq_true rfl) (Nat.le_of_ble_eq_true rfl) (by omega) (by omega) (f_X13_put_ok X (by omega) (by omega) nn a0 116 u196 e_u198) ?_
                              clear e_u198
                              show mx_S X F L 475 534 [(2, .int v59), (0, .ref a0), (1, .int a1)] [] u198 0 0 (none, r, 0, 0)
                              cases hf
                              exact sx_ret hm dX13_workOne_534 rfl
                            · rcases mx_if_el hf with ⟨n_14, hf⟩ | ⟨n_14, hf⟩
                              · refine sx_tin hm dX13_workOne_13 (by rw [n_14]; decide) (by rw [n_14]; decide) (off := 556) (by rw [n_14]; rfl) (tgt := 569) rfl ?_
                                clear n_0 n_1 n_2 n_3 n_4 n_5 n_6 n_7 n_8 n_9 n_10 n_11 n_12 n_13 n_14
                                refine mx_S.pu (pc2 := 570) (lv2 := [(2, .int v59), (0, .ref a0), (1, .int a1)]) (st2 := [.ref a0]) hm dX13_workOne_569 rfl ?_
                                refine mx_S.pu (pc2 := 571) (lv2 := [(2, .int v59), (0, .ref a0), (1, .int a1)]) (st2 := [.ref a0, .ref a0]) hm dX13_workOne_570 rfl ?_
                                replace hf := mx_sv_el hf; obtain ⟨v199, e_v199, hf⟩ := hf
                                refine sx_get hm dX13_workOne_571 rs_RX13_37 (xgr_el e_v199) ?_
                                clear e_v199
                                refine mx_S.pu (pc2 := 575) (lv2 := [(2, .int v59), (0, .ref a0), (1, .int a1)]) (st2 := [.int a1, .ref v199, .ref a0]) hm dX13_workOne_574 rfl ?_
                                replace hf := mx_sv_el hf; obtain ⟨v200, e_v200, hf⟩ := hf
                                refine sx_ald hm dX13_workOne_575 e_v200 ?_
                                clear e_v200
                                replace hf := mx_gd_el hf; obtain ⟨c201, hf⟩ := hf
                                replace hf := mx_sv_el hf; obtain ⟨u202, e_u202, hf⟩ := hf
                                refine sx_cv hm dX13_workOne_576 rs_RX13_667 mt_X13_work [.int v200] [] (b := a0) (ci := 13) rfl rfl rfl c201 (Nat.le_of_ble_eq_true rfl) (Nat.le_of_ble_eq_true rfl) (by omega) (by omega) (hrc.1 (by omega) (by omega) a0 v200 h e_u202) ?_
                                clear e_u202
                                show mx_S X F L 475 579 [(2, .int v59), (0, .ref a0), (1, .int a1)] [] u202 0 0 (none, r, 0, 0)
                                refine mx_S.pu (pc2 := 580) (lv2 := [(2, .int v59), (0, .ref a0), (1, .int a1)]) (st2 := [.ref a0]) hm dX13_workOne_579 rfl ?_
                                refine sx_si (v := 153) hm dX13_workOne_580 (by decide) ?_
                                refine sx_ic (v := 1) hm dX13_workOne_583 (by decide) ?_
                                replace hf := mx_gd_el hf; obtain ⟨c203, hf⟩ := hf
                                replace hf := mx_sv_el hf; obtain ⟨u204, e_u204, hf⟩ := hf
                                refine sx_cv hm dX13_workOne_584 rs_RX13_719 mt_X13_truth [.int 153, .int 1] [] (b := a0) (ci := 13) rfl rfl rfl c203 (Nat.le_of_ble_eq_true rfl) (Nat.le_of_ble_eq_true rfl) (by omega) (by omega) (f_X13_truth_ok X (by omega) (by omega) nn a0 153 1 u202 e_u204) ?_
                                clear e_u204
                                show mx_S X F L 475 587 [(2, .int v59), (0, .ref a0), (1, .int a1)] [] u204 0 0 (none, r, 0, 0)
                                cases hf
                                exact sx_ret hm dX13_workOne_587 rfl
                              · rcases mx_if_el hf with ⟨n_15, hf⟩ | ⟨n_15, hf⟩
                                · refine sx_tin hm dX13_workOne_13 (by rw [n_15]; decide) (by rw [n_15]; decide) (off := 522) (by rw [n_15]; rfl) (tgt := 535) rfl ?_
                                  clear n_0 n_1 n_2 n_3 n_4 n_5 n_6 n_7 n_8 n_9 n_10 n_11 n_12 n_13 n_14 n_15
                                  refine mx_S.pu (pc2 := 536) (lv2 := [(2, .int v59), (0, .ref a0), (1, .int a1)]) (st2 := [.ref a0]) hm dX13_workOne_535 rfl ?_
                                  refine mx_S.pu (pc2 := 537) (lv2 := [(2, .int v59), (0, .ref a0), (1, .int a1)]) (st2 := [.ref a0, .ref a0]) hm dX13_workOne_536 rfl ?_
                                  replace hf := mx_sv_el hf; obtain ⟨v205, e_v205, hf⟩ := hf
                                  refine sx_get hm dX13_workOne_537 rs_RX13_37 (xgr_el e_v205) ?_
                                  clear e_v205
                                  refine mx_S.pu (pc2 := 541) (lv2 := [(2, .int v59), (0, .ref a0), (1, .int a1)]) (st2 := [.int a1, .ref v205, .ref a0]) hm dX13_workOne_540 rfl ?_
                                  replace hf := mx_sv_el hf; obtain ⟨v206, e_v206, hf⟩ := hf
                                  refine sx_ald hm dX13_workOne_541 e_v206 ?_
                                  clear e_v206
                                  replace hf := mx_gd_el hf; obtain ⟨c207, hf⟩ := hf
                                  replace hf := mx_sv_el hf; obtain ⟨u208, e_u208, hf⟩ := hf
                                  refine sx_cv hm dX13_workOne_542 rs_RX13_667 mt_X13_work [.int v206] [] (b := a0) (ci := 13) rfl rfl rfl c207 (Nat.le_of_ble_eq_true rfl) (Nat.le_of_ble_eq_true rfl) (by omega) (by omega) (hrc.1 (by omega) (by omega) a0 v206 h e_u208) ?_
                                  clear e_u208
                                  show mx_S X F L 475 545 [(2, .int v59), (0, .ref a0), (1, .int a1)] [] u208 0 0 (none, r, 0, 0)
                                  refine mx_S.pu (pc2 := 546) (lv2 := [(2, .int v59), (0, .ref a0), (1, .int a1)]) (st2 := [.ref a0]) hm dX13_workOne_545 rfl ?_
                                  refine sx_ic (v := 2) hm dX13_workOne_546 (by decide) ?_
                                  replace hf := mx_gd_el hf; obtain ⟨c209, hf⟩ := hf
                                  replace hf := mx_sv_el hf; obtain ⟨u210, e_u210, hf⟩ := hf
                                  refine sx_cv hm dX13_workOne_547 rs_RX13_646 mt_X13_put [.int 2] [] (b := a0) (ci := 13) rfl rfl rfl c209 (Nat.le_of_ble_eq_true rfl) (Nat.le_of_ble_eq_true rfl) (by omega) (by omega) (f_X13_put_ok X (by omega) (by omega) nn a0 2 u208 e_u210) ?_
                                  clear e_u210
                                  show mx_S X F L 475 550 [(2, .int v59), (0, .ref a0), (1, .int a1)] [] u210 0 0 (none, r, 0, 0)
                                  refine mx_S.pu (pc2 := 551) (lv2 := [(2, .int v59), (0, .ref a0), (1, .int a1)]) (st2 := [.ref a0]) hm dX13_workOne_550 rfl ?_
                                  refine sx_ic (v := 0) hm dX13_workOne_551 (by decide) ?_
                                  replace hf := mx_gd_el hf; obtain ⟨c211, hf⟩ := hf
                                  replace hf := mx_sv_el hf; obtain ⟨u212, e_u212, hf⟩ := hf
                                  refine sx_cv hm dX13_workOne_552 rs_RX13_640 mt_X13_push [.int 0] [] (b := a0) (ci := 13) rfl rfl rfl c211 (Nat.le_of_ble_eq_true rfl) (Nat.le_of_ble_eq_true rfl) (by omega) (by omega) (f_X13_push_ok X (by omega) (by omega) nn a0 0 u210 e_u212) ?_
                                  clear e_u212
                                  show mx_S X F L 475 555 [(2, .int v59), (0, .ref a0), (1, .int a1)] [] u212 0 0 (none, r, 0, 0)
                                  refine mx_S.pu (pc2 := 556) (lv2 := [(2, .int v59), (0, .ref a0), (1, .int a1)]) (st2 := [.ref a0]) hm dX13_workOne_555 rfl ?_
                                  refine sx_si (v := 130) hm dX13_workOne_556 (by decide) ?_
                                  replace hf := mx_gd_el hf; obtain ⟨c213, hf⟩ := hf
                                  replace hf := mx_sv_el hf; obtain ⟨u214, e_u214, hf⟩ := hf
                                  refine sx_cv hm dX13_workOne_559 rs_RX13_646 mt_X13_put [.int 130] [] (b := a0) (ci := 13) rfl rfl rfl c213 (Nat.le_of_ble_eq_true rfl) (Nat.le_of_ble_eq_true rfl) (by omega) (by omega) (f_X13_put_ok X (by omega) (by omega) nn a0 130 u212 e_u214) ?_
                                  clear e_u214
                                  show mx_S X F L 475 562 [(2, .int v59), (0, .ref a0), (1, .int a1)] [] u214 0 0 (none, r, 0, 0)
                                  refine mx_S.pu (pc2 := 563) (lv2 := [(2, .int v59), (0, .ref a0), (1, .int a1)]) (st2 := [.ref a0]) hm dX13_workOne_562 rfl ?_
                                  refine sx_ic (v := 2) hm dX13_workOne_563 (by decide) ?_
                                  refine sx_ic (v := 0) hm dX13_workOne_564 (by decide) ?_
                                  replace hf := mx_gd_el hf; obtain ⟨c215, hf⟩ := hf
                                  replace hf := mx_sv_el hf; obtain ⟨u216, e_u216, hf⟩ := hf
                                  refine sx_cv hm dX13_workOne_565 rs_RX13_712 mt_X13_turn [.int 2, .int 0] [] (b := a0) (ci := 13) rfl rfl rfl c215 (Nat.le_of_ble_eq_true rfl) (Nat.le_of_ble_eq_true rfl) (by omega) (by omega) (f_X13_turn_ok X (by omega) (by omega) nn a0 2 0 u214 e_u216) ?_
                                  clear e_u216
                                  show mx_S X F L 475 568 [(2, .int v59), (0, .ref a0), (1, .int a1)] [] u216 0 0 (none, r, 0, 0)
                                  cases hf
                                  exact sx_ret hm dX13_workOne_568 rfl
                                · rcases mx_if_el hf with ⟨n_16, hf⟩ | ⟨n_16, hf⟩
                                  · refine sx_tin hm dX13_workOne_13 (by rw [n_16]; decide) (by rw [n_16]; decide) (off := 575) (by rw [n_16]; rfl) (tgt := 588) rfl ?_
                                    clear n_0 n_1 n_2 n_3 n_4 n_5 n_6 n_7 n_8 n_9 n_10 n_11 n_12 n_13 n_14 n_15 n_16
                                    refine mx_S.ext [(0, .ref a0), (1, .int a1), (2, .int v59)] (mx_sub_pos [1, 2, 0] rfl (show ([2, 0, 1] : List Nat).Nodup by decide)) ?_
                                    exact j_X13_workOne_588_ok X hF hL nn hrc a0 a1 v59 h hf
                                  · rcases mx_if_el hf with ⟨n_17, hf⟩ | ⟨n_17, hf⟩
                                    · refine sx_tin hm dX13_workOne_13 (by rw [n_17]; decide) (by rw [n_17]; decide) (off := 641) (by rw [n_17]; rfl) (tgt := 654) rfl ?_
                                      clear n_0 n_1 n_2 n_3 n_4 n_5 n_6 n_7 n_8 n_9 n_10 n_11 n_12 n_13 n_14 n_15 n_16 n_17
                                      refine mx_S.pu (pc2 := 655) (lv2 := [(2, .int v59), (0, .ref a0), (1, .int a1)]) (st2 := [.ref a0]) hm dX13_workOne_654 rfl ?_
                                      refine mx_S.pu (pc2 := 656) (lv2 := [(2, .int v59), (0, .ref a0), (1, .int a1)]) (st2 := [.int a1, .ref a0]) hm dX13_workOne_655 rfl ?_
                                      replace hf := mx_gd_el hf; obtain ⟨c217, hf⟩ := hf
                                      replace hf := mx_sv_el hf; obtain ⟨u218, e_u218, hf⟩ := hf
                                      refine sx_cv hm dX13_workOne_656 rs_RX13_722 mt_X13_workBoth [.int a1] [] (b := a0) (ci := 13) rfl rfl rfl c217 (Nat.le_of_ble_eq_true rfl) (Nat.le_of_ble_eq_true rfl) (by omega) (by omega) (hrc.2.2.2 (by omega) (by omega) a0 a1 h e_u218) ?_
                                      clear e_u218
                                      show mx_S X F L 475 659 [(2, .int v59), (0, .ref a0), (1, .int a1)] [] u218 0 0 (none, r, 0, 0)
                                      cases hf
                                      exact sx_ret hm dX13_workOne_659 rfl
                                    · rcases mx_if_el hf with ⟨n_18, hf⟩ | ⟨n_18, hf⟩
                                      · refine sx_tin hm dX13_workOne_13 (by rw [n_18]; decide) (by rw [n_18]; decide) (off := 575) (by rw [n_18]; rfl) (tgt := 588) rfl ?_
                                        clear n_0 n_1 n_2 n_3 n_4 n_5 n_6 n_7 n_8 n_9 n_10 n_11 n_12 n_13 n_14 n_15 n_16 n_17 n_18
                                        refine mx_S.ext [(0, .ref a0), (1, .int a1), (2, .int v59)] (mx_sub_pos [1, 2, 0] rfl (show ([2, 0, 1] : List Nat).Nodup by decide)) ?_
                                        exact j_X13_workOne_588_ok X hF hL nn hrc a0 a1 v59 h hf
                                      · rcases (show (v61.toInt < 20 ∨ 38 < v61.toInt) ∨ v61.toInt = 20 ∨ v61.toInt = 21 ∨ v61.toInt = 22 ∨ v61.toInt = 23 ∨ v61.toInt = 24 ∨ v61.toInt = 25 ∨ v61.toInt = 26 ∨ v61.toInt = 27 ∨ v61.toInt = 28 ∨ v61.toInt = 29 ∨ v61.toInt = 30 ∨ v61.toInt = 31 ∨ v61.toInt = 32 ∨ v61.toInt = 33 ∨ v61.toInt = 34 ∨ v61.toInt = 35 ∨ v61.toInt = 36 ∨ v61.toInt = 37 ∨ v61.toInt = 38 by omega) with z0 | z0 | z0 | z0 | z0 | z0 | z0 | z0 | z0 | z0 | z0 | z0 | z0 | z0 | z0 | z0 | z0 | z0 | z0 | z0
                                        · refine sx_tout hm dX13_workOne_13 z0 (tgt := 660) rfl ?_
                                          refine mx_S.pu (pc2 := 661) (lv2 := [(2, .int v59), (0, .ref a0), (1, .int a1)]) (st2 := [.ref a0]) hm dX13_workOne_660 rfl ?_
                                          replace hf := mx_gd_el hf; obtain ⟨c62, hf⟩ := hf
                                          replace hf := mx_sv_el hf; obtain ⟨u63, e_u63, hf⟩ := hf
                                          refine sx_cv hm dX13_workOne_661 rs_RX13_676 mt_X13_label [] [] (b := a0) (ci := 13) rfl rfl rfl c62 (Nat.le_of_ble_eq_true rfl) (Nat.le_of_ble_eq_true rfl) (by omega) (by omega) (f_X13_label_ok X (by omega) (by omega) nn a0 h e_u63) ?_
                                          clear e_u63
                                          show mx_S X F L 475 664 [(2, .int v59), (0, .ref a0), (1, .int a1)] [.int u63.1] u63.2 0 0 (none, r, 0, 0)
                                          refine mx_S.pu (pc2 := 666) (lv2 := [(4, .int u63.1), (2, .int v59), (0, .ref a0), (1, .int a1)]) (st2 := []) hm dX13_workOne_664 rfl ?_
                                          refine mx_S.pu (pc2 := 667) (lv2 := [(4, .int u63.1), (2, .int v59), (0, .ref a0), (1, .int a1)]) (st2 := [.ref a0]) hm dX13_workOne_666 rfl ?_
                                          replace hf := mx_gd_el hf; obtain ⟨c64, hf⟩ := hf
                                          replace hf := mx_sv_el hf; obtain ⟨u65, e_u65, hf⟩ := hf
                                          refine sx_cv hm dX13_workOne_667 rs_RX13_676 mt_X13_label [] [] (b := a0) (ci := 13) rfl rfl rfl c64 (Nat.le_of_ble_eq_true rfl) (Nat.le_of_ble_eq_true rfl) (by omega) (by omega) (f_X13_label_ok X (by omega) (by omega) nn a0 u63.2 e_u65) ?_
                                          clear e_u65
                                          show mx_S X F L 475 670 [(4, .int u63.1), (2, .int v59), (0, .ref a0), (1, .int a1)] [.int u65.1] u65.2 0 0 (none, r, 0, 0)
                                          refine mx_S.pu (pc2 := 672) (lv2 := [(5, .int u65.1), (4, .int u63.1), (2, .int v59), (0, .ref a0), (1, .int a1)]) (st2 := []) hm dX13_workOne_670 rfl ?_
                                          refine mx_S.pu (pc2 := 673) (lv2 := [(5, .int u65.1), (4, .int u63.1), (2, .int v59), (0, .ref a0), (1, .int a1)]) (st2 := [.ref a0]) hm dX13_workOne_672 rfl ?_
                                          refine mx_S.pu (pc2 := 674) (lv2 := [(5, .int u65.1), (4, .int u63.1), (2, .int v59), (0, .ref a0), (1, .int a1)]) (st2 := [.ref a0, .ref a0]) hm dX13_workOne_673 rfl ?_
                                          replace hf := mx_sv_el hf; obtain ⟨v66, e_v66, hf⟩ := hf
                                          refine sx_get hm dX13_workOne_674 rs_RX13_37 (xgr_el e_v66) ?_
                                          clear e_v66
                                          refine mx_S.pu (pc2 := 678) (lv2 := [(5, .int u65.1), (4, .int u63.1), (2, .int v59), (0, .ref a0), (1, .int a1)]) (st2 := [.int a1, .ref v66, .ref a0]) hm dX13_workOne_677 rfl ?_
                                          replace hf := mx_sv_el hf; obtain ⟨v67, e_v67, hf⟩ := hf
                                          refine sx_ald hm dX13_workOne_678 e_v67 ?_
                                          clear e_v67
                                          replace hf := mx_gd_el hf; obtain ⟨c68, hf⟩ := hf
                                          replace hf := mx_sv_el hf; obtain ⟨u69, e_u69, hf⟩ := hf
                                          refine sx_cv hm dX13_workOne_679 rs_RX13_667 mt_X13_work [.int v67] [] (b := a0) (ci := 13) rfl rfl rfl c68 (Nat.le_of_ble_eq_true rfl) (Nat.le_of_ble_eq_true rfl) (by omega) (by omega) (hrc.1 (by omega) (by omega) a0 v67 u65.2 e_u69) ?_
                                          clear e_u69
                                          show mx_S X F L 475 682 [(5, .int u65.1), (4, .int u63.1), (2, .int v59), (0, .ref a0), (1, .int a1)] [] u69 0 0 (none, r, 0, 0)
                                          refine mx_S.pu (pc2 := 683) (lv2 := [(5, .int u65.1), (4, .int u63.1), (2, .int v59), (0, .ref a0), (1, .int a1)]) (st2 := [.ref a0]) hm dX13_workOne_682 rfl ?_
                                          refine mx_S.pu (pc2 := 684) (lv2 := [(5, .int u65.1), (4, .int u63.1), (2, .int v59), (0, .ref a0), (1, .int a1)]) (st2 := [.ref a0, .ref a0]) hm dX13_workOne_683 rfl ?_
                                          replace hf := mx_sv_el hf; obtain ⟨v70, e_v70, hf⟩ := hf
                                          refine sx_get hm dX13_workOne_684 rs_RX13_629 (xgi_el e_v70) ?_
                                          clear e_v70
                                          refine sx_ic (v := 1) hm dX13_workOne_687 (by decide) ?_
                                          replace hf := xl_el hf; obtain ⟨v71, e_v71, hf⟩ := hf
                                          refine mx_S.pu (pc2 := 689) (lv2 := [(5, .int u65.1), (4, .int u63.1), (2, .int v59), (0, .ref a0), (1, .int a1)]) (st2 := [.int v71, .ref a0]) hm dX13_workOne_688 (by rw [← e_v71]; rfl) ?_
                                          clear e_v71
                                          replace hf := mx_sv_el hf; obtain ⟨h72, e_h72, hf⟩ := hf
                                          refine sx_put hm dX13_workOne_689 rs_RX13_629 ft_13_70 ⟨rfl, rfl⟩ (fun z => by cases z) e_h72 ?_
                                          clear e_h72
                                          refine mx_S.pu (pc2 := 693) (lv2 := [(5, .int u65.1), (4, .int u63.1), (2, .int v59), (0, .ref a0), (1, .int a1)]) (st2 := [.ref a0]) hm dX13_workOne_692 rfl ?_
                                          refine sx_si (v := 153) hm dX13_workOne_693 (by decide) ?_
                                          refine mx_S.pu (pc2 := 698) (lv2 := [(5, .int u65.1), (4, .int u63.1), (2, .int v59), (0, .ref a0), (1, .int a1)]) (st2 := [.int u63.1, .int 153, .ref a0]) hm dX13_workOne_696 rfl ?_
                                          replace hf := mx_gd_el hf; obtain ⟨c73, hf⟩ := hf
                                          replace hf := mx_sv_el hf; obtain ⟨u74, e_u74, hf⟩ := hf
                                          refine sx_cv hm dX13_workOne_698 rs_RX13_679 mt_X13_jump [.int 153, .int u63.1] [] (b := a0) (ci := 13) rfl rfl rfl c73 (Nat.le_of_ble_eq_true rfl) (Nat.le_of_ble_eq_true rfl) (by omega) (by omega) (f_X13_jump_ok X (by omega) (by omega) nn a0 153 u63.1 h72 e_u74) ?_
                                          clear e_u74
                                          show mx_S X F L 475 701 [(5, .int u65.1), (4, .int u63.1), (2, .int v59), (0, .ref a0), (1, .int a1)] [] u74 0 0 (none, r, 0, 0)
                                          refine mx_S.pu (pc2 := 702) (lv2 := [(5, .int u65.1), (4, .int u63.1), (2, .int v59), (0, .ref a0), (1, .int a1)]) (st2 := [.ref a0]) hm dX13_workOne_701 rfl ?_
                                          refine mx_S.pu (pc2 := 703) (lv2 := [(5, .int u65.1), (4, .int u63.1), (2, .int v59), (0, .ref a0), (1, .int a1)]) (st2 := [.ref a0, .ref a0]) hm dX13_workOne_702 rfl ?_
                                          replace hf := mx_sv_el hf; obtain ⟨v75, e_v75, hf⟩ := hf
                                          refine sx_get hm dX13_workOne_703 rs_RX13_40 (xgr_el e_v75) ?_
                                          clear e_v75
                                          refine mx_S.pu (pc2 := 707) (lv2 := [(5, .int u65.1), (4, .int u63.1), (2, .int v59), (0, .ref a0), (1, .int a1)]) (st2 := [.int a1, .ref v75, .ref a0]) hm dX13_workOne_706 rfl ?_
                                          replace hf := mx_sv_el hf; obtain ⟨v76, e_v76, hf⟩ := hf
                                          refine sx_ald hm dX13_workOne_707 e_v76 ?_
                                          clear e_v76
                                          replace hf := mx_gd_el hf; obtain ⟨c77, hf⟩ := hf
                                          replace hf := mx_sv_el hf; obtain ⟨u78, e_u78, hf⟩ := hf
                                          refine sx_cv hm dX13_workOne_708 rs_RX13_667 mt_X13_work [.int v76] [] (b := a0) (ci := 13) rfl rfl rfl c77 (Nat.le_of_ble_eq_true rfl) (Nat.le_of_ble_eq_true rfl) (by omega) (by omega) (hrc.1 (by omega) (by omega) a0 v76 u74 e_u78) ?_
                                          clear e_u78
                                          show mx_S X F L 475 711 [(5, .int u65.1), (4, .int u63.1), (2, .int v59), (0, .ref a0), (1, .int a1)] [] u78 0 0 (none, r, 0, 0)
                                          refine mx_S.pu (pc2 := 712) (lv2 := [(5, .int u65.1), (4, .int u63.1), (2, .int v59), (0, .ref a0), (1, .int a1)]) (st2 := [.ref a0]) hm dX13_workOne_711 rfl ?_
                                          refine mx_S.pu (pc2 := 713) (lv2 := [(5, .int u65.1), (4, .int u63.1), (2, .int v59), (0, .ref a0), (1, .int a1)]) (st2 := [.ref a0, .ref a0]) hm dX13_workOne_712 rfl ?_
                                          replace hf := mx_sv_el hf; obtain ⟨v79, e_v79, hf⟩ := hf
                                          refine sx_get hm dX13_workOne_713 rs_RX13_629 (xgi_el e_v79) ?_
                                          clear e_v79
                                          refine sx_ic (v := 1) hm dX13_workOne_716 (by decide) ?_
                                          replace hf := xl_el hf; obtain ⟨v80, e_v80, hf⟩ := hf
                                          refine mx_S.pu (pc2 := 718) (lv2 := [(5, .int u65.1), (4, .int u63.1), (2, .int v59), (0, .ref a0), (1, .int a1)]) (st2 := [.int v80, .ref a0]) hm dX13_workOne_717 (by rw [← e_v80]; rfl) ?_
                                          clear e_v80
                                          replace hf := mx_sv_el hf; obtain ⟨h81, e_h81, hf⟩ := hf
                                          refine sx_put hm dX13_workOne_718 rs_RX13_629 ft_13_70 ⟨rfl, rfl⟩ (fun z => by cases z) e_h81 ?_
                                          clear e_h81
                                          refine mx_S.pu (pc2 := 722) (lv2 := [(5, .int u65.1), (4, .int u63.1), (2, .int v59), (0, .ref a0), (1, .int a1)]) (st2 := [.ref a0]) hm dX13_workOne_721 rfl ?_
                                          refine sx_si (v := 167) hm dX13_workOne_722 (by decide) ?_
                                          refine mx_S.pu (pc2 := 727) (lv2 := [(5, .int u65.1), (4, .int u63.1), (2, .int v59), (0, .ref a0), (1, .int a1)]) (st2 := [.int u65.1, .int 167, .ref a0]) hm dX13_workOne_725 rfl ?_
                                          replace hf := mx_gd_el hf; obtain ⟨c82, hf⟩ := hf
                                          replace hf := mx_sv_el hf; obtain ⟨u83, e_u83, hf⟩ := hf
                                          refine sx_cv hm dX13_workOne_727 rs_RX13_679 mt_X13_jump [.int 167, .int u65.1] [] (b := a0) (ci := 13) rfl rfl rfl c82 (Nat.le_of_ble_eq_true rfl) (Nat.le_of_ble_eq_true rfl) (by omega) (by omega) (f_X13_jump_ok X (by omega) (by omega) nn a0 167 u65.1 h81 e_u83) ?_
                                          clear e_u83
                                          show mx_S X F L 475 730 [(5, .int u65.1), (4, .int u63.1), (2, .int v59), (0, .ref a0), (1, .int a1)] [] u83 0 0 (none, r, 0, 0)
                                          refine mx_S.pu (pc2 := 731) (lv2 := [(5, .int u65.1), (4, .int u63.1), (2, .int v59), (0, .ref a0), (1, .int a1)]) (st2 := [.ref a0]) hm dX13_workOne_730 rfl ?_
                                          refine mx_S.pu (pc2 := 733) (lv2 := [(5, .int u65.1), (4, .int u63.1), (2, .int v59), (0, .ref a0), (1, .int a1)]) (st2 := [.int u63.1, .ref a0]) hm dX13_workOne_731 rfl ?_
                                          refine mx_S.pu (pc2 := 734) (lv2 := [(5, .int u65.1), (4, .int u63.1), (2, .int v59), (0, .ref a0), (1, .int a1)]) (st2 := [.ref a0, .int u63.1, .ref a0]) hm dX13_workOne_733 rfl ?_
                                          replace hf := mx_sv_el hf; obtain ⟨v84, e_v84, hf⟩ := hf
                                          refine sx_get hm dX13_workOne_734 rs_RX13_627 (xgi_el e_v84) ?_
                                          clear e_v84
                                          replace hf := mx_gd_el hf; obtain ⟨c85, hf⟩ := hf
                                          replace hf := mx_sv_el hf; obtain ⟨u86, e_u86, hf⟩ := hf
                                          refine sx_cv hm dX13_workOne_737 rs_RX13_682 mt_X13_stands [.int u63.1, .int v84] [] (b := a0) (ci := 13) rfl rfl rfl c85 (Nat.le_of_ble_eq_true rfl) (Nat.le_of_ble_eq_true rfl) (by omega) (by omega) (f_X13_stands_ok X (by omega) (by omega) nn a0 u63.1 v84 u83 e_u86) ?_
                                          clear e_u86
                                          show mx_S X F L 475 740 [(5, .int u65.1), (4, .int u63.1), (2, .int v59), (0, .ref a0), (1, .int a1)] [] u86 0 0 (none, r, 0, 0)
                                          refine mx_S.pu (pc2 := 741) (lv2 := [(5, .int u65.1), (4, .int u63.1), (2, .int v59), (0, .ref a0), (1, .int a1)]) (st2 := [.ref a0]) hm dX13_workOne_740 rfl ?_
                                          refine mx_S.pu (pc2 := 742) (lv2 := [(5, .int u65.1), (4, .int u63.1), (2, .int v59), (0, .ref a0), (1, .int a1)]) (st2 := [.ref a0, .ref a0]) hm dX13_workOne_741 rfl ?_
                                          replace hf := mx_sv_el hf; obtain ⟨v87, e_v87, hf⟩ := hf
                                          refine sx_get hm dX13_workOne_742 rs_RX13_43 (xgr_el e_v87) ?_
                                          clear e_v87
                                          refine mx_S.pu (pc2 := 746) (lv2 := [(5, .int u65.1), (4, .int u63.1), (2, .int v59), (0, .ref a0), (1, .int a1)]) (st2 := [.int a1, .ref v87, .ref a0]) hm dX13_workOne_745 rfl ?_
                                          replace hf := mx_sv_el hf; obtain ⟨v88, e_v88, hf⟩ := hf
                                          refine sx_ald hm dX13_workOne_746 e_v88 ?_
                                          clear e_v88
                                          replace hf := mx_gd_el hf; obtain ⟨c89, hf⟩ := hf
                                          replace hf := mx_sv_el hf; obtain ⟨u90, e_u90, hf⟩ := hf
                                          refine sx_cv hm dX13_workOne_747 rs_RX13_667 mt_X13_work [.int v88] [] (b := a0) (ci := 13) rfl rfl rfl c89 (Nat.le_of_ble_eq_true rfl) (Nat.le_of_ble_eq_true rfl) (by omega) (by omega) (hrc.1 (by omega) (by omega) a0 v88 u86 e_u90) ?_
                                          clear e_u90
                                          show mx_S X F L 475 750 [(5, .int u65.1), (4, .int u63.1), (2, .int v59), (0, .ref a0), (1, .int a1)] [] u90 0 0 (none, r, 0, 0)
                                          refine mx_S.pu (pc2 := 751) (lv2 := [(5, .int u65.1), (4, .int u63.1), (2, .int v59), (0, .ref a0), (1, .int a1)]) (st2 := [.ref a0]) hm dX13_workOne_750 rfl ?_
                                          refine mx_S.pu (pc2 := 752) (lv2 := [(5, .int u65.1), (4, .int u63.1), (2, .int v59), (0, .ref a0), (1, .int a1)]) (st2 := [.ref a0, .ref a0]) hm dX13_workOne_751 rfl ?_
                                          replace hf := mx_sv_el hf; obtain ⟨v91, e_v91, hf⟩ := hf
                                          refine sx_get hm dX13_workOne_752 rs_RX13_629 (xgi_el e_v91) ?_
                                          clear e_v91
                                          refine sx_ic (v := 1) hm dX13_workOne_755 (by decide) ?_
                                          replace hf := xl_el hf; obtain ⟨v92, e_v92, hf⟩ := hf
                                          refine mx_S.pu (pc2 := 757) (lv2 := [(5, .int u65.1), (4, .int u63.1), (2, .int v59), (0, .ref a0), (1, .int a1)]) (st2 := [.int v92, .ref a0]) hm dX13_workOne_756 (by rw [← e_v92]; rfl) ?_
                                          clear e_v92
                                          replace hf := mx_sv_el hf; obtain ⟨h93, e_h93, hf⟩ := hf
                                          refine sx_put hm dX13_workOne_757 rs_RX13_629 ft_13_70 ⟨rfl, rfl⟩ (fun z => by cases z) e_h93 ?_
                                          clear e_h93
                                          refine mx_S.pu (pc2 := 761) (lv2 := [(5, .int u65.1), (4, .int u63.1), (2, .int v59), (0, .ref a0), (1, .int a1)]) (st2 := [.ref a0]) hm dX13_workOne_760 rfl ?_
                                          refine mx_S.pu (pc2 := 762) (lv2 := [(5, .int u65.1), (4, .int u63.1), (2, .int v59), (0, .ref a0), (1, .int a1)]) (st2 := [.int v59, .ref a0]) hm dX13_workOne_761 rfl ?_
                                          replace hf := mx_gd_el hf; obtain ⟨c94, hf⟩ := hf
                                          replace hf := mx_sv_el hf; obtain ⟨u95, e_u95, hf⟩ := hf
                                          refine sx_cv hm dX13_workOne_762 rs_RX13_640 mt_X13_push [.int v59] [] (b := a0) (ci := 13) rfl rfl rfl c94 (Nat.le_of_ble_eq_true rfl) (Nat.le_of_ble_eq_true rfl) (by omega) (by omega) (f_X13_push_ok X (by omega) (by omega) nn a0 v59 h93 e_u95) ?_
                                          clear e_u95
                                          show mx_S X F L 475 765 [(5, .int u65.1), (4, .int u63.1), (2, .int v59), (0, .ref a0), (1, .int a1)] [] u95 0 0 (none, r, 0, 0)
                                          refine mx_S.pu (pc2 := 766) (lv2 := [(5, .int u65.1), (4, .int u63.1), (2, .int v59), (0, .ref a0), (1, .int a1)]) (st2 := [.ref a0]) hm dX13_workOne_765 rfl ?_
                                          refine mx_S.pu (pc2 := 768) (lv2 := [(5, .int u65.1), (4, .int u63.1), (2, .int v59), (0, .ref a0), (1, .int a1)]) (st2 := [.int u65.1, .ref a0]) hm dX13_workOne_766 rfl ?_
                                          refine mx_S.pu (pc2 := 769) (lv2 := [(5, .int u65.1), (4, .int u63.1), (2, .int v59), (0, .ref a0), (1, .int a1)]) (st2 := [.ref a0, .int u65.1, .ref a0]) hm dX13_workOne_768 rfl ?_
                                          replace hf := mx_sv_el hf; obtain ⟨v96, e_v96, hf⟩ := hf
                                          refine sx_get hm dX13_workOne_769 rs_RX13_627 (xgi_el e_v96) ?_
                                          clear e_v96
                                          replace hf := mx_gd_el hf; obtain ⟨c97, hf⟩ := hf
                                          replace hf := mx_sv_el hf; obtain ⟨u98, e_u98, hf⟩ := hf
                                          refine sx_cv hm dX13_workOne_772 rs_RX13_682 mt_X13_stands [.int u65.1, .int v96] [] (b := a0) (ci := 13) rfl rfl rfl c97 (Nat.le_of_ble_eq_true rfl) (Nat.le_of_ble_eq_true rfl) (by omega) (by omega) (f_X13_stands_ok X (by omega) (by omega) nn a0 u65.1 v96 u95 e_u98) ?_
                                          clear e_u98
                                          show mx_S X F L 475 775 [(5, .int u65.1), (4, .int u63.1), (2, .int v59), (0, .ref a0), (1, .int a1)] [] u98 0 0 (none, r, 0, 0)
                                          refine mx_S.ext [] (mx_sub_pos [] rfl (show ([5, 4, 2, 0, 1] : List Nat).Nodup by decide)) ?_
                                          exact j_X13_workOne_775_ok X hF hL nn hrc u98 hf
                                        · exact absurd (Int32.toInt_inj.mp (z0.trans (by decide : (20 : Int) = (20 : Int32).toInt))) n_0
                                        · exact absurd (Int32.toInt_inj.mp (z0.trans (by decide : (21 : Int) = (21 : Int32).toInt))) n_1
                                        · exact absurd (Int32.toInt_inj.mp (z0.trans (by decide : (22 : Int) = (22 : Int32).toInt))) n_2
                                        · exact absurd (Int32.toInt_inj.mp (z0.trans (by decide : (23 : Int) = (23 : Int32).toInt))) n_3
                                        · exact absurd (Int32.toInt_inj.mp (z0.trans (by decide : (24 : Int) = (24 : Int32).toInt))) n_4
                                        · exact absurd (Int32.toInt_inj.mp (z0.trans (by decide : (25 : Int) = (25 : Int32).toInt))) n_5
                                        · exact absurd (Int32.toInt_inj.mp (z0.trans (by decide : (26 : Int) = (26 : Int32).toInt))) n_6
                                        · exact absurd (Int32.toInt_inj.mp (z0.trans (by decide : (27 : Int) = (27 : Int32).toInt))) n_7
                                        · exact absurd (Int32.toInt_inj.mp (z0.trans (by decide : (28 : Int) = (28 : Int32).toInt))) n_8
                                        · exact absurd (Int32.toInt_inj.mp (z0.trans (by decide : (29 : Int) = (29 : Int32).toInt))) n_9
                                        · exact absurd (Int32.toInt_inj.mp (z0.trans (by decide : (30 : Int) = (30 : Int32).toInt))) n_10
                                        · exact absurd (Int32.toInt_inj.mp (z0.trans (by decide : (31 : Int) = (31 : Int32).toInt))) n_11
                                        · exact absurd (Int32.toInt_inj.mp (z0.trans (by decide : (32 : Int) = (32 : Int32).toInt))) n_12
                                        · exact absurd (Int32.toInt_inj.mp (z0.trans (by decide : (33 : Int) = (33 : Int32).toInt))) n_13
                                        · exact absurd (Int32.toInt_inj.mp (z0.trans (by decide : (34 : Int) = (34 : Int32).toInt))) n_14
                                        · exact absurd (Int32.toInt_inj.mp (z0.trans (by decide : (35 : Int) = (35 : Int32).toInt))) n_15
                                        · exact absurd (Int32.toInt_inj.mp (z0.trans (by decide : (36 : Int) = (36 : Int32).toInt))) n_16
                                        · exact absurd (Int32.toInt_inj.mp (z0.trans (by decide : (37 : Int) = (37 : Int32).toInt))) n_17
                                        · exact absurd (Int32.toInt_inj.mp (z0.trans (by decide : (38 : Int) = (38 : Int32).toInt))) n_18
