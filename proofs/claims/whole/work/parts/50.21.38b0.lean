set_option maxHeartbeats 4000000 in
set_option maxRecDepth 20000 in
theorem w_X13_makeMethod_561_ok (X : Nat × (Nat → Int32)) {F L : Nat} (hF : 1661 ≤ F) (hL : 43548 ≤ L) (nn : Nat) {kk_412 : Nat → Int32 → Int32 → mx_H → Option mx_H} (hk_412 : ∀ (l0 : Nat) (l5 : Int32) (l6 : Int32) (h : mx_H) (r : mx_H), kk_412 l0 l5 l6 h = some r → mx_S X F L 482 412 [(0, .ref l0), (5, .int l5), (6, .int l6)] [] h 0 0 (none, r, 0, 0)) : ∀ (k : Nat) (l0 : Nat) (l5 : Int32) (l6 : Int32) (l7 : Int32) (l8 : Int32) (h : mx_H) (r : mx_H), w_X13_makeMethod_561 nn kk_412 k l0 l5 l6 l7 l8 h = some r → mx_S X F L 482 561 [(0, .ref l0), (5, .int l5), (6, .int l6), (7, .int l7), (8, .int l8)] [] h 0 0 (none, r, 0, 0) := by
  have hm : mx_mt 482 = some (yX13_makeMethod, cX13_makeMethod, 9, none) := mt_X13_makeMethod
  intro k
  induction k with
  | zero => intro l0 l5 l6 l7 l8 h r hf; cases hf
  | succ k ih =>
    intro l0 l5 l6 l7 l8 h r hf
    unfold w_X13_makeMethod_561 at hf
    refine mx_S.pu (pc2 := 563) (lv2 := [(0, .ref l0), (5, .int l5), (6, .int l6), (7, .int l7), (8, .int l8)]) (st2 := [.int l8]) hm dX13_makeMethod_561 rfl ?_
    refine mx_S.pu (pc2 := 564) (lv2 := [(0, .ref l0), (5, .int l5), (6, .int l6), (7, .int l7), (8, .int l8)]) (st2 := [.ref l0, .int l8]) hm dX13_makeMethod_563 rfl ?_
    replace hf := mx_sv_el hf; obtain ⟨v1, e_v1, hf⟩ := hf
    refine sx_get hm dX13_makeMethod_564 rs_RX13_162 (xgr_el e_v1) ?_
    clear e_v1
    refine mx_S.pu (pc2 := 569) (lv2 := [(0, .ref l0), (5, .int l5), (6, .int l6), (7, .int l7), (8, .int l8)]) (st2 := [.int l7, .ref v1, .int l8]) hm dX13_makeMethod_567 rfl ?_
    replace hf := mx_sv_el hf; obtain ⟨v2, e_v2, hf⟩ := hf
    refine sx_ald hm dX13_makeMethod_569 e_v2 ?_
    clear e_v2
    rcases mx_if_el hf with ⟨c15, hf⟩ | ⟨c15, hf⟩
    · refine sb_ic_ge hm dX13_makeMethod_570 (tgt := 606) rfl (fun _ => ?_) (fun z => absurd c15 z)
      replace hf := xl_el hf; obtain ⟨v3, e_v3, hf⟩ := hf
      refine mx_S.pu (pc2 := 609) (lv2 := [(6, .int v3), (0, .ref l0), (5, .int l5), (7, .int l7), (8, .int l8)]) (st2 := []) hm dX13_makeMethod_606 (by rw [← e_v3]; rfl) ?_
      clear e_v3
      refine mx_S.pu (pc2 := 412) (lv2 := [(6, .int v3), (0, .ref l0), (5, .int l5), (7, .int l7), (8, .int l8)]) (st2 := []) hm dX13_makeMethod_609 rfl ?_
      refine mx_S.ext [(0, .ref l0), (5, .int l5), (6, .int v3)] (mx_sub_pos [1, 2, 0] rfl (show ([6, 0, 5, 7, 8] : List Nat).Nodup by decide)) ?_
      exact hk_412 l0 l5 v3 h _ hf
    · refine sb_ic_ge hm dX13_makeMethod_570 (tgt := 606) rfl (fun z => absurd z c15) (fun _ => ?_)
      refine mx_S.pu (pc2 := 574) (lv2 := [(0, .ref l0), (5, .int l5), (6, .int l6), (7, .int l7), (8, .int l8)]) (st2 := [.ref l0]) hm dX13_makeMethod_573 rfl ?_
      refine mx_S.pu (pc2 := 575) (lv2 := [(0, .ref l0), (5, .int l5), (6, .int l6), (7, .int l7), (8, .int l8)]) (st2 := [.ref l0, .ref l0]) hm dX13_makeMethod_574 rfl ?_
      replace hf := mx_sv_el hf; obtain ⟨v4, e_v4, hf⟩ := hf
      refine sx_get hm dX13_makeMethod_575 rs_RX13_166 (xgr_el e_v4) ?_
      clear e_v4
      refine mx_S.pu (pc2 := 579) (lv2 := [(0, .ref l0), (5, .int l5), (6, .int l6), (7, .int l7), (8, .int l8)]) (st2 := [.ref l0, .ref v4, .ref l0]) hm dX13_makeMethod_578 rfl ?_
      replace hf := mx_sv_el hf; obtain ⟨v5, e_v5, hf⟩ := hf
      refine sx_get hm dX13_makeMethod_579 rs_RX13_156 (xgr_el e_v5) ?_
      clear e_v5
      refine mx_S.pu (pc2 := 584) (lv2 := [(0, .ref l0), (5, .int l5), (6, .int l6), (7, .int l7), (8, .int l8)]) (st2 := [.int l7, .ref v5, .ref v4, .ref l0]) hm dX13_makeMethod_582 rfl ?_
      replace hf := mx_sv_el hf; obtain ⟨v6, e_v6, hf⟩ := hf
      refine sx_ald hm dX13_makeMethod_584 e_v6 ?_
      clear e_v6
      refine mx_S.pu (pc2 := 586) (lv2 := [(0, .ref l0), (5, .int l5), (6, .int l6), (7, .int l7), (8, .int l8)]) (st2 := [.ref l0, .int v6, .ref v4, .ref l0]) hm dX13_makeMethod_585 rfl ?_
      replace hf := mx_sv_el hf; obtain ⟨v7, e_v7, hf⟩ := hf
      refine sx_get hm dX13_makeMethod_586 rs_RX13_159 (xgr_el e_v7) ?_
      clear e_v7
      refine mx_S.pu (pc2 := 591) (lv2 := [(0, .ref l0), (5, .int l5), (6, .int l6), (7, .int l7), (8, .int l8)]) (st2 := [.int l7, .ref v7, .int v6, .ref v4, .ref l0]) hm dX13_makeMethod_589 rfl ?_
      replace hf := mx_sv_el hf; obtain ⟨v8, e_v8, hf⟩ := hf
      refine sx_ald hm dX13_makeMethod_591 e_v8 ?_
      clear e_v8
      replace hf := xl_el hf; obtain ⟨v9, e_v9, hf⟩ := hf
      refine mx_S.pu (pc2 := 593) (lv2 := [(0, .ref l0), (5, .int l5), (6, .int l6), (7, .int l7), (8, .int l8)]) (st2 := [.int v9, .ref v4, .ref l0]) hm dX13_makeMethod_592 (by rw [← e_v9]; rfl) ?_
      clear e_v9
      refine mx_S.pu (pc2 := 595) (lv2 := [(0, .ref l0), (5, .int l5), (6, .int l6), (7, .int l7), (8, .int l8)]) (st2 := [.int l8, .int v9, .ref v4, .ref l0]) hm dX13_makeMethod_593 rfl ?_
      replace hf := xl_el hf; obtain ⟨v10, e_v10, hf⟩ := hf
      refine mx_S.pu (pc2 := 596) (lv2 := [(0, .ref l0), (5, .int l5), (6, .int l6), (7, .int l7), (8, .int l8)]) (st2 := [.int v10, .ref v4, .ref l0]) hm dX13_makeMethod_595 (by rw [← e_v10]; rfl) ?_
      clear e_v10
      replace hf := mx_sv_el hf; obtain ⟨v11, e_v11, hf⟩ := hf
      refine sx_ald hm dX13_makeMethod_596 e_v11 ?_
      clear e_v11
      replace hf := mx_gd_el hf; obtain ⟨c12, hf⟩ := hf
      replace hf := mx_sv_el hf; obtain ⟨u13, e_u13, hf⟩ := hf
      refine sx_cv hm dX13_makeMethod_597 rs_RX13_737 mt_X13_tellType [.int v11] [] (b := l0) (ci := 13) rfl rfl rfl c12 (Nat.le_of_ble_eq_true rfl) (Nat.le_of_ble_eq_true rfl) (by omega) (by omega) (f_X13_tellType_ok X (by omega) (by omega) nn l0 v11 h e_u13) ?_
      clear e_u13
      show mx_S X F L 482 600 [(0, .ref l0), (5, .int l5), (6, .int l6), (7, .int l7), (8, .int l8)] [] u13 0 0 (none, r, 0, 0)
      replace hf := xl_el hf; obtain ⟨v14, e_v14, hf⟩ := hf
      refine mx_S.pu (pc2 := 603) (lv2 := [(8, .int v14), (0, .ref l0), (5, .int l5), (6, .int l6), (7, .int l7)]) (st2 := []) hm dX13_makeMethod_600 (by rw [← e_v14]; rfl) ?_
      clear e_v14
      refine mx_S.pu (pc2 := 561) (lv2 := [(8, .int v14), (0, .ref l0), (5, .int l5), (6, .int l6), (7, .int l7)]) (st2 := []) hm dX13_makeMethod_603 rfl ?_
      refine mx_S.ext [(0, .ref l0), (5, .int l5), (6, .int l6), (7, .int l7), (8, .int v14)] (mx_sub_pos [1, 2, 3, 4, 0] rfl (show ([8, 0, 5, 6, 7] : List Nat).Nodup by decide)) ?_
      exact ih l0 l5 l6 l7 v14 u13 _ hf
set_option maxHeartbeats 4000000 in
set_option maxRecDepth 20000 in
theorem w_X13_makeMethod_510_ok (X : Nat × (Nat → Int32)) {F L : Nat} (hF : 1661 ≤ F) (hL : 43548 ≤ L) (nn : Nat) {kk_412 : Nat → Int32 → Int32 → mx_H → Option mx_H} (hk_412 : ∀ (l0 : Nat) (l5 : Int32) (l6 : Int32) (h : mx_H) (r : mx_H), kk_412 l0 l5 l6 h = some r → mx_S X F L 482 412 [(0, .ref l0), (5, .int l5), (6, .int l6)] [] h 0 0 (none, r, 0, 0)) : ∀ (k : Nat) (l0 : Nat) (l5 : Int32) (l6 : Int32) (l7 : Int32) (l8 : Int32) (h : mx_H) (r : mx_H), w_X13_makeMethod_510 nn kk_412 k l0 l5 l6 l7 l8 h = some r → mx_S X F L 482 510 [(0, .ref l0), (5, .int l5), (6, .int l6), (7, .int l7), (8, .int l8)] [] h 0 0 (none, r, 0, 0) := by
  have hm : mx_mt 482 = some (yX13_makeMethod, cX13_makeMethod, 9, none) := mt_X13_makeMethod
  intro k
  induction k with
  | zero => intro l0 l5 l6 l7 l8 h r hf; cases hf
  | succ k ih =>
    intro l0 l5 l6 l7 l8 h r hf
    unfold w_X13_makeMethod_510 at hf
    refine mx_S.pu (pc2 := 512) (lv2 := [(0, .ref l0), (5, .int l5), (6, .int l6), (7, .int l7), (8, .int l8)]) (st2 := [.int l8]) hm dX13_makeMethod_510 rfl ?_
    refine mx_S.pu (pc2 := 513) (lv2 := [(0, .ref l0), (5, .int l5), (6, .int l6), (7, .int l7), (8, .int l8)]) (st2 := [.ref l0, .int l8]) hm dX13_makeMethod_512 rfl ?_
    replace hf := mx_sv_el hf; obtain ⟨v16, e_v16, hf⟩ := hf
    refine sx_get hm dX13_makeMethod_513 rs_RX13_159 (xgr_el e_v16) ?_
    clear e_v16
    refine mx_S.pu (pc2 := 518) (lv2 := [(0, .ref l0), (5, .int l5), (6, .int l6), (7, .int l7), (8, .int l8)]) (st2 := [.int l7, .ref v16, .int l8]) hm dX13_makeMethod_516 rfl ?_
    replace hf := mx_sv_el hf; obtain ⟨v17, e_v17, hf⟩ := hf
    refine sx_ald hm dX13_makeMethod_518 e_v17 ?_
    clear e_v17
    rcases mx_if_el hf with ⟨c30, hf⟩ | ⟨c30, hf⟩
    · refine sb_ic_ge hm dX13_makeMethod_519 (tgt := 547) rfl (fun _ => ?_) (fun z => absurd c30 z)
      refine mx_S.pu (pc2 := 548) (lv2 := [(0, .ref l0), (5, .int l5), (6, .int l6), (7, .int l7), (8, .int l8)]) (st2 := [.ref l0]) hm dX13_makeMethod_547 rfl ?_
      refine mx_S.pu (pc2 := 549) (lv2 := [(0, .ref l0), (5, .int l5), (6, .int l6), (7, .int l7), (8, .int l8)]) (st2 := [.ref l0, .ref l0]) hm dX13_makeMethod_548 rfl ?_
      replace hf := mx_sv_el hf; obtain ⟨v18, e_v18, hf⟩ := hf
      refine sx_get hm dX13_makeMethod_549 rs_RX13_162 (xgr_el e_v18) ?_
      clear e_v18
      refine mx_S.pu (pc2 := 554) (lv2 := [(0, .ref l0), (5, .int l5), (6, .int l6), (7, .int l7), (8, .int l8)]) (st2 := [.int l7, .ref v18, .ref l0]) hm dX13_makeMethod_552 rfl ?_
      replace hf := mx_sv_el hf; obtain ⟨v19, e_v19, hf⟩ := hf
      refine sx_ald hm dX13_makeMethod_554 e_v19 ?_
      clear e_v19
      replace hf := mx_gd_el hf; obtain ⟨c20, hf⟩ := hf
      replace hf := mx_sv_el hf; obtain ⟨u21, e_u21, hf⟩ := hf
      refine sx_cv hm dX13_makeMethod_555 rs_RX13_731 mt_X13_tell [.int v19] [] (b := l0) (ci := 13) rfl rfl rfl c20 (Nat.le_of_ble_eq_true rfl) (Nat.le_of_ble_eq_true rfl) (by omega) (by omega) (f_X13_tell_ok X (by omega) (by omega) nn l0 v19 h e_u21) ?_
      clear e_u21
      show mx_S X F L 482 558 [(0, .ref l0), (5, .int l5), (6, .int l6), (7, .int l7), (8, .int l8)] [] u21 0 0 (none, r, 0, 0)
      refine sx_ic (v := 0) hm dX13_makeMethod_558 (by decide) ?_
      refine mx_S.pu (pc2 := 561) (lv2 := [(8, .int 0), (0, .ref l0), (5, .int l5), (6, .int l6), (7, .int l7)]) (st2 := []) hm dX13_makeMethod_559 rfl ?_
      refine mx_S.ext [(0, .ref l0), (5, .int l5), (6, .int l6), (7, .int l7), (8, .int 0)] (mx_sub_pos [1, 2, 3, 4, 0] rfl (show ([8, 0, 5, 6, 7] : List Nat).Nodup by decide)) ?_
      exact w_X13_makeMethod_561_ok X hF hL nn hk_412 nn l0 l5 l6 l7 0 u21 _ hf
    · refine sb_ic_ge hm dX13_makeMethod_519 (tgt := 547) rfl (fun z => absurd z c30) (fun _ => ?_)
      refine mx_S.pu (pc2 := 523) (lv2 := [(0, .ref l0), (5, .int l5), (6, .int l6), (7, .int l7), (8, .int l8)]) (st2 := [.ref l0]) hm dX13_makeMethod_522 rfl ?_
      refine mx_S.pu (pc2 := 524) (lv2 := [(0, .ref l0), (5, .int l5), (6, .int l6), (7, .int l7), (8, .int l8)]) (st2 := [.ref l0, .ref l0]) hm dX13_makeMethod_523 rfl ?_
      replace hf := mx_sv_el hf; obtain ⟨v22, e_v22, hf⟩ := hf
      refine sx_get hm dX13_makeMethod_524 rs_RX13_166 (xgr_el e_v22) ?_
      clear e_v22
      refine mx_S.pu (pc2 := 528) (lv2 := [(0, .ref l0), (5, .int l5), (6, .int l6), (7, .int l7), (8, .int l8)]) (st2 := [.ref l0, .ref v22, .ref l0]) hm dX13_makeMethod_527 rfl ?_
      replace hf := mx_sv_el hf; obtain ⟨v23, e_v23, hf⟩ := hf
      refine sx_get hm dX13_makeMethod_528 rs_RX13_156 (xgr_el e_v23) ?_
      clear e_v23
      refine mx_S.pu (pc2 := 533) (lv2 := [(0, .ref l0), (5, .int l5), (6, .int l6), (7, .int l7), (8, .int l8)]) (st2 := [.int l7, .ref v23, .ref v22, .ref l0]) hm dX13_makeMethod_531 rfl ?_
      replace hf := mx_sv_el hf; obtain ⟨v24, e_v24, hf⟩ := hf
      refine sx_ald hm dX13_makeMethod_533 e_v24 ?_
      clear e_v24
      refine mx_S.pu (pc2 := 536) (lv2 := [(0, .ref l0), (5, .int l5), (6, .int l6), (7, .int l7), (8, .int l8)]) (st2 := [.int l8, .int v24, .ref v22, .ref l0]) hm dX13_makeMethod_534 rfl ?_
      replace hf := xl_el hf; obtain ⟨v25, e_v25, hf⟩ := hf
      refine mx_S.pu (pc2 := 537) (lv2 := [(0, .ref l0), (5, .int l5), (6, .int l6), (7, .int l7), (8, .int l8)]) (st2 := [.int v25, .ref v22, .ref l0]) hm dX13_makeMethod_536 (by rw [← e_v25]; rfl) ?_
      clear e_v25
      replace hf := mx_sv_el hf; obtain ⟨v26, e_v26, hf⟩ := hf
      refine sx_ald hm dX13_makeMethod_537 e_v26 ?_
      clear e_v26
      replace hf := mx_gd_el hf; obtain ⟨c27, hf⟩ := hf
      replace hf := mx_sv_el hf; obtain ⟨u28, e_u28, hf⟩ := hf
      refine sx_cv hm dX13_makeMethod_538 rs_RX13_737 mt_X13_tellType [.int v26] [] (b := l0) (ci := 13) rfl rfl rfl c27 (Nat.le_of_ble_eq_true rfl) (Nat.le_of_ble_eq_true rfl) (by omega) (by omega) (f_X13_tellType_ok X (by omega) (by omega) nn l0 v26 h e_u28) ?_
      clear e_u28
      show mx_S X F L 482 541 [(0, .ref l0), (5, .int l5), (6, .int l6), (7, .int l7), (8, .int l8)] [] u28 0 0 (none, r, 0, 0)
      replace hf := xl_el hf; obtain ⟨v29, e_v29, hf⟩ := hf
      refine mx_S.pu (pc2 := 544) (lv2 := [(8, .int v29), (0, .ref l0), (5, .int l5), (6, .int l6), (7, .int l7)]) (st2 := []) hm dX13_makeMethod_541 (by rw [← e_v29]; rfl) ?_
      clear e_v29
      refine mx_S.pu (pc2 := 510) (lv2 := [(8, .int v29), (0, .ref l0), (5, .int l5), (6, .int l6), (7, .int l7)]) (st2 := []) hm dX13_makeMethod_544 rfl ?_
      refine mx_S.ext [(0, .ref l0), (5, .int l5), (6, .int l6), (7, .int l7), (8, .int v29)] (mx_sub_pos [1, 2, 3, 4, 0] rfl (show ([8, 0, 5, 6, 7] : List Nat).Nodup by decide)) ?_
      exact ih l0 l5 l6 l7 v29 u28 _ hf
set_option maxHeartbeats 4000000 in
set_option maxRecDepth 20000 in
theorem j_X13_makeMethod_471_ok (X : Nat × (Nat → Int32)) {F L : Nat} (hF : 1661 ≤ F) (hL : 43548 ≤ L) (nn : Nat) {kk_412 : Nat → Int32 → Int32 → mx_H → Option mx_H} (hk_412 : ∀ (l0 : Nat) (l5 : Int32) (l6 : Int32) (h : mx_H) (r : mx_H), kk_412 l0 l5 l6 h = some r → mx_S X F L 482 412 [(0, .ref l0), (5, .int l5), (6, .int l6)] [] h 0 0 (none, r, 0, 0)) {kk_427 : Nat → Int32 → Int32 → Int32 → Int32 → mx_H → Option mx_H} (hk_427 : ∀ (l0 : Nat) (l5 : Int32) (l6 : Int32) (l7 : Int32) (l8 : Int32) (h : mx_H) (r : mx_H), kk_427 l0 l5 l6 l7 l8 h = some r → mx_S X F L 482 427 [(0, .ref l0), (5, .int l5), (6, .int l6), (7, .int l7), (8, .int l8)] [] h 0 0 (none, r, 0, 0)) (l0 : Nat) (l5 : Int32) (l6 : Int32) (l8 : Int32) (h : mx_H) {r : mx_H} (hf : j_X13_makeMethod_471 nn kk_412 kk_427 l0 l5 l6 l8 h = some r) : mx_S X F L 482 471 [(0, .ref l0), (5, .int l5), (6, .int l6), (8, .int l8)] [] h 0 0 (none, r, 0, 0) := by
  have hm : mx_mt 482 = some (yX13_makeMethod, cX13_makeMethod, 9, none) := mt_X13_makeMethod
  unfold j_X13_makeMethod_471 at hf
  refine mx_S.pu (pc2 := 473) (lv2 := [(0, .ref l0), (5, .int l5), (6, .int l6), (8, .int l8)]) (st2 := [.int l8]) hm dX13_makeMethod_471 rfl ?_
  refine mx_S.pu (pc2 := 475) (lv2 := [(7, .int l8), (0, .ref l0), (5, .int l5), (6, .int l6), (8, .int l8)]) (st2 := []) hm dX13_makeMethod_473 rfl ?_
  replace hf := xl_el hf; obtain ⟨v31, e_v31, hf⟩ := hf
  refine mx_S.pu (pc2 := 478) (lv2 := [(8, .int v31), (7, .int l8), (0, .ref l0), (5, .int l5), (6, .int l6)]) (st2 := []) hm dX13_makeMethod_475 (by rw [← e_v31]; rfl) ?_
  clear e_v31
  refine mx_S.pu (pc2 := 427) (lv2 := [(8, .int v31), (7, .int l8), (0, .ref l0), (5, .int l5), (6, .int l6)]) (st2 := []) hm dX13_makeMethod_478 rfl ?_
  refine mx_S.ext [(0, .ref l0), (5, .int l5), (6, .int l6), (7, .int l8), (8, .int v31)] (mx_sub_pos [2, 3, 4, 1, 0] rfl (show ([8, 7, 0, 5, 6] : List Nat).Nodup by decide)) ?_
  exact hk_427 l0 l5 l6 l8 v31 h _ hf
set_option maxHeartbeats 4000000 in
set_option maxRecDepth 20000 in
theorem w_X13_makeMethod_427_ok (X : Nat × (Nat → Int32)) {F L : Nat} (hF : 1661 ≤ F) (hL : 43548 ≤ L) (nn : Nat) {kk_412 : Nat → Int32 → Int32 → mx_H → Option mx_H} (hk_412 : ∀ (l0 : Nat) (l5 : Int32) (l6 : Int32) (h : mx_H) (r : mx_H), kk_412 l0 l5 l6 h = some r → mx_S X F L 482 412 [(0, .ref l0), (5, .int l5), (6, .int l6)] [] h 0 0 (none, r, 0, 0)) : ∀ (k : Nat) (l0 : Nat) (l5 : Int32) (l6 : Int32) (l7 : Int32) (l8 : Int32) (h : mx_H) (r : mx_H), w_X13_makeMethod_427 nn kk_412 k l0 l5 l6 l7 l8 h = some r → mx_S X F L 482 427 [(0, .ref l0), (5, .int l5), (6, .int l6), (7, .int l7), (8, .int l8)] [] h 0 0 (none, r, 0, 0) := by
  have hm : mx_mt 482 = some (yX13_makeMethod, cX13_makeMethod, 9, none) := mt_X13_makeMethod
  intro k
  induction k with
  | zero => intro l0 l5 l6 l7 l8 h r hf; cases hf
  | succ k ih =>
    intro l0 l5 l6 l7 l8 h r hf
    unfold w_X13_makeMethod_427 at hf
    refine mx_S.pu (pc2 := 429) (lv2 := [(0, .ref l0), (5, .int l5), (6, .int l6), (7, .int l7), (8, .int l8)]) (st2 := [.int l8]) hm dX13_makeMethod_427 rfl ?_
    refine mx_S.pu (pc2 := 430) (lv2 := [(0, .ref l0), (5, .int l5), (6, .int l6), (7, .int l7), (8, .int l8)]) (st2 := [.ref l0, .int l8]) hm dX13_makeMethod_429 rfl ?_
    replace hf := mx_sv_el hf; obtain ⟨v32, e_v32, hf⟩ := hf
    refine sx_get hm dX13_makeMethod_430 rs_RX13_652 (xgi_el e_v32) ?_
    clear e_v32
    rcases mx_if_el hf with ⟨c52, hf⟩ | ⟨c52, hf⟩
    · refine sb_ic_ge hm dX13_makeMethod_433 (tgt := 481) rfl (fun _ => ?_) (fun z => absurd c52 z)
      refine mx_S.pu (pc2 := 482) (lv2 := [(0, .ref l0), (5, .int l5), (6, .int l6), (7, .int l7), (8, .int l8)]) (st2 := [.ref l0]) hm dX13_makeMethod_481 rfl ?_
      replace hf := mx_sv_el hf; obtain ⟨v33, e_v33, hf⟩ := hf
      refine sx_get hm dX13_makeMethod_482 rs_RX13_153 (xgr_el e_v33) ?_
      clear e_v33
      refine mx_S.pu (pc2 := 487) (lv2 := [(0, .ref l0), (5, .int l5), (6, .int l6), (7, .int l7), (8, .int l8)]) (st2 := [.int l7, .ref v33]) hm dX13_makeMethod_485 rfl ?_
      replace hf := mx_sv_el hf; obtain ⟨v34, e_v34, hf⟩ := hf
      refine sx_ald hm dX13_makeMethod_487 e_v34 ?_
      clear e_v34
      refine mx_S.pu (pc2 := 490) (lv2 := [(5, .int v34), (0, .ref l0), (6, .int l6), (7, .int l7), (8, .int l8)]) (st2 := []) hm dX13_makeMethod_488 rfl ?_
      refine mx_S.pu (pc2 := 491) (lv2 := [(5, .int v34), (0, .ref l0), (6, .int l6), (7, .int l7), (8, .int l8)]) (st2 := [.ref l0]) hm dX13_makeMethod_490 rfl ?_
      refine mx_S.pu (pc2 := 493) (lv2 := [(5, .int v34), (0, .ref l0), (6, .int l6), (7, .int l7), (8, .int l8)]) (st2 := [.int v34, .ref l0]) hm dX13_makeMethod_491 rfl ?_
      replace hf := mx_gd_el hf; obtain ⟨c35, hf⟩ := hf
      replace hf := mx_sv_el hf; obtain ⟨u36, e_u36, hf⟩ := hf
      refine sx_cv hm dX13_makeMethod_493 rs_RX13_734 mt_X13_tellPair [.int v34] [] (b := l0) (ci := 13) rfl rfl rfl c35 (Nat.le_of_ble_eq_true rfl) (Nat.le_of_ble_eq_true rfl) (by omega) (by omega) (f_X13_tellPair_ok X (by omega) (by omega) nn l0 v34 h e_u36) ?_
      clear e_u36
      show mx_S X F L 482 496 [(5, .int v34), (0, .ref l0), (6, .int l6), (7, .int l7), (8, .int l8)] [] u36 0 0 (none, r, 0, 0)
      refine mx_S.pu (pc2 := 497) (lv2 := [(5, .int v34), (0, .ref l0), (6, .int l6), (7, .int l7), (8, .int l8)]) (st2 := [.ref l0]) hm dX13_makeMethod_496 rfl ?_
      refine mx_S.pu (pc2 := 498) (lv2 := [(5, .int v34), (0, .ref l0), (6, .int l6), (7, .int l7), (8, .int l8)]) (st2 := [.ref l0, .ref l0]) hm dX13_makeMethod_497 rfl ?_
      replace hf := mx_sv_el hf; obtain ⟨v37, e_v37, hf⟩ := hf
      refine sx_get hm dX13_makeMethod_498 rs_RX13_159 (xgr_el e_v37) ?_
      clear e_v37
      refine mx_S.pu (pc2 := 503) (lv2 := [(5, .int v34), (0, .ref l0), (6, .int l6), (7, .int l7), (8, .int l8)]) (st2 := [.int l7, .ref v37, .ref l0]) hm dX13_makeMethod_501 rfl ?_
      replace hf := mx_sv_el hf; obtain ⟨v38, e_v38, hf⟩ := hf
      refine sx_ald hm dX13_makeMethod_503 e_v38 ?_
      clear e_v38
      replace hf := mx_gd_el hf; obtain ⟨c39, hf⟩ := hf
      replace hf := mx_sv_el hf; obtain ⟨u40, e_u40, hf⟩ := hf
      refine sx_cv hm dX13_makeMethod_504 rs_RX13_731 mt_X13_tell [.int v38] [] (b := l0) (ci := 13) rfl rfl rfl c39 (Nat.le_of_ble_eq_true rfl) (Nat.le_of_ble_eq_true rfl) (by omega) (by omega) (f_X13_tell_ok X (by omega) (by omega) nn l0 v38 u36 e_u40) ?_
      clear e_u40
      show mx_S X F L 482 507 [(5, .int v34), (0, .ref l0), (6, .int l6), (7, .int l7), (8, .int l8)] [] u40 0 0 (none, r, 0, 0)
      refine sx_ic (v := 0) hm dX13_makeMethod_507 (by decide) ?_
      refine mx_S.pu (pc2 := 510) (lv2 := [(8, .int 0), (5, .int v34), (0, .ref l0), (6, .int l6), (7, .int l7)]) (st2 := []) hm dX13_makeMethod_508 rfl ?_
      refine mx_S.ext [(0, .ref l0), (5, .int v34), (6, .int l6), (7, .int l7), (8, .int 0)] (mx_sub_pos [2, 1, 3, 4, 0] rfl (show ([8, 5, 0, 6, 7] : List Nat).Nodup by decide)) ?_
      exact w_X13_makeMethod_510_ok X hF hL nn hk_412 nn l0 v34 l6 l7 0 u40 _ hf
    · refine sb_ic_ge hm dX13_makeMethod_433 (tgt := 481) rfl (fun z => absurd z c52) (fun _ => ?_)
      refine mx_S.pu (pc2 := 437) (lv2 := [(0, .ref l0), (5, .int l5), (6, .int l6), (7, .int l7), (8, .int l8)]) (st2 := [.ref l0]) hm dX13_makeMethod_436 rfl ?_
      replace hf := mx_sv_el hf; obtain ⟨v41, e_v41, hf⟩ := hf
      refine sx_get hm dX13_makeMethod_437 rs_RX13_153 (xgr_el e_v41) ?_
      clear e_v41
      refine mx_S.pu (pc2 := 442) (lv2 := [(0, .ref l0), (5, .int l5), (6, .int l6), (7, .int l7), (8, .int l8)]) (st2 := [.int l8, .ref v41]) hm dX13_makeMethod_440 rfl ?_
      replace hf := mx_sv_el hf; obtain ⟨v42, e_v42, hf⟩ := hf
      refine sx_ald hm dX13_makeMethod_442 e_v42 ?_
      clear e_v42
      refine mx_S.pu (pc2 := 445) (lv2 := [(0, .ref l0), (5, .int l5), (6, .int l6), (7, .int l7), (8, .int l8)]) (st2 := [.int l5, .int v42]) hm dX13_makeMethod_443 rfl ?_
      rcases mx_if_el hf with ⟨c51, hf⟩ | ⟨c51, hf⟩
      · refine sb_ic_le hm dX13_makeMethod_445 (tgt := 475) rfl (fun _ => ?_) (fun z => absurd c51 z)
        replace hf := xl_el hf; obtain ⟨v43, e_v43, hf⟩ := hf
        refine mx_S.pu (pc2 := 478) (lv2 := [(8, .int v43), (0, .ref l0), (5, .int l5), (6, .int l6), (7, .int l7)]) (st2 := []) hm dX13_makeMethod_475 (by rw [← e_v43]; rfl) ?_
        clear e_v43
        refine mx_S.pu (pc2 := 427) (lv2 := [(8, .int v43), (0, .ref l0), (5, .int l5), (6, .int l6), (7, .int l7)]) (st2 := []) hm dX13_makeMethod_478 rfl ?_
        refine mx_S.ext [(0, .ref l0), (5, .int l5), (6, .int l6), (7, .int l7), (8, .int v43)] (mx_sub_pos [1, 2, 3, 4, 0] rfl (show ([8, 0, 5, 6, 7] : List Nat).Nodup by decide)) ?_
        exact ih l0 l5 l6 l7 v43 h _ hf
      · refine sb_ic_le hm dX13_makeMethod_445 (tgt := 475) rfl (fun z => absurd z c51) (fun _ => ?_)
        refine mx_S.pu (pc2 := 450) (lv2 := [(0, .ref l0), (5, .int l5), (6, .int l6), (7, .int l7), (8, .int l8)]) (st2 := [.int l7]) hm dX13_makeMethod_448 rfl ?_
        refine sx_ic (v := (-1)) hm dX13_makeMethod_450 (by decide) ?_
        rcases mx_if_el hf with ⟨c50, hf⟩ | ⟨c50, hf⟩
        · refine sb_ic_eq hm dX13_makeMethod_451 (tgt := 471) rfl (fun _ => ?_) (fun z => absurd c50 z)
          refine mx_S.ext [(0, .ref l0), (5, .int l5), (6, .int l6), (8, .int l8)] (mx_sub_pos [0, 1, 2, 4] rfl (show ([0, 5, 6, 7, 8] : List Nat).Nodup by decide)) ?_
          exact j_X13_makeMethod_471_ok X hF hL nn hk_412 ih l0 l5 l6 l8 h hf
        · refine sb_ic_eq hm dX13_makeMethod_451 (tgt := 471) rfl (fun z => absurd z c50) (fun _ => ?_)
          refine mx_S.pu (pc2 := 455) (lv2 := [(0, .ref l0), (5, .int l5), (6, .int l6), (7, .int l7), (8, .int l8)]) (st2 := [.ref l0]) hm dX13_makeMethod_454 rfl ?_
          replace hf := mx_sv_el hf; obtain ⟨v44, e_v44, hf⟩ := hf
          refine sx_get hm dX13_makeMethod_455 rs_RX13_153 (xgr_el e_v44) ?_
          clear e_v44
          refine mx_S.pu (pc2 := 460) (lv2 := [(0, .ref l0), (5, .int l5), (6, .int l6), (7, .int l7), (8, .int l8)]) (st2 := [.int l8, .ref v44]) hm dX13_makeMethod_458 rfl ?_
          replace hf := mx_sv_el hf; obtain ⟨v45, e_v45, hf⟩ := hf
          refine sx_ald hm dX13_makeMethod_460 e_v45 ?_
          clear e_v45
          refine mx_S.pu (pc2 := 462) (lv2 := [(0, .ref l0), (5, .int l5), (6, .int l6), (7, .int l7), (8, .int l8)]) (st2 := [.ref l0, .int v45]) hm dX13_makeMethod_461 rfl ?_
          replace hf := mx_sv_el hf; obtain ⟨v46, e_v46, hf⟩ := hf
          refine sx_get hm dX13_makeMethod_462 rs_RX13_153 (xgr_el e_v46) ?_
          clear e_v46
          refine mx_S.pu (pc2 := 467) (lv2 := [(0, .ref l0), (5, .int l5), (6, .int l6), (7, .int l7), (8, .int l8)]) (st2 := [.int l7, .ref v46, .int v45]) hm dX13_makeMethod_465 rfl ?_
          replace hf := mx_sv_el hf; obtain ⟨v47, e_v47, hf⟩ := hf
          refine sx_ald hm dX13_makeMethod_467 e_v47 ?_
          clear e_v47
          rcases mx_if_el hf with ⟨c49, hf⟩ | ⟨c49, hf⟩
          · refine sb_ic_ge hm dX13_makeMethod_468 (tgt := 475) rfl (fun _ => ?_) (fun z => absurd c49 z)
            replace hf := xl_el hf; obtain ⟨v48, e_v48, hf⟩ := hf
            refine mx_S.pu (pc2 := 478) (lv2 := [(8, .int v48), (0, .ref l0), (5, .int l5), (6, .int l6), (7, .int l7)]) (st2 := []) hm dX13_makeMethod_475 (by rw [← e_v48]; rfl) ?_
            clear e_v48
            refine mx_S.pu (pc2 := 427) (lv2 := [(8, .int v48), (0, .ref l0), (5, .int l5), (6, .int l6), (7, .int l7)]) (st2 := []) hm dX13_makeMethod_478 rfl ?_
            refine mx_S.ext [(0, .ref l0), (5, .int l5), (6, .int l6), (7, .int l7), (8, .int v48)] (mx_sub_pos [1, 2, 3, 4, 0] rfl (show ([8, 0, 5, 6, 7] : List Nat).Nodup by decide)) ?_
            exact ih l0 l5 l6 l7 v48 h _ hf
          · refine sb_ic_ge hm dX13_makeMethod_468 (tgt := 475) rfl (fun z => absurd z c49) (fun _ => ?_)
            refine mx_S.ext [(0, .ref l0), (5, .int l5), (6, .int l6), (8, .int l8)] (mx_sub_pos [0, 1, 2, 4] rfl (show ([0, 5, 6, 7, 8] : List Nat).Nodup by decide)) ?_
            exact j_X13_makeMethod_471_ok X hF hL nn hk_412 ih l0 l5 l6 l8 h hf
set_option maxHeartbeats 4000000 in
set_option maxRecDepth 20000 in
theorem w_X13_makeMethod_412_ok (X : Nat × (Nat → Int32)) {F L : Nat} (hF : 1661 ≤ F) (hL : 43548 ≤ L) (nn : Nat) : ∀ (k : Nat) (l0 : Nat) (l5 : Int32) (l6 : Int32) (h : mx_H) (r : mx_H), w_X13_makeMethod_412 nn k l0 l5 l6 h = some r → mx_S X F L 482 412 [(0, .ref l0), (5, .int l5), (6, .int l6)] [] h 0 0 (none, r, 0, 0) := by
  have hm : mx_mt 482 = some (yX13_makeMethod, cX13_makeMethod, 9, none) := mt_X13_makeMethod
  intro k
  induction k with
  | zero => intro l0 l5 l6 h r hf; cases hf
  | succ k ih =>
    intro l0 l5 l6 h r hf
    unfold w_X13_makeMethod_412 at hf
    refine mx_S.pu (pc2 := 414) (lv2 := [(0, .ref l0), (5, .int l5), (6, .int l6)]) (st2 := [.int l6]) hm dX13_makeMethod_412 rfl ?_
    refine mx_S.pu (pc2 := 415) (lv2 := [(0, .ref l0), (5, .int l5), (6, .int l6)]) (st2 := [.ref l0, .int l6]) hm dX13_makeMethod_414 rfl ?_
    replace hf := mx_sv_el hf; obtain ⟨v53, e_v53, hf⟩ := hf
    refine sx_get hm dX13_makeMethod_415 rs_RX13_652 (xgi_el e_v53) ?_
    clear e_v53
    rcases mx_if_el hf with ⟨c54, hf⟩ | ⟨c54, hf⟩
    · refine sb_ic_ge hm dX13_makeMethod_418 (tgt := 612) rfl (fun _ => ?_) (fun z => absurd c54 z)
      cases hf
      exact sx_ret hm dX13_makeMethod_612 rfl
    · refine sb_ic_ge hm dX13_makeMethod_418 (tgt := 612) rfl (fun z => absurd z c54) (fun _ => ?_)
      refine sx_ic (v := (-1)) hm dX13_makeMethod_421 (by decide) ?_
      refine mx_S.pu (pc2 := 424) (lv2 := [(7, .int (-1)), (0, .ref l0), (5, .int l5), (6, .int l6)]) (st2 := []) hm dX13_makeMethod_422 rfl ?_
      refine sx_ic (v := 0) hm dX13_makeMethod_424 (by decide) ?_
      refine mx_S.pu (pc2 := 427) (lv2 := [(8, .int 0), (7, .int (-1)), (0, .ref l0), (5, .int l5), (6, .int l6)]) (st2 := []) hm dX13_makeMethod_425 rfl ?_
      refine mx_S.ext [(0, .ref l0), (5, .int l5), (6, .int l6), (7, .int (-1)), (8, .int 0)] (mx_sub_pos [2, 3, 4, 1, 0] rfl (show ([8, 7, 0, 5, 6] : List Nat).Nodup by decide)) ?_
      exact w_X13_makeMethod_427_ok X hF hL nn ih nn l0 l5 l6 (-1) 0 h _ hf
set_option maxHeartbeats 4000000 in
set_option maxRecDepth 20000 in
theorem w_X13_makeMethod_335_ok (X : Nat × (Nat → Int32)) {F L : Nat} (hF : 1661 ≤ F) (hL : 43548 ≤ L) (nn : Nat) : ∀ (k : Nat) (l0 : Nat) (l5 : Int32) (h : mx_H) (r : mx_H), w_X13_makeMethod_335 nn k l0 l5 h = some r → mx_S X F L 482 335 [(0, .ref l0), (5, .int l5)] [] h 0 0 (none, r, 0, 0) := by
  have hm : mx_mt 482 = some (yX13_makeMethod, cX13_makeMethod, 9, none) := mt_X13_makeMethod
  intro k
  induction k with
  | zero => intro l0 l5 h r hf; cases hf
  | succ k ih =>
    intro l0 l5 h r hf
    unfold w_X13_makeMethod_335 at hf
    refine mx_S.pu (pc2 := 337) (lv2 := [(0, .ref l0), (5, .int l5)]) (st2 := [.int l5]) hm dX13_makeMethod_335 rfl ?_
    refine mx_S.pu (pc2 := 338) (lv2 := [(0, .ref l0), (5, .int l5)]) (st2 := [.ref l0, .int l5]) hm dX13_makeMethod_337 rfl ?_
    replace hf := mx_sv_el hf; obtain ⟨v55, e_v55, hf⟩ := hf
    refine sx_get hm dX13_makeMethod_338 rs_RX13_694 (xgi_el e_v55) ?_
    clear e_v55
    rcases mx_if_el hf with ⟨c78, hf⟩ | ⟨c78, hf⟩
    · refine sb_ic_ge hm dX13_makeMethod_341 (tgt := 398) rfl (fun _ => ?_) (fun z => absurd c78 z)
      refine mx_S.pu (pc2 := 399) (lv2 := [(0, .ref l0), (5, .int l5)]) (st2 := [.ref l0]) hm dX13_makeMethod_398 rfl ?_
      refine mx_S.pu (pc2 := 400) (lv2 := [(0, .ref l0), (5, .int l5)]) (st2 := [.ref l0, .ref l0]) hm dX13_makeMethod_399 rfl ?_
      replace hf := mx_sv_el hf; obtain ⟨v56, e_v56, hf⟩ := hf
      refine sx_get hm dX13_makeMethod_400 rs_RX13_652 (xgi_el e_v56) ?_
      clear e_v56
      replace hf := mx_gd_el hf; obtain ⟨c57, hf⟩ := hf
      replace hf := mx_sv_el hf; obtain ⟨u58, e_u58, hf⟩ := hf
      refine sx_cv hm dX13_makeMethod_403 rs_RX13_731 mt_X13_tell [.int v56] [] (b := l0) (ci := 13) rfl rfl rfl c57 (Nat.le_of_ble_eq_true rfl) (Nat.le_of_ble_eq_true rfl) (by omega) (by omega) (f_X13_tell_ok X (by omega) (by omega) nn l0 v56 h e_u58) ?_
      clear e_u58
      show mx_S X F L 482 406 [(0, .ref l0), (5, .int l5)] [] u58 0 0 (none, r, 0, 0)
      refine sx_ic (v := (-1)) hm dX13_makeMethod_406 (by decide) ?_
      refine mx_S.pu (pc2 := 409) (lv2 := [(5, .int (-1)), (0, .ref l0)]) (st2 := []) hm dX13_makeMethod_407 rfl ?_
      refine sx_ic (v := 0) hm dX13_makeMethod_409 (by decide) ?_
      refine mx_S.pu (pc2 := 412) (lv2 := [(6, .int 0), (5, .int (-1)), (0, .ref l0)]) (st2 := []) hm dX13_makeMethod_410 rfl ?_
      refine mx_S.ext [(0, .ref l0), (5, .int (-1)), (6, .int 0)] (mx_sub_pos [2, 1, 0] rfl (show ([6, 5, 0] : List Nat).Nodup by decide)) ?_
      exact w_X13_makeMethod_412_ok X hF hL nn nn l0 (-1) 0 u58 _ hf
    · refine sb_ic_ge hm dX13_makeMethod_341 (tgt := 398) rfl (fun z => absurd z c78) (fun _ => ?_)
      refine mx_S.pu (pc2 := 345) (lv2 := [(0, .ref l0), (5, .int l5)]) (st2 := [.ref l0]) hm dX13_makeMethod_344 rfl ?_
      refine mx_S.pu (pc2 := 346) (lv2 := [(0, .ref l0), (5, .int l5)]) (st2 := [.ref l0, .ref l0]) hm dX13_makeMethod_345 rfl ?_
      replace hf := mx_sv_el hf; obtain ⟨v59, e_v59, hf⟩ := hf
      refine sx_get hm dX13_makeMethod_346 rs_RX13_169 (xgr_el e_v59) ?_
      clear e_v59
      refine mx_S.pu (pc2 := 351) (lv2 := [(0, .ref l0), (5, .int l5)]) (st2 := [.int l5, .ref v59, .ref l0]) hm dX13_makeMethod_349 rfl ?_
      replace hf := mx_sv_el hf; obtain ⟨v60, e_v60, hf⟩ := hf
      refine sx_ald hm dX13_makeMethod_351 e_v60 ?_
      clear e_v60
      replace hf := mx_gd_el hf; obtain ⟨c61, hf⟩ := hf
      replace hf := mx_sv_el hf; obtain ⟨u62, e_u62, hf⟩ := hf
      refine sx_cv hm dX13_makeMethod_352 rs_RX13_734 mt_X13_tellPair [.int v60] [] (b := l0) (ci := 13) rfl rfl rfl c61 (Nat.le_of_ble_eq_true rfl) (Nat.le_of_ble_eq_true rfl) (by omega) (by omega) (f_X13_tellPair_ok X (by omega) (by omega) nn l0 v60 h e_u62) ?_
      clear e_u62
      show mx_S X F L 482 355 [(0, .ref l0), (5, .int l5)] [] u62 0 0 (none, r, 0, 0)
      refine mx_S.pu (pc2 := 356) (lv2 := [(0, .ref l0), (5, .int l5)]) (st2 := [.ref l0]) hm dX13_makeMethod_355 rfl ?_
      refine mx_S.pu (pc2 := 357) (lv2 := [(0, .ref l0), (5, .int l5)]) (st2 := [.ref l0, .ref l0]) hm dX13_makeMethod_356 rfl ?_
      replace hf := mx_sv_el hf; obtain ⟨v63, e_v63, hf⟩ := hf
      refine sx_get hm dX13_makeMethod_357 rs_RX13_172 (xgr_el e_v63) ?_
      clear e_v63
      refine mx_S.pu (pc2 := 362) (lv2 := [(0, .ref l0), (5, .int l5)]) (st2 := [.int l5, .ref v63, .ref l0]) hm dX13_makeMethod_360 rfl ?_
      replace hf := mx_sv_el hf; obtain ⟨v64, e_v64, hf⟩ := hf
      refine sx_ald hm dX13_makeMethod_362 e_v64 ?_
      clear e_v64
      replace hf := mx_gd_el hf; obtain ⟨c65, hf⟩ := hf
      replace hf := mx_sv_el hf; obtain ⟨u66, e_u66, hf⟩ := hf
      refine sx_cv hm dX13_makeMethod_363 rs_RX13_734 mt_X13_tellPair [.int v64] [] (b := l0) (ci := 13) rfl rfl rfl c65 (Nat.le_of_ble_eq_true rfl) (Nat.le_of_ble_eq_true rfl) (by omega) (by omega) (f_X13_tellPair_ok X (by omega) (by omega) nn l0 v64 u62 e_u66) ?_
      clear e_u66
      show mx_S X F L 482 366 [(0, .ref l0), (5, .int l5)] [] u66 0 0 (none, r, 0, 0)
      refine mx_S.pu (pc2 := 367) (lv2 := [(0, .ref l0), (5, .int l5)]) (st2 := [.ref l0]) hm dX13_makeMethod_366 rfl ?_
      refine mx_S.pu (pc2 := 368) (lv2 := [(0, .ref l0), (5, .int l5)]) (st2 := [.ref l0, .ref l0]) hm dX13_makeMethod_367 rfl ?_
      replace hf := mx_sv_el hf; obtain ⟨v67, e_v67, hf⟩ := hf
      refine sx_get hm dX13_makeMethod_368 rs_RX13_175 (xgr_el e_v67) ?_
      clear e_v67
      refine mx_S.pu (pc2 := 373) (lv2 := [(0, .ref l0), (5, .int l5)]) (st2 := [.int l5, .ref v67, .ref l0]) hm dX13_makeMethod_371 rfl ?_
      replace hf := mx_sv_el hf; obtain ⟨v68, e_v68, hf⟩ := hf
      refine sx_ald hm dX13_makeMethod_373 e_v68 ?_
      clear e_v68
      replace hf := mx_gd_el hf; obtain ⟨c69, hf⟩ := hf
      replace hf := mx_sv_el hf; obtain ⟨u70, e_u70, hf⟩ := hf
      refine sx_cv hm dX13_makeMethod_374 rs_RX13_734 mt_X13_tellPair [.int v68] [] (b := l0) (ci := 13) rfl rfl rfl c69 (Nat.le_of_ble_eq_true rfl) (Nat.le_of_ble_eq_true rfl) (by omega) (by omega) (f_X13_tellPair_ok X (by omega) (by omega) nn l0 v68 u66 e_u70) ?_
      clear e_u70
      show mx_S X F L 482 377 [(0, .ref l0), (5, .int l5)] [] u70 0 0 (none, r, 0, 0)
      refine mx_S.pu (pc2 := 378) (lv2 := [(0, .ref l0), (5, .int l5)]) (st2 := [.ref l0]) hm dX13_makeMethod_377 rfl ?_
      refine mx_S.pu (pc2 := 379) (lv2 := [(0, .ref l0), (5, .int l5)]) (st2 := [.ref l0, .ref l0]) hm dX13_makeMethod_378 rfl ?_
      refine mx_S.pu (pc2 := 380) (lv2 := [(0, .ref l0), (5, .int l5)]) (st2 := [.ref l0, .ref l0, .ref l0]) hm dX13_makeMethod_379 rfl ?_
      replace hf := mx_sv_el hf; obtain ⟨v71, e_v71, hf⟩ := hf
      refine sx_get hm dX13_makeMethod_380 rs_RX13_178 (xgr_el e_v71) ?_
      clear e_v71
      refine mx_S.pu (pc2 := 385) (lv2 := [(0, .ref l0), (5, .int l5)]) (st2 := [.int l5, .ref v71, .ref l0, .ref l0]) hm dX13_makeMethod_383 rfl ?_
      replace hf := mx_sv_el hf; obtain ⟨v72, e_v72, hf⟩ := hf
      refine sx_ald hm dX13_makeMethod_385 e_v72 ?_
      clear e_v72
      replace hf := mx_gd_el hf; obtain ⟨c73, hf⟩ := hf
      replace hf := mx_sv_el hf; obtain ⟨u74, e_u74, hf⟩ := hf
      refine sx_cv hm dX13_makeMethod_386 rs_RX13_618 mt_X13_classConstant [.int v72] [.ref l0] (b := l0) (ci := 13) rfl rfl rfl c73 (Nat.le_of_ble_eq_true rfl) (Nat.le_of_ble_eq_true rfl) (by omega) (by omega) (f_X13_classConstant_ok X (by omega) (by omega) nn l0 v72 u70 e_u74) ?_
      clear e_u74
      show mx_S X F L 482 389 [(0, .ref l0), (5, .int l5)] [.int u74.1, .ref l0] u74.2 0 0 (none, r, 0, 0)
      replace hf := mx_gd_el hf; obtain ⟨c75, hf⟩ := hf
      replace hf := mx_sv_el hf; obtain ⟨u76, e_u76, hf⟩ := hf
      refine sx_cv hm dX13_makeMethod_389 rs_RX13_731 mt_X13_tell [.int u74.1] [] (b := l0) (ci := 13) rfl rfl rfl c75 (Nat.le_of_ble_eq_true rfl) (Nat.le_of_ble_eq_true rfl) (by omega) (by omega) (f_X13_tell_ok X (by omega) (by omega) nn l0 u74.1 u74.2 e_u76) ?_
      clear e_u76
      show mx_S X F L 482 392 [(0, .ref l0), (5, .int l5)] [] u76 0 0 (none, r, 0, 0)
      replace hf := xl_el hf; obtain ⟨v77, e_v77, hf⟩ := hf
      refine mx_S.pu (pc2 := 395) (lv2 := [(5, .int v77), (0, .ref l0)]) (st2 := []) hm dX13_makeMethod_392 (by rw [← e_v77]; rfl) ?_
      clear e_v77
      refine mx_S.pu (pc2 := 335) (lv2 := [(5, .int v77), (0, .ref l0)]) (st2 := []) hm dX13_makeMethod_395 rfl ?_
      refine mx_S.ext [(0, .ref l0), (5, .int v77)] (mx_sub_pos [1, 0] rfl (show ([5, 0] : List Nat).Nodup by decide)) ?_
      exact ih l0 v77 u76 _ hf
set_option maxHeartbeats 4000000 in
set_option maxRecDepth 20000 in
theorem w_X13_makeMethod_298_ok (X : Nat × (Nat → Int32)) {F L : Nat} (hF : 1661 ≤ F) (hL : 43548 ≤ L) (nn : Nat) : ∀ (k : Nat) (l0 : Nat) (l5 : Int32) (h : mx_H) (r : mx_H), w_X13_makeMethod_298 nn k l0 l5 h = some r → mx_S X F L 482 298 [(0, .ref l0), (5, .int l5)] [] h 0 0 (none, r, 0, 0) := by
  have hm : mx_mt 482 = some (yX13_makeMethod, cX13_makeMethod, 9, none) := mt_X13_makeMethod
  intro k
  induction k with
  | zero => intro l0 l5 h r hf; cases hf
  | succ k ih =>
    intro l0 l5 h r hf
    unfold w_X13_makeMethod_298 at hf
    refine mx_S.pu (pc2 := 300) (lv2 := [(0, .ref l0), (5, .int l5)]) (st2 := [.int l5]) hm dX13_makeMethod_298 rfl ?_
    refine mx_S.pu (pc2 := 301) (lv2 := [(0, .ref l0), (5, .int l5)]) (st2 := [.ref l0, .int l5]) hm dX13_makeMethod_300 rfl ?_
    replace hf := mx_sv_el hf; obtain ⟨v79, e_v79, hf⟩ := hf
    refine sx_get hm dX13_makeMethod_301 rs_RX13_627 (xgi_el e_v79) ?_
    clear e_v79
    rcases mx_if_el hf with ⟨c88, hf⟩ | ⟨c88, hf⟩
    · refine sb_ic_ge hm dX13_makeMethod_304 (tgt := 324) rfl (fun _ => ?_) (fun z => absurd c88 z)
      refine mx_S.pu (pc2 := 325) (lv2 := [(0, .ref l0), (5, .int l5)]) (st2 := [.ref l0]) hm dX13_makeMethod_324 rfl ?_
      refine mx_S.pu (pc2 := 326) (lv2 := [(0, .ref l0), (5, .int l5)]) (st2 := [.ref l0, .ref l0]) hm dX13_makeMethod_325 rfl ?_
      replace hf := mx_sv_el hf; obtain ⟨v80, e_v80, hf⟩ := hf
      refine sx_get hm dX13_makeMethod_326 rs_RX13_694 (xgi_el e_v80) ?_
      clear e_v80
      replace hf := mx_gd_el hf; obtain ⟨c81, hf⟩ := hf
      replace hf := mx_sv_el hf; obtain ⟨u82, e_u82, hf⟩ := hf
      refine sx_cv hm dX13_makeMethod_329 rs_RX13_731 mt_X13_tell [.int v80] [] (b := l0) (ci := 13) rfl rfl rfl c81 (Nat.le_of_ble_eq_true rfl) (Nat.le_of_ble_eq_true rfl) (by omega) (by omega) (f_X13_tell_ok X (by omega) (by omega) nn l0 v80 h e_u82) ?_
      clear e_u82
      show mx_S X F L 482 332 [(0, .ref l0), (5, .int l5)] [] u82 0 0 (none, r, 0, 0)
      refine sx_ic (v := 0) hm dX13_makeMethod_332 (by decide) ?_
      refine mx_S.pu (pc2 := 335) (lv2 := [(5, .int 0), (0, .ref l0)]) (st2 := []) hm dX13_makeMethod_333 rfl ?_
      refine mx_S.ext [(0, .ref l0), (5, .int 0)] (mx_sub_pos [1, 0] rfl (show ([5, 0] : List Nat).Nodup by decide)) ?_
      exact w_X13_makeMethod_335_ok X hF hL nn nn l0 0 u82 _ hf
    · refine sb_ic_ge hm dX13_makeMethod_304 (tgt := 324) rfl (fun z => absurd z c88) (fun _ => ?_)
      refine mx_S.pu (pc2 := 308) (lv2 := [(0, .ref l0), (5, .int l5)]) (st2 := [.ref l0]) hm dX13_makeMethod_307 rfl ?_
      refine mx_S.pu (pc2 := 309) (lv2 := [(0, .ref l0), (5, .int l5)]) (st2 := [.ref l0, .ref l0]) hm dX13_makeMethod_308 rfl ?_
      replace hf := mx_sv_el hf; obtain ⟨v83, e_v83, hf⟩ := hf
      refine sx_get hm dX13_makeMethod_309 rs_RX13_147 (xgr_el e_v83) ?_
      clear e_v83
      refine mx_S.pu (pc2 := 314) (lv2 := [(0, .ref l0), (5, .int l5)]) (st2 := [.int l5, .ref v83, .ref l0]) hm dX13_makeMethod_312 rfl ?_
      replace hf := mx_sv_el hf; obtain ⟨v84, e_v84, hf⟩ := hf
      refine sx_ald hm dX13_makeMethod_314 e_v84 ?_
      clear e_v84
      replace hf := mx_gd_el hf; obtain ⟨c85, hf⟩ := hf
      replace hf := mx_sv_el hf; obtain ⟨u86, e_u86, hf⟩ := hf
      refine sx_cv hm dX13_makeMethod_315 rs_RX13_731 mt_X13_tell [.int v84] [] (b := l0) (ci := 13) rfl rfl rfl c85 (Nat.le_of_ble_eq_true rfl) (Nat.le_of_ble_eq_true rfl) (by omega) (by omega) (f_X13_tell_ok X (by omega) (by omega) nn l0 v84 h e_u86) ?_
      clear e_u86
      show mx_S X F L 482 318 [(0, .ref l0), (5, .int l5)] [] u86 0 0 (none, r, 0, 0)
      replace hf := xl_el hf; obtain ⟨v87, e_v87, hf⟩ := hf
      refine mx_S.pu (pc2 := 321) (lv2 := [(5, .int v87), (0, .ref l0)]) (st2 := []) hm dX13_makeMethod_318 (by rw [← e_v87]; rfl) ?_
      clear e_v87
      refine mx_S.pu (pc2 := 298) (lv2 := [(5, .int v87), (0, .ref l0)]) (st2 := []) hm dX13_makeMethod_321 rfl ?_
      refine mx_S.ext [(0, .ref l0), (5, .int v87)] (mx_sub_pos [1, 0] rfl (show ([5, 0] : List Nat).Nodup by decide)) ?_
      exact ih l0 v87 u86 _ hf
set_option maxHeartbeats 4000000 in
set_option maxRecDepth 20000 in
theorem j_X13_makeMethod_260_ok (X : Nat × (Nat → Int32)) {F L : Nat} (hF : 1661 ≤ F) (hL : 43548 ≤ L) (nn : Nat) (l0 : Nat) (l2 : Int32) (l3 : Int32) (l4 : Int32) (s0 : Int32) (s1 : Nat) (h : mx_H) {r : mx_H} (hf : j_X13_makeMethod_260 nn l0 l2 l3 l4 s0 s1 h = some r) : mx_S X F L 482 260 [(0, .ref l0), (2, .int l2), (3, .int l3), (4, .int l4)] [.int s0, .ref s1] h 0 0 (none, r, 0, 0) := by
  have hm : mx_mt 482 = some (yX13_makeMethod, cX13_makeMethod, 9, none) := mt_X13_makeMethod
  unfold j_X13_makeMethod_260 at hf
  replace hf := mx_gd_el hf; obtain ⟨c89, hf⟩ := hf
  replace hf := mx_sv_el hf; obtain ⟨u90, e_u90, hf⟩ := hf
  refine sx_cv hm dX13_makeMethod_260 rs_RX13_731 mt_X13_tell [.int s0] [] (b := s1) (ci := 13) rfl rfl rfl c89 (Nat.le_of_ble_eq_true rfl) (Nat.le_of_ble_eq_true rfl) (by omega) (by omega) (f_X13_tell_ok X (by omega) (by omega) nn s1 s0 h e_u90) ?_
  clear e_u90
  show mx_S X F L 482 263 [(0, .ref l0), (2, .int l2), (3, .int l3), (4, .int l4)] [] u90 0 0 (none, r, 0, 0)
  refine mx_S.pu (pc2 := 264) (lv2 := [(0, .ref l0), (2, .int l2), (3, .int l3), (4, .int l4)]) (st2 := [.ref l0]) hm dX13_makeMethod_263 rfl ?_
  refine mx_S.pu (pc2 := 265) (lv2 := [(0, .ref l0), (2, .int l2), (3, .int l3), (4, .int l4)]) (st2 := [.int l2, .ref l0]) hm dX13_makeMethod_264 rfl ?_
  replace hf := mx_gd_el hf; obtain ⟨c91, hf⟩ := hf
  replace hf := mx_sv_el hf; obtain ⟨u92, e_u92, hf⟩ := hf
  refine sx_cv hm dX13_makeMethod_265 rs_RX13_731 mt_X13_tell [.int l2] [] (b := l0) (ci := 13) rfl rfl rfl c91 (Nat.le_of_ble_eq_true rfl) (Nat.le_of_ble_eq_true rfl) (by omega) (by omega) (f_X13_tell_ok X (by omega) (by omega) nn l0 l2 u90 e_u92) ?_
  clear e_u92
  show mx_S X F L 482 268 [(0, .ref l0), (2, .int l2), (3, .int l3), (4, .int l4)] [] u92 0 0 (none, r, 0, 0)
  refine mx_S.pu (pc2 := 269) (lv2 := [(0, .ref l0), (2, .int l2), (3, .int l3), (4, .int l4)]) (st2 := [.ref l0]) hm dX13_makeMethod_268 rfl ?_
  refine mx_S.pu (pc2 := 270) (lv2 := [(0, .ref l0), (2, .int l2), (3, .int l3), (4, .int l4)]) (st2 := [.int l3, .ref l0]) hm dX13_makeMethod_269 rfl ?_
  replace hf := mx_gd_el hf; obtain ⟨c93, hf⟩ := hf
  replace hf := mx_sv_el hf; obtain ⟨u94, e_u94, hf⟩ := hf
  refine sx_cv hm dX13_makeMethod_270 rs_RX13_731 mt_X13_tell [.int l3] [] (b := l0) (ci := 13) rfl rfl rfl c93 (Nat.le_of_ble_eq_true rfl) (Nat.le_of_ble_eq_true rfl) (by omega) (by omega) (f_X13_tell_ok X (by omega) (by omega) nn l0 l3 u92 e_u94) ?_
  clear e_u94
  show mx_S X F L 482 273 [(0, .ref l0), (2, .int l2), (3, .int l3), (4, .int l4)] [] u94 0 0 (none, r, 0, 0)
  refine mx_S.pu (pc2 := 274) (lv2 := [(0, .ref l0), (2, .int l2), (3, .int l3), (4, .int l4)]) (st2 := [.ref l0]) hm dX13_makeMethod_273 rfl ?_
  refine mx_S.pu (pc2 := 275) (lv2 := [(0, .ref l0), (2, .int l2), (3, .int l3), (4, .int l4)]) (st2 := [.ref l0, .ref l0]) hm dX13_makeMethod_274 rfl ?_
  replace hf := mx_sv_el hf; obtain ⟨v95, e_v95, hf⟩ := hf
  refine sx_get hm dX13_makeMethod_275 rs_RX13_632 (xgi_el e_v95) ?_
  clear e_v95
  replace hf := mx_gd_el hf; obtain ⟨c96, hf⟩ := hf
  replace hf := mx_sv_el hf; obtain ⟨u97, e_u97, hf⟩ := hf
  refine sx_cv hm dX13_makeMethod_278 rs_RX13_731 mt_X13_tell [.int v95] [] (b := l0) (ci := 13) rfl rfl rfl c96 (Nat.le_of_ble_eq_true rfl) (Nat.le_of_ble_eq_true rfl) (by omega) (by omega) (f_X13_tell_ok X (by omega) (by omega) nn l0 v95 u94 e_u97) ?_
  clear e_u97
  show mx_S X F L 482 281 [(0, .ref l0), (2, .int l2), (3, .int l3), (4, .int l4)] [] u97 0 0 (none, r, 0, 0)
  refine mx_S.pu (pc2 := 282) (lv2 := [(0, .ref l0), (2, .int l2), (3, .int l3), (4, .int l4)]) (st2 := [.ref l0]) hm dX13_makeMethod_281 rfl ?_
  refine mx_S.pu (pc2 := 284) (lv2 := [(0, .ref l0), (2, .int l2), (3, .int l3), (4, .int l4)]) (st2 := [.int l4, .ref l0]) hm dX13_makeMethod_282 rfl ?_
  replace hf := mx_gd_el hf; obtain ⟨c98, hf⟩ := hf
  replace hf := mx_sv_el hf; obtain ⟨u99, e_u99, hf⟩ := hf
  refine sx_cv hm dX13_makeMethod_284 rs_RX13_731 mt_X13_tell [.int l4] [] (b := l0) (ci := 13) rfl rfl rfl c98 (Nat.le_of_ble_eq_true rfl) (Nat.le_of_ble_eq_true rfl) (by omega) (by omega) (f_X13_tell_ok X (by omega) (by omega) nn l0 l4 u97 e_u99) ?_
  clear e_u99
  show mx_S X F L 482 287 [(0, .ref l0), (2, .int l2), (3, .int l3), (4, .int l4)] [] u99 0 0 (none, r, 0, 0)
  refine mx_S.pu (pc2 := 288) (lv2 := [(0, .ref l0), (2, .int l2), (3, .int l3), (4, .int l4)]) (st2 := [.ref l0]) hm dX13_makeMethod_287 rfl ?_
  refine mx_S.pu (pc2 := 289) (lv2 := [(0, .ref l0), (2, .int l2), (3, .int l3), (4, .int l4)]) (st2 := [.ref l0, .ref l0]) hm dX13_makeMethod_288 rfl ?_
  replace hf := mx_sv_el hf; obtain ⟨v100, e_v100, hf⟩ := hf
  refine sx_get hm dX13_makeMethod_289 rs_RX13_627 (xgi_el e_v100) ?_
  clear e_v100
  replace hf := mx_gd_el hf; obtain ⟨c101, hf⟩ := hf
  replace hf := mx_sv_el hf; obtain ⟨u102, e_u102, hf⟩ := hf
  refine sx_cv hm dX13_makeMethod_292 rs_RX13_734 mt_X13_tellPair [.int v100] [] (b := l0) (ci := 13) rfl rfl rfl c101 (Nat.le_of_ble_eq_true rfl) (Nat.le_of_ble_eq_true rfl) (by omega) (by omega) (f_X13_tellPair_ok X (by omega) (by omega) nn l0 v100 u99 e_u102) ?_
  clear e_u102
  show mx_S X F L 482 295 [(0, .ref l0), (2, .int l2), (3, .int l3), (4, .int l4)] [] u102 0 0 (none, r, 0, 0)
  refine sx_ic (v := 0) hm dX13_makeMethod_295 (by decide) ?_
  refine mx_S.pu (pc2 := 298) (lv2 := [(5, .int 0), (0, .ref l0), (2, .int l2), (3, .int l3), (4, .int l4)]) (st2 := []) hm dX13_makeMethod_296 rfl ?_
  refine mx_S.ext [(0, .ref l0), (5, .int 0)] (mx_sub_pos [1, 0] rfl (show ([5, 0, 2, 3, 4] : List Nat).Nodup by decide)) ?_
  exact w_X13_makeMethod_298_ok X hF hL nn nn l0 0 u102 _ hf
set_option maxHeartbeats 4000000 in
set_option maxRecDepth 20000 in
theorem j_X13_makeMethod_239_ok (X : Nat × (Nat → Int32)) {F L : Nat} (hF : 1661 ≤ F) (hL : 43548 ≤ L) (nn : Nat) (l0 : Nat) (l2 : Int32) (l3 : Int32) (l4 : Int32) (h : mx_H) {r : mx_H} (hf : j_X13_makeMethod_239 nn l0 l2 l3 l4 h = some r) : mx_S X F L 482 239 [(0, .ref l0), (2, .int l2), (3, .int l3), (4, .int l4)] [] h 0 0 (none, r, 0, 0) := by
  have hm : mx_mt 482 = some (yX13_makeMethod, cX13_makeMethod, 9, none) := mt_X13_makeMethod
  unfold j_X13_makeMethod_239 at hf
  refine mx_S.pu (pc2 := 240) (lv2 := [(0, .ref l0), (2, .int l2), (3, .int l3), (4, .int l4)]) (st2 := [.ref l0]) hm dX13_makeMethod_239 rfl ?_
  replace hf := mx_sv_el hf; obtain ⟨v103, e_v103, hf⟩ := hf
  refine sx_get hm dX13_makeMethod_240 rs_RX13_319 (xgi_el e_v103) ?_
  clear e_v103
  rcases mx_if_el hf with ⟨c106, hf⟩ | ⟨c106, hf⟩
  · refine sb_if_eq hm dX13_makeMethod_243 (tgt := 247) rfl (fun _ => ?_) (fun z => absurd c106 z)
    refine mx_S.pu (pc2 := 248) (lv2 := [(0, .ref l0), (2, .int l2), (3, .int l3), (4, .int l4)]) (st2 := [.ref l0]) hm dX13_makeMethod_247 rfl ?_
    refine mx_S.pu (pc2 := 249) (lv2 := [(0, .ref l0), (2, .int l2), (3, .int l3), (4, .int l4)]) (st2 := [.ref l0, .ref l0]) hm dX13_makeMethod_248 rfl ?_
    replace hf := mx_sv_el hf; obtain ⟨v104, e_v104, hf⟩ := hf
    refine sx_get hm dX13_makeMethod_249 rs_RX13_510 (xgi_el e_v104) ?_
    clear e_v104
    rcases mx_if_el hf with ⟨c105, hf⟩ | ⟨c105, hf⟩
    · refine sb_if_eq hm dX13_makeMethod_252 (tgt := 259) rfl (fun _ => ?_) (fun z => absurd c105 z)
      refine sx_ic (v := 0) hm dX13_makeMethod_259 (by decide) ?_
      exact j_X13_makeMethod_260_ok X hF hL nn l0 l2 l3 l4 0 l0 h hf
    · refine sb_if_eq hm dX13_makeMethod_252 (tgt := 259) rfl (fun z => absurd z c105) (fun _ => ?_)
      refine sx_ic (v := 1) hm dX13_makeMethod_255 (by decide) ?_
      refine mx_S.pu (pc2 := 260) (lv2 := [(0, .ref l0), (2, .int l2), (3, .int l3), (4, .int l4)]) (st2 := [.int 1, .ref l0]) hm dX13_makeMethod_256 rfl ?_
      exact j_X13_makeMethod_260_ok X hF hL nn l0 l2 l3 l4 1 l0 h hf
  · refine sb_if_eq hm dX13_makeMethod_243 (tgt := 247) rfl (fun z => absurd z c106) (fun _ => ?_)
    cases hf
    exact sx_ret hm dX13_makeMethod_246 rfl
set_option maxHeartbeats 4000000 in
set_option maxRecDepth 20000 in
theorem j_X13_makeMethod_227_ok (X : Nat × (Nat → Int32)) {F L : Nat} (hF : 1661 ≤ F) (hL : 43548 ≤ L) (nn : Nat) (l0 : Nat) (l1 : Int32) (l2 : Int32) (l3 : Int32) (l4 : Int32) (h : mx_H) {r : mx_H} (hf : j_X13_makeMethod_227 nn l0 l1 l2 l3 l4 h = some r) : mx_S X F L 482 227 [(0, .ref l0), (1, .int l1), (2, .int l2), (3, .int l3), (4, .int l4)] [] h 0 0 (none, r, 0, 0) := by
  have hm : mx_mt 482 = some (yX13_makeMethod, cX13_makeMethod, 9, none) := mt_X13_makeMethod
  unfold j_X13_makeMethod_227 at hf
  refine mx_S.pu (pc2 := 228) (lv2 := [(0, .ref l0), (1, .int l1), (2, .int l2), (3, .int l3), (4, .int l4)]) (st2 := [.ref l0]) hm dX13_makeMethod_227 rfl ?_
  refine sx_bi (v := 11) hm dX13_makeMethod_228 (by decide) ?_
  refine mx_S.pu (pc2 := 231) (lv2 := [(0, .ref l0), (1, .int l1), (2, .int l2), (3, .int l3), (4, .int l4)]) (st2 := [.ref l0, .int 11, .ref l0]) hm dX13_makeMethod_230 rfl ?_
  replace hf := mx_sv_el hf; obtain ⟨v107, e_v107, hf⟩ := hf
  refine sx_get hm dX13_makeMethod_231 rs_RX13_86 (xgr_el e_v107) ?_
  clear e_v107
  refine mx_S.pu (pc2 := 235) (lv2 := [(0, .ref l0), (1, .int l1), (2, .int l2), (3, .int l3), (4, .int l4)]) (st2 := [.int l1, .ref v107, .int 11, .ref l0]) hm dX13_makeMethod_234 rfl ?_
  replace hf := mx_sv_el hf; obtain ⟨v108, e_v108, hf⟩ := hf
  refine sx_ald hm dX13_makeMethod_235 e_v108 ?_
  clear e_v108
  replace hf := mx_gd_el hf; obtain ⟨c109, hf⟩ := hf
  replace hf := mx_sv_el hf; obtain ⟨u110, e_u110, hf⟩ := hf
  refine sx_cv hm dX13_makeMethod_236 rs_RX13_379 mt_X13_wrong [.int 11, .int v108] [] (b := l0) (ci := 13) rfl rfl rfl c109 (Nat.le_of_ble_eq_true rfl) (Nat.le_of_ble_eq_true rfl) (by omega) (by omega) (f_X13_wrong_ok X (by omega) (by omega) nn l0 11 v108 h e_u110) ?_
  clear e_u110
  show mx_S X F L 482 239 [(0, .ref l0), (1, .int l1), (2, .int l2), (3, .int l3), (4, .int l4)] [] u110 0 0 (none, r, 0, 0)
  refine mx_S.ext [(0, .ref l0), (2, .int l2), (3, .int l3), (4, .int l4)] (mx_sub_pos [0, 2, 3, 4] rfl (show ([0, 1, 2, 3, 4] : List Nat).Nodup by decide)) ?_
  exact j_X13_makeMethod_239_ok X hF hL nn l0 l2 l3 l4 u110 hf
set_option maxHeartbeats 4000000 in
set_option maxRecDepth 20000 in
theorem j_X13_makeMethod_180_ok (X : Nat × (Nat → Int32)) {F L : Nat} (hF : 1661 ≤ F) (hL : 43548 ≤ L) (nn : Nat) (l0 : Nat) (l1 : Int32) (l2 : Int32) (l3 : Int32) (s0 : Int32) (s1 : Int32) (h : mx_H) {r : mx_H} (hf : j_X13_makeMethod_180 nn l0 l1 l2 l3 s0 s1 h = some r) : mx_S X F L 482 180 [(0, .ref l0), (1, .int l1), (2, .int l2), (3, .int l3)] [.int s0, .int s1] h 0 0 (none, r, 0, 0) := by
  have hm : mx_mt 482 = some (yX13_makeMethod, cX13_makeMethod, 9, none) := mt_X13_makeMethod
  unfold j_X13_makeMethod_180 at hf
  replace hf := xl_el hf; obtain ⟨v111, e_v111, hf⟩ := hf
  refine mx_S.pu (pc2 := 181) (lv2 := [(0, .ref l0), (1, .int l1), (2, .int l2), (3, .int l3)]) (st2 := [.int v111]) hm dX13_makeMethod_180 (by rw [← e_v111]; rfl) ?_
  clear e_v111
  refine mx_S.pu (pc2 := 183) (lv2 := [(4, .int v111), (0, .ref l0), (1, .int l1), (2, .int l2), (3, .int l3)]) (st2 := []) hm dX13_makeMethod_181 rfl ?_
  refine mx_S.pu (pc2 := 185) (lv2 := [(4, .int v111), (0, .ref l0), (1, .int l1), (2, .int l2), (3, .int l3)]) (st2 := [.int v111]) hm dX13_makeMethod_183 rfl ?_
  refine sx_bi (v := 30) hm dX13_makeMethod_185 (by decide) ?_
  rcases mx_if_el hf with ⟨c120, hf⟩ | ⟨c120, hf⟩
  · refine sb_ic_gt hm dX13_makeMethod_187 (tgt := 227) rfl (fun _ => ?_) (fun z => absurd c120 z)
    refine mx_S.ext [(0, .ref l0), (1, .int l1), (2, .int l2), (3, .int l3), (4, .int v111)] (mx_sub_pos [1, 2, 3, 4, 0] rfl (show ([4, 0, 1, 2, 3] : List Nat).Nodup by decide)) ?_
    exact j_X13_makeMethod_227_ok X hF hL nn l0 l1 l2 l3 v111 h hf
  · refine sb_ic_gt hm dX13_makeMethod_187 (tgt := 227) rfl (fun z => absurd z c120) (fun _ => ?_)
    refine mx_S.pu (pc2 := 191) (lv2 := [(4, .int v111), (0, .ref l0), (1, .int l1), (2, .int l2), (3, .int l3)]) (st2 := [.ref l0]) hm dX13_makeMethod_190 rfl ?_
    replace hf := mx_sv_el hf; obtain ⟨v112, e_v112, hf⟩ := hf
    refine sx_get hm dX13_makeMethod_191 rs_RX13_632 (xgi_el e_v112) ?_
    clear e_v112
    refine sx_bi (v := 20) hm dX13_makeMethod_194 (by decide) ?_
    rcases mx_if_el hf with ⟨c119, hf⟩ | ⟨c119, hf⟩
    · refine sb_ic_gt hm dX13_makeMethod_196 (tgt := 227) rfl (fun _ => ?_) (fun z => absurd c119 z)
      refine mx_S.ext [(0, .ref l0), (1, .int l1), (2, .int l2), (3, .int l3), (4, .int v111)] (mx_sub_pos [1, 2, 3, 4, 0] rfl (show ([4, 0, 1, 2, 3] : List Nat).Nodup by decide)) ?_
      exact j_X13_makeMethod_227_ok X hF hL nn l0 l1 l2 l3 v111 h hf
    · refine sb_ic_gt hm dX13_makeMethod_196 (tgt := 227) rfl (fun z => absurd z c119) (fun _ => ?_)
      refine mx_S.pu (pc2 := 200) (lv2 := [(4, .int v111), (0, .ref l0), (1, .int l1), (2, .int l2), (3, .int l3)]) (st2 := [.ref l0]) hm dX13_makeMethod_199 rfl ?_
      replace hf := mx_sv_el hf; obtain ⟨v113, e_v113, hf⟩ := hf
      refine sx_get hm dX13_makeMethod_200 rs_RX13_627 (xgi_el e_v113) ?_
      clear e_v113
      refine sx_si (v := 1500) hm dX13_makeMethod_203 (by decide) ?_
      rcases mx_if_el hf with ⟨c118, hf⟩ | ⟨c118, hf⟩
      · refine sb_ic_gt hm dX13_makeMethod_206 (tgt := 227) rfl (fun _ => ?_) (fun z => absurd c118 z)
        refine mx_S.ext [(0, .ref l0), (1, .int l1), (2, .int l2), (3, .int l3), (4, .int v111)] (mx_sub_pos [1, 2, 3, 4, 0] rfl (show ([4, 0, 1, 2, 3] : List Nat).Nodup by decide)) ?_
        exact j_X13_makeMethod_227_ok X hF hL nn l0 l1 l2 l3 v111 h hf
      · refine sb_ic_gt hm dX13_makeMethod_206 (tgt := 227) rfl (fun z => absurd z c118) (fun _ => ?_)
        refine mx_S.pu (pc2 := 210) (lv2 := [(4, .int v111), (0, .ref l0), (1, .int l1), (2, .int l2), (3, .int l3)]) (st2 := [.ref l0]) hm dX13_makeMethod_209 rfl ?_
        replace hf := mx_sv_el hf; obtain ⟨v114, e_v114, hf⟩ := hf
        refine sx_get hm dX13_makeMethod_210 rs_RX13_694 (xgi_el e_v114) ?_
        clear e_v114
        refine sx_bi (v := 20) hm dX13_makeMethod_213 (by decide) ?_
        rcases mx_if_el hf with ⟨c117, hf⟩ | ⟨c117, hf⟩
        · refine sb_ic_gt hm dX13_makeMethod_215 (tgt := 227) rfl (fun _ => ?_) (fun z => absurd c117 z)
          refine mx_S.ext [(0, .ref l0), (1, .int l1), (2, .int l2), (3, .int l3), (4, .int v111)] (mx_sub_pos [1, 2, 3, 4, 0] rfl (show ([4, 0, 1, 2, 3] : List Nat).Nodup by decide)) ?_
          exact j_X13_makeMethod_227_ok X hF hL nn l0 l1 l2 l3 v111 h hf
        · refine sb_ic_gt hm dX13_makeMethod_215 (tgt := 227) rfl (fun z => absurd z c117) (fun _ => ?_)
          refine mx_S.pu (pc2 := 219) (lv2 := [(4, .int v111), (0, .ref l0), (1, .int l1), (2, .int l2), (3, .int l3)]) (st2 := [.ref l0]) hm dX13_makeMethod_218 rfl ?_
          replace hf := mx_sv_el hf; obtain ⟨v115, e_v115, hf⟩ := hf
          refine sx_get hm dX13_makeMethod_219 rs_RX13_652 (xgi_el e_v115) ?_
          clear e_v115
          refine sx_bi (v := 100) hm dX13_makeMethod_222 (by decide) ?_
          rcases mx_if_el hf with ⟨c116, hf⟩ | ⟨c116, hf⟩
          · refine sb_ic_le hm dX13_makeMethod_224 (tgt := 239) rfl (fun _ => ?_) (fun z => absurd c116 z)
            refine mx_S.ext [(0, .ref l0), (2, .int l2), (3, .int l3), (4, .int v111)] (mx_sub_pos [1, 3, 4, 0] rfl (show ([4, 0, 1, 2, 3] : List Nat).Nodup by decide)) ?_
            exact j_X13_makeMethod_239_ok X hF hL nn l0 l2 l3 v111 h hf
          · refine sb_ic_le hm dX13_makeMethod_224 (tgt := 239) rfl (fun z => absurd z c116) (fun _ => ?_)
            refine mx_S.ext [(0, .ref l0), (1, .int l1), (2, .int l2), (3, .int l3), (4, .int v111)] (mx_sub_pos [1, 2, 3, 4, 0] rfl (show ([4, 0, 1, 2, 3] : List Nat).Nodup by decide)) ?_
            exact j_X13_makeMethod_227_ok X hF hL nn l0 l1 l2 l3 v111 h hf
set_option maxHeartbeats 4000000 in
set_option maxRecDepth 20000 in
theorem j_X13_makeMethod_164_ok (X : Nat × (Nat → Int32)) {F L : Nat} (hF : 1661 ≤ F) (hL : 43548 ≤ L) (nn : Nat) (l0 : Nat) (l1 : Int32) (l2 : Int32) (l3 : Int32) (h : mx_H) {r : mx_H} (hf : j_X13_makeMethod_164 nn l0 l1 l2 l3 h = some r) : mx_S X F L 482 164 [(0, .ref l0), (1, .int l1), (2, .int l2), (3, .int l3)] [] h 0 0 (none, r, 0, 0) := by
  have hm : mx_mt 482 = some (yX13_makeMethod, cX13_makeMethod, 9, none) := mt_X13_makeMethod
  unfold j_X13_makeMethod_164 at hf
  refine mx_S.pu (pc2 := 165) (lv2 := [(0, .ref l0), (1, .int l1), (2, .int l2), (3, .int l3)]) (st2 := [.ref l0]) hm dX13_makeMethod_164 rfl ?_
  replace hf := mx_sv_el hf; obtain ⟨v121, e_v121, hf⟩ := hf
  refine sx_get hm dX13_makeMethod_165 rs_RX13_661 (xgi_el e_v121) ?_
  clear e_v121
  refine mx_S.pu (pc2 := 169) (lv2 := [(0, .ref l0), (1, .int l1), (2, .int l2), (3, .int l3)]) (st2 := [.ref l0, .int v121]) hm dX13_makeMethod_168 rfl ?_
  replace hf := mx_sv_el hf; obtain ⟨v122, e_v122, hf⟩ := hf
  refine sx_get hm dX13_makeMethod_169 rs_RX13_510 (xgi_el e_v122) ?_
  clear e_v122
  rcases mx_if_el hf with ⟨c123, hf⟩ | ⟨c123, hf⟩
  · refine sb_if_eq hm dX13_makeMethod_172 (tgt := 179) rfl (fun _ => ?_) (fun z => absurd c123 z)
    refine sx_ic (v := 1) hm dX13_makeMethod_179 (by decide) ?_
    exact j_X13_makeMethod_180_ok X hF hL nn l0 l1 l2 l3 1 v121 h hf
  · refine sb_if_eq hm dX13_makeMethod_172 (tgt := 179) rfl (fun z => absurd z c123) (fun _ => ?_)
    refine sx_ic (v := 0) hm dX13_makeMethod_175 (by decide) ?_
    refine mx_S.pu (pc2 := 180) (lv2 := [(0, .ref l0), (1, .int l1), (2, .int l2), (3, .int l3)]) (st2 := [.int 0, .int v121]) hm dX13_makeMethod_176 rfl ?_
    exact j_X13_makeMethod_180_ok X hF hL nn l0 l1 l2 l3 0 v121 h hf
set_option maxHeartbeats 4000000 in
set_option maxRecDepth 20000 in
theorem w_X13_makeMethod_81_ok (X : Nat × (Nat → Int32)) {F L : Nat} (hF : 1661 ≤ F) (hL : 43548 ≤ L) (nn : Nat) : ∀ (k : Nat) (l0 : Nat) (l1 : Int32) (l2 : Int32) (h : mx_H) (r : mx_H), w_X13_makeMethod_81 nn k l0 l1 l2 h = some r → mx_S X F L 482 81 [(0, .ref l0), (1, .int l1), (2, .int l2)] [] h 0 0 (none, r, 0, 0) := by
  have hm : mx_mt 482 = some (yX13_makeMethod, cX13_makeMethod, 9, none) := mt_X13_makeMethod
  intro k
  induction k with
  | zero => intro l0 l1 l2 h r hf; cases hf
  | succ k ih =>
    intro l0 l1 l2 h r hf
    unfold w_X13_makeMethod_81 at hf
    refine mx_S.pu (pc2 := 82) (lv2 := [(0, .ref l0), (1, .int l1), (2, .int l2)]) (st2 := [.int l2]) hm dX13_makeMethod_81 rfl ?_
    refine mx_S.pu (pc2 := 83) (lv2 := [(0, .ref l0), (1, .int l1), (2, .int l2)]) (st2 := [.ref l0, .int l2]) hm dX13_makeMethod_82 rfl ?_
    replace hf := mx_sv_el hf; obtain ⟨v124, e_v124, hf⟩ := hf
    refine sx_get hm dX13_makeMethod_83 rs_RX13_95 (xgr_el e_v124) ?_
    clear e_v124
    refine mx_S.pu (pc2 := 87) (lv2 := [(0, .ref l0), (1, .int l1), (2, .int l2)]) (st2 := [.int l1, .ref v124, .int l2]) hm dX13_makeMethod_86 rfl ?_
    replace hf := mx_sv_el hf; obtain ⟨v125, e_v125, hf⟩ := hf
    refine sx_ald hm dX13_makeMethod_87 e_v125 ?_
    clear e_v125
    rcases mx_if_el hf with ⟨c152, hf⟩ | ⟨c152, hf⟩
    · refine sb_ic_ge hm dX13_makeMethod_88 (tgt := 127) rfl (fun _ => ?_) (fun z => absurd c152 z)
      refine mx_S.pu (pc2 := 128) (lv2 := [(0, .ref l0), (1, .int l1), (2, .int l2)]) (st2 := [.ref l0]) hm dX13_makeMethod_127 rfl ?_
      refine mx_S.pu (pc2 := 129) (lv2 := [(0, .ref l0), (1, .int l1), (2, .int l2)]) (st2 := [.ref l0, .ref l0]) hm dX13_makeMethod_128 rfl ?_
      replace hf := mx_sv_el hf; obtain ⟨v126, e_v126, hf⟩ := hf
      refine sx_get hm dX13_makeMethod_129 rs_RX13_86 (xgr_el e_v126) ?_
      clear e_v126
      refine mx_S.pu (pc2 := 133) (lv2 := [(0, .ref l0), (1, .int l1), (2, .int l2)]) (st2 := [.int l1, .ref v126, .ref l0]) hm dX13_makeMethod_132 rfl ?_
      replace hf := mx_sv_el hf; obtain ⟨v127, e_v127, hf⟩ := hf
      refine sx_ald hm dX13_makeMethod_133 e_v127 ?_
      clear e_v127
      replace hf := mx_gd_el hf; obtain ⟨c128, hf⟩ := hf
      replace hf := mx_sv_el hf; obtain ⟨u129, e_u129, hf⟩ := hf
      refine sx_cv hm dX13_makeMethod_134 rs_RX13_621 mt_X13_textOf [.int v127] [] (b := l0) (ci := 13) rfl rfl rfl c128 (Nat.le_of_ble_eq_true rfl) (Nat.le_of_ble_eq_true rfl) (by omega) (by omega) (f_X13_textOf_ok X (by omega) (by omega) nn l0 v127 h e_u129) ?_
      clear e_u129
      show mx_S X F L 482 137 [(0, .ref l0), (1, .int l1), (2, .int l2)] [.int u129.1] u129.2 0 0 (none, r, 0, 0)
      refine mx_S.pu (pc2 := 138) (lv2 := [(2, .int u129.1), (0, .ref l0), (1, .int l1)]) (st2 := []) hm dX13_makeMethod_137 rfl ?_
      refine mx_S.pu (pc2 := 139) (lv2 := [(2, .int u129.1), (0, .ref l0), (1, .int l1)]) (st2 := [.ref l0]) hm dX13_makeMethod_138 rfl ?_
      refine mx_S.pu (pc2 := 140) (lv2 := [(2, .int u129.1), (0, .ref l0), (1, .int l1)]) (st2 := [.int l1, .ref l0]) hm dX13_makeMethod_139 rfl ?_
      replace hf := mx_gd_el hf; obtain ⟨c130, hf⟩ := hf
      replace hf := mx_sv_el hf; obtain ⟨u131, e_u131, hf⟩ := hf
      refine sx_cv hm dX13_makeMethod_140 rs_RX13_624 mt_X13_kindOf [.int l1] [] (b := l0) (ci := 13) rfl rfl rfl c130 (Nat.le_of_ble_eq_true rfl) (Nat.le_of_ble_eq_true rfl) (by omega) (by omega) (f_X13_kindOf_ok X (by omega) (by omega) nn l0 l1 u129.2 e_u131) ?_
      clear e_u131
      show mx_S X F L 482 143 [(2, .int u129.1), (0, .ref l0), (1, .int l1)] [.int u131.1] u131.2 0 0 (none, r, 0, 0)
      refine mx_S.pu (pc2 := 144) (lv2 := [(3, .int u131.1), (2, .int u129.1), (0, .ref l0), (1, .int l1)]) (st2 := []) hm dX13_makeMethod_143 rfl ?_
      refine mx_S.pu (pc2 := 145) (lv2 := [(3, .int u131.1), (2, .int u129.1), (0, .ref l0), (1, .int l1)]) (st2 := [.ref l0]) hm dX13_makeMethod_144 rfl ?_
      refine mx_S.pu (pc2 := 146) (lv2 := [(3, .int u131.1), (2, .int u129.1), (0, .ref l0), (1, .int l1)]) (st2 := [.ref l0, .ref l0]) hm dX13_makeMethod_145 rfl ?_
      replace hf := mx_sv_el hf; obtain ⟨v132, e_v132, hf⟩ := hf
      refine sx_get hm dX13_makeMethod_146 rs_RX13_98 (xgr_el e_v132) ?_
      clear e_v132
      refine mx_S.pu (pc2 := 150) (lv2 := [(3, .int u131.1), (2, .int u129.1), (0, .ref l0), (1, .int l1)]) (st2 := [.int l1, .ref v132, .ref l0]) hm dX13_makeMethod_149 rfl ?_
      replace hf := mx_sv_el hf; obtain ⟨v133, e_v133, hf⟩ := hf
      refine sx_ald hm dX13_makeMethod_150 e_v133 ?_
      clear e_v133
      replace hf := mx_gd_el hf; obtain ⟨c134, hf⟩ := hf
      replace hf := mx_sv_el hf; obtain ⟨u135, e_u135, hf⟩ := hf
      refine sx_cv hm dX13_makeMethod_151 rs_RX13_664 mt_X13_make [.int v133] [] (b := l0) (ci := 13) rfl rfl rfl c134 (Nat.le_of_ble_eq_true rfl) (Nat.le_of_ble_eq_true rfl) (by omega) (by omega) (f_X13_make_ok X (by omega) (by omega) nn l0 v133 u131.2 e_u135) ?_
      clear e_u135
      show mx_S X F L 482 154 [(3, .int u131.1), (2, .int u129.1), (0, .ref l0), (1, .int l1)] [.int u135.1] u135.2 0 0 (none, r, 0, 0)
      rcases mx_if_el hf with ⟨c138, hf⟩ | ⟨c138, hf⟩
      · refine sb_if_eq hm dX13_makeMethod_154 (tgt := 164) rfl (fun _ => ?_) (fun z => absurd c138 z)
        refine mx_S.ext [(0, .ref l0), (1, .int l1), (2, .int u129.1), (3, .int u131.1)] (mx_sub_pos [2, 3, 1, 0] rfl (show ([3, 2, 0, 1] : List Nat).Nodup by decide)) ?_
        exact j_X13_makeMethod_164_ok X hF hL nn l0 l1 u129.1 u131.1 u135.2 hf
      · refine sb_if_eq hm dX13_makeMethod_154 (tgt := 164) rfl (fun z => absurd z c138) (fun _ => ?_)
        refine mx_S.pu (pc2 := 158) (lv2 := [(3, .int u131.1), (2, .int u129.1), (0, .ref l0), (1, .int l1)]) (st2 := [.ref l0]) hm dX13_makeMethod_157 rfl ?_
        refine sx_si (v := 177) hm dX13_makeMethod_158 (by decide) ?_
        replace hf := mx_gd_el hf; obtain ⟨c136, hf⟩ := hf
        replace hf := mx_sv_el hf; obtain ⟨u137, e_u137, hf⟩ := hf
        refine sx_cv hm dX13_makeMethod_161 rs_RX13_646 mt_X13_put [.int 177] [] (b := l0) (ci := 13) rfl rfl rfl c136 (Nat.le_of_ble_eq_true rfl) (Nat.le_of_ble_eq_true rfl) (by omega) (by omega) (f_X13_put_ok X (by omega) (by omega) nn l0 177 u135.2 e_u137) ?_
        clear e_u137
        show mx_S X F L 482 164 [(3, .int u131.1), (2, .int u129.1), (0, .ref l0), (1, .int l1)] [] u137 0 0 (none, r, 0, 0)
        refine mx_S.ext [(0, .ref l0), (1, .int l1), (2, .int u129.1), (3, .int u131.1)] (mx_sub_pos [2, 3, 1, 0] rfl (show ([3, 2, 0, 1] : List Nat).Nodup by decide)) ?_
        exact j_X13_makeMethod_164_ok X hF hL nn l0 l1 u129.1 u131.1 u137 hf
    · refine sb_ic_ge hm dX13_makeMethod_88 (tgt := 127) rfl (fun z => absurd z c152) (fun _ => ?_)
      refine mx_S.pu (pc2 := 92) (lv2 := [(0, .ref l0), (1, .int l1), (2, .int l2)]) (st2 := [.ref l0]) hm dX13_makeMethod_91 rfl ?_
      refine mx_S.pu (pc2 := 93) (lv2 := [(0, .ref l0), (1, .int l1), (2, .int l2)]) (st2 := [.ref l0, .ref l0]) hm dX13_makeMethod_92 rfl ?_
      replace hf := mx_sv_el hf; obtain ⟨v139, e_v139, hf⟩ := hf
      refine sx_get hm dX13_makeMethod_93 rs_RX13_110 (xgr_el e_v139) ?_
      clear e_v139
      refine mx_S.pu (pc2 := 97) (lv2 := [(0, .ref l0), (1, .int l1), (2, .int l2)]) (st2 := [.ref l0, .ref v139, .ref l0]) hm dX13_makeMethod_96 rfl ?_
      replace hf := mx_sv_el hf; obtain ⟨v140, e_v140, hf⟩ := hf
      refine sx_get hm dX13_makeMethod_97 rs_RX13_92 (xgr_el e_v140) ?_
      clear e_v140
      refine mx_S.pu (pc2 := 101) (lv2 := [(0, .ref l0), (1, .int l1), (2, .int l2)]) (st2 := [.int l1, .ref v140, .ref v139, .ref l0]) hm dX13_makeMethod_100 rfl ?_
      replace hf := mx_sv_el hf; obtain ⟨v141, e_v141, hf⟩ := hf
      refine sx_ald hm dX13_makeMethod_101 e_v141 ?_
      clear e_v141
      refine mx_S.pu (pc2 := 103) (lv2 := [(0, .ref l0), (1, .int l1), (2, .int l2)]) (st2 := [.int l2, .int v141, .ref v139, .ref l0]) hm dX13_makeMethod_102 rfl ?_
      replace hf := xl_el hf; obtain ⟨v142, e_v142, hf⟩ := hf
      refine mx_S.pu (pc2 := 104) (lv2 := [(0, .ref l0), (1, .int l1), (2, .int l2)]) (st2 := [.int v142, .ref v139, .ref l0]) hm dX13_makeMethod_103 (by rw [← e_v142]; rfl) ?_
      clear e_v142
      replace hf := mx_sv_el hf; obtain ⟨v143, e_v143, hf⟩ := hf
      refine sx_ald hm dX13_makeMethod_104 e_v143 ?_
      clear e_v143
      refine mx_S.pu (pc2 := 106) (lv2 := [(0, .ref l0), (1, .int l1), (2, .int l2)]) (st2 := [.ref l0, .int v143, .ref l0]) hm dX13_makeMethod_105 rfl ?_
      replace hf := mx_sv_el hf; obtain ⟨v144, e_v144, hf⟩ := hf
      refine sx_get hm dX13_makeMethod_106 rs_RX13_113 (xgr_el e_v144) ?_
      clear e_v144
      refine mx_S.pu (pc2 := 110) (lv2 := [(0, .ref l0), (1, .int l1), (2, .int l2)]) (st2 := [.ref l0, .ref v144, .int v143, .ref l0]) hm dX13_makeMethod_109 rfl ?_
      replace hf := mx_sv_el hf; obtain ⟨v145, e_v145, hf⟩ := hf
      refine sx_get hm dX13_makeMethod_110 rs_RX13_92 (xgr_el e_v145) ?_
      clear e_v145
      refine mx_S.pu (pc2 := 114) (lv2 := [(0, .ref l0), (1, .int l1), (2, .int l2)]) (st2 := [.int l1, .ref v145, .ref v144, .int v143, .ref l0]) hm dX13_makeMethod_113 rfl ?_
      replace hf := mx_sv_el hf; obtain ⟨v146, e_v146, hf⟩ := hf
      refine sx_ald hm dX13_makeMethod_114 e_v146 ?_
      clear e_v146
      refine mx_S.pu (pc2 := 116) (lv2 := [(0, .ref l0), (1, .int l1), (2, .int l2)]) (st2 := [.int l2, .int v146, .ref v144, .int v143, .ref l0]) hm dX13_makeMethod_115 rfl ?_
      replace hf := xl_el hf; obtain ⟨v147, e_v147, hf⟩ := hf
      refine mx_S.pu (pc2 := 117) (lv2 := [(0, .ref l0), (1, .int l1), (2, .int l2)]) (st2 := [.int v147, .ref v144, .int v143, .ref l0]) hm dX13_makeMethod_116 (by rw [← e_v147]; rfl) ?_
      clear e_v147
      replace hf := mx_sv_el hf; obtain ⟨v148, e_v148, hf⟩ := hf
      refine sx_ald hm dX13_makeMethod_117 e_v148 ?_
      clear e_v148
      replace hf := mx_gd_el hf; obtain ⟨c149, hf⟩ := hf
      replace hf := mx_sv_el hf; obtain ⟨u150, e_u150, hf⟩ := hf
      refine sx_cv hm dX13_makeMethod_118 rs_RX13_673 mt_X13_comes [.int v143, .int v148] [] (b := l0) (ci := 13) rfl rfl rfl c149 (Nat.le_of_ble_eq_true rfl) (Nat.le_of_ble_eq_true rfl) (by omega) (by omega) (f_X13_comes_ok X (by omega) (by omega) nn l0 v143 v148 h e_u150) ?_
      clear e_u150
      show mx_S X F L 482 121 [(0, .ref l0), (1, .int l1), (2, .int l2)] [] u150 0 0 (none, r, 0, 0)
      replace hf := xl_el hf; obtain ⟨v151, e_v151, hf⟩ := hf
      refine mx_S.pu (pc2 := 124) (lv2 := [(2, .int v151), (0, .ref l0), (1, .int l1)]) (st2 := []) hm dX13_makeMethod_121 (by rw [← e_v151]; rfl) ?_
      clear e_v151
      refine mx_S.pu (pc2 := 81) (lv2 := [(2, .int v151), (0, .ref l0), (1, .int l1)]) (st2 := []) hm dX13_makeMethod_124 rfl ?_
      refine mx_S.ext [(0, .ref l0), (1, .int l1), (2, .int v151)] (mx_sub_pos [1, 2, 0] rfl (show ([2, 0, 1] : List Nat).Nodup by decide)) ?_
      exact ih l0 l1 v151 u150 _ hf
set_option maxHeartbeats 4000000 in
set_option maxRecDepth 20000 in
theorem j_X13_makeMethod_21_ok (X : Nat × (Nat → Int32)) {F L : Nat} (hF : 1661 ≤ F) (hL : 43548 ≤ L) (nn : Nat) (l0 : Nat) (l1 : Int32) (s0 : Int32) (s1 : Nat) (h : mx_H) {r : mx_H} (hf : j_X13_makeMethod_21 nn l0 l1 s0 s1 h = some r) : mx_S X F L 482 21 [(0, .ref l0), (1, .int l1)] [.int s0, .ref s1] h 0 0 (none, r, 0, 0) := by
  have hm : mx_mt 482 = some (yX13_makeMethod, cX13_makeMethod, 9, none) := mt_X13_makeMethod
  unfold j_X13_makeMethod_21 at hf
  replace hf := mx_gd_el hf; obtain ⟨c153, hf⟩ := hf
  replace hf := mx_sv_el hf; obtain ⟨h154, e_h154, hf⟩ := hf
  refine sx_put hm dX13_makeMethod_21 rs_RX13_510 ft_13_53 (xbq_ok c153) (fun z => by cases z) e_h154 ?_
  clear e_h154
  refine mx_S.pu (pc2 := 25) (lv2 := [(0, .ref l0), (1, .int l1)]) (st2 := [.ref l0]) hm dX13_makeMethod_24 rfl ?_
  refine sx_ic (v := 0) hm dX13_makeMethod_25 (by decide) ?_
  replace hf := mx_sv_el hf; obtain ⟨h155, e_h155, hf⟩ := hf
  refine sx_put hm dX13_makeMethod_26 rs_RX13_513 ft_13_50 ⟨rfl, rfl⟩ (fun z => by cases z) e_h155 ?_
  clear e_h155
  refine mx_S.pu (pc2 := 30) (lv2 := [(0, .ref l0), (1, .int l1)]) (st2 := [.ref l0]) hm dX13_makeMethod_29 rfl ?_
  refine sx_ic (v := 0) hm dX13_makeMethod_30 (by decide) ?_
  replace hf := mx_sv_el hf; obtain ⟨h156, e_h156, hf⟩ := hf
  refine sx_put hm dX13_makeMethod_31 rs_RX13_661 ft_13_72 ⟨rfl, rfl⟩ (fun z => by cases z) e_h156 ?_
  clear e_h156
  refine mx_S.pu (pc2 := 35) (lv2 := [(0, .ref l0), (1, .int l1)]) (st2 := [.ref l0]) hm dX13_makeMethod_34 rfl ?_
  refine sx_ic (v := 0) hm dX13_makeMethod_35 (by decide) ?_
  replace hf := mx_sv_el hf; obtain ⟨h157, e_h157, hf⟩ := hf
  refine sx_put hm dX13_makeMethod_36 rs_RX13_522 ft_13_54 ⟨rfl, rfl⟩ (fun z => by cases z) e_h157 ?_
  clear e_h157
  refine mx_S.pu (pc2 := 40) (lv2 := [(0, .ref l0), (1, .int l1)]) (st2 := [.ref l0]) hm dX13_makeMethod_39 rfl ?_
  refine sx_ic (v := 0) hm dX13_makeMethod_40 (by decide) ?_
  replace hf := mx_sv_el hf; obtain ⟨h158, e_h158, hf⟩ := hf
  refine sx_put hm dX13_makeMethod_41 rs_RX13_525 ft_13_57 ⟨rfl, rfl⟩ (fun z => by cases z) e_h158 ?_
  clear e_h158
  refine mx_S.pu (pc2 := 45) (lv2 := [(0, .ref l0), (1, .int l1)]) (st2 := [.ref l0]) hm dX13_makeMethod_44 rfl ?_
  refine sx_ic (v := 0) hm dX13_makeMethod_45 (by decide) ?_
  replace hf := mx_sv_el hf; obtain ⟨h159, e_h159, hf⟩ := hf
  refine sx_put hm dX13_makeMethod_46 rs_RX13_627 ft_13_68 ⟨rfl, rfl⟩ (fun z => by cases z) e_h159 ?_
  clear e_h159
  refine mx_S.pu (pc2 := 50) (lv2 := [(0, .ref l0), (1, .int l1)]) (st2 := [.ref l0]) hm dX13_makeMethod_49 rfl ?_
  refine sx_ic (v := 0) hm dX13_makeMethod_50 (by decide) ?_
  replace hf := mx_sv_el hf; obtain ⟨h160, e_h160, hf⟩ := hf
  refine sx_put hm dX13_makeMethod_51 rs_RX13_629 ft_13_70 ⟨rfl, rfl⟩ (fun z => by cases z) e_h160 ?_
  clear e_h160
  refine mx_S.pu (pc2 := 55) (lv2 := [(0, .ref l0), (1, .int l1)]) (st2 := [.ref l0]) hm dX13_makeMethod_54 rfl ?_
  refine sx_ic (v := 0) hm dX13_makeMethod_55 (by decide) ?_
  replace hf := mx_sv_el hf; obtain ⟨h161, e_h161, hf⟩ := hf
  refine sx_put hm dX13_makeMethod_56 rs_RX13_632 ft_13_71 ⟨rfl, rfl⟩ (fun z => by cases z) e_h161 ?_
  clear e_h161
  refine mx_S.pu (pc2 := 60) (lv2 := [(0, .ref l0), (1, .int l1)]) (st2 := [.ref l0]) hm dX13_makeMethod_59 rfl ?_
  refine sx_ic (v := 0) hm dX13_makeMethod_60 (by decide) ?_
  replace hf := mx_sv_el hf; obtain ⟨h162, e_h162, hf⟩ := hf
  refine sx_put hm dX13_makeMethod_61 rs_RX13_652 ft_13_78 ⟨rfl, rfl⟩ (fun z => by cases z) e_h162 ?_
  clear e_h162
  refine mx_S.pu (pc2 := 65) (lv2 := [(0, .ref l0), (1, .int l1)]) (st2 := [.ref l0]) hm dX13_makeMethod_64 rfl ?_
  refine sx_ic (v := 0) hm dX13_makeMethod_65 (by decide) ?_
  replace hf := mx_sv_el hf; obtain ⟨h163, e_h163, hf⟩ := hf
  refine sx_put hm dX13_makeMethod_66 rs_RX13_655 ft_13_79 ⟨rfl, rfl⟩ (fun z => by cases z) e_h163 ?_
  clear e_h163
  refine mx_S.pu (pc2 := 70) (lv2 := [(0, .ref l0), (1, .int l1)]) (st2 := [.ref l0]) hm dX13_makeMethod_69 rfl ?_
  refine sx_ic (v := 0) hm dX13_makeMethod_70 (by decide) ?_
  replace hf := mx_sv_el hf; obtain ⟨h164, e_h164, hf⟩ := hf
  refine sx_put hm dX13_makeMethod_71 rs_RX13_694 ft_13_84 ⟨rfl, rfl⟩ (fun z => by cases z) e_h164 ?_
  clear e_h164
  refine mx_S.pu (pc2 := 75) (lv2 := [(0, .ref l0), (1, .int l1)]) (st2 := [.ref l0]) hm dX13_makeMethod_74 rfl ?_
  refine sx_ic (v := 0) hm dX13_makeMethod_75 (by decide) ?_
  replace hf := mx_sv_el hf; obtain ⟨h165, e_h165, hf⟩ := hf
  refine sx_put hm dX13_makeMethod_76 rs_RX13_643 ft_13_87 ⟨rfl, rfl⟩ (fun z => by cases z) e_h165 ?_
  clear e_h165
  refine sx_ic (v := 0) hm dX13_makeMethod_79 (by decide) ?_
  refine mx_S.pu (pc2 := 81) (lv2 := [(2, .int 0), (0, .ref l0), (1, .int l1)]) (st2 := []) hm dX13_makeMethod_80 rfl ?_
  refine mx_S.ext [(0, .ref l0), (1, .int l1), (2, .int 0)] (mx_sub_pos [1, 2, 0] rfl (show ([2, 0, 1] : List Nat).Nodup by decide)) ?_
  exact w_X13_makeMethod_81_ok X hF hL nn nn l0 l1 0 h165 _ hf
set_option maxHeartbeats 4000000 in
set_option maxRecDepth 20000 in
theorem f_X13_makeMethod_ok (X : Nat × (Nat → Int32)) {F L : Nat} (hF : 1661 ≤ F) (hL : 43548 ≤ L) (nn : Nat) (a0 : Nat) (a1 : Int32) (h : mx_H) {r : mx_H} (hf : f_X13_makeMethod nn a0 a1 h = some r) : mx_R X F L 482 [.ref a0, .int a1] h (none, r, 0, 0) := by
  have hm : mx_mt 482 = some (yX13_makeMethod, cX13_makeMethod, 9, none) := mt_X13_makeMethod
  show mx_S X F L 482 0 [(0, .ref a0), (1, .int a1)] [] h 0 0 (none, r, 0, 0)
  unfold f_X13_makeMethod at hf
  refine mx_S.pu (pc2 := 1) (lv2 := [(0, .ref a0), (1, .int a1)]) (st2 := [.ref a0]) hm dX13_makeMethod_0 rfl ?_
  refine mx_S.pu (pc2 := 2) (lv2 := [(0, .ref a0), (1, .int a1)]) (st2 := [.int a1, .ref a0]) hm dX13_makeMethod_1 rfl ?_
  replace hf := mx_sv_el hf; obtain ⟨h166, e_h166, hf⟩ := hf
  refine sx_put hm dX13_makeMethod_2 rs_RX13_516 ft_13_51 ⟨rfl, rfl⟩ (fun z => by cases z) e_h166 ?_
  clear e_h166
  refine mx_S.pu (pc2 := 6) (lv2 := [(0, .ref a0), (1, .int a1)]) (st2 := [.ref a0]) hm dX13_makeMethod_5 rfl ?_
  refine mx_S.pu (pc2 := 7) (lv2 := [(0, .ref a0), (1, .int a1)]) (st2 := [.ref a0, .ref a0]) hm dX13_makeMethod_6 rfl ?_
  replace hf := mx_sv_el hf; obtain ⟨v167, e_v167, hf⟩ := hf
  refine sx_get hm dX13_makeMethod_7 rs_RX13_74 (xgr_el e_v167) ?_
  clear e_v167
  refine mx_S.pu (pc2 := 11) (lv2 := [(0, .ref a0), (1, .int a1)]) (st2 := [.int a1, .ref v167, .ref a0]) hm dX13_makeMethod_10 rfl ?_
  replace hf := mx_sv_el hf; obtain ⟨v168, e_v168, hf⟩ := hf
  refine sx_ald hm dX13_makeMethod_11 e_v168 ?_
  clear e_v168
  refine sx_ic (v := 2) hm dX13_makeMethod_12 (by decide) ?_
  rcases mx_if_el hf with ⟨c169, hf⟩ | ⟨c169, hf⟩
  · refine sb_ic_ne hm dX13_makeMethod_13 (tgt := 20) rfl (fun _ => ?_) (fun z => absurd c169 z)
    refine sx_ic (v := 0) hm dX13_makeMethod_20 (by decide) ?_
    exact j_X13_makeMethod_21_ok X hF hL nn a0 a1 0 a0 h166 hf
  · refine sb_ic_ne hm dX13_makeMethod_13 (tgt := 20) rfl (fun z => absurd z c169) (fun _ => ?_)
    refine sx_ic (v := 1) hm dX13_makeMethod_16 (by decide) ?_
    refine mx_S.pu (pc2 := 21) (lv2 := [(0, .ref a0), (1, .int a1)]) (st2 := [.int 1, .ref a0]) hm dX13_makeMethod_17 rfl ?_
    exact j_X13_makeMethod_21_ok X hF hL nn a0 a1 1 a0 h166 hf
set_option maxHeartbeats 4000000 in
set_option maxRecDepth 20000 in
theorem w_X13_writeConstant_119_ok (X : Nat × (Nat → Int32)) {F L : Nat} (hF : 0 ≤ F) (hL : 0 ≤ L) (nn : Nat) : ∀ (k : Nat) (l0 : Nat) (l1 : Int32) (l3 : Int32) (l4 : Int32) (h : mx_H) (r : (Int32 × mx_H)), w_X13_writeConstant_119 nn k l0 l1 l3 l4 h = some r → mx_S X F L 485 119 [(0, .ref l0), (1, .int l1), (3, .int l3), (4, .int l4)] [] h 0 0 (some (.int r.1), r.2, 0, 0) := by
  have hm : mx_mt 485 = some (yX13_writeConstant, cX13_writeConstant, 5, (some .int)) := mt_X13_writeConstant
  intro k
  induction k with
  | zero => intro l0 l1 l3 l4 h r hf; cases hf
  | succ k ih =>
    intro l0 l1 l3 l4 h r hf
    unfold w_X13_writeConstant_119 at hf
    refine mx_S.pu (pc2 := 121) (lv2 := [(0, .ref l0), (1, .int l1), (3, .int l3), (4, .int l4)]) (st2 := [.int l4]) hm dX13_writeConstant_119 rfl ?_
    refine sx_ic (v := 4) hm dX13_writeConstant_121 (by decide) ?_
    rcases mx_if_el hf with ⟨c12, hf⟩ | ⟨c12, hf⟩
    · refine sb_ic_ge hm dX13_writeConstant_122 (tgt := 159) rfl (fun _ => ?_) (fun z => absurd c12 z)
      refine mx_S.pu (pc2 := 160) (lv2 := [(0, .ref l0), (1, .int l1), (3, .int l3), (4, .int l4)]) (st2 := [.int l3]) hm dX13_writeConstant_159 rfl ?_
      refine sx_ic (v := 4) hm dX13_writeConstant_160 (by decide) ?_
      replace hf := xl_el hf; obtain ⟨v1, e_v1, hf⟩ := hf
      refine mx_S.pu (pc2 := 162) (lv2 := [(0, .ref l0), (1, .int l1), (3, .int l3), (4, .int l4)]) (st2 := [.int v1]) hm dX13_writeConstant_161 (by rw [← e_v1]; rfl) ?_
      clear e_v1
      cases hf
      exact sx_ire hm dX13_writeConstant_162 rfl rfl
    · refine sb_ic_ge hm dX13_writeConstant_122 (tgt := 159) rfl (fun z => absurd z c12) (fun _ => ?_)
      refine mx_S.pu (pc2 := 126) (lv2 := [(0, .ref l0), (1, .int l1), (3, .int l3), (4, .int l4)]) (st2 := [.ref l0]) hm dX13_writeConstant_125 rfl ?_
      replace hf := mx_sv_el hf; obtain ⟨v2, e_v2, hf⟩ := hf
      refine sx_get hm dX13_writeConstant_126 rs_RX13_200 (xgr_el e_v2) ?_
      clear e_v2
      refine mx_S.pu (pc2 := 130) (lv2 := [(0, .ref l0), (1, .int l1), (3, .int l3), (4, .int l4)]) (st2 := [.int l3, .ref v2]) hm dX13_writeConstant_129 rfl ?_
      refine mx_S.pu (pc2 := 132) (lv2 := [(0, .ref l0), (1, .int l1), (3, .int l3), (4, .int l4)]) (st2 := [.int l4, .int l3, .ref v2]) hm dX13_writeConstant_130 rfl ?_
      replace hf := xl_el hf; obtain ⟨v3, e_v3, hf⟩ := hf
      refine mx_S.pu (pc2 := 133) (lv2 := [(0, .ref l0), (1, .int l1), (3, .int l3), (4, .int l4)]) (st2 := [.int v3, .ref v2]) hm dX13_writeConstant_132 (by rw [← e_v3]; rfl) ?_
      clear e_v3
      refine mx_S.pu (pc2 := 134) (lv2 := [(0, .ref l0), (1, .int l1), (3, .int l3), (4, .int l4)]) (st2 := [.ref l0, .int v3, .ref v2]) hm dX13_writeConstant_133 rfl ?_
      replace hf := mx_sv_el hf; obtain ⟨v4, e_v4, hf⟩ := hf
      refine sx_get hm dX13_writeConstant_134 rs_RX13_131 (xgr_el e_v4) ?_
      clear e_v4
      refine mx_S.pu (pc2 := 138) (lv2 := [(0, .ref l0), (1, .int l1), (3, .int l3), (4, .int l4)]) (st2 := [.int l1, .ref v4, .int v3, .ref v2]) hm dX13_writeConstant_137 rfl ?_
      replace hf := mx_sv_el hf; obtain ⟨v5, e_v5, hf⟩ := hf
      refine sx_ald hm dX13_writeConstant_138 e_v5 ?_
      clear e_v5
      refine sx_bi (v := 24) hm dX13_writeConstant_139 (by decide) ?_
      refine sx_bi (v := 8) hm dX13_writeConstant_141 (by decide) ?_
      refine mx_S.pu (pc2 := 145) (lv2 := [(0, .ref l0), (1, .int l1), (3, .int l3), (4, .int l4)]) (st2 := [.int l4, .int 8, .int 24, .int v5, .int v3, .ref v2]) hm dX13_writeConstant_143 rfl ?_
      replace hf := xl_el hf; obtain ⟨v6, e_v6, hf⟩ := hf
      refine mx_S.pu (pc2 := 146) (lv2 := [(0, .ref l0), (1, .int l1), (3, .int l3), (4, .int l4)]) (st2 := [.int v6, .int 24, .int v5, .int v3, .ref v2]) hm dX13_writeConstant_145 (by rw [← e_v6]; rfl) ?_
      clear e_v6
      replace hf := xl_el hf; obtain ⟨v7, e_v7, hf⟩ := hf
      refine mx_S.pu (pc2 := 147) (lv2 := [(0, .ref l0), (1, .int l1), (3, .int l3), (4, .int l4)]) (st2 := [.int v7, .int v5, .int v3, .ref v2]) hm dX13_writeConstant_146 (by rw [← e_v7]; rfl) ?_
      clear e_v7
      replace hf := xl_el hf; obtain ⟨v8, e_v8, hf⟩ := hf
      refine mx_S.pu (pc2 := 148) (lv2 := [(0, .ref l0), (1, .int l1), (3, .int l3), (4, .int l4)]) (st2 := [.int v8, .int v3, .ref v2]) hm dX13_writeConstant_147 (by rw [← e_v8]; rfl) ?_
      clear e_v8
      refine sx_si (v := 255) hm dX13_writeConstant_148 (by decide) ?_
      replace hf := xl_el hf; obtain ⟨v9, e_v9, hf⟩ := hf
      refine mx_S.pu (pc2 := 152) (lv2 := [(0, .ref l0), (1, .int l1), (3, .int l3), (4, .int l4)]) (st2 := [.int v9, .int v3, .ref v2]) hm dX13_writeConstant_151 (by rw [← e_v9]; rfl) ?_
      clear e_v9
      replace hf := mx_sv_el hf; obtain ⟨h10, e_h10, hf⟩ := hf
      refine sx_ast hm dX13_writeConstant_152 e_h10 ?_
      clear e_h10
      replace hf := xl_el hf; obtain ⟨v11, e_v11, hf⟩ := hf
      refine mx_S.pu (pc2 := 156) (lv2 := [(4, .int v11), (0, .ref l0), (1, .int l1), (3, .int l3)]) (st2 := []) hm dX13_writeConstant_153 (by rw [← e_v11]; rfl) ?_
      clear e_v11
      refine mx_S.pu (pc2 := 119) (lv2 := [(4, .int v11), (0, .ref l0), (1, .int l1), (3, .int l3)]) (st2 := []) hm dX13_writeConstant_156 rfl ?_
      refine mx_S.ext [(0, .ref l0), (1, .int l1), (3, .int l3), (4, .int v11)] (mx_sub_pos [1, 2, 3, 0] rfl (show ([4, 0, 1, 3] : List Nat).Nodup by decide)) ?_
      exact ih l0 l1 l3 v11 h10 _ hf
set_option maxHeartbeats 4000000 in
set_option maxRecDepth 20000 in
theorem w_X13_writeConstant_63_ok (X : Nat × (Nat → Int32)) {F L : Nat} (hF : 0 ≤ F) (hL : 0 ≤ L) (nn : Nat) : ∀ (k : Nat) (l0 : Nat) (l1 : Int32) (l3 : Int32) (l4 : Int32) (h : mx_H) (r : (Int32 × mx_H)), w_X13_writeConstant_63 nn k l0 l1 l3 l4 h = some r → mx_S X F L 485 63 [(0, .ref l0), (1, .int l1), (3, .int l3), (4, .int l4)] [] h 0 0 (some (.int r.1), r.2, 0, 0) := by
  have hm : mx_mt 485 = some (yX13_writeConstant, cX13_writeConstant, 5, (some .int)) := mt_X13_writeConstant
  intro k
  induction k with
  | zero => intro l0 l1 l3 l4 h r hf; cases hf
  | succ k ih =>
    intro l0 l1 l3 l4 h r hf
    unfold w_X13_writeConstant_63 at hf
    refine mx_S.pu (pc2 := 65) (lv2 := [(0, .ref l0), (1, .int l1), (3, .int l3), (4, .int l4)]) (st2 := [.int l4]) hm dX13_writeConstant_63 rfl ?_
    refine mx_S.pu (pc2 := 66) (lv2 := [(0, .ref l0), (1, .int l1), (3, .int l3), (4, .int l4)]) (st2 := [.ref l0, .int l4]) hm dX13_writeConstant_65 rfl ?_
    replace hf := mx_sv_el hf; obtain ⟨v13, e_v13, hf⟩ := hf
    refine sx_get hm dX13_writeConstant_66 rs_RX13_134 (xgr_el e_v13) ?_
    clear e_v13
    refine mx_S.pu (pc2 := 70) (lv2 := [(0, .ref l0), (1, .int l1), (3, .int l3), (4, .int l4)]) (st2 := [.int l1, .ref v13, .int l4]) hm dX13_writeConstant_69 rfl ?_
    replace hf := mx_sv_el hf; obtain ⟨v14, e_v14, hf⟩ := hf
    refine sx_ald hm dX13_writeConstant_70 e_v14 ?_
    clear e_v14
    rcases mx_if_el hf with ⟨c29, hf⟩ | ⟨c29, hf⟩
    · refine sb_ic_ge hm dX13_writeConstant_71 (tgt := 105) rfl (fun _ => ?_) (fun z => absurd c29 z)
      refine mx_S.pu (pc2 := 106) (lv2 := [(0, .ref l0), (1, .int l1), (3, .int l3), (4, .int l4)]) (st2 := [.int l3]) hm dX13_writeConstant_105 rfl ?_
      refine sx_ic (v := 1) hm dX13_writeConstant_106 (by decide) ?_
      replace hf := xl_el hf; obtain ⟨v15, e_v15, hf⟩ := hf
      refine mx_S.pu (pc2 := 108) (lv2 := [(0, .ref l0), (1, .int l1), (3, .int l3), (4, .int l4)]) (st2 := [.int v15]) hm dX13_writeConstant_107 (by rw [← e_v15]; rfl) ?_
      clear e_v15
      refine mx_S.pu (pc2 := 109) (lv2 := [(0, .ref l0), (1, .int l1), (3, .int l3), (4, .int l4)]) (st2 := [.ref l0, .int v15]) hm dX13_writeConstant_108 rfl ?_
      replace hf := mx_sv_el hf; obtain ⟨v16, e_v16, hf⟩ := hf
      refine sx_get hm dX13_writeConstant_109 rs_RX13_134 (xgr_el e_v16) ?_
      clear e_v16
      refine mx_S.pu (pc2 := 113) (lv2 := [(0, .ref l0), (1, .int l1), (3, .int l3), (4, .int l4)]) (st2 := [.int l1, .ref v16, .int v15]) hm dX13_writeConstant_112 rfl ?_
      replace hf := mx_sv_el hf; obtain ⟨v17, e_v17, hf⟩ := hf
      refine sx_ald hm dX13_writeConstant_113 e_v17 ?_
      clear e_v17
      replace hf := xl_el hf; obtain ⟨v18, e_v18, hf⟩ := hf
      refine mx_S.pu (pc2 := 115) (lv2 := [(0, .ref l0), (1, .int l1), (3, .int l3), (4, .int l4)]) (st2 := [.int v18]) hm dX13_writeConstant_114 (by rw [← e_v18]; rfl) ?_
      clear e_v18
      cases hf
      exact sx_ire hm dX13_writeConstant_115 rfl rfl
    · refine sb_ic_ge hm dX13_writeConstant_71 (tgt := 105) rfl (fun z => absurd z c29) (fun _ => ?_)
      refine mx_S.pu (pc2 := 75) (lv2 := [(0, .ref l0), (1, .int l1), (3, .int l3), (4, .int l4)]) (st2 := [.ref l0]) hm dX13_writeConstant_74 rfl ?_
      replace hf := mx_sv_el hf; obtain ⟨v19, e_v19, hf⟩ := hf
      refine sx_get hm dX13_writeConstant_75 rs_RX13_200 (xgr_el e_v19) ?_
      clear e_v19
      refine mx_S.pu (pc2 := 79) (lv2 := [(0, .ref l0), (1, .int l1), (3, .int l3), (4, .int l4)]) (st2 := [.int l3, .ref v19]) hm dX13_writeConstant_78 rfl ?_
      refine sx_ic (v := 1) hm dX13_writeConstant_79 (by decide) ?_
      replace hf := xl_el hf; obtain ⟨v20, e_v20, hf⟩ := hf
      refine mx_S.pu (pc2 := 81) (lv2 := [(0, .ref l0), (1, .int l1), (3, .int l3), (4, .int l4)]) (st2 := [.int v20, .ref v19]) hm dX13_writeConstant_80 (by rw [← e_v20]; rfl) ?_
      clear e_v20
      refine mx_S.pu (pc2 := 83) (lv2 := [(0, .ref l0), (1, .int l1), (3, .int l3), (4, .int l4)]) (st2 := [.int l4, .int v20, .ref v19]) hm dX13_writeConstant_81 rfl ?_
      replace hf := xl_el hf; obtain ⟨v21, e_v21, hf⟩ := hf
      refine mx_S.pu (pc2 := 84) (lv2 := [(0, .ref l0), (1, .int l1), (3, .int l3), (4, .int l4)]) (st2 := [.int v21, .ref v19]) hm dX13_writeConstant_83 (by rw [← e_v21]; rfl) ?_
      clear e_v21
      refine mx_S.pu (pc2 := 85) (lv2 := [(0, .ref l0), (1, .int l1), (3, .int l3), (4, .int l4)]) (st2 := [.ref l0, .int v21, .ref v19]) hm dX13_writeConstant_84 rfl ?_
      replace hf := mx_sv_el hf; obtain ⟨v22, e_v22, hf⟩ := hf
      refine sx_get hm dX13_writeConstant_85 rs_RX13_141 (xgr_el e_v22) ?_
      clear e_v22
      refine mx_S.pu (pc2 := 89) (lv2 := [(0, .ref l0), (1, .int l1), (3, .int l3), (4, .int l4)]) (st2 := [.ref l0, .ref v22, .int v21, .ref v19]) hm dX13_writeConstant_88 rfl ?_
      replace hf := mx_sv_el hf; obtain ⟨v23, e_v23, hf⟩ := hf
      refine sx_get hm dX13_writeConstant_89 rs_RX13_131 (xgr_el e_v23) ?_
      clear e_v23
      refine mx_S.pu (pc2 := 93) (lv2 := [(0, .ref l0), (1, .int l1), (3, .int l3), (4, .int l4)]) (st2 := [.int l1, .ref v23, .ref v22, .int v21, .ref v19]) hm dX13_writeConstant_92 rfl ?_
      replace hf := mx_sv_el hf; obtain ⟨v24, e_v24, hf⟩ := hf
      refine sx_ald hm dX13_writeConstant_93 e_v24 ?_
      clear e_v24
      refine mx_S.pu (pc2 := 96) (lv2 := [(0, .ref l0), (1, .int l1), (3, .int l3), (4, .int l4)]) (st2 := [.int l4, .int v24, .ref v22, .int v21, .ref v19]) hm dX13_writeConstant_94 rfl ?_
      replace hf := xl_el hf; obtain ⟨v25, e_v25, hf⟩ := hf
      refine mx_S.pu (pc2 := 97) (lv2 := [(0, .ref l0), (1, .int l1), (3, .int l3), (4, .int l4)]) (st2 := [.int v25, .ref v22, .int v21, .ref v19]) hm dX13_writeConstant_96 (by rw [← e_v25]; rfl) ?_
      clear e_v25
      replace hf := mx_sv_el hf; obtain ⟨v26, e_v26, hf⟩ := hf
      refine sx_ald hm dX13_writeConstant_97 e_v26 ?_
      clear e_v26
      replace hf := mx_sv_el hf; obtain ⟨h27, e_h27, hf⟩ := hf
      refine sx_ast hm dX13_writeConstant_98 e_h27 ?_
      clear e_h27
      replace hf := xl_el hf; obtain ⟨v28, e_v28, hf⟩ := hf
      refine mx_S.pu (pc2 := 102) (lv2 := [(4, .int v28), (0, .ref l0), (1, .int l1), (3, .int l3)]) (st2 := []) hm dX13_writeConstant_99 (by rw [← e_v28]; rfl) ?_
      clear e_v28
      refine mx_S.pu (pc2 := 63) (lv2 := [(4, .int v28), (0, .ref l0), (1, .int l1), (3, .int l3)]) (st2 := []) hm dX13_writeConstant_102 rfl ?_
      refine mx_S.ext [(0, .ref l0), (1, .int l1), (3, .int l3), (4, .int v28)] (mx_sub_pos [1, 2, 3, 0] rfl (show ([4, 0, 1, 3] : List Nat).Nodup by decide)) ?_
      exact ih l0 l1 l3 v28 h27 _ hf
set_option maxHeartbeats 4000000 in
set_option maxRecDepth 20000 in
theorem f_X13_writeConstant_ok (X : Nat × (Nat → Int32)) {F L : Nat} (hF : 0 ≤ F) (hL : 0 ≤ L) (nn : Nat) (a0 : Nat) (a1 : Int32) (a2 : Int32) (h : mx_H) {r : (Int32 × mx_H)} (hf : f_X13_writeConstant nn a0 a1 a2 h = some r) : mx_R X F L 485 [.ref a0, .int a1, .int a2] h (some (.int r.1), r.2, 0, 0) := by
  have hm : mx_mt 485 = some (yX13_writeConstant, cX13_writeConstant, 5, (some .int)) := mt_X13_writeConstant
  show mx_S X F L 485 0 [(0, .ref a0), (1, .int a1), (2, .int a2)] [] h 0 0 (some (.int r.1), r.2, 0, 0)
  unfold f_X13_writeConstant at hf
  refine mx_S.pu (pc2 := 1) (lv2 := [(0, .ref a0), (1, .int a1), (2, .int a2)]) (st2 := [.int a2]) hm dX13_writeConstant_0 rfl ?_
  refine mx_S.pu (pc2 := 2) (lv2 := [(3, .int a2), (0, .ref a0), (1, .int a1), (2, .int a2)]) (st2 := []) hm dX13_writeConstant_1 rfl ?_
  refine mx_S.pu (pc2 := 3) (lv2 := [(3, .int a2), (0, .ref a0), (1, .int a1), (2, .int a2)]) (st2 := [.ref a0]) hm dX13_writeConstant_2 rfl ?_
  replace hf := mx_sv_el hf; obtain ⟨v30, e_v30, hf⟩ := hf
  refine sx_get hm dX13_writeConstant_3 rs_RX13_200 (xgr_el e_v30) ?_
  clear e_v30
  refine mx_S.pu (pc2 := 7) (lv2 := [(3, .int a2), (0, .ref a0), (1, .int a1), (2, .int a2)]) (st2 := [.int a2, .ref v30]) hm dX13_writeConstant_6 rfl ?_
  refine mx_S.pu (pc2 := 8) (lv2 := [(3, .int a2), (0, .ref a0), (1, .int a1), (2, .int a2)]) (st2 := [.ref a0, .int a2, .ref v30]) hm dX13_writeConstant_7 rfl ?_
  replace hf := mx_sv_el hf; obtain ⟨v31, e_v31, hf⟩ := hf
  refine sx_get hm dX13_writeConstant_8 rs_RX13_128 (xgr_el e_v31) ?_
  clear e_v31
  refine mx_S.pu (pc2 := 12) (lv2 := [(3, .int a2), (0, .ref a0), (1, .int a1), (2, .int a2)]) (st2 := [.int a1, .ref v31, .int a2, .ref v30]) hm dX13_writeConstant_11 rfl ?_
  replace hf := mx_sv_el hf; obtain ⟨v32, e_v32, hf⟩ := hf
  refine sx_ald hm dX13_writeConstant_12 e_v32 ?_
  clear e_v32
  replace hf := mx_sv_el hf; obtain ⟨h33, e_h33, hf⟩ := hf
  refine sx_ast hm dX13_writeConstant_13 e_h33 ?_
  clear e_h33
  replace hf := xl_el hf; obtain ⟨v34, e_v34, hf⟩ := hf
  refine mx_S.pu (pc2 := 17) (lv2 := [(3, .int v34), (0, .ref a0), (1, .int a1), (2, .int a2)]) (st2 := []) hm dX13_writeConstant_14 (by rw [← e_v34]; rfl) ?_
  clear e_v34
  refine mx_S.pu (pc2 := 18) (lv2 := [(3, .int v34), (0, .ref a0), (1, .int a1), (2, .int a2)]) (st2 := [.ref a0]) hm dX13_writeConstant_17 rfl ?_
  replace hf := mx_sv_el hf; obtain ⟨v35, e_v35, hf⟩ := hf
  refine sx_get hm dX13_writeConstant_18 rs_RX13_128 (xgr_el e_v35) ?_
  clear e_v35
  refine mx_S.pu (pc2 := 22) (lv2 := [(3, .int v34), (0, .ref a0), (1, .int a1), (2, .int a2)]) (st2 := [.int a1, .ref v35]) hm dX13_writeConstant_21 rfl ?_
  replace hf := mx_sv_el hf; obtain ⟨v36, e_v36, hf⟩ := hf
  refine sx_ald hm dX13_writeConstant_22 e_v36 ?_
  clear e_v36
  rcases mx_if_el hf with ⟨n_0, hf⟩ | ⟨n_0, hf⟩
  · refine sx_tin hm dX13_writeConstant_23 (by rw [n_0]; decide) (by rw [n_0]; decide) (off := 25) (by rw [n_0]; rfl) (tgt := 48) rfl ?_
    clear n_0
    refine mx_S.pu (pc2 := 49) (lv2 := [(3, .int v34), (0, .ref a0), (1, .int a1), (2, .int a2)]) (st2 := [.ref a0]) hm dX13_writeConstant_48 rfl ?_
    replace hf := mx_sv_el hf; obtain ⟨v52, e_v52, hf⟩ := hf
    refine sx_get hm dX13_writeConstant_49 rs_RX13_200 (xgr_el e_v52) ?_
    clear e_v52
    refine mx_S.pu (pc2 := 53) (lv2 := [(3, .int v34), (0, .ref a0), (1, .int a1), (2, .int a2)]) (st2 := [.int v34, .ref v52]) hm dX13_writeConstant_52 rfl ?_
    refine mx_S.pu (pc2 := 54) (lv2 := [(3, .int v34), (0, .ref a0), (1, .int a1), (2, .int a2)]) (st2 := [.ref a0, .int v34, .ref v52]) hm dX13_writeConstant_53 rfl ?_
    replace hf := mx_sv_el hf; obtain ⟨v53, e_v53, hf⟩ := hf
    refine sx_get hm dX13_writeConstant_54 rs_RX13_134 (xgr_el e_v53) ?_
    clear e_v53
    refine mx_S.pu (pc2 := 58) (lv2 := [(3, .int v34), (0, .ref a0), (1, .int a1), (2, .int a2)]) (st2 := [.int a1, .ref v53, .int v34, .ref v52]) hm dX13_writeConstant_57 rfl ?_
    replace hf := mx_sv_el hf; obtain ⟨v54, e_v54, hf⟩ := hf
    refine sx_ald hm dX13_writeConstant_58 e_v54 ?_
    clear e_v54
    replace hf := mx_sv_el hf; obtain ⟨h55, e_h55, hf⟩ := hf
    refine sx_ast hm dX13_writeConstant_59 e_h55 ?_
    clear e_h55
    refine sx_ic (v := 0) hm dX13_writeConstant_60 (by decide) ?_
    refine mx_S.pu (pc2 := 63) (lv2 := [(4, .int 0), (3, .int v34), (0, .ref a0), (1, .int a1), (2, .int a2)]) (st2 := []) hm dX13_writeConstant_61 rfl ?_
    refine mx_S.ext [(0, .ref a0), (1, .int a1), (3, .int v34), (4, .int 0)] (mx_sub_pos [2, 3, 1, 0] rfl (show ([4, 3, 0, 1, 2] : List Nat).Nodup by decide)) ?_
    exact w_X13_writeConstant_63_ok X hF hL nn nn a0 a1 v34 0 h55 _ hf
  · rcases mx_if_el hf with ⟨n_1, hf⟩ | ⟨n_1, hf⟩
    · refine sx_tin hm dX13_writeConstant_23 (by rw [n_1]; decide) (by rw [n_1]; decide) (off := 93) (by rw [n_1]; rfl) (tgt := 116) rfl ?_
      clear n_0 n_1
      refine sx_ic (v := 0) hm dX13_writeConstant_116 (by decide) ?_
      refine mx_S.pu (pc2 := 119) (lv2 := [(4, .int 0), (3, .int v34), (0, .ref a0), (1, .int a1), (2, .int a2)]) (st2 := []) hm dX13_writeConstant_117 rfl ?_
      refine mx_S.ext [(0, .ref a0), (1, .int a1), (3, .int v34), (4, .int 0)] (mx_sub_pos [2, 3, 1, 0] rfl (show ([4, 3, 0, 1, 2] : List Nat).Nodup by decide)) ?_
      exact w_X13_writeConstant_119_ok X hF hL nn nn a0 a1 v34 0 h33 _ hf
    · rcases mx_if_el hf with ⟨n_2, hf⟩ | ⟨n_2, hf⟩
      · refine sx_tin hm dX13_writeConstant_23 (by rw [n_2]; decide) (by rw [n_2]; decide) (off := 140) (by rw [n_2]; rfl) (tgt := 163) rfl ?_
        clear n_0 n_1 n_2
        refine mx_S.pu (pc2 := 164) (lv2 := [(3, .int v34), (0, .ref a0), (1, .int a1), (2, .int a2)]) (st2 := [.ref a0]) hm dX13_writeConstant_163 rfl ?_
        replace hf := mx_sv_el hf; obtain ⟨v56, e_v56, hf⟩ := hf
        refine sx_get hm dX13_writeConstant_164 rs_RX13_200 (xgr_el e_v56) ?_
        clear e_v56
        refine mx_S.pu (pc2 := 168) (lv2 := [(3, .int v34), (0, .ref a0), (1, .int a1), (2, .int a2)]) (st2 := [.int v34, .ref v56]) hm dX13_writeConstant_167 rfl ?_
        refine mx_S.pu (pc2 := 169) (lv2 := [(3, .int v34), (0, .ref a0), (1, .int a1), (2, .int a2)]) (st2 := [.ref a0, .int v34, .ref v56]) hm dX13_writeConstant_168 rfl ?_
        replace hf := mx_sv_el hf; obtain ⟨v57, e_v57, hf⟩ := hf
        refine sx_get hm dX13_writeConstant_169 rs_RX13_131 (xgr_el e_v57) ?_
        clear e_v57
        refine mx_S.pu (pc2 := 173) (lv2 := [(3, .int v34), (0, .ref a0), (1, .int a1), (2, .int a2)]) (st2 := [.int a1, .ref v57, .int v34, .ref v56]) hm dX13_writeConstant_172 rfl ?_
        replace hf := mx_sv_el hf; obtain ⟨v58, e_v58, hf⟩ := hf
        refine sx_ald hm dX13_writeConstant_173 e_v58 ?_
        clear e_v58
        replace hf := mx_sv_el hf; obtain ⟨h59, e_h59, hf⟩ := hf
        refine sx_ast hm dX13_writeConstant_174 e_h59 ?_
        clear e_h59
        refine mx_S.pu (pc2 := 176) (lv2 := [(3, .int v34), (0, .ref a0), (1, .int a1), (2, .int a2)]) (st2 := [.int v34]) hm dX13_writeConstant_175 rfl ?_
        refine sx_ic (v := 1) hm dX13_writeConstant_176 (by decide) ?_
        replace hf := xl_el hf; obtain ⟨v60, e_v60, hf⟩ := hf
        refine mx_S.pu (pc2 := 178) (lv2 := [(3, .int v34), (0, .ref a0), (1, .int a1), (2, .int a2)]) (st2 := [.int v60]) hm dX13_writeConstant_177 (by rw [← e_v60]; rfl) ?_
        clear e_v60
        cases hf
        exact sx_ire hm dX13_writeConstant_178 rfl rfl
      · rcases (show (v36.toInt < 1 ∨ 3 < v36.toInt) ∨ v36.toInt = 1 ∨ v36.toInt = 2 ∨ v36.toInt = 3 by omega) with z0 | z0 | z0 | z0
        · refine sx_tout hm dX13_writeConstant_23 z0 (tgt := 179) rfl ?_
          refine mx_S.pu (pc2 := 180) (lv2 := [(3, .int v34), (0, .ref a0), (1, .int a1), (2, .int a2)]) (st2 := [.ref a0]) hm dX13_writeConstant_179 rfl ?_
          replace hf := mx_sv_el hf; obtain ⟨v37, e_v37, hf⟩ := hf
          refine sx_get hm dX13_writeConstant_180 rs_RX13_200 (xgr_el e_v37) ?_
          clear e_v37
          refine mx_S.pu (pc2 := 184) (lv2 := [(3, .int v34), (0, .ref a0), (1, .int a1), (2, .int a2)]) (st2 := [.int v34, .ref v37]) hm dX13_writeConstant_183 rfl ?_
          refine mx_S.pu (pc2 := 185) (lv2 := [(3, .int v34), (0, .ref a0), (1, .int a1), (2, .int a2)]) (st2 := [.ref a0, .int v34, .ref v37]) hm dX13_writeConstant_184 rfl ?_
          replace hf := mx_sv_el hf; obtain ⟨v38, e_v38, hf⟩ := hf
          refine sx_get hm dX13_writeConstant_185 rs_RX13_131 (xgr_el e_v38) ?_
          clear e_v38
          refine mx_S.pu (pc2 := 189) (lv2 := [(3, .int v34), (0, .ref a0), (1, .int a1), (2, .int a2)]) (st2 := [.int a1, .ref v38, .int v34, .ref v37]) hm dX13_writeConstant_188 rfl ?_
          replace hf := mx_sv_el hf; obtain ⟨v39, e_v39, hf⟩ := hf
          refine sx_ald hm dX13_writeConstant_189 e_v39 ?_
          clear e_v39
          replace hf := mx_sv_el hf; obtain ⟨h40, e_h40, hf⟩ := hf
          refine sx_ast hm dX13_writeConstant_190 e_h40 ?_
          clear e_h40
          refine mx_S.pu (pc2 := 192) (lv2 := [(3, .int v34), (0, .ref a0), (1, .int a1), (2, .int a2)]) (st2 := [.ref a0]) hm dX13_writeConstant_191 rfl ?_
          replace hf := mx_sv_el hf; obtain ⟨v41, e_v41, hf⟩ := hf
          refine sx_get hm dX13_writeConstant_192 rs_RX13_200 (xgr_el e_v41) ?_
          clear e_v41
          refine mx_S.pu (pc2 := 196) (lv2 := [(3, .int v34), (0, .ref a0), (1, .int a1), (2, .int a2)]) (st2 := [.int v34, .ref v41]) hm dX13_writeConstant_195 rfl ?_
          refine sx_ic (v := 1) hm dX13_writeConstant_196 (by decide) ?_
          replace hf := xl_el hf; obtain ⟨v42, e_v42, hf⟩ := hf
          refine mx_S.pu (pc2 := 198) (lv2 := [(3, .int v34), (0, .ref a0), (1, .int a1), (2, .int a2)]) (st2 := [.int v42, .ref v41]) hm dX13_writeConstant_197 (by rw [← e_v42]; rfl) ?_
          clear e_v42
          refine mx_S.pu (pc2 := 199) (lv2 := [(3, .int v34), (0, .ref a0), (1, .int a1), (2, .int a2)]) (st2 := [.ref a0, .int v42, .ref v41]) hm dX13_writeConstant_198 rfl ?_
          replace hf := mx_sv_el hf; obtain ⟨v43, e_v43, hf⟩ := hf
          refine sx_get hm dX13_writeConstant_199 rs_RX13_134 (xgr_el e_v43) ?_
          clear e_v43
          refine mx_S.pu (pc2 := 203) (lv2 := [(3, .int v34), (0, .ref a0), (1, .int a1), (2, .int a2)]) (st2 := [.int a1, .ref v43, .int v42, .ref v41]) hm dX13_writeConstant_202 rfl ?_
          replace hf := mx_sv_el hf; obtain ⟨v44, e_v44, hf⟩ := hf
          refine sx_ald hm dX13_writeConstant_203 e_v44 ?_
          clear e_v44
          replace hf := mx_sv_el hf; obtain ⟨h45, e_h45, hf⟩ := hf
          refine sx_ast hm dX13_writeConstant_204 e_h45 ?_
          clear e_h45
          refine mx_S.pu (pc2 := 206) (lv2 := [(3, .int v34), (0, .ref a0), (1, .int a1), (2, .int a2)]) (st2 := [.ref a0]) hm dX13_writeConstant_205 rfl ?_
          replace hf := mx_sv_el hf; obtain ⟨v46, e_v46, hf⟩ := hf
          refine sx_get hm dX13_writeConstant_206 rs_RX13_200 (xgr_el e_v46) ?_
          clear e_v46
          refine mx_S.pu (pc2 := 210) (lv2 := [(3, .int v34), (0, .ref a0), (1, .int a1), (2, .int a2)]) (st2 := [.int v34, .ref v46]) hm dX13_writeConstant_209 rfl ?_
          refine sx_ic (v := 2) hm dX13_writeConstant_210 (by decide) ?_
          replace hf := xl_el hf; obtain ⟨v47, e_v47, hf⟩ := hf
          refine mx_S.pu (pc2 := 212) (lv2 := [(3, .int v34), (0, .ref a0), (1, .int a1), (2, .int a2)]) (st2 := [.int v47, .ref v46]) hm dX13_writeConstant_211 (by rw [← e_v47]; rfl) ?_
          clear e_v47
          refine mx_S.pu (pc2 := 213) (lv2 := [(3, .int v34), (0, .ref a0), (1, .int a1), (2, .int a2)]) (st2 := [.ref a0, .int v47, .ref v46]) hm dX13_writeConstant_212 rfl ?_
          replace hf := mx_sv_el hf; obtain ⟨v48, e_v48, hf⟩ := hf
          refine sx_get hm dX13_writeConstant_213 rs_RX13_137 (xgr_el e_v48) ?_
          clear e_v48
          refine mx_S.pu (pc2 := 217) (lv2 := [(3, .int v34), (0, .ref a0), (1, .int a1), (2, .int a2)]) (st2 := [.int a1, .ref v48, .int v47, .ref v46]) hm dX13_writeConstant_216 rfl ?_
          replace hf := mx_sv_el hf; obtain ⟨v49, e_v49, hf⟩ := hf
          refine sx_ald hm dX13_writeConstant_217 e_v49 ?_
          clear e_v49
          replace hf := mx_sv_el hf; obtain ⟨h50, e_h50, hf⟩ := hf
          refine sx_ast hm dX13_writeConstant_218 e_h50 ?_
          clear e_h50
          refine mx_S.pu (pc2 := 220) (lv2 := [(3, .int v34), (0, .ref a0), (1, .int a1), (2, .int a2)]) (st2 := [.int v34]) hm dX13_writeConstant_219 rfl ?_
          refine sx_ic (v := 3) hm dX13_writeConstant_220 (by decide) ?_
          replace hf := xl_el hf; obtain ⟨v51, e_v51, hf⟩ := hf
          refine mx_S.pu (pc2 := 222) (lv2 := [(3, .int v34), (0, .ref a0), (1, .int a1), (2, .int a2)]) (st2 := [.int v51]) hm dX13_writeConstant_221 (by rw [← e_v51]; rfl) ?_
          clear e_v51
          cases hf
          exact sx_ire hm dX13_writeConstant_222 rfl rfl
        · exact absurd (Int32.toInt_inj.mp (z0.trans (by decide : (1 : Int) = (1 : Int32).toInt))) n_0
        · exact absurd (Int32.toInt_inj.mp (z0.trans (by decide : (2 : Int) = (2 : Int32).toInt))) n_1
        · exact absurd (Int32.toInt_inj.mp (z0.trans (by decide : (3 : Int) = (3 : Int32).toInt))) n_2
