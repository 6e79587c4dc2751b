set_option maxHeartbeats 4000000 in
set_option maxRecDepth 20000 in
theorem w_X13_scanMethod_497_ok (X : Nat × (Nat → Int32)) {F L : Nat} (hF : 8 ≤ F) (hL : 184 ≤ L) (nn : Nat) : ∀ (k : Nat) (l0 : Nat) (l4 : Int32) (l9 : Int32) (l10 : Int32) (h : mx_H) (r : (Int32 × mx_H)), w_X13_scanMethod_497 nn k l0 l4 l9 l10 h = some r → mx_S X F L 506 497 [(0, .ref l0), (4, .int l4), (9, .int l9), (10, .int l10)] [] h 0 0 (some (.int r.1), r.2, 0, 0) := by
  have hm : mx_mt 506 = some (yX13_scanMethod, cX13_scanMethod, 11, (some .int)) := mt_X13_scanMethod
  intro k
  induction k with
  | zero => intro l0 l4 l9 l10 h r hf; cases hf
  | succ k ih =>
    intro l0 l4 l9 l10 h r hf
    unfold w_X13_scanMethod_497 at hf
    refine mx_S.pu (pc2 := 499) (lv2 := [(0, .ref l0), (4, .int l4), (9, .int l9), (10, .int l10)]) (st2 := [.int l10]) hm dX13_scanMethod_497 rfl ?_
    refine mx_S.pu (pc2 := 501) (lv2 := [(0, .ref l0), (4, .int l4), (9, .int l9), (10, .int l10)]) (st2 := [.int l9, .int l10]) hm dX13_scanMethod_499 rfl ?_
    rcases mx_if_el hf with ⟨c13, hf⟩ | ⟨c13, hf⟩
    · refine sb_ic_ge hm dX13_scanMethod_501 (tgt := 546) rfl (fun _ => ?_) (fun z => absurd c13 z)
      refine mx_S.pu (pc2 := 548) (lv2 := [(0, .ref l0), (4, .int l4), (9, .int l9), (10, .int l10)]) (st2 := [.int l4]) hm dX13_scanMethod_546 rfl ?_
      cases hf
      exact sx_ire hm dX13_scanMethod_548 rfl rfl
    · refine sb_ic_ge hm dX13_scanMethod_501 (tgt := 546) rfl (fun z => absurd z c13) (fun _ => ?_)
      refine mx_S.pu (pc2 := 505) (lv2 := [(0, .ref l0), (4, .int l4), (9, .int l9), (10, .int l10)]) (st2 := [.ref l0]) hm dX13_scanMethod_504 rfl ?_
      replace hf := mx_sv_el hf; obtain ⟨v1, e_v1, hf⟩ := hf
      refine sx_get hm dX13_scanMethod_505 rs_RX13_764 (xgi_el e_v1) ?_
      clear e_v1
      refine sx_ic (v := (-1)) hm dX13_scanMethod_508 (by decide) ?_
      rcases mx_if_el hf with ⟨c12, hf⟩ | ⟨c12, hf⟩
      · refine sb_ic_ne hm dX13_scanMethod_509 (tgt := 546) rfl (fun _ => ?_) (fun z => absurd c12 z)
        refine mx_S.pu (pc2 := 548) (lv2 := [(0, .ref l0), (4, .int l4), (9, .int l9), (10, .int l10)]) (st2 := [.int l4]) hm dX13_scanMethod_546 rfl ?_
        cases hf
        exact sx_ire hm dX13_scanMethod_548 rfl rfl
      · refine sb_ic_ne hm dX13_scanMethod_509 (tgt := 546) rfl (fun z => absurd z c12) (fun _ => ?_)
        refine mx_S.pu (pc2 := 513) (lv2 := [(0, .ref l0), (4, .int l4), (9, .int l9), (10, .int l10)]) (st2 := [.ref l0]) hm dX13_scanMethod_512 rfl ?_
        refine mx_S.pu (pc2 := 515) (lv2 := [(0, .ref l0), (4, .int l4), (9, .int l9), (10, .int l10)]) (st2 := [.int l4, .ref l0]) hm dX13_scanMethod_513 rfl ?_
        refine sx_ic (v := 1) hm dX13_scanMethod_515 (by decide) ?_
        replace hf := xl_el hf; obtain ⟨v2, e_v2, hf⟩ := hf
        refine mx_S.pu (pc2 := 517) (lv2 := [(0, .ref l0), (4, .int l4), (9, .int l9), (10, .int l10)]) (st2 := [.int v2, .ref l0]) hm dX13_scanMethod_516 (by rw [← e_v2]; rfl) ?_
        clear e_v2
        replace hf := mx_gd_el hf; obtain ⟨c3, hf⟩ := hf
        replace hf := mx_sv_el hf; obtain ⟨u4, e_u4, hf⟩ := hf
        refine sx_cv hm dX13_scanMethod_517 rs_RX13_800 mt_X13_isByte [.int v2] [] (b := l0) (ci := 13) rfl rfl rfl c3 (Nat.le_of_ble_eq_true rfl) (Nat.le_of_ble_eq_true rfl) (by omega) (by omega) (f_X13_isByte_ok X (by omega) (by omega) nn l0 v2 h e_u4) ?_
        clear e_u4
        show mx_S X F L 506 520 [(0, .ref l0), (4, .int l4), (9, .int l9), (10, .int l10)] [.int u4.1] u4.2 0 0 (some (.int r.1), r.2, 0, 0)
        rcases mx_if_el hf with ⟨c11, hf⟩ | ⟨c11, hf⟩
        · refine sb_if_ne hm dX13_scanMethod_520 (tgt := 526) rfl (fun _ => ?_) (fun z => absurd c11 z)
          refine mx_S.pu (pc2 := 527) (lv2 := [(0, .ref l0), (4, .int l4), (9, .int l9), (10, .int l10)]) (st2 := [.ref l0]) hm dX13_scanMethod_526 rfl ?_
          refine mx_S.pu (pc2 := 528) (lv2 := [(0, .ref l0), (4, .int l4), (9, .int l9), (10, .int l10)]) (st2 := [.ref l0, .ref l0]) hm dX13_scanMethod_527 rfl ?_
          refine mx_S.pu (pc2 := 530) (lv2 := [(0, .ref l0), (4, .int l4), (9, .int l9), (10, .int l10)]) (st2 := [.int l4, .ref l0, .ref l0]) hm dX13_scanMethod_528 rfl ?_
          refine sx_ic (v := 2) hm dX13_scanMethod_530 (by decide) ?_
          replace hf := xl_el hf; obtain ⟨v5, e_v5, hf⟩ := hf
          refine mx_S.pu (pc2 := 532) (lv2 := [(0, .ref l0), (4, .int l4), (9, .int l9), (10, .int l10)]) (st2 := [.int v5, .ref l0, .ref l0]) hm dX13_scanMethod_531 (by rw [← e_v5]; rfl) ?_
          clear e_v5
          replace hf := mx_gd_el hf; obtain ⟨c6, hf⟩ := hf
          replace hf := mx_sv_el hf; obtain ⟨u7, e_u7, hf⟩ := hf
          refine sx_cv hm dX13_scanMethod_532 rs_RX13_827 mt_X13_scanTypes [.int v5] [.ref l0] (b := l0) (ci := 13) rfl rfl rfl c6 (Nat.le_of_ble_eq_true rfl) (Nat.le_of_ble_eq_true rfl) (by omega) (by omega) (f_X13_scanTypes_ok X (by omega) (by omega) nn l0 v5 u4.2 e_u7) ?_
          clear e_u7
          show mx_S X F L 506 535 [(0, .ref l0), (4, .int l4), (9, .int l9), (10, .int l10)] [.int u7.1, .ref l0] u7.2 0 0 (some (.int r.1), r.2, 0, 0)
          replace hf := mx_gd_el hf; obtain ⟨c8, hf⟩ := hf
          replace hf := mx_sv_el hf; obtain ⟨u9, e_u9, hf⟩ := hf
          refine sx_cv hm dX13_scanMethod_535 rs_RX13_827 mt_X13_scanTypes [.int u7.1] [] (b := l0) (ci := 13) rfl rfl rfl c8 (Nat.le_of_ble_eq_true rfl) (Nat.le_of_ble_eq_true rfl) (by omega) (by omega) (f_X13_scanTypes_ok X (by omega) (by omega) nn l0 u7.1 u7.2 e_u9) ?_
          clear e_u9
          show mx_S X F L 506 538 [(0, .ref l0), (4, .int l4), (9, .int l9), (10, .int l10)] [.int u9.1] u9.2 0 0 (some (.int r.1), r.2, 0, 0)
          refine mx_S.pu (pc2 := 540) (lv2 := [(4, .int u9.1), (0, .ref l0), (9, .int l9), (10, .int l10)]) (st2 := []) hm dX13_scanMethod_538 rfl ?_
          replace hf := xl_el hf; obtain ⟨v10, e_v10, hf⟩ := hf
          refine mx_S.pu (pc2 := 543) (lv2 := [(10, .int v10), (4, .int u9.1), (0, .ref l0), (9, .int l9)]) (st2 := []) hm dX13_scanMethod_540 (by rw [← e_v10]; rfl) ?_
          clear e_v10
          refine mx_S.pu (pc2 := 497) (lv2 := [(10, .int v10), (4, .int u9.1), (0, .ref l0), (9, .int l9)]) (st2 := []) hm dX13_scanMethod_543 rfl ?_
          refine mx_S.ext [(0, .ref l0), (4, .int u9.1), (9, .int l9), (10, .int v10)] (mx_sub_pos [2, 1, 3, 0] rfl (show ([10, 4, 0, 9] : List Nat).Nodup by decide)) ?_
          exact ih l0 u9.1 l9 v10 u9.2 _ hf
        · refine sb_if_ne hm dX13_scanMethod_520 (tgt := 526) rfl (fun z => absurd z c11) (fun _ => ?_)
          refine mx_S.pu (pc2 := 525) (lv2 := [(0, .ref l0), (4, .int l4), (9, .int l9), (10, .int l10)]) (st2 := [.int l4]) hm dX13_scanMethod_523 rfl ?_
          cases hf
          exact sx_ire hm dX13_scanMethod_525 rfl rfl
set_option maxHeartbeats 4000000 in
set_option maxRecDepth 20000 in
theorem j_X13_scanMethod_444_ok (X : Nat × (Nat → Int32)) {F L : Nat} (hF : 8 ≤ F) (hL : 184 ≤ L) (nn : Nat) (l0 : Nat) (l1 : Int32) (l2 : Int32) (l4 : Int32) (h : mx_H) {r : (Int32 × mx_H)} (hf : j_X13_scanMethod_444 nn l0 l1 l2 l4 h = some r) : mx_S X F L 506 444 [(0, .ref l0), (1, .int l1), (2, .int l2), (4, .int l4)] [] h 0 0 (some (.int r.1), r.2, 0, 0) := by
  have hm : mx_mt 506 = some (yX13_scanMethod, cX13_scanMethod, 11, (some .int)) := mt_X13_scanMethod
  unfold j_X13_scanMethod_444 at hf
  refine mx_S.pu (pc2 := 445) (lv2 := [(0, .ref l0), (1, .int l1), (2, .int l2), (4, .int l4)]) (st2 := [.ref l0]) hm dX13_scanMethod_444 rfl ?_
  refine mx_S.pu (pc2 := 447) (lv2 := [(0, .ref l0), (1, .int l1), (2, .int l2), (4, .int l4)]) (st2 := [.int l4, .ref l0]) hm dX13_scanMethod_445 rfl ?_
  replace hf := mx_gd_el hf; obtain ⟨c14, hf⟩ := hf
  replace hf := mx_sv_el hf; obtain ⟨u15, e_u15, hf⟩ := hf
  refine sx_cv hm dX13_scanMethod_447 rs_RX13_800 mt_X13_isByte [.int l4] [] (b := l0) (ci := 13) rfl rfl rfl c14 (Nat.le_of_ble_eq_true rfl) (Nat.le_of_ble_eq_true rfl) (by omega) (by omega) (f_X13_isByte_ok X (by omega) (by omega) nn l0 l4 h e_u15) ?_
  clear e_u15
  show mx_S X F L 506 450 [(0, .ref l0), (1, .int l1), (2, .int l2), (4, .int l4)] [.int u15.1] u15.2 0 0 (some (.int r.1), r.2, 0, 0)
  rcases mx_if_el hf with ⟨c27, hf⟩ | ⟨c27, hf⟩
  · refine sb_if_ne hm dX13_scanMethod_450 (tgt := 456) rfl (fun _ => ?_) (fun z => absurd c27 z)
    refine mx_S.pu (pc2 := 457) (lv2 := [(0, .ref l0), (1, .int l1), (2, .int l2), (4, .int l4)]) (st2 := [.ref l0]) hm dX13_scanMethod_456 rfl ?_
    replace hf := mx_sv_el hf; obtain ⟨v16, e_v16, hf⟩ := hf
    refine sx_get hm dX13_scanMethod_457 rs_RX13_242 (xgr_el e_v16) ?_
    clear e_v16
    refine sx_bi (v := 12) hm dX13_scanMethod_460 (by decide) ?_
    refine mx_S.pu (pc2 := 463) (lv2 := [(0, .ref l0), (1, .int l1), (2, .int l2), (4, .int l4)]) (st2 := [.int l1, .int 12, .ref v16]) hm dX13_scanMethod_462 rfl ?_
    replace hf := xl_el hf; obtain ⟨v17, e_v17, hf⟩ := hf
    refine mx_S.pu (pc2 := 464) (lv2 := [(0, .ref l0), (1, .int l1), (2, .int l2), (4, .int l4)]) (st2 := [.int v17, .ref v16]) hm dX13_scanMethod_463 (by rw [← e_v17]; rfl) ?_
    clear e_v17
    refine mx_S.pu (pc2 := 465) (lv2 := [(0, .ref l0), (1, .int l1), (2, .int l2), (4, .int l4)]) (st2 := [.int l2, .int v17, .ref v16]) hm dX13_scanMethod_464 rfl ?_
    replace hf := xl_el hf; obtain ⟨v18, e_v18, hf⟩ := hf
    refine mx_S.pu (pc2 := 466) (lv2 := [(0, .ref l0), (1, .int l1), (2, .int l2), (4, .int l4)]) (st2 := [.int v18, .ref v16]) hm dX13_scanMethod_465 (by rw [← e_v18]; rfl) ?_
    clear e_v18
    refine mx_S.pu (pc2 := 468) (lv2 := [(0, .ref l0), (1, .int l1), (2, .int l2), (4, .int l4)]) (st2 := [.int l4, .int v18, .ref v16]) hm dX13_scanMethod_466 rfl ?_
    replace hf := mx_sv_el hf; obtain ⟨h19, e_h19, hf⟩ := hf
    refine sx_ast hm dX13_scanMethod_468 e_h19 ?_
    clear e_h19
    refine mx_S.pu (pc2 := 470) (lv2 := [(0, .ref l0), (1, .int l1), (2, .int l2), (4, .int l4)]) (st2 := [.ref l0]) hm dX13_scanMethod_469 rfl ?_
    replace hf := mx_sv_el hf; obtain ⟨v20, e_v20, hf⟩ := hf
    refine sx_get hm dX13_scanMethod_470 rs_RX13_245 (xgr_el e_v20) ?_
    clear e_v20
    refine mx_S.pu (pc2 := 475) (lv2 := [(0, .ref l0), (1, .int l1), (2, .int l2), (4, .int l4)]) (st2 := [.int l4, .ref v20]) hm dX13_scanMethod_473 rfl ?_
    replace hf := mx_sv_el hf; obtain ⟨v21, e_v21, hf⟩ := hf
    refine sx_ald hm dX13_scanMethod_475 e_v21 ?_
    clear e_v21
    refine mx_S.pu (pc2 := 478) (lv2 := [(9, .int v21), (0, .ref l0), (1, .int l1), (2, .int l2), (4, .int l4)]) (st2 := []) hm dX13_scanMethod_476 rfl ?_
    refine mx_S.pu (pc2 := 480) (lv2 := [(9, .int v21), (0, .ref l0), (1, .int l1), (2, .int l2), (4, .int l4)]) (st2 := [.int v21]) hm dX13_scanMethod_478 rfl ?_
    refine sx_bi (v := 100) hm dX13_scanMethod_480 (by decide) ?_
    rcases mx_if_el hf with ⟨c26, hf⟩ | ⟨c26, hf⟩
    · refine sb_ic_le hm dX13_scanMethod_482 (tgt := 491) rfl (fun _ => ?_) (fun z => absurd c26 z)
      replace hf := xl_el hf; obtain ⟨v22, e_v22, hf⟩ := hf
      refine mx_S.pu (pc2 := 494) (lv2 := [(4, .int v22), (9, .int v21), (0, .ref l0), (1, .int l1), (2, .int l2)]) (st2 := []) hm dX13_scanMethod_491 (by rw [← e_v22]; rfl) ?_
      clear e_v22
      refine sx_ic (v := 0) hm dX13_scanMethod_494 (by decide) ?_
      refine mx_S.pu (pc2 := 497) (lv2 := [(10, .int 0), (4, .int v22), (9, .int v21), (0, .ref l0), (1, .int l1), (2, .int l2)]) (st2 := []) hm dX13_scanMethod_495 rfl ?_
      refine mx_S.ext [(0, .ref l0), (4, .int v22), (9, .int v21), (10, .int 0)] (mx_sub_pos [3, 1, 2, 0] rfl (show ([10, 4, 9, 0, 1, 2] : List Nat).Nodup by decide)) ?_
      exact w_X13_scanMethod_497_ok X hF hL nn nn l0 v22 v21 0 h19 _ hf
    · refine sb_ic_le hm dX13_scanMethod_482 (tgt := 491) rfl (fun z => absurd z c26) (fun _ => ?_)
      refine mx_S.pu (pc2 := 486) (lv2 := [(9, .int v21), (0, .ref l0), (1, .int l1), (2, .int l2), (4, .int l4)]) (st2 := [.ref l0]) hm dX13_scanMethod_485 rfl ?_
      refine mx_S.pu (pc2 := 488) (lv2 := [(9, .int v21), (0, .ref l0), (1, .int l1), (2, .int l2), (4, .int l4)]) (st2 := [.int l4, .ref l0]) hm dX13_scanMethod_486 rfl ?_
      replace hf := mx_gd_el hf; obtain ⟨c23, hf⟩ := hf
      replace hf := mx_sv_el hf; obtain ⟨u24, e_u24, hf⟩ := hf
      refine sx_cv hm dX13_scanMethod_488 rs_RX13_803 mt_X13_unfit [.int l4] [] (b := l0) (ci := 13) rfl rfl rfl c23 (Nat.le_of_ble_eq_true rfl) (Nat.le_of_ble_eq_true rfl) (by omega) (by omega) (f_X13_unfit_ok X (by omega) (by omega) nn l0 l4 h19 e_u24) ?_
      clear e_u24
      show mx_S X F L 506 491 [(9, .int v21), (0, .ref l0), (1, .int l1), (2, .int l2), (4, .int l4)] [] u24 0 0 (some (.int r.1), r.2, 0, 0)
      replace hf := xl_el hf; obtain ⟨v25, e_v25, hf⟩ := hf
      refine mx_S.pu (pc2 := 494) (lv2 := [(4, .int v25), (9, .int v21), (0, .ref l0), (1, .int l1), (2, .int l2)]) (st2 := []) hm dX13_scanMethod_491 (by rw [← e_v25]; rfl) ?_
      clear e_v25
      refine sx_ic (v := 0) hm dX13_scanMethod_494 (by decide) ?_
      refine mx_S.pu (pc2 := 497) (lv2 := [(10, .int 0), (4, .int v25), (9, .int v21), (0, .ref l0), (1, .int l1), (2, .int l2)]) (st2 := []) hm dX13_scanMethod_495 rfl ?_
      refine mx_S.ext [(0, .ref l0), (4, .int v25), (9, .int v21), (10, .int 0)] (mx_sub_pos [3, 1, 2, 0] rfl (show ([10, 4, 9, 0, 1, 2] : List Nat).Nodup by decide)) ?_
      exact w_X13_scanMethod_497_ok X hF hL nn nn l0 v25 v21 0 u24 _ hf
  · refine sb_if_ne hm dX13_scanMethod_450 (tgt := 456) rfl (fun z => absurd z c27) (fun _ => ?_)
    refine mx_S.pu (pc2 := 455) (lv2 := [(0, .ref l0), (1, .int l1), (2, .int l2), (4, .int l4)]) (st2 := [.int l4]) hm dX13_scanMethod_453 rfl ?_
    cases hf
    exact sx_ire hm dX13_scanMethod_455 rfl rfl
set_option maxHeartbeats 4000000 in
set_option maxRecDepth 20000 in
theorem w_X13_scanMethod_381_ok (X : Nat × (Nat → Int32)) {F L : Nat} (hF : 8 ≤ F) (hL : 184 ≤ L) (nn : Nat) : ∀ (k : Nat) (l0 : Nat) (l1 : Int32) (l2 : Int32) (l4 : Int32) (l8 : Int32) (l9 : Int32) (h : mx_H) (r : (Int32 × mx_H)), w_X13_scanMethod_381 nn k l0 l1 l2 l4 l8 l9 h = some r → mx_S X F L 506 381 [(0, .ref l0), (1, .int l1), (2, .int l2), (4, .int l4), (8, .int l8), (9, .int l9)] [] h 0 0 (some (.int r.1), r.2, 0, 0) := by
  have hm : mx_mt 506 = some (yX13_scanMethod, cX13_scanMethod, 11, (some .int)) := mt_X13_scanMethod
  intro k
  induction k with
  | zero => intro l0 l1 l2 l4 l8 l9 h r hf; cases hf
  | succ k ih =>
    intro l0 l1 l2 l4 l8 l9 h r hf
    unfold w_X13_scanMethod_381 at hf
    refine mx_S.pu (pc2 := 383) (lv2 := [(0, .ref l0), (1, .int l1), (2, .int l2), (4, .int l4), (8, .int l8), (9, .int l9)]) (st2 := [.int l9]) hm dX13_scanMethod_381 rfl ?_
    refine mx_S.pu (pc2 := 385) (lv2 := [(0, .ref l0), (1, .int l1), (2, .int l2), (4, .int l4), (8, .int l8), (9, .int l9)]) (st2 := [.int l8, .int l9]) hm dX13_scanMethod_383 rfl ?_
    rcases mx_if_el hf with ⟨c49, hf⟩ | ⟨c49, hf⟩
    · refine sb_ic_ge hm dX13_scanMethod_385 (tgt := 444) rfl (fun _ => ?_) (fun z => absurd c49 z)
      refine mx_S.ext [(0, .ref l0), (1, .int l1), (2, .int l2), (4, .int l4)] (mx_sub_pos [0, 1, 2, 3] rfl (show ([0, 1, 2, 4, 8, 9] : List Nat).Nodup by decide)) ?_
      exact j_X13_scanMethod_444_ok X hF hL nn l0 l1 l2 l4 h hf
    · refine sb_ic_ge hm dX13_scanMethod_385 (tgt := 444) rfl (fun z => absurd z c49) (fun _ => ?_)
      refine mx_S.pu (pc2 := 389) (lv2 := [(0, .ref l0), (1, .int l1), (2, .int l2), (4, .int l4), (8, .int l8), (9, .int l9)]) (st2 := [.ref l0]) hm dX13_scanMethod_388 rfl ?_
      replace hf := mx_sv_el hf; obtain ⟨v28, e_v28, hf⟩ := hf
      refine sx_get hm dX13_scanMethod_389 rs_RX13_764 (xgi_el e_v28) ?_
      clear e_v28
      refine sx_ic (v := (-1)) hm dX13_scanMethod_392 (by decide) ?_
      rcases mx_if_el hf with ⟨c48, hf⟩ | ⟨c48, hf⟩
      · refine sb_ic_ne hm dX13_scanMethod_393 (tgt := 444) rfl (fun _ => ?_) (fun z => absurd c48 z)
        refine mx_S.ext [(0, .ref l0), (1, .int l1), (2, .int l2), (4, .int l4)] (mx_sub_pos [0, 1, 2, 3] rfl (show ([0, 1, 2, 4, 8, 9] : List Nat).Nodup by decide)) ?_
        exact j_X13_scanMethod_444_ok X hF hL nn l0 l1 l2 l4 h hf
      · refine sb_ic_ne hm dX13_scanMethod_393 (tgt := 444) rfl (fun z => absurd z c48) (fun _ => ?_)
        refine mx_S.pu (pc2 := 397) (lv2 := [(0, .ref l0), (1, .int l1), (2, .int l2), (4, .int l4), (8, .int l8), (9, .int l9)]) (st2 := [.ref l0]) hm dX13_scanMethod_396 rfl ?_
        refine mx_S.pu (pc2 := 399) (lv2 := [(0, .ref l0), (1, .int l1), (2, .int l2), (4, .int l4), (8, .int l8), (9, .int l9)]) (st2 := [.int l4, .ref l0]) hm dX13_scanMethod_397 rfl ?_
        refine sx_bi (v := 6) hm dX13_scanMethod_399 (by decide) ?_
        replace hf := xl_el hf; obtain ⟨v29, e_v29, hf⟩ := hf
        refine mx_S.pu (pc2 := 402) (lv2 := [(0, .ref l0), (1, .int l1), (2, .int l2), (4, .int l4), (8, .int l8), (9, .int l9)]) (st2 := [.int v29, .ref l0]) hm dX13_scanMethod_401 (by rw [← e_v29]; rfl) ?_
        clear e_v29
        replace hf := mx_gd_el hf; obtain ⟨c30, hf⟩ := hf
        replace hf := mx_sv_el hf; obtain ⟨u31, e_u31, hf⟩ := hf
        refine sx_cv hm dX13_scanMethod_402 rs_RX13_800 mt_X13_isByte [.int v29] [] (b := l0) (ci := 13) rfl rfl rfl c30 (Nat.le_of_ble_eq_true rfl) (Nat.le_of_ble_eq_true rfl) (by omega) (by omega) (f_X13_isByte_ok X (by omega) (by omega) nn l0 v29 h e_u31) ?_
        clear e_u31
        show mx_S X F L 506 405 [(0, .ref l0), (1, .int l1), (2, .int l2), (4, .int l4), (8, .int l8), (9, .int l9)] [.int u31.1] u31.2 0 0 (some (.int r.1), r.2, 0, 0)
        rcases mx_if_el hf with ⟨c47, hf⟩ | ⟨c47, hf⟩
        · refine sb_if_eq hm dX13_scanMethod_405 (tgt := 435) rfl (fun _ => ?_) (fun z => absurd c47 z)
          replace hf := xl_el hf; obtain ⟨v32, e_v32, hf⟩ := hf
          refine mx_S.pu (pc2 := 438) (lv2 := [(4, .int v32), (0, .ref l0), (1, .int l1), (2, .int l2), (8, .int l8), (9, .int l9)]) (st2 := []) hm dX13_scanMethod_435 (by rw [← e_v32]; rfl) ?_
          clear e_v32
          replace hf := xl_el hf; obtain ⟨v33, e_v33, hf⟩ := hf
          refine mx_S.pu (pc2 := 441) (lv2 := [(9, .int v33), (4, .int v32), (0, .ref l0), (1, .int l1), (2, .int l2), (8, .int l8)]) (st2 := []) hm dX13_scanMethod_438 (by rw [← e_v33]; rfl) ?_
          clear e_v33
          refine mx_S.pu (pc2 := 381) (lv2 := [(9, .int v33), (4, .int v32), (0, .ref l0), (1, .int l1), (2, .int l2), (8, .int l8)]) (st2 := []) hm dX13_scanMethod_441 rfl ?_
          refine mx_S.ext [(0, .ref l0), (1, .int l1), (2, .int l2), (4, .int v32), (8, .int l8), (9, .int v33)] (mx_sub_pos [2, 3, 4, 1, 5, 0] rfl (show ([9, 4, 0, 1, 2, 8] : List Nat).Nodup by decide)) ?_
          exact ih l0 l1 l2 v32 l8 v33 u31.2 _ hf
        · refine sb_if_eq hm dX13_scanMethod_405 (tgt := 435) rfl (fun z => absurd z c47) (fun _ => ?_)
          refine mx_S.pu (pc2 := 409) (lv2 := [(0, .ref l0), (1, .int l1), (2, .int l2), (4, .int l4), (8, .int l8), (9, .int l9)]) (st2 := [.ref l0]) hm dX13_scanMethod_408 rfl ?_
          refine mx_S.pu (pc2 := 410) (lv2 := [(0, .ref l0), (1, .int l1), (2, .int l2), (4, .int l4), (8, .int l8), (9, .int l9)]) (st2 := [.ref l0, .ref l0]) hm dX13_scanMethod_409 rfl ?_
          replace hf := mx_sv_el hf; obtain ⟨v34, e_v34, hf⟩ := hf
          refine sx_get hm dX13_scanMethod_410 rs_RX13_245 (xgr_el e_v34) ?_
          clear e_v34
          refine mx_S.pu (pc2 := 415) (lv2 := [(0, .ref l0), (1, .int l1), (2, .int l2), (4, .int l4), (8, .int l8), (9, .int l9)]) (st2 := [.int l4, .ref v34, .ref l0]) hm dX13_scanMethod_413 rfl ?_
          refine sx_bi (v := 6) hm dX13_scanMethod_415 (by decide) ?_
          replace hf := xl_el hf; obtain ⟨v35, e_v35, hf⟩ := hf
          refine mx_S.pu (pc2 := 418) (lv2 := [(0, .ref l0), (1, .int l1), (2, .int l2), (4, .int l4), (8, .int l8), (9, .int l9)]) (st2 := [.int v35, .ref v34, .ref l0]) hm dX13_scanMethod_417 (by rw [← e_v35]; rfl) ?_
          clear e_v35
          replace hf := mx_sv_el hf; obtain ⟨v36, e_v36, hf⟩ := hf
          refine sx_ald hm dX13_scanMethod_418 e_v36 ?_
          clear e_v36
          refine sx_ic (v := 1) hm dX13_scanMethod_419 (by decide) ?_
          replace hf := mx_gd_el hf; obtain ⟨c37, hf⟩ := hf
          replace hf := mx_sv_el hf; obtain ⟨u38, e_u38, hf⟩ := hf
          refine sx_cv hm dX13_scanMethod_420 rs_RX13_812 mt_X13_isClassConstant [.int v36, .int 1] [] (b := l0) (ci := 13) rfl rfl rfl c37 (Nat.le_of_ble_eq_true rfl) (Nat.le_of_ble_eq_true rfl) (by omega) (by omega) (f_X13_isClassConstant_ok X (by omega) (by omega) nn l0 v36 1 u31.2 e_u38) ?_
          clear e_u38
          show mx_S X F L 506 423 [(0, .ref l0), (1, .int l1), (2, .int l2), (4, .int l4), (8, .int l8), (9, .int l9)] [.int u38.1] u38.2 0 0 (some (.int r.1), r.2, 0, 0)
          rcases mx_if_el hf with ⟨c46, hf⟩ | ⟨c46, hf⟩
          · refine sb_if_ne hm dX13_scanMethod_423 (tgt := 435) rfl (fun _ => ?_) (fun z => absurd c46 z)
            replace hf := xl_el hf; obtain ⟨v39, e_v39, hf⟩ := hf
            refine mx_S.pu (pc2 := 438) (lv2 := [(4, .int v39), (0, .ref l0), (1, .int l1), (2, .int l2), (8, .int l8), (9, .int l9)]) (st2 := []) hm dX13_scanMethod_435 (by rw [← e_v39]; rfl) ?_
            clear e_v39
            replace hf := xl_el hf; obtain ⟨v40, e_v40, hf⟩ := hf
            refine mx_S.pu (pc2 := 441) (lv2 := [(9, .int v40), (4, .int v39), (0, .ref l0), (1, .int l1), (2, .int l2), (8, .int l8)]) (st2 := []) hm dX13_scanMethod_438 (by rw [← e_v40]; rfl) ?_
            clear e_v40
            refine mx_S.pu (pc2 := 381) (lv2 := [(9, .int v40), (4, .int v39), (0, .ref l0), (1, .int l1), (2, .int l2), (8, .int l8)]) (st2 := []) hm dX13_scanMethod_441 rfl ?_
            refine mx_S.ext [(0, .ref l0), (1, .int l1), (2, .int l2), (4, .int v39), (8, .int l8), (9, .int v40)] (mx_sub_pos [2, 3, 4, 1, 5, 0] rfl (show ([9, 4, 0, 1, 2, 8] : List Nat).Nodup by decide)) ?_
            exact ih l0 l1 l2 v39 l8 v40 u38.2 _ hf
          · refine sb_if_ne hm dX13_scanMethod_423 (tgt := 435) rfl (fun z => absurd z c46) (fun _ => ?_)
            refine mx_S.pu (pc2 := 427) (lv2 := [(0, .ref l0), (1, .int l1), (2, .int l2), (4, .int l4), (8, .int l8), (9, .int l9)]) (st2 := [.ref l0]) hm dX13_scanMethod_426 rfl ?_
            refine mx_S.pu (pc2 := 429) (lv2 := [(0, .ref l0), (1, .int l1), (2, .int l2), (4, .int l4), (8, .int l8), (9, .int l9)]) (st2 := [.int l4, .ref l0]) hm dX13_scanMethod_427 rfl ?_
            refine sx_bi (v := 6) hm dX13_scanMethod_429 (by decide) ?_
            replace hf := xl_el hf; obtain ⟨v41, e_v41, hf⟩ := hf
            refine mx_S.pu (pc2 := 432) (lv2 := [(0, .ref l0), (1, .int l1), (2, .int l2), (4, .int l4), (8, .int l8), (9, .int l9)]) (st2 := [.int v41, .ref l0]) hm dX13_scanMethod_431 (by rw [← e_v41]; rfl) ?_
            clear e_v41
            replace hf := mx_gd_el hf; obtain ⟨c42, hf⟩ := hf
            replace hf := mx_sv_el hf; obtain ⟨u43, e_u43, hf⟩ := hf
            refine sx_cv hm dX13_scanMethod_432 rs_RX13_803 mt_X13_unfit [.int v41] [] (b := l0) (ci := 13) rfl rfl rfl c42 (Nat.le_of_ble_eq_true rfl) (Nat.le_of_ble_eq_true rfl) (by omega) (by omega) (f_X13_unfit_ok X (by omega) (by omega) nn l0 v41 u38.2 e_u43) ?_
            clear e_u43
            show mx_S X F L 506 435 [(0, .ref l0), (1, .int l1), (2, .int l2), (4, .int l4), (8, .int l8), (9, .int l9)] [] u43 0 0 (some (.int r.1), r.2, 0, 0)
            replace hf := xl_el hf; obtain ⟨v44, e_v44, hf⟩ := hf
            refine mx_S.pu (pc2 := 438) (lv2 := [(4, .int v44), (0, .ref l0), (1, .int l1), (2, .int l2), (8, .int l8), (9, .int l9)]) (st2 := []) hm dX13_scanMethod_435 (by rw [← e_v44]; rfl) ?_
            clear e_v44
            replace hf := xl_el hf; obtain ⟨v45, e_v45, hf⟩ := hf
            refine mx_S.pu (pc2 := 441) (lv2 := [(9, .int v45), (4, .int v44), (0, .ref l0), (1, .int l1), (2, .int l2), (8, .int l8)]) (st2 := []) hm dX13_scanMethod_438 (by rw [← e_v45]; rfl) ?_
            clear e_v45
            refine mx_S.pu (pc2 := 381) (lv2 := [(9, .int v45), (4, .int v44), (0, .ref l0), (1, .int l1), (2, .int l2), (8, .int l8)]) (st2 := []) hm dX13_scanMethod_441 rfl ?_
            refine mx_S.ext [(0, .ref l0), (1, .int l1), (2, .int l2), (4, .int v44), (8, .int l8), (9, .int v45)] (mx_sub_pos [2, 3, 4, 1, 5, 0] rfl (show ([9, 4, 0, 1, 2, 8] : List Nat).Nodup by decide)) ?_
            exact ih l0 l1 l2 v44 l8 v45 u43 _ hf
set_option maxHeartbeats 4000000 in
set_option maxRecDepth 20000 in
theorem j_X13_scanMethod_328_ok (X : Nat × (Nat → Int32)) {F L : Nat} (hF : 8 ≤ F) (hL : 184 ≤ L) (nn : Nat) (l0 : Nat) (l1 : Int32) (l2 : Int32) (l4 : Int32) (h : mx_H) {r : (Int32 × mx_H)} (hf : j_X13_scanMethod_328 nn l0 l1 l2 l4 h = some r) : mx_S X F L 506 328 [(0, .ref l0), (1, .int l1), (2, .int l2), (4, .int l4)] [] h 0 0 (some (.int r.1), r.2, 0, 0) := by
  have hm : mx_mt 506 = some (yX13_scanMethod, cX13_scanMethod, 11, (some .int)) := mt_X13_scanMethod
  unfold j_X13_scanMethod_328 at hf
  refine mx_S.pu (pc2 := 329) (lv2 := [(0, .ref l0), (1, .int l1), (2, .int l2), (4, .int l4)]) (st2 := [.ref l0]) hm dX13_scanMethod_328 rfl ?_
  refine mx_S.pu (pc2 := 331) (lv2 := [(0, .ref l0), (1, .int l1), (2, .int l2), (4, .int l4)]) (st2 := [.int l4, .ref l0]) hm dX13_scanMethod_329 rfl ?_
  replace hf := mx_gd_el hf; obtain ⟨c50, hf⟩ := hf
  replace hf := mx_sv_el hf; obtain ⟨u51, e_u51, hf⟩ := hf
  refine sx_cv hm dX13_scanMethod_331 rs_RX13_800 mt_X13_isByte [.int l4] [] (b := l0) (ci := 13) rfl rfl rfl c50 (Nat.le_of_ble_eq_true rfl) (Nat.le_of_ble_eq_true rfl) (by omega) (by omega) (f_X13_isByte_ok X (by omega) (by omega) nn l0 l4 h e_u51) ?_
  clear e_u51
  show mx_S X F L 506 334 [(0, .ref l0), (1, .int l1), (2, .int l2), (4, .int l4)] [.int u51.1] u51.2 0 0 (some (.int r.1), r.2, 0, 0)
  rcases mx_if_el hf with ⟨c63, hf⟩ | ⟨c63, hf⟩
  · refine sb_if_ne hm dX13_scanMethod_334 (tgt := 340) rfl (fun _ => ?_) (fun z => absurd c63 z)
    refine mx_S.pu (pc2 := 341) (lv2 := [(0, .ref l0), (1, .int l1), (2, .int l2), (4, .int l4)]) (st2 := [.ref l0]) hm dX13_scanMethod_340 rfl ?_
    replace hf := mx_sv_el hf; obtain ⟨v52, e_v52, hf⟩ := hf
    refine sx_get hm dX13_scanMethod_341 rs_RX13_239 (xgr_el e_v52) ?_
    clear e_v52
    refine sx_bi (v := 12) hm dX13_scanMethod_344 (by decide) ?_
    refine mx_S.pu (pc2 := 347) (lv2 := [(0, .ref l0), (1, .int l1), (2, .int l2), (4, .int l4)]) (st2 := [.int l1, .int 12, .ref v52]) hm dX13_scanMethod_346 rfl ?_
    replace hf := xl_el hf; obtain ⟨v53, e_v53, hf⟩ := hf
    refine mx_S.pu (pc2 := 348) (lv2 := [(0, .ref l0), (1, .int l1), (2, .int l2), (4, .int l4)]) (st2 := [.int v53, .ref v52]) hm dX13_scanMethod_347 (by rw [← e_v53]; rfl) ?_
    clear e_v53
    refine mx_S.pu (pc2 := 349) (lv2 := [(0, .ref l0), (1, .int l1), (2, .int l2), (4, .int l4)]) (st2 := [.int l2, .int v53, .ref v52]) hm dX13_scanMethod_348 rfl ?_
    replace hf := xl_el hf; obtain ⟨v54, e_v54, hf⟩ := hf
    refine mx_S.pu (pc2 := 350) (lv2 := [(0, .ref l0), (1, .int l1), (2, .int l2), (4, .int l4)]) (st2 := [.int v54, .ref v52]) hm dX13_scanMethod_349 (by rw [← e_v54]; rfl) ?_
    clear e_v54
    refine mx_S.pu (pc2 := 352) (lv2 := [(0, .ref l0), (1, .int l1), (2, .int l2), (4, .int l4)]) (st2 := [.int l4, .int v54, .ref v52]) hm dX13_scanMethod_350 rfl ?_
    replace hf := mx_sv_el hf; obtain ⟨h55, e_h55, hf⟩ := hf
    refine sx_ast hm dX13_scanMethod_352 e_h55 ?_
    clear e_h55
    refine mx_S.pu (pc2 := 354) (lv2 := [(0, .ref l0), (1, .int l1), (2, .int l2), (4, .int l4)]) (st2 := [.ref l0]) hm dX13_scanMethod_353 rfl ?_
    replace hf := mx_sv_el hf; obtain ⟨v56, e_v56, hf⟩ := hf
    refine sx_get hm dX13_scanMethod_354 rs_RX13_245 (xgr_el e_v56) ?_
    clear e_v56
    refine mx_S.pu (pc2 := 359) (lv2 := [(0, .ref l0), (1, .int l1), (2, .int l2), (4, .int l4)]) (st2 := [.int l4, .ref v56]) hm dX13_scanMethod_357 rfl ?_
    replace hf := mx_sv_el hf; obtain ⟨v57, e_v57, hf⟩ := hf
    refine sx_ald hm dX13_scanMethod_359 e_v57 ?_
    clear e_v57
    refine mx_S.pu (pc2 := 362) (lv2 := [(8, .int v57), (0, .ref l0), (1, .int l1), (2, .int l2), (4, .int l4)]) (st2 := []) hm dX13_scanMethod_360 rfl ?_
    refine mx_S.pu (pc2 := 364) (lv2 := [(8, .int v57), (0, .ref l0), (1, .int l1), (2, .int l2), (4, .int l4)]) (st2 := [.int v57]) hm dX13_scanMethod_362 rfl ?_
    refine sx_bi (v := 20) hm dX13_scanMethod_364 (by decide) ?_
    rcases mx_if_el hf with ⟨c62, hf⟩ | ⟨c62, hf⟩
    · refine sb_ic_le hm dX13_scanMethod_366 (tgt := 375) rfl (fun _ => ?_) (fun z => absurd c62 z)
      replace hf := xl_el hf; obtain ⟨v58, e_v58, hf⟩ := hf
      refine mx_S.pu (pc2 := 378) (lv2 := [(4, .int v58), (8, .int v57), (0, .ref l0), (1, .int l1), (2, .int l2)]) (st2 := []) hm dX13_scanMethod_375 (by rw [← e_v58]; rfl) ?_
      clear e_v58
      refine sx_ic (v := 0) hm dX13_scanMethod_378 (by decide) ?_
      refine mx_S.pu (pc2 := 381) (lv2 := [(9, .int 0), (4, .int v58), (8, .int v57), (0, .ref l0), (1, .int l1), (2, .int l2)]) (st2 := []) hm dX13_scanMethod_379 rfl ?_
      refine mx_S.ext [(0, .ref l0), (1, .int l1), (2, .int l2), (4, .int v58), (8, .int v57), (9, .int 0)] (mx_sub_pos [3, 4, 5, 1, 2, 0] rfl (show ([9, 4, 8, 0, 1, 2] : List Nat).Nodup by decide)) ?_
      exact w_X13_scanMethod_381_ok X hF hL nn nn l0 l1 l2 v58 v57 0 h55 _ hf
    · refine sb_ic_le hm dX13_scanMethod_366 (tgt := 375) rfl (fun z => absurd z c62) (fun _ => ?_)
      refine mx_S.pu (pc2 := 370) (lv2 := [(8, .int v57), (0, .ref l0), (1, .int l1), (2, .int l2), (4, .int l4)]) (st2 := [.ref l0]) hm dX13_scanMethod_369 rfl ?_
      refine mx_S.pu (pc2 := 372) (lv2 := [(8, .int v57), (0, .ref l0), (1, .int l1), (2, .int l2), (4, .int l4)]) (st2 := [.int l4, .ref l0]) hm dX13_scanMethod_370 rfl ?_
      replace hf := mx_gd_el hf; obtain ⟨c59, hf⟩ := hf
      replace hf := mx_sv_el hf; obtain ⟨u60, e_u60, hf⟩ := hf
      refine sx_cv hm dX13_scanMethod_372 rs_RX13_803 mt_X13_unfit [.int l4] [] (b := l0) (ci := 13) rfl rfl rfl c59 (Nat.le_of_ble_eq_true rfl) (Nat.le_of_ble_eq_true rfl) (by omega) (by omega) (f_X13_unfit_ok X (by omega) (by omega) nn l0 l4 h55 e_u60) ?_
      clear e_u60
      show mx_S X F L 506 375 [(8, .int v57), (0, .ref l0), (1, .int l1), (2, .int l2), (4, .int l4)] [] u60 0 0 (some (.int r.1), r.2, 0, 0)
      replace hf := xl_el hf; obtain ⟨v61, e_v61, hf⟩ := hf
      refine mx_S.pu (pc2 := 378) (lv2 := [(4, .int v61), (8, .int v57), (0, .ref l0), (1, .int l1), (2, .int l2)]) (st2 := []) hm dX13_scanMethod_375 (by rw [← e_v61]; rfl) ?_
      clear e_v61
      refine sx_ic (v := 0) hm dX13_scanMethod_378 (by decide) ?_
      refine mx_S.pu (pc2 := 381) (lv2 := [(9, .int 0), (4, .int v61), (8, .int v57), (0, .ref l0), (1, .int l1), (2, .int l2)]) (st2 := []) hm dX13_scanMethod_379 rfl ?_
      refine mx_S.ext [(0, .ref l0), (1, .int l1), (2, .int l2), (4, .int v61), (8, .int v57), (9, .int 0)] (mx_sub_pos [3, 4, 5, 1, 2, 0] rfl (show ([9, 4, 8, 0, 1, 2] : List Nat).Nodup by decide)) ?_
      exact w_X13_scanMethod_381_ok X hF hL nn nn l0 l1 l2 v61 v57 0 u60 _ hf
  · refine sb_if_ne hm dX13_scanMethod_334 (tgt := 340) rfl (fun z => absurd z c63) (fun _ => ?_)
    refine mx_S.pu (pc2 := 339) (lv2 := [(0, .ref l0), (1, .int l1), (2, .int l2), (4, .int l4)]) (st2 := [.int l4]) hm dX13_scanMethod_337 rfl ?_
    cases hf
    exact sx_ire hm dX13_scanMethod_339 rfl rfl
set_option maxHeartbeats 4000000 in
set_option maxRecDepth 20000 in
theorem j_X13_scanMethod_293_ok (X : Nat × (Nat → Int32)) {F L : Nat} (hF : 8 ≤ F) (hL : 184 ≤ L) (nn : Nat) (l0 : Nat) (l1 : Int32) (l2 : Int32) (l4 : Int32) (l7 : Int32) (h : mx_H) {r : (Int32 × mx_H)} (hf : j_X13_scanMethod_293 nn l0 l1 l2 l4 l7 h = some r) : mx_S X F L 506 293 [(0, .ref l0), (1, .int l1), (2, .int l2), (4, .int l4), (7, .int l7)] [] h 0 0 (some (.int r.1), r.2, 0, 0) := by
  have hm : mx_mt 506 = some (yX13_scanMethod, cX13_scanMethod, 11, (some .int)) := mt_X13_scanMethod
  unfold j_X13_scanMethod_293 at hf
  refine mx_S.pu (pc2 := 295) (lv2 := [(0, .ref l0), (1, .int l1), (2, .int l2), (4, .int l4), (7, .int l7)]) (st2 := [.int l4]) hm dX13_scanMethod_293 rfl ?_
  refine sx_bi (v := 7) hm dX13_scanMethod_295 (by decide) ?_
  refine mx_S.pu (pc2 := 299) (lv2 := [(0, .ref l0), (1, .int l1), (2, .int l2), (4, .int l4), (7, .int l7)]) (st2 := [.int l7, .int 7, .int l4]) hm dX13_scanMethod_297 rfl ?_
  replace hf := xl_el hf; obtain ⟨v64, e_v64, hf⟩ := hf
  refine mx_S.pu (pc2 := 300) (lv2 := [(0, .ref l0), (1, .int l1), (2, .int l2), (4, .int l4), (7, .int l7)]) (st2 := [.int v64, .int l4]) hm dX13_scanMethod_299 (by rw [← e_v64]; rfl) ?_
  clear e_v64
  replace hf := xl_el hf; obtain ⟨v65, e_v65, hf⟩ := hf
  refine mx_S.pu (pc2 := 301) (lv2 := [(0, .ref l0), (1, .int l1), (2, .int l2), (4, .int l4), (7, .int l7)]) (st2 := [.int v65]) hm dX13_scanMethod_300 (by rw [← e_v65]; rfl) ?_
  clear e_v65
  refine mx_S.pu (pc2 := 303) (lv2 := [(4, .int v65), (0, .ref l0), (1, .int l1), (2, .int l2), (7, .int l7)]) (st2 := []) hm dX13_scanMethod_301 rfl ?_
  refine mx_S.pu (pc2 := 304) (lv2 := [(4, .int v65), (0, .ref l0), (1, .int l1), (2, .int l2), (7, .int l7)]) (st2 := [.ref l0]) hm dX13_scanMethod_303 rfl ?_
  replace hf := mx_sv_el hf; obtain ⟨v66, e_v66, hf⟩ := hf
  refine sx_get hm dX13_scanMethod_304 rs_RX13_764 (xgi_el e_v66) ?_
  clear e_v66
  refine sx_ic (v := (-1)) hm dX13_scanMethod_307 (by decide) ?_
  rcases mx_if_el hf with ⟨c71, hf⟩ | ⟨c71, hf⟩
  · refine sb_ic_ne hm dX13_scanMethod_308 (tgt := 328) rfl (fun _ => ?_) (fun z => absurd c71 z)
    refine mx_S.ext [(0, .ref l0), (1, .int l1), (2, .int l2), (4, .int v65)] (mx_sub_pos [1, 2, 3, 0] rfl (show ([4, 0, 1, 2, 7] : List Nat).Nodup by decide)) ?_
    exact j_X13_scanMethod_328_ok X hF hL nn l0 l1 l2 v65 h hf
  · refine sb_ic_ne hm dX13_scanMethod_308 (tgt := 328) rfl (fun z => absurd z c71) (fun _ => ?_)
    refine mx_S.pu (pc2 := 313) (lv2 := [(4, .int v65), (0, .ref l0), (1, .int l1), (2, .int l2), (7, .int l7)]) (st2 := [.int v65]) hm dX13_scanMethod_311 rfl ?_
    refine mx_S.pu (pc2 := 314) (lv2 := [(4, .int v65), (0, .ref l0), (1, .int l1), (2, .int l2), (7, .int l7)]) (st2 := [.ref l0, .int v65]) hm dX13_scanMethod_313 rfl ?_
    replace hf := mx_sv_el hf; obtain ⟨v67, e_v67, hf⟩ := hf
    refine sx_get hm dX13_scanMethod_314 rs_RX13_767 (xgi_el e_v67) ?_
    clear e_v67
    rcases mx_if_el hf with ⟨c70, hf⟩ | ⟨c70, hf⟩
    · refine sb_ic_le hm dX13_scanMethod_317 (tgt := 328) rfl (fun _ => ?_) (fun z => absurd c70 z)
      refine mx_S.ext [(0, .ref l0), (1, .int l1), (2, .int l2), (4, .int v65)] (mx_sub_pos [1, 2, 3, 0] rfl (show ([4, 0, 1, 2, 7] : List Nat).Nodup by decide)) ?_
      exact j_X13_scanMethod_328_ok X hF hL nn l0 l1 l2 v65 h hf
    · refine sb_ic_le hm dX13_scanMethod_317 (tgt := 328) rfl (fun z => absurd z c70) (fun _ => ?_)
      refine mx_S.pu (pc2 := 321) (lv2 := [(4, .int v65), (0, .ref l0), (1, .int l1), (2, .int l2), (7, .int l7)]) (st2 := [.ref l0]) hm dX13_scanMethod_320 rfl ?_
      refine mx_S.pu (pc2 := 322) (lv2 := [(4, .int v65), (0, .ref l0), (1, .int l1), (2, .int l2), (7, .int l7)]) (st2 := [.ref l0, .ref l0]) hm dX13_scanMethod_321 rfl ?_
      replace hf := mx_sv_el hf; obtain ⟨v68, e_v68, hf⟩ := hf
      refine sx_get hm dX13_scanMethod_322 rs_RX13_767 (xgi_el e_v68) ?_
      clear e_v68
      replace hf := mx_sv_el hf; obtain ⟨h69, e_h69, hf⟩ := hf
      refine sx_put hm dX13_scanMethod_325 rs_RX13_764 ft_13_114 ⟨rfl, rfl⟩ (fun z => by cases z) e_h69 ?_
      clear e_h69
      refine mx_S.ext [(0, .ref l0), (1, .int l1), (2, .int l2), (4, .int v65)] (mx_sub_pos [1, 2, 3, 0] rfl (show ([4, 0, 1, 2, 7] : List Nat).Nodup by decide)) ?_
      exact j_X13_scanMethod_328_ok X hF hL nn l0 l1 l2 v65 h69 hf
set_option maxHeartbeats 4000000 in
set_option maxRecDepth 20000 in
theorem j_X13_scanMethod_285_ok (X : Nat × (Nat → Int32)) {F L : Nat} (hF : 8 ≤ F) (hL : 184 ≤ L) (nn : Nat) (l0 : Nat) (l1 : Int32) (l2 : Int32) (l4 : Int32) (l7 : Int32) (h : mx_H) {r : (Int32 × mx_H)} (hf : j_X13_scanMethod_285 nn l0 l1 l2 l4 l7 h = some r) : mx_S X F L 506 285 [(0, .ref l0), (1, .int l1), (2, .int l2), (4, .int l4), (7, .int l7)] [] h 0 0 (some (.int r.1), r.2, 0, 0) := by
  have hm : mx_mt 506 = some (yX13_scanMethod, cX13_scanMethod, 11, (some .int)) := mt_X13_scanMethod
  unfold j_X13_scanMethod_285 at hf
  refine mx_S.pu (pc2 := 286) (lv2 := [(0, .ref l0), (1, .int l1), (2, .int l2), (4, .int l4), (7, .int l7)]) (st2 := [.ref l0]) hm dX13_scanMethod_285 rfl ?_
  refine mx_S.pu (pc2 := 288) (lv2 := [(0, .ref l0), (1, .int l1), (2, .int l2), (4, .int l4), (7, .int l7)]) (st2 := [.int l4, .ref l0]) hm dX13_scanMethod_286 rfl ?_
  refine sx_ic (v := 5) hm dX13_scanMethod_288 (by decide) ?_
  replace hf := xl_el hf; obtain ⟨v72, e_v72, hf⟩ := hf
  refine mx_S.pu (pc2 := 290) (lv2 := [(0, .ref l0), (1, .int l1), (2, .int l2), (4, .int l4), (7, .int l7)]) (st2 := [.int v72, .ref l0]) hm dX13_scanMethod_289 (by rw [← e_v72]; rfl) ?_
  clear e_v72
  replace hf := mx_gd_el hf; obtain ⟨c73, hf⟩ := hf
  replace hf := mx_sv_el hf; obtain ⟨u74, e_u74, hf⟩ := hf
  refine sx_cv hm dX13_scanMethod_290 rs_RX13_803 mt_X13_unfit [.int v72] [] (b := l0) (ci := 13) rfl rfl rfl c73 (Nat.le_of_ble_eq_true rfl) (Nat.le_of_ble_eq_true rfl) (by omega) (by omega) (f_X13_unfit_ok X (by omega) (by omega) nn l0 v72 h e_u74) ?_
  clear e_u74
  show mx_S X F L 506 293 [(0, .ref l0), (1, .int l1), (2, .int l2), (4, .int l4), (7, .int l7)] [] u74 0 0 (some (.int r.1), r.2, 0, 0)
  exact j_X13_scanMethod_293_ok X hF hL nn l0 l1 l2 l4 l7 u74 hf
set_option maxHeartbeats 4000000 in
set_option maxRecDepth 20000 in
theorem j_X13_scanMethod_232_ok (X : Nat × (Nat → Int32)) {F L : Nat} (hF : 8 ≤ F) (hL : 184 ≤ L) (nn : Nat) (l0 : Nat) (l1 : Int32) (l2 : Int32) (l4 : Int32) (h : mx_H) {r : (Int32 × mx_H)} (hf : j_X13_scanMethod_232 nn l0 l1 l2 l4 h = some r) : mx_S X F L 506 232 [(0, .ref l0), (1, .int l1), (2, .int l2), (4, .int l4)] [] h 0 0 (some (.int r.1), r.2, 0, 0) := by
  have hm : mx_mt 506 = some (yX13_scanMethod, cX13_scanMethod, 11, (some .int)) := mt_X13_scanMethod
  unfold j_X13_scanMethod_232 at hf
  refine mx_S.pu (pc2 := 233) (lv2 := [(0, .ref l0), (1, .int l1), (2, .int l2), (4, .int l4)]) (st2 := [.ref l0]) hm dX13_scanMethod_232 rfl ?_
  refine mx_S.pu (pc2 := 235) (lv2 := [(0, .ref l0), (1, .int l1), (2, .int l2), (4, .int l4)]) (st2 := [.int l4, .ref l0]) hm dX13_scanMethod_233 rfl ?_
  refine sx_ic (v := 5) hm dX13_scanMethod_235 (by decide) ?_
  replace hf := xl_el hf; obtain ⟨v75, e_v75, hf⟩ := hf
  refine mx_S.pu (pc2 := 237) (lv2 := [(0, .ref l0), (1, .int l1), (2, .int l2), (4, .int l4)]) (st2 := [.int v75, .ref l0]) hm dX13_scanMethod_236 (by rw [← e_v75]; rfl) ?_
  clear e_v75
  replace hf := mx_gd_el hf; obtain ⟨c76, hf⟩ := hf
  replace hf := mx_sv_el hf; obtain ⟨u77, e_u77, hf⟩ := hf
  refine sx_cv hm dX13_scanMethod_237 rs_RX13_800 mt_X13_isByte [.int v75] [] (b := l0) (ci := 13) rfl rfl rfl c76 (Nat.le_of_ble_eq_true rfl) (Nat.le_of_ble_eq_true rfl) (by omega) (by omega) (f_X13_isByte_ok X (by omega) (by omega) nn l0 v75 h e_u77) ?_
  clear e_u77
  show mx_S X F L 506 240 [(0, .ref l0), (1, .int l1), (2, .int l2), (4, .int l4)] [.int u77.1] u77.2 0 0 (some (.int r.1), r.2, 0, 0)
  rcases mx_if_el hf with ⟨c87, hf⟩ | ⟨c87, hf⟩
  · refine sb_if_ne hm dX13_scanMethod_240 (tgt := 246) rfl (fun _ => ?_) (fun z => absurd c87 z)
    refine mx_S.pu (pc2 := 247) (lv2 := [(0, .ref l0), (1, .int l1), (2, .int l2), (4, .int l4)]) (st2 := [.ref l0]) hm dX13_scanMethod_246 rfl ?_
    refine mx_S.pu (pc2 := 249) (lv2 := [(0, .ref l0), (1, .int l1), (2, .int l2), (4, .int l4)]) (st2 := [.int l4, .ref l0]) hm dX13_scanMethod_247 rfl ?_
    refine sx_bi (v := 6) hm dX13_scanMethod_249 (by decide) ?_
    replace hf := xl_el hf; obtain ⟨v78, e_v78, hf⟩ := hf
    refine mx_S.pu (pc2 := 252) (lv2 := [(0, .ref l0), (1, .int l1), (2, .int l2), (4, .int l4)]) (st2 := [.int v78, .ref l0]) hm dX13_scanMethod_251 (by rw [← e_v78]; rfl) ?_
    clear e_v78
    replace hf := mx_gd_el hf; obtain ⟨c79, hf⟩ := hf
    replace hf := mx_sv_el hf; obtain ⟨u80, e_u80, hf⟩ := hf
    refine sx_cv hm dX13_scanMethod_252 rs_RX13_800 mt_X13_isByte [.int v78] [] (b := l0) (ci := 13) rfl rfl rfl c79 (Nat.le_of_ble_eq_true rfl) (Nat.le_of_ble_eq_true rfl) (by omega) (by omega) (f_X13_isByte_ok X (by omega) (by omega) nn l0 v78 u77.2 e_u80) ?_
    clear e_u80
    show mx_S X F L 506 255 [(0, .ref l0), (1, .int l1), (2, .int l2), (4, .int l4)] [.int u80.1] u80.2 0 0 (some (.int r.1), r.2, 0, 0)
    rcases mx_if_el hf with ⟨c86, hf⟩ | ⟨c86, hf⟩
    · refine sb_if_ne hm dX13_scanMethod_255 (tgt := 261) rfl (fun _ => ?_) (fun z => absurd c86 z)
      refine mx_S.pu (pc2 := 262) (lv2 := [(0, .ref l0), (1, .int l1), (2, .int l2), (4, .int l4)]) (st2 := [.ref l0]) hm dX13_scanMethod_261 rfl ?_
      refine mx_S.pu (pc2 := 264) (lv2 := [(0, .ref l0), (1, .int l1), (2, .int l2), (4, .int l4)]) (st2 := [.int l4, .ref l0]) hm dX13_scanMethod_262 rfl ?_
      refine sx_ic (v := 5) hm dX13_scanMethod_264 (by decide) ?_
      replace hf := xl_el hf; obtain ⟨v81, e_v81, hf⟩ := hf
      refine mx_S.pu (pc2 := 266) (lv2 := [(0, .ref l0), (1, .int l1), (2, .int l2), (4, .int l4)]) (st2 := [.int v81, .ref l0]) hm dX13_scanMethod_265 (by rw [← e_v81]; rfl) ?_
      clear e_v81
      replace hf := mx_gd_el hf; obtain ⟨c82, hf⟩ := hf
      replace hf := mx_sv_el hf; obtain ⟨u83, e_u83, hf⟩ := hf
      refine sx_cv hm dX13_scanMethod_266 rs_RX13_824 mt_X13_pairAt [.int v81] [] (b := l0) (ci := 13) rfl rfl rfl c82 (Nat.le_of_ble_eq_true rfl) (Nat.le_of_ble_eq_true rfl) (by omega) (by omega) (f_X13_pairAt_ok X (by omega) (by omega) nn l0 v81 u80.2 e_u83) ?_
      clear e_u83
      show mx_S X F L 506 269 [(0, .ref l0), (1, .int l1), (2, .int l2), (4, .int l4)] [.int u83.1] u83.2 0 0 (some (.int r.1), r.2, 0, 0)
      refine mx_S.pu (pc2 := 271) (lv2 := [(7, .int u83.1), (0, .ref l0), (1, .int l1), (2, .int l2), (4, .int l4)]) (st2 := []) hm dX13_scanMethod_269 rfl ?_
      refine mx_S.pu (pc2 := 273) (lv2 := [(7, .int u83.1), (0, .ref l0), (1, .int l1), (2, .int l2), (4, .int l4)]) (st2 := [.int u83.1]) hm dX13_scanMethod_271 rfl ?_
      refine sx_ic (v := 1) hm dX13_scanMethod_273 (by decide) ?_
      rcases mx_if_el hf with ⟨c85, hf⟩ | ⟨c85, hf⟩
      · refine sb_ic_lt hm dX13_scanMethod_274 (tgt := 285) rfl (fun _ => ?_) (fun z => absurd c85 z)
        refine mx_S.ext [(0, .ref l0), (1, .int l1), (2, .int l2), (4, .int l4), (7, .int u83.1)] (mx_sub_pos [1, 2, 3, 4, 0] rfl (show ([7, 0, 1, 2, 4] : List Nat).Nodup by decide)) ?_
        exact j_X13_scanMethod_285_ok X hF hL nn l0 l1 l2 l4 u83.1 u83.2 hf
      · refine sb_ic_lt hm dX13_scanMethod_274 (tgt := 285) rfl (fun z => absurd z c85) (fun _ => ?_)
        refine mx_S.pu (pc2 := 279) (lv2 := [(7, .int u83.1), (0, .ref l0), (1, .int l1), (2, .int l2), (4, .int l4)]) (st2 := [.int u83.1]) hm dX13_scanMethod_277 rfl ?_
        refine sx_si (v := 1500) hm dX13_scanMethod_279 (by decide) ?_
        rcases mx_if_el hf with ⟨c84, hf⟩ | ⟨c84, hf⟩
        · refine sb_ic_le hm dX13_scanMethod_282 (tgt := 293) rfl (fun _ => ?_) (fun z => absurd c84 z)
          refine mx_S.ext [(0, .ref l0), (1, .int l1), (2, .int l2), (4, .int l4), (7, .int u83.1)] (mx_sub_pos [1, 2, 3, 4, 0] rfl (show ([7, 0, 1, 2, 4] : List Nat).Nodup by decide)) ?_
          exact j_X13_scanMethod_293_ok X hF hL nn l0 l1 l2 l4 u83.1 u83.2 hf
        · refine sb_ic_le hm dX13_scanMethod_282 (tgt := 293) rfl (fun z => absurd z c84) (fun _ => ?_)
          refine mx_S.ext [(0, .ref l0), (1, .int l1), (2, .int l2), (4, .int l4), (7, .int u83.1)] (mx_sub_pos [1, 2, 3, 4, 0] rfl (show ([7, 0, 1, 2, 4] : List Nat).Nodup by decide)) ?_
          exact j_X13_scanMethod_285_ok X hF hL nn l0 l1 l2 l4 u83.1 u83.2 hf
    · refine sb_if_ne hm dX13_scanMethod_255 (tgt := 261) rfl (fun z => absurd z c86) (fun _ => ?_)
      refine mx_S.pu (pc2 := 260) (lv2 := [(0, .ref l0), (1, .int l1), (2, .int l2), (4, .int l4)]) (st2 := [.int l4]) hm dX13_scanMethod_258 rfl ?_
      cases hf
      exact sx_ire hm dX13_scanMethod_260 rfl rfl
  · refine sb_if_ne hm dX13_scanMethod_240 (tgt := 246) rfl (fun z => absurd z c87) (fun _ => ?_)
    refine mx_S.pu (pc2 := 245) (lv2 := [(0, .ref l0), (1, .int l1), (2, .int l2), (4, .int l4)]) (st2 := [.int l4]) hm dX13_scanMethod_243 rfl ?_
    cases hf
    exact sx_ire hm dX13_scanMethod_245 rfl rfl
set_option maxHeartbeats 4000000 in
set_option maxRecDepth 20000 in
theorem j_X13_scanMethod_224_ok (X : Nat × (Nat → Int32)) {F L : Nat} (hF : 8 ≤ F) (hL : 184 ≤ L) (nn : Nat) (l0 : Nat) (l1 : Int32) (l2 : Int32) (l4 : Int32) (h : mx_H) {r : (Int32 × mx_H)} (hf : j_X13_scanMethod_224 nn l0 l1 l2 l4 h = some r) : mx_S X F L 506 224 [(0, .ref l0), (1, .int l1), (2, .int l2), (4, .int l4)] [] h 0 0 (some (.int r.1), r.2, 0, 0) := by
  have hm : mx_mt 506 = some (yX13_scanMethod, cX13_scanMethod, 11, (some .int)) := mt_X13_scanMethod
  unfold j_X13_scanMethod_224 at hf
  refine mx_S.pu (pc2 := 225) (lv2 := [(0, .ref l0), (1, .int l1), (2, .int l2), (4, .int l4)]) (st2 := [.ref l0]) hm dX13_scanMethod_224 rfl ?_
  refine mx_S.pu (pc2 := 227) (lv2 := [(0, .ref l0), (1, .int l1), (2, .int l2), (4, .int l4)]) (st2 := [.int l4, .ref l0]) hm dX13_scanMethod_225 rfl ?_
  refine sx_ic (v := 4) hm dX13_scanMethod_227 (by decide) ?_
  replace hf := xl_el hf; obtain ⟨v88, e_v88, hf⟩ := hf
  refine mx_S.pu (pc2 := 229) (lv2 := [(0, .ref l0), (1, .int l1), (2, .int l2), (4, .int l4)]) (st2 := [.int v88, .ref l0]) hm dX13_scanMethod_228 (by rw [← e_v88]; rfl) ?_
  clear e_v88
  replace hf := mx_gd_el hf; obtain ⟨c89, hf⟩ := hf
  replace hf := mx_sv_el hf; obtain ⟨u90, e_u90, hf⟩ := hf
  refine sx_cv hm dX13_scanMethod_229 rs_RX13_803 mt_X13_unfit [.int v88] [] (b := l0) (ci := 13) rfl rfl rfl c89 (Nat.le_of_ble_eq_true rfl) (Nat.le_of_ble_eq_true rfl) (by omega) (by omega) (f_X13_unfit_ok X (by omega) (by omega) nn l0 v88 h e_u90) ?_
  clear e_u90
  show mx_S X F L 506 232 [(0, .ref l0), (1, .int l1), (2, .int l2), (4, .int l4)] [] u90 0 0 (some (.int r.1), r.2, 0, 0)
  exact j_X13_scanMethod_232_ok X hF hL nn l0 l1 l2 l4 u90 hf
set_option maxHeartbeats 4000000 in
set_option maxRecDepth 20000 in
theorem j_X13_scanMethod_134_ok (X : Nat × (Nat → Int32)) {F L : Nat} (hF : 8 ≤ F) (hL : 184 ≤ L) (nn : Nat) (l0 : Nat) (l1 : Int32) (l2 : Int32) (l4 : Int32) (h : mx_H) {r : (Int32 × mx_H)} (hf : j_X13_scanMethod_134 nn l0 l1 l2 l4 h = some r) : mx_S X F L 506 134 [(0, .ref l0), (1, .int l1), (2, .int l2), (4, .int l4)] [] h 0 0 (some (.int r.1), r.2, 0, 0) := by
  have hm : mx_mt 506 = some (yX13_scanMethod, cX13_scanMethod, 11, (some .int)) := mt_X13_scanMethod
  unfold j_X13_scanMethod_134 at hf
  refine mx_S.pu (pc2 := 135) (lv2 := [(0, .ref l0), (1, .int l1), (2, .int l2), (4, .int l4)]) (st2 := [.ref l0]) hm dX13_scanMethod_134 rfl ?_
  refine mx_S.pu (pc2 := 137) (lv2 := [(0, .ref l0), (1, .int l1), (2, .int l2), (4, .int l4)]) (st2 := [.int l4, .ref l0]) hm dX13_scanMethod_135 rfl ?_
  refine sx_ic (v := 4) hm dX13_scanMethod_137 (by decide) ?_
  replace hf := xl_el hf; obtain ⟨v91, e_v91, hf⟩ := hf
  refine mx_S.pu (pc2 := 139) (lv2 := [(0, .ref l0), (1, .int l1), (2, .int l2), (4, .int l4)]) (st2 := [.int v91, .ref l0]) hm dX13_scanMethod_138 (by rw [← e_v91]; rfl) ?_
  clear e_v91
  replace hf := mx_gd_el hf; obtain ⟨c92, hf⟩ := hf
  replace hf := mx_sv_el hf; obtain ⟨u93, e_u93, hf⟩ := hf
  refine sx_cv hm dX13_scanMethod_139 rs_RX13_800 mt_X13_isByte [.int v91] [] (b := l0) (ci := 13) rfl rfl rfl c92 (Nat.le_of_ble_eq_true rfl) (Nat.le_of_ble_eq_true rfl) (by omega) (by omega) (f_X13_isByte_ok X (by omega) (by omega) nn l0 v91 h e_u93) ?_
  clear e_u93
  show mx_S X F L 506 142 [(0, .ref l0), (1, .int l1), (2, .int l2), (4, .int l4)] [.int u93.1] u93.2 0 0 (some (.int r.1), r.2, 0, 0)
  rcases mx_if_el hf with ⟨c117, hf⟩ | ⟨c117, hf⟩
  · refine sb_if_ne hm dX13_scanMethod_142 (tgt := 148) rfl (fun _ => ?_) (fun z => absurd c117 z)
    refine mx_S.pu (pc2 := 149) (lv2 := [(0, .ref l0), (1, .int l1), (2, .int l2), (4, .int l4)]) (st2 := [.ref l0]) hm dX13_scanMethod_148 rfl ?_
    refine mx_S.pu (pc2 := 150) (lv2 := [(0, .ref l0), (1, .int l1), (2, .int l2), (4, .int l4)]) (st2 := [.int l1, .ref l0]) hm dX13_scanMethod_149 rfl ?_
    refine mx_S.pu (pc2 := 151) (lv2 := [(0, .ref l0), (1, .int l1), (2, .int l2), (4, .int l4)]) (st2 := [.ref l0, .int l1, .ref l0]) hm dX13_scanMethod_150 rfl ?_
    replace hf := mx_sv_el hf; obtain ⟨v94, e_v94, hf⟩ := hf
    refine sx_get hm dX13_scanMethod_151 rs_RX13_245 (xgr_el e_v94) ?_
    clear e_v94
    refine mx_S.pu (pc2 := 156) (lv2 := [(0, .ref l0), (1, .int l1), (2, .int l2), (4, .int l4)]) (st2 := [.int l4, .ref v94, .int l1, .ref l0]) hm dX13_scanMethod_154 rfl ?_
    refine sx_ic (v := 2) hm dX13_scanMethod_156 (by decide) ?_
    replace hf := xl_el hf; obtain ⟨v95, e_v95, hf⟩ := hf
    refine mx_S.pu (pc2 := 158) (lv2 := [(0, .ref l0), (1, .int l1), (2, .int l2), (4, .int l4)]) (st2 := [.int v95, .ref v94, .int l1, .ref l0]) hm dX13_scanMethod_157 (by rw [← e_v95]; rfl) ?_
    clear e_v95
    replace hf := mx_sv_el hf; obtain ⟨v96, e_v96, hf⟩ := hf
    refine sx_ald hm dX13_scanMethod_158 e_v96 ?_
    clear e_v96
    replace hf := mx_gd_el hf; obtain ⟨c97, hf⟩ := hf
    replace hf := mx_sv_el hf; obtain ⟨u98, e_u98, hf⟩ := hf
    refine sx_cv hm dX13_scanMethod_159 rs_RX13_791 mt_X13_constantOf [.int l1, .int v96] [] (b := l0) (ci := 13) rfl rfl rfl c97 (Nat.le_of_ble_eq_true rfl) (Nat.le_of_ble_eq_true rfl) (by omega) (by omega) (f_X13_constantOf_ok X (by omega) (by omega) nn l0 l1 v96 u93.2 e_u98) ?_
    clear e_u98
    show mx_S X F L 506 162 [(0, .ref l0), (1, .int l1), (2, .int l2), (4, .int l4)] [.int u98.1] u98.2 0 0 (some (.int r.1), r.2, 0, 0)
    refine mx_S.pu (pc2 := 164) (lv2 := [(5, .int u98.1), (0, .ref l0), (1, .int l1), (2, .int l2), (4, .int l4)]) (st2 := []) hm dX13_scanMethod_162 rfl ?_
    refine mx_S.pu (pc2 := 165) (lv2 := [(5, .int u98.1), (0, .ref l0), (1, .int l1), (2, .int l2), (4, .int l4)]) (st2 := [.ref l0]) hm dX13_scanMethod_164 rfl ?_
    replace hf := mx_sv_el hf; obtain ⟨v99, e_v99, hf⟩ := hf
    refine sx_get hm dX13_scanMethod_165 rs_RX13_245 (xgr_el e_v99) ?_
    clear e_v99
    refine mx_S.pu (pc2 := 170) (lv2 := [(5, .int u98.1), (0, .ref l0), (1, .int l1), (2, .int l2), (4, .int l4)]) (st2 := [.int u98.1, .ref v99]) hm dX13_scanMethod_168 rfl ?_
    refine sx_ic (v := 2) hm dX13_scanMethod_170 (by decide) ?_
    replace hf := xl_el hf; obtain ⟨v100, e_v100, hf⟩ := hf
    refine mx_S.pu (pc2 := 172) (lv2 := [(5, .int u98.1), (0, .ref l0), (1, .int l1), (2, .int l2), (4, .int l4)]) (st2 := [.int v100, .ref v99]) hm dX13_scanMethod_171 (by rw [← e_v100]; rfl) ?_
    clear e_v100
    refine mx_S.pu (pc2 := 173) (lv2 := [(5, .int u98.1), (0, .ref l0), (1, .int l1), (2, .int l2), (4, .int l4)]) (st2 := [.ref l0, .int v100, .ref v99]) hm dX13_scanMethod_172 rfl ?_
    replace hf := mx_sv_el hf; obtain ⟨v101, e_v101, hf⟩ := hf
    refine sx_get hm dX13_scanMethod_173 rs_RX13_245 (xgr_el e_v101) ?_
    clear e_v101
    refine mx_S.pu (pc2 := 178) (lv2 := [(5, .int u98.1), (0, .ref l0), (1, .int l1), (2, .int l2), (4, .int l4)]) (st2 := [.int u98.1, .ref v101, .int v100, .ref v99]) hm dX13_scanMethod_176 rfl ?_
    refine sx_ic (v := 1) hm dX13_scanMethod_178 (by decide) ?_
    replace hf := xl_el hf; obtain ⟨v102, e_v102, hf⟩ := hf
    refine mx_S.pu (pc2 := 180) (lv2 := [(5, .int u98.1), (0, .ref l0), (1, .int l1), (2, .int l2), (4, .int l4)]) (st2 := [.int v102, .ref v101, .int v100, .ref v99]) hm dX13_scanMethod_179 (by rw [← e_v102]; rfl) ?_
    clear e_v102
    replace hf := mx_sv_el hf; obtain ⟨v103, e_v103, hf⟩ := hf
    refine sx_ald hm dX13_scanMethod_180 e_v103 ?_
    clear e_v103
    replace hf := mx_sv_el hf; obtain ⟨u104, e_u104, hf⟩ := hf
    refine sx_cs hm dX13_scanMethod_181 rs_RX13_785 mt_X13_parametersIn [.ref v99, .int v100, .int v103] [] rfl rfl (Nat.le_of_ble_eq_true rfl) (Nat.le_of_ble_eq_true rfl) (by omega) (by omega) (f_X13_parametersIn_ok X (by omega) (by omega) nn v99 v100 v103 u98.2 e_u104) ?_
    clear e_u104
    show mx_S X F L 506 184 [(5, .int u98.1), (0, .ref l0), (1, .int l1), (2, .int l2), (4, .int l4)] [.int u104.1] u104.2 0 0 (some (.int r.1), r.2, 0, 0)
    refine sx_ic (v := 1) hm dX13_scanMethod_184 (by decide) ?_
    replace hf := xl_el hf; obtain ⟨v105, e_v105, hf⟩ := hf
    refine mx_S.pu (pc2 := 186) (lv2 := [(5, .int u98.1), (0, .ref l0), (1, .int l1), (2, .int l2), (4, .int l4)]) (st2 := [.int v105]) hm dX13_scanMethod_185 (by rw [← e_v105]; rfl) ?_
    clear e_v105
    refine mx_S.pu (pc2 := 187) (lv2 := [(5, .int u98.1), (0, .ref l0), (1, .int l1), (2, .int l2), (4, .int l4)]) (st2 := [.ref l0, .int v105]) hm dX13_scanMethod_186 rfl ?_
    replace hf := mx_sv_el hf; obtain ⟨v106, e_v106, hf⟩ := hf
    refine sx_get hm dX13_scanMethod_187 rs_RX13_245 (xgr_el e_v106) ?_
    clear e_v106
    refine mx_S.pu (pc2 := 192) (lv2 := [(5, .int u98.1), (0, .ref l0), (1, .int l1), (2, .int l2), (4, .int l4)]) (st2 := [.int l4, .ref v106, .int v105]) hm dX13_scanMethod_190 rfl ?_
    replace hf := mx_sv_el hf; obtain ⟨v107, e_v107, hf⟩ := hf
    refine sx_ald hm dX13_scanMethod_192 e_v107 ?_
    clear e_v107
    replace hf := xl_el hf; obtain ⟨v108, e_v108, hf⟩ := hf
    refine mx_S.pu (pc2 := 194) (lv2 := [(5, .int u98.1), (0, .ref l0), (1, .int l1), (2, .int l2), (4, .int l4)]) (st2 := [.int v108]) hm dX13_scanMethod_193 (by rw [← e_v108]; rfl) ?_
    clear e_v108
    refine mx_S.pu (pc2 := 196) (lv2 := [(6, .int v108), (5, .int u98.1), (0, .ref l0), (1, .int l1), (2, .int l2), (4, .int l4)]) (st2 := []) hm dX13_scanMethod_194 rfl ?_
    refine mx_S.pu (pc2 := 197) (lv2 := [(6, .int v108), (5, .int u98.1), (0, .ref l0), (1, .int l1), (2, .int l2), (4, .int l4)]) (st2 := [.ref l0]) hm dX13_scanMethod_196 rfl ?_
    replace hf := mx_sv_el hf; obtain ⟨v109, e_v109, hf⟩ := hf
    refine sx_get hm dX13_scanMethod_197 rs_RX13_245 (xgr_el e_v109) ?_
    clear e_v109
    refine mx_S.pu (pc2 := 202) (lv2 := [(6, .int v108), (5, .int u98.1), (0, .ref l0), (1, .int l1), (2, .int l2), (4, .int l4)]) (st2 := [.int l4, .ref v109]) hm dX13_scanMethod_200 rfl ?_
    refine sx_ic (v := 4) hm dX13_scanMethod_202 (by decide) ?_
    replace hf := xl_el hf; obtain ⟨v110, e_v110, hf⟩ := hf
    refine mx_S.pu (pc2 := 204) (lv2 := [(6, .int v108), (5, .int u98.1), (0, .ref l0), (1, .int l1), (2, .int l2), (4, .int l4)]) (st2 := [.int v110, .ref v109]) hm dX13_scanMethod_203 (by rw [← e_v110]; rfl) ?_
    clear e_v110
    replace hf := mx_sv_el hf; obtain ⟨v111, e_v111, hf⟩ := hf
    refine sx_ald hm dX13_scanMethod_204 e_v111 ?_
    clear e_v111
    refine sx_bi (v := 30) hm dX13_scanMethod_205 (by decide) ?_
    rcases mx_if_el hf with ⟨c116, hf⟩ | ⟨c116, hf⟩
    · refine sb_ic_gt hm dX13_scanMethod_207 (tgt := 224) rfl (fun _ => ?_) (fun z => absurd c116 z)
      refine mx_S.ext [(0, .ref l0), (1, .int l1), (2, .int l2), (4, .int l4)] (mx_sub_pos [2, 3, 4, 5] rfl (show ([6, 5, 0, 1, 2, 4] : List Nat).Nodup by decide)) ?_
      exact j_X13_scanMethod_224_ok X hF hL nn l0 l1 l2 l4 u104.2 hf
    · refine sb_ic_gt hm dX13_scanMethod_207 (tgt := 224) rfl (fun z => absurd z c116) (fun _ => ?_)
      refine mx_S.pu (pc2 := 211) (lv2 := [(6, .int v108), (5, .int u98.1), (0, .ref l0), (1, .int l1), (2, .int l2), (4, .int l4)]) (st2 := [.ref l0]) hm dX13_scanMethod_210 rfl ?_
      replace hf := mx_sv_el hf; obtain ⟨v112, e_v112, hf⟩ := hf
      refine sx_get hm dX13_scanMethod_211 rs_RX13_245 (xgr_el e_v112) ?_
      clear e_v112
      refine mx_S.pu (pc2 := 216) (lv2 := [(6, .int v108), (5, .int u98.1), (0, .ref l0), (1, .int l1), (2, .int l2), (4, .int l4)]) (st2 := [.int l4, .ref v112]) hm dX13_scanMethod_214 rfl ?_
      refine sx_ic (v := 4) hm dX13_scanMethod_216 (by decide) ?_
      replace hf := xl_el hf; obtain ⟨v113, e_v113, hf⟩ := hf
      refine mx_S.pu (pc2 := 218) (lv2 := [(6, .int v108), (5, .int u98.1), (0, .ref l0), (1, .int l1), (2, .int l2), (4, .int l4)]) (st2 := [.int v113, .ref v112]) hm dX13_scanMethod_217 (by rw [← e_v113]; rfl) ?_
      clear e_v113
      replace hf := mx_sv_el hf; obtain ⟨v114, e_v114, hf⟩ := hf
      refine sx_ald hm dX13_scanMethod_218 e_v114 ?_
      clear e_v114
      refine mx_S.pu (pc2 := 221) (lv2 := [(6, .int v108), (5, .int u98.1), (0, .ref l0), (1, .int l1), (2, .int l2), (4, .int l4)]) (st2 := [.int v108, .int v114]) hm dX13_scanMethod_219 rfl ?_
      rcases mx_if_el hf with ⟨c115, hf⟩ | ⟨c115, hf⟩
      · refine sb_ic_ge hm dX13_scanMethod_221 (tgt := 232) rfl (fun _ => ?_) (fun z => absurd c115 z)
        refine mx_S.ext [(0, .ref l0), (1, .int l1), (2, .int l2), (4, .int l4)] (mx_sub_pos [2, 3, 4, 5] rfl (show ([6, 5, 0, 1, 2, 4] : List Nat).Nodup by decide)) ?_
        exact j_X13_scanMethod_232_ok X hF hL nn l0 l1 l2 l4 u104.2 hf
      · refine sb_ic_ge hm dX13_scanMethod_221 (tgt := 232) rfl (fun z => absurd z c115) (fun _ => ?_)
        refine mx_S.ext [(0, .ref l0), (1, .int l1), (2, .int l2), (4, .int l4)] (mx_sub_pos [2, 3, 4, 5] rfl (show ([6, 5, 0, 1, 2, 4] : List Nat).Nodup by decide)) ?_
        exact j_X13_scanMethod_224_ok X hF hL nn l0 l1 l2 l4 u104.2 hf
  · refine sb_if_ne hm dX13_scanMethod_142 (tgt := 148) rfl (fun z => absurd z c117) (fun _ => ?_)
    refine mx_S.pu (pc2 := 147) (lv2 := [(0, .ref l0), (1, .int l1), (2, .int l2), (4, .int l4)]) (st2 := [.int l4]) hm dX13_scanMethod_145 rfl ?_
    cases hf
    exact sx_ire hm dX13_scanMethod_147 rfl rfl
set_option maxHeartbeats 4000000 in
set_option maxRecDepth 20000 in
theorem j_X13_scanMethod_101_ok (X : Nat × (Nat → Int32)) {F L : Nat} (hF : 8 ≤ F) (hL : 184 ≤ L) (nn : Nat) (l0 : Nat) (l1 : Int32) (l2 : Int32) (l4 : Int32) (h : mx_H) {r : (Int32 × mx_H)} (hf : j_X13_scanMethod_101 nn l0 l1 l2 l4 h = some r) : mx_S X F L 506 101 [(0, .ref l0), (1, .int l1), (2, .int l2), (4, .int l4)] [] h 0 0 (some (.int r.1), r.2, 0, 0) := by
  have hm : mx_mt 506 = some (yX13_scanMethod, cX13_scanMethod, 11, (some .int)) := mt_X13_scanMethod
  unfold j_X13_scanMethod_101 at hf
  refine mx_S.pu (pc2 := 102) (lv2 := [(0, .ref l0), (1, .int l1), (2, .int l2), (4, .int l4)]) (st2 := [.ref l0]) hm dX13_scanMethod_101 rfl ?_
  refine mx_S.pu (pc2 := 104) (lv2 := [(0, .ref l0), (1, .int l1), (2, .int l2), (4, .int l4)]) (st2 := [.int l4, .ref l0]) hm dX13_scanMethod_102 rfl ?_
  refine sx_ic (v := 3) hm dX13_scanMethod_104 (by decide) ?_
  replace hf := xl_el hf; obtain ⟨v118, e_v118, hf⟩ := hf
  refine mx_S.pu (pc2 := 106) (lv2 := [(0, .ref l0), (1, .int l1), (2, .int l2), (4, .int l4)]) (st2 := [.int v118, .ref l0]) hm dX13_scanMethod_105 (by rw [← e_v118]; rfl) ?_
  clear e_v118
  replace hf := mx_gd_el hf; obtain ⟨c119, hf⟩ := hf
  replace hf := mx_sv_el hf; obtain ⟨u120, e_u120, hf⟩ := hf
  refine sx_cv hm dX13_scanMethod_106 rs_RX13_800 mt_X13_isByte [.int v118] [] (b := l0) (ci := 13) rfl rfl rfl c119 (Nat.le_of_ble_eq_true rfl) (Nat.le_of_ble_eq_true rfl) (by omega) (by omega) (f_X13_isByte_ok X (by omega) (by omega) nn l0 v118 h e_u120) ?_
  clear e_u120
  show mx_S X F L 506 109 [(0, .ref l0), (1, .int l1), (2, .int l2), (4, .int l4)] [.int u120.1] u120.2 0 0 (some (.int r.1), r.2, 0, 0)
  rcases mx_if_el hf with ⟨c128, hf⟩ | ⟨c128, hf⟩
  · refine sb_if_eq hm dX13_scanMethod_109 (tgt := 134) rfl (fun _ => ?_) (fun z => absurd c128 z)
    exact j_X13_scanMethod_134_ok X hF hL nn l0 l1 l2 l4 u120.2 hf
  · refine sb_if_eq hm dX13_scanMethod_109 (tgt := 134) rfl (fun z => absurd z c128) (fun _ => ?_)
    refine mx_S.pu (pc2 := 113) (lv2 := [(0, .ref l0), (1, .int l1), (2, .int l2), (4, .int l4)]) (st2 := [.ref l0]) hm dX13_scanMethod_112 rfl ?_
    replace hf := mx_sv_el hf; obtain ⟨v121, e_v121, hf⟩ := hf
    refine sx_get hm dX13_scanMethod_113 rs_RX13_245 (xgr_el e_v121) ?_
    clear e_v121
    refine mx_S.pu (pc2 := 118) (lv2 := [(0, .ref l0), (1, .int l1), (2, .int l2), (4, .int l4)]) (st2 := [.int l4, .ref v121]) hm dX13_scanMethod_116 rfl ?_
    refine sx_ic (v := 3) hm dX13_scanMethod_118 (by decide) ?_
    replace hf := xl_el hf; obtain ⟨v122, e_v122, hf⟩ := hf
    refine mx_S.pu (pc2 := 120) (lv2 := [(0, .ref l0), (1, .int l1), (2, .int l2), (4, .int l4)]) (st2 := [.int v122, .ref v121]) hm dX13_scanMethod_119 (by rw [← e_v122]; rfl) ?_
    clear e_v122
    replace hf := mx_sv_el hf; obtain ⟨v123, e_v123, hf⟩ := hf
    refine sx_ald hm dX13_scanMethod_120 e_v123 ?_
    clear e_v123
    refine sx_bi (v := 30) hm dX13_scanMethod_121 (by decide) ?_
    rcases mx_if_el hf with ⟨c127, hf⟩ | ⟨c127, hf⟩
    · refine sb_ic_le hm dX13_scanMethod_123 (tgt := 134) rfl (fun _ => ?_) (fun z => absurd c127 z)
      exact j_X13_scanMethod_134_ok X hF hL nn l0 l1 l2 l4 u120.2 hf
    · refine sb_ic_le hm dX13_scanMethod_123 (tgt := 134) rfl (fun z => absurd z c127) (fun _ => ?_)
      refine mx_S.pu (pc2 := 127) (lv2 := [(0, .ref l0), (1, .int l1), (2, .int l2), (4, .int l4)]) (st2 := [.ref l0]) hm dX13_scanMethod_126 rfl ?_
      refine mx_S.pu (pc2 := 129) (lv2 := [(0, .ref l0), (1, .int l1), (2, .int l2), (4, .int l4)]) (st2 := [.int l4, .ref l0]) hm dX13_scanMethod_127 rfl ?_
      refine sx_ic (v := 3) hm dX13_scanMethod_129 (by decide) ?_
      replace hf := xl_el hf; obtain ⟨v124, e_v124, hf⟩ := hf
      refine mx_S.pu (pc2 := 131) (lv2 := [(0, .ref l0), (1, .int l1), (2, .int l2), (4, .int l4)]) (st2 := [.int v124, .ref l0]) hm dX13_scanMethod_130 (by rw [← e_v124]; rfl) ?_
      clear e_v124
      replace hf := mx_gd_el hf; obtain ⟨c125, hf⟩ := hf
      replace hf := mx_sv_el hf; obtain ⟨u126, e_u126, hf⟩ := hf
      refine sx_cv hm dX13_scanMethod_131 rs_RX13_803 mt_X13_unfit [.int v124] [] (b := l0) (ci := 13) rfl rfl rfl c125 (Nat.le_of_ble_eq_true rfl) (Nat.le_of_ble_eq_true rfl) (by omega) (by omega) (f_X13_unfit_ok X (by omega) (by omega) nn l0 v124 u120.2 e_u126) ?_
      clear e_u126
      show mx_S X F L 506 134 [(0, .ref l0), (1, .int l1), (2, .int l2), (4, .int l4)] [] u126 0 0 (some (.int r.1), r.2, 0, 0)
      exact j_X13_scanMethod_134_ok X hF hL nn l0 l1 l2 l4 u126 hf
set_option maxHeartbeats 4000000 in
set_option maxRecDepth 20000 in
theorem j_X13_scanMethod_65_ok (X : Nat × (Nat → Int32)) {F L : Nat} (hF : 8 ≤ F) (hL : 184 ≤ L) (nn : Nat) (l0 : Nat) (l1 : Int32) (l2 : Int32) (l4 : Int32) (h : mx_H) {r : (Int32 × mx_H)} (hf : j_X13_scanMethod_65 nn l0 l1 l2 l4 h = some r) : mx_S X F L 506 65 [(0, .ref l0), (1, .int l1), (2, .int l2), (4, .int l4)] [] h 0 0 (some (.int r.1), r.2, 0, 0) := by
  have hm : mx_mt 506 = some (yX13_scanMethod, cX13_scanMethod, 11, (some .int)) := mt_X13_scanMethod
  unfold j_X13_scanMethod_65 at hf
  refine mx_S.pu (pc2 := 66) (lv2 := [(0, .ref l0), (1, .int l1), (2, .int l2), (4, .int l4)]) (st2 := [.ref l0]) hm dX13_scanMethod_65 rfl ?_
  refine mx_S.pu (pc2 := 68) (lv2 := [(0, .ref l0), (1, .int l1), (2, .int l2), (4, .int l4)]) (st2 := [.int l4, .ref l0]) hm dX13_scanMethod_66 rfl ?_
  refine sx_ic (v := 2) hm dX13_scanMethod_68 (by decide) ?_
  replace hf := xl_el hf; obtain ⟨v129, e_v129, hf⟩ := hf
  refine mx_S.pu (pc2 := 70) (lv2 := [(0, .ref l0), (1, .int l1), (2, .int l2), (4, .int l4)]) (st2 := [.int v129, .ref l0]) hm dX13_scanMethod_69 (by rw [← e_v129]; rfl) ?_
  clear e_v129
  replace hf := mx_gd_el hf; obtain ⟨c130, hf⟩ := hf
  replace hf := mx_sv_el hf; obtain ⟨u131, e_u131, hf⟩ := hf
  refine sx_cv hm dX13_scanMethod_70 rs_RX13_800 mt_X13_isByte [.int v129] [] (b := l0) (ci := 13) rfl rfl rfl c130 (Nat.le_of_ble_eq_true rfl) (Nat.le_of_ble_eq_true rfl) (by omega) (by omega) (f_X13_isByte_ok X (by omega) (by omega) nn l0 v129 h e_u131) ?_
  clear e_u131
  show mx_S X F L 506 73 [(0, .ref l0), (1, .int l1), (2, .int l2), (4, .int l4)] [.int u131.1] u131.2 0 0 (some (.int r.1), r.2, 0, 0)
  rcases mx_if_el hf with ⟨c141, hf⟩ | ⟨c141, hf⟩
  · refine sb_if_eq hm dX13_scanMethod_73 (tgt := 101) rfl (fun _ => ?_) (fun z => absurd c141 z)
    exact j_X13_scanMethod_101_ok X hF hL nn l0 l1 l2 l4 u131.2 hf
  · refine sb_if_eq hm dX13_scanMethod_73 (tgt := 101) rfl (fun z => absurd z c141) (fun _ => ?_)
    refine mx_S.pu (pc2 := 77) (lv2 := [(0, .ref l0), (1, .int l1), (2, .int l2), (4, .int l4)]) (st2 := [.ref l0]) hm dX13_scanMethod_76 rfl ?_
    refine mx_S.pu (pc2 := 78) (lv2 := [(0, .ref l0), (1, .int l1), (2, .int l2), (4, .int l4)]) (st2 := [.ref l0, .ref l0]) hm dX13_scanMethod_77 rfl ?_
    replace hf := mx_sv_el hf; obtain ⟨v132, e_v132, hf⟩ := hf
    refine sx_get hm dX13_scanMethod_78 rs_RX13_245 (xgr_el e_v132) ?_
    clear e_v132
    refine mx_S.pu (pc2 := 83) (lv2 := [(0, .ref l0), (1, .int l1), (2, .int l2), (4, .int l4)]) (st2 := [.int l4, .ref v132, .ref l0]) hm dX13_scanMethod_81 rfl ?_
    refine sx_ic (v := 2) hm dX13_scanMethod_83 (by decide) ?_
    replace hf := xl_el hf; obtain ⟨v133, e_v133, hf⟩ := hf
    refine mx_S.pu (pc2 := 85) (lv2 := [(0, .ref l0), (1, .int l1), (2, .int l2), (4, .int l4)]) (st2 := [.int v133, .ref v132, .ref l0]) hm dX13_scanMethod_84 (by rw [← e_v133]; rfl) ?_
    clear e_v133
    replace hf := mx_sv_el hf; obtain ⟨v134, e_v134, hf⟩ := hf
    refine sx_ald hm dX13_scanMethod_85 e_v134 ?_
    clear e_v134
    refine sx_ic (v := 2) hm dX13_scanMethod_86 (by decide) ?_
    replace hf := mx_gd_el hf; obtain ⟨c135, hf⟩ := hf
    replace hf := mx_sv_el hf; obtain ⟨u136, e_u136, hf⟩ := hf
    refine sx_cv hm dX13_scanMethod_87 rs_RX13_821 mt_X13_isText [.int v134, .int 2] [] (b := l0) (ci := 13) rfl rfl rfl c135 (Nat.le_of_ble_eq_true rfl) (Nat.le_of_ble_eq_true rfl) (by omega) (by omega) (f_X13_isText_ok X (by omega) (by omega) nn l0 v134 2 u131.2 e_u136) ?_
    clear e_u136
    show mx_S X F L 506 90 [(0, .ref l0), (1, .int l1), (2, .int l2), (4, .int l4)] [.int u136.1] u136.2 0 0 (some (.int r.1), r.2, 0, 0)
    rcases mx_if_el hf with ⟨c140, hf⟩ | ⟨c140, hf⟩
    · refine sb_if_ne hm dX13_scanMethod_90 (tgt := 101) rfl (fun _ => ?_) (fun z => absurd c140 z)
      exact j_X13_scanMethod_101_ok X hF hL nn l0 l1 l2 l4 u136.2 hf
    · refine sb_if_ne hm dX13_scanMethod_90 (tgt := 101) rfl (fun z => absurd z c140) (fun _ => ?_)
      refine mx_S.pu (pc2 := 94) (lv2 := [(0, .ref l0), (1, .int l1), (2, .int l2), (4, .int l4)]) (st2 := [.ref l0]) hm dX13_scanMethod_93 rfl ?_
      refine mx_S.pu (pc2 := 96) (lv2 := [(0, .ref l0), (1, .int l1), (2, .int l2), (4, .int l4)]) (st2 := [.int l4, .ref l0]) hm dX13_scanMethod_94 rfl ?_
      refine sx_ic (v := 2) hm dX13_scanMethod_96 (by decide) ?_
      replace hf := xl_el hf; obtain ⟨v137, e_v137, hf⟩ := hf
      refine mx_S.pu (pc2 := 98) (lv2 := [(0, .ref l0), (1, .int l1), (2, .int l2), (4, .int l4)]) (st2 := [.int v137, .ref l0]) hm dX13_scanMethod_97 (by rw [← e_v137]; rfl) ?_
      clear e_v137
      replace hf := mx_gd_el hf; obtain ⟨c138, hf⟩ := hf
      replace hf := mx_sv_el hf; obtain ⟨u139, e_u139, hf⟩ := hf
      refine sx_cv hm dX13_scanMethod_98 rs_RX13_803 mt_X13_unfit [.int v137] [] (b := l0) (ci := 13) rfl rfl rfl c138 (Nat.le_of_ble_eq_true rfl) (Nat.le_of_ble_eq_true rfl) (by omega) (by omega) (f_X13_unfit_ok X (by omega) (by omega) nn l0 v137 u136.2 e_u139) ?_
      clear e_u139
      show mx_S X F L 506 101 [(0, .ref l0), (1, .int l1), (2, .int l2), (4, .int l4)] [] u139 0 0 (some (.int r.1), r.2, 0, 0)
      exact j_X13_scanMethod_101_ok X hF hL nn l0 l1 l2 l4 u139 hf
set_option maxHeartbeats 4000000 in
set_option maxRecDepth 20000 in
theorem j_X13_scanMethod_29_ok (X : Nat × (Nat → Int32)) {F L : Nat} (hF : 8 ≤ F) (hL : 184 ≤ L) (nn : Nat) (l0 : Nat) (l1 : Int32) (l2 : Int32) (l4 : Int32) (h : mx_H) {r : (Int32 × mx_H)} (hf : j_X13_scanMethod_29 nn l0 l1 l2 l4 h = some r) : mx_S X F L 506 29 [(0, .ref l0), (1, .int l1), (2, .int l2), (4, .int l4)] [] h 0 0 (some (.int r.1), r.2, 0, 0) := by
  have hm : mx_mt 506 = some (yX13_scanMethod, cX13_scanMethod, 11, (some .int)) := mt_X13_scanMethod
  unfold j_X13_scanMethod_29 at hf
  refine mx_S.pu (pc2 := 30) (lv2 := [(0, .ref l0), (1, .int l1), (2, .int l2), (4, .int l4)]) (st2 := [.ref l0]) hm dX13_scanMethod_29 rfl ?_
  refine mx_S.pu (pc2 := 32) (lv2 := [(0, .ref l0), (1, .int l1), (2, .int l2), (4, .int l4)]) (st2 := [.int l4, .ref l0]) hm dX13_scanMethod_30 rfl ?_
  refine sx_ic (v := 1) hm dX13_scanMethod_32 (by decide) ?_
  replace hf := xl_el hf; obtain ⟨v142, e_v142, hf⟩ := hf
  refine mx_S.pu (pc2 := 34) (lv2 := [(0, .ref l0), (1, .int l1), (2, .int l2), (4, .int l4)]) (st2 := [.int v142, .ref l0]) hm dX13_scanMethod_33 (by rw [← e_v142]; rfl) ?_
  clear e_v142
  replace hf := mx_gd_el hf; obtain ⟨c143, hf⟩ := hf
  replace hf := mx_sv_el hf; obtain ⟨u144, e_u144, hf⟩ := hf
  refine sx_cv hm dX13_scanMethod_34 rs_RX13_800 mt_X13_isByte [.int v142] [] (b := l0) (ci := 13) rfl rfl rfl c143 (Nat.le_of_ble_eq_true rfl) (Nat.le_of_ble_eq_true rfl) (by omega) (by omega) (f_X13_isByte_ok X (by omega) (by omega) nn l0 v142 h e_u144) ?_
  clear e_u144
  show mx_S X F L 506 37 [(0, .ref l0), (1, .int l1), (2, .int l2), (4, .int l4)] [.int u144.1] u144.2 0 0 (some (.int r.1), r.2, 0, 0)
  rcases mx_if_el hf with ⟨c154, hf⟩ | ⟨c154, hf⟩
  · refine sb_if_eq hm dX13_scanMethod_37 (tgt := 65) rfl (fun _ => ?_) (fun z => absurd c154 z)
    exact j_X13_scanMethod_65_ok X hF hL nn l0 l1 l2 l4 u144.2 hf
  · refine sb_if_eq hm dX13_scanMethod_37 (tgt := 65) rfl (fun z => absurd z c154) (fun _ => ?_)
    refine mx_S.pu (pc2 := 41) (lv2 := [(0, .ref l0), (1, .int l1), (2, .int l2), (4, .int l4)]) (st2 := [.ref l0]) hm dX13_scanMethod_40 rfl ?_
    refine mx_S.pu (pc2 := 42) (lv2 := [(0, .ref l0), (1, .int l1), (2, .int l2), (4, .int l4)]) (st2 := [.ref l0, .ref l0]) hm dX13_scanMethod_41 rfl ?_
    replace hf := mx_sv_el hf; obtain ⟨v145, e_v145, hf⟩ := hf
    refine sx_get hm dX13_scanMethod_42 rs_RX13_245 (xgr_el e_v145) ?_
    clear e_v145
    refine mx_S.pu (pc2 := 47) (lv2 := [(0, .ref l0), (1, .int l1), (2, .int l2), (4, .int l4)]) (st2 := [.int l4, .ref v145, .ref l0]) hm dX13_scanMethod_45 rfl ?_
    refine sx_ic (v := 1) hm dX13_scanMethod_47 (by decide) ?_
    replace hf := xl_el hf; obtain ⟨v146, e_v146, hf⟩ := hf
    refine mx_S.pu (pc2 := 49) (lv2 := [(0, .ref l0), (1, .int l1), (2, .int l2), (4, .int l4)]) (st2 := [.int v146, .ref v145, .ref l0]) hm dX13_scanMethod_48 (by rw [← e_v146]; rfl) ?_
    clear e_v146
    replace hf := mx_sv_el hf; obtain ⟨v147, e_v147, hf⟩ := hf
    refine sx_ald hm dX13_scanMethod_49 e_v147 ?_
    clear e_v147
    refine sx_ic (v := 0) hm dX13_scanMethod_50 (by decide) ?_
    replace hf := mx_gd_el hf; obtain ⟨c148, hf⟩ := hf
    replace hf := mx_sv_el hf; obtain ⟨u149, e_u149, hf⟩ := hf
    refine sx_cv hm dX13_scanMethod_51 rs_RX13_821 mt_X13_isText [.int v147, .int 0] [] (b := l0) (ci := 13) rfl rfl rfl c148 (Nat.le_of_ble_eq_true rfl) (Nat.le_of_ble_eq_true rfl) (by omega) (by omega) (f_X13_isText_ok X (by omega) (by omega) nn l0 v147 0 u144.2 e_u149) ?_
    clear e_u149
    show mx_S X F L 506 54 [(0, .ref l0), (1, .int l1), (2, .int l2), (4, .int l4)] [.int u149.1] u149.2 0 0 (some (.int r.1), r.2, 0, 0)
    rcases mx_if_el hf with ⟨c153, hf⟩ | ⟨c153, hf⟩
    · refine sb_if_ne hm dX13_scanMethod_54 (tgt := 65) rfl (fun _ => ?_) (fun z => absurd c153 z)
      exact j_X13_scanMethod_65_ok X hF hL nn l0 l1 l2 l4 u149.2 hf
    · refine sb_if_ne hm dX13_scanMethod_54 (tgt := 65) rfl (fun z => absurd z c153) (fun _ => ?_)
      refine mx_S.pu (pc2 := 58) (lv2 := [(0, .ref l0), (1, .int l1), (2, .int l2), (4, .int l4)]) (st2 := [.ref l0]) hm dX13_scanMethod_57 rfl ?_
      refine mx_S.pu (pc2 := 60) (lv2 := [(0, .ref l0), (1, .int l1), (2, .int l2), (4, .int l4)]) (st2 := [.int l4, .ref l0]) hm dX13_scanMethod_58 rfl ?_
      refine sx_ic (v := 1) hm dX13_scanMethod_60 (by decide) ?_
      replace hf := xl_el hf; obtain ⟨v150, e_v150, hf⟩ := hf
      refine mx_S.pu (pc2 := 62) (lv2 := [(0, .ref l0), (1, .int l1), (2, .int l2), (4, .int l4)]) (st2 := [.int v150, .ref l0]) hm dX13_scanMethod_61 (by rw [← e_v150]; rfl) ?_
      clear e_v150
      replace hf := mx_gd_el hf; obtain ⟨c151, hf⟩ := hf
      replace hf := mx_sv_el hf; obtain ⟨u152, e_u152, hf⟩ := hf
      refine sx_cv hm dX13_scanMethod_62 rs_RX13_803 mt_X13_unfit [.int v150] [] (b := l0) (ci := 13) rfl rfl rfl c151 (Nat.le_of_ble_eq_true rfl) (Nat.le_of_ble_eq_true rfl) (by omega) (by omega) (f_X13_unfit_ok X (by omega) (by omega) nn l0 v150 u149.2 e_u152) ?_
      clear e_u152
      show mx_S X F L 506 65 [(0, .ref l0), (1, .int l1), (2, .int l2), (4, .int l4)] [] u152 0 0 (some (.int r.1), r.2, 0, 0)
      exact j_X13_scanMethod_65_ok X hF hL nn l0 l1 l2 l4 u152 hf
set_option maxHeartbeats 4000000 in
set_option maxRecDepth 20000 in
theorem f_X13_scanMethod_ok (X : Nat × (Nat → Int32)) {F L : Nat} (hF : 8 ≤ F) (hL : 184 ≤ L) (nn : Nat) (a0 : Nat) (a1 : Int32) (a2 : Int32) (a3 : Int32) (h : mx_H) {r : (Int32 × mx_H)} (hf : f_X13_scanMethod nn a0 a1 a2 a3 h = some r) : mx_R X F L 506 [.ref a0, .int a1, .int a2, .int a3] h (some (.int r.1), r.2, 0, 0) := by
  have hm : mx_mt 506 = some (yX13_scanMethod, cX13_scanMethod, 11, (some .int)) := mt_X13_scanMethod
  show mx_S X F L 506 0 [(0, .ref a0), (1, .int a1), (2, .int a2), (3, .int a3)] [] h 0 0 (some (.int r.1), r.2, 0, 0)
  unfold f_X13_scanMethod at hf
  refine mx_S.pu (pc2 := 1) (lv2 := [(0, .ref a0), (1, .int a1), (2, .int a2), (3, .int a3)]) (st2 := [.int a3]) hm dX13_scanMethod_0 rfl ?_
  refine mx_S.pu (pc2 := 3) (lv2 := [(4, .int a3), (0, .ref a0), (1, .int a1), (2, .int a2), (3, .int a3)]) (st2 := []) hm dX13_scanMethod_1 rfl ?_
  refine mx_S.pu (pc2 := 4) (lv2 := [(4, .int a3), (0, .ref a0), (1, .int a1), (2, .int a2), (3, .int a3)]) (st2 := [.ref a0]) hm dX13_scanMethod_3 rfl ?_
  refine mx_S.pu (pc2 := 6) (lv2 := [(4, .int a3), (0, .ref a0), (1, .int a1), (2, .int a2), (3, .int a3)]) (st2 := [.int a3, .ref a0]) hm dX13_scanMethod_4 rfl ?_
  replace hf := mx_gd_el hf; obtain ⟨c155, hf⟩ := hf
  replace hf := mx_sv_el hf; obtain ⟨u156, e_u156, hf⟩ := hf
  refine sx_cv hm dX13_scanMethod_6 rs_RX13_800 mt_X13_isByte [.int a3] [] (b := a0) (ci := 13) rfl rfl rfl c155 (Nat.le_of_ble_eq_true rfl) (Nat.le_of_ble_eq_true rfl) (by omega) (by omega) (f_X13_isByte_ok X (by omega) (by omega) nn a0 a3 h e_u156) ?_
  clear e_u156
  show mx_S X F L 506 9 [(4, .int a3), (0, .ref a0), (1, .int a1), (2, .int a2), (3, .int a3)] [.int u156.1] u156.2 0 0 (some (.int r.1), r.2, 0, 0)
  rcases mx_if_el hf with ⟨c162, hf⟩ | ⟨c162, hf⟩
  · refine sb_if_eq hm dX13_scanMethod_9 (tgt := 29) rfl (fun _ => ?_) (fun z => absurd c162 z)
    refine mx_S.ext [(0, .ref a0), (1, .int a1), (2, .int a2), (4, .int a3)] (mx_sub_pos [1, 2, 3, 0] rfl (show ([4, 0, 1, 2, 3] : List Nat).Nodup by decide)) ?_
    exact j_X13_scanMethod_29_ok X hF hL nn a0 a1 a2 a3 u156.2 hf
  · refine sb_if_eq hm dX13_scanMethod_9 (tgt := 29) rfl (fun z => absurd z c162) (fun _ => ?_)
    refine mx_S.pu (pc2 := 13) (lv2 := [(4, .int a3), (0, .ref a0), (1, .int a1), (2, .int a2), (3, .int a3)]) (st2 := [.ref a0]) hm dX13_scanMethod_12 rfl ?_
    replace hf := mx_sv_el hf; obtain ⟨v157, e_v157, hf⟩ := hf
    refine sx_get hm dX13_scanMethod_13 rs_RX13_245 (xgr_el e_v157) ?_
    clear e_v157
    refine mx_S.pu (pc2 := 18) (lv2 := [(4, .int a3), (0, .ref a0), (1, .int a1), (2, .int a2), (3, .int a3)]) (st2 := [.int a3, .ref v157]) hm dX13_scanMethod_16 rfl ?_
    replace hf := mx_sv_el hf; obtain ⟨v158, e_v158, hf⟩ := hf
    refine sx_ald hm dX13_scanMethod_18 e_v158 ?_
    clear e_v158
    refine sx_ic (v := 1) hm dX13_scanMethod_19 (by decide) ?_
    rcases mx_if_el hf with ⟨c161, hf⟩ | ⟨c161, hf⟩
    · refine sb_ic_le hm dX13_scanMethod_20 (tgt := 29) rfl (fun _ => ?_) (fun z => absurd c161 z)
      refine mx_S.ext [(0, .ref a0), (1, .int a1), (2, .int a2), (4, .int a3)] (mx_sub_pos [1, 2, 3, 0] rfl (show ([4, 0, 1, 2, 3] : List Nat).Nodup by decide)) ?_
      exact j_X13_scanMethod_29_ok X hF hL nn a0 a1 a2 a3 u156.2 hf
    · refine sb_ic_le hm dX13_scanMethod_20 (tgt := 29) rfl (fun z => absurd z c161) (fun _ => ?_)
      refine mx_S.pu (pc2 := 24) (lv2 := [(4, .int a3), (0, .ref a0), (1, .int a1), (2, .int a2), (3, .int a3)]) (st2 := [.ref a0]) hm dX13_scanMethod_23 rfl ?_
      refine mx_S.pu (pc2 := 26) (lv2 := [(4, .int a3), (0, .ref a0), (1, .int a1), (2, .int a2), (3, .int a3)]) (st2 := [.int a3, .ref a0]) hm dX13_scanMethod_24 rfl ?_
      replace hf := mx_gd_el hf; obtain ⟨c159, hf⟩ := hf
      replace hf := mx_sv_el hf; obtain ⟨u160, e_u160, hf⟩ := hf
      refine sx_cv hm dX13_scanMethod_26 rs_RX13_803 mt_X13_unfit [.int a3] [] (b := a0) (ci := 13) rfl rfl rfl c159 (Nat.le_of_ble_eq_true rfl) (Nat.le_of_ble_eq_true rfl) (by omega) (by omega) (f_X13_unfit_ok X (by omega) (by omega) nn a0 a3 u156.2 e_u160) ?_
      clear e_u160
      show mx_S X F L 506 29 [(4, .int a3), (0, .ref a0), (1, .int a1), (2, .int a2), (3, .int a3)] [] u160 0 0 (some (.int r.1), r.2, 0, 0)
      refine mx_S.ext [(0, .ref a0), (1, .int a1), (2, .int a2), (4, .int a3)] (mx_sub_pos [1, 2, 3, 0] rfl (show ([4, 0, 1, 2, 3] : List Nat).Nodup by decide)) ?_
      exact j_X13_scanMethod_29_ok X hF hL nn a0 a1 a2 a3 u160 hf
set_option maxHeartbeats 4000000 in
set_option maxRecDepth 20000 in
theorem j_X13_scan_379_ok (X : Nat × (Nat → Int32)) {F L : Nat} (hF : 9 ≤ F) (hL : 214 ≤ L) (nn : Nat) (l0 : Nat) (l3 : Int32) (h : mx_H) {r : mx_H} (hf : j_X13_scan_379 nn l0 l3 h = some r) : mx_S X F L 502 379 [(0, .ref l0), (3, .int l3)] [] h 0 0 (none, r, 0, 0) := by
  have hm : mx_mt 502 = some (yX13_scan, cX13_scan, 5, none) := mt_X13_scan
  unfold j_X13_scan_379 at hf
  refine mx_S.pu (pc2 := 380) (lv2 := [(0, .ref l0), (3, .int l3)]) (st2 := [.ref l0]) hm dX13_scan_379 rfl ?_
  replace hf := mx_sv_el hf; obtain ⟨v1, e_v1, hf⟩ := hf
  refine sx_get hm dX13_scan_380 rs_RX13_764 (xgi_el e_v1) ?_
  clear e_v1
  refine sx_ic (v := (-1)) hm dX13_scan_383 (by decide) ?_
  rcases mx_if_el hf with ⟨c6, hf⟩ | ⟨c6, hf⟩
  · refine sb_ic_ne hm dX13_scan_384 (tgt := 400) rfl (fun _ => ?_) (fun z => absurd c6 z)
    cases hf
    exact sx_ret hm dX13_scan_400 rfl
  · refine sb_ic_ne hm dX13_scan_384 (tgt := 400) rfl (fun z => absurd z c6) (fun _ => ?_)
    refine mx_S.pu (pc2 := 388) (lv2 := [(0, .ref l0), (3, .int l3)]) (st2 := [.int l3]) hm dX13_scan_387 rfl ?_
    refine mx_S.pu (pc2 := 389) (lv2 := [(0, .ref l0), (3, .int l3)]) (st2 := [.ref l0, .int l3]) hm dX13_scan_388 rfl ?_
    replace hf := mx_sv_el hf; obtain ⟨v2, e_v2, hf⟩ := hf
    refine sx_get hm dX13_scan_389 rs_RX13_767 (xgi_el e_v2) ?_
    clear e_v2
    rcases mx_if_el hf with ⟨c5, hf⟩ | ⟨c5, hf⟩
    · refine sb_ic_ge hm dX13_scan_392 (tgt := 400) rfl (fun _ => ?_) (fun z => absurd c5 z)
      cases hf
      exact sx_ret hm dX13_scan_400 rfl
    · refine sb_ic_ge hm dX13_scan_392 (tgt := 400) rfl (fun z => absurd z c5) (fun _ => ?_)
      refine mx_S.pu (pc2 := 396) (lv2 := [(0, .ref l0), (3, .int l3)]) (st2 := [.ref l0]) hm dX13_scan_395 rfl ?_
      refine mx_S.pu (pc2 := 397) (lv2 := [(0, .ref l0), (3, .int l3)]) (st2 := [.int l3, .ref l0]) hm dX13_scan_396 rfl ?_
      replace hf := mx_gd_el hf; obtain ⟨c3, hf⟩ := hf
      replace hf := mx_sv_el hf; obtain ⟨u4, e_u4, hf⟩ := hf
      refine sx_cv hm dX13_scan_397 rs_RX13_803 mt_X13_unfit [.int l3] [] (b := l0) (ci := 13) rfl rfl rfl c3 (Nat.le_of_ble_eq_true rfl) (Nat.le_of_ble_eq_true rfl) (by omega) (by omega) (f_X13_unfit_ok X (by omega) (by omega) nn l0 l3 h e_u4) ?_
      clear e_u4
      show mx_S X F L 502 400 [(0, .ref l0), (3, .int l3)] [] u4 0 0 (none, r, 0, 0)
      cases hf
      exact sx_ret hm dX13_scan_400 rfl
set_option maxHeartbeats 4000000 in
set_option maxRecDepth 20000 in
theorem w_X13_scan_332_ok (X : Nat × (Nat → Int32)) {F L : Nat} (hF : 9 ≤ F) (hL : 214 ≤ L) (nn : Nat) : ∀ (k : Nat) (l0 : Nat) (l1 : Int32) (l3 : Int32) (l4 : Int32) (h : mx_H) (r : mx_H), w_X13_scan_332 nn k l0 l1 l3 l4 h = some r → mx_S X F L 502 332 [(0, .ref l0), (1, .int l1), (3, .int l3), (4, .int l4)] [] h 0 0 (none, r, 0, 0) := by
  have hm : mx_mt 502 = some (yX13_scan, cX13_scan, 5, none) := mt_X13_scan
  intro k
  induction k with
  | zero => intro l0 l1 l3 l4 h r hf; cases hf
  | succ k ih =>
    intro l0 l1 l3 l4 h r hf
    unfold w_X13_scan_332 at hf
    refine mx_S.pu (pc2 := 333) (lv2 := [(0, .ref l0), (1, .int l1), (3, .int l3), (4, .int l4)]) (st2 := [.ref l0]) hm dX13_scan_332 rfl ?_
    replace hf := mx_sv_el hf; obtain ⟨v7, e_v7, hf⟩ := hf
    refine sx_get hm dX13_scan_333 rs_RX13_764 (xgi_el e_v7) ?_
    clear e_v7
    refine sx_ic (v := (-1)) hm dX13_scan_336 (by decide) ?_
    rcases mx_if_el hf with ⟨c18, hf⟩ | ⟨c18, hf⟩
    · refine sb_ic_ne hm dX13_scan_337 (tgt := 379) rfl (fun _ => ?_) (fun z => absurd c18 z)
      refine mx_S.ext [(0, .ref l0), (3, .int l3)] (mx_sub_pos [0, 2] rfl (show ([0, 1, 3, 4] : List Nat).Nodup by decide)) ?_
      exact j_X13_scan_379_ok X hF hL nn l0 l3 h hf
    · refine sb_ic_ne hm dX13_scan_337 (tgt := 379) rfl (fun z => absurd z c18) (fun _ => ?_)
      refine mx_S.pu (pc2 := 342) (lv2 := [(0, .ref l0), (1, .int l1), (3, .int l3), (4, .int l4)]) (st2 := [.int l4]) hm dX13_scan_340 rfl ?_
      refine mx_S.pu (pc2 := 343) (lv2 := [(0, .ref l0), (1, .int l1), (3, .int l3), (4, .int l4)]) (st2 := [.ref l0, .int l4]) hm dX13_scan_342 rfl ?_
      replace hf := mx_sv_el hf; obtain ⟨v8, e_v8, hf⟩ := hf
      refine sx_get hm dX13_scan_343 rs_RX13_233 (xgr_el e_v8) ?_
      clear e_v8
      refine mx_S.pu (pc2 := 347) (lv2 := [(0, .ref l0), (1, .int l1), (3, .int l3), (4, .int l4)]) (st2 := [.int l1, .ref v8, .int l4]) hm dX13_scan_346 rfl ?_
      replace hf := mx_sv_el hf; obtain ⟨v9, e_v9, hf⟩ := hf
      refine sx_ald hm dX13_scan_347 e_v9 ?_
      clear e_v9
      rcases mx_if_el hf with ⟨c17, hf⟩ | ⟨c17, hf⟩
      · refine sb_ic_ge hm dX13_scan_348 (tgt := 379) rfl (fun _ => ?_) (fun z => absurd c17 z)
        refine mx_S.ext [(0, .ref l0), (3, .int l3)] (mx_sub_pos [0, 2] rfl (show ([0, 1, 3, 4] : List Nat).Nodup by decide)) ?_
        exact j_X13_scan_379_ok X hF hL nn l0 l3 h hf
      · refine sb_ic_ge hm dX13_scan_348 (tgt := 379) rfl (fun z => absurd z c17) (fun _ => ?_)
        refine mx_S.pu (pc2 := 352) (lv2 := [(0, .ref l0), (1, .int l1), (3, .int l3), (4, .int l4)]) (st2 := [.ref l0]) hm dX13_scan_351 rfl ?_
        replace hf := mx_sv_el hf; obtain ⟨v10, e_v10, hf⟩ := hf
        refine sx_get hm dX13_scan_352 rs_RX13_236 (xgr_el e_v10) ?_
        clear e_v10
        refine sx_bi (v := 12) hm dX13_scan_355 (by decide) ?_
        refine mx_S.pu (pc2 := 358) (lv2 := [(0, .ref l0), (1, .int l1), (3, .int l3), (4, .int l4)]) (st2 := [.int l1, .int 12, .ref v10]) hm dX13_scan_357 rfl ?_
        replace hf := xl_el hf; obtain ⟨v11, e_v11, hf⟩ := hf
        refine mx_S.pu (pc2 := 359) (lv2 := [(0, .ref l0), (1, .int l1), (3, .int l3), (4, .int l4)]) (st2 := [.int v11, .ref v10]) hm dX13_scan_358 (by rw [← e_v11]; rfl) ?_
        clear e_v11
        refine mx_S.pu (pc2 := 361) (lv2 := [(0, .ref l0), (1, .int l1), (3, .int l3), (4, .int l4)]) (st2 := [.int l4, .int v11, .ref v10]) hm dX13_scan_359 rfl ?_
        replace hf := xl_el hf; obtain ⟨v12, e_v12, hf⟩ := hf
        refine mx_S.pu (pc2 := 362) (lv2 := [(0, .ref l0), (1, .int l1), (3, .int l3), (4, .int l4)]) (st2 := [.int v12, .ref v10]) hm dX13_scan_361 (by rw [← e_v12]; rfl) ?_
        clear e_v12
        refine mx_S.pu (pc2 := 363) (lv2 := [(0, .ref l0), (1, .int l1), (3, .int l3), (4, .int l4)]) (st2 := [.int l3, .int v12, .ref v10]) hm dX13_scan_362 rfl ?_
        replace hf := mx_sv_el hf; obtain ⟨h13, e_h13, hf⟩ := hf
        refine sx_ast hm dX13_scan_363 e_h13 ?_
        clear e_h13
        refine mx_S.pu (pc2 := 365) (lv2 := [(0, .ref l0), (1, .int l1), (3, .int l3), (4, .int l4)]) (st2 := [.ref l0]) hm dX13_scan_364 rfl ?_
        refine mx_S.pu (pc2 := 366) (lv2 := [(0, .ref l0), (1, .int l1), (3, .int l3), (4, .int l4)]) (st2 := [.int l1, .ref l0]) hm dX13_scan_365 rfl ?_
        refine mx_S.pu (pc2 := 368) (lv2 := [(0, .ref l0), (1, .int l1), (3, .int l3), (4, .int l4)]) (st2 := [.int l4, .int l1, .ref l0]) hm dX13_scan_366 rfl ?_
        refine mx_S.pu (pc2 := 369) (lv2 := [(0, .ref l0), (1, .int l1), (3, .int l3), (4, .int l4)]) (st2 := [.int l3, .int l4, .int l1, .ref l0]) hm dX13_scan_368 rfl ?_
        replace hf := mx_gd_el hf; obtain ⟨c14, hf⟩ := hf
        replace hf := mx_sv_el hf; obtain ⟨u15, e_u15, hf⟩ := hf
        refine sx_cv hm dX13_scan_369 rs_RX13_818 mt_X13_scanMethod [.int l1, .int l4, .int l3] [] (b := l0) (ci := 13) rfl rfl rfl c14 (Nat.le_of_ble_eq_true rfl) (Nat.le_of_ble_eq_true rfl) (by omega) (by omega) (f_X13_scanMethod_ok X (by omega) (by omega) nn l0 l1 l4 l3 h13 e_u15) ?_
        clear e_u15
        show mx_S X F L 502 372 [(0, .ref l0), (1, .int l1), (3, .int l3), (4, .int l4)] [.int u15.1] u15.2 0 0 (none, r, 0, 0)
        refine mx_S.pu (pc2 := 373) (lv2 := [(3, .int u15.1), (0, .ref l0), (1, .int l1), (4, .int l4)]) (st2 := []) hm dX13_scan_372 rfl ?_
        replace hf := xl_el hf; obtain ⟨v16, e_v16, hf⟩ := hf
        refine mx_S.pu (pc2 := 376) (lv2 := [(4, .int v16), (3, .int u15.1), (0, .ref l0), (1, .int l1)]) (st2 := []) hm dX13_scan_373 (by rw [← e_v16]; rfl) ?_
        clear e_v16
        refine mx_S.pu (pc2 := 332) (lv2 := [(4, .int v16), (3, .int u15.1), (0, .ref l0), (1, .int l1)]) (st2 := []) hm dX13_scan_376 rfl ?_
        refine mx_S.ext [(0, .ref l0), (1, .int l1), (3, .int u15.1), (4, .int v16)] (mx_sub_pos [2, 3, 1, 0] rfl (show ([4, 3, 0, 1] : List Nat).Nodup by decide)) ?_
        exact ih l0 l1 u15.1 v16 u15.2 _ hf
set_option maxHeartbeats 4000000 in
set_option maxRecDepth 20000 in
theorem j_X13_scan_314_ok (X : Nat × (Nat → Int32)) {F L : Nat} (hF : 9 ≤ F) (hL : 214 ≤ L) (nn : Nat) (l0 : Nat) (l1 : Int32) (l3 : Int32) (h : mx_H) {r : mx_H} (hf : j_X13_scan_314 nn l0 l1 l3 h = some r) : mx_S X F L 502 314 [(0, .ref l0), (1, .int l1), (3, .int l3)] [] h 0 0 (none, r, 0, 0) := by
  have hm : mx_mt 502 = some (yX13_scan, cX13_scan, 5, none) := mt_X13_scan
  unfold j_X13_scan_314 at hf
  refine mx_S.pu (pc2 := 315) (lv2 := [(0, .ref l0), (1, .int l1), (3, .int l3)]) (st2 := [.ref l0]) hm dX13_scan_314 rfl ?_
  replace hf := mx_sv_el hf; obtain ⟨v19, e_v19, hf⟩ := hf
  refine sx_get hm dX13_scan_315 rs_RX13_233 (xgr_el e_v19) ?_
  clear e_v19
  refine mx_S.pu (pc2 := 319) (lv2 := [(0, .ref l0), (1, .int l1), (3, .int l3)]) (st2 := [.int l1, .ref v19]) hm dX13_scan_318 rfl ?_
  refine mx_S.pu (pc2 := 320) (lv2 := [(0, .ref l0), (1, .int l1), (3, .int l3)]) (st2 := [.ref l0, .int l1, .ref v19]) hm dX13_scan_319 rfl ?_
  replace hf := mx_sv_el hf; obtain ⟨v20, e_v20, hf⟩ := hf
  refine sx_get hm dX13_scan_320 rs_RX13_245 (xgr_el e_v20) ?_
  clear e_v20
  refine mx_S.pu (pc2 := 324) (lv2 := [(0, .ref l0), (1, .int l1), (3, .int l3)]) (st2 := [.int l3, .ref v20, .int l1, .ref v19]) hm dX13_scan_323 rfl ?_
  replace hf := mx_sv_el hf; obtain ⟨v21, e_v21, hf⟩ := hf
  refine sx_ald hm dX13_scan_324 e_v21 ?_
  clear e_v21
  replace hf := mx_sv_el hf; obtain ⟨h22, e_h22, hf⟩ := hf
  refine sx_ast hm dX13_scan_325 e_h22 ?_
  clear e_h22
  replace hf := xl_el hf; obtain ⟨v23, e_v23, hf⟩ := hf
  refine mx_S.pu (pc2 := 329) (lv2 := [(3, .int v23), (0, .ref l0), (1, .int l1)]) (st2 := []) hm dX13_scan_326 (by rw [← e_v23]; rfl) ?_
  clear e_v23
  refine sx_ic (v := 0) hm dX13_scan_329 (by decide) ?_
  refine mx_S.pu (pc2 := 332) (lv2 := [(4, .int 0), (3, .int v23), (0, .ref l0), (1, .int l1)]) (st2 := []) hm dX13_scan_330 rfl ?_
  refine mx_S.ext [(0, .ref l0), (1, .int l1), (3, .int v23), (4, .int 0)] (mx_sub_pos [2, 3, 1, 0] rfl (show ([4, 3, 0, 1] : List Nat).Nodup by decide)) ?_
  exact w_X13_scan_332_ok X hF hL nn nn l0 l1 v23 0 h22 _ hf
set_option maxHeartbeats 4000000 in
set_option maxRecDepth 20000 in
theorem j_X13_scan_243_ok (X : Nat × (Nat → Int32)) {F L : Nat} (hF : 9 ≤ F) (hL : 214 ≤ L) (nn : Nat) (l0 : Nat) (l1 : Int32) (l3 : Int32) (h : mx_H) {r : mx_H} (hf : j_X13_scan_243 nn l0 l1 l3 h = some r) : mx_S X F L 502 243 [(0, .ref l0), (1, .int l1), (3, .int l3)] [] h 0 0 (none, r, 0, 0) := by
  have hm : mx_mt 502 = some (yX13_scan, cX13_scan, 5, none) := mt_X13_scan
  unfold j_X13_scan_243 at hf
  refine mx_S.pu (pc2 := 244) (lv2 := [(0, .ref l0), (1, .int l1), (3, .int l3)]) (st2 := [.ref l0]) hm dX13_scan_243 rfl ?_
  refine mx_S.pu (pc2 := 245) (lv2 := [(0, .ref l0), (1, .int l1), (3, .int l3)]) (st2 := [.int l3, .ref l0]) hm dX13_scan_244 rfl ?_
  refine sx_ic (v := 2) hm dX13_scan_245 (by decide) ?_
  replace hf := xl_el hf; obtain ⟨v24, e_v24, hf⟩ := hf
  refine mx_S.pu (pc2 := 247) (lv2 := [(0, .ref l0), (1, .int l1), (3, .int l3)]) (st2 := [.int v24, .ref l0]) hm dX13_scan_246 (by rw [← e_v24]; rfl) ?_
  clear e_v24
  replace hf := mx_gd_el hf; obtain ⟨c25, hf⟩ := hf
  replace hf := mx_sv_el hf; obtain ⟨u26, e_u26, hf⟩ := hf
  refine sx_cv hm dX13_scan_247 rs_RX13_800 mt_X13_isByte [.int v24] [] (b := l0) (ci := 13) rfl rfl rfl c25 (Nat.le_of_ble_eq_true rfl) (Nat.le_of_ble_eq_true rfl) (by omega) (by omega) (f_X13_isByte_ok X (by omega) (by omega) nn l0 v24 h e_u26) ?_
  clear e_u26
  show mx_S X F L 502 250 [(0, .ref l0), (1, .int l1), (3, .int l3)] [.int u26.1] u26.2 0 0 (none, r, 0, 0)
  rcases mx_if_el hf with ⟨c47, hf⟩ | ⟨c47, hf⟩
  · refine sb_if_ne hm dX13_scan_250 (tgt := 254) rfl (fun _ => ?_) (fun z => absurd c47 z)
    refine mx_S.pu (pc2 := 255) (lv2 := [(0, .ref l0), (1, .int l1), (3, .int l3)]) (st2 := [.ref l0]) hm dX13_scan_254 rfl ?_
    replace hf := mx_sv_el hf; obtain ⟨v27, e_v27, hf⟩ := hf
    refine sx_get hm dX13_scan_255 rs_RX13_221 (xgr_el e_v27) ?_
    clear e_v27
    refine mx_S.pu (pc2 := 259) (lv2 := [(0, .ref l0), (1, .int l1), (3, .int l3)]) (st2 := [.int l1, .ref v27]) hm dX13_scan_258 rfl ?_
    refine mx_S.pu (pc2 := 260) (lv2 := [(0, .ref l0), (1, .int l1), (3, .int l3)]) (st2 := [.ref l0, .int l1, .ref v27]) hm dX13_scan_259 rfl ?_
    replace hf := mx_sv_el hf; obtain ⟨v28, e_v28, hf⟩ := hf
    refine sx_get hm dX13_scan_260 rs_RX13_245 (xgr_el e_v28) ?_
    clear e_v28
    refine mx_S.pu (pc2 := 264) (lv2 := [(0, .ref l0), (1, .int l1), (3, .int l3)]) (st2 := [.int l3, .ref v28, .int l1, .ref v27]) hm dX13_scan_263 rfl ?_
    replace hf := mx_sv_el hf; obtain ⟨v29, e_v29, hf⟩ := hf
    refine sx_ald hm dX13_scan_264 e_v29 ?_
    clear e_v29
    replace hf := mx_sv_el hf; obtain ⟨h30, e_h30, hf⟩ := hf
    refine sx_ast hm dX13_scan_265 e_h30 ?_
    clear e_h30
    refine mx_S.pu (pc2 := 267) (lv2 := [(0, .ref l0), (1, .int l1), (3, .int l3)]) (st2 := [.ref l0]) hm dX13_scan_266 rfl ?_
    replace hf := mx_sv_el hf; obtain ⟨v31, e_v31, hf⟩ := hf
    refine sx_get hm dX13_scan_267 rs_RX13_224 (xgr_el e_v31) ?_
    clear e_v31
    refine mx_S.pu (pc2 := 271) (lv2 := [(0, .ref l0), (1, .int l1), (3, .int l3)]) (st2 := [.int l1, .ref v31]) hm dX13_scan_270 rfl ?_
    refine mx_S.pu (pc2 := 272) (lv2 := [(0, .ref l0), (1, .int l1), (3, .int l3)]) (st2 := [.ref l0, .int l1, .ref v31]) hm dX13_scan_271 rfl ?_
    replace hf := mx_sv_el hf; obtain ⟨v32, e_v32, hf⟩ := hf
    refine sx_get hm dX13_scan_272 rs_RX13_245 (xgr_el e_v32) ?_
    clear e_v32
    refine mx_S.pu (pc2 := 276) (lv2 := [(0, .ref l0), (1, .int l1), (3, .int l3)]) (st2 := [.int l3, .ref v32, .int l1, .ref v31]) hm dX13_scan_275 rfl ?_
    refine sx_ic (v := 1) hm dX13_scan_276 (by decide) ?_
    replace hf := xl_el hf; obtain ⟨v33, e_v33, hf⟩ := hf
    refine mx_S.pu (pc2 := 278) (lv2 := [(0, .ref l0), (1, .int l1), (3, .int l3)]) (st2 := [.int v33, .ref v32, .int l1, .ref v31]) hm dX13_scan_277 (by rw [← e_v33]; rfl) ?_
    clear e_v33
    replace hf := mx_sv_el hf; obtain ⟨v34, e_v34, hf⟩ := hf
    refine sx_ald hm dX13_scan_278 e_v34 ?_
    clear e_v34
    replace hf := mx_sv_el hf; obtain ⟨h35, e_h35, hf⟩ := hf
    refine sx_ast hm dX13_scan_279 e_h35 ?_
    clear e_h35
    refine mx_S.pu (pc2 := 281) (lv2 := [(0, .ref l0), (1, .int l1), (3, .int l3)]) (st2 := [.ref l0]) hm dX13_scan_280 rfl ?_
    refine mx_S.pu (pc2 := 282) (lv2 := [(0, .ref l0), (1, .int l1), (3, .int l3)]) (st2 := [.int l1, .ref l0]) hm dX13_scan_281 rfl ?_
    refine mx_S.pu (pc2 := 283) (lv2 := [(0, .ref l0), (1, .int l1), (3, .int l3)]) (st2 := [.int l3, .int l1, .ref l0]) hm dX13_scan_282 rfl ?_
    refine sx_ic (v := 2) hm dX13_scan_283 (by decide) ?_
    replace hf := xl_el hf; obtain ⟨v36, e_v36, hf⟩ := hf
    refine mx_S.pu (pc2 := 285) (lv2 := [(0, .ref l0), (1, .int l1), (3, .int l3)]) (st2 := [.int v36, .int l1, .ref l0]) hm dX13_scan_284 (by rw [← e_v36]; rfl) ?_
    clear e_v36
    replace hf := mx_gd_el hf; obtain ⟨c37, hf⟩ := hf
    replace hf := mx_sv_el hf; obtain ⟨u38, e_u38, hf⟩ := hf
    refine sx_cv hm dX13_scan_285 rs_RX13_815 mt_X13_scanFields [.int l1, .int v36] [] (b := l0) (ci := 13) rfl rfl rfl c37 (Nat.le_of_ble_eq_true rfl) (Nat.le_of_ble_eq_true rfl) (by omega) (by omega) (f_X13_scanFields_ok X (by omega) (by omega) nn l0 l1 v36 h35 e_u38) ?_
    clear e_u38
    show mx_S X F L 502 288 [(0, .ref l0), (1, .int l1), (3, .int l3)] [.int u38.1] u38.2 0 0 (none, r, 0, 0)
    refine mx_S.pu (pc2 := 289) (lv2 := [(3, .int u38.1), (0, .ref l0), (1, .int l1)]) (st2 := []) hm dX13_scan_288 rfl ?_
    refine mx_S.pu (pc2 := 290) (lv2 := [(3, .int u38.1), (0, .ref l0), (1, .int l1)]) (st2 := [.ref l0]) hm dX13_scan_289 rfl ?_
    refine mx_S.pu (pc2 := 291) (lv2 := [(3, .int u38.1), (0, .ref l0), (1, .int l1)]) (st2 := [.int u38.1, .ref l0]) hm dX13_scan_290 rfl ?_
    replace hf := mx_gd_el hf; obtain ⟨c39, hf⟩ := hf
    replace hf := mx_sv_el hf; obtain ⟨u40, e_u40, hf⟩ := hf
    refine sx_cv hm dX13_scan_291 rs_RX13_800 mt_X13_isByte [.int u38.1] [] (b := l0) (ci := 13) rfl rfl rfl c39 (Nat.le_of_ble_eq_true rfl) (Nat.le_of_ble_eq_true rfl) (by omega) (by omega) (f_X13_isByte_ok X (by omega) (by omega) nn l0 u38.1 u38.2 e_u40) ?_
    clear e_u40
    show mx_S X F L 502 294 [(3, .int u38.1), (0, .ref l0), (1, .int l1)] [.int u40.1] u40.2 0 0 (none, r, 0, 0)
    rcases mx_if_el hf with ⟨c46, hf⟩ | ⟨c46, hf⟩
    · refine sb_if_ne hm dX13_scan_294 (tgt := 298) rfl (fun _ => ?_) (fun z => absurd c46 z)
      refine mx_S.pu (pc2 := 299) (lv2 := [(3, .int u38.1), (0, .ref l0), (1, .int l1)]) (st2 := [.ref l0]) hm dX13_scan_298 rfl ?_
      replace hf := mx_sv_el hf; obtain ⟨v41, e_v41, hf⟩ := hf
      refine sx_get hm dX13_scan_299 rs_RX13_245 (xgr_el e_v41) ?_
      clear e_v41
      refine mx_S.pu (pc2 := 303) (lv2 := [(3, .int u38.1), (0, .ref l0), (1, .int l1)]) (st2 := [.int u38.1, .ref v41]) hm dX13_scan_302 rfl ?_
      replace hf := mx_sv_el hf; obtain ⟨v42, e_v42, hf⟩ := hf
      refine sx_ald hm dX13_scan_303 e_v42 ?_
      clear e_v42
      refine sx_bi (v := 12) hm dX13_scan_304 (by decide) ?_
      rcases mx_if_el hf with ⟨c45, hf⟩ | ⟨c45, hf⟩
      · refine sb_ic_le hm dX13_scan_306 (tgt := 314) rfl (fun _ => ?_) (fun z => absurd c45 z)
        refine mx_S.ext [(0, .ref l0), (1, .int l1), (3, .int u38.1)] (mx_sub_pos [1, 2, 0] rfl (show ([3, 0, 1] : List Nat).Nodup by decide)) ?_
        exact j_X13_scan_314_ok X hF hL nn l0 l1 u38.1 u40.2 hf
      · refine sb_ic_le hm dX13_scan_306 (tgt := 314) rfl (fun z => absurd z c45) (fun _ => ?_)
        refine mx_S.pu (pc2 := 310) (lv2 := [(3, .int u38.1), (0, .ref l0), (1, .int l1)]) (st2 := [.ref l0]) hm dX13_scan_309 rfl ?_
        refine mx_S.pu (pc2 := 311) (lv2 := [(3, .int u38.1), (0, .ref l0), (1, .int l1)]) (st2 := [.int u38.1, .ref l0]) hm dX13_scan_310 rfl ?_
        replace hf := mx_gd_el hf; obtain ⟨c43, hf⟩ := hf
        replace hf := mx_sv_el hf; obtain ⟨u44, e_u44, hf⟩ := hf
        refine sx_cv hm dX13_scan_311 rs_RX13_803 mt_X13_unfit [.int u38.1] [] (b := l0) (ci := 13) rfl rfl rfl c43 (Nat.le_of_ble_eq_true rfl) (Nat.le_of_ble_eq_true rfl) (by omega) (by omega) (f_X13_unfit_ok X (by omega) (by omega) nn l0 u38.1 u40.2 e_u44) ?_
        clear e_u44
        show mx_S X F L 502 314 [(3, .int u38.1), (0, .ref l0), (1, .int l1)] [] u44 0 0 (none, r, 0, 0)
        refine mx_S.ext [(0, .ref l0), (1, .int l1), (3, .int u38.1)] (mx_sub_pos [1, 2, 0] rfl (show ([3, 0, 1] : List Nat).Nodup by decide)) ?_
        exact j_X13_scan_314_ok X hF hL nn l0 l1 u38.1 u44 hf
    · refine sb_if_ne hm dX13_scan_294 (tgt := 298) rfl (fun z => absurd z c46) (fun _ => ?_)
      cases hf
      exact sx_ret hm dX13_scan_297 rfl
  · refine sb_if_ne hm dX13_scan_250 (tgt := 254) rfl (fun z => absurd z c47) (fun _ => ?_)
    cases hf
    exact sx_ret hm dX13_scan_253 rfl
set_option maxHeartbeats 4000000 in
set_option maxRecDepth 20000 in
theorem j_X13_scan_210_ok (X : Nat × (Nat → Int32)) {F L : Nat} (hF : 9 ≤ F) (hL : 214 ≤ L) (nn : Nat) (l0 : Nat) (l1 : Int32) (l3 : Int32) (h : mx_H) {r : mx_H} (hf : j_X13_scan_210 nn l0 l1 l3 h = some r) : mx_S X F L 502 210 [(0, .ref l0), (1, .int l1), (3, .int l3)] [] h 0 0 (none, r, 0, 0) := by
  have hm : mx_mt 502 = some (yX13_scan, cX13_scan, 5, none) := mt_X13_scan
  unfold j_X13_scan_210 at hf
  refine mx_S.pu (pc2 := 211) (lv2 := [(0, .ref l0), (1, .int l1), (3, .int l3)]) (st2 := [.ref l0]) hm dX13_scan_210 rfl ?_
  refine mx_S.pu (pc2 := 212) (lv2 := [(0, .ref l0), (1, .int l1), (3, .int l3)]) (st2 := [.int l3, .ref l0]) hm dX13_scan_211 rfl ?_
  refine sx_ic (v := 1) hm dX13_scan_212 (by decide) ?_
  replace hf := xl_el hf; obtain ⟨v48, e_v48, hf⟩ := hf
  refine mx_S.pu (pc2 := 214) (lv2 := [(0, .ref l0), (1, .int l1), (3, .int l3)]) (st2 := [.int v48, .ref l0]) hm dX13_scan_213 (by rw [← e_v48]; rfl) ?_
  clear e_v48
  replace hf := mx_gd_el hf; obtain ⟨c49, hf⟩ := hf
  replace hf := mx_sv_el hf; obtain ⟨u50, e_u50, hf⟩ := hf
  refine sx_cv hm dX13_scan_214 rs_RX13_800 mt_X13_isByte [.int v48] [] (b := l0) (ci := 13) rfl rfl rfl c49 (Nat.le_of_ble_eq_true rfl) (Nat.le_of_ble_eq_true rfl) (by omega) (by omega) (f_X13_isByte_ok X (by omega) (by omega) nn l0 v48 h e_u50) ?_
  clear e_u50
  show mx_S X F L 502 217 [(0, .ref l0), (1, .int l1), (3, .int l3)] [.int u50.1] u50.2 0 0 (none, r, 0, 0)
  rcases mx_if_el hf with ⟨c60, hf⟩ | ⟨c60, hf⟩
  · refine sb_if_eq hm dX13_scan_217 (tgt := 243) rfl (fun _ => ?_) (fun z => absurd c60 z)
    exact j_X13_scan_243_ok X hF hL nn l0 l1 l3 u50.2 hf
  · refine sb_if_eq hm dX13_scan_217 (tgt := 243) rfl (fun z => absurd z c60) (fun _ => ?_)
    refine mx_S.pu (pc2 := 221) (lv2 := [(0, .ref l0), (1, .int l1), (3, .int l3)]) (st2 := [.ref l0]) hm dX13_scan_220 rfl ?_
    refine mx_S.pu (pc2 := 222) (lv2 := [(0, .ref l0), (1, .int l1), (3, .int l3)]) (st2 := [.ref l0, .ref l0]) hm dX13_scan_221 rfl ?_
    replace hf := mx_sv_el hf; obtain ⟨v51, e_v51, hf⟩ := hf
    refine sx_get hm dX13_scan_222 rs_RX13_245 (xgr_el e_v51) ?_
    clear e_v51
    refine mx_S.pu (pc2 := 226) (lv2 := [(0, .ref l0), (1, .int l1), (3, .int l3)]) (st2 := [.int l3, .ref v51, .ref l0]) hm dX13_scan_225 rfl ?_
    refine sx_ic (v := 1) hm dX13_scan_226 (by decide) ?_
    replace hf := xl_el hf; obtain ⟨v52, e_v52, hf⟩ := hf
    refine mx_S.pu (pc2 := 228) (lv2 := [(0, .ref l0), (1, .int l1), (3, .int l3)]) (st2 := [.int v52, .ref v51, .ref l0]) hm dX13_scan_227 (by rw [← e_v52]; rfl) ?_
    clear e_v52
    replace hf := mx_sv_el hf; obtain ⟨v53, e_v53, hf⟩ := hf
    refine sx_ald hm dX13_scan_228 e_v53 ?_
    clear e_v53
    refine sx_ic (v := 0) hm dX13_scan_229 (by decide) ?_
    replace hf := mx_gd_el hf; obtain ⟨c54, hf⟩ := hf
    replace hf := mx_sv_el hf; obtain ⟨u55, e_u55, hf⟩ := hf
    refine sx_cv hm dX13_scan_230 rs_RX13_812 mt_X13_isClassConstant [.int v53, .int 0] [] (b := l0) (ci := 13) rfl rfl rfl c54 (Nat.le_of_ble_eq_true rfl) (Nat.le_of_ble_eq_true rfl) (by omega) (by omega) (f_X13_isClassConstant_ok X (by omega) (by omega) nn l0 v53 0 u50.2 e_u55) ?_
    clear e_u55
    show mx_S X F L 502 233 [(0, .ref l0), (1, .int l1), (3, .int l3)] [.int u55.1] u55.2 0 0 (none, r, 0, 0)
    rcases mx_if_el hf with ⟨c59, hf⟩ | ⟨c59, hf⟩
    · refine sb_if_ne hm dX13_scan_233 (tgt := 243) rfl (fun _ => ?_) (fun z => absurd c59 z)
      exact j_X13_scan_243_ok X hF hL nn l0 l1 l3 u55.2 hf
    · refine sb_if_ne hm dX13_scan_233 (tgt := 243) rfl (fun z => absurd z c59) (fun _ => ?_)
      refine mx_S.pu (pc2 := 237) (lv2 := [(0, .ref l0), (1, .int l1), (3, .int l3)]) (st2 := [.ref l0]) hm dX13_scan_236 rfl ?_
      refine mx_S.pu (pc2 := 238) (lv2 := [(0, .ref l0), (1, .int l1), (3, .int l3)]) (st2 := [.int l3, .ref l0]) hm dX13_scan_237 rfl ?_
      refine sx_ic (v := 1) hm dX13_scan_238 (by decide) ?_
      replace hf := xl_el hf; obtain ⟨v56, e_v56, hf⟩ := hf
      refine mx_S.pu (pc2 := 240) (lv2 := [(0, .ref l0), (1, .int l1), (3, .int l3)]) (st2 := [.int v56, .ref l0]) hm dX13_scan_239 (by rw [← e_v56]; rfl) ?_
      clear e_v56
      replace hf := mx_gd_el hf; obtain ⟨c57, hf⟩ := hf
      replace hf := mx_sv_el hf; obtain ⟨u58, e_u58, hf⟩ := hf
      refine sx_cv hm dX13_scan_240 rs_RX13_803 mt_X13_unfit [.int v56] [] (b := l0) (ci := 13) rfl rfl rfl c57 (Nat.le_of_ble_eq_true rfl) (Nat.le_of_ble_eq_true rfl) (by omega) (by omega) (f_X13_unfit_ok X (by omega) (by omega) nn l0 v56 u55.2 e_u58) ?_
      clear e_u58
      show mx_S X F L 502 243 [(0, .ref l0), (1, .int l1), (3, .int l3)] [] u58 0 0 (none, r, 0, 0)
      exact j_X13_scan_243_ok X hF hL nn l0 l1 l3 u58 hf
set_option maxHeartbeats 4000000 in
set_option maxRecDepth 20000 in
theorem j_X13_scan_183_ok (X : Nat × (Nat → Int32)) {F L : Nat} (hF : 9 ≤ F) (hL : 214 ≤ L) (nn : Nat) (l0 : Nat) (l1 : Int32) (l3 : Int32) (h : mx_H) {r : mx_H} (hf : j_X13_scan_183 nn l0 l1 l3 h = some r) : mx_S X F L 502 183 [(0, .ref l0), (1, .int l1), (3, .int l3)] [] h 0 0 (none, r, 0, 0) := by
  have hm : mx_mt 502 = some (yX13_scan, cX13_scan, 5, none) := mt_X13_scan
  unfold j_X13_scan_183 at hf
  refine mx_S.pu (pc2 := 184) (lv2 := [(0, .ref l0), (1, .int l1), (3, .int l3)]) (st2 := [.ref l0]) hm dX13_scan_183 rfl ?_
  refine mx_S.pu (pc2 := 185) (lv2 := [(0, .ref l0), (1, .int l1), (3, .int l3)]) (st2 := [.int l3, .ref l0]) hm dX13_scan_184 rfl ?_
  replace hf := mx_gd_el hf; obtain ⟨c61, hf⟩ := hf
  replace hf := mx_sv_el hf; obtain ⟨u62, e_u62, hf⟩ := hf
  refine sx_cv hm dX13_scan_185 rs_RX13_800 mt_X13_isByte [.int l3] [] (b := l0) (ci := 13) rfl rfl rfl c61 (Nat.le_of_ble_eq_true rfl) (Nat.le_of_ble_eq_true rfl) (by omega) (by omega) (f_X13_isByte_ok X (by omega) (by omega) nn l0 l3 h e_u62) ?_
  clear e_u62
  show mx_S X F L 502 188 [(0, .ref l0), (1, .int l1), (3, .int l3)] [.int u62.1] u62.2 0 0 (none, r, 0, 0)
  rcases mx_if_el hf with ⟨c70, hf⟩ | ⟨c70, hf⟩
  · refine sb_if_eq hm dX13_scan_188 (tgt := 210) rfl (fun _ => ?_) (fun z => absurd c70 z)
    exact j_X13_scan_210_ok X hF hL nn l0 l1 l3 u62.2 hf
  · refine sb_if_eq hm dX13_scan_188 (tgt := 210) rfl (fun z => absurd z c70) (fun _ => ?_)
    refine mx_S.pu (pc2 := 192) (lv2 := [(0, .ref l0), (1, .int l1), (3, .int l3)]) (st2 := [.ref l0]) hm dX13_scan_191 rfl ?_
    refine mx_S.pu (pc2 := 193) (lv2 := [(0, .ref l0), (1, .int l1), (3, .int l3)]) (st2 := [.ref l0, .ref l0]) hm dX13_scan_192 rfl ?_
    replace hf := mx_sv_el hf; obtain ⟨v63, e_v63, hf⟩ := hf
    refine sx_get hm dX13_scan_193 rs_RX13_245 (xgr_el e_v63) ?_
    clear e_v63
    refine mx_S.pu (pc2 := 197) (lv2 := [(0, .ref l0), (1, .int l1), (3, .int l3)]) (st2 := [.int l3, .ref v63, .ref l0]) hm dX13_scan_196 rfl ?_
    replace hf := mx_sv_el hf; obtain ⟨v64, e_v64, hf⟩ := hf
    refine sx_ald hm dX13_scan_197 e_v64 ?_
    clear e_v64
    refine sx_ic (v := 0) hm dX13_scan_198 (by decide) ?_
    replace hf := mx_gd_el hf; obtain ⟨c65, hf⟩ := hf
    replace hf := mx_sv_el hf; obtain ⟨u66, e_u66, hf⟩ := hf
    refine sx_cv hm dX13_scan_199 rs_RX13_812 mt_X13_isClassConstant [.int v64, .int 0] [] (b := l0) (ci := 13) rfl rfl rfl c65 (Nat.le_of_ble_eq_true rfl) (Nat.le_of_ble_eq_true rfl) (by omega) (by omega) (f_X13_isClassConstant_ok X (by omega) (by omega) nn l0 v64 0 u62.2 e_u66) ?_
    clear e_u66
    show mx_S X F L 502 202 [(0, .ref l0), (1, .int l1), (3, .int l3)] [.int u66.1] u66.2 0 0 (none, r, 0, 0)
    rcases mx_if_el hf with ⟨c69, hf⟩ | ⟨c69, hf⟩
    · refine sb_if_ne hm dX13_scan_202 (tgt := 210) rfl (fun _ => ?_) (fun z => absurd c69 z)
      exact j_X13_scan_210_ok X hF hL nn l0 l1 l3 u66.2 hf
    · refine sb_if_ne hm dX13_scan_202 (tgt := 210) rfl (fun z => absurd z c69) (fun _ => ?_)
      refine mx_S.pu (pc2 := 206) (lv2 := [(0, .ref l0), (1, .int l1), (3, .int l3)]) (st2 := [.ref l0]) hm dX13_scan_205 rfl ?_
      refine mx_S.pu (pc2 := 207) (lv2 := [(0, .ref l0), (1, .int l1), (3, .int l3)]) (st2 := [.int l3, .ref l0]) hm dX13_scan_206 rfl ?_
      replace hf := mx_gd_el hf; obtain ⟨c67, hf⟩ := hf
      replace hf := mx_sv_el hf; obtain ⟨u68, e_u68, hf⟩ := hf
      refine sx_cv hm dX13_scan_207 rs_RX13_803 mt_X13_unfit [.int l3] [] (b := l0) (ci := 13) rfl rfl rfl c67 (Nat.le_of_ble_eq_true rfl) (Nat.le_of_ble_eq_true rfl) (by omega) (by omega) (f_X13_unfit_ok X (by omega) (by omega) nn l0 l3 u66.2 e_u68) ?_
      clear e_u68
      show mx_S X F L 502 210 [(0, .ref l0), (1, .int l1), (3, .int l3)] [] u68 0 0 (none, r, 0, 0)
      exact j_X13_scan_210_ok X hF hL nn l0 l1 l3 u68 hf
set_option maxHeartbeats 4000000 in
set_option maxRecDepth 20000 in
theorem w_X13_scan_146_ok (X : Nat × (Nat → Int32)) {F L : Nat} (hF : 9 ≤ F) (hL : 214 ≤ L) (nn : Nat) : ∀ (k : Nat) (l0 : Nat) (l1 : Int32) (l2 : Int32) (l3 : Int32) (l4 : Int32) (h : mx_H) (r : mx_H), w_X13_scan_146 nn k l0 l1 l2 l3 l4 h = some r → mx_S X F L 502 146 [(0, .ref l0), (1, .int l1), (2, .int l2), (3, .int l3), (4, .int l4)] [] h 0 0 (none, r, 0, 0) := by
  have hm : mx_mt 502 = some (yX13_scan, cX13_scan, 5, none) := mt_X13_scan
  intro k
  induction k with
  | zero => intro l0 l1 l2 l3 l4 h r hf; cases hf
  | succ k ih =>
    intro l0 l1 l2 l3 l4 h r hf
    unfold w_X13_scan_146 at hf
    refine mx_S.pu (pc2 := 148) (lv2 := [(0, .ref l0), (1, .int l1), (2, .int l2), (3, .int l3), (4, .int l4)]) (st2 := [.int l4]) hm dX13_scan_146 rfl ?_
    refine mx_S.pu (pc2 := 149) (lv2 := [(0, .ref l0), (1, .int l1), (2, .int l2), (3, .int l3), (4, .int l4)]) (st2 := [.int l2, .int l4]) hm dX13_scan_148 rfl ?_
    rcases mx_if_el hf with ⟨c80, hf⟩ | ⟨c80, hf⟩
    · refine sb_ic_gt hm dX13_scan_149 (tgt := 183) rfl (fun _ => ?_) (fun z => absurd c80 z)
      refine mx_S.ext [(0, .ref l0), (1, .int l1), (3, .int l3)] (mx_sub_pos [0, 1, 3] rfl (show ([0, 1, 2, 3, 4] : List Nat).Nodup by decide)) ?_
      exact j_X13_scan_183_ok X hF hL nn l0 l1 l3 h hf
    · refine sb_ic_gt hm dX13_scan_149 (tgt := 183) rfl (fun z => absurd z c80) (fun _ => ?_)
      refine mx_S.pu (pc2 := 153) (lv2 := [(0, .ref l0), (1, .int l1), (2, .int l2), (3, .int l3), (4, .int l4)]) (st2 := [.ref l0]) hm dX13_scan_152 rfl ?_
      replace hf := mx_sv_el hf; obtain ⟨v71, e_v71, hf⟩ := hf
      refine sx_get hm dX13_scan_153 rs_RX13_764 (xgi_el e_v71) ?_
      clear e_v71
      refine sx_ic (v := (-1)) hm dX13_scan_156 (by decide) ?_
      rcases mx_if_el hf with ⟨c79, hf⟩ | ⟨c79, hf⟩
      · refine sb_ic_ne hm dX13_scan_157 (tgt := 183) rfl (fun _ => ?_) (fun z => absurd c79 z)
        refine mx_S.ext [(0, .ref l0), (1, .int l1), (3, .int l3)] (mx_sub_pos [0, 1, 3] rfl (show ([0, 1, 2, 3, 4] : List Nat).Nodup by decide)) ?_
        exact j_X13_scan_183_ok X hF hL nn l0 l1 l3 h hf
      · refine sb_ic_ne hm dX13_scan_157 (tgt := 183) rfl (fun z => absurd z c79) (fun _ => ?_)
        refine mx_S.pu (pc2 := 161) (lv2 := [(0, .ref l0), (1, .int l1), (2, .int l2), (3, .int l3), (4, .int l4)]) (st2 := [.ref l0]) hm dX13_scan_160 rfl ?_
        refine mx_S.pu (pc2 := 162) (lv2 := [(0, .ref l0), (1, .int l1), (2, .int l2), (3, .int l3), (4, .int l4)]) (st2 := [.ref l0, .ref l0]) hm dX13_scan_161 rfl ?_
        replace hf := mx_sv_el hf; obtain ⟨v72, e_v72, hf⟩ := hf
        refine sx_get hm dX13_scan_162 rs_RX13_215 (xgr_el e_v72) ?_
        clear e_v72
        refine sx_si (v := 256) hm dX13_scan_165 (by decide) ?_
        refine mx_S.pu (pc2 := 169) (lv2 := [(0, .ref l0), (1, .int l1), (2, .int l2), (3, .int l3), (4, .int l4)]) (st2 := [.int l1, .int 256, .ref v72, .ref l0]) hm dX13_scan_168 rfl ?_
        replace hf := xl_el hf; obtain ⟨v73, e_v73, hf⟩ := hf
        refine mx_S.pu (pc2 := 170) (lv2 := [(0, .ref l0), (1, .int l1), (2, .int l2), (3, .int l3), (4, .int l4)]) (st2 := [.int v73, .ref v72, .ref l0]) hm dX13_scan_169 (by rw [← e_v73]; rfl) ?_
        clear e_v73
        refine mx_S.pu (pc2 := 172) (lv2 := [(0, .ref l0), (1, .int l1), (2, .int l2), (3, .int l3), (4, .int l4)]) (st2 := [.int l4, .int v73, .ref v72, .ref l0]) hm dX13_scan_170 rfl ?_
        replace hf := xl_el hf; obtain ⟨v74, e_v74, hf⟩ := hf
        refine mx_S.pu (pc2 := 173) (lv2 := [(0, .ref l0), (1, .int l1), (2, .int l2), (3, .int l3), (4, .int l4)]) (st2 := [.int v74, .ref v72, .ref l0]) hm dX13_scan_172 (by rw [← e_v74]; rfl) ?_
        clear e_v74
        replace hf := mx_sv_el hf; obtain ⟨v75, e_v75, hf⟩ := hf
        refine sx_ald hm dX13_scan_173 e_v75 ?_
        clear e_v75
        replace hf := mx_gd_el hf; obtain ⟨c76, hf⟩ := hf
        replace hf := mx_sv_el hf; obtain ⟨u77, e_u77, hf⟩ := hf
        refine sx_cv hm dX13_scan_174 rs_RX13_809 mt_X13_checkConstant [.int v75] [] (b := l0) (ci := 13) rfl rfl rfl c76 (Nat.le_of_ble_eq_true rfl) (Nat.le_of_ble_eq_true rfl) (by omega) (by omega) (f_X13_checkConstant_ok X (by omega) (by omega) nn l0 v75 h e_u77) ?_
        clear e_u77
        show mx_S X F L 502 177 [(0, .ref l0), (1, .int l1), (2, .int l2), (3, .int l3), (4, .int l4)] [] u77 0 0 (none, r, 0, 0)
        replace hf := xl_el hf; obtain ⟨v78, e_v78, hf⟩ := hf
        refine mx_S.pu (pc2 := 180) (lv2 := [(4, .int v78), (0, .ref l0), (1, .int l1), (2, .int l2), (3, .int l3)]) (st2 := []) hm dX13_scan_177 (by rw [← e_v78]; rfl) ?_
        clear e_v78
        refine mx_S.pu (pc2 := 146) (lv2 := [(4, .int v78), (0, .ref l0), (1, .int l1), (2, .int l2), (3, .int l3)]) (st2 := []) hm dX13_scan_180 rfl ?_
        refine mx_S.ext [(0, .ref l0), (1, .int l1), (2, .int l2), (3, .int l3), (4, .int v78)] (mx_sub_pos [1, 2, 3, 4, 0] rfl (show ([4, 0, 1, 2, 3] : List Nat).Nodup by decide)) ?_
        exact ih l0 l1 l2 l3 v78 u77 _ hf
set_option maxHeartbeats 4000000 in
set_option maxRecDepth 20000 in
theorem w_X13_scan_86_ok (X : Nat × (Nat → Int32)) {F L : Nat} (hF : 9 ≤ F) (hL : 214 ≤ L) (nn : Nat) : ∀ (k : Nat) (l0 : Nat) (l1 : Int32) (l2 : Int32) (l3 : Int32) (l4 : Int32) (h : mx_H) (r : mx_H), w_X13_scan_86 nn k l0 l1 l2 l3 l4 h = some r → mx_S X F L 502 86 [(0, .ref l0), (1, .int l1), (2, .int l2), (3, .int l3), (4, .int l4)] [] h 0 0 (none, r, 0, 0) := by
  have hm : mx_mt 502 = some (yX13_scan, cX13_scan, 5, none) := mt_X13_scan
  intro k
  induction k with
  | zero => intro l0 l1 l2 l3 l4 h r hf; cases hf
  | succ k ih =>
    intro l0 l1 l2 l3 l4 h r hf
    unfold w_X13_scan_86 at hf
    refine mx_S.pu (pc2 := 88) (lv2 := [(0, .ref l0), (1, .int l1), (2, .int l2), (3, .int l3), (4, .int l4)]) (st2 := [.int l4]) hm dX13_scan_86 rfl ?_
    refine mx_S.pu (pc2 := 89) (lv2 := [(0, .ref l0), (1, .int l1), (2, .int l2), (3, .int l3), (4, .int l4)]) (st2 := [.int l2, .int l4]) hm dX13_scan_88 rfl ?_
    rcases mx_if_el hf with ⟨c95, hf⟩ | ⟨c95, hf⟩
    · refine sb_ic_gt hm dX13_scan_89 (tgt := 143) rfl (fun _ => ?_) (fun z => absurd c95 z)
      refine sx_ic (v := 1) hm dX13_scan_143 (by decide) ?_
      refine mx_S.pu (pc2 := 146) (lv2 := [(4, .int 1), (0, .ref l0), (1, .int l1), (2, .int l2), (3, .int l3)]) (st2 := []) hm dX13_scan_144 rfl ?_
      refine mx_S.ext [(0, .ref l0), (1, .int l1), (2, .int l2), (3, .int l3), (4, .int 1)] (mx_sub_pos [1, 2, 3, 4, 0] rfl (show ([4, 0, 1, 2, 3] : List Nat).Nodup by decide)) ?_
      exact w_X13_scan_146_ok X hF hL nn nn l0 l1 l2 l3 1 h _ hf
    · refine sb_ic_gt hm dX13_scan_89 (tgt := 143) rfl (fun z => absurd z c95) (fun _ => ?_)
      refine mx_S.pu (pc2 := 93) (lv2 := [(0, .ref l0), (1, .int l1), (2, .int l2), (3, .int l3), (4, .int l4)]) (st2 := [.ref l0]) hm dX13_scan_92 rfl ?_
      replace hf := mx_sv_el hf; obtain ⟨v81, e_v81, hf⟩ := hf
      refine sx_get hm dX13_scan_93 rs_RX13_764 (xgi_el e_v81) ?_
      clear e_v81
      refine sx_ic (v := (-1)) hm dX13_scan_96 (by decide) ?_
      rcases mx_if_el hf with ⟨c94, hf⟩ | ⟨c94, hf⟩
      · refine sb_ic_ne hm dX13_scan_97 (tgt := 143) rfl (fun _ => ?_) (fun z => absurd c94 z)
        refine sx_ic (v := 1) hm dX13_scan_143 (by decide) ?_
        refine mx_S.pu (pc2 := 146) (lv2 := [(4, .int 1), (0, .ref l0), (1, .int l1), (2, .int l2), (3, .int l3)]) (st2 := []) hm dX13_scan_144 rfl ?_
        refine mx_S.ext [(0, .ref l0), (1, .int l1), (2, .int l2), (3, .int l3), (4, .int 1)] (mx_sub_pos [1, 2, 3, 4, 0] rfl (show ([4, 0, 1, 2, 3] : List Nat).Nodup by decide)) ?_
        exact w_X13_scan_146_ok X hF hL nn nn l0 l1 l2 l3 1 h _ hf
      · refine sb_ic_ne hm dX13_scan_97 (tgt := 143) rfl (fun z => absurd z c94) (fun _ => ?_)
        refine mx_S.pu (pc2 := 101) (lv2 := [(0, .ref l0), (1, .int l1), (2, .int l2), (3, .int l3), (4, .int l4)]) (st2 := [.ref l0]) hm dX13_scan_100 rfl ?_
        refine mx_S.pu (pc2 := 102) (lv2 := [(0, .ref l0), (1, .int l1), (2, .int l2), (3, .int l3), (4, .int l4)]) (st2 := [.int l3, .ref l0]) hm dX13_scan_101 rfl ?_
        replace hf := mx_gd_el hf; obtain ⟨c82, hf⟩ := hf
        replace hf := mx_sv_el hf; obtain ⟨u83, e_u83, hf⟩ := hf
        refine sx_cv hm dX13_scan_102 rs_RX13_800 mt_X13_isByte [.int l3] [] (b := l0) (ci := 13) rfl rfl rfl c82 (Nat.le_of_ble_eq_true rfl) (Nat.le_of_ble_eq_true rfl) (by omega) (by omega) (f_X13_isByte_ok X (by omega) (by omega) nn l0 l3 h e_u83) ?_
        clear e_u83
        show mx_S X F L 502 105 [(0, .ref l0), (1, .int l1), (2, .int l2), (3, .int l3), (4, .int l4)] [.int u83.1] u83.2 0 0 (none, r, 0, 0)
        rcases mx_if_el hf with ⟨c93, hf⟩ | ⟨c93, hf⟩
        · refine sb_if_ne hm dX13_scan_105 (tgt := 109) rfl (fun _ => ?_) (fun z => absurd c93 z)
          refine mx_S.pu (pc2 := 110) (lv2 := [(0, .ref l0), (1, .int l1), (2, .int l2), (3, .int l3), (4, .int l4)]) (st2 := [.ref l0]) hm dX13_scan_109 rfl ?_
          replace hf := mx_sv_el hf; obtain ⟨v84, e_v84, hf⟩ := hf
          refine sx_get hm dX13_scan_110 rs_RX13_215 (xgr_el e_v84) ?_
          clear e_v84
          refine sx_si (v := 256) hm dX13_scan_113 (by decide) ?_
          refine mx_S.pu (pc2 := 117) (lv2 := [(0, .ref l0), (1, .int l1), (2, .int l2), (3, .int l3), (4, .int l4)]) (st2 := [.int l1, .int 256, .ref v84]) hm dX13_scan_116 rfl ?_
          replace hf := xl_el hf; obtain ⟨v85, e_v85, hf⟩ := hf
          refine mx_S.pu (pc2 := 118) (lv2 := [(0, .ref l0), (1, .int l1), (2, .int l2), (3, .int l3), (4, .int l4)]) (st2 := [.int v85, .ref v84]) hm dX13_scan_117 (by rw [← e_v85]; rfl) ?_
          clear e_v85
          refine mx_S.pu (pc2 := 120) (lv2 := [(0, .ref l0), (1, .int l1), (2, .int l2), (3, .int l3), (4, .int l4)]) (st2 := [.int l4, .int v85, .ref v84]) hm dX13_scan_118 rfl ?_
          replace hf := xl_el hf; obtain ⟨v86, e_v86, hf⟩ := hf
          refine mx_S.pu (pc2 := 121) (lv2 := [(0, .ref l0), (1, .int l1), (2, .int l2), (3, .int l3), (4, .int l4)]) (st2 := [.int v86, .ref v84]) hm dX13_scan_120 (by rw [← e_v86]; rfl) ?_
          clear e_v86
          refine mx_S.pu (pc2 := 122) (lv2 := [(0, .ref l0), (1, .int l1), (2, .int l2), (3, .int l3), (4, .int l4)]) (st2 := [.int l3, .int v86, .ref v84]) hm dX13_scan_121 rfl ?_
          replace hf := mx_sv_el hf; obtain ⟨h87, e_h87, hf⟩ := hf
          refine sx_ast hm dX13_scan_122 e_h87 ?_
          clear e_h87
          refine mx_S.pu (pc2 := 124) (lv2 := [(0, .ref l0), (1, .int l1), (2, .int l2), (3, .int l3), (4, .int l4)]) (st2 := [.ref l0]) hm dX13_scan_123 rfl ?_
          replace hf := mx_sv_el hf; obtain ⟨v88, e_v88, hf⟩ := hf
          refine sx_get hm dX13_scan_124 rs_RX13_218 (xgr_el e_v88) ?_
          clear e_v88
          refine mx_S.pu (pc2 := 128) (lv2 := [(0, .ref l0), (1, .int l1), (2, .int l2), (3, .int l3), (4, .int l4)]) (st2 := [.int l1, .ref v88]) hm dX13_scan_127 rfl ?_
          refine mx_S.pu (pc2 := 130) (lv2 := [(0, .ref l0), (1, .int l1), (2, .int l2), (3, .int l3), (4, .int l4)]) (st2 := [.int l4, .int l1, .ref v88]) hm dX13_scan_128 rfl ?_
          replace hf := mx_sv_el hf; obtain ⟨h89, e_h89, hf⟩ := hf
          refine sx_ast hm dX13_scan_130 e_h89 ?_
          clear e_h89
          refine mx_S.pu (pc2 := 132) (lv2 := [(0, .ref l0), (1, .int l1), (2, .int l2), (3, .int l3), (4, .int l4)]) (st2 := [.ref l0]) hm dX13_scan_131 rfl ?_
          refine mx_S.pu (pc2 := 133) (lv2 := [(0, .ref l0), (1, .int l1), (2, .int l2), (3, .int l3), (4, .int l4)]) (st2 := [.int l3, .ref l0]) hm dX13_scan_132 rfl ?_
          replace hf := mx_gd_el hf; obtain ⟨c90, hf⟩ := hf
          replace hf := mx_sv_el hf; obtain ⟨u91, e_u91, hf⟩ := hf
          refine sx_cv hm dX13_scan_133 rs_RX13_806 mt_X13_scanConstant [.int l3] [] (b := l0) (ci := 13) rfl rfl rfl c90 (Nat.le_of_ble_eq_true rfl) (Nat.le_of_ble_eq_true rfl) (by omega) (by omega) (f_X13_scanConstant_ok X (by omega) (by omega) nn l0 l3 h89 e_u91) ?_
          clear e_u91
          show mx_S X F L 502 136 [(0, .ref l0), (1, .int l1), (2, .int l2), (3, .int l3), (4, .int l4)] [.int u91.1] u91.2 0 0 (none, r, 0, 0)
          refine mx_S.pu (pc2 := 137) (lv2 := [(3, .int u91.1), (0, .ref l0), (1, .int l1), (2, .int l2), (4, .int l4)]) (st2 := []) hm dX13_scan_136 rfl ?_
          replace hf := xl_el hf; obtain ⟨v92, e_v92, hf⟩ := hf
          refine mx_S.pu (pc2 := 140) (lv2 := [(4, .int v92), (3, .int u91.1), (0, .ref l0), (1, .int l1), (2, .int l2)]) (st2 := []) hm dX13_scan_137 (by rw [← e_v92]; rfl) ?_
          clear e_v92
          refine mx_S.pu (pc2 := 86) (lv2 := [(4, .int v92), (3, .int u91.1), (0, .ref l0), (1, .int l1), (2, .int l2)]) (st2 := []) hm dX13_scan_140 rfl ?_
          refine mx_S.ext [(0, .ref l0), (1, .int l1), (2, .int l2), (3, .int u91.1), (4, .int v92)] (mx_sub_pos [2, 3, 4, 1, 0] rfl (show ([4, 3, 0, 1, 2] : List Nat).Nodup by decide)) ?_
          exact ih l0 l1 l2 u91.1 v92 u91.2 _ hf
        · refine sb_if_ne hm dX13_scan_105 (tgt := 109) rfl (fun z => absurd z c93) (fun _ => ?_)
          cases hf
          exact sx_ret hm dX13_scan_108 rfl
